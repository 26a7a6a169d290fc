section
-- ===== PART A: goes FIRST, ahead of the names: the tables' words, and 'selects' of the private methods out of them =====
/-- a private method of a class that the tables say can be made, by its rows of tables_1 -/
def lw_okq (q : MethodName × Nat) : Prop := (q.1.cls ≠ "java/lang/invoke/MethodHandle" ∧ q.1.cls ≠ "java/lang/invoke/VarHandle") ∧ Cond.instantiable q.1.cls q.2 ∈ tables_1 ∧ Cond.privateMethod q.1 ∈ tables_1 ∧ Cond.instanceMethod q.1 ∈ tables_1
theorem lw_p0 : lw_okq (⟨"ClashFree", "slot", "(I)LClashFree$Table;"⟩, 7) := ⟨⟨by decide +kernel, by decide +kernel⟩, List.mem_of_getElem? (i := 20) (by decide +kernel), List.mem_of_getElem? (i := 351) (by decide +kernel), List.mem_of_getElem? (i := 352) (by decide +kernel)⟩
theorem lw_p1 : lw_okq (⟨"ClashFree$Layout", "sweep", "()V"⟩, 13) := ⟨⟨by decide +kernel, by decide +kernel⟩, List.mem_of_getElem? (i := 68) (by decide +kernel), List.mem_of_getElem? (i := 471) (by decide +kernel), List.mem_of_getElem? (i := 472) (by decide +kernel)⟩
theorem lw_p2 : lw_okq (⟨"ClashFree", "tableAt", "(I)LClashFree$Table;"⟩, 7) := ⟨⟨by decide +kernel, by decide +kernel⟩, List.mem_of_getElem? (i := 20) (by decide +kernel), List.mem_of_getElem? (i := 506) (by decide +kernel), List.mem_of_getElem? (i := 507) (by decide +kernel)⟩
theorem lw_p3 : lw_okq (⟨"ClashFree$Paper", "clashesOf", "(LClashFree$Table;IIII)I"⟩, 3) := ⟨⟨by decide +kernel, by decide +kernel⟩, List.mem_of_getElem? (i := 30) (by decide +kernel), List.mem_of_getElem? (i := 730) (by decide +kernel), List.mem_of_getElem? (i := 731) (by decide +kernel)⟩
theorem lw_p4 : lw_okq (⟨"ClashFree$Parser", "note", "(II)V"⟩, 15) := ⟨⟨by decide +kernel, by decide +kernel⟩, List.mem_of_getElem? (i := 162) (by decide +kernel), List.mem_of_getElem? (i := 811) (by decide +kernel), List.mem_of_getElem? (i := 812) (by decide +kernel)⟩
theorem lw_p5 : lw_okq (⟨"ClashFree$Scanner", "byteAt", "(I)I"⟩, 7) := ⟨⟨by decide +kernel, by decide +kernel⟩, List.mem_of_getElem? (i := 192) (by decide +kernel), List.mem_of_getElem? (i := 824) (by decide +kernel), List.mem_of_getElem? (i := 825) (by decide +kernel)⟩
theorem lw_p6 : lw_okq (⟨"ClashFree$Scanner", "takeNumber", "()V"⟩, 7) := ⟨⟨by decide +kernel, by decide +kernel⟩, List.mem_of_getElem? (i := 192) (by decide +kernel), List.mem_of_getElem? (i := 834) (by decide +kernel), List.mem_of_getElem? (i := 835) (by decide +kernel)⟩
theorem lw_p7 : lw_okq (⟨"ClashFree$Scanner", "takeWord", "()V"⟩, 7) := ⟨⟨by decide +kernel, by decide +kernel⟩, List.mem_of_getElem? (i := 192) (by decide +kernel), List.mem_of_getElem? (i := 838) (by decide +kernel), List.mem_of_getElem? (i := 839) (by decide +kernel)⟩
theorem lw_p8 : lw_okq (⟨"ClashFree$Scanner", "wordKind", "()I"⟩, 7) := ⟨⟨by decide +kernel, by decide +kernel⟩, List.mem_of_getElem? (i := 192) (by decide +kernel), List.mem_of_getElem? (i := 842) (by decide +kernel), List.mem_of_getElem? (i := 843) (by decide +kernel)⟩
theorem lw_p9 : lw_okq (⟨"ClashFree$Scanner", "is", "(Ljava/lang/String;)Z"⟩, 7) := ⟨⟨by decide +kernel, by decide +kernel⟩, List.mem_of_getElem? (i := 192) (by decide +kernel), List.mem_of_getElem? (i := 847) (by decide +kernel), List.mem_of_getElem? (i := 848) (by decide +kernel)⟩
theorem lw_p10 : lw_okq (⟨"ClashFree$Scanner", "takeSign", "(I)V"⟩, 7) := ⟨⟨by decide +kernel, by decide +kernel⟩, List.mem_of_getElem? (i := 192) (by decide +kernel), List.mem_of_getElem? (i := 907) (by decide +kernel), List.mem_of_getElem? (i := 908) (by decide +kernel)⟩
theorem lw_p11 : lw_okq (⟨"ClashFree$Parser", "accept", "(I)V"⟩, 15) := ⟨⟨by decide +kernel, by decide +kernel⟩, List.mem_of_getElem? (i := 162) (by decide +kernel), List.mem_of_getElem? (i := 911) (by decide +kernel), List.mem_of_getElem? (i := 912) (by decide +kernel)⟩
theorem lw_p12 : lw_okq (⟨"ClashFree$Parser", "acceptStatement", "(I)V"⟩, 15) := ⟨⟨by decide +kernel, by decide +kernel⟩, List.mem_of_getElem? (i := 162) (by decide +kernel), List.mem_of_getElem? (i := 915) (by decide +kernel), List.mem_of_getElem? (i := 916) (by decide +kernel)⟩
theorem lw_p13 : lw_okq (⟨"ClashFree$Parser", "acceptEnd", "(I)V"⟩, 15) := ⟨⟨by decide +kernel, by decide +kernel⟩, List.mem_of_getElem? (i := 162) (by decide +kernel), List.mem_of_getElem? (i := 919) (by decide +kernel), List.mem_of_getElem? (i := 920) (by decide +kernel)⟩
theorem lw_p14 : lw_okq (⟨"ClashFree$Parser", "close", "()V"⟩, 15) := ⟨⟨by decide +kernel, by decide +kernel⟩, List.mem_of_getElem? (i := 162) (by decide +kernel), List.mem_of_getElem? (i := 923) (by decide +kernel), List.mem_of_getElem? (i := 924) (by decide +kernel)⟩
theorem lw_p15 : lw_okq (⟨"ClashFree$Parser", "refuse", "()V"⟩, 15) := ⟨⟨by decide +kernel, by decide +kernel⟩, List.mem_of_getElem? (i := 162) (by decide +kernel), List.mem_of_getElem? (i := 939) (by decide +kernel), List.mem_of_getElem? (i := 940) (by decide +kernel)⟩
def lw_privs_1 : List (MethodName × Nat) := [(⟨"ClashFree", "slot", "(I)LClashFree$Table;"⟩, 7), (⟨"ClashFree$Layout", "sweep", "()V"⟩, 13), (⟨"ClashFree", "tableAt", "(I)LClashFree$Table;"⟩, 7), (⟨"ClashFree$Paper", "clashesOf", "(LClashFree$Table;IIII)I"⟩, 3), (⟨"ClashFree$Parser", "note", "(II)V"⟩, 15), (⟨"ClashFree$Scanner", "byteAt", "(I)I"⟩, 7), (⟨"ClashFree$Scanner", "takeNumber", "()V"⟩, 7), (⟨"ClashFree$Scanner", "takeWord", "()V"⟩, 7), (⟨"ClashFree$Scanner", "wordKind", "()I"⟩, 7), (⟨"ClashFree$Scanner", "is", "(Ljava/lang/String;)Z"⟩, 7), (⟨"ClashFree$Scanner", "takeSign", "(I)V"⟩, 7), (⟨"ClashFree$Parser", "accept", "(I)V"⟩, 15), (⟨"ClashFree$Parser", "acceptStatement", "(I)V"⟩, 15), (⟨"ClashFree$Parser", "acceptEnd", "(I)V"⟩, 15), (⟨"ClashFree$Parser", "close", "()V"⟩, 15), (⟨"ClashFree$Parser", "refuse", "()V"⟩, 15)]
theorem lw_r1 : ∀ q ∈ lw_privs_1, lw_okq q := List.forall_mem_cons.mpr ⟨lw_p0, List.forall_mem_cons.mpr ⟨lw_p1, List.forall_mem_cons.mpr ⟨lw_p2, List.forall_mem_cons.mpr ⟨lw_p3, List.forall_mem_cons.mpr ⟨lw_p4, List.forall_mem_cons.mpr ⟨lw_p5, List.forall_mem_cons.mpr ⟨lw_p6, List.forall_mem_cons.mpr ⟨lw_p7, List.forall_mem_cons.mpr ⟨lw_p8, List.forall_mem_cons.mpr ⟨lw_p9, List.forall_mem_cons.mpr ⟨lw_p10, List.forall_mem_cons.mpr ⟨lw_p11, List.forall_mem_cons.mpr ⟨lw_p12, List.forall_mem_cons.mpr ⟨lw_p13, List.forall_mem_cons.mpr ⟨lw_p14, List.forall_mem_cons.mpr ⟨lw_p15, fun _ h => absurd h List.not_mem_nil⟩⟩⟩⟩⟩⟩⟩⟩⟩⟩⟩⟩⟩⟩⟩⟩
theorem lw_p16 : lw_okq (⟨"ClashFree$Parser", "acceptUnit", "(I)V"⟩, 15) := ⟨⟨by decide +kernel, by decide +kernel⟩, List.mem_of_getElem? (i := 162) (by decide +kernel), List.mem_of_getElem? (i := 943) (by decide +kernel), List.mem_of_getElem? (i := 944) (by decide +kernel)⟩
theorem lw_p17 : lw_okq (⟨"ClashFree$Parser", "await", "(I)V"⟩, 15) := ⟨⟨by decide +kernel, by decide +kernel⟩, List.mem_of_getElem? (i := 162) (by decide +kernel), List.mem_of_getElem? (i := 947) (by decide +kernel), List.mem_of_getElem? (i := 948) (by decide +kernel)⟩
theorem lw_p18 : lw_okq (⟨"ClashFree$Parser", "acceptBehindUnit", "(I)V"⟩, 15) := ⟨⟨by decide +kernel, by decide +kernel⟩, List.mem_of_getElem? (i := 162) (by decide +kernel), List.mem_of_getElem? (i := 951) (by decide +kernel), List.mem_of_getElem? (i := 952) (by decide +kernel)⟩
theorem lw_p19 : lw_okq (⟨"ClashFree$Parser", "release", "(I)V"⟩, 15) := ⟨⟨by decide +kernel, by decide +kernel⟩, List.mem_of_getElem? (i := 162) (by decide +kernel), List.mem_of_getElem? (i := 958) (by decide +kernel), List.mem_of_getElem? (i := 959) (by decide +kernel)⟩
theorem lw_p20 : lw_okq (⟨"ClashFree$Parser", "acceptClosing", "(I)V"⟩, 15) := ⟨⟨by decide +kernel, by decide +kernel⟩, List.mem_of_getElem? (i := 162) (by decide +kernel), List.mem_of_getElem? (i := 962) (by decide +kernel), List.mem_of_getElem? (i := 963) (by decide +kernel)⟩
theorem lw_p21 : lw_okq (⟨"ClashFree$Parser", "acceptSumEnd", "(I)V"⟩, 15) := ⟨⟨by decide +kernel, by decide +kernel⟩, List.mem_of_getElem? (i := 162) (by decide +kernel), List.mem_of_getElem? (i := 966) (by decide +kernel), List.mem_of_getElem? (i := 967) (by decide +kernel)⟩
theorem lw_p22 : lw_okq (⟨"ClashFree$Parser", "open", "(II)V"⟩, 15) := ⟨⟨by decide +kernel, by decide +kernel⟩, List.mem_of_getElem? (i := 162) (by decide +kernel), List.mem_of_getElem? (i := 970) (by decide +kernel), List.mem_of_getElem? (i := 971) (by decide +kernel)⟩
theorem lw_p23 : lw_okq (⟨"ClashFree$Parser", "acceptRounds", "(I)V"⟩, 15) := ⟨⟨by decide +kernel, by decide +kernel⟩, List.mem_of_getElem? (i := 162) (by decide +kernel), List.mem_of_getElem? (i := 974) (by decide +kernel), List.mem_of_getElem? (i := 975) (by decide +kernel)⟩
theorem lw_p24 : lw_okq (⟨"ClashFree$Parser", "acceptOpening", "(I)V"⟩, 15) := ⟨⟨by decide +kernel, by decide +kernel⟩, List.mem_of_getElem? (i := 162) (by decide +kernel), List.mem_of_getElem? (i := 978) (by decide +kernel), List.mem_of_getElem? (i := 979) (by decide +kernel)⟩
theorem lw_p25 : lw_okq (⟨"ClashFree$Parser", "acceptBehindBlock", "(I)V"⟩, 15) := ⟨⟨by decide +kernel, by decide +kernel⟩, List.mem_of_getElem? (i := 162) (by decide +kernel), List.mem_of_getElem? (i := 982) (by decide +kernel), List.mem_of_getElem? (i := 983) (by decide +kernel)⟩
theorem lw_p26 : lw_okq (⟨"ClashFree$Machine", "push", "(I)V"⟩, 8) := ⟨⟨by decide +kernel, by decide +kernel⟩, List.mem_of_getElem? (i := 273) (by decide +kernel), List.mem_of_getElem? (i := 995) (by decide +kernel), List.mem_of_getElem? (i := 996) (by decide +kernel)⟩
theorem lw_p27 : lw_okq (⟨"ClashFree$Machine", "pop", "()I"⟩, 8) := ⟨⟨by decide +kernel, by decide +kernel⟩, List.mem_of_getElem? (i := 273) (by decide +kernel), List.mem_of_getElem? (i := 999) (by decide +kernel), List.mem_of_getElem? (i := 1000) (by decide +kernel)⟩
theorem lw_p28 : lw_okq (⟨"ClashFree$Machine", "beginRounds", "(LClashFree$Program;I)I"⟩, 8) := ⟨⟨by decide +kernel, by decide +kernel⟩, List.mem_of_getElem? (i := 273) (by decide +kernel), List.mem_of_getElem? (i := 1003) (by decide +kernel), List.mem_of_getElem? (i := 1004) (by decide +kernel)⟩
theorem lw_p29 : lw_okq (⟨"ClashFree$Machine", "step", "()Z"⟩, 8) := ⟨⟨by decide +kernel, by decide +kernel⟩, List.mem_of_getElem? (i := 273) (by decide +kernel), List.mem_of_getElem? (i := 1007) (by decide +kernel), List.mem_of_getElem? (i := 1008) (by decide +kernel)⟩
theorem lw_p30 : lw_okq (⟨"ClashFree$Machine", "goRound", "(LClashFree$Program;I)I"⟩, 8) := ⟨⟨by decide +kernel, by decide +kernel⟩, List.mem_of_getElem? (i := 273) (by decide +kernel), List.mem_of_getElem? (i := 1011) (by decide +kernel), List.mem_of_getElem? (i := 1012) (by decide +kernel)⟩
theorem lw_p31 : lw_okq (⟨"ClashFree$Machine", "act", "(ILClashFree$Table;)V"⟩, 8) := ⟨⟨by decide +kernel, by decide +kernel⟩, List.mem_of_getElem? (i := 273) (by decide +kernel), List.mem_of_getElem? (i := 1016) (by decide +kernel), List.mem_of_getElem? (i := 1017) (by decide +kernel)⟩
def lw_privs_2 : List (MethodName × Nat) := [(⟨"ClashFree$Parser", "acceptUnit", "(I)V"⟩, 15), (⟨"ClashFree$Parser", "await", "(I)V"⟩, 15), (⟨"ClashFree$Parser", "acceptBehindUnit", "(I)V"⟩, 15), (⟨"ClashFree$Parser", "release", "(I)V"⟩, 15), (⟨"ClashFree$Parser", "acceptClosing", "(I)V"⟩, 15), (⟨"ClashFree$Parser", "acceptSumEnd", "(I)V"⟩, 15), (⟨"ClashFree$Parser", "open", "(II)V"⟩, 15), (⟨"ClashFree$Parser", "acceptRounds", "(I)V"⟩, 15), (⟨"ClashFree$Parser", "acceptOpening", "(I)V"⟩, 15), (⟨"ClashFree$Parser", "acceptBehindBlock", "(I)V"⟩, 15), (⟨"ClashFree$Machine", "push", "(I)V"⟩, 8), (⟨"ClashFree$Machine", "pop", "()I"⟩, 8), (⟨"ClashFree$Machine", "beginRounds", "(LClashFree$Program;I)I"⟩, 8), (⟨"ClashFree$Machine", "step", "()Z"⟩, 8), (⟨"ClashFree$Machine", "goRound", "(LClashFree$Program;I)I"⟩, 8), (⟨"ClashFree$Machine", "act", "(ILClashFree$Table;)V"⟩, 8)]
theorem lw_r2 : ∀ q ∈ lw_privs_2, lw_okq q := List.forall_mem_cons.mpr ⟨lw_p16, List.forall_mem_cons.mpr ⟨lw_p17, List.forall_mem_cons.mpr ⟨lw_p18, List.forall_mem_cons.mpr ⟨lw_p19, List.forall_mem_cons.mpr ⟨lw_p20, List.forall_mem_cons.mpr ⟨lw_p21, List.forall_mem_cons.mpr ⟨lw_p22, List.forall_mem_cons.mpr ⟨lw_p23, List.forall_mem_cons.mpr ⟨lw_p24, List.forall_mem_cons.mpr ⟨lw_p25, List.forall_mem_cons.mpr ⟨lw_p26, List.forall_mem_cons.mpr ⟨lw_p27, List.forall_mem_cons.mpr ⟨lw_p28, List.forall_mem_cons.mpr ⟨lw_p29, List.forall_mem_cons.mpr ⟨lw_p30, List.forall_mem_cons.mpr ⟨lw_p31, fun _ h => absurd h List.not_mem_nil⟩⟩⟩⟩⟩⟩⟩⟩⟩⟩⟩⟩⟩⟩⟩⟩
theorem lw_p32 : lw_okq (⟨"ClashFree$Machine", "look", "(ILClashFree$Table;)V"⟩, 8) := ⟨⟨by decide +kernel, by decide +kernel⟩, List.mem_of_getElem? (i := 273) (by decide +kernel), List.mem_of_getElem? (i := 1020) (by decide +kernel), List.mem_of_getElem? (i := 1021) (by decide +kernel)⟩
theorem lw_p33 : lw_okq (⟨"ClashFree$Machine", "calculate", "(I)V"⟩, 8) := ⟨⟨by decide +kernel, by decide +kernel⟩, List.mem_of_getElem? (i := 273) (by decide +kernel), List.mem_of_getElem? (i := 1031) (by decide +kernel), List.mem_of_getElem? (i := 1032) (by decide +kernel)⟩
theorem lw_p34 : lw_okq (⟨"ClashFree", "countTables", "()I"⟩, 7) := ⟨⟨by decide +kernel, by decide +kernel⟩, List.mem_of_getElem? (i := 20) (by decide +kernel), List.mem_of_getElem? (i := 1098) (by decide +kernel), List.mem_of_getElem? (i := 1099) (by decide +kernel)⟩
theorem lw_p35 : lw_okq (⟨"ClashFree", "countKeys", "()I"⟩, 7) := ⟨⟨by decide +kernel, by decide +kernel⟩, List.mem_of_getElem? (i := 20) (by decide +kernel), List.mem_of_getElem? (i := 1102) (by decide +kernel), List.mem_of_getElem? (i := 1103) (by decide +kernel)⟩
theorem lw_p36 : lw_okq (⟨"ClashFreeModel", "puts", "(I)V"⟩, 47) := ⟨⟨by decide +kernel, by decide +kernel⟩, List.mem_of_getElem? (i := 1106) (by decide +kernel), List.mem_of_getElem? (i := 1259) (by decide +kernel), List.mem_of_getElem? (i := 1260) (by decide +kernel)⟩
theorem lw_p37 : lw_okq (⟨"ClashFreeModel", "makes", "(IIIIJ)V"⟩, 47) := ⟨⟨by decide +kernel, by decide +kernel⟩, List.mem_of_getElem? (i := 1106) (by decide +kernel), List.mem_of_getElem? (i := 1280) (by decide +kernel), List.mem_of_getElem? (i := 1281) (by decide +kernel)⟩
theorem lw_p38 : lw_okq (⟨"ClashFreeModel", "lays", "(IIJ)V"⟩, 47) := ⟨⟨by decide +kernel, by decide +kernel⟩, List.mem_of_getElem? (i := 1106) (by decide +kernel), List.mem_of_getElem? (i := 1284) (by decide +kernel), List.mem_of_getElem? (i := 1285) (by decide +kernel)⟩
theorem lw_p39 : lw_okq (⟨"ClashFreeModel", "buildsAll", "(I)V"⟩, 47) := ⟨⟨by decide +kernel, by decide +kernel⟩, List.mem_of_getElem? (i := 1106) (by decide +kernel), List.mem_of_getElem? (i := 1288) (by decide +kernel), List.mem_of_getElem? (i := 1289) (by decide +kernel)⟩
theorem lw_p40 : lw_okq (⟨"ClashFreeModel", "manyOf", "(I)I"⟩, 47) := ⟨⟨by decide +kernel, by decide +kernel⟩, List.mem_of_getElem? (i := 1106) (by decide +kernel), List.mem_of_getElem? (i := 1292) (by decide +kernel), List.mem_of_getElem? (i := 1293) (by decide +kernel)⟩
theorem lw_p41 : lw_okq (⟨"ClashFreeModel", "of", "(II)J"⟩, 47) := ⟨⟨by decide +kernel, by decide +kernel⟩, List.mem_of_getElem? (i := 1106) (by decide +kernel), List.mem_of_getElem? (i := 1296) (by decide +kernel), List.mem_of_getElem? (i := 1297) (by decide +kernel)⟩
theorem lw_p42 : lw_okq (⟨"ClashFreeModel", "takesSeed", "(I)V"⟩, 47) := ⟨⟨by decide +kernel, by decide +kernel⟩, List.mem_of_getElem? (i := 1106) (by decide +kernel), List.mem_of_getElem? (i := 1302) (by decide +kernel), List.mem_of_getElem? (i := 1303) (by decide +kernel)⟩
theorem lw_p43 : lw_okq (⟨"ClashFreeModel", "drawsPair", "()V"⟩, 47) := ⟨⟨by decide +kernel, by decide +kernel⟩, List.mem_of_getElem? (i := 1106) (by decide +kernel), List.mem_of_getElem? (i := 1306) (by decide +kernel), List.mem_of_getElem? (i := 1307) (by decide +kernel)⟩
theorem lw_p44 : lw_okq (⟨"ClashFreeModel", "draw", "(J)J"⟩, 47) := ⟨⟨by decide +kernel, by decide +kernel⟩, List.mem_of_getElem? (i := 1106) (by decide +kernel), List.mem_of_getElem? (i := 1311) (by decide +kernel), List.mem_of_getElem? (i := 1312) (by decide +kernel)⟩
theorem lw_p45 : lw_okq (⟨"ClashFreeModel", "parts", "(IJJI)J"⟩, 47) := ⟨⟨by decide +kernel, by decide +kernel⟩, List.mem_of_getElem? (i := 1106) (by decide +kernel), List.mem_of_getElem? (i := 1318) (by decide +kernel), List.mem_of_getElem? (i := 1319) (by decide +kernel)⟩
theorem lw_p46 : lw_okq (⟨"ClashFreeModel", "buckets", "(I)I"⟩, 47) := ⟨⟨by decide +kernel, by decide +kernel⟩, List.mem_of_getElem? (i := 1106) (by decide +kernel), List.mem_of_getElem? (i := 1322) (by decide +kernel), List.mem_of_getElem? (i := 1323) (by decide +kernel)⟩
theorem lw_p47 : lw_okq (⟨"ClashFreeModel", "bucketOf", "(II)I"⟩, 47) := ⟨⟨by decide +kernel, by decide +kernel⟩, List.mem_of_getElem? (i := 1106) (by decide +kernel), List.mem_of_getElem? (i := 1326) (by decide +kernel), List.mem_of_getElem? (i := 1327) (by decide +kernel)⟩
def lw_privs_3 : List (MethodName × Nat) := [(⟨"ClashFree$Machine", "look", "(ILClashFree$Table;)V"⟩, 8), (⟨"ClashFree$Machine", "calculate", "(I)V"⟩, 8), (⟨"ClashFree", "countTables", "()I"⟩, 7), (⟨"ClashFree", "countKeys", "()I"⟩, 7), (⟨"ClashFreeModel", "puts", "(I)V"⟩, 47), (⟨"ClashFreeModel", "makes", "(IIIIJ)V"⟩, 47), (⟨"ClashFreeModel", "lays", "(IIJ)V"⟩, 47), (⟨"ClashFreeModel", "buildsAll", "(I)V"⟩, 47), (⟨"ClashFreeModel", "manyOf", "(I)I"⟩, 47), (⟨"ClashFreeModel", "of", "(II)J"⟩, 47), (⟨"ClashFreeModel", "takesSeed", "(I)V"⟩, 47), (⟨"ClashFreeModel", "drawsPair", "()V"⟩, 47), (⟨"ClashFreeModel", "draw", "(J)J"⟩, 47), (⟨"ClashFreeModel", "parts", "(IJJI)J"⟩, 47), (⟨"ClashFreeModel", "buckets", "(I)I"⟩, 47), (⟨"ClashFreeModel", "bucketOf", "(II)I"⟩, 47)]
theorem lw_r3 : ∀ q ∈ lw_privs_3, lw_okq q := List.forall_mem_cons.mpr ⟨lw_p32, List.forall_mem_cons.mpr ⟨lw_p33, List.forall_mem_cons.mpr ⟨lw_p34, List.forall_mem_cons.mpr ⟨lw_p35, List.forall_mem_cons.mpr ⟨lw_p36, List.forall_mem_cons.mpr ⟨lw_p37, List.forall_mem_cons.mpr ⟨lw_p38, List.forall_mem_cons.mpr ⟨lw_p39, List.forall_mem_cons.mpr ⟨lw_p40, List.forall_mem_cons.mpr ⟨lw_p41, List.forall_mem_cons.mpr ⟨lw_p42, List.forall_mem_cons.mpr ⟨lw_p43, List.forall_mem_cons.mpr ⟨lw_p44, List.forall_mem_cons.mpr ⟨lw_p45, List.forall_mem_cons.mpr ⟨lw_p46, List.forall_mem_cons.mpr ⟨lw_p47, fun _ h => absurd h List.not_mem_nil⟩⟩⟩⟩⟩⟩⟩⟩⟩⟩⟩⟩⟩⟩⟩⟩
theorem lw_p48 : lw_okq (⟨"ClashFreeModel", "roomsOf", "(II)I"⟩, 47) := ⟨⟨by decide +kernel, by decide +kernel⟩, List.mem_of_getElem? (i := 1106) (by decide +kernel), List.mem_of_getElem? (i := 1333) (by decide +kernel), List.mem_of_getElem? (i := 1334) (by decide +kernel)⟩
theorem lw_p49 : lw_okq (⟨"ClashFreeModel", "buildsBucket", "(II)V"⟩, 47) := ⟨⟨by decide +kernel, by decide +kernel⟩, List.mem_of_getElem? (i := 1106) (by decide +kernel), List.mem_of_getElem? (i := 1338) (by decide +kernel), List.mem_of_getElem? (i := 1339) (by decide +kernel)⟩
theorem lw_p50 : lw_okq (⟨"ClashFreeModel", "clashes", "(IIJJ)I"⟩, 47) := ⟨⟨by decide +kernel, by decide +kernel⟩, List.mem_of_getElem? (i := 1106) (by decide +kernel), List.mem_of_getElem? (i := 1342) (by decide +kernel), List.mem_of_getElem? (i := 1343) (by decide +kernel)⟩
theorem lw_p51 : lw_okq (⟨"ClashFreeModel", "roomOf", "(III)I"⟩, 47) := ⟨⟨by decide +kernel, by decide +kernel⟩, List.mem_of_getElem? (i := 1106) (by decide +kernel), List.mem_of_getElem? (i := 1346) (by decide +kernel), List.mem_of_getElem? (i := 1347) (by decide +kernel)⟩
theorem lw_p52 : lw_okq (⟨"ClashFreeModel", "laysSeed", "(I)V"⟩, 47) := ⟨⟨by decide +kernel, by decide +kernel⟩, List.mem_of_getElem? (i := 1106) (by decide +kernel), List.mem_of_getElem? (i := 1350) (by decide +kernel), List.mem_of_getElem? (i := 1351) (by decide +kernel)⟩
theorem lw_p53 : lw_okq (⟨"ClashFreeModel", "adds", "(IIJ)V"⟩, 47) := ⟨⟨by decide +kernel, by decide +kernel⟩, List.mem_of_getElem? (i := 1106) (by decide +kernel), List.mem_of_getElem? (i := 1354) (by decide +kernel), List.mem_of_getElem? (i := 1355) (by decide +kernel)⟩
theorem lw_p54 : lw_okq (⟨"ClashFreeModel", "isThere", "(I)Z"⟩, 47) := ⟨⟨by decide +kernel, by decide +kernel⟩, List.mem_of_getElem? (i := 1106) (by decide +kernel), List.mem_of_getElem? (i := 1362) (by decide +kernel), List.mem_of_getElem? (i := 1363) (by decide +kernel)⟩
theorem lw_p55 : lw_okq (⟨"ClashFreeModel", "isFull", "(II)Z"⟩, 47) := ⟨⟨by decide +kernel, by decide +kernel⟩, List.mem_of_getElem? (i := 1106) (by decide +kernel), List.mem_of_getElem? (i := 1369) (by decide +kernel), List.mem_of_getElem? (i := 1370) (by decide +kernel)⟩
theorem lw_p56 : lw_okq (⟨"ClashFreeModel", "hasKey", "(II)Z"⟩, 47) := ⟨⟨by decide +kernel, by decide +kernel⟩, List.mem_of_getElem? (i := 1106) (by decide +kernel), List.mem_of_getElem? (i := 1373) (by decide +kernel), List.mem_of_getElem? (i := 1374) (by decide +kernel)⟩
theorem lw_p57 : lw_okq (⟨"ClashFreeModel", "whereOf", "(IJ)I"⟩, 47) := ⟨⟨by decide +kernel, by decide +kernel⟩, List.mem_of_getElem? (i := 1106) (by decide +kernel), List.mem_of_getElem? (i := 1377) (by decide +kernel), List.mem_of_getElem? (i := 1378) (by decide +kernel)⟩
theorem lw_p58 : lw_okq (⟨"ClashFreeModel", "putsKey", "(III)I"⟩, 47) := ⟨⟨by decide +kernel, by decide +kernel⟩, List.mem_of_getElem? (i := 1106) (by decide +kernel), List.mem_of_getElem? (i := 1381) (by decide +kernel), List.mem_of_getElem? (i := 1382) (by decide +kernel)⟩
theorem lw_p59 : lw_okq (⟨"ClashFreeModel", "way", "(II)I"⟩, 47) := ⟨⟨by decide +kernel, by decide +kernel⟩, List.mem_of_getElem? (i := 1106) (by decide +kernel), List.mem_of_getElem? (i := 1385) (by decide +kernel), List.mem_of_getElem? (i := 1386) (by decide +kernel)⟩
theorem lw_p60 : lw_okq (⟨"ClashFreeModel", "isEmpty", "(III)Z"⟩, 47) := ⟨⟨by decide +kernel, by decide +kernel⟩, List.mem_of_getElem? (i := 1106) (by decide +kernel), List.mem_of_getElem? (i := 1389) (by decide +kernel), List.mem_of_getElem? (i := 1390) (by decide +kernel)⟩
theorem lw_p61 : lw_okq (⟨"ClashFreeModel", "readsFor", "(II)V"⟩, 47) := ⟨⟨by decide +kernel, by decide +kernel⟩, List.mem_of_getElem? (i := 1106) (by decide +kernel), List.mem_of_getElem? (i := 1394) (by decide +kernel), List.mem_of_getElem? (i := 1395) (by decide +kernel)⟩
theorem lw_p62 : lw_okq (⟨"ClashFreeModel", "comes", "(III)V"⟩, 47) := ⟨⟨by decide +kernel, by decide +kernel⟩, List.mem_of_getElem? (i := 1106) (by decide +kernel), List.mem_of_getElem? (i := 1401) (by decide +kernel), List.mem_of_getElem? (i := 1402) (by decide +kernel)⟩
theorem lw_p63 : lw_okq (⟨"ClashFreeModel", "moves", "(II)V"⟩, 47) := ⟨⟨by decide +kernel, by decide +kernel⟩, List.mem_of_getElem? (i := 1106) (by decide +kernel), List.mem_of_getElem? (i := 1405) (by decide +kernel), List.mem_of_getElem? (i := 1406) (by decide +kernel)⟩
def lw_privs_4 : List (MethodName × Nat) := [(⟨"ClashFreeModel", "roomsOf", "(II)I"⟩, 47), (⟨"ClashFreeModel", "buildsBucket", "(II)V"⟩, 47), (⟨"ClashFreeModel", "clashes", "(IIJJ)I"⟩, 47), (⟨"ClashFreeModel", "roomOf", "(III)I"⟩, 47), (⟨"ClashFreeModel", "laysSeed", "(I)V"⟩, 47), (⟨"ClashFreeModel", "adds", "(IIJ)V"⟩, 47), (⟨"ClashFreeModel", "isThere", "(I)Z"⟩, 47), (⟨"ClashFreeModel", "isFull", "(II)Z"⟩, 47), (⟨"ClashFreeModel", "hasKey", "(II)Z"⟩, 47), (⟨"ClashFreeModel", "whereOf", "(IJ)I"⟩, 47), (⟨"ClashFreeModel", "putsKey", "(III)I"⟩, 47), (⟨"ClashFreeModel", "way", "(II)I"⟩, 47), (⟨"ClashFreeModel", "isEmpty", "(III)Z"⟩, 47), (⟨"ClashFreeModel", "readsFor", "(II)V"⟩, 47), (⟨"ClashFreeModel", "comes", "(III)V"⟩, 47), (⟨"ClashFreeModel", "moves", "(II)V"⟩, 47)]
theorem lw_r4 : ∀ q ∈ lw_privs_4, lw_okq q := List.forall_mem_cons.mpr ⟨lw_p48, List.forall_mem_cons.mpr ⟨lw_p49, List.forall_mem_cons.mpr ⟨lw_p50, List.forall_mem_cons.mpr ⟨lw_p51, List.forall_mem_cons.mpr ⟨lw_p52, List.forall_mem_cons.mpr ⟨lw_p53, List.forall_mem_cons.mpr ⟨lw_p54, List.forall_mem_cons.mpr ⟨lw_p55, List.forall_mem_cons.mpr ⟨lw_p56, List.forall_mem_cons.mpr ⟨lw_p57, List.forall_mem_cons.mpr ⟨lw_p58, List.forall_mem_cons.mpr ⟨lw_p59, List.forall_mem_cons.mpr ⟨lw_p60, List.forall_mem_cons.mpr ⟨lw_p61, List.forall_mem_cons.mpr ⟨lw_p62, List.forall_mem_cons.mpr ⟨lw_p63, fun _ h => absurd h List.not_mem_nil⟩⟩⟩⟩⟩⟩⟩⟩⟩⟩⟩⟩⟩⟩⟩⟩
theorem lw_p64 : lw_okq (⟨"ClashFreeModel", "drops", "(II)I"⟩, 47) := ⟨⟨by decide +kernel, by decide +kernel⟩, List.mem_of_getElem? (i := 1106) (by decide +kernel), List.mem_of_getElem? (i := 1418) (by decide +kernel), List.mem_of_getElem? (i := 1419) (by decide +kernel)⟩
theorem lw_p65 : lw_okq (⟨"ClashFreeModel", "isBucket", "(II)Z"⟩, 47) := ⟨⟨by decide +kernel, by decide +kernel⟩, List.mem_of_getElem? (i := 1106) (by decide +kernel), List.mem_of_getElem? (i := 1437) (by decide +kernel), List.mem_of_getElem? (i := 1438) (by decide +kernel)⟩
theorem lw_p66 : lw_okq (⟨"ClashFreeModel", "aheadOf", "(II)I"⟩, 47) := ⟨⟨by decide +kernel, by decide +kernel⟩, List.mem_of_getElem? (i := 1106) (by decide +kernel), List.mem_of_getElem? (i := 1457) (by decide +kernel), List.mem_of_getElem? (i := 1458) (by decide +kernel)⟩
theorem lw_p67 : lw_okq (⟨"ClashFreeModel", "sumBy", "(IJJ)J"⟩, 47) := ⟨⟨by decide +kernel, by decide +kernel⟩, List.mem_of_getElem? (i := 1106) (by decide +kernel), List.mem_of_getElem? (i := 1500) (by decide +kernel), List.mem_of_getElem? (i := 1501) (by decide +kernel)⟩
theorem lw_p68 : lw_okq (⟨"ClashFreeModel", "freezes", "(IJ)Z"⟩, 47) := ⟨⟨by decide +kernel, by decide +kernel⟩, List.mem_of_getElem? (i := 1106) (by decide +kernel), List.mem_of_getElem? (i := 1516) (by decide +kernel), List.mem_of_getElem? (i := 1517) (by decide +kernel)⟩
theorem lw_p69 : lw_okq (⟨"ClashFreeModel", "frozenRoom", "(I)I"⟩, 47) := ⟨⟨by decide +kernel, by decide +kernel⟩, List.mem_of_getElem? (i := 1106) (by decide +kernel), List.mem_of_getElem? (i := 1521) (by decide +kernel), List.mem_of_getElem? (i := 1522) (by decide +kernel)⟩
theorem lw_p70 : lw_okq (⟨"ClashFreeModel", "roomsAhead", "(I)I"⟩, 47) := ⟨⟨by decide +kernel, by decide +kernel⟩, List.mem_of_getElem? (i := 1106) (by decide +kernel), List.mem_of_getElem? (i := 1525) (by decide +kernel), List.mem_of_getElem? (i := 1526) (by decide +kernel)⟩
theorem lw_p71 : lw_okq (⟨"ClashFreeModel", "valueOf", "(II)I"⟩, 47) := ⟨⟨by decide +kernel, by decide +kernel⟩, List.mem_of_getElem? (i := 1106) (by decide +kernel), List.mem_of_getElem? (i := 1537) (by decide +kernel), List.mem_of_getElem? (i := 1538) (by decide +kernel)⟩
theorem lw_p72 : lw_okq (⟨"ClashFreeModel", "readsProgram", "()V"⟩, 47) := ⟨⟨by decide +kernel, by decide +kernel⟩, List.mem_of_getElem? (i := 1106) (by decide +kernel), List.mem_of_getElem? (i := 1557) (by decide +kernel), List.mem_of_getElem? (i := 1558) (by decide +kernel)⟩
theorem lw_p73 : lw_okq (⟨"ClashFreeModel", "fail", "(II)V"⟩, 47) := ⟨⟨by decide +kernel, by decide +kernel⟩, List.mem_of_getElem? (i := 1106) (by decide +kernel), List.mem_of_getElem? (i := 1561) (by decide +kernel), List.mem_of_getElem? (i := 1562) (by decide +kernel)⟩
theorem lw_p74 : lw_okq (⟨"ClashFreeModel", "isFine", "()Z"⟩, 47) := ⟨⟨by decide +kernel, by decide +kernel⟩, List.mem_of_getElem? (i := 1106) (by decide +kernel), List.mem_of_getElem? (i := 1565) (by decide +kernel), List.mem_of_getElem? (i := 1566) (by decide +kernel)⟩
theorem lw_p75 : lw_okq (⟨"ClashFreeModel", "next", "()I"⟩, 47) := ⟨⟨by decide +kernel, by decide +kernel⟩, List.mem_of_getElem? (i := 1106) (by decide +kernel), List.mem_of_getElem? (i := 1569) (by decide +kernel), List.mem_of_getElem? (i := 1570) (by decide +kernel)⟩
theorem lw_p76 : lw_okq (⟨"ClashFreeModel", "isSign", "(I)Z"⟩, 47) := ⟨⟨by decide +kernel, by decide +kernel⟩, List.mem_of_getElem? (i := 1106) (by decide +kernel), List.mem_of_getElem? (i := 1573) (by decide +kernel), List.mem_of_getElem? (i := 1574) (by decide +kernel)⟩
theorem lw_p77 : lw_okq (⟨"ClashFreeModel", "closesBlock", "()V"⟩, 47) := ⟨⟨by decide +kernel, by decide +kernel⟩, List.mem_of_getElem? (i := 1106) (by decide +kernel), List.mem_of_getElem? (i := 1577) (by decide +kernel), List.mem_of_getElem? (i := 1578) (by decide +kernel)⟩
theorem lw_p78 : lw_okq (⟨"ClashFreeModel", "emits", "(II)V"⟩, 47) := ⟨⟨by decide +kernel, by decide +kernel⟩, List.mem_of_getElem? (i := 1106) (by decide +kernel), List.mem_of_getElem? (i := 1581) (by decide +kernel), List.mem_of_getElem? (i := 1582) (by decide +kernel)⟩
theorem lw_p79 : lw_okq (⟨"ClashFreeModel", "needsSign", "(I)V"⟩, 47) := ⟨⟨by decide +kernel, by decide +kernel⟩, List.mem_of_getElem? (i := 1106) (by decide +kernel), List.mem_of_getElem? (i := 1585) (by decide +kernel), List.mem_of_getElem? (i := 1586) (by decide +kernel)⟩
def lw_privs_5 : List (MethodName × Nat) := [(⟨"ClashFreeModel", "drops", "(II)I"⟩, 47), (⟨"ClashFreeModel", "isBucket", "(II)Z"⟩, 47), (⟨"ClashFreeModel", "aheadOf", "(II)I"⟩, 47), (⟨"ClashFreeModel", "sumBy", "(IJJ)J"⟩, 47), (⟨"ClashFreeModel", "freezes", "(IJ)Z"⟩, 47), (⟨"ClashFreeModel", "frozenRoom", "(I)I"⟩, 47), (⟨"ClashFreeModel", "roomsAhead", "(I)I"⟩, 47), (⟨"ClashFreeModel", "valueOf", "(II)I"⟩, 47), (⟨"ClashFreeModel", "readsProgram", "()V"⟩, 47), (⟨"ClashFreeModel", "fail", "(II)V"⟩, 47), (⟨"ClashFreeModel", "isFine", "()Z"⟩, 47), (⟨"ClashFreeModel", "next", "()I"⟩, 47), (⟨"ClashFreeModel", "isSign", "(I)Z"⟩, 47), (⟨"ClashFreeModel", "closesBlock", "()V"⟩, 47), (⟨"ClashFreeModel", "emits", "(II)V"⟩, 47), (⟨"ClashFreeModel", "needsSign", "(I)V"⟩, 47)]
theorem lw_r5 : ∀ q ∈ lw_privs_5, lw_okq q := List.forall_mem_cons.mpr ⟨lw_p64, List.forall_mem_cons.mpr ⟨lw_p65, List.forall_mem_cons.mpr ⟨lw_p66, List.forall_mem_cons.mpr ⟨lw_p67, List.forall_mem_cons.mpr ⟨lw_p68, List.forall_mem_cons.mpr ⟨lw_p69, List.forall_mem_cons.mpr ⟨lw_p70, List.forall_mem_cons.mpr ⟨lw_p71, List.forall_mem_cons.mpr ⟨lw_p72, List.forall_mem_cons.mpr ⟨lw_p73, List.forall_mem_cons.mpr ⟨lw_p74, List.forall_mem_cons.mpr ⟨lw_p75, List.forall_mem_cons.mpr ⟨lw_p76, List.forall_mem_cons.mpr ⟨lw_p77, List.forall_mem_cons.mpr ⟨lw_p78, List.forall_mem_cons.mpr ⟨lw_p79, fun _ h => absurd h List.not_mem_nil⟩⟩⟩⟩⟩⟩⟩⟩⟩⟩⟩⟩⟩⟩⟩⟩
theorem lw_p80 : lw_okq (⟨"ClashFreeModel", "unlike", "()V"⟩, 47) := ⟨⟨by decide +kernel, by decide +kernel⟩, List.mem_of_getElem? (i := 1106) (by decide +kernel), List.mem_of_getElem? (i := 1589) (by decide +kernel), List.mem_of_getElem? (i := 1590) (by decide +kernel)⟩
theorem lw_p81 : lw_okq (⟨"ClashFreeModel", "statement", "()V"⟩, 47) := ⟨⟨by decide +kernel, by decide +kernel⟩, List.mem_of_getElem? (i := 1106) (by decide +kernel), List.mem_of_getElem? (i := 1593) (by decide +kernel), List.mem_of_getElem? (i := 1594) (by decide +kernel)⟩
theorem lw_p82 : lw_okq (⟨"ClashFreeModel", "takesWord", "(I)Z"⟩, 47) := ⟨⟨by decide +kernel, by decide +kernel⟩, List.mem_of_getElem? (i := 1106) (by decide +kernel), List.mem_of_getElem? (i := 1597) (by decide +kernel), List.mem_of_getElem? (i := 1598) (by decide +kernel)⟩
theorem lw_p83 : lw_okq (⟨"ClashFreeModel", "isLetter", "(I)Z"⟩, 47) := ⟨⟨by decide +kernel, by decide +kernel⟩, List.mem_of_getElem? (i := 1106) (by decide +kernel), List.mem_of_getElem? (i := 1601) (by decide +kernel), List.mem_of_getElem? (i := 1602) (by decide +kernel)⟩
theorem lw_p84 : lw_okq (⟨"ClashFreeModel", "sum", "()V"⟩, 47) := ⟨⟨by decide +kernel, by decide +kernel⟩, List.mem_of_getElem? (i := 1106) (by decide +kernel), List.mem_of_getElem? (i := 1607) (by decide +kernel), List.mem_of_getElem? (i := 1608) (by decide +kernel)⟩
theorem lw_p85 : lw_okq (⟨"ClashFreeModel", "unit", "()V"⟩, 47) := ⟨⟨by decide +kernel, by decide +kernel⟩, List.mem_of_getElem? (i := 1106) (by decide +kernel), List.mem_of_getElem? (i := 1611) (by decide +kernel), List.mem_of_getElem? (i := 1612) (by decide +kernel)⟩
theorem lw_p86 : lw_okq (⟨"ClashFreeModel", "number", "(I)I"⟩, 47) := ⟨⟨by decide +kernel, by decide +kernel⟩, List.mem_of_getElem? (i := 1106) (by decide +kernel), List.mem_of_getElem? (i := 1616) (by decide +kernel), List.mem_of_getElem? (i := 1617) (by decide +kernel)⟩
theorem lw_p87 : lw_okq (⟨"ClashFreeModel", "isDigit", "(I)Z"⟩, 47) := ⟨⟨by decide +kernel, by decide +kernel⟩, List.mem_of_getElem? (i := 1106) (by decide +kernel), List.mem_of_getElem? (i := 1620) (by decide +kernel), List.mem_of_getElem? (i := 1621) (by decide +kernel)⟩
theorem lw_p88 : lw_okq (⟨"ClashFreeModel", "signHere", "()I"⟩, 47) := ⟨⟨by decide +kernel, by decide +kernel⟩, List.mem_of_getElem? (i := 1106) (by decide +kernel), List.mem_of_getElem? (i := 1626) (by decide +kernel), List.mem_of_getElem? (i := 1627) (by decide +kernel)⟩
theorem lw_p89 : lw_okq (⟨"ClashFreeModel", "works", "(I)V"⟩, 47) := ⟨⟨by decide +kernel, by decide +kernel⟩, List.mem_of_getElem? (i := 1106) (by decide +kernel), List.mem_of_getElem? (i := 1630) (by decide +kernel), List.mem_of_getElem? (i := 1631) (by decide +kernel)⟩
theorem lw_p90 : lw_okq (⟨"ClashFreeModel", "closesBracket", "()V"⟩, 47) := ⟨⟨by decide +kernel, by decide +kernel⟩, List.mem_of_getElem? (i := 1106) (by decide +kernel), List.mem_of_getElem? (i := 1634) (by decide +kernel), List.mem_of_getElem? (i := 1635) (by decide +kernel)⟩
theorem lw_p91 : lw_okq (⟨"ClashFreeModel", "asks", "(I)V"⟩, 47) := ⟨⟨by decide +kernel, by decide +kernel⟩, List.mem_of_getElem? (i := 1106) (by decide +kernel), List.mem_of_getElem? (i := 1638) (by decide +kernel), List.mem_of_getElem? (i := 1639) (by decide +kernel)⟩
theorem lw_p92 : lw_okq (⟨"ClashFreeModel", "opens", "(II)V"⟩, 47) := ⟨⟨by decide +kernel, by decide +kernel⟩, List.mem_of_getElem? (i := 1106) (by decide +kernel), List.mem_of_getElem? (i := 1643) (by decide +kernel), List.mem_of_getElem? (i := 1644) (by decide +kernel)⟩
theorem lw_p93 : lw_okq (⟨"ClashFreeModel", "runs", "(I)V"⟩, 47) := ⟨⟨by decide +kernel, by decide +kernel⟩, List.mem_of_getElem? (i := 1106) (by decide +kernel), List.mem_of_getElem? (i := 1647) (by decide +kernel), List.mem_of_getElem? (i := 1648) (by decide +kernel)⟩
theorem lw_p94 : lw_okq (⟨"ClashFreeModel", "worksOn", "(II)V"⟩, 47) := ⟨⟨by decide +kernel, by decide +kernel⟩, List.mem_of_getElem? (i := 1106) (by decide +kernel), List.mem_of_getElem? (i := 1651) (by decide +kernel), List.mem_of_getElem? (i := 1652) (by decide +kernel)⟩
theorem lw_p95 : lw_okq (⟨"ClashFreeModel", "roundNow", "()I"⟩, 47) := ⟨⟨by decide +kernel, by decide +kernel⟩, List.mem_of_getElem? (i := 1106) (by decide +kernel), List.mem_of_getElem? (i := 1655) (by decide +kernel), List.mem_of_getElem? (i := 1656) (by decide +kernel)⟩
def lw_privs_6 : List (MethodName × Nat) := [(⟨"ClashFreeModel", "unlike", "()V"⟩, 47), (⟨"ClashFreeModel", "statement", "()V"⟩, 47), (⟨"ClashFreeModel", "takesWord", "(I)Z"⟩, 47), (⟨"ClashFreeModel", "isLetter", "(I)Z"⟩, 47), (⟨"ClashFreeModel", "sum", "()V"⟩, 47), (⟨"ClashFreeModel", "unit", "()V"⟩, 47), (⟨"ClashFreeModel", "number", "(I)I"⟩, 47), (⟨"ClashFreeModel", "isDigit", "(I)Z"⟩, 47), (⟨"ClashFreeModel", "signHere", "()I"⟩, 47), (⟨"ClashFreeModel", "works", "(I)V"⟩, 47), (⟨"ClashFreeModel", "closesBracket", "()V"⟩, 47), (⟨"ClashFreeModel", "asks", "(I)V"⟩, 47), (⟨"ClashFreeModel", "opens", "(II)V"⟩, 47), (⟨"ClashFreeModel", "runs", "(I)V"⟩, 47), (⟨"ClashFreeModel", "worksOn", "(II)V"⟩, 47), (⟨"ClashFreeModel", "roundNow", "()I"⟩, 47)]
theorem lw_r6 : ∀ q ∈ lw_privs_6, lw_okq q := List.forall_mem_cons.mpr ⟨lw_p80, List.forall_mem_cons.mpr ⟨lw_p81, List.forall_mem_cons.mpr ⟨lw_p82, List.forall_mem_cons.mpr ⟨lw_p83, List.forall_mem_cons.mpr ⟨lw_p84, List.forall_mem_cons.mpr ⟨lw_p85, List.forall_mem_cons.mpr ⟨lw_p86, List.forall_mem_cons.mpr ⟨lw_p87, List.forall_mem_cons.mpr ⟨lw_p88, List.forall_mem_cons.mpr ⟨lw_p89, List.forall_mem_cons.mpr ⟨lw_p90, List.forall_mem_cons.mpr ⟨lw_p91, List.forall_mem_cons.mpr ⟨lw_p92, List.forall_mem_cons.mpr ⟨lw_p93, List.forall_mem_cons.mpr ⟨lw_p94, List.forall_mem_cons.mpr ⟨lw_p95, fun _ h => absurd h List.not_mem_nil⟩⟩⟩⟩⟩⟩⟩⟩⟩⟩⟩⟩⟩⟩⟩⟩
theorem lw_p96 : lw_okq (⟨"ClashFreeModel", "begins", "(I)V"⟩, 47) := ⟨⟨by decide +kernel, by decide +kernel⟩, List.mem_of_getElem? (i := 1106) (by decide +kernel), List.mem_of_getElem? (i := 1662) (by decide +kernel), List.mem_of_getElem? (i := 1663) (by decide +kernel)⟩
theorem lw_p97 : lw_okq (⟨"ClashFreeModel", "isAbove", "()Z"⟩, 47) := ⟨⟨by decide +kernel, by decide +kernel⟩, List.mem_of_getElem? (i := 1106) (by decide +kernel), List.mem_of_getElem? (i := 1666) (by decide +kernel), List.mem_of_getElem? (i := 1667) (by decide +kernel)⟩
theorem lw_p98 : lw_okq (⟨"ClashFreeModel", "isStep", "()Z"⟩, 47) := ⟨⟨by decide +kernel, by decide +kernel⟩, List.mem_of_getElem? (i := 1106) (by decide +kernel), List.mem_of_getElem? (i := 1670) (by decide +kernel), List.mem_of_getElem? (i := 1671) (by decide +kernel)⟩
theorem lw_p99 : lw_okq (⟨"ClashFreeModel", "closes", "(I)V"⟩, 47) := ⟨⟨by decide +kernel, by decide +kernel⟩, List.mem_of_getElem? (i := 1106) (by decide +kernel), List.mem_of_getElem? (i := 1674) (by decide +kernel), List.mem_of_getElem? (i := 1675) (by decide +kernel)⟩
theorem lw_p100 : lw_okq (⟨"ClashFreeModel", "does", "(II)V"⟩, 47) := ⟨⟨by decide +kernel, by decide +kernel⟩, List.mem_of_getElem? (i := 1106) (by decide +kernel), List.mem_of_getElem? (i := 1678) (by decide +kernel), List.mem_of_getElem? (i := 1679) (by decide +kernel)⟩
theorem lw_p101 : lw_okq (⟨"ClashFreeModel", "octetsOf", "(JI)V"⟩, 47) := ⟨⟨by decide +kernel, by decide +kernel⟩, List.mem_of_getElem? (i := 1106) (by decide +kernel), List.mem_of_getElem? (i := 1690) (by decide +kernel), List.mem_of_getElem? (i := 1691) (by decide +kernel)⟩
theorem lw_p102 : lw_okq (⟨"ClashFreeModel", "octet1", "(J)V"⟩, 47) := ⟨⟨by decide +kernel, by decide +kernel⟩, List.mem_of_getElem? (i := 1106) (by decide +kernel), List.mem_of_getElem? (i := 1694) (by decide +kernel), List.mem_of_getElem? (i := 1695) (by decide +kernel)⟩
theorem lw_p103 : lw_okq (⟨"ClashFreeModel", "isImage", "(I)Z"⟩, 47) := ⟨⟨by decide +kernel, by decide +kernel⟩, List.mem_of_getElem? (i := 1106) (by decide +kernel), List.mem_of_getElem? (i := 1707) (by decide +kernel), List.mem_of_getElem? (i := 1708) (by decide +kernel)⟩
theorem lw_p104 : lw_okq (⟨"ClashFreeModel", "bytesAt", "(II)J"⟩, 47) := ⟨⟨by decide +kernel, by decide +kernel⟩, List.mem_of_getElem? (i := 1106) (by decide +kernel), List.mem_of_getElem? (i := 1711) (by decide +kernel), List.mem_of_getElem? (i := 1712) (by decide +kernel)⟩
def lw_privs_7 : List (MethodName × Nat) := [(⟨"ClashFreeModel", "begins", "(I)V"⟩, 47), (⟨"ClashFreeModel", "isAbove", "()Z"⟩, 47), (⟨"ClashFreeModel", "isStep", "()Z"⟩, 47), (⟨"ClashFreeModel", "closes", "(I)V"⟩, 47), (⟨"ClashFreeModel", "does", "(II)V"⟩, 47), (⟨"ClashFreeModel", "octetsOf", "(JI)V"⟩, 47), (⟨"ClashFreeModel", "octet1", "(J)V"⟩, 47), (⟨"ClashFreeModel", "isImage", "(I)Z"⟩, 47), (⟨"ClashFreeModel", "bytesAt", "(II)J"⟩, 47)]
theorem lw_r7 : ∀ q ∈ lw_privs_7, lw_okq q := List.forall_mem_cons.mpr ⟨lw_p96, List.forall_mem_cons.mpr ⟨lw_p97, List.forall_mem_cons.mpr ⟨lw_p98, List.forall_mem_cons.mpr ⟨lw_p99, List.forall_mem_cons.mpr ⟨lw_p100, List.forall_mem_cons.mpr ⟨lw_p101, List.forall_mem_cons.mpr ⟨lw_p102, List.forall_mem_cons.mpr ⟨lw_p103, List.forall_mem_cons.mpr ⟨lw_p104, fun _ h => absurd h List.not_mem_nil⟩⟩⟩⟩⟩⟩⟩⟩⟩
def lw_privs : List (MethodName × Nat) := lw_privs_1 ++ (lw_privs_2 ++ (lw_privs_3 ++ (lw_privs_4 ++ (lw_privs_5 ++ (lw_privs_6 ++ (lw_privs_7))))))
def lw_tbl : List Cond := k2_sels lw_privs ++ tables_1
theorem lw_privs_ok : ∀ q ∈ lw_privs, lw_okq q := by
  show ∀ q ∈ lw_privs_1 ++ (lw_privs_2 ++ (lw_privs_3 ++ (lw_privs_4 ++ (lw_privs_5 ++ (lw_privs_6 ++ (lw_privs_7)))))), lw_okq q
  exact List.forall_mem_append.mpr ⟨lw_r1, List.forall_mem_append.mpr ⟨lw_r2, List.forall_mem_append.mpr ⟨lw_r3, List.forall_mem_append.mpr ⟨lw_r4, List.forall_mem_append.mpr ⟨lw_r5, List.forall_mem_append.mpr ⟨lw_r6, lw_r7⟩⟩⟩⟩⟩⟩
-- ===== end of PART A; then your names; then what follows =====
end
section
/-! ===== BEGIN words of one list among another's, by their places ===== -/
theorem goodIn_r {big : List Cond} (ws : List Cond) (ps : List Nat) (hp : ws = ps.filterMap (fun i => big[i]?)) (h : ws.all goodWord = true) : GoodIn big ws := by
  intro w hw
  have h1 := List.all_eq_true.mp h w hw
  rw [hp] at hw
  obtain ⟨i, -, hi⟩ := List.mem_filterMap.mp hw
  have hm : w ∈ big := by first | exact List.mem_of_getElem? hi | exact List.getElem?_mem hi
  exact ⟨hm, good_of_word h1⟩
theorem goodIn_app {big a b : List Cond} (ha : GoodIn big a) (hb : GoodIn big b) : GoodIn big (a ++ b) := fun w h => (List.mem_append.mp h).elim (ha w) (hb w)
theorem goodIn_ca {big a b : List Cond} {c : Cond} (ha : GoodIn big (c :: a)) (hb : GoodIn big b) : GoodIn big (c :: (a ++ b)) := fun w h => (List.mem_cons.mp h).elim (fun e => ha w (List.mem_cons.mpr (Or.inl e))) (fun h => (List.mem_append.mp h).elim (fun h => ha w (List.mem_cons.mpr (Or.inr h))) (hb w))
theorem goodIn_sub {big ws : List Cond} (hm : ∀ w ∈ ws, w ∈ big) (h : ws.all goodWord = true) : GoodIn big ws := fun w hw => ⟨hm w hw, good_of_word (List.all_eq_true.mp h w hw)⟩
/-! ===== END ===== -/

/-! ===== BEGIN printed: names, fields, word lists, decode rows ===== -/
def RX0 : String := "ClashFree$Draw"
def TX0 : u_T := fun k => match k with
  | 0 => ("ClashFree$Draw", "s", "J", false)
  | 1 => ("ClashFree$Draw", "a", "I", false)
  | 2 => ("ClashFree$Draw", "b", "I", false)
  | _ => ("ClashFree$Draw", "pairs", "I", false)
def tyX0 : Nat → FieldType := fun k => match k with
  | 0 => .long
  | 1 => .int
  | 2 => .int
  | _ => .int
abbrev wsX00 : List Cond := u_ws RX0 TX0 4
theorem nmX0 : ∀ a, a < 4 → ∀ b, b < 4 → a ≠ b → (TX0 a).2.1 ≠ (TX0 b).2.1 := by decide +kernel
theorem tyX0_ok : ∀ k, k < 4 → parseFieldDescriptor (TX0 k).2.2.1 = some (tyX0 k) := by decide +kernel
abbrev cX0_init : ByteArray := prog_2_method_1_code
def yX0_init : MethodName := ⟨RX0, "<init>", "()V"⟩
abbrev cX0_begin : ByteArray := prog_2_method_2_code
def yX0_begin : MethodName := ⟨RX0, "begin", "(J)V"⟩
abbrev cX0_pair : ByteArray := prog_2_method_3_code
def yX0_pair : MethodName := ⟨RX0, "pair", "()V"⟩
def RX1 : String := "ClashFree$Image"
def TX1 : u_T := fun k => match k with
  | 0 => ("ClashFree$Image", "length", "I", false)
  | _ => ("ClashFree$Image", "bytes", "[I", true)
def tyX1 : Nat → FieldType := fun k => match k with
  | 0 => .int
  | _ => .array .int
abbrev wsX10 : List Cond := u_ws RX1 TX1 2
theorem nmX1 : ∀ a, a < 2 → ∀ b, b < 2 → a ≠ b → (TX1 a).2.1 ≠ (TX1 b).2.1 := by decide +kernel
theorem tyX1_ok : ∀ k, k < 2 → parseFieldDescriptor (TX1 k).2.2.1 = some (tyX1 k) := by decide +kernel
abbrev cX1_init : ByteArray := prog_3_method_1_code
def yX1_init : MethodName := ⟨RX1, "<init>", "()V"⟩
abbrev cX1_write : ByteArray := prog_3_method_2_code
def yX1_write : MethodName := ⟨RX1, "write", "(LClashFree$Table;)V"⟩
def RX2 : String := "ClashFree$Keys"
def TX2 : u_T := fun k => match k with
  | 0 => ("ClashFree$Keys", "size", "I", false)
  | 1 => ("ClashFree$Keys", "keys", "[I", true)
  | _ => ("ClashFree$Keys", "values", "[I", true)
def tyX2 : Nat → FieldType := fun k => match k with
  | 0 => .int
  | 1 => .array .int
  | _ => .array .int
abbrev wsX20 : List Cond := u_ws RX2 TX2 3
theorem nmX2 : ∀ a, a < 3 → ∀ b, b < 3 → a ≠ b → (TX2 a).2.1 ≠ (TX2 b).2.1 := by decide +kernel
theorem tyX2_ok : ∀ k, k < 3 → parseFieldDescriptor (TX2 k).2.2.1 = some (tyX2 k) := by decide +kernel
abbrev cX2_init : ByteArray := prog_4_method_1_code
def yX2_init : MethodName := ⟨RX2, "<init>", "()V"⟩
abbrev cX2_keyAt : ByteArray := prog_4_method_2_code
def yX2_keyAt : MethodName := ⟨RX2, "keyAt", "(I)I"⟩
abbrev cX2_valueAt : ByteArray := prog_4_method_3_code
def yX2_valueAt : MethodName := ⟨RX2, "valueAt", "(I)I"⟩
abbrev cX2_rank : ByteArray := prog_4_method_4_code
def yX2_rank : MethodName := ⟨RX2, "rank", "(I)I"⟩
abbrev cX2_find : ByteArray := prog_4_method_5_code
def yX2_find : MethodName := ⟨RX2, "find", "(I)I"⟩
abbrev cX2_closest : ByteArray := prog_4_method_6_code
def yX2_closest : MethodName := ⟨RX2, "closest", "(I)I"⟩
abbrev cX2_insert : ByteArray := prog_4_method_7_code
def yX2_insert : MethodName := ⟨RX2, "insert", "(III)V"⟩
abbrev cX2_remove : ByteArray := prog_4_method_8_code
def yX2_remove : MethodName := ⟨RX2, "remove", "(I)V"⟩
abbrev cX2_sharedWith : ByteArray := prog_4_method_9_code
def yX2_sharedWith : MethodName := ⟨RX2, "sharedWith", "(LClashFree$Keys;Z)I"⟩
abbrev cX2_greatest : ByteArray := prog_4_method_10_code
def yX2_greatest : MethodName := ⟨RX2, "greatest", "()I"⟩
abbrev cX2_valueSum : ByteArray := prog_4_method_11_code
def yX2_valueSum : MethodName := ⟨RX2, "valueSum", "()J"⟩
abbrev cX2_become : ByteArray := prog_4_method_12_code
def yX2_become : MethodName := ⟨RX2, "become", "(LClashFree$Keys;)V"⟩
def RX3 : String := "ClashFree$Layout"
def TX3 : u_T := fun k => match k with
  | 0 => ("ClashFree$Layout", "buckets", "I", false)
  | 1 => ("ClashFree$Layout", "a", "I", false)
  | 2 => ("ClashFree$Layout", "b", "I", false)
  | 3 => ("ClashFree$Layout", "sum", "I", false)
  | 4 => ("ClashFree$Layout", "size", "I", false)
  | 5 => ("ClashFree$Layout", "held", "[I", true)
  | 6 => ("ClashFree$Layout", "roof", "[I", true)
  | 7 => ("ClashFree$Layout", "pairA", "[I", true)
  | 8 => ("ClashFree$Layout", "pairB", "[I", true)
  | 9 => ("ClashFree$Layout", "home", "[I", true)
  | 10 => ("ClashFree$Layout", "lies", "[I", true)
  | 11 => ("ClashFree$Layout", "order", "[I", true)
  | _ => ("ClashFree$Layout", "next", "[I", true)
def tyX3 : Nat → FieldType := fun k => match k with
  | 0 => .int
  | 1 => .int
  | 2 => .int
  | 3 => .int
  | 4 => .int
  | 5 => .array .int
  | 6 => .array .int
  | 7 => .array .int
  | 8 => .array .int
  | 9 => .array .int
  | 10 => .array .int
  | 11 => .array .int
  | _ => .array .int
abbrev wsX30 : List Cond := u_ws RX3 TX3 13
theorem nmX3 : ∀ a, a < 13 → ∀ b, b < 13 → a ≠ b → (TX3 a).2.1 ≠ (TX3 b).2.1 := by decide +kernel
theorem tyX3_ok : ∀ k, k < 13 → parseFieldDescriptor (TX3 k).2.2.1 = some (tyX3 k) := by decide +kernel
abbrev cX3_init : ByteArray := prog_5_method_1_code
def yX3_init : MethodName := ⟨RX3, "<init>", "()V"⟩
abbrev cX3_isBucket : ByteArray := prog_5_method_2_code
def yX3_isBucket : MethodName := ⟨RX3, "isBucket", "(I)Z"⟩
abbrev cX3_roomsOf : ByteArray := prog_5_method_3_code
def yX3_roomsOf : MethodName := ⟨RX3, "roomsOf", "(I)I"⟩
abbrev cX3_homeOf : ByteArray := prog_5_method_4_code
def yX3_homeOf : MethodName := ⟨RX3, "homeOf", "(I)I"⟩
abbrev cX3_roomOf : ByteArray := prog_5_method_5_code
def yX3_roomOf : MethodName := ⟨RX3, "roomOf", "(II)I"⟩
abbrev cX3_tenant : ByteArray := prog_5_method_6_code
def yX3_tenant : MethodName := ⟨RX3, "tenant", "(II)I"⟩
abbrev cX3_nthByRooms : ByteArray := prog_5_method_7_code
def yX3_nthByRooms : MethodName := ⟨RX3, "nthByRooms", "(I)I"⟩
abbrev cX3_bucketsWith : ByteArray := prog_5_method_8_code
def yX3_bucketsWith : MethodName := ⟨RX3, "bucketsWith", "(I)I"⟩
abbrev cX3_fullest : ByteArray := prog_5_method_9_code
def yX3_fullest : MethodName := ⟨RX3, "fullest", "()I"⟩
abbrev cX3_twos : ByteArray := prog_5_method_10_code
def yX3_twos : MethodName := ⟨RX3, "twos", "()I"⟩
abbrev cX3_sweep : ByteArray := prog_5_method_11_code
def yX3_sweep : MethodName := ⟨RX3, "sweep", "()V"⟩
abbrev cX3_deal : ByteArray := prog_5_method_12_code
def yX3_deal : MethodName := ⟨RX3, "deal", "(LClashFree$Keys;III)I"⟩
abbrev cX3_settle : ByteArray := prog_5_method_13_code
def yX3_settle : MethodName := ⟨RX3, "settle", "(I)V"⟩
abbrev cX3_gather : ByteArray := prog_5_method_14_code
def yX3_gather : MethodName := ⟨RX3, "gather", "(I)I"⟩
abbrev cX3_buildBucket : ByteArray := prog_5_method_15_code
def yX3_buildBucket : MethodName := ⟨RX3, "buildBucket", "(LClashFree$Keys;LClashFree$Draw;II)V"⟩
abbrev cX3_raised : ByteArray := prog_5_method_16_code
def yX3_raised : MethodName := ⟨RX3, "raised", "(I)I"⟩
abbrev cX3_raise : ByteArray := prog_5_method_17_code
def yX3_raise : MethodName := ⟨RX3, "raise", "(I)V"⟩
abbrev cX3_insert : ByteArray := prog_5_method_18_code
def yX3_insert : MethodName := ⟨RX3, "insert", "(II)V"⟩
abbrev cX3_remove : ByteArray := prog_5_method_19_code
def yX3_remove : MethodName := ⟨RX3, "remove", "(I)V"⟩
abbrev cX3_roomOfAll : ByteArray := prog_5_method_20_code
def yX3_roomOfAll : MethodName := ⟨RX3, "roomOfAll", "(I)I"⟩
abbrev cX3_become : ByteArray := prog_5_method_21_code
def yX3_become : MethodName := ⟨RX3, "become", "(LClashFree$Layout;)V"⟩
def RX4 : String := "ClashFree$Machine"
def TX4 : u_T := fun k => match k with
  | 0 => ("ClashFree$Machine", "steps", "I", false)
  | 1 => ("ClashFree$Machine", "refused", "I", false)
  | 2 => ("ClashFree$Machine", "latest", "I", false)
  | 3 => ("ClashFree$Machine", "ended", "Z", false)
  | 4 => ("ClashFree$Machine", "loops", "I", false)
  | 5 => ("ClashFree$Machine", "roundOf", "[I", true)
  | 6 => ("ClashFree$Machine", "operandsSize", "I", false)
  | _ => ("ClashFree$Machine", "operands", "[I", true)
def tyX4 : Nat → FieldType := fun k => match k with
  | 0 => .int
  | 1 => .int
  | 2 => .int
  | 3 => .boolean
  | 4 => .int
  | 5 => .array .int
  | 6 => .int
  | _ => .array .int
abbrev wsX40 : List Cond := u_ws RX4 TX4 8
theorem nmX4 : ∀ a, a < 8 → ∀ b, b < 8 → a ≠ b → (TX4 a).2.1 ≠ (TX4 b).2.1 := by decide +kernel
theorem tyX4_ok : ∀ k, k < 8 → parseFieldDescriptor (TX4 k).2.2.1 = some (tyX4 k) := by decide +kernel
abbrev cX4_init : ByteArray := prog_6_method_1_code
def yX4_init : MethodName := ⟨RX4, "<init>", "()V"⟩
abbrev cX4_begin : ByteArray := prog_6_method_2_code
def yX4_begin : MethodName := ⟨RX4, "begin", "()V"⟩
abbrev cX4_work : ByteArray := prog_6_method_3_code
def yX4_work : MethodName := ⟨RX4, "work", "(LClashFree$Program;LClashFree$Table;)V"⟩
abbrev cX4_push : ByteArray := prog_6_method_4_code
def yX4_push : MethodName := ⟨RX4, "push", "(I)V"⟩
abbrev cX4_pop : ByteArray := prog_6_method_5_code
def yX4_pop : MethodName := ⟨RX4, "pop", "()I"⟩
abbrev cX4_step : ByteArray := prog_6_method_6_code
def yX4_step : MethodName := ⟨RX4, "step", "()Z"⟩
abbrev cX4_beginRounds : ByteArray := prog_6_method_7_code
def yX4_beginRounds : MethodName := ⟨RX4, "beginRounds", "(LClashFree$Program;I)I"⟩
abbrev cX4_goRound : ByteArray := prog_6_method_8_code
def yX4_goRound : MethodName := ⟨RX4, "goRound", "(LClashFree$Program;I)I"⟩
abbrev cX4_calculate : ByteArray := prog_6_method_9_code
def yX4_calculate : MethodName := ⟨RX4, "calculate", "(I)V"⟩
abbrev cX4_act : ByteArray := prog_6_method_10_code
def yX4_act : MethodName := ⟨RX4, "act", "(ILClashFree$Table;)V"⟩
abbrev cX4_look : ByteArray := prog_6_method_11_code
def yX4_look : MethodName := ⟨RX4, "look", "(ILClashFree$Table;)V"⟩
def RX5 : String := "ClashFree$Paper"
def TX5 : u_T := fun k => match k with
  | 0 => ("ClashFree$Paper", "draw", "LClashFree$Draw;", true)
  | 1 => ("ClashFree$Paper", "layout", "LClashFree$Layout;", true)
  | _ => ("ClashFree$Paper", "outerPairs", "I", false)
def tyX5 : Nat → FieldType := fun k => match k with
  | 0 => .object "ClashFree$Draw"
  | 1 => .object "ClashFree$Layout"
  | _ => .int
abbrev wsX50 : List Cond := u_ws RX5 TX5 3
theorem nmX5 : ∀ a, a < 3 → ∀ b, b < 3 → a ≠ b → (TX5 a).2.1 ≠ (TX5 b).2.1 := by decide +kernel
theorem tyX5_ok : ∀ k, k < 3 → parseFieldDescriptor (TX5 k).2.2.1 = some (tyX5 k) := by decide +kernel
abbrev cX5_init : ByteArray := prog_7_method_1_code
def yX5_init : MethodName := ⟨RX5, "<init>", "()V"⟩
abbrev cX5_dealt : ByteArray := prog_7_method_2_code
def yX5_dealt : MethodName := ⟨RX5, "dealt", "(LClashFree$Keys;IIII)I"⟩
abbrev cX5_leastSum : ByteArray := prog_7_method_3_code
def yX5_leastSum : MethodName := ⟨RX5, "leastSum", "(LClashFree$Table;IJI)I"⟩
abbrev cX5_clashes : ByteArray := prog_7_method_4_code
def yX5_clashes : MethodName := ⟨RX5, "clashes", "(LClashFree$Table;III)I"⟩
abbrev cX5_clashesOf : ByteArray := prog_7_method_5_code
def yX5_clashesOf : MethodName := ⟨RX5, "clashesOf", "(LClashFree$Table;IIII)I"⟩
abbrev cX5_tried : ByteArray := prog_7_method_6_code
def yX5_tried : MethodName := ⟨RX5, "tried", "(LClashFree$Table;IIJI)I"⟩
abbrev cX5_freeze : ByteArray := prog_7_method_7_code
def yX5_freeze : MethodName := ⟨RX5, "freeze", "(LClashFree$Keys;J)Z"⟩
abbrev cX5_edgeRoom : ByteArray := prog_7_method_8_code
def yX5_edgeRoom : MethodName := ⟨RX5, "edgeRoom", "(Z)I"⟩
def RX6 : String := "ClashFree$Parser"
def TX6 : u_T := fun k => match k with
  | 0 => ("ClashFree$Parser", "fault", "I", false)
  | 1 => ("ClashFree$Parser", "faultPlace", "I", false)
  | 2 => ("ClashFree$Parser", "faultDepth", "I", false)
  | 3 => ("ClashFree$Parser", "program", "LClashFree$Program;", true)
  | 4 => ("ClashFree$Parser", "scan", "LClashFree$Scanner;", true)
  | 5 => ("ClashFree$Parser", "state", "I", false)
  | 6 => ("ClashFree$Parser", "statement", "I", false)
  | 7 => ("ClashFree$Parser", "began", "I", false)
  | 8 => ("ClashFree$Parser", "heading", "Z", false)
  | 9 => ("ClashFree$Parser", "rounds", "I", false)
  | 10 => ("ClashFree$Parser", "parens", "I", false)
  | 11 => ("ClashFree$Parser", "blocks", "I", false)
  | 12 => ("ClashFree$Parser", "opened", "[I", true)
  | 13 => ("ClashFree$Parser", "waitingSize", "I", false)
  | _ => ("ClashFree$Parser", "waiting", "[I", true)
def tyX6 : Nat → FieldType := fun k => match k with
  | 0 => .int
  | 1 => .int
  | 2 => .int
  | 3 => .object "ClashFree$Program"
  | 4 => .object "ClashFree$Scanner"
  | 5 => .int
  | 6 => .int
  | 7 => .int
  | 8 => .boolean
  | 9 => .int
  | 10 => .int
  | 11 => .int
  | 12 => .array .int
  | 13 => .int
  | _ => .array .int
abbrev wsX60 : List Cond := u_ws RX6 TX6 15
theorem nmX6 : ∀ a, a < 15 → ∀ b, b < 15 → a ≠ b → (TX6 a).2.1 ≠ (TX6 b).2.1 := by decide +kernel
theorem tyX6_ok : ∀ k, k < 15 → parseFieldDescriptor (TX6 k).2.2.1 = some (tyX6 k) := by decide +kernel
abbrev cX6_init : ByteArray := prog_8_method_1_code
def yX6_init : MethodName := ⟨RX6, "<init>", "()V"⟩
abbrev cX6_parse : ByteArray := prog_8_method_2_code
def yX6_parse : MethodName := ⟨RX6, "parse", "([II)V"⟩
abbrev cX6_note : ByteArray := prog_8_method_3_code
def yX6_note : MethodName := ⟨RX6, "note", "(II)V"⟩
abbrev cX6_refuse : ByteArray := prog_8_method_4_code
def yX6_refuse : MethodName := ⟨RX6, "refuse", "()V"⟩
abbrev cX6_accept : ByteArray := prog_8_method_5_code
def yX6_accept : MethodName := ⟨RX6, "accept", "(I)V"⟩
abbrev cX6_acceptStatement : ByteArray := prog_8_method_6_code
def yX6_acceptStatement : MethodName := ⟨RX6, "acceptStatement", "(I)V"⟩
abbrev cX6_acceptEnd : ByteArray := prog_8_method_7_code
def yX6_acceptEnd : MethodName := ⟨RX6, "acceptEnd", "(I)V"⟩
abbrev cX6_acceptUnit : ByteArray := prog_8_method_8_code
def yX6_acceptUnit : MethodName := ⟨RX6, "acceptUnit", "(I)V"⟩
abbrev cX6_acceptBehindUnit : ByteArray := prog_8_method_9_code
def yX6_acceptBehindUnit : MethodName := ⟨RX6, "acceptBehindUnit", "(I)V"⟩
abbrev cX6_acceptClosing : ByteArray := prog_8_method_10_code
def yX6_acceptClosing : MethodName := ⟨RX6, "acceptClosing", "(I)V"⟩
abbrev cX6_acceptSumEnd : ByteArray := prog_8_method_11_code
def yX6_acceptSumEnd : MethodName := ⟨RX6, "acceptSumEnd", "(I)V"⟩
abbrev cX6_acceptRounds : ByteArray := prog_8_method_12_code
def yX6_acceptRounds : MethodName := ⟨RX6, "acceptRounds", "(I)V"⟩
abbrev cX6_acceptOpening : ByteArray := prog_8_method_13_code
def yX6_acceptOpening : MethodName := ⟨RX6, "acceptOpening", "(I)V"⟩
abbrev cX6_acceptBehindBlock : ByteArray := prog_8_method_14_code
def yX6_acceptBehindBlock : MethodName := ⟨RX6, "acceptBehindBlock", "(I)V"⟩
abbrev cX6_open : ByteArray := prog_8_method_15_code
def yX6_open : MethodName := ⟨RX6, "open", "(II)V"⟩
abbrev cX6_close : ByteArray := prog_8_method_16_code
def yX6_close : MethodName := ⟨RX6, "close", "()V"⟩
abbrev cX6_strength : ByteArray := prog_8_method_17_code
def yX6_strength : MethodName := ⟨RX6, "strength", "(I)I"⟩
abbrev cX6_await : ByteArray := prog_8_method_18_code
def yX6_await : MethodName := ⟨RX6, "await", "(I)V"⟩
abbrev cX6_release : ByteArray := prog_8_method_19_code
def yX6_release : MethodName := ⟨RX6, "release", "(I)V"⟩
def RX7 : String := "ClashFree$Program"
def TX7 : u_T := fun k => match k with
  | 0 => ("ClashFree$Program", "size", "I", false)
  | 1 => ("ClashFree$Program", "kinds", "[I", true)
  | 2 => ("ClashFree$Program", "numbers", "[I", true)
  | _ => ("ClashFree$Program", "links", "[I", true)
def tyX7 : Nat → FieldType := fun k => match k with
  | 0 => .int
  | 1 => .array .int
  | 2 => .array .int
  | _ => .array .int
abbrev wsX70 : List Cond := u_ws RX7 TX7 4
theorem nmX7 : ∀ a, a < 4 → ∀ b, b < 4 → a ≠ b → (TX7 a).2.1 ≠ (TX7 b).2.1 := by decide +kernel
theorem tyX7_ok : ∀ k, k < 4 → parseFieldDescriptor (TX7 k).2.2.1 = some (tyX7 k) := by decide +kernel
abbrev cX7_init : ByteArray := prog_9_method_1_code
def yX7_init : MethodName := ⟨RX7, "<init>", "()V"⟩
abbrev cX7_add : ByteArray := prog_9_method_2_code
def yX7_add : MethodName := ⟨RX7, "add", "(II)V"⟩
abbrev cX7_link : ByteArray := prog_9_method_3_code
def yX7_link : MethodName := ⟨RX7, "link", "(II)V"⟩
abbrev cX7_isFor : ByteArray := prog_9_method_4_code
def yX7_isFor : MethodName := ⟨RX7, "isFor", "(I)Z"⟩
def RX8 : String := "ClashFree$Scanner"
def TX8 : u_T := fun k => match k with
  | 0 => ("ClashFree$Scanner", "text", "[I", false)
  | 1 => ("ClashFree$Scanner", "length", "I", false)
  | 2 => ("ClashFree$Scanner", "at", "I", false)
  | 3 => ("ClashFree$Scanner", "behind", "I", false)
  | 4 => ("ClashFree$Scanner", "kind", "I", false)
  | 5 => ("ClashFree$Scanner", "number", "I", false)
  | _ => ("ClashFree$Scanner", "wordy", "Z", false)
def tyX8 : Nat → FieldType := fun k => match k with
  | 0 => .array .int
  | 1 => .int
  | 2 => .int
  | 3 => .int
  | 4 => .int
  | 5 => .int
  | _ => .boolean
abbrev wsX80 : List Cond := u_ws RX8 TX8 7
theorem nmX8 : ∀ a, a < 7 → ∀ b, b < 7 → a ≠ b → (TX8 a).2.1 ≠ (TX8 b).2.1 := by decide +kernel
theorem tyX8_ok : ∀ k, k < 7 → parseFieldDescriptor (TX8 k).2.2.1 = some (tyX8 k) := by decide +kernel
abbrev cX8_init : ByteArray := prog_10_method_1_code
def yX8_init : MethodName := ⟨RX8, "<init>", "()V"⟩
abbrev cX8_begin : ByteArray := prog_10_method_2_code
def yX8_begin : MethodName := ⟨RX8, "begin", "([II)V"⟩
abbrev cX8_byteAt : ByteArray := prog_10_method_3_code
def yX8_byteAt : MethodName := ⟨RX8, "byteAt", "(I)I"⟩
abbrev cX8_isDigit : ByteArray := prog_10_method_4_code
def yX8_isDigit : MethodName := ⟨RX8, "isDigit", "(I)Z"⟩
abbrev cX8_isLetter : ByteArray := prog_10_method_5_code
def yX8_isLetter : MethodName := ⟨RX8, "isLetter", "(I)Z"⟩
abbrev cX8_advance : ByteArray := prog_10_method_6_code
def yX8_advance : MethodName := ⟨RX8, "advance", "()V"⟩
abbrev cX8_takeNumber : ByteArray := prog_10_method_7_code
def yX8_takeNumber : MethodName := ⟨RX8, "takeNumber", "()V"⟩
abbrev cX8_takeWord : ByteArray := prog_10_method_8_code
def yX8_takeWord : MethodName := ⟨RX8, "takeWord", "()V"⟩
abbrev cX8_wordKind : ByteArray := prog_10_method_9_code
def yX8_wordKind : MethodName := ⟨RX8, "wordKind", "()I"⟩
abbrev cX8_is : ByteArray := prog_10_method_10_code
def yX8_is : MethodName := ⟨RX8, "is", "(Ljava/lang/String;)Z"⟩
abbrev cX8_takeSign : ByteArray := prog_10_method_11_code
def yX8_takeSign : MethodName := ⟨RX8, "takeSign", "(I)V"⟩
def RX9 : String := "ClashFree$Table"
def TX9 : u_T := fun k => match k with
  | 0 => ("ClashFree$Table", "bound", "I", false)
  | 1 => ("ClashFree$Table", "spread", "I", false)
  | 2 => ("ClashFree$Table", "growth", "I", false)
  | 3 => ("ClashFree$Table", "limit", "I", false)
  | 4 => ("ClashFree$Table", "count", "I", false)
  | 5 => ("ClashFree$Table", "reads", "I", false)
  | 6 => ("ClashFree$Table", "bucketsBuilt", "I", false)
  | 7 => ("ClashFree$Table", "allBuilt", "I", false)
  | 8 => ("ClashFree$Table", "laid", "I", false)
  | 9 => ("ClashFree$Table", "draw", "LClashFree$Draw;", true)
  | 10 => ("ClashFree$Table", "keys", "LClashFree$Keys;", true)
  | _ => ("ClashFree$Table", "layout", "LClashFree$Layout;", true)
def tyX9 : Nat → FieldType := fun k => match k with
  | 0 => .int
  | 1 => .int
  | 2 => .int
  | 3 => .int
  | 4 => .int
  | 5 => .int
  | 6 => .int
  | 7 => .int
  | 8 => .int
  | 9 => .object "ClashFree$Draw"
  | 10 => .object "ClashFree$Keys"
  | _ => .object "ClashFree$Layout"
abbrev wsX90 : List Cond := u_ws RX9 TX9 12
theorem nmX9 : ∀ a, a < 12 → ∀ b, b < 12 → a ≠ b → (TX9 a).2.1 ≠ (TX9 b).2.1 := by decide +kernel
theorem tyX9_ok : ∀ k, k < 12 → parseFieldDescriptor (TX9 k).2.2.1 = some (tyX9 k) := by decide +kernel
abbrev cX9_init : ByteArray := prog_11_method_1_code
def yX9_init : MethodName := ⟨RX9, "<init>", "()V"⟩
abbrev cX9_begin : ByteArray := prog_11_method_2_code
def yX9_begin : MethodName := ⟨RX9, "begin", "(IIIJ)V"⟩
abbrev cX9_mostRooms : ByteArray := prog_11_method_3_code
def yX9_mostRooms : MethodName := ⟨RX9, "mostRooms", "()I"⟩
abbrev cX9_buildAll : ByteArray := prog_11_method_4_code
def yX9_buildAll : MethodName := ⟨RX9, "buildAll", "()V"⟩
abbrev cX9_countReads : ByteArray := prog_11_method_5_code
def yX9_countReads : MethodName := ⟨RX9, "countReads", "(I)V"⟩
abbrev cX9_isFullFor : ByteArray := prog_11_method_6_code
def yX9_isFullFor : MethodName := ⟨RX9, "isFullFor", "(I)Z"⟩
abbrev cX9_foretell : ByteArray := prog_11_method_7_code
def yX9_foretell : MethodName := ⟨RX9, "foretell", "(I)I"⟩
abbrev cX9_lay : ByteArray := prog_11_method_8_code
def yX9_lay : MethodName := ⟨RX9, "lay", "(II)I"⟩
abbrev cX9_take : ByteArray := prog_11_method_9_code
def yX9_take : MethodName := ⟨RX9, "take", "(I)I"⟩
abbrev cX9_become : ByteArray := prog_11_method_10_code
def yX9_become : MethodName := ⟨RX9, "become", "(LClashFree$Table;)V"⟩
def RX10 : String := "ClashFree"
def TX10 : u_T := fun k => match k with
  | 0 => ("ClashFree", "tables", "[LClashFree$Table;", true)
  | 1 => ("ClashFree", "tape", "[I", true)
  | 2 => ("ClashFree", "taped", "I", false)
  | 3 => ("ClashFree", "paper", "LClashFree$Paper;", true)
  | 4 => ("ClashFree", "written", "LClashFree$Image;", true)
  | 5 => ("ClashFree", "parser", "LClashFree$Parser;", true)
  | _ => ("ClashFree", "machine", "LClashFree$Machine;", true)
def tyX10 : Nat → FieldType := fun k => match k with
  | 0 => .array (.object "ClashFree$Table")
  | 1 => .array .int
  | 2 => .int
  | 3 => .object "ClashFree$Paper"
  | 4 => .object "ClashFree$Image"
  | 5 => .object "ClashFree$Parser"
  | _ => .object "ClashFree$Machine"
abbrev wsX100 : List Cond := u_ws RX10 TX10 7
theorem nmX10 : ∀ a, a < 7 → ∀ b, b < 7 → a ≠ b → (TX10 a).2.1 ≠ (TX10 b).2.1 := by decide +kernel
theorem tyX10_ok : ∀ k, k < 7 → parseFieldDescriptor (TX10 k).2.2.1 = some (tyX10 k) := by decide +kernel
abbrev cX10_init : ByteArray := prog_1_method_1_code
def yX10_init : MethodName := ⟨RX10, "<init>", "()V"⟩
abbrev cX10_feed : ByteArray := prog_1_method_2_code
def yX10_feed : MethodName := ⟨RX10, "feed", "(IIIII)I"⟩
abbrev cX10_end : ByteArray := prog_1_method_3_code
def yX10_end : MethodName := ⟨RX10, "end", "(I)Z"⟩
abbrev cX10_make : ByteArray := prog_1_method_4_code
def yX10_make : MethodName := ⟨RX10, "make", "(IIIIJ)I"⟩
abbrev cX10_put : ByteArray := prog_1_method_5_code
def yX10_put : MethodName := ⟨RX10, "put", "(III)I"⟩
abbrev cX10_get : ByteArray := prog_1_method_6_code
def yX10_get : MethodName := ⟨RX10, "get", "(II)J"⟩
abbrev cX10_drop : ByteArray := prog_1_method_7_code
def yX10_drop : MethodName := ⟨RX10, "drop", "(II)I"⟩
abbrev cX10_build : ByteArray := prog_1_method_8_code
def yX10_build : MethodName := ⟨RX10, "build", "(I)I"⟩
abbrev cX10_has : ByteArray := prog_1_method_9_code
def yX10_has : MethodName := ⟨RX10, "has", "(II)J"⟩
abbrev cX10_bucket : ByteArray := prog_1_method_10_code
def yX10_bucket : MethodName := ⟨RX10, "bucket", "(III)J"⟩
abbrev cX10_room : ByteArray := prog_1_method_11_code
def yX10_room : MethodName := ⟨RX10, "room", "(III)I"⟩
abbrev cX10_place : ByteArray := prog_1_method_12_code
def yX10_place : MethodName := ⟨RX10, "place", "(III)I"⟩
abbrev cX10_key : ByteArray := prog_1_method_13_code
def yX10_key : MethodName := ⟨RX10, "key", "(II)I"⟩
abbrev cX10_walk : ByteArray := prog_1_method_14_code
def yX10_walk : MethodName := ⟨RX10, "walk", "(II)I"⟩
abbrev cX10_below : ByteArray := prog_1_method_15_code
def yX10_below : MethodName := ⟨RX10, "below", "(II)I"⟩
abbrev cX10_nearest : ByteArray := prog_1_method_16_code
def yX10_nearest : MethodName := ⟨RX10, "nearest", "(II)I"⟩
abbrev cX10_many : ByteArray := prog_1_method_17_code
def yX10_many : MethodName := ⟨RX10, "many", "(II)I"⟩
abbrev cX10_crowd : ByteArray := prog_1_method_18_code
def yX10_crowd : MethodName := ⟨RX10, "crowd", "(II)I"⟩
abbrev cX10_empty : ByteArray := prog_1_method_19_code
def yX10_empty : MethodName := ⟨RX10, "empty", "(I)I"⟩
abbrev cX10_left : ByteArray := prog_1_method_20_code
def yX10_left : MethodName := ⟨RX10, "left", "(I)I"⟩
abbrev cX10_outer : ByteArray := prog_1_method_21_code
def yX10_outer : MethodName := ⟨RX10, "outer", "(IIIII)J"⟩
abbrev cX10_best : ByteArray := prog_1_method_22_code
def yX10_best : MethodName := ⟨RX10, "best", "(IIJI)J"⟩
abbrev cX10_inner : ByteArray := prog_1_method_23_code
def yX10_inner : MethodName := ⟨RX10, "inner", "(IIII)I"⟩
abbrev cX10_tries : ByteArray := prog_1_method_24_code
def yX10_tries : MethodName := ⟨RX10, "tries", "(IIIJI)I"⟩
abbrev cX10_would : ByteArray := prog_1_method_25_code
def yX10_would : MethodName := ⟨RX10, "would", "(II)I"⟩
abbrev cX10_frozen : ByteArray := prog_1_method_26_code
def yX10_frozen : MethodName := ⟨RX10, "frozen", "(IJI)J"⟩
abbrev cX10_frozenAt : ByteArray := prog_1_method_27_code
def yX10_frozenAt : MethodName := ⟨RX10, "frozenAt", "(IJI)I"⟩
abbrev cX10_shared : ByteArray := prog_1_method_28_code
def yX10_shared : MethodName := ⟨RX10, "shared", "(III)I"⟩
abbrev cX10_join : ByteArray := prog_1_method_29_code
def yX10_join : MethodName := ⟨RX10, "join", "(II)I"⟩
abbrev cX10_cut : ByteArray := prog_1_method_30_code
def yX10_cut : MethodName := ⟨RX10, "cut", "(IIZ)I"⟩
abbrev cX10_values : ByteArray := prog_1_method_31_code
def yX10_values : MethodName := ⟨RX10, "values", "(II)J"⟩
abbrev cX10_run : ByteArray := prog_1_method_32_code
def yX10_run : MethodName := ⟨RX10, "run", "(I)I"⟩
abbrev cX10_ran : ByteArray := prog_1_method_33_code
def yX10_ran : MethodName := ⟨RX10, "ran", "(I)J"⟩
abbrev cX10_image : ByteArray := prog_1_method_34_code
def yX10_image : MethodName := ⟨RX10, "image", "(I)I"⟩
abbrev cX10_octet : ByteArray := prog_1_method_35_code
def yX10_octet : MethodName := ⟨RX10, "octet", "(I)I"⟩
abbrev cX10_back : ByteArray := prog_1_method_36_code
def yX10_back : MethodName := ⟨RX10, "back", "(I)I"⟩
abbrev cX10_copy : ByteArray := prog_1_method_37_code
def yX10_copy : MethodName := ⟨RX10, "copy", "(II)I"⟩
abbrev cX10_count : ByteArray := prog_1_method_38_code
def yX10_count : MethodName := ⟨RX10, "count", "(I)I"⟩
abbrev cX10_countTables : ByteArray := prog_1_method_39_code
def yX10_countTables : MethodName := ⟨RX10, "countTables", "()I"⟩
abbrev cX10_countKeys : ByteArray := prog_1_method_40_code
def yX10_countKeys : MethodName := ⟨RX10, "countKeys", "()I"⟩
abbrev cX10_tableAt : ByteArray := prog_1_method_41_code
def yX10_tableAt : MethodName := ⟨RX10, "tableAt", "(I)LClashFree$Table;"⟩
abbrev cX10_slot : ByteArray := prog_1_method_42_code
def yX10_slot : MethodName := ⟨RX10, "slot", "(I)LClashFree$Table;"⟩
abbrev cX10_isTableNumber : ByteArray := prog_1_method_43_code
def yX10_isTableNumber : MethodName := ⟨RX10, "isTableNumber", "(I)Z"⟩
abbrev cX10_isKey : ByteArray := prog_1_method_44_code
def yX10_isKey : MethodName := ⟨RX10, "isKey", "(I)Z"⟩
abbrev cX10_isPair : ByteArray := prog_1_method_45_code
def yX10_isPair : MethodName := ⟨RX10, "isPair", "(II)Z"⟩
abbrev cX10_areSettings : ByteArray := prog_1_method_46_code
def yX10_areSettings : MethodName := ⟨RX10, "areSettings", "(III)Z"⟩
abbrev cX10_spot : ByteArray := prog_1_method_47_code
def yX10_spot : MethodName := ⟨RX10, "spot", "(IIII)I"⟩
abbrev cX10_writeInt : ByteArray := prog_1_method_48_code
def yX10_writeInt : MethodName := ⟨RX10, "writeInt", "([III)V"⟩
abbrev cX10_readInt : ByteArray := prog_1_method_49_code
def yX10_readInt : MethodName := ⟨RX10, "readInt", "([II)I"⟩
abbrev cX10_readLong : ByteArray := prog_1_method_50_code
def yX10_readLong : MethodName := ⟨RX10, "readLong", "([II)J"⟩
abbrev cX10_spreadOf : ByteArray := prog_1_method_51_code
def yX10_spreadOf : MethodName := ⟨RX10, "spreadOf", "([I)I"⟩
abbrev cX10_checkOf : ByteArray := prog_1_method_52_code
def yX10_checkOf : MethodName := ⟨RX10, "checkOf", "([II)I"⟩
abbrev cX10_isImage : ByteArray := prog_1_method_53_code
def yX10_isImage : MethodName := ⟨RX10, "isImage", "([II)Z"⟩
def RX11 : String := "ClashFreeModel"
def TX11 : u_T := fun k => match k with
  | 0 => ("ClashFreeModel", "thrown", "I", false)
  | 1 => ("ClashFreeModel", "tape", "[B", true)
  | 2 => ("ClashFreeModel", "taped", "I", false)
  | 3 => ("ClashFreeModel", "n", "[J", true)
  | 4 => ("ClashFreeModel", "keys", "[I", true)
  | 5 => ("ClashFreeModel", "values", "[I", true)
  | 6 => ("ClashFreeModel", "inBucket", "[I", true)
  | 7 => ("ClashFreeModel", "inRoom", "[I", true)
  | 8 => ("ClashFreeModel", "roofs", "[I", true)
  | 9 => ("ClashFreeModel", "has", "[I", true)
  | 10 => ("ClashFreeModel", "as", "[J", true)
  | 11 => ("ClashFreeModel", "bs", "[J", true)
  | 12 => ("ClashFreeModel", "seed", "J", false)
  | 13 => ("ClashFreeModel", "pairA", "J", false)
  | 14 => ("ClashFreeModel", "pairB", "J", false)
  | 15 => ("ClashFreeModel", "drawn", "I", false)
  | 16 => ("ClashFreeModel", "paper", "[I", true)
  | 17 => ("ClashFreeModel", "outerPairs", "I", false)
  | 18 => ("ClashFreeModel", "innerPairs", "I", false)
  | 19 => ("ClashFreeModel", "code", "[I", true)
  | 20 => ("ClashFreeModel", "coded", "I", false)
  | 21 => ("ClashFreeModel", "size", "I", false)
  | 22 => ("ClashFreeModel", "at", "I", false)
  | 23 => ("ClashFreeModel", "ended", "I", false)
  | 24 => ("ClashFreeModel", "bad", "I", false)
  | 25 => ("ClashFreeModel", "badPlace", "I", false)
  | 26 => ("ClashFreeModel", "badDepth", "I", false)
  | 27 => ("ClashFreeModel", "blocks", "I", false)
  | 28 => ("ClashFreeModel", "openAt", "[I", true)
  | 29 => ("ClashFreeModel", "pile", "[I", true)
  | 30 => ("ClashFreeModel", "piled", "I", false)
  | 31 => ("ClashFreeModel", "brackets", "I", false)
  | 32 => ("ClashFreeModel", "faultKind", "I", false)
  | 33 => ("ClashFreeModel", "faultPlace", "I", false)
  | 34 => ("ClashFreeModel", "faultDepth", "I", false)
  | 35 => ("ClashFreeModel", "refused", "I", false)
  | 36 => ("ClashFreeModel", "latest", "I", false)
  | 37 => ("ClashFreeModel", "isCut", "Z", false)
  | 38 => ("ClashFreeModel", "worked", "[I", true)
  | 39 => ("ClashFreeModel", "workedMany", "I", false)
  | 40 => ("ClashFreeModel", "roundOf", "[I", true)
  | 41 => ("ClashFreeModel", "blockOf", "[I", true)
  | 42 => ("ClashFreeModel", "inside", "I", false)
  | 43 => ("ClashFreeModel", "steps", "I", false)
  | 44 => ("ClashFreeModel", "goesOn", "I", false)
  | 45 => ("ClashFreeModel", "octets", "[I", true)
  | _ => ("ClashFreeModel", "octetMany", "I", false)
def tyX11 : Nat → FieldType := fun k => match k with
  | 0 => .int
  | 1 => .array .byte
  | 2 => .int
  | 3 => .array .long
  | 4 => .array .int
  | 5 => .array .int
  | 6 => .array .int
  | 7 => .array .int
  | 8 => .array .int
  | 9 => .array .int
  | 10 => .array .long
  | 11 => .array .long
  | 12 => .long
  | 13 => .long
  | 14 => .long
  | 15 => .int
  | 16 => .array .int
  | 17 => .int
  | 18 => .int
  | 19 => .array .int
  | 20 => .int
  | 21 => .int
  | 22 => .int
  | 23 => .int
  | 24 => .int
  | 25 => .int
  | 26 => .int
  | 27 => .int
  | 28 => .array .int
  | 29 => .array .int
  | 30 => .int
  | 31 => .int
  | 32 => .int
  | 33 => .int
  | 34 => .int
  | 35 => .int
  | 36 => .int
  | 37 => .boolean
  | 38 => .array .int
  | 39 => .int
  | 40 => .array .int
  | 41 => .array .int
  | 42 => .int
  | 43 => .int
  | 44 => .int
  | 45 => .array .int
  | _ => .int
abbrev wsX110 : List Cond := u_ws RX11 TX11 47
theorem nmX11 : ∀ a, a < 47 → ∀ b, b < 47 → a ≠ b → (TX11 a).2.1 ≠ (TX11 b).2.1 := by decide +kernel
theorem tyX11_ok : ∀ k, k < 47 → parseFieldDescriptor (TX11 k).2.2.1 = some (tyX11 k) := by decide +kernel
abbrev cX11_init : ByteArray := prog_13_method_1_code
def yX11_init : MethodName := ⟨RX11, "<init>", "()V"⟩
abbrev cX11_isIn : ByteArray := prog_13_method_3_code
def yX11_isIn : MethodName := ⟨RX11, "isIn", "(JJJ)Z"⟩
abbrev cX11_flag : ByteArray := prog_13_method_4_code
def yX11_flag : MethodName := ⟨RX11, "flag", "(Z)I"⟩
abbrev cX11_puts : ByteArray := prog_13_method_5_code
def yX11_puts : MethodName := ⟨RX11, "puts", "(I)V"⟩
abbrev cX11_feed : ByteArray := prog_13_method_6_code
def yX11_feed : MethodName := ⟨RX11, "feed", "(IIIII)I"⟩
abbrev cX11_end : ByteArray := prog_13_method_7_code
def yX11_end : MethodName := ⟨RX11, "end", "(I)Z"⟩
abbrev cX11_of : ByteArray := prog_13_method_8_code
def yX11_of : MethodName := ⟨RX11, "of", "(II)J"⟩
abbrev cX11_lays : ByteArray := prog_13_method_9_code
def yX11_lays : MethodName := ⟨RX11, "lays", "(IIJ)V"⟩
abbrev cX11_adds : ByteArray := prog_13_method_10_code
def yX11_adds : MethodName := ⟨RX11, "adds", "(IIJ)V"⟩
abbrev cX11_isThere : ByteArray := prog_13_method_11_code
def yX11_isThere : MethodName := ⟨RX11, "isThere", "(I)Z"⟩
abbrev cX11_isKey : ByteArray := prog_13_method_12_code
def yX11_isKey : MethodName := ⟨RX11, "isKey", "(I)Z"⟩
abbrev cX11_manyOf : ByteArray := prog_13_method_13_code
def yX11_manyOf : MethodName := ⟨RX11, "manyOf", "(I)I"⟩
abbrev cX11_buckets : ByteArray := prog_13_method_14_code
def yX11_buckets : MethodName := ⟨RX11, "buckets", "(I)I"⟩
abbrev cX11_whereOf : ByteArray := prog_13_method_15_code
def yX11_whereOf : MethodName := ⟨RX11, "whereOf", "(IJ)I"⟩
abbrev cX11_hasKey : ByteArray := prog_13_method_16_code
def yX11_hasKey : MethodName := ⟨RX11, "hasKey", "(II)Z"⟩
abbrev cX11_placeOf : ByteArray := prog_13_method_17_code
def yX11_placeOf : MethodName := ⟨RX11, "placeOf", "(JJJJ)I"⟩
abbrev cX11_draw : ByteArray := prog_13_method_18_code
def yX11_draw : MethodName := ⟨RX11, "draw", "(J)J"⟩
abbrev cX11_drawsPair : ByteArray := prog_13_method_19_code
def yX11_drawsPair : MethodName := ⟨RX11, "drawsPair", "()V"⟩
abbrev cX11_takesSeed : ByteArray := prog_13_method_20_code
def yX11_takesSeed : MethodName := ⟨RX11, "takesSeed", "(I)V"⟩
abbrev cX11_laysSeed : ByteArray := prog_13_method_21_code
def yX11_laysSeed : MethodName := ⟨RX11, "laysSeed", "(I)V"⟩
abbrev cX11_bucketOf : ByteArray := prog_13_method_22_code
def yX11_bucketOf : MethodName := ⟨RX11, "bucketOf", "(II)I"⟩
abbrev cX11_roomsOf : ByteArray := prog_13_method_23_code
def yX11_roomsOf : MethodName := ⟨RX11, "roomsOf", "(II)I"⟩
abbrev cX11_roomOf : ByteArray := prog_13_method_24_code
def yX11_roomOf : MethodName := ⟨RX11, "roomOf", "(III)I"⟩
abbrev cX11_clashes : ByteArray := prog_13_method_25_code
def yX11_clashes : MethodName := ⟨RX11, "clashes", "(IIJJ)I"⟩
abbrev cX11_buildsBucket : ByteArray := prog_13_method_26_code
def yX11_buildsBucket : MethodName := ⟨RX11, "buildsBucket", "(II)V"⟩
abbrev cX11_parts : ByteArray := prog_13_method_27_code
def yX11_parts : MethodName := ⟨RX11, "parts", "(IJJI)J"⟩
abbrev cX11_buildsAll : ByteArray := prog_13_method_28_code
def yX11_buildsAll : MethodName := ⟨RX11, "buildsAll", "(I)V"⟩
abbrev cX11_make : ByteArray := prog_13_method_29_code
def yX11_make : MethodName := ⟨RX11, "make", "(IIIIJ)I"⟩
abbrev cX11_makes : ByteArray := prog_13_method_30_code
def yX11_makes : MethodName := ⟨RX11, "makes", "(IIIIJ)V"⟩
abbrev cX11_comes : ByteArray := prog_13_method_31_code
def yX11_comes : MethodName := ⟨RX11, "comes", "(III)V"⟩
abbrev cX11_moves : ByteArray := prog_13_method_32_code
def yX11_moves : MethodName := ⟨RX11, "moves", "(II)V"⟩
abbrev cX11_readsFor : ByteArray := prog_13_method_33_code
def yX11_readsFor : MethodName := ⟨RX11, "readsFor", "(II)V"⟩
abbrev cX11_isEmpty : ByteArray := prog_13_method_34_code
def yX11_isEmpty : MethodName := ⟨RX11, "isEmpty", "(III)Z"⟩
abbrev cX11_way : ByteArray := prog_13_method_35_code
def yX11_way : MethodName := ⟨RX11, "way", "(II)I"⟩
abbrev cX11_putsKey : ByteArray := prog_13_method_36_code
def yX11_putsKey : MethodName := ⟨RX11, "putsKey", "(III)I"⟩
abbrev cX11_isFull : ByteArray := prog_13_method_37_code
def yX11_isFull : MethodName := ⟨RX11, "isFull", "(II)Z"⟩
abbrev cX11_put : ByteArray := prog_13_method_38_code
def yX11_put : MethodName := ⟨RX11, "put", "(III)I"⟩
abbrev cX11_get : ByteArray := prog_13_method_39_code
def yX11_get : MethodName := ⟨RX11, "get", "(II)J"⟩
abbrev cX11_drops : ByteArray := prog_13_method_40_code
def yX11_drops : MethodName := ⟨RX11, "drops", "(II)I"⟩
abbrev cX11_drop : ByteArray := prog_13_method_41_code
def yX11_drop : MethodName := ⟨RX11, "drop", "(II)I"⟩
abbrev cX11_build : ByteArray := prog_13_method_42_code
def yX11_build : MethodName := ⟨RX11, "build", "(I)I"⟩
abbrev cX11_has : ByteArray := prog_13_method_43_code
def yX11_has : MethodName := ⟨RX11, "has", "(II)J"⟩
abbrev cX11_isBucket : ByteArray := prog_13_method_44_code
def yX11_isBucket : MethodName := ⟨RX11, "isBucket", "(II)Z"⟩
abbrev cX11_bucket : ByteArray := prog_13_method_45_code
def yX11_bucket : MethodName := ⟨RX11, "bucket", "(III)J"⟩
abbrev cX11_room : ByteArray := prog_13_method_46_code
def yX11_room : MethodName := ⟨RX11, "room", "(III)I"⟩
abbrev cX11_place : ByteArray := prog_13_method_47_code
def yX11_place : MethodName := ⟨RX11, "place", "(III)I"⟩
abbrev cX11_key : ByteArray := prog_13_method_48_code
def yX11_key : MethodName := ⟨RX11, "key", "(II)I"⟩
abbrev cX11_aheadOf : ByteArray := prog_13_method_49_code
def yX11_aheadOf : MethodName := ⟨RX11, "aheadOf", "(II)I"⟩
abbrev cX11_walk : ByteArray := prog_13_method_50_code
def yX11_walk : MethodName := ⟨RX11, "walk", "(II)I"⟩
abbrev cX11_below : ByteArray := prog_13_method_51_code
def yX11_below : MethodName := ⟨RX11, "below", "(II)I"⟩
abbrev cX11_many : ByteArray := prog_13_method_52_code
def yX11_many : MethodName := ⟨RX11, "many", "(II)I"⟩
abbrev cX11_crowd : ByteArray := prog_13_method_53_code
def yX11_crowd : MethodName := ⟨RX11, "crowd", "(II)I"⟩
abbrev cX11_empty : ByteArray := prog_13_method_54_code
def yX11_empty : MethodName := ⟨RX11, "empty", "(I)I"⟩
abbrev cX11_left : ByteArray := prog_13_method_55_code
def yX11_left : MethodName := ⟨RX11, "left", "(I)I"⟩
abbrev cX11_isPair : ByteArray := prog_13_method_56_code
def yX11_isPair : MethodName := ⟨RX11, "isPair", "(II)Z"⟩
abbrev cX11_outer : ByteArray := prog_13_method_57_code
def yX11_outer : MethodName := ⟨RX11, "outer", "(IIIII)J"⟩
abbrev cX11_inner : ByteArray := prog_13_method_58_code
def yX11_inner : MethodName := ⟨RX11, "inner", "(IIII)I"⟩
abbrev cX11_tries : ByteArray := prog_13_method_59_code
def yX11_tries : MethodName := ⟨RX11, "tries", "(IIIJI)I"⟩
abbrev cX11_sumBy : ByteArray := prog_13_method_60_code
def yX11_sumBy : MethodName := ⟨RX11, "sumBy", "(IJJ)J"⟩
abbrev cX11_best : ByteArray := prog_13_method_61_code
def yX11_best : MethodName := ⟨RX11, "best", "(IIJI)J"⟩
abbrev cX11_nearest : ByteArray := prog_13_method_62_code
def yX11_nearest : MethodName := ⟨RX11, "nearest", "(II)I"⟩
abbrev cX11_would : ByteArray := prog_13_method_63_code
def yX11_would : MethodName := ⟨RX11, "would", "(II)I"⟩
abbrev cX11_freezes : ByteArray := prog_13_method_64_code
def yX11_freezes : MethodName := ⟨RX11, "freezes", "(IJ)Z"⟩
abbrev cX11_roomsAhead : ByteArray := prog_13_method_65_code
def yX11_roomsAhead : MethodName := ⟨RX11, "roomsAhead", "(I)I"⟩
abbrev cX11_frozenRoom : ByteArray := prog_13_method_66_code
def yX11_frozenRoom : MethodName := ⟨RX11, "frozenRoom", "(I)I"⟩
abbrev cX11_frozen : ByteArray := prog_13_method_67_code
def yX11_frozen : MethodName := ⟨RX11, "frozen", "(IJI)J"⟩
abbrev cX11_frozenAt : ByteArray := prog_13_method_68_code
def yX11_frozenAt : MethodName := ⟨RX11, "frozenAt", "(IJI)I"⟩
abbrev cX11_valueOf : ByteArray := prog_13_method_69_code
def yX11_valueOf : MethodName := ⟨RX11, "valueOf", "(II)I"⟩
abbrev cX11_shared : ByteArray := prog_13_method_70_code
def yX11_shared : MethodName := ⟨RX11, "shared", "(III)I"⟩
abbrev cX11_join : ByteArray := prog_13_method_71_code
def yX11_join : MethodName := ⟨RX11, "join", "(II)I"⟩
abbrev cX11_cut : ByteArray := prog_13_method_72_code
def yX11_cut : MethodName := ⟨RX11, "cut", "(IIZ)I"⟩
abbrev cX11_values : ByteArray := prog_13_method_73_code
def yX11_values : MethodName := ⟨RX11, "values", "(II)J"⟩
abbrev cX11_isFine : ByteArray := prog_13_method_74_code
def yX11_isFine : MethodName := ⟨RX11, "isFine", "()Z"⟩
abbrev cX11_fail : ByteArray := prog_13_method_75_code
def yX11_fail : MethodName := ⟨RX11, "fail", "(II)V"⟩
abbrev cX11_isLetter : ByteArray := prog_13_method_76_code
def yX11_isLetter : MethodName := ⟨RX11, "isLetter", "(I)Z"⟩
abbrev cX11_isDigit : ByteArray := prog_13_method_77_code
def yX11_isDigit : MethodName := ⟨RX11, "isDigit", "(I)Z"⟩
abbrev cX11_next : ByteArray := prog_13_method_78_code
def yX11_next : MethodName := ⟨RX11, "next", "()I"⟩
abbrev cX11_unlike : ByteArray := prog_13_method_79_code
def yX11_unlike : MethodName := ⟨RX11, "unlike", "()V"⟩
abbrev cX11_isSign : ByteArray := prog_13_method_80_code
def yX11_isSign : MethodName := ⟨RX11, "isSign", "(I)Z"⟩
abbrev cX11_needsSign : ByteArray := prog_13_method_81_code
def yX11_needsSign : MethodName := ⟨RX11, "needsSign", "(I)V"⟩
abbrev cX11_takesWord : ByteArray := prog_13_method_82_code
def yX11_takesWord : MethodName := ⟨RX11, "takesWord", "(I)Z"⟩
abbrev cX11_asks : ByteArray := prog_13_method_83_code
def yX11_asks : MethodName := ⟨RX11, "asks", "(I)V"⟩
abbrev cX11_number : ByteArray := prog_13_method_84_code
def yX11_number : MethodName := ⟨RX11, "number", "(I)I"⟩
abbrev cX11_emits : ByteArray := prog_13_method_85_code
def yX11_emits : MethodName := ⟨RX11, "emits", "(II)V"⟩
abbrev cX11_unit : ByteArray := prog_13_method_86_code
def yX11_unit : MethodName := ⟨RX11, "unit", "()V"⟩
abbrev cX11_works : ByteArray := prog_13_method_87_code
def yX11_works : MethodName := ⟨RX11, "works", "(I)V"⟩
abbrev cX11_signHere : ByteArray := prog_13_method_88_code
def yX11_signHere : MethodName := ⟨RX11, "signHere", "()I"⟩
abbrev cX11_sum : ByteArray := prog_13_method_89_code
def yX11_sum : MethodName := ⟨RX11, "sum", "()V"⟩
abbrev cX11_closesBracket : ByteArray := prog_13_method_90_code
def yX11_closesBracket : MethodName := ⟨RX11, "closesBracket", "()V"⟩
abbrev cX11_opens : ByteArray := prog_13_method_91_code
def yX11_opens : MethodName := ⟨RX11, "opens", "(II)V"⟩
abbrev cX11_statement : ByteArray := prog_13_method_92_code
def yX11_statement : MethodName := ⟨RX11, "statement", "()V"⟩
abbrev cX11_closesBlock : ByteArray := prog_13_method_93_code
def yX11_closesBlock : MethodName := ⟨RX11, "closesBlock", "()V"⟩
abbrev cX11_readsProgram : ByteArray := prog_13_method_94_code
def yX11_readsProgram : MethodName := ⟨RX11, "readsProgram", "()V"⟩
abbrev cX11_roundNow : ByteArray := prog_13_method_95_code
def yX11_roundNow : MethodName := ⟨RX11, "roundNow", "()I"⟩
abbrev cX11_joined : ByteArray := prog_13_method_96_code
def yX11_joined : MethodName := ⟨RX11, "joined", "(III)I"⟩
abbrev cX11_worksOn : ByteArray := prog_13_method_97_code
def yX11_worksOn : MethodName := ⟨RX11, "worksOn", "(II)V"⟩
abbrev cX11_isStep : ByteArray := prog_13_method_98_code
def yX11_isStep : MethodName := ⟨RX11, "isStep", "()Z"⟩
abbrev cX11_does : ByteArray := prog_13_method_99_code
def yX11_does : MethodName := ⟨RX11, "does", "(II)V"⟩
abbrev cX11_begins : ByteArray := prog_13_method_100_code
def yX11_begins : MethodName := ⟨RX11, "begins", "(I)V"⟩
abbrev cX11_isAbove : ByteArray := prog_13_method_101_code
def yX11_isAbove : MethodName := ⟨RX11, "isAbove", "()Z"⟩
abbrev cX11_closes : ByteArray := prog_13_method_102_code
def yX11_closes : MethodName := ⟨RX11, "closes", "(I)V"⟩
abbrev cX11_runs : ByteArray := prog_13_method_103_code
def yX11_runs : MethodName := ⟨RX11, "runs", "(I)V"⟩
abbrev cX11_run : ByteArray := prog_13_method_104_code
def yX11_run : MethodName := ⟨RX11, "run", "(I)I"⟩
abbrev cX11_ran : ByteArray := prog_13_method_105_code
def yX11_ran : MethodName := ⟨RX11, "ran", "(I)J"⟩
abbrev cX11_octet1 : ByteArray := prog_13_method_106_code
def yX11_octet1 : MethodName := ⟨RX11, "octet1", "(J)V"⟩
abbrev cX11_octetsOf : ByteArray := prog_13_method_107_code
def yX11_octetsOf : MethodName := ⟨RX11, "octetsOf", "(JI)V"⟩
abbrev cX11_image : ByteArray := prog_13_method_108_code
def yX11_image : MethodName := ⟨RX11, "image", "(I)I"⟩
abbrev cX11_octet : ByteArray := prog_13_method_109_code
def yX11_octet : MethodName := ⟨RX11, "octet", "(I)I"⟩
abbrev cX11_bytesAt : ByteArray := prog_13_method_110_code
def yX11_bytesAt : MethodName := ⟨RX11, "bytesAt", "(II)J"⟩
abbrev cX11_isImage : ByteArray := prog_13_method_111_code
def yX11_isImage : MethodName := ⟨RX11, "isImage", "(I)Z"⟩
abbrev cX11_back : ByteArray := prog_13_method_112_code
def yX11_back : MethodName := ⟨RX11, "back", "(I)I"⟩
abbrev cX11_copy : ByteArray := prog_13_method_113_code
def yX11_copy : MethodName := ⟨RX11, "copy", "(II)I"⟩
abbrev cX11_count : ByteArray := prog_13_method_114_code
def yX11_count : MethodName := ⟨RX11, "count", "(I)I"⟩
def RL : String := "ClashFreeLaw"
abbrev cL_law : ByteArray := code
def yL_law : MethodName := ⟨RL, "law", "([I)Z"⟩
abbrev vwCl : List vw_C := [(RX0, TX0, 4), (RX1, TX1, 2), (RX2, TX2, 3), (RX3, TX3, 13), (RX4, TX4, 8), (RX5, TX5, 3), (RX6, TX6, 15), (RX7, TX7, 4), (RX8, TX8, 7), (RX9, TX9, 12), (RX10, TX10, 7), (RX11, TX11, 47)]
end
section
theorem mem_places {big ws : List Cond} (ps : List Nat) (hp : ws = ps.filterMap (fun i => big[i]?)) : ∀ w ∈ ws, w ∈ big := by
  intro w hw
  rw [hp] at hw
  obtain ⟨i, -, hi⟩ := List.mem_filterMap.mp hw
  exact List.mem_of_getElem? hi
set_option maxRecDepth 20000 in
theorem lwb_X0 : ∀ w ∈ wsX00, w ∈ lw_tbl := mem_places [162, 164, 166, 168] (by decide +kernel)
set_option maxRecDepth 20000 in
theorem lwb_X1 : ∀ w ∈ wsX10, w ∈ lw_tbl := mem_places [261, 263] (by decide +kernel)
set_option maxRecDepth 20000 in
theorem lwb_X2 : ∀ w ∈ wsX20, w ∈ lw_tbl := mem_places [482, 484, 486] (by decide +kernel)
set_option maxRecDepth 20000 in
theorem lwb_X3 : ∀ w ∈ wsX30, w ∈ lw_tbl := mem_places [211, 213, 215, 217, 219, 221, 223, 225, 227, 229, 231, 233, 235] (by decide +kernel)
set_option maxRecDepth 20000 in
theorem lwb_X4 : ∀ w ∈ wsX40, w ∈ lw_tbl := mem_places [395, 397, 399, 401, 403, 405, 407, 409] (by decide +kernel)
set_option maxRecDepth 20000 in
theorem lwb_X5 : ∀ w ∈ wsX50, w ∈ lw_tbl := mem_places [244, 246, 248] (by decide +kernel)
set_option maxRecDepth 20000 in
theorem lwb_X6 : ∀ w ∈ wsX60, w ∈ lw_tbl := mem_places [346, 348, 350, 352, 354, 356, 358, 360, 362, 364, 366, 368, 370, 372, 374] (by decide +kernel)
set_option maxRecDepth 20000 in
theorem lwb_X7 : ∀ w ∈ wsX70, w ∈ lw_tbl := mem_places [287, 289, 291, 293] (by decide +kernel)
set_option maxRecDepth 20000 in
theorem lwb_X8 : ∀ w ∈ wsX80, w ∈ lw_tbl := mem_places [312, 314, 316, 318, 320, 322, 324] (by decide +kernel)
set_option maxRecDepth 20000 in
theorem lwb_X9 : ∀ w ∈ wsX90, w ∈ lw_tbl := mem_places [523, 525, 527, 529, 531, 533, 535, 537, 539, 541, 543, 545] (by decide +kernel)
set_option maxRecDepth 20000 in
theorem lwb_X10 : ∀ w ∈ wsX100, w ∈ lw_tbl := mem_places [419, 421, 423, 425, 427, 429, 431] (by decide +kernel)
set_option maxRecDepth 20000 in
theorem lwb_X11 : ∀ w ∈ wsX110, w ∈ lw_tbl := mem_places [1263, 1265, 1267, 1269, 1271, 1273, 1275, 1277, 1279, 1281, 1283, 1285, 1287, 1289, 1291, 1293, 1295, 1297, 1299, 1301, 1303, 1305, 1307, 1309, 1311, 1313, 1315, 1317, 1319, 1321, 1323, 1325, 1327, 1329, 1331, 1333, 1335, 1337, 1339, 1341, 1343, 1345, 1347, 1349, 1351, 1353, 1355] (by decide +kernel)
end
section
theorem dX0_init_0 : decode cX0_init 0 = .ok (.aload_n 0, 1) := by decide +kernel
theorem dX0_init_1 : decode cX0_init 1 = .ok (.invokespecial 3, 3) := by decide +kernel
theorem dX0_init_4 : decode cX0_init 4 = .ok (.return_, 1) := by decide +kernel
theorem dX1_init_0 : decode cX1_init 0 = .ok (.aload_n 0, 1) := by decide +kernel
theorem dX1_init_1 : decode cX1_init 1 = .ok (.invokespecial 3, 3) := by decide +kernel
theorem dX1_init_4 : decode cX1_init 4 = .ok (.aload_n 0, 1) := by decide +kernel
theorem dX1_init_5 : decode cX1_init 5 = .ok (.sipush 1294, 3) := by decide +kernel
theorem dX1_init_8 : decode cX1_init 8 = .ok (.newarray .int, 2) := by decide +kernel
theorem dX1_init_10 : decode cX1_init 10 = .ok (.putfield 9, 3) := by decide +kernel
theorem dX1_init_13 : decode cX1_init 13 = .ok (.return_, 1) := by decide +kernel
theorem dX2_init_0 : decode cX2_init 0 = .ok (.aload_n 0, 1) := by decide +kernel
theorem dX2_init_1 : decode cX2_init 1 = .ok (.invokespecial 3, 3) := by decide +kernel
theorem dX2_init_4 : decode cX2_init 4 = .ok (.aload_n 0, 1) := by decide +kernel
theorem dX2_init_5 : decode cX2_init 5 = .ok (.sipush 160, 3) := by decide +kernel
theorem dX2_init_8 : decode cX2_init 8 = .ok (.newarray .int, 2) := by decide +kernel
theorem dX2_init_10 : decode cX2_init 10 = .ok (.putfield 9, 3) := by decide +kernel
theorem dX2_init_13 : decode cX2_init 13 = .ok (.aload_n 0, 1) := by decide +kernel
theorem dX2_init_14 : decode cX2_init 14 = .ok (.sipush 160, 3) := by decide +kernel
theorem dX2_init_17 : decode cX2_init 17 = .ok (.newarray .int, 2) := by decide +kernel
theorem dX2_init_19 : decode cX2_init 19 = .ok (.putfield 15, 3) := by decide +kernel
theorem dX2_init_22 : decode cX2_init 22 = .ok (.return_, 1) := by decide +kernel
theorem dX3_init_0 : decode cX3_init 0 = .ok (.aload_n 0, 1) := by decide +kernel
theorem dX3_init_1 : decode cX3_init 1 = .ok (.invokespecial 3, 3) := by decide +kernel
theorem dX3_init_4 : decode cX3_init 4 = .ok (.aload_n 0, 1) := by decide +kernel
theorem dX3_init_5 : decode cX3_init 5 = .ok (.sipush 2048, 3) := by decide +kernel
theorem dX3_init_8 : decode cX3_init 8 = .ok (.newarray .int, 2) := by decide +kernel
theorem dX3_init_10 : decode cX3_init 10 = .ok (.putfield 9, 3) := by decide +kernel
theorem dX3_init_13 : decode cX3_init 13 = .ok (.aload_n 0, 1) := by decide +kernel
theorem dX3_init_14 : decode cX3_init 14 = .ok (.sipush 2048, 3) := by decide +kernel
theorem dX3_init_17 : decode cX3_init 17 = .ok (.newarray .int, 2) := by decide +kernel
theorem dX3_init_19 : decode cX3_init 19 = .ok (.putfield 15, 3) := by decide +kernel
theorem dX3_init_22 : decode cX3_init 22 = .ok (.aload_n 0, 1) := by decide +kernel
theorem dX3_init_23 : decode cX3_init 23 = .ok (.sipush 2048, 3) := by decide +kernel
theorem dX3_init_26 : decode cX3_init 26 = .ok (.newarray .int, 2) := by decide +kernel
theorem dX3_init_28 : decode cX3_init 28 = .ok (.putfield 18, 3) := by decide +kernel
theorem dX3_init_31 : decode cX3_init 31 = .ok (.aload_n 0, 1) := by decide +kernel
theorem dX3_init_32 : decode cX3_init 32 = .ok (.sipush 2048, 3) := by decide +kernel
theorem dX3_init_35 : decode cX3_init 35 = .ok (.newarray .int, 2) := by decide +kernel
theorem dX3_init_37 : decode cX3_init 37 = .ok (.putfield 21, 3) := by decide +kernel
theorem dX3_init_40 : decode cX3_init 40 = .ok (.aload_n 0, 1) := by decide +kernel
theorem dX3_init_41 : decode cX3_init 41 = .ok (.sipush 2048, 3) := by decide +kernel
theorem dX3_init_44 : decode cX3_init 44 = .ok (.newarray .int, 2) := by decide +kernel
theorem dX3_init_46 : decode cX3_init 46 = .ok (.putfield 24, 3) := by decide +kernel
theorem dX3_init_49 : decode cX3_init 49 = .ok (.aload_n 0, 1) := by decide +kernel
theorem dX3_init_50 : decode cX3_init 50 = .ok (.sipush 160, 3) := by decide +kernel
theorem dX3_init_53 : decode cX3_init 53 = .ok (.newarray .int, 2) := by decide +kernel
theorem dX3_init_55 : decode cX3_init 55 = .ok (.putfield 27, 3) := by decide +kernel
theorem dX3_init_58 : decode cX3_init 58 = .ok (.aload_n 0, 1) := by decide +kernel
theorem dX3_init_59 : decode cX3_init 59 = .ok (.sipush 160, 3) := by decide +kernel
theorem dX3_init_62 : decode cX3_init 62 = .ok (.newarray .int, 2) := by decide +kernel
theorem dX3_init_64 : decode cX3_init 64 = .ok (.putfield 30, 3) := by decide +kernel
theorem dX3_init_67 : decode cX3_init 67 = .ok (.aload_n 0, 1) := by decide +kernel
theorem dX3_init_68 : decode cX3_init 68 = .ok (.sipush 160, 3) := by decide +kernel
theorem dX3_init_71 : decode cX3_init 71 = .ok (.newarray .int, 2) := by decide +kernel
theorem dX3_init_73 : decode cX3_init 73 = .ok (.putfield 33, 3) := by decide +kernel
theorem dX3_init_76 : decode cX3_init 76 = .ok (.return_, 1) := by decide +kernel
theorem dX4_init_0 : decode cX4_init 0 = .ok (.aload_n 0, 1) := by decide +kernel
theorem dX4_init_1 : decode cX4_init 1 = .ok (.invokespecial 3, 3) := by decide +kernel
theorem dX4_init_4 : decode cX4_init 4 = .ok (.aload_n 0, 1) := by decide +kernel
theorem dX4_init_5 : decode cX4_init 5 = .ok (.iconst 5, 1) := by decide +kernel
theorem dX4_init_6 : decode cX4_init 6 = .ok (.newarray .int, 2) := by decide +kernel
theorem dX4_init_8 : decode cX4_init 8 = .ok (.putfield 9, 3) := by decide +kernel
theorem dX4_init_11 : decode cX4_init 11 = .ok (.aload_n 0, 1) := by decide +kernel
theorem dX4_init_12 : decode cX4_init 12 = .ok (.bipush 64, 2) := by decide +kernel
theorem dX4_init_14 : decode cX4_init 14 = .ok (.newarray .int, 2) := by decide +kernel
theorem dX4_init_16 : decode cX4_init 16 = .ok (.putfield 15, 3) := by decide +kernel
theorem dX4_init_19 : decode cX4_init 19 = .ok (.return_, 1) := by decide +kernel
theorem dX5_init_0 : decode cX5_init 0 = .ok (.aload_n 0, 1) := by decide +kernel
theorem dX5_init_1 : decode cX5_init 1 = .ok (.invokespecial 3, 3) := by decide +kernel
theorem dX5_init_4 : decode cX5_init 4 = .ok (.aload_n 0, 1) := by decide +kernel
theorem dX5_init_5 : decode cX5_init 5 = .ok (.new 9, 3) := by decide +kernel
theorem dX5_init_8 : decode cX5_init 8 = .ok (.dup, 1) := by decide +kernel
theorem dX5_init_9 : decode cX5_init 9 = .ok (.invokespecial 11, 3) := by decide +kernel
theorem dX5_init_12 : decode cX5_init 12 = .ok (.putfield 12, 3) := by decide +kernel
theorem dX5_init_15 : decode cX5_init 15 = .ok (.aload_n 0, 1) := by decide +kernel
theorem dX5_init_16 : decode cX5_init 16 = .ok (.new 18, 3) := by decide +kernel
theorem dX5_init_19 : decode cX5_init 19 = .ok (.dup, 1) := by decide +kernel
theorem dX5_init_20 : decode cX5_init 20 = .ok (.invokespecial 20, 3) := by decide +kernel
theorem dX5_init_23 : decode cX5_init 23 = .ok (.putfield 21, 3) := by decide +kernel
theorem dX5_init_26 : decode cX5_init 26 = .ok (.return_, 1) := by decide +kernel
theorem dX6_init_0 : decode cX6_init 0 = .ok (.aload_n 0, 1) := by decide +kernel
theorem dX6_init_1 : decode cX6_init 1 = .ok (.invokespecial 3, 3) := by decide +kernel
theorem dX6_init_4 : decode cX6_init 4 = .ok (.aload_n 0, 1) := by decide +kernel
theorem dX6_init_5 : decode cX6_init 5 = .ok (.new 9, 3) := by decide +kernel
theorem dX6_init_8 : decode cX6_init 8 = .ok (.dup, 1) := by decide +kernel
theorem dX6_init_9 : decode cX6_init 9 = .ok (.invokespecial 11, 3) := by decide +kernel
theorem dX6_init_12 : decode cX6_init 12 = .ok (.putfield 12, 3) := by decide +kernel
theorem dX6_init_15 : decode cX6_init 15 = .ok (.aload_n 0, 1) := by decide +kernel
theorem dX6_init_16 : decode cX6_init 16 = .ok (.new 18, 3) := by decide +kernel
theorem dX6_init_19 : decode cX6_init 19 = .ok (.dup, 1) := by decide +kernel
theorem dX6_init_20 : decode cX6_init 20 = .ok (.invokespecial 20, 3) := by decide +kernel
theorem dX6_init_23 : decode cX6_init 23 = .ok (.putfield 21, 3) := by decide +kernel
theorem dX6_init_26 : decode cX6_init 26 = .ok (.aload_n 0, 1) := by decide +kernel
theorem dX6_init_27 : decode cX6_init 27 = .ok (.iconst 5, 1) := by decide +kernel
theorem dX6_init_28 : decode cX6_init 28 = .ok (.newarray .int, 2) := by decide +kernel
theorem dX6_init_30 : decode cX6_init 30 = .ok (.putfield 25, 3) := by decide +kernel
theorem dX6_init_33 : decode cX6_init 33 = .ok (.aload_n 0, 1) := by decide +kernel
theorem dX6_init_34 : decode cX6_init 34 = .ok (.sipush 600, 3) := by decide +kernel
theorem dX6_init_37 : decode cX6_init 37 = .ok (.newarray .int, 2) := by decide +kernel
theorem dX6_init_39 : decode cX6_init 39 = .ok (.putfield 29, 3) := by decide +kernel
theorem dX6_init_42 : decode cX6_init 42 = .ok (.return_, 1) := by decide +kernel
theorem dX7_init_0 : decode cX7_init 0 = .ok (.aload_n 0, 1) := by decide +kernel
theorem dX7_init_1 : decode cX7_init 1 = .ok (.invokespecial 3, 3) := by decide +kernel
theorem dX7_init_4 : decode cX7_init 4 = .ok (.aload_n 0, 1) := by decide +kernel
theorem dX7_init_5 : decode cX7_init 5 = .ok (.sipush 600, 3) := by decide +kernel
theorem dX7_init_8 : decode cX7_init 8 = .ok (.newarray .int, 2) := by decide +kernel
theorem dX7_init_10 : decode cX7_init 10 = .ok (.putfield 9, 3) := by decide +kernel
theorem dX7_init_13 : decode cX7_init 13 = .ok (.aload_n 0, 1) := by decide +kernel
theorem dX7_init_14 : decode cX7_init 14 = .ok (.sipush 600, 3) := by decide +kernel
theorem dX7_init_17 : decode cX7_init 17 = .ok (.newarray .int, 2) := by decide +kernel
theorem dX7_init_19 : decode cX7_init 19 = .ok (.putfield 15, 3) := by decide +kernel
theorem dX7_init_22 : decode cX7_init 22 = .ok (.aload_n 0, 1) := by decide +kernel
theorem dX7_init_23 : decode cX7_init 23 = .ok (.sipush 600, 3) := by decide +kernel
theorem dX7_init_26 : decode cX7_init 26 = .ok (.newarray .int, 2) := by decide +kernel
theorem dX7_init_28 : decode cX7_init 28 = .ok (.putfield 18, 3) := by decide +kernel
theorem dX7_init_31 : decode cX7_init 31 = .ok (.return_, 1) := by decide +kernel
theorem dX8_init_0 : decode cX8_init 0 = .ok (.aload_n 0, 1) := by decide +kernel
theorem dX8_init_1 : decode cX8_init 1 = .ok (.invokespecial 3, 3) := by decide +kernel
theorem dX8_init_4 : decode cX8_init 4 = .ok (.return_, 1) := by decide +kernel
theorem dX10_init_0 : decode cX10_init 0 = .ok (.aload_n 0, 1) := by decide +kernel
theorem dX10_init_1 : decode cX10_init 1 = .ok (.invokespecial 3, 3) := by decide +kernel
theorem dX10_init_4 : decode cX10_init 4 = .ok (.aload_n 0, 1) := by decide +kernel
theorem dX10_init_5 : decode cX10_init 5 = .ok (.iconst 4, 1) := by decide +kernel
theorem dX10_init_6 : decode cX10_init 6 = .ok (.anewarray 9, 3) := by decide +kernel
theorem dX10_init_9 : decode cX10_init 9 = .ok (.putfield 11, 3) := by decide +kernel
theorem dX10_init_12 : decode cX10_init 12 = .ok (.aload_n 0, 1) := by decide +kernel
theorem dX10_init_13 : decode cX10_init 13 = .ok (.sipush 1400, 3) := by decide +kernel
theorem dX10_init_16 : decode cX10_init 16 = .ok (.newarray .int, 2) := by decide +kernel
theorem dX10_init_18 : decode cX10_init 18 = .ok (.putfield 15, 3) := by decide +kernel
theorem dX10_init_21 : decode cX10_init 21 = .ok (.aload_n 0, 1) := by decide +kernel
theorem dX10_init_22 : decode cX10_init 22 = .ok (.iconst 0, 1) := by decide +kernel
theorem dX10_init_23 : decode cX10_init 23 = .ok (.putfield 19, 3) := by decide +kernel
theorem dX10_init_26 : decode cX10_init 26 = .ok (.aload_n 0, 1) := by decide +kernel
theorem dX10_init_27 : decode cX10_init 27 = .ok (.new 23, 3) := by decide +kernel
theorem dX10_init_30 : decode cX10_init 30 = .ok (.dup, 1) := by decide +kernel
theorem dX10_init_31 : decode cX10_init 31 = .ok (.invokespecial 25, 3) := by decide +kernel
theorem dX10_init_34 : decode cX10_init 34 = .ok (.putfield 26, 3) := by decide +kernel
theorem dX10_init_37 : decode cX10_init 37 = .ok (.aload_n 0, 1) := by decide +kernel
theorem dX10_init_38 : decode cX10_init 38 = .ok (.new 30, 3) := by decide +kernel
theorem dX10_init_41 : decode cX10_init 41 = .ok (.dup, 1) := by decide +kernel
theorem dX10_init_42 : decode cX10_init 42 = .ok (.invokespecial 32, 3) := by decide +kernel
theorem dX10_init_45 : decode cX10_init 45 = .ok (.putfield 33, 3) := by decide +kernel
theorem dX10_init_48 : decode cX10_init 48 = .ok (.aload_n 0, 1) := by decide +kernel
theorem dX10_init_49 : decode cX10_init 49 = .ok (.new 37, 3) := by decide +kernel
theorem dX10_init_52 : decode cX10_init 52 = .ok (.dup, 1) := by decide +kernel
theorem dX10_init_53 : decode cX10_init 53 = .ok (.invokespecial 39, 3) := by decide +kernel
theorem dX10_init_56 : decode cX10_init 56 = .ok (.putfield 40, 3) := by decide +kernel
theorem dX10_init_59 : decode cX10_init 59 = .ok (.aload_n 0, 1) := by decide +kernel
theorem dX10_init_60 : decode cX10_init 60 = .ok (.new 44, 3) := by decide +kernel
theorem dX10_init_63 : decode cX10_init 63 = .ok (.dup, 1) := by decide +kernel
theorem dX10_init_64 : decode cX10_init 64 = .ok (.invokespecial 46, 3) := by decide +kernel
theorem dX10_init_67 : decode cX10_init 67 = .ok (.putfield 47, 3) := by decide +kernel
theorem dX10_init_70 : decode cX10_init 70 = .ok (.return_, 1) := by decide +kernel
theorem dX10_feed_0 : decode cX10_feed 0 = .ok (.aload_n 0, 1) := by decide +kernel
theorem dX10_feed_1 : decode cX10_feed 1 = .ok (.getfield 19, 3) := by decide +kernel
theorem dX10_feed_4 : decode cX10_feed 4 = .ok (.bipush 20, 2) := by decide +kernel
theorem dX10_feed_6 : decode cX10_feed 6 = .ok (.iadd, 1) := by decide +kernel
theorem dX10_feed_7 : decode cX10_feed 7 = .ok (.sipush 1400, 3) := by decide +kernel
theorem dX10_feed_10 : decode cX10_feed 10 = .ok (.if_icmp .le 5, 3) := by decide +kernel
theorem dX10_feed_15 : decode cX10_feed 15 = .ok (.aload_n 0, 1) := by decide +kernel
theorem dX10_feed_16 : decode cX10_feed 16 = .ok (.getfield 15, 3) := by decide +kernel
theorem dX10_feed_19 : decode cX10_feed 19 = .ok (.aload_n 0, 1) := by decide +kernel
theorem dX10_feed_20 : decode cX10_feed 20 = .ok (.getfield 19, 3) := by decide +kernel
theorem dX10_feed_23 : decode cX10_feed 23 = .ok (.iload_n 1, 1) := by decide +kernel
theorem dX10_feed_24 : decode cX10_feed 24 = .ok (.invokestatic 51, 3) := by decide +kernel
theorem dX10_feed_27 : decode cX10_feed 27 = .ok (.aload_n 0, 1) := by decide +kernel
theorem dX10_feed_28 : decode cX10_feed 28 = .ok (.getfield 15, 3) := by decide +kernel
theorem dX10_feed_31 : decode cX10_feed 31 = .ok (.aload_n 0, 1) := by decide +kernel
theorem dX10_feed_32 : decode cX10_feed 32 = .ok (.getfield 19, 3) := by decide +kernel
theorem dX10_feed_35 : decode cX10_feed 35 = .ok (.iconst 4, 1) := by decide +kernel
theorem dX10_feed_36 : decode cX10_feed 36 = .ok (.iadd, 1) := by decide +kernel
theorem dX10_feed_37 : decode cX10_feed 37 = .ok (.iload_n 2, 1) := by decide +kernel
theorem dX10_feed_38 : decode cX10_feed 38 = .ok (.invokestatic 51, 3) := by decide +kernel
theorem dX10_feed_41 : decode cX10_feed 41 = .ok (.aload_n 0, 1) := by decide +kernel
theorem dX10_feed_42 : decode cX10_feed 42 = .ok (.getfield 15, 3) := by decide +kernel
theorem dX10_feed_45 : decode cX10_feed 45 = .ok (.aload_n 0, 1) := by decide +kernel
theorem dX10_feed_46 : decode cX10_feed 46 = .ok (.getfield 19, 3) := by decide +kernel
theorem dX10_feed_49 : decode cX10_feed 49 = .ok (.bipush 8, 2) := by decide +kernel
theorem dX10_feed_51 : decode cX10_feed 51 = .ok (.iadd, 1) := by decide +kernel
theorem dX10_feed_52 : decode cX10_feed 52 = .ok (.iload_n 3, 1) := by decide +kernel
theorem dX10_feed_53 : decode cX10_feed 53 = .ok (.invokestatic 51, 3) := by decide +kernel
theorem dX10_feed_56 : decode cX10_feed 56 = .ok (.aload_n 0, 1) := by decide +kernel
theorem dX10_feed_57 : decode cX10_feed 57 = .ok (.getfield 15, 3) := by decide +kernel
theorem dX10_feed_60 : decode cX10_feed 60 = .ok (.aload_n 0, 1) := by decide +kernel
theorem dX10_feed_61 : decode cX10_feed 61 = .ok (.getfield 19, 3) := by decide +kernel
theorem dX10_feed_64 : decode cX10_feed 64 = .ok (.bipush 12, 2) := by decide +kernel
theorem dX10_feed_66 : decode cX10_feed 66 = .ok (.iadd, 1) := by decide +kernel
theorem dX10_feed_67 : decode cX10_feed 67 = .ok (.iload 4, 2) := by decide +kernel
theorem dX10_feed_69 : decode cX10_feed 69 = .ok (.invokestatic 51, 3) := by decide +kernel
theorem dX10_feed_72 : decode cX10_feed 72 = .ok (.aload_n 0, 1) := by decide +kernel
theorem dX10_feed_73 : decode cX10_feed 73 = .ok (.getfield 15, 3) := by decide +kernel
theorem dX10_feed_76 : decode cX10_feed 76 = .ok (.aload_n 0, 1) := by decide +kernel
theorem dX10_feed_77 : decode cX10_feed 77 = .ok (.getfield 19, 3) := by decide +kernel
theorem dX10_feed_80 : decode cX10_feed 80 = .ok (.bipush 16, 2) := by decide +kernel
theorem dX10_feed_82 : decode cX10_feed 82 = .ok (.iadd, 1) := by decide +kernel
theorem dX10_feed_83 : decode cX10_feed 83 = .ok (.iload 5, 2) := by decide +kernel
theorem dX10_feed_85 : decode cX10_feed 85 = .ok (.invokestatic 51, 3) := by decide +kernel
theorem dX10_feed_88 : decode cX10_feed 88 = .ok (.aload_n 0, 1) := by decide +kernel
theorem dX10_feed_89 : decode cX10_feed 89 = .ok (.dup, 1) := by decide +kernel
theorem dX10_feed_90 : decode cX10_feed 90 = .ok (.getfield 19, 3) := by decide +kernel
theorem dX10_feed_93 : decode cX10_feed 93 = .ok (.bipush 20, 2) := by decide +kernel
theorem dX10_feed_95 : decode cX10_feed 95 = .ok (.iadd, 1) := by decide +kernel
theorem dX10_feed_96 : decode cX10_feed 96 = .ok (.putfield 19, 3) := by decide +kernel
theorem dX10_feed_99 : decode cX10_feed 99 = .ok (.aload_n 0, 1) := by decide +kernel
theorem dX10_feed_100 : decode cX10_feed 100 = .ok (.getfield 19, 3) := by decide +kernel
theorem dX10_feed_103 : decode cX10_feed 103 = .ok (.ireturn, 1) := by decide +kernel
theorem dX10_end_0 : decode cX10_end 0 = .ok (.iload_n 1, 1) := by decide +kernel
theorem dX10_end_1 : decode cX10_end 1 = .ok (.ifCond .lt 11, 3) := by decide +kernel
theorem dX10_end_4 : decode cX10_end 4 = .ok (.iload_n 1, 1) := by decide +kernel
theorem dX10_end_5 : decode cX10_end 5 = .ok (.aload_n 0, 1) := by decide +kernel
theorem dX10_end_6 : decode cX10_end 6 = .ok (.getfield 19, 3) := by decide +kernel
theorem dX10_end_9 : decode cX10_end 9 = .ok (.if_icmp .le 5, 3) := by decide +kernel
theorem dX10_end_12 : decode cX10_end 12 = .ok (.iconst 0, 1) := by decide +kernel
theorem dX10_end_13 : decode cX10_end 13 = .ok (.ireturn, 1) := by decide +kernel
theorem dX10_end_14 : decode cX10_end 14 = .ok (.aload_n 0, 1) := by decide +kernel
theorem dX10_end_15 : decode cX10_end 15 = .ok (.iload_n 1, 1) := by decide +kernel
theorem dX10_end_16 : decode cX10_end 16 = .ok (.putfield 19, 3) := by decide +kernel
theorem dX10_end_19 : decode cX10_end 19 = .ok (.iconst 1, 1) := by decide +kernel
theorem dX10_end_20 : decode cX10_end 20 = .ok (.ireturn, 1) := by decide +kernel
theorem dX10_put_0 : decode cX10_put 0 = .ok (.aload_n 0, 1) := by decide +kernel
theorem dX10_put_1 : decode cX10_put 1 = .ok (.iload_n 1, 1) := by decide +kernel
theorem dX10_put_2 : decode cX10_put 2 = .ok (.invokevirtual 74, 3) := by decide +kernel
theorem dX10_put_5 : decode cX10_put 5 = .ok (.astore 4, 2) := by decide +kernel
theorem dX10_put_7 : decode cX10_put 7 = .ok (.aload 4, 2) := by decide +kernel
theorem dX10_put_9 : decode cX10_put 9 = .ok (.ifnull 10, 3) := by decide +kernel
theorem dX10_put_19 : decode cX10_put 19 = .ok (.bipush (-2), 2) := by decide +kernel
theorem dX10_put_21 : decode cX10_put 21 = .ok (.ireturn, 1) := by decide +kernel
theorem dX10_get_0 : decode cX10_get 0 = .ok (.aload_n 0, 1) := by decide +kernel
theorem dX10_get_1 : decode cX10_get 1 = .ok (.iload_n 1, 1) := by decide +kernel
theorem dX10_get_2 : decode cX10_get 2 = .ok (.invokevirtual 74, 3) := by decide +kernel
theorem dX10_get_5 : decode cX10_get 5 = .ok (.astore_n 3, 1) := by decide +kernel
theorem dX10_get_6 : decode cX10_get 6 = .ok (.aload_n 3, 1) := by decide +kernel
theorem dX10_get_7 : decode cX10_get 7 = .ok (.ifnull 10, 3) := by decide +kernel
theorem dX10_get_17 : decode cX10_get 17 = .ok (.ldc2_w 91, 3) := by decide +kernel
theorem dX10_get_20 : decode cX10_get 20 = .ok (.lreturn, 1) := by decide +kernel
theorem dX10_drop_0 : decode cX10_drop 0 = .ok (.aload_n 0, 1) := by decide +kernel
theorem dX10_drop_1 : decode cX10_drop 1 = .ok (.iload_n 1, 1) := by decide +kernel
theorem dX10_drop_2 : decode cX10_drop 2 = .ok (.invokevirtual 74, 3) := by decide +kernel
theorem dX10_drop_5 : decode cX10_drop 5 = .ok (.astore_n 3, 1) := by decide +kernel
theorem dX10_drop_6 : decode cX10_drop 6 = .ok (.aload_n 3, 1) := by decide +kernel
theorem dX10_drop_7 : decode cX10_drop 7 = .ok (.ifnull 10, 3) := by decide +kernel
theorem dX10_drop_17 : decode cX10_drop 17 = .ok (.bipush (-2), 2) := by decide +kernel
theorem dX10_drop_19 : decode cX10_drop 19 = .ok (.ireturn, 1) := by decide +kernel
theorem dX10_build_0 : decode cX10_build 0 = .ok (.aload_n 0, 1) := by decide +kernel
theorem dX10_build_1 : decode cX10_build 1 = .ok (.iload_n 1, 1) := by decide +kernel
theorem dX10_build_2 : decode cX10_build 2 = .ok (.invokevirtual 74, 3) := by decide +kernel
theorem dX10_build_5 : decode cX10_build 5 = .ok (.astore_n 2, 1) := by decide +kernel
theorem dX10_build_6 : decode cX10_build 6 = .ok (.aload_n 2, 1) := by decide +kernel
theorem dX10_build_7 : decode cX10_build 7 = .ok (.ifnonnull 6, 3) := by decide +kernel
theorem dX10_build_10 : decode cX10_build 10 = .ok (.bipush (-2), 2) := by decide +kernel
theorem dX10_build_12 : decode cX10_build 12 = .ok (.ireturn, 1) := by decide +kernel
theorem dX10_has_0 : decode cX10_has 0 = .ok (.aload_n 0, 1) := by decide +kernel
theorem dX10_has_1 : decode cX10_has 1 = .ok (.iload_n 1, 1) := by decide +kernel
theorem dX10_has_2 : decode cX10_has 2 = .ok (.invokevirtual 74, 3) := by decide +kernel
theorem dX10_has_5 : decode cX10_has 5 = .ok (.astore_n 3, 1) := by decide +kernel
theorem dX10_has_6 : decode cX10_has 6 = .ok (.aload_n 3, 1) := by decide +kernel
theorem dX10_has_7 : decode cX10_has 7 = .ok (.ifnonnull 7, 3) := by decide +kernel
theorem dX10_has_10 : decode cX10_has 10 = .ok (.ldc2_w 91, 3) := by decide +kernel
theorem dX10_has_13 : decode cX10_has 13 = .ok (.lreturn, 1) := by decide +kernel
theorem dX10_bucket_0 : decode cX10_bucket 0 = .ok (.aload_n 0, 1) := by decide +kernel
theorem dX10_bucket_1 : decode cX10_bucket 1 = .ok (.iload_n 1, 1) := by decide +kernel
theorem dX10_bucket_2 : decode cX10_bucket 2 = .ok (.invokevirtual 74, 3) := by decide +kernel
theorem dX10_bucket_5 : decode cX10_bucket 5 = .ok (.astore 4, 2) := by decide +kernel
theorem dX10_bucket_7 : decode cX10_bucket 7 = .ok (.aload 4, 2) := by decide +kernel
theorem dX10_bucket_9 : decode cX10_bucket 9 = .ok (.ifnull 15, 3) := by decide +kernel
theorem dX10_bucket_24 : decode cX10_bucket 24 = .ok (.ldc2_w 91, 3) := by decide +kernel
theorem dX10_bucket_27 : decode cX10_bucket 27 = .ok (.lreturn, 1) := by decide +kernel
theorem dX10_room_0 : decode cX10_room 0 = .ok (.aload_n 0, 1) := by decide +kernel
theorem dX10_room_1 : decode cX10_room 1 = .ok (.iload_n 1, 1) := by decide +kernel
theorem dX10_room_2 : decode cX10_room 2 = .ok (.invokevirtual 74, 3) := by decide +kernel
theorem dX10_room_5 : decode cX10_room 5 = .ok (.astore 4, 2) := by decide +kernel
theorem dX10_room_7 : decode cX10_room 7 = .ok (.aload 4, 2) := by decide +kernel
theorem dX10_room_9 : decode cX10_room 9 = .ok (.ifnull 15, 3) := by decide +kernel
theorem dX10_room_24 : decode cX10_room 24 = .ok (.bipush (-2), 2) := by decide +kernel
theorem dX10_room_26 : decode cX10_room 26 = .ok (.ireturn, 1) := by decide +kernel
theorem dX10_place_0 : decode cX10_place 0 = .ok (.aload_n 0, 1) := by decide +kernel
theorem dX10_place_1 : decode cX10_place 1 = .ok (.iload_n 1, 1) := by decide +kernel
theorem dX10_place_2 : decode cX10_place 2 = .ok (.invokevirtual 74, 3) := by decide +kernel
theorem dX10_place_5 : decode cX10_place 5 = .ok (.astore 4, 2) := by decide +kernel
theorem dX10_place_7 : decode cX10_place 7 = .ok (.aload 4, 2) := by decide +kernel
theorem dX10_place_9 : decode cX10_place 9 = .ok (.ifnull 19, 3) := by decide +kernel
theorem dX10_place_28 : decode cX10_place 28 = .ok (.bipush (-2), 2) := by decide +kernel
theorem dX10_place_30 : decode cX10_place 30 = .ok (.ireturn, 1) := by decide +kernel
theorem dX10_key_0 : decode cX10_key 0 = .ok (.aload_n 0, 1) := by decide +kernel
theorem dX10_key_1 : decode cX10_key 1 = .ok (.iload_n 1, 1) := by decide +kernel
theorem dX10_key_2 : decode cX10_key 2 = .ok (.invokevirtual 74, 3) := by decide +kernel
theorem dX10_key_5 : decode cX10_key 5 = .ok (.astore_n 3, 1) := by decide +kernel
theorem dX10_key_6 : decode cX10_key 6 = .ok (.aload_n 3, 1) := by decide +kernel
theorem dX10_key_7 : decode cX10_key 7 = .ok (.ifnull 18, 3) := by decide +kernel
theorem dX10_key_25 : decode cX10_key 25 = .ok (.iconst (-1), 1) := by decide +kernel
theorem dX10_key_26 : decode cX10_key 26 = .ok (.ireturn, 1) := by decide +kernel
theorem dX10_walk_0 : decode cX10_walk 0 = .ok (.aload_n 0, 1) := by decide +kernel
theorem dX10_walk_1 : decode cX10_walk 1 = .ok (.iload_n 1, 1) := by decide +kernel
theorem dX10_walk_2 : decode cX10_walk 2 = .ok (.invokevirtual 74, 3) := by decide +kernel
theorem dX10_walk_5 : decode cX10_walk 5 = .ok (.astore_n 3, 1) := by decide +kernel
theorem dX10_walk_6 : decode cX10_walk 6 = .ok (.aload_n 3, 1) := by decide +kernel
theorem dX10_walk_7 : decode cX10_walk 7 = .ok (.ifnull 18, 3) := by decide +kernel
theorem dX10_walk_25 : decode cX10_walk 25 = .ok (.iconst (-1), 1) := by decide +kernel
theorem dX10_walk_26 : decode cX10_walk 26 = .ok (.ireturn, 1) := by decide +kernel
theorem dX10_below_0 : decode cX10_below 0 = .ok (.aload_n 0, 1) := by decide +kernel
theorem dX10_below_1 : decode cX10_below 1 = .ok (.iload_n 1, 1) := by decide +kernel
theorem dX10_below_2 : decode cX10_below 2 = .ok (.invokevirtual 74, 3) := by decide +kernel
theorem dX10_below_5 : decode cX10_below 5 = .ok (.astore_n 3, 1) := by decide +kernel
theorem dX10_below_6 : decode cX10_below 6 = .ok (.aload_n 3, 1) := by decide +kernel
theorem dX10_below_7 : decode cX10_below 7 = .ok (.ifnull 7, 3) := by decide +kernel
theorem dX10_below_14 : decode cX10_below 14 = .ok (.iconst (-1), 1) := by decide +kernel
theorem dX10_below_15 : decode cX10_below 15 = .ok (.ireturn, 1) := by decide +kernel
theorem dX10_nearest_0 : decode cX10_nearest 0 = .ok (.aload_n 0, 1) := by decide +kernel
theorem dX10_nearest_1 : decode cX10_nearest 1 = .ok (.iload_n 1, 1) := by decide +kernel
theorem dX10_nearest_2 : decode cX10_nearest 2 = .ok (.invokevirtual 74, 3) := by decide +kernel
theorem dX10_nearest_5 : decode cX10_nearest 5 = .ok (.astore_n 3, 1) := by decide +kernel
theorem dX10_nearest_6 : decode cX10_nearest 6 = .ok (.aload_n 3, 1) := by decide +kernel
theorem dX10_nearest_7 : decode cX10_nearest 7 = .ok (.ifnull 10, 3) := by decide +kernel
theorem dX10_nearest_17 : decode cX10_nearest 17 = .ok (.iconst (-1), 1) := by decide +kernel
theorem dX10_nearest_18 : decode cX10_nearest 18 = .ok (.ireturn, 1) := by decide +kernel
theorem dX10_many_0 : decode cX10_many 0 = .ok (.aload_n 0, 1) := by decide +kernel
theorem dX10_many_1 : decode cX10_many 1 = .ok (.iload_n 1, 1) := by decide +kernel
theorem dX10_many_2 : decode cX10_many 2 = .ok (.invokevirtual 74, 3) := by decide +kernel
theorem dX10_many_5 : decode cX10_many 5 = .ok (.astore_n 3, 1) := by decide +kernel
theorem dX10_many_6 : decode cX10_many 6 = .ok (.aload_n 3, 1) := by decide +kernel
theorem dX10_many_7 : decode cX10_many 7 = .ok (.ifnull 7, 3) := by decide +kernel
theorem dX10_many_14 : decode cX10_many 14 = .ok (.iconst (-1), 1) := by decide +kernel
theorem dX10_many_15 : decode cX10_many 15 = .ok (.ireturn, 1) := by decide +kernel
theorem dX10_crowd_0 : decode cX10_crowd 0 = .ok (.aload_n 0, 1) := by decide +kernel
theorem dX10_crowd_1 : decode cX10_crowd 1 = .ok (.iload_n 1, 1) := by decide +kernel
theorem dX10_crowd_2 : decode cX10_crowd 2 = .ok (.invokevirtual 74, 3) := by decide +kernel
theorem dX10_crowd_5 : decode cX10_crowd 5 = .ok (.astore_n 3, 1) := by decide +kernel
theorem dX10_crowd_6 : decode cX10_crowd 6 = .ok (.aload_n 3, 1) := by decide +kernel
theorem dX10_crowd_7 : decode cX10_crowd 7 = .ok (.ifnonnull 5, 3) := by decide +kernel
theorem dX10_crowd_10 : decode cX10_crowd 10 = .ok (.iconst (-1), 1) := by decide +kernel
theorem dX10_crowd_11 : decode cX10_crowd 11 = .ok (.ireturn, 1) := by decide +kernel
theorem dX10_empty_0 : decode cX10_empty 0 = .ok (.aload_n 0, 1) := by decide +kernel
theorem dX10_empty_1 : decode cX10_empty 1 = .ok (.iload_n 1, 1) := by decide +kernel
theorem dX10_empty_2 : decode cX10_empty 2 = .ok (.invokevirtual 74, 3) := by decide +kernel
theorem dX10_empty_5 : decode cX10_empty 5 = .ok (.astore_n 2, 1) := by decide +kernel
theorem dX10_empty_6 : decode cX10_empty 6 = .ok (.aload_n 2, 1) := by decide +kernel
theorem dX10_empty_7 : decode cX10_empty 7 = .ok (.ifnonnull 7, 3) := by decide +kernel
theorem dX10_empty_10 : decode cX10_empty 10 = .ok (.iconst (-1), 1) := by decide +kernel
theorem dX10_empty_11 : decode cX10_empty 11 = .ok (.goto 18, 3) := by decide +kernel
theorem dX10_empty_29 : decode cX10_empty 29 = .ok (.ireturn, 1) := by decide +kernel
theorem dX10_left_0 : decode cX10_left 0 = .ok (.aload_n 0, 1) := by decide +kernel
theorem dX10_left_1 : decode cX10_left 1 = .ok (.iload_n 1, 1) := by decide +kernel
theorem dX10_left_2 : decode cX10_left 2 = .ok (.invokevirtual 74, 3) := by decide +kernel
theorem dX10_left_5 : decode cX10_left 5 = .ok (.astore_n 2, 1) := by decide +kernel
theorem dX10_left_6 : decode cX10_left 6 = .ok (.aload_n 2, 1) := by decide +kernel
theorem dX10_left_7 : decode cX10_left 7 = .ok (.ifnonnull 7, 3) := by decide +kernel
theorem dX10_left_10 : decode cX10_left 10 = .ok (.iconst (-1), 1) := by decide +kernel
theorem dX10_left_11 : decode cX10_left 11 = .ok (.goto 14, 3) := by decide +kernel
theorem dX10_left_25 : decode cX10_left 25 = .ok (.ireturn, 1) := by decide +kernel
theorem dX10_outer_0 : decode cX10_outer 0 = .ok (.aload_n 0, 1) := by decide +kernel
end
section
theorem dX10_outer_1 : decode cX10_outer 1 = .ok (.iload_n 1, 1) := by decide +kernel
theorem dX10_outer_2 : decode cX10_outer 2 = .ok (.invokevirtual 74, 3) := by decide +kernel
theorem dX10_outer_5 : decode cX10_outer 5 = .ok (.astore 6, 2) := by decide +kernel
theorem dX10_outer_7 : decode cX10_outer 7 = .ok (.aload 6, 2) := by decide +kernel
theorem dX10_outer_9 : decode cX10_outer 9 = .ok (.ifnull 36, 3) := by decide +kernel
theorem dX10_outer_45 : decode cX10_outer 45 = .ok (.ldc2_w 91, 3) := by decide +kernel
theorem dX10_outer_48 : decode cX10_outer 48 = .ok (.lreturn, 1) := by decide +kernel
theorem dX10_best_0 : decode cX10_best 0 = .ok (.aload_n 0, 1) := by decide +kernel
theorem dX10_best_1 : decode cX10_best 1 = .ok (.iload_n 1, 1) := by decide +kernel
theorem dX10_best_2 : decode cX10_best 2 = .ok (.invokevirtual 74, 3) := by decide +kernel
theorem dX10_best_5 : decode cX10_best 5 = .ok (.astore 6, 2) := by decide +kernel
theorem dX10_best_7 : decode cX10_best 7 = .ok (.aload 6, 2) := by decide +kernel
theorem dX10_best_9 : decode cX10_best 9 = .ok (.ifnull 26, 3) := by decide +kernel
theorem dX10_best_35 : decode cX10_best 35 = .ok (.ldc2_w 91, 3) := by decide +kernel
theorem dX10_best_38 : decode cX10_best 38 = .ok (.lreturn, 1) := by decide +kernel
theorem dX10_inner_0 : decode cX10_inner 0 = .ok (.aload_n 0, 1) := by decide +kernel
theorem dX10_inner_1 : decode cX10_inner 1 = .ok (.iload_n 1, 1) := by decide +kernel
theorem dX10_inner_2 : decode cX10_inner 2 = .ok (.invokevirtual 74, 3) := by decide +kernel
theorem dX10_inner_5 : decode cX10_inner 5 = .ok (.astore 5, 2) := by decide +kernel
theorem dX10_inner_7 : decode cX10_inner 7 = .ok (.aload 5, 2) := by decide +kernel
theorem dX10_inner_9 : decode cX10_inner 9 = .ok (.ifnull 24, 3) := by decide +kernel
theorem dX10_inner_33 : decode cX10_inner 33 = .ok (.iconst (-1), 1) := by decide +kernel
theorem dX10_inner_34 : decode cX10_inner 34 = .ok (.ireturn, 1) := by decide +kernel
theorem dX10_tries_0 : decode cX10_tries 0 = .ok (.aload_n 0, 1) := by decide +kernel
theorem dX10_tries_1 : decode cX10_tries 1 = .ok (.iload_n 1, 1) := by decide +kernel
theorem dX10_tries_2 : decode cX10_tries 2 = .ok (.invokevirtual 74, 3) := by decide +kernel
theorem dX10_tries_5 : decode cX10_tries 5 = .ok (.astore 7, 2) := by decide +kernel
theorem dX10_tries_7 : decode cX10_tries 7 = .ok (.aload 7, 2) := by decide +kernel
theorem dX10_tries_9 : decode cX10_tries 9 = .ok (.ifnull 38, 3) := by decide +kernel
theorem dX10_tries_47 : decode cX10_tries 47 = .ok (.bipush (-2), 2) := by decide +kernel
theorem dX10_tries_49 : decode cX10_tries 49 = .ok (.ireturn, 1) := by decide +kernel
theorem dX10_would_0 : decode cX10_would 0 = .ok (.aload_n 0, 1) := by decide +kernel
theorem dX10_would_1 : decode cX10_would 1 = .ok (.iload_n 1, 1) := by decide +kernel
theorem dX10_would_2 : decode cX10_would 2 = .ok (.invokevirtual 74, 3) := by decide +kernel
theorem dX10_would_5 : decode cX10_would 5 = .ok (.astore_n 3, 1) := by decide +kernel
theorem dX10_would_6 : decode cX10_would 6 = .ok (.aload_n 3, 1) := by decide +kernel
theorem dX10_would_7 : decode cX10_would 7 = .ok (.ifnull 10, 3) := by decide +kernel
theorem dX10_would_17 : decode cX10_would 17 = .ok (.bipush (-2), 2) := by decide +kernel
theorem dX10_would_19 : decode cX10_would 19 = .ok (.ireturn, 1) := by decide +kernel
theorem dX10_frozen_0 : decode cX10_frozen 0 = .ok (.aload_n 0, 1) := by decide +kernel
theorem dX10_frozen_1 : decode cX10_frozen 1 = .ok (.iload_n 1, 1) := by decide +kernel
theorem dX10_frozen_2 : decode cX10_frozen 2 = .ok (.invokevirtual 74, 3) := by decide +kernel
theorem dX10_frozen_5 : decode cX10_frozen 5 = .ok (.astore 5, 2) := by decide +kernel
theorem dX10_frozen_7 : decode cX10_frozen 7 = .ok (.aload 5, 2) := by decide +kernel
theorem dX10_frozen_9 : decode cX10_frozen 9 = .ok (.ifnull 14, 3) := by decide +kernel
theorem dX10_frozen_23 : decode cX10_frozen 23 = .ok (.ldc2_w 91, 3) := by decide +kernel
theorem dX10_frozen_26 : decode cX10_frozen 26 = .ok (.lreturn, 1) := by decide +kernel
theorem dX10_frozenAt_0 : decode cX10_frozenAt 0 = .ok (.aload_n 0, 1) := by decide +kernel
theorem dX10_frozenAt_1 : decode cX10_frozenAt 1 = .ok (.iload_n 1, 1) := by decide +kernel
theorem dX10_frozenAt_2 : decode cX10_frozenAt 2 = .ok (.invokevirtual 74, 3) := by decide +kernel
theorem dX10_frozenAt_5 : decode cX10_frozenAt 5 = .ok (.astore 5, 2) := by decide +kernel
theorem dX10_frozenAt_7 : decode cX10_frozenAt 7 = .ok (.aload 5, 2) := by decide +kernel
theorem dX10_frozenAt_9 : decode cX10_frozenAt 9 = .ok (.ifnonnull 5, 3) := by decide +kernel
theorem dX10_frozenAt_12 : decode cX10_frozenAt 12 = .ok (.iconst (-1), 1) := by decide +kernel
theorem dX10_frozenAt_13 : decode cX10_frozenAt 13 = .ok (.ireturn, 1) := by decide +kernel
theorem dX10_shared_0 : decode cX10_shared 0 = .ok (.aload_n 0, 1) := by decide +kernel
theorem dX10_shared_1 : decode cX10_shared 1 = .ok (.iload_n 1, 1) := by decide +kernel
theorem dX10_shared_2 : decode cX10_shared 2 = .ok (.invokevirtual 74, 3) := by decide +kernel
theorem dX10_shared_5 : decode cX10_shared 5 = .ok (.astore 4, 2) := by decide +kernel
theorem dX10_shared_7 : decode cX10_shared 7 = .ok (.aload_n 0, 1) := by decide +kernel
theorem dX10_shared_8 : decode cX10_shared 8 = .ok (.iload_n 2, 1) := by decide +kernel
theorem dX10_shared_9 : decode cX10_shared 9 = .ok (.invokevirtual 74, 3) := by decide +kernel
theorem dX10_shared_12 : decode cX10_shared 12 = .ok (.astore 5, 2) := by decide +kernel
theorem dX10_shared_14 : decode cX10_shared 14 = .ok (.aload 4, 2) := by decide +kernel
theorem dX10_shared_16 : decode cX10_shared 16 = .ok (.ifnull 8, 3) := by decide +kernel
theorem dX10_shared_24 : decode cX10_shared 24 = .ok (.iconst (-1), 1) := by decide +kernel
theorem dX10_shared_25 : decode cX10_shared 25 = .ok (.ireturn, 1) := by decide +kernel
theorem dX10_join_0 : decode cX10_join 0 = .ok (.aload_n 0, 1) := by decide +kernel
theorem dX10_join_1 : decode cX10_join 1 = .ok (.iload_n 1, 1) := by decide +kernel
theorem dX10_join_2 : decode cX10_join 2 = .ok (.invokevirtual 74, 3) := by decide +kernel
theorem dX10_join_5 : decode cX10_join 5 = .ok (.astore_n 3, 1) := by decide +kernel
theorem dX10_join_6 : decode cX10_join 6 = .ok (.aload_n 0, 1) := by decide +kernel
theorem dX10_join_7 : decode cX10_join 7 = .ok (.iload_n 2, 1) := by decide +kernel
theorem dX10_join_8 : decode cX10_join 8 = .ok (.invokevirtual 74, 3) := by decide +kernel
theorem dX10_join_11 : decode cX10_join 11 = .ok (.astore 4, 2) := by decide +kernel
theorem dX10_join_13 : decode cX10_join 13 = .ok (.aload_n 3, 1) := by decide +kernel
theorem dX10_join_14 : decode cX10_join 14 = .ok (.ifnull 13, 3) := by decide +kernel
theorem dX10_join_27 : decode cX10_join 27 = .ok (.bipush (-2), 2) := by decide +kernel
theorem dX10_join_29 : decode cX10_join 29 = .ok (.ireturn, 1) := by decide +kernel
theorem dX10_cut_0 : decode cX10_cut 0 = .ok (.aload_n 0, 1) := by decide +kernel
theorem dX10_cut_1 : decode cX10_cut 1 = .ok (.iload_n 1, 1) := by decide +kernel
theorem dX10_cut_2 : decode cX10_cut 2 = .ok (.invokevirtual 74, 3) := by decide +kernel
theorem dX10_cut_5 : decode cX10_cut 5 = .ok (.astore 4, 2) := by decide +kernel
theorem dX10_cut_7 : decode cX10_cut 7 = .ok (.aload_n 0, 1) := by decide +kernel
theorem dX10_cut_8 : decode cX10_cut 8 = .ok (.iload_n 2, 1) := by decide +kernel
theorem dX10_cut_9 : decode cX10_cut 9 = .ok (.invokevirtual 74, 3) := by decide +kernel
theorem dX10_cut_12 : decode cX10_cut 12 = .ok (.astore 5, 2) := by decide +kernel
theorem dX10_cut_14 : decode cX10_cut 14 = .ok (.aload 4, 2) := by decide +kernel
theorem dX10_cut_16 : decode cX10_cut 16 = .ok (.ifnull 13, 3) := by decide +kernel
theorem dX10_cut_29 : decode cX10_cut 29 = .ok (.bipush (-2), 2) := by decide +kernel
theorem dX10_cut_31 : decode cX10_cut 31 = .ok (.ireturn, 1) := by decide +kernel
theorem dX10_values_0 : decode cX10_values 0 = .ok (.aload_n 0, 1) := by decide +kernel
theorem dX10_values_1 : decode cX10_values 1 = .ok (.iload_n 1, 1) := by decide +kernel
theorem dX10_values_2 : decode cX10_values 2 = .ok (.invokevirtual 74, 3) := by decide +kernel
theorem dX10_values_5 : decode cX10_values 5 = .ok (.astore_n 3, 1) := by decide +kernel
theorem dX10_values_6 : decode cX10_values 6 = .ok (.aload_n 3, 1) := by decide +kernel
theorem dX10_values_7 : decode cX10_values 7 = .ok (.ifnonnull 7, 3) := by decide +kernel
theorem dX10_values_10 : decode cX10_values 10 = .ok (.ldc2_w 91, 3) := by decide +kernel
theorem dX10_values_13 : decode cX10_values 13 = .ok (.lreturn, 1) := by decide +kernel
theorem dX10_run_0 : decode cX10_run 0 = .ok (.aload_n 0, 1) := by decide +kernel
theorem dX10_run_1 : decode cX10_run 1 = .ok (.iload_n 1, 1) := by decide +kernel
theorem dX10_run_2 : decode cX10_run 2 = .ok (.invokevirtual 74, 3) := by decide +kernel
theorem dX10_run_5 : decode cX10_run 5 = .ok (.astore_n 2, 1) := by decide +kernel
theorem dX10_run_6 : decode cX10_run 6 = .ok (.aload_n 2, 1) := by decide +kernel
theorem dX10_run_7 : decode cX10_run 7 = .ok (.ifnonnull 6, 3) := by decide +kernel
theorem dX10_run_10 : decode cX10_run 10 = .ok (.bipush (-2), 2) := by decide +kernel
theorem dX10_run_12 : decode cX10_run 12 = .ok (.ireturn, 1) := by decide +kernel
theorem dX10_ran_0 : decode cX10_ran 0 = .ok (.aload_n 0, 1) := by decide +kernel
theorem dX10_ran_1 : decode cX10_ran 1 = .ok (.getfield 40, 3) := by decide +kernel
theorem dX10_ran_4 : decode cX10_ran 4 = .ok (.getfield 282, 3) := by decide +kernel
theorem dX10_ran_7 : decode cX10_ran 7 = .ok (.ifCond .eq 7, 3) := by decide +kernel
theorem dX10_ran_14 : decode cX10_ran 14 = .ok (.iconst 0, 1) := by decide +kernel
theorem dX10_ran_15 : decode cX10_ran 15 = .ok (.istore_n 2, 1) := by decide +kernel
theorem dX10_ran_16 : decode cX10_ran 16 = .ok (.iload_n 1, 1) := by decide +kernel
theorem dX10_ran_17 : decode cX10_ran 17 = .ok (.tableswitch 120 0 5 #[39, 48, 67, 86, 95, 104], 39) := by decide +kernel
theorem dX10_ran_56 : decode cX10_ran 56 = .ok (.aload_n 0, 1) := by decide +kernel
theorem dX10_ran_57 : decode cX10_ran 57 = .ok (.getfield 40, 3) := by decide +kernel
theorem dX10_ran_60 : decode cX10_ran 60 = .ok (.getfield 282, 3) := by decide +kernel
theorem dX10_ran_63 : decode cX10_ran 63 = .ok (.i2l, 1) := by decide +kernel
theorem dX10_ran_64 : decode cX10_ran 64 = .ok (.lreturn, 1) := by decide +kernel
theorem dX10_ran_65 : decode cX10_ran 65 = .ok (.iload_n 2, 1) := by decide +kernel
theorem dX10_ran_66 : decode cX10_ran 66 = .ok (.ifCond .eq 14, 3) := by decide +kernel
theorem dX10_ran_80 : decode cX10_ran 80 = .ok (.ldc2_w 183, 3) := by decide +kernel
theorem dX10_ran_83 : decode cX10_ran 83 = .ok (.lreturn, 1) := by decide +kernel
theorem dX10_ran_84 : decode cX10_ran 84 = .ok (.iload_n 2, 1) := by decide +kernel
theorem dX10_ran_85 : decode cX10_ran 85 = .ok (.ifCond .eq 14, 3) := by decide +kernel
theorem dX10_ran_99 : decode cX10_ran 99 = .ok (.ldc2_w 183, 3) := by decide +kernel
theorem dX10_ran_102 : decode cX10_ran 102 = .ok (.lreturn, 1) := by decide +kernel
theorem dX10_ran_103 : decode cX10_ran 103 = .ok (.aload_n 0, 1) := by decide +kernel
theorem dX10_ran_104 : decode cX10_ran 104 = .ok (.getfield 47, 3) := by decide +kernel
theorem dX10_ran_107 : decode cX10_ran 107 = .ok (.getfield 302, 3) := by decide +kernel
theorem dX10_ran_110 : decode cX10_ran 110 = .ok (.i2l, 1) := by decide +kernel
theorem dX10_ran_111 : decode cX10_ran 111 = .ok (.lreturn, 1) := by decide +kernel
theorem dX10_ran_112 : decode cX10_ran 112 = .ok (.aload_n 0, 1) := by decide +kernel
theorem dX10_ran_113 : decode cX10_ran 113 = .ok (.getfield 47, 3) := by decide +kernel
theorem dX10_ran_116 : decode cX10_ran 116 = .ok (.getfield 305, 3) := by decide +kernel
theorem dX10_ran_119 : decode cX10_ran 119 = .ok (.i2l, 1) := by decide +kernel
theorem dX10_ran_120 : decode cX10_ran 120 = .ok (.lreturn, 1) := by decide +kernel
theorem dX10_ran_121 : decode cX10_ran 121 = .ok (.aload_n 0, 1) := by decide +kernel
theorem dX10_ran_122 : decode cX10_ran 122 = .ok (.getfield 47, 3) := by decide +kernel
theorem dX10_ran_125 : decode cX10_ran 125 = .ok (.getfield 308, 3) := by decide +kernel
theorem dX10_ran_128 : decode cX10_ran 128 = .ok (.ifCond .eq 7, 3) := by decide +kernel
theorem dX10_ran_135 : decode cX10_ran 135 = .ok (.lconst 0, 1) := by decide +kernel
theorem dX10_ran_136 : decode cX10_ran 136 = .ok (.lreturn, 1) := by decide +kernel
theorem dX10_ran_137 : decode cX10_ran 137 = .ok (.ldc2_w 91, 3) := by decide +kernel
theorem dX10_ran_140 : decode cX10_ran 140 = .ok (.lreturn, 1) := by decide +kernel
theorem dX10_image_0 : decode cX10_image 0 = .ok (.aload_n 0, 1) := by decide +kernel
theorem dX10_image_1 : decode cX10_image 1 = .ok (.iload_n 1, 1) := by decide +kernel
theorem dX10_image_2 : decode cX10_image 2 = .ok (.invokevirtual 74, 3) := by decide +kernel
theorem dX10_image_5 : decode cX10_image 5 = .ok (.astore_n 2, 1) := by decide +kernel
theorem dX10_image_6 : decode cX10_image 6 = .ok (.aload_n 2, 1) := by decide +kernel
theorem dX10_image_7 : decode cX10_image 7 = .ok (.ifnonnull 5, 3) := by decide +kernel
theorem dX10_image_10 : decode cX10_image 10 = .ok (.iconst (-1), 1) := by decide +kernel
theorem dX10_image_11 : decode cX10_image 11 = .ok (.ireturn, 1) := by decide +kernel
theorem dX10_octet_0 : decode cX10_octet 0 = .ok (.iload_n 1, 1) := by decide +kernel
theorem dX10_octet_1 : decode cX10_octet 1 = .ok (.ifCond .lt 14, 3) := by decide +kernel
theorem dX10_octet_4 : decode cX10_octet 4 = .ok (.iload_n 1, 1) := by decide +kernel
theorem dX10_octet_5 : decode cX10_octet 5 = .ok (.aload_n 0, 1) := by decide +kernel
theorem dX10_octet_6 : decode cX10_octet 6 = .ok (.getfield 33, 3) := by decide +kernel
theorem dX10_octet_9 : decode cX10_octet 9 = .ok (.getfield 316, 3) := by decide +kernel
theorem dX10_octet_12 : decode cX10_octet 12 = .ok (.if_icmp .lt 7, 3) := by decide +kernel
theorem dX10_octet_15 : decode cX10_octet 15 = .ok (.iconst (-1), 1) := by decide +kernel
theorem dX10_octet_16 : decode cX10_octet 16 = .ok (.goto 12, 3) := by decide +kernel
theorem dX10_octet_28 : decode cX10_octet 28 = .ok (.ireturn, 1) := by decide +kernel
theorem dX10_back_0 : decode cX10_back 0 = .ok (.iload_n 1, 1) := by decide +kernel
theorem dX10_back_1 : decode cX10_back 1 = .ok (.invokestatic 55, 3) := by decide +kernel
theorem dX10_back_4 : decode cX10_back 4 = .ok (.ifCond .ne 6, 3) := by decide +kernel
theorem dX10_back_7 : decode cX10_back 7 = .ok (.bipush (-2), 2) := by decide +kernel
theorem dX10_back_9 : decode cX10_back 9 = .ok (.ireturn, 1) := by decide +kernel
theorem dX10_back_10 : decode cX10_back 10 = .ok (.aload_n 0, 1) := by decide +kernel
theorem dX10_back_11 : decode cX10_back 11 = .ok (.getfield 19, 3) := by decide +kernel
theorem dX10_back_14 : decode cX10_back 14 = .ok (.istore_n 2, 1) := by decide +kernel
theorem dX10_back_15 : decode cX10_back 15 = .ok (.aload_n 0, 1) := by decide +kernel
theorem dX10_back_16 : decode cX10_back 16 = .ok (.iconst 0, 1) := by decide +kernel
theorem dX10_back_17 : decode cX10_back 17 = .ok (.putfield 19, 3) := by decide +kernel
theorem dX10_back_20 : decode cX10_back 20 = .ok (.aload_n 0, 1) := by decide +kernel
theorem dX10_back_21 : decode cX10_back 21 = .ok (.getfield 15, 3) := by decide +kernel
theorem dX10_back_24 : decode cX10_back 24 = .ok (.iload_n 2, 1) := by decide +kernel
theorem dX10_back_25 : decode cX10_back 25 = .ok (.invokestatic 322, 3) := by decide +kernel
theorem dX10_back_28 : decode cX10_back 28 = .ok (.ifCond .ne 5, 3) := by decide +kernel
theorem dX10_back_31 : decode cX10_back 31 = .ok (.iconst (-1), 1) := by decide +kernel
theorem dX10_back_32 : decode cX10_back 32 = .ok (.ireturn, 1) := by decide +kernel
theorem dX10_copy_0 : decode cX10_copy 0 = .ok (.aload_n 0, 1) := by decide +kernel
theorem dX10_copy_1 : decode cX10_copy 1 = .ok (.iload_n 2, 1) := by decide +kernel
theorem dX10_copy_2 : decode cX10_copy 2 = .ok (.invokevirtual 74, 3) := by decide +kernel
theorem dX10_copy_5 : decode cX10_copy 5 = .ok (.astore_n 3, 1) := by decide +kernel
theorem dX10_copy_6 : decode cX10_copy 6 = .ok (.iload_n 1, 1) := by decide +kernel
theorem dX10_copy_7 : decode cX10_copy 7 = .ok (.invokestatic 55, 3) := by decide +kernel
theorem dX10_copy_10 : decode cX10_copy 10 = .ok (.ifCond .eq 12, 3) := by decide +kernel
theorem dX10_copy_13 : decode cX10_copy 13 = .ok (.aload_n 3, 1) := by decide +kernel
theorem dX10_copy_14 : decode cX10_copy 14 = .ok (.ifnull 8, 3) := by decide +kernel
theorem dX10_copy_22 : decode cX10_copy 22 = .ok (.bipush (-2), 2) := by decide +kernel
theorem dX10_copy_24 : decode cX10_copy 24 = .ok (.ireturn, 1) := by decide +kernel
theorem dX10_count_0 : decode cX10_count 0 = .ok (.iload_n 1, 1) := by decide +kernel
theorem dX10_count_1 : decode cX10_count 1 = .ok (.tableswitch 42 0 2 #[27, 32, 37], 27) := by decide +kernel
theorem dX10_count_28 : decode cX10_count 28 = .ok (.aload_n 0, 1) := by decide +kernel
theorem dX10_count_29 : decode cX10_count 29 = .ok (.invokevirtual 345, 3) := by decide +kernel
theorem dX10_count_32 : decode cX10_count 32 = .ok (.ireturn, 1) := by decide +kernel
theorem dX10_count_33 : decode cX10_count 33 = .ok (.aload_n 0, 1) := by decide +kernel
theorem dX10_count_34 : decode cX10_count 34 = .ok (.invokevirtual 348, 3) := by decide +kernel
theorem dX10_count_37 : decode cX10_count 37 = .ok (.ireturn, 1) := by decide +kernel
theorem dX10_count_38 : decode cX10_count 38 = .ok (.aload_n 0, 1) := by decide +kernel
theorem dX10_count_39 : decode cX10_count 39 = .ok (.getfield 19, 3) := by decide +kernel
theorem dX10_count_42 : decode cX10_count 42 = .ok (.ireturn, 1) := by decide +kernel
theorem dX10_count_43 : decode cX10_count 43 = .ok (.iconst (-1), 1) := by decide +kernel
theorem dX10_count_44 : decode cX10_count 44 = .ok (.ireturn, 1) := by decide +kernel
theorem dX10_countTables_0 : decode cX10_countTables 0 = .ok (.iconst 0, 1) := by decide +kernel
theorem dX10_countTables_1 : decode cX10_countTables 1 = .ok (.istore_n 1, 1) := by decide +kernel
theorem dX10_countTables_2 : decode cX10_countTables 2 = .ok (.iconst 0, 1) := by decide +kernel
theorem dX10_countTables_3 : decode cX10_countTables 3 = .ok (.istore_n 2, 1) := by decide +kernel
theorem dX10_countTables_4 : decode cX10_countTables 4 = .ok (.iload_n 2, 1) := by decide +kernel
theorem dX10_countTables_5 : decode cX10_countTables 5 = .ok (.iconst 4, 1) := by decide +kernel
theorem dX10_countTables_6 : decode cX10_countTables 6 = .ok (.if_icmp .ge 21, 3) := by decide +kernel
theorem dX10_countTables_9 : decode cX10_countTables 9 = .ok (.aload_n 0, 1) := by decide +kernel
theorem dX10_countTables_10 : decode cX10_countTables 10 = .ok (.getfield 11, 3) := by decide +kernel
theorem dX10_countTables_13 : decode cX10_countTables 13 = .ok (.iload_n 2, 1) := by decide +kernel
theorem dX10_countTables_14 : decode cX10_countTables 14 = .ok (.aaload, 1) := by decide +kernel
theorem dX10_countTables_15 : decode cX10_countTables 15 = .ok (.ifnull 6, 3) := by decide +kernel
theorem dX10_countTables_21 : decode cX10_countTables 21 = .ok (.iinc 2 1, 3) := by decide +kernel
theorem dX10_countTables_24 : decode cX10_countTables 24 = .ok (.goto (-20), 3) := by decide +kernel
theorem dX10_countTables_27 : decode cX10_countTables 27 = .ok (.iload_n 1, 1) := by decide +kernel
theorem dX10_countTables_28 : decode cX10_countTables 28 = .ok (.ireturn, 1) := by decide +kernel
theorem dX10_countKeys_0 : decode cX10_countKeys 0 = .ok (.iconst 0, 1) := by decide +kernel
theorem dX10_countKeys_1 : decode cX10_countKeys 1 = .ok (.istore_n 1, 1) := by decide +kernel
theorem dX10_countKeys_2 : decode cX10_countKeys 2 = .ok (.iconst 0, 1) := by decide +kernel
theorem dX10_countKeys_3 : decode cX10_countKeys 3 = .ok (.istore_n 2, 1) := by decide +kernel
theorem dX10_countKeys_4 : decode cX10_countKeys 4 = .ok (.iload_n 2, 1) := by decide +kernel
theorem dX10_countKeys_5 : decode cX10_countKeys 5 = .ok (.iconst 4, 1) := by decide +kernel
theorem dX10_countKeys_6 : decode cX10_countKeys 6 = .ok (.if_icmp .ge 33, 3) := by decide +kernel
theorem dX10_countKeys_9 : decode cX10_countKeys 9 = .ok (.aload_n 0, 1) := by decide +kernel
theorem dX10_countKeys_10 : decode cX10_countKeys 10 = .ok (.getfield 11, 3) := by decide +kernel
theorem dX10_countKeys_13 : decode cX10_countKeys 13 = .ok (.iload_n 2, 1) := by decide +kernel
theorem dX10_countKeys_14 : decode cX10_countKeys 14 = .ok (.aaload, 1) := by decide +kernel
theorem dX10_countKeys_15 : decode cX10_countKeys 15 = .ok (.ifnull 18, 3) := by decide +kernel
theorem dX10_countKeys_33 : decode cX10_countKeys 33 = .ok (.iinc 2 1, 3) := by decide +kernel
theorem dX10_countKeys_36 : decode cX10_countKeys 36 = .ok (.goto (-32), 3) := by decide +kernel
theorem dX10_countKeys_39 : decode cX10_countKeys 39 = .ok (.iload_n 1, 1) := by decide +kernel
theorem dX10_countKeys_40 : decode cX10_countKeys 40 = .ok (.ireturn, 1) := by decide +kernel
theorem dX10_tableAt_0 : decode cX10_tableAt 0 = .ok (.iload_n 1, 1) := by decide +kernel
theorem dX10_tableAt_1 : decode cX10_tableAt 1 = .ok (.invokestatic 55, 3) := by decide +kernel
theorem dX10_tableAt_4 : decode cX10_tableAt 4 = .ok (.ifCond .eq 12, 3) := by decide +kernel
theorem dX10_tableAt_7 : decode cX10_tableAt 7 = .ok (.aload_n 0, 1) := by decide +kernel
theorem dX10_tableAt_8 : decode cX10_tableAt 8 = .ok (.getfield 11, 3) := by decide +kernel
theorem dX10_tableAt_11 : decode cX10_tableAt 11 = .ok (.iload_n 1, 1) := by decide +kernel
theorem dX10_tableAt_12 : decode cX10_tableAt 12 = .ok (.aaload, 1) := by decide +kernel
theorem dX10_tableAt_13 : decode cX10_tableAt 13 = .ok (.goto 4, 3) := by decide +kernel
theorem dX10_tableAt_16 : decode cX10_tableAt 16 = .ok (.aconst_null, 1) := by decide +kernel
theorem dX10_tableAt_17 : decode cX10_tableAt 17 = .ok (.areturn, 1) := by decide +kernel
theorem dX10_isTableNumber_0 : decode cX10_isTableNumber 0 = .ok (.iload_n 0, 1) := by decide +kernel
theorem dX10_isTableNumber_1 : decode cX10_isTableNumber 1 = .ok (.ifCond .lt 12, 3) := by decide +kernel
theorem dX10_isTableNumber_4 : decode cX10_isTableNumber 4 = .ok (.iload_n 0, 1) := by decide +kernel
theorem dX10_isTableNumber_5 : decode cX10_isTableNumber 5 = .ok (.iconst 4, 1) := by decide +kernel
theorem dX10_isTableNumber_6 : decode cX10_isTableNumber 6 = .ok (.if_icmp .ge 7, 3) := by decide +kernel
theorem dX10_isTableNumber_9 : decode cX10_isTableNumber 9 = .ok (.iconst 1, 1) := by decide +kernel
theorem dX10_isTableNumber_10 : decode cX10_isTableNumber 10 = .ok (.goto 4, 3) := by decide +kernel
theorem dX10_isTableNumber_13 : decode cX10_isTableNumber 13 = .ok (.iconst 0, 1) := by decide +kernel
theorem dX10_isTableNumber_14 : decode cX10_isTableNumber 14 = .ok (.ireturn, 1) := by decide +kernel
theorem dX10_writeInt_0 : decode cX10_writeInt 0 = .ok (.iload_n 1, 1) := by decide +kernel
theorem dX10_writeInt_1 : decode cX10_writeInt 1 = .ok (.ifCond .lt 11, 3) := by decide +kernel
theorem dX10_writeInt_4 : decode cX10_writeInt 4 = .ok (.iload_n 1, 1) := by decide +kernel
theorem dX10_writeInt_5 : decode cX10_writeInt 5 = .ok (.iconst 4, 1) := by decide +kernel
theorem dX10_writeInt_6 : decode cX10_writeInt 6 = .ok (.iadd, 1) := by decide +kernel
theorem dX10_writeInt_7 : decode cX10_writeInt 7 = .ok (.aload_n 0, 1) := by decide +kernel
theorem dX10_writeInt_8 : decode cX10_writeInt 8 = .ok (.arraylength, 1) := by decide +kernel
theorem dX10_writeInt_9 : decode cX10_writeInt 9 = .ok (.if_icmp .le 4, 3) := by decide +kernel
theorem dX10_writeInt_13 : decode cX10_writeInt 13 = .ok (.iconst 0, 1) := by decide +kernel
theorem dX10_writeInt_14 : decode cX10_writeInt 14 = .ok (.istore_n 3, 1) := by decide +kernel
theorem dX10_writeInt_15 : decode cX10_writeInt 15 = .ok (.iload_n 3, 1) := by decide +kernel
theorem dX10_writeInt_16 : decode cX10_writeInt 16 = .ok (.iconst 4, 1) := by decide +kernel
theorem dX10_writeInt_17 : decode cX10_writeInt 17 = .ok (.if_icmp .ge 27, 3) := by decide +kernel
theorem dX10_writeInt_20 : decode cX10_writeInt 20 = .ok (.aload_n 0, 1) := by decide +kernel
theorem dX10_writeInt_21 : decode cX10_writeInt 21 = .ok (.iload_n 1, 1) := by decide +kernel
theorem dX10_writeInt_22 : decode cX10_writeInt 22 = .ok (.iload_n 3, 1) := by decide +kernel
theorem dX10_writeInt_23 : decode cX10_writeInt 23 = .ok (.iadd, 1) := by decide +kernel
theorem dX10_writeInt_24 : decode cX10_writeInt 24 = .ok (.iload_n 2, 1) := by decide +kernel
theorem dX10_writeInt_25 : decode cX10_writeInt 25 = .ok (.bipush 24, 2) := by decide +kernel
theorem dX10_writeInt_27 : decode cX10_writeInt 27 = .ok (.bipush 8, 2) := by decide +kernel
theorem dX10_writeInt_29 : decode cX10_writeInt 29 = .ok (.iload_n 3, 1) := by decide +kernel
theorem dX10_writeInt_30 : decode cX10_writeInt 30 = .ok (.imul, 1) := by decide +kernel
theorem dX10_writeInt_31 : decode cX10_writeInt 31 = .ok (.isub, 1) := by decide +kernel
theorem dX10_writeInt_32 : decode cX10_writeInt 32 = .ok (.iushr, 1) := by decide +kernel
theorem dX10_writeInt_33 : decode cX10_writeInt 33 = .ok (.sipush 255, 3) := by decide +kernel
theorem dX10_writeInt_36 : decode cX10_writeInt 36 = .ok (.iand, 1) := by decide +kernel
theorem dX10_writeInt_37 : decode cX10_writeInt 37 = .ok (.iastore, 1) := by decide +kernel
theorem dX10_writeInt_38 : decode cX10_writeInt 38 = .ok (.iinc 3 1, 3) := by decide +kernel
theorem dX10_writeInt_41 : decode cX10_writeInt 41 = .ok (.goto (-26), 3) := by decide +kernel
theorem dX10_writeInt_44 : decode cX10_writeInt 44 = .ok (.return_, 1) := by decide +kernel
theorem dX10_isImage_0 : decode cX10_isImage 0 = .ok (.iload_n 1, 1) := by decide +kernel
theorem dX10_isImage_1 : decode cX10_isImage 1 = .ok (.bipush 14, 2) := by decide +kernel
theorem dX10_isImage_3 : decode cX10_isImage 3 = .ok (.if_icmp .lt 9, 3) := by decide +kernel
theorem dX10_isImage_12 : decode cX10_isImage 12 = .ok (.iconst 0, 1) := by decide +kernel
theorem dX10_isImage_13 : decode cX10_isImage 13 = .ok (.ireturn, 1) := by decide +kernel
theorem dX11_init_0 : decode cX11_init 0 = .ok (.aload_n 0, 1) := by decide +kernel
theorem dX11_init_1 : decode cX11_init 1 = .ok (.invokespecial 1, 3) := by decide +kernel
theorem dX11_init_4 : decode cX11_init 4 = .ok (.aload_n 0, 1) := by decide +kernel
theorem dX11_init_5 : decode cX11_init 5 = .ok (.sipush 1400, 3) := by decide +kernel
theorem dX11_init_8 : decode cX11_init 8 = .ok (.newarray .byte, 2) := by decide +kernel
theorem dX11_init_10 : decode cX11_init 10 = .ok (.putfield 7, 3) := by decide +kernel
theorem dX11_init_13 : decode cX11_init 13 = .ok (.aload_n 0, 1) := by decide +kernel
theorem dX11_init_14 : decode cX11_init 14 = .ok (.bipush 85, 2) := by decide +kernel
theorem dX11_init_16 : decode cX11_init 16 = .ok (.newarray .long, 2) := by decide +kernel
theorem dX11_init_18 : decode cX11_init 18 = .ok (.putfield 13, 3) := by decide +kernel
theorem dX11_init_21 : decode cX11_init 21 = .ok (.aload_n 0, 1) := by decide +kernel
theorem dX11_init_22 : decode cX11_init 22 = .ok (.sipush 800, 3) := by decide +kernel
theorem dX11_init_25 : decode cX11_init 25 = .ok (.newarray .int, 2) := by decide +kernel
theorem dX11_init_27 : decode cX11_init 27 = .ok (.putfield 17, 3) := by decide +kernel
theorem dX11_init_30 : decode cX11_init 30 = .ok (.aload_n 0, 1) := by decide +kernel
theorem dX11_init_31 : decode cX11_init 31 = .ok (.sipush 800, 3) := by decide +kernel
theorem dX11_init_34 : decode cX11_init 34 = .ok (.newarray .int, 2) := by decide +kernel
theorem dX11_init_36 : decode cX11_init 36 = .ok (.putfield 21, 3) := by decide +kernel
theorem dX11_init_39 : decode cX11_init 39 = .ok (.aload_n 0, 1) := by decide +kernel
theorem dX11_init_40 : decode cX11_init 40 = .ok (.sipush 800, 3) := by decide +kernel
theorem dX11_init_43 : decode cX11_init 43 = .ok (.newarray .int, 2) := by decide +kernel
theorem dX11_init_45 : decode cX11_init 45 = .ok (.putfield 24, 3) := by decide +kernel
theorem dX11_init_48 : decode cX11_init 48 = .ok (.aload_n 0, 1) := by decide +kernel
theorem dX11_init_49 : decode cX11_init 49 = .ok (.sipush 800, 3) := by decide +kernel
theorem dX11_init_52 : decode cX11_init 52 = .ok (.newarray .int, 2) := by decide +kernel
theorem dX11_init_54 : decode cX11_init 54 = .ok (.putfield 27, 3) := by decide +kernel
theorem dX11_init_57 : decode cX11_init 57 = .ok (.aload_n 0, 1) := by decide +kernel
theorem dX11_init_58 : decode cX11_init 58 = .ok (.sipush 10240, 3) := by decide +kernel
theorem dX11_init_61 : decode cX11_init 61 = .ok (.newarray .int, 2) := by decide +kernel
theorem dX11_init_63 : decode cX11_init 63 = .ok (.putfield 30, 3) := by decide +kernel
theorem dX11_init_66 : decode cX11_init 66 = .ok (.aload_n 0, 1) := by decide +kernel
theorem dX11_init_67 : decode cX11_init 67 = .ok (.sipush 10240, 3) := by decide +kernel
theorem dX11_init_70 : decode cX11_init 70 = .ok (.newarray .int, 2) := by decide +kernel
theorem dX11_init_72 : decode cX11_init 72 = .ok (.putfield 33, 3) := by decide +kernel
theorem dX11_init_75 : decode cX11_init 75 = .ok (.aload_n 0, 1) := by decide +kernel
theorem dX11_init_76 : decode cX11_init 76 = .ok (.sipush 10240, 3) := by decide +kernel
theorem dX11_init_79 : decode cX11_init 79 = .ok (.newarray .long, 2) := by decide +kernel
theorem dX11_init_81 : decode cX11_init 81 = .ok (.putfield 36, 3) := by decide +kernel
theorem dX11_init_84 : decode cX11_init 84 = .ok (.aload_n 0, 1) := by decide +kernel
theorem dX11_init_85 : decode cX11_init 85 = .ok (.sipush 10240, 3) := by decide +kernel
theorem dX11_init_88 : decode cX11_init 88 = .ok (.newarray .long, 2) := by decide +kernel
theorem dX11_init_90 : decode cX11_init 90 = .ok (.putfield 39, 3) := by decide +kernel
theorem dX11_init_93 : decode cX11_init 93 = .ok (.aload_n 0, 1) := by decide +kernel
theorem dX11_init_94 : decode cX11_init 94 = .ok (.sipush 2048, 3) := by decide +kernel
theorem dX11_init_97 : decode cX11_init 97 = .ok (.newarray .int, 2) := by decide +kernel
theorem dX11_init_99 : decode cX11_init 99 = .ok (.putfield 42, 3) := by decide +kernel
theorem dX11_init_102 : decode cX11_init 102 = .ok (.aload_n 0, 1) := by decide +kernel
theorem dX11_init_103 : decode cX11_init 103 = .ok (.sipush 2000, 3) := by decide +kernel
theorem dX11_init_106 : decode cX11_init 106 = .ok (.newarray .int, 2) := by decide +kernel
theorem dX11_init_108 : decode cX11_init 108 = .ok (.putfield 45, 3) := by decide +kernel
theorem dX11_init_111 : decode cX11_init 111 = .ok (.aload_n 0, 1) := by decide +kernel
theorem dX11_init_112 : decode cX11_init 112 = .ok (.bipush 6, 2) := by decide +kernel
theorem dX11_init_114 : decode cX11_init 114 = .ok (.newarray .int, 2) := by decide +kernel
theorem dX11_init_116 : decode cX11_init 116 = .ok (.putfield 48, 3) := by decide +kernel
theorem dX11_init_119 : decode cX11_init 119 = .ok (.aload_n 0, 1) := by decide +kernel
theorem dX11_init_120 : decode cX11_init 120 = .ok (.sipush 700, 3) := by decide +kernel
theorem dX11_init_123 : decode cX11_init 123 = .ok (.newarray .int, 2) := by decide +kernel
theorem dX11_init_125 : decode cX11_init 125 = .ok (.putfield 51, 3) := by decide +kernel
end
section
theorem dX11_init_128 : decode cX11_init 128 = .ok (.aload_n 0, 1) := by decide +kernel
theorem dX11_init_129 : decode cX11_init 129 = .ok (.iconst (-1), 1) := by decide +kernel
theorem dX11_init_130 : decode cX11_init 130 = .ok (.putfield 54, 3) := by decide +kernel
theorem dX11_init_133 : decode cX11_init 133 = .ok (.aload_n 0, 1) := by decide +kernel
theorem dX11_init_134 : decode cX11_init 134 = .ok (.iconst (-1), 1) := by decide +kernel
theorem dX11_init_135 : decode cX11_init 135 = .ok (.putfield 58, 3) := by decide +kernel
theorem dX11_init_138 : decode cX11_init 138 = .ok (.aload_n 0, 1) := by decide +kernel
theorem dX11_init_139 : decode cX11_init 139 = .ok (.sipush 700, 3) := by decide +kernel
theorem dX11_init_142 : decode cX11_init 142 = .ok (.newarray .int, 2) := by decide +kernel
theorem dX11_init_144 : decode cX11_init 144 = .ok (.putfield 61, 3) := by decide +kernel
theorem dX11_init_147 : decode cX11_init 147 = .ok (.aload_n 0, 1) := by decide +kernel
theorem dX11_init_148 : decode cX11_init 148 = .ok (.bipush 6, 2) := by decide +kernel
theorem dX11_init_150 : decode cX11_init 150 = .ok (.newarray .int, 2) := by decide +kernel
theorem dX11_init_152 : decode cX11_init 152 = .ok (.putfield 64, 3) := by decide +kernel
theorem dX11_init_155 : decode cX11_init 155 = .ok (.aload_n 0, 1) := by decide +kernel
theorem dX11_init_156 : decode cX11_init 156 = .ok (.bipush 6, 2) := by decide +kernel
theorem dX11_init_158 : decode cX11_init 158 = .ok (.newarray .int, 2) := by decide +kernel
theorem dX11_init_160 : decode cX11_init 160 = .ok (.putfield 67, 3) := by decide +kernel
theorem dX11_init_163 : decode cX11_init 163 = .ok (.aload_n 0, 1) := by decide +kernel
theorem dX11_init_164 : decode cX11_init 164 = .ok (.sipush 1400, 3) := by decide +kernel
theorem dX11_init_167 : decode cX11_init 167 = .ok (.newarray .int, 2) := by decide +kernel
theorem dX11_init_169 : decode cX11_init 169 = .ok (.putfield 70, 3) := by decide +kernel
theorem dX11_init_172 : decode cX11_init 172 = .ok (.return_, 1) := by decide +kernel
theorem dX11_isIn_0 : decode cX11_isIn 0 = .ok (.lload_n 0, 1) := by decide +kernel
theorem dX11_isIn_1 : decode cX11_isIn 1 = .ok (.lload_n 2, 1) := by decide +kernel
theorem dX11_isIn_2 : decode cX11_isIn 2 = .ok (.lcmp, 1) := by decide +kernel
theorem dX11_isIn_3 : decode cX11_isIn 3 = .ok (.ifCond .lt 14, 3) := by decide +kernel
theorem dX11_isIn_6 : decode cX11_isIn 6 = .ok (.lload_n 0, 1) := by decide +kernel
theorem dX11_isIn_7 : decode cX11_isIn 7 = .ok (.lload 4, 2) := by decide +kernel
theorem dX11_isIn_9 : decode cX11_isIn 9 = .ok (.lcmp, 1) := by decide +kernel
theorem dX11_isIn_10 : decode cX11_isIn 10 = .ok (.ifCond .gt 7, 3) := by decide +kernel
theorem dX11_isIn_13 : decode cX11_isIn 13 = .ok (.iconst 1, 1) := by decide +kernel
theorem dX11_isIn_14 : decode cX11_isIn 14 = .ok (.goto 4, 3) := by decide +kernel
theorem dX11_isIn_17 : decode cX11_isIn 17 = .ok (.iconst 0, 1) := by decide +kernel
theorem dX11_isIn_18 : decode cX11_isIn 18 = .ok (.ireturn, 1) := by decide +kernel
theorem dX11_flag_0 : decode cX11_flag 0 = .ok (.iload_n 0, 1) := by decide +kernel
theorem dX11_flag_1 : decode cX11_flag 1 = .ok (.ifCond .eq 7, 3) := by decide +kernel
theorem dX11_flag_8 : decode cX11_flag 8 = .ok (.iconst 0, 1) := by decide +kernel
theorem dX11_flag_9 : decode cX11_flag 9 = .ok (.ireturn, 1) := by decide +kernel
theorem dX11_puts_0 : decode cX11_puts 0 = .ok (.bipush 24, 2) := by decide +kernel
theorem dX11_puts_2 : decode cX11_puts 2 = .ok (.istore_n 2, 1) := by decide +kernel
theorem dX11_puts_3 : decode cX11_puts 3 = .ok (.iload_n 2, 1) := by decide +kernel
theorem dX11_puts_4 : decode cX11_puts 4 = .ok (.ifCond .lt 32, 3) := by decide +kernel
theorem dX11_puts_7 : decode cX11_puts 7 = .ok (.aload_n 0, 1) := by decide +kernel
theorem dX11_puts_8 : decode cX11_puts 8 = .ok (.getfield 7, 3) := by decide +kernel
theorem dX11_puts_11 : decode cX11_puts 11 = .ok (.aload_n 0, 1) := by decide +kernel
theorem dX11_puts_12 : decode cX11_puts 12 = .ok (.getfield 76, 3) := by decide +kernel
theorem dX11_puts_15 : decode cX11_puts 15 = .ok (.iload_n 1, 1) := by decide +kernel
theorem dX11_puts_16 : decode cX11_puts 16 = .ok (.iload_n 2, 1) := by decide +kernel
theorem dX11_puts_17 : decode cX11_puts 17 = .ok (.ishr, 1) := by decide +kernel
theorem dX11_puts_18 : decode cX11_puts 18 = .ok (.i2b, 1) := by decide +kernel
theorem dX11_puts_19 : decode cX11_puts 19 = .ok (.bastore, 1) := by decide +kernel
theorem dX11_puts_20 : decode cX11_puts 20 = .ok (.aload_n 0, 1) := by decide +kernel
theorem dX11_puts_21 : decode cX11_puts 21 = .ok (.dup, 1) := by decide +kernel
theorem dX11_puts_22 : decode cX11_puts 22 = .ok (.getfield 76, 3) := by decide +kernel
theorem dX11_puts_25 : decode cX11_puts 25 = .ok (.iconst 1, 1) := by decide +kernel
theorem dX11_puts_26 : decode cX11_puts 26 = .ok (.iadd, 1) := by decide +kernel
theorem dX11_puts_27 : decode cX11_puts 27 = .ok (.putfield 76, 3) := by decide +kernel
theorem dX11_puts_30 : decode cX11_puts 30 = .ok (.iinc 2 (-8), 3) := by decide +kernel
theorem dX11_puts_33 : decode cX11_puts 33 = .ok (.goto (-30), 3) := by decide +kernel
theorem dX11_puts_36 : decode cX11_puts 36 = .ok (.return_, 1) := by decide +kernel
theorem dX11_feed_0 : decode cX11_feed 0 = .ok (.aload_n 0, 1) := by decide +kernel
theorem dX11_feed_1 : decode cX11_feed 1 = .ok (.iconst 0, 1) := by decide +kernel
theorem dX11_feed_2 : decode cX11_feed 2 = .ok (.putfield 73, 3) := by decide +kernel
theorem dX11_feed_5 : decode cX11_feed 5 = .ok (.aload_n 0, 1) := by decide +kernel
theorem dX11_feed_6 : decode cX11_feed 6 = .ok (.getfield 76, 3) := by decide +kernel
theorem dX11_feed_9 : decode cX11_feed 9 = .ok (.bipush 20, 2) := by decide +kernel
theorem dX11_feed_11 : decode cX11_feed 11 = .ok (.iadd, 1) := by decide +kernel
theorem dX11_feed_12 : decode cX11_feed 12 = .ok (.sipush 1400, 3) := by decide +kernel
theorem dX11_feed_15 : decode cX11_feed 15 = .ok (.if_icmp .le 5, 3) := by decide +kernel
theorem dX11_feed_20 : decode cX11_feed 20 = .ok (.aload_n 0, 1) := by decide +kernel
theorem dX11_feed_21 : decode cX11_feed 21 = .ok (.iload_n 1, 1) := by decide +kernel
theorem dX11_feed_22 : decode cX11_feed 22 = .ok (.invokevirtual 79, 3) := by decide +kernel
theorem dX11_feed_25 : decode cX11_feed 25 = .ok (.aload_n 0, 1) := by decide +kernel
theorem dX11_feed_26 : decode cX11_feed 26 = .ok (.iload_n 2, 1) := by decide +kernel
theorem dX11_feed_27 : decode cX11_feed 27 = .ok (.invokevirtual 79, 3) := by decide +kernel
theorem dX11_feed_30 : decode cX11_feed 30 = .ok (.aload_n 0, 1) := by decide +kernel
theorem dX11_feed_31 : decode cX11_feed 31 = .ok (.iload_n 3, 1) := by decide +kernel
theorem dX11_feed_32 : decode cX11_feed 32 = .ok (.invokevirtual 79, 3) := by decide +kernel
theorem dX11_feed_35 : decode cX11_feed 35 = .ok (.aload_n 0, 1) := by decide +kernel
theorem dX11_feed_36 : decode cX11_feed 36 = .ok (.iload 4, 2) := by decide +kernel
theorem dX11_feed_38 : decode cX11_feed 38 = .ok (.invokevirtual 79, 3) := by decide +kernel
theorem dX11_feed_41 : decode cX11_feed 41 = .ok (.aload_n 0, 1) := by decide +kernel
theorem dX11_feed_42 : decode cX11_feed 42 = .ok (.iload 5, 2) := by decide +kernel
theorem dX11_feed_44 : decode cX11_feed 44 = .ok (.invokevirtual 79, 3) := by decide +kernel
theorem dX11_feed_47 : decode cX11_feed 47 = .ok (.aload_n 0, 1) := by decide +kernel
theorem dX11_feed_48 : decode cX11_feed 48 = .ok (.getfield 76, 3) := by decide +kernel
theorem dX11_feed_51 : decode cX11_feed 51 = .ok (.ireturn, 1) := by decide +kernel
theorem dX11_end_0 : decode cX11_end 0 = .ok (.aload_n 0, 1) := by decide +kernel
theorem dX11_end_1 : decode cX11_end 1 = .ok (.iconst 0, 1) := by decide +kernel
theorem dX11_end_2 : decode cX11_end 2 = .ok (.putfield 73, 3) := by decide +kernel
theorem dX11_end_5 : decode cX11_end 5 = .ok (.iload_n 1, 1) := by decide +kernel
theorem dX11_end_6 : decode cX11_end 6 = .ok (.i2l, 1) := by decide +kernel
theorem dX11_end_7 : decode cX11_end 7 = .ok (.lconst 0, 1) := by decide +kernel
theorem dX11_end_8 : decode cX11_end 8 = .ok (.aload_n 0, 1) := by decide +kernel
theorem dX11_end_9 : decode cX11_end 9 = .ok (.getfield 76, 3) := by decide +kernel
theorem dX11_end_12 : decode cX11_end 12 = .ok (.i2l, 1) := by decide +kernel
theorem dX11_end_13 : decode cX11_end 13 = .ok (.invokestatic 83, 3) := by decide +kernel
theorem dX11_end_16 : decode cX11_end 16 = .ok (.ifCond .ne 5, 3) := by decide +kernel
theorem dX11_end_19 : decode cX11_end 19 = .ok (.iconst 0, 1) := by decide +kernel
theorem dX11_end_20 : decode cX11_end 20 = .ok (.ireturn, 1) := by decide +kernel
theorem dX11_end_21 : decode cX11_end 21 = .ok (.aload_n 0, 1) := by decide +kernel
theorem dX11_end_22 : decode cX11_end 22 = .ok (.iload_n 1, 1) := by decide +kernel
theorem dX11_end_23 : decode cX11_end 23 = .ok (.putfield 76, 3) := by decide +kernel
theorem dX11_end_26 : decode cX11_end 26 = .ok (.iconst 1, 1) := by decide +kernel
theorem dX11_end_27 : decode cX11_end 27 = .ok (.ireturn, 1) := by decide +kernel
theorem dX11_of_0 : decode cX11_of 0 = .ok (.aload_n 0, 1) := by decide +kernel
theorem dX11_of_1 : decode cX11_of 1 = .ok (.getfield 13, 3) := by decide +kernel
theorem dX11_of_4 : decode cX11_of 4 = .ok (.bipush 17, 2) := by decide +kernel
theorem dX11_of_6 : decode cX11_of 6 = .ok (.iload_n 1, 1) := by decide +kernel
theorem dX11_of_7 : decode cX11_of 7 = .ok (.imul, 1) := by decide +kernel
theorem dX11_of_8 : decode cX11_of 8 = .ok (.iload_n 2, 1) := by decide +kernel
theorem dX11_of_9 : decode cX11_of 9 = .ok (.iadd, 1) := by decide +kernel
theorem dX11_of_10 : decode cX11_of 10 = .ok (.laload, 1) := by decide +kernel
theorem dX11_of_11 : decode cX11_of 11 = .ok (.lreturn, 1) := by decide +kernel
theorem dX11_isThere_0 : decode cX11_isThere 0 = .ok (.iload_n 1, 1) := by decide +kernel
theorem dX11_isThere_1 : decode cX11_isThere 1 = .ok (.i2l, 1) := by decide +kernel
theorem dX11_isThere_2 : decode cX11_isThere 2 = .ok (.lconst 0, 1) := by decide +kernel
theorem dX11_isThere_3 : decode cX11_isThere 3 = .ok (.ldc2_w 87, 3) := by decide +kernel
theorem dX11_isThere_6 : decode cX11_isThere 6 = .ok (.invokestatic 83, 3) := by decide +kernel
theorem dX11_isThere_9 : decode cX11_isThere 9 = .ok (.ifCond .eq 18, 3) := by decide +kernel
theorem dX11_isThere_12 : decode cX11_isThere 12 = .ok (.aload_n 0, 1) := by decide +kernel
theorem dX11_isThere_13 : decode cX11_isThere 13 = .ok (.iload_n 1, 1) := by decide +kernel
theorem dX11_isThere_14 : decode cX11_isThere 14 = .ok (.iconst 0, 1) := by decide +kernel
theorem dX11_isThere_15 : decode cX11_isThere 15 = .ok (.invokevirtual 89, 3) := by decide +kernel
theorem dX11_isThere_18 : decode cX11_isThere 18 = .ok (.lconst 1, 1) := by decide +kernel
theorem dX11_isThere_19 : decode cX11_isThere 19 = .ok (.lcmp, 1) := by decide +kernel
theorem dX11_isThere_20 : decode cX11_isThere 20 = .ok (.ifCond .ne 7, 3) := by decide +kernel
theorem dX11_isThere_27 : decode cX11_isThere 27 = .ok (.iconst 0, 1) := by decide +kernel
theorem dX11_isThere_28 : decode cX11_isThere 28 = .ok (.ireturn, 1) := by decide +kernel
theorem dX11_put_0 : decode cX11_put 0 = .ok (.aload_n 0, 1) := by decide +kernel
theorem dX11_put_1 : decode cX11_put 1 = .ok (.iconst 0, 1) := by decide +kernel
theorem dX11_put_2 : decode cX11_put 2 = .ok (.putfield 73, 3) := by decide +kernel
theorem dX11_put_5 : decode cX11_put 5 = .ok (.aload_n 0, 1) := by decide +kernel
theorem dX11_put_6 : decode cX11_put 6 = .ok (.iload_n 1, 1) := by decide +kernel
theorem dX11_put_7 : decode cX11_put 7 = .ok (.invokevirtual 222, 3) := by decide +kernel
theorem dX11_put_10 : decode cX11_put 10 = .ok (.ifCond .eq 10, 3) := by decide +kernel
theorem dX11_put_20 : decode cX11_put 20 = .ok (.bipush (-2), 2) := by decide +kernel
theorem dX11_put_22 : decode cX11_put 22 = .ok (.ireturn, 1) := by decide +kernel
theorem dX11_get_0 : decode cX11_get 0 = .ok (.aload_n 0, 1) := by decide +kernel
theorem dX11_get_1 : decode cX11_get 1 = .ok (.iconst 0, 1) := by decide +kernel
theorem dX11_get_2 : decode cX11_get 2 = .ok (.putfield 73, 3) := by decide +kernel
theorem dX11_get_5 : decode cX11_get 5 = .ok (.aload_n 0, 1) := by decide +kernel
theorem dX11_get_6 : decode cX11_get 6 = .ok (.iload_n 1, 1) := by decide +kernel
theorem dX11_get_7 : decode cX11_get 7 = .ok (.invokevirtual 222, 3) := by decide +kernel
theorem dX11_get_10 : decode cX11_get 10 = .ok (.ifCond .eq 10, 3) := by decide +kernel
theorem dX11_get_20 : decode cX11_get 20 = .ok (.ldc2_w 235, 3) := by decide +kernel
theorem dX11_get_23 : decode cX11_get 23 = .ok (.lreturn, 1) := by decide +kernel
theorem dX11_drop_0 : decode cX11_drop 0 = .ok (.aload_n 0, 1) := by decide +kernel
theorem dX11_drop_1 : decode cX11_drop 1 = .ok (.iconst 0, 1) := by decide +kernel
theorem dX11_drop_2 : decode cX11_drop 2 = .ok (.putfield 73, 3) := by decide +kernel
theorem dX11_drop_5 : decode cX11_drop 5 = .ok (.aload_n 0, 1) := by decide +kernel
theorem dX11_drop_6 : decode cX11_drop 6 = .ok (.iload_n 1, 1) := by decide +kernel
theorem dX11_drop_7 : decode cX11_drop 7 = .ok (.invokevirtual 222, 3) := by decide +kernel
theorem dX11_drop_10 : decode cX11_drop 10 = .ok (.ifCond .eq 19, 3) := by decide +kernel
theorem dX11_drop_29 : decode cX11_drop 29 = .ok (.bipush (-2), 2) := by decide +kernel
theorem dX11_drop_31 : decode cX11_drop 31 = .ok (.ireturn, 1) := by decide +kernel
theorem dX11_build_0 : decode cX11_build 0 = .ok (.aload_n 0, 1) := by decide +kernel
theorem dX11_build_1 : decode cX11_build 1 = .ok (.iconst 0, 1) := by decide +kernel
theorem dX11_build_2 : decode cX11_build 2 = .ok (.putfield 73, 3) := by decide +kernel
theorem dX11_build_5 : decode cX11_build 5 = .ok (.aload_n 0, 1) := by decide +kernel
theorem dX11_build_6 : decode cX11_build 6 = .ok (.iload_n 1, 1) := by decide +kernel
theorem dX11_build_7 : decode cX11_build 7 = .ok (.invokevirtual 222, 3) := by decide +kernel
theorem dX11_build_10 : decode cX11_build 10 = .ok (.ifCond .ne 6, 3) := by decide +kernel
theorem dX11_build_13 : decode cX11_build 13 = .ok (.bipush (-2), 2) := by decide +kernel
theorem dX11_build_15 : decode cX11_build 15 = .ok (.ireturn, 1) := by decide +kernel
theorem dX11_has_0 : decode cX11_has 0 = .ok (.aload_n 0, 1) := by decide +kernel
theorem dX11_has_1 : decode cX11_has 1 = .ok (.iconst 0, 1) := by decide +kernel
theorem dX11_has_2 : decode cX11_has 2 = .ok (.putfield 73, 3) := by decide +kernel
theorem dX11_has_5 : decode cX11_has 5 = .ok (.aload_n 0, 1) := by decide +kernel
theorem dX11_has_6 : decode cX11_has 6 = .ok (.iload_n 1, 1) := by decide +kernel
theorem dX11_has_7 : decode cX11_has 7 = .ok (.invokevirtual 222, 3) := by decide +kernel
theorem dX11_has_10 : decode cX11_has 10 = .ok (.ifCond .ne 7, 3) := by decide +kernel
theorem dX11_has_13 : decode cX11_has 13 = .ok (.ldc2_w 235, 3) := by decide +kernel
theorem dX11_has_16 : decode cX11_has 16 = .ok (.lreturn, 1) := by decide +kernel
theorem dX11_isBucket_0 : decode cX11_isBucket 0 = .ok (.aload_n 0, 1) := by decide +kernel
theorem dX11_isBucket_1 : decode cX11_isBucket 1 = .ok (.iload_n 1, 1) := by decide +kernel
theorem dX11_isBucket_2 : decode cX11_isBucket 2 = .ok (.invokevirtual 222, 3) := by decide +kernel
theorem dX11_isBucket_5 : decode cX11_isBucket 5 = .ok (.ifCond .eq 24, 3) := by decide +kernel
theorem dX11_isBucket_29 : decode cX11_isBucket 29 = .ok (.iconst 0, 1) := by decide +kernel
theorem dX11_isBucket_30 : decode cX11_isBucket 30 = .ok (.ireturn, 1) := by decide +kernel
theorem dX11_bucket_0 : decode cX11_bucket 0 = .ok (.aload_n 0, 1) := by decide +kernel
theorem dX11_bucket_1 : decode cX11_bucket 1 = .ok (.iconst 0, 1) := by decide +kernel
theorem dX11_bucket_2 : decode cX11_bucket 2 = .ok (.putfield 73, 3) := by decide +kernel
theorem dX11_bucket_5 : decode cX11_bucket 5 = .ok (.aload_n 0, 1) := by decide +kernel
theorem dX11_bucket_6 : decode cX11_bucket 6 = .ok (.iload_n 1, 1) := by decide +kernel
theorem dX11_bucket_7 : decode cX11_bucket 7 = .ok (.iload_n 2, 1) := by decide +kernel
theorem dX11_bucket_8 : decode cX11_bucket 8 = .ok (.invokevirtual 246, 3) := by decide +kernel
theorem dX11_bucket_11 : decode cX11_bucket 11 = .ok (.ifCond .ne 7, 3) := by decide +kernel
theorem dX11_bucket_14 : decode cX11_bucket 14 = .ok (.ldc2_w 235, 3) := by decide +kernel
theorem dX11_bucket_17 : decode cX11_bucket 17 = .ok (.lreturn, 1) := by decide +kernel
theorem dX11_room_0 : decode cX11_room 0 = .ok (.aload_n 0, 1) := by decide +kernel
theorem dX11_room_1 : decode cX11_room 1 = .ok (.iconst 0, 1) := by decide +kernel
theorem dX11_room_2 : decode cX11_room 2 = .ok (.putfield 73, 3) := by decide +kernel
theorem dX11_room_5 : decode cX11_room 5 = .ok (.aload_n 0, 1) := by decide +kernel
theorem dX11_room_6 : decode cX11_room 6 = .ok (.iload_n 1, 1) := by decide +kernel
theorem dX11_room_7 : decode cX11_room 7 = .ok (.iload_n 2, 1) := by decide +kernel
theorem dX11_room_8 : decode cX11_room 8 = .ok (.invokevirtual 246, 3) := by decide +kernel
theorem dX11_room_11 : decode cX11_room 11 = .ok (.ifCond .eq 21, 3) := by decide +kernel
theorem dX11_room_32 : decode cX11_room 32 = .ok (.bipush (-2), 2) := by decide +kernel
theorem dX11_room_34 : decode cX11_room 34 = .ok (.ireturn, 1) := by decide +kernel
theorem dX11_place_0 : decode cX11_place 0 = .ok (.aload_n 0, 1) := by decide +kernel
theorem dX11_place_1 : decode cX11_place 1 = .ok (.iconst 0, 1) := by decide +kernel
theorem dX11_place_2 : decode cX11_place 2 = .ok (.putfield 73, 3) := by decide +kernel
theorem dX11_place_5 : decode cX11_place 5 = .ok (.aload_n 0, 1) := by decide +kernel
theorem dX11_place_6 : decode cX11_place 6 = .ok (.iload_n 1, 1) := by decide +kernel
theorem dX11_place_7 : decode cX11_place 7 = .ok (.invokevirtual 222, 3) := by decide +kernel
theorem dX11_place_10 : decode cX11_place 10 = .ok (.ifCond .eq 20, 3) := by decide +kernel
theorem dX11_place_30 : decode cX11_place 30 = .ok (.bipush (-2), 2) := by decide +kernel
theorem dX11_place_32 : decode cX11_place 32 = .ok (.ireturn, 1) := by decide +kernel
theorem dX11_key_0 : decode cX11_key 0 = .ok (.aload_n 0, 1) := by decide +kernel
theorem dX11_key_1 : decode cX11_key 1 = .ok (.iconst 0, 1) := by decide +kernel
theorem dX11_key_2 : decode cX11_key 2 = .ok (.putfield 73, 3) := by decide +kernel
theorem dX11_key_5 : decode cX11_key 5 = .ok (.aload_n 0, 1) := by decide +kernel
theorem dX11_key_6 : decode cX11_key 6 = .ok (.iload_n 1, 1) := by decide +kernel
theorem dX11_key_7 : decode cX11_key 7 = .ok (.invokevirtual 222, 3) := by decide +kernel
theorem dX11_key_10 : decode cX11_key 10 = .ok (.ifCond .eq 35, 3) := by decide +kernel
theorem dX11_key_45 : decode cX11_key 45 = .ok (.iconst (-1), 1) := by decide +kernel
theorem dX11_key_46 : decode cX11_key 46 = .ok (.ireturn, 1) := by decide +kernel
theorem dX11_walk_0 : decode cX11_walk 0 = .ok (.aload_n 0, 1) := by decide +kernel
theorem dX11_walk_1 : decode cX11_walk 1 = .ok (.iconst 0, 1) := by decide +kernel
theorem dX11_walk_2 : decode cX11_walk 2 = .ok (.putfield 73, 3) := by decide +kernel
theorem dX11_walk_5 : decode cX11_walk 5 = .ok (.aload_n 0, 1) := by decide +kernel
theorem dX11_walk_6 : decode cX11_walk 6 = .ok (.iload_n 1, 1) := by decide +kernel
theorem dX11_walk_7 : decode cX11_walk 7 = .ok (.invokevirtual 222, 3) := by decide +kernel
theorem dX11_walk_10 : decode cX11_walk 10 = .ok (.ifCond .ne 5, 3) := by decide +kernel
theorem dX11_walk_13 : decode cX11_walk 13 = .ok (.iconst (-1), 1) := by decide +kernel
theorem dX11_walk_14 : decode cX11_walk 14 = .ok (.ireturn, 1) := by decide +kernel
theorem dX11_below_0 : decode cX11_below 0 = .ok (.aload_n 0, 1) := by decide +kernel
theorem dX11_below_1 : decode cX11_below 1 = .ok (.iconst 0, 1) := by decide +kernel
theorem dX11_below_2 : decode cX11_below 2 = .ok (.putfield 73, 3) := by decide +kernel
theorem dX11_below_5 : decode cX11_below 5 = .ok (.aload_n 0, 1) := by decide +kernel
theorem dX11_below_6 : decode cX11_below 6 = .ok (.iload_n 1, 1) := by decide +kernel
theorem dX11_below_7 : decode cX11_below 7 = .ok (.invokevirtual 222, 3) := by decide +kernel
theorem dX11_below_10 : decode cX11_below 10 = .ok (.ifCond .eq 25, 3) := by decide +kernel
theorem dX11_below_35 : decode cX11_below 35 = .ok (.iconst (-1), 1) := by decide +kernel
theorem dX11_below_36 : decode cX11_below 36 = .ok (.ireturn, 1) := by decide +kernel
theorem dX11_many_0 : decode cX11_many 0 = .ok (.aload_n 0, 1) := by decide +kernel
theorem dX11_many_1 : decode cX11_many 1 = .ok (.iconst 0, 1) := by decide +kernel
theorem dX11_many_2 : decode cX11_many 2 = .ok (.putfield 73, 3) := by decide +kernel
theorem dX11_many_5 : decode cX11_many 5 = .ok (.aload_n 0, 1) := by decide +kernel
theorem dX11_many_6 : decode cX11_many 6 = .ok (.iload_n 1, 1) := by decide +kernel
theorem dX11_many_7 : decode cX11_many 7 = .ok (.invokevirtual 222, 3) := by decide +kernel
theorem dX11_many_10 : decode cX11_many 10 = .ok (.ifCond .eq 7, 3) := by decide +kernel
theorem dX11_many_17 : decode cX11_many 17 = .ok (.iconst (-1), 1) := by decide +kernel
theorem dX11_many_18 : decode cX11_many 18 = .ok (.ireturn, 1) := by decide +kernel
theorem dX11_crowd_0 : decode cX11_crowd 0 = .ok (.aload_n 0, 1) := by decide +kernel
theorem dX11_crowd_1 : decode cX11_crowd 1 = .ok (.iconst 0, 1) := by decide +kernel
theorem dX11_crowd_2 : decode cX11_crowd 2 = .ok (.putfield 73, 3) := by decide +kernel
theorem dX11_crowd_5 : decode cX11_crowd 5 = .ok (.aload_n 0, 1) := by decide +kernel
theorem dX11_crowd_6 : decode cX11_crowd 6 = .ok (.iload_n 1, 1) := by decide +kernel
theorem dX11_crowd_7 : decode cX11_crowd 7 = .ok (.invokevirtual 222, 3) := by decide +kernel
theorem dX11_crowd_10 : decode cX11_crowd 10 = .ok (.ifCond .eq 15, 3) := by decide +kernel
theorem dX11_crowd_25 : decode cX11_crowd 25 = .ok (.iconst (-1), 1) := by decide +kernel
theorem dX11_crowd_26 : decode cX11_crowd 26 = .ok (.ireturn, 1) := by decide +kernel
theorem dX11_empty_0 : decode cX11_empty 0 = .ok (.aload_n 0, 1) := by decide +kernel
theorem dX11_empty_1 : decode cX11_empty 1 = .ok (.iconst 0, 1) := by decide +kernel
theorem dX11_empty_2 : decode cX11_empty 2 = .ok (.putfield 73, 3) := by decide +kernel
theorem dX11_empty_5 : decode cX11_empty 5 = .ok (.aload_n 0, 1) := by decide +kernel
theorem dX11_empty_6 : decode cX11_empty 6 = .ok (.iload_n 1, 1) := by decide +kernel
theorem dX11_empty_7 : decode cX11_empty 7 = .ok (.invokevirtual 222, 3) := by decide +kernel
theorem dX11_empty_10 : decode cX11_empty 10 = .ok (.ifCond .eq 19, 3) := by decide +kernel
theorem dX11_empty_29 : decode cX11_empty 29 = .ok (.iconst (-1), 1) := by decide +kernel
theorem dX11_empty_30 : decode cX11_empty 30 = .ok (.ireturn, 1) := by decide +kernel
theorem dX11_left_0 : decode cX11_left 0 = .ok (.aload_n 0, 1) := by decide +kernel
theorem dX11_left_1 : decode cX11_left 1 = .ok (.iconst 0, 1) := by decide +kernel
theorem dX11_left_2 : decode cX11_left 2 = .ok (.putfield 73, 3) := by decide +kernel
theorem dX11_left_5 : decode cX11_left 5 = .ok (.aload_n 0, 1) := by decide +kernel
theorem dX11_left_6 : decode cX11_left 6 = .ok (.iload_n 1, 1) := by decide +kernel
theorem dX11_left_7 : decode cX11_left 7 = .ok (.invokevirtual 222, 3) := by decide +kernel
theorem dX11_left_10 : decode cX11_left 10 = .ok (.ifCond .eq 22, 3) := by decide +kernel
theorem dX11_left_32 : decode cX11_left 32 = .ok (.iconst (-1), 1) := by decide +kernel
theorem dX11_left_33 : decode cX11_left 33 = .ok (.ireturn, 1) := by decide +kernel
theorem dX11_outer_0 : decode cX11_outer 0 = .ok (.aload_n 0, 1) := by decide +kernel
theorem dX11_outer_1 : decode cX11_outer 1 = .ok (.iconst 0, 1) := by decide +kernel
theorem dX11_outer_2 : decode cX11_outer 2 = .ok (.putfield 73, 3) := by decide +kernel
theorem dX11_outer_5 : decode cX11_outer 5 = .ok (.aload_n 0, 1) := by decide +kernel
theorem dX11_outer_6 : decode cX11_outer 6 = .ok (.iload_n 1, 1) := by decide +kernel
theorem dX11_outer_7 : decode cX11_outer 7 = .ok (.invokevirtual 222, 3) := by decide +kernel
theorem dX11_outer_10 : decode cX11_outer 10 = .ok (.ifCond .eq 37, 3) := by decide +kernel
theorem dX11_outer_47 : decode cX11_outer 47 = .ok (.ldc2_w 235, 3) := by decide +kernel
theorem dX11_outer_50 : decode cX11_outer 50 = .ok (.lreturn, 1) := by decide +kernel
theorem dX11_inner_0 : decode cX11_inner 0 = .ok (.aload_n 0, 1) := by decide +kernel
theorem dX11_inner_1 : decode cX11_inner 1 = .ok (.iconst 0, 1) := by decide +kernel
theorem dX11_inner_2 : decode cX11_inner 2 = .ok (.putfield 73, 3) := by decide +kernel
theorem dX11_inner_5 : decode cX11_inner 5 = .ok (.aload_n 0, 1) := by decide +kernel
theorem dX11_inner_6 : decode cX11_inner 6 = .ok (.iload_n 1, 1) := by decide +kernel
theorem dX11_inner_7 : decode cX11_inner 7 = .ok (.iload_n 2, 1) := by decide +kernel
theorem dX11_inner_8 : decode cX11_inner 8 = .ok (.invokevirtual 246, 3) := by decide +kernel
theorem dX11_inner_11 : decode cX11_inner 11 = .ok (.ifCond .eq 35, 3) := by decide +kernel
theorem dX11_inner_46 : decode cX11_inner 46 = .ok (.iconst (-1), 1) := by decide +kernel
theorem dX11_inner_47 : decode cX11_inner 47 = .ok (.ireturn, 1) := by decide +kernel
theorem dX11_tries_0 : decode cX11_tries 0 = .ok (.aload_n 0, 1) := by decide +kernel
theorem dX11_tries_1 : decode cX11_tries 1 = .ok (.iconst 0, 1) := by decide +kernel
theorem dX11_tries_2 : decode cX11_tries 2 = .ok (.putfield 73, 3) := by decide +kernel
theorem dX11_tries_5 : decode cX11_tries 5 = .ok (.aload_n 0, 1) := by decide +kernel
theorem dX11_tries_6 : decode cX11_tries 6 = .ok (.iload_n 1, 1) := by decide +kernel
theorem dX11_tries_7 : decode cX11_tries 7 = .ok (.iload_n 2, 1) := by decide +kernel
theorem dX11_tries_8 : decode cX11_tries 8 = .ok (.invokevirtual 246, 3) := by decide +kernel
theorem dX11_tries_11 : decode cX11_tries 11 = .ok (.ifCond .eq 35, 3) := by decide +kernel
theorem dX11_tries_46 : decode cX11_tries 46 = .ok (.bipush (-2), 2) := by decide +kernel
theorem dX11_tries_48 : decode cX11_tries 48 = .ok (.ireturn, 1) := by decide +kernel
theorem dX11_best_0 : decode cX11_best 0 = .ok (.aload_n 0, 1) := by decide +kernel
theorem dX11_best_1 : decode cX11_best 1 = .ok (.iconst 0, 1) := by decide +kernel
theorem dX11_best_2 : decode cX11_best 2 = .ok (.putfield 73, 3) := by decide +kernel
theorem dX11_best_5 : decode cX11_best 5 = .ok (.aload_n 0, 1) := by decide +kernel
theorem dX11_best_6 : decode cX11_best 6 = .ok (.iload_n 1, 1) := by decide +kernel
theorem dX11_best_7 : decode cX11_best 7 = .ok (.invokevirtual 222, 3) := by decide +kernel
theorem dX11_best_10 : decode cX11_best 10 = .ok (.ifCond .eq 28, 3) := by decide +kernel
theorem dX11_best_38 : decode cX11_best 38 = .ok (.ldc2_w 235, 3) := by decide +kernel
theorem dX11_best_41 : decode cX11_best 41 = .ok (.lreturn, 1) := by decide +kernel
theorem dX11_nearest_0 : decode cX11_nearest 0 = .ok (.aload_n 0, 1) := by decide +kernel
theorem dX11_nearest_1 : decode cX11_nearest 1 = .ok (.iconst 0, 1) := by decide +kernel
theorem dX11_nearest_2 : decode cX11_nearest 2 = .ok (.putfield 73, 3) := by decide +kernel
theorem dX11_nearest_5 : decode cX11_nearest 5 = .ok (.aload_n 0, 1) := by decide +kernel
theorem dX11_nearest_6 : decode cX11_nearest 6 = .ok (.iload_n 1, 1) := by decide +kernel
theorem dX11_nearest_7 : decode cX11_nearest 7 = .ok (.invokevirtual 222, 3) := by decide +kernel
theorem dX11_nearest_10 : decode cX11_nearest 10 = .ok (.ifCond .eq 18, 3) := by decide +kernel
theorem dX11_nearest_28 : decode cX11_nearest 28 = .ok (.iconst (-1), 1) := by decide +kernel
theorem dX11_nearest_29 : decode cX11_nearest 29 = .ok (.ireturn, 1) := by decide +kernel
theorem dX11_would_0 : decode cX11_would 0 = .ok (.aload_n 0, 1) := by decide +kernel
theorem dX11_would_1 : decode cX11_would 1 = .ok (.iconst 0, 1) := by decide +kernel
theorem dX11_would_2 : decode cX11_would 2 = .ok (.putfield 73, 3) := by decide +kernel
theorem dX11_would_5 : decode cX11_would 5 = .ok (.aload_n 0, 1) := by decide +kernel
theorem dX11_would_6 : decode cX11_would 6 = .ok (.iload_n 1, 1) := by decide +kernel
theorem dX11_would_7 : decode cX11_would 7 = .ok (.invokevirtual 222, 3) := by decide +kernel
theorem dX11_would_10 : decode cX11_would 10 = .ok (.ifCond .eq 10, 3) := by decide +kernel
theorem dX11_would_20 : decode cX11_would 20 = .ok (.bipush (-2), 2) := by decide +kernel
theorem dX11_would_22 : decode cX11_would 22 = .ok (.ireturn, 1) := by decide +kernel
theorem dX11_frozen_0 : decode cX11_frozen 0 = .ok (.aload_n 0, 1) := by decide +kernel
theorem dX11_frozen_1 : decode cX11_frozen 1 = .ok (.iconst 0, 1) := by decide +kernel
theorem dX11_frozen_2 : decode cX11_frozen 2 = .ok (.putfield 73, 3) := by decide +kernel
theorem dX11_frozen_5 : decode cX11_frozen 5 = .ok (.aload_n 0, 1) := by decide +kernel
theorem dX11_frozen_6 : decode cX11_frozen 6 = .ok (.iload_n 1, 1) := by decide +kernel
theorem dX11_frozen_7 : decode cX11_frozen 7 = .ok (.invokevirtual 222, 3) := by decide +kernel
theorem dX11_frozen_10 : decode cX11_frozen 10 = .ok (.ifCond .eq 16, 3) := by decide +kernel
theorem dX11_frozen_26 : decode cX11_frozen 26 = .ok (.ldc2_w 235, 3) := by decide +kernel
theorem dX11_frozen_29 : decode cX11_frozen 29 = .ok (.lreturn, 1) := by decide +kernel
theorem dX11_frozenAt_0 : decode cX11_frozenAt 0 = .ok (.aload_n 0, 1) := by decide +kernel
theorem dX11_frozenAt_1 : decode cX11_frozenAt 1 = .ok (.iconst 0, 1) := by decide +kernel
theorem dX11_frozenAt_2 : decode cX11_frozenAt 2 = .ok (.putfield 73, 3) := by decide +kernel
theorem dX11_frozenAt_5 : decode cX11_frozenAt 5 = .ok (.aload_n 0, 1) := by decide +kernel
theorem dX11_frozenAt_6 : decode cX11_frozenAt 6 = .ok (.iload_n 1, 1) := by decide +kernel
theorem dX11_frozenAt_7 : decode cX11_frozenAt 7 = .ok (.invokevirtual 222, 3) := by decide +kernel
theorem dX11_frozenAt_10 : decode cX11_frozenAt 10 = .ok (.ifCond .ne 5, 3) := by decide +kernel
theorem dX11_frozenAt_13 : decode cX11_frozenAt 13 = .ok (.iconst (-1), 1) := by decide +kernel
theorem dX11_frozenAt_14 : decode cX11_frozenAt 14 = .ok (.ireturn, 1) := by decide +kernel
theorem dX11_shared_0 : decode cX11_shared 0 = .ok (.aload_n 0, 1) := by decide +kernel
theorem dX11_shared_1 : decode cX11_shared 1 = .ok (.iconst 0, 1) := by decide +kernel
theorem dX11_shared_2 : decode cX11_shared 2 = .ok (.putfield 73, 3) := by decide +kernel
end
section
theorem dX11_shared_5 : decode cX11_shared 5 = .ok (.aload_n 0, 1) := by decide +kernel
theorem dX11_shared_6 : decode cX11_shared 6 = .ok (.iload_n 1, 1) := by decide +kernel
theorem dX11_shared_7 : decode cX11_shared 7 = .ok (.invokevirtual 222, 3) := by decide +kernel
theorem dX11_shared_10 : decode cX11_shared 10 = .ok (.ifCond .eq 23, 3) := by decide +kernel
theorem dX11_shared_33 : decode cX11_shared 33 = .ok (.iconst (-1), 1) := by decide +kernel
theorem dX11_shared_34 : decode cX11_shared 34 = .ok (.ireturn, 1) := by decide +kernel
theorem dX11_join_0 : decode cX11_join 0 = .ok (.aload_n 0, 1) := by decide +kernel
theorem dX11_join_1 : decode cX11_join 1 = .ok (.iconst 0, 1) := by decide +kernel
theorem dX11_join_2 : decode cX11_join 2 = .ok (.putfield 73, 3) := by decide +kernel
theorem dX11_join_5 : decode cX11_join 5 = .ok (.aload_n 0, 1) := by decide +kernel
theorem dX11_join_6 : decode cX11_join 6 = .ok (.iload_n 1, 1) := by decide +kernel
theorem dX11_join_7 : decode cX11_join 7 = .ok (.invokevirtual 222, 3) := by decide +kernel
theorem dX11_join_10 : decode cX11_join 10 = .ok (.ifCond .eq 16, 3) := by decide +kernel
theorem dX11_join_26 : decode cX11_join 26 = .ok (.bipush (-2), 2) := by decide +kernel
theorem dX11_join_28 : decode cX11_join 28 = .ok (.ireturn, 1) := by decide +kernel
theorem dX11_cut_0 : decode cX11_cut 0 = .ok (.aload_n 0, 1) := by decide +kernel
theorem dX11_cut_1 : decode cX11_cut 1 = .ok (.iconst 0, 1) := by decide +kernel
theorem dX11_cut_2 : decode cX11_cut 2 = .ok (.putfield 73, 3) := by decide +kernel
theorem dX11_cut_5 : decode cX11_cut 5 = .ok (.aload_n 0, 1) := by decide +kernel
theorem dX11_cut_6 : decode cX11_cut 6 = .ok (.iload_n 1, 1) := by decide +kernel
theorem dX11_cut_7 : decode cX11_cut 7 = .ok (.invokevirtual 222, 3) := by decide +kernel
theorem dX11_cut_10 : decode cX11_cut 10 = .ok (.ifCond .eq 16, 3) := by decide +kernel
theorem dX11_cut_26 : decode cX11_cut 26 = .ok (.bipush (-2), 2) := by decide +kernel
theorem dX11_cut_28 : decode cX11_cut 28 = .ok (.ireturn, 1) := by decide +kernel
theorem dX11_values_0 : decode cX11_values 0 = .ok (.aload_n 0, 1) := by decide +kernel
theorem dX11_values_1 : decode cX11_values 1 = .ok (.iconst 0, 1) := by decide +kernel
theorem dX11_values_2 : decode cX11_values 2 = .ok (.putfield 73, 3) := by decide +kernel
theorem dX11_values_5 : decode cX11_values 5 = .ok (.aload_n 0, 1) := by decide +kernel
theorem dX11_values_6 : decode cX11_values 6 = .ok (.iload_n 1, 1) := by decide +kernel
theorem dX11_values_7 : decode cX11_values 7 = .ok (.invokevirtual 222, 3) := by decide +kernel
theorem dX11_values_10 : decode cX11_values 10 = .ok (.ifCond .eq 15, 3) := by decide +kernel
theorem dX11_values_25 : decode cX11_values 25 = .ok (.ldc2_w 235, 3) := by decide +kernel
theorem dX11_values_28 : decode cX11_values 28 = .ok (.lreturn, 1) := by decide +kernel
theorem dX11_run_0 : decode cX11_run 0 = .ok (.aload_n 0, 1) := by decide +kernel
theorem dX11_run_1 : decode cX11_run 1 = .ok (.iconst 0, 1) := by decide +kernel
theorem dX11_run_2 : decode cX11_run 2 = .ok (.putfield 73, 3) := by decide +kernel
theorem dX11_run_5 : decode cX11_run 5 = .ok (.aload_n 0, 1) := by decide +kernel
theorem dX11_run_6 : decode cX11_run 6 = .ok (.iload_n 1, 1) := by decide +kernel
theorem dX11_run_7 : decode cX11_run 7 = .ok (.invokevirtual 222, 3) := by decide +kernel
theorem dX11_run_10 : decode cX11_run 10 = .ok (.ifCond .ne 6, 3) := by decide +kernel
theorem dX11_run_13 : decode cX11_run 13 = .ok (.bipush (-2), 2) := by decide +kernel
theorem dX11_run_15 : decode cX11_run 15 = .ok (.ireturn, 1) := by decide +kernel
theorem dX11_ran_0 : decode cX11_ran 0 = .ok (.aload_n 0, 1) := by decide +kernel
theorem dX11_ran_1 : decode cX11_ran 1 = .ok (.iconst 0, 1) := by decide +kernel
theorem dX11_ran_2 : decode cX11_ran 2 = .ok (.putfield 73, 3) := by decide +kernel
theorem dX11_ran_5 : decode cX11_ran 5 = .ok (.iload_n 1, 1) := by decide +kernel
theorem dX11_ran_6 : decode cX11_ran 6 = .ok (.tableswitch 77 0 5 #[38, 44, 50, 56, 62, 68], 38) := by decide +kernel
theorem dX11_ran_44 : decode cX11_ran 44 = .ok (.aload_n 0, 1) := by decide +kernel
theorem dX11_ran_45 : decode cX11_ran 45 = .ok (.getfield 382, 3) := by decide +kernel
theorem dX11_ran_48 : decode cX11_ran 48 = .ok (.i2l, 1) := by decide +kernel
theorem dX11_ran_49 : decode cX11_ran 49 = .ok (.lreturn, 1) := by decide +kernel
theorem dX11_ran_50 : decode cX11_ran 50 = .ok (.aload_n 0, 1) := by decide +kernel
theorem dX11_ran_51 : decode cX11_ran 51 = .ok (.getfield 54, 3) := by decide +kernel
theorem dX11_ran_54 : decode cX11_ran 54 = .ok (.i2l, 1) := by decide +kernel
theorem dX11_ran_55 : decode cX11_ran 55 = .ok (.lreturn, 1) := by decide +kernel
theorem dX11_ran_56 : decode cX11_ran 56 = .ok (.aload_n 0, 1) := by decide +kernel
theorem dX11_ran_57 : decode cX11_ran 57 = .ok (.getfield 58, 3) := by decide +kernel
theorem dX11_ran_60 : decode cX11_ran 60 = .ok (.i2l, 1) := by decide +kernel
theorem dX11_ran_61 : decode cX11_ran 61 = .ok (.lreturn, 1) := by decide +kernel
theorem dX11_ran_62 : decode cX11_ran 62 = .ok (.aload_n 0, 1) := by decide +kernel
theorem dX11_ran_63 : decode cX11_ran 63 = .ok (.getfield 407, 3) := by decide +kernel
theorem dX11_ran_66 : decode cX11_ran 66 = .ok (.i2l, 1) := by decide +kernel
theorem dX11_ran_67 : decode cX11_ran 67 = .ok (.lreturn, 1) := by decide +kernel
theorem dX11_ran_68 : decode cX11_ran 68 = .ok (.aload_n 0, 1) := by decide +kernel
theorem dX11_ran_69 : decode cX11_ran 69 = .ok (.getfield 394, 3) := by decide +kernel
theorem dX11_ran_72 : decode cX11_ran 72 = .ok (.i2l, 1) := by decide +kernel
theorem dX11_ran_73 : decode cX11_ran 73 = .ok (.lreturn, 1) := by decide +kernel
theorem dX11_ran_74 : decode cX11_ran 74 = .ok (.aload_n 0, 1) := by decide +kernel
theorem dX11_ran_75 : decode cX11_ran 75 = .ok (.getfield 403, 3) := by decide +kernel
theorem dX11_ran_78 : decode cX11_ran 78 = .ok (.invokestatic 198, 3) := by decide +kernel
theorem dX11_ran_81 : decode cX11_ran 81 = .ok (.i2l, 1) := by decide +kernel
theorem dX11_ran_82 : decode cX11_ran 82 = .ok (.lreturn, 1) := by decide +kernel
theorem dX11_ran_83 : decode cX11_ran 83 = .ok (.ldc2_w 235, 3) := by decide +kernel
theorem dX11_ran_86 : decode cX11_ran 86 = .ok (.lreturn, 1) := by decide +kernel
theorem dX11_image_0 : decode cX11_image 0 = .ok (.aload_n 0, 1) := by decide +kernel
theorem dX11_image_1 : decode cX11_image 1 = .ok (.iconst 0, 1) := by decide +kernel
theorem dX11_image_2 : decode cX11_image 2 = .ok (.putfield 73, 3) := by decide +kernel
theorem dX11_image_5 : decode cX11_image 5 = .ok (.aload_n 0, 1) := by decide +kernel
theorem dX11_image_6 : decode cX11_image 6 = .ok (.iload_n 1, 1) := by decide +kernel
theorem dX11_image_7 : decode cX11_image 7 = .ok (.invokevirtual 222, 3) := by decide +kernel
theorem dX11_image_10 : decode cX11_image 10 = .ok (.ifCond .ne 5, 3) := by decide +kernel
theorem dX11_image_13 : decode cX11_image 13 = .ok (.iconst (-1), 1) := by decide +kernel
theorem dX11_image_14 : decode cX11_image 14 = .ok (.ireturn, 1) := by decide +kernel
theorem dX11_octet_0 : decode cX11_octet 0 = .ok (.aload_n 0, 1) := by decide +kernel
theorem dX11_octet_1 : decode cX11_octet 1 = .ok (.iconst 0, 1) := by decide +kernel
theorem dX11_octet_2 : decode cX11_octet 2 = .ok (.putfield 73, 3) := by decide +kernel
theorem dX11_octet_5 : decode cX11_octet 5 = .ok (.iload_n 1, 1) := by decide +kernel
theorem dX11_octet_6 : decode cX11_octet 6 = .ok (.i2l, 1) := by decide +kernel
theorem dX11_octet_7 : decode cX11_octet 7 = .ok (.lconst 0, 1) := by decide +kernel
theorem dX11_octet_8 : decode cX11_octet 8 = .ok (.aload_n 0, 1) := by decide +kernel
theorem dX11_octet_9 : decode cX11_octet 9 = .ok (.getfield 437, 3) := by decide +kernel
theorem dX11_octet_12 : decode cX11_octet 12 = .ok (.iconst 1, 1) := by decide +kernel
theorem dX11_octet_13 : decode cX11_octet 13 = .ok (.isub, 1) := by decide +kernel
theorem dX11_octet_14 : decode cX11_octet 14 = .ok (.i2l, 1) := by decide +kernel
theorem dX11_octet_15 : decode cX11_octet 15 = .ok (.invokestatic 83, 3) := by decide +kernel
theorem dX11_octet_18 : decode cX11_octet 18 = .ok (.ifCond .eq 12, 3) := by decide +kernel
theorem dX11_octet_30 : decode cX11_octet 30 = .ok (.iconst (-1), 1) := by decide +kernel
theorem dX11_octet_31 : decode cX11_octet 31 = .ok (.ireturn, 1) := by decide +kernel
theorem dX11_isImage_0 : decode cX11_isImage 0 = .ok (.iload_n 1, 1) := by decide +kernel
theorem dX11_isImage_1 : decode cX11_isImage 1 = .ok (.bipush 14, 2) := by decide +kernel
theorem dX11_isImage_3 : decode cX11_isImage 3 = .ok (.if_icmp .lt 41, 3) := by decide +kernel
theorem dX11_isImage_44 : decode cX11_isImage 44 = .ok (.iconst 0, 1) := by decide +kernel
theorem dX11_isImage_45 : decode cX11_isImage 45 = .ok (.ireturn, 1) := by decide +kernel
theorem dX11_back_0 : decode cX11_back 0 = .ok (.aload_n 0, 1) := by decide +kernel
theorem dX11_back_1 : decode cX11_back 1 = .ok (.iconst 0, 1) := by decide +kernel
theorem dX11_back_2 : decode cX11_back 2 = .ok (.putfield 73, 3) := by decide +kernel
theorem dX11_back_5 : decode cX11_back 5 = .ok (.iload_n 1, 1) := by decide +kernel
theorem dX11_back_6 : decode cX11_back 6 = .ok (.i2l, 1) := by decide +kernel
theorem dX11_back_7 : decode cX11_back 7 = .ok (.lconst 0, 1) := by decide +kernel
theorem dX11_back_8 : decode cX11_back 8 = .ok (.ldc2_w 87, 3) := by decide +kernel
theorem dX11_back_11 : decode cX11_back 11 = .ok (.invokestatic 83, 3) := by decide +kernel
theorem dX11_back_14 : decode cX11_back 14 = .ok (.ifCond .ne 6, 3) := by decide +kernel
theorem dX11_back_17 : decode cX11_back 17 = .ok (.bipush (-2), 2) := by decide +kernel
theorem dX11_back_19 : decode cX11_back 19 = .ok (.ireturn, 1) := by decide +kernel
theorem dX11_back_20 : decode cX11_back 20 = .ok (.aload_n 0, 1) := by decide +kernel
theorem dX11_back_21 : decode cX11_back 21 = .ok (.getfield 76, 3) := by decide +kernel
theorem dX11_back_24 : decode cX11_back 24 = .ok (.istore_n 2, 1) := by decide +kernel
theorem dX11_back_25 : decode cX11_back 25 = .ok (.aload_n 0, 1) := by decide +kernel
theorem dX11_back_26 : decode cX11_back 26 = .ok (.iconst 0, 1) := by decide +kernel
theorem dX11_back_27 : decode cX11_back 27 = .ok (.putfield 76, 3) := by decide +kernel
theorem dX11_back_30 : decode cX11_back 30 = .ok (.aload_n 0, 1) := by decide +kernel
theorem dX11_back_31 : decode cX11_back 31 = .ok (.iload_n 2, 1) := by decide +kernel
theorem dX11_back_32 : decode cX11_back 32 = .ok (.invokevirtual 453, 3) := by decide +kernel
theorem dX11_back_35 : decode cX11_back 35 = .ok (.ifCond .ne 5, 3) := by decide +kernel
theorem dX11_back_38 : decode cX11_back 38 = .ok (.iconst (-1), 1) := by decide +kernel
theorem dX11_back_39 : decode cX11_back 39 = .ok (.ireturn, 1) := by decide +kernel
theorem dX11_copy_0 : decode cX11_copy 0 = .ok (.aload_n 0, 1) := by decide +kernel
theorem dX11_copy_1 : decode cX11_copy 1 = .ok (.iconst 0, 1) := by decide +kernel
theorem dX11_copy_2 : decode cX11_copy 2 = .ok (.putfield 73, 3) := by decide +kernel
theorem dX11_copy_5 : decode cX11_copy 5 = .ok (.iload_n 1, 1) := by decide +kernel
theorem dX11_copy_6 : decode cX11_copy 6 = .ok (.i2l, 1) := by decide +kernel
theorem dX11_copy_7 : decode cX11_copy 7 = .ok (.lconst 0, 1) := by decide +kernel
theorem dX11_copy_8 : decode cX11_copy 8 = .ok (.ldc2_w 87, 3) := by decide +kernel
theorem dX11_copy_11 : decode cX11_copy 11 = .ok (.invokestatic 83, 3) := by decide +kernel
theorem dX11_copy_14 : decode cX11_copy 14 = .ok (.ifCond .eq 16, 3) := by decide +kernel
theorem dX11_copy_17 : decode cX11_copy 17 = .ok (.aload_n 0, 1) := by decide +kernel
theorem dX11_copy_18 : decode cX11_copy 18 = .ok (.iload_n 2, 1) := by decide +kernel
theorem dX11_copy_19 : decode cX11_copy 19 = .ok (.invokevirtual 222, 3) := by decide +kernel
theorem dX11_copy_22 : decode cX11_copy 22 = .ok (.ifCond .eq 8, 3) := by decide +kernel
theorem dX11_copy_30 : decode cX11_copy 30 = .ok (.bipush (-2), 2) := by decide +kernel
theorem dX11_copy_32 : decode cX11_copy 32 = .ok (.ireturn, 1) := by decide +kernel
theorem dX11_count_0 : decode cX11_count 0 = .ok (.aload_n 0, 1) := by decide +kernel
theorem dX11_count_1 : decode cX11_count 1 = .ok (.iconst 0, 1) := by decide +kernel
theorem dX11_count_2 : decode cX11_count 2 = .ok (.putfield 73, 3) := by decide +kernel
theorem dX11_count_5 : decode cX11_count 5 = .ok (.iconst 0, 1) := by decide +kernel
theorem dX11_count_6 : decode cX11_count 6 = .ok (.istore_n 2, 1) := by decide +kernel
theorem dX11_count_7 : decode cX11_count 7 = .ok (.iconst 0, 1) := by decide +kernel
theorem dX11_count_8 : decode cX11_count 8 = .ok (.istore_n 3, 1) := by decide +kernel
theorem dX11_count_9 : decode cX11_count 9 = .ok (.iconst 0, 1) := by decide +kernel
theorem dX11_count_10 : decode cX11_count 10 = .ok (.istore 4, 2) := by decide +kernel
theorem dX11_count_12 : decode cX11_count 12 = .ok (.iload 4, 2) := by decide +kernel
theorem dX11_count_14 : decode cX11_count 14 = .ok (.iconst 4, 1) := by decide +kernel
theorem dX11_count_15 : decode cX11_count 15 = .ok (.if_icmp .ge 43, 3) := by decide +kernel
theorem dX11_count_18 : decode cX11_count 18 = .ok (.iload_n 2, 1) := by decide +kernel
theorem dX11_count_19 : decode cX11_count 19 = .ok (.aload_n 0, 1) := by decide +kernel
theorem dX11_count_20 : decode cX11_count 20 = .ok (.iload 4, 2) := by decide +kernel
theorem dX11_count_22 : decode cX11_count 22 = .ok (.invokevirtual 222, 3) := by decide +kernel
theorem dX11_count_25 : decode cX11_count 25 = .ok (.invokestatic 198, 3) := by decide +kernel
theorem dX11_count_28 : decode cX11_count 28 = .ok (.iadd, 1) := by decide +kernel
theorem dX11_count_29 : decode cX11_count 29 = .ok (.istore_n 2, 1) := by decide +kernel
theorem dX11_count_30 : decode cX11_count 30 = .ok (.iload_n 3, 1) := by decide +kernel
theorem dX11_count_31 : decode cX11_count 31 = .ok (.aload_n 0, 1) := by decide +kernel
theorem dX11_count_32 : decode cX11_count 32 = .ok (.iload 4, 2) := by decide +kernel
theorem dX11_count_34 : decode cX11_count 34 = .ok (.invokevirtual 222, 3) := by decide +kernel
theorem dX11_count_37 : decode cX11_count 37 = .ok (.ifCond .eq 12, 3) := by decide +kernel
theorem dX11_count_49 : decode cX11_count 49 = .ok (.iconst 0, 1) := by decide +kernel
theorem dX11_count_50 : decode cX11_count 50 = .ok (.iadd, 1) := by decide +kernel
theorem dX11_count_51 : decode cX11_count 51 = .ok (.istore_n 3, 1) := by decide +kernel
theorem dX11_count_52 : decode cX11_count 52 = .ok (.iinc 4 1, 3) := by decide +kernel
theorem dX11_count_55 : decode cX11_count 55 = .ok (.goto (-43), 3) := by decide +kernel
theorem dX11_count_58 : decode cX11_count 58 = .ok (.iload_n 1, 1) := by decide +kernel
theorem dX11_count_59 : decode cX11_count 59 = .ok (.ifCond .ne 7, 3) := by decide +kernel
theorem dX11_count_62 : decode cX11_count 62 = .ok (.iload_n 2, 1) := by decide +kernel
theorem dX11_count_63 : decode cX11_count 63 = .ok (.goto 25, 3) := by decide +kernel
theorem dX11_count_66 : decode cX11_count 66 = .ok (.iload_n 1, 1) := by decide +kernel
theorem dX11_count_67 : decode cX11_count 67 = .ok (.iconst 1, 1) := by decide +kernel
theorem dX11_count_68 : decode cX11_count 68 = .ok (.if_icmp .ne 7, 3) := by decide +kernel
theorem dX11_count_71 : decode cX11_count 71 = .ok (.iload_n 3, 1) := by decide +kernel
theorem dX11_count_72 : decode cX11_count 72 = .ok (.goto 16, 3) := by decide +kernel
theorem dX11_count_75 : decode cX11_count 75 = .ok (.iload_n 1, 1) := by decide +kernel
theorem dX11_count_76 : decode cX11_count 76 = .ok (.iconst 2, 1) := by decide +kernel
theorem dX11_count_77 : decode cX11_count 77 = .ok (.if_icmp .ne 10, 3) := by decide +kernel
theorem dX11_count_80 : decode cX11_count 80 = .ok (.aload_n 0, 1) := by decide +kernel
theorem dX11_count_81 : decode cX11_count 81 = .ok (.getfield 76, 3) := by decide +kernel
theorem dX11_count_84 : decode cX11_count 84 = .ok (.goto 4, 3) := by decide +kernel
theorem dX11_count_87 : decode cX11_count 87 = .ok (.iconst (-1), 1) := by decide +kernel
theorem dX11_count_88 : decode cX11_count 88 = .ok (.ireturn, 1) := by decide +kernel
theorem dL_law_0 : decode cL_law 0 = .ok (.new 7, 3) := by decide +kernel
theorem dL_law_3 : decode cL_law 3 = .ok (.dup, 1) := by decide +kernel
theorem dL_law_4 : decode cL_law 4 = .ok (.invokespecial 9, 3) := by decide +kernel
theorem dL_law_7 : decode cL_law 7 = .ok (.astore_n 1, 1) := by decide +kernel
theorem dL_law_8 : decode cL_law 8 = .ok (.new 10, 3) := by decide +kernel
theorem dL_law_11 : decode cL_law 11 = .ok (.dup, 1) := by decide +kernel
theorem dL_law_12 : decode cL_law 12 = .ok (.invokespecial 12, 3) := by decide +kernel
theorem dL_law_15 : decode cL_law 15 = .ok (.astore_n 2, 1) := by decide +kernel
theorem dL_law_16 : decode cL_law 16 = .ok (.iconst 0, 1) := by decide +kernel
theorem dL_law_17 : decode cL_law 17 = .ok (.istore_n 3, 1) := by decide +kernel
theorem dL_law_18 : decode cL_law 18 = .ok (.iload_n 3, 1) := by decide +kernel
theorem dL_law_19 : decode cL_law 19 = .ok (.aload_n 0, 1) := by decide +kernel
theorem dL_law_20 : decode cL_law 20 = .ok (.arraylength, 1) := by decide +kernel
theorem dL_law_21 : decode cL_law 21 = .ok (.bipush 7, 2) := by decide +kernel
theorem dL_law_23 : decode cL_law 23 = .ok (.isub, 1) := by decide +kernel
theorem dL_law_24 : decode cL_law 24 = .ok (.if_icmp .gt 1717, 3) := by decide +kernel
theorem dL_law_27 : decode cL_law 27 = .ok (.aload_n 0, 1) := by decide +kernel
theorem dL_law_28 : decode cL_law 28 = .ok (.iload_n 3, 1) := by decide +kernel
theorem dL_law_29 : decode cL_law 29 = .ok (.iaload, 1) := by decide +kernel
theorem dL_law_30 : decode cL_law 30 = .ok (.bipush 63, 2) := by decide +kernel
theorem dL_law_32 : decode cL_law 32 = .ok (.iand, 1) := by decide +kernel
theorem dL_law_33 : decode cL_law 33 = .ok (.tableswitch 1702 0 36 #[163, 226, 249, 344, 387, 421, 454, 477, 511, 555, 598, 641, 674, 707, 740, 773, 806, 839, 862, 885, 949, 1033, 1086, 1181, 1214, 1288, 1361, 1404, 1437, 1496, 1530, 1553, 1577, 1600, 1623, 1646, 1679], 163) := by decide +kernel
theorem dL_law_196 : decode cL_law 196 = .ok (.aload_n 1, 1) := by decide +kernel
theorem dL_law_197 : decode cL_law 197 = .ok (.aload_n 0, 1) := by decide +kernel
theorem dL_law_198 : decode cL_law 198 = .ok (.iload_n 3, 1) := by decide +kernel
theorem dL_law_199 : decode cL_law 199 = .ok (.iconst 1, 1) := by decide +kernel
theorem dL_law_200 : decode cL_law 200 = .ok (.iadd, 1) := by decide +kernel
theorem dL_law_201 : decode cL_law 201 = .ok (.iaload, 1) := by decide +kernel
theorem dL_law_202 : decode cL_law 202 = .ok (.aload_n 0, 1) := by decide +kernel
theorem dL_law_203 : decode cL_law 203 = .ok (.iload_n 3, 1) := by decide +kernel
theorem dL_law_204 : decode cL_law 204 = .ok (.iconst 2, 1) := by decide +kernel
theorem dL_law_205 : decode cL_law 205 = .ok (.iadd, 1) := by decide +kernel
theorem dL_law_206 : decode cL_law 206 = .ok (.iaload, 1) := by decide +kernel
theorem dL_law_207 : decode cL_law 207 = .ok (.aload_n 0, 1) := by decide +kernel
theorem dL_law_208 : decode cL_law 208 = .ok (.iload_n 3, 1) := by decide +kernel
theorem dL_law_209 : decode cL_law 209 = .ok (.iconst 3, 1) := by decide +kernel
theorem dL_law_210 : decode cL_law 210 = .ok (.iadd, 1) := by decide +kernel
theorem dL_law_211 : decode cL_law 211 = .ok (.iaload, 1) := by decide +kernel
theorem dL_law_212 : decode cL_law 212 = .ok (.aload_n 0, 1) := by decide +kernel
theorem dL_law_213 : decode cL_law 213 = .ok (.iload_n 3, 1) := by decide +kernel
theorem dL_law_214 : decode cL_law 214 = .ok (.iconst 4, 1) := by decide +kernel
theorem dL_law_215 : decode cL_law 215 = .ok (.iadd, 1) := by decide +kernel
theorem dL_law_216 : decode cL_law 216 = .ok (.iaload, 1) := by decide +kernel
theorem dL_law_217 : decode cL_law 217 = .ok (.aload_n 0, 1) := by decide +kernel
theorem dL_law_218 : decode cL_law 218 = .ok (.iload_n 3, 1) := by decide +kernel
theorem dL_law_219 : decode cL_law 219 = .ok (.iconst 5, 1) := by decide +kernel
theorem dL_law_220 : decode cL_law 220 = .ok (.iadd, 1) := by decide +kernel
theorem dL_law_221 : decode cL_law 221 = .ok (.iaload, 1) := by decide +kernel
theorem dL_law_222 : decode cL_law 222 = .ok (.invokevirtual 13, 3) := by decide +kernel
theorem dL_law_225 : decode cL_law 225 = .ok (.aload_n 2, 1) := by decide +kernel
theorem dL_law_226 : decode cL_law 226 = .ok (.aload_n 0, 1) := by decide +kernel
theorem dL_law_227 : decode cL_law 227 = .ok (.iload_n 3, 1) := by decide +kernel
theorem dL_law_228 : decode cL_law 228 = .ok (.iconst 1, 1) := by decide +kernel
theorem dL_law_229 : decode cL_law 229 = .ok (.iadd, 1) := by decide +kernel
theorem dL_law_230 : decode cL_law 230 = .ok (.iaload, 1) := by decide +kernel
theorem dL_law_231 : decode cL_law 231 = .ok (.aload_n 0, 1) := by decide +kernel
theorem dL_law_232 : decode cL_law 232 = .ok (.iload_n 3, 1) := by decide +kernel
theorem dL_law_233 : decode cL_law 233 = .ok (.iconst 2, 1) := by decide +kernel
theorem dL_law_234 : decode cL_law 234 = .ok (.iadd, 1) := by decide +kernel
theorem dL_law_235 : decode cL_law 235 = .ok (.iaload, 1) := by decide +kernel
theorem dL_law_236 : decode cL_law 236 = .ok (.aload_n 0, 1) := by decide +kernel
theorem dL_law_237 : decode cL_law 237 = .ok (.iload_n 3, 1) := by decide +kernel
theorem dL_law_238 : decode cL_law 238 = .ok (.iconst 3, 1) := by decide +kernel
theorem dL_law_239 : decode cL_law 239 = .ok (.iadd, 1) := by decide +kernel
theorem dL_law_240 : decode cL_law 240 = .ok (.iaload, 1) := by decide +kernel
theorem dL_law_241 : decode cL_law 241 = .ok (.aload_n 0, 1) := by decide +kernel
theorem dL_law_242 : decode cL_law 242 = .ok (.iload_n 3, 1) := by decide +kernel
theorem dL_law_243 : decode cL_law 243 = .ok (.iconst 4, 1) := by decide +kernel
theorem dL_law_244 : decode cL_law 244 = .ok (.iadd, 1) := by decide +kernel
theorem dL_law_245 : decode cL_law 245 = .ok (.iaload, 1) := by decide +kernel
theorem dL_law_246 : decode cL_law 246 = .ok (.aload_n 0, 1) := by decide +kernel
theorem dL_law_247 : decode cL_law 247 = .ok (.iload_n 3, 1) := by decide +kernel
theorem dL_law_248 : decode cL_law 248 = .ok (.iconst 5, 1) := by decide +kernel
theorem dL_law_249 : decode cL_law 249 = .ok (.iadd, 1) := by decide +kernel
theorem dL_law_250 : decode cL_law 250 = .ok (.iaload, 1) := by decide +kernel
theorem dL_law_251 : decode cL_law 251 = .ok (.invokevirtual 17, 3) := by decide +kernel
theorem dL_law_254 : decode cL_law 254 = .ok (.if_icmp .eq 1481, 3) := by decide +kernel
theorem dL_law_259 : decode cL_law 259 = .ok (.aload_n 1, 1) := by decide +kernel
theorem dL_law_260 : decode cL_law 260 = .ok (.aload_n 0, 1) := by decide +kernel
theorem dL_law_261 : decode cL_law 261 = .ok (.iload_n 3, 1) := by decide +kernel
theorem dL_law_262 : decode cL_law 262 = .ok (.iconst 1, 1) := by decide +kernel
theorem dL_law_263 : decode cL_law 263 = .ok (.iadd, 1) := by decide +kernel
theorem dL_law_264 : decode cL_law 264 = .ok (.iaload, 1) := by decide +kernel
theorem dL_law_265 : decode cL_law 265 = .ok (.invokevirtual 18, 3) := by decide +kernel
theorem dL_law_268 : decode cL_law 268 = .ok (.aload_n 2, 1) := by decide +kernel
theorem dL_law_269 : decode cL_law 269 = .ok (.aload_n 0, 1) := by decide +kernel
theorem dL_law_270 : decode cL_law 270 = .ok (.iload_n 3, 1) := by decide +kernel
theorem dL_law_271 : decode cL_law 271 = .ok (.iconst 1, 1) := by decide +kernel
theorem dL_law_272 : decode cL_law 272 = .ok (.iadd, 1) := by decide +kernel
theorem dL_law_273 : decode cL_law 273 = .ok (.iaload, 1) := by decide +kernel
theorem dL_law_274 : decode cL_law 274 = .ok (.invokevirtual 22, 3) := by decide +kernel
theorem dL_law_277 : decode cL_law 277 = .ok (.if_icmp .eq 1458, 3) := by decide +kernel
theorem dL_law_377 : decode cL_law 377 = .ok (.aload_n 1, 1) := by decide +kernel
theorem dL_law_378 : decode cL_law 378 = .ok (.aload_n 0, 1) := by decide +kernel
theorem dL_law_379 : decode cL_law 379 = .ok (.iload_n 3, 1) := by decide +kernel
theorem dL_law_380 : decode cL_law 380 = .ok (.iconst 1, 1) := by decide +kernel
theorem dL_law_381 : decode cL_law 381 = .ok (.iadd, 1) := by decide +kernel
theorem dL_law_382 : decode cL_law 382 = .ok (.iaload, 1) := by decide +kernel
theorem dL_law_383 : decode cL_law 383 = .ok (.aload_n 0, 1) := by decide +kernel
theorem dL_law_384 : decode cL_law 384 = .ok (.iload_n 3, 1) := by decide +kernel
theorem dL_law_385 : decode cL_law 385 = .ok (.iconst 2, 1) := by decide +kernel
theorem dL_law_386 : decode cL_law 386 = .ok (.iadd, 1) := by decide +kernel
theorem dL_law_387 : decode cL_law 387 = .ok (.iaload, 1) := by decide +kernel
theorem dL_law_388 : decode cL_law 388 = .ok (.aload_n 0, 1) := by decide +kernel
theorem dL_law_389 : decode cL_law 389 = .ok (.iload_n 3, 1) := by decide +kernel
theorem dL_law_390 : decode cL_law 390 = .ok (.iconst 3, 1) := by decide +kernel
theorem dL_law_391 : decode cL_law 391 = .ok (.iadd, 1) := by decide +kernel
theorem dL_law_392 : decode cL_law 392 = .ok (.iaload, 1) := by decide +kernel
theorem dL_law_393 : decode cL_law 393 = .ok (.invokevirtual 30, 3) := by decide +kernel
theorem dL_law_396 : decode cL_law 396 = .ok (.aload_n 2, 1) := by decide +kernel
theorem dL_law_397 : decode cL_law 397 = .ok (.aload_n 0, 1) := by decide +kernel
theorem dL_law_398 : decode cL_law 398 = .ok (.iload_n 3, 1) := by decide +kernel
theorem dL_law_399 : decode cL_law 399 = .ok (.iconst 1, 1) := by decide +kernel
theorem dL_law_400 : decode cL_law 400 = .ok (.iadd, 1) := by decide +kernel
theorem dL_law_401 : decode cL_law 401 = .ok (.iaload, 1) := by decide +kernel
theorem dL_law_402 : decode cL_law 402 = .ok (.aload_n 0, 1) := by decide +kernel
theorem dL_law_403 : decode cL_law 403 = .ok (.iload_n 3, 1) := by decide +kernel
theorem dL_law_404 : decode cL_law 404 = .ok (.iconst 2, 1) := by decide +kernel
theorem dL_law_405 : decode cL_law 405 = .ok (.iadd, 1) := by decide +kernel
theorem dL_law_406 : decode cL_law 406 = .ok (.iaload, 1) := by decide +kernel
theorem dL_law_407 : decode cL_law 407 = .ok (.aload_n 0, 1) := by decide +kernel
theorem dL_law_408 : decode cL_law 408 = .ok (.iload_n 3, 1) := by decide +kernel
theorem dL_law_409 : decode cL_law 409 = .ok (.iconst 3, 1) := by decide +kernel
theorem dL_law_410 : decode cL_law 410 = .ok (.iadd, 1) := by decide +kernel
theorem dL_law_411 : decode cL_law 411 = .ok (.iaload, 1) := by decide +kernel
theorem dL_law_412 : decode cL_law 412 = .ok (.invokevirtual 34, 3) := by decide +kernel
theorem dL_law_415 : decode cL_law 415 = .ok (.if_icmp .eq 1320, 3) := by decide +kernel
theorem dL_law_420 : decode cL_law 420 = .ok (.aload_n 1, 1) := by decide +kernel
theorem dL_law_421 : decode cL_law 421 = .ok (.aload_n 0, 1) := by decide +kernel
theorem dL_law_422 : decode cL_law 422 = .ok (.iload_n 3, 1) := by decide +kernel
theorem dL_law_423 : decode cL_law 423 = .ok (.iconst 1, 1) := by decide +kernel
theorem dL_law_424 : decode cL_law 424 = .ok (.iadd, 1) := by decide +kernel
theorem dL_law_425 : decode cL_law 425 = .ok (.iaload, 1) := by decide +kernel
theorem dL_law_426 : decode cL_law 426 = .ok (.aload_n 0, 1) := by decide +kernel
theorem dL_law_427 : decode cL_law 427 = .ok (.iload_n 3, 1) := by decide +kernel
theorem dL_law_428 : decode cL_law 428 = .ok (.iconst 2, 1) := by decide +kernel
theorem dL_law_429 : decode cL_law 429 = .ok (.iadd, 1) := by decide +kernel
theorem dL_law_430 : decode cL_law 430 = .ok (.iaload, 1) := by decide +kernel
theorem dL_law_431 : decode cL_law 431 = .ok (.invokevirtual 35, 3) := by decide +kernel
theorem dL_law_434 : decode cL_law 434 = .ok (.aload_n 2, 1) := by decide +kernel
theorem dL_law_435 : decode cL_law 435 = .ok (.aload_n 0, 1) := by decide +kernel
theorem dL_law_436 : decode cL_law 436 = .ok (.iload_n 3, 1) := by decide +kernel
theorem dL_law_437 : decode cL_law 437 = .ok (.iconst 1, 1) := by decide +kernel
theorem dL_law_438 : decode cL_law 438 = .ok (.iadd, 1) := by decide +kernel
theorem dL_law_439 : decode cL_law 439 = .ok (.iaload, 1) := by decide +kernel
theorem dL_law_440 : decode cL_law 440 = .ok (.aload_n 0, 1) := by decide +kernel
theorem dL_law_441 : decode cL_law 441 = .ok (.iload_n 3, 1) := by decide +kernel
theorem dL_law_442 : decode cL_law 442 = .ok (.iconst 2, 1) := by decide +kernel
theorem dL_law_443 : decode cL_law 443 = .ok (.iadd, 1) := by decide +kernel
theorem dL_law_444 : decode cL_law 444 = .ok (.iaload, 1) := by decide +kernel
theorem dL_law_445 : decode cL_law 445 = .ok (.invokevirtual 39, 3) := by decide +kernel
theorem dL_law_448 : decode cL_law 448 = .ok (.lcmp, 1) := by decide +kernel
theorem dL_law_449 : decode cL_law 449 = .ok (.ifCond .eq 1286, 3) := by decide +kernel
theorem dL_law_454 : decode cL_law 454 = .ok (.aload_n 1, 1) := by decide +kernel
theorem dL_law_455 : decode cL_law 455 = .ok (.aload_n 0, 1) := by decide +kernel
theorem dL_law_456 : decode cL_law 456 = .ok (.iload_n 3, 1) := by decide +kernel
theorem dL_law_457 : decode cL_law 457 = .ok (.iconst 1, 1) := by decide +kernel
theorem dL_law_458 : decode cL_law 458 = .ok (.iadd, 1) := by decide +kernel
theorem dL_law_459 : decode cL_law 459 = .ok (.iaload, 1) := by decide +kernel
theorem dL_law_460 : decode cL_law 460 = .ok (.aload_n 0, 1) := by decide +kernel
theorem dL_law_461 : decode cL_law 461 = .ok (.iload_n 3, 1) := by decide +kernel
theorem dL_law_462 : decode cL_law 462 = .ok (.iconst 2, 1) := by decide +kernel
theorem dL_law_463 : decode cL_law 463 = .ok (.iadd, 1) := by decide +kernel
end
section
theorem dL_law_464 : decode cL_law 464 = .ok (.iaload, 1) := by decide +kernel
theorem dL_law_465 : decode cL_law 465 = .ok (.invokevirtual 40, 3) := by decide +kernel
theorem dL_law_468 : decode cL_law 468 = .ok (.aload_n 2, 1) := by decide +kernel
theorem dL_law_469 : decode cL_law 469 = .ok (.aload_n 0, 1) := by decide +kernel
theorem dL_law_470 : decode cL_law 470 = .ok (.iload_n 3, 1) := by decide +kernel
theorem dL_law_471 : decode cL_law 471 = .ok (.iconst 1, 1) := by decide +kernel
theorem dL_law_472 : decode cL_law 472 = .ok (.iadd, 1) := by decide +kernel
theorem dL_law_473 : decode cL_law 473 = .ok (.iaload, 1) := by decide +kernel
theorem dL_law_474 : decode cL_law 474 = .ok (.aload_n 0, 1) := by decide +kernel
theorem dL_law_475 : decode cL_law 475 = .ok (.iload_n 3, 1) := by decide +kernel
theorem dL_law_476 : decode cL_law 476 = .ok (.iconst 2, 1) := by decide +kernel
theorem dL_law_477 : decode cL_law 477 = .ok (.iadd, 1) := by decide +kernel
theorem dL_law_478 : decode cL_law 478 = .ok (.iaload, 1) := by decide +kernel
theorem dL_law_479 : decode cL_law 479 = .ok (.invokevirtual 44, 3) := by decide +kernel
theorem dL_law_482 : decode cL_law 482 = .ok (.if_icmp .eq 1253, 3) := by decide +kernel
theorem dL_law_487 : decode cL_law 487 = .ok (.aload_n 1, 1) := by decide +kernel
theorem dL_law_488 : decode cL_law 488 = .ok (.aload_n 0, 1) := by decide +kernel
theorem dL_law_489 : decode cL_law 489 = .ok (.iload_n 3, 1) := by decide +kernel
theorem dL_law_490 : decode cL_law 490 = .ok (.iconst 1, 1) := by decide +kernel
theorem dL_law_491 : decode cL_law 491 = .ok (.iadd, 1) := by decide +kernel
theorem dL_law_492 : decode cL_law 492 = .ok (.iaload, 1) := by decide +kernel
theorem dL_law_493 : decode cL_law 493 = .ok (.invokevirtual 45, 3) := by decide +kernel
theorem dL_law_496 : decode cL_law 496 = .ok (.aload_n 2, 1) := by decide +kernel
theorem dL_law_497 : decode cL_law 497 = .ok (.aload_n 0, 1) := by decide +kernel
theorem dL_law_498 : decode cL_law 498 = .ok (.iload_n 3, 1) := by decide +kernel
theorem dL_law_499 : decode cL_law 499 = .ok (.iconst 1, 1) := by decide +kernel
theorem dL_law_500 : decode cL_law 500 = .ok (.iadd, 1) := by decide +kernel
theorem dL_law_501 : decode cL_law 501 = .ok (.iaload, 1) := by decide +kernel
theorem dL_law_502 : decode cL_law 502 = .ok (.invokevirtual 49, 3) := by decide +kernel
theorem dL_law_505 : decode cL_law 505 = .ok (.if_icmp .eq 1230, 3) := by decide +kernel
theorem dL_law_510 : decode cL_law 510 = .ok (.aload_n 1, 1) := by decide +kernel
theorem dL_law_511 : decode cL_law 511 = .ok (.aload_n 0, 1) := by decide +kernel
theorem dL_law_512 : decode cL_law 512 = .ok (.iload_n 3, 1) := by decide +kernel
theorem dL_law_513 : decode cL_law 513 = .ok (.iconst 1, 1) := by decide +kernel
theorem dL_law_514 : decode cL_law 514 = .ok (.iadd, 1) := by decide +kernel
theorem dL_law_515 : decode cL_law 515 = .ok (.iaload, 1) := by decide +kernel
theorem dL_law_516 : decode cL_law 516 = .ok (.aload_n 0, 1) := by decide +kernel
theorem dL_law_517 : decode cL_law 517 = .ok (.iload_n 3, 1) := by decide +kernel
theorem dL_law_518 : decode cL_law 518 = .ok (.iconst 2, 1) := by decide +kernel
theorem dL_law_519 : decode cL_law 519 = .ok (.iadd, 1) := by decide +kernel
theorem dL_law_520 : decode cL_law 520 = .ok (.iaload, 1) := by decide +kernel
theorem dL_law_521 : decode cL_law 521 = .ok (.invokevirtual 50, 3) := by decide +kernel
theorem dL_law_524 : decode cL_law 524 = .ok (.aload_n 2, 1) := by decide +kernel
theorem dL_law_525 : decode cL_law 525 = .ok (.aload_n 0, 1) := by decide +kernel
theorem dL_law_526 : decode cL_law 526 = .ok (.iload_n 3, 1) := by decide +kernel
theorem dL_law_527 : decode cL_law 527 = .ok (.iconst 1, 1) := by decide +kernel
theorem dL_law_528 : decode cL_law 528 = .ok (.iadd, 1) := by decide +kernel
theorem dL_law_529 : decode cL_law 529 = .ok (.iaload, 1) := by decide +kernel
theorem dL_law_530 : decode cL_law 530 = .ok (.aload_n 0, 1) := by decide +kernel
theorem dL_law_531 : decode cL_law 531 = .ok (.iload_n 3, 1) := by decide +kernel
theorem dL_law_532 : decode cL_law 532 = .ok (.iconst 2, 1) := by decide +kernel
theorem dL_law_533 : decode cL_law 533 = .ok (.iadd, 1) := by decide +kernel
theorem dL_law_534 : decode cL_law 534 = .ok (.iaload, 1) := by decide +kernel
theorem dL_law_535 : decode cL_law 535 = .ok (.invokevirtual 53, 3) := by decide +kernel
theorem dL_law_538 : decode cL_law 538 = .ok (.lcmp, 1) := by decide +kernel
theorem dL_law_539 : decode cL_law 539 = .ok (.ifCond .eq 1196, 3) := by decide +kernel
theorem dL_law_544 : decode cL_law 544 = .ok (.aload_n 1, 1) := by decide +kernel
theorem dL_law_545 : decode cL_law 545 = .ok (.aload_n 0, 1) := by decide +kernel
theorem dL_law_546 : decode cL_law 546 = .ok (.iload_n 3, 1) := by decide +kernel
theorem dL_law_547 : decode cL_law 547 = .ok (.iconst 1, 1) := by decide +kernel
theorem dL_law_548 : decode cL_law 548 = .ok (.iadd, 1) := by decide +kernel
theorem dL_law_549 : decode cL_law 549 = .ok (.iaload, 1) := by decide +kernel
theorem dL_law_550 : decode cL_law 550 = .ok (.aload_n 0, 1) := by decide +kernel
theorem dL_law_551 : decode cL_law 551 = .ok (.iload_n 3, 1) := by decide +kernel
theorem dL_law_552 : decode cL_law 552 = .ok (.iconst 2, 1) := by decide +kernel
theorem dL_law_553 : decode cL_law 553 = .ok (.iadd, 1) := by decide +kernel
theorem dL_law_554 : decode cL_law 554 = .ok (.iaload, 1) := by decide +kernel
theorem dL_law_555 : decode cL_law 555 = .ok (.aload_n 0, 1) := by decide +kernel
theorem dL_law_556 : decode cL_law 556 = .ok (.iload_n 3, 1) := by decide +kernel
theorem dL_law_557 : decode cL_law 557 = .ok (.iconst 3, 1) := by decide +kernel
theorem dL_law_558 : decode cL_law 558 = .ok (.iadd, 1) := by decide +kernel
theorem dL_law_559 : decode cL_law 559 = .ok (.iaload, 1) := by decide +kernel
theorem dL_law_560 : decode cL_law 560 = .ok (.invokevirtual 54, 3) := by decide +kernel
theorem dL_law_563 : decode cL_law 563 = .ok (.aload_n 2, 1) := by decide +kernel
theorem dL_law_564 : decode cL_law 564 = .ok (.aload_n 0, 1) := by decide +kernel
theorem dL_law_565 : decode cL_law 565 = .ok (.iload_n 3, 1) := by decide +kernel
theorem dL_law_566 : decode cL_law 566 = .ok (.iconst 1, 1) := by decide +kernel
theorem dL_law_567 : decode cL_law 567 = .ok (.iadd, 1) := by decide +kernel
theorem dL_law_568 : decode cL_law 568 = .ok (.iaload, 1) := by decide +kernel
theorem dL_law_569 : decode cL_law 569 = .ok (.aload_n 0, 1) := by decide +kernel
theorem dL_law_570 : decode cL_law 570 = .ok (.iload_n 3, 1) := by decide +kernel
theorem dL_law_571 : decode cL_law 571 = .ok (.iconst 2, 1) := by decide +kernel
theorem dL_law_572 : decode cL_law 572 = .ok (.iadd, 1) := by decide +kernel
theorem dL_law_573 : decode cL_law 573 = .ok (.iaload, 1) := by decide +kernel
theorem dL_law_574 : decode cL_law 574 = .ok (.aload_n 0, 1) := by decide +kernel
theorem dL_law_575 : decode cL_law 575 = .ok (.iload_n 3, 1) := by decide +kernel
theorem dL_law_576 : decode cL_law 576 = .ok (.iconst 3, 1) := by decide +kernel
theorem dL_law_577 : decode cL_law 577 = .ok (.iadd, 1) := by decide +kernel
theorem dL_law_578 : decode cL_law 578 = .ok (.iaload, 1) := by decide +kernel
theorem dL_law_579 : decode cL_law 579 = .ok (.invokevirtual 58, 3) := by decide +kernel
theorem dL_law_582 : decode cL_law 582 = .ok (.lcmp, 1) := by decide +kernel
theorem dL_law_583 : decode cL_law 583 = .ok (.ifCond .eq 1152, 3) := by decide +kernel
theorem dL_law_588 : decode cL_law 588 = .ok (.aload_n 1, 1) := by decide +kernel
theorem dL_law_589 : decode cL_law 589 = .ok (.aload_n 0, 1) := by decide +kernel
theorem dL_law_590 : decode cL_law 590 = .ok (.iload_n 3, 1) := by decide +kernel
theorem dL_law_591 : decode cL_law 591 = .ok (.iconst 1, 1) := by decide +kernel
theorem dL_law_592 : decode cL_law 592 = .ok (.iadd, 1) := by decide +kernel
theorem dL_law_593 : decode cL_law 593 = .ok (.iaload, 1) := by decide +kernel
theorem dL_law_594 : decode cL_law 594 = .ok (.aload_n 0, 1) := by decide +kernel
theorem dL_law_595 : decode cL_law 595 = .ok (.iload_n 3, 1) := by decide +kernel
theorem dL_law_596 : decode cL_law 596 = .ok (.iconst 2, 1) := by decide +kernel
theorem dL_law_597 : decode cL_law 597 = .ok (.iadd, 1) := by decide +kernel
theorem dL_law_598 : decode cL_law 598 = .ok (.iaload, 1) := by decide +kernel
theorem dL_law_599 : decode cL_law 599 = .ok (.aload_n 0, 1) := by decide +kernel
theorem dL_law_600 : decode cL_law 600 = .ok (.iload_n 3, 1) := by decide +kernel
theorem dL_law_601 : decode cL_law 601 = .ok (.iconst 3, 1) := by decide +kernel
theorem dL_law_602 : decode cL_law 602 = .ok (.iadd, 1) := by decide +kernel
theorem dL_law_603 : decode cL_law 603 = .ok (.iaload, 1) := by decide +kernel
theorem dL_law_604 : decode cL_law 604 = .ok (.invokevirtual 59, 3) := by decide +kernel
theorem dL_law_607 : decode cL_law 607 = .ok (.aload_n 2, 1) := by decide +kernel
theorem dL_law_608 : decode cL_law 608 = .ok (.aload_n 0, 1) := by decide +kernel
theorem dL_law_609 : decode cL_law 609 = .ok (.iload_n 3, 1) := by decide +kernel
theorem dL_law_610 : decode cL_law 610 = .ok (.iconst 1, 1) := by decide +kernel
theorem dL_law_611 : decode cL_law 611 = .ok (.iadd, 1) := by decide +kernel
theorem dL_law_612 : decode cL_law 612 = .ok (.iaload, 1) := by decide +kernel
theorem dL_law_613 : decode cL_law 613 = .ok (.aload_n 0, 1) := by decide +kernel
theorem dL_law_614 : decode cL_law 614 = .ok (.iload_n 3, 1) := by decide +kernel
theorem dL_law_615 : decode cL_law 615 = .ok (.iconst 2, 1) := by decide +kernel
theorem dL_law_616 : decode cL_law 616 = .ok (.iadd, 1) := by decide +kernel
theorem dL_law_617 : decode cL_law 617 = .ok (.iaload, 1) := by decide +kernel
theorem dL_law_618 : decode cL_law 618 = .ok (.aload_n 0, 1) := by decide +kernel
theorem dL_law_619 : decode cL_law 619 = .ok (.iload_n 3, 1) := by decide +kernel
theorem dL_law_620 : decode cL_law 620 = .ok (.iconst 3, 1) := by decide +kernel
theorem dL_law_621 : decode cL_law 621 = .ok (.iadd, 1) := by decide +kernel
theorem dL_law_622 : decode cL_law 622 = .ok (.iaload, 1) := by decide +kernel
theorem dL_law_623 : decode cL_law 623 = .ok (.invokevirtual 62, 3) := by decide +kernel
theorem dL_law_626 : decode cL_law 626 = .ok (.if_icmp .eq 1109, 3) := by decide +kernel
theorem dL_law_631 : decode cL_law 631 = .ok (.aload_n 1, 1) := by decide +kernel
theorem dL_law_632 : decode cL_law 632 = .ok (.aload_n 0, 1) := by decide +kernel
theorem dL_law_633 : decode cL_law 633 = .ok (.iload_n 3, 1) := by decide +kernel
theorem dL_law_634 : decode cL_law 634 = .ok (.iconst 1, 1) := by decide +kernel
theorem dL_law_635 : decode cL_law 635 = .ok (.iadd, 1) := by decide +kernel
theorem dL_law_636 : decode cL_law 636 = .ok (.iaload, 1) := by decide +kernel
theorem dL_law_637 : decode cL_law 637 = .ok (.aload_n 0, 1) := by decide +kernel
theorem dL_law_638 : decode cL_law 638 = .ok (.iload_n 3, 1) := by decide +kernel
theorem dL_law_639 : decode cL_law 639 = .ok (.iconst 2, 1) := by decide +kernel
theorem dL_law_640 : decode cL_law 640 = .ok (.iadd, 1) := by decide +kernel
theorem dL_law_641 : decode cL_law 641 = .ok (.iaload, 1) := by decide +kernel
theorem dL_law_642 : decode cL_law 642 = .ok (.aload_n 0, 1) := by decide +kernel
theorem dL_law_643 : decode cL_law 643 = .ok (.iload_n 3, 1) := by decide +kernel
theorem dL_law_644 : decode cL_law 644 = .ok (.iconst 3, 1) := by decide +kernel
theorem dL_law_645 : decode cL_law 645 = .ok (.iadd, 1) := by decide +kernel
theorem dL_law_646 : decode cL_law 646 = .ok (.iaload, 1) := by decide +kernel
theorem dL_law_647 : decode cL_law 647 = .ok (.invokevirtual 63, 3) := by decide +kernel
theorem dL_law_650 : decode cL_law 650 = .ok (.aload_n 2, 1) := by decide +kernel
theorem dL_law_651 : decode cL_law 651 = .ok (.aload_n 0, 1) := by decide +kernel
theorem dL_law_652 : decode cL_law 652 = .ok (.iload_n 3, 1) := by decide +kernel
theorem dL_law_653 : decode cL_law 653 = .ok (.iconst 1, 1) := by decide +kernel
theorem dL_law_654 : decode cL_law 654 = .ok (.iadd, 1) := by decide +kernel
theorem dL_law_655 : decode cL_law 655 = .ok (.iaload, 1) := by decide +kernel
theorem dL_law_656 : decode cL_law 656 = .ok (.aload_n 0, 1) := by decide +kernel
theorem dL_law_657 : decode cL_law 657 = .ok (.iload_n 3, 1) := by decide +kernel
theorem dL_law_658 : decode cL_law 658 = .ok (.iconst 2, 1) := by decide +kernel
theorem dL_law_659 : decode cL_law 659 = .ok (.iadd, 1) := by decide +kernel
theorem dL_law_660 : decode cL_law 660 = .ok (.iaload, 1) := by decide +kernel
theorem dL_law_661 : decode cL_law 661 = .ok (.aload_n 0, 1) := by decide +kernel
theorem dL_law_662 : decode cL_law 662 = .ok (.iload_n 3, 1) := by decide +kernel
theorem dL_law_663 : decode cL_law 663 = .ok (.iconst 3, 1) := by decide +kernel
theorem dL_law_664 : decode cL_law 664 = .ok (.iadd, 1) := by decide +kernel
theorem dL_law_665 : decode cL_law 665 = .ok (.iaload, 1) := by decide +kernel
theorem dL_law_666 : decode cL_law 666 = .ok (.invokevirtual 66, 3) := by decide +kernel
theorem dL_law_669 : decode cL_law 669 = .ok (.if_icmp .eq 1066, 3) := by decide +kernel
theorem dL_law_674 : decode cL_law 674 = .ok (.aload_n 1, 1) := by decide +kernel
theorem dL_law_675 : decode cL_law 675 = .ok (.aload_n 0, 1) := by decide +kernel
theorem dL_law_676 : decode cL_law 676 = .ok (.iload_n 3, 1) := by decide +kernel
theorem dL_law_677 : decode cL_law 677 = .ok (.iconst 1, 1) := by decide +kernel
theorem dL_law_678 : decode cL_law 678 = .ok (.iadd, 1) := by decide +kernel
theorem dL_law_679 : decode cL_law 679 = .ok (.iaload, 1) := by decide +kernel
theorem dL_law_680 : decode cL_law 680 = .ok (.aload_n 0, 1) := by decide +kernel
theorem dL_law_681 : decode cL_law 681 = .ok (.iload_n 3, 1) := by decide +kernel
theorem dL_law_682 : decode cL_law 682 = .ok (.iconst 2, 1) := by decide +kernel
theorem dL_law_683 : decode cL_law 683 = .ok (.iadd, 1) := by decide +kernel
theorem dL_law_684 : decode cL_law 684 = .ok (.iaload, 1) := by decide +kernel
theorem dL_law_685 : decode cL_law 685 = .ok (.invokevirtual 67, 3) := by decide +kernel
theorem dL_law_688 : decode cL_law 688 = .ok (.aload_n 2, 1) := by decide +kernel
theorem dL_law_689 : decode cL_law 689 = .ok (.aload_n 0, 1) := by decide +kernel
theorem dL_law_690 : decode cL_law 690 = .ok (.iload_n 3, 1) := by decide +kernel
theorem dL_law_691 : decode cL_law 691 = .ok (.iconst 1, 1) := by decide +kernel
theorem dL_law_692 : decode cL_law 692 = .ok (.iadd, 1) := by decide +kernel
theorem dL_law_693 : decode cL_law 693 = .ok (.iaload, 1) := by decide +kernel
theorem dL_law_694 : decode cL_law 694 = .ok (.aload_n 0, 1) := by decide +kernel
theorem dL_law_695 : decode cL_law 695 = .ok (.iload_n 3, 1) := by decide +kernel
theorem dL_law_696 : decode cL_law 696 = .ok (.iconst 2, 1) := by decide +kernel
theorem dL_law_697 : decode cL_law 697 = .ok (.iadd, 1) := by decide +kernel
theorem dL_law_698 : decode cL_law 698 = .ok (.iaload, 1) := by decide +kernel
theorem dL_law_699 : decode cL_law 699 = .ok (.invokevirtual 70, 3) := by decide +kernel
theorem dL_law_702 : decode cL_law 702 = .ok (.if_icmp .eq 1033, 3) := by decide +kernel
theorem dL_law_707 : decode cL_law 707 = .ok (.aload_n 1, 1) := by decide +kernel
theorem dL_law_708 : decode cL_law 708 = .ok (.aload_n 0, 1) := by decide +kernel
theorem dL_law_709 : decode cL_law 709 = .ok (.iload_n 3, 1) := by decide +kernel
theorem dL_law_710 : decode cL_law 710 = .ok (.iconst 1, 1) := by decide +kernel
theorem dL_law_711 : decode cL_law 711 = .ok (.iadd, 1) := by decide +kernel
theorem dL_law_712 : decode cL_law 712 = .ok (.iaload, 1) := by decide +kernel
theorem dL_law_713 : decode cL_law 713 = .ok (.aload_n 0, 1) := by decide +kernel
theorem dL_law_714 : decode cL_law 714 = .ok (.iload_n 3, 1) := by decide +kernel
theorem dL_law_715 : decode cL_law 715 = .ok (.iconst 2, 1) := by decide +kernel
theorem dL_law_716 : decode cL_law 716 = .ok (.iadd, 1) := by decide +kernel
theorem dL_law_717 : decode cL_law 717 = .ok (.iaload, 1) := by decide +kernel
theorem dL_law_718 : decode cL_law 718 = .ok (.invokevirtual 71, 3) := by decide +kernel
theorem dL_law_721 : decode cL_law 721 = .ok (.aload_n 2, 1) := by decide +kernel
theorem dL_law_722 : decode cL_law 722 = .ok (.aload_n 0, 1) := by decide +kernel
theorem dL_law_723 : decode cL_law 723 = .ok (.iload_n 3, 1) := by decide +kernel
theorem dL_law_724 : decode cL_law 724 = .ok (.iconst 1, 1) := by decide +kernel
theorem dL_law_725 : decode cL_law 725 = .ok (.iadd, 1) := by decide +kernel
theorem dL_law_726 : decode cL_law 726 = .ok (.iaload, 1) := by decide +kernel
theorem dL_law_727 : decode cL_law 727 = .ok (.aload_n 0, 1) := by decide +kernel
theorem dL_law_728 : decode cL_law 728 = .ok (.iload_n 3, 1) := by decide +kernel
theorem dL_law_729 : decode cL_law 729 = .ok (.iconst 2, 1) := by decide +kernel
theorem dL_law_730 : decode cL_law 730 = .ok (.iadd, 1) := by decide +kernel
theorem dL_law_731 : decode cL_law 731 = .ok (.iaload, 1) := by decide +kernel
theorem dL_law_732 : decode cL_law 732 = .ok (.invokevirtual 74, 3) := by decide +kernel
theorem dL_law_735 : decode cL_law 735 = .ok (.if_icmp .eq 1000, 3) := by decide +kernel
theorem dL_law_740 : decode cL_law 740 = .ok (.aload_n 1, 1) := by decide +kernel
theorem dL_law_741 : decode cL_law 741 = .ok (.aload_n 0, 1) := by decide +kernel
theorem dL_law_742 : decode cL_law 742 = .ok (.iload_n 3, 1) := by decide +kernel
theorem dL_law_743 : decode cL_law 743 = .ok (.iconst 1, 1) := by decide +kernel
theorem dL_law_744 : decode cL_law 744 = .ok (.iadd, 1) := by decide +kernel
theorem dL_law_745 : decode cL_law 745 = .ok (.iaload, 1) := by decide +kernel
theorem dL_law_746 : decode cL_law 746 = .ok (.aload_n 0, 1) := by decide +kernel
theorem dL_law_747 : decode cL_law 747 = .ok (.iload_n 3, 1) := by decide +kernel
theorem dL_law_748 : decode cL_law 748 = .ok (.iconst 2, 1) := by decide +kernel
theorem dL_law_749 : decode cL_law 749 = .ok (.iadd, 1) := by decide +kernel
theorem dL_law_750 : decode cL_law 750 = .ok (.iaload, 1) := by decide +kernel
theorem dL_law_751 : decode cL_law 751 = .ok (.invokevirtual 75, 3) := by decide +kernel
theorem dL_law_754 : decode cL_law 754 = .ok (.aload_n 2, 1) := by decide +kernel
theorem dL_law_755 : decode cL_law 755 = .ok (.aload_n 0, 1) := by decide +kernel
theorem dL_law_756 : decode cL_law 756 = .ok (.iload_n 3, 1) := by decide +kernel
theorem dL_law_757 : decode cL_law 757 = .ok (.iconst 1, 1) := by decide +kernel
theorem dL_law_758 : decode cL_law 758 = .ok (.iadd, 1) := by decide +kernel
theorem dL_law_759 : decode cL_law 759 = .ok (.iaload, 1) := by decide +kernel
theorem dL_law_760 : decode cL_law 760 = .ok (.aload_n 0, 1) := by decide +kernel
theorem dL_law_761 : decode cL_law 761 = .ok (.iload_n 3, 1) := by decide +kernel
theorem dL_law_762 : decode cL_law 762 = .ok (.iconst 2, 1) := by decide +kernel
theorem dL_law_763 : decode cL_law 763 = .ok (.iadd, 1) := by decide +kernel
theorem dL_law_764 : decode cL_law 764 = .ok (.iaload, 1) := by decide +kernel
theorem dL_law_765 : decode cL_law 765 = .ok (.invokevirtual 78, 3) := by decide +kernel
theorem dL_law_768 : decode cL_law 768 = .ok (.if_icmp .eq 967, 3) := by decide +kernel
theorem dL_law_773 : decode cL_law 773 = .ok (.aload_n 1, 1) := by decide +kernel
theorem dL_law_774 : decode cL_law 774 = .ok (.aload_n 0, 1) := by decide +kernel
theorem dL_law_775 : decode cL_law 775 = .ok (.iload_n 3, 1) := by decide +kernel
theorem dL_law_776 : decode cL_law 776 = .ok (.iconst 1, 1) := by decide +kernel
theorem dL_law_777 : decode cL_law 777 = .ok (.iadd, 1) := by decide +kernel
theorem dL_law_778 : decode cL_law 778 = .ok (.iaload, 1) := by decide +kernel
theorem dL_law_779 : decode cL_law 779 = .ok (.aload_n 0, 1) := by decide +kernel
theorem dL_law_780 : decode cL_law 780 = .ok (.iload_n 3, 1) := by decide +kernel
theorem dL_law_781 : decode cL_law 781 = .ok (.iconst 2, 1) := by decide +kernel
theorem dL_law_782 : decode cL_law 782 = .ok (.iadd, 1) := by decide +kernel
theorem dL_law_783 : decode cL_law 783 = .ok (.iaload, 1) := by decide +kernel
theorem dL_law_784 : decode cL_law 784 = .ok (.invokevirtual 79, 3) := by decide +kernel
theorem dL_law_787 : decode cL_law 787 = .ok (.aload_n 2, 1) := by decide +kernel
theorem dL_law_788 : decode cL_law 788 = .ok (.aload_n 0, 1) := by decide +kernel
theorem dL_law_789 : decode cL_law 789 = .ok (.iload_n 3, 1) := by decide +kernel
theorem dL_law_790 : decode cL_law 790 = .ok (.iconst 1, 1) := by decide +kernel
theorem dL_law_791 : decode cL_law 791 = .ok (.iadd, 1) := by decide +kernel
theorem dL_law_792 : decode cL_law 792 = .ok (.iaload, 1) := by decide +kernel
theorem dL_law_793 : decode cL_law 793 = .ok (.aload_n 0, 1) := by decide +kernel
theorem dL_law_794 : decode cL_law 794 = .ok (.iload_n 3, 1) := by decide +kernel
theorem dL_law_795 : decode cL_law 795 = .ok (.iconst 2, 1) := by decide +kernel
theorem dL_law_796 : decode cL_law 796 = .ok (.iadd, 1) := by decide +kernel
theorem dL_law_797 : decode cL_law 797 = .ok (.iaload, 1) := by decide +kernel
theorem dL_law_798 : decode cL_law 798 = .ok (.invokevirtual 82, 3) := by decide +kernel
theorem dL_law_801 : decode cL_law 801 = .ok (.if_icmp .eq 934, 3) := by decide +kernel
theorem dL_law_806 : decode cL_law 806 = .ok (.aload_n 1, 1) := by decide +kernel
theorem dL_law_807 : decode cL_law 807 = .ok (.aload_n 0, 1) := by decide +kernel
theorem dL_law_808 : decode cL_law 808 = .ok (.iload_n 3, 1) := by decide +kernel
theorem dL_law_809 : decode cL_law 809 = .ok (.iconst 1, 1) := by decide +kernel
theorem dL_law_810 : decode cL_law 810 = .ok (.iadd, 1) := by decide +kernel
theorem dL_law_811 : decode cL_law 811 = .ok (.iaload, 1) := by decide +kernel
theorem dL_law_812 : decode cL_law 812 = .ok (.aload_n 0, 1) := by decide +kernel
theorem dL_law_813 : decode cL_law 813 = .ok (.iload_n 3, 1) := by decide +kernel
theorem dL_law_814 : decode cL_law 814 = .ok (.iconst 2, 1) := by decide +kernel
theorem dL_law_815 : decode cL_law 815 = .ok (.iadd, 1) := by decide +kernel
theorem dL_law_816 : decode cL_law 816 = .ok (.iaload, 1) := by decide +kernel
theorem dL_law_817 : decode cL_law 817 = .ok (.invokevirtual 83, 3) := by decide +kernel
theorem dL_law_820 : decode cL_law 820 = .ok (.aload_n 2, 1) := by decide +kernel
theorem dL_law_821 : decode cL_law 821 = .ok (.aload_n 0, 1) := by decide +kernel
theorem dL_law_822 : decode cL_law 822 = .ok (.iload_n 3, 1) := by decide +kernel
theorem dL_law_823 : decode cL_law 823 = .ok (.iconst 1, 1) := by decide +kernel
theorem dL_law_824 : decode cL_law 824 = .ok (.iadd, 1) := by decide +kernel
theorem dL_law_825 : decode cL_law 825 = .ok (.iaload, 1) := by decide +kernel
theorem dL_law_826 : decode cL_law 826 = .ok (.aload_n 0, 1) := by decide +kernel
theorem dL_law_827 : decode cL_law 827 = .ok (.iload_n 3, 1) := by decide +kernel
theorem dL_law_828 : decode cL_law 828 = .ok (.iconst 2, 1) := by decide +kernel
theorem dL_law_829 : decode cL_law 829 = .ok (.iadd, 1) := by decide +kernel
theorem dL_law_830 : decode cL_law 830 = .ok (.iaload, 1) := by decide +kernel
theorem dL_law_831 : decode cL_law 831 = .ok (.invokevirtual 86, 3) := by decide +kernel
theorem dL_law_834 : decode cL_law 834 = .ok (.if_icmp .eq 901, 3) := by decide +kernel
theorem dL_law_839 : decode cL_law 839 = .ok (.aload_n 1, 1) := by decide +kernel
theorem dL_law_840 : decode cL_law 840 = .ok (.aload_n 0, 1) := by decide +kernel
theorem dL_law_841 : decode cL_law 841 = .ok (.iload_n 3, 1) := by decide +kernel
theorem dL_law_842 : decode cL_law 842 = .ok (.iconst 1, 1) := by decide +kernel
theorem dL_law_843 : decode cL_law 843 = .ok (.iadd, 1) := by decide +kernel
theorem dL_law_844 : decode cL_law 844 = .ok (.iaload, 1) := by decide +kernel
theorem dL_law_845 : decode cL_law 845 = .ok (.aload_n 0, 1) := by decide +kernel
theorem dL_law_846 : decode cL_law 846 = .ok (.iload_n 3, 1) := by decide +kernel
theorem dL_law_847 : decode cL_law 847 = .ok (.iconst 2, 1) := by decide +kernel
theorem dL_law_848 : decode cL_law 848 = .ok (.iadd, 1) := by decide +kernel
theorem dL_law_849 : decode cL_law 849 = .ok (.iaload, 1) := by decide +kernel
theorem dL_law_850 : decode cL_law 850 = .ok (.invokevirtual 87, 3) := by decide +kernel
theorem dL_law_853 : decode cL_law 853 = .ok (.aload_n 2, 1) := by decide +kernel
theorem dL_law_854 : decode cL_law 854 = .ok (.aload_n 0, 1) := by decide +kernel
theorem dL_law_855 : decode cL_law 855 = .ok (.iload_n 3, 1) := by decide +kernel
theorem dL_law_856 : decode cL_law 856 = .ok (.iconst 1, 1) := by decide +kernel
theorem dL_law_857 : decode cL_law 857 = .ok (.iadd, 1) := by decide +kernel
theorem dL_law_858 : decode cL_law 858 = .ok (.iaload, 1) := by decide +kernel
theorem dL_law_859 : decode cL_law 859 = .ok (.aload_n 0, 1) := by decide +kernel
theorem dL_law_860 : decode cL_law 860 = .ok (.iload_n 3, 1) := by decide +kernel
theorem dL_law_861 : decode cL_law 861 = .ok (.iconst 2, 1) := by decide +kernel
theorem dL_law_862 : decode cL_law 862 = .ok (.iadd, 1) := by decide +kernel
theorem dL_law_863 : decode cL_law 863 = .ok (.iaload, 1) := by decide +kernel
theorem dL_law_864 : decode cL_law 864 = .ok (.invokevirtual 90, 3) := by decide +kernel
theorem dL_law_867 : decode cL_law 867 = .ok (.if_icmp .eq 868, 3) := by decide +kernel
theorem dL_law_872 : decode cL_law 872 = .ok (.aload_n 1, 1) := by decide +kernel
theorem dL_law_873 : decode cL_law 873 = .ok (.aload_n 0, 1) := by decide +kernel
theorem dL_law_874 : decode cL_law 874 = .ok (.iload_n 3, 1) := by decide +kernel
theorem dL_law_875 : decode cL_law 875 = .ok (.iconst 1, 1) := by decide +kernel
theorem dL_law_876 : decode cL_law 876 = .ok (.iadd, 1) := by decide +kernel
theorem dL_law_877 : decode cL_law 877 = .ok (.iaload, 1) := by decide +kernel
theorem dL_law_878 : decode cL_law 878 = .ok (.invokevirtual 91, 3) := by decide +kernel
theorem dL_law_881 : decode cL_law 881 = .ok (.aload_n 2, 1) := by decide +kernel
theorem dL_law_882 : decode cL_law 882 = .ok (.aload_n 0, 1) := by decide +kernel
theorem dL_law_883 : decode cL_law 883 = .ok (.iload_n 3, 1) := by decide +kernel
theorem dL_law_884 : decode cL_law 884 = .ok (.iconst 1, 1) := by decide +kernel
theorem dL_law_885 : decode cL_law 885 = .ok (.iadd, 1) := by decide +kernel
theorem dL_law_886 : decode cL_law 886 = .ok (.iaload, 1) := by decide +kernel
theorem dL_law_887 : decode cL_law 887 = .ok (.invokevirtual 94, 3) := by decide +kernel
theorem dL_law_890 : decode cL_law 890 = .ok (.if_icmp .eq 845, 3) := by decide +kernel
theorem dL_law_895 : decode cL_law 895 = .ok (.aload_n 1, 1) := by decide +kernel
theorem dL_law_896 : decode cL_law 896 = .ok (.aload_n 0, 1) := by decide +kernel
theorem dL_law_897 : decode cL_law 897 = .ok (.iload_n 3, 1) := by decide +kernel
theorem dL_law_898 : decode cL_law 898 = .ok (.iconst 1, 1) := by decide +kernel
theorem dL_law_899 : decode cL_law 899 = .ok (.iadd, 1) := by decide +kernel
theorem dL_law_900 : decode cL_law 900 = .ok (.iaload, 1) := by decide +kernel
theorem dL_law_901 : decode cL_law 901 = .ok (.invokevirtual 95, 3) := by decide +kernel
theorem dL_law_904 : decode cL_law 904 = .ok (.aload_n 2, 1) := by decide +kernel
theorem dL_law_905 : decode cL_law 905 = .ok (.aload_n 0, 1) := by decide +kernel
theorem dL_law_906 : decode cL_law 906 = .ok (.iload_n 3, 1) := by decide +kernel
theorem dL_law_907 : decode cL_law 907 = .ok (.iconst 1, 1) := by decide +kernel
theorem dL_law_908 : decode cL_law 908 = .ok (.iadd, 1) := by decide +kernel
theorem dL_law_909 : decode cL_law 909 = .ok (.iaload, 1) := by decide +kernel
theorem dL_law_910 : decode cL_law 910 = .ok (.invokevirtual 98, 3) := by decide +kernel
theorem dL_law_913 : decode cL_law 913 = .ok (.if_icmp .eq 822, 3) := by decide +kernel
theorem dL_law_918 : decode cL_law 918 = .ok (.aload_n 1, 1) := by decide +kernel
theorem dL_law_919 : decode cL_law 919 = .ok (.aload_n 0, 1) := by decide +kernel
theorem dL_law_920 : decode cL_law 920 = .ok (.iload_n 3, 1) := by decide +kernel
theorem dL_law_921 : decode cL_law 921 = .ok (.iconst 1, 1) := by decide +kernel
theorem dL_law_922 : decode cL_law 922 = .ok (.iadd, 1) := by decide +kernel
theorem dL_law_923 : decode cL_law 923 = .ok (.iaload, 1) := by decide +kernel
theorem dL_law_924 : decode cL_law 924 = .ok (.aload_n 0, 1) := by decide +kernel
theorem dL_law_925 : decode cL_law 925 = .ok (.iload_n 3, 1) := by decide +kernel
end
section
theorem dL_law_926 : decode cL_law 926 = .ok (.iconst 2, 1) := by decide +kernel
theorem dL_law_927 : decode cL_law 927 = .ok (.iadd, 1) := by decide +kernel
theorem dL_law_928 : decode cL_law 928 = .ok (.iaload, 1) := by decide +kernel
theorem dL_law_929 : decode cL_law 929 = .ok (.aload_n 0, 1) := by decide +kernel
theorem dL_law_930 : decode cL_law 930 = .ok (.iload_n 3, 1) := by decide +kernel
theorem dL_law_931 : decode cL_law 931 = .ok (.iconst 3, 1) := by decide +kernel
theorem dL_law_932 : decode cL_law 932 = .ok (.iadd, 1) := by decide +kernel
theorem dL_law_933 : decode cL_law 933 = .ok (.iaload, 1) := by decide +kernel
theorem dL_law_934 : decode cL_law 934 = .ok (.aload_n 0, 1) := by decide +kernel
theorem dL_law_935 : decode cL_law 935 = .ok (.iload_n 3, 1) := by decide +kernel
theorem dL_law_936 : decode cL_law 936 = .ok (.iconst 4, 1) := by decide +kernel
theorem dL_law_937 : decode cL_law 937 = .ok (.iadd, 1) := by decide +kernel
theorem dL_law_938 : decode cL_law 938 = .ok (.iaload, 1) := by decide +kernel
theorem dL_law_939 : decode cL_law 939 = .ok (.aload_n 0, 1) := by decide +kernel
theorem dL_law_940 : decode cL_law 940 = .ok (.iload_n 3, 1) := by decide +kernel
theorem dL_law_941 : decode cL_law 941 = .ok (.iconst 5, 1) := by decide +kernel
theorem dL_law_942 : decode cL_law 942 = .ok (.iadd, 1) := by decide +kernel
theorem dL_law_943 : decode cL_law 943 = .ok (.iaload, 1) := by decide +kernel
theorem dL_law_944 : decode cL_law 944 = .ok (.invokevirtual 99, 3) := by decide +kernel
theorem dL_law_947 : decode cL_law 947 = .ok (.aload_n 2, 1) := by decide +kernel
theorem dL_law_948 : decode cL_law 948 = .ok (.aload_n 0, 1) := by decide +kernel
theorem dL_law_949 : decode cL_law 949 = .ok (.iload_n 3, 1) := by decide +kernel
theorem dL_law_950 : decode cL_law 950 = .ok (.iconst 1, 1) := by decide +kernel
theorem dL_law_951 : decode cL_law 951 = .ok (.iadd, 1) := by decide +kernel
theorem dL_law_952 : decode cL_law 952 = .ok (.iaload, 1) := by decide +kernel
theorem dL_law_953 : decode cL_law 953 = .ok (.aload_n 0, 1) := by decide +kernel
theorem dL_law_954 : decode cL_law 954 = .ok (.iload_n 3, 1) := by decide +kernel
theorem dL_law_955 : decode cL_law 955 = .ok (.iconst 2, 1) := by decide +kernel
theorem dL_law_956 : decode cL_law 956 = .ok (.iadd, 1) := by decide +kernel
theorem dL_law_957 : decode cL_law 957 = .ok (.iaload, 1) := by decide +kernel
theorem dL_law_958 : decode cL_law 958 = .ok (.aload_n 0, 1) := by decide +kernel
theorem dL_law_959 : decode cL_law 959 = .ok (.iload_n 3, 1) := by decide +kernel
theorem dL_law_960 : decode cL_law 960 = .ok (.iconst 3, 1) := by decide +kernel
theorem dL_law_961 : decode cL_law 961 = .ok (.iadd, 1) := by decide +kernel
theorem dL_law_962 : decode cL_law 962 = .ok (.iaload, 1) := by decide +kernel
theorem dL_law_963 : decode cL_law 963 = .ok (.aload_n 0, 1) := by decide +kernel
theorem dL_law_964 : decode cL_law 964 = .ok (.iload_n 3, 1) := by decide +kernel
theorem dL_law_965 : decode cL_law 965 = .ok (.iconst 4, 1) := by decide +kernel
theorem dL_law_966 : decode cL_law 966 = .ok (.iadd, 1) := by decide +kernel
theorem dL_law_967 : decode cL_law 967 = .ok (.iaload, 1) := by decide +kernel
theorem dL_law_968 : decode cL_law 968 = .ok (.aload_n 0, 1) := by decide +kernel
theorem dL_law_969 : decode cL_law 969 = .ok (.iload_n 3, 1) := by decide +kernel
theorem dL_law_970 : decode cL_law 970 = .ok (.iconst 5, 1) := by decide +kernel
theorem dL_law_971 : decode cL_law 971 = .ok (.iadd, 1) := by decide +kernel
theorem dL_law_972 : decode cL_law 972 = .ok (.iaload, 1) := by decide +kernel
theorem dL_law_973 : decode cL_law 973 = .ok (.invokevirtual 103, 3) := by decide +kernel
theorem dL_law_976 : decode cL_law 976 = .ok (.lcmp, 1) := by decide +kernel
theorem dL_law_977 : decode cL_law 977 = .ok (.ifCond .eq 758, 3) := by decide +kernel
theorem dL_law_982 : decode cL_law 982 = .ok (.aload_n 1, 1) := by decide +kernel
theorem dL_law_983 : decode cL_law 983 = .ok (.aload_n 0, 1) := by decide +kernel
theorem dL_law_984 : decode cL_law 984 = .ok (.iload_n 3, 1) := by decide +kernel
theorem dL_law_985 : decode cL_law 985 = .ok (.iconst 1, 1) := by decide +kernel
theorem dL_law_986 : decode cL_law 986 = .ok (.iadd, 1) := by decide +kernel
theorem dL_law_987 : decode cL_law 987 = .ok (.iaload, 1) := by decide +kernel
theorem dL_law_988 : decode cL_law 988 = .ok (.aload_n 0, 1) := by decide +kernel
theorem dL_law_989 : decode cL_law 989 = .ok (.iload_n 3, 1) := by decide +kernel
theorem dL_law_990 : decode cL_law 990 = .ok (.iconst 2, 1) := by decide +kernel
theorem dL_law_991 : decode cL_law 991 = .ok (.iadd, 1) := by decide +kernel
theorem dL_law_992 : decode cL_law 992 = .ok (.iaload, 1) := by decide +kernel
theorem dL_law_993 : decode cL_law 993 = .ok (.aload_n 0, 1) := by decide +kernel
theorem dL_law_994 : decode cL_law 994 = .ok (.iload_n 3, 1) := by decide +kernel
theorem dL_law_995 : decode cL_law 995 = .ok (.iconst 3, 1) := by decide +kernel
theorem dL_law_996 : decode cL_law 996 = .ok (.iadd, 1) := by decide +kernel
theorem dL_law_997 : decode cL_law 997 = .ok (.iaload, 1) := by decide +kernel
theorem dL_law_998 : decode cL_law 998 = .ok (.i2l, 1) := by decide +kernel
theorem dL_law_999 : decode cL_law 999 = .ok (.bipush 32, 2) := by decide +kernel
theorem dL_law_1001 : decode cL_law 1001 = .ok (.lshl, 1) := by decide +kernel
theorem dL_law_1002 : decode cL_law 1002 = .ok (.aload_n 0, 1) := by decide +kernel
theorem dL_law_1003 : decode cL_law 1003 = .ok (.iload_n 3, 1) := by decide +kernel
theorem dL_law_1004 : decode cL_law 1004 = .ok (.iconst 4, 1) := by decide +kernel
theorem dL_law_1005 : decode cL_law 1005 = .ok (.iadd, 1) := by decide +kernel
theorem dL_law_1006 : decode cL_law 1006 = .ok (.iaload, 1) := by decide +kernel
theorem dL_law_1007 : decode cL_law 1007 = .ok (.i2l, 1) := by decide +kernel
theorem dL_law_1008 : decode cL_law 1008 = .ok (.ldc2_w 23, 3) := by decide +kernel
theorem dL_law_1011 : decode cL_law 1011 = .ok (.land, 1) := by decide +kernel
theorem dL_law_1012 : decode cL_law 1012 = .ok (.lor, 1) := by decide +kernel
theorem dL_law_1013 : decode cL_law 1013 = .ok (.aload_n 0, 1) := by decide +kernel
theorem dL_law_1014 : decode cL_law 1014 = .ok (.iload_n 3, 1) := by decide +kernel
theorem dL_law_1015 : decode cL_law 1015 = .ok (.iconst 5, 1) := by decide +kernel
theorem dL_law_1016 : decode cL_law 1016 = .ok (.iadd, 1) := by decide +kernel
theorem dL_law_1017 : decode cL_law 1017 = .ok (.iaload, 1) := by decide +kernel
theorem dL_law_1018 : decode cL_law 1018 = .ok (.invokevirtual 104, 3) := by decide +kernel
theorem dL_law_1021 : decode cL_law 1021 = .ok (.aload_n 2, 1) := by decide +kernel
theorem dL_law_1022 : decode cL_law 1022 = .ok (.aload_n 0, 1) := by decide +kernel
theorem dL_law_1023 : decode cL_law 1023 = .ok (.iload_n 3, 1) := by decide +kernel
theorem dL_law_1024 : decode cL_law 1024 = .ok (.iconst 1, 1) := by decide +kernel
theorem dL_law_1025 : decode cL_law 1025 = .ok (.iadd, 1) := by decide +kernel
theorem dL_law_1026 : decode cL_law 1026 = .ok (.iaload, 1) := by decide +kernel
theorem dL_law_1027 : decode cL_law 1027 = .ok (.aload_n 0, 1) := by decide +kernel
theorem dL_law_1028 : decode cL_law 1028 = .ok (.iload_n 3, 1) := by decide +kernel
theorem dL_law_1029 : decode cL_law 1029 = .ok (.iconst 2, 1) := by decide +kernel
theorem dL_law_1030 : decode cL_law 1030 = .ok (.iadd, 1) := by decide +kernel
theorem dL_law_1031 : decode cL_law 1031 = .ok (.iaload, 1) := by decide +kernel
theorem dL_law_1032 : decode cL_law 1032 = .ok (.aload_n 0, 1) := by decide +kernel
theorem dL_law_1033 : decode cL_law 1033 = .ok (.iload_n 3, 1) := by decide +kernel
theorem dL_law_1034 : decode cL_law 1034 = .ok (.iconst 3, 1) := by decide +kernel
theorem dL_law_1035 : decode cL_law 1035 = .ok (.iadd, 1) := by decide +kernel
theorem dL_law_1036 : decode cL_law 1036 = .ok (.iaload, 1) := by decide +kernel
theorem dL_law_1037 : decode cL_law 1037 = .ok (.i2l, 1) := by decide +kernel
theorem dL_law_1038 : decode cL_law 1038 = .ok (.bipush 32, 2) := by decide +kernel
theorem dL_law_1040 : decode cL_law 1040 = .ok (.lshl, 1) := by decide +kernel
theorem dL_law_1041 : decode cL_law 1041 = .ok (.aload_n 0, 1) := by decide +kernel
theorem dL_law_1042 : decode cL_law 1042 = .ok (.iload_n 3, 1) := by decide +kernel
theorem dL_law_1043 : decode cL_law 1043 = .ok (.iconst 4, 1) := by decide +kernel
theorem dL_law_1044 : decode cL_law 1044 = .ok (.iadd, 1) := by decide +kernel
theorem dL_law_1045 : decode cL_law 1045 = .ok (.iaload, 1) := by decide +kernel
theorem dL_law_1046 : decode cL_law 1046 = .ok (.i2l, 1) := by decide +kernel
theorem dL_law_1047 : decode cL_law 1047 = .ok (.ldc2_w 23, 3) := by decide +kernel
theorem dL_law_1050 : decode cL_law 1050 = .ok (.land, 1) := by decide +kernel
theorem dL_law_1051 : decode cL_law 1051 = .ok (.lor, 1) := by decide +kernel
theorem dL_law_1052 : decode cL_law 1052 = .ok (.aload_n 0, 1) := by decide +kernel
theorem dL_law_1053 : decode cL_law 1053 = .ok (.iload_n 3, 1) := by decide +kernel
theorem dL_law_1054 : decode cL_law 1054 = .ok (.iconst 5, 1) := by decide +kernel
theorem dL_law_1055 : decode cL_law 1055 = .ok (.iadd, 1) := by decide +kernel
theorem dL_law_1056 : decode cL_law 1056 = .ok (.iaload, 1) := by decide +kernel
theorem dL_law_1057 : decode cL_law 1057 = .ok (.invokevirtual 108, 3) := by decide +kernel
theorem dL_law_1060 : decode cL_law 1060 = .ok (.lcmp, 1) := by decide +kernel
theorem dL_law_1061 : decode cL_law 1061 = .ok (.ifCond .eq 674, 3) := by decide +kernel
theorem dL_law_1066 : decode cL_law 1066 = .ok (.aload_n 1, 1) := by decide +kernel
theorem dL_law_1067 : decode cL_law 1067 = .ok (.aload_n 0, 1) := by decide +kernel
theorem dL_law_1068 : decode cL_law 1068 = .ok (.iload_n 3, 1) := by decide +kernel
theorem dL_law_1069 : decode cL_law 1069 = .ok (.iconst 1, 1) := by decide +kernel
theorem dL_law_1070 : decode cL_law 1070 = .ok (.iadd, 1) := by decide +kernel
theorem dL_law_1071 : decode cL_law 1071 = .ok (.iaload, 1) := by decide +kernel
theorem dL_law_1072 : decode cL_law 1072 = .ok (.aload_n 0, 1) := by decide +kernel
theorem dL_law_1073 : decode cL_law 1073 = .ok (.iload_n 3, 1) := by decide +kernel
theorem dL_law_1074 : decode cL_law 1074 = .ok (.iconst 2, 1) := by decide +kernel
theorem dL_law_1075 : decode cL_law 1075 = .ok (.iadd, 1) := by decide +kernel
theorem dL_law_1076 : decode cL_law 1076 = .ok (.iaload, 1) := by decide +kernel
theorem dL_law_1077 : decode cL_law 1077 = .ok (.aload_n 0, 1) := by decide +kernel
theorem dL_law_1078 : decode cL_law 1078 = .ok (.iload_n 3, 1) := by decide +kernel
theorem dL_law_1079 : decode cL_law 1079 = .ok (.iconst 3, 1) := by decide +kernel
theorem dL_law_1080 : decode cL_law 1080 = .ok (.iadd, 1) := by decide +kernel
theorem dL_law_1081 : decode cL_law 1081 = .ok (.iaload, 1) := by decide +kernel
theorem dL_law_1082 : decode cL_law 1082 = .ok (.aload_n 0, 1) := by decide +kernel
theorem dL_law_1083 : decode cL_law 1083 = .ok (.iload_n 3, 1) := by decide +kernel
theorem dL_law_1084 : decode cL_law 1084 = .ok (.iconst 4, 1) := by decide +kernel
theorem dL_law_1085 : decode cL_law 1085 = .ok (.iadd, 1) := by decide +kernel
theorem dL_law_1086 : decode cL_law 1086 = .ok (.iaload, 1) := by decide +kernel
theorem dL_law_1087 : decode cL_law 1087 = .ok (.invokevirtual 109, 3) := by decide +kernel
theorem dL_law_1090 : decode cL_law 1090 = .ok (.aload_n 2, 1) := by decide +kernel
theorem dL_law_1091 : decode cL_law 1091 = .ok (.aload_n 0, 1) := by decide +kernel
theorem dL_law_1092 : decode cL_law 1092 = .ok (.iload_n 3, 1) := by decide +kernel
theorem dL_law_1093 : decode cL_law 1093 = .ok (.iconst 1, 1) := by decide +kernel
theorem dL_law_1094 : decode cL_law 1094 = .ok (.iadd, 1) := by decide +kernel
theorem dL_law_1095 : decode cL_law 1095 = .ok (.iaload, 1) := by decide +kernel
theorem dL_law_1096 : decode cL_law 1096 = .ok (.aload_n 0, 1) := by decide +kernel
theorem dL_law_1097 : decode cL_law 1097 = .ok (.iload_n 3, 1) := by decide +kernel
theorem dL_law_1098 : decode cL_law 1098 = .ok (.iconst 2, 1) := by decide +kernel
theorem dL_law_1099 : decode cL_law 1099 = .ok (.iadd, 1) := by decide +kernel
theorem dL_law_1100 : decode cL_law 1100 = .ok (.iaload, 1) := by decide +kernel
theorem dL_law_1101 : decode cL_law 1101 = .ok (.aload_n 0, 1) := by decide +kernel
theorem dL_law_1102 : decode cL_law 1102 = .ok (.iload_n 3, 1) := by decide +kernel
theorem dL_law_1103 : decode cL_law 1103 = .ok (.iconst 3, 1) := by decide +kernel
theorem dL_law_1104 : decode cL_law 1104 = .ok (.iadd, 1) := by decide +kernel
theorem dL_law_1105 : decode cL_law 1105 = .ok (.iaload, 1) := by decide +kernel
theorem dL_law_1106 : decode cL_law 1106 = .ok (.aload_n 0, 1) := by decide +kernel
theorem dL_law_1107 : decode cL_law 1107 = .ok (.iload_n 3, 1) := by decide +kernel
theorem dL_law_1108 : decode cL_law 1108 = .ok (.iconst 4, 1) := by decide +kernel
theorem dL_law_1109 : decode cL_law 1109 = .ok (.iadd, 1) := by decide +kernel
theorem dL_law_1110 : decode cL_law 1110 = .ok (.iaload, 1) := by decide +kernel
theorem dL_law_1111 : decode cL_law 1111 = .ok (.invokevirtual 113, 3) := by decide +kernel
theorem dL_law_1114 : decode cL_law 1114 = .ok (.if_icmp .eq 621, 3) := by decide +kernel
theorem dL_law_1119 : decode cL_law 1119 = .ok (.aload_n 1, 1) := by decide +kernel
theorem dL_law_1120 : decode cL_law 1120 = .ok (.aload_n 0, 1) := by decide +kernel
theorem dL_law_1121 : decode cL_law 1121 = .ok (.iload_n 3, 1) := by decide +kernel
theorem dL_law_1122 : decode cL_law 1122 = .ok (.iconst 1, 1) := by decide +kernel
theorem dL_law_1123 : decode cL_law 1123 = .ok (.iadd, 1) := by decide +kernel
theorem dL_law_1124 : decode cL_law 1124 = .ok (.iaload, 1) := by decide +kernel
theorem dL_law_1125 : decode cL_law 1125 = .ok (.aload_n 0, 1) := by decide +kernel
theorem dL_law_1126 : decode cL_law 1126 = .ok (.iload_n 3, 1) := by decide +kernel
theorem dL_law_1127 : decode cL_law 1127 = .ok (.iconst 2, 1) := by decide +kernel
theorem dL_law_1128 : decode cL_law 1128 = .ok (.iadd, 1) := by decide +kernel
theorem dL_law_1129 : decode cL_law 1129 = .ok (.iaload, 1) := by decide +kernel
theorem dL_law_1130 : decode cL_law 1130 = .ok (.aload_n 0, 1) := by decide +kernel
theorem dL_law_1131 : decode cL_law 1131 = .ok (.iload_n 3, 1) := by decide +kernel
theorem dL_law_1132 : decode cL_law 1132 = .ok (.iconst 3, 1) := by decide +kernel
theorem dL_law_1133 : decode cL_law 1133 = .ok (.iadd, 1) := by decide +kernel
theorem dL_law_1134 : decode cL_law 1134 = .ok (.iaload, 1) := by decide +kernel
theorem dL_law_1135 : decode cL_law 1135 = .ok (.aload_n 0, 1) := by decide +kernel
theorem dL_law_1136 : decode cL_law 1136 = .ok (.iload_n 3, 1) := by decide +kernel
theorem dL_law_1137 : decode cL_law 1137 = .ok (.iconst 4, 1) := by decide +kernel
theorem dL_law_1138 : decode cL_law 1138 = .ok (.iadd, 1) := by decide +kernel
theorem dL_law_1139 : decode cL_law 1139 = .ok (.iaload, 1) := by decide +kernel
theorem dL_law_1140 : decode cL_law 1140 = .ok (.i2l, 1) := by decide +kernel
theorem dL_law_1141 : decode cL_law 1141 = .ok (.bipush 32, 2) := by decide +kernel
theorem dL_law_1143 : decode cL_law 1143 = .ok (.lshl, 1) := by decide +kernel
theorem dL_law_1144 : decode cL_law 1144 = .ok (.aload_n 0, 1) := by decide +kernel
theorem dL_law_1145 : decode cL_law 1145 = .ok (.iload_n 3, 1) := by decide +kernel
theorem dL_law_1146 : decode cL_law 1146 = .ok (.iconst 5, 1) := by decide +kernel
theorem dL_law_1147 : decode cL_law 1147 = .ok (.iadd, 1) := by decide +kernel
theorem dL_law_1148 : decode cL_law 1148 = .ok (.iaload, 1) := by decide +kernel
theorem dL_law_1149 : decode cL_law 1149 = .ok (.i2l, 1) := by decide +kernel
theorem dL_law_1150 : decode cL_law 1150 = .ok (.ldc2_w 23, 3) := by decide +kernel
theorem dL_law_1153 : decode cL_law 1153 = .ok (.land, 1) := by decide +kernel
theorem dL_law_1154 : decode cL_law 1154 = .ok (.lor, 1) := by decide +kernel
theorem dL_law_1155 : decode cL_law 1155 = .ok (.aload_n 0, 1) := by decide +kernel
theorem dL_law_1156 : decode cL_law 1156 = .ok (.iload_n 3, 1) := by decide +kernel
theorem dL_law_1157 : decode cL_law 1157 = .ok (.bipush 6, 2) := by decide +kernel
theorem dL_law_1159 : decode cL_law 1159 = .ok (.iadd, 1) := by decide +kernel
theorem dL_law_1160 : decode cL_law 1160 = .ok (.iaload, 1) := by decide +kernel
theorem dL_law_1161 : decode cL_law 1161 = .ok (.invokevirtual 114, 3) := by decide +kernel
theorem dL_law_1164 : decode cL_law 1164 = .ok (.aload_n 2, 1) := by decide +kernel
theorem dL_law_1165 : decode cL_law 1165 = .ok (.aload_n 0, 1) := by decide +kernel
theorem dL_law_1166 : decode cL_law 1166 = .ok (.iload_n 3, 1) := by decide +kernel
theorem dL_law_1167 : decode cL_law 1167 = .ok (.iconst 1, 1) := by decide +kernel
theorem dL_law_1168 : decode cL_law 1168 = .ok (.iadd, 1) := by decide +kernel
theorem dL_law_1169 : decode cL_law 1169 = .ok (.iaload, 1) := by decide +kernel
theorem dL_law_1170 : decode cL_law 1170 = .ok (.aload_n 0, 1) := by decide +kernel
theorem dL_law_1171 : decode cL_law 1171 = .ok (.iload_n 3, 1) := by decide +kernel
theorem dL_law_1172 : decode cL_law 1172 = .ok (.iconst 2, 1) := by decide +kernel
theorem dL_law_1173 : decode cL_law 1173 = .ok (.iadd, 1) := by decide +kernel
theorem dL_law_1174 : decode cL_law 1174 = .ok (.iaload, 1) := by decide +kernel
theorem dL_law_1175 : decode cL_law 1175 = .ok (.aload_n 0, 1) := by decide +kernel
theorem dL_law_1176 : decode cL_law 1176 = .ok (.iload_n 3, 1) := by decide +kernel
theorem dL_law_1177 : decode cL_law 1177 = .ok (.iconst 3, 1) := by decide +kernel
theorem dL_law_1178 : decode cL_law 1178 = .ok (.iadd, 1) := by decide +kernel
theorem dL_law_1179 : decode cL_law 1179 = .ok (.iaload, 1) := by decide +kernel
theorem dL_law_1180 : decode cL_law 1180 = .ok (.aload_n 0, 1) := by decide +kernel
theorem dL_law_1181 : decode cL_law 1181 = .ok (.iload_n 3, 1) := by decide +kernel
theorem dL_law_1182 : decode cL_law 1182 = .ok (.iconst 4, 1) := by decide +kernel
theorem dL_law_1183 : decode cL_law 1183 = .ok (.iadd, 1) := by decide +kernel
theorem dL_law_1184 : decode cL_law 1184 = .ok (.iaload, 1) := by decide +kernel
theorem dL_law_1185 : decode cL_law 1185 = .ok (.i2l, 1) := by decide +kernel
theorem dL_law_1186 : decode cL_law 1186 = .ok (.bipush 32, 2) := by decide +kernel
theorem dL_law_1188 : decode cL_law 1188 = .ok (.lshl, 1) := by decide +kernel
theorem dL_law_1189 : decode cL_law 1189 = .ok (.aload_n 0, 1) := by decide +kernel
theorem dL_law_1190 : decode cL_law 1190 = .ok (.iload_n 3, 1) := by decide +kernel
theorem dL_law_1191 : decode cL_law 1191 = .ok (.iconst 5, 1) := by decide +kernel
theorem dL_law_1192 : decode cL_law 1192 = .ok (.iadd, 1) := by decide +kernel
theorem dL_law_1193 : decode cL_law 1193 = .ok (.iaload, 1) := by decide +kernel
theorem dL_law_1194 : decode cL_law 1194 = .ok (.i2l, 1) := by decide +kernel
theorem dL_law_1195 : decode cL_law 1195 = .ok (.ldc2_w 23, 3) := by decide +kernel
theorem dL_law_1198 : decode cL_law 1198 = .ok (.land, 1) := by decide +kernel
theorem dL_law_1199 : decode cL_law 1199 = .ok (.lor, 1) := by decide +kernel
theorem dL_law_1200 : decode cL_law 1200 = .ok (.aload_n 0, 1) := by decide +kernel
theorem dL_law_1201 : decode cL_law 1201 = .ok (.iload_n 3, 1) := by decide +kernel
theorem dL_law_1202 : decode cL_law 1202 = .ok (.bipush 6, 2) := by decide +kernel
theorem dL_law_1204 : decode cL_law 1204 = .ok (.iadd, 1) := by decide +kernel
theorem dL_law_1205 : decode cL_law 1205 = .ok (.iaload, 1) := by decide +kernel
theorem dL_law_1206 : decode cL_law 1206 = .ok (.invokevirtual 118, 3) := by decide +kernel
theorem dL_law_1209 : decode cL_law 1209 = .ok (.if_icmp .eq 526, 3) := by decide +kernel
theorem dL_law_1214 : decode cL_law 1214 = .ok (.aload_n 1, 1) := by decide +kernel
theorem dL_law_1215 : decode cL_law 1215 = .ok (.aload_n 0, 1) := by decide +kernel
theorem dL_law_1216 : decode cL_law 1216 = .ok (.iload_n 3, 1) := by decide +kernel
theorem dL_law_1217 : decode cL_law 1217 = .ok (.iconst 1, 1) := by decide +kernel
theorem dL_law_1218 : decode cL_law 1218 = .ok (.iadd, 1) := by decide +kernel
theorem dL_law_1219 : decode cL_law 1219 = .ok (.iaload, 1) := by decide +kernel
theorem dL_law_1220 : decode cL_law 1220 = .ok (.aload_n 0, 1) := by decide +kernel
theorem dL_law_1221 : decode cL_law 1221 = .ok (.iload_n 3, 1) := by decide +kernel
theorem dL_law_1222 : decode cL_law 1222 = .ok (.iconst 2, 1) := by decide +kernel
theorem dL_law_1223 : decode cL_law 1223 = .ok (.iadd, 1) := by decide +kernel
theorem dL_law_1224 : decode cL_law 1224 = .ok (.iaload, 1) := by decide +kernel
theorem dL_law_1225 : decode cL_law 1225 = .ok (.invokevirtual 119, 3) := by decide +kernel
theorem dL_law_1228 : decode cL_law 1228 = .ok (.aload_n 2, 1) := by decide +kernel
theorem dL_law_1229 : decode cL_law 1229 = .ok (.aload_n 0, 1) := by decide +kernel
theorem dL_law_1230 : decode cL_law 1230 = .ok (.iload_n 3, 1) := by decide +kernel
theorem dL_law_1231 : decode cL_law 1231 = .ok (.iconst 1, 1) := by decide +kernel
theorem dL_law_1232 : decode cL_law 1232 = .ok (.iadd, 1) := by decide +kernel
theorem dL_law_1233 : decode cL_law 1233 = .ok (.iaload, 1) := by decide +kernel
theorem dL_law_1234 : decode cL_law 1234 = .ok (.aload_n 0, 1) := by decide +kernel
theorem dL_law_1235 : decode cL_law 1235 = .ok (.iload_n 3, 1) := by decide +kernel
theorem dL_law_1236 : decode cL_law 1236 = .ok (.iconst 2, 1) := by decide +kernel
theorem dL_law_1237 : decode cL_law 1237 = .ok (.iadd, 1) := by decide +kernel
theorem dL_law_1238 : decode cL_law 1238 = .ok (.iaload, 1) := by decide +kernel
theorem dL_law_1239 : decode cL_law 1239 = .ok (.invokevirtual 122, 3) := by decide +kernel
theorem dL_law_1242 : decode cL_law 1242 = .ok (.if_icmp .eq 493, 3) := by decide +kernel
theorem dL_law_1247 : decode cL_law 1247 = .ok (.aload_n 1, 1) := by decide +kernel
theorem dL_law_1248 : decode cL_law 1248 = .ok (.aload_n 0, 1) := by decide +kernel
theorem dL_law_1249 : decode cL_law 1249 = .ok (.iload_n 3, 1) := by decide +kernel
theorem dL_law_1250 : decode cL_law 1250 = .ok (.iconst 1, 1) := by decide +kernel
theorem dL_law_1251 : decode cL_law 1251 = .ok (.iadd, 1) := by decide +kernel
theorem dL_law_1252 : decode cL_law 1252 = .ok (.iaload, 1) := by decide +kernel
theorem dL_law_1253 : decode cL_law 1253 = .ok (.aload_n 0, 1) := by decide +kernel
theorem dL_law_1254 : decode cL_law 1254 = .ok (.iload_n 3, 1) := by decide +kernel
theorem dL_law_1255 : decode cL_law 1255 = .ok (.iconst 2, 1) := by decide +kernel
theorem dL_law_1256 : decode cL_law 1256 = .ok (.iadd, 1) := by decide +kernel
theorem dL_law_1257 : decode cL_law 1257 = .ok (.iaload, 1) := by decide +kernel
theorem dL_law_1258 : decode cL_law 1258 = .ok (.i2l, 1) := by decide +kernel
theorem dL_law_1259 : decode cL_law 1259 = .ok (.bipush 32, 2) := by decide +kernel
theorem dL_law_1261 : decode cL_law 1261 = .ok (.lshl, 1) := by decide +kernel
theorem dL_law_1262 : decode cL_law 1262 = .ok (.aload_n 0, 1) := by decide +kernel
theorem dL_law_1263 : decode cL_law 1263 = .ok (.iload_n 3, 1) := by decide +kernel
theorem dL_law_1264 : decode cL_law 1264 = .ok (.iconst 3, 1) := by decide +kernel
theorem dL_law_1265 : decode cL_law 1265 = .ok (.iadd, 1) := by decide +kernel
theorem dL_law_1266 : decode cL_law 1266 = .ok (.iaload, 1) := by decide +kernel
theorem dL_law_1267 : decode cL_law 1267 = .ok (.i2l, 1) := by decide +kernel
theorem dL_law_1268 : decode cL_law 1268 = .ok (.ldc2_w 23, 3) := by decide +kernel
theorem dL_law_1271 : decode cL_law 1271 = .ok (.land, 1) := by decide +kernel
theorem dL_law_1272 : decode cL_law 1272 = .ok (.lor, 1) := by decide +kernel
theorem dL_law_1273 : decode cL_law 1273 = .ok (.aload_n 0, 1) := by decide +kernel
theorem dL_law_1274 : decode cL_law 1274 = .ok (.iload_n 3, 1) := by decide +kernel
theorem dL_law_1275 : decode cL_law 1275 = .ok (.iconst 4, 1) := by decide +kernel
theorem dL_law_1276 : decode cL_law 1276 = .ok (.iadd, 1) := by decide +kernel
theorem dL_law_1277 : decode cL_law 1277 = .ok (.iaload, 1) := by decide +kernel
theorem dL_law_1278 : decode cL_law 1278 = .ok (.invokevirtual 123, 3) := by decide +kernel
theorem dL_law_1281 : decode cL_law 1281 = .ok (.aload_n 2, 1) := by decide +kernel
theorem dL_law_1282 : decode cL_law 1282 = .ok (.aload_n 0, 1) := by decide +kernel
theorem dL_law_1283 : decode cL_law 1283 = .ok (.iload_n 3, 1) := by decide +kernel
theorem dL_law_1284 : decode cL_law 1284 = .ok (.iconst 1, 1) := by decide +kernel
theorem dL_law_1285 : decode cL_law 1285 = .ok (.iadd, 1) := by decide +kernel
theorem dL_law_1286 : decode cL_law 1286 = .ok (.iaload, 1) := by decide +kernel
theorem dL_law_1287 : decode cL_law 1287 = .ok (.aload_n 0, 1) := by decide +kernel
theorem dL_law_1288 : decode cL_law 1288 = .ok (.iload_n 3, 1) := by decide +kernel
theorem dL_law_1289 : decode cL_law 1289 = .ok (.iconst 2, 1) := by decide +kernel
theorem dL_law_1290 : decode cL_law 1290 = .ok (.iadd, 1) := by decide +kernel
theorem dL_law_1291 : decode cL_law 1291 = .ok (.iaload, 1) := by decide +kernel
theorem dL_law_1292 : decode cL_law 1292 = .ok (.i2l, 1) := by decide +kernel
theorem dL_law_1293 : decode cL_law 1293 = .ok (.bipush 32, 2) := by decide +kernel
theorem dL_law_1295 : decode cL_law 1295 = .ok (.lshl, 1) := by decide +kernel
theorem dL_law_1296 : decode cL_law 1296 = .ok (.aload_n 0, 1) := by decide +kernel
theorem dL_law_1297 : decode cL_law 1297 = .ok (.iload_n 3, 1) := by decide +kernel
theorem dL_law_1298 : decode cL_law 1298 = .ok (.iconst 3, 1) := by decide +kernel
theorem dL_law_1299 : decode cL_law 1299 = .ok (.iadd, 1) := by decide +kernel
theorem dL_law_1300 : decode cL_law 1300 = .ok (.iaload, 1) := by decide +kernel
theorem dL_law_1301 : decode cL_law 1301 = .ok (.i2l, 1) := by decide +kernel
theorem dL_law_1302 : decode cL_law 1302 = .ok (.ldc2_w 23, 3) := by decide +kernel
theorem dL_law_1305 : decode cL_law 1305 = .ok (.land, 1) := by decide +kernel
theorem dL_law_1306 : decode cL_law 1306 = .ok (.lor, 1) := by decide +kernel
theorem dL_law_1307 : decode cL_law 1307 = .ok (.aload_n 0, 1) := by decide +kernel
theorem dL_law_1308 : decode cL_law 1308 = .ok (.iload_n 3, 1) := by decide +kernel
theorem dL_law_1309 : decode cL_law 1309 = .ok (.iconst 4, 1) := by decide +kernel
theorem dL_law_1310 : decode cL_law 1310 = .ok (.iadd, 1) := by decide +kernel
theorem dL_law_1311 : decode cL_law 1311 = .ok (.iaload, 1) := by decide +kernel
theorem dL_law_1312 : decode cL_law 1312 = .ok (.invokevirtual 127, 3) := by decide +kernel
theorem dL_law_1315 : decode cL_law 1315 = .ok (.lcmp, 1) := by decide +kernel
theorem dL_law_1316 : decode cL_law 1316 = .ok (.ifCond .eq 419, 3) := by decide +kernel
theorem dL_law_1321 : decode cL_law 1321 = .ok (.aload_n 1, 1) := by decide +kernel
theorem dL_law_1322 : decode cL_law 1322 = .ok (.aload_n 0, 1) := by decide +kernel
theorem dL_law_1323 : decode cL_law 1323 = .ok (.iload_n 3, 1) := by decide +kernel
theorem dL_law_1324 : decode cL_law 1324 = .ok (.iconst 1, 1) := by decide +kernel
theorem dL_law_1325 : decode cL_law 1325 = .ok (.iadd, 1) := by decide +kernel
theorem dL_law_1326 : decode cL_law 1326 = .ok (.iaload, 1) := by decide +kernel
theorem dL_law_1327 : decode cL_law 1327 = .ok (.aload_n 0, 1) := by decide +kernel
theorem dL_law_1328 : decode cL_law 1328 = .ok (.iload_n 3, 1) := by decide +kernel
theorem dL_law_1329 : decode cL_law 1329 = .ok (.iconst 2, 1) := by decide +kernel
theorem dL_law_1330 : decode cL_law 1330 = .ok (.iadd, 1) := by decide +kernel
theorem dL_law_1331 : decode cL_law 1331 = .ok (.iaload, 1) := by decide +kernel
theorem dL_law_1332 : decode cL_law 1332 = .ok (.i2l, 1) := by decide +kernel
theorem dL_law_1333 : decode cL_law 1333 = .ok (.bipush 32, 2) := by decide +kernel
theorem dL_law_1335 : decode cL_law 1335 = .ok (.lshl, 1) := by decide +kernel
theorem dL_law_1336 : decode cL_law 1336 = .ok (.aload_n 0, 1) := by decide +kernel
theorem dL_law_1337 : decode cL_law 1337 = .ok (.iload_n 3, 1) := by decide +kernel
theorem dL_law_1338 : decode cL_law 1338 = .ok (.iconst 3, 1) := by decide +kernel
theorem dL_law_1339 : decode cL_law 1339 = .ok (.iadd, 1) := by decide +kernel
theorem dL_law_1340 : decode cL_law 1340 = .ok (.iaload, 1) := by decide +kernel
theorem dL_law_1341 : decode cL_law 1341 = .ok (.i2l, 1) := by decide +kernel
theorem dL_law_1342 : decode cL_law 1342 = .ok (.ldc2_w 23, 3) := by decide +kernel
theorem dL_law_1345 : decode cL_law 1345 = .ok (.land, 1) := by decide +kernel
theorem dL_law_1346 : decode cL_law 1346 = .ok (.lor, 1) := by decide +kernel
end
section
theorem dL_law_1347 : decode cL_law 1347 = .ok (.aload_n 0, 1) := by decide +kernel
theorem dL_law_1348 : decode cL_law 1348 = .ok (.iload_n 3, 1) := by decide +kernel
theorem dL_law_1349 : decode cL_law 1349 = .ok (.iconst 4, 1) := by decide +kernel
theorem dL_law_1350 : decode cL_law 1350 = .ok (.iadd, 1) := by decide +kernel
theorem dL_law_1351 : decode cL_law 1351 = .ok (.iaload, 1) := by decide +kernel
theorem dL_law_1352 : decode cL_law 1352 = .ok (.invokevirtual 128, 3) := by decide +kernel
theorem dL_law_1355 : decode cL_law 1355 = .ok (.aload_n 2, 1) := by decide +kernel
theorem dL_law_1356 : decode cL_law 1356 = .ok (.aload_n 0, 1) := by decide +kernel
theorem dL_law_1357 : decode cL_law 1357 = .ok (.iload_n 3, 1) := by decide +kernel
theorem dL_law_1358 : decode cL_law 1358 = .ok (.iconst 1, 1) := by decide +kernel
theorem dL_law_1359 : decode cL_law 1359 = .ok (.iadd, 1) := by decide +kernel
theorem dL_law_1360 : decode cL_law 1360 = .ok (.iaload, 1) := by decide +kernel
theorem dL_law_1361 : decode cL_law 1361 = .ok (.aload_n 0, 1) := by decide +kernel
theorem dL_law_1362 : decode cL_law 1362 = .ok (.iload_n 3, 1) := by decide +kernel
theorem dL_law_1363 : decode cL_law 1363 = .ok (.iconst 2, 1) := by decide +kernel
theorem dL_law_1364 : decode cL_law 1364 = .ok (.iadd, 1) := by decide +kernel
theorem dL_law_1365 : decode cL_law 1365 = .ok (.iaload, 1) := by decide +kernel
theorem dL_law_1366 : decode cL_law 1366 = .ok (.i2l, 1) := by decide +kernel
theorem dL_law_1367 : decode cL_law 1367 = .ok (.bipush 32, 2) := by decide +kernel
theorem dL_law_1369 : decode cL_law 1369 = .ok (.lshl, 1) := by decide +kernel
theorem dL_law_1370 : decode cL_law 1370 = .ok (.aload_n 0, 1) := by decide +kernel
theorem dL_law_1371 : decode cL_law 1371 = .ok (.iload_n 3, 1) := by decide +kernel
theorem dL_law_1372 : decode cL_law 1372 = .ok (.iconst 3, 1) := by decide +kernel
theorem dL_law_1373 : decode cL_law 1373 = .ok (.iadd, 1) := by decide +kernel
theorem dL_law_1374 : decode cL_law 1374 = .ok (.iaload, 1) := by decide +kernel
theorem dL_law_1375 : decode cL_law 1375 = .ok (.i2l, 1) := by decide +kernel
theorem dL_law_1376 : decode cL_law 1376 = .ok (.ldc2_w 23, 3) := by decide +kernel
theorem dL_law_1379 : decode cL_law 1379 = .ok (.land, 1) := by decide +kernel
theorem dL_law_1380 : decode cL_law 1380 = .ok (.lor, 1) := by decide +kernel
theorem dL_law_1381 : decode cL_law 1381 = .ok (.aload_n 0, 1) := by decide +kernel
theorem dL_law_1382 : decode cL_law 1382 = .ok (.iload_n 3, 1) := by decide +kernel
theorem dL_law_1383 : decode cL_law 1383 = .ok (.iconst 4, 1) := by decide +kernel
theorem dL_law_1384 : decode cL_law 1384 = .ok (.iadd, 1) := by decide +kernel
theorem dL_law_1385 : decode cL_law 1385 = .ok (.iaload, 1) := by decide +kernel
theorem dL_law_1386 : decode cL_law 1386 = .ok (.invokevirtual 132, 3) := by decide +kernel
theorem dL_law_1389 : decode cL_law 1389 = .ok (.if_icmp .eq 346, 3) := by decide +kernel
theorem dL_law_1394 : decode cL_law 1394 = .ok (.aload_n 1, 1) := by decide +kernel
theorem dL_law_1395 : decode cL_law 1395 = .ok (.aload_n 0, 1) := by decide +kernel
theorem dL_law_1396 : decode cL_law 1396 = .ok (.iload_n 3, 1) := by decide +kernel
theorem dL_law_1397 : decode cL_law 1397 = .ok (.iconst 1, 1) := by decide +kernel
theorem dL_law_1398 : decode cL_law 1398 = .ok (.iadd, 1) := by decide +kernel
theorem dL_law_1399 : decode cL_law 1399 = .ok (.iaload, 1) := by decide +kernel
theorem dL_law_1400 : decode cL_law 1400 = .ok (.aload_n 0, 1) := by decide +kernel
theorem dL_law_1401 : decode cL_law 1401 = .ok (.iload_n 3, 1) := by decide +kernel
theorem dL_law_1402 : decode cL_law 1402 = .ok (.iconst 2, 1) := by decide +kernel
theorem dL_law_1403 : decode cL_law 1403 = .ok (.iadd, 1) := by decide +kernel
theorem dL_law_1404 : decode cL_law 1404 = .ok (.iaload, 1) := by decide +kernel
theorem dL_law_1405 : decode cL_law 1405 = .ok (.aload_n 0, 1) := by decide +kernel
theorem dL_law_1406 : decode cL_law 1406 = .ok (.iload_n 3, 1) := by decide +kernel
theorem dL_law_1407 : decode cL_law 1407 = .ok (.iconst 3, 1) := by decide +kernel
theorem dL_law_1408 : decode cL_law 1408 = .ok (.iadd, 1) := by decide +kernel
theorem dL_law_1409 : decode cL_law 1409 = .ok (.iaload, 1) := by decide +kernel
theorem dL_law_1410 : decode cL_law 1410 = .ok (.invokevirtual 133, 3) := by decide +kernel
theorem dL_law_1413 : decode cL_law 1413 = .ok (.aload_n 2, 1) := by decide +kernel
theorem dL_law_1414 : decode cL_law 1414 = .ok (.aload_n 0, 1) := by decide +kernel
theorem dL_law_1415 : decode cL_law 1415 = .ok (.iload_n 3, 1) := by decide +kernel
theorem dL_law_1416 : decode cL_law 1416 = .ok (.iconst 1, 1) := by decide +kernel
theorem dL_law_1417 : decode cL_law 1417 = .ok (.iadd, 1) := by decide +kernel
theorem dL_law_1418 : decode cL_law 1418 = .ok (.iaload, 1) := by decide +kernel
theorem dL_law_1419 : decode cL_law 1419 = .ok (.aload_n 0, 1) := by decide +kernel
theorem dL_law_1420 : decode cL_law 1420 = .ok (.iload_n 3, 1) := by decide +kernel
theorem dL_law_1421 : decode cL_law 1421 = .ok (.iconst 2, 1) := by decide +kernel
theorem dL_law_1422 : decode cL_law 1422 = .ok (.iadd, 1) := by decide +kernel
theorem dL_law_1423 : decode cL_law 1423 = .ok (.iaload, 1) := by decide +kernel
theorem dL_law_1424 : decode cL_law 1424 = .ok (.aload_n 0, 1) := by decide +kernel
theorem dL_law_1425 : decode cL_law 1425 = .ok (.iload_n 3, 1) := by decide +kernel
theorem dL_law_1426 : decode cL_law 1426 = .ok (.iconst 3, 1) := by decide +kernel
theorem dL_law_1427 : decode cL_law 1427 = .ok (.iadd, 1) := by decide +kernel
theorem dL_law_1428 : decode cL_law 1428 = .ok (.iaload, 1) := by decide +kernel
theorem dL_law_1429 : decode cL_law 1429 = .ok (.invokevirtual 136, 3) := by decide +kernel
theorem dL_law_1432 : decode cL_law 1432 = .ok (.if_icmp .eq 303, 3) := by decide +kernel
theorem dL_law_1437 : decode cL_law 1437 = .ok (.aload_n 1, 1) := by decide +kernel
theorem dL_law_1438 : decode cL_law 1438 = .ok (.aload_n 0, 1) := by decide +kernel
theorem dL_law_1439 : decode cL_law 1439 = .ok (.iload_n 3, 1) := by decide +kernel
theorem dL_law_1440 : decode cL_law 1440 = .ok (.iconst 1, 1) := by decide +kernel
theorem dL_law_1441 : decode cL_law 1441 = .ok (.iadd, 1) := by decide +kernel
theorem dL_law_1442 : decode cL_law 1442 = .ok (.iaload, 1) := by decide +kernel
theorem dL_law_1443 : decode cL_law 1443 = .ok (.aload_n 0, 1) := by decide +kernel
theorem dL_law_1444 : decode cL_law 1444 = .ok (.iload_n 3, 1) := by decide +kernel
theorem dL_law_1445 : decode cL_law 1445 = .ok (.iconst 2, 1) := by decide +kernel
theorem dL_law_1446 : decode cL_law 1446 = .ok (.iadd, 1) := by decide +kernel
theorem dL_law_1447 : decode cL_law 1447 = .ok (.iaload, 1) := by decide +kernel
theorem dL_law_1448 : decode cL_law 1448 = .ok (.invokevirtual 137, 3) := by decide +kernel
theorem dL_law_1451 : decode cL_law 1451 = .ok (.aload_n 2, 1) := by decide +kernel
theorem dL_law_1452 : decode cL_law 1452 = .ok (.aload_n 0, 1) := by decide +kernel
theorem dL_law_1453 : decode cL_law 1453 = .ok (.iload_n 3, 1) := by decide +kernel
theorem dL_law_1454 : decode cL_law 1454 = .ok (.iconst 1, 1) := by decide +kernel
theorem dL_law_1455 : decode cL_law 1455 = .ok (.iadd, 1) := by decide +kernel
theorem dL_law_1456 : decode cL_law 1456 = .ok (.iaload, 1) := by decide +kernel
theorem dL_law_1457 : decode cL_law 1457 = .ok (.aload_n 0, 1) := by decide +kernel
theorem dL_law_1458 : decode cL_law 1458 = .ok (.iload_n 3, 1) := by decide +kernel
theorem dL_law_1459 : decode cL_law 1459 = .ok (.iconst 2, 1) := by decide +kernel
theorem dL_law_1460 : decode cL_law 1460 = .ok (.iadd, 1) := by decide +kernel
theorem dL_law_1461 : decode cL_law 1461 = .ok (.iaload, 1) := by decide +kernel
theorem dL_law_1462 : decode cL_law 1462 = .ok (.invokevirtual 140, 3) := by decide +kernel
theorem dL_law_1465 : decode cL_law 1465 = .ok (.if_icmp .eq 270, 3) := by decide +kernel
theorem dL_law_1470 : decode cL_law 1470 = .ok (.aload_n 1, 1) := by decide +kernel
theorem dL_law_1471 : decode cL_law 1471 = .ok (.aload_n 0, 1) := by decide +kernel
theorem dL_law_1472 : decode cL_law 1472 = .ok (.iload_n 3, 1) := by decide +kernel
theorem dL_law_1473 : decode cL_law 1473 = .ok (.iconst 1, 1) := by decide +kernel
theorem dL_law_1474 : decode cL_law 1474 = .ok (.iadd, 1) := by decide +kernel
theorem dL_law_1475 : decode cL_law 1475 = .ok (.iaload, 1) := by decide +kernel
theorem dL_law_1476 : decode cL_law 1476 = .ok (.aload_n 0, 1) := by decide +kernel
theorem dL_law_1477 : decode cL_law 1477 = .ok (.iload_n 3, 1) := by decide +kernel
theorem dL_law_1478 : decode cL_law 1478 = .ok (.iconst 2, 1) := by decide +kernel
theorem dL_law_1479 : decode cL_law 1479 = .ok (.iadd, 1) := by decide +kernel
theorem dL_law_1480 : decode cL_law 1480 = .ok (.iaload, 1) := by decide +kernel
theorem dL_law_1481 : decode cL_law 1481 = .ok (.aload_n 0, 1) := by decide +kernel
theorem dL_law_1482 : decode cL_law 1482 = .ok (.iload_n 3, 1) := by decide +kernel
theorem dL_law_1483 : decode cL_law 1483 = .ok (.iconst 3, 1) := by decide +kernel
theorem dL_law_1484 : decode cL_law 1484 = .ok (.iadd, 1) := by decide +kernel
theorem dL_law_1485 : decode cL_law 1485 = .ok (.iaload, 1) := by decide +kernel
theorem dL_law_1486 : decode cL_law 1486 = .ok (.ifCond .eq 7, 3) := by decide +kernel
theorem dL_law_1489 : decode cL_law 1489 = .ok (.iconst 1, 1) := by decide +kernel
theorem dL_law_1490 : decode cL_law 1490 = .ok (.goto 4, 3) := by decide +kernel
theorem dL_law_1493 : decode cL_law 1493 = .ok (.iconst 0, 1) := by decide +kernel
theorem dL_law_1494 : decode cL_law 1494 = .ok (.invokevirtual 141, 3) := by decide +kernel
theorem dL_law_1497 : decode cL_law 1497 = .ok (.aload_n 2, 1) := by decide +kernel
theorem dL_law_1498 : decode cL_law 1498 = .ok (.aload_n 0, 1) := by decide +kernel
theorem dL_law_1499 : decode cL_law 1499 = .ok (.iload_n 3, 1) := by decide +kernel
theorem dL_law_1500 : decode cL_law 1500 = .ok (.iconst 1, 1) := by decide +kernel
theorem dL_law_1501 : decode cL_law 1501 = .ok (.iadd, 1) := by decide +kernel
theorem dL_law_1502 : decode cL_law 1502 = .ok (.iaload, 1) := by decide +kernel
theorem dL_law_1503 : decode cL_law 1503 = .ok (.aload_n 0, 1) := by decide +kernel
theorem dL_law_1504 : decode cL_law 1504 = .ok (.iload_n 3, 1) := by decide +kernel
theorem dL_law_1505 : decode cL_law 1505 = .ok (.iconst 2, 1) := by decide +kernel
theorem dL_law_1506 : decode cL_law 1506 = .ok (.iadd, 1) := by decide +kernel
theorem dL_law_1507 : decode cL_law 1507 = .ok (.iaload, 1) := by decide +kernel
theorem dL_law_1508 : decode cL_law 1508 = .ok (.aload_n 0, 1) := by decide +kernel
theorem dL_law_1509 : decode cL_law 1509 = .ok (.iload_n 3, 1) := by decide +kernel
theorem dL_law_1510 : decode cL_law 1510 = .ok (.iconst 3, 1) := by decide +kernel
theorem dL_law_1511 : decode cL_law 1511 = .ok (.iadd, 1) := by decide +kernel
theorem dL_law_1512 : decode cL_law 1512 = .ok (.iaload, 1) := by decide +kernel
theorem dL_law_1513 : decode cL_law 1513 = .ok (.ifCond .eq 7, 3) := by decide +kernel
theorem dL_law_1516 : decode cL_law 1516 = .ok (.iconst 1, 1) := by decide +kernel
theorem dL_law_1517 : decode cL_law 1517 = .ok (.goto 4, 3) := by decide +kernel
theorem dL_law_1520 : decode cL_law 1520 = .ok (.iconst 0, 1) := by decide +kernel
theorem dL_law_1521 : decode cL_law 1521 = .ok (.invokevirtual 145, 3) := by decide +kernel
theorem dL_law_1524 : decode cL_law 1524 = .ok (.if_icmp .eq 211, 3) := by decide +kernel
theorem dL_law_1529 : decode cL_law 1529 = .ok (.aload_n 1, 1) := by decide +kernel
theorem dL_law_1530 : decode cL_law 1530 = .ok (.aload_n 0, 1) := by decide +kernel
theorem dL_law_1531 : decode cL_law 1531 = .ok (.iload_n 3, 1) := by decide +kernel
theorem dL_law_1532 : decode cL_law 1532 = .ok (.iconst 1, 1) := by decide +kernel
theorem dL_law_1533 : decode cL_law 1533 = .ok (.iadd, 1) := by decide +kernel
theorem dL_law_1534 : decode cL_law 1534 = .ok (.iaload, 1) := by decide +kernel
theorem dL_law_1535 : decode cL_law 1535 = .ok (.aload_n 0, 1) := by decide +kernel
theorem dL_law_1536 : decode cL_law 1536 = .ok (.iload_n 3, 1) := by decide +kernel
theorem dL_law_1537 : decode cL_law 1537 = .ok (.iconst 2, 1) := by decide +kernel
theorem dL_law_1538 : decode cL_law 1538 = .ok (.iadd, 1) := by decide +kernel
theorem dL_law_1539 : decode cL_law 1539 = .ok (.iaload, 1) := by decide +kernel
theorem dL_law_1540 : decode cL_law 1540 = .ok (.invokevirtual 146, 3) := by decide +kernel
theorem dL_law_1543 : decode cL_law 1543 = .ok (.aload_n 2, 1) := by decide +kernel
theorem dL_law_1544 : decode cL_law 1544 = .ok (.aload_n 0, 1) := by decide +kernel
theorem dL_law_1545 : decode cL_law 1545 = .ok (.iload_n 3, 1) := by decide +kernel
theorem dL_law_1546 : decode cL_law 1546 = .ok (.iconst 1, 1) := by decide +kernel
theorem dL_law_1547 : decode cL_law 1547 = .ok (.iadd, 1) := by decide +kernel
theorem dL_law_1548 : decode cL_law 1548 = .ok (.iaload, 1) := by decide +kernel
theorem dL_law_1549 : decode cL_law 1549 = .ok (.aload_n 0, 1) := by decide +kernel
theorem dL_law_1550 : decode cL_law 1550 = .ok (.iload_n 3, 1) := by decide +kernel
theorem dL_law_1551 : decode cL_law 1551 = .ok (.iconst 2, 1) := by decide +kernel
theorem dL_law_1552 : decode cL_law 1552 = .ok (.iadd, 1) := by decide +kernel
theorem dL_law_1553 : decode cL_law 1553 = .ok (.iaload, 1) := by decide +kernel
theorem dL_law_1554 : decode cL_law 1554 = .ok (.invokevirtual 149, 3) := by decide +kernel
theorem dL_law_1557 : decode cL_law 1557 = .ok (.lcmp, 1) := by decide +kernel
theorem dL_law_1558 : decode cL_law 1558 = .ok (.ifCond .eq 177, 3) := by decide +kernel
theorem dL_law_1563 : decode cL_law 1563 = .ok (.aload_n 1, 1) := by decide +kernel
theorem dL_law_1564 : decode cL_law 1564 = .ok (.aload_n 0, 1) := by decide +kernel
theorem dL_law_1565 : decode cL_law 1565 = .ok (.iload_n 3, 1) := by decide +kernel
theorem dL_law_1566 : decode cL_law 1566 = .ok (.iconst 1, 1) := by decide +kernel
theorem dL_law_1567 : decode cL_law 1567 = .ok (.iadd, 1) := by decide +kernel
theorem dL_law_1568 : decode cL_law 1568 = .ok (.iaload, 1) := by decide +kernel
theorem dL_law_1569 : decode cL_law 1569 = .ok (.invokevirtual 150, 3) := by decide +kernel
theorem dL_law_1572 : decode cL_law 1572 = .ok (.aload_n 2, 1) := by decide +kernel
theorem dL_law_1573 : decode cL_law 1573 = .ok (.aload_n 0, 1) := by decide +kernel
theorem dL_law_1574 : decode cL_law 1574 = .ok (.iload_n 3, 1) := by decide +kernel
theorem dL_law_1575 : decode cL_law 1575 = .ok (.iconst 1, 1) := by decide +kernel
theorem dL_law_1576 : decode cL_law 1576 = .ok (.iadd, 1) := by decide +kernel
theorem dL_law_1577 : decode cL_law 1577 = .ok (.iaload, 1) := by decide +kernel
theorem dL_law_1578 : decode cL_law 1578 = .ok (.invokevirtual 153, 3) := by decide +kernel
theorem dL_law_1581 : decode cL_law 1581 = .ok (.if_icmp .eq 154, 3) := by decide +kernel
theorem dL_law_1586 : decode cL_law 1586 = .ok (.aload_n 1, 1) := by decide +kernel
theorem dL_law_1587 : decode cL_law 1587 = .ok (.aload_n 0, 1) := by decide +kernel
theorem dL_law_1588 : decode cL_law 1588 = .ok (.iload_n 3, 1) := by decide +kernel
theorem dL_law_1589 : decode cL_law 1589 = .ok (.iconst 1, 1) := by decide +kernel
theorem dL_law_1590 : decode cL_law 1590 = .ok (.iadd, 1) := by decide +kernel
theorem dL_law_1591 : decode cL_law 1591 = .ok (.iaload, 1) := by decide +kernel
theorem dL_law_1592 : decode cL_law 1592 = .ok (.invokevirtual 154, 3) := by decide +kernel
theorem dL_law_1595 : decode cL_law 1595 = .ok (.aload_n 2, 1) := by decide +kernel
theorem dL_law_1596 : decode cL_law 1596 = .ok (.aload_n 0, 1) := by decide +kernel
theorem dL_law_1597 : decode cL_law 1597 = .ok (.iload_n 3, 1) := by decide +kernel
theorem dL_law_1598 : decode cL_law 1598 = .ok (.iconst 1, 1) := by decide +kernel
theorem dL_law_1599 : decode cL_law 1599 = .ok (.iadd, 1) := by decide +kernel
theorem dL_law_1600 : decode cL_law 1600 = .ok (.iaload, 1) := by decide +kernel
theorem dL_law_1601 : decode cL_law 1601 = .ok (.invokevirtual 158, 3) := by decide +kernel
theorem dL_law_1604 : decode cL_law 1604 = .ok (.lcmp, 1) := by decide +kernel
theorem dL_law_1605 : decode cL_law 1605 = .ok (.ifCond .eq 130, 3) := by decide +kernel
theorem dL_law_1610 : decode cL_law 1610 = .ok (.aload_n 1, 1) := by decide +kernel
theorem dL_law_1611 : decode cL_law 1611 = .ok (.aload_n 0, 1) := by decide +kernel
theorem dL_law_1612 : decode cL_law 1612 = .ok (.iload_n 3, 1) := by decide +kernel
theorem dL_law_1613 : decode cL_law 1613 = .ok (.iconst 1, 1) := by decide +kernel
theorem dL_law_1614 : decode cL_law 1614 = .ok (.iadd, 1) := by decide +kernel
theorem dL_law_1615 : decode cL_law 1615 = .ok (.iaload, 1) := by decide +kernel
theorem dL_law_1616 : decode cL_law 1616 = .ok (.invokevirtual 159, 3) := by decide +kernel
theorem dL_law_1619 : decode cL_law 1619 = .ok (.aload_n 2, 1) := by decide +kernel
theorem dL_law_1620 : decode cL_law 1620 = .ok (.aload_n 0, 1) := by decide +kernel
theorem dL_law_1621 : decode cL_law 1621 = .ok (.iload_n 3, 1) := by decide +kernel
theorem dL_law_1622 : decode cL_law 1622 = .ok (.iconst 1, 1) := by decide +kernel
theorem dL_law_1623 : decode cL_law 1623 = .ok (.iadd, 1) := by decide +kernel
theorem dL_law_1624 : decode cL_law 1624 = .ok (.iaload, 1) := by decide +kernel
theorem dL_law_1625 : decode cL_law 1625 = .ok (.invokevirtual 162, 3) := by decide +kernel
theorem dL_law_1628 : decode cL_law 1628 = .ok (.if_icmp .eq 107, 3) := by decide +kernel
theorem dL_law_1633 : decode cL_law 1633 = .ok (.aload_n 1, 1) := by decide +kernel
theorem dL_law_1634 : decode cL_law 1634 = .ok (.aload_n 0, 1) := by decide +kernel
theorem dL_law_1635 : decode cL_law 1635 = .ok (.iload_n 3, 1) := by decide +kernel
theorem dL_law_1636 : decode cL_law 1636 = .ok (.iconst 1, 1) := by decide +kernel
theorem dL_law_1637 : decode cL_law 1637 = .ok (.iadd, 1) := by decide +kernel
theorem dL_law_1638 : decode cL_law 1638 = .ok (.iaload, 1) := by decide +kernel
theorem dL_law_1639 : decode cL_law 1639 = .ok (.invokevirtual 163, 3) := by decide +kernel
theorem dL_law_1642 : decode cL_law 1642 = .ok (.aload_n 2, 1) := by decide +kernel
theorem dL_law_1643 : decode cL_law 1643 = .ok (.aload_n 0, 1) := by decide +kernel
theorem dL_law_1644 : decode cL_law 1644 = .ok (.iload_n 3, 1) := by decide +kernel
theorem dL_law_1645 : decode cL_law 1645 = .ok (.iconst 1, 1) := by decide +kernel
theorem dL_law_1646 : decode cL_law 1646 = .ok (.iadd, 1) := by decide +kernel
theorem dL_law_1647 : decode cL_law 1647 = .ok (.iaload, 1) := by decide +kernel
theorem dL_law_1648 : decode cL_law 1648 = .ok (.invokevirtual 166, 3) := by decide +kernel
theorem dL_law_1651 : decode cL_law 1651 = .ok (.if_icmp .eq 84, 3) := by decide +kernel
theorem dL_law_1656 : decode cL_law 1656 = .ok (.aload_n 1, 1) := by decide +kernel
theorem dL_law_1657 : decode cL_law 1657 = .ok (.aload_n 0, 1) := by decide +kernel
theorem dL_law_1658 : decode cL_law 1658 = .ok (.iload_n 3, 1) := by decide +kernel
theorem dL_law_1659 : decode cL_law 1659 = .ok (.iconst 1, 1) := by decide +kernel
theorem dL_law_1660 : decode cL_law 1660 = .ok (.iadd, 1) := by decide +kernel
theorem dL_law_1661 : decode cL_law 1661 = .ok (.iaload, 1) := by decide +kernel
theorem dL_law_1662 : decode cL_law 1662 = .ok (.invokevirtual 167, 3) := by decide +kernel
theorem dL_law_1665 : decode cL_law 1665 = .ok (.aload_n 2, 1) := by decide +kernel
theorem dL_law_1666 : decode cL_law 1666 = .ok (.aload_n 0, 1) := by decide +kernel
theorem dL_law_1667 : decode cL_law 1667 = .ok (.iload_n 3, 1) := by decide +kernel
theorem dL_law_1668 : decode cL_law 1668 = .ok (.iconst 1, 1) := by decide +kernel
theorem dL_law_1669 : decode cL_law 1669 = .ok (.iadd, 1) := by decide +kernel
theorem dL_law_1670 : decode cL_law 1670 = .ok (.iaload, 1) := by decide +kernel
theorem dL_law_1671 : decode cL_law 1671 = .ok (.invokevirtual 170, 3) := by decide +kernel
theorem dL_law_1674 : decode cL_law 1674 = .ok (.if_icmp .eq 61, 3) := by decide +kernel
theorem dL_law_1679 : decode cL_law 1679 = .ok (.aload_n 1, 1) := by decide +kernel
theorem dL_law_1680 : decode cL_law 1680 = .ok (.aload_n 0, 1) := by decide +kernel
theorem dL_law_1681 : decode cL_law 1681 = .ok (.iload_n 3, 1) := by decide +kernel
theorem dL_law_1682 : decode cL_law 1682 = .ok (.iconst 1, 1) := by decide +kernel
theorem dL_law_1683 : decode cL_law 1683 = .ok (.iadd, 1) := by decide +kernel
theorem dL_law_1684 : decode cL_law 1684 = .ok (.iaload, 1) := by decide +kernel
theorem dL_law_1685 : decode cL_law 1685 = .ok (.aload_n 0, 1) := by decide +kernel
theorem dL_law_1686 : decode cL_law 1686 = .ok (.iload_n 3, 1) := by decide +kernel
theorem dL_law_1687 : decode cL_law 1687 = .ok (.iconst 2, 1) := by decide +kernel
theorem dL_law_1688 : decode cL_law 1688 = .ok (.iadd, 1) := by decide +kernel
theorem dL_law_1689 : decode cL_law 1689 = .ok (.iaload, 1) := by decide +kernel
theorem dL_law_1690 : decode cL_law 1690 = .ok (.invokevirtual 171, 3) := by decide +kernel
theorem dL_law_1693 : decode cL_law 1693 = .ok (.aload_n 2, 1) := by decide +kernel
theorem dL_law_1694 : decode cL_law 1694 = .ok (.aload_n 0, 1) := by decide +kernel
theorem dL_law_1695 : decode cL_law 1695 = .ok (.iload_n 3, 1) := by decide +kernel
theorem dL_law_1696 : decode cL_law 1696 = .ok (.iconst 1, 1) := by decide +kernel
theorem dL_law_1697 : decode cL_law 1697 = .ok (.iadd, 1) := by decide +kernel
theorem dL_law_1698 : decode cL_law 1698 = .ok (.iaload, 1) := by decide +kernel
theorem dL_law_1699 : decode cL_law 1699 = .ok (.aload_n 0, 1) := by decide +kernel
theorem dL_law_1700 : decode cL_law 1700 = .ok (.iload_n 3, 1) := by decide +kernel
theorem dL_law_1701 : decode cL_law 1701 = .ok (.iconst 2, 1) := by decide +kernel
theorem dL_law_1702 : decode cL_law 1702 = .ok (.iadd, 1) := by decide +kernel
theorem dL_law_1703 : decode cL_law 1703 = .ok (.iaload, 1) := by decide +kernel
theorem dL_law_1704 : decode cL_law 1704 = .ok (.invokevirtual 174, 3) := by decide +kernel
theorem dL_law_1707 : decode cL_law 1707 = .ok (.if_icmp .eq 28, 3) := by decide +kernel
theorem dL_law_1712 : decode cL_law 1712 = .ok (.aload_n 1, 1) := by decide +kernel
theorem dL_law_1713 : decode cL_law 1713 = .ok (.aload_n 0, 1) := by decide +kernel
theorem dL_law_1714 : decode cL_law 1714 = .ok (.iload_n 3, 1) := by decide +kernel
theorem dL_law_1715 : decode cL_law 1715 = .ok (.iconst 1, 1) := by decide +kernel
theorem dL_law_1716 : decode cL_law 1716 = .ok (.iadd, 1) := by decide +kernel
theorem dL_law_1717 : decode cL_law 1717 = .ok (.iaload, 1) := by decide +kernel
theorem dL_law_1718 : decode cL_law 1718 = .ok (.invokevirtual 175, 3) := by decide +kernel
theorem dL_law_1721 : decode cL_law 1721 = .ok (.aload_n 2, 1) := by decide +kernel
theorem dL_law_1722 : decode cL_law 1722 = .ok (.aload_n 0, 1) := by decide +kernel
theorem dL_law_1723 : decode cL_law 1723 = .ok (.iload_n 3, 1) := by decide +kernel
theorem dL_law_1724 : decode cL_law 1724 = .ok (.iconst 1, 1) := by decide +kernel
theorem dL_law_1725 : decode cL_law 1725 = .ok (.iadd, 1) := by decide +kernel
theorem dL_law_1726 : decode cL_law 1726 = .ok (.iaload, 1) := by decide +kernel
theorem dL_law_1727 : decode cL_law 1727 = .ok (.invokevirtual 178, 3) := by decide +kernel
theorem dL_law_1730 : decode cL_law 1730 = .ok (.if_icmp .eq 5, 3) := by decide +kernel
theorem dL_law_1735 : decode cL_law 1735 = .ok (.iinc 3 7, 3) := by decide +kernel
theorem dL_law_1738 : decode cL_law 1738 = .ok (.goto (-1720), 3) := by decide +kernel
theorem dL_law_1741 : decode cL_law 1741 = .ok (.iconst 1, 1) := by decide +kernel
theorem dL_law_1742 : decode cL_law 1742 = .ok (.ireturn, 1) := by decide +kernel
end
section
/-! my own words: a contract's start (read only: PcR; own cells: PcW), calls, frames -/
def PcR (D : va_G) (av : List Value) (sz : Nat) (ws : va_W) (tys : List (ClassId × FieldType)) : Array Value → State → Prop := va_Pc av (fun U => U.heap.size = sz ∧ va_P D vwCl ws U.heap ∧ va_K D vwCl tys U)
def PcW (D : va_G) (av : List Value) (sz : Nat) (ws : va_W) (tys : List (ClassId × FieldType)) : Array Value → State → Prop := va_Pc av (fun U => U.heap.size = sz ∧ va_P D vwCl ws U.heap ∧ va_K D vwCl tys U ∧ va_D (fun _ => True) ws)
theorem PcR_b {D : va_G} {av : List Value} {sz : Nat} {ws : va_W} {tys : List (ClassId × FieldType)} : FrameBlind (PcR D av sz ws tys) := fun a U g mk q => by
  obtain ⟨q0, q1, qP, qK⟩ := q
  exact ⟨q0, q1, qP, va_K.moved (u := U) (U := U.calling g mk a) (Vm.Alike.refl U.vm) qK⟩
theorem PcW_b {D : va_G} {av : List Value} {sz : Nat} {ws : va_W} {tys : List (ClassId × FieldType)} : FrameBlind (PcW D av sz ws tys) := fun a U g mk q => by
  obtain ⟨q0, q1, qP, qK, qD⟩ := q
  exact ⟨q0, q1, qP, va_K.moved (u := U) (U := U.calling g mk a) (Vm.Alike.refl U.vm) qK, qD⟩
theorem PcR_S {D : va_G} {s : State} {H : Heap} {av : List Value} {ws : va_W} {tys : List (ClassId × FieldType)} (hP : va_P D vwCl ws H) (hK : va_K D vwCl tys s) : PreS s H (PcR D av H.size ws tys) av := ⟨PcR_b, fun U hU hW => ⟨rfl, by rw [hU], by rw [hU]; exact hP, va_K.moved hW.alike hK⟩⟩
theorem PcW_S {D : va_G} {s : State} {H : Heap} {A : Nat → Prop} {av : List Value} {ws : va_W} {tys : List (ClassId × FieldType)} (hP : va_P D vwCl ws H) (hK : va_K D vwCl tys s) (hD : va_D A ws) : PreS s H (PcW D av H.size ws tys) av := ⟨PcW_b, fun U hU hW => ⟨rfl, by rw [hU], by rw [hU]; exact hP, va_K.moved hW.alike hK, hD.weaken (fun _ _ _ _ => trivial)⟩⟩
theorem PcR_V {D : va_G} {s : State} {H : Heap} {C : String} {T : u_T} {N ci q0 b : Nat} {fs As : List Value} {ws : va_W} {tys : List (ClassId × FieldType)} (hP : va_P D vwCl ws H) (hK : va_K D vwCl tys s) (he : ws[q0]? = some (b, .inr (ci, fs))) (hc : vwCl[ci]? = some (C, T, N)) : PreV s H C b (PcR D (.ref b :: As) H.size ws tys) As := ⟨PcR_b, va_recv hK hP hc he, fun U hU hW => ⟨rfl, by rw [hU], by rw [hU]; exact hP, va_K.moved hW.alike hK⟩⟩
theorem PcW_V {D : va_G} {s : State} {H : Heap} {A : Nat → Prop} {C : String} {T : u_T} {N ci q0 b : Nat} {fs As : List Value} {ws : va_W} {tys : List (ClassId × FieldType)} (hP : va_P D vwCl ws H) (hK : va_K D vwCl tys s) (hD : va_D A ws) (he : ws[q0]? = some (b, .inr (ci, fs))) (hc : vwCl[ci]? = some (C, T, N)) : PreV s H C b (PcW D (.ref b :: As) H.size ws tys) As := ⟨PcW_b, va_recv hK hP hc he, fun U hU hW => ⟨rfl, by rw [hU], by rw [hU]; exact hP, va_K.moved hW.alike hK, hD.weaken (fun _ _ _ _ => trivial)⟩⟩
theorem va_A0 {sz q : Nat} (h : va_A [] sz q) : sz ≤ q := by
  rcases h with ⟨k, e, h⟩ | h
  · simp at h
  · exact h
theorem va_keep {D : va_G} {cl : List vw_C} {ws : va_W} {H H1 : Heap} (hP : va_P D cl ws H) (hk : ∀ q : Nat, q < H.size → ¬ va_A [] H.size q → H1[q]? = H[q]?) : va_P D cl ws H1 := hP.kept (fun k q h => hk q.1 (hP k q h).lt (fun z => Nat.not_le.mpr (hP k q h).lt (va_A0 z)))
theorem va_free0 {A0 : Nat → Prop} {H0 H : Heap} {locs : List Loc} (hS : va_S A0 H0 H locs) (hA : ∀ q, H0.size ≤ q → A0 q) : ∀ q, va_A [] H.size q → A0 q := fun q h => hA q (Nat.le_trans hS.1 (va_A0 h))
theorem va_P_nil {D : va_G} {cl : List vw_C} {H : Heap} : va_P D cl [] H := fun k q h => by simp at h
theorem va_D_nil {A : Nat → Prop} : va_D A [] := ⟨fun i j p q h => by simp at h, fun k q h => by simp at h⟩
def fM (a : Nat → Nat) (tp : Int32) (sd pa pb : Int64) (dr : Int32) : List Value := [.int 0, .ref (a 1), .int tp, .ref (a 3), .ref (a 4), .ref (a 5), .ref (a 6), .ref (a 7), .ref (a 8), .ref (a 9), .ref (a 10), .ref (a 11), .long sd, .long pa, .long pb, .int dr, .ref (a 16), .int 0, .int 0, .ref (a 19), .int 0, .int 0, .int 0, .int 0, .int 0, .int 0, .int 0, .int 0, .ref (a 28), .ref (a 29), .int 0, .int 0, .int 0, .int (-1), .int (-1), .int 0, .int 0, .int 0, .ref (a 38), .int 0, .ref (a 40), .ref (a 41), .int 0, .int 0, .int 0, .ref (a 45), .int 0]
theorem ix17 (k w : Nat) : (17 : Int32) * nI k + nI w = nI (17 * k + w) := by
  rw [show (17 : Int32) = nI 17 from rfl, pk_mul, nI_add]
theorem isIn04 {t : Int32} (h : ¬ (if (0 : Int64) ≤ t.toInt64 ∧ t.toInt64 ≤ 3 then (1 : Int32) else 0) = 0) : ∃ k : Nat, k < 4 ∧ t = nI k := by
  by_cases hc : (0 : Int64) ≤ t.toInt64 ∧ t.toInt64 ≤ 3
  · have h1 : (0 : Int32) ≤ t := by
      have := hc.1
      rw [Int64.le_iff_toInt_le] at this
      rw [Int32.le_iff_toInt_le]
      simpa using this
    have h2 : t ≤ 3 := by
      have := hc.2
      rw [Int64.le_iff_toInt_le] at this
      rw [Int32.le_iff_toInt_le]
      simpa using this
    obtain ⟨j, hj, e⟩ := nI_of2 (x := t) (M := 3) (n := 3) (by decide) (by rw [Int32.not_lt]; exact h1) h2
    exact ⟨j, by omega, e⟩
  · rw [if_neg hc] at h
    exact absurd rfl h
theorem isT4 {t : Int32} (h : ¬ (if (0 : Int32) ≤ t ∧ t < 4 then (1 : Int32) else 0) = 0) : vp_in t 4 := by
  by_cases hc : (0 : Int32) ≤ t ∧ t < 4
  · rw [vp_in_iff]
    obtain ⟨h1, h2⟩ := hc
    rw [Int32.le_iff_toInt_le] at h1
    rw [Int32.lt_iff_toInt_lt] at h2
    have e0 : (0 : Int32).toInt = 0 := by decide
    have e4 : (4 : Int32).toInt = 4 := by decide
    rw [e0] at h1
    rw [e4] at h2
    exact ⟨h1, h2⟩
  · rw [if_neg hc] at h
    exact absurd rfl h
theorem ifT {c : Prop} [Decidable c] (h : ¬ (if c then (1 : Int32) else 0) = 0) : c := by
  by_cases hc : c
  · exact hc
  · rw [if_neg hc] at h
    exact absurd rfl h
theorem ifF {c : Prop} [Decidable c] (h : (if c then (1 : Int32) else 0) = 0) : ¬ c := fun hc => by
  rw [if_pos hc] at h
  revert h
  decide
theorem w64_le {x y : Int32} : x.toInt64 ≤ y.toInt64 ↔ x ≤ y := by
  rw [Int64.le_iff_toInt_le, Int32.le_iff_toInt_le, Int32.toInt_toInt64, Int32.toInt_toInt64]
theorem isIn00 {t : Int32} (h : ¬ (if (0 : Int64) ≤ t.toInt64 ∧ t.toInt64 ≤ 0 then (1 : Int32) else 0) = 0) : t = 0 := by
  obtain ⟨h1, h2⟩ := ifT h
  rw [show (0 : Int64) = (0 : Int32).toInt64 from by decide, w64_le] at h1 h2
  exact Int32.le_antisymm h2 h1
theorem isIn04c {t : Int32} : ((0 : Int64) ≤ t.toInt64 ∧ t.toInt64 ≤ 3) ↔ ((0 : Int32) ≤ t ∧ t < 4) := by
  rw [show (0 : Int64) = (0 : Int32).toInt64 from by decide, show (3 : Int64) = (3 : Int32).toInt64 from by decide, w64_le, w64_le]
  rw [Int32.le_iff_toInt_le, Int32.le_iff_toInt_le, Int32.lt_iff_toInt_lt]
  have e0 : (0 : Int32).toInt = 0 := by decide
  have e3 : (3 : Int32).toInt = 3 := by decide
  have e4 : (4 : Int32).toInt = 4 := by decide
  rw [e0, e3, e4]
  omega
theorem isIn04a {t : Int32} (h : ¬ (if (0 : Int64) ≤ t.toInt64 ∧ t.toInt64 ≤ 3 then (1 : Int32) else 0) = 0) : (0 : Int32) ≤ t ∧ t < 4 := isIn04c.mp (ifT h)
theorem isIn04b {t : Int32} (h : (if (0 : Int64) ≤ t.toInt64 ∧ t.toInt64 ≤ 3 then (1 : Int32) else 0) = 0) : ¬ ((0 : Int32) ≤ t ∧ t < 4) := fun hc => ifF h (isIn04c.mpr hc)
theorem isInNo (t : Int32) : (if (0 : Int64) ≤ t.toInt64 ∧ t.toInt64 ≤ -1 then (1 : Int32) else 0) = 0 := by
  rw [if_neg]
  intro h
  have h1 := Int64.le_trans h.1 h.2
  revert h1
  decide
theorem sw_ne {x : Int32} {n : Int} (h : ¬ x = Int32.ofInt n) (h1 : -2 ^ 31 ≤ n) (h2 : n < 2 ^ 31) : x.toInt ≠ n := fun e => h (by rw [← e, Int32.ofInt_toInt])
theorem sw3 {x : Int32} (h0 : ¬ x = 0) (h1 : ¬ x = 1) (h2 : ¬ x = 2) : x.toInt < 0 ∨ 2 < x.toInt := by
  have a0 := sw_ne (n := 0) h0 (by decide) (by decide)
  have a1 := sw_ne (n := 1) h1 (by decide) (by decide)
  have a2 := sw_ne (n := 2) h2 (by decide) (by decide)
  omega
theorem sw6 {x : Int32} (h0 : ¬ x = 0) (h1 : ¬ x = 1) (h2 : ¬ x = 2) (h3 : ¬ x = 3) (h4 : ¬ x = 4) (h5 : ¬ x = 5) : x.toInt < 0 ∨ 5 < x.toInt := by
  have a0 := sw_ne (n := 0) h0 (by decide) (by decide)
  have a1 := sw_ne (n := 1) h1 (by decide) (by decide)
  have a2 := sw_ne (n := 2) h2 (by decide) (by decide)
  have a3 := sw_ne (n := 3) h3 (by decide) (by decide)
  have a4 := sw_ne (n := 4) h4 (by decide) (by decide)
  have a5 := sw_ne (n := 5) h5 (by decide) (by decide)
  omega
def ranF (x : Int32) : Int64 := if x = 1 ∨ x = 2 then -1 else if x = 0 ∨ x = 3 ∨ x = 4 ∨ x = 5 then 0 else -1000000000000000
theorem ranF_out {x : Int32} (h0 : ¬ x = 0) (h1 : ¬ x = 1) (h2 : ¬ x = 2) (h3 : ¬ x = 3) (h4 : ¬ x = 4) (h5 : ¬ x = 5) : ranF x = -1000000000000000 := by
  unfold ranF
  rw [if_neg (by simp [h1, h2]), if_neg (by simp [h0, h3, h4, h5])]
theorem upd0 {k : Nat} : upd (fun _ => (0 : Int32)) k 0 = fun _ => 0 := by
  funext i
  unfold upd
  split <;> rfl
theorem ix2048 (k w : Nat) : (2048 : Int32) * nI k + nI w = nI (2048 * k + w) := by
  rw [show (2048 : Int32) = nI 2048 from rfl, pk_mul, nI_add]
theorem mx1 {n : Nat} (h : 1 ≤ n) (h2 : n < 2 ^ 31) : (if (1 : Int32) < nI n then nI n else 1) = nI n := by
  by_cases hc : n = 1
  · subst hc
    decide
  · rw [if_pos (show (1 : Int32) < nI n from nI_lt (a := 1) (by omega) h2)]
theorem mn2048 {n : Nat} (h : n < 2048) : (if nI n < (2048 : Int32) then nI n else 2048) = nI n := by
  rw [if_pos (show nI n < (2048 : Int32) from nI_lt (b := 2048) h (by decide))]
theorem sp4 (n : Nat) (h : n ≤ 400) : nI n * 4 / 100 = nI (n * 4 / 100) := by
  rw [show (4 : Int32) = nI 4 from rfl, pk_mul, show (100 : Int32) = nI 100 from rfl, pk_div (by omega) (by decide) (by decide)]
theorem spL4 (n : Nat) (h : n ≤ 400) : lN n * 4 / 100 = lN (n * 4 / 100) := by
  rw [show (4 : Int64) = lN 4 from rfl, lN_mul, show (100 : Int64) = lN 100 from rfl, pk_lDiv (by omega) (by decide) (by decide)]
theorem inI {t a c : Int32} {n : Nat} (ha : 0 ≤ a.toInt) (hc : c.toInt = n) (h1 : a ≤ t) (h2 : t ≤ c) : ∃ j : Nat, j ≤ n ∧ t = nI j ∧ a.toInt ≤ j := by
  have h0 : ¬ t < 0 := by
    rw [Int32.lt_iff_toInt_lt]
    rw [Int32.le_iff_toInt_le] at h1
    have e0 : (0 : Int32).toInt = 0 := by decide
    omega
  obtain ⟨j, hj, e⟩ := nI_of2 (x := t) (M := c) (n := n) hc h0 h2
  refine ⟨j, hj, e, ?_⟩
  rw [e, Int32.le_iff_toInt_le, nI_toInt (by have := c.toInt_lt; omega)] at h1
  exact h1
def okS (b s g : Int32) : Prop := 8 ≤ b ∧ b ≤ 64 ∧ 25 ≤ s ∧ s ≤ 400 ∧ 0 ≤ g ∧ g ≤ 200

noncomputable def mkF (t b s g : Int32) : Int32 := if (0 ≤ t ∧ t < 4) ∧ 8 ≤ b ∧ b ≤ 64 ∧ 25 ≤ s ∧ s ≤ 400 ∧ 0 ≤ g ∧ g ≤ 200 then 1 else -2
theorem isInc {t a c : Int32} : (a.toInt64 ≤ t.toInt64 ∧ t.toInt64 ≤ c.toInt64) ↔ (a ≤ t ∧ t ≤ c) := by rw [w64_le, w64_le]
theorem isIn8 {t : Int32} : ((8 : Int64) ≤ t.toInt64 ∧ t.toInt64 ≤ 64) ↔ ((8 : Int32) ≤ t ∧ t ≤ 64) := isInc (a := 8) (c := 64)
theorem isIn25 {t : Int32} : ((25 : Int64) ≤ t.toInt64 ∧ t.toInt64 ≤ 400) ↔ ((25 : Int32) ≤ t ∧ t ≤ 400) := isInc (a := 25) (c := 400)
theorem isIn200 {t : Int32} : ((0 : Int64) ≤ t.toInt64 ∧ t.toInt64 ≤ 200) ↔ ((0 : Int32) ≤ t ∧ t ≤ 200) := isInc (a := 0) (c := 200)
theorem updL_s (f : Nat → Int64) (i : Nat) (v : Int64) : vp_updL f i v i = v := pk_uLs
theorem updL_n (f : Nat → Int64) (k a b : Nat) (v : Int64) (h : b ≠ a) : vp_updL f (17 * k + a) v (17 * k + b) = f (17 * k + b) := pk_uLn (by omega)
end
section
def own_c_isIn : List Cond := []
def wp_c_isIn : List Cond := .code yX11_isIn cX11_isIn 6 (some .boolean) :: (own_c_isIn ++ ([] : List Cond))
set_option maxRecDepth 20000 in
theorem inown_c_isIn : ∀ w ∈ own_c_isIn, w ∈ lw_tbl := mem_places [] (by decide +kernel)
set_option maxRecDepth 20000 in
theorem in_c_isIn : ∀ w ∈ wp_c_isIn, w ∈ lw_tbl := List.forall_mem_cons.mpr ⟨List.mem_of_getElem? (i := 1373) (by decide +kernel), List.forall_mem_append.mpr ⟨inown_c_isIn, fun _ h => absurd h List.not_mem_nil⟩⟩
set_option maxRecDepth 20000 in
theorem good_c_isIn : wp_c_isIn.all goodWord = true := by decide +kernel
set_option maxHeartbeats 4000000 in
set_option maxRecDepth 100000 in
theorem c_isIn (l : Launch) (D : va_G) (sz : Nat) (v0 : Int64) (v1 : Int64) (v2 : Int64)  : Met l yX11_isIn wp_c_isIn ({ frames := 0, cells := 0, slots := 0, locals := 0 }) (PcR D [.long v0, .long v1, .long v2] sz [] []) (va_Qi (fun (r : Int32) (_ : Unit) => r = if v1 ≤ v0 ∧ v0 ≤ v2 then 1 else 0) (fun (_ : Unit) _ => True) (va_A [] sz)) 0 0 (va_A [] sz) := by
  refine Met.ofW (cc := cX11_isIn) (maxL := 6) (ret := (some .boolean)) (by decide) rfl ?_
  intro p e s m args below meth c s₁ B hml hv
  obtain ⟨rfl, hsz, hP, hK⟩ := hv
  have hx := B.exec
  have hb := B.bytes
  have hr := B.returns
  have hts := atoms_spec (ws := wp_c_isIn) B.pre
  have hown : s.vm.findClass RX11 = some m.cls := findClass_of_methodNamed B.named
  have hlocks := B.notSynchronized
  subst hsz
  generalize hAe : va_A [] s.heap.size = A at ⊢
  have hA : ∀ q : Nat, s.heap.size ≤ q → A q := fun q h => by rw [← hAe]; exact Or.inr h
  have hS : va_S A s.heap s.heap [] := va_S.rf
  have hP : va_P D vwCl [] s.heap := hP
  have hl := lv_entry ([.long v0, .long v1, .long v2]) (n := 6) (Nat.le_of_ble_eq_true rfl)
  rw [lg_entry_eq]
  generalize (lg_sl ([.long v0, .long v1, .long v2]) ++ List.replicate (6 - (lg_sl ([.long v0, .long v1, .long v2])).length) Slot.unset).toArray = ls at hl ⊢
  have hl : lv_has ls 6 [(0, .long v0), (2, .long v1), (4, .long v2)] := hl
  refine lv_lload_n hx hb dX11_isIn_0 rfl (lv_at hl 0 rfl) ?_
  refine lv_lload_n hx hb dX11_isIn_1 rfl (lv_at hl 1 rfl) ?_
  refine W.lcmp hx hb dX11_isIn_2 ?_
  refine lv_if_lt (tgt := 17) hx hb dX11_isIn_3 (by decide) (fun hc1 => ?_) (fun hc1 => ?_)
  ·
    refine lv_iconst (v := 0) hx hb dX11_isIn_17 (by decide) ?_
    exact W.zret (v := 0) hx hb hr rfl (fun t ht hW => ⟨⟨0, (), rfl, by rw [if_neg (fun h => absurd h.1 (Int64.not_le.mpr ((lg_cmp_lt _ _).mp hc1)))], trivial⟩, hS.F ht⟩) hS.2.2 dX11_isIn_18
  ·
    refine lv_lload_n hx hb dX11_isIn_6 rfl (lv_at hl 0 rfl) ?_
    refine lv_lload hx hb dX11_isIn_7 (lv_at hl 2 rfl) ?_
    refine W.lcmp hx hb dX11_isIn_9 ?_
    refine lv_if_gt (tgt := 17) hx hb dX11_isIn_10 (by decide) (fun hc2 => ?_) (fun hc2 => ?_)
    ·
      refine lv_iconst (v := 0) hx hb dX11_isIn_17 (by decide) ?_
      exact W.zret (v := 0) hx hb hr rfl (fun t ht hW => ⟨⟨0, (), rfl, by rw [if_neg (fun h => absurd h.2 (Int64.not_le.mpr ((lg_cmp_gt _ _).mp hc2)))], trivial⟩, hS.F ht⟩) hS.2.2 dX11_isIn_18
    ·
      refine lv_iconst (v := 1) hx hb dX11_isIn_13 (by decide) ?_
      refine lv_goto (tgt := 18) hx hb dX11_isIn_14 (by decide) ?_
      exact W.zret (v := 1) hx hb hr rfl (fun t ht hW => ⟨⟨1, (), rfl, by rw [if_pos ⟨Int64.not_lt.mp (mt (lg_cmp_lt _ _).mpr hc1), Int64.not_lt.mp (mt (lg_cmp_gt _ _).mpr hc2)⟩], trivial⟩, hS.F ht⟩) hS.2.2 dX11_isIn_18

def own_c_flag0 : List Cond := []
def wp_c_flag0 : List Cond := .code yX11_flag cX11_flag 1 (some .int) :: (own_c_flag0 ++ ([] : List Cond))
set_option maxRecDepth 20000 in
theorem inown_c_flag0 : ∀ w ∈ own_c_flag0, w ∈ lw_tbl := mem_places [] (by decide +kernel)
set_option maxRecDepth 20000 in
theorem in_c_flag0 : ∀ w ∈ wp_c_flag0, w ∈ lw_tbl := List.forall_mem_cons.mpr ⟨List.mem_of_getElem? (i := 1504) (by decide +kernel), List.forall_mem_append.mpr ⟨inown_c_flag0, fun _ h => absurd h List.not_mem_nil⟩⟩
set_option maxRecDepth 20000 in
theorem good_c_flag0 : wp_c_flag0.all goodWord = true := by decide +kernel
set_option maxHeartbeats 4000000 in
set_option maxRecDepth 100000 in
theorem c_flag0 (l : Launch) (D : va_G) (sz : Nat)   : Met l yX11_flag wp_c_flag0 ({ frames := 0, cells := 0, slots := 0, locals := 0 }) (PcR D [.int 0] sz [] []) (va_Qi (fun (r : Int32) (_ : Unit) => r = 0) (fun (_ : Unit) _ => True) (va_A [] sz)) 0 0 (va_A [] sz) := by
  refine Met.ofW (cc := cX11_flag) (maxL := 1) (ret := (some .int)) (by decide) rfl ?_
  intro p e s m args below meth c s₁ B hml hv
  obtain ⟨rfl, hsz, hP, hK⟩ := hv
  have hx := B.exec
  have hb := B.bytes
  have hr := B.returns
  have hts := atoms_spec (ws := wp_c_flag0) B.pre
  have hown : s.vm.findClass RX11 = some m.cls := findClass_of_methodNamed B.named
  have hlocks := B.notSynchronized
  subst hsz
  generalize hAe : va_A [] s.heap.size = A at ⊢
  have hA : ∀ q : Nat, s.heap.size ≤ q → A q := fun q h => by rw [← hAe]; exact Or.inr h
  have hS : va_S A s.heap s.heap [] := va_S.rf
  have hP : va_P D vwCl [] s.heap := hP
  have hl := lv_entry ([.int 0]) (n := 1) (Nat.le_of_ble_eq_true rfl)
  rw [lg_entry_eq]
  generalize (lg_sl ([.int 0]) ++ List.replicate (1 - (lg_sl ([.int 0])).length) Slot.unset).toArray = ls at hl ⊢
  have hl : lv_has ls 1 [(0, .int 0)] := hl
  refine lv_iload_n hx hb dX11_flag_0 rfl (lv_at hl 0 rfl) ?_
  refine lv_if_eq (tgt := 8) hx hb dX11_flag_1 (by decide) (fun hc => ?_) (fun hc => absurd (by decide) hc)
  refine lv_iconst (v := 0) hx hb dX11_flag_8 (by decide) ?_
  exact W.iret (v := 0) hx hb hr (fun t ht hW => ⟨⟨0, (), rfl, rfl, trivial⟩, hS.F ht⟩) hS.2.2 dX11_flag_9

def own_c_of : List Cond := [.fieldLink RX11 13 "ClashFreeModel" "n" "[J"]
def wp_c_of : List Cond := .code yX11_of cX11_of 3 (some .long) :: (own_c_of ++ (wsX110 ++ ([] : List Cond)))
set_option maxRecDepth 20000 in
theorem inown_c_of : ∀ w ∈ own_c_of, w ∈ lw_tbl := mem_places [1219] (by decide +kernel)
set_option maxRecDepth 20000 in
theorem in_c_of : ∀ w ∈ wp_c_of, w ∈ lw_tbl := List.forall_mem_cons.mpr ⟨List.mem_of_getElem? (i := 1403) (by decide +kernel), List.forall_mem_append.mpr ⟨inown_c_of, List.forall_mem_append.mpr ⟨lwb_X11, fun _ h => absurd h List.not_mem_nil⟩⟩⟩
set_option maxRecDepth 20000 in
theorem good_c_of : wp_c_of.all goodWord = true := by decide +kernel
set_option maxHeartbeats 4000000 in
set_option maxRecDepth 100000 in
theorem c_of (l : Launch) (D : va_G) (sz : Nat) (h0 : Nat) (a : Nat → Nat) (cN : ClassId) (tp : Int32) (sd : Int64) (pa : Int64) (pb : Int64) (dr : Int32) (k : Nat) (w : Nat) (f : Nat → Int64) (hk : k < 5) (hw : w < 17) : Met l yX11_of wp_c_of ({ frames := 0, cells := 0, slots := 0, locals := 0 }) (PcR D [.ref h0, .int (nI k), .int (nI w)] sz [(h0, .inr (11, fM a tp sd pa pb dr)), (a 3, .inl (cN, 85, .inr (.inl f)))] [(cN, .long)]) (va_Ql (fun (r : Int64) (_ : Unit) => r = f (17 * k + w)) (fun (_ : Unit) _ => True) (va_A [] sz)) 0 0 (va_A [] sz) := by
  refine Met.ofW (cc := cX11_of) (maxL := 3) (ret := (some .long)) (by decide) rfl ?_
  intro p e s m args below meth c s₁ B hml hv
  obtain ⟨rfl, hsz, hP, hK⟩ := hv
  have hx := B.exec
  have hb := B.bytes
  have hr := B.returns
  have hts := atoms_spec (ws := wp_c_of) B.pre
  have hin_X11 : ∀ w ∈ wsX110, w ∈ wp_c_of := fun _ h => (List.mem_cons_of_mem _ (List.mem_append_right _ (List.mem_append_left _ h)))
  have hown : s.vm.findClass RX11 = some m.cls := findClass_of_methodNamed B.named
  have hlocks := B.notSynchronized
  subst hsz
  generalize hAe : va_A [] s.heap.size = A at ⊢
  have hA : ∀ q : Nat, s.heap.size ≤ q → A q := fun q h => by rw [← hAe]; exact Or.inr h
  have hS : va_S A s.heap s.heap [] := va_S.rf
  have hP : va_P D vwCl [(h0, .inr (11, fM a tp sd pa pb dr)), (a 3, .inl (cN, 85, .inr (.inl f)))] s.heap := hP
  have hl := lv_entry ([.ref h0, .int (nI k), .int (nI w)]) (n := 3) (Nat.le_of_ble_eq_true rfl)
  rw [lg_entry_eq]
  generalize (lg_sl ([.ref h0, .int (nI k), .int (nI w)]) ++ List.replicate (3 - (lg_sl ([.ref h0, .int (nI k), .int (nI w)])).length) Slot.unset).toArray = ls at hl ⊢
  have hl : lv_has ls 3 [(0, .ref h0), (1, .int (nI k)), (2, .int (nI w))] := hl
  refine lv_aload_n hx hb dX11_of_0 rfl (lv_at hl 0 rfl) ?_
  refine va_get (D := D) (ci := 11) (v := .ref (a 3)) (C := RX11) (T := TX11) (N := 47) hx hb hts hin_X11 hown hK hP 0 rfl rfl 3 (by decide) (hts (.fieldLink RX11 13 "ClashFreeModel" "n" "[J") (List.mem_of_getElem? (i := 1) rfl)) (fun _ h9 => h9) rfl dX11_of_1 ?_
  refine lv_bipush (v := 17) hx hb dX11_of_4 (by decide) ?_
  refine lv_iload_n hx hb dX11_of_6 rfl (lv_at hl 1 rfl) ?_
  refine lv_imul hx hb dX11_of_7 ?_
  refine lv_iload_n hx hb dX11_of_8 rfl (lv_at hl 2 rfl) ?_
  refine lv_iadd hx hb dX11_of_9 ?_
  refine lv_topi (fun v1 ev1 => ?_)
  obtain rfl : v1 = nI (17 * k + w) := ev1.trans (ix17 k w)
  refine va_lald hx hb hK hP 1 0 rfl rfl (vp_in_nI (by omega) (by decide)) dX11_of_10 ?_
  refine lv_topl (fun v2 ev2 => ?_)
  obtain rfl : v2 = f (17 * k + w) := ev2.trans (by rw [nI_clamp (by omega)])
  exact W.lret (v := f (17 * k + w)) hx hb hr (fun t ht hW => ⟨⟨f (17 * k + w), (), rfl, rfl, trivial⟩, hS.F ht⟩) hS.2.2 dX11_of_11

def own_c_isThere : List Cond := [.constantLong RX11 87 (3), .methodLink RX11 83 yX11_isIn, .static yX11_isIn, .initialized RX11, .methodLink RX11 89 yX11_of, .instanceMethod yX11_of, .selects RX11 yX11_of yX11_of]
def wp_c_isThere : List Cond := .code yX11_isThere cX11_isThere 2 (some .boolean) :: (own_c_isThere ++ (wp_c_isIn ++ (wp_c_of ++ ([] : List Cond))))
set_option maxRecDepth 20000 in
theorem inown_c_isThere : ∀ w ∈ own_c_isThere, w ∈ lw_tbl := mem_places [1378, 1371, 1372, 115, 1400, 1402, 41] (by decide +kernel)
set_option maxRecDepth 20000 in
theorem in_c_isThere : ∀ w ∈ wp_c_isThere, w ∈ lw_tbl := List.forall_mem_cons.mpr ⟨List.mem_of_getElem? (i := 1469) (by decide +kernel), List.forall_mem_append.mpr ⟨inown_c_isThere, List.forall_mem_append.mpr ⟨in_c_isIn, List.forall_mem_append.mpr ⟨in_c_of, fun _ h => absurd h List.not_mem_nil⟩⟩⟩⟩
set_option maxRecDepth 20000 in
theorem good_c_isThere : wp_c_isThere.all goodWord = true := by decide +kernel
set_option maxRecDepth 20000 in
theorem g_c_isThere_c_isIn_83 : GoodIn wp_c_isThere (va_wsS RX11 83 yX11_isIn wp_c_isIn) := goodIn_sub (List.forall_mem_append.mpr ⟨List.forall_mem_cons.mpr ⟨(List.mem_of_getElem? (i := 2) rfl), List.forall_mem_cons.mpr ⟨(List.mem_of_getElem? (i := 3) rfl), List.forall_mem_cons.mpr ⟨(List.mem_of_getElem? (i := 4) rfl), fun _ h => absurd h List.not_mem_nil⟩⟩⟩, (fun _ h => (List.mem_cons_of_mem _ (List.mem_append_right _ (List.mem_append_left _ h))))⟩) (by decide +kernel)
set_option maxRecDepth 20000 in
theorem g_c_isThere_c_of_89 : GoodIn wp_c_isThere (wsV RX11 89 RX11 yX11_of wp_c_of) := goodIn_sub (List.forall_mem_append.mpr ⟨List.forall_mem_cons.mpr ⟨(List.mem_of_getElem? (i := 5) rfl), List.forall_mem_cons.mpr ⟨(List.mem_of_getElem? (i := 6) rfl), List.forall_mem_cons.mpr ⟨(List.mem_of_getElem? (i := 7) rfl), List.forall_mem_cons.mpr ⟨(List.mem_of_getElem? (i := 4) rfl), fun _ h => absurd h List.not_mem_nil⟩⟩⟩⟩, (fun _ h => (List.mem_cons_of_mem _ (List.mem_append_right _ (List.mem_append_right _ (List.mem_append_left _ h)))))⟩) (by decide +kernel)
set_option maxHeartbeats 4000000 in
set_option maxRecDepth 100000 in
theorem c_isThere (l : Launch) (D : va_G) (sz : Nat) (h0 : Nat) (a : Nat → Nat) (cN : ClassId) (tp : Int32) (sd : Int64) (pa : Int64) (pb : Int64) (dr : Int32) (z1 : Int32)  : Met l yX11_isThere wp_c_isThere ({ frames := 1, cells := 0, slots := 0, locals := 25 }) (PcR D [.ref h0, .int z1] sz [(h0, .inr (11, fM a tp sd pa pb dr)), (a 3, .inl (cN, 85, .inr (.inl (fun _ => 0))))] [(cN, .long)]) (va_Qi (fun (r : Int32) (_ : Unit) => r = 0) (fun (_ : Unit) _ => True) (va_A [] sz)) 0 0 (va_A [] sz) := by
  refine Met.ofW (cc := cX11_isThere) (maxL := 2) (ret := (some .boolean)) (by decide) rfl ?_
  intro p e s m args below meth c s₁ B hml hv
  obtain ⟨rfl, hsz, hP, hK⟩ := hv
  have hx := B.exec
  have hb := B.bytes
  have hr := B.returns
  have hts := atoms_spec (ws := wp_c_isThere) B.pre
  have hown : s.vm.findClass RX11 = some m.cls := findClass_of_methodNamed B.named
  have hlocks := B.notSynchronized
  subst hsz
  generalize hAe : va_A [] s.heap.size = A at ⊢
  have hA : ∀ q : Nat, s.heap.size ≤ q → A q := fun q h => by rw [← hAe]; exact Or.inr h
  have hS : va_S A s.heap s.heap [] := va_S.rf
  have hP : va_P D vwCl [(h0, .inr (11, fM a tp sd pa pb dr)), (a 3, .inl (cN, 85, .inr (.inl (fun _ => 0))))] s.heap := hP
  have hl := lv_entry ([.ref h0, .int z1]) (n := 2) (Nat.le_of_ble_eq_true rfl)
  rw [lg_entry_eq]
  generalize (lg_sl ([.ref h0, .int z1]) ++ List.replicate (2 - (lg_sl ([.ref h0, .int z1])).length) Slot.unset).toArray = ls at hl ⊢
  have hl : lv_has ls 2 [(0, .ref h0), (1, .int z1)] := hl
  refine lv_iload_n hx hb dX11_isThere_0 rfl (lv_at hl 1 rfl) ?_
  refine lv_i2l hx hb dX11_isThere_1 rfl ?_
  refine lv_lconst (v := 0) hx hb dX11_isThere_2 (by decide) ?_
  refine lv_ldc2 (v := 3) hx hb hown (hts (.constantLong RX11 87 (3)) (List.mem_of_getElem? (i := 1) rfl)) dX11_isThere_3 ?_
  have hPc := hP.sub (ws' := []) [] rfl
  have hKc := hK.sub (tys' := []) [] rfl
  have hFc := va_free0 hS hA
  refine va_calli (va_runS (As := [.long (Int32.toInt64 z1), .long 0, .long 3]) (rest := []) ⟨hx, hb, hml, hown, hts⟩ (c_isIn l D _ (Int32.toInt64 z1) 0 3) (va_cwS 3 hts g_c_isThere_c_isIn_83 rfl rfl rfl (by decide +kernel) ⟨(Nat.le_of_ble_eq_true rfl), (Nat.le_of_ble_eq_true rfl)⟩) (PcR_S hPc hKc) rfl rfl hl.1 rfl (lv_room (Nat.le_of_ble_eq_true rfl)) dX11_isThere_6 ⟨(Nat.le_of_ble_eq_true rfl), (Nat.le_of_ble_eq_true rfl)⟩) hS (fun q _ h => hFc q h) hFc (fun r1 uu tt H locs htt hvm hw hB hz1 hk1 hS => ?_)
  have hP := va_keep hP hk1
  try dsimp only at hw
  clear hB hz1 hk1 hFc hPc hKc
  have hw_r1 := hw
  refine lv_if_eq (tgt := 27) hx hb dX11_isThere_9 (by decide) (fun hc2 => ?_) (fun hc2 => ?_)
  ·
    refine lv_iconst (v := 0) hx hb dX11_isThere_27 (by decide) ?_
    exact W.zret (v := 0) hx hb hr rfl (fun t ht hW => ⟨⟨0, (), rfl, rfl, trivial⟩, hS.F ht⟩) hS.2.2 dX11_isThere_28
  ·
    obtain ⟨k, hk, rfl⟩ := isIn04 (by rw [← hw_r1]; exact hc2)
    refine lv_aload_n hx hb dX11_isThere_12 rfl (lv_at hl 0 rfl) ?_
    refine lv_iload_n hx hb dX11_isThere_13 rfl (lv_at hl 1 rfl) ?_
    refine lv_iconst (v := 0) hx hb dX11_isThere_14 (by decide) ?_
    have hPc := hP.sub (ws' := [(h0, .inr (11, fM a tp sd pa pb dr)), (a 3, .inl (cN, 85, .inr (.inl (fun _ => 0))))]) [0, 1] rfl
    have hKc := hK.sub (tys' := [(cN, .long)]) [0] rfl
    have hFc := va_free0 hS hA
    refine va_calll (va_runV (As := [.int (nI k), .int (nI 0)]) (rest := []) ⟨hx, hb, hml, hown, hts⟩ (c_of l D _ h0 a cN tp sd pa pb dr k 0 (fun _ => 0) (by first | omega | assumption) (by first | omega | assumption)) (cwV 2 hts g_c_isThere_c_of_89 rfl rfl rfl (by decide +kernel) ⟨(Nat.le_of_ble_eq_true rfl), (Nat.le_of_ble_eq_true rfl)⟩) (PcR_V (q0 := 0) hPc hKc rfl rfl) rfl rfl hl.1 rfl (lv_room (Nat.le_of_ble_eq_true rfl)) dX11_isThere_15 ⟨(Nat.le_of_ble_eq_true rfl), (Nat.le_of_ble_eq_true rfl)⟩) hS (fun q _ h => hFc q h) hFc (fun r3 uu tt H locs htt hvm hw hB hz1 hk1 hS => ?_)
    have hP := va_keep hP hk1
    try dsimp only at hw
    clear hB hz1 hk1 hFc hPc hKc
    obtain rfl : r3 = 0 := hw
    refine lv_lconst (v := 1) hx hb dX11_isThere_18 (by decide) ?_
    refine W.lcmp hx hb dX11_isThere_19 ?_
    refine lv_topi (fun v4 ev4 => ?_)
    obtain rfl : v4 = (-1) := ev4.trans (by decide)
    refine lv_if_ne (tgt := 27) hx hb dX11_isThere_20 (by decide) (fun hc => ?_) (fun hc => absurd hc (by decide))
    refine lv_iconst (v := 0) hx hb dX11_isThere_27 (by decide) ?_
    exact W.zret (v := 0) hx hb hr rfl (fun t ht hW => ⟨⟨0, (), rfl, rfl, trivial⟩, hS.F ht⟩) hS.2.2 dX11_isThere_28

def own_c_isBucket : List Cond := [.methodLink RX11 222 yX11_isThere, .instanceMethod yX11_isThere, .selects RX11 yX11_isThere yX11_isThere, .initialized RX11]
def wp_c_isBucket : List Cond := .code yX11_isBucket cX11_isBucket 3 (some .boolean) :: (own_c_isBucket ++ (wp_c_isThere ++ ([] : List Cond)))
set_option maxRecDepth 20000 in
theorem inown_c_isBucket : ∀ w ∈ own_c_isBucket, w ∈ lw_tbl := mem_places [1466, 1468, 54, 115] (by decide +kernel)
set_option maxRecDepth 20000 in
theorem in_c_isBucket : ∀ w ∈ wp_c_isBucket, w ∈ lw_tbl := List.forall_mem_cons.mpr ⟨List.mem_of_getElem? (i := 1544) (by decide +kernel), List.forall_mem_append.mpr ⟨inown_c_isBucket, List.forall_mem_append.mpr ⟨in_c_isThere, fun _ h => absurd h List.not_mem_nil⟩⟩⟩
set_option maxRecDepth 20000 in
theorem good_c_isBucket : wp_c_isBucket.all goodWord = true := by decide +kernel
set_option maxRecDepth 20000 in
theorem g_c_isBucket_c_isThere_222 : GoodIn wp_c_isBucket (wsV RX11 222 RX11 yX11_isThere wp_c_isThere) := goodIn_sub (List.forall_mem_append.mpr ⟨List.forall_mem_cons.mpr ⟨(List.mem_of_getElem? (i := 1) rfl), List.forall_mem_cons.mpr ⟨(List.mem_of_getElem? (i := 2) rfl), List.forall_mem_cons.mpr ⟨(List.mem_of_getElem? (i := 3) rfl), List.forall_mem_cons.mpr ⟨(List.mem_of_getElem? (i := 4) rfl), fun _ h => absurd h List.not_mem_nil⟩⟩⟩⟩, (fun _ h => (List.mem_cons_of_mem _ (List.mem_append_right _ (List.mem_append_left _ h))))⟩) (by decide +kernel)
set_option maxHeartbeats 4000000 in
set_option maxRecDepth 100000 in
theorem c_isBucket (l : Launch) (D : va_G) (sz : Nat) (h0 : Nat) (a : Nat → Nat) (cN : ClassId) (tp : Int32) (sd : Int64) (pa : Int64) (pb : Int64) (dr : Int32) (z1 : Int32) (z2 : Int32)  : Met l yX11_isBucket wp_c_isBucket ({ frames := 2, cells := 0, slots := 0, locals := 46 }) (PcR D [.ref h0, .int z1, .int z2] sz [(h0, .inr (11, fM a tp sd pa pb dr)), (a 3, .inl (cN, 85, .inr (.inl (fun _ => 0))))] [(cN, .long)]) (va_Qi (fun (r : Int32) (_ : Unit) => r = 0) (fun (_ : Unit) _ => True) (va_A [] sz)) 0 0 (va_A [] sz) := by
  refine Met.ofW (cc := cX11_isBucket) (maxL := 3) (ret := (some .boolean)) (by decide) rfl ?_
  intro p e s m args below meth c s₁ B hml hv
  obtain ⟨rfl, hsz, hP, hK⟩ := hv
  have hx := B.exec
  have hb := B.bytes
  have hr := B.returns
  have hts := atoms_spec (ws := wp_c_isBucket) B.pre
  have hown : s.vm.findClass RX11 = some m.cls := findClass_of_methodNamed B.named
  have hlocks := B.notSynchronized
  subst hsz
  generalize hAe : va_A [] s.heap.size = A at ⊢
  have hA : ∀ q : Nat, s.heap.size ≤ q → A q := fun q h => by rw [← hAe]; exact Or.inr h
  have hS : va_S A s.heap s.heap [] := va_S.rf
  have hP : va_P D vwCl [(h0, .inr (11, fM a tp sd pa pb dr)), (a 3, .inl (cN, 85, .inr (.inl (fun _ => 0))))] s.heap := hP
  have hl := lv_entry ([.ref h0, .int z1, .int z2]) (n := 3) (Nat.le_of_ble_eq_true rfl)
  rw [lg_entry_eq]
  generalize (lg_sl ([.ref h0, .int z1, .int z2]) ++ List.replicate (3 - (lg_sl ([.ref h0, .int z1, .int z2])).length) Slot.unset).toArray = ls at hl ⊢
  have hl : lv_has ls 3 [(0, .ref h0), (1, .int z1), (2, .int z2)] := hl
  refine lv_aload_n hx hb dX11_isBucket_0 rfl (lv_at hl 0 rfl) ?_
  refine lv_iload_n hx hb dX11_isBucket_1 rfl (lv_at hl 1 rfl) ?_
  have hPc := hP.sub (ws' := [(h0, .inr (11, fM a tp sd pa pb dr)), (a 3, .inl (cN, 85, .inr (.inl (fun _ => 0))))]) [0, 1] rfl
  have hKc := hK.sub (tys' := [(cN, .long)]) [0] rfl
  have hFc := va_free0 hS hA
  refine va_calli (va_runV (As := [.int z1]) (rest := []) ⟨hx, hb, hml, hown, hts⟩ (c_isThere l D _ h0 a cN tp sd pa pb dr z1) (cwV 1 hts g_c_isBucket_c_isThere_222 rfl rfl rfl (by decide +kernel) ⟨(Nat.le_of_ble_eq_true rfl), (Nat.le_of_ble_eq_true rfl)⟩) (PcR_V (q0 := 0) hPc hKc rfl rfl) rfl rfl hl.1 rfl (lv_room (Nat.le_of_ble_eq_true rfl)) dX11_isBucket_2 ⟨(Nat.le_of_ble_eq_true rfl), (Nat.le_of_ble_eq_true rfl)⟩) hS (fun q _ h => hFc q h) hFc (fun r1 uu tt H locs htt hvm hw hB hz1 hk1 hS => ?_)
  have hP := va_keep hP hk1
  try dsimp only at hw
  clear hB hz1 hk1 hFc hPc hKc
  obtain rfl : r1 = 0 := hw
  refine lv_if_eq (tgt := 29) hx hb dX11_isBucket_5 (by decide) (fun hc => ?_) (fun hc => absurd (by decide) hc)
  refine lv_iconst (v := 0) hx hb dX11_isBucket_29 (by decide) ?_
  exact W.zret (v := 0) hx hb hr rfl (fun t ht hW => ⟨⟨0, (), rfl, rfl, trivial⟩, hS.F ht⟩) hS.2.2 dX11_isBucket_30

def own_c_isImageM : List Cond := []
def wp_c_isImageM : List Cond := .code yX11_isImage cX11_isImage 8 (some .boolean) :: (own_c_isImageM ++ ([] : List Cond))
set_option maxRecDepth 20000 in
theorem inown_c_isImageM : ∀ w ∈ own_c_isImageM, w ∈ lw_tbl := mem_places [] (by decide +kernel)
set_option maxRecDepth 20000 in
theorem in_c_isImageM : ∀ w ∈ wp_c_isImageM, w ∈ lw_tbl := List.forall_mem_cons.mpr ⟨List.mem_of_getElem? (i := 1814) (by decide +kernel), List.forall_mem_append.mpr ⟨inown_c_isImageM, fun _ h => absurd h List.not_mem_nil⟩⟩
set_option maxRecDepth 20000 in
theorem good_c_isImageM : wp_c_isImageM.all goodWord = true := by decide +kernel
set_option maxHeartbeats 4000000 in
set_option maxRecDepth 100000 in
theorem c_isImageM (l : Launch) (D : va_G) (sz : Nat) (h0 : Nat) (a : Nat → Nat) (cN : ClassId) (tp : Int32) (sd : Int64) (pa : Int64) (pb : Int64) (dr : Int32)  : Met l yX11_isImage wp_c_isImageM ({ frames := 0, cells := 0, slots := 0, locals := 0 }) (PcR D [.ref h0, .int 0] sz [(h0, .inr (11, fM a tp sd pa pb dr)), (a 3, .inl (cN, 85, .inr (.inl (fun _ => 0))))] [(cN, .long)]) (va_Qi (fun (r : Int32) (_ : Unit) => r = 0) (fun (_ : Unit) _ => True) (va_A [] sz)) 0 0 (va_A [] sz) := by
  refine Met.ofW (cc := cX11_isImage) (maxL := 8) (ret := (some .boolean)) (by decide) rfl ?_
  intro p e s m args below meth c s₁ B hml hv
  obtain ⟨rfl, hsz, hP, hK⟩ := hv
  have hx := B.exec
  have hb := B.bytes
  have hr := B.returns
  have hts := atoms_spec (ws := wp_c_isImageM) B.pre
  have hown : s.vm.findClass RX11 = some m.cls := findClass_of_methodNamed B.named
  have hlocks := B.notSynchronized
  subst hsz
  generalize hAe : va_A [] s.heap.size = A at ⊢
  have hA : ∀ q : Nat, s.heap.size ≤ q → A q := fun q h => by rw [← hAe]; exact Or.inr h
  have hS : va_S A s.heap s.heap [] := va_S.rf
  have hP : va_P D vwCl [(h0, .inr (11, fM a tp sd pa pb dr)), (a 3, .inl (cN, 85, .inr (.inl (fun _ => 0))))] s.heap := hP
  have hl := lv_entry ([.ref h0, .int 0]) (n := 8) (Nat.le_of_ble_eq_true rfl)
  rw [lg_entry_eq]
  generalize (lg_sl ([.ref h0, .int 0]) ++ List.replicate (8 - (lg_sl ([.ref h0, .int 0])).length) Slot.unset).toArray = ls at hl ⊢
  have hl : lv_has ls 8 [(0, .ref h0), (1, .int 0)] := hl
  refine lv_iload_n hx hb dX11_isImage_0 rfl (lv_at hl 1 rfl) ?_
  refine lv_bipush (v := 14) hx hb dX11_isImage_1 (by decide) ?_
  refine lv_icmp_lt (tgt := 44) hx hb dX11_isImage_3 (by decide) (fun hc => ?_) (fun hc => absurd (by decide) hc)
  refine lv_iconst (v := 0) hx hb dX11_isImage_44 (by decide) ?_
  exact W.zret (v := 0) hx hb hr rfl (fun t ht hW => ⟨⟨0, (), rfl, rfl, trivial⟩, hS.F ht⟩) hS.2.2 dX11_isImage_45

def own_c_puts : List Cond := [.fieldLink RX11 7 "ClashFreeModel" "tape" "[B", .fieldLink RX11 76 "ClashFreeModel" "taped" "I"]
def wp_c_puts : List Cond := .code yX11_puts cX11_puts 3 none :: (own_c_puts ++ (wsX110 ++ ([] : List Cond)))
set_option maxRecDepth 20000 in
theorem inown_c_puts : ∀ w ∈ own_c_puts, w ∈ lw_tbl := mem_places [1217, 1218] (by decide +kernel)
set_option maxRecDepth 20000 in
theorem in_c_puts : ∀ w ∈ wp_c_puts, w ∈ lw_tbl := List.forall_mem_cons.mpr ⟨List.mem_of_getElem? (i := 1366) (by decide +kernel), List.forall_mem_append.mpr ⟨inown_c_puts, List.forall_mem_append.mpr ⟨lwb_X11, fun _ h => absurd h List.not_mem_nil⟩⟩⟩
set_option maxRecDepth 20000 in
theorem good_c_puts : wp_c_puts.all goodWord = true := by decide +kernel
set_option maxHeartbeats 4000000 in
set_option maxRecDepth 100000 in
theorem c_puts (l : Launch) (D : va_G) (sz : Nat) (h0 : Nat) (a : Nat → Nat) (sd : Int64) (pa : Int64) (pb : Int64) (dr : Int32) (cB : ClassId) (f : Nat → Int32) (k : Nat) (z1 : Int32) (hk : k + 4 ≤ 1400) : Met l yX11_puts wp_c_puts ({ frames := 0, cells := 0, slots := 0, locals := 0 }) (PcW D [.ref h0, .int z1] sz [(h0, .inr (11, fM a (nI k) sd pa pb dr)), (a 1, .inl (cB, 1400, .inl f))] [(cB, .byte)]) (va_Qv (fun (_ : Nat → Int32) => True) (fun (u : Nat → Int32) t => va_P D vwCl [(h0, .inr (11, fM a (nI (k + 4)) sd pa pb dr)), (a 1, .inl (cB, 1400, .inl u))] t.heap ∧ va_K D vwCl [(cB, .byte)] t ∧ va_D (va_A [(h0, .inr (11, fM a (nI k) sd pa pb dr)), (a 1, .inl (cB, 1400, .inl f))] sz) [(h0, .inr (11, fM a (nI (k + 4)) sd pa pb dr)), (a 1, .inl (cB, 1400, .inl u))]) (va_A [(h0, .inr (11, fM a (nI k) sd pa pb dr)), (a 1, .inl (cB, 1400, .inl f))] sz)) 0 0 (va_A [(h0, .inr (11, fM a (nI k) sd pa pb dr)), (a 1, .inl (cB, 1400, .inl f))] sz) := by
  refine Met.ofW (cc := cX11_puts) (maxL := 3) (ret := none) (by decide) rfl ?_
  intro p e s m args below meth c s₁ B hml hv
  obtain ⟨rfl, hsz, hP, hK, hD0⟩ := hv
  have hx := B.exec
  have hb := B.bytes
  have hr := B.returns
  have hts := atoms_spec (ws := wp_c_puts) B.pre
  have hin_X11 : ∀ w ∈ wsX110, w ∈ wp_c_puts := fun _ h => (List.mem_cons_of_mem _ (List.mem_append_right _ (List.mem_append_left _ h)))
  have hown : s.vm.findClass RX11 = some m.cls := findClass_of_methodNamed B.named
  have hlocks := B.notSynchronized
  subst hsz
  have hD := hD0.self (sz := s.heap.size)
  generalize hAe : va_A [(h0, .inr (11, fM a (nI k) sd pa pb dr)), (a 1, .inl (cB, 1400, .inl f))] s.heap.size = A at hD ⊢
  have hA : ∀ q : Nat, s.heap.size ≤ q → A q := fun q h => by rw [← hAe]; exact Or.inr h
  have hS : va_S A s.heap s.heap [] := va_S.rf
  have hP : va_P D vwCl [(h0, .inr (11, fM a (nI k) sd pa pb dr)), (a 1, .inl (cB, 1400, .inl f))] s.heap := hP
  have hl := lv_entry ([.ref h0, .int z1]) (n := 3) (Nat.le_of_ble_eq_true rfl)
  rw [lg_entry_eq]
  generalize (lg_sl ([.ref h0, .int z1]) ++ List.replicate (3 - (lg_sl ([.ref h0, .int z1])).length) Slot.unset).toArray = ls at hl ⊢
  have hl : lv_has ls 3 [(0, .ref h0), (1, .int z1)] := hl
  refine lv_bipush (v := 24) hx hb dX11_puts_0 (by decide) ?_
  refine lv_istore_n (lv' := [(2, .int 24), (0, .ref h0), (1, .int z1)]) hx hb dX11_puts_2 rfl hl (by decide) rfl (fun ls hl => ?_)
  refine lv_iload_n hx hb dX11_puts_3 rfl (lv_at hl 0 rfl) ?_
  refine lv_if_lt (tgt := 36) hx hb dX11_puts_4 (by decide) (fun hc => absurd hc (by decide)) (fun hc => ?_)
  refine lv_aload_n hx hb dX11_puts_7 rfl (lv_at hl 1 rfl) ?_
  refine va_get (D := D) (ci := 11) (v := .ref (a 1)) (C := RX11) (T := TX11) (N := 47) hx hb hts hin_X11 hown hK hP 0 rfl rfl 1 (by decide) (hts (.fieldLink RX11 7 "ClashFreeModel" "tape" "[B") (List.mem_of_getElem? (i := 1) rfl)) (fun _ h9 => h9) rfl dX11_puts_8 ?_
  refine lv_aload_n hx hb dX11_puts_11 rfl (lv_at hl 1 rfl) ?_
  refine va_get (D := D) (ci := 11) (v := .int (nI k)) (C := RX11) (T := TX11) (N := 47) hx hb hts hin_X11 hown hK hP 0 rfl rfl 2 (by decide) (hts (.fieldLink RX11 76 "ClashFreeModel" "taped" "I") (List.mem_of_getElem? (i := 2) rfl)) (fun _ h9 => h9) rfl dX11_puts_12 ?_
  refine lv_iload_n hx hb dX11_puts_15 rfl (lv_at hl 2 rfl) ?_
  refine lv_iload_n hx hb dX11_puts_16 rfl (lv_at hl 0 rfl) ?_
  refine lv_ishr hx hb dX11_puts_17 ?_
  refine lv_topi (fun v1 ev1 => ?_)
  refine lv_i2b hx hb dX11_puts_18 rfl ?_
  refine lv_topi (fun v2 ev2 => ?_)
  refine va_bast hx hb hK hP hD hS 1 0 rfl rfl (vp_in_nI (by omega) (by decide)) dX11_puts_19 (fun H locs hP hD hS => ?_)
  have hP : va_P D vwCl [(h0, .inr (11, fM a (nI k) sd pa pb dr)), (a 1, .inl (cB, 1400, .inl (upd f (Int32.toNatClampNeg (nI k)) (vp_nar .byte v2))))] H := hP
  have hD : va_D A [(h0, .inr (11, fM a (nI k) sd pa pb dr)), (a 1, .inl (cB, 1400, .inl (upd f (Int32.toNatClampNeg (nI k)) (vp_nar .byte v2))))] := hD
  generalize upd f (Int32.toNatClampNeg (nI k)) (vp_nar .byte v2) = g3 at hP hD
  refine lv_aload_n hx hb dX11_puts_20 rfl (lv_at hl 1 rfl) ?_
  refine lv_dup hx hb dX11_puts_21 rfl ?_
  refine va_get (D := D) (ci := 11) (v := .int (nI k)) (C := RX11) (T := TX11) (N := 47) hx hb hts hin_X11 hown hK hP 0 rfl rfl 2 (by decide) (hts (.fieldLink RX11 76 "ClashFreeModel" "taped" "I") (List.mem_of_getElem? (i := 2) rfl)) (fun _ h9 => h9) rfl dX11_puts_22 ?_
  refine lv_iconst (v := 1) hx hb dX11_puts_25 (by decide) ?_
  refine lv_iadd hx hb dX11_puts_26 ?_
  refine lv_topi (fun v4 ev4 => ?_)
  obtain rfl : v4 = nI (k + 1) := ev4.trans (nI_add k 1)
  refine va_put (D := D) (ci := 11) (v := .int (nI (k + 1))) (ty := .int) (C := RX11) (T := TX11) (N := 47) hx hb hts hin_X11 tyX11 tyX11_ok nmX11 hown hK hP hD hS 0 rfl rfl 2 (by decide) (hts (.fieldLink RX11 76 "ClashFreeModel" "taped" "I") (List.mem_of_getElem? (i := 2) rfl)) (fun _ h9 => h9) rfl (by decide +kernel) rfl rfl (Nat.le_of_ble_eq_true rfl) dX11_puts_27 (fun H locs hP hD hS => ?_)
  have hP : va_P D vwCl [(h0, .inr (11, fM a (nI (k + 1)) sd pa pb dr)), (a 1, .inl (cB, 1400, .inl g3))] H := hP
  have hD : va_D A [(h0, .inr (11, fM a (nI (k + 1)) sd pa pb dr)), (a 1, .inl (cB, 1400, .inl g3))] := hD
  refine lv_iinc (v := 16) (lv' := [(2, .int 16), (0, .ref h0), (1, .int z1)]) hx hb dX11_puts_30 hl (k := 0) rfl (by decide) (by decide) rfl (fun ls hl => ?_)
  refine lv_goto (tgt := 3) hx hb dX11_puts_33 (by decide) ?_
  refine lv_iload_n hx hb dX11_puts_3 rfl (lv_at hl 0 rfl) ?_
  refine lv_if_lt (tgt := 36) hx hb dX11_puts_4 (by decide) (fun hc => absurd hc (by decide)) (fun hc => ?_)
  refine lv_aload_n hx hb dX11_puts_7 rfl (lv_at hl 1 rfl) ?_
  refine va_get (D := D) (ci := 11) (v := .ref (a 1)) (C := RX11) (T := TX11) (N := 47) hx hb hts hin_X11 hown hK hP 0 rfl rfl 1 (by decide) (hts (.fieldLink RX11 7 "ClashFreeModel" "tape" "[B") (List.mem_of_getElem? (i := 1) rfl)) (fun _ h9 => h9) rfl dX11_puts_8 ?_
  refine lv_aload_n hx hb dX11_puts_11 rfl (lv_at hl 1 rfl) ?_
  refine va_get (D := D) (ci := 11) (v := .int (nI (k + 1))) (C := RX11) (T := TX11) (N := 47) hx hb hts hin_X11 hown hK hP 0 rfl rfl 2 (by decide) (hts (.fieldLink RX11 76 "ClashFreeModel" "taped" "I") (List.mem_of_getElem? (i := 2) rfl)) (fun _ h9 => h9) rfl dX11_puts_12 ?_
  refine lv_iload_n hx hb dX11_puts_15 rfl (lv_at hl 2 rfl) ?_
  refine lv_iload_n hx hb dX11_puts_16 rfl (lv_at hl 0 rfl) ?_
  refine lv_ishr hx hb dX11_puts_17 ?_
  refine lv_topi (fun v5 ev5 => ?_)
  refine lv_i2b hx hb dX11_puts_18 rfl ?_
  refine lv_topi (fun v6 ev6 => ?_)
  refine va_bast hx hb hK hP hD hS 1 0 rfl rfl (vp_in_nI (by omega) (by decide)) dX11_puts_19 (fun H locs hP hD hS => ?_)
  have hP : va_P D vwCl [(h0, .inr (11, fM a (nI (k + 1)) sd pa pb dr)), (a 1, .inl (cB, 1400, .inl (upd g3 (Int32.toNatClampNeg (nI (k + 1))) (vp_nar .byte v6))))] H := hP
  have hD : va_D A [(h0, .inr (11, fM a (nI (k + 1)) sd pa pb dr)), (a 1, .inl (cB, 1400, .inl (upd g3 (Int32.toNatClampNeg (nI (k + 1))) (vp_nar .byte v6))))] := hD
  generalize upd g3 (Int32.toNatClampNeg (nI (k + 1))) (vp_nar .byte v6) = g7 at hP hD
  refine lv_aload_n hx hb dX11_puts_20 rfl (lv_at hl 1 rfl) ?_
  refine lv_dup hx hb dX11_puts_21 rfl ?_
  refine va_get (D := D) (ci := 11) (v := .int (nI (k + 1))) (C := RX11) (T := TX11) (N := 47) hx hb hts hin_X11 hown hK hP 0 rfl rfl 2 (by decide) (hts (.fieldLink RX11 76 "ClashFreeModel" "taped" "I") (List.mem_of_getElem? (i := 2) rfl)) (fun _ h9 => h9) rfl dX11_puts_22 ?_
  refine lv_iconst (v := 1) hx hb dX11_puts_25 (by decide) ?_
  refine lv_iadd hx hb dX11_puts_26 ?_
  refine lv_topi (fun v8 ev8 => ?_)
  obtain rfl : v8 = nI (k + 2) := ev8.trans (nI_add (k + 1) 1)
  refine va_put (D := D) (ci := 11) (v := .int (nI (k + 2))) (ty := .int) (C := RX11) (T := TX11) (N := 47) hx hb hts hin_X11 tyX11 tyX11_ok nmX11 hown hK hP hD hS 0 rfl rfl 2 (by decide) (hts (.fieldLink RX11 76 "ClashFreeModel" "taped" "I") (List.mem_of_getElem? (i := 2) rfl)) (fun _ h9 => h9) rfl (by decide +kernel) rfl rfl (Nat.le_of_ble_eq_true rfl) dX11_puts_27 (fun H locs hP hD hS => ?_)
  have hP : va_P D vwCl [(h0, .inr (11, fM a (nI (k + 2)) sd pa pb dr)), (a 1, .inl (cB, 1400, .inl g7))] H := hP
  have hD : va_D A [(h0, .inr (11, fM a (nI (k + 2)) sd pa pb dr)), (a 1, .inl (cB, 1400, .inl g7))] := hD
  refine lv_iinc (v := 8) (lv' := [(2, .int 8), (0, .ref h0), (1, .int z1)]) hx hb dX11_puts_30 hl (k := 0) rfl (by decide) (by decide) rfl (fun ls hl => ?_)
  refine lv_goto (tgt := 3) hx hb dX11_puts_33 (by decide) ?_
  refine lv_iload_n hx hb dX11_puts_3 rfl (lv_at hl 0 rfl) ?_
  refine lv_if_lt (tgt := 36) hx hb dX11_puts_4 (by decide) (fun hc => absurd hc (by decide)) (fun hc => ?_)
  refine lv_aload_n hx hb dX11_puts_7 rfl (lv_at hl 1 rfl) ?_
  refine va_get (D := D) (ci := 11) (v := .ref (a 1)) (C := RX11) (T := TX11) (N := 47) hx hb hts hin_X11 hown hK hP 0 rfl rfl 1 (by decide) (hts (.fieldLink RX11 7 "ClashFreeModel" "tape" "[B") (List.mem_of_getElem? (i := 1) rfl)) (fun _ h9 => h9) rfl dX11_puts_8 ?_
  refine lv_aload_n hx hb dX11_puts_11 rfl (lv_at hl 1 rfl) ?_
  refine va_get (D := D) (ci := 11) (v := .int (nI (k + 2))) (C := RX11) (T := TX11) (N := 47) hx hb hts hin_X11 hown hK hP 0 rfl rfl 2 (by decide) (hts (.fieldLink RX11 76 "ClashFreeModel" "taped" "I") (List.mem_of_getElem? (i := 2) rfl)) (fun _ h9 => h9) rfl dX11_puts_12 ?_
  refine lv_iload_n hx hb dX11_puts_15 rfl (lv_at hl 2 rfl) ?_
  refine lv_iload_n hx hb dX11_puts_16 rfl (lv_at hl 0 rfl) ?_
  refine lv_ishr hx hb dX11_puts_17 ?_
  refine lv_topi (fun v9 ev9 => ?_)
  refine lv_i2b hx hb dX11_puts_18 rfl ?_
  refine lv_topi (fun v10 ev10 => ?_)
  refine va_bast hx hb hK hP hD hS 1 0 rfl rfl (vp_in_nI (by omega) (by decide)) dX11_puts_19 (fun H locs hP hD hS => ?_)
  have hP : va_P D vwCl [(h0, .inr (11, fM a (nI (k + 2)) sd pa pb dr)), (a 1, .inl (cB, 1400, .inl (upd g7 (Int32.toNatClampNeg (nI (k + 2))) (vp_nar .byte v10))))] H := hP
  have hD : va_D A [(h0, .inr (11, fM a (nI (k + 2)) sd pa pb dr)), (a 1, .inl (cB, 1400, .inl (upd g7 (Int32.toNatClampNeg (nI (k + 2))) (vp_nar .byte v10))))] := hD
  generalize upd g7 (Int32.toNatClampNeg (nI (k + 2))) (vp_nar .byte v10) = g11 at hP hD
  refine lv_aload_n hx hb dX11_puts_20 rfl (lv_at hl 1 rfl) ?_
  refine lv_dup hx hb dX11_puts_21 rfl ?_
  refine va_get (D := D) (ci := 11) (v := .int (nI (k + 2))) (C := RX11) (T := TX11) (N := 47) hx hb hts hin_X11 hown hK hP 0 rfl rfl 2 (by decide) (hts (.fieldLink RX11 76 "ClashFreeModel" "taped" "I") (List.mem_of_getElem? (i := 2) rfl)) (fun _ h9 => h9) rfl dX11_puts_22 ?_
  refine lv_iconst (v := 1) hx hb dX11_puts_25 (by decide) ?_
  refine lv_iadd hx hb dX11_puts_26 ?_
  refine lv_topi (fun v12 ev12 => ?_)
  obtain rfl : v12 = nI (k + 3) := ev12.trans (nI_add (k + 2) 1)
  refine va_put (D := D) (ci := 11) (v := .int (nI (k + 3))) (ty := .int) (C := RX11) (T := TX11) (N := 47) hx hb hts hin_X11 tyX11 tyX11_ok nmX11 hown hK hP hD hS 0 rfl rfl 2 (by decide) (hts (.fieldLink RX11 76 "ClashFreeModel" "taped" "I") (List.mem_of_getElem? (i := 2) rfl)) (fun _ h9 => h9) rfl (by decide +kernel) rfl rfl (Nat.le_of_ble_eq_true rfl) dX11_puts_27 (fun H locs hP hD hS => ?_)
  have hP : va_P D vwCl [(h0, .inr (11, fM a (nI (k + 3)) sd pa pb dr)), (a 1, .inl (cB, 1400, .inl g11))] H := hP
  have hD : va_D A [(h0, .inr (11, fM a (nI (k + 3)) sd pa pb dr)), (a 1, .inl (cB, 1400, .inl g11))] := hD
  refine lv_iinc (v := 0) (lv' := [(2, .int 0), (0, .ref h0), (1, .int z1)]) hx hb dX11_puts_30 hl (k := 0) rfl (by decide) (by decide) rfl (fun ls hl => ?_)
  refine lv_goto (tgt := 3) hx hb dX11_puts_33 (by decide) ?_
  refine lv_iload_n hx hb dX11_puts_3 rfl (lv_at hl 0 rfl) ?_
  refine lv_if_lt (tgt := 36) hx hb dX11_puts_4 (by decide) (fun hc => absurd hc (by decide)) (fun hc => ?_)
  refine lv_aload_n hx hb dX11_puts_7 rfl (lv_at hl 1 rfl) ?_
  refine va_get (D := D) (ci := 11) (v := .ref (a 1)) (C := RX11) (T := TX11) (N := 47) hx hb hts hin_X11 hown hK hP 0 rfl rfl 1 (by decide) (hts (.fieldLink RX11 7 "ClashFreeModel" "tape" "[B") (List.mem_of_getElem? (i := 1) rfl)) (fun _ h9 => h9) rfl dX11_puts_8 ?_
  refine lv_aload_n hx hb dX11_puts_11 rfl (lv_at hl 1 rfl) ?_
  refine va_get (D := D) (ci := 11) (v := .int (nI (k + 3))) (C := RX11) (T := TX11) (N := 47) hx hb hts hin_X11 hown hK hP 0 rfl rfl 2 (by decide) (hts (.fieldLink RX11 76 "ClashFreeModel" "taped" "I") (List.mem_of_getElem? (i := 2) rfl)) (fun _ h9 => h9) rfl dX11_puts_12 ?_
  refine lv_iload_n hx hb dX11_puts_15 rfl (lv_at hl 2 rfl) ?_
  refine lv_iload_n hx hb dX11_puts_16 rfl (lv_at hl 0 rfl) ?_
  refine lv_ishr hx hb dX11_puts_17 ?_
  refine lv_topi (fun v13 ev13 => ?_)
  refine lv_i2b hx hb dX11_puts_18 rfl ?_
  refine lv_topi (fun v14 ev14 => ?_)
  refine va_bast hx hb hK hP hD hS 1 0 rfl rfl (vp_in_nI (by omega) (by decide)) dX11_puts_19 (fun H locs hP hD hS => ?_)
  have hP : va_P D vwCl [(h0, .inr (11, fM a (nI (k + 3)) sd pa pb dr)), (a 1, .inl (cB, 1400, .inl (upd g11 (Int32.toNatClampNeg (nI (k + 3))) (vp_nar .byte v14))))] H := hP
  have hD : va_D A [(h0, .inr (11, fM a (nI (k + 3)) sd pa pb dr)), (a 1, .inl (cB, 1400, .inl (upd g11 (Int32.toNatClampNeg (nI (k + 3))) (vp_nar .byte v14))))] := hD
  generalize upd g11 (Int32.toNatClampNeg (nI (k + 3))) (vp_nar .byte v14) = g15 at hP hD
  refine lv_aload_n hx hb dX11_puts_20 rfl (lv_at hl 1 rfl) ?_
  refine lv_dup hx hb dX11_puts_21 rfl ?_
  refine va_get (D := D) (ci := 11) (v := .int (nI (k + 3))) (C := RX11) (T := TX11) (N := 47) hx hb hts hin_X11 hown hK hP 0 rfl rfl 2 (by decide) (hts (.fieldLink RX11 76 "ClashFreeModel" "taped" "I") (List.mem_of_getElem? (i := 2) rfl)) (fun _ h9 => h9) rfl dX11_puts_22 ?_
  refine lv_iconst (v := 1) hx hb dX11_puts_25 (by decide) ?_
  refine lv_iadd hx hb dX11_puts_26 ?_
  refine lv_topi (fun v16 ev16 => ?_)
  obtain rfl : v16 = nI (k + 4) := ev16.trans (nI_add (k + 3) 1)
  refine va_put (D := D) (ci := 11) (v := .int (nI (k + 4))) (ty := .int) (C := RX11) (T := TX11) (N := 47) hx hb hts hin_X11 tyX11 tyX11_ok nmX11 hown hK hP hD hS 0 rfl rfl 2 (by decide) (hts (.fieldLink RX11 76 "ClashFreeModel" "taped" "I") (List.mem_of_getElem? (i := 2) rfl)) (fun _ h9 => h9) rfl (by decide +kernel) rfl rfl (Nat.le_of_ble_eq_true rfl) dX11_puts_27 (fun H locs hP hD hS => ?_)
  have hP : va_P D vwCl [(h0, .inr (11, fM a (nI (k + 4)) sd pa pb dr)), (a 1, .inl (cB, 1400, .inl g15))] H := hP
  have hD : va_D A [(h0, .inr (11, fM a (nI (k + 4)) sd pa pb dr)), (a 1, .inl (cB, 1400, .inl g15))] := hD
  refine lv_iinc (v := (-8)) (lv' := [(2, .int (-8)), (0, .ref h0), (1, .int z1)]) hx hb dX11_puts_30 hl (k := 0) rfl (by decide) (by decide) rfl (fun ls hl => ?_)
  refine lv_goto (tgt := 3) hx hb dX11_puts_33 (by decide) ?_
  refine lv_iload_n hx hb dX11_puts_3 rfl (lv_at hl 0 rfl) ?_
  refine lv_if_lt (tgt := 36) hx hb dX11_puts_4 (by decide) (fun hc => ?_) (fun hc => absurd (by decide) hc)
  exact W.vret hx hb hr (fun t ht hW => ⟨⟨g15, rfl, trivial, by rw [ht]; exact hP.sub [0, 1] rfl, va_K.moved hW.alike (hK.sub [0] rfl), hD.sub [0, 1] (by decide) rfl⟩, hS.F ht⟩) hS.2.2 dX11_puts_36

def own_c_isTN : List Cond := []
def wp_c_isTN : List Cond := .code yX10_isTableNumber cX10_isTableNumber 1 (some .boolean) :: (own_c_isTN ++ ([] : List Cond))
set_option maxRecDepth 20000 in
theorem inown_c_isTN : ∀ w ∈ own_c_isTN, w ∈ lw_tbl := mem_places [] (by decide +kernel)
set_option maxRecDepth 20000 in
theorem in_c_isTN : ∀ w ∈ wp_c_isTN, w ∈ lw_tbl := List.forall_mem_cons.mpr ⟨List.mem_of_getElem? (i := 451) (by decide +kernel), List.forall_mem_append.mpr ⟨inown_c_isTN, fun _ h => absurd h List.not_mem_nil⟩⟩
set_option maxRecDepth 20000 in
theorem good_c_isTN : wp_c_isTN.all goodWord = true := by decide +kernel
set_option maxHeartbeats 4000000 in
set_option maxRecDepth 100000 in
theorem c_isTN (l : Launch) (D : va_G) (sz : Nat) (z1 : Int32)  : Met l yX10_isTableNumber wp_c_isTN ({ frames := 0, cells := 0, slots := 0, locals := 0 }) (PcR D [.int z1] sz [] []) (va_Qi (fun (r : Int32) (_ : Unit) => r = if 0 ≤ z1 ∧ z1 < 4 then 1 else 0) (fun (_ : Unit) _ => True) (va_A [] sz)) 0 0 (va_A [] sz) := by
  refine Met.ofW (cc := cX10_isTableNumber) (maxL := 1) (ret := (some .boolean)) (by decide) rfl ?_
  intro p e s m args below meth c s₁ B hml hv
  obtain ⟨rfl, hsz, hP, hK⟩ := hv
  have hx := B.exec
  have hb := B.bytes
  have hr := B.returns
  have hts := atoms_spec (ws := wp_c_isTN) B.pre
  have hown : s.vm.findClass RX10 = some m.cls := findClass_of_methodNamed B.named
  have hlocks := B.notSynchronized
  subst hsz
  generalize hAe : va_A [] s.heap.size = A at ⊢
  have hA : ∀ q : Nat, s.heap.size ≤ q → A q := fun q h => by rw [← hAe]; exact Or.inr h
  have hS : va_S A s.heap s.heap [] := va_S.rf
  have hP : va_P D vwCl [] s.heap := hP
  have hl := lv_entry ([.int z1]) (n := 1) (Nat.le_of_ble_eq_true rfl)
  rw [lg_entry_eq]
  generalize (lg_sl ([.int z1]) ++ List.replicate (1 - (lg_sl ([.int z1])).length) Slot.unset).toArray = ls at hl ⊢
  have hl : lv_has ls 1 [(0, .int z1)] := hl
  refine lv_iload_n hx hb dX10_isTableNumber_0 rfl (lv_at hl 0 rfl) ?_
  refine lv_if_lt (tgt := 13) hx hb dX10_isTableNumber_1 (by decide) (fun hc1 => ?_) (fun hc1 => ?_)
  ·
    refine lv_iconst (v := 0) hx hb dX10_isTableNumber_13 (by decide) ?_
    exact W.zret (v := 0) hx hb hr rfl (fun t ht hW => ⟨⟨0, (), rfl, by rw [if_neg (fun h => absurd h.1 (Int32.not_le.mpr hc1))], trivial⟩, hS.F ht⟩) hS.2.2 dX10_isTableNumber_14
  ·
    refine lv_iload_n hx hb dX10_isTableNumber_4 rfl (lv_at hl 0 rfl) ?_
    refine lv_iconst (v := 4) hx hb dX10_isTableNumber_5 (by decide) ?_
    refine lv_icmp_ge (tgt := 13) hx hb dX10_isTableNumber_6 (by decide) (fun hc2 => ?_) (fun hc2 => ?_)
    ·
      refine lv_iconst (v := 0) hx hb dX10_isTableNumber_13 (by decide) ?_
      exact W.zret (v := 0) hx hb hr rfl (fun t ht hW => ⟨⟨0, (), rfl, by rw [if_neg (fun h => absurd h.2 (Int32.not_lt.mpr hc2))], trivial⟩, hS.F ht⟩) hS.2.2 dX10_isTableNumber_14
    ·
      refine lv_iconst (v := 1) hx hb dX10_isTableNumber_9 (by decide) ?_
      refine lv_goto (tgt := 14) hx hb dX10_isTableNumber_10 (by decide) ?_
      exact W.zret (v := 1) hx hb hr rfl (fun t ht hW => ⟨⟨1, (), rfl, by rw [if_pos ⟨Int32.not_lt.mp hc1, Int32.not_le.mp hc2⟩], trivial⟩, hS.F ht⟩) hS.2.2 dX10_isTableNumber_14

def own_c_tableAt : List Cond := [.methodLink RX10 55 yX10_isTableNumber, .static yX10_isTableNumber, .initialized RX10, .fieldLink RX10 11 "ClashFree" "tables" "[LClashFree$Table;"]
def wp_c_tableAt : List Cond := .code yX10_tableAt cX10_tableAt 2 (some (.object "ClashFree$Table")) :: (own_c_tableAt ++ (wp_c_isTN ++ (wsX100 ++ ([] : List Cond))))
set_option maxRecDepth 20000 in
theorem inown_c_tableAt : ∀ w ∈ own_c_tableAt, w ∈ lw_tbl := mem_places [449, 450, 106, 412] (by decide +kernel)
set_option maxRecDepth 20000 in
theorem in_c_tableAt : ∀ w ∈ wp_c_tableAt, w ∈ lw_tbl := List.forall_mem_cons.mpr ⟨List.mem_of_getElem? (i := 613) (by decide +kernel), List.forall_mem_append.mpr ⟨inown_c_tableAt, List.forall_mem_append.mpr ⟨in_c_isTN, List.forall_mem_append.mpr ⟨lwb_X10, fun _ h => absurd h List.not_mem_nil⟩⟩⟩⟩
set_option maxRecDepth 20000 in
theorem good_c_tableAt : wp_c_tableAt.all goodWord = true := by decide +kernel
set_option maxRecDepth 20000 in
theorem g_c_tableAt_c_isTN_55 : GoodIn wp_c_tableAt (va_wsS RX10 55 yX10_isTableNumber wp_c_isTN) := goodIn_sub (List.forall_mem_append.mpr ⟨List.forall_mem_cons.mpr ⟨(List.mem_of_getElem? (i := 1) rfl), List.forall_mem_cons.mpr ⟨(List.mem_of_getElem? (i := 2) rfl), List.forall_mem_cons.mpr ⟨(List.mem_of_getElem? (i := 3) rfl), fun _ h => absurd h List.not_mem_nil⟩⟩⟩, (fun _ h => (List.mem_cons_of_mem _ (List.mem_append_right _ (List.mem_append_left _ h))))⟩) (by decide +kernel)
set_option maxHeartbeats 4000000 in
set_option maxRecDepth 100000 in
theorem c_tableAt (l : Launch) (D : va_G) (sz : Nat) (h0 : Nat) (ca : Nat → Nat) (cT : ClassId) (tp : Int32) (z1 : Int32)  : Met l yX10_tableAt wp_c_tableAt ({ frames := 1, cells := 0, slots := 0, locals := 20 }) (PcR D [.ref h0, .int z1] sz [(h0, .inr (10, [.ref (ca 0), .ref (ca 1), .int tp, .ref (ca 3), .ref (ca 4), .ref (ca 5), .ref (ca 6)])), (ca 0, .inl (cT, 4, .inr (.inr (.inr (.inr (fun _ => none))))))] [(cT, .object RX9)]) (va_Qq (fun (r : Option Nat) (_ : Unit) => r = none) (fun (_ : Unit) _ => True) (va_A [] sz)) 0 0 (va_A [] sz) := by
  refine Met.ofW (cc := cX10_tableAt) (maxL := 2) (ret := (some (.object "ClashFree$Table"))) (by decide) rfl ?_
  intro p e s m args below meth c s₁ B hml hv
  obtain ⟨rfl, hsz, hP, hK⟩ := hv
  have hx := B.exec
  have hb := B.bytes
  have hr := B.returns
  have hts := atoms_spec (ws := wp_c_tableAt) B.pre
  have hin_X10 : ∀ w ∈ wsX100, w ∈ wp_c_tableAt := fun _ h => (List.mem_cons_of_mem _ (List.mem_append_right _ (List.mem_append_right _ (List.mem_append_left _ h))))
  have hown : s.vm.findClass RX10 = some m.cls := findClass_of_methodNamed B.named
  have hlocks := B.notSynchronized
  subst hsz
  generalize hAe : va_A [] s.heap.size = A at ⊢
  have hA : ∀ q : Nat, s.heap.size ≤ q → A q := fun q h => by rw [← hAe]; exact Or.inr h
  have hS : va_S A s.heap s.heap [] := va_S.rf
  have hP : va_P D vwCl [(h0, .inr (10, [.ref (ca 0), .ref (ca 1), .int tp, .ref (ca 3), .ref (ca 4), .ref (ca 5), .ref (ca 6)])), (ca 0, .inl (cT, 4, .inr (.inr (.inr (.inr (fun _ => none))))))] s.heap := hP
  have hl := lv_entry ([.ref h0, .int z1]) (n := 2) (Nat.le_of_ble_eq_true rfl)
  rw [lg_entry_eq]
  generalize (lg_sl ([.ref h0, .int z1]) ++ List.replicate (2 - (lg_sl ([.ref h0, .int z1])).length) Slot.unset).toArray = ls at hl ⊢
  have hl : lv_has ls 2 [(0, .ref h0), (1, .int z1)] := hl
  refine lv_iload_n hx hb dX10_tableAt_0 rfl (lv_at hl 1 rfl) ?_
  have hPc := hP.sub (ws' := []) [] rfl
  have hKc := hK.sub (tys' := []) [] rfl
  have hFc := va_free0 hS hA
  refine va_calli (va_runS (As := [.int z1]) (rest := []) ⟨hx, hb, hml, hown, hts⟩ (c_isTN l D _ z1) (va_cwS 1 hts g_c_tableAt_c_isTN_55 rfl rfl rfl (by decide +kernel) ⟨(Nat.le_of_ble_eq_true rfl), (Nat.le_of_ble_eq_true rfl)⟩) (PcR_S hPc hKc) rfl rfl hl.1 rfl (lv_room (Nat.le_of_ble_eq_true rfl)) dX10_tableAt_1 ⟨(Nat.le_of_ble_eq_true rfl), (Nat.le_of_ble_eq_true rfl)⟩) hS (fun q _ h => hFc q h) hFc (fun r1 uu tt H locs htt hvm hw hB hz1 hk1 hS => ?_)
  have hP := va_keep hP hk1
  try dsimp only at hw
  clear hB hz1 hk1 hFc hPc hKc
  have hw_r1 := hw
  refine lv_if_eq (tgt := 16) hx hb dX10_tableAt_4 (by decide) (fun hc2 => ?_) (fun hc2 => ?_)
  ·
    refine lv_null hx hb dX10_tableAt_16 ?_
    exact W.aret (v := va_rf none) hx hb hr (Or.inl ⟨_, rfl⟩) (va_rf_or _) (fun t ht hW => ⟨⟨none, (), rfl, rfl, trivial⟩, hS.F ht⟩) hS.2.2 dX10_tableAt_17
  ·
    have hin4 := isT4 (by rw [← hw_r1]; exact hc2)
    refine lv_aload_n hx hb dX10_tableAt_7 rfl (lv_at hl 0 rfl) ?_
    refine va_get (D := D) (ci := 10) (v := .ref (ca 0)) (C := RX10) (T := TX10) (N := 7) hx hb hts hin_X10 hown hK hP 0 rfl rfl 0 (by decide) (hts (.fieldLink RX10 11 "ClashFree" "tables" "[LClashFree$Table;") (List.mem_of_getElem? (i := 4) rfl)) (fun _ h9 => h9) rfl dX10_tableAt_8 ?_
    refine lv_iload_n hx hb dX10_tableAt_11 rfl (lv_at hl 1 rfl) ?_
    refine va_aldq hx hb hK hP 1 0 rfl rfl (hin4) dX10_tableAt_12 ?_
    refine W.eq (g2 := F0 m 13 ls [.null]) rfl ?_
    refine lv_goto (tgt := 17) hx hb dX10_tableAt_13 (by decide) ?_
    exact W.aret (v := va_rf none) hx hb hr (Or.inl ⟨_, rfl⟩) (va_rf_or _) (fun t ht hW => ⟨⟨none, (), rfl, rfl, trivial⟩, hS.F ht⟩) hS.2.2 dX10_tableAt_17

def own_c_countTables : List Cond := [.fieldLink RX10 11 "ClashFree" "tables" "[LClashFree$Table;"]
def wp_c_countTables : List Cond := .code yX10_countTables cX10_countTables 3 (some .int) :: (own_c_countTables ++ (wsX100 ++ ([] : List Cond)))
set_option maxRecDepth 20000 in
theorem inown_c_countTables : ∀ w ∈ own_c_countTables, w ∈ lw_tbl := mem_places [412] (by decide +kernel)
set_option maxRecDepth 20000 in
theorem in_c_countTables : ∀ w ∈ wp_c_countTables, w ∈ lw_tbl := List.forall_mem_cons.mpr ⟨List.mem_of_getElem? (i := 1205) (by decide +kernel), List.forall_mem_append.mpr ⟨inown_c_countTables, List.forall_mem_append.mpr ⟨lwb_X10, fun _ h => absurd h List.not_mem_nil⟩⟩⟩
set_option maxRecDepth 20000 in
theorem good_c_countTables : wp_c_countTables.all goodWord = true := by decide +kernel
set_option maxHeartbeats 4000000 in
set_option maxRecDepth 100000 in
theorem c_countTables (l : Launch) (D : va_G) (sz : Nat) (h0 : Nat) (ca : Nat → Nat) (cT : ClassId) (tp : Int32)  : Met l yX10_countTables wp_c_countTables ({ frames := 0, cells := 0, slots := 0, locals := 0 }) (PcR D [.ref h0] sz [(h0, .inr (10, [.ref (ca 0), .ref (ca 1), .int tp, .ref (ca 3), .ref (ca 4), .ref (ca 5), .ref (ca 6)])), (ca 0, .inl (cT, 4, .inr (.inr (.inr (.inr (fun _ => none))))))] [(cT, .object RX9)]) (va_Qi (fun (r : Int32) (_ : Unit) => r = 0) (fun (_ : Unit) _ => True) (va_A [] sz)) 0 0 (va_A [] sz) := by
  refine Met.ofW (cc := cX10_countTables) (maxL := 3) (ret := (some .int)) (by decide) rfl ?_
  intro p e s m args below meth c s₁ B hml hv
  obtain ⟨rfl, hsz, hP, hK⟩ := hv
  have hx := B.exec
  have hb := B.bytes
  have hr := B.returns
  have hts := atoms_spec (ws := wp_c_countTables) B.pre
  have hin_X10 : ∀ w ∈ wsX100, w ∈ wp_c_countTables := fun _ h => (List.mem_cons_of_mem _ (List.mem_append_right _ (List.mem_append_left _ h)))
  have hown : s.vm.findClass RX10 = some m.cls := findClass_of_methodNamed B.named
  have hlocks := B.notSynchronized
  subst hsz
  generalize hAe : va_A [] s.heap.size = A at ⊢
  have hA : ∀ q : Nat, s.heap.size ≤ q → A q := fun q h => by rw [← hAe]; exact Or.inr h
  have hS : va_S A s.heap s.heap [] := va_S.rf
  have hP : va_P D vwCl [(h0, .inr (10, [.ref (ca 0), .ref (ca 1), .int tp, .ref (ca 3), .ref (ca 4), .ref (ca 5), .ref (ca 6)])), (ca 0, .inl (cT, 4, .inr (.inr (.inr (.inr (fun _ => none))))))] s.heap := hP
  have hl := lv_entry ([.ref h0]) (n := 3) (Nat.le_of_ble_eq_true rfl)
  rw [lg_entry_eq]
  generalize (lg_sl ([.ref h0]) ++ List.replicate (3 - (lg_sl ([.ref h0])).length) Slot.unset).toArray = ls at hl ⊢
  have hl : lv_has ls 3 [(0, .ref h0)] := hl
  refine lv_iconst (v := 0) hx hb dX10_countTables_0 (by decide) ?_
  refine lv_istore_n (lv' := [(1, .int 0), (0, .ref h0)]) hx hb dX10_countTables_1 rfl hl (by decide) rfl (fun ls hl => ?_)
  refine lv_iconst (v := 0) hx hb dX10_countTables_2 (by decide) ?_
  refine lv_istore_n (lv' := [(2, .int 0), (1, .int 0), (0, .ref h0)]) hx hb dX10_countTables_3 rfl hl (by decide) rfl (fun ls hl => ?_)
  refine lv_iload_n hx hb dX10_countTables_4 rfl (lv_at hl 0 rfl) ?_
  refine lv_iconst (v := 4) hx hb dX10_countTables_5 (by decide) ?_
  refine lv_icmp_ge (tgt := 27) hx hb dX10_countTables_6 (by decide) (fun hc => absurd hc (by decide)) (fun hc => ?_)
  refine lv_aload_n hx hb dX10_countTables_9 rfl (lv_at hl 2 rfl) ?_
  refine va_get (D := D) (ci := 10) (v := .ref (ca 0)) (C := RX10) (T := TX10) (N := 7) hx hb hts hin_X10 hown hK hP 0 rfl rfl 0 (by decide) (hts (.fieldLink RX10 11 "ClashFree" "tables" "[LClashFree$Table;") (List.mem_of_getElem? (i := 1) rfl)) (fun _ h9 => h9) rfl dX10_countTables_10 ?_
  refine lv_iload_n hx hb dX10_countTables_13 rfl (lv_at hl 0 rfl) ?_
  refine va_aldq hx hb hK hP 1 0 rfl rfl (show ¬ ((0 : Int32) < 0 ∨ 4 ≤ Int32.toNatClampNeg 0) by decide) dX10_countTables_14 ?_
  refine W.eq (g2 := F0 m 15 ls [.null]) rfl ?_
  refine lv_ifnullN (tgt := 21) hx hb dX10_countTables_15 (by decide) ?_
  refine lv_iinc (v := 1) (lv' := [(2, .int 1), (1, .int 0), (0, .ref h0)]) hx hb dX10_countTables_21 hl (k := 0) rfl (by decide) (by decide) rfl (fun ls hl => ?_)
  refine lv_goto (tgt := 4) hx hb dX10_countTables_24 (by decide) ?_
  refine lv_iload_n hx hb dX10_countTables_4 rfl (lv_at hl 0 rfl) ?_
  refine lv_iconst (v := 4) hx hb dX10_countTables_5 (by decide) ?_
  refine lv_icmp_ge (tgt := 27) hx hb dX10_countTables_6 (by decide) (fun hc => absurd hc (by decide)) (fun hc => ?_)
  refine lv_aload_n hx hb dX10_countTables_9 rfl (lv_at hl 2 rfl) ?_
  refine va_get (D := D) (ci := 10) (v := .ref (ca 0)) (C := RX10) (T := TX10) (N := 7) hx hb hts hin_X10 hown hK hP 0 rfl rfl 0 (by decide) (hts (.fieldLink RX10 11 "ClashFree" "tables" "[LClashFree$Table;") (List.mem_of_getElem? (i := 1) rfl)) (fun _ h9 => h9) rfl dX10_countTables_10 ?_
  refine lv_iload_n hx hb dX10_countTables_13 rfl (lv_at hl 0 rfl) ?_
  refine va_aldq hx hb hK hP 1 0 rfl rfl (show ¬ ((1 : Int32) < 0 ∨ 4 ≤ Int32.toNatClampNeg 1) by decide) dX10_countTables_14 ?_
  refine W.eq (g2 := F0 m 15 ls [.null]) rfl ?_
  refine lv_ifnullN (tgt := 21) hx hb dX10_countTables_15 (by decide) ?_
  refine lv_iinc (v := 2) (lv' := [(2, .int 2), (1, .int 0), (0, .ref h0)]) hx hb dX10_countTables_21 hl (k := 0) rfl (by decide) (by decide) rfl (fun ls hl => ?_)
  refine lv_goto (tgt := 4) hx hb dX10_countTables_24 (by decide) ?_
  refine lv_iload_n hx hb dX10_countTables_4 rfl (lv_at hl 0 rfl) ?_
  refine lv_iconst (v := 4) hx hb dX10_countTables_5 (by decide) ?_
  refine lv_icmp_ge (tgt := 27) hx hb dX10_countTables_6 (by decide) (fun hc => absurd hc (by decide)) (fun hc => ?_)
  refine lv_aload_n hx hb dX10_countTables_9 rfl (lv_at hl 2 rfl) ?_
  refine va_get (D := D) (ci := 10) (v := .ref (ca 0)) (C := RX10) (T := TX10) (N := 7) hx hb hts hin_X10 hown hK hP 0 rfl rfl 0 (by decide) (hts (.fieldLink RX10 11 "ClashFree" "tables" "[LClashFree$Table;") (List.mem_of_getElem? (i := 1) rfl)) (fun _ h9 => h9) rfl dX10_countTables_10 ?_
  refine lv_iload_n hx hb dX10_countTables_13 rfl (lv_at hl 0 rfl) ?_
  refine va_aldq hx hb hK hP 1 0 rfl rfl (show ¬ ((2 : Int32) < 0 ∨ 4 ≤ Int32.toNatClampNeg 2) by decide) dX10_countTables_14 ?_
  refine W.eq (g2 := F0 m 15 ls [.null]) rfl ?_
  refine lv_ifnullN (tgt := 21) hx hb dX10_countTables_15 (by decide) ?_
  refine lv_iinc (v := 3) (lv' := [(2, .int 3), (1, .int 0), (0, .ref h0)]) hx hb dX10_countTables_21 hl (k := 0) rfl (by decide) (by decide) rfl (fun ls hl => ?_)
  refine lv_goto (tgt := 4) hx hb dX10_countTables_24 (by decide) ?_
  refine lv_iload_n hx hb dX10_countTables_4 rfl (lv_at hl 0 rfl) ?_
  refine lv_iconst (v := 4) hx hb dX10_countTables_5 (by decide) ?_
  refine lv_icmp_ge (tgt := 27) hx hb dX10_countTables_6 (by decide) (fun hc => absurd hc (by decide)) (fun hc => ?_)
  refine lv_aload_n hx hb dX10_countTables_9 rfl (lv_at hl 2 rfl) ?_
  refine va_get (D := D) (ci := 10) (v := .ref (ca 0)) (C := RX10) (T := TX10) (N := 7) hx hb hts hin_X10 hown hK hP 0 rfl rfl 0 (by decide) (hts (.fieldLink RX10 11 "ClashFree" "tables" "[LClashFree$Table;") (List.mem_of_getElem? (i := 1) rfl)) (fun _ h9 => h9) rfl dX10_countTables_10 ?_
  refine lv_iload_n hx hb dX10_countTables_13 rfl (lv_at hl 0 rfl) ?_
  refine va_aldq hx hb hK hP 1 0 rfl rfl (show ¬ ((3 : Int32) < 0 ∨ 4 ≤ Int32.toNatClampNeg 3) by decide) dX10_countTables_14 ?_
  refine W.eq (g2 := F0 m 15 ls [.null]) rfl ?_
  refine lv_ifnullN (tgt := 21) hx hb dX10_countTables_15 (by decide) ?_
  refine lv_iinc (v := 4) (lv' := [(2, .int 4), (1, .int 0), (0, .ref h0)]) hx hb dX10_countTables_21 hl (k := 0) rfl (by decide) (by decide) rfl (fun ls hl => ?_)
  refine lv_goto (tgt := 4) hx hb dX10_countTables_24 (by decide) ?_
  refine lv_iload_n hx hb dX10_countTables_4 rfl (lv_at hl 0 rfl) ?_
  refine lv_iconst (v := 4) hx hb dX10_countTables_5 (by decide) ?_
  refine lv_icmp_ge (tgt := 27) hx hb dX10_countTables_6 (by decide) (fun hc => ?_) (fun hc => absurd (by decide) hc)
  refine lv_iload_n hx hb dX10_countTables_27 rfl (lv_at hl 1 rfl) ?_
  exact W.iret (v := 0) hx hb hr (fun t ht hW => ⟨⟨0, (), rfl, rfl, trivial⟩, hS.F ht⟩) hS.2.2 dX10_countTables_28

def own_c_countKeys : List Cond := [.fieldLink RX10 11 "ClashFree" "tables" "[LClashFree$Table;"]
def wp_c_countKeys : List Cond := .code yX10_countKeys cX10_countKeys 3 (some .int) :: (own_c_countKeys ++ (wsX100 ++ ([] : List Cond)))
set_option maxRecDepth 20000 in
theorem inown_c_countKeys : ∀ w ∈ own_c_countKeys, w ∈ lw_tbl := mem_places [412] (by decide +kernel)
set_option maxRecDepth 20000 in
theorem in_c_countKeys : ∀ w ∈ wp_c_countKeys, w ∈ lw_tbl := List.forall_mem_cons.mpr ⟨List.mem_of_getElem? (i := 1209) (by decide +kernel), List.forall_mem_append.mpr ⟨inown_c_countKeys, List.forall_mem_append.mpr ⟨lwb_X10, fun _ h => absurd h List.not_mem_nil⟩⟩⟩
set_option maxRecDepth 20000 in
theorem good_c_countKeys : wp_c_countKeys.all goodWord = true := by decide +kernel
set_option maxHeartbeats 4000000 in
set_option maxRecDepth 100000 in
theorem c_countKeys (l : Launch) (D : va_G) (sz : Nat) (h0 : Nat) (ca : Nat → Nat) (cT : ClassId) (tp : Int32)  : Met l yX10_countKeys wp_c_countKeys ({ frames := 0, cells := 0, slots := 0, locals := 0 }) (PcR D [.ref h0] sz [(h0, .inr (10, [.ref (ca 0), .ref (ca 1), .int tp, .ref (ca 3), .ref (ca 4), .ref (ca 5), .ref (ca 6)])), (ca 0, .inl (cT, 4, .inr (.inr (.inr (.inr (fun _ => none))))))] [(cT, .object RX9)]) (va_Qi (fun (r : Int32) (_ : Unit) => r = 0) (fun (_ : Unit) _ => True) (va_A [] sz)) 0 0 (va_A [] sz) := by
  refine Met.ofW (cc := cX10_countKeys) (maxL := 3) (ret := (some .int)) (by decide) rfl ?_
  intro p e s m args below meth c s₁ B hml hv
  obtain ⟨rfl, hsz, hP, hK⟩ := hv
  have hx := B.exec
  have hb := B.bytes
  have hr := B.returns
  have hts := atoms_spec (ws := wp_c_countKeys) B.pre
  have hin_X10 : ∀ w ∈ wsX100, w ∈ wp_c_countKeys := fun _ h => (List.mem_cons_of_mem _ (List.mem_append_right _ (List.mem_append_left _ h)))
  have hown : s.vm.findClass RX10 = some m.cls := findClass_of_methodNamed B.named
  have hlocks := B.notSynchronized
  subst hsz
  generalize hAe : va_A [] s.heap.size = A at ⊢
  have hA : ∀ q : Nat, s.heap.size ≤ q → A q := fun q h => by rw [← hAe]; exact Or.inr h
  have hS : va_S A s.heap s.heap [] := va_S.rf
  have hP : va_P D vwCl [(h0, .inr (10, [.ref (ca 0), .ref (ca 1), .int tp, .ref (ca 3), .ref (ca 4), .ref (ca 5), .ref (ca 6)])), (ca 0, .inl (cT, 4, .inr (.inr (.inr (.inr (fun _ => none))))))] s.heap := hP
  have hl := lv_entry ([.ref h0]) (n := 3) (Nat.le_of_ble_eq_true rfl)
  rw [lg_entry_eq]
  generalize (lg_sl ([.ref h0]) ++ List.replicate (3 - (lg_sl ([.ref h0])).length) Slot.unset).toArray = ls at hl ⊢
  have hl : lv_has ls 3 [(0, .ref h0)] := hl
  refine lv_iconst (v := 0) hx hb dX10_countKeys_0 (by decide) ?_
  refine lv_istore_n (lv' := [(1, .int 0), (0, .ref h0)]) hx hb dX10_countKeys_1 rfl hl (by decide) rfl (fun ls hl => ?_)
  refine lv_iconst (v := 0) hx hb dX10_countKeys_2 (by decide) ?_
  refine lv_istore_n (lv' := [(2, .int 0), (1, .int 0), (0, .ref h0)]) hx hb dX10_countKeys_3 rfl hl (by decide) rfl (fun ls hl => ?_)
  refine lv_iload_n hx hb dX10_countKeys_4 rfl (lv_at hl 0 rfl) ?_
  refine lv_iconst (v := 4) hx hb dX10_countKeys_5 (by decide) ?_
  refine lv_icmp_ge (tgt := 39) hx hb dX10_countKeys_6 (by decide) (fun hc => absurd hc (by decide)) (fun hc => ?_)
  refine lv_aload_n hx hb dX10_countKeys_9 rfl (lv_at hl 2 rfl) ?_
  refine va_get (D := D) (ci := 10) (v := .ref (ca 0)) (C := RX10) (T := TX10) (N := 7) hx hb hts hin_X10 hown hK hP 0 rfl rfl 0 (by decide) (hts (.fieldLink RX10 11 "ClashFree" "tables" "[LClashFree$Table;") (List.mem_of_getElem? (i := 1) rfl)) (fun _ h9 => h9) rfl dX10_countKeys_10 ?_
  refine lv_iload_n hx hb dX10_countKeys_13 rfl (lv_at hl 0 rfl) ?_
  refine va_aldq hx hb hK hP 1 0 rfl rfl (show ¬ ((0 : Int32) < 0 ∨ 4 ≤ Int32.toNatClampNeg 0) by decide) dX10_countKeys_14 ?_
  refine W.eq (g2 := F0 m 15 ls [.null]) rfl ?_
  refine lv_ifnullN (tgt := 33) hx hb dX10_countKeys_15 (by decide) ?_
  refine lv_iinc (v := 1) (lv' := [(2, .int 1), (1, .int 0), (0, .ref h0)]) hx hb dX10_countKeys_33 hl (k := 0) rfl (by decide) (by decide) rfl (fun ls hl => ?_)
  refine lv_goto (tgt := 4) hx hb dX10_countKeys_36 (by decide) ?_
  refine lv_iload_n hx hb dX10_countKeys_4 rfl (lv_at hl 0 rfl) ?_
  refine lv_iconst (v := 4) hx hb dX10_countKeys_5 (by decide) ?_
  refine lv_icmp_ge (tgt := 39) hx hb dX10_countKeys_6 (by decide) (fun hc => absurd hc (by decide)) (fun hc => ?_)
  refine lv_aload_n hx hb dX10_countKeys_9 rfl (lv_at hl 2 rfl) ?_
  refine va_get (D := D) (ci := 10) (v := .ref (ca 0)) (C := RX10) (T := TX10) (N := 7) hx hb hts hin_X10 hown hK hP 0 rfl rfl 0 (by decide) (hts (.fieldLink RX10 11 "ClashFree" "tables" "[LClashFree$Table;") (List.mem_of_getElem? (i := 1) rfl)) (fun _ h9 => h9) rfl dX10_countKeys_10 ?_
  refine lv_iload_n hx hb dX10_countKeys_13 rfl (lv_at hl 0 rfl) ?_
  refine va_aldq hx hb hK hP 1 0 rfl rfl (show ¬ ((1 : Int32) < 0 ∨ 4 ≤ Int32.toNatClampNeg 1) by decide) dX10_countKeys_14 ?_
  refine W.eq (g2 := F0 m 15 ls [.null]) rfl ?_
  refine lv_ifnullN (tgt := 33) hx hb dX10_countKeys_15 (by decide) ?_
  refine lv_iinc (v := 2) (lv' := [(2, .int 2), (1, .int 0), (0, .ref h0)]) hx hb dX10_countKeys_33 hl (k := 0) rfl (by decide) (by decide) rfl (fun ls hl => ?_)
  refine lv_goto (tgt := 4) hx hb dX10_countKeys_36 (by decide) ?_
  refine lv_iload_n hx hb dX10_countKeys_4 rfl (lv_at hl 0 rfl) ?_
  refine lv_iconst (v := 4) hx hb dX10_countKeys_5 (by decide) ?_
  refine lv_icmp_ge (tgt := 39) hx hb dX10_countKeys_6 (by decide) (fun hc => absurd hc (by decide)) (fun hc => ?_)
  refine lv_aload_n hx hb dX10_countKeys_9 rfl (lv_at hl 2 rfl) ?_
  refine va_get (D := D) (ci := 10) (v := .ref (ca 0)) (C := RX10) (T := TX10) (N := 7) hx hb hts hin_X10 hown hK hP 0 rfl rfl 0 (by decide) (hts (.fieldLink RX10 11 "ClashFree" "tables" "[LClashFree$Table;") (List.mem_of_getElem? (i := 1) rfl)) (fun _ h9 => h9) rfl dX10_countKeys_10 ?_
  refine lv_iload_n hx hb dX10_countKeys_13 rfl (lv_at hl 0 rfl) ?_
  refine va_aldq hx hb hK hP 1 0 rfl rfl (show ¬ ((2 : Int32) < 0 ∨ 4 ≤ Int32.toNatClampNeg 2) by decide) dX10_countKeys_14 ?_
  refine W.eq (g2 := F0 m 15 ls [.null]) rfl ?_
  refine lv_ifnullN (tgt := 33) hx hb dX10_countKeys_15 (by decide) ?_
  refine lv_iinc (v := 3) (lv' := [(2, .int 3), (1, .int 0), (0, .ref h0)]) hx hb dX10_countKeys_33 hl (k := 0) rfl (by decide) (by decide) rfl (fun ls hl => ?_)
  refine lv_goto (tgt := 4) hx hb dX10_countKeys_36 (by decide) ?_
  refine lv_iload_n hx hb dX10_countKeys_4 rfl (lv_at hl 0 rfl) ?_
  refine lv_iconst (v := 4) hx hb dX10_countKeys_5 (by decide) ?_
  refine lv_icmp_ge (tgt := 39) hx hb dX10_countKeys_6 (by decide) (fun hc => absurd hc (by decide)) (fun hc => ?_)
  refine lv_aload_n hx hb dX10_countKeys_9 rfl (lv_at hl 2 rfl) ?_
  refine va_get (D := D) (ci := 10) (v := .ref (ca 0)) (C := RX10) (T := TX10) (N := 7) hx hb hts hin_X10 hown hK hP 0 rfl rfl 0 (by decide) (hts (.fieldLink RX10 11 "ClashFree" "tables" "[LClashFree$Table;") (List.mem_of_getElem? (i := 1) rfl)) (fun _ h9 => h9) rfl dX10_countKeys_10 ?_
  refine lv_iload_n hx hb dX10_countKeys_13 rfl (lv_at hl 0 rfl) ?_
  refine va_aldq hx hb hK hP 1 0 rfl rfl (show ¬ ((3 : Int32) < 0 ∨ 4 ≤ Int32.toNatClampNeg 3) by decide) dX10_countKeys_14 ?_
  refine W.eq (g2 := F0 m 15 ls [.null]) rfl ?_
  refine lv_ifnullN (tgt := 33) hx hb dX10_countKeys_15 (by decide) ?_
  refine lv_iinc (v := 4) (lv' := [(2, .int 4), (1, .int 0), (0, .ref h0)]) hx hb dX10_countKeys_33 hl (k := 0) rfl (by decide) (by decide) rfl (fun ls hl => ?_)
  refine lv_goto (tgt := 4) hx hb dX10_countKeys_36 (by decide) ?_
  refine lv_iload_n hx hb dX10_countKeys_4 rfl (lv_at hl 0 rfl) ?_
  refine lv_iconst (v := 4) hx hb dX10_countKeys_5 (by decide) ?_
  refine lv_icmp_ge (tgt := 39) hx hb dX10_countKeys_6 (by decide) (fun hc => ?_) (fun hc => absurd (by decide) hc)
  refine lv_iload_n hx hb dX10_countKeys_39 rfl (lv_at hl 1 rfl) ?_
  exact W.iret (v := 0) hx hb hr (fun t ht hW => ⟨⟨0, (), rfl, rfl, trivial⟩, hS.F ht⟩) hS.2.2 dX10_countKeys_40

def own_c_isImageC : List Cond := []
def wp_c_isImageC : List Cond := .code yX10_isImage cX10_isImage 6 (some .boolean) :: (own_c_isImageC ++ ([] : List Cond))
set_option maxRecDepth 20000 in
theorem inown_c_isImageC : ∀ w ∈ own_c_isImageC, w ∈ lw_tbl := mem_places [] (by decide +kernel)
set_option maxRecDepth 20000 in
theorem in_c_isImageC : ∀ w ∈ wp_c_isImageC, w ∈ lw_tbl := List.forall_mem_cons.mpr ⟨List.mem_of_getElem? (i := 1168) (by decide +kernel), List.forall_mem_append.mpr ⟨inown_c_isImageC, fun _ h => absurd h List.not_mem_nil⟩⟩
set_option maxRecDepth 20000 in
theorem good_c_isImageC : wp_c_isImageC.all goodWord = true := by decide +kernel
set_option maxHeartbeats 4000000 in
set_option maxRecDepth 100000 in
theorem c_isImageC (l : Launch) (D : va_G) (sz : Nat) (h1 : Nat) (cI : ClassId) (f : Nat → Int32)  : Met l yX10_isImage wp_c_isImageC ({ frames := 0, cells := 0, slots := 0, locals := 0 }) (PcR D [.ref h1, .int 0] sz [] []) (va_Qi (fun (r : Int32) (_ : Unit) => r = 0) (fun (_ : Unit) _ => True) (va_A [] sz)) 0 0 (va_A [] sz) := by
  refine Met.ofW (cc := cX10_isImage) (maxL := 6) (ret := (some .boolean)) (by decide) rfl ?_
  intro p e s m args below meth c s₁ B hml hv
  obtain ⟨rfl, hsz, hP, hK⟩ := hv
  have hx := B.exec
  have hb := B.bytes
  have hr := B.returns
  have hts := atoms_spec (ws := wp_c_isImageC) B.pre
  have hown : s.vm.findClass RX10 = some m.cls := findClass_of_methodNamed B.named
  have hlocks := B.notSynchronized
  subst hsz
  generalize hAe : va_A [] s.heap.size = A at ⊢
  have hA : ∀ q : Nat, s.heap.size ≤ q → A q := fun q h => by rw [← hAe]; exact Or.inr h
  have hS : va_S A s.heap s.heap [] := va_S.rf
  have hP : va_P D vwCl [] s.heap := hP
  have hl := lv_entry ([.ref h1, .int 0]) (n := 6) (Nat.le_of_ble_eq_true rfl)
  rw [lg_entry_eq]
  generalize (lg_sl ([.ref h1, .int 0]) ++ List.replicate (6 - (lg_sl ([.ref h1, .int 0])).length) Slot.unset).toArray = ls at hl ⊢
  have hl : lv_has ls 6 [(0, .ref h1), (1, .int 0)] := hl
  refine lv_iload_n hx hb dX10_isImage_0 rfl (lv_at hl 1 rfl) ?_
  refine lv_bipush (v := 14) hx hb dX10_isImage_1 (by decide) ?_
  refine lv_icmp_lt (tgt := 12) hx hb dX10_isImage_3 (by decide) (fun hc => ?_) (fun hc => absurd (by decide) hc)
  refine lv_iconst (v := 0) hx hb dX10_isImage_12 (by decide) ?_
  exact W.zret (v := 0) hx hb hr rfl (fun t ht hW => ⟨⟨0, (), rfl, rfl, trivial⟩, hS.F ht⟩) hS.2.2 dX10_isImage_13

def own_c_writeInt : List Cond := []
def wp_c_writeInt : List Cond := .code yX10_writeInt cX10_writeInt 4 none :: (own_c_writeInt ++ ([] : List Cond))
set_option maxRecDepth 20000 in
theorem inown_c_writeInt : ∀ w ∈ own_c_writeInt, w ∈ lw_tbl := mem_places [] (by decide +kernel)
set_option maxRecDepth 20000 in
theorem in_c_writeInt : ∀ w ∈ wp_c_writeInt, w ∈ lw_tbl := List.forall_mem_cons.mpr ⟨List.mem_of_getElem? (i := 440) (by decide +kernel), List.forall_mem_append.mpr ⟨inown_c_writeInt, fun _ h => absurd h List.not_mem_nil⟩⟩
set_option maxRecDepth 20000 in
theorem good_c_writeInt : wp_c_writeInt.all goodWord = true := by decide +kernel
set_option maxHeartbeats 4000000 in
set_option maxRecDepth 100000 in
theorem c_writeInt (l : Launch) (D : va_G) (sz : Nat) (h1 : Nat) (cI : ClassId) (f : Nat → Int32) (k : Nat) (z1 : Int32) (hk : k + 4 ≤ 1400) : Met l yX10_writeInt wp_c_writeInt ({ frames := 0, cells := 0, slots := 0, locals := 0 }) (PcW D [.ref h1, .int (nI k), .int z1] sz [(h1, .inl (cI, 1400, .inl f))] [(cI, .int)]) (va_Qv (fun (_ : Nat → Int32) => True) (fun (u : Nat → Int32) t => va_P D vwCl [(h1, .inl (cI, 1400, .inl u))] t.heap ∧ va_K D vwCl [(cI, .int)] t ∧ va_D (va_A [(h1, .inl (cI, 1400, .inl f))] sz) [(h1, .inl (cI, 1400, .inl u))]) (va_A [(h1, .inl (cI, 1400, .inl f))] sz)) 0 0 (va_A [(h1, .inl (cI, 1400, .inl f))] sz) := by
  refine Met.ofW (cc := cX10_writeInt) (maxL := 4) (ret := none) (by decide) rfl ?_
  intro p e s m args below meth c s₁ B hml hv
  obtain ⟨rfl, hsz, hP, hK, hD0⟩ := hv
  have hx := B.exec
  have hb := B.bytes
  have hr := B.returns
  have hts := atoms_spec (ws := wp_c_writeInt) B.pre
  have hown : s.vm.findClass RX10 = some m.cls := findClass_of_methodNamed B.named
  have hlocks := B.notSynchronized
  subst hsz
  have hD := hD0.self (sz := s.heap.size)
  generalize hAe : va_A [(h1, .inl (cI, 1400, .inl f))] s.heap.size = A at hD ⊢
  have hA : ∀ q : Nat, s.heap.size ≤ q → A q := fun q h => by rw [← hAe]; exact Or.inr h
  have hS : va_S A s.heap s.heap [] := va_S.rf
  have hP : va_P D vwCl [(h1, .inl (cI, 1400, .inl f))] s.heap := hP
  have hl := lv_entry ([.ref h1, .int (nI k), .int z1]) (n := 4) (Nat.le_of_ble_eq_true rfl)
  rw [lg_entry_eq]
  generalize (lg_sl ([.ref h1, .int (nI k), .int z1]) ++ List.replicate (4 - (lg_sl ([.ref h1, .int (nI k), .int z1])).length) Slot.unset).toArray = ls at hl ⊢
  have hl : lv_has ls 4 [(0, .ref h1), (1, .int (nI k)), (2, .int z1)] := hl
  refine lv_iload_n hx hb dX10_writeInt_0 rfl (lv_at hl 1 rfl) ?_
  refine lv_if_lt (tgt := 12) hx hb dX10_writeInt_1 (by decide) (fun hc => absurd hc (nI_pos (by omega))) (fun hc => ?_)
  refine lv_iload_n hx hb dX10_writeInt_4 rfl (lv_at hl 1 rfl) ?_
  refine lv_iconst (v := 4) hx hb dX10_writeInt_5 (by decide) ?_
  refine lv_iadd hx hb dX10_writeInt_6 ?_
  refine lv_topi (fun v1 ev1 => ?_)
  obtain rfl : v1 = nI (k + 4) := ev1.trans (nI_add k 4)
  refine lv_aload_n hx hb dX10_writeInt_7 rfl (lv_at hl 0 rfl) ?_
  refine va_alen (v := 1400) hx hb hK hP 0 0 rfl rfl rfl dX10_writeInt_8 ?_
  refine lv_icmp_le (tgt := 13) hx hb dX10_writeInt_9 (by decide) (fun hc => ?_) (fun hc => absurd (nI_le (b := 1400) (by omega) (by decide)) hc)
  refine lv_iconst (v := 0) hx hb dX10_writeInt_13 (by decide) ?_
  refine lv_istore_n (lv' := [(3, .int 0), (0, .ref h1), (1, .int (nI k)), (2, .int z1)]) hx hb dX10_writeInt_14 rfl hl (by decide) rfl (fun ls hl => ?_)
  refine lv_iload_n hx hb dX10_writeInt_15 rfl (lv_at hl 0 rfl) ?_
  refine lv_iconst (v := 4) hx hb dX10_writeInt_16 (by decide) ?_
  refine lv_icmp_ge (tgt := 44) hx hb dX10_writeInt_17 (by decide) (fun hc => absurd hc (by decide)) (fun hc => ?_)
  refine lv_aload_n hx hb dX10_writeInt_20 rfl (lv_at hl 1 rfl) ?_
  refine lv_iload_n hx hb dX10_writeInt_21 rfl (lv_at hl 2 rfl) ?_
  refine lv_iload_n hx hb dX10_writeInt_22 rfl (lv_at hl 0 rfl) ?_
  refine lv_iadd hx hb dX10_writeInt_23 ?_
  refine lv_topi (fun v2 ev2 => ?_)
  obtain rfl : v2 = nI (k + 0) := ev2.trans (nI_add k 0)
  refine lv_iload_n hx hb dX10_writeInt_24 rfl (lv_at hl 3 rfl) ?_
  refine lv_bipush (v := 24) hx hb dX10_writeInt_25 (by decide) ?_
  refine lv_bipush (v := 8) hx hb dX10_writeInt_27 (by decide) ?_
  refine lv_iload_n hx hb dX10_writeInt_29 rfl (lv_at hl 0 rfl) ?_
  refine lv_imul hx hb dX10_writeInt_30 ?_
  refine lv_topi (fun v3 ev3 => ?_)
  obtain rfl : v3 = 0 := ev3.trans (by decide)
  refine lv_isub hx hb dX10_writeInt_31 ?_
  refine lv_topi (fun v4 ev4 => ?_)
  obtain rfl : v4 = 24 := ev4.trans (by decide)
  refine lv_iushr hx hb dX10_writeInt_32 rfl ?_
  refine lv_topi (fun v5 ev5 => ?_)
  refine lv_sipush (v := 255) hx hb dX10_writeInt_33 (by decide) ?_
  refine lv_iand hx hb dX10_writeInt_36 ?_
  refine lv_topi (fun v6 ev6 => ?_)
  refine va_iast hx hb hK hP hD hS 0 0 rfl rfl (vp_in_nI (by omega) (by decide)) dX10_writeInt_37 (fun H locs hP hD hS => ?_)
  have hP : va_P D vwCl [(h1, .inl (cI, 1400, .inl (upd f (Int32.toNatClampNeg (nI (k + 0))) v6)))] H := hP
  have hD : va_D A [(h1, .inl (cI, 1400, .inl (upd f (Int32.toNatClampNeg (nI (k + 0))) v6)))] := hD
  generalize upd f (Int32.toNatClampNeg (nI (k + 0))) v6 = g7 at hP hD
  refine lv_iinc (v := 1) (lv' := [(3, .int 1), (0, .ref h1), (1, .int (nI k)), (2, .int z1)]) hx hb dX10_writeInt_38 hl (k := 0) rfl (by decide) (by decide) rfl (fun ls hl => ?_)
  refine lv_goto (tgt := 15) hx hb dX10_writeInt_41 (by decide) ?_
  refine lv_iload_n hx hb dX10_writeInt_15 rfl (lv_at hl 0 rfl) ?_
  refine lv_iconst (v := 4) hx hb dX10_writeInt_16 (by decide) ?_
  refine lv_icmp_ge (tgt := 44) hx hb dX10_writeInt_17 (by decide) (fun hc => absurd hc (by decide)) (fun hc => ?_)
  refine lv_aload_n hx hb dX10_writeInt_20 rfl (lv_at hl 1 rfl) ?_
  refine lv_iload_n hx hb dX10_writeInt_21 rfl (lv_at hl 2 rfl) ?_
  refine lv_iload_n hx hb dX10_writeInt_22 rfl (lv_at hl 0 rfl) ?_
  refine lv_iadd hx hb dX10_writeInt_23 ?_
  refine lv_topi (fun v8 ev8 => ?_)
  obtain rfl : v8 = nI (k + 1) := ev8.trans (nI_add k 1)
  refine lv_iload_n hx hb dX10_writeInt_24 rfl (lv_at hl 3 rfl) ?_
  refine lv_bipush (v := 24) hx hb dX10_writeInt_25 (by decide) ?_
  refine lv_bipush (v := 8) hx hb dX10_writeInt_27 (by decide) ?_
  refine lv_iload_n hx hb dX10_writeInt_29 rfl (lv_at hl 0 rfl) ?_
  refine lv_imul hx hb dX10_writeInt_30 ?_
  refine lv_topi (fun v9 ev9 => ?_)
  obtain rfl : v9 = 8 := ev9.trans (by decide)
  refine lv_isub hx hb dX10_writeInt_31 ?_
  refine lv_topi (fun v10 ev10 => ?_)
  obtain rfl : v10 = 16 := ev10.trans (by decide)
  refine lv_iushr hx hb dX10_writeInt_32 rfl ?_
  refine lv_topi (fun v11 ev11 => ?_)
  refine lv_sipush (v := 255) hx hb dX10_writeInt_33 (by decide) ?_
  refine lv_iand hx hb dX10_writeInt_36 ?_
  refine lv_topi (fun v12 ev12 => ?_)
  refine va_iast hx hb hK hP hD hS 0 0 rfl rfl (vp_in_nI (by omega) (by decide)) dX10_writeInt_37 (fun H locs hP hD hS => ?_)
  have hP : va_P D vwCl [(h1, .inl (cI, 1400, .inl (upd g7 (Int32.toNatClampNeg (nI (k + 1))) v12)))] H := hP
  have hD : va_D A [(h1, .inl (cI, 1400, .inl (upd g7 (Int32.toNatClampNeg (nI (k + 1))) v12)))] := hD
  generalize upd g7 (Int32.toNatClampNeg (nI (k + 1))) v12 = g13 at hP hD
  refine lv_iinc (v := 2) (lv' := [(3, .int 2), (0, .ref h1), (1, .int (nI k)), (2, .int z1)]) hx hb dX10_writeInt_38 hl (k := 0) rfl (by decide) (by decide) rfl (fun ls hl => ?_)
  refine lv_goto (tgt := 15) hx hb dX10_writeInt_41 (by decide) ?_
  refine lv_iload_n hx hb dX10_writeInt_15 rfl (lv_at hl 0 rfl) ?_
  refine lv_iconst (v := 4) hx hb dX10_writeInt_16 (by decide) ?_
  refine lv_icmp_ge (tgt := 44) hx hb dX10_writeInt_17 (by decide) (fun hc => absurd hc (by decide)) (fun hc => ?_)
  refine lv_aload_n hx hb dX10_writeInt_20 rfl (lv_at hl 1 rfl) ?_
  refine lv_iload_n hx hb dX10_writeInt_21 rfl (lv_at hl 2 rfl) ?_
  refine lv_iload_n hx hb dX10_writeInt_22 rfl (lv_at hl 0 rfl) ?_
  refine lv_iadd hx hb dX10_writeInt_23 ?_
  refine lv_topi (fun v14 ev14 => ?_)
  obtain rfl : v14 = nI (k + 2) := ev14.trans (nI_add k 2)
  refine lv_iload_n hx hb dX10_writeInt_24 rfl (lv_at hl 3 rfl) ?_
  refine lv_bipush (v := 24) hx hb dX10_writeInt_25 (by decide) ?_
  refine lv_bipush (v := 8) hx hb dX10_writeInt_27 (by decide) ?_
  refine lv_iload_n hx hb dX10_writeInt_29 rfl (lv_at hl 0 rfl) ?_
  refine lv_imul hx hb dX10_writeInt_30 ?_
  refine lv_topi (fun v15 ev15 => ?_)
  obtain rfl : v15 = 16 := ev15.trans (by decide)
  refine lv_isub hx hb dX10_writeInt_31 ?_
  refine lv_topi (fun v16 ev16 => ?_)
  obtain rfl : v16 = 8 := ev16.trans (by decide)
  refine lv_iushr hx hb dX10_writeInt_32 rfl ?_
  refine lv_topi (fun v17 ev17 => ?_)
  refine lv_sipush (v := 255) hx hb dX10_writeInt_33 (by decide) ?_
  refine lv_iand hx hb dX10_writeInt_36 ?_
  refine lv_topi (fun v18 ev18 => ?_)
  refine va_iast hx hb hK hP hD hS 0 0 rfl rfl (vp_in_nI (by omega) (by decide)) dX10_writeInt_37 (fun H locs hP hD hS => ?_)
  have hP : va_P D vwCl [(h1, .inl (cI, 1400, .inl (upd g13 (Int32.toNatClampNeg (nI (k + 2))) v18)))] H := hP
  have hD : va_D A [(h1, .inl (cI, 1400, .inl (upd g13 (Int32.toNatClampNeg (nI (k + 2))) v18)))] := hD
  generalize upd g13 (Int32.toNatClampNeg (nI (k + 2))) v18 = g19 at hP hD
  refine lv_iinc (v := 3) (lv' := [(3, .int 3), (0, .ref h1), (1, .int (nI k)), (2, .int z1)]) hx hb dX10_writeInt_38 hl (k := 0) rfl (by decide) (by decide) rfl (fun ls hl => ?_)
  refine lv_goto (tgt := 15) hx hb dX10_writeInt_41 (by decide) ?_
  refine lv_iload_n hx hb dX10_writeInt_15 rfl (lv_at hl 0 rfl) ?_
  refine lv_iconst (v := 4) hx hb dX10_writeInt_16 (by decide) ?_
  refine lv_icmp_ge (tgt := 44) hx hb dX10_writeInt_17 (by decide) (fun hc => absurd hc (by decide)) (fun hc => ?_)
  refine lv_aload_n hx hb dX10_writeInt_20 rfl (lv_at hl 1 rfl) ?_
  refine lv_iload_n hx hb dX10_writeInt_21 rfl (lv_at hl 2 rfl) ?_
  refine lv_iload_n hx hb dX10_writeInt_22 rfl (lv_at hl 0 rfl) ?_
  refine lv_iadd hx hb dX10_writeInt_23 ?_
  refine lv_topi (fun v20 ev20 => ?_)
  obtain rfl : v20 = nI (k + 3) := ev20.trans (nI_add k 3)
  refine lv_iload_n hx hb dX10_writeInt_24 rfl (lv_at hl 3 rfl) ?_
  refine lv_bipush (v := 24) hx hb dX10_writeInt_25 (by decide) ?_
  refine lv_bipush (v := 8) hx hb dX10_writeInt_27 (by decide) ?_
  refine lv_iload_n hx hb dX10_writeInt_29 rfl (lv_at hl 0 rfl) ?_
  refine lv_imul hx hb dX10_writeInt_30 ?_
  refine lv_topi (fun v21 ev21 => ?_)
  obtain rfl : v21 = 24 := ev21.trans (by decide)
  refine lv_isub hx hb dX10_writeInt_31 ?_
  refine lv_topi (fun v22 ev22 => ?_)
  obtain rfl : v22 = 0 := ev22.trans (by decide)
  refine lv_iushr hx hb dX10_writeInt_32 rfl ?_
  refine lv_topi (fun v23 ev23 => ?_)
  refine lv_sipush (v := 255) hx hb dX10_writeInt_33 (by decide) ?_
  refine lv_iand hx hb dX10_writeInt_36 ?_
  refine lv_topi (fun v24 ev24 => ?_)
  refine va_iast hx hb hK hP hD hS 0 0 rfl rfl (vp_in_nI (by omega) (by decide)) dX10_writeInt_37 (fun H locs hP hD hS => ?_)
  have hP : va_P D vwCl [(h1, .inl (cI, 1400, .inl (upd g19 (Int32.toNatClampNeg (nI (k + 3))) v24)))] H := hP
  have hD : va_D A [(h1, .inl (cI, 1400, .inl (upd g19 (Int32.toNatClampNeg (nI (k + 3))) v24)))] := hD
  generalize upd g19 (Int32.toNatClampNeg (nI (k + 3))) v24 = g25 at hP hD
  refine lv_iinc (v := 4) (lv' := [(3, .int 4), (0, .ref h1), (1, .int (nI k)), (2, .int z1)]) hx hb dX10_writeInt_38 hl (k := 0) rfl (by decide) (by decide) rfl (fun ls hl => ?_)
  refine lv_goto (tgt := 15) hx hb dX10_writeInt_41 (by decide) ?_
  refine lv_iload_n hx hb dX10_writeInt_15 rfl (lv_at hl 0 rfl) ?_
  refine lv_iconst (v := 4) hx hb dX10_writeInt_16 (by decide) ?_
  refine lv_icmp_ge (tgt := 44) hx hb dX10_writeInt_17 (by decide) (fun hc => ?_) (fun hc => absurd (by decide) hc)
  exact W.vret hx hb hr (fun t ht hW => ⟨⟨g25, rfl, trivial, by rw [ht]; exact hP.sub [0] rfl, va_K.moved hW.alike (hK.sub [0] rfl), hD.sub [0] (by decide) rfl⟩, hS.F ht⟩) hS.2.2 dX10_writeInt_44
end
section
def own_c_X10_put : List Cond := [.methodLink RX10 74 yX10_tableAt, .instanceMethod yX10_tableAt, .selects RX10 yX10_tableAt yX10_tableAt, .initialized RX10]
def wp_c_X10_put : List Cond := .code yX10_put cX10_put 5 (some .int) :: (own_c_X10_put ++ (wp_c_tableAt ++ ([] : List Cond)))
set_option maxRecDepth 20000 in
theorem inown_c_X10_put : ∀ w ∈ own_c_X10_put, w ∈ lw_tbl := mem_places [610, 612, 2, 106] (by decide +kernel)
set_option maxRecDepth 20000 in
theorem in_c_X10_put : ∀ w ∈ wp_c_X10_put, w ∈ lw_tbl := List.forall_mem_cons.mpr ⟨List.mem_of_getElem? (i := 609) (by decide +kernel), List.forall_mem_append.mpr ⟨inown_c_X10_put, List.forall_mem_append.mpr ⟨in_c_tableAt, fun _ h => absurd h List.not_mem_nil⟩⟩⟩
set_option maxRecDepth 20000 in
theorem good_c_X10_put : wp_c_X10_put.all goodWord = true := by decide +kernel
set_option maxRecDepth 20000 in
theorem g_c_X10_put_c_tableAt_74 : GoodIn wp_c_X10_put (wsV RX10 74 RX10 yX10_tableAt wp_c_tableAt) := goodIn_sub (List.forall_mem_append.mpr ⟨List.forall_mem_cons.mpr ⟨(List.mem_of_getElem? (i := 1) rfl), List.forall_mem_cons.mpr ⟨(List.mem_of_getElem? (i := 2) rfl), List.forall_mem_cons.mpr ⟨(List.mem_of_getElem? (i := 3) rfl), List.forall_mem_cons.mpr ⟨(List.mem_of_getElem? (i := 4) rfl), fun _ h => absurd h List.not_mem_nil⟩⟩⟩⟩, (fun _ h => (List.mem_cons_of_mem _ (List.mem_append_right _ (List.mem_append_left _ h))))⟩) (by decide +kernel)
set_option maxHeartbeats 4000000 in
set_option maxRecDepth 100000 in
theorem c_X10_put (l : Launch) (D : va_G) (sz : Nat) (h0 : Nat) (ca : Nat → Nat) (cT : ClassId) (tp : Int32) (z1 : Int32) (z2 : Int32) (z3 : Int32)  : Met l yX10_put wp_c_X10_put ({ frames := 2, cells := 0, slots := 0, locals := 41 }) (PcR D [.ref h0, .int z1, .int z2, .int z3] sz [(h0, .inr (10, [.ref (ca 0), .ref (ca 1), .int tp, .ref (ca 3), .ref (ca 4), .ref (ca 5), .ref (ca 6)])), (ca 0, .inl (cT, 4, .inr (.inr (.inr (.inr (fun _ => none))))))] [(cT, .object RX9)]) (va_Qi (fun (r : Int32) (_ : Unit) => r = (-2)) (fun (_ : Unit) _ => True) (va_A [] sz)) 0 0 (va_A [] sz) := by
  refine Met.ofW (cc := cX10_put) (maxL := 5) (ret := (some .int)) (by decide) rfl ?_
  intro p e s m args below meth c s₁ B hml hv
  obtain ⟨rfl, hsz, hP, hK⟩ := hv
  have hx := B.exec
  have hb := B.bytes
  have hr := B.returns
  have hts := atoms_spec (ws := wp_c_X10_put) B.pre
  have hown : s.vm.findClass RX10 = some m.cls := findClass_of_methodNamed B.named
  have hlocks := B.notSynchronized
  subst hsz
  generalize hAe : va_A [] s.heap.size = A at ⊢
  have hA : ∀ q : Nat, s.heap.size ≤ q → A q := fun q h => by rw [← hAe]; exact Or.inr h
  have hS : va_S A s.heap s.heap [] := va_S.rf
  have hP : va_P D vwCl [(h0, .inr (10, [.ref (ca 0), .ref (ca 1), .int tp, .ref (ca 3), .ref (ca 4), .ref (ca 5), .ref (ca 6)])), (ca 0, .inl (cT, 4, .inr (.inr (.inr (.inr (fun _ => none))))))] s.heap := hP
  have hl := lv_entry ([.ref h0, .int z1, .int z2, .int z3]) (n := 5) (Nat.le_of_ble_eq_true rfl)
  rw [lg_entry_eq]
  generalize (lg_sl ([.ref h0, .int z1, .int z2, .int z3]) ++ List.replicate (5 - (lg_sl ([.ref h0, .int z1, .int z2, .int z3])).length) Slot.unset).toArray = ls at hl ⊢
  have hl : lv_has ls 5 [(0, .ref h0), (1, .int z1), (2, .int z2), (3, .int z3)] := hl
  refine lv_aload_n hx hb dX10_put_0 rfl (lv_at hl 0 rfl) ?_
  refine lv_iload_n hx hb dX10_put_1 rfl (lv_at hl 1 rfl) ?_
  have hPc := hP.sub (ws' := [(h0, .inr (10, [.ref (ca 0), .ref (ca 1), .int tp, .ref (ca 3), .ref (ca 4), .ref (ca 5), .ref (ca 6)])), (ca 0, .inl (cT, 4, .inr (.inr (.inr (.inr (fun _ => none))))))]) [0, 1] rfl
  have hKc := hK.sub (tys' := [(cT, .object RX9)]) [0] rfl
  have hFc := va_free0 hS hA
  refine va_callq (va_runV (As := [.int z1]) (rest := []) ⟨hx, hb, hml, hown, hts⟩ (c_tableAt l D _ h0 ca cT tp z1) (cwV 1 hts g_c_X10_put_c_tableAt_74 rfl rfl rfl (by decide +kernel) ⟨(Nat.le_of_ble_eq_true rfl), (Nat.le_of_ble_eq_true rfl)⟩) (PcR_V (q0 := 0) hPc hKc rfl rfl) rfl rfl hl.1 rfl (lv_room (Nat.le_of_ble_eq_true rfl)) dX10_put_2 ⟨(Nat.le_of_ble_eq_true rfl), (Nat.le_of_ble_eq_true rfl)⟩) hS (fun q _ h => hFc q h) hFc (fun r1 uu tt H locs htt hvm hw hB hz1 hk1 hS => ?_)
  have hP := va_keep hP hk1
  try dsimp only at hw
  clear hB hz1 hk1 hFc hPc hKc
  obtain rfl : r1 = none := hw
  refine W.eq (g2 := F0 m 5 ls [.null]) rfl ?_
  refine lv_astoreN (lv' := [(4, .null), (0, .ref h0), (1, .int z1), (2, .int z2), (3, .int z3)]) hx hb dX10_put_5 hl (by decide) rfl (fun ls hl => ?_)
  refine lv_aloadN hx hb dX10_put_7 (lv_at hl 0 rfl) ?_
  refine lv_ifnullN (tgt := 19) hx hb dX10_put_9 (by decide) ?_
  refine lv_bipush (v := (-2)) hx hb dX10_put_19 (by decide) ?_
  exact W.iret (v := (-2)) hx hb hr (fun t ht hW => ⟨⟨(-2), (), rfl, rfl, trivial⟩, hS.F ht⟩) hS.2.2 dX10_put_21

def own_c_X10_get : List Cond := [.methodLink RX10 74 yX10_tableAt, .instanceMethod yX10_tableAt, .selects RX10 yX10_tableAt yX10_tableAt, .initialized RX10, .constantLong RX10 91 (-1000000000000000)]
def wp_c_X10_get : List Cond := .code yX10_get cX10_get 5 (some .long) :: (own_c_X10_get ++ (wp_c_tableAt ++ ([] : List Cond)))
set_option maxRecDepth 20000 in
theorem inown_c_X10_get : ∀ w ∈ own_c_X10_get, w ∈ lw_tbl := mem_places [610, 612, 2, 106, 691] (by decide +kernel)
set_option maxRecDepth 20000 in
theorem in_c_X10_get : ∀ w ∈ wp_c_X10_get, w ∈ lw_tbl := List.forall_mem_cons.mpr ⟨List.mem_of_getElem? (i := 690) (by decide +kernel), List.forall_mem_append.mpr ⟨inown_c_X10_get, List.forall_mem_append.mpr ⟨in_c_tableAt, fun _ h => absurd h List.not_mem_nil⟩⟩⟩
set_option maxRecDepth 20000 in
theorem good_c_X10_get : wp_c_X10_get.all goodWord = true := by decide +kernel
set_option maxRecDepth 20000 in
theorem g_c_X10_get_c_tableAt_74 : GoodIn wp_c_X10_get (wsV RX10 74 RX10 yX10_tableAt wp_c_tableAt) := goodIn_sub (List.forall_mem_append.mpr ⟨List.forall_mem_cons.mpr ⟨(List.mem_of_getElem? (i := 1) rfl), List.forall_mem_cons.mpr ⟨(List.mem_of_getElem? (i := 2) rfl), List.forall_mem_cons.mpr ⟨(List.mem_of_getElem? (i := 3) rfl), List.forall_mem_cons.mpr ⟨(List.mem_of_getElem? (i := 4) rfl), fun _ h => absurd h List.not_mem_nil⟩⟩⟩⟩, (fun _ h => (List.mem_cons_of_mem _ (List.mem_append_right _ (List.mem_append_left _ h))))⟩) (by decide +kernel)
set_option maxHeartbeats 4000000 in
set_option maxRecDepth 100000 in
theorem c_X10_get (l : Launch) (D : va_G) (sz : Nat) (h0 : Nat) (ca : Nat → Nat) (cT : ClassId) (tp : Int32) (z1 : Int32) (z2 : Int32)  : Met l yX10_get wp_c_X10_get ({ frames := 2, cells := 0, slots := 0, locals := 41 }) (PcR D [.ref h0, .int z1, .int z2] sz [(h0, .inr (10, [.ref (ca 0), .ref (ca 1), .int tp, .ref (ca 3), .ref (ca 4), .ref (ca 5), .ref (ca 6)])), (ca 0, .inl (cT, 4, .inr (.inr (.inr (.inr (fun _ => none))))))] [(cT, .object RX9)]) (va_Ql (fun (r : Int64) (_ : Unit) => r = (-1000000000000000)) (fun (_ : Unit) _ => True) (va_A [] sz)) 0 0 (va_A [] sz) := by
  refine Met.ofW (cc := cX10_get) (maxL := 5) (ret := (some .long)) (by decide) rfl ?_
  intro p e s m args below meth c s₁ B hml hv
  obtain ⟨rfl, hsz, hP, hK⟩ := hv
  have hx := B.exec
  have hb := B.bytes
  have hr := B.returns
  have hts := atoms_spec (ws := wp_c_X10_get) B.pre
  have hown : s.vm.findClass RX10 = some m.cls := findClass_of_methodNamed B.named
  have hlocks := B.notSynchronized
  subst hsz
  generalize hAe : va_A [] s.heap.size = A at ⊢
  have hA : ∀ q : Nat, s.heap.size ≤ q → A q := fun q h => by rw [← hAe]; exact Or.inr h
  have hS : va_S A s.heap s.heap [] := va_S.rf
  have hP : va_P D vwCl [(h0, .inr (10, [.ref (ca 0), .ref (ca 1), .int tp, .ref (ca 3), .ref (ca 4), .ref (ca 5), .ref (ca 6)])), (ca 0, .inl (cT, 4, .inr (.inr (.inr (.inr (fun _ => none))))))] s.heap := hP
  have hl := lv_entry ([.ref h0, .int z1, .int z2]) (n := 5) (Nat.le_of_ble_eq_true rfl)
  rw [lg_entry_eq]
  generalize (lg_sl ([.ref h0, .int z1, .int z2]) ++ List.replicate (5 - (lg_sl ([.ref h0, .int z1, .int z2])).length) Slot.unset).toArray = ls at hl ⊢
  have hl : lv_has ls 5 [(0, .ref h0), (1, .int z1), (2, .int z2)] := hl
  refine lv_aload_n hx hb dX10_get_0 rfl (lv_at hl 0 rfl) ?_
  refine lv_iload_n hx hb dX10_get_1 rfl (lv_at hl 1 rfl) ?_
  have hPc := hP.sub (ws' := [(h0, .inr (10, [.ref (ca 0), .ref (ca 1), .int tp, .ref (ca 3), .ref (ca 4), .ref (ca 5), .ref (ca 6)])), (ca 0, .inl (cT, 4, .inr (.inr (.inr (.inr (fun _ => none))))))]) [0, 1] rfl
  have hKc := hK.sub (tys' := [(cT, .object RX9)]) [0] rfl
  have hFc := va_free0 hS hA
  refine va_callq (va_runV (As := [.int z1]) (rest := []) ⟨hx, hb, hml, hown, hts⟩ (c_tableAt l D _ h0 ca cT tp z1) (cwV 1 hts g_c_X10_get_c_tableAt_74 rfl rfl rfl (by decide +kernel) ⟨(Nat.le_of_ble_eq_true rfl), (Nat.le_of_ble_eq_true rfl)⟩) (PcR_V (q0 := 0) hPc hKc rfl rfl) rfl rfl hl.1 rfl (lv_room (Nat.le_of_ble_eq_true rfl)) dX10_get_2 ⟨(Nat.le_of_ble_eq_true rfl), (Nat.le_of_ble_eq_true rfl)⟩) hS (fun q _ h => hFc q h) hFc (fun r1 uu tt H locs htt hvm hw hB hz1 hk1 hS => ?_)
  have hP := va_keep hP hk1
  try dsimp only at hw
  clear hB hz1 hk1 hFc hPc hKc
  obtain rfl : r1 = none := hw
  refine W.eq (g2 := F0 m 5 ls [.null]) rfl ?_
  refine lv_astore_nN (lv' := [(3, .null), (0, .ref h0), (1, .int z1), (2, .int z2)]) hx hb dX10_get_5 rfl hl (by decide) rfl (fun ls hl => ?_)
  refine lv_aload_nN hx hb dX10_get_6 rfl (lv_at hl 0 rfl) ?_
  refine lv_ifnullN (tgt := 17) hx hb dX10_get_7 (by decide) ?_
  refine lv_ldc2 (v := (-1000000000000000)) hx hb hown (hts (.constantLong RX10 91 (-1000000000000000)) (List.mem_of_getElem? (i := 5) rfl)) dX10_get_17 ?_
  exact W.lret (v := (-1000000000000000)) hx hb hr (fun t ht hW => ⟨⟨(-1000000000000000), (), rfl, rfl, trivial⟩, hS.F ht⟩) hS.2.2 dX10_get_20

def own_c_X10_drop : List Cond := [.methodLink RX10 74 yX10_tableAt, .instanceMethod yX10_tableAt, .selects RX10 yX10_tableAt yX10_tableAt, .initialized RX10]
def wp_c_X10_drop : List Cond := .code yX10_drop cX10_drop 4 (some .int) :: (own_c_X10_drop ++ (wp_c_tableAt ++ ([] : List Cond)))
set_option maxRecDepth 20000 in
theorem inown_c_X10_drop : ∀ w ∈ own_c_X10_drop, w ∈ lw_tbl := mem_places [610, 612, 2, 106] (by decide +kernel)
set_option maxRecDepth 20000 in
theorem in_c_X10_drop : ∀ w ∈ wp_c_X10_drop, w ∈ lw_tbl := List.forall_mem_cons.mpr ⟨List.mem_of_getElem? (i := 700) (by decide +kernel), List.forall_mem_append.mpr ⟨inown_c_X10_drop, List.forall_mem_append.mpr ⟨in_c_tableAt, fun _ h => absurd h List.not_mem_nil⟩⟩⟩
set_option maxRecDepth 20000 in
theorem good_c_X10_drop : wp_c_X10_drop.all goodWord = true := by decide +kernel
set_option maxRecDepth 20000 in
theorem g_c_X10_drop_c_tableAt_74 : GoodIn wp_c_X10_drop (wsV RX10 74 RX10 yX10_tableAt wp_c_tableAt) := goodIn_sub (List.forall_mem_append.mpr ⟨List.forall_mem_cons.mpr ⟨(List.mem_of_getElem? (i := 1) rfl), List.forall_mem_cons.mpr ⟨(List.mem_of_getElem? (i := 2) rfl), List.forall_mem_cons.mpr ⟨(List.mem_of_getElem? (i := 3) rfl), List.forall_mem_cons.mpr ⟨(List.mem_of_getElem? (i := 4) rfl), fun _ h => absurd h List.not_mem_nil⟩⟩⟩⟩, (fun _ h => (List.mem_cons_of_mem _ (List.mem_append_right _ (List.mem_append_left _ h))))⟩) (by decide +kernel)
set_option maxHeartbeats 4000000 in
set_option maxRecDepth 100000 in
theorem c_X10_drop (l : Launch) (D : va_G) (sz : Nat) (h0 : Nat) (ca : Nat → Nat) (cT : ClassId) (tp : Int32) (z1 : Int32) (z2 : Int32)  : Met l yX10_drop wp_c_X10_drop ({ frames := 2, cells := 0, slots := 0, locals := 41 }) (PcR D [.ref h0, .int z1, .int z2] sz [(h0, .inr (10, [.ref (ca 0), .ref (ca 1), .int tp, .ref (ca 3), .ref (ca 4), .ref (ca 5), .ref (ca 6)])), (ca 0, .inl (cT, 4, .inr (.inr (.inr (.inr (fun _ => none))))))] [(cT, .object RX9)]) (va_Qi (fun (r : Int32) (_ : Unit) => r = (-2)) (fun (_ : Unit) _ => True) (va_A [] sz)) 0 0 (va_A [] sz) := by
  refine Met.ofW (cc := cX10_drop) (maxL := 4) (ret := (some .int)) (by decide) rfl ?_
  intro p e s m args below meth c s₁ B hml hv
  obtain ⟨rfl, hsz, hP, hK⟩ := hv
  have hx := B.exec
  have hb := B.bytes
  have hr := B.returns
  have hts := atoms_spec (ws := wp_c_X10_drop) B.pre
  have hown : s.vm.findClass RX10 = some m.cls := findClass_of_methodNamed B.named
  have hlocks := B.notSynchronized
  subst hsz
  generalize hAe : va_A [] s.heap.size = A at ⊢
  have hA : ∀ q : Nat, s.heap.size ≤ q → A q := fun q h => by rw [← hAe]; exact Or.inr h
  have hS : va_S A s.heap s.heap [] := va_S.rf
  have hP : va_P D vwCl [(h0, .inr (10, [.ref (ca 0), .ref (ca 1), .int tp, .ref (ca 3), .ref (ca 4), .ref (ca 5), .ref (ca 6)])), (ca 0, .inl (cT, 4, .inr (.inr (.inr (.inr (fun _ => none))))))] s.heap := hP
  have hl := lv_entry ([.ref h0, .int z1, .int z2]) (n := 4) (Nat.le_of_ble_eq_true rfl)
  rw [lg_entry_eq]
  generalize (lg_sl ([.ref h0, .int z1, .int z2]) ++ List.replicate (4 - (lg_sl ([.ref h0, .int z1, .int z2])).length) Slot.unset).toArray = ls at hl ⊢
  have hl : lv_has ls 4 [(0, .ref h0), (1, .int z1), (2, .int z2)] := hl
  refine lv_aload_n hx hb dX10_drop_0 rfl (lv_at hl 0 rfl) ?_
  refine lv_iload_n hx hb dX10_drop_1 rfl (lv_at hl 1 rfl) ?_
  have hPc := hP.sub (ws' := [(h0, .inr (10, [.ref (ca 0), .ref (ca 1), .int tp, .ref (ca 3), .ref (ca 4), .ref (ca 5), .ref (ca 6)])), (ca 0, .inl (cT, 4, .inr (.inr (.inr (.inr (fun _ => none))))))]) [0, 1] rfl
  have hKc := hK.sub (tys' := [(cT, .object RX9)]) [0] rfl
  have hFc := va_free0 hS hA
  refine va_callq (va_runV (As := [.int z1]) (rest := []) ⟨hx, hb, hml, hown, hts⟩ (c_tableAt l D _ h0 ca cT tp z1) (cwV 1 hts g_c_X10_drop_c_tableAt_74 rfl rfl rfl (by decide +kernel) ⟨(Nat.le_of_ble_eq_true rfl), (Nat.le_of_ble_eq_true rfl)⟩) (PcR_V (q0 := 0) hPc hKc rfl rfl) rfl rfl hl.1 rfl (lv_room (Nat.le_of_ble_eq_true rfl)) dX10_drop_2 ⟨(Nat.le_of_ble_eq_true rfl), (Nat.le_of_ble_eq_true rfl)⟩) hS (fun q _ h => hFc q h) hFc (fun r1 uu tt H locs htt hvm hw hB hz1 hk1 hS => ?_)
  have hP := va_keep hP hk1
  try dsimp only at hw
  clear hB hz1 hk1 hFc hPc hKc
  obtain rfl : r1 = none := hw
  refine W.eq (g2 := F0 m 5 ls [.null]) rfl ?_
  refine lv_astore_nN (lv' := [(3, .null), (0, .ref h0), (1, .int z1), (2, .int z2)]) hx hb dX10_drop_5 rfl hl (by decide) rfl (fun ls hl => ?_)
  refine lv_aload_nN hx hb dX10_drop_6 rfl (lv_at hl 0 rfl) ?_
  refine lv_ifnullN (tgt := 17) hx hb dX10_drop_7 (by decide) ?_
  refine lv_bipush (v := (-2)) hx hb dX10_drop_17 (by decide) ?_
  exact W.iret (v := (-2)) hx hb hr (fun t ht hW => ⟨⟨(-2), (), rfl, rfl, trivial⟩, hS.F ht⟩) hS.2.2 dX10_drop_19

def own_c_X10_build : List Cond := [.methodLink RX10 74 yX10_tableAt, .instanceMethod yX10_tableAt, .selects RX10 yX10_tableAt yX10_tableAt, .initialized RX10]
def wp_c_X10_build : List Cond := .code yX10_build cX10_build 4 (some .int) :: (own_c_X10_build ++ (wp_c_tableAt ++ ([] : List Cond)))
set_option maxRecDepth 20000 in
theorem inown_c_X10_build : ∀ w ∈ own_c_X10_build, w ∈ lw_tbl := mem_places [610, 612, 2, 106] (by decide +kernel)
set_option maxRecDepth 20000 in
theorem in_c_X10_build : ∀ w ∈ wp_c_X10_build, w ∈ lw_tbl := List.forall_mem_cons.mpr ⟨List.mem_of_getElem? (i := 716) (by decide +kernel), List.forall_mem_append.mpr ⟨inown_c_X10_build, List.forall_mem_append.mpr ⟨in_c_tableAt, fun _ h => absurd h List.not_mem_nil⟩⟩⟩
set_option maxRecDepth 20000 in
theorem good_c_X10_build : wp_c_X10_build.all goodWord = true := by decide +kernel
set_option maxRecDepth 20000 in
theorem g_c_X10_build_c_tableAt_74 : GoodIn wp_c_X10_build (wsV RX10 74 RX10 yX10_tableAt wp_c_tableAt) := goodIn_sub (List.forall_mem_append.mpr ⟨List.forall_mem_cons.mpr ⟨(List.mem_of_getElem? (i := 1) rfl), List.forall_mem_cons.mpr ⟨(List.mem_of_getElem? (i := 2) rfl), List.forall_mem_cons.mpr ⟨(List.mem_of_getElem? (i := 3) rfl), List.forall_mem_cons.mpr ⟨(List.mem_of_getElem? (i := 4) rfl), fun _ h => absurd h List.not_mem_nil⟩⟩⟩⟩, (fun _ h => (List.mem_cons_of_mem _ (List.mem_append_right _ (List.mem_append_left _ h))))⟩) (by decide +kernel)
set_option maxHeartbeats 4000000 in
set_option maxRecDepth 100000 in
theorem c_X10_build (l : Launch) (D : va_G) (sz : Nat) (h0 : Nat) (ca : Nat → Nat) (cT : ClassId) (tp : Int32) (z1 : Int32)  : Met l yX10_build wp_c_X10_build ({ frames := 2, cells := 0, slots := 0, locals := 41 }) (PcR D [.ref h0, .int z1] sz [(h0, .inr (10, [.ref (ca 0), .ref (ca 1), .int tp, .ref (ca 3), .ref (ca 4), .ref (ca 5), .ref (ca 6)])), (ca 0, .inl (cT, 4, .inr (.inr (.inr (.inr (fun _ => none))))))] [(cT, .object RX9)]) (va_Qi (fun (r : Int32) (_ : Unit) => r = (-2)) (fun (_ : Unit) _ => True) (va_A [] sz)) 0 0 (va_A [] sz) := by
  refine Met.ofW (cc := cX10_build) (maxL := 4) (ret := (some .int)) (by decide) rfl ?_
  intro p e s m args below meth c s₁ B hml hv
  obtain ⟨rfl, hsz, hP, hK⟩ := hv
  have hx := B.exec
  have hb := B.bytes
  have hr := B.returns
  have hts := atoms_spec (ws := wp_c_X10_build) B.pre
  have hown : s.vm.findClass RX10 = some m.cls := findClass_of_methodNamed B.named
  have hlocks := B.notSynchronized
  subst hsz
  generalize hAe : va_A [] s.heap.size = A at ⊢
  have hA : ∀ q : Nat, s.heap.size ≤ q → A q := fun q h => by rw [← hAe]; exact Or.inr h
  have hS : va_S A s.heap s.heap [] := va_S.rf
  have hP : va_P D vwCl [(h0, .inr (10, [.ref (ca 0), .ref (ca 1), .int tp, .ref (ca 3), .ref (ca 4), .ref (ca 5), .ref (ca 6)])), (ca 0, .inl (cT, 4, .inr (.inr (.inr (.inr (fun _ => none))))))] s.heap := hP
  have hl := lv_entry ([.ref h0, .int z1]) (n := 4) (Nat.le_of_ble_eq_true rfl)
  rw [lg_entry_eq]
  generalize (lg_sl ([.ref h0, .int z1]) ++ List.replicate (4 - (lg_sl ([.ref h0, .int z1])).length) Slot.unset).toArray = ls at hl ⊢
  have hl : lv_has ls 4 [(0, .ref h0), (1, .int z1)] := hl
  refine lv_aload_n hx hb dX10_build_0 rfl (lv_at hl 0 rfl) ?_
  refine lv_iload_n hx hb dX10_build_1 rfl (lv_at hl 1 rfl) ?_
  have hPc := hP.sub (ws' := [(h0, .inr (10, [.ref (ca 0), .ref (ca 1), .int tp, .ref (ca 3), .ref (ca 4), .ref (ca 5), .ref (ca 6)])), (ca 0, .inl (cT, 4, .inr (.inr (.inr (.inr (fun _ => none))))))]) [0, 1] rfl
  have hKc := hK.sub (tys' := [(cT, .object RX9)]) [0] rfl
  have hFc := va_free0 hS hA
  refine va_callq (va_runV (As := [.int z1]) (rest := []) ⟨hx, hb, hml, hown, hts⟩ (c_tableAt l D _ h0 ca cT tp z1) (cwV 1 hts g_c_X10_build_c_tableAt_74 rfl rfl rfl (by decide +kernel) ⟨(Nat.le_of_ble_eq_true rfl), (Nat.le_of_ble_eq_true rfl)⟩) (PcR_V (q0 := 0) hPc hKc rfl rfl) rfl rfl hl.1 rfl (lv_room (Nat.le_of_ble_eq_true rfl)) dX10_build_2 ⟨(Nat.le_of_ble_eq_true rfl), (Nat.le_of_ble_eq_true rfl)⟩) hS (fun q _ h => hFc q h) hFc (fun r1 uu tt H locs htt hvm hw hB hz1 hk1 hS => ?_)
  have hP := va_keep hP hk1
  try dsimp only at hw
  clear hB hz1 hk1 hFc hPc hKc
  obtain rfl : r1 = none := hw
  refine W.eq (g2 := F0 m 5 ls [.null]) rfl ?_
  refine lv_astore_nN (lv' := [(2, .null), (0, .ref h0), (1, .int z1)]) hx hb dX10_build_5 rfl hl (by decide) rfl (fun ls hl => ?_)
  refine lv_aload_nN hx hb dX10_build_6 rfl (lv_at hl 0 rfl) ?_
  refine lv_ifnonnullN hx hb dX10_build_7 ?_
  refine lv_bipush (v := (-2)) hx hb dX10_build_10 (by decide) ?_
  exact W.iret (v := (-2)) hx hb hr (fun t ht hW => ⟨⟨(-2), (), rfl, rfl, trivial⟩, hS.F ht⟩) hS.2.2 dX10_build_12

def own_c_X10_has : List Cond := [.methodLink RX10 74 yX10_tableAt, .instanceMethod yX10_tableAt, .selects RX10 yX10_tableAt yX10_tableAt, .initialized RX10, .constantLong RX10 91 (-1000000000000000)]
def wp_c_X10_has : List Cond := .code yX10_has cX10_has 4 (some .long) :: (own_c_X10_has ++ (wp_c_tableAt ++ ([] : List Cond)))
set_option maxRecDepth 20000 in
theorem inown_c_X10_has : ∀ w ∈ own_c_X10_has, w ∈ lw_tbl := mem_places [610, 612, 2, 106, 691] (by decide +kernel)
set_option maxRecDepth 20000 in
theorem in_c_X10_has : ∀ w ∈ wp_c_X10_has, w ∈ lw_tbl := List.forall_mem_cons.mpr ⟨List.mem_of_getElem? (i := 720) (by decide +kernel), List.forall_mem_append.mpr ⟨inown_c_X10_has, List.forall_mem_append.mpr ⟨in_c_tableAt, fun _ h => absurd h List.not_mem_nil⟩⟩⟩
set_option maxRecDepth 20000 in
theorem good_c_X10_has : wp_c_X10_has.all goodWord = true := by decide +kernel
set_option maxRecDepth 20000 in
theorem g_c_X10_has_c_tableAt_74 : GoodIn wp_c_X10_has (wsV RX10 74 RX10 yX10_tableAt wp_c_tableAt) := goodIn_sub (List.forall_mem_append.mpr ⟨List.forall_mem_cons.mpr ⟨(List.mem_of_getElem? (i := 1) rfl), List.forall_mem_cons.mpr ⟨(List.mem_of_getElem? (i := 2) rfl), List.forall_mem_cons.mpr ⟨(List.mem_of_getElem? (i := 3) rfl), List.forall_mem_cons.mpr ⟨(List.mem_of_getElem? (i := 4) rfl), fun _ h => absurd h List.not_mem_nil⟩⟩⟩⟩, (fun _ h => (List.mem_cons_of_mem _ (List.mem_append_right _ (List.mem_append_left _ h))))⟩) (by decide +kernel)
set_option maxHeartbeats 4000000 in
set_option maxRecDepth 100000 in
theorem c_X10_has (l : Launch) (D : va_G) (sz : Nat) (h0 : Nat) (ca : Nat → Nat) (cT : ClassId) (tp : Int32) (z1 : Int32) (z2 : Int32)  : Met l yX10_has wp_c_X10_has ({ frames := 2, cells := 0, slots := 0, locals := 41 }) (PcR D [.ref h0, .int z1, .int z2] sz [(h0, .inr (10, [.ref (ca 0), .ref (ca 1), .int tp, .ref (ca 3), .ref (ca 4), .ref (ca 5), .ref (ca 6)])), (ca 0, .inl (cT, 4, .inr (.inr (.inr (.inr (fun _ => none))))))] [(cT, .object RX9)]) (va_Ql (fun (r : Int64) (_ : Unit) => r = (-1000000000000000)) (fun (_ : Unit) _ => True) (va_A [] sz)) 0 0 (va_A [] sz) := by
  refine Met.ofW (cc := cX10_has) (maxL := 4) (ret := (some .long)) (by decide) rfl ?_
  intro p e s m args below meth c s₁ B hml hv
  obtain ⟨rfl, hsz, hP, hK⟩ := hv
  have hx := B.exec
  have hb := B.bytes
  have hr := B.returns
  have hts := atoms_spec (ws := wp_c_X10_has) B.pre
  have hown : s.vm.findClass RX10 = some m.cls := findClass_of_methodNamed B.named
  have hlocks := B.notSynchronized
  subst hsz
  generalize hAe : va_A [] s.heap.size = A at ⊢
  have hA : ∀ q : Nat, s.heap.size ≤ q → A q := fun q h => by rw [← hAe]; exact Or.inr h
  have hS : va_S A s.heap s.heap [] := va_S.rf
  have hP : va_P D vwCl [(h0, .inr (10, [.ref (ca 0), .ref (ca 1), .int tp, .ref (ca 3), .ref (ca 4), .ref (ca 5), .ref (ca 6)])), (ca 0, .inl (cT, 4, .inr (.inr (.inr (.inr (fun _ => none))))))] s.heap := hP
  have hl := lv_entry ([.ref h0, .int z1, .int z2]) (n := 4) (Nat.le_of_ble_eq_true rfl)
  rw [lg_entry_eq]
  generalize (lg_sl ([.ref h0, .int z1, .int z2]) ++ List.replicate (4 - (lg_sl ([.ref h0, .int z1, .int z2])).length) Slot.unset).toArray = ls at hl ⊢
  have hl : lv_has ls 4 [(0, .ref h0), (1, .int z1), (2, .int z2)] := hl
  refine lv_aload_n hx hb dX10_has_0 rfl (lv_at hl 0 rfl) ?_
  refine lv_iload_n hx hb dX10_has_1 rfl (lv_at hl 1 rfl) ?_
  have hPc := hP.sub (ws' := [(h0, .inr (10, [.ref (ca 0), .ref (ca 1), .int tp, .ref (ca 3), .ref (ca 4), .ref (ca 5), .ref (ca 6)])), (ca 0, .inl (cT, 4, .inr (.inr (.inr (.inr (fun _ => none))))))]) [0, 1] rfl
  have hKc := hK.sub (tys' := [(cT, .object RX9)]) [0] rfl
  have hFc := va_free0 hS hA
  refine va_callq (va_runV (As := [.int z1]) (rest := []) ⟨hx, hb, hml, hown, hts⟩ (c_tableAt l D _ h0 ca cT tp z1) (cwV 1 hts g_c_X10_has_c_tableAt_74 rfl rfl rfl (by decide +kernel) ⟨(Nat.le_of_ble_eq_true rfl), (Nat.le_of_ble_eq_true rfl)⟩) (PcR_V (q0 := 0) hPc hKc rfl rfl) rfl rfl hl.1 rfl (lv_room (Nat.le_of_ble_eq_true rfl)) dX10_has_2 ⟨(Nat.le_of_ble_eq_true rfl), (Nat.le_of_ble_eq_true rfl)⟩) hS (fun q _ h => hFc q h) hFc (fun r1 uu tt H locs htt hvm hw hB hz1 hk1 hS => ?_)
  have hP := va_keep hP hk1
  try dsimp only at hw
  clear hB hz1 hk1 hFc hPc hKc
  obtain rfl : r1 = none := hw
  refine W.eq (g2 := F0 m 5 ls [.null]) rfl ?_
  refine lv_astore_nN (lv' := [(3, .null), (0, .ref h0), (1, .int z1), (2, .int z2)]) hx hb dX10_has_5 rfl hl (by decide) rfl (fun ls hl => ?_)
  refine lv_aload_nN hx hb dX10_has_6 rfl (lv_at hl 0 rfl) ?_
  refine lv_ifnonnullN hx hb dX10_has_7 ?_
  refine lv_ldc2 (v := (-1000000000000000)) hx hb hown (hts (.constantLong RX10 91 (-1000000000000000)) (List.mem_of_getElem? (i := 5) rfl)) dX10_has_10 ?_
  exact W.lret (v := (-1000000000000000)) hx hb hr (fun t ht hW => ⟨⟨(-1000000000000000), (), rfl, rfl, trivial⟩, hS.F ht⟩) hS.2.2 dX10_has_13

def own_c_X10_bucket : List Cond := [.methodLink RX10 74 yX10_tableAt, .instanceMethod yX10_tableAt, .selects RX10 yX10_tableAt yX10_tableAt, .initialized RX10, .constantLong RX10 91 (-1000000000000000)]
def wp_c_X10_bucket : List Cond := .code yX10_bucket cX10_bucket 6 (some .long) :: (own_c_X10_bucket ++ (wp_c_tableAt ++ ([] : List Cond)))
set_option maxRecDepth 20000 in
theorem inown_c_X10_bucket : ∀ w ∈ own_c_X10_bucket, w ∈ lw_tbl := mem_places [610, 612, 2, 106, 691] (by decide +kernel)
set_option maxRecDepth 20000 in
theorem in_c_X10_bucket : ∀ w ∈ wp_c_X10_bucket, w ∈ lw_tbl := List.forall_mem_cons.mpr ⟨List.mem_of_getElem? (i := 725) (by decide +kernel), List.forall_mem_append.mpr ⟨inown_c_X10_bucket, List.forall_mem_append.mpr ⟨in_c_tableAt, fun _ h => absurd h List.not_mem_nil⟩⟩⟩
set_option maxRecDepth 20000 in
theorem good_c_X10_bucket : wp_c_X10_bucket.all goodWord = true := by decide +kernel
set_option maxRecDepth 20000 in
theorem g_c_X10_bucket_c_tableAt_74 : GoodIn wp_c_X10_bucket (wsV RX10 74 RX10 yX10_tableAt wp_c_tableAt) := goodIn_sub (List.forall_mem_append.mpr ⟨List.forall_mem_cons.mpr ⟨(List.mem_of_getElem? (i := 1) rfl), List.forall_mem_cons.mpr ⟨(List.mem_of_getElem? (i := 2) rfl), List.forall_mem_cons.mpr ⟨(List.mem_of_getElem? (i := 3) rfl), List.forall_mem_cons.mpr ⟨(List.mem_of_getElem? (i := 4) rfl), fun _ h => absurd h List.not_mem_nil⟩⟩⟩⟩, (fun _ h => (List.mem_cons_of_mem _ (List.mem_append_right _ (List.mem_append_left _ h))))⟩) (by decide +kernel)
set_option maxHeartbeats 4000000 in
set_option maxRecDepth 100000 in
theorem c_X10_bucket (l : Launch) (D : va_G) (sz : Nat) (h0 : Nat) (ca : Nat → Nat) (cT : ClassId) (tp : Int32) (z1 : Int32) (z2 : Int32) (z3 : Int32)  : Met l yX10_bucket wp_c_X10_bucket ({ frames := 2, cells := 0, slots := 0, locals := 41 }) (PcR D [.ref h0, .int z1, .int z2, .int z3] sz [(h0, .inr (10, [.ref (ca 0), .ref (ca 1), .int tp, .ref (ca 3), .ref (ca 4), .ref (ca 5), .ref (ca 6)])), (ca 0, .inl (cT, 4, .inr (.inr (.inr (.inr (fun _ => none))))))] [(cT, .object RX9)]) (va_Ql (fun (r : Int64) (_ : Unit) => r = (-1000000000000000)) (fun (_ : Unit) _ => True) (va_A [] sz)) 0 0 (va_A [] sz) := by
  refine Met.ofW (cc := cX10_bucket) (maxL := 6) (ret := (some .long)) (by decide) rfl ?_
  intro p e s m args below meth c s₁ B hml hv
  obtain ⟨rfl, hsz, hP, hK⟩ := hv
  have hx := B.exec
  have hb := B.bytes
  have hr := B.returns
  have hts := atoms_spec (ws := wp_c_X10_bucket) B.pre
  have hown : s.vm.findClass RX10 = some m.cls := findClass_of_methodNamed B.named
  have hlocks := B.notSynchronized
  subst hsz
  generalize hAe : va_A [] s.heap.size = A at ⊢
  have hA : ∀ q : Nat, s.heap.size ≤ q → A q := fun q h => by rw [← hAe]; exact Or.inr h
  have hS : va_S A s.heap s.heap [] := va_S.rf
  have hP : va_P D vwCl [(h0, .inr (10, [.ref (ca 0), .ref (ca 1), .int tp, .ref (ca 3), .ref (ca 4), .ref (ca 5), .ref (ca 6)])), (ca 0, .inl (cT, 4, .inr (.inr (.inr (.inr (fun _ => none))))))] s.heap := hP
  have hl := lv_entry ([.ref h0, .int z1, .int z2, .int z3]) (n := 6) (Nat.le_of_ble_eq_true rfl)
  rw [lg_entry_eq]
  generalize (lg_sl ([.ref h0, .int z1, .int z2, .int z3]) ++ List.replicate (6 - (lg_sl ([.ref h0, .int z1, .int z2, .int z3])).length) Slot.unset).toArray = ls at hl ⊢
  have hl : lv_has ls 6 [(0, .ref h0), (1, .int z1), (2, .int z2), (3, .int z3)] := hl
  refine lv_aload_n hx hb dX10_bucket_0 rfl (lv_at hl 0 rfl) ?_
  refine lv_iload_n hx hb dX10_bucket_1 rfl (lv_at hl 1 rfl) ?_
  have hPc := hP.sub (ws' := [(h0, .inr (10, [.ref (ca 0), .ref (ca 1), .int tp, .ref (ca 3), .ref (ca 4), .ref (ca 5), .ref (ca 6)])), (ca 0, .inl (cT, 4, .inr (.inr (.inr (.inr (fun _ => none))))))]) [0, 1] rfl
  have hKc := hK.sub (tys' := [(cT, .object RX9)]) [0] rfl
  have hFc := va_free0 hS hA
  refine va_callq (va_runV (As := [.int z1]) (rest := []) ⟨hx, hb, hml, hown, hts⟩ (c_tableAt l D _ h0 ca cT tp z1) (cwV 1 hts g_c_X10_bucket_c_tableAt_74 rfl rfl rfl (by decide +kernel) ⟨(Nat.le_of_ble_eq_true rfl), (Nat.le_of_ble_eq_true rfl)⟩) (PcR_V (q0 := 0) hPc hKc rfl rfl) rfl rfl hl.1 rfl (lv_room (Nat.le_of_ble_eq_true rfl)) dX10_bucket_2 ⟨(Nat.le_of_ble_eq_true rfl), (Nat.le_of_ble_eq_true rfl)⟩) hS (fun q _ h => hFc q h) hFc (fun r1 uu tt H locs htt hvm hw hB hz1 hk1 hS => ?_)
  have hP := va_keep hP hk1
  try dsimp only at hw
  clear hB hz1 hk1 hFc hPc hKc
  obtain rfl : r1 = none := hw
  refine W.eq (g2 := F0 m 5 ls [.null]) rfl ?_
  refine lv_astoreN (lv' := [(4, .null), (0, .ref h0), (1, .int z1), (2, .int z2), (3, .int z3)]) hx hb dX10_bucket_5 hl (by decide) rfl (fun ls hl => ?_)
  refine lv_aloadN hx hb dX10_bucket_7 (lv_at hl 0 rfl) ?_
  refine lv_ifnullN (tgt := 24) hx hb dX10_bucket_9 (by decide) ?_
  refine lv_ldc2 (v := (-1000000000000000)) hx hb hown (hts (.constantLong RX10 91 (-1000000000000000)) (List.mem_of_getElem? (i := 5) rfl)) dX10_bucket_24 ?_
  exact W.lret (v := (-1000000000000000)) hx hb hr (fun t ht hW => ⟨⟨(-1000000000000000), (), rfl, rfl, trivial⟩, hS.F ht⟩) hS.2.2 dX10_bucket_27

def own_c_X10_room : List Cond := [.methodLink RX10 74 yX10_tableAt, .instanceMethod yX10_tableAt, .selects RX10 yX10_tableAt yX10_tableAt, .initialized RX10]
def wp_c_X10_room : List Cond := .code yX10_room cX10_room 6 (some .int) :: (own_c_X10_room ++ (wp_c_tableAt ++ ([] : List Cond)))
set_option maxRecDepth 20000 in
theorem inown_c_X10_room : ∀ w ∈ own_c_X10_room, w ∈ lw_tbl := mem_places [610, 612, 2, 106] (by decide +kernel)
set_option maxRecDepth 20000 in
theorem in_c_X10_room : ∀ w ∈ wp_c_X10_room, w ∈ lw_tbl := List.forall_mem_cons.mpr ⟨List.mem_of_getElem? (i := 731) (by decide +kernel), List.forall_mem_append.mpr ⟨inown_c_X10_room, List.forall_mem_append.mpr ⟨in_c_tableAt, fun _ h => absurd h List.not_mem_nil⟩⟩⟩
set_option maxRecDepth 20000 in
theorem good_c_X10_room : wp_c_X10_room.all goodWord = true := by decide +kernel
set_option maxRecDepth 20000 in
theorem g_c_X10_room_c_tableAt_74 : GoodIn wp_c_X10_room (wsV RX10 74 RX10 yX10_tableAt wp_c_tableAt) := goodIn_sub (List.forall_mem_append.mpr ⟨List.forall_mem_cons.mpr ⟨(List.mem_of_getElem? (i := 1) rfl), List.forall_mem_cons.mpr ⟨(List.mem_of_getElem? (i := 2) rfl), List.forall_mem_cons.mpr ⟨(List.mem_of_getElem? (i := 3) rfl), List.forall_mem_cons.mpr ⟨(List.mem_of_getElem? (i := 4) rfl), fun _ h => absurd h List.not_mem_nil⟩⟩⟩⟩, (fun _ h => (List.mem_cons_of_mem _ (List.mem_append_right _ (List.mem_append_left _ h))))⟩) (by decide +kernel)
set_option maxHeartbeats 4000000 in
set_option maxRecDepth 100000 in
theorem c_X10_room (l : Launch) (D : va_G) (sz : Nat) (h0 : Nat) (ca : Nat → Nat) (cT : ClassId) (tp : Int32) (z1 : Int32) (z2 : Int32) (z3 : Int32)  : Met l yX10_room wp_c_X10_room ({ frames := 2, cells := 0, slots := 0, locals := 41 }) (PcR D [.ref h0, .int z1, .int z2, .int z3] sz [(h0, .inr (10, [.ref (ca 0), .ref (ca 1), .int tp, .ref (ca 3), .ref (ca 4), .ref (ca 5), .ref (ca 6)])), (ca 0, .inl (cT, 4, .inr (.inr (.inr (.inr (fun _ => none))))))] [(cT, .object RX9)]) (va_Qi (fun (r : Int32) (_ : Unit) => r = (-2)) (fun (_ : Unit) _ => True) (va_A [] sz)) 0 0 (va_A [] sz) := by
  refine Met.ofW (cc := cX10_room) (maxL := 6) (ret := (some .int)) (by decide) rfl ?_
  intro p e s m args below meth c s₁ B hml hv
  obtain ⟨rfl, hsz, hP, hK⟩ := hv
  have hx := B.exec
  have hb := B.bytes
  have hr := B.returns
  have hts := atoms_spec (ws := wp_c_X10_room) B.pre
  have hown : s.vm.findClass RX10 = some m.cls := findClass_of_methodNamed B.named
  have hlocks := B.notSynchronized
  subst hsz
  generalize hAe : va_A [] s.heap.size = A at ⊢
  have hA : ∀ q : Nat, s.heap.size ≤ q → A q := fun q h => by rw [← hAe]; exact Or.inr h
  have hS : va_S A s.heap s.heap [] := va_S.rf
  have hP : va_P D vwCl [(h0, .inr (10, [.ref (ca 0), .ref (ca 1), .int tp, .ref (ca 3), .ref (ca 4), .ref (ca 5), .ref (ca 6)])), (ca 0, .inl (cT, 4, .inr (.inr (.inr (.inr (fun _ => none))))))] s.heap := hP
  have hl := lv_entry ([.ref h0, .int z1, .int z2, .int z3]) (n := 6) (Nat.le_of_ble_eq_true rfl)
  rw [lg_entry_eq]
  generalize (lg_sl ([.ref h0, .int z1, .int z2, .int z3]) ++ List.replicate (6 - (lg_sl ([.ref h0, .int z1, .int z2, .int z3])).length) Slot.unset).toArray = ls at hl ⊢
  have hl : lv_has ls 6 [(0, .ref h0), (1, .int z1), (2, .int z2), (3, .int z3)] := hl
  refine lv_aload_n hx hb dX10_room_0 rfl (lv_at hl 0 rfl) ?_
  refine lv_iload_n hx hb dX10_room_1 rfl (lv_at hl 1 rfl) ?_
  have hPc := hP.sub (ws' := [(h0, .inr (10, [.ref (ca 0), .ref (ca 1), .int tp, .ref (ca 3), .ref (ca 4), .ref (ca 5), .ref (ca 6)])), (ca 0, .inl (cT, 4, .inr (.inr (.inr (.inr (fun _ => none))))))]) [0, 1] rfl
  have hKc := hK.sub (tys' := [(cT, .object RX9)]) [0] rfl
  have hFc := va_free0 hS hA
  refine va_callq (va_runV (As := [.int z1]) (rest := []) ⟨hx, hb, hml, hown, hts⟩ (c_tableAt l D _ h0 ca cT tp z1) (cwV 1 hts g_c_X10_room_c_tableAt_74 rfl rfl rfl (by decide +kernel) ⟨(Nat.le_of_ble_eq_true rfl), (Nat.le_of_ble_eq_true rfl)⟩) (PcR_V (q0 := 0) hPc hKc rfl rfl) rfl rfl hl.1 rfl (lv_room (Nat.le_of_ble_eq_true rfl)) dX10_room_2 ⟨(Nat.le_of_ble_eq_true rfl), (Nat.le_of_ble_eq_true rfl)⟩) hS (fun q _ h => hFc q h) hFc (fun r1 uu tt H locs htt hvm hw hB hz1 hk1 hS => ?_)
  have hP := va_keep hP hk1
  try dsimp only at hw
  clear hB hz1 hk1 hFc hPc hKc
  obtain rfl : r1 = none := hw
  refine W.eq (g2 := F0 m 5 ls [.null]) rfl ?_
  refine lv_astoreN (lv' := [(4, .null), (0, .ref h0), (1, .int z1), (2, .int z2), (3, .int z3)]) hx hb dX10_room_5 hl (by decide) rfl (fun ls hl => ?_)
  refine lv_aloadN hx hb dX10_room_7 (lv_at hl 0 rfl) ?_
  refine lv_ifnullN (tgt := 24) hx hb dX10_room_9 (by decide) ?_
  refine lv_bipush (v := (-2)) hx hb dX10_room_24 (by decide) ?_
  exact W.iret (v := (-2)) hx hb hr (fun t ht hW => ⟨⟨(-2), (), rfl, rfl, trivial⟩, hS.F ht⟩) hS.2.2 dX10_room_26

def own_c_X10_place : List Cond := [.methodLink RX10 74 yX10_tableAt, .instanceMethod yX10_tableAt, .selects RX10 yX10_tableAt yX10_tableAt, .initialized RX10]
def wp_c_X10_place : List Cond := .code yX10_place cX10_place 6 (some .int) :: (own_c_X10_place ++ (wp_c_tableAt ++ ([] : List Cond)))
set_option maxRecDepth 20000 in
theorem inown_c_X10_place : ∀ w ∈ own_c_X10_place, w ∈ lw_tbl := mem_places [610, 612, 2, 106] (by decide +kernel)
set_option maxRecDepth 20000 in
theorem in_c_X10_place : ∀ w ∈ wp_c_X10_place, w ∈ lw_tbl := List.forall_mem_cons.mpr ⟨List.mem_of_getElem? (i := 741) (by decide +kernel), List.forall_mem_append.mpr ⟨inown_c_X10_place, List.forall_mem_append.mpr ⟨in_c_tableAt, fun _ h => absurd h List.not_mem_nil⟩⟩⟩
set_option maxRecDepth 20000 in
theorem good_c_X10_place : wp_c_X10_place.all goodWord = true := by decide +kernel
set_option maxRecDepth 20000 in
theorem g_c_X10_place_c_tableAt_74 : GoodIn wp_c_X10_place (wsV RX10 74 RX10 yX10_tableAt wp_c_tableAt) := goodIn_sub (List.forall_mem_append.mpr ⟨List.forall_mem_cons.mpr ⟨(List.mem_of_getElem? (i := 1) rfl), List.forall_mem_cons.mpr ⟨(List.mem_of_getElem? (i := 2) rfl), List.forall_mem_cons.mpr ⟨(List.mem_of_getElem? (i := 3) rfl), List.forall_mem_cons.mpr ⟨(List.mem_of_getElem? (i := 4) rfl), fun _ h => absurd h List.not_mem_nil⟩⟩⟩⟩, (fun _ h => (List.mem_cons_of_mem _ (List.mem_append_right _ (List.mem_append_left _ h))))⟩) (by decide +kernel)
set_option maxHeartbeats 4000000 in
set_option maxRecDepth 100000 in
theorem c_X10_place (l : Launch) (D : va_G) (sz : Nat) (h0 : Nat) (ca : Nat → Nat) (cT : ClassId) (tp : Int32) (z1 : Int32) (z2 : Int32) (z3 : Int32)  : Met l yX10_place wp_c_X10_place ({ frames := 2, cells := 0, slots := 0, locals := 41 }) (PcR D [.ref h0, .int z1, .int z2, .int z3] sz [(h0, .inr (10, [.ref (ca 0), .ref (ca 1), .int tp, .ref (ca 3), .ref (ca 4), .ref (ca 5), .ref (ca 6)])), (ca 0, .inl (cT, 4, .inr (.inr (.inr (.inr (fun _ => none))))))] [(cT, .object RX9)]) (va_Qi (fun (r : Int32) (_ : Unit) => r = (-2)) (fun (_ : Unit) _ => True) (va_A [] sz)) 0 0 (va_A [] sz) := by
  refine Met.ofW (cc := cX10_place) (maxL := 6) (ret := (some .int)) (by decide) rfl ?_
  intro p e s m args below meth c s₁ B hml hv
  obtain ⟨rfl, hsz, hP, hK⟩ := hv
  have hx := B.exec
  have hb := B.bytes
  have hr := B.returns
  have hts := atoms_spec (ws := wp_c_X10_place) B.pre
  have hown : s.vm.findClass RX10 = some m.cls := findClass_of_methodNamed B.named
  have hlocks := B.notSynchronized
  subst hsz
  generalize hAe : va_A [] s.heap.size = A at ⊢
  have hA : ∀ q : Nat, s.heap.size ≤ q → A q := fun q h => by rw [← hAe]; exact Or.inr h
  have hS : va_S A s.heap s.heap [] := va_S.rf
  have hP : va_P D vwCl [(h0, .inr (10, [.ref (ca 0), .ref (ca 1), .int tp, .ref (ca 3), .ref (ca 4), .ref (ca 5), .ref (ca 6)])), (ca 0, .inl (cT, 4, .inr (.inr (.inr (.inr (fun _ => none))))))] s.heap := hP
  have hl := lv_entry ([.ref h0, .int z1, .int z2, .int z3]) (n := 6) (Nat.le_of_ble_eq_true rfl)
  rw [lg_entry_eq]
  generalize (lg_sl ([.ref h0, .int z1, .int z2, .int z3]) ++ List.replicate (6 - (lg_sl ([.ref h0, .int z1, .int z2, .int z3])).length) Slot.unset).toArray = ls at hl ⊢
  have hl : lv_has ls 6 [(0, .ref h0), (1, .int z1), (2, .int z2), (3, .int z3)] := hl
  refine lv_aload_n hx hb dX10_place_0 rfl (lv_at hl 0 rfl) ?_
  refine lv_iload_n hx hb dX10_place_1 rfl (lv_at hl 1 rfl) ?_
  have hPc := hP.sub (ws' := [(h0, .inr (10, [.ref (ca 0), .ref (ca 1), .int tp, .ref (ca 3), .ref (ca 4), .ref (ca 5), .ref (ca 6)])), (ca 0, .inl (cT, 4, .inr (.inr (.inr (.inr (fun _ => none))))))]) [0, 1] rfl
  have hKc := hK.sub (tys' := [(cT, .object RX9)]) [0] rfl
  have hFc := va_free0 hS hA
  refine va_callq (va_runV (As := [.int z1]) (rest := []) ⟨hx, hb, hml, hown, hts⟩ (c_tableAt l D _ h0 ca cT tp z1) (cwV 1 hts g_c_X10_place_c_tableAt_74 rfl rfl rfl (by decide +kernel) ⟨(Nat.le_of_ble_eq_true rfl), (Nat.le_of_ble_eq_true rfl)⟩) (PcR_V (q0 := 0) hPc hKc rfl rfl) rfl rfl hl.1 rfl (lv_room (Nat.le_of_ble_eq_true rfl)) dX10_place_2 ⟨(Nat.le_of_ble_eq_true rfl), (Nat.le_of_ble_eq_true rfl)⟩) hS (fun q _ h => hFc q h) hFc (fun r1 uu tt H locs htt hvm hw hB hz1 hk1 hS => ?_)
  have hP := va_keep hP hk1
  try dsimp only at hw
  clear hB hz1 hk1 hFc hPc hKc
  obtain rfl : r1 = none := hw
  refine W.eq (g2 := F0 m 5 ls [.null]) rfl ?_
  refine lv_astoreN (lv' := [(4, .null), (0, .ref h0), (1, .int z1), (2, .int z2), (3, .int z3)]) hx hb dX10_place_5 hl (by decide) rfl (fun ls hl => ?_)
  refine lv_aloadN hx hb dX10_place_7 (lv_at hl 0 rfl) ?_
  refine lv_ifnullN (tgt := 28) hx hb dX10_place_9 (by decide) ?_
  refine lv_bipush (v := (-2)) hx hb dX10_place_28 (by decide) ?_
  exact W.iret (v := (-2)) hx hb hr (fun t ht hW => ⟨⟨(-2), (), rfl, rfl, trivial⟩, hS.F ht⟩) hS.2.2 dX10_place_30

def own_c_X10_key : List Cond := [.methodLink RX10 74 yX10_tableAt, .instanceMethod yX10_tableAt, .selects RX10 yX10_tableAt yX10_tableAt, .initialized RX10]
def wp_c_X10_key : List Cond := .code yX10_key cX10_key 4 (some .int) :: (own_c_X10_key ++ (wp_c_tableAt ++ ([] : List Cond)))
set_option maxRecDepth 20000 in
theorem inown_c_X10_key : ∀ w ∈ own_c_X10_key, w ∈ lw_tbl := mem_places [610, 612, 2, 106] (by decide +kernel)
set_option maxRecDepth 20000 in
theorem in_c_X10_key : ∀ w ∈ wp_c_X10_key, w ∈ lw_tbl := List.forall_mem_cons.mpr ⟨List.mem_of_getElem? (i := 747) (by decide +kernel), List.forall_mem_append.mpr ⟨inown_c_X10_key, List.forall_mem_append.mpr ⟨in_c_tableAt, fun _ h => absurd h List.not_mem_nil⟩⟩⟩
set_option maxRecDepth 20000 in
theorem good_c_X10_key : wp_c_X10_key.all goodWord = true := by decide +kernel
set_option maxRecDepth 20000 in
theorem g_c_X10_key_c_tableAt_74 : GoodIn wp_c_X10_key (wsV RX10 74 RX10 yX10_tableAt wp_c_tableAt) := goodIn_sub (List.forall_mem_append.mpr ⟨List.forall_mem_cons.mpr ⟨(List.mem_of_getElem? (i := 1) rfl), List.forall_mem_cons.mpr ⟨(List.mem_of_getElem? (i := 2) rfl), List.forall_mem_cons.mpr ⟨(List.mem_of_getElem? (i := 3) rfl), List.forall_mem_cons.mpr ⟨(List.mem_of_getElem? (i := 4) rfl), fun _ h => absurd h List.not_mem_nil⟩⟩⟩⟩, (fun _ h => (List.mem_cons_of_mem _ (List.mem_append_right _ (List.mem_append_left _ h))))⟩) (by decide +kernel)
set_option maxHeartbeats 4000000 in
set_option maxRecDepth 100000 in
theorem c_X10_key (l : Launch) (D : va_G) (sz : Nat) (h0 : Nat) (ca : Nat → Nat) (cT : ClassId) (tp : Int32) (z1 : Int32) (z2 : Int32)  : Met l yX10_key wp_c_X10_key ({ frames := 2, cells := 0, slots := 0, locals := 41 }) (PcR D [.ref h0, .int z1, .int z2] sz [(h0, .inr (10, [.ref (ca 0), .ref (ca 1), .int tp, .ref (ca 3), .ref (ca 4), .ref (ca 5), .ref (ca 6)])), (ca 0, .inl (cT, 4, .inr (.inr (.inr (.inr (fun _ => none))))))] [(cT, .object RX9)]) (va_Qi (fun (r : Int32) (_ : Unit) => r = (-1)) (fun (_ : Unit) _ => True) (va_A [] sz)) 0 0 (va_A [] sz) := by
  refine Met.ofW (cc := cX10_key) (maxL := 4) (ret := (some .int)) (by decide) rfl ?_
  intro p e s m args below meth c s₁ B hml hv
  obtain ⟨rfl, hsz, hP, hK⟩ := hv
  have hx := B.exec
  have hb := B.bytes
  have hr := B.returns
  have hts := atoms_spec (ws := wp_c_X10_key) B.pre
  have hown : s.vm.findClass RX10 = some m.cls := findClass_of_methodNamed B.named
  have hlocks := B.notSynchronized
  subst hsz
  generalize hAe : va_A [] s.heap.size = A at ⊢
  have hA : ∀ q : Nat, s.heap.size ≤ q → A q := fun q h => by rw [← hAe]; exact Or.inr h
  have hS : va_S A s.heap s.heap [] := va_S.rf
  have hP : va_P D vwCl [(h0, .inr (10, [.ref (ca 0), .ref (ca 1), .int tp, .ref (ca 3), .ref (ca 4), .ref (ca 5), .ref (ca 6)])), (ca 0, .inl (cT, 4, .inr (.inr (.inr (.inr (fun _ => none))))))] s.heap := hP
  have hl := lv_entry ([.ref h0, .int z1, .int z2]) (n := 4) (Nat.le_of_ble_eq_true rfl)
  rw [lg_entry_eq]
  generalize (lg_sl ([.ref h0, .int z1, .int z2]) ++ List.replicate (4 - (lg_sl ([.ref h0, .int z1, .int z2])).length) Slot.unset).toArray = ls at hl ⊢
  have hl : lv_has ls 4 [(0, .ref h0), (1, .int z1), (2, .int z2)] := hl
  refine lv_aload_n hx hb dX10_key_0 rfl (lv_at hl 0 rfl) ?_
  refine lv_iload_n hx hb dX10_key_1 rfl (lv_at hl 1 rfl) ?_
  have hPc := hP.sub (ws' := [(h0, .inr (10, [.ref (ca 0), .ref (ca 1), .int tp, .ref (ca 3), .ref (ca 4), .ref (ca 5), .ref (ca 6)])), (ca 0, .inl (cT, 4, .inr (.inr (.inr (.inr (fun _ => none))))))]) [0, 1] rfl
  have hKc := hK.sub (tys' := [(cT, .object RX9)]) [0] rfl
  have hFc := va_free0 hS hA
  refine va_callq (va_runV (As := [.int z1]) (rest := []) ⟨hx, hb, hml, hown, hts⟩ (c_tableAt l D _ h0 ca cT tp z1) (cwV 1 hts g_c_X10_key_c_tableAt_74 rfl rfl rfl (by decide +kernel) ⟨(Nat.le_of_ble_eq_true rfl), (Nat.le_of_ble_eq_true rfl)⟩) (PcR_V (q0 := 0) hPc hKc rfl rfl) rfl rfl hl.1 rfl (lv_room (Nat.le_of_ble_eq_true rfl)) dX10_key_2 ⟨(Nat.le_of_ble_eq_true rfl), (Nat.le_of_ble_eq_true rfl)⟩) hS (fun q _ h => hFc q h) hFc (fun r1 uu tt H locs htt hvm hw hB hz1 hk1 hS => ?_)
  have hP := va_keep hP hk1
  try dsimp only at hw
  clear hB hz1 hk1 hFc hPc hKc
  obtain rfl : r1 = none := hw
  refine W.eq (g2 := F0 m 5 ls [.null]) rfl ?_
  refine lv_astore_nN (lv' := [(3, .null), (0, .ref h0), (1, .int z1), (2, .int z2)]) hx hb dX10_key_5 rfl hl (by decide) rfl (fun ls hl => ?_)
  refine lv_aload_nN hx hb dX10_key_6 rfl (lv_at hl 0 rfl) ?_
  refine lv_ifnullN (tgt := 25) hx hb dX10_key_7 (by decide) ?_
  refine lv_iconst (v := (-1)) hx hb dX10_key_25 (by decide) ?_
  exact W.iret (v := (-1)) hx hb hr (fun t ht hW => ⟨⟨(-1), (), rfl, rfl, trivial⟩, hS.F ht⟩) hS.2.2 dX10_key_26

def own_c_X10_walk : List Cond := [.methodLink RX10 74 yX10_tableAt, .instanceMethod yX10_tableAt, .selects RX10 yX10_tableAt yX10_tableAt, .initialized RX10]
def wp_c_X10_walk : List Cond := .code yX10_walk cX10_walk 5 (some .int) :: (own_c_X10_walk ++ (wp_c_tableAt ++ ([] : List Cond)))
set_option maxRecDepth 20000 in
theorem inown_c_X10_walk : ∀ w ∈ own_c_X10_walk, w ∈ lw_tbl := mem_places [610, 612, 2, 106] (by decide +kernel)
set_option maxRecDepth 20000 in
theorem in_c_X10_walk : ∀ w ∈ wp_c_X10_walk, w ∈ lw_tbl := List.forall_mem_cons.mpr ⟨List.mem_of_getElem? (i := 751) (by decide +kernel), List.forall_mem_append.mpr ⟨inown_c_X10_walk, List.forall_mem_append.mpr ⟨in_c_tableAt, fun _ h => absurd h List.not_mem_nil⟩⟩⟩
set_option maxRecDepth 20000 in
theorem good_c_X10_walk : wp_c_X10_walk.all goodWord = true := by decide +kernel
set_option maxRecDepth 20000 in
theorem g_c_X10_walk_c_tableAt_74 : GoodIn wp_c_X10_walk (wsV RX10 74 RX10 yX10_tableAt wp_c_tableAt) := goodIn_sub (List.forall_mem_append.mpr ⟨List.forall_mem_cons.mpr ⟨(List.mem_of_getElem? (i := 1) rfl), List.forall_mem_cons.mpr ⟨(List.mem_of_getElem? (i := 2) rfl), List.forall_mem_cons.mpr ⟨(List.mem_of_getElem? (i := 3) rfl), List.forall_mem_cons.mpr ⟨(List.mem_of_getElem? (i := 4) rfl), fun _ h => absurd h List.not_mem_nil⟩⟩⟩⟩, (fun _ h => (List.mem_cons_of_mem _ (List.mem_append_right _ (List.mem_append_left _ h))))⟩) (by decide +kernel)
set_option maxHeartbeats 4000000 in
set_option maxRecDepth 100000 in
theorem c_X10_walk (l : Launch) (D : va_G) (sz : Nat) (h0 : Nat) (ca : Nat → Nat) (cT : ClassId) (tp : Int32) (z1 : Int32) (z2 : Int32)  : Met l yX10_walk wp_c_X10_walk ({ frames := 2, cells := 0, slots := 0, locals := 41 }) (PcR D [.ref h0, .int z1, .int z2] sz [(h0, .inr (10, [.ref (ca 0), .ref (ca 1), .int tp, .ref (ca 3), .ref (ca 4), .ref (ca 5), .ref (ca 6)])), (ca 0, .inl (cT, 4, .inr (.inr (.inr (.inr (fun _ => none))))))] [(cT, .object RX9)]) (va_Qi (fun (r : Int32) (_ : Unit) => r = (-1)) (fun (_ : Unit) _ => True) (va_A [] sz)) 0 0 (va_A [] sz) := by
  refine Met.ofW (cc := cX10_walk) (maxL := 5) (ret := (some .int)) (by decide) rfl ?_
  intro p e s m args below meth c s₁ B hml hv
  obtain ⟨rfl, hsz, hP, hK⟩ := hv
  have hx := B.exec
  have hb := B.bytes
  have hr := B.returns
  have hts := atoms_spec (ws := wp_c_X10_walk) B.pre
  have hown : s.vm.findClass RX10 = some m.cls := findClass_of_methodNamed B.named
  have hlocks := B.notSynchronized
  subst hsz
  generalize hAe : va_A [] s.heap.size = A at ⊢
  have hA : ∀ q : Nat, s.heap.size ≤ q → A q := fun q h => by rw [← hAe]; exact Or.inr h
  have hS : va_S A s.heap s.heap [] := va_S.rf
  have hP : va_P D vwCl [(h0, .inr (10, [.ref (ca 0), .ref (ca 1), .int tp, .ref (ca 3), .ref (ca 4), .ref (ca 5), .ref (ca 6)])), (ca 0, .inl (cT, 4, .inr (.inr (.inr (.inr (fun _ => none))))))] s.heap := hP
  have hl := lv_entry ([.ref h0, .int z1, .int z2]) (n := 5) (Nat.le_of_ble_eq_true rfl)
  rw [lg_entry_eq]
  generalize (lg_sl ([.ref h0, .int z1, .int z2]) ++ List.replicate (5 - (lg_sl ([.ref h0, .int z1, .int z2])).length) Slot.unset).toArray = ls at hl ⊢
  have hl : lv_has ls 5 [(0, .ref h0), (1, .int z1), (2, .int z2)] := hl
  refine lv_aload_n hx hb dX10_walk_0 rfl (lv_at hl 0 rfl) ?_
  refine lv_iload_n hx hb dX10_walk_1 rfl (lv_at hl 1 rfl) ?_
  have hPc := hP.sub (ws' := [(h0, .inr (10, [.ref (ca 0), .ref (ca 1), .int tp, .ref (ca 3), .ref (ca 4), .ref (ca 5), .ref (ca 6)])), (ca 0, .inl (cT, 4, .inr (.inr (.inr (.inr (fun _ => none))))))]) [0, 1] rfl
  have hKc := hK.sub (tys' := [(cT, .object RX9)]) [0] rfl
  have hFc := va_free0 hS hA
  refine va_callq (va_runV (As := [.int z1]) (rest := []) ⟨hx, hb, hml, hown, hts⟩ (c_tableAt l D _ h0 ca cT tp z1) (cwV 1 hts g_c_X10_walk_c_tableAt_74 rfl rfl rfl (by decide +kernel) ⟨(Nat.le_of_ble_eq_true rfl), (Nat.le_of_ble_eq_true rfl)⟩) (PcR_V (q0 := 0) hPc hKc rfl rfl) rfl rfl hl.1 rfl (lv_room (Nat.le_of_ble_eq_true rfl)) dX10_walk_2 ⟨(Nat.le_of_ble_eq_true rfl), (Nat.le_of_ble_eq_true rfl)⟩) hS (fun q _ h => hFc q h) hFc (fun r1 uu tt H locs htt hvm hw hB hz1 hk1 hS => ?_)
  have hP := va_keep hP hk1
  try dsimp only at hw
  clear hB hz1 hk1 hFc hPc hKc
  obtain rfl : r1 = none := hw
  refine W.eq (g2 := F0 m 5 ls [.null]) rfl ?_
  refine lv_astore_nN (lv' := [(3, .null), (0, .ref h0), (1, .int z1), (2, .int z2)]) hx hb dX10_walk_5 rfl hl (by decide) rfl (fun ls hl => ?_)
  refine lv_aload_nN hx hb dX10_walk_6 rfl (lv_at hl 0 rfl) ?_
  refine lv_ifnullN (tgt := 25) hx hb dX10_walk_7 (by decide) ?_
  refine lv_iconst (v := (-1)) hx hb dX10_walk_25 (by decide) ?_
  exact W.iret (v := (-1)) hx hb hr (fun t ht hW => ⟨⟨(-1), (), rfl, rfl, trivial⟩, hS.F ht⟩) hS.2.2 dX10_walk_26

def own_c_X10_below : List Cond := [.methodLink RX10 74 yX10_tableAt, .instanceMethod yX10_tableAt, .selects RX10 yX10_tableAt yX10_tableAt, .initialized RX10]
def wp_c_X10_below : List Cond := .code yX10_below cX10_below 4 (some .int) :: (own_c_X10_below ++ (wp_c_tableAt ++ ([] : List Cond)))
set_option maxRecDepth 20000 in
theorem inown_c_X10_below : ∀ w ∈ own_c_X10_below, w ∈ lw_tbl := mem_places [610, 612, 2, 106] (by decide +kernel)
set_option maxRecDepth 20000 in
theorem in_c_X10_below : ∀ w ∈ wp_c_X10_below, w ∈ lw_tbl := List.forall_mem_cons.mpr ⟨List.mem_of_getElem? (i := 760) (by decide +kernel), List.forall_mem_append.mpr ⟨inown_c_X10_below, List.forall_mem_append.mpr ⟨in_c_tableAt, fun _ h => absurd h List.not_mem_nil⟩⟩⟩
set_option maxRecDepth 20000 in
theorem good_c_X10_below : wp_c_X10_below.all goodWord = true := by decide +kernel
set_option maxRecDepth 20000 in
theorem g_c_X10_below_c_tableAt_74 : GoodIn wp_c_X10_below (wsV RX10 74 RX10 yX10_tableAt wp_c_tableAt) := goodIn_sub (List.forall_mem_append.mpr ⟨List.forall_mem_cons.mpr ⟨(List.mem_of_getElem? (i := 1) rfl), List.forall_mem_cons.mpr ⟨(List.mem_of_getElem? (i := 2) rfl), List.forall_mem_cons.mpr ⟨(List.mem_of_getElem? (i := 3) rfl), List.forall_mem_cons.mpr ⟨(List.mem_of_getElem? (i := 4) rfl), fun _ h => absurd h List.not_mem_nil⟩⟩⟩⟩, (fun _ h => (List.mem_cons_of_mem _ (List.mem_append_right _ (List.mem_append_left _ h))))⟩) (by decide +kernel)
set_option maxHeartbeats 4000000 in
set_option maxRecDepth 100000 in
theorem c_X10_below (l : Launch) (D : va_G) (sz : Nat) (h0 : Nat) (ca : Nat → Nat) (cT : ClassId) (tp : Int32) (z1 : Int32) (z2 : Int32)  : Met l yX10_below wp_c_X10_below ({ frames := 2, cells := 0, slots := 0, locals := 41 }) (PcR D [.ref h0, .int z1, .int z2] sz [(h0, .inr (10, [.ref (ca 0), .ref (ca 1), .int tp, .ref (ca 3), .ref (ca 4), .ref (ca 5), .ref (ca 6)])), (ca 0, .inl (cT, 4, .inr (.inr (.inr (.inr (fun _ => none))))))] [(cT, .object RX9)]) (va_Qi (fun (r : Int32) (_ : Unit) => r = (-1)) (fun (_ : Unit) _ => True) (va_A [] sz)) 0 0 (va_A [] sz) := by
  refine Met.ofW (cc := cX10_below) (maxL := 4) (ret := (some .int)) (by decide) rfl ?_
  intro p e s m args below meth c s₁ B hml hv
  obtain ⟨rfl, hsz, hP, hK⟩ := hv
  have hx := B.exec
  have hb := B.bytes
  have hr := B.returns
  have hts := atoms_spec (ws := wp_c_X10_below) B.pre
  have hown : s.vm.findClass RX10 = some m.cls := findClass_of_methodNamed B.named
  have hlocks := B.notSynchronized
  subst hsz
  generalize hAe : va_A [] s.heap.size = A at ⊢
  have hA : ∀ q : Nat, s.heap.size ≤ q → A q := fun q h => by rw [← hAe]; exact Or.inr h
  have hS : va_S A s.heap s.heap [] := va_S.rf
  have hP : va_P D vwCl [(h0, .inr (10, [.ref (ca 0), .ref (ca 1), .int tp, .ref (ca 3), .ref (ca 4), .ref (ca 5), .ref (ca 6)])), (ca 0, .inl (cT, 4, .inr (.inr (.inr (.inr (fun _ => none))))))] s.heap := hP
  have hl := lv_entry ([.ref h0, .int z1, .int z2]) (n := 4) (Nat.le_of_ble_eq_true rfl)
  rw [lg_entry_eq]
  generalize (lg_sl ([.ref h0, .int z1, .int z2]) ++ List.replicate (4 - (lg_sl ([.ref h0, .int z1, .int z2])).length) Slot.unset).toArray = ls at hl ⊢
  have hl : lv_has ls 4 [(0, .ref h0), (1, .int z1), (2, .int z2)] := hl
  refine lv_aload_n hx hb dX10_below_0 rfl (lv_at hl 0 rfl) ?_
  refine lv_iload_n hx hb dX10_below_1 rfl (lv_at hl 1 rfl) ?_
  have hPc := hP.sub (ws' := [(h0, .inr (10, [.ref (ca 0), .ref (ca 1), .int tp, .ref (ca 3), .ref (ca 4), .ref (ca 5), .ref (ca 6)])), (ca 0, .inl (cT, 4, .inr (.inr (.inr (.inr (fun _ => none))))))]) [0, 1] rfl
  have hKc := hK.sub (tys' := [(cT, .object RX9)]) [0] rfl
  have hFc := va_free0 hS hA
  refine va_callq (va_runV (As := [.int z1]) (rest := []) ⟨hx, hb, hml, hown, hts⟩ (c_tableAt l D _ h0 ca cT tp z1) (cwV 1 hts g_c_X10_below_c_tableAt_74 rfl rfl rfl (by decide +kernel) ⟨(Nat.le_of_ble_eq_true rfl), (Nat.le_of_ble_eq_true rfl)⟩) (PcR_V (q0 := 0) hPc hKc rfl rfl) rfl rfl hl.1 rfl (lv_room (Nat.le_of_ble_eq_true rfl)) dX10_below_2 ⟨(Nat.le_of_ble_eq_true rfl), (Nat.le_of_ble_eq_true rfl)⟩) hS (fun q _ h => hFc q h) hFc (fun r1 uu tt H locs htt hvm hw hB hz1 hk1 hS => ?_)
  have hP := va_keep hP hk1
  try dsimp only at hw
  clear hB hz1 hk1 hFc hPc hKc
  obtain rfl : r1 = none := hw
  refine W.eq (g2 := F0 m 5 ls [.null]) rfl ?_
  refine lv_astore_nN (lv' := [(3, .null), (0, .ref h0), (1, .int z1), (2, .int z2)]) hx hb dX10_below_5 rfl hl (by decide) rfl (fun ls hl => ?_)
  refine lv_aload_nN hx hb dX10_below_6 rfl (lv_at hl 0 rfl) ?_
  refine lv_ifnullN (tgt := 14) hx hb dX10_below_7 (by decide) ?_
  refine lv_iconst (v := (-1)) hx hb dX10_below_14 (by decide) ?_
  exact W.iret (v := (-1)) hx hb hr (fun t ht hW => ⟨⟨(-1), (), rfl, rfl, trivial⟩, hS.F ht⟩) hS.2.2 dX10_below_15

def own_c_X10_nearest : List Cond := [.methodLink RX10 74 yX10_tableAt, .instanceMethod yX10_tableAt, .selects RX10 yX10_tableAt yX10_tableAt, .initialized RX10]
def wp_c_X10_nearest : List Cond := .code yX10_nearest cX10_nearest 4 (some .int) :: (own_c_X10_nearest ++ (wp_c_tableAt ++ ([] : List Cond)))
set_option maxRecDepth 20000 in
theorem inown_c_X10_nearest : ∀ w ∈ own_c_X10_nearest, w ∈ lw_tbl := mem_places [610, 612, 2, 106] (by decide +kernel)
set_option maxRecDepth 20000 in
theorem in_c_X10_nearest : ∀ w ∈ wp_c_X10_nearest, w ∈ lw_tbl := List.forall_mem_cons.mpr ⟨List.mem_of_getElem? (i := 765) (by decide +kernel), List.forall_mem_append.mpr ⟨inown_c_X10_nearest, List.forall_mem_append.mpr ⟨in_c_tableAt, fun _ h => absurd h List.not_mem_nil⟩⟩⟩
set_option maxRecDepth 20000 in
theorem good_c_X10_nearest : wp_c_X10_nearest.all goodWord = true := by decide +kernel
set_option maxRecDepth 20000 in
theorem g_c_X10_nearest_c_tableAt_74 : GoodIn wp_c_X10_nearest (wsV RX10 74 RX10 yX10_tableAt wp_c_tableAt) := goodIn_sub (List.forall_mem_append.mpr ⟨List.forall_mem_cons.mpr ⟨(List.mem_of_getElem? (i := 1) rfl), List.forall_mem_cons.mpr ⟨(List.mem_of_getElem? (i := 2) rfl), List.forall_mem_cons.mpr ⟨(List.mem_of_getElem? (i := 3) rfl), List.forall_mem_cons.mpr ⟨(List.mem_of_getElem? (i := 4) rfl), fun _ h => absurd h List.not_mem_nil⟩⟩⟩⟩, (fun _ h => (List.mem_cons_of_mem _ (List.mem_append_right _ (List.mem_append_left _ h))))⟩) (by decide +kernel)
set_option maxHeartbeats 4000000 in
set_option maxRecDepth 100000 in
theorem c_X10_nearest (l : Launch) (D : va_G) (sz : Nat) (h0 : Nat) (ca : Nat → Nat) (cT : ClassId) (tp : Int32) (z1 : Int32) (z2 : Int32)  : Met l yX10_nearest wp_c_X10_nearest ({ frames := 2, cells := 0, slots := 0, locals := 41 }) (PcR D [.ref h0, .int z1, .int z2] sz [(h0, .inr (10, [.ref (ca 0), .ref (ca 1), .int tp, .ref (ca 3), .ref (ca 4), .ref (ca 5), .ref (ca 6)])), (ca 0, .inl (cT, 4, .inr (.inr (.inr (.inr (fun _ => none))))))] [(cT, .object RX9)]) (va_Qi (fun (r : Int32) (_ : Unit) => r = (-1)) (fun (_ : Unit) _ => True) (va_A [] sz)) 0 0 (va_A [] sz) := by
  refine Met.ofW (cc := cX10_nearest) (maxL := 4) (ret := (some .int)) (by decide) rfl ?_
  intro p e s m args below meth c s₁ B hml hv
  obtain ⟨rfl, hsz, hP, hK⟩ := hv
  have hx := B.exec
  have hb := B.bytes
  have hr := B.returns
  have hts := atoms_spec (ws := wp_c_X10_nearest) B.pre
  have hown : s.vm.findClass RX10 = some m.cls := findClass_of_methodNamed B.named
  have hlocks := B.notSynchronized
  subst hsz
  generalize hAe : va_A [] s.heap.size = A at ⊢
  have hA : ∀ q : Nat, s.heap.size ≤ q → A q := fun q h => by rw [← hAe]; exact Or.inr h
  have hS : va_S A s.heap s.heap [] := va_S.rf
  have hP : va_P D vwCl [(h0, .inr (10, [.ref (ca 0), .ref (ca 1), .int tp, .ref (ca 3), .ref (ca 4), .ref (ca 5), .ref (ca 6)])), (ca 0, .inl (cT, 4, .inr (.inr (.inr (.inr (fun _ => none))))))] s.heap := hP
  have hl := lv_entry ([.ref h0, .int z1, .int z2]) (n := 4) (Nat.le_of_ble_eq_true rfl)
  rw [lg_entry_eq]
  generalize (lg_sl ([.ref h0, .int z1, .int z2]) ++ List.replicate (4 - (lg_sl ([.ref h0, .int z1, .int z2])).length) Slot.unset).toArray = ls at hl ⊢
  have hl : lv_has ls 4 [(0, .ref h0), (1, .int z1), (2, .int z2)] := hl
  refine lv_aload_n hx hb dX10_nearest_0 rfl (lv_at hl 0 rfl) ?_
  refine lv_iload_n hx hb dX10_nearest_1 rfl (lv_at hl 1 rfl) ?_
  have hPc := hP.sub (ws' := [(h0, .inr (10, [.ref (ca 0), .ref (ca 1), .int tp, .ref (ca 3), .ref (ca 4), .ref (ca 5), .ref (ca 6)])), (ca 0, .inl (cT, 4, .inr (.inr (.inr (.inr (fun _ => none))))))]) [0, 1] rfl
  have hKc := hK.sub (tys' := [(cT, .object RX9)]) [0] rfl
  have hFc := va_free0 hS hA
  refine va_callq (va_runV (As := [.int z1]) (rest := []) ⟨hx, hb, hml, hown, hts⟩ (c_tableAt l D _ h0 ca cT tp z1) (cwV 1 hts g_c_X10_nearest_c_tableAt_74 rfl rfl rfl (by decide +kernel) ⟨(Nat.le_of_ble_eq_true rfl), (Nat.le_of_ble_eq_true rfl)⟩) (PcR_V (q0 := 0) hPc hKc rfl rfl) rfl rfl hl.1 rfl (lv_room (Nat.le_of_ble_eq_true rfl)) dX10_nearest_2 ⟨(Nat.le_of_ble_eq_true rfl), (Nat.le_of_ble_eq_true rfl)⟩) hS (fun q _ h => hFc q h) hFc (fun r1 uu tt H locs htt hvm hw hB hz1 hk1 hS => ?_)
  have hP := va_keep hP hk1
  try dsimp only at hw
  clear hB hz1 hk1 hFc hPc hKc
  obtain rfl : r1 = none := hw
  refine W.eq (g2 := F0 m 5 ls [.null]) rfl ?_
  refine lv_astore_nN (lv' := [(3, .null), (0, .ref h0), (1, .int z1), (2, .int z2)]) hx hb dX10_nearest_5 rfl hl (by decide) rfl (fun ls hl => ?_)
  refine lv_aload_nN hx hb dX10_nearest_6 rfl (lv_at hl 0 rfl) ?_
  refine lv_ifnullN (tgt := 17) hx hb dX10_nearest_7 (by decide) ?_
  refine lv_iconst (v := (-1)) hx hb dX10_nearest_17 (by decide) ?_
  exact W.iret (v := (-1)) hx hb hr (fun t ht hW => ⟨⟨(-1), (), rfl, rfl, trivial⟩, hS.F ht⟩) hS.2.2 dX10_nearest_18

def own_c_X10_many : List Cond := [.methodLink RX10 74 yX10_tableAt, .instanceMethod yX10_tableAt, .selects RX10 yX10_tableAt yX10_tableAt, .initialized RX10]
def wp_c_X10_many : List Cond := .code yX10_many cX10_many 4 (some .int) :: (own_c_X10_many ++ (wp_c_tableAt ++ ([] : List Cond)))
set_option maxRecDepth 20000 in
theorem inown_c_X10_many : ∀ w ∈ own_c_X10_many, w ∈ lw_tbl := mem_places [610, 612, 2, 106] (by decide +kernel)
set_option maxRecDepth 20000 in
theorem in_c_X10_many : ∀ w ∈ wp_c_X10_many, w ∈ lw_tbl := List.forall_mem_cons.mpr ⟨List.mem_of_getElem? (i := 774) (by decide +kernel), List.forall_mem_append.mpr ⟨inown_c_X10_many, List.forall_mem_append.mpr ⟨in_c_tableAt, fun _ h => absurd h List.not_mem_nil⟩⟩⟩
set_option maxRecDepth 20000 in
theorem good_c_X10_many : wp_c_X10_many.all goodWord = true := by decide +kernel
set_option maxRecDepth 20000 in
theorem g_c_X10_many_c_tableAt_74 : GoodIn wp_c_X10_many (wsV RX10 74 RX10 yX10_tableAt wp_c_tableAt) := goodIn_sub (List.forall_mem_append.mpr ⟨List.forall_mem_cons.mpr ⟨(List.mem_of_getElem? (i := 1) rfl), List.forall_mem_cons.mpr ⟨(List.mem_of_getElem? (i := 2) rfl), List.forall_mem_cons.mpr ⟨(List.mem_of_getElem? (i := 3) rfl), List.forall_mem_cons.mpr ⟨(List.mem_of_getElem? (i := 4) rfl), fun _ h => absurd h List.not_mem_nil⟩⟩⟩⟩, (fun _ h => (List.mem_cons_of_mem _ (List.mem_append_right _ (List.mem_append_left _ h))))⟩) (by decide +kernel)
set_option maxHeartbeats 4000000 in
set_option maxRecDepth 100000 in
theorem c_X10_many (l : Launch) (D : va_G) (sz : Nat) (h0 : Nat) (ca : Nat → Nat) (cT : ClassId) (tp : Int32) (z1 : Int32) (z2 : Int32)  : Met l yX10_many wp_c_X10_many ({ frames := 2, cells := 0, slots := 0, locals := 41 }) (PcR D [.ref h0, .int z1, .int z2] sz [(h0, .inr (10, [.ref (ca 0), .ref (ca 1), .int tp, .ref (ca 3), .ref (ca 4), .ref (ca 5), .ref (ca 6)])), (ca 0, .inl (cT, 4, .inr (.inr (.inr (.inr (fun _ => none))))))] [(cT, .object RX9)]) (va_Qi (fun (r : Int32) (_ : Unit) => r = (-1)) (fun (_ : Unit) _ => True) (va_A [] sz)) 0 0 (va_A [] sz) := by
  refine Met.ofW (cc := cX10_many) (maxL := 4) (ret := (some .int)) (by decide) rfl ?_
  intro p e s m args below meth c s₁ B hml hv
  obtain ⟨rfl, hsz, hP, hK⟩ := hv
  have hx := B.exec
  have hb := B.bytes
  have hr := B.returns
  have hts := atoms_spec (ws := wp_c_X10_many) B.pre
  have hown : s.vm.findClass RX10 = some m.cls := findClass_of_methodNamed B.named
  have hlocks := B.notSynchronized
  subst hsz
  generalize hAe : va_A [] s.heap.size = A at ⊢
  have hA : ∀ q : Nat, s.heap.size ≤ q → A q := fun q h => by rw [← hAe]; exact Or.inr h
  have hS : va_S A s.heap s.heap [] := va_S.rf
  have hP : va_P D vwCl [(h0, .inr (10, [.ref (ca 0), .ref (ca 1), .int tp, .ref (ca 3), .ref (ca 4), .ref (ca 5), .ref (ca 6)])), (ca 0, .inl (cT, 4, .inr (.inr (.inr (.inr (fun _ => none))))))] s.heap := hP
  have hl := lv_entry ([.ref h0, .int z1, .int z2]) (n := 4) (Nat.le_of_ble_eq_true rfl)
  rw [lg_entry_eq]
  generalize (lg_sl ([.ref h0, .int z1, .int z2]) ++ List.replicate (4 - (lg_sl ([.ref h0, .int z1, .int z2])).length) Slot.unset).toArray = ls at hl ⊢
  have hl : lv_has ls 4 [(0, .ref h0), (1, .int z1), (2, .int z2)] := hl
  refine lv_aload_n hx hb dX10_many_0 rfl (lv_at hl 0 rfl) ?_
  refine lv_iload_n hx hb dX10_many_1 rfl (lv_at hl 1 rfl) ?_
  have hPc := hP.sub (ws' := [(h0, .inr (10, [.ref (ca 0), .ref (ca 1), .int tp, .ref (ca 3), .ref (ca 4), .ref (ca 5), .ref (ca 6)])), (ca 0, .inl (cT, 4, .inr (.inr (.inr (.inr (fun _ => none))))))]) [0, 1] rfl
  have hKc := hK.sub (tys' := [(cT, .object RX9)]) [0] rfl
  have hFc := va_free0 hS hA
  refine va_callq (va_runV (As := [.int z1]) (rest := []) ⟨hx, hb, hml, hown, hts⟩ (c_tableAt l D _ h0 ca cT tp z1) (cwV 1 hts g_c_X10_many_c_tableAt_74 rfl rfl rfl (by decide +kernel) ⟨(Nat.le_of_ble_eq_true rfl), (Nat.le_of_ble_eq_true rfl)⟩) (PcR_V (q0 := 0) hPc hKc rfl rfl) rfl rfl hl.1 rfl (lv_room (Nat.le_of_ble_eq_true rfl)) dX10_many_2 ⟨(Nat.le_of_ble_eq_true rfl), (Nat.le_of_ble_eq_true rfl)⟩) hS (fun q _ h => hFc q h) hFc (fun r1 uu tt H locs htt hvm hw hB hz1 hk1 hS => ?_)
  have hP := va_keep hP hk1
  try dsimp only at hw
  clear hB hz1 hk1 hFc hPc hKc
  obtain rfl : r1 = none := hw
  refine W.eq (g2 := F0 m 5 ls [.null]) rfl ?_
  refine lv_astore_nN (lv' := [(3, .null), (0, .ref h0), (1, .int z1), (2, .int z2)]) hx hb dX10_many_5 rfl hl (by decide) rfl (fun ls hl => ?_)
  refine lv_aload_nN hx hb dX10_many_6 rfl (lv_at hl 0 rfl) ?_
  refine lv_ifnullN (tgt := 14) hx hb dX10_many_7 (by decide) ?_
  refine lv_iconst (v := (-1)) hx hb dX10_many_14 (by decide) ?_
  exact W.iret (v := (-1)) hx hb hr (fun t ht hW => ⟨⟨(-1), (), rfl, rfl, trivial⟩, hS.F ht⟩) hS.2.2 dX10_many_15

def own_c_X10_crowd : List Cond := [.methodLink RX10 74 yX10_tableAt, .instanceMethod yX10_tableAt, .selects RX10 yX10_tableAt yX10_tableAt, .initialized RX10]
def wp_c_X10_crowd : List Cond := .code yX10_crowd cX10_crowd 5 (some .int) :: (own_c_X10_crowd ++ (wp_c_tableAt ++ ([] : List Cond)))
set_option maxRecDepth 20000 in
theorem inown_c_X10_crowd : ∀ w ∈ own_c_X10_crowd, w ∈ lw_tbl := mem_places [610, 612, 2, 106] (by decide +kernel)
set_option maxRecDepth 20000 in
theorem in_c_X10_crowd : ∀ w ∈ wp_c_X10_crowd, w ∈ lw_tbl := List.forall_mem_cons.mpr ⟨List.mem_of_getElem? (i := 782) (by decide +kernel), List.forall_mem_append.mpr ⟨inown_c_X10_crowd, List.forall_mem_append.mpr ⟨in_c_tableAt, fun _ h => absurd h List.not_mem_nil⟩⟩⟩
set_option maxRecDepth 20000 in
theorem good_c_X10_crowd : wp_c_X10_crowd.all goodWord = true := by decide +kernel
set_option maxRecDepth 20000 in
theorem g_c_X10_crowd_c_tableAt_74 : GoodIn wp_c_X10_crowd (wsV RX10 74 RX10 yX10_tableAt wp_c_tableAt) := goodIn_sub (List.forall_mem_append.mpr ⟨List.forall_mem_cons.mpr ⟨(List.mem_of_getElem? (i := 1) rfl), List.forall_mem_cons.mpr ⟨(List.mem_of_getElem? (i := 2) rfl), List.forall_mem_cons.mpr ⟨(List.mem_of_getElem? (i := 3) rfl), List.forall_mem_cons.mpr ⟨(List.mem_of_getElem? (i := 4) rfl), fun _ h => absurd h List.not_mem_nil⟩⟩⟩⟩, (fun _ h => (List.mem_cons_of_mem _ (List.mem_append_right _ (List.mem_append_left _ h))))⟩) (by decide +kernel)
set_option maxHeartbeats 4000000 in
set_option maxRecDepth 100000 in
theorem c_X10_crowd (l : Launch) (D : va_G) (sz : Nat) (h0 : Nat) (ca : Nat → Nat) (cT : ClassId) (tp : Int32) (z1 : Int32) (z2 : Int32)  : Met l yX10_crowd wp_c_X10_crowd ({ frames := 2, cells := 0, slots := 0, locals := 41 }) (PcR D [.ref h0, .int z1, .int z2] sz [(h0, .inr (10, [.ref (ca 0), .ref (ca 1), .int tp, .ref (ca 3), .ref (ca 4), .ref (ca 5), .ref (ca 6)])), (ca 0, .inl (cT, 4, .inr (.inr (.inr (.inr (fun _ => none))))))] [(cT, .object RX9)]) (va_Qi (fun (r : Int32) (_ : Unit) => r = (-1)) (fun (_ : Unit) _ => True) (va_A [] sz)) 0 0 (va_A [] sz) := by
  refine Met.ofW (cc := cX10_crowd) (maxL := 5) (ret := (some .int)) (by decide) rfl ?_
  intro p e s m args below meth c s₁ B hml hv
  obtain ⟨rfl, hsz, hP, hK⟩ := hv
  have hx := B.exec
  have hb := B.bytes
  have hr := B.returns
  have hts := atoms_spec (ws := wp_c_X10_crowd) B.pre
  have hown : s.vm.findClass RX10 = some m.cls := findClass_of_methodNamed B.named
  have hlocks := B.notSynchronized
  subst hsz
  generalize hAe : va_A [] s.heap.size = A at ⊢
  have hA : ∀ q : Nat, s.heap.size ≤ q → A q := fun q h => by rw [← hAe]; exact Or.inr h
  have hS : va_S A s.heap s.heap [] := va_S.rf
  have hP : va_P D vwCl [(h0, .inr (10, [.ref (ca 0), .ref (ca 1), .int tp, .ref (ca 3), .ref (ca 4), .ref (ca 5), .ref (ca 6)])), (ca 0, .inl (cT, 4, .inr (.inr (.inr (.inr (fun _ => none))))))] s.heap := hP
  have hl := lv_entry ([.ref h0, .int z1, .int z2]) (n := 5) (Nat.le_of_ble_eq_true rfl)
  rw [lg_entry_eq]
  generalize (lg_sl ([.ref h0, .int z1, .int z2]) ++ List.replicate (5 - (lg_sl ([.ref h0, .int z1, .int z2])).length) Slot.unset).toArray = ls at hl ⊢
  have hl : lv_has ls 5 [(0, .ref h0), (1, .int z1), (2, .int z2)] := hl
  refine lv_aload_n hx hb dX10_crowd_0 rfl (lv_at hl 0 rfl) ?_
  refine lv_iload_n hx hb dX10_crowd_1 rfl (lv_at hl 1 rfl) ?_
  have hPc := hP.sub (ws' := [(h0, .inr (10, [.ref (ca 0), .ref (ca 1), .int tp, .ref (ca 3), .ref (ca 4), .ref (ca 5), .ref (ca 6)])), (ca 0, .inl (cT, 4, .inr (.inr (.inr (.inr (fun _ => none))))))]) [0, 1] rfl
  have hKc := hK.sub (tys' := [(cT, .object RX9)]) [0] rfl
  have hFc := va_free0 hS hA
  refine va_callq (va_runV (As := [.int z1]) (rest := []) ⟨hx, hb, hml, hown, hts⟩ (c_tableAt l D _ h0 ca cT tp z1) (cwV 1 hts g_c_X10_crowd_c_tableAt_74 rfl rfl rfl (by decide +kernel) ⟨(Nat.le_of_ble_eq_true rfl), (Nat.le_of_ble_eq_true rfl)⟩) (PcR_V (q0 := 0) hPc hKc rfl rfl) rfl rfl hl.1 rfl (lv_room (Nat.le_of_ble_eq_true rfl)) dX10_crowd_2 ⟨(Nat.le_of_ble_eq_true rfl), (Nat.le_of_ble_eq_true rfl)⟩) hS (fun q _ h => hFc q h) hFc (fun r1 uu tt H locs htt hvm hw hB hz1 hk1 hS => ?_)
  have hP := va_keep hP hk1
  try dsimp only at hw
  clear hB hz1 hk1 hFc hPc hKc
  obtain rfl : r1 = none := hw
  refine W.eq (g2 := F0 m 5 ls [.null]) rfl ?_
  refine lv_astore_nN (lv' := [(3, .null), (0, .ref h0), (1, .int z1), (2, .int z2)]) hx hb dX10_crowd_5 rfl hl (by decide) rfl (fun ls hl => ?_)
  refine lv_aload_nN hx hb dX10_crowd_6 rfl (lv_at hl 0 rfl) ?_
  refine lv_ifnonnullN hx hb dX10_crowd_7 ?_
  refine lv_iconst (v := (-1)) hx hb dX10_crowd_10 (by decide) ?_
  exact W.iret (v := (-1)) hx hb hr (fun t ht hW => ⟨⟨(-1), (), rfl, rfl, trivial⟩, hS.F ht⟩) hS.2.2 dX10_crowd_11

def own_c_X10_empty : List Cond := [.methodLink RX10 74 yX10_tableAt, .instanceMethod yX10_tableAt, .selects RX10 yX10_tableAt yX10_tableAt, .initialized RX10]
def wp_c_X10_empty : List Cond := .code yX10_empty cX10_empty 3 (some .int) :: (own_c_X10_empty ++ (wp_c_tableAt ++ ([] : List Cond)))
set_option maxRecDepth 20000 in
theorem inown_c_X10_empty : ∀ w ∈ own_c_X10_empty, w ∈ lw_tbl := mem_places [610, 612, 2, 106] (by decide +kernel)
set_option maxRecDepth 20000 in
theorem in_c_X10_empty : ∀ w ∈ wp_c_X10_empty, w ∈ lw_tbl := List.forall_mem_cons.mpr ⟨List.mem_of_getElem? (i := 794) (by decide +kernel), List.forall_mem_append.mpr ⟨inown_c_X10_empty, List.forall_mem_append.mpr ⟨in_c_tableAt, fun _ h => absurd h List.not_mem_nil⟩⟩⟩
set_option maxRecDepth 20000 in
theorem good_c_X10_empty : wp_c_X10_empty.all goodWord = true := by decide +kernel
set_option maxRecDepth 20000 in
theorem g_c_X10_empty_c_tableAt_74 : GoodIn wp_c_X10_empty (wsV RX10 74 RX10 yX10_tableAt wp_c_tableAt) := goodIn_sub (List.forall_mem_append.mpr ⟨List.forall_mem_cons.mpr ⟨(List.mem_of_getElem? (i := 1) rfl), List.forall_mem_cons.mpr ⟨(List.mem_of_getElem? (i := 2) rfl), List.forall_mem_cons.mpr ⟨(List.mem_of_getElem? (i := 3) rfl), List.forall_mem_cons.mpr ⟨(List.mem_of_getElem? (i := 4) rfl), fun _ h => absurd h List.not_mem_nil⟩⟩⟩⟩, (fun _ h => (List.mem_cons_of_mem _ (List.mem_append_right _ (List.mem_append_left _ h))))⟩) (by decide +kernel)
set_option maxHeartbeats 4000000 in
set_option maxRecDepth 100000 in
theorem c_X10_empty (l : Launch) (D : va_G) (sz : Nat) (h0 : Nat) (ca : Nat → Nat) (cT : ClassId) (tp : Int32) (z1 : Int32)  : Met l yX10_empty wp_c_X10_empty ({ frames := 2, cells := 0, slots := 0, locals := 41 }) (PcR D [.ref h0, .int z1] sz [(h0, .inr (10, [.ref (ca 0), .ref (ca 1), .int tp, .ref (ca 3), .ref (ca 4), .ref (ca 5), .ref (ca 6)])), (ca 0, .inl (cT, 4, .inr (.inr (.inr (.inr (fun _ => none))))))] [(cT, .object RX9)]) (va_Qi (fun (r : Int32) (_ : Unit) => r = (-1)) (fun (_ : Unit) _ => True) (va_A [] sz)) 0 0 (va_A [] sz) := by
  refine Met.ofW (cc := cX10_empty) (maxL := 3) (ret := (some .int)) (by decide) rfl ?_
  intro p e s m args below meth c s₁ B hml hv
  obtain ⟨rfl, hsz, hP, hK⟩ := hv
  have hx := B.exec
  have hb := B.bytes
  have hr := B.returns
  have hts := atoms_spec (ws := wp_c_X10_empty) B.pre
  have hown : s.vm.findClass RX10 = some m.cls := findClass_of_methodNamed B.named
  have hlocks := B.notSynchronized
  subst hsz
  generalize hAe : va_A [] s.heap.size = A at ⊢
  have hA : ∀ q : Nat, s.heap.size ≤ q → A q := fun q h => by rw [← hAe]; exact Or.inr h
  have hS : va_S A s.heap s.heap [] := va_S.rf
  have hP : va_P D vwCl [(h0, .inr (10, [.ref (ca 0), .ref (ca 1), .int tp, .ref (ca 3), .ref (ca 4), .ref (ca 5), .ref (ca 6)])), (ca 0, .inl (cT, 4, .inr (.inr (.inr (.inr (fun _ => none))))))] s.heap := hP
  have hl := lv_entry ([.ref h0, .int z1]) (n := 3) (Nat.le_of_ble_eq_true rfl)
  rw [lg_entry_eq]
  generalize (lg_sl ([.ref h0, .int z1]) ++ List.replicate (3 - (lg_sl ([.ref h0, .int z1])).length) Slot.unset).toArray = ls at hl ⊢
  have hl : lv_has ls 3 [(0, .ref h0), (1, .int z1)] := hl
  refine lv_aload_n hx hb dX10_empty_0 rfl (lv_at hl 0 rfl) ?_
  refine lv_iload_n hx hb dX10_empty_1 rfl (lv_at hl 1 rfl) ?_
  have hPc := hP.sub (ws' := [(h0, .inr (10, [.ref (ca 0), .ref (ca 1), .int tp, .ref (ca 3), .ref (ca 4), .ref (ca 5), .ref (ca 6)])), (ca 0, .inl (cT, 4, .inr (.inr (.inr (.inr (fun _ => none))))))]) [0, 1] rfl
  have hKc := hK.sub (tys' := [(cT, .object RX9)]) [0] rfl
  have hFc := va_free0 hS hA
  refine va_callq (va_runV (As := [.int z1]) (rest := []) ⟨hx, hb, hml, hown, hts⟩ (c_tableAt l D _ h0 ca cT tp z1) (cwV 1 hts g_c_X10_empty_c_tableAt_74 rfl rfl rfl (by decide +kernel) ⟨(Nat.le_of_ble_eq_true rfl), (Nat.le_of_ble_eq_true rfl)⟩) (PcR_V (q0 := 0) hPc hKc rfl rfl) rfl rfl hl.1 rfl (lv_room (Nat.le_of_ble_eq_true rfl)) dX10_empty_2 ⟨(Nat.le_of_ble_eq_true rfl), (Nat.le_of_ble_eq_true rfl)⟩) hS (fun q _ h => hFc q h) hFc (fun r1 uu tt H locs htt hvm hw hB hz1 hk1 hS => ?_)
  have hP := va_keep hP hk1
  try dsimp only at hw
  clear hB hz1 hk1 hFc hPc hKc
  obtain rfl : r1 = none := hw
  refine W.eq (g2 := F0 m 5 ls [.null]) rfl ?_
  refine lv_astore_nN (lv' := [(2, .null), (0, .ref h0), (1, .int z1)]) hx hb dX10_empty_5 rfl hl (by decide) rfl (fun ls hl => ?_)
  refine lv_aload_nN hx hb dX10_empty_6 rfl (lv_at hl 0 rfl) ?_
  refine lv_ifnonnullN hx hb dX10_empty_7 ?_
  refine lv_iconst (v := (-1)) hx hb dX10_empty_10 (by decide) ?_
  refine lv_goto (tgt := 29) hx hb dX10_empty_11 (by decide) ?_
  exact W.iret (v := (-1)) hx hb hr (fun t ht hW => ⟨⟨(-1), (), rfl, rfl, trivial⟩, hS.F ht⟩) hS.2.2 dX10_empty_29

def own_c_X10_left : List Cond := [.methodLink RX10 74 yX10_tableAt, .instanceMethod yX10_tableAt, .selects RX10 yX10_tableAt yX10_tableAt, .initialized RX10]
def wp_c_X10_left : List Cond := .code yX10_left cX10_left 3 (some .int) :: (own_c_X10_left ++ (wp_c_tableAt ++ ([] : List Cond)))
set_option maxRecDepth 20000 in
theorem inown_c_X10_left : ∀ w ∈ own_c_X10_left, w ∈ lw_tbl := mem_places [610, 612, 2, 106] (by decide +kernel)
set_option maxRecDepth 20000 in
theorem in_c_X10_left : ∀ w ∈ wp_c_X10_left, w ∈ lw_tbl := List.forall_mem_cons.mpr ⟨List.mem_of_getElem? (i := 798) (by decide +kernel), List.forall_mem_append.mpr ⟨inown_c_X10_left, List.forall_mem_append.mpr ⟨in_c_tableAt, fun _ h => absurd h List.not_mem_nil⟩⟩⟩
set_option maxRecDepth 20000 in
theorem good_c_X10_left : wp_c_X10_left.all goodWord = true := by decide +kernel
set_option maxRecDepth 20000 in
theorem g_c_X10_left_c_tableAt_74 : GoodIn wp_c_X10_left (wsV RX10 74 RX10 yX10_tableAt wp_c_tableAt) := goodIn_sub (List.forall_mem_append.mpr ⟨List.forall_mem_cons.mpr ⟨(List.mem_of_getElem? (i := 1) rfl), List.forall_mem_cons.mpr ⟨(List.mem_of_getElem? (i := 2) rfl), List.forall_mem_cons.mpr ⟨(List.mem_of_getElem? (i := 3) rfl), List.forall_mem_cons.mpr ⟨(List.mem_of_getElem? (i := 4) rfl), fun _ h => absurd h List.not_mem_nil⟩⟩⟩⟩, (fun _ h => (List.mem_cons_of_mem _ (List.mem_append_right _ (List.mem_append_left _ h))))⟩) (by decide +kernel)
set_option maxHeartbeats 4000000 in
set_option maxRecDepth 100000 in
theorem c_X10_left (l : Launch) (D : va_G) (sz : Nat) (h0 : Nat) (ca : Nat → Nat) (cT : ClassId) (tp : Int32) (z1 : Int32)  : Met l yX10_left wp_c_X10_left ({ frames := 2, cells := 0, slots := 0, locals := 41 }) (PcR D [.ref h0, .int z1] sz [(h0, .inr (10, [.ref (ca 0), .ref (ca 1), .int tp, .ref (ca 3), .ref (ca 4), .ref (ca 5), .ref (ca 6)])), (ca 0, .inl (cT, 4, .inr (.inr (.inr (.inr (fun _ => none))))))] [(cT, .object RX9)]) (va_Qi (fun (r : Int32) (_ : Unit) => r = (-1)) (fun (_ : Unit) _ => True) (va_A [] sz)) 0 0 (va_A [] sz) := by
  refine Met.ofW (cc := cX10_left) (maxL := 3) (ret := (some .int)) (by decide) rfl ?_
  intro p e s m args below meth c s₁ B hml hv
  obtain ⟨rfl, hsz, hP, hK⟩ := hv
  have hx := B.exec
  have hb := B.bytes
  have hr := B.returns
  have hts := atoms_spec (ws := wp_c_X10_left) B.pre
  have hown : s.vm.findClass RX10 = some m.cls := findClass_of_methodNamed B.named
  have hlocks := B.notSynchronized
  subst hsz
  generalize hAe : va_A [] s.heap.size = A at ⊢
  have hA : ∀ q : Nat, s.heap.size ≤ q → A q := fun q h => by rw [← hAe]; exact Or.inr h
  have hS : va_S A s.heap s.heap [] := va_S.rf
  have hP : va_P D vwCl [(h0, .inr (10, [.ref (ca 0), .ref (ca 1), .int tp, .ref (ca 3), .ref (ca 4), .ref (ca 5), .ref (ca 6)])), (ca 0, .inl (cT, 4, .inr (.inr (.inr (.inr (fun _ => none))))))] s.heap := hP
  have hl := lv_entry ([.ref h0, .int z1]) (n := 3) (Nat.le_of_ble_eq_true rfl)
  rw [lg_entry_eq]
  generalize (lg_sl ([.ref h0, .int z1]) ++ List.replicate (3 - (lg_sl ([.ref h0, .int z1])).length) Slot.unset).toArray = ls at hl ⊢
  have hl : lv_has ls 3 [(0, .ref h0), (1, .int z1)] := hl
  refine lv_aload_n hx hb dX10_left_0 rfl (lv_at hl 0 rfl) ?_
  refine lv_iload_n hx hb dX10_left_1 rfl (lv_at hl 1 rfl) ?_
  have hPc := hP.sub (ws' := [(h0, .inr (10, [.ref (ca 0), .ref (ca 1), .int tp, .ref (ca 3), .ref (ca 4), .ref (ca 5), .ref (ca 6)])), (ca 0, .inl (cT, 4, .inr (.inr (.inr (.inr (fun _ => none))))))]) [0, 1] rfl
  have hKc := hK.sub (tys' := [(cT, .object RX9)]) [0] rfl
  have hFc := va_free0 hS hA
  refine va_callq (va_runV (As := [.int z1]) (rest := []) ⟨hx, hb, hml, hown, hts⟩ (c_tableAt l D _ h0 ca cT tp z1) (cwV 1 hts g_c_X10_left_c_tableAt_74 rfl rfl rfl (by decide +kernel) ⟨(Nat.le_of_ble_eq_true rfl), (Nat.le_of_ble_eq_true rfl)⟩) (PcR_V (q0 := 0) hPc hKc rfl rfl) rfl rfl hl.1 rfl (lv_room (Nat.le_of_ble_eq_true rfl)) dX10_left_2 ⟨(Nat.le_of_ble_eq_true rfl), (Nat.le_of_ble_eq_true rfl)⟩) hS (fun q _ h => hFc q h) hFc (fun r1 uu tt H locs htt hvm hw hB hz1 hk1 hS => ?_)
  have hP := va_keep hP hk1
  try dsimp only at hw
  clear hB hz1 hk1 hFc hPc hKc
  obtain rfl : r1 = none := hw
  refine W.eq (g2 := F0 m 5 ls [.null]) rfl ?_
  refine lv_astore_nN (lv' := [(2, .null), (0, .ref h0), (1, .int z1)]) hx hb dX10_left_5 rfl hl (by decide) rfl (fun ls hl => ?_)
  refine lv_aload_nN hx hb dX10_left_6 rfl (lv_at hl 0 rfl) ?_
  refine lv_ifnonnullN hx hb dX10_left_7 ?_
  refine lv_iconst (v := (-1)) hx hb dX10_left_10 (by decide) ?_
  refine lv_goto (tgt := 25) hx hb dX10_left_11 (by decide) ?_
  exact W.iret (v := (-1)) hx hb hr (fun t ht hW => ⟨⟨(-1), (), rfl, rfl, trivial⟩, hS.F ht⟩) hS.2.2 dX10_left_25

def own_c_X10_outer : List Cond := [.methodLink RX10 74 yX10_tableAt, .instanceMethod yX10_tableAt, .selects RX10 yX10_tableAt yX10_tableAt, .initialized RX10, .constantLong RX10 91 (-1000000000000000)]
def wp_c_X10_outer : List Cond := .code yX10_outer cX10_outer 7 (some .long) :: (own_c_X10_outer ++ (wp_c_tableAt ++ ([] : List Cond)))
set_option maxRecDepth 20000 in
theorem inown_c_X10_outer : ∀ w ∈ own_c_X10_outer, w ∈ lw_tbl := mem_places [610, 612, 2, 106, 691] (by decide +kernel)
set_option maxRecDepth 20000 in
theorem in_c_X10_outer : ∀ w ∈ wp_c_X10_outer, w ∈ lw_tbl := List.forall_mem_cons.mpr ⟨List.mem_of_getElem? (i := 802) (by decide +kernel), List.forall_mem_append.mpr ⟨inown_c_X10_outer, List.forall_mem_append.mpr ⟨in_c_tableAt, fun _ h => absurd h List.not_mem_nil⟩⟩⟩
set_option maxRecDepth 20000 in
theorem good_c_X10_outer : wp_c_X10_outer.all goodWord = true := by decide +kernel
set_option maxRecDepth 20000 in
theorem g_c_X10_outer_c_tableAt_74 : GoodIn wp_c_X10_outer (wsV RX10 74 RX10 yX10_tableAt wp_c_tableAt) := goodIn_sub (List.forall_mem_append.mpr ⟨List.forall_mem_cons.mpr ⟨(List.mem_of_getElem? (i := 1) rfl), List.forall_mem_cons.mpr ⟨(List.mem_of_getElem? (i := 2) rfl), List.forall_mem_cons.mpr ⟨(List.mem_of_getElem? (i := 3) rfl), List.forall_mem_cons.mpr ⟨(List.mem_of_getElem? (i := 4) rfl), fun _ h => absurd h List.not_mem_nil⟩⟩⟩⟩, (fun _ h => (List.mem_cons_of_mem _ (List.mem_append_right _ (List.mem_append_left _ h))))⟩) (by decide +kernel)
set_option maxHeartbeats 4000000 in
set_option maxRecDepth 100000 in
theorem c_X10_outer (l : Launch) (D : va_G) (sz : Nat) (h0 : Nat) (ca : Nat → Nat) (cT : ClassId) (tp : Int32) (z1 : Int32) (z2 : Int32) (z3 : Int32) (z4 : Int32) (z5 : Int32)  : Met l yX10_outer wp_c_X10_outer ({ frames := 2, cells := 0, slots := 0, locals := 41 }) (PcR D [.ref h0, .int z1, .int z2, .int z3, .int z4, .int z5] sz [(h0, .inr (10, [.ref (ca 0), .ref (ca 1), .int tp, .ref (ca 3), .ref (ca 4), .ref (ca 5), .ref (ca 6)])), (ca 0, .inl (cT, 4, .inr (.inr (.inr (.inr (fun _ => none))))))] [(cT, .object RX9)]) (va_Ql (fun (r : Int64) (_ : Unit) => r = (-1000000000000000)) (fun (_ : Unit) _ => True) (va_A [] sz)) 0 0 (va_A [] sz) := by
  refine Met.ofW (cc := cX10_outer) (maxL := 7) (ret := (some .long)) (by decide) rfl ?_
  intro p e s m args below meth c s₁ B hml hv
  obtain ⟨rfl, hsz, hP, hK⟩ := hv
  have hx := B.exec
  have hb := B.bytes
  have hr := B.returns
  have hts := atoms_spec (ws := wp_c_X10_outer) B.pre
  have hown : s.vm.findClass RX10 = some m.cls := findClass_of_methodNamed B.named
  have hlocks := B.notSynchronized
  subst hsz
  generalize hAe : va_A [] s.heap.size = A at ⊢
  have hA : ∀ q : Nat, s.heap.size ≤ q → A q := fun q h => by rw [← hAe]; exact Or.inr h
  have hS : va_S A s.heap s.heap [] := va_S.rf
  have hP : va_P D vwCl [(h0, .inr (10, [.ref (ca 0), .ref (ca 1), .int tp, .ref (ca 3), .ref (ca 4), .ref (ca 5), .ref (ca 6)])), (ca 0, .inl (cT, 4, .inr (.inr (.inr (.inr (fun _ => none))))))] s.heap := hP
  have hl := lv_entry ([.ref h0, .int z1, .int z2, .int z3, .int z4, .int z5]) (n := 7) (Nat.le_of_ble_eq_true rfl)
  rw [lg_entry_eq]
  generalize (lg_sl ([.ref h0, .int z1, .int z2, .int z3, .int z4, .int z5]) ++ List.replicate (7 - (lg_sl ([.ref h0, .int z1, .int z2, .int z3, .int z4, .int z5])).length) Slot.unset).toArray = ls at hl ⊢
  have hl : lv_has ls 7 [(0, .ref h0), (1, .int z1), (2, .int z2), (3, .int z3), (4, .int z4), (5, .int z5)] := hl
  refine lv_aload_n hx hb dX10_outer_0 rfl (lv_at hl 0 rfl) ?_
  refine lv_iload_n hx hb dX10_outer_1 rfl (lv_at hl 1 rfl) ?_
  have hPc := hP.sub (ws' := [(h0, .inr (10, [.ref (ca 0), .ref (ca 1), .int tp, .ref (ca 3), .ref (ca 4), .ref (ca 5), .ref (ca 6)])), (ca 0, .inl (cT, 4, .inr (.inr (.inr (.inr (fun _ => none))))))]) [0, 1] rfl
  have hKc := hK.sub (tys' := [(cT, .object RX9)]) [0] rfl
  have hFc := va_free0 hS hA
  refine va_callq (va_runV (As := [.int z1]) (rest := []) ⟨hx, hb, hml, hown, hts⟩ (c_tableAt l D _ h0 ca cT tp z1) (cwV 1 hts g_c_X10_outer_c_tableAt_74 rfl rfl rfl (by decide +kernel) ⟨(Nat.le_of_ble_eq_true rfl), (Nat.le_of_ble_eq_true rfl)⟩) (PcR_V (q0 := 0) hPc hKc rfl rfl) rfl rfl hl.1 rfl (lv_room (Nat.le_of_ble_eq_true rfl)) dX10_outer_2 ⟨(Nat.le_of_ble_eq_true rfl), (Nat.le_of_ble_eq_true rfl)⟩) hS (fun q _ h => hFc q h) hFc (fun r1 uu tt H locs htt hvm hw hB hz1 hk1 hS => ?_)
  have hP := va_keep hP hk1
  try dsimp only at hw
  clear hB hz1 hk1 hFc hPc hKc
  obtain rfl : r1 = none := hw
  refine W.eq (g2 := F0 m 5 ls [.null]) rfl ?_
  refine lv_astoreN (lv' := [(6, .null), (0, .ref h0), (1, .int z1), (2, .int z2), (3, .int z3), (4, .int z4), (5, .int z5)]) hx hb dX10_outer_5 hl (by decide) rfl (fun ls hl => ?_)
  refine lv_aloadN hx hb dX10_outer_7 (lv_at hl 0 rfl) ?_
  refine lv_ifnullN (tgt := 45) hx hb dX10_outer_9 (by decide) ?_
  refine lv_ldc2 (v := (-1000000000000000)) hx hb hown (hts (.constantLong RX10 91 (-1000000000000000)) (List.mem_of_getElem? (i := 5) rfl)) dX10_outer_45 ?_
  exact W.lret (v := (-1000000000000000)) hx hb hr (fun t ht hW => ⟨⟨(-1000000000000000), (), rfl, rfl, trivial⟩, hS.F ht⟩) hS.2.2 dX10_outer_48

def own_c_X10_best : List Cond := [.methodLink RX10 74 yX10_tableAt, .instanceMethod yX10_tableAt, .selects RX10 yX10_tableAt yX10_tableAt, .initialized RX10, .constantLong RX10 91 (-1000000000000000)]
def wp_c_X10_best : List Cond := .code yX10_best cX10_best 7 (some .long) :: (own_c_X10_best ++ (wp_c_tableAt ++ ([] : List Cond)))
set_option maxRecDepth 20000 in
theorem inown_c_X10_best : ∀ w ∈ own_c_X10_best, w ∈ lw_tbl := mem_places [610, 612, 2, 106, 691] (by decide +kernel)
set_option maxRecDepth 20000 in
theorem in_c_X10_best : ∀ w ∈ wp_c_X10_best, w ∈ lw_tbl := List.forall_mem_cons.mpr ⟨List.mem_of_getElem? (i := 816) (by decide +kernel), List.forall_mem_append.mpr ⟨inown_c_X10_best, List.forall_mem_append.mpr ⟨in_c_tableAt, fun _ h => absurd h List.not_mem_nil⟩⟩⟩
set_option maxRecDepth 20000 in
theorem good_c_X10_best : wp_c_X10_best.all goodWord = true := by decide +kernel
set_option maxRecDepth 20000 in
theorem g_c_X10_best_c_tableAt_74 : GoodIn wp_c_X10_best (wsV RX10 74 RX10 yX10_tableAt wp_c_tableAt) := goodIn_sub (List.forall_mem_append.mpr ⟨List.forall_mem_cons.mpr ⟨(List.mem_of_getElem? (i := 1) rfl), List.forall_mem_cons.mpr ⟨(List.mem_of_getElem? (i := 2) rfl), List.forall_mem_cons.mpr ⟨(List.mem_of_getElem? (i := 3) rfl), List.forall_mem_cons.mpr ⟨(List.mem_of_getElem? (i := 4) rfl), fun _ h => absurd h List.not_mem_nil⟩⟩⟩⟩, (fun _ h => (List.mem_cons_of_mem _ (List.mem_append_right _ (List.mem_append_left _ h))))⟩) (by decide +kernel)
set_option maxHeartbeats 4000000 in
set_option maxRecDepth 100000 in
theorem c_X10_best (l : Launch) (D : va_G) (sz : Nat) (h0 : Nat) (ca : Nat → Nat) (cT : ClassId) (tp : Int32) (z1 : Int32) (z2 : Int32) (y3 : Int64) (z4 : Int32)  : Met l yX10_best wp_c_X10_best ({ frames := 2, cells := 0, slots := 0, locals := 41 }) (PcR D [.ref h0, .int z1, .int z2, .long y3, .int z4] sz [(h0, .inr (10, [.ref (ca 0), .ref (ca 1), .int tp, .ref (ca 3), .ref (ca 4), .ref (ca 5), .ref (ca 6)])), (ca 0, .inl (cT, 4, .inr (.inr (.inr (.inr (fun _ => none))))))] [(cT, .object RX9)]) (va_Ql (fun (r : Int64) (_ : Unit) => r = (-1000000000000000)) (fun (_ : Unit) _ => True) (va_A [] sz)) 0 0 (va_A [] sz) := by
  refine Met.ofW (cc := cX10_best) (maxL := 7) (ret := (some .long)) (by decide) rfl ?_
  intro p e s m args below meth c s₁ B hml hv
  obtain ⟨rfl, hsz, hP, hK⟩ := hv
  have hx := B.exec
  have hb := B.bytes
  have hr := B.returns
  have hts := atoms_spec (ws := wp_c_X10_best) B.pre
  have hown : s.vm.findClass RX10 = some m.cls := findClass_of_methodNamed B.named
  have hlocks := B.notSynchronized
  subst hsz
  generalize hAe : va_A [] s.heap.size = A at ⊢
  have hA : ∀ q : Nat, s.heap.size ≤ q → A q := fun q h => by rw [← hAe]; exact Or.inr h
  have hS : va_S A s.heap s.heap [] := va_S.rf
  have hP : va_P D vwCl [(h0, .inr (10, [.ref (ca 0), .ref (ca 1), .int tp, .ref (ca 3), .ref (ca 4), .ref (ca 5), .ref (ca 6)])), (ca 0, .inl (cT, 4, .inr (.inr (.inr (.inr (fun _ => none))))))] s.heap := hP
  have hl := lv_entry ([.ref h0, .int z1, .int z2, .long y3, .int z4]) (n := 7) (Nat.le_of_ble_eq_true rfl)
  rw [lg_entry_eq]
  generalize (lg_sl ([.ref h0, .int z1, .int z2, .long y3, .int z4]) ++ List.replicate (7 - (lg_sl ([.ref h0, .int z1, .int z2, .long y3, .int z4])).length) Slot.unset).toArray = ls at hl ⊢
  have hl : lv_has ls 7 [(0, .ref h0), (1, .int z1), (2, .int z2), (3, .long y3), (5, .int z4)] := hl
  refine lv_aload_n hx hb dX10_best_0 rfl (lv_at hl 0 rfl) ?_
  refine lv_iload_n hx hb dX10_best_1 rfl (lv_at hl 1 rfl) ?_
  have hPc := hP.sub (ws' := [(h0, .inr (10, [.ref (ca 0), .ref (ca 1), .int tp, .ref (ca 3), .ref (ca 4), .ref (ca 5), .ref (ca 6)])), (ca 0, .inl (cT, 4, .inr (.inr (.inr (.inr (fun _ => none))))))]) [0, 1] rfl
  have hKc := hK.sub (tys' := [(cT, .object RX9)]) [0] rfl
  have hFc := va_free0 hS hA
  refine va_callq (va_runV (As := [.int z1]) (rest := []) ⟨hx, hb, hml, hown, hts⟩ (c_tableAt l D _ h0 ca cT tp z1) (cwV 1 hts g_c_X10_best_c_tableAt_74 rfl rfl rfl (by decide +kernel) ⟨(Nat.le_of_ble_eq_true rfl), (Nat.le_of_ble_eq_true rfl)⟩) (PcR_V (q0 := 0) hPc hKc rfl rfl) rfl rfl hl.1 rfl (lv_room (Nat.le_of_ble_eq_true rfl)) dX10_best_2 ⟨(Nat.le_of_ble_eq_true rfl), (Nat.le_of_ble_eq_true rfl)⟩) hS (fun q _ h => hFc q h) hFc (fun r1 uu tt H locs htt hvm hw hB hz1 hk1 hS => ?_)
  have hP := va_keep hP hk1
  try dsimp only at hw
  clear hB hz1 hk1 hFc hPc hKc
  obtain rfl : r1 = none := hw
  refine W.eq (g2 := F0 m 5 ls [.null]) rfl ?_
  refine lv_astoreN (lv' := [(6, .null), (0, .ref h0), (1, .int z1), (2, .int z2), (3, .long y3), (5, .int z4)]) hx hb dX10_best_5 hl (by decide) rfl (fun ls hl => ?_)
  refine lv_aloadN hx hb dX10_best_7 (lv_at hl 0 rfl) ?_
  refine lv_ifnullN (tgt := 35) hx hb dX10_best_9 (by decide) ?_
  refine lv_ldc2 (v := (-1000000000000000)) hx hb hown (hts (.constantLong RX10 91 (-1000000000000000)) (List.mem_of_getElem? (i := 5) rfl)) dX10_best_35 ?_
  exact W.lret (v := (-1000000000000000)) hx hb hr (fun t ht hW => ⟨⟨(-1000000000000000), (), rfl, rfl, trivial⟩, hS.F ht⟩) hS.2.2 dX10_best_38

def own_c_X10_inner : List Cond := [.methodLink RX10 74 yX10_tableAt, .instanceMethod yX10_tableAt, .selects RX10 yX10_tableAt yX10_tableAt, .initialized RX10]
def wp_c_X10_inner : List Cond := .code yX10_inner cX10_inner 6 (some .int) :: (own_c_X10_inner ++ (wp_c_tableAt ++ ([] : List Cond)))
set_option maxRecDepth 20000 in
theorem inown_c_X10_inner : ∀ w ∈ own_c_X10_inner, w ∈ lw_tbl := mem_places [610, 612, 2, 106] (by decide +kernel)
set_option maxRecDepth 20000 in
theorem in_c_X10_inner : ∀ w ∈ wp_c_X10_inner, w ∈ lw_tbl := List.forall_mem_cons.mpr ⟨List.mem_of_getElem? (i := 827) (by decide +kernel), List.forall_mem_append.mpr ⟨inown_c_X10_inner, List.forall_mem_append.mpr ⟨in_c_tableAt, fun _ h => absurd h List.not_mem_nil⟩⟩⟩
set_option maxRecDepth 20000 in
theorem good_c_X10_inner : wp_c_X10_inner.all goodWord = true := by decide +kernel
set_option maxRecDepth 20000 in
theorem g_c_X10_inner_c_tableAt_74 : GoodIn wp_c_X10_inner (wsV RX10 74 RX10 yX10_tableAt wp_c_tableAt) := goodIn_sub (List.forall_mem_append.mpr ⟨List.forall_mem_cons.mpr ⟨(List.mem_of_getElem? (i := 1) rfl), List.forall_mem_cons.mpr ⟨(List.mem_of_getElem? (i := 2) rfl), List.forall_mem_cons.mpr ⟨(List.mem_of_getElem? (i := 3) rfl), List.forall_mem_cons.mpr ⟨(List.mem_of_getElem? (i := 4) rfl), fun _ h => absurd h List.not_mem_nil⟩⟩⟩⟩, (fun _ h => (List.mem_cons_of_mem _ (List.mem_append_right _ (List.mem_append_left _ h))))⟩) (by decide +kernel)
set_option maxHeartbeats 4000000 in
set_option maxRecDepth 100000 in
theorem c_X10_inner (l : Launch) (D : va_G) (sz : Nat) (h0 : Nat) (ca : Nat → Nat) (cT : ClassId) (tp : Int32) (z1 : Int32) (z2 : Int32) (z3 : Int32) (z4 : Int32)  : Met l yX10_inner wp_c_X10_inner ({ frames := 2, cells := 0, slots := 0, locals := 41 }) (PcR D [.ref h0, .int z1, .int z2, .int z3, .int z4] sz [(h0, .inr (10, [.ref (ca 0), .ref (ca 1), .int tp, .ref (ca 3), .ref (ca 4), .ref (ca 5), .ref (ca 6)])), (ca 0, .inl (cT, 4, .inr (.inr (.inr (.inr (fun _ => none))))))] [(cT, .object RX9)]) (va_Qi (fun (r : Int32) (_ : Unit) => r = (-1)) (fun (_ : Unit) _ => True) (va_A [] sz)) 0 0 (va_A [] sz) := by
  refine Met.ofW (cc := cX10_inner) (maxL := 6) (ret := (some .int)) (by decide) rfl ?_
  intro p e s m args below meth c s₁ B hml hv
  obtain ⟨rfl, hsz, hP, hK⟩ := hv
  have hx := B.exec
  have hb := B.bytes
  have hr := B.returns
  have hts := atoms_spec (ws := wp_c_X10_inner) B.pre
  have hown : s.vm.findClass RX10 = some m.cls := findClass_of_methodNamed B.named
  have hlocks := B.notSynchronized
  subst hsz
  generalize hAe : va_A [] s.heap.size = A at ⊢
  have hA : ∀ q : Nat, s.heap.size ≤ q → A q := fun q h => by rw [← hAe]; exact Or.inr h
  have hS : va_S A s.heap s.heap [] := va_S.rf
  have hP : va_P D vwCl [(h0, .inr (10, [.ref (ca 0), .ref (ca 1), .int tp, .ref (ca 3), .ref (ca 4), .ref (ca 5), .ref (ca 6)])), (ca 0, .inl (cT, 4, .inr (.inr (.inr (.inr (fun _ => none))))))] s.heap := hP
  have hl := lv_entry ([.ref h0, .int z1, .int z2, .int z3, .int z4]) (n := 6) (Nat.le_of_ble_eq_true rfl)
  rw [lg_entry_eq]
  generalize (lg_sl ([.ref h0, .int z1, .int z2, .int z3, .int z4]) ++ List.replicate (6 - (lg_sl ([.ref h0, .int z1, .int z2, .int z3, .int z4])).length) Slot.unset).toArray = ls at hl ⊢
  have hl : lv_has ls 6 [(0, .ref h0), (1, .int z1), (2, .int z2), (3, .int z3), (4, .int z4)] := hl
  refine lv_aload_n hx hb dX10_inner_0 rfl (lv_at hl 0 rfl) ?_
  refine lv_iload_n hx hb dX10_inner_1 rfl (lv_at hl 1 rfl) ?_
  have hPc := hP.sub (ws' := [(h0, .inr (10, [.ref (ca 0), .ref (ca 1), .int tp, .ref (ca 3), .ref (ca 4), .ref (ca 5), .ref (ca 6)])), (ca 0, .inl (cT, 4, .inr (.inr (.inr (.inr (fun _ => none))))))]) [0, 1] rfl
  have hKc := hK.sub (tys' := [(cT, .object RX9)]) [0] rfl
  have hFc := va_free0 hS hA
  refine va_callq (va_runV (As := [.int z1]) (rest := []) ⟨hx, hb, hml, hown, hts⟩ (c_tableAt l D _ h0 ca cT tp z1) (cwV 1 hts g_c_X10_inner_c_tableAt_74 rfl rfl rfl (by decide +kernel) ⟨(Nat.le_of_ble_eq_true rfl), (Nat.le_of_ble_eq_true rfl)⟩) (PcR_V (q0 := 0) hPc hKc rfl rfl) rfl rfl hl.1 rfl (lv_room (Nat.le_of_ble_eq_true rfl)) dX10_inner_2 ⟨(Nat.le_of_ble_eq_true rfl), (Nat.le_of_ble_eq_true rfl)⟩) hS (fun q _ h => hFc q h) hFc (fun r1 uu tt H locs htt hvm hw hB hz1 hk1 hS => ?_)
  have hP := va_keep hP hk1
  try dsimp only at hw
  clear hB hz1 hk1 hFc hPc hKc
  obtain rfl : r1 = none := hw
  refine W.eq (g2 := F0 m 5 ls [.null]) rfl ?_
  refine lv_astoreN (lv' := [(5, .null), (0, .ref h0), (1, .int z1), (2, .int z2), (3, .int z3), (4, .int z4)]) hx hb dX10_inner_5 hl (by decide) rfl (fun ls hl => ?_)
  refine lv_aloadN hx hb dX10_inner_7 (lv_at hl 0 rfl) ?_
  refine lv_ifnullN (tgt := 33) hx hb dX10_inner_9 (by decide) ?_
  refine lv_iconst (v := (-1)) hx hb dX10_inner_33 (by decide) ?_
  exact W.iret (v := (-1)) hx hb hr (fun t ht hW => ⟨⟨(-1), (), rfl, rfl, trivial⟩, hS.F ht⟩) hS.2.2 dX10_inner_34

def own_c_X10_tries : List Cond := [.methodLink RX10 74 yX10_tableAt, .instanceMethod yX10_tableAt, .selects RX10 yX10_tableAt yX10_tableAt, .initialized RX10]
def wp_c_X10_tries : List Cond := .code yX10_tries cX10_tries 8 (some .int) :: (own_c_X10_tries ++ (wp_c_tableAt ++ ([] : List Cond)))
set_option maxRecDepth 20000 in
theorem inown_c_X10_tries : ∀ w ∈ own_c_X10_tries, w ∈ lw_tbl := mem_places [610, 612, 2, 106] (by decide +kernel)
set_option maxRecDepth 20000 in
theorem in_c_X10_tries : ∀ w ∈ wp_c_X10_tries, w ∈ lw_tbl := List.forall_mem_cons.mpr ⟨List.mem_of_getElem? (i := 843) (by decide +kernel), List.forall_mem_append.mpr ⟨inown_c_X10_tries, List.forall_mem_append.mpr ⟨in_c_tableAt, fun _ h => absurd h List.not_mem_nil⟩⟩⟩
set_option maxRecDepth 20000 in
theorem good_c_X10_tries : wp_c_X10_tries.all goodWord = true := by decide +kernel
set_option maxRecDepth 20000 in
theorem g_c_X10_tries_c_tableAt_74 : GoodIn wp_c_X10_tries (wsV RX10 74 RX10 yX10_tableAt wp_c_tableAt) := goodIn_sub (List.forall_mem_append.mpr ⟨List.forall_mem_cons.mpr ⟨(List.mem_of_getElem? (i := 1) rfl), List.forall_mem_cons.mpr ⟨(List.mem_of_getElem? (i := 2) rfl), List.forall_mem_cons.mpr ⟨(List.mem_of_getElem? (i := 3) rfl), List.forall_mem_cons.mpr ⟨(List.mem_of_getElem? (i := 4) rfl), fun _ h => absurd h List.not_mem_nil⟩⟩⟩⟩, (fun _ h => (List.mem_cons_of_mem _ (List.mem_append_right _ (List.mem_append_left _ h))))⟩) (by decide +kernel)
set_option maxHeartbeats 4000000 in
set_option maxRecDepth 100000 in
theorem c_X10_tries (l : Launch) (D : va_G) (sz : Nat) (h0 : Nat) (ca : Nat → Nat) (cT : ClassId) (tp : Int32) (z1 : Int32) (z2 : Int32) (z3 : Int32) (y4 : Int64) (z5 : Int32)  : Met l yX10_tries wp_c_X10_tries ({ frames := 2, cells := 0, slots := 0, locals := 41 }) (PcR D [.ref h0, .int z1, .int z2, .int z3, .long y4, .int z5] sz [(h0, .inr (10, [.ref (ca 0), .ref (ca 1), .int tp, .ref (ca 3), .ref (ca 4), .ref (ca 5), .ref (ca 6)])), (ca 0, .inl (cT, 4, .inr (.inr (.inr (.inr (fun _ => none))))))] [(cT, .object RX9)]) (va_Qi (fun (r : Int32) (_ : Unit) => r = (-2)) (fun (_ : Unit) _ => True) (va_A [] sz)) 0 0 (va_A [] sz) := by
  refine Met.ofW (cc := cX10_tries) (maxL := 8) (ret := (some .int)) (by decide) rfl ?_
  intro p e s m args below meth c s₁ B hml hv
  obtain ⟨rfl, hsz, hP, hK⟩ := hv
  have hx := B.exec
  have hb := B.bytes
  have hr := B.returns
  have hts := atoms_spec (ws := wp_c_X10_tries) B.pre
  have hown : s.vm.findClass RX10 = some m.cls := findClass_of_methodNamed B.named
  have hlocks := B.notSynchronized
  subst hsz
  generalize hAe : va_A [] s.heap.size = A at ⊢
  have hA : ∀ q : Nat, s.heap.size ≤ q → A q := fun q h => by rw [← hAe]; exact Or.inr h
  have hS : va_S A s.heap s.heap [] := va_S.rf
  have hP : va_P D vwCl [(h0, .inr (10, [.ref (ca 0), .ref (ca 1), .int tp, .ref (ca 3), .ref (ca 4), .ref (ca 5), .ref (ca 6)])), (ca 0, .inl (cT, 4, .inr (.inr (.inr (.inr (fun _ => none))))))] s.heap := hP
  have hl := lv_entry ([.ref h0, .int z1, .int z2, .int z3, .long y4, .int z5]) (n := 8) (Nat.le_of_ble_eq_true rfl)
  rw [lg_entry_eq]
  generalize (lg_sl ([.ref h0, .int z1, .int z2, .int z3, .long y4, .int z5]) ++ List.replicate (8 - (lg_sl ([.ref h0, .int z1, .int z2, .int z3, .long y4, .int z5])).length) Slot.unset).toArray = ls at hl ⊢
  have hl : lv_has ls 8 [(0, .ref h0), (1, .int z1), (2, .int z2), (3, .int z3), (4, .long y4), (6, .int z5)] := hl
  refine lv_aload_n hx hb dX10_tries_0 rfl (lv_at hl 0 rfl) ?_
  refine lv_iload_n hx hb dX10_tries_1 rfl (lv_at hl 1 rfl) ?_
  have hPc := hP.sub (ws' := [(h0, .inr (10, [.ref (ca 0), .ref (ca 1), .int tp, .ref (ca 3), .ref (ca 4), .ref (ca 5), .ref (ca 6)])), (ca 0, .inl (cT, 4, .inr (.inr (.inr (.inr (fun _ => none))))))]) [0, 1] rfl
  have hKc := hK.sub (tys' := [(cT, .object RX9)]) [0] rfl
  have hFc := va_free0 hS hA
  refine va_callq (va_runV (As := [.int z1]) (rest := []) ⟨hx, hb, hml, hown, hts⟩ (c_tableAt l D _ h0 ca cT tp z1) (cwV 1 hts g_c_X10_tries_c_tableAt_74 rfl rfl rfl (by decide +kernel) ⟨(Nat.le_of_ble_eq_true rfl), (Nat.le_of_ble_eq_true rfl)⟩) (PcR_V (q0 := 0) hPc hKc rfl rfl) rfl rfl hl.1 rfl (lv_room (Nat.le_of_ble_eq_true rfl)) dX10_tries_2 ⟨(Nat.le_of_ble_eq_true rfl), (Nat.le_of_ble_eq_true rfl)⟩) hS (fun q _ h => hFc q h) hFc (fun r1 uu tt H locs htt hvm hw hB hz1 hk1 hS => ?_)
  have hP := va_keep hP hk1
  try dsimp only at hw
  clear hB hz1 hk1 hFc hPc hKc
  obtain rfl : r1 = none := hw
  refine W.eq (g2 := F0 m 5 ls [.null]) rfl ?_
  refine lv_astoreN (lv' := [(7, .null), (0, .ref h0), (1, .int z1), (2, .int z2), (3, .int z3), (4, .long y4), (6, .int z5)]) hx hb dX10_tries_5 hl (by decide) rfl (fun ls hl => ?_)
  refine lv_aloadN hx hb dX10_tries_7 (lv_at hl 0 rfl) ?_
  refine lv_ifnullN (tgt := 47) hx hb dX10_tries_9 (by decide) ?_
  refine lv_bipush (v := (-2)) hx hb dX10_tries_47 (by decide) ?_
  exact W.iret (v := (-2)) hx hb hr (fun t ht hW => ⟨⟨(-2), (), rfl, rfl, trivial⟩, hS.F ht⟩) hS.2.2 dX10_tries_49

def own_c_X10_would : List Cond := [.methodLink RX10 74 yX10_tableAt, .instanceMethod yX10_tableAt, .selects RX10 yX10_tableAt yX10_tableAt, .initialized RX10]
def wp_c_X10_would : List Cond := .code yX10_would cX10_would 4 (some .int) :: (own_c_X10_would ++ (wp_c_tableAt ++ ([] : List Cond)))
set_option maxRecDepth 20000 in
theorem inown_c_X10_would : ∀ w ∈ own_c_X10_would, w ∈ lw_tbl := mem_places [610, 612, 2, 106] (by decide +kernel)
set_option maxRecDepth 20000 in
theorem in_c_X10_would : ∀ w ∈ wp_c_X10_would, w ∈ lw_tbl := List.forall_mem_cons.mpr ⟨List.mem_of_getElem? (i := 851) (by decide +kernel), List.forall_mem_append.mpr ⟨inown_c_X10_would, List.forall_mem_append.mpr ⟨in_c_tableAt, fun _ h => absurd h List.not_mem_nil⟩⟩⟩
set_option maxRecDepth 20000 in
theorem good_c_X10_would : wp_c_X10_would.all goodWord = true := by decide +kernel
set_option maxRecDepth 20000 in
theorem g_c_X10_would_c_tableAt_74 : GoodIn wp_c_X10_would (wsV RX10 74 RX10 yX10_tableAt wp_c_tableAt) := goodIn_sub (List.forall_mem_append.mpr ⟨List.forall_mem_cons.mpr ⟨(List.mem_of_getElem? (i := 1) rfl), List.forall_mem_cons.mpr ⟨(List.mem_of_getElem? (i := 2) rfl), List.forall_mem_cons.mpr ⟨(List.mem_of_getElem? (i := 3) rfl), List.forall_mem_cons.mpr ⟨(List.mem_of_getElem? (i := 4) rfl), fun _ h => absurd h List.not_mem_nil⟩⟩⟩⟩, (fun _ h => (List.mem_cons_of_mem _ (List.mem_append_right _ (List.mem_append_left _ h))))⟩) (by decide +kernel)
set_option maxHeartbeats 4000000 in
set_option maxRecDepth 100000 in
theorem c_X10_would (l : Launch) (D : va_G) (sz : Nat) (h0 : Nat) (ca : Nat → Nat) (cT : ClassId) (tp : Int32) (z1 : Int32) (z2 : Int32)  : Met l yX10_would wp_c_X10_would ({ frames := 2, cells := 0, slots := 0, locals := 41 }) (PcR D [.ref h0, .int z1, .int z2] sz [(h0, .inr (10, [.ref (ca 0), .ref (ca 1), .int tp, .ref (ca 3), .ref (ca 4), .ref (ca 5), .ref (ca 6)])), (ca 0, .inl (cT, 4, .inr (.inr (.inr (.inr (fun _ => none))))))] [(cT, .object RX9)]) (va_Qi (fun (r : Int32) (_ : Unit) => r = (-2)) (fun (_ : Unit) _ => True) (va_A [] sz)) 0 0 (va_A [] sz) := by
  refine Met.ofW (cc := cX10_would) (maxL := 4) (ret := (some .int)) (by decide) rfl ?_
  intro p e s m args below meth c s₁ B hml hv
  obtain ⟨rfl, hsz, hP, hK⟩ := hv
  have hx := B.exec
  have hb := B.bytes
  have hr := B.returns
  have hts := atoms_spec (ws := wp_c_X10_would) B.pre
  have hown : s.vm.findClass RX10 = some m.cls := findClass_of_methodNamed B.named
  have hlocks := B.notSynchronized
  subst hsz
  generalize hAe : va_A [] s.heap.size = A at ⊢
  have hA : ∀ q : Nat, s.heap.size ≤ q → A q := fun q h => by rw [← hAe]; exact Or.inr h
  have hS : va_S A s.heap s.heap [] := va_S.rf
  have hP : va_P D vwCl [(h0, .inr (10, [.ref (ca 0), .ref (ca 1), .int tp, .ref (ca 3), .ref (ca 4), .ref (ca 5), .ref (ca 6)])), (ca 0, .inl (cT, 4, .inr (.inr (.inr (.inr (fun _ => none))))))] s.heap := hP
  have hl := lv_entry ([.ref h0, .int z1, .int z2]) (n := 4) (Nat.le_of_ble_eq_true rfl)
  rw [lg_entry_eq]
  generalize (lg_sl ([.ref h0, .int z1, .int z2]) ++ List.replicate (4 - (lg_sl ([.ref h0, .int z1, .int z2])).length) Slot.unset).toArray = ls at hl ⊢
  have hl : lv_has ls 4 [(0, .ref h0), (1, .int z1), (2, .int z2)] := hl
  refine lv_aload_n hx hb dX10_would_0 rfl (lv_at hl 0 rfl) ?_
  refine lv_iload_n hx hb dX10_would_1 rfl (lv_at hl 1 rfl) ?_
  have hPc := hP.sub (ws' := [(h0, .inr (10, [.ref (ca 0), .ref (ca 1), .int tp, .ref (ca 3), .ref (ca 4), .ref (ca 5), .ref (ca 6)])), (ca 0, .inl (cT, 4, .inr (.inr (.inr (.inr (fun _ => none))))))]) [0, 1] rfl
  have hKc := hK.sub (tys' := [(cT, .object RX9)]) [0] rfl
  have hFc := va_free0 hS hA
  refine va_callq (va_runV (As := [.int z1]) (rest := []) ⟨hx, hb, hml, hown, hts⟩ (c_tableAt l D _ h0 ca cT tp z1) (cwV 1 hts g_c_X10_would_c_tableAt_74 rfl rfl rfl (by decide +kernel) ⟨(Nat.le_of_ble_eq_true rfl), (Nat.le_of_ble_eq_true rfl)⟩) (PcR_V (q0 := 0) hPc hKc rfl rfl) rfl rfl hl.1 rfl (lv_room (Nat.le_of_ble_eq_true rfl)) dX10_would_2 ⟨(Nat.le_of_ble_eq_true rfl), (Nat.le_of_ble_eq_true rfl)⟩) hS (fun q _ h => hFc q h) hFc (fun r1 uu tt H locs htt hvm hw hB hz1 hk1 hS => ?_)
  have hP := va_keep hP hk1
  try dsimp only at hw
  clear hB hz1 hk1 hFc hPc hKc
  obtain rfl : r1 = none := hw
  refine W.eq (g2 := F0 m 5 ls [.null]) rfl ?_
  refine lv_astore_nN (lv' := [(3, .null), (0, .ref h0), (1, .int z1), (2, .int z2)]) hx hb dX10_would_5 rfl hl (by decide) rfl (fun ls hl => ?_)
  refine lv_aload_nN hx hb dX10_would_6 rfl (lv_at hl 0 rfl) ?_
  refine lv_ifnullN (tgt := 17) hx hb dX10_would_7 (by decide) ?_
  refine lv_bipush (v := (-2)) hx hb dX10_would_17 (by decide) ?_
  exact W.iret (v := (-2)) hx hb hr (fun t ht hW => ⟨⟨(-2), (), rfl, rfl, trivial⟩, hS.F ht⟩) hS.2.2 dX10_would_19

def own_c_X10_frozen : List Cond := [.methodLink RX10 74 yX10_tableAt, .instanceMethod yX10_tableAt, .selects RX10 yX10_tableAt yX10_tableAt, .initialized RX10, .constantLong RX10 91 (-1000000000000000)]
def wp_c_X10_frozen : List Cond := .code yX10_frozen cX10_frozen 6 (some .long) :: (own_c_X10_frozen ++ (wp_c_tableAt ++ ([] : List Cond)))
set_option maxRecDepth 20000 in
theorem inown_c_X10_frozen : ∀ w ∈ own_c_X10_frozen, w ∈ lw_tbl := mem_places [610, 612, 2, 106, 691] (by decide +kernel)
set_option maxRecDepth 20000 in
theorem in_c_X10_frozen : ∀ w ∈ wp_c_X10_frozen, w ∈ lw_tbl := List.forall_mem_cons.mpr ⟨List.mem_of_getElem? (i := 856) (by decide +kernel), List.forall_mem_append.mpr ⟨inown_c_X10_frozen, List.forall_mem_append.mpr ⟨in_c_tableAt, fun _ h => absurd h List.not_mem_nil⟩⟩⟩
set_option maxRecDepth 20000 in
theorem good_c_X10_frozen : wp_c_X10_frozen.all goodWord = true := by decide +kernel
set_option maxRecDepth 20000 in
theorem g_c_X10_frozen_c_tableAt_74 : GoodIn wp_c_X10_frozen (wsV RX10 74 RX10 yX10_tableAt wp_c_tableAt) := goodIn_sub (List.forall_mem_append.mpr ⟨List.forall_mem_cons.mpr ⟨(List.mem_of_getElem? (i := 1) rfl), List.forall_mem_cons.mpr ⟨(List.mem_of_getElem? (i := 2) rfl), List.forall_mem_cons.mpr ⟨(List.mem_of_getElem? (i := 3) rfl), List.forall_mem_cons.mpr ⟨(List.mem_of_getElem? (i := 4) rfl), fun _ h => absurd h List.not_mem_nil⟩⟩⟩⟩, (fun _ h => (List.mem_cons_of_mem _ (List.mem_append_right _ (List.mem_append_left _ h))))⟩) (by decide +kernel)
set_option maxHeartbeats 4000000 in
set_option maxRecDepth 100000 in
theorem c_X10_frozen (l : Launch) (D : va_G) (sz : Nat) (h0 : Nat) (ca : Nat → Nat) (cT : ClassId) (tp : Int32) (z1 : Int32) (y2 : Int64) (z3 : Int32)  : Met l yX10_frozen wp_c_X10_frozen ({ frames := 2, cells := 0, slots := 0, locals := 41 }) (PcR D [.ref h0, .int z1, .long y2, .int z3] sz [(h0, .inr (10, [.ref (ca 0), .ref (ca 1), .int tp, .ref (ca 3), .ref (ca 4), .ref (ca 5), .ref (ca 6)])), (ca 0, .inl (cT, 4, .inr (.inr (.inr (.inr (fun _ => none))))))] [(cT, .object RX9)]) (va_Ql (fun (r : Int64) (_ : Unit) => r = (-1000000000000000)) (fun (_ : Unit) _ => True) (va_A [] sz)) 0 0 (va_A [] sz) := by
  refine Met.ofW (cc := cX10_frozen) (maxL := 6) (ret := (some .long)) (by decide) rfl ?_
  intro p e s m args below meth c s₁ B hml hv
  obtain ⟨rfl, hsz, hP, hK⟩ := hv
  have hx := B.exec
  have hb := B.bytes
  have hr := B.returns
  have hts := atoms_spec (ws := wp_c_X10_frozen) B.pre
  have hown : s.vm.findClass RX10 = some m.cls := findClass_of_methodNamed B.named
  have hlocks := B.notSynchronized
  subst hsz
  generalize hAe : va_A [] s.heap.size = A at ⊢
  have hA : ∀ q : Nat, s.heap.size ≤ q → A q := fun q h => by rw [← hAe]; exact Or.inr h
  have hS : va_S A s.heap s.heap [] := va_S.rf
  have hP : va_P D vwCl [(h0, .inr (10, [.ref (ca 0), .ref (ca 1), .int tp, .ref (ca 3), .ref (ca 4), .ref (ca 5), .ref (ca 6)])), (ca 0, .inl (cT, 4, .inr (.inr (.inr (.inr (fun _ => none))))))] s.heap := hP
  have hl := lv_entry ([.ref h0, .int z1, .long y2, .int z3]) (n := 6) (Nat.le_of_ble_eq_true rfl)
  rw [lg_entry_eq]
  generalize (lg_sl ([.ref h0, .int z1, .long y2, .int z3]) ++ List.replicate (6 - (lg_sl ([.ref h0, .int z1, .long y2, .int z3])).length) Slot.unset).toArray = ls at hl ⊢
  have hl : lv_has ls 6 [(0, .ref h0), (1, .int z1), (2, .long y2), (4, .int z3)] := hl
  refine lv_aload_n hx hb dX10_frozen_0 rfl (lv_at hl 0 rfl) ?_
  refine lv_iload_n hx hb dX10_frozen_1 rfl (lv_at hl 1 rfl) ?_
  have hPc := hP.sub (ws' := [(h0, .inr (10, [.ref (ca 0), .ref (ca 1), .int tp, .ref (ca 3), .ref (ca 4), .ref (ca 5), .ref (ca 6)])), (ca 0, .inl (cT, 4, .inr (.inr (.inr (.inr (fun _ => none))))))]) [0, 1] rfl
  have hKc := hK.sub (tys' := [(cT, .object RX9)]) [0] rfl
  have hFc := va_free0 hS hA
  refine va_callq (va_runV (As := [.int z1]) (rest := []) ⟨hx, hb, hml, hown, hts⟩ (c_tableAt l D _ h0 ca cT tp z1) (cwV 1 hts g_c_X10_frozen_c_tableAt_74 rfl rfl rfl (by decide +kernel) ⟨(Nat.le_of_ble_eq_true rfl), (Nat.le_of_ble_eq_true rfl)⟩) (PcR_V (q0 := 0) hPc hKc rfl rfl) rfl rfl hl.1 rfl (lv_room (Nat.le_of_ble_eq_true rfl)) dX10_frozen_2 ⟨(Nat.le_of_ble_eq_true rfl), (Nat.le_of_ble_eq_true rfl)⟩) hS (fun q _ h => hFc q h) hFc (fun r1 uu tt H locs htt hvm hw hB hz1 hk1 hS => ?_)
  have hP := va_keep hP hk1
  try dsimp only at hw
  clear hB hz1 hk1 hFc hPc hKc
  obtain rfl : r1 = none := hw
  refine W.eq (g2 := F0 m 5 ls [.null]) rfl ?_
  refine lv_astoreN (lv' := [(5, .null), (0, .ref h0), (1, .int z1), (2, .long y2), (4, .int z3)]) hx hb dX10_frozen_5 hl (by decide) rfl (fun ls hl => ?_)
  refine lv_aloadN hx hb dX10_frozen_7 (lv_at hl 0 rfl) ?_
  refine lv_ifnullN (tgt := 23) hx hb dX10_frozen_9 (by decide) ?_
  refine lv_ldc2 (v := (-1000000000000000)) hx hb hown (hts (.constantLong RX10 91 (-1000000000000000)) (List.mem_of_getElem? (i := 5) rfl)) dX10_frozen_23 ?_
  exact W.lret (v := (-1000000000000000)) hx hb hr (fun t ht hW => ⟨⟨(-1000000000000000), (), rfl, rfl, trivial⟩, hS.F ht⟩) hS.2.2 dX10_frozen_26

def own_c_X10_frozenAt : List Cond := [.methodLink RX10 74 yX10_tableAt, .instanceMethod yX10_tableAt, .selects RX10 yX10_tableAt yX10_tableAt, .initialized RX10]
def wp_c_X10_frozenAt : List Cond := .code yX10_frozenAt cX10_frozenAt 7 (some .int) :: (own_c_X10_frozenAt ++ (wp_c_tableAt ++ ([] : List Cond)))
set_option maxRecDepth 20000 in
theorem inown_c_X10_frozenAt : ∀ w ∈ own_c_X10_frozenAt, w ∈ lw_tbl := mem_places [610, 612, 2, 106] (by decide +kernel)
set_option maxRecDepth 20000 in
theorem in_c_X10_frozenAt : ∀ w ∈ wp_c_X10_frozenAt, w ∈ lw_tbl := List.forall_mem_cons.mpr ⟨List.mem_of_getElem? (i := 876) (by decide +kernel), List.forall_mem_append.mpr ⟨inown_c_X10_frozenAt, List.forall_mem_append.mpr ⟨in_c_tableAt, fun _ h => absurd h List.not_mem_nil⟩⟩⟩
set_option maxRecDepth 20000 in
theorem good_c_X10_frozenAt : wp_c_X10_frozenAt.all goodWord = true := by decide +kernel
set_option maxRecDepth 20000 in
theorem g_c_X10_frozenAt_c_tableAt_74 : GoodIn wp_c_X10_frozenAt (wsV RX10 74 RX10 yX10_tableAt wp_c_tableAt) := goodIn_sub (List.forall_mem_append.mpr ⟨List.forall_mem_cons.mpr ⟨(List.mem_of_getElem? (i := 1) rfl), List.forall_mem_cons.mpr ⟨(List.mem_of_getElem? (i := 2) rfl), List.forall_mem_cons.mpr ⟨(List.mem_of_getElem? (i := 3) rfl), List.forall_mem_cons.mpr ⟨(List.mem_of_getElem? (i := 4) rfl), fun _ h => absurd h List.not_mem_nil⟩⟩⟩⟩, (fun _ h => (List.mem_cons_of_mem _ (List.mem_append_right _ (List.mem_append_left _ h))))⟩) (by decide +kernel)
set_option maxHeartbeats 4000000 in
set_option maxRecDepth 100000 in
theorem c_X10_frozenAt (l : Launch) (D : va_G) (sz : Nat) (h0 : Nat) (ca : Nat → Nat) (cT : ClassId) (tp : Int32) (z1 : Int32) (y2 : Int64) (z3 : Int32)  : Met l yX10_frozenAt wp_c_X10_frozenAt ({ frames := 2, cells := 0, slots := 0, locals := 41 }) (PcR D [.ref h0, .int z1, .long y2, .int z3] sz [(h0, .inr (10, [.ref (ca 0), .ref (ca 1), .int tp, .ref (ca 3), .ref (ca 4), .ref (ca 5), .ref (ca 6)])), (ca 0, .inl (cT, 4, .inr (.inr (.inr (.inr (fun _ => none))))))] [(cT, .object RX9)]) (va_Qi (fun (r : Int32) (_ : Unit) => r = (-1)) (fun (_ : Unit) _ => True) (va_A [] sz)) 0 0 (va_A [] sz) := by
  refine Met.ofW (cc := cX10_frozenAt) (maxL := 7) (ret := (some .int)) (by decide) rfl ?_
  intro p e s m args below meth c s₁ B hml hv
  obtain ⟨rfl, hsz, hP, hK⟩ := hv
  have hx := B.exec
  have hb := B.bytes
  have hr := B.returns
  have hts := atoms_spec (ws := wp_c_X10_frozenAt) B.pre
  have hown : s.vm.findClass RX10 = some m.cls := findClass_of_methodNamed B.named
  have hlocks := B.notSynchronized
  subst hsz
  generalize hAe : va_A [] s.heap.size = A at ⊢
  have hA : ∀ q : Nat, s.heap.size ≤ q → A q := fun q h => by rw [← hAe]; exact Or.inr h
  have hS : va_S A s.heap s.heap [] := va_S.rf
  have hP : va_P D vwCl [(h0, .inr (10, [.ref (ca 0), .ref (ca 1), .int tp, .ref (ca 3), .ref (ca 4), .ref (ca 5), .ref (ca 6)])), (ca 0, .inl (cT, 4, .inr (.inr (.inr (.inr (fun _ => none))))))] s.heap := hP
  have hl := lv_entry ([.ref h0, .int z1, .long y2, .int z3]) (n := 7) (Nat.le_of_ble_eq_true rfl)
  rw [lg_entry_eq]
  generalize (lg_sl ([.ref h0, .int z1, .long y2, .int z3]) ++ List.replicate (7 - (lg_sl ([.ref h0, .int z1, .long y2, .int z3])).length) Slot.unset).toArray = ls at hl ⊢
  have hl : lv_has ls 7 [(0, .ref h0), (1, .int z1), (2, .long y2), (4, .int z3)] := hl
  refine lv_aload_n hx hb dX10_frozenAt_0 rfl (lv_at hl 0 rfl) ?_
  refine lv_iload_n hx hb dX10_frozenAt_1 rfl (lv_at hl 1 rfl) ?_
  have hPc := hP.sub (ws' := [(h0, .inr (10, [.ref (ca 0), .ref (ca 1), .int tp, .ref (ca 3), .ref (ca 4), .ref (ca 5), .ref (ca 6)])), (ca 0, .inl (cT, 4, .inr (.inr (.inr (.inr (fun _ => none))))))]) [0, 1] rfl
  have hKc := hK.sub (tys' := [(cT, .object RX9)]) [0] rfl
  have hFc := va_free0 hS hA
  refine va_callq (va_runV (As := [.int z1]) (rest := []) ⟨hx, hb, hml, hown, hts⟩ (c_tableAt l D _ h0 ca cT tp z1) (cwV 1 hts g_c_X10_frozenAt_c_tableAt_74 rfl rfl rfl (by decide +kernel) ⟨(Nat.le_of_ble_eq_true rfl), (Nat.le_of_ble_eq_true rfl)⟩) (PcR_V (q0 := 0) hPc hKc rfl rfl) rfl rfl hl.1 rfl (lv_room (Nat.le_of_ble_eq_true rfl)) dX10_frozenAt_2 ⟨(Nat.le_of_ble_eq_true rfl), (Nat.le_of_ble_eq_true rfl)⟩) hS (fun q _ h => hFc q h) hFc (fun r1 uu tt H locs htt hvm hw hB hz1 hk1 hS => ?_)
  have hP := va_keep hP hk1
  try dsimp only at hw
  clear hB hz1 hk1 hFc hPc hKc
  obtain rfl : r1 = none := hw
  refine W.eq (g2 := F0 m 5 ls [.null]) rfl ?_
  refine lv_astoreN (lv' := [(5, .null), (0, .ref h0), (1, .int z1), (2, .long y2), (4, .int z3)]) hx hb dX10_frozenAt_5 hl (by decide) rfl (fun ls hl => ?_)
  refine lv_aloadN hx hb dX10_frozenAt_7 (lv_at hl 0 rfl) ?_
  refine lv_ifnonnullN hx hb dX10_frozenAt_9 ?_
  refine lv_iconst (v := (-1)) hx hb dX10_frozenAt_12 (by decide) ?_
  exact W.iret (v := (-1)) hx hb hr (fun t ht hW => ⟨⟨(-1), (), rfl, rfl, trivial⟩, hS.F ht⟩) hS.2.2 dX10_frozenAt_13

def own_c_X10_shared : List Cond := [.methodLink RX10 74 yX10_tableAt, .instanceMethod yX10_tableAt, .selects RX10 yX10_tableAt yX10_tableAt, .initialized RX10]
def wp_c_X10_shared : List Cond := .code yX10_shared cX10_shared 7 (some .int) :: (own_c_X10_shared ++ (wp_c_tableAt ++ ([] : List Cond)))
set_option maxRecDepth 20000 in
theorem inown_c_X10_shared : ∀ w ∈ own_c_X10_shared, w ∈ lw_tbl := mem_places [610, 612, 2, 106] (by decide +kernel)
set_option maxRecDepth 20000 in
theorem in_c_X10_shared : ∀ w ∈ wp_c_X10_shared, w ∈ lw_tbl := List.forall_mem_cons.mpr ⟨List.mem_of_getElem? (i := 881) (by decide +kernel), List.forall_mem_append.mpr ⟨inown_c_X10_shared, List.forall_mem_append.mpr ⟨in_c_tableAt, fun _ h => absurd h List.not_mem_nil⟩⟩⟩
set_option maxRecDepth 20000 in
theorem good_c_X10_shared : wp_c_X10_shared.all goodWord = true := by decide +kernel
set_option maxRecDepth 20000 in
theorem g_c_X10_shared_c_tableAt_74 : GoodIn wp_c_X10_shared (wsV RX10 74 RX10 yX10_tableAt wp_c_tableAt) := goodIn_sub (List.forall_mem_append.mpr ⟨List.forall_mem_cons.mpr ⟨(List.mem_of_getElem? (i := 1) rfl), List.forall_mem_cons.mpr ⟨(List.mem_of_getElem? (i := 2) rfl), List.forall_mem_cons.mpr ⟨(List.mem_of_getElem? (i := 3) rfl), List.forall_mem_cons.mpr ⟨(List.mem_of_getElem? (i := 4) rfl), fun _ h => absurd h List.not_mem_nil⟩⟩⟩⟩, (fun _ h => (List.mem_cons_of_mem _ (List.mem_append_right _ (List.mem_append_left _ h))))⟩) (by decide +kernel)
set_option maxHeartbeats 4000000 in
set_option maxRecDepth 100000 in
theorem c_X10_shared (l : Launch) (D : va_G) (sz : Nat) (h0 : Nat) (ca : Nat → Nat) (cT : ClassId) (tp : Int32) (z1 : Int32) (z2 : Int32) (z3 : Int32)  : Met l yX10_shared wp_c_X10_shared ({ frames := 2, cells := 0, slots := 0, locals := 41 }) (PcR D [.ref h0, .int z1, .int z2, .int z3] sz [(h0, .inr (10, [.ref (ca 0), .ref (ca 1), .int tp, .ref (ca 3), .ref (ca 4), .ref (ca 5), .ref (ca 6)])), (ca 0, .inl (cT, 4, .inr (.inr (.inr (.inr (fun _ => none))))))] [(cT, .object RX9)]) (va_Qi (fun (r : Int32) (_ : Unit) => r = (-1)) (fun (_ : Unit) _ => True) (va_A [] sz)) 0 0 (va_A [] sz) := by
  refine Met.ofW (cc := cX10_shared) (maxL := 7) (ret := (some .int)) (by decide) rfl ?_
  intro p e s m args below meth c s₁ B hml hv
  obtain ⟨rfl, hsz, hP, hK⟩ := hv
  have hx := B.exec
  have hb := B.bytes
  have hr := B.returns
  have hts := atoms_spec (ws := wp_c_X10_shared) B.pre
  have hown : s.vm.findClass RX10 = some m.cls := findClass_of_methodNamed B.named
  have hlocks := B.notSynchronized
  subst hsz
  generalize hAe : va_A [] s.heap.size = A at ⊢
  have hA : ∀ q : Nat, s.heap.size ≤ q → A q := fun q h => by rw [← hAe]; exact Or.inr h
  have hS : va_S A s.heap s.heap [] := va_S.rf
  have hP : va_P D vwCl [(h0, .inr (10, [.ref (ca 0), .ref (ca 1), .int tp, .ref (ca 3), .ref (ca 4), .ref (ca 5), .ref (ca 6)])), (ca 0, .inl (cT, 4, .inr (.inr (.inr (.inr (fun _ => none))))))] s.heap := hP
  have hl := lv_entry ([.ref h0, .int z1, .int z2, .int z3]) (n := 7) (Nat.le_of_ble_eq_true rfl)
  rw [lg_entry_eq]
  generalize (lg_sl ([.ref h0, .int z1, .int z2, .int z3]) ++ List.replicate (7 - (lg_sl ([.ref h0, .int z1, .int z2, .int z3])).length) Slot.unset).toArray = ls at hl ⊢
  have hl : lv_has ls 7 [(0, .ref h0), (1, .int z1), (2, .int z2), (3, .int z3)] := hl
  refine lv_aload_n hx hb dX10_shared_0 rfl (lv_at hl 0 rfl) ?_
  refine lv_iload_n hx hb dX10_shared_1 rfl (lv_at hl 1 rfl) ?_
  have hPc := hP.sub (ws' := [(h0, .inr (10, [.ref (ca 0), .ref (ca 1), .int tp, .ref (ca 3), .ref (ca 4), .ref (ca 5), .ref (ca 6)])), (ca 0, .inl (cT, 4, .inr (.inr (.inr (.inr (fun _ => none))))))]) [0, 1] rfl
  have hKc := hK.sub (tys' := [(cT, .object RX9)]) [0] rfl
  have hFc := va_free0 hS hA
  refine va_callq (va_runV (As := [.int z1]) (rest := []) ⟨hx, hb, hml, hown, hts⟩ (c_tableAt l D _ h0 ca cT tp z1) (cwV 1 hts g_c_X10_shared_c_tableAt_74 rfl rfl rfl (by decide +kernel) ⟨(Nat.le_of_ble_eq_true rfl), (Nat.le_of_ble_eq_true rfl)⟩) (PcR_V (q0 := 0) hPc hKc rfl rfl) rfl rfl hl.1 rfl (lv_room (Nat.le_of_ble_eq_true rfl)) dX10_shared_2 ⟨(Nat.le_of_ble_eq_true rfl), (Nat.le_of_ble_eq_true rfl)⟩) hS (fun q _ h => hFc q h) hFc (fun r1 uu tt H locs htt hvm hw hB hz1 hk1 hS => ?_)
  have hP := va_keep hP hk1
  try dsimp only at hw
  clear hB hz1 hk1 hFc hPc hKc
  obtain rfl : r1 = none := hw
  refine W.eq (g2 := F0 m 5 ls [.null]) rfl ?_
  refine lv_astoreN (lv' := [(4, .null), (0, .ref h0), (1, .int z1), (2, .int z2), (3, .int z3)]) hx hb dX10_shared_5 hl (by decide) rfl (fun ls hl => ?_)
  refine lv_aload_n hx hb dX10_shared_7 rfl (lv_at hl 1 rfl) ?_
  refine lv_iload_n hx hb dX10_shared_8 rfl (lv_at hl 3 rfl) ?_
  have hPc := hP.sub (ws' := [(h0, .inr (10, [.ref (ca 0), .ref (ca 1), .int tp, .ref (ca 3), .ref (ca 4), .ref (ca 5), .ref (ca 6)])), (ca 0, .inl (cT, 4, .inr (.inr (.inr (.inr (fun _ => none))))))]) [0, 1] rfl
  have hKc := hK.sub (tys' := [(cT, .object RX9)]) [0] rfl
  have hFc := va_free0 hS hA
  refine va_callq (va_runV (As := [.int z2]) (rest := []) ⟨hx, hb, hml, hown, hts⟩ (c_tableAt l D _ h0 ca cT tp z2) (cwV 1 hts g_c_X10_shared_c_tableAt_74 rfl rfl rfl (by decide +kernel) ⟨(Nat.le_of_ble_eq_true rfl), (Nat.le_of_ble_eq_true rfl)⟩) (PcR_V (q0 := 0) hPc hKc rfl rfl) rfl rfl hl.1 rfl (lv_room (Nat.le_of_ble_eq_true rfl)) dX10_shared_9 ⟨(Nat.le_of_ble_eq_true rfl), (Nat.le_of_ble_eq_true rfl)⟩) hS (fun q _ h => hFc q h) hFc (fun r2 uu tt H locs htt hvm hw hB hz1 hk1 hS => ?_)
  have hP := va_keep hP hk1
  try dsimp only at hw
  clear hB hz1 hk1 hFc hPc hKc
  obtain rfl : r2 = none := hw
  refine W.eq (g2 := F0 m 12 ls [.null]) rfl ?_
  refine lv_astoreN (lv' := [(5, .null), (4, .null), (0, .ref h0), (1, .int z1), (2, .int z2), (3, .int z3)]) hx hb dX10_shared_12 hl (by decide) rfl (fun ls hl => ?_)
  refine lv_aloadN hx hb dX10_shared_14 (lv_at hl 1 rfl) ?_
  refine lv_ifnullN (tgt := 24) hx hb dX10_shared_16 (by decide) ?_
  refine lv_iconst (v := (-1)) hx hb dX10_shared_24 (by decide) ?_
  exact W.iret (v := (-1)) hx hb hr (fun t ht hW => ⟨⟨(-1), (), rfl, rfl, trivial⟩, hS.F ht⟩) hS.2.2 dX10_shared_25

def own_c_X10_join : List Cond := [.methodLink RX10 74 yX10_tableAt, .instanceMethod yX10_tableAt, .selects RX10 yX10_tableAt yX10_tableAt, .initialized RX10]
def wp_c_X10_join : List Cond := .code yX10_join cX10_join 8 (some .int) :: (own_c_X10_join ++ (wp_c_tableAt ++ ([] : List Cond)))
set_option maxRecDepth 20000 in
theorem inown_c_X10_join : ∀ w ∈ own_c_X10_join, w ∈ lw_tbl := mem_places [610, 612, 2, 106] (by decide +kernel)
set_option maxRecDepth 20000 in
theorem in_c_X10_join : ∀ w ∈ wp_c_X10_join, w ∈ lw_tbl := List.forall_mem_cons.mpr ⟨List.mem_of_getElem? (i := 890) (by decide +kernel), List.forall_mem_append.mpr ⟨inown_c_X10_join, List.forall_mem_append.mpr ⟨in_c_tableAt, fun _ h => absurd h List.not_mem_nil⟩⟩⟩
set_option maxRecDepth 20000 in
theorem good_c_X10_join : wp_c_X10_join.all goodWord = true := by decide +kernel
set_option maxRecDepth 20000 in
theorem g_c_X10_join_c_tableAt_74 : GoodIn wp_c_X10_join (wsV RX10 74 RX10 yX10_tableAt wp_c_tableAt) := goodIn_sub (List.forall_mem_append.mpr ⟨List.forall_mem_cons.mpr ⟨(List.mem_of_getElem? (i := 1) rfl), List.forall_mem_cons.mpr ⟨(List.mem_of_getElem? (i := 2) rfl), List.forall_mem_cons.mpr ⟨(List.mem_of_getElem? (i := 3) rfl), List.forall_mem_cons.mpr ⟨(List.mem_of_getElem? (i := 4) rfl), fun _ h => absurd h List.not_mem_nil⟩⟩⟩⟩, (fun _ h => (List.mem_cons_of_mem _ (List.mem_append_right _ (List.mem_append_left _ h))))⟩) (by decide +kernel)
set_option maxHeartbeats 4000000 in
set_option maxRecDepth 100000 in
theorem c_X10_join (l : Launch) (D : va_G) (sz : Nat) (h0 : Nat) (ca : Nat → Nat) (cT : ClassId) (tp : Int32) (z1 : Int32) (z2 : Int32)  : Met l yX10_join wp_c_X10_join ({ frames := 2, cells := 0, slots := 0, locals := 41 }) (PcR D [.ref h0, .int z1, .int z2] sz [(h0, .inr (10, [.ref (ca 0), .ref (ca 1), .int tp, .ref (ca 3), .ref (ca 4), .ref (ca 5), .ref (ca 6)])), (ca 0, .inl (cT, 4, .inr (.inr (.inr (.inr (fun _ => none))))))] [(cT, .object RX9)]) (va_Qi (fun (r : Int32) (_ : Unit) => r = (-2)) (fun (_ : Unit) _ => True) (va_A [] sz)) 0 0 (va_A [] sz) := by
  refine Met.ofW (cc := cX10_join) (maxL := 8) (ret := (some .int)) (by decide) rfl ?_
  intro p e s m args below meth c s₁ B hml hv
  obtain ⟨rfl, hsz, hP, hK⟩ := hv
  have hx := B.exec
  have hb := B.bytes
  have hr := B.returns
  have hts := atoms_spec (ws := wp_c_X10_join) B.pre
  have hown : s.vm.findClass RX10 = some m.cls := findClass_of_methodNamed B.named
  have hlocks := B.notSynchronized
  subst hsz
  generalize hAe : va_A [] s.heap.size = A at ⊢
  have hA : ∀ q : Nat, s.heap.size ≤ q → A q := fun q h => by rw [← hAe]; exact Or.inr h
  have hS : va_S A s.heap s.heap [] := va_S.rf
  have hP : va_P D vwCl [(h0, .inr (10, [.ref (ca 0), .ref (ca 1), .int tp, .ref (ca 3), .ref (ca 4), .ref (ca 5), .ref (ca 6)])), (ca 0, .inl (cT, 4, .inr (.inr (.inr (.inr (fun _ => none))))))] s.heap := hP
  have hl := lv_entry ([.ref h0, .int z1, .int z2]) (n := 8) (Nat.le_of_ble_eq_true rfl)
  rw [lg_entry_eq]
  generalize (lg_sl ([.ref h0, .int z1, .int z2]) ++ List.replicate (8 - (lg_sl ([.ref h0, .int z1, .int z2])).length) Slot.unset).toArray = ls at hl ⊢
  have hl : lv_has ls 8 [(0, .ref h0), (1, .int z1), (2, .int z2)] := hl
  refine lv_aload_n hx hb dX10_join_0 rfl (lv_at hl 0 rfl) ?_
  refine lv_iload_n hx hb dX10_join_1 rfl (lv_at hl 1 rfl) ?_
  have hPc := hP.sub (ws' := [(h0, .inr (10, [.ref (ca 0), .ref (ca 1), .int tp, .ref (ca 3), .ref (ca 4), .ref (ca 5), .ref (ca 6)])), (ca 0, .inl (cT, 4, .inr (.inr (.inr (.inr (fun _ => none))))))]) [0, 1] rfl
  have hKc := hK.sub (tys' := [(cT, .object RX9)]) [0] rfl
  have hFc := va_free0 hS hA
  refine va_callq (va_runV (As := [.int z1]) (rest := []) ⟨hx, hb, hml, hown, hts⟩ (c_tableAt l D _ h0 ca cT tp z1) (cwV 1 hts g_c_X10_join_c_tableAt_74 rfl rfl rfl (by decide +kernel) ⟨(Nat.le_of_ble_eq_true rfl), (Nat.le_of_ble_eq_true rfl)⟩) (PcR_V (q0 := 0) hPc hKc rfl rfl) rfl rfl hl.1 rfl (lv_room (Nat.le_of_ble_eq_true rfl)) dX10_join_2 ⟨(Nat.le_of_ble_eq_true rfl), (Nat.le_of_ble_eq_true rfl)⟩) hS (fun q _ h => hFc q h) hFc (fun r1 uu tt H locs htt hvm hw hB hz1 hk1 hS => ?_)
  have hP := va_keep hP hk1
  try dsimp only at hw
  clear hB hz1 hk1 hFc hPc hKc
  obtain rfl : r1 = none := hw
  refine W.eq (g2 := F0 m 5 ls [.null]) rfl ?_
  refine lv_astore_nN (lv' := [(3, .null), (0, .ref h0), (1, .int z1), (2, .int z2)]) hx hb dX10_join_5 rfl hl (by decide) rfl (fun ls hl => ?_)
  refine lv_aload_n hx hb dX10_join_6 rfl (lv_at hl 1 rfl) ?_
  refine lv_iload_n hx hb dX10_join_7 rfl (lv_at hl 3 rfl) ?_
  have hPc := hP.sub (ws' := [(h0, .inr (10, [.ref (ca 0), .ref (ca 1), .int tp, .ref (ca 3), .ref (ca 4), .ref (ca 5), .ref (ca 6)])), (ca 0, .inl (cT, 4, .inr (.inr (.inr (.inr (fun _ => none))))))]) [0, 1] rfl
  have hKc := hK.sub (tys' := [(cT, .object RX9)]) [0] rfl
  have hFc := va_free0 hS hA
  refine va_callq (va_runV (As := [.int z2]) (rest := []) ⟨hx, hb, hml, hown, hts⟩ (c_tableAt l D _ h0 ca cT tp z2) (cwV 1 hts g_c_X10_join_c_tableAt_74 rfl rfl rfl (by decide +kernel) ⟨(Nat.le_of_ble_eq_true rfl), (Nat.le_of_ble_eq_true rfl)⟩) (PcR_V (q0 := 0) hPc hKc rfl rfl) rfl rfl hl.1 rfl (lv_room (Nat.le_of_ble_eq_true rfl)) dX10_join_8 ⟨(Nat.le_of_ble_eq_true rfl), (Nat.le_of_ble_eq_true rfl)⟩) hS (fun q _ h => hFc q h) hFc (fun r2 uu tt H locs htt hvm hw hB hz1 hk1 hS => ?_)
  have hP := va_keep hP hk1
  try dsimp only at hw
  clear hB hz1 hk1 hFc hPc hKc
  obtain rfl : r2 = none := hw
  refine W.eq (g2 := F0 m 11 ls [.null]) rfl ?_
  refine lv_astoreN (lv' := [(4, .null), (3, .null), (0, .ref h0), (1, .int z1), (2, .int z2)]) hx hb dX10_join_11 hl (by decide) rfl (fun ls hl => ?_)
  refine lv_aload_nN hx hb dX10_join_13 rfl (lv_at hl 1 rfl) ?_
  refine lv_ifnullN (tgt := 27) hx hb dX10_join_14 (by decide) ?_
  refine lv_bipush (v := (-2)) hx hb dX10_join_27 (by decide) ?_
  exact W.iret (v := (-2)) hx hb hr (fun t ht hW => ⟨⟨(-2), (), rfl, rfl, trivial⟩, hS.F ht⟩) hS.2.2 dX10_join_29

def own_c_X10_cut : List Cond := [.methodLink RX10 74 yX10_tableAt, .instanceMethod yX10_tableAt, .selects RX10 yX10_tableAt yX10_tableAt, .initialized RX10]
def wp_c_X10_cut : List Cond := .code yX10_cut cX10_cut 10 (some .int) :: (own_c_X10_cut ++ (wp_c_tableAt ++ ([] : List Cond)))
set_option maxRecDepth 20000 in
theorem inown_c_X10_cut : ∀ w ∈ own_c_X10_cut, w ∈ lw_tbl := mem_places [610, 612, 2, 106] (by decide +kernel)
set_option maxRecDepth 20000 in
theorem in_c_X10_cut : ∀ w ∈ wp_c_X10_cut, w ∈ lw_tbl := List.forall_mem_cons.mpr ⟨List.mem_of_getElem? (i := 894) (by decide +kernel), List.forall_mem_append.mpr ⟨inown_c_X10_cut, List.forall_mem_append.mpr ⟨in_c_tableAt, fun _ h => absurd h List.not_mem_nil⟩⟩⟩
set_option maxRecDepth 20000 in
theorem good_c_X10_cut : wp_c_X10_cut.all goodWord = true := by decide +kernel
set_option maxRecDepth 20000 in
theorem g_c_X10_cut_c_tableAt_74 : GoodIn wp_c_X10_cut (wsV RX10 74 RX10 yX10_tableAt wp_c_tableAt) := goodIn_sub (List.forall_mem_append.mpr ⟨List.forall_mem_cons.mpr ⟨(List.mem_of_getElem? (i := 1) rfl), List.forall_mem_cons.mpr ⟨(List.mem_of_getElem? (i := 2) rfl), List.forall_mem_cons.mpr ⟨(List.mem_of_getElem? (i := 3) rfl), List.forall_mem_cons.mpr ⟨(List.mem_of_getElem? (i := 4) rfl), fun _ h => absurd h List.not_mem_nil⟩⟩⟩⟩, (fun _ h => (List.mem_cons_of_mem _ (List.mem_append_right _ (List.mem_append_left _ h))))⟩) (by decide +kernel)
set_option maxHeartbeats 4000000 in
set_option maxRecDepth 100000 in
theorem c_X10_cut (l : Launch) (D : va_G) (sz : Nat) (h0 : Nat) (ca : Nat → Nat) (cT : ClassId) (tp : Int32) (z1 : Int32) (z2 : Int32) (z3 : Int32)  : Met l yX10_cut wp_c_X10_cut ({ frames := 2, cells := 0, slots := 0, locals := 41 }) (PcR D [.ref h0, .int z1, .int z2, .int z3] sz [(h0, .inr (10, [.ref (ca 0), .ref (ca 1), .int tp, .ref (ca 3), .ref (ca 4), .ref (ca 5), .ref (ca 6)])), (ca 0, .inl (cT, 4, .inr (.inr (.inr (.inr (fun _ => none))))))] [(cT, .object RX9)]) (va_Qi (fun (r : Int32) (_ : Unit) => r = (-2)) (fun (_ : Unit) _ => True) (va_A [] sz)) 0 0 (va_A [] sz) := by
  refine Met.ofW (cc := cX10_cut) (maxL := 10) (ret := (some .int)) (by decide) rfl ?_
  intro p e s m args below meth c s₁ B hml hv
  obtain ⟨rfl, hsz, hP, hK⟩ := hv
  have hx := B.exec
  have hb := B.bytes
  have hr := B.returns
  have hts := atoms_spec (ws := wp_c_X10_cut) B.pre
  have hown : s.vm.findClass RX10 = some m.cls := findClass_of_methodNamed B.named
  have hlocks := B.notSynchronized
  subst hsz
  generalize hAe : va_A [] s.heap.size = A at ⊢
  have hA : ∀ q : Nat, s.heap.size ≤ q → A q := fun q h => by rw [← hAe]; exact Or.inr h
  have hS : va_S A s.heap s.heap [] := va_S.rf
  have hP : va_P D vwCl [(h0, .inr (10, [.ref (ca 0), .ref (ca 1), .int tp, .ref (ca 3), .ref (ca 4), .ref (ca 5), .ref (ca 6)])), (ca 0, .inl (cT, 4, .inr (.inr (.inr (.inr (fun _ => none))))))] s.heap := hP
  have hl := lv_entry ([.ref h0, .int z1, .int z2, .int z3]) (n := 10) (Nat.le_of_ble_eq_true rfl)
  rw [lg_entry_eq]
  generalize (lg_sl ([.ref h0, .int z1, .int z2, .int z3]) ++ List.replicate (10 - (lg_sl ([.ref h0, .int z1, .int z2, .int z3])).length) Slot.unset).toArray = ls at hl ⊢
  have hl : lv_has ls 10 [(0, .ref h0), (1, .int z1), (2, .int z2), (3, .int z3)] := hl
  refine lv_aload_n hx hb dX10_cut_0 rfl (lv_at hl 0 rfl) ?_
  refine lv_iload_n hx hb dX10_cut_1 rfl (lv_at hl 1 rfl) ?_
  have hPc := hP.sub (ws' := [(h0, .inr (10, [.ref (ca 0), .ref (ca 1), .int tp, .ref (ca 3), .ref (ca 4), .ref (ca 5), .ref (ca 6)])), (ca 0, .inl (cT, 4, .inr (.inr (.inr (.inr (fun _ => none))))))]) [0, 1] rfl
  have hKc := hK.sub (tys' := [(cT, .object RX9)]) [0] rfl
  have hFc := va_free0 hS hA
  refine va_callq (va_runV (As := [.int z1]) (rest := []) ⟨hx, hb, hml, hown, hts⟩ (c_tableAt l D _ h0 ca cT tp z1) (cwV 1 hts g_c_X10_cut_c_tableAt_74 rfl rfl rfl (by decide +kernel) ⟨(Nat.le_of_ble_eq_true rfl), (Nat.le_of_ble_eq_true rfl)⟩) (PcR_V (q0 := 0) hPc hKc rfl rfl) rfl rfl hl.1 rfl (lv_room (Nat.le_of_ble_eq_true rfl)) dX10_cut_2 ⟨(Nat.le_of_ble_eq_true rfl), (Nat.le_of_ble_eq_true rfl)⟩) hS (fun q _ h => hFc q h) hFc (fun r1 uu tt H locs htt hvm hw hB hz1 hk1 hS => ?_)
  have hP := va_keep hP hk1
  try dsimp only at hw
  clear hB hz1 hk1 hFc hPc hKc
  obtain rfl : r1 = none := hw
  refine W.eq (g2 := F0 m 5 ls [.null]) rfl ?_
  refine lv_astoreN (lv' := [(4, .null), (0, .ref h0), (1, .int z1), (2, .int z2), (3, .int z3)]) hx hb dX10_cut_5 hl (by decide) rfl (fun ls hl => ?_)
  refine lv_aload_n hx hb dX10_cut_7 rfl (lv_at hl 1 rfl) ?_
  refine lv_iload_n hx hb dX10_cut_8 rfl (lv_at hl 3 rfl) ?_
  have hPc := hP.sub (ws' := [(h0, .inr (10, [.ref (ca 0), .ref (ca 1), .int tp, .ref (ca 3), .ref (ca 4), .ref (ca 5), .ref (ca 6)])), (ca 0, .inl (cT, 4, .inr (.inr (.inr (.inr (fun _ => none))))))]) [0, 1] rfl
  have hKc := hK.sub (tys' := [(cT, .object RX9)]) [0] rfl
  have hFc := va_free0 hS hA
  refine va_callq (va_runV (As := [.int z2]) (rest := []) ⟨hx, hb, hml, hown, hts⟩ (c_tableAt l D _ h0 ca cT tp z2) (cwV 1 hts g_c_X10_cut_c_tableAt_74 rfl rfl rfl (by decide +kernel) ⟨(Nat.le_of_ble_eq_true rfl), (Nat.le_of_ble_eq_true rfl)⟩) (PcR_V (q0 := 0) hPc hKc rfl rfl) rfl rfl hl.1 rfl (lv_room (Nat.le_of_ble_eq_true rfl)) dX10_cut_9 ⟨(Nat.le_of_ble_eq_true rfl), (Nat.le_of_ble_eq_true rfl)⟩) hS (fun q _ h => hFc q h) hFc (fun r2 uu tt H locs htt hvm hw hB hz1 hk1 hS => ?_)
  have hP := va_keep hP hk1
  try dsimp only at hw
  clear hB hz1 hk1 hFc hPc hKc
  obtain rfl : r2 = none := hw
  refine W.eq (g2 := F0 m 12 ls [.null]) rfl ?_
  refine lv_astoreN (lv' := [(5, .null), (4, .null), (0, .ref h0), (1, .int z1), (2, .int z2), (3, .int z3)]) hx hb dX10_cut_12 hl (by decide) rfl (fun ls hl => ?_)
  refine lv_aloadN hx hb dX10_cut_14 (lv_at hl 1 rfl) ?_
  refine lv_ifnullN (tgt := 29) hx hb dX10_cut_16 (by decide) ?_
  refine lv_bipush (v := (-2)) hx hb dX10_cut_29 (by decide) ?_
  exact W.iret (v := (-2)) hx hb hr (fun t ht hW => ⟨⟨(-2), (), rfl, rfl, trivial⟩, hS.F ht⟩) hS.2.2 dX10_cut_31

def own_c_X10_values : List Cond := [.methodLink RX10 74 yX10_tableAt, .instanceMethod yX10_tableAt, .selects RX10 yX10_tableAt yX10_tableAt, .initialized RX10, .constantLong RX10 91 (-1000000000000000)]
def wp_c_X10_values : List Cond := .code yX10_values cX10_values 5 (some .long) :: (own_c_X10_values ++ (wp_c_tableAt ++ ([] : List Cond)))
set_option maxRecDepth 20000 in
theorem inown_c_X10_values : ∀ w ∈ own_c_X10_values, w ∈ lw_tbl := mem_places [610, 612, 2, 106, 691] (by decide +kernel)
set_option maxRecDepth 20000 in
theorem in_c_X10_values : ∀ w ∈ wp_c_X10_values, w ∈ lw_tbl := List.forall_mem_cons.mpr ⟨List.mem_of_getElem? (i := 898) (by decide +kernel), List.forall_mem_append.mpr ⟨inown_c_X10_values, List.forall_mem_append.mpr ⟨in_c_tableAt, fun _ h => absurd h List.not_mem_nil⟩⟩⟩
set_option maxRecDepth 20000 in
theorem good_c_X10_values : wp_c_X10_values.all goodWord = true := by decide +kernel
set_option maxRecDepth 20000 in
theorem g_c_X10_values_c_tableAt_74 : GoodIn wp_c_X10_values (wsV RX10 74 RX10 yX10_tableAt wp_c_tableAt) := goodIn_sub (List.forall_mem_append.mpr ⟨List.forall_mem_cons.mpr ⟨(List.mem_of_getElem? (i := 1) rfl), List.forall_mem_cons.mpr ⟨(List.mem_of_getElem? (i := 2) rfl), List.forall_mem_cons.mpr ⟨(List.mem_of_getElem? (i := 3) rfl), List.forall_mem_cons.mpr ⟨(List.mem_of_getElem? (i := 4) rfl), fun _ h => absurd h List.not_mem_nil⟩⟩⟩⟩, (fun _ h => (List.mem_cons_of_mem _ (List.mem_append_right _ (List.mem_append_left _ h))))⟩) (by decide +kernel)
set_option maxHeartbeats 4000000 in
set_option maxRecDepth 100000 in
theorem c_X10_values (l : Launch) (D : va_G) (sz : Nat) (h0 : Nat) (ca : Nat → Nat) (cT : ClassId) (tp : Int32) (z1 : Int32) (z2 : Int32)  : Met l yX10_values wp_c_X10_values ({ frames := 2, cells := 0, slots := 0, locals := 41 }) (PcR D [.ref h0, .int z1, .int z2] sz [(h0, .inr (10, [.ref (ca 0), .ref (ca 1), .int tp, .ref (ca 3), .ref (ca 4), .ref (ca 5), .ref (ca 6)])), (ca 0, .inl (cT, 4, .inr (.inr (.inr (.inr (fun _ => none))))))] [(cT, .object RX9)]) (va_Ql (fun (r : Int64) (_ : Unit) => r = (-1000000000000000)) (fun (_ : Unit) _ => True) (va_A [] sz)) 0 0 (va_A [] sz) := by
  refine Met.ofW (cc := cX10_values) (maxL := 5) (ret := (some .long)) (by decide) rfl ?_
  intro p e s m args below meth c s₁ B hml hv
  obtain ⟨rfl, hsz, hP, hK⟩ := hv
  have hx := B.exec
  have hb := B.bytes
  have hr := B.returns
  have hts := atoms_spec (ws := wp_c_X10_values) B.pre
  have hown : s.vm.findClass RX10 = some m.cls := findClass_of_methodNamed B.named
  have hlocks := B.notSynchronized
  subst hsz
  generalize hAe : va_A [] s.heap.size = A at ⊢
  have hA : ∀ q : Nat, s.heap.size ≤ q → A q := fun q h => by rw [← hAe]; exact Or.inr h
  have hS : va_S A s.heap s.heap [] := va_S.rf
  have hP : va_P D vwCl [(h0, .inr (10, [.ref (ca 0), .ref (ca 1), .int tp, .ref (ca 3), .ref (ca 4), .ref (ca 5), .ref (ca 6)])), (ca 0, .inl (cT, 4, .inr (.inr (.inr (.inr (fun _ => none))))))] s.heap := hP
  have hl := lv_entry ([.ref h0, .int z1, .int z2]) (n := 5) (Nat.le_of_ble_eq_true rfl)
  rw [lg_entry_eq]
  generalize (lg_sl ([.ref h0, .int z1, .int z2]) ++ List.replicate (5 - (lg_sl ([.ref h0, .int z1, .int z2])).length) Slot.unset).toArray = ls at hl ⊢
  have hl : lv_has ls 5 [(0, .ref h0), (1, .int z1), (2, .int z2)] := hl
  refine lv_aload_n hx hb dX10_values_0 rfl (lv_at hl 0 rfl) ?_
  refine lv_iload_n hx hb dX10_values_1 rfl (lv_at hl 1 rfl) ?_
  have hPc := hP.sub (ws' := [(h0, .inr (10, [.ref (ca 0), .ref (ca 1), .int tp, .ref (ca 3), .ref (ca 4), .ref (ca 5), .ref (ca 6)])), (ca 0, .inl (cT, 4, .inr (.inr (.inr (.inr (fun _ => none))))))]) [0, 1] rfl
  have hKc := hK.sub (tys' := [(cT, .object RX9)]) [0] rfl
  have hFc := va_free0 hS hA
  refine va_callq (va_runV (As := [.int z1]) (rest := []) ⟨hx, hb, hml, hown, hts⟩ (c_tableAt l D _ h0 ca cT tp z1) (cwV 1 hts g_c_X10_values_c_tableAt_74 rfl rfl rfl (by decide +kernel) ⟨(Nat.le_of_ble_eq_true rfl), (Nat.le_of_ble_eq_true rfl)⟩) (PcR_V (q0 := 0) hPc hKc rfl rfl) rfl rfl hl.1 rfl (lv_room (Nat.le_of_ble_eq_true rfl)) dX10_values_2 ⟨(Nat.le_of_ble_eq_true rfl), (Nat.le_of_ble_eq_true rfl)⟩) hS (fun q _ h => hFc q h) hFc (fun r1 uu tt H locs htt hvm hw hB hz1 hk1 hS => ?_)
  have hP := va_keep hP hk1
  try dsimp only at hw
  clear hB hz1 hk1 hFc hPc hKc
  obtain rfl : r1 = none := hw
  refine W.eq (g2 := F0 m 5 ls [.null]) rfl ?_
  refine lv_astore_nN (lv' := [(3, .null), (0, .ref h0), (1, .int z1), (2, .int z2)]) hx hb dX10_values_5 rfl hl (by decide) rfl (fun ls hl => ?_)
  refine lv_aload_nN hx hb dX10_values_6 rfl (lv_at hl 0 rfl) ?_
  refine lv_ifnonnullN hx hb dX10_values_7 ?_
  refine lv_ldc2 (v := (-1000000000000000)) hx hb hown (hts (.constantLong RX10 91 (-1000000000000000)) (List.mem_of_getElem? (i := 5) rfl)) dX10_values_10 ?_
  exact W.lret (v := (-1000000000000000)) hx hb hr (fun t ht hW => ⟨⟨(-1000000000000000), (), rfl, rfl, trivial⟩, hS.F ht⟩) hS.2.2 dX10_values_13

def own_c_X10_run : List Cond := [.methodLink RX10 74 yX10_tableAt, .instanceMethod yX10_tableAt, .selects RX10 yX10_tableAt yX10_tableAt, .initialized RX10]
def wp_c_X10_run : List Cond := .code yX10_run cX10_run 3 (some .int) :: (own_c_X10_run ++ (wp_c_tableAt ++ ([] : List Cond)))
set_option maxRecDepth 20000 in
theorem inown_c_X10_run : ∀ w ∈ own_c_X10_run, w ∈ lw_tbl := mem_places [610, 612, 2, 106] (by decide +kernel)
set_option maxRecDepth 20000 in
theorem in_c_X10_run : ∀ w ∈ wp_c_X10_run, w ∈ lw_tbl := List.forall_mem_cons.mpr ⟨List.mem_of_getElem? (i := 910) (by decide +kernel), List.forall_mem_append.mpr ⟨inown_c_X10_run, List.forall_mem_append.mpr ⟨in_c_tableAt, fun _ h => absurd h List.not_mem_nil⟩⟩⟩
set_option maxRecDepth 20000 in
theorem good_c_X10_run : wp_c_X10_run.all goodWord = true := by decide +kernel
set_option maxRecDepth 20000 in
theorem g_c_X10_run_c_tableAt_74 : GoodIn wp_c_X10_run (wsV RX10 74 RX10 yX10_tableAt wp_c_tableAt) := goodIn_sub (List.forall_mem_append.mpr ⟨List.forall_mem_cons.mpr ⟨(List.mem_of_getElem? (i := 1) rfl), List.forall_mem_cons.mpr ⟨(List.mem_of_getElem? (i := 2) rfl), List.forall_mem_cons.mpr ⟨(List.mem_of_getElem? (i := 3) rfl), List.forall_mem_cons.mpr ⟨(List.mem_of_getElem? (i := 4) rfl), fun _ h => absurd h List.not_mem_nil⟩⟩⟩⟩, (fun _ h => (List.mem_cons_of_mem _ (List.mem_append_right _ (List.mem_append_left _ h))))⟩) (by decide +kernel)
set_option maxHeartbeats 4000000 in
set_option maxRecDepth 100000 in
theorem c_X10_run (l : Launch) (D : va_G) (sz : Nat) (h0 : Nat) (ca : Nat → Nat) (cT : ClassId) (tp : Int32) (z1 : Int32)  : Met l yX10_run wp_c_X10_run ({ frames := 2, cells := 0, slots := 0, locals := 41 }) (PcR D [.ref h0, .int z1] sz [(h0, .inr (10, [.ref (ca 0), .ref (ca 1), .int tp, .ref (ca 3), .ref (ca 4), .ref (ca 5), .ref (ca 6)])), (ca 0, .inl (cT, 4, .inr (.inr (.inr (.inr (fun _ => none))))))] [(cT, .object RX9)]) (va_Qi (fun (r : Int32) (_ : Unit) => r = (-2)) (fun (_ : Unit) _ => True) (va_A [] sz)) 0 0 (va_A [] sz) := by
  refine Met.ofW (cc := cX10_run) (maxL := 3) (ret := (some .int)) (by decide) rfl ?_
  intro p e s m args below meth c s₁ B hml hv
  obtain ⟨rfl, hsz, hP, hK⟩ := hv
  have hx := B.exec
  have hb := B.bytes
  have hr := B.returns
  have hts := atoms_spec (ws := wp_c_X10_run) B.pre
  have hown : s.vm.findClass RX10 = some m.cls := findClass_of_methodNamed B.named
  have hlocks := B.notSynchronized
  subst hsz
  generalize hAe : va_A [] s.heap.size = A at ⊢
  have hA : ∀ q : Nat, s.heap.size ≤ q → A q := fun q h => by rw [← hAe]; exact Or.inr h
  have hS : va_S A s.heap s.heap [] := va_S.rf
  have hP : va_P D vwCl [(h0, .inr (10, [.ref (ca 0), .ref (ca 1), .int tp, .ref (ca 3), .ref (ca 4), .ref (ca 5), .ref (ca 6)])), (ca 0, .inl (cT, 4, .inr (.inr (.inr (.inr (fun _ => none))))))] s.heap := hP
  have hl := lv_entry ([.ref h0, .int z1]) (n := 3) (Nat.le_of_ble_eq_true rfl)
  rw [lg_entry_eq]
  generalize (lg_sl ([.ref h0, .int z1]) ++ List.replicate (3 - (lg_sl ([.ref h0, .int z1])).length) Slot.unset).toArray = ls at hl ⊢
  have hl : lv_has ls 3 [(0, .ref h0), (1, .int z1)] := hl
  refine lv_aload_n hx hb dX10_run_0 rfl (lv_at hl 0 rfl) ?_
  refine lv_iload_n hx hb dX10_run_1 rfl (lv_at hl 1 rfl) ?_
  have hPc := hP.sub (ws' := [(h0, .inr (10, [.ref (ca 0), .ref (ca 1), .int tp, .ref (ca 3), .ref (ca 4), .ref (ca 5), .ref (ca 6)])), (ca 0, .inl (cT, 4, .inr (.inr (.inr (.inr (fun _ => none))))))]) [0, 1] rfl
  have hKc := hK.sub (tys' := [(cT, .object RX9)]) [0] rfl
  have hFc := va_free0 hS hA
  refine va_callq (va_runV (As := [.int z1]) (rest := []) ⟨hx, hb, hml, hown, hts⟩ (c_tableAt l D _ h0 ca cT tp z1) (cwV 1 hts g_c_X10_run_c_tableAt_74 rfl rfl rfl (by decide +kernel) ⟨(Nat.le_of_ble_eq_true rfl), (Nat.le_of_ble_eq_true rfl)⟩) (PcR_V (q0 := 0) hPc hKc rfl rfl) rfl rfl hl.1 rfl (lv_room (Nat.le_of_ble_eq_true rfl)) dX10_run_2 ⟨(Nat.le_of_ble_eq_true rfl), (Nat.le_of_ble_eq_true rfl)⟩) hS (fun q _ h => hFc q h) hFc (fun r1 uu tt H locs htt hvm hw hB hz1 hk1 hS => ?_)
  have hP := va_keep hP hk1
  try dsimp only at hw
  clear hB hz1 hk1 hFc hPc hKc
  obtain rfl : r1 = none := hw
  refine W.eq (g2 := F0 m 5 ls [.null]) rfl ?_
  refine lv_astore_nN (lv' := [(2, .null), (0, .ref h0), (1, .int z1)]) hx hb dX10_run_5 rfl hl (by decide) rfl (fun ls hl => ?_)
  refine lv_aload_nN hx hb dX10_run_6 rfl (lv_at hl 0 rfl) ?_
  refine lv_ifnonnullN hx hb dX10_run_7 ?_
  refine lv_bipush (v := (-2)) hx hb dX10_run_10 (by decide) ?_
  exact W.iret (v := (-2)) hx hb hr (fun t ht hW => ⟨⟨(-2), (), rfl, rfl, trivial⟩, hS.F ht⟩) hS.2.2 dX10_run_12

def own_c_X10_image : List Cond := [.methodLink RX10 74 yX10_tableAt, .instanceMethod yX10_tableAt, .selects RX10 yX10_tableAt yX10_tableAt, .initialized RX10]
def wp_c_X10_image : List Cond := .code yX10_image cX10_image 3 (some .int) :: (own_c_X10_image ++ (wp_c_tableAt ++ ([] : List Cond)))
set_option maxRecDepth 20000 in
theorem inown_c_X10_image : ∀ w ∈ own_c_X10_image, w ∈ lw_tbl := mem_places [610, 612, 2, 106] (by decide +kernel)
set_option maxRecDepth 20000 in
theorem in_c_X10_image : ∀ w ∈ wp_c_X10_image, w ∈ lw_tbl := List.forall_mem_cons.mpr ⟨List.mem_of_getElem? (i := 1147) (by decide +kernel), List.forall_mem_append.mpr ⟨inown_c_X10_image, List.forall_mem_append.mpr ⟨in_c_tableAt, fun _ h => absurd h List.not_mem_nil⟩⟩⟩
set_option maxRecDepth 20000 in
theorem good_c_X10_image : wp_c_X10_image.all goodWord = true := by decide +kernel
set_option maxRecDepth 20000 in
theorem g_c_X10_image_c_tableAt_74 : GoodIn wp_c_X10_image (wsV RX10 74 RX10 yX10_tableAt wp_c_tableAt) := goodIn_sub (List.forall_mem_append.mpr ⟨List.forall_mem_cons.mpr ⟨(List.mem_of_getElem? (i := 1) rfl), List.forall_mem_cons.mpr ⟨(List.mem_of_getElem? (i := 2) rfl), List.forall_mem_cons.mpr ⟨(List.mem_of_getElem? (i := 3) rfl), List.forall_mem_cons.mpr ⟨(List.mem_of_getElem? (i := 4) rfl), fun _ h => absurd h List.not_mem_nil⟩⟩⟩⟩, (fun _ h => (List.mem_cons_of_mem _ (List.mem_append_right _ (List.mem_append_left _ h))))⟩) (by decide +kernel)
set_option maxHeartbeats 4000000 in
set_option maxRecDepth 100000 in
theorem c_X10_image (l : Launch) (D : va_G) (sz : Nat) (h0 : Nat) (ca : Nat → Nat) (cT : ClassId) (tp : Int32) (z1 : Int32)  : Met l yX10_image wp_c_X10_image ({ frames := 2, cells := 0, slots := 0, locals := 41 }) (PcR D [.ref h0, .int z1] sz [(h0, .inr (10, [.ref (ca 0), .ref (ca 1), .int tp, .ref (ca 3), .ref (ca 4), .ref (ca 5), .ref (ca 6)])), (ca 0, .inl (cT, 4, .inr (.inr (.inr (.inr (fun _ => none))))))] [(cT, .object RX9)]) (va_Qi (fun (r : Int32) (_ : Unit) => r = (-1)) (fun (_ : Unit) _ => True) (va_A [] sz)) 0 0 (va_A [] sz) := by
  refine Met.ofW (cc := cX10_image) (maxL := 3) (ret := (some .int)) (by decide) rfl ?_
  intro p e s m args below meth c s₁ B hml hv
  obtain ⟨rfl, hsz, hP, hK⟩ := hv
  have hx := B.exec
  have hb := B.bytes
  have hr := B.returns
  have hts := atoms_spec (ws := wp_c_X10_image) B.pre
  have hown : s.vm.findClass RX10 = some m.cls := findClass_of_methodNamed B.named
  have hlocks := B.notSynchronized
  subst hsz
  generalize hAe : va_A [] s.heap.size = A at ⊢
  have hA : ∀ q : Nat, s.heap.size ≤ q → A q := fun q h => by rw [← hAe]; exact Or.inr h
  have hS : va_S A s.heap s.heap [] := va_S.rf
  have hP : va_P D vwCl [(h0, .inr (10, [.ref (ca 0), .ref (ca 1), .int tp, .ref (ca 3), .ref (ca 4), .ref (ca 5), .ref (ca 6)])), (ca 0, .inl (cT, 4, .inr (.inr (.inr (.inr (fun _ => none))))))] s.heap := hP
  have hl := lv_entry ([.ref h0, .int z1]) (n := 3) (Nat.le_of_ble_eq_true rfl)
  rw [lg_entry_eq]
  generalize (lg_sl ([.ref h0, .int z1]) ++ List.replicate (3 - (lg_sl ([.ref h0, .int z1])).length) Slot.unset).toArray = ls at hl ⊢
  have hl : lv_has ls 3 [(0, .ref h0), (1, .int z1)] := hl
  refine lv_aload_n hx hb dX10_image_0 rfl (lv_at hl 0 rfl) ?_
  refine lv_iload_n hx hb dX10_image_1 rfl (lv_at hl 1 rfl) ?_
  have hPc := hP.sub (ws' := [(h0, .inr (10, [.ref (ca 0), .ref (ca 1), .int tp, .ref (ca 3), .ref (ca 4), .ref (ca 5), .ref (ca 6)])), (ca 0, .inl (cT, 4, .inr (.inr (.inr (.inr (fun _ => none))))))]) [0, 1] rfl
  have hKc := hK.sub (tys' := [(cT, .object RX9)]) [0] rfl
  have hFc := va_free0 hS hA
  refine va_callq (va_runV (As := [.int z1]) (rest := []) ⟨hx, hb, hml, hown, hts⟩ (c_tableAt l D _ h0 ca cT tp z1) (cwV 1 hts g_c_X10_image_c_tableAt_74 rfl rfl rfl (by decide +kernel) ⟨(Nat.le_of_ble_eq_true rfl), (Nat.le_of_ble_eq_true rfl)⟩) (PcR_V (q0 := 0) hPc hKc rfl rfl) rfl rfl hl.1 rfl (lv_room (Nat.le_of_ble_eq_true rfl)) dX10_image_2 ⟨(Nat.le_of_ble_eq_true rfl), (Nat.le_of_ble_eq_true rfl)⟩) hS (fun q _ h => hFc q h) hFc (fun r1 uu tt H locs htt hvm hw hB hz1 hk1 hS => ?_)
  have hP := va_keep hP hk1
  try dsimp only at hw
  clear hB hz1 hk1 hFc hPc hKc
  obtain rfl : r1 = none := hw
  refine W.eq (g2 := F0 m 5 ls [.null]) rfl ?_
  refine lv_astore_nN (lv' := [(2, .null), (0, .ref h0), (1, .int z1)]) hx hb dX10_image_5 rfl hl (by decide) rfl (fun ls hl => ?_)
  refine lv_aload_nN hx hb dX10_image_6 rfl (lv_at hl 0 rfl) ?_
  refine lv_ifnonnullN hx hb dX10_image_7 ?_
  refine lv_iconst (v := (-1)) hx hb dX10_image_10 (by decide) ?_
  exact W.iret (v := (-1)) hx hb hr (fun t ht hW => ⟨⟨(-1), (), rfl, rfl, trivial⟩, hS.F ht⟩) hS.2.2 dX10_image_11

def own_c_X10_copy : List Cond := [.methodLink RX10 74 yX10_tableAt, .instanceMethod yX10_tableAt, .selects RX10 yX10_tableAt yX10_tableAt, .initialized RX10, .methodLink RX10 55 yX10_isTableNumber, .static yX10_isTableNumber]
def wp_c_X10_copy : List Cond := .code yX10_copy cX10_copy 4 (some .int) :: (own_c_X10_copy ++ (wp_c_tableAt ++ (wp_c_isTN ++ ([] : List Cond))))
set_option maxRecDepth 20000 in
theorem inown_c_X10_copy : ∀ w ∈ own_c_X10_copy, w ∈ lw_tbl := mem_places [610, 612, 2, 106, 449, 450] (by decide +kernel)
set_option maxRecDepth 20000 in
theorem in_c_X10_copy : ∀ w ∈ wp_c_X10_copy, w ∈ lw_tbl := List.forall_mem_cons.mpr ⟨List.mem_of_getElem? (i := 1184) (by decide +kernel), List.forall_mem_append.mpr ⟨inown_c_X10_copy, List.forall_mem_append.mpr ⟨in_c_tableAt, List.forall_mem_append.mpr ⟨in_c_isTN, fun _ h => absurd h List.not_mem_nil⟩⟩⟩⟩
set_option maxRecDepth 20000 in
theorem good_c_X10_copy : wp_c_X10_copy.all goodWord = true := by decide +kernel
set_option maxRecDepth 20000 in
theorem g_c_X10_copy_c_tableAt_74 : GoodIn wp_c_X10_copy (wsV RX10 74 RX10 yX10_tableAt wp_c_tableAt) := goodIn_sub (List.forall_mem_append.mpr ⟨List.forall_mem_cons.mpr ⟨(List.mem_of_getElem? (i := 1) rfl), List.forall_mem_cons.mpr ⟨(List.mem_of_getElem? (i := 2) rfl), List.forall_mem_cons.mpr ⟨(List.mem_of_getElem? (i := 3) rfl), List.forall_mem_cons.mpr ⟨(List.mem_of_getElem? (i := 4) rfl), fun _ h => absurd h List.not_mem_nil⟩⟩⟩⟩, (fun _ h => (List.mem_cons_of_mem _ (List.mem_append_right _ (List.mem_append_left _ h))))⟩) (by decide +kernel)
set_option maxRecDepth 20000 in
theorem g_c_X10_copy_c_isTN_55 : GoodIn wp_c_X10_copy (va_wsS RX10 55 yX10_isTableNumber wp_c_isTN) := goodIn_sub (List.forall_mem_append.mpr ⟨List.forall_mem_cons.mpr ⟨(List.mem_of_getElem? (i := 5) rfl), List.forall_mem_cons.mpr ⟨(List.mem_of_getElem? (i := 6) rfl), List.forall_mem_cons.mpr ⟨(List.mem_of_getElem? (i := 4) rfl), fun _ h => absurd h List.not_mem_nil⟩⟩⟩, (fun _ h => (List.mem_cons_of_mem _ (List.mem_append_right _ (List.mem_append_right _ (List.mem_append_left _ h)))))⟩) (by decide +kernel)
set_option maxHeartbeats 4000000 in
set_option maxRecDepth 100000 in
theorem c_X10_copy (l : Launch) (D : va_G) (sz : Nat) (h0 : Nat) (ca : Nat → Nat) (cT : ClassId) (tp : Int32) (z1 : Int32) (z2 : Int32)  : Met l yX10_copy wp_c_X10_copy ({ frames := 2, cells := 0, slots := 0, locals := 41 }) (PcR D [.ref h0, .int z1, .int z2] sz [(h0, .inr (10, [.ref (ca 0), .ref (ca 1), .int tp, .ref (ca 3), .ref (ca 4), .ref (ca 5), .ref (ca 6)])), (ca 0, .inl (cT, 4, .inr (.inr (.inr (.inr (fun _ => none))))))] [(cT, .object RX9)]) (va_Qi (fun (r : Int32) (_ : Unit) => r = (-2)) (fun (_ : Unit) _ => True) (va_A [] sz)) 0 0 (va_A [] sz) := by
  refine Met.ofW (cc := cX10_copy) (maxL := 4) (ret := (some .int)) (by decide) rfl ?_
  intro p e s m args below meth c s₁ B hml hv
  obtain ⟨rfl, hsz, hP, hK⟩ := hv
  have hx := B.exec
  have hb := B.bytes
  have hr := B.returns
  have hts := atoms_spec (ws := wp_c_X10_copy) B.pre
  have hown : s.vm.findClass RX10 = some m.cls := findClass_of_methodNamed B.named
  have hlocks := B.notSynchronized
  subst hsz
  generalize hAe : va_A [] s.heap.size = A at ⊢
  have hA : ∀ q : Nat, s.heap.size ≤ q → A q := fun q h => by rw [← hAe]; exact Or.inr h
  have hS : va_S A s.heap s.heap [] := va_S.rf
  have hP : va_P D vwCl [(h0, .inr (10, [.ref (ca 0), .ref (ca 1), .int tp, .ref (ca 3), .ref (ca 4), .ref (ca 5), .ref (ca 6)])), (ca 0, .inl (cT, 4, .inr (.inr (.inr (.inr (fun _ => none))))))] s.heap := hP
  have hl := lv_entry ([.ref h0, .int z1, .int z2]) (n := 4) (Nat.le_of_ble_eq_true rfl)
  rw [lg_entry_eq]
  generalize (lg_sl ([.ref h0, .int z1, .int z2]) ++ List.replicate (4 - (lg_sl ([.ref h0, .int z1, .int z2])).length) Slot.unset).toArray = ls at hl ⊢
  have hl : lv_has ls 4 [(0, .ref h0), (1, .int z1), (2, .int z2)] := hl
  refine lv_aload_n hx hb dX10_copy_0 rfl (lv_at hl 0 rfl) ?_
  refine lv_iload_n hx hb dX10_copy_1 rfl (lv_at hl 2 rfl) ?_
  have hPc := hP.sub (ws' := [(h0, .inr (10, [.ref (ca 0), .ref (ca 1), .int tp, .ref (ca 3), .ref (ca 4), .ref (ca 5), .ref (ca 6)])), (ca 0, .inl (cT, 4, .inr (.inr (.inr (.inr (fun _ => none))))))]) [0, 1] rfl
  have hKc := hK.sub (tys' := [(cT, .object RX9)]) [0] rfl
  have hFc := va_free0 hS hA
  refine va_callq (va_runV (As := [.int z2]) (rest := []) ⟨hx, hb, hml, hown, hts⟩ (c_tableAt l D _ h0 ca cT tp z2) (cwV 1 hts g_c_X10_copy_c_tableAt_74 rfl rfl rfl (by decide +kernel) ⟨(Nat.le_of_ble_eq_true rfl), (Nat.le_of_ble_eq_true rfl)⟩) (PcR_V (q0 := 0) hPc hKc rfl rfl) rfl rfl hl.1 rfl (lv_room (Nat.le_of_ble_eq_true rfl)) dX10_copy_2 ⟨(Nat.le_of_ble_eq_true rfl), (Nat.le_of_ble_eq_true rfl)⟩) hS (fun q _ h => hFc q h) hFc (fun r1 uu tt H locs htt hvm hw hB hz1 hk1 hS => ?_)
  have hP := va_keep hP hk1
  try dsimp only at hw
  clear hB hz1 hk1 hFc hPc hKc
  obtain rfl : r1 = none := hw
  refine W.eq (g2 := F0 m 5 ls [.null]) rfl ?_
  refine lv_astore_nN (lv' := [(3, .null), (0, .ref h0), (1, .int z1), (2, .int z2)]) hx hb dX10_copy_5 rfl hl (by decide) rfl (fun ls hl => ?_)
  refine lv_iload_n hx hb dX10_copy_6 rfl (lv_at hl 2 rfl) ?_
  have hPc := hP.sub (ws' := []) [] rfl
  have hKc := hK.sub (tys' := []) [] rfl
  have hFc := va_free0 hS hA
  refine va_calli (va_runS (As := [.int z1]) (rest := []) ⟨hx, hb, hml, hown, hts⟩ (c_isTN l D _ z1) (va_cwS 1 hts g_c_X10_copy_c_isTN_55 rfl rfl rfl (by decide +kernel) ⟨(Nat.le_of_ble_eq_true rfl), (Nat.le_of_ble_eq_true rfl)⟩) (PcR_S hPc hKc) rfl rfl hl.1 rfl (lv_room (Nat.le_of_ble_eq_true rfl)) dX10_copy_7 ⟨(Nat.le_of_ble_eq_true rfl), (Nat.le_of_ble_eq_true rfl)⟩) hS (fun q _ h => hFc q h) hFc (fun r2 uu tt H locs htt hvm hw hB hz1 hk1 hS => ?_)
  have hP := va_keep hP hk1
  try dsimp only at hw
  clear hB hz1 hk1 hFc hPc hKc
  have hw_r2 := hw
  refine lv_if_eq (tgt := 22) hx hb dX10_copy_10 (by decide) (fun hc3 => ?_) (fun hc3 => ?_)
  ·
    refine lv_bipush (v := (-2)) hx hb dX10_copy_22 (by decide) ?_
    exact W.iret (v := (-2)) hx hb hr (fun t ht hW => ⟨⟨(-2), (), rfl, rfl, trivial⟩, hS.F ht⟩) hS.2.2 dX10_copy_24
  ·
    refine lv_aload_nN hx hb dX10_copy_13 rfl (lv_at hl 0 rfl) ?_
    refine lv_ifnullN (tgt := 22) hx hb dX10_copy_14 (by decide) ?_
    refine lv_bipush (v := (-2)) hx hb dX10_copy_22 (by decide) ?_
    exact W.iret (v := (-2)) hx hb hr (fun t ht hW => ⟨⟨(-2), (), rfl, rfl, trivial⟩, hS.F ht⟩) hS.2.2 dX10_copy_24
end
section
def own_c_X11_put : List Cond := [.fieldLink RX11 73 "ClashFreeModel" "thrown" "I", .methodLink RX11 222 yX11_isThere, .instanceMethod yX11_isThere, .selects RX11 yX11_isThere yX11_isThere, .initialized RX11]
def wp_c_X11_put : List Cond := .code yX11_put cX11_put 4 (some .int) :: (own_c_X11_put ++ (wp_c_isThere ++ (wsX110 ++ ([] : List Cond))))
set_option maxRecDepth 20000 in
theorem inown_c_X11_put : ∀ w ∈ own_c_X11_put, w ∈ lw_tbl := mem_places [1216, 1466, 1468, 54, 115] (by decide +kernel)
set_option maxRecDepth 20000 in
theorem in_c_X11_put : ∀ w ∈ wp_c_X11_put, w ∈ lw_tbl := List.forall_mem_cons.mpr ⟨List.mem_of_getElem? (i := 1465) (by decide +kernel), List.forall_mem_append.mpr ⟨inown_c_X11_put, List.forall_mem_append.mpr ⟨in_c_isThere, List.forall_mem_append.mpr ⟨lwb_X11, fun _ h => absurd h List.not_mem_nil⟩⟩⟩⟩
set_option maxRecDepth 20000 in
theorem good_c_X11_put : wp_c_X11_put.all goodWord = true := by decide +kernel
set_option maxRecDepth 20000 in
theorem g_c_X11_put_c_isThere_222 : GoodIn wp_c_X11_put (wsV RX11 222 RX11 yX11_isThere wp_c_isThere) := goodIn_sub (List.forall_mem_append.mpr ⟨List.forall_mem_cons.mpr ⟨(List.mem_of_getElem? (i := 2) rfl), List.forall_mem_cons.mpr ⟨(List.mem_of_getElem? (i := 3) rfl), List.forall_mem_cons.mpr ⟨(List.mem_of_getElem? (i := 4) rfl), List.forall_mem_cons.mpr ⟨(List.mem_of_getElem? (i := 5) rfl), fun _ h => absurd h List.not_mem_nil⟩⟩⟩⟩, (fun _ h => (List.mem_cons_of_mem _ (List.mem_append_right _ (List.mem_append_left _ h))))⟩) (by decide +kernel)
set_option maxHeartbeats 4000000 in
set_option maxRecDepth 100000 in
theorem c_X11_put (l : Launch) (D : va_G) (sz : Nat) (h0 : Nat) (a : Nat → Nat) (cN : ClassId) (tp : Int32) (sd : Int64) (pa : Int64) (pb : Int64) (dr : Int32) (z1 : Int32) (z2 : Int32) (z3 : Int32)  : Met l yX11_put wp_c_X11_put ({ frames := 2, cells := 0, slots := 0, locals := 46 }) (PcW D [.ref h0, .int z1, .int z2, .int z3] sz [(h0, .inr (11, fM a tp sd pa pb dr)), (a 3, .inl (cN, 85, .inr (.inl (fun _ => 0))))] [(cN, .long)]) (va_Qi (fun (r : Int32) (_ : Unit) => r = (-2)) (fun (_ : Unit) _ => True) (va_A [(h0, .inr (11, fM a tp sd pa pb dr)), (a 3, .inl (cN, 85, .inr (.inl (fun _ => 0))))] sz)) 0 0 (va_A [(h0, .inr (11, fM a tp sd pa pb dr)), (a 3, .inl (cN, 85, .inr (.inl (fun _ => 0))))] sz) := by
  refine Met.ofW (cc := cX11_put) (maxL := 4) (ret := (some .int)) (by decide) rfl ?_
  intro p e s m args below meth c s₁ B hml hv
  obtain ⟨rfl, hsz, hP, hK, hD0⟩ := hv
  have hx := B.exec
  have hb := B.bytes
  have hr := B.returns
  have hts := atoms_spec (ws := wp_c_X11_put) B.pre
  have hin_X11 : ∀ w ∈ wsX110, w ∈ wp_c_X11_put := fun _ h => (List.mem_cons_of_mem _ (List.mem_append_right _ (List.mem_append_right _ (List.mem_append_left _ h))))
  have hown : s.vm.findClass RX11 = some m.cls := findClass_of_methodNamed B.named
  have hlocks := B.notSynchronized
  subst hsz
  have hD := hD0.self (sz := s.heap.size)
  generalize hAe : va_A [(h0, .inr (11, fM a tp sd pa pb dr)), (a 3, .inl (cN, 85, .inr (.inl (fun _ => 0))))] s.heap.size = A at hD ⊢
  have hA : ∀ q : Nat, s.heap.size ≤ q → A q := fun q h => by rw [← hAe]; exact Or.inr h
  have hS : va_S A s.heap s.heap [] := va_S.rf
  have hP : va_P D vwCl [(h0, .inr (11, fM a tp sd pa pb dr)), (a 3, .inl (cN, 85, .inr (.inl (fun _ => 0))))] s.heap := hP
  have hl := lv_entry ([.ref h0, .int z1, .int z2, .int z3]) (n := 4) (Nat.le_of_ble_eq_true rfl)
  rw [lg_entry_eq]
  generalize (lg_sl ([.ref h0, .int z1, .int z2, .int z3]) ++ List.replicate (4 - (lg_sl ([.ref h0, .int z1, .int z2, .int z3])).length) Slot.unset).toArray = ls at hl ⊢
  have hl : lv_has ls 4 [(0, .ref h0), (1, .int z1), (2, .int z2), (3, .int z3)] := hl
  refine lv_aload_n hx hb dX11_put_0 rfl (lv_at hl 0 rfl) ?_
  refine lv_iconst (v := 0) hx hb dX11_put_1 (by decide) ?_
  refine va_put (D := D) (ci := 11) (v := .int 0) (ty := .int) (C := RX11) (T := TX11) (N := 47) hx hb hts hin_X11 tyX11 tyX11_ok nmX11 hown hK hP hD hS 0 rfl rfl 0 (by decide) (hts (.fieldLink RX11 73 "ClashFreeModel" "thrown" "I") (List.mem_of_getElem? (i := 1) rfl)) (fun _ h9 => h9) rfl (by decide +kernel) rfl rfl (Nat.le_of_ble_eq_true rfl) dX11_put_2 (fun H locs hP hD hS => ?_)
  have hP : va_P D vwCl [(h0, .inr (11, fM a tp sd pa pb dr)), (a 3, .inl (cN, 85, .inr (.inl (fun _ => 0))))] H := hP
  have hD : va_D A [(h0, .inr (11, fM a tp sd pa pb dr)), (a 3, .inl (cN, 85, .inr (.inl (fun _ => 0))))] := hD
  refine lv_aload_n hx hb dX11_put_5 rfl (lv_at hl 0 rfl) ?_
  refine lv_iload_n hx hb dX11_put_6 rfl (lv_at hl 1 rfl) ?_
  have hPc := hP.sub (ws' := [(h0, .inr (11, fM a tp sd pa pb dr)), (a 3, .inl (cN, 85, .inr (.inl (fun _ => 0))))]) [0, 1] rfl
  have hKc := hK.sub (tys' := [(cN, .long)]) [0] rfl
  have hFc := va_free0 hS hA
  refine va_calli (va_runV (As := [.int z1]) (rest := []) ⟨hx, hb, hml, hown, hts⟩ (c_isThere l D _ h0 a cN tp sd pa pb dr z1) (cwV 1 hts g_c_X11_put_c_isThere_222 rfl rfl rfl (by decide +kernel) ⟨(Nat.le_of_ble_eq_true rfl), (Nat.le_of_ble_eq_true rfl)⟩) (PcR_V (q0 := 0) hPc hKc rfl rfl) rfl rfl hl.1 rfl (lv_room (Nat.le_of_ble_eq_true rfl)) dX11_put_7 ⟨(Nat.le_of_ble_eq_true rfl), (Nat.le_of_ble_eq_true rfl)⟩) hS (fun q _ h => hFc q h) hFc (fun r1 uu tt H locs htt hvm hw hB hz1 hk1 hS => ?_)
  have hP := va_keep hP hk1
  try dsimp only at hw
  clear hB hz1 hk1 hFc hPc hKc
  obtain rfl : r1 = 0 := hw
  refine lv_if_eq (tgt := 20) hx hb dX11_put_10 (by decide) (fun hc => ?_) (fun hc => absurd (by decide) hc)
  refine lv_bipush (v := (-2)) hx hb dX11_put_20 (by decide) ?_
  exact W.iret (v := (-2)) hx hb hr (fun t ht hW => ⟨⟨(-2), (), rfl, rfl, trivial⟩, hS.F ht⟩) hS.2.2 dX11_put_22

def own_c_X11_get : List Cond := [.fieldLink RX11 73 "ClashFreeModel" "thrown" "I", .methodLink RX11 222 yX11_isThere, .instanceMethod yX11_isThere, .selects RX11 yX11_isThere yX11_isThere, .initialized RX11, .constantLong RX11 235 (-1000000000000000)]
def wp_c_X11_get : List Cond := .code yX11_get cX11_get 3 (some .long) :: (own_c_X11_get ++ (wp_c_isThere ++ (wsX110 ++ ([] : List Cond))))
set_option maxRecDepth 20000 in
theorem inown_c_X11_get : ∀ w ∈ own_c_X11_get, w ∈ lw_tbl := mem_places [1216, 1466, 1468, 54, 115, 1517] (by decide +kernel)
set_option maxRecDepth 20000 in
theorem in_c_X11_get : ∀ w ∈ wp_c_X11_get, w ∈ lw_tbl := List.forall_mem_cons.mpr ⟨List.mem_of_getElem? (i := 1516) (by decide +kernel), List.forall_mem_append.mpr ⟨inown_c_X11_get, List.forall_mem_append.mpr ⟨in_c_isThere, List.forall_mem_append.mpr ⟨lwb_X11, fun _ h => absurd h List.not_mem_nil⟩⟩⟩⟩
set_option maxRecDepth 20000 in
theorem good_c_X11_get : wp_c_X11_get.all goodWord = true := by decide +kernel
set_option maxRecDepth 20000 in
theorem g_c_X11_get_c_isThere_222 : GoodIn wp_c_X11_get (wsV RX11 222 RX11 yX11_isThere wp_c_isThere) := goodIn_sub (List.forall_mem_append.mpr ⟨List.forall_mem_cons.mpr ⟨(List.mem_of_getElem? (i := 2) rfl), List.forall_mem_cons.mpr ⟨(List.mem_of_getElem? (i := 3) rfl), List.forall_mem_cons.mpr ⟨(List.mem_of_getElem? (i := 4) rfl), List.forall_mem_cons.mpr ⟨(List.mem_of_getElem? (i := 5) rfl), fun _ h => absurd h List.not_mem_nil⟩⟩⟩⟩, (fun _ h => (List.mem_cons_of_mem _ (List.mem_append_right _ (List.mem_append_left _ h))))⟩) (by decide +kernel)
set_option maxHeartbeats 4000000 in
set_option maxRecDepth 100000 in
theorem c_X11_get (l : Launch) (D : va_G) (sz : Nat) (h0 : Nat) (a : Nat → Nat) (cN : ClassId) (tp : Int32) (sd : Int64) (pa : Int64) (pb : Int64) (dr : Int32) (z1 : Int32) (z2 : Int32)  : Met l yX11_get wp_c_X11_get ({ frames := 2, cells := 0, slots := 0, locals := 46 }) (PcW D [.ref h0, .int z1, .int z2] sz [(h0, .inr (11, fM a tp sd pa pb dr)), (a 3, .inl (cN, 85, .inr (.inl (fun _ => 0))))] [(cN, .long)]) (va_Ql (fun (r : Int64) (_ : Unit) => r = (-1000000000000000)) (fun (_ : Unit) _ => True) (va_A [(h0, .inr (11, fM a tp sd pa pb dr)), (a 3, .inl (cN, 85, .inr (.inl (fun _ => 0))))] sz)) 0 0 (va_A [(h0, .inr (11, fM a tp sd pa pb dr)), (a 3, .inl (cN, 85, .inr (.inl (fun _ => 0))))] sz) := by
  refine Met.ofW (cc := cX11_get) (maxL := 3) (ret := (some .long)) (by decide) rfl ?_
  intro p e s m args below meth c s₁ B hml hv
  obtain ⟨rfl, hsz, hP, hK, hD0⟩ := hv
  have hx := B.exec
  have hb := B.bytes
  have hr := B.returns
  have hts := atoms_spec (ws := wp_c_X11_get) B.pre
  have hin_X11 : ∀ w ∈ wsX110, w ∈ wp_c_X11_get := fun _ h => (List.mem_cons_of_mem _ (List.mem_append_right _ (List.mem_append_right _ (List.mem_append_left _ h))))
  have hown : s.vm.findClass RX11 = some m.cls := findClass_of_methodNamed B.named
  have hlocks := B.notSynchronized
  subst hsz
  have hD := hD0.self (sz := s.heap.size)
  generalize hAe : va_A [(h0, .inr (11, fM a tp sd pa pb dr)), (a 3, .inl (cN, 85, .inr (.inl (fun _ => 0))))] s.heap.size = A at hD ⊢
  have hA : ∀ q : Nat, s.heap.size ≤ q → A q := fun q h => by rw [← hAe]; exact Or.inr h
  have hS : va_S A s.heap s.heap [] := va_S.rf
  have hP : va_P D vwCl [(h0, .inr (11, fM a tp sd pa pb dr)), (a 3, .inl (cN, 85, .inr (.inl (fun _ => 0))))] s.heap := hP
  have hl := lv_entry ([.ref h0, .int z1, .int z2]) (n := 3) (Nat.le_of_ble_eq_true rfl)
  rw [lg_entry_eq]
  generalize (lg_sl ([.ref h0, .int z1, .int z2]) ++ List.replicate (3 - (lg_sl ([.ref h0, .int z1, .int z2])).length) Slot.unset).toArray = ls at hl ⊢
  have hl : lv_has ls 3 [(0, .ref h0), (1, .int z1), (2, .int z2)] := hl
  refine lv_aload_n hx hb dX11_get_0 rfl (lv_at hl 0 rfl) ?_
  refine lv_iconst (v := 0) hx hb dX11_get_1 (by decide) ?_
  refine va_put (D := D) (ci := 11) (v := .int 0) (ty := .int) (C := RX11) (T := TX11) (N := 47) hx hb hts hin_X11 tyX11 tyX11_ok nmX11 hown hK hP hD hS 0 rfl rfl 0 (by decide) (hts (.fieldLink RX11 73 "ClashFreeModel" "thrown" "I") (List.mem_of_getElem? (i := 1) rfl)) (fun _ h9 => h9) rfl (by decide +kernel) rfl rfl (Nat.le_of_ble_eq_true rfl) dX11_get_2 (fun H locs hP hD hS => ?_)
  have hP : va_P D vwCl [(h0, .inr (11, fM a tp sd pa pb dr)), (a 3, .inl (cN, 85, .inr (.inl (fun _ => 0))))] H := hP
  have hD : va_D A [(h0, .inr (11, fM a tp sd pa pb dr)), (a 3, .inl (cN, 85, .inr (.inl (fun _ => 0))))] := hD
  refine lv_aload_n hx hb dX11_get_5 rfl (lv_at hl 0 rfl) ?_
  refine lv_iload_n hx hb dX11_get_6 rfl (lv_at hl 1 rfl) ?_
  have hPc := hP.sub (ws' := [(h0, .inr (11, fM a tp sd pa pb dr)), (a 3, .inl (cN, 85, .inr (.inl (fun _ => 0))))]) [0, 1] rfl
  have hKc := hK.sub (tys' := [(cN, .long)]) [0] rfl
  have hFc := va_free0 hS hA
  refine va_calli (va_runV (As := [.int z1]) (rest := []) ⟨hx, hb, hml, hown, hts⟩ (c_isThere l D _ h0 a cN tp sd pa pb dr z1) (cwV 1 hts g_c_X11_get_c_isThere_222 rfl rfl rfl (by decide +kernel) ⟨(Nat.le_of_ble_eq_true rfl), (Nat.le_of_ble_eq_true rfl)⟩) (PcR_V (q0 := 0) hPc hKc rfl rfl) rfl rfl hl.1 rfl (lv_room (Nat.le_of_ble_eq_true rfl)) dX11_get_7 ⟨(Nat.le_of_ble_eq_true rfl), (Nat.le_of_ble_eq_true rfl)⟩) hS (fun q _ h => hFc q h) hFc (fun r1 uu tt H locs htt hvm hw hB hz1 hk1 hS => ?_)
  have hP := va_keep hP hk1
  try dsimp only at hw
  clear hB hz1 hk1 hFc hPc hKc
  obtain rfl : r1 = 0 := hw
  refine lv_if_eq (tgt := 20) hx hb dX11_get_10 (by decide) (fun hc => ?_) (fun hc => absurd (by decide) hc)
  refine lv_ldc2 (v := (-1000000000000000)) hx hb hown (hts (.constantLong RX11 235 (-1000000000000000)) (List.mem_of_getElem? (i := 6) rfl)) dX11_get_20 ?_
  exact W.lret (v := (-1000000000000000)) hx hb hr (fun t ht hW => ⟨⟨(-1000000000000000), (), rfl, rfl, trivial⟩, hS.F ht⟩) hS.2.2 dX11_get_23

def own_c_X11_drop : List Cond := [.fieldLink RX11 73 "ClashFreeModel" "thrown" "I", .methodLink RX11 222 yX11_isThere, .instanceMethod yX11_isThere, .selects RX11 yX11_isThere yX11_isThere, .initialized RX11]
def wp_c_X11_drop : List Cond := .code yX11_drop cX11_drop 3 (some .int) :: (own_c_X11_drop ++ (wp_c_isThere ++ (wsX110 ++ ([] : List Cond))))
set_option maxRecDepth 20000 in
theorem inown_c_X11_drop : ∀ w ∈ own_c_X11_drop, w ∈ lw_tbl := mem_places [1216, 1466, 1468, 54, 115] (by decide +kernel)
set_option maxRecDepth 20000 in
theorem in_c_X11_drop : ∀ w ∈ wp_c_X11_drop, w ∈ lw_tbl := List.forall_mem_cons.mpr ⟨List.mem_of_getElem? (i := 1521) (by decide +kernel), List.forall_mem_append.mpr ⟨inown_c_X11_drop, List.forall_mem_append.mpr ⟨in_c_isThere, List.forall_mem_append.mpr ⟨lwb_X11, fun _ h => absurd h List.not_mem_nil⟩⟩⟩⟩
set_option maxRecDepth 20000 in
theorem good_c_X11_drop : wp_c_X11_drop.all goodWord = true := by decide +kernel
set_option maxRecDepth 20000 in
theorem g_c_X11_drop_c_isThere_222 : GoodIn wp_c_X11_drop (wsV RX11 222 RX11 yX11_isThere wp_c_isThere) := goodIn_sub (List.forall_mem_append.mpr ⟨List.forall_mem_cons.mpr ⟨(List.mem_of_getElem? (i := 2) rfl), List.forall_mem_cons.mpr ⟨(List.mem_of_getElem? (i := 3) rfl), List.forall_mem_cons.mpr ⟨(List.mem_of_getElem? (i := 4) rfl), List.forall_mem_cons.mpr ⟨(List.mem_of_getElem? (i := 5) rfl), fun _ h => absurd h List.not_mem_nil⟩⟩⟩⟩, (fun _ h => (List.mem_cons_of_mem _ (List.mem_append_right _ (List.mem_append_left _ h))))⟩) (by decide +kernel)
set_option maxHeartbeats 4000000 in
set_option maxRecDepth 100000 in
theorem c_X11_drop (l : Launch) (D : va_G) (sz : Nat) (h0 : Nat) (a : Nat → Nat) (cN : ClassId) (tp : Int32) (sd : Int64) (pa : Int64) (pb : Int64) (dr : Int32) (z1 : Int32) (z2 : Int32)  : Met l yX11_drop wp_c_X11_drop ({ frames := 2, cells := 0, slots := 0, locals := 46 }) (PcW D [.ref h0, .int z1, .int z2] sz [(h0, .inr (11, fM a tp sd pa pb dr)), (a 3, .inl (cN, 85, .inr (.inl (fun _ => 0))))] [(cN, .long)]) (va_Qi (fun (r : Int32) (_ : Unit) => r = (-2)) (fun (_ : Unit) _ => True) (va_A [(h0, .inr (11, fM a tp sd pa pb dr)), (a 3, .inl (cN, 85, .inr (.inl (fun _ => 0))))] sz)) 0 0 (va_A [(h0, .inr (11, fM a tp sd pa pb dr)), (a 3, .inl (cN, 85, .inr (.inl (fun _ => 0))))] sz) := by
  refine Met.ofW (cc := cX11_drop) (maxL := 3) (ret := (some .int)) (by decide) rfl ?_
  intro p e s m args below meth c s₁ B hml hv
  obtain ⟨rfl, hsz, hP, hK, hD0⟩ := hv
  have hx := B.exec
  have hb := B.bytes
  have hr := B.returns
  have hts := atoms_spec (ws := wp_c_X11_drop) B.pre
  have hin_X11 : ∀ w ∈ wsX110, w ∈ wp_c_X11_drop := fun _ h => (List.mem_cons_of_mem _ (List.mem_append_right _ (List.mem_append_right _ (List.mem_append_left _ h))))
  have hown : s.vm.findClass RX11 = some m.cls := findClass_of_methodNamed B.named
  have hlocks := B.notSynchronized
  subst hsz
  have hD := hD0.self (sz := s.heap.size)
  generalize hAe : va_A [(h0, .inr (11, fM a tp sd pa pb dr)), (a 3, .inl (cN, 85, .inr (.inl (fun _ => 0))))] s.heap.size = A at hD ⊢
  have hA : ∀ q : Nat, s.heap.size ≤ q → A q := fun q h => by rw [← hAe]; exact Or.inr h
  have hS : va_S A s.heap s.heap [] := va_S.rf
  have hP : va_P D vwCl [(h0, .inr (11, fM a tp sd pa pb dr)), (a 3, .inl (cN, 85, .inr (.inl (fun _ => 0))))] s.heap := hP
  have hl := lv_entry ([.ref h0, .int z1, .int z2]) (n := 3) (Nat.le_of_ble_eq_true rfl)
  rw [lg_entry_eq]
  generalize (lg_sl ([.ref h0, .int z1, .int z2]) ++ List.replicate (3 - (lg_sl ([.ref h0, .int z1, .int z2])).length) Slot.unset).toArray = ls at hl ⊢
  have hl : lv_has ls 3 [(0, .ref h0), (1, .int z1), (2, .int z2)] := hl
  refine lv_aload_n hx hb dX11_drop_0 rfl (lv_at hl 0 rfl) ?_
  refine lv_iconst (v := 0) hx hb dX11_drop_1 (by decide) ?_
  refine va_put (D := D) (ci := 11) (v := .int 0) (ty := .int) (C := RX11) (T := TX11) (N := 47) hx hb hts hin_X11 tyX11 tyX11_ok nmX11 hown hK hP hD hS 0 rfl rfl 0 (by decide) (hts (.fieldLink RX11 73 "ClashFreeModel" "thrown" "I") (List.mem_of_getElem? (i := 1) rfl)) (fun _ h9 => h9) rfl (by decide +kernel) rfl rfl (Nat.le_of_ble_eq_true rfl) dX11_drop_2 (fun H locs hP hD hS => ?_)
  have hP : va_P D vwCl [(h0, .inr (11, fM a tp sd pa pb dr)), (a 3, .inl (cN, 85, .inr (.inl (fun _ => 0))))] H := hP
  have hD : va_D A [(h0, .inr (11, fM a tp sd pa pb dr)), (a 3, .inl (cN, 85, .inr (.inl (fun _ => 0))))] := hD
  refine lv_aload_n hx hb dX11_drop_5 rfl (lv_at hl 0 rfl) ?_
  refine lv_iload_n hx hb dX11_drop_6 rfl (lv_at hl 1 rfl) ?_
  have hPc := hP.sub (ws' := [(h0, .inr (11, fM a tp sd pa pb dr)), (a 3, .inl (cN, 85, .inr (.inl (fun _ => 0))))]) [0, 1] rfl
  have hKc := hK.sub (tys' := [(cN, .long)]) [0] rfl
  have hFc := va_free0 hS hA
  refine va_calli (va_runV (As := [.int z1]) (rest := []) ⟨hx, hb, hml, hown, hts⟩ (c_isThere l D _ h0 a cN tp sd pa pb dr z1) (cwV 1 hts g_c_X11_drop_c_isThere_222 rfl rfl rfl (by decide +kernel) ⟨(Nat.le_of_ble_eq_true rfl), (Nat.le_of_ble_eq_true rfl)⟩) (PcR_V (q0 := 0) hPc hKc rfl rfl) rfl rfl hl.1 rfl (lv_room (Nat.le_of_ble_eq_true rfl)) dX11_drop_7 ⟨(Nat.le_of_ble_eq_true rfl), (Nat.le_of_ble_eq_true rfl)⟩) hS (fun q _ h => hFc q h) hFc (fun r1 uu tt H locs htt hvm hw hB hz1 hk1 hS => ?_)
  have hP := va_keep hP hk1
  try dsimp only at hw
  clear hB hz1 hk1 hFc hPc hKc
  obtain rfl : r1 = 0 := hw
  refine lv_if_eq (tgt := 29) hx hb dX11_drop_10 (by decide) (fun hc => ?_) (fun hc => absurd (by decide) hc)
  refine lv_bipush (v := (-2)) hx hb dX11_drop_29 (by decide) ?_
  exact W.iret (v := (-2)) hx hb hr (fun t ht hW => ⟨⟨(-2), (), rfl, rfl, trivial⟩, hS.F ht⟩) hS.2.2 dX11_drop_31

def own_c_X11_build : List Cond := [.fieldLink RX11 73 "ClashFreeModel" "thrown" "I", .methodLink RX11 222 yX11_isThere, .instanceMethod yX11_isThere, .selects RX11 yX11_isThere yX11_isThere, .initialized RX11]
def wp_c_X11_build : List Cond := .code yX11_build cX11_build 2 (some .int) :: (own_c_X11_build ++ (wp_c_isThere ++ (wsX110 ++ ([] : List Cond))))
set_option maxRecDepth 20000 in
theorem inown_c_X11_build : ∀ w ∈ own_c_X11_build, w ∈ lw_tbl := mem_places [1216, 1466, 1468, 54, 115] (by decide +kernel)
set_option maxRecDepth 20000 in
theorem in_c_X11_build : ∀ w ∈ wp_c_X11_build, w ∈ lw_tbl := List.forall_mem_cons.mpr ⟨List.mem_of_getElem? (i := 1530) (by decide +kernel), List.forall_mem_append.mpr ⟨inown_c_X11_build, List.forall_mem_append.mpr ⟨in_c_isThere, List.forall_mem_append.mpr ⟨lwb_X11, fun _ h => absurd h List.not_mem_nil⟩⟩⟩⟩
set_option maxRecDepth 20000 in
theorem good_c_X11_build : wp_c_X11_build.all goodWord = true := by decide +kernel
set_option maxRecDepth 20000 in
theorem g_c_X11_build_c_isThere_222 : GoodIn wp_c_X11_build (wsV RX11 222 RX11 yX11_isThere wp_c_isThere) := goodIn_sub (List.forall_mem_append.mpr ⟨List.forall_mem_cons.mpr ⟨(List.mem_of_getElem? (i := 2) rfl), List.forall_mem_cons.mpr ⟨(List.mem_of_getElem? (i := 3) rfl), List.forall_mem_cons.mpr ⟨(List.mem_of_getElem? (i := 4) rfl), List.forall_mem_cons.mpr ⟨(List.mem_of_getElem? (i := 5) rfl), fun _ h => absurd h List.not_mem_nil⟩⟩⟩⟩, (fun _ h => (List.mem_cons_of_mem _ (List.mem_append_right _ (List.mem_append_left _ h))))⟩) (by decide +kernel)
set_option maxHeartbeats 4000000 in
set_option maxRecDepth 100000 in
theorem c_X11_build (l : Launch) (D : va_G) (sz : Nat) (h0 : Nat) (a : Nat → Nat) (cN : ClassId) (tp : Int32) (sd : Int64) (pa : Int64) (pb : Int64) (dr : Int32) (z1 : Int32)  : Met l yX11_build wp_c_X11_build ({ frames := 2, cells := 0, slots := 0, locals := 46 }) (PcW D [.ref h0, .int z1] sz [(h0, .inr (11, fM a tp sd pa pb dr)), (a 3, .inl (cN, 85, .inr (.inl (fun _ => 0))))] [(cN, .long)]) (va_Qi (fun (r : Int32) (_ : Unit) => r = (-2)) (fun (_ : Unit) _ => True) (va_A [(h0, .inr (11, fM a tp sd pa pb dr)), (a 3, .inl (cN, 85, .inr (.inl (fun _ => 0))))] sz)) 0 0 (va_A [(h0, .inr (11, fM a tp sd pa pb dr)), (a 3, .inl (cN, 85, .inr (.inl (fun _ => 0))))] sz) := by
  refine Met.ofW (cc := cX11_build) (maxL := 2) (ret := (some .int)) (by decide) rfl ?_
  intro p e s m args below meth c s₁ B hml hv
  obtain ⟨rfl, hsz, hP, hK, hD0⟩ := hv
  have hx := B.exec
  have hb := B.bytes
  have hr := B.returns
  have hts := atoms_spec (ws := wp_c_X11_build) B.pre
  have hin_X11 : ∀ w ∈ wsX110, w ∈ wp_c_X11_build := fun _ h => (List.mem_cons_of_mem _ (List.mem_append_right _ (List.mem_append_right _ (List.mem_append_left _ h))))
  have hown : s.vm.findClass RX11 = some m.cls := findClass_of_methodNamed B.named
  have hlocks := B.notSynchronized
  subst hsz
  have hD := hD0.self (sz := s.heap.size)
  generalize hAe : va_A [(h0, .inr (11, fM a tp sd pa pb dr)), (a 3, .inl (cN, 85, .inr (.inl (fun _ => 0))))] s.heap.size = A at hD ⊢
  have hA : ∀ q : Nat, s.heap.size ≤ q → A q := fun q h => by rw [← hAe]; exact Or.inr h
  have hS : va_S A s.heap s.heap [] := va_S.rf
  have hP : va_P D vwCl [(h0, .inr (11, fM a tp sd pa pb dr)), (a 3, .inl (cN, 85, .inr (.inl (fun _ => 0))))] s.heap := hP
  have hl := lv_entry ([.ref h0, .int z1]) (n := 2) (Nat.le_of_ble_eq_true rfl)
  rw [lg_entry_eq]
  generalize (lg_sl ([.ref h0, .int z1]) ++ List.replicate (2 - (lg_sl ([.ref h0, .int z1])).length) Slot.unset).toArray = ls at hl ⊢
  have hl : lv_has ls 2 [(0, .ref h0), (1, .int z1)] := hl
  refine lv_aload_n hx hb dX11_build_0 rfl (lv_at hl 0 rfl) ?_
  refine lv_iconst (v := 0) hx hb dX11_build_1 (by decide) ?_
  refine va_put (D := D) (ci := 11) (v := .int 0) (ty := .int) (C := RX11) (T := TX11) (N := 47) hx hb hts hin_X11 tyX11 tyX11_ok nmX11 hown hK hP hD hS 0 rfl rfl 0 (by decide) (hts (.fieldLink RX11 73 "ClashFreeModel" "thrown" "I") (List.mem_of_getElem? (i := 1) rfl)) (fun _ h9 => h9) rfl (by decide +kernel) rfl rfl (Nat.le_of_ble_eq_true rfl) dX11_build_2 (fun H locs hP hD hS => ?_)
  have hP : va_P D vwCl [(h0, .inr (11, fM a tp sd pa pb dr)), (a 3, .inl (cN, 85, .inr (.inl (fun _ => 0))))] H := hP
  have hD : va_D A [(h0, .inr (11, fM a tp sd pa pb dr)), (a 3, .inl (cN, 85, .inr (.inl (fun _ => 0))))] := hD
  refine lv_aload_n hx hb dX11_build_5 rfl (lv_at hl 0 rfl) ?_
  refine lv_iload_n hx hb dX11_build_6 rfl (lv_at hl 1 rfl) ?_
  have hPc := hP.sub (ws' := [(h0, .inr (11, fM a tp sd pa pb dr)), (a 3, .inl (cN, 85, .inr (.inl (fun _ => 0))))]) [0, 1] rfl
  have hKc := hK.sub (tys' := [(cN, .long)]) [0] rfl
  have hFc := va_free0 hS hA
  refine va_calli (va_runV (As := [.int z1]) (rest := []) ⟨hx, hb, hml, hown, hts⟩ (c_isThere l D _ h0 a cN tp sd pa pb dr z1) (cwV 1 hts g_c_X11_build_c_isThere_222 rfl rfl rfl (by decide +kernel) ⟨(Nat.le_of_ble_eq_true rfl), (Nat.le_of_ble_eq_true rfl)⟩) (PcR_V (q0 := 0) hPc hKc rfl rfl) rfl rfl hl.1 rfl (lv_room (Nat.le_of_ble_eq_true rfl)) dX11_build_7 ⟨(Nat.le_of_ble_eq_true rfl), (Nat.le_of_ble_eq_true rfl)⟩) hS (fun q _ h => hFc q h) hFc (fun r1 uu tt H locs htt hvm hw hB hz1 hk1 hS => ?_)
  have hP := va_keep hP hk1
  try dsimp only at hw
  clear hB hz1 hk1 hFc hPc hKc
  obtain rfl : r1 = 0 := hw
  refine lv_if_ne (tgt := 16) hx hb dX11_build_10 (by decide) (fun hc => absurd (by decide) hc) (fun hc => ?_)
  refine lv_bipush (v := (-2)) hx hb dX11_build_13 (by decide) ?_
  exact W.iret (v := (-2)) hx hb hr (fun t ht hW => ⟨⟨(-2), (), rfl, rfl, trivial⟩, hS.F ht⟩) hS.2.2 dX11_build_15

def own_c_X11_has : List Cond := [.fieldLink RX11 73 "ClashFreeModel" "thrown" "I", .methodLink RX11 222 yX11_isThere, .instanceMethod yX11_isThere, .selects RX11 yX11_isThere yX11_isThere, .initialized RX11, .constantLong RX11 235 (-1000000000000000)]
def wp_c_X11_has : List Cond := .code yX11_has cX11_has 3 (some .long) :: (own_c_X11_has ++ (wp_c_isThere ++ (wsX110 ++ ([] : List Cond))))
set_option maxRecDepth 20000 in
theorem inown_c_X11_has : ∀ w ∈ own_c_X11_has, w ∈ lw_tbl := mem_places [1216, 1466, 1468, 54, 115, 1517] (by decide +kernel)
set_option maxRecDepth 20000 in
theorem in_c_X11_has : ∀ w ∈ wp_c_X11_has, w ∈ lw_tbl := List.forall_mem_cons.mpr ⟨List.mem_of_getElem? (i := 1534) (by decide +kernel), List.forall_mem_append.mpr ⟨inown_c_X11_has, List.forall_mem_append.mpr ⟨in_c_isThere, List.forall_mem_append.mpr ⟨lwb_X11, fun _ h => absurd h List.not_mem_nil⟩⟩⟩⟩
set_option maxRecDepth 20000 in
theorem good_c_X11_has : wp_c_X11_has.all goodWord = true := by decide +kernel
set_option maxRecDepth 20000 in
theorem g_c_X11_has_c_isThere_222 : GoodIn wp_c_X11_has (wsV RX11 222 RX11 yX11_isThere wp_c_isThere) := goodIn_sub (List.forall_mem_append.mpr ⟨List.forall_mem_cons.mpr ⟨(List.mem_of_getElem? (i := 2) rfl), List.forall_mem_cons.mpr ⟨(List.mem_of_getElem? (i := 3) rfl), List.forall_mem_cons.mpr ⟨(List.mem_of_getElem? (i := 4) rfl), List.forall_mem_cons.mpr ⟨(List.mem_of_getElem? (i := 5) rfl), fun _ h => absurd h List.not_mem_nil⟩⟩⟩⟩, (fun _ h => (List.mem_cons_of_mem _ (List.mem_append_right _ (List.mem_append_left _ h))))⟩) (by decide +kernel)
set_option maxHeartbeats 4000000 in
set_option maxRecDepth 100000 in
theorem c_X11_has (l : Launch) (D : va_G) (sz : Nat) (h0 : Nat) (a : Nat → Nat) (cN : ClassId) (tp : Int32) (sd : Int64) (pa : Int64) (pb : Int64) (dr : Int32) (z1 : Int32) (z2 : Int32)  : Met l yX11_has wp_c_X11_has ({ frames := 2, cells := 0, slots := 0, locals := 46 }) (PcW D [.ref h0, .int z1, .int z2] sz [(h0, .inr (11, fM a tp sd pa pb dr)), (a 3, .inl (cN, 85, .inr (.inl (fun _ => 0))))] [(cN, .long)]) (va_Ql (fun (r : Int64) (_ : Unit) => r = (-1000000000000000)) (fun (_ : Unit) _ => True) (va_A [(h0, .inr (11, fM a tp sd pa pb dr)), (a 3, .inl (cN, 85, .inr (.inl (fun _ => 0))))] sz)) 0 0 (va_A [(h0, .inr (11, fM a tp sd pa pb dr)), (a 3, .inl (cN, 85, .inr (.inl (fun _ => 0))))] sz) := by
  refine Met.ofW (cc := cX11_has) (maxL := 3) (ret := (some .long)) (by decide) rfl ?_
  intro p e s m args below meth c s₁ B hml hv
  obtain ⟨rfl, hsz, hP, hK, hD0⟩ := hv
  have hx := B.exec
  have hb := B.bytes
  have hr := B.returns
  have hts := atoms_spec (ws := wp_c_X11_has) B.pre
  have hin_X11 : ∀ w ∈ wsX110, w ∈ wp_c_X11_has := fun _ h => (List.mem_cons_of_mem _ (List.mem_append_right _ (List.mem_append_right _ (List.mem_append_left _ h))))
  have hown : s.vm.findClass RX11 = some m.cls := findClass_of_methodNamed B.named
  have hlocks := B.notSynchronized
  subst hsz
  have hD := hD0.self (sz := s.heap.size)
  generalize hAe : va_A [(h0, .inr (11, fM a tp sd pa pb dr)), (a 3, .inl (cN, 85, .inr (.inl (fun _ => 0))))] s.heap.size = A at hD ⊢
  have hA : ∀ q : Nat, s.heap.size ≤ q → A q := fun q h => by rw [← hAe]; exact Or.inr h
  have hS : va_S A s.heap s.heap [] := va_S.rf
  have hP : va_P D vwCl [(h0, .inr (11, fM a tp sd pa pb dr)), (a 3, .inl (cN, 85, .inr (.inl (fun _ => 0))))] s.heap := hP
  have hl := lv_entry ([.ref h0, .int z1, .int z2]) (n := 3) (Nat.le_of_ble_eq_true rfl)
  rw [lg_entry_eq]
  generalize (lg_sl ([.ref h0, .int z1, .int z2]) ++ List.replicate (3 - (lg_sl ([.ref h0, .int z1, .int z2])).length) Slot.unset).toArray = ls at hl ⊢
  have hl : lv_has ls 3 [(0, .ref h0), (1, .int z1), (2, .int z2)] := hl
  refine lv_aload_n hx hb dX11_has_0 rfl (lv_at hl 0 rfl) ?_
  refine lv_iconst (v := 0) hx hb dX11_has_1 (by decide) ?_
  refine va_put (D := D) (ci := 11) (v := .int 0) (ty := .int) (C := RX11) (T := TX11) (N := 47) hx hb hts hin_X11 tyX11 tyX11_ok nmX11 hown hK hP hD hS 0 rfl rfl 0 (by decide) (hts (.fieldLink RX11 73 "ClashFreeModel" "thrown" "I") (List.mem_of_getElem? (i := 1) rfl)) (fun _ h9 => h9) rfl (by decide +kernel) rfl rfl (Nat.le_of_ble_eq_true rfl) dX11_has_2 (fun H locs hP hD hS => ?_)
  have hP : va_P D vwCl [(h0, .inr (11, fM a tp sd pa pb dr)), (a 3, .inl (cN, 85, .inr (.inl (fun _ => 0))))] H := hP
  have hD : va_D A [(h0, .inr (11, fM a tp sd pa pb dr)), (a 3, .inl (cN, 85, .inr (.inl (fun _ => 0))))] := hD
  refine lv_aload_n hx hb dX11_has_5 rfl (lv_at hl 0 rfl) ?_
  refine lv_iload_n hx hb dX11_has_6 rfl (lv_at hl 1 rfl) ?_
  have hPc := hP.sub (ws' := [(h0, .inr (11, fM a tp sd pa pb dr)), (a 3, .inl (cN, 85, .inr (.inl (fun _ => 0))))]) [0, 1] rfl
  have hKc := hK.sub (tys' := [(cN, .long)]) [0] rfl
  have hFc := va_free0 hS hA
  refine va_calli (va_runV (As := [.int z1]) (rest := []) ⟨hx, hb, hml, hown, hts⟩ (c_isThere l D _ h0 a cN tp sd pa pb dr z1) (cwV 1 hts g_c_X11_has_c_isThere_222 rfl rfl rfl (by decide +kernel) ⟨(Nat.le_of_ble_eq_true rfl), (Nat.le_of_ble_eq_true rfl)⟩) (PcR_V (q0 := 0) hPc hKc rfl rfl) rfl rfl hl.1 rfl (lv_room (Nat.le_of_ble_eq_true rfl)) dX11_has_7 ⟨(Nat.le_of_ble_eq_true rfl), (Nat.le_of_ble_eq_true rfl)⟩) hS (fun q _ h => hFc q h) hFc (fun r1 uu tt H locs htt hvm hw hB hz1 hk1 hS => ?_)
  have hP := va_keep hP hk1
  try dsimp only at hw
  clear hB hz1 hk1 hFc hPc hKc
  obtain rfl : r1 = 0 := hw
  refine lv_if_ne (tgt := 17) hx hb dX11_has_10 (by decide) (fun hc => absurd (by decide) hc) (fun hc => ?_)
  refine lv_ldc2 (v := (-1000000000000000)) hx hb hown (hts (.constantLong RX11 235 (-1000000000000000)) (List.mem_of_getElem? (i := 6) rfl)) dX11_has_13 ?_
  exact W.lret (v := (-1000000000000000)) hx hb hr (fun t ht hW => ⟨⟨(-1000000000000000), (), rfl, rfl, trivial⟩, hS.F ht⟩) hS.2.2 dX11_has_16

def own_c_X11_bucket : List Cond := [.fieldLink RX11 73 "ClashFreeModel" "thrown" "I", .methodLink RX11 246 yX11_isBucket, .instanceMethod yX11_isBucket, .selects RX11 yX11_isBucket yX11_isBucket, .initialized RX11, .constantLong RX11 235 (-1000000000000000)]
def wp_c_X11_bucket : List Cond := .code yX11_bucket cX11_bucket 5 (some .long) :: (own_c_X11_bucket ++ (wp_c_isBucket ++ (wsX110 ++ ([] : List Cond))))
set_option maxRecDepth 20000 in
theorem inown_c_X11_bucket : ∀ w ∈ own_c_X11_bucket, w ∈ lw_tbl := mem_places [1216, 1541, 1543, 65, 115, 1517] (by decide +kernel)
set_option maxRecDepth 20000 in
theorem in_c_X11_bucket : ∀ w ∈ wp_c_X11_bucket, w ∈ lw_tbl := List.forall_mem_cons.mpr ⟨List.mem_of_getElem? (i := 1540) (by decide +kernel), List.forall_mem_append.mpr ⟨inown_c_X11_bucket, List.forall_mem_append.mpr ⟨in_c_isBucket, List.forall_mem_append.mpr ⟨lwb_X11, fun _ h => absurd h List.not_mem_nil⟩⟩⟩⟩
set_option maxRecDepth 20000 in
theorem good_c_X11_bucket : wp_c_X11_bucket.all goodWord = true := by decide +kernel
set_option maxRecDepth 20000 in
theorem g_c_X11_bucket_c_isBucket_246 : GoodIn wp_c_X11_bucket (wsV RX11 246 RX11 yX11_isBucket wp_c_isBucket) := goodIn_sub (List.forall_mem_append.mpr ⟨List.forall_mem_cons.mpr ⟨(List.mem_of_getElem? (i := 2) rfl), List.forall_mem_cons.mpr ⟨(List.mem_of_getElem? (i := 3) rfl), List.forall_mem_cons.mpr ⟨(List.mem_of_getElem? (i := 4) rfl), List.forall_mem_cons.mpr ⟨(List.mem_of_getElem? (i := 5) rfl), fun _ h => absurd h List.not_mem_nil⟩⟩⟩⟩, (fun _ h => (List.mem_cons_of_mem _ (List.mem_append_right _ (List.mem_append_left _ h))))⟩) (by decide +kernel)
set_option maxHeartbeats 4000000 in
set_option maxRecDepth 100000 in
theorem c_X11_bucket (l : Launch) (D : va_G) (sz : Nat) (h0 : Nat) (a : Nat → Nat) (cN : ClassId) (tp : Int32) (sd : Int64) (pa : Int64) (pb : Int64) (dr : Int32) (z1 : Int32) (z2 : Int32) (z3 : Int32)  : Met l yX11_bucket wp_c_X11_bucket ({ frames := 3, cells := 0, slots := 0, locals := 68 }) (PcW D [.ref h0, .int z1, .int z2, .int z3] sz [(h0, .inr (11, fM a tp sd pa pb dr)), (a 3, .inl (cN, 85, .inr (.inl (fun _ => 0))))] [(cN, .long)]) (va_Ql (fun (r : Int64) (_ : Unit) => r = (-1000000000000000)) (fun (_ : Unit) _ => True) (va_A [(h0, .inr (11, fM a tp sd pa pb dr)), (a 3, .inl (cN, 85, .inr (.inl (fun _ => 0))))] sz)) 0 0 (va_A [(h0, .inr (11, fM a tp sd pa pb dr)), (a 3, .inl (cN, 85, .inr (.inl (fun _ => 0))))] sz) := by
  refine Met.ofW (cc := cX11_bucket) (maxL := 5) (ret := (some .long)) (by decide) rfl ?_
  intro p e s m args below meth c s₁ B hml hv
  obtain ⟨rfl, hsz, hP, hK, hD0⟩ := hv
  have hx := B.exec
  have hb := B.bytes
  have hr := B.returns
  have hts := atoms_spec (ws := wp_c_X11_bucket) B.pre
  have hin_X11 : ∀ w ∈ wsX110, w ∈ wp_c_X11_bucket := fun _ h => (List.mem_cons_of_mem _ (List.mem_append_right _ (List.mem_append_right _ (List.mem_append_left _ h))))
  have hown : s.vm.findClass RX11 = some m.cls := findClass_of_methodNamed B.named
  have hlocks := B.notSynchronized
  subst hsz
  have hD := hD0.self (sz := s.heap.size)
  generalize hAe : va_A [(h0, .inr (11, fM a tp sd pa pb dr)), (a 3, .inl (cN, 85, .inr (.inl (fun _ => 0))))] s.heap.size = A at hD ⊢
  have hA : ∀ q : Nat, s.heap.size ≤ q → A q := fun q h => by rw [← hAe]; exact Or.inr h
  have hS : va_S A s.heap s.heap [] := va_S.rf
  have hP : va_P D vwCl [(h0, .inr (11, fM a tp sd pa pb dr)), (a 3, .inl (cN, 85, .inr (.inl (fun _ => 0))))] s.heap := hP
  have hl := lv_entry ([.ref h0, .int z1, .int z2, .int z3]) (n := 5) (Nat.le_of_ble_eq_true rfl)
  rw [lg_entry_eq]
  generalize (lg_sl ([.ref h0, .int z1, .int z2, .int z3]) ++ List.replicate (5 - (lg_sl ([.ref h0, .int z1, .int z2, .int z3])).length) Slot.unset).toArray = ls at hl ⊢
  have hl : lv_has ls 5 [(0, .ref h0), (1, .int z1), (2, .int z2), (3, .int z3)] := hl
  refine lv_aload_n hx hb dX11_bucket_0 rfl (lv_at hl 0 rfl) ?_
  refine lv_iconst (v := 0) hx hb dX11_bucket_1 (by decide) ?_
  refine va_put (D := D) (ci := 11) (v := .int 0) (ty := .int) (C := RX11) (T := TX11) (N := 47) hx hb hts hin_X11 tyX11 tyX11_ok nmX11 hown hK hP hD hS 0 rfl rfl 0 (by decide) (hts (.fieldLink RX11 73 "ClashFreeModel" "thrown" "I") (List.mem_of_getElem? (i := 1) rfl)) (fun _ h9 => h9) rfl (by decide +kernel) rfl rfl (Nat.le_of_ble_eq_true rfl) dX11_bucket_2 (fun H locs hP hD hS => ?_)
  have hP : va_P D vwCl [(h0, .inr (11, fM a tp sd pa pb dr)), (a 3, .inl (cN, 85, .inr (.inl (fun _ => 0))))] H := hP
  have hD : va_D A [(h0, .inr (11, fM a tp sd pa pb dr)), (a 3, .inl (cN, 85, .inr (.inl (fun _ => 0))))] := hD
  refine lv_aload_n hx hb dX11_bucket_5 rfl (lv_at hl 0 rfl) ?_
  refine lv_iload_n hx hb dX11_bucket_6 rfl (lv_at hl 1 rfl) ?_
  refine lv_iload_n hx hb dX11_bucket_7 rfl (lv_at hl 2 rfl) ?_
  have hPc := hP.sub (ws' := [(h0, .inr (11, fM a tp sd pa pb dr)), (a 3, .inl (cN, 85, .inr (.inl (fun _ => 0))))]) [0, 1] rfl
  have hKc := hK.sub (tys' := [(cN, .long)]) [0] rfl
  have hFc := va_free0 hS hA
  refine va_calli (va_runV (As := [.int z1, .int z2]) (rest := []) ⟨hx, hb, hml, hown, hts⟩ (c_isBucket l D _ h0 a cN tp sd pa pb dr z1 z2) (cwV 2 hts g_c_X11_bucket_c_isBucket_246 rfl rfl rfl (by decide +kernel) ⟨(Nat.le_of_ble_eq_true rfl), (Nat.le_of_ble_eq_true rfl)⟩) (PcR_V (q0 := 0) hPc hKc rfl rfl) rfl rfl hl.1 rfl (lv_room (Nat.le_of_ble_eq_true rfl)) dX11_bucket_8 ⟨(Nat.le_of_ble_eq_true rfl), (Nat.le_of_ble_eq_true rfl)⟩) hS (fun q _ h => hFc q h) hFc (fun r1 uu tt H locs htt hvm hw hB hz1 hk1 hS => ?_)
  have hP := va_keep hP hk1
  try dsimp only at hw
  clear hB hz1 hk1 hFc hPc hKc
  obtain rfl : r1 = 0 := hw
  refine lv_if_ne (tgt := 18) hx hb dX11_bucket_11 (by decide) (fun hc => absurd (by decide) hc) (fun hc => ?_)
  refine lv_ldc2 (v := (-1000000000000000)) hx hb hown (hts (.constantLong RX11 235 (-1000000000000000)) (List.mem_of_getElem? (i := 6) rfl)) dX11_bucket_14 ?_
  exact W.lret (v := (-1000000000000000)) hx hb hr (fun t ht hW => ⟨⟨(-1000000000000000), (), rfl, rfl, trivial⟩, hS.F ht⟩) hS.2.2 dX11_bucket_17

def own_c_X11_room : List Cond := [.fieldLink RX11 73 "ClashFreeModel" "thrown" "I", .methodLink RX11 246 yX11_isBucket, .instanceMethod yX11_isBucket, .selects RX11 yX11_isBucket yX11_isBucket, .initialized RX11]
def wp_c_X11_room : List Cond := .code yX11_room cX11_room 5 (some .int) :: (own_c_X11_room ++ (wp_c_isBucket ++ (wsX110 ++ ([] : List Cond))))
set_option maxRecDepth 20000 in
theorem inown_c_X11_room : ∀ w ∈ own_c_X11_room, w ∈ lw_tbl := mem_places [1216, 1541, 1543, 65, 115] (by decide +kernel)
set_option maxRecDepth 20000 in
theorem in_c_X11_room : ∀ w ∈ wp_c_X11_room, w ∈ lw_tbl := List.forall_mem_cons.mpr ⟨List.mem_of_getElem? (i := 1548) (by decide +kernel), List.forall_mem_append.mpr ⟨inown_c_X11_room, List.forall_mem_append.mpr ⟨in_c_isBucket, List.forall_mem_append.mpr ⟨lwb_X11, fun _ h => absurd h List.not_mem_nil⟩⟩⟩⟩
set_option maxRecDepth 20000 in
theorem good_c_X11_room : wp_c_X11_room.all goodWord = true := by decide +kernel
set_option maxRecDepth 20000 in
theorem g_c_X11_room_c_isBucket_246 : GoodIn wp_c_X11_room (wsV RX11 246 RX11 yX11_isBucket wp_c_isBucket) := goodIn_sub (List.forall_mem_append.mpr ⟨List.forall_mem_cons.mpr ⟨(List.mem_of_getElem? (i := 2) rfl), List.forall_mem_cons.mpr ⟨(List.mem_of_getElem? (i := 3) rfl), List.forall_mem_cons.mpr ⟨(List.mem_of_getElem? (i := 4) rfl), List.forall_mem_cons.mpr ⟨(List.mem_of_getElem? (i := 5) rfl), fun _ h => absurd h List.not_mem_nil⟩⟩⟩⟩, (fun _ h => (List.mem_cons_of_mem _ (List.mem_append_right _ (List.mem_append_left _ h))))⟩) (by decide +kernel)
set_option maxHeartbeats 4000000 in
set_option maxRecDepth 100000 in
theorem c_X11_room (l : Launch) (D : va_G) (sz : Nat) (h0 : Nat) (a : Nat → Nat) (cN : ClassId) (tp : Int32) (sd : Int64) (pa : Int64) (pb : Int64) (dr : Int32) (z1 : Int32) (z2 : Int32) (z3 : Int32)  : Met l yX11_room wp_c_X11_room ({ frames := 3, cells := 0, slots := 0, locals := 68 }) (PcW D [.ref h0, .int z1, .int z2, .int z3] sz [(h0, .inr (11, fM a tp sd pa pb dr)), (a 3, .inl (cN, 85, .inr (.inl (fun _ => 0))))] [(cN, .long)]) (va_Qi (fun (r : Int32) (_ : Unit) => r = (-2)) (fun (_ : Unit) _ => True) (va_A [(h0, .inr (11, fM a tp sd pa pb dr)), (a 3, .inl (cN, 85, .inr (.inl (fun _ => 0))))] sz)) 0 0 (va_A [(h0, .inr (11, fM a tp sd pa pb dr)), (a 3, .inl (cN, 85, .inr (.inl (fun _ => 0))))] sz) := by
  refine Met.ofW (cc := cX11_room) (maxL := 5) (ret := (some .int)) (by decide) rfl ?_
  intro p e s m args below meth c s₁ B hml hv
  obtain ⟨rfl, hsz, hP, hK, hD0⟩ := hv
  have hx := B.exec
  have hb := B.bytes
  have hr := B.returns
  have hts := atoms_spec (ws := wp_c_X11_room) B.pre
  have hin_X11 : ∀ w ∈ wsX110, w ∈ wp_c_X11_room := fun _ h => (List.mem_cons_of_mem _ (List.mem_append_right _ (List.mem_append_right _ (List.mem_append_left _ h))))
  have hown : s.vm.findClass RX11 = some m.cls := findClass_of_methodNamed B.named
  have hlocks := B.notSynchronized
  subst hsz
  have hD := hD0.self (sz := s.heap.size)
  generalize hAe : va_A [(h0, .inr (11, fM a tp sd pa pb dr)), (a 3, .inl (cN, 85, .inr (.inl (fun _ => 0))))] s.heap.size = A at hD ⊢
  have hA : ∀ q : Nat, s.heap.size ≤ q → A q := fun q h => by rw [← hAe]; exact Or.inr h
  have hS : va_S A s.heap s.heap [] := va_S.rf
  have hP : va_P D vwCl [(h0, .inr (11, fM a tp sd pa pb dr)), (a 3, .inl (cN, 85, .inr (.inl (fun _ => 0))))] s.heap := hP
  have hl := lv_entry ([.ref h0, .int z1, .int z2, .int z3]) (n := 5) (Nat.le_of_ble_eq_true rfl)
  rw [lg_entry_eq]
  generalize (lg_sl ([.ref h0, .int z1, .int z2, .int z3]) ++ List.replicate (5 - (lg_sl ([.ref h0, .int z1, .int z2, .int z3])).length) Slot.unset).toArray = ls at hl ⊢
  have hl : lv_has ls 5 [(0, .ref h0), (1, .int z1), (2, .int z2), (3, .int z3)] := hl
  refine lv_aload_n hx hb dX11_room_0 rfl (lv_at hl 0 rfl) ?_
  refine lv_iconst (v := 0) hx hb dX11_room_1 (by decide) ?_
  refine va_put (D := D) (ci := 11) (v := .int 0) (ty := .int) (C := RX11) (T := TX11) (N := 47) hx hb hts hin_X11 tyX11 tyX11_ok nmX11 hown hK hP hD hS 0 rfl rfl 0 (by decide) (hts (.fieldLink RX11 73 "ClashFreeModel" "thrown" "I") (List.mem_of_getElem? (i := 1) rfl)) (fun _ h9 => h9) rfl (by decide +kernel) rfl rfl (Nat.le_of_ble_eq_true rfl) dX11_room_2 (fun H locs hP hD hS => ?_)
  have hP : va_P D vwCl [(h0, .inr (11, fM a tp sd pa pb dr)), (a 3, .inl (cN, 85, .inr (.inl (fun _ => 0))))] H := hP
  have hD : va_D A [(h0, .inr (11, fM a tp sd pa pb dr)), (a 3, .inl (cN, 85, .inr (.inl (fun _ => 0))))] := hD
  refine lv_aload_n hx hb dX11_room_5 rfl (lv_at hl 0 rfl) ?_
  refine lv_iload_n hx hb dX11_room_6 rfl (lv_at hl 1 rfl) ?_
  refine lv_iload_n hx hb dX11_room_7 rfl (lv_at hl 2 rfl) ?_
  have hPc := hP.sub (ws' := [(h0, .inr (11, fM a tp sd pa pb dr)), (a 3, .inl (cN, 85, .inr (.inl (fun _ => 0))))]) [0, 1] rfl
  have hKc := hK.sub (tys' := [(cN, .long)]) [0] rfl
  have hFc := va_free0 hS hA
  refine va_calli (va_runV (As := [.int z1, .int z2]) (rest := []) ⟨hx, hb, hml, hown, hts⟩ (c_isBucket l D _ h0 a cN tp sd pa pb dr z1 z2) (cwV 2 hts g_c_X11_room_c_isBucket_246 rfl rfl rfl (by decide +kernel) ⟨(Nat.le_of_ble_eq_true rfl), (Nat.le_of_ble_eq_true rfl)⟩) (PcR_V (q0 := 0) hPc hKc rfl rfl) rfl rfl hl.1 rfl (lv_room (Nat.le_of_ble_eq_true rfl)) dX11_room_8 ⟨(Nat.le_of_ble_eq_true rfl), (Nat.le_of_ble_eq_true rfl)⟩) hS (fun q _ h => hFc q h) hFc (fun r1 uu tt H locs htt hvm hw hB hz1 hk1 hS => ?_)
  have hP := va_keep hP hk1
  try dsimp only at hw
  clear hB hz1 hk1 hFc hPc hKc
  obtain rfl : r1 = 0 := hw
  refine lv_if_eq (tgt := 32) hx hb dX11_room_11 (by decide) (fun hc => ?_) (fun hc => absurd (by decide) hc)
  refine lv_bipush (v := (-2)) hx hb dX11_room_32 (by decide) ?_
  exact W.iret (v := (-2)) hx hb hr (fun t ht hW => ⟨⟨(-2), (), rfl, rfl, trivial⟩, hS.F ht⟩) hS.2.2 dX11_room_34

def own_c_X11_place : List Cond := [.fieldLink RX11 73 "ClashFreeModel" "thrown" "I", .methodLink RX11 222 yX11_isThere, .instanceMethod yX11_isThere, .selects RX11 yX11_isThere yX11_isThere, .initialized RX11]
def wp_c_X11_place : List Cond := .code yX11_place cX11_place 5 (some .int) :: (own_c_X11_place ++ (wp_c_isThere ++ (wsX110 ++ ([] : List Cond))))
set_option maxRecDepth 20000 in
theorem inown_c_X11_place : ∀ w ∈ own_c_X11_place, w ∈ lw_tbl := mem_places [1216, 1466, 1468, 54, 115] (by decide +kernel)
set_option maxRecDepth 20000 in
theorem in_c_X11_place : ∀ w ∈ wp_c_X11_place, w ∈ lw_tbl := List.forall_mem_cons.mpr ⟨List.mem_of_getElem? (i := 1552) (by decide +kernel), List.forall_mem_append.mpr ⟨inown_c_X11_place, List.forall_mem_append.mpr ⟨in_c_isThere, List.forall_mem_append.mpr ⟨lwb_X11, fun _ h => absurd h List.not_mem_nil⟩⟩⟩⟩
set_option maxRecDepth 20000 in
theorem good_c_X11_place : wp_c_X11_place.all goodWord = true := by decide +kernel
set_option maxRecDepth 20000 in
theorem g_c_X11_place_c_isThere_222 : GoodIn wp_c_X11_place (wsV RX11 222 RX11 yX11_isThere wp_c_isThere) := goodIn_sub (List.forall_mem_append.mpr ⟨List.forall_mem_cons.mpr ⟨(List.mem_of_getElem? (i := 2) rfl), List.forall_mem_cons.mpr ⟨(List.mem_of_getElem? (i := 3) rfl), List.forall_mem_cons.mpr ⟨(List.mem_of_getElem? (i := 4) rfl), List.forall_mem_cons.mpr ⟨(List.mem_of_getElem? (i := 5) rfl), fun _ h => absurd h List.not_mem_nil⟩⟩⟩⟩, (fun _ h => (List.mem_cons_of_mem _ (List.mem_append_right _ (List.mem_append_left _ h))))⟩) (by decide +kernel)
set_option maxHeartbeats 4000000 in
set_option maxRecDepth 100000 in
theorem c_X11_place (l : Launch) (D : va_G) (sz : Nat) (h0 : Nat) (a : Nat → Nat) (cN : ClassId) (tp : Int32) (sd : Int64) (pa : Int64) (pb : Int64) (dr : Int32) (z1 : Int32) (z2 : Int32) (z3 : Int32)  : Met l yX11_place wp_c_X11_place ({ frames := 2, cells := 0, slots := 0, locals := 46 }) (PcW D [.ref h0, .int z1, .int z2, .int z3] sz [(h0, .inr (11, fM a tp sd pa pb dr)), (a 3, .inl (cN, 85, .inr (.inl (fun _ => 0))))] [(cN, .long)]) (va_Qi (fun (r : Int32) (_ : Unit) => r = (-2)) (fun (_ : Unit) _ => True) (va_A [(h0, .inr (11, fM a tp sd pa pb dr)), (a 3, .inl (cN, 85, .inr (.inl (fun _ => 0))))] sz)) 0 0 (va_A [(h0, .inr (11, fM a tp sd pa pb dr)), (a 3, .inl (cN, 85, .inr (.inl (fun _ => 0))))] sz) := by
  refine Met.ofW (cc := cX11_place) (maxL := 5) (ret := (some .int)) (by decide) rfl ?_
  intro p e s m args below meth c s₁ B hml hv
  obtain ⟨rfl, hsz, hP, hK, hD0⟩ := hv
  have hx := B.exec
  have hb := B.bytes
  have hr := B.returns
  have hts := atoms_spec (ws := wp_c_X11_place) B.pre
  have hin_X11 : ∀ w ∈ wsX110, w ∈ wp_c_X11_place := fun _ h => (List.mem_cons_of_mem _ (List.mem_append_right _ (List.mem_append_right _ (List.mem_append_left _ h))))
  have hown : s.vm.findClass RX11 = some m.cls := findClass_of_methodNamed B.named
  have hlocks := B.notSynchronized
  subst hsz
  have hD := hD0.self (sz := s.heap.size)
  generalize hAe : va_A [(h0, .inr (11, fM a tp sd pa pb dr)), (a 3, .inl (cN, 85, .inr (.inl (fun _ => 0))))] s.heap.size = A at hD ⊢
  have hA : ∀ q : Nat, s.heap.size ≤ q → A q := fun q h => by rw [← hAe]; exact Or.inr h
  have hS : va_S A s.heap s.heap [] := va_S.rf
  have hP : va_P D vwCl [(h0, .inr (11, fM a tp sd pa pb dr)), (a 3, .inl (cN, 85, .inr (.inl (fun _ => 0))))] s.heap := hP
  have hl := lv_entry ([.ref h0, .int z1, .int z2, .int z3]) (n := 5) (Nat.le_of_ble_eq_true rfl)
  rw [lg_entry_eq]
  generalize (lg_sl ([.ref h0, .int z1, .int z2, .int z3]) ++ List.replicate (5 - (lg_sl ([.ref h0, .int z1, .int z2, .int z3])).length) Slot.unset).toArray = ls at hl ⊢
  have hl : lv_has ls 5 [(0, .ref h0), (1, .int z1), (2, .int z2), (3, .int z3)] := hl
  refine lv_aload_n hx hb dX11_place_0 rfl (lv_at hl 0 rfl) ?_
  refine lv_iconst (v := 0) hx hb dX11_place_1 (by decide) ?_
  refine va_put (D := D) (ci := 11) (v := .int 0) (ty := .int) (C := RX11) (T := TX11) (N := 47) hx hb hts hin_X11 tyX11 tyX11_ok nmX11 hown hK hP hD hS 0 rfl rfl 0 (by decide) (hts (.fieldLink RX11 73 "ClashFreeModel" "thrown" "I") (List.mem_of_getElem? (i := 1) rfl)) (fun _ h9 => h9) rfl (by decide +kernel) rfl rfl (Nat.le_of_ble_eq_true rfl) dX11_place_2 (fun H locs hP hD hS => ?_)
  have hP : va_P D vwCl [(h0, .inr (11, fM a tp sd pa pb dr)), (a 3, .inl (cN, 85, .inr (.inl (fun _ => 0))))] H := hP
  have hD : va_D A [(h0, .inr (11, fM a tp sd pa pb dr)), (a 3, .inl (cN, 85, .inr (.inl (fun _ => 0))))] := hD
  refine lv_aload_n hx hb dX11_place_5 rfl (lv_at hl 0 rfl) ?_
  refine lv_iload_n hx hb dX11_place_6 rfl (lv_at hl 1 rfl) ?_
  have hPc := hP.sub (ws' := [(h0, .inr (11, fM a tp sd pa pb dr)), (a 3, .inl (cN, 85, .inr (.inl (fun _ => 0))))]) [0, 1] rfl
  have hKc := hK.sub (tys' := [(cN, .long)]) [0] rfl
  have hFc := va_free0 hS hA
  refine va_calli (va_runV (As := [.int z1]) (rest := []) ⟨hx, hb, hml, hown, hts⟩ (c_isThere l D _ h0 a cN tp sd pa pb dr z1) (cwV 1 hts g_c_X11_place_c_isThere_222 rfl rfl rfl (by decide +kernel) ⟨(Nat.le_of_ble_eq_true rfl), (Nat.le_of_ble_eq_true rfl)⟩) (PcR_V (q0 := 0) hPc hKc rfl rfl) rfl rfl hl.1 rfl (lv_room (Nat.le_of_ble_eq_true rfl)) dX11_place_7 ⟨(Nat.le_of_ble_eq_true rfl), (Nat.le_of_ble_eq_true rfl)⟩) hS (fun q _ h => hFc q h) hFc (fun r1 uu tt H locs htt hvm hw hB hz1 hk1 hS => ?_)
  have hP := va_keep hP hk1
  try dsimp only at hw
  clear hB hz1 hk1 hFc hPc hKc
  obtain rfl : r1 = 0 := hw
  refine lv_if_eq (tgt := 30) hx hb dX11_place_10 (by decide) (fun hc => ?_) (fun hc => absurd (by decide) hc)
  refine lv_bipush (v := (-2)) hx hb dX11_place_30 (by decide) ?_
  exact W.iret (v := (-2)) hx hb hr (fun t ht hW => ⟨⟨(-2), (), rfl, rfl, trivial⟩, hS.F ht⟩) hS.2.2 dX11_place_32

def own_c_X11_key : List Cond := [.fieldLink RX11 73 "ClashFreeModel" "thrown" "I", .methodLink RX11 222 yX11_isThere, .instanceMethod yX11_isThere, .selects RX11 yX11_isThere yX11_isThere, .initialized RX11]
def wp_c_X11_key : List Cond := .code yX11_key cX11_key 3 (some .int) :: (own_c_X11_key ++ (wp_c_isThere ++ (wsX110 ++ ([] : List Cond))))
set_option maxRecDepth 20000 in
theorem inown_c_X11_key : ∀ w ∈ own_c_X11_key, w ∈ lw_tbl := mem_places [1216, 1466, 1468, 54, 115] (by decide +kernel)
set_option maxRecDepth 20000 in
theorem in_c_X11_key : ∀ w ∈ wp_c_X11_key, w ∈ lw_tbl := List.forall_mem_cons.mpr ⟨List.mem_of_getElem? (i := 1556) (by decide +kernel), List.forall_mem_append.mpr ⟨inown_c_X11_key, List.forall_mem_append.mpr ⟨in_c_isThere, List.forall_mem_append.mpr ⟨lwb_X11, fun _ h => absurd h List.not_mem_nil⟩⟩⟩⟩
set_option maxRecDepth 20000 in
theorem good_c_X11_key : wp_c_X11_key.all goodWord = true := by decide +kernel
set_option maxRecDepth 20000 in
theorem g_c_X11_key_c_isThere_222 : GoodIn wp_c_X11_key (wsV RX11 222 RX11 yX11_isThere wp_c_isThere) := goodIn_sub (List.forall_mem_append.mpr ⟨List.forall_mem_cons.mpr ⟨(List.mem_of_getElem? (i := 2) rfl), List.forall_mem_cons.mpr ⟨(List.mem_of_getElem? (i := 3) rfl), List.forall_mem_cons.mpr ⟨(List.mem_of_getElem? (i := 4) rfl), List.forall_mem_cons.mpr ⟨(List.mem_of_getElem? (i := 5) rfl), fun _ h => absurd h List.not_mem_nil⟩⟩⟩⟩, (fun _ h => (List.mem_cons_of_mem _ (List.mem_append_right _ (List.mem_append_left _ h))))⟩) (by decide +kernel)
set_option maxHeartbeats 4000000 in
set_option maxRecDepth 100000 in
theorem c_X11_key (l : Launch) (D : va_G) (sz : Nat) (h0 : Nat) (a : Nat → Nat) (cN : ClassId) (tp : Int32) (sd : Int64) (pa : Int64) (pb : Int64) (dr : Int32) (z1 : Int32) (z2 : Int32)  : Met l yX11_key wp_c_X11_key ({ frames := 2, cells := 0, slots := 0, locals := 46 }) (PcW D [.ref h0, .int z1, .int z2] sz [(h0, .inr (11, fM a tp sd pa pb dr)), (a 3, .inl (cN, 85, .inr (.inl (fun _ => 0))))] [(cN, .long)]) (va_Qi (fun (r : Int32) (_ : Unit) => r = (-1)) (fun (_ : Unit) _ => True) (va_A [(h0, .inr (11, fM a tp sd pa pb dr)), (a 3, .inl (cN, 85, .inr (.inl (fun _ => 0))))] sz)) 0 0 (va_A [(h0, .inr (11, fM a tp sd pa pb dr)), (a 3, .inl (cN, 85, .inr (.inl (fun _ => 0))))] sz) := by
  refine Met.ofW (cc := cX11_key) (maxL := 3) (ret := (some .int)) (by decide) rfl ?_
  intro p e s m args below meth c s₁ B hml hv
  obtain ⟨rfl, hsz, hP, hK, hD0⟩ := hv
  have hx := B.exec
  have hb := B.bytes
  have hr := B.returns
  have hts := atoms_spec (ws := wp_c_X11_key) B.pre
  have hin_X11 : ∀ w ∈ wsX110, w ∈ wp_c_X11_key := fun _ h => (List.mem_cons_of_mem _ (List.mem_append_right _ (List.mem_append_right _ (List.mem_append_left _ h))))
  have hown : s.vm.findClass RX11 = some m.cls := findClass_of_methodNamed B.named
  have hlocks := B.notSynchronized
  subst hsz
  have hD := hD0.self (sz := s.heap.size)
  generalize hAe : va_A [(h0, .inr (11, fM a tp sd pa pb dr)), (a 3, .inl (cN, 85, .inr (.inl (fun _ => 0))))] s.heap.size = A at hD ⊢
  have hA : ∀ q : Nat, s.heap.size ≤ q → A q := fun q h => by rw [← hAe]; exact Or.inr h
  have hS : va_S A s.heap s.heap [] := va_S.rf
  have hP : va_P D vwCl [(h0, .inr (11, fM a tp sd pa pb dr)), (a 3, .inl (cN, 85, .inr (.inl (fun _ => 0))))] s.heap := hP
  have hl := lv_entry ([.ref h0, .int z1, .int z2]) (n := 3) (Nat.le_of_ble_eq_true rfl)
  rw [lg_entry_eq]
  generalize (lg_sl ([.ref h0, .int z1, .int z2]) ++ List.replicate (3 - (lg_sl ([.ref h0, .int z1, .int z2])).length) Slot.unset).toArray = ls at hl ⊢
  have hl : lv_has ls 3 [(0, .ref h0), (1, .int z1), (2, .int z2)] := hl
  refine lv_aload_n hx hb dX11_key_0 rfl (lv_at hl 0 rfl) ?_
  refine lv_iconst (v := 0) hx hb dX11_key_1 (by decide) ?_
  refine va_put (D := D) (ci := 11) (v := .int 0) (ty := .int) (C := RX11) (T := TX11) (N := 47) hx hb hts hin_X11 tyX11 tyX11_ok nmX11 hown hK hP hD hS 0 rfl rfl 0 (by decide) (hts (.fieldLink RX11 73 "ClashFreeModel" "thrown" "I") (List.mem_of_getElem? (i := 1) rfl)) (fun _ h9 => h9) rfl (by decide +kernel) rfl rfl (Nat.le_of_ble_eq_true rfl) dX11_key_2 (fun H locs hP hD hS => ?_)
  have hP : va_P D vwCl [(h0, .inr (11, fM a tp sd pa pb dr)), (a 3, .inl (cN, 85, .inr (.inl (fun _ => 0))))] H := hP
  have hD : va_D A [(h0, .inr (11, fM a tp sd pa pb dr)), (a 3, .inl (cN, 85, .inr (.inl (fun _ => 0))))] := hD
  refine lv_aload_n hx hb dX11_key_5 rfl (lv_at hl 0 rfl) ?_
  refine lv_iload_n hx hb dX11_key_6 rfl (lv_at hl 1 rfl) ?_
  have hPc := hP.sub (ws' := [(h0, .inr (11, fM a tp sd pa pb dr)), (a 3, .inl (cN, 85, .inr (.inl (fun _ => 0))))]) [0, 1] rfl
  have hKc := hK.sub (tys' := [(cN, .long)]) [0] rfl
  have hFc := va_free0 hS hA
  refine va_calli (va_runV (As := [.int z1]) (rest := []) ⟨hx, hb, hml, hown, hts⟩ (c_isThere l D _ h0 a cN tp sd pa pb dr z1) (cwV 1 hts g_c_X11_key_c_isThere_222 rfl rfl rfl (by decide +kernel) ⟨(Nat.le_of_ble_eq_true rfl), (Nat.le_of_ble_eq_true rfl)⟩) (PcR_V (q0 := 0) hPc hKc rfl rfl) rfl rfl hl.1 rfl (lv_room (Nat.le_of_ble_eq_true rfl)) dX11_key_7 ⟨(Nat.le_of_ble_eq_true rfl), (Nat.le_of_ble_eq_true rfl)⟩) hS (fun q _ h => hFc q h) hFc (fun r1 uu tt H locs htt hvm hw hB hz1 hk1 hS => ?_)
  have hP := va_keep hP hk1
  try dsimp only at hw
  clear hB hz1 hk1 hFc hPc hKc
  obtain rfl : r1 = 0 := hw
  refine lv_if_eq (tgt := 45) hx hb dX11_key_10 (by decide) (fun hc => ?_) (fun hc => absurd (by decide) hc)
  refine lv_iconst (v := (-1)) hx hb dX11_key_45 (by decide) ?_
  exact W.iret (v := (-1)) hx hb hr (fun t ht hW => ⟨⟨(-1), (), rfl, rfl, trivial⟩, hS.F ht⟩) hS.2.2 dX11_key_46

def own_c_X11_walk : List Cond := [.fieldLink RX11 73 "ClashFreeModel" "thrown" "I", .methodLink RX11 222 yX11_isThere, .instanceMethod yX11_isThere, .selects RX11 yX11_isThere yX11_isThere, .initialized RX11]
def wp_c_X11_walk : List Cond := .code yX11_walk cX11_walk 4 (some .int) :: (own_c_X11_walk ++ (wp_c_isThere ++ (wsX110 ++ ([] : List Cond))))
set_option maxRecDepth 20000 in
theorem inown_c_X11_walk : ∀ w ∈ own_c_X11_walk, w ∈ lw_tbl := mem_places [1216, 1466, 1468, 54, 115] (by decide +kernel)
set_option maxRecDepth 20000 in
theorem in_c_X11_walk : ∀ w ∈ wp_c_X11_walk, w ∈ lw_tbl := List.forall_mem_cons.mpr ⟨List.mem_of_getElem? (i := 1560) (by decide +kernel), List.forall_mem_append.mpr ⟨inown_c_X11_walk, List.forall_mem_append.mpr ⟨in_c_isThere, List.forall_mem_append.mpr ⟨lwb_X11, fun _ h => absurd h List.not_mem_nil⟩⟩⟩⟩
set_option maxRecDepth 20000 in
theorem good_c_X11_walk : wp_c_X11_walk.all goodWord = true := by decide +kernel
set_option maxRecDepth 20000 in
theorem g_c_X11_walk_c_isThere_222 : GoodIn wp_c_X11_walk (wsV RX11 222 RX11 yX11_isThere wp_c_isThere) := goodIn_sub (List.forall_mem_append.mpr ⟨List.forall_mem_cons.mpr ⟨(List.mem_of_getElem? (i := 2) rfl), List.forall_mem_cons.mpr ⟨(List.mem_of_getElem? (i := 3) rfl), List.forall_mem_cons.mpr ⟨(List.mem_of_getElem? (i := 4) rfl), List.forall_mem_cons.mpr ⟨(List.mem_of_getElem? (i := 5) rfl), fun _ h => absurd h List.not_mem_nil⟩⟩⟩⟩, (fun _ h => (List.mem_cons_of_mem _ (List.mem_append_right _ (List.mem_append_left _ h))))⟩) (by decide +kernel)
set_option maxHeartbeats 4000000 in
set_option maxRecDepth 100000 in
theorem c_X11_walk (l : Launch) (D : va_G) (sz : Nat) (h0 : Nat) (a : Nat → Nat) (cN : ClassId) (tp : Int32) (sd : Int64) (pa : Int64) (pb : Int64) (dr : Int32) (z1 : Int32) (z2 : Int32)  : Met l yX11_walk wp_c_X11_walk ({ frames := 2, cells := 0, slots := 0, locals := 46 }) (PcW D [.ref h0, .int z1, .int z2] sz [(h0, .inr (11, fM a tp sd pa pb dr)), (a 3, .inl (cN, 85, .inr (.inl (fun _ => 0))))] [(cN, .long)]) (va_Qi (fun (r : Int32) (_ : Unit) => r = (-1)) (fun (_ : Unit) _ => True) (va_A [(h0, .inr (11, fM a tp sd pa pb dr)), (a 3, .inl (cN, 85, .inr (.inl (fun _ => 0))))] sz)) 0 0 (va_A [(h0, .inr (11, fM a tp sd pa pb dr)), (a 3, .inl (cN, 85, .inr (.inl (fun _ => 0))))] sz) := by
  refine Met.ofW (cc := cX11_walk) (maxL := 4) (ret := (some .int)) (by decide) rfl ?_
  intro p e s m args below meth c s₁ B hml hv
  obtain ⟨rfl, hsz, hP, hK, hD0⟩ := hv
  have hx := B.exec
  have hb := B.bytes
  have hr := B.returns
  have hts := atoms_spec (ws := wp_c_X11_walk) B.pre
  have hin_X11 : ∀ w ∈ wsX110, w ∈ wp_c_X11_walk := fun _ h => (List.mem_cons_of_mem _ (List.mem_append_right _ (List.mem_append_right _ (List.mem_append_left _ h))))
  have hown : s.vm.findClass RX11 = some m.cls := findClass_of_methodNamed B.named
  have hlocks := B.notSynchronized
  subst hsz
  have hD := hD0.self (sz := s.heap.size)
  generalize hAe : va_A [(h0, .inr (11, fM a tp sd pa pb dr)), (a 3, .inl (cN, 85, .inr (.inl (fun _ => 0))))] s.heap.size = A at hD ⊢
  have hA : ∀ q : Nat, s.heap.size ≤ q → A q := fun q h => by rw [← hAe]; exact Or.inr h
  have hS : va_S A s.heap s.heap [] := va_S.rf
  have hP : va_P D vwCl [(h0, .inr (11, fM a tp sd pa pb dr)), (a 3, .inl (cN, 85, .inr (.inl (fun _ => 0))))] s.heap := hP
  have hl := lv_entry ([.ref h0, .int z1, .int z2]) (n := 4) (Nat.le_of_ble_eq_true rfl)
  rw [lg_entry_eq]
  generalize (lg_sl ([.ref h0, .int z1, .int z2]) ++ List.replicate (4 - (lg_sl ([.ref h0, .int z1, .int z2])).length) Slot.unset).toArray = ls at hl ⊢
  have hl : lv_has ls 4 [(0, .ref h0), (1, .int z1), (2, .int z2)] := hl
  refine lv_aload_n hx hb dX11_walk_0 rfl (lv_at hl 0 rfl) ?_
  refine lv_iconst (v := 0) hx hb dX11_walk_1 (by decide) ?_
  refine va_put (D := D) (ci := 11) (v := .int 0) (ty := .int) (C := RX11) (T := TX11) (N := 47) hx hb hts hin_X11 tyX11 tyX11_ok nmX11 hown hK hP hD hS 0 rfl rfl 0 (by decide) (hts (.fieldLink RX11 73 "ClashFreeModel" "thrown" "I") (List.mem_of_getElem? (i := 1) rfl)) (fun _ h9 => h9) rfl (by decide +kernel) rfl rfl (Nat.le_of_ble_eq_true rfl) dX11_walk_2 (fun H locs hP hD hS => ?_)
  have hP : va_P D vwCl [(h0, .inr (11, fM a tp sd pa pb dr)), (a 3, .inl (cN, 85, .inr (.inl (fun _ => 0))))] H := hP
  have hD : va_D A [(h0, .inr (11, fM a tp sd pa pb dr)), (a 3, .inl (cN, 85, .inr (.inl (fun _ => 0))))] := hD
  refine lv_aload_n hx hb dX11_walk_5 rfl (lv_at hl 0 rfl) ?_
  refine lv_iload_n hx hb dX11_walk_6 rfl (lv_at hl 1 rfl) ?_
  have hPc := hP.sub (ws' := [(h0, .inr (11, fM a tp sd pa pb dr)), (a 3, .inl (cN, 85, .inr (.inl (fun _ => 0))))]) [0, 1] rfl
  have hKc := hK.sub (tys' := [(cN, .long)]) [0] rfl
  have hFc := va_free0 hS hA
  refine va_calli (va_runV (As := [.int z1]) (rest := []) ⟨hx, hb, hml, hown, hts⟩ (c_isThere l D _ h0 a cN tp sd pa pb dr z1) (cwV 1 hts g_c_X11_walk_c_isThere_222 rfl rfl rfl (by decide +kernel) ⟨(Nat.le_of_ble_eq_true rfl), (Nat.le_of_ble_eq_true rfl)⟩) (PcR_V (q0 := 0) hPc hKc rfl rfl) rfl rfl hl.1 rfl (lv_room (Nat.le_of_ble_eq_true rfl)) dX11_walk_7 ⟨(Nat.le_of_ble_eq_true rfl), (Nat.le_of_ble_eq_true rfl)⟩) hS (fun q _ h => hFc q h) hFc (fun r1 uu tt H locs htt hvm hw hB hz1 hk1 hS => ?_)
  have hP := va_keep hP hk1
  try dsimp only at hw
  clear hB hz1 hk1 hFc hPc hKc
  obtain rfl : r1 = 0 := hw
  refine lv_if_ne (tgt := 15) hx hb dX11_walk_10 (by decide) (fun hc => absurd (by decide) hc) (fun hc => ?_)
  refine lv_iconst (v := (-1)) hx hb dX11_walk_13 (by decide) ?_
  exact W.iret (v := (-1)) hx hb hr (fun t ht hW => ⟨⟨(-1), (), rfl, rfl, trivial⟩, hS.F ht⟩) hS.2.2 dX11_walk_14

def own_c_X11_below : List Cond := [.fieldLink RX11 73 "ClashFreeModel" "thrown" "I", .methodLink RX11 222 yX11_isThere, .instanceMethod yX11_isThere, .selects RX11 yX11_isThere yX11_isThere, .initialized RX11]
def wp_c_X11_below : List Cond := .code yX11_below cX11_below 3 (some .int) :: (own_c_X11_below ++ (wp_c_isThere ++ (wsX110 ++ ([] : List Cond))))
set_option maxRecDepth 20000 in
theorem inown_c_X11_below : ∀ w ∈ own_c_X11_below, w ∈ lw_tbl := mem_places [1216, 1466, 1468, 54, 115] (by decide +kernel)
set_option maxRecDepth 20000 in
theorem in_c_X11_below : ∀ w ∈ wp_c_X11_below, w ∈ lw_tbl := List.forall_mem_cons.mpr ⟨List.mem_of_getElem? (i := 1568) (by decide +kernel), List.forall_mem_append.mpr ⟨inown_c_X11_below, List.forall_mem_append.mpr ⟨in_c_isThere, List.forall_mem_append.mpr ⟨lwb_X11, fun _ h => absurd h List.not_mem_nil⟩⟩⟩⟩
set_option maxRecDepth 20000 in
theorem good_c_X11_below : wp_c_X11_below.all goodWord = true := by decide +kernel
set_option maxRecDepth 20000 in
theorem g_c_X11_below_c_isThere_222 : GoodIn wp_c_X11_below (wsV RX11 222 RX11 yX11_isThere wp_c_isThere) := goodIn_sub (List.forall_mem_append.mpr ⟨List.forall_mem_cons.mpr ⟨(List.mem_of_getElem? (i := 2) rfl), List.forall_mem_cons.mpr ⟨(List.mem_of_getElem? (i := 3) rfl), List.forall_mem_cons.mpr ⟨(List.mem_of_getElem? (i := 4) rfl), List.forall_mem_cons.mpr ⟨(List.mem_of_getElem? (i := 5) rfl), fun _ h => absurd h List.not_mem_nil⟩⟩⟩⟩, (fun _ h => (List.mem_cons_of_mem _ (List.mem_append_right _ (List.mem_append_left _ h))))⟩) (by decide +kernel)
set_option maxHeartbeats 4000000 in
set_option maxRecDepth 100000 in
theorem c_X11_below (l : Launch) (D : va_G) (sz : Nat) (h0 : Nat) (a : Nat → Nat) (cN : ClassId) (tp : Int32) (sd : Int64) (pa : Int64) (pb : Int64) (dr : Int32) (z1 : Int32) (z2 : Int32)  : Met l yX11_below wp_c_X11_below ({ frames := 2, cells := 0, slots := 0, locals := 46 }) (PcW D [.ref h0, .int z1, .int z2] sz [(h0, .inr (11, fM a tp sd pa pb dr)), (a 3, .inl (cN, 85, .inr (.inl (fun _ => 0))))] [(cN, .long)]) (va_Qi (fun (r : Int32) (_ : Unit) => r = (-1)) (fun (_ : Unit) _ => True) (va_A [(h0, .inr (11, fM a tp sd pa pb dr)), (a 3, .inl (cN, 85, .inr (.inl (fun _ => 0))))] sz)) 0 0 (va_A [(h0, .inr (11, fM a tp sd pa pb dr)), (a 3, .inl (cN, 85, .inr (.inl (fun _ => 0))))] sz) := by
  refine Met.ofW (cc := cX11_below) (maxL := 3) (ret := (some .int)) (by decide) rfl ?_
  intro p e s m args below meth c s₁ B hml hv
  obtain ⟨rfl, hsz, hP, hK, hD0⟩ := hv
  have hx := B.exec
  have hb := B.bytes
  have hr := B.returns
  have hts := atoms_spec (ws := wp_c_X11_below) B.pre
  have hin_X11 : ∀ w ∈ wsX110, w ∈ wp_c_X11_below := fun _ h => (List.mem_cons_of_mem _ (List.mem_append_right _ (List.mem_append_right _ (List.mem_append_left _ h))))
  have hown : s.vm.findClass RX11 = some m.cls := findClass_of_methodNamed B.named
  have hlocks := B.notSynchronized
  subst hsz
  have hD := hD0.self (sz := s.heap.size)
  generalize hAe : va_A [(h0, .inr (11, fM a tp sd pa pb dr)), (a 3, .inl (cN, 85, .inr (.inl (fun _ => 0))))] s.heap.size = A at hD ⊢
  have hA : ∀ q : Nat, s.heap.size ≤ q → A q := fun q h => by rw [← hAe]; exact Or.inr h
  have hS : va_S A s.heap s.heap [] := va_S.rf
  have hP : va_P D vwCl [(h0, .inr (11, fM a tp sd pa pb dr)), (a 3, .inl (cN, 85, .inr (.inl (fun _ => 0))))] s.heap := hP
  have hl := lv_entry ([.ref h0, .int z1, .int z2]) (n := 3) (Nat.le_of_ble_eq_true rfl)
  rw [lg_entry_eq]
  generalize (lg_sl ([.ref h0, .int z1, .int z2]) ++ List.replicate (3 - (lg_sl ([.ref h0, .int z1, .int z2])).length) Slot.unset).toArray = ls at hl ⊢
  have hl : lv_has ls 3 [(0, .ref h0), (1, .int z1), (2, .int z2)] := hl
  refine lv_aload_n hx hb dX11_below_0 rfl (lv_at hl 0 rfl) ?_
  refine lv_iconst (v := 0) hx hb dX11_below_1 (by decide) ?_
  refine va_put (D := D) (ci := 11) (v := .int 0) (ty := .int) (C := RX11) (T := TX11) (N := 47) hx hb hts hin_X11 tyX11 tyX11_ok nmX11 hown hK hP hD hS 0 rfl rfl 0 (by decide) (hts (.fieldLink RX11 73 "ClashFreeModel" "thrown" "I") (List.mem_of_getElem? (i := 1) rfl)) (fun _ h9 => h9) rfl (by decide +kernel) rfl rfl (Nat.le_of_ble_eq_true rfl) dX11_below_2 (fun H locs hP hD hS => ?_)
  have hP : va_P D vwCl [(h0, .inr (11, fM a tp sd pa pb dr)), (a 3, .inl (cN, 85, .inr (.inl (fun _ => 0))))] H := hP
  have hD : va_D A [(h0, .inr (11, fM a tp sd pa pb dr)), (a 3, .inl (cN, 85, .inr (.inl (fun _ => 0))))] := hD
  refine lv_aload_n hx hb dX11_below_5 rfl (lv_at hl 0 rfl) ?_
  refine lv_iload_n hx hb dX11_below_6 rfl (lv_at hl 1 rfl) ?_
  have hPc := hP.sub (ws' := [(h0, .inr (11, fM a tp sd pa pb dr)), (a 3, .inl (cN, 85, .inr (.inl (fun _ => 0))))]) [0, 1] rfl
  have hKc := hK.sub (tys' := [(cN, .long)]) [0] rfl
  have hFc := va_free0 hS hA
  refine va_calli (va_runV (As := [.int z1]) (rest := []) ⟨hx, hb, hml, hown, hts⟩ (c_isThere l D _ h0 a cN tp sd pa pb dr z1) (cwV 1 hts g_c_X11_below_c_isThere_222 rfl rfl rfl (by decide +kernel) ⟨(Nat.le_of_ble_eq_true rfl), (Nat.le_of_ble_eq_true rfl)⟩) (PcR_V (q0 := 0) hPc hKc rfl rfl) rfl rfl hl.1 rfl (lv_room (Nat.le_of_ble_eq_true rfl)) dX11_below_7 ⟨(Nat.le_of_ble_eq_true rfl), (Nat.le_of_ble_eq_true rfl)⟩) hS (fun q _ h => hFc q h) hFc (fun r1 uu tt H locs htt hvm hw hB hz1 hk1 hS => ?_)
  have hP := va_keep hP hk1
  try dsimp only at hw
  clear hB hz1 hk1 hFc hPc hKc
  obtain rfl : r1 = 0 := hw
  refine lv_if_eq (tgt := 35) hx hb dX11_below_10 (by decide) (fun hc => ?_) (fun hc => absurd (by decide) hc)
  refine lv_iconst (v := (-1)) hx hb dX11_below_35 (by decide) ?_
  exact W.iret (v := (-1)) hx hb hr (fun t ht hW => ⟨⟨(-1), (), rfl, rfl, trivial⟩, hS.F ht⟩) hS.2.2 dX11_below_36

def own_c_X11_nearest : List Cond := [.fieldLink RX11 73 "ClashFreeModel" "thrown" "I", .methodLink RX11 222 yX11_isThere, .instanceMethod yX11_isThere, .selects RX11 yX11_isThere yX11_isThere, .initialized RX11]
def wp_c_X11_nearest : List Cond := .code yX11_nearest cX11_nearest 6 (some .int) :: (own_c_X11_nearest ++ (wp_c_isThere ++ (wsX110 ++ ([] : List Cond))))
set_option maxRecDepth 20000 in
theorem inown_c_X11_nearest : ∀ w ∈ own_c_X11_nearest, w ∈ lw_tbl := mem_places [1216, 1466, 1468, 54, 115] (by decide +kernel)
set_option maxRecDepth 20000 in
theorem in_c_X11_nearest : ∀ w ∈ wp_c_X11_nearest, w ∈ lw_tbl := List.forall_mem_cons.mpr ⟨List.mem_of_getElem? (i := 1611) (by decide +kernel), List.forall_mem_append.mpr ⟨inown_c_X11_nearest, List.forall_mem_append.mpr ⟨in_c_isThere, List.forall_mem_append.mpr ⟨lwb_X11, fun _ h => absurd h List.not_mem_nil⟩⟩⟩⟩
set_option maxRecDepth 20000 in
theorem good_c_X11_nearest : wp_c_X11_nearest.all goodWord = true := by decide +kernel
set_option maxRecDepth 20000 in
theorem g_c_X11_nearest_c_isThere_222 : GoodIn wp_c_X11_nearest (wsV RX11 222 RX11 yX11_isThere wp_c_isThere) := goodIn_sub (List.forall_mem_append.mpr ⟨List.forall_mem_cons.mpr ⟨(List.mem_of_getElem? (i := 2) rfl), List.forall_mem_cons.mpr ⟨(List.mem_of_getElem? (i := 3) rfl), List.forall_mem_cons.mpr ⟨(List.mem_of_getElem? (i := 4) rfl), List.forall_mem_cons.mpr ⟨(List.mem_of_getElem? (i := 5) rfl), fun _ h => absurd h List.not_mem_nil⟩⟩⟩⟩, (fun _ h => (List.mem_cons_of_mem _ (List.mem_append_right _ (List.mem_append_left _ h))))⟩) (by decide +kernel)
set_option maxHeartbeats 4000000 in
set_option maxRecDepth 100000 in
theorem c_X11_nearest (l : Launch) (D : va_G) (sz : Nat) (h0 : Nat) (a : Nat → Nat) (cN : ClassId) (tp : Int32) (sd : Int64) (pa : Int64) (pb : Int64) (dr : Int32) (z1 : Int32) (z2 : Int32)  : Met l yX11_nearest wp_c_X11_nearest ({ frames := 2, cells := 0, slots := 0, locals := 46 }) (PcW D [.ref h0, .int z1, .int z2] sz [(h0, .inr (11, fM a tp sd pa pb dr)), (a 3, .inl (cN, 85, .inr (.inl (fun _ => 0))))] [(cN, .long)]) (va_Qi (fun (r : Int32) (_ : Unit) => r = (-1)) (fun (_ : Unit) _ => True) (va_A [(h0, .inr (11, fM a tp sd pa pb dr)), (a 3, .inl (cN, 85, .inr (.inl (fun _ => 0))))] sz)) 0 0 (va_A [(h0, .inr (11, fM a tp sd pa pb dr)), (a 3, .inl (cN, 85, .inr (.inl (fun _ => 0))))] sz) := by
  refine Met.ofW (cc := cX11_nearest) (maxL := 6) (ret := (some .int)) (by decide) rfl ?_
  intro p e s m args below meth c s₁ B hml hv
  obtain ⟨rfl, hsz, hP, hK, hD0⟩ := hv
  have hx := B.exec
  have hb := B.bytes
  have hr := B.returns
  have hts := atoms_spec (ws := wp_c_X11_nearest) B.pre
  have hin_X11 : ∀ w ∈ wsX110, w ∈ wp_c_X11_nearest := fun _ h => (List.mem_cons_of_mem _ (List.mem_append_right _ (List.mem_append_right _ (List.mem_append_left _ h))))
  have hown : s.vm.findClass RX11 = some m.cls := findClass_of_methodNamed B.named
  have hlocks := B.notSynchronized
  subst hsz
  have hD := hD0.self (sz := s.heap.size)
  generalize hAe : va_A [(h0, .inr (11, fM a tp sd pa pb dr)), (a 3, .inl (cN, 85, .inr (.inl (fun _ => 0))))] s.heap.size = A at hD ⊢
  have hA : ∀ q : Nat, s.heap.size ≤ q → A q := fun q h => by rw [← hAe]; exact Or.inr h
  have hS : va_S A s.heap s.heap [] := va_S.rf
  have hP : va_P D vwCl [(h0, .inr (11, fM a tp sd pa pb dr)), (a 3, .inl (cN, 85, .inr (.inl (fun _ => 0))))] s.heap := hP
  have hl := lv_entry ([.ref h0, .int z1, .int z2]) (n := 6) (Nat.le_of_ble_eq_true rfl)
  rw [lg_entry_eq]
  generalize (lg_sl ([.ref h0, .int z1, .int z2]) ++ List.replicate (6 - (lg_sl ([.ref h0, .int z1, .int z2])).length) Slot.unset).toArray = ls at hl ⊢
  have hl : lv_has ls 6 [(0, .ref h0), (1, .int z1), (2, .int z2)] := hl
  refine lv_aload_n hx hb dX11_nearest_0 rfl (lv_at hl 0 rfl) ?_
  refine lv_iconst (v := 0) hx hb dX11_nearest_1 (by decide) ?_
  refine va_put (D := D) (ci := 11) (v := .int 0) (ty := .int) (C := RX11) (T := TX11) (N := 47) hx hb hts hin_X11 tyX11 tyX11_ok nmX11 hown hK hP hD hS 0 rfl rfl 0 (by decide) (hts (.fieldLink RX11 73 "ClashFreeModel" "thrown" "I") (List.mem_of_getElem? (i := 1) rfl)) (fun _ h9 => h9) rfl (by decide +kernel) rfl rfl (Nat.le_of_ble_eq_true rfl) dX11_nearest_2 (fun H locs hP hD hS => ?_)
  have hP : va_P D vwCl [(h0, .inr (11, fM a tp sd pa pb dr)), (a 3, .inl (cN, 85, .inr (.inl (fun _ => 0))))] H := hP
  have hD : va_D A [(h0, .inr (11, fM a tp sd pa pb dr)), (a 3, .inl (cN, 85, .inr (.inl (fun _ => 0))))] := hD
  refine lv_aload_n hx hb dX11_nearest_5 rfl (lv_at hl 0 rfl) ?_
  refine lv_iload_n hx hb dX11_nearest_6 rfl (lv_at hl 1 rfl) ?_
  have hPc := hP.sub (ws' := [(h0, .inr (11, fM a tp sd pa pb dr)), (a 3, .inl (cN, 85, .inr (.inl (fun _ => 0))))]) [0, 1] rfl
  have hKc := hK.sub (tys' := [(cN, .long)]) [0] rfl
  have hFc := va_free0 hS hA
  refine va_calli (va_runV (As := [.int z1]) (rest := []) ⟨hx, hb, hml, hown, hts⟩ (c_isThere l D _ h0 a cN tp sd pa pb dr z1) (cwV 1 hts g_c_X11_nearest_c_isThere_222 rfl rfl rfl (by decide +kernel) ⟨(Nat.le_of_ble_eq_true rfl), (Nat.le_of_ble_eq_true rfl)⟩) (PcR_V (q0 := 0) hPc hKc rfl rfl) rfl rfl hl.1 rfl (lv_room (Nat.le_of_ble_eq_true rfl)) dX11_nearest_7 ⟨(Nat.le_of_ble_eq_true rfl), (Nat.le_of_ble_eq_true rfl)⟩) hS (fun q _ h => hFc q h) hFc (fun r1 uu tt H locs htt hvm hw hB hz1 hk1 hS => ?_)
  have hP := va_keep hP hk1
  try dsimp only at hw
  clear hB hz1 hk1 hFc hPc hKc
  obtain rfl : r1 = 0 := hw
  refine lv_if_eq (tgt := 28) hx hb dX11_nearest_10 (by decide) (fun hc => ?_) (fun hc => absurd (by decide) hc)
  refine lv_iconst (v := (-1)) hx hb dX11_nearest_28 (by decide) ?_
  exact W.iret (v := (-1)) hx hb hr (fun t ht hW => ⟨⟨(-1), (), rfl, rfl, trivial⟩, hS.F ht⟩) hS.2.2 dX11_nearest_29

def own_c_X11_many : List Cond := [.fieldLink RX11 73 "ClashFreeModel" "thrown" "I", .methodLink RX11 222 yX11_isThere, .instanceMethod yX11_isThere, .selects RX11 yX11_isThere yX11_isThere, .initialized RX11]
def wp_c_X11_many : List Cond := .code yX11_many cX11_many 5 (some .int) :: (own_c_X11_many ++ (wp_c_isThere ++ (wsX110 ++ ([] : List Cond))))
set_option maxRecDepth 20000 in
theorem inown_c_X11_many : ∀ w ∈ own_c_X11_many, w ∈ lw_tbl := mem_places [1216, 1466, 1468, 54, 115] (by decide +kernel)
set_option maxRecDepth 20000 in
theorem in_c_X11_many : ∀ w ∈ wp_c_X11_many, w ∈ lw_tbl := List.forall_mem_cons.mpr ⟨List.mem_of_getElem? (i := 1572) (by decide +kernel), List.forall_mem_append.mpr ⟨inown_c_X11_many, List.forall_mem_append.mpr ⟨in_c_isThere, List.forall_mem_append.mpr ⟨lwb_X11, fun _ h => absurd h List.not_mem_nil⟩⟩⟩⟩
set_option maxRecDepth 20000 in
theorem good_c_X11_many : wp_c_X11_many.all goodWord = true := by decide +kernel
set_option maxRecDepth 20000 in
theorem g_c_X11_many_c_isThere_222 : GoodIn wp_c_X11_many (wsV RX11 222 RX11 yX11_isThere wp_c_isThere) := goodIn_sub (List.forall_mem_append.mpr ⟨List.forall_mem_cons.mpr ⟨(List.mem_of_getElem? (i := 2) rfl), List.forall_mem_cons.mpr ⟨(List.mem_of_getElem? (i := 3) rfl), List.forall_mem_cons.mpr ⟨(List.mem_of_getElem? (i := 4) rfl), List.forall_mem_cons.mpr ⟨(List.mem_of_getElem? (i := 5) rfl), fun _ h => absurd h List.not_mem_nil⟩⟩⟩⟩, (fun _ h => (List.mem_cons_of_mem _ (List.mem_append_right _ (List.mem_append_left _ h))))⟩) (by decide +kernel)
set_option maxHeartbeats 4000000 in
set_option maxRecDepth 100000 in
theorem c_X11_many (l : Launch) (D : va_G) (sz : Nat) (h0 : Nat) (a : Nat → Nat) (cN : ClassId) (tp : Int32) (sd : Int64) (pa : Int64) (pb : Int64) (dr : Int32) (z1 : Int32) (z2 : Int32)  : Met l yX11_many wp_c_X11_many ({ frames := 2, cells := 0, slots := 0, locals := 46 }) (PcW D [.ref h0, .int z1, .int z2] sz [(h0, .inr (11, fM a tp sd pa pb dr)), (a 3, .inl (cN, 85, .inr (.inl (fun _ => 0))))] [(cN, .long)]) (va_Qi (fun (r : Int32) (_ : Unit) => r = (-1)) (fun (_ : Unit) _ => True) (va_A [(h0, .inr (11, fM a tp sd pa pb dr)), (a 3, .inl (cN, 85, .inr (.inl (fun _ => 0))))] sz)) 0 0 (va_A [(h0, .inr (11, fM a tp sd pa pb dr)), (a 3, .inl (cN, 85, .inr (.inl (fun _ => 0))))] sz) := by
  refine Met.ofW (cc := cX11_many) (maxL := 5) (ret := (some .int)) (by decide) rfl ?_
  intro p e s m args below meth c s₁ B hml hv
  obtain ⟨rfl, hsz, hP, hK, hD0⟩ := hv
  have hx := B.exec
  have hb := B.bytes
  have hr := B.returns
  have hts := atoms_spec (ws := wp_c_X11_many) B.pre
  have hin_X11 : ∀ w ∈ wsX110, w ∈ wp_c_X11_many := fun _ h => (List.mem_cons_of_mem _ (List.mem_append_right _ (List.mem_append_right _ (List.mem_append_left _ h))))
  have hown : s.vm.findClass RX11 = some m.cls := findClass_of_methodNamed B.named
  have hlocks := B.notSynchronized
  subst hsz
  have hD := hD0.self (sz := s.heap.size)
  generalize hAe : va_A [(h0, .inr (11, fM a tp sd pa pb dr)), (a 3, .inl (cN, 85, .inr (.inl (fun _ => 0))))] s.heap.size = A at hD ⊢
  have hA : ∀ q : Nat, s.heap.size ≤ q → A q := fun q h => by rw [← hAe]; exact Or.inr h
  have hS : va_S A s.heap s.heap [] := va_S.rf
  have hP : va_P D vwCl [(h0, .inr (11, fM a tp sd pa pb dr)), (a 3, .inl (cN, 85, .inr (.inl (fun _ => 0))))] s.heap := hP
  have hl := lv_entry ([.ref h0, .int z1, .int z2]) (n := 5) (Nat.le_of_ble_eq_true rfl)
  rw [lg_entry_eq]
  generalize (lg_sl ([.ref h0, .int z1, .int z2]) ++ List.replicate (5 - (lg_sl ([.ref h0, .int z1, .int z2])).length) Slot.unset).toArray = ls at hl ⊢
  have hl : lv_has ls 5 [(0, .ref h0), (1, .int z1), (2, .int z2)] := hl
  refine lv_aload_n hx hb dX11_many_0 rfl (lv_at hl 0 rfl) ?_
  refine lv_iconst (v := 0) hx hb dX11_many_1 (by decide) ?_
  refine va_put (D := D) (ci := 11) (v := .int 0) (ty := .int) (C := RX11) (T := TX11) (N := 47) hx hb hts hin_X11 tyX11 tyX11_ok nmX11 hown hK hP hD hS 0 rfl rfl 0 (by decide) (hts (.fieldLink RX11 73 "ClashFreeModel" "thrown" "I") (List.mem_of_getElem? (i := 1) rfl)) (fun _ h9 => h9) rfl (by decide +kernel) rfl rfl (Nat.le_of_ble_eq_true rfl) dX11_many_2 (fun H locs hP hD hS => ?_)
  have hP : va_P D vwCl [(h0, .inr (11, fM a tp sd pa pb dr)), (a 3, .inl (cN, 85, .inr (.inl (fun _ => 0))))] H := hP
  have hD : va_D A [(h0, .inr (11, fM a tp sd pa pb dr)), (a 3, .inl (cN, 85, .inr (.inl (fun _ => 0))))] := hD
  refine lv_aload_n hx hb dX11_many_5 rfl (lv_at hl 0 rfl) ?_
  refine lv_iload_n hx hb dX11_many_6 rfl (lv_at hl 1 rfl) ?_
  have hPc := hP.sub (ws' := [(h0, .inr (11, fM a tp sd pa pb dr)), (a 3, .inl (cN, 85, .inr (.inl (fun _ => 0))))]) [0, 1] rfl
  have hKc := hK.sub (tys' := [(cN, .long)]) [0] rfl
  have hFc := va_free0 hS hA
  refine va_calli (va_runV (As := [.int z1]) (rest := []) ⟨hx, hb, hml, hown, hts⟩ (c_isThere l D _ h0 a cN tp sd pa pb dr z1) (cwV 1 hts g_c_X11_many_c_isThere_222 rfl rfl rfl (by decide +kernel) ⟨(Nat.le_of_ble_eq_true rfl), (Nat.le_of_ble_eq_true rfl)⟩) (PcR_V (q0 := 0) hPc hKc rfl rfl) rfl rfl hl.1 rfl (lv_room (Nat.le_of_ble_eq_true rfl)) dX11_many_7 ⟨(Nat.le_of_ble_eq_true rfl), (Nat.le_of_ble_eq_true rfl)⟩) hS (fun q _ h => hFc q h) hFc (fun r1 uu tt H locs htt hvm hw hB hz1 hk1 hS => ?_)
  have hP := va_keep hP hk1
  try dsimp only at hw
  clear hB hz1 hk1 hFc hPc hKc
  obtain rfl : r1 = 0 := hw
  refine lv_if_eq (tgt := 17) hx hb dX11_many_10 (by decide) (fun hc => ?_) (fun hc => absurd (by decide) hc)
  refine lv_iconst (v := (-1)) hx hb dX11_many_17 (by decide) ?_
  exact W.iret (v := (-1)) hx hb hr (fun t ht hW => ⟨⟨(-1), (), rfl, rfl, trivial⟩, hS.F ht⟩) hS.2.2 dX11_many_18

def own_c_X11_crowd : List Cond := [.fieldLink RX11 73 "ClashFreeModel" "thrown" "I", .methodLink RX11 222 yX11_isThere, .instanceMethod yX11_isThere, .selects RX11 yX11_isThere yX11_isThere, .initialized RX11]
def wp_c_X11_crowd : List Cond := .code yX11_crowd cX11_crowd 8 (some .int) :: (own_c_X11_crowd ++ (wp_c_isThere ++ (wsX110 ++ ([] : List Cond))))
set_option maxRecDepth 20000 in
theorem inown_c_X11_crowd : ∀ w ∈ own_c_X11_crowd, w ∈ lw_tbl := mem_places [1216, 1466, 1468, 54, 115] (by decide +kernel)
set_option maxRecDepth 20000 in
theorem in_c_X11_crowd : ∀ w ∈ wp_c_X11_crowd, w ∈ lw_tbl := List.forall_mem_cons.mpr ⟨List.mem_of_getElem? (i := 1576) (by decide +kernel), List.forall_mem_append.mpr ⟨inown_c_X11_crowd, List.forall_mem_append.mpr ⟨in_c_isThere, List.forall_mem_append.mpr ⟨lwb_X11, fun _ h => absurd h List.not_mem_nil⟩⟩⟩⟩
set_option maxRecDepth 20000 in
theorem good_c_X11_crowd : wp_c_X11_crowd.all goodWord = true := by decide +kernel
set_option maxRecDepth 20000 in
theorem g_c_X11_crowd_c_isThere_222 : GoodIn wp_c_X11_crowd (wsV RX11 222 RX11 yX11_isThere wp_c_isThere) := goodIn_sub (List.forall_mem_append.mpr ⟨List.forall_mem_cons.mpr ⟨(List.mem_of_getElem? (i := 2) rfl), List.forall_mem_cons.mpr ⟨(List.mem_of_getElem? (i := 3) rfl), List.forall_mem_cons.mpr ⟨(List.mem_of_getElem? (i := 4) rfl), List.forall_mem_cons.mpr ⟨(List.mem_of_getElem? (i := 5) rfl), fun _ h => absurd h List.not_mem_nil⟩⟩⟩⟩, (fun _ h => (List.mem_cons_of_mem _ (List.mem_append_right _ (List.mem_append_left _ h))))⟩) (by decide +kernel)
set_option maxHeartbeats 4000000 in
set_option maxRecDepth 100000 in
theorem c_X11_crowd (l : Launch) (D : va_G) (sz : Nat) (h0 : Nat) (a : Nat → Nat) (cN : ClassId) (tp : Int32) (sd : Int64) (pa : Int64) (pb : Int64) (dr : Int32) (z1 : Int32) (z2 : Int32)  : Met l yX11_crowd wp_c_X11_crowd ({ frames := 2, cells := 0, slots := 0, locals := 46 }) (PcW D [.ref h0, .int z1, .int z2] sz [(h0, .inr (11, fM a tp sd pa pb dr)), (a 3, .inl (cN, 85, .inr (.inl (fun _ => 0))))] [(cN, .long)]) (va_Qi (fun (r : Int32) (_ : Unit) => r = (-1)) (fun (_ : Unit) _ => True) (va_A [(h0, .inr (11, fM a tp sd pa pb dr)), (a 3, .inl (cN, 85, .inr (.inl (fun _ => 0))))] sz)) 0 0 (va_A [(h0, .inr (11, fM a tp sd pa pb dr)), (a 3, .inl (cN, 85, .inr (.inl (fun _ => 0))))] sz) := by
  refine Met.ofW (cc := cX11_crowd) (maxL := 8) (ret := (some .int)) (by decide) rfl ?_
  intro p e s m args below meth c s₁ B hml hv
  obtain ⟨rfl, hsz, hP, hK, hD0⟩ := hv
  have hx := B.exec
  have hb := B.bytes
  have hr := B.returns
  have hts := atoms_spec (ws := wp_c_X11_crowd) B.pre
  have hin_X11 : ∀ w ∈ wsX110, w ∈ wp_c_X11_crowd := fun _ h => (List.mem_cons_of_mem _ (List.mem_append_right _ (List.mem_append_right _ (List.mem_append_left _ h))))
  have hown : s.vm.findClass RX11 = some m.cls := findClass_of_methodNamed B.named
  have hlocks := B.notSynchronized
  subst hsz
  have hD := hD0.self (sz := s.heap.size)
  generalize hAe : va_A [(h0, .inr (11, fM a tp sd pa pb dr)), (a 3, .inl (cN, 85, .inr (.inl (fun _ => 0))))] s.heap.size = A at hD ⊢
  have hA : ∀ q : Nat, s.heap.size ≤ q → A q := fun q h => by rw [← hAe]; exact Or.inr h
  have hS : va_S A s.heap s.heap [] := va_S.rf
  have hP : va_P D vwCl [(h0, .inr (11, fM a tp sd pa pb dr)), (a 3, .inl (cN, 85, .inr (.inl (fun _ => 0))))] s.heap := hP
  have hl := lv_entry ([.ref h0, .int z1, .int z2]) (n := 8) (Nat.le_of_ble_eq_true rfl)
  rw [lg_entry_eq]
  generalize (lg_sl ([.ref h0, .int z1, .int z2]) ++ List.replicate (8 - (lg_sl ([.ref h0, .int z1, .int z2])).length) Slot.unset).toArray = ls at hl ⊢
  have hl : lv_has ls 8 [(0, .ref h0), (1, .int z1), (2, .int z2)] := hl
  refine lv_aload_n hx hb dX11_crowd_0 rfl (lv_at hl 0 rfl) ?_
  refine lv_iconst (v := 0) hx hb dX11_crowd_1 (by decide) ?_
  refine va_put (D := D) (ci := 11) (v := .int 0) (ty := .int) (C := RX11) (T := TX11) (N := 47) hx hb hts hin_X11 tyX11 tyX11_ok nmX11 hown hK hP hD hS 0 rfl rfl 0 (by decide) (hts (.fieldLink RX11 73 "ClashFreeModel" "thrown" "I") (List.mem_of_getElem? (i := 1) rfl)) (fun _ h9 => h9) rfl (by decide +kernel) rfl rfl (Nat.le_of_ble_eq_true rfl) dX11_crowd_2 (fun H locs hP hD hS => ?_)
  have hP : va_P D vwCl [(h0, .inr (11, fM a tp sd pa pb dr)), (a 3, .inl (cN, 85, .inr (.inl (fun _ => 0))))] H := hP
  have hD : va_D A [(h0, .inr (11, fM a tp sd pa pb dr)), (a 3, .inl (cN, 85, .inr (.inl (fun _ => 0))))] := hD
  refine lv_aload_n hx hb dX11_crowd_5 rfl (lv_at hl 0 rfl) ?_
  refine lv_iload_n hx hb dX11_crowd_6 rfl (lv_at hl 1 rfl) ?_
  have hPc := hP.sub (ws' := [(h0, .inr (11, fM a tp sd pa pb dr)), (a 3, .inl (cN, 85, .inr (.inl (fun _ => 0))))]) [0, 1] rfl
  have hKc := hK.sub (tys' := [(cN, .long)]) [0] rfl
  have hFc := va_free0 hS hA
  refine va_calli (va_runV (As := [.int z1]) (rest := []) ⟨hx, hb, hml, hown, hts⟩ (c_isThere l D _ h0 a cN tp sd pa pb dr z1) (cwV 1 hts g_c_X11_crowd_c_isThere_222 rfl rfl rfl (by decide +kernel) ⟨(Nat.le_of_ble_eq_true rfl), (Nat.le_of_ble_eq_true rfl)⟩) (PcR_V (q0 := 0) hPc hKc rfl rfl) rfl rfl hl.1 rfl (lv_room (Nat.le_of_ble_eq_true rfl)) dX11_crowd_7 ⟨(Nat.le_of_ble_eq_true rfl), (Nat.le_of_ble_eq_true rfl)⟩) hS (fun q _ h => hFc q h) hFc (fun r1 uu tt H locs htt hvm hw hB hz1 hk1 hS => ?_)
  have hP := va_keep hP hk1
  try dsimp only at hw
  clear hB hz1 hk1 hFc hPc hKc
  obtain rfl : r1 = 0 := hw
  refine lv_if_eq (tgt := 25) hx hb dX11_crowd_10 (by decide) (fun hc => ?_) (fun hc => absurd (by decide) hc)
  refine lv_iconst (v := (-1)) hx hb dX11_crowd_25 (by decide) ?_
  exact W.iret (v := (-1)) hx hb hr (fun t ht hW => ⟨⟨(-1), (), rfl, rfl, trivial⟩, hS.F ht⟩) hS.2.2 dX11_crowd_26

def own_c_X11_empty : List Cond := [.fieldLink RX11 73 "ClashFreeModel" "thrown" "I", .methodLink RX11 222 yX11_isThere, .instanceMethod yX11_isThere, .selects RX11 yX11_isThere yX11_isThere, .initialized RX11]
def wp_c_X11_empty : List Cond := .code yX11_empty cX11_empty 2 (some .int) :: (own_c_X11_empty ++ (wp_c_isThere ++ (wsX110 ++ ([] : List Cond))))
set_option maxRecDepth 20000 in
theorem inown_c_X11_empty : ∀ w ∈ own_c_X11_empty, w ∈ lw_tbl := mem_places [1216, 1466, 1468, 54, 115] (by decide +kernel)
set_option maxRecDepth 20000 in
theorem in_c_X11_empty : ∀ w ∈ wp_c_X11_empty, w ∈ lw_tbl := List.forall_mem_cons.mpr ⟨List.mem_of_getElem? (i := 1580) (by decide +kernel), List.forall_mem_append.mpr ⟨inown_c_X11_empty, List.forall_mem_append.mpr ⟨in_c_isThere, List.forall_mem_append.mpr ⟨lwb_X11, fun _ h => absurd h List.not_mem_nil⟩⟩⟩⟩
set_option maxRecDepth 20000 in
theorem good_c_X11_empty : wp_c_X11_empty.all goodWord = true := by decide +kernel
set_option maxRecDepth 20000 in
theorem g_c_X11_empty_c_isThere_222 : GoodIn wp_c_X11_empty (wsV RX11 222 RX11 yX11_isThere wp_c_isThere) := goodIn_sub (List.forall_mem_append.mpr ⟨List.forall_mem_cons.mpr ⟨(List.mem_of_getElem? (i := 2) rfl), List.forall_mem_cons.mpr ⟨(List.mem_of_getElem? (i := 3) rfl), List.forall_mem_cons.mpr ⟨(List.mem_of_getElem? (i := 4) rfl), List.forall_mem_cons.mpr ⟨(List.mem_of_getElem? (i := 5) rfl), fun _ h => absurd h List.not_mem_nil⟩⟩⟩⟩, (fun _ h => (List.mem_cons_of_mem _ (List.mem_append_right _ (List.mem_append_left _ h))))⟩) (by decide +kernel)
set_option maxHeartbeats 4000000 in
set_option maxRecDepth 100000 in
theorem c_X11_empty (l : Launch) (D : va_G) (sz : Nat) (h0 : Nat) (a : Nat → Nat) (cN : ClassId) (tp : Int32) (sd : Int64) (pa : Int64) (pb : Int64) (dr : Int32) (z1 : Int32)  : Met l yX11_empty wp_c_X11_empty ({ frames := 2, cells := 0, slots := 0, locals := 46 }) (PcW D [.ref h0, .int z1] sz [(h0, .inr (11, fM a tp sd pa pb dr)), (a 3, .inl (cN, 85, .inr (.inl (fun _ => 0))))] [(cN, .long)]) (va_Qi (fun (r : Int32) (_ : Unit) => r = (-1)) (fun (_ : Unit) _ => True) (va_A [(h0, .inr (11, fM a tp sd pa pb dr)), (a 3, .inl (cN, 85, .inr (.inl (fun _ => 0))))] sz)) 0 0 (va_A [(h0, .inr (11, fM a tp sd pa pb dr)), (a 3, .inl (cN, 85, .inr (.inl (fun _ => 0))))] sz) := by
  refine Met.ofW (cc := cX11_empty) (maxL := 2) (ret := (some .int)) (by decide) rfl ?_
  intro p e s m args below meth c s₁ B hml hv
  obtain ⟨rfl, hsz, hP, hK, hD0⟩ := hv
  have hx := B.exec
  have hb := B.bytes
  have hr := B.returns
  have hts := atoms_spec (ws := wp_c_X11_empty) B.pre
  have hin_X11 : ∀ w ∈ wsX110, w ∈ wp_c_X11_empty := fun _ h => (List.mem_cons_of_mem _ (List.mem_append_right _ (List.mem_append_right _ (List.mem_append_left _ h))))
  have hown : s.vm.findClass RX11 = some m.cls := findClass_of_methodNamed B.named
  have hlocks := B.notSynchronized
  subst hsz
  have hD := hD0.self (sz := s.heap.size)
  generalize hAe : va_A [(h0, .inr (11, fM a tp sd pa pb dr)), (a 3, .inl (cN, 85, .inr (.inl (fun _ => 0))))] s.heap.size = A at hD ⊢
  have hA : ∀ q : Nat, s.heap.size ≤ q → A q := fun q h => by rw [← hAe]; exact Or.inr h
  have hS : va_S A s.heap s.heap [] := va_S.rf
  have hP : va_P D vwCl [(h0, .inr (11, fM a tp sd pa pb dr)), (a 3, .inl (cN, 85, .inr (.inl (fun _ => 0))))] s.heap := hP
  have hl := lv_entry ([.ref h0, .int z1]) (n := 2) (Nat.le_of_ble_eq_true rfl)
  rw [lg_entry_eq]
  generalize (lg_sl ([.ref h0, .int z1]) ++ List.replicate (2 - (lg_sl ([.ref h0, .int z1])).length) Slot.unset).toArray = ls at hl ⊢
  have hl : lv_has ls 2 [(0, .ref h0), (1, .int z1)] := hl
  refine lv_aload_n hx hb dX11_empty_0 rfl (lv_at hl 0 rfl) ?_
  refine lv_iconst (v := 0) hx hb dX11_empty_1 (by decide) ?_
  refine va_put (D := D) (ci := 11) (v := .int 0) (ty := .int) (C := RX11) (T := TX11) (N := 47) hx hb hts hin_X11 tyX11 tyX11_ok nmX11 hown hK hP hD hS 0 rfl rfl 0 (by decide) (hts (.fieldLink RX11 73 "ClashFreeModel" "thrown" "I") (List.mem_of_getElem? (i := 1) rfl)) (fun _ h9 => h9) rfl (by decide +kernel) rfl rfl (Nat.le_of_ble_eq_true rfl) dX11_empty_2 (fun H locs hP hD hS => ?_)
  have hP : va_P D vwCl [(h0, .inr (11, fM a tp sd pa pb dr)), (a 3, .inl (cN, 85, .inr (.inl (fun _ => 0))))] H := hP
  have hD : va_D A [(h0, .inr (11, fM a tp sd pa pb dr)), (a 3, .inl (cN, 85, .inr (.inl (fun _ => 0))))] := hD
  refine lv_aload_n hx hb dX11_empty_5 rfl (lv_at hl 0 rfl) ?_
  refine lv_iload_n hx hb dX11_empty_6 rfl (lv_at hl 1 rfl) ?_
  have hPc := hP.sub (ws' := [(h0, .inr (11, fM a tp sd pa pb dr)), (a 3, .inl (cN, 85, .inr (.inl (fun _ => 0))))]) [0, 1] rfl
  have hKc := hK.sub (tys' := [(cN, .long)]) [0] rfl
  have hFc := va_free0 hS hA
  refine va_calli (va_runV (As := [.int z1]) (rest := []) ⟨hx, hb, hml, hown, hts⟩ (c_isThere l D _ h0 a cN tp sd pa pb dr z1) (cwV 1 hts g_c_X11_empty_c_isThere_222 rfl rfl rfl (by decide +kernel) ⟨(Nat.le_of_ble_eq_true rfl), (Nat.le_of_ble_eq_true rfl)⟩) (PcR_V (q0 := 0) hPc hKc rfl rfl) rfl rfl hl.1 rfl (lv_room (Nat.le_of_ble_eq_true rfl)) dX11_empty_7 ⟨(Nat.le_of_ble_eq_true rfl), (Nat.le_of_ble_eq_true rfl)⟩) hS (fun q _ h => hFc q h) hFc (fun r1 uu tt H locs htt hvm hw hB hz1 hk1 hS => ?_)
  have hP := va_keep hP hk1
  try dsimp only at hw
  clear hB hz1 hk1 hFc hPc hKc
  obtain rfl : r1 = 0 := hw
  refine lv_if_eq (tgt := 29) hx hb dX11_empty_10 (by decide) (fun hc => ?_) (fun hc => absurd (by decide) hc)
  refine lv_iconst (v := (-1)) hx hb dX11_empty_29 (by decide) ?_
  exact W.iret (v := (-1)) hx hb hr (fun t ht hW => ⟨⟨(-1), (), rfl, rfl, trivial⟩, hS.F ht⟩) hS.2.2 dX11_empty_30

def own_c_X11_left : List Cond := [.fieldLink RX11 73 "ClashFreeModel" "thrown" "I", .methodLink RX11 222 yX11_isThere, .instanceMethod yX11_isThere, .selects RX11 yX11_isThere yX11_isThere, .initialized RX11]
def wp_c_X11_left : List Cond := .code yX11_left cX11_left 2 (some .int) :: (own_c_X11_left ++ (wp_c_isThere ++ (wsX110 ++ ([] : List Cond))))
set_option maxRecDepth 20000 in
theorem inown_c_X11_left : ∀ w ∈ own_c_X11_left, w ∈ lw_tbl := mem_places [1216, 1466, 1468, 54, 115] (by decide +kernel)
set_option maxRecDepth 20000 in
theorem in_c_X11_left : ∀ w ∈ wp_c_X11_left, w ∈ lw_tbl := List.forall_mem_cons.mpr ⟨List.mem_of_getElem? (i := 1584) (by decide +kernel), List.forall_mem_append.mpr ⟨inown_c_X11_left, List.forall_mem_append.mpr ⟨in_c_isThere, List.forall_mem_append.mpr ⟨lwb_X11, fun _ h => absurd h List.not_mem_nil⟩⟩⟩⟩
set_option maxRecDepth 20000 in
theorem good_c_X11_left : wp_c_X11_left.all goodWord = true := by decide +kernel
set_option maxRecDepth 20000 in
theorem g_c_X11_left_c_isThere_222 : GoodIn wp_c_X11_left (wsV RX11 222 RX11 yX11_isThere wp_c_isThere) := goodIn_sub (List.forall_mem_append.mpr ⟨List.forall_mem_cons.mpr ⟨(List.mem_of_getElem? (i := 2) rfl), List.forall_mem_cons.mpr ⟨(List.mem_of_getElem? (i := 3) rfl), List.forall_mem_cons.mpr ⟨(List.mem_of_getElem? (i := 4) rfl), List.forall_mem_cons.mpr ⟨(List.mem_of_getElem? (i := 5) rfl), fun _ h => absurd h List.not_mem_nil⟩⟩⟩⟩, (fun _ h => (List.mem_cons_of_mem _ (List.mem_append_right _ (List.mem_append_left _ h))))⟩) (by decide +kernel)
set_option maxHeartbeats 4000000 in
set_option maxRecDepth 100000 in
theorem c_X11_left (l : Launch) (D : va_G) (sz : Nat) (h0 : Nat) (a : Nat → Nat) (cN : ClassId) (tp : Int32) (sd : Int64) (pa : Int64) (pb : Int64) (dr : Int32) (z1 : Int32)  : Met l yX11_left wp_c_X11_left ({ frames := 2, cells := 0, slots := 0, locals := 46 }) (PcW D [.ref h0, .int z1] sz [(h0, .inr (11, fM a tp sd pa pb dr)), (a 3, .inl (cN, 85, .inr (.inl (fun _ => 0))))] [(cN, .long)]) (va_Qi (fun (r : Int32) (_ : Unit) => r = (-1)) (fun (_ : Unit) _ => True) (va_A [(h0, .inr (11, fM a tp sd pa pb dr)), (a 3, .inl (cN, 85, .inr (.inl (fun _ => 0))))] sz)) 0 0 (va_A [(h0, .inr (11, fM a tp sd pa pb dr)), (a 3, .inl (cN, 85, .inr (.inl (fun _ => 0))))] sz) := by
  refine Met.ofW (cc := cX11_left) (maxL := 2) (ret := (some .int)) (by decide) rfl ?_
  intro p e s m args below meth c s₁ B hml hv
  obtain ⟨rfl, hsz, hP, hK, hD0⟩ := hv
  have hx := B.exec
  have hb := B.bytes
  have hr := B.returns
  have hts := atoms_spec (ws := wp_c_X11_left) B.pre
  have hin_X11 : ∀ w ∈ wsX110, w ∈ wp_c_X11_left := fun _ h => (List.mem_cons_of_mem _ (List.mem_append_right _ (List.mem_append_right _ (List.mem_append_left _ h))))
  have hown : s.vm.findClass RX11 = some m.cls := findClass_of_methodNamed B.named
  have hlocks := B.notSynchronized
  subst hsz
  have hD := hD0.self (sz := s.heap.size)
  generalize hAe : va_A [(h0, .inr (11, fM a tp sd pa pb dr)), (a 3, .inl (cN, 85, .inr (.inl (fun _ => 0))))] s.heap.size = A at hD ⊢
  have hA : ∀ q : Nat, s.heap.size ≤ q → A q := fun q h => by rw [← hAe]; exact Or.inr h
  have hS : va_S A s.heap s.heap [] := va_S.rf
  have hP : va_P D vwCl [(h0, .inr (11, fM a tp sd pa pb dr)), (a 3, .inl (cN, 85, .inr (.inl (fun _ => 0))))] s.heap := hP
  have hl := lv_entry ([.ref h0, .int z1]) (n := 2) (Nat.le_of_ble_eq_true rfl)
  rw [lg_entry_eq]
  generalize (lg_sl ([.ref h0, .int z1]) ++ List.replicate (2 - (lg_sl ([.ref h0, .int z1])).length) Slot.unset).toArray = ls at hl ⊢
  have hl : lv_has ls 2 [(0, .ref h0), (1, .int z1)] := hl
  refine lv_aload_n hx hb dX11_left_0 rfl (lv_at hl 0 rfl) ?_
  refine lv_iconst (v := 0) hx hb dX11_left_1 (by decide) ?_
  refine va_put (D := D) (ci := 11) (v := .int 0) (ty := .int) (C := RX11) (T := TX11) (N := 47) hx hb hts hin_X11 tyX11 tyX11_ok nmX11 hown hK hP hD hS 0 rfl rfl 0 (by decide) (hts (.fieldLink RX11 73 "ClashFreeModel" "thrown" "I") (List.mem_of_getElem? (i := 1) rfl)) (fun _ h9 => h9) rfl (by decide +kernel) rfl rfl (Nat.le_of_ble_eq_true rfl) dX11_left_2 (fun H locs hP hD hS => ?_)
  have hP : va_P D vwCl [(h0, .inr (11, fM a tp sd pa pb dr)), (a 3, .inl (cN, 85, .inr (.inl (fun _ => 0))))] H := hP
  have hD : va_D A [(h0, .inr (11, fM a tp sd pa pb dr)), (a 3, .inl (cN, 85, .inr (.inl (fun _ => 0))))] := hD
  refine lv_aload_n hx hb dX11_left_5 rfl (lv_at hl 0 rfl) ?_
  refine lv_iload_n hx hb dX11_left_6 rfl (lv_at hl 1 rfl) ?_
  have hPc := hP.sub (ws' := [(h0, .inr (11, fM a tp sd pa pb dr)), (a 3, .inl (cN, 85, .inr (.inl (fun _ => 0))))]) [0, 1] rfl
  have hKc := hK.sub (tys' := [(cN, .long)]) [0] rfl
  have hFc := va_free0 hS hA
  refine va_calli (va_runV (As := [.int z1]) (rest := []) ⟨hx, hb, hml, hown, hts⟩ (c_isThere l D _ h0 a cN tp sd pa pb dr z1) (cwV 1 hts g_c_X11_left_c_isThere_222 rfl rfl rfl (by decide +kernel) ⟨(Nat.le_of_ble_eq_true rfl), (Nat.le_of_ble_eq_true rfl)⟩) (PcR_V (q0 := 0) hPc hKc rfl rfl) rfl rfl hl.1 rfl (lv_room (Nat.le_of_ble_eq_true rfl)) dX11_left_7 ⟨(Nat.le_of_ble_eq_true rfl), (Nat.le_of_ble_eq_true rfl)⟩) hS (fun q _ h => hFc q h) hFc (fun r1 uu tt H locs htt hvm hw hB hz1 hk1 hS => ?_)
  have hP := va_keep hP hk1
  try dsimp only at hw
  clear hB hz1 hk1 hFc hPc hKc
  obtain rfl : r1 = 0 := hw
  refine lv_if_eq (tgt := 32) hx hb dX11_left_10 (by decide) (fun hc => ?_) (fun hc => absurd (by decide) hc)
  refine lv_iconst (v := (-1)) hx hb dX11_left_32 (by decide) ?_
  exact W.iret (v := (-1)) hx hb hr (fun t ht hW => ⟨⟨(-1), (), rfl, rfl, trivial⟩, hS.F ht⟩) hS.2.2 dX11_left_33

def own_c_X11_outer : List Cond := [.fieldLink RX11 73 "ClashFreeModel" "thrown" "I", .methodLink RX11 222 yX11_isThere, .instanceMethod yX11_isThere, .selects RX11 yX11_isThere yX11_isThere, .initialized RX11, .constantLong RX11 235 (-1000000000000000)]
def wp_c_X11_outer : List Cond := .code yX11_outer cX11_outer 11 (some .long) :: (own_c_X11_outer ++ (wp_c_isThere ++ (wsX110 ++ ([] : List Cond))))
set_option maxRecDepth 20000 in
theorem inown_c_X11_outer : ∀ w ∈ own_c_X11_outer, w ∈ lw_tbl := mem_places [1216, 1466, 1468, 54, 115, 1517] (by decide +kernel)
set_option maxRecDepth 20000 in
theorem in_c_X11_outer : ∀ w ∈ wp_c_X11_outer, w ∈ lw_tbl := List.forall_mem_cons.mpr ⟨List.mem_of_getElem? (i := 1588) (by decide +kernel), List.forall_mem_append.mpr ⟨inown_c_X11_outer, List.forall_mem_append.mpr ⟨in_c_isThere, List.forall_mem_append.mpr ⟨lwb_X11, fun _ h => absurd h List.not_mem_nil⟩⟩⟩⟩
set_option maxRecDepth 20000 in
theorem good_c_X11_outer : wp_c_X11_outer.all goodWord = true := by decide +kernel
set_option maxRecDepth 20000 in
theorem g_c_X11_outer_c_isThere_222 : GoodIn wp_c_X11_outer (wsV RX11 222 RX11 yX11_isThere wp_c_isThere) := goodIn_sub (List.forall_mem_append.mpr ⟨List.forall_mem_cons.mpr ⟨(List.mem_of_getElem? (i := 2) rfl), List.forall_mem_cons.mpr ⟨(List.mem_of_getElem? (i := 3) rfl), List.forall_mem_cons.mpr ⟨(List.mem_of_getElem? (i := 4) rfl), List.forall_mem_cons.mpr ⟨(List.mem_of_getElem? (i := 5) rfl), fun _ h => absurd h List.not_mem_nil⟩⟩⟩⟩, (fun _ h => (List.mem_cons_of_mem _ (List.mem_append_right _ (List.mem_append_left _ h))))⟩) (by decide +kernel)
set_option maxHeartbeats 4000000 in
set_option maxRecDepth 100000 in
theorem c_X11_outer (l : Launch) (D : va_G) (sz : Nat) (h0 : Nat) (a : Nat → Nat) (cN : ClassId) (tp : Int32) (sd : Int64) (pa : Int64) (pb : Int64) (dr : Int32) (z1 : Int32) (z2 : Int32) (z3 : Int32) (z4 : Int32) (z5 : Int32)  : Met l yX11_outer wp_c_X11_outer ({ frames := 2, cells := 0, slots := 0, locals := 46 }) (PcW D [.ref h0, .int z1, .int z2, .int z3, .int z4, .int z5] sz [(h0, .inr (11, fM a tp sd pa pb dr)), (a 3, .inl (cN, 85, .inr (.inl (fun _ => 0))))] [(cN, .long)]) (va_Ql (fun (r : Int64) (_ : Unit) => r = (-1000000000000000)) (fun (_ : Unit) _ => True) (va_A [(h0, .inr (11, fM a tp sd pa pb dr)), (a 3, .inl (cN, 85, .inr (.inl (fun _ => 0))))] sz)) 0 0 (va_A [(h0, .inr (11, fM a tp sd pa pb dr)), (a 3, .inl (cN, 85, .inr (.inl (fun _ => 0))))] sz) := by
  refine Met.ofW (cc := cX11_outer) (maxL := 11) (ret := (some .long)) (by decide) rfl ?_
  intro p e s m args below meth c s₁ B hml hv
  obtain ⟨rfl, hsz, hP, hK, hD0⟩ := hv
  have hx := B.exec
  have hb := B.bytes
  have hr := B.returns
  have hts := atoms_spec (ws := wp_c_X11_outer) B.pre
  have hin_X11 : ∀ w ∈ wsX110, w ∈ wp_c_X11_outer := fun _ h => (List.mem_cons_of_mem _ (List.mem_append_right _ (List.mem_append_right _ (List.mem_append_left _ h))))
  have hown : s.vm.findClass RX11 = some m.cls := findClass_of_methodNamed B.named
  have hlocks := B.notSynchronized
  subst hsz
  have hD := hD0.self (sz := s.heap.size)
  generalize hAe : va_A [(h0, .inr (11, fM a tp sd pa pb dr)), (a 3, .inl (cN, 85, .inr (.inl (fun _ => 0))))] s.heap.size = A at hD ⊢
  have hA : ∀ q : Nat, s.heap.size ≤ q → A q := fun q h => by rw [← hAe]; exact Or.inr h
  have hS : va_S A s.heap s.heap [] := va_S.rf
  have hP : va_P D vwCl [(h0, .inr (11, fM a tp sd pa pb dr)), (a 3, .inl (cN, 85, .inr (.inl (fun _ => 0))))] s.heap := hP
  have hl := lv_entry ([.ref h0, .int z1, .int z2, .int z3, .int z4, .int z5]) (n := 11) (Nat.le_of_ble_eq_true rfl)
  rw [lg_entry_eq]
  generalize (lg_sl ([.ref h0, .int z1, .int z2, .int z3, .int z4, .int z5]) ++ List.replicate (11 - (lg_sl ([.ref h0, .int z1, .int z2, .int z3, .int z4, .int z5])).length) Slot.unset).toArray = ls at hl ⊢
  have hl : lv_has ls 11 [(0, .ref h0), (1, .int z1), (2, .int z2), (3, .int z3), (4, .int z4), (5, .int z5)] := hl
  refine lv_aload_n hx hb dX11_outer_0 rfl (lv_at hl 0 rfl) ?_
  refine lv_iconst (v := 0) hx hb dX11_outer_1 (by decide) ?_
  refine va_put (D := D) (ci := 11) (v := .int 0) (ty := .int) (C := RX11) (T := TX11) (N := 47) hx hb hts hin_X11 tyX11 tyX11_ok nmX11 hown hK hP hD hS 0 rfl rfl 0 (by decide) (hts (.fieldLink RX11 73 "ClashFreeModel" "thrown" "I") (List.mem_of_getElem? (i := 1) rfl)) (fun _ h9 => h9) rfl (by decide +kernel) rfl rfl (Nat.le_of_ble_eq_true rfl) dX11_outer_2 (fun H locs hP hD hS => ?_)
  have hP : va_P D vwCl [(h0, .inr (11, fM a tp sd pa pb dr)), (a 3, .inl (cN, 85, .inr (.inl (fun _ => 0))))] H := hP
  have hD : va_D A [(h0, .inr (11, fM a tp sd pa pb dr)), (a 3, .inl (cN, 85, .inr (.inl (fun _ => 0))))] := hD
  refine lv_aload_n hx hb dX11_outer_5 rfl (lv_at hl 0 rfl) ?_
  refine lv_iload_n hx hb dX11_outer_6 rfl (lv_at hl 1 rfl) ?_
  have hPc := hP.sub (ws' := [(h0, .inr (11, fM a tp sd pa pb dr)), (a 3, .inl (cN, 85, .inr (.inl (fun _ => 0))))]) [0, 1] rfl
  have hKc := hK.sub (tys' := [(cN, .long)]) [0] rfl
  have hFc := va_free0 hS hA
  refine va_calli (va_runV (As := [.int z1]) (rest := []) ⟨hx, hb, hml, hown, hts⟩ (c_isThere l D _ h0 a cN tp sd pa pb dr z1) (cwV 1 hts g_c_X11_outer_c_isThere_222 rfl rfl rfl (by decide +kernel) ⟨(Nat.le_of_ble_eq_true rfl), (Nat.le_of_ble_eq_true rfl)⟩) (PcR_V (q0 := 0) hPc hKc rfl rfl) rfl rfl hl.1 rfl (lv_room (Nat.le_of_ble_eq_true rfl)) dX11_outer_7 ⟨(Nat.le_of_ble_eq_true rfl), (Nat.le_of_ble_eq_true rfl)⟩) hS (fun q _ h => hFc q h) hFc (fun r1 uu tt H locs htt hvm hw hB hz1 hk1 hS => ?_)
  have hP := va_keep hP hk1
  try dsimp only at hw
  clear hB hz1 hk1 hFc hPc hKc
  obtain rfl : r1 = 0 := hw
  refine lv_if_eq (tgt := 47) hx hb dX11_outer_10 (by decide) (fun hc => ?_) (fun hc => absurd (by decide) hc)
  refine lv_ldc2 (v := (-1000000000000000)) hx hb hown (hts (.constantLong RX11 235 (-1000000000000000)) (List.mem_of_getElem? (i := 6) rfl)) dX11_outer_47 ?_
  exact W.lret (v := (-1000000000000000)) hx hb hr (fun t ht hW => ⟨⟨(-1000000000000000), (), rfl, rfl, trivial⟩, hS.F ht⟩) hS.2.2 dX11_outer_50

def own_c_X11_best : List Cond := [.fieldLink RX11 73 "ClashFreeModel" "thrown" "I", .methodLink RX11 222 yX11_isThere, .instanceMethod yX11_isThere, .selects RX11 yX11_isThere yX11_isThere, .initialized RX11, .constantLong RX11 235 (-1000000000000000)]
def wp_c_X11_best : List Cond := .code yX11_best cX11_best 13 (some .long) :: (own_c_X11_best ++ (wp_c_isThere ++ (wsX110 ++ ([] : List Cond))))
set_option maxRecDepth 20000 in
theorem inown_c_X11_best : ∀ w ∈ own_c_X11_best, w ∈ lw_tbl := mem_places [1216, 1466, 1468, 54, 115, 1517] (by decide +kernel)
set_option maxRecDepth 20000 in
theorem in_c_X11_best : ∀ w ∈ wp_c_X11_best, w ∈ lw_tbl := List.forall_mem_cons.mpr ⟨List.mem_of_getElem? (i := 1603) (by decide +kernel), List.forall_mem_append.mpr ⟨inown_c_X11_best, List.forall_mem_append.mpr ⟨in_c_isThere, List.forall_mem_append.mpr ⟨lwb_X11, fun _ h => absurd h List.not_mem_nil⟩⟩⟩⟩
set_option maxRecDepth 20000 in
theorem good_c_X11_best : wp_c_X11_best.all goodWord = true := by decide +kernel
set_option maxRecDepth 20000 in
theorem g_c_X11_best_c_isThere_222 : GoodIn wp_c_X11_best (wsV RX11 222 RX11 yX11_isThere wp_c_isThere) := goodIn_sub (List.forall_mem_append.mpr ⟨List.forall_mem_cons.mpr ⟨(List.mem_of_getElem? (i := 2) rfl), List.forall_mem_cons.mpr ⟨(List.mem_of_getElem? (i := 3) rfl), List.forall_mem_cons.mpr ⟨(List.mem_of_getElem? (i := 4) rfl), List.forall_mem_cons.mpr ⟨(List.mem_of_getElem? (i := 5) rfl), fun _ h => absurd h List.not_mem_nil⟩⟩⟩⟩, (fun _ h => (List.mem_cons_of_mem _ (List.mem_append_right _ (List.mem_append_left _ h))))⟩) (by decide +kernel)
set_option maxHeartbeats 4000000 in
set_option maxRecDepth 100000 in
theorem c_X11_best (l : Launch) (D : va_G) (sz : Nat) (h0 : Nat) (a : Nat → Nat) (cN : ClassId) (tp : Int32) (sd : Int64) (pa : Int64) (pb : Int64) (dr : Int32) (z1 : Int32) (z2 : Int32) (y3 : Int64) (z4 : Int32)  : Met l yX11_best wp_c_X11_best ({ frames := 2, cells := 0, slots := 0, locals := 46 }) (PcW D [.ref h0, .int z1, .int z2, .long y3, .int z4] sz [(h0, .inr (11, fM a tp sd pa pb dr)), (a 3, .inl (cN, 85, .inr (.inl (fun _ => 0))))] [(cN, .long)]) (va_Ql (fun (r : Int64) (_ : Unit) => r = (-1000000000000000)) (fun (_ : Unit) _ => True) (va_A [(h0, .inr (11, fM a tp sd pa pb dr)), (a 3, .inl (cN, 85, .inr (.inl (fun _ => 0))))] sz)) 0 0 (va_A [(h0, .inr (11, fM a tp sd pa pb dr)), (a 3, .inl (cN, 85, .inr (.inl (fun _ => 0))))] sz) := by
  refine Met.ofW (cc := cX11_best) (maxL := 13) (ret := (some .long)) (by decide) rfl ?_
  intro p e s m args below meth c s₁ B hml hv
  obtain ⟨rfl, hsz, hP, hK, hD0⟩ := hv
  have hx := B.exec
  have hb := B.bytes
  have hr := B.returns
  have hts := atoms_spec (ws := wp_c_X11_best) B.pre
  have hin_X11 : ∀ w ∈ wsX110, w ∈ wp_c_X11_best := fun _ h => (List.mem_cons_of_mem _ (List.mem_append_right _ (List.mem_append_right _ (List.mem_append_left _ h))))
  have hown : s.vm.findClass RX11 = some m.cls := findClass_of_methodNamed B.named
  have hlocks := B.notSynchronized
  subst hsz
  have hD := hD0.self (sz := s.heap.size)
  generalize hAe : va_A [(h0, .inr (11, fM a tp sd pa pb dr)), (a 3, .inl (cN, 85, .inr (.inl (fun _ => 0))))] s.heap.size = A at hD ⊢
  have hA : ∀ q : Nat, s.heap.size ≤ q → A q := fun q h => by rw [← hAe]; exact Or.inr h
  have hS : va_S A s.heap s.heap [] := va_S.rf
  have hP : va_P D vwCl [(h0, .inr (11, fM a tp sd pa pb dr)), (a 3, .inl (cN, 85, .inr (.inl (fun _ => 0))))] s.heap := hP
  have hl := lv_entry ([.ref h0, .int z1, .int z2, .long y3, .int z4]) (n := 13) (Nat.le_of_ble_eq_true rfl)
  rw [lg_entry_eq]
  generalize (lg_sl ([.ref h0, .int z1, .int z2, .long y3, .int z4]) ++ List.replicate (13 - (lg_sl ([.ref h0, .int z1, .int z2, .long y3, .int z4])).length) Slot.unset).toArray = ls at hl ⊢
  have hl : lv_has ls 13 [(0, .ref h0), (1, .int z1), (2, .int z2), (3, .long y3), (5, .int z4)] := hl
  refine lv_aload_n hx hb dX11_best_0 rfl (lv_at hl 0 rfl) ?_
  refine lv_iconst (v := 0) hx hb dX11_best_1 (by decide) ?_
  refine va_put (D := D) (ci := 11) (v := .int 0) (ty := .int) (C := RX11) (T := TX11) (N := 47) hx hb hts hin_X11 tyX11 tyX11_ok nmX11 hown hK hP hD hS 0 rfl rfl 0 (by decide) (hts (.fieldLink RX11 73 "ClashFreeModel" "thrown" "I") (List.mem_of_getElem? (i := 1) rfl)) (fun _ h9 => h9) rfl (by decide +kernel) rfl rfl (Nat.le_of_ble_eq_true rfl) dX11_best_2 (fun H locs hP hD hS => ?_)
  have hP : va_P D vwCl [(h0, .inr (11, fM a tp sd pa pb dr)), (a 3, .inl (cN, 85, .inr (.inl (fun _ => 0))))] H := hP
  have hD : va_D A [(h0, .inr (11, fM a tp sd pa pb dr)), (a 3, .inl (cN, 85, .inr (.inl (fun _ => 0))))] := hD
  refine lv_aload_n hx hb dX11_best_5 rfl (lv_at hl 0 rfl) ?_
  refine lv_iload_n hx hb dX11_best_6 rfl (lv_at hl 1 rfl) ?_
  have hPc := hP.sub (ws' := [(h0, .inr (11, fM a tp sd pa pb dr)), (a 3, .inl (cN, 85, .inr (.inl (fun _ => 0))))]) [0, 1] rfl
  have hKc := hK.sub (tys' := [(cN, .long)]) [0] rfl
  have hFc := va_free0 hS hA
  refine va_calli (va_runV (As := [.int z1]) (rest := []) ⟨hx, hb, hml, hown, hts⟩ (c_isThere l D _ h0 a cN tp sd pa pb dr z1) (cwV 1 hts g_c_X11_best_c_isThere_222 rfl rfl rfl (by decide +kernel) ⟨(Nat.le_of_ble_eq_true rfl), (Nat.le_of_ble_eq_true rfl)⟩) (PcR_V (q0 := 0) hPc hKc rfl rfl) rfl rfl hl.1 rfl (lv_room (Nat.le_of_ble_eq_true rfl)) dX11_best_7 ⟨(Nat.le_of_ble_eq_true rfl), (Nat.le_of_ble_eq_true rfl)⟩) hS (fun q _ h => hFc q h) hFc (fun r1 uu tt H locs htt hvm hw hB hz1 hk1 hS => ?_)
  have hP := va_keep hP hk1
  try dsimp only at hw
  clear hB hz1 hk1 hFc hPc hKc
  obtain rfl : r1 = 0 := hw
  refine lv_if_eq (tgt := 38) hx hb dX11_best_10 (by decide) (fun hc => ?_) (fun hc => absurd (by decide) hc)
  refine lv_ldc2 (v := (-1000000000000000)) hx hb hown (hts (.constantLong RX11 235 (-1000000000000000)) (List.mem_of_getElem? (i := 6) rfl)) dX11_best_38 ?_
  exact W.lret (v := (-1000000000000000)) hx hb hr (fun t ht hW => ⟨⟨(-1000000000000000), (), rfl, rfl, trivial⟩, hS.F ht⟩) hS.2.2 dX11_best_41

def own_c_X11_inner : List Cond := [.fieldLink RX11 73 "ClashFreeModel" "thrown" "I", .methodLink RX11 246 yX11_isBucket, .instanceMethod yX11_isBucket, .selects RX11 yX11_isBucket yX11_isBucket, .initialized RX11]
def wp_c_X11_inner : List Cond := .code yX11_inner cX11_inner 5 (some .int) :: (own_c_X11_inner ++ (wp_c_isBucket ++ (wsX110 ++ ([] : List Cond))))
set_option maxRecDepth 20000 in
theorem inown_c_X11_inner : ∀ w ∈ own_c_X11_inner, w ∈ lw_tbl := mem_places [1216, 1541, 1543, 65, 115] (by decide +kernel)
set_option maxRecDepth 20000 in
theorem in_c_X11_inner : ∀ w ∈ wp_c_X11_inner, w ∈ lw_tbl := List.forall_mem_cons.mpr ⟨List.mem_of_getElem? (i := 1595) (by decide +kernel), List.forall_mem_append.mpr ⟨inown_c_X11_inner, List.forall_mem_append.mpr ⟨in_c_isBucket, List.forall_mem_append.mpr ⟨lwb_X11, fun _ h => absurd h List.not_mem_nil⟩⟩⟩⟩
set_option maxRecDepth 20000 in
theorem good_c_X11_inner : wp_c_X11_inner.all goodWord = true := by decide +kernel
set_option maxRecDepth 20000 in
theorem g_c_X11_inner_c_isBucket_246 : GoodIn wp_c_X11_inner (wsV RX11 246 RX11 yX11_isBucket wp_c_isBucket) := goodIn_sub (List.forall_mem_append.mpr ⟨List.forall_mem_cons.mpr ⟨(List.mem_of_getElem? (i := 2) rfl), List.forall_mem_cons.mpr ⟨(List.mem_of_getElem? (i := 3) rfl), List.forall_mem_cons.mpr ⟨(List.mem_of_getElem? (i := 4) rfl), List.forall_mem_cons.mpr ⟨(List.mem_of_getElem? (i := 5) rfl), fun _ h => absurd h List.not_mem_nil⟩⟩⟩⟩, (fun _ h => (List.mem_cons_of_mem _ (List.mem_append_right _ (List.mem_append_left _ h))))⟩) (by decide +kernel)
set_option maxHeartbeats 4000000 in
set_option maxRecDepth 100000 in
theorem c_X11_inner (l : Launch) (D : va_G) (sz : Nat) (h0 : Nat) (a : Nat → Nat) (cN : ClassId) (tp : Int32) (sd : Int64) (pa : Int64) (pb : Int64) (dr : Int32) (z1 : Int32) (z2 : Int32) (z3 : Int32) (z4 : Int32)  : Met l yX11_inner wp_c_X11_inner ({ frames := 3, cells := 0, slots := 0, locals := 68 }) (PcW D [.ref h0, .int z1, .int z2, .int z3, .int z4] sz [(h0, .inr (11, fM a tp sd pa pb dr)), (a 3, .inl (cN, 85, .inr (.inl (fun _ => 0))))] [(cN, .long)]) (va_Qi (fun (r : Int32) (_ : Unit) => r = (-1)) (fun (_ : Unit) _ => True) (va_A [(h0, .inr (11, fM a tp sd pa pb dr)), (a 3, .inl (cN, 85, .inr (.inl (fun _ => 0))))] sz)) 0 0 (va_A [(h0, .inr (11, fM a tp sd pa pb dr)), (a 3, .inl (cN, 85, .inr (.inl (fun _ => 0))))] sz) := by
  refine Met.ofW (cc := cX11_inner) (maxL := 5) (ret := (some .int)) (by decide) rfl ?_
  intro p e s m args below meth c s₁ B hml hv
  obtain ⟨rfl, hsz, hP, hK, hD0⟩ := hv
  have hx := B.exec
  have hb := B.bytes
  have hr := B.returns
  have hts := atoms_spec (ws := wp_c_X11_inner) B.pre
  have hin_X11 : ∀ w ∈ wsX110, w ∈ wp_c_X11_inner := fun _ h => (List.mem_cons_of_mem _ (List.mem_append_right _ (List.mem_append_right _ (List.mem_append_left _ h))))
  have hown : s.vm.findClass RX11 = some m.cls := findClass_of_methodNamed B.named
  have hlocks := B.notSynchronized
  subst hsz
  have hD := hD0.self (sz := s.heap.size)
  generalize hAe : va_A [(h0, .inr (11, fM a tp sd pa pb dr)), (a 3, .inl (cN, 85, .inr (.inl (fun _ => 0))))] s.heap.size = A at hD ⊢
  have hA : ∀ q : Nat, s.heap.size ≤ q → A q := fun q h => by rw [← hAe]; exact Or.inr h
  have hS : va_S A s.heap s.heap [] := va_S.rf
  have hP : va_P D vwCl [(h0, .inr (11, fM a tp sd pa pb dr)), (a 3, .inl (cN, 85, .inr (.inl (fun _ => 0))))] s.heap := hP
  have hl := lv_entry ([.ref h0, .int z1, .int z2, .int z3, .int z4]) (n := 5) (Nat.le_of_ble_eq_true rfl)
  rw [lg_entry_eq]
  generalize (lg_sl ([.ref h0, .int z1, .int z2, .int z3, .int z4]) ++ List.replicate (5 - (lg_sl ([.ref h0, .int z1, .int z2, .int z3, .int z4])).length) Slot.unset).toArray = ls at hl ⊢
  have hl : lv_has ls 5 [(0, .ref h0), (1, .int z1), (2, .int z2), (3, .int z3), (4, .int z4)] := hl
  refine lv_aload_n hx hb dX11_inner_0 rfl (lv_at hl 0 rfl) ?_
  refine lv_iconst (v := 0) hx hb dX11_inner_1 (by decide) ?_
  refine va_put (D := D) (ci := 11) (v := .int 0) (ty := .int) (C := RX11) (T := TX11) (N := 47) hx hb hts hin_X11 tyX11 tyX11_ok nmX11 hown hK hP hD hS 0 rfl rfl 0 (by decide) (hts (.fieldLink RX11 73 "ClashFreeModel" "thrown" "I") (List.mem_of_getElem? (i := 1) rfl)) (fun _ h9 => h9) rfl (by decide +kernel) rfl rfl (Nat.le_of_ble_eq_true rfl) dX11_inner_2 (fun H locs hP hD hS => ?_)
  have hP : va_P D vwCl [(h0, .inr (11, fM a tp sd pa pb dr)), (a 3, .inl (cN, 85, .inr (.inl (fun _ => 0))))] H := hP
  have hD : va_D A [(h0, .inr (11, fM a tp sd pa pb dr)), (a 3, .inl (cN, 85, .inr (.inl (fun _ => 0))))] := hD
  refine lv_aload_n hx hb dX11_inner_5 rfl (lv_at hl 0 rfl) ?_
  refine lv_iload_n hx hb dX11_inner_6 rfl (lv_at hl 1 rfl) ?_
  refine lv_iload_n hx hb dX11_inner_7 rfl (lv_at hl 2 rfl) ?_
  have hPc := hP.sub (ws' := [(h0, .inr (11, fM a tp sd pa pb dr)), (a 3, .inl (cN, 85, .inr (.inl (fun _ => 0))))]) [0, 1] rfl
  have hKc := hK.sub (tys' := [(cN, .long)]) [0] rfl
  have hFc := va_free0 hS hA
  refine va_calli (va_runV (As := [.int z1, .int z2]) (rest := []) ⟨hx, hb, hml, hown, hts⟩ (c_isBucket l D _ h0 a cN tp sd pa pb dr z1 z2) (cwV 2 hts g_c_X11_inner_c_isBucket_246 rfl rfl rfl (by decide +kernel) ⟨(Nat.le_of_ble_eq_true rfl), (Nat.le_of_ble_eq_true rfl)⟩) (PcR_V (q0 := 0) hPc hKc rfl rfl) rfl rfl hl.1 rfl (lv_room (Nat.le_of_ble_eq_true rfl)) dX11_inner_8 ⟨(Nat.le_of_ble_eq_true rfl), (Nat.le_of_ble_eq_true rfl)⟩) hS (fun q _ h => hFc q h) hFc (fun r1 uu tt H locs htt hvm hw hB hz1 hk1 hS => ?_)
  have hP := va_keep hP hk1
  try dsimp only at hw
  clear hB hz1 hk1 hFc hPc hKc
  obtain rfl : r1 = 0 := hw
  refine lv_if_eq (tgt := 46) hx hb dX11_inner_11 (by decide) (fun hc => ?_) (fun hc => absurd (by decide) hc)
  refine lv_iconst (v := (-1)) hx hb dX11_inner_46 (by decide) ?_
  exact W.iret (v := (-1)) hx hb hr (fun t ht hW => ⟨⟨(-1), (), rfl, rfl, trivial⟩, hS.F ht⟩) hS.2.2 dX11_inner_47

def own_c_X11_tries : List Cond := [.fieldLink RX11 73 "ClashFreeModel" "thrown" "I", .methodLink RX11 246 yX11_isBucket, .instanceMethod yX11_isBucket, .selects RX11 yX11_isBucket yX11_isBucket, .initialized RX11]
def wp_c_X11_tries : List Cond := .code yX11_tries cX11_tries 10 (some .int) :: (own_c_X11_tries ++ (wp_c_isBucket ++ (wsX110 ++ ([] : List Cond))))
set_option maxRecDepth 20000 in
theorem inown_c_X11_tries : ∀ w ∈ own_c_X11_tries, w ∈ lw_tbl := mem_places [1216, 1541, 1543, 65, 115] (by decide +kernel)
set_option maxRecDepth 20000 in
theorem in_c_X11_tries : ∀ w ∈ wp_c_X11_tries, w ∈ lw_tbl := List.forall_mem_cons.mpr ⟨List.mem_of_getElem? (i := 1599) (by decide +kernel), List.forall_mem_append.mpr ⟨inown_c_X11_tries, List.forall_mem_append.mpr ⟨in_c_isBucket, List.forall_mem_append.mpr ⟨lwb_X11, fun _ h => absurd h List.not_mem_nil⟩⟩⟩⟩
set_option maxRecDepth 20000 in
theorem good_c_X11_tries : wp_c_X11_tries.all goodWord = true := by decide +kernel
set_option maxRecDepth 20000 in
theorem g_c_X11_tries_c_isBucket_246 : GoodIn wp_c_X11_tries (wsV RX11 246 RX11 yX11_isBucket wp_c_isBucket) := goodIn_sub (List.forall_mem_append.mpr ⟨List.forall_mem_cons.mpr ⟨(List.mem_of_getElem? (i := 2) rfl), List.forall_mem_cons.mpr ⟨(List.mem_of_getElem? (i := 3) rfl), List.forall_mem_cons.mpr ⟨(List.mem_of_getElem? (i := 4) rfl), List.forall_mem_cons.mpr ⟨(List.mem_of_getElem? (i := 5) rfl), fun _ h => absurd h List.not_mem_nil⟩⟩⟩⟩, (fun _ h => (List.mem_cons_of_mem _ (List.mem_append_right _ (List.mem_append_left _ h))))⟩) (by decide +kernel)
set_option maxHeartbeats 4000000 in
set_option maxRecDepth 100000 in
theorem c_X11_tries (l : Launch) (D : va_G) (sz : Nat) (h0 : Nat) (a : Nat → Nat) (cN : ClassId) (tp : Int32) (sd : Int64) (pa : Int64) (pb : Int64) (dr : Int32) (z1 : Int32) (z2 : Int32) (z3 : Int32) (y4 : Int64) (z5 : Int32)  : Met l yX11_tries wp_c_X11_tries ({ frames := 3, cells := 0, slots := 0, locals := 68 }) (PcW D [.ref h0, .int z1, .int z2, .int z3, .long y4, .int z5] sz [(h0, .inr (11, fM a tp sd pa pb dr)), (a 3, .inl (cN, 85, .inr (.inl (fun _ => 0))))] [(cN, .long)]) (va_Qi (fun (r : Int32) (_ : Unit) => r = (-2)) (fun (_ : Unit) _ => True) (va_A [(h0, .inr (11, fM a tp sd pa pb dr)), (a 3, .inl (cN, 85, .inr (.inl (fun _ => 0))))] sz)) 0 0 (va_A [(h0, .inr (11, fM a tp sd pa pb dr)), (a 3, .inl (cN, 85, .inr (.inl (fun _ => 0))))] sz) := by
  refine Met.ofW (cc := cX11_tries) (maxL := 10) (ret := (some .int)) (by decide) rfl ?_
  intro p e s m args below meth c s₁ B hml hv
  obtain ⟨rfl, hsz, hP, hK, hD0⟩ := hv
  have hx := B.exec
  have hb := B.bytes
  have hr := B.returns
  have hts := atoms_spec (ws := wp_c_X11_tries) B.pre
  have hin_X11 : ∀ w ∈ wsX110, w ∈ wp_c_X11_tries := fun _ h => (List.mem_cons_of_mem _ (List.mem_append_right _ (List.mem_append_right _ (List.mem_append_left _ h))))
  have hown : s.vm.findClass RX11 = some m.cls := findClass_of_methodNamed B.named
  have hlocks := B.notSynchronized
  subst hsz
  have hD := hD0.self (sz := s.heap.size)
  generalize hAe : va_A [(h0, .inr (11, fM a tp sd pa pb dr)), (a 3, .inl (cN, 85, .inr (.inl (fun _ => 0))))] s.heap.size = A at hD ⊢
  have hA : ∀ q : Nat, s.heap.size ≤ q → A q := fun q h => by rw [← hAe]; exact Or.inr h
  have hS : va_S A s.heap s.heap [] := va_S.rf
  have hP : va_P D vwCl [(h0, .inr (11, fM a tp sd pa pb dr)), (a 3, .inl (cN, 85, .inr (.inl (fun _ => 0))))] s.heap := hP
  have hl := lv_entry ([.ref h0, .int z1, .int z2, .int z3, .long y4, .int z5]) (n := 10) (Nat.le_of_ble_eq_true rfl)
  rw [lg_entry_eq]
  generalize (lg_sl ([.ref h0, .int z1, .int z2, .int z3, .long y4, .int z5]) ++ List.replicate (10 - (lg_sl ([.ref h0, .int z1, .int z2, .int z3, .long y4, .int z5])).length) Slot.unset).toArray = ls at hl ⊢
  have hl : lv_has ls 10 [(0, .ref h0), (1, .int z1), (2, .int z2), (3, .int z3), (4, .long y4), (6, .int z5)] := hl
  refine lv_aload_n hx hb dX11_tries_0 rfl (lv_at hl 0 rfl) ?_
  refine lv_iconst (v := 0) hx hb dX11_tries_1 (by decide) ?_
  refine va_put (D := D) (ci := 11) (v := .int 0) (ty := .int) (C := RX11) (T := TX11) (N := 47) hx hb hts hin_X11 tyX11 tyX11_ok nmX11 hown hK hP hD hS 0 rfl rfl 0 (by decide) (hts (.fieldLink RX11 73 "ClashFreeModel" "thrown" "I") (List.mem_of_getElem? (i := 1) rfl)) (fun _ h9 => h9) rfl (by decide +kernel) rfl rfl (Nat.le_of_ble_eq_true rfl) dX11_tries_2 (fun H locs hP hD hS => ?_)
  have hP : va_P D vwCl [(h0, .inr (11, fM a tp sd pa pb dr)), (a 3, .inl (cN, 85, .inr (.inl (fun _ => 0))))] H := hP
  have hD : va_D A [(h0, .inr (11, fM a tp sd pa pb dr)), (a 3, .inl (cN, 85, .inr (.inl (fun _ => 0))))] := hD
  refine lv_aload_n hx hb dX11_tries_5 rfl (lv_at hl 0 rfl) ?_
  refine lv_iload_n hx hb dX11_tries_6 rfl (lv_at hl 1 rfl) ?_
  refine lv_iload_n hx hb dX11_tries_7 rfl (lv_at hl 2 rfl) ?_
  have hPc := hP.sub (ws' := [(h0, .inr (11, fM a tp sd pa pb dr)), (a 3, .inl (cN, 85, .inr (.inl (fun _ => 0))))]) [0, 1] rfl
  have hKc := hK.sub (tys' := [(cN, .long)]) [0] rfl
  have hFc := va_free0 hS hA
  refine va_calli (va_runV (As := [.int z1, .int z2]) (rest := []) ⟨hx, hb, hml, hown, hts⟩ (c_isBucket l D _ h0 a cN tp sd pa pb dr z1 z2) (cwV 2 hts g_c_X11_tries_c_isBucket_246 rfl rfl rfl (by decide +kernel) ⟨(Nat.le_of_ble_eq_true rfl), (Nat.le_of_ble_eq_true rfl)⟩) (PcR_V (q0 := 0) hPc hKc rfl rfl) rfl rfl hl.1 rfl (lv_room (Nat.le_of_ble_eq_true rfl)) dX11_tries_8 ⟨(Nat.le_of_ble_eq_true rfl), (Nat.le_of_ble_eq_true rfl)⟩) hS (fun q _ h => hFc q h) hFc (fun r1 uu tt H locs htt hvm hw hB hz1 hk1 hS => ?_)
  have hP := va_keep hP hk1
  try dsimp only at hw
  clear hB hz1 hk1 hFc hPc hKc
  obtain rfl : r1 = 0 := hw
  refine lv_if_eq (tgt := 46) hx hb dX11_tries_11 (by decide) (fun hc => ?_) (fun hc => absurd (by decide) hc)
  refine lv_bipush (v := (-2)) hx hb dX11_tries_46 (by decide) ?_
  exact W.iret (v := (-2)) hx hb hr (fun t ht hW => ⟨⟨(-2), (), rfl, rfl, trivial⟩, hS.F ht⟩) hS.2.2 dX11_tries_48

def own_c_X11_would : List Cond := [.fieldLink RX11 73 "ClashFreeModel" "thrown" "I", .methodLink RX11 222 yX11_isThere, .instanceMethod yX11_isThere, .selects RX11 yX11_isThere yX11_isThere, .initialized RX11]
def wp_c_X11_would : List Cond := .code yX11_would cX11_would 3 (some .int) :: (own_c_X11_would ++ (wp_c_isThere ++ (wsX110 ++ ([] : List Cond))))
set_option maxRecDepth 20000 in
theorem inown_c_X11_would : ∀ w ∈ own_c_X11_would, w ∈ lw_tbl := mem_places [1216, 1466, 1468, 54, 115] (by decide +kernel)
set_option maxRecDepth 20000 in
theorem in_c_X11_would : ∀ w ∈ wp_c_X11_would, w ∈ lw_tbl := List.forall_mem_cons.mpr ⟨List.mem_of_getElem? (i := 1615) (by decide +kernel), List.forall_mem_append.mpr ⟨inown_c_X11_would, List.forall_mem_append.mpr ⟨in_c_isThere, List.forall_mem_append.mpr ⟨lwb_X11, fun _ h => absurd h List.not_mem_nil⟩⟩⟩⟩
set_option maxRecDepth 20000 in
theorem good_c_X11_would : wp_c_X11_would.all goodWord = true := by decide +kernel
set_option maxRecDepth 20000 in
theorem g_c_X11_would_c_isThere_222 : GoodIn wp_c_X11_would (wsV RX11 222 RX11 yX11_isThere wp_c_isThere) := goodIn_sub (List.forall_mem_append.mpr ⟨List.forall_mem_cons.mpr ⟨(List.mem_of_getElem? (i := 2) rfl), List.forall_mem_cons.mpr ⟨(List.mem_of_getElem? (i := 3) rfl), List.forall_mem_cons.mpr ⟨(List.mem_of_getElem? (i := 4) rfl), List.forall_mem_cons.mpr ⟨(List.mem_of_getElem? (i := 5) rfl), fun _ h => absurd h List.not_mem_nil⟩⟩⟩⟩, (fun _ h => (List.mem_cons_of_mem _ (List.mem_append_right _ (List.mem_append_left _ h))))⟩) (by decide +kernel)
set_option maxHeartbeats 4000000 in
set_option maxRecDepth 100000 in
theorem c_X11_would (l : Launch) (D : va_G) (sz : Nat) (h0 : Nat) (a : Nat → Nat) (cN : ClassId) (tp : Int32) (sd : Int64) (pa : Int64) (pb : Int64) (dr : Int32) (z1 : Int32) (z2 : Int32)  : Met l yX11_would wp_c_X11_would ({ frames := 2, cells := 0, slots := 0, locals := 46 }) (PcW D [.ref h0, .int z1, .int z2] sz [(h0, .inr (11, fM a tp sd pa pb dr)), (a 3, .inl (cN, 85, .inr (.inl (fun _ => 0))))] [(cN, .long)]) (va_Qi (fun (r : Int32) (_ : Unit) => r = (-2)) (fun (_ : Unit) _ => True) (va_A [(h0, .inr (11, fM a tp sd pa pb dr)), (a 3, .inl (cN, 85, .inr (.inl (fun _ => 0))))] sz)) 0 0 (va_A [(h0, .inr (11, fM a tp sd pa pb dr)), (a 3, .inl (cN, 85, .inr (.inl (fun _ => 0))))] sz) := by
  refine Met.ofW (cc := cX11_would) (maxL := 3) (ret := (some .int)) (by decide) rfl ?_
  intro p e s m args below meth c s₁ B hml hv
  obtain ⟨rfl, hsz, hP, hK, hD0⟩ := hv
  have hx := B.exec
  have hb := B.bytes
  have hr := B.returns
  have hts := atoms_spec (ws := wp_c_X11_would) B.pre
  have hin_X11 : ∀ w ∈ wsX110, w ∈ wp_c_X11_would := fun _ h => (List.mem_cons_of_mem _ (List.mem_append_right _ (List.mem_append_right _ (List.mem_append_left _ h))))
  have hown : s.vm.findClass RX11 = some m.cls := findClass_of_methodNamed B.named
  have hlocks := B.notSynchronized
  subst hsz
  have hD := hD0.self (sz := s.heap.size)
  generalize hAe : va_A [(h0, .inr (11, fM a tp sd pa pb dr)), (a 3, .inl (cN, 85, .inr (.inl (fun _ => 0))))] s.heap.size = A at hD ⊢
  have hA : ∀ q : Nat, s.heap.size ≤ q → A q := fun q h => by rw [← hAe]; exact Or.inr h
  have hS : va_S A s.heap s.heap [] := va_S.rf
  have hP : va_P D vwCl [(h0, .inr (11, fM a tp sd pa pb dr)), (a 3, .inl (cN, 85, .inr (.inl (fun _ => 0))))] s.heap := hP
  have hl := lv_entry ([.ref h0, .int z1, .int z2]) (n := 3) (Nat.le_of_ble_eq_true rfl)
  rw [lg_entry_eq]
  generalize (lg_sl ([.ref h0, .int z1, .int z2]) ++ List.replicate (3 - (lg_sl ([.ref h0, .int z1, .int z2])).length) Slot.unset).toArray = ls at hl ⊢
  have hl : lv_has ls 3 [(0, .ref h0), (1, .int z1), (2, .int z2)] := hl
  refine lv_aload_n hx hb dX11_would_0 rfl (lv_at hl 0 rfl) ?_
  refine lv_iconst (v := 0) hx hb dX11_would_1 (by decide) ?_
  refine va_put (D := D) (ci := 11) (v := .int 0) (ty := .int) (C := RX11) (T := TX11) (N := 47) hx hb hts hin_X11 tyX11 tyX11_ok nmX11 hown hK hP hD hS 0 rfl rfl 0 (by decide) (hts (.fieldLink RX11 73 "ClashFreeModel" "thrown" "I") (List.mem_of_getElem? (i := 1) rfl)) (fun _ h9 => h9) rfl (by decide +kernel) rfl rfl (Nat.le_of_ble_eq_true rfl) dX11_would_2 (fun H locs hP hD hS => ?_)
  have hP : va_P D vwCl [(h0, .inr (11, fM a tp sd pa pb dr)), (a 3, .inl (cN, 85, .inr (.inl (fun _ => 0))))] H := hP
  have hD : va_D A [(h0, .inr (11, fM a tp sd pa pb dr)), (a 3, .inl (cN, 85, .inr (.inl (fun _ => 0))))] := hD
  refine lv_aload_n hx hb dX11_would_5 rfl (lv_at hl 0 rfl) ?_
  refine lv_iload_n hx hb dX11_would_6 rfl (lv_at hl 1 rfl) ?_
  have hPc := hP.sub (ws' := [(h0, .inr (11, fM a tp sd pa pb dr)), (a 3, .inl (cN, 85, .inr (.inl (fun _ => 0))))]) [0, 1] rfl
  have hKc := hK.sub (tys' := [(cN, .long)]) [0] rfl
  have hFc := va_free0 hS hA
  refine va_calli (va_runV (As := [.int z1]) (rest := []) ⟨hx, hb, hml, hown, hts⟩ (c_isThere l D _ h0 a cN tp sd pa pb dr z1) (cwV 1 hts g_c_X11_would_c_isThere_222 rfl rfl rfl (by decide +kernel) ⟨(Nat.le_of_ble_eq_true rfl), (Nat.le_of_ble_eq_true rfl)⟩) (PcR_V (q0 := 0) hPc hKc rfl rfl) rfl rfl hl.1 rfl (lv_room (Nat.le_of_ble_eq_true rfl)) dX11_would_7 ⟨(Nat.le_of_ble_eq_true rfl), (Nat.le_of_ble_eq_true rfl)⟩) hS (fun q _ h => hFc q h) hFc (fun r1 uu tt H locs htt hvm hw hB hz1 hk1 hS => ?_)
  have hP := va_keep hP hk1
  try dsimp only at hw
  clear hB hz1 hk1 hFc hPc hKc
  obtain rfl : r1 = 0 := hw
  refine lv_if_eq (tgt := 20) hx hb dX11_would_10 (by decide) (fun hc => ?_) (fun hc => absurd (by decide) hc)
  refine lv_bipush (v := (-2)) hx hb dX11_would_20 (by decide) ?_
  exact W.iret (v := (-2)) hx hb hr (fun t ht hW => ⟨⟨(-2), (), rfl, rfl, trivial⟩, hS.F ht⟩) hS.2.2 dX11_would_22

def own_c_X11_frozen : List Cond := [.fieldLink RX11 73 "ClashFreeModel" "thrown" "I", .methodLink RX11 222 yX11_isThere, .instanceMethod yX11_isThere, .selects RX11 yX11_isThere yX11_isThere, .initialized RX11, .constantLong RX11 235 (-1000000000000000)]
def wp_c_X11_frozen : List Cond := .code yX11_frozen cX11_frozen 8 (some .long) :: (own_c_X11_frozen ++ (wp_c_isThere ++ (wsX110 ++ ([] : List Cond))))
set_option maxRecDepth 20000 in
theorem inown_c_X11_frozen : ∀ w ∈ own_c_X11_frozen, w ∈ lw_tbl := mem_places [1216, 1466, 1468, 54, 115, 1517] (by decide +kernel)
set_option maxRecDepth 20000 in
theorem in_c_X11_frozen : ∀ w ∈ wp_c_X11_frozen, w ∈ lw_tbl := List.forall_mem_cons.mpr ⟨List.mem_of_getElem? (i := 1619) (by decide +kernel), List.forall_mem_append.mpr ⟨inown_c_X11_frozen, List.forall_mem_append.mpr ⟨in_c_isThere, List.forall_mem_append.mpr ⟨lwb_X11, fun _ h => absurd h List.not_mem_nil⟩⟩⟩⟩
set_option maxRecDepth 20000 in
theorem good_c_X11_frozen : wp_c_X11_frozen.all goodWord = true := by decide +kernel
set_option maxRecDepth 20000 in
theorem g_c_X11_frozen_c_isThere_222 : GoodIn wp_c_X11_frozen (wsV RX11 222 RX11 yX11_isThere wp_c_isThere) := goodIn_sub (List.forall_mem_append.mpr ⟨List.forall_mem_cons.mpr ⟨(List.mem_of_getElem? (i := 2) rfl), List.forall_mem_cons.mpr ⟨(List.mem_of_getElem? (i := 3) rfl), List.forall_mem_cons.mpr ⟨(List.mem_of_getElem? (i := 4) rfl), List.forall_mem_cons.mpr ⟨(List.mem_of_getElem? (i := 5) rfl), fun _ h => absurd h List.not_mem_nil⟩⟩⟩⟩, (fun _ h => (List.mem_cons_of_mem _ (List.mem_append_right _ (List.mem_append_left _ h))))⟩) (by decide +kernel)
set_option maxHeartbeats 4000000 in
set_option maxRecDepth 100000 in
theorem c_X11_frozen (l : Launch) (D : va_G) (sz : Nat) (h0 : Nat) (a : Nat → Nat) (cN : ClassId) (tp : Int32) (sd : Int64) (pa : Int64) (pb : Int64) (dr : Int32) (z1 : Int32) (y2 : Int64) (z3 : Int32)  : Met l yX11_frozen wp_c_X11_frozen ({ frames := 2, cells := 0, slots := 0, locals := 46 }) (PcW D [.ref h0, .int z1, .long y2, .int z3] sz [(h0, .inr (11, fM a tp sd pa pb dr)), (a 3, .inl (cN, 85, .inr (.inl (fun _ => 0))))] [(cN, .long)]) (va_Ql (fun (r : Int64) (_ : Unit) => r = (-1000000000000000)) (fun (_ : Unit) _ => True) (va_A [(h0, .inr (11, fM a tp sd pa pb dr)), (a 3, .inl (cN, 85, .inr (.inl (fun _ => 0))))] sz)) 0 0 (va_A [(h0, .inr (11, fM a tp sd pa pb dr)), (a 3, .inl (cN, 85, .inr (.inl (fun _ => 0))))] sz) := by
  refine Met.ofW (cc := cX11_frozen) (maxL := 8) (ret := (some .long)) (by decide) rfl ?_
  intro p e s m args below meth c s₁ B hml hv
  obtain ⟨rfl, hsz, hP, hK, hD0⟩ := hv
  have hx := B.exec
  have hb := B.bytes
  have hr := B.returns
  have hts := atoms_spec (ws := wp_c_X11_frozen) B.pre
  have hin_X11 : ∀ w ∈ wsX110, w ∈ wp_c_X11_frozen := fun _ h => (List.mem_cons_of_mem _ (List.mem_append_right _ (List.mem_append_right _ (List.mem_append_left _ h))))
  have hown : s.vm.findClass RX11 = some m.cls := findClass_of_methodNamed B.named
  have hlocks := B.notSynchronized
  subst hsz
  have hD := hD0.self (sz := s.heap.size)
  generalize hAe : va_A [(h0, .inr (11, fM a tp sd pa pb dr)), (a 3, .inl (cN, 85, .inr (.inl (fun _ => 0))))] s.heap.size = A at hD ⊢
  have hA : ∀ q : Nat, s.heap.size ≤ q → A q := fun q h => by rw [← hAe]; exact Or.inr h
  have hS : va_S A s.heap s.heap [] := va_S.rf
  have hP : va_P D vwCl [(h0, .inr (11, fM a tp sd pa pb dr)), (a 3, .inl (cN, 85, .inr (.inl (fun _ => 0))))] s.heap := hP
  have hl := lv_entry ([.ref h0, .int z1, .long y2, .int z3]) (n := 8) (Nat.le_of_ble_eq_true rfl)
  rw [lg_entry_eq]
  generalize (lg_sl ([.ref h0, .int z1, .long y2, .int z3]) ++ List.replicate (8 - (lg_sl ([.ref h0, .int z1, .long y2, .int z3])).length) Slot.unset).toArray = ls at hl ⊢
  have hl : lv_has ls 8 [(0, .ref h0), (1, .int z1), (2, .long y2), (4, .int z3)] := hl
  refine lv_aload_n hx hb dX11_frozen_0 rfl (lv_at hl 0 rfl) ?_
  refine lv_iconst (v := 0) hx hb dX11_frozen_1 (by decide) ?_
  refine va_put (D := D) (ci := 11) (v := .int 0) (ty := .int) (C := RX11) (T := TX11) (N := 47) hx hb hts hin_X11 tyX11 tyX11_ok nmX11 hown hK hP hD hS 0 rfl rfl 0 (by decide) (hts (.fieldLink RX11 73 "ClashFreeModel" "thrown" "I") (List.mem_of_getElem? (i := 1) rfl)) (fun _ h9 => h9) rfl (by decide +kernel) rfl rfl (Nat.le_of_ble_eq_true rfl) dX11_frozen_2 (fun H locs hP hD hS => ?_)
  have hP : va_P D vwCl [(h0, .inr (11, fM a tp sd pa pb dr)), (a 3, .inl (cN, 85, .inr (.inl (fun _ => 0))))] H := hP
  have hD : va_D A [(h0, .inr (11, fM a tp sd pa pb dr)), (a 3, .inl (cN, 85, .inr (.inl (fun _ => 0))))] := hD
  refine lv_aload_n hx hb dX11_frozen_5 rfl (lv_at hl 0 rfl) ?_
  refine lv_iload_n hx hb dX11_frozen_6 rfl (lv_at hl 1 rfl) ?_
  have hPc := hP.sub (ws' := [(h0, .inr (11, fM a tp sd pa pb dr)), (a 3, .inl (cN, 85, .inr (.inl (fun _ => 0))))]) [0, 1] rfl
  have hKc := hK.sub (tys' := [(cN, .long)]) [0] rfl
  have hFc := va_free0 hS hA
  refine va_calli (va_runV (As := [.int z1]) (rest := []) ⟨hx, hb, hml, hown, hts⟩ (c_isThere l D _ h0 a cN tp sd pa pb dr z1) (cwV 1 hts g_c_X11_frozen_c_isThere_222 rfl rfl rfl (by decide +kernel) ⟨(Nat.le_of_ble_eq_true rfl), (Nat.le_of_ble_eq_true rfl)⟩) (PcR_V (q0 := 0) hPc hKc rfl rfl) rfl rfl hl.1 rfl (lv_room (Nat.le_of_ble_eq_true rfl)) dX11_frozen_7 ⟨(Nat.le_of_ble_eq_true rfl), (Nat.le_of_ble_eq_true rfl)⟩) hS (fun q _ h => hFc q h) hFc (fun r1 uu tt H locs htt hvm hw hB hz1 hk1 hS => ?_)
  have hP := va_keep hP hk1
  try dsimp only at hw
  clear hB hz1 hk1 hFc hPc hKc
  obtain rfl : r1 = 0 := hw
  refine lv_if_eq (tgt := 26) hx hb dX11_frozen_10 (by decide) (fun hc => ?_) (fun hc => absurd (by decide) hc)
  refine lv_ldc2 (v := (-1000000000000000)) hx hb hown (hts (.constantLong RX11 235 (-1000000000000000)) (List.mem_of_getElem? (i := 6) rfl)) dX11_frozen_26 ?_
  exact W.lret (v := (-1000000000000000)) hx hb hr (fun t ht hW => ⟨⟨(-1000000000000000), (), rfl, rfl, trivial⟩, hS.F ht⟩) hS.2.2 dX11_frozen_29

def own_c_X11_frozenAt : List Cond := [.fieldLink RX11 73 "ClashFreeModel" "thrown" "I", .methodLink RX11 222 yX11_isThere, .instanceMethod yX11_isThere, .selects RX11 yX11_isThere yX11_isThere, .initialized RX11]
def wp_c_X11_frozenAt : List Cond := .code yX11_frozenAt cX11_frozenAt 5 (some .int) :: (own_c_X11_frozenAt ++ (wp_c_isThere ++ (wsX110 ++ ([] : List Cond))))
set_option maxRecDepth 20000 in
theorem inown_c_X11_frozenAt : ∀ w ∈ own_c_X11_frozenAt, w ∈ lw_tbl := mem_places [1216, 1466, 1468, 54, 115] (by decide +kernel)
set_option maxRecDepth 20000 in
theorem in_c_X11_frozenAt : ∀ w ∈ wp_c_X11_frozenAt, w ∈ lw_tbl := List.forall_mem_cons.mpr ⟨List.mem_of_getElem? (i := 1636) (by decide +kernel), List.forall_mem_append.mpr ⟨inown_c_X11_frozenAt, List.forall_mem_append.mpr ⟨in_c_isThere, List.forall_mem_append.mpr ⟨lwb_X11, fun _ h => absurd h List.not_mem_nil⟩⟩⟩⟩
set_option maxRecDepth 20000 in
theorem good_c_X11_frozenAt : wp_c_X11_frozenAt.all goodWord = true := by decide +kernel
set_option maxRecDepth 20000 in
theorem g_c_X11_frozenAt_c_isThere_222 : GoodIn wp_c_X11_frozenAt (wsV RX11 222 RX11 yX11_isThere wp_c_isThere) := goodIn_sub (List.forall_mem_append.mpr ⟨List.forall_mem_cons.mpr ⟨(List.mem_of_getElem? (i := 2) rfl), List.forall_mem_cons.mpr ⟨(List.mem_of_getElem? (i := 3) rfl), List.forall_mem_cons.mpr ⟨(List.mem_of_getElem? (i := 4) rfl), List.forall_mem_cons.mpr ⟨(List.mem_of_getElem? (i := 5) rfl), fun _ h => absurd h List.not_mem_nil⟩⟩⟩⟩, (fun _ h => (List.mem_cons_of_mem _ (List.mem_append_right _ (List.mem_append_left _ h))))⟩) (by decide +kernel)
set_option maxHeartbeats 4000000 in
set_option maxRecDepth 100000 in
theorem c_X11_frozenAt (l : Launch) (D : va_G) (sz : Nat) (h0 : Nat) (a : Nat → Nat) (cN : ClassId) (tp : Int32) (sd : Int64) (pa : Int64) (pb : Int64) (dr : Int32) (z1 : Int32) (y2 : Int64) (z3 : Int32)  : Met l yX11_frozenAt wp_c_X11_frozenAt ({ frames := 2, cells := 0, slots := 0, locals := 46 }) (PcW D [.ref h0, .int z1, .long y2, .int z3] sz [(h0, .inr (11, fM a tp sd pa pb dr)), (a 3, .inl (cN, 85, .inr (.inl (fun _ => 0))))] [(cN, .long)]) (va_Qi (fun (r : Int32) (_ : Unit) => r = (-1)) (fun (_ : Unit) _ => True) (va_A [(h0, .inr (11, fM a tp sd pa pb dr)), (a 3, .inl (cN, 85, .inr (.inl (fun _ => 0))))] sz)) 0 0 (va_A [(h0, .inr (11, fM a tp sd pa pb dr)), (a 3, .inl (cN, 85, .inr (.inl (fun _ => 0))))] sz) := by
  refine Met.ofW (cc := cX11_frozenAt) (maxL := 5) (ret := (some .int)) (by decide) rfl ?_
  intro p e s m args below meth c s₁ B hml hv
  obtain ⟨rfl, hsz, hP, hK, hD0⟩ := hv
  have hx := B.exec
  have hb := B.bytes
  have hr := B.returns
  have hts := atoms_spec (ws := wp_c_X11_frozenAt) B.pre
  have hin_X11 : ∀ w ∈ wsX110, w ∈ wp_c_X11_frozenAt := fun _ h => (List.mem_cons_of_mem _ (List.mem_append_right _ (List.mem_append_right _ (List.mem_append_left _ h))))
  have hown : s.vm.findClass RX11 = some m.cls := findClass_of_methodNamed B.named
  have hlocks := B.notSynchronized
  subst hsz
  have hD := hD0.self (sz := s.heap.size)
  generalize hAe : va_A [(h0, .inr (11, fM a tp sd pa pb dr)), (a 3, .inl (cN, 85, .inr (.inl (fun _ => 0))))] s.heap.size = A at hD ⊢
  have hA : ∀ q : Nat, s.heap.size ≤ q → A q := fun q h => by rw [← hAe]; exact Or.inr h
  have hS : va_S A s.heap s.heap [] := va_S.rf
  have hP : va_P D vwCl [(h0, .inr (11, fM a tp sd pa pb dr)), (a 3, .inl (cN, 85, .inr (.inl (fun _ => 0))))] s.heap := hP
  have hl := lv_entry ([.ref h0, .int z1, .long y2, .int z3]) (n := 5) (Nat.le_of_ble_eq_true rfl)
  rw [lg_entry_eq]
  generalize (lg_sl ([.ref h0, .int z1, .long y2, .int z3]) ++ List.replicate (5 - (lg_sl ([.ref h0, .int z1, .long y2, .int z3])).length) Slot.unset).toArray = ls at hl ⊢
  have hl : lv_has ls 5 [(0, .ref h0), (1, .int z1), (2, .long y2), (4, .int z3)] := hl
  refine lv_aload_n hx hb dX11_frozenAt_0 rfl (lv_at hl 0 rfl) ?_
  refine lv_iconst (v := 0) hx hb dX11_frozenAt_1 (by decide) ?_
  refine va_put (D := D) (ci := 11) (v := .int 0) (ty := .int) (C := RX11) (T := TX11) (N := 47) hx hb hts hin_X11 tyX11 tyX11_ok nmX11 hown hK hP hD hS 0 rfl rfl 0 (by decide) (hts (.fieldLink RX11 73 "ClashFreeModel" "thrown" "I") (List.mem_of_getElem? (i := 1) rfl)) (fun _ h9 => h9) rfl (by decide +kernel) rfl rfl (Nat.le_of_ble_eq_true rfl) dX11_frozenAt_2 (fun H locs hP hD hS => ?_)
  have hP : va_P D vwCl [(h0, .inr (11, fM a tp sd pa pb dr)), (a 3, .inl (cN, 85, .inr (.inl (fun _ => 0))))] H := hP
  have hD : va_D A [(h0, .inr (11, fM a tp sd pa pb dr)), (a 3, .inl (cN, 85, .inr (.inl (fun _ => 0))))] := hD
  refine lv_aload_n hx hb dX11_frozenAt_5 rfl (lv_at hl 0 rfl) ?_
  refine lv_iload_n hx hb dX11_frozenAt_6 rfl (lv_at hl 1 rfl) ?_
  have hPc := hP.sub (ws' := [(h0, .inr (11, fM a tp sd pa pb dr)), (a 3, .inl (cN, 85, .inr (.inl (fun _ => 0))))]) [0, 1] rfl
  have hKc := hK.sub (tys' := [(cN, .long)]) [0] rfl
  have hFc := va_free0 hS hA
  refine va_calli (va_runV (As := [.int z1]) (rest := []) ⟨hx, hb, hml, hown, hts⟩ (c_isThere l D _ h0 a cN tp sd pa pb dr z1) (cwV 1 hts g_c_X11_frozenAt_c_isThere_222 rfl rfl rfl (by decide +kernel) ⟨(Nat.le_of_ble_eq_true rfl), (Nat.le_of_ble_eq_true rfl)⟩) (PcR_V (q0 := 0) hPc hKc rfl rfl) rfl rfl hl.1 rfl (lv_room (Nat.le_of_ble_eq_true rfl)) dX11_frozenAt_7 ⟨(Nat.le_of_ble_eq_true rfl), (Nat.le_of_ble_eq_true rfl)⟩) hS (fun q _ h => hFc q h) hFc (fun r1 uu tt H locs htt hvm hw hB hz1 hk1 hS => ?_)
  have hP := va_keep hP hk1
  try dsimp only at hw
  clear hB hz1 hk1 hFc hPc hKc
  obtain rfl : r1 = 0 := hw
  refine lv_if_ne (tgt := 15) hx hb dX11_frozenAt_10 (by decide) (fun hc => absurd (by decide) hc) (fun hc => ?_)
  refine lv_iconst (v := (-1)) hx hb dX11_frozenAt_13 (by decide) ?_
  exact W.iret (v := (-1)) hx hb hr (fun t ht hW => ⟨⟨(-1), (), rfl, rfl, trivial⟩, hS.F ht⟩) hS.2.2 dX11_frozenAt_14

def own_c_X11_shared : List Cond := [.fieldLink RX11 73 "ClashFreeModel" "thrown" "I", .methodLink RX11 222 yX11_isThere, .instanceMethod yX11_isThere, .selects RX11 yX11_isThere yX11_isThere, .initialized RX11]
def wp_c_X11_shared : List Cond := .code yX11_shared cX11_shared 7 (some .int) :: (own_c_X11_shared ++ (wp_c_isThere ++ (wsX110 ++ ([] : List Cond))))
set_option maxRecDepth 20000 in
theorem inown_c_X11_shared : ∀ w ∈ own_c_X11_shared, w ∈ lw_tbl := mem_places [1216, 1466, 1468, 54, 115] (by decide +kernel)
set_option maxRecDepth 20000 in
theorem in_c_X11_shared : ∀ w ∈ wp_c_X11_shared, w ∈ lw_tbl := List.forall_mem_cons.mpr ⟨List.mem_of_getElem? (i := 1640) (by decide +kernel), List.forall_mem_append.mpr ⟨inown_c_X11_shared, List.forall_mem_append.mpr ⟨in_c_isThere, List.forall_mem_append.mpr ⟨lwb_X11, fun _ h => absurd h List.not_mem_nil⟩⟩⟩⟩
set_option maxRecDepth 20000 in
theorem good_c_X11_shared : wp_c_X11_shared.all goodWord = true := by decide +kernel
set_option maxRecDepth 20000 in
theorem g_c_X11_shared_c_isThere_222 : GoodIn wp_c_X11_shared (wsV RX11 222 RX11 yX11_isThere wp_c_isThere) := goodIn_sub (List.forall_mem_append.mpr ⟨List.forall_mem_cons.mpr ⟨(List.mem_of_getElem? (i := 2) rfl), List.forall_mem_cons.mpr ⟨(List.mem_of_getElem? (i := 3) rfl), List.forall_mem_cons.mpr ⟨(List.mem_of_getElem? (i := 4) rfl), List.forall_mem_cons.mpr ⟨(List.mem_of_getElem? (i := 5) rfl), fun _ h => absurd h List.not_mem_nil⟩⟩⟩⟩, (fun _ h => (List.mem_cons_of_mem _ (List.mem_append_right _ (List.mem_append_left _ h))))⟩) (by decide +kernel)
set_option maxHeartbeats 4000000 in
set_option maxRecDepth 100000 in
theorem c_X11_shared (l : Launch) (D : va_G) (sz : Nat) (h0 : Nat) (a : Nat → Nat) (cN : ClassId) (tp : Int32) (sd : Int64) (pa : Int64) (pb : Int64) (dr : Int32) (z1 : Int32) (z2 : Int32) (z3 : Int32)  : Met l yX11_shared wp_c_X11_shared ({ frames := 2, cells := 0, slots := 0, locals := 46 }) (PcW D [.ref h0, .int z1, .int z2, .int z3] sz [(h0, .inr (11, fM a tp sd pa pb dr)), (a 3, .inl (cN, 85, .inr (.inl (fun _ => 0))))] [(cN, .long)]) (va_Qi (fun (r : Int32) (_ : Unit) => r = (-1)) (fun (_ : Unit) _ => True) (va_A [(h0, .inr (11, fM a tp sd pa pb dr)), (a 3, .inl (cN, 85, .inr (.inl (fun _ => 0))))] sz)) 0 0 (va_A [(h0, .inr (11, fM a tp sd pa pb dr)), (a 3, .inl (cN, 85, .inr (.inl (fun _ => 0))))] sz) := by
  refine Met.ofW (cc := cX11_shared) (maxL := 7) (ret := (some .int)) (by decide) rfl ?_
  intro p e s m args below meth c s₁ B hml hv
  obtain ⟨rfl, hsz, hP, hK, hD0⟩ := hv
  have hx := B.exec
  have hb := B.bytes
  have hr := B.returns
  have hts := atoms_spec (ws := wp_c_X11_shared) B.pre
  have hin_X11 : ∀ w ∈ wsX110, w ∈ wp_c_X11_shared := fun _ h => (List.mem_cons_of_mem _ (List.mem_append_right _ (List.mem_append_right _ (List.mem_append_left _ h))))
  have hown : s.vm.findClass RX11 = some m.cls := findClass_of_methodNamed B.named
  have hlocks := B.notSynchronized
  subst hsz
  have hD := hD0.self (sz := s.heap.size)
  generalize hAe : va_A [(h0, .inr (11, fM a tp sd pa pb dr)), (a 3, .inl (cN, 85, .inr (.inl (fun _ => 0))))] s.heap.size = A at hD ⊢
  have hA : ∀ q : Nat, s.heap.size ≤ q → A q := fun q h => by rw [← hAe]; exact Or.inr h
  have hS : va_S A s.heap s.heap [] := va_S.rf
  have hP : va_P D vwCl [(h0, .inr (11, fM a tp sd pa pb dr)), (a 3, .inl (cN, 85, .inr (.inl (fun _ => 0))))] s.heap := hP
  have hl := lv_entry ([.ref h0, .int z1, .int z2, .int z3]) (n := 7) (Nat.le_of_ble_eq_true rfl)
  rw [lg_entry_eq]
  generalize (lg_sl ([.ref h0, .int z1, .int z2, .int z3]) ++ List.replicate (7 - (lg_sl ([.ref h0, .int z1, .int z2, .int z3])).length) Slot.unset).toArray = ls at hl ⊢
  have hl : lv_has ls 7 [(0, .ref h0), (1, .int z1), (2, .int z2), (3, .int z3)] := hl
  refine lv_aload_n hx hb dX11_shared_0 rfl (lv_at hl 0 rfl) ?_
  refine lv_iconst (v := 0) hx hb dX11_shared_1 (by decide) ?_
  refine va_put (D := D) (ci := 11) (v := .int 0) (ty := .int) (C := RX11) (T := TX11) (N := 47) hx hb hts hin_X11 tyX11 tyX11_ok nmX11 hown hK hP hD hS 0 rfl rfl 0 (by decide) (hts (.fieldLink RX11 73 "ClashFreeModel" "thrown" "I") (List.mem_of_getElem? (i := 1) rfl)) (fun _ h9 => h9) rfl (by decide +kernel) rfl rfl (Nat.le_of_ble_eq_true rfl) dX11_shared_2 (fun H locs hP hD hS => ?_)
  have hP : va_P D vwCl [(h0, .inr (11, fM a tp sd pa pb dr)), (a 3, .inl (cN, 85, .inr (.inl (fun _ => 0))))] H := hP
  have hD : va_D A [(h0, .inr (11, fM a tp sd pa pb dr)), (a 3, .inl (cN, 85, .inr (.inl (fun _ => 0))))] := hD
  refine lv_aload_n hx hb dX11_shared_5 rfl (lv_at hl 0 rfl) ?_
  refine lv_iload_n hx hb dX11_shared_6 rfl (lv_at hl 1 rfl) ?_
  have hPc := hP.sub (ws' := [(h0, .inr (11, fM a tp sd pa pb dr)), (a 3, .inl (cN, 85, .inr (.inl (fun _ => 0))))]) [0, 1] rfl
  have hKc := hK.sub (tys' := [(cN, .long)]) [0] rfl
  have hFc := va_free0 hS hA
  refine va_calli (va_runV (As := [.int z1]) (rest := []) ⟨hx, hb, hml, hown, hts⟩ (c_isThere l D _ h0 a cN tp sd pa pb dr z1) (cwV 1 hts g_c_X11_shared_c_isThere_222 rfl rfl rfl (by decide +kernel) ⟨(Nat.le_of_ble_eq_true rfl), (Nat.le_of_ble_eq_true rfl)⟩) (PcR_V (q0 := 0) hPc hKc rfl rfl) rfl rfl hl.1 rfl (lv_room (Nat.le_of_ble_eq_true rfl)) dX11_shared_7 ⟨(Nat.le_of_ble_eq_true rfl), (Nat.le_of_ble_eq_true rfl)⟩) hS (fun q _ h => hFc q h) hFc (fun r1 uu tt H locs htt hvm hw hB hz1 hk1 hS => ?_)
  have hP := va_keep hP hk1
  try dsimp only at hw
  clear hB hz1 hk1 hFc hPc hKc
  obtain rfl : r1 = 0 := hw
  refine lv_if_eq (tgt := 33) hx hb dX11_shared_10 (by decide) (fun hc => ?_) (fun hc => absurd (by decide) hc)
  refine lv_iconst (v := (-1)) hx hb dX11_shared_33 (by decide) ?_
  exact W.iret (v := (-1)) hx hb hr (fun t ht hW => ⟨⟨(-1), (), rfl, rfl, trivial⟩, hS.F ht⟩) hS.2.2 dX11_shared_34

def own_c_X11_join : List Cond := [.fieldLink RX11 73 "ClashFreeModel" "thrown" "I", .methodLink RX11 222 yX11_isThere, .instanceMethod yX11_isThere, .selects RX11 yX11_isThere yX11_isThere, .initialized RX11]
def wp_c_X11_join : List Cond := .code yX11_join cX11_join 5 (some .int) :: (own_c_X11_join ++ (wp_c_isThere ++ (wsX110 ++ ([] : List Cond))))
set_option maxRecDepth 20000 in
theorem inown_c_X11_join : ∀ w ∈ own_c_X11_join, w ∈ lw_tbl := mem_places [1216, 1466, 1468, 54, 115] (by decide +kernel)
set_option maxRecDepth 20000 in
theorem in_c_X11_join : ∀ w ∈ wp_c_X11_join, w ∈ lw_tbl := List.forall_mem_cons.mpr ⟨List.mem_of_getElem? (i := 1648) (by decide +kernel), List.forall_mem_append.mpr ⟨inown_c_X11_join, List.forall_mem_append.mpr ⟨in_c_isThere, List.forall_mem_append.mpr ⟨lwb_X11, fun _ h => absurd h List.not_mem_nil⟩⟩⟩⟩
set_option maxRecDepth 20000 in
theorem good_c_X11_join : wp_c_X11_join.all goodWord = true := by decide +kernel
set_option maxRecDepth 20000 in
theorem g_c_X11_join_c_isThere_222 : GoodIn wp_c_X11_join (wsV RX11 222 RX11 yX11_isThere wp_c_isThere) := goodIn_sub (List.forall_mem_append.mpr ⟨List.forall_mem_cons.mpr ⟨(List.mem_of_getElem? (i := 2) rfl), List.forall_mem_cons.mpr ⟨(List.mem_of_getElem? (i := 3) rfl), List.forall_mem_cons.mpr ⟨(List.mem_of_getElem? (i := 4) rfl), List.forall_mem_cons.mpr ⟨(List.mem_of_getElem? (i := 5) rfl), fun _ h => absurd h List.not_mem_nil⟩⟩⟩⟩, (fun _ h => (List.mem_cons_of_mem _ (List.mem_append_right _ (List.mem_append_left _ h))))⟩) (by decide +kernel)
set_option maxHeartbeats 4000000 in
set_option maxRecDepth 100000 in
theorem c_X11_join (l : Launch) (D : va_G) (sz : Nat) (h0 : Nat) (a : Nat → Nat) (cN : ClassId) (tp : Int32) (sd : Int64) (pa : Int64) (pb : Int64) (dr : Int32) (z1 : Int32) (z2 : Int32)  : Met l yX11_join wp_c_X11_join ({ frames := 2, cells := 0, slots := 0, locals := 46 }) (PcW D [.ref h0, .int z1, .int z2] sz [(h0, .inr (11, fM a tp sd pa pb dr)), (a 3, .inl (cN, 85, .inr (.inl (fun _ => 0))))] [(cN, .long)]) (va_Qi (fun (r : Int32) (_ : Unit) => r = (-2)) (fun (_ : Unit) _ => True) (va_A [(h0, .inr (11, fM a tp sd pa pb dr)), (a 3, .inl (cN, 85, .inr (.inl (fun _ => 0))))] sz)) 0 0 (va_A [(h0, .inr (11, fM a tp sd pa pb dr)), (a 3, .inl (cN, 85, .inr (.inl (fun _ => 0))))] sz) := by
  refine Met.ofW (cc := cX11_join) (maxL := 5) (ret := (some .int)) (by decide) rfl ?_
  intro p e s m args below meth c s₁ B hml hv
  obtain ⟨rfl, hsz, hP, hK, hD0⟩ := hv
  have hx := B.exec
  have hb := B.bytes
  have hr := B.returns
  have hts := atoms_spec (ws := wp_c_X11_join) B.pre
  have hin_X11 : ∀ w ∈ wsX110, w ∈ wp_c_X11_join := fun _ h => (List.mem_cons_of_mem _ (List.mem_append_right _ (List.mem_append_right _ (List.mem_append_left _ h))))
  have hown : s.vm.findClass RX11 = some m.cls := findClass_of_methodNamed B.named
  have hlocks := B.notSynchronized
  subst hsz
  have hD := hD0.self (sz := s.heap.size)
  generalize hAe : va_A [(h0, .inr (11, fM a tp sd pa pb dr)), (a 3, .inl (cN, 85, .inr (.inl (fun _ => 0))))] s.heap.size = A at hD ⊢
  have hA : ∀ q : Nat, s.heap.size ≤ q → A q := fun q h => by rw [← hAe]; exact Or.inr h
  have hS : va_S A s.heap s.heap [] := va_S.rf
  have hP : va_P D vwCl [(h0, .inr (11, fM a tp sd pa pb dr)), (a 3, .inl (cN, 85, .inr (.inl (fun _ => 0))))] s.heap := hP
  have hl := lv_entry ([.ref h0, .int z1, .int z2]) (n := 5) (Nat.le_of_ble_eq_true rfl)
  rw [lg_entry_eq]
  generalize (lg_sl ([.ref h0, .int z1, .int z2]) ++ List.replicate (5 - (lg_sl ([.ref h0, .int z1, .int z2])).length) Slot.unset).toArray = ls at hl ⊢
  have hl : lv_has ls 5 [(0, .ref h0), (1, .int z1), (2, .int z2)] := hl
  refine lv_aload_n hx hb dX11_join_0 rfl (lv_at hl 0 rfl) ?_
  refine lv_iconst (v := 0) hx hb dX11_join_1 (by decide) ?_
  refine va_put (D := D) (ci := 11) (v := .int 0) (ty := .int) (C := RX11) (T := TX11) (N := 47) hx hb hts hin_X11 tyX11 tyX11_ok nmX11 hown hK hP hD hS 0 rfl rfl 0 (by decide) (hts (.fieldLink RX11 73 "ClashFreeModel" "thrown" "I") (List.mem_of_getElem? (i := 1) rfl)) (fun _ h9 => h9) rfl (by decide +kernel) rfl rfl (Nat.le_of_ble_eq_true rfl) dX11_join_2 (fun H locs hP hD hS => ?_)
  have hP : va_P D vwCl [(h0, .inr (11, fM a tp sd pa pb dr)), (a 3, .inl (cN, 85, .inr (.inl (fun _ => 0))))] H := hP
  have hD : va_D A [(h0, .inr (11, fM a tp sd pa pb dr)), (a 3, .inl (cN, 85, .inr (.inl (fun _ => 0))))] := hD
  refine lv_aload_n hx hb dX11_join_5 rfl (lv_at hl 0 rfl) ?_
  refine lv_iload_n hx hb dX11_join_6 rfl (lv_at hl 1 rfl) ?_
  have hPc := hP.sub (ws' := [(h0, .inr (11, fM a tp sd pa pb dr)), (a 3, .inl (cN, 85, .inr (.inl (fun _ => 0))))]) [0, 1] rfl
  have hKc := hK.sub (tys' := [(cN, .long)]) [0] rfl
  have hFc := va_free0 hS hA
  refine va_calli (va_runV (As := [.int z1]) (rest := []) ⟨hx, hb, hml, hown, hts⟩ (c_isThere l D _ h0 a cN tp sd pa pb dr z1) (cwV 1 hts g_c_X11_join_c_isThere_222 rfl rfl rfl (by decide +kernel) ⟨(Nat.le_of_ble_eq_true rfl), (Nat.le_of_ble_eq_true rfl)⟩) (PcR_V (q0 := 0) hPc hKc rfl rfl) rfl rfl hl.1 rfl (lv_room (Nat.le_of_ble_eq_true rfl)) dX11_join_7 ⟨(Nat.le_of_ble_eq_true rfl), (Nat.le_of_ble_eq_true rfl)⟩) hS (fun q _ h => hFc q h) hFc (fun r1 uu tt H locs htt hvm hw hB hz1 hk1 hS => ?_)
  have hP := va_keep hP hk1
  try dsimp only at hw
  clear hB hz1 hk1 hFc hPc hKc
  obtain rfl : r1 = 0 := hw
  refine lv_if_eq (tgt := 26) hx hb dX11_join_10 (by decide) (fun hc => ?_) (fun hc => absurd (by decide) hc)
  refine lv_bipush (v := (-2)) hx hb dX11_join_26 (by decide) ?_
  exact W.iret (v := (-2)) hx hb hr (fun t ht hW => ⟨⟨(-2), (), rfl, rfl, trivial⟩, hS.F ht⟩) hS.2.2 dX11_join_28

def own_c_X11_cut : List Cond := [.fieldLink RX11 73 "ClashFreeModel" "thrown" "I", .methodLink RX11 222 yX11_isThere, .instanceMethod yX11_isThere, .selects RX11 yX11_isThere yX11_isThere, .initialized RX11]
def wp_c_X11_cut : List Cond := .code yX11_cut cX11_cut 7 (some .int) :: (own_c_X11_cut ++ (wp_c_isThere ++ (wsX110 ++ ([] : List Cond))))
set_option maxRecDepth 20000 in
theorem inown_c_X11_cut : ∀ w ∈ own_c_X11_cut, w ∈ lw_tbl := mem_places [1216, 1466, 1468, 54, 115] (by decide +kernel)
set_option maxRecDepth 20000 in
theorem in_c_X11_cut : ∀ w ∈ wp_c_X11_cut, w ∈ lw_tbl := List.forall_mem_cons.mpr ⟨List.mem_of_getElem? (i := 1652) (by decide +kernel), List.forall_mem_append.mpr ⟨inown_c_X11_cut, List.forall_mem_append.mpr ⟨in_c_isThere, List.forall_mem_append.mpr ⟨lwb_X11, fun _ h => absurd h List.not_mem_nil⟩⟩⟩⟩
set_option maxRecDepth 20000 in
theorem good_c_X11_cut : wp_c_X11_cut.all goodWord = true := by decide +kernel
set_option maxRecDepth 20000 in
theorem g_c_X11_cut_c_isThere_222 : GoodIn wp_c_X11_cut (wsV RX11 222 RX11 yX11_isThere wp_c_isThere) := goodIn_sub (List.forall_mem_append.mpr ⟨List.forall_mem_cons.mpr ⟨(List.mem_of_getElem? (i := 2) rfl), List.forall_mem_cons.mpr ⟨(List.mem_of_getElem? (i := 3) rfl), List.forall_mem_cons.mpr ⟨(List.mem_of_getElem? (i := 4) rfl), List.forall_mem_cons.mpr ⟨(List.mem_of_getElem? (i := 5) rfl), fun _ h => absurd h List.not_mem_nil⟩⟩⟩⟩, (fun _ h => (List.mem_cons_of_mem _ (List.mem_append_right _ (List.mem_append_left _ h))))⟩) (by decide +kernel)
set_option maxHeartbeats 4000000 in
set_option maxRecDepth 100000 in
theorem c_X11_cut (l : Launch) (D : va_G) (sz : Nat) (h0 : Nat) (a : Nat → Nat) (cN : ClassId) (tp : Int32) (sd : Int64) (pa : Int64) (pb : Int64) (dr : Int32) (z1 : Int32) (z2 : Int32) (z3 : Int32)  : Met l yX11_cut wp_c_X11_cut ({ frames := 2, cells := 0, slots := 0, locals := 46 }) (PcW D [.ref h0, .int z1, .int z2, .int z3] sz [(h0, .inr (11, fM a tp sd pa pb dr)), (a 3, .inl (cN, 85, .inr (.inl (fun _ => 0))))] [(cN, .long)]) (va_Qi (fun (r : Int32) (_ : Unit) => r = (-2)) (fun (_ : Unit) _ => True) (va_A [(h0, .inr (11, fM a tp sd pa pb dr)), (a 3, .inl (cN, 85, .inr (.inl (fun _ => 0))))] sz)) 0 0 (va_A [(h0, .inr (11, fM a tp sd pa pb dr)), (a 3, .inl (cN, 85, .inr (.inl (fun _ => 0))))] sz) := by
  refine Met.ofW (cc := cX11_cut) (maxL := 7) (ret := (some .int)) (by decide) rfl ?_
  intro p e s m args below meth c s₁ B hml hv
  obtain ⟨rfl, hsz, hP, hK, hD0⟩ := hv
  have hx := B.exec
  have hb := B.bytes
  have hr := B.returns
  have hts := atoms_spec (ws := wp_c_X11_cut) B.pre
  have hin_X11 : ∀ w ∈ wsX110, w ∈ wp_c_X11_cut := fun _ h => (List.mem_cons_of_mem _ (List.mem_append_right _ (List.mem_append_right _ (List.mem_append_left _ h))))
  have hown : s.vm.findClass RX11 = some m.cls := findClass_of_methodNamed B.named
  have hlocks := B.notSynchronized
  subst hsz
  have hD := hD0.self (sz := s.heap.size)
  generalize hAe : va_A [(h0, .inr (11, fM a tp sd pa pb dr)), (a 3, .inl (cN, 85, .inr (.inl (fun _ => 0))))] s.heap.size = A at hD ⊢
  have hA : ∀ q : Nat, s.heap.size ≤ q → A q := fun q h => by rw [← hAe]; exact Or.inr h
  have hS : va_S A s.heap s.heap [] := va_S.rf
  have hP : va_P D vwCl [(h0, .inr (11, fM a tp sd pa pb dr)), (a 3, .inl (cN, 85, .inr (.inl (fun _ => 0))))] s.heap := hP
  have hl := lv_entry ([.ref h0, .int z1, .int z2, .int z3]) (n := 7) (Nat.le_of_ble_eq_true rfl)
  rw [lg_entry_eq]
  generalize (lg_sl ([.ref h0, .int z1, .int z2, .int z3]) ++ List.replicate (7 - (lg_sl ([.ref h0, .int z1, .int z2, .int z3])).length) Slot.unset).toArray = ls at hl ⊢
  have hl : lv_has ls 7 [(0, .ref h0), (1, .int z1), (2, .int z2), (3, .int z3)] := hl
  refine lv_aload_n hx hb dX11_cut_0 rfl (lv_at hl 0 rfl) ?_
  refine lv_iconst (v := 0) hx hb dX11_cut_1 (by decide) ?_
  refine va_put (D := D) (ci := 11) (v := .int 0) (ty := .int) (C := RX11) (T := TX11) (N := 47) hx hb hts hin_X11 tyX11 tyX11_ok nmX11 hown hK hP hD hS 0 rfl rfl 0 (by decide) (hts (.fieldLink RX11 73 "ClashFreeModel" "thrown" "I") (List.mem_of_getElem? (i := 1) rfl)) (fun _ h9 => h9) rfl (by decide +kernel) rfl rfl (Nat.le_of_ble_eq_true rfl) dX11_cut_2 (fun H locs hP hD hS => ?_)
  have hP : va_P D vwCl [(h0, .inr (11, fM a tp sd pa pb dr)), (a 3, .inl (cN, 85, .inr (.inl (fun _ => 0))))] H := hP
  have hD : va_D A [(h0, .inr (11, fM a tp sd pa pb dr)), (a 3, .inl (cN, 85, .inr (.inl (fun _ => 0))))] := hD
  refine lv_aload_n hx hb dX11_cut_5 rfl (lv_at hl 0 rfl) ?_
  refine lv_iload_n hx hb dX11_cut_6 rfl (lv_at hl 1 rfl) ?_
  have hPc := hP.sub (ws' := [(h0, .inr (11, fM a tp sd pa pb dr)), (a 3, .inl (cN, 85, .inr (.inl (fun _ => 0))))]) [0, 1] rfl
  have hKc := hK.sub (tys' := [(cN, .long)]) [0] rfl
  have hFc := va_free0 hS hA
  refine va_calli (va_runV (As := [.int z1]) (rest := []) ⟨hx, hb, hml, hown, hts⟩ (c_isThere l D _ h0 a cN tp sd pa pb dr z1) (cwV 1 hts g_c_X11_cut_c_isThere_222 rfl rfl rfl (by decide +kernel) ⟨(Nat.le_of_ble_eq_true rfl), (Nat.le_of_ble_eq_true rfl)⟩) (PcR_V (q0 := 0) hPc hKc rfl rfl) rfl rfl hl.1 rfl (lv_room (Nat.le_of_ble_eq_true rfl)) dX11_cut_7 ⟨(Nat.le_of_ble_eq_true rfl), (Nat.le_of_ble_eq_true rfl)⟩) hS (fun q _ h => hFc q h) hFc (fun r1 uu tt H locs htt hvm hw hB hz1 hk1 hS => ?_)
  have hP := va_keep hP hk1
  try dsimp only at hw
  clear hB hz1 hk1 hFc hPc hKc
  obtain rfl : r1 = 0 := hw
  refine lv_if_eq (tgt := 26) hx hb dX11_cut_10 (by decide) (fun hc => ?_) (fun hc => absurd (by decide) hc)
  refine lv_bipush (v := (-2)) hx hb dX11_cut_26 (by decide) ?_
  exact W.iret (v := (-2)) hx hb hr (fun t ht hW => ⟨⟨(-2), (), rfl, rfl, trivial⟩, hS.F ht⟩) hS.2.2 dX11_cut_28

def own_c_X11_values : List Cond := [.fieldLink RX11 73 "ClashFreeModel" "thrown" "I", .methodLink RX11 222 yX11_isThere, .instanceMethod yX11_isThere, .selects RX11 yX11_isThere yX11_isThere, .initialized RX11, .constantLong RX11 235 (-1000000000000000)]
def wp_c_X11_values : List Cond := .code yX11_values cX11_values 7 (some .long) :: (own_c_X11_values ++ (wp_c_isThere ++ (wsX110 ++ ([] : List Cond))))
set_option maxRecDepth 20000 in
theorem inown_c_X11_values : ∀ w ∈ own_c_X11_values, w ∈ lw_tbl := mem_places [1216, 1466, 1468, 54, 115, 1517] (by decide +kernel)
set_option maxRecDepth 20000 in
theorem in_c_X11_values : ∀ w ∈ wp_c_X11_values, w ∈ lw_tbl := List.forall_mem_cons.mpr ⟨List.mem_of_getElem? (i := 1656) (by decide +kernel), List.forall_mem_append.mpr ⟨inown_c_X11_values, List.forall_mem_append.mpr ⟨in_c_isThere, List.forall_mem_append.mpr ⟨lwb_X11, fun _ h => absurd h List.not_mem_nil⟩⟩⟩⟩
set_option maxRecDepth 20000 in
theorem good_c_X11_values : wp_c_X11_values.all goodWord = true := by decide +kernel
set_option maxRecDepth 20000 in
theorem g_c_X11_values_c_isThere_222 : GoodIn wp_c_X11_values (wsV RX11 222 RX11 yX11_isThere wp_c_isThere) := goodIn_sub (List.forall_mem_append.mpr ⟨List.forall_mem_cons.mpr ⟨(List.mem_of_getElem? (i := 2) rfl), List.forall_mem_cons.mpr ⟨(List.mem_of_getElem? (i := 3) rfl), List.forall_mem_cons.mpr ⟨(List.mem_of_getElem? (i := 4) rfl), List.forall_mem_cons.mpr ⟨(List.mem_of_getElem? (i := 5) rfl), fun _ h => absurd h List.not_mem_nil⟩⟩⟩⟩, (fun _ h => (List.mem_cons_of_mem _ (List.mem_append_right _ (List.mem_append_left _ h))))⟩) (by decide +kernel)
set_option maxHeartbeats 4000000 in
set_option maxRecDepth 100000 in
theorem c_X11_values (l : Launch) (D : va_G) (sz : Nat) (h0 : Nat) (a : Nat → Nat) (cN : ClassId) (tp : Int32) (sd : Int64) (pa : Int64) (pb : Int64) (dr : Int32) (z1 : Int32) (z2 : Int32)  : Met l yX11_values wp_c_X11_values ({ frames := 2, cells := 0, slots := 0, locals := 46 }) (PcW D [.ref h0, .int z1, .int z2] sz [(h0, .inr (11, fM a tp sd pa pb dr)), (a 3, .inl (cN, 85, .inr (.inl (fun _ => 0))))] [(cN, .long)]) (va_Ql (fun (r : Int64) (_ : Unit) => r = (-1000000000000000)) (fun (_ : Unit) _ => True) (va_A [(h0, .inr (11, fM a tp sd pa pb dr)), (a 3, .inl (cN, 85, .inr (.inl (fun _ => 0))))] sz)) 0 0 (va_A [(h0, .inr (11, fM a tp sd pa pb dr)), (a 3, .inl (cN, 85, .inr (.inl (fun _ => 0))))] sz) := by
  refine Met.ofW (cc := cX11_values) (maxL := 7) (ret := (some .long)) (by decide) rfl ?_
  intro p e s m args below meth c s₁ B hml hv
  obtain ⟨rfl, hsz, hP, hK, hD0⟩ := hv
  have hx := B.exec
  have hb := B.bytes
  have hr := B.returns
  have hts := atoms_spec (ws := wp_c_X11_values) B.pre
  have hin_X11 : ∀ w ∈ wsX110, w ∈ wp_c_X11_values := fun _ h => (List.mem_cons_of_mem _ (List.mem_append_right _ (List.mem_append_right _ (List.mem_append_left _ h))))
  have hown : s.vm.findClass RX11 = some m.cls := findClass_of_methodNamed B.named
  have hlocks := B.notSynchronized
  subst hsz
  have hD := hD0.self (sz := s.heap.size)
  generalize hAe : va_A [(h0, .inr (11, fM a tp sd pa pb dr)), (a 3, .inl (cN, 85, .inr (.inl (fun _ => 0))))] s.heap.size = A at hD ⊢
  have hA : ∀ q : Nat, s.heap.size ≤ q → A q := fun q h => by rw [← hAe]; exact Or.inr h
  have hS : va_S A s.heap s.heap [] := va_S.rf
  have hP : va_P D vwCl [(h0, .inr (11, fM a tp sd pa pb dr)), (a 3, .inl (cN, 85, .inr (.inl (fun _ => 0))))] s.heap := hP
  have hl := lv_entry ([.ref h0, .int z1, .int z2]) (n := 7) (Nat.le_of_ble_eq_true rfl)
  rw [lg_entry_eq]
  generalize (lg_sl ([.ref h0, .int z1, .int z2]) ++ List.replicate (7 - (lg_sl ([.ref h0, .int z1, .int z2])).length) Slot.unset).toArray = ls at hl ⊢
  have hl : lv_has ls 7 [(0, .ref h0), (1, .int z1), (2, .int z2)] := hl
  refine lv_aload_n hx hb dX11_values_0 rfl (lv_at hl 0 rfl) ?_
  refine lv_iconst (v := 0) hx hb dX11_values_1 (by decide) ?_
  refine va_put (D := D) (ci := 11) (v := .int 0) (ty := .int) (C := RX11) (T := TX11) (N := 47) hx hb hts hin_X11 tyX11 tyX11_ok nmX11 hown hK hP hD hS 0 rfl rfl 0 (by decide) (hts (.fieldLink RX11 73 "ClashFreeModel" "thrown" "I") (List.mem_of_getElem? (i := 1) rfl)) (fun _ h9 => h9) rfl (by decide +kernel) rfl rfl (Nat.le_of_ble_eq_true rfl) dX11_values_2 (fun H locs hP hD hS => ?_)
  have hP : va_P D vwCl [(h0, .inr (11, fM a tp sd pa pb dr)), (a 3, .inl (cN, 85, .inr (.inl (fun _ => 0))))] H := hP
  have hD : va_D A [(h0, .inr (11, fM a tp sd pa pb dr)), (a 3, .inl (cN, 85, .inr (.inl (fun _ => 0))))] := hD
  refine lv_aload_n hx hb dX11_values_5 rfl (lv_at hl 0 rfl) ?_
  refine lv_iload_n hx hb dX11_values_6 rfl (lv_at hl 1 rfl) ?_
  have hPc := hP.sub (ws' := [(h0, .inr (11, fM a tp sd pa pb dr)), (a 3, .inl (cN, 85, .inr (.inl (fun _ => 0))))]) [0, 1] rfl
  have hKc := hK.sub (tys' := [(cN, .long)]) [0] rfl
  have hFc := va_free0 hS hA
  refine va_calli (va_runV (As := [.int z1]) (rest := []) ⟨hx, hb, hml, hown, hts⟩ (c_isThere l D _ h0 a cN tp sd pa pb dr z1) (cwV 1 hts g_c_X11_values_c_isThere_222 rfl rfl rfl (by decide +kernel) ⟨(Nat.le_of_ble_eq_true rfl), (Nat.le_of_ble_eq_true rfl)⟩) (PcR_V (q0 := 0) hPc hKc rfl rfl) rfl rfl hl.1 rfl (lv_room (Nat.le_of_ble_eq_true rfl)) dX11_values_7 ⟨(Nat.le_of_ble_eq_true rfl), (Nat.le_of_ble_eq_true rfl)⟩) hS (fun q _ h => hFc q h) hFc (fun r1 uu tt H locs htt hvm hw hB hz1 hk1 hS => ?_)
  have hP := va_keep hP hk1
  try dsimp only at hw
  clear hB hz1 hk1 hFc hPc hKc
  obtain rfl : r1 = 0 := hw
  refine lv_if_eq (tgt := 25) hx hb dX11_values_10 (by decide) (fun hc => ?_) (fun hc => absurd (by decide) hc)
  refine lv_ldc2 (v := (-1000000000000000)) hx hb hown (hts (.constantLong RX11 235 (-1000000000000000)) (List.mem_of_getElem? (i := 6) rfl)) dX11_values_25 ?_
  exact W.lret (v := (-1000000000000000)) hx hb hr (fun t ht hW => ⟨⟨(-1000000000000000), (), rfl, rfl, trivial⟩, hS.F ht⟩) hS.2.2 dX11_values_28

def own_c_X11_run : List Cond := [.fieldLink RX11 73 "ClashFreeModel" "thrown" "I", .methodLink RX11 222 yX11_isThere, .instanceMethod yX11_isThere, .selects RX11 yX11_isThere yX11_isThere, .initialized RX11]
def wp_c_X11_run : List Cond := .code yX11_run cX11_run 2 (some .int) :: (own_c_X11_run ++ (wp_c_isThere ++ (wsX110 ++ ([] : List Cond))))
set_option maxRecDepth 20000 in
theorem inown_c_X11_run : ∀ w ∈ own_c_X11_run, w ∈ lw_tbl := mem_places [1216, 1466, 1468, 54, 115] (by decide +kernel)
set_option maxRecDepth 20000 in
theorem in_c_X11_run : ∀ w ∈ wp_c_X11_run, w ∈ lw_tbl := List.forall_mem_cons.mpr ⟨List.mem_of_getElem? (i := 1660) (by decide +kernel), List.forall_mem_append.mpr ⟨inown_c_X11_run, List.forall_mem_append.mpr ⟨in_c_isThere, List.forall_mem_append.mpr ⟨lwb_X11, fun _ h => absurd h List.not_mem_nil⟩⟩⟩⟩
set_option maxRecDepth 20000 in
theorem good_c_X11_run : wp_c_X11_run.all goodWord = true := by decide +kernel
set_option maxRecDepth 20000 in
theorem g_c_X11_run_c_isThere_222 : GoodIn wp_c_X11_run (wsV RX11 222 RX11 yX11_isThere wp_c_isThere) := goodIn_sub (List.forall_mem_append.mpr ⟨List.forall_mem_cons.mpr ⟨(List.mem_of_getElem? (i := 2) rfl), List.forall_mem_cons.mpr ⟨(List.mem_of_getElem? (i := 3) rfl), List.forall_mem_cons.mpr ⟨(List.mem_of_getElem? (i := 4) rfl), List.forall_mem_cons.mpr ⟨(List.mem_of_getElem? (i := 5) rfl), fun _ h => absurd h List.not_mem_nil⟩⟩⟩⟩, (fun _ h => (List.mem_cons_of_mem _ (List.mem_append_right _ (List.mem_append_left _ h))))⟩) (by decide +kernel)
set_option maxHeartbeats 4000000 in
set_option maxRecDepth 100000 in
theorem c_X11_run (l : Launch) (D : va_G) (sz : Nat) (h0 : Nat) (a : Nat → Nat) (cN : ClassId) (tp : Int32) (sd : Int64) (pa : Int64) (pb : Int64) (dr : Int32) (z1 : Int32)  : Met l yX11_run wp_c_X11_run ({ frames := 2, cells := 0, slots := 0, locals := 46 }) (PcW D [.ref h0, .int z1] sz [(h0, .inr (11, fM a tp sd pa pb dr)), (a 3, .inl (cN, 85, .inr (.inl (fun _ => 0))))] [(cN, .long)]) (va_Qi (fun (r : Int32) (_ : Unit) => r = (-2)) (fun (_ : Unit) _ => True) (va_A [(h0, .inr (11, fM a tp sd pa pb dr)), (a 3, .inl (cN, 85, .inr (.inl (fun _ => 0))))] sz)) 0 0 (va_A [(h0, .inr (11, fM a tp sd pa pb dr)), (a 3, .inl (cN, 85, .inr (.inl (fun _ => 0))))] sz) := by
  refine Met.ofW (cc := cX11_run) (maxL := 2) (ret := (some .int)) (by decide) rfl ?_
  intro p e s m args below meth c s₁ B hml hv
  obtain ⟨rfl, hsz, hP, hK, hD0⟩ := hv
  have hx := B.exec
  have hb := B.bytes
  have hr := B.returns
  have hts := atoms_spec (ws := wp_c_X11_run) B.pre
  have hin_X11 : ∀ w ∈ wsX110, w ∈ wp_c_X11_run := fun _ h => (List.mem_cons_of_mem _ (List.mem_append_right _ (List.mem_append_right _ (List.mem_append_left _ h))))
  have hown : s.vm.findClass RX11 = some m.cls := findClass_of_methodNamed B.named
  have hlocks := B.notSynchronized
  subst hsz
  have hD := hD0.self (sz := s.heap.size)
  generalize hAe : va_A [(h0, .inr (11, fM a tp sd pa pb dr)), (a 3, .inl (cN, 85, .inr (.inl (fun _ => 0))))] s.heap.size = A at hD ⊢
  have hA : ∀ q : Nat, s.heap.size ≤ q → A q := fun q h => by rw [← hAe]; exact Or.inr h
  have hS : va_S A s.heap s.heap [] := va_S.rf
  have hP : va_P D vwCl [(h0, .inr (11, fM a tp sd pa pb dr)), (a 3, .inl (cN, 85, .inr (.inl (fun _ => 0))))] s.heap := hP
  have hl := lv_entry ([.ref h0, .int z1]) (n := 2) (Nat.le_of_ble_eq_true rfl)
  rw [lg_entry_eq]
  generalize (lg_sl ([.ref h0, .int z1]) ++ List.replicate (2 - (lg_sl ([.ref h0, .int z1])).length) Slot.unset).toArray = ls at hl ⊢
  have hl : lv_has ls 2 [(0, .ref h0), (1, .int z1)] := hl
  refine lv_aload_n hx hb dX11_run_0 rfl (lv_at hl 0 rfl) ?_
  refine lv_iconst (v := 0) hx hb dX11_run_1 (by decide) ?_
  refine va_put (D := D) (ci := 11) (v := .int 0) (ty := .int) (C := RX11) (T := TX11) (N := 47) hx hb hts hin_X11 tyX11 tyX11_ok nmX11 hown hK hP hD hS 0 rfl rfl 0 (by decide) (hts (.fieldLink RX11 73 "ClashFreeModel" "thrown" "I") (List.mem_of_getElem? (i := 1) rfl)) (fun _ h9 => h9) rfl (by decide +kernel) rfl rfl (Nat.le_of_ble_eq_true rfl) dX11_run_2 (fun H locs hP hD hS => ?_)
  have hP : va_P D vwCl [(h0, .inr (11, fM a tp sd pa pb dr)), (a 3, .inl (cN, 85, .inr (.inl (fun _ => 0))))] H := hP
  have hD : va_D A [(h0, .inr (11, fM a tp sd pa pb dr)), (a 3, .inl (cN, 85, .inr (.inl (fun _ => 0))))] := hD
  refine lv_aload_n hx hb dX11_run_5 rfl (lv_at hl 0 rfl) ?_
  refine lv_iload_n hx hb dX11_run_6 rfl (lv_at hl 1 rfl) ?_
  have hPc := hP.sub (ws' := [(h0, .inr (11, fM a tp sd pa pb dr)), (a 3, .inl (cN, 85, .inr (.inl (fun _ => 0))))]) [0, 1] rfl
  have hKc := hK.sub (tys' := [(cN, .long)]) [0] rfl
  have hFc := va_free0 hS hA
  refine va_calli (va_runV (As := [.int z1]) (rest := []) ⟨hx, hb, hml, hown, hts⟩ (c_isThere l D _ h0 a cN tp sd pa pb dr z1) (cwV 1 hts g_c_X11_run_c_isThere_222 rfl rfl rfl (by decide +kernel) ⟨(Nat.le_of_ble_eq_true rfl), (Nat.le_of_ble_eq_true rfl)⟩) (PcR_V (q0 := 0) hPc hKc rfl rfl) rfl rfl hl.1 rfl (lv_room (Nat.le_of_ble_eq_true rfl)) dX11_run_7 ⟨(Nat.le_of_ble_eq_true rfl), (Nat.le_of_ble_eq_true rfl)⟩) hS (fun q _ h => hFc q h) hFc (fun r1 uu tt H locs htt hvm hw hB hz1 hk1 hS => ?_)
  have hP := va_keep hP hk1
  try dsimp only at hw
  clear hB hz1 hk1 hFc hPc hKc
  obtain rfl : r1 = 0 := hw
  refine lv_if_ne (tgt := 16) hx hb dX11_run_10 (by decide) (fun hc => absurd (by decide) hc) (fun hc => ?_)
  refine lv_bipush (v := (-2)) hx hb dX11_run_13 (by decide) ?_
  exact W.iret (v := (-2)) hx hb hr (fun t ht hW => ⟨⟨(-2), (), rfl, rfl, trivial⟩, hS.F ht⟩) hS.2.2 dX11_run_15

def own_c_X11_image : List Cond := [.fieldLink RX11 73 "ClashFreeModel" "thrown" "I", .methodLink RX11 222 yX11_isThere, .instanceMethod yX11_isThere, .selects RX11 yX11_isThere yX11_isThere, .initialized RX11]
def wp_c_X11_image : List Cond := .code yX11_image cX11_image 4 (some .int) :: (own_c_X11_image ++ (wp_c_isThere ++ (wsX110 ++ ([] : List Cond))))
set_option maxRecDepth 20000 in
theorem inown_c_X11_image : ∀ w ∈ own_c_X11_image, w ∈ lw_tbl := mem_places [1216, 1466, 1468, 54, 115] (by decide +kernel)
set_option maxRecDepth 20000 in
theorem in_c_X11_image : ∀ w ∈ wp_c_X11_image, w ∈ lw_tbl := List.forall_mem_cons.mpr ⟨List.mem_of_getElem? (i := 1793) (by decide +kernel), List.forall_mem_append.mpr ⟨inown_c_X11_image, List.forall_mem_append.mpr ⟨in_c_isThere, List.forall_mem_append.mpr ⟨lwb_X11, fun _ h => absurd h List.not_mem_nil⟩⟩⟩⟩
set_option maxRecDepth 20000 in
theorem good_c_X11_image : wp_c_X11_image.all goodWord = true := by decide +kernel
set_option maxRecDepth 20000 in
theorem g_c_X11_image_c_isThere_222 : GoodIn wp_c_X11_image (wsV RX11 222 RX11 yX11_isThere wp_c_isThere) := goodIn_sub (List.forall_mem_append.mpr ⟨List.forall_mem_cons.mpr ⟨(List.mem_of_getElem? (i := 2) rfl), List.forall_mem_cons.mpr ⟨(List.mem_of_getElem? (i := 3) rfl), List.forall_mem_cons.mpr ⟨(List.mem_of_getElem? (i := 4) rfl), List.forall_mem_cons.mpr ⟨(List.mem_of_getElem? (i := 5) rfl), fun _ h => absurd h List.not_mem_nil⟩⟩⟩⟩, (fun _ h => (List.mem_cons_of_mem _ (List.mem_append_right _ (List.mem_append_left _ h))))⟩) (by decide +kernel)
set_option maxHeartbeats 4000000 in
set_option maxRecDepth 100000 in
theorem c_X11_image (l : Launch) (D : va_G) (sz : Nat) (h0 : Nat) (a : Nat → Nat) (cN : ClassId) (tp : Int32) (sd : Int64) (pa : Int64) (pb : Int64) (dr : Int32) (z1 : Int32)  : Met l yX11_image wp_c_X11_image ({ frames := 2, cells := 0, slots := 0, locals := 46 }) (PcW D [.ref h0, .int z1] sz [(h0, .inr (11, fM a tp sd pa pb dr)), (a 3, .inl (cN, 85, .inr (.inl (fun _ => 0))))] [(cN, .long)]) (va_Qi (fun (r : Int32) (_ : Unit) => r = (-1)) (fun (_ : Unit) _ => True) (va_A [(h0, .inr (11, fM a tp sd pa pb dr)), (a 3, .inl (cN, 85, .inr (.inl (fun _ => 0))))] sz)) 0 0 (va_A [(h0, .inr (11, fM a tp sd pa pb dr)), (a 3, .inl (cN, 85, .inr (.inl (fun _ => 0))))] sz) := by
  refine Met.ofW (cc := cX11_image) (maxL := 4) (ret := (some .int)) (by decide) rfl ?_
  intro p e s m args below meth c s₁ B hml hv
  obtain ⟨rfl, hsz, hP, hK, hD0⟩ := hv
  have hx := B.exec
  have hb := B.bytes
  have hr := B.returns
  have hts := atoms_spec (ws := wp_c_X11_image) B.pre
  have hin_X11 : ∀ w ∈ wsX110, w ∈ wp_c_X11_image := fun _ h => (List.mem_cons_of_mem _ (List.mem_append_right _ (List.mem_append_right _ (List.mem_append_left _ h))))
  have hown : s.vm.findClass RX11 = some m.cls := findClass_of_methodNamed B.named
  have hlocks := B.notSynchronized
  subst hsz
  have hD := hD0.self (sz := s.heap.size)
  generalize hAe : va_A [(h0, .inr (11, fM a tp sd pa pb dr)), (a 3, .inl (cN, 85, .inr (.inl (fun _ => 0))))] s.heap.size = A at hD ⊢
  have hA : ∀ q : Nat, s.heap.size ≤ q → A q := fun q h => by rw [← hAe]; exact Or.inr h
  have hS : va_S A s.heap s.heap [] := va_S.rf
  have hP : va_P D vwCl [(h0, .inr (11, fM a tp sd pa pb dr)), (a 3, .inl (cN, 85, .inr (.inl (fun _ => 0))))] s.heap := hP
  have hl := lv_entry ([.ref h0, .int z1]) (n := 4) (Nat.le_of_ble_eq_true rfl)
  rw [lg_entry_eq]
  generalize (lg_sl ([.ref h0, .int z1]) ++ List.replicate (4 - (lg_sl ([.ref h0, .int z1])).length) Slot.unset).toArray = ls at hl ⊢
  have hl : lv_has ls 4 [(0, .ref h0), (1, .int z1)] := hl
  refine lv_aload_n hx hb dX11_image_0 rfl (lv_at hl 0 rfl) ?_
  refine lv_iconst (v := 0) hx hb dX11_image_1 (by decide) ?_
  refine va_put (D := D) (ci := 11) (v := .int 0) (ty := .int) (C := RX11) (T := TX11) (N := 47) hx hb hts hin_X11 tyX11 tyX11_ok nmX11 hown hK hP hD hS 0 rfl rfl 0 (by decide) (hts (.fieldLink RX11 73 "ClashFreeModel" "thrown" "I") (List.mem_of_getElem? (i := 1) rfl)) (fun _ h9 => h9) rfl (by decide +kernel) rfl rfl (Nat.le_of_ble_eq_true rfl) dX11_image_2 (fun H locs hP hD hS => ?_)
  have hP : va_P D vwCl [(h0, .inr (11, fM a tp sd pa pb dr)), (a 3, .inl (cN, 85, .inr (.inl (fun _ => 0))))] H := hP
  have hD : va_D A [(h0, .inr (11, fM a tp sd pa pb dr)), (a 3, .inl (cN, 85, .inr (.inl (fun _ => 0))))] := hD
  refine lv_aload_n hx hb dX11_image_5 rfl (lv_at hl 0 rfl) ?_
  refine lv_iload_n hx hb dX11_image_6 rfl (lv_at hl 1 rfl) ?_
  have hPc := hP.sub (ws' := [(h0, .inr (11, fM a tp sd pa pb dr)), (a 3, .inl (cN, 85, .inr (.inl (fun _ => 0))))]) [0, 1] rfl
  have hKc := hK.sub (tys' := [(cN, .long)]) [0] rfl
  have hFc := va_free0 hS hA
  refine va_calli (va_runV (As := [.int z1]) (rest := []) ⟨hx, hb, hml, hown, hts⟩ (c_isThere l D _ h0 a cN tp sd pa pb dr z1) (cwV 1 hts g_c_X11_image_c_isThere_222 rfl rfl rfl (by decide +kernel) ⟨(Nat.le_of_ble_eq_true rfl), (Nat.le_of_ble_eq_true rfl)⟩) (PcR_V (q0 := 0) hPc hKc rfl rfl) rfl rfl hl.1 rfl (lv_room (Nat.le_of_ble_eq_true rfl)) dX11_image_7 ⟨(Nat.le_of_ble_eq_true rfl), (Nat.le_of_ble_eq_true rfl)⟩) hS (fun q _ h => hFc q h) hFc (fun r1 uu tt H locs htt hvm hw hB hz1 hk1 hS => ?_)
  have hP := va_keep hP hk1
  try dsimp only at hw
  clear hB hz1 hk1 hFc hPc hKc
  obtain rfl : r1 = 0 := hw
  refine lv_if_ne (tgt := 15) hx hb dX11_image_10 (by decide) (fun hc => absurd (by decide) hc) (fun hc => ?_)
  refine lv_iconst (v := (-1)) hx hb dX11_image_13 (by decide) ?_
  exact W.iret (v := (-1)) hx hb hr (fun t ht hW => ⟨⟨(-1), (), rfl, rfl, trivial⟩, hS.F ht⟩) hS.2.2 dX11_image_14

def own_c_X11_copy : List Cond := [.fieldLink RX11 73 "ClashFreeModel" "thrown" "I", .constantLong RX11 87 (3), .methodLink RX11 83 yX11_isIn, .static yX11_isIn, .initialized RX11, .methodLink RX11 222 yX11_isThere, .instanceMethod yX11_isThere, .selects RX11 yX11_isThere yX11_isThere]
def wp_c_X11_copy : List Cond := .code yX11_copy cX11_copy 4 (some .int) :: (own_c_X11_copy ++ (wp_c_isIn ++ (wp_c_isThere ++ (wsX110 ++ ([] : List Cond)))))
set_option maxRecDepth 20000 in
theorem inown_c_X11_copy : ∀ w ∈ own_c_X11_copy, w ∈ lw_tbl := mem_places [1216, 1378, 1371, 1372, 115, 1466, 1468, 54] (by decide +kernel)
set_option maxRecDepth 20000 in
theorem in_c_X11_copy : ∀ w ∈ wp_c_X11_copy, w ∈ lw_tbl := List.forall_mem_cons.mpr ⟨List.mem_of_getElem? (i := 1822) (by decide +kernel), List.forall_mem_append.mpr ⟨inown_c_X11_copy, List.forall_mem_append.mpr ⟨in_c_isIn, List.forall_mem_append.mpr ⟨in_c_isThere, List.forall_mem_append.mpr ⟨lwb_X11, fun _ h => absurd h List.not_mem_nil⟩⟩⟩⟩⟩
set_option maxRecDepth 20000 in
theorem good_c_X11_copy : wp_c_X11_copy.all goodWord = true := by decide +kernel
set_option maxRecDepth 20000 in
theorem g_c_X11_copy_c_isIn_83 : GoodIn wp_c_X11_copy (va_wsS RX11 83 yX11_isIn wp_c_isIn) := goodIn_sub (List.forall_mem_append.mpr ⟨List.forall_mem_cons.mpr ⟨(List.mem_of_getElem? (i := 3) rfl), List.forall_mem_cons.mpr ⟨(List.mem_of_getElem? (i := 4) rfl), List.forall_mem_cons.mpr ⟨(List.mem_of_getElem? (i := 5) rfl), fun _ h => absurd h List.not_mem_nil⟩⟩⟩, (fun _ h => (List.mem_cons_of_mem _ (List.mem_append_right _ (List.mem_append_left _ h))))⟩) (by decide +kernel)
set_option maxRecDepth 20000 in
theorem g_c_X11_copy_c_isThere_222 : GoodIn wp_c_X11_copy (wsV RX11 222 RX11 yX11_isThere wp_c_isThere) := goodIn_sub (List.forall_mem_append.mpr ⟨List.forall_mem_cons.mpr ⟨(List.mem_of_getElem? (i := 6) rfl), List.forall_mem_cons.mpr ⟨(List.mem_of_getElem? (i := 7) rfl), List.forall_mem_cons.mpr ⟨(List.mem_of_getElem? (i := 8) rfl), List.forall_mem_cons.mpr ⟨(List.mem_of_getElem? (i := 5) rfl), fun _ h => absurd h List.not_mem_nil⟩⟩⟩⟩, (fun _ h => (List.mem_cons_of_mem _ (List.mem_append_right _ (List.mem_append_right _ (List.mem_append_left _ h)))))⟩) (by decide +kernel)
set_option maxHeartbeats 4000000 in
set_option maxRecDepth 100000 in
theorem c_X11_copy (l : Launch) (D : va_G) (sz : Nat) (h0 : Nat) (a : Nat → Nat) (cN : ClassId) (tp : Int32) (sd : Int64) (pa : Int64) (pb : Int64) (dr : Int32) (z1 : Int32) (z2 : Int32)  : Met l yX11_copy wp_c_X11_copy ({ frames := 2, cells := 0, slots := 0, locals := 46 }) (PcW D [.ref h0, .int z1, .int z2] sz [(h0, .inr (11, fM a tp sd pa pb dr)), (a 3, .inl (cN, 85, .inr (.inl (fun _ => 0))))] [(cN, .long)]) (va_Qi (fun (r : Int32) (_ : Unit) => r = (-2)) (fun (_ : Unit) _ => True) (va_A [(h0, .inr (11, fM a tp sd pa pb dr)), (a 3, .inl (cN, 85, .inr (.inl (fun _ => 0))))] sz)) 0 0 (va_A [(h0, .inr (11, fM a tp sd pa pb dr)), (a 3, .inl (cN, 85, .inr (.inl (fun _ => 0))))] sz) := by
  refine Met.ofW (cc := cX11_copy) (maxL := 4) (ret := (some .int)) (by decide) rfl ?_
  intro p e s m args below meth c s₁ B hml hv
  obtain ⟨rfl, hsz, hP, hK, hD0⟩ := hv
  have hx := B.exec
  have hb := B.bytes
  have hr := B.returns
  have hts := atoms_spec (ws := wp_c_X11_copy) B.pre
  have hin_X11 : ∀ w ∈ wsX110, w ∈ wp_c_X11_copy := fun _ h => (List.mem_cons_of_mem _ (List.mem_append_right _ (List.mem_append_right _ (List.mem_append_right _ (List.mem_append_left _ h)))))
  have hown : s.vm.findClass RX11 = some m.cls := findClass_of_methodNamed B.named
  have hlocks := B.notSynchronized
  subst hsz
  have hD := hD0.self (sz := s.heap.size)
  generalize hAe : va_A [(h0, .inr (11, fM a tp sd pa pb dr)), (a 3, .inl (cN, 85, .inr (.inl (fun _ => 0))))] s.heap.size = A at hD ⊢
  have hA : ∀ q : Nat, s.heap.size ≤ q → A q := fun q h => by rw [← hAe]; exact Or.inr h
  have hS : va_S A s.heap s.heap [] := va_S.rf
  have hP : va_P D vwCl [(h0, .inr (11, fM a tp sd pa pb dr)), (a 3, .inl (cN, 85, .inr (.inl (fun _ => 0))))] s.heap := hP
  have hl := lv_entry ([.ref h0, .int z1, .int z2]) (n := 4) (Nat.le_of_ble_eq_true rfl)
  rw [lg_entry_eq]
  generalize (lg_sl ([.ref h0, .int z1, .int z2]) ++ List.replicate (4 - (lg_sl ([.ref h0, .int z1, .int z2])).length) Slot.unset).toArray = ls at hl ⊢
  have hl : lv_has ls 4 [(0, .ref h0), (1, .int z1), (2, .int z2)] := hl
  refine lv_aload_n hx hb dX11_copy_0 rfl (lv_at hl 0 rfl) ?_
  refine lv_iconst (v := 0) hx hb dX11_copy_1 (by decide) ?_
  refine va_put (D := D) (ci := 11) (v := .int 0) (ty := .int) (C := RX11) (T := TX11) (N := 47) hx hb hts hin_X11 tyX11 tyX11_ok nmX11 hown hK hP hD hS 0 rfl rfl 0 (by decide) (hts (.fieldLink RX11 73 "ClashFreeModel" "thrown" "I") (List.mem_of_getElem? (i := 1) rfl)) (fun _ h9 => h9) rfl (by decide +kernel) rfl rfl (Nat.le_of_ble_eq_true rfl) dX11_copy_2 (fun H locs hP hD hS => ?_)
  have hP : va_P D vwCl [(h0, .inr (11, fM a tp sd pa pb dr)), (a 3, .inl (cN, 85, .inr (.inl (fun _ => 0))))] H := hP
  have hD : va_D A [(h0, .inr (11, fM a tp sd pa pb dr)), (a 3, .inl (cN, 85, .inr (.inl (fun _ => 0))))] := hD
  refine lv_iload_n hx hb dX11_copy_5 rfl (lv_at hl 1 rfl) ?_
  refine lv_i2l hx hb dX11_copy_6 rfl ?_
  refine lv_lconst (v := 0) hx hb dX11_copy_7 (by decide) ?_
  refine lv_ldc2 (v := 3) hx hb hown (hts (.constantLong RX11 87 (3)) (List.mem_of_getElem? (i := 2) rfl)) dX11_copy_8 ?_
  have hPc := hP.sub (ws' := []) [] rfl
  have hKc := hK.sub (tys' := []) [] rfl
  have hFc := va_free0 hS hA
  refine va_calli (va_runS (As := [.long (Int32.toInt64 z1), .long 0, .long 3]) (rest := []) ⟨hx, hb, hml, hown, hts⟩ (c_isIn l D _ (Int32.toInt64 z1) 0 3) (va_cwS 3 hts g_c_X11_copy_c_isIn_83 rfl rfl rfl (by decide +kernel) ⟨(Nat.le_of_ble_eq_true rfl), (Nat.le_of_ble_eq_true rfl)⟩) (PcR_S hPc hKc) rfl rfl hl.1 rfl (lv_room (Nat.le_of_ble_eq_true rfl)) dX11_copy_11 ⟨(Nat.le_of_ble_eq_true rfl), (Nat.le_of_ble_eq_true rfl)⟩) hS (fun q _ h => hFc q h) hFc (fun r1 uu tt H locs htt hvm hw hB hz1 hk1 hS => ?_)
  have hP := va_keep hP hk1
  try dsimp only at hw
  clear hB hz1 hk1 hFc hPc hKc
  have hw_r1 := hw
  refine lv_if_eq (tgt := 30) hx hb dX11_copy_14 (by decide) (fun hc2 => ?_) (fun hc2 => ?_)
  ·
    refine lv_bipush (v := (-2)) hx hb dX11_copy_30 (by decide) ?_
    exact W.iret (v := (-2)) hx hb hr (fun t ht hW => ⟨⟨(-2), (), rfl, rfl, trivial⟩, hS.F ht⟩) hS.2.2 dX11_copy_32
  ·
    refine lv_aload_n hx hb dX11_copy_17 rfl (lv_at hl 0 rfl) ?_
    refine lv_iload_n hx hb dX11_copy_18 rfl (lv_at hl 2 rfl) ?_
    have hPc := hP.sub (ws' := [(h0, .inr (11, fM a tp sd pa pb dr)), (a 3, .inl (cN, 85, .inr (.inl (fun _ => 0))))]) [0, 1] rfl
    have hKc := hK.sub (tys' := [(cN, .long)]) [0] rfl
    have hFc := va_free0 hS hA
    refine va_calli (va_runV (As := [.int z2]) (rest := []) ⟨hx, hb, hml, hown, hts⟩ (c_isThere l D _ h0 a cN tp sd pa pb dr z2) (cwV 1 hts g_c_X11_copy_c_isThere_222 rfl rfl rfl (by decide +kernel) ⟨(Nat.le_of_ble_eq_true rfl), (Nat.le_of_ble_eq_true rfl)⟩) (PcR_V (q0 := 0) hPc hKc rfl rfl) rfl rfl hl.1 rfl (lv_room (Nat.le_of_ble_eq_true rfl)) dX11_copy_19 ⟨(Nat.le_of_ble_eq_true rfl), (Nat.le_of_ble_eq_true rfl)⟩) hS (fun q _ h => hFc q h) hFc (fun r3 uu tt H locs htt hvm hw hB hz1 hk1 hS => ?_)
    have hP := va_keep hP hk1
    try dsimp only at hw
    clear hB hz1 hk1 hFc hPc hKc
    obtain rfl : r3 = 0 := hw
    refine lv_if_eq (tgt := 30) hx hb dX11_copy_22 (by decide) (fun hc => ?_) (fun hc => absurd (by decide) hc)
    refine lv_bipush (v := (-2)) hx hb dX11_copy_30 (by decide) ?_
    exact W.iret (v := (-2)) hx hb hr (fun t ht hW => ⟨⟨(-2), (), rfl, rfl, trivial⟩, hS.F ht⟩) hS.2.2 dX11_copy_32
end
section
def own_c_X10_end : List Cond := [.fieldLink RX10 19 "ClashFree" "taped" "I"]
def wp_c_X10_end : List Cond := .code yX10_end cX10_end 2 (some .boolean) :: (own_c_X10_end ++ (wsX100 ++ ([] : List Cond)))
set_option maxRecDepth 20000 in
theorem inown_c_X10_end : ∀ w ∈ own_c_X10_end, w ∈ lw_tbl := mem_places [414] (by decide +kernel)
set_option maxRecDepth 20000 in
theorem in_c_X10_end : ∀ w ∈ wp_c_X10_end, w ∈ lw_tbl := List.forall_mem_cons.mpr ⟨List.mem_of_getElem? (i := 444) (by decide +kernel), List.forall_mem_append.mpr ⟨inown_c_X10_end, List.forall_mem_append.mpr ⟨lwb_X10, fun _ h => absurd h List.not_mem_nil⟩⟩⟩
set_option maxRecDepth 20000 in
theorem good_c_X10_end : wp_c_X10_end.all goodWord = true := by decide +kernel
set_option maxHeartbeats 4000000 in
set_option maxRecDepth 100000 in
theorem c_X10_end (l : Launch) (D : va_G) (sz : Nat) (h0 : Nat) (ca : Nat → Nat) (z1 : Int32)  : Met l yX10_end wp_c_X10_end ({ frames := 0, cells := 0, slots := 0, locals := 0 }) (PcW D [.ref h0, .int z1] sz [(h0, .inr (10, [.ref (ca 0), .ref (ca 1), .int 0, .ref (ca 3), .ref (ca 4), .ref (ca 5), .ref (ca 6)]))] []) (va_Qi (fun (r : Int32) (_ : Unit) => r = if z1 = 0 then 1 else 0) (fun (_ : Unit) _ => True) (va_A [(h0, .inr (10, [.ref (ca 0), .ref (ca 1), .int 0, .ref (ca 3), .ref (ca 4), .ref (ca 5), .ref (ca 6)]))] sz)) 0 0 (va_A [(h0, .inr (10, [.ref (ca 0), .ref (ca 1), .int 0, .ref (ca 3), .ref (ca 4), .ref (ca 5), .ref (ca 6)]))] sz) := by
  refine Met.ofW (cc := cX10_end) (maxL := 2) (ret := (some .boolean)) (by decide) rfl ?_
  intro p e s m args below meth c s₁ B hml hv
  obtain ⟨rfl, hsz, hP, hK, hD0⟩ := hv
  have hx := B.exec
  have hb := B.bytes
  have hr := B.returns
  have hts := atoms_spec (ws := wp_c_X10_end) B.pre
  have hin_X10 : ∀ w ∈ wsX100, w ∈ wp_c_X10_end := fun _ h => (List.mem_cons_of_mem _ (List.mem_append_right _ (List.mem_append_left _ h)))
  have hown : s.vm.findClass RX10 = some m.cls := findClass_of_methodNamed B.named
  have hlocks := B.notSynchronized
  subst hsz
  have hD := hD0.self (sz := s.heap.size)
  generalize hAe : va_A [(h0, .inr (10, [.ref (ca 0), .ref (ca 1), .int 0, .ref (ca 3), .ref (ca 4), .ref (ca 5), .ref (ca 6)]))] s.heap.size = A at hD ⊢
  have hA : ∀ q : Nat, s.heap.size ≤ q → A q := fun q h => by rw [← hAe]; exact Or.inr h
  have hS : va_S A s.heap s.heap [] := va_S.rf
  have hP : va_P D vwCl [(h0, .inr (10, [.ref (ca 0), .ref (ca 1), .int 0, .ref (ca 3), .ref (ca 4), .ref (ca 5), .ref (ca 6)]))] s.heap := hP
  have hl := lv_entry ([.ref h0, .int z1]) (n := 2) (Nat.le_of_ble_eq_true rfl)
  rw [lg_entry_eq]
  generalize (lg_sl ([.ref h0, .int z1]) ++ List.replicate (2 - (lg_sl ([.ref h0, .int z1])).length) Slot.unset).toArray = ls at hl ⊢
  have hl : lv_has ls 2 [(0, .ref h0), (1, .int z1)] := hl
  refine lv_iload_n hx hb dX10_end_0 rfl (lv_at hl 1 rfl) ?_
  refine lv_if_lt (tgt := 12) hx hb dX10_end_1 (by decide) (fun hc1 => ?_) (fun hc1 => ?_)
  ·
    refine lv_iconst (v := 0) hx hb dX10_end_12 (by decide) ?_
    exact W.zret (v := 0) hx hb hr rfl (fun t ht hW => ⟨⟨0, (), rfl, by rw [if_neg (fun h => absurd hc1 (by rw [h]; decide))], trivial⟩, hS.F ht⟩) hS.2.2 dX10_end_13
  ·
    refine lv_iload_n hx hb dX10_end_4 rfl (lv_at hl 1 rfl) ?_
    refine lv_aload_n hx hb dX10_end_5 rfl (lv_at hl 0 rfl) ?_
    refine va_get (D := D) (ci := 10) (v := .int 0) (C := RX10) (T := TX10) (N := 7) hx hb hts hin_X10 hown hK hP 0 rfl rfl 2 (by decide) (hts (.fieldLink RX10 19 "ClashFree" "taped" "I") (List.mem_of_getElem? (i := 1) rfl)) (fun _ h9 => h9) rfl dX10_end_6 ?_
    refine lv_icmp_le (tgt := 14) hx hb dX10_end_9 (by decide) (fun hc2 => ?_) (fun hc2 => ?_)
    ·
      refine lv_aload_n hx hb dX10_end_14 rfl (lv_at hl 0 rfl) ?_
      refine lv_iload_n hx hb dX10_end_15 rfl (lv_at hl 1 rfl) ?_
      refine va_put (D := D) (ci := 10) (v := .int z1) (ty := .int) (C := RX10) (T := TX10) (N := 7) hx hb hts hin_X10 tyX10 tyX10_ok nmX10 hown hK hP hD hS 0 rfl rfl 2 (by decide) (hts (.fieldLink RX10 19 "ClashFree" "taped" "I") (List.mem_of_getElem? (i := 1) rfl)) (fun _ h9 => h9) rfl (by decide +kernel) rfl rfl (Nat.le_of_ble_eq_true rfl) dX10_end_16 (fun H locs hP hD hS => ?_)
      have hP : va_P D vwCl [(h0, .inr (10, [.ref (ca 0), .ref (ca 1), .int z1, .ref (ca 3), .ref (ca 4), .ref (ca 5), .ref (ca 6)]))] H := hP
      have hD : va_D A [(h0, .inr (10, [.ref (ca 0), .ref (ca 1), .int z1, .ref (ca 3), .ref (ca 4), .ref (ca 5), .ref (ca 6)]))] := hD
      refine lv_iconst (v := 1) hx hb dX10_end_19 (by decide) ?_
      exact W.zret (v := 1) hx hb hr rfl (fun t ht hW => ⟨⟨1, (), rfl, by rw [if_pos (Int32.le_antisymm hc2 (Int32.not_lt.mp hc1))], trivial⟩, hS.F ht⟩) hS.2.2 dX10_end_20
    ·
      refine lv_iconst (v := 0) hx hb dX10_end_12 (by decide) ?_
      exact W.zret (v := 0) hx hb hr rfl (fun t ht hW => ⟨⟨0, (), rfl, by rw [if_neg (fun h => hc2 (by rw [h]; decide))], trivial⟩, hS.F ht⟩) hS.2.2 dX10_end_13

def own_c_X11_end : List Cond := [.fieldLink RX11 73 "ClashFreeModel" "thrown" "I", .fieldLink RX11 76 "ClashFreeModel" "taped" "I", .methodLink RX11 83 yX11_isIn, .static yX11_isIn, .initialized RX11]
def wp_c_X11_end : List Cond := .code yX11_end cX11_end 2 (some .boolean) :: (own_c_X11_end ++ (wp_c_isIn ++ (wsX110 ++ ([] : List Cond))))
set_option maxRecDepth 20000 in
theorem inown_c_X11_end : ∀ w ∈ own_c_X11_end, w ∈ lw_tbl := mem_places [1216, 1218, 1371, 1372, 115] (by decide +kernel)
set_option maxRecDepth 20000 in
theorem in_c_X11_end : ∀ w ∈ wp_c_X11_end, w ∈ lw_tbl := List.forall_mem_cons.mpr ⟨List.mem_of_getElem? (i := 1370) (by decide +kernel), List.forall_mem_append.mpr ⟨inown_c_X11_end, List.forall_mem_append.mpr ⟨in_c_isIn, List.forall_mem_append.mpr ⟨lwb_X11, fun _ h => absurd h List.not_mem_nil⟩⟩⟩⟩
set_option maxRecDepth 20000 in
theorem good_c_X11_end : wp_c_X11_end.all goodWord = true := by decide +kernel
set_option maxRecDepth 20000 in
theorem g_c_X11_end_c_isIn_83 : GoodIn wp_c_X11_end (va_wsS RX11 83 yX11_isIn wp_c_isIn) := goodIn_sub (List.forall_mem_append.mpr ⟨List.forall_mem_cons.mpr ⟨(List.mem_of_getElem? (i := 3) rfl), List.forall_mem_cons.mpr ⟨(List.mem_of_getElem? (i := 4) rfl), List.forall_mem_cons.mpr ⟨(List.mem_of_getElem? (i := 5) rfl), fun _ h => absurd h List.not_mem_nil⟩⟩⟩, (fun _ h => (List.mem_cons_of_mem _ (List.mem_append_right _ (List.mem_append_left _ h))))⟩) (by decide +kernel)
set_option maxHeartbeats 4000000 in
set_option maxRecDepth 100000 in
theorem c_X11_end (l : Launch) (D : va_G) (sz : Nat) (h0 : Nat) (a : Nat → Nat) (cN : ClassId) (sd : Int64) (pa : Int64) (pb : Int64) (dr : Int32) (z1 : Int32)  : Met l yX11_end wp_c_X11_end ({ frames := 1, cells := 0, slots := 0, locals := 25 }) (PcW D [.ref h0, .int z1] sz [(h0, .inr (11, fM a 0 sd pa pb dr)), (a 3, .inl (cN, 85, .inr (.inl (fun _ => 0))))] [(cN, .long)]) (va_Qi (fun (r : Int32) (_ : Unit) => r = if z1 = 0 then 1 else 0) (fun (_ : Unit) _ => True) (va_A [(h0, .inr (11, fM a 0 sd pa pb dr)), (a 3, .inl (cN, 85, .inr (.inl (fun _ => 0))))] sz)) 0 0 (va_A [(h0, .inr (11, fM a 0 sd pa pb dr)), (a 3, .inl (cN, 85, .inr (.inl (fun _ => 0))))] sz) := by
  refine Met.ofW (cc := cX11_end) (maxL := 2) (ret := (some .boolean)) (by decide) rfl ?_
  intro p e s m args below meth c s₁ B hml hv
  obtain ⟨rfl, hsz, hP, hK, hD0⟩ := hv
  have hx := B.exec
  have hb := B.bytes
  have hr := B.returns
  have hts := atoms_spec (ws := wp_c_X11_end) B.pre
  have hin_X11 : ∀ w ∈ wsX110, w ∈ wp_c_X11_end := fun _ h => (List.mem_cons_of_mem _ (List.mem_append_right _ (List.mem_append_right _ (List.mem_append_left _ h))))
  have hown : s.vm.findClass RX11 = some m.cls := findClass_of_methodNamed B.named
  have hlocks := B.notSynchronized
  subst hsz
  have hD := hD0.self (sz := s.heap.size)
  generalize hAe : va_A [(h0, .inr (11, fM a 0 sd pa pb dr)), (a 3, .inl (cN, 85, .inr (.inl (fun _ => 0))))] s.heap.size = A at hD ⊢
  have hA : ∀ q : Nat, s.heap.size ≤ q → A q := fun q h => by rw [← hAe]; exact Or.inr h
  have hS : va_S A s.heap s.heap [] := va_S.rf
  have hP : va_P D vwCl [(h0, .inr (11, fM a 0 sd pa pb dr)), (a 3, .inl (cN, 85, .inr (.inl (fun _ => 0))))] s.heap := hP
  have hl := lv_entry ([.ref h0, .int z1]) (n := 2) (Nat.le_of_ble_eq_true rfl)
  rw [lg_entry_eq]
  generalize (lg_sl ([.ref h0, .int z1]) ++ List.replicate (2 - (lg_sl ([.ref h0, .int z1])).length) Slot.unset).toArray = ls at hl ⊢
  have hl : lv_has ls 2 [(0, .ref h0), (1, .int z1)] := hl
  refine lv_aload_n hx hb dX11_end_0 rfl (lv_at hl 0 rfl) ?_
  refine lv_iconst (v := 0) hx hb dX11_end_1 (by decide) ?_
  refine va_put (D := D) (ci := 11) (v := .int 0) (ty := .int) (C := RX11) (T := TX11) (N := 47) hx hb hts hin_X11 tyX11 tyX11_ok nmX11 hown hK hP hD hS 0 rfl rfl 0 (by decide) (hts (.fieldLink RX11 73 "ClashFreeModel" "thrown" "I") (List.mem_of_getElem? (i := 1) rfl)) (fun _ h9 => h9) rfl (by decide +kernel) rfl rfl (Nat.le_of_ble_eq_true rfl) dX11_end_2 (fun H locs hP hD hS => ?_)
  have hP : va_P D vwCl [(h0, .inr (11, fM a 0 sd pa pb dr)), (a 3, .inl (cN, 85, .inr (.inl (fun _ => 0))))] H := hP
  have hD : va_D A [(h0, .inr (11, fM a 0 sd pa pb dr)), (a 3, .inl (cN, 85, .inr (.inl (fun _ => 0))))] := hD
  refine lv_iload_n hx hb dX11_end_5 rfl (lv_at hl 1 rfl) ?_
  refine lv_i2l hx hb dX11_end_6 rfl ?_
  refine lv_lconst (v := 0) hx hb dX11_end_7 (by decide) ?_
  refine lv_aload_n hx hb dX11_end_8 rfl (lv_at hl 0 rfl) ?_
  refine va_get (D := D) (ci := 11) (v := .int 0) (C := RX11) (T := TX11) (N := 47) hx hb hts hin_X11 hown hK hP 0 rfl rfl 2 (by decide) (hts (.fieldLink RX11 76 "ClashFreeModel" "taped" "I") (List.mem_of_getElem? (i := 2) rfl)) (fun _ h9 => h9) rfl dX11_end_9 ?_
  refine lv_i2l (v := 0) hx hb dX11_end_12 (by decide) ?_
  have hPc := hP.sub (ws' := []) [] rfl
  have hKc := hK.sub (tys' := []) [] rfl
  have hFc := va_free0 hS hA
  refine va_calli (va_runS (As := [.long (Int32.toInt64 z1), .long 0, .long 0]) (rest := []) ⟨hx, hb, hml, hown, hts⟩ (c_isIn l D _ (Int32.toInt64 z1) 0 0) (va_cwS 3 hts g_c_X11_end_c_isIn_83 rfl rfl rfl (by decide +kernel) ⟨(Nat.le_of_ble_eq_true rfl), (Nat.le_of_ble_eq_true rfl)⟩) (PcR_S hPc hKc) rfl rfl hl.1 rfl (lv_room (Nat.le_of_ble_eq_true rfl)) dX11_end_13 ⟨(Nat.le_of_ble_eq_true rfl), (Nat.le_of_ble_eq_true rfl)⟩) hS (fun q _ h => hFc q h) hFc (fun r1 uu tt H locs htt hvm hw hB hz1 hk1 hS => ?_)
  have hP := va_keep hP hk1
  try dsimp only at hw
  clear hB hz1 hk1 hFc hPc hKc
  have hw_r1 := hw
  refine lv_if_ne (tgt := 21) hx hb dX11_end_16 (by decide) (fun hc2 => ?_) (fun hc2 => ?_)
  ·
    refine lv_aload_n hx hb dX11_end_21 rfl (lv_at hl 0 rfl) ?_
    refine lv_iload_n hx hb dX11_end_22 rfl (lv_at hl 1 rfl) ?_
    refine va_put (D := D) (ci := 11) (v := .int z1) (ty := .int) (C := RX11) (T := TX11) (N := 47) hx hb hts hin_X11 tyX11 tyX11_ok nmX11 hown hK hP hD hS 0 rfl rfl 2 (by decide) (hts (.fieldLink RX11 76 "ClashFreeModel" "taped" "I") (List.mem_of_getElem? (i := 2) rfl)) (fun _ h9 => h9) rfl (by decide +kernel) rfl rfl (Nat.le_of_ble_eq_true rfl) dX11_end_23 (fun H locs hP hD hS => ?_)
    have hP : va_P D vwCl [(h0, .inr (11, fM a z1 sd pa pb dr)), (a 3, .inl (cN, 85, .inr (.inl (fun _ => 0))))] H := hP
    have hD : va_D A [(h0, .inr (11, fM a z1 sd pa pb dr)), (a 3, .inl (cN, 85, .inr (.inl (fun _ => 0))))] := hD
    refine lv_iconst (v := 1) hx hb dX11_end_26 (by decide) ?_
    exact W.zret (v := 1) hx hb hr rfl (fun t ht hW => ⟨⟨1, (), rfl, by rw [if_pos (isIn00 (by rw [← hw_r1]; exact hc2))], trivial⟩, hS.F ht⟩) hS.2.2 dX11_end_27
  ·
    refine lv_iconst (v := 0) hx hb dX11_end_19 (by decide) ?_
    exact W.zret (v := 0) hx hb hr rfl (fun t ht hW => ⟨⟨0, (), rfl, by rw [if_neg (fun h => by subst h; rw [hw_r1] at hc2; revert hc2; decide)], trivial⟩, hS.F ht⟩) hS.2.2 dX11_end_20

def own_c_X10_feed : List Cond := [.fieldLink RX10 19 "ClashFree" "taped" "I", .fieldLink RX10 15 "ClashFree" "tape" "[I", .methodLink RX10 51 yX10_writeInt, .static yX10_writeInt, .initialized RX10]
def wp_c_X10_feed : List Cond := .code yX10_feed cX10_feed 6 (some .int) :: (own_c_X10_feed ++ (wp_c_writeInt ++ (wsX100 ++ ([] : List Cond))))
set_option maxRecDepth 20000 in
theorem inown_c_X10_feed : ∀ w ∈ own_c_X10_feed, w ∈ lw_tbl := mem_places [414, 413, 438, 439, 106] (by decide +kernel)
set_option maxRecDepth 20000 in
theorem in_c_X10_feed : ∀ w ∈ wp_c_X10_feed, w ∈ lw_tbl := List.forall_mem_cons.mpr ⟨List.mem_of_getElem? (i := 437) (by decide +kernel), List.forall_mem_append.mpr ⟨inown_c_X10_feed, List.forall_mem_append.mpr ⟨in_c_writeInt, List.forall_mem_append.mpr ⟨lwb_X10, fun _ h => absurd h List.not_mem_nil⟩⟩⟩⟩
set_option maxRecDepth 20000 in
theorem good_c_X10_feed : wp_c_X10_feed.all goodWord = true := by decide +kernel
set_option maxRecDepth 20000 in
theorem g_c_X10_feed_c_writeInt_51 : GoodIn wp_c_X10_feed (va_wsS RX10 51 yX10_writeInt wp_c_writeInt) := goodIn_sub (List.forall_mem_append.mpr ⟨List.forall_mem_cons.mpr ⟨(List.mem_of_getElem? (i := 3) rfl), List.forall_mem_cons.mpr ⟨(List.mem_of_getElem? (i := 4) rfl), List.forall_mem_cons.mpr ⟨(List.mem_of_getElem? (i := 5) rfl), fun _ h => absurd h List.not_mem_nil⟩⟩⟩, (fun _ h => (List.mem_cons_of_mem _ (List.mem_append_right _ (List.mem_append_left _ h))))⟩) (by decide +kernel)
set_option maxHeartbeats 4000000 in
set_option maxRecDepth 100000 in
theorem c_X10_feed (l : Launch) (D : va_G) (sz : Nat) (h0 : Nat) (ca : Nat → Nat) (cI : ClassId) (z1 : Int32) (z2 : Int32) (z3 : Int32) (z4 : Int32) (z5 : Int32)  : Met l yX10_feed wp_c_X10_feed ({ frames := 1, cells := 0, slots := 0, locals := 23 }) (PcW D [.ref h0, .int z1, .int z2, .int z3, .int z4, .int z5] sz [(h0, .inr (10, [.ref (ca 0), .ref (ca 1), .int 0, .ref (ca 3), .ref (ca 4), .ref (ca 5), .ref (ca 6)])), (ca 1, .inl (cI, 1400, .inl (fun _ => 0)))] [(cI, .int)]) (va_Qi (fun (r : Int32) (_ : Unit) => r = 20) (fun (_ : Unit) _ => True) (va_A [(h0, .inr (10, [.ref (ca 0), .ref (ca 1), .int 0, .ref (ca 3), .ref (ca 4), .ref (ca 5), .ref (ca 6)])), (ca 1, .inl (cI, 1400, .inl (fun _ => 0)))] sz)) 0 0 (va_A [(h0, .inr (10, [.ref (ca 0), .ref (ca 1), .int 0, .ref (ca 3), .ref (ca 4), .ref (ca 5), .ref (ca 6)])), (ca 1, .inl (cI, 1400, .inl (fun _ => 0)))] sz) := by
  refine Met.ofW (cc := cX10_feed) (maxL := 6) (ret := (some .int)) (by decide) rfl ?_
  intro p e s m args below meth c s₁ B hml hv
  obtain ⟨rfl, hsz, hP, hK, hD0⟩ := hv
  have hx := B.exec
  have hb := B.bytes
  have hr := B.returns
  have hts := atoms_spec (ws := wp_c_X10_feed) B.pre
  have hin_X10 : ∀ w ∈ wsX100, w ∈ wp_c_X10_feed := fun _ h => (List.mem_cons_of_mem _ (List.mem_append_right _ (List.mem_append_right _ (List.mem_append_left _ h))))
  have hown : s.vm.findClass RX10 = some m.cls := findClass_of_methodNamed B.named
  have hlocks := B.notSynchronized
  subst hsz
  have hD := hD0.self (sz := s.heap.size)
  generalize hAe : va_A [(h0, .inr (10, [.ref (ca 0), .ref (ca 1), .int 0, .ref (ca 3), .ref (ca 4), .ref (ca 5), .ref (ca 6)])), (ca 1, .inl (cI, 1400, .inl (fun _ => 0)))] s.heap.size = A at hD ⊢
  have hA : ∀ q : Nat, s.heap.size ≤ q → A q := fun q h => by rw [← hAe]; exact Or.inr h
  have hS : va_S A s.heap s.heap [] := va_S.rf
  have hP : va_P D vwCl [(h0, .inr (10, [.ref (ca 0), .ref (ca 1), .int 0, .ref (ca 3), .ref (ca 4), .ref (ca 5), .ref (ca 6)])), (ca 1, .inl (cI, 1400, .inl (fun _ => 0)))] s.heap := hP
  have hl := lv_entry ([.ref h0, .int z1, .int z2, .int z3, .int z4, .int z5]) (n := 6) (Nat.le_of_ble_eq_true rfl)
  rw [lg_entry_eq]
  generalize (lg_sl ([.ref h0, .int z1, .int z2, .int z3, .int z4, .int z5]) ++ List.replicate (6 - (lg_sl ([.ref h0, .int z1, .int z2, .int z3, .int z4, .int z5])).length) Slot.unset).toArray = ls at hl ⊢
  have hl : lv_has ls 6 [(0, .ref h0), (1, .int z1), (2, .int z2), (3, .int z3), (4, .int z4), (5, .int z5)] := hl
  refine lv_aload_n hx hb dX10_feed_0 rfl (lv_at hl 0 rfl) ?_
  refine va_get (D := D) (ci := 10) (v := .int 0) (C := RX10) (T := TX10) (N := 7) hx hb hts hin_X10 hown hK hP 0 rfl rfl 2 (by decide) (hts (.fieldLink RX10 19 "ClashFree" "taped" "I") (List.mem_of_getElem? (i := 1) rfl)) (fun _ h9 => h9) rfl dX10_feed_1 ?_
  refine lv_bipush (v := 20) hx hb dX10_feed_4 (by decide) ?_
  refine lv_iadd hx hb dX10_feed_6 ?_
  refine lv_topi (fun v1 ev1 => ?_)
  obtain rfl : v1 = 20 := ev1.trans (by decide)
  refine lv_sipush (v := 1400) hx hb dX10_feed_7 (by decide) ?_
  refine lv_icmp_le (tgt := 15) hx hb dX10_feed_10 (by decide) (fun hc => ?_) (fun hc => absurd (by decide) hc)
  refine lv_aload_n hx hb dX10_feed_15 rfl (lv_at hl 0 rfl) ?_
  refine va_get (D := D) (ci := 10) (v := .ref (ca 1)) (C := RX10) (T := TX10) (N := 7) hx hb hts hin_X10 hown hK hP 0 rfl rfl 1 (by decide) (hts (.fieldLink RX10 15 "ClashFree" "tape" "[I") (List.mem_of_getElem? (i := 2) rfl)) (fun _ h9 => h9) rfl dX10_feed_16 ?_
  refine lv_aload_n hx hb dX10_feed_19 rfl (lv_at hl 0 rfl) ?_
  refine va_get (D := D) (ci := 10) (v := .int 0) (C := RX10) (T := TX10) (N := 7) hx hb hts hin_X10 hown hK hP 0 rfl rfl 2 (by decide) (hts (.fieldLink RX10 19 "ClashFree" "taped" "I") (List.mem_of_getElem? (i := 1) rfl)) (fun _ h9 => h9) rfl dX10_feed_20 ?_
  refine lv_iload_n hx hb dX10_feed_23 rfl (lv_at hl 1 rfl) ?_
  have hPc := hP.sub (ws' := [(ca 1, .inl (cI, 1400, .inl (fun _ => 0)))]) [1] rfl
  have hKc := hK.sub (tys' := [(cI, .int)]) [0] rfl
  have hDc := hD.sub (ws' := [(ca 1, .inl (cI, 1400, .inl (fun _ => 0)))]) [1] (by decide) rfl
  have hFc := va_free (wc := [(ca 1, .inl (cI, 1400, .inl (fun _ => 0)))]) hD hS hA [1] rfl
  refine va_callv (va_runS (As := [.ref (ca 1), .int (nI 0), .int z1]) (rest := []) ⟨hx, hb, hml, hown, hts⟩ (c_writeInt l D _ (ca 1) cI (fun _ => 0) 0 z1 (by first | omega | assumption)) (va_cwS 3 hts g_c_X10_feed_c_writeInt_51 rfl rfl rfl (by decide +kernel) ⟨(Nat.le_of_ble_eq_true rfl), (Nat.le_of_ble_eq_true rfl)⟩) (PcW_S hPc hKc hDc) rfl rfl hl.1 rfl (lv_room (Nat.le_of_ble_eq_true rfl)) dX10_feed_24 ⟨(Nat.le_of_ble_eq_true rfl), (Nat.le_of_ble_eq_true rfl)⟩) hS (fun q _ h => hFc q h) hFc (fun uu tt H locs htt hvm hw hB hz1 hk1 hS => ?_)
  obtain g3 := uu
  obtain ⟨hP1, hK1, hD1⟩ := hB
  rw [htt] at hP1
  have hK1 := va_K.moved hvm.symm hK1
  have hP1 : va_P D vwCl [(ca 1, .inl (cI, 1400, .inl g3))] H := hP1
  obtain ⟨hP, hD⟩ := va_join (wr := [(h0, .inr (10, [.ref (ca 0), .ref (ca 1), .int 0, .ref (ca 3), .ref (ca 4), .ref (ca 5), .ref (ca 6)]))]) (w1 := [(ca 1, .inl (cI, 1400, .inl g3))]) hP hD [1] [0] rfl rfl (by decide) (by decide) hk1 hFc hP1 hD1
  have hP : va_P D vwCl [(h0, .inr (10, [.ref (ca 0), .ref (ca 1), .int 0, .ref (ca 3), .ref (ca 4), .ref (ca 5), .ref (ca 6)])), (ca 1, .inl (cI, 1400, .inl g3))] H := hP
  have hD : va_D A [(h0, .inr (10, [.ref (ca 0), .ref (ca 1), .int 0, .ref (ca 3), .ref (ca 4), .ref (ca 5), .ref (ca 6)])), (ca 1, .inl (cI, 1400, .inl g3))] := hD
  try dsimp only at hw
  clear hB hz1 hk1 hFc hPc hKc hDc
  refine lv_aload_n hx hb dX10_feed_27 rfl (lv_at hl 0 rfl) ?_
  refine va_get (D := D) (ci := 10) (v := .ref (ca 1)) (C := RX10) (T := TX10) (N := 7) hx hb hts hin_X10 hown hK hP 0 rfl rfl 1 (by decide) (hts (.fieldLink RX10 15 "ClashFree" "tape" "[I") (List.mem_of_getElem? (i := 2) rfl)) (fun _ h9 => h9) rfl dX10_feed_28 ?_
  refine lv_aload_n hx hb dX10_feed_31 rfl (lv_at hl 0 rfl) ?_
  refine va_get (D := D) (ci := 10) (v := .int 0) (C := RX10) (T := TX10) (N := 7) hx hb hts hin_X10 hown hK hP 0 rfl rfl 2 (by decide) (hts (.fieldLink RX10 19 "ClashFree" "taped" "I") (List.mem_of_getElem? (i := 1) rfl)) (fun _ h9 => h9) rfl dX10_feed_32 ?_
  refine lv_iconst (v := 4) hx hb dX10_feed_35 (by decide) ?_
  refine lv_iadd hx hb dX10_feed_36 ?_
  refine lv_topi (fun v4 ev4 => ?_)
  obtain rfl : v4 = 4 := ev4.trans (by decide)
  refine lv_iload_n hx hb dX10_feed_37 rfl (lv_at hl 2 rfl) ?_
  have hPc := hP.sub (ws' := [(ca 1, .inl (cI, 1400, .inl g3))]) [1] rfl
  have hKc := hK.sub (tys' := [(cI, .int)]) [0] rfl
  have hDc := hD.sub (ws' := [(ca 1, .inl (cI, 1400, .inl g3))]) [1] (by decide) rfl
  have hFc := va_free (wc := [(ca 1, .inl (cI, 1400, .inl g3))]) hD hS hA [1] rfl
  refine va_callv (va_runS (As := [.ref (ca 1), .int (nI 4), .int z2]) (rest := []) ⟨hx, hb, hml, hown, hts⟩ (c_writeInt l D _ (ca 1) cI g3 4 z2 (by first | omega | assumption)) (va_cwS 3 hts g_c_X10_feed_c_writeInt_51 rfl rfl rfl (by decide +kernel) ⟨(Nat.le_of_ble_eq_true rfl), (Nat.le_of_ble_eq_true rfl)⟩) (PcW_S hPc hKc hDc) rfl rfl hl.1 rfl (lv_room (Nat.le_of_ble_eq_true rfl)) dX10_feed_38 ⟨(Nat.le_of_ble_eq_true rfl), (Nat.le_of_ble_eq_true rfl)⟩) hS (fun q _ h => hFc q h) hFc (fun uu tt H locs htt hvm hw hB hz1 hk1 hS => ?_)
  obtain g6 := uu
  obtain ⟨hP1, hK1, hD1⟩ := hB
  rw [htt] at hP1
  have hK1 := va_K.moved hvm.symm hK1
  have hP1 : va_P D vwCl [(ca 1, .inl (cI, 1400, .inl g6))] H := hP1
  obtain ⟨hP, hD⟩ := va_join (wr := [(h0, .inr (10, [.ref (ca 0), .ref (ca 1), .int 0, .ref (ca 3), .ref (ca 4), .ref (ca 5), .ref (ca 6)]))]) (w1 := [(ca 1, .inl (cI, 1400, .inl g6))]) hP hD [1] [0] rfl rfl (by decide) (by decide) hk1 hFc hP1 hD1
  have hP : va_P D vwCl [(h0, .inr (10, [.ref (ca 0), .ref (ca 1), .int 0, .ref (ca 3), .ref (ca 4), .ref (ca 5), .ref (ca 6)])), (ca 1, .inl (cI, 1400, .inl g6))] H := hP
  have hD : va_D A [(h0, .inr (10, [.ref (ca 0), .ref (ca 1), .int 0, .ref (ca 3), .ref (ca 4), .ref (ca 5), .ref (ca 6)])), (ca 1, .inl (cI, 1400, .inl g6))] := hD
  try dsimp only at hw
  clear hB hz1 hk1 hFc hPc hKc hDc
  refine lv_aload_n hx hb dX10_feed_41 rfl (lv_at hl 0 rfl) ?_
  refine va_get (D := D) (ci := 10) (v := .ref (ca 1)) (C := RX10) (T := TX10) (N := 7) hx hb hts hin_X10 hown hK hP 0 rfl rfl 1 (by decide) (hts (.fieldLink RX10 15 "ClashFree" "tape" "[I") (List.mem_of_getElem? (i := 2) rfl)) (fun _ h9 => h9) rfl dX10_feed_42 ?_
  refine lv_aload_n hx hb dX10_feed_45 rfl (lv_at hl 0 rfl) ?_
  refine va_get (D := D) (ci := 10) (v := .int 0) (C := RX10) (T := TX10) (N := 7) hx hb hts hin_X10 hown hK hP 0 rfl rfl 2 (by decide) (hts (.fieldLink RX10 19 "ClashFree" "taped" "I") (List.mem_of_getElem? (i := 1) rfl)) (fun _ h9 => h9) rfl dX10_feed_46 ?_
  refine lv_bipush (v := 8) hx hb dX10_feed_49 (by decide) ?_
  refine lv_iadd hx hb dX10_feed_51 ?_
  refine lv_topi (fun v7 ev7 => ?_)
  obtain rfl : v7 = 8 := ev7.trans (by decide)
  refine lv_iload_n hx hb dX10_feed_52 rfl (lv_at hl 3 rfl) ?_
  have hPc := hP.sub (ws' := [(ca 1, .inl (cI, 1400, .inl g6))]) [1] rfl
  have hKc := hK.sub (tys' := [(cI, .int)]) [0] rfl
  have hDc := hD.sub (ws' := [(ca 1, .inl (cI, 1400, .inl g6))]) [1] (by decide) rfl
  have hFc := va_free (wc := [(ca 1, .inl (cI, 1400, .inl g6))]) hD hS hA [1] rfl
  refine va_callv (va_runS (As := [.ref (ca 1), .int (nI 8), .int z3]) (rest := []) ⟨hx, hb, hml, hown, hts⟩ (c_writeInt l D _ (ca 1) cI g6 8 z3 (by first | omega | assumption)) (va_cwS 3 hts g_c_X10_feed_c_writeInt_51 rfl rfl rfl (by decide +kernel) ⟨(Nat.le_of_ble_eq_true rfl), (Nat.le_of_ble_eq_true rfl)⟩) (PcW_S hPc hKc hDc) rfl rfl hl.1 rfl (lv_room (Nat.le_of_ble_eq_true rfl)) dX10_feed_53 ⟨(Nat.le_of_ble_eq_true rfl), (Nat.le_of_ble_eq_true rfl)⟩) hS (fun q _ h => hFc q h) hFc (fun uu tt H locs htt hvm hw hB hz1 hk1 hS => ?_)
  obtain g9 := uu
  obtain ⟨hP1, hK1, hD1⟩ := hB
  rw [htt] at hP1
  have hK1 := va_K.moved hvm.symm hK1
  have hP1 : va_P D vwCl [(ca 1, .inl (cI, 1400, .inl g9))] H := hP1
  obtain ⟨hP, hD⟩ := va_join (wr := [(h0, .inr (10, [.ref (ca 0), .ref (ca 1), .int 0, .ref (ca 3), .ref (ca 4), .ref (ca 5), .ref (ca 6)]))]) (w1 := [(ca 1, .inl (cI, 1400, .inl g9))]) hP hD [1] [0] rfl rfl (by decide) (by decide) hk1 hFc hP1 hD1
  have hP : va_P D vwCl [(h0, .inr (10, [.ref (ca 0), .ref (ca 1), .int 0, .ref (ca 3), .ref (ca 4), .ref (ca 5), .ref (ca 6)])), (ca 1, .inl (cI, 1400, .inl g9))] H := hP
  have hD : va_D A [(h0, .inr (10, [.ref (ca 0), .ref (ca 1), .int 0, .ref (ca 3), .ref (ca 4), .ref (ca 5), .ref (ca 6)])), (ca 1, .inl (cI, 1400, .inl g9))] := hD
  try dsimp only at hw
  clear hB hz1 hk1 hFc hPc hKc hDc
  refine lv_aload_n hx hb dX10_feed_56 rfl (lv_at hl 0 rfl) ?_
  refine va_get (D := D) (ci := 10) (v := .ref (ca 1)) (C := RX10) (T := TX10) (N := 7) hx hb hts hin_X10 hown hK hP 0 rfl rfl 1 (by decide) (hts (.fieldLink RX10 15 "ClashFree" "tape" "[I") (List.mem_of_getElem? (i := 2) rfl)) (fun _ h9 => h9) rfl dX10_feed_57 ?_
  refine lv_aload_n hx hb dX10_feed_60 rfl (lv_at hl 0 rfl) ?_
  refine va_get (D := D) (ci := 10) (v := .int 0) (C := RX10) (T := TX10) (N := 7) hx hb hts hin_X10 hown hK hP 0 rfl rfl 2 (by decide) (hts (.fieldLink RX10 19 "ClashFree" "taped" "I") (List.mem_of_getElem? (i := 1) rfl)) (fun _ h9 => h9) rfl dX10_feed_61 ?_
  refine lv_bipush (v := 12) hx hb dX10_feed_64 (by decide) ?_
  refine lv_iadd hx hb dX10_feed_66 ?_
  refine lv_topi (fun v10 ev10 => ?_)
  obtain rfl : v10 = 12 := ev10.trans (by decide)
  refine lv_iload hx hb dX10_feed_67 (lv_at hl 4 rfl) ?_
  have hPc := hP.sub (ws' := [(ca 1, .inl (cI, 1400, .inl g9))]) [1] rfl
  have hKc := hK.sub (tys' := [(cI, .int)]) [0] rfl
  have hDc := hD.sub (ws' := [(ca 1, .inl (cI, 1400, .inl g9))]) [1] (by decide) rfl
  have hFc := va_free (wc := [(ca 1, .inl (cI, 1400, .inl g9))]) hD hS hA [1] rfl
  refine va_callv (va_runS (As := [.ref (ca 1), .int (nI 12), .int z4]) (rest := []) ⟨hx, hb, hml, hown, hts⟩ (c_writeInt l D _ (ca 1) cI g9 12 z4 (by first | omega | assumption)) (va_cwS 3 hts g_c_X10_feed_c_writeInt_51 rfl rfl rfl (by decide +kernel) ⟨(Nat.le_of_ble_eq_true rfl), (Nat.le_of_ble_eq_true rfl)⟩) (PcW_S hPc hKc hDc) rfl rfl hl.1 rfl (lv_room (Nat.le_of_ble_eq_true rfl)) dX10_feed_69 ⟨(Nat.le_of_ble_eq_true rfl), (Nat.le_of_ble_eq_true rfl)⟩) hS (fun q _ h => hFc q h) hFc (fun uu tt H locs htt hvm hw hB hz1 hk1 hS => ?_)
  obtain g12 := uu
  obtain ⟨hP1, hK1, hD1⟩ := hB
  rw [htt] at hP1
  have hK1 := va_K.moved hvm.symm hK1
  have hP1 : va_P D vwCl [(ca 1, .inl (cI, 1400, .inl g12))] H := hP1
  obtain ⟨hP, hD⟩ := va_join (wr := [(h0, .inr (10, [.ref (ca 0), .ref (ca 1), .int 0, .ref (ca 3), .ref (ca 4), .ref (ca 5), .ref (ca 6)]))]) (w1 := [(ca 1, .inl (cI, 1400, .inl g12))]) hP hD [1] [0] rfl rfl (by decide) (by decide) hk1 hFc hP1 hD1
  have hP : va_P D vwCl [(h0, .inr (10, [.ref (ca 0), .ref (ca 1), .int 0, .ref (ca 3), .ref (ca 4), .ref (ca 5), .ref (ca 6)])), (ca 1, .inl (cI, 1400, .inl g12))] H := hP
  have hD : va_D A [(h0, .inr (10, [.ref (ca 0), .ref (ca 1), .int 0, .ref (ca 3), .ref (ca 4), .ref (ca 5), .ref (ca 6)])), (ca 1, .inl (cI, 1400, .inl g12))] := hD
  try dsimp only at hw
  clear hB hz1 hk1 hFc hPc hKc hDc
  refine lv_aload_n hx hb dX10_feed_72 rfl (lv_at hl 0 rfl) ?_
  refine va_get (D := D) (ci := 10) (v := .ref (ca 1)) (C := RX10) (T := TX10) (N := 7) hx hb hts hin_X10 hown hK hP 0 rfl rfl 1 (by decide) (hts (.fieldLink RX10 15 "ClashFree" "tape" "[I") (List.mem_of_getElem? (i := 2) rfl)) (fun _ h9 => h9) rfl dX10_feed_73 ?_
  refine lv_aload_n hx hb dX10_feed_76 rfl (lv_at hl 0 rfl) ?_
  refine va_get (D := D) (ci := 10) (v := .int 0) (C := RX10) (T := TX10) (N := 7) hx hb hts hin_X10 hown hK hP 0 rfl rfl 2 (by decide) (hts (.fieldLink RX10 19 "ClashFree" "taped" "I") (List.mem_of_getElem? (i := 1) rfl)) (fun _ h9 => h9) rfl dX10_feed_77 ?_
  refine lv_bipush (v := 16) hx hb dX10_feed_80 (by decide) ?_
  refine lv_iadd hx hb dX10_feed_82 ?_
  refine lv_topi (fun v13 ev13 => ?_)
  obtain rfl : v13 = 16 := ev13.trans (by decide)
  refine lv_iload hx hb dX10_feed_83 (lv_at hl 5 rfl) ?_
  have hPc := hP.sub (ws' := [(ca 1, .inl (cI, 1400, .inl g12))]) [1] rfl
  have hKc := hK.sub (tys' := [(cI, .int)]) [0] rfl
  have hDc := hD.sub (ws' := [(ca 1, .inl (cI, 1400, .inl g12))]) [1] (by decide) rfl
  have hFc := va_free (wc := [(ca 1, .inl (cI, 1400, .inl g12))]) hD hS hA [1] rfl
  refine va_callv (va_runS (As := [.ref (ca 1), .int (nI 16), .int z5]) (rest := []) ⟨hx, hb, hml, hown, hts⟩ (c_writeInt l D _ (ca 1) cI g12 16 z5 (by first | omega | assumption)) (va_cwS 3 hts g_c_X10_feed_c_writeInt_51 rfl rfl rfl (by decide +kernel) ⟨(Nat.le_of_ble_eq_true rfl), (Nat.le_of_ble_eq_true rfl)⟩) (PcW_S hPc hKc hDc) rfl rfl hl.1 rfl (lv_room (Nat.le_of_ble_eq_true rfl)) dX10_feed_85 ⟨(Nat.le_of_ble_eq_true rfl), (Nat.le_of_ble_eq_true rfl)⟩) hS (fun q _ h => hFc q h) hFc (fun uu tt H locs htt hvm hw hB hz1 hk1 hS => ?_)
  obtain g15 := uu
  obtain ⟨hP1, hK1, hD1⟩ := hB
  rw [htt] at hP1
  have hK1 := va_K.moved hvm.symm hK1
  have hP1 : va_P D vwCl [(ca 1, .inl (cI, 1400, .inl g15))] H := hP1
  obtain ⟨hP, hD⟩ := va_join (wr := [(h0, .inr (10, [.ref (ca 0), .ref (ca 1), .int 0, .ref (ca 3), .ref (ca 4), .ref (ca 5), .ref (ca 6)]))]) (w1 := [(ca 1, .inl (cI, 1400, .inl g15))]) hP hD [1] [0] rfl rfl (by decide) (by decide) hk1 hFc hP1 hD1
  have hP : va_P D vwCl [(h0, .inr (10, [.ref (ca 0), .ref (ca 1), .int 0, .ref (ca 3), .ref (ca 4), .ref (ca 5), .ref (ca 6)])), (ca 1, .inl (cI, 1400, .inl g15))] H := hP
  have hD : va_D A [(h0, .inr (10, [.ref (ca 0), .ref (ca 1), .int 0, .ref (ca 3), .ref (ca 4), .ref (ca 5), .ref (ca 6)])), (ca 1, .inl (cI, 1400, .inl g15))] := hD
  try dsimp only at hw
  clear hB hz1 hk1 hFc hPc hKc hDc
  refine lv_aload_n hx hb dX10_feed_88 rfl (lv_at hl 0 rfl) ?_
  refine lv_dup hx hb dX10_feed_89 rfl ?_
  refine va_get (D := D) (ci := 10) (v := .int 0) (C := RX10) (T := TX10) (N := 7) hx hb hts hin_X10 hown hK hP 0 rfl rfl 2 (by decide) (hts (.fieldLink RX10 19 "ClashFree" "taped" "I") (List.mem_of_getElem? (i := 1) rfl)) (fun _ h9 => h9) rfl dX10_feed_90 ?_
  refine lv_bipush (v := 20) hx hb dX10_feed_93 (by decide) ?_
  refine lv_iadd hx hb dX10_feed_95 ?_
  refine lv_topi (fun v16 ev16 => ?_)
  obtain rfl : v16 = 20 := ev16.trans (by decide)
  refine va_put (D := D) (ci := 10) (v := .int 20) (ty := .int) (C := RX10) (T := TX10) (N := 7) hx hb hts hin_X10 tyX10 tyX10_ok nmX10 hown hK hP hD hS 0 rfl rfl 2 (by decide) (hts (.fieldLink RX10 19 "ClashFree" "taped" "I") (List.mem_of_getElem? (i := 1) rfl)) (fun _ h9 => h9) rfl (by decide +kernel) rfl rfl (Nat.le_of_ble_eq_true rfl) dX10_feed_96 (fun H locs hP hD hS => ?_)
  have hP : va_P D vwCl [(h0, .inr (10, [.ref (ca 0), .ref (ca 1), .int 20, .ref (ca 3), .ref (ca 4), .ref (ca 5), .ref (ca 6)])), (ca 1, .inl (cI, 1400, .inl g15))] H := hP
  have hD : va_D A [(h0, .inr (10, [.ref (ca 0), .ref (ca 1), .int 20, .ref (ca 3), .ref (ca 4), .ref (ca 5), .ref (ca 6)])), (ca 1, .inl (cI, 1400, .inl g15))] := hD
  refine lv_aload_n hx hb dX10_feed_99 rfl (lv_at hl 0 rfl) ?_
  refine va_get (D := D) (ci := 10) (v := .int 20) (C := RX10) (T := TX10) (N := 7) hx hb hts hin_X10 hown hK hP 0 rfl rfl 2 (by decide) (hts (.fieldLink RX10 19 "ClashFree" "taped" "I") (List.mem_of_getElem? (i := 1) rfl)) (fun _ h9 => h9) rfl dX10_feed_100 ?_
  exact W.iret (v := 20) hx hb hr (fun t ht hW => ⟨⟨20, (), rfl, rfl, trivial⟩, hS.F ht⟩) hS.2.2 dX10_feed_103

def own_c_X11_feed : List Cond := [.fieldLink RX11 73 "ClashFreeModel" "thrown" "I", .fieldLink RX11 76 "ClashFreeModel" "taped" "I", .methodLink RX11 79 yX11_puts, .instanceMethod yX11_puts, .selects RX11 yX11_puts yX11_puts, .initialized RX11]
def wp_c_X11_feed : List Cond := .code yX11_feed cX11_feed 6 (some .int) :: (own_c_X11_feed ++ (wp_c_puts ++ (wsX110 ++ ([] : List Cond))))
set_option maxRecDepth 20000 in
theorem inown_c_X11_feed : ∀ w ∈ own_c_X11_feed, w ∈ lw_tbl := mem_places [1216, 1218, 1363, 1365, 36, 115] (by decide +kernel)
set_option maxRecDepth 20000 in
theorem in_c_X11_feed : ∀ w ∈ wp_c_X11_feed, w ∈ lw_tbl := List.forall_mem_cons.mpr ⟨List.mem_of_getElem? (i := 1362) (by decide +kernel), List.forall_mem_append.mpr ⟨inown_c_X11_feed, List.forall_mem_append.mpr ⟨in_c_puts, List.forall_mem_append.mpr ⟨lwb_X11, fun _ h => absurd h List.not_mem_nil⟩⟩⟩⟩
set_option maxRecDepth 20000 in
theorem good_c_X11_feed : wp_c_X11_feed.all goodWord = true := by decide +kernel
set_option maxRecDepth 20000 in
theorem g_c_X11_feed_c_puts_79 : GoodIn wp_c_X11_feed (wsV RX11 79 RX11 yX11_puts wp_c_puts) := goodIn_sub (List.forall_mem_append.mpr ⟨List.forall_mem_cons.mpr ⟨(List.mem_of_getElem? (i := 3) rfl), List.forall_mem_cons.mpr ⟨(List.mem_of_getElem? (i := 4) rfl), List.forall_mem_cons.mpr ⟨(List.mem_of_getElem? (i := 5) rfl), List.forall_mem_cons.mpr ⟨(List.mem_of_getElem? (i := 6) rfl), fun _ h => absurd h List.not_mem_nil⟩⟩⟩⟩, (fun _ h => (List.mem_cons_of_mem _ (List.mem_append_right _ (List.mem_append_left _ h))))⟩) (by decide +kernel)
set_option maxHeartbeats 4000000 in
set_option maxRecDepth 100000 in
theorem c_X11_feed (l : Launch) (D : va_G) (sz : Nat) (h0 : Nat) (a : Nat → Nat) (sd : Int64) (pa : Int64) (pb : Int64) (dr : Int32) (cB : ClassId) (z1 : Int32) (z2 : Int32) (z3 : Int32) (z4 : Int32) (z5 : Int32)  : Met l yX11_feed wp_c_X11_feed ({ frames := 1, cells := 0, slots := 0, locals := 22 }) (PcW D [.ref h0, .int z1, .int z2, .int z3, .int z4, .int z5] sz [(h0, .inr (11, fM a 0 sd pa pb dr)), (a 1, .inl (cB, 1400, .inl (fun _ => 0)))] [(cB, .byte)]) (va_Qi (fun (r : Int32) (_ : Unit) => r = 20) (fun (_ : Unit) _ => True) (va_A [(h0, .inr (11, fM a 0 sd pa pb dr)), (a 1, .inl (cB, 1400, .inl (fun _ => 0)))] sz)) 0 0 (va_A [(h0, .inr (11, fM a 0 sd pa pb dr)), (a 1, .inl (cB, 1400, .inl (fun _ => 0)))] sz) := by
  refine Met.ofW (cc := cX11_feed) (maxL := 6) (ret := (some .int)) (by decide) rfl ?_
  intro p e s m args below meth c s₁ B hml hv
  obtain ⟨rfl, hsz, hP, hK, hD0⟩ := hv
  have hx := B.exec
  have hb := B.bytes
  have hr := B.returns
  have hts := atoms_spec (ws := wp_c_X11_feed) B.pre
  have hin_X11 : ∀ w ∈ wsX110, w ∈ wp_c_X11_feed := fun _ h => (List.mem_cons_of_mem _ (List.mem_append_right _ (List.mem_append_right _ (List.mem_append_left _ h))))
  have hown : s.vm.findClass RX11 = some m.cls := findClass_of_methodNamed B.named
  have hlocks := B.notSynchronized
  subst hsz
  have hD := hD0.self (sz := s.heap.size)
  generalize hAe : va_A [(h0, .inr (11, fM a 0 sd pa pb dr)), (a 1, .inl (cB, 1400, .inl (fun _ => 0)))] s.heap.size = A at hD ⊢
  have hA : ∀ q : Nat, s.heap.size ≤ q → A q := fun q h => by rw [← hAe]; exact Or.inr h
  have hS : va_S A s.heap s.heap [] := va_S.rf
  have hP : va_P D vwCl [(h0, .inr (11, fM a 0 sd pa pb dr)), (a 1, .inl (cB, 1400, .inl (fun _ => 0)))] s.heap := hP
  have hl := lv_entry ([.ref h0, .int z1, .int z2, .int z3, .int z4, .int z5]) (n := 6) (Nat.le_of_ble_eq_true rfl)
  rw [lg_entry_eq]
  generalize (lg_sl ([.ref h0, .int z1, .int z2, .int z3, .int z4, .int z5]) ++ List.replicate (6 - (lg_sl ([.ref h0, .int z1, .int z2, .int z3, .int z4, .int z5])).length) Slot.unset).toArray = ls at hl ⊢
  have hl : lv_has ls 6 [(0, .ref h0), (1, .int z1), (2, .int z2), (3, .int z3), (4, .int z4), (5, .int z5)] := hl
  refine lv_aload_n hx hb dX11_feed_0 rfl (lv_at hl 0 rfl) ?_
  refine lv_iconst (v := 0) hx hb dX11_feed_1 (by decide) ?_
  refine va_put (D := D) (ci := 11) (v := .int 0) (ty := .int) (C := RX11) (T := TX11) (N := 47) hx hb hts hin_X11 tyX11 tyX11_ok nmX11 hown hK hP hD hS 0 rfl rfl 0 (by decide) (hts (.fieldLink RX11 73 "ClashFreeModel" "thrown" "I") (List.mem_of_getElem? (i := 1) rfl)) (fun _ h9 => h9) rfl (by decide +kernel) rfl rfl (Nat.le_of_ble_eq_true rfl) dX11_feed_2 (fun H locs hP hD hS => ?_)
  have hP : va_P D vwCl [(h0, .inr (11, fM a 0 sd pa pb dr)), (a 1, .inl (cB, 1400, .inl (fun _ => 0)))] H := hP
  have hD : va_D A [(h0, .inr (11, fM a 0 sd pa pb dr)), (a 1, .inl (cB, 1400, .inl (fun _ => 0)))] := hD
  refine lv_aload_n hx hb dX11_feed_5 rfl (lv_at hl 0 rfl) ?_
  refine va_get (D := D) (ci := 11) (v := .int 0) (C := RX11) (T := TX11) (N := 47) hx hb hts hin_X11 hown hK hP 0 rfl rfl 2 (by decide) (hts (.fieldLink RX11 76 "ClashFreeModel" "taped" "I") (List.mem_of_getElem? (i := 2) rfl)) (fun _ h9 => h9) rfl dX11_feed_6 ?_
  refine lv_bipush (v := 20) hx hb dX11_feed_9 (by decide) ?_
  refine lv_iadd hx hb dX11_feed_11 ?_
  refine lv_topi (fun v1 ev1 => ?_)
  obtain rfl : v1 = 20 := ev1.trans (by decide)
  refine lv_sipush (v := 1400) hx hb dX11_feed_12 (by decide) ?_
  refine lv_icmp_le (tgt := 20) hx hb dX11_feed_15 (by decide) (fun hc => ?_) (fun hc => absurd (by decide) hc)
  refine lv_aload_n hx hb dX11_feed_20 rfl (lv_at hl 0 rfl) ?_
  refine lv_iload_n hx hb dX11_feed_21 rfl (lv_at hl 1 rfl) ?_
  have hPc := hP.sub (ws' := [(h0, .inr (11, fM a (nI 0) sd pa pb dr)), (a 1, .inl (cB, 1400, .inl (fun _ => 0)))]) [0, 1] rfl
  have hKc := hK.sub (tys' := [(cB, .byte)]) [0] rfl
  have hDc := hD.sub (ws' := [(h0, .inr (11, fM a (nI 0) sd pa pb dr)), (a 1, .inl (cB, 1400, .inl (fun _ => 0)))]) [0, 1] (by decide) rfl
  have hFc := va_free (wc := [(h0, .inr (11, fM a (nI 0) sd pa pb dr)), (a 1, .inl (cB, 1400, .inl (fun _ => 0)))]) hD hS hA [0, 1] rfl
  refine va_callv (va_runV (As := [.int z1]) (rest := []) ⟨hx, hb, hml, hown, hts⟩ (c_puts l D _ h0 a sd pa pb dr cB (fun _ => 0) 0 z1 (by first | omega | assumption)) (cwV 1 hts g_c_X11_feed_c_puts_79 rfl rfl rfl (by decide +kernel) ⟨(Nat.le_of_ble_eq_true rfl), (Nat.le_of_ble_eq_true rfl)⟩) (PcW_V (q0 := 0) hPc hKc hDc rfl rfl) rfl rfl hl.1 rfl (lv_room (Nat.le_of_ble_eq_true rfl)) dX11_feed_22 ⟨(Nat.le_of_ble_eq_true rfl), (Nat.le_of_ble_eq_true rfl)⟩) hS (fun q _ h => hFc q h) hFc (fun uu tt H locs htt hvm hw hB hz1 hk1 hS => ?_)
  obtain g3 := uu
  obtain ⟨hP1, hK1, hD1⟩ := hB
  rw [htt] at hP1
  have hK1 := va_K.moved hvm.symm hK1
  have hP1 : va_P D vwCl [(h0, .inr (11, fM a (nI (0 + 4)) sd pa pb dr)), (a 1, .inl (cB, 1400, .inl g3))] H := hP1
  obtain ⟨hP, hD⟩ := va_join (wr := []) (w1 := [(h0, .inr (11, fM a (nI (0 + 4)) sd pa pb dr)), (a 1, .inl (cB, 1400, .inl g3))]) hP hD [0, 1] [] rfl rfl (by decide) (by decide) hk1 hFc hP1 hD1
  have hP : va_P D vwCl [(h0, .inr (11, fM a (nI (0 + 4)) sd pa pb dr)), (a 1, .inl (cB, 1400, .inl g3))] H := hP
  have hD : va_D A [(h0, .inr (11, fM a (nI (0 + 4)) sd pa pb dr)), (a 1, .inl (cB, 1400, .inl g3))] := hD
  try dsimp only at hw
  clear hB hz1 hk1 hFc hPc hKc hDc
  refine lv_aload_n hx hb dX11_feed_25 rfl (lv_at hl 0 rfl) ?_
  refine lv_iload_n hx hb dX11_feed_26 rfl (lv_at hl 2 rfl) ?_
  have hPc := hP.sub (ws' := [(h0, .inr (11, fM a (nI (0 + 4)) sd pa pb dr)), (a 1, .inl (cB, 1400, .inl g3))]) [0, 1] rfl
  have hKc := hK.sub (tys' := [(cB, .byte)]) [0] rfl
  have hDc := hD.sub (ws' := [(h0, .inr (11, fM a (nI (0 + 4)) sd pa pb dr)), (a 1, .inl (cB, 1400, .inl g3))]) [0, 1] (by decide) rfl
  have hFc := va_free (wc := [(h0, .inr (11, fM a (nI (0 + 4)) sd pa pb dr)), (a 1, .inl (cB, 1400, .inl g3))]) hD hS hA [0, 1] rfl
  refine va_callv (va_runV (As := [.int z2]) (rest := []) ⟨hx, hb, hml, hown, hts⟩ (c_puts l D _ h0 a sd pa pb dr cB g3 (0 + 4) z2 (by first | omega | assumption)) (cwV 1 hts g_c_X11_feed_c_puts_79 rfl rfl rfl (by decide +kernel) ⟨(Nat.le_of_ble_eq_true rfl), (Nat.le_of_ble_eq_true rfl)⟩) (PcW_V (q0 := 0) hPc hKc hDc rfl rfl) rfl rfl hl.1 rfl (lv_room (Nat.le_of_ble_eq_true rfl)) dX11_feed_27 ⟨(Nat.le_of_ble_eq_true rfl), (Nat.le_of_ble_eq_true rfl)⟩) hS (fun q _ h => hFc q h) hFc (fun uu tt H locs htt hvm hw hB hz1 hk1 hS => ?_)
  obtain g5 := uu
  obtain ⟨hP1, hK1, hD1⟩ := hB
  rw [htt] at hP1
  have hK1 := va_K.moved hvm.symm hK1
  have hP1 : va_P D vwCl [(h0, .inr (11, fM a (nI ((0 + 4) + 4)) sd pa pb dr)), (a 1, .inl (cB, 1400, .inl g5))] H := hP1
  obtain ⟨hP, hD⟩ := va_join (wr := []) (w1 := [(h0, .inr (11, fM a (nI ((0 + 4) + 4)) sd pa pb dr)), (a 1, .inl (cB, 1400, .inl g5))]) hP hD [0, 1] [] rfl rfl (by decide) (by decide) hk1 hFc hP1 hD1
  have hP : va_P D vwCl [(h0, .inr (11, fM a (nI ((0 + 4) + 4)) sd pa pb dr)), (a 1, .inl (cB, 1400, .inl g5))] H := hP
  have hD : va_D A [(h0, .inr (11, fM a (nI ((0 + 4) + 4)) sd pa pb dr)), (a 1, .inl (cB, 1400, .inl g5))] := hD
  try dsimp only at hw
  clear hB hz1 hk1 hFc hPc hKc hDc
  refine lv_aload_n hx hb dX11_feed_30 rfl (lv_at hl 0 rfl) ?_
  refine lv_iload_n hx hb dX11_feed_31 rfl (lv_at hl 3 rfl) ?_
  have hPc := hP.sub (ws' := [(h0, .inr (11, fM a (nI ((0 + 4) + 4)) sd pa pb dr)), (a 1, .inl (cB, 1400, .inl g5))]) [0, 1] rfl
  have hKc := hK.sub (tys' := [(cB, .byte)]) [0] rfl
  have hDc := hD.sub (ws' := [(h0, .inr (11, fM a (nI ((0 + 4) + 4)) sd pa pb dr)), (a 1, .inl (cB, 1400, .inl g5))]) [0, 1] (by decide) rfl
  have hFc := va_free (wc := [(h0, .inr (11, fM a (nI ((0 + 4) + 4)) sd pa pb dr)), (a 1, .inl (cB, 1400, .inl g5))]) hD hS hA [0, 1] rfl
  refine va_callv (va_runV (As := [.int z3]) (rest := []) ⟨hx, hb, hml, hown, hts⟩ (c_puts l D _ h0 a sd pa pb dr cB g5 ((0 + 4) + 4) z3 (by first | omega | assumption)) (cwV 1 hts g_c_X11_feed_c_puts_79 rfl rfl rfl (by decide +kernel) ⟨(Nat.le_of_ble_eq_true rfl), (Nat.le_of_ble_eq_true rfl)⟩) (PcW_V (q0 := 0) hPc hKc hDc rfl rfl) rfl rfl hl.1 rfl (lv_room (Nat.le_of_ble_eq_true rfl)) dX11_feed_32 ⟨(Nat.le_of_ble_eq_true rfl), (Nat.le_of_ble_eq_true rfl)⟩) hS (fun q _ h => hFc q h) hFc (fun uu tt H locs htt hvm hw hB hz1 hk1 hS => ?_)
  obtain g7 := uu
  obtain ⟨hP1, hK1, hD1⟩ := hB
  rw [htt] at hP1
  have hK1 := va_K.moved hvm.symm hK1
  have hP1 : va_P D vwCl [(h0, .inr (11, fM a (nI (((0 + 4) + 4) + 4)) sd pa pb dr)), (a 1, .inl (cB, 1400, .inl g7))] H := hP1
  obtain ⟨hP, hD⟩ := va_join (wr := []) (w1 := [(h0, .inr (11, fM a (nI (((0 + 4) + 4) + 4)) sd pa pb dr)), (a 1, .inl (cB, 1400, .inl g7))]) hP hD [0, 1] [] rfl rfl (by decide) (by decide) hk1 hFc hP1 hD1
  have hP : va_P D vwCl [(h0, .inr (11, fM a (nI (((0 + 4) + 4) + 4)) sd pa pb dr)), (a 1, .inl (cB, 1400, .inl g7))] H := hP
  have hD : va_D A [(h0, .inr (11, fM a (nI (((0 + 4) + 4) + 4)) sd pa pb dr)), (a 1, .inl (cB, 1400, .inl g7))] := hD
  try dsimp only at hw
  clear hB hz1 hk1 hFc hPc hKc hDc
  refine lv_aload_n hx hb dX11_feed_35 rfl (lv_at hl 0 rfl) ?_
  refine lv_iload hx hb dX11_feed_36 (lv_at hl 4 rfl) ?_
  have hPc := hP.sub (ws' := [(h0, .inr (11, fM a (nI (((0 + 4) + 4) + 4)) sd pa pb dr)), (a 1, .inl (cB, 1400, .inl g7))]) [0, 1] rfl
  have hKc := hK.sub (tys' := [(cB, .byte)]) [0] rfl
  have hDc := hD.sub (ws' := [(h0, .inr (11, fM a (nI (((0 + 4) + 4) + 4)) sd pa pb dr)), (a 1, .inl (cB, 1400, .inl g7))]) [0, 1] (by decide) rfl
  have hFc := va_free (wc := [(h0, .inr (11, fM a (nI (((0 + 4) + 4) + 4)) sd pa pb dr)), (a 1, .inl (cB, 1400, .inl g7))]) hD hS hA [0, 1] rfl
  refine va_callv (va_runV (As := [.int z4]) (rest := []) ⟨hx, hb, hml, hown, hts⟩ (c_puts l D _ h0 a sd pa pb dr cB g7 (((0 + 4) + 4) + 4) z4 (by first | omega | assumption)) (cwV 1 hts g_c_X11_feed_c_puts_79 rfl rfl rfl (by decide +kernel) ⟨(Nat.le_of_ble_eq_true rfl), (Nat.le_of_ble_eq_true rfl)⟩) (PcW_V (q0 := 0) hPc hKc hDc rfl rfl) rfl rfl hl.1 rfl (lv_room (Nat.le_of_ble_eq_true rfl)) dX11_feed_38 ⟨(Nat.le_of_ble_eq_true rfl), (Nat.le_of_ble_eq_true rfl)⟩) hS (fun q _ h => hFc q h) hFc (fun uu tt H locs htt hvm hw hB hz1 hk1 hS => ?_)
  obtain g9 := uu
  obtain ⟨hP1, hK1, hD1⟩ := hB
  rw [htt] at hP1
  have hK1 := va_K.moved hvm.symm hK1
  have hP1 : va_P D vwCl [(h0, .inr (11, fM a (nI ((((0 + 4) + 4) + 4) + 4)) sd pa pb dr)), (a 1, .inl (cB, 1400, .inl g9))] H := hP1
  obtain ⟨hP, hD⟩ := va_join (wr := []) (w1 := [(h0, .inr (11, fM a (nI ((((0 + 4) + 4) + 4) + 4)) sd pa pb dr)), (a 1, .inl (cB, 1400, .inl g9))]) hP hD [0, 1] [] rfl rfl (by decide) (by decide) hk1 hFc hP1 hD1
  have hP : va_P D vwCl [(h0, .inr (11, fM a (nI ((((0 + 4) + 4) + 4) + 4)) sd pa pb dr)), (a 1, .inl (cB, 1400, .inl g9))] H := hP
  have hD : va_D A [(h0, .inr (11, fM a (nI ((((0 + 4) + 4) + 4) + 4)) sd pa pb dr)), (a 1, .inl (cB, 1400, .inl g9))] := hD
  try dsimp only at hw
  clear hB hz1 hk1 hFc hPc hKc hDc
  refine lv_aload_n hx hb dX11_feed_41 rfl (lv_at hl 0 rfl) ?_
  refine lv_iload hx hb dX11_feed_42 (lv_at hl 5 rfl) ?_
  have hPc := hP.sub (ws' := [(h0, .inr (11, fM a (nI ((((0 + 4) + 4) + 4) + 4)) sd pa pb dr)), (a 1, .inl (cB, 1400, .inl g9))]) [0, 1] rfl
  have hKc := hK.sub (tys' := [(cB, .byte)]) [0] rfl
  have hDc := hD.sub (ws' := [(h0, .inr (11, fM a (nI ((((0 + 4) + 4) + 4) + 4)) sd pa pb dr)), (a 1, .inl (cB, 1400, .inl g9))]) [0, 1] (by decide) rfl
  have hFc := va_free (wc := [(h0, .inr (11, fM a (nI ((((0 + 4) + 4) + 4) + 4)) sd pa pb dr)), (a 1, .inl (cB, 1400, .inl g9))]) hD hS hA [0, 1] rfl
  refine va_callv (va_runV (As := [.int z5]) (rest := []) ⟨hx, hb, hml, hown, hts⟩ (c_puts l D _ h0 a sd pa pb dr cB g9 ((((0 + 4) + 4) + 4) + 4) z5 (by first | omega | assumption)) (cwV 1 hts g_c_X11_feed_c_puts_79 rfl rfl rfl (by decide +kernel) ⟨(Nat.le_of_ble_eq_true rfl), (Nat.le_of_ble_eq_true rfl)⟩) (PcW_V (q0 := 0) hPc hKc hDc rfl rfl) rfl rfl hl.1 rfl (lv_room (Nat.le_of_ble_eq_true rfl)) dX11_feed_44 ⟨(Nat.le_of_ble_eq_true rfl), (Nat.le_of_ble_eq_true rfl)⟩) hS (fun q _ h => hFc q h) hFc (fun uu tt H locs htt hvm hw hB hz1 hk1 hS => ?_)
  obtain g11 := uu
  obtain ⟨hP1, hK1, hD1⟩ := hB
  rw [htt] at hP1
  have hK1 := va_K.moved hvm.symm hK1
  have hP1 : va_P D vwCl [(h0, .inr (11, fM a (nI (((((0 + 4) + 4) + 4) + 4) + 4)) sd pa pb dr)), (a 1, .inl (cB, 1400, .inl g11))] H := hP1
  obtain ⟨hP, hD⟩ := va_join (wr := []) (w1 := [(h0, .inr (11, fM a (nI (((((0 + 4) + 4) + 4) + 4) + 4)) sd pa pb dr)), (a 1, .inl (cB, 1400, .inl g11))]) hP hD [0, 1] [] rfl rfl (by decide) (by decide) hk1 hFc hP1 hD1
  have hP : va_P D vwCl [(h0, .inr (11, fM a (nI (((((0 + 4) + 4) + 4) + 4) + 4)) sd pa pb dr)), (a 1, .inl (cB, 1400, .inl g11))] H := hP
  have hD : va_D A [(h0, .inr (11, fM a (nI (((((0 + 4) + 4) + 4) + 4) + 4)) sd pa pb dr)), (a 1, .inl (cB, 1400, .inl g11))] := hD
  try dsimp only at hw
  clear hB hz1 hk1 hFc hPc hKc hDc
  refine lv_aload_n hx hb dX11_feed_47 rfl (lv_at hl 0 rfl) ?_
  refine va_get (D := D) (ci := 11) (v := .int (nI (((((0 + 4) + 4) + 4) + 4) + 4))) (C := RX11) (T := TX11) (N := 47) hx hb hts hin_X11 hown hK hP 0 rfl rfl 2 (by decide) (hts (.fieldLink RX11 76 "ClashFreeModel" "taped" "I") (List.mem_of_getElem? (i := 2) rfl)) (fun _ h9 => h9) rfl dX11_feed_48 ?_
  exact W.iret (v := nI (((((0 + 4) + 4) + 4) + 4) + 4)) hx hb hr (fun t ht hW => ⟨⟨nI (((((0 + 4) + 4) + 4) + 4) + 4), (), rfl, by decide, trivial⟩, hS.F ht⟩) hS.2.2 dX11_feed_51

def own_c_X10_back : List Cond := [.methodLink RX10 55 yX10_isTableNumber, .static yX10_isTableNumber, .initialized RX10, .fieldLink RX10 19 "ClashFree" "taped" "I", .fieldLink RX10 15 "ClashFree" "tape" "[I", .methodLink RX10 322 yX10_isImage, .static yX10_isImage]
def wp_c_X10_back : List Cond := .code yX10_back cX10_back 7 (some .int) :: (own_c_X10_back ++ (wp_c_isTN ++ (wp_c_isImageC ++ (wsX100 ++ ([] : List Cond)))))
set_option maxRecDepth 20000 in
theorem inown_c_X10_back : ∀ w ∈ own_c_X10_back, w ∈ lw_tbl := mem_places [449, 450, 106, 414, 413, 1166, 1167] (by decide +kernel)
set_option maxRecDepth 20000 in
theorem in_c_X10_back : ∀ w ∈ wp_c_X10_back, w ∈ lw_tbl := List.forall_mem_cons.mpr ⟨List.mem_of_getElem? (i := 1165) (by decide +kernel), List.forall_mem_append.mpr ⟨inown_c_X10_back, List.forall_mem_append.mpr ⟨in_c_isTN, List.forall_mem_append.mpr ⟨in_c_isImageC, List.forall_mem_append.mpr ⟨lwb_X10, fun _ h => absurd h List.not_mem_nil⟩⟩⟩⟩⟩
set_option maxRecDepth 20000 in
theorem good_c_X10_back : wp_c_X10_back.all goodWord = true := by decide +kernel
set_option maxRecDepth 20000 in
theorem g_c_X10_back_c_isTN_55 : GoodIn wp_c_X10_back (va_wsS RX10 55 yX10_isTableNumber wp_c_isTN) := goodIn_sub (List.forall_mem_append.mpr ⟨List.forall_mem_cons.mpr ⟨(List.mem_of_getElem? (i := 1) rfl), List.forall_mem_cons.mpr ⟨(List.mem_of_getElem? (i := 2) rfl), List.forall_mem_cons.mpr ⟨(List.mem_of_getElem? (i := 3) rfl), fun _ h => absurd h List.not_mem_nil⟩⟩⟩, (fun _ h => (List.mem_cons_of_mem _ (List.mem_append_right _ (List.mem_append_left _ h))))⟩) (by decide +kernel)
set_option maxRecDepth 20000 in
theorem g_c_X10_back_c_isImageC_322 : GoodIn wp_c_X10_back (va_wsS RX10 322 yX10_isImage wp_c_isImageC) := goodIn_sub (List.forall_mem_append.mpr ⟨List.forall_mem_cons.mpr ⟨(List.mem_of_getElem? (i := 6) rfl), List.forall_mem_cons.mpr ⟨(List.mem_of_getElem? (i := 7) rfl), List.forall_mem_cons.mpr ⟨(List.mem_of_getElem? (i := 3) rfl), fun _ h => absurd h List.not_mem_nil⟩⟩⟩, (fun _ h => (List.mem_cons_of_mem _ (List.mem_append_right _ (List.mem_append_right _ (List.mem_append_left _ h)))))⟩) (by decide +kernel)
set_option maxHeartbeats 4000000 in
set_option maxRecDepth 100000 in
theorem c_X10_back (l : Launch) (D : va_G) (sz : Nat) (h0 : Nat) (ca : Nat → Nat) (cI : ClassId) (z1 : Int32)  : Met l yX10_back wp_c_X10_back ({ frames := 1, cells := 0, slots := 0, locals := 25 }) (PcW D [.ref h0, .int z1] sz [(h0, .inr (10, [.ref (ca 0), .ref (ca 1), .int 0, .ref (ca 3), .ref (ca 4), .ref (ca 5), .ref (ca 6)])), (ca 1, .inl (cI, 1400, .inl (fun _ => 0)))] [(cI, .int)]) (va_Qi (fun (r : Int32) (_ : Unit) => r = if 0 ≤ z1 ∧ z1 < 4 then -1 else -2) (fun (_ : Unit) _ => True) (va_A [(h0, .inr (10, [.ref (ca 0), .ref (ca 1), .int 0, .ref (ca 3), .ref (ca 4), .ref (ca 5), .ref (ca 6)])), (ca 1, .inl (cI, 1400, .inl (fun _ => 0)))] sz)) 0 0 (va_A [(h0, .inr (10, [.ref (ca 0), .ref (ca 1), .int 0, .ref (ca 3), .ref (ca 4), .ref (ca 5), .ref (ca 6)])), (ca 1, .inl (cI, 1400, .inl (fun _ => 0)))] sz) := by
  refine Met.ofW (cc := cX10_back) (maxL := 7) (ret := (some .int)) (by decide) rfl ?_
  intro p e s m args below meth c s₁ B hml hv
  obtain ⟨rfl, hsz, hP, hK, hD0⟩ := hv
  have hx := B.exec
  have hb := B.bytes
  have hr := B.returns
  have hts := atoms_spec (ws := wp_c_X10_back) B.pre
  have hin_X10 : ∀ w ∈ wsX100, w ∈ wp_c_X10_back := fun _ h => (List.mem_cons_of_mem _ (List.mem_append_right _ (List.mem_append_right _ (List.mem_append_right _ (List.mem_append_left _ h)))))
  have hown : s.vm.findClass RX10 = some m.cls := findClass_of_methodNamed B.named
  have hlocks := B.notSynchronized
  subst hsz
  have hD := hD0.self (sz := s.heap.size)
  generalize hAe : va_A [(h0, .inr (10, [.ref (ca 0), .ref (ca 1), .int 0, .ref (ca 3), .ref (ca 4), .ref (ca 5), .ref (ca 6)])), (ca 1, .inl (cI, 1400, .inl (fun _ => 0)))] s.heap.size = A at hD ⊢
  have hA : ∀ q : Nat, s.heap.size ≤ q → A q := fun q h => by rw [← hAe]; exact Or.inr h
  have hS : va_S A s.heap s.heap [] := va_S.rf
  have hP : va_P D vwCl [(h0, .inr (10, [.ref (ca 0), .ref (ca 1), .int 0, .ref (ca 3), .ref (ca 4), .ref (ca 5), .ref (ca 6)])), (ca 1, .inl (cI, 1400, .inl (fun _ => 0)))] s.heap := hP
  have hl := lv_entry ([.ref h0, .int z1]) (n := 7) (Nat.le_of_ble_eq_true rfl)
  rw [lg_entry_eq]
  generalize (lg_sl ([.ref h0, .int z1]) ++ List.replicate (7 - (lg_sl ([.ref h0, .int z1])).length) Slot.unset).toArray = ls at hl ⊢
  have hl : lv_has ls 7 [(0, .ref h0), (1, .int z1)] := hl
  refine lv_iload_n hx hb dX10_back_0 rfl (lv_at hl 1 rfl) ?_
  have hPc := hP.sub (ws' := []) [] rfl
  have hKc := hK.sub (tys' := []) [] rfl
  have hFc := va_free0 hS hA
  refine va_calli (va_runS (As := [.int z1]) (rest := []) ⟨hx, hb, hml, hown, hts⟩ (c_isTN l D _ z1) (va_cwS 1 hts g_c_X10_back_c_isTN_55 rfl rfl rfl (by decide +kernel) ⟨(Nat.le_of_ble_eq_true rfl), (Nat.le_of_ble_eq_true rfl)⟩) (PcR_S hPc hKc) rfl rfl hl.1 rfl (lv_room (Nat.le_of_ble_eq_true rfl)) dX10_back_1 ⟨(Nat.le_of_ble_eq_true rfl), (Nat.le_of_ble_eq_true rfl)⟩) hS (fun q _ h => hFc q h) hFc (fun r1 uu tt H locs htt hvm hw hB hz1 hk1 hS => ?_)
  have hP := va_keep hP hk1
  try dsimp only at hw
  clear hB hz1 hk1 hFc hPc hKc
  have hw_r1 := hw
  refine lv_if_ne (tgt := 10) hx hb dX10_back_4 (by decide) (fun hc2 => ?_) (fun hc2 => ?_)
  ·
    refine lv_aload_n hx hb dX10_back_10 rfl (lv_at hl 0 rfl) ?_
    refine va_get (D := D) (ci := 10) (v := .int 0) (C := RX10) (T := TX10) (N := 7) hx hb hts hin_X10 hown hK hP 0 rfl rfl 2 (by decide) (hts (.fieldLink RX10 19 "ClashFree" "taped" "I") (List.mem_of_getElem? (i := 4) rfl)) (fun _ h9 => h9) rfl dX10_back_11 ?_
    refine lv_istore_n (lv' := [(2, .int 0), (0, .ref h0), (1, .int z1)]) hx hb dX10_back_14 rfl hl (by decide) rfl (fun ls hl => ?_)
    refine lv_aload_n hx hb dX10_back_15 rfl (lv_at hl 1 rfl) ?_
    refine lv_iconst (v := 0) hx hb dX10_back_16 (by decide) ?_
    refine va_put (D := D) (ci := 10) (v := .int 0) (ty := .int) (C := RX10) (T := TX10) (N := 7) hx hb hts hin_X10 tyX10 tyX10_ok nmX10 hown hK hP hD hS 0 rfl rfl 2 (by decide) (hts (.fieldLink RX10 19 "ClashFree" "taped" "I") (List.mem_of_getElem? (i := 4) rfl)) (fun _ h9 => h9) rfl (by decide +kernel) rfl rfl (Nat.le_of_ble_eq_true rfl) dX10_back_17 (fun H locs hP hD hS => ?_)
    have hP : va_P D vwCl [(h0, .inr (10, [.ref (ca 0), .ref (ca 1), .int 0, .ref (ca 3), .ref (ca 4), .ref (ca 5), .ref (ca 6)])), (ca 1, .inl (cI, 1400, .inl (fun _ => 0)))] H := hP
    have hD : va_D A [(h0, .inr (10, [.ref (ca 0), .ref (ca 1), .int 0, .ref (ca 3), .ref (ca 4), .ref (ca 5), .ref (ca 6)])), (ca 1, .inl (cI, 1400, .inl (fun _ => 0)))] := hD
    refine lv_aload_n hx hb dX10_back_20 rfl (lv_at hl 1 rfl) ?_
    refine va_get (D := D) (ci := 10) (v := .ref (ca 1)) (C := RX10) (T := TX10) (N := 7) hx hb hts hin_X10 hown hK hP 0 rfl rfl 1 (by decide) (hts (.fieldLink RX10 15 "ClashFree" "tape" "[I") (List.mem_of_getElem? (i := 5) rfl)) (fun _ h9 => h9) rfl dX10_back_21 ?_
    refine lv_iload_n hx hb dX10_back_24 rfl (lv_at hl 0 rfl) ?_
    have hPc := hP.sub (ws' := []) [] rfl
    have hKc := hK.sub (tys' := []) [] rfl
    have hFc := va_free0 hS hA
    refine va_calli (va_runS (As := [.ref (ca 1), .int 0]) (rest := []) ⟨hx, hb, hml, hown, hts⟩ (c_isImageC l D _ (ca 1) cI (fun _ => 0)) (va_cwS 2 hts g_c_X10_back_c_isImageC_322 rfl rfl rfl (by decide +kernel) ⟨(Nat.le_of_ble_eq_true rfl), (Nat.le_of_ble_eq_true rfl)⟩) (PcR_S hPc hKc) rfl rfl hl.1 rfl (lv_room (Nat.le_of_ble_eq_true rfl)) dX10_back_25 ⟨(Nat.le_of_ble_eq_true rfl), (Nat.le_of_ble_eq_true rfl)⟩) hS (fun q _ h => hFc q h) hFc (fun r3 uu tt H locs htt hvm hw hB hz1 hk1 hS => ?_)
    have hP := va_keep hP hk1
    try dsimp only at hw
    clear hB hz1 hk1 hFc hPc hKc
    obtain rfl : r3 = 0 := hw
    refine lv_if_ne (tgt := 33) hx hb dX10_back_28 (by decide) (fun hc => absurd (by decide) hc) (fun hc => ?_)
    refine lv_iconst (v := (-1)) hx hb dX10_back_31 (by decide) ?_
    exact W.iret (v := (-1)) hx hb hr (fun t ht hW => ⟨⟨(-1), (), rfl, by rw [if_pos (ifT (by rw [← hw_r1]; exact hc2))], trivial⟩, hS.F ht⟩) hS.2.2 dX10_back_32
  ·
    refine lv_bipush (v := (-2)) hx hb dX10_back_7 (by decide) ?_
    exact W.iret (v := (-2)) hx hb hr (fun t ht hW => ⟨⟨(-2), (), rfl, by rw [if_neg (ifF (by rw [← hw_r1]; exact hc2))], trivial⟩, hS.F ht⟩) hS.2.2 dX10_back_9

def own_c_X11_back : List Cond := [.fieldLink RX11 73 "ClashFreeModel" "thrown" "I", .constantLong RX11 87 (3), .methodLink RX11 83 yX11_isIn, .static yX11_isIn, .initialized RX11, .fieldLink RX11 76 "ClashFreeModel" "taped" "I", .methodLink RX11 453 yX11_isImage, .instanceMethod yX11_isImage, .selects RX11 yX11_isImage yX11_isImage]
def wp_c_X11_back : List Cond := .code yX11_back cX11_back 5 (some .int) :: (own_c_X11_back ++ (wp_c_isIn ++ (wp_c_isImageM ++ (wsX110 ++ ([] : List Cond)))))
set_option maxRecDepth 20000 in
theorem inown_c_X11_back : ∀ w ∈ own_c_X11_back, w ∈ lw_tbl := mem_places [1216, 1378, 1371, 1372, 115, 1218, 1811, 1813, 103] (by decide +kernel)
set_option maxRecDepth 20000 in
theorem in_c_X11_back : ∀ w ∈ wp_c_X11_back, w ∈ lw_tbl := List.forall_mem_cons.mpr ⟨List.mem_of_getElem? (i := 1810) (by decide +kernel), List.forall_mem_append.mpr ⟨inown_c_X11_back, List.forall_mem_append.mpr ⟨in_c_isIn, List.forall_mem_append.mpr ⟨in_c_isImageM, List.forall_mem_append.mpr ⟨lwb_X11, fun _ h => absurd h List.not_mem_nil⟩⟩⟩⟩⟩
set_option maxRecDepth 20000 in
theorem good_c_X11_back : wp_c_X11_back.all goodWord = true := by decide +kernel
set_option maxRecDepth 20000 in
theorem g_c_X11_back_c_isIn_83 : GoodIn wp_c_X11_back (va_wsS RX11 83 yX11_isIn wp_c_isIn) := goodIn_sub (List.forall_mem_append.mpr ⟨List.forall_mem_cons.mpr ⟨(List.mem_of_getElem? (i := 3) rfl), List.forall_mem_cons.mpr ⟨(List.mem_of_getElem? (i := 4) rfl), List.forall_mem_cons.mpr ⟨(List.mem_of_getElem? (i := 5) rfl), fun _ h => absurd h List.not_mem_nil⟩⟩⟩, (fun _ h => (List.mem_cons_of_mem _ (List.mem_append_right _ (List.mem_append_left _ h))))⟩) (by decide +kernel)
set_option maxRecDepth 20000 in
theorem g_c_X11_back_c_isImageM_453 : GoodIn wp_c_X11_back (wsV RX11 453 RX11 yX11_isImage wp_c_isImageM) := goodIn_sub (List.forall_mem_append.mpr ⟨List.forall_mem_cons.mpr ⟨(List.mem_of_getElem? (i := 7) rfl), List.forall_mem_cons.mpr ⟨(List.mem_of_getElem? (i := 8) rfl), List.forall_mem_cons.mpr ⟨(List.mem_of_getElem? (i := 9) rfl), List.forall_mem_cons.mpr ⟨(List.mem_of_getElem? (i := 5) rfl), fun _ h => absurd h List.not_mem_nil⟩⟩⟩⟩, (fun _ h => (List.mem_cons_of_mem _ (List.mem_append_right _ (List.mem_append_right _ (List.mem_append_left _ h)))))⟩) (by decide +kernel)
set_option maxHeartbeats 4000000 in
set_option maxRecDepth 100000 in
theorem c_X11_back (l : Launch) (D : va_G) (sz : Nat) (h0 : Nat) (a : Nat → Nat) (cN : ClassId) (sd : Int64) (pa : Int64) (pb : Int64) (dr : Int32) (z1 : Int32)  : Met l yX11_back wp_c_X11_back ({ frames := 1, cells := 0, slots := 0, locals := 27 }) (PcW D [.ref h0, .int z1] sz [(h0, .inr (11, fM a 0 sd pa pb dr)), (a 3, .inl (cN, 85, .inr (.inl (fun _ => 0))))] [(cN, .long)]) (va_Qi (fun (r : Int32) (_ : Unit) => r = if 0 ≤ z1 ∧ z1 < 4 then -1 else -2) (fun (_ : Unit) _ => True) (va_A [(h0, .inr (11, fM a 0 sd pa pb dr)), (a 3, .inl (cN, 85, .inr (.inl (fun _ => 0))))] sz)) 0 0 (va_A [(h0, .inr (11, fM a 0 sd pa pb dr)), (a 3, .inl (cN, 85, .inr (.inl (fun _ => 0))))] sz) := by
  refine Met.ofW (cc := cX11_back) (maxL := 5) (ret := (some .int)) (by decide) rfl ?_
  intro p e s m args below meth c s₁ B hml hv
  obtain ⟨rfl, hsz, hP, hK, hD0⟩ := hv
  have hx := B.exec
  have hb := B.bytes
  have hr := B.returns
  have hts := atoms_spec (ws := wp_c_X11_back) B.pre
  have hin_X11 : ∀ w ∈ wsX110, w ∈ wp_c_X11_back := fun _ h => (List.mem_cons_of_mem _ (List.mem_append_right _ (List.mem_append_right _ (List.mem_append_right _ (List.mem_append_left _ h)))))
  have hown : s.vm.findClass RX11 = some m.cls := findClass_of_methodNamed B.named
  have hlocks := B.notSynchronized
  subst hsz
  have hD := hD0.self (sz := s.heap.size)
  generalize hAe : va_A [(h0, .inr (11, fM a 0 sd pa pb dr)), (a 3, .inl (cN, 85, .inr (.inl (fun _ => 0))))] s.heap.size = A at hD ⊢
  have hA : ∀ q : Nat, s.heap.size ≤ q → A q := fun q h => by rw [← hAe]; exact Or.inr h
  have hS : va_S A s.heap s.heap [] := va_S.rf
  have hP : va_P D vwCl [(h0, .inr (11, fM a 0 sd pa pb dr)), (a 3, .inl (cN, 85, .inr (.inl (fun _ => 0))))] s.heap := hP
  have hl := lv_entry ([.ref h0, .int z1]) (n := 5) (Nat.le_of_ble_eq_true rfl)
  rw [lg_entry_eq]
  generalize (lg_sl ([.ref h0, .int z1]) ++ List.replicate (5 - (lg_sl ([.ref h0, .int z1])).length) Slot.unset).toArray = ls at hl ⊢
  have hl : lv_has ls 5 [(0, .ref h0), (1, .int z1)] := hl
  refine lv_aload_n hx hb dX11_back_0 rfl (lv_at hl 0 rfl) ?_
  refine lv_iconst (v := 0) hx hb dX11_back_1 (by decide) ?_
  refine va_put (D := D) (ci := 11) (v := .int 0) (ty := .int) (C := RX11) (T := TX11) (N := 47) hx hb hts hin_X11 tyX11 tyX11_ok nmX11 hown hK hP hD hS 0 rfl rfl 0 (by decide) (hts (.fieldLink RX11 73 "ClashFreeModel" "thrown" "I") (List.mem_of_getElem? (i := 1) rfl)) (fun _ h9 => h9) rfl (by decide +kernel) rfl rfl (Nat.le_of_ble_eq_true rfl) dX11_back_2 (fun H locs hP hD hS => ?_)
  have hP : va_P D vwCl [(h0, .inr (11, fM a 0 sd pa pb dr)), (a 3, .inl (cN, 85, .inr (.inl (fun _ => 0))))] H := hP
  have hD : va_D A [(h0, .inr (11, fM a 0 sd pa pb dr)), (a 3, .inl (cN, 85, .inr (.inl (fun _ => 0))))] := hD
  refine lv_iload_n hx hb dX11_back_5 rfl (lv_at hl 1 rfl) ?_
  refine lv_i2l hx hb dX11_back_6 rfl ?_
  refine lv_lconst (v := 0) hx hb dX11_back_7 (by decide) ?_
  refine lv_ldc2 (v := 3) hx hb hown (hts (.constantLong RX11 87 (3)) (List.mem_of_getElem? (i := 2) rfl)) dX11_back_8 ?_
  have hPc := hP.sub (ws' := []) [] rfl
  have hKc := hK.sub (tys' := []) [] rfl
  have hFc := va_free0 hS hA
  refine va_calli (va_runS (As := [.long (Int32.toInt64 z1), .long 0, .long 3]) (rest := []) ⟨hx, hb, hml, hown, hts⟩ (c_isIn l D _ (Int32.toInt64 z1) 0 3) (va_cwS 3 hts g_c_X11_back_c_isIn_83 rfl rfl rfl (by decide +kernel) ⟨(Nat.le_of_ble_eq_true rfl), (Nat.le_of_ble_eq_true rfl)⟩) (PcR_S hPc hKc) rfl rfl hl.1 rfl (lv_room (Nat.le_of_ble_eq_true rfl)) dX11_back_11 ⟨(Nat.le_of_ble_eq_true rfl), (Nat.le_of_ble_eq_true rfl)⟩) hS (fun q _ h => hFc q h) hFc (fun r1 uu tt H locs htt hvm hw hB hz1 hk1 hS => ?_)
  have hP := va_keep hP hk1
  try dsimp only at hw
  clear hB hz1 hk1 hFc hPc hKc
  have hw_r1 := hw
  refine lv_if_ne (tgt := 20) hx hb dX11_back_14 (by decide) (fun hc2 => ?_) (fun hc2 => ?_)
  ·
    refine lv_aload_n hx hb dX11_back_20 rfl (lv_at hl 0 rfl) ?_
    refine va_get (D := D) (ci := 11) (v := .int 0) (C := RX11) (T := TX11) (N := 47) hx hb hts hin_X11 hown hK hP 0 rfl rfl 2 (by decide) (hts (.fieldLink RX11 76 "ClashFreeModel" "taped" "I") (List.mem_of_getElem? (i := 6) rfl)) (fun _ h9 => h9) rfl dX11_back_21 ?_
    refine lv_istore_n (lv' := [(2, .int 0), (0, .ref h0), (1, .int z1)]) hx hb dX11_back_24 rfl hl (by decide) rfl (fun ls hl => ?_)
    refine lv_aload_n hx hb dX11_back_25 rfl (lv_at hl 1 rfl) ?_
    refine lv_iconst (v := 0) hx hb dX11_back_26 (by decide) ?_
    refine va_put (D := D) (ci := 11) (v := .int 0) (ty := .int) (C := RX11) (T := TX11) (N := 47) hx hb hts hin_X11 tyX11 tyX11_ok nmX11 hown hK hP hD hS 0 rfl rfl 2 (by decide) (hts (.fieldLink RX11 76 "ClashFreeModel" "taped" "I") (List.mem_of_getElem? (i := 6) rfl)) (fun _ h9 => h9) rfl (by decide +kernel) rfl rfl (Nat.le_of_ble_eq_true rfl) dX11_back_27 (fun H locs hP hD hS => ?_)
    have hP : va_P D vwCl [(h0, .inr (11, fM a 0 sd pa pb dr)), (a 3, .inl (cN, 85, .inr (.inl (fun _ => 0))))] H := hP
    have hD : va_D A [(h0, .inr (11, fM a 0 sd pa pb dr)), (a 3, .inl (cN, 85, .inr (.inl (fun _ => 0))))] := hD
    refine lv_aload_n hx hb dX11_back_30 rfl (lv_at hl 1 rfl) ?_
    refine lv_iload_n hx hb dX11_back_31 rfl (lv_at hl 0 rfl) ?_
    have hPc := hP.sub (ws' := [(h0, .inr (11, fM a 0 sd pa pb dr)), (a 3, .inl (cN, 85, .inr (.inl (fun _ => 0))))]) [0, 1] rfl
    have hKc := hK.sub (tys' := [(cN, .long)]) [0] rfl
    have hFc := va_free0 hS hA
    refine va_calli (va_runV (As := [.int 0]) (rest := []) ⟨hx, hb, hml, hown, hts⟩ (c_isImageM l D _ h0 a cN 0 sd pa pb dr) (cwV 1 hts g_c_X11_back_c_isImageM_453 rfl rfl rfl (by decide +kernel) ⟨(Nat.le_of_ble_eq_true rfl), (Nat.le_of_ble_eq_true rfl)⟩) (PcR_V (q0 := 0) hPc hKc rfl rfl) rfl rfl hl.1 rfl (lv_room (Nat.le_of_ble_eq_true rfl)) dX11_back_32 ⟨(Nat.le_of_ble_eq_true rfl), (Nat.le_of_ble_eq_true rfl)⟩) hS (fun q _ h => hFc q h) hFc (fun r3 uu tt H locs htt hvm hw hB hz1 hk1 hS => ?_)
    have hP := va_keep hP hk1
    try dsimp only at hw
    clear hB hz1 hk1 hFc hPc hKc
    obtain rfl : r3 = 0 := hw
    refine lv_if_ne (tgt := 40) hx hb dX11_back_35 (by decide) (fun hc => absurd (by decide) hc) (fun hc => ?_)
    refine lv_iconst (v := (-1)) hx hb dX11_back_38 (by decide) ?_
    exact W.iret (v := (-1)) hx hb hr (fun t ht hW => ⟨⟨(-1), (), rfl, by rw [if_pos (isIn04a (by rw [← hw_r1]; exact hc2))], trivial⟩, hS.F ht⟩) hS.2.2 dX11_back_39
  ·
    refine lv_bipush (v := (-2)) hx hb dX11_back_17 (by decide) ?_
    exact W.iret (v := (-2)) hx hb hr (fun t ht hW => ⟨⟨(-2), (), rfl, by rw [if_neg (isIn04b (by rw [← hw_r1]; exact hc2))], trivial⟩, hS.F ht⟩) hS.2.2 dX11_back_19

def own_c_X10_count : List Cond := [.methodLink RX10 345 yX10_countTables, .instanceMethod yX10_countTables, .selects RX10 yX10_countTables yX10_countTables, .initialized RX10, .methodLink RX10 348 yX10_countKeys, .instanceMethod yX10_countKeys, .selects RX10 yX10_countKeys yX10_countKeys, .fieldLink RX10 19 "ClashFree" "taped" "I"]
def wp_c_X10_count : List Cond := .code yX10_count cX10_count 2 (some .int) :: (own_c_X10_count ++ (wp_c_countTables ++ (wp_c_countKeys ++ (wsX100 ++ ([] : List Cond)))))
set_option maxRecDepth 20000 in
theorem inown_c_X10_count : ∀ w ∈ own_c_X10_count, w ∈ lw_tbl := mem_places [1202, 1204, 34, 106, 1206, 1208, 35, 414] (by decide +kernel)
set_option maxRecDepth 20000 in
theorem in_c_X10_count : ∀ w ∈ wp_c_X10_count, w ∈ lw_tbl := List.forall_mem_cons.mpr ⟨List.mem_of_getElem? (i := 1201) (by decide +kernel), List.forall_mem_append.mpr ⟨inown_c_X10_count, List.forall_mem_append.mpr ⟨in_c_countTables, List.forall_mem_append.mpr ⟨in_c_countKeys, List.forall_mem_append.mpr ⟨lwb_X10, fun _ h => absurd h List.not_mem_nil⟩⟩⟩⟩⟩
set_option maxRecDepth 20000 in
theorem good_c_X10_count : wp_c_X10_count.all goodWord = true := by decide +kernel
set_option maxRecDepth 20000 in
theorem g_c_X10_count_c_countTables_345 : GoodIn wp_c_X10_count (wsV RX10 345 RX10 yX10_countTables wp_c_countTables) := goodIn_sub (List.forall_mem_append.mpr ⟨List.forall_mem_cons.mpr ⟨(List.mem_of_getElem? (i := 1) rfl), List.forall_mem_cons.mpr ⟨(List.mem_of_getElem? (i := 2) rfl), List.forall_mem_cons.mpr ⟨(List.mem_of_getElem? (i := 3) rfl), List.forall_mem_cons.mpr ⟨(List.mem_of_getElem? (i := 4) rfl), fun _ h => absurd h List.not_mem_nil⟩⟩⟩⟩, (fun _ h => (List.mem_cons_of_mem _ (List.mem_append_right _ (List.mem_append_left _ h))))⟩) (by decide +kernel)
set_option maxRecDepth 20000 in
theorem g_c_X10_count_c_countKeys_348 : GoodIn wp_c_X10_count (wsV RX10 348 RX10 yX10_countKeys wp_c_countKeys) := goodIn_sub (List.forall_mem_append.mpr ⟨List.forall_mem_cons.mpr ⟨(List.mem_of_getElem? (i := 5) rfl), List.forall_mem_cons.mpr ⟨(List.mem_of_getElem? (i := 6) rfl), List.forall_mem_cons.mpr ⟨(List.mem_of_getElem? (i := 7) rfl), List.forall_mem_cons.mpr ⟨(List.mem_of_getElem? (i := 4) rfl), fun _ h => absurd h List.not_mem_nil⟩⟩⟩⟩, (fun _ h => (List.mem_cons_of_mem _ (List.mem_append_right _ (List.mem_append_right _ (List.mem_append_left _ h)))))⟩) (by decide +kernel)
set_option maxHeartbeats 4000000 in
set_option maxRecDepth 100000 in
theorem c_X10_count (l : Launch) (D : va_G) (sz : Nat) (h0 : Nat) (ca : Nat → Nat) (cT : ClassId) (z1 : Int32)  : Met l yX10_count wp_c_X10_count ({ frames := 1, cells := 0, slots := 0, locals := 22 }) (PcR D [.ref h0, .int z1] sz [(h0, .inr (10, [.ref (ca 0), .ref (ca 1), .int 0, .ref (ca 3), .ref (ca 4), .ref (ca 5), .ref (ca 6)])), (ca 0, .inl (cT, 4, .inr (.inr (.inr (.inr (fun _ => none))))))] [(cT, .object RX9)]) (va_Qi (fun (r : Int32) (_ : Unit) => r = if z1 = 0 ∨ z1 = 1 ∨ z1 = 2 then 0 else -1) (fun (_ : Unit) _ => True) (va_A [] sz)) 0 0 (va_A [] sz) := by
  refine Met.ofW (cc := cX10_count) (maxL := 2) (ret := (some .int)) (by decide) rfl ?_
  intro p e s m args below meth c s₁ B hml hv
  obtain ⟨rfl, hsz, hP, hK⟩ := hv
  have hx := B.exec
  have hb := B.bytes
  have hr := B.returns
  have hts := atoms_spec (ws := wp_c_X10_count) B.pre
  have hin_X10 : ∀ w ∈ wsX100, w ∈ wp_c_X10_count := fun _ h => (List.mem_cons_of_mem _ (List.mem_append_right _ (List.mem_append_right _ (List.mem_append_right _ (List.mem_append_left _ h)))))
  have hown : s.vm.findClass RX10 = some m.cls := findClass_of_methodNamed B.named
  have hlocks := B.notSynchronized
  subst hsz
  generalize hAe : va_A [] s.heap.size = A at ⊢
  have hA : ∀ q : Nat, s.heap.size ≤ q → A q := fun q h => by rw [← hAe]; exact Or.inr h
  have hS : va_S A s.heap s.heap [] := va_S.rf
  have hP : va_P D vwCl [(h0, .inr (10, [.ref (ca 0), .ref (ca 1), .int 0, .ref (ca 3), .ref (ca 4), .ref (ca 5), .ref (ca 6)])), (ca 0, .inl (cT, 4, .inr (.inr (.inr (.inr (fun _ => none))))))] s.heap := hP
  have hl := lv_entry ([.ref h0, .int z1]) (n := 2) (Nat.le_of_ble_eq_true rfl)
  rw [lg_entry_eq]
  generalize (lg_sl ([.ref h0, .int z1]) ++ List.replicate (2 - (lg_sl ([.ref h0, .int z1])).length) Slot.unset).toArray = ls at hl ⊢
  have hl : lv_has ls 2 [(0, .ref h0), (1, .int z1)] := hl
  refine lv_iload_n hx hb dX10_count_0 rfl (lv_at hl 1 rfl) ?_
  by_cases hs1 : z1 = 0
  ·
    subst hs1
    refine lv_tableIn (off := 27) (tgt := 28) hx hb dX10_count_1 (by decide) (by decide) (by decide +kernel) (by decide) ?_
    refine lv_aload_n hx hb dX10_count_28 rfl (lv_at hl 0 rfl) ?_
    have hPc := hP.sub (ws' := [(h0, .inr (10, [.ref (ca 0), .ref (ca 1), .int 0, .ref (ca 3), .ref (ca 4), .ref (ca 5), .ref (ca 6)])), (ca 0, .inl (cT, 4, .inr (.inr (.inr (.inr (fun _ => none))))))]) [0, 1] rfl
    have hKc := hK.sub (tys' := [(cT, .object RX9)]) [0] rfl
    have hFc := va_free0 hS hA
    refine va_calli (va_runV (As := []) (rest := []) ⟨hx, hb, hml, hown, hts⟩ (c_countTables l D _ h0 ca cT 0) (cwV 0 hts g_c_X10_count_c_countTables_345 rfl rfl rfl (by decide +kernel) ⟨(Nat.le_of_ble_eq_true rfl), (Nat.le_of_ble_eq_true rfl)⟩) (PcR_V (q0 := 0) hPc hKc rfl rfl) rfl rfl hl.1 rfl (lv_room (Nat.le_of_ble_eq_true rfl)) dX10_count_29 ⟨(Nat.le_of_ble_eq_true rfl), (Nat.le_of_ble_eq_true rfl)⟩) hS (fun q _ h => hFc q h) hFc (fun r2 uu tt H locs htt hvm hw hB hz1 hk1 hS => ?_)
    have hP := va_keep hP hk1
    try dsimp only at hw
    clear hB hz1 hk1 hFc hPc hKc
    obtain rfl : r2 = 0 := hw
    exact W.iret (v := 0) hx hb hr (fun t ht hW => ⟨⟨0, (), rfl, by first | rfl | decide | simp_all, trivial⟩, hS.F ht⟩) hS.2.2 dX10_count_32
  by_cases hs3 : z1 = 1
  ·
    subst hs3
    refine lv_tableIn (off := 32) (tgt := 33) hx hb dX10_count_1 (by decide) (by decide) (by decide +kernel) (by decide) ?_
    refine lv_aload_n hx hb dX10_count_33 rfl (lv_at hl 0 rfl) ?_
    have hPc := hP.sub (ws' := [(h0, .inr (10, [.ref (ca 0), .ref (ca 1), .int 0, .ref (ca 3), .ref (ca 4), .ref (ca 5), .ref (ca 6)])), (ca 0, .inl (cT, 4, .inr (.inr (.inr (.inr (fun _ => none))))))]) [0, 1] rfl
    have hKc := hK.sub (tys' := [(cT, .object RX9)]) [0] rfl
    have hFc := va_free0 hS hA
    refine va_calli (va_runV (As := []) (rest := []) ⟨hx, hb, hml, hown, hts⟩ (c_countKeys l D _ h0 ca cT 0) (cwV 0 hts g_c_X10_count_c_countKeys_348 rfl rfl rfl (by decide +kernel) ⟨(Nat.le_of_ble_eq_true rfl), (Nat.le_of_ble_eq_true rfl)⟩) (PcR_V (q0 := 0) hPc hKc rfl rfl) rfl rfl hl.1 rfl (lv_room (Nat.le_of_ble_eq_true rfl)) dX10_count_34 ⟨(Nat.le_of_ble_eq_true rfl), (Nat.le_of_ble_eq_true rfl)⟩) hS (fun q _ h => hFc q h) hFc (fun r4 uu tt H locs htt hvm hw hB hz1 hk1 hS => ?_)
    have hP := va_keep hP hk1
    try dsimp only at hw
    clear hB hz1 hk1 hFc hPc hKc
    obtain rfl : r4 = 0 := hw
    exact W.iret (v := 0) hx hb hr (fun t ht hW => ⟨⟨0, (), rfl, by first | rfl | decide | simp_all, trivial⟩, hS.F ht⟩) hS.2.2 dX10_count_37
  by_cases hs5 : z1 = 2
  ·
    subst hs5
    refine lv_tableIn (off := 37) (tgt := 38) hx hb dX10_count_1 (by decide) (by decide) (by decide +kernel) (by decide) ?_
    refine lv_aload_n hx hb dX10_count_38 rfl (lv_at hl 0 rfl) ?_
    refine va_get (D := D) (ci := 10) (v := .int 0) (C := RX10) (T := TX10) (N := 7) hx hb hts hin_X10 hown hK hP 0 rfl rfl 2 (by decide) (hts (.fieldLink RX10 19 "ClashFree" "taped" "I") (List.mem_of_getElem? (i := 8) rfl)) (fun _ h9 => h9) rfl dX10_count_39 ?_
    exact W.iret (v := 0) hx hb hr (fun t ht hW => ⟨⟨0, (), rfl, by first | rfl | decide | simp_all, trivial⟩, hS.F ht⟩) hS.2.2 dX10_count_42
  refine lv_tableOut (tgt := 43) hx hb dX10_count_1 (sw3 (by assumption) (by assumption) (by assumption)) (by decide) ?_
  refine lv_iconst (v := (-1)) hx hb dX10_count_43 (by decide) ?_
  exact W.iret (v := (-1)) hx hb hr (fun t ht hW => ⟨⟨(-1), (), rfl, by first | rfl | decide | simp_all, trivial⟩, hS.F ht⟩) hS.2.2 dX10_count_44

def own_c_X11_count : List Cond := [.fieldLink RX11 73 "ClashFreeModel" "thrown" "I", .methodLink RX11 222 yX11_isThere, .instanceMethod yX11_isThere, .selects RX11 yX11_isThere yX11_isThere, .initialized RX11, .methodLink RX11 198 yX11_flag, .static yX11_flag, .fieldLink RX11 76 "ClashFreeModel" "taped" "I"]
def wp_c_X11_count : List Cond := .code yX11_count cX11_count 5 (some .int) :: (own_c_X11_count ++ (wp_c_isThere ++ (wp_c_flag0 ++ (wsX110 ++ ([] : List Cond)))))
set_option maxRecDepth 20000 in
theorem inown_c_X11_count : ∀ w ∈ own_c_X11_count, w ∈ lw_tbl := mem_places [1216, 1466, 1468, 54, 115, 1502, 1503, 1218] (by decide +kernel)
set_option maxRecDepth 20000 in
theorem in_c_X11_count : ∀ w ∈ wp_c_X11_count, w ∈ lw_tbl := List.forall_mem_cons.mpr ⟨List.mem_of_getElem? (i := 1826) (by decide +kernel), List.forall_mem_append.mpr ⟨inown_c_X11_count, List.forall_mem_append.mpr ⟨in_c_isThere, List.forall_mem_append.mpr ⟨in_c_flag0, List.forall_mem_append.mpr ⟨lwb_X11, fun _ h => absurd h List.not_mem_nil⟩⟩⟩⟩⟩
set_option maxRecDepth 20000 in
theorem good_c_X11_count : wp_c_X11_count.all goodWord = true := by decide +kernel
set_option maxRecDepth 20000 in
theorem g_c_X11_count_c_isThere_222 : GoodIn wp_c_X11_count (wsV RX11 222 RX11 yX11_isThere wp_c_isThere) := goodIn_sub (List.forall_mem_append.mpr ⟨List.forall_mem_cons.mpr ⟨(List.mem_of_getElem? (i := 2) rfl), List.forall_mem_cons.mpr ⟨(List.mem_of_getElem? (i := 3) rfl), List.forall_mem_cons.mpr ⟨(List.mem_of_getElem? (i := 4) rfl), List.forall_mem_cons.mpr ⟨(List.mem_of_getElem? (i := 5) rfl), fun _ h => absurd h List.not_mem_nil⟩⟩⟩⟩, (fun _ h => (List.mem_cons_of_mem _ (List.mem_append_right _ (List.mem_append_left _ h))))⟩) (by decide +kernel)
set_option maxRecDepth 20000 in
theorem g_c_X11_count_c_flag0_198 : GoodIn wp_c_X11_count (va_wsS RX11 198 yX11_flag wp_c_flag0) := goodIn_sub (List.forall_mem_append.mpr ⟨List.forall_mem_cons.mpr ⟨(List.mem_of_getElem? (i := 6) rfl), List.forall_mem_cons.mpr ⟨(List.mem_of_getElem? (i := 7) rfl), List.forall_mem_cons.mpr ⟨(List.mem_of_getElem? (i := 5) rfl), fun _ h => absurd h List.not_mem_nil⟩⟩⟩, (fun _ h => (List.mem_cons_of_mem _ (List.mem_append_right _ (List.mem_append_right _ (List.mem_append_left _ h)))))⟩) (by decide +kernel)
set_option maxHeartbeats 4000000 in
set_option maxRecDepth 100000 in
theorem c_X11_count (l : Launch) (D : va_G) (sz : Nat) (h0 : Nat) (a : Nat → Nat) (cN : ClassId) (sd : Int64) (pa : Int64) (pb : Int64) (dr : Int32) (z1 : Int32)  : Met l yX11_count wp_c_X11_count ({ frames := 2, cells := 0, slots := 0, locals := 46 }) (PcW D [.ref h0, .int z1] sz [(h0, .inr (11, fM a 0 sd pa pb dr)), (a 3, .inl (cN, 85, .inr (.inl (fun _ => 0))))] [(cN, .long)]) (va_Qi (fun (r : Int32) (_ : Unit) => r = if z1 = 0 ∨ z1 = 1 ∨ z1 = 2 then 0 else -1) (fun (_ : Unit) _ => True) (va_A [(h0, .inr (11, fM a 0 sd pa pb dr)), (a 3, .inl (cN, 85, .inr (.inl (fun _ => 0))))] sz)) 0 0 (va_A [(h0, .inr (11, fM a 0 sd pa pb dr)), (a 3, .inl (cN, 85, .inr (.inl (fun _ => 0))))] sz) := by
  refine Met.ofW (cc := cX11_count) (maxL := 5) (ret := (some .int)) (by decide) rfl ?_
  intro p e s m args below meth c s₁ B hml hv
  obtain ⟨rfl, hsz, hP, hK, hD0⟩ := hv
  have hx := B.exec
  have hb := B.bytes
  have hr := B.returns
  have hts := atoms_spec (ws := wp_c_X11_count) B.pre
  have hin_X11 : ∀ w ∈ wsX110, w ∈ wp_c_X11_count := fun _ h => (List.mem_cons_of_mem _ (List.mem_append_right _ (List.mem_append_right _ (List.mem_append_right _ (List.mem_append_left _ h)))))
  have hown : s.vm.findClass RX11 = some m.cls := findClass_of_methodNamed B.named
  have hlocks := B.notSynchronized
  subst hsz
  have hD := hD0.self (sz := s.heap.size)
  generalize hAe : va_A [(h0, .inr (11, fM a 0 sd pa pb dr)), (a 3, .inl (cN, 85, .inr (.inl (fun _ => 0))))] s.heap.size = A at hD ⊢
  have hA : ∀ q : Nat, s.heap.size ≤ q → A q := fun q h => by rw [← hAe]; exact Or.inr h
  have hS : va_S A s.heap s.heap [] := va_S.rf
  have hP : va_P D vwCl [(h0, .inr (11, fM a 0 sd pa pb dr)), (a 3, .inl (cN, 85, .inr (.inl (fun _ => 0))))] s.heap := hP
  have hl := lv_entry ([.ref h0, .int z1]) (n := 5) (Nat.le_of_ble_eq_true rfl)
  rw [lg_entry_eq]
  generalize (lg_sl ([.ref h0, .int z1]) ++ List.replicate (5 - (lg_sl ([.ref h0, .int z1])).length) Slot.unset).toArray = ls at hl ⊢
  have hl : lv_has ls 5 [(0, .ref h0), (1, .int z1)] := hl
  refine lv_aload_n hx hb dX11_count_0 rfl (lv_at hl 0 rfl) ?_
  refine lv_iconst (v := 0) hx hb dX11_count_1 (by decide) ?_
  refine va_put (D := D) (ci := 11) (v := .int 0) (ty := .int) (C := RX11) (T := TX11) (N := 47) hx hb hts hin_X11 tyX11 tyX11_ok nmX11 hown hK hP hD hS 0 rfl rfl 0 (by decide) (hts (.fieldLink RX11 73 "ClashFreeModel" "thrown" "I") (List.mem_of_getElem? (i := 1) rfl)) (fun _ h9 => h9) rfl (by decide +kernel) rfl rfl (Nat.le_of_ble_eq_true rfl) dX11_count_2 (fun H locs hP hD hS => ?_)
  have hP : va_P D vwCl [(h0, .inr (11, fM a 0 sd pa pb dr)), (a 3, .inl (cN, 85, .inr (.inl (fun _ => 0))))] H := hP
  have hD : va_D A [(h0, .inr (11, fM a 0 sd pa pb dr)), (a 3, .inl (cN, 85, .inr (.inl (fun _ => 0))))] := hD
  refine lv_iconst (v := 0) hx hb dX11_count_5 (by decide) ?_
  refine lv_istore_n (lv' := [(2, .int 0), (0, .ref h0), (1, .int z1)]) hx hb dX11_count_6 rfl hl (by decide) rfl (fun ls hl => ?_)
  refine lv_iconst (v := 0) hx hb dX11_count_7 (by decide) ?_
  refine lv_istore_n (lv' := [(3, .int 0), (2, .int 0), (0, .ref h0), (1, .int z1)]) hx hb dX11_count_8 rfl hl (by decide) rfl (fun ls hl => ?_)
  refine lv_iconst (v := 0) hx hb dX11_count_9 (by decide) ?_
  refine lv_istore (lv' := [(4, .int 0), (3, .int 0), (2, .int 0), (0, .ref h0), (1, .int z1)]) hx hb dX11_count_10 hl (by decide) rfl (fun ls hl => ?_)
  refine lv_iload hx hb dX11_count_12 (lv_at hl 0 rfl) ?_
  refine lv_iconst (v := 4) hx hb dX11_count_14 (by decide) ?_
  refine lv_icmp_ge (tgt := 58) hx hb dX11_count_15 (by decide) (fun hc => absurd hc (by decide)) (fun hc => ?_)
  refine lv_iload_n hx hb dX11_count_18 rfl (lv_at hl 2 rfl) ?_
  refine lv_aload_n hx hb dX11_count_19 rfl (lv_at hl 3 rfl) ?_
  refine lv_iload hx hb dX11_count_20 (lv_at hl 0 rfl) ?_
  have hPc := hP.sub (ws' := [(h0, .inr (11, fM a 0 sd pa pb dr)), (a 3, .inl (cN, 85, .inr (.inl (fun _ => 0))))]) [0, 1] rfl
  have hKc := hK.sub (tys' := [(cN, .long)]) [0] rfl
  have hFc := va_free0 hS hA
  refine va_calli (va_runV (As := [.int 0]) (rest := [.int 0]) ⟨hx, hb, hml, hown, hts⟩ (c_isThere l D _ h0 a cN 0 sd pa pb dr 0) (cwV 1 hts g_c_X11_count_c_isThere_222 rfl rfl rfl (by decide +kernel) ⟨(Nat.le_of_ble_eq_true rfl), (Nat.le_of_ble_eq_true rfl)⟩) (PcR_V (q0 := 0) hPc hKc rfl rfl) rfl rfl hl.1 rfl (lv_room (Nat.le_of_ble_eq_true rfl)) dX11_count_22 ⟨(Nat.le_of_ble_eq_true rfl), (Nat.le_of_ble_eq_true rfl)⟩) hS (fun q _ h => hFc q h) hFc (fun r1 uu tt H locs htt hvm hw hB hz1 hk1 hS => ?_)
  have hP := va_keep hP hk1
  try dsimp only at hw
  clear hB hz1 hk1 hFc hPc hKc
  obtain rfl : r1 = 0 := hw
  have hPc := hP.sub (ws' := []) [] rfl
  have hKc := hK.sub (tys' := []) [] rfl
  have hFc := va_free0 hS hA
  refine va_calli (va_runS (As := [.int 0]) (rest := [.int 0]) ⟨hx, hb, hml, hown, hts⟩ (c_flag0 l D _ ) (va_cwS 1 hts g_c_X11_count_c_flag0_198 rfl rfl rfl (by decide +kernel) ⟨(Nat.le_of_ble_eq_true rfl), (Nat.le_of_ble_eq_true rfl)⟩) (PcR_S hPc hKc) rfl rfl hl.1 rfl (lv_room (Nat.le_of_ble_eq_true rfl)) dX11_count_25 ⟨(Nat.le_of_ble_eq_true rfl), (Nat.le_of_ble_eq_true rfl)⟩) hS (fun q _ h => hFc q h) hFc (fun r2 uu tt H locs htt hvm hw hB hz1 hk1 hS => ?_)
  have hP := va_keep hP hk1
  try dsimp only at hw
  clear hB hz1 hk1 hFc hPc hKc
  obtain rfl : r2 = 0 := hw
  refine lv_iadd hx hb dX11_count_28 ?_
  refine lv_topi (fun v3 ev3 => ?_)
  obtain rfl : v3 = 0 := ev3.trans (by decide)
  refine lv_istore_n (lv' := [(2, .int 0), (4, .int 0), (3, .int 0), (0, .ref h0), (1, .int z1)]) hx hb dX11_count_29 rfl hl (by decide) rfl (fun ls hl => ?_)
  refine lv_iload_n hx hb dX11_count_30 rfl (lv_at hl 2 rfl) ?_
  refine lv_aload_n hx hb dX11_count_31 rfl (lv_at hl 3 rfl) ?_
  refine lv_iload hx hb dX11_count_32 (lv_at hl 1 rfl) ?_
  have hPc := hP.sub (ws' := [(h0, .inr (11, fM a 0 sd pa pb dr)), (a 3, .inl (cN, 85, .inr (.inl (fun _ => 0))))]) [0, 1] rfl
  have hKc := hK.sub (tys' := [(cN, .long)]) [0] rfl
  have hFc := va_free0 hS hA
  refine va_calli (va_runV (As := [.int 0]) (rest := [.int 0]) ⟨hx, hb, hml, hown, hts⟩ (c_isThere l D _ h0 a cN 0 sd pa pb dr 0) (cwV 1 hts g_c_X11_count_c_isThere_222 rfl rfl rfl (by decide +kernel) ⟨(Nat.le_of_ble_eq_true rfl), (Nat.le_of_ble_eq_true rfl)⟩) (PcR_V (q0 := 0) hPc hKc rfl rfl) rfl rfl hl.1 rfl (lv_room (Nat.le_of_ble_eq_true rfl)) dX11_count_34 ⟨(Nat.le_of_ble_eq_true rfl), (Nat.le_of_ble_eq_true rfl)⟩) hS (fun q _ h => hFc q h) hFc (fun r4 uu tt H locs htt hvm hw hB hz1 hk1 hS => ?_)
  have hP := va_keep hP hk1
  try dsimp only at hw
  clear hB hz1 hk1 hFc hPc hKc
  obtain rfl : r4 = 0 := hw
  refine lv_if_eq (tgt := 49) hx hb dX11_count_37 (by decide) (fun hc => ?_) (fun hc => absurd (by decide) hc)
  refine lv_iconst (v := 0) hx hb dX11_count_49 (by decide) ?_
  refine lv_iadd hx hb dX11_count_50 ?_
  refine lv_topi (fun v5 ev5 => ?_)
  obtain rfl : v5 = 0 := ev5.trans (by decide)
  refine lv_istore_n (lv' := [(3, .int 0), (2, .int 0), (4, .int 0), (0, .ref h0), (1, .int z1)]) hx hb dX11_count_51 rfl hl (by decide) rfl (fun ls hl => ?_)
  refine lv_iinc (v := 1) (lv' := [(4, .int 1), (3, .int 0), (2, .int 0), (0, .ref h0), (1, .int z1)]) hx hb dX11_count_52 hl (k := 2) rfl (by decide) (by decide) rfl (fun ls hl => ?_)
  refine lv_goto (tgt := 12) hx hb dX11_count_55 (by decide) ?_
  refine lv_iload hx hb dX11_count_12 (lv_at hl 0 rfl) ?_
  refine lv_iconst (v := 4) hx hb dX11_count_14 (by decide) ?_
  refine lv_icmp_ge (tgt := 58) hx hb dX11_count_15 (by decide) (fun hc => absurd hc (by decide)) (fun hc => ?_)
  refine lv_iload_n hx hb dX11_count_18 rfl (lv_at hl 2 rfl) ?_
  refine lv_aload_n hx hb dX11_count_19 rfl (lv_at hl 3 rfl) ?_
  refine lv_iload hx hb dX11_count_20 (lv_at hl 0 rfl) ?_
  have hPc := hP.sub (ws' := [(h0, .inr (11, fM a 0 sd pa pb dr)), (a 3, .inl (cN, 85, .inr (.inl (fun _ => 0))))]) [0, 1] rfl
  have hKc := hK.sub (tys' := [(cN, .long)]) [0] rfl
  have hFc := va_free0 hS hA
  refine va_calli (va_runV (As := [.int 1]) (rest := [.int 0]) ⟨hx, hb, hml, hown, hts⟩ (c_isThere l D _ h0 a cN 0 sd pa pb dr 1) (cwV 1 hts g_c_X11_count_c_isThere_222 rfl rfl rfl (by decide +kernel) ⟨(Nat.le_of_ble_eq_true rfl), (Nat.le_of_ble_eq_true rfl)⟩) (PcR_V (q0 := 0) hPc hKc rfl rfl) rfl rfl hl.1 rfl (lv_room (Nat.le_of_ble_eq_true rfl)) dX11_count_22 ⟨(Nat.le_of_ble_eq_true rfl), (Nat.le_of_ble_eq_true rfl)⟩) hS (fun q _ h => hFc q h) hFc (fun r6 uu tt H locs htt hvm hw hB hz1 hk1 hS => ?_)
  have hP := va_keep hP hk1
  try dsimp only at hw
  clear hB hz1 hk1 hFc hPc hKc
  obtain rfl : r6 = 0 := hw
  have hPc := hP.sub (ws' := []) [] rfl
  have hKc := hK.sub (tys' := []) [] rfl
  have hFc := va_free0 hS hA
  refine va_calli (va_runS (As := [.int 0]) (rest := [.int 0]) ⟨hx, hb, hml, hown, hts⟩ (c_flag0 l D _ ) (va_cwS 1 hts g_c_X11_count_c_flag0_198 rfl rfl rfl (by decide +kernel) ⟨(Nat.le_of_ble_eq_true rfl), (Nat.le_of_ble_eq_true rfl)⟩) (PcR_S hPc hKc) rfl rfl hl.1 rfl (lv_room (Nat.le_of_ble_eq_true rfl)) dX11_count_25 ⟨(Nat.le_of_ble_eq_true rfl), (Nat.le_of_ble_eq_true rfl)⟩) hS (fun q _ h => hFc q h) hFc (fun r7 uu tt H locs htt hvm hw hB hz1 hk1 hS => ?_)
  have hP := va_keep hP hk1
  try dsimp only at hw
  clear hB hz1 hk1 hFc hPc hKc
  obtain rfl : r7 = 0 := hw
  refine lv_iadd hx hb dX11_count_28 ?_
  refine lv_topi (fun v8 ev8 => ?_)
  obtain rfl : v8 = 0 := ev8.trans (by decide)
  refine lv_istore_n (lv' := [(2, .int 0), (4, .int 1), (3, .int 0), (0, .ref h0), (1, .int z1)]) hx hb dX11_count_29 rfl hl (by decide) rfl (fun ls hl => ?_)
  refine lv_iload_n hx hb dX11_count_30 rfl (lv_at hl 2 rfl) ?_
  refine lv_aload_n hx hb dX11_count_31 rfl (lv_at hl 3 rfl) ?_
  refine lv_iload hx hb dX11_count_32 (lv_at hl 1 rfl) ?_
  have hPc := hP.sub (ws' := [(h0, .inr (11, fM a 0 sd pa pb dr)), (a 3, .inl (cN, 85, .inr (.inl (fun _ => 0))))]) [0, 1] rfl
  have hKc := hK.sub (tys' := [(cN, .long)]) [0] rfl
  have hFc := va_free0 hS hA
  refine va_calli (va_runV (As := [.int 1]) (rest := [.int 0]) ⟨hx, hb, hml, hown, hts⟩ (c_isThere l D _ h0 a cN 0 sd pa pb dr 1) (cwV 1 hts g_c_X11_count_c_isThere_222 rfl rfl rfl (by decide +kernel) ⟨(Nat.le_of_ble_eq_true rfl), (Nat.le_of_ble_eq_true rfl)⟩) (PcR_V (q0 := 0) hPc hKc rfl rfl) rfl rfl hl.1 rfl (lv_room (Nat.le_of_ble_eq_true rfl)) dX11_count_34 ⟨(Nat.le_of_ble_eq_true rfl), (Nat.le_of_ble_eq_true rfl)⟩) hS (fun q _ h => hFc q h) hFc (fun r9 uu tt H locs htt hvm hw hB hz1 hk1 hS => ?_)
  have hP := va_keep hP hk1
  try dsimp only at hw
  clear hB hz1 hk1 hFc hPc hKc
  obtain rfl : r9 = 0 := hw
  refine lv_if_eq (tgt := 49) hx hb dX11_count_37 (by decide) (fun hc => ?_) (fun hc => absurd (by decide) hc)
  refine lv_iconst (v := 0) hx hb dX11_count_49 (by decide) ?_
  refine lv_iadd hx hb dX11_count_50 ?_
  refine lv_topi (fun v10 ev10 => ?_)
  obtain rfl : v10 = 0 := ev10.trans (by decide)
  refine lv_istore_n (lv' := [(3, .int 0), (2, .int 0), (4, .int 1), (0, .ref h0), (1, .int z1)]) hx hb dX11_count_51 rfl hl (by decide) rfl (fun ls hl => ?_)
  refine lv_iinc (v := 2) (lv' := [(4, .int 2), (3, .int 0), (2, .int 0), (0, .ref h0), (1, .int z1)]) hx hb dX11_count_52 hl (k := 2) rfl (by decide) (by decide) rfl (fun ls hl => ?_)
  refine lv_goto (tgt := 12) hx hb dX11_count_55 (by decide) ?_
  refine lv_iload hx hb dX11_count_12 (lv_at hl 0 rfl) ?_
  refine lv_iconst (v := 4) hx hb dX11_count_14 (by decide) ?_
  refine lv_icmp_ge (tgt := 58) hx hb dX11_count_15 (by decide) (fun hc => absurd hc (by decide)) (fun hc => ?_)
  refine lv_iload_n hx hb dX11_count_18 rfl (lv_at hl 2 rfl) ?_
  refine lv_aload_n hx hb dX11_count_19 rfl (lv_at hl 3 rfl) ?_
  refine lv_iload hx hb dX11_count_20 (lv_at hl 0 rfl) ?_
  have hPc := hP.sub (ws' := [(h0, .inr (11, fM a 0 sd pa pb dr)), (a 3, .inl (cN, 85, .inr (.inl (fun _ => 0))))]) [0, 1] rfl
  have hKc := hK.sub (tys' := [(cN, .long)]) [0] rfl
  have hFc := va_free0 hS hA
  refine va_calli (va_runV (As := [.int 2]) (rest := [.int 0]) ⟨hx, hb, hml, hown, hts⟩ (c_isThere l D _ h0 a cN 0 sd pa pb dr 2) (cwV 1 hts g_c_X11_count_c_isThere_222 rfl rfl rfl (by decide +kernel) ⟨(Nat.le_of_ble_eq_true rfl), (Nat.le_of_ble_eq_true rfl)⟩) (PcR_V (q0 := 0) hPc hKc rfl rfl) rfl rfl hl.1 rfl (lv_room (Nat.le_of_ble_eq_true rfl)) dX11_count_22 ⟨(Nat.le_of_ble_eq_true rfl), (Nat.le_of_ble_eq_true rfl)⟩) hS (fun q _ h => hFc q h) hFc (fun r11 uu tt H locs htt hvm hw hB hz1 hk1 hS => ?_)
  have hP := va_keep hP hk1
  try dsimp only at hw
  clear hB hz1 hk1 hFc hPc hKc
  obtain rfl : r11 = 0 := hw
  have hPc := hP.sub (ws' := []) [] rfl
  have hKc := hK.sub (tys' := []) [] rfl
  have hFc := va_free0 hS hA
  refine va_calli (va_runS (As := [.int 0]) (rest := [.int 0]) ⟨hx, hb, hml, hown, hts⟩ (c_flag0 l D _ ) (va_cwS 1 hts g_c_X11_count_c_flag0_198 rfl rfl rfl (by decide +kernel) ⟨(Nat.le_of_ble_eq_true rfl), (Nat.le_of_ble_eq_true rfl)⟩) (PcR_S hPc hKc) rfl rfl hl.1 rfl (lv_room (Nat.le_of_ble_eq_true rfl)) dX11_count_25 ⟨(Nat.le_of_ble_eq_true rfl), (Nat.le_of_ble_eq_true rfl)⟩) hS (fun q _ h => hFc q h) hFc (fun r12 uu tt H locs htt hvm hw hB hz1 hk1 hS => ?_)
  have hP := va_keep hP hk1
  try dsimp only at hw
  clear hB hz1 hk1 hFc hPc hKc
  obtain rfl : r12 = 0 := hw
  refine lv_iadd hx hb dX11_count_28 ?_
  refine lv_topi (fun v13 ev13 => ?_)
  obtain rfl : v13 = 0 := ev13.trans (by decide)
  refine lv_istore_n (lv' := [(2, .int 0), (4, .int 2), (3, .int 0), (0, .ref h0), (1, .int z1)]) hx hb dX11_count_29 rfl hl (by decide) rfl (fun ls hl => ?_)
  refine lv_iload_n hx hb dX11_count_30 rfl (lv_at hl 2 rfl) ?_
  refine lv_aload_n hx hb dX11_count_31 rfl (lv_at hl 3 rfl) ?_
  refine lv_iload hx hb dX11_count_32 (lv_at hl 1 rfl) ?_
  have hPc := hP.sub (ws' := [(h0, .inr (11, fM a 0 sd pa pb dr)), (a 3, .inl (cN, 85, .inr (.inl (fun _ => 0))))]) [0, 1] rfl
  have hKc := hK.sub (tys' := [(cN, .long)]) [0] rfl
  have hFc := va_free0 hS hA
  refine va_calli (va_runV (As := [.int 2]) (rest := [.int 0]) ⟨hx, hb, hml, hown, hts⟩ (c_isThere l D _ h0 a cN 0 sd pa pb dr 2) (cwV 1 hts g_c_X11_count_c_isThere_222 rfl rfl rfl (by decide +kernel) ⟨(Nat.le_of_ble_eq_true rfl), (Nat.le_of_ble_eq_true rfl)⟩) (PcR_V (q0 := 0) hPc hKc rfl rfl) rfl rfl hl.1 rfl (lv_room (Nat.le_of_ble_eq_true rfl)) dX11_count_34 ⟨(Nat.le_of_ble_eq_true rfl), (Nat.le_of_ble_eq_true rfl)⟩) hS (fun q _ h => hFc q h) hFc (fun r14 uu tt H locs htt hvm hw hB hz1 hk1 hS => ?_)
  have hP := va_keep hP hk1
  try dsimp only at hw
  clear hB hz1 hk1 hFc hPc hKc
  obtain rfl : r14 = 0 := hw
  refine lv_if_eq (tgt := 49) hx hb dX11_count_37 (by decide) (fun hc => ?_) (fun hc => absurd (by decide) hc)
  refine lv_iconst (v := 0) hx hb dX11_count_49 (by decide) ?_
  refine lv_iadd hx hb dX11_count_50 ?_
  refine lv_topi (fun v15 ev15 => ?_)
  obtain rfl : v15 = 0 := ev15.trans (by decide)
  refine lv_istore_n (lv' := [(3, .int 0), (2, .int 0), (4, .int 2), (0, .ref h0), (1, .int z1)]) hx hb dX11_count_51 rfl hl (by decide) rfl (fun ls hl => ?_)
  refine lv_iinc (v := 3) (lv' := [(4, .int 3), (3, .int 0), (2, .int 0), (0, .ref h0), (1, .int z1)]) hx hb dX11_count_52 hl (k := 2) rfl (by decide) (by decide) rfl (fun ls hl => ?_)
  refine lv_goto (tgt := 12) hx hb dX11_count_55 (by decide) ?_
  refine lv_iload hx hb dX11_count_12 (lv_at hl 0 rfl) ?_
  refine lv_iconst (v := 4) hx hb dX11_count_14 (by decide) ?_
  refine lv_icmp_ge (tgt := 58) hx hb dX11_count_15 (by decide) (fun hc => absurd hc (by decide)) (fun hc => ?_)
  refine lv_iload_n hx hb dX11_count_18 rfl (lv_at hl 2 rfl) ?_
  refine lv_aload_n hx hb dX11_count_19 rfl (lv_at hl 3 rfl) ?_
  refine lv_iload hx hb dX11_count_20 (lv_at hl 0 rfl) ?_
  have hPc := hP.sub (ws' := [(h0, .inr (11, fM a 0 sd pa pb dr)), (a 3, .inl (cN, 85, .inr (.inl (fun _ => 0))))]) [0, 1] rfl
  have hKc := hK.sub (tys' := [(cN, .long)]) [0] rfl
  have hFc := va_free0 hS hA
  refine va_calli (va_runV (As := [.int 3]) (rest := [.int 0]) ⟨hx, hb, hml, hown, hts⟩ (c_isThere l D _ h0 a cN 0 sd pa pb dr 3) (cwV 1 hts g_c_X11_count_c_isThere_222 rfl rfl rfl (by decide +kernel) ⟨(Nat.le_of_ble_eq_true rfl), (Nat.le_of_ble_eq_true rfl)⟩) (PcR_V (q0 := 0) hPc hKc rfl rfl) rfl rfl hl.1 rfl (lv_room (Nat.le_of_ble_eq_true rfl)) dX11_count_22 ⟨(Nat.le_of_ble_eq_true rfl), (Nat.le_of_ble_eq_true rfl)⟩) hS (fun q _ h => hFc q h) hFc (fun r16 uu tt H locs htt hvm hw hB hz1 hk1 hS => ?_)
  have hP := va_keep hP hk1
  try dsimp only at hw
  clear hB hz1 hk1 hFc hPc hKc
  obtain rfl : r16 = 0 := hw
  have hPc := hP.sub (ws' := []) [] rfl
  have hKc := hK.sub (tys' := []) [] rfl
  have hFc := va_free0 hS hA
  refine va_calli (va_runS (As := [.int 0]) (rest := [.int 0]) ⟨hx, hb, hml, hown, hts⟩ (c_flag0 l D _ ) (va_cwS 1 hts g_c_X11_count_c_flag0_198 rfl rfl rfl (by decide +kernel) ⟨(Nat.le_of_ble_eq_true rfl), (Nat.le_of_ble_eq_true rfl)⟩) (PcR_S hPc hKc) rfl rfl hl.1 rfl (lv_room (Nat.le_of_ble_eq_true rfl)) dX11_count_25 ⟨(Nat.le_of_ble_eq_true rfl), (Nat.le_of_ble_eq_true rfl)⟩) hS (fun q _ h => hFc q h) hFc (fun r17 uu tt H locs htt hvm hw hB hz1 hk1 hS => ?_)
  have hP := va_keep hP hk1
  try dsimp only at hw
  clear hB hz1 hk1 hFc hPc hKc
  obtain rfl : r17 = 0 := hw
  refine lv_iadd hx hb dX11_count_28 ?_
  refine lv_topi (fun v18 ev18 => ?_)
  obtain rfl : v18 = 0 := ev18.trans (by decide)
  refine lv_istore_n (lv' := [(2, .int 0), (4, .int 3), (3, .int 0), (0, .ref h0), (1, .int z1)]) hx hb dX11_count_29 rfl hl (by decide) rfl (fun ls hl => ?_)
  refine lv_iload_n hx hb dX11_count_30 rfl (lv_at hl 2 rfl) ?_
  refine lv_aload_n hx hb dX11_count_31 rfl (lv_at hl 3 rfl) ?_
  refine lv_iload hx hb dX11_count_32 (lv_at hl 1 rfl) ?_
  have hPc := hP.sub (ws' := [(h0, .inr (11, fM a 0 sd pa pb dr)), (a 3, .inl (cN, 85, .inr (.inl (fun _ => 0))))]) [0, 1] rfl
  have hKc := hK.sub (tys' := [(cN, .long)]) [0] rfl
  have hFc := va_free0 hS hA
  refine va_calli (va_runV (As := [.int 3]) (rest := [.int 0]) ⟨hx, hb, hml, hown, hts⟩ (c_isThere l D _ h0 a cN 0 sd pa pb dr 3) (cwV 1 hts g_c_X11_count_c_isThere_222 rfl rfl rfl (by decide +kernel) ⟨(Nat.le_of_ble_eq_true rfl), (Nat.le_of_ble_eq_true rfl)⟩) (PcR_V (q0 := 0) hPc hKc rfl rfl) rfl rfl hl.1 rfl (lv_room (Nat.le_of_ble_eq_true rfl)) dX11_count_34 ⟨(Nat.le_of_ble_eq_true rfl), (Nat.le_of_ble_eq_true rfl)⟩) hS (fun q _ h => hFc q h) hFc (fun r19 uu tt H locs htt hvm hw hB hz1 hk1 hS => ?_)
  have hP := va_keep hP hk1
  try dsimp only at hw
  clear hB hz1 hk1 hFc hPc hKc
  obtain rfl : r19 = 0 := hw
  refine lv_if_eq (tgt := 49) hx hb dX11_count_37 (by decide) (fun hc => ?_) (fun hc => absurd (by decide) hc)
  refine lv_iconst (v := 0) hx hb dX11_count_49 (by decide) ?_
  refine lv_iadd hx hb dX11_count_50 ?_
  refine lv_topi (fun v20 ev20 => ?_)
  obtain rfl : v20 = 0 := ev20.trans (by decide)
  refine lv_istore_n (lv' := [(3, .int 0), (2, .int 0), (4, .int 3), (0, .ref h0), (1, .int z1)]) hx hb dX11_count_51 rfl hl (by decide) rfl (fun ls hl => ?_)
  refine lv_iinc (v := 4) (lv' := [(4, .int 4), (3, .int 0), (2, .int 0), (0, .ref h0), (1, .int z1)]) hx hb dX11_count_52 hl (k := 2) rfl (by decide) (by decide) rfl (fun ls hl => ?_)
  refine lv_goto (tgt := 12) hx hb dX11_count_55 (by decide) ?_
  refine lv_iload hx hb dX11_count_12 (lv_at hl 0 rfl) ?_
  refine lv_iconst (v := 4) hx hb dX11_count_14 (by decide) ?_
  refine lv_icmp_ge (tgt := 58) hx hb dX11_count_15 (by decide) (fun hc => ?_) (fun hc => absurd (by decide) hc)
  refine lv_iload_n hx hb dX11_count_58 rfl (lv_at hl 4 rfl) ?_
  refine lv_if_ne (tgt := 66) hx hb dX11_count_59 (by decide) (fun hc21 => ?_) (fun hc21 => ?_)
  ·
    refine lv_iload_n hx hb dX11_count_66 rfl (lv_at hl 4 rfl) ?_
    refine lv_iconst (v := 1) hx hb dX11_count_67 (by decide) ?_
    refine lv_icmp_ne (tgt := 75) hx hb dX11_count_68 (by decide) (fun hc22 => ?_) (fun hc22 => ?_)
    ·
      refine lv_iload_n hx hb dX11_count_75 rfl (lv_at hl 4 rfl) ?_
      refine lv_iconst (v := 2) hx hb dX11_count_76 (by decide) ?_
      refine lv_icmp_ne (tgt := 87) hx hb dX11_count_77 (by decide) (fun hc23 => ?_) (fun hc23 => ?_)
      ·
        refine lv_iconst (v := (-1)) hx hb dX11_count_87 (by decide) ?_
        exact W.iret (v := (-1)) hx hb hr (fun t ht hW => ⟨⟨(-1), (), rfl, by first | (rw [if_pos (Or.inl (by assumption))]) | (rw [if_pos (Or.inr (Or.inl (by assumption)))]) | (rw [if_pos (Or.inr (Or.inr (by assumption)))]) | (rw [if_neg (fun h => by rcases h with h | h | h <;> contradiction)]), trivial⟩, hS.F ht⟩) hS.2.2 dX11_count_88
      ·
        refine lv_aload_n hx hb dX11_count_80 rfl (lv_at hl 3 rfl) ?_
        refine va_get (D := D) (ci := 11) (v := .int 0) (C := RX11) (T := TX11) (N := 47) hx hb hts hin_X11 hown hK hP 0 rfl rfl 2 (by decide) (hts (.fieldLink RX11 76 "ClashFreeModel" "taped" "I") (List.mem_of_getElem? (i := 8) rfl)) (fun _ h9 => h9) rfl dX11_count_81 ?_
        refine lv_goto (tgt := 88) hx hb dX11_count_84 (by decide) ?_
        exact W.iret (v := 0) hx hb hr (fun t ht hW => ⟨⟨0, (), rfl, by first | (rw [if_pos (Or.inl (by assumption))]) | (rw [if_pos (Or.inr (Or.inl (by assumption)))]) | (rw [if_pos (Or.inr (Or.inr (by assumption)))]) | (rw [if_neg (fun h => by rcases h with h | h | h <;> contradiction)]), trivial⟩, hS.F ht⟩) hS.2.2 dX11_count_88
    ·
      refine lv_iload_n hx hb dX11_count_71 rfl (lv_at hl 1 rfl) ?_
      refine lv_goto (tgt := 88) hx hb dX11_count_72 (by decide) ?_
      exact W.iret (v := 0) hx hb hr (fun t ht hW => ⟨⟨0, (), rfl, by first | (rw [if_pos (Or.inl (by assumption))]) | (rw [if_pos (Or.inr (Or.inl (by assumption)))]) | (rw [if_pos (Or.inr (Or.inr (by assumption)))]) | (rw [if_neg (fun h => by rcases h with h | h | h <;> contradiction)]), trivial⟩, hS.F ht⟩) hS.2.2 dX11_count_88
  ·
    refine lv_iload_n hx hb dX11_count_62 rfl (lv_at hl 2 rfl) ?_
    refine lv_goto (tgt := 88) hx hb dX11_count_63 (by decide) ?_
    exact W.iret (v := 0) hx hb hr (fun t ht hW => ⟨⟨0, (), rfl, by first | (rw [if_pos (Or.inl (by assumption))]) | (rw [if_pos (Or.inr (Or.inl (by assumption)))]) | (rw [if_pos (Or.inr (Or.inr (by assumption)))]) | (rw [if_neg (fun h => by rcases h with h | h | h <;> contradiction)]), trivial⟩, hS.F ht⟩) hS.2.2 dX11_count_88

def own_c_X10_octet : List Cond := [.fieldLink RX10 33 "ClashFree" "written" "LClashFree$Image;", .fieldLink RX10 316 "ClashFree$Image" "length" "I"]
def wp_c_X10_octet : List Cond := .code yX10_octet cX10_octet 2 (some .int) :: (own_c_X10_octet ++ (wsX100 ++ (wsX10 ++ ([] : List Cond))))
set_option maxRecDepth 20000 in
theorem inown_c_X10_octet : ∀ w ∈ own_c_X10_octet, w ∈ lw_tbl := mem_places [416, 258] (by decide +kernel)
set_option maxRecDepth 20000 in
theorem in_c_X10_octet : ∀ w ∈ wp_c_X10_octet, w ∈ lw_tbl := List.forall_mem_cons.mpr ⟨List.mem_of_getElem? (i := 1161) (by decide +kernel), List.forall_mem_append.mpr ⟨inown_c_X10_octet, List.forall_mem_append.mpr ⟨lwb_X10, List.forall_mem_append.mpr ⟨lwb_X1, fun _ h => absurd h List.not_mem_nil⟩⟩⟩⟩
set_option maxRecDepth 20000 in
theorem good_c_X10_octet : wp_c_X10_octet.all goodWord = true := by decide +kernel
set_option maxHeartbeats 4000000 in
set_option maxRecDepth 100000 in
theorem c_X10_octet (l : Launch) (D : va_G) (sz : Nat) (h0 : Nat) (ca : Nat → Nat) (tp : Int32) (qi : Nat) (z1 : Int32)  : Met l yX10_octet wp_c_X10_octet ({ frames := 0, cells := 0, slots := 0, locals := 0 }) (PcR D [.ref h0, .int z1] sz [(h0, .inr (10, [.ref (ca 0), .ref (ca 1), .int tp, .ref (ca 3), .ref (ca 4), .ref (ca 5), .ref (ca 6)])), (ca 4, .inr (1, [.int 0, .ref qi]))] []) (va_Qi (fun (r : Int32) (_ : Unit) => r = -1) (fun (_ : Unit) _ => True) (va_A [] sz)) 0 0 (va_A [] sz) := by
  refine Met.ofW (cc := cX10_octet) (maxL := 2) (ret := (some .int)) (by decide) rfl ?_
  intro p e s m args below meth c s₁ B hml hv
  obtain ⟨rfl, hsz, hP, hK⟩ := hv
  have hx := B.exec
  have hb := B.bytes
  have hr := B.returns
  have hts := atoms_spec (ws := wp_c_X10_octet) B.pre
  have hin_X10 : ∀ w ∈ wsX100, w ∈ wp_c_X10_octet := fun _ h => (List.mem_cons_of_mem _ (List.mem_append_right _ (List.mem_append_left _ h)))
  have hin_X1 : ∀ w ∈ wsX10, w ∈ wp_c_X10_octet := fun _ h => (List.mem_cons_of_mem _ (List.mem_append_right _ (List.mem_append_right _ (List.mem_append_left _ h))))
  have hown : s.vm.findClass RX10 = some m.cls := findClass_of_methodNamed B.named
  have hlocks := B.notSynchronized
  subst hsz
  generalize hAe : va_A [] s.heap.size = A at ⊢
  have hA : ∀ q : Nat, s.heap.size ≤ q → A q := fun q h => by rw [← hAe]; exact Or.inr h
  have hS : va_S A s.heap s.heap [] := va_S.rf
  have hP : va_P D vwCl [(h0, .inr (10, [.ref (ca 0), .ref (ca 1), .int tp, .ref (ca 3), .ref (ca 4), .ref (ca 5), .ref (ca 6)])), (ca 4, .inr (1, [.int 0, .ref qi]))] s.heap := hP
  have hl := lv_entry ([.ref h0, .int z1]) (n := 2) (Nat.le_of_ble_eq_true rfl)
  rw [lg_entry_eq]
  generalize (lg_sl ([.ref h0, .int z1]) ++ List.replicate (2 - (lg_sl ([.ref h0, .int z1])).length) Slot.unset).toArray = ls at hl ⊢
  have hl : lv_has ls 2 [(0, .ref h0), (1, .int z1)] := hl
  refine lv_iload_n hx hb dX10_octet_0 rfl (lv_at hl 1 rfl) ?_
  refine lv_if_lt (tgt := 15) hx hb dX10_octet_1 (by decide) (fun hc1 => ?_) (fun hc1 => ?_)
  ·
    refine lv_iconst (v := (-1)) hx hb dX10_octet_15 (by decide) ?_
    refine lv_goto (tgt := 28) hx hb dX10_octet_16 (by decide) ?_
    exact W.iret (v := (-1)) hx hb hr (fun t ht hW => ⟨⟨(-1), (), rfl, rfl, trivial⟩, hS.F ht⟩) hS.2.2 dX10_octet_28
  ·
    refine lv_iload_n hx hb dX10_octet_4 rfl (lv_at hl 1 rfl) ?_
    refine lv_aload_n hx hb dX10_octet_5 rfl (lv_at hl 0 rfl) ?_
    refine va_get (D := D) (ci := 10) (v := .ref (ca 4)) (C := RX10) (T := TX10) (N := 7) hx hb hts hin_X10 hown hK hP 0 rfl rfl 4 (by decide) (hts (.fieldLink RX10 33 "ClashFree" "written" "LClashFree$Image;") (List.mem_of_getElem? (i := 1) rfl)) (fun _ h9 => h9) rfl dX10_octet_6 ?_
    refine va_get (D := D) (ci := 1) (v := .int 0) (C := RX1) (T := TX1) (N := 2) hx hb hts hin_X1 hown hK hP 1 rfl rfl 0 (by decide) (hts (.fieldLink RX10 316 "ClashFree$Image" "length" "I") (List.mem_of_getElem? (i := 2) rfl)) (fun _ h9 => h9) rfl dX10_octet_9 ?_
    refine lv_icmp_lt (tgt := 19) hx hb dX10_octet_12 (by decide) (fun hc => absurd hc (fun h => absurd h (by assumption))) (fun hc => ?_)
    refine lv_iconst (v := (-1)) hx hb dX10_octet_15 (by decide) ?_
    refine lv_goto (tgt := 28) hx hb dX10_octet_16 (by decide) ?_
    exact W.iret (v := (-1)) hx hb hr (fun t ht hW => ⟨⟨(-1), (), rfl, rfl, trivial⟩, hS.F ht⟩) hS.2.2 dX10_octet_28

def own_c_X11_octet : List Cond := [.fieldLink RX11 73 "ClashFreeModel" "thrown" "I", .fieldLink RX11 437 "ClashFreeModel" "octetMany" "I", .methodLink RX11 83 yX11_isIn, .static yX11_isIn, .initialized RX11]
def wp_c_X11_octet : List Cond := .code yX11_octet cX11_octet 2 (some .int) :: (own_c_X11_octet ++ (wp_c_isIn ++ (wsX110 ++ ([] : List Cond))))
set_option maxRecDepth 20000 in
theorem inown_c_X11_octet : ∀ w ∈ own_c_X11_octet, w ∈ lw_tbl := mem_places [1216, 1262, 1371, 1372, 115] (by decide +kernel)
set_option maxRecDepth 20000 in
theorem in_c_X11_octet : ∀ w ∈ wp_c_X11_octet, w ∈ lw_tbl := List.forall_mem_cons.mpr ⟨List.mem_of_getElem? (i := 1806) (by decide +kernel), List.forall_mem_append.mpr ⟨inown_c_X11_octet, List.forall_mem_append.mpr ⟨in_c_isIn, List.forall_mem_append.mpr ⟨lwb_X11, fun _ h => absurd h List.not_mem_nil⟩⟩⟩⟩
set_option maxRecDepth 20000 in
theorem good_c_X11_octet : wp_c_X11_octet.all goodWord = true := by decide +kernel
set_option maxRecDepth 20000 in
theorem g_c_X11_octet_c_isIn_83 : GoodIn wp_c_X11_octet (va_wsS RX11 83 yX11_isIn wp_c_isIn) := goodIn_sub (List.forall_mem_append.mpr ⟨List.forall_mem_cons.mpr ⟨(List.mem_of_getElem? (i := 3) rfl), List.forall_mem_cons.mpr ⟨(List.mem_of_getElem? (i := 4) rfl), List.forall_mem_cons.mpr ⟨(List.mem_of_getElem? (i := 5) rfl), fun _ h => absurd h List.not_mem_nil⟩⟩⟩, (fun _ h => (List.mem_cons_of_mem _ (List.mem_append_right _ (List.mem_append_left _ h))))⟩) (by decide +kernel)
set_option maxHeartbeats 4000000 in
set_option maxRecDepth 100000 in
theorem c_X11_octet (l : Launch) (D : va_G) (sz : Nat) (h0 : Nat) (a : Nat → Nat) (cN : ClassId) (tp : Int32) (sd : Int64) (pa : Int64) (pb : Int64) (dr : Int32) (z1 : Int32)  : Met l yX11_octet wp_c_X11_octet ({ frames := 1, cells := 0, slots := 0, locals := 25 }) (PcW D [.ref h0, .int z1] sz [(h0, .inr (11, fM a tp sd pa pb dr)), (a 3, .inl (cN, 85, .inr (.inl (fun _ => 0))))] [(cN, .long)]) (va_Qi (fun (r : Int32) (_ : Unit) => r = -1) (fun (_ : Unit) _ => True) (va_A [(h0, .inr (11, fM a tp sd pa pb dr)), (a 3, .inl (cN, 85, .inr (.inl (fun _ => 0))))] sz)) 0 0 (va_A [(h0, .inr (11, fM a tp sd pa pb dr)), (a 3, .inl (cN, 85, .inr (.inl (fun _ => 0))))] sz) := by
  refine Met.ofW (cc := cX11_octet) (maxL := 2) (ret := (some .int)) (by decide) rfl ?_
  intro p e s m args below meth c s₁ B hml hv
  obtain ⟨rfl, hsz, hP, hK, hD0⟩ := hv
  have hx := B.exec
  have hb := B.bytes
  have hr := B.returns
  have hts := atoms_spec (ws := wp_c_X11_octet) B.pre
  have hin_X11 : ∀ w ∈ wsX110, w ∈ wp_c_X11_octet := fun _ h => (List.mem_cons_of_mem _ (List.mem_append_right _ (List.mem_append_right _ (List.mem_append_left _ h))))
  have hown : s.vm.findClass RX11 = some m.cls := findClass_of_methodNamed B.named
  have hlocks := B.notSynchronized
  subst hsz
  have hD := hD0.self (sz := s.heap.size)
  generalize hAe : va_A [(h0, .inr (11, fM a tp sd pa pb dr)), (a 3, .inl (cN, 85, .inr (.inl (fun _ => 0))))] s.heap.size = A at hD ⊢
  have hA : ∀ q : Nat, s.heap.size ≤ q → A q := fun q h => by rw [← hAe]; exact Or.inr h
  have hS : va_S A s.heap s.heap [] := va_S.rf
  have hP : va_P D vwCl [(h0, .inr (11, fM a tp sd pa pb dr)), (a 3, .inl (cN, 85, .inr (.inl (fun _ => 0))))] s.heap := hP
  have hl := lv_entry ([.ref h0, .int z1]) (n := 2) (Nat.le_of_ble_eq_true rfl)
  rw [lg_entry_eq]
  generalize (lg_sl ([.ref h0, .int z1]) ++ List.replicate (2 - (lg_sl ([.ref h0, .int z1])).length) Slot.unset).toArray = ls at hl ⊢
  have hl : lv_has ls 2 [(0, .ref h0), (1, .int z1)] := hl
  refine lv_aload_n hx hb dX11_octet_0 rfl (lv_at hl 0 rfl) ?_
  refine lv_iconst (v := 0) hx hb dX11_octet_1 (by decide) ?_
  refine va_put (D := D) (ci := 11) (v := .int 0) (ty := .int) (C := RX11) (T := TX11) (N := 47) hx hb hts hin_X11 tyX11 tyX11_ok nmX11 hown hK hP hD hS 0 rfl rfl 0 (by decide) (hts (.fieldLink RX11 73 "ClashFreeModel" "thrown" "I") (List.mem_of_getElem? (i := 1) rfl)) (fun _ h9 => h9) rfl (by decide +kernel) rfl rfl (Nat.le_of_ble_eq_true rfl) dX11_octet_2 (fun H locs hP hD hS => ?_)
  have hP : va_P D vwCl [(h0, .inr (11, fM a tp sd pa pb dr)), (a 3, .inl (cN, 85, .inr (.inl (fun _ => 0))))] H := hP
  have hD : va_D A [(h0, .inr (11, fM a tp sd pa pb dr)), (a 3, .inl (cN, 85, .inr (.inl (fun _ => 0))))] := hD
  refine lv_iload_n hx hb dX11_octet_5 rfl (lv_at hl 1 rfl) ?_
  refine lv_i2l hx hb dX11_octet_6 rfl ?_
  refine lv_lconst (v := 0) hx hb dX11_octet_7 (by decide) ?_
  refine lv_aload_n hx hb dX11_octet_8 rfl (lv_at hl 0 rfl) ?_
  refine va_get (D := D) (ci := 11) (v := .int 0) (C := RX11) (T := TX11) (N := 47) hx hb hts hin_X11 hown hK hP 0 rfl rfl 46 (by decide) (hts (.fieldLink RX11 437 "ClashFreeModel" "octetMany" "I") (List.mem_of_getElem? (i := 2) rfl)) (fun _ h9 => h9) rfl dX11_octet_9 ?_
  refine lv_iconst (v := 1) hx hb dX11_octet_12 (by decide) ?_
  refine lv_isub hx hb dX11_octet_13 ?_
  refine lv_topi (fun v1 ev1 => ?_)
  obtain rfl : v1 = (-1) := ev1.trans (by decide)
  refine lv_i2l (v := (-1)) hx hb dX11_octet_14 (by decide) ?_
  have hPc := hP.sub (ws' := []) [] rfl
  have hKc := hK.sub (tys' := []) [] rfl
  have hFc := va_free0 hS hA
  refine va_calli (va_runS (As := [.long (Int32.toInt64 z1), .long 0, .long (-1)]) (rest := []) ⟨hx, hb, hml, hown, hts⟩ (c_isIn l D _ (Int32.toInt64 z1) 0 (-1)) (va_cwS 3 hts g_c_X11_octet_c_isIn_83 rfl rfl rfl (by decide +kernel) ⟨(Nat.le_of_ble_eq_true rfl), (Nat.le_of_ble_eq_true rfl)⟩) (PcR_S hPc hKc) rfl rfl hl.1 rfl (lv_room (Nat.le_of_ble_eq_true rfl)) dX11_octet_15 ⟨(Nat.le_of_ble_eq_true rfl), (Nat.le_of_ble_eq_true rfl)⟩) hS (fun q _ h => hFc q h) hFc (fun r2 uu tt H locs htt hvm hw hB hz1 hk1 hS => ?_)
  have hP := va_keep hP hk1
  try dsimp only at hw
  clear hB hz1 hk1 hFc hPc hKc
  have hw_r2 := hw
  refine lv_if_eq (tgt := 30) hx hb dX11_octet_18 (by decide) (fun hc => ?_) (fun hc => absurd (by rw [hw_r2]; exact isInNo _) hc)
  refine lv_iconst (v := (-1)) hx hb dX11_octet_30 (by decide) ?_
  exact W.iret (v := (-1)) hx hb hr (fun t ht hW => ⟨⟨(-1), (), rfl, rfl, trivial⟩, hS.F ht⟩) hS.2.2 dX11_octet_31

def own_c_X10_ran : List Cond := [.fieldLink RX10 40 "ClashFree" "parser" "LClashFree$Parser;", .fieldLink RX10 282 "ClashFree$Parser" "fault" "I", .constantLong RX10 183 (-1), .fieldLink RX10 47 "ClashFree" "machine" "LClashFree$Machine;", .fieldLink RX10 302 "ClashFree$Machine" "refused" "I", .fieldLink RX10 305 "ClashFree$Machine" "latest" "I", .fieldLink RX10 308 "ClashFree$Machine" "ended" "Z", .constantLong RX10 91 (-1000000000000000)]
def wp_c_X10_ran : List Cond := .code yX10_ran cX10_ran 3 (some .long) :: (own_c_X10_ran ++ (wsX100 ++ (wsX60 ++ (wsX40 ++ ([] : List Cond)))))
set_option maxRecDepth 20000 in
theorem inown_c_X10_ran : ∀ w ∈ own_c_X10_ran, w ∈ lw_tbl := mem_places [417, 328, 727, 418, 386, 388, 390, 691] (by decide +kernel)
set_option maxRecDepth 20000 in
theorem in_c_X10_ran : ∀ w ∈ wp_c_X10_ran, w ∈ lw_tbl := List.forall_mem_cons.mpr ⟨List.mem_of_getElem? (i := 1143) (by decide +kernel), List.forall_mem_append.mpr ⟨inown_c_X10_ran, List.forall_mem_append.mpr ⟨lwb_X10, List.forall_mem_append.mpr ⟨lwb_X6, List.forall_mem_append.mpr ⟨lwb_X4, fun _ h => absurd h List.not_mem_nil⟩⟩⟩⟩⟩
set_option maxRecDepth 20000 in
theorem good_c_X10_ran : wp_c_X10_ran.all goodWord = true := by decide +kernel
set_option maxHeartbeats 4000000 in
set_option maxRecDepth 100000 in
theorem c_X10_ran (l : Launch) (D : va_G) (sz : Nat) (h0 : Nat) (ca : Nat → Nat) (tp : Int32) (qp : Nat → Nat) (qm : Nat → Nat) (z1 : Int32)  : Met l yX10_ran wp_c_X10_ran ({ frames := 0, cells := 0, slots := 0, locals := 0 }) (PcR D [.ref h0, .int z1] sz [(h0, .inr (10, [.ref (ca 0), .ref (ca 1), .int tp, .ref (ca 3), .ref (ca 4), .ref (ca 5), .ref (ca 6)])), (ca 5, .inr (6, [.int 0, .int 0, .int 0, .ref (qp 3), .ref (qp 4), .int 0, .int 0, .int 0, .int 0, .int 0, .int 0, .int 0, .ref (qp 12), .int 0, .ref (qp 14)])), (ca 6, .inr (4, [.int 0, .int 0, .int 0, .int 0, .int 0, .ref (qm 5), .int 0, .ref (qm 7)]))] []) (va_Ql (fun (r : Int64) (_ : Unit) => r = ranF z1) (fun (_ : Unit) _ => True) (va_A [] sz)) 0 0 (va_A [] sz) := by
  refine Met.ofW (cc := cX10_ran) (maxL := 3) (ret := (some .long)) (by decide) rfl ?_
  intro p e s m args below meth c s₁ B hml hv
  obtain ⟨rfl, hsz, hP, hK⟩ := hv
  have hx := B.exec
  have hb := B.bytes
  have hr := B.returns
  have hts := atoms_spec (ws := wp_c_X10_ran) B.pre
  have hin_X10 : ∀ w ∈ wsX100, w ∈ wp_c_X10_ran := fun _ h => (List.mem_cons_of_mem _ (List.mem_append_right _ (List.mem_append_left _ h)))
  have hin_X6 : ∀ w ∈ wsX60, w ∈ wp_c_X10_ran := fun _ h => (List.mem_cons_of_mem _ (List.mem_append_right _ (List.mem_append_right _ (List.mem_append_left _ h))))
  have hin_X4 : ∀ w ∈ wsX40, w ∈ wp_c_X10_ran := fun _ h => (List.mem_cons_of_mem _ (List.mem_append_right _ (List.mem_append_right _ (List.mem_append_right _ (List.mem_append_left _ h)))))
  have hown : s.vm.findClass RX10 = some m.cls := findClass_of_methodNamed B.named
  have hlocks := B.notSynchronized
  subst hsz
  generalize hAe : va_A [] s.heap.size = A at ⊢
  have hA : ∀ q : Nat, s.heap.size ≤ q → A q := fun q h => by rw [← hAe]; exact Or.inr h
  have hS : va_S A s.heap s.heap [] := va_S.rf
  have hP : va_P D vwCl [(h0, .inr (10, [.ref (ca 0), .ref (ca 1), .int tp, .ref (ca 3), .ref (ca 4), .ref (ca 5), .ref (ca 6)])), (ca 5, .inr (6, [.int 0, .int 0, .int 0, .ref (qp 3), .ref (qp 4), .int 0, .int 0, .int 0, .int 0, .int 0, .int 0, .int 0, .ref (qp 12), .int 0, .ref (qp 14)])), (ca 6, .inr (4, [.int 0, .int 0, .int 0, .int 0, .int 0, .ref (qm 5), .int 0, .ref (qm 7)]))] s.heap := hP
  have hl := lv_entry ([.ref h0, .int z1]) (n := 3) (Nat.le_of_ble_eq_true rfl)
  rw [lg_entry_eq]
  generalize (lg_sl ([.ref h0, .int z1]) ++ List.replicate (3 - (lg_sl ([.ref h0, .int z1])).length) Slot.unset).toArray = ls at hl ⊢
  have hl : lv_has ls 3 [(0, .ref h0), (1, .int z1)] := hl
  refine lv_aload_n hx hb dX10_ran_0 rfl (lv_at hl 0 rfl) ?_
  refine va_get (D := D) (ci := 10) (v := .ref (ca 5)) (C := RX10) (T := TX10) (N := 7) hx hb hts hin_X10 hown hK hP 0 rfl rfl 5 (by decide) (hts (.fieldLink RX10 40 "ClashFree" "parser" "LClashFree$Parser;") (List.mem_of_getElem? (i := 1) rfl)) (fun _ h9 => h9) rfl dX10_ran_1 ?_
  refine va_get (D := D) (ci := 6) (v := .int 0) (C := RX6) (T := TX6) (N := 15) hx hb hts hin_X6 hown hK hP 1 rfl rfl 0 (by decide) (hts (.fieldLink RX10 282 "ClashFree$Parser" "fault" "I") (List.mem_of_getElem? (i := 2) rfl)) (fun _ h9 => h9) rfl dX10_ran_4 ?_
  refine lv_if_eq (tgt := 14) hx hb dX10_ran_7 (by decide) (fun hc => ?_) (fun hc => absurd (by decide) hc)
  refine lv_iconst (v := 0) hx hb dX10_ran_14 (by decide) ?_
  refine lv_istore_n (lv' := [(2, .int 0), (0, .ref h0), (1, .int z1)]) hx hb dX10_ran_15 rfl hl (by decide) rfl (fun ls hl => ?_)
  refine lv_iload_n hx hb dX10_ran_16 rfl (lv_at hl 2 rfl) ?_
  by_cases hs1 : z1 = 0
  ·
    subst hs1
    refine lv_tableIn (off := 39) (tgt := 56) hx hb dX10_ran_17 (by decide) (by decide) (by decide +kernel) (by decide) ?_
    refine lv_aload_n hx hb dX10_ran_56 rfl (lv_at hl 1 rfl) ?_
    refine va_get (D := D) (ci := 10) (v := .ref (ca 5)) (C := RX10) (T := TX10) (N := 7) hx hb hts hin_X10 hown hK hP 0 rfl rfl 5 (by decide) (hts (.fieldLink RX10 40 "ClashFree" "parser" "LClashFree$Parser;") (List.mem_of_getElem? (i := 1) rfl)) (fun _ h9 => h9) rfl dX10_ran_57 ?_
    refine va_get (D := D) (ci := 6) (v := .int 0) (C := RX6) (T := TX6) (N := 15) hx hb hts hin_X6 hown hK hP 1 rfl rfl 0 (by decide) (hts (.fieldLink RX10 282 "ClashFree$Parser" "fault" "I") (List.mem_of_getElem? (i := 2) rfl)) (fun _ h9 => h9) rfl dX10_ran_60 ?_
    refine lv_i2l (v := 0) hx hb dX10_ran_63 (by decide) ?_
    exact W.lret (v := 0) hx hb hr (fun t ht hW => ⟨⟨0, (), rfl, by first | rfl | decide | exact (ranF_out (by assumption) (by assumption) (by assumption) (by assumption) (by assumption) (by assumption)).symm, trivial⟩, hS.F ht⟩) hS.2.2 dX10_ran_64
  by_cases hs2 : z1 = 1
  ·
    subst hs2
    refine lv_tableIn (off := 48) (tgt := 65) hx hb dX10_ran_17 (by decide) (by decide) (by decide +kernel) (by decide) ?_
    refine lv_iload_n hx hb dX10_ran_65 rfl (lv_at hl 0 rfl) ?_
    refine lv_if_eq (tgt := 80) hx hb dX10_ran_66 (by decide) (fun hc => ?_) (fun hc => absurd (by decide) hc)
    refine lv_ldc2 (v := (-1)) hx hb hown (hts (.constantLong RX10 183 (-1)) (List.mem_of_getElem? (i := 3) rfl)) dX10_ran_80 ?_
    exact W.lret (v := (-1)) hx hb hr (fun t ht hW => ⟨⟨(-1), (), rfl, by first | rfl | decide | exact (ranF_out (by assumption) (by assumption) (by assumption) (by assumption) (by assumption) (by assumption)).symm, trivial⟩, hS.F ht⟩) hS.2.2 dX10_ran_83
  by_cases hs3 : z1 = 2
  ·
    subst hs3
    refine lv_tableIn (off := 67) (tgt := 84) hx hb dX10_ran_17 (by decide) (by decide) (by decide +kernel) (by decide) ?_
    refine lv_iload_n hx hb dX10_ran_84 rfl (lv_at hl 0 rfl) ?_
    refine lv_if_eq (tgt := 99) hx hb dX10_ran_85 (by decide) (fun hc => ?_) (fun hc => absurd (by decide) hc)
    refine lv_ldc2 (v := (-1)) hx hb hown (hts (.constantLong RX10 183 (-1)) (List.mem_of_getElem? (i := 3) rfl)) dX10_ran_99 ?_
    exact W.lret (v := (-1)) hx hb hr (fun t ht hW => ⟨⟨(-1), (), rfl, by first | rfl | decide | exact (ranF_out (by assumption) (by assumption) (by assumption) (by assumption) (by assumption) (by assumption)).symm, trivial⟩, hS.F ht⟩) hS.2.2 dX10_ran_102
  by_cases hs4 : z1 = 3
  ·
    subst hs4
    refine lv_tableIn (off := 86) (tgt := 103) hx hb dX10_ran_17 (by decide) (by decide) (by decide +kernel) (by decide) ?_
    refine lv_aload_n hx hb dX10_ran_103 rfl (lv_at hl 1 rfl) ?_
    refine va_get (D := D) (ci := 10) (v := .ref (ca 6)) (C := RX10) (T := TX10) (N := 7) hx hb hts hin_X10 hown hK hP 0 rfl rfl 6 (by decide) (hts (.fieldLink RX10 47 "ClashFree" "machine" "LClashFree$Machine;") (List.mem_of_getElem? (i := 4) rfl)) (fun _ h9 => h9) rfl dX10_ran_104 ?_
    refine va_get (D := D) (ci := 4) (v := .int 0) (C := RX4) (T := TX4) (N := 8) hx hb hts hin_X4 hown hK hP 2 rfl rfl 1 (by decide) (hts (.fieldLink RX10 302 "ClashFree$Machine" "refused" "I") (List.mem_of_getElem? (i := 5) rfl)) (fun _ h9 => h9) rfl dX10_ran_107 ?_
    refine lv_i2l (v := 0) hx hb dX10_ran_110 (by decide) ?_
    exact W.lret (v := 0) hx hb hr (fun t ht hW => ⟨⟨0, (), rfl, by first | rfl | decide | exact (ranF_out (by assumption) (by assumption) (by assumption) (by assumption) (by assumption) (by assumption)).symm, trivial⟩, hS.F ht⟩) hS.2.2 dX10_ran_111
  by_cases hs5 : z1 = 4
  ·
    subst hs5
    refine lv_tableIn (off := 95) (tgt := 112) hx hb dX10_ran_17 (by decide) (by decide) (by decide +kernel) (by decide) ?_
    refine lv_aload_n hx hb dX10_ran_112 rfl (lv_at hl 1 rfl) ?_
    refine va_get (D := D) (ci := 10) (v := .ref (ca 6)) (C := RX10) (T := TX10) (N := 7) hx hb hts hin_X10 hown hK hP 0 rfl rfl 6 (by decide) (hts (.fieldLink RX10 47 "ClashFree" "machine" "LClashFree$Machine;") (List.mem_of_getElem? (i := 4) rfl)) (fun _ h9 => h9) rfl dX10_ran_113 ?_
    refine va_get (D := D) (ci := 4) (v := .int 0) (C := RX4) (T := TX4) (N := 8) hx hb hts hin_X4 hown hK hP 2 rfl rfl 2 (by decide) (hts (.fieldLink RX10 305 "ClashFree$Machine" "latest" "I") (List.mem_of_getElem? (i := 6) rfl)) (fun _ h9 => h9) rfl dX10_ran_116 ?_
    refine lv_i2l (v := 0) hx hb dX10_ran_119 (by decide) ?_
    exact W.lret (v := 0) hx hb hr (fun t ht hW => ⟨⟨0, (), rfl, by first | rfl | decide | exact (ranF_out (by assumption) (by assumption) (by assumption) (by assumption) (by assumption) (by assumption)).symm, trivial⟩, hS.F ht⟩) hS.2.2 dX10_ran_120
  by_cases hs6 : z1 = 5
  ·
    subst hs6
    refine lv_tableIn (off := 104) (tgt := 121) hx hb dX10_ran_17 (by decide) (by decide) (by decide +kernel) (by decide) ?_
    refine lv_aload_n hx hb dX10_ran_121 rfl (lv_at hl 1 rfl) ?_
    refine va_get (D := D) (ci := 10) (v := .ref (ca 6)) (C := RX10) (T := TX10) (N := 7) hx hb hts hin_X10 hown hK hP 0 rfl rfl 6 (by decide) (hts (.fieldLink RX10 47 "ClashFree" "machine" "LClashFree$Machine;") (List.mem_of_getElem? (i := 4) rfl)) (fun _ h9 => h9) rfl dX10_ran_122 ?_
    refine va_get (D := D) (ci := 4) (v := .int 0) (C := RX4) (T := TX4) (N := 8) hx hb hts hin_X4 hown hK hP 2 rfl rfl 3 (by decide) (hts (.fieldLink RX10 308 "ClashFree$Machine" "ended" "Z") (List.mem_of_getElem? (i := 7) rfl)) (fun _ h9 => h9) rfl dX10_ran_125 ?_
    refine lv_if_eq (tgt := 135) hx hb dX10_ran_128 (by decide) (fun hc => ?_) (fun hc => absurd (by decide) hc)
    refine lv_lconst (v := 0) hx hb dX10_ran_135 (by decide) ?_
    exact W.lret (v := 0) hx hb hr (fun t ht hW => ⟨⟨0, (), rfl, by first | rfl | decide | exact (ranF_out (by assumption) (by assumption) (by assumption) (by assumption) (by assumption) (by assumption)).symm, trivial⟩, hS.F ht⟩) hS.2.2 dX10_ran_136
  refine lv_tableOut (tgt := 137) hx hb dX10_ran_17 (sw6 (by assumption) (by assumption) (by assumption) (by assumption) (by assumption) (by assumption)) (by decide) ?_
  refine lv_ldc2 (v := (-1000000000000000)) hx hb hown (hts (.constantLong RX10 91 (-1000000000000000)) (List.mem_of_getElem? (i := 8) rfl)) dX10_ran_137 ?_
  exact W.lret (v := (-1000000000000000)) hx hb hr (fun t ht hW => ⟨⟨(-1000000000000000), (), rfl, by first | rfl | decide | exact (ranF_out (by assumption) (by assumption) (by assumption) (by assumption) (by assumption) (by assumption)).symm, trivial⟩, hS.F ht⟩) hS.2.2 dX10_ran_140

def own_c_X11_ran : List Cond := [.fieldLink RX11 73 "ClashFreeModel" "thrown" "I", .fieldLink RX11 382 "ClashFreeModel" "faultKind" "I", .fieldLink RX11 54 "ClashFreeModel" "faultPlace" "I", .fieldLink RX11 58 "ClashFreeModel" "faultDepth" "I", .fieldLink RX11 407 "ClashFreeModel" "refused" "I", .fieldLink RX11 394 "ClashFreeModel" "latest" "I", .fieldLink RX11 403 "ClashFreeModel" "isCut" "Z", .methodLink RX11 198 yX11_flag, .static yX11_flag, .initialized RX11, .constantLong RX11 235 (-1000000000000000)]
def wp_c_X11_ran : List Cond := .code yX11_ran cX11_ran 2 (some .long) :: (own_c_X11_ran ++ (wp_c_flag0 ++ (wsX110 ++ ([] : List Cond))))
set_option maxRecDepth 20000 in
theorem inown_c_X11_ran : ∀ w ∈ own_c_X11_ran, w ∈ lw_tbl := mem_places [1216, 1248, 1249, 1250, 1251, 1252, 1253, 1502, 1503, 115, 1517] (by decide +kernel)
set_option maxRecDepth 20000 in
theorem in_c_X11_ran : ∀ w ∈ wp_c_X11_ran, w ∈ lw_tbl := List.forall_mem_cons.mpr ⟨List.mem_of_getElem? (i := 1789) (by decide +kernel), List.forall_mem_append.mpr ⟨inown_c_X11_ran, List.forall_mem_append.mpr ⟨in_c_flag0, List.forall_mem_append.mpr ⟨lwb_X11, fun _ h => absurd h List.not_mem_nil⟩⟩⟩⟩
set_option maxRecDepth 20000 in
theorem good_c_X11_ran : wp_c_X11_ran.all goodWord = true := by decide +kernel
set_option maxRecDepth 20000 in
theorem g_c_X11_ran_c_flag0_198 : GoodIn wp_c_X11_ran (va_wsS RX11 198 yX11_flag wp_c_flag0) := goodIn_sub (List.forall_mem_append.mpr ⟨List.forall_mem_cons.mpr ⟨(List.mem_of_getElem? (i := 8) rfl), List.forall_mem_cons.mpr ⟨(List.mem_of_getElem? (i := 9) rfl), List.forall_mem_cons.mpr ⟨(List.mem_of_getElem? (i := 10) rfl), fun _ h => absurd h List.not_mem_nil⟩⟩⟩, (fun _ h => (List.mem_cons_of_mem _ (List.mem_append_right _ (List.mem_append_left _ h))))⟩) (by decide +kernel)
set_option maxHeartbeats 4000000 in
set_option maxRecDepth 100000 in
theorem c_X11_ran (l : Launch) (D : va_G) (sz : Nat) (h0 : Nat) (a : Nat → Nat) (cN : ClassId) (tp : Int32) (sd : Int64) (pa : Int64) (pb : Int64) (dr : Int32) (z1 : Int32)  : Met l yX11_ran wp_c_X11_ran ({ frames := 1, cells := 0, slots := 0, locals := 20 }) (PcW D [.ref h0, .int z1] sz [(h0, .inr (11, fM a tp sd pa pb dr)), (a 3, .inl (cN, 85, .inr (.inl (fun _ => 0))))] [(cN, .long)]) (va_Ql (fun (r : Int64) (_ : Unit) => r = ranF z1) (fun (_ : Unit) _ => True) (va_A [(h0, .inr (11, fM a tp sd pa pb dr)), (a 3, .inl (cN, 85, .inr (.inl (fun _ => 0))))] sz)) 0 0 (va_A [(h0, .inr (11, fM a tp sd pa pb dr)), (a 3, .inl (cN, 85, .inr (.inl (fun _ => 0))))] sz) := by
  refine Met.ofW (cc := cX11_ran) (maxL := 2) (ret := (some .long)) (by decide) rfl ?_
  intro p e s m args below meth c s₁ B hml hv
  obtain ⟨rfl, hsz, hP, hK, hD0⟩ := hv
  have hx := B.exec
  have hb := B.bytes
  have hr := B.returns
  have hts := atoms_spec (ws := wp_c_X11_ran) B.pre
  have hin_X11 : ∀ w ∈ wsX110, w ∈ wp_c_X11_ran := fun _ h => (List.mem_cons_of_mem _ (List.mem_append_right _ (List.mem_append_right _ (List.mem_append_left _ h))))
  have hown : s.vm.findClass RX11 = some m.cls := findClass_of_methodNamed B.named
  have hlocks := B.notSynchronized
  subst hsz
  have hD := hD0.self (sz := s.heap.size)
  generalize hAe : va_A [(h0, .inr (11, fM a tp sd pa pb dr)), (a 3, .inl (cN, 85, .inr (.inl (fun _ => 0))))] s.heap.size = A at hD ⊢
  have hA : ∀ q : Nat, s.heap.size ≤ q → A q := fun q h => by rw [← hAe]; exact Or.inr h
  have hS : va_S A s.heap s.heap [] := va_S.rf
  have hP : va_P D vwCl [(h0, .inr (11, fM a tp sd pa pb dr)), (a 3, .inl (cN, 85, .inr (.inl (fun _ => 0))))] s.heap := hP
  have hl := lv_entry ([.ref h0, .int z1]) (n := 2) (Nat.le_of_ble_eq_true rfl)
  rw [lg_entry_eq]
  generalize (lg_sl ([.ref h0, .int z1]) ++ List.replicate (2 - (lg_sl ([.ref h0, .int z1])).length) Slot.unset).toArray = ls at hl ⊢
  have hl : lv_has ls 2 [(0, .ref h0), (1, .int z1)] := hl
  refine lv_aload_n hx hb dX11_ran_0 rfl (lv_at hl 0 rfl) ?_
  refine lv_iconst (v := 0) hx hb dX11_ran_1 (by decide) ?_
  refine va_put (D := D) (ci := 11) (v := .int 0) (ty := .int) (C := RX11) (T := TX11) (N := 47) hx hb hts hin_X11 tyX11 tyX11_ok nmX11 hown hK hP hD hS 0 rfl rfl 0 (by decide) (hts (.fieldLink RX11 73 "ClashFreeModel" "thrown" "I") (List.mem_of_getElem? (i := 1) rfl)) (fun _ h9 => h9) rfl (by decide +kernel) rfl rfl (Nat.le_of_ble_eq_true rfl) dX11_ran_2 (fun H locs hP hD hS => ?_)
  have hP : va_P D vwCl [(h0, .inr (11, fM a tp sd pa pb dr)), (a 3, .inl (cN, 85, .inr (.inl (fun _ => 0))))] H := hP
  have hD : va_D A [(h0, .inr (11, fM a tp sd pa pb dr)), (a 3, .inl (cN, 85, .inr (.inl (fun _ => 0))))] := hD
  refine lv_iload_n hx hb dX11_ran_5 rfl (lv_at hl 1 rfl) ?_
  by_cases hs1 : z1 = 0
  ·
    subst hs1
    refine lv_tableIn (off := 38) (tgt := 44) hx hb dX11_ran_6 (by decide) (by decide) (by decide +kernel) (by decide) ?_
    refine lv_aload_n hx hb dX11_ran_44 rfl (lv_at hl 0 rfl) ?_
    refine va_get (D := D) (ci := 11) (v := .int 0) (C := RX11) (T := TX11) (N := 47) hx hb hts hin_X11 hown hK hP 0 rfl rfl 32 (by decide) (hts (.fieldLink RX11 382 "ClashFreeModel" "faultKind" "I") (List.mem_of_getElem? (i := 2) rfl)) (fun _ h9 => h9) rfl dX11_ran_45 ?_
    refine lv_i2l (v := 0) hx hb dX11_ran_48 (by decide) ?_
    exact W.lret (v := 0) hx hb hr (fun t ht hW => ⟨⟨0, (), rfl, by first | rfl | decide | exact (ranF_out (by assumption) (by assumption) (by assumption) (by assumption) (by assumption) (by assumption)).symm, trivial⟩, hS.F ht⟩) hS.2.2 dX11_ran_49
  by_cases hs2 : z1 = 1
  ·
    subst hs2
    refine lv_tableIn (off := 44) (tgt := 50) hx hb dX11_ran_6 (by decide) (by decide) (by decide +kernel) (by decide) ?_
    refine lv_aload_n hx hb dX11_ran_50 rfl (lv_at hl 0 rfl) ?_
    refine va_get (D := D) (ci := 11) (v := .int (-1)) (C := RX11) (T := TX11) (N := 47) hx hb hts hin_X11 hown hK hP 0 rfl rfl 33 (by decide) (hts (.fieldLink RX11 54 "ClashFreeModel" "faultPlace" "I") (List.mem_of_getElem? (i := 3) rfl)) (fun _ h9 => h9) rfl dX11_ran_51 ?_
    refine lv_i2l (v := (-1)) hx hb dX11_ran_54 (by decide) ?_
    exact W.lret (v := (-1)) hx hb hr (fun t ht hW => ⟨⟨(-1), (), rfl, by first | rfl | decide | exact (ranF_out (by assumption) (by assumption) (by assumption) (by assumption) (by assumption) (by assumption)).symm, trivial⟩, hS.F ht⟩) hS.2.2 dX11_ran_55
  by_cases hs3 : z1 = 2
  ·
    subst hs3
    refine lv_tableIn (off := 50) (tgt := 56) hx hb dX11_ran_6 (by decide) (by decide) (by decide +kernel) (by decide) ?_
    refine lv_aload_n hx hb dX11_ran_56 rfl (lv_at hl 0 rfl) ?_
    refine va_get (D := D) (ci := 11) (v := .int (-1)) (C := RX11) (T := TX11) (N := 47) hx hb hts hin_X11 hown hK hP 0 rfl rfl 34 (by decide) (hts (.fieldLink RX11 58 "ClashFreeModel" "faultDepth" "I") (List.mem_of_getElem? (i := 4) rfl)) (fun _ h9 => h9) rfl dX11_ran_57 ?_
    refine lv_i2l (v := (-1)) hx hb dX11_ran_60 (by decide) ?_
    exact W.lret (v := (-1)) hx hb hr (fun t ht hW => ⟨⟨(-1), (), rfl, by first | rfl | decide | exact (ranF_out (by assumption) (by assumption) (by assumption) (by assumption) (by assumption) (by assumption)).symm, trivial⟩, hS.F ht⟩) hS.2.2 dX11_ran_61
  by_cases hs4 : z1 = 3
  ·
    subst hs4
    refine lv_tableIn (off := 56) (tgt := 62) hx hb dX11_ran_6 (by decide) (by decide) (by decide +kernel) (by decide) ?_
    refine lv_aload_n hx hb dX11_ran_62 rfl (lv_at hl 0 rfl) ?_
    refine va_get (D := D) (ci := 11) (v := .int 0) (C := RX11) (T := TX11) (N := 47) hx hb hts hin_X11 hown hK hP 0 rfl rfl 35 (by decide) (hts (.fieldLink RX11 407 "ClashFreeModel" "refused" "I") (List.mem_of_getElem? (i := 5) rfl)) (fun _ h9 => h9) rfl dX11_ran_63 ?_
    refine lv_i2l (v := 0) hx hb dX11_ran_66 (by decide) ?_
    exact W.lret (v := 0) hx hb hr (fun t ht hW => ⟨⟨0, (), rfl, by first | rfl | decide | exact (ranF_out (by assumption) (by assumption) (by assumption) (by assumption) (by assumption) (by assumption)).symm, trivial⟩, hS.F ht⟩) hS.2.2 dX11_ran_67
  by_cases hs5 : z1 = 4
  ·
    subst hs5
    refine lv_tableIn (off := 62) (tgt := 68) hx hb dX11_ran_6 (by decide) (by decide) (by decide +kernel) (by decide) ?_
    refine lv_aload_n hx hb dX11_ran_68 rfl (lv_at hl 0 rfl) ?_
    refine va_get (D := D) (ci := 11) (v := .int 0) (C := RX11) (T := TX11) (N := 47) hx hb hts hin_X11 hown hK hP 0 rfl rfl 36 (by decide) (hts (.fieldLink RX11 394 "ClashFreeModel" "latest" "I") (List.mem_of_getElem? (i := 6) rfl)) (fun _ h9 => h9) rfl dX11_ran_69 ?_
    refine lv_i2l (v := 0) hx hb dX11_ran_72 (by decide) ?_
    exact W.lret (v := 0) hx hb hr (fun t ht hW => ⟨⟨0, (), rfl, by first | rfl | decide | exact (ranF_out (by assumption) (by assumption) (by assumption) (by assumption) (by assumption) (by assumption)).symm, trivial⟩, hS.F ht⟩) hS.2.2 dX11_ran_73
  by_cases hs6 : z1 = 5
  ·
    subst hs6
    refine lv_tableIn (off := 68) (tgt := 74) hx hb dX11_ran_6 (by decide) (by decide) (by decide +kernel) (by decide) ?_
    refine lv_aload_n hx hb dX11_ran_74 rfl (lv_at hl 0 rfl) ?_
    refine va_get (D := D) (ci := 11) (v := .int 0) (C := RX11) (T := TX11) (N := 47) hx hb hts hin_X11 hown hK hP 0 rfl rfl 37 (by decide) (hts (.fieldLink RX11 403 "ClashFreeModel" "isCut" "Z") (List.mem_of_getElem? (i := 7) rfl)) (fun _ h9 => h9) rfl dX11_ran_75 ?_
    have hPc := hP.sub (ws' := []) [] rfl
    have hKc := hK.sub (tys' := []) [] rfl
    have hFc := va_free0 hS hA
    refine va_calli (va_runS (As := [.int 0]) (rest := []) ⟨hx, hb, hml, hown, hts⟩ (c_flag0 l D _ ) (va_cwS 1 hts g_c_X11_ran_c_flag0_198 rfl rfl rfl (by decide +kernel) ⟨(Nat.le_of_ble_eq_true rfl), (Nat.le_of_ble_eq_true rfl)⟩) (PcR_S hPc hKc) rfl rfl hl.1 rfl (lv_room (Nat.le_of_ble_eq_true rfl)) dX11_ran_78 ⟨(Nat.le_of_ble_eq_true rfl), (Nat.le_of_ble_eq_true rfl)⟩) hS (fun q _ h => hFc q h) hFc (fun r7 uu tt H locs htt hvm hw hB hz1 hk1 hS => ?_)
    have hP := va_keep hP hk1
    try dsimp only at hw
    clear hB hz1 hk1 hFc hPc hKc
    obtain rfl : r7 = 0 := hw
    refine lv_i2l (v := 0) hx hb dX11_ran_81 (by decide) ?_
    exact W.lret (v := 0) hx hb hr (fun t ht hW => ⟨⟨0, (), rfl, by first | rfl | decide | exact (ranF_out (by assumption) (by assumption) (by assumption) (by assumption) (by assumption) (by assumption)).symm, trivial⟩, hS.F ht⟩) hS.2.2 dX11_ran_82
  refine lv_tableOut (tgt := 83) hx hb dX11_ran_6 (sw6 (by assumption) (by assumption) (by assumption) (by assumption) (by assumption) (by assumption)) (by decide) ?_
  refine lv_ldc2 (v := (-1000000000000000)) hx hb hown (hts (.constantLong RX11 235 (-1000000000000000)) (List.mem_of_getElem? (i := 11) rfl)) dX11_ran_83 ?_
  exact W.lret (v := (-1000000000000000)) hx hb hr (fun t ht hW => ⟨⟨(-1000000000000000), (), rfl, by first | rfl | decide | exact (ranF_out (by assumption) (by assumption) (by assumption) (by assumption) (by assumption) (by assumption)).symm, trivial⟩, hS.F ht⟩) hS.2.2 dX11_ran_86
end
