section
-- ===== PART A: goes FIRST, ahead of the names: the tables' words, and 'selects' of the private methods out of them =====
/-- a private method of a class that the tables say can be made, by its rows of tables_1 -/
def lw_okq (q : MethodName × Nat) : Prop := (q.1.cls ≠ "java/lang/invoke/MethodHandle" ∧ q.1.cls ≠ "java/lang/invoke/VarHandle") ∧ Cond.instantiable q.1.cls q.2 ∈ tables_1 ∧ Cond.privateMethod q.1 ∈ tables_1 ∧ Cond.instanceMethod q.1 ∈ tables_1
theorem lw_p0 : lw_okq (⟨"HungerDays", "putNumber", "(I)V"⟩, 17) := ⟨⟨by decide +kernel, by decide +kernel⟩, List.mem_of_getElem? (i := 26) (by decide +kernel), List.mem_of_getElem? (i := 583) (by decide +kernel), List.mem_of_getElem? (i := 584) (by decide +kernel)⟩
theorem lw_p1 : lw_okq (⟨"HungerDays", "openTape", "(I)V"⟩, 17) := ⟨⟨by decide +kernel, by decide +kernel⟩, List.mem_of_getElem? (i := 26) (by decide +kernel), List.mem_of_getElem? (i := 595) (by decide +kernel), List.mem_of_getElem? (i := 596) (by decide +kernel)⟩
theorem lw_p2 : lw_okq (⟨"HungerDays$Reader", "readRun", "()V"⟩, 13) := ⟨⟨by decide +kernel, by decide +kernel⟩, List.mem_of_getElem? (i := 34) (by decide +kernel), List.mem_of_getElem? (i := 610) (by decide +kernel), List.mem_of_getElem? (i := 611) (by decide +kernel)⟩
theorem lw_p3 : lw_okq (⟨"HungerDays$ValleyText", "readLine", "()Z"⟩, 4) := ⟨⟨by decide +kernel, by decide +kernel⟩, List.mem_of_getElem? (i := 266) (by decide +kernel), List.mem_of_getElem? (i := 630) (by decide +kernel), List.mem_of_getElem? (i := 631) (by decide +kernel)⟩
theorem lw_p4 : lw_okq (⟨"HungerDays$ValleyText", "readSpan", "()Z"⟩, 4) := ⟨⟨by decide +kernel, by decide +kernel⟩, List.mem_of_getElem? (i := 266) (by decide +kernel), List.mem_of_getElem? (i := 634) (by decide +kernel), List.mem_of_getElem? (i := 635) (by decide +kernel)⟩
theorem lw_p5 : lw_okq (⟨"HungerDays$ValleyText", "readWinter", "()Z"⟩, 4) := ⟨⟨by decide +kernel, by decide +kernel⟩, List.mem_of_getElem? (i := 266) (by decide +kernel), List.mem_of_getElem? (i := 649) (by decide +kernel), List.mem_of_getElem? (i := 650) (by decide +kernel)⟩
theorem lw_p6 : lw_okq (⟨"HungerDays$ValleyText", "readPerson", "()Z"⟩, 4) := ⟨⟨by decide +kernel, by decide +kernel⟩, List.mem_of_getElem? (i := 266) (by decide +kernel), List.mem_of_getElem? (i := 653) (by decide +kernel), List.mem_of_getElem? (i := 654) (by decide +kernel)⟩
theorem lw_p7 : lw_okq (⟨"HungerDays$ValleyText", "takeNewName", "()J"⟩, 4) := ⟨⟨by decide +kernel, by decide +kernel⟩, List.mem_of_getElem? (i := 266) (by decide +kernel), List.mem_of_getElem? (i := 657) (by decide +kernel), List.mem_of_getElem? (i := 658) (by decide +kernel)⟩
theorem lw_p8 : lw_okq (⟨"HungerDays$ValleyText", "readFood", "()Z"⟩, 4) := ⟨⟨by decide +kernel, by decide +kernel⟩, List.mem_of_getElem? (i := 266) (by decide +kernel), List.mem_of_getElem? (i := 674) (by decide +kernel), List.mem_of_getElem? (i := 675) (by decide +kernel)⟩
theorem lw_p9 : lw_okq (⟨"HungerDays$ValleyText", "readMeeting", "()Z"⟩, 4) := ⟨⟨by decide +kernel, by decide +kernel⟩, List.mem_of_getElem? (i := 266) (by decide +kernel), List.mem_of_getElem? (i := 678) (by decide +kernel), List.mem_of_getElem? (i := 679) (by decide +kernel)⟩
theorem lw_p10 : lw_okq (⟨"HungerDays$ValleyText", "readDebt", "()Z"⟩, 4) := ⟨⟨by decide +kernel, by decide +kernel⟩, List.mem_of_getElem? (i := 266) (by decide +kernel), List.mem_of_getElem? (i := 692) (by decide +kernel), List.mem_of_getElem? (i := 693) (by decide +kernel)⟩
theorem lw_p11 : lw_okq (⟨"HungerDays", "isFood", "(I)Z"⟩, 17) := ⟨⟨by decide +kernel, by decide +kernel⟩, List.mem_of_getElem? (i := 26) (by decide +kernel), List.mem_of_getElem? (i := 737) (by decide +kernel), List.mem_of_getElem? (i := 738) (by decide +kernel)⟩
theorem lw_p12 : lw_okq (⟨"HungerDays", "isMeeting", "(I)Z"⟩, 17) := ⟨⟨by decide +kernel, by decide +kernel⟩, List.mem_of_getElem? (i := 26) (by decide +kernel), List.mem_of_getElem? (i := 745) (by decide +kernel), List.mem_of_getElem? (i := 746) (by decide +kernel)⟩
theorem lw_p13 : lw_okq (⟨"HungerDays$State", "isDateOfEarlier", "(II)Z"⟩, 10) := ⟨⟨by decide +kernel, by decide +kernel⟩, List.mem_of_getElem? (i := 285) (by decide +kernel), List.mem_of_getElem? (i := 757) (by decide +kernel), List.mem_of_getElem? (i := 758) (by decide +kernel)⟩
theorem lw_p14 : lw_okq (⟨"HungerDays", "isPerson", "(I)Z"⟩, 17) := ⟨⟨by decide +kernel, by decide +kernel⟩, List.mem_of_getElem? (i := 26) (by decide +kernel), List.mem_of_getElem? (i := 793) (by decide +kernel), List.mem_of_getElem? (i := 794) (by decide +kernel)⟩
theorem lw_p15 : lw_okq (⟨"HungerDays$State", "pays", "(I)Z"⟩, 10) := ⟨⟨by decide +kernel, by decide +kernel⟩, List.mem_of_getElem? (i := 285) (by decide +kernel), List.mem_of_getElem? (i := 873) (by decide +kernel), List.mem_of_getElem? (i := 874) (by decide +kernel)⟩
def lw_privs_1 : List (MethodName × Nat) := [(⟨"HungerDays", "putNumber", "(I)V"⟩, 17), (⟨"HungerDays", "openTape", "(I)V"⟩, 17), (⟨"HungerDays$Reader", "readRun", "()V"⟩, 13), (⟨"HungerDays$ValleyText", "readLine", "()Z"⟩, 4), (⟨"HungerDays$ValleyText", "readSpan", "()Z"⟩, 4), (⟨"HungerDays$ValleyText", "readWinter", "()Z"⟩, 4), (⟨"HungerDays$ValleyText", "readPerson", "()Z"⟩, 4), (⟨"HungerDays$ValleyText", "takeNewName", "()J"⟩, 4), (⟨"HungerDays$ValleyText", "readFood", "()Z"⟩, 4), (⟨"HungerDays$ValleyText", "readMeeting", "()Z"⟩, 4), (⟨"HungerDays$ValleyText", "readDebt", "()Z"⟩, 4), (⟨"HungerDays", "isFood", "(I)Z"⟩, 17), (⟨"HungerDays", "isMeeting", "(I)Z"⟩, 17), (⟨"HungerDays$State", "isDateOfEarlier", "(II)Z"⟩, 10), (⟨"HungerDays", "isPerson", "(I)Z"⟩, 17), (⟨"HungerDays$State", "pays", "(I)Z"⟩, 10)]
theorem lw_r1 : ∀ q ∈ lw_privs_1, lw_okq q := List.forall_mem_cons.mpr ⟨lw_p0, List.forall_mem_cons.mpr ⟨lw_p1, List.forall_mem_cons.mpr ⟨lw_p2, List.forall_mem_cons.mpr ⟨lw_p3, List.forall_mem_cons.mpr ⟨lw_p4, List.forall_mem_cons.mpr ⟨lw_p5, List.forall_mem_cons.mpr ⟨lw_p6, List.forall_mem_cons.mpr ⟨lw_p7, List.forall_mem_cons.mpr ⟨lw_p8, List.forall_mem_cons.mpr ⟨lw_p9, List.forall_mem_cons.mpr ⟨lw_p10, List.forall_mem_cons.mpr ⟨lw_p11, List.forall_mem_cons.mpr ⟨lw_p12, List.forall_mem_cons.mpr ⟨lw_p13, List.forall_mem_cons.mpr ⟨lw_p14, List.forall_mem_cons.mpr ⟨lw_p15, fun _ h => absurd h List.not_mem_nil⟩⟩⟩⟩⟩⟩⟩⟩⟩⟩⟩⟩⟩⟩⟩⟩
theorem lw_p16 : lw_okq (⟨"HungerDays$Table", "seat", "(LHungerDays$State;I)V"⟩, 11) := ⟨⟨by decide +kernel, by decide +kernel⟩, List.mem_of_getElem? (i := 441) (by decide +kernel), List.mem_of_getElem? (i := 915) (by decide +kernel), List.mem_of_getElem? (i := 916) (by decide +kernel)⟩
theorem lw_p17 : lw_okq (⟨"HungerDays$Table", "earliestDate", "()I"⟩, 11) := ⟨⟨by decide +kernel, by decide +kernel⟩, List.mem_of_getElem? (i := 441) (by decide +kernel), List.mem_of_getElem? (i := 936) (by decide +kernel), List.mem_of_getElem? (i := 937) (by decide +kernel)⟩
theorem lw_p18 : lw_okq (⟨"HungerDays$Table", "sumLeastPortions", "(I)V"⟩, 11) := ⟨⟨by decide +kernel, by decide +kernel⟩, List.mem_of_getElem? (i := 441) (by decide +kernel), List.mem_of_getElem? (i := 941) (by decide +kernel), List.mem_of_getElem? (i := 942) (by decide +kernel)⟩
theorem lw_p19 : lw_okq (⟨"HungerDays$Table", "fewestFrom", "(II)I"⟩, 11) := ⟨⟨by decide +kernel, by decide +kernel⟩, List.mem_of_getElem? (i := 441) (by decide +kernel), List.mem_of_getElem? (i := 948) (by decide +kernel), List.mem_of_getElem? (i := 949) (by decide +kernel)⟩
theorem lw_p20 : lw_okq (⟨"HungerDays$Table", "storesCode", "()I"⟩, 11) := ⟨⟨by decide +kernel, by decide +kernel⟩, List.mem_of_getElem? (i := 441) (by decide +kernel), List.mem_of_getElem? (i := 952) (by decide +kernel), List.mem_of_getElem? (i := 953) (by decide +kernel)⟩
theorem lw_p21 : lw_okq (⟨"HungerDays$Table", "canTake", "(III)Z"⟩, 11) := ⟨⟨by decide +kernel, by decide +kernel⟩, List.mem_of_getElem? (i := 441) (by decide +kernel), List.mem_of_getElem? (i := 956) (by decide +kernel), List.mem_of_getElem? (i := 957) (by decide +kernel)⟩
theorem lw_p22 : lw_okq (⟨"HungerDays$Table", "fewestWith", "(III)I"⟩, 11) := ⟨⟨by decide +kernel, by decide +kernel⟩, List.mem_of_getElem? (i := 441) (by decide +kernel), List.mem_of_getElem? (i := 961) (by decide +kernel), List.mem_of_getElem? (i := 962) (by decide +kernel)⟩
theorem lw_p23 : lw_okq (⟨"HungerDays$Table", "serve", "(II)V"⟩, 11) := ⟨⟨by decide +kernel, by decide +kernel⟩, List.mem_of_getElem? (i := 441) (by decide +kernel), List.mem_of_getElem? (i := 965) (by decide +kernel), List.mem_of_getElem? (i := 966) (by decide +kernel)⟩
theorem lw_p24 : lw_okq (⟨"HungerDays$Table", "fillPlates", "(I)V"⟩, 11) := ⟨⟨by decide +kernel, by decide +kernel⟩, List.mem_of_getElem? (i := 441) (by decide +kernel), List.mem_of_getElem? (i := 969) (by decide +kernel), List.mem_of_getElem? (i := 970) (by decide +kernel)⟩
theorem lw_p25 : lw_okq (⟨"HungerDays$Plates", "notePlate", "(II)I"⟩, 3) := ⟨⟨by decide +kernel, by decide +kernel⟩, List.mem_of_getElem? (i := 482) (by decide +kernel), List.mem_of_getElem? (i := 996) (by decide +kernel), List.mem_of_getElem? (i := 997) (by decide +kernel)⟩
theorem lw_p26 : lw_okq (⟨"HungerDays$Plates", "mostUnlike", "(I)I"⟩, 3) := ⟨⟨by decide +kernel, by decide +kernel⟩, List.mem_of_getElem? (i := 482) (by decide +kernel), List.mem_of_getElem? (i := 1000) (by decide +kernel), List.mem_of_getElem? (i := 1001) (by decide +kernel)⟩
theorem lw_p27 : lw_okq (⟨"HungerDays$State", "firstHaving", "(I)I"⟩, 10) := ⟨⟨by decide +kernel, by decide +kernel⟩, List.mem_of_getElem? (i := 285) (by decide +kernel), List.mem_of_getElem? (i := 1058) (by decide +kernel), List.mem_of_getElem? (i := 1059) (by decide +kernel)⟩
theorem lw_p28 : lw_okq (⟨"HungerDays$State", "mostLeft", "()I"⟩, 10) := ⟨⟨by decide +kernel, by decide +kernel⟩, List.mem_of_getElem? (i := 285) (by decide +kernel), List.mem_of_getElem? (i := 1062) (by decide +kernel), List.mem_of_getElem? (i := 1063) (by decide +kernel)⟩
theorem lw_p29 : lw_okq (⟨"HungerDays", "isDebt", "(I)Z"⟩, 17) := ⟨⟨by decide +kernel, by decide +kernel⟩, List.mem_of_getElem? (i := 26) (by decide +kernel), List.mem_of_getElem? (i := 1075) (by decide +kernel), List.mem_of_getElem? (i := 1076) (by decide +kernel)⟩
theorem lw_p30 : lw_okq (⟨"HungerDays$Draws", "drawPersons", "(LHungerDays$State;)V"⟩, 1) := ⟨⟨by decide +kernel, by decide +kernel⟩, List.mem_of_getElem? (i := 431) (by decide +kernel), List.mem_of_getElem? (i := 1088) (by decide +kernel), List.mem_of_getElem? (i := 1089) (by decide +kernel)⟩
theorem lw_p31 : lw_okq (⟨"HungerDays$Draws", "draw", "(I)I"⟩, 1) := ⟨⟨by decide +kernel, by decide +kernel⟩, List.mem_of_getElem? (i := 431) (by decide +kernel), List.mem_of_getElem? (i := 1092) (by decide +kernel), List.mem_of_getElem? (i := 1093) (by decide +kernel)⟩
def lw_privs_2 : List (MethodName × Nat) := [(⟨"HungerDays$Table", "seat", "(LHungerDays$State;I)V"⟩, 11), (⟨"HungerDays$Table", "earliestDate", "()I"⟩, 11), (⟨"HungerDays$Table", "sumLeastPortions", "(I)V"⟩, 11), (⟨"HungerDays$Table", "fewestFrom", "(II)I"⟩, 11), (⟨"HungerDays$Table", "storesCode", "()I"⟩, 11), (⟨"HungerDays$Table", "canTake", "(III)Z"⟩, 11), (⟨"HungerDays$Table", "fewestWith", "(III)I"⟩, 11), (⟨"HungerDays$Table", "serve", "(II)V"⟩, 11), (⟨"HungerDays$Table", "fillPlates", "(I)V"⟩, 11), (⟨"HungerDays$Plates", "notePlate", "(II)I"⟩, 3), (⟨"HungerDays$Plates", "mostUnlike", "(I)I"⟩, 3), (⟨"HungerDays$State", "firstHaving", "(I)I"⟩, 10), (⟨"HungerDays$State", "mostLeft", "()I"⟩, 10), (⟨"HungerDays", "isDebt", "(I)Z"⟩, 17), (⟨"HungerDays$Draws", "drawPersons", "(LHungerDays$State;)V"⟩, 1), (⟨"HungerDays$Draws", "draw", "(I)I"⟩, 1)]
theorem lw_r2 : ∀ q ∈ lw_privs_2, lw_okq q := List.forall_mem_cons.mpr ⟨lw_p16, List.forall_mem_cons.mpr ⟨lw_p17, List.forall_mem_cons.mpr ⟨lw_p18, List.forall_mem_cons.mpr ⟨lw_p19, List.forall_mem_cons.mpr ⟨lw_p20, List.forall_mem_cons.mpr ⟨lw_p21, List.forall_mem_cons.mpr ⟨lw_p22, List.forall_mem_cons.mpr ⟨lw_p23, List.forall_mem_cons.mpr ⟨lw_p24, List.forall_mem_cons.mpr ⟨lw_p25, List.forall_mem_cons.mpr ⟨lw_p26, List.forall_mem_cons.mpr ⟨lw_p27, List.forall_mem_cons.mpr ⟨lw_p28, List.forall_mem_cons.mpr ⟨lw_p29, List.forall_mem_cons.mpr ⟨lw_p30, List.forall_mem_cons.mpr ⟨lw_p31, fun _ h => absurd h List.not_mem_nil⟩⟩⟩⟩⟩⟩⟩⟩⟩⟩⟩⟩⟩⟩⟩⟩
theorem lw_p32 : lw_okq (⟨"HungerDays$Book", "readLine", "()Z"⟩, 10) := ⟨⟨by decide +kernel, by decide +kernel⟩, List.mem_of_getElem? (i := 390) (by decide +kernel), List.mem_of_getElem? (i := 1119) (by decide +kernel), List.mem_of_getElem? (i := 1120) (by decide +kernel)⟩
theorem lw_p33 : lw_okq (⟨"HungerDays$Book", "readAct", "()Z"⟩, 10) := ⟨⟨by decide +kernel, by decide +kernel⟩, List.mem_of_getElem? (i := 390) (by decide +kernel), List.mem_of_getElem? (i := 1126) (by decide +kernel), List.mem_of_getElem? (i := 1127) (by decide +kernel)⟩
theorem lw_p34 : lw_okq (⟨"HungerDays$Book", "liveLine", "(LHungerDays$State;I)I"⟩, 10) := ⟨⟨by decide +kernel, by decide +kernel⟩, List.mem_of_getElem? (i := 390) (by decide +kernel), List.mem_of_getElem? (i := 1137) (by decide +kernel), List.mem_of_getElem? (i := 1138) (by decide +kernel)⟩
theorem lw_p35 : lw_okq (⟨"HungerDays$Sentence", "readCond", "(LHungerDays$Reader;LHungerDays$Valley;I)Z"⟩, 7) := ⟨⟨by decide +kernel, by decide +kernel⟩, List.mem_of_getElem? (i := 361) (by decide +kernel), List.mem_of_getElem? (i := 1175) (by decide +kernel), List.mem_of_getElem? (i := 1176) (by decide +kernel)⟩
theorem lw_p36 : lw_okq (⟨"HungerDays$Sentence", "readOne", "(LHungerDays$Reader;LHungerDays$Valley;I)Z"⟩, 7) := ⟨⟨by decide +kernel, by decide +kernel⟩, List.mem_of_getElem? (i := 361) (by decide +kernel), List.mem_of_getElem? (i := 1179) (by decide +kernel), List.mem_of_getElem? (i := 1180) (by decide +kernel)⟩
theorem lw_p37 : lw_okq (⟨"HungerDays$Sentence", "addStep", "(III)Z"⟩, 7) := ⟨⟨by decide +kernel, by decide +kernel⟩, List.mem_of_getElem? (i := 361) (by decide +kernel), List.mem_of_getElem? (i := 1187) (by decide +kernel), List.mem_of_getElem? (i := 1188) (by decide +kernel)⟩
theorem lw_p38 : lw_okq (⟨"HungerDays$Sentence", "readComparison", "(LHungerDays$Reader;I)Z"⟩, 7) := ⟨⟨by decide +kernel, by decide +kernel⟩, List.mem_of_getElem? (i := 361) (by decide +kernel), List.mem_of_getElem? (i := 1192) (by decide +kernel), List.mem_of_getElem? (i := 1193) (by decide +kernel)⟩
theorem lw_p39 : lw_okq (⟨"HungerDays$Sentence", "joinLatest", "(II)I"⟩, 7) := ⟨⟨by decide +kernel, by decide +kernel⟩, List.mem_of_getElem? (i := 361) (by decide +kernel), List.mem_of_getElem? (i := 1197) (by decide +kernel), List.mem_of_getElem? (i := 1198) (by decide +kernel)⟩
theorem lw_p40 : lw_okq (⟨"HungerDays$Sentence", "pop", "()I"⟩, 7) := ⟨⟨by decide +kernel, by decide +kernel⟩, List.mem_of_getElem? (i := 361) (by decide +kernel), List.mem_of_getElem? (i := 1215) (by decide +kernel), List.mem_of_getElem? (i := 1216) (by decide +kernel)⟩
theorem lw_p41 : lw_okq (⟨"HungerDays$Sentence", "push", "(I)V"⟩, 7) := ⟨⟨by decide +kernel, by decide +kernel⟩, List.mem_of_getElem? (i := 361) (by decide +kernel), List.mem_of_getElem? (i := 1219) (by decide +kernel), List.mem_of_getElem? (i := 1220) (by decide +kernel)⟩
theorem lw_p42 : lw_okq (⟨"HungerDays$Sentence", "personsBy", "(LHungerDays$State;I)I"⟩, 7) := ⟨⟨by decide +kernel, by decide +kernel⟩, List.mem_of_getElem? (i := 361) (by decide +kernel), List.mem_of_getElem? (i := 1223) (by decide +kernel), List.mem_of_getElem? (i := 1224) (by decide +kernel)⟩
theorem lw_p43 : lw_okq (⟨"HungerDays$Sentence", "isTrueOf", "(LHungerDays$State;II)Z"⟩, 7) := ⟨⟨by decide +kernel, by decide +kernel⟩, List.mem_of_getElem? (i := 361) (by decide +kernel), List.mem_of_getElem? (i := 1227) (by decide +kernel), List.mem_of_getElem? (i := 1228) (by decide +kernel)⟩
theorem lw_p44 : lw_okq (⟨"java/lang/Throwable", "fillInStackTrace", "(I)Ljava/lang/Throwable;"⟩, 6) := ⟨⟨by decide +kernel, by decide +kernel⟩, List.mem_of_getElem? (i := 1295) (by decide +kernel), List.mem_of_getElem? (i := 1293) (by decide +kernel), List.mem_of_getElem? (i := 1294) (by decide +kernel)⟩
theorem lw_p45 : lw_okq (⟨"HungerDaysModel", "four", "(I)V"⟩, 48) := ⟨⟨by decide +kernel, by decide +kernel⟩, List.mem_of_getElem? (i := 1350) (by decide +kernel), List.mem_of_getElem? (i := 1348) (by decide +kernel), List.mem_of_getElem? (i := 1349) (by decide +kernel)⟩
theorem lw_p46 : lw_okq (⟨"HungerDaysModel", "taken", "(I)V"⟩, 48) := ⟨⟨by decide +kernel, by decide +kernel⟩, List.mem_of_getElem? (i := 1350) (by decide +kernel), List.mem_of_getElem? (i := 1534) (by decide +kernel), List.mem_of_getElem? (i := 1535) (by decide +kernel)⟩
theorem lw_p47 : lw_okq (⟨"HungerDaysModel", "next", "()V"⟩, 48) := ⟨⟨by decide +kernel, by decide +kernel⟩, List.mem_of_getElem? (i := 1350) (by decide +kernel), List.mem_of_getElem? (i := 1538) (by decide +kernel), List.mem_of_getElem? (i := 1539) (by decide +kernel)⟩
def lw_privs_3 : List (MethodName × Nat) := [(⟨"HungerDays$Book", "readLine", "()Z"⟩, 10), (⟨"HungerDays$Book", "readAct", "()Z"⟩, 10), (⟨"HungerDays$Book", "liveLine", "(LHungerDays$State;I)I"⟩, 10), (⟨"HungerDays$Sentence", "readCond", "(LHungerDays$Reader;LHungerDays$Valley;I)Z"⟩, 7), (⟨"HungerDays$Sentence", "readOne", "(LHungerDays$Reader;LHungerDays$Valley;I)Z"⟩, 7), (⟨"HungerDays$Sentence", "addStep", "(III)Z"⟩, 7), (⟨"HungerDays$Sentence", "readComparison", "(LHungerDays$Reader;I)Z"⟩, 7), (⟨"HungerDays$Sentence", "joinLatest", "(II)I"⟩, 7), (⟨"HungerDays$Sentence", "pop", "()I"⟩, 7), (⟨"HungerDays$Sentence", "push", "(I)V"⟩, 7), (⟨"HungerDays$Sentence", "personsBy", "(LHungerDays$State;I)I"⟩, 7), (⟨"HungerDays$Sentence", "isTrueOf", "(LHungerDays$State;II)Z"⟩, 7), (⟨"java/lang/Throwable", "fillInStackTrace", "(I)Ljava/lang/Throwable;"⟩, 6), (⟨"HungerDaysModel", "four", "(I)V"⟩, 48), (⟨"HungerDaysModel", "taken", "(I)V"⟩, 48), (⟨"HungerDaysModel", "next", "()V"⟩, 48)]
theorem lw_r3 : ∀ q ∈ lw_privs_3, lw_okq q := List.forall_mem_cons.mpr ⟨lw_p32, List.forall_mem_cons.mpr ⟨lw_p33, List.forall_mem_cons.mpr ⟨lw_p34, List.forall_mem_cons.mpr ⟨lw_p35, List.forall_mem_cons.mpr ⟨lw_p36, List.forall_mem_cons.mpr ⟨lw_p37, List.forall_mem_cons.mpr ⟨lw_p38, List.forall_mem_cons.mpr ⟨lw_p39, List.forall_mem_cons.mpr ⟨lw_p40, List.forall_mem_cons.mpr ⟨lw_p41, List.forall_mem_cons.mpr ⟨lw_p42, List.forall_mem_cons.mpr ⟨lw_p43, List.forall_mem_cons.mpr ⟨lw_p44, List.forall_mem_cons.mpr ⟨lw_p45, List.forall_mem_cons.mpr ⟨lw_p46, List.forall_mem_cons.mpr ⟨lw_p47, fun _ h => absurd h List.not_mem_nil⟩⟩⟩⟩⟩⟩⟩⟩⟩⟩⟩⟩⟩⟩⟩⟩
theorem lw_p48 : lw_okq (⟨"HungerDaysModel", "peek", "()I"⟩, 48) := ⟨⟨by decide +kernel, by decide +kernel⟩, List.mem_of_getElem? (i := 1350) (by decide +kernel), List.mem_of_getElem? (i := 1542) (by decide +kernel), List.mem_of_getElem? (i := 1543) (by decide +kernel)⟩
theorem lw_p49 : lw_okq (⟨"HungerDaysModel", "line", "()Z"⟩, 48) := ⟨⟨by decide +kernel, by decide +kernel⟩, List.mem_of_getElem? (i := 1350) (by decide +kernel), List.mem_of_getElem? (i := 1552) (by decide +kernel), List.mem_of_getElem? (i := 1553) (by decide +kernel)⟩
theorem lw_p50 : lw_okq (⟨"HungerDaysModel", "isWord", "(J)Z"⟩, 48) := ⟨⟨by decide +kernel, by decide +kernel⟩, List.mem_of_getElem? (i := 1350) (by decide +kernel), List.mem_of_getElem? (i := 1556) (by decide +kernel), List.mem_of_getElem? (i := 1557) (by decide +kernel)⟩
theorem lw_p51 : lw_okq (⟨"HungerDaysModel", "isOnce", "(I)Z"⟩, 48) := ⟨⟨by decide +kernel, by decide +kernel⟩, List.mem_of_getElem? (i := 1350) (by decide +kernel), List.mem_of_getElem? (i := 1560) (by decide +kernel), List.mem_of_getElem? (i := 1561) (by decide +kernel)⟩
theorem lw_p52 : lw_okq (⟨"HungerDaysModel", "bad", "(I)Z"⟩, 48) := ⟨⟨by decide +kernel, by decide +kernel⟩, List.mem_of_getElem? (i := 1350) (by decide +kernel), List.mem_of_getElem? (i := 1567) (by decide +kernel), List.mem_of_getElem? (i := 1568) (by decide +kernel)⟩
theorem lw_p53 : lw_okq (⟨"HungerDaysModel", "puts", "(III)Z"⟩, 48) := ⟨⟨by decide +kernel, by decide +kernel⟩, List.mem_of_getElem? (i := 1350) (by decide +kernel), List.mem_of_getElem? (i := 1571) (by decide +kernel), List.mem_of_getElem? (i := 1572) (by decide +kernel)⟩
theorem lw_p54 : lw_okq (⟨"HungerDaysModel", "takes", "(II)Z"⟩, 48) := ⟨⟨by decide +kernel, by decide +kernel⟩, List.mem_of_getElem? (i := 1350) (by decide +kernel), List.mem_of_getElem? (i := 1575) (by decide +kernel), List.mem_of_getElem? (i := 1576) (by decide +kernel)⟩
theorem lw_p55 : lw_okq (⟨"HungerDaysModel", "fresh", "(I)Z"⟩, 48) := ⟨⟨by decide +kernel, by decide +kernel⟩, List.mem_of_getElem? (i := 1350) (by decide +kernel), List.mem_of_getElem? (i := 1582) (by decide +kernel), List.mem_of_getElem? (i := 1583) (by decide +kernel)⟩
theorem lw_p56 : lw_okq (⟨"HungerDaysModel", "isName", "()Z"⟩, 48) := ⟨⟨by decide +kernel, by decide +kernel⟩, List.mem_of_getElem? (i := 1350) (by decide +kernel), List.mem_of_getElem? (i := 1586) (by decide +kernel), List.mem_of_getElem? (i := 1587) (by decide +kernel)⟩
theorem lw_p57 : lw_okq (⟨"HungerDaysModel", "find", "(II)I"⟩, 48) := ⟨⟨by decide +kernel, by decide +kernel⟩, List.mem_of_getElem? (i := 1350) (by decide +kernel), List.mem_of_getElem? (i := 1590) (by decide +kernel), List.mem_of_getElem? (i := 1591) (by decide +kernel)⟩
theorem lw_p58 : lw_okq (⟨"HungerDaysModel", "readMeeting", "()Z"⟩, 48) := ⟨⟨by decide +kernel, by decide +kernel⟩, List.mem_of_getElem? (i := 1350) (by decide +kernel), List.mem_of_getElem? (i := 1594) (by decide +kernel), List.mem_of_getElem? (i := 1595) (by decide +kernel)⟩
theorem lw_p59 : lw_okq (⟨"HungerDaysModel", "isSign", "(I)Z"⟩, 48) := ⟨⟨by decide +kernel, by decide +kernel⟩, List.mem_of_getElem? (i := 1350) (by decide +kernel), List.mem_of_getElem? (i := 1598) (by decide +kernel), List.mem_of_getElem? (i := 1599) (by decide +kernel)⟩
theorem lw_p60 : lw_okq (⟨"HungerDaysModel", "looksAt", "(II)Z"⟩, 48) := ⟨⟨by decide +kernel, by decide +kernel⟩, List.mem_of_getElem? (i := 1350) (by decide +kernel), List.mem_of_getElem? (i := 1602) (by decide +kernel), List.mem_of_getElem? (i := 1603) (by decide +kernel)⟩
theorem lw_p61 : lw_okq (⟨"HungerDaysModel", "readDebt", "()Z"⟩, 48) := ⟨⟨by decide +kernel, by decide +kernel⟩, List.mem_of_getElem? (i := 1350) (by decide +kernel), List.mem_of_getElem? (i := 1606) (by decide +kernel), List.mem_of_getElem? (i := 1607) (by decide +kernel)⟩
theorem lw_p62 : lw_okq (⟨"HungerDaysModel", "takesName", "(II)Z"⟩, 48) := ⟨⟨by decide +kernel, by decide +kernel⟩, List.mem_of_getElem? (i := 1350) (by decide +kernel), List.mem_of_getElem? (i := 1610) (by decide +kernel), List.mem_of_getElem? (i := 1611) (by decide +kernel)⟩
theorem lw_p63 : lw_okq (⟨"HungerDaysModel", "sign", "(I)Z"⟩, 48) := ⟨⟨by decide +kernel, by decide +kernel⟩, List.mem_of_getElem? (i := 1350) (by decide +kernel), List.mem_of_getElem? (i := 1614) (by decide +kernel), List.mem_of_getElem? (i := 1615) (by decide +kernel)⟩
def lw_privs_4 : List (MethodName × Nat) := [(⟨"HungerDaysModel", "peek", "()I"⟩, 48), (⟨"HungerDaysModel", "line", "()Z"⟩, 48), (⟨"HungerDaysModel", "isWord", "(J)Z"⟩, 48), (⟨"HungerDaysModel", "isOnce", "(I)Z"⟩, 48), (⟨"HungerDaysModel", "bad", "(I)Z"⟩, 48), (⟨"HungerDaysModel", "puts", "(III)Z"⟩, 48), (⟨"HungerDaysModel", "takes", "(II)Z"⟩, 48), (⟨"HungerDaysModel", "fresh", "(I)Z"⟩, 48), (⟨"HungerDaysModel", "isName", "()Z"⟩, 48), (⟨"HungerDaysModel", "find", "(II)I"⟩, 48), (⟨"HungerDaysModel", "readMeeting", "()Z"⟩, 48), (⟨"HungerDaysModel", "isSign", "(I)Z"⟩, 48), (⟨"HungerDaysModel", "looksAt", "(II)Z"⟩, 48), (⟨"HungerDaysModel", "readDebt", "()Z"⟩, 48), (⟨"HungerDaysModel", "takesName", "(II)Z"⟩, 48), (⟨"HungerDaysModel", "sign", "(I)Z"⟩, 48)]
theorem lw_r4 : ∀ q ∈ lw_privs_4, lw_okq q := List.forall_mem_cons.mpr ⟨lw_p48, List.forall_mem_cons.mpr ⟨lw_p49, List.forall_mem_cons.mpr ⟨lw_p50, List.forall_mem_cons.mpr ⟨lw_p51, List.forall_mem_cons.mpr ⟨lw_p52, List.forall_mem_cons.mpr ⟨lw_p53, List.forall_mem_cons.mpr ⟨lw_p54, List.forall_mem_cons.mpr ⟨lw_p55, List.forall_mem_cons.mpr ⟨lw_p56, List.forall_mem_cons.mpr ⟨lw_p57, List.forall_mem_cons.mpr ⟨lw_p58, List.forall_mem_cons.mpr ⟨lw_p59, List.forall_mem_cons.mpr ⟨lw_p60, List.forall_mem_cons.mpr ⟨lw_p61, List.forall_mem_cons.mpr ⟨lw_p62, List.forall_mem_cons.mpr ⟨lw_p63, fun _ h => absurd h List.not_mem_nil⟩⟩⟩⟩⟩⟩⟩⟩⟩⟩⟩⟩⟩⟩⟩⟩
theorem lw_p64 : lw_okq (⟨"HungerDaysModel", "isPerson", "(I)Z"⟩, 48) := ⟨⟨by decide +kernel, by decide +kernel⟩, List.mem_of_getElem? (i := 1350) (by decide +kernel), List.mem_of_getElem? (i := 1626) (by decide +kernel), List.mem_of_getElem? (i := 1627) (by decide +kernel)⟩
theorem lw_p65 : lw_okq (⟨"HungerDaysModel", "throwsIf", "(Z)Z"⟩, 48) := ⟨⟨by decide +kernel, by decide +kernel⟩, List.mem_of_getElem? (i := 1350) (by decide +kernel), List.mem_of_getElem? (i := 1630) (by decide +kernel), List.mem_of_getElem? (i := 1631) (by decide +kernel)⟩
theorem lw_p66 : lw_okq (⟨"HungerDaysModel", "dateOf", "(I)I"⟩, 48) := ⟨⟨by decide +kernel, by decide +kernel⟩, List.mem_of_getElem? (i := 1350) (by decide +kernel), List.mem_of_getElem? (i := 1634) (by decide +kernel), List.mem_of_getElem? (i := 1635) (by decide +kernel)⟩
theorem lw_p67 : lw_okq (⟨"HungerDaysModel", "isSick", "(I)Z"⟩, 48) := ⟨⟨by decide +kernel, by decide +kernel⟩, List.mem_of_getElem? (i := 1350) (by decide +kernel), List.mem_of_getElem? (i := 1638) (by decide +kernel), List.mem_of_getElem? (i := 1639) (by decide +kernel)⟩
theorem lw_p68 : lw_okq (⟨"HungerDaysModel", "owes", "(I)I"⟩, 48) := ⟨⟨by decide +kernel, by decide +kernel⟩, List.mem_of_getElem? (i := 1350) (by decide +kernel), List.mem_of_getElem? (i := 1642) (by decide +kernel), List.mem_of_getElem? (i := 1643) (by decide +kernel)⟩
theorem lw_p69 : lw_okq (⟨"HungerDaysModel", "isPaid", "(I)Z"⟩, 48) := ⟨⟨by decide +kernel, by decide +kernel⟩, List.mem_of_getElem? (i := 1350) (by decide +kernel), List.mem_of_getElem? (i := 1646) (by decide +kernel), List.mem_of_getElem? (i := 1647) (by decide +kernel)⟩
theorem lw_p70 : lw_okq (⟨"HungerDaysModel", "isFood", "(I)Z"⟩, 48) := ⟨⟨by decide +kernel, by decide +kernel⟩, List.mem_of_getElem? (i := 1350) (by decide +kernel), List.mem_of_getElem? (i := 1654) (by decide +kernel), List.mem_of_getElem? (i := 1655) (by decide +kernel)⟩
theorem lw_p71 : lw_okq (⟨"HungerDaysModel", "isMeeting", "(I)Z"⟩, 48) := ⟨⟨by decide +kernel, by decide +kernel⟩, List.mem_of_getElem? (i := 1350) (by decide +kernel), List.mem_of_getElem? (i := 1662) (by decide +kernel), List.mem_of_getElem? (i := 1663) (by decide +kernel)⟩
theorem lw_p72 : lw_okq (⟨"HungerDaysModel", "whyMeet", "(I)I"⟩, 48) := ⟨⟨by decide +kernel, by decide +kernel⟩, List.mem_of_getElem? (i := 1350) (by decide +kernel), List.mem_of_getElem? (i := 1666) (by decide +kernel), List.mem_of_getElem? (i := 1667) (by decide +kernel)⟩
theorem lw_p73 : lw_okq (⟨"HungerDaysModel", "dates", "(I)I"⟩, 48) := ⟨⟨by decide +kernel, by decide +kernel⟩, List.mem_of_getElem? (i := 1350) (by decide +kernel), List.mem_of_getElem? (i := 1670) (by decide +kernel), List.mem_of_getElem? (i := 1671) (by decide +kernel)⟩
theorem lw_p74 : lw_okq (⟨"HungerDaysModel", "isDebt", "(I)Z"⟩, 48) := ⟨⟨by decide +kernel, by decide +kernel⟩, List.mem_of_getElem? (i := 1350) (by decide +kernel), List.mem_of_getElem? (i := 1678) (by decide +kernel), List.mem_of_getElem? (i := 1679) (by decide +kernel)⟩
theorem lw_p75 : lw_okq (⟨"HungerDaysModel", "isDue", "(I)Z"⟩, 48) := ⟨⟨by decide +kernel, by decide +kernel⟩, List.mem_of_getElem? (i := 1350) (by decide +kernel), List.mem_of_getElem? (i := 1682) (by decide +kernel), List.mem_of_getElem? (i := 1683) (by decide +kernel)⟩
theorem lw_p76 : lw_okq (⟨"HungerDaysModel", "isWinter", "(I)Z"⟩, 48) := ⟨⟨by decide +kernel, by decide +kernel⟩, List.mem_of_getElem? (i := 1350) (by decide +kernel), List.mem_of_getElem? (i := 1690) (by decide +kernel), List.mem_of_getElem? (i := 1691) (by decide +kernel)⟩
theorem lw_p77 : lw_okq (⟨"HungerDaysModel", "heldSet", "()I"⟩, 48) := ⟨⟨by decide +kernel, by decide +kernel⟩, List.mem_of_getElem? (i := 1350) (by decide +kernel), List.mem_of_getElem? (i := 1694) (by decide +kernel), List.mem_of_getElem? (i := 1695) (by decide +kernel)⟩
theorem lw_p78 : lw_okq (⟨"HungerDaysModel", "sum", "(II)I"⟩, 48) := ⟨⟨by decide +kernel, by decide +kernel⟩, List.mem_of_getElem? (i := 1350) (by decide +kernel), List.mem_of_getElem? (i := 1698) (by decide +kernel), List.mem_of_getElem? (i := 1699) (by decide +kernel)⟩
theorem lw_p79 : lw_okq (⟨"HungerDaysModel", "whyEat", "(II)I"⟩, 48) := ⟨⟨by decide +kernel, by decide +kernel⟩, List.mem_of_getElem? (i := 1350) (by decide +kernel), List.mem_of_getElem? (i := 1706) (by decide +kernel), List.mem_of_getElem? (i := 1707) (by decide +kernel)⟩
def lw_privs_5 : List (MethodName × Nat) := [(⟨"HungerDaysModel", "isPerson", "(I)Z"⟩, 48), (⟨"HungerDaysModel", "throwsIf", "(Z)Z"⟩, 48), (⟨"HungerDaysModel", "dateOf", "(I)I"⟩, 48), (⟨"HungerDaysModel", "isSick", "(I)Z"⟩, 48), (⟨"HungerDaysModel", "owes", "(I)I"⟩, 48), (⟨"HungerDaysModel", "isPaid", "(I)Z"⟩, 48), (⟨"HungerDaysModel", "isFood", "(I)Z"⟩, 48), (⟨"HungerDaysModel", "isMeeting", "(I)Z"⟩, 48), (⟨"HungerDaysModel", "whyMeet", "(I)I"⟩, 48), (⟨"HungerDaysModel", "dates", "(I)I"⟩, 48), (⟨"HungerDaysModel", "isDebt", "(I)Z"⟩, 48), (⟨"HungerDaysModel", "isDue", "(I)Z"⟩, 48), (⟨"HungerDaysModel", "isWinter", "(I)Z"⟩, 48), (⟨"HungerDaysModel", "heldSet", "()I"⟩, 48), (⟨"HungerDaysModel", "sum", "(II)I"⟩, 48), (⟨"HungerDaysModel", "whyEat", "(II)I"⟩, 48)]
theorem lw_r5 : ∀ q ∈ lw_privs_5, lw_okq q := List.forall_mem_cons.mpr ⟨lw_p64, List.forall_mem_cons.mpr ⟨lw_p65, List.forall_mem_cons.mpr ⟨lw_p66, List.forall_mem_cons.mpr ⟨lw_p67, List.forall_mem_cons.mpr ⟨lw_p68, List.forall_mem_cons.mpr ⟨lw_p69, List.forall_mem_cons.mpr ⟨lw_p70, List.forall_mem_cons.mpr ⟨lw_p71, List.forall_mem_cons.mpr ⟨lw_p72, List.forall_mem_cons.mpr ⟨lw_p73, List.forall_mem_cons.mpr ⟨lw_p74, List.forall_mem_cons.mpr ⟨lw_p75, List.forall_mem_cons.mpr ⟨lw_p76, List.forall_mem_cons.mpr ⟨lw_p77, List.forall_mem_cons.mpr ⟨lw_p78, List.forall_mem_cons.mpr ⟨lw_p79, fun _ h => absurd h List.not_mem_nil⟩⟩⟩⟩⟩⟩⟩⟩⟩⟩⟩⟩⟩⟩⟩⟩
theorem lw_p80 : lw_okq (⟨"HungerDaysModel", "keep", "()V"⟩, 48) := ⟨⟨by decide +kernel, by decide +kernel⟩, List.mem_of_getElem? (i := 1350) (by decide +kernel), List.mem_of_getElem? (i := 1710) (by decide +kernel), List.mem_of_getElem? (i := 1711) (by decide +kernel)⟩
theorem lw_p81 : lw_okq (⟨"HungerDaysModel", "eats", "(II)V"⟩, 48) := ⟨⟨by decide +kernel, by decide +kernel⟩, List.mem_of_getElem? (i := 1350) (by decide +kernel), List.mem_of_getElem? (i := 1714) (by decide +kernel), List.mem_of_getElem? (i := 1715) (by decide +kernel)⟩
theorem lw_p82 : lw_okq (⟨"HungerDaysModel", "goesOn", "(I)I"⟩, 48) := ⟨⟨by decide +kernel, by decide +kernel⟩, List.mem_of_getElem? (i := 1350) (by decide +kernel), List.mem_of_getElem? (i := 1737) (by decide +kernel), List.mem_of_getElem? (i := 1738) (by decide +kernel)⟩
theorem lw_p83 : lw_okq (⟨"HungerDaysModel", "hour", "()V"⟩, 48) := ⟨⟨by decide +kernel, by decide +kernel⟩, List.mem_of_getElem? (i := 1350) (by decide +kernel), List.mem_of_getElem? (i := 1741) (by decide +kernel), List.mem_of_getElem? (i := 1742) (by decide +kernel)⟩
theorem lw_p84 : lw_okq (⟨"HungerDaysModel", "onDate", "(I)I"⟩, 48) := ⟨⟨by decide +kernel, by decide +kernel⟩, List.mem_of_getElem? (i := 1350) (by decide +kernel), List.mem_of_getElem? (i := 1756) (by decide +kernel), List.mem_of_getElem? (i := 1757) (by decide +kernel)⟩
theorem lw_p85 : lw_okq (⟨"HungerDaysModel", "latest", "(I)I"⟩, 48) := ⟨⟨by decide +kernel, by decide +kernel⟩, List.mem_of_getElem? (i := 1350) (by decide +kernel), List.mem_of_getElem? (i := 1772) (by decide +kernel), List.mem_of_getElem? (i := 1773) (by decide +kernel)⟩
theorem lw_p86 : lw_okq (⟨"HungerDaysModel", "tables", "(II)V"⟩, 48) := ⟨⟨by decide +kernel, by decide +kernel⟩, List.mem_of_getElem? (i := 1350) (by decide +kernel), List.mem_of_getElem? (i := 1776) (by decide +kernel), List.mem_of_getElem? (i := 1777) (by decide +kernel)⟩
theorem lw_p87 : lw_okq (⟨"HungerDaysModel", "isFor", "(III)Z"⟩, 48) := ⟨⟨by decide +kernel, by decide +kernel⟩, List.mem_of_getElem? (i := 1350) (by decide +kernel), List.mem_of_getElem? (i := 1780) (by decide +kernel), List.mem_of_getElem? (i := 1781) (by decide +kernel)⟩
theorem lw_p88 : lw_okq (⟨"HungerDaysModel", "isPlate", "(I)Z"⟩, 48) := ⟨⟨by decide +kernel, by decide +kernel⟩, List.mem_of_getElem? (i := 1350) (by decide +kernel), List.mem_of_getElem? (i := 1784) (by decide +kernel), List.mem_of_getElem? (i := 1785) (by decide +kernel)⟩
theorem lw_p89 : lw_okq (⟨"HungerDaysModel", "behind", "(II)I"⟩, 48) := ⟨⟨by decide +kernel, by decide +kernel⟩, List.mem_of_getElem? (i := 1350) (by decide +kernel), List.mem_of_getElem? (i := 1791) (by decide +kernel), List.mem_of_getElem? (i := 1792) (by decide +kernel)⟩
theorem lw_p90 : lw_okq (⟨"HungerDaysModel", "usedBy", "(II)I"⟩, 48) := ⟨⟨by decide +kernel, by decide +kernel⟩, List.mem_of_getElem? (i := 1350) (by decide +kernel), List.mem_of_getElem? (i := 1795) (by decide +kernel), List.mem_of_getElem? (i := 1796) (by decide +kernel)⟩
theorem lw_p91 : lw_okq (⟨"HungerDaysModel", "lays", "(II)V"⟩, 48) := ⟨⟨by decide +kernel, by decide +kernel⟩, List.mem_of_getElem? (i := 1350) (by decide +kernel), List.mem_of_getElem? (i := 1799) (by decide +kernel), List.mem_of_getElem? (i := 1800) (by decide +kernel)⟩
theorem lw_p92 : lw_okq (⟨"HungerDaysModel", "octet", "(I)I"⟩, 48) := ⟨⟨by decide +kernel, by decide +kernel⟩, List.mem_of_getElem? (i := 1350) (by decide +kernel), List.mem_of_getElem? (i := 1815) (by decide +kernel), List.mem_of_getElem? (i := 1816) (by decide +kernel)⟩
theorem lw_p93 : lw_okq (⟨"HungerDaysModel", "tells", "(I)V"⟩, 48) := ⟨⟨by decide +kernel, by decide +kernel⟩, List.mem_of_getElem? (i := 1350) (by decide +kernel), List.mem_of_getElem? (i := 1819) (by decide +kernel), List.mem_of_getElem? (i := 1820) (by decide +kernel)⟩
theorem lw_p94 : lw_okq (⟨"HungerDaysModel", "tries", "()V"⟩, 48) := ⟨⟨by decide +kernel, by decide +kernel⟩, List.mem_of_getElem? (i := 1350) (by decide +kernel), List.mem_of_getElem? (i := 1835) (by decide +kernel), List.mem_of_getElem? (i := 1836) (by decide +kernel)⟩
theorem lw_p95 : lw_okq (⟨"HungerDaysModel", "back", "()V"⟩, 48) := ⟨⟨by decide +kernel, by decide +kernel⟩, List.mem_of_getElem? (i := 1350) (by decide +kernel), List.mem_of_getElem? (i := 1839) (by decide +kernel), List.mem_of_getElem? (i := 1840) (by decide +kernel)⟩
def lw_privs_6 : List (MethodName × Nat) := [(⟨"HungerDaysModel", "keep", "()V"⟩, 48), (⟨"HungerDaysModel", "eats", "(II)V"⟩, 48), (⟨"HungerDaysModel", "goesOn", "(I)I"⟩, 48), (⟨"HungerDaysModel", "hour", "()V"⟩, 48), (⟨"HungerDaysModel", "onDate", "(I)I"⟩, 48), (⟨"HungerDaysModel", "latest", "(I)I"⟩, 48), (⟨"HungerDaysModel", "tables", "(II)V"⟩, 48), (⟨"HungerDaysModel", "isFor", "(III)Z"⟩, 48), (⟨"HungerDaysModel", "isPlate", "(I)Z"⟩, 48), (⟨"HungerDaysModel", "behind", "(II)I"⟩, 48), (⟨"HungerDaysModel", "usedBy", "(II)I"⟩, 48), (⟨"HungerDaysModel", "lays", "(II)V"⟩, 48), (⟨"HungerDaysModel", "octet", "(I)I"⟩, 48), (⟨"HungerDaysModel", "tells", "(I)V"⟩, 48), (⟨"HungerDaysModel", "tries", "()V"⟩, 48), (⟨"HungerDaysModel", "back", "()V"⟩, 48)]
theorem lw_r6 : ∀ q ∈ lw_privs_6, lw_okq q := List.forall_mem_cons.mpr ⟨lw_p80, List.forall_mem_cons.mpr ⟨lw_p81, List.forall_mem_cons.mpr ⟨lw_p82, List.forall_mem_cons.mpr ⟨lw_p83, List.forall_mem_cons.mpr ⟨lw_p84, List.forall_mem_cons.mpr ⟨lw_p85, List.forall_mem_cons.mpr ⟨lw_p86, List.forall_mem_cons.mpr ⟨lw_p87, List.forall_mem_cons.mpr ⟨lw_p88, List.forall_mem_cons.mpr ⟨lw_p89, List.forall_mem_cons.mpr ⟨lw_p90, List.forall_mem_cons.mpr ⟨lw_p91, List.forall_mem_cons.mpr ⟨lw_p92, List.forall_mem_cons.mpr ⟨lw_p93, List.forall_mem_cons.mpr ⟨lw_p94, List.forall_mem_cons.mpr ⟨lw_p95, fun _ h => absurd h List.not_mem_nil⟩⟩⟩⟩⟩⟩⟩⟩⟩⟩⟩⟩⟩⟩⟩⟩
theorem lw_p96 : lw_okq (⟨"HungerDaysModel", "areLate", "(I)Z"⟩, 48) := ⟨⟨by decide +kernel, by decide +kernel⟩, List.mem_of_getElem? (i := 1350) (by decide +kernel), List.mem_of_getElem? (i := 1847) (by decide +kernel), List.mem_of_getElem? (i := 1848) (by decide +kernel)⟩
theorem lw_p97 : lw_okq (⟨"HungerDaysModel", "appetite", "(I)I"⟩, 48) := ⟨⟨by decide +kernel, by decide +kernel⟩, List.mem_of_getElem? (i := 1350) (by decide +kernel), List.mem_of_getElem? (i := 1855) (by decide +kernel), List.mem_of_getElem? (i := 1856) (by decide +kernel)⟩
theorem lw_p98 : lw_okq (⟨"HungerDaysModel", "whoHas", "(I)I"⟩, 48) := ⟨⟨by decide +kernel, by decide +kernel⟩, List.mem_of_getElem? (i := 1350) (by decide +kernel), List.mem_of_getElem? (i := 1867) (by decide +kernel), List.mem_of_getElem? (i := 1868) (by decide +kernel)⟩
theorem lw_p99 : lw_okq (⟨"HungerDaysModel", "mostOf", "()I"⟩, 48) := ⟨⟨by decide +kernel, by decide +kernel⟩, List.mem_of_getElem? (i := 1350) (by decide +kernel), List.mem_of_getElem? (i := 1871) (by decide +kernel), List.mem_of_getElem? (i := 1872) (by decide +kernel)⟩
theorem lw_p100 : lw_okq (⟨"HungerDaysModel", "draws", "(II)I"⟩, 48) := ⟨⟨by decide +kernel, by decide +kernel⟩, List.mem_of_getElem? (i := 1350) (by decide +kernel), List.mem_of_getElem? (i := 1887) (by decide +kernel), List.mem_of_getElem? (i := 1888) (by decide +kernel)⟩
theorem lw_p101 : lw_okq (⟨"HungerDaysModel", "drawsPerson", "(I)V"⟩, 48) := ⟨⟨by decide +kernel, by decide +kernel⟩, List.mem_of_getElem? (i := 1350) (by decide +kernel), List.mem_of_getElem? (i := 1891) (by decide +kernel), List.mem_of_getElem? (i := 1892) (by decide +kernel)⟩
theorem lw_p102 : lw_okq (⟨"HungerDaysModel", "draw", "(I)I"⟩, 48) := ⟨⟨by decide +kernel, by decide +kernel⟩, List.mem_of_getElem? (i := 1350) (by decide +kernel), List.mem_of_getElem? (i := 1895) (by decide +kernel), List.mem_of_getElem? (i := 1896) (by decide +kernel)⟩
theorem lw_p103 : lw_okq (⟨"HungerDaysModel", "bookLine", "()Z"⟩, 48) := ⟨⟨by decide +kernel, by decide +kernel⟩, List.mem_of_getElem? (i := 1350) (by decide +kernel), List.mem_of_getElem? (i := 1908) (by decide +kernel), List.mem_of_getElem? (i := 1909) (by decide +kernel)⟩
theorem lw_p104 : lw_okq (⟨"HungerDaysModel", "does", "(III)I"⟩, 48) := ⟨⟨by decide +kernel, by decide +kernel⟩, List.mem_of_getElem? (i := 1350) (by decide +kernel), List.mem_of_getElem? (i := 1912) (by decide +kernel), List.mem_of_getElem? (i := 1913) (by decide +kernel)⟩
theorem lw_p105 : lw_okq (⟨"HungerDaysModel", "nots", "()V"⟩, 48) := ⟨⟨by decide +kernel, by decide +kernel⟩, List.mem_of_getElem? (i := 1350) (by decide +kernel), List.mem_of_getElem? (i := 1924) (by decide +kernel), List.mem_of_getElem? (i := 1925) (by decide +kernel)⟩
theorem lw_p106 : lw_okq (⟨"HungerDaysModel", "code", "(III)V"⟩, 48) := ⟨⟨by decide +kernel, by decide +kernel⟩, List.mem_of_getElem? (i := 1350) (by decide +kernel), List.mem_of_getElem? (i := 1928) (by decide +kernel), List.mem_of_getElem? (i := 1929) (by decide +kernel)⟩
theorem lw_p107 : lw_okq (⟨"HungerDaysModel", "joins", "(I)V"⟩, 48) := ⟨⟨by decide +kernel, by decide +kernel⟩, List.mem_of_getElem? (i := 1350) (by decide +kernel), List.mem_of_getElem? (i := 1932) (by decide +kernel), List.mem_of_getElem? (i := 1933) (by decide +kernel)⟩
theorem lw_p108 : lw_okq (⟨"HungerDaysModel", "behind", "()Z"⟩, 48) := ⟨⟨by decide +kernel, by decide +kernel⟩, List.mem_of_getElem? (i := 1350) (by decide +kernel), List.mem_of_getElem? (i := 1936) (by decide +kernel), List.mem_of_getElem? (i := 1937) (by decide +kernel)⟩
theorem lw_p109 : lw_okq (⟨"HungerDaysModel", "operand", "()Z"⟩, 48) := ⟨⟨by decide +kernel, by decide +kernel⟩, List.mem_of_getElem? (i := 1350) (by decide +kernel), List.mem_of_getElem? (i := 1940) (by decide +kernel), List.mem_of_getElem? (i := 1941) (by decide +kernel)⟩
theorem lw_p110 : lw_okq (⟨"HungerDaysModel", "leafOf", "()I"⟩, 48) := ⟨⟨by decide +kernel, by decide +kernel⟩, List.mem_of_getElem? (i := 1350) (by decide +kernel), List.mem_of_getElem? (i := 1944) (by decide +kernel), List.mem_of_getElem? (i := 1945) (by decide +kernel)⟩
theorem lw_p111 : lw_okq (⟨"HungerDaysModel", "isSaid", "(I)Z"⟩, 48) := ⟨⟨by decide +kernel, by decide +kernel⟩, List.mem_of_getElem? (i := 1350) (by decide +kernel), List.mem_of_getElem? (i := 1952) (by decide +kernel), List.mem_of_getElem? (i := 1953) (by decide +kernel)⟩
def lw_privs_7 : List (MethodName × Nat) := [(⟨"HungerDaysModel", "areLate", "(I)Z"⟩, 48), (⟨"HungerDaysModel", "appetite", "(I)I"⟩, 48), (⟨"HungerDaysModel", "whoHas", "(I)I"⟩, 48), (⟨"HungerDaysModel", "mostOf", "()I"⟩, 48), (⟨"HungerDaysModel", "draws", "(II)I"⟩, 48), (⟨"HungerDaysModel", "drawsPerson", "(I)V"⟩, 48), (⟨"HungerDaysModel", "draw", "(I)I"⟩, 48), (⟨"HungerDaysModel", "bookLine", "()Z"⟩, 48), (⟨"HungerDaysModel", "does", "(III)I"⟩, 48), (⟨"HungerDaysModel", "nots", "()V"⟩, 48), (⟨"HungerDaysModel", "code", "(III)V"⟩, 48), (⟨"HungerDaysModel", "joins", "(I)V"⟩, 48), (⟨"HungerDaysModel", "behind", "()Z"⟩, 48), (⟨"HungerDaysModel", "operand", "()Z"⟩, 48), (⟨"HungerDaysModel", "leafOf", "()I"⟩, 48), (⟨"HungerDaysModel", "isSaid", "(I)Z"⟩, 48)]
theorem lw_r7 : ∀ q ∈ lw_privs_7, lw_okq q := List.forall_mem_cons.mpr ⟨lw_p96, List.forall_mem_cons.mpr ⟨lw_p97, List.forall_mem_cons.mpr ⟨lw_p98, List.forall_mem_cons.mpr ⟨lw_p99, List.forall_mem_cons.mpr ⟨lw_p100, List.forall_mem_cons.mpr ⟨lw_p101, List.forall_mem_cons.mpr ⟨lw_p102, List.forall_mem_cons.mpr ⟨lw_p103, List.forall_mem_cons.mpr ⟨lw_p104, List.forall_mem_cons.mpr ⟨lw_p105, List.forall_mem_cons.mpr ⟨lw_p106, List.forall_mem_cons.mpr ⟨lw_p107, List.forall_mem_cons.mpr ⟨lw_p108, List.forall_mem_cons.mpr ⟨lw_p109, List.forall_mem_cons.mpr ⟨lw_p110, List.forall_mem_cons.mpr ⟨lw_p111, fun _ h => absurd h List.not_mem_nil⟩⟩⟩⟩⟩⟩⟩⟩⟩⟩⟩⟩⟩⟩⟩⟩
theorem lw_p112 : lw_okq (⟨"HungerDaysModel", "isLeaf", "(IIII)Z"⟩, 48) := ⟨⟨by decide +kernel, by decide +kernel⟩, List.mem_of_getElem? (i := 1350) (by decide +kernel), List.mem_of_getElem? (i := 1956) (by decide +kernel), List.mem_of_getElem? (i := 1957) (by decide +kernel)⟩
def lw_privs_8 : List (MethodName × Nat) := [(⟨"HungerDaysModel", "isLeaf", "(IIII)Z"⟩, 48)]
theorem lw_r8 : ∀ q ∈ lw_privs_8, lw_okq q := List.forall_mem_cons.mpr ⟨lw_p112, fun _ h => absurd h List.not_mem_nil⟩
def lw_privs : List (MethodName × Nat) := lw_privs_1 ++ (lw_privs_2 ++ (lw_privs_3 ++ (lw_privs_4 ++ (lw_privs_5 ++ (lw_privs_6 ++ (lw_privs_7 ++ (lw_privs_8)))))))
def lw_tbl : List Cond := k2_sels lw_privs ++ tables_1
theorem lw_privs_ok : ∀ q ∈ lw_privs, lw_okq q := by
  show ∀ q ∈ lw_privs_1 ++ (lw_privs_2 ++ (lw_privs_3 ++ (lw_privs_4 ++ (lw_privs_5 ++ (lw_privs_6 ++ (lw_privs_7 ++ (lw_privs_8))))))), lw_okq q
  exact List.forall_mem_append.mpr ⟨lw_r1, List.forall_mem_append.mpr ⟨lw_r2, List.forall_mem_append.mpr ⟨lw_r3, List.forall_mem_append.mpr ⟨lw_r4, List.forall_mem_append.mpr ⟨lw_r5, List.forall_mem_append.mpr ⟨lw_r6, List.forall_mem_append.mpr ⟨lw_r7, lw_r8⟩⟩⟩⟩⟩⟩⟩
end
section
-- names of the classes and their fields, out of the text that TURN prints of the program
def RX0 : String := "HungerDays$Book"
def TX0 : u_T := fun k => match k with
  | 0 => ("HungerDays$Book", "reader", "LHungerDays$Reader;", true)
  | 1 => ("HungerDays$Book", "valley", "LHungerDays$Valley;", true)
  | 2 => ("HungerDays$Book", "lines", "I", false)
  | 3 => ("HungerDays$Book", "word", "[I", true)
  | 4 => ("HungerDays$Book", "who", "[I", true)
  | 5 => ("HungerDays$Book", "what", "[I", true)
  | 6 => ("HungerDays$Book", "whyWrong", "I", false)
  | 7 => ("HungerDays$Book", "goodLines", "I", false)
  | 8 => ("HungerDays$Book", "hourThen", "I", false)
  | _ => ("HungerDays$Book", "heldThen", "I", false)
def tyX0 : Nat → FieldType := fun k => match k with
  | 0 => .object "HungerDays$Reader"
  | 1 => .object "HungerDays$Valley"
  | 2 => .int
  | 3 => .array .int
  | 4 => .array .int
  | 5 => .array .int
  | 6 => .int
  | 7 => .int
  | 8 => .int
  | _ => .int
theorem nmX0 : ∀ a, a < 10 → ∀ b, b < 10 → a ≠ b → (TX0 a).2.1 ≠ (TX0 b).2.1 := by decide +kernel
theorem tyX0_ok : ∀ k, k < 10 → parseFieldDescriptor (TX0 k).2.2.1 = some (tyX0 k) := by decide +kernel
def RX1 : String := "HungerDays$Draws"
def TX1 : u_T := fun k => match k with
  | _ => ("HungerDays$Draws", "x", "I", false)
def tyX1 : Nat → FieldType := fun k => match k with
  | _ => .int
theorem nmX1 : ∀ a, a < 1 → ∀ b, b < 1 → a ≠ b → (TX1 a).2.1 ≠ (TX1 b).2.1 := by decide +kernel
theorem tyX1_ok : ∀ k, k < 1 → parseFieldDescriptor (TX1 k).2.2.1 = some (tyX1 k) := by decide +kernel
def RX2 : String := "HungerDays$History"
def TX2 : u_T := fun k => match k with
  | 0 => ("HungerDays$History", "states", "[LHungerDays$State;", true)
  | 1 => ("HungerDays$History", "next", "I", false)
  | _ => ("HungerDays$History", "size", "I", false)
def tyX2 : Nat → FieldType := fun k => match k with
  | 0 => .array (.object "HungerDays$State")
  | 1 => .int
  | _ => .int
theorem nmX2 : ∀ a, a < 3 → ∀ b, b < 3 → a ≠ b → (TX2 a).2.1 ≠ (TX2 b).2.1 := by decide +kernel
theorem tyX2_ok : ∀ k, k < 3 → parseFieldDescriptor (TX2 k).2.2.1 = some (tyX2 k) := by decide +kernel
def RX3 : String := "HungerDays$Image"
def TX3 : u_T := fun k => match k with
  | 0 => ("HungerDays$Image", "isKept", "Z", false)
  | 1 => ("HungerDays$Image", "valley", "LHungerDays$Valley;", true)
  | 2 => ("HungerDays$Image", "state", "LHungerDays$State;", true)
  | _ => ("HungerDays$Image", "sentence", "LHungerDays$Sentence;", true)
def tyX3 : Nat → FieldType := fun k => match k with
  | 0 => .boolean
  | 1 => .object "HungerDays$Valley"
  | 2 => .object "HungerDays$State"
  | _ => .object "HungerDays$Sentence"
theorem nmX3 : ∀ a, a < 4 → ∀ b, b < 4 → a ≠ b → (TX3 a).2.1 ≠ (TX3 b).2.1 := by decide +kernel
theorem tyX3_ok : ∀ k, k < 4 → parseFieldDescriptor (TX3 k).2.2.1 = some (tyX3 k) := by decide +kernel
def RX4 : String := "HungerDays$Plates"
def TX4 : u_T := fun k => match k with
  | 0 => ("HungerDays$Plates", "inEach", "I", false)
  | 1 => ("HungerDays$Plates", "tellsMost", "I", false)
  | _ => ("HungerDays$Plates", "seen", "[I", true)
def tyX4 : Nat → FieldType := fun k => match k with
  | 0 => .int
  | 1 => .int
  | _ => .array .int
theorem nmX4 : ∀ a, a < 3 → ∀ b, b < 3 → a ≠ b → (TX4 a).2.1 ≠ (TX4 b).2.1 := by decide +kernel
theorem tyX4_ok : ∀ k, k < 3 → parseFieldDescriptor (TX4 k).2.2.1 = some (tyX4 k) := by decide +kernel
def RX5 : String := "HungerDays$Reader"
def TX5 : u_T := fun k => match k with
  | 0 => ("HungerDays$Reader", "bytes", "[I", true)
  | 1 => ("HungerDays$Reader", "words", "[J", true)
  | 2 => ("HungerDays$Reader", "size", "I", false)
  | 3 => ("HungerDays$Reader", "mostBytes", "I", false)
  | 4 => ("HungerDays$Reader", "at", "I", false)
  | 5 => ("HungerDays$Reader", "kind", "I", false)
  | 6 => ("HungerDays$Reader", "start", "I", false)
  | 7 => ("HungerDays$Reader", "word", "J", false)
  | 8 => ("HungerDays$Reader", "keyword", "I", false)
  | 9 => ("HungerDays$Reader", "number", "I", false)
  | 10 => ("HungerDays$Reader", "sign", "I", false)
  | 11 => ("HungerDays$Reader", "faultKind", "I", false)
  | _ => ("HungerDays$Reader", "faultPlace", "I", false)
def tyX5 : Nat → FieldType := fun k => match k with
  | 0 => .array .int
  | 1 => .array .long
  | 2 => .int
  | 3 => .int
  | 4 => .int
  | 5 => .int
  | 6 => .int
  | 7 => .long
  | 8 => .int
  | 9 => .int
  | 10 => .int
  | 11 => .int
  | _ => .int
theorem nmX5 : ∀ a, a < 13 → ∀ b, b < 13 → a ≠ b → (TX5 a).2.1 ≠ (TX5 b).2.1 := by decide +kernel
theorem tyX5_ok : ∀ k, k < 13 → parseFieldDescriptor (TX5 k).2.2.1 = some (tyX5 k) := by decide +kernel
def RX6 : String := "HungerDays$Sentence"
def TX6 : u_T := fun k => match k with
  | 0 => ("HungerDays$Sentence", "ones", "I", false)
  | 1 => ("HungerDays$Sentence", "steps", "I", false)
  | 2 => ("HungerDays$Sentence", "word", "[I", true)
  | 3 => ("HungerDays$Sentence", "sign", "[I", true)
  | 4 => ("HungerDays$Sentence", "number", "[I", true)
  | 5 => ("HungerDays$Sentence", "stack", "[I", true)
  | _ => ("HungerDays$Sentence", "height", "I", false)
def tyX6 : Nat → FieldType := fun k => match k with
  | 0 => .int
  | 1 => .int
  | 2 => .array .int
  | 3 => .array .int
  | 4 => .array .int
  | 5 => .array .int
  | _ => .int
theorem nmX6 : ∀ a, a < 7 → ∀ b, b < 7 → a ≠ b → (TX6 a).2.1 ≠ (TX6 b).2.1 := by decide +kernel
theorem tyX6_ok : ∀ k, k < 7 → parseFieldDescriptor (TX6 k).2.2.1 = some (tyX6 k) := by decide +kernel
def RX7 : String := "HungerDays$State"
def TX7 : u_T := fun k => match k with
  | 0 => ("HungerDays$State", "valley", "LHungerDays$Valley;", true)
  | 1 => ("HungerDays$State", "hour", "I", false)
  | 2 => ("HungerDays$State", "ill", "I", false)
  | 3 => ("HungerDays$State", "unpaidHours", "I", false)
  | 4 => ("HungerDays$State", "hunger", "[I", true)
  | 5 => ("HungerDays$State", "coin", "[I", true)
  | 6 => ("HungerDays$State", "eaten", "[I", true)
  | 7 => ("HungerDays$State", "left", "[I", true)
  | 8 => ("HungerDays$State", "heldAt", "[I", true)
  | _ => ("HungerDays$State", "paidAt", "[I", true)
def tyX7 : Nat → FieldType := fun k => match k with
  | 0 => .object "HungerDays$Valley"
  | 1 => .int
  | 2 => .int
  | 3 => .int
  | 4 => .array .int
  | 5 => .array .int
  | 6 => .array .int
  | 7 => .array .int
  | 8 => .array .int
  | _ => .array .int
theorem nmX7 : ∀ a, a < 10 → ∀ b, b < 10 → a ≠ b → (TX7 a).2.1 ≠ (TX7 b).2.1 := by decide +kernel
theorem tyX7_ok : ∀ k, k < 10 → parseFieldDescriptor (TX7 k).2.2.1 = some (tyX7 k) := by decide +kernel
def RX8 : String := "HungerDays$Table"
def TX8 : u_T := fun k => match k with
  | 0 => ("HungerDays$Table", "set", "I", false)
  | 1 => ("HungerDays$Table", "date", "I", false)
  | 2 => ("HungerDays$Table", "plates", "[I", true)
  | 3 => ("HungerDays$Table", "seats", "I", false)
  | 4 => ("HungerDays$Table", "guests", "[I", true)
  | 5 => ("HungerDays$Table", "dates", "[I", true)
  | 6 => ("HungerDays$Table", "left", "[I", true)
  | 7 => ("HungerDays$Table", "leastFrom", "[I", true)
  | 8 => ("HungerDays$Table", "goal", "I", false)
  | 9 => ("HungerDays$Table", "memo", "[I", true)
  | _ => ("HungerDays$Table", "tries", "I", false)
def tyX8 : Nat → FieldType := fun k => match k with
  | 0 => .int
  | 1 => .int
  | 2 => .array .int
  | 3 => .int
  | 4 => .array .int
  | 5 => .array .int
  | 6 => .array .int
  | 7 => .array .int
  | 8 => .int
  | 9 => .array .int
  | _ => .int
theorem nmX8 : ∀ a, a < 11 → ∀ b, b < 11 → a ≠ b → (TX8 a).2.1 ≠ (TX8 b).2.1 := by decide +kernel
theorem tyX8_ok : ∀ k, k < 11 → parseFieldDescriptor (TX8 k).2.2.1 = some (tyX8 k) := by decide +kernel
def RX9 : String := "HungerDays$Valley"
def TX9 : u_T := fun k => match k with
  | 0 => ("HungerDays$Valley", "span", "I", false)
  | 1 => ("HungerDays$Valley", "winterFrom", "I", false)
  | 2 => ("HungerDays$Valley", "winterLong", "I", false)
  | 3 => ("HungerDays$Valley", "persons", "I", false)
  | 4 => ("HungerDays$Valley", "foods", "I", false)
  | 5 => ("HungerDays$Valley", "meetings", "I", false)
  | 6 => ("HungerDays$Valley", "debts", "I", false)
  | 7 => ("HungerDays$Valley", "personNames", "[J", true)
  | 8 => ("HungerDays$Valley", "foodNames", "[J", true)
  | 9 => ("HungerDays$Valley", "meetingNames", "[J", true)
  | 10 => ("HungerDays$Valley", "grows", "[I", true)
  | 11 => ("HungerDays$Valley", "hunger", "[I", true)
  | 12 => ("HungerDays$Valley", "coin", "[I", true)
  | 13 => ("HungerDays$Valley", "fills", "[I", true)
  | 14 => ("HungerDays$Valley", "store", "[I", true)
  | 15 => ("HungerDays$Valley", "crowd", "[I", true)
  | 16 => ("HungerDays$Valley", "debtor", "[I", true)
  | 17 => ("HungerDays$Valley", "creditor", "[I", true)
  | 18 => ("HungerDays$Valley", "amount", "[I", true)
  | _ => ("HungerDays$Valley", "dueDate", "[I", true)
def tyX9 : Nat → FieldType := fun k => match k with
  | 0 => .int
  | 1 => .int
  | 2 => .int
  | 3 => .int
  | 4 => .int
  | 5 => .int
  | 6 => .int
  | 7 => .array .long
  | 8 => .array .long
  | 9 => .array .long
  | 10 => .array .int
  | 11 => .array .int
  | 12 => .array .int
  | 13 => .array .int
  | 14 => .array .int
  | 15 => .array .int
  | 16 => .array .int
  | 17 => .array .int
  | 18 => .array .int
  | _ => .array .int
theorem nmX9 : ∀ a, a < 20 → ∀ b, b < 20 → a ≠ b → (TX9 a).2.1 ≠ (TX9 b).2.1 := by decide +kernel
theorem tyX9_ok : ∀ k, k < 20 → parseFieldDescriptor (TX9 k).2.2.1 = some (tyX9 k) := by decide +kernel
def RX10 : String := "HungerDays$ValleyText"
def TX10 : u_T := fun k => match k with
  | 0 => ("HungerDays$ValleyText", "reader", "LHungerDays$Reader;", true)
  | 1 => ("HungerDays$ValleyText", "valley", "LHungerDays$Valley;", true)
  | 2 => ("HungerDays$ValleyText", "spanTold", "Z", false)
  | _ => ("HungerDays$ValleyText", "winterTold", "Z", false)
def tyX10 : Nat → FieldType := fun k => match k with
  | 0 => .object "HungerDays$Reader"
  | 1 => .object "HungerDays$Valley"
  | 2 => .boolean
  | _ => .boolean
theorem nmX10 : ∀ a, a < 4 → ∀ b, b < 4 → a ≠ b → (TX10 a).2.1 ≠ (TX10 b).2.1 := by decide +kernel
theorem tyX10_ok : ∀ k, k < 4 → parseFieldDescriptor (TX10 k).2.2.1 = some (tyX10 k) := by decide +kernel
def RX11 : String := "HungerDays"
def TX11 : u_T := fun k => match k with
  | 0 => ("HungerDays", "tape", "[I", true)
  | 1 => ("HungerDays", "tapeSize", "I", false)
  | 2 => ("HungerDays", "reader", "LHungerDays$Reader;", true)
  | 3 => ("HungerDays", "faultKind", "I", false)
  | 4 => ("HungerDays", "valley", "LHungerDays$Valley;", true)
  | 5 => ("HungerDays", "spareValley", "LHungerDays$Valley;", true)
  | 6 => ("HungerDays", "valleyText", "LHungerDays$ValleyText;", true)
  | 7 => ("HungerDays", "state", "LHungerDays$State;", true)
  | 8 => ("HungerDays", "trial", "LHungerDays$State;", true)
  | 9 => ("HungerDays", "history", "LHungerDays$History;", true)
  | 10 => ("HungerDays", "images", "[LHungerDays$Image;", true)
  | 11 => ("HungerDays", "sentence", "LHungerDays$Sentence;", true)
  | 12 => ("HungerDays", "spareSentence", "LHungerDays$Sentence;", true)
  | 13 => ("HungerDays", "book", "LHungerDays$Book;", true)
  | 14 => ("HungerDays", "draws", "LHungerDays$Draws;", true)
  | 15 => ("HungerDays", "table", "LHungerDays$Table;", true)
  | _ => ("HungerDays", "ateFrom", "LHungerDays$Plates;", true)
def tyX11 : Nat → FieldType := fun k => match k with
  | 0 => .array .int
  | 1 => .int
  | 2 => .object "HungerDays$Reader"
  | 3 => .int
  | 4 => .object "HungerDays$Valley"
  | 5 => .object "HungerDays$Valley"
  | 6 => .object "HungerDays$ValleyText"
  | 7 => .object "HungerDays$State"
  | 8 => .object "HungerDays$State"
  | 9 => .object "HungerDays$History"
  | 10 => .array (.object "HungerDays$Image")
  | 11 => .object "HungerDays$Sentence"
  | 12 => .object "HungerDays$Sentence"
  | 13 => .object "HungerDays$Book"
  | 14 => .object "HungerDays$Draws"
  | 15 => .object "HungerDays$Table"
  | _ => .object "HungerDays$Plates"
theorem nmX11 : ∀ a, a < 17 → ∀ b, b < 17 → a ≠ b → (TX11 a).2.1 ≠ (TX11 b).2.1 := by decide +kernel
theorem tyX11_ok : ∀ k, k < 17 → parseFieldDescriptor (TX11 k).2.2.1 = some (tyX11 k) := by decide +kernel
def RX12 : String := "HungerDaysModel"
def TX12 : u_T := fun k => match k with
  | 0 => ("HungerDaysModel", "thrown", "I", false)
  | 1 => ("HungerDaysModel", "tape", "[B", true)
  | 2 => ("HungerDaysModel", "length", "I", false)
  | 3 => ("HungerDaysModel", "size", "I", false)
  | 4 => ("HungerDaysModel", "p", "I", false)
  | 5 => ("HungerDaysModel", "limit", "I", false)
  | 6 => ("HungerDaysModel", "s", "[I", true)
  | 7 => ("HungerDaysModel", "h", "[I", true)
  | 8 => ("HungerDaysModel", "read", "[I", true)
  | 9 => ("HungerDaysModel", "names", "[J", true)
  | 10 => ("HungerDaysModel", "reserved", "[J", true)
  | 11 => ("HungerDaysModel", "token", "I", false)
  | 12 => ("HungerDaysModel", "at", "I", false)
  | 13 => ("HungerDaysModel", "span", "I", false)
  | 14 => ("HungerDaysModel", "number", "I", false)
  | 15 => ("HungerDaysModel", "fault", "I", false)
  | 16 => ("HungerDaysModel", "faultAt", "I", false)
  | 17 => ("HungerDaysModel", "word", "J", false)
  | 18 => ("HungerDaysModel", "got", "I", false)
  | 19 => ("HungerDaysModel", "lines", "I", false)
  | 20 => ("HungerDaysModel", "onces", "I", false)
  | 21 => ("HungerDaysModel", "undone", "[I", true)
  | 22 => ("HungerDaysModel", "before", "[I", true)
  | 23 => ("HungerDaysModel", "undoMany", "I", false)
  | 24 => ("HungerDaysModel", "fewest", "[I", true)
  | 25 => ("HungerDaysModel", "plateRow", "[I", true)
  | 26 => ("HungerDaysModel", "plateMany", "I", false)
  | 27 => ("HungerDaysModel", "feastDate", "I", false)
  | 28 => ("HungerDaysModel", "surelySet", "I", false)
  | 29 => ("HungerDaysModel", "askFood", "I", false)
  | 30 => ("HungerDaysModel", "hasAte", "Z", false)
  | 31 => ("HungerDaysModel", "seen", "[I", true)
  | 32 => ("HungerDaysModel", "parts", "[I", true)
  | 33 => ("HungerDaysModel", "rests", "[I", true)
  | 34 => ("HungerDaysModel", "seed", "I", false)
  | 35 => ("HungerDaysModel", "toldMany", "I", false)
  | 36 => ("HungerDaysModel", "toldAt", "[I", true)
  | 37 => ("HungerDaysModel", "hasTold", "Z", false)
  | 38 => ("HungerDaysModel", "stack", "[I", true)
  | 39 => ("HungerDaysModel", "codes", "I", false)
  | 40 => ("HungerDaysModel", "ones", "I", false)
  | 41 => ("HungerDaysModel", "top", "I", false)
  | 42 => ("HungerDaysModel", "deep", "I", false)
  | 43 => ("HungerDaysModel", "isWhole", "Z", false)
  | 44 => ("HungerDaysModel", "truths", "[Z", true)
  | 45 => ("HungerDaysModel", "kept", "[I", true)
  | 46 => ("HungerDaysModel", "namesKept", "[J", true)
  | _ => ("HungerDaysModel", "areKept", "[Z", true)
def tyX12 : Nat → FieldType := fun k => match k with
  | 0 => .int
  | 1 => .array .byte
  | 2 => .int
  | 3 => .int
  | 4 => .int
  | 5 => .int
  | 6 => .array .int
  | 7 => .array .int
  | 8 => .array .int
  | 9 => .array .long
  | 10 => .array .long
  | 11 => .int
  | 12 => .int
  | 13 => .int
  | 14 => .int
  | 15 => .int
  | 16 => .int
  | 17 => .long
  | 18 => .int
  | 19 => .int
  | 20 => .int
  | 21 => .array .int
  | 22 => .array .int
  | 23 => .int
  | 24 => .array .int
  | 25 => .array .int
  | 26 => .int
  | 27 => .int
  | 28 => .int
  | 29 => .int
  | 30 => .boolean
  | 31 => .array .int
  | 32 => .array .int
  | 33 => .array .int
  | 34 => .int
  | 35 => .int
  | 36 => .array .int
  | 37 => .boolean
  | 38 => .array .int
  | 39 => .int
  | 40 => .int
  | 41 => .int
  | 42 => .int
  | 43 => .boolean
  | 44 => .array .boolean
  | 45 => .array .int
  | 46 => .array .long
  | _ => .array .boolean
theorem nmX12 : ∀ a, a < 48 → ∀ b, b < 48 → a ≠ b → (TX12 a).2.1 ≠ (TX12 b).2.1 := by decide +kernel
theorem tyX12_ok : ∀ k, k < 48 → parseFieldDescriptor (TX12 k).2.2.1 = some (tyX12 k) := by decide +kernel
def RL : String := "HungerDaysLaw"
abbrev vwCl : List vw_C := [(RX0, TX0, 10), (RX1, TX1, 1), (RX2, TX2, 3), (RX3, TX3, 4), (RX4, TX4, 3), (RX5, TX5, 13), (RX6, TX6, 7), (RX7, TX7, 10), (RX8, TX8, 11), (RX9, TX9, 20), (RX10, TX10, 4), (RX11, TX11, 17), (RX12, TX12, 48)]
end
section
/-! a value known by bounds (an int: between two numbers, each 2^31 too large; a long: its number; a reference: its place in the world; beside it 0 the one String, 1 its bytes, 2 any other) -/
abbrev ia_V : Type := (Nat × Nat) ⊕ (Nat ⊕ (Option Nat ⊕ Nat))
/-- a cell: its kind, its length, its contents in rows of sixteen -/
abbrev ia_C : Type := Nat × Nat × List (List ia_V)
abbrev ia_H : Type := List (List ia_C)
abbrev ia_O : Type := Option ia_V × ia_H × Nat
abbrev ia_K : Type := Nat → List (Option ia_V) → List ia_V → ia_H → Nat → Nat → Nat → Option ia_O
noncomputable def ia_E (x : Int32) : Nat := (x.toBitVec.toNat + 2147483648) % 4294967296
noncomputable def ia_D (u : Nat) : Int32 := Int32.ofNat (u + 2147483648)
noncomputable def ia_top : Nat × Nat := (0, 4294967295)
/-! ## numbers -/
theorem ia_E_lt (x : Int32) : ia_E x < 4294967296 := Nat.mod_lt _ (by decide)
theorem ia_toInt (x : Int32) : x.toInt = (ia_E x : Int) - 2147483648 := by
  have h1 : x.toInt = x.toBitVec.toInt := rfl
  have h2 : x.toBitVec.toNat < 4294967296 := x.toBitVec.isLt
  rw [h1, BitVec.toInt_eq_toNat_cond, ia_E]
  split <;> omega
theorem ia_DE (x : Int32) : ia_D (ia_E x) = x := by
  have h2 : x.toBitVec.toNat < 4294967296 := x.toBitVec.isLt
  unfold ia_D ia_E
  apply Int32.toBitVec_inj.mp
  apply BitVec.eq_of_toNat_eq
  show (BitVec.ofNat 32 ((x.toBitVec.toNat + 2147483648) % 4294967296 + 2147483648)).toNat = _
  rw [BitVec.toNat_ofNat]
  omega
theorem ia_E_inj {x y : Int32} (h : ia_E x = ia_E y) : x = y := by rw [← ia_DE x, ← ia_DE y, h]
theorem ia_lt {x y : Int32} : x < y ↔ ia_E x < ia_E y := by
  rw [Int32.lt_iff_toInt_lt, ia_toInt, ia_toInt]
  omega
theorem ia_eq {x y : Int32} : x = y ↔ ia_E x = ia_E y := ⟨fun h => by rw [h], ia_E_inj⟩
theorem ia_le {x y : Int32} : x ≤ y ↔ ia_E x ≤ ia_E y := by
  rw [Int32.le_iff_toInt_le, ia_toInt, ia_toInt]
  omega
theorem ia_E0 : ia_E 0 = 2147483648 := by decide
theorem ia_cl {x : Int32} (h : 2147483648 ≤ ia_E x) : x.toNatClampNeg = ia_E x - 2147483648 := by
  show x.toInt.toNat = _
  rw [ia_toInt]
  omega
theorem ia_neg {x : Int32} : x < 0 ↔ ia_E x < 2147483648 := by rw [ia_lt, ia_E0]
theorem ia_Eadd (x y : Int32) : ia_E (x + y) = Nat.mod (Nat.add (Nat.add (ia_E x) (ia_E y)) 2147483648) 4294967296 := by
  have h1 : (x + y).toBitVec.toNat = (x.toBitVec.toNat + y.toBitVec.toNat) % 4294967296 := by
    show (x.toBitVec + y.toBitVec).toNat = _
    rw [BitVec.toNat_add]
  show _ = (ia_E x + ia_E y + 2147483648) % 4294967296
  unfold ia_E
  rw [h1]
  omega
theorem ia_Esub (x y : Int32) : ia_E (x - y) = Nat.mod (Nat.sub (Nat.add (ia_E x) 6442450944) (ia_E y)) 4294967296 := by
  have h0 : y.toBitVec.toNat < 4294967296 := y.toBitVec.isLt
  have h1 : (x - y).toBitVec.toNat = (4294967296 - y.toBitVec.toNat + x.toBitVec.toNat) % 4294967296 := by
    show (x.toBitVec - y.toBitVec).toNat = _
    rw [BitVec.toNat_sub]
  show _ = (ia_E x + 6442450944 - ia_E y) % 4294967296
  unfold ia_E
  rw [h1]
  omega
/-! ## forcing -/
noncomputable def ia_frc {α : Type} (n : Nat) (k : Nat → α) : α := Nat.rec (motive := fun _ => α) (k 0) (fun m _ => k (Nat.succ m)) n
theorem ia_frc_eq {α : Type} (n : Nat) (k : Nat → α) : ia_frc n k = k n := by cases n <;> rfl
noncomputable def ia_at {α : Type} (l : List α) (n : Nat) : Option α := List.rec (motive := fun _ => Nat → Option α) (fun _ => none) (fun a _ ih n => Nat.rec (motive := fun _ => Option α) (some a) (fun m _ => ih m) n) l n
theorem ia_at_eq {α : Type} (l : List α) : ∀ n : Nat, ia_at l n = l[n]? := by
  induction l with
  | nil => intro n; rfl
  | cons a l ih => intro n; cases n with
    | zero => rfl
    | succ m => exact (ih m).trans (List.getElem?_cons_succ).symm
noncomputable def ia_setK {α β : Type} (l : List α) (n : Nat) (v : α) (k : List α → β) : β := List.rec (motive := fun _ => Nat → (List α → β) → β) (fun _ k => k []) (fun a t ih n k => Nat.rec (motive := fun _ => β) (k (v :: t)) (fun m _ => ih m (fun t' => k (a :: t'))) n) l n k
theorem ia_setK_eq {α β : Type} (v : α) (l : List α) : ∀ (n : Nat) (k : List α → β), ia_setK l n v k = k (l.set n v) := by
  induction l with
  | nil => intro n k; rfl
  | cons a l ih => intro n k; cases n with
    | zero => rfl
    | succ m => exact ih m (fun t' => k (a :: t'))
noncomputable def ia_get2 {α : Type} (l : List (List α)) (k : Nat) : Option α := match ia_at l (Nat.div k 16) with
  | some c => ia_at c (Nat.mod k 16)
  | none => none
noncomputable def ia_set2 {α : Type} (l : List (List α)) (k : Nat) (v : α) : List (List α) := match ia_at l (Nat.div k 16) with
  | some c => l.set (Nat.div k 16) (c.set (Nat.mod k 16) v)
  | none => l
noncomputable def ia_set2K {α β : Type} (l : List (List α)) (k : Nat) (v : α) (f : List (List α) → β) : β := match ia_at l (Nat.div k 16) with
  | some c => ia_setK c (Nat.mod k 16) v (fun c' => ia_setK l (Nat.div k 16) c' f)
  | none => f l
theorem ia_set2K_eq {α β : Type} (l : List (List α)) (k : Nat) (v : α) (f : List (List α) → β) : ia_set2K l k v f = f (ia_set2 l k v) := by
  unfold ia_set2K ia_set2
  cases ia_at l (Nat.div k 16) with
  | none => rfl
  | some c => simp only [ia_setK_eq]
theorem ia_get2_eq {α : Type} {l : List (List α)} {k : Nat} {w : α} (h : ia_get2 l k = some w) : ∃ c, l[k / 16]? = some c ∧ c[k % 16]? = some w := by
  unfold ia_get2 at h
  cases hc : ia_at l (Nat.div k 16) with
  | none => rw [hc] at h; cases h
  | some c =>
    rw [hc] at h
    exact ⟨c, (ia_at_eq l _).symm.trans hc, (ia_at_eq c _).symm.trans h⟩
theorem ia_get2_of {α : Type} {l : List (List α)} {k : Nat} {w : α} {c : List α} (h1 : l[k / 16]? = some c) (h2 : c[k % 16]? = some w) : ia_get2 l k = some w := by
  unfold ia_get2
  rw [ia_at_eq, show Nat.div k 16 = k / 16 from rfl, h1]
  show ia_at c (k % 16) = _
  rw [ia_at_eq, h2]
theorem ia_get2_set {α : Type} {l : List (List α)} {k j : Nat} {v w : α} (h : ia_get2 (ia_set2 l k v) j = some w) : (j = k ∧ w = v) ∨ (j ≠ k ∧ ia_get2 l j = some w) := by
  by_cases hjk : j = k
  · refine Or.inl ⟨hjk, ?_⟩
    subst hjk
    obtain ⟨c, h1, h2⟩ := ia_get2_eq h
    unfold ia_set2 at h1
    cases hc : ia_at l (Nat.div j 16) with
    | none =>
      rw [hc] at h1
      rw [ia_at_eq] at hc
      rw [show l[j / 16]? = none from hc] at h1
      cases h1
    | some c0 =>
      rw [hc] at h1
      rw [ia_at_eq] at hc
      have hl : j / 16 < l.length := (List.getElem?_eq_some_iff.mp hc).1
      have h1' : (l.set (j / 16) (c0.set (j % 16) v))[j / 16]? = some c := h1
      rw [List.getElem?_set_self hl] at h1'
      cases h1'
      have hl2 : j % 16 < c0.length := by
        have := (List.getElem?_eq_some_iff.mp h2).1
        simpa using this
      rw [List.getElem?_set_self hl2] at h2
      exact (Option.some.inj h2).symm
  · refine Or.inr ⟨hjk, ?_⟩
    obtain ⟨c, h1, h2⟩ := ia_get2_eq h
    unfold ia_set2 at h1
    cases hc : ia_at l (Nat.div k 16) with
    | none => rw [hc] at h1; exact ia_get2_of h1 h2
    | some c0 =>
      rw [hc] at h1
      rw [ia_at_eq] at hc
      have hc' : l[k / 16]? = some c0 := hc
      have hl : k / 16 < l.length := (List.getElem?_eq_some_iff.mp hc').1
      have h1' : (l.set (k / 16) (c0.set (k % 16) v))[j / 16]? = some c := h1
      by_cases hq : j / 16 = k / 16
      · rw [hq, List.getElem?_set_self hl] at h1'
        cases h1'
        have hr : k % 16 ≠ j % 16 := fun z => hjk (by omega)
        rw [List.getElem?_set_ne hr] at h2
        exact ia_get2_of (hq ▸ hc') h2
      · rw [List.getElem?_set_ne (fun z => hq z.symm)] at h1'
        exact ia_get2_of h1' h2
end
section
-- by program (wip/p1/gentab.py): the methods that p1 reaches (places in lw_tbl of code, initialized, instance or static, selects; class, cells, slots, arguments), and the pools of their classes
def ia_Mt : List (Nat × Nat × Nat × Nat × Nat × Nat × Nat × Nat) := [
  (142, 114, 141, 0, 11, 183, 10834, 1), (937, 114, 935, 936, 11, 0, 0, 2), (1124, 114, 1122, 1123, 11, 0, 0, 1), (1100, 114, 1098, 1099, 11, 0, 0, 1), (1225, 114, 1223, 1224, 11, 0, 0, 2), (1154, 114, 1152, 1153, 11, 0, 0, 2),
  (1011, 114, 1009, 1010, 11, 0, 0, 1), (900, 114, 898, 899, 11, 0, 0, 2), (1194, 114, 1192, 1193, 11, 0, 0, 3), (904, 114, 902, 903, 11, 0, 0, 3), (702, 114, 700, 701, 11, 0, 0, 2), (844, 114, 842, 843, 11, 0, 0, 1),
  (1096, 114, 1094, 1095, 11, 0, 0, 1), (694, 114, 692, 693, 11, 0, 0, 6), (848, 114, 846, 847, 11, 0, 0, 3), (965, 114, 963, 964, 11, 0, 0, 2), (1161, 114, 1160, 0, 11, 0, 0, 2), (1355, 114, 1353, 1354, 11, 0, 0, 2),
  (1003, 114, 1002, 0, 11, 0, 0, 1), (1190, 114, 1189, 29, 11, 0, 0, 2), (852, 114, 851, 11, 11, 0, 0, 2), (1358, 114, 1357, 0, 11, 0, 0, 1), (860, 114, 859, 12, 11, 0, 0, 2), (908, 114, 907, 14, 11, 0, 0, 2),
  (1165, 114, 1163, 1164, 11, 0, 0, 2), (1134, 114, 1132, 1133, 11, 0, 0, 2), (1182, 114, 1180, 1181, 11, 0, 0, 3), (957, 114, 955, 956, 11, 0, 0, 2), (856, 114, 854, 855, 11, 0, 0, 3), (949, 114, 947, 948, 11, 0, 0, 2),
  (881, 114, 879, 880, 11, 0, 0, 2), (1221, 114, 1219, 1220, 11, 0, 0, 4), (1000, 114, 998, 999, 11, 0, 0, 2), (710, 114, 709, 1, 11, 0, 0, 2), (1186, 114, 1184, 1185, 11, 0, 0, 2), (1088, 114, 1086, 1087, 11, 0, 0, 2),
  (698, 114, 697, 0, 11, 0, 0, 2), (1362, 114, 1360, 1361, 11, 0, 0, 2), (1322, 114, 1320, 1321, 11, 0, 0, 2), (1281, 114, 1279, 1280, 11, 0, 0, 1), (1142, 114, 1140, 1141, 11, 0, 0, 3), (896, 114, 895, 0, 11, 0, 0, 2),
  (1120, 114, 1118, 1119, 11, 0, 0, 1), (1022, 114, 1020, 1021, 11, 0, 0, 2), (1277, 114, 1275, 1276, 11, 0, 0, 2), (1128, 114, 1126, 1127, 11, 0, 0, 3), (992, 114, 990, 991, 11, 0, 0, 1), (706, 114, 704, 705, 11, 0, 0, 1),
  (506, 125, 505, 0, 0, 3, 120, 3), (1248, 125, 1246, 1247, 0, 0, 0, 2), (1229, 125, 1227, 1228, 0, 0, 0, 1), (547, 126, 546, 0, 1, 0, 0, 1), (455, 123, 454, 0, 2, 57, 392, 2), (840, 123, 838, 839, 2, 0, 0, 1),
  (996, 123, 994, 995, 2, 0, 0, 2), (920, 123, 918, 919, 2, 0, 0, 2), (615, 129, 614, 0, 3, 26, 323, 1), (598, 128, 597, 0, 4, 1, 4, 1), (150, 115, 149, 0, 5, 1, 22, 2), (737, 115, 735, 736, 5, 0, 0, 1),
  (797, 115, 795, 796, 5, 0, 0, 2), (721, 115, 719, 720, 5, 0, 0, 1), (714, 115, 712, 713, 5, 0, 0, 3), (741, 115, 739, 740, 5, 0, 0, 2), (477, 124, 476, 0, 6, 4, 160, 1), (1317, 124, 1315, 1316, 6, 0, 0, 2),
  (836, 124, 834, 835, 6, 0, 0, 1), (1285, 124, 1283, 1284, 6, 0, 0, 3), (1290, 124, 1289, 35, 6, 0, 0, 4), (1294, 124, 1293, 36, 6, 0, 0, 4), (401, 122, 400, 0, 7, 6, 38, 2), (832, 122, 830, 831, 7, 0, 0, 1),
  (924, 122, 922, 923, 7, 0, 0, 2), (1169, 122, 1167, 1168, 7, 0, 0, 2), (1173, 122, 1172, 27, 7, 0, 0, 2), (889, 122, 887, 888, 7, 0, 0, 1), (969, 122, 967, 968, 7, 0, 0, 1), (893, 122, 891, 892, 7, 0, 0, 1),
  (978, 122, 976, 977, 7, 0, 0, 1), (973, 122, 971, 972, 7, 0, 0, 2), (1007, 122, 1005, 1006, 7, 0, 0, 2), (557, 127, 556, 0, 8, 6, 8009, 1), (1026, 127, 1024, 1025, 8, 0, 0, 3), (258, 120, 257, 0, 9, 13, 88, 1),
  (733, 120, 731, 732, 9, 0, 0, 1), (825, 120, 823, 824, 9, 0, 0, 2), (885, 120, 883, 884, 9, 0, 0, 2), (382, 121, 381, 0, 10, 0, 0, 3), (729, 121, 727, 728, 10, 0, 0, 1), (1472, 130, 1471, 0, 12, 19, 11702, 1),
  (1836, 130, 1834, 1835, 12, 0, 0, 2), (1942, 130, 1940, 1941, 12, 0, 0, 1), (1926, 130, 1924, 1925, 12, 0, 0, 1), (1954, 130, 1953, 95, 12, 0, 0, 1), (1682, 130, 1681, 52, 12, 0, 0, 2), (1878, 130, 1877, 0, 12, 0, 0, 1),
  (2019, 130, 2017, 2018, 12, 0, 0, 2), (1974, 130, 1972, 1973, 12, 0, 0, 2), (1875, 130, 1873, 1874, 12, 0, 0, 1), (2083, 130, 2081, 2082, 12, 0, 0, 2), (1998, 130, 1996, 1997, 12, 0, 0, 3), (1817, 130, 1815, 1816, 12, 0, 0, 3),
  (1468, 130, 1466, 1467, 12, 0, 0, 2), (1733, 130, 1731, 1732, 12, 0, 0, 1), (1922, 130, 1920, 1921, 12, 0, 0, 1), (1459, 130, 1457, 1458, 12, 0, 0, 6), (1765, 130, 1763, 1764, 12, 0, 0, 3), (1464, 130, 1462, 45, 12, 0, 0, 2),
  (1852, 130, 1851, 82, 12, 0, 0, 2), (1809, 130, 1808, 77, 12, 0, 0, 1), (1856, 130, 1855, 83, 12, 0, 0, 1), (1848, 130, 1846, 1847, 12, 0, 0, 2), (2075, 130, 2073, 2074, 12, 0, 0, 2), (1793, 130, 1792, 74, 12, 0, 0, 2),
  (1769, 130, 1768, 70, 12, 0, 0, 2), (1693, 130, 1692, 0, 12, 0, 0, 3), (1777, 130, 1776, 71, 12, 0, 0, 2), (1741, 130, 1740, 64, 12, 0, 0, 2), (1713, 130, 1712, 59, 12, 0, 0, 2), (1805, 130, 1804, 76, 12, 0, 0, 2),
  (1671, 130, 1670, 50, 12, 0, 0, 2), (1825, 130, 1824, 80, 12, 0, 0, 1), (1978, 130, 1976, 1977, 12, 0, 0, 2), (1958, 130, 1956, 1957, 12, 0, 0, 2), (1990, 130, 1988, 1989, 12, 0, 0, 3), (2059, 130, 2058, 110, 12, 0, 0, 1),
  (1844, 130, 1842, 1843, 12, 0, 0, 2), (1773, 130, 1771, 1772, 12, 0, 0, 3), (1840, 130, 1838, 1839, 12, 0, 0, 2), (1653, 130, 1652, 47, 12, 0, 0, 1), (1801, 130, 1799, 1800, 12, 0, 0, 2), (2015, 130, 2013, 2014, 12, 0, 0, 4),
  (1867, 130, 1865, 1866, 12, 0, 0, 2), (1871, 130, 1870, 84, 12, 0, 0, 2), (2055, 130, 2054, 109, 12, 0, 0, 1), (1994, 130, 1992, 1993, 12, 0, 0, 2), (1657, 130, 1656, 48, 12, 0, 0, 1), (1918, 130, 1916, 1917, 12, 0, 0, 2),
  (2079, 130, 2077, 2078, 12, 0, 0, 2), (2063, 130, 2061, 2062, 12, 0, 0, 2), (2035, 130, 2033, 2034, 12, 0, 0, 1), (1966, 130, 1964, 1965, 12, 0, 0, 3), (1813, 130, 1812, 78, 12, 0, 0, 3), (1938, 130, 1936, 1937, 12, 0, 0, 1),
  (1882, 130, 1880, 1881, 12, 0, 0, 2), (1649, 130, 1648, 46, 12, 0, 0, 2), (2031, 130, 2029, 2030, 12, 0, 0, 2), (1950, 130, 1949, 94, 12, 0, 0, 1), (1946, 130, 1944, 1945, 12, 0, 0, 3), (1863, 130, 1861, 1862, 12, 0, 0, 1),
  (1645, 130, 1643, 1644, 12, 0, 0, 1), (1982, 130, 1981, 98, 12, 0, 0, 2), (1015, 137, 1014, 0, 14, 0, 0, 1), (156, 116, 154, 155, 15, 0, 0, 1), (166, 116, 164, 165, 15, 0, 0, 2), (160, 116, 158, 159, 15, 0, 0, 1),
  (170, 116, 168, 169, 15, 0, 0, 1), (176, 116, 175, 0, 15, 0, 0, 2), (173, 117, 172, 0, 16, 0, 0, 2), (181, 118, 180, 0, 17, 0, 0, 3), (1455, 130, 1453, 1454, 12, 0, 0, 1), (1745, 130, 1744, 65, 12, 0, 0, 2),
  (1737, 130, 1735, 1736, 12, 0, 0, 3), (1789, 130, 1787, 1788, 12, 0, 0, 3)]
def ia_Po : List (List (Nat × Nat × Nat × Nat × Nat × Nat)) := [
  [(11, 0, 0, 3, 7, 511), (15, 0, 0, 4, 7, 512), (18, 0, 0, 5, 7, 513), (21, 0, 0, 6, 0, 514), (25, 0, 0, 7, 0, 516), (28, 0, 0, 8, 0, 518), (31, 0, 0, 9, 0, 520), (34, 0, 0, 0, 7, 508), (38, 0, 0, 1, 7, 509), (42, 0, 0, 2, 0, 510), (45, 0, 5, 5, 0, 207), (61, 0, 5, 8, 0, 214), (88, 0, 7, 1, 0, 408), (3, 2, 0, 0, 0, 507), (50, 1, 59, 0, 0, 1230), (68, 1, 63, 0, 0, 1236), (71, 1, 61, 0, 0, 1237), (93, 1, 75, 0, 0, 1273), (135, 1, 79, 0, 0, 1272)],
  [(7, 0, 1, 0, 0, 549), (30, 0, 7, 0, 7, 405), (34, 0, 9, 3, 0, 270), (43, 0, 9, 4, 0, 278), (58, 0, 9, 5, 0, 284), (1, 2, 0, 0, 0, 548), (14, 1, 76, 0, 0, 1199), (27, 1, 78, 0, 0, 1217), (13, 8, 3250998893, 0, 0, 1208)],
  [(11, 0, 2, 0, 7, 460), (18, 0, 2, 2, 0, 462), (22, 0, 2, 1, 0, 461), (1, 2, 0, 0, 0, 456), (15, 1, 70, 2, 0, 459), (25, 1, 72, 0, 0, 921), (29, 7, 0, 0, 0, 926), (9, 6, 7, 0, 0, 457)],
  [(10, 0, 3, 1, 7, 624), (21, 0, 3, 2, 7, 626), (28, 0, 3, 3, 7, 628), (1, 2, 0, 0, 0, 616), (18, 1, 70, 2, 0, 620), (9, 1, 83, 3, 0, 618), (27, 1, 64, 3, 0, 622), (7, 6, 9, 0, 0, 617), (16, 6, 7, 0, 0, 619), (25, 6, 6, 0, 0, 621)],
  [(9, 0, 4, 0, 0, 600), (15, 0, 4, 1, 0, 602), (18, 0, 4, 2, 7, 604), (28, 0, 9, 4, 0, 279), (37, 0, 9, 13, 7, 309), (45, 0, 9, 0, 0, 263), (3, 2, 0, 0, 0, 599), (65, 1, 152, 1, 0, 1116)],
  [(9, 0, 5, 1, 7, 203), (15, 0, 5, 0, 7, 202), (39, 0, 5, 2, 0, 204), (43, 0, 5, 3, 0, 205), (46, 0, 5, 4, 0, 206), (49, 0, 5, 11, 0, 220), (52, 0, 5, 12, 0, 222), (58, 0, 5, 6, 0, 210), (61, 0, 5, 8, 0, 216), (64, 0, 5, 5, 0, 209), (70, 0, 5, 10, 0, 218), (73, 0, 5, 7, 2, 211), (77, 0, 5, 9, 0, 217), (3, 2, 0, 0, 0, 151), (21, 1, 153, 0, 0, 153), (27, 1, 154, 0, 0, 163), (33, 7, 0, 0, 0, 715), (55, 1, 61, 0, 0, 718), (80, 1, 63, 0, 0, 738), (84, 1, 60, 0, 0, 821), (31, 9, 32, 0, 0, 201), (19, 10, 0, 0, 0, 152)],
  [(11, 0, 6, 2, 7, 482), (15, 0, 6, 3, 7, 483), (18, 0, 6, 4, 7, 484), (21, 0, 6, 5, 7, 485), (24, 0, 6, 0, 0, 479), (28, 0, 6, 1, 0, 481), (57, 0, 5, 8, 0, 215), (85, 0, 5, 10, 0, 219), (90, 0, 6, 6, 0, 486), (93, 0, 7, 0, 7, 406), (99, 0, 9, 3, 0, 275), (130, 0, 9, 15, 7, 318), (136, 0, 7, 4, 7, 417), (139, 0, 7, 5, 7, 420), (5, 2, 0, 0, 0, 478), (31, 3, 0, 0, 0, 1318), (37, 1, 66, 0, 0, 1286), (40, 1, 68, 0, 0, 1287), (44, 1, 59, 0, 0, 1313), (50, 1, 69, 0, 0, 1291), (60, 1, 61, 0, 0, 1297), (63, 1, 63, 0, 0, 1296), (71, 1, 60, 0, 0, 1295)],
  [(9, 0, 7, 4, 7, 414), (15, 0, 7, 5, 7, 418), (18, 0, 7, 6, 7, 421), (21, 0, 7, 7, 7, 423), (24, 0, 7, 8, 7, 426), (27, 0, 7, 9, 7, 428), (30, 0, 7, 0, 7, 403), (34, 0, 7, 1, 0, 407), (38, 0, 7, 2, 0, 410), (41, 0, 7, 3, 0, 412), (44, 0, 9, 11, 7, 303), (47, 0, 9, 12, 7, 306), (48, 0, 9, 14, 7, 314), (57, 0, 9, 0, 0, 261), (60, 0, 9, 3, 0, 273), (67, 0, 9, 6, 0, 290), (70, 0, 9, 16, 7, 322), (73, 0, 9, 18, 7, 330), (76, 0, 9, 5, 0, 287), (87, 0, 9, 13, 7, 312), (96, 0, 9, 15, 7, 320), (102, 0, 9, 19, 7, 336), (105, 0, 9, 17, 7, 328), (118, 0, 9, 10, 7, 301), (145, 0, 9, 4, 0, 282), (3, 2, 0, 0, 0, 402), (51, 3, 0, 0, 0, 925), (108, 1, 76, 0, 0, 974), (112, 1, 78, 0, 0, 975), (115, 1, 86, 0, 0, 979), (121, 7, 0, 0, 0, 980), (134, 1, 74, 0, 0, 1170)],
  [(9, 0, 8, 1, 0, 560), (15, 0, 8, 2, 7, 562), (19, 0, 8, 4, 7, 564), (24, 0, 8, 5, 7, 565), (27, 0, 8, 6, 7, 566), (30, 0, 8, 7, 7, 567), (33, 0, 8, 9, 7, 569), (36, 0, 8, 0, 0, 559), (43, 0, 7, 0, 7, 404), (49, 0, 9, 4, 0, 277), (62, 0, 8, 8, 0, 568), (69, 0, 8, 10, 0, 570), (79, 0, 8, 3, 0, 563), (82, 0, 9, 3, 0, 271), (85, 0, 7, 4, 7, 415), (95, 0, 7, 7, 7, 424), (3, 2, 0, 0, 0, 558), (96, 7, 0, 0, 0, 1052)],
  [(9, 0, 9, 0, 0, 260), (15, 0, 9, 7, 7, 292), (19, 0, 9, 8, 7, 294), (22, 0, 9, 9, 7, 296), (25, 0, 9, 10, 7, 298), (29, 0, 9, 11, 7, 302), (32, 0, 9, 12, 7, 305), (35, 0, 9, 13, 7, 308), (38, 0, 9, 14, 7, 313), (41, 0, 9, 15, 7, 316), (44, 0, 9, 16, 7, 321), (47, 0, 9, 17, 7, 325), (50, 0, 9, 18, 7, 329), (53, 0, 9, 19, 7, 333), (56, 0, 9, 1, 0, 265), (59, 0, 9, 2, 0, 267), (62, 0, 9, 3, 0, 269), (65, 0, 9, 4, 0, 276), (68, 0, 9, 5, 0, 283), (71, 0, 9, 6, 0, 288), (3, 2, 0, 0, 0, 259), (74, 3, 0, 0, 0, 826)],
  [(9, 0, 10, 0, 7, 384), (15, 0, 10, 1, 7, 385), (24, 0, 10, 2, 1, 386), (28, 0, 10, 3, 1, 387), (31, 0, 5, 5, 0, 208), (48, 0, 5, 8, 0, 213), (79, 0, 9, 0, 0, 262), (85, 0, 9, 1, 0, 266), (88, 0, 9, 2, 0, 268), (91, 0, 9, 3, 0, 272), (94, 0, 9, 7, 7, 293), (102, 0, 9, 10, 7, 299), (106, 0, 9, 11, 7, 304), (109, 0, 9, 12, 7, 307), (112, 0, 9, 4, 0, 280), (115, 0, 9, 8, 7, 295), (118, 0, 9, 13, 7, 310), (121, 0, 9, 14, 7, 315), (124, 0, 9, 5, 0, 285), (127, 0, 9, 9, 7, 297), (137, 0, 9, 15, 7, 317), (140, 0, 9, 6, 0, 289), (150, 0, 9, 16, 7, 323), (153, 0, 9, 17, 7, 326), (156, 0, 9, 18, 7, 331), (159, 0, 9, 19, 7, 334), (165, 0, 5, 7, 2, 212), (3, 2, 0, 0, 0, 383), (19, 1, 84, 0, 0, 730), (37, 1, 59, 0, 0, 734), (69, 1, 63, 0, 0, 750), (72, 1, 61, 0, 0, 751), (130, 1, 60, 0, 0, 794), (173, 9, 18446744073709551615, 0, 0, 785)],
  [(9, 0, 11, 0, 7, 639), (18, 0, 11, 2, 7, 641), (25, 0, 11, 4, 7, 643), (29, 0, 11, 5, 7, 644), (37, 0, 11, 6, 7, 645), (46, 0, 11, 7, 7, 646), (50, 0, 11, 8, 7, 647), (56, 0, 11, 9, 7, 648), (62, 0, 11, 10, 7, 649), (69, 0, 11, 11, 7, 650), (73, 0, 11, 12, 7, 651), (79, 0, 11, 13, 7, 652), (86, 0, 11, 14, 7, 653), (93, 0, 11, 15, 7, 654), (100, 0, 11, 16, 7, 655), (105, 0, 11, 1, 0, 640), (124, 0, 5, 11, 0, 221), (127, 0, 11, 3, 0, 642), (128, 0, 5, 12, 0, 223), (141, 0, 9, 3, 0, 274), (144, 0, 9, 4, 0, 281), (147, 0, 9, 5, 0, 286), (150, 0, 9, 6, 0, 291), (164, 0, 7, 4, 7, 416), (174, 0, 7, 5, 7, 419), (177, 0, 7, 6, 7, 422), (180, 0, 9, 10, 7, 300), (194, 0, 9, 13, 7, 311), (197, 0, 7, 7, 7, 425), (203, 0, 9, 15, 7, 319), (206, 0, 7, 8, 7, 427), (220, 0, 9, 16, 7, 324), (223, 0, 9, 17, 7, 327), (226, 0, 9, 18, 7, 332), (229, 0, 9, 19, 7, 335), (232, 0, 7, 9, 7, 429), (240, 0, 7, 1, 0, 409), (246, 0, 7, 2, 0, 411), (259, 0, 7, 3, 0, 413), (262, 0, 9, 0, 0, 264), (299, 0, 2, 2, 0, 463), (320, 0, 8, 1, 0, 561), (327, 0, 4, 0, 0, 601), (330, 0, 4, 1, 0, 603), (362, 0, 0, 6, 0, 515), (365, 0, 0, 7, 0, 517), (368, 0, 0, 8, 0, 519), (371, 0, 0, 9, 0, 521), (380, 0, 6, 0, 0, 480), (389, 0, 3, 1, 7, 625), (390, 0, 3, 2, 7, 627), (391, 0, 3, 3, 7, 629), (392, 0, 3, 0, 1, 623), (1, 2, 0, 0, 0, 143), (15, 1, 58, 2, 0, 148), (34, 1, 87, 2, 0, 380), (43, 1, 70, 2, 0, 399), (55, 1, 52, 2, 0, 453), (78, 1, 48, 2, 0, 504), (109, 1, 36, 0, 0, 695), (113, 1, 62, 0, 0, 711), (117, 1, 33, 0, 0, 707), (120, 1, 88, 0, 0, 726), (131, 1, 85, 0, 0, 822), (134, 1, 71, 0, 0, 829), (137, 1, 66, 0, 0, 833), (140, 1, 53, 0, 0, 837), (153, 1, 23, 0, 0, 905), (191, 1, 20, 0, 0, 849), (200, 1, 22, 0, 0, 857), (215, 1, 19, 0, 0, 1187), (243, 1, 86, 0, 0, 882), (249, 1, 75, 0, 0, 886), (252, 1, 77, 0, 0, 890), (255, 1, 41, 1, 0, 894), (269, 1, 55, 0, 0, 917), (288, 1, 76, 0, 0, 966), (292, 1, 79, 0, 0, 970), (295, 1, 54, 0, 0, 993), (302, 1, 18, 1, 0, 1001), (305, 1, 80, 0, 0, 1004), (308, 1, 152, 1, 0, 1013), (313, 1, 82, 0, 0, 1023), (333, 1, 72, 0, 0, 1129), (335, 1, 78, 0, 0, 1130), (347, 1, 16, 1, 0, 1159), (350, 1, 73, 0, 0, 1166), (356, 1, 50, 0, 0, 1226), (358, 1, 49, 0, 0, 1245), (374, 1, 67, 0, 0, 1282), (377, 1, 65, 0, 0, 1314), (386, 1, 21, 1, 0, 1356), (24, 1, 83, 3, 0, 256), (68, 1, 64, 3, 0, 475), (85, 1, 51, 3, 0, 545), (92, 1, 81, 3, 0, 555), (99, 1, 57, 3, 0, 596), (104, 1, 56, 3, 0, 613), (13, 6, 5, 0, 0, 146), (22, 6, 9, 0, 0, 254), (32, 6, 10, 0, 0, 378), (41, 6, 7, 0, 0, 397), (53, 6, 2, 0, 0, 451), (60, 6, 3, 0, 0, 471), (66, 6, 6, 0, 0, 473), (76, 6, 0, 0, 0, 502), (83, 6, 1, 0, 0, 543), (90, 6, 8, 0, 0, 553), (97, 6, 4, 0, 0, 594)],
  [(1, 0, 12, 0, 0, 1496), (7, 0, 12, 2, 0, 1498), (14, 0, 12, 1, 7, 1497), (18, 0, 12, 3, 0, 1499), (21, 0, 12, 4, 0, 1500), (24, 0, 12, 5, 0, 1501), (33, 0, 12, 6, 7, 1502), (37, 0, 12, 7, 7, 1503), (40, 0, 12, 8, 7, 1504), (43, 0, 12, 9, 7, 1505), (47, 0, 12, 10, 7, 1506), (50, 0, 12, 21, 7, 1517), (53, 0, 12, 22, 7, 1518), (56, 0, 12, 24, 7, 1520), (59, 0, 12, 25, 7, 1521), (62, 0, 12, 26, 0, 1522), (65, 0, 12, 27, 0, 1523), (68, 0, 12, 31, 7, 1527), (71, 0, 12, 32, 7, 1528), (74, 0, 12, 33, 7, 1529), (77, 0, 12, 36, 7, 1532), (80, 0, 12, 38, 7, 1534), (83, 0, 12, 44, 7, 1540), (87, 0, 12, 45, 7, 1541), (90, 0, 12, 46, 7, 1542), (93, 0, 12, 47, 7, 1543), (144, 0, 12, 12, 0, 1508), (147, 0, 12, 13, 0, 1509), (150, 0, 12, 11, 0, 1507), (160, 0, 12, 14, 0, 1510), (163, 0, 12, 17, 2, 1513), (167, 0, 12, 15, 0, 1511), (170, 0, 12, 16, 0, 1512), (186, 0, 12, 18, 0, 1514), (204, 0, 12, 20, 0, 1516), (235, 0, 12, 19, 0, 1515), (244, 0, 12, 23, 0, 1519), (353, 0, 12, 30, 1, 1526), (357, 0, 12, 28, 0, 1524), (360, 0, 12, 29, 0, 1525), (381, 0, 12, 34, 0, 1530), (394, 0, 12, 35, 0, 1531), (404, 0, 12, 37, 1, 1533), (407, 0, 12, 39, 0, 1535), (410, 0, 12, 41, 0, 1537), (417, 0, 12, 42, 0, 1538), (423, 0, 12, 40, 0, 1536), (426, 0, 12, 43, 1, 1539), (10, 1, 107, 0, 0, 1460), (27, 2, 0, 0, 0, 1473), (140, 1, 136, 0, 0, 1654), (173, 1, 118, 0, 0, 1710), (176, 1, 94, 0, 0, 1679), (179, 1, 129, 0, 0, 1650), (182, 1, 115, 1, 0, 1691), (210, 1, 120, 0, 0, 1668), (232, 1, 145, 0, 0, 1646), (257, 1, 117, 0, 0, 1738), (260, 1, 161, 0, 0, 1742), (267, 1, 114, 0, 0, 1766), (273, 1, 116, 0, 0, 1774), (279, 1, 113, 0, 0, 1790), (285, 1, 119, 0, 0, 1802), (288, 1, 109, 0, 0, 1806), (291, 1, 142, 0, 0, 1810), (300, 1, 110, 0, 0, 1853), (306, 1, 121, 0, 0, 1822), (313, 1, 108, 0, 0, 1849), (316, 1, 133, 0, 0, 1868), (319, 1, 95, 1, 0, 1876), (363, 1, 147, 0, 0, 1947), (366, 1, 93, 0, 0, 1951), (375, 1, 151, 0, 0, 1979), (420, 1, 125, 0, 0, 2056), (437, 1, 134, 0, 0, 2052), (96, 9, 1936744814, 0, 0, 1474), (98, 9, 131294708393330, 0, 0, 1475), (100, 9, 123581014175598, 0, 0, 1476), (102, 9, 1718579044, 0, 0, 1477), (104, 9, 30792258880630375, 0, 0, 1478), (106, 9, 1684365940, 0, 0, 1479), (108, 9, 1700885619, 0, 0, 1480), (110, 9, 1634298995, 0, 0, 1481), (112, 9, 469853168755, 0, 0, 1482), (114, 9, 1835361652, 0, 0, 1483), (116, 9, 1752135026, 0, 0, 1484), (118, 9, 28530, 0, 0, 1485), (120, 9, 6385252, 0, 0, 1486), (122, 9, 7237492, 0, 0, 1487), (124, 9, 6909036, 0, 0, 1488), (126, 9, 1870095731, 0, 0, 1489), (128, 9, 1818848101, 0, 0, 1490), (130, 9, 26990, 0, 0, 1491), (132, 9, 1684108389, 0, 0, 1492), (134, 9, 114853572732274, 0, 0, 1493), (136, 9, 1668245870, 0, 0, 1494), (138, 9, 121450625394034, 0, 0, 1495), (331, 8, 2148483648, 0, 0, 1883), (384, 8, 3250998893, 0, 0, 2011)],
  [],
  [(265, 8, 3579139413, 0, 0, 1016), (266, 8, 3006477107, 0, 0, 1017), (267, 8, 2400128783, 0, 0, 1018)],
  [(9, 11, 0, 0, 0, 2101), (15, 12, 0, 0, 0, 2102), (38, 13, 0, 0, 0, 161), (1053, 14, 0, 0, 0, 177), (335, 1, 155, 0, 0, 157), (492, 1, 156, 0, 0, 167), (495, 1, 158, 1, 0, 171), (1059, 1, 159, 1, 0, 179)],
  [(9, 1, 157, 1, 0, 174)],
  []]
def ia_Cp : List (Nat × Nat × List Nat) := [
  (503, 125, [522, 524, 526, 528, 530, 532, 534, 536, 538, 540]),
  (544, 126, [550]),
  (452, 123, [464, 466, 468]),
  (612, 129, [630, 632, 634, 636]),
  (595, 128, [605, 607, 609]),
  (147, 115, [224, 226, 228, 230, 232, 234, 236, 238, 240, 242, 244, 246, 248]),
  (474, 124, [487, 489, 491, 493, 495, 497, 499]),
  (398, 122, [430, 432, 434, 436, 438, 440, 442, 444, 446, 448]),
  (554, 127, [571, 573, 575, 577, 579, 581, 583, 585, 587, 589, 591]),
  (255, 120, [337, 339, 341, 343, 345, 347, 349, 351, 353, 355, 357, 359, 361, 363, 365, 367, 369, 371, 373, 375]),
  (379, 121, [388, 390, 392, 394]),
  (139, 114, [656, 658, 660, 662, 664, 666, 668, 670, 672, 674, 676, 678, 680, 682, 684, 686, 688]),
  (1463, 130, [1544, 1546, 1548, 1550, 1552, 1554, 1556, 1558, 1560, 1562, 1564, 1566, 1568, 1570, 1572, 1574, 1576, 1578, 1580, 1582, 1584, 1586, 1588, 1590, 1592, 1594, 1596, 1598, 1600, 1602, 1604, 1606, 1608, 1610, 1612, 1614, 1616, 1618, 1620, 1622, 1624, 1626, 1628, 1630, 1632, 1634, 1636, 1638])]
def ia_Np : List Nat := [256, 475, 545, 555, 596, 613, 618, 622]
def ia_ow : List String := [RX0, RX1, RX2, RX3, RX4, RX5, RX6, RX7, RX8, RX9, RX10, RX11, RX12, "java/lang/Math", "java/lang/Integer", "java/lang/String", "java/lang/StringLatin1", "jdk/internal/util/Preconditions", "HungerDaysLaw"]
end
section
/-! ## tables -/
noncomputable def ia_mt (k : Nat) : Nat × Nat × Nat × Nat × Nat × Nat × Nat × Nat := (ia_at ia_Mt k).getD (0, 0, 0, 0, 99, 0, 0, 0)
noncomputable def ia_w (p : Nat) : Cond := (ia_at lw_tbl p).getD .returned
noncomputable def ia_cw (k : Nat) : Cond := ia_w (ia_mt k).1
noncomputable def ia_nm (k : Nat) : MethodName := match ia_cw k with
  | .code y _ _ _ => y
  | _ => ⟨"", "", ""⟩
noncomputable def ia_code (k : Nat) : ByteArray := match ia_cw k with
  | .code _ cc _ _ => cc
  | _ => ⟨#[]⟩
noncomputable def ia_maxL (k : Nat) : Nat := match ia_cw k with
  | .code _ _ n _ => n
  | _ => 0
noncomputable def ia_ret (k : Nat) : Option FieldType := match ia_cw k with
  | .code _ _ _ r => r
  | _ => none
noncomputable def ia_cls (k : Nat) : Nat := (ia_mt k).2.2.2.2.1
noncomputable def ia_mc (k : Nat) : Nat := (ia_mt k).2.2.2.2.2.1
noncomputable def ia_ms (k : Nat) : Nat := (ia_mt k).2.2.2.2.2.2.1
noncomputable def ia_na (k : Nat) : Nat := (ia_mt k).2.2.2.2.2.2.2
noncomputable def ia_lk (l : List (Nat × Nat × Nat × Nat × Nat × Nat)) (i : Nat) : Option (Nat × Nat × Nat × Nat × Nat) := List.rec (motive := fun _ => Option (Nat × Nat × Nat × Nat × Nat)) none (fun a _ ih => match Nat.beq a.1 i with
  | true => some a.2
  | false => ih) l
noncomputable def ia_pl (c i : Nat) : Option (Nat × Nat × Nat × Nat × Nat) := ia_lk ((ia_at ia_Po c).getD []) i
/-- a new object's fields -/
noncomputable def ia_fz (ty : FieldType) : ia_V := match ty with
  | .long => .inr (.inl 0)
  | .object _ => .inr (.inr (.inl none))
  | .array _ => .inr (.inr (.inl none))
  | _ => .inl (2147483648, 2147483648)
noncomputable def ia_chars : List Nat := [2147483763, 2147483760, 2147483745, 2147483758, 2147483680, 2147483767, 2147483753, 2147483758, 2147483764, 2147483749, 2147483762, 2147483680, 2147483760, 2147483749, 2147483762, 2147483763, 2147483759, 2147483758, 2147483680, 2147483750, 2147483759, 2147483759, 2147483748, 2147483680, 2147483757, 2147483749, 2147483749, 2147483764, 2147483753, 2147483758, 2147483751, 2147483680, 2147483748, 2147483749, 2147483746, 2147483764, 2147483680, 2147483749, 2147483745, 2147483764, 2147483763, 2147483680, 2147483745, 2147483753, 2147483756, 2147483763, 2147483680, 2147483757, 2147483749, 2147483758, 2147483748, 2147483763, 2147483680, 2147483757, 2147483749, 2147483749, 2147483764, 2147483680, 2147483752, 2147483759, 2147483765, 2147483762, 2147483680, 2147483759, 2147483762, 2147483680, 2147483745, 2147483758, 2147483748, 2147483680, 2147483758, 2147483759, 2147483764, 2147483680, 2147483753, 2147483756, 2147483756, 2147483680, 2147483759, 2147483767, 2147483749, 2147483763, 2147483680, 2147483756, 2147483753, 2147483755, 2147483749, 2147483680, 2147483753, 2147483758, 2147483680, 2147483748, 2147483745, 2147483764, 2147483749, 2147483680, 2147483752, 2147483765, 2147483758, 2147483751, 2147483749, 2147483762, 2147483680, 2147483747, 2147483759, 2147483753, 2147483758, 2147483680, 2147483758, 2147483765, 2147483757, 2147483746, 2147483749, 2147483762, 2147483680]
/-! ## steps -/
noncomputable def ia_if {α : Type} (b : Bool) (x : Option α) : Option α := match b with
  | true => x
  | false => none
noncomputable def ia_nx (ih : ia_K) (pc : Nat) (lv : List (Option ia_V)) (st : List ia_V) (σ : ia_H) (n nc ns : Nat) : Option ia_O := ia_frc pc (fun pc => ih pc lv st σ n nc ns)
noncomputable def ia_pi (ih : ia_K) (r pc : Nat) (lv : List (Option ia_V)) (st : List ia_V) (σ : ia_H) (n nc ns : Nat) : Option ia_O := ia_frc r (fun r => ia_nx ih pc lv (.inl (r, r) :: st) σ n nc ns)
noncomputable def ia_bin (f : Nat → Nat → Nat) (ih : ia_K) (pc : Nat) (lv : List (Option ia_V)) (st : List ia_V) (σ : ia_H) (n nc ns : Nat) : Option ia_O := match st with
  | .inl b :: .inl a :: t => (match Nat.beq a.1 a.2 with
    | true => (match Nat.beq b.1 b.2 with
      | true => ia_pi ih (f a.1 b.1) (Nat.add pc 1) lv t σ n nc ns
      | false => ia_nx ih (Nat.add pc 1) lv (.inl ia_top :: t) σ n nc ns)
    | false => ia_nx ih (Nat.add pc 1) lv (.inl ia_top :: t) σ n nc ns)
  | _ => none
noncomputable def ia_un (f : Nat → Nat) (ih : ia_K) (pc : Nat) (lv : List (Option ia_V)) (st : List ia_V) (σ : ia_H) (n nc ns : Nat) : Option ia_O := match st with
  | .inl a :: t => (match Nat.beq a.1 a.2 with
    | true => ia_pi ih (f a.1) (Nat.add pc 1) lv t σ n nc ns
    | false => ia_nx ih (Nat.add pc 1) lv (.inl ia_top :: t) σ n nc ns)
  | _ => none
noncomputable def ia_op (op : Int32 → Int32 → Int32) (a b : Nat) : Nat := ia_E (op (ia_D a) (ia_D b))
/-- kinds: 0 int, 1 long, 2 a reference -/
noncomputable def ia_kd (kd : Nat) (v : ia_V) : Bool := match v with
  | .inl _ => Nat.beq kd 0
  | .inr (.inl _) => Nat.beq kd 1
  | .inr (.inr (.inl none)) => false
  | .inr (.inr (.inl (some _))) => Nat.beq kd 2
  | .inr (.inr (.inr z)) => Nat.beq kd 2 && Nat.blt z 2
noncomputable def ia_ld (kd i len : Nat) (ih : ia_K) (pc : Nat) (lv : List (Option ia_V)) (st : List ia_V) (σ : ia_H) (n nc ns : Nat) : Option ia_O := match ia_at lv i with
  | some (some v) => ia_if (ia_kd kd v) (ia_nx ih (Nat.add pc len) lv (v :: st) σ n nc ns)
  | _ => none
/-- no long ends at this local -/
noncomputable def ia_nl (lv : List (Option ia_V)) (i : Nat) : Bool := Nat.rec (motive := fun _ => Bool) true (fun m _ => match ia_at lv m with
  | some (some (.inr (.inl _))) => false
  | _ => true) i
noncomputable def ia_sto (kd i len : Nat) (ih : ia_K) (pc : Nat) (lv : List (Option ia_V)) (st : List ia_V) (σ : ia_H) (n nc ns : Nat) : Option ia_O := match st with
  | v :: t => ia_if (ia_kd kd v && ia_nl lv i) (ia_setK lv i (some v) (fun lv => ia_nx ih (Nat.add pc len) lv t σ n nc ns))
  | [] => none
noncomputable def ia_stl (i len : Nat) (ih : ia_K) (pc : Nat) (lv : List (Option ia_V)) (st : List ia_V) (σ : ia_H) (n nc ns : Nat) : Option ia_O := match st with
  | .inr (.inl v) :: t => ia_if (ia_nl lv i) (ia_setK lv i (some (.inr (.inl v))) (fun lv => ia_setK lv (Nat.succ i) none (fun lv => ia_nx ih (Nat.add pc len) lv t σ n nc ns)))
  | _ => none
noncomputable def ia_ltb (a b : Nat × Nat) : Option Bool := match Nat.blt a.2 b.1 with
  | true => some true
  | false => (match Nat.ble b.2 a.1 with
    | true => some false
    | false => none)
noncomputable def ia_eqb (a b : Nat × Nat) : Option Bool := match Nat.blt a.2 b.1 with
  | true => some false
  | false => (match Nat.blt b.2 a.1 with
    | true => some false
    | false => (match Nat.beq a.1 a.2 with
      | true => (match Nat.beq b.1 b.2 with
        | true => (match Nat.beq a.1 b.1 with
          | true => some true
          | false => none)
        | false => none)
      | false => none))
noncomputable def ia_not (x : Option Bool) : Option Bool := match x with
  | some true => some false
  | some false => some true
  | none => none
noncomputable def ia_cmp (c : ClassFile.Cond) (a b : Nat × Nat) : Option Bool := match c with
  | .eq => ia_eqb a b
  | .ne => ia_not (ia_eqb a b)
  | .lt => ia_ltb a b
  | .ge => ia_not (ia_ltb a b)
  | .gt => ia_ltb b a
  | .le => ia_not (ia_ltb b a)
noncomputable def ia_jmp (o : Int) (ih : ia_K) (pc : Nat) (lv : List (Option ia_V)) (st : List ia_V) (σ : ia_H) (n nc ns : Nat) : Option ia_O := match Int.add (Int.ofNat pc) o with
  | .ofNat t => ia_nx ih t lv st σ n nc ns
  | .negSucc _ => none
noncomputable def ia_br (r : Option Bool) (o : Int) (ih : ia_K) (pc : Nat) (lv : List (Option ia_V)) (st : List ia_V) (σ : ia_H) (n nc ns : Nat) : Option ia_O := match Int.add (Int.ofNat pc) o with
  | .ofNat t => (match r with
    | some true => ia_nx ih t lv st σ n nc ns
    | some false => ia_nx ih (Nat.add pc 3) lv st σ n nc ns
    | none => none)
  | .negSucc _ => none
noncomputable def ia_sw (d lo hi : Int) (os : Array Int) (ih : ia_K) (pc : Nat) (lv : List (Option ia_V)) (st : List ia_V) (σ : ia_H) (n nc ns : Nat) : Option ia_O := match st with
  | .inl a :: t => (match decide (Int.ofNat a.2 - 2147483648 < lo) || decide (hi < Int.ofNat a.1 - 2147483648) with
    | true => ia_jmp d ih pc lv t σ n nc ns
    | false => (match Nat.beq a.1 a.2 with
      | true => (match ia_at os.toList (Int.ofNat a.1 - 2147483648 - lo).toNat with
        | some o => ia_jmp o ih pc lv t σ n nc ns
        | none => none)
      | false => none))
  | _ => none
noncomputable def ia_gf (y i : Nat) (ih : ia_K) (pc : Nat) (lv : List (Option ia_V)) (st : List ia_V) (σ : ia_H) (n nc ns : Nat) : Option ia_O := match st with
  | .inr (.inr (.inl (some k))) :: t => (match ia_pl (ia_cls y) i with
    | some (0, ci, sl, _, _) => (match ia_get2 σ k with
      | some c => ia_if (Nat.beq c.1 ci) (match ia_get2 c.2.2 sl with
        | some v => ia_nx ih (Nat.add pc 3) lv (v :: t) σ n nc ns
        | none => none)
      | none => none)
    | _ => none)
  | .inr (.inr (.inr 0)) :: t => (match ia_pl (ia_cls y) i with
    | some (11, _, _, _, _) => ia_nx ih (Nat.add pc 3) lv (.inr (.inr (.inr 1)) :: t) σ n nc ns
    | some (12, _, _, _, _) => ia_nx ih (Nat.add pc 3) lv (.inl (2147483648, 2147483648) :: t) σ n nc ns
    | _ => none)
  | _ => none
noncomputable def ia_gs (y i : Nat) (ih : ia_K) (pc : Nat) (lv : List (Option ia_V)) (st : List ia_V) (σ : ia_H) (n nc ns : Nat) : Option ia_O := match ia_pl (ia_cls y) i with
  | some (13, _, _, _, _) => ia_nx ih (Nat.add pc 3) lv (.inl (2147483649, 2147483649) :: st) σ n nc ns
  | some (14, _, _, _, _) => ia_nx ih (Nat.add pc 3) lv (.inr (.inr (.inr 2)) :: st) σ n nc ns
  | _ => none
/-- what may be put: kinds 0 int, 1 boolean, 2 long, 3 reference; four more: final, in the class's own constructor -/
noncomputable def ia_fit (y ci kd : Nat) (v : ia_V) : Bool := match kd, v with
  | 0, .inl _ => true
  | 1, .inl a => Nat.beq a.1 a.2 && (Nat.beq a.1 2147483648 || Nat.beq a.1 2147483649)
  | 2, .inr (.inl _) => true
  | 3, .inr (.inr _) => true
  | 7, .inr (.inr _) => Nat.beq (ia_cls y) ci && decide ((ia_nm y).name = "<init>")
  | _, _ => false
noncomputable def ia_pf (y i : Nat) (ih : ia_K) (pc : Nat) (lv : List (Option ia_V)) (st : List ia_V) (σ : ia_H) (n nc ns : Nat) : Option ia_O := match st with
  | v :: .inr (.inr (.inl (some k))) :: t => (match ia_pl (ia_cls y) i with
    | some (0, ci, sl, kd, _) => (match ia_get2 σ k with
      | some c => ia_if (Nat.beq c.1 ci && (ia_fit y ci kd v && (ia_get2 c.2.2 sl).isSome)) (ia_set2K c.2.2 sl v (fun fs => ia_set2K σ k (c.1, c.2.1, fs) (fun σ => ia_nx ih (Nat.add pc 3) lv t σ n nc ns)))
      | none => none)
    | _ => none)
  | _ => none
/-- an array's cell and the place in it, of a kind -/
noncomputable def ia_ix {α : Type} (tg : Nat) (σ : ia_H) (k : Nat) (a : Nat × Nat) (f : ia_C → Nat → Option α) : Option α := match ia_get2 σ k with
  | some c => ia_if (Nat.beq c.1 tg && (Nat.beq a.1 a.2 && (Nat.ble 2147483648 a.1 && Nat.blt (Nat.sub a.1 2147483648) c.2.1))) (ia_frc (Nat.sub a.1 2147483648) (fun j => f c j))
  | none => none
noncomputable def ia_al (tg : Nat) (ih : ia_K) (pc : Nat) (lv : List (Option ia_V)) (st : List ia_V) (σ : ia_H) (n nc ns : Nat) : Option ia_O := match st with
  | .inl a :: .inr (.inr (.inl (some k))) :: t => ia_ix tg σ k a (fun c j => match ia_get2 c.2.2 j with
    | some v => ia_nx ih (Nat.add pc 1) lv (v :: t) σ n nc ns
    | none => none)
  | _ => none
/-- a byte of the String -/
noncomputable def ia_alb (ih : ia_K) (pc : Nat) (lv : List (Option ia_V)) (st : List ia_V) (σ : ia_H) (n nc ns : Nat) : Option ia_O := match st with
  | .inl a :: .inr (.inr (.inr 1)) :: t => ia_if (Nat.beq a.1 a.2 && Nat.ble 2147483648 a.1) (match ia_at ia_chars (Nat.sub a.1 2147483648) with
    | some r => ia_nx ih (Nat.add pc 1) lv (.inl (r, r) :: t) σ n nc ns
    | none => none)
  | _ => ia_al 53 ih pc lv st σ n nc ns
/-- what a small array keeps of an int -/
noncomputable def ia_nr (ty : FieldType) (a : Nat × Nat) : Nat × Nat := match Nat.beq a.1 a.2 with
  | true => ia_frc (ia_E (vp_nar ty (ia_D a.1))) (fun r => (r, r))
  | false => ia_top
noncomputable def ia_as (tg : Nat) (g : ia_V → Option ia_V) (ih : ia_K) (pc : Nat) (lv : List (Option ia_V)) (st : List ia_V) (σ : ia_H) (n nc ns : Nat) : Option ia_O := match st with
  | v :: .inl a :: .inr (.inr (.inl (some k))) :: t => (match g v with
    | some v => ia_ix tg σ k a (fun c j => ia_set2K c.2.2 j v (fun fs => ia_set2K σ k (c.1, c.2.1, fs) (fun σ => ia_nx ih (Nat.add pc 1) lv t σ n nc ns)))
    | none => none)
  | _ => none
noncomputable def ia_gi (v : ia_V) : Option ia_V := match v with
  | .inl a => some (.inl a)
  | _ => none
noncomputable def ia_gl (v : ia_V) : Option ia_V := match v with
  | .inr (.inl a) => some (.inr (.inl a))
  | _ => none
noncomputable def ia_gn (ty : FieldType) (v : ia_V) : Option ia_V := match v with
  | .inl a => some (.inl (ia_nr ty a))
  | _ => none
/-- a reference to an object of the class -/
noncomputable def ia_gr (σ : ia_H) (ci : Nat) (v : ia_V) : Option ia_V := match v with
  | .inr (.inr (.inl (some k))) => (match ia_get2 σ k with
    | some c => ia_if (Nat.beq c.1 ci) (some (.inr (.inr (.inl (some k)))))
    | none => none)
  | _ => none
noncomputable def ia_len (ih : ia_K) (pc : Nat) (lv : List (Option ia_V)) (st : List ia_V) (σ : ia_H) (n nc ns : Nat) : Option ia_O := match st with
  | .inr (.inr (.inl (some k))) :: t => (match ia_get2 σ k with
    | some c => ia_if (Nat.ble 50 c.1 && (Nat.ble c.1 55 && Nat.blt c.2.1 2147483648)) (ia_pi ih (Nat.add c.2.1 2147483648) (Nat.add pc 1) lv t σ n nc ns)
    | none => none)
  | .inr (.inr (.inr 1)) :: t => ia_nx ih (Nat.add pc 1) lv (.inl (2147483763, 2147483763) :: t) σ n nc ns
  | _ => none
/-- a new cell, of so many slots -/
noncomputable def ia_mk (y : Nat) (c : ia_C) (len : Nat) (ih : ia_K) (pc : Nat) (lv : List (Option ia_V)) (st : List ia_V) (σ : ia_H) (n nc ns : Nat) : Option ia_O := ia_if (Nat.ble (Nat.succ nc) (ia_mc y) && Nat.ble (Nat.add ns c.2.1) (ia_ms y)) (ia_set2K σ n c (fun σ => ia_frc (Nat.add ns c.2.1) (fun ns => ia_nx ih (Nat.add pc len) lv (.inr (.inr (.inl (some n))) :: st) σ (Nat.succ n) (Nat.succ nc) ns)))
noncomputable def ia_rows (k : Nat) (z : ia_V) : List (List ia_V) := List.replicate (Nat.div (Nat.add k 15) 16) (List.replicate 16 z)
noncomputable def ia_na1 (y tg len : Nat) (z : ia_V) (ih : ia_K) (pc : Nat) (lv : List (Option ia_V)) (st : List ia_V) (σ : ia_H) (n nc ns : Nat) : Option ia_O := match st with
  | .inl a :: t => ia_if (Nat.beq a.1 a.2 && (Nat.ble 2147483648 a.1 && Nat.ble a.1 2147493648)) (ia_frc (Nat.sub a.1 2147483648) (fun k => ia_mk y (tg, k, ia_rows k z) len ih pc lv t σ n nc ns))
  | _ => none
noncomputable def ia_z : ia_V := .inl (2147483648, 2147483648)
noncomputable def ia_nu : ia_V := .inr (.inr (.inl none))
/-- the fields of a new object, class by class -/
noncomputable def ia_Fs : List (Nat × List (List ia_V)) := [
  (10, [[ia_nu, ia_nu, ia_z, ia_nu, ia_nu, ia_nu, ia_z, ia_z, ia_z, ia_z]]),
  (1, [[ia_z]]),
  (3, [[ia_nu, ia_z, ia_z]]),
  (4, [[ia_z, ia_nu, ia_nu, ia_nu]]),
  (3, [[ia_z, ia_z, ia_nu]]),
  (13, [[ia_nu, ia_nu, ia_z, ia_z, ia_z, ia_z, ia_z, .inr (.inl 0), ia_z, ia_z, ia_z, ia_z, ia_z]]),
  (7, [[ia_z, ia_z, ia_nu, ia_nu, ia_nu, ia_nu, ia_z]]),
  (10, [[ia_nu, ia_z, ia_z, ia_z, ia_nu, ia_nu, ia_nu, ia_nu, ia_nu, ia_nu]]),
  (11, [[ia_z, ia_z, ia_nu, ia_z, ia_nu, ia_nu, ia_nu, ia_nu, ia_z, ia_nu, ia_z]]),
  (20, [[ia_z, ia_z, ia_z, ia_z, ia_z, ia_z, ia_z, ia_nu, ia_nu, ia_nu, ia_nu, ia_nu, ia_nu, ia_nu, ia_nu, ia_nu], [ia_nu, ia_nu, ia_nu, ia_nu]]),
  (4, [[ia_nu, ia_nu, ia_z, ia_z]]),
  (17, [[ia_nu, ia_z, ia_nu, ia_z, ia_nu, ia_nu, ia_nu, ia_nu, ia_nu, ia_nu, ia_nu, ia_nu, ia_nu, ia_nu, ia_nu, ia_nu], [ia_nu]]),
  (48, [[ia_z, ia_nu, ia_z, ia_z, ia_z, ia_z, ia_nu, ia_nu, ia_nu, ia_nu, ia_nu, ia_z, ia_z, ia_z, ia_z, ia_z], [ia_z, .inr (.inl 0), ia_z, ia_z, ia_z, ia_nu, ia_nu, ia_z, ia_nu, ia_nu, ia_z, ia_z, ia_z, ia_z, ia_z, ia_nu], [ia_nu, ia_nu, ia_z, ia_z, ia_nu, ia_z, ia_nu, ia_z, ia_z, ia_z, ia_z, ia_z, ia_nu, ia_nu, ia_nu, ia_nu]])]
noncomputable def ia_no (y i : Nat) (ih : ia_K) (pc : Nat) (lv : List (Option ia_V)) (st : List ia_V) (σ : ia_H) (n nc ns : Nat) : Option ia_O := match ia_pl (ia_cls y) i with
  | some (6, ci, _, _, _) => (match ia_at ia_Fs ci with
    | some q => ia_mk y (ci, q.1, q.2) 3 ih pc lv st σ n nc ns
    | none => none)
  | _ => none
noncomputable def ia_nr1 (y i : Nat) (ih : ia_K) (pc : Nat) (lv : List (Option ia_V)) (st : List ia_V) (σ : ia_H) (n nc ns : Nat) : Option ia_O := match ia_pl (ia_cls y) i with
  | some (6, 3, _, _, _) => ia_na1 y 54 3 ia_nu ih pc lv st σ n nc ns
  | some (6, 7, _, _, _) => ia_na1 y 55 3 ia_nu ih pc lv st σ n nc ns
  | _ => none
noncomputable def ia_new (y : Nat) (t : ClassFile.ArrayType) (ih : ia_K) (pc : Nat) (lv : List (Option ia_V)) (st : List ia_V) (σ : ia_H) (n nc ns : Nat) : Option ia_O := match t with
  | .int => ia_na1 y 50 2 ia_z ih pc lv st σ n nc ns
  | .long => ia_na1 y 51 2 (.inr (.inl 0)) ih pc lv st σ n nc ns
  | .byte => ia_na1 y 52 2 ia_z ih pc lv st σ n nc ns
  | .boolean => ia_na1 y 53 2 ia_z ih pc lv st σ n nc ns
  | _ => none
noncomputable def ia_cst (y i len : Nat) (ih : ia_K) (pc : Nat) (lv : List (Option ia_V)) (st : List ia_V) (σ : ia_H) (n nc ns : Nat) : Option ia_O := match ia_pl (ia_cls y) i with
  | some (8, v, _, _, _) => ia_nx ih (Nat.add pc len) lv (.inl (v, v) :: st) σ n nc ns
  | some (10, _, _, _, _) => ia_if (Nat.beq len 2) (ia_nx ih (Nat.add pc len) lv (.inr (.inr (.inr 0)) :: st) σ n nc ns)
  | _ => none
noncomputable def ia_csl (y i : Nat) (ih : ia_K) (pc : Nat) (lv : List (Option ia_V)) (st : List ia_V) (σ : ia_H) (n nc ns : Nat) : Option ia_O := match ia_pl (ia_cls y) i with
  | some (9, v, _, _, _) => ia_nx ih (Nat.add pc 3) lv (.inr (.inl v) :: st) σ n nc ns
  | _ => none
/-! ## calls -/
noncomputable def ia_cat (v : ia_V) : Nat := match v with
  | .inr (.inl _) => 2
  | _ => 1
noncomputable def ia_sz (st : List ia_V) : Nat := List.rec (motive := fun _ => Nat) 0 (fun a _ ih => Nat.add (ia_cat a) ih) st
noncomputable def ia_take {α : Type} (k : Nat) : List ia_V → List ia_V → (List ia_V → List ia_V → Option α) → Option α := Nat.rec (motive := fun _ => List ia_V → List ia_V → (List ia_V → List ia_V → Option α) → Option α) (fun acc st f => f acc st) (fun _ ih acc st f => match st with
  | a :: t => ih (a :: acc) t f
  | [] => none) k
noncomputable def ia_ent (as : List ia_V) : List (Option ia_V) := List.rec (motive := fun _ => List (Option ia_V)) [] (fun a _ ih => match a with
  | .inr (.inl _) => some a :: none :: ih
  | _ => some a :: ih) as
noncomputable def ia_pad (k : Nat) (l : List (Option ia_V)) : List (Option ia_V) := List.rec (motive := fun _ => Nat → List (Option ia_V)) (fun k => List.replicate k none) (fun a _ ih k => a :: ih (Nat.pred k)) l k
noncomputable def ia_back (r : Option ia_V) (t : List ia_V) : List ia_V := match r with
  | some v => v :: t
  | none => t
noncomputable def ia_rcv (y2 : Nat) (σ : ia_H) (as : List ia_V) : Bool := match as with
  | .inr (.inr (.inl (some k))) :: _ => (match ia_get2 σ k with
    | some c => Nat.beq c.1 (ia_cls y2) && Nat.blt c.1 13
    | none => false)
  | .inr (.inr (.inr 0)) :: _ => Nat.beq (ia_cls y2) 15
  | _ => false
/-- kinds of calls: 0 invokevirtual, 1 invokestatic, 2 a constructor, 3 a nest mate's constructor -/
noncomputable def ia_inv (call : Nat → List ia_V → ia_H → Nat → Option ia_O) (y kd i : Nat) (ih : ia_K) (pc : Nat) (lv : List (Option ia_V)) (st : List ia_V) (σ : ia_H) (n nc ns : Nat) : Option ia_O := match ia_pl (ia_cls y) i with
  | some (1, y2, md, _, _) => ia_take (ia_na y2) [] st (fun as t => ia_if ((Nat.beq kd md || (Nat.beq kd 2 && Nat.beq md 3)) && (Nat.ble (ia_sz t) 8 && ((Nat.beq md 1 || ia_rcv y2 σ as) && (Nat.ble (Nat.add nc (ia_mc y2)) (ia_mc y) && Nat.ble (Nat.add ns (ia_ms y2)) (ia_ms y))))) (match call y2 as σ n with
    | some (r, σ', n') => ia_frc (Nat.add nc (ia_mc y2)) (fun nc => ia_frc (Nat.add ns (ia_ms y2)) (fun ns => ia_nx ih (Nat.add pc 3) lv (ia_back r t) σ' n' nc ns))
    | none => none))
  | some (2, _, _, _, _) => (match st with
    | .inr (.inr (.inl (some _))) :: t => ia_if (Nat.beq kd 2 && Nat.ble (ia_sz t) 8) (ia_nx ih (Nat.add pc 3) lv t σ n nc ns)
    | _ => none)
  | some (3, _, _, _, _) => (match st with
    | .inl k :: .inl dp :: .inr (.inr (.inl (some d))) :: .inl sp :: .inr (.inr (.inl (some s))) :: t => ia_if ((Nat.beq kd 1 && Nat.ble (ia_sz t) 8) && ((Nat.beq sp.1 2147483648 && Nat.beq sp.2 2147483648) && ((Nat.beq dp.1 2147483648 && Nat.beq dp.2 2147483648) && (Nat.beq k.1 k.2 && Nat.ble 2147483648 k.1)))) (match ia_get2 σ s with
      | some cs => (match ia_get2 σ d with
        | some cd => ia_if ((Nat.beq cs.1 cd.1 && (Nat.beq cs.1 50 || Nat.beq cs.1 51)) && (Nat.ble (Nat.sub k.1 2147483648) cs.2.1 && Nat.beq (Nat.sub k.1 2147483648) cd.2.1)) (ia_set2K σ d (cd.1, cd.2.1, cs.2.2) (fun σ => ia_nx ih (Nat.add pc 3) lv t σ n nc ns))
        | none => none)
      | none => none)
    | _ => none)
  | some (7, _, _, _, _) => (match st with
    | .inl b :: .inl a :: t => ia_if ((Nat.beq kd 1 && Nat.ble (ia_sz t) 8) && (Nat.beq a.1 a.2 && Nat.beq b.1 b.2)) (match Nat.blt b.1 a.1 with
      | true => ia_nx ih (Nat.add pc 3) lv (.inl b :: t) σ n nc ns
      | false => ia_nx ih (Nat.add pc 3) lv (.inl a :: t) σ n nc ns)
    | _ => none)
  | _ => none
/-- a number that a type keeps as it is -/
noncomputable def ia_nar (ty : FieldType) (u : Nat) : Bool := match ty with
  | .int => true
  | .boolean => Nat.beq u 2147483648 || Nat.beq u 2147483649
  | .char => Nat.ble 2147483648 u && Nat.blt u 2147549184
  | .byte => Nat.beq u 2147483648
  | _ => false
noncomputable def ia_rt (y : Nat) (st : List ia_V) (σ : ia_H) (n : Nat) : Option ia_O := match st with
  | [.inl a] => (match ia_ret y with
    | some ty => ia_if (Nat.beq a.1 a.2 && ia_nar ty a.1) (some (some (.inl a), σ, n))
    | none => none)
  | _ => none
noncomputable def ia_rv (y : Nat) (st : List ia_V) (σ : ia_H) (n : Nat) : Option ia_O := match st with
  | [] => (match ia_ret y with
    | none => some (none, σ, n)
    | some _ => none)
  | _ => none
/-! ## an instruction -/
/-- what an instruction does with the rest of the run -/
abbrev ia_T : Type := (Nat → List ia_V → ia_H → Nat → Option ia_O) → Nat → Nat → ia_K → ia_K
noncomputable def ia_d_none : ia_T := fun _ _ _ _ _ _ _ _ _ _ _ => none
noncomputable def ia_d_iconst (k : Int) : ia_T := fun call y len ih pc lv st σ n nc ns => ia_if (Nat.beq len 1) (ia_pi ih (ia_E (Int32.ofInt k)) (Nat.add pc 1) lv st σ n nc ns)
noncomputable def ia_d_bipush (k : Int) : ia_T := fun call y len ih pc lv st σ n nc ns => ia_if (Nat.beq len 2) (ia_pi ih (ia_E (Int8.ofInt k).toInt32) (Nat.add pc 2) lv st σ n nc ns)
noncomputable def ia_d_sipush (k : Int) : ia_T := fun call y len ih pc lv st σ n nc ns => ia_if (Nat.beq len 3) (ia_pi ih (ia_E (Int16.ofInt k).toInt32) (Nat.add pc 3) lv st σ n nc ns)
noncomputable def ia_d_lconst (k : Fin 2) : ia_T := fun call y len ih pc lv st σ n nc ns => ia_if (Nat.beq len 1) (ia_frc k.val (fun k => ia_nx ih (Nat.add pc 1) lv (.inr (.inl k) :: st) σ n nc ns))
noncomputable def ia_d_iload_n (k : Fin 4) : ia_T := fun call y len ih pc lv st σ n nc ns => ia_if (Nat.beq len 1) (ia_ld 0 k.val 1 ih pc lv st σ n nc ns)
noncomputable def ia_d_iload (k : Nat) : ia_T := fun call y len ih pc lv st σ n nc ns => ia_if (Nat.beq len 2) (ia_ld 0 k 2 ih pc lv st σ n nc ns)
noncomputable def ia_d_lload_n (k : Fin 4) : ia_T := fun call y len ih pc lv st σ n nc ns => ia_if (Nat.beq len 1) (ia_ld 1 k.val 1 ih pc lv st σ n nc ns)
noncomputable def ia_d_aload_n (k : Fin 4) : ia_T := fun call y len ih pc lv st σ n nc ns => ia_if (Nat.beq len 1) (ia_ld 2 k.val 1 ih pc lv st σ n nc ns)
noncomputable def ia_d_aload (k : Nat) : ia_T := fun call y len ih pc lv st σ n nc ns => ia_if (Nat.beq len 2) (ia_ld 2 k 2 ih pc lv st σ n nc ns)
noncomputable def ia_d_istore_n (k : Fin 4) : ia_T := fun call y len ih pc lv st σ n nc ns => ia_if (Nat.beq len 1 && Nat.blt k.val (ia_maxL y)) (ia_sto 0 k.val 1 ih pc lv st σ n nc ns)
noncomputable def ia_d_istore (k : Nat) : ia_T := fun call y len ih pc lv st σ n nc ns => ia_if (Nat.beq len 2 && Nat.blt k (ia_maxL y)) (ia_sto 0 k 2 ih pc lv st σ n nc ns)
noncomputable def ia_d_astore_n (k : Fin 4) : ia_T := fun call y len ih pc lv st σ n nc ns => ia_if (Nat.beq len 1 && Nat.blt k.val (ia_maxL y)) (ia_sto 2 k.val 1 ih pc lv st σ n nc ns)
noncomputable def ia_d_lstore_n (k : Fin 4) : ia_T := fun call y len ih pc lv st σ n nc ns => ia_if (Nat.beq len 1 && Nat.blt (Nat.succ k.val) (ia_maxL y)) (ia_stl k.val 1 ih pc lv st σ n nc ns)
noncomputable def ia_d_iinc (k : Nat) (d : Int) : ia_T := fun call y len ih pc lv st σ n nc ns => ia_if (Nat.beq len 3 && Nat.blt k (ia_maxL y)) (match ia_at lv k with
    | some (some (.inl a)) => ia_if (Nat.beq a.1 a.2) (ia_frc (Nat.mod (Nat.add (Nat.add a.1 (ia_E (Int32.ofInt d))) 2147483648) 4294967296) (fun r => ia_if (ia_nl lv k) (ia_setK lv k (some (.inl (r, r))) (fun lv => ia_nx ih (Nat.add pc 3) lv st σ n nc ns))))
    | _ => none)
noncomputable def ia_d_iadd : ia_T := fun call y len ih pc lv st σ n nc ns => ia_if (Nat.beq len 1) (ia_bin (fun a b => Nat.mod (Nat.add (Nat.add a b) 2147483648) 4294967296) ih pc lv st σ n nc ns)
noncomputable def ia_d_isub : ia_T := fun call y len ih pc lv st σ n nc ns => ia_if (Nat.beq len 1) (ia_bin (fun a b => Nat.mod (Nat.sub (Nat.add a 6442450944) b) 4294967296) ih pc lv st σ n nc ns)
noncomputable def ia_d_imul : ia_T := fun call y len ih pc lv st σ n nc ns => ia_if (Nat.beq len 1) (ia_bin (ia_op (fun x y => x * y)) ih pc lv st σ n nc ns)
noncomputable def ia_d_iand : ia_T := fun call y len ih pc lv st σ n nc ns => ia_if (Nat.beq len 1) (ia_bin (ia_op (fun x y => x &&& y)) ih pc lv st σ n nc ns)
noncomputable def ia_d_ishl : ia_T := fun call y len ih pc lv st σ n nc ns => ia_if (Nat.beq len 1) (ia_bin (ia_op (fun x y => x <<< (y &&& 31))) ih pc lv st σ n nc ns)
noncomputable def ia_d_ishr : ia_T := fun call y len ih pc lv st σ n nc ns => ia_if (Nat.beq len 1) (ia_bin (ia_op (fun x y => x >>> (y &&& 31))) ih pc lv st σ n nc ns)
noncomputable def ia_d_iushr : ia_T := fun call y len ih pc lv st σ n nc ns => ia_if (Nat.beq len 1) (ia_bin (ia_op (fun x y => (x.toUInt32 >>> (y.toUInt32 &&& Int32.toUInt32 31)).toInt32)) ih pc lv st σ n nc ns)
noncomputable def ia_d_irem : ia_T := fun call y len ih pc lv st σ n nc ns => ia_if (Nat.beq len 1) (match st with
    | .inl b :: _ => ia_if (Nat.beq b.1 b.2 && Nat.blt 2147483648 b.1) (ia_bin (ia_op (fun x y => x - x / y * y)) ih pc lv st σ n nc ns)
    | _ => none)
noncomputable def ia_d_i2b : ia_T := fun call y len ih pc lv st σ n nc ns => ia_if (Nat.beq len 1) (ia_un (fun a => ia_E (ia_D a).toInt8.toInt32) ih pc lv st σ n nc ns)
noncomputable def ia_d_i2l : ia_T := fun call y len ih pc lv st σ n nc ns => ia_if (Nat.beq len 1) (match st with
    | .inl a :: t => ia_if (Nat.beq a.1 a.2) (ia_frc (ia_D a.1).toInt64.toBitVec.toNat (fun r => ia_nx ih (Nat.add pc 1) lv (.inr (.inl r) :: t) σ n nc ns))
    | _ => none)
noncomputable def ia_d_ladd : ia_T := fun call y len ih pc lv st σ n nc ns => ia_if (Nat.beq len 1) (match st with
    | .inr (.inl b) :: .inr (.inl a) :: t => ia_frc (Nat.mod (Nat.add a b) 18446744073709551616) (fun r => ia_nx ih (Nat.add pc 1) lv (.inr (.inl r) :: t) σ n nc ns)
    | _ => none)
noncomputable def ia_d_lmul : ia_T := fun call y len ih pc lv st σ n nc ns => ia_if (Nat.beq len 1) (match st with
    | .inr (.inl b) :: .inr (.inl a) :: t => ia_frc (Nat.mod (Nat.mul a b) 18446744073709551616) (fun r => ia_nx ih (Nat.add pc 1) lv (.inr (.inl r) :: t) σ n nc ns)
    | _ => none)
noncomputable def ia_d_dup : ia_T := fun call y len ih pc lv st σ n nc ns => ia_if (Nat.beq len 1) (match st with
    | a :: t => ia_if (Nat.beq (ia_cat a) 1) (ia_nx ih (Nat.add pc 1) lv (a :: a :: t) σ n nc ns)
    | _ => none)
noncomputable def ia_d_dup2 : ia_T := fun call y len ih pc lv st σ n nc ns => ia_if (Nat.beq len 1) (match st with
    | a :: b :: t => ia_if (Nat.beq (ia_cat a) 1 && Nat.beq (ia_cat b) 1) (ia_nx ih (Nat.add pc 1) lv (a :: b :: a :: b :: t) σ n nc ns)
    | _ => none)
noncomputable def ia_d_pop : ia_T := fun call y len ih pc lv st σ n nc ns => ia_if (Nat.beq len 1) (match st with
    | a :: t => ia_if (Nat.beq (ia_cat a) 1) (ia_nx ih (Nat.add pc 1) lv t σ n nc ns)
    | _ => none)
noncomputable def ia_d_ifCond (c : ClassFile.Cond) (o : Int) : ia_T := fun call y len ih pc lv st σ n nc ns => ia_if (Nat.beq len 3) (match st with
    | .inl a :: t => ia_br (ia_cmp c a (2147483648, 2147483648)) o ih pc lv t σ n nc ns
    | _ => none)
noncomputable def ia_d_if_icmp (c : ClassFile.Cond) (o : Int) : ia_T := fun call y len ih pc lv st σ n nc ns => ia_if (Nat.beq len 3) (match st with
    | .inl b :: .inl a :: t => ia_br (ia_cmp c a b) o ih pc lv t σ n nc ns
    | _ => none)
noncomputable def ia_d_goto (o : Int) : ia_T := fun call y len ih pc lv st σ n nc ns => ia_if (Nat.beq len 3) (ia_jmp o ih pc lv st σ n nc ns)
noncomputable def ia_d_tableswitch (d : Int) (lo : Int) (hi : Int) (os : Array Int) : ia_T := fun call y len ih pc lv st σ n nc ns => ia_sw d lo hi os ih pc lv st σ n nc ns
noncomputable def ia_d_getfield (k : Nat) : ia_T := fun call y len ih pc lv st σ n nc ns => ia_if (Nat.beq len 3) (ia_frc k (fun k => ia_gf y k ih pc lv st σ n nc ns))
noncomputable def ia_d_putfield (k : Nat) : ia_T := fun call y len ih pc lv st σ n nc ns => ia_if (Nat.beq len 3) (ia_frc k (fun k => ia_pf y k ih pc lv st σ n nc ns))
noncomputable def ia_d_getstatic (k : Nat) : ia_T := fun call y len ih pc lv st σ n nc ns => ia_if (Nat.beq len 3) (ia_frc k (fun k => ia_gs y k ih pc lv st σ n nc ns))
noncomputable def ia_d_i2c : ia_T := fun call y len ih pc lv st σ n nc ns => ia_if (Nat.beq len 1) (ia_un (fun a => ia_E ((ia_D a).toUInt32 % 65536).toInt32) ih pc lv st σ n nc ns)
noncomputable def ia_d_iaload : ia_T := fun call y len ih pc lv st σ n nc ns => ia_if (Nat.beq len 1) (ia_al 50 ih pc lv st σ n nc ns)
noncomputable def ia_d_laload : ia_T := fun call y len ih pc lv st σ n nc ns => ia_if (Nat.beq len 1) (ia_al 51 ih pc lv st σ n nc ns)
noncomputable def ia_d_baload : ia_T := fun call y len ih pc lv st σ n nc ns => ia_if (Nat.beq len 1) (ia_alb ih pc lv st σ n nc ns)
noncomputable def ia_d_aaload : ia_T := fun call y len ih pc lv st σ n nc ns => ia_if (Nat.beq len 1) (match st with
    | _ :: .inr (.inr (.inl (some k))) :: _ => (match ia_get2 σ k with
      | some c => (match Nat.beq c.1 54 with
        | true => ia_al 54 ih pc lv st σ n nc ns
        | false => ia_al 55 ih pc lv st σ n nc ns)
      | none => none)
    | _ => none)
noncomputable def ia_d_iastore : ia_T := fun call y len ih pc lv st σ n nc ns => ia_if (Nat.beq len 1) (ia_as 50 ia_gi ih pc lv st σ n nc ns)
noncomputable def ia_d_lastore : ia_T := fun call y len ih pc lv st σ n nc ns => ia_if (Nat.beq len 1) (ia_as 51 ia_gl ih pc lv st σ n nc ns)
noncomputable def ia_d_bastore : ia_T := fun call y len ih pc lv st σ n nc ns => ia_if (Nat.beq len 1) (match st with
    | _ :: _ :: .inr (.inr (.inl (some k))) :: _ => (match ia_get2 σ k with
      | some c => (match Nat.beq c.1 52 with
        | true => ia_as 52 (ia_gn .byte) ih pc lv st σ n nc ns
        | false => ia_as 53 (ia_gn .boolean) ih pc lv st σ n nc ns)
      | none => none)
    | _ => none)
noncomputable def ia_d_aastore : ia_T := fun call y len ih pc lv st σ n nc ns => ia_if (Nat.beq len 1) (match st with
    | _ :: _ :: .inr (.inr (.inl (some k))) :: _ => (match ia_get2 σ k with
      | some c => (match Nat.beq c.1 54 with
        | true => ia_as 54 (ia_gr σ 3) ih pc lv st σ n nc ns
        | false => ia_as 55 (ia_gr σ 7) ih pc lv st σ n nc ns)
      | none => none)
    | _ => none)
noncomputable def ia_d_arraylength : ia_T := fun call y len ih pc lv st σ n nc ns => ia_if (Nat.beq len 1) (ia_len ih pc lv st σ n nc ns)
noncomputable def ia_d_new (k : Nat) : ia_T := fun call y len ih pc lv st σ n nc ns => ia_if (Nat.beq len 3) (ia_frc k (fun k => ia_no y k ih pc lv st σ n nc ns))
noncomputable def ia_d_newarray (t : ClassFile.ArrayType) : ia_T := fun call y len ih pc lv st σ n nc ns => ia_if (Nat.beq len 2) (ia_new y t ih pc lv st σ n nc ns)
noncomputable def ia_d_anewarray (k : Nat) : ia_T := fun call y len ih pc lv st σ n nc ns => ia_if (Nat.beq len 3) (ia_frc k (fun k => ia_nr1 y k ih pc lv st σ n nc ns))
noncomputable def ia_d_ldc (k : Nat) : ia_T := fun call y len ih pc lv st σ n nc ns => ia_if (Nat.beq len 2) (ia_frc k (fun k => ia_cst y k 2 ih pc lv st σ n nc ns))
noncomputable def ia_d_ldc_w (k : Nat) : ia_T := fun call y len ih pc lv st σ n nc ns => ia_if (Nat.beq len 3) (ia_frc k (fun k => ia_cst y k 3 ih pc lv st σ n nc ns))
noncomputable def ia_d_ldc2_w (k : Nat) : ia_T := fun call y len ih pc lv st σ n nc ns => ia_if (Nat.beq len 3) (ia_frc k (fun k => ia_csl y k ih pc lv st σ n nc ns))
noncomputable def ia_d_invokevirtual (k : Nat) : ia_T := fun call y len ih pc lv st σ n nc ns => ia_if (Nat.beq len 3) (ia_frc k (fun k => ia_inv call y 0 k ih pc lv st σ n nc ns))
noncomputable def ia_d_invokestatic (k : Nat) : ia_T := fun call y len ih pc lv st σ n nc ns => ia_if (Nat.beq len 3) (ia_frc k (fun k => ia_inv call y 1 k ih pc lv st σ n nc ns))
noncomputable def ia_d_invokespecial (k : Nat) : ia_T := fun call y len ih pc lv st σ n nc ns => ia_if (Nat.beq len 3) (ia_frc k (fun k => ia_inv call y 2 k ih pc lv st σ n nc ns))
noncomputable def ia_d_ireturn : ia_T := fun call y len ih pc lv st σ n nc ns => ia_if (Nat.beq len 1) (ia_rt y st σ n)
noncomputable def ia_d_return_ : ia_T := fun call y len ih pc lv st σ n nc ns => ia_if (Nat.beq len 1) (ia_rv y st σ n)
noncomputable def ia_do (i : Instr) : ia_T := @Instr.rec (fun _ => ia_T) ia_d_aaload ia_d_aastore ia_d_none ia_d_aload ia_d_aload_n ia_d_anewarray ia_d_none ia_d_arraylength (fun _ => ia_d_none) ia_d_astore_n ia_d_none ia_d_baload ia_d_bastore ia_d_bipush ia_d_none ia_d_none (fun _ => ia_d_none) ia_d_none ia_d_none ia_d_none ia_d_none ia_d_none ia_d_none (fun _ => ia_d_none) (fun _ => ia_d_none) ia_d_none (fun _ => ia_d_none) (fun _ => ia_d_none) ia_d_none ia_d_none ia_d_none ia_d_none (fun _ => ia_d_none) (fun _ => ia_d_none) ia_d_none ia_d_dup ia_d_none ia_d_none ia_d_dup2 ia_d_none ia_d_none ia_d_none ia_d_none ia_d_none ia_d_none ia_d_none ia_d_none (fun _ => ia_d_none) (fun _ => ia_d_none) ia_d_none (fun _ => ia_d_none) (fun _ => ia_d_none) ia_d_none ia_d_none ia_d_none ia_d_none (fun _ => ia_d_none) (fun _ => ia_d_none) ia_d_none ia_d_getfield ia_d_getstatic ia_d_goto (fun _ => ia_d_none) ia_d_i2b ia_d_i2c ia_d_none ia_d_none ia_d_i2l ia_d_none ia_d_iadd ia_d_iaload ia_d_iand ia_d_iastore ia_d_iconst ia_d_none (fun _ _ => ia_d_none) ia_d_if_icmp ia_d_ifCond (fun _ => ia_d_none) (fun _ => ia_d_none) ia_d_iinc ia_d_iload ia_d_iload_n ia_d_imul ia_d_none (fun _ => ia_d_none) (fun _ => ia_d_none) (fun _ _ => ia_d_none) ia_d_invokespecial ia_d_invokestatic ia_d_invokevirtual ia_d_none ia_d_irem ia_d_ireturn ia_d_ishl ia_d_ishr ia_d_istore ia_d_istore_n ia_d_isub ia_d_iushr ia_d_none (fun _ => ia_d_none) (fun _ => ia_d_none) ia_d_none ia_d_none ia_d_none ia_d_ladd ia_d_laload ia_d_none ia_d_lastore ia_d_none ia_d_lconst ia_d_ldc ia_d_ldc_w ia_d_ldc2_w ia_d_none (fun _ => ia_d_none) ia_d_lload_n ia_d_lmul ia_d_none (fun _ _ => ia_d_none) ia_d_none ia_d_none ia_d_none ia_d_none ia_d_none (fun _ => ia_d_none) ia_d_lstore_n ia_d_none ia_d_none ia_d_none ia_d_none ia_d_none (fun _ _ => ia_d_none) ia_d_new ia_d_newarray ia_d_none ia_d_pop ia_d_none ia_d_putfield (fun _ => ia_d_none) (fun _ => ia_d_none) ia_d_return_ ia_d_none ia_d_none ia_d_sipush ia_d_none ia_d_tableswitch i
noncomputable def ia_step (call : Nat → List ia_V → ia_H → Nat → Option ia_O) (y : Nat) (ih : ia_K) (pc : Nat) (lv : List (Option ia_V)) (st : List ia_V) (σ : ia_H) (n nc ns : Nat) : Option ia_O := match decode (ia_code y) pc with
  | .ok q => ia_do q.1 call y q.2 ih pc lv st σ n nc ns
  | .error _ => none
noncomputable def ia_x (call : Nat → List ia_V → ia_H → Nat → Option ia_O) (y fuel : Nat) : ia_K := Nat.rec (motive := fun _ => ia_K) (fun _ _ _ _ _ _ _ => none) (fun _ ih => ia_step call y ih) fuel
noncomputable def ia_call (d : Nat) : Nat → List ia_V → ia_H → Nat → Option ia_O := Nat.rec (motive := fun _ => Nat → List ia_V → ia_H → Nat → Option ia_O) (fun _ _ _ _ => none) (fun _ ih y as σ n => ia_if (Nat.ble (ia_sz as) (ia_maxL y)) (ia_x ih y 100000 0 (ia_pad (ia_maxL y) (ia_ent as)) [] σ n 0 0)) d
/-- an empty world: room for 256 cells -/
noncomputable def ia_w0 : ia_H := List.replicate 16 (List.replicate 16 (99, 0, []))
end
section
/-! ## what a known value, cell, world says of the machine's -/
def ia_v (sa : Nat × Nat) (ad : List Nat) (a : ia_V) (v : Value) : Prop := match a with
  | .inl q => ∃ x : Int32, v = .int x ∧ q.1 ≤ ia_E x ∧ ia_E x ≤ q.2
  | .inr (.inl n) => v = .long (Int64.ofNat n)
  | .inr (.inr (.inl none)) => v = .null
  | .inr (.inr (.inl (some k))) => ∃ b, ad[k]? = some b ∧ v = .ref b
  | .inr (.inr (.inr 0)) => v = .ref sa.1
  | .inr (.inr (.inr 1)) => v = .ref sa.2
  | .inr (.inr (.inr (_ + 2))) => v = .null ∨ ∃ b, v = .ref b
def ia_co (sa : Nat × Nat) (ad : List Nat) (c : ia_C) (e : va_E) : Prop := ∃ vs : List Value, e = .inr (c.1, vs) ∧ ∀ (k : Nat) (a : ia_V), ia_get2 c.2.2 k = some a → ∃ v, vs[k]? = some v ∧ ia_v sa ad a v
def ia_ci (sa : Nat × Nat) (ad : List Nat) (tys : List (ClassId × FieldType)) (ty : FieldType) (c : ia_C) (e : va_E) : Prop := ∃ (cA : ClassId) (f : Nat → Int32), e = .inl (cA, c.2.1, .inl f) ∧ (cA, ty) ∈ tys ∧ ∀ (k : Nat) (a : ia_V), ia_get2 c.2.2 k = some a → k < c.2.1 → ia_v sa ad a (.int (f k))
def ia_cj (sa : Nat × Nat) (ad : List Nat) (tys : List (ClassId × FieldType)) (c : ia_C) (e : va_E) : Prop := ∃ (cA : ClassId) (f : Nat → Int64), e = .inl (cA, c.2.1, .inr (.inl f)) ∧ (cA, .long) ∈ tys ∧ ∀ (k : Nat) (a : ia_V), ia_get2 c.2.2 k = some a → k < c.2.1 → ia_v sa ad a (.long (f k))
def ia_cr (sa : Nat × Nat) (ad : List Nat) (tys : List (ClassId × FieldType)) (C : String) (c : ia_C) (e : va_E) : Prop := ∃ (cA : ClassId) (f : Nat → Option Nat), e = .inl (cA, c.2.1, .inr (.inr (.inr (.inr f)))) ∧ (cA, .object C) ∈ tys ∧ ∀ (k : Nat) (a : ia_V), ia_get2 c.2.2 k = some a → k < c.2.1 → ia_v sa ad a (va_rf (f k))
def ia_c (sa : Nat × Nat) (ad : List Nat) (tys : List (ClassId × FieldType)) (c : ia_C) (e : va_E) : Prop :=
  (c.1 < 50 → ia_co sa ad c e) ∧ (c.1 = 50 → ia_ci sa ad tys .int c e) ∧ (c.1 = 51 → ia_cj sa ad tys c e) ∧ (c.1 = 52 → ia_ci sa ad tys .byte c e) ∧ (c.1 = 53 → ia_ci sa ad tys .boolean c e) ∧ (c.1 = 54 → ia_cr sa ad tys RX3 c e) ∧ (c.1 = 55 → ia_cr sa ad tys RX7 c e)
def ia_R (sa : Nat × Nat) (tys : List (ClassId × FieldType)) (σ : ia_H) (ws : va_W) : Prop := ∀ (k : Nat) (c : ia_C), ia_get2 σ k = some c → c.1 ≠ 99 → ∃ q, ws[k]? = some q ∧ ia_c sa (ws.map Prod.fst) tys c q.2
def ia_L (sa : Nat × Nat) (ad : List Nat) (lv : List (Option ia_V)) (l : List (Nat × Value)) : Prop := ∀ (i : Nat) (a : ia_V), lv[i]? = some (some a) → ∃ v, (i, v) ∈ l ∧ ia_v sa ad a v
def ia_S (sa : Nat × Nat) (ad : List Nat) : List ia_V → List Value → Prop
  | [], vs => vs = []
  | a :: st, vs => ∃ v t, vs = v :: t ∧ ia_v sa ad a v ∧ ia_S sa ad st t
theorem ia_v.mono {sa : Nat × Nat} {ad ad' : List Nat} {a : ia_V} {v : Value} (hm : ∀ (k b : Nat), ad[k]? = some b → ad'[k]? = some b) (h : ia_v sa ad a v) : ia_v sa ad' a v := by
  rcases a with q | n | (_ | k) | (_ | _ | u)
  · exact h
  · exact h
  · exact h
  · obtain ⟨b, h1, h2⟩ := h
    exact ⟨b, hm k b h1, h2⟩
  · exact h
  · exact h
  · exact h
theorem ia_c.mono {sa : Nat × Nat} {ad ad' : List Nat} {tys tys' : List (ClassId × FieldType)} {c : ia_C} {e : va_E} (hm : ∀ (k b : Nat), ad[k]? = some b → ad'[k]? = some b) (ht : ∀ q ∈ tys, q ∈ tys') (h : ia_c sa ad tys c e) : ia_c sa ad' tys' c e := by
  obtain ⟨h0, h1, h2, h3, h4, h5, h6⟩ := h
  have g1 : ∀ ty, ia_ci sa ad tys ty c e → ia_ci sa ad' tys' ty c e := fun ty ⟨cA, f, a1, a2, a3⟩ => ⟨cA, f, a1, ht _ a2, fun k a hk hlt => (a3 k a hk hlt).mono hm⟩
  have g2 : ∀ C, ia_cr sa ad tys C c e → ia_cr sa ad' tys' C c e := fun C ⟨cA, f, a1, a2, a3⟩ => ⟨cA, f, a1, ht _ a2, fun k a hk hlt => (a3 k a hk hlt).mono hm⟩
  refine ⟨fun z => ?_, fun z => g1 _ (h1 z), fun z => ?_, fun z => g1 _ (h3 z), fun z => g1 _ (h4 z), fun z => g2 _ (h5 z), fun z => g2 _ (h6 z)⟩
  · obtain ⟨vs, a1, a2⟩ := h0 z
    exact ⟨vs, a1, fun k a hk => by obtain ⟨v, b1, b2⟩ := a2 k a hk; exact ⟨v, b1, b2.mono hm⟩⟩
  · obtain ⟨cA, f, a1, a2, a3⟩ := h2 z
    exact ⟨cA, f, a1, ht _ a2, fun k a hk hlt => (a3 k a hk hlt).mono hm⟩
theorem ia_L.mono {sa : Nat × Nat} {ad ad' : List Nat} {lv : List (Option ia_V)} {l : List (Nat × Value)} (hm : ∀ (k b : Nat), ad[k]? = some b → ad'[k]? = some b) (h : ia_L sa ad lv l) : ia_L sa ad' lv l := fun i a ha => by
  obtain ⟨v, h1, h2⟩ := h i a ha
  exact ⟨v, h1, h2.mono hm⟩
theorem ia_S.mono {sa : Nat × Nat} {ad ad' : List Nat} (hm : ∀ (k b : Nat), ad[k]? = some b → ad'[k]? = some b) : ∀ {st : List ia_V} {vs : List Value}, ia_S sa ad st vs → ia_S sa ad' st vs
  | [], _, h => h
  | _ :: _, _, ⟨v, t, h1, h2, h3⟩ => ⟨v, t, h1, h2.mono hm, ia_S.mono hm h3⟩
/-- the cell at a place -/
theorem ia_R.at {sa : Nat × Nat} {tys : List (ClassId × FieldType)} {σ : ia_H} {ws : va_W} {k b : Nat} {c : ia_C} (h : ia_R sa tys σ ws) (hc : ia_get2 σ k = some c) (hn : c.1 ≠ 99) (hb : (ws.map Prod.fst)[k]? = some b) : ∃ e, ws[k]? = some (b, e) ∧ ia_c sa (ws.map Prod.fst) tys c e := by
  obtain ⟨⟨q, e⟩, h1, h2⟩ := h k c hc hn
  rw [List.getElem?_map, h1] at hb
  cases hb
  exact ⟨e, h1, h2⟩
theorem ia_fst_set {ws : va_W} {k b : Nat} {e0 e : va_E} (h : ws[k]? = some (b, e0)) : (ws.set k (b, e)).map Prod.fst = ws.map Prod.fst := by
  apply List.ext_getElem?
  intro i
  rw [List.getElem?_map, List.getElem?_map, List.getElem?_set]
  have hl : k < ws.length := (List.getElem?_eq_some_iff.mp h).1
  by_cases hi : k = i
  · subst hi
    rw [if_pos rfl, if_pos hl, h]
    rfl
  · rw [if_neg hi]
theorem ia_R.set {sa : Nat × Nat} {tys : List (ClassId × FieldType)} {σ : ia_H} {ws : va_W} {k b : Nat} {c : ia_C} {e0 e : va_E} (h : ia_R sa tys σ ws) (hk : ws[k]? = some (b, e0)) (he : ia_c sa (ws.map Prod.fst) tys c e) : ia_R sa tys (ia_set2 σ k c) (ws.set k (b, e)) := by
  have hl : k < ws.length := (List.getElem?_eq_some_iff.mp hk).1
  intro j c' hj hn
  rw [ia_fst_set hk]
  rcases ia_get2_set hj with ⟨rfl, rfl⟩ | ⟨hjk, hj'⟩
  · exact ⟨(b, e), List.getElem?_set_self hl, he⟩
  · obtain ⟨q, h1, h2⟩ := h j c' hj' hn
    exact ⟨q, by rw [List.getElem?_set_ne (fun z => hjk z.symm)]; exact h1, h2⟩
theorem ia_app_mono {ad : List Nat} {x : List Nat} : ∀ (k b : Nat), ad[k]? = some b → (ad ++ x)[k]? = some b := fun k b h => by
  rw [List.getElem?_append_left (List.getElem?_eq_some_iff.mp h).1]
  exact h
theorem ia_fst_app (ws : va_W) (q : Nat × va_E) : (ws ++ [q]).map Prod.fst = ws.map Prod.fst ++ [q.1] := by rw [List.map_append]; rfl
theorem ia_R.push {sa : Nat × Nat} {n : Nat} {tys tys' : List (ClassId × FieldType)} {σ : ia_H} {ws : va_W} {q : Nat × va_E} {c : ia_C} (h : ia_R sa tys σ ws) (hn : ws.length = n) (ht : ∀ z ∈ tys, z ∈ tys') (he : ia_c sa ((ws ++ [q]).map Prod.fst) tys' c q.2) : ia_R sa tys' (ia_set2 σ n c) (ws ++ [q]) := by
  intro j c' hj hc
  rcases ia_get2_set hj with ⟨rfl, rfl⟩ | ⟨hjk, hj'⟩
  · refine ⟨q, ?_, he⟩
    rw [List.getElem?_append_right (by omega), hn, Nat.sub_self]
    rfl
  · obtain ⟨q', h1, h2⟩ := h j c' hj' hc
    refine ⟨q', by rw [List.getElem?_append_left (List.getElem?_eq_some_iff.mp h1).1]; exact h1, h2.mono ?_ ht⟩
    rw [ia_fst_app]
    exact ia_app_mono
theorem ia_if_eq {α : Type} {b : Bool} {x : Option α} {o : α} (h : ia_if b x = some o) : b = true ∧ x = some o := by
  cases b
  · cases h
  · exact ⟨rfl, h⟩
theorem ia_beq {a b : Nat} (h : Nat.beq a b = true) : a = b := Nat.eq_of_beq_eq_true h
theorem ia_ble {a b : Nat} (h : Nat.ble a b = true) : a ≤ b := Nat.le_of_ble_eq_true h
theorem ia_blt {a b : Nat} (h : Nat.blt a b = true) : a < b := Nat.le_of_ble_eq_true h
theorem ia_nblt {a b : Nat} (h : Nat.blt a b = false) : b ≤ a := Nat.not_lt.mp (fun z => by
  have : Nat.blt a b = true := Nat.ble_eq_true_of_le z
  rw [h] at this; cases this)
theorem ia_one {lo hi : Nat} {x : Int32} (h : lo = hi) (h1 : lo ≤ ia_E x) (h2 : ia_E x ≤ hi) : ia_E x = lo := by omega
theorem ia_vcat {sa : Nat × Nat} {ad : List Nat} {a : ia_V} {v : Value} (h : ia_v sa ad a v) : v.category = ia_cat a := by
  rcases a with q | n | (_ | k) | (_ | _ | u)
  · obtain ⟨x, rfl, -⟩ := h; rfl
  · cases h; rfl
  · cases h; rfl
  · obtain ⟨b, -, rfl⟩ := h; rfl
  · cases h; rfl
  · cases h; rfl
  · rcases h with rfl | ⟨b, rfl⟩ <;> rfl
theorem ia_Ssz {sa : Nat × Nat} {ad : List Nat} : ∀ {st : List ia_V} {vs : List Value}, ia_S sa ad st vs → (vs.map fun v => v.category).sum = ia_sz st
  | [], _, h => by cases h; rfl
  | a :: st, _, ⟨v, t, h1, h2, h3⟩ => by
    subst h1
    rw [List.map_cons, List.sum_cons, ia_vcat h2, ia_Ssz h3]
    rfl
end
section
/-! ## one instruction: what the run knows behind it is enough ahead of it -/
section IAS
variable {p : Program} {l : Launch} {e : Env} {R : Room} {s : State} {m : MethodId} {args : Array Value} {below : List Frame} {meth : Method} {c : Code} {Q : State → Prop}
def ia_WW (p : Program) (l : Launch) (e : Env) (R : Room) (s : State) (m : MethodId) (args : Array Value) (below : List Frame) (meth : Method) (c : Code) (Q : State → Prop) (D : va_G) (sa : Nat × Nat) (A : Nat → Prop) (as0 : List Nat) (nL y pc : Nat) (lv : List (Option ia_V)) (st : List ia_V) (σ : ia_H) (n nc ns : Nat) : Prop :=
  ∀ (H : Heap) (locs : List Loc) (ws : va_W) (tys : List (ClassId × FieldType)) (ls : Array Slot) (l' : List (Nat × Value)) (vst : List Value),
    lv_has ls nL l' → ia_L sa (ws.map Prod.fst) lv l' → ia_S sa (ws.map Prod.fst) st vst → va_K D vwCl tys s → va_P D vwCl ws H → va_D A ws → va_S A s.heap H locs → ws.length = n → ia_R sa tys σ ws → (∃ x, ws.map Prod.fst = as0 ++ x) → nc ≤ ia_mc y → ns ≤ ia_ms y → W p l e R s m args below meth c H locs nc ns Q (F0 m pc ls vst)
variable {D : va_G} {sa : Nat × Nat} {A : Nat → Prop} {as0 : List Nat} {nL y pc : Nat} {lv : List (Option ia_V)} {st : List ia_V} {σ : ia_H} {n nc ns : Nat} {ih : ia_K} {out : ia_O}
abbrev ia_IH (p : Program) (l : Launch) (e : Env) (R : Room) (s : State) (m : MethodId) (args : Array Value) (below : List Frame) (meth : Method) (c : Code) (Q : State → Prop) (D : va_G) (sa : Nat × Nat) (A : Nat → Prop) (as0 : List Nat) (nL y : Nat) (ih : ia_K) (out : ia_O) : Prop := ∀ (pc : Nat) (lv : List (Option ia_V)) (st : List ia_V) (σ : ia_H) (n nc ns : Nat), ih pc lv st σ n nc ns = some out → ia_WW p l e R s m args below meth c Q D sa A as0 nL y pc lv st σ n nc ns
theorem ia_nx_eq (ih : ia_K) (pc : Nat) (lv : List (Option ia_V)) (st : List ia_V) (σ : ia_H) (n nc ns : Nat) : ia_nx ih pc lv st σ n nc ns = ih pc lv st σ n nc ns := ia_frc_eq _ _
theorem ia_pi_eq (ih : ia_K) (r pc : Nat) (lv : List (Option ia_V)) (st : List ia_V) (σ : ia_H) (n nc ns : Nat) : ia_pi ih r pc lv st σ n nc ns = ih pc lv (.inl (r, r) :: st) σ n nc ns := by
  unfold ia_pi
  rw [ia_frc_eq, ia_nx_eq]
/-- a value is pushed -/
theorem ia_g_push {a : ia_V} {v : Value} {pc2 : Nat} (hv : ∀ ad, ia_v sa ad a v) (rule : ∀ (H : Heap) (locs : List Loc) (ls : Array Slot) (vst : List Value), W p l e R s m args below meth c H locs nc ns Q (F0 m pc2 ls (v :: vst)) → W p l e R s m args below meth c H locs nc ns Q (F0 m pc ls vst))
    (k : ia_WW p l e R s m args below meth c Q D sa A as0 nL y pc2 lv (a :: st) σ n nc ns) : ia_WW p l e R s m args below meth c Q D sa A as0 nL y pc lv st σ n nc ns := by
  intro H locs ws tys ls l' vst hl hL hSt hK hP hD hS hn hR hx h1 h2
  exact rule _ _ _ _ (k H locs ws tys ls l' (v :: vst) hl hL ⟨v, vst, rfl, hv _, hSt⟩ hK hP hD hS hn hR hx h1 h2)
theorem ia_v_one (sa : Nat × Nat) (ad : List Nat) (x : Int32) : ia_v sa ad (.inl (ia_E x, ia_E x)) (.int x) := ⟨x, rfl, Nat.le_refl _, Nat.le_refl _⟩
theorem ia_v_all (sa : Nat × Nat) (ad : List Nat) (x : Int32) : ia_v sa ad (.inl ia_top) (.int x) := ⟨x, rfl, Nat.zero_le _, Nat.le_of_lt_succ (ia_E_lt x)⟩
/-- a local is pushed -/
theorem ia_g_ld {kd i len : Nat} (rule : ∀ (v : Value) (H : Heap) (locs : List Loc) (ls : Array Slot) (vst : List Value), (match kd with | 0 => ∃ x, v = .int x | 1 => ∃ x, v = .long x | _ => ∃ x, v = .ref x) → ls[i]? = some (.val v) → W p l e R s m args below meth c H locs nc ns Q (F0 m (Nat.add pc len) ls (v :: vst)) → W p l e R s m args below meth c H locs nc ns Q (F0 m pc ls vst))
    (ihk : ia_IH p l e R s m args below meth c Q D sa A as0 nL y ih out) (h : ia_ld kd i len ih pc lv st σ n nc ns = some out) : ia_WW p l e R s m args below meth c Q D sa A as0 nL y pc lv st σ n nc ns := by
  unfold ia_ld at h
  rw [ia_at_eq] at h
  intro H locs ws tys ls l' vst hl hL hSt hK hP hD hS hn hR hx h1 h2
  split at h
  · rename_i v hv
    obtain ⟨hk, h⟩ := ia_if_eq h
    rw [ia_nx_eq] at h
    obtain ⟨w, g1, g2⟩ := hL i v hv
    refine rule w _ _ _ _ ?_ (hl.2.2 _ g1) (ihk _ _ _ _ _ _ _ h H locs ws tys ls l' (w :: vst) hl hL ⟨w, vst, rfl, g2, hSt⟩ hK hP hD hS hn hR hx h1 h2)
    rcases v with q | z | (_ | z) | (_ | _ | u)
    · have := ia_beq hk; subst this; obtain ⟨x, rfl, -⟩ := g2; exact ⟨x, rfl⟩
    · have := ia_beq hk; subst this; cases g2; exact ⟨_, rfl⟩
    · cases hk
    · have := ia_beq hk; subst this; obtain ⟨x, -, rfl⟩ := g2; exact ⟨x, rfl⟩
    · have := ia_beq (Bool.and_eq_true _ _ ▸ hk).1; subst this; cases g2; exact ⟨_, rfl⟩
    · have := ia_beq (Bool.and_eq_true _ _ ▸ hk).1; subst this; cases g2; exact ⟨_, rfl⟩
    · have hk2 : (Nat.beq kd 2 && Nat.blt (u + 2) 2) = true := hk
      rw [Bool.and_eq_true] at hk2
      have := ia_blt hk2.2
      omega
  · cases h
theorem ia_nl_spec {i j : Nat} {w : Nat} (h : ia_nl lv i = true) (hj : j + 1 = i) : ¬ lv[j]? = some (some (.inr (.inl w))) := by
  subst hj
  intro z
  have h' : (match ia_at lv j with
  | some (some (.inr (.inl _))) => false
  | _ => true) = true := h
  rw [ia_at_eq, z] at h'
  cases h'
theorem ia_notlong {ad : List Nat} {a : ia_V} {v : Value} (h : ia_v sa ad a v) (hc : v.category = 2) : ∃ w, a = .inr (.inl w) := by
  rcases a with q | z | (_ | z) | (_ | _ | u)
  · obtain ⟨x, rfl, -⟩ := h; cases hc
  · exact ⟨z, rfl⟩
  · cases h; cases hc
  · obtain ⟨x, -, rfl⟩ := h; cases hc
  · cases h; cases hc
  · cases h; cases hc
  · rcases h with rfl | ⟨b, rfl⟩ <;> cases hc
theorem ia_L_set {ad : List Nat} {l' : List (Nat × Value)} {i : Nat} {a : ia_V} {v : Value} (hL : ia_L sa ad lv l') (hnl : ia_nl lv i = true) (hv : ia_v sa ad a v) : ia_L sa ad (lv.set i (some a)) ((i, v) :: l'.filter (fun q => !(q.1 == i) && !(q.1 + 1 == i && q.2.category == 2))) := by
  intro j b hj
  by_cases hji : j = i
  · subst hji
    have hlt : j < lv.length := by
      have := (List.getElem?_eq_some_iff.mp hj).1
      simpa using this
    rw [List.getElem?_set_self hlt] at hj
    cases hj
    exact ⟨v, List.mem_cons_self, hv⟩
  · rw [List.getElem?_set_ne (fun z => hji z.symm)] at hj
    obtain ⟨w, g1, g2⟩ := hL j b hj
    refine ⟨w, List.mem_cons_of_mem _ (List.mem_filter.mpr ⟨g1, ?_⟩), g2⟩
    simp only [Bool.and_eq_true, Bool.not_eq_true', beq_eq_false_iff_ne, ne_eq, Bool.and_eq_false_iff]
    refine ⟨hji, ?_⟩
    by_cases hz : j + 1 = i
    · refine Or.inr (fun hc => ?_)
      obtain ⟨w', rfl⟩ := ia_notlong g2 hc
      exact ia_nl_spec hnl hz hj
    · exact Or.inl hz
theorem ia_g_sto {kd i len : Nat} (rule : ∀ (v : Value) (l' l2 : List (Nat × Value)) (H : Heap) (locs : List Loc) (ls : Array Slot) (vst : List Value), (match kd with | 0 => ∃ x, v = .int x | 1 => ∃ x, v = .long x | _ => ∃ x, v = .ref x) → lv_has ls nL l' → (i, v) :: l'.filter (fun q => !(q.1 == i) && !(q.1 + 1 == i && q.2.category == 2)) = l2 → (∀ ls', lv_has ls' nL l2 → W p l e R s m args below meth c H locs nc ns Q (F0 m (Nat.add pc len) ls' vst)) → W p l e R s m args below meth c H locs nc ns Q (F0 m pc ls (v :: vst)))
    (ihk : ia_IH p l e R s m args below meth c Q D sa A as0 nL y ih out) (h : ia_sto kd i len ih pc lv st σ n nc ns = some out) : ia_WW p l e R s m args below meth c Q D sa A as0 nL y pc lv st σ n nc ns := by
  unfold ia_sto at h
  intro H locs ws tys ls l' vst hl hL hSt hK hP hD hS hn hR hx h1 h2
  split at h
  · rename_i v t
    obtain ⟨w, vt, rfl, g2, g3⟩ := hSt
    obtain ⟨hk, h⟩ := ia_if_eq h
    rw [Bool.and_eq_true] at hk
    rw [ia_setK_eq, ia_nx_eq] at h
    refine rule w l' _ _ _ _ _ ?_ hl rfl (fun ls' hl2 => ihk _ _ _ _ _ _ _ h H locs ws tys ls' _ vt hl2 (ia_L_set hL hk.2 g2) g3 hK hP hD hS hn hR hx h1 h2)
    have hk := hk.1
    rcases v with q | z | (_ | z) | (_ | _ | u)
    · have := ia_beq hk; subst this; obtain ⟨x, rfl, -⟩ := g2; exact ⟨x, rfl⟩
    · have := ia_beq hk; subst this; cases g2; exact ⟨_, rfl⟩
    · cases hk
    · have := ia_beq hk; subst this; obtain ⟨x, -, rfl⟩ := g2; exact ⟨x, rfl⟩
    · have := ia_beq (Bool.and_eq_true _ _ ▸ hk).1; subst this; cases g2; exact ⟨_, rfl⟩
    · have := ia_beq (Bool.and_eq_true _ _ ▸ hk).1; subst this; cases g2; exact ⟨_, rfl⟩
    · have hk2 : (Nat.beq kd 2 && Nat.blt (u + 2) 2) = true := hk
      rw [Bool.and_eq_true] at hk2
      have := ia_blt hk2.2
      omega
  · cases h
theorem ia_g_stl {i len : Nat} (rule : ∀ (v : Int64) (l' l2 : List (Nat × Value)) (H : Heap) (locs : List Loc) (ls : Array Slot) (vst : List Value), lv_has ls nL l' → (i, Value.long v) :: l'.filter (fun q => !(q.1 == i) && (!(q.1 == i + 1) && !(q.1 + 1 == i && q.2.category == 2))) = l2 → (∀ ls', lv_has ls' nL l2 → W p l e R s m args below meth c H locs nc ns Q (F0 m (Nat.add pc len) ls' vst)) → W p l e R s m args below meth c H locs nc ns Q (F0 m pc ls (.long v :: vst)))
    (ihk : ia_IH p l e R s m args below meth c Q D sa A as0 nL y ih out) (h : ia_stl i len ih pc lv st σ n nc ns = some out) : ia_WW p l e R s m args below meth c Q D sa A as0 nL y pc lv st σ n nc ns := by
  unfold ia_stl at h
  intro H locs ws tys ls l' vst hl hL hSt hK hP hD hS hn hR hx h1 h2
  split at h
  · rename_i v t
    obtain ⟨w, vt, rfl, g2, g3⟩ := hSt
    cases g2
    obtain ⟨hk, h⟩ := ia_if_eq h
    rw [ia_setK_eq, ia_setK_eq, ia_nx_eq] at h
    refine rule _ l' _ _ _ _ _ hl rfl (fun ls' hl2 => ihk _ _ _ _ _ _ _ h H locs ws tys ls' _ vt hl2 ?_ g3 hK hP hD hS hn hR hx h1 h2)
    intro j b hj
    by_cases hj1 : j = i + 1
    · subst hj1
      have hlt : i + 1 < (lv.set i (some (.inr (.inl v)))).length := by
        have := (List.getElem?_eq_some_iff.mp hj).1
        simpa using this
      rw [show Nat.succ i = i + 1 from rfl, List.getElem?_set_self hlt] at hj
      cases hj
    · rw [List.getElem?_set_ne (fun z => hj1 z.symm)] at hj
      by_cases hji : j = i
      · subst hji
        have hlt : j < lv.length := by
          have := (List.getElem?_eq_some_iff.mp hj).1
          simpa using this
        rw [List.getElem?_set_self hlt] at hj
        cases hj
        exact ⟨_, List.mem_cons_self, rfl⟩
      · rw [List.getElem?_set_ne (fun z => hji z.symm)] at hj
        obtain ⟨w, g1, g2⟩ := hL j b hj
        refine ⟨w, List.mem_cons_of_mem _ (List.mem_filter.mpr ⟨g1, ?_⟩), g2⟩
        simp only [Bool.and_eq_true, Bool.not_eq_true', beq_eq_false_iff_ne, ne_eq, Bool.and_eq_false_iff]
        refine ⟨hji, hj1, ?_⟩
        by_cases hz : j + 1 = i
        · refine Or.inr (fun hc => ?_)
          obtain ⟨w', rfl⟩ := ia_notlong g2 hc
          exact ia_nl_spec hk hz hj
        · exact Or.inl hz
  · cases h
/-- two ints become one -/
theorem ia_g_bin {f : Nat → Nat → Nat} {op : Int32 → Int32 → Int32} (hf : ∀ x y, ia_E (op x y) = f (ia_E x) (ia_E y)) (Pz : Int32 → Prop) (hPz : ∀ b t, st = .inl b :: t → ∀ z, b.1 ≤ ia_E z → ia_E z ≤ b.2 → Pz z)
    (rule : ∀ (x z : Int32) (H : Heap) (locs : List Loc) (ls : Array Slot) (vst : List Value), Pz z → W p l e R s m args below meth c H locs nc ns Q (F0 m (Nat.add pc 1) ls (.int (op x z) :: vst)) → W p l e R s m args below meth c H locs nc ns Q (F0 m pc ls (.int z :: .int x :: vst)))
    (ihk : ia_IH p l e R s m args below meth c Q D sa A as0 nL y ih out) (h : ia_bin f ih pc lv st σ n nc ns = some out) : ia_WW p l e R s m args below meth c Q D sa A as0 nL y pc lv st σ n nc ns := by
  unfold ia_bin at h
  intro H locs ws tys ls l' vst hl hL hSt hK hP hD hS hn hR hx h1 h2
  split at h
  · rename_i b a t
    obtain ⟨_, _, rfl, ⟨z, rfl, z1, z2⟩, _, vt, rfl, ⟨x, rfl, x1, x2⟩, g3⟩ := hSt
    have hz := hPz b _ rfl z z1 z2
    refine rule x z _ _ _ _ hz ?_
    split at h
    · rename_i ha
      split at h
      · rename_i hb
        rw [ia_pi_eq] at h
        refine ihk _ _ _ _ _ _ _ h H locs ws tys ls l' _ hl hL ⟨_, _, rfl, ?_, g3⟩ hK hP hD hS hn hR hx h1 h2
        rw [← ia_one (ia_beq ha) x1 x2, ← ia_one (ia_beq hb) z1 z2, ← hf]
        exact ia_v_one _ _ _
      · rw [ia_nx_eq] at h
        exact ihk _ _ _ _ _ _ _ h H locs ws tys ls l' _ hl hL ⟨_, _, rfl, ia_v_all _ _ _, g3⟩ hK hP hD hS hn hR hx h1 h2
    · rw [ia_nx_eq] at h
      exact ihk _ _ _ _ _ _ _ h H locs ws tys ls l' _ hl hL ⟨_, _, rfl, ia_v_all _ _ _, g3⟩ hK hP hD hS hn hR hx h1 h2
  · cases h
theorem ia_op_ok (op : Int32 → Int32 → Int32) (x z : Int32) : ia_E (op x z) = ia_op op (ia_E x) (ia_E z) := by
  unfold ia_op
  rw [ia_DE, ia_DE]
theorem ia_g_un {f : Nat → Nat} {op : Int32 → Int32} (hf : ∀ x, ia_E (op x) = f (ia_E x))
    (rule : ∀ (x : Int32) (H : Heap) (locs : List Loc) (ls : Array Slot) (vst : List Value), W p l e R s m args below meth c H locs nc ns Q (F0 m (Nat.add pc 1) ls (.int (op x) :: vst)) → W p l e R s m args below meth c H locs nc ns Q (F0 m pc ls (.int x :: vst)))
    (ihk : ia_IH p l e R s m args below meth c Q D sa A as0 nL y ih out) (h : ia_un f ih pc lv st σ n nc ns = some out) : ia_WW p l e R s m args below meth c Q D sa A as0 nL y pc lv st σ n nc ns := by
  unfold ia_un at h
  intro H locs ws tys ls l' vst hl hL hSt hK hP hD hS hn hR hx h1 h2
  split at h
  · rename_i a t
    obtain ⟨_, vt, rfl, ⟨x, rfl, x1, x2⟩, g3⟩ := hSt
    refine rule x _ _ _ _ ?_
    split at h
    · rename_i ha
      rw [ia_pi_eq] at h
      refine ihk _ _ _ _ _ _ _ h H locs ws tys ls l' _ hl hL ⟨_, _, rfl, ?_, g3⟩ hK hP hD hS hn hR hx h1 h2
      rw [← ia_one (ia_beq ha) x1 x2, ← hf]
      exact ia_v_one _ _ _
    · rw [ia_nx_eq] at h
      exact ihk _ _ _ _ _ _ _ h H locs ws tys ls l' _ hl hL ⟨_, _, rfl, ia_v_all _ _ _, g3⟩ hK hP hD hS hn hR hx h1 h2
  · cases h
/-- branches -/
theorem ia_ltb_ok {a b : Nat × Nat} {x z : Int32} {r : Bool} (h : ia_ltb a b = some r) (x1 : a.1 ≤ ia_E x) (x2 : ia_E x ≤ a.2) (z1 : b.1 ≤ ia_E z) (z2 : ia_E z ≤ b.2) : (r = true → x < z) ∧ (r = false → ¬ x < z) := by
  unfold ia_ltb at h
  rw [ia_lt]
  split at h
  · rename_i q
    cases h
    have := ia_blt q
    exact ⟨fun _ => by omega, fun q => by cases q⟩
  · split at h
    · rename_i q
      cases h
      have := ia_ble q
      exact ⟨fun q => (by cases q), fun _ => by omega⟩
    · cases h
theorem ia_eqb_ok {a b : Nat × Nat} {x z : Int32} {r : Bool} (h : ia_eqb a b = some r) (x1 : a.1 ≤ ia_E x) (x2 : ia_E x ≤ a.2) (z1 : b.1 ≤ ia_E z) (z2 : ia_E z ≤ b.2) : (r = true → x = z) ∧ (r = false → ¬ x = z) := by
  unfold ia_eqb at h
  rw [ia_eq]
  split at h
  · rename_i q
    cases h
    have := ia_blt q
    exact ⟨fun q => (by cases q), fun _ => by omega⟩
  · split at h
    · rename_i q
      cases h
      have := ia_blt q
      exact ⟨fun q => (by cases q), fun _ => by omega⟩
    · split at h
      · rename_i q1
        split at h
        · rename_i q2
          split at h
          · rename_i q3
            cases h
            have := ia_beq q1
            have := ia_beq q2
            have := ia_beq q3
            exact ⟨fun _ => by omega, fun q => by cases q⟩
          · cases h
        · cases h
      · cases h
theorem ia_not_ok {q : Option Bool} {r : Bool} (h : ia_not q = some r) : q = some (!r) := by
  unfold ia_not at h
  split at h <;> cases h <;> rfl
theorem ia_jmp_ok {o : Int} (ihk : ia_IH p l e R s m args below meth c Q D sa A as0 nL y ih out) (h : ia_jmp o ih pc lv st σ n nc ns = some out) : ∃ t : Nat, (pc : Int) + o = (t : Int) ∧ ia_WW p l e R s m args below meth c Q D sa A as0 nL y t lv st σ n nc ns := by
  unfold ia_jmp at h
  split at h
  · rename_i t ht
    rw [ia_nx_eq] at h
    exact ⟨t, ht, ihk _ _ _ _ _ _ _ h⟩
  · cases h
theorem ia_br_ok {o : Int} {r : Option Bool} (ihk : ia_IH p l e R s m args below meth c Q D sa A as0 nL y ih out) (h : ia_br r o ih pc lv st σ n nc ns = some out) : ∃ t : Nat, (pc : Int) + o = (t : Int) ∧ ((r = some true ∧ ia_WW p l e R s m args below meth c Q D sa A as0 nL y t lv st σ n nc ns) ∨ (r = some false ∧ ia_WW p l e R s m args below meth c Q D sa A as0 nL y (pc + 3) lv st σ n nc ns)) := by
  unfold ia_br at h
  split at h
  · rename_i t ht
    refine ⟨t, ht, ?_⟩
    split at h
    · rw [ia_nx_eq] at h
      exact Or.inl ⟨rfl, ihk _ _ _ _ _ _ _ h⟩
    · rw [ia_nx_eq] at h
      exact Or.inr ⟨rfl, ihk _ _ _ _ _ _ _ h⟩
    · cases h
  · cases h
def ia_rel (c : ClassFile.Cond) (x z : Int32) : Prop := match c with
  | .eq => x = z
  | .ne => ¬ x = z
  | .lt => x < z
  | .ge => z ≤ x
  | .gt => z < x
  | .le => x ≤ z
theorem ia_cmp_ok {cc : ClassFile.Cond} {a b : Nat × Nat} {x z : Int32} {r : Bool} (h : ia_cmp cc a b = some r) (x1 : a.1 ≤ ia_E x) (x2 : ia_E x ≤ a.2) (z1 : b.1 ≤ ia_E z) (z2 : ia_E z ≤ b.2) : (r = true → ia_rel cc x z) ∧ (r = false → ¬ ia_rel cc x z) := by
  have nle : ∀ u v : Int32, ¬ u < v → v ≤ u := fun u v q => by rw [ia_lt] at q; rw [ia_le]; omega
  have nlt : ∀ u v : Int32, u < v → ¬ v ≤ u := fun u v q => by rw [ia_lt] at q; rw [ia_le]; omega
  cases cc
  · exact ia_eqb_ok h x1 x2 z1 z2
  · have g := ia_eqb_ok (ia_not_ok h) x1 x2 z1 z2
    exact ⟨fun e => g.2 (by rw [e]; rfl), fun e q => q (g.1 (by rw [e]; rfl))⟩
  · exact ia_ltb_ok h x1 x2 z1 z2
  · have g := ia_ltb_ok (ia_not_ok h) x1 x2 z1 z2
    exact ⟨fun e => nle _ _ (g.2 (by rw [e]; rfl)), fun e => nlt _ _ (g.1 (by rw [e]; rfl))⟩
  · exact ia_ltb_ok h z1 z2 x1 x2
  · have g := ia_ltb_ok (ia_not_ok h) z1 z2 x1 x2
    exact ⟨fun e => nle _ _ (g.2 (by rw [e]; rfl)), fun e => nlt _ _ (g.1 (by rw [e]; rfl))⟩
end IAS
end
section
/-! ## the tables' words, by their places -/
noncomputable def ia_TB : List Cond := lw_tbl.filter goodWord
theorem ia_w_in {p : Nat} {w : Cond} (h : ia_w p = w) (hn : w ≠ .returned) : w ∈ lw_tbl := by
  unfold ia_w at h
  cases hp : ia_at lw_tbl p with
  | none => rw [hp] at h; exact absurd h.symm hn
  | some z =>
    rw [hp] at h
    rw [ia_at_eq] at hp
    have hz : z = w := h
    rw [← hz]
    exact List.mem_of_getElem? hp
theorem ia_w_tb {p : Nat} {w : Cond} (h : ia_w p = w) (hn : w ≠ .returned) (hg : goodWord w = true) : w ∈ ia_TB := List.mem_filter.mpr ⟨ia_w_in h hn, hg⟩
noncomputable def ia_own (c : Nat) : String := ia_ow.getD c ""
noncomputable def ia_is (w : Nat) (c : Cond) : Bool := decide (ia_w w = c) && (goodWord c && decide (c ≠ .returned))
theorem ia_is_in {p : Nat} {w : Cond} (h : ia_is p w = true) : w ∈ ia_TB := by
  unfold ia_is at h
  simp only [Bool.and_eq_true, decide_eq_true_eq] at h
  exact ia_w_tb h.1 h.2.2 h.2.1
/-- a class: its words stand in the tables -/
noncomputable def ia_okC (ci : Nat) : Bool := match vwCl[ci]?, ia_Cp[ci]? with
  | some q, some r => decide (q.1 = ia_own ci) && (ia_is r.1 (.instantiable q.1 q.2.2) && (ia_is r.2.1 (.initialized q.1) && ((List.range q.2.2).all (fun k => ia_is (r.2.2.getD k 0) (u_lay q.1 q.2.1 k)))))
  | _, _ => false
set_option maxRecDepth 100000 in
theorem ia_okC_all : (List.range 13).all ia_okC = true := by decide +kernel
theorem ia_okC_at {ci : Nat} {q : vw_C} (hc : vwCl[ci]? = some q) : (∀ w ∈ u_ws q.1 q.2.1 q.2.2, w ∈ ia_TB) ∧ Cond.instantiable q.1 q.2.2 ∈ ia_TB ∧ Cond.initialized q.1 ∈ ia_TB ∧ q.1 = ia_own ci := by
  have hl : ci < 13 := (List.getElem?_eq_some_iff.mp hc).1
  have h := List.all_eq_true.mp ia_okC_all ci (List.mem_range.mpr hl)
  unfold ia_okC at h
  rw [hc] at h
  split at h
  · rename_i q' r heq hr
    cases heq
    simp only [Bool.and_eq_true, decide_eq_true_eq] at h
    obtain ⟨h0, h⟩ := h
    refine ⟨fun w hw => ?_, ia_is_in h.1, ia_is_in h.2.1, h0⟩
    obtain ⟨k, hk, rfl⟩ := List.mem_map.mp hw
    exact ia_is_in (List.all_eq_true.mp h.2.2 k hk)
  · cases h
/-- a field's kind -/
noncomputable def ia_kt (kd : Nat) (ty : Option FieldType) : Bool := match ty with
  | some .int => Nat.beq kd 0
  | some .boolean => Nat.beq kd 1
  | some .long => Nat.beq kd 2
  | some (.object _) => Nat.beq kd 3 || Nat.beq kd 7
  | some (.array _) => Nat.beq kd 3 || Nat.beq kd 7
  | _ => false
noncomputable def ia_okM (k : Nat) : Bool := k2_isCode (ia_cw k) && (goodWord (ia_cw k) && (decide ((ia_nm k).cls = ia_own (ia_cls k)) && (plainName (ia_nm k).cls && (ia_is (ia_mt k).2.1 (.initialized (ia_nm k).cls) && (decide ((ia_nm k).cls ≠ "java/lang/invoke/MethodHandle") && (decide ((ia_nm k).cls ≠ "java/lang/invoke/VarHandle") && Nat.ble (ia_maxL k) 20))))))
noncomputable def ia_okI (c : Nat) (q : Nat × Nat × Nat × Nat × Nat × Nat) : Bool := match q with
  | (i, 0, ci, sl, kd, p) => (match vwCl[ci]? with
    | some r => Nat.blt sl r.2.2 && (ia_is p (.fieldLink (ia_own c) i (r.2.1 sl).1 (r.2.1 sl).2.1 (r.2.1 sl).2.2.1) && (decide ((r.2.1 sl).2.2.2 = Nat.ble 4 kd) && (decide ((r.2.1 sl).1 = r.1) && (decide (r.1 = ia_own ci) && ia_kt kd (parseFieldDescriptor (r.2.1 sl).2.2.1)))))
    | none => false)
  | (i, 1, y, 0, _, p) => ia_okM y && (ia_is p (.methodLink (ia_own c) i (ia_nm y)) && (ia_is (ia_mt y).2.2.1 (.instanceMethod (ia_nm y)) && (ia_is (ia_mt y).2.2.2.1 (.selects (ia_nm y).cls (ia_nm y) (ia_nm y)) && (Nat.blt (ia_cls y) 18 && decide ((parseMethodDescriptor (ia_nm y).desc).map (fun d => d.parameters.length + 1) = some (ia_na y))))))
  | (i, 1, y, 1, _, p) => ia_okM y && (ia_is p (.methodLink (ia_own c) i (ia_nm y)) && (ia_is (ia_mt y).2.2.1 (.static (ia_nm y)) && decide ((parseMethodDescriptor (ia_nm y).desc).map (fun d => d.parameters.length) = some (ia_na y))))
  | (i, 1, y, 2, _, p) => ia_okM y && (ia_is p (.methodLink (ia_own c) i (ia_nm y)) && (ia_is (ia_mt y).2.2.1 (.instanceMethod (ia_nm y)) && (decide ((ia_nm y).name = "<init>" ∧ ia_ret y = none) && decide ((parseMethodDescriptor (ia_nm y).desc).map (fun d => d.parameters.length + 1) = some (ia_na y)))))
  | (i, 1, y, 3, _, p) => ia_okM y && (decide (ia_w p = .methodLinkNest (ia_own c) i (ia_nm y) RX11) && (decide (p ∈ ia_Np) && (ia_is (ia_mt y).2.2.1 (.instanceMethod (ia_nm y)) && (decide ((ia_nm y).name = "<init>" ∧ ia_ret y = none) && decide ((parseMethodDescriptor (ia_nm y).desc).map (fun d => d.parameters.length + 1) = some (ia_na y))))))
  | (i, 2, _, _, _, p) => ia_is p (.methodLink (ia_own c) i Lib.objectInit)
  | (i, 3, _, _, _, p) => ia_is p (.methodLink (ia_own c) i arraycopyName)
  | (i, 6, ci, _, _, p) => (match vwCl[ci]? with
    | some r => ia_is p (.classLink (ia_own c) i r.1)
    | none => false)
  | (i, 7, _, _, _, p) => ia_is p (.methodLink (ia_own c) i Lib.Math.min.name)
  | (i, 8, v, _, _, p) => ia_is p (.constant (ia_own c) i (ia_D v)) && Nat.beq (ia_E (ia_D v)) v
  | (i, 9, v, _, _, p) => ia_is p (.constantLong (ia_own c) i (Int64.ofNat v))
  | (i, 10, _, _, _, _) => Nat.beq c 5 && Nat.beq i 19
  | (i, 11, _, _, _, p) => ia_is p (.fieldLink (ia_own c) i "java/lang/String" "value" "[B")
  | (i, 12, _, _, _, p) => ia_is p (.fieldLink (ia_own c) i "java/lang/String" "coder" "B")
  | (i, 13, _, _, _, p) => ia_is p (.fieldLink (ia_own c) i "java/lang/String" "COMPACT_STRINGS" "Z")
  | (i, 14, _, _, _, p) => ia_is p (.fieldLink (ia_own c) i "jdk/internal/util/Preconditions" "SIOOBE_FORMATTER" "Ljava/util/function/BiFunction;")
  | _ => false
set_option maxRecDepth 100000 in
theorem ia_okI_all : (List.range 18).all (fun c => ((ia_at ia_Po c).getD []).all (ia_okI c)) = true := by decide +kernel
set_option maxRecDepth 100000 in
theorem ia_okM_all : (List.range 164).all ia_okM = true := by decide +kernel
theorem ia_lk_in : ∀ (l : List (Nat × Nat × Nat × Nat × Nat × Nat)) {i : Nat} {r : Nat × Nat × Nat × Nat × Nat}, ia_lk l i = some r → (i, r) ∈ l
  | [], _, _, h => by cases h
  | a :: l, i, r, h => by
    have h' : (match Nat.beq a.1 i with
      | true => some a.2
      | false => ia_lk l i) = some r := h
    split at h'
    · rename_i q
      cases h'
      have := ia_beq q
      subst this
      exact List.mem_cons_self
    · exact List.mem_cons_of_mem _ (ia_lk_in l h')
theorem ia_pl_ok {c i : Nat} {r : Nat × Nat × Nat × Nat × Nat} (h : ia_pl c i = some r) : ia_okI c (i, r) = true := by
  unfold ia_pl at h
  have h1 := ia_lk_in _ h
  by_cases hc : c < 18
  · exact List.all_eq_true.mp (List.all_eq_true.mp ia_okI_all c (List.mem_range.mpr hc)) _ h1
  · have h0 : ia_at ia_Po c = none := by
      rw [ia_at_eq]
      have hl : ia_Po.length = 18 := by decide +kernel
      exact List.getElem?_eq_none (by omega)
    rw [h0] at h1
    cases h1
/-- the code's word, taken apart -/
theorem ia_cw_eq {k : Nat} (h : k2_isCode (ia_cw k) = true) : ia_cw k = .code (ia_nm k) (ia_code k) (ia_maxL k) (ia_ret k) := by
  unfold ia_nm ia_code ia_maxL ia_ret
  generalize ia_cw k = w at h
  cases w <;> first | rfl | cases h
theorem ia_okM_eq {k : Nat} (h : ia_okM k = true) : ia_cw k = .code (ia_nm k) (ia_code k) (ia_maxL k) (ia_ret k) ∧ ia_cw k ∈ ia_TB ∧ (ia_nm k).cls = ia_own (ia_cls k) ∧ plainName (ia_nm k).cls = true ∧ Cond.initialized (ia_nm k).cls ∈ ia_TB ∧ (ia_nm k).cls ≠ "java/lang/invoke/MethodHandle" ∧ (ia_nm k).cls ≠ "java/lang/invoke/VarHandle" ∧ ia_maxL k ≤ 20 := by
  unfold ia_okM at h
  simp only [Bool.and_eq_true, decide_eq_true_eq] at h
  obtain ⟨h1, h2, h3, h4, h5, h6, h7, h8⟩ := h
  have e := ia_cw_eq h1
  exact ⟨e, ia_w_tb (p := (ia_mt k).1) rfl (by rw [e]; intro z; cases z) h2, h3, h4, ia_is_in h5, h6, h7, ia_ble h8⟩
theorem ia_good {w w2 : Cond} (h : w2 ∈ ia_TB) : GoodIn (w :: ia_TB) (w2 :: ia_TB) := by
  intro z hz
  have hz' : z ∈ ia_TB := by
    rcases List.mem_cons.mp hz with rfl | q
    · exact h
    · exact q
  exact ⟨List.mem_cons_of_mem _ hz', good_of_word (List.mem_filter.mp hz').2⟩
theorem ia_good0 {w2 : Cond} (h : w2 ∈ ia_TB) : GoodIn lw_tbl (w2 :: ia_TB) := by
  intro z hz
  have hz' : z ∈ ia_TB := by
    rcases List.mem_cons.mp hz with rfl | q
    · exact h
    · exact q
  exact ⟨(List.mem_filter.mp hz').1, good_of_word (List.mem_filter.mp hz').2⟩
set_option maxRecDepth 100000 in
theorem ia_oi : ia_is 144 (.instanceMethod Lib.objectInit) = true := by decide +kernel
set_option maxRecDepth 100000 in
theorem ia_oc : ia_is 145 (.code Lib.objectInit ⟨#[0xb1]⟩ 1 none) = true := by decide +kernel
set_option maxRecDepth 100000 in
theorem ia_an : ia_is 828 (.native arraycopyName) = true := by decide +kernel
set_option maxRecDepth 100000 in
theorem ia_ast : ia_is 827 (.static arraycopyName) = true := by decide +kernel
set_option maxRecDepth 100000 in
theorem ia_asy : ia_is 132 (.initialized "java/lang/System") = true := by decide +kernel
set_option maxRecDepth 100000 in
theorem ia_mms : ia_is 716 (.static Lib.Math.min.name) = true := by decide +kernel
set_option maxRecDepth 100000 in
theorem ia_mmi : ia_is 131 (.initialized "java/lang/Math") = true := by decide +kernel
set_option maxRecDepth 100000 in
theorem ia_mmc : ia_is 717 (.code Lib.Math.min.name Lib.Math.min.code 2 (some .int)) = true := by decide +kernel
set_option maxRecDepth 100000 in
theorem ia_aci : ia_is 251 (.arrayClass .int) = true := by decide +kernel
set_option maxRecDepth 100000 in
theorem ia_acj : ia_is 252 (.arrayClass .long) = true := by decide +kernel
set_option maxRecDepth 100000 in
theorem ia_acb : ia_is 253 (.arrayClass .byte) = true := by decide +kernel
set_option maxRecDepth 100000 in
theorem ia_acz : ia_is 1641 (.arrayClass .boolean) = true := by decide +kernel
/-! what an entry of a pool says -/
theorem ia_ok0 {c i ci sl kd p : Nat} (h : ia_okI c (i, 0, ci, sl, kd, p) = true) : ∃ r : vw_C, vwCl[ci]? = some r ∧ sl < r.2.2 ∧ Cond.fieldLink (ia_own c) i (r.2.1 sl).1 (r.2.1 sl).2.1 (r.2.1 sl).2.2.1 ∈ ia_TB ∧ (r.2.1 sl).2.2.2 = Nat.ble 4 kd ∧ (r.2.1 sl).1 = r.1 ∧ r.1 = ia_own ci ∧ ia_kt kd (parseFieldDescriptor (r.2.1 sl).2.2.1) = true := by
  have h' : (match vwCl[ci]? with
    | some r => Nat.blt sl r.2.2 && (ia_is p (.fieldLink (ia_own c) i (r.2.1 sl).1 (r.2.1 sl).2.1 (r.2.1 sl).2.2.1) && (decide ((r.2.1 sl).2.2.2 = Nat.ble 4 kd) && (decide ((r.2.1 sl).1 = r.1) && (decide (r.1 = ia_own ci) && ia_kt kd (parseFieldDescriptor (r.2.1 sl).2.2.1)))))
    | none => false) = true := h
  cases hv : vwCl[ci]? with
  | none => rw [hv] at h'; cases h'
  | some r =>
    rw [hv] at h'
    simp only [Bool.and_eq_true, decide_eq_true_eq] at h'
    obtain ⟨h1, h2, h3, h4, h5, h6⟩ := h'
    exact ⟨r, rfl, ia_blt h1, ia_is_in h2, h3, h4, h5, h6⟩
theorem ia_ok1v {c i y k p : Nat} (h : ia_okI c (i, 1, y, 0, k, p) = true) : ia_okM y = true ∧ Cond.methodLink (ia_own c) i (ia_nm y) ∈ ia_TB ∧ Cond.instanceMethod (ia_nm y) ∈ ia_TB ∧ Cond.selects (ia_nm y).cls (ia_nm y) (ia_nm y) ∈ ia_TB ∧ ia_cls y < 18 ∧ (parseMethodDescriptor (ia_nm y).desc).map (fun d => d.parameters.length + 1) = some (ia_na y) := by
  have h' : (ia_okM y && (ia_is p (.methodLink (ia_own c) i (ia_nm y)) && (ia_is (ia_mt y).2.2.1 (.instanceMethod (ia_nm y)) && (ia_is (ia_mt y).2.2.2.1 (.selects (ia_nm y).cls (ia_nm y) (ia_nm y)) && (Nat.blt (ia_cls y) 18 && decide ((parseMethodDescriptor (ia_nm y).desc).map (fun d => d.parameters.length + 1) = some (ia_na y))))))) = true := h
  simp only [Bool.and_eq_true, decide_eq_true_eq] at h'
  obtain ⟨h1, h2, h3, h4, h5, h6⟩ := h'
  exact ⟨h1, ia_is_in h2, ia_is_in h3, ia_is_in h4, ia_blt h5, h6⟩
theorem ia_ok1s {c i y k p : Nat} (h : ia_okI c (i, 1, y, 1, k, p) = true) : ia_okM y = true ∧ Cond.methodLink (ia_own c) i (ia_nm y) ∈ ia_TB ∧ Cond.static (ia_nm y) ∈ ia_TB ∧ (parseMethodDescriptor (ia_nm y).desc).map (fun d => d.parameters.length) = some (ia_na y) := by
  have h' : (ia_okM y && (ia_is p (.methodLink (ia_own c) i (ia_nm y)) && (ia_is (ia_mt y).2.2.1 (.static (ia_nm y)) && decide ((parseMethodDescriptor (ia_nm y).desc).map (fun d => d.parameters.length) = some (ia_na y))))) = true := h
  simp only [Bool.and_eq_true, decide_eq_true_eq] at h'
  obtain ⟨h1, h2, h3, h6⟩ := h'
  exact ⟨h1, ia_is_in h2, ia_is_in h3, h6⟩
theorem ia_ok1i {c i y k p : Nat} (h : ia_okI c (i, 1, y, 2, k, p) = true) : ia_okM y = true ∧ Cond.methodLink (ia_own c) i (ia_nm y) ∈ ia_TB ∧ Cond.instanceMethod (ia_nm y) ∈ ia_TB ∧ ((ia_nm y).name = "<init>" ∧ ia_ret y = none) ∧ (parseMethodDescriptor (ia_nm y).desc).map (fun d => d.parameters.length + 1) = some (ia_na y) := by
  have h' : (ia_okM y && (ia_is p (.methodLink (ia_own c) i (ia_nm y)) && (ia_is (ia_mt y).2.2.1 (.instanceMethod (ia_nm y)) && (decide ((ia_nm y).name = "<init>" ∧ ia_ret y = none) && decide ((parseMethodDescriptor (ia_nm y).desc).map (fun d => d.parameters.length + 1) = some (ia_na y)))))) = true := h
  simp only [Bool.and_eq_true, decide_eq_true_eq] at h'
  obtain ⟨h1, h2, h3, h4, h6⟩ := h'
  exact ⟨h1, ia_is_in h2, ia_is_in h3, h4, h6⟩
theorem ia_ok1n {c i y k p : Nat} (h : ia_okI c (i, 1, y, 3, k, p) = true) : ia_okM y = true ∧ ia_w p = .methodLinkNest (ia_own c) i (ia_nm y) RX11 ∧ p ∈ ia_Np ∧ Cond.instanceMethod (ia_nm y) ∈ ia_TB ∧ ((ia_nm y).name = "<init>" ∧ ia_ret y = none) ∧ (parseMethodDescriptor (ia_nm y).desc).map (fun d => d.parameters.length + 1) = some (ia_na y) := by
  have h' : (ia_okM y && (decide (ia_w p = .methodLinkNest (ia_own c) i (ia_nm y) RX11) && (decide (p ∈ ia_Np) && (ia_is (ia_mt y).2.2.1 (.instanceMethod (ia_nm y)) && (decide ((ia_nm y).name = "<init>" ∧ ia_ret y = none) && decide ((parseMethodDescriptor (ia_nm y).desc).map (fun d => d.parameters.length + 1) = some (ia_na y))))))) = true := h
  simp only [Bool.and_eq_true, decide_eq_true_eq] at h'
  obtain ⟨h1, h2, h3, h4, h5, h6⟩ := h'
  exact ⟨h1, h2, h3, ia_is_in h4, h5, h6⟩
theorem ia_ok6 {c i ci b k p : Nat} (h : ia_okI c (i, 6, ci, b, k, p) = true) : ∃ r : vw_C, vwCl[ci]? = some r ∧ Cond.classLink (ia_own c) i r.1 ∈ ia_TB := by
  have h' : (match vwCl[ci]? with
    | some r => ia_is p (.classLink (ia_own c) i r.1)
    | none => false) = true := h
  cases hv : vwCl[ci]? with
  | none => rw [hv] at h'; cases h'
  | some r => rw [hv] at h'; exact ⟨r, rfl, ia_is_in h'⟩
theorem ia_ok8 {c i v b k p : Nat} (h : ia_okI c (i, 8, v, b, k, p) = true) : Cond.constant (ia_own c) i (ia_D v) ∈ ia_TB ∧ ia_E (ia_D v) = v := by
  have h' : (ia_is p (.constant (ia_own c) i (ia_D v)) && Nat.beq (ia_E (ia_D v)) v) = true := h
  rw [Bool.and_eq_true] at h'
  exact ⟨ia_is_in h'.1, ia_beq h'.2⟩
end
section
/-! ## instructions over the world -/
section IAH
variable {p : Program} {l : Launch} {e : Env} {R : Room} {s : State} {m : MethodId} {args : Array Value} {below : List Frame} {meth : Method} {c : Code} {Q : State → Prop}
variable {D : va_G} {sa : Nat × Nat} {A : Nat → Prop} {as0 : List Nat} {nL y pc : Nat} {lv : List (Option ia_V)} {st : List ia_V} {σ : ia_H} {n nc ns : Nat} {ih : ia_K} {out : ia_O} {i d : Nat}
/-- what a method's body knows of the machine -/
def ia_X (p : Program) (R : Room) (s : State) (m : MethodId) (args : Array Value) (meth : Method) (c : Code) (y d : Nat) : Prop :=
  p.tables.exec = Jvm.exec ∧ c.code = ia_code y ∧ c.maxLocals = ia_maxL y ∧ s.vm.findClass (ia_own (ia_cls y)) = some m.cls ∧ (∀ w ∈ ia_cw y :: ia_TB, w.before args s = true) ∧ meth.locks = false ∧ meth.sig.returnType = ia_ret y ∧ R.frames = d + 1 ∧ R.locals = 100 * (d + 1) ∧ R.cells = ia_mc y ∧ R.slots = ia_ms y ∧ ((ia_nm y).name = "<init>" → meth.name = "<init>") ∧ ia_okM y = true
def ia_tx : String := "span winter person food meeting debt eats ails mends meet hour or and not ill owes like in date hunger coin number "
noncomputable def ia_by : List Int32 := ia_chars.map ia_D
/-- what is so of the machine beside the world: links of nest mates, classes of arrays, the String and two statics -/
def ia_N (sa : Nat × Nat) (A : Nat → Prop) (U : State) (H : Heap) : Prop :=
  (∀ w ∈ ia_Np, va_Nw (ia_w w) U) ∧ va_AO RX3 U ∧ va_AO RX7 U ∧ vk_R RX5 19 ia_tx sa.1 U ∧ vk_S 1 [115] [ia_by] (fun _ => sa.1) (fun _ => sa.2) A U H ∧ va_Z "java/lang/String" "COMPACT_STRINGS" "Z" (.int 1) A U H ∧ va_Zq "jdk/internal/util/Preconditions" "SIOOBE_FORMATTER" "Ljava/util/function/BiFunction;" A U H
theorem ia_X.hts (X : ia_X p R s m args meth c y d) {w : Cond} (h : w ∈ ia_TB) : w.before args s = true := X.2.2.2.2.1 w (List.mem_cons_of_mem _ h)
theorem ia_hts (X : ia_X p R s m args meth c y d) : ∀ w ∈ ia_TB, w.before args s = true := fun _ h => X.hts h
/-- the values of a new object's fields -/
noncomputable def ia_zv (a : ia_V) : Value := match a with
  | .inl _ => .int 0
  | .inr (.inl _) => .long 0
  | .inr (.inr _) => .null
noncomputable def ia_zvs (ci : Nat) : List Value := ((ia_Fs.getD ci (0, [])).2.flatten).map ia_zv
noncomputable def ia_zz (a : ia_V) (v : Option Value) : Bool := match a, v with
  | .inl q, some (.int x) => decide (x = 0) && (Nat.beq q.1 2147483648 && Nat.beq q.2 2147483648)
  | .inr (.inl z), some (.long x) => decide (x = 0) && Nat.beq z 0
  | .inr (.inr (.inl none)), some .null => true
  | _, _ => false
noncomputable def ia_zc (l : List (List ia_V)) (fs : List Value) : Bool := Nat.ble l.length 4 && (List.range 64).all (fun k => match ia_get2 l k with
  | some a => ia_zz a fs[k]?
  | none => true)
theorem ia_zz_ok {a : ia_V} {w : Option Value} (h : ia_zz a w = true) (sa : Nat × Nat) (ad : List Nat) : ∃ v, w = some v ∧ ia_v sa ad a v := by
  unfold ia_zz at h
  split at h
  · simp only [Bool.and_eq_true, decide_eq_true_eq] at h
    obtain ⟨rfl, h2, h3⟩ := h
    have h2 := ia_beq h2
    have h3 := ia_beq h3
    exact ⟨_, rfl, 0, rfl, by rw [ia_E0]; omega, by rw [ia_E0]; omega⟩
  · simp only [Bool.and_eq_true, decide_eq_true_eq] at h
    obtain ⟨rfl, h2⟩ := h
    have h2 := ia_beq h2
    subst h2
    exact ⟨_, rfl, rfl⟩
  · exact ⟨_, rfl, rfl⟩
  · cases h
theorem ia_zvs_ok {l : List (List ia_V)} {fs : List Value} {sa : Nat × Nat} {ad : List Nat} {k : Nat} {a : ia_V} (hz : ia_zc l fs = true) (h : ia_get2 l k = some a) : ∃ v, fs[k]? = some v ∧ ia_v sa ad a v := by
  unfold ia_zc at hz
  rw [Bool.and_eq_true] at hz
  have hl := ia_ble hz.1
  obtain ⟨c, h1, -⟩ := ia_get2_eq h
  have hlt := (List.getElem?_eq_some_iff.mp h1).1
  have hk := List.all_eq_true.mp hz.2 k (List.mem_range.mpr (by omega))
  rw [h] at hk
  exact ia_zz_ok hk sa ad
set_option maxRecDepth 100000 in
/-- a class's types, names, new fields: by its number -/
theorem ia_cty {ci : Nat} {r : vw_C} (hc : vwCl[ci]? = some r) : ∃ ty : Nat → FieldType, (∀ k, k < r.2.2 → parseFieldDescriptor (r.2.1 k).2.2.1 = some (ty k)) ∧ (∀ a, a < r.2.2 → ∀ b, b < r.2.2 → a ≠ b → (r.2.1 a).2.1 ≠ (r.2.1 b).2.1) ∧ ∃ q, ia_Fs[ci]? = some q ∧ q.1 = r.2.2 ∧ ∃ fs : List Value, (∀ j, j < r.2.2 → defaultValue (ty j) = vp_V fs j) ∧ ∀ (sa : Nat × Nat) (ad : List Nat) (k : Nat) (a : ia_V), ia_get2 q.2 k = some a → ∃ v, fs[k]? = some v ∧ ia_v sa ad a v := by
  match ci, hc with
  | 0, hc => cases hc; exact ⟨tyX0, tyX0_ok, nmX0, _, rfl, rfl, ia_zvs 0, by decide +kernel, fun _ _ _ _ h => ia_zvs_ok (by decide +kernel) h⟩
  | 1, hc => cases hc; exact ⟨tyX1, tyX1_ok, nmX1, _, rfl, rfl, ia_zvs 1, by decide +kernel, fun _ _ _ _ h => ia_zvs_ok (by decide +kernel) h⟩
  | 2, hc => cases hc; exact ⟨tyX2, tyX2_ok, nmX2, _, rfl, rfl, ia_zvs 2, by decide +kernel, fun _ _ _ _ h => ia_zvs_ok (by decide +kernel) h⟩
  | 3, hc => cases hc; exact ⟨tyX3, tyX3_ok, nmX3, _, rfl, rfl, ia_zvs 3, by decide +kernel, fun _ _ _ _ h => ia_zvs_ok (by decide +kernel) h⟩
  | 4, hc => cases hc; exact ⟨tyX4, tyX4_ok, nmX4, _, rfl, rfl, ia_zvs 4, by decide +kernel, fun _ _ _ _ h => ia_zvs_ok (by decide +kernel) h⟩
  | 5, hc => cases hc; exact ⟨tyX5, tyX5_ok, nmX5, _, rfl, rfl, ia_zvs 5, by decide +kernel, fun _ _ _ _ h => ia_zvs_ok (by decide +kernel) h⟩
  | 6, hc => cases hc; exact ⟨tyX6, tyX6_ok, nmX6, _, rfl, rfl, ia_zvs 6, by decide +kernel, fun _ _ _ _ h => ia_zvs_ok (by decide +kernel) h⟩
  | 7, hc => cases hc; exact ⟨tyX7, tyX7_ok, nmX7, _, rfl, rfl, ia_zvs 7, by decide +kernel, fun _ _ _ _ h => ia_zvs_ok (by decide +kernel) h⟩
  | 8, hc => cases hc; exact ⟨tyX8, tyX8_ok, nmX8, _, rfl, rfl, ia_zvs 8, by decide +kernel, fun _ _ _ _ h => ia_zvs_ok (by decide +kernel) h⟩
  | 9, hc => cases hc; exact ⟨tyX9, tyX9_ok, nmX9, _, rfl, rfl, ia_zvs 9, by decide +kernel, fun _ _ _ _ h => ia_zvs_ok (by decide +kernel) h⟩
  | 10, hc => cases hc; exact ⟨tyX10, tyX10_ok, nmX10, _, rfl, rfl, ia_zvs 10, by decide +kernel, fun _ _ _ _ h => ia_zvs_ok (by decide +kernel) h⟩
  | 11, hc => cases hc; exact ⟨tyX11, tyX11_ok, nmX11, _, rfl, rfl, ia_zvs 11, by decide +kernel, fun _ _ _ _ h => ia_zvs_ok (by decide +kernel) h⟩
  | 12, hc => cases hc; exact ⟨tyX12, tyX12_ok, nmX12, _, rfl, rfl, ia_zvs 12, by decide +kernel, fun _ _ _ _ h => ia_zvs_ok (by decide +kernel) h⟩
  | ci + 13, hc => exact absurd (List.getElem?_eq_some_iff.mp hc).1 (by show ¬ ci + 13 < 13; omega)
theorem ia_s_gf (X : ia_X p R s m args meth c y d) (N : ia_N sa A s s.heap) (hdg : decode (ia_code y) pc = .ok (.getfield i, 3)) (ihk : ia_IH p l e R s m args below meth c Q D sa A as0 nL y ih out) (h : ia_gf y i ih pc lv st σ n nc ns = some out) : ia_WW p l e R s m args below meth c Q D sa A as0 nL y pc lv st σ n nc ns := by
  obtain ⟨hx, hb, hml, hown, hts, -⟩ := id X
  unfold ia_gf at h
  intro H locs ws tys ls l' vst hl hL hSt hK hP hD hS hn hR hxx h1 h2
  split at h
  · rename_i k t
    obtain ⟨_, vt, rfl, ⟨b, hkb, rfl⟩, g3⟩ := hSt
    split at h
    · rename_i ci sl kd pp hpl
      obtain ⟨r, hr, hsl, hlk, -, -, -, -⟩ := ia_ok0 (ia_pl_ok hpl)
      have hci : ci < 13 := (List.getElem?_eq_some_iff.mp hr).1
      split at h
      · rename_i c0 hc0
        obtain ⟨hq, h⟩ := ia_if_eq h
        have hq := ia_beq hq
        split at h
        · rename_i v hv
          rw [ia_nx_eq] at h
          obtain ⟨e0, hw, hc⟩ := hR.at hc0 (by omega) hkb
          obtain ⟨vs, rfl, hvs⟩ := hc.1 (by omega)
          obtain ⟨w, hw1, hw2⟩ := hvs sl v hv
          rw [hq] at hw
          exact va_get (D := D) (ci := ci) (C := r.1) (T := r.2.1) (N := r.2.2) hx hb (ia_hts X) (ia_okC_at hr).1 hown hK hP k hw hr sl hsl (X.hts hlk) (fun _ h9 => h9) hw1 hdg (ihk _ _ _ _ _ _ _ h H locs ws tys ls l' _ hl hL ⟨_, _, rfl, hw2, g3⟩ hK hP hD hS hn hR hxx h1 h2)
        · cases h
      · cases h
    · cases h
  · rename_i t
    obtain ⟨_, vt, rfl, hv0, g3⟩ := hSt
    cases hv0
    obtain ⟨-, hco, hva, -⟩ := N.2.2.2.2.1.1 0 (by decide)
    split at h
    · rename_i hpl
      rw [ia_nx_eq] at h
      exact vk_getf hx hb hva hS hown (X.hts (ia_is_in (ia_pl_ok hpl))) (fun _ h9 => h9) hdg (ihk _ _ _ _ _ _ _ h H locs ws tys ls l' _ hl hL ⟨_, _, rfl, rfl, g3⟩ hK hP hD hS hn hR hxx h1 h2)
    · rename_i hpl
      rw [ia_nx_eq] at h
      exact vk_getf hx hb hco hS hown (X.hts (ia_is_in (ia_pl_ok hpl))) (fun _ h9 => h9) hdg (ihk _ _ _ _ _ _ _ h H locs ws tys ls l' _ hl hL ⟨_, _, rfl, ⟨0, rfl, by rw [ia_E0]; exact Nat.le_refl _, by rw [ia_E0]; exact Nat.le_refl _⟩, g3⟩ hK hP hD hS hn hR hxx h1 h2)
    · cases h
  · cases h
theorem ia_fits {ty : FieldType} {kd ci : Nat} {a : ia_V} {v : Value} {ad : List Nat} (hk : ia_kt kd (some ty) = true) (hf : ia_fit y ci kd a = true) (hv : ia_v sa ad a v) : narrow ty v = v ∧ fits ty v = true := by
  unfold ia_fit at hf
  split at hf
  · rename_i q
    obtain ⟨x, rfl, -⟩ := hv
    cases ty <;> first | exact ⟨rfl, rfl⟩ | (cases hk)
  · rename_i q
    obtain ⟨x, rfl, x1, x2⟩ := hv
    simp only [Bool.and_eq_true, Bool.or_eq_true] at hf
    have hE : ia_E x = q.1 := ia_one (ia_beq hf.1) x1 x2
    have hx : x = 0 ∨ x = 1 := by
      rcases hf.2 with z | z
      · exact Or.inl (ia_E_inj (by rw [hE, ia_beq z]; decide))
      · exact Or.inr (ia_E_inj (by rw [hE, ia_beq z]; decide))
    cases ty <;> first | (rcases hx with rfl | rfl <;> exact ⟨by decide, by decide⟩) | (cases hk)
  · cases hv
    cases ty <;> first | exact ⟨rfl, rfl⟩ | (cases hk)
  · rename_i q
    have hv' : v = .null ∨ ∃ b, v = .ref b := by
      rcases q with (_ | z) | (_ | _ | z)
      · exact Or.inl hv
      · obtain ⟨b, -, rfl⟩ := hv; exact Or.inr ⟨b, rfl⟩
      · exact Or.inr ⟨_, hv⟩
      · exact Or.inr ⟨_, hv⟩
      · exact hv
    cases ty <;> first | (rcases hv' with rfl | ⟨b, rfl⟩ <;> exact ⟨rfl, rfl⟩) | (cases hk)
  · rename_i q
    have hv' : v = .null ∨ ∃ b, v = .ref b := by
      rcases q with (_ | z) | (_ | _ | z)
      · exact Or.inl hv
      · obtain ⟨b, -, rfl⟩ := hv; exact Or.inr ⟨b, rfl⟩
      · exact Or.inr ⟨_, hv⟩
      · exact Or.inr ⟨_, hv⟩
      · exact hv
    cases ty <;> first | (rcases hv' with rfl | ⟨b, rfl⟩ <;> exact ⟨rfl, rfl⟩) | (cases hk)
  · cases hf
theorem ia_s_pf (X : ia_X p R s m args meth c y d) (hdg : decode (ia_code y) pc = .ok (.putfield i, 3)) (ihk : ia_IH p l e R s m args below meth c Q D sa A as0 nL y ih out) (h : ia_pf y i ih pc lv st σ n nc ns = some out) : ia_WW p l e R s m args below meth c Q D sa A as0 nL y pc lv st σ n nc ns := by
  obtain ⟨hx, hb, hml, hown, hts, -, -, -, -, -, -, hini, -⟩ := id X
  unfold ia_pf at h
  intro H locs ws tys ls l' vst hl hL hSt hK hP hD hS hn hR hxx h1 h2
  split at h
  · rename_i v k t
    obtain ⟨w, _, rfl, hv, _, vt, rfl, ⟨b, hkb, rfl⟩, g3⟩ := hSt
    split at h
    · rename_i ci sl kd pp hpl
      obtain ⟨r, hr, hsl, hlk, hfin, hdec, hrown, hkt⟩ := ia_ok0 (ia_pl_ok hpl)
      have hci : ci < 13 := (List.getElem?_eq_some_iff.mp hr).1
      obtain ⟨ty, hty, hnm, -⟩ := ia_cty hr
      split at h
      · rename_i c0 hc0
        obtain ⟨hq, h⟩ := ia_if_eq h
        rw [Bool.and_eq_true, Bool.and_eq_true] at hq
        obtain ⟨hq0, hq2, hq3⟩ := hq
        have hq : Nat.beq c0.1 ci = true ∧ ia_fit y ci kd v = true := ⟨hq0, hq2⟩
        have hq1 := ia_beq hq.1
        rw [ia_set2K_eq, ia_set2K_eq, ia_nx_eq] at h
        obtain ⟨e0, hw, hc⟩ := hR.at hc0 (by omega) hkb
        obtain ⟨vs, rfl, hvs⟩ := hc.1 (by omega)
        rw [hty sl hsl] at hkt
        obtain ⟨f1, f2⟩ := ia_fits hkt hq.2 hv
        have hlen : sl < vs.length := by
          obtain ⟨a9, ha9⟩ := Option.isSome_iff_exists.mp hq3
          obtain ⟨v9, hv9, -⟩ := hvs sl a9 ha9
          exact (List.getElem?_eq_some_iff.mp hv9).1
        have hR2 : ia_R sa tys (ia_set2 σ k (c0.1, c0.2.1, ia_set2 c0.2.2 sl v)) (ws.set k (b, .inr (c0.1, vs.set sl w))) := by
          refine hR.set hw ?_
          refine ⟨fun _ => ⟨vs.set sl w, rfl, fun j a hj => ?_⟩, fun z => absurd z (by show ¬ c0.1 = 50; omega), fun z => absurd z (by show ¬ c0.1 = 51; omega), fun z => absurd z (by show ¬ c0.1 = 52; omega), fun z => absurd z (by show ¬ c0.1 = 53; omega), fun z => absurd z (by show ¬ c0.1 = 54; omega), fun z => absurd z (by show ¬ c0.1 = 55; omega)⟩
          rcases ia_get2_set hj with ⟨rfl, rfl⟩ | ⟨hne, hj'⟩
          · exact ⟨w, List.getElem?_set_self hlen, hv⟩
          · obtain ⟨u, u1, u2⟩ := hvs j a hj'
            exact ⟨u, by rw [List.getElem?_set_ne (fun z => hne z.symm)]; exact u1, u2⟩
        have hfst := ia_fst_set (e := .inr (c0.1, vs.set sl w)) hw
        rw [hq1] at hw hR2 hfst
        have key : ∀ (H1 : Heap) (locs1 : List Loc), va_P D vwCl (ws.set k (b, .inr (ci, vs.set sl w))) H1 → va_D A (ws.set k (b, .inr (ci, vs.set sl w))) → va_S A s.heap H1 locs1 → W p l e R s m args below meth c H1 locs1 nc ns Q (F0 m (pc + 3) ls vt) := fun H1 locs1 hP1 hD1 hS1 =>
          ihk _ _ _ _ _ _ _ h H1 locs1 _ tys ls l' vt hl (by rw [hfst]; exact hL) (by rw [hfst]; exact g3) hK hP1 hD1 hS1 (by rw [List.length_set]; exact hn) (by rw [hq1]; exact hR2) (by rw [hfst]; exact hxx) h1 h2
        by_cases hf4 : 4 ≤ kd
        · have hfin' : (r.2.1 sl).2.2.2 = true := by rw [hfin]; exact Nat.ble_eq_true_of_le hf4
          have hk7 : (ia_cls y = ci ∧ (ia_nm y).name = "<init>") := by
            have hz := hq.2
            unfold ia_fit at hz
            split at hz
            · omega
            · omega
            · omega
            · omega
            · simp only [Bool.and_eq_true, decide_eq_true_eq] at hz
              exact ⟨ia_beq hz.1, hz.2⟩
            · cases hz
          exact va_putF (D := D) (ci := ci) (C := r.1) (T := r.2.1) (N := r.2.2) hx hb (ia_hts X) (ia_okC_at hr).1 ty hty hnm hown hK hP hD hS k hw hr sl hsl (X.hts hlk) (fun _ h9 => h9) hfin' (hini hk7.2) (by rw [hdec, hrown, hk7.1]) (hty sl hsl) f1 f2 hlen hdg key
        · have hfin' : (r.2.1 sl).2.2.2 = false := by
            rw [hfin]
            cases hz : Nat.ble 4 kd with
            | false => rfl
            | true => exact absurd (ia_ble hz) hf4
          exact va_put (D := D) (ci := ci) (C := r.1) (T := r.2.1) (N := r.2.2) hx hb (ia_hts X) (ia_okC_at hr).1 ty hty hnm hown hK hP hD hS k hw hr sl hsl (X.hts hlk) (fun _ h9 => h9) hfin' (hty sl hsl) f1 f2 hlen hdg key
      · cases h
    · cases h
  · cases h
/-! arrays -/
theorem ia_ix_ok {α : Type} {tg k : Nat} {a : Nat × Nat} {f : ia_C → Nat → Option α} {o : α} (h : ia_ix tg σ k a f = some o) : ∃ c0 : ia_C, ia_get2 σ k = some c0 ∧ c0.1 = tg ∧ a.1 = a.2 ∧ 2147483648 ≤ a.1 ∧ a.1 - 2147483648 < c0.2.1 ∧ f c0 (a.1 - 2147483648) = some o := by
  unfold ia_ix at h
  split at h
  · rename_i c0 hc0
    obtain ⟨hq, h⟩ := ia_if_eq h
    simp only [Bool.and_eq_true] at hq
    rw [ia_frc_eq] at h
    exact ⟨c0, hc0, ia_beq hq.1, ia_beq hq.2.1, ia_ble hq.2.2.1, ia_blt hq.2.2.2, h⟩
  · cases h
theorem ia_idx {a : Nat × Nat} {x : Int32} {k : Nat} (e1 : a.1 = a.2) (e2 : 2147483648 ≤ a.1) (e3 : a.1 - 2147483648 < k) (x1 : a.1 ≤ ia_E x) (x2 : ia_E x ≤ a.2) : vp_in x k ∧ x.toNatClampNeg = a.1 - 2147483648 := by
  have hE : ia_E x = a.1 := ia_one e1 x1 x2
  have hc := ia_cl (x := x) (by omega)
  refine ⟨?_, by rw [hc, hE]⟩
  rintro (q | q)
  · rw [ia_neg] at q; omega
  · rw [hc] at q; omega
theorem ia_mem_at {tys : List (ClassId × FieldType)} {q : ClassId × FieldType} (h : q ∈ tys) : ∃ t : Nat, tys[t]? = some q := List.getElem?_of_mem h
theorem ia_s_ald (X : ia_X p R s m args meth c y d) {ins : Instr} {tg : Nat} (hdg : decode (ia_code y) pc = .ok (ins, 1)) (hk : (tg = 50 ∧ ins = .iaload) ∨ (tg = 51 ∧ ins = .laload) ∨ (tg = 53 ∧ ins = .baload) ∨ (tg = 54 ∧ ins = .aaload) ∨ (tg = 55 ∧ ins = .aaload)) (ihk : ia_IH p l e R s m args below meth c Q D sa A as0 nL y ih out) (h : ia_al tg ih pc lv st σ n nc ns = some out) : ia_WW p l e R s m args below meth c Q D sa A as0 nL y pc lv st σ n nc ns := by
  obtain ⟨hx, hb, hml, hown, hts, -⟩ := id X
  unfold ia_al at h
  intro H locs ws tys ls l' vst hl hL hSt hK hP hD hS hn hR hxx h1 h2
  split at h
  · rename_i a k t
    obtain ⟨_, _, rfl, ⟨x, rfl, x1, x2⟩, _, vt, rfl, ⟨b, hkb, rfl⟩, g3⟩ := hSt
    obtain ⟨c0, hc0, htg, e1, e2, e3, h⟩ := ia_ix_ok h
    obtain ⟨i1, i2⟩ := ia_idx e1 e2 e3 x1 x2
    split at h
    · rename_i v hv
      rw [ia_nx_eq] at h
      obtain ⟨e0, hw, hc⟩ := hR.at hc0 (by omega) hkb
      have go : ∀ w, ia_v sa (ws.map Prod.fst) v w → W p l e R s m args below meth c H locs nc ns Q (F0 m (pc + 1) ls (w :: vt)) := fun w hw2 => ihk _ _ _ _ _ _ _ h H locs ws tys ls l' _ hl hL ⟨_, _, rfl, hw2, g3⟩ hK hP hD hS hn hR hxx h1 h2
      rcases hk with ⟨rfl, rfl⟩ | ⟨rfl, rfl⟩ | ⟨rfl, rfl⟩ | ⟨rfl, rfl⟩ | ⟨rfl, rfl⟩
      · obtain ⟨cA, f, rfl, hm, hf⟩ := hc.2.1 htg
        obtain ⟨t0, ht0⟩ := ia_mem_at hm
        exact va_iald hx hb hK hP k t0 hw ht0 i1 hdg (go _ (by rw [i2]; exact hf _ _ hv e3))
      · obtain ⟨cA, f, rfl, hm, hf⟩ := hc.2.2.1 htg
        obtain ⟨t0, ht0⟩ := ia_mem_at hm
        exact va_lald hx hb hK hP k t0 hw ht0 i1 hdg (go _ (by rw [i2]; exact hf _ _ hv e3))
      · obtain ⟨cA, f, rfl, hm, hf⟩ := hc.2.2.2.2.1 htg
        obtain ⟨t0, ht0⟩ := ia_mem_at hm
        exact va_zald hx hb hK hP k t0 hw ht0 i1 hdg (go _ (by rw [i2]; exact hf _ _ hv e3))
      · obtain ⟨cA, f, rfl, hm, hf⟩ := hc.2.2.2.2.2.1 htg
        obtain ⟨t0, ht0⟩ := ia_mem_at hm
        exact va_aldq hx hb hK hP k t0 hw ht0 i1 hdg (go _ (by rw [i2]; exact hf _ _ hv e3))
      · obtain ⟨cA, f, rfl, hm, hf⟩ := hc.2.2.2.2.2.2 htg
        obtain ⟨t0, ht0⟩ := ia_mem_at hm
        exact va_aldq hx hb hK hP k t0 hw ht0 i1 hdg (go _ (by rw [i2]; exact hf _ _ hv e3))
    · cases h
  · cases h
theorem ia_nr_ok {ty : FieldType} {q : Nat × Nat} {z : Int32} {ad : List Nat} (z1 : q.1 ≤ ia_E z) (z2 : ia_E z ≤ q.2) : ia_v sa ad (.inl (ia_nr ty q)) (.int (vp_nar ty z)) := by
  unfold ia_nr
  split
  · rename_i hq
    rw [ia_frc_eq, ← ia_one (ia_beq hq) z1 z2, ia_DE]
    exact ia_v_one _ _ _
  · exact ia_v_all _ _ _
theorem ia_gr_ok {ci : Nat} {v0 v : ia_V} (h : ia_gr σ ci v0 = some v) : ∃ (k2 : Nat) (c2 : ia_C), v0 = .inr (.inr (.inl (some k2))) ∧ v = .inr (.inr (.inl (some k2))) ∧ ia_get2 σ k2 = some c2 ∧ c2.1 = ci := by
  unfold ia_gr at h
  split at h
  · rename_i k2
    split at h
    · rename_i c2 hc2
      obtain ⟨hq, h⟩ := ia_if_eq h
      cases h
      exact ⟨k2, c2, rfl, rfl, hc2, ia_beq hq⟩
    · cases h
  · cases h
/-- stores: kinds by the tag -/
theorem ia_s_ast (X : ia_X p R s m args meth c y d) {ins : Instr} {tg : Nat} {g : ia_V → Option ia_V} (hdg : decode (ia_code y) pc = .ok (ins, 1)) (hk : (tg = 50 ∧ ins = .iastore ∧ g = ia_gi) ∨ (tg = 51 ∧ ins = .lastore ∧ g = ia_gl) ∨ (tg = 52 ∧ ins = .bastore ∧ g = ia_gn .byte) ∨ (tg = 53 ∧ ins = .bastore ∧ g = ia_gn .boolean) ∨ (tg = 54 ∧ ins = .aastore ∧ g = ia_gr σ 3) ∨ (tg = 55 ∧ ins = .aastore ∧ g = ia_gr σ 7)) (ihk : ia_IH p l e R s m args below meth c Q D sa A as0 nL y ih out) (h : ia_as tg g ih pc lv st σ n nc ns = some out) : ia_WW p l e R s m args below meth c Q D sa A as0 nL y pc lv st σ n nc ns := by
  obtain ⟨hx, hb, hml, hown, hts, -⟩ := id X
  unfold ia_as at h
  intro H locs ws tys ls l' vst hl hL hSt hK hP hD hS hn hR hxx h1 h2
  split at h
  · rename_i v0 a k t
    obtain ⟨w, _, rfl, hv0, _, _, rfl, ⟨x, rfl, x1, x2⟩, _, vt, rfl, ⟨b, hkb, rfl⟩, g3⟩ := hSt
    split at h
    · rename_i v hgv
      obtain ⟨c0, hc0, htg, e1, e2, e3, h⟩ := ia_ix_ok h
      obtain ⟨i1, i2⟩ := ia_idx e1 e2 e3 x1 x2
      rw [ia_set2K_eq, ia_set2K_eq, ia_nx_eq] at h
      obtain ⟨e0, hw, hc⟩ := hR.at hc0 (by omega) hkb
      have key : ∀ (e1 : va_E), ia_c sa (ws.map Prod.fst) tys (c0.1, c0.2.1, ia_set2 c0.2.2 (a.1 - 2147483648) v) e1 → ∀ (H1 : Heap) (locs1 : List Loc), va_P D vwCl (ws.set k (b, e1)) H1 → va_D A (ws.set k (b, e1)) → va_S A s.heap H1 locs1 → W p l e R s m args below meth c H1 locs1 nc ns Q (F0 m (pc + 1) ls vt) := fun e1 he1 H1 locs1 hP1 hD1 hS1 => by
        have hfst := ia_fst_set (e := e1) hw
        exact ihk _ _ _ _ _ _ _ h H1 locs1 _ tys ls l' vt hl (by rw [hfst]; exact hL) (by rw [hfst]; exact g3) hK hP1 hD1 hS1 (by rw [List.length_set]; exact hn) (hR.set hw he1) (by rw [hfst]; exact hxx) h1 h2
      rcases hk with ⟨rfl, rfl, rfl⟩ | ⟨rfl, rfl, rfl⟩ | ⟨rfl, rfl, rfl⟩ | ⟨rfl, rfl, rfl⟩ | ⟨rfl, rfl, rfl⟩ | ⟨rfl, rfl, rfl⟩
      · obtain ⟨cA, f, rfl, hm, hf⟩ := hc.2.1 htg
        obtain ⟨t0, ht0⟩ := ia_mem_at hm
        rcases v0 with q | z | z <;> cases hgv
        obtain ⟨z, rfl, z1, z2⟩ := hv0
        refine va_iast hx hb hK hP hD hS k t0 hw ht0 i1 hdg (key _ ?_)
        refine ⟨fun q => absurd q (by show ¬ c0.1 < 50; omega), fun _ => ⟨cA, _, rfl, hm, fun j a' hj hlt => ?_⟩, fun q => absurd q (by show ¬ c0.1 = 51; omega), fun q => absurd q (by show ¬ c0.1 = 52; omega), fun q => absurd q (by show ¬ c0.1 = 53; omega), fun q => absurd q (by show ¬ c0.1 = 54; omega), fun q => absurd q (by show ¬ c0.1 = 55; omega)⟩
        rw [i2]
        rcases ia_get2_set hj with ⟨q1, q2⟩ | ⟨hne, hj'⟩
        · rw [q2, q1, pk_us]; exact ⟨z, rfl, z1, z2⟩
        · rw [pk_un hne]; exact hf _ _ hj' hlt
      · obtain ⟨cA, f, rfl, hm, hf⟩ := hc.2.2.1 htg
        obtain ⟨t0, ht0⟩ := ia_mem_at hm
        rcases v0 with q | z | z <;> cases hgv
        cases hv0
        refine va_last hx hb hK hP hD hS k t0 hw ht0 i1 hdg (key _ ?_)
        refine ⟨fun q => absurd q (by show ¬ c0.1 < 50; omega), fun q => absurd q (by show ¬ c0.1 = 50; omega), fun _ => ⟨cA, _, rfl, hm, fun j a' hj hlt => ?_⟩, fun q => absurd q (by show ¬ c0.1 = 52; omega), fun q => absurd q (by show ¬ c0.1 = 53; omega), fun q => absurd q (by show ¬ c0.1 = 54; omega), fun q => absurd q (by show ¬ c0.1 = 55; omega)⟩
        rw [i2]
        rcases ia_get2_set hj with ⟨q1, q2⟩ | ⟨hne, hj'⟩
        · rw [q2, q1, pk_uLs]; rfl
        · rw [pk_uLn hne]; exact hf _ _ hj' hlt
      · obtain ⟨cA, f, rfl, hm, hf⟩ := hc.2.2.2.1 htg
        obtain ⟨t0, ht0⟩ := ia_mem_at hm
        rcases v0 with q | z | z <;> cases hgv
        obtain ⟨z, rfl, z1, z2⟩ := hv0
        refine va_bast hx hb hK hP hD hS k t0 hw ht0 i1 hdg (key _ ?_)
        refine ⟨fun q => absurd q (by show ¬ c0.1 < 50; omega), fun q => absurd q (by show ¬ c0.1 = 50; omega), fun q => absurd q (by show ¬ c0.1 = 51; omega), fun _ => ⟨cA, _, rfl, hm, fun j a' hj hlt => ?_⟩, fun q => absurd q (by show ¬ c0.1 = 53; omega), fun q => absurd q (by show ¬ c0.1 = 54; omega), fun q => absurd q (by show ¬ c0.1 = 55; omega)⟩
        rw [i2]
        rcases ia_get2_set hj with ⟨q1, q2⟩ | ⟨hne, hj'⟩
        · rw [q2, q1, pk_us]; exact ia_nr_ok z1 z2
        · rw [pk_un hne]; exact hf _ _ hj' hlt
      · obtain ⟨cA, f, rfl, hm, hf⟩ := hc.2.2.2.2.1 htg
        obtain ⟨t0, ht0⟩ := ia_mem_at hm
        rcases v0 with q | z | z <;> cases hgv
        obtain ⟨z, rfl, z1, z2⟩ := hv0
        refine va_zast hx hb hK hP hD hS k t0 hw ht0 i1 hdg (key _ ?_)
        refine ⟨fun q => absurd q (by show ¬ c0.1 < 50; omega), fun q => absurd q (by show ¬ c0.1 = 50; omega), fun q => absurd q (by show ¬ c0.1 = 51; omega), fun q => absurd q (by show ¬ c0.1 = 52; omega), fun _ => ⟨cA, _, rfl, hm, fun j a' hj hlt => ?_⟩, fun q => absurd q (by show ¬ c0.1 = 54; omega), fun q => absurd q (by show ¬ c0.1 = 55; omega)⟩
        rw [i2]
        rcases ia_get2_set hj with ⟨q1, q2⟩ | ⟨hne, hj'⟩
        · rw [q2, q1, pk_us]; exact ia_nr_ok z1 z2
        · rw [pk_un hne]; exact hf _ _ hj' hlt
      · obtain ⟨cA, f, rfl, hm, hf⟩ := hc.2.2.2.2.2.1 htg
        obtain ⟨t0, ht0⟩ := ia_mem_at hm
        obtain ⟨k2, c2, rfl, rfl, hk2, hc2⟩ := ia_gr_ok hgv
        obtain ⟨b2, hb2, rfl⟩ := hv0
        obtain ⟨e2', hw2, hcc⟩ := hR.at hk2 (by omega) hb2
        obtain ⟨vs, rfl, -⟩ := hcc.1 (by omega)
        rw [hc2] at hw2
        refine va_astq hx hb hK hP hD hS k t0 k2 3 (r := (RX3, TX3, 4)) hw ht0 hw2 rfl i1 hdg (key _ ?_)
        refine ⟨fun q => absurd q (by show ¬ c0.1 < 50; omega), fun q => absurd q (by show ¬ c0.1 = 50; omega), fun q => absurd q (by show ¬ c0.1 = 51; omega), fun q => absurd q (by show ¬ c0.1 = 52; omega), fun q => absurd q (by show ¬ c0.1 = 53; omega), fun _ => ⟨cA, _, rfl, hm, fun j a' hj hlt => ?_⟩, fun q => absurd q (by show ¬ c0.1 = 55; omega)⟩
        rw [i2]
        rcases ia_get2_set hj with ⟨q1, q2⟩ | ⟨hne, hj'⟩
        · rw [q2, q1, va_up_self]; exact ⟨b2, hb2, rfl⟩
        · rw [va_up_ne _ _ hne]; exact hf _ _ hj' hlt
      · obtain ⟨cA, f, rfl, hm, hf⟩ := hc.2.2.2.2.2.2 htg
        obtain ⟨t0, ht0⟩ := ia_mem_at hm
        obtain ⟨k2, c2, rfl, rfl, hk2, hc2⟩ := ia_gr_ok hgv
        obtain ⟨b2, hb2, rfl⟩ := hv0
        obtain ⟨e2', hw2, hcc⟩ := hR.at hk2 (by omega) hb2
        obtain ⟨vs, rfl, -⟩ := hcc.1 (by omega)
        rw [hc2] at hw2
        refine va_astq hx hb hK hP hD hS k t0 k2 7 (r := (RX7, TX7, 10)) hw ht0 hw2 rfl i1 hdg (key _ ?_)
        refine ⟨fun q => absurd q (by show ¬ c0.1 < 50; omega), fun q => absurd q (by show ¬ c0.1 = 50; omega), fun q => absurd q (by show ¬ c0.1 = 51; omega), fun q => absurd q (by show ¬ c0.1 = 52; omega), fun q => absurd q (by show ¬ c0.1 = 53; omega), fun q => absurd q (by show ¬ c0.1 = 54; omega), fun _ => ⟨cA, _, rfl, hm, fun j a' hj hlt => ?_⟩⟩
        rw [i2]
        rcases ia_get2_set hj with ⟨q1, q2⟩ | ⟨hne, hj'⟩
        · rw [q2, q1, va_up_self]; exact ⟨b2, hb2, rfl⟩
        · rw [va_up_ne _ _ hne]; exact hf _ _ hj' hlt
    · cases h
  · cases h
end IAH
end
section
/-! ## statics, lengths, new cells, constants -/
section IAM
variable {p : Program} {l : Launch} {e : Env} {R : Room} {s : State} {m : MethodId} {args : Array Value} {below : List Frame} {meth : Method} {c : Code} {Q : State → Prop}
variable {D : va_G} {sa : Nat × Nat} {A : Nat → Prop} {as0 : List Nat} {nL y pc : Nat} {lv : List (Option ia_V)} {st : List ia_V} {σ : ia_H} {n nc ns : Nat} {ih : ia_K} {out : ia_O} {i d : Nat}
theorem ia_s_gs (X : ia_X p R s m args meth c y d) (N : ia_N sa A s s.heap) (hdg : decode (ia_code y) pc = .ok (.getstatic i, 3)) (ihk : ia_IH p l e R s m args below meth c Q D sa A as0 nL y ih out) (h : ia_gs y i ih pc lv st σ n nc ns = some out) : ia_WW p l e R s m args below meth c Q D sa A as0 nL y pc lv st σ n nc ns := by
  obtain ⟨hx, hb, hml, hown, hts, -⟩ := id X
  unfold ia_gs at h
  intro H locs ws tys ls l' vst hl hL hSt hK hP hD hS hn hR hxx h1 h2
  split at h
  · rename_i hpl
    rw [ia_nx_eq] at h
    exact va_gets hx hb N.2.2.2.2.2.1 hS hown (X.hts (ia_is_in (ia_pl_ok hpl))) (fun _ h9 => h9) hdg (ihk _ _ _ _ _ _ _ h H locs ws tys ls l' _ hl hL ⟨_, _, rfl, ⟨1, rfl, by decide, by decide⟩, hSt⟩ hK hP hD hS hn hR hxx h1 h2)
  · rename_i hpl
    rw [ia_nx_eq] at h
    rcases N.2.2.2.2.2.2 with hz | ⟨t, hz⟩
    · exact va_gets hx hb hz hS hown (X.hts (ia_is_in (ia_pl_ok hpl))) (fun _ h9 => h9) hdg (ihk _ _ _ _ _ _ _ h H locs ws tys ls l' _ hl hL ⟨_, _, rfl, Or.inl rfl, hSt⟩ hK hP hD hS hn hR hxx h1 h2)
    · exact va_gets hx hb hz hS hown (X.hts (ia_is_in (ia_pl_ok hpl))) (fun _ h9 => h9) hdg (ihk _ _ _ _ _ _ _ h H locs ws tys ls l' _ hl hL ⟨_, _, rfl, Or.inr ⟨t, rfl⟩, hSt⟩ hK hP hD hS hn hR hxx h1 h2)
  · cases h
set_option maxRecDepth 100000 in
theorem ia_ch_ok : ∀ r ∈ ia_chars, ia_E (ia_D r) = r := by decide +kernel
theorem ia_by_at {j r : Nat} (h : ia_at ia_chars j = some r) : j < ia_chars.length ∧ ia_by.getD j 0 = ia_D r ∧ ia_E (ia_D r) = r := by
  rw [ia_at_eq] at h
  refine ⟨(List.getElem?_eq_some_iff.mp h).1, ?_, ia_ch_ok r (List.mem_of_getElem? h)⟩
  rw [List.getD_eq_getElem?_getD, ia_by, List.getElem?_map, h]
  rfl
theorem ia_s_bld (X : ia_X p R s m args meth c y d) (N : ia_N sa A s s.heap) (hdg : decode (ia_code y) pc = .ok (.baload, 1)) (ihk : ia_IH p l e R s m args below meth c Q D sa A as0 nL y ih out) (h : ia_alb ih pc lv st σ n nc ns = some out) : ia_WW p l e R s m args below meth c Q D sa A as0 nL y pc lv st σ n nc ns := by
  obtain ⟨hx, hb, hml, hown, hts, -⟩ := id X
  unfold ia_alb at h
  split at h
  · intro H locs ws tys ls l' vst hl hL hSt hK hP hD hS hn hR hxx h1 h2
    rename_i a t
    obtain ⟨_, _, rfl, ⟨x, rfl, x1, x2⟩, _, vt, rfl, hv1, g3⟩ := hSt
    cases hv1
    obtain ⟨hq, h⟩ := ia_if_eq h
    rw [Bool.and_eq_true] at hq
    split at h
    · rename_i r hr
      rw [ia_nx_eq] at h
      obtain ⟨g1, g2, g4⟩ := ia_by_at hr
      obtain ⟨i1, i2⟩ := ia_idx (k := ia_chars.length) (ia_beq hq.1) (ia_ble hq.2) g1 x1 x2
      obtain ⟨-, -, -, hT⟩ := N.2.2.2.2.1.1 0 (by decide)
      refine va_tb hx hb hT hS i1 (v := .int (ia_D r)) ?_ hdg (ihk _ _ _ _ _ _ _ h H locs ws tys ls l' _ hl hL ⟨_, _, rfl, ⟨_, rfl, by rw [g4]; exact Nat.le_refl _, by rw [g4]; exact Nat.le_refl _⟩, g3⟩ hK hP hD hS hn hR hxx h1 h2)
      rw [i2]
      exact congrArg Value.int g2
    · cases h
  · exact ia_s_ald X hdg (Or.inr (Or.inr (Or.inl ⟨rfl, rfl⟩))) ihk h
theorem ia_Elen {k : Nat} (h : k < 2147483648) : ia_E (Int32.ofNat k) = k + 2147483648 := by
  unfold ia_E
  rw [show (Int32.ofNat k).toBitVec.toNat = (BitVec.ofNat 32 k).toNat from rfl, BitVec.toNat_ofNat]
  omega
theorem ia_s_len (X : ia_X p R s m args meth c y d) (N : ia_N sa A s s.heap) (hdg : decode (ia_code y) pc = .ok (.arraylength, 1)) (ihk : ia_IH p l e R s m args below meth c Q D sa A as0 nL y ih out) (h : ia_len ih pc lv st σ n nc ns = some out) : ia_WW p l e R s m args below meth c Q D sa A as0 nL y pc lv st σ n nc ns := by
  obtain ⟨hx, hb, hml, hown, hts, -⟩ := id X
  unfold ia_len at h
  intro H locs ws tys ls l' vst hl hL hSt hK hP hD hS hn hR hxx h1 h2
  split at h
  · rename_i k t
    obtain ⟨_, vt, rfl, ⟨b, hkb, rfl⟩, g3⟩ := hSt
    split at h
    · rename_i c0 hc0
      obtain ⟨hq, h⟩ := ia_if_eq h
      simp only [Bool.and_eq_true] at hq
      have q1 := ia_ble hq.1
      have q2 := ia_ble hq.2.1
      have q3 := ia_blt hq.2.2
      rw [ia_pi_eq] at h
      obtain ⟨e0, hw, hc⟩ := hR.at hc0 (by omega) hkb
      have go : ∀ w, ia_v sa (ws.map Prod.fst) (.inl (c0.2.1 + 2147483648, c0.2.1 + 2147483648)) w → W p l e R s m args below meth c H locs nc ns Q (F0 m (pc + 1) ls (w :: vt)) := fun w hw2 => ihk _ _ _ _ _ _ _ h H locs ws tys ls l' _ hl hL ⟨_, _, rfl, hw2, g3⟩ hK hP hD hS hn hR hxx h1 h2
      have hE : ia_v sa (ws.map Prod.fst) (.inl (c0.2.1 + 2147483648, c0.2.1 + 2147483648)) (.int (Int32.ofNat c0.2.1)) := ⟨_, rfl, by rw [ia_Elen q3]; exact Nat.le_refl _, by rw [ia_Elen q3]; exact Nat.le_refl _⟩
      have hx6 : c0.1 = 50 ∨ c0.1 = 51 ∨ c0.1 = 52 ∨ c0.1 = 53 ∨ c0.1 = 54 ∨ c0.1 = 55 := by omega
      have key : ∃ (cA : ClassId) (z : vp_A) (ty : FieldType), e0 = .inl (cA, z) ∧ z.1 = c0.2.1 ∧ (cA, ty) ∈ tys := by
        rcases hx6 with z | z | z | z | z | z
        · obtain ⟨cA, f, rfl, hm, -⟩ := hc.2.1 z; exact ⟨cA, _, _, rfl, rfl, hm⟩
        · obtain ⟨cA, f, rfl, hm, -⟩ := hc.2.2.1 z; exact ⟨cA, _, _, rfl, rfl, hm⟩
        · obtain ⟨cA, f, rfl, hm, -⟩ := hc.2.2.2.1 z; exact ⟨cA, _, _, rfl, rfl, hm⟩
        · obtain ⟨cA, f, rfl, hm, -⟩ := hc.2.2.2.2.1 z; exact ⟨cA, _, _, rfl, rfl, hm⟩
        · obtain ⟨cA, f, rfl, hm, -⟩ := hc.2.2.2.2.2.1 z; exact ⟨cA, _, _, rfl, rfl, hm⟩
        · obtain ⟨cA, f, rfl, hm, -⟩ := hc.2.2.2.2.2.2 z; exact ⟨cA, _, _, rfl, rfl, hm⟩
      obtain ⟨cA, z, ty, rfl, hz, hm⟩ := key
      obtain ⟨t0, ht0⟩ := ia_mem_at hm
      exact va_alen hx hb hK hP k t0 hw ht0 (by rw [hz]) hdg (go _ hE)
    · cases h
  · rename_i t
    obtain ⟨_, vt, rfl, hv0, g3⟩ := hSt
    cases hv0
    rw [ia_nx_eq] at h
    obtain ⟨-, -, -, hT⟩ := N.2.2.2.2.1.1 0 (by decide)
    exact va_tlen hx hb hT hS (v := Int32.ofNat 115) rfl hdg (ihk _ _ _ _ _ _ _ h H locs ws tys ls l' _ hl hL ⟨_, _, rfl, ⟨_, rfl, by decide, by decide⟩, g3⟩ hK hP hD hS hn hR hxx h1 h2)
  · cases h
/-- behind a new cell -/
theorem ia_pushed {ws : va_W} {tys tys' : List (ClassId × FieldType)} {H1 : Heap} {locs : List Loc} {ls : Array Slot} {l' : List (Nat × Value)} {vst : List Value} {cc : ia_C} {q ns2 pc2 : Nat} {e0 : va_E} (ihk : ia_IH p l e R s m args below meth c Q D sa A as0 nL y ih out)
    (h : ih pc2 lv (.inr (.inr (.inl (some n))) :: st) (ia_set2 σ n cc) (Nat.succ n) (Nat.succ nc) ns2 = some out) (hl : lv_has ls nL l') (hL : ia_L sa (ws.map Prod.fst) lv l') (hSt : ia_S sa (ws.map Prod.fst) st vst) (hK : va_K D vwCl tys' s) (hP : va_P D vwCl (ws ++ [(q, e0)]) H1) (hD : va_D A (ws ++ [(q, e0)])) (hS : va_S A s.heap H1 locs) (hn : ws.length = n) (hR : ia_R sa tys σ ws) (ht : ∀ z ∈ tys, z ∈ tys') (he : ia_c sa ((ws ++ [(q, e0)]).map Prod.fst) tys' cc e0)
    (hxx : ∃ x, ws.map Prod.fst = as0 ++ x) (h1 : Nat.succ nc ≤ ia_mc y) (h2 : ns2 ≤ ia_ms y) : W p l e R s m args below meth c H1 locs (nc + 1) ns2 Q (F0 m pc2 ls (.ref q :: vst)) := by
  have hm : ∀ (k b : Nat), (ws.map Prod.fst)[k]? = some b → ((ws ++ [(q, e0)]).map Prod.fst)[k]? = some b := by rw [ia_fst_app]; exact ia_app_mono
  obtain ⟨x, hx⟩ := hxx
  refine ihk _ _ _ _ _ _ _ h H1 locs _ tys' ls l' _ hl (hL.mono hm) ⟨_, _, rfl, ⟨q, ?_, rfl⟩, hSt.mono hm⟩ hK hP hD hS (by rw [List.length_append, hn]; rfl) (hR.push hn ht he) ⟨x ++ [q], by rw [ia_fst_app, hx, List.append_assoc]⟩ h1 h2
  rw [ia_fst_app, List.getElem?_append_right (by rw [List.length_map]; omega), List.length_map, hn, Nat.sub_self]
  rfl
theorem ia_s_no (X : ia_X p R s m args meth c y d) (hA : ∀ q, s.heap.size ≤ q → A q) (hdg : decode (ia_code y) pc = .ok (.new i, 3)) (ihk : ia_IH p l e R s m args below meth c Q D sa A as0 nL y ih out) (h : ia_no y i ih pc lv st σ n nc ns = some out) : ia_WW p l e R s m args below meth c Q D sa A as0 nL y pc lv st σ n nc ns := by
  obtain ⟨hx, hb, hml, hown, hts, -, -, -, -, hRc, hRs, -⟩ := id X
  unfold ia_no at h
  intro H locs ws tys ls l' vst hl hL hSt hK hP hD hS hn hR hxx h1 h2
  split at h
  · rename_i ci z1 z2 z3 hpl
    obtain ⟨r, hr, hlk⟩ := ia_ok6 (ia_pl_ok hpl)
    have hci : ci < 13 := (List.getElem?_eq_some_iff.mp hr).1
    obtain ⟨ty, hty, -, q', hq', hq1, fs, hfs, hfv⟩ := ia_cty hr
    rw [ia_at_eq, hq'] at h
    replace h : ia_mk y (ci, q'.1, q'.2) 3 ih pc lv st σ n nc ns = some out := h
    unfold ia_mk at h
    obtain ⟨hc, h⟩ := ia_if_eq h
    rw [Bool.and_eq_true] at hc
    have hc1 := ia_ble hc.1
    have hc2 : ns + r.2.2 ≤ ia_ms y := by rw [← hq1]; exact ia_ble hc.2
    rw [ia_set2K_eq, ia_frc_eq, ia_nx_eq] at h
    refine va_new (D := D) (ci := ci) (fs := fs) (C := r.1) (T := r.2.1) (N := r.2.2) hx hb (ia_hts X) (ia_okC_at hr).1 ty hty hown (X.hts hlk) (X.hts (ia_okC_at hr).2.1) (X.hts (ia_okC_at hr).2.2.1) hK hP hD hS hA hr hfs (by rw [hRc]; exact hc1) (by rw [hRs]; exact hc2) hdg (fun q H1 hP1 hD1 hS1 => ?_)
    have h' : ih (pc + 3) lv (.inr (.inr (.inl (some n))) :: st) (ia_set2 σ n (ci, q'.1, q'.2)) (Nat.succ n) (Nat.succ nc) (ns + r.2.2) = some out := by rw [← hq1]; exact h
    refine ia_pushed ihk h' hl hL hSt hK hP1 hD1 hS1 hn hR (fun _ z => z) ?_ hxx hc1 hc2
    exact ⟨fun _ => ⟨fs, rfl, fun k a hk => hfv _ _ k a hk⟩, fun z => absurd z (by show ¬ ci = 50; omega), fun z => absurd z (by show ¬ ci = 51; omega), fun z => absurd z (by show ¬ ci = 52; omega), fun z => absurd z (by show ¬ ci = 53; omega), fun z => absurd z (by show ¬ ci = 54; omega), fun z => absurd z (by show ¬ ci = 55; omega)⟩
  · cases h
theorem ia_rows_at {k j : Nat} {z a : ia_V} (h : ia_get2 (ia_rows k z) j = some a) : a = z := by
  obtain ⟨c0, h1, h2⟩ := ia_get2_eq h
  unfold ia_rows at h1
  rw [List.getElem?_replicate] at h1
  split at h1
  · cases h1
    rw [List.getElem?_replicate] at h2
    split at h2
    · exact (Option.some.inj h2).symm
    · cases h2
  · cases h1
theorem ia_na1_ok {tg len : Nat} {z : ia_V} (h : ia_na1 y tg len z ih pc lv st σ n nc ns = some out) : ∃ (a : Nat × Nat) (t : List ia_V), st = .inl a :: t ∧ a.1 = a.2 ∧ 2147483648 ≤ a.1 ∧ a.1 ≤ 2147493648 ∧ Nat.succ nc ≤ ia_mc y ∧ ns + (a.1 - 2147483648) ≤ ia_ms y ∧ ih (pc + len) lv (.inr (.inr (.inl (some n))) :: t) (ia_set2 σ n (tg, a.1 - 2147483648, ia_rows (a.1 - 2147483648) z)) (Nat.succ n) (Nat.succ nc) (ns + (a.1 - 2147483648)) = some out := by
  unfold ia_na1 at h
  split at h
  · rename_i a t
    obtain ⟨hq, h⟩ := ia_if_eq h
    simp only [Bool.and_eq_true] at hq
    rw [ia_frc_eq] at h
    unfold ia_mk at h
    obtain ⟨hc, h⟩ := ia_if_eq h
    rw [Bool.and_eq_true] at hc
    rw [ia_set2K_eq, ia_frc_eq, ia_nx_eq] at h
    exact ⟨a, t, rfl, ia_beq hq.1, ia_ble hq.2.1, ia_ble hq.2.2, ia_ble hc.1, ia_ble hc.2, h⟩
  · cases h
theorem ia_s_newp (X : ia_X p R s m args meth c y d) (hA : ∀ q, s.heap.size ≤ q → A q) {atype : ClassFile.ArrayType} {tg : Nat} (hdg : decode (ia_code y) pc = .ok (.newarray atype, 2)) (hk : (tg = 50 ∧ atype = .int) ∨ (tg = 52 ∧ atype = .byte) ∨ (tg = 53 ∧ atype = .boolean)) (ihk : ia_IH p l e R s m args below meth c Q D sa A as0 nL y ih out) (h : ia_na1 y tg 2 ia_z ih pc lv st σ n nc ns = some out) : ia_WW p l e R s m args below meth c Q D sa A as0 nL y pc lv st σ n nc ns := by
  obtain ⟨hx, hb, hml, hown, hts, -, -, -, -, hRc, hRs, -⟩ := id X
  obtain ⟨a, t, rfl, e1, e2, e3, c1, c2, h⟩ := ia_na1_ok h
  intro H locs ws tys ls l' vst hl hL hSt hK hP hD hS hn hR hxx h1 h2
  obtain ⟨_, vt, rfl, ⟨x, rfl, x1, x2⟩, g3⟩ := hSt
  have hE : ia_E x = a.1 := ia_one e1 x1 x2
  have hcl := ia_cl (x := x) (by omega)
  rw [hE] at hcl
  have hneg : ¬ x < 0 := by rw [ia_neg]; omega
  have fin : ∀ (ty : FieldType) (q : Nat) (cA : ClassId) (H1 : Heap), ((tg = 50 → ty = .int) ∧ (tg = 52 → ty = .byte) ∧ (tg = 53 → ty = .boolean)) → va_K D vwCl (tys ++ [(cA, ty)]) s → va_P D vwCl (ws ++ [(q, .inl (cA, (a.1 - 2147483648, .inl (fun _ => (0 : Int32)))))]) H1 → va_D A (ws ++ [(q, .inl (cA, (a.1 - 2147483648, .inl (fun _ => (0 : Int32)))))]) → va_S A s.heap H1 locs → W p l e R s m args below meth c H1 locs (nc + 1) (ns + (a.1 - 2147483648)) Q (F0 m (pc + 2) ls (.ref q :: vt)) := by
    intro ty q cA H1 htt hK1 hP1 hD1 hS1
    have hci : ∀ (ad : List Nat) (ty' : FieldType), ty' = ty → ia_ci sa ad (tys ++ [(cA, ty)]) ty' (tg, a.1 - 2147483648, ia_rows (a.1 - 2147483648) ia_z) (.inl (cA, (a.1 - 2147483648, .inl (fun _ => (0 : Int32))))) := fun ad ty' e' => ⟨cA, _, rfl, by rw [e']; exact List.mem_append_right _ List.mem_cons_self, fun k a' hk _ => by
      rw [ia_rows_at hk]
      exact ⟨0, rfl, by rw [ia_E0]; exact Nat.le_refl _, by rw [ia_E0]; exact Nat.le_refl _⟩⟩
    refine ia_pushed ihk h hl hL g3 hK1 hP1 hD1 hS1 hn hR (fun _ z => List.mem_append_left _ z) ?_ hxx c1 c2
    have hz : tg = 50 ∨ tg = 52 ∨ tg = 53 := by rcases hk with z | z | z <;> simp [z.1]
    exact ⟨fun z => absurd z (by show ¬ tg < 50; omega), fun z => hci _ _ (htt.1 z).symm, fun z => absurd z (by show ¬ tg = 51; omega), fun z => hci _ _ (htt.2.1 z).symm, fun z => hci _ _ (htt.2.2 z).symm, fun z => absurd z (by show ¬ tg = 54; omega), fun z => absurd z (by show ¬ tg = 55; omega)⟩
  rcases hk with ⟨rfl, rfl⟩ | ⟨rfl, rfl⟩ | ⟨rfl, rfl⟩
  · exact va_newa (ty := .int) (a0 := (a.1 - 2147483648, .inl (fun _ => (0 : Int32)))) hx hb (X.hts (ia_is_in ia_aci)) rfl hK hP hD hS hA (fun _ => rfl) hneg hcl (by show (a.1 - 2147483648) * 4 ≤ _; omega) (by rw [hRc]; exact c1) (by rw [hRs]; exact c2) hdg (fun q cA H1 hK1 hP1 hD1 hS1 => fin _ q cA H1 ⟨fun _ => rfl, fun z => by omega, fun z => by omega⟩ hK1 hP1 hD1 hS1)
  · exact va_newa (ty := .byte) (a0 := (a.1 - 2147483648, .inl (fun _ => (0 : Int32)))) hx hb (X.hts (ia_is_in ia_acb)) rfl hK hP hD hS hA (fun _ => rfl) hneg hcl (by show (a.1 - 2147483648) * 1 ≤ _; omega) (by rw [hRc]; exact c1) (by rw [hRs]; exact c2) hdg (fun q cA H1 hK1 hP1 hD1 hS1 => fin _ q cA H1 ⟨fun z => by omega, fun _ => rfl, fun z => by omega⟩ hK1 hP1 hD1 hS1)
  · exact va_newa (ty := .boolean) (a0 := (a.1 - 2147483648, .inl (fun _ => (0 : Int32)))) hx hb (X.hts (ia_is_in ia_acz)) rfl hK hP hD hS hA (fun _ => rfl) hneg hcl (by show (a.1 - 2147483648) * 1 ≤ _; omega) (by rw [hRc]; exact c1) (by rw [hRs]; exact c2) hdg (fun q cA H1 hK1 hP1 hD1 hS1 => fin _ q cA H1 ⟨fun z => by omega, fun z => by omega, fun _ => rfl⟩ hK1 hP1 hD1 hS1)
theorem ia_s_newl (X : ia_X p R s m args meth c y d) (hA : ∀ q, s.heap.size ≤ q → A q) (hdg : decode (ia_code y) pc = .ok (.newarray .long, 2)) (ihk : ia_IH p l e R s m args below meth c Q D sa A as0 nL y ih out) (h : ia_na1 y 51 2 (.inr (.inl 0)) ih pc lv st σ n nc ns = some out) : ia_WW p l e R s m args below meth c Q D sa A as0 nL y pc lv st σ n nc ns := by
  obtain ⟨hx, hb, hml, hown, hts, -, -, -, -, hRc, hRs, -⟩ := id X
  obtain ⟨a, t, rfl, e1, e2, e3, c1, c2, h⟩ := ia_na1_ok h
  intro H locs ws tys ls l' vst hl hL hSt hK hP hD hS hn hR hxx h1 h2
  obtain ⟨_, vt, rfl, ⟨x, rfl, x1, x2⟩, g3⟩ := hSt
  have hE : ia_E x = a.1 := ia_one e1 x1 x2
  have hcl := ia_cl (x := x) (by omega)
  rw [hE] at hcl
  have hneg : ¬ x < 0 := by rw [ia_neg]; omega
  refine va_newa (ty := .long) (a0 := (a.1 - 2147483648, .inr (.inl (fun _ => (0 : Int64))))) hx hb (X.hts (ia_is_in ia_acj)) rfl hK hP hD hS hA (fun _ => rfl) hneg hcl (by show (a.1 - 2147483648) * 8 ≤ _; omega) (by rw [hRc]; exact c1) (by rw [hRs]; exact c2) hdg (fun q cA H1 hK1 hP1 hD1 hS1 => ?_)
  refine ia_pushed ihk h hl hL g3 hK1 hP1 hD1 hS1 hn hR (fun _ z => List.mem_append_left _ z) ?_ hxx c1 c2
  exact ⟨fun z => absurd (show (51 : Nat) < 50 from z) (by decide), fun z => absurd (show (51 : Nat) = 50 from z) (by decide), fun _ => ⟨cA, _, rfl, List.mem_append_right _ List.mem_cons_self, fun k a' hk _ => by rw [ia_rows_at hk]; rfl⟩, fun z => absurd (show (51 : Nat) = 52 from z) (by decide), fun z => absurd (show (51 : Nat) = 53 from z) (by decide), fun z => absurd (show (51 : Nat) = 54 from z) (by decide), fun z => absurd (show (51 : Nat) = 55 from z) (by decide)⟩
theorem ia_s_newr (X : ia_X p R s m args meth c y d) (N : ia_N sa A s s.heap) (hA : ∀ q, s.heap.size ≤ q → A q) (hdg : decode (ia_code y) pc = .ok (.anewarray i, 3)) (ihk : ia_IH p l e R s m args below meth c Q D sa A as0 nL y ih out) (h : ia_nr1 y i ih pc lv st σ n nc ns = some out) : ia_WW p l e R s m args below meth c Q D sa A as0 nL y pc lv st σ n nc ns := by
  obtain ⟨hx, hb, hml, hown, hts, -, -, -, -, hRc, hRs, -⟩ := id X
  unfold ia_nr1 at h
  split at h
  · rename_i z1 z2 z3 hpl
    obtain ⟨r, hr, hlk⟩ := ia_ok6 (ia_pl_ok hpl)
    cases hr
    obtain ⟨a, t, rfl, e1, e2, e3, c1, c2, h⟩ := ia_na1_ok h
    intro H locs ws tys ls l' vst hl hL hSt hK hP hD hS hn hR hxx h1 h2
    obtain ⟨_, vt, rfl, ⟨x, rfl, x1, x2⟩, g3⟩ := hSt
    have hE : ia_E x = a.1 := ia_one e1 x1 x2
    have hcl := ia_cl (x := x) (by omega)
    rw [hE] at hcl
    have hneg : ¬ x < 0 := by rw [ia_neg]; omega
    refine va_newq (C := RX3) hx hb hown (X.hts hlk) N.2.1 hK hP hD hS hA hneg hcl (by omega) (by rw [hRc]; exact c1) (by rw [hRs]; exact c2) hdg (fun q cA H1 hK1 hP1 hD1 hS1 => ?_)
    refine ia_pushed ihk h hl hL g3 hK1 hP1 hD1 hS1 hn hR (fun _ z => List.mem_append_left _ z) ?_ hxx c1 c2
    exact ⟨fun z => absurd (show (54 : Nat) < 50 from z) (by decide), fun z => absurd (show (54 : Nat) = 50 from z) (by decide), fun z => absurd (show (54 : Nat) = 51 from z) (by decide), fun z => absurd (show (54 : Nat) = 52 from z) (by decide), fun z => absurd (show (54 : Nat) = 53 from z) (by decide), fun _ => ⟨cA, _, rfl, List.mem_append_right _ List.mem_cons_self, fun k a' hk _ => by rw [ia_rows_at hk]; rfl⟩, fun z => absurd (show (54 : Nat) = 55 from z) (by decide)⟩
  · rename_i z1 z2 z3 hpl
    obtain ⟨r, hr, hlk⟩ := ia_ok6 (ia_pl_ok hpl)
    cases hr
    obtain ⟨a, t, rfl, e1, e2, e3, c1, c2, h⟩ := ia_na1_ok h
    intro H locs ws tys ls l' vst hl hL hSt hK hP hD hS hn hR hxx h1 h2
    obtain ⟨_, vt, rfl, ⟨x, rfl, x1, x2⟩, g3⟩ := hSt
    have hE : ia_E x = a.1 := ia_one e1 x1 x2
    have hcl := ia_cl (x := x) (by omega)
    rw [hE] at hcl
    have hneg : ¬ x < 0 := by rw [ia_neg]; omega
    refine va_newq (C := RX7) hx hb hown (X.hts hlk) N.2.2.1 hK hP hD hS hA hneg hcl (by omega) (by rw [hRc]; exact c1) (by rw [hRs]; exact c2) hdg (fun q cA H1 hK1 hP1 hD1 hS1 => ?_)
    refine ia_pushed ihk h hl hL g3 hK1 hP1 hD1 hS1 hn hR (fun _ z => List.mem_append_left _ z) ?_ hxx c1 c2
    exact ⟨fun z => absurd (show (55 : Nat) < 50 from z) (by decide), fun z => absurd (show (55 : Nat) = 50 from z) (by decide), fun z => absurd (show (55 : Nat) = 51 from z) (by decide), fun z => absurd (show (55 : Nat) = 52 from z) (by decide), fun z => absurd (show (55 : Nat) = 53 from z) (by decide), fun z => absurd (show (55 : Nat) = 54 from z) (by decide), fun _ => ⟨cA, _, rfl, List.mem_append_right _ List.mem_cons_self, fun k a' hk _ => by rw [ia_rows_at hk]; rfl⟩⟩
  · cases h
end IAM
end
section
/-! ## constants, copies, calls, returns -/
section IAC
variable {p : Program} {l : Launch} {e : Env} {R : Room} {s : State} {m : MethodId} {args : Array Value} {below : List Frame} {meth : Method} {c : Code} {Q : State → Prop}
variable {D : va_G} {sa : Nat × Nat} {A : Nat → Prop} {as0 : List Nat} {nL y pc : Nat} {lv : List (Option ia_V)} {st : List ia_V} {σ : ia_H} {n nc ns : Nat} {ih : ia_K} {out : ia_O} {i d : Nat}
theorem ia_ok10 {c i a b k p : Nat} (h : ia_okI c (i, 10, a, b, k, p) = true) : c = 5 ∧ i = 19 := by
  have h' : (Nat.beq c 5 && Nat.beq i 19) = true := h
  rw [Bool.and_eq_true] at h'
  exact ⟨ia_beq h'.1, ia_beq h'.2⟩
theorem ia_s_cst (X : ia_X p R s m args meth c y d) (N : ia_N sa A s s.heap) {ins : Instr} {len : Nat} (hdg : decode (ia_code y) pc = .ok (ins, len)) (hk : (len = 2 ∧ ins = .ldc i) ∨ (len = 3 ∧ ins = .ldc_w i)) (ihk : ia_IH p l e R s m args below meth c Q D sa A as0 nL y ih out) (h : ia_cst y i len ih pc lv st σ n nc ns = some out) : ia_WW p l e R s m args below meth c Q D sa A as0 nL y pc lv st σ n nc ns := by
  obtain ⟨hx, hb, hml, hown, hts, -⟩ := id X
  unfold ia_cst at h
  split at h
  · rename_i v z1 z2 z3 hpl
    obtain ⟨hc, hE⟩ := ia_ok8 (ia_pl_ok hpl)
    rw [ia_nx_eq] at h
    refine ia_g_push (a := .inl (v, v)) (v := .int (ia_D v)) (fun ad => ⟨_, rfl, by rw [hE]; exact Nat.le_refl _, by rw [hE]; exact Nat.le_refl _⟩) (fun H locs ls vst k => ?_) (ihk _ _ _ _ _ _ _ h)
    rcases hk with ⟨rfl, rfl⟩ | ⟨rfl, rfl⟩
    · exact lv_ldc hx hb hown (X.hts hc) hdg k
    · exact lv_ldcw hx hb hown (X.hts hc) hdg k
  · rename_i z0 z1 z2 z3 hpl
    obtain ⟨hc5, rfl⟩ := ia_ok10 (ia_pl_ok hpl)
    obtain ⟨hq, h⟩ := ia_if_eq h
    have hlen := ia_beq hq
    rw [ia_nx_eq] at h
    refine ia_g_push (a := .inr (.inr (.inr 0))) (v := .ref sa.1) (fun ad => rfl) (fun H locs ls vst k => ?_) (ihk _ _ _ _ _ _ _ h)
    rcases hk with ⟨rfl, rfl⟩ | ⟨h3, rfl⟩
    · rw [hc5] at hown
      exact va_ldcS hx hb hown N.2.2.2.1 hdg k
    · omega
  · cases h
theorem ia_s_csl (X : ia_X p R s m args meth c y d) (hdg : decode (ia_code y) pc = .ok (.ldc2_w i, 3)) (ihk : ia_IH p l e R s m args below meth c Q D sa A as0 nL y ih out) (h : ia_csl y i ih pc lv st σ n nc ns = some out) : ia_WW p l e R s m args below meth c Q D sa A as0 nL y pc lv st σ n nc ns := by
  obtain ⟨hx, hb, hml, hown, hts, -⟩ := id X
  unfold ia_csl at h
  split at h
  · rename_i v z1 z2 z3 hpl
    rw [ia_nx_eq] at h
    exact ia_g_push (a := .inr (.inl v)) (v := .long (Int64.ofNat v)) (fun ad => rfl) (fun H locs ls vst k => lv_ldc2 hx hb hown (X.hts (ia_is_in (ia_pl_ok hpl))) hdg k) (ihk _ _ _ _ _ _ _ h)
  · cases h
/-! ### a method's contract, as the run has it -/
noncomputable def ia_rm (d y : Nat) : Room := { frames := d, cells := ia_mc y, slots := ia_ms y, locals := 100 * d }
noncomputable def ia_ws (y : Nat) : List Cond := ia_cw y :: ia_TB
def ia_rr (sa : Nat × Nat) (ad : List Nat) (r : Option ia_V) (ov : Option Value) : Prop := match r, ov with
  | none, none => True
  | some a, some v => ia_v sa ad a v
  | _, _ => False
def ia_P (D : va_G) (sa : Nat × Nat) (tys : List (ClassId × FieldType)) (ws : va_W) (sz : Nat) (vs : List Value) : Array Value → State → Prop := va_Pc vs (fun U => U.heap.size = sz ∧ va_P D vwCl ws U.heap ∧ va_K D vwCl tys U ∧ va_D (fun _ => True) ws ∧ ia_N sa (va_A ws sz) U U.heap)
def ia_Q (D : va_G) (sa : Nat × Nat) (ws0 : va_W) (sz : Nat) (o : ia_O) : Array Value → State → Outcome → State → Prop := fun _ st oc t => (∃ (ov : Option Value) (ws : va_W) (tys : List (ClassId × FieldType)), oc = .returned ov ∧ ia_rr sa (ws.map Prod.fst) o.1 ov ∧ ws.length = o.2.2 ∧ (∃ x, ws.map Prod.fst = ws0.map Prod.fst ++ x) ∧ ia_R sa tys o.2.1 ws ∧ va_P D vwCl ws t.heap ∧ va_K D vwCl tys t ∧ va_D (va_A ws0 sz) ws) ∧ va_F (va_A ws0 sz) st t
def ia_Mets (d : Nat) : Prop := ∀ (y : Nat) (as : List ia_V) (σ : ia_H) (n : Nat) (out : ia_O), ia_call d y as σ n = some out → ia_okM y = true → ∀ (l : Launch) (D : va_G) (sa : Nat × Nat) (vs : List Value) (ws : va_W) (tys : List (ClassId × FieldType)) (sz : Nat), ia_S sa (ws.map Prod.fst) as vs → ws.length = n → ia_R sa tys σ ws → Met l (ia_nm y) (ia_ws y) (ia_rm d y) (ia_P D sa tys ws sz vs) (ia_Q D sa ws sz out) (ia_mc y) (ia_ms y) (va_A ws sz)
noncomputable def ia_isN (w : Cond) : Bool := match w with
  | .methodLinkNest .. => true
  | _ => false
set_option maxRecDepth 100000 in
theorem ia_Np_ok : ∀ w ∈ ia_Np, ia_isN (ia_w w) = true := by decide +kernel
theorem ia_nw_warm {w : Cond} {s U : State} (hn : ia_isN w = true) (hW : s.WarmedH U.vm) (h : va_Nw w s) : va_Nw w U := by
  cases w <;> first | exact va_Nw.warmM hW h | cases hn
theorem ia_nw_same {w : Cond} {s U : State} (hn : ia_isN w = true) (hW : s.vm = U.vm) (h : va_Nw w s) : va_Nw w U := by
  cases w <;> first | exact va_Nw.same rfl hW h | cases hn
theorem ia_N.warm {U : State} {H : Heap} (hW : s.WarmedH U.vm) (h : ia_N sa A s H) : ia_N sa A U H := by
  obtain ⟨h1, h2, h3, h4, h5, h6, h7⟩ := h
  exact ⟨fun w hw => ia_nw_warm (ia_Np_ok w hw) hW (h1 w hw), h2.moved hW.alike, h3.moved hW.alike, h4.warm hW, h5.moved hW.alike, h6.moved hW.alike, h7.moved hW.alike⟩
theorem ia_N.same {U : State} {H : Heap} (hv : s.vm = U.vm) (h : ia_N sa A s H) : ia_N sa A U H := by
  obtain ⟨h1, h2, h3, h4, h5, h6, h7⟩ := h
  have ha : s.vm.Alike U.vm := by rw [← hv]; exact Vm.Alike.refl s.vm
  exact ⟨fun w hw => ia_nw_same (ia_Np_ok w hw) hv (h1 w hw), h2.moved ha, h3.moved ha, h4.same hv.symm, h5.moved ha, h6.moved ha, h7.moved ha⟩
theorem ia_N.kept {H H1 : Heap} (hq : ∀ a : Nat, a < H.size → ¬ A a → H1[a]? = H[a]?) (h : ia_N sa A s H) : ia_N sa A s H1 := by
  obtain ⟨h1, h2, h3, h4, h5, h6, h7⟩ := h
  exact ⟨h1, h2, h3, h4, h5.kept hq, h6.kept hq, h7.kept hq⟩
theorem ia_N.narrow {H : Heap} {B : Nat → Prop} (hAB : ∀ q, B q → A q) (h : ia_N sa A s H) : ia_N sa B s H := by
  obtain ⟨h1, h2, h3, h4, h5, h6, h7⟩ := h
  exact ⟨h1, h2, h3, h4, h5.narrow hAB, h6.narrow hAB, h7.narrow hAB⟩
theorem ia_blind {tys : List (ClassId × FieldType)} {ws : va_W} {sz : Nat} {vs : List Value} : FrameBlind (ia_P D sa tys ws sz vs) := fun a U g mk q => by
  obtain ⟨q0, q1, q2, q3, q4, q5⟩ := q
  exact ⟨q0, q1, q2, va_K.moved (u := U) (U := U.calling g mk a) (Vm.Alike.refl U.vm) q3, q4, ia_N.same (s := U) rfl q5⟩
/-- behind a call -/
theorem ia_after {H : Heap} {locs : List Loc} {mc ms : Nat} {ls : Array Slot} {st0 rest : List Value} {ws : va_W} {o : ia_O} {a : Array Value} (hr : va_Run p l e R s m args below meth c H locs nc ns mc ms (F0 m pc ls st0) rest (ia_Q D sa ws H.size o a) (va_A ws H.size)) (hS : va_S A s.heap H locs) (hF : ∀ q, va_A ws H.size q → A q)
    (kk : ∀ (ov : Option Value) (ws' : va_W) (tys' : List (ClassId × FieldType)) (H1 : Heap) (locs1 : List Loc), ia_rr sa (ws'.map Prod.fst) o.1 ov → ws'.length = o.2.2 → (∃ x, ws'.map Prod.fst = ws.map Prod.fst ++ x) → ia_R sa tys' o.2.1 ws' → va_P D vwCl ws' H1 → va_K D vwCl tys' s → va_D A ws' → va_S A s.heap H1 locs1 → W p l e R s m args below meth c H1 locs1 (nc + mc) (ns + ms) Q (F0 m (pc + 3) ls (ov.toList ++ rest))) : W p l e R s m args below meth c H locs nc ns Q (F0 m pc ls st0) := by
  intro T hT X
  obtain ⟨v, st₀, t, T', L, h0, X', hL, e1, e2, ⟨⟨ov, ws', tys', hv, g1, g2, g3, g4, g5, g6, g7⟩, hz, hk⟩, st⟩ := hr T hT X
  cases hv
  rw [h0] at hz hk
  have hvm : s.vm.Alike t.vm := by rw [← e2]; exact X'.warmed.alike
  obtain ⟨t2, a1, b1⟩ := kk v ws' tys' T'.heap (locs ++ L) g1 g2 g3 g4 (by rw [e1]; exact g5) (va_K.moved hvm.symm g6) (g7.weaken (fun _ _ _ z => hF _ z))
    ⟨Nat.le_trans hS.1 (by rw [e1]; exact hz), fun q h1 h2 => by rw [e1, hk q (Nat.lt_of_lt_of_le h1 hS.1) (fun z => h2 (hF q z))]; exact hS.2.1 q h1 h2, fun q hq => by
      rcases List.mem_append.mp hq with h | h
      · exact hS.2.2 q h
      · exact hF _ (hL q h)⟩ T' rfl X'
  exact ⟨t2, st t2 a1, b1⟩
theorem ia_take_ok {α : Type} {f : List ia_V → List ia_V → Option α} {o : α} : ∀ (k : Nat) (acc st : List ia_V), ia_take k acc st f = some o → ∃ us t, st = us ++ t ∧ us.length = k ∧ f (us.reverse ++ acc) t = some o
  | 0, acc, st, h => ⟨[], st, rfl, rfl, h⟩
  | k + 1, acc, [], h => by cases h
  | k + 1, acc, a :: t, h => by
    have h' : ia_take k (a :: acc) t f = some o := h
    obtain ⟨us, t', rfl, h2, h3⟩ := ia_take_ok k (a :: acc) t h'
    exact ⟨a :: us, t', rfl, by rw [List.length_cons, h2], by rw [List.reverse_cons, List.append_assoc]; exact h3⟩
theorem ia_S_app {ad : List Nat} : ∀ {us t : List ia_V} {vs : List Value}, ia_S sa ad (us ++ t) vs → ∃ v1 v2, vs = v1 ++ v2 ∧ ia_S sa ad us v1 ∧ ia_S sa ad t v2
  | [], t, vs, h => ⟨[], vs, rfl, rfl, h⟩
  | a :: us, t, _, ⟨v, t', h1, h2, h3⟩ => by
    obtain ⟨v1, v2, rfl, g1, g2⟩ := ia_S_app h3
    exact ⟨v :: v1, v2, by rw [h1]; rfl, ⟨v, v1, rfl, h2, g1⟩, g2⟩
theorem ia_S_mk {ad : List Nat} : ∀ {us t : List ia_V} {v1 v2 : List Value}, ia_S sa ad us v1 → ia_S sa ad t v2 → ia_S sa ad (us ++ t) (v1 ++ v2)
  | [], _, _, _, h, g => by cases h; exact g
  | _ :: _, _, _, _, ⟨v, t', h1, h2, h3⟩, g => by subst h1; exact ⟨v, _, rfl, h2, ia_S_mk h3 g⟩
theorem ia_S_rev {ad : List Nat} : ∀ {us : List ia_V} {vs : List Value}, ia_S sa ad us vs → ia_S sa ad us.reverse vs.reverse
  | [], _, h => by cases h; rfl
  | a :: us, _, ⟨v, t', h1, h2, h3⟩ => by
    subst h1
    rw [List.reverse_cons, List.reverse_cons]
    exact ia_S_mk (ia_S_rev h3) ⟨v, [], rfl, h2, rfl⟩
theorem ia_S_len {ad : List Nat} : ∀ {us : List ia_V} {vs : List Value}, ia_S sa ad us vs → vs.length = us.length
  | [], _, h => by cases h; rfl
  | a :: us, _, ⟨v, t', h1, h2, h3⟩ => by subst h1; rw [List.length_cons, List.length_cons, ia_S_len h3]
theorem ia_free {ws : va_W} {H : Heap} {locs : List Loc} (hD : va_D A ws) (hS : va_S A s.heap H locs) (hA : ∀ q, s.heap.size ≤ q → A q) : ∀ q, va_A ws H.size q → A q := fun q h => by
  rcases h with ⟨k, e0, h⟩ | h
  · exact hD.2 k _ h
  · exact hA q (Nat.le_trans hS.1 h)
theorem ia_pre {ws : va_W} {tys : List (ClassId × FieldType)} {H : Heap} {locs : List Loc} {vs : List Value} (N : ia_N sa A s s.heap) (hK : va_K D vwCl tys s) (hP : va_P D vwCl ws H) (hD : va_D A ws) (hS : va_S A s.heap H locs) (hA : ∀ q, s.heap.size ≤ q → A q) : ∀ U : State, U.heap = H → s.WarmedH U.vm → ia_P D sa tys ws H.size vs vs.toArray U := fun U hU hW =>
  ⟨rfl, by rw [hU], by rw [hU]; exact hP, va_K.moved hW.alike hK, hD.weaken (fun _ _ _ _ => trivial), by rw [hU]; exact (((N.kept hS.2.1).narrow (ia_free hD hS hA)).warm hW)⟩
theorem ia_back_S {ad : List Nat} {r : Option ia_V} {ov : Option Value} {t : List ia_V} {vt : List Value} (h : ia_rr sa ad r ov) (ht : ia_S sa ad t vt) : ia_S sa ad (ia_back r t) (ov.toList ++ vt) := by
  cases r with
  | none =>
    cases ov with
    | none => exact ht
    | some v => cases h
  | some a =>
    cases ov with
    | none => cases h
    | some v => exact ⟨v, vt, rfl, h, ht⟩
/-- the call's own step, however it is spelled -/
theorem ia_s_call {y2 : Nat} {us t : List ia_V} {o2 : ia_O} (hA : ∀ q, s.heap.size ≤ q → A q) (N : ia_N sa A s s.heap)
    (run : ∀ (H : Heap) (locs : List Loc) (ws : va_W) (tys : List (ClassId × FieldType)) (ls : Array Slot) (vs vt : List Value), ls.size = nL → ia_S sa (ws.map Prod.fst) us.reverse vs → ia_R sa tys σ ws → va_K D vwCl tys s → va_P D vwCl ws H → (vt.map fun v => v.category).sum ≤ 8 → ws.length = n → (∀ U : State, U.heap = H → s.WarmedH U.vm → ia_P D sa tys ws H.size vs vs.toArray U) → va_S A s.heap H locs → ∃ a, va_Run p l e R s m args below meth c H locs nc ns (ia_mc y2) (ia_ms y2) (F0 m pc ls (vs.reverse ++ vt)) vt (ia_Q D sa ws H.size o2 a) (va_A ws H.size))
    (hsz : ia_sz t ≤ 8) (h1c : nc + ia_mc y2 ≤ ia_mc y) (h2c : ns + ia_ms y2 ≤ ia_ms y) (ihk : ia_IH p l e R s m args below meth c Q D sa A as0 nL y ih out) (h : ih (pc + 3) lv (ia_back o2.1 t) o2.2.1 o2.2.2 (nc + ia_mc y2) (ns + ia_ms y2) = some out) : ia_WW p l e R s m args below meth c Q D sa A as0 nL y pc lv (us ++ t) σ n nc ns := by
  intro H locs ws tys ls l' vst hl hL hSt hK hP hD hS hn hR hxx h1 h2
  obtain ⟨v1, vt, rfl, g1, g2⟩ := ia_S_app hSt
  have g3 := ia_S_rev g1
  obtain ⟨a, hr⟩ := run H locs ws tys ls v1.reverse vt hl.1 g3 hR hK hP (by rw [ia_Ssz g2]; exact hsz) hn (ia_pre N hK hP hD hS hA) hS
  rw [List.reverse_reverse] at hr
  refine ia_after hr hS (ia_free hD hS hA) (fun ov ws' tys' H1 locs1 k1 k2 k3 k4 k5 k6 k7 k8 => ?_)
  obtain ⟨x, hx⟩ := k3
  obtain ⟨x0, hx0⟩ := hxx
  have hm : ∀ (k b : Nat), (ws.map Prod.fst)[k]? = some b → (ws'.map Prod.fst)[k]? = some b := by rw [hx]; exact ia_app_mono
  exact ihk _ _ _ _ _ _ _ h H1 locs1 ws' tys' ls l' _ hl (hL.mono hm) (ia_back_S k1 (g2.mono hm)) k6 k5 k7 k8 k2 k4 ⟨x0 ++ x, by rw [hx, hx0, List.append_assoc]⟩ h1c h2c
end IAC
end
section
section IAI
variable {p : Program} {l : Launch} {e : Env} {R : Room} {s : State} {m : MethodId} {args : Array Value} {below : List Frame} {meth : Method} {c : Code} {Q : State → Prop}
variable {D : va_G} {sa : Nat × Nat} {A : Nat → Prop} {as0 : List Nat} {nL y pc : Nat} {lv : List (Option ia_V)} {st : List ia_V} {σ : ia_H} {n nc ns : Nat} {ih : ia_K} {out : ia_O} {i d : Nat}
/-- what a call needs of the tables and the room -/
theorem ia_callB {y2 k : Nat} (X : ia_X p R s m args meth c y d) (h2 : ia_okM y2 = true) (hl : Cond.methodLink (ia_own (ia_cls y)) i (ia_nm y2) ∈ ia_TB) (hd : (parseMethodDescriptor (ia_nm y2).desc).map (fun d => d.parameters.length) = some k) : CallB R s args (ia_own (ia_cls y)) i (ia_nm y2) (ia_code y2) (ia_maxL y2) (ia_ret y2) (ia_ws y2) (ia_rm d y2) (ia_mc y2) (ia_ms y2) k := by
  obtain ⟨hx, hb, hml, hown, hts, -, -, hRf, hRl, -⟩ := id X
  obtain ⟨e1, e2, e3, e4, e5, e6, e7, e8⟩ := ia_okM_eq h2
  exact callB_of (Ts := ia_cw y :: ia_TB) (ws' := ia_TB) k hts (ia_good e2) (by rw [ia_ws, e1]) rfl rfl (X.hts e5) (X.hts hl) ⟨e6, e7, hd⟩ ⟨by rw [hRf]; exact Nat.le_refl _, by rw [hRl]; show 8 + (ia_maxL y2 + 11) + 100 * d ≤ _; omega⟩
theorem ia_pred {y2 : Nat} (h : (parseMethodDescriptor (ia_nm y2).desc).map (fun d => d.parameters.length + 1) = some (ia_na y2)) : ∃ k, ia_na y2 = k + 1 ∧ (parseMethodDescriptor (ia_nm y2).desc).map (fun d => d.parameters.length) = some k := by
  cases hz : parseMethodDescriptor (ia_nm y2).desc with
  | none => rw [hz] at h; cases h
  | some q =>
    rw [hz] at h
    exact ⟨q.parameters.length, (Option.some.inj h).symm, rfl⟩
theorem ia_rcv_ok {y2 : Nat} {as : List ia_V} (h : ia_rcv y2 σ as = true) : (∃ k c0 t, as = .inr (.inr (.inl (some k))) :: t ∧ ia_get2 σ k = some c0 ∧ c0.1 = ia_cls y2 ∧ c0.1 < 13) ∨ (∃ t, as = .inr (.inr (.inr 0)) :: t ∧ ia_cls y2 = 15) := by
  unfold ia_rcv at h
  split at h
  · rename_i k t
    split at h
    · rename_i c0 hc0
      rw [Bool.and_eq_true] at h
      exact Or.inl ⟨k, c0, t, rfl, hc0, ia_beq h.1, ia_blt h.2⟩
    · cases h
  · rename_i t
    exact Or.inr ⟨t, rfl, ia_beq h⟩
  · cases h
theorem ia_s_inv (hM : ia_Mets d) (X : ia_X p R s m args meth c y d) (N : ia_N sa A s s.heap) (hA : ∀ q, s.heap.size ≤ q → A q) (hnL : nL = ia_maxL y) {ins : Instr} {kd : Nat} (hdg : decode (ia_code y) pc = .ok (ins, 3)) (hk : (kd = 0 ∧ ins = .invokevirtual i) ∨ (kd = 1 ∧ ins = .invokestatic i) ∨ (kd = 2 ∧ ins = .invokespecial i)) (ihk : ia_IH p l e R s m args below meth c Q D sa A as0 nL y ih out) (h : ia_inv (ia_call d) y kd i ih pc lv st σ n nc ns = some out) : ia_WW p l e R s m args below meth c Q D sa A as0 nL y pc lv st σ n nc ns := by
  obtain ⟨hx, hb, hml, hown, hts, -, -, hRf, hRl, hRc, hRs, -⟩ := id X
  have hfix : CallFix p m c (ia_code y) nL s args (ia_cw y :: ia_TB) (ia_own (ia_cls y)) := ⟨hx, hb, hml.trans hnL.symm, hown, hts⟩
  unfold ia_inv at h
  split at h
  · rename_i y2 md z1 z2 hpl
    have hok := ia_pl_ok hpl
    obtain ⟨us, t, rfl, hlen, h⟩ := ia_take_ok _ _ _ h
    rw [List.append_nil] at h
    obtain ⟨hq, h⟩ := ia_if_eq h
    simp only [Bool.and_eq_true, Bool.or_eq_true] at hq
    obtain ⟨hkm, hsz, hrc, hc1, hc2⟩ := hq
    have hsz := ia_ble hsz
    have hc1 := ia_ble hc1
    have hc2 := ia_ble hc2
    split at h
    · rename_i r σ' n' hcall
      rw [ia_frc_eq, ia_frc_eq, ia_nx_eq] at h
      have hf : nc + ia_mc y2 ≤ R.cells ∧ ns + ia_ms y2 ≤ R.slots := ⟨by rw [hRc]; exact hc1, by rw [hRs]; exact hc2⟩
      refine ia_s_call (y2 := y2) (o2 := (r, σ', n')) hA N (fun H locs ws tys ls vs vt hls hvs hR hK hP hvt hn hpre hS => ?_) hsz hc1 hc2 ihk h
      have hvl : vs.length = ia_na y2 := by rw [ia_S_len hvs, List.length_reverse, hlen]
      rcases hk with ⟨rfl, rfl⟩ | ⟨rfl, rfl⟩ | ⟨rfl, rfl⟩
      · -- virtual
        have hmd : md = 0 := by
          rcases hkm with z | z
          · exact (ia_beq z).symm
          · exact absurd (ia_beq z.1) (by decide)
        subst hmd
        obtain ⟨k1, k2, k3, k4, k5, k6⟩ := ia_ok1v hok
        obtain ⟨k, hk1, hk2⟩ := ia_pred k6
        have hmet := hM y2 _ σ n _ hcall k1 l D sa vs ws tys H.size hvs hn hR
        have hr := ia_rcv_ok (hrc.resolve_left (fun z => absurd (ia_beq z) (by decide)))
        have hrecv : ∃ b As, vs = .ref b :: As ∧ ∃ cellB : Cell, H[b]? = some cellB ∧ cellB.vm.isStatics = false ∧ s.vm.findClass (ia_nm y2).cls = some cellB.cls := by
          rcases hr with ⟨k0, c0, t0, e0, hc0, hc3, hc4⟩ | ⟨t0, e0, hc3⟩
          · rw [e0] at hvs
            obtain ⟨_, As, rfl, ⟨b, hb0, rfl⟩, -⟩ := hvs
            obtain ⟨e1, hw, hc⟩ := hR.at hc0 (by omega) hb0
            obtain ⟨vs0, rfl, -⟩ := hc.1 (by omega)
            have hvc : ∃ q, vwCl[c0.1]? = some q := ⟨_, List.getElem?_eq_getElem (show c0.1 < vwCl.length from hc4)⟩
            obtain ⟨q, hq⟩ := hvc
            refine ⟨b, As, rfl, ?_⟩
            have hz := va_recv hK hP hq hw
            rw [(ia_okC_at hq).2.2.2, hc3, ← (ia_okM_eq k1).2.2.1] at hz
            exact hz
          · rw [e0] at hvs
            obtain ⟨_, As, rfl, hv0, -⟩ := hvs
            cases hv0
            refine ⟨_, As, rfl, ?_⟩
            have hz := vk_recv (i := 0) N.2.2.2.2.1 (by decide) hS
            rw [(ia_okM_eq k1).2.2.1, hc3]
            exact hz
        obtain ⟨b, As, rfl, hcell⟩ := hrecv
        have hAl : As.length = k := by rw [List.length_cons, hk1] at hvl; omega
        exact ⟨_, va_runV (As := As) (rest := vt) hfix hmet ⟨ia_callB X k1 k2 hk2, X.hts k3, X.hts k4⟩ ⟨ia_blind, hcell, hpre⟩ rfl hAl hls (by show (Value.ref b :: As).reverse ++ vt = _; rw [List.reverse_cons, List.append_assoc]; rfl) (lv_room hvt) hdg hf⟩
      · -- static
        have hmd : md = 1 := by
          rcases hkm with z | z
          · exact (ia_beq z).symm
          · exact absurd (ia_beq z.1) (by decide)
        subst hmd
        obtain ⟨k1, k2, k3, k6⟩ := ia_ok1s hok
        have hmet := hM y2 _ σ n _ hcall k1 l D sa vs ws tys H.size hvs hn hR
        exact ⟨_, va_runS (As := vs) (rest := vt) hfix hmet ⟨ia_callB X k1 k2 k6, X.hts k3⟩ ⟨ia_blind, hpre⟩ rfl hvl hls rfl (lv_room hvt) hdg hf⟩
      · -- constructors
        have hrecv : ia_na y2 ≠ 0 → ∃ v As, vs = v :: As := fun hz => by
          cases vs with
          | nil => exact absurd hvl.symm hz
          | cons v As => exact ⟨v, As, rfl⟩
        have href : ∃ b As, vs = .ref b :: As := by
          have hmd1 : ¬ Nat.beq md 1 = true := fun z => by
            rcases hkm with w | w
            · have a1 := ia_beq z; have a2 := ia_beq w; omega
            · have a1 := ia_beq z; have a2 := ia_beq w.2; omega
          rcases ia_rcv_ok (hrc.resolve_left hmd1) with ⟨k0, c0, t0, e0, -⟩ | ⟨t0, e0, -⟩
          · rw [e0] at hvs
            obtain ⟨_, As, rfl, ⟨b, hb0, rfl⟩, -⟩ := hvs
            exact ⟨b, As, rfl⟩
          · rw [e0] at hvs
            obtain ⟨_, As, rfl, hv0, -⟩ := hvs
            cases hv0
            exact ⟨_, As, rfl⟩
        obtain ⟨b, As, rfl⟩ := href
        have hmd : md = 2 ∨ md = 3 := by
          rcases hkm with z | z
          · exact Or.inl (ia_beq z).symm
          · exact Or.inr (ia_beq z.2)
        rcases hmd with rfl | rfl
        · obtain ⟨k1, k2, k3, k4, k6⟩ := ia_ok1i hok
          obtain ⟨k, hk1, hk2⟩ := ia_pred k6
          have hAl : As.length = k := by rw [List.length_cons, hk1] at hvl; omega
          have hmet := hM y2 _ σ n _ hcall k1 l D sa _ ws tys H.size hvs hn hR
          have hcb := ia_callB X k1 k2 hk2
          rw [k4.2] at hcb
          exact ⟨_, va_runI (As := As) (rest := vt) hfix hmet ⟨hcb, k4.1, X.hts k3⟩ ⟨ia_blind, hpre⟩ rfl hAl hls (by show (Value.ref b :: As).reverse ++ vt = _; rw [List.reverse_cons, List.append_assoc]; rfl) (lv_room hvt) hdg hf⟩
        · obtain ⟨k1, k2, k2', k3, k4, k6⟩ := ia_ok1n hok
          obtain ⟨k, hk1, hk2⟩ := ia_pred k6
          have hAl : As.length = k := by rw [List.length_cons, hk1] at hvl; omega
          have hmet := hM y2 _ σ n _ hcall k1 l D sa _ ws tys H.size hvs hn hR
          obtain ⟨e1, e2, e3, e4, e5, e6, e7, e8⟩ := ia_okM_eq k1
          have hnw := N.1 _ k2'
          rw [k2] at hnw
          rw [k4.2] at e1
          have hcn : va_CN R s args (ia_own (ia_cls y)) i (ia_nm y2) RX11 (ia_code y2) (ia_maxL y2) none (ia_ws y2) (ia_rm d y2) (ia_mc y2) (ia_ms y2) k := va_cnB (Ts := ia_cw y :: ia_TB) (ws' := ia_TB) k hts (ia_good e2) (by rw [ia_ws, e1]) rfl rfl hnw (X.hts e5) ⟨e6, e7, hk2⟩ ⟨by rw [hRf]; exact Nat.le_refl _, by rw [hRl]; show 8 + (ia_maxL y2 + 11) + 100 * d ≤ _; omega⟩
          exact ⟨_, va_runIN (As := As) (rest := vt) hfix hmet ⟨hcn, k4.1, X.hts k3⟩ ⟨ia_blind, hpre⟩ rfl hAl hls (by show (Value.ref b :: As).reverse ++ vt = _; rw [List.reverse_cons, List.append_assoc]; rfl) (lv_room hvt) hdg hf⟩
    · cases h
  · rename_i z0 z1 z2 z3 hpl
    split at h
    · rename_i k t
      obtain ⟨hq, h⟩ := ia_if_eq h
      rw [Bool.and_eq_true] at hq
      have hkd := ia_beq hq.1
      have hsz := ia_ble hq.2
      rw [ia_nx_eq] at h
      intro H locs ws tys ls l' vst hl hL hSt hK hP hD hS hn hR hxx h1 h2
      obtain ⟨_, vt, rfl, ⟨b, hkb, rfl⟩, g3⟩ := hSt
      have hins : ins = .invokespecial i := by
        rcases hk with z | z | z
        · omega
        · omega
        · exact z.2
      subst hins
      refine W.objInit hx hb hown (X.hts (ia_is_in (ia_pl_ok hpl))) (X.hts (ia_is_in ia_oi)) (X.hts (ia_is_in ia_oc)) (g := F0 m pc ls (.ref b :: vt)) rfl (by rw [hml, ← hnL]; exact hl.1) rfl hdg (by rw [hRf]; omega) (by rw [hRl]; show 2 * 0 + _ + 12 ≤ _; rw [ia_Ssz g3]; omega) ?_
      exact ihk _ _ _ _ _ _ _ h H locs ws tys ls l' _ hl hL g3 hK hP hD hS hn hR hxx h1 h2
    · cases h
  · rename_i z0 z1 z2 z3 hpl
    split at h
    · rename_i k dp dd sp ss t
      obtain ⟨hq, h⟩ := ia_if_eq h
      simp only [Bool.and_eq_true] at hq
      obtain ⟨⟨q1, q2⟩, ⟨q3, q4⟩, ⟨q5, q6⟩, q7, q8⟩ := hq
      have hkd := ia_beq q1
      have hsz := ia_ble q2
      have hins : ins = .invokestatic i := by
        rcases hk with z | z | z
        · omega
        · exact z.2
        · omega
      subst hins
      split at h
      · rename_i cs hcs
        split at h
        · rename_i cd hcd
          obtain ⟨hq2, h⟩ := ia_if_eq h
          simp only [Bool.and_eq_true, Bool.or_eq_true] at hq2
          obtain ⟨⟨w1, w2⟩, w3, w4⟩ := hq2
          have w1 := ia_beq w1
          have w3 : k.1 - 2147483648 ≤ cs.2.1 := ia_ble w3
          have w4 : k.1 - 2147483648 = cd.2.1 := ia_beq w4
          rw [ia_set2K_eq, ia_nx_eq] at h
          intro H locs ws tys ls l' vst hl hL hSt hK hP hD hS hn hR hxx h1 h2
          obtain ⟨_, _, rfl, ⟨xk, rfl, xk1, xk2⟩, _, _, rfl, ⟨xd, rfl, xd1, xd2⟩, _, _, rfl, ⟨bd, hbd, rfl⟩, _, _, rfl, ⟨xs, rfl, xs1, xs2⟩, _, vt, rfl, ⟨bs, hbs, rfl⟩, g3⟩ := hSt
          have e1 := ia_beq q3
          have e2 := ia_beq q4
          have e3 := ia_beq q5
          have e4 := ia_beq q6
          have e5 := ia_beq q7
          have e6 := ia_ble q8
          have hxd : xd = 0 := ia_E_inj (by rw [ia_E0]; omega)
          have hxs : xs = 0 := ia_E_inj (by rw [ia_E0]; omega)
          subst hxd
          subst hxs
          have hEk : ia_E xk = k.1 := ia_one e5 xk1 xk2
          have hck := ia_cl (x := xk) (by omega)
          rw [hEk] at hck
          have hnegk : ¬ xk < 0 := by rw [ia_neg]; omega
          have hc0 : (0 : Int32).toNatClampNeg = 0 := rfl
          have hneg0 : ¬ (0 : Int32) < 0 := by decide
          have hloc : (vt.map fun v => v.category).sum + (nativeFrameWords "java/lang/System" "arraycopy" 5 + 11) ≤ R.locals := by
            rw [ia_Ssz g3, hRl]
            have hz : nativeFrameWords "java/lang/System" "arraycopy" 5 ≤ 60 := by decide +kernel
            omega
          have w2' : cs.1 = 50 ∨ cs.1 = 51 := by
            rcases w2 with z | z
            · exact Or.inl (ia_beq z)
            · exact Or.inr (ia_beq z)
          obtain ⟨es, hws, hccs⟩ := hR.at hcs (by omega) hbs
          obtain ⟨ed, hwd, hccd⟩ := hR.at hcd (by omega) hbd
          have fin : ∀ (e1 : va_E), ia_c sa (ws.map Prod.fst) tys (cd.1, cd.2.1, cs.2.2) e1 → ∀ (H1 : Heap) (locs1 : List Loc), va_P D vwCl (ws.set dd (bd, e1)) H1 → va_D A (ws.set dd (bd, e1)) → va_S A s.heap H1 locs1 → W p l e R s m args below meth c H1 locs1 nc ns Q (F0 m (pc + 3) ls vt) := fun e1 he1 H1 locs1 hP1 hD1 hS1 => by
            have hfst := ia_fst_set (e := e1) hwd
            exact ihk _ _ _ _ _ _ _ h H1 locs1 _ tys ls l' vt hl (by rw [hfst]; exact hL) (by rw [hfst]; exact g3) hK hP1 hD1 hS1 (by rw [List.length_set]; exact hn) (hR.set hwd he1) (by rw [hfst]; exact hxx) h1 h2
          have hlk := X.hts (ia_is_in (ia_pl_ok hpl))
          have hcml : c.maxLocals = ls.size := by rw [hml, ← hnL]; exact hl.1.symm
          rcases w2' with hz | hz
          · obtain ⟨c1, f, rfl, hm1, hf⟩ := hccs.2.1 hz
            obtain ⟨c2, g, rfl, hm2, -⟩ := hccd.2.1 (by omega)
            obtain ⟨t1, ht1⟩ := ia_mem_at hm1
            obtain ⟨t2, ht2⟩ := ia_mem_at hm2
            refine va_copyi hx hb hcml hown hlk (X.hts (ia_is_in ia_an)) (X.hts (ia_is_in ia_ast)) (X.hts (ia_is_in ia_asy)) hK hP hD hS ss dd t1 t2 hws hwd ht1 ht2 rfl hneg0 hneg0 hnegk (by rw [hc0, hck]; omega) (by rw [hc0, hck]; omega) (fun _ _ => rfl) (by rw [hRf]; omega) hloc hdg (fin _ ?_)
            refine ⟨fun z => absurd z (by show ¬ cd.1 < 50; omega), fun _ => ⟨c2, _, rfl, hm2, fun j a hj hlt => ?_⟩, fun z => absurd z (by show ¬ cd.1 = 51; omega), fun z => absurd z (by show ¬ cd.1 = 52; omega), fun z => absurd z (by show ¬ cd.1 = 53; omega), fun z => absurd z (by show ¬ cd.1 = 54; omega), fun z => absurd z (by show ¬ cd.1 = 55; omega)⟩
            have hlt' : j < cd.2.1 := hlt
            rw [hc0, hck, pk_cpy_in (Nat.zero_le _) (by omega)]
            rw [show 0 + (j - 0) = j from by omega]
            exact hf j a hj (by omega)
          · obtain ⟨c1, f, rfl, hm1, hf⟩ := hccs.2.2.1 hz
            obtain ⟨c2, g, rfl, hm2, -⟩ := hccd.2.2.1 (by omega)
            obtain ⟨t1, ht1⟩ := ia_mem_at hm1
            obtain ⟨t2, ht2⟩ := ia_mem_at hm2
            refine va_copyl hx hb hcml hown hlk (X.hts (ia_is_in ia_an)) (X.hts (ia_is_in ia_ast)) (X.hts (ia_is_in ia_asy)) hK hP hD hS ss dd t1 t2 hws hwd ht1 ht2 rfl hneg0 hneg0 hnegk (by rw [hc0, hck]; omega) (by rw [hc0, hck]; omega) (fun _ _ => rfl) (by rw [hRf]; omega) hloc hdg (fin _ ?_)
            refine ⟨fun z => absurd z (by show ¬ cd.1 < 50; omega), fun z => absurd z (by show ¬ cd.1 = 50; omega), fun _ => ⟨c2, _, rfl, hm2, fun j a hj hlt => ?_⟩, fun z => absurd z (by show ¬ cd.1 = 52; omega), fun z => absurd z (by show ¬ cd.1 = 53; omega), fun z => absurd z (by show ¬ cd.1 = 54; omega), fun z => absurd z (by show ¬ cd.1 = 55; omega)⟩
            have hlt' : j < cd.2.1 := hlt
            rw [hc0, hck, pk_cpy_in (Nat.zero_le _) (by omega)]
            rw [show 0 + (j - 0) = j from by omega]
            exact hf j a hj (by omega)
        · cases h
      · cases h
    · cases h
  · rename_i z0 z1 z2 z3 hpl
    split at h
    · rename_i b a t
      obtain ⟨hq, h⟩ := ia_if_eq h
      simp only [Bool.and_eq_true] at hq
      obtain ⟨⟨q1, q2⟩, q3, q4⟩ := hq
      have hkd := ia_beq q1
      have hsz := ia_ble q2
      have e3 := ia_beq q3
      have e4 := ia_beq q4
      have hins : ins = .invokestatic i := by
        rcases hk with z | z | z
        · omega
        · exact z.2
        · omega
      subst hins
      intro H locs ws tys ls l' vst hl hL hSt hK hP hD hS hn hR hxx h1 h2
      obtain ⟨_, _, rfl, ⟨zb, rfl, zb1, zb2⟩, _, vt, rfl, ⟨za, rfl, za1, za2⟩, g3⟩ := hSt
      refine va_mmin hx hb (by rw [hml, ← hnL]; exact hl.1.symm) hown (X.hts (ia_is_in (ia_pl_ok hpl))) (X.hts (ia_is_in ia_mms)) (X.hts (ia_is_in ia_mmi)) (X.hts (ia_is_in ia_mmc)) (by rw [hRf]; omega) (by rw [hRl, ia_Ssz g3]; omega) (by rw [hRc]; exact h1) (by rw [hRs]; exact h2) hdg ?_
      split at h
      · rename_i hz
        have hz := ia_blt hz
        rw [ia_nx_eq] at h
        have hlt : zb < za := by rw [ia_lt]; omega
        rw [if_pos hlt]
        exact ihk _ _ _ _ _ _ _ h H locs ws tys ls l' _ hl hL ⟨_, _, rfl, ⟨zb, rfl, zb1, zb2⟩, g3⟩ hK hP hD hS hn hR hxx h1 h2
      · rename_i hz
        have hz := ia_nblt hz
        rw [ia_nx_eq] at h
        have hlt : ¬ zb < za := by rw [ia_lt]; omega
        rw [if_neg hlt]
        exact ihk _ _ _ _ _ _ _ h H locs ws tys ls l' _ hl hL ⟨_, _, rfl, ⟨za, rfl, za1, za2⟩, g3⟩ hK hP hD hS hn hR hxx h1 h2
    · cases h
  · cases h
end IAI
end
section
section IAD
variable {p : Program} {l : Launch} {e : Env} {R : Room} {s : State} {m : MethodId} {args : Array Value} {below : List Frame} {meth : Method} {c : Code} {Q : State → Prop}
variable {D : va_G} {sa : Nat × Nat} {A : Nat → Prop} {as0 : List Nat} {nL y pc : Nat} {lv : List (Option ia_V)} {st : List ia_V} {σ : ia_H} {n nc ns : Nat} {ih : ia_K} {out : ia_O} {d : Nat}
theorem ia_l64 (z : Int64) : Int64.ofNat z.toBitVec.toNat = z := by
  apply Int64.toBitVec_inj.mp
  apply BitVec.eq_of_toNat_eq
  show (BitVec.ofNat 64 z.toBitVec.toNat).toNat = _
  rw [BitVec.toNat_ofNat]
  exact Nat.mod_eq_of_lt z.toBitVec.isLt
theorem ia_l64mod (k : Nat) : Int64.ofNat (Nat.mod k 18446744073709551616) = Int64.ofNat k := by
  apply Int64.toBitVec_inj.mp
  apply BitVec.eq_of_toNat_eq
  show (BitVec.ofNat 64 (k % 18446744073709551616)).toNat = (BitVec.ofNat 64 k).toNat
  rw [BitVec.toNat_ofNat, BitVec.toNat_ofNat]
  omega
theorem ia_l64add (a b : Nat) : Int64.ofNat a + Int64.ofNat b = Int64.ofNat (Nat.mod (Nat.add a b) 18446744073709551616) := by
  rw [ia_l64mod]
  exact lN_add a b
theorem ia_l64mul (a b : Nat) : Int64.ofNat a * Int64.ofNat b = Int64.ofNat (Nat.mod (Nat.mul a b) 18446744073709551616) := by
  rw [ia_l64mod]
  exact lN_mul a b
set_option maxHeartbeats 4000000 in
set_option maxRecDepth 10000 in
theorem ia_s_do (hM : ia_Mets d) (X : ia_X p R s m args meth c y d) (N : ia_N sa A s s.heap) (hA : ∀ q, s.heap.size ≤ q → A q) (hnL : nL = ia_maxL y) {ins : Instr} {len : Nat} (hdg : decode (ia_code y) pc = .ok (ins, len))
    (hend1 : decode (ia_code y) pc = .ok (.ireturn, 1) → ia_rt y st σ n = some out → ia_WW p l e R s m args below meth c Q D sa A as0 nL y pc lv st σ n nc ns) (hend0 : decode (ia_code y) pc = .ok (.return_, 1) → ia_rv y st σ n = some out → ia_WW p l e R s m args below meth c Q D sa A as0 nL y pc lv st σ n nc ns)
    (ihk : ia_IH p l e R s m args below meth c Q D sa A as0 nL y ih out) (h : ia_do ins (ia_call d) y len ih pc lv st σ n nc ns = some out) : ia_WW p l e R s m args below meth c Q D sa A as0 nL y pc lv st σ n nc ns := by
  obtain ⟨hx, hb, hml, hown, hts, -⟩ := id X
  cases ins
  all_goals (try (cases (show (none : Option ia_O) = some out from h)))
  case iconst k =>
    replace h : (ia_if (Nat.beq len 1) (ia_pi ih (ia_E (Int32.ofInt k)) (Nat.add pc 1) lv st σ n nc ns)) = some out := h
    have hq := (ia_if_eq h).1
    replace h := (ia_if_eq h).2
    have hlen := ia_beq hq
    subst hlen
    rw [ia_pi_eq] at h
    exact ia_g_push (a := .inl (_, _)) (v := .int (Int32.ofInt k)) (fun ad => ia_v_one _ _ _) (fun H locs ls vst k' => lv_iconst hx hb hdg rfl k') (ihk _ _ _ _ _ _ _ h)
  case bipush k =>
    replace h : (ia_if (Nat.beq len 2) (ia_pi ih (ia_E (Int8.ofInt k).toInt32) (Nat.add pc 2) lv st σ n nc ns)) = some out := h
    have hq := (ia_if_eq h).1
    replace h := (ia_if_eq h).2
    have hlen := ia_beq hq
    subst hlen
    rw [ia_pi_eq] at h
    exact ia_g_push (a := .inl (_, _)) (v := .int (Int8.ofInt k).toInt32) (fun ad => ia_v_one _ _ _) (fun H locs ls vst k' => lv_bipush hx hb hdg rfl k') (ihk _ _ _ _ _ _ _ h)
  case sipush k =>
    replace h : (ia_if (Nat.beq len 3) (ia_pi ih (ia_E (Int16.ofInt k).toInt32) (Nat.add pc 3) lv st σ n nc ns)) = some out := h
    have hq := (ia_if_eq h).1
    replace h := (ia_if_eq h).2
    have hlen := ia_beq hq
    subst hlen
    rw [ia_pi_eq] at h
    exact ia_g_push (a := .inl (_, _)) (v := .int (Int16.ofInt k).toInt32) (fun ad => ia_v_one _ _ _) (fun H locs ls vst k' => lv_sipush hx hb hdg rfl k') (ihk _ _ _ _ _ _ _ h)
  case lconst k =>
    replace h : (ia_if (Nat.beq len 1) (ia_frc k.val (fun k => ia_nx ih (Nat.add pc 1) lv (.inr (.inl k) :: st) σ n nc ns))) = some out := h
    have hq := (ia_if_eq h).1
    replace h := (ia_if_eq h).2
    have hlen := ia_beq hq
    subst hlen
    rw [ia_frc_eq, ia_nx_eq] at h
    exact ia_g_push (a := .inr (.inl k.val)) (v := .long (Int64.ofNat k.val)) (fun ad => rfl) (fun H locs ls vst k' => lv_lconst hx hb hdg rfl k') (ihk _ _ _ _ _ _ _ h)
  case iload_n k =>
    replace h : (ia_if (Nat.beq len 1) (ia_ld 0 k.val 1 ih pc lv st σ n nc ns)) = some out := h
    have hq := (ia_if_eq h).1
    replace h := (ia_if_eq h).2
    have hlen := ia_beq hq
    subst hlen
    exact ia_g_ld (kd := 0) (fun v H locs ls vst hv hls kk => by obtain ⟨x, rfl⟩ := hv; exact lv_iload_n hx hb hdg rfl hls kk) ihk h
  case iload k =>
    replace h : (ia_if (Nat.beq len 2) (ia_ld 0 k 2 ih pc lv st σ n nc ns)) = some out := h
    have hq := (ia_if_eq h).1
    replace h := (ia_if_eq h).2
    have hlen := ia_beq hq
    subst hlen
    exact ia_g_ld (kd := 0) (fun v H locs ls vst hv hls kk => by obtain ⟨x, rfl⟩ := hv; exact lv_iload hx hb hdg hls kk) ihk h
  case lload_n k =>
    replace h : (ia_if (Nat.beq len 1) (ia_ld 1 k.val 1 ih pc lv st σ n nc ns)) = some out := h
    have hq := (ia_if_eq h).1
    replace h := (ia_if_eq h).2
    have hlen := ia_beq hq
    subst hlen
    exact ia_g_ld (kd := 1) (fun v H locs ls vst hv hls kk => by obtain ⟨x, rfl⟩ := hv; exact lv_lload_n hx hb hdg rfl hls kk) ihk h
  case aload_n k =>
    replace h : (ia_if (Nat.beq len 1) (ia_ld 2 k.val 1 ih pc lv st σ n nc ns)) = some out := h
    have hq := (ia_if_eq h).1
    replace h := (ia_if_eq h).2
    have hlen := ia_beq hq
    subst hlen
    exact ia_g_ld (kd := 2) (fun v H locs ls vst hv hls kk => by obtain ⟨x, rfl⟩ := hv; exact lv_aload_n hx hb hdg rfl hls kk) ihk h
  case aload k =>
    replace h : (ia_if (Nat.beq len 2) (ia_ld 2 k 2 ih pc lv st σ n nc ns)) = some out := h
    have hq := (ia_if_eq h).1
    replace h := (ia_if_eq h).2
    have hlen := ia_beq hq
    subst hlen
    exact ia_g_ld (kd := 2) (fun v H locs ls vst hv hls kk => by obtain ⟨x, rfl⟩ := hv; exact lv_aload hx hb hdg hls kk) ihk h
  case istore_n k =>
    replace h : (ia_if (Nat.beq len 1 && Nat.blt k.val (ia_maxL y)) (ia_sto 0 k.val 1 ih pc lv st σ n nc ns)) = some out := h
    have hq := (ia_if_eq h).1
    replace h := (ia_if_eq h).2
    rw [Bool.and_eq_true] at hq
    have hlen := ia_beq hq.1
    subst hlen
    have hlt := ia_blt hq.2
    rw [← hnL] at hlt
    exact ia_g_sto (kd := 0) (fun v l1 l2 H locs ls vst hv hl he kk => by obtain ⟨x, rfl⟩ := hv; exact lv_istore_n hx hb hdg rfl hl hlt he kk) ihk h
  case istore k =>
    replace h : (ia_if (Nat.beq len 2 && Nat.blt k (ia_maxL y)) (ia_sto 0 k 2 ih pc lv st σ n nc ns)) = some out := h
    have hq := (ia_if_eq h).1
    replace h := (ia_if_eq h).2
    rw [Bool.and_eq_true] at hq
    have hlen := ia_beq hq.1
    subst hlen
    have hlt := ia_blt hq.2
    rw [← hnL] at hlt
    exact ia_g_sto (kd := 0) (fun v l1 l2 H locs ls vst hv hl he kk => by obtain ⟨x, rfl⟩ := hv; exact lv_istore hx hb hdg hl hlt he kk) ihk h
  case astore_n k =>
    replace h : (ia_if (Nat.beq len 1 && Nat.blt k.val (ia_maxL y)) (ia_sto 2 k.val 1 ih pc lv st σ n nc ns)) = some out := h
    have hq := (ia_if_eq h).1
    replace h := (ia_if_eq h).2
    rw [Bool.and_eq_true] at hq
    have hlen := ia_beq hq.1
    subst hlen
    have hlt := ia_blt hq.2
    rw [← hnL] at hlt
    exact ia_g_sto (kd := 2) (fun v l1 l2 H locs ls vst hv hl he kk => by obtain ⟨x, rfl⟩ := hv; exact lv_astore_n hx hb hdg rfl hl hlt he kk) ihk h
  case lstore_n k =>
    replace h : (ia_if (Nat.beq len 1 && Nat.blt (Nat.succ k.val) (ia_maxL y)) (ia_stl k.val 1 ih pc lv st σ n nc ns)) = some out := h
    have hq := (ia_if_eq h).1
    replace h := (ia_if_eq h).2
    rw [Bool.and_eq_true] at hq
    have hlen := ia_beq hq.1
    subst hlen
    have hlt := ia_blt hq.2
    rw [← hnL] at hlt
    exact ia_g_stl (fun v l1 l2 H locs ls vst hl he kk => lv_lstore_n hx hb hdg rfl hl hlt he kk) ihk h
  case iinc k dd =>
    replace h : (ia_if (Nat.beq len 3 && Nat.blt k (ia_maxL y)) (match ia_at lv k with
      | some (some (.inl a)) => ia_if (Nat.beq a.1 a.2) (ia_frc (Nat.mod (Nat.add (Nat.add a.1 (ia_E (Int32.ofInt dd))) 2147483648) 4294967296) (fun r => ia_if (ia_nl lv k) (ia_setK lv k (some (.inl (r, r))) (fun lv => ia_nx ih (Nat.add pc 3) lv st σ n nc ns))))
      | _ => none)) = some out := h
    have hq := (ia_if_eq h).1
    replace h := (ia_if_eq h).2
    rw [Bool.and_eq_true] at hq
    have hlen := ia_beq hq.1
    subst hlen
    have hlt := ia_blt hq.2
    rw [← hnL] at hlt
    split at h
    · rename_i a ha
      rw [ia_at_eq] at ha
      have h3 := (ia_if_eq h).1
      replace h := (ia_if_eq h).2
      rw [ia_frc_eq] at h
      have h4 := (ia_if_eq h).1
      replace h := (ia_if_eq h).2
      rw [ia_setK_eq, ia_nx_eq] at h
      intro H locs ws tys ls l' vst hl hL hSt hK hP hD hS hn hR hxx h1 h2
      obtain ⟨v, g1, ⟨x, rfl, x1, x2⟩⟩ := hL k _ ha
      obtain ⟨t0, ht0⟩ := List.getElem?_of_mem g1
      have hE : ia_E x = a.1 := ia_one (ia_beq h3) x1 x2
      refine lv_iinc (k := t0) hx hb hdg hl ht0 rfl hlt rfl (fun ls' hl2 => ihk _ _ _ _ _ _ _ h H locs ws tys ls' _ vst hl2 (ia_L_set hL h4 ?_) hSt hK hP hD hS hn hR hxx h1 h2)
      rw [← hE, ← ia_Eadd]
      exact ia_v_one _ _ _
    · cases h
  case iadd =>
    replace h : (ia_if (Nat.beq len 1) (ia_bin (fun a b => Nat.mod (Nat.add (Nat.add a b) 2147483648) 4294967296) ih pc lv st σ n nc ns)) = some out := h
    have hq := (ia_if_eq h).1
    replace h := (ia_if_eq h).2
    have hlen := ia_beq hq
    subst hlen
    exact ia_g_bin (f := fun a b => Nat.mod (Nat.add (Nat.add a b) 2147483648) 4294967296) (op := fun x z => x + z) (fun x z => ia_Eadd x z) (fun _ => True) (fun _ _ _ _ _ _ => trivial) (fun x z H locs ls vst _ k => lv_iadd hx hb hdg k) ihk h
  case isub =>
    replace h : (ia_if (Nat.beq len 1) (ia_bin (fun a b => Nat.mod (Nat.sub (Nat.add a 6442450944) b) 4294967296) ih pc lv st σ n nc ns)) = some out := h
    have hq := (ia_if_eq h).1
    replace h := (ia_if_eq h).2
    have hlen := ia_beq hq
    subst hlen
    exact ia_g_bin (f := fun a b => Nat.mod (Nat.sub (Nat.add a 6442450944) b) 4294967296) (op := fun x z => x - z) (fun x z => ia_Esub x z) (fun _ => True) (fun _ _ _ _ _ _ => trivial) (fun x z H locs ls vst _ k => lv_isub hx hb hdg k) ihk h
  case imul =>
    replace h : (ia_if (Nat.beq len 1) (ia_bin (ia_op (fun x y => x * y)) ih pc lv st σ n nc ns)) = some out := h
    have hq := (ia_if_eq h).1
    replace h := (ia_if_eq h).2
    have hlen := ia_beq hq
    subst hlen
    exact ia_g_bin (op := fun x z => x * z) (ia_op_ok _) (fun _ => True) (fun _ _ _ _ _ _ => trivial) (fun x z H locs ls vst _ k => lv_imul hx hb hdg k) ihk h
  case iand =>
    replace h : (ia_if (Nat.beq len 1) (ia_bin (ia_op (fun x y => x &&& y)) ih pc lv st σ n nc ns)) = some out := h
    have hq := (ia_if_eq h).1
    replace h := (ia_if_eq h).2
    have hlen := ia_beq hq
    subst hlen
    exact ia_g_bin (op := fun x z => x &&& z) (ia_op_ok _) (fun _ => True) (fun _ _ _ _ _ _ => trivial) (fun x z H locs ls vst _ k => lv_iand hx hb hdg k) ihk h
  case ishl =>
    replace h : (ia_if (Nat.beq len 1) (ia_bin (ia_op (fun x y => x <<< (y &&& 31))) ih pc lv st σ n nc ns)) = some out := h
    have hq := (ia_if_eq h).1
    replace h := (ia_if_eq h).2
    have hlen := ia_beq hq
    subst hlen
    exact ia_g_bin (op := fun x z => x <<< (z &&& 31)) (ia_op_ok _) (fun _ => True) (fun _ _ _ _ _ _ => trivial) (fun x z H locs ls vst _ k => lv_ishl hx hb hdg k) ihk h
  case ishr =>
    replace h : (ia_if (Nat.beq len 1) (ia_bin (ia_op (fun x y => x >>> (y &&& 31))) ih pc lv st σ n nc ns)) = some out := h
    have hq := (ia_if_eq h).1
    replace h := (ia_if_eq h).2
    have hlen := ia_beq hq
    subst hlen
    exact ia_g_bin (op := fun x z => x >>> (z &&& 31)) (ia_op_ok _) (fun _ => True) (fun _ _ _ _ _ _ => trivial) (fun x z H locs ls vst _ k => lv_ishr hx hb hdg k) ihk h
  case iushr =>
    replace h : (ia_if (Nat.beq len 1) (ia_bin (ia_op (fun x y => (x.toUInt32 >>> (y.toUInt32 &&& Int32.toUInt32 31)).toInt32)) ih pc lv st σ n nc ns)) = some out := h
    have hq := (ia_if_eq h).1
    replace h := (ia_if_eq h).2
    have hlen := ia_beq hq
    subst hlen
    exact ia_g_bin (op := fun x z => (x.toUInt32 >>> (z.toUInt32 &&& Int32.toUInt32 31)).toInt32) (ia_op_ok _) (fun _ => True) (fun _ _ _ _ _ _ => trivial) (fun x z H locs ls vst _ k => lv_iushr hx hb hdg rfl k) ihk h
  case irem =>
    replace h : (ia_if (Nat.beq len 1) (match st with
      | .inl b :: _ => ia_if (Nat.beq b.1 b.2 && Nat.blt 2147483648 b.1) (ia_bin (ia_op (fun x y => x - x / y * y)) ih pc lv st σ n nc ns)
      | _ => none)) = some out := h
    have hq := (ia_if_eq h).1
    replace h := (ia_if_eq h).2
    have hlen := ia_beq hq
    subst hlen
    split at h
    · rename_i b t
      have hz := (ia_if_eq h).1
      replace h := (ia_if_eq h).2
      rw [Bool.and_eq_true] at hz
      have hz2 := ia_blt hz.2
      exact ia_g_bin (op := fun x z => x - x / z * z) (ia_op_ok _) (fun z => ¬ z = 0) (fun b' t' e z z1 z2 => by cases e; intro q; rw [q, ia_E0] at z1; omega) (fun x z H locs ls vst hne k => lv_irem hx hb hdg hne k) ihk h
    · cases h
  case i2b =>
    replace h : (ia_if (Nat.beq len 1) (ia_un (fun a => ia_E (ia_D a).toInt8.toInt32) ih pc lv st σ n nc ns)) = some out := h
    have hq := (ia_if_eq h).1
    replace h := (ia_if_eq h).2
    have hlen := ia_beq hq
    subst hlen
    exact ia_g_un (op := fun x => x.toInt8.toInt32) (fun x => by rw [ia_DE]) (fun x H locs ls vst k => lv_i2b hx hb hdg rfl k) ihk h
  case i2l =>
    replace h : (ia_if (Nat.beq len 1) (match st with
      | .inl a :: t => ia_if (Nat.beq a.1 a.2) (ia_frc (ia_D a.1).toInt64.toBitVec.toNat (fun r => ia_nx ih (Nat.add pc 1) lv (.inr (.inl r) :: t) σ n nc ns))
      | _ => none)) = some out := h
    have hq := (ia_if_eq h).1
    replace h := (ia_if_eq h).2
    have hlen := ia_beq hq
    subst hlen
    split at h
    · rename_i a t
      have hz := (ia_if_eq h).1
      replace h := (ia_if_eq h).2
      rw [ia_frc_eq, ia_nx_eq] at h
      intro H locs ws tys ls l' vst hl hL hSt hK hP hD hS hn hR hxx h1 h2
      obtain ⟨_, vt, rfl, ⟨x, rfl, x1, x2⟩, g3⟩ := hSt
      refine lv_i2l hx hb hdg rfl (ihk _ _ _ _ _ _ _ h H locs ws tys ls l' _ hl hL ⟨_, _, rfl, ?_, g3⟩ hK hP hD hS hn hR hxx h1 h2)
      rw [← ia_one (ia_beq hz) x1 x2, ia_DE]
      exact congrArg Value.long (ia_l64 _).symm
    · cases h
  case ladd =>
    replace h : (ia_if (Nat.beq len 1) (match st with
      | .inr (.inl b) :: .inr (.inl a) :: t => ia_frc (Nat.mod (Nat.add a b) 18446744073709551616) (fun r => ia_nx ih (Nat.add pc 1) lv (.inr (.inl r) :: t) σ n nc ns)
      | _ => none)) = some out := h
    have hq := (ia_if_eq h).1
    replace h := (ia_if_eq h).2
    have hlen := ia_beq hq
    subst hlen
    split at h
    · rename_i b a t
      rw [ia_frc_eq, ia_nx_eq] at h
      intro H locs ws tys ls l' vst hl hL hSt hK hP hD hS hn hR hxx h1 h2
      obtain ⟨_, _, rfl, hv1, _, vt, rfl, hv2, g3⟩ := hSt
      cases hv1
      cases hv2
      exact lv_ladd hx hb hdg (ihk _ _ _ _ _ _ _ h H locs ws tys ls l' _ hl hL ⟨_, _, rfl, congrArg Value.long (ia_l64add a b), g3⟩ hK hP hD hS hn hR hxx h1 h2)
    · cases h
  case lmul =>
    replace h : (ia_if (Nat.beq len 1) (match st with
      | .inr (.inl b) :: .inr (.inl a) :: t => ia_frc (Nat.mod (Nat.mul a b) 18446744073709551616) (fun r => ia_nx ih (Nat.add pc 1) lv (.inr (.inl r) :: t) σ n nc ns)
      | _ => none)) = some out := h
    have hq := (ia_if_eq h).1
    replace h := (ia_if_eq h).2
    have hlen := ia_beq hq
    subst hlen
    split at h
    · rename_i b a t
      rw [ia_frc_eq, ia_nx_eq] at h
      intro H locs ws tys ls l' vst hl hL hSt hK hP hD hS hn hR hxx h1 h2
      obtain ⟨_, _, rfl, hv1, _, vt, rfl, hv2, g3⟩ := hSt
      cases hv1
      cases hv2
      exact lv_lmul hx hb hdg (ihk _ _ _ _ _ _ _ h H locs ws tys ls l' _ hl hL ⟨_, _, rfl, congrArg Value.long (ia_l64mul a b), g3⟩ hK hP hD hS hn hR hxx h1 h2)
    · cases h
  case dup =>
    replace h : (ia_if (Nat.beq len 1) (match st with
      | a :: t => ia_if (Nat.beq (ia_cat a) 1) (ia_nx ih (Nat.add pc 1) lv (a :: a :: t) σ n nc ns)
      | _ => none)) = some out := h
    have hq := (ia_if_eq h).1
    replace h := (ia_if_eq h).2
    have hlen := ia_beq hq
    subst hlen
    split at h
    · rename_i a t
      have hz := (ia_if_eq h).1
      replace h := (ia_if_eq h).2
      rw [ia_nx_eq] at h
      intro H locs ws tys ls l' vst hl hL hSt hK hP hD hS hn hR hxx h1 h2
      obtain ⟨v, vt, rfl, g2, g3⟩ := hSt
      exact lv_dup hx hb hdg (by rw [ia_vcat g2, ia_beq hz]) (ihk _ _ _ _ _ _ _ h H locs ws tys ls l' _ hl hL ⟨_, _, rfl, g2, _, _, rfl, g2, g3⟩ hK hP hD hS hn hR hxx h1 h2)
    · cases h
  case dup2 =>
    replace h : (ia_if (Nat.beq len 1) (match st with
      | a :: b :: t => ia_if (Nat.beq (ia_cat a) 1 && Nat.beq (ia_cat b) 1) (ia_nx ih (Nat.add pc 1) lv (a :: b :: a :: b :: t) σ n nc ns)
      | _ => none)) = some out := h
    have hq := (ia_if_eq h).1
    replace h := (ia_if_eq h).2
    have hlen := ia_beq hq
    subst hlen
    split at h
    · rename_i a b t
      have hz := (ia_if_eq h).1
      replace h := (ia_if_eq h).2
      rw [Bool.and_eq_true] at hz
      rw [ia_nx_eq] at h
      intro H locs ws tys ls l' vst hl hL hSt hK hP hD hS hn hR hxx h1 h2
      obtain ⟨v, _, rfl, g2, w, vt, rfl, g4, g3⟩ := hSt
      exact lv_dup2_11 hx hb hdg (by rw [ia_vcat g2, ia_beq hz.1]) (by rw [ia_vcat g4, ia_beq hz.2]) (ihk _ _ _ _ _ _ _ h H locs ws tys ls l' _ hl hL ⟨_, _, rfl, g2, _, _, rfl, g4, _, _, rfl, g2, _, _, rfl, g4, g3⟩ hK hP hD hS hn hR hxx h1 h2)
    · cases h
  case pop =>
    replace h : (ia_if (Nat.beq len 1) (match st with
      | a :: t => ia_if (Nat.beq (ia_cat a) 1) (ia_nx ih (Nat.add pc 1) lv t σ n nc ns)
      | _ => none)) = some out := h
    have hq := (ia_if_eq h).1
    replace h := (ia_if_eq h).2
    have hlen := ia_beq hq
    subst hlen
    split at h
    · rename_i a t
      have hz := (ia_if_eq h).1
      replace h := (ia_if_eq h).2
      rw [ia_nx_eq] at h
      intro H locs ws tys ls l' vst hl hL hSt hK hP hD hS hn hR hxx h1 h2
      obtain ⟨v, vt, rfl, g2, g3⟩ := hSt
      exact lv_pop hx hb hdg (by rw [ia_vcat g2, ia_beq hz]) (ihk _ _ _ _ _ _ _ h H locs ws tys ls l' _ hl hL g3 hK hP hD hS hn hR hxx h1 h2)
    · cases h
  case ifCond k o =>
    replace h : (ia_if (Nat.beq len 3) (match st with
      | .inl a :: t => ia_br (ia_cmp k a (2147483648, 2147483648)) o ih pc lv t σ n nc ns
      | _ => none)) = some out := h
    have hq := (ia_if_eq h).1
    replace h := (ia_if_eq h).2
    have hlen := ia_beq hq
    subst hlen
    split at h
    · rename_i a t
      obtain ⟨t', ht, hb3⟩ := ia_br_ok ihk h
      intro H locs ws tys ls l' vst hl hL hSt hK hP hD hS hn hR hxx h1 h2
      obtain ⟨_, vt, rfl, ⟨x, rfl, x1, x2⟩, g3⟩ := hSt
      have z1 : ((2147483648, 2147483648) : Nat × Nat).1 ≤ ia_E (0 : Int32) := by rw [ia_E0]; exact Nat.le_refl _
      have z2 : ia_E (0 : Int32) ≤ ((2147483648, 2147483648) : Nat × Nat).2 := by rw [ia_E0]; exact Nat.le_refl _
      have gt : ∀ t' : Nat, ia_WW p l e R s m args below meth c Q D sa A as0 nL y t' lv t σ n nc ns → W p l e R s m args below meth c H locs nc ns Q (F0 m t' ls vt) := fun t' hw => hw H locs ws tys ls l' _ hl hL g3 hK hP hD hS hn hR hxx h1 h2
      rcases hb3 with ⟨hr, hw⟩ | ⟨hr, hw⟩
      · have hrel := (ia_cmp_ok hr x1 x2 z1 z2).1 rfl
        cases k
        · exact lv_if_eq hx hb hdg ht (fun _ => gt _ hw) (fun q => absurd hrel q)
        · exact lv_if_ne hx hb hdg ht (fun _ => gt _ hw) (fun q => absurd q hrel)
        · exact lv_if_lt hx hb hdg ht (fun _ => gt _ hw) (fun q => absurd hrel q)
        · exact lv_if_ge hx hb hdg ht (fun _ => gt _ hw) (fun q => absurd hrel q)
        · exact lv_if_gt hx hb hdg ht (fun _ => gt _ hw) (fun q => absurd hrel q)
        · exact lv_if_le hx hb hdg ht (fun _ => gt _ hw) (fun q => absurd hrel q)
      · have hrel := (ia_cmp_ok hr x1 x2 z1 z2).2 rfl
        cases k
        · exact lv_if_eq hx hb hdg ht (fun q => absurd q hrel) (fun _ => gt _ hw)
        · exact lv_if_ne hx hb hdg ht (fun q => absurd q hrel) (fun _ => gt _ hw)
        · exact lv_if_lt hx hb hdg ht (fun q => absurd q hrel) (fun _ => gt _ hw)
        · exact lv_if_ge hx hb hdg ht (fun q => absurd q hrel) (fun _ => gt _ hw)
        · exact lv_if_gt hx hb hdg ht (fun q => absurd q hrel) (fun _ => gt _ hw)
        · exact lv_if_le hx hb hdg ht (fun q => absurd q hrel) (fun _ => gt _ hw)
    · cases h
  case if_icmp k o =>
    replace h : (ia_if (Nat.beq len 3) (match st with
      | .inl b :: .inl a :: t => ia_br (ia_cmp k a b) o ih pc lv t σ n nc ns
      | _ => none)) = some out := h
    have hq := (ia_if_eq h).1
    replace h := (ia_if_eq h).2
    have hlen := ia_beq hq
    subst hlen
    split at h
    · rename_i b a t
      obtain ⟨t', ht, hb3⟩ := ia_br_ok ihk h
      intro H locs ws tys ls l' vst hl hL hSt hK hP hD hS hn hR hxx h1 h2
      obtain ⟨_, _, rfl, ⟨z, rfl, z1, z2⟩, _, vt, rfl, ⟨x, rfl, x1, x2⟩, g3⟩ := hSt
      have gt : ∀ t' : Nat, ia_WW p l e R s m args below meth c Q D sa A as0 nL y t' lv t σ n nc ns → W p l e R s m args below meth c H locs nc ns Q (F0 m t' ls vt) := fun t' hw => hw H locs ws tys ls l' _ hl hL g3 hK hP hD hS hn hR hxx h1 h2
      rcases hb3 with ⟨hr, hw⟩ | ⟨hr, hw⟩
      · have hrel := (ia_cmp_ok hr x1 x2 z1 z2).1 rfl
        cases k
        · exact lv_icmp_eq hx hb hdg ht (fun _ => gt _ hw) (fun q => absurd hrel q)
        · exact lv_icmp_ne hx hb hdg ht (fun _ => gt _ hw) (fun q => absurd q hrel)
        · exact lv_icmp_lt hx hb hdg ht (fun _ => gt _ hw) (fun q => absurd hrel q)
        · exact lv_icmp_ge hx hb hdg ht (fun _ => gt _ hw) (fun q => absurd hrel q)
        · exact lv_icmp_gt hx hb hdg ht (fun _ => gt _ hw) (fun q => absurd hrel q)
        · exact lv_icmp_le hx hb hdg ht (fun _ => gt _ hw) (fun q => absurd hrel q)
      · have hrel := (ia_cmp_ok hr x1 x2 z1 z2).2 rfl
        cases k
        · exact lv_icmp_eq hx hb hdg ht (fun q => absurd q hrel) (fun _ => gt _ hw)
        · exact lv_icmp_ne hx hb hdg ht (fun q => absurd q hrel) (fun _ => gt _ hw)
        · exact lv_icmp_lt hx hb hdg ht (fun q => absurd q hrel) (fun _ => gt _ hw)
        · exact lv_icmp_ge hx hb hdg ht (fun q => absurd q hrel) (fun _ => gt _ hw)
        · exact lv_icmp_gt hx hb hdg ht (fun q => absurd q hrel) (fun _ => gt _ hw)
        · exact lv_icmp_le hx hb hdg ht (fun q => absurd q hrel) (fun _ => gt _ hw)
    · cases h
  case goto o =>
    replace h : (ia_if (Nat.beq len 3) (ia_jmp o ih pc lv st σ n nc ns)) = some out := h
    have hq := (ia_if_eq h).1
    replace h := (ia_if_eq h).2
    have hlen := ia_beq hq
    subst hlen
    obtain ⟨t', ht, hw⟩ := ia_jmp_ok ihk h
    intro H locs ws tys ls l' vst hl hL hSt hK hP hD hS hn hR hxx h1 h2
    exact lv_goto hx hb hdg ht (hw H locs ws tys ls l' _ hl hL hSt hK hP hD hS hn hR hxx h1 h2)
  case tableswitch df lo hi os =>
    replace h : (ia_sw df lo hi os ih pc lv st σ n nc ns) = some out := h
    unfold ia_sw at h
    split at h
    · rename_i a t
      intro H locs ws tys ls l' vst hl hL hSt hK hP hD hS hn hR hxx h1 h2
      obtain ⟨_, vt, rfl, ⟨x, rfl, x1, x2⟩, g3⟩ := hSt
      have hxi := ia_toInt x
      split at h
      · rename_i hz
        rw [Bool.or_eq_true, decide_eq_true_eq, decide_eq_true_eq] at hz
        obtain ⟨t', ht, hw⟩ := ia_jmp_ok ihk h
        refine lv_tableOut hx hb hdg ?_ ht (hw H locs ws tys ls l' _ hl hL g3 hK hP hD hS hn hR hxx h1 h2)
        rcases hz with hz | hz
        · left; have : Int.ofNat a.2 = (a.2 : Int) := rfl; omega
        · right; have : Int.ofNat a.1 = (a.1 : Int) := rfl; omega
      · rename_i hz
        rw [Bool.or_eq_false_iff, decide_eq_false_iff_not, decide_eq_false_iff_not] at hz
        split at h
        · rename_i he
          have hE : ia_E x = a.1 := ia_one (ia_beq he) x1 x2
          have he' := ia_beq he
          split at h
          · rename_i o ho
            obtain ⟨t', ht, hw⟩ := ia_jmp_ok ihk h
            rw [ia_at_eq] at ho
            have hxo : x.toInt - lo = Int.ofNat a.1 - 2147483648 - lo := by rw [hxi, hE]; rfl
            have q1 : Int.ofNat a.1 = (a.1 : Int) := rfl
            have q2 : Int.ofNat a.2 = (a.2 : Int) := rfl
            refine lv_tableIn hx hb hdg (by omega) (by omega) ?_ ht (hw H locs ws tys ls l' _ hl hL g3 hK hP hD hS hn hR hxx h1 h2)
            rw [hxo, ← Array.getElem?_toList]
            exact ho
          · cases h
        · cases h
    · cases h
  case getfield k =>
    replace h : (ia_if (Nat.beq len 3) (ia_frc k (fun k => ia_gf y k ih pc lv st σ n nc ns))) = some out := h
    have hq := (ia_if_eq h).1
    replace h := (ia_if_eq h).2
    have hlen := ia_beq hq
    subst hlen
    rw [ia_frc_eq] at h
    exact ia_s_gf X N hdg ihk h
  case putfield k =>
    replace h : (ia_if (Nat.beq len 3) (ia_frc k (fun k => ia_pf y k ih pc lv st σ n nc ns))) = some out := h
    have hq := (ia_if_eq h).1
    replace h := (ia_if_eq h).2
    have hlen := ia_beq hq
    subst hlen
    rw [ia_frc_eq] at h
    exact ia_s_pf X hdg ihk h
  case getstatic k =>
    replace h : (ia_if (Nat.beq len 3) (ia_frc k (fun k => ia_gs y k ih pc lv st σ n nc ns))) = some out := h
    have hq := (ia_if_eq h).1
    replace h := (ia_if_eq h).2
    have hlen := ia_beq hq
    subst hlen
    rw [ia_frc_eq] at h
    exact ia_s_gs X N hdg ihk h
  case i2c =>
    replace h : (ia_if (Nat.beq len 1) (ia_un (fun a => ia_E ((ia_D a).toUInt32 % 65536).toInt32) ih pc lv st σ n nc ns)) = some out := h
    have hq := (ia_if_eq h).1
    replace h := (ia_if_eq h).2
    have hlen := ia_beq hq
    subst hlen
    exact ia_g_un (op := fun x => (x.toUInt32 % 65536).toInt32) (fun x => by rw [ia_DE]) (fun x H locs ls vst k => lv_i2c hx hb hdg rfl k) ihk h
  case iaload =>
    replace h : (ia_if (Nat.beq len 1) (ia_al 50 ih pc lv st σ n nc ns)) = some out := h
    have hq := (ia_if_eq h).1
    replace h := (ia_if_eq h).2
    have hlen := ia_beq hq
    subst hlen
    exact ia_s_ald X hdg (Or.inl ⟨rfl, rfl⟩) ihk h
  case laload =>
    replace h : (ia_if (Nat.beq len 1) (ia_al 51 ih pc lv st σ n nc ns)) = some out := h
    have hq := (ia_if_eq h).1
    replace h := (ia_if_eq h).2
    have hlen := ia_beq hq
    subst hlen
    exact ia_s_ald X hdg (Or.inr (Or.inl ⟨rfl, rfl⟩)) ihk h
  case baload =>
    replace h : (ia_if (Nat.beq len 1) (ia_alb ih pc lv st σ n nc ns)) = some out := h
    have hq := (ia_if_eq h).1
    replace h := (ia_if_eq h).2
    have hlen := ia_beq hq
    subst hlen
    exact ia_s_bld X N hdg ihk h
  case aaload =>
    replace h : (ia_if (Nat.beq len 1) (match st with
      | _ :: .inr (.inr (.inl (some k))) :: _ => (match ia_get2 σ k with
        | some c => (match Nat.beq c.1 54 with
          | true => ia_al 54 ih pc lv st σ n nc ns
          | false => ia_al 55 ih pc lv st σ n nc ns)
        | none => none)
      | _ => none)) = some out := h
    have hq := (ia_if_eq h).1
    replace h := (ia_if_eq h).2
    have hlen := ia_beq hq
    subst hlen
    split at h
    · split at h
      · split at h
        · exact ia_s_ald X hdg (Or.inr (Or.inr (Or.inr (Or.inl ⟨rfl, rfl⟩)))) ihk h
        · exact ia_s_ald X hdg (Or.inr (Or.inr (Or.inr (Or.inr ⟨rfl, rfl⟩)))) ihk h
      · cases h
    · cases h
  case iastore =>
    replace h : (ia_if (Nat.beq len 1) (ia_as 50 ia_gi ih pc lv st σ n nc ns)) = some out := h
    have hq := (ia_if_eq h).1
    replace h := (ia_if_eq h).2
    have hlen := ia_beq hq
    subst hlen
    exact ia_s_ast X hdg (Or.inl ⟨rfl, rfl, rfl⟩) ihk h
  case lastore =>
    replace h : (ia_if (Nat.beq len 1) (ia_as 51 ia_gl ih pc lv st σ n nc ns)) = some out := h
    have hq := (ia_if_eq h).1
    replace h := (ia_if_eq h).2
    have hlen := ia_beq hq
    subst hlen
    exact ia_s_ast X hdg (Or.inr (Or.inl ⟨rfl, rfl, rfl⟩)) ihk h
  case bastore =>
    replace h : (ia_if (Nat.beq len 1) (match st with
      | _ :: _ :: .inr (.inr (.inl (some k))) :: _ => (match ia_get2 σ k with
        | some c => (match Nat.beq c.1 52 with
          | true => ia_as 52 (ia_gn .byte) ih pc lv st σ n nc ns
          | false => ia_as 53 (ia_gn .boolean) ih pc lv st σ n nc ns)
        | none => none)
      | _ => none)) = some out := h
    have hq := (ia_if_eq h).1
    replace h := (ia_if_eq h).2
    have hlen := ia_beq hq
    subst hlen
    split at h
    · split at h
      · split at h
        · exact ia_s_ast X hdg (Or.inr (Or.inr (Or.inl ⟨rfl, rfl, rfl⟩))) ihk h
        · exact ia_s_ast X hdg (Or.inr (Or.inr (Or.inr (Or.inl ⟨rfl, rfl, rfl⟩)))) ihk h
      · cases h
    · cases h
  case aastore =>
    replace h : (ia_if (Nat.beq len 1) (match st with
      | _ :: _ :: .inr (.inr (.inl (some k))) :: _ => (match ia_get2 σ k with
        | some c => (match Nat.beq c.1 54 with
          | true => ia_as 54 (ia_gr σ 3) ih pc lv st σ n nc ns
          | false => ia_as 55 (ia_gr σ 7) ih pc lv st σ n nc ns)
        | none => none)
      | _ => none)) = some out := h
    have hq := (ia_if_eq h).1
    replace h := (ia_if_eq h).2
    have hlen := ia_beq hq
    subst hlen
    split at h
    · split at h
      · split at h
        · exact ia_s_ast X hdg (Or.inr (Or.inr (Or.inr (Or.inr (Or.inl ⟨rfl, rfl, rfl⟩))))) ihk h
        · exact ia_s_ast X hdg (Or.inr (Or.inr (Or.inr (Or.inr (Or.inr ⟨rfl, rfl, rfl⟩))))) ihk h
      · cases h
    · cases h
  case arraylength =>
    replace h : (ia_if (Nat.beq len 1) (ia_len ih pc lv st σ n nc ns)) = some out := h
    have hq := (ia_if_eq h).1
    replace h := (ia_if_eq h).2
    have hlen := ia_beq hq
    subst hlen
    exact ia_s_len X N hdg ihk h
  case new k =>
    replace h : (ia_if (Nat.beq len 3) (ia_frc k (fun k => ia_no y k ih pc lv st σ n nc ns))) = some out := h
    have hq := (ia_if_eq h).1
    replace h := (ia_if_eq h).2
    have hlen := ia_beq hq
    subst hlen
    rw [ia_frc_eq] at h
    exact ia_s_no X hA hdg ihk h
  case newarray t =>
    replace h : (ia_if (Nat.beq len 2) (ia_new y t ih pc lv st σ n nc ns)) = some out := h
    have hq := (ia_if_eq h).1
    replace h := (ia_if_eq h).2
    have hlen := ia_beq hq
    subst hlen
    cases t
    · exact ia_s_newp X hA hdg (Or.inr (Or.inr ⟨rfl, rfl⟩)) ihk h
    · cases (show (none : Option ia_O) = some out from h)
    · cases (show (none : Option ia_O) = some out from h)
    · cases (show (none : Option ia_O) = some out from h)
    · exact ia_s_newp X hA hdg (Or.inr (Or.inl ⟨rfl, rfl⟩)) ihk h
    · cases (show (none : Option ia_O) = some out from h)
    · exact ia_s_newp X hA hdg (Or.inl ⟨rfl, rfl⟩) ihk h
    · exact ia_s_newl X hA hdg ihk h
  case anewarray k =>
    replace h : (ia_if (Nat.beq len 3) (ia_frc k (fun k => ia_nr1 y k ih pc lv st σ n nc ns))) = some out := h
    have hq := (ia_if_eq h).1
    replace h := (ia_if_eq h).2
    have hlen := ia_beq hq
    subst hlen
    rw [ia_frc_eq] at h
    exact ia_s_newr X N hA hdg ihk h
  case ldc k =>
    replace h : (ia_if (Nat.beq len 2) (ia_frc k (fun k => ia_cst y k 2 ih pc lv st σ n nc ns))) = some out := h
    have hq := (ia_if_eq h).1
    replace h := (ia_if_eq h).2
    have hlen := ia_beq hq
    subst hlen
    rw [ia_frc_eq] at h
    exact ia_s_cst X N hdg (Or.inl ⟨rfl, rfl⟩) ihk h
  case ldc_w k =>
    replace h : (ia_if (Nat.beq len 3) (ia_frc k (fun k => ia_cst y k 3 ih pc lv st σ n nc ns))) = some out := h
    have hq := (ia_if_eq h).1
    replace h := (ia_if_eq h).2
    have hlen := ia_beq hq
    subst hlen
    rw [ia_frc_eq] at h
    exact ia_s_cst X N hdg (Or.inr ⟨rfl, rfl⟩) ihk h
  case ldc2_w k =>
    replace h : (ia_if (Nat.beq len 3) (ia_frc k (fun k => ia_csl y k ih pc lv st σ n nc ns))) = some out := h
    have hq := (ia_if_eq h).1
    replace h := (ia_if_eq h).2
    have hlen := ia_beq hq
    subst hlen
    rw [ia_frc_eq] at h
    exact ia_s_csl X hdg ihk h
  case invokevirtual k =>
    replace h : (ia_if (Nat.beq len 3) (ia_frc k (fun k => ia_inv (ia_call d) y 0 k ih pc lv st σ n nc ns))) = some out := h
    have hq := (ia_if_eq h).1
    replace h := (ia_if_eq h).2
    have hlen := ia_beq hq
    subst hlen
    rw [ia_frc_eq] at h
    exact ia_s_inv hM X N hA hnL hdg (Or.inl ⟨rfl, rfl⟩) ihk h
  case invokestatic k =>
    replace h : (ia_if (Nat.beq len 3) (ia_frc k (fun k => ia_inv (ia_call d) y 1 k ih pc lv st σ n nc ns))) = some out := h
    have hq := (ia_if_eq h).1
    replace h := (ia_if_eq h).2
    have hlen := ia_beq hq
    subst hlen
    rw [ia_frc_eq] at h
    exact ia_s_inv hM X N hA hnL hdg (Or.inr (Or.inl ⟨rfl, rfl⟩)) ihk h
  case invokespecial k =>
    replace h : (ia_if (Nat.beq len 3) (ia_frc k (fun k => ia_inv (ia_call d) y 2 k ih pc lv st σ n nc ns))) = some out := h
    have hq := (ia_if_eq h).1
    replace h := (ia_if_eq h).2
    have hlen := ia_beq hq
    subst hlen
    rw [ia_frc_eq] at h
    exact ia_s_inv hM X N hA hnL hdg (Or.inr (Or.inr ⟨rfl, rfl⟩)) ihk h
  case ireturn =>
    replace h : (ia_if (Nat.beq len 1) (ia_rt y st σ n)) = some out := h
    have hq := (ia_if_eq h).1
    replace h := (ia_if_eq h).2
    have hlen := ia_beq hq
    subst hlen
    exact hend1 hdg h
  case return_ =>
    replace h : (ia_if (Nat.beq len 1) (ia_rv y st σ n)) = some out := h
    have hq := (ia_if_eq h).1
    replace h := (ia_if_eq h).2
    have hlen := ia_beq hq
    subst hlen
    exact hend0 hdg h
end IAD
end
section
section IAZ
variable {p : Program} {l : Launch} {e : Env} {R : Room} {s : State} {m : MethodId} {args : Array Value} {below : List Frame} {meth : Method} {c : Code}
variable {D : va_G} {sa : Nat × Nat} {y pc : Nat} {lv : List (Option ia_V)} {st : List ia_V} {σ : ia_H} {n nc ns : Nat} {out : ia_O} {d : Nat} {ws0 : va_W}
theorem ia_fin {H : Heap} {locs : List Loc} {ws : va_W} {tys : List (ClassId × FieldType)} {ov : Option Value} {r : Option ia_V} (hr : ia_rr sa (ws.map Prod.fst) r ov) (hK : va_K D vwCl tys s) (hP : va_P D vwCl ws H) (hD : va_D (va_A ws0 s.heap.size) ws) (hS : va_S (va_A ws0 s.heap.size) s.heap H locs) (hn : ws.length = n) (hR : ia_R sa tys σ ws) (hxx : ∃ x, ws.map Prod.fst = ws0.map Prod.fst ++ x) : ∀ t : State, t.heap = H → s.WarmedH t.vm → ia_Q D sa ws0 s.heap.size (r, σ, n) args s (.returned ov) t := fun t ht hW =>
  ⟨⟨ov, ws, tys, rfl, hr, hn, hxx, hR, by rw [ht]; exact hP, va_K.moved hW.alike hK, hD⟩, hS.F ht⟩
theorem ia_nar_ok {ty : FieldType} {x : Int32} {u : Nat} (hE : ia_E x = u) (h : ia_nar ty u = true) : narrow ty (.int x) = .int x := by
  unfold ia_nar at h
  split at h
  · rfl
  · rw [Bool.or_eq_true] at h
    rcases h with h | h
    · have : x = 0 := ia_E_inj (by rw [hE, ia_beq h]; decide)
      subst this; decide
    · have : x = 1 := ia_E_inj (by rw [hE, ia_beq h]; decide)
      subst this; decide
  · rw [Bool.and_eq_true] at h
    have h1 := ia_ble h.1
    have h2 := ia_blt h.2
    have : x = nI (u - 2147483648) := ia_E_inj (by rw [hE, show nI (u - 2147483648) = Int32.ofNat (u - 2147483648) from rfl, ia_Elen (by omega)]; omega)
    rw [this]
    exact (pk_charN (by omega)).1
  · have : x = 0 := ia_E_inj (by rw [hE, ia_beq h]; decide)
    subst this; decide
  · cases h
/-- a method's body, any number of steps -/
theorem ia_body (hM : ia_Mets d) (X : ia_X p R s m args meth c y d) (N : ia_N sa (va_A ws0 s.heap.size) s s.heap) : ∀ (fuel pc : Nat) (lv : List (Option ia_V)) (st : List ia_V) (σ : ia_H) (n nc ns : Nat), ia_x (ia_call d) y fuel pc lv st σ n nc ns = some out → ia_WW p l e R s m args below meth c (MQ below (ia_Q D sa ws0 s.heap.size out) args s (ia_mc y) (ia_ms y) (va_A ws0 s.heap.size)) D sa (va_A ws0 s.heap.size) (ws0.map Prod.fst) (ia_maxL y) y pc lv st σ n nc ns := by
  obtain ⟨hx, hb, hml, hown, hts, hlocks, hret, -⟩ := id X
  intro fuel
  induction fuel with
  | zero => intro pc lv st σ n nc ns h; cases h
  | succ fuel ih =>
    intro pc lv st σ n nc ns h
    have h' : ia_step (ia_call d) y (ia_x (ia_call d) y fuel) pc lv st σ n nc ns = some out := h
    clear h
    unfold ia_step at h'
    split at h'
    · rename_i q hq
      refine ia_s_do hM X N (fun q h => Or.inr h) rfl (ins := q.1) (len := q.2) hq ?_ ?_ (fun pc lv st σ n nc ns h => ih pc lv st σ n nc ns h) h'
      · intro hdg h
        unfold ia_rt at h
        split at h
        · rename_i a
          split at h
          · rename_i ty hty
            obtain ⟨hz, h⟩ := ia_if_eq h
            rw [Bool.and_eq_true] at hz
            cases h
            intro H locs ws tys ls l' vst hl hL hSt hK hP hD hS hn hR hxx h1 h2
            obtain ⟨_, vt, rfl, ⟨x, rfl, x1, x2⟩, g3⟩ := hSt
            cases g3
            have hE : ia_E x = a.1 := ia_one (ia_beq hz.1) x1 x2
            have hnr := ia_nar_ok hE hz.2
            refine W.widen h1 h2 ?_
            exact W.zret (ty := ty) hx hb (hret.trans hty) hnr (ia_fin (r := some (.inl a)) ⟨x, rfl, x1, x2⟩ hK hP hD hS hn hR hxx) hS.2.2 hdg hlocks
          · cases h
        · cases h
      · intro hdg h
        unfold ia_rv at h
        split at h
        · split at h
          · rename_i hty
            cases h
            intro H locs ws tys ls l' vst hl hL hSt hK hP hD hS hn hR hxx h1 h2
            cases hSt
            refine W.widen h1 h2 ?_
            exact W.vret hx hb (hret.trans hty) (ia_fin (r := none) trivial hK hP hD hS hn hR hxx) hS.2.2 hdg hlocks
          · cases h
        · cases h
    · cases h'
theorem ia_ent_ok {ad : List Nat} : ∀ {as : List ia_V} {vs : List Value} (o : Nat), ia_S sa ad as vs → ∀ (i : Nat) (a : ia_V), (ia_ent as)[i]? = some (some a) → ∃ v, (o + i, v) ∈ lv_args o vs ∧ ia_v sa ad a v
  | [], _, o, h, i, a, hi => by cases hi
  | b :: as, _, o, ⟨v, t, h1, h2, h3⟩, i, a, hi => by
    subst h1
    rcases b with q | z | z
    · have hi' : ((some (.inl q) : Option ia_V) :: ia_ent as)[i]? = some (some a) := hi
      have hc : ¬ v.category = 2 := by rw [ia_vcat h2]; intro q; cases q
      cases i with
      | zero => cases hi'; exact ⟨v, List.mem_cons_self, h2⟩
      | succ i =>
        rw [List.getElem?_cons_succ] at hi'
        obtain ⟨w, g1, g2⟩ := ia_ent_ok (o + 1) h3 i a hi'
        refine ⟨w, List.mem_cons_of_mem _ ?_, g2⟩
        rw [if_neg hc, show o + (i + 1) = o + 1 + i from by omega]
        exact g1
    · have hi' : ((some (.inr (.inl z)) : Option ia_V) :: none :: ia_ent as)[i]? = some (some a) := hi
      have hc : v.category = 2 := by rw [ia_vcat h2]; rfl
      cases i with
      | zero => cases hi'; exact ⟨v, List.mem_cons_self, h2⟩
      | succ i =>
        rw [List.getElem?_cons_succ] at hi'
        cases i with
        | zero => cases hi'
        | succ i =>
          rw [List.getElem?_cons_succ] at hi'
          obtain ⟨w, g1, g2⟩ := ia_ent_ok (o + 2) h3 i a hi'
          refine ⟨w, List.mem_cons_of_mem _ ?_, g2⟩
          rw [if_pos hc, show o + (i + 1 + 1) = o + 2 + i from by omega]
          exact g1
    · have hi' : ((some (.inr (.inr z)) : Option ia_V) :: ia_ent as)[i]? = some (some a) := hi
      have hc : ¬ v.category = 2 := by rw [ia_vcat h2]; intro q; cases q
      cases i with
      | zero => cases hi'; exact ⟨v, List.mem_cons_self, h2⟩
      | succ i =>
        rw [List.getElem?_cons_succ] at hi'
        obtain ⟨w, g1, g2⟩ := ia_ent_ok (o + 1) h3 i a hi'
        refine ⟨w, List.mem_cons_of_mem _ ?_, g2⟩
        rw [if_neg hc, show o + (i + 1) = o + 1 + i from by omega]
        exact g1
theorem ia_pad_ok : ∀ (l : List (Option ia_V)) (k i : Nat) {a : ia_V}, (ia_pad k l)[i]? = some (some a) → l[i]? = some (some a)
  | [], k, i, a, h => by
    have h' : (List.replicate k (none : Option ia_V))[i]? = some (some a) := h
    rw [List.getElem?_replicate] at h'
    split at h'
    · cases h'
    · cases h'
  | b :: l, k, 0, a, h => h
  | b :: l, k, i + 1, a, h => by
    have h' : (b :: ia_pad (Nat.pred k) l)[i + 1]? = some (some a) := h
    rw [List.getElem?_cons_succ] at h' ⊢
    exact ia_pad_ok l _ i h'
theorem ia_sl {ad : List Nat} : ∀ {as : List ia_V} {vs : List Value}, ia_S sa ad as vs → (lg_sl vs).length = ia_sz as
  | [], _, h => by cases h; rfl
  | a :: as, _, ⟨v, t, h1, h2, h3⟩ => by
    subst h1
    have e1 : lg_sl (v :: t) = (if v.category = 2 then [.val v, .second] else [.val v]) ++ lg_sl t := by simp [lg_sl]
    rw [e1, List.length_append, ia_sl h3]
    show _ = ia_cat a + ia_sz as
    rw [← ia_vcat h2]
    rcases lv_cat v with q | q
    · rw [if_neg (by omega), q]; rfl
    · rw [if_pos q, q]; rfl
/-- every run that ends is a contract -/
theorem ia_met : ∀ d : Nat, ia_Mets d
  | 0 => fun y as σ n out h => by cases h
  | d + 1 => by
    intro y as σ n out h hok l D sa vs ws tys sz hvs hn hR
    have hM := ia_met d
    have h' : ia_if (Nat.ble (ia_sz as) (ia_maxL y)) (ia_x (ia_call d) y 100000 0 (ia_pad (ia_maxL y) (ia_ent as)) [] σ n 0 0) = some out := h
    obtain ⟨hsz, h'⟩ := ia_if_eq h'
    have hsz := ia_ble hsz
    obtain ⟨e1, e2, e3, e4, e5, e6, e7, e8⟩ := ia_okM_eq hok
    refine Met.ofW (cc := ia_code y) (maxL := ia_maxL y) (ret := ia_ret y) (ws' := ia_TB) e4 (by rw [ia_ws, e1]) ?_
    intro p e s m args below meth c s₁ B hml hv
    obtain ⟨rfl, hszz, hP, hK, hD0, hN⟩ := hv
    subst hszz
    have hown : s.vm.findClass (ia_nm y).cls = some m.cls := findClass_of_methodNamed B.named
    have X : ia_X p (headSpec (ia_ws y) (ia_rm (d + 1) y)).room s m vs.toArray meth c y d := ⟨B.exec, B.bytes, hml, by rw [← e3]; exact hown, atoms_spec (ws := ia_ws y) B.pre, B.notSynchronized, B.returns, rfl, rfl, rfl, rfl, fun hi => ((name_of_methodNamed B.named B.method).1).trans hi, hok⟩
    have hl := lv_entry vs (n := ia_maxL y) (by rw [ia_sl hvs]; exact hsz)
    rw [lg_entry_eq]
    refine ia_body (l := l) (e := e) (below := below) hM X hN 100000 0 _ [] σ n 0 0 h' s.heap [] ws tys _ _ [] hl (fun i a hi => ?_) rfl hK hP hD0.self va_S.rf hn hR ⟨[], by rw [List.append_nil]⟩ (Nat.zero_le _) (Nat.zero_le _)
    obtain ⟨v, g1, g2⟩ := ia_ent_ok 0 hvs i a (ia_pad_ok _ _ i hi)
    rw [Nat.zero_add] at g1
    exact ⟨v, g1, g2⟩
end IAZ
end
section
def R_law : String := "HungerDaysLaw"
def lw_P (b : Addr) (xs : List Int32) (args : Array Value) (s : State) : Prop := args = #[.ref b] ∧ s.IntsAt b xs ∧ xs.length ≤ 6 ∧ (Jvm.Cond.and given_1 narrow_1).before args s = true
def lw_Q (_ : Array Value) (s : State) (o : Outcome) (t : State) : Prop := o = .returned (some (.int 1)) ∧ Framed s o t [] 600002 7302232
def lw_Z (below : List Frame) (a : Array Value) (s : State) : State → Prop := fun t => ∃ o, t.status = .running ∧ Ended t below o ∧ lw_Q a s o t
/-- the law's own end, with 1 on the stack, nothing written that was there before, its room as the claim has it -/
theorem lw_ret {p : Program} {l : Launch} {e : Env} {s : State} {m : MethodId} {below : List Frame} {meth : Method} {c : Code} {b : Nat} (hx : p.tables.exec = Jvm.exec) (hb : c.code = code) (hr : meth.sig.returnType = ret) (hlocks : meth.locks = false) {pc : Nat} {H : Heap} {ls : Array Slot} (hdg : decode code pc = .ok (.ireturn, 1)) : W p l e room_1 s m #[Value.ref b] below meth c H [] 600002 7302232 (lw_Z below #[Value.ref b] s) (F0 m pc ls [.int 1]) := by
  intro T hT X
  obtain ⟨fs, hret, hrun, hended, hW, hframe⟩ := X.leave (v := some (.int 1)) (hlocks := hlocks) (fun h => by rw [hr] at h; cases h)
  have hmeth' : T.vm.method? m = some meth := X.method'
  refine ⟨T.setFrames fs, ?_, .returned (some (.int 1)), hrun, hended, rfl, ⟨_, rfl⟩, hW, hframe⟩
  jvm_step X.here [X.here.top, hx, hb, hdg, hmeth', hr, ret, narrow_b1]
  (try refine ⟨rfl, ?_⟩); (try refine ⟨rfl, ?_⟩)
  first | (intro acts; rw [hret _ acts rfl rfl rfl]) | rw [hret _ _ rfl rfl rfl]
  exact Steps.refl _
/-- what holds at the law's entry: the machine, the code, the tables' words (any of lw_tbl by 'hts w (by decide +kernel)'), the script of L ints xs at the cell b, what the Statement gives of the start (any of its parts by flat_of_before) -/
def lw_At (p : Program) (s : State) (m : MethodId) (meth : Method) (c : Code) (b L : Nat) (xs : Nat → Int32) : Prop :=
  p.tables.exec = Jvm.exec ∧ c.code = code ∧ meth.sig.returnType = ret ∧ c.maxLocals = 7 ∧ s.vm.findClass R_law = some m.cls ∧ (∀ w ∈ lw_tbl, w.before #[Value.ref b] s = true) ∧ va_X b L xs s s.heap ∧ b < s.heap.size ∧ meth.locks = false ∧ (Jvm.Cond.and given_1 narrow_1).before #[Value.ref b] s = true
end
section
/-! ## the law's walk: its lines, by lemmas -/
section LX
variable {p : Program} {l : Launch} {e : Env} {s : State} {m : MethodId} {below : List Frame} {meth : Method} {c : Code} {b L : Nat} {xs : Nat → Int32} {D : va_G} {sa : Nat × Nat} {as0 : List Nat} {lx : List (Nat × Value)} {pc : Nat} {vst : List Value} {σ : ia_H} {n nc ns : Nat}
def lx_G (s : State) (D : va_G) (sa : Nat × Nat) (as0 : List Nat) (H : Heap) (locs : List Loc) (ws : va_W) (tys : List (ClassId × FieldType)) (σ : ia_H) (n : Nat) : Prop := va_K D vwCl tys s ∧ va_P D vwCl ws H ∧ va_D (fun q : Nat => s.heap.size ≤ q) ws ∧ va_S (fun q : Nat => s.heap.size ≤ q) s.heap H locs ∧ ws.length = n ∧ ia_R sa tys σ ws ∧ ∃ x, ws.map Prod.fst = as0 ++ x
def lx_W (p : Program) (l : Launch) (e : Env) (s : State) (m : MethodId) (below : List Frame) (meth : Method) (c : Code) (b : Nat) (D : va_G) (sa : Nat × Nat) (as0 : List Nat) (lx : List (Nat × Value)) (pc : Nat) (vst : List Value) (σ : ia_H) (n nc ns : Nat) : Prop := ∀ (H : Heap) (locs : List Loc) (ws : va_W) (tys : List (ClassId × FieldType)) (ls : Array Slot), lv_has ls 7 lx → lx_G s D sa as0 H locs ws tys σ n → W p l e room_1 s m #[Value.ref b] below meth c H locs nc ns (lw_Z below #[Value.ref b] s) (F0 m pc ls vst)
def lx_a (pc j : Nat) : Prop := decode code pc = .ok (.aload_n 0, 1) ∧ decode code (pc + 1) = .ok (.iload 4, 2) ∧ decode code (pc + 3) = .ok (.iconst (j : Int), 1) ∧ decode code (pc + 4) = .ok (.iadd, 1) ∧ decode code (pc + 5) = .ok (.iaload, 1)
theorem lx_ix : ∀ j : Nat, j < 6 → ((0 : Int32) + Int32.ofInt (j : Int)).toNatClampNeg = j ∧ ¬ ((0 : Int32) + Int32.ofInt (j : Int)) < 0 := by decide
/-- script[i + j] -/
theorem lx_arg (C0 : lw_At p s m meth c b L xs) (hL : L = 6) (hl0 : (0, Value.ref b) ∈ lx) (hl4 : (4, Value.int 0) ∈ lx) {j : Nat} (hj : j < 6) (ha : lx_a pc j) (k : lx_W p l e s m below meth c b D sa as0 lx (pc + 6) (.int (xs j) :: vst) σ n nc ns) : lx_W p l e s m below meth c b D sa as0 lx pc vst σ n nc ns := by
  obtain ⟨hx, hb, hr, hml, hown, hts, hX, hbl, hlocks, hgv⟩ := id C0
  intro H locs ws tys ls hl hG
  obtain ⟨hK, hP, hD, hS, -⟩ := id hG
  have hbA : ¬ (fun q : Nat => s.heap.size ≤ q) b := Nat.not_le.mpr hbl
  obtain ⟨i1, i2⟩ := lx_ix j hj
  refine lv_aload_n hx hb ha.1 rfl (hl.2.2 _ hl0) ?_
  refine lv_iload hx hb ha.2.1 (hl.2.2 _ hl4) ?_
  refine lv_iconst hx hb ha.2.2.1 rfl ?_
  refine lv_iadd hx hb ha.2.2.2.1 ?_
  refine va_sld hx hb hX hbl hbA hS (i := (0 : Int32) + Int32.ofInt (j : Int)) ?_ ha.2.2.2.2 ?_
  · rintro (q | q)
    · exact i2 q
    · rw [i1] at q; omega
  · rw [i1]
    exact k H locs ws tys ls hl hG
theorem lx_args (C0 : lw_At p s m meth c b L xs) (hL : L = 6) (hl0 : (0, Value.ref b) ∈ lx) (hl4 : (4, Value.int 0) ∈ lx) : ∀ (k o : Nat) (vst : List Value) (pc : Nat), o + k ≤ 5 → (∀ j, j < k → lx_a (pc + 6 * j) (o + j + 1)) → lx_W p l e s m below meth c b D sa as0 lx (pc + 6 * k) (((List.range k).map (fun j => Value.int (xs (o + j + 1)))).reverse ++ vst) σ n nc ns → lx_W p l e s m below meth c b D sa as0 lx pc vst σ n nc ns
  | 0, o, vst, pc, _, _, h => h
  | k + 1, o, vst, pc, hk, ha, h => by
    refine lx_arg C0 hL hl0 hl4 (j := o + 1) (by omega) (ha 0 (by omega)) ?_
    refine lx_args C0 hL hl0 hl4 k (o + 1) (.int (xs (o + 1)) :: vst) (pc + 6) (by omega) (fun j hj => ?_) ?_
    · have := ha (j + 1) (by omega)
      rw [show pc + 6 + 6 * j = pc + 6 * (j + 1) from by omega, show o + 1 + j + 1 = o + (j + 1) + 1 from by omega]
      exact this
    · rw [show pc + 6 + 6 * k = pc + 6 * (k + 1) from by omega]
      have e1 : ((List.range k).map (fun j => Value.int (xs (o + 1 + j + 1)))).reverse ++ (.int (xs (o + 1)) :: vst) = ((List.range (k + 1)).map (fun j => Value.int (xs (o + j + 1)))).reverse ++ vst := by
        rw [List.range_succ_eq_map, List.map_cons, List.reverse_cons, List.append_assoc, List.map_map]
        congr 3
        funext j
        show Value.int (xs (o + 1 + j + 1)) = Value.int (xs (o + (j + 1) + 1))
        rw [show o + 1 + j + 1 = o + (j + 1) + 1 from by omega]
      rw [e1]
      exact h
/-- a call of a method of the class, or of the reference -/
theorem lx_call (C0 : lw_At p s m meth c b L xs) (N : ia_N sa (fun q : Nat => s.heap.size ≤ q) s s.heap) {y2 i pp kx bx : Nat} {as : List ia_V} {vs rest : List Value} {r σ' n'} (hok : ia_okI 18 (i, 1, y2, 0, 0, pp) = true) (hd : decode code pc = .ok (.invokevirtual i, 3)) (hrest : (rest.map fun v => v.category).sum ≤ 8)
    (hcall : ia_call 7 y2 (.inr (.inr (.inl (some kx))) :: as) σ n = some (some (.inl r), σ', n')) (hbx : as0[kx]? = some bx) (hcl : ∃ c0, ia_get2 σ kx = some c0 ∧ c0.1 = ia_cls y2 ∧ c0.1 < 13) (hvs : ∀ ad, ia_S sa ad as vs) (hlen : as.length + 1 = ia_na y2) (hc : nc + ia_mc y2 ≤ 600002 ∧ ns + ia_ms y2 ≤ 7302232)
    (k : ∀ v : Int32, r.1 ≤ ia_E v → ia_E v ≤ r.2 → lx_W p l e s m below meth c b D sa as0 lx (pc + 3) (.int v :: rest) σ' n' (nc + ia_mc y2) (ns + ia_ms y2)) : lx_W p l e s m below meth c b D sa as0 lx pc (vs.reverse ++ .ref bx :: rest) σ n nc ns := by
  obtain ⟨hx, hb, hr, hml, hown, hts, hX, hbl, hlocks, hgv⟩ := id C0
  intro H locs ws tys ls hl hG
  obtain ⟨hK, hP, hD, hS, hn, hR, x0, hx0⟩ := id hG
  have hA : ∀ q : Nat, s.heap.size ≤ q → (fun q : Nat => s.heap.size ≤ q) q := fun _ h => h
  have htb : ∀ w ∈ ia_TB, w.before #[Value.ref b] s = true := fun w hw => hts w (List.mem_filter.mp hw).1
  obtain ⟨k1, k2, k3, k4, k5, k6⟩ := ia_ok1v hok
  obtain ⟨kk, hk1, hk2⟩ := ia_pred k6
  obtain ⟨e1, e2, e3, e4, e5, e6, e7, e8⟩ := ia_okM_eq k1
  have hb0 : (ws.map Prod.fst)[kx]? = some bx := by rw [hx0]; exact ia_app_mono _ _ hbx
  have hS' : ia_S sa (ws.map Prod.fst) (.inr (.inr (.inl (some kx))) :: as) (.ref bx :: vs) := ⟨_, _, rfl, ⟨bx, hb0, rfl⟩, hvs _⟩
  have hmet := ia_met 7 y2 _ σ n _ hcall k1 l D sa (.ref bx :: vs) ws tys H.size hS' hn hR
  have hAl : vs.length = kk := by have := ia_S_len (hvs []); omega
  have hcb : CallB room_1 s #[Value.ref b] (ia_own 18) i (ia_nm y2) (ia_code y2) (ia_maxL y2) (ia_ret y2) (ia_ws y2) (ia_rm 7 y2) (ia_mc y2) (ia_ms y2) kk := callB_of (Ts := lw_tbl) (ws' := ia_TB) kk hts (ia_good0 e2) (by rw [ia_ws, e1]) rfl rfl (htb _ e5) (htb _ k2) ⟨e6, e7, hk2⟩ ⟨by show 7 + 1 ≤ 2048; decide, by show 8 + (ia_maxL y2 + 11) + 100 * 7 ≤ 84000; omega⟩
  obtain ⟨c0, hc0, hc3, hc4⟩ := hcl
  have hcell : ∃ cellB : Cell, H[bx]? = some cellB ∧ cellB.vm.isStatics = false ∧ s.vm.findClass (ia_nm y2).cls = some cellB.cls := by
    obtain ⟨e1, hw, hcc⟩ := hR.at hc0 (by omega) hb0
    obtain ⟨vs0, rfl, -⟩ := hcc.1 (by omega)
    have hvc : ∃ q, vwCl[c0.1]? = some q := ⟨_, List.getElem?_eq_getElem (show c0.1 < vwCl.length from hc4)⟩
    obtain ⟨q, hq⟩ := hvc
    have hz := va_recv hK hP hq hw
    rw [(ia_okC_at hq).2.2.2, hc3, ← e3] at hz
    exact hz
  refine ia_after (va_runV (As := vs) (rest := rest) (Ts := lw_tbl) (cc := code) (nL := 7) (own := ia_own 18) ⟨hx, hb, hml, hown, hts⟩ hmet ⟨hcb, htb _ k3, htb _ k4⟩ ⟨ia_blind, hcell, ia_pre N hK hP hD hS hA⟩ rfl hAl hl.1 rfl (lv_room hrest) hd ⟨hc.1, hc.2⟩) hS (ia_free hD hS hA) (fun ov ws' tys' H1 locs1 q1 q2 q3 q4 q5 q6 q7 q8 => ?_)
  obtain ⟨x1, hx1⟩ := q3
  cases ov with
  | none => cases q1
  | some v =>
    obtain ⟨z, rfl, z1, z2⟩ := q1
    exact k z z1 z2 H1 locs1 ws' tys' ls hl ⟨q6, q5, q7, q8, q2, q4, x0 ++ x1, by rw [hx1, hx0, List.append_assoc]⟩
end LX
end
section
/-! ## the world behind the constructors -/
noncomputable def ia_i0 : ia_H := ia_set2 ia_w0 0 (11, (ia_Fs.getD 11 (0, [])))
noncomputable def ia_r1 : ia_O := (ia_call 7 0 [.inr (.inr (.inl (some 0)))] ia_i0 1).getD (none, [], 0)
noncomputable def ia_i2 : ia_H := ia_set2 ia_r1.2.1 184 (12, (ia_Fs.getD 12 (0, [])))
noncomputable def ia_r3 : ia_O := (ia_call 7 89 [.inr (.inr (.inl (some 184)))] ia_i2 185).getD (none, [], 0)
/-- the world as the law's loop finds it: 0 the class's object, 184 the reference's, 204 the row of one long -/
noncomputable def ia_s4 : ia_H := ia_set2 ia_r3.2.1 204 (51, 1, ia_rows 1 (.inr (.inl 0)))
end
section
-- by program (wip/p1/genworld.py): the world behind the constructors
noncomputable def ia_S4_0 : List ia_C := [(11, 17, [[.inr (.inr (.inl (some 1))), ia_z, .inr (.inr (.inl (some 2))), ia_z, .inr (.inr (.inl (some 4))), .inr (.inr (.inl (some 18))), .inr (.inr (.inl (some 32))), .inr (.inr (.inl (some 33))), .inr (.inr (.inl (some 40))), .inr (.inr (.inl (some 47))), .inr (.inr (.inl (some 105))), .inr (.inr (.inl (some 106))), .inr (.inr (.inl (some 111))), .inr (.inr (.inl (some 116))), .inr (.inr (.inl (some 120))), .inr (.inr (.inl (some 121)))], [.inr (.inr (.inl (some 128)))]]), (50, 940, ia_rows 940 ia_z), (5, 13, [[.inr (.inr (.inl (some 1))), .inr (.inr (.inl (some 3))), ia_z, ia_z, ia_z, ia_z, ia_z, .inr (.inl 0), ia_z, ia_z, ia_z, ia_z, ia_z]]), (51, 22, [[.inr (.inl 639022), .inr (.inl 781668530), .inr (.inl 542723566), .inr (.inl 212452), .inr (.inl 14132323783), .inr (.inl 136276), .inr (.inl 165523), .inr (.inl 42387), .inr (.inl 13809811), .inr (.inl 431284), .inr (.inl 278194), .inr (.inl 498), .inr (.inl 1476), .inr (.inl 14836), .inr (.inl 9612), .inr (.inl 515251)], [.inr (.inl 402789), .inr (.inl 302), .inr (.inl 132741), .inr (.inl 290921650), .inr (.inl 113966), .inr (.inl 492210354), .inr (.inl 0), .inr (.inl 0), .inr (.inl 0), .inr (.inl 0), .inr (.inl 0), .inr (.inl 0), .inr (.inl 0), .inr (.inl 0), .inr (.inl 0), .inr (.inl 0)]]), (9, 20, [[.inl (2147483658, 2147483658), ia_z, ia_z, ia_z, ia_z, ia_z, ia_z, .inr (.inr (.inl (some 5))), .inr (.inr (.inl (some 6))), .inr (.inr (.inl (some 7))), .inr (.inr (.inl (some 8))), .inr (.inr (.inl (some 9))), .inr (.inr (.inl (some 10))), .inr (.inr (.inl (some 11))), .inr (.inr (.inl (some 12))), .inr (.inr (.inl (some 13)))], [.inr (.inr (.inl (some 14))), .inr (.inr (.inl (some 15))), .inr (.inr (.inl (some 16))), .inr (.inr (.inl (some 17)))]]), (51, 6, ia_rows 6 (.inr (.inl 0))), (51, 4, ia_rows 4 (.inr (.inl 0))), (51, 6, ia_rows 6 (.inr (.inl 0))), (50, 6, ia_rows 6 ia_z), (50, 6, ia_rows 6 ia_z), (50, 6, ia_rows 6 ia_z), (50, 4, ia_rows 4 ia_z), (50, 4, ia_rows 4 ia_z), (50, 6, ia_rows 6 ia_z), (50, 10, ia_rows 10 ia_z), (50, 10, ia_rows 10 ia_z)]
noncomputable def ia_S4_1 : List ia_C := [(50, 10, ia_rows 10 ia_z), (50, 10, ia_rows 10 ia_z), (9, 20, [[.inl (2147483658, 2147483658), ia_z, ia_z, ia_z, ia_z, ia_z, ia_z, .inr (.inr (.inl (some 19))), .inr (.inr (.inl (some 20))), .inr (.inr (.inl (some 21))), .inr (.inr (.inl (some 22))), .inr (.inr (.inl (some 23))), .inr (.inr (.inl (some 24))), .inr (.inr (.inl (some 25))), .inr (.inr (.inl (some 26))), .inr (.inr (.inl (some 27)))], [.inr (.inr (.inl (some 28))), .inr (.inr (.inl (some 29))), .inr (.inr (.inl (some 30))), .inr (.inr (.inl (some 31)))]]), (51, 6, ia_rows 6 (.inr (.inl 0))), (51, 4, ia_rows 4 (.inr (.inl 0))), (51, 6, ia_rows 6 (.inr (.inl 0))), (50, 6, ia_rows 6 ia_z), (50, 6, ia_rows 6 ia_z), (50, 6, ia_rows 6 ia_z), (50, 4, ia_rows 4 ia_z), (50, 4, ia_rows 4 ia_z), (50, 6, ia_rows 6 ia_z), (50, 10, ia_rows 10 ia_z), (50, 10, ia_rows 10 ia_z), (50, 10, ia_rows 10 ia_z), (50, 10, ia_rows 10 ia_z)]
noncomputable def ia_S4_2 : List ia_C := [(10, 4, [[.inr (.inr (.inl (some 2))), .inr (.inr (.inl (some 18))), ia_z, ia_z]]), (7, 10, [[.inr (.inr (.inl (some 4))), ia_z, ia_z, ia_z, .inr (.inr (.inl (some 34))), .inr (.inr (.inl (some 35))), .inr (.inr (.inl (some 36))), .inr (.inr (.inl (some 37))), .inr (.inr (.inl (some 38))), .inr (.inr (.inl (some 39)))]]), (50, 6, ia_rows 6 ia_z), (50, 6, ia_rows 6 ia_z), (50, 6, ia_rows 6 ia_z), (50, 4, ia_rows 4 ia_z), (50, 6, ia_rows 6 ia_z), (50, 10, ia_rows 10 ia_z), (7, 10, [[.inr (.inr (.inl (some 4))), ia_z, ia_z, ia_z, .inr (.inr (.inl (some 41))), .inr (.inr (.inl (some 42))), .inr (.inr (.inl (some 43))), .inr (.inr (.inl (some 44))), .inr (.inr (.inl (some 45))), .inr (.inr (.inl (some 46)))]]), (50, 6, ia_rows 6 ia_z), (50, 6, ia_rows 6 ia_z), (50, 6, ia_rows 6 ia_z), (50, 4, ia_rows 4 ia_z), (50, 6, ia_rows 6 ia_z), (50, 10, ia_rows 10 ia_z), (2, 3, [[.inr (.inr (.inl (some 48))), ia_z, ia_z]])]
noncomputable def ia_S4_3 : List ia_C := [(55, 8, [[.inr (.inr (.inl (some 49))), .inr (.inr (.inl (some 56))), .inr (.inr (.inl (some 63))), .inr (.inr (.inl (some 70))), .inr (.inr (.inl (some 77))), .inr (.inr (.inl (some 84))), .inr (.inr (.inl (some 91))), .inr (.inr (.inl (some 98))), ia_nu, ia_nu, ia_nu, ia_nu, ia_nu, ia_nu, ia_nu, ia_nu]]), (7, 10, [[.inr (.inr (.inl (some 4))), ia_z, ia_z, ia_z, .inr (.inr (.inl (some 50))), .inr (.inr (.inl (some 51))), .inr (.inr (.inl (some 52))), .inr (.inr (.inl (some 53))), .inr (.inr (.inl (some 54))), .inr (.inr (.inl (some 55)))]]), (50, 6, ia_rows 6 ia_z), (50, 6, ia_rows 6 ia_z), (50, 6, ia_rows 6 ia_z), (50, 4, ia_rows 4 ia_z), (50, 6, ia_rows 6 ia_z), (50, 10, ia_rows 10 ia_z), (7, 10, [[.inr (.inr (.inl (some 4))), ia_z, ia_z, ia_z, .inr (.inr (.inl (some 57))), .inr (.inr (.inl (some 58))), .inr (.inr (.inl (some 59))), .inr (.inr (.inl (some 60))), .inr (.inr (.inl (some 61))), .inr (.inr (.inl (some 62)))]]), (50, 6, ia_rows 6 ia_z), (50, 6, ia_rows 6 ia_z), (50, 6, ia_rows 6 ia_z), (50, 4, ia_rows 4 ia_z), (50, 6, ia_rows 6 ia_z), (50, 10, ia_rows 10 ia_z), (7, 10, [[.inr (.inr (.inl (some 4))), ia_z, ia_z, ia_z, .inr (.inr (.inl (some 64))), .inr (.inr (.inl (some 65))), .inr (.inr (.inl (some 66))), .inr (.inr (.inl (some 67))), .inr (.inr (.inl (some 68))), .inr (.inr (.inl (some 69)))]])]
noncomputable def ia_S4_4 : List ia_C := [(50, 6, ia_rows 6 ia_z), (50, 6, ia_rows 6 ia_z), (50, 6, ia_rows 6 ia_z), (50, 4, ia_rows 4 ia_z), (50, 6, ia_rows 6 ia_z), (50, 10, ia_rows 10 ia_z), (7, 10, [[.inr (.inr (.inl (some 4))), ia_z, ia_z, ia_z, .inr (.inr (.inl (some 71))), .inr (.inr (.inl (some 72))), .inr (.inr (.inl (some 73))), .inr (.inr (.inl (some 74))), .inr (.inr (.inl (some 75))), .inr (.inr (.inl (some 76)))]]), (50, 6, ia_rows 6 ia_z), (50, 6, ia_rows 6 ia_z), (50, 6, ia_rows 6 ia_z), (50, 4, ia_rows 4 ia_z), (50, 6, ia_rows 6 ia_z), (50, 10, ia_rows 10 ia_z), (7, 10, [[.inr (.inr (.inl (some 4))), ia_z, ia_z, ia_z, .inr (.inr (.inl (some 78))), .inr (.inr (.inl (some 79))), .inr (.inr (.inl (some 80))), .inr (.inr (.inl (some 81))), .inr (.inr (.inl (some 82))), .inr (.inr (.inl (some 83)))]]), (50, 6, ia_rows 6 ia_z), (50, 6, ia_rows 6 ia_z)]
noncomputable def ia_S4_5 : List ia_C := [(50, 6, ia_rows 6 ia_z), (50, 4, ia_rows 4 ia_z), (50, 6, ia_rows 6 ia_z), (50, 10, ia_rows 10 ia_z), (7, 10, [[.inr (.inr (.inl (some 4))), ia_z, ia_z, ia_z, .inr (.inr (.inl (some 85))), .inr (.inr (.inl (some 86))), .inr (.inr (.inl (some 87))), .inr (.inr (.inl (some 88))), .inr (.inr (.inl (some 89))), .inr (.inr (.inl (some 90)))]]), (50, 6, ia_rows 6 ia_z), (50, 6, ia_rows 6 ia_z), (50, 6, ia_rows 6 ia_z), (50, 4, ia_rows 4 ia_z), (50, 6, ia_rows 6 ia_z), (50, 10, ia_rows 10 ia_z), (7, 10, [[.inr (.inr (.inl (some 4))), ia_z, ia_z, ia_z, .inr (.inr (.inl (some 92))), .inr (.inr (.inl (some 93))), .inr (.inr (.inl (some 94))), .inr (.inr (.inl (some 95))), .inr (.inr (.inl (some 96))), .inr (.inr (.inl (some 97)))]]), (50, 6, ia_rows 6 ia_z), (50, 6, ia_rows 6 ia_z), (50, 6, ia_rows 6 ia_z), (50, 4, ia_rows 4 ia_z)]
noncomputable def ia_S4_6 : List ia_C := [(50, 6, ia_rows 6 ia_z), (50, 10, ia_rows 10 ia_z), (7, 10, [[.inr (.inr (.inl (some 4))), ia_z, ia_z, ia_z, .inr (.inr (.inl (some 99))), .inr (.inr (.inl (some 100))), .inr (.inr (.inl (some 101))), .inr (.inr (.inl (some 102))), .inr (.inr (.inl (some 103))), .inr (.inr (.inl (some 104)))]]), (50, 6, ia_rows 6 ia_z), (50, 6, ia_rows 6 ia_z), (50, 6, ia_rows 6 ia_z), (50, 4, ia_rows 4 ia_z), (50, 6, ia_rows 6 ia_z), (50, 10, ia_rows 10 ia_z), (54, 2, [[.inr (.inr (.inl (some 130))), .inr (.inr (.inl (some 157))), ia_nu, ia_nu, ia_nu, ia_nu, ia_nu, ia_nu, ia_nu, ia_nu, ia_nu, ia_nu, ia_nu, ia_nu, ia_nu, ia_nu]]), (6, 7, [[ia_z, ia_z, .inr (.inr (.inl (some 107))), .inr (.inr (.inl (some 108))), .inr (.inr (.inl (some 109))), .inr (.inr (.inl (some 110))), ia_z]]), (50, 40, ia_rows 40 ia_z), (50, 40, ia_rows 40 ia_z), (50, 40, ia_rows 40 ia_z), (50, 40, ia_rows 40 ia_z), (6, 7, [[ia_z, ia_z, .inr (.inr (.inl (some 112))), .inr (.inr (.inl (some 113))), .inr (.inr (.inl (some 114))), .inr (.inr (.inl (some 115))), ia_z]])]
noncomputable def ia_S4_7 : List ia_C := [(50, 40, ia_rows 40 ia_z), (50, 40, ia_rows 40 ia_z), (50, 40, ia_rows 40 ia_z), (50, 40, ia_rows 40 ia_z), (0, 10, [[.inr (.inr (.inl (some 2))), .inr (.inr (.inl (some 4))), ia_z, .inr (.inr (.inl (some 117))), .inr (.inr (.inl (some 118))), .inr (.inr (.inl (some 119))), .inl (2147483647, 2147483647), .inl (2147483647, 2147483647), .inl (2147483647, 2147483647), .inl (2147483647, 2147483647)]]), (50, 40, ia_rows 40 ia_z), (50, 40, ia_rows 40 ia_z), (50, 40, ia_rows 40 ia_z), (1, 1, [[ia_z]]), (8, 11, [[ia_z, .inl (2147483647, 2147483647), .inr (.inr (.inl (some 122))), ia_z, .inr (.inr (.inl (some 123))), .inr (.inr (.inl (some 124))), .inr (.inr (.inl (some 125))), .inr (.inr (.inl (some 126))), ia_z, .inr (.inr (.inl (some 127))), ia_z]]), (50, 6, ia_rows 6 ia_z), (50, 6, ia_rows 6 ia_z), (50, 210, ia_rows 210 ia_z), (50, 4, ia_rows 4 ia_z), (50, 7, ia_rows 7 ia_z), (50, 7776, ia_rows 7776 ia_z)]
noncomputable def ia_S4_8 : List ia_C := [(4, 3, [[.inl (2147483647, 2147483647), .inl (2147483647, 2147483647), .inr (.inr (.inl (some 129)))]]), (50, 4, ia_rows 4 ia_z), (3, 4, [[ia_z, .inr (.inr (.inl (some 131))), .inr (.inr (.inl (some 145))), .inr (.inr (.inl (some 152)))]]), (9, 20, [[.inl (2147483658, 2147483658), ia_z, ia_z, ia_z, ia_z, ia_z, ia_z, .inr (.inr (.inl (some 132))), .inr (.inr (.inl (some 133))), .inr (.inr (.inl (some 134))), .inr (.inr (.inl (some 135))), .inr (.inr (.inl (some 136))), .inr (.inr (.inl (some 137))), .inr (.inr (.inl (some 138))), .inr (.inr (.inl (some 139))), .inr (.inr (.inl (some 140)))], [.inr (.inr (.inl (some 141))), .inr (.inr (.inl (some 142))), .inr (.inr (.inl (some 143))), .inr (.inr (.inl (some 144)))]]), (51, 6, ia_rows 6 (.inr (.inl 0))), (51, 4, ia_rows 4 (.inr (.inl 0))), (51, 6, ia_rows 6 (.inr (.inl 0))), (50, 6, ia_rows 6 ia_z), (50, 6, ia_rows 6 ia_z), (50, 6, ia_rows 6 ia_z), (50, 4, ia_rows 4 ia_z), (50, 4, ia_rows 4 ia_z), (50, 6, ia_rows 6 ia_z), (50, 10, ia_rows 10 ia_z), (50, 10, ia_rows 10 ia_z), (50, 10, ia_rows 10 ia_z)]
noncomputable def ia_S4_9 : List ia_C := [(50, 10, ia_rows 10 ia_z), (7, 10, [[.inr (.inr (.inl (some 131))), ia_z, ia_z, ia_z, .inr (.inr (.inl (some 146))), .inr (.inr (.inl (some 147))), .inr (.inr (.inl (some 148))), .inr (.inr (.inl (some 149))), .inr (.inr (.inl (some 150))), .inr (.inr (.inl (some 151)))]]), (50, 6, ia_rows 6 ia_z), (50, 6, ia_rows 6 ia_z), (50, 6, ia_rows 6 ia_z), (50, 4, ia_rows 4 ia_z), (50, 6, ia_rows 6 ia_z), (50, 10, ia_rows 10 ia_z), (6, 7, [[ia_z, ia_z, .inr (.inr (.inl (some 153))), .inr (.inr (.inl (some 154))), .inr (.inr (.inl (some 155))), .inr (.inr (.inl (some 156))), ia_z]]), (50, 40, ia_rows 40 ia_z), (50, 40, ia_rows 40 ia_z), (50, 40, ia_rows 40 ia_z), (50, 40, ia_rows 40 ia_z), (3, 4, [[ia_z, .inr (.inr (.inl (some 158))), .inr (.inr (.inl (some 172))), .inr (.inr (.inl (some 179)))]]), (9, 20, [[.inl (2147483658, 2147483658), ia_z, ia_z, ia_z, ia_z, ia_z, ia_z, .inr (.inr (.inl (some 159))), .inr (.inr (.inl (some 160))), .inr (.inr (.inl (some 161))), .inr (.inr (.inl (some 162))), .inr (.inr (.inl (some 163))), .inr (.inr (.inl (some 164))), .inr (.inr (.inl (some 165))), .inr (.inr (.inl (some 166))), .inr (.inr (.inl (some 167)))], [.inr (.inr (.inl (some 168))), .inr (.inr (.inl (some 169))), .inr (.inr (.inl (some 170))), .inr (.inr (.inl (some 171)))]]), (51, 6, ia_rows 6 (.inr (.inl 0)))]
noncomputable def ia_S4_10 : List ia_C := [(51, 4, ia_rows 4 (.inr (.inl 0))), (51, 6, ia_rows 6 (.inr (.inl 0))), (50, 6, ia_rows 6 ia_z), (50, 6, ia_rows 6 ia_z), (50, 6, ia_rows 6 ia_z), (50, 4, ia_rows 4 ia_z), (50, 4, ia_rows 4 ia_z), (50, 6, ia_rows 6 ia_z), (50, 10, ia_rows 10 ia_z), (50, 10, ia_rows 10 ia_z), (50, 10, ia_rows 10 ia_z), (50, 10, ia_rows 10 ia_z), (7, 10, [[.inr (.inr (.inl (some 158))), ia_z, ia_z, ia_z, .inr (.inr (.inl (some 173))), .inr (.inr (.inl (some 174))), .inr (.inr (.inl (some 175))), .inr (.inr (.inl (some 176))), .inr (.inr (.inl (some 177))), .inr (.inr (.inl (some 178)))]]), (50, 6, ia_rows 6 ia_z), (50, 6, ia_rows 6 ia_z), (50, 6, ia_rows 6 ia_z)]
noncomputable def ia_S4_11 : List ia_C := [(50, 4, ia_rows 4 ia_z), (50, 6, ia_rows 6 ia_z), (50, 10, ia_rows 10 ia_z), (6, 7, [[ia_z, ia_z, .inr (.inr (.inl (some 180))), .inr (.inr (.inl (some 181))), .inr (.inr (.inl (some 182))), .inr (.inr (.inl (some 183))), ia_z]]), (50, 40, ia_rows 40 ia_z), (50, 40, ia_rows 40 ia_z), (50, 40, ia_rows 40 ia_z), (50, 40, ia_rows 40 ia_z), (12, 48, [[ia_z, .inr (.inr (.inl (some 185))), ia_z, ia_z, ia_z, ia_z, .inr (.inr (.inl (some 186))), .inr (.inr (.inl (some 187))), .inr (.inr (.inl (some 188))), .inr (.inr (.inl (some 189))), .inr (.inr (.inl (some 190))), ia_z, ia_z, ia_z, ia_z, ia_z], [ia_z, .inr (.inl 0), ia_z, ia_z, ia_z, .inr (.inr (.inl (some 191))), .inr (.inr (.inl (some 192))), ia_z, .inr (.inr (.inl (some 193))), .inr (.inr (.inl (some 194))), .inl (2147483647, 2147483647), .inl (2147483647, 2147483647), ia_z, ia_z, ia_z, .inr (.inr (.inl (some 195)))], [.inr (.inr (.inl (some 196))), .inr (.inr (.inl (some 197))), ia_z, ia_z, .inr (.inr (.inl (some 198))), ia_z, .inr (.inr (.inl (some 199))), ia_z, ia_z, ia_z, ia_z, ia_z, .inr (.inr (.inl (some 200))), .inr (.inr (.inl (some 201))), .inr (.inr (.inl (some 202))), .inr (.inr (.inl (some 203)))]]), (52, 940, ia_rows 940 ia_z), (50, 301, [[ia_z, ia_z, ia_z, ia_z, .inl (2147483658, 2147483658), ia_z, ia_z, ia_z, ia_z, ia_z, ia_z, ia_z, ia_z, ia_z, ia_z, ia_z], [ia_z, ia_z, ia_z, ia_z, ia_z, ia_z, ia_z, ia_z, ia_z, ia_z, ia_z, ia_z, ia_z, ia_z, ia_z, ia_z], [ia_z, ia_z, ia_z, ia_z, ia_z, ia_z, ia_z, ia_z, ia_z, ia_z, ia_z, ia_z, ia_z, ia_z, ia_z, ia_z], [ia_z, ia_z, ia_z, ia_z, ia_z, ia_z, ia_z, ia_z, ia_z, ia_z, ia_z, ia_z, ia_z, ia_z, ia_z, ia_z], [ia_z, ia_z, ia_z, ia_z, ia_z, ia_z, ia_z, ia_z, ia_z, ia_z, ia_z, ia_z, ia_z, ia_z, ia_z, ia_z], [ia_z, ia_z, ia_z, ia_z, ia_z, ia_z, ia_z, ia_z, ia_z, ia_z, ia_z, ia_z, ia_z, ia_z, ia_z, ia_z], [ia_z, ia_z, ia_z, ia_z, ia_z, ia_z, ia_z, ia_z, ia_z, ia_z, ia_z, ia_z, ia_z, ia_z, ia_z, ia_z], [ia_z, ia_z, ia_z, ia_z, ia_z, ia_z, ia_z, ia_z, ia_z, ia_z, ia_z, ia_z, ia_z, ia_z, ia_z, ia_z], [ia_z, ia_z, ia_z, ia_z, ia_z, ia_z, ia_z, ia_z, ia_z, ia_z, ia_z, ia_z, ia_z, ia_z, ia_z, ia_z], [ia_z, ia_z, ia_z, ia_z, ia_z, ia_z, ia_z, ia_z, ia_z, ia_z, ia_z, ia_z, ia_z, ia_z, ia_z, ia_z], [ia_z, ia_z, ia_z, ia_z, ia_z, ia_z, ia_z, ia_z, ia_z, ia_z, ia_z, ia_z, ia_z, ia_z, ia_z, ia_z], [ia_z, ia_z, ia_z, ia_z, ia_z, ia_z, ia_z, ia_z, ia_z, ia_z, ia_z, ia_z, ia_z, ia_z, ia_z, ia_z], [ia_z, ia_z, ia_z, ia_z, ia_z, ia_z, ia_z, ia_z, ia_z, ia_z, ia_z, ia_z, ia_z, ia_z, ia_z, ia_z], [ia_z, ia_z, ia_z, ia_z, ia_z, ia_z, ia_z, ia_z, ia_z, ia_z, ia_z, ia_z, ia_z, ia_z, ia_z, ia_z], [ia_z, ia_z, ia_z, ia_z, ia_z, ia_z, ia_z, ia_z, ia_z, ia_z, ia_z, ia_z, ia_z, ia_z, ia_z, ia_z], [ia_z, ia_z, ia_z, ia_z, ia_z, ia_z, ia_z, ia_z, ia_z, ia_z, ia_z, ia_z, ia_z, ia_z, ia_z, ia_z], [ia_z, ia_z, ia_z, ia_z, ia_z, ia_z, ia_z, ia_z, ia_z, ia_z, ia_z, ia_z, ia_z, ia_z, ia_z, ia_z], [ia_z, ia_z, ia_z, ia_z, ia_z, ia_z, ia_z, ia_z, ia_z, ia_z, ia_z, ia_z, ia_z, ia_z, ia_z, ia_z], [ia_z, ia_z, ia_z, ia_z, ia_z, ia_z, ia_z, ia_z, ia_z, ia_z, ia_z, ia_z, ia_z, ia_z, ia_z, ia_z]]), (50, 79, ia_rows 79 ia_z), (50, 135, ia_rows 135 ia_z), (51, 32, ia_rows 32 (.inr (.inl 0))), (51, 22, [[.inr (.inl 1936744814), .inr (.inl 131294708393330), .inr (.inl 123581014175598), .inr (.inl 1718579044), .inr (.inl 30792258880630375), .inr (.inl 1684365940), .inr (.inl 1700885619), .inr (.inl 1634298995), .inr (.inl 469853168755), .inr (.inl 1835361652), .inr (.inl 1752135026), .inr (.inl 28530), .inr (.inl 6385252), .inr (.inl 7237492), .inr (.inl 6909036), .inr (.inl 1870095731)], [.inr (.inl 1818848101), .inr (.inl 26990), .inr (.inl 1684108389), .inr (.inl 114853572732274), .inr (.inl 1668245870), .inr (.inl 121450625394034), .inr (.inl 0), .inr (.inl 0), .inr (.inl 0), .inr (.inl 0), .inr (.inl 0), .inr (.inl 0), .inr (.inl 0), .inr (.inl 0), .inr (.inl 0), .inr (.inl 0)]]), (50, 328, ia_rows 328 ia_z)]
noncomputable def ia_S4_12 : List ia_C := [(50, 41, ia_rows 41 ia_z), (50, 9072, ia_rows 9072 ia_z), (50, 6, ia_rows 6 ia_z), (50, 4, ia_rows 4 ia_z), (50, 6, ia_rows 6 ia_z), (50, 6, ia_rows 6 ia_z), (50, 4, ia_rows 4 ia_z), (50, 45, ia_rows 45 ia_z), (53, 45, ia_rows 45 ia_z), (50, 602, ia_rows 602 ia_z), (51, 32, ia_rows 32 (.inr (.inl 0))), (53, 2, ia_rows 2 ia_z), (51, 1, ia_rows 1 (.inr (.inl 0))), (99, 0, []), (99, 0, []), (99, 0, [])]
noncomputable def ia_S4_13 : List ia_C := [(99, 0, []), (99, 0, []), (99, 0, []), (99, 0, []), (99, 0, []), (99, 0, []), (99, 0, []), (99, 0, []), (99, 0, []), (99, 0, []), (99, 0, []), (99, 0, []), (99, 0, []), (99, 0, []), (99, 0, []), (99, 0, [])]
noncomputable def ia_S4_14 : List ia_C := [(99, 0, []), (99, 0, []), (99, 0, []), (99, 0, []), (99, 0, []), (99, 0, []), (99, 0, []), (99, 0, []), (99, 0, []), (99, 0, []), (99, 0, []), (99, 0, []), (99, 0, []), (99, 0, []), (99, 0, []), (99, 0, [])]
noncomputable def ia_S4_15 : List ia_C := [(99, 0, []), (99, 0, []), (99, 0, []), (99, 0, []), (99, 0, []), (99, 0, []), (99, 0, []), (99, 0, []), (99, 0, []), (99, 0, []), (99, 0, []), (99, 0, []), (99, 0, []), (99, 0, []), (99, 0, []), (99, 0, [])]
noncomputable def ia_S4 : ia_H := [ia_S4_0, ia_S4_1, ia_S4_2, ia_S4_3, ia_S4_4, ia_S4_5, ia_S4_6, ia_S4_7, ia_S4_8, ia_S4_9, ia_S4_10, ia_S4_11, ia_S4_12, ia_S4_13, ia_S4_14, ia_S4_15]
noncomputable def ia_eqV (a b : ia_V) : Bool := match a, b with
  | .inl p, .inl q => Nat.beq p.1 q.1 && Nat.beq p.2 q.2
  | .inr (.inl p), .inr (.inl q) => Nat.beq p q
  | .inr (.inr (.inl none)), .inr (.inr (.inl none)) => true
  | .inr (.inr (.inl (some p))), .inr (.inr (.inl (some q))) => Nat.beq p q
  | .inr (.inr (.inr p)), .inr (.inr (.inr q)) => Nat.beq p q
  | _, _ => false
theorem ia_eqV_ok {a b : ia_V} (h : ia_eqV a b = true) : a = b := by
  unfold ia_eqV at h
  split at h
  · rename_i p q
    rw [Bool.and_eq_true] at h
    obtain ⟨p1, p2⟩ := p
    obtain ⟨q1, q2⟩ := q
    have h1 : p1 = q1 := ia_beq h.1
    have h2 : p2 = q2 := ia_beq h.2
    rw [h1, h2]
  · rw [ia_beq h]
  · rfl
  · rw [ia_beq h]
  · rw [ia_beq h]
  · cases h
noncomputable def ia_eqL {α : Type} (f : α → α → Bool) : List α → List α → Bool
  | [], [] => true
  | a :: l, b :: r => f a b && ia_eqL f l r
  | _, _ => false
theorem ia_eqL_ok {α : Type} {f : α → α → Bool} (hf : ∀ a b, f a b = true → a = b) : ∀ (l r : List α), ia_eqL f l r = true → l = r
  | [], [], _ => rfl
  | a :: l, b :: r, h => by
    have h' : (f a b && ia_eqL f l r) = true := h
    rw [Bool.and_eq_true] at h'
    rw [hf a b h'.1, ia_eqL_ok hf l r h'.2]
  | [], _ :: _, h => by cases h
  | _ :: _, [], h => by cases h
noncomputable def ia_eqC (c d : ia_C) : Bool := Nat.beq c.1 d.1 && (Nat.beq c.2.1 d.2.1 && ia_eqL (ia_eqL ia_eqV) c.2.2 d.2.2)
theorem ia_eqC_ok (c d : ia_C) (h : ia_eqC c d = true) : c = d := by
  unfold ia_eqC at h
  simp only [Bool.and_eq_true] at h
  obtain ⟨c1, c2, c3⟩ := c
  obtain ⟨d1, d2, d3⟩ := d
  have e1 : c1 = d1 := ia_beq h.1
  have e2 : c2 = d2 := ia_beq h.2.1
  have e3 : c3 = d3 := ia_eqL_ok (fun a b => ia_eqL_ok (fun _ _ => ia_eqV_ok) a b) _ _ h.2.2
  rw [e1, e2, e3]
set_option maxRecDepth 100000 in
theorem ia_S4_chk : ia_eqL (ia_eqL ia_eqC) ia_s4 ia_S4 = true := by decide +kernel
theorem ia_S4_eq : ia_s4 = ia_S4 := ia_eqL_ok (fun a b => ia_eqL_ok ia_eqC_ok a b) _ _ ia_S4_chk
noncomputable def ia_end (x : Option ia_O) (k : Nat) : Bool := match x with
  | some (none, _, n) => Nat.beq n k
  | _ => false
theorem ia_end_ok {x : Option ia_O} {k : Nat} (h : ia_end x k = true) : x = some (none, (x.getD (none, [], 0)).2.1, k) := by
  unfold ia_end at h
  split at h
  · rw [ia_beq h]; rfl
  · cases h
set_option maxRecDepth 100000 in
theorem ia_r1_chk : ia_end (ia_call 7 0 [.inr (.inr (.inl (some 0)))] ia_i0 1) 184 = true := by decide +kernel
theorem ia_r1_ok : ia_call 7 0 [.inr (.inr (.inl (some 0)))] ia_i0 1 = some (none, ia_r1.2.1, 184) := by
  unfold ia_r1
  exact ia_end_ok ia_r1_chk
set_option maxRecDepth 100000 in
theorem ia_r3_chk : ia_end (ia_call 7 89 [.inr (.inr (.inl (some 184)))] ia_i2 185) 204 = true := by decide +kernel
theorem ia_r3_ok : ia_call 7 89 [.inr (.inr (.inl (some 184)))] ia_i2 185 = some (none, ia_r3.2.1, 204) := by
  unfold ia_r3
  exact ia_end_ok ia_r3_chk
end
section
/-! ## a line of the law: the class's answer and the reference's, and they agree -/
noncomputable def ia_rx : ia_V := .inr (.inr (.inl (some 0)))
noncomputable def ia_ry : ia_V := .inr (.inr (.inl (some 184)))
noncomputable def ia_chk (yx ym : Nat) (as : List ia_V) : Bool := match ia_call 7 yx (ia_rx :: as) ia_S4 205 with
  | some (some (.inl a), σ, n) => (match ia_call 7 ym (ia_ry :: as) σ n with
    | some (some (.inl b), _, _) => Nat.beq a.1 a.2 && (Nat.beq b.1 b.2 && (Nat.beq a.1 b.1 && (match ia_get2 σ 184 with
      | some c => Nat.beq c.1 12
      | none => false)))
    | _ => false)
  | _ => false
noncomputable def ia_all (yx ym : Nat) : List (List (Nat × Nat)) → List ia_V → Bool
  | [], acc => ia_chk yx ym acc.reverse
  | qs :: t, acc => qs.all (fun q => ia_all yx ym t (.inl q :: acc))
/-- bounds side by side from o on, up to the last number -/
noncomputable def ia_cov : List (Nat × Nat) → Nat → Bool
  | [], o => Nat.ble 4294967296 o
  | q :: t, o => Nat.beq q.1 o && (Nat.ble o q.2 && ia_cov t (q.2 + 1))
theorem ia_cov_ok : ∀ (qs : List (Nat × Nat)) (o u : Nat), ia_cov qs o = true → o ≤ u → u < 4294967296 → ∃ q ∈ qs, q.1 ≤ u ∧ u ≤ q.2
  | [], o, u, h, h1, h2 => by
    have := ia_ble (show Nat.ble 4294967296 o = true from h)
    omega
  | q :: t, o, u, h, h1, h2 => by
    have h' : (Nat.beq q.1 o && (Nat.ble o q.2 && ia_cov t (q.2 + 1))) = true := h
    simp only [Bool.and_eq_true] at h'
    have e1 := ia_beq h'.1
    have e2 := ia_ble h'.2.1
    rcases Nat.lt_or_ge q.2 u with z | z
    · obtain ⟨r, hr, g⟩ := ia_cov_ok t (q.2 + 1) u h'.2.2 (by omega) h2
      exact ⟨r, List.mem_cons_of_mem _ hr, g⟩
    · exact ⟨q, List.mem_cons_self, by omega, z⟩
theorem ia_pick {yx ym : Nat} {sa : Nat × Nat} {xs : Nat → Int32} : ∀ (cs : List (List (Nat × Nat))) (o : Nat) (acc : List ia_V) (vacc : List Value), cs.all (fun qs => ia_cov qs 0) = true → ia_all yx ym cs acc = true → (∀ ad, ia_S sa ad acc.reverse vacc) → ∃ as, (∀ ad, ia_S sa ad as (vacc ++ (List.range cs.length).map (fun j => Value.int (xs (o + j + 1))))) ∧ ia_chk yx ym as = true
  | [], o, acc, vacc, _, h2, h3 => ⟨acc.reverse, fun ad => by rw [show ([] : List (List (Nat × Nat))).length = 0 from rfl, List.range_zero, List.map_nil, List.append_nil]; exact h3 ad, h2⟩
  | qs :: t, o, acc, vacc, h1, h2, h3 => by
    rw [List.all_cons, Bool.and_eq_true] at h1
    obtain ⟨q, hq, g1, g2⟩ := ia_cov_ok qs 0 (ia_E (xs (o + 1))) h1.1 (Nat.zero_le _) (ia_E_lt _)
    have h2' : qs.all (fun q => ia_all yx ym t (.inl q :: acc)) = true := h2
    have h4 := List.all_eq_true.mp h2' q hq
    obtain ⟨as, k1, k2⟩ := ia_pick t (o + 1) (.inl q :: acc) (vacc ++ [.int (xs (o + 1))]) h1.2 h4 (fun ad => by
      rw [List.reverse_cons]
      exact ia_S_mk (h3 ad) ⟨_, [], rfl, ⟨_, rfl, g1, g2⟩, rfl⟩)
    refine ⟨as, fun ad => ?_, k2⟩
    have := k1 ad
    rw [List.length_cons, List.range_succ_eq_map, List.map_cons, List.map_map]
    rw [List.append_assoc] at this
    have e1 : (List.range t.length).map ((fun j => Value.int (xs (o + j + 1))) ∘ Nat.succ) = (List.range t.length).map (fun j => Value.int (xs (o + 1 + j + 1))) := by
      congr 1
      funext j
      show Value.int (xs (o + (j + 1) + 1)) = Value.int (xs (o + 1 + j + 1))
      rw [show o + (j + 1) + 1 = o + 1 + j + 1 from by omega]
    rw [e1]
    exact this
section LX2
variable {p : Program} {l : Launch} {e : Env} {s : State} {m : MethodId} {below : List Frame} {meth : Method} {c : Code} {b L : Nat} {xs : Nat → Int32} {D : va_G} {sa : Nat × Nat} {as0 : List Nat} {pc : Nat} {σ : ia_H} {n nc ns ax am ao : Nat}
abbrev lx_lv (b ax am ao : Nat) : List (Nat × Value) := [(4, .int 0), (3, .ref ao), (2, .ref am), (1, .ref ax), (0, .ref b)]
theorem d_law_1321 : decode code 1321 = .ok (.iinc 4 6, 3) := by decide +kernel
theorem d_law_1324 : decode code 1324 = .ok (.goto (-1301), 3) := by decide +kernel
theorem d_law_23 : decode code 23 = .ok (.iload 4, 2) := by decide +kernel
theorem d_law_25 : decode code 25 = .ok (.aload_n 0, 1) := by decide +kernel
theorem d_law_26 : decode code 26 = .ok (.arraylength, 1) := by decide +kernel
theorem d_law_27 : decode code 27 = .ok (.bipush 6, 2) := by decide +kernel
theorem d_law_29 : decode code 29 = .ok (.isub, 1) := by decide +kernel
theorem d_law_30 : decode code 30 = .ok (.if_icmp .gt 1297, 3) := by decide +kernel
theorem d_law_1327 : decode code 1327 = .ok (.iconst 1, 1) := by decide +kernel
theorem d_law_1328 : decode code 1328 = .ok (.ireturn, 1) := by decide +kernel
/-- the end: true -/
theorem lx_ret (C0 : lw_At p s m meth c b L xs) {H : Heap} {locs : List Loc} {ls : Array Slot} (hS : va_S (fun q : Nat => s.heap.size ≤ q) s.heap H locs) (hc : nc ≤ 600002) (hs : ns ≤ 7302232) : W p l e room_1 s m #[Value.ref b] below meth c H locs nc ns (lw_Z below #[Value.ref b] s) (F0 m 1327 ls []) := by
  obtain ⟨hx, hb, hr, hml, hown, hts, hX, hbl, hlocks, hgv⟩ := id C0
  refine lv_iconst (v := 1) hx hb d_law_1327 (by decide) ?_
  refine va_forget (fun q hq => hS.2.2 q hq) ?_
  refine W.widen (k := 600002) (n := 7302232) hc hs ?_
  exact lw_ret hx hb hr hlocks d_law_1328
/-- behind a line -/
theorem lx_end (C0 : lw_At p s m meth c b L xs) (hL : L = 6) (hc : nc ≤ 600002) (hs : ns ≤ 7302232) : lx_W p l e s m below meth c b D sa as0 (lx_lv b ax am ao) 1321 [] σ n nc ns := by
  obtain ⟨hx, hb, hr, hml, hown, hts, hX, hbl, hlocks, hgv⟩ := id C0
  intro H locs ws tys ls hl hG
  obtain ⟨hK, hP, hD, hS, -⟩ := id hG
  have hbA : ¬ (fun q : Nat => s.heap.size ≤ q) b := Nat.not_le.mpr hbl
  refine lv_iinc (v := 6) (lv' := [(4, .int 6), (3, .ref ao), (2, .ref am), (1, .ref ax), (0, .ref b)]) hx hb d_law_1321 hl (k := 0) rfl (by decide) (by decide) rfl (fun ls hl => ?_)
  refine lv_goto (tgt := 23) hx hb d_law_1324 (by decide) ?_
  refine lv_iload hx hb d_law_23 (lv_at hl 0 rfl) ?_
  refine lv_aload_n hx hb d_law_25 rfl (lv_at hl 4 rfl) ?_
  refine va_slen hx hb hX hbl hbA hS d_law_26 ?_
  refine lv_bipush (v := 6) hx hb d_law_27 (by decide) ?_
  refine lv_isub hx hb d_law_29 ?_
  refine lv_icmp_gt (tgt := 1327) hx hb d_law_30 (by decide) (fun _ => lx_ret C0 hS hc hs) (fun q => ?_)
  rw [hL] at q
  exact absurd (by decide) q
/-- the printed line: k arguments -/
def lx_code (pc k ix iy px py yx yy : Nat) (o : Int) : Prop := decode code pc = .ok (.aload_n 1, 1) ∧ (∀ j, j < k → lx_a (pc + 1 + 6 * j) (0 + j + 1)) ∧ decode code (pc + 1 + 6 * k) = .ok (.invokevirtual ix, 3) ∧ decode code (pc + 1 + 6 * k + 3) = .ok (.aload_n 2, 1) ∧ (∀ j, j < k → lx_a (pc + 1 + 6 * k + 3 + 1 + 6 * j) (0 + j + 1)) ∧ decode code (pc + 1 + 6 * k + 3 + 1 + 6 * k) = .ok (.invokevirtual iy, 3) ∧ decode code (pc + 1 + 6 * k + 3 + 1 + 6 * k + 3) = .ok (.if_icmp .eq o, 3) ∧ ((pc + 1 + 6 * k + 3 + 1 + 6 * k + 3 : Nat) : Int) + o = ((1321 : Nat) : Int) ∧ ia_okI 18 (ix, 1, yx, 0, 0, px) = true ∧ ia_okI 18 (iy, 1, yy, 0, 0, py) = true ∧ k ≤ 5 ∧ k + 1 = ia_na yx ∧ k + 1 = ia_na yy ∧ ia_cls yx = 11 ∧ ia_cls yy = 12 ∧ ia_mc yx = 0 ∧ ia_ms yx = 0 ∧ ia_mc yy = 0 ∧ ia_ms yy = 0
noncomputable def lx_dc (pc : Nat) (i : Instr) (k : Nat) : Bool := decide (decode code pc = .ok (i, k))
noncomputable def lx_ab (pc j : Nat) : Bool := lx_dc pc (.aload_n 0) 1 && (lx_dc (pc + 1) (.iload 4) 2 && (lx_dc (pc + 3) (.iconst (j : Int)) 1 && (lx_dc (pc + 4) .iadd 1 && lx_dc (pc + 5) .iaload 1)))
noncomputable def lx_cb (pc k ix iy px py yx yy : Nat) (o : Int) : Bool := lx_dc pc (.aload_n 1) 1 && ((List.range k).all (fun j => lx_ab (pc + 1 + 6 * j) (0 + j + 1)) && (lx_dc (pc + 1 + 6 * k) (.invokevirtual ix) 3 && (lx_dc (pc + 1 + 6 * k + 3) (.aload_n 2) 1 && ((List.range k).all (fun j => lx_ab (pc + 1 + 6 * k + 3 + 1 + 6 * j) (0 + j + 1)) && (lx_dc (pc + 1 + 6 * k + 3 + 1 + 6 * k) (.invokevirtual iy) 3 && (lx_dc (pc + 1 + 6 * k + 3 + 1 + 6 * k + 3) (.if_icmp .eq o) 3 && (decide (((pc + 1 + 6 * k + 3 + 1 + 6 * k + 3 : Nat) : Int) + o = ((1321 : Nat) : Int)) && (ia_okI 18 (ix, 1, yx, 0, 0, px) && (ia_okI 18 (iy, 1, yy, 0, 0, py) && (Nat.ble k 5 && (Nat.beq (k + 1) (ia_na yx) && (Nat.beq (k + 1) (ia_na yy) && (Nat.beq (ia_cls yx) 11 && (Nat.beq (ia_cls yy) 12 && (Nat.beq (ia_mc yx) 0 && (Nat.beq (ia_ms yx) 0 && (Nat.beq (ia_mc yy) 0 && Nat.beq (ia_ms yy) 0)))))))))))))))))
theorem lx_ab_ok {pc j : Nat} (h : lx_ab pc j = true) : lx_a pc j := by
  unfold lx_ab lx_dc at h
  simp only [Bool.and_eq_true, decide_eq_true_eq] at h
  exact h
theorem lx_cb_ok {pc k ix iy px py yx yy : Nat} {o : Int} (h : lx_cb pc k ix iy px py yx yy o = true) : lx_code pc k ix iy px py yx yy o := by
  unfold lx_cb lx_dc at h
  simp only [Bool.and_eq_true, decide_eq_true_eq] at h
  obtain ⟨a1, a2, a3, a4, a5, a6, a7, a8, a9, a10, a11, a12, a13, a14, a15, a16, a17, a18, a19⟩ := h
  exact ⟨a1, fun j hj => lx_ab_ok (List.all_eq_true.mp a2 j (List.mem_range.mpr hj)), a3, a4, fun j hj => lx_ab_ok (List.all_eq_true.mp a5 j (List.mem_range.mpr hj)), a6, a7, a8, a9, a10, ia_ble a11, ia_beq a12, ia_beq a13, ia_beq a14, ia_beq a15, ia_beq a16, ia_beq a17, ia_beq a18, ia_beq a19⟩
theorem lx_two (C0 : lw_At p s m meth c b L xs) (N : ia_N sa (fun q : Nat => s.heap.size ≤ q) s s.heap) (hL : L = 6) (hax : as0[0]? = some ax) (ham : as0[184]? = some am) (hc0 : ∃ c0, ia_get2 ia_S4 0 = some c0 ∧ c0.1 = 11) {k ix iy px py yx yy : Nat} {o : Int} (hq : lx_code pc k ix iy px py yx yy o) (hck : ∃ as, (∀ ad, ia_S sa ad as ([] ++ (List.range k).map (fun j => Value.int (xs (0 + j + 1))))) ∧ ia_chk yx yy as = true) (hc : nc ≤ 600002) (hs : ns ≤ 7302232) : lx_W p l e s m below meth c b D sa as0 (lx_lv b ax am ao) pc [] ia_S4 205 nc ns := by
  obtain ⟨hx, hb, hr, hml, hown, hts, hX, hbl, hlocks, hgv⟩ := id C0
  obtain ⟨a1, a2, a3, a4, a5, a6, a7, a8, a9, a10, a11, a12, a13, a14, a15, a16, a17, a18, a19⟩ := hq
  obtain ⟨as, hS, hk⟩ := hck
  have hl0 : (0, Value.ref b) ∈ lx_lv b ax am ao := by simp [lx_lv]
  have hl1 : (1, Value.ref ax) ∈ lx_lv b ax am ao := by simp [lx_lv]
  have hl2 : (2, Value.ref am) ∈ lx_lv b ax am ao := by simp [lx_lv]
  have hl4 : (4, Value.int 0) ∈ lx_lv b ax am ao := by simp [lx_lv]
  have hlen : as.length = k := by
    have := ia_S_len (hS [])
    rw [List.nil_append, List.length_map, List.length_range] at this
    exact this.symm
  unfold ia_chk at hk
  split at hk
  · rename_i ra σ1 n1 hcall1
    split at hk
    · rename_i rb σ2 n2 hcall2
      simp only [Bool.and_eq_true] at hk
      obtain ⟨b1, b2, b3, b4⟩ := hk
      have b1 := ia_beq b1
      have b2 := ia_beq b2
      have b3 := ia_beq b3
      obtain ⟨c0, hg0, hg1⟩ := hc0
      have hsz : ∀ (vs : List Value), (vs.map fun v => v.category).sum ≤ 8 → True := fun _ _ => trivial
      intro H locs ws tys ls hl hG
      refine lv_aload_n hx hb a1 rfl (hl.2.2 _ hl1) ?_
      refine lx_args (lx := lx_lv b ax am ao) C0 hL hl0 hl4 k 0 [.ref ax] (pc + 1) (by omega) a2 ?_ H locs ws tys ls hl hG
      refine lx_call C0 N (vs := [] ++ (List.range k).map (fun j => Value.int (xs (0 + j + 1)))) (rest := []) a9 a3 (by decide) hcall1 hax ⟨c0, hg0, by rw [hg1, a14], by omega⟩ hS (by omega) ⟨by omega, by omega⟩ (fun v v1 v2 => ?_)
      intro H locs ws tys ls hl hG
      refine lv_aload_n hx hb a4 rfl (hl.2.2 _ hl2) ?_
      refine lx_args (lx := lx_lv b ax am ao) C0 hL hl0 hl4 k 0 [.ref am, .int v] (pc + 1 + 6 * k + 3 + 1) (by omega) a5 ?_ H locs ws tys ls hl hG
      have hg2 : ∃ c0, ia_get2 σ1 184 = some c0 ∧ c0.1 = ia_cls yy ∧ c0.1 < 13 := by
        split at b4
        · rename_i c1 hc1
          have := ia_beq b4
          exact ⟨c1, hc1, by rw [a15]; exact this, by omega⟩
        · cases b4
      refine lx_call C0 N (vs := [] ++ (List.range k).map (fun j => Value.int (xs (0 + j + 1)))) (rest := [.int v]) a10 a6 (Nat.le_of_ble_eq_true rfl) hcall2 ham hg2 hS (by omega) ⟨by omega, by omega⟩ (fun w w1 w2 => ?_)
      intro H locs ws tys ls hl hG
      have hvw : v = w := ia_E_inj (by omega)
      refine lv_icmp_eq (tgt := 1321) hx hb a7 a8 (fun _ => ?_) (fun q => absurd hvw q)
      exact lx_end C0 hL (by omega) (by omega) H locs ws tys ls hl hG
    · cases hk
  · cases hk
end LX2
end
section
-- by program (wip/p1/genruns.py)
set_option maxRecDepth 100000 in
theorem ia_ok0c : (match ia_get2 ia_S4 0 with
  | some c0 => Nat.beq c0.1 11
  | none => false) = true := by decide +kernel
set_option maxRecDepth 100000 in
theorem lq_feed : lx_cb 212 5 22 26 691 1456 13 105 1041 = true := by decide +kernel
set_option maxRecDepth 100000 in
theorem lk_feed : ia_all 13 105 ([[(0, 4294967295)], [(0, 4294967295)], [(0, 4294967295)], [(0, 4294967295)], [(0, 4294967295)]] : List (List (Nat × Nat))) [] = true := by decide +kernel
set_option maxRecDepth 100000 in
theorem lc_feed : ([[(0, 4294967295)], [(0, 4294967295)], [(0, 4294967295)], [(0, 4294967295)], [(0, 4294967295)]] : List (List (Nat × Nat))).all (fun qs => ia_cov qs 0) = true := by decide +kernel
set_option maxRecDepth 100000 in
theorem lq_end : lx_cb 285 1 27 31 699 1465 10 102 1016 = true := by decide +kernel
set_option maxRecDepth 100000 in
theorem lk_end : ia_all 10 102 ([[(0, 2147483647), (2147483648, 2147483648), (2147483649, 4294967295)]] : List (List (Nat × Nat))) [] = true := by decide +kernel
set_option maxRecDepth 100000 in
theorem lc_end : ([[(0, 2147483647), (2147483648, 2147483648), (2147483649, 4294967295)]] : List (List (Nat × Nat))).all (fun qs => ia_cov qs 0) = true := by decide +kernel
set_option maxRecDepth 100000 in
theorem lq_valley : lx_cb 310 0 32 36 703 1642 47 150 1003 = true := by decide +kernel
set_option maxRecDepth 100000 in
theorem lk_valley : ia_all 47 150 ([] : List (List (Nat × Nat))) [] = true := by decide +kernel
set_option maxRecDepth 100000 in
theorem lc_valley : ([] : List (List (Nat × Nat))).all (fun qs => ia_cov qs 0) = true := by decide +kernel
set_option maxRecDepth 100000 in
theorem lq_fault : lx_cb 323 0 37 40 841 1730 11 103 990 = true := by decide +kernel
set_option maxRecDepth 100000 in
theorem lk_fault : ia_all 11 103 ([] : List (List (Nat × Nat))) [] = true := by decide +kernel
set_option maxRecDepth 100000 in
theorem lc_fault : ([] : List (List (Nat × Nat))).all (fun qs => ia_cov qs 0) = true := by decide +kernel
set_option maxRecDepth 100000 in
theorem lq_food : lx_cb 404 2 50 53 845 1762 14 106 885 = true := by decide +kernel
set_option maxRecDepth 100000 in
theorem lk_food : ia_all 14 106 ([[(0, 2147483647), (2147483648, 4294967295)], [(0, 4294967295)]] : List (List (Nat × Nat))) [] = true := by decide +kernel
set_option maxRecDepth 100000 in
theorem lc_food : ([[(0, 2147483647), (2147483648, 4294967295)], [(0, 4294967295)]] : List (List (Nat × Nat))).all (fun qs => ia_cov qs 0) = true := by decide +kernel
set_option maxRecDepth 100000 in
theorem lq_meeting : lx_cb 441 2 54 57 853 1770 28 127 848 = true := by decide +kernel
set_option maxRecDepth 100000 in
theorem lk_meeting : ia_all 28 127 ([[(0, 2147483647), (2147483648, 4294967295)], [(0, 4294967295)]] : List (List (Nat × Nat))) [] = true := by decide +kernel
set_option maxRecDepth 100000 in
theorem lc_meeting : ([[(0, 2147483647), (2147483648, 4294967295)], [(0, 4294967295)]] : List (List (Nat × Nat))).all (fun qs => ia_cov qs 0) = true := by decide +kernel
set_option maxRecDepth 100000 in
theorem lq_now : lx_cb 546 1 61 65 878 1798 30 130 755 = true := by decide +kernel
set_option maxRecDepth 100000 in
theorem lk_now : ia_all 30 130 ([[(0, 2147483647), (2147483648, 2147483648), (2147483649, 2147483649), (2147483650, 2147483650), (2147483651, 2147483651), (2147483652, 2147483652), (2147483653, 2147483653), (2147483654, 2147483654), (2147483655, 2147483655), (2147483656, 4294967295)]] : List (List (Nat × Nat))) [] = true := by decide +kernel
set_option maxRecDepth 100000 in
theorem lc_now : ([[(0, 2147483647), (2147483648, 2147483648), (2147483649, 2147483649), (2147483650, 2147483650), (2147483651, 2147483651), (2147483652, 2147483652), (2147483653, 2147483653), (2147483654, 2147483654), (2147483655, 2147483655), (2147483656, 4294967295)]] : List (List (Nat × Nat))).all (fun qs => ia_cov qs 0) = true := by decide +kernel
set_option maxRecDepth 100000 in
theorem lq_eat : lx_cb 571 2 66 69 901 1814 9 101 718 = true := by decide +kernel
set_option maxRecDepth 100000 in
theorem lk_eat : ia_all 9 101 ([[(0, 2147483647), (2147483648, 4294967295)], [(0, 4294967295)]] : List (List (Nat × Nat))) [] = true := by decide +kernel
set_option maxRecDepth 100000 in
theorem lc_eat : ([[(0, 2147483647), (2147483648, 4294967295)], [(0, 4294967295)]] : List (List (Nat × Nat))).all (fun qs => ia_cov qs 0) = true := by decide +kernel
set_option maxRecDepth 100000 in
theorem lq_ail : lx_cb 608 1 70 73 934 1833 1 90 693 = true := by decide +kernel
set_option maxRecDepth 100000 in
theorem lk_ail : ia_all 1 90 ([[(0, 2147483647), (2147483648, 4294967295)]] : List (List (Nat × Nat))) [] = true := by decide +kernel
set_option maxRecDepth 100000 in
theorem lc_ail : ([[(0, 2147483647), (2147483648, 4294967295)]] : List (List (Nat × Nat))).all (fun qs => ia_cov qs 0) = true := by decide +kernel
set_option maxRecDepth 100000 in
theorem lq_mend : lx_cb 633 1 74 77 946 1837 29 128 668 = true := by decide +kernel
set_option maxRecDepth 100000 in
theorem lk_mend : ia_all 29 128 ([[(0, 2147483647), (2147483648, 4294967295)]] : List (List (Nat × Nat))) [] = true := by decide +kernel
set_option maxRecDepth 100000 in
theorem lc_mend : ([[(0, 2147483647), (2147483648, 4294967295)]] : List (List (Nat × Nat))).all (fun qs => ia_cov qs 0) = true := by decide +kernel
set_option maxRecDepth 100000 in
theorem lq_meet : lx_cb 658 1 78 81 954 1841 27 126 643 = true := by decide +kernel
set_option maxRecDepth 100000 in
theorem lk_meet : ia_all 27 126 ([[(0, 2147483647), (2147483648, 4294967295)]] : List (List (Nat × Nat))) [] = true := by decide +kernel
set_option maxRecDepth 100000 in
theorem lc_meet : ([[(0, 2147483647), (2147483648, 4294967295)]] : List (List (Nat × Nat))).all (fun qs => ia_cov qs 0) = true := by decide +kernel
set_option maxRecDepth 100000 in
theorem lq_hours : lx_cb 683 1 82 85 962 1845 15 111 618 = true := by decide +kernel
set_option maxRecDepth 100000 in
theorem lk_hours_0 : ([(0, 2147483648), (2147483649, 2147483649), (2147483650, 2147483650), (2147483651, 2147483651)] : List (Nat × Nat)).all (fun q => ia_all 15 111 [] [.inl q]) = true := by decide +kernel
set_option maxRecDepth 100000 in
theorem lk_hours_1 : ([(2147483652, 2147483652), (2147483653, 2147483653), (2147483654, 2147483654), (2147483655, 2147483655)] : List (Nat × Nat)).all (fun q => ia_all 15 111 [] [.inl q]) = true := by decide +kernel
set_option maxRecDepth 100000 in
theorem lk_hours_2 : ([(2147483656, 2147483656), (2147483657, 2147483657), (2147483658, 2147483658), (2147483659, 2147483659)] : List (Nat × Nat)).all (fun q => ia_all 15 111 [] [.inl q]) = true := by decide +kernel
set_option maxRecDepth 100000 in
theorem lk_hours_3 : ([(2147483660, 2147483660), (2147483661, 2147483661), (2147483662, 2147483662), (2147483663, 2147483663)] : List (Nat × Nat)).all (fun q => ia_all 15 111 [] [.inl q]) = true := by decide +kernel
set_option maxRecDepth 100000 in
theorem lk_hours_4 : ([(2147483664, 2147483664), (2147483665, 2147483665), (2147483666, 2147483666), (2147483667, 2147483667)] : List (Nat × Nat)).all (fun q => ia_all 15 111 [] [.inl q]) = true := by decide +kernel
set_option maxRecDepth 100000 in
theorem lk_hours_5 : ([(2147483668, 2147483668), (2147483669, 2147483669), (2147483670, 2147483670), (2147483671, 2147483671)] : List (Nat × Nat)).all (fun q => ia_all 15 111 [] [.inl q]) = true := by decide +kernel
set_option maxRecDepth 100000 in
theorem lk_hours_6 : ([(2147483672, 2147483672), (2147483673, 2147483673), (2147483674, 2147483674), (2147483675, 2147483675)] : List (Nat × Nat)).all (fun q => ia_all 15 111 [] [.inl q]) = true := by decide +kernel
set_option maxRecDepth 100000 in
theorem lk_hours_7 : ([(2147483676, 2147483676), (2147483677, 2147483677), (2147483678, 2147483678), (2147483679, 2147483679)] : List (Nat × Nat)).all (fun q => ia_all 15 111 [] [.inl q]) = true := by decide +kernel
set_option maxRecDepth 100000 in
theorem lk_hours_8 : ([(2147483680, 2147483680), (2147483681, 2147483681), (2147483682, 2147483682), (2147483683, 2147483683)] : List (Nat × Nat)).all (fun q => ia_all 15 111 [] [.inl q]) = true := by decide +kernel
set_option maxRecDepth 100000 in
theorem lk_hours_9 : ([(2147483684, 2147483684), (2147483685, 2147483685), (2147483686, 2147483686), (2147483687, 2147483687)] : List (Nat × Nat)).all (fun q => ia_all 15 111 [] [.inl q]) = true := by decide +kernel
set_option maxRecDepth 100000 in
theorem lk_hours_10 : ([(2147483688, 2147483688), (2147483689, 2147483689), (2147483690, 2147483690), (2147483691, 2147483691)] : List (Nat × Nat)).all (fun q => ia_all 15 111 [] [.inl q]) = true := by decide +kernel
set_option maxRecDepth 100000 in
theorem lk_hours_11 : ([(2147483692, 2147483692), (2147483693, 2147483693), (2147483694, 2147483694), (2147483695, 2147483695)] : List (Nat × Nat)).all (fun q => ia_all 15 111 [] [.inl q]) = true := by decide +kernel
set_option maxRecDepth 100000 in
theorem lk_hours_12 : ([(2147483696, 2147483696), (2147483697, 2147483697), (2147483698, 2147483698), (2147483699, 2147483699)] : List (Nat × Nat)).all (fun q => ia_all 15 111 [] [.inl q]) = true := by decide +kernel
set_option maxRecDepth 100000 in
theorem lk_hours_13 : ([(2147483700, 2147483700), (2147483701, 2147483701), (2147483702, 2147483702), (2147483703, 2147483703)] : List (Nat × Nat)).all (fun q => ia_all 15 111 [] [.inl q]) = true := by decide +kernel
set_option maxRecDepth 100000 in
theorem lk_hours_14 : ([(2147483704, 2147483704), (2147483705, 2147483705), (2147483706, 2147483706), (2147483707, 2147483707)] : List (Nat × Nat)).all (fun q => ia_all 15 111 [] [.inl q]) = true := by decide +kernel
set_option maxRecDepth 100000 in
theorem lk_hours_15 : ([(2147483708, 2147483708), (2147483709, 4294967295)] : List (Nat × Nat)).all (fun q => ia_all 15 111 [] [.inl q]) = true := by decide +kernel
theorem lk_hours : ia_all 15 111 [[(0, 2147483648), (2147483649, 2147483649), (2147483650, 2147483650), (2147483651, 2147483651)] ++ ([(2147483652, 2147483652), (2147483653, 2147483653), (2147483654, 2147483654), (2147483655, 2147483655)] ++ ([(2147483656, 2147483656), (2147483657, 2147483657), (2147483658, 2147483658), (2147483659, 2147483659)] ++ ([(2147483660, 2147483660), (2147483661, 2147483661), (2147483662, 2147483662), (2147483663, 2147483663)] ++ ([(2147483664, 2147483664), (2147483665, 2147483665), (2147483666, 2147483666), (2147483667, 2147483667)] ++ ([(2147483668, 2147483668), (2147483669, 2147483669), (2147483670, 2147483670), (2147483671, 2147483671)] ++ ([(2147483672, 2147483672), (2147483673, 2147483673), (2147483674, 2147483674), (2147483675, 2147483675)] ++ ([(2147483676, 2147483676), (2147483677, 2147483677), (2147483678, 2147483678), (2147483679, 2147483679)] ++ ([(2147483680, 2147483680), (2147483681, 2147483681), (2147483682, 2147483682), (2147483683, 2147483683)] ++ ([(2147483684, 2147483684), (2147483685, 2147483685), (2147483686, 2147483686), (2147483687, 2147483687)] ++ ([(2147483688, 2147483688), (2147483689, 2147483689), (2147483690, 2147483690), (2147483691, 2147483691)] ++ ([(2147483692, 2147483692), (2147483693, 2147483693), (2147483694, 2147483694), (2147483695, 2147483695)] ++ ([(2147483696, 2147483696), (2147483697, 2147483697), (2147483698, 2147483698), (2147483699, 2147483699)] ++ ([(2147483700, 2147483700), (2147483701, 2147483701), (2147483702, 2147483702), (2147483703, 2147483703)] ++ ([(2147483704, 2147483704), (2147483705, 2147483705), (2147483706, 2147483706), (2147483707, 2147483707)] ++ ([(2147483708, 2147483708), (2147483709, 4294967295)])))))))))))))))] [] = true := by
  show ([(0, 2147483648), (2147483649, 2147483649), (2147483650, 2147483650), (2147483651, 2147483651)] ++ ([(2147483652, 2147483652), (2147483653, 2147483653), (2147483654, 2147483654), (2147483655, 2147483655)] ++ ([(2147483656, 2147483656), (2147483657, 2147483657), (2147483658, 2147483658), (2147483659, 2147483659)] ++ ([(2147483660, 2147483660), (2147483661, 2147483661), (2147483662, 2147483662), (2147483663, 2147483663)] ++ ([(2147483664, 2147483664), (2147483665, 2147483665), (2147483666, 2147483666), (2147483667, 2147483667)] ++ ([(2147483668, 2147483668), (2147483669, 2147483669), (2147483670, 2147483670), (2147483671, 2147483671)] ++ ([(2147483672, 2147483672), (2147483673, 2147483673), (2147483674, 2147483674), (2147483675, 2147483675)] ++ ([(2147483676, 2147483676), (2147483677, 2147483677), (2147483678, 2147483678), (2147483679, 2147483679)] ++ ([(2147483680, 2147483680), (2147483681, 2147483681), (2147483682, 2147483682), (2147483683, 2147483683)] ++ ([(2147483684, 2147483684), (2147483685, 2147483685), (2147483686, 2147483686), (2147483687, 2147483687)] ++ ([(2147483688, 2147483688), (2147483689, 2147483689), (2147483690, 2147483690), (2147483691, 2147483691)] ++ ([(2147483692, 2147483692), (2147483693, 2147483693), (2147483694, 2147483694), (2147483695, 2147483695)] ++ ([(2147483696, 2147483696), (2147483697, 2147483697), (2147483698, 2147483698), (2147483699, 2147483699)] ++ ([(2147483700, 2147483700), (2147483701, 2147483701), (2147483702, 2147483702), (2147483703, 2147483703)] ++ ([(2147483704, 2147483704), (2147483705, 2147483705), (2147483706, 2147483706), (2147483707, 2147483707)] ++ ([(2147483708, 2147483708), (2147483709, 4294967295)]))))))))))))))) : List (Nat × Nat)).all (fun q => ia_all 15 111 [] [.inl q]) = true
  simp only [List.all_append, Bool.and_eq_true]
  exact ⟨lk_hours_0, ⟨lk_hours_1, ⟨lk_hours_2, ⟨lk_hours_3, ⟨lk_hours_4, ⟨lk_hours_5, ⟨lk_hours_6, ⟨lk_hours_7, ⟨lk_hours_8, ⟨lk_hours_9, ⟨lk_hours_10, ⟨lk_hours_11, ⟨lk_hours_12, ⟨lk_hours_13, ⟨lk_hours_14, lk_hours_15⟩⟩⟩⟩⟩⟩⟩⟩⟩⟩⟩⟩⟩⟩⟩
set_option maxRecDepth 100000 in
theorem lc_hours : ([[(0, 2147483648), (2147483649, 2147483649), (2147483650, 2147483650), (2147483651, 2147483651)] ++ ([(2147483652, 2147483652), (2147483653, 2147483653), (2147483654, 2147483654), (2147483655, 2147483655)] ++ ([(2147483656, 2147483656), (2147483657, 2147483657), (2147483658, 2147483658), (2147483659, 2147483659)] ++ ([(2147483660, 2147483660), (2147483661, 2147483661), (2147483662, 2147483662), (2147483663, 2147483663)] ++ ([(2147483664, 2147483664), (2147483665, 2147483665), (2147483666, 2147483666), (2147483667, 2147483667)] ++ ([(2147483668, 2147483668), (2147483669, 2147483669), (2147483670, 2147483670), (2147483671, 2147483671)] ++ ([(2147483672, 2147483672), (2147483673, 2147483673), (2147483674, 2147483674), (2147483675, 2147483675)] ++ ([(2147483676, 2147483676), (2147483677, 2147483677), (2147483678, 2147483678), (2147483679, 2147483679)] ++ ([(2147483680, 2147483680), (2147483681, 2147483681), (2147483682, 2147483682), (2147483683, 2147483683)] ++ ([(2147483684, 2147483684), (2147483685, 2147483685), (2147483686, 2147483686), (2147483687, 2147483687)] ++ ([(2147483688, 2147483688), (2147483689, 2147483689), (2147483690, 2147483690), (2147483691, 2147483691)] ++ ([(2147483692, 2147483692), (2147483693, 2147483693), (2147483694, 2147483694), (2147483695, 2147483695)] ++ ([(2147483696, 2147483696), (2147483697, 2147483697), (2147483698, 2147483698), (2147483699, 2147483699)] ++ ([(2147483700, 2147483700), (2147483701, 2147483701), (2147483702, 2147483702), (2147483703, 2147483703)] ++ ([(2147483704, 2147483704), (2147483705, 2147483705), (2147483706, 2147483706), (2147483707, 2147483707)] ++ ([(2147483708, 2147483708), (2147483709, 4294967295)])))))))))))))))] : List (List (Nat × Nat))).all (fun qs => ia_cov qs 0) = true := by decide +kernel
set_option maxRecDepth 100000 in
theorem lq_undo : lx_cb 708 0 86 89 989 1860 46 149 605 = true := by decide +kernel
set_option maxRecDepth 100000 in
theorem lk_undo : ia_all 46 149 ([] : List (List (Nat × Nat))) [] = true := by decide +kernel
set_option maxRecDepth 100000 in
theorem lc_undo : ([] : List (List (Nat × Nat))).all (fun qs => ia_cov qs 0) = true := by decide +kernel
set_option maxRecDepth 100000 in
theorem lq_on : lx_cb 721 1 90 93 997 1864 32 132 580 = true := by decide +kernel
set_option maxRecDepth 100000 in
theorem lk_on : ia_all 32 132 ([[(0, 2147483647), (2147483648, 2147483847), (2147483848, 4294967295)]] : List (List (Nat × Nat))) [] = true := by decide +kernel
set_option maxRecDepth 100000 in
theorem lc_on : ([[(0, 2147483647), (2147483648, 2147483847), (2147483848, 4294967295)]] : List (List (Nat × Nat))).all (fun qs => ia_cov qs 0) = true := by decide +kernel
set_option maxRecDepth 100000 in
theorem lq_common : lx_cb 746 0 94 97 1008 1872 6 98 567 = true := by decide +kernel
set_option maxRecDepth 100000 in
theorem lk_common : ia_all 6 98 ([] : List (List (Nat × Nat))) [] = true := by decide +kernel
set_option maxRecDepth 100000 in
theorem lc_common : ([] : List (List (Nat × Nat))).all (fun qs => ia_cov qs 0) = true := by decide +kernel
set_option maxRecDepth 100000 in
theorem lq_table : lx_cb 759 1 98 101 1019 1879 43 144 542 = true := by decide +kernel
set_option maxRecDepth 100000 in
theorem lk_table : ia_all 43 144 ([[(0, 2147483647), (2147483648, 2147483648), (2147483649, 4294967295)]] : List (List (Nat × Nat))) [] = true := by decide +kernel
set_option maxRecDepth 100000 in
theorem lc_table : ([[(0, 2147483647), (2147483648, 2147483648), (2147483649, 4294967295)]] : List (List (Nat × Nat))).all (fun qs => ia_cov qs 0) = true := by decide +kernel
set_option maxRecDepth 100000 in
theorem lq_plate : lx_cb 784 1 102 105 1085 1915 35 137 517 = true := by decide +kernel
set_option maxRecDepth 100000 in
theorem lk_plate : ia_all 35 137 ([[(0, 2147483647), (2147483648, 4294967295)]] : List (List (Nat × Nat))) [] = true := by decide +kernel
set_option maxRecDepth 100000 in
theorem lc_plate : ([[(0, 2147483647), (2147483648, 4294967295)]] : List (List (Nat × Nat))).all (fun qs => ia_cov qs 0) = true := by decide +kernel
set_option maxRecDepth 100000 in
theorem lq_feast : lx_cb 809 0 106 109 1093 1919 12 104 504 = true := by decide +kernel
set_option maxRecDepth 100000 in
theorem lk_feast : ia_all 12 104 ([] : List (List (Nat × Nat))) [] = true := by decide +kernel
set_option maxRecDepth 100000 in
theorem lc_feast : ([] : List (List (Nat × Nat))).all (fun qs => ia_cov qs 0) = true := by decide +kernel
set_option maxRecDepth 100000 in
theorem lq_ate : lx_cb 822 0 110 113 1097 1923 3 92 491 = true := by decide +kernel
set_option maxRecDepth 100000 in
theorem lk_ate : ia_all 3 92 ([] : List (List (Nat × Nat))) [] = true := by decide +kernel
set_option maxRecDepth 100000 in
theorem lc_ate : ([] : List (List (Nat × Nat))).all (fun qs => ia_cov qs 0) = true := by decide +kernel
set_option maxRecDepth 100000 in
theorem lq_surely : lx_cb 835 0 114 117 1117 1935 42 143 478 = true := by decide +kernel
set_option maxRecDepth 100000 in
theorem lk_surely : ia_all 42 143 ([] : List (List (Nat × Nat))) [] = true := by decide +kernel
set_option maxRecDepth 100000 in
theorem lc_surely : ([] : List (List (Nat × Nat))).all (fun qs => ia_cov qs 0) = true := by decide +kernel
set_option maxRecDepth 100000 in
theorem lq_ask : lx_cb 848 0 118 121 1121 1939 2 91 465 = true := by decide +kernel
set_option maxRecDepth 100000 in
theorem lk_ask : ia_all 2 91 ([] : List (List (Nat × Nat))) [] = true := by decide +kernel
set_option maxRecDepth 100000 in
theorem lc_ask : ([] : List (List (Nat × Nat))).all (fun qs => ia_cov qs 0) = true := by decide +kernel
set_option maxRecDepth 100000 in
theorem lq_twins : lx_cb 861 2 122 125 1125 1943 45 148 428 = true := by decide +kernel
set_option maxRecDepth 100000 in
theorem lk_twins : ia_all 45 148 ([[(0, 2147483647), (2147483648, 4294967295)], [(0, 4294967295)]] : List (List (Nat × Nat))) [] = true := by decide +kernel
set_option maxRecDepth 100000 in
theorem lc_twins : ([[(0, 2147483647), (2147483648, 4294967295)], [(0, 4294967295)]] : List (List (Nat × Nat))).all (fun qs => ia_cov qs 0) = true := by decide +kernel
set_option maxRecDepth 100000 in
theorem lq_late : lx_cb 898 1 126 129 1131 1955 25 123 403 = true := by decide +kernel
set_option maxRecDepth 100000 in
theorem lk_late : ia_all 25 123 ([[(0, 2147483647), (2147483648, 2147483847), (2147483848, 4294967295)]] : List (List (Nat × Nat))) [] = true := by decide +kernel
set_option maxRecDepth 100000 in
theorem lc_late : ([[(0, 2147483647), (2147483648, 2147483847), (2147483848, 4294967295)]] : List (List (Nat × Nat))).all (fun qs => ia_cov qs 0) = true := by decide +kernel
set_option maxRecDepth 100000 in
theorem lq_share : lx_cb 923 2 130 133 1139 1963 40 141 366 = true := by decide +kernel
set_option maxRecDepth 100000 in
theorem lk_share : ia_all 40 141 ([[(0, 2147483647), (2147483648, 2147484647), (2147484648, 4294967295)], [(0, 2147483647), (2147483648, 4294967295)]] : List (List (Nat × Nat))) [] = true := by decide +kernel
set_option maxRecDepth 100000 in
theorem lc_share : ([[(0, 2147483647), (2147483648, 2147484647), (2147484648, 4294967295)], [(0, 2147483647), (2147483648, 4294967295)]] : List (List (Nat × Nat))).all (fun qs => ia_cov qs 0) = true := by decide +kernel
set_option maxRecDepth 100000 in
theorem lq_clash : lx_cb 960 1 134 137 1151 1971 5 97 341 = true := by decide +kernel
set_option maxRecDepth 100000 in
theorem lk_clash : ia_all 5 97 ([[(0, 2147483646), (2147483647, 2147483647), (2147483648, 4294967295)]] : List (List (Nat × Nat))) [] = true := by decide +kernel
set_option maxRecDepth 100000 in
theorem lc_clash : ([[(0, 2147483646), (2147483647, 2147483647), (2147483648, 4294967295)]] : List (List (Nat × Nat))).all (fun qs => ia_cov qs 0) = true := by decide +kernel
set_option maxRecDepth 100000 in
theorem lq_keeps : lx_cb 985 1 138 141 1162 1975 24 122 316 = true := by decide +kernel
set_option maxRecDepth 100000 in
theorem lk_keeps : ia_all 24 122 ([[(0, 2147483648), (2147483649, 2147483847), (2147483848, 4294967295)]] : List (List (Nat × Nat))) [] = true := by decide +kernel
set_option maxRecDepth 100000 in
theorem lc_keeps : ([[(0, 2147483648), (2147483649, 2147483847), (2147483848, 4294967295)]] : List (List (Nat × Nat))).all (fun qs => ia_cov qs 0) = true := by decide +kernel
set_option maxRecDepth 100000 in
theorem lq_later : lx_cb 1010 2 142 145 1179 1987 26 124 279 = true := by decide +kernel
set_option maxRecDepth 100000 in
theorem lk_later : ia_all 26 124 ([[(0, 2147483647), (2147483648, 4294967295)], [(0, 4294967295)]] : List (List (Nat × Nat))) [] = true := by decide +kernel
set_option maxRecDepth 100000 in
theorem lc_later : ([[(0, 2147483647), (2147483648, 4294967295)], [(0, 4294967295)]] : List (List (Nat × Nat))).all (fun qs => ia_cov qs 0) = true := by decide +kernel
set_option maxRecDepth 100000 in
theorem lq_paid : lx_cb 1047 1 146 149 1183 1991 34 135 254 = true := by decide +kernel
set_option maxRecDepth 100000 in
theorem lk_paid : ia_all 34 135 ([[(0, 2147483647), (2147483648, 4294967295)]] : List (List (Nat × Nat))) [] = true := by decide +kernel
set_option maxRecDepth 100000 in
theorem lc_paid : ([[(0, 2147483647), (2147483648, 4294967295)]] : List (List (Nat × Nat))).all (fun qs => ia_cov qs 0) = true := by decide +kernel
set_option maxRecDepth 100000 in
theorem lq_drawn : lx_cb 1072 2 150 153 1191 1995 8 100 217 = true := by decide +kernel
set_option maxRecDepth 100000 in
theorem lk_drawn : ia_all 8 100 ([[(0, 2147483648), (2147483649, 2147483708), (2147483709, 4294967295)], [(0, 4294967295)]] : List (List (Nat × Nat))) [] = true := by decide +kernel
set_option maxRecDepth 100000 in
theorem lc_drawn : ([[(0, 2147483648), (2147483649, 2147483708), (2147483709, 4294967295)], [(0, 4294967295)]] : List (List (Nat × Nat))).all (fun qs => ia_cov qs 0) = true := by decide +kernel
set_option maxRecDepth 100000 in
theorem lq_odds : lx_cb 1109 3 154 158 1218 2012 31 131 168 = true := by decide +kernel
set_option maxRecDepth 100000 in
theorem lk_odds : ia_all 31 131 ([[(0, 2147483647), (2147483648, 4294967295)], [(0, 4294967295)], [(0, 4294967295)]] : List (List (Nat × Nat))) [] = true := by decide +kernel
set_option maxRecDepth 100000 in
theorem lc_odds : ([[(0, 2147483647), (2147483648, 4294967295)], [(0, 4294967295)], [(0, 4294967295)]] : List (List (Nat × Nat))).all (fun qs => ia_cov qs 0) = true := by decide +kernel
set_option maxRecDepth 100000 in
theorem lq_book : lx_cb 1158 1 159 162 1222 2016 4 96 143 = true := by decide +kernel
set_option maxRecDepth 100000 in
theorem lk_book : ia_all 4 96 ([[(0, 2147483647), (2147483648, 2147483648), (2147483649, 2147483649), (2147483650, 4294967295)]] : List (List (Nat × Nat))) [] = true := by decide +kernel
set_option maxRecDepth 100000 in
theorem lc_book : ([[(0, 2147483647), (2147483648, 2147483648), (2147483649, 2147483649), (2147483650, 4294967295)]] : List (List (Nat × Nat))).all (fun qs => ia_cov qs 0) = true := by decide +kernel
set_option maxRecDepth 100000 in
theorem lq_told : lx_cb 1183 1 163 166 1274 2028 44 146 118 = true := by decide +kernel
set_option maxRecDepth 100000 in
theorem lk_told : ia_all 44 146 ([[(0, 2147483647), (2147483648, 2147483648), (2147483649, 2147483649), (2147483650, 2147483650), (2147483651, 2147483651), (2147483652, 4294967295)]] : List (List (Nat × Nat))) [] = true := by decide +kernel
set_option maxRecDepth 100000 in
theorem lc_told : ([[(0, 2147483647), (2147483648, 2147483648), (2147483649, 2147483649), (2147483650, 2147483650), (2147483651, 2147483651), (2147483652, 4294967295)]] : List (List (Nat × Nat))).all (fun qs => ia_cov qs 0) = true := by decide +kernel
set_option maxRecDepth 100000 in
theorem lq_sentence : lx_cb 1208 0 167 170 1278 2032 39 140 105 = true := by decide +kernel
set_option maxRecDepth 100000 in
theorem lk_sentence : ia_all 39 140 ([] : List (List (Nat × Nat))) [] = true := by decide +kernel
set_option maxRecDepth 100000 in
theorem lc_sentence : ([] : List (List (Nat × Nat))).all (fun qs => ia_cov qs 0) = true := by decide +kernel
set_option maxRecDepth 100000 in
theorem lq_said : lx_cb 1221 1 171 174 1319 2060 38 139 80 = true := by decide +kernel
set_option maxRecDepth 100000 in
theorem lk_said : ia_all 38 139 ([[(0, 4294967295)]] : List (List (Nat × Nat))) [] = true := by decide +kernel
set_option maxRecDepth 100000 in
theorem lc_said : ([[(0, 4294967295)]] : List (List (Nat × Nat))).all (fun qs => ia_cov qs 0) = true := by decide +kernel
set_option maxRecDepth 100000 in
theorem lq_image : lx_cb 1246 1 175 178 1352 2072 17 112 55 = true := by decide +kernel
set_option maxRecDepth 100000 in
theorem lk_image : ia_all 17 112 ([[(0, 2147483647), (2147483648, 2147483648), (2147483649, 2147483649), (2147483650, 4294967295)]] : List (List (Nat × Nat))) [] = true := by decide +kernel
set_option maxRecDepth 100000 in
theorem lc_image : ([[(0, 2147483647), (2147483648, 2147483648), (2147483649, 2147483649), (2147483650, 4294967295)]] : List (List (Nat × Nat))).all (fun qs => ia_cov qs 0) = true := by decide +kernel
set_option maxRecDepth 100000 in
theorem lq_restore : lx_cb 1271 1 179 182 1359 2076 37 138 30 = true := by decide +kernel
set_option maxRecDepth 100000 in
theorem lk_restore : ia_all 37 138 ([[(0, 2147483647), (2147483648, 2147483648), (2147483649, 2147483649), (2147483650, 4294967295)]] : List (List (Nat × Nat))) [] = true := by decide +kernel
set_option maxRecDepth 100000 in
theorem lc_restore : ([[(0, 2147483647), (2147483648, 2147483648), (2147483649, 2147483649), (2147483650, 4294967295)]] : List (List (Nat × Nat))).all (fun qs => ia_cov qs 0) = true := by decide +kernel
set_option maxRecDepth 100000 in
theorem lq_count : lx_cb 1296 1 183 186 897 2080 7 99 5 = true := by decide +kernel
set_option maxRecDepth 100000 in
theorem lk_count : ia_all 7 99 ([[(0, 2147483647), (2147483648, 2147483648), (2147483649, 2147483649), (2147483650, 2147483650), (2147483651, 2147483651), (2147483652, 2147483652), (2147483653, 2147483653), (2147483654, 4294967295)]] : List (List (Nat × Nat))) [] = true := by decide +kernel
set_option maxRecDepth 100000 in
theorem lc_count : ([[(0, 2147483647), (2147483648, 2147483648), (2147483649, 2147483649), (2147483650, 2147483650), (2147483651, 2147483651), (2147483652, 2147483652), (2147483653, 2147483653), (2147483654, 4294967295)]] : List (List (Nat × Nat))).all (fun qs => ia_cov qs 0) = true := by decide +kernel
end
section
/-! ## what the Statement gives at the law's entry -/
theorem ia_nw_of {w : Cond} {Ar : Array Value} {U : State} (hn : ia_isN w = true) (h : w.before Ar U = true) : va_Nw w U := by
  cases w <;> first | exact va_Nw.of rfl h | cases hn
set_option maxRecDepth 100000 in
theorem lx_el : ∀ j, j < 115 → Cond.eq (.elem (.field (.string RX5 19) "java/lang/String" "value" "[B") (.int (Int32.ofNat j))) (.int (ia_by.getD j 0)) ∈ flatC (Jvm.Cond.and given_1 narrow_1) := by decide +kernel
section LX3
variable {p : Program} {l : Launch} {e : Env} {s : State} {m : MethodId} {below : List Frame} {meth : Method} {c : Code} {b L : Nat} {xs : Nat → Int32} {D : va_G} {sa : Nat × Nat} {as0 : List Nat} {nc ns : Nat}
set_option maxRecDepth 100000 in
theorem lx_N (C0 : lw_At p s m meth c b L xs) : ∃ sa, ia_N sa (fun q : Nat => s.heap.size ≤ q) s s.heap := by
  obtain ⟨hx, hb, hr, hml, hown, hts, hX, hbl, hlocks, hgv⟩ := id C0
  have hs := flat_of_before _ hgv
  have hA : ∀ a : Nat, a < s.heap.size → ¬ (fun q : Nat => s.heap.size ≤ q) a := fun a h => Nat.not_le.mpr h
  obtain ⟨adK, adV, hS, hev⟩ := vk_Sof (args := #[Value.ref b]) (s := s) (N := 1) (tm := fun _ => Term.string RX5 19) (len := [115]) (byt := [ia_by]) (A := fun q : Nat => s.heap.size ≤ q)
    (fun i hi => by have : i = 0 := by omega
                    subst this; decide)
    (fun i hi => hs _ (by decide +kernel)) (fun i hi => hs _ (by decide +kernel)) (fun i hi => hs _ (by decide +kernel))
    (fun i hi => by have : i = 0 := by omega
                    subst this; exact hs _ (by decide +kernel))
    (fun i hi j hj => by have : i = 0 := by omega
                         subst this; exact hs _ (lx_el j hj))
    (fun i j hi hj hne => absurd (by omega) hne) hA
  refine ⟨(adK 0, adV 0), fun w hw => ?_, ?_, ?_, ?_, ?_, ?_, ?_⟩
  · have hN := ia_Np_ok w hw
    exact ia_nw_of hN (hts _ (ia_w_in rfl (fun z => by rw [z] at hN; cases hN)))
  · exact va_AO.of (hts _ (ia_w_in (p := 472) (w := .arrayOver (.object RX3)) (by decide +kernel) (by intro z; cases z)))
  · exact va_AO.of (hts _ (ia_w_in (p := 458) (w := .arrayOver (.object RX7)) (by decide +kernel) (by intro z; cases z)))
  · exact vk_R.of (hts _ (ia_w_in (p := 152) (w := .stringRef RX5 19 ia_tx) (by decide +kernel) (by intro z; cases z))) (hev 0 (by decide))
  · refine ⟨fun i hi => ?_, fun i j hi hj _ => by omega⟩
    have : i = 0 := by omega
    subst this
    exact hS.1 0 hi
  · exact va_Zof (hts _ (ia_w_in (p := 162) (w := .laysStatic "java/lang/String" "COMPACT_STRINGS" "Z") (by decide +kernel) (by intro z; cases z))) (hts _ (ia_w_in (p := 116) (w := .initialized "java/lang/String") (by decide +kernel) (by intro z; cases z))) (va_eqi (hs _ (by decide +kernel))) hA
  · exact va_Zqof (hts _ (ia_w_in (p := 178) (w := .laysStatic "jdk/internal/util/Preconditions" "SIOOBE_FORMATTER" "Ljava/util/function/BiFunction;") (by decide +kernel) (by intro z; cases z))) (hts _ (ia_w_in (p := 118) (w := .initialized "jdk/internal/util/Preconditions") (by decide +kernel) (by intro z; cases z))) (hs _ (by decide +kernel)) hA
/-- the classes, as the tables know them -/
theorem lx_K (C0 : lw_At p s m meth c b L xs) : ∃ D : va_G, va_K D vwCl [] s := by
  obtain ⟨hx, hb, hr, hml, hown, hts, hX, hbl, hlocks, hgv⟩ := id C0
  have h0 : ∀ k : Nat, ∃ q : ClassId × (Nat → Nat), ∀ r, vwCl[k]? = some r → u_Kn s r.1 r.2.1 r.2.2 q.1 q.2 := by
    intro k
    cases hk : vwCl[k]? with
    | none => exact ⟨(0, fun _ => 0), fun r h => by cases h⟩
    | some r =>
      obtain ⟨g1, g2, g3, -⟩ := ia_okC_at hk
      obtain ⟨cC, iS, hKn⟩ := u_known (C := r.1) (T := r.2.1) (N := r.2.2) (n := r.2.2) hts (fun w hw => (List.mem_filter.mp (g1 w hw)).1) (hts _ (List.mem_filter.mp g2).1)
      exact ⟨(cC, iS), fun r' h => by cases h; exact hKn⟩
  exact ⟨(fun k => (Classical.choose (h0 k)).1, fun k => (Classical.choose (h0 k)).2), fun k q hq => Classical.choose_spec (h0 k) q hq, fun k q h => by simp at h⟩
/-- a constructor's call -/
theorem lx_init (C0 : lw_At p s m meth c b L xs) (N : ia_N sa (fun q : Nat => s.heap.size ≤ q) s s.heap) {y2 i pp kx bx pc n : Nat} {rest : List Value} {σ σ' : ia_H} {n' : Nat} {H : Heap} {locs : List Loc} {ws : va_W} {tys : List (ClassId × FieldType)} {ls : Array Slot} (hok : ia_okI 18 (i, 1, y2, 2, 0, pp) = true) (hd : decode code pc = .ok (.invokespecial i, 3)) (hrest : (rest.map fun v => v.category).sum ≤ 8) (hna : ia_na y2 = 1)
    (hcall : ia_call 7 y2 [.inr (.inr (.inl (some kx)))] σ n = some (none, σ', n')) (hls : ls.size = 7) (hG : lx_G s D sa as0 H locs ws tys σ n) (hbx : (ws.map Prod.fst)[kx]? = some bx) (hc : nc + ia_mc y2 ≤ 600002 ∧ ns + ia_ms y2 ≤ 7302232)
    (k : ∀ (H1 : Heap) (locs1 : List Loc) (ws1 : va_W) (tys1 : List (ClassId × FieldType)), lx_G s D sa (ws.map Prod.fst) H1 locs1 ws1 tys1 σ' n' → W p l e room_1 s m #[Value.ref b] below meth c H1 locs1 (nc + ia_mc y2) (ns + ia_ms y2) (lw_Z below #[Value.ref b] s) (F0 m (pc + 3) ls rest)) : W p l e room_1 s m #[Value.ref b] below meth c H locs nc ns (lw_Z below #[Value.ref b] s) (F0 m pc ls (.ref bx :: rest)) := by
  obtain ⟨hx, hb, hr, hml, hown, hts, hX, hbl, hlocks, hgv⟩ := id C0
  obtain ⟨hK, hP, hD, hS, hn, hR, x0, hx0⟩ := id hG
  have hA : ∀ q : Nat, s.heap.size ≤ q → (fun q : Nat => s.heap.size ≤ q) q := fun _ h => h
  have htb : ∀ w ∈ ia_TB, w.before #[Value.ref b] s = true := fun w hw => hts w (List.mem_filter.mp hw).1
  obtain ⟨k1, k2, k3, k4, k6⟩ := ia_ok1i hok
  obtain ⟨kk, hk1, hk2⟩ := ia_pred k6
  obtain ⟨e1, e2, e3, e4, e5, e6, e7, e8⟩ := ia_okM_eq k1
  have hS' : ia_S sa (ws.map Prod.fst) [.inr (.inr (.inl (some kx)))] [.ref bx] := ⟨_, _, rfl, ⟨bx, hbx, rfl⟩, rfl⟩
  have hmet := ia_met 7 y2 _ σ n _ hcall k1 l D sa [.ref bx] ws tys H.size hS' hn hR
  have hcb : CallB room_1 s #[Value.ref b] (ia_own 18) i (ia_nm y2) (ia_code y2) (ia_maxL y2) (ia_ret y2) (ia_ws y2) (ia_rm 7 y2) (ia_mc y2) (ia_ms y2) kk := callB_of (Ts := lw_tbl) (ws' := ia_TB) kk hts (ia_good0 e2) (by rw [ia_ws, e1]) rfl rfl (htb _ e5) (htb _ k2) ⟨e6, e7, hk2⟩ ⟨by show 7 + 1 ≤ 2048; decide, by show 8 + (ia_maxL y2 + 11) + 100 * 7 ≤ 84000; omega⟩
  rw [k4.2] at hcb
  refine ia_after (va_runI (As := []) (rest := rest) (Ts := lw_tbl) (cc := code) (nL := 7) (own := ia_own 18) ⟨hx, hb, hml, hown, hts⟩ hmet ⟨hcb, k4.1, htb _ k3⟩ ⟨ia_blind, ia_pre N hK hP hD hS hA⟩ rfl (by show 0 = kk; omega) hls rfl (lv_room hrest) hd ⟨hc.1, hc.2⟩) hS (ia_free hD hS hA) (fun ov ws' tys' H1 locs1 q1 q2 q3 q4 q5 q6 q7 q8 => ?_)
  cases ov with
  | some v => cases q1
  | none => exact k H1 locs1 ws' tys' ⟨q6, q5, q7, q8, q2, q4, q3⟩
theorem ia_w0_R (sa : Nat × Nat) : ia_R sa [] ia_w0 [] := by
  intro k c0 h hn
  obtain ⟨r, h1, h2⟩ := ia_get2_eq h
  unfold ia_w0 at h1
  rw [List.getElem?_replicate] at h1
  split at h1
  · cases h1
    rw [List.getElem?_replicate] at h2
    split at h2
    · cases h2; exact absurd rfl hn
    · cases h2
  · cases h1
end LX3
end
section
-- out of the text that TURN prints of the program (names part): exceptions that leave a method; names of the library written out; vx_catch proved anew over the light library, vx_outP left out
/-! ===== BEGIN exceptions that leave a method, and their catching by the caller (launches without stack traces) ===== -/
section VXA
/-! The laws vx_back, vx_callV, vx_callS, vx_callSW, vx_throw0, vx_throwS follow proofs of the library, with one case more: JvmDerived/Free/Laws.lean (Back.of_free), Shelf42/LK1.lean (callV, callS), Shelf/KitTraced.lean (throwNew0V, throwNewS). -/
/-- where a method has thrown q: the class by its name, the cell, what was written, the world -/
def vx_T (XC : String → State → State → Prop) (st : State) (q : Addr) (t : State) (mc ms : Nat) (free : Addr → Prop) : Prop :=
  ∃ (E : String) (ce : Cell) (L : List Loc), XC E st t ∧ t.heap[q]? = some ce ∧ ce.vm = .none ∧ st.vm.findClass E = some ce.cls ∧ st.WarmedH t.vm ∧ st.sameButNew ({ t with vm := st.vm } : State) L mc ms ∧ ∀ z ∈ L, free z.base
def vx_Q (Qc : Array Value → State → Outcome → State → Prop) (XC : String → State → State → Prop) (mc ms : Nat) (free : Addr → Prop) : Array Value → State → Outcome → State → Prop := fun a st o t =>
  (Qc a st o t ∧ ∃ L, FrameEnd st o t L mc ms ∧ ∀ q ∈ L, free q.base) ∨ ∃ q, o = .threw q ∧ vx_T XC st q t mc ms free
/-- a callee that returns or throws -/
def vx_Met (l : Launch) (y : MethodName) (ws : List Cond) (rm : Room) (Pc : Array Value → State → Prop) (Qc : Array Value → State → Outcome → State → Prop) (XC : String → State → State → Prop) (mc ms : Nat) (free : Addr → Prop) : Prop :=
  MetFree l y (headSpec ws rm) Pc (fun _ _ _ _ _ => True) (vx_Q Qc XC mc ms free)
def vx_Post (XC : String → State → State → Prop) (mc ms : Nat) (free : Addr → Prop) : Pt → Array Value → Addr → Pt → Prop := fun A a q B =>
  ∃ (g : JFrame) (mk : MethodId) (t : State) (L : List Loc) (E : String) (ce : Cell), B.U.heap = t.heap ∧ B.U.vm = t.vm ∧ XC E (A.U.calling g mk a) t ∧ t.heap[q]? = some ce ∧ ce.vm = .none ∧ A.U.vm.findClass E = some ce.cls ∧ B.locs = A.locs ++ L ∧ (∀ z ∈ L, free z.base) ∧ B.cells = A.cells + mc ∧ B.slots = A.slots + ms
def vx_Back (l : Launch) (R : Room) (p : Program) (e : Env) (below : List Frame) (s : State) (sargs : Array Value) (y : MethodName) (len W9 : Nat)
    (Pre : Pt → Array Value → Prop) (Post : Pt → Array Value → Option Value → Pt → Prop) (PostX : Pt → Array Value → Addr → Pt → Prop) : Prop :=
  ∀ (m : MethodId) (meth : Method) (c : Code) (A : Pt) (g : JFrame) (ig : Instr) (mk : MethodId) (a : Array Value),
    Stand p l e R s m sargs below meth c A.U A.locs A.cells A.slots → g.method = m → g.locals.size = c.maxLocals → decode c.code g.pc = .ok (ig, len) →
    2 * g.monitorRoom + (g.stack.map fun v => v.category).sum ≤ W9 → A.U.methodNamed? y = some mk → Pre A a →
    (∃ (v : Option Value) (B : Pt), Stand p l e R s m sargs below meth c B.U B.locs B.cells B.slots ∧ Post A a v B ∧
      Steps p.tables e below (doInvoke e (A.U.setTop g) [] mk a).1 (B.U.setTop { g with pc := g.pc + len, stack := v.toList ++ g.stack })) ∨
    (∃ (q : Addr) (B : Pt), Stand p l e R s m sargs below meth c B.U B.locs B.cells B.slots ∧ PostX A a q B ∧
      Steps p.tables e below (doInvoke e (A.U.setTop g) [] mk a).1 ((B.U.setTop g).pushFrame (.throwing q)))
section Payer
variable {l : Launch} {R : Room} {p : Program} {e : Env} {below : List Frame} {s : State} {sargs : Array Value} {y : MethodName} {len W9 : Nat}
theorem vx_back {ws : List Cond} {rm : Room} {Pc : Array Value → State → Prop} {Qc : Array Value → State → Outcome → State → Prop} {XC : String → State → State → Prop} {mc ms : Nat} {free : Addr → Prop} {bytes : ByteArray} {maxL : Nat} {ret : Option FieldType}
    (hM : vx_Met l y ws rm Pc Qc XC mc ms free) (hblind : FrameBlind Pc) (hrc : rm.cells = mc) (hrs : rm.slots = ms)
    (hframes : rm.frames + 1 ≤ R.frames) (hlocals : W9 + (maxL + 11) + rm.locals ≤ R.locals)
    (hws : ∀ w ∈ ws, ∀ a' U, s.WarmedH U.vm → w.before a' U = true) (hcode : Cond.code y bytes maxL ret ∈ ws) (hinit : ∀ a' U, s.WarmedH U.vm → (Cond.initialized y.cls).before a' U = true) :
    vx_Back l R p e below s sargs y len W9 (PreOf R mc ms Pc) (PostOf Qc mc ms free) (vx_Post XC mc ms free) := by
  intro m meth c A g ig mk a X hg hsize hdg hW hn hp
  have h1 : (headSpec ws rm).pre.before a A.U = true := atoms_intro fun w hw => hws w hw _ _ X.warmed
  have h2 : (Cond.code y bytes maxL ret).before a A.U = true := hws _ hcode _ _ X.warmed
  have h3 : (Cond.initialized y.cls).before a A.U = true := hinit _ _ X.warmed
  have h4 : A.cells + (headSpec ws rm).room.cells ≤ R.cells := by rw [show (headSpec ws rm).room.cells = mc from hrc]; exact hp.1
  have h5 : A.slots + (headSpec ws rm).room.slots ≤ R.slots := by rw [show (headSpec ws rm).room.slots = ms from hrs]; exact hp.2.1
  have hPc : Pc a (A.U.calling g mk a) := hblind _ _ _ _ hp.2.2
  obtain ⟨U, Ls, c0, s0⟩ := A
  dsimp only [Pt.U, Pt.locs, Pt.cells, Pt.slots] at h1 h2 h3 h4 h5 X hn hPc ⊢
  obtain ⟨methY, cY, hmY, hcY, -, hlY, -, -, -, -⟩ := Cond.code_spec hn h2
  obtain ⟨kY, hkY, -⟩ := className_of_methodNamed hn
  have hinitY : kY.init = .initialized := Cond.initialized_spec (findClass_of_methodNamed hn) hkY h3
  have h : At U g.method c below := by rw [hg]; exact X.here
  have hlocals9 : W9 + (maxL + 11) + (headSpec ws rm).room.locals ≤ R.locals := hlocals
  have happ : (headSpec ws rm).appliesLoose y e.platform (U.calling g mk a) = true :=
    Spec.appliesLoose_calling (g := g) h hdg hn hkY hinitY
      (X.room_calling (g := g) (R' := (headSpec ws rm).room) hsize hmY hcY hframes (by rw [hlY]; omega) h4 h5) h1
  obtain ⟨mid, hmid⟩ := h.above
  have hfr : (U.setTop g).frames = (.java g :: mid) ++ below := by rw [State.frames_setTop' g h.top, hmid]; rfl
  obtain ⟨o, s₂, hsteps, -, hend, hq⟩ := Steps.callFree hM p X.admits X.cas X.clock (acts := []) hfr happ hPc trivial
  have hq' : vx_Q Qc XC mc ms free a (U.calling g mk a) o s₂ := hq
  rw [State.frames_setTop' g h.top] at hend
  obtain ⟨g₀, hg0⟩ := Option.isSome_iff_exists.mp h.top
  obtain ⟨r, hr⟩ := State.topJava?_eq_some.mp hg0
  have hr' : (({ U with heap := s₂.heap, slotsUsed := s₂.slotsUsed } : State).setVm s₂.vm).frames = .java g₀ :: r := hr
  rcases hq' with ⟨hqc, L, hfe, hL⟩ | ⟨q, rfl, E, ce, L, hx, hce, hcv, hcl, hW₂, hsm, hL⟩
  · obtain ⟨⟨v, rfl⟩, hW₂, e2, q2, q3, q4, q5, q6⟩ := id hfe
    have e3 : s₂ = ({ (U.calling g mk a).setFrames s₂.frames with heap := s₂.heap, slotsUsed := s₂.slotsUsed } : State).setVm s₂.vm := by
      have : s₂ = ({ s₂ with vm := (U.calling g mk a).vm } : State).setVm s₂.vm := rfl
      rw [e2] at this
      exact this
    obtain ⟨c₂, i₂, len₂, hc₂, hd₂, hf₂⟩ := hend
    have hW' : U.WarmedH s₂.vm := hW₂
    have hcc : c₂ = c := by
      have h1 : s₂.code? g.method = U.code? g.method := by
        rw [State.code?_eq, State.code?_eq, hW'.alike.method?]
      exact Option.some.inj (hc₂.symm.trans (h1.trans h.code))
    subst hcc
    have hlen : len₂ = len := by rw [hdg] at hd₂; cases hd₂; rfl
    subst hlen
    have hs₂ : s₂ = (({ U with heap := s₂.heap, slotsUsed := s₂.slotsUsed } : State).setVm s₂.vm).setTop { g with pc := g.pc + len₂, stack := v.toList ++ g.stack } := by
      refine e3.trans ?_
      rw [hf₂, State.calling_eq h.top, State.setFrames_setFrames, State.setTop_of_frames _ hr', hr]
      rfl
    have hsame : U.sameButNew ({ U with heap := s₂.heap, slotsUsed := s₂.slotsUsed } : State) L mc ms := by
      refine ⟨?_, q2, q3, q4, q5, q6⟩
      obtain ⟨t, ht, -⟩ := State.frames_cons hr
      show ({ U with heap := s₂.heap, slotsUsed := s₂.slotsUsed } : State) = { U.setFrames U.frames with heap := s₂.heap, slotsUsed := s₂.slotsUsed }
      rw [State.setFrames_self ht]
    subst hg
    refine Or.inl ⟨v, ⟨(({ U with heap := s₂.heap, slotsUsed := s₂.slotsUsed } : State).setVm s₂.vm), Ls ++ L, c0 + mc, s0 + ms⟩,
      ⟨X.admits, X.cas, X.clock, X.frames, X.room, X.hears, X.method, X.code, (X.here.setHeapUsed s₂.heap s₂.slotsUsed).setVm hW'.alike, X.tail, State.WarmedH.trans X.warmed hW', X.limits, X.bytes, X.same.trans (hsame.setVm s.vm)⟩,
      ⟨g, mk, s₂, L, rfl, rfl, hqc, rfl, hL, rfl, rfl⟩, ?_⟩
    show Steps p.tables e below _ ((({ U with heap := s₂.heap, slotsUsed := s₂.slotsUsed } : State).setVm s₂.vm).setTop { g with pc := g.pc + len₂, stack := v.toList ++ g.stack })
    rw [← hs₂]
    exact hsteps
  · obtain ⟨e2, q2, q3, q4, q5, q6⟩ := id hsm
    have e3 : s₂ = ({ (U.calling g mk a).setFrames s₂.frames with heap := s₂.heap, slotsUsed := s₂.slotsUsed } : State).setVm s₂.vm := by
      have : s₂ = ({ s₂ with vm := (U.calling g mk a).vm } : State).setVm s₂.vm := rfl
      rw [e2] at this
      exact this
    have hf₂ : s₂.frames = .throwing q :: .java g :: U.frames.tail := hend
    have hW' : U.WarmedH s₂.vm := hW₂
    have hs₂ : s₂ = ((({ U with heap := s₂.heap, slotsUsed := s₂.slotsUsed } : State).setVm s₂.vm).setTop g).pushFrame (.throwing q) := by
      refine e3.trans ?_
      rw [hf₂, State.calling_eq h.top, State.setFrames_setFrames, State.pushFrame, State.frames_setTop _ hr', State.setTop_of_frames _ hr', State.setFrames_setFrames, hr]
      rfl
    have hsame : U.sameButNew ({ U with heap := s₂.heap, slotsUsed := s₂.slotsUsed } : State) L mc ms := by
      refine ⟨?_, q2, q3, q4, q5, q6⟩
      obtain ⟨t, ht, -⟩ := State.frames_cons hr
      show ({ U with heap := s₂.heap, slotsUsed := s₂.slotsUsed } : State) = { U.setFrames U.frames with heap := s₂.heap, slotsUsed := s₂.slotsUsed }
      rw [State.setFrames_self ht]
    subst hg
    refine Or.inr ⟨q, ⟨(({ U with heap := s₂.heap, slotsUsed := s₂.slotsUsed } : State).setVm s₂.vm), Ls ++ L, c0 + mc, s0 + ms⟩,
      ⟨X.admits, X.cas, X.clock, X.frames, X.room, X.hears, X.method, X.code, (X.here.setHeapUsed s₂.heap s₂.slotsUsed).setVm hW'.alike, X.tail, State.WarmedH.trans X.warmed hW', X.limits, X.bytes, X.same.trans (hsame.setVm s.vm)⟩,
      ⟨g, mk, s₂, L, E, ce, rfl, rfl, hx, hce, hcv, hcl, rfl, hL, rfl, rfl⟩, ?_⟩
    show Steps p.tables e below _ (((({ U with heap := s₂.heap, slotsUsed := s₂.slotsUsed } : State).setVm s₂.vm).setTop g).pushFrame (.throwing q))
    rw [← hs₂]
    exact hsteps
end Payer
section Calls
variable {p : Program} {l : Launch} {e : Env} {R : Room} {s : State} {m : MethodId} {args : Array Value} {below : List Frame} {meth : Method} {c : Code} {T : State} {locs : List Loc} {cells slots : Nat}
theorem vx_callV (X : Stand p l e R s m args below meth c T locs cells slots) (hexec : p.tables.exec = Jvm.exec) {own C : String} {index : Nat} {y : MethodName} {bytes : ByteArray} {maxL : Nat} {ret : Option FieldType}
    (hown : s.vm.findClass own = some m.cls) (hlink : (Cond.methodLink own index y).before args s = true) (hinst : (Cond.instanceMethod y).before args s = true) (hsel : (Cond.selects C y y).before args s = true)
    (hcode : (Cond.code y bytes maxL ret).before args s = true) (hy : y.cls ≠ "java/lang/invoke/MethodHandle" ∧ y.cls ≠ "java/lang/invoke/VarHandle")
    {W9 : Nat} {Pre : Pt → Array Value → Prop} {Post : Pt → Array Value → Option Value → Pt → Prop} {PostX : Pt → Array Value → Addr → Pt → Prop} (hK : vx_Back l R p e below s args y 3 W9 Pre Post PostX)
    {b : Addr} {cellB : Cell} (hcell : T.heap[b]? = some cellB) (hobj : cellB.vm.isStatics = false) (hcls : s.vm.findClass C = some cellB.cls)
    {g : JFrame} (hg : g.method = m) (hsize : g.locals.size = c.maxLocals) {argsL rest : List Value} (hlen : ∀ sig, parseMethodDescriptor y.desc = some sig → argsL.length = sig.parameters.length)
    (hstack : g.stack = argsL.reverse ++ .ref b :: rest) (hW : 2 * g.monitorRoom + (rest.map fun v => v.category).sum ≤ W9) (hdg : decode c.code g.pc = .ok (.invokevirtual index, 3))
    (hpre : ∀ vm₁, s.WarmedH vm₁ → Pre ⟨T.setVm vm₁, locs, cells, slots⟩ (Value.ref b :: argsL).toArray) :
    (∃ (v : Option Value) (vm₁ : Vm) (B : Pt), s.WarmedH vm₁ ∧ Stand p l e R s m args below meth c B.U B.locs B.cells B.slots ∧ Post ⟨T.setVm vm₁, locs, cells, slots⟩ (Value.ref b :: argsL).toArray v B ∧
      ∀ target, Steps p.tables e below (B.U.setTop { g with pc := g.pc + 3, stack := v.toList ++ rest }) target → Steps p.tables e below (T.setTop g) target) ∨
    (∃ (q : Addr) (vm₁ : Vm) (B : Pt), s.WarmedH vm₁ ∧ Stand p l e R s m args below meth c B.U B.locs B.cells B.slots ∧ PostX ⟨T.setVm vm₁, locs, cells, slots⟩ (Value.ref b :: argsL).toArray q B ∧
      Steps p.tables e below (T.setTop g) ((B.U.setTop { g with stack := rest }).pushFrame (.throwing q))) := by
  obtain ⟨mk, methM, hnamed, hmethM, hstM, habM⟩ := Cond.instanceMethod_spec hinst
  obtain ⟨methM', cM, hmethM', -, -, -, -, -, -, hsigM⟩ := Cond.code_spec hnamed hcode
  cases hmethM.symm.trans hmethM'
  obtain ⟨c2, r2, m2, q1, q2, q3, q4, kP, hkP, hkPi⟩ := Cond.selects_spec hsel
  cases hcls.symm.trans q1
  cases (State.methodFound?_of_named hnamed hy).symm.trans q2
  cases hnamed.symm.trans q3
  have hselP : selectMethod e.platform s.vm cellB.cls mk = .method mk := by rw [Launch.admits_selectMethod X.admits]; exact q4
  obtain ⟨vm₁, X₁, hstep₁⟩ := X.invokevirtual hexec hown hlink hnamed hmethM hstM hkP hkPi hy (a := b) (cell := cellB) hcell
    (fun z h => by rw [h] at hobj; cases hobj) hselP hmethM habM hkP hkPi (g := g) hg (argsL := argsL) (rest := rest) (hlen _ hsigM) hstack hdg
  rcases hK m meth c ⟨T.setVm vm₁, locs, cells, slots⟩ { g with stack := rest } (.invokevirtual index) mk (Value.ref b :: argsL).toArray X₁ hg hsize hdg hW (X₁.named hnamed) (hpre vm₁ X₁.warmed) with ⟨v, B, X', hpost, hsteps⟩ | ⟨q, B, X', hpost, hsteps⟩
  · exact Or.inl ⟨v, vm₁, B, X₁.warmed, X', hpost, fun target h => hstep₁ _ fun acts => by rw [doInvoke_state]; exact hsteps.trans h⟩
  · exact Or.inr ⟨q, vm₁, B, X₁.warmed, X', hpost, hstep₁ _ fun acts => by rw [doInvoke_state]; exact hsteps⟩
theorem vx_callS (X : Stand p l e R s m args below meth c T locs cells slots) (hexec : p.tables.exec = Jvm.exec) {own : String} {index : Nat} {y : MethodName} {bytes : ByteArray} {maxL : Nat} {ret : Option FieldType}
    (hown : s.vm.findClass own = some m.cls) (hlink : (Cond.methodLink own index y).before args s = true) (hstat : (Cond.static y).before args s = true) (hinit : (Cond.initialized y.cls).before args s = true)
    (hcode : (Cond.code y bytes maxL ret).before args s = true) (hy : y.cls ≠ "java/lang/invoke/MethodHandle" ∧ y.cls ≠ "java/lang/invoke/VarHandle")
    {W9 : Nat} {Pre : Pt → Array Value → Prop} {Post : Pt → Array Value → Option Value → Pt → Prop} {PostX : Pt → Array Value → Addr → Pt → Prop} (hK : vx_Back l R p e below s args y 3 W9 Pre Post PostX)
    {g : JFrame} (hg : g.method = m) (hsize : g.locals.size = c.maxLocals) {argsL rest : List Value} (hlen : ∀ sig, parseMethodDescriptor y.desc = some sig → argsL.length = sig.parameters.length)
    (hstack : g.stack = argsL.reverse ++ rest) (hW : 2 * g.monitorRoom + (rest.map fun v => v.category).sum ≤ W9) (hdg : decode c.code g.pc = .ok (.invokestatic index, 3))
    (hpre : ∀ vm₁, s.WarmedH vm₁ → Pre ⟨T.setVm vm₁, locs, cells, slots⟩ argsL.toArray) :
    (∃ (v : Option Value) (vm₁ : Vm) (B : Pt), s.WarmedH vm₁ ∧ Stand p l e R s m args below meth c B.U B.locs B.cells B.slots ∧ Post ⟨T.setVm vm₁, locs, cells, slots⟩ argsL.toArray v B ∧
      ∀ target, Steps p.tables e below (B.U.setTop { g with pc := g.pc + 3, stack := v.toList ++ rest }) target → Steps p.tables e below (T.setTop g) target) ∨
    (∃ (q : Addr) (vm₁ : Vm) (B : Pt), s.WarmedH vm₁ ∧ Stand p l e R s m args below meth c B.U B.locs B.cells B.slots ∧ PostX ⟨T.setVm vm₁, locs, cells, slots⟩ argsL.toArray q B ∧
      Steps p.tables e below (T.setTop g) ((B.U.setTop { g with stack := rest }).pushFrame (.throwing q))) := by
  obtain ⟨mk, hnamed⟩ := Cond.code_named hcode
  obtain ⟨methM, cM, hmethM, -, -, -, -, -, -, hsigM⟩ := Cond.code_spec hnamed hcode
  have hstatic : methM.isStatic = true := Cond.static_spec hnamed hmethM hstat
  obtain ⟨kP, hkP, -⟩ := className_of_methodNamed hnamed
  have hinitP : kP.init = .initialized := Cond.initialized_spec (findClass_of_methodNamed hnamed) hkP hinit
  obtain ⟨vm₁, X₁, hstep₁⟩ := X.invokestatic hexec hown hlink hnamed hmethM hstatic hkP hinitP hy (g := g) hg (argsL := argsL) (rest := rest) (hlen _ hsigM) hstack hdg
  rcases hK m meth c ⟨T.setVm vm₁, locs, cells, slots⟩ { g with stack := rest } (.invokestatic index) mk argsL.toArray X₁ hg hsize hdg hW (X₁.named hnamed) (hpre vm₁ X₁.warmed) with ⟨v, B, X', hpost, hsteps⟩ | ⟨q, B, X', hpost, hsteps⟩
  · exact Or.inl ⟨v, vm₁, B, X₁.warmed, X', hpost, fun target h => hstep₁ _ fun acts => by rw [doInvoke_state]; exact hsteps.trans h⟩
  · exact Or.inr ⟨q, vm₁, B, X₁.warmed, X', hpost, hstep₁ _ fun acts => by rw [doInvoke_state]; exact hsteps⟩
end Calls
theorem vx_cls {s : State} {T : State} {vm₁ : Vm} {E : String} {k : ClassId} (hW : s.WarmedH vm₁) (h : (T.setVm vm₁).vm.findClass E = some k) : s.vm.findClass E = some k := by
  have h1 : vm₁.findClass E = some k := h
  rw [hW.alike.findClass] at h1
  exact h1
/-- the method's frame g, with q thrown over it -/
def vx_W (p : Program) (l : Launch) (e : Env) (R : Room) (s : State) (m : MethodId) (args : Array Value) (below : List Frame) (meth : Method) (c : Code) (H : Heap) (locs : List Loc) (cells slots : Nat) (Q : State → Prop) (g : JFrame) (q : Addr) : Prop :=
  ∀ T : State, T.heap = H → Stand p l e R s m args below meth c T locs cells slots → ∃ t, Steps p.tables e below ((T.setTop g).pushFrame (.throwing q)) t ∧ Q t
def vx_Run (p : Program) (l : Launch) (e : Env) (R : Room) (s : State) (m : MethodId) (args : Array Value) (below : List Frame) (meth : Method) (c : Code) (H : Heap) (locs : List Loc) (cells slots mc ms : Nat) (g : JFrame) (rest : List Value) (Qa : State → Outcome → State → Prop) (XC : String → State → State → Prop) (free : Addr → Prop) : Prop :=
  ∀ T : State, T.heap = H → Stand p l e R s m args below meth c T locs cells slots →
    (∃ (v : Option Value) (st₀ t T' : State) (L : List Loc), st₀.heap = H ∧ Stand p l e R s m args below meth c T' (locs ++ L) (cells + mc) (slots + ms) ∧ (∀ q ∈ L, free q.base) ∧ T'.heap = t.heap ∧ T'.vm = t.vm ∧ Qa st₀ (.returned v) t ∧
      Goes p e below T g T' { g with pc := g.pc + 3, stack := v.toList ++ rest }) ∨
    (∃ (q : Addr) (st₀ t T' : State) (L : List Loc) (E : String) (ce : Cell), st₀.heap = H ∧ Stand p l e R s m args below meth c T' (locs ++ L) (cells + mc) (slots + ms) ∧ (∀ z ∈ L, free z.base) ∧ T'.heap = t.heap ∧ T'.vm = t.vm ∧ XC E st₀ t ∧ t.heap[q]? = some ce ∧ ce.vm = .none ∧ s.vm.findClass E = some ce.cls ∧
      Steps p.tables e below (T.setTop g) ((T'.setTop { g with stack := rest }).pushFrame (.throwing q)))
def vx_X {S : Type} (px : S → Prop) (B : String → S → State → Prop) (A : Nat → Prop) : String → State → State → Prop := fun E st t => ∃ u : S, px u ∧ B E u t ∧ va_F A st t
section Runs
variable {p : Program} {l : Launch} {e : Env} {R : Room} {s : State} {m : MethodId} {args : Array Value} {below : List Frame} {meth : Method} {c : Code} {H : Heap} {locs : List Loc} {cells slots : Nat}
variable {y : MethodName} {bytes cc : ByteArray} {maxL nL mc ms n index : Nat} {ret : Option FieldType} {ws : List Cond} {rm : Room} {Pc : Array Value → State → Prop} {Qc : Array Value → State → Outcome → State → Prop} {XC : String → State → State → Prop} {free : Addr → Prop} {Ts : List Cond} {own C : String} {b : Addr} {As rest : List Value} {g : JFrame}
theorem vx_callBack (cb : CallB R s args own index y bytes maxL ret ws rm mc ms n) (hM : vx_Met l y ws rm Pc Qc XC mc ms free) (hbl : FrameBlind Pc) : vx_Back l R p e below s args y 3 8 (PreOf R mc ms Pc) (PostOf Qc mc ms free) (vx_Post XC mc ms free) := by
  obtain ⟨hrc, hrs, hfr, hlo, hws, hcw, -, hini, -⟩ := cb
  exact vx_back (bytes := bytes) (maxL := maxL) (ret := ret) hM hbl hrc hrs hfr hlo hws hcw (fun a' U hW => word_at hW (Or.inl (by first | rfl | simp [Cond.onTables, Cond.keeps, Cond.steady])) hini)
theorem vx_runV (S : CallFix p m c cc nL s args Ts own) (hM : vx_Met l y ws rm Pc Qc XC mc ms free) (cw : CallW R s args own C index y bytes maxL ret ws rm mc ms n) (hp : PreV s H C b Pc As)
    (hg : g.method = m) (hn : As.length = n) (hsize : g.locals.size = nL) (hstack : g.stack = As.reverse ++ .ref b :: rest) (hW : 2 * g.monitorRoom + (rest.map fun v => v.category).sum ≤ 8) (hdg : decode cc g.pc = .ok (.invokevirtual index, 3)) (hf : cells + mc ≤ R.cells ∧ slots + ms ≤ R.slots) :
    vx_Run p l e R s m args below meth c H locs cells slots mc ms g rest (Qc (Value.ref b :: As).toArray) XC free := by
  have hK : vx_Back l R p e below s args y 3 8 (PreOf R mc ms Pc) (PostOf Qc mc ms free) (vx_Post XC mc ms free) := vx_callBack cw.1 hM hp.1
  obtain ⟨⟨-, -, -, -, -, -, hcode, -, hy, hlen, hl⟩, hin, hse⟩ := cw
  obtain ⟨hx, hb, hml, ho, -⟩ := S
  obtain ⟨-, ⟨cellB, hcB, hoB, hclB⟩, hPc⟩ := hp
  intro T hT X
  rcases vx_callV X hx (C := C) (bytes := bytes) (maxL := maxL) (ret := ret) ho hl hin hse hcode hy hK (by rw [hT]; exact hcB) hoB hclB hg (hsize.trans hml.symm) (argsL := As) (rest := rest) (fun sig h => hn.trans (hlen sig h)) hstack hW (by rw [hb]; exact hdg)
    (fun vm₁ hW₁ => ⟨hf.1, hf.2, hPc (T.setVm vm₁) hT hW₁⟩) with ⟨v, vm₁, ⟨U', l2, c2, s2⟩, hW₁, X', ⟨g', mk, t, L, e1, e2, hq, h1, hL, h2, h3⟩, st⟩ | ⟨q, vm₁, ⟨U', l2, c2, s2⟩, hW₁, X', ⟨g', mk, t, L, E, ce, e1, e2, hq, hce, hcv, hcl, h1, hL, h2, h3⟩, st⟩
  · dsimp only [Pt.U, Pt.locs, Pt.cells, Pt.slots] at X' e1 e2 h1 h2 h3 st
    subst h1; subst h2; subst h3
    exact Or.inl ⟨v, (T.setVm vm₁).calling g' mk (Value.ref b :: As).toArray, t, U', L, hT, X', hL, e1, e2, hq, st⟩
  · dsimp only [Pt.U, Pt.locs, Pt.cells, Pt.slots] at X' e1 e2 h1 h2 h3 st hcl
    subst h1; subst h2; subst h3
    exact Or.inr ⟨q, (T.setVm vm₁).calling g' mk (Value.ref b :: As).toArray, t, U', L, E, ce, hT, X', hL, e1, e2, hq, hce, hcv, vx_cls hW₁ hcl, st⟩
theorem vx_runS (S : CallFix p m c cc nL s args Ts own) (hM : vx_Met l y ws rm Pc Qc XC mc ms free) (cw : CallB R s args own index y bytes maxL ret ws rm mc ms n ∧ (Cond.static y).before args s = true) (hp : PreS s H Pc As)
    (hg : g.method = m) (hn : As.length = n) (hsize : g.locals.size = nL) (hstack : g.stack = As.reverse ++ rest) (hW : 2 * g.monitorRoom + (rest.map fun v => v.category).sum ≤ 8) (hdg : decode cc g.pc = .ok (.invokestatic index, 3)) (hf : cells + mc ≤ R.cells ∧ slots + ms ≤ R.slots) :
    vx_Run p l e R s m args below meth c H locs cells slots mc ms g rest (Qc As.toArray) XC free := by
  have hK : vx_Back l R p e below s args y 3 8 (PreOf R mc ms Pc) (PostOf Qc mc ms free) (vx_Post XC mc ms free) := vx_callBack cw.1 hM hp.1
  obtain ⟨⟨-, -, -, -, -, -, hcode, hini, hy, hlen, hl⟩, hstt⟩ := cw
  obtain ⟨hx, hb, hml, ho, -⟩ := S
  intro T hT X
  rcases vx_callS X hx (bytes := bytes) (maxL := maxL) (ret := ret) ho hl hstt hini hcode hy hK hg (hsize.trans hml.symm) (argsL := As) (rest := rest) (fun sig h => hn.trans (hlen sig h)) hstack hW (by rw [hb]; exact hdg)
    (fun vm₁ hW₁ => ⟨hf.1, hf.2, hp.2 (T.setVm vm₁) hT hW₁⟩) with ⟨v, vm₁, ⟨U', l2, c2, s2⟩, hW₁, X', ⟨g', mk, t, L, e1, e2, hq, h1, hL, h2, h3⟩, st⟩ | ⟨q, vm₁, ⟨U', l2, c2, s2⟩, hW₁, X', ⟨g', mk, t, L, E, ce, e1, e2, hq, hce, hcv, hcl, h1, hL, h2, h3⟩, st⟩
  · dsimp only [Pt.U, Pt.locs, Pt.cells, Pt.slots] at X' e1 e2 h1 h2 h3 st
    subst h1; subst h2; subst h3
    exact Or.inl ⟨v, (T.setVm vm₁).calling g' mk As.toArray, t, U', L, hT, X', hL, e1, e2, hq, st⟩
  · dsimp only [Pt.U, Pt.locs, Pt.cells, Pt.slots] at X' e1 e2 h1 h2 h3 st hcl
    subst h1; subst h2; subst h3
    exact Or.inr ⟨q, (T.setVm vm₁).calling g' mk As.toArray, t, U', L, E, ce, hT, X', hL, e1, e2, hq, hce, hcv, vx_cls hW₁ hcl, st⟩
end Runs
section Rows
variable {p : Program} {l : Launch} {e : Env} {R : Room} {s : State} {m : MethodId} {args : Array Value} {below : List Frame} {meth : Method} {c : Code} {H : Heap} {locs : List Loc} {cells slots : Nat} {Q : State → Prop}
variable {mc ms : Nat} {free : Addr → Prop} {A0 A1 : Nat → Prop} {H0 : Heap} {a : Array Value} {pc : Nat} {ls : Array Slot} {st0 rest : List Value}
theorem vx_keep {st₀ t T' : State} {L : List Loc} (h0 : st₀.heap = H) (e1 : T'.heap = t.heap) (hS : va_S A0 H0 H locs) (hA : ∀ q, q < H.size → A1 q → A0 q) (hf : ∀ q, free q → A0 q) (hL : ∀ q ∈ L, free q.base) (hF : va_F A1 st₀ t) :
    H.size ≤ T'.heap.size ∧ (∀ q : Nat, q < H.size → ¬ A1 q → T'.heap[q]? = H[q]?) ∧ va_S A0 H0 T'.heap (locs ++ L) := by
  obtain ⟨hz, hk⟩ := hF
  rw [h0] at hz hk
  exact ⟨by rw [e1]; exact hz, fun q h1 h2 => by rw [e1]; exact hk q h1 h2,
    ⟨Nat.le_trans hS.1 (by rw [e1]; exact hz), fun q h1 h2 => by rw [e1, hk q (Nat.lt_of_lt_of_le h1 hS.1) (fun z => h2 (hA q (Nat.lt_of_lt_of_le h1 hS.1) z))]; exact hS.2.1 q h1 h2, fun q hq => by
      rcases List.mem_append.mp hq with h | h
      · exact hS.2.2 q h
      · exact hf _ (hL q h)⟩⟩
theorem vx_calli {S SX : Type} {post : Int32 → S → Prop} {px : SX → Prop} {B : S → State → Prop} {BX : String → SX → State → Prop} {AX : Nat → Prop} (hr : vx_Run p l e R s m args below meth c H locs cells slots mc ms (F0 m pc ls st0) rest (va_Qi post B A1 a) (vx_X px BX AX) free) (hS : va_S A0 H0 H locs) (hA : ∀ q, q < H.size → A1 q → A0 q) (hf : ∀ q, free q → A0 q) (hAX : ∀ q, q < H.size → AX q → A0 q)
    (kx : ∀ (E : String) (ce : Cell) (q9 : Addr) (u : SX) (t : State) (H1 : Heap) (locs1 : List Loc), t.heap = H1 → s.vm.Alike t.vm → px u → BX E u t → H.size ≤ H1.size → (∀ q : Nat, q < H.size → ¬ AX q → H1[q]? = H[q]?) → va_S A0 H0 H1 locs1 → H1[q9]? = some ce → ce.vm = .none → s.vm.findClass E = some ce.cls → vx_W p l e R s m args below meth c H1 locs1 (cells + mc) (slots + ms) Q (F0 m pc ls rest) q9)
    (kk : ∀ (r : Int32) (u : S) (t : State) (H1 : Heap) (locs1 : List Loc), t.heap = H1 → s.vm.Alike t.vm → post r u → B u t → H.size ≤ H1.size → (∀ q : Nat, q < H.size → ¬ A1 q → H1[q]? = H[q]?) → va_S A0 H0 H1 locs1 → W p l e R s m args below meth c H1 locs1 (cells + mc) (slots + ms) Q (F0 m (pc + 3) ls (.int r :: rest))) : W p l e R s m args below meth c H locs cells slots Q (F0 m pc ls st0) := by
  intro T hT X
  rcases hr T hT X with ⟨v, st₀, t, T', L, h0, X', hL, e1, e2, ⟨⟨r, u, hv, hp, hb⟩, hF⟩, st⟩ | ⟨q, st₀, t, T', L, E, ce, h0, X', hL, e1, e2, ⟨u, hp, hb, hF⟩, hce, hcv, hcl, st⟩
  · cases hv
    obtain ⟨k1, k2, k3⟩ := vx_keep h0 e1 hS hA hf hL hF
    obtain ⟨t2, a1, b1⟩ := kk r u t T'.heap (locs ++ L) e1.symm (by rw [← e2]; exact X'.warmed.alike) hp hb k1 k2 k3 T' rfl X'
    exact ⟨t2, st t2 a1, b1⟩
  · obtain ⟨k1, k2, k3⟩ := vx_keep h0 e1 hS hAX hf hL hF
    obtain ⟨t2, a1, b1⟩ := kx E ce q u t T'.heap (locs ++ L) e1.symm (by rw [← e2]; exact X'.warmed.alike) hp hb k1 k2 k3 (by rw [e1]; exact hce) hcv hcl T' rfl X'
    exact ⟨t2, st.trans a1, b1⟩
theorem vx_calll {S SX : Type} {post : Int64 → S → Prop} {px : SX → Prop} {B : S → State → Prop} {BX : String → SX → State → Prop} {AX : Nat → Prop} (hr : vx_Run p l e R s m args below meth c H locs cells slots mc ms (F0 m pc ls st0) rest (va_Ql post B A1 a) (vx_X px BX AX) free) (hS : va_S A0 H0 H locs) (hA : ∀ q, q < H.size → A1 q → A0 q) (hf : ∀ q, free q → A0 q) (hAX : ∀ q, q < H.size → AX q → A0 q)
    (kx : ∀ (E : String) (ce : Cell) (q9 : Addr) (u : SX) (t : State) (H1 : Heap) (locs1 : List Loc), t.heap = H1 → s.vm.Alike t.vm → px u → BX E u t → H.size ≤ H1.size → (∀ q : Nat, q < H.size → ¬ AX q → H1[q]? = H[q]?) → va_S A0 H0 H1 locs1 → H1[q9]? = some ce → ce.vm = .none → s.vm.findClass E = some ce.cls → vx_W p l e R s m args below meth c H1 locs1 (cells + mc) (slots + ms) Q (F0 m pc ls rest) q9)
    (kk : ∀ (r : Int64) (u : S) (t : State) (H1 : Heap) (locs1 : List Loc), t.heap = H1 → s.vm.Alike t.vm → post r u → B u t → H.size ≤ H1.size → (∀ q : Nat, q < H.size → ¬ A1 q → H1[q]? = H[q]?) → va_S A0 H0 H1 locs1 → W p l e R s m args below meth c H1 locs1 (cells + mc) (slots + ms) Q (F0 m (pc + 3) ls (.long r :: rest))) : W p l e R s m args below meth c H locs cells slots Q (F0 m pc ls st0) := by
  intro T hT X
  rcases hr T hT X with ⟨v, st₀, t, T', L, h0, X', hL, e1, e2, ⟨⟨r, u, hv, hp, hb⟩, hF⟩, st⟩ | ⟨q, st₀, t, T', L, E, ce, h0, X', hL, e1, e2, ⟨u, hp, hb, hF⟩, hce, hcv, hcl, st⟩
  · cases hv
    obtain ⟨k1, k2, k3⟩ := vx_keep h0 e1 hS hA hf hL hF
    obtain ⟨t2, a1, b1⟩ := kk r u t T'.heap (locs ++ L) e1.symm (by rw [← e2]; exact X'.warmed.alike) hp hb k1 k2 k3 T' rfl X'
    exact ⟨t2, st t2 a1, b1⟩
  · obtain ⟨k1, k2, k3⟩ := vx_keep h0 e1 hS hAX hf hL hF
    obtain ⟨t2, a1, b1⟩ := kx E ce q u t T'.heap (locs ++ L) e1.symm (by rw [← e2]; exact X'.warmed.alike) hp hb k1 k2 k3 (by rw [e1]; exact hce) hcv hcl T' rfl X'
    exact ⟨t2, st.trans a1, b1⟩
theorem vx_callf {S SX : Type} {post : UInt32 → S → Prop} {px : SX → Prop} {B : S → State → Prop} {BX : String → SX → State → Prop} {AX : Nat → Prop} (hr : vx_Run p l e R s m args below meth c H locs cells slots mc ms (F0 m pc ls st0) rest (va_Qf post B A1 a) (vx_X px BX AX) free) (hS : va_S A0 H0 H locs) (hA : ∀ q, q < H.size → A1 q → A0 q) (hf : ∀ q, free q → A0 q) (hAX : ∀ q, q < H.size → AX q → A0 q)
    (kx : ∀ (E : String) (ce : Cell) (q9 : Addr) (u : SX) (t : State) (H1 : Heap) (locs1 : List Loc), t.heap = H1 → s.vm.Alike t.vm → px u → BX E u t → H.size ≤ H1.size → (∀ q : Nat, q < H.size → ¬ AX q → H1[q]? = H[q]?) → va_S A0 H0 H1 locs1 → H1[q9]? = some ce → ce.vm = .none → s.vm.findClass E = some ce.cls → vx_W p l e R s m args below meth c H1 locs1 (cells + mc) (slots + ms) Q (F0 m pc ls rest) q9)
    (kk : ∀ (r : UInt32) (u : S) (t : State) (H1 : Heap) (locs1 : List Loc), t.heap = H1 → s.vm.Alike t.vm → post r u → B u t → H.size ≤ H1.size → (∀ q : Nat, q < H.size → ¬ A1 q → H1[q]? = H[q]?) → va_S A0 H0 H1 locs1 → W p l e R s m args below meth c H1 locs1 (cells + mc) (slots + ms) Q (F0 m (pc + 3) ls (.float r :: rest))) : W p l e R s m args below meth c H locs cells slots Q (F0 m pc ls st0) := by
  intro T hT X
  rcases hr T hT X with ⟨v, st₀, t, T', L, h0, X', hL, e1, e2, ⟨⟨r, u, hv, hp, hb⟩, hF⟩, st⟩ | ⟨q, st₀, t, T', L, E, ce, h0, X', hL, e1, e2, ⟨u, hp, hb, hF⟩, hce, hcv, hcl, st⟩
  · cases hv
    obtain ⟨k1, k2, k3⟩ := vx_keep h0 e1 hS hA hf hL hF
    obtain ⟨t2, a1, b1⟩ := kk r u t T'.heap (locs ++ L) e1.symm (by rw [← e2]; exact X'.warmed.alike) hp hb k1 k2 k3 T' rfl X'
    exact ⟨t2, st t2 a1, b1⟩
  · obtain ⟨k1, k2, k3⟩ := vx_keep h0 e1 hS hAX hf hL hF
    obtain ⟨t2, a1, b1⟩ := kx E ce q u t T'.heap (locs ++ L) e1.symm (by rw [← e2]; exact X'.warmed.alike) hp hb k1 k2 k3 (by rw [e1]; exact hce) hcv hcl T' rfl X'
    exact ⟨t2, st.trans a1, b1⟩
theorem vx_calld {S SX : Type} {post : UInt64 → S → Prop} {px : SX → Prop} {B : S → State → Prop} {BX : String → SX → State → Prop} {AX : Nat → Prop} (hr : vx_Run p l e R s m args below meth c H locs cells slots mc ms (F0 m pc ls st0) rest (va_Qd post B A1 a) (vx_X px BX AX) free) (hS : va_S A0 H0 H locs) (hA : ∀ q, q < H.size → A1 q → A0 q) (hf : ∀ q, free q → A0 q) (hAX : ∀ q, q < H.size → AX q → A0 q)
    (kx : ∀ (E : String) (ce : Cell) (q9 : Addr) (u : SX) (t : State) (H1 : Heap) (locs1 : List Loc), t.heap = H1 → s.vm.Alike t.vm → px u → BX E u t → H.size ≤ H1.size → (∀ q : Nat, q < H.size → ¬ AX q → H1[q]? = H[q]?) → va_S A0 H0 H1 locs1 → H1[q9]? = some ce → ce.vm = .none → s.vm.findClass E = some ce.cls → vx_W p l e R s m args below meth c H1 locs1 (cells + mc) (slots + ms) Q (F0 m pc ls rest) q9)
    (kk : ∀ (r : UInt64) (u : S) (t : State) (H1 : Heap) (locs1 : List Loc), t.heap = H1 → s.vm.Alike t.vm → post r u → B u t → H.size ≤ H1.size → (∀ q : Nat, q < H.size → ¬ A1 q → H1[q]? = H[q]?) → va_S A0 H0 H1 locs1 → W p l e R s m args below meth c H1 locs1 (cells + mc) (slots + ms) Q (F0 m (pc + 3) ls (.double r :: rest))) : W p l e R s m args below meth c H locs cells slots Q (F0 m pc ls st0) := by
  intro T hT X
  rcases hr T hT X with ⟨v, st₀, t, T', L, h0, X', hL, e1, e2, ⟨⟨r, u, hv, hp, hb⟩, hF⟩, st⟩ | ⟨q, st₀, t, T', L, E, ce, h0, X', hL, e1, e2, ⟨u, hp, hb, hF⟩, hce, hcv, hcl, st⟩
  · cases hv
    obtain ⟨k1, k2, k3⟩ := vx_keep h0 e1 hS hA hf hL hF
    obtain ⟨t2, a1, b1⟩ := kk r u t T'.heap (locs ++ L) e1.symm (by rw [← e2]; exact X'.warmed.alike) hp hb k1 k2 k3 T' rfl X'
    exact ⟨t2, st t2 a1, b1⟩
  · obtain ⟨k1, k2, k3⟩ := vx_keep h0 e1 hS hAX hf hL hF
    obtain ⟨t2, a1, b1⟩ := kx E ce q u t T'.heap (locs ++ L) e1.symm (by rw [← e2]; exact X'.warmed.alike) hp hb k1 k2 k3 (by rw [e1]; exact hce) hcv hcl T' rfl X'
    exact ⟨t2, st.trans a1, b1⟩
theorem vx_callv {S SX : Type} {post : S → Prop} {px : SX → Prop} {B : S → State → Prop} {BX : String → SX → State → Prop} {AX : Nat → Prop} (hr : vx_Run p l e R s m args below meth c H locs cells slots mc ms (F0 m pc ls st0) rest (va_Qv post B A1 a) (vx_X px BX AX) free) (hS : va_S A0 H0 H locs) (hA : ∀ q, q < H.size → A1 q → A0 q) (hf : ∀ q, free q → A0 q) (hAX : ∀ q, q < H.size → AX q → A0 q)
    (kx : ∀ (E : String) (ce : Cell) (q9 : Addr) (u : SX) (t : State) (H1 : Heap) (locs1 : List Loc), t.heap = H1 → s.vm.Alike t.vm → px u → BX E u t → H.size ≤ H1.size → (∀ q : Nat, q < H.size → ¬ AX q → H1[q]? = H[q]?) → va_S A0 H0 H1 locs1 → H1[q9]? = some ce → ce.vm = .none → s.vm.findClass E = some ce.cls → vx_W p l e R s m args below meth c H1 locs1 (cells + mc) (slots + ms) Q (F0 m pc ls rest) q9)
    (kk : ∀ (u : S) (t : State) (H1 : Heap) (locs1 : List Loc), t.heap = H1 → s.vm.Alike t.vm → post u → B u t → H.size ≤ H1.size → (∀ q : Nat, q < H.size → ¬ A1 q → H1[q]? = H[q]?) → va_S A0 H0 H1 locs1 → W p l e R s m args below meth c H1 locs1 (cells + mc) (slots + ms) Q (F0 m (pc + 3) ls (rest))) : W p l e R s m args below meth c H locs cells slots Q (F0 m pc ls st0) := by
  intro T hT X
  rcases hr T hT X with ⟨v, st₀, t, T', L, h0, X', hL, e1, e2, ⟨⟨u, hv, hp, hb⟩, hF⟩, st⟩ | ⟨q, st₀, t, T', L, E, ce, h0, X', hL, e1, e2, ⟨u, hp, hb, hF⟩, hce, hcv, hcl, st⟩
  · cases hv
    obtain ⟨k1, k2, k3⟩ := vx_keep h0 e1 hS hA hf hL hF
    obtain ⟨t2, a1, b1⟩ := kk u t T'.heap (locs ++ L) e1.symm (by rw [← e2]; exact X'.warmed.alike) hp hb k1 k2 k3 T' rfl X'
    exact ⟨t2, st t2 a1, b1⟩
  · obtain ⟨k1, k2, k3⟩ := vx_keep h0 e1 hS hAX hf hL hF
    obtain ⟨t2, a1, b1⟩ := kx E ce q u t T'.heap (locs ++ L) e1.symm (by rw [← e2]; exact X'.warmed.alike) hp hb k1 k2 k3 (by rw [e1]; exact hce) hcv hcl T' rfl X'
    exact ⟨t2, st.trans a1, b1⟩
/-- caught by the first row x of this method's table -/
theorem ex_find {e : Env} {s : State} {f : JFrame} {a : Addr} {meth : Method} {co : Code} {x : ExceptionTableEntry} {t : List ExceptionTableEntry} {k : ClassId} {cell : Cell} (hm : s.vm.method? f.method = some meth) (hc : meth.code = some co) (hs : co.exceptionTable.toList = x :: t) (hx : covers x f.pc = true) (h0 : x.catchType ≠ 0) (hl : s.vm.ClassLinks e.platform f.method.cls x.catchType k) (hcell : s.heap[a]? = some cell) (hobj : ∀ k, cell.vm ≠ .statics k) (hk : ∃ q, s.vm.classes[cell.cls]? = some q) (hkc : ∃ q, s.vm.classes[k]? = some q) (hfit : s.vm.assignable cell.cls k = true) (Q : Handler → Pre) (E : CtlPost) (d : Bool) (acts : List Action) : wp (findHandler f a) Q E e d acts s ↔ Q (.found x.handlerPc) d acts (s.setVm (s.vm.noted f.method.cls x.catchType (.cls k))) := by
  rw [_root_.Jvm.W.findHandler_eq hm hc, hs]
  have hx' : (decide (x.startPc ≤ f.pc) && decide (f.pc < x.endPc)) = true := hx
  have hal : s.vm.Alike (s.vm.noted f.method.cls x.catchType (.cls k)) := (Vm.Alike.refl s.vm).noted _ _ _
  obtain ⟨q1, hq1⟩ := hk
  obtain ⟨q2, hq2⟩ := hkc
  obtain ⟨r1, hr1, -⟩ := hal.2.2 _ _ hq1
  obtain ⟨r2, hr2, -⟩ := hal.2.2 _ _ hq2
  have hfit9 : (s.vm.noted f.method.cls x.catchType (.cls k)).assignable cell.cls k = true := by rw [hal.assignable]; exact hfit
  obtain ⟨g1, g2⟩ := (resolveClass_links e.toSetting hl).op (op := VmOp.resolveClass f.method.cls x.catchType) rfl
  simp [findHandler.go, hx', h0, g1, g2, hcell, hobj, hr1, hr2, hfit9, VmOp.dirties, VmOp.acts]
theorem vx_catch {own name : String} {E : String} {ce : Cell} {q : Addr} (hown : s.vm.findClass own = some m.cls) (x : ExceptionTableEntry) (suf : List ExceptionTableEntry) (hsplit : c.exceptionTable.toList = x :: suf) (hx : covers x pc = true) (h0 : x.catchType ≠ 0)
    (hlink : (Cond.classLink own x.catchType name).before args s = true) (hcast : (Cond.castable E name).before args s = true) (hcell : H[q]? = some ce) (hv : ce.vm = .none) (hcl : s.vm.findClass E = some ce.cls)
    (kk : W p l e R s m args below meth c H locs cells slots Q (F0 m x.handlerPc ls [.ref q])) : vx_W p l e R s m args below meth c H locs cells slots Q (F0 m pc ls rest) q := by
  intro T hT X
  have hpl : e.platform.magicAccessors = ({} : Platform).magicAccessors := by rw [X.admits.platform]
  obtain ⟨c3, c4, hc3, hc4, hasg⟩ := Cond.castable_spec hcast
  cases Option.some.inj (hc3.symm.trans hcl)
  obtain ⟨c5, hc5, hcl5⟩ := Cond.classLink_spec hown hlink e.platform hpl
  cases Option.some.inj (hc4.symm.trans hc5)
  obtain ⟨dk, _, _, kt, hd, _, _, _, _, hkt, _, hopen⟩ := hcl5.here
  have hW' : s.WarmedH (T.vm.noted m.cls x.catchType (.cls c4)) := X.warmed.noted hd hopen (State.rightAt_cls hcl5)
  have hal := X.warmed.alike
  obtain ⟨kt', hkt', -⟩ := hal.2.2 _ _ hkt
  have hfit' : T.vm.assignable ce.cls c4 = true := by rw [hal.assignable]; exact hasg
  obtain ⟨t, a1, b1⟩ := kk (T.setVm (T.vm.noted m.cls x.catchType (.cls c4))) hT (X.noted hW')
  refine ⟨t, ?_, b1⟩
  have hh : At T (F0 m pc ls rest).method c below := X.here
  have hfd := ex_find (e := e) (s := (T.setTop (F0 m pc ls rest)).pushFrame (.throwing q)) (f := F0 m pc ls rest) (a := q) (meth := meth) (co := c) (x := x) (t := suf) (k := c4) (cell := ce) X.method' X.code hsplit hx h0 (X.warmed.classLinks hcl5) (by show T.heap[q]? = some ce; rw [hT]; exact hcell) (VmData.ne_statics_of (by rw [hv]; rfl)) (Vm.classAt_of_assignable hfit' ⟨kt', hkt'⟩) ⟨kt', hkt'⟩ hfit'
  have hstep : (stepThrowing e ((T.setTop (F0 m pc ls rest)).pushFrame (.throwing q)) q (.java (F0 m pc ls rest) :: T.frames.tail)).1 = ((((T.setTop (F0 m pc ls rest)).pushFrame (.throwing q)).setVm (T.vm.noted m.cls x.catchType (.cls c4))).setFrames (.java (F0 m x.handlerPc ls [.ref q]) :: T.frames.tail)) := by
    simp only [stepThrowing, searchFrame, vmDo]
    generalize hr : Sem.go _ e false [] ((T.setTop (F0 m pc ls rest)).pushFrame (.throwing q)) = res
    obtain ⟨as, rfl, ha⟩ := Sem.eq_ok_of hr (a := Handler.found x.handlerPc) (s' := ((T.setTop (F0 m pc ls rest)).pushFrame (.throwing q)).setVm (T.vm.noted m.cls x.catchType (.cls c4))) (acts' := []) (by simp [hfd]; rfl)
    rfl
  obtain ⟨hgo, hw⟩ := hh.throwing q
  refine Steps.head hgo hw ?_
  rw [stepThread_throwing (frames_entered hh.top _), hstep]
  obtain ⟨g₀, hg⟩ := Option.isSome_iff_exists.mp hh.top
  obtain ⟨r, hr⟩ := State.topJava?_eq_some.mp hg
  have hr' : (T.setVm (T.vm.noted m.cls x.catchType (.cls c4))).frames = .java g₀ :: r := hr
  rw [State.setTop_of_frames _ hr'] at a1
  have e1 : (((T.setTop (F0 m pc ls rest)).pushFrame (.throwing q)).setVm (T.vm.noted m.cls x.catchType (.cls c4))).setFrames (.java (F0 m x.handlerPc ls [.ref q]) :: T.frames.tail) = (T.setVm (T.vm.noted m.cls x.catchType (.cls c4))).setFrames (.java (F0 m x.handlerPc ls [.ref q]) :: r) := by
    rw [State.pushFrame, State.setTop_of_frames _ hr, hr]
    rw [show ∀ (u : State) (F : List Frame) (vm : Vm), (u.setFrames F).setVm vm = (u.setVm vm).setFrames F from fun _ _ _ => rfl, show ∀ (u : State) (F : List Frame) (vm : Vm), (u.setFrames F).setVm vm = (u.setVm vm).setFrames F from fun _ _ _ => rfl, State.setFrames_setFrames, State.setFrames_setFrames]
    rfl
  rw [e1]
  exact a1
end Rows
section Ends
variable {p : Program} {l : Launch} {e : Env} {R : Room} {s : State} {m : MethodId} {args : Array Value} {below : List Frame} {meth : Method} {c : Code} {H : Heap} {locs : List Loc} {cells slots : Nat} {Q : State → Prop}
variable {mc ms : Nat} {free : Addr → Prop} {A0 A1 : Nat → Prop} {H0 : Heap} {a : Array Value} {ls : Array Slot} {st0 rest : List Value}
variable {Qc : Array Value → State → Outcome → State → Prop} {XC : String → State → State → Prop}
/-- what a body that may throw owes at its end -/
def vx_MQ (below : List Frame) (Qc : Array Value → State → Outcome → State → Prop) (XC : String → State → State → Prop) (a : Array Value) (s : State) (mc ms : Nat) (free : Addr → Prop) : State → Prop := fun t =>
  ∃ o, t.status = .running ∧ Ended t below o ∧ vx_Q Qc XC mc ms free a s o t
theorem vx_ret {g : JFrame} {mc ms : Nat} (k : W p l e R s m args below meth c H locs cells slots (MQ below Qc args s mc ms free) g) : W p l e R s m args below meth c H locs cells slots (vx_MQ below Qc XC args s mc ms free) g := by
  intro T hT X
  obtain ⟨t, a1, o, b1, b2, b3, b4⟩ := k T hT X
  exact ⟨t, a1, o, b1, b2, Or.inl ⟨b3, b4⟩⟩
/-- not caught here: it goes on to the caller -/
theorem vx_widen {g : JFrame} {q : Addr} {k n : Nat} (h1 : cells ≤ k) (h2 : slots ≤ n) (kk : vx_W p l e R s m args below meth c H locs k n Q g q) : vx_W p l e R s m args below meth c H locs cells slots Q g q := fun T hT X => kk T hT (stand_widen X h1 h2)
theorem vx_out {pc : Nat} {E : String} {ce : Cell} {q : Addr} {mc ms : Nat} (hout : ∀ x ∈ c.exceptionTable.toList, covers x pc = false) (hlocks : meth.locks = false) (hcell : H[q]? = some ce) (hv : ce.vm = .none) (hcl : s.vm.findClass E = some ce.cls)
    (hx : ∀ t : State, t.heap = H → s.vm.Alike t.vm → XC E s t) (hf : ∀ z ∈ locs, free z.base) (hc : cells ≤ mc) (hs : slots ≤ ms) :
    vx_W p l e R s m args below meth c H locs cells slots (vx_MQ below Qc XC args s mc ms free) (F0 m pc ls rest) q := by
  intro T hT X
  obtain ⟨st1, hrun, hend, hW, hsm⟩ := X.leaveThrown q (g := F0 m pc ls rest) rfl rfl rfl hout hlocks
  have hcell9 : (T.setFrames (.throwing q :: below)).heap[q]? = some ce := by
    show T.heap[q]? = some ce
    rw [hT]; exact hcell
  exact ⟨_, st1, .threw q, hrun, hend, Or.inr ⟨q, rfl, E, ce, locs, hx _ hT hW.alike, hcell9, hv, hcl, hW, hsm.mono hc hs, hf⟩⟩
theorem vx_frame {U : State} {k n : Nat} (h : s.sameButNew ({ U with vm := s.vm } : State) locs k n) : s.heap.size ≤ U.heap.size ∧ ∀ q : Nat, q < s.heap.size → (∀ z ∈ locs, z.base ≠ q) → U.heap[q]? = s.heap[q]? := by
  obtain ⟨-, h2, -, -, -, h6⟩ := h
  refine ⟨h2, fun q hq hz => ?_⟩
  obtain ⟨c9, e1, e2, e3, e4⟩ := h6 q _ (Array.getElem?_eq_getElem hq)
  have hs : c9.slots = (s.heap[q]).slots := Array.ext_getElem? fun i => e4 i fun hm => hz _ hm rfl
  have h9 : c9 = s.heap[q] := by
    rw [hs] at e2
    exact e2
  have e5 : U.heap[q]? = some c9 := e1
  rw [e5, h9, Array.getElem?_eq_getElem hq]
/-- the words of a throw but the four that speak of the heap -/
def vx_no (w : Cond) : Bool := decide (w ≠ .isRef (.static Bundle.tN "UNASSIGNED_STACK" Bundle.steD)) && decide (w ≠ .isRef (.static Bundle.tN "SUPPRESSED_SENTINEL" Bundle.listD)) && decide (w ≠ .laysStatic Bundle.tN "UNASSIGNED_STACK" Bundle.steD) && decide (w ≠ .laysStatic Bundle.tN "SUPPRESSED_SENTINEL" Bundle.listD)
def vx_at0 (own : String) (ic : Nat) (X : String) (names : List String) : List Cond := (Bundle.ownAtoms0 own ic X names).filter vx_no
def vx_atS (own : String) (ic : Nat) (X : String) (names : List String) : List Cond := (Bundle.ownAtoms own ic X names).filter vx_no
/-- a word that the tables alone decide, or a good one -/
def vx_ot (w : Cond) : Bool := w.onTables || goodWord w
theorem vx_ot_at {args a' : Array Value} {s U : State} {w : Cond} (hW : s.WarmedH U.vm) (hvm : s.vm = U.vm) (hg : vx_ot w = true) (h : w.before args s = true) : w.before a' U = true := by
  simp only [vx_ot, Bool.or_eq_true] at hg
  rcases hg with hg | hg
  · exact va_tabs hg hvm h
  · exact word_at hW (good_of_word hg) h
/-- a list's words: the good ones out of the method's own list, the others by premises of their own -/
theorem vx_hat {args : Array Value} {s : State} {L B : List Cond} (h1 : ∀ w ∈ L.filter goodWord, w.before args s = true) (h2 : ∀ w ∈ L.filter (fun w => !goodWord w), w ∈ B) (h3 : ∀ w ∈ B, w.before args s = true) : ∀ w ∈ L, w.before args s = true := by
  intro w hw
  by_cases g : goodWord w = true
  · exact h1 w (List.mem_filter.mpr ⟨hw, g⟩)
  · refine h3 w (h2 w (List.mem_filter.mpr ⟨hw, ?_⟩))
    show (!goodWord w) = true
    cases hgw : goodWord w
    · rfl
    · exact absurd hgw g
theorem vx_c {args : Array Value} {s : State} {w : Cond} {B : List Cond} (h : w.before args s = true) (t : ∀ w ∈ B, w.before args s = true) : ∀ w' ∈ w :: B, w'.before args s = true := fun w' h' => (List.mem_cons.mp h').elim (fun e => by rw [e]; exact h) (t w')
theorem vx_n {args : Array Value} {s : State} : ∀ w ∈ ([] : List Cond), w.before args s = true := fun _ h => nomatch h
theorem vx_own {args : Array Value} {s : State} {L : List Cond} (h1 : ∀ w ∈ L.filter vx_no, w.before args s = true)
    (hU : (Cond.isRef (.static Bundle.tN "UNASSIGNED_STACK" Bundle.steD)).before args s = true) (hN : (Cond.isRef (.static Bundle.tN "SUPPRESSED_SENTINEL" Bundle.listD)).before args s = true)
    (lU : (Cond.laysStatic Bundle.tN "UNASSIGNED_STACK" Bundle.steD).before args s = true) (lN : (Cond.laysStatic Bundle.tN "SUPPRESSED_SENTINEL" Bundle.listD).before args s = true) : ∀ w ∈ L, w.before args s = true := by
  intro w hw
  by_cases e1 : w = .isRef (.static Bundle.tN "UNASSIGNED_STACK" Bundle.steD)
  · rw [e1]; exact hU
  · by_cases e2 : w = .isRef (.static Bundle.tN "SUPPRESSED_SENTINEL" Bundle.listD)
    · rw [e2]; exact hN
    · by_cases e3 : w = .laysStatic Bundle.tN "UNASSIGNED_STACK" Bundle.steD
      · rw [e3]; exact lU
      · by_cases e4 : w = .laysStatic Bundle.tN "SUPPRESSED_SENTINEL" Bundle.listD
        · rw [e4]; exact lN
        · exact h1 w (List.mem_filter.mpr ⟨hw, by unfold vx_no; rw [decide_eq_true e1, decide_eq_true e2, decide_eq_true e3, decide_eq_true e4]; rfl⟩)
/-- where a static field lies, its class's statics cell in H -/
def vx_L (C n d : String) (A : Nat → Prop) (U : State) (H : Heap) : Prop := ∃ (c : ClassId) (k : Class) (i : Nat) (f : Field) (a : Nat) (cell : Cell), U.vm.findClass C = some c ∧ U.fieldFound? C n d = some (c, k, i, f) ∧ f.isStatic = true ∧ k.statics = some a ∧ H[a]? = some cell ∧ cell.vm.isStatics = true ∧ cell.cls = c ∧ f.slot < cell.slots.size ∧ k.staticTypes[f.slot]? = some f.type ∧ ¬ A a
theorem vx_L.moved {C n d : String} {A : Nat → Prop} {u U : State} {H : Heap} (hvm : u.vm.Alike U.vm) (h : vx_L C n d A u H) : vx_L C n d A U H := by
  obtain ⟨c, k, i, f, a, cell, h1, h2, h3, h4, h5, h6, h7, h8, h9, h10⟩ := h
  obtain ⟨k', hi', he⟩ := State.fieldFound?_setVm hvm h2
  exact ⟨c, k', i, f, a, cell, by rw [hvm.findClass]; exact h1, hi', h3, by rw [he]; exact h4, h5, h6, h7, h8, by rw [he]; exact h9, h10⟩
theorem vx_L.kept {C n d : String} {A : Nat → Prop} {U : State} {H H1 : Heap} (h : vx_L C n d A U H) (hq : ∀ a : Nat, a < H.size → ¬ A a → H1[a]? = H[a]?) : vx_L C n d A U H1 := by
  obtain ⟨c, k, i, f, a, cell, h1, h2, h3, h4, h5, h6, h7, h8, h9, h10⟩ := h
  exact ⟨c, k, i, f, a, cell, h1, h2, h3, h4, by rw [hq a (Array.getElem?_eq_some_iff.mp h5).1 h10]; exact h5, h6, h7, h8, h9, h10⟩
theorem vx_L.narrow {C n d : String} {A B : Nat → Prop} {U : State} {H : Heap} (h : vx_L C n d A U H) (hAB : ∀ q, B q → A q) : vx_L C n d B U H := by
  obtain ⟨c, k, i, f, a, cell, h1, h2, h3, h4, h5, h6, h7, h8, h9, h10⟩ := h
  exact ⟨c, k, i, f, a, cell, h1, h2, h3, h4, h5, h6, h7, h8, h9, fun z => h10 (hAB _ z)⟩
theorem vx_L.word {C n d : String} {A : Nat → Prop} {s : State} {args : Array Value} (h : vx_L C n d A s s.heap) : (Cond.laysStatic C n d).before args s = true := by
  obtain ⟨c, k, i, f, a, cell, h1, h2, h3, h4, h5, h6, h7, h8, h9, -⟩ := h
  show (Cond.laysStatic C n d).holds args s none s [] = true
  exact Cond.laysStatic_of h1 h2 h3 h4 h5 h6 h7 h8 h9
/-- .. and what it holds: null or some reference -/
def vx_Zq (C n d : String) (A : Nat → Prop) (U : State) (H : Heap) : Prop := va_Zq C n d A U H ∧ vx_L C n d A U H
theorem vx_Zq.moved {C n d : String} {A : Nat → Prop} {u U : State} {H : Heap} (hvm : u.vm.Alike U.vm) (h : vx_Zq C n d A u H) : vx_Zq C n d A U H := ⟨va_Zq.moved hvm h.1, vx_L.moved hvm h.2⟩
theorem vx_Zq.kept {C n d : String} {A : Nat → Prop} {U : State} {H H1 : Heap} (h : vx_Zq C n d A U H) (hq : ∀ a : Nat, a < H.size → ¬ A a → H1[a]? = H[a]?) : vx_Zq C n d A U H1 := ⟨va_Zq.kept h.1 hq, vx_L.kept h.2 hq⟩
theorem vx_Zq.narrow {C n d : String} {A B : Nat → Prop} {U : State} {H : Heap} (h : vx_Zq C n d A U H) (hAB : ∀ q, B q → A q) : vx_Zq C n d B U H := ⟨va_Zq.narrow h.1 hAB, vx_L.narrow h.2 hAB⟩
theorem vx_Zqof {args : Array Value} {s : State} {C n d : String} {A : Nat → Prop} (hl : (Cond.laysStatic C n d).before args s = true) (hini : (Cond.initialized C).before args s = true) (h : (Cond.isRef (.static C n d)).before args s = true) (hA : ∀ a : Nat, a < s.heap.size → ¬ A a) : vx_Zq C n d A s s.heap := by
  refine ⟨va_Zqof hl hini h hA, ?_⟩
  obtain ⟨c, k, i, f, a, cell, h1, h2, h3, h4, h5, h6, h7, h8, h9⟩ := Cond.laysStatic_spec hl
  exact ⟨c, k, i, f, a, cell, h1, h2, h3, h4, h5, h6, h7, h8, h9, hA a (Array.getElem?_eq_some_iff.mp h5).1⟩
theorem vx_isRef {C n d : String} {v : Value} {A : Nat → Prop} {s : State} {args : Array Value} (h : va_Z C n d v A s s.heap) (hv : v.isRef = true) : (Cond.isRef (.static C n d)).before args s = true := by
  obtain ⟨cf, kf, fi, f, a, cell, h1, h2, h3, h4, h5, h6, h7, -⟩ := h
  have he : (Term.static C n d).eval args s none [] s = some v := by
    simp [Term.eval, State.fieldNamed?, h1, h2, h4, h5, h6, h7]
  simp only [Cond.before, Cond.holds, Cond.value, he]
  cases v <;> simp_all [Value.isRef]
theorem vx_isRefq {C n d : String} {A : Nat → Prop} {s : State} {args : Array Value} (h : va_Zq C n d A s s.heap) : (Cond.isRef (.static C n d)).before args s = true := by
  rcases h with h | ⟨t, h⟩
  · exact vx_isRef h rfl
  · exact vx_isRef h rfl
/-- the same frame, seen from here: as if the method were called anew in this heap -/
theorem vx_rebase {T : State} (X : Stand p l e R s m args below meth c T locs cells slots) {R' : Room} (hf : R'.frames ≤ R.frames) (hl : R'.locals ≤ R.locals) (hc : cells + R'.cells ≤ R.cells) (hs : slots + R'.slots ≤ R.slots) :
    Stand p l e R' ((T.setVm s.vm).setFrames (.invoking m args :: below)) m args below meth c T [] 0 0 := by
  have htop : (T.setVm s.vm).topJava?.isSome := X.here.top
  have hF : ((T.setVm s.vm).setFrames (.invoking m args :: below)).frames = .invoking m args :: below := State.frames_setFrames _ (State.cur_lt_of_top htop)
  obtain ⟨g₀, hg0⟩ := Option.isSome_iff_exists.mp htop
  obtain ⟨r, hr⟩ := State.topJava?_eq_some.mp hg0
  have hl9 : e.platform.stackLimits (T.setVm s.vm).me = e.platform.stackLimits s.me := X.limits
  have hb9 : (T.setVm s.vm).me.stackBytes = s.me.stackBytes := X.bytes
  refine ⟨X.admits, X.cas, X.clock, hF, ?_, X.hears, X.method, X.code, X.here, X.tail, X.warmed, ?_, ?_, ?_⟩
  · have h := X.room
    have hU : ((T.setVm s.vm).setFrames (.invoking m args :: below)).localsInUse = s.localsInUse := by
      rw [State.localsInUse_invoking hF (meth := meth) (c := c) X.method X.code, State.localsInUse_invoking X.frames X.method X.code]
    simp only [State.hasRoom, Bool.and_eq_true, decide_eq_true_eq] at h ⊢
    obtain ⟨⟨⟨⟨h1, h2, h3, h4, h5, h6⟩, h7⟩, h8⟩, h9⟩ := h
    rw [X.frames, List.length_cons] at h2 h3
    have q1 := X.heapSize
    have q2 := X.used
    simp only [hF, hU, List.length_cons, State.stackLimits_setFrames, State.stackBytes_setFrames, hl9, hb9]
    refine ⟨⟨⟨⟨by omega, by omega, by omega, by omega, by omega, h6⟩, ?_⟩, ?_⟩, X.book⟩
    · show T.heap.size + R'.cells ≤ e.platform.maxCells
      omega
    · show T.slotsUsed + R'.slots ≤ e.platform.maxSlots
      omega
  · rw [State.stackLimits_setFrames]; rfl
  · rw [State.stackBytes_setFrames]; rfl
  · refine ⟨?_, Nat.le_refl _, Nat.le_refl _, ?_, ?_, fun a c9 h9 => ⟨c9, h9, rfl, rfl, fun _ _ => rfl⟩⟩
    · obtain ⟨t, ht, -⟩ := State.frames_cons hr
      show T.setVm s.vm = { ((T.setVm s.vm).setFrames (.invoking m args :: below)).setFrames (T.setVm s.vm).frames with heap := T.heap, slotsUsed := T.slotsUsed }
      rw [State.setFrames_setFrames, State.setFrames_self ht]
      rfl
    · show T.slotsUsed = T.slotsUsed + ((T.heap.toList.drop T.heap.size).map (·.slots.size)).sum
      rw [List.drop_eq_nil_of_le (Nat.le_of_eq Array.length_toList)]
      rfl
    · show ((T.heap.toList.drop T.heap.size).map (·.slots.size)).sum ≤ 0
      rw [List.drop_eq_nil_of_le (Nat.le_of_eq Array.length_toList)]
      exact Nat.le_refl _
/-- 'throw new E()': new; dup; invokespecial; athrow -/
theorem vx_throw0 {cc : ByteArray} {pc : Nat} (hexec : p.tables.exec = Jvm.exec) (hb : c.code = cc) (hl : l.stackTraces = false) {own cls : String} {names : List String} {ik ic mc ms : Nat} {A : Nat → Prop}
    (hown : s.vm.findClass own = some m.cls) (hcls : Bundle.fit cls = true) (hnames : ∀ n ∈ names, Bundle.fit n = true)
    (hk : (Cond.classLink own ik cls).before args s = true) (hini : (Cond.initialized cls).before args s = true) (hat : ∀ w ∈ vx_at0 own ic cls names, w.before args s = true)
    (hgood : ∀ w ∈ Cond.classLink own ik cls :: Cond.initialized cls :: vx_at0 own ic cls names, vx_ot w = true)
    (hU : vx_Zq Bundle.tN "UNASSIGNED_STACK" Bundle.steD A s s.heap) (hN : vx_Zq Bundle.tN "SUPPRESSED_SENTINEL" Bundle.listD A s s.heap) (hS : va_S A s.heap H locs) (hsize : ls.size = c.maxLocals)
    (d0 : decode cc pc = .ok (.new ik, 3)) (d3 : decode cc (pc + 3) = .ok (.dup, 1)) (d4 : decode cc (pc + 4) = .ok (.invokespecial ic, 3)) (d7 : decode cc (pc + 7) = .ok (.athrow, 1))
    (hout : ∀ x ∈ c.exceptionTable.toList, covers x (pc + 7) = false)
    (hRframes : names.length + 3 < R.frames) (hRlocals : (rest.map fun v => v.category).sum + (13 * (names.length + 1) + 42) ≤ R.locals) (hRcells : cells + 1 ≤ R.cells) (hRslots : slots + 6 ≤ R.slots) (hlocks : meth.locks = false)
    (hx : ∀ t : State, s.vm.Alike t.vm → H.size ≤ t.heap.size → (∀ q : Nat, q < H.size → t.heap[q]? = H[q]?) → XC cls s t)
    (hf : ∀ z ∈ locs, free z.base) (hc : cells + 1 ≤ mc) (hs : slots + 6 ≤ ms) :
    W p l e R s m args below meth c H locs cells slots (vx_MQ below Qc XC args s mc ms free) (F0 m pc ls rest) := by
  intro T hT X
  have htr : e.platform.stackTraces = false := (show e.platform.stackTraces = l.stackTraces by rw [X.admits.platform]).trans hl
  have Y := vx_rebase X (R' := { frames := R.frames, locals := R.locals, cells := 1, slots := 6 }) (Nat.le_refl _) (Nat.le_refl _) hRcells hRslots
  obtain ⟨s', hA⟩ : ∃ z, z = (T.setVm s.vm).setFrames (.invoking m args :: below) := ⟨_, rfl⟩
  rw [← hA] at Y
  have hvm : s'.vm = s.vm := by rw [hA]; rfl
  have hhp : s'.heap = H := by rw [hA]; exact hT
  have hW0 : s.WarmedH s'.vm := by rw [hvm]; exact State.WarmedH.refl s
  have hat' : ∀ w ∈ vx_at0 own ic cls names, w.before args s' = true := fun w hw => vx_ot_at hW0 hvm.symm (hgood w (List.mem_cons_of_mem _ (List.mem_cons_of_mem _ hw))) (hat w hw)
  have hk' : (Cond.classLink own ik cls).before args s' = true := vx_ot_at hW0 hvm.symm (hgood _ List.mem_cons_self) hk
  have hini' : (Cond.initialized cls).before args s' = true := vx_ot_at hW0 hvm.symm (hgood _ (List.mem_cons_of_mem _ List.mem_cons_self)) hini
  have hU' : vx_Zq Bundle.tN "UNASSIGNED_STACK" Bundle.steD A s' s'.heap := by rw [hhp]; exact vx_Zq.moved hW0.alike (hU.kept hS.2.1)
  have hN' : vx_Zq Bundle.tN "SUPPRESSED_SENTINEL" Bundle.listD A s' s'.heap := by rw [hhp]; exact vx_Zq.moved hW0.alike (hN.kept hS.2.1)
  have h : ∀ w ∈ Bundle.ownAtoms0 own ic cls names, w.before args s' = true := vx_own hat' (vx_isRefq hU'.1) (vx_isRefq hN'.1) hU'.2.word hN'.2.word
  have hown' : s'.vm.findClass own = some m.cls := by rw [hvm]; exact hown
  have hins : (Cond.instantiable cls 6).before args s' = true := h _ (by simp [Bundle.ownAtoms0])
  obtain ⟨vm₁, cX, kX, hfX, hkX, -, -, X₁, st1⟩ := Y.newCold hexec (own := own) (C := cls) (index := ik) (n := 6) hown' hk' hins hini'
    (g := F0 m pc ls rest) rfl (by rw [hb]; exact d0) (Nat.le_refl _) (Nat.le_refl _)
  generalize hT1 : (T.setVm vm₁).pushCell { cls := cX, slots := kX.instanceTypes.map defaultValue, vm := .none } = T1 at X₁ st1
  have hcat : (Value.ref T.heap.size).category = 1 := rfl
  have hcellA : T1.heap[T.heap.size]? = some (freshCell cX kX) := by rw [← hT1]; exact State.heap_pushCell_size _ _
  have d3' : decode c.code (pc + 3) = .ok (.dup, 1) := by rw [hb]; exact d3
  obtain ⟨U, hsteps, hrun, hend, hW, hsame, ce, hce, hO⟩ := X₁.ctorThrow0 hexec htr (own := own) (cls := cls) (names := names) (ic := ic) hown' hcls hnames h (fun x hx => nomatch hx) hfX hkX hcellA (by rw [hhp, hT]; exact Nat.le_refl _)
    (g := { method := m, pc := pc + 4, locals := ls, stack := .ref T.heap.size :: .ref T.heap.size :: rest, locked := none }) rfl hsize rfl rfl (rest := rest) rfl
    (by rw [hb]; exact d4) (by rw [hb]; exact d7) hout hRframes (by simp only [List.map_cons, List.sum_cons, hcat]; omega) hlocks
  obtain ⟨f1, f2⟩ := vx_frame hsame
  rw [hhp] at f1 f2
  have hWs : s.WarmedH U.vm := State.WarmedH.trans hW0 hW
  have hcl : s.vm.findClass cls = some ce.cls := by
    have h9 := hO.cls
    rw [hvm] at h9
    exact h9
  have hall : s.sameButNew ({ U with vm := s.vm } : State) locs mc ms := by
    subst hA
    obtain ⟨e1, e2⟩ := hsame
    rw [State.setFrames_setFrames] at e1
    have h2 : (T.setVm s.vm).sameButNew ({ U with vm := s.vm } : State) [] (0 + 1) (0 + 6) := ⟨e1, e2⟩
    have h3 := X.same.trans h2
    rw [List.append_nil] at h3
    exact h3.mono hc hs
  refine ⟨U, ?_, .threw T.heap.size, hrun, hend, Or.inr ⟨T.heap.size, rfl, cls, ce, locs, hx U hWs.alike f1 (fun q hq => f2 q hq (fun z hz => nomatch hz)), hce, hO.vm, hcl, hWs, hall, hf⟩⟩
  refine st1 _ ?_
  show Steps p.tables e below (T1.setTop { method := m, pc := pc + 3, locals := ls, stack := .ref T.heap.size :: rest, locked := none }) _
  jvm_step X₁.here [X₁.here.top, hexec, d3', Value.category]
  exact hsteps
/-- 'throw new E("text")': new; dup; ldc; invokespecial; athrow -/
theorem vx_throwS {cc : ByteArray} {pc : Nat} (hexec : p.tables.exec = Jvm.exec) (hb : c.code = cc) (hl : l.stackTraces = false) {own cls text : String} {names : List String} {ik is ic mc ms sa : Nat} {A : Nat → Prop}
    (hown : s.vm.findClass own = some m.cls) (hcls : Bundle.fit cls = true) (hnames : ∀ n ∈ names, Bundle.fit n = true)
    (hk : (Cond.classLink own ik cls).before args s = true) (hini : (Cond.initialized cls).before args s = true) (hstr : vk_R own is text sa s) (hat : ∀ w ∈ vx_atS own ic cls names, w.before args s = true)
    (hgood : ∀ w ∈ Cond.classLink own ik cls :: Cond.initialized cls :: vx_atS own ic cls names, vx_ot w = true)
    (hU : vx_Zq Bundle.tN "UNASSIGNED_STACK" Bundle.steD A s s.heap) (hN : vx_Zq Bundle.tN "SUPPRESSED_SENTINEL" Bundle.listD A s s.heap) (hS : va_S A s.heap H locs) (hsize : ls.size = c.maxLocals)
    (d0 : decode cc pc = .ok (.new ik, 3)) (d3 : decode cc (pc + 3) = .ok (.dup, 1)) (d4 : decode cc (pc + 4) = .ok (.ldc is, 2)) (d6 : decode cc (pc + 6) = .ok (.invokespecial ic, 3)) (d9 : decode cc (pc + 9) = .ok (.athrow, 1))
    (hout : ∀ x ∈ c.exceptionTable.toList, covers x (pc + 9) = false)
    (hRframes : names.length + 3 < R.frames) (hRlocals : (rest.map fun v => v.category).sum + (13 * (names.length + 1) + 43) ≤ R.locals) (hRcells : cells + 1 ≤ R.cells) (hRslots : slots + 6 ≤ R.slots) (hlocks : meth.locks = false)
    (hx : ∀ t : State, s.vm.Alike t.vm → H.size ≤ t.heap.size → (∀ q : Nat, q < H.size → t.heap[q]? = H[q]?) → XC cls s t)
    (hf : ∀ z ∈ locs, free z.base) (hc : cells + 1 ≤ mc) (hs : slots + 6 ≤ ms) :
    W p l e R s m args below meth c H locs cells slots (vx_MQ below Qc XC args s mc ms free) (F0 m pc ls rest) := by
  intro T hT X
  have htr : e.platform.stackTraces = false := (show e.platform.stackTraces = l.stackTraces by rw [X.admits.platform]).trans hl
  have Y := vx_rebase X (R' := { frames := R.frames, locals := R.locals, cells := 1, slots := 6 }) (Nat.le_refl _) (Nat.le_refl _) hRcells hRslots
  obtain ⟨s', hA⟩ : ∃ z, z = (T.setVm s.vm).setFrames (.invoking m args :: below) := ⟨_, rfl⟩
  rw [← hA] at Y
  have hvm : s'.vm = s.vm := by rw [hA]; rfl
  have hhp : s'.heap = H := by rw [hA]; exact hT
  have hW0 : s.WarmedH s'.vm := by rw [hvm]; exact State.WarmedH.refl s
  have hat' : ∀ w ∈ vx_atS own ic cls names, w.before args s' = true := fun w hw => vx_ot_at hW0 hvm.symm (hgood w (List.mem_cons_of_mem _ (List.mem_cons_of_mem _ hw))) (hat w hw)
  have hk' : (Cond.classLink own ik cls).before args s' = true := vx_ot_at hW0 hvm.symm (hgood _ List.mem_cons_self) hk
  have hini' : (Cond.initialized cls).before args s' = true := vx_ot_at hW0 hvm.symm (hgood _ (List.mem_cons_of_mem _ List.mem_cons_self)) hini
  have hU' : vx_Zq Bundle.tN "UNASSIGNED_STACK" Bundle.steD A s' s'.heap := by rw [hhp]; exact vx_Zq.moved hW0.alike (hU.kept hS.2.1)
  have hN' : vx_Zq Bundle.tN "SUPPRESSED_SENTINEL" Bundle.listD A s' s'.heap := by rw [hhp]; exact vx_Zq.moved hW0.alike (hN.kept hS.2.1)
  have h : ∀ w ∈ Bundle.ownAtoms own ic cls names, w.before args s' = true := vx_own hat' (vx_isRefq hU'.1) (vx_isRefq hN'.1) hU'.2.word hN'.2.word
  have hown' : s'.vm.findClass own = some m.cls := by rw [hvm]; exact hown
  have hins : (Cond.instantiable cls 6).before args s' = true := h _ (by simp [Bundle.ownAtoms])
  obtain ⟨vm₁, cX, kX, hfX, hkX, -, -, X₁, st1⟩ := Y.newCold hexec (own := own) (C := cls) (index := ik) (n := 6) hown' hk' hins hini'
    (g := F0 m pc ls rest) rfl (by rw [hb]; exact d0) (Nat.le_refl _) (Nat.le_refl _)
  generalize hT1 : (T.setVm vm₁).pushCell { cls := cX, slots := kX.instanceTypes.map defaultValue, vm := .none } = T1 at X₁ st1
  have hcat : (Value.ref T.heap.size).category = 1 := rfl
  have hcellA : T1.heap[T.heap.size]? = some (freshCell cX kX) := by rw [← hT1]; exact State.heap_pushCell_size _ _
  have d3' : decode c.code (pc + 3) = .ok (.dup, 1) := by rw [hb]; exact d3
  have d4' : decode c.code (pc + 4) = .ok (.ldc is, 2) := by rw [hb]; exact d4
  have hstr' : vk_R own is text sa s' := vk_R.warm hW0 hstr
  obtain ⟨U, hsteps, hrun, hend, hW, hsame, ce, hce, hO⟩ := X₁.ctorThrowS hexec htr (own := own) (cls := cls) (names := names) (ic := ic) hown' hcls hnames h (fun x hx => nomatch hx) hfX hkX hcellA (by rw [hhp, hT]; exact Nat.le_refl _) (msg := .ref sa) rfl
    (g := { method := m, pc := pc + 6, locals := ls, stack := .ref sa :: .ref T.heap.size :: .ref T.heap.size :: rest, locked := none }) rfl hsize rfl rfl (rest := rest) rfl
    (by rw [hb]; exact d6) (by rw [hb]; exact d9) hout hRframes (by simp only [List.map_cons, List.sum_cons, hcat]; omega) hlocks
  obtain ⟨f1, f2⟩ := vx_frame hsame
  rw [hhp] at f1 f2
  have hWs : s.WarmedH U.vm := State.WarmedH.trans hW0 hW
  have hcl : s.vm.findClass cls = some ce.cls := by
    have h9 := hO.cls
    rw [hvm] at h9
    exact h9
  have hall : s.sameButNew ({ U with vm := s.vm } : State) locs mc ms := by
    subst hA
    obtain ⟨e1, e2⟩ := hsame
    rw [State.setFrames_setFrames] at e1
    have h2 : (T.setVm s.vm).sameButNew ({ U with vm := s.vm } : State) [] (0 + 1) (0 + 6) := ⟨e1, e2⟩
    have h3 := X.same.trans h2
    rw [List.append_nil] at h3
    exact h3.mono hc hs
  refine ⟨U, ?_, .threw T.heap.size, hrun, hend, Or.inr ⟨T.heap.size, rfl, cls, ce, locs, hx U hWs.alike f1 (fun q hq => f2 q hq (fun z hz => nomatch hz)), hce, hO.vm, hcl, hWs, hall, hf⟩⟩
  refine st1 _ ?_
  show Steps p.tables e below (T1.setTop { method := m, pc := pc + 3, locals := ls, stack := .ref T.heap.size :: rest, locked := none }) _
  jvm_step X₁.here [X₁.here.top, hexec, d3', Value.category]
  exact X₁.ldcString hexec (own := own) (text := text) (index := is) (a := sa) hown' hstr'.1 hstr'.2
    (g := { method := m, pc := pc + 4, locals := ls, stack := .ref T.heap.size :: .ref T.heap.size :: rest, locked := none }) rfl d4' _ hsteps
/-- 'throw new E("text")', the text by a wide index -/
theorem vx_throwSW {cc : ByteArray} {pc : Nat} (hexec : p.tables.exec = Jvm.exec) (hb : c.code = cc) (hl : l.stackTraces = false) {own cls text : String} {names : List String} {ik is ic mc ms sa : Nat} {A : Nat → Prop}
    (hown : s.vm.findClass own = some m.cls) (hcls : Bundle.fit cls = true) (hnames : ∀ n ∈ names, Bundle.fit n = true)
    (hk : (Cond.classLink own ik cls).before args s = true) (hini : (Cond.initialized cls).before args s = true) (hstr : vk_R own is text sa s) (hat : ∀ w ∈ vx_atS own ic cls names, w.before args s = true)
    (hgood : ∀ w ∈ Cond.classLink own ik cls :: Cond.initialized cls :: vx_atS own ic cls names, vx_ot w = true)
    (hU : vx_Zq Bundle.tN "UNASSIGNED_STACK" Bundle.steD A s s.heap) (hN : vx_Zq Bundle.tN "SUPPRESSED_SENTINEL" Bundle.listD A s s.heap) (hS : va_S A s.heap H locs) (hsize : ls.size = c.maxLocals)
    (d0 : decode cc pc = .ok (.new ik, 3)) (d3 : decode cc (pc + 3) = .ok (.dup, 1)) (d4 : decode cc (pc + 4) = .ok (.ldc_w is, 3)) (d7 : decode cc (pc + 7) = .ok (.invokespecial ic, 3)) (d10 : decode cc (pc + 10) = .ok (.athrow, 1))
    (hout : ∀ x ∈ c.exceptionTable.toList, covers x (pc + 10) = false)
    (hRframes : names.length + 3 < R.frames) (hRlocals : (rest.map fun v => v.category).sum + (13 * (names.length + 1) + 43) ≤ R.locals) (hRcells : cells + 1 ≤ R.cells) (hRslots : slots + 6 ≤ R.slots) (hlocks : meth.locks = false)
    (hx : ∀ t : State, s.vm.Alike t.vm → H.size ≤ t.heap.size → (∀ q : Nat, q < H.size → t.heap[q]? = H[q]?) → XC cls s t)
    (hf : ∀ z ∈ locs, free z.base) (hc : cells + 1 ≤ mc) (hs : slots + 6 ≤ ms) :
    W p l e R s m args below meth c H locs cells slots (vx_MQ below Qc XC args s mc ms free) (F0 m pc ls rest) := by
  intro T hT X
  have htr : e.platform.stackTraces = false := (show e.platform.stackTraces = l.stackTraces by rw [X.admits.platform]).trans hl
  have Y := vx_rebase X (R' := { frames := R.frames, locals := R.locals, cells := 1, slots := 6 }) (Nat.le_refl _) (Nat.le_refl _) hRcells hRslots
  obtain ⟨s', hA⟩ : ∃ z, z = (T.setVm s.vm).setFrames (.invoking m args :: below) := ⟨_, rfl⟩
  rw [← hA] at Y
  have hvm : s'.vm = s.vm := by rw [hA]; rfl
  have hhp : s'.heap = H := by rw [hA]; exact hT
  have hW0 : s.WarmedH s'.vm := by rw [hvm]; exact State.WarmedH.refl s
  have hat' : ∀ w ∈ vx_atS own ic cls names, w.before args s' = true := fun w hw => vx_ot_at hW0 hvm.symm (hgood w (List.mem_cons_of_mem _ (List.mem_cons_of_mem _ hw))) (hat w hw)
  have hk' : (Cond.classLink own ik cls).before args s' = true := vx_ot_at hW0 hvm.symm (hgood _ List.mem_cons_self) hk
  have hini' : (Cond.initialized cls).before args s' = true := vx_ot_at hW0 hvm.symm (hgood _ (List.mem_cons_of_mem _ List.mem_cons_self)) hini
  have hU' : vx_Zq Bundle.tN "UNASSIGNED_STACK" Bundle.steD A s' s'.heap := by rw [hhp]; exact vx_Zq.moved hW0.alike (hU.kept hS.2.1)
  have hN' : vx_Zq Bundle.tN "SUPPRESSED_SENTINEL" Bundle.listD A s' s'.heap := by rw [hhp]; exact vx_Zq.moved hW0.alike (hN.kept hS.2.1)
  have h : ∀ w ∈ Bundle.ownAtoms own ic cls names, w.before args s' = true := vx_own hat' (vx_isRefq hU'.1) (vx_isRefq hN'.1) hU'.2.word hN'.2.word
  have hown' : s'.vm.findClass own = some m.cls := by rw [hvm]; exact hown
  have hins : (Cond.instantiable cls 6).before args s' = true := h _ (by simp [Bundle.ownAtoms])
  obtain ⟨vm₁, cX, kX, hfX, hkX, -, -, X₁, st1⟩ := Y.newCold hexec (own := own) (C := cls) (index := ik) (n := 6) hown' hk' hins hini'
    (g := F0 m pc ls rest) rfl (by rw [hb]; exact d0) (Nat.le_refl _) (Nat.le_refl _)
  generalize hT1 : (T.setVm vm₁).pushCell { cls := cX, slots := kX.instanceTypes.map defaultValue, vm := .none } = T1 at X₁ st1
  have hcat : (Value.ref T.heap.size).category = 1 := rfl
  have hcellA : T1.heap[T.heap.size]? = some (freshCell cX kX) := by rw [← hT1]; exact State.heap_pushCell_size _ _
  have d3' : decode c.code (pc + 3) = .ok (.dup, 1) := by rw [hb]; exact d3
  have d4' : decode c.code (pc + 4) = .ok (.ldc_w is, 3) := by rw [hb]; exact d4
  have hstr' : vk_R own is text sa s' := vk_R.warm hW0 hstr
  obtain ⟨U, hsteps, hrun, hend, hW, hsame, ce, hce, hO⟩ := X₁.ctorThrowS hexec htr (own := own) (cls := cls) (names := names) (ic := ic) hown' hcls hnames h (fun x hx => nomatch hx) hfX hkX hcellA (by rw [hhp, hT]; exact Nat.le_refl _) (msg := .ref sa) rfl
    (g := { method := m, pc := pc + 7, locals := ls, stack := .ref sa :: .ref T.heap.size :: .ref T.heap.size :: rest, locked := none }) rfl hsize rfl rfl (rest := rest) rfl
    (by rw [hb]; exact d7) (by rw [hb]; exact d10) hout hRframes (by simp only [List.map_cons, List.sum_cons, hcat]; omega) hlocks
  obtain ⟨f1, f2⟩ := vx_frame hsame
  rw [hhp] at f1 f2
  have hWs : s.WarmedH U.vm := State.WarmedH.trans hW0 hW
  have hcl : s.vm.findClass cls = some ce.cls := by
    have h9 := hO.cls
    rw [hvm] at h9
    exact h9
  have hall : s.sameButNew ({ U with vm := s.vm } : State) locs mc ms := by
    subst hA
    obtain ⟨e1, e2⟩ := hsame
    rw [State.setFrames_setFrames] at e1
    have h2 : (T.setVm s.vm).sameButNew ({ U with vm := s.vm } : State) [] (0 + 1) (0 + 6) := ⟨e1, e2⟩
    have h3 := X.same.trans h2
    rw [List.append_nil] at h3
    exact h3.mono hc hs
  refine ⟨U, ?_, .threw T.heap.size, hrun, hend, Or.inr ⟨T.heap.size, rfl, cls, ce, locs, hx U hWs.alike f1 (fun q hq => f2 q hq (fun z hz => nomatch hz)), hce, hO.vm, hcl, hWs, hall, hf⟩⟩
  refine st1 _ ?_
  show Steps p.tables e below (T1.setTop { method := m, pc := pc + 3, locals := ls, stack := .ref T.heap.size :: rest, locked := none }) _
  jvm_step X₁.here [X₁.here.top, hexec, d3', Value.category]
  exact X₁.ldcStringW hexec (own := own) (text := text) (index := is) (a := sa) hown' hstr'.1 hstr'.2
    (g := { method := m, pc := pc + 4, locals := ls, stack := .ref T.heap.size :: .ref T.heap.size :: rest, locked := none }) rfl d4' _ hsteps
end Ends
section Bodies
variable {l : Launch}
theorem vx_ofW {y : MethodName} {ws ws' : List Cond} {rm : Room} {Pc : Array Value → State → Prop} {Qc : Array Value → State → Outcome → State → Prop} {XC : String → State → State → Prop} {mc ms : Nat} {free : Addr → Prop} {cc : ByteArray} {maxL : Nat} {ret : Option FieldType}
    (hy : plainName y.cls = true) (hw : ws = Cond.code y cc maxL ret :: ws')
    (body : ∀ p e s m args below meth c s₁, BodyLoose p l y (headSpec ws rm) cc maxL ret e s m args below meth c s₁ → c.maxLocals = maxL → (∀ x ∈ c.exceptionTable.toList, False) → Pc args s →
      W p l e (headSpec ws rm).room s m args below meth c s.heap [] 0 0 (vx_MQ below Qc XC args s mc ms free) (entryFrame m args maxL)) : vx_Met l y ws rm Pc Qc XC mc ms free := by
  refine MetFree.of_bodyS (code := cc) (maxLocals := maxL) (ret := ret) hy ?_ ?_
  · intro args s m h hn
    obtain ⟨meth, c, h1, h2, h3, h4, h5, h6, -, -⟩ := Cond.code_spec hn (atoms_spec (ws := ws) h _ (by rw [hw]; exact List.mem_cons_self))
    exact ⟨meth, c, h1, h2, h3, h4, h5, h6⟩
  · intro p e s m args below meth c s₁ B hml hP _
    have hh0 : s₁.heap = s.heap := by rw [B.state]; rfl
    have ht : ∀ x ∈ c.exceptionTable.toList, False := by
      obtain ⟨meth9, c9, h1, h2, -, -, -, -, h7, -⟩ := Cond.code_spec B.named (atoms_spec (ws := ws) B.pre _ (by rw [hw]; exact List.mem_cons_self))
      cases Option.some.inj (h1.symm.trans B.method)
      cases Option.some.inj (h2.symm.trans (Stand.of_body B).code)
      intro x hx
      rw [Array.isEmpty_iff.mp h7] at hx
      cases hx
    obtain ⟨t, a1, o, b1, b2, b3⟩ := body p e s m args below meth c s₁ B hml ht hP s₁ hh0 (Stand.of_body B)
    exact ⟨t, o, a1, b1, b2, b3⟩
/-- the table of a body with handlers -/
theorem vx_table {p : Program} {x y : MethodName} {S : Spec} {cc bytes : ByteArray} {maxL maxL' : Nat} {ret ret' : Option FieldType} {e : Env} {s s₁ : State} {m : MethodId} {args : Array Value} {below : List Frame} {meth : Method} {c : Code} {hh : List (Nat × Nat × Nat × Nat)}
    (B : BodyLoose p l y S cc maxL ret e s m args below meth c s₁) (h : (Cond.codeWith y bytes maxL' ret' hh).before args s = true) : c.exceptionTable.toList = tableOf hh := by
  obtain ⟨m9, meth9, c9, hn9, h1, h2, -, -, h6, -⟩ := Cond.codeWith_spec h
  cases Option.some.inj (hn9.symm.trans B.named)
  cases Option.some.inj (h1.symm.trans B.method)
  cases Option.some.inj (h2.symm.trans (Stand.of_body B).code)
  rw [← h6, table_eq]
end Bodies
end VXA
/-! ===== END ===== -/
/-! ===== BEGIN a static call of a method with an exception table ===== -/
section VXS
variable {p : Program} {l : Launch} {e : Env} {R : Room} {s : State} {m : MethodId} {args : Array Value} {below : List Frame} {meth : Method} {c : Code} {T : State} {H : Heap} {locs : List Loc} {cells slots : Nat}
abbrev vx_CSW (R : Room) (s : State) (args : Array Value) (own : String) (index : Nat) (y : MethodName) (bytes : ByteArray) (maxL : Nat) (ret : Option FieldType) (hh : List (Nat × Nat × Nat × Nat)) (ws : List Cond) (rm : Room) (mc ms n : Nat) : Prop :=
  (rm.cells = mc ∧ rm.slots = ms ∧ rm.frames + 1 ≤ R.frames ∧ 8 + (maxL + 11) + rm.locals ≤ R.locals ∧ (∀ w ∈ ws, ∀ (a' : Array Value) (U : State), s.WarmedH U.vm → w.before a' U = true) ∧ Cond.codeWith y bytes maxL ret hh ∈ ws) ∧
  (Cond.codeWith y bytes maxL ret hh).before args s = true ∧ (Cond.initialized y.cls).before args s = true ∧ (y.cls ≠ "java/lang/invoke/MethodHandle" ∧ y.cls ≠ "java/lang/invoke/VarHandle") ∧
  (∀ sig, parseMethodDescriptor y.desc = some sig → n = sig.parameters.length) ∧ (Cond.methodLink own index y).before args s = true ∧ (Cond.static y).before args s = true
theorem vx_cwSW {own : String} {index maxL mc ms : Nat} {y : MethodName} {bytes : ByteArray} {ret : Option FieldType} {hh : List (Nat × Nat × Nat × Nat)} {Ts ws ws' : List Cond} {rm : Room} (n : Nat) (ht : ∀ w ∈ Ts, w.before args s = true) (hT : GoodIn Ts (va_wsS own index y ws)) (hw : ws = Cond.codeWith y bytes maxL ret hh :: ws') (hrc : rm.cells = mc) (hrs : rm.slots = ms)
    (hd : y.cls ≠ "java/lang/invoke/MethodHandle" ∧ y.cls ≠ "java/lang/invoke/VarHandle" ∧ (parseMethodDescriptor y.desc).map (fun d => d.parameters.length) = some n) (hR : rm.frames + 1 ≤ R.frames ∧ 8 + (maxL + 11) + rm.locals ≤ R.locals) :
    vx_CSW R s args own index y bytes maxL ret hh ws rm mc ms n := by
  have ok : ∀ w ∈ va_wsS own index y ws, w.before args s = true := fun w h => ht w (hT w h).1
  have hG : GoodIn Ts ws := fun w h => hT w (by unfold va_wsS; exact List.mem_append_right _ h)
  have hc : Cond.codeWith y bytes maxL ret hh ∈ ws := by rw [hw]; exact List.mem_cons_self
  refine ⟨⟨hrc, hrs, hR.1, hR.2, pay_in ht hG, hc⟩, ht _ (hG _ hc).1, ok _ (by simp [va_wsS]), ⟨hd.1, hd.2.1⟩, fun sig h => ?_, ok _ (by simp [va_wsS]), ok _ (by simp [va_wsS])⟩
  have h2 := hd.2.2
  rw [h] at h2
  exact (Option.some.inj h2).symm
theorem vx_callSW (X : Stand p l e R s m args below meth c T locs cells slots) (hexec : p.tables.exec = Jvm.exec) {own : String} {index : Nat} {y : MethodName} {bytes : ByteArray} {maxL : Nat} {ret : Option FieldType} {hh : List (Nat × Nat × Nat × Nat)}
    (hown : s.vm.findClass own = some m.cls) (hlink : (Cond.methodLink own index y).before args s = true) (hstat : (Cond.static y).before args s = true) (hinit : (Cond.initialized y.cls).before args s = true)
    (hcode : (Cond.codeWith y bytes maxL ret hh).before args s = true) (hy : y.cls ≠ "java/lang/invoke/MethodHandle" ∧ y.cls ≠ "java/lang/invoke/VarHandle")
    {W9 : Nat} {Pre : Pt → Array Value → Prop} {Post : Pt → Array Value → Option Value → Pt → Prop} (hK : Back l R p e below s args y 3 W9 Pre Post)
    {g : JFrame} (hg : g.method = m) (hsize : g.locals.size = c.maxLocals) {argsL rest : List Value} (hlen : ∀ sig, parseMethodDescriptor y.desc = some sig → argsL.length = sig.parameters.length)
    (hstack : g.stack = argsL.reverse ++ rest) (hW : 2 * g.monitorRoom + (rest.map fun v => v.category).sum ≤ W9) (hdg : decode c.code g.pc = .ok (.invokestatic index, 3))
    (hpre : ∀ vm₁, s.WarmedH vm₁ → Pre ⟨T.setVm vm₁, locs, cells, slots⟩ argsL.toArray) :
    ∃ (v : Option Value) (vm₁ : Vm) (B : Pt), s.WarmedH vm₁ ∧ Stand p l e R s m args below meth c B.U B.locs B.cells B.slots ∧ Post ⟨T.setVm vm₁, locs, cells, slots⟩ argsL.toArray v B ∧
      ∀ target, Steps p.tables e below (B.U.setTop { g with pc := g.pc + 3, stack := v.toList ++ rest }) target → Steps p.tables e below (T.setTop g) target := by
  obtain ⟨mk, methM, cM, hnamed, hmethM, -, -, -, -, -, -, hsigM⟩ := Cond.codeWith_spec hcode
  have hstatic : methM.isStatic = true := Cond.static_spec hnamed hmethM hstat
  obtain ⟨kP, hkP, -⟩ := className_of_methodNamed hnamed
  have hinitP : kP.init = .initialized := Cond.initialized_spec (findClass_of_methodNamed hnamed) hkP hinit
  obtain ⟨vm₁, X₁, hstep₁⟩ := X.invokestatic hexec hown hlink hnamed hmethM hstatic hkP hinitP hy (g := g) hg (argsL := argsL) (rest := rest) (hlen _ hsigM) hstack hdg
  obtain ⟨v, B, X', hpost, hsteps⟩ := hK m meth c ⟨T.setVm vm₁, locs, cells, slots⟩ { g with stack := rest } (.invokestatic index) mk argsL.toArray X₁ hg hsize hdg hW (X₁.named hnamed) (hpre vm₁ X₁.warmed)
  exact ⟨v, vm₁, B, X₁.warmed, X', hpost, fun target h => hstep₁ _ fun acts => by rw [doInvoke_state]; exact hsteps.trans h⟩
theorem vx_runSW {y : MethodName} {bytes cc : ByteArray} {maxL nL mc ms n index : Nat} {ret : Option FieldType} {hh : List (Nat × Nat × Nat × Nat)} {ws : List Cond} {rm : Room} {Pc : Array Value → State → Prop} {Qc : Array Value → State → Outcome → State → Prop} {free : Addr → Prop} {Ts : List Cond} {own : String} {As rest : List Value} {g : JFrame}
    (S : CallFix p m c cc nL s args Ts own) (hM : Met l y ws rm Pc Qc mc ms free) (cw : vx_CSW R s args own index y bytes maxL ret hh ws rm mc ms n) (hp : PreS s H Pc As)
    (hg : g.method = m) (hn : As.length = n) (hsize : g.locals.size = nL) (hstack : g.stack = As.reverse ++ rest) (hW : 2 * g.monitorRoom + (rest.map fun v => v.category).sum ≤ 8) (hdg : decode cc g.pc = .ok (.invokestatic index, 3)) (hf : cells + mc ≤ R.cells ∧ slots + ms ≤ R.slots) :
    va_Run p l e R s m args below meth c H locs cells slots mc ms g rest (Qc As.toArray) (free) := by
  obtain ⟨⟨hrc, hrs, hfr, hlo, hws, hcw⟩, hcode, hini, hy, hlen, hl, hstt⟩ := cw
  have hK : Back l R p e below s args y 3 8 (PreOf R mc ms Pc) (PostOf Qc mc ms free) := va_backW (hh := hh) (bytes := bytes) (maxL := maxL) (ret := ret) hM hp.1 hrc hrs hfr hlo hws hcw (fun a' U hW => word_at hW (Or.inl (by first | rfl | simp [Cond.onTables, Cond.keeps, Cond.steady])) hini)
  obtain ⟨hx, hb, hml, ho, -⟩ := S
  intro T hT X
  obtain ⟨v, vm₁, ⟨U', l2, c2, s2⟩, hW₁, X', ⟨g', mk, t, L, e1, e2, hq, h1, hL, h2, h3⟩, st⟩ := vx_callSW X hx (hh := hh) (bytes := bytes) (maxL := maxL) (ret := ret) ho hl hstt hini hcode hy hK hg (hsize.trans hml.symm) (argsL := As) (rest := rest) (fun sig h => hn.trans (hlen sig h)) hstack hW (by rw [hb]; exact hdg)
    (fun vm₁ hW₁ => ⟨hf.1, hf.2, hp.2 (T.setVm vm₁) hT hW₁⟩)
  dsimp only [Pt.U, Pt.locs, Pt.cells, Pt.slots] at X' e1 e2 h1 h2 h3 st
  subst h1; subst h2; subst h3
  exact ⟨v, (T.setVm vm₁).calling g' mk As.toArray, t, U', L, hT, X', hL, e1, e2, hq, st⟩
/-- a thing of a world lies in the heap -/
theorem vx_lt {D : va_G} {cl : List vw_C} {ws : va_W} {H1 : Heap} (h : va_P D cl ws H1) {k : Nat} {q : Nat × va_E} (hk : ws[k]? = some q) : q.1 < H1.size := (h k q hk).lt
end VXS
/-! ===== END ===== -/
end
section
/-! ## 'throw new E("text")' where E's own constructor calls on by another place of its pool. Follows the library's proof of its sister (BundleOwnThrow.lean), whose place is 7. -/
section EXC
variable {p : Program} {l : Launch} {e : Env} {R : Room} {s : State} {m : MethodId} {args : Array Value} {below : List Frame} {meth : Method} {c : Code} {V : State} {locs : List Loc} {cells slots : Nat}
def ex_own (own : String) (ic : Nat) (X : String) (ix : Nat) (rx : ByteArray) (Y : String) (names : List String) : List Cond :=
  Bundle.throwableAtoms ++ Bundle.throwableSAtoms ++ (Bundle.passSAtoms X Y ix rx ++ Bundle.chainSAtoms Y names) ++
  [.methodLink own ic (Bundle.initS X), .instantiable X 6, .castable X X, .selects X Bundle.tFill0 Bundle.tFill0, .selects X Bundle.tFill Bundle.tFill,
   .lays X Bundle.tN "cause" "Ljava/lang/Throwable;", .lays X Bundle.tN "stackTrace" Bundle.steD, .lays X Bundle.tN "suppressedExceptions" Bundle.listD, .lays X Bundle.tN "detailMessage" "Ljava/lang/String;",
   .isRef (.static Bundle.tN "UNASSIGNED_STACK" Bundle.steD), .isRef (.static Bundle.tN "SUPPRESSED_SENTINEL" Bundle.listD),
   .fieldLink Bundle.tN 198 Bundle.tN "backtrace" "Ljava/lang/Object;", .lays Bundle.tN Bundle.tN "backtrace" "Ljava/lang/Object;", .lays X Bundle.tN "backtrace" "Ljava/lang/Object;"]
def ex_atS (own : String) (ic : Nat) (X : String) (ix : Nat) (rx : ByteArray) (Y : String) (names : List String) : List Cond := (ex_own own ic X ix rx Y names).filter vx_no
theorem ex_chain {pl : Platform} (hpl : pl.magicAccessors = ({} : Platform).magicAccessors) {top : MethodId} (htop : s.methodNamed? (Bundle.initS Bundle.tN) = some top) {ix : Nat} {rx : ByteArray} (x0 : decode rx 0 = .ok (.aload_n 0, 1)) (x1 : decode rx 1 = .ok (.aload_n 1, 1)) (x2 : decode rx 2 = .ok (.invokespecial ix, 3)) (x5 : decode rx 5 = .ok (.return_, 1)) {names : List String} {X Y : String} (hX : Bundle.fit X = true) (hn : ∀ n ∈ Y :: names, Bundle.fit n = true) (h : ∀ w ∈ Bundle.passSAtoms X Y ix rx ++ Bundle.chainSAtoms Y names, w.before args s = true) :
    ∃ (P1 : PassC) (Ps : List PassC), Ps.length = names.length + 1 ∧ P1.LinksS pl s ∧ (∀ P, P ∈ Ps → P.LinksS pl s) ∧ s.methodNamed? (Bundle.initS X) = some P1.m ∧ P1.sup = firstOf top (Ps.map (·.toPassT)) ∧ PassesOn top (Ps.map (·.toPassT)) := by
  obtain ⟨P2, Ps, hlen, L2, hL, hm2, hsup, hpass⟩ := Bundle.chainS (args := args) hpl htop names Y (hn Y List.mem_cons_self) (fun n h9 => hn n (List.mem_cons_of_mem _ h9)) (fun w hw => h w (List.mem_append_right _ hw))
  obtain ⟨P, L, hm, hs⟩ := PassC.ofS_atoms (args := args) (s := s) hpl (X := X) (Y := Y) (Bundle.fit_spec hX).1 (Bundle.fit_spec (hn Y List.mem_cons_self)).2 x0 x1 x2 x5 (fun w hw => h w (List.mem_append_left _ hw))
  refine ⟨P, P2 :: Ps, by simp [hlen], L, fun Q hQ => ?_, hm, Option.some.inj (hs.symm.trans hm2), hsup, hpass⟩
  rcases List.mem_cons.mp hQ with rfl | hQ
  · exact L2
  · exact hL Q hQ
set_option maxHeartbeats 1000000 in
theorem ex_ctorS (X : Stand p l e R s m args below meth c V locs cells slots) (hexec : p.tables.exec = Jvm.exec) (htr : e.platform.stackTraces = false) {own cls Y9 : String} {names : List String} {ic ix : Nat} {rx : ByteArray} (x0 : decode rx 0 = .ok (.aload_n 0, 1)) (x1 : decode rx 1 = .ok (.aload_n 1, 1)) (x2 : decode rx 2 = .ok (.invokespecial ix, 3)) (x5 : decode rx 5 = .ok (.return_, 1))
    (hown : s.vm.findClass own = some m.cls) (hcls : Bundle.fit cls = true) (hnames : ∀ n ∈ Y9 :: names, Bundle.fit n = true)
    (h : ∀ a ∈ ex_own own ic cls ix rx Y9 names, a.before args s = true)
    (hlocs : ∀ x ∈ locs, ∀ cell, s.heap[x.base]? = some cell → cell.vm.isStatics = false)
    {a : Addr} {cX : ClassId} {kX : Class} (hfoundX : s.vm.findClass cls = some cX) (hkX : s.vm.classes[cX]? = some kX) (hcell : V.heap[a]? = some (freshCell cX kX)) (hnew : s.heap.size ≤ a)
    {msg : Value} (hmsg : msg.isRef = true)
    {g : JFrame} (hg : g.method = m) (hsize : g.locals.size = c.maxLocals) (hlocked : g.locked = none) (hentered : g.entered = []) {rest : List Value} (hstack : g.stack = msg :: .ref a :: .ref a :: rest)
    (hd6 : decode c.code g.pc = .ok (.invokespecial ic, 3)) (hd9 : decode c.code (g.pc + 3) = .ok (.athrow, 1)) (hout : ∀ x ∈ c.exceptionTable.toList, covers x (g.pc + 3) = false)
    (hRframes : names.length + 4 < R.frames) (hRlocals : 2 * g.monitorRoom + ((Value.ref a :: rest).map fun v => v.category).sum + (13 * (names.length + 2) + 42) ≤ R.locals) (hlocks : meth.locks = false := by first | assumption | exact BodyLoose.notSynchronized (by assumption) | exact Body.notSynchronized (by assumption)) :
    ∃ U : State, Steps p.tables e below (V.setTop g) U ∧ U.status = .running ∧ Ended U below (.threw a) ∧ s.WarmedH U.vm ∧ s.sameButNew ({ U with vm := s.vm } : State) locs cells slots ∧
      ∃ ce, U.heap[a]? = some ce ∧ ce.vm = .none ∧ s.vm.findClass cls = some ce.cls := by
  have howns : e.platform.frameOwnsMonitors = true := by rw [X.admits.platform]
  have hfin : e.platform.finalization = false := by rw [X.admits.platform]
  have hpl : e.platform.magicAccessors = ({} : Platform).magicAccessors := by rw [X.admits.platform]
  have a' : ∀ x, x ∈ ex_own own ic cls ix rx Y9 names → x.holds args s none s [] = true := fun x hx => h x hx
  obtain ⟨T, Z0, L, -, Y⟩ := ThrowableC.of_atoms (args := args) howns hfin hpl (fun x hx => h x (by simp [ex_own, hx]))
  obtain ⟨Z, M, LZ, LM, hnZ⟩ := Init0T.ofS_atoms (args := args) hpl L Y (fun x hx => h x (by simp [ex_own, hx]))
  obtain ⟨P1, Ps, hlen, L1, hL, hP1m, hlink1, hlink⟩ := ex_chain (args := args) hpl hnZ x0 x1 x2 x5 hcls hnames (fun x hx => h x (by simp only [ex_own, List.mem_append]; exact Or.inl (Or.inr (List.mem_append.mp hx))))
  have hfound : s.vm.findClass cls = some P1.m.cls := findClass_of_methodNamed hP1m
  cases Option.some.inj (hfoundX.symm.trans hfound)
  obtain ⟨c1, kX', hc1, hk, hord, -, -, hn6⟩ := Cond.instantiable_spec (a' (.instantiable cls 6) (by simp [ex_own]))
  cases Option.some.inj (hc1.symm.trans hfound)
  cases Option.some.inj (hkX.symm.trans hk)
  have hsel0 : selectMethod e.platform s.vm P1.m.cls T.fill0 = .method T.fill0 := by
    obtain ⟨c2, r2, m2, q1, q2, q3, q4, -⟩ := Cond.selects_spec (a' (.selects cls Bundle.tFill0 Bundle.tFill0) (by simp [ex_own]))
    cases Option.some.inj (q1.symm.trans hfound)
    cases Option.some.inj (q2.symm.trans (State.methodFound?_of_named Y.fill0 (by decide)))
    cases Option.some.inj (q3.symm.trans Y.fill0)
    rw [Launch.admits_selectMethod X.admits]; exact q4
  have hselF : selectMethod e.platform s.vm P1.m.cls T.fill = .method T.fill := by
    obtain ⟨c2, r2, m2, q1, q2, q3, q4, -⟩ := Cond.selects_spec (a' (.selects cls Bundle.tFill Bundle.tFill) (by simp [ex_own]))
    cases Option.some.inj (q1.symm.trans hfound)
    cases Option.some.inj (q2.symm.trans (State.methodFound?_of_named Y.fill (by decide)))
    cases Option.some.inj (q3.symm.trans Y.fill)
    rw [Launch.admits_selectMethod X.admits]; exact q4
  obtain ⟨cellS0, hcS0, hiss⟩ := Y.statics
  obtain ⟨u0, hu0⟩ := Cond.staticRefV Y.unassigned L.unassignedStatic L.statics hcS0 hiss (a' (.isRef (.static Bundle.tN "UNASSIGNED_STACK" Bundle.steD)) (by simp [ex_own]))
  obtain ⟨sen, hsen⟩ := Cond.staticRefV Y.sentinel L.sentinelStatic L.statics hcS0 hiss (a' (.isRef (.static Bundle.tN "SUPPRESSED_SENTINEL" Bundle.listD)) (by simp [ex_own]))
  obtain ⟨ci198, i198, fB, hk198, hg198, ha198, hsB, -, hnB, htB, hffB⟩ := Cond.ownField (t := .object "java/lang/Object") Y.found L.cls (by decide +kernel) (a' (.fieldLink Bundle.tN 198 Bundle.tN "backtrace" "Ljava/lang/Object;") (by simp [ex_own])) (a' (.lays Bundle.tN Bundle.tN "backtrace" "Ljava/lang/Object;") (by simp [ex_own])) e.platform hpl
  obtain ⟨cellS, hcS', heS, -, hkeep⟩ := X.same.2.2.2.2.2 T.aS cellS0 hcS0
  have hcellS : V.heap[T.aS]? = some cellS := hcS'
  have hout' : ∀ i, (⟨T.aS, i⟩ : Loc) ∉ locs := fun i hmem => by
    have := hlocs _ hmem cellS0 hcS0
    rw [hiss] at this; cases this
  have hknownS : cellS.vm ≠ .unknown := by
    rw [heS]; intro hu
    rw [show cellS0.vm = .unknown from hu] at hiss
    cases hiss
  have hneS : T.aS ≠ a := Nat.ne_of_lt (Nat.lt_of_lt_of_le (Array.getElem?_eq_some_iff.mp hcS0).1 hnew)
  obtain ⟨iM, hffM⟩ := Y.msg
  obtain ⟨tyC, dC, hdC, hdnC⟩ := Cond.laysAt hfound hk Y.cause (a' (.lays cls Bundle.tN "cause" "Ljava/lang/Throwable;") (by simp [ex_own]))
  obtain ⟨tyS, dS, hdS, hdnS⟩ := Cond.laysAt hfound hk Y.stack (a' (.lays cls Bundle.tN "stackTrace" Bundle.steD) (by simp [ex_own]))
  obtain ⟨tyP, dP, hdP, hdnP⟩ := Cond.laysAt hfound hk Y.supp (a' (.lays cls Bundle.tN "suppressedExceptions" Bundle.listD) (by simp [ex_own]))
  obtain ⟨tyM, dM, hdM, hdnM⟩ := Cond.laysAt hfound hk hffM (a' (.lays cls Bundle.tN "detailMessage" "Ljava/lang/String;") (by simp [ex_own]))
  obtain ⟨tyB, dB, hdB, hdnB⟩ := Cond.laysAt hfound hk hffB (a' (.lays cls Bundle.tN "backtrace" "Ljava/lang/Object;") (by simp [ex_own]))
  have bC := Cond.laysApart hdB hdC hdnB hdnC (by rw [hnB, Y.causeName]; decide)
  have bS := Cond.laysApart hdB hdS hdnB hdnS (by rw [hnB, Y.stackName]; decide)
  have bP := Cond.laysApart hdB hdP hdnB hdnP (by rw [hnB, Y.suppName]; decide)
  have hskip : SkipFacts T e.platform s (fun u => u) u0 ((preparedCellV T.toThrowableT (freshCell P1.m.cls kX) a u0 sen).withEntry V.cur) :=
    ⟨{ ci198 := ci198, i198 := i198, fBack := fB }, ⟨hk198, hg198, ha198, hsB⟩, by
      have := fresh_default (c := P1.m.cls) tyB
      rw [htB] at this
      simpa [preparedCellV, Cell.setSlot, Cell.withEntry, Array.getElem?_setIfInBounds, bC, bS, bP, bC.symm, bS.symm, bP.symm, defaultValue] using this, fun _ _ => rfl⟩
  obtain ⟨tm, methC, cdC, kC, vm₁, hnC, -, -, -, -, -, -, -, hW₁, st1⟩ := Steps.initColdS (tb := p.tables) (e := e) (below := below) (s := s) (U := V) X.here hexec X.warmed hpl hown (t := Bundle.initS cls) rfl rfl (Bundle.fit_spec hcls).2
    (a' (.methodLink own ic (Bundle.initS cls)) (by simp [ex_own])) (h (.instanceMethod (Bundle.initS cls)) (by simp [ex_own, Bundle.passSAtoms])) (bytes := rx) (maxL := 2) (h (.code (Bundle.initS cls) rx 2 none) (by simp [ex_own, Bundle.passSAtoms]))
    (f := g) hg (a := a) (msg := msg) (rest := .ref a :: rest) hstack hd6
  cases Option.some.inj (hnC.symm.trans hP1m)
  have X₁ := X.noted hW₁
  obtain ⟨vm₂, X₂, st2⟩ := X₁.ctorMessageOffV hexec (g := { g with stack := .ref a :: rest }) hg hsize T L Z LZ M LM (P1 :: Ps)
    (fun P hP => by rcases List.mem_cons.mp hP with rfl | hP; exact L1; exact hL P hP) ⟨hlink1, hlink⟩ (u0 := u0) (sen := sen) (self := a) hmsg (cell := freshCell P1.m.cls kX) (cellS := cellS)
    hcell (fun _ => by simp) (by simp) rfl rfl hsel0 hselF hcellS hneS hknownS (by rw [hkeep _ (hout' _)]; exact hu0) (by rw [hkeep _ (hout' _)]; exact hsen)
    (Takes.of_laid hk hord tyC (by rw [Y.causeType]; rfl)) (Takes.of_laid hk hord tyS (by rw [Y.stackType]; exact fits_refV_array _ u0)) (Takes.of_laid hk hord tyP (by rw [Y.suppType]; exact fits_refV_object _ sen))
    (Takes.of_laid hk hord tyM (by rw [Y.msgType]; exact fits_refV_object _ ⟨msg, hmsg⟩)) Y.objLocals hskip htr [] hd6
    (by simp only [List.length_cons, hlen]; omega) (by simp only [List.length_cons, hlen]; exact hRlocals)
  obtain ⟨hwalk, hrun, hended, hWU, hsame⟩ := X₂.athrowLeaves hexec (g := { g with stack := .ref a :: rest, pc := g.pc + 3 }) hg hlocked hentered hout (a := a) (rest := rest) rfl hd9
  have hlt : a < ((V.setVm vm₁).setVm vm₂).heap.size := (Array.getElem?_eq_some_iff.mp hcell).1
  have hU := heapAt_setCell_self (s := (V.setVm vm₁).setVm vm₂) (plainBareV T.toThrowableT (freshCell P1.m.cls kX) a u0 sen msg) hlt
  refine ⟨_, st1 _ (fun acts => ?_), hrun, hended, hWU, hsame.weaken (fun y hy hlt' => ?_) (Nat.le_refl _) (Nat.le_refl _), _, hU, rfl, hfound⟩
  · rw [doInvoke_state]
    exact st2 _ hwalk
  · rcases List.mem_append.mp hy with h1 | h1
    · exact h1
    · exfalso
      have hb : y.base = a := by
        simp only [List.mem_cons, List.not_mem_nil, or_false] at h1
        rcases h1 with rfl | rfl | rfl | rfl | rfl <;> rfl
      rw [hb] at hlt'
      exact Nat.not_lt.mpr hnew hlt'
end EXC
section EXT
variable {p : Program} {l : Launch} {e : Env} {R : Room} {s : State} {m : MethodId} {args : Array Value} {below : List Frame} {meth : Method} {c : Code} {H : Heap} {locs : List Loc} {cells slots : Nat} {Q : State → Prop}
variable {free : Addr → Prop} {ls : Array Slot} {rest : List Value}
variable {Qc : Array Value → State → Outcome → State → Prop} {XC : String → State → State → Prop}
/-- 'throw new E("text")': new; dup; ldc; invokespecial; athrow -/
theorem ex_throwS {cc : ByteArray} {pc : Nat} (hexec : p.tables.exec = Jvm.exec) (hb : c.code = cc) (hl : l.stackTraces = false) {own cls text Y9 : String} {names : List String} {ik is ic ix mc ms sa : Nat} {rx : ByteArray} {A : Nat → Prop} (x0 : decode rx 0 = .ok (.aload_n 0, 1)) (x1 : decode rx 1 = .ok (.aload_n 1, 1)) (x2 : decode rx 2 = .ok (.invokespecial ix, 3)) (x5 : decode rx 5 = .ok (.return_, 1))
    (hown : s.vm.findClass own = some m.cls) (hcls : Bundle.fit cls = true) (hnames : ∀ n ∈ Y9 :: names, Bundle.fit n = true)
    (hk : (Cond.classLink own ik cls).before args s = true) (hini : (Cond.initialized cls).before args s = true) (hstr : vk_R own is text sa s) (hat : ∀ w ∈ ex_atS own ic cls ix rx Y9 names, w.before args s = true)
    (hgood : ∀ w ∈ Cond.classLink own ik cls :: Cond.initialized cls :: ex_atS own ic cls ix rx Y9 names, vx_ot w = true)
    (hU : vx_Zq Bundle.tN "UNASSIGNED_STACK" Bundle.steD A s s.heap) (hN : vx_Zq Bundle.tN "SUPPRESSED_SENTINEL" Bundle.listD A s s.heap) (hS : va_S A s.heap H locs) (hsize : ls.size = c.maxLocals)
    (d0 : decode cc pc = .ok (.new ik, 3)) (d3 : decode cc (pc + 3) = .ok (.dup, 1)) (d4 : decode cc (pc + 4) = .ok (.ldc is, 2)) (d6 : decode cc (pc + 6) = .ok (.invokespecial ic, 3)) (d9 : decode cc (pc + 9) = .ok (.athrow, 1))
    (hout : ∀ x ∈ c.exceptionTable.toList, covers x (pc + 9) = false)
    (hRframes : names.length + 4 < R.frames) (hRlocals : (rest.map fun v => v.category).sum + (13 * (names.length + 2) + 43) ≤ R.locals) (hRcells : cells + 1 ≤ R.cells) (hRslots : slots + 6 ≤ R.slots) (hlocks : meth.locks = false)
    (hx : ∀ t : State, s.vm.Alike t.vm → H.size ≤ t.heap.size → (∀ q : Nat, q < H.size → t.heap[q]? = H[q]?) → XC cls s t)
    (hf : ∀ z ∈ locs, free z.base) (hc : cells + 1 ≤ mc) (hs : slots + 6 ≤ ms) :
    W p l e R s m args below meth c H locs cells slots (vx_MQ below Qc XC args s mc ms free) (F0 m pc ls rest) := by
  intro T hT X
  have htr : e.platform.stackTraces = false := (show e.platform.stackTraces = l.stackTraces by rw [X.admits.platform]).trans hl
  have Y := vx_rebase X (R' := { frames := R.frames, locals := R.locals, cells := 1, slots := 6 }) (Nat.le_refl _) (Nat.le_refl _) hRcells hRslots
  obtain ⟨s', hA⟩ : ∃ z, z = (T.setVm s.vm).setFrames (.invoking m args :: below) := ⟨_, rfl⟩
  rw [← hA] at Y
  have hvm : s'.vm = s.vm := by rw [hA]; rfl
  have hhp : s'.heap = H := by rw [hA]; exact hT
  have hW0 : s.WarmedH s'.vm := by rw [hvm]; exact State.WarmedH.refl s
  have hat' : ∀ w ∈ ex_atS own ic cls ix rx Y9 names, w.before args s' = true := fun w hw => vx_ot_at hW0 hvm.symm (hgood w (List.mem_cons_of_mem _ (List.mem_cons_of_mem _ hw))) (hat w hw)
  have hk' : (Cond.classLink own ik cls).before args s' = true := vx_ot_at hW0 hvm.symm (hgood _ List.mem_cons_self) hk
  have hini' : (Cond.initialized cls).before args s' = true := vx_ot_at hW0 hvm.symm (hgood _ (List.mem_cons_of_mem _ List.mem_cons_self)) hini
  have hU' : vx_Zq Bundle.tN "UNASSIGNED_STACK" Bundle.steD A s' s'.heap := by rw [hhp]; exact vx_Zq.moved hW0.alike (hU.kept hS.2.1)
  have hN' : vx_Zq Bundle.tN "SUPPRESSED_SENTINEL" Bundle.listD A s' s'.heap := by rw [hhp]; exact vx_Zq.moved hW0.alike (hN.kept hS.2.1)
  have h : ∀ w ∈ ex_own own ic cls ix rx Y9 names, w.before args s' = true := vx_own hat' (vx_isRefq hU'.1) (vx_isRefq hN'.1) hU'.2.word hN'.2.word
  have hown' : s'.vm.findClass own = some m.cls := by rw [hvm]; exact hown
  have hins : (Cond.instantiable cls 6).before args s' = true := h _ (by simp [ex_own])
  obtain ⟨vm₁, cX, kX, hfX, hkX, -, -, X₁, st1⟩ := Y.newCold hexec (own := own) (C := cls) (index := ik) (n := 6) hown' hk' hins hini'
    (g := F0 m pc ls rest) rfl (by rw [hb]; exact d0) (Nat.le_refl _) (Nat.le_refl _)
  generalize hT1 : (T.setVm vm₁).pushCell { cls := cX, slots := kX.instanceTypes.map defaultValue, vm := .none } = T1 at X₁ st1
  have hcat : (Value.ref T.heap.size).category = 1 := rfl
  have hcellA : T1.heap[T.heap.size]? = some (freshCell cX kX) := by rw [← hT1]; exact State.heap_pushCell_size _ _
  have d3' : decode c.code (pc + 3) = .ok (.dup, 1) := by rw [hb]; exact d3
  have d4' : decode c.code (pc + 4) = .ok (.ldc is, 2) := by rw [hb]; exact d4
  have hstr' : vk_R own is text sa s' := vk_R.warm hW0 hstr
  obtain ⟨U, hsteps, hrun, hend, hW, hsame, ce, hce, hO1, hO2⟩ := ex_ctorS X₁ hexec htr (own := own) (cls := cls) (Y9 := Y9) (names := names) (ic := ic) (ix := ix) (rx := rx) x0 x1 x2 x5 hown' hcls hnames h (fun x hx => nomatch hx) hfX hkX hcellA (by rw [hhp, hT]; exact Nat.le_refl _) (msg := .ref sa) rfl
    (g := { method := m, pc := pc + 6, locals := ls, stack := .ref sa :: .ref T.heap.size :: .ref T.heap.size :: rest, locked := none }) rfl hsize rfl rfl (rest := rest) rfl
    (by rw [hb]; exact d6) (by rw [hb]; exact d9) hout hRframes (by simp only [List.map_cons, List.sum_cons, hcat]; omega) hlocks
  obtain ⟨f1, f2⟩ := vx_frame hsame
  rw [hhp] at f1 f2
  have hWs : s.WarmedH U.vm := State.WarmedH.trans hW0 hW
  have hcl : s.vm.findClass cls = some ce.cls := by
    have h9 := hO2
    rw [hvm] at h9
    exact h9
  have hall : s.sameButNew ({ U with vm := s.vm } : State) locs mc ms := by
    subst hA
    obtain ⟨e1, e2⟩ := hsame
    rw [State.setFrames_setFrames] at e1
    have h2 : (T.setVm s.vm).sameButNew ({ U with vm := s.vm } : State) [] (0 + 1) (0 + 6) := ⟨e1, e2⟩
    have h3 := X.same.trans h2
    rw [List.append_nil] at h3
    exact h3.mono hc hs
  refine ⟨U, ?_, .threw T.heap.size, hrun, hend, Or.inr ⟨T.heap.size, rfl, cls, ce, locs, hx U hWs.alike f1 (fun q hq => f2 q hq (fun z hz => nomatch hz)), hce, hO1, hcl, hWs, hall, hf⟩⟩
  refine st1 _ ?_
  show Steps p.tables e below (T1.setTop { method := m, pc := pc + 3, locals := ls, stack := .ref T.heap.size :: rest, locked := none }) _
  jvm_step X₁.here [X₁.here.top, hexec, d3', Value.category]
  exact X₁.ldcString hexec (own := own) (text := text) (index := is) (a := sa) hown' hstr'.1 hstr'.2
    (g := { method := m, pc := pc + 4, locals := ls, stack := .ref T.heap.size :: .ref T.heap.size :: rest, locked := none }) rfl d4' _ hsteps
end EXT
end
section
/-! ## person and debt: the class throws, the law's own method catches -/
def ex_E : String := "java/util/NoSuchElementException"
def ex_Y : String := "java/lang/RuntimeException"
def ex_names : List String := ["java/lang/Exception"]
abbrev ex_rx : ByteArray := prog_29_method_4_code
noncomputable def ex_L : List Cond := ex_atS RX11 161 ex_E 13 ex_rx ex_Y ex_names
theorem ex_x0 : decode ex_rx 0 = .ok (.aload_n 0, 1) := by decide +kernel
theorem ex_x1 : decode ex_rx 1 = .ok (.aload_n 1, 1) := by decide +kernel
theorem ex_x2 : decode ex_rx 2 = .ok (.invokespecial 13, 3) := by decide +kernel
theorem ex_x5 : decode ex_rx 5 = .ok (.return_, 1) := by decide +kernel
noncomputable def ex_isC (w : Cond) : Bool := match w with
  | .castable .. => true
  | .declares .. => true
  | _ => false
/-- what is so beside ia_N: the two texts, what may be cast, two statics of Throwable -/
def ex_N (sb : Nat × Nat) (A : Nat → Prop) (U : State) (H : Heap) : Prop :=
  vk_R RX11 159 "no such person" sb.1 U ∧ vk_R RX11 218 "no such debt" sb.2 U ∧ (∀ w ∈ ex_L.filter (fun w => !goodWord w), va_Nw w U) ∧ va_Nw (.castable ex_E ex_E) U ∧ vx_Zq Bundle.tN "UNASSIGNED_STACK" Bundle.steD A U H ∧ vx_Zq Bundle.tN "SUPPRESSED_SENTINEL" Bundle.listD A U H
set_option maxRecDepth 100000 in
theorem ex_bad : ∀ w ∈ ex_L.filter (fun w => !goodWord w), ex_isC w = true ∧ w ∈ lw_tbl := by decide +kernel
set_option maxRecDepth 100000 in
theorem ex_goods : ∀ w ∈ ex_L.filter goodWord, w ∈ lw_tbl := by decide +kernel
set_option maxRecDepth 100000 in
theorem ex_ot : ∀ w ∈ Cond.classLink RX11 157 ex_E :: Cond.initialized ex_E :: ex_L, vx_ot w = true := by decide +kernel
theorem ex_nw_warm {w : Cond} {s U : State} (hn : ex_isC w = true) (hW : s.WarmedH U.vm) (h : va_Nw w s) : va_Nw w U := by
  cases w <;> first | exact va_Nw.warmC hW h | exact va_Nw.warmD hW h | cases hn
theorem ex_nw_same {w : Cond} {s U : State} (hn : ex_isC w = true) (hW : s.vm = U.vm) (h : va_Nw w s) : va_Nw w U := by
  cases w <;> first | exact va_Nw.same rfl hW h | cases hn
theorem ex_nw_use {w : Cond} {Ar : Array Value} {U : State} (hn : ex_isC w = true) (h : va_Nw w U) : w.before Ar U = true := by
  cases w <;> first | exact va_Nw.use rfl h | cases hn
theorem ex_nw_of {w : Cond} {Ar : Array Value} {U : State} (hn : ex_isC w = true) (h : w.before Ar U = true) : va_Nw w U := by
  cases w <;> first | exact va_Nw.of rfl h | cases hn
section EX
variable {p : Program} {l : Launch} {e : Env} {R : Room} {s : State} {m : MethodId} {args : Array Value} {below : List Frame} {meth : Method} {c : Code} {Q : State → Prop} {A : Nat → Prop} {sa sb : Nat × Nat} {D : va_G} {pc nc ns : Nat}
theorem ex_N.warm {U : State} {H : Heap} (hW : s.WarmedH U.vm) (h : ex_N sb A s H) : ex_N sb A U H := by
  obtain ⟨h1, h2, h3, h4, h5, h6⟩ := h
  exact ⟨h1.warm hW, h2.warm hW, fun w hw => ex_nw_warm (ex_bad w hw).1 hW (h3 w hw), ex_nw_warm rfl hW h4, h5.moved hW.alike, h6.moved hW.alike⟩
theorem ex_N.same {U : State} {H : Heap} (hv : s.vm = U.vm) (h : ex_N sb A s H) : ex_N sb A U H := by
  obtain ⟨h1, h2, h3, h4, h5, h6⟩ := h
  have ha : s.vm.Alike U.vm := by rw [← hv]; exact Vm.Alike.refl s.vm
  exact ⟨h1.same hv.symm, h2.same hv.symm, fun w hw => ex_nw_same (ex_bad w hw).1 hv (h3 w hw), ex_nw_same rfl hv h4, h5.moved ha, h6.moved ha⟩
theorem ex_N.kept {H H1 : Heap} (hq : ∀ a : Nat, a < H.size → ¬ A a → H1[a]? = H[a]?) (h : ex_N sb A s H) : ex_N sb A s H1 := by
  obtain ⟨h1, h2, h3, h4, h5, h6⟩ := h
  exact ⟨h1, h2, h3, h4, h5.kept hq, h6.kept hq⟩
theorem ex_N.narrow {H : Heap} {B : Nat → Prop} (hAB : ∀ q, B q → A q) (h : ex_N sb A s H) : ex_N sb B s H := by
  obtain ⟨h1, h2, h3, h4, h5, h6⟩ := h
  exact ⟨h1, h2, h3, h4, h5.narrow hAB, h6.narrow hAB⟩
def ex_P (D : va_G) (sa sb : Nat × Nat) (tys : List (ClassId × FieldType)) (ws : va_W) (sz : Nat) (vs : List Value) : Array Value → State → Prop := va_Pc vs (fun U => U.heap.size = sz ∧ va_P D vwCl ws U.heap ∧ va_K D vwCl tys U ∧ va_D (fun _ => True) ws ∧ ia_N sa (va_A ws sz) U U.heap ∧ ex_N sb (va_A ws sz) U U.heap)
theorem ex_blind {tys : List (ClassId × FieldType)} {ws : va_W} {sz : Nat} {vs : List Value} : FrameBlind (ex_P D sa sb tys ws sz vs) := fun a U g mk q => by
  obtain ⟨q0, q1, q2, q3, q4, q5, q6⟩ := q
  exact ⟨q0, q1, q2, va_K.moved (u := U) (U := U.calling g mk a) (Vm.Alike.refl U.vm) q3, q4, ia_N.same (s := U) rfl q5, ex_N.same (s := U) rfl q6⟩
theorem ex_pre {ws : va_W} {tys : List (ClassId × FieldType)} {H : Heap} {locs : List Loc} {vs : List Value} (N : ia_N sa A s s.heap) (M : ex_N sb A s s.heap) (hK : va_K D vwCl tys s) (hP : va_P D vwCl ws H) (hD : va_D A ws) (hS : va_S A s.heap H locs) (hA : ∀ q, s.heap.size ≤ q → A q) : ∀ U : State, U.heap = H → s.WarmedH U.vm → ex_P D sa sb tys ws H.size vs vs.toArray U := fun U hU hW =>
  ⟨rfl, by rw [hU], by rw [hU]; exact hP, va_K.moved hW.alike hK, hD.weaken (fun _ _ _ _ => trivial), by rw [hU]; exact (((N.kept hS.2.1).narrow (ia_free hD hS hA)).warm hW), by rw [hU]; exact (((M.kept hS.2.1).narrow (ia_free hD hS hA)).warm hW)⟩
/-- thrown: the class, and the world as it was left -/
def ex_X (D : va_G) (sa : Nat × Nat) (ws0 : va_W) (sz : Nat) (σ : ia_H) (n : Nat) : String → State → State → Prop := fun E st t => E = ex_E ∧ (∃ (ws : va_W) (tys : List (ClassId × FieldType)), ws.length = n ∧ (∃ x, ws.map Prod.fst = ws0.map Prod.fst ++ x) ∧ ia_R sa tys σ ws ∧ va_P D vwCl ws t.heap ∧ va_K D vwCl tys t ∧ va_D (va_A ws0 sz) ws) ∧ va_F (va_A ws0 sz) st t
noncomputable def ex_rm1 : Room := { frames := 12, cells := 1, slots := 6, locals := 1000 }
noncomputable def ex_rm2 : Room := { frames := 14, cells := 1, slots := 6, locals := 1200 }
def ex_code (cc : ByteArray) (jc is : Nat) : Prop := decode cc 0 = .ok (.aload_n 0, 1) ∧ decode cc 1 = .ok (.iload_n 1, 1) ∧ decode cc 2 = .ok (.invokevirtual jc, 3) ∧ decode cc 5 = .ok (.ifCond .ne 13, 3) ∧ decode cc 8 = .ok (.new 157, 3) ∧ decode cc 11 = .ok (.dup, 1) ∧ decode cc 12 = .ok (.ldc is, 2) ∧ decode cc 14 = .ok (.invokespecial 161, 3) ∧ decode cc 17 = .ok (.athrow, 1)
theorem ia_own11 : ia_own 11 = RX11 := by decide +kernel
set_option maxRecDepth 100000 in
theorem ex_cl : Cond.classLink RX11 157 ex_E ∈ ia_TB := ia_w_tb (p := 1371) (by decide +kernel) (by intro z; cases z) (by decide +kernel)
set_option maxRecDepth 100000 in
theorem ex_in : Cond.initialized ex_E ∈ ia_TB := ia_w_tb (p := 136) (by decide +kernel) (by intro z; cases z) (by decide +kernel)
/-- the class's method throws -/
theorem ex_met (hl : l.stackTraces = false) {y : MethodName} {cc : ByteArray} {jc yi pp is : Nat} {tx : String} {sx bx : Nat} {p0 p1 : Int32} {q : Nat × Nat} {σ σ' : ia_H} {n n' : Nat} {ws : va_W} {tys : List (ClassId × FieldType)} {sz : Nat} (hy : y.cls = RX11) (hin : Cond.code y cc 3 (some .int) ∈ ia_TB) (hd : ex_code cc jc is) (hok : ia_okI 11 (jc, 1, yi, 0, 0, pp) = true) (hna : ia_na yi = 2) (hmc : ia_mc yi = 0) (hms : ia_ms yi = 0) (hci : ia_cls yi = 11)
    (hcall : ia_call 7 yi [.inr (.inr (.inl (some 0))), .inl q] σ n = some (some (.inl (2147483648, 2147483648)), σ', n')) (hc0 : ∃ c0, ia_get2 σ 0 = some c0 ∧ c0.1 = 11) (h1 : q.1 ≤ ia_E p0) (h2 : ia_E p0 ≤ q.2) (hbx : (ws.map Prod.fst)[0]? = some bx) (hn : ws.length = n) (hR : ia_R sa tys σ ws) (hsx : ∀ (B : Nat → Prop) (U : State) (H : Heap), ex_N sb B U H → vk_R RX11 is tx sx U) : vx_Met l y (Cond.code y cc 3 (some .int) :: ia_TB) ex_rm1 (ex_P D sa sb tys ws sz [.ref bx, .int p0, .int p1]) (fun _ _ _ _ => False) (ex_X D sa ws sz σ' n') 1 6 (va_A ws sz) := by
  obtain ⟨d0, d1, d2, d5, d8, d11, d12, d14, d17⟩ := hd
  refine vx_ofW (cc := cc) (maxL := 3) (ret := some .int) (by rw [hy]; decide +kernel) rfl ?_
  intro p e s m args below meth c s₁ B hml ht hv
  obtain ⟨rfl, hszz, hP, hK, hD0, N, M⟩ := hv
  subst hszz
  have hx := B.exec
  have hb := B.bytes
  have hts := atoms_spec (ws := Cond.code y cc 3 (some .int) :: ia_TB) B.pre
  have htb : ∀ w ∈ ia_TB, w.before (#[Value.ref bx, .int p0, .int p1]) s = true := fun w hw => hts w (List.mem_cons_of_mem _ hw)
  have hown : s.vm.findClass RX11 = some m.cls := by rw [← hy]; exact findClass_of_methodNamed B.named
  have hA : ∀ q : Nat, s.heap.size ≤ q → va_A ws s.heap.size q := fun _ h => Or.inr h
  have hD := hD0.self (sz := s.heap.size)
  have hS : va_S (va_A ws s.heap.size) s.heap s.heap [] := va_S.rf
  have hl9 := lv_entry ([.ref bx, .int p0, .int p1]) (n := 3) (Nat.le_of_ble_eq_true rfl)
  rw [show (#[Value.ref bx, .int p0, .int p1] : Array Value) = ([Value.ref bx, .int p0, .int p1] : List Value).toArray from rfl, lg_entry_eq]
  generalize (lg_sl ([Value.ref bx, .int p0, .int p1]) ++ List.replicate (3 - (lg_sl ([Value.ref bx, .int p0, .int p1])).length) Slot.unset).toArray = ls at hl9 ⊢
  have hlv : lv_has ls 3 [(0, .ref bx), (1, .int p0), (2, .int p1)] := hl9
  refine lv_aload_n hx hb d0 rfl (lv_at hlv 0 rfl) ?_
  refine lv_iload_n hx hb d1 rfl (lv_at hlv 1 rfl) ?_
  obtain ⟨k1, k2, k3, k4, k5, k6⟩ := ia_ok1v hok
  obtain ⟨kk, hk1, hk2⟩ := ia_pred k6
  obtain ⟨e1, e2, e3, e4, e5, e6, e7, e8⟩ := ia_okM_eq k1
  rw [ia_own11] at k2
  have hS' : ia_S sa (ws.map Prod.fst) [.inr (.inr (.inl (some 0))), .inl q] [.ref bx, .int p0] := ⟨_, _, rfl, ⟨bx, hbx, rfl⟩, _, _, rfl, ⟨p0, rfl, h1, h2⟩, rfl⟩
  have hmet := ia_met 7 yi _ σ n _ hcall k1 l D sa [.ref bx, .int p0] ws tys s.heap.size hS' hn hR
  have hcb : CallB (headSpec (Cond.code y cc 3 (some .int) :: ia_TB) ex_rm1).room s ([Value.ref bx, .int p0, .int p1] : List Value).toArray RX11 jc (ia_nm yi) (ia_code yi) (ia_maxL yi) (ia_ret yi) (ia_ws yi) (ia_rm 7 yi) (ia_mc yi) (ia_ms yi) kk := callB_of (Ts := Cond.code y cc 3 (some .int) :: ia_TB) (ws' := ia_TB) kk hts (ia_good e2) (by rw [ia_ws, e1]) rfl rfl (htb _ e5) (htb _ k2) ⟨e6, e7, hk2⟩ ⟨by show 7 + 1 ≤ 12; decide, by show 8 + (ia_maxL yi + 11) + 100 * 7 ≤ 1000; omega⟩
  obtain ⟨c0, hg0, hg1⟩ := hc0
  have hcell : ∃ cellB : Cell, s.heap[bx]? = some cellB ∧ cellB.vm.isStatics = false ∧ s.vm.findClass (ia_nm yi).cls = some cellB.cls := by
    obtain ⟨e1, hw, hcc⟩ := hR.at hg0 (by omega) hbx
    obtain ⟨vs0, rfl, -⟩ := hcc.1 (by omega)
    rw [hg1] at hw
    have hz := va_recv (ci := 11) hK hP rfl hw
    rw [e3, hci, ia_own11]
    exact hz
  refine ia_after (va_runV (As := [.int p0]) (rest := []) (Ts := Cond.code y cc 3 (some .int) :: ia_TB) (cc := cc) (nL := 3) (own := RX11) ⟨hx, hb, hml, hown, hts⟩ hmet ⟨hcb, htb _ k3, htb _ k4⟩ ⟨ia_blind, hcell, ia_pre N hK hP hD hS hA⟩ rfl (by show 1 = kk; omega) hlv.1 rfl (lv_room (Nat.le_of_ble_eq_true rfl)) d2 ⟨by rw [hmc]; show 0 + 0 ≤ 1; decide, by rw [hms]; show 0 + 0 ≤ 6; decide⟩) hS (ia_free hD hS hA) (fun ov ws' tys' H1 locs1 q1 q2 q3 q4 q5 q6 q7 q8 => ?_)
  cases ov with
  | none => cases q1
  | some v =>
    obtain ⟨z, rfl, z1, z2⟩ := q1
    have hz0 : z = 0 := ia_E_inj (by rw [ia_E0]; have z1' : 2147483648 ≤ ia_E z := z1; have z2' : ia_E z ≤ 2147483648 := z2; omega)
    subst hz0
    refine lv_if_ne (tgt := 18) hx hb d5 (by decide) (fun w => absurd rfl w) (fun _ => ?_)
    refine ex_throwS (pc := 8) (own := RX11) (cls := ex_E) (text := tx) (Y9 := ex_Y) (names := ex_names) (ix := 13) (rx := ex_rx) (ik := 157) (is := is) (ic := 161) (sa := sx) (A := va_A ws s.heap.size) hx hb hl ex_x0 ex_x1 ex_x2 ex_x5 hown (by decide +kernel) (by decide +kernel) (htb _ ex_cl) (htb _ ex_in) (hsx _ _ _ M) (fun w hw => ?_) ex_ot M.2.2.2.2.1 M.2.2.2.2.2 q8 (hlv.1.trans hml.symm) d8 d11 d12 d14 d17 (fun x hx9 => (ht x hx9).elim) (by show 1 + 4 < 12; decide) (by show 0 + _ ≤ 1000; decide) (by rw [hmc]; show 0 + 0 + 1 ≤ 1; decide) (by rw [hms]; show 0 + 0 + 6 ≤ 6; decide) B.notSynchronized (fun t hvm hsz9 hq9 => ?_) q8.2.2 (by rw [hmc]; decide) (by rw [hms]; decide)
    · by_cases hg : goodWord w = true
      · exact htb w (List.mem_filter.mpr ⟨ex_goods w (List.mem_filter.mpr ⟨hw, hg⟩), hg⟩)
      · have hw' : w ∈ ex_L.filter (fun w => !goodWord w) := List.mem_filter.mpr ⟨hw, by simpa using hg⟩
        exact ex_nw_use (ex_bad w hw').1 (M.2.2.1 w hw')
    · refine ⟨rfl, ⟨ws', tys', q2, q3, q4, q5.kept (fun k q hk => hq9 q.1 ((q5 k q hk).lt)), va_K.moved hvm q6, q7⟩, Nat.le_trans q8.1 hsz9, fun q g1 g2 => ?_⟩
      rw [hq9 q (Nat.lt_of_lt_of_le g1 q8.1)]
      exact q8.2.1 q g1 g2
end EX
end
section
/-! ## the law's own method catches -/
section EX2
variable {p : Program} {l : Launch} {e : Env} {s : State} {m : MethodId} {below : List Frame} {meth : Method} {c : Code} {b L : Nat} {xs : Nat → Int32} {D : va_G} {sa sb : Nat × Nat} {as0 : List Nat} {lx : List (Nat × Value)} {pc : Nat} {n nc ns ax am ao : Nat}
def ex_code2 (cc : ByteArray) (j : Nat) : Prop := decode cc 0 = .ok (.aload_n 3, 1) ∧ decode cc 1 = .ok (.iconst 0, 1) ∧ decode cc 2 = .ok (.aload_n 0, 1) ∧ decode cc 3 = .ok (.iload_n 1, 1) ∧ decode cc 4 = .ok (.iload_n 2, 1) ∧ decode cc 5 = .ok (.invokevirtual j, 3) ∧ decode cc 13 = .ok (.astore 4, 2) ∧ decode cc 15 = .ok (.iconst 1, 1) ∧ decode cc 16 = .ok (.ireturn, 1)
def ex_F (y : MethodName) (cc : ByteArray) (jc yi pp is : Nat) : Prop := y.cls = RX11 ∧ Cond.code y cc 3 (some .int) ∈ ia_TB ∧ ex_code cc jc is ∧ ia_okI 11 (jc, 1, yi, 0, 0, pp) = true ∧ ia_na yi = 2 ∧ ia_mc yi = 0 ∧ ia_ms yi = 0 ∧ ia_cls yi = 11
def ex_F2 (y2 : MethodName) (cc2 : ByteArray) (j : Nat) (y : MethodName) (i : Nat) : Prop := y2.cls = R_law ∧ Cond.codeWith y2 cc2 5 (some .int) [(0, 10, 13, 13)] ∈ ia_TB ∧ ex_code2 cc2 j ∧ Cond.methodLink R_law j y ∈ ia_TB ∧ Cond.instanceMethod y ∈ ia_TB ∧ Cond.selects RX11 y y ∈ ia_TB ∧ (parseMethodDescriptor y.desc).map (fun d => d.parameters.length) = some 2 ∧ Cond.methodLink R_law i y2 ∈ ia_TB ∧ Cond.static y2 ∈ ia_TB ∧ (parseMethodDescriptor y2.desc).map (fun d => d.parameters.length) = some 4
set_option maxRecDepth 100000 in
theorem ex_i11 : Cond.initialized RX11 ∈ ia_TB := ia_w_tb (p := 114) (by decide +kernel) (by intro z; cases z) (by decide +kernel)
set_option maxRecDepth 100000 in
theorem ex_i0 : Cond.initialized R_law ∈ ia_TB := ia_w_tb (p := 113) (by decide +kernel) (by intro z; cases z) (by decide +kernel)
set_option maxRecDepth 100000 in
theorem ex_c13 : Cond.classLink R_law 13 ex_E ∈ ia_TB := ia_w_tb (p := 1366) (by decide +kernel) (by intro z; cases z) (by decide +kernel)
theorem ex_law (hl : l.stackTraces = false) {y2 y : MethodName} {cc2 cc : ByteArray} {i j jc yi pp is : Nat} {tx : String} {sx bx : Nat} {p0 p1 : Int32} {q : Nat × Nat} {σ σ' : ia_H} {n' : Nat} {ws : va_W} {tys : List (ClassId × FieldType)} {sz : Nat} (hF2 : ex_F2 y2 cc2 j y i) (hF : ex_F y cc jc yi pp is)
    (hcall : ia_call 7 yi [.inr (.inr (.inl (some 0))), .inl q] σ n = some (some (.inl (2147483648, 2147483648)), σ', n')) (hc0 : ∃ c0, ia_get2 σ 0 = some c0 ∧ c0.1 = 11) (h1 : q.1 ≤ ia_E p0) (h2 : ia_E p0 ≤ q.2) (hbx : (ws.map Prod.fst)[0]? = some bx) (hn : ws.length = n) (hR : ia_R sa tys σ ws) (hsx : ∀ (B : Nat → Prop) (U : State) (H : Heap), ex_N sb B U H → vk_R RX11 is tx sx U) : Met l y2 (Cond.codeWith y2 cc2 5 (some .int) [(0, 10, 13, 13)] :: ia_TB) ex_rm2 (ex_P D sa sb tys ws sz [.ref bx, .int p0, .int p1, .ref ao]) (ia_Q D sa ws sz (some (.inl (2147483649, 2147483649)), σ', n')) 1 6 (va_A ws sz) := by
  obtain ⟨g0, g1, ⟨d0, d1, d2, d3, d4, d5, d13, d15, d16⟩, g2, g3, g4, g6, -, -, -⟩ := hF2
  obtain ⟨hy, hin, hd, hok, hna, hmc, hms, hci⟩ := id hF
  refine va_MetW (cc := cc2) (maxL := 5) (ret := some .int) (hh := [(0, 10, 13, 13)]) (by rw [g0]; decide +kernel) rfl ?_
  intro p e s m args below meth c s₁ B hml hv
  obtain ⟨rfl, hszz, hP, hK, hD0, N, M⟩ := hv
  subst hszz
  have hx := B.exec
  have hb := B.bytes
  have hts := atoms_spec (ws := Cond.codeWith y2 cc2 5 (some .int) [(0, 10, 13, 13)] :: ia_TB) B.pre
  have htb : ∀ w ∈ ia_TB, w.before (#[Value.ref bx, .int p0, .int p1, .ref ao]) s = true := fun w hw => hts w (List.mem_cons_of_mem _ hw)
  have htab := vx_table (x := y2) B (hts _ List.mem_cons_self)
  have hown : s.vm.findClass R_law = some m.cls := by rw [← g0]; exact findClass_of_methodNamed B.named
  have hA : ∀ q : Nat, s.heap.size ≤ q → va_A ws s.heap.size q := fun _ h => Or.inr h
  have hD := hD0.self (sz := s.heap.size)
  have hS : va_S (va_A ws s.heap.size) s.heap s.heap [] := va_S.rf
  have hl9 := lv_entry ([.ref bx, .int p0, .int p1, .ref ao]) (n := 5) (Nat.le_of_ble_eq_true rfl)
  rw [show (#[Value.ref bx, .int p0, .int p1, .ref ao] : Array Value) = ([Value.ref bx, .int p0, .int p1, .ref ao] : List Value).toArray from rfl, lg_entry_eq]
  generalize (lg_sl ([Value.ref bx, .int p0, .int p1, .ref ao]) ++ List.replicate (5 - (lg_sl ([Value.ref bx, .int p0, .int p1, .ref ao])).length) Slot.unset).toArray = ls at hl9 ⊢
  have hlv : lv_has ls 5 [(0, .ref bx), (1, .int p0), (2, .int p1), (3, .ref ao)] := hl9
  refine lv_aload_n hx hb d0 rfl (lv_at hlv 3 rfl) ?_
  refine lv_iconst (v := 0) hx hb d1 (by decide) ?_
  refine lv_aload_n hx hb d2 rfl (lv_at hlv 0 rfl) ?_
  refine lv_iload_n hx hb d3 rfl (lv_at hlv 1 rfl) ?_
  refine lv_iload_n hx hb d4 rfl (lv_at hlv 2 rfl) ?_
  have hm := ex_met (D := D) (sa := sa) (sb := sb) (tys := tys) (ws := ws) (sz := s.heap.size) (p1 := p1) hl hy hin hd hok hna hmc hms hci hcall hc0 h1 h2 hbx hn hR hsx
  have hcb : CallB (headSpec (Cond.codeWith y2 cc2 5 (some .int) [(0, 10, 13, 13)] :: ia_TB) ex_rm2).room s ([Value.ref bx, .int p0, .int p1, .ref ao] : List Value).toArray R_law j y cc 3 (some .int) (Cond.code y cc 3 (some .int) :: ia_TB) ex_rm1 1 6 2 := callB_of (Ts := Cond.codeWith y2 cc2 5 (some .int) [(0, 10, 13, 13)] :: ia_TB) (ws' := ia_TB) 2 hts (ia_good hin) rfl rfl rfl (by rw [hy]; exact htb _ ex_i11) (htb _ g2) ⟨by rw [hy]; decide, by rw [hy]; decide, g6⟩ ⟨by show 12 + 1 ≤ 14; decide, by show 8 + (3 + 11) + 1000 ≤ 1200; decide⟩
  have hcell : ∃ cellB : Cell, s.heap[bx]? = some cellB ∧ cellB.vm.isStatics = false ∧ s.vm.findClass RX11 = some cellB.cls := by
    obtain ⟨c0, hg0, hg1⟩ := hc0
    obtain ⟨e1, hw, hcc⟩ := hR.at hg0 (by omega) hbx
    obtain ⟨vs0, rfl, -⟩ := hcc.1 (by omega)
    rw [hg1] at hw
    exact va_recv (ci := 11) hK hP rfl hw
  have hr : vx_Run p l e (headSpec (Cond.codeWith y2 cc2 5 (some .int) [(0, 10, 13, 13)] :: ia_TB) ex_rm2).room s m ([Value.ref bx, .int p0, .int p1, .ref ao] : List Value).toArray below meth c s.heap [] 0 0 1 6 (F0 m 5 ls [.int p1, .int p0, .ref bx, .int 0, .ref ao]) [.int 0, .ref ao] (fun _ _ _ => False) (ex_X D sa ws s.heap.size σ' n') (va_A ws s.heap.size) :=
    vx_runV (As := [.int p0, .int p1]) (rest := [.int 0, .ref ao]) (Ts := Cond.codeWith y2 cc2 5 (some .int) [(0, 10, 13, 13)] :: ia_TB) (cc := cc2) (nL := 5) (own := R_law) (C := RX11) ⟨hx, hb, hml, hown, hts⟩ hm ⟨hcb, htb _ g3, htb _ g4⟩ ⟨ex_blind, hcell, ex_pre N M hK hP hD hS hA⟩ rfl rfl hlv.1 rfl (lv_room (Nat.le_of_ble_eq_true rfl)) d5 ⟨by show 0 + 1 ≤ 1; decide, by show 0 + 6 ≤ 6; decide⟩
  intro T hT X
  rcases hr T hT X with ⟨v, st₀, t, T', L9, h0, X', hL, e1, e2, hff, st⟩ | ⟨q9, st₀, t, T', L9, E9, ce, h0, X', hL, e1, e2, ⟨rfl, ⟨ws', tys', f2, f3, f4, f5, f6, f7⟩, hz, hk⟩, hce, hcv, hcl, st⟩
  · exact hff.elim
  · rw [h0] at hz hk
    have hvm : s.vm.Alike t.vm := by rw [← e2]; exact X'.warmed.alike
    have hS' : va_S (va_A ws s.heap.size) s.heap T'.heap ([] ++ L9) := ⟨by rw [e1]; exact hz, fun q h1 h2 => by rw [e1]; exact hk q h1 h2, fun q hq => hL q (by simpa using hq)⟩
    have hW : vx_W p l e (headSpec (Cond.codeWith y2 cc2 5 (some .int) [(0, 10, 13, 13)] :: ia_TB) ex_rm2).room s m ([Value.ref bx, .int p0, .int p1, .ref ao] : List Value).toArray below meth c T'.heap ([] ++ L9) (0 + 1) (0 + 6) (MQ below (ia_Q D sa ws s.heap.size (some (.inl (2147483649, 2147483649)), σ', n')) ([Value.ref bx, .int p0, .int p1, .ref ao] : List Value).toArray s 1 6 (va_A ws s.heap.size)) (F0 m 5 ls [.int 0, .ref ao]) q9 := by
      refine vx_catch (own := R_law) (name := ex_E) (E := ex_E) (ce := ce) hown ⟨0, 10, 13, 13⟩ [] (htab.trans rfl) (by decide) (by decide) (htb _ ex_c13) (ex_nw_use rfl M.2.2.2.1) (by rw [e1]; exact hce) hcv hcl ?_
      refine lv_astore (i := 4) (lv' := [(4, .ref q9), (0, .ref bx), (1, .int p0), (2, .int p1), (3, .ref ao)]) hx hb d13 hlv (by decide) rfl (fun ls hl => ?_)
      refine lv_iconst (v := 1) hx hb d15 (by decide) ?_
      exact W.iret (cells := 1) (slots := 6) hx hb B.returns (ia_fin (r := some (.inl (2147483649, 2147483649))) ⟨1, rfl, by decide, by decide⟩ (va_K.moved hvm.symm f6) (by rw [e1]; exact f5) f7 hS' f2 f4 f3) hS'.2.2 d16 B.notSynchronized
    obtain ⟨t2, a1, b1⟩ := hW T' rfl X'
    exact ⟨t2, st.trans a1, b1⟩
/-- the law's line: its own method answers 1 -/
theorem ex_line1 (hl : l.stackTraces = false) (C0 : lw_At p s m meth c b L xs) (N : ia_N sa (fun q : Nat => s.heap.size ≤ q) s s.heap) (M : ex_N sb (fun q : Nat => s.heap.size ≤ q) s s.heap) {y2 y : MethodName} {cc2 cc : ByteArray} {i j jc yi pp is : Nat} {tx : String} {sx : Nat} {p0 p1 : Int32} {q : Nat × Nat} {σ σ' : ia_H} {n' : Nat} (hF2 : ex_F2 y2 cc2 j y i) (hF : ex_F y cc jc yi pp is)
    (hcall : ia_call 7 yi [.inr (.inr (.inl (some 0))), .inl q] σ n = some (some (.inl (2147483648, 2147483648)), σ', n')) (hc0 : ∃ c0, ia_get2 σ 0 = some c0 ∧ c0.1 = 11) (h1 : q.1 ≤ ia_E p0) (h2 : ia_E p0 ≤ q.2) (hax : as0[0]? = some ax) (hsx : ∀ (B : Nat → Prop) (U : State) (H : Heap), ex_N sb B U H → vk_R RX11 is tx sx U) (hd : decode code pc = .ok (.invokestatic i, 3)) (hc : nc + 1 ≤ 600002) (hs : ns + 6 ≤ 7302232)
    (k : lx_W p l e s m below meth c b D sa as0 lx (pc + 3) [.int 1] σ' n' (nc + 1) (ns + 6)) : lx_W p l e s m below meth c b D sa as0 lx pc [.ref ao, .int p1, .int p0, .ref ax] σ n nc ns := by
  obtain ⟨hx, hb, hr, hml, hown, hts, hX, hbl, hlocks, hgv⟩ := id C0
  intro H locs ws tys ls hl9 hG
  obtain ⟨hK, hP, hD, hS, hn, hR, x0, hx0⟩ := id hG
  have hA : ∀ q : Nat, s.heap.size ≤ q → (fun q : Nat => s.heap.size ≤ q) q := fun _ h => h
  have hb0 : (ws.map Prod.fst)[0]? = some ax := by rw [hx0]; exact ia_app_mono _ _ hax
  have hm := ex_law (D := D) (sa := sa) (sb := sb) (tys := tys) (ws := ws) (sz := H.size) (ao := ao) (p1 := p1) hl hF2 hF hcall hc0 h1 h2 hb0 hn hR hsx
  obtain ⟨g0, g1, -, g2, g3, g4, g6, w1, w2, w4⟩ := id hF2
  have hGood : GoodIn lw_tbl (va_wsS R_law i y2 (Cond.codeWith y2 cc2 5 (some .int) [(0, 10, 13, 13)] :: ia_TB)) := by
    intro z hz
    have hz' : z ∈ ia_TB := by
      unfold va_wsS at hz
      rcases List.mem_append.mp hz with hz | hz
      · simp only [List.mem_cons, List.not_mem_nil, or_false] at hz
        rcases hz with rfl | rfl | rfl
        · exact w1
        · exact w2
        · rw [g0]; exact ex_i0
      · rcases List.mem_cons.mp hz with rfl | q
        · exact g1
        · exact q
    exact ⟨(List.mem_filter.mp hz').1, good_of_word (List.mem_filter.mp hz').2⟩
  have cw := vx_cwSW (R := room_1) (args := #[Value.ref b]) (s := s) (own := R_law) (index := i) (mc := 1) (ms := 6) (rm := ex_rm2) (Ts := lw_tbl) (ws' := ia_TB) 4 hts hGood rfl rfl rfl ⟨by rw [g0]; decide, by rw [g0]; decide, w4⟩ ⟨by show 14 + 1 ≤ 2048; decide, by show 8 + (5 + 11) + 1200 ≤ 84000; decide⟩
  refine ia_after (vx_runSW (As := [.ref ax, .int p0, .int p1, .ref ao]) (rest := []) (Ts := lw_tbl) (cc := code) (nL := 7) (own := R_law) ⟨hx, hb, hml, hown, hts⟩ hm cw ⟨ex_blind, ex_pre N M hK hP hD hS hA⟩ rfl rfl hl9.1 rfl (lv_room (Nat.le_of_ble_eq_true rfl)) hd ⟨hc, hs⟩) hS (ia_free hD hS hA) (fun ov ws' tys' H1 locs1 q1 q2 q3 q4 q5 q6 q7 q8 => ?_)
  obtain ⟨x1, hx1⟩ := q3
  cases ov with
  | none => cases q1
  | some v =>
    obtain ⟨z, rfl, z1, z2⟩ := q1
    have hz1 : z = 1 := ia_E_inj (by have z1' : 2147483649 ≤ ia_E z := z1; have z2' : ia_E z ≤ 2147483649 := z2; rw [show ia_E 1 = 2147483649 from by decide]; omega)
    subst hz1
    exact k H1 locs1 ws' tys' ls hl9 ⟨q6, q5, q7, q8, q2, q4, x0 ++ x1, by rw [hx1, hx0, List.append_assoc]⟩
/-- the printed line -/
def ex_co (pc i iy py yy t1 t2 : Nat) (o : Int) : Prop := decode code pc = .ok (.aload_n 1, 1) ∧ lx_a (pc + 1) 1 ∧ lx_a (pc + 1 + 6) 2 ∧ decode code (pc + 1 + 6 + 6) = .ok (.aload_n 3, 1) ∧ decode code (pc + 1 + 6 + 6 + 1) = .ok (.invokestatic i, 3) ∧ decode code (pc + 1 + 6 + 6 + 1 + 3) = .ok (.istore 5, 2) ∧ decode code (pc + 1 + 6 + 6 + 1 + 3 + 2) = .ok (.aload_n 2, 1) ∧ lx_a (pc + 1 + 6 + 6 + 1 + 3 + 2 + 1) 1 ∧ lx_a (pc + 1 + 6 + 6 + 1 + 3 + 2 + 1 + 6) 2 ∧ decode code (pc + 1 + 6 + 6 + 1 + 3 + 2 + 1 + 6 + 6) = .ok (.invokevirtual iy, 3) ∧ decode code (pc + 1 + 6 + 6 + 1 + 3 + 2 + 1 + 6 + 6 + 3) = .ok (.istore 6, 2) ∧ decode code (pc + 1 + 6 + 6 + 1 + 3 + 2 + 1 + 6 + 6 + 3 + 2) = .ok (.aload_n 2, 1) ∧ decode code (pc + 1 + 6 + 6 + 1 + 3 + 2 + 1 + 6 + 6 + 3 + 2 + 1) = .ok (.invokevirtual 47, 3) ∧ decode code (pc + 1 + 6 + 6 + 1 + 3 + 2 + 1 + 6 + 6 + 3 + 2 + 1 + 3) = .ok (.iload 5, 2) ∧ decode code (pc + 1 + 6 + 6 + 1 + 3 + 2 + 1 + 6 + 6 + 3 + 2 + 1 + 3 + 2) = .ok (.if_icmp .eq 5, 3) ∧ ((pc + 1 + 6 + 6 + 1 + 3 + 2 + 1 + 6 + 6 + 3 + 2 + 1 + 3 + 2 : Nat) : Int) + 5 = ((t1 : Nat) : Int) ∧ decode code t1 = .ok (.iload 5, 2) ∧ decode code (t1 + 2) = .ok (.ifCond .ne 15, 3) ∧ ((t1 + 2 : Nat) : Int) + 15 = ((t2 : Nat) : Int) ∧ decode code t2 = .ok (.goto o, 3) ∧ ((t2 : Nat) : Int) + o = ((1321 : Nat) : Int) ∧ ia_okI 18 (iy, 1, yy, 0, 0, py) = true ∧ 3 = ia_na yy ∧ ia_cls yy = 12 ∧ ia_mc yy = 0 ∧ ia_ms yy = 0
noncomputable def ex_chk (yi yy yt : Nat) (q : Nat × Nat) : Bool := match ia_call 7 yi [ia_rx, .inl q] ia_S4 205 with
  | some (some (.inl a), σ, n) => (match ia_call 7 yy [ia_ry, .inl q, .inl (0, 4294967295)] σ n with
    | some (some (.inl _), σ2, n2) => (match ia_call 7 yt [ia_ry] σ2 n2 with
      | some (some (.inl t), _, _) => Nat.beq a.1 2147483648 && (Nat.beq a.2 2147483648 && (Nat.beq t.1 2147483649 && (Nat.beq t.2 2147483649 && ((match ia_get2 σ 184 with
        | some c => Nat.beq c.1 12
        | none => false) && (match ia_get2 σ2 184 with
        | some c => Nat.beq c.1 12
        | none => false)))))
      | _ => false)
    | _ => false)
  | _ => false
theorem ex_184 {σ : ia_H} {y : Nat} (hy : ia_cls y = 12) (h : (match ia_get2 σ 184 with
        | some c => Nat.beq c.1 12
        | none => false) = true) : ∃ c0, ia_get2 σ 184 = some c0 ∧ c0.1 = ia_cls y ∧ c0.1 < 13 := by
  split at h
  · rename_i c1 hc1
    have := ia_beq h
    exact ⟨c1, hc1, by rw [hy]; exact this, by omega⟩
  · cases h
theorem ex_160 : ia_cls 160 = 12 ∧ ia_na 160 = 1 ∧ ia_mc 160 = 0 ∧ ia_ms 160 = 0 := by decide +kernel
theorem ex_line (hl : l.stackTraces = false) (C0 : lw_At p s m meth c b L xs) (N : ia_N sa (fun q : Nat => s.heap.size ≤ q) s s.heap) (M : ex_N sb (fun q : Nat => s.heap.size ≤ q) s s.heap) (hL : L = 6) (hax : as0[0]? = some ax) (ham : as0[184]? = some am) (hc0 : ∃ c0, ia_get2 ia_S4 0 = some c0 ∧ c0.1 = 11) {y2 y : MethodName} {cc2 cc : ByteArray} {i j jc yi pp is iy py yy t1 t2 p47 yt : Nat} {o : Int} {tx : String} {sx : Nat} {q : Nat × Nat} (hF2 : ex_F2 y2 cc2 j y i) (hF : ex_F y cc jc yi pp is) (hq : ex_co pc i iy py yy t1 t2 o) (h47 : ia_okI 18 (47, 1, yt, 0, 0, p47) = true) (u0 : ia_cls yt = 12 ∧ ia_na yt = 1 ∧ ia_mc yt = 0 ∧ ia_ms yt = 0)
    (h1 : q.1 ≤ ia_E (xs 1)) (h2 : ia_E (xs 1) ≤ q.2) (hk : ex_chk yi yy yt q = true) (hsx : ∀ (B : Nat → Prop) (U : State) (H : Heap), ex_N sb B U H → vk_R RX11 is tx sx U) (hc : nc + 1 ≤ 600002) (hs : ns + 6 ≤ 7302232) : lx_W p l e s m below meth c b D sa as0 (lx_lv b ax am ao) pc [] ia_S4 205 nc ns := by
  obtain ⟨hx, hb, hr, hml, hown, hts, hX, hbl, hlocks, hgv⟩ := id C0
  obtain ⟨a1, a2, a3, a4, a5, a6, a7, a8, a9, a10, a11, a12, a13, a14, a15, a16, a17, a18, a19, a20, a21, a22, a23, a24, a25, a26⟩ := hq
  obtain ⟨u1, u2, u3, u4⟩ := u0
  have hl0 : (0, Value.ref b) ∈ lx_lv b ax am ao := by simp [lx_lv]
  have hl1 : (1, Value.ref ax) ∈ lx_lv b ax am ao := by simp [lx_lv]
  have hl2 : (2, Value.ref am) ∈ lx_lv b ax am ao := by simp [lx_lv]
  have hl3 : (3, Value.ref ao) ∈ lx_lv b ax am ao := by simp [lx_lv]
  have hl4 : (4, Value.int 0) ∈ lx_lv b ax am ao := by simp [lx_lv]
  unfold ex_chk at hk
  split at hk
  · rename_i ra σ1 n1 hcall1
    split at hk
    · rename_i rb σ2 n2 hcall2
      split at hk
      · rename_i rt σ3 n3 hcall3
        simp only [Bool.and_eq_true] at hk
        obtain ⟨b1, b2, b3, b4, b5, b6⟩ := hk
        have b1 := ia_beq b1
        have b2 := ia_beq b2
        have b3 := ia_beq b3
        have b4 := ia_beq b4
        obtain ⟨r1, r2⟩ := ra
        have b1' : r1 = 2147483648 := b1
        have b2' : r2 = 2147483648 := b2
        subst b1'; subst b2'
        intro H locs ws tys ls hl9 hG
        refine lv_aload_n hx hb a1 rfl (hl9.2.2 _ hl1) ?_
        refine lx_arg (lx := lx_lv b ax am ao) C0 hL hl0 hl4 (j := 1) (by decide) a2 ?_ H locs ws tys ls hl9 hG
        refine lx_arg (lx := lx_lv b ax am ao) C0 hL hl0 hl4 (j := 2) (by decide) a3 ?_
        intro H locs ws tys ls hl9 hG
        refine lv_aload_n hx hb a4 rfl (hl9.2.2 _ hl3) ?_
        refine ex_line1 (lx := lx_lv b ax am ao) hl C0 N M hF2 hF hcall1 hc0 h1 h2 hax hsx a5 hc hs ?_ H locs ws tys ls hl9 hG
        intro H locs ws tys ls hl9 hG
        refine lv_istore (i := 5) (lv' := (5, .int 1) :: lx_lv b ax am ao) hx hb a6 hl9 (by decide) rfl (fun ls hl9 => ?_)
        refine lv_aload_n hx hb a7 rfl (hl9.2.2 _ (List.mem_cons_of_mem _ hl2)) ?_
        refine lx_arg (lx := (5, .int 1) :: lx_lv b ax am ao) C0 hL (List.mem_cons_of_mem _ hl0) (List.mem_cons_of_mem _ hl4) (j := 1) (by decide) a8 ?_ H locs ws tys ls hl9 hG
        refine lx_arg (lx := (5, .int 1) :: lx_lv b ax am ao) C0 hL (List.mem_cons_of_mem _ hl0) (List.mem_cons_of_mem _ hl4) (j := 2) (by decide) a9 ?_
        refine lx_call (lx := (5, .int 1) :: lx_lv b ax am ao) C0 N (kx := 184) (as := [.inl q, .inl (0, 4294967295)]) (vs := [.int (xs 1), .int (xs 2)]) (rest := []) a22 a10 (by decide) hcall2 ham (ex_184 a24 b5) (fun ad => ⟨_, _, rfl, ⟨_, rfl, h1, h2⟩, _, _, rfl, ⟨_, rfl, Nat.zero_le _, by have := ia_E_lt (xs 2); show ia_E (xs 2) ≤ 4294967295; omega⟩, rfl⟩) (by show 2 + 1 = ia_na yy; omega) ⟨by omega, by omega⟩ (fun v _ _ => ?_)
        intro H locs ws tys ls hl9 hG
        refine lv_istore (i := 6) (lv' := (6, .int v) :: (5, .int 1) :: lx_lv b ax am ao) hx hb a11 hl9 (by decide) rfl (fun ls hl9 => ?_)
        refine lv_aload_n hx hb a12 rfl (hl9.2.2 _ (List.mem_cons_of_mem _ (List.mem_cons_of_mem _ hl2))) ?_
        refine lx_call (lx := (6, .int v) :: (5, .int 1) :: lx_lv b ax am ao) C0 N (kx := 184) (as := []) (vs := []) (rest := []) h47 a13 (by decide) hcall3 ham (ex_184 u1 b6) (fun ad => rfl) (by show 0 + 1 = ia_na yt; omega) ⟨by omega, by omega⟩ (fun w w1 w2 => ?_) H locs ws tys ls hl9 hG
        intro H locs ws tys ls hl9 hG
        have hw1 : w = 1 := ia_E_inj (by rw [show ia_E 1 = 2147483649 from by decide]; omega)
        subst hw1
        refine lv_iload hx hb a14 (lv_at hl9 1 rfl) ?_
        refine lv_icmp_eq (tgt := t1) hx hb a15 a16 (fun _ => ?_) (fun z => absurd rfl z)
        refine lv_iload hx hb a17 (lv_at hl9 1 rfl) ?_
        refine lv_if_ne (tgt := t2) hx hb a18 a19 (fun _ => ?_) (fun z => absurd z (by decide))
        refine lv_goto (tgt := 1321) hx hb a20 a21 ?_
        exact lx_end C0 hL (by omega) (by omega) H locs ws tys ls (lv_sub hl9 [2, 3, 4, 5, 6] rfl) hG
      · cases hk
    · cases hk
  · cases hk
set_option maxRecDepth 100000 in
theorem ex_M (C0 : lw_At p s m meth c b L xs) : ∃ sb, ex_N sb (fun q : Nat => s.heap.size ≤ q) s s.heap := by
  obtain ⟨hx, hb, hr, hml, hown, hts, hX, hbl, hlocks, hgv⟩ := id C0
  have hs := flat_of_before _ hgv
  have hA : ∀ a : Nat, a < s.heap.size → ¬ (fun q : Nat => s.heap.size ≤ q) a := fun a h => Nat.not_le.mpr h
  obtain ⟨a1, c1, cA1, kA1, e1, -⟩ := Cond.exactly_spec (args := #[Value.ref b]) (first := s) (o := none) (s := s) (idx := []) (t := .string RX11 159) (cls := "java/lang/String") (hs _ (by decide +kernel))
  obtain ⟨a2, c2, cA2, kA2, e2, -⟩ := Cond.exactly_spec (args := #[Value.ref b]) (first := s) (o := none) (s := s) (idx := []) (t := .string RX11 218) (cls := "java/lang/String") (hs _ (by decide +kernel))
  refine ⟨(a1, a2), ?_, ?_, fun w hw => ex_nw_of (ex_bad w hw).1 (hts _ (ex_bad w hw).2), ?_, ?_, ?_⟩
  · exact vk_R.of (hts _ (ia_w_in (p := 1410) (w := .stringRef RX11 159 "no such person") (by decide +kernel) (by intro z; cases z))) e1
  · exact vk_R.of (hts _ (ia_w_in (p := 1449) (w := .stringRef RX11 218 "no such debt") (by decide +kernel) (by intro z; cases z))) e2
  · exact ex_nw_of rfl (hts _ (ia_w_in (p := 1373) (w := .castable ex_E ex_E) (by decide +kernel) (by intro z; cases z)))
  · exact vx_Zqof (hts _ (ia_w_in (p := 1398) (w := .laysStatic Bundle.tN "UNASSIGNED_STACK" Bundle.steD) (by decide +kernel) (by intro z; cases z))) (hts _ (ia_w_in (p := 133) (w := .initialized Bundle.tN) (by decide +kernel) (by intro z; cases z))) (hs _ (by decide +kernel)) hA
  · exact vx_Zqof (hts _ (ia_w_in (p := 1400) (w := .laysStatic Bundle.tN "SUPPRESSED_SENTINEL" Bundle.listD) (by decide +kernel) (by intro z; cases z))) (hts _ (ia_w_in (p := 133) (w := .initialized Bundle.tN) (by decide +kernel) (by intro z; cases z))) (hs _ (by decide +kernel)) hA
end EX2
/-! ### the two lines, as they are printed -/
def ex_yp : MethodName := ⟨RX11, "person", "(II)I"⟩
def ex_yd : MethodName := ⟨RX11, "debt", "(II)I"⟩
def ex_zp : MethodName := ⟨R_law, "person", "(LHungerDays;II[J)I"⟩
def ex_zd : MethodName := ⟨R_law, "debt", "(LHungerDays;II[J)I"⟩
set_option maxRecDepth 100000 in
theorem ex_Fp : ex_F ex_yp prog_1_method_13_code 153 23 905 159 := ⟨rfl, ia_w_tb (p := 1370) (by decide +kernel) (by intro z; cases z) (by decide +kernel), by unfold ex_code; decide +kernel, by decide +kernel, by decide +kernel, by decide +kernel, by decide +kernel, by decide +kernel⟩
set_option maxRecDepth 100000 in
theorem ex_Fd : ex_F ex_yd prog_1_method_16_code 215 19 1187 218 := ⟨rfl, ia_w_tb (p := 1448) (by decide +kernel) (by intro z; cases z) (by decide +kernel), by unfold ex_code; decide +kernel, by decide +kernel, by decide +kernel, by decide +kernel, by decide +kernel, by decide +kernel⟩
set_option maxRecDepth 100000 in
theorem ex_F2p : ex_F2 ex_zp method_3_code 7 ex_yp 41 := ⟨rfl, ia_w_tb (p := 1365) (by decide +kernel) (by intro z; cases z) (by decide +kernel), by unfold ex_code2; decide +kernel, ia_w_tb (p := 1367) (by decide +kernel) (by intro z; cases z) (by decide +kernel), ia_w_tb (p := 1368) (by decide +kernel) (by intro z; cases z) (by decide +kernel), ia_w_tb (p := 1369) (by decide +kernel) (by intro z; cases z) (by decide +kernel), by decide +kernel, ia_w_tb (p := 1363) (by decide +kernel) (by intro z; cases z) (by decide +kernel), ia_w_tb (p := 1364) (by decide +kernel) (by intro z; cases z) (by decide +kernel), by decide +kernel⟩
set_option maxRecDepth 100000 in
theorem ex_F2d : ex_F2 ex_zd method_4_code 15 ex_yd 58 := ⟨rfl, ia_w_tb (p := 1444) (by decide +kernel) (by intro z; cases z) (by decide +kernel), by unfold ex_code2; decide +kernel, ia_w_tb (p := 1445) (by decide +kernel) (by intro z; cases z) (by decide +kernel), ia_w_tb (p := 1446) (by decide +kernel) (by intro z; cases z) (by decide +kernel), ia_w_tb (p := 1447) (by decide +kernel) (by intro z; cases z) (by decide +kernel), by decide +kernel, ia_w_tb (p := 1442) (by decide +kernel) (by intro z; cases z) (by decide +kernel), ia_w_tb (p := 1443) (by decide +kernel) (by intro z; cases z) (by decide +kernel), by decide +kernel⟩
set_option maxRecDepth 100000 in
theorem ex_cop : ex_co 336 41 46 1734 162 384 401 920 := by unfold ex_co lx_a; refine ⟨?_, ⟨?_, ?_, ?_, ?_, ?_⟩, ⟨?_, ?_, ?_, ?_, ?_⟩, ?_, ?_, ?_, ?_, ⟨?_, ?_, ?_, ?_, ?_⟩, ⟨?_, ?_, ?_, ?_, ?_⟩, ?_, ?_, ?_, ?_, ?_, ?_, ?_, ?_, ?_, ?_, ?_, ?_, ?_, ?_, ?_, ?_, ?_⟩ <;> decide +kernel
set_option maxRecDepth 100000 in
theorem ex_cod : ex_co 478 58 60 1786 163 526 543 778 := by unfold ex_co lx_a; refine ⟨?_, ⟨?_, ?_, ?_, ?_, ?_⟩, ⟨?_, ?_, ?_, ?_, ?_⟩, ?_, ?_, ?_, ?_, ⟨?_, ?_, ?_, ?_, ?_⟩, ⟨?_, ?_, ?_, ?_, ?_⟩, ?_, ?_, ?_, ?_, ?_, ?_, ?_, ?_, ?_, ?_, ?_, ?_, ?_, ?_, ?_, ?_, ?_⟩ <;> decide +kernel
set_option maxRecDepth 100000 in
theorem ex_47 : ia_okI 18 (47, 1, 160, 0, 0, 1452) = true := by decide +kernel
def ex_q0 : Nat × Nat := (0, 2147483647)
def ex_q1 : Nat × Nat := (2147483648, 4294967295)
set_option maxRecDepth 100000 in
theorem ex_rp0 : ex_chk 23 162 160 ex_q0 = true := by decide +kernel
set_option maxRecDepth 100000 in
theorem ex_rp1 : ex_chk 23 162 160 ex_q1 = true := by decide +kernel
set_option maxRecDepth 100000 in
theorem ex_rd0 : ex_chk 19 163 160 ex_q0 = true := by decide +kernel
set_option maxRecDepth 100000 in
theorem ex_rd1 : ex_chk 19 163 160 ex_q1 = true := by decide +kernel
theorem ex_split (x : Int32) : (ex_q0.1 ≤ ia_E x ∧ ia_E x ≤ ex_q0.2) ∨ (ex_q1.1 ≤ ia_E x ∧ ia_E x ≤ ex_q1.2) := by
  have h := ia_E_lt x
  show (0 ≤ ia_E x ∧ ia_E x ≤ 2147483647) ∨ (2147483648 ≤ ia_E x ∧ ia_E x ≤ 4294967295)
  omega
end
section
/-! ## the law's switch, its start (wip/p1/genwalk.py) -/
section LX5
variable {p : Program} {l : Launch} {e : Env} {s : State} {m : MethodId} {below : List Frame} {meth : Method} {c : Code} {b L : Nat} {xs : Nat → Int32} {D : va_G} {sa sb : Nat × Nat} {as0 : List Nat} {nc ns ax am ao : Nat}
theorem d_law_33 : decode code 33 = .ok (.aload_n 0, 1) := by decide +kernel
theorem d_law_34 : decode code 34 = .ok (.iload 4, 2) := by decide +kernel
theorem d_law_36 : decode code 36 = .ok (.iaload, 1) := by decide +kernel
theorem d_law_37 : decode code 37 = .ok (.bipush 63, 2) := by decide +kernel
theorem d_law_39 : decode code 39 = .ok (.iand, 1) := by decide +kernel
theorem d_law_40 : decode code 40 = .ok (.tableswitch 1281 0 38 #[172, 245, 270, 283, 296, 364, 401, 438, 506, 531, 568, 593, 618, 643, 668, 681, 706, 719, 744, 769, 782, 795, 808, 821, 858, 883, 920, 945, 970, 1007, 1032, 1069, 1118, 1143, 1168, 1181, 1206, 1231, 1256], 172) := by decide +kernel
theorem lx_c0 : ∃ c0, ia_get2 ia_S4 0 = some c0 ∧ c0.1 = 11 := by
  have h := ia_ok0c
  split at h
  · rename_i c0 hc0
    exact ⟨c0, hc0, ia_beq h⟩
  · cases h
theorem lx_sw (hl : l.stackTraces = false) (C0 : lw_At p s m meth c b L xs) (N : ia_N sa (fun q : Nat => s.heap.size ≤ q) s s.heap) (M : ex_N sb (fun q : Nat => s.heap.size ≤ q) s s.heap) (hL : L = 6) (hax : as0[0]? = some ax) (ham : as0[184]? = some am) (hc : nc + 1 ≤ 600002) (hs : ns + 6 ≤ 7302232) {j : Nat} (hj : j < 64) : lx_W p l e s m below meth c b D sa as0 (lx_lv b ax am ao) 40 [.int (nI j)] ia_S4 205 nc ns := by
  obtain ⟨hx, hb, hr, hml, hown, hts, hX, hbl, hlocks, hgv⟩ := id C0
  intro H locs ws tys ls hl9 hG
  rcases (show j = 0 ∨ j = 1 ∨ j = 2 ∨ j = 3 ∨ j = 4 ∨ j = 5 ∨ j = 6 ∨ j = 7 ∨ j = 8 ∨ j = 9 ∨ j = 10 ∨ j = 11 ∨ j = 12 ∨ j = 13 ∨ j = 14 ∨ j = 15 ∨ j = 16 ∨ j = 17 ∨ j = 18 ∨ j = 19 ∨ j = 20 ∨ j = 21 ∨ j = 22 ∨ j = 23 ∨ j = 24 ∨ j = 25 ∨ j = 26 ∨ j = 27 ∨ j = 28 ∨ j = 29 ∨ j = 30 ∨ j = 31 ∨ j = 32 ∨ j = 33 ∨ j = 34 ∨ j = 35 ∨ j = 36 ∨ j = 37 ∨ j = 38 ∨ 39 ≤ j from by omega) with rfl | rfl | rfl | rfl | rfl | rfl | rfl | rfl | rfl | rfl | rfl | rfl | rfl | rfl | rfl | rfl | rfl | rfl | rfl | rfl | rfl | rfl | rfl | rfl | rfl | rfl | rfl | rfl | rfl | rfl | rfl | rfl | rfl | rfl | rfl | rfl | rfl | rfl | rfl | hj9
  · refine lv_tableIn (off := 172) (tgt := 212) hx hb d_law_40 (by decide +kernel) (by decide +kernel) (by decide +kernel) (by decide) ?_
    exact lx_two C0 N hL hax ham lx_c0 (lx_cb_ok lq_feed) (ia_pick (sa := sa) (xs := xs) _ 0 [] [] lc_feed lk_feed (fun _ => rfl)) (by omega) (by omega) H locs ws tys ls hl9 hG
  · refine lv_tableIn (off := 245) (tgt := 285) hx hb d_law_40 (by decide +kernel) (by decide +kernel) (by decide +kernel) (by decide) ?_
    exact lx_two C0 N hL hax ham lx_c0 (lx_cb_ok lq_end) (ia_pick (sa := sa) (xs := xs) _ 0 [] [] lc_end lk_end (fun _ => rfl)) (by omega) (by omega) H locs ws tys ls hl9 hG
  · refine lv_tableIn (off := 270) (tgt := 310) hx hb d_law_40 (by decide +kernel) (by decide +kernel) (by decide +kernel) (by decide) ?_
    exact lx_two C0 N hL hax ham lx_c0 (lx_cb_ok lq_valley) (ia_pick (sa := sa) (xs := xs) _ 0 [] [] lc_valley lk_valley (fun _ => rfl)) (by omega) (by omega) H locs ws tys ls hl9 hG
  · refine lv_tableIn (off := 283) (tgt := 323) hx hb d_law_40 (by decide +kernel) (by decide +kernel) (by decide +kernel) (by decide) ?_
    exact lx_two C0 N hL hax ham lx_c0 (lx_cb_ok lq_fault) (ia_pick (sa := sa) (xs := xs) _ 0 [] [] lc_fault lk_fault (fun _ => rfl)) (by omega) (by omega) H locs ws tys ls hl9 hG
  · refine lv_tableIn (off := 296) (tgt := 336) hx hb d_law_40 (by decide +kernel) (by decide +kernel) (by decide +kernel) (by decide) ?_
    rcases ex_split (xs 1) with ⟨h1, h2⟩ | ⟨h1, h2⟩
    · exact ex_line hl C0 N M hL hax ham lx_c0 (tx := "no such person") (sx := sb.1) ex_F2p ex_Fp ex_cop ex_47 ex_160 h1 h2 ex_rp0 (fun _ _ _ h => h.1) hc hs H locs ws tys ls hl9 hG
    · exact ex_line hl C0 N M hL hax ham lx_c0 (tx := "no such person") (sx := sb.1) ex_F2p ex_Fp ex_cop ex_47 ex_160 h1 h2 ex_rp1 (fun _ _ _ h => h.1) hc hs H locs ws tys ls hl9 hG
  · refine lv_tableIn (off := 364) (tgt := 404) hx hb d_law_40 (by decide +kernel) (by decide +kernel) (by decide +kernel) (by decide) ?_
    exact lx_two C0 N hL hax ham lx_c0 (lx_cb_ok lq_food) (ia_pick (sa := sa) (xs := xs) _ 0 [] [] lc_food lk_food (fun _ => rfl)) (by omega) (by omega) H locs ws tys ls hl9 hG
  · refine lv_tableIn (off := 401) (tgt := 441) hx hb d_law_40 (by decide +kernel) (by decide +kernel) (by decide +kernel) (by decide) ?_
    exact lx_two C0 N hL hax ham lx_c0 (lx_cb_ok lq_meeting) (ia_pick (sa := sa) (xs := xs) _ 0 [] [] lc_meeting lk_meeting (fun _ => rfl)) (by omega) (by omega) H locs ws tys ls hl9 hG
  · refine lv_tableIn (off := 438) (tgt := 478) hx hb d_law_40 (by decide +kernel) (by decide +kernel) (by decide +kernel) (by decide) ?_
    rcases ex_split (xs 1) with ⟨h1, h2⟩ | ⟨h1, h2⟩
    · exact ex_line hl C0 N M hL hax ham lx_c0 (tx := "no such debt") (sx := sb.2) ex_F2d ex_Fd ex_cod ex_47 ex_160 h1 h2 ex_rd0 (fun _ _ _ h => h.2.1) hc hs H locs ws tys ls hl9 hG
    · exact ex_line hl C0 N M hL hax ham lx_c0 (tx := "no such debt") (sx := sb.2) ex_F2d ex_Fd ex_cod ex_47 ex_160 h1 h2 ex_rd1 (fun _ _ _ h => h.2.1) hc hs H locs ws tys ls hl9 hG
  · refine lv_tableIn (off := 506) (tgt := 546) hx hb d_law_40 (by decide +kernel) (by decide +kernel) (by decide +kernel) (by decide) ?_
    exact lx_two C0 N hL hax ham lx_c0 (lx_cb_ok lq_now) (ia_pick (sa := sa) (xs := xs) _ 0 [] [] lc_now lk_now (fun _ => rfl)) (by omega) (by omega) H locs ws tys ls hl9 hG
  · refine lv_tableIn (off := 531) (tgt := 571) hx hb d_law_40 (by decide +kernel) (by decide +kernel) (by decide +kernel) (by decide) ?_
    exact lx_two C0 N hL hax ham lx_c0 (lx_cb_ok lq_eat) (ia_pick (sa := sa) (xs := xs) _ 0 [] [] lc_eat lk_eat (fun _ => rfl)) (by omega) (by omega) H locs ws tys ls hl9 hG
  · refine lv_tableIn (off := 568) (tgt := 608) hx hb d_law_40 (by decide +kernel) (by decide +kernel) (by decide +kernel) (by decide) ?_
    exact lx_two C0 N hL hax ham lx_c0 (lx_cb_ok lq_ail) (ia_pick (sa := sa) (xs := xs) _ 0 [] [] lc_ail lk_ail (fun _ => rfl)) (by omega) (by omega) H locs ws tys ls hl9 hG
  · refine lv_tableIn (off := 593) (tgt := 633) hx hb d_law_40 (by decide +kernel) (by decide +kernel) (by decide +kernel) (by decide) ?_
    exact lx_two C0 N hL hax ham lx_c0 (lx_cb_ok lq_mend) (ia_pick (sa := sa) (xs := xs) _ 0 [] [] lc_mend lk_mend (fun _ => rfl)) (by omega) (by omega) H locs ws tys ls hl9 hG
  · refine lv_tableIn (off := 618) (tgt := 658) hx hb d_law_40 (by decide +kernel) (by decide +kernel) (by decide +kernel) (by decide) ?_
    exact lx_two C0 N hL hax ham lx_c0 (lx_cb_ok lq_meet) (ia_pick (sa := sa) (xs := xs) _ 0 [] [] lc_meet lk_meet (fun _ => rfl)) (by omega) (by omega) H locs ws tys ls hl9 hG
  · refine lv_tableIn (off := 643) (tgt := 683) hx hb d_law_40 (by decide +kernel) (by decide +kernel) (by decide +kernel) (by decide) ?_
    exact lx_two C0 N hL hax ham lx_c0 (lx_cb_ok lq_hours) (ia_pick (sa := sa) (xs := xs) _ 0 [] [] lc_hours lk_hours (fun _ => rfl)) (by omega) (by omega) H locs ws tys ls hl9 hG
  · refine lv_tableIn (off := 668) (tgt := 708) hx hb d_law_40 (by decide +kernel) (by decide +kernel) (by decide +kernel) (by decide) ?_
    exact lx_two C0 N hL hax ham lx_c0 (lx_cb_ok lq_undo) (ia_pick (sa := sa) (xs := xs) _ 0 [] [] lc_undo lk_undo (fun _ => rfl)) (by omega) (by omega) H locs ws tys ls hl9 hG
  · refine lv_tableIn (off := 681) (tgt := 721) hx hb d_law_40 (by decide +kernel) (by decide +kernel) (by decide +kernel) (by decide) ?_
    exact lx_two C0 N hL hax ham lx_c0 (lx_cb_ok lq_on) (ia_pick (sa := sa) (xs := xs) _ 0 [] [] lc_on lk_on (fun _ => rfl)) (by omega) (by omega) H locs ws tys ls hl9 hG
  · refine lv_tableIn (off := 706) (tgt := 746) hx hb d_law_40 (by decide +kernel) (by decide +kernel) (by decide +kernel) (by decide) ?_
    exact lx_two C0 N hL hax ham lx_c0 (lx_cb_ok lq_common) (ia_pick (sa := sa) (xs := xs) _ 0 [] [] lc_common lk_common (fun _ => rfl)) (by omega) (by omega) H locs ws tys ls hl9 hG
  · refine lv_tableIn (off := 719) (tgt := 759) hx hb d_law_40 (by decide +kernel) (by decide +kernel) (by decide +kernel) (by decide) ?_
    exact lx_two C0 N hL hax ham lx_c0 (lx_cb_ok lq_table) (ia_pick (sa := sa) (xs := xs) _ 0 [] [] lc_table lk_table (fun _ => rfl)) (by omega) (by omega) H locs ws tys ls hl9 hG
  · refine lv_tableIn (off := 744) (tgt := 784) hx hb d_law_40 (by decide +kernel) (by decide +kernel) (by decide +kernel) (by decide) ?_
    exact lx_two C0 N hL hax ham lx_c0 (lx_cb_ok lq_plate) (ia_pick (sa := sa) (xs := xs) _ 0 [] [] lc_plate lk_plate (fun _ => rfl)) (by omega) (by omega) H locs ws tys ls hl9 hG
  · refine lv_tableIn (off := 769) (tgt := 809) hx hb d_law_40 (by decide +kernel) (by decide +kernel) (by decide +kernel) (by decide) ?_
    exact lx_two C0 N hL hax ham lx_c0 (lx_cb_ok lq_feast) (ia_pick (sa := sa) (xs := xs) _ 0 [] [] lc_feast lk_feast (fun _ => rfl)) (by omega) (by omega) H locs ws tys ls hl9 hG
  · refine lv_tableIn (off := 782) (tgt := 822) hx hb d_law_40 (by decide +kernel) (by decide +kernel) (by decide +kernel) (by decide) ?_
    exact lx_two C0 N hL hax ham lx_c0 (lx_cb_ok lq_ate) (ia_pick (sa := sa) (xs := xs) _ 0 [] [] lc_ate lk_ate (fun _ => rfl)) (by omega) (by omega) H locs ws tys ls hl9 hG
  · refine lv_tableIn (off := 795) (tgt := 835) hx hb d_law_40 (by decide +kernel) (by decide +kernel) (by decide +kernel) (by decide) ?_
    exact lx_two C0 N hL hax ham lx_c0 (lx_cb_ok lq_surely) (ia_pick (sa := sa) (xs := xs) _ 0 [] [] lc_surely lk_surely (fun _ => rfl)) (by omega) (by omega) H locs ws tys ls hl9 hG
  · refine lv_tableIn (off := 808) (tgt := 848) hx hb d_law_40 (by decide +kernel) (by decide +kernel) (by decide +kernel) (by decide) ?_
    exact lx_two C0 N hL hax ham lx_c0 (lx_cb_ok lq_ask) (ia_pick (sa := sa) (xs := xs) _ 0 [] [] lc_ask lk_ask (fun _ => rfl)) (by omega) (by omega) H locs ws tys ls hl9 hG
  · refine lv_tableIn (off := 821) (tgt := 861) hx hb d_law_40 (by decide +kernel) (by decide +kernel) (by decide +kernel) (by decide) ?_
    exact lx_two C0 N hL hax ham lx_c0 (lx_cb_ok lq_twins) (ia_pick (sa := sa) (xs := xs) _ 0 [] [] lc_twins lk_twins (fun _ => rfl)) (by omega) (by omega) H locs ws tys ls hl9 hG
  · refine lv_tableIn (off := 858) (tgt := 898) hx hb d_law_40 (by decide +kernel) (by decide +kernel) (by decide +kernel) (by decide) ?_
    exact lx_two C0 N hL hax ham lx_c0 (lx_cb_ok lq_late) (ia_pick (sa := sa) (xs := xs) _ 0 [] [] lc_late lk_late (fun _ => rfl)) (by omega) (by omega) H locs ws tys ls hl9 hG
  · refine lv_tableIn (off := 883) (tgt := 923) hx hb d_law_40 (by decide +kernel) (by decide +kernel) (by decide +kernel) (by decide) ?_
    exact lx_two C0 N hL hax ham lx_c0 (lx_cb_ok lq_share) (ia_pick (sa := sa) (xs := xs) _ 0 [] [] lc_share lk_share (fun _ => rfl)) (by omega) (by omega) H locs ws tys ls hl9 hG
  · refine lv_tableIn (off := 920) (tgt := 960) hx hb d_law_40 (by decide +kernel) (by decide +kernel) (by decide +kernel) (by decide) ?_
    exact lx_two C0 N hL hax ham lx_c0 (lx_cb_ok lq_clash) (ia_pick (sa := sa) (xs := xs) _ 0 [] [] lc_clash lk_clash (fun _ => rfl)) (by omega) (by omega) H locs ws tys ls hl9 hG
  · refine lv_tableIn (off := 945) (tgt := 985) hx hb d_law_40 (by decide +kernel) (by decide +kernel) (by decide +kernel) (by decide) ?_
    exact lx_two C0 N hL hax ham lx_c0 (lx_cb_ok lq_keeps) (ia_pick (sa := sa) (xs := xs) _ 0 [] [] lc_keeps lk_keeps (fun _ => rfl)) (by omega) (by omega) H locs ws tys ls hl9 hG
  · refine lv_tableIn (off := 970) (tgt := 1010) hx hb d_law_40 (by decide +kernel) (by decide +kernel) (by decide +kernel) (by decide) ?_
    exact lx_two C0 N hL hax ham lx_c0 (lx_cb_ok lq_later) (ia_pick (sa := sa) (xs := xs) _ 0 [] [] lc_later lk_later (fun _ => rfl)) (by omega) (by omega) H locs ws tys ls hl9 hG
  · refine lv_tableIn (off := 1007) (tgt := 1047) hx hb d_law_40 (by decide +kernel) (by decide +kernel) (by decide +kernel) (by decide) ?_
    exact lx_two C0 N hL hax ham lx_c0 (lx_cb_ok lq_paid) (ia_pick (sa := sa) (xs := xs) _ 0 [] [] lc_paid lk_paid (fun _ => rfl)) (by omega) (by omega) H locs ws tys ls hl9 hG
  · refine lv_tableIn (off := 1032) (tgt := 1072) hx hb d_law_40 (by decide +kernel) (by decide +kernel) (by decide +kernel) (by decide) ?_
    exact lx_two C0 N hL hax ham lx_c0 (lx_cb_ok lq_drawn) (ia_pick (sa := sa) (xs := xs) _ 0 [] [] lc_drawn lk_drawn (fun _ => rfl)) (by omega) (by omega) H locs ws tys ls hl9 hG
  · refine lv_tableIn (off := 1069) (tgt := 1109) hx hb d_law_40 (by decide +kernel) (by decide +kernel) (by decide +kernel) (by decide) ?_
    exact lx_two C0 N hL hax ham lx_c0 (lx_cb_ok lq_odds) (ia_pick (sa := sa) (xs := xs) _ 0 [] [] lc_odds lk_odds (fun _ => rfl)) (by omega) (by omega) H locs ws tys ls hl9 hG
  · refine lv_tableIn (off := 1118) (tgt := 1158) hx hb d_law_40 (by decide +kernel) (by decide +kernel) (by decide +kernel) (by decide) ?_
    exact lx_two C0 N hL hax ham lx_c0 (lx_cb_ok lq_book) (ia_pick (sa := sa) (xs := xs) _ 0 [] [] lc_book lk_book (fun _ => rfl)) (by omega) (by omega) H locs ws tys ls hl9 hG
  · refine lv_tableIn (off := 1143) (tgt := 1183) hx hb d_law_40 (by decide +kernel) (by decide +kernel) (by decide +kernel) (by decide) ?_
    exact lx_two C0 N hL hax ham lx_c0 (lx_cb_ok lq_told) (ia_pick (sa := sa) (xs := xs) _ 0 [] [] lc_told lk_told (fun _ => rfl)) (by omega) (by omega) H locs ws tys ls hl9 hG
  · refine lv_tableIn (off := 1168) (tgt := 1208) hx hb d_law_40 (by decide +kernel) (by decide +kernel) (by decide +kernel) (by decide) ?_
    exact lx_two C0 N hL hax ham lx_c0 (lx_cb_ok lq_sentence) (ia_pick (sa := sa) (xs := xs) _ 0 [] [] lc_sentence lk_sentence (fun _ => rfl)) (by omega) (by omega) H locs ws tys ls hl9 hG
  · refine lv_tableIn (off := 1181) (tgt := 1221) hx hb d_law_40 (by decide +kernel) (by decide +kernel) (by decide +kernel) (by decide) ?_
    exact lx_two C0 N hL hax ham lx_c0 (lx_cb_ok lq_said) (ia_pick (sa := sa) (xs := xs) _ 0 [] [] lc_said lk_said (fun _ => rfl)) (by omega) (by omega) H locs ws tys ls hl9 hG
  · refine lv_tableIn (off := 1206) (tgt := 1246) hx hb d_law_40 (by decide +kernel) (by decide +kernel) (by decide +kernel) (by decide) ?_
    exact lx_two C0 N hL hax ham lx_c0 (lx_cb_ok lq_image) (ia_pick (sa := sa) (xs := xs) _ 0 [] [] lc_image lk_image (fun _ => rfl)) (by omega) (by omega) H locs ws tys ls hl9 hG
  · refine lv_tableIn (off := 1231) (tgt := 1271) hx hb d_law_40 (by decide +kernel) (by decide +kernel) (by decide +kernel) (by decide) ?_
    exact lx_two C0 N hL hax ham lx_c0 (lx_cb_ok lq_restore) (ia_pick (sa := sa) (xs := xs) _ 0 [] [] lc_restore lk_restore (fun _ => rfl)) (by omega) (by omega) H locs ws tys ls hl9 hG
  · refine lv_tableIn (off := 1256) (tgt := 1296) hx hb d_law_40 (by decide +kernel) (by decide +kernel) (by decide +kernel) (by decide) ?_
    exact lx_two C0 N hL hax ham lx_c0 (lx_cb_ok lq_count) (ia_pick (sa := sa) (xs := xs) _ 0 [] [] lc_count lk_count (fun _ => rfl)) (by omega) (by omega) H locs ws tys ls hl9 hG
  · refine lv_tableOut (tgt := 1321) hx hb d_law_40 (Or.inr ?_) (by decide) ?_
    · rw [nI_toInt (by omega)]; omega
    · exact lx_end C0 hL (by omega) (by omega) H locs ws tys ls hl9 hG
theorem lx_63 : (63 : Int32).toBitVec.toNat = 2 ^ 6 - 1 := by decide
theorem lx_loop (hl : l.stackTraces = false) (hbd : L ≤ 6) (C0 : lw_At p s m meth c b L xs) (N : ia_N sa (fun q : Nat => s.heap.size ≤ q) s s.heap) (M : ex_N sb (fun q : Nat => s.heap.size ≤ q) s s.heap) (hax : as0[0]? = some ax) (ham : as0[184]? = some am) (hc : nc + 1 ≤ 600002) (hs : ns + 6 ≤ 7302232) : lx_W p l e s m below meth c b D sa as0 (lx_lv b ax am ao) 23 [] ia_S4 205 nc ns := by
  obtain ⟨hx, hb, hr, hml, hown, hts, hX, hbl, hlocks, hgv⟩ := id C0
  intro H locs ws tys ls hl9 hG
  obtain ⟨hK, hP, hD, hS, -⟩ := id hG
  have hbA : ¬ (fun q : Nat => s.heap.size ≤ q) b := Nat.not_le.mpr hbl
  refine lv_iload hx hb d_law_23 (lv_at hl9 0 rfl) ?_
  refine lv_aload_n hx hb d_law_25 rfl (lv_at hl9 4 rfl) ?_
  refine va_slen hx hb hX hbl hbA hS d_law_26 ?_
  refine lv_bipush (v := 6) hx hb d_law_27 (by decide) ?_
  refine lv_isub hx hb d_law_29 ?_
  refine lv_icmp_gt (tgt := 1327) hx hb d_law_30 (by decide) (fun _ => lx_ret C0 hS (by omega) (by omega)) (fun q => ?_)
  have hL : L = 6 := by
    rcases (show L = 0 ∨ L = 1 ∨ L = 2 ∨ L = 3 ∨ L = 4 ∨ L = 5 ∨ L = 6 from by omega) with h | h | h | h | h | h | h
    all_goals first | exact h | (rw [h] at q; exact absurd (by decide) q)
  refine lv_aload_n hx hb d_law_33 rfl (lv_at hl9 4 rfl) ?_
  refine lv_iload hx hb d_law_34 (lv_at hl9 0 rfl) ?_
  refine va_sld hx hb hX hbl hbA hS (i := 0) ?_ d_law_36 ?_
  · rintro (z | z)
    · exact absurd z (by decide)
    · rw [hL] at z; exact absurd z (by decide)
  refine lv_bipush (v := 63) hx hb d_law_37 (by decide) ?_
  refine lv_iand hx hb d_law_39 ?_
  obtain ⟨j, hj, hj2⟩ := pk_andE (xs (0 : Int32).toNatClampNeg) 6 lx_63
  rw [hj2]
  exact lx_sw hl C0 N M hL hax ham hc hs (by simpa using hj) H locs ws tys ls hl9 hG
end LX5
end
section
section LX6
variable {p : Program} {l : Launch} {e : Env} {s : State} {m : MethodId} {below : List Frame} {meth : Method} {c : Code} {b L : Nat} {xs : Nat → Int32} {D : va_G} {sa : Nat × Nat} {as0 : List Nat} {nc ns : Nat}
theorem d_law_0 : decode code 0 = .ok (.new 8, 3) := by decide +kernel
theorem d_law_3 : decode code 3 = .ok (.dup, 1) := by decide +kernel
theorem d_law_4 : decode code 4 = .ok (.invokespecial 18, 3) := by decide +kernel
theorem d_law_7 : decode code 7 = .ok (.astore_n 1, 1) := by decide +kernel
theorem d_law_8 : decode code 8 = .ok (.new 19, 3) := by decide +kernel
theorem d_law_11 : decode code 11 = .ok (.dup, 1) := by decide +kernel
theorem d_law_12 : decode code 12 = .ok (.invokespecial 21, 3) := by decide +kernel
theorem d_law_15 : decode code 15 = .ok (.astore_n 2, 1) := by decide +kernel
theorem d_law_16 : decode code 16 = .ok (.iconst 1, 1) := by decide +kernel
theorem d_law_17 : decode code 17 = .ok (.newarray .long, 2) := by decide +kernel
theorem d_law_19 : decode code 19 = .ok (.astore_n 3, 1) := by decide +kernel
theorem d_law_20 : decode code 20 = .ok (.iconst 0, 1) := by decide +kernel
theorem d_law_21 : decode code 21 = .ok (.istore 4, 2) := by decide +kernel
theorem lx_v11 : vwCl[11]? = some (RX11, TX11, 17) := rfl
theorem lx_v12 : vwCl[12]? = some (RX12, TX12, 48) := rfl
set_option maxRecDepth 100000 in
theorem lx_k8 : Cond.classLink R_law 8 RX11 ∈ lw_tbl := ia_w_in (p := 138) (by decide +kernel) (by intro z; cases z)
set_option maxRecDepth 100000 in
theorem lx_k19 : Cond.classLink R_law 19 RX12 ∈ lw_tbl := ia_w_in (p := 1469) (by decide +kernel) (by intro z; cases z)
set_option maxRecDepth 100000 in
theorem lx_o18 : ia_okI 18 (18, 1, 0, 2, 0, 140) = true := by decide +kernel
set_option maxRecDepth 100000 in
theorem lx_o21 : ia_okI 18 (21, 1, 89, 2, 0, 1470) = true := by decide +kernel
theorem lx_n0 : ia_na 0 = 1 ∧ ia_mc 0 = 183 ∧ ia_ms 0 = 10834 := by decide +kernel
theorem lx_n89 : ia_na 89 = 1 ∧ ia_mc 89 = 19 ∧ ia_ms 89 = 11702 := by decide +kernel
theorem lx_new (C0 : lw_At p s m meth c b L xs) {ci i pc n : Nat} {r : vw_C} {rest : List Value} {σ : ia_H} {H : Heap} {locs : List Loc} {ws : va_W} {tys : List (ClassId × FieldType)} {ls : Array Slot} (hr : vwCl[ci]? = some r) (hlk : Cond.classLink R_law i r.1 ∈ lw_tbl) (hd : decode code pc = .ok (.new i, 3)) (hG : lx_G s D sa as0 H locs ws tys σ n) (hc : nc + 1 ≤ 600002) (hs : ns + r.2.2 ≤ 7302232)
    (k : ∀ (q : Nat) (H1 : Heap) (ws1 : va_W), ws1.map Prod.fst = ws.map Prod.fst ++ [q] → lx_G s D sa (ws.map Prod.fst ++ [q]) H1 locs ws1 tys (ia_set2 σ n (ci, ia_Fs.getD ci (0, []))) (n + 1) → W p l e room_1 s m #[Value.ref b] below meth c H1 locs (nc + 1) (ns + r.2.2) (lw_Z below #[Value.ref b] s) (F0 m (pc + 3) ls (.ref q :: rest))) : W p l e room_1 s m #[Value.ref b] below meth c H locs nc ns (lw_Z below #[Value.ref b] s) (F0 m pc ls rest) := by
  obtain ⟨hx, hb, hr9, hml, hown, hts, hX, hbl, hlocks, hgv⟩ := id C0
  obtain ⟨hK, hP, hD, hS, hn, hR, x0, hx0⟩ := id hG
  have hA : ∀ q : Nat, s.heap.size ≤ q → (fun q : Nat => s.heap.size ≤ q) q := fun _ h => h
  have htb : ∀ w ∈ ia_TB, w.before #[Value.ref b] s = true := fun w hw => hts w (List.mem_filter.mp hw).1
  have hci : ci < 13 := (List.getElem?_eq_some_iff.mp hr).1
  obtain ⟨ty, hty, -, q', hq', hq1, fs, hfs, hfv⟩ := ia_cty hr
  have hgd : ia_Fs.getD ci (0, []) = q' := by rw [List.getD_eq_getElem?_getD, hq']; rfl
  rw [hgd] at k
  refine va_new (D := D) (ci := ci) (fs := fs) (C := r.1) (T := r.2.1) (N := r.2.2) (Ts := ia_TB) hx hb htb (ia_okC_at hr).1 ty hty hown (hts _ hlk) (htb _ (ia_okC_at hr).2.1) (htb _ (ia_okC_at hr).2.2.1) hK hP hD hS hA hr hfs hc hs hd (fun q H1 hP1 hD1 hS1 => ?_)
  refine k q H1 (ws ++ [(q, .inr (ci, fs))]) (ia_fst_app _ _) ⟨hK, hP1, hD1, hS1, by rw [List.length_append, hn]; rfl, hR.push hn (fun _ z => z) ?_, [], by rw [ia_fst_app, List.append_nil]⟩
  exact ⟨fun _ => ⟨fs, rfl, fun k a hk => hfv _ _ k a hk⟩, fun z => absurd z (by show ¬ ci = 50; omega), fun z => absurd z (by show ¬ ci = 51; omega), fun z => absurd z (by show ¬ ci = 52; omega), fun z => absurd z (by show ¬ ci = 53; omega), fun z => absurd z (by show ¬ ci = 54; omega), fun z => absurd z (by show ¬ ci = 55; omega)⟩
theorem whole_start (l : Launch) (hl : l.stackTraces = false) (hbd : L ≤ 6) (C0 : lw_At p s m meth c b L xs) : W p l e room_1 s m #[Value.ref b] below meth c s.heap [] 0 0 (lw_Z below #[Value.ref b] s) (entryFrame m ([Value.ref b] : List Value).toArray 7) := by
  obtain ⟨hx, hb, hr, hml, hown, hts, hX, hbl, hlocks, hgv⟩ := id C0
  have hA : ∀ q : Nat, s.heap.size ≤ q → (fun q : Nat => s.heap.size ≤ q) q := fun _ h => h
  have htb : ∀ w ∈ ia_TB, w.before #[Value.ref b] s = true := fun w hw => hts w (List.mem_filter.mp hw).1
  obtain ⟨sa, N⟩ := lx_N C0
  obtain ⟨sb, M⟩ := ex_M C0
  obtain ⟨D, hK⟩ := lx_K C0
  obtain ⟨v1, v2, v3⟩ := lx_n0
  obtain ⟨w1, w2, w3⟩ := lx_n89
  have hl9 := lv_entry ([.ref b]) (n := 7) (Nat.le_of_ble_eq_true rfl)
  rw [lg_entry_eq]
  generalize (lg_sl ([Value.ref b]) ++ List.replicate (7 - (lg_sl ([Value.ref b])).length) Slot.unset).toArray = ls at hl9 ⊢
  have hlv : lv_has ls 7 [(0, .ref b)] := hl9
  have hG0 : lx_G s D sa [] s.heap [] [] [] ia_w0 0 := ⟨hK, fun k q h => by simp at h, ⟨fun i j p q h => by simp at h, fun k q h => by simp at h⟩, va_S.rf, rfl, ia_w0_R sa, [], rfl⟩
  refine lx_new (ci := 11) (i := 8) (r := (RX11, TX11, 17)) C0 lx_v11 lx_k8 d_law_0 hG0 (by decide) (by show 0 + 17 ≤ 7302232; decide) (fun ax H1 ws1 e1 hG1 => ?_)
  have hG1 : lx_G s D sa [ax] H1 [] ws1 [] ia_i0 1 := hG1
  have e1 : ws1.map Prod.fst = [ax] := e1
  refine lv_dup hx hb d_law_3 rfl ?_
  refine lx_init (y2 := 0) (i := 18) (kx := 0) (bx := ax) (rest := [.ref ax]) C0 N lx_o18 d_law_4 (Nat.le_of_ble_eq_true rfl) v1 ia_r1_ok hlv.1 hG1 (by rw [e1]; rfl) ⟨by rw [v2]; decide, by rw [v3]; show 0 + 17 + 10834 ≤ 7302232; decide⟩ (fun H2 locs2 ws2 tys2 hG2 => ?_)
  refine lv_astore_n (i := 1) (lv' := [(1, .ref ax), (0, .ref b)]) hx hb d_law_7 rfl hlv (by decide) rfl (fun ls hlv => ?_)
  refine lx_new (ci := 12) (i := 19) (r := (RX12, TX12, 48)) C0 lx_v12 lx_k19 d_law_8 hG2 (by rw [v2]; decide) (by rw [v3]; show 0 + 17 + 10834 + 48 ≤ 7302232; decide) (fun am H3 ws3 e3 hG3 => ?_)
  have hG3 : lx_G s D sa (ws2.map Prod.fst ++ [am]) H3 locs2 ws3 tys2 ia_i2 185 := hG3
  obtain ⟨-, -, -, -, n2, -, x2, hx2⟩ := id hG2
  have hax : (ws3.map Prod.fst)[0]? = some ax := by rw [e3, hx2, e1]; rfl
  have ham : (ws3.map Prod.fst)[184]? = some am := by
    rw [e3, List.getElem?_append_right (by rw [List.length_map, n2]; exact Nat.le_refl _), List.length_map, n2]
    rfl
  refine lv_dup hx hb d_law_11 rfl ?_
  refine lx_init (y2 := 89) (i := 21) (kx := 184) (bx := am) (rest := [.ref am]) C0 N lx_o21 d_law_12 (Nat.le_of_ble_eq_true rfl) w1 ia_r3_ok hlv.1 hG3 ham ⟨by rw [v2, w2]; decide, by rw [v3, w3]; show 0 + 17 + 10834 + 48 + 11702 ≤ 7302232; decide⟩ (fun H4 locs4 ws4 tys4 hG4 => ?_)
  refine lv_astore_n (i := 2) (lv' := [(2, .ref am), (1, .ref ax), (0, .ref b)]) hx hb d_law_15 rfl hlv (by decide) rfl (fun ls hlv => ?_)
  refine lv_iconst (v := 1) hx hb d_law_16 (by decide) ?_
  obtain ⟨hK4, hP4, hD4, hS4, hn4, hR4, x4, hx4⟩ := id hG4
  refine va_newa (ty := .long) (N' := 1) (a0 := (1, .inr (.inl (fun _ => (0 : Int64))))) hx hb (htb _ (ia_is_in ia_acj)) rfl hK4 hP4 hD4 hS4 hA (fun _ => rfl) (by decide) (by decide) (by decide) (by rw [v2, w2]; show 0 + 1 + 183 + 1 + 19 + 1 ≤ 600002; decide) (by rw [v3, w3]; show 0 + 17 + 10834 + 48 + 11702 + 1 ≤ 7302232; decide) d_law_17 (fun ao cA H5 hK5 hP5 hD5 hS5 => ?_)
  have hG5 : lx_G s D sa (ws3.map Prod.fst) H5 locs4 (ws4 ++ [(ao, .inl (cA, (1, .inr (.inl (fun _ => (0 : Int64))))))]) (tys4 ++ [(cA, .long)]) ia_S4 205 := by
    rw [← ia_S4_eq]
    refine ⟨hK5, hP5, hD5, hS5, by rw [List.length_append, hn4]; rfl, hR4.push hn4 (fun _ z => List.mem_append_left _ z) ?_, x4 ++ [ao], by rw [ia_fst_app, hx4, List.append_assoc]⟩
    exact ⟨fun z => absurd (show (51 : Nat) < 50 from z) (by decide), fun z => absurd (show (51 : Nat) = 50 from z) (by decide), fun _ => ⟨cA, _, rfl, List.mem_append_right _ List.mem_cons_self, fun k a' hk _ => by rw [ia_rows_at hk]; rfl⟩, fun z => absurd (show (51 : Nat) = 52 from z) (by decide), fun z => absurd (show (51 : Nat) = 53 from z) (by decide), fun z => absurd (show (51 : Nat) = 54 from z) (by decide), fun z => absurd (show (51 : Nat) = 55 from z) (by decide)⟩
  refine lv_astore_n (i := 3) (lv' := [(3, .ref ao), (2, .ref am), (1, .ref ax), (0, .ref b)]) hx hb d_law_19 rfl hlv (by decide) rfl (fun ls hlv => ?_)
  refine lv_iconst (v := 0) hx hb d_law_20 (by decide) ?_
  refine lv_istore (i := 4) (lv' := lx_lv b ax am ao) hx hb d_law_21 hlv (by decide) rfl (fun ls hlv => ?_)
  exact lx_loop hl hbd C0 N M hax ham (by rw [v2, w2]; show 0 + 1 + 183 + 1 + 19 + 1 + 1 ≤ 600002; decide) (by rw [v3, w3]; show 0 + 17 + 10834 + 48 + 11702 + 1 + 6 ≤ 7302232; decide) H5 locs4 _ _ ls hlv hG5
end LX6
end
section
set_option maxHeartbeats 4000000 in
theorem lw_walk (l : Launch) (hl : l.stackTraces = false) (b : Addr) (xs : List Int32) : MetFree l x (headSpec (Jvm.Cond.code x code maxLocals ret :: tables_1) room_1) (lw_P b xs) (fun _ _ _ _ _ => True) lw_Q := by
  refine MetFree.of_bodyS (code := code) (maxLocals := maxLocals) (ret := ret) (by decide) ?_ ?_
  · intro args s m h hn
    obtain ⟨meth, c, h1, h2, h3, h4, h5, h6, -, -⟩ := Cond.code_spec hn (atoms_spec (ws := Jvm.Cond.code x code maxLocals ret :: tables_1) h _ List.mem_cons_self)
    exact ⟨meth, c, h1, h2, h3, h4, h5, h6⟩
  · intro p e s m args below meth c s₁ B hml0 hP _
    obtain ⟨rfl, hx, hbd, hgv⟩ := hP
    obtain ⟨scr, harrAt, hlist, hof, hsmall⟩ := hx
    obtain ⟨hcb, hkn, -, -⟩ := State.arrayAt?_spec harrAt
    have hown : s.vm.findClass R_law = some m.cls := findClass_of_methodNamed B.named
    have hts0 : ∀ c ∈ (Jvm.Cond.code x code maxLocals ret :: tables_1), c.before #[Value.ref b] s = true := atoms_spec (ws := Jvm.Cond.code x code maxLocals ret :: tables_1) B.pre
    have hts : ∀ w ∈ lw_tbl, w.before #[Value.ref b] s = true := k2_hts_sels lw_privs (fun w hw => hts0 w (List.mem_cons_of_mem _ hw)) lw_privs_ok
    have hml : c.maxLocals = 7 := B.maxLocals_eq (hts0 _ List.mem_cons_self)
    have X₀ : Stand p l e room_1 s m #[Value.ref b] below meth c s₁ [] 0 0 := Stand.of_body B
    have hh0 : s₁.heap = s.heap := by rw [B.state]; rfl
    have hsz : scr.slots.size = xs.length := by rw [← Array.length_toList, hlist, List.length_map]
    have hval : ∀ j : Nat, j < xs.length → scr.slots[j]? = some (.int (xs.getD j 0)) := fun j hj => by
      rw [← Array.getElem?_toList, hlist]
      simp [hj]
    have hbl : b < s.heap.size := (Array.getElem?_eq_some_iff.mp hcb).1
    have hX : va_X b xs.length (fun j => xs.getD j 0) s s.heap := ⟨scr, hcb, hof, hkn, hsz, hval⟩
    have K : W p l e room_1 s m #[Value.ref b] below meth c s₁.heap [] 0 0 (lw_Z below #[Value.ref b] s) (entryFrame m ([Value.ref b] : List Value).toArray 7) := by
      rw [hh0]
      exact whole_start l hl hbd ⟨B.exec, B.bytes, B.returns, hml, hown, hts, hX, hbl, B.notSynchronized, hgv⟩
    obtain ⟨t, a1, o, b1, b2, b3⟩ := K s₁ rfl X₀
    exact ⟨t, o, a1, b1, b2, b3⟩
theorem lw_pre_spec {args : Array Value} {s : State} (h : (Jvm.Cond.and given_1 narrow_1).before args s = true) (hr : rest_1_c.before args s = true) : ∃ (b : Addr) (xs : List Int32), lw_P b xs args s := by
  have hs := flat_of_before _ h
  have hq := flat_of_before _ hr
  have hc : (Cond.count 1).before args s = true := hs _ (by decide +kernel)
  have harr : (Cond.arrayOf (.arg 0) .int).before args s = true := hs _ (by decide +kernel)
  have hle : (Cond.le (.length (.arg 0)) (.int 6)).before args s = true := hs _ (by decide +kernel)
  have hlen : (Cond.isInt (.length (.arg 0))).before args s = true := hq _ (by decide +kernel)
  have hall : (Cond.all (.arg 0) (.isInt (.elem (.arg 0) (.index 0)))).before args s = true := hq _ (by decide +kernel)
  obtain ⟨b, xs, hb, hx⟩ := State.ints_of_pre rfl harr hlen hall
  have hsm : xs.length < 2 ^ 31 := hx.choose_spec.2.2.2
  have hev : (Term.length (.arg 0)).eval args s none [] s = some (.int xs.length.toInt32) := hx.length_eval hb
  have hv := Cond.le_ints hev (show (Term.int 6).eval args s none [] s = some (.int 6) from rfl)
  have hd : xs.length.toInt32 ≤ 6 := by
    simpa [Cond.before, Cond.holds, hv] using hle
  have hN : xs.length ≤ 6 := (Int32.ofNat_le_ofNat hsm (by decide)).mp (show Int32.ofNat xs.length ≤ Int32.ofNat 6 from hd)
  exact ⟨b, xs, Cond.one_arg hc (show args[0]? = some (.ref b) from hb), hx, hN, h⟩
theorem lw_comes (l : Launch) (hl : l.stackTraces = false) : Comes l x (Jvm.Cond.code x code maxLocals ret :: tables_1) room_1 (fun tb e args s => Calls_1 tb e args s ∧ rest_1 tb e args s ∧ Pre_1 tb e args s)
    (fun _ _ args s o t => lw_Q args s o t) := by
  intro p e ha hc hk s m args below hf hfit hheap happ hpre
  obtain ⟨b, xs, hP⟩ := lw_pre_spec hpre.2.2 hpre.2.1
  obtain ⟨k, o, h1, h2, h3, hQ⟩ := lw_walk l hl b xs p e ha hc hk s m args below hf ((Spec.applies_iff_loose hf).mp happ).1 hP trivial
  exact ⟨k, o, h1, h2, h3, hQ⟩
theorem lw_frame {s t : State} {o : Outcome} {args : Array Value} (h : Framed s o t [] 600002 7302232) :
    Framed s o t (fieldLocs frame_1_writes args s ++ arrayLocs frame_1_arrays args s ++ staticLocs frame_1_statics s) 600002 7302232 := h
theorem lw_limb (L : Cond) (hL : ∀ (args : Array Value) (s t : State), L.after args s (.returned (some (.int 1))) t = true) :
    ArmFor flags0 classFile x code maxLocals ret World_1 tables_1 room_1 Calls_1 rest_1 Pre_1
      (fun tb e a s o t => postC L tb e a s o t ∧ Framed s o t (fieldLocs frame_1_writes a s ++ arrayLocs frame_1_arrays a s ++ staticLocs frame_1_statics s) 600002 7302232) := by
  intro l hf0 _ _ p e ha hc hk s m args below hf hfit hheap happ hpre
  obtain ⟨k, o, h1, h2, h3, rfl, hF⟩ := lw_comes l (by unfold Launch.stackTraces; rw [hf0]; decide) p e ha hc hk s m args below hf hfit hheap happ hpre
  exact ⟨k, _, h1, h2, h3, hL args s _, lw_frame hF⟩
theorem i_vc : Claimed_1_1 ∧ Claimed_1_2 := ⟨lw_limb limb_1_1 (fun args s t => by simp [limb_1_1, Cond.after, Cond.holds, Cond.value]), lw_limb limb_1_2 (fun args s t => Cond.after_iff.mpr (by
  first | (rw [show limb_1_2 = Cond.eq .result (.int 1) from rfl, Cond.eq_ints (x := 1) (y := 1) rfl rfl]; simp; done) | (simp [limb_1_2, Cond.value, Term.eval]; done)))⟩
end
