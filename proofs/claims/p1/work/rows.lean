section
-- ===== PART A: goes FIRST, ahead of the names: the tables' words, and 'selects' of the private methods out of them =====
/-- a private method of a class that the tables say can be made, by its rows of tables_1 -/
def lw_okq (q : MethodName × Nat) : Prop := (q.1.cls ≠ "java/lang/invoke/MethodHandle" ∧ q.1.cls ≠ "java/lang/invoke/VarHandle") ∧ Cond.instantiable q.1.cls q.2 ∈ tables_1 ∧ Cond.privateMethod q.1 ∈ tables_1 ∧ Cond.instanceMethod q.1 ∈ tables_1
theorem lw_p0 : lw_okq (⟨"MissedTown$LawReader", "readClause", "()V"⟩, 2) := ⟨⟨by decide +kernel, by decide +kernel⟩, List.mem_of_getElem? (i := 190) (by decide +kernel), List.mem_of_getElem? (i := 384) (by decide +kernel), List.mem_of_getElem? (i := 385) (by decide +kernel)⟩
theorem lw_p1 : lw_okq (⟨"MissedTown$LawReader", "placeIn", "(Ljava/lang/String;)I"⟩, 2) := ⟨⟨by decide +kernel, by decide +kernel⟩, List.mem_of_getElem? (i := 190) (by decide +kernel), List.mem_of_getElem? (i := 389) (by decide +kernel), List.mem_of_getElem? (i := 390) (by decide +kernel)⟩
theorem lw_p2 : lw_okq (⟨"MissedTown$LawReader", "readSum", "(I)V"⟩, 2) := ⟨⟨by decide +kernel, by decide +kernel⟩, List.mem_of_getElem? (i := 190) (by decide +kernel), List.mem_of_getElem? (i := 491) (by decide +kernel), List.mem_of_getElem? (i := 492) (by decide +kernel)⟩
theorem lw_p3 : lw_okq (⟨"MissedTown$LawReader", "readTerm", "(I)V"⟩, 2) := ⟨⟨by decide +kernel, by decide +kernel⟩, List.mem_of_getElem? (i := 190) (by decide +kernel), List.mem_of_getElem? (i := 495) (by decide +kernel), List.mem_of_getElem? (i := 496) (by decide +kernel)⟩
theorem lw_p4 : lw_okq (⟨"MissedTown$LawReader", "readFactor", "(I)V"⟩, 2) := ⟨⟨by decide +kernel, by decide +kernel⟩, List.mem_of_getElem? (i := 190) (by decide +kernel), List.mem_of_getElem? (i := 499) (by decide +kernel), List.mem_of_getElem? (i := 500) (by decide +kernel)⟩
theorem lw_p5 : lw_okq (⟨"MissedTown$LawReader", "opens", "(I)Z"⟩, 2) := ⟨⟨by decide +kernel, by decide +kernel⟩, List.mem_of_getElem? (i := 190) (by decide +kernel), List.mem_of_getElem? (i := 508) (by decide +kernel), List.mem_of_getElem? (i := 509) (by decide +kernel)⟩
theorem lw_p6 : lw_okq (⟨"MissedTown$LawReader", "factorStep", "()I"⟩, 2) := ⟨⟨by decide +kernel, by decide +kernel⟩, List.mem_of_getElem? (i := 190) (by decide +kernel), List.mem_of_getElem? (i := 530) (by decide +kernel), List.mem_of_getElem? (i := 531) (by decide +kernel)⟩
theorem lw_p7 : lw_okq (⟨"MissedTown$LawReader", "readChoice", "(I)V"⟩, 2) := ⟨⟨by decide +kernel, by decide +kernel⟩, List.mem_of_getElem? (i := 190) (by decide +kernel), List.mem_of_getElem? (i := 538) (by decide +kernel), List.mem_of_getElem? (i := 539) (by decide +kernel)⟩
theorem lw_p8 : lw_okq (⟨"MissedTown$LawReader", "readPart", "(I)V"⟩, 2) := ⟨⟨by decide +kernel, by decide +kernel⟩, List.mem_of_getElem? (i := 190) (by decide +kernel), List.mem_of_getElem? (i := 542) (by decide +kernel), List.mem_of_getElem? (i := 543) (by decide +kernel)⟩
theorem lw_p9 : lw_okq (⟨"MissedTown$LawReader", "readPiece", "(I)V"⟩, 2) := ⟨⟨by decide +kernel, by decide +kernel⟩, List.mem_of_getElem? (i := 190) (by decide +kernel), List.mem_of_getElem? (i := 546) (by decide +kernel), List.mem_of_getElem? (i := 547) (by decide +kernel)⟩
theorem lw_p10 : lw_okq (⟨"MissedTown$LawReader", "comparison", "()I"⟩, 2) := ⟨⟨by decide +kernel, by decide +kernel⟩, List.mem_of_getElem? (i := 190) (by decide +kernel), List.mem_of_getElem? (i := 550) (by decide +kernel), List.mem_of_getElem? (i := 551) (by decide +kernel)⟩
theorem lw_p11 : lw_okq (⟨"MissedTown$DoersReader", "readLine", "()V"⟩, 4) := ⟨⟨by decide +kernel, by decide +kernel⟩, List.mem_of_getElem? (i := 206) (by decide +kernel), List.mem_of_getElem? (i := 589) (by decide +kernel), List.mem_of_getElem? (i := 590) (by decide +kernel)⟩
theorem lw_p12 : lw_okq (⟨"MissedTown$DoersReader", "readRow", "(I)V"⟩, 4) := ⟨⟨by decide +kernel, by decide +kernel⟩, List.mem_of_getElem? (i := 206) (by decide +kernel), List.mem_of_getElem? (i := 597) (by decide +kernel), List.mem_of_getElem? (i := 598) (by decide +kernel)⟩
theorem lw_p13 : lw_okq (⟨"MissedTown$LeavesReader", "readLine", "()V"⟩, 5) := ⟨⟨by decide +kernel, by decide +kernel⟩, List.mem_of_getElem? (i := 225) (by decide +kernel), List.mem_of_getElem? (i := 624) (by decide +kernel), List.mem_of_getElem? (i := 625) (by decide +kernel)⟩
theorem lw_p14 : lw_okq (⟨"MissedTown$LeavesReader", "readDays", "(I)V"⟩, 5) := ⟨⟨by decide +kernel, by decide +kernel⟩, List.mem_of_getElem? (i := 225) (by decide +kernel), List.mem_of_getElem? (i := 631) (by decide +kernel), List.mem_of_getElem? (i := 632) (by decide +kernel)⟩
theorem lw_p15 : lw_okq (⟨"MissedTown$Trial", "goThroughDay", "()I"⟩, 14) := ⟨⟨by decide +kernel, by decide +kernel⟩, List.mem_of_getElem? (i := 247) (by decide +kernel), List.mem_of_getElem? (i := 698) (by decide +kernel), List.mem_of_getElem? (i := 699) (by decide +kernel)⟩
def lw_privs_1 : List (MethodName × Nat) := [(⟨"MissedTown$LawReader", "readClause", "()V"⟩, 2), (⟨"MissedTown$LawReader", "placeIn", "(Ljava/lang/String;)I"⟩, 2), (⟨"MissedTown$LawReader", "readSum", "(I)V"⟩, 2), (⟨"MissedTown$LawReader", "readTerm", "(I)V"⟩, 2), (⟨"MissedTown$LawReader", "readFactor", "(I)V"⟩, 2), (⟨"MissedTown$LawReader", "opens", "(I)Z"⟩, 2), (⟨"MissedTown$LawReader", "factorStep", "()I"⟩, 2), (⟨"MissedTown$LawReader", "readChoice", "(I)V"⟩, 2), (⟨"MissedTown$LawReader", "readPart", "(I)V"⟩, 2), (⟨"MissedTown$LawReader", "readPiece", "(I)V"⟩, 2), (⟨"MissedTown$LawReader", "comparison", "()I"⟩, 2), (⟨"MissedTown$DoersReader", "readLine", "()V"⟩, 4), (⟨"MissedTown$DoersReader", "readRow", "(I)V"⟩, 4), (⟨"MissedTown$LeavesReader", "readLine", "()V"⟩, 5), (⟨"MissedTown$LeavesReader", "readDays", "(I)V"⟩, 5), (⟨"MissedTown$Trial", "goThroughDay", "()I"⟩, 14)]
theorem lw_r1 : ∀ q ∈ lw_privs_1, lw_okq q := List.forall_mem_cons.mpr ⟨lw_p0, List.forall_mem_cons.mpr ⟨lw_p1, List.forall_mem_cons.mpr ⟨lw_p2, List.forall_mem_cons.mpr ⟨lw_p3, List.forall_mem_cons.mpr ⟨lw_p4, List.forall_mem_cons.mpr ⟨lw_p5, List.forall_mem_cons.mpr ⟨lw_p6, List.forall_mem_cons.mpr ⟨lw_p7, List.forall_mem_cons.mpr ⟨lw_p8, List.forall_mem_cons.mpr ⟨lw_p9, List.forall_mem_cons.mpr ⟨lw_p10, List.forall_mem_cons.mpr ⟨lw_p11, List.forall_mem_cons.mpr ⟨lw_p12, List.forall_mem_cons.mpr ⟨lw_p13, List.forall_mem_cons.mpr ⟨lw_p14, List.forall_mem_cons.mpr ⟨lw_p15, fun _ h => absurd h List.not_mem_nil⟩⟩⟩⟩⟩⟩⟩⟩⟩⟩⟩⟩⟩⟩⟩⟩
theorem lw_p16 : lw_okq (⟨"MissedTown$Trial", "unitsOf", "(I)I"⟩, 14) := ⟨⟨by decide +kernel, by decide +kernel⟩, List.mem_of_getElem? (i := 247) (by decide +kernel), List.mem_of_getElem? (i := 717) (by decide +kernel), List.mem_of_getElem? (i := 718) (by decide +kernel)⟩
theorem lw_p17 : lw_okq (⟨"MissedTown$Law", "reckon", "(II)I"⟩, 9) := ⟨⟨by decide +kernel, by decide +kernel⟩, List.mem_of_getElem? (i := 128) (by decide +kernel), List.mem_of_getElem? (i := 729) (by decide +kernel), List.mem_of_getElem? (i := 730) (by decide +kernel)⟩
theorem lw_p18 : lw_okq (⟨"MissedTown$Trial", "goThroughChore", "(I)I"⟩, 14) := ⟨⟨by decide +kernel, by decide +kernel⟩, List.mem_of_getElem? (i := 247) (by decide +kernel), List.mem_of_getElem? (i := 738) (by decide +kernel), List.mem_of_getElem? (i := 739) (by decide +kernel)⟩
theorem lw_p19 : lw_okq (⟨"MissedTown$Trial", "work", "(II)I"⟩, 14) := ⟨⟨by decide +kernel, by decide +kernel⟩, List.mem_of_getElem? (i := 247) (by decide +kernel), List.mem_of_getElem? (i := 751) (by decide +kernel), List.mem_of_getElem? (i := 752) (by decide +kernel)⟩
theorem lw_p20 : lw_okq (⟨"MissedTown", "areTold", "(I)Z"⟩, 11) := ⟨⟨by decide +kernel, by decide +kernel⟩, List.mem_of_getElem? (i := 22) (by decide +kernel), List.mem_of_getElem? (i := 803) (by decide +kernel), List.mem_of_getElem? (i := 804) (by decide +kernel)⟩
theorem lw_p21 : lw_okq (⟨"MissedTown", "costIf", "(IIIII)I"⟩, 11) := ⟨⟨by decide +kernel, by decide +kernel⟩, List.mem_of_getElem? (i := 22) (by decide +kernel), List.mem_of_getElem? (i := 807) (by decide +kernel), List.mem_of_getElem? (i := 808) (by decide +kernel)⟩
theorem lw_p22 : lw_okq (⟨"MissedTown", "canLeave", "(I)Z"⟩, 11) := ⟨⟨by decide +kernel, by decide +kernel⟩, List.mem_of_getElem? (i := 22) (by decide +kernel), List.mem_of_getElem? (i := 823) (by decide +kernel), List.mem_of_getElem? (i := 824) (by decide +kernel)⟩
theorem lw_p23 : lw_okq (⟨"MissedTown", "placeOfMost", "(I)I"⟩, 11) := ⟨⟨by decide +kernel, by decide +kernel⟩, List.mem_of_getElem? (i := 22) (by decide +kernel), List.mem_of_getElem? (i := 844) (by decide +kernel), List.mem_of_getElem? (i := 845) (by decide +kernel)⟩
theorem lw_p24 : lw_okq (⟨"MissedTown", "sumOfOrders", "(II)I"⟩, 11) := ⟨⟨by decide +kernel, by decide +kernel⟩, List.mem_of_getElem? (i := 22) (by decide +kernel), List.mem_of_getElem? (i := 848) (by decide +kernel), List.mem_of_getElem? (i := 849) (by decide +kernel)⟩
theorem lw_p25 : lw_okq (⟨"MissedTown", "missedIfAway", "(IIII)I"⟩, 11) := ⟨⟨by decide +kernel, by decide +kernel⟩, List.mem_of_getElem? (i := 22) (by decide +kernel), List.mem_of_getElem? (i := 869) (by decide +kernel), List.mem_of_getElem? (i := 870) (by decide +kernel)⟩
theorem lw_p26 : lw_okq (⟨"MissedTown", "bestStretches", "(IIII)I"⟩, 11) := ⟨⟨by decide +kernel, by decide +kernel⟩, List.mem_of_getElem? (i := 22) (by decide +kernel), List.mem_of_getElem? (i := 878) (by decide +kernel), List.mem_of_getElem? (i := 879) (by decide +kernel)⟩
theorem lw_p27 : lw_okq (⟨"MissedTown", "runAway", "(III)I"⟩, 11) := ⟨⟨by decide +kernel, by decide +kernel⟩, List.mem_of_getElem? (i := 22) (by decide +kernel), List.mem_of_getElem? (i := 886) (by decide +kernel), List.mem_of_getElem? (i := 887) (by decide +kernel)⟩
theorem lw_p28 : lw_okq (⟨"MissedTown", "firstOther", "(LMissedTown$State;I)I"⟩, 11) := ⟨⟨by decide +kernel, by decide +kernel⟩, List.mem_of_getElem? (i := 22) (by decide +kernel), List.mem_of_getElem? (i := 890) (by decide +kernel), List.mem_of_getElem? (i := 891) (by decide +kernel)⟩
theorem lw_p29 : lw_okq (⟨"MissedTown", "missedIfHired", "(IIII)I"⟩, 11) := ⟨⟨by decide +kernel, by decide +kernel⟩, List.mem_of_getElem? (i := 22) (by decide +kernel), List.mem_of_getElem? (i := 915) (by decide +kernel), List.mem_of_getElem? (i := 916) (by decide +kernel)⟩
theorem lw_p30 : lw_okq (⟨"MissedTown", "allIsDoneIfStay", "(II)Z"⟩, 11) := ⟨⟨by decide +kernel, by decide +kernel⟩, List.mem_of_getElem? (i := 22) (by decide +kernel), List.mem_of_getElem? (i := 926) (by decide +kernel), List.mem_of_getElem? (i := 927) (by decide +kernel)⟩
theorem lw_p31 : lw_okq (⟨"MissedTown", "missedOnLeave", "(II)I"⟩, 11) := ⟨⟨by decide +kernel, by decide +kernel⟩, List.mem_of_getElem? (i := 22) (by decide +kernel), List.mem_of_getElem? (i := 938) (by decide +kernel), List.mem_of_getElem? (i := 939) (by decide +kernel)⟩
def lw_privs_2 : List (MethodName × Nat) := [(⟨"MissedTown$Trial", "unitsOf", "(I)I"⟩, 14), (⟨"MissedTown$Law", "reckon", "(II)I"⟩, 9), (⟨"MissedTown$Trial", "goThroughChore", "(I)I"⟩, 14), (⟨"MissedTown$Trial", "work", "(II)I"⟩, 14), (⟨"MissedTown", "areTold", "(I)Z"⟩, 11), (⟨"MissedTown", "costIf", "(IIIII)I"⟩, 11), (⟨"MissedTown", "canLeave", "(I)Z"⟩, 11), (⟨"MissedTown", "placeOfMost", "(I)I"⟩, 11), (⟨"MissedTown", "sumOfOrders", "(II)I"⟩, 11), (⟨"MissedTown", "missedIfAway", "(IIII)I"⟩, 11), (⟨"MissedTown", "bestStretches", "(IIII)I"⟩, 11), (⟨"MissedTown", "runAway", "(III)I"⟩, 11), (⟨"MissedTown", "firstOther", "(LMissedTown$State;I)I"⟩, 11), (⟨"MissedTown", "missedIfHired", "(IIII)I"⟩, 11), (⟨"MissedTown", "allIsDoneIfStay", "(II)Z"⟩, 11), (⟨"MissedTown", "missedOnLeave", "(II)I"⟩, 11)]
theorem lw_r2 : ∀ q ∈ lw_privs_2, lw_okq q := List.forall_mem_cons.mpr ⟨lw_p16, List.forall_mem_cons.mpr ⟨lw_p17, List.forall_mem_cons.mpr ⟨lw_p18, List.forall_mem_cons.mpr ⟨lw_p19, List.forall_mem_cons.mpr ⟨lw_p20, List.forall_mem_cons.mpr ⟨lw_p21, List.forall_mem_cons.mpr ⟨lw_p22, List.forall_mem_cons.mpr ⟨lw_p23, List.forall_mem_cons.mpr ⟨lw_p24, List.forall_mem_cons.mpr ⟨lw_p25, List.forall_mem_cons.mpr ⟨lw_p26, List.forall_mem_cons.mpr ⟨lw_p27, List.forall_mem_cons.mpr ⟨lw_p28, List.forall_mem_cons.mpr ⟨lw_p29, List.forall_mem_cons.mpr ⟨lw_p30, List.forall_mem_cons.mpr ⟨lw_p31, fun _ h => absurd h List.not_mem_nil⟩⟩⟩⟩⟩⟩⟩⟩⟩⟩⟩⟩⟩⟩⟩⟩
theorem lw_p32 : lw_okq (⟨"MissedTown", "missedByTurns", "(IIII)I"⟩, 11) := ⟨⟨by decide +kernel, by decide +kernel⟩, List.mem_of_getElem? (i := 22) (by decide +kernel), List.mem_of_getElem? (i := 952) (by decide +kernel), List.mem_of_getElem? (i := 953) (by decide +kernel)⟩
theorem lw_p33 : lw_okq (⟨"MissedTownModel", "types", "(I)V"⟩, 65) := ⟨⟨by decide +kernel, by decide +kernel⟩, List.mem_of_getElem? (i := 972) (by decide +kernel), List.mem_of_getElem? (i := 1193) (by decide +kernel), List.mem_of_getElem? (i := 1194) (by decide +kernel)⟩
theorem lw_p34 : lw_okq (⟨"MissedTownModel", "readsClause", "()Z"⟩, 65) := ⟨⟨by decide +kernel, by decide +kernel⟩, List.mem_of_getElem? (i := 972) (by decide +kernel), List.mem_of_getElem? (i := 1201) (by decide +kernel), List.mem_of_getElem? (i := 1202) (by decide +kernel)⟩
theorem lw_p35 : lw_okq (⟨"MissedTownModel", "here", "()I"⟩, 65) := ⟨⟨by decide +kernel, by decide +kernel⟩, List.mem_of_getElem? (i := 972) (by decide +kernel), List.mem_of_getElem? (i := 1205) (by decide +kernel), List.mem_of_getElem? (i := 1206) (by decide +kernel)⟩
theorem lw_p36 : lw_okq (⟨"MissedTownModel", "wrongAt", "(II)Z"⟩, 65) := ⟨⟨by decide +kernel, by decide +kernel⟩, List.mem_of_getElem? (i := 972) (by decide +kernel), List.mem_of_getElem? (i := 1212) (by decide +kernel), List.mem_of_getElem? (i := 1213) (by decide +kernel)⟩
theorem lw_p37 : lw_okq (⟨"MissedTownModel", "readsSum", "()Z"⟩, 65) := ⟨⟨by decide +kernel, by decide +kernel⟩, List.mem_of_getElem? (i := 972) (by decide +kernel), List.mem_of_getElem? (i := 1216) (by decide +kernel), List.mem_of_getElem? (i := 1217) (by decide +kernel)⟩
theorem lw_p38 : lw_okq (⟨"MissedTownModel", "readsFactor", "()Z"⟩, 65) := ⟨⟨by decide +kernel, by decide +kernel⟩, List.mem_of_getElem? (i := 972) (by decide +kernel), List.mem_of_getElem? (i := 1220) (by decide +kernel), List.mem_of_getElem? (i := 1221) (by decide +kernel)⟩
theorem lw_p39 : lw_okq (⟨"MissedTownModel", "opens", "(I)Z"⟩, 65) := ⟨⟨by decide +kernel, by decide +kernel⟩, List.mem_of_getElem? (i := 972) (by decide +kernel), List.mem_of_getElem? (i := 1224) (by decide +kernel), List.mem_of_getElem? (i := 1225) (by decide +kernel)⟩
theorem lw_p40 : lw_okq (⟨"MissedTownModel", "isDigit", "()Z"⟩, 65) := ⟨⟨by decide +kernel, by decide +kernel⟩, List.mem_of_getElem? (i := 972) (by decide +kernel), List.mem_of_getElem? (i := 1229) (by decide +kernel), List.mem_of_getElem? (i := 1230) (by decide +kernel)⟩
theorem lw_p41 : lw_okq (⟨"MissedTownModel", "readsNumber", "()Z"⟩, 65) := ⟨⟨by decide +kernel, by decide +kernel⟩, List.mem_of_getElem? (i := 972) (by decide +kernel), List.mem_of_getElem? (i := 1233) (by decide +kernel), List.mem_of_getElem? (i := 1234) (by decide +kernel)⟩
theorem lw_p42 : lw_okq (⟨"MissedTownModel", "notes", "(II)V"⟩, 65) := ⟨⟨by decide +kernel, by decide +kernel⟩, List.mem_of_getElem? (i := 972) (by decide +kernel), List.mem_of_getElem? (i := 1237) (by decide +kernel), List.mem_of_getElem? (i := 1238) (by decide +kernel)⟩
theorem lw_p43 : lw_okq (⟨"MissedTownModel", "closesSums", "(Z)V"⟩, 65) := ⟨⟨by decide +kernel, by decide +kernel⟩, List.mem_of_getElem? (i := 972) (by decide +kernel), List.mem_of_getElem? (i := 1247) (by decide +kernel), List.mem_of_getElem? (i := 1248) (by decide +kernel)⟩
theorem lw_p44 : lw_okq (⟨"MissedTownModel", "waitTop", "()I"⟩, 65) := ⟨⟨by decide +kernel, by decide +kernel⟩, List.mem_of_getElem? (i := 972) (by decide +kernel), List.mem_of_getElem? (i := 1251) (by decide +kernel), List.mem_of_getElem? (i := 1252) (by decide +kernel)⟩
theorem lw_p45 : lw_okq (⟨"MissedTownModel", "hasOpenSum", "(I)Z"⟩, 65) := ⟨⟨by decide +kernel, by decide +kernel⟩, List.mem_of_getElem? (i := 972) (by decide +kernel), List.mem_of_getElem? (i := 1255) (by decide +kernel), List.mem_of_getElem? (i := 1256) (by decide +kernel)⟩
theorem lw_p46 : lw_okq (⟨"MissedTownModel", "readsCondition", "()Z"⟩, 65) := ⟨⟨by decide +kernel, by decide +kernel⟩, List.mem_of_getElem? (i := 972) (by decide +kernel), List.mem_of_getElem? (i := 1259) (by decide +kernel), List.mem_of_getElem? (i := 1260) (by decide +kernel)⟩
theorem lw_p47 : lw_okq (⟨"MissedTownModel", "readsCompared", "()Z"⟩, 65) := ⟨⟨by decide +kernel, by decide +kernel⟩, List.mem_of_getElem? (i := 972) (by decide +kernel), List.mem_of_getElem? (i := 1263) (by decide +kernel), List.mem_of_getElem? (i := 1264) (by decide +kernel)⟩
def lw_privs_3 : List (MethodName × Nat) := [(⟨"MissedTown", "missedByTurns", "(IIII)I"⟩, 11), (⟨"MissedTownModel", "types", "(I)V"⟩, 65), (⟨"MissedTownModel", "readsClause", "()Z"⟩, 65), (⟨"MissedTownModel", "here", "()I"⟩, 65), (⟨"MissedTownModel", "wrongAt", "(II)Z"⟩, 65), (⟨"MissedTownModel", "readsSum", "()Z"⟩, 65), (⟨"MissedTownModel", "readsFactor", "()Z"⟩, 65), (⟨"MissedTownModel", "opens", "(I)Z"⟩, 65), (⟨"MissedTownModel", "isDigit", "()Z"⟩, 65), (⟨"MissedTownModel", "readsNumber", "()Z"⟩, 65), (⟨"MissedTownModel", "notes", "(II)V"⟩, 65), (⟨"MissedTownModel", "closesSums", "(Z)V"⟩, 65), (⟨"MissedTownModel", "waitTop", "()I"⟩, 65), (⟨"MissedTownModel", "hasOpenSum", "(I)Z"⟩, 65), (⟨"MissedTownModel", "readsCondition", "()Z"⟩, 65), (⟨"MissedTownModel", "readsCompared", "()Z"⟩, 65)]
theorem lw_r3 : ∀ q ∈ lw_privs_3, lw_okq q := List.forall_mem_cons.mpr ⟨lw_p32, List.forall_mem_cons.mpr ⟨lw_p33, List.forall_mem_cons.mpr ⟨lw_p34, List.forall_mem_cons.mpr ⟨lw_p35, List.forall_mem_cons.mpr ⟨lw_p36, List.forall_mem_cons.mpr ⟨lw_p37, List.forall_mem_cons.mpr ⟨lw_p38, List.forall_mem_cons.mpr ⟨lw_p39, List.forall_mem_cons.mpr ⟨lw_p40, List.forall_mem_cons.mpr ⟨lw_p41, List.forall_mem_cons.mpr ⟨lw_p42, List.forall_mem_cons.mpr ⟨lw_p43, List.forall_mem_cons.mpr ⟨lw_p44, List.forall_mem_cons.mpr ⟨lw_p45, List.forall_mem_cons.mpr ⟨lw_p46, List.forall_mem_cons.mpr ⟨lw_p47, fun _ h => absurd h List.not_mem_nil⟩⟩⟩⟩⟩⟩⟩⟩⟩⟩⟩⟩⟩⟩⟩⟩
theorem lw_p48 : lw_okq (⟨"MissedTownModel", "endsPiece", "()V"⟩, 65) := ⟨⟨by decide +kernel, by decide +kernel⟩, List.mem_of_getElem? (i := 972) (by decide +kernel), List.mem_of_getElem? (i := 1267) (by decide +kernel), List.mem_of_getElem? (i := 1268) (by decide +kernel)⟩
theorem lw_p49 : lw_okq (⟨"MissedTownModel", "lands", "(Z)V"⟩, 65) := ⟨⟨by decide +kernel, by decide +kernel⟩, List.mem_of_getElem? (i := 972) (by decide +kernel), List.mem_of_getElem? (i := 1271) (by decide +kernel), List.mem_of_getElem? (i := 1272) (by decide +kernel)⟩
theorem lw_p50 : lw_okq (⟨"MissedTownModel", "jumps", "(I)V"⟩, 65) := ⟨⟨by decide +kernel, by decide +kernel⟩, List.mem_of_getElem? (i := 972) (by decide +kernel), List.mem_of_getElem? (i := 1275) (by decide +kernel), List.mem_of_getElem? (i := 1276) (by decide +kernel)⟩
theorem lw_p51 : lw_okq (⟨"MissedTownModel", "takes", "(I)Z"⟩, 65) := ⟨⟨by decide +kernel, by decide +kernel⟩, List.mem_of_getElem? (i := 972) (by decide +kernel), List.mem_of_getElem? (i := 1279) (by decide +kernel), List.mem_of_getElem? (i := 1280) (by decide +kernel)⟩
theorem lw_p52 : lw_okq (⟨"MissedTownModel", "readsLine", "()Z"⟩, 65) := ⟨⟨by decide +kernel, by decide +kernel⟩, List.mem_of_getElem? (i := 972) (by decide +kernel), List.mem_of_getElem? (i := 1287) (by decide +kernel), List.mem_of_getElem? (i := 1288) (by decide +kernel)⟩
theorem lw_p53 : lw_okq (⟨"MissedTownModel", "readsDoers", "()Z"⟩, 65) := ⟨⟨by decide +kernel, by decide +kernel⟩, List.mem_of_getElem? (i := 972) (by decide +kernel), List.mem_of_getElem? (i := 1291) (by decide +kernel), List.mem_of_getElem? (i := 1292) (by decide +kernel)⟩
theorem lw_p54 : lw_okq (⟨"MissedTownModel", "readsLeave", "()Z"⟩, 65) := ⟨⟨by decide +kernel, by decide +kernel⟩, List.mem_of_getElem? (i := 972) (by decide +kernel), List.mem_of_getElem? (i := 1302) (by decide +kernel), List.mem_of_getElem? (i := 1303) (by decide +kernel)⟩
theorem lw_p55 : lw_okq (⟨"MissedTownModel", "readsDay", "()Z"⟩, 65) := ⟨⟨by decide +kernel, by decide +kernel⟩, List.mem_of_getElem? (i := 972) (by decide +kernel), List.mem_of_getElem? (i := 1306) (by decide +kernel), List.mem_of_getElem? (i := 1307) (by decide +kernel)⟩
theorem lw_p56 : lw_okq (⟨"MissedTownModel", "leaveSet", "()I"⟩, 65) := ⟨⟨by decide +kernel, by decide +kernel⟩, List.mem_of_getElem? (i := 972) (by decide +kernel), List.mem_of_getElem? (i := 1314) (by decide +kernel), List.mem_of_getElem? (i := 1315) (by decide +kernel)⟩
theorem lw_p57 : lw_okq (⟨"MissedTownModel", "hasLeave", "(I)Z"⟩, 65) := ⟨⟨by decide +kernel, by decide +kernel⟩, List.mem_of_getElem? (i := 972) (by decide +kernel), List.mem_of_getElem? (i := 1318) (by decide +kernel), List.mem_of_getElem? (i := 1319) (by decide +kernel)⟩
theorem lw_p58 : lw_okq (⟨"MissedTownModel", "laysGoing", "(I)V"⟩, 65) := ⟨⟨by decide +kernel, by decide +kernel⟩, List.mem_of_getElem? (i := 972) (by decide +kernel), List.mem_of_getElem? (i := 1332) (by decide +kernel), List.mem_of_getElem? (i := 1333) (by decide +kernel)⟩
theorem lw_p59 : lw_okq (⟨"MissedTownModel", "laysNobody", "()V"⟩, 65) := ⟨⟨by decide +kernel, by decide +kernel⟩, List.mem_of_getElem? (i := 972) (by decide +kernel), List.mem_of_getElem? (i := 1336) (by decide +kernel), List.mem_of_getElem? (i := 1337) (by decide +kernel)⟩
theorem lw_p60 : lw_okq (⟨"MissedTownModel", "goes", "(III)V"⟩, 65) := ⟨⟨by decide +kernel, by decide +kernel⟩, List.mem_of_getElem? (i := 972) (by decide +kernel), List.mem_of_getElem? (i := 1340) (by decide +kernel), List.mem_of_getElem? (i := 1341) (by decide +kernel)⟩
theorem lw_p61 : lw_okq (⟨"MissedTownModel", "daysGo", "(I)V"⟩, 65) := ⟨⟨by decide +kernel, by decide +kernel⟩, List.mem_of_getElem? (i := 972) (by decide +kernel), List.mem_of_getElem? (i := 1344) (by decide +kernel), List.mem_of_getElem? (i := 1345) (by decide +kernel)⟩
theorem lw_p62 : lw_okq (⟨"MissedTownModel", "dayGoes", "()V"⟩, 65) := ⟨⟨by decide +kernel, by decide +kernel⟩, List.mem_of_getElem? (i := 972) (by decide +kernel), List.mem_of_getElem? (i := 1348) (by decide +kernel), List.mem_of_getElem? (i := 1349) (by decide +kernel)⟩
theorem lw_p63 : lw_okq (⟨"MissedTownModel", "feels", "(Z)V"⟩, 65) := ⟨⟨by decide +kernel, by decide +kernel⟩, List.mem_of_getElem? (i := 972) (by decide +kernel), List.mem_of_getElem? (i := 1353) (by decide +kernel), List.mem_of_getElem? (i := 1354) (by decide +kernel)⟩
def lw_privs_4 : List (MethodName × Nat) := [(⟨"MissedTownModel", "endsPiece", "()V"⟩, 65), (⟨"MissedTownModel", "lands", "(Z)V"⟩, 65), (⟨"MissedTownModel", "jumps", "(I)V"⟩, 65), (⟨"MissedTownModel", "takes", "(I)Z"⟩, 65), (⟨"MissedTownModel", "readsLine", "()Z"⟩, 65), (⟨"MissedTownModel", "readsDoers", "()Z"⟩, 65), (⟨"MissedTownModel", "readsLeave", "()Z"⟩, 65), (⟨"MissedTownModel", "readsDay", "()Z"⟩, 65), (⟨"MissedTownModel", "leaveSet", "()I"⟩, 65), (⟨"MissedTownModel", "hasLeave", "(I)Z"⟩, 65), (⟨"MissedTownModel", "laysGoing", "(I)V"⟩, 65), (⟨"MissedTownModel", "laysNobody", "()V"⟩, 65), (⟨"MissedTownModel", "goes", "(III)V"⟩, 65), (⟨"MissedTownModel", "daysGo", "(I)V"⟩, 65), (⟨"MissedTownModel", "dayGoes", "()V"⟩, 65), (⟨"MissedTownModel", "feels", "(Z)V"⟩, 65)]
theorem lw_r4 : ∀ q ∈ lw_privs_4, lw_okq q := List.forall_mem_cons.mpr ⟨lw_p48, List.forall_mem_cons.mpr ⟨lw_p49, List.forall_mem_cons.mpr ⟨lw_p50, List.forall_mem_cons.mpr ⟨lw_p51, List.forall_mem_cons.mpr ⟨lw_p52, List.forall_mem_cons.mpr ⟨lw_p53, List.forall_mem_cons.mpr ⟨lw_p54, List.forall_mem_cons.mpr ⟨lw_p55, List.forall_mem_cons.mpr ⟨lw_p56, List.forall_mem_cons.mpr ⟨lw_p57, List.forall_mem_cons.mpr ⟨lw_p58, List.forall_mem_cons.mpr ⟨lw_p59, List.forall_mem_cons.mpr ⟨lw_p60, List.forall_mem_cons.mpr ⟨lw_p61, List.forall_mem_cons.mpr ⟨lw_p62, List.forall_mem_cons.mpr ⟨lw_p63, fun _ h => absurd h List.not_mem_nil⟩⟩⟩⟩⟩⟩⟩⟩⟩⟩⟩⟩⟩⟩⟩⟩
theorem lw_p64 : lw_okq (⟨"MissedTownModel", "awayOn", "(I)I"⟩, 65) := ⟨⟨by decide +kernel, by decide +kernel⟩, List.mem_of_getElem? (i := 972) (by decide +kernel), List.mem_of_getElem? (i := 1357) (by decide +kernel), List.mem_of_getElem? (i := 1358) (by decide +kernel)⟩
theorem lw_p65 : lw_okq (⟨"MissedTownModel", "isPerson", "(I)Z"⟩, 65) := ⟨⟨by decide +kernel, by decide +kernel⟩, List.mem_of_getElem? (i := 972) (by decide +kernel), List.mem_of_getElem? (i := 1361) (by decide +kernel), List.mem_of_getElem? (i := 1362) (by decide +kernel)⟩
theorem lw_p66 : lw_okq (⟨"MissedTownModel", "isAway", "(II)Z"⟩, 65) := ⟨⟨by decide +kernel, by decide +kernel⟩, List.mem_of_getElem? (i := 972) (by decide +kernel), List.mem_of_getElem? (i := 1365) (by decide +kernel), List.mem_of_getElem? (i := 1366) (by decide +kernel)⟩
theorem lw_p67 : lw_okq (⟨"MissedTownModel", "unitsOf", "(I)I"⟩, 65) := ⟨⟨by decide +kernel, by decide +kernel⟩, List.mem_of_getElem? (i := 972) (by decide +kernel), List.mem_of_getElem? (i := 1369) (by decide +kernel), List.mem_of_getElem? (i := 1370) (by decide +kernel)⟩
theorem lw_p68 : lw_okq (⟨"MissedTownModel", "byLaw", "(II)I"⟩, 65) := ⟨⟨by decide +kernel, by decide +kernel⟩, List.mem_of_getElem? (i := 972) (by decide +kernel), List.mem_of_getElem? (i := 1373) (by decide +kernel), List.mem_of_getElem? (i := 1374) (by decide +kernel)⟩
theorem lw_p69 : lw_okq (⟨"MissedTownModel", "comesTo", "(II)I"⟩, 65) := ⟨⟨by decide +kernel, by decide +kernel⟩, List.mem_of_getElem? (i := 972) (by decide +kernel), List.mem_of_getElem? (i := 1377) (by decide +kernel), List.mem_of_getElem? (i := 1378) (by decide +kernel)⟩
theorem lw_p70 : lw_okq (⟨"MissedTownModel", "isChore", "(I)Z"⟩, 65) := ⟨⟨by decide +kernel, by decide +kernel⟩, List.mem_of_getElem? (i := 972) (by decide +kernel), List.mem_of_getElem? (i := 1384) (by decide +kernel), List.mem_of_getElem? (i := 1385) (by decide +kernel)⟩
theorem lw_p71 : lw_okq (⟨"MissedTownModel", "choreGoes", "(I)V"⟩, 65) := ⟨⟨by decide +kernel, by decide +kernel⟩, List.mem_of_getElem? (i := 972) (by decide +kernel), List.mem_of_getElem? (i := 1388) (by decide +kernel), List.mem_of_getElem? (i := 1389) (by decide +kernel)⟩
theorem lw_p72 : lw_okq (⟨"MissedTownModel", "holdsAny", "(I)Z"⟩, 65) := ⟨⟨by decide +kernel, by decide +kernel⟩, List.mem_of_getElem? (i := 972) (by decide +kernel), List.mem_of_getElem? (i := 1392) (by decide +kernel), List.mem_of_getElem? (i := 1393) (by decide +kernel)⟩
theorem lw_p73 : lw_okq (⟨"MissedTownModel", "does", "(II)I"⟩, 65) := ⟨⟨by decide +kernel, by decide +kernel⟩, List.mem_of_getElem? (i := 972) (by decide +kernel), List.mem_of_getElem? (i := 1399) (by decide +kernel), List.mem_of_getElem? (i := 1400) (by decide +kernel)⟩
theorem lw_p74 : lw_okq (⟨"MissedTownModel", "undoneAll", "()I"⟩, 65) := ⟨⟨by decide +kernel, by decide +kernel⟩, List.mem_of_getElem? (i := 972) (by decide +kernel), List.mem_of_getElem? (i := 1403) (by decide +kernel), List.mem_of_getElem? (i := 1404) (by decide +kernel)⟩
theorem lw_p75 : lw_okq (⟨"MissedTownModel", "choresOf", "(I)I"⟩, 65) := ⟨⟨by decide +kernel, by decide +kernel⟩, List.mem_of_getElem? (i := 972) (by decide +kernel), List.mem_of_getElem? (i := 1418) (by decide +kernel), List.mem_of_getElem? (i := 1419) (by decide +kernel)⟩
theorem lw_p76 : lw_okq (⟨"MissedTownModel", "costOf", "(II)I"⟩, 65) := ⟨⟨by decide +kernel, by decide +kernel⟩, List.mem_of_getElem? (i := 972) (by decide +kernel), List.mem_of_getElem? (i := 1430) (by decide +kernel), List.mem_of_getElem? (i := 1431) (by decide +kernel)⟩
theorem lw_p77 : lw_okq (⟨"MissedTownModel", "trial", "(I)I"⟩, 65) := ⟨⟨by decide +kernel, by decide +kernel⟩, List.mem_of_getElem? (i := 972) (by decide +kernel), List.mem_of_getElem? (i := 1434) (by decide +kernel), List.mem_of_getElem? (i := 1435) (by decide +kernel)⟩
theorem lw_p78 : lw_okq (⟨"MissedTownModel", "isGoer", "(I)Z"⟩, 65) := ⟨⟨by decide +kernel, by decide +kernel⟩, List.mem_of_getElem? (i := 972) (by decide +kernel), List.mem_of_getElem? (i := 1442) (by decide +kernel), List.mem_of_getElem? (i := 1443) (by decide +kernel)⟩
theorem lw_p79 : lw_okq (⟨"MissedTownModel", "areGoers", "(I)Z"⟩, 65) := ⟨⟨by decide +kernel, by decide +kernel⟩, List.mem_of_getElem? (i := 972) (by decide +kernel), List.mem_of_getElem? (i := 1455) (by decide +kernel), List.mem_of_getElem? (i := 1456) (by decide +kernel)⟩
def lw_privs_5 : List (MethodName × Nat) := [(⟨"MissedTownModel", "awayOn", "(I)I"⟩, 65), (⟨"MissedTownModel", "isPerson", "(I)Z"⟩, 65), (⟨"MissedTownModel", "isAway", "(II)Z"⟩, 65), (⟨"MissedTownModel", "unitsOf", "(I)I"⟩, 65), (⟨"MissedTownModel", "byLaw", "(II)I"⟩, 65), (⟨"MissedTownModel", "comesTo", "(II)I"⟩, 65), (⟨"MissedTownModel", "isChore", "(I)Z"⟩, 65), (⟨"MissedTownModel", "choreGoes", "(I)V"⟩, 65), (⟨"MissedTownModel", "holdsAny", "(I)Z"⟩, 65), (⟨"MissedTownModel", "does", "(II)I"⟩, 65), (⟨"MissedTownModel", "undoneAll", "()I"⟩, 65), (⟨"MissedTownModel", "choresOf", "(I)I"⟩, 65), (⟨"MissedTownModel", "costOf", "(II)I"⟩, 65), (⟨"MissedTownModel", "trial", "(I)I"⟩, 65), (⟨"MissedTownModel", "isGoer", "(I)Z"⟩, 65), (⟨"MissedTownModel", "areGoers", "(I)Z"⟩, 65)]
theorem lw_r5 : ∀ q ∈ lw_privs_5, lw_okq q := List.forall_mem_cons.mpr ⟨lw_p64, List.forall_mem_cons.mpr ⟨lw_p65, List.forall_mem_cons.mpr ⟨lw_p66, List.forall_mem_cons.mpr ⟨lw_p67, List.forall_mem_cons.mpr ⟨lw_p68, List.forall_mem_cons.mpr ⟨lw_p69, List.forall_mem_cons.mpr ⟨lw_p70, List.forall_mem_cons.mpr ⟨lw_p71, List.forall_mem_cons.mpr ⟨lw_p72, List.forall_mem_cons.mpr ⟨lw_p73, List.forall_mem_cons.mpr ⟨lw_p74, List.forall_mem_cons.mpr ⟨lw_p75, List.forall_mem_cons.mpr ⟨lw_p76, List.forall_mem_cons.mpr ⟨lw_p77, List.forall_mem_cons.mpr ⟨lw_p78, List.forall_mem_cons.mpr ⟨lw_p79, fun _ h => absurd h List.not_mem_nil⟩⟩⟩⟩⟩⟩⟩⟩⟩⟩⟩⟩⟩⟩⟩⟩
theorem lw_p80 : lw_okq (⟨"MissedTownModel", "laysCosts", "(II)V"⟩, 65) := ⟨⟨by decide +kernel, by decide +kernel⟩, List.mem_of_getElem? (i := 972) (by decide +kernel), List.mem_of_getElem? (i := 1459) (by decide +kernel), List.mem_of_getElem? (i := 1460) (by decide +kernel)⟩
theorem lw_p81 : lw_okq (⟨"MissedTownModel", "partOf", "(II)I"⟩, 65) := ⟨⟨by decide +kernel, by decide +kernel⟩, List.mem_of_getElem? (i := 972) (by decide +kernel), List.mem_of_getElem? (i := 1463) (by decide +kernel), List.mem_of_getElem? (i := 1464) (by decide +kernel)⟩
theorem lw_p82 : lw_okq (⟨"MissedTownModel", "missedIdle", "(III)I"⟩, 65) := ⟨⟨by decide +kernel, by decide +kernel⟩, List.mem_of_getElem? (i := 972) (by decide +kernel), List.mem_of_getElem? (i := 1477) (by decide +kernel), List.mem_of_getElem? (i := 1478) (by decide +kernel)⟩
theorem lw_p83 : lw_okq (⟨"MissedTownModel", "missedBy", "(IIIII)I"⟩, 65) := ⟨⟨by decide +kernel, by decide +kernel⟩, List.mem_of_getElem? (i := 972) (by decide +kernel), List.mem_of_getElem? (i := 1490) (by decide +kernel), List.mem_of_getElem? (i := 1491) (by decide +kernel)⟩
theorem lw_p84 : lw_okq (⟨"MissedTownModel", "rests", "(II)Z"⟩, 65) := ⟨⟨by decide +kernel, by decide +kernel⟩, List.mem_of_getElem? (i := 972) (by decide +kernel), List.mem_of_getElem? (i := 1494) (by decide +kernel), List.mem_of_getElem? (i := 1495) (by decide +kernel)⟩
theorem lw_p85 : lw_okq (⟨"MissedTownModel", "isSo", "(II)Z"⟩, 65) := ⟨⟨by decide +kernel, by decide +kernel⟩, List.mem_of_getElem? (i := 972) (by decide +kernel), List.mem_of_getElem? (i := 1502) (by decide +kernel), List.mem_of_getElem? (i := 1503) (by decide +kernel)⟩
theorem lw_p86 : lw_okq (⟨"MissedTownModel", "missedWithout", "(II)I"⟩, 65) := ⟨⟨by decide +kernel, by decide +kernel⟩, List.mem_of_getElem? (i := 972) (by decide +kernel), List.mem_of_getElem? (i := 1511) (by decide +kernel), List.mem_of_getElem? (i := 1512) (by decide +kernel)⟩
theorem lw_p87 : lw_okq (⟨"MissedTownModel", "missedWith", "(IIII)I"⟩, 65) := ⟨⟨by decide +kernel, by decide +kernel⟩, List.mem_of_getElem? (i := 972) (by decide +kernel), List.mem_of_getElem? (i := 1523) (by decide +kernel), List.mem_of_getElem? (i := 1524) (by decide +kernel)⟩
theorem lw_p88 : lw_okq (⟨"MissedTownModel", "isHire", "(III)Z"⟩, 65) := ⟨⟨by decide +kernel, by decide +kernel⟩, List.mem_of_getElem? (i := 972) (by decide +kernel), List.mem_of_getElem? (i := 1531) (by decide +kernel), List.mem_of_getElem? (i := 1532) (by decide +kernel)⟩
theorem lw_p89 : lw_okq (⟨"MissedTownModel", "missedBehind", "(II)I"⟩, 65) := ⟨⟨by decide +kernel, by decide +kernel⟩, List.mem_of_getElem? (i := 972) (by decide +kernel), List.mem_of_getElem? (i := 1543) (by decide +kernel), List.mem_of_getElem? (i := 1544) (by decide +kernel)⟩
theorem lw_p90 : lw_okq (⟨"MissedTownModel", "readsTurns", "(II)Z"⟩, 65) := ⟨⟨by decide +kernel, by decide +kernel⟩, List.mem_of_getElem? (i := 972) (by decide +kernel), List.mem_of_getElem? (i := 1551) (by decide +kernel), List.mem_of_getElem? (i := 1552) (by decide +kernel)⟩
def lw_privs_6 : List (MethodName × Nat) := [(⟨"MissedTownModel", "laysCosts", "(II)V"⟩, 65), (⟨"MissedTownModel", "partOf", "(II)I"⟩, 65), (⟨"MissedTownModel", "missedIdle", "(III)I"⟩, 65), (⟨"MissedTownModel", "missedBy", "(IIIII)I"⟩, 65), (⟨"MissedTownModel", "rests", "(II)Z"⟩, 65), (⟨"MissedTownModel", "isSo", "(II)Z"⟩, 65), (⟨"MissedTownModel", "missedWithout", "(II)I"⟩, 65), (⟨"MissedTownModel", "missedWith", "(IIII)I"⟩, 65), (⟨"MissedTownModel", "isHire", "(III)Z"⟩, 65), (⟨"MissedTownModel", "missedBehind", "(II)I"⟩, 65), (⟨"MissedTownModel", "readsTurns", "(II)Z"⟩, 65)]
theorem lw_r6 : ∀ q ∈ lw_privs_6, lw_okq q := List.forall_mem_cons.mpr ⟨lw_p80, List.forall_mem_cons.mpr ⟨lw_p81, List.forall_mem_cons.mpr ⟨lw_p82, List.forall_mem_cons.mpr ⟨lw_p83, List.forall_mem_cons.mpr ⟨lw_p84, List.forall_mem_cons.mpr ⟨lw_p85, List.forall_mem_cons.mpr ⟨lw_p86, List.forall_mem_cons.mpr ⟨lw_p87, List.forall_mem_cons.mpr ⟨lw_p88, List.forall_mem_cons.mpr ⟨lw_p89, List.forall_mem_cons.mpr ⟨lw_p90, fun _ h => absurd h List.not_mem_nil⟩⟩⟩⟩⟩⟩⟩⟩⟩⟩⟩
def lw_privs : List (MethodName × Nat) := lw_privs_1 ++ (lw_privs_2 ++ (lw_privs_3 ++ (lw_privs_4 ++ (lw_privs_5 ++ (lw_privs_6)))))
def lw_tbl : List Cond := k2_sels lw_privs ++ tables_1
theorem lw_privs_ok : ∀ q ∈ lw_privs, lw_okq q := by
  show ∀ q ∈ lw_privs_1 ++ (lw_privs_2 ++ (lw_privs_3 ++ (lw_privs_4 ++ (lw_privs_5 ++ (lw_privs_6))))), lw_okq q
  exact List.forall_mem_append.mpr ⟨lw_r1, List.forall_mem_append.mpr ⟨lw_r2, List.forall_mem_append.mpr ⟨lw_r3, List.forall_mem_append.mpr ⟨lw_r4, List.forall_mem_append.mpr ⟨lw_r5, lw_r6⟩⟩⟩⟩⟩
-- ===== end of PART A; then your names; then what follows =====
end
section
/-! ===== BEGIN words of one list among another's, by their places ===== -/
theorem goodIn_r {big : List Cond} (ws : List Cond) (ps : List Nat) (hp : ws = ps.filterMap (fun i => big[i]?)) (h : ws.all goodWord = true) : GoodIn big ws := by
  intro w hw
  have h1 := List.all_eq_true.mp h w hw
  rw [hp] at hw
  obtain ⟨i, -, hi⟩ := List.mem_filterMap.mp hw
  have hm : w ∈ big := by first | exact List.mem_of_getElem? hi | exact List.getElem?_mem hi
  exact ⟨hm, good_of_word h1⟩
theorem goodIn_app {big a b : List Cond} (ha : GoodIn big a) (hb : GoodIn big b) : GoodIn big (a ++ b) := fun w h => (List.mem_append.mp h).elim (ha w) (hb w)
theorem goodIn_ca {big a b : List Cond} {c : Cond} (ha : GoodIn big (c :: a)) (hb : GoodIn big b) : GoodIn big (c :: (a ++ b)) := fun w h => (List.mem_cons.mp h).elim (fun e => ha w (List.mem_cons.mpr (Or.inl e))) (fun h => (List.mem_append.mp h).elim (fun h => ha w (List.mem_cons.mpr (Or.inr h))) (hb w))
theorem goodIn_sub {big ws : List Cond} (hm : ∀ w ∈ ws, w ∈ big) (h : ws.all goodWord = true) : GoodIn big ws := fun w hw => ⟨hm w hw, good_of_word (List.all_eq_true.mp h w hw)⟩
/-! ===== END ===== -/
def RX0 : String := "MissedTown$DoersReader"
def TX0 : u_T := fun k => match k with
  | 0 => ("MissedTown$DoersReader", "text", "LMissedTown$Text;", true)
  | 1 => ("MissedTown$DoersReader", "rows", "[I", true)
  | 2 => ("MissedTown$DoersReader", "rowLength", "[I", true)
  | _ => ("MissedTown$DoersReader", "lines", "I", false)
def tyX0 : Nat → FieldType := fun k => match k with
  | 0 => .object "MissedTown$Text"
  | 1 => .array .int
  | 2 => .array .int
  | _ => .int
abbrev wsX00 : List Cond := u_ws RX0 TX0 4
theorem nmX0 : ∀ a, a < 4 → ∀ b, b < 4 → a ≠ b → (TX0 a).2.1 ≠ (TX0 b).2.1 := by decide +kernel
theorem tyX0_ok : ∀ k, k < 4 → parseFieldDescriptor (TX0 k).2.2.1 = some (tyX0 k) := by decide +kernel
abbrev cX0_init : ByteArray := prog_2_method_1_code
def yX0_init : MethodName := ⟨RX0, "<init>", "(LMissedTown$Text;)V"⟩
abbrev cX0_read : ByteArray := prog_2_method_2_code
def yX0_read : MethodName := ⟨RX0, "read", "(I)I"⟩
abbrev cX0_giveTo : ByteArray := prog_2_method_3_code
def yX0_giveTo : MethodName := ⟨RX0, "giveTo", "(LMissedTown$Town;)V"⟩
abbrev cX0_readLine : ByteArray := prog_2_method_4_code
def yX0_readLine : MethodName := ⟨RX0, "readLine", "()V"⟩
abbrev cX0_readRow : ByteArray := prog_2_method_5_code
def yX0_readRow : MethodName := ⟨RX0, "readRow", "(I)V"⟩
def RX1 : String := "MissedTown$Law"
def TX1 : u_T := fun k => match k with
  | 0 => ("MissedTown$Law", "steps", "[I", true)
  | 1 => ("MissedTown$Law", "kinds", "[I", true)
  | 2 => ("MissedTown$Law", "starts", "[I", true)
  | 3 => ("MissedTown$Law", "middles", "[I", true)
  | 4 => ("MissedTown$Law", "ends", "[I", true)
  | 5 => ("MissedTown$Law", "letters", "[I", true)
  | 6 => ("MissedTown$Law", "stack", "[I", true)
  | 7 => ("MissedTown$Law", "size", "I", false)
  | _ => ("MissedTown$Law", "clauses", "I", false)
def tyX1 : Nat → FieldType := fun k => match k with
  | 0 => .array .int
  | 1 => .array .int
  | 2 => .array .int
  | 3 => .array .int
  | 4 => .array .int
  | 5 => .array .int
  | 6 => .array .int
  | 7 => .int
  | _ => .int
abbrev wsX10 : List Cond := u_ws RX1 TX1 9
theorem nmX1 : ∀ a, a < 9 → ∀ b, b < 9 → a ≠ b → (TX1 a).2.1 ≠ (TX1 b).2.1 := by decide +kernel
theorem tyX1_ok : ∀ k, k < 9 → parseFieldDescriptor (TX1 k).2.2.1 = some (tyX1 k) := by decide +kernel
abbrev cX1_init : ByteArray := prog_3_method_1_code
def yX1_init : MethodName := ⟨RX1, "<init>", "()V"⟩
abbrev cX1_copy : ByteArray := prog_3_method_2_code
def yX1_copy : MethodName := ⟨RX1, "copy", "(LMissedTown$Law;)V"⟩
abbrev cX1_setDay : ByteArray := prog_3_method_3_code
def yX1_setDay : MethodName := ⟨RX1, "setDay", "(III)V"⟩
abbrev cX1_setPerson : ByteArray := prog_3_method_4_code
def yX1_setPerson : MethodName := ⟨RX1, "setPerson", "(II)V"⟩
abbrev cX1_setChore : ByteArray := prog_3_method_5_code
def yX1_setChore : MethodName := ⟨RX1, "setChore", "(III)V"⟩
abbrev cX1_setUndone : ByteArray := prog_3_method_6_code
def yX1_setUndone : MethodName := ⟨RX1, "setUndone", "(I)V"⟩
abbrev cX1_firstOf : ByteArray := prog_3_method_7_code
def yX1_firstOf : MethodName := ⟨RX1, "firstOf", "(II)I"⟩
abbrev cX1_anyOf : ByteArray := prog_3_method_8_code
def yX1_anyOf : MethodName := ⟨RX1, "anyOf", "(I)Z"⟩
abbrev cX1_reckon : ByteArray := prog_3_method_9_code
def yX1_reckon : MethodName := ⟨RX1, "reckon", "(II)I"⟩
abbrev cX1_joined : ByteArray := prog_3_method_10_code
def yX1_joined : MethodName := ⟨RX1, "joined", "(III)I"⟩
abbrev cX1_clear : ByteArray := prog_3_method_11_code
def yX1_clear : MethodName := ⟨RX1, "clear", "()V"⟩
abbrev cX1_beginClause : ByteArray := prog_3_method_12_code
def yX1_beginClause : MethodName := ⟨RX1, "beginClause", "(I)V"⟩
abbrev cX1_beginCondition : ByteArray := prog_3_method_13_code
def yX1_beginCondition : MethodName := ⟨RX1, "beginCondition", "()V"⟩
abbrev cX1_endClause : ByteArray := prog_3_method_14_code
def yX1_endClause : MethodName := ⟨RX1, "endClause", "()V"⟩
abbrev cX1_addStep : ByteArray := prog_3_method_15_code
def yX1_addStep : MethodName := ⟨RX1, "addStep", "(II)V"⟩
abbrev cX1_landSkip : ByteArray := prog_3_method_16_code
def yX1_landSkip : MethodName := ⟨RX1, "landSkip", "(I)V"⟩
def RX2 : String := "MissedTown$LawReader"
def TX2 : u_T := fun k => match k with
  | 0 => ("MissedTown$LawReader", "text", "LMissedTown$Text;", true)
  | _ => ("MissedTown$LawReader", "draft", "LMissedTown$Law;", true)
def tyX2 : Nat → FieldType := fun k => match k with
  | 0 => .object "MissedTown$Text"
  | _ => .object "MissedTown$Law"
abbrev wsX20 : List Cond := u_ws RX2 TX2 2
theorem nmX2 : ∀ a, a < 2 → ∀ b, b < 2 → a ≠ b → (TX2 a).2.1 ≠ (TX2 b).2.1 := by decide +kernel
theorem tyX2_ok : ∀ k, k < 2 → parseFieldDescriptor (TX2 k).2.2.1 = some (tyX2 k) := by decide +kernel
abbrev cX2_init : ByteArray := prog_4_method_1_code
def yX2_init : MethodName := ⟨RX2, "<init>", "(LMissedTown$Text;)V"⟩
abbrev cX2_read : ByteArray := prog_4_method_2_code
def yX2_read : MethodName := ⟨RX2, "read", "(I)I"⟩
abbrev cX2_readClause : ByteArray := prog_4_method_3_code
def yX2_readClause : MethodName := ⟨RX2, "readClause", "()V"⟩
abbrev cX2_placeIn : ByteArray := prog_4_method_4_code
def yX2_placeIn : MethodName := ⟨RX2, "placeIn", "(Ljava/lang/String;)I"⟩
abbrev cX2_readChoice : ByteArray := prog_4_method_5_code
def yX2_readChoice : MethodName := ⟨RX2, "readChoice", "(I)V"⟩
abbrev cX2_readPart : ByteArray := prog_4_method_6_code
def yX2_readPart : MethodName := ⟨RX2, "readPart", "(I)V"⟩
abbrev cX2_readPiece : ByteArray := prog_4_method_7_code
def yX2_readPiece : MethodName := ⟨RX2, "readPiece", "(I)V"⟩
abbrev cX2_opens : ByteArray := prog_4_method_8_code
def yX2_opens : MethodName := ⟨RX2, "opens", "(I)Z"⟩
abbrev cX2_comparison : ByteArray := prog_4_method_9_code
def yX2_comparison : MethodName := ⟨RX2, "comparison", "()I"⟩
abbrev cX2_readSum : ByteArray := prog_4_method_10_code
def yX2_readSum : MethodName := ⟨RX2, "readSum", "(I)V"⟩
abbrev cX2_readTerm : ByteArray := prog_4_method_11_code
def yX2_readTerm : MethodName := ⟨RX2, "readTerm", "(I)V"⟩
abbrev cX2_factorStep : ByteArray := prog_4_method_12_code
def yX2_factorStep : MethodName := ⟨RX2, "factorStep", "()I"⟩
abbrev cX2_readFactor : ByteArray := prog_4_method_13_code
def yX2_readFactor : MethodName := ⟨RX2, "readFactor", "(I)V"⟩
def RX3 : String := "MissedTown$LeavesReader"
def TX3 : u_T := fun k => match k with
  | 0 => ("MissedTown$LeavesReader", "text", "LMissedTown$Text;", true)
  | 1 => ("MissedTown$LeavesReader", "first", "[I", true)
  | 2 => ("MissedTown$LeavesReader", "last", "[I", true)
  | 3 => ("MissedTown$LeavesReader", "seen", "I", false)
  | _ => ("MissedTown$LeavesReader", "lines", "I", false)
def tyX3 : Nat → FieldType := fun k => match k with
  | 0 => .object "MissedTown$Text"
  | 1 => .array .int
  | 2 => .array .int
  | 3 => .int
  | _ => .int
abbrev wsX30 : List Cond := u_ws RX3 TX3 5
theorem nmX3 : ∀ a, a < 5 → ∀ b, b < 5 → a ≠ b → (TX3 a).2.1 ≠ (TX3 b).2.1 := by decide +kernel
theorem tyX3_ok : ∀ k, k < 5 → parseFieldDescriptor (TX3 k).2.2.1 = some (tyX3 k) := by decide +kernel
abbrev cX3_init : ByteArray := prog_5_method_1_code
def yX3_init : MethodName := ⟨RX3, "<init>", "(LMissedTown$Text;)V"⟩
abbrev cX3_read : ByteArray := prog_5_method_2_code
def yX3_read : MethodName := ⟨RX3, "read", "(I)I"⟩
abbrev cX3_giveTo : ByteArray := prog_5_method_3_code
def yX3_giveTo : MethodName := ⟨RX3, "giveTo", "(LMissedTown$State;)V"⟩
abbrev cX3_readLine : ByteArray := prog_5_method_4_code
def yX3_readLine : MethodName := ⟨RX3, "readLine", "()V"⟩
abbrev cX3_readDays : ByteArray := prog_5_method_5_code
def yX3_readDays : MethodName := ⟨RX3, "readDays", "(I)V"⟩
def RX4 : String := "MissedTown$State"
def TX4 : u_T := fun k => match k with
  | 0 => ("MissedTown$State", "undone", "[I", true)
  | 1 => ("MissedTown$State", "first", "[I", true)
  | 2 => ("MissedTown$State", "last", "[I", true)
  | 3 => ("MissedTown$State", "missedSoFar", "I", false)
  | 4 => ("MissedTown$State", "day", "I", false)
  | _ => ("MissedTown$State", "drawn", "I", false)
def tyX4 : Nat → FieldType := fun k => match k with
  | 0 => .array .int
  | 1 => .array .int
  | 2 => .array .int
  | 3 => .int
  | 4 => .int
  | _ => .int
abbrev wsX40 : List Cond := u_ws RX4 TX4 6
theorem nmX4 : ∀ a, a < 6 → ∀ b, b < 6 → a ≠ b → (TX4 a).2.1 ≠ (TX4 b).2.1 := by decide +kernel
theorem tyX4_ok : ∀ k, k < 6 → parseFieldDescriptor (TX4 k).2.2.1 = some (tyX4 k) := by decide +kernel
abbrev cX4_init : ByteArray := prog_6_method_1_code
def yX4_init : MethodName := ⟨RX4, "<init>", "()V"⟩
abbrev cX4_copy : ByteArray := prog_6_method_2_code
def yX4_copy : MethodName := ⟨RX4, "copy", "(LMissedTown$State;)V"⟩
abbrev cX4_giveLeave : ByteArray := prog_6_method_3_code
def yX4_giveLeave : MethodName := ⟨RX4, "giveLeave", "(III)V"⟩
abbrev cX4_endLeaves : ByteArray := prog_6_method_4_code
def yX4_endLeaves : MethodName := ⟨RX4, "endLeaves", "(I)V"⟩
abbrev cX4_hasLeave : ByteArray := prog_6_method_5_code
def yX4_hasLeave : MethodName := ⟨RX4, "hasLeave", "(I)Z"⟩
abbrev cX4_isAway : ByteArray := prog_6_method_6_code
def yX4_isAway : MethodName := ⟨RX4, "isAway", "(I)Z"⟩
abbrev cX4_leaveBits : ByteArray := prog_6_method_7_code
def yX4_leaveBits : MethodName := ⟨RX4, "leaveBits", "()I"⟩
abbrev cX4_awayBits : ByteArray := prog_6_method_8_code
def yX4_awayBits : MethodName := ⟨RX4, "awayBits", "()I"⟩
abbrev cX4_allUndone : ByteArray := prog_6_method_9_code
def yX4_allUndone : MethodName := ⟨RX4, "allUndone", "()I"⟩
def RX5 : String := "MissedTown$Tape"
def TX5 : u_T := fun k => match k with
  | 0 => ("MissedTown$Tape", "bytes", "[I", true)
  | _ => ("MissedTown$Tape", "length", "I", false)
def tyX5 : Nat → FieldType := fun k => match k with
  | 0 => .array .int
  | _ => .int
abbrev wsX50 : List Cond := u_ws RX5 TX5 2
theorem nmX5 : ∀ a, a < 2 → ∀ b, b < 2 → a ≠ b → (TX5 a).2.1 ≠ (TX5 b).2.1 := by decide +kernel
theorem tyX5_ok : ∀ k, k < 2 → parseFieldDescriptor (TX5 k).2.2.1 = some (tyX5 k) := by decide +kernel
abbrev cX5_init : ByteArray := prog_7_method_1_code
def yX5_init : MethodName := ⟨RX5, "<init>", "()V"⟩
abbrev cX5_hasRoomFor : ByteArray := prog_7_method_2_code
def yX5_hasRoomFor : MethodName := ⟨RX5, "hasRoomFor", "(I)Z"⟩
abbrev cX5_addWord : ByteArray := prog_7_method_3_code
def yX5_addWord : MethodName := ⟨RX5, "addWord", "(I)V"⟩
abbrev cX5_canGive : ByteArray := prog_7_method_4_code
def yX5_canGive : MethodName := ⟨RX5, "canGive", "(III)Z"⟩
abbrev cX5_at : ByteArray := prog_7_method_5_code
def yX5_at : MethodName := ⟨RX5, "at", "(I)I"⟩
def RX6 : String := "MissedTown$Text"
def TX6 : u_T := fun k => match k with
  | 0 => ("MissedTown$Text", "tape", "LMissedTown$Tape;", true)
  | 1 => ("MissedTown$Text", "end", "I", false)
  | 2 => ("MissedTown$Text", "place", "I", false)
  | _ => ("MissedTown$Text", "fault", "I", false)
def tyX6 : Nat → FieldType := fun k => match k with
  | 0 => .object "MissedTown$Tape"
  | 1 => .int
  | 2 => .int
  | _ => .int
abbrev wsX60 : List Cond := u_ws RX6 TX6 4
theorem nmX6 : ∀ a, a < 4 → ∀ b, b < 4 → a ≠ b → (TX6 a).2.1 ≠ (TX6 b).2.1 := by decide +kernel
theorem tyX6_ok : ∀ k, k < 4 → parseFieldDescriptor (TX6 k).2.2.1 = some (tyX6 k) := by decide +kernel
abbrev cX6_init : ByteArray := prog_8_method_1_code
def yX6_init : MethodName := ⟨RX6, "<init>", "(LMissedTown$Tape;)V"⟩
abbrev cX6_begin : ByteArray := prog_8_method_2_code
def yX6_begin : MethodName := ⟨RX6, "begin", "(I)V"⟩
abbrev cX6_isRight : ByteArray := prog_8_method_3_code
def yX6_isRight : MethodName := ⟨RX6, "isRight", "()Z"⟩
abbrev cX6_goesOn : ByteArray := prog_8_method_4_code
def yX6_goesOn : MethodName := ⟨RX6, "goesOn", "()Z"⟩
abbrev cX6_sign : ByteArray := prog_8_method_5_code
def yX6_sign : MethodName := ⟨RX6, "sign", "()I"⟩
abbrev cX6_isDigit : ByteArray := prog_8_method_6_code
def yX6_isDigit : MethodName := ⟨RX6, "isDigit", "()Z"⟩
abbrev cX6_fail : ByteArray := prog_8_method_7_code
def yX6_fail : MethodName := ⟨RX6, "fail", "(II)V"⟩
abbrev cX6_skip : ByteArray := prog_8_method_8_code
def yX6_skip : MethodName := ⟨RX6, "skip", "(I)Z"⟩
abbrev cX6_expect : ByteArray := prog_8_method_9_code
def yX6_expect : MethodName := ⟨RX6, "expect", "(I)V"⟩
abbrev cX6_number : ByteArray := prog_8_method_10_code
def yX6_number : MethodName := ⟨RX6, "number", "(II)I"⟩
abbrev cX6_personHere : ByteArray := prog_8_method_11_code
def yX6_personHere : MethodName := ⟨RX6, "personHere", "()I"⟩
def RX7 : String := "MissedTown$Town"
def TX7 : u_T := fun k => match k with
  | 0 => ("MissedTown$Town", "people", "I", false)
  | 1 => ("MissedTown$Town", "chores", "I", false)
  | 2 => ("MissedTown$Town", "rainTenths", "I", false)
  | 3 => ("MissedTown$Town", "cap", "[I", true)
  | 4 => ("MissedTown$Town", "amount", "[I", true)
  | 5 => ("MissedTown$Town", "rows", "[I", true)
  | _ => ("MissedTown$Town", "rowLength", "[I", true)
def tyX7 : Nat → FieldType := fun k => match k with
  | 0 => .int
  | 1 => .int
  | 2 => .int
  | 3 => .array .int
  | 4 => .array .int
  | 5 => .array .int
  | _ => .array .int
abbrev wsX70 : List Cond := u_ws RX7 TX7 7
theorem nmX7 : ∀ a, a < 7 → ∀ b, b < 7 → a ≠ b → (TX7 a).2.1 ≠ (TX7 b).2.1 := by decide +kernel
theorem tyX7_ok : ∀ k, k < 7 → parseFieldDescriptor (TX7 k).2.2.1 = some (tyX7 k) := by decide +kernel
abbrev cX7_init : ByteArray := prog_9_method_1_code
def yX7_init : MethodName := ⟨RX7, "<init>", "()V"⟩
abbrev cX7_hasPerson : ByteArray := prog_9_method_2_code
def yX7_hasPerson : MethodName := ⟨RX7, "hasPerson", "(I)Z"⟩
abbrev cX7_hasChore : ByteArray := prog_9_method_3_code
def yX7_hasChore : MethodName := ⟨RX7, "hasChore", "(I)Z"⟩
abbrev cX7_choresOf : ByteArray := prog_9_method_4_code
def yX7_choresOf : MethodName := ⟨RX7, "choresOf", "(I)I"⟩
def RX8 : String := "MissedTown$Trial"
def TX8 : u_T := fun k => match k with
  | 0 => ("MissedTown$Trial", "town", "LMissedTown$Town;", true)
  | 1 => ("MissedTown$Trial", "law", "LMissedTown$Law;", true)
  | 2 => ("MissedTown$Trial", "state", "LMissedTown$State;", true)
  | 3 => ("MissedTown$Trial", "more", "[I", true)
  | 4 => ("MissedTown$Trial", "can", "[I", true)
  | 5 => ("MissedTown$Trial", "did", "[I", true)
  | 6 => ("MissedTown$Trial", "idle", "I", false)
  | 7 => ("MissedTown$Trial", "idleFrom", "I", false)
  | 8 => ("MissedTown$Trial", "idleTo", "I", false)
  | 9 => ("MissedTown$Trial", "frontChore", "I", false)
  | 10 => ("MissedTown$Trial", "frontPerson", "I", false)
  | 11 => ("MissedTown$Trial", "missedBefore", "I", false)
  | 12 => ("MissedTown$Trial", "rainyDays", "I", false)
  | _ => ("MissedTown$Trial", "clearDays", "I", false)
def tyX8 : Nat → FieldType := fun k => match k with
  | 0 => .object "MissedTown$Town"
  | 1 => .object "MissedTown$Law"
  | 2 => .object "MissedTown$State"
  | 3 => .array .int
  | 4 => .array .int
  | 5 => .array .int
  | 6 => .int
  | 7 => .int
  | 8 => .int
  | 9 => .int
  | 10 => .int
  | 11 => .int
  | 12 => .int
  | _ => .int
abbrev wsX80 : List Cond := u_ws RX8 TX8 14
theorem nmX8 : ∀ a, a < 14 → ∀ b, b < 14 → a ≠ b → (TX8 a).2.1 ≠ (TX8 b).2.1 := by decide +kernel
theorem tyX8_ok : ∀ k, k < 14 → parseFieldDescriptor (TX8 k).2.2.1 = some (tyX8 k) := by decide +kernel
abbrev cX8_init : ByteArray := prog_10_method_1_code
def yX8_init : MethodName := ⟨RX8, "<init>", "(LMissedTown$Town;LMissedTown$Law;)V"⟩
abbrev cX8_begin : ByteArray := prog_10_method_2_code
def yX8_begin : MethodName := ⟨RX8, "begin", "(LMissedTown$State;)V"⟩
abbrev cX8_setIdle : ByteArray := prog_10_method_3_code
def yX8_setIdle : MethodName := ⟨RX8, "setIdle", "(III)V"⟩
abbrev cX8_setFront : ByteArray := prog_10_method_4_code
def yX8_setFront : MethodName := ⟨RX8, "setFront", "(II)V"⟩
abbrev cX8_allDone : ByteArray := prog_10_method_5_code
def yX8_allDone : MethodName := ⟨RX8, "allDone", "()I"⟩
abbrev cX8_run : ByteArray := prog_10_method_6_code
def yX8_run : MethodName := ⟨RX8, "run", "(II)I"⟩
abbrev cX8_staysClear : ByteArray := prog_10_method_7_code
def yX8_staysClear : MethodName := ⟨RX8, "staysClear", "(I)Z"⟩
abbrev cX8_goThroughDay : ByteArray := prog_10_method_8_code
def yX8_goThroughDay : MethodName := ⟨RX8, "goThroughDay", "()I"⟩
abbrev cX8_unitsOf : ByteArray := prog_10_method_9_code
def yX8_unitsOf : MethodName := ⟨RX8, "unitsOf", "(I)I"⟩
abbrev cX8_goThroughChore : ByteArray := prog_10_method_10_code
def yX8_goThroughChore : MethodName := ⟨RX8, "goThroughChore", "(I)I"⟩
abbrev cX8_work : ByteArray := prog_10_method_11_code
def yX8_work : MethodName := ⟨RX8, "work", "(II)I"⟩
def RX9 : String := "MissedTown"
def TX9 : u_T := fun k => match k with
  | 0 => ("MissedTown", "tape", "LMissedTown$Tape;", true)
  | 1 => ("MissedTown", "town", "LMissedTown$Town;", true)
  | 2 => ("MissedTown", "now", "LMissedTown$State;", true)
  | 3 => ("MissedTown", "kept", "LMissedTown$State;", true)
  | 4 => ("MissedTown", "rules", "LMissedTown$Law;", true)
  | 5 => ("MissedTown", "lawReader", "LMissedTown$LawReader;", true)
  | 6 => ("MissedTown", "doersReader", "LMissedTown$DoersReader;", true)
  | 7 => ("MissedTown", "leavesReader", "LMissedTown$LeavesReader;", true)
  | 8 => ("MissedTown", "trial", "LMissedTown$Trial;", true)
  | 9 => ("MissedTown", "subsetCosts", "[I", true)
  | _ => ("MissedTown", "hasKept", "Z", false)
def tyX9 : Nat → FieldType := fun k => match k with
  | 0 => .object "MissedTown$Tape"
  | 1 => .object "MissedTown$Town"
  | 2 => .object "MissedTown$State"
  | 3 => .object "MissedTown$State"
  | 4 => .object "MissedTown$Law"
  | 5 => .object "MissedTown$LawReader"
  | 6 => .object "MissedTown$DoersReader"
  | 7 => .object "MissedTown$LeavesReader"
  | 8 => .object "MissedTown$Trial"
  | 9 => .array .int
  | _ => .boolean
abbrev wsX90 : List Cond := u_ws RX9 TX9 11
theorem nmX9 : ∀ a, a < 11 → ∀ b, b < 11 → a ≠ b → (TX9 a).2.1 ≠ (TX9 b).2.1 := by decide +kernel
theorem tyX9_ok : ∀ k, k < 11 → parseFieldDescriptor (TX9 k).2.2.1 = some (tyX9 k) := by decide +kernel
abbrev cX9_init : ByteArray := prog_1_method_1_code
def yX9_init : MethodName := ⟨RX9, "<init>", "()V"⟩
abbrev cX9_person : ByteArray := prog_1_method_2_code
def yX9_person : MethodName := ⟨RX9, "person", "(II)Z"⟩
abbrev cX9_chore : ByteArray := prog_1_method_3_code
def yX9_chore : MethodName := ⟨RX9, "chore", "(II)Z"⟩
abbrev cX9_rain : ByteArray := prog_1_method_4_code
def yX9_rain : MethodName := ⟨RX9, "rain", "(I)Z"⟩
abbrev cX9_feed : ByteArray := prog_1_method_5_code
def yX9_feed : MethodName := ⟨RX9, "feed", "(IIIII)I"⟩
abbrev cX9_law : ByteArray := prog_1_method_6_code
def yX9_law : MethodName := ⟨RX9, "law", "(I)I"⟩
abbrev cX9_doers : ByteArray := prog_1_method_7_code
def yX9_doers : MethodName := ⟨RX9, "doers", "(I)I"⟩
abbrev cX9_leaves : ByteArray := prog_1_method_8_code
def yX9_leaves : MethodName := ⟨RX9, "leaves", "(I)I"⟩
abbrev cX9_home : ByteArray := prog_1_method_9_code
def yX9_home : MethodName := ⟨RX9, "home", "()I"⟩
abbrev cX9_seed : ByteArray := prog_1_method_10_code
def yX9_seed : MethodName := ⟨RX9, "seed", "(I)Z"⟩
abbrev cX9_days : ByteArray := prog_1_method_11_code
def yX9_days : MethodName := ⟨RX9, "days", "(I)I"⟩
abbrev cX9_tried : ByteArray := prog_1_method_12_code
def yX9_tried : MethodName := ⟨RX9, "tried", "(II)I"⟩
abbrev cX9_personIs : ByteArray := prog_1_method_13_code
def yX9_personIs : MethodName := ⟨RX9, "personIs", "(II)I"⟩
abbrev cX9_choreIs : ByteArray := prog_1_method_14_code
def yX9_choreIs : MethodName := ⟨RX9, "choreIs", "(II)I"⟩
abbrev cX9_count : ByteArray := prog_1_method_15_code
def yX9_count : MethodName := ⟨RX9, "count", "(I)I"⟩
abbrev cX9_cost : ByteArray := prog_1_method_16_code
def yX9_cost : MethodName := ⟨RX9, "cost", "(II)I"⟩
abbrev cX9_missed : ByteArray := prog_1_method_17_code
def yX9_missed : MethodName := ⟨RX9, "missed", "(II)I"⟩
abbrev cX9_together : ByteArray := prog_1_method_18_code
def yX9_together : MethodName := ⟨RX9, "together", "(III)I"⟩
abbrev cX9_share : ByteArray := prog_1_method_19_code
def yX9_share : MethodName := ⟨RX9, "share", "(IIII)I"⟩
abbrev cX9_spoilt : ByteArray := prog_1_method_20_code
def yX9_spoilt : MethodName := ⟨RX9, "spoilt", "(III)I"⟩
abbrev cX9_when : ByteArray := prog_1_method_21_code
def yX9_when : MethodName := ⟨RX9, "when", "(IIII)I"⟩
abbrev cX9_against : ByteArray := prog_1_method_22_code
def yX9_against : MethodName := ⟨RX9, "against", "(IIIII)I"⟩
abbrev cX9_stopped : ByteArray := prog_1_method_23_code
def yX9_stopped : MethodName := ⟨RX9, "stopped", "(I)I"⟩
abbrev cX9_holds : ByteArray := prog_1_method_24_code
def yX9_holds : MethodName := ⟨RX9, "holds", "(III)I"⟩
abbrev cX9_mayor : ByteArray := prog_1_method_25_code
def yX9_mayor : MethodName := ⟨RX9, "mayor", "(II)I"⟩
abbrev cX9_standIn : ByteArray := prog_1_method_26_code
def yX9_standIn : MethodName := ⟨RX9, "standIn", "(IIII)I"⟩
abbrev cX9_hired : ByteArray := prog_1_method_27_code
def yX9_hired : MethodName := ⟨RX9, "hired", "(IIII)I"⟩
abbrev cX9_mustStay : ByteArray := prog_1_method_28_code
def yX9_mustStay : MethodName := ⟨RX9, "mustStay", "(II)I"⟩
abbrev cX9_halfDone : ByteArray := prog_1_method_29_code
def yX9_halfDone : MethodName := ⟨RX9, "halfDone", "(II)I"⟩
abbrev cX9_byTurns : ByteArray := prog_1_method_30_code
def yX9_byTurns : MethodName := ⟨RX9, "byTurns", "(III)I"⟩
abbrev cX9_firstDoer : ByteArray := prog_1_method_31_code
def yX9_firstDoer : MethodName := ⟨RX9, "firstDoer", "(III)I"⟩
abbrev cX9_keep : ByteArray := prog_1_method_32_code
def yX9_keep : MethodName := ⟨RX9, "keep", "()I"⟩
abbrev cX9_undo : ByteArray := prog_1_method_33_code
def yX9_undo : MethodName := ⟨RX9, "undo", "()Z"⟩
abbrev cX9_check : ByteArray := prog_1_method_34_code
def yX9_check : MethodName := ⟨RX9, "check", "(I)I"⟩
abbrev cX9_within : ByteArray := prog_1_method_35_code
def yX9_within : MethodName := ⟨RX9, "within", "(III)Z"⟩
abbrev cX9_isDayCount : ByteArray := prog_1_method_36_code
def yX9_isDayCount : MethodName := ⟨RX9, "isDayCount", "(I)Z"⟩
abbrev cX9_isIn : ByteArray := prog_1_method_37_code
def yX9_isIn : MethodName := ⟨RX9, "isIn", "(II)Z"⟩
abbrev cX9_memberAt : ByteArray := prog_1_method_38_code
def yX9_memberAt : MethodName := ⟨RX9, "memberAt", "(II)I"⟩
abbrev cX9_areTold : ByteArray := prog_1_method_39_code
def yX9_areTold : MethodName := ⟨RX9, "areTold", "(I)Z"⟩
abbrev cX9_canLeave : ByteArray := prog_1_method_40_code
def yX9_canLeave : MethodName := ⟨RX9, "canLeave", "(I)Z"⟩
abbrev cX9_costIf : ByteArray := prog_1_method_41_code
def yX9_costIf : MethodName := ⟨RX9, "costIf", "(IIIII)I"⟩
abbrev cX9_runAway : ByteArray := prog_1_method_42_code
def yX9_runAway : MethodName := ⟨RX9, "runAway", "(III)I"⟩
abbrev cX9_missedIfAway : ByteArray := prog_1_method_43_code
def yX9_missedIfAway : MethodName := ⟨RX9, "missedIfAway", "(IIII)I"⟩
abbrev cX9_bestStretches : ByteArray := prog_1_method_44_code
def yX9_bestStretches : MethodName := ⟨RX9, "bestStretches", "(IIII)I"⟩
abbrev cX9_firstOther : ByteArray := prog_1_method_45_code
def yX9_firstOther : MethodName := ⟨RX9, "firstOther", "(LMissedTown$State;I)I"⟩
abbrev cX9_membersOf : ByteArray := prog_1_method_46_code
def yX9_membersOf : MethodName := ⟨RX9, "membersOf", "(II)I"⟩
abbrev cX9_sumOfOrders : ByteArray := prog_1_method_47_code
def yX9_sumOfOrders : MethodName := ⟨RX9, "sumOfOrders", "(II)I"⟩
abbrev cX9_placeOfMost : ByteArray := prog_1_method_48_code
def yX9_placeOfMost : MethodName := ⟨RX9, "placeOfMost", "(I)I"⟩
abbrev cX9_commonDivisor : ByteArray := prog_1_method_49_code
def yX9_commonDivisor : MethodName := ⟨RX9, "commonDivisor", "(II)I"⟩
abbrev cX9_missedIfHired : ByteArray := prog_1_method_50_code
def yX9_missedIfHired : MethodName := ⟨RX9, "missedIfHired", "(IIII)I"⟩
abbrev cX9_hiredUnits : ByteArray := prog_1_method_51_code
def yX9_hiredUnits : MethodName := ⟨RX9, "hiredUnits", "(III)I"⟩
abbrev cX9_digitByFour : ByteArray := prog_1_method_52_code
def yX9_digitByFour : MethodName := ⟨RX9, "digitByFour", "(III)I"⟩
abbrev cX9_isOrder : ByteArray := prog_1_method_53_code
def yX9_isOrder : MethodName := ⟨RX9, "isOrder", "(II)Z"⟩
abbrev cX9_missedByTurns : ByteArray := prog_1_method_54_code
def yX9_missedByTurns : MethodName := ⟨RX9, "missedByTurns", "(IIII)I"⟩
abbrev cX9_allIsDoneIfStay : ByteArray := prog_1_method_55_code
def yX9_allIsDoneIfStay : MethodName := ⟨RX9, "allIsDoneIfStay", "(II)Z"⟩
abbrev cX9_missedOnLeave : ByteArray := prog_1_method_56_code
def yX9_missedOnLeave : MethodName := ⟨RX9, "missedOnLeave", "(II)I"⟩
def RX10 : String := "MissedTownModel"
def TX10 : u_T := fun k => match k with
  | 0 => ("MissedTownModel", "now", "[I", true)
  | 1 => ("MissedTownModel", "aside", "[I", true)
  | 2 => ("MissedTownModel", "kept", "[I", true)
  | 3 => ("MissedTownModel", "keptFrom", "[I", true)
  | 4 => ("MissedTownModel", "keptTo", "[I", true)
  | 5 => ("MissedTownModel", "capOf", "[I", true)
  | 6 => ("MissedTownModel", "leaveFrom", "[I", true)
  | 7 => ("MissedTownModel", "leaveTo", "[I", true)
  | 8 => ("MissedTownModel", "amountOf", "[I", true)
  | 9 => ("MissedTownModel", "doerMany", "[I", true)
  | 10 => ("MissedTownModel", "doerOf", "[I", true)
  | 11 => ("MissedTownModel", "people", "I", false)
  | 12 => ("MissedTownModel", "chores", "I", false)
  | 13 => ("MissedTownModel", "rain0", "I", false)
  | 14 => ("MissedTownModel", "tape", "[B", true)
  | 15 => ("MissedTownModel", "taped", "I", false)
  | 16 => ("MissedTownModel", "place0", "I", false)
  | 17 => ("MissedTownModel", "length0", "I", false)
  | 18 => ("MissedTownModel", "fault", "I", false)
  | 19 => ("MissedTownModel", "number0", "I", false)
  | 20 => ("MissedTownModel", "open", "I", false)
  | 21 => ("MissedTownModel", "codeMany", "I", false)
  | 22 => ("MissedTownModel", "waiting", "I", false)
  | 23 => ("MissedTownModel", "saidMany", "I", false)
  | 24 => ("MissedTownModel", "clauses", "I", false)
  | 25 => ("MissedTownModel", "said", "[I", true)
  | 26 => ("MissedTownModel", "waitsAt", "[I", true)
  | 27 => ("MissedTownModel", "saidLetter", "[I", true)
  | 28 => ("MissedTownModel", "saidFrom", "[I", true)
  | 29 => ("MissedTownModel", "saidHalf", "[I", true)
  | 30 => ("MissedTownModel", "saidTo", "[I", true)
  | 31 => ("MissedTownModel", "codes", "[I", true)
  | 32 => ("MissedTownModel", "clauseOf", "[I", true)
  | 33 => ("MissedTownModel", "codeFrom", "[I", true)
  | 34 => ("MissedTownModel", "codeHalf", "[I", true)
  | 35 => ("MissedTownModel", "codeTo", "[I", true)
  | 36 => ("MissedTownModel", "stack", "[I", true)
  | 37 => ("MissedTownModel", "facts", "[I", true)
  | 38 => ("MissedTownModel", "lineChore", "[I", true)
  | 39 => ("MissedTownModel", "lineMany", "[I", true)
  | 40 => ("MissedTownModel", "lineDoer", "[I", true)
  | 41 => ("MissedTownModel", "newFrom", "[I", true)
  | 42 => ("MissedTownModel", "newTo", "[I", true)
  | 43 => ("MissedTownModel", "lines", "I", false)
  | 44 => ("MissedTownModel", "goFrom", "[I", true)
  | 45 => ("MissedTownModel", "goTo", "[I", true)
  | 46 => ("MissedTownModel", "idleFrom", "[I", true)
  | 47 => ("MissedTownModel", "idleTo", "[I", true)
  | 48 => ("MissedTownModel", "moreOf", "[I", true)
  | 49 => ("MissedTownModel", "firstOf", "[I", true)
  | 50 => ("MissedTownModel", "leftOf", "[I", true)
  | 51 => ("MissedTownModel", "didOf", "[I", true)
  | 52 => ("MissedTownModel", "rains", "I", false)
  | 53 => ("MissedTownModel", "doneUnits", "I", false)
  | 54 => ("MissedTownModel", "cleanDays", "I", false)
  | 55 => ("MissedTownModel", "goneDays", "I", false)
  | 56 => ("MissedTownModel", "costBy", "[I", true)
  | 57 => ("MissedTownModel", "stretchDays", "I", false)
  | 58 => ("MissedTownModel", "gainBy", "[I", true)
  | 59 => ("MissedTownModel", "hiredOf", "[I", true)
  | 60 => ("MissedTownModel", "hiredBest", "[I", true)
  | 61 => ("MissedTownModel", "hiredTo", "[I", true)
  | 62 => ("MissedTownModel", "turnOf", "[I", true)
  | 63 => ("MissedTownModel", "turnWho", "[I", true)
  | _ => ("MissedTownModel", "isKept", "Z", false)
def tyX10 : Nat → FieldType := fun k => match k with
  | 0 => .array .int
  | 1 => .array .int
  | 2 => .array .int
  | 3 => .array .int
  | 4 => .array .int
  | 5 => .array .int
  | 6 => .array .int
  | 7 => .array .int
  | 8 => .array .int
  | 9 => .array .int
  | 10 => .array .int
  | 11 => .int
  | 12 => .int
  | 13 => .int
  | 14 => .array .byte
  | 15 => .int
  | 16 => .int
  | 17 => .int
  | 18 => .int
  | 19 => .int
  | 20 => .int
  | 21 => .int
  | 22 => .int
  | 23 => .int
  | 24 => .int
  | 25 => .array .int
  | 26 => .array .int
  | 27 => .array .int
  | 28 => .array .int
  | 29 => .array .int
  | 30 => .array .int
  | 31 => .array .int
  | 32 => .array .int
  | 33 => .array .int
  | 34 => .array .int
  | 35 => .array .int
  | 36 => .array .int
  | 37 => .array .int
  | 38 => .array .int
  | 39 => .array .int
  | 40 => .array .int
  | 41 => .array .int
  | 42 => .array .int
  | 43 => .int
  | 44 => .array .int
  | 45 => .array .int
  | 46 => .array .int
  | 47 => .array .int
  | 48 => .array .int
  | 49 => .array .int
  | 50 => .array .int
  | 51 => .array .int
  | 52 => .int
  | 53 => .int
  | 54 => .int
  | 55 => .int
  | 56 => .array .int
  | 57 => .int
  | 58 => .array .int
  | 59 => .array .int
  | 60 => .array .int
  | 61 => .array .int
  | 62 => .array .int
  | 63 => .array .int
  | _ => .boolean
abbrev wsX100 : List Cond := u_ws RX10 TX10 65
theorem nmX10 : ∀ a, a < 65 → ∀ b, b < 65 → a ≠ b → (TX10 a).2.1 ≠ (TX10 b).2.1 := by decide +kernel
theorem tyX10_ok : ∀ k, k < 65 → parseFieldDescriptor (TX10 k).2.2.1 = some (tyX10 k) := by decide +kernel
abbrev cX10_init : ByteArray := prog_12_method_1_code
def yX10_init : MethodName := ⟨RX10, "<init>", "()V"⟩
abbrev cX10_in : ByteArray := prog_12_method_2_code
def yX10_in : MethodName := ⟨RX10, "in", "(III)Z"⟩
abbrev cX10_min : ByteArray := prog_12_method_3_code
def yX10_min : MethodName := ⟨RX10, "min", "(II)I"⟩
abbrev cX10_has : ByteArray := prog_12_method_5_code
def yX10_has : MethodName := ⟨RX10, "has", "(II)Z"⟩
abbrev cX10_bits : ByteArray := prog_12_method_6_code
def yX10_bits : MethodName := ⟨RX10, "bits", "(I)I"⟩
abbrev cX10_isPerson : ByteArray := prog_12_method_7_code
def yX10_isPerson : MethodName := ⟨RX10, "isPerson", "(I)Z"⟩
abbrev cX10_isChore : ByteArray := prog_12_method_8_code
def yX10_isChore : MethodName := ⟨RX10, "isChore", "(I)Z"⟩
abbrev cX10_hasLeave : ByteArray := prog_12_method_9_code
def yX10_hasLeave : MethodName := ⟨RX10, "hasLeave", "(I)Z"⟩
abbrev cX10_person : ByteArray := prog_12_method_10_code
def yX10_person : MethodName := ⟨RX10, "person", "(II)Z"⟩
abbrev cX10_chore : ByteArray := prog_12_method_11_code
def yX10_chore : MethodName := ⟨RX10, "chore", "(II)Z"⟩
abbrev cX10_rain : ByteArray := prog_12_method_12_code
def yX10_rain : MethodName := ⟨RX10, "rain", "(I)Z"⟩
abbrev cX10_types : ByteArray := prog_12_method_13_code
def yX10_types : MethodName := ⟨RX10, "types", "(I)V"⟩
abbrev cX10_feed : ByteArray := prog_12_method_14_code
def yX10_feed : MethodName := ⟨RX10, "feed", "(IIIII)I"⟩
abbrev cX10_here : ByteArray := prog_12_method_15_code
def yX10_here : MethodName := ⟨RX10, "here", "()I"⟩
abbrev cX10_isDigit : ByteArray := prog_12_method_16_code
def yX10_isDigit : MethodName := ⟨RX10, "isDigit", "()Z"⟩
abbrev cX10_wrongAt : ByteArray := prog_12_method_17_code
def yX10_wrongAt : MethodName := ⟨RX10, "wrongAt", "(II)Z"⟩
abbrev cX10_takes : ByteArray := prog_12_method_18_code
def yX10_takes : MethodName := ⟨RX10, "takes", "(I)Z"⟩
abbrev cX10_readsNumber : ByteArray := prog_12_method_19_code
def yX10_readsNumber : MethodName := ⟨RX10, "readsNumber", "()Z"⟩
abbrev cX10_notes : ByteArray := prog_12_method_20_code
def yX10_notes : MethodName := ⟨RX10, "notes", "(II)V"⟩
abbrev cX10_opens : ByteArray := prog_12_method_21_code
def yX10_opens : MethodName := ⟨RX10, "opens", "(I)Z"⟩
abbrev cX10_waitTop : ByteArray := prog_12_method_22_code
def yX10_waitTop : MethodName := ⟨RX10, "waitTop", "()I"⟩
abbrev cX10_factOf : ByteArray := prog_12_method_23_code
def yX10_factOf : MethodName := ⟨RX10, "factOf", "(I)I"⟩
abbrev cX10_sumSign : ByteArray := prog_12_method_24_code
def yX10_sumSign : MethodName := ⟨RX10, "sumSign", "(I)I"⟩
abbrev cX10_closesSums : ByteArray := prog_12_method_25_code
def yX10_closesSums : MethodName := ⟨RX10, "closesSums", "(Z)V"⟩
abbrev cX10_readsFactor : ByteArray := prog_12_method_26_code
def yX10_readsFactor : MethodName := ⟨RX10, "readsFactor", "()Z"⟩
abbrev cX10_hasOpenSum : ByteArray := prog_12_method_27_code
def yX10_hasOpenSum : MethodName := ⟨RX10, "hasOpenSum", "(I)Z"⟩
abbrev cX10_readsSum : ByteArray := prog_12_method_28_code
def yX10_readsSum : MethodName := ⟨RX10, "readsSum", "()Z"⟩
abbrev cX10_endsPiece : ByteArray := prog_12_method_29_code
def yX10_endsPiece : MethodName := ⟨RX10, "endsPiece", "()V"⟩
abbrev cX10_lands : ByteArray := prog_12_method_30_code
def yX10_lands : MethodName := ⟨RX10, "lands", "(Z)V"⟩
abbrev cX10_jumps : ByteArray := prog_12_method_31_code
def yX10_jumps : MethodName := ⟨RX10, "jumps", "(I)V"⟩
abbrev cX10_readsCompared : ByteArray := prog_12_method_32_code
def yX10_readsCompared : MethodName := ⟨RX10, "readsCompared", "()Z"⟩
abbrev cX10_readsCondition : ByteArray := prog_12_method_33_code
def yX10_readsCondition : MethodName := ⟨RX10, "readsCondition", "()Z"⟩
abbrev cX10_isClause : ByteArray := prog_12_method_34_code
def yX10_isClause : MethodName := ⟨RX10, "isClause", "(I)Z"⟩
abbrev cX10_readsClause : ByteArray := prog_12_method_35_code
def yX10_readsClause : MethodName := ⟨RX10, "readsClause", "()Z"⟩
abbrev cX10_law : ByteArray := prog_12_method_36_code
def yX10_law : MethodName := ⟨RX10, "law", "(I)I"⟩
abbrev cX10_reckon : ByteArray := prog_12_method_37_code
def yX10_reckon : MethodName := ⟨RX10, "reckon", "(III)I"⟩
abbrev cX10_comesTo : ByteArray := prog_12_method_38_code
def yX10_comesTo : MethodName := ⟨RX10, "comesTo", "(II)I"⟩
abbrev cX10_byLaw : ByteArray := prog_12_method_39_code
def yX10_byLaw : MethodName := ⟨RX10, "byLaw", "(II)I"⟩
abbrev cX10_holdsAny : ByteArray := prog_12_method_40_code
def yX10_holdsAny : MethodName := ⟨RX10, "holdsAny", "(I)Z"⟩
abbrev cX10_readsDoers : ByteArray := prog_12_method_41_code
def yX10_readsDoers : MethodName := ⟨RX10, "readsDoers", "()Z"⟩
abbrev cX10_readsLine : ByteArray := prog_12_method_42_code
def yX10_readsLine : MethodName := ⟨RX10, "readsLine", "()Z"⟩
abbrev cX10_doers : ByteArray := prog_12_method_43_code
def yX10_doers : MethodName := ⟨RX10, "doers", "(I)I"⟩
abbrev cX10_readsDay : ByteArray := prog_12_method_44_code
def yX10_readsDay : MethodName := ⟨RX10, "readsDay", "()Z"⟩
abbrev cX10_readsLeave : ByteArray := prog_12_method_45_code
def yX10_readsLeave : MethodName := ⟨RX10, "readsLeave", "()Z"⟩
abbrev cX10_leaves : ByteArray := prog_12_method_46_code
def yX10_leaves : MethodName := ⟨RX10, "leaves", "(I)I"⟩
abbrev cX10_leaveSet : ByteArray := prog_12_method_47_code
def yX10_leaveSet : MethodName := ⟨RX10, "leaveSet", "()I"⟩
abbrev cX10_home : ByteArray := prog_12_method_48_code
def yX10_home : MethodName := ⟨RX10, "home", "()I"⟩
abbrev cX10_laysNobody : ByteArray := prog_12_method_49_code
def yX10_laysNobody : MethodName := ⟨RX10, "laysNobody", "()V"⟩
abbrev cX10_goes : ByteArray := prog_12_method_50_code
def yX10_goes : MethodName := ⟨RX10, "goes", "(III)V"⟩
abbrev cX10_laysGoing : ByteArray := prog_12_method_51_code
def yX10_laysGoing : MethodName := ⟨RX10, "laysGoing", "(I)V"⟩
abbrev cX10_isAway : ByteArray := prog_12_method_52_code
def yX10_isAway : MethodName := ⟨RX10, "isAway", "(II)Z"⟩
abbrev cX10_awayOn : ByteArray := prog_12_method_53_code
def yX10_awayOn : MethodName := ⟨RX10, "awayOn", "(I)I"⟩
abbrev cX10_feels : ByteArray := prog_12_method_54_code
def yX10_feels : MethodName := ⟨RX10, "feels", "(Z)V"⟩
abbrev cX10_unitsOf : ByteArray := prog_12_method_55_code
def yX10_unitsOf : MethodName := ⟨RX10, "unitsOf", "(I)I"⟩
abbrev cX10_does : ByteArray := prog_12_method_56_code
def yX10_does : MethodName := ⟨RX10, "does", "(II)I"⟩
abbrev cX10_choreGoes : ByteArray := prog_12_method_57_code
def yX10_choreGoes : MethodName := ⟨RX10, "choreGoes", "(I)V"⟩
abbrev cX10_undoneAll : ByteArray := prog_12_method_58_code
def yX10_undoneAll : MethodName := ⟨RX10, "undoneAll", "()I"⟩
abbrev cX10_dayGoes : ByteArray := prog_12_method_59_code
def yX10_dayGoes : MethodName := ⟨RX10, "dayGoes", "()V"⟩
abbrev cX10_daysGo : ByteArray := prog_12_method_60_code
def yX10_daysGo : MethodName := ⟨RX10, "daysGo", "(I)V"⟩
abbrev cX10_copies : ByteArray := prog_12_method_61_code
def yX10_copies : MethodName := ⟨RX10, "copies", "([I[II)V"⟩
abbrev cX10_trial : ByteArray := prog_12_method_62_code
def yX10_trial : MethodName := ⟨RX10, "trial", "(I)I"⟩
abbrev cX10_areDays : ByteArray := prog_12_method_63_code
def yX10_areDays : MethodName := ⟨RX10, "areDays", "(I)Z"⟩
abbrev cX10_days : ByteArray := prog_12_method_64_code
def yX10_days : MethodName := ⟨RX10, "days", "(I)I"⟩
abbrev cX10_tried : ByteArray := prog_12_method_65_code
def yX10_tried : MethodName := ⟨RX10, "tried", "(II)I"⟩
abbrev cX10_personIs : ByteArray := prog_12_method_66_code
def yX10_personIs : MethodName := ⟨RX10, "personIs", "(II)I"⟩
abbrev cX10_choresOf : ByteArray := prog_12_method_67_code
def yX10_choresOf : MethodName := ⟨RX10, "choresOf", "(I)I"⟩
abbrev cX10_choreIs : ByteArray := prog_12_method_68_code
def yX10_choreIs : MethodName := ⟨RX10, "choreIs", "(II)I"⟩
abbrev cX10_costOf : ByteArray := prog_12_method_69_code
def yX10_costOf : MethodName := ⟨RX10, "costOf", "(II)I"⟩
abbrev cX10_cost : ByteArray := prog_12_method_70_code
def yX10_cost : MethodName := ⟨RX10, "cost", "(II)I"⟩
abbrev cX10_isGoer : ByteArray := prog_12_method_71_code
def yX10_isGoer : MethodName := ⟨RX10, "isGoer", "(I)Z"⟩
abbrev cX10_missed : ByteArray := prog_12_method_72_code
def yX10_missed : MethodName := ⟨RX10, "missed", "(II)I"⟩
abbrev cX10_together : ByteArray := prog_12_method_73_code
def yX10_together : MethodName := ⟨RX10, "together", "(III)I"⟩
abbrev cX10_orders : ByteArray := prog_12_method_74_code
def yX10_orders : MethodName := ⟨RX10, "orders", "(I)I"⟩
abbrev cX10_laysCosts : ByteArray := prog_12_method_75_code
def yX10_laysCosts : MethodName := ⟨RX10, "laysCosts", "(II)V"⟩
abbrev cX10_partOf : ByteArray := prog_12_method_76_code
def yX10_partOf : MethodName := ⟨RX10, "partOf", "(II)I"⟩
abbrev cX10_gcd : ByteArray := prog_12_method_77_code
def yX10_gcd : MethodName := ⟨RX10, "gcd", "(II)I"⟩
abbrev cX10_areGoers : ByteArray := prog_12_method_78_code
def yX10_areGoers : MethodName := ⟨RX10, "areGoers", "(I)Z"⟩
abbrev cX10_share : ByteArray := prog_12_method_79_code
def yX10_share : MethodName := ⟨RX10, "share", "(IIII)I"⟩
abbrev cX10_missedIdle : ByteArray := prog_12_method_80_code
def yX10_missedIdle : MethodName := ⟨RX10, "missedIdle", "(III)I"⟩
abbrev cX10_spoilt : ByteArray := prog_12_method_81_code
def yX10_spoilt : MethodName := ⟨RX10, "spoilt", "(III)I"⟩
abbrev cX10_when : ByteArray := prog_12_method_82_code
def yX10_when : MethodName := ⟨RX10, "when", "(IIII)I"⟩
abbrev cX10_missedBy : ByteArray := prog_12_method_83_code
def yX10_missedBy : MethodName := ⟨RX10, "missedBy", "(IIIII)I"⟩
abbrev cX10_against : ByteArray := prog_12_method_84_code
def yX10_against : MethodName := ⟨RX10, "against", "(IIIII)I"⟩
abbrev cX10_rests : ByteArray := prog_12_method_85_code
def yX10_rests : MethodName := ⟨RX10, "rests", "(II)Z"⟩
abbrev cX10_isSo : ByteArray := prog_12_method_86_code
def yX10_isSo : MethodName := ⟨RX10, "isSo", "(II)Z"⟩
abbrev cX10_stopped : ByteArray := prog_12_method_87_code
def yX10_stopped : MethodName := ⟨RX10, "stopped", "(I)I"⟩
abbrev cX10_missedWithout : ByteArray := prog_12_method_88_code
def yX10_missedWithout : MethodName := ⟨RX10, "missedWithout", "(II)I"⟩
abbrev cX10_holds : ByteArray := prog_12_method_89_code
def yX10_holds : MethodName := ⟨RX10, "holds", "(III)I"⟩
abbrev cX10_mayor : ByteArray := prog_12_method_90_code
def yX10_mayor : MethodName := ⟨RX10, "mayor", "(II)I"⟩
abbrev cX10_missedWith : ByteArray := prog_12_method_91_code
def yX10_missedWith : MethodName := ⟨RX10, "missedWith", "(IIII)I"⟩
abbrev cX10_standIn : ByteArray := prog_12_method_92_code
def yX10_standIn : MethodName := ⟨RX10, "standIn", "(IIII)I"⟩
abbrev cX10_hired : ByteArray := prog_12_method_93_code
def yX10_hired : MethodName := ⟨RX10, "hired", "(IIII)I"⟩
abbrev cX10_isHire : ByteArray := prog_12_method_94_code
def yX10_isHire : MethodName := ⟨RX10, "isHire", "(III)Z"⟩
abbrev cX10_mustStay : ByteArray := prog_12_method_95_code
def yX10_mustStay : MethodName := ⟨RX10, "mustStay", "(II)I"⟩
abbrev cX10_missedBehind : ByteArray := prog_12_method_96_code
def yX10_missedBehind : MethodName := ⟨RX10, "missedBehind", "(II)I"⟩
abbrev cX10_halfDone : ByteArray := prog_12_method_97_code
def yX10_halfDone : MethodName := ⟨RX10, "halfDone", "(II)I"⟩
abbrev cX10_readsTurns : ByteArray := prog_12_method_98_code
def yX10_readsTurns : MethodName := ⟨RX10, "readsTurns", "(II)Z"⟩
abbrev cX10_byTurns : ByteArray := prog_12_method_99_code
def yX10_byTurns : MethodName := ⟨RX10, "byTurns", "(III)I"⟩
abbrev cX10_firstDoer : ByteArray := prog_12_method_100_code
def yX10_firstDoer : MethodName := ⟨RX10, "firstDoer", "(III)I"⟩
abbrev cX10_seed : ByteArray := prog_12_method_101_code
def yX10_seed : MethodName := ⟨RX10, "seed", "(I)Z"⟩
abbrev cX10_keep : ByteArray := prog_12_method_102_code
def yX10_keep : MethodName := ⟨RX10, "keep", "()I"⟩
abbrev cX10_undo : ByteArray := prog_12_method_103_code
def yX10_undo : MethodName := ⟨RX10, "undo", "()Z"⟩
abbrev cX10_check : ByteArray := prog_12_method_104_code
def yX10_check : MethodName := ⟨RX10, "check", "(I)I"⟩
abbrev cX10_count : ByteArray := prog_12_method_105_code
def yX10_count : MethodName := ⟨RX10, "count", "(I)I"⟩
def RJx145de : String := "java/io/Serializable"
def TJx145de : u_T := fun k => match k with
  | _ => ("", "", "", false)
def tyJx145de : Nat → FieldType := fun k => match k with
  | _ => .int
abbrev wsJx145de0 : List Cond := u_ws RJx145de TJx145de 0
theorem nmJx145de : ∀ a, a < 0 → ∀ b, b < 0 → a ≠ b → (TJx145de a).2.1 ≠ (TJx145de b).2.1 := by decide +kernel
theorem tyJx145de_ok : ∀ k, k < 0 → parseFieldDescriptor (TJx145de k).2.2.1 = some (tyJx145de k) := by decide +kernel
def RJx9f9b0 : String := "java/lang/CharSequence"
def TJx9f9b0 : u_T := fun k => match k with
  | _ => ("", "", "", false)
def tyJx9f9b0 : Nat → FieldType := fun k => match k with
  | _ => .int
abbrev wsJx9f9b00 : List Cond := u_ws RJx9f9b0 TJx9f9b0 0
theorem nmJx9f9b0 : ∀ a, a < 0 → ∀ b, b < 0 → a ≠ b → (TJx9f9b0 a).2.1 ≠ (TJx9f9b0 b).2.1 := by decide +kernel
theorem tyJx9f9b0_ok : ∀ k, k < 0 → parseFieldDescriptor (TJx9f9b0 k).2.2.1 = some (tyJx9f9b0 k) := by decide +kernel
def RJ11 : String := "java/lang/Character"
def TJ11 : u_T := fun k => match k with
  | _ => ("", "", "", false)
def tyJ11 : Nat → FieldType := fun k => match k with
  | _ => .int
abbrev wsJ110 : List Cond := u_ws RJ11 TJ11 0
theorem nmJ11 : ∀ a, a < 0 → ∀ b, b < 0 → a ≠ b → (TJ11 a).2.1 ≠ (TJ11 b).2.1 := by decide +kernel
theorem tyJ11_ok : ∀ k, k < 0 → parseFieldDescriptor (TJ11 k).2.2.1 = some (tyJ11 k) := by decide +kernel
abbrev cJ11_isValidCodePoint_9a6ad : ByteArray := prog_13_method_11_code
def yJ11_isValidCodePoint_9a6ad : MethodName := ⟨RJ11, "isValidCodePoint", "(I)Z"⟩
abbrev cJ11_highSurrogate_5068e : ByteArray := prog_13_method_28_code
def yJ11_highSurrogate_5068e : MethodName := ⟨RJ11, "highSurrogate", "(I)C"⟩
abbrev cJ11_lowSurrogate_5068e : ByteArray := prog_13_method_29_code
def yJ11_lowSurrogate_5068e : MethodName := ⟨RJ11, "lowSurrogate", "(I)C"⟩
def RJxb160c : String := "java/lang/Comparable"
def TJxb160c : u_T := fun k => match k with
  | _ => ("", "", "", false)
def tyJxb160c : Nat → FieldType := fun k => match k with
  | _ => .int
abbrev wsJxb160c0 : List Cond := u_ws RJxb160c TJxb160c 0
theorem nmJxb160c : ∀ a, a < 0 → ∀ b, b < 0 → a ≠ b → (TJxb160c a).2.1 ≠ (TJxb160c b).2.1 := by decide +kernel
theorem tyJxb160c_ok : ∀ k, k < 0 → parseFieldDescriptor (TJxb160c k).2.2.1 = some (tyJxb160c k) := by decide +kernel
def RJ6 : String := "java/lang/Integer"
def TJ6 : u_T := fun k => match k with
  | _ => ("", "", "", false)
def tyJ6 : Nat → FieldType := fun k => match k with
  | _ => .int
abbrev wsJ60 : List Cond := u_ws RJ6 TJ6 0
theorem nmJ6 : ∀ a, a < 0 → ∀ b, b < 0 → a ≠ b → (TJ6 a).2.1 ≠ (TJ6 b).2.1 := by decide +kernel
theorem tyJ6_ok : ∀ k, k < 0 → parseFieldDescriptor (TJ6 k).2.2.1 = some (tyJ6 k) := by decide +kernel
abbrev cJ6_bitCount_0f7a4 : ByteArray := prog_14_method_49_code
def yJ6_bitCount_0f7a4 : MethodName := ⟨RJ6, "bitCount", "(I)I"⟩
def RJ9 : String := "java/lang/Math"
def TJ9 : u_T := fun k => match k with
  | _ => ("", "", "", false)
def tyJ9 : Nat → FieldType := fun k => match k with
  | _ => .int
abbrev wsJ90 : List Cond := u_ws RJ9 TJ9 0
theorem nmJ9 : ∀ a, a < 0 → ∀ b, b < 0 → a ≠ b → (TJ9 a).2.1 ≠ (TJ9 b).2.1 := by decide +kernel
theorem tyJ9_ok : ∀ k, k < 0 → parseFieldDescriptor (TJ9 k).2.2.1 = some (tyJ9 k) := by decide +kernel
abbrev cJ9_abs_0f7a4 : ByteArray := prog_15_method_59_code
def yJ9_abs_0f7a4 : MethodName := ⟨RJ9, "abs", "(I)I"⟩
abbrev cJ9_max_7cf53 : ByteArray := prog_15_method_65_code
def yJ9_max_7cf53 : MethodName := ⟨RJ9, "max", "(II)I"⟩
abbrev cJ9_min_7cf53 : ByteArray := prog_15_method_69_code
def yJ9_min_7cf53 : MethodName := ⟨RJ9, "min", "(II)I"⟩
def RJ0 : String := "java/lang/String"
def TJ0 : u_T := fun k => match k with
  | _ => ("", "", "", false)
def tyJ0 : Nat → FieldType := fun k => match k with
  | _ => .int
abbrev wsJ00 : List Cond := u_ws RJ0 TJ0 0
theorem nmJ0 : ∀ a, a < 0 → ∀ b, b < 0 → a ≠ b → (TJ0 a).2.1 ≠ (TJ0 b).2.1 := by decide +kernel
theorem tyJ0_ok : ∀ k, k < 0 → parseFieldDescriptor (TJ0 k).2.2.1 = some (tyJ0 k) := by decide +kernel
abbrev cJ0_length_8abf5 : ByteArray := prog_16_method_54_code
def yJ0_length_8abf5 : MethodName := ⟨RJ0, "length", "()I"⟩
abbrev cJ0_indexOf_0f7a4 : ByteArray := prog_16_method_79_code
def yJ0_indexOf_0f7a4 : MethodName := ⟨RJ0, "indexOf", "(I)I"⟩
abbrev cJ0_indexOf_7cf53 : ByteArray := prog_16_method_80_code
def yJ0_indexOf_7cf53 : MethodName := ⟨RJ0, "indexOf", "(II)I"⟩
abbrev cJ0_coder_7d493 : ByteArray := prog_16_method_152_code
def yJ0_coder_7d493 : MethodName := ⟨RJ0, "coder", "()B"⟩
abbrev cJ0_isLatin1_aae02 : ByteArray := prog_16_method_154_code
def yJ0_isLatin1_aae02 : MethodName := ⟨RJ0, "isLatin1", "()Z"⟩
abbrev cJ0_checkBoundsBeginEnd_23922 : ByteArray := prog_16_method_158_code
def yJ0_checkBoundsBeginEnd_23922 : MethodName := ⟨RJ0, "checkBoundsBeginEnd", "(III)V"⟩
def RJ1 : String := "java/lang/StringLatin1"
def TJ1 : u_T := fun k => match k with
  | _ => ("", "", "", false)
def tyJ1 : Nat → FieldType := fun k => match k with
  | _ => .int
abbrev wsJ10 : List Cond := u_ws RJ1 TJ1 0
theorem nmJ1 : ∀ a, a < 0 → ∀ b, b < 0 → a ≠ b → (TJ1 a).2.1 ≠ (TJ1 b).2.1 := by decide +kernel
theorem tyJ1_ok : ∀ k, k < 0 → parseFieldDescriptor (TJ1 k).2.2.1 = some (tyJ1 k) := by decide +kernel
abbrev cJ1_canEncode_9a6ad : ByteArray := prog_17_method_4_code
def yJ1_canEncode_9a6ad : MethodName := ⟨RJ1, "canEncode", "(I)Z"⟩
abbrev cJ1_indexOf_4cfef : ByteArray := prog_17_method_22_code
def yJ1_indexOf_4cfef : MethodName := ⟨RJ1, "indexOf", "([BIII)I"⟩
abbrev cJ1_indexOfChar_4cfef : ByteArray := prog_17_method_23_code
def yJ1_indexOfChar_4cfef : MethodName := ⟨RJ1, "indexOfChar", "([BIII)I"⟩
def RJ2 : String := "java/lang/StringUTF16"
def TJ2 : u_T := fun k => match k with
  | _ => ("", "", "", false)
def tyJ2 : Nat → FieldType := fun k => match k with
  | _ => .int
abbrev wsJ20 : List Cond := u_ws RJ2 TJ2 0
theorem nmJ2 : ∀ a, a < 0 → ∀ b, b < 0 → a ≠ b → (TJ2 a).2.1 ≠ (TJ2 b).2.1 := by decide +kernel
theorem tyJ2_ok : ∀ k, k < 0 → parseFieldDescriptor (TJ2 k).2.2.1 = some (tyJ2 k) := by decide +kernel
abbrev cJ2_getChar_3b067 : ByteArray := prog_18_method_5_code
def yJ2_getChar_3b067 : MethodName := ⟨RJ2, "getChar", "([BI)C"⟩
abbrev cJ2_length_9d52b : ByteArray := prog_18_method_6_code
def yJ2_length_9d52b : MethodName := ⟨RJ2, "length", "([B)I"⟩
abbrev cJ2_indexOf_4cfef : ByteArray := prog_18_method_40_code
def yJ2_indexOf_4cfef : MethodName := ⟨RJ2, "indexOf", "([BIII)I"⟩
abbrev cJ2_indexOfChar_4cfef : ByteArray := prog_18_method_47_code
def yJ2_indexOfChar_4cfef : MethodName := ⟨RJ2, "indexOfChar", "([BIII)I"⟩
abbrev cJ2_indexOfCharUnsafe_4cfef : ByteArray := prog_18_method_48_code
def yJ2_indexOfCharUnsafe_4cfef : MethodName := ⟨RJ2, "indexOfCharUnsafe", "([BIII)I"⟩
abbrev cJ2_indexOfSupplementary_4cfef : ByteArray := prog_18_method_49_code
def yJ2_indexOfSupplementary_4cfef : MethodName := ⟨RJ2, "indexOfSupplementary", "([BIII)I"⟩
abbrev cJ2_checkBoundsBeginEnd_d044e : ByteArray := prog_18_method_93_code
def yJ2_checkBoundsBeginEnd_d044e : MethodName := ⟨RJ2, "checkBoundsBeginEnd", "(II[B)V"⟩
def RJ10 : String := "java/lang/System"
def TJ10 : u_T := fun k => match k with
  | _ => ("", "", "", false)
def tyJ10 : Nat → FieldType := fun k => match k with
  | _ => .int
abbrev wsJ100 : List Cond := u_ws RJ10 TJ10 0
theorem nmJ10 : ∀ a, a < 0 → ∀ b, b < 0 → a ≠ b → (TJ10 a).2.1 ≠ (TJ10 b).2.1 := by decide +kernel
theorem tyJ10_ok : ∀ k, k < 0 → parseFieldDescriptor (TJ10 k).2.2.1 = some (tyJ10 k) := by decide +kernel
def RJxfd54e : String := "java/lang/constant/Constable"
def TJxfd54e : u_T := fun k => match k with
  | _ => ("", "", "", false)
def tyJxfd54e : Nat → FieldType := fun k => match k with
  | _ => .int
abbrev wsJxfd54e0 : List Cond := u_ws RJxfd54e TJxfd54e 0
theorem nmJxfd54e : ∀ a, a < 0 → ∀ b, b < 0 → a ≠ b → (TJxfd54e a).2.1 ≠ (TJxfd54e b).2.1 := by decide +kernel
theorem tyJxfd54e_ok : ∀ k, k < 0 → parseFieldDescriptor (TJxfd54e k).2.2.1 = some (tyJxfd54e k) := by decide +kernel
def RJx3cf43 : String := "java/lang/constant/ConstantDesc"
def TJx3cf43 : u_T := fun k => match k with
  | _ => ("", "", "", false)
def tyJx3cf43 : Nat → FieldType := fun k => match k with
  | _ => .int
abbrev wsJx3cf430 : List Cond := u_ws RJx3cf43 TJx3cf43 0
theorem nmJx3cf43 : ∀ a, a < 0 → ∀ b, b < 0 → a ≠ b → (TJx3cf43 a).2.1 ≠ (TJx3cf43 b).2.1 := by decide +kernel
theorem tyJx3cf43_ok : ∀ k, k < 0 → parseFieldDescriptor (TJx3cf43 k).2.2.1 = some (tyJx3cf43 k) := by decide +kernel
def RJ7 : String := "java/util/Arrays"
def TJ7 : u_T := fun k => match k with
  | _ => ("", "", "", false)
def tyJ7 : Nat → FieldType := fun k => match k with
  | _ => .int
abbrev wsJ70 : List Cond := u_ws RJ7 TJ7 0
theorem nmJ7 : ∀ a, a < 0 → ∀ b, b < 0 → a ≠ b → (TJ7 a).2.1 ≠ (TJ7 b).2.1 := by decide +kernel
theorem tyJ7_ok : ∀ k, k < 0 → parseFieldDescriptor (TJ7 k).2.2.1 = some (tyJ7 k) := by decide +kernel
abbrev cJ7_fill_53178 : ByteArray := prog_20_method_103_code
def yJ7_fill_53178 : MethodName := ⟨RJ7, "fill", "([II)V"⟩
def RJ3 : String := "jdk/internal/util/Preconditions"
def TJ3 : u_T := fun k => match k with
  | _ => ("", "", "", false)
def tyJ3 : Nat → FieldType := fun k => match k with
  | _ => .int
abbrev wsJ30 : List Cond := u_ws RJ3 TJ3 0
theorem nmJ3 : ∀ a, a < 0 → ∀ b, b < 0 → a ≠ b → (TJ3 a).2.1 ≠ (TJ3 b).2.1 := by decide +kernel
theorem tyJ3_ok : ∀ k, k < 0 → parseFieldDescriptor (TJ3 k).2.2.1 = some (tyJ3 k) := by decide +kernel
abbrev cJ3_checkFromToIndex_8c36e : ByteArray := prog_21_method_12_code
def yJ3_checkFromToIndex_8c36e : MethodName := ⟨RJ3, "checkFromToIndex", "(IIILjava/util/function/BiFunction;)I"⟩
def RL : String := "MissedTownLaw"
abbrev cL_law : ByteArray := code
def yL_law : MethodName := ⟨RL, "law", "([I)Z"⟩
abbrev vwCl : List vw_C := [(RX0, TX0, 4), (RX1, TX1, 9), (RX2, TX2, 2), (RX3, TX3, 5), (RX4, TX4, 6), (RX5, TX5, 2), (RX6, TX6, 4), (RX7, TX7, 7), (RX8, TX8, 14), (RX9, TX9, 11), (RX10, TX10, 65)]
end
section
/-! words, contracts and calls, shortened: a method's words are its own code and all the good words of the tables -/
def tb : List Cond := lw_tbl.filter goodWord
theorem tb_in {w : Cond} (h : w ∈ lw_tbl) (g : goodWord w = true) : w ∈ tb := List.mem_filter.mpr ⟨h, g⟩
theorem tb_sub {w : Cond} (h : w ∈ tb) : w ∈ lw_tbl := (List.mem_filter.mp h).1
theorem tb_good {w : Cond} (h : w ∈ tb) : (w.onTables && w.keeps) = true ∨ ∃ ty, w = .arrayClass ty := good_of_word (List.mem_filter.mp h).2
def isNest : Cond → Bool
  | .fieldLinkNest _ _ _ _ _ _ => true
  | .methodLinkNest _ _ _ _ => true
  | _ => false
def NW (U : State) : Prop := ∀ w ∈ lw_tbl, isNest w = true → va_Nw w U
theorem NW.warm {s U : State} (hW : s.WarmedH U.vm) (h : NW s) : NW U := by
  intro w hw hn
  have h1 := h w hw hn
  cases w <;> first | exact va_Nw.warmF hW h1 | exact va_Nw.warmM hW h1 | (simp [isNest] at hn; done)
theorem NW.same {u U : State} (h : u.vm = U.vm) (hN : NW u) : NW U := by
  intro w hw hn
  have h1 := hN w hw hn
  cases w <;> first | exact va_Nw.same rfl h h1 | (simp [isNest] at hn; done)
theorem NW.calling {U : State} {g : JFrame} {mk : MethodId} {a : Array Value} (hN : NW U) : NW (U.calling g mk a) := NW.same (u := U) rfl hN
abbrev rm (f n : Nat) : Room := { frames := f, cells := 0, slots := 0, locals := n }
abbrev rmc (f n k o : Nat) : Room := { frames := f, cells := k, slots := o, locals := n }
abbrev mw (y : MethodName) (cc : ByteArray) (mL : Nat) (ret : Option FieldType) : List Cond := Cond.code y cc mL ret :: tb
abbrev tyL (cI cB : ClassId) : List (ClassId × FieldType) := [(cI, .int), (cB, .byte)]
/-- a method that only reads: its start and its end -/
def RP (D : va_G) (cI cB : ClassId) (ws : va_W) : State → Prop := fun U => NW U ∧ va_P D vwCl ws U.heap ∧ va_K D vwCl (tyL cI cB) U
def RQ (post : Int32 → Prop) : Array Value → State → Outcome → State → Prop := fun _ st oc t => ∃ r : Int32, oc = .returned (some (.int r)) ∧ post r ∧ t.heap = st.heap
abbrev MR (l : Launch) (D : va_G) (cI cB : ClassId) (y : MethodName) (cc : ByteArray) (mL : Nat) (rt : FieldType) (R : Room) (av : List Value) (ws : va_W) (post : Int32 → Prop) : Prop :=
  Met l y (mw y cc mL (some rt)) R (va_Pc av (RP D cI cB ws)) (RQ post) 0 0 (fun _ => False)
/-- a method that writes -/
def WP (D : va_G) (cI cB : ClassId) (ws : va_W) (sz : Nat) : State → Prop := fun U => U.heap.size = sz ∧ NW U ∧ va_P D vwCl ws U.heap ∧ va_K D vwCl (tyL cI cB) U ∧ va_D (fun _ => True) ws
def WB {S : Type} (D : va_G) (cI cB : ClassId) (A : Nat → Prop) (wf : S → va_W) : S → State → Prop := fun u t => va_P D vwCl (wf u) t.heap ∧ va_K D vwCl (tyL cI cB) t ∧ va_D A (wf u)
abbrev MV {S : Type} (l : Launch) (D : va_G) (cI cB : ClassId) (y : MethodName) (cc : ByteArray) (mL : Nat) (R : Room) (av : List Value) (ws : va_W) (sz : Nat) (post : S → Prop) (wf : S → va_W) : Prop :=
  Met l y (mw y cc mL none) R (va_Pc av (WP D cI cB ws sz)) (va_Qv post (WB D cI cB (va_A ws sz) wf) (va_A ws sz)) R.cells R.slots (va_A ws sz)
abbrev MI {S : Type} (l : Launch) (D : va_G) (cI cB : ClassId) (y : MethodName) (cc : ByteArray) (mL : Nat) (rt : FieldType) (R : Room) (av : List Value) (ws : va_W) (sz : Nat) (post : Int32 → S → Prop) (wf : S → va_W) : Prop :=
  Met l y (mw y cc mL (some rt)) R (va_Pc av (WP D cI cB ws sz)) (va_Qi post (WB D cI cB (va_A ws sz) wf) (va_A ws sz)) R.cells R.slots (va_A ws sz)
section OF
variable {l : Launch} {D : va_G} {cI cB : ClassId} {y : MethodName} {cc : ByteArray} {mL : Nat} {rt : FieldType} {R : Room} {av : List Value} {ws : va_W}
theorem MR.of {post : Int32 → Prop} (hy : plainName y.cls = true) (hlen : (lg_sl av).length ≤ mL)
    (body : ∀ (p : Program) (e : Env) (s : State) (m : MethodId) (below : List Frame) (meth : Method) (c : Code) (Q : State → Prop) (ls : Array Slot),
      CallFix p m c cc mL s av.toArray tb y.cls → NW s → va_P D vwCl ws s.heap → va_K D vwCl (tyL cI cB) s → lv_has ls mL (lv_args 0 av) →
      (∀ (pc : Nat) (ls : Array Slot) (r : Int32), decode cc pc = .ok (.ireturn, 1) → narrow rt (.int r) = .int r → post r → W p l e R s m av.toArray below meth c s.heap [] 0 0 Q (F0 m pc ls [.int r])) →
      W p l e R s m av.toArray below meth c s.heap [] 0 0 Q (F0 m 0 ls [])) : MR l D cI cB y cc mL rt R av ws post := by
  refine Met.ofW (cc := cc) (maxL := mL) (ret := some rt) hy rfl ?_
  intro p e s m args below meth c s₁ B hml hv
  obtain ⟨rfl, hN, hP, hK⟩ := hv
  have hts := atoms_spec (ws := mw y cc mL (some rt)) B.pre
  rw [lg_entry_eq]
  refine body p e s m below meth c _ _ ⟨B.exec, B.bytes, hml, findClass_of_methodNamed B.named, fun w h => hts w (List.mem_cons_of_mem _ h)⟩ hN hP hK (lv_entry av hlen) ?_
  intro pc ls r hd hn hp
  exact W.zret B.exec B.bytes B.returns hn (fun t ht _ => ⟨r, rfl, hp, ht⟩) (fun _ h => by cases h) hd B.notSynchronized
theorem MV.of {S : Type} {sz : Nat} {post : S → Prop} {wf : S → va_W} (hy : plainName y.cls = true) (hlen : (lg_sl av).length ≤ mL)
    (body : ∀ (p : Program) (e : Env) (s : State) (m : MethodId) (below : List Frame) (meth : Method) (c : Code) (Q : State → Prop) (ls : Array Slot) (A : Nat → Prop),
      CallFix p m c cc mL s av.toArray tb y.cls → meth.name = y.name → NW s → va_P D vwCl ws s.heap → va_K D vwCl (tyL cI cB) s → va_D A ws → (∀ q : Nat, s.heap.size ≤ q → A q) → lv_has ls mL (lv_args 0 av) →
      (∀ (pc : Nat) (ls : Array Slot) (H : Heap) (locs : List Loc) (u : S), decode cc pc = .ok (.return_, 1) → post u → va_P D vwCl (wf u) H → va_D A (wf u) → va_S A s.heap H locs → W p l e R s m av.toArray below meth c H locs R.cells R.slots Q (F0 m pc ls [])) →
      W p l e R s m av.toArray below meth c s.heap [] 0 0 Q (F0 m 0 ls [])) : MV l D cI cB y cc mL R av ws sz post wf := by
  refine Met.ofW (cc := cc) (maxL := mL) (ret := none) hy rfl ?_
  intro p e s m args below meth c s₁ B hml hv
  obtain ⟨rfl, rfl, hN, hP, hK, hD⟩ := hv
  have hts := atoms_spec (ws := mw y cc mL none) B.pre
  rw [lg_entry_eq]
  refine body p e s m below meth c _ _ (va_A ws s.heap.size) ⟨B.exec, B.bytes, hml, findClass_of_methodNamed B.named, fun w h => hts w (List.mem_cons_of_mem _ h)⟩ (name_of_methodNamed B.named B.method).1 hN hP hK hD.self (fun q h => Or.inr h) (lv_entry av hlen) ?_
  intro pc ls H locs u hd hp hP1 hD1 hS
  exact W.vret B.exec B.bytes B.returns (fun t ht hW => ⟨⟨u, rfl, hp, by rw [ht]; exact hP1, va_K.moved hW.alike hK, hD1⟩, hS.F ht⟩) hS.2.2 hd B.notSynchronized
theorem MI.of {S : Type} {sz : Nat} {post : Int32 → S → Prop} {wf : S → va_W} (hy : plainName y.cls = true) (hlen : (lg_sl av).length ≤ mL)
    (body : ∀ (p : Program) (e : Env) (s : State) (m : MethodId) (below : List Frame) (meth : Method) (c : Code) (Q : State → Prop) (ls : Array Slot) (A : Nat → Prop),
      CallFix p m c cc mL s av.toArray tb y.cls → meth.name = y.name → NW s → va_P D vwCl ws s.heap → va_K D vwCl (tyL cI cB) s → va_D A ws → (∀ q : Nat, s.heap.size ≤ q → A q) → lv_has ls mL (lv_args 0 av) →
      (∀ (pc : Nat) (ls : Array Slot) (H : Heap) (locs : List Loc) (r : Int32) (u : S), decode cc pc = .ok (.ireturn, 1) → narrow rt (.int r) = .int r → post r u → va_P D vwCl (wf u) H → va_D A (wf u) → va_S A s.heap H locs → W p l e R s m av.toArray below meth c H locs R.cells R.slots Q (F0 m pc ls [.int r])) →
      W p l e R s m av.toArray below meth c s.heap [] 0 0 Q (F0 m 0 ls [])) : MI l D cI cB y cc mL rt R av ws sz post wf := by
  refine Met.ofW (cc := cc) (maxL := mL) (ret := some rt) hy rfl ?_
  intro p e s m args below meth c s₁ B hml hv
  obtain ⟨rfl, rfl, hN, hP, hK, hD⟩ := hv
  have hts := atoms_spec (ws := mw y cc mL (some rt)) B.pre
  rw [lg_entry_eq]
  refine body p e s m below meth c _ _ (va_A ws s.heap.size) ⟨B.exec, B.bytes, hml, findClass_of_methodNamed B.named, fun w h => hts w (List.mem_cons_of_mem _ h)⟩ (name_of_methodNamed B.named B.method).1 hN hP hK hD.self (fun q h => Or.inr h) (lv_entry av hlen) ?_
  intro pc ls H locs r u hd hn hp hP1 hD1 hS
  exact W.zret B.exec B.bytes B.returns hn (fun t ht hW => ⟨⟨r, u, rfl, hp, by rw [ht]; exact hP1, va_K.moved hW.alike hK, hD1⟩, hS.F ht⟩) hS.2.2 hd B.notSynchronized
end OF
theorem gcons {y : MethodName} {cc : ByteArray} {mL : Nat} {ret : Option FieldType} (h : Cond.code y cc mL ret ∈ tb) : GoodIn tb (mw y cc mL ret) := by
  intro w hw
  rcases List.mem_cons.mp hw with rfl | hw
  · exact ⟨h, tb_good h⟩
  · exact ⟨hw, tb_good hw⟩
theorem gV {own C : String} {idx : Nat} {y : MethodName} {cc : ByteArray} {mL : Nat} {ret : Option FieldType} (w1 : Cond.methodLink own idx y ∈ tb) (w2 : Cond.instanceMethod y ∈ tb) (w3 : Cond.selects C y y ∈ tb) (w4 : Cond.initialized C ∈ tb) (w5 : Cond.code y cc mL ret ∈ tb) : GoodIn tb (wsV own idx C y (mw y cc mL ret)) := by
  intro w hw
  have hm : w ∈ tb := by
    rcases List.mem_append.mp hw with h | h
    · simp only [List.mem_cons, List.not_mem_nil, or_false] at h
      rcases h with rfl | rfl | rfl | rfl <;> assumption
    · exact (gcons w5 w h).1
  exact ⟨hm, tb_good hm⟩
end
section
section CR
variable {p : Program} {l : Launch} {e : Env} {R : Room} {s : State} {m : MethodId} {args : Array Value} {below : List Frame} {meth : Method} {c : Code} {cc : ByteArray} {nL : Nat} {own : String} {H : Heap} {locs : List Loc} {cells slots : Nat} {Q : State → Prop}
variable {D : va_G} {cI cB : ClassId} {ws wc : va_W} {y : MethodName} {cc' : ByteArray} {mL' : Nat} {rt : FieldType} {R' : Room} {As rest st : List Value} {b idx n : Nat} {C : String} {pc : Nat} {ls : Array Slot} {A : Nat → Prop}
/-- a value on top by another word for it -/
theorem tv {x z : Int32} {pc : Nat} (h : x = z) (k : W p l e R s m args below meth c H locs cells slots Q (F0 m pc ls (.int z :: rest))) : W p l e R s m args below meth c H locs cells slots Q (F0 m pc ls (.int x :: rest)) := by
  rw [h]; exact k
/-- what comes back from a method that only reads -/
theorem back_R {post : Int32 → Prop} {a : Array Value} (hr : va_Run p l e R s m args below meth c H locs cells slots 0 0 (F0 m pc ls st) rest (RQ post a) (fun _ => False))
    (kk : ∀ r : Int32, post r → W p l e R s m args below meth c H locs cells slots Q (F0 m (pc + 3) ls (.int r :: rest))) : W p l e R s m args below meth c H locs cells slots Q (F0 m pc ls st) := by
  intro T hT X
  obtain ⟨v, st₀, t, T', L, h0, X', hL, e1, e2, ⟨r, hv, hp, hh⟩, stp⟩ := hr T hT X
  cases hv
  have hL0 : L = [] := List.eq_nil_iff_forall_not_mem.mpr hL
  subst hL0
  rw [List.append_nil] at X'
  obtain ⟨t2, a1, b1⟩ := kk r hp T' (by rw [e1, hh, h0]) X'
  exact ⟨t2, stp t2 a1, b1⟩
theorem preR (av : List Value) (hN : NW s) (hK : va_K D vwCl (tyL cI cB) s) (hP : va_P D vwCl wc H) : FrameBlind (va_Pc av (RP D cI cB wc)) ∧ ∀ U : State, U.heap = H → s.WarmedH U.vm → va_Pc av (RP D cI cB wc) av.toArray U := by
  refine ⟨?_, ?_⟩
  · intro a U g mk q
    obtain ⟨q0, qN, qP, qK⟩ := q
    exact ⟨q0, qN.calling, qP, va_K.moved (u := U) (U := U.calling g mk a) (Vm.Alike.refl U.vm) qK⟩
  · intro U hU hW
    exact ⟨rfl, hN.warm hW, by rw [hU]; exact hP, va_K.moved hW.alike hK⟩
theorem preW (av : List Value) (hN : NW s) (hK : va_K D vwCl (tyL cI cB) s) (hP : va_P D vwCl wc H) (hD : va_D A wc) : FrameBlind (va_Pc av (WP D cI cB wc H.size)) ∧ ∀ U : State, U.heap = H → s.WarmedH U.vm → va_Pc av (WP D cI cB wc H.size) av.toArray U := by
  refine ⟨?_, ?_⟩
  · intro a U g mk q
    obtain ⟨q0, q1, qN, qP, qK, qD⟩ := q
    exact ⟨q0, q1, qN.calling, qP, va_K.moved (u := U) (U := U.calling g mk a) (Vm.Alike.refl U.vm) qK, qD⟩
  · intro U hU hW
    exact ⟨rfl, by rw [hU], hN.warm hW, by rw [hU]; exact hP, va_K.moved hW.alike hK, hD.weaken (fun _ _ _ _ => trivial)⟩
/-- a virtual call of a method that only reads -/
theorem cVR {post : Int32 → Prop} (X : CallFix p m c cc nL s args tb own) (hN : NW s) (hK : va_K D vwCl (tyL cI cB) s) (hP : va_P D vwCl ws H)
    (hM : MR l D cI cB y cc' mL' rt R' (.ref b :: As) wc post) (g : GoodIn tb (wsV own idx C y (mw y cc' mL' (some rt))))
    (hd : y.cls = C ∧ y.cls ≠ "java/lang/invoke/MethodHandle" ∧ y.cls ≠ "java/lang/invoke/VarHandle" ∧ (parseMethodDescriptor y.desc).map (fun d => d.parameters.length) = some n) (hR : R'.frames + 1 ≤ R.frames ∧ 8 + (mL' + 11) + R'.locals ≤ R.locals) (h0 : R'.cells = 0 ∧ R'.slots = 0)
    (is : List Nat) (hC : is.filterMap (fun i => ws[i]?) = wc) {q0 ci : Nat} {q : vw_C} {fs : List Value} (hc : vwCl[ci]? = some q) (he : wc[q0]? = some (b, .inr (ci, fs))) (hq : q.1 = C)
    (hst : st = As.reverse ++ .ref b :: rest) (hn : As.length = n) (hs : ls.size = nL) (hw : (rest.map fun v => v.category).sum ≤ 8) (hdg : decode cc pc = .ok (.invokevirtual idx, 3)) (hf : cells ≤ R.cells ∧ slots ≤ R.slots)
    (kk : ∀ r : Int32, post r → W p l e R s m args below meth c H locs cells slots Q (F0 m (pc + 3) ls (.int r :: rest))) : W p l e R s m args below meth c H locs cells slots Q (F0 m pc ls st) := by
  have hPc := hP.sub is hC
  have hpre := preR (.ref b :: As) hN hK hPc
  refine back_R (va_runV (C := C) (As := As) (rest := rest) X hM (cwV n X.2.2.2.2 g rfl h0.1 h0.2 hd hR) ⟨hpre.1, ?_, hpre.2⟩ rfl hn hs hst (lv_room hw) hdg hf) kk
  obtain ⟨cell, h1, h2, h3⟩ := va_recv hK hPc hc he
  exact ⟨cell, h1, h2, by rw [← hq]; exact h3⟩
theorem gS {own : String} {idx : Nat} {y : MethodName} {cc : ByteArray} {mL : Nat} {ret : Option FieldType} (w1 : Cond.methodLink own idx y ∈ tb) (w2 : Cond.static y ∈ tb) (w3 : Cond.initialized y.cls ∈ tb) (w5 : Cond.code y cc mL ret ∈ tb) (hts : ∀ w ∈ tb, w.before args s = true) {mc ms : Nat} (h0 : R'.cells = mc ∧ R'.slots = ms)
    (hd : y.cls ≠ "java/lang/invoke/MethodHandle" ∧ y.cls ≠ "java/lang/invoke/VarHandle" ∧ (parseMethodDescriptor y.desc).map (fun d => d.parameters.length) = some n) (hR : R'.frames + 1 ≤ R.frames ∧ 8 + (mL + 11) + R'.locals ≤ R.locals) :
    CallB R s args own idx y cc mL ret (mw y cc mL ret) R' mc ms n ∧ (Cond.static y).before args s = true :=
  ⟨callB_of n hts (gcons w5) rfl h0.1 h0.2 (hts _ w3) (hts _ w1) hd hR, hts _ w2⟩
/-- a static call of a method that only reads -/
theorem cSR {post : Int32 → Prop} (X : CallFix p m c cc nL s args tb own) (hN : NW s) (hK : va_K D vwCl (tyL cI cB) s) (hP : va_P D vwCl ws H)
    (hM : MR l D cI cB y cc' mL' rt R' As wc post) (w1 : Cond.methodLink own idx y ∈ tb) (w2 : Cond.static y ∈ tb) (w3 : Cond.initialized y.cls ∈ tb) (w5 : Cond.code y cc' mL' (some rt) ∈ tb)
    (hd : y.cls ≠ "java/lang/invoke/MethodHandle" ∧ y.cls ≠ "java/lang/invoke/VarHandle" ∧ (parseMethodDescriptor y.desc).map (fun d => d.parameters.length) = some n) (hR : R'.frames + 1 ≤ R.frames ∧ 8 + (mL' + 11) + R'.locals ≤ R.locals) (h0 : R'.cells = 0 ∧ R'.slots = 0)
    (is : List Nat) (hC : is.filterMap (fun i => ws[i]?) = wc)
    (hst : st = As.reverse ++ rest) (hn : As.length = n) (hs : ls.size = nL) (hw : (rest.map fun v => v.category).sum ≤ 8) (hdg : decode cc pc = .ok (.invokestatic idx, 3)) (hf : cells ≤ R.cells ∧ slots ≤ R.slots)
    (kk : ∀ r : Int32, post r → W p l e R s m args below meth c H locs cells slots Q (F0 m (pc + 3) ls (.int r :: rest))) : W p l e R s m args below meth c H locs cells slots Q (F0 m pc ls st) :=
  back_R (va_runS (As := As) (rest := rest) X hM (gS w1 w2 w3 w5 X.2.2.2.2 h0 hd hR) (preR As hN hK (hP.sub is hC)) rfl hn hs hst (lv_room hw) hdg hf) kk
/-- a static call of a nest mate's private method that only reads -/
theorem cSNR {post : Int32 → Prop} {host : String} (X : CallFix p m c cc nL s args tb own) (hN : NW s) (hK : va_K D vwCl (tyL cI cB) s) (hP : va_P D vwCl ws H)
    (hM : MR l D cI cB y cc' mL' rt R' As wc post) (w1 : Cond.methodLinkNest own idx y host ∈ lw_tbl) (w2 : Cond.static y ∈ tb) (w3 : Cond.initialized y.cls ∈ tb) (w5 : Cond.code y cc' mL' (some rt) ∈ tb)
    (hd : y.cls ≠ "java/lang/invoke/MethodHandle" ∧ y.cls ≠ "java/lang/invoke/VarHandle" ∧ (parseMethodDescriptor y.desc).map (fun d => d.parameters.length) = some n) (hR : R'.frames + 1 ≤ R.frames ∧ 8 + (mL' + 11) + R'.locals ≤ R.locals) (h0 : R'.cells = 0 ∧ R'.slots = 0)
    (is : List Nat) (hC : is.filterMap (fun i => ws[i]?) = wc)
    (hst : st = As.reverse ++ rest) (hn : As.length = n) (hs : ls.size = nL) (hw : (rest.map fun v => v.category).sum ≤ 8) (hdg : decode cc pc = .ok (.invokestatic idx, 3)) (hf : cells ≤ R.cells ∧ slots ≤ R.slots)
    (kk : ∀ r : Int32, post r → W p l e R s m args below meth c H locs cells slots Q (F0 m (pc + 3) ls (.int r :: rest))) : W p l e R s m args below meth c H locs cells slots Q (F0 m pc ls st) :=
  back_R (va_runSN (As := As) (rest := rest) X hM ⟨va_cnB n X.2.2.2.2 (gcons w5) rfl h0.1 h0.2 (hN _ w1 rfl) (X.2.2.2.2 _ w3) hd hR, X.2.2.2.2 _ w2, trivial⟩ (preR As hN hK (hP.sub is hC)) rfl hn hs hst (lv_room hw) hdg hf) kk
/-- what comes back from a method that writes: the caller's other cells, and the callee's -/
theorem back_V {S : Type} {post : S → Prop} {wf : S → va_W} {wr : va_W} {mc ms : Nat} {a : Array Value} (hr : va_Run p l e R s m args below meth c H locs cells slots mc ms (F0 m pc ls st) rest (va_Qv post (WB D cI cB (va_A wc H.size) wf) (va_A wc H.size) a) (va_A wc H.size))
    (hP : va_P D vwCl ws H) (hD : va_D A ws) (hS : va_S A s.heap H locs) (hA : ∀ q : Nat, s.heap.size ≤ q → A q) (isC isR : List Nat) (hC : isC.map (fun i => ws[i]?) = wc.map some) (hR : isR.map (fun i => ws[i]?) = wr.map some) (hn : va_nd isR = true) (hdis : ∀ i ∈ isR, i ∉ isC)
    (kk : ∀ (u : S) (H1 : Heap) (locs1 : List Loc), post u → va_P D vwCl (wr ++ wf u) H1 → va_D A (wr ++ wf u) → va_S A s.heap H1 locs1 → W p l e R s m args below meth c H1 locs1 (cells + mc) (slots + ms) Q (F0 m (pc + 3) ls rest)) : W p l e R s m args below meth c H locs cells slots Q (F0 m pc ls st) := by
  have hFc := va_free (wc := wc) hD hS hA isC hC
  refine va_callv hr hS (fun q _ h => hFc q h) hFc (fun u t H1 locs1 ht hvm hw hB hz1 hk1 hS1 => ?_)
  obtain ⟨hP1, -, hD1⟩ := hB
  rw [ht] at hP1
  obtain ⟨hP2, hD2⟩ := va_join (wr := wr) hP hD isC isR hC hR hn hdis hk1 hFc hP1 hD1
  exact kk u H1 locs1 hw hP2 hD2 hS1
theorem back_I {S : Type} {post : Int32 → S → Prop} {wf : S → va_W} {wr : va_W} {mc ms : Nat} {a : Array Value} (hr : va_Run p l e R s m args below meth c H locs cells slots mc ms (F0 m pc ls st) rest (va_Qi post (WB D cI cB (va_A wc H.size) wf) (va_A wc H.size) a) (va_A wc H.size))
    (hP : va_P D vwCl ws H) (hD : va_D A ws) (hS : va_S A s.heap H locs) (hA : ∀ q : Nat, s.heap.size ≤ q → A q) (isC isR : List Nat) (hC : isC.map (fun i => ws[i]?) = wc.map some) (hR : isR.map (fun i => ws[i]?) = wr.map some) (hn : va_nd isR = true) (hdis : ∀ i ∈ isR, i ∉ isC)
    (kk : ∀ (r : Int32) (u : S) (H1 : Heap) (locs1 : List Loc), post r u → va_P D vwCl (wr ++ wf u) H1 → va_D A (wr ++ wf u) → va_S A s.heap H1 locs1 → W p l e R s m args below meth c H1 locs1 (cells + mc) (slots + ms) Q (F0 m (pc + 3) ls (.int r :: rest))) : W p l e R s m args below meth c H locs cells slots Q (F0 m pc ls st) := by
  have hFc := va_free (wc := wc) hD hS hA isC hC
  refine va_calli hr hS (fun q _ h => hFc q h) hFc (fun r u t H1 locs1 ht hvm hw hB hz1 hk1 hS1 => ?_)
  obtain ⟨hP1, -, hD1⟩ := hB
  rw [ht] at hP1
  obtain ⟨hP2, hD2⟩ := va_join (wr := wr) hP hD isC isR hC hR hn hdis hk1 hFc hP1 hD1
  exact kk r u H1 locs1 hw hP2 hD2 hS1
theorem subPD (hP : va_P D vwCl ws H) (hD : va_D A ws) (isC : List Nat) (hC : isC.map (fun i => ws[i]?) = wc.map some) (hnC : va_nd isC = true) : va_P D vwCl wc H ∧ va_D A wc := by
  refine ⟨?_, hD.sub isC hnC hC⟩
  intro k q hk
  have h1 : (isC.map (fun i => ws[i]?))[k]? = some (some q) := by rw [hC, List.getElem?_map, hk]; rfl
  rw [List.getElem?_map] at h1
  cases hi : isC[k]? with
  | none => rw [hi] at h1; cases h1
  | some i => rw [hi] at h1; exact hP i q (Option.some.inj h1)
/-- a virtual call of a method that writes and answers an int -/
theorem cVI {S : Type} {post : Int32 → S → Prop} {wf : S → va_W} {wr : va_W} (X : CallFix p m c cc nL s args tb own) (hN : NW s) (hK : va_K D vwCl (tyL cI cB) s) (hP : va_P D vwCl ws H) (hD : va_D A ws) (hS : va_S A s.heap H locs) (hA : ∀ q : Nat, s.heap.size ≤ q → A q)
    (hM : MI l D cI cB y cc' mL' rt R' (.ref b :: As) wc H.size post wf) (g : GoodIn tb (wsV own idx C y (mw y cc' mL' (some rt))))
    (hd : y.cls = C ∧ y.cls ≠ "java/lang/invoke/MethodHandle" ∧ y.cls ≠ "java/lang/invoke/VarHandle" ∧ (parseMethodDescriptor y.desc).map (fun d => d.parameters.length) = some n) (hR : R'.frames + 1 ≤ R.frames ∧ 8 + (mL' + 11) + R'.locals ≤ R.locals) (h0 : R'.cells = 0 ∧ R'.slots = 0)
    (isC isR : List Nat) (hC : isC.map (fun i => ws[i]?) = wc.map some) (hRr : isR.map (fun i => ws[i]?) = wr.map some) (hnd : va_nd isC = true ∧ va_nd isR = true) (hdis : ∀ i ∈ isR, i ∉ isC) {q0 ci : Nat} {q : vw_C} {fs : List Value} (hc : vwCl[ci]? = some q) (he : wc[q0]? = some (b, .inr (ci, fs))) (hq : q.1 = C)
    (hst : st = As.reverse ++ .ref b :: rest) (hn : As.length = n) (hs : ls.size = nL) (hw : (rest.map fun v => v.category).sum ≤ 8) (hdg : decode cc pc = .ok (.invokevirtual idx, 3)) (hf : cells ≤ R.cells ∧ slots ≤ R.slots)
    (kk : ∀ (r : Int32) (u : S) (H1 : Heap) (locs1 : List Loc), post r u → va_P D vwCl (wr ++ wf u) H1 → va_D A (wr ++ wf u) → va_S A s.heap H1 locs1 → W p l e R s m args below meth c H1 locs1 cells slots Q (F0 m (pc + 3) ls (.int r :: rest))) : W p l e R s m args below meth c H locs cells slots Q (F0 m pc ls st) := by
  obtain ⟨hPc, hDc⟩ := subPD hP hD isC hC hnd.1
  have hpre := preW (.ref b :: As) hN hK hPc hDc
  obtain ⟨cell, h1, h2, h3⟩ := va_recv hK hPc hc he
  have h0c := h0.1
  have h0s := h0.2
  refine back_I (mc := R'.cells) (ms := R'.slots) (va_runV (C := C) (As := As) (rest := rest) X hM (cwV n X.2.2.2.2 g rfl rfl rfl hd hR) ⟨hpre.1, ⟨cell, h1, h2, by rw [← hq]; exact h3⟩, hpre.2⟩ rfl hn hs hst (lv_room hw) hdg (by rw [h0c, h0s]; exact hf)) hP hD hS hA isC isR hC hRr hnd.2 hdis ?_
  rw [h0c, h0s]
  exact kk
/-- a virtual call of a method that writes and answers nothing -/
theorem cVV {S : Type} {post : S → Prop} {wf : S → va_W} {wr : va_W} (X : CallFix p m c cc nL s args tb own) (hN : NW s) (hK : va_K D vwCl (tyL cI cB) s) (hP : va_P D vwCl ws H) (hD : va_D A ws) (hS : va_S A s.heap H locs) (hA : ∀ q : Nat, s.heap.size ≤ q → A q)
    (hM : MV l D cI cB y cc' mL' R' (.ref b :: As) wc H.size post wf) (g : GoodIn tb (wsV own idx C y (mw y cc' mL' none)))
    (hd : y.cls = C ∧ y.cls ≠ "java/lang/invoke/MethodHandle" ∧ y.cls ≠ "java/lang/invoke/VarHandle" ∧ (parseMethodDescriptor y.desc).map (fun d => d.parameters.length) = some n) (hR : R'.frames + 1 ≤ R.frames ∧ 8 + (mL' + 11) + R'.locals ≤ R.locals) (h0 : R'.cells = 0 ∧ R'.slots = 0)
    (isC isR : List Nat) (hC : isC.map (fun i => ws[i]?) = wc.map some) (hRr : isR.map (fun i => ws[i]?) = wr.map some) (hnd : va_nd isC = true ∧ va_nd isR = true) (hdis : ∀ i ∈ isR, i ∉ isC) {q0 ci : Nat} {q : vw_C} {fs : List Value} (hc : vwCl[ci]? = some q) (he : wc[q0]? = some (b, .inr (ci, fs))) (hq : q.1 = C)
    (hst : st = As.reverse ++ .ref b :: rest) (hn : As.length = n) (hs : ls.size = nL) (hw : (rest.map fun v => v.category).sum ≤ 8) (hdg : decode cc pc = .ok (.invokevirtual idx, 3)) (hf : cells ≤ R.cells ∧ slots ≤ R.slots)
    (kk : ∀ (u : S) (H1 : Heap) (locs1 : List Loc), post u → va_P D vwCl (wr ++ wf u) H1 → va_D A (wr ++ wf u) → va_S A s.heap H1 locs1 → W p l e R s m args below meth c H1 locs1 cells slots Q (F0 m (pc + 3) ls rest)) : W p l e R s m args below meth c H locs cells slots Q (F0 m pc ls st) := by
  obtain ⟨hPc, hDc⟩ := subPD hP hD isC hC hnd.1
  have hpre := preW (.ref b :: As) hN hK hPc hDc
  obtain ⟨cell, h1, h2, h3⟩ := va_recv hK hPc hc he
  have h0c := h0.1
  have h0s := h0.2
  refine back_V (mc := R'.cells) (ms := R'.slots) (va_runV (C := C) (As := As) (rest := rest) X hM (cwV n X.2.2.2.2 g rfl rfl rfl hd hR) ⟨hpre.1, ⟨cell, h1, h2, by rw [← hq]; exact h3⟩, hpre.2⟩ rfl hn hs hst (lv_room hw) hdg (by rw [h0c, h0s]; exact hf)) hP hD hS hA isC isR hC hRr hnd.2 hdis ?_
  rw [h0c, h0s]
  exact kk
/-- a static call of a method that writes and answers nothing -/
theorem cSV {S : Type} {post : S → Prop} {wf : S → va_W} {wr : va_W} (X : CallFix p m c cc nL s args tb own) (hN : NW s) (hK : va_K D vwCl (tyL cI cB) s) (hP : va_P D vwCl ws H) (hD : va_D A ws) (hS : va_S A s.heap H locs) (hA : ∀ q : Nat, s.heap.size ≤ q → A q)
    (hM : MV l D cI cB y cc' mL' R' As wc H.size post wf) (w1 : Cond.methodLink own idx y ∈ tb) (w2 : Cond.static y ∈ tb) (w3 : Cond.initialized y.cls ∈ tb) (w5 : Cond.code y cc' mL' none ∈ tb)
    (hd : y.cls ≠ "java/lang/invoke/MethodHandle" ∧ y.cls ≠ "java/lang/invoke/VarHandle" ∧ (parseMethodDescriptor y.desc).map (fun d => d.parameters.length) = some n) (hR : R'.frames + 1 ≤ R.frames ∧ 8 + (mL' + 11) + R'.locals ≤ R.locals) (h0 : R'.cells = 0 ∧ R'.slots = 0)
    (isC isR : List Nat) (hC : isC.map (fun i => ws[i]?) = wc.map some) (hRr : isR.map (fun i => ws[i]?) = wr.map some) (hnd : va_nd isC = true ∧ va_nd isR = true) (hdis : ∀ i ∈ isR, i ∉ isC)
    (hst : st = As.reverse ++ rest) (hn : As.length = n) (hs : ls.size = nL) (hw : (rest.map fun v => v.category).sum ≤ 8) (hdg : decode cc pc = .ok (.invokestatic idx, 3)) (hf : cells ≤ R.cells ∧ slots ≤ R.slots)
    (kk : ∀ (u : S) (H1 : Heap) (locs1 : List Loc), post u → va_P D vwCl (wr ++ wf u) H1 → va_D A (wr ++ wf u) → va_S A s.heap H1 locs1 → W p l e R s m args below meth c H1 locs1 cells slots Q (F0 m (pc + 3) ls rest)) : W p l e R s m args below meth c H locs cells slots Q (F0 m pc ls st) := by
  obtain ⟨hPc, hDc⟩ := subPD hP hD isC hC hnd.1
  have hpre := preW As hN hK hPc hDc
  have h0c := h0.1
  have h0s := h0.2
  refine back_V (mc := R'.cells) (ms := R'.slots) (va_runS (As := As) (rest := rest) X hM (gS w1 w2 w3 w5 X.2.2.2.2 ⟨rfl, rfl⟩ hd hR) hpre rfl hn hs hst (lv_room hw) hdg (by rw [h0c, h0s]; exact hf)) hP hD hS hA isC isR hC hRr hnd.2 hdis ?_
  rw [h0c, h0s]
  exact kk
/-- a constructor: own nest or not; it makes R'.cells cells of R'.slots slots -/
theorem cIV {S : Type} {post : S → Prop} {wf : S → va_W} {wr : va_W} (X : CallFix p m c cc nL s args tb own) (hN : NW s) (hK : va_K D vwCl (tyL cI cB) s) (hP : va_P D vwCl ws H) (hD : va_D A ws) (hS : va_S A s.heap H locs) (hA : ∀ q : Nat, s.heap.size ≤ q → A q)
    (hM : MV l D cI cB y cc' mL' R' (.ref b :: As) wc H.size post wf) (w1 : Cond.methodLink own idx y ∈ tb) (w2 : Cond.instanceMethod y ∈ tb) (w3 : Cond.initialized y.cls ∈ tb) (w5 : Cond.code y cc' mL' none ∈ tb) (hi : y.name = "<init>")
    (hd : y.cls ≠ "java/lang/invoke/MethodHandle" ∧ y.cls ≠ "java/lang/invoke/VarHandle" ∧ (parseMethodDescriptor y.desc).map (fun d => d.parameters.length) = some n) (hR : R'.frames + 1 ≤ R.frames ∧ 8 + (mL' + 11) + R'.locals ≤ R.locals)
    (isC isR : List Nat) (hC : isC.map (fun i => ws[i]?) = wc.map some) (hRr : isR.map (fun i => ws[i]?) = wr.map some) (hnd : va_nd isC = true ∧ va_nd isR = true) (hdis : ∀ i ∈ isR, i ∉ isC)
    (hst : st = As.reverse ++ .ref b :: rest) (hn : As.length = n) (hs : ls.size = nL) (hw : (rest.map fun v => v.category).sum ≤ 8) (hdg : decode cc pc = .ok (.invokespecial idx, 3)) (hf : cells + R'.cells ≤ R.cells ∧ slots + R'.slots ≤ R.slots)
    (kk : ∀ (u : S) (H1 : Heap) (locs1 : List Loc), post u → va_P D vwCl (wr ++ wf u) H1 → va_D A (wr ++ wf u) → va_S A s.heap H1 locs1 → W p l e R s m args below meth c H1 locs1 (cells + R'.cells) (slots + R'.slots) Q (F0 m (pc + 3) ls rest)) : W p l e R s m args below meth c H locs cells slots Q (F0 m pc ls st) := by
  obtain ⟨hPc, hDc⟩ := subPD hP hD isC hC hnd.1
  have hpre := preW (.ref b :: As) hN hK hPc hDc
  exact back_V (mc := R'.cells) (ms := R'.slots) (va_runI (As := As) (rest := rest) X hM (cwI n X.2.2.2.2 (gcons w5) rfl rfl rfl (X.2.2.2.2 _ w3) (X.2.2.2.2 _ w1) (X.2.2.2.2 _ w2) hi hd hR) hpre rfl hn hs hst (lv_room hw) hdg hf) hP hD hS hA isC isR hC hRr hnd.2 hdis kk
theorem cINV {S : Type} {post : S → Prop} {wf : S → va_W} {wr : va_W} {host : String} (X : CallFix p m c cc nL s args tb own) (hN : NW s) (hK : va_K D vwCl (tyL cI cB) s) (hP : va_P D vwCl ws H) (hD : va_D A ws) (hS : va_S A s.heap H locs) (hA : ∀ q : Nat, s.heap.size ≤ q → A q)
    (hM : MV l D cI cB y cc' mL' R' (.ref b :: As) wc H.size post wf) (w1 : Cond.methodLinkNest own idx y host ∈ lw_tbl) (w2 : Cond.instanceMethod y ∈ tb) (w3 : Cond.initialized y.cls ∈ tb) (w5 : Cond.code y cc' mL' none ∈ tb) (hi : y.name = "<init>")
    (hd : y.cls ≠ "java/lang/invoke/MethodHandle" ∧ y.cls ≠ "java/lang/invoke/VarHandle" ∧ (parseMethodDescriptor y.desc).map (fun d => d.parameters.length) = some n) (hR : R'.frames + 1 ≤ R.frames ∧ 8 + (mL' + 11) + R'.locals ≤ R.locals)
    (isC isR : List Nat) (hC : isC.map (fun i => ws[i]?) = wc.map some) (hRr : isR.map (fun i => ws[i]?) = wr.map some) (hnd : va_nd isC = true ∧ va_nd isR = true) (hdis : ∀ i ∈ isR, i ∉ isC)
    (hst : st = As.reverse ++ .ref b :: rest) (hn : As.length = n) (hs : ls.size = nL) (hw : (rest.map fun v => v.category).sum ≤ 8) (hdg : decode cc pc = .ok (.invokespecial idx, 3)) (hf : cells + R'.cells ≤ R.cells ∧ slots + R'.slots ≤ R.slots)
    (kk : ∀ (u : S) (H1 : Heap) (locs1 : List Loc), post u → va_P D vwCl (wr ++ wf u) H1 → va_D A (wr ++ wf u) → va_S A s.heap H1 locs1 → W p l e R s m args below meth c H1 locs1 (cells + R'.cells) (slots + R'.slots) Q (F0 m (pc + 3) ls rest)) : W p l e R s m args below meth c H locs cells slots Q (F0 m pc ls st) := by
  obtain ⟨hPc, hDc⟩ := subPD hP hD isC hC hnd.1
  have hpre := preW (.ref b :: As) hN hK hPc hDc
  exact back_V (mc := R'.cells) (ms := R'.slots) (va_runIN (As := As) (rest := rest) X hM ⟨va_cnB n X.2.2.2.2 (gcons w5) rfl rfl rfl (hN _ w1 rfl) (X.2.2.2.2 _ w3) hd hR, hi, X.2.2.2.2 _ w2⟩ hpre rfl hn hs hst (lv_room hw) hdg hf) hP hD hS hA isC isR hC hRr hnd.2 hdis kk
end CR
end
section
set_option maxRecDepth 100000 in
theorem itX0 : ∀ w ∈ u_ws RX0 TX0 4, w ∈ tb := by decide +kernel
theorem fdX0 : ∀ j, j < 4 → defaultValue (tyX0 j) = vp_V [.null, .null, .null, .int 0] j := by
  intro j hj
  match j, hj with
  | 0, _ => rfl
  | 1, _ => rfl
  | 2, _ => rfl
  | 3, _ => rfl
  | k + 4, h => exact absurd h (by omega)
set_option maxRecDepth 100000 in
theorem itX1 : ∀ w ∈ u_ws RX1 TX1 9, w ∈ tb := by decide +kernel
theorem fdX1 : ∀ j, j < 9 → defaultValue (tyX1 j) = vp_V [.null, .null, .null, .null, .null, .null, .null, .int 0, .int 0] j := by
  intro j hj
  match j, hj with
  | 0, _ => rfl
  | 1, _ => rfl
  | 2, _ => rfl
  | 3, _ => rfl
  | 4, _ => rfl
  | 5, _ => rfl
  | 6, _ => rfl
  | 7, _ => rfl
  | 8, _ => rfl
  | k + 9, h => exact absurd h (by omega)
set_option maxRecDepth 100000 in
theorem itX2 : ∀ w ∈ u_ws RX2 TX2 2, w ∈ tb := by decide +kernel
theorem fdX2 : ∀ j, j < 2 → defaultValue (tyX2 j) = vp_V [.null, .null] j := by
  intro j hj
  match j, hj with
  | 0, _ => rfl
  | 1, _ => rfl
  | k + 2, h => exact absurd h (by omega)
set_option maxRecDepth 100000 in
theorem itX3 : ∀ w ∈ u_ws RX3 TX3 5, w ∈ tb := by decide +kernel
theorem fdX3 : ∀ j, j < 5 → defaultValue (tyX3 j) = vp_V [.null, .null, .null, .int 0, .int 0] j := by
  intro j hj
  match j, hj with
  | 0, _ => rfl
  | 1, _ => rfl
  | 2, _ => rfl
  | 3, _ => rfl
  | 4, _ => rfl
  | k + 5, h => exact absurd h (by omega)
set_option maxRecDepth 100000 in
theorem itX4 : ∀ w ∈ u_ws RX4 TX4 6, w ∈ tb := by decide +kernel
theorem fdX4 : ∀ j, j < 6 → defaultValue (tyX4 j) = vp_V [.null, .null, .null, .int 0, .int 0, .int 0] j := by
  intro j hj
  match j, hj with
  | 0, _ => rfl
  | 1, _ => rfl
  | 2, _ => rfl
  | 3, _ => rfl
  | 4, _ => rfl
  | 5, _ => rfl
  | k + 6, h => exact absurd h (by omega)
set_option maxRecDepth 100000 in
theorem itX5 : ∀ w ∈ u_ws RX5 TX5 2, w ∈ tb := by decide +kernel
theorem fdX5 : ∀ j, j < 2 → defaultValue (tyX5 j) = vp_V [.null, .int 0] j := by
  intro j hj
  match j, hj with
  | 0, _ => rfl
  | 1, _ => rfl
  | k + 2, h => exact absurd h (by omega)
set_option maxRecDepth 100000 in
theorem itX6 : ∀ w ∈ u_ws RX6 TX6 4, w ∈ tb := by decide +kernel
theorem fdX6 : ∀ j, j < 4 → defaultValue (tyX6 j) = vp_V [.null, .int 0, .int 0, .int 0] j := by
  intro j hj
  match j, hj with
  | 0, _ => rfl
  | 1, _ => rfl
  | 2, _ => rfl
  | 3, _ => rfl
  | k + 4, h => exact absurd h (by omega)
set_option maxRecDepth 100000 in
theorem itX7 : ∀ w ∈ u_ws RX7 TX7 7, w ∈ tb := by decide +kernel
theorem fdX7 : ∀ j, j < 7 → defaultValue (tyX7 j) = vp_V [.int 0, .int 0, .int 0, .null, .null, .null, .null] j := by
  intro j hj
  match j, hj with
  | 0, _ => rfl
  | 1, _ => rfl
  | 2, _ => rfl
  | 3, _ => rfl
  | 4, _ => rfl
  | 5, _ => rfl
  | 6, _ => rfl
  | k + 7, h => exact absurd h (by omega)
set_option maxRecDepth 100000 in
theorem itX8 : ∀ w ∈ u_ws RX8 TX8 14, w ∈ tb := by decide +kernel
theorem fdX8 : ∀ j, j < 14 → defaultValue (tyX8 j) = vp_V [.null, .null, .null, .null, .null, .null, .int 0, .int 0, .int 0, .int 0, .int 0, .int 0, .int 0, .int 0] j := by
  intro j hj
  match j, hj with
  | 0, _ => rfl
  | 1, _ => rfl
  | 2, _ => rfl
  | 3, _ => rfl
  | 4, _ => rfl
  | 5, _ => rfl
  | 6, _ => rfl
  | 7, _ => rfl
  | 8, _ => rfl
  | 9, _ => rfl
  | 10, _ => rfl
  | 11, _ => rfl
  | 12, _ => rfl
  | 13, _ => rfl
  | k + 14, h => exact absurd h (by omega)
set_option maxRecDepth 100000 in
theorem itX9 : ∀ w ∈ u_ws RX9 TX9 11, w ∈ tb := by decide +kernel
theorem fdX9 : ∀ j, j < 11 → defaultValue (tyX9 j) = vp_V [.null, .null, .null, .null, .null, .null, .null, .null, .null, .null, .int 0] j := by
  intro j hj
  match j, hj with
  | 0, _ => rfl
  | 1, _ => rfl
  | 2, _ => rfl
  | 3, _ => rfl
  | 4, _ => rfl
  | 5, _ => rfl
  | 6, _ => rfl
  | 7, _ => rfl
  | 8, _ => rfl
  | 9, _ => rfl
  | 10, _ => rfl
  | k + 11, h => exact absurd h (by omega)
set_option maxRecDepth 100000 in
theorem itX10 : ∀ w ∈ u_ws RX10 TX10 65, w ∈ tb := by decide +kernel
theorem fdX10 : ∀ j, j < 65 → defaultValue (tyX10 j) = vp_V [.null, .null, .null, .null, .null, .null, .null, .null, .null, .null, .null, .int 0, .int 0, .int 0, .null, .int 0, .int 0, .int 0, .int 0, .int 0, .int 0, .int 0, .int 0, .int 0, .int 0, .null, .null, .null, .null, .null, .null, .null, .null, .null, .null, .null, .null, .null, .null, .null, .null, .null, .null, .int 0, .null, .null, .null, .null, .null, .null, .null, .null, .int 0, .int 0, .int 0, .int 0, .null, .int 0, .null, .null, .null, .null, .null, .null, .int 0] j := by
  intro j hj
  match j, hj with
  | 0, _ => rfl
  | 1, _ => rfl
  | 2, _ => rfl
  | 3, _ => rfl
  | 4, _ => rfl
  | 5, _ => rfl
  | 6, _ => rfl
  | 7, _ => rfl
  | 8, _ => rfl
  | 9, _ => rfl
  | 10, _ => rfl
  | 11, _ => rfl
  | 12, _ => rfl
  | 13, _ => rfl
  | 14, _ => rfl
  | 15, _ => rfl
  | 16, _ => rfl
  | 17, _ => rfl
  | 18, _ => rfl
  | 19, _ => rfl
  | 20, _ => rfl
  | 21, _ => rfl
  | 22, _ => rfl
  | 23, _ => rfl
  | 24, _ => rfl
  | 25, _ => rfl
  | 26, _ => rfl
  | 27, _ => rfl
  | 28, _ => rfl
  | 29, _ => rfl
  | 30, _ => rfl
  | 31, _ => rfl
  | 32, _ => rfl
  | 33, _ => rfl
  | 34, _ => rfl
  | 35, _ => rfl
  | 36, _ => rfl
  | 37, _ => rfl
  | 38, _ => rfl
  | 39, _ => rfl
  | 40, _ => rfl
  | 41, _ => rfl
  | 42, _ => rfl
  | 43, _ => rfl
  | 44, _ => rfl
  | 45, _ => rfl
  | 46, _ => rfl
  | 47, _ => rfl
  | 48, _ => rfl
  | 49, _ => rfl
  | 50, _ => rfl
  | 51, _ => rfl
  | 52, _ => rfl
  | 53, _ => rfl
  | 54, _ => rfl
  | 55, _ => rfl
  | 56, _ => rfl
  | 57, _ => rfl
  | 58, _ => rfl
  | 59, _ => rfl
  | 60, _ => rfl
  | 61, _ => rfl
  | 62, _ => rfl
  | 63, _ => rfl
  | 64, _ => rfl
  | k + 65, h => exact absurd h (by omega)
end
section
def bI (b : Prop) [Decidable b] : Int32 := if b then 1 else 0
theorem bI1 {b : Prop} [Decidable b] (h : b) : (1 : Int32) = bI b := (if_pos h).symm
theorem bI0 {b : Prop} [Decidable b] (h : ¬ b) : (0 : Int32) = bI b := (if_neg h).symm
theorem bIt {b : Prop} [Decidable b] (h : ¬ bI b = 0) : b := Decidable.byContradiction fun q => h (if_neg q)
theorem bIf {b : Prop} [Decidable b] (h : bI b = 0) : ¬ b := fun q => absurd ((if_pos q).symm.trans h) (by decide)
theorem bIn (b : Prop) [Decidable b] : narrow .boolean (.int (bI b)) = .int (bI b) := by
  by_cases h : b
  · rw [show bI b = 1 from if_pos h]; rfl
  · rw [show bI b = 0 from if_neg h]; rfl
theorem sh0 (k : Int32) : ¬ ((0 : Int32) >>> k &&& 1 = 1) := by
  intro h
  have h1 : (0 : Int32) >>> k = 0 := by
    apply Int32.toBitVec_inj.mp
    simp
  rw [h1] at h
  exact absurd h (by decide)
theorem vin {x : Int32} {k : Nat} (h0 : ¬ x < 0) (h1 : ¬ nI k ≤ x) (hk : k < 2 ^ 31) : vp_in x k := by
  rcases pk_ix x hk with h | h | ⟨j, hj, rfl⟩
  · exact absurd h h0
  · exact absurd h h1
  · exact vp_in_nI hj hk
theorem vlt {x : Int32} {k : Nat} (h : vp_in x k) : x.toNatClampNeg < k := Nat.not_le.mp fun q => h (Or.inr q)
theorem dlt {x : Int32} (h : 0 ≤ x) : (-2 : Int32) < x := by
  rw [Int32.le_iff_toInt_le] at h
  rw [Int32.lt_iff_toInt_lt]
  have e1 : (0 : Int32).toInt = 0 := by decide
  have e2 : (-2 : Int32).toInt = -2 := by decide
  omega
theorem updA {f : Nat → Int32} {v : Int32} {n : Nat} (k : Nat) (h : ∀ j, j < n → f j = v) : ∀ j, j < n → upd f k v j = v := by
  intro j hj
  by_cases e : j = k
  · rw [e, pk_us]
  · rw [pk_un e]; exact h j hj
theorem updS {f : Nat → Int32} {v : Int32} {i : Nat} (h : ∀ j, j < i → f j = v) : ∀ j, j < i + 1 → upd f i v j = v := by
  intro j hj
  by_cases e : j = i
  · rw [e, pk_us]
  · rw [pk_un e]; exact h j (by omega)
theorem cpyA {f g : Nat → Int32} {v : Int32} {n : Nat} (h : ∀ j, j < n → f j = v) : ∀ j, j < n → va_cpy f g 0 0 n j = v := by
  intro j hj
  rw [pk_cpy_in (Nat.zero_le j) (by omega)]
  exact h _ (by omega)
theorem drw {k : Nat} (h : k < 65536) : ∃ k2 : Nat, k2 < 65536 ∧ (25173 * nI k + 13849) - (25173 * nI k + 13849) / 65536 * 65536 = nI k2 := by
  refine ⟨(25173 * k + 13849) % 65536, Nat.mod_lt _ (by decide), ?_⟩
  have e1 : (25173 : Int32) * nI k + 13849 = nI (25173 * k + 13849) := by
    rw [show (25173 : Int32) = nI 25173 from rfl, show (13849 : Int32) = nI 13849 from rfl, pk_mul, nI_add]
  rw [e1]
  exact pk_rem (by omega) (by decide) (by decide)
theorem r10 {k : Nat} (h : k < 65536) : ∃ k2 : Nat, k2 < 10 ∧ nI k - nI k / 10 * 10 = nI k2 := ⟨k % 10, Nat.mod_lt _ (by decide), pk_rem (d := 10) (by omega) (by decide) (by decide)⟩
def iI (b : Prop) [Decidable b] (x z : Int32) : Int32 := if b then x else z
theorem iI1 {b : Prop} [Decidable b] {x z : Int32} (h : b) : x = iI b x z := (if_pos h).symm
theorem iI0 {b : Prop} [Decidable b] {x z : Int32} (h : ¬ b) : z = iI b x z := (if_neg h).symm
theorem dcN {x : Int32} {k : Nat} {K : Int32} (hK : K.toInt = k) (h : 1 ≤ x ∧ x ≤ K) : ∃ N : Nat, N ≤ k ∧ x = nI N := nI_of2 hK (fun q => absurd (Int32.lt_of_le_of_lt h.1 q) (by decide)) h.2
theorem inN {x : Int32} {k : Nat} {K : Int32} (hK : K.toInt = k) (h : 0 ≤ x ∧ x ≤ K) : ∃ N : Nat, N ≤ k ∧ x = nI N := nI_of2 hK (Int32.not_lt.mpr h.1) h.2
theorem cg0 {n lo hi : Int32} (h : 0 < lo) : ¬ ((lo ≤ n ∧ n ≤ hi) ∧ n ≤ 0) := fun q => absurd (Int32.lt_of_lt_of_le h q.1.1) (Int32.not_lt.mpr q.2)
theorem le0 {n : Int32} (h : 0 ≤ n) (h1 : n ≤ 0) : n = 0 := Int32.le_antisymm h1 h
theorem aM1 (a : Int32) : a &&& (-1) = a := by
  apply Int32.toBitVec_inj.mp
  simp
theorem c10 {j : Nat} (h : j ≤ 9) : ¬ (¬ nI j = 0 ∧ ¬ nI j = 1 ∧ ¬ nI j = 2 ∧ ¬ nI j = 3 ∧ ¬ nI j = 4 ∧ ¬ nI j = 5 ∧ ¬ nI j = 6 ∧ ¬ nI j = 7 ∧ ¬ nI j = 8 ∧ ¬ nI j = 9) := by
  match j, h with
  | 0, _ => decide
  | 1, _ => decide
  | 2, _ => decide
  | 3, _ => decide
  | 4, _ => decide
  | 5, _ => decide
  | 6, _ => decide
  | 7, _ => decide
  | 8, _ => decide
  | 9, _ => decide
  | k + 10, h => omega
theorem c5 {j : Nat} (h : j ≤ 4) : ¬ (¬ nI j = 0 ∧ ¬ nI j = 1 ∧ ¬ nI j = 2 ∧ ¬ nI j = 3 ∧ ¬ nI j = 4) := by
  match j, h with
  | 0, _ => decide
  | 1, _ => decide
  | 2, _ => decide
  | 3, _ => decide
  | 4, _ => decide
  | k + 5, h => omega
theorem updE {f : Nat → Int32} {v : Int32} {k j : Nat} (h : k = j) : upd f k v j = v := by rw [h, pk_us]
theorem updN {f : Nat → Int32} {v w : Int32} {k j : Nat} (h : ¬ j = k) (e : f j = w) : upd f k v j = w := (pk_un h).trans e
theorem updC {f g : Nat → Int32} {x : Int32} {i : Nat} (h : ∀ j, j < i → g j = f j) (e : x = f i) : ∀ j, j < i + 1 → upd g i x j = f j := by
  intro j hj
  by_cases q : j = i
  · rw [q, pk_us, e]
  · rw [pk_un q]; exact h j (by omega)
theorem rdL {f : Nat → Int32} {k j : Nat} {v : Int32} (e : k = j) (h : f j = v) : f k = v := e ▸ h
theorem sz0 (k : Int32) : (0 : Int32) >>> k &&& 1 = 0 := by
  have h1 : (0 : Int32) >>> k = 0 := by
    apply Int32.toBitVec_inj.mp
    simp
  rw [h1]; decide
theorem bitx : ∀ k, k < 1024 → 0 < k → ¬ ∀ q, q < 10 → ¬ (nI k >>> (nI q &&& 31) &&& 1 = 1) := by decide +kernel
end
section
theorem k_15 : Cond.selects RX8 yX8_goThroughDay yX8_goThroughDay ∈ tb := tb_in (List.mem_of_getElem? (i := 15) (by decide +kernel)) (by decide +kernel)
theorem k_20 : Cond.selects RX9 yX9_areTold yX9_areTold ∈ tb := tb_in (List.mem_of_getElem? (i := 20) (by decide +kernel)) (by decide +kernel)
theorem k_21 : Cond.selects RX9 yX9_costIf yX9_costIf ∈ tb := tb_in (List.mem_of_getElem? (i := 21) (by decide +kernel)) (by decide +kernel)
theorem k_22 : Cond.selects RX9 yX9_canLeave yX9_canLeave ∈ tb := tb_in (List.mem_of_getElem? (i := 22) (by decide +kernel)) (by decide +kernel)
theorem k_27 : Cond.selects RX9 yX9_runAway yX9_runAway ∈ tb := tb_in (List.mem_of_getElem? (i := 27) (by decide +kernel)) (by decide +kernel)
theorem k_28 : Cond.selects RX9 yX9_firstOther yX9_firstOther ∈ tb := tb_in (List.mem_of_getElem? (i := 28) (by decide +kernel)) (by decide +kernel)
theorem k_30 : Cond.selects RX9 yX9_allIsDoneIfStay yX9_allIsDoneIfStay ∈ tb := tb_in (List.mem_of_getElem? (i := 30) (by decide +kernel)) (by decide +kernel)
theorem k_57 : Cond.selects RX10 yX10_hasLeave yX10_hasLeave ∈ tb := tb_in (List.mem_of_getElem? (i := 57) (by decide +kernel)) (by decide +kernel)
theorem k_59 : Cond.selects RX10 yX10_laysNobody yX10_laysNobody ∈ tb := tb_in (List.mem_of_getElem? (i := 59) (by decide +kernel)) (by decide +kernel)
theorem k_61 : Cond.selects RX10 yX10_daysGo yX10_daysGo ∈ tb := tb_in (List.mem_of_getElem? (i := 61) (by decide +kernel)) (by decide +kernel)
theorem k_62 : Cond.selects RX10 yX10_dayGoes yX10_dayGoes ∈ tb := tb_in (List.mem_of_getElem? (i := 62) (by decide +kernel)) (by decide +kernel)
theorem k_63 : Cond.selects RX10 yX10_feels yX10_feels ∈ tb := tb_in (List.mem_of_getElem? (i := 63) (by decide +kernel)) (by decide +kernel)
theorem k_64 : Cond.selects RX10 yX10_awayOn yX10_awayOn ∈ tb := tb_in (List.mem_of_getElem? (i := 64) (by decide +kernel)) (by decide +kernel)
theorem k_65 : Cond.selects RX10 yX10_isPerson yX10_isPerson ∈ tb := tb_in (List.mem_of_getElem? (i := 65) (by decide +kernel)) (by decide +kernel)
theorem k_67 : Cond.selects RX10 yX10_unitsOf yX10_unitsOf ∈ tb := tb_in (List.mem_of_getElem? (i := 67) (by decide +kernel)) (by decide +kernel)
theorem k_70 : Cond.selects RX10 yX10_isChore yX10_isChore ∈ tb := tb_in (List.mem_of_getElem? (i := 70) (by decide +kernel)) (by decide +kernel)
theorem k_74 : Cond.selects RX10 yX10_undoneAll yX10_undoneAll ∈ tb := tb_in (List.mem_of_getElem? (i := 74) (by decide +kernel)) (by decide +kernel)
theorem k_92 : Cond.initialized RX9 ∈ tb := tb_in (List.mem_of_getElem? (i := 92) (by decide +kernel)) (by decide +kernel)
theorem k_93 : Cond.initialized RX5 ∈ tb := tb_in (List.mem_of_getElem? (i := 93) (by decide +kernel)) (by decide +kernel)
theorem k_94 : Cond.initialized RX7 ∈ tb := tb_in (List.mem_of_getElem? (i := 94) (by decide +kernel)) (by decide +kernel)
theorem k_95 : Cond.initialized RX4 ∈ tb := tb_in (List.mem_of_getElem? (i := 95) (by decide +kernel)) (by decide +kernel)
theorem k_96 : Cond.initialized RJ7 ∈ tb := tb_in (List.mem_of_getElem? (i := 96) (by decide +kernel)) (by decide +kernel)
theorem k_97 : Cond.initialized RX1 ∈ tb := tb_in (List.mem_of_getElem? (i := 97) (by decide +kernel)) (by decide +kernel)
theorem k_102 : Cond.initialized RX8 ∈ tb := tb_in (List.mem_of_getElem? (i := 102) (by decide +kernel)) (by decide +kernel)
theorem k_103 : Cond.initialized RX10 ∈ tb := tb_in (List.mem_of_getElem? (i := 103) (by decide +kernel)) (by decide +kernel)
theorem k_110 : Cond.initialized RJ10 ∈ tb := tb_in (List.mem_of_getElem? (i := 110) (by decide +kernel)) (by decide +kernel)
theorem k_111 : Cond.initialized RJ6 ∈ tb := tb_in (List.mem_of_getElem? (i := 111) (by decide +kernel)) (by decide +kernel)
theorem k_126 : Cond.fieldLink RX5 9 "MissedTown$Tape" "bytes" "[I" ∈ tb := tb_in (List.mem_of_getElem? (i := 126) (by decide +kernel)) (by decide +kernel)
theorem k_128 : Cond.fieldLink RX5 15 "MissedTown$Tape" "length" "I" ∈ tb := tb_in (List.mem_of_getElem? (i := 128) (by decide +kernel)) (by decide +kernel)
theorem n_130 : Cond.fieldLinkNest RX9 112 "MissedTown$Tape" "length" "I" RX9 ∈ lw_tbl := List.mem_of_getElem? (i := 130) (by decide +kernel)
theorem k_143 : Cond.fieldLink RX7 24 "MissedTown$Town" "people" "I" ∈ tb := tb_in (List.mem_of_getElem? (i := 143) (by decide +kernel)) (by decide +kernel)
theorem n_144 : Cond.fieldLinkNest RX9 85 "MissedTown$Town" "people" "I" RX9 ∈ lw_tbl := List.mem_of_getElem? (i := 144) (by decide +kernel)
theorem n_145 : Cond.fieldLinkNest RX8 105 "MissedTown$Town" "people" "I" RX9 ∈ lw_tbl := List.mem_of_getElem? (i := 145) (by decide +kernel)
theorem k_146 : Cond.fieldLink RX7 32 "MissedTown$Town" "chores" "I" ∈ tb := tb_in (List.mem_of_getElem? (i := 146) (by decide +kernel)) (by decide +kernel)
theorem n_147 : Cond.fieldLinkNest RX9 92 "MissedTown$Town" "chores" "I" RX9 ∈ lw_tbl := List.mem_of_getElem? (i := 147) (by decide +kernel)
theorem n_148 : Cond.fieldLinkNest RX8 115 "MissedTown$Town" "chores" "I" RX9 ∈ lw_tbl := List.mem_of_getElem? (i := 148) (by decide +kernel)
theorem n_149 : Cond.fieldLinkNest RX9 101 "MissedTown$Town" "rainTenths" "I" RX9 ∈ lw_tbl := List.mem_of_getElem? (i := 149) (by decide +kernel)
theorem n_150 : Cond.fieldLinkNest RX8 85 "MissedTown$Town" "rainTenths" "I" RX9 ∈ lw_tbl := List.mem_of_getElem? (i := 150) (by decide +kernel)
theorem n_152 : Cond.fieldLinkNest RX9 89 "MissedTown$Town" "cap" "[I" RX9 ∈ lw_tbl := List.mem_of_getElem? (i := 152) (by decide +kernel)
theorem n_155 : Cond.fieldLinkNest RX9 95 "MissedTown$Town" "amount" "[I" RX9 ∈ lw_tbl := List.mem_of_getElem? (i := 155) (by decide +kernel)
theorem k_187 : Cond.static yJ7_fill_53178 ∈ tb := tb_in (List.mem_of_getElem? (i := 187) (by decide +kernel)) (by decide +kernel)
theorem k_188 : Cond.code yJ7_fill_53178 cJ7_fill_53178 4 none ∈ tb := tb_in (List.mem_of_getElem? (i := 188) (by decide +kernel)) (by decide +kernel)
theorem k_189 : Cond.fieldLink RX4 9 "MissedTown$State" "undone" "[I" ∈ tb := tb_in (List.mem_of_getElem? (i := 189) (by decide +kernel)) (by decide +kernel)
theorem n_190 : Cond.fieldLinkNest RX9 98 "MissedTown$State" "undone" "[I" RX9 ∈ lw_tbl := List.mem_of_getElem? (i := 190) (by decide +kernel)
theorem k_192 : Cond.fieldLink RX4 15 "MissedTown$State" "first" "[I" ∈ tb := tb_in (List.mem_of_getElem? (i := 192) (by decide +kernel)) (by decide +kernel)
theorem k_194 : Cond.fieldLink RX4 18 "MissedTown$State" "last" "[I" ∈ tb := tb_in (List.mem_of_getElem? (i := 194) (by decide +kernel)) (by decide +kernel)
theorem n_196 : Cond.fieldLinkNest RX8 53 "MissedTown$State" "missedSoFar" "I" RX9 ∈ lw_tbl := List.mem_of_getElem? (i := 196) (by decide +kernel)
theorem k_197 : Cond.fieldLink RX4 37 "MissedTown$State" "missedSoFar" "I" ∈ tb := tb_in (List.mem_of_getElem? (i := 197) (by decide +kernel)) (by decide +kernel)
theorem n_198 : Cond.fieldLinkNest RX9 212 "MissedTown$State" "missedSoFar" "I" RX9 ∈ lw_tbl := List.mem_of_getElem? (i := 198) (by decide +kernel)
theorem k_199 : Cond.fieldLink RX4 40 "MissedTown$State" "day" "I" ∈ tb := tb_in (List.mem_of_getElem? (i := 199) (by decide +kernel)) (by decide +kernel)
theorem n_200 : Cond.fieldLinkNest RX8 78 "MissedTown$State" "day" "I" RX9 ∈ lw_tbl := List.mem_of_getElem? (i := 200) (by decide +kernel)
theorem n_201 : Cond.fieldLinkNest RX9 209 "MissedTown$State" "day" "I" RX9 ∈ lw_tbl := List.mem_of_getElem? (i := 201) (by decide +kernel)
theorem k_202 : Cond.fieldLink RX4 21 "MissedTown$State" "drawn" "I" ∈ tb := tb_in (List.mem_of_getElem? (i := 202) (by decide +kernel)) (by decide +kernel)
theorem n_203 : Cond.fieldLinkNest RX8 81 "MissedTown$State" "drawn" "I" RX9 ∈ lw_tbl := List.mem_of_getElem? (i := 203) (by decide +kernel)
theorem n_204 : Cond.fieldLinkNest RX9 151 "MissedTown$State" "drawn" "I" RX9 ∈ lw_tbl := List.mem_of_getElem? (i := 204) (by decide +kernel)
theorem k_229 : Cond.fieldLink RX1 27 "MissedTown$Law" "letters" "[I" ∈ tb := tb_in (List.mem_of_getElem? (i := 229) (by decide +kernel)) (by decide +kernel)
theorem n_235 : Cond.fieldLinkNest RX9 218 "MissedTown$Law" "clauses" "I" RX9 ∈ lw_tbl := List.mem_of_getElem? (i := 235) (by decide +kernel)
theorem k_345 : Cond.fieldLink RX8 28 "MissedTown$Trial" "town" "LMissedTown$Town;" ∈ tb := tb_in (List.mem_of_getElem? (i := 345) (by decide +kernel)) (by decide +kernel)
theorem k_346 : Cond.fieldLink RX8 32 "MissedTown$Trial" "law" "LMissedTown$Law;" ∈ tb := tb_in (List.mem_of_getElem? (i := 346) (by decide +kernel)) (by decide +kernel)
theorem k_347 : Cond.fieldLink RX8 12 "MissedTown$Trial" "state" "LMissedTown$State;" ∈ tb := tb_in (List.mem_of_getElem? (i := 347) (by decide +kernel)) (by decide +kernel)
theorem n_348 : Cond.fieldLinkNest RX9 165 "MissedTown$Trial" "state" "LMissedTown$State;" RX9 ∈ lw_tbl := List.mem_of_getElem? (i := 348) (by decide +kernel)
theorem k_349 : Cond.fieldLink RX8 18 "MissedTown$Trial" "more" "[I" ∈ tb := tb_in (List.mem_of_getElem? (i := 349) (by decide +kernel)) (by decide +kernel)
theorem k_351 : Cond.fieldLink RX8 22 "MissedTown$Trial" "can" "[I" ∈ tb := tb_in (List.mem_of_getElem? (i := 351) (by decide +kernel)) (by decide +kernel)
theorem k_352 : Cond.fieldLink RX8 25 "MissedTown$Trial" "did" "[I" ∈ tb := tb_in (List.mem_of_getElem? (i := 352) (by decide +kernel)) (by decide +kernel)
theorem k_354 : Cond.fieldLink RX8 46 "MissedTown$Trial" "idle" "I" ∈ tb := tb_in (List.mem_of_getElem? (i := 354) (by decide +kernel)) (by decide +kernel)
theorem k_355 : Cond.fieldLink RX8 65 "MissedTown$Trial" "idleFrom" "I" ∈ tb := tb_in (List.mem_of_getElem? (i := 355) (by decide +kernel)) (by decide +kernel)
theorem k_356 : Cond.fieldLink RX8 68 "MissedTown$Trial" "idleTo" "I" ∈ tb := tb_in (List.mem_of_getElem? (i := 356) (by decide +kernel)) (by decide +kernel)
theorem k_357 : Cond.fieldLink RX8 50 "MissedTown$Trial" "frontChore" "I" ∈ tb := tb_in (List.mem_of_getElem? (i := 357) (by decide +kernel)) (by decide +kernel)
theorem k_358 : Cond.fieldLink RX8 71 "MissedTown$Trial" "frontPerson" "I" ∈ tb := tb_in (List.mem_of_getElem? (i := 358) (by decide +kernel)) (by decide +kernel)
theorem k_359 : Cond.fieldLink RX8 56 "MissedTown$Trial" "missedBefore" "I" ∈ tb := tb_in (List.mem_of_getElem? (i := 359) (by decide +kernel)) (by decide +kernel)
theorem k_360 : Cond.fieldLink RX8 59 "MissedTown$Trial" "rainyDays" "I" ∈ tb := tb_in (List.mem_of_getElem? (i := 360) (by decide +kernel)) (by decide +kernel)
theorem n_361 : Cond.fieldLinkNest RX9 176 "MissedTown$Trial" "rainyDays" "I" RX9 ∈ lw_tbl := List.mem_of_getElem? (i := 361) (by decide +kernel)
theorem k_362 : Cond.fieldLink RX8 62 "MissedTown$Trial" "clearDays" "I" ∈ tb := tb_in (List.mem_of_getElem? (i := 362) (by decide +kernel)) (by decide +kernel)
theorem n_363 : Cond.fieldLinkNest RX9 185 "MissedTown$Trial" "clearDays" "I" RX9 ∈ lw_tbl := List.mem_of_getElem? (i := 363) (by decide +kernel)
theorem k_393 : Cond.fieldLink RX9 10 "MissedTown" "tape" "LMissedTown$Tape;" ∈ tb := tb_in (List.mem_of_getElem? (i := 393) (by decide +kernel)) (by decide +kernel)
theorem k_394 : Cond.fieldLink RX9 19 "MissedTown" "town" "LMissedTown$Town;" ∈ tb := tb_in (List.mem_of_getElem? (i := 394) (by decide +kernel)) (by decide +kernel)
theorem k_395 : Cond.fieldLink RX9 26 "MissedTown" "now" "LMissedTown$State;" ∈ tb := tb_in (List.mem_of_getElem? (i := 395) (by decide +kernel)) (by decide +kernel)
theorem k_396 : Cond.fieldLink RX9 30 "MissedTown" "kept" "LMissedTown$State;" ∈ tb := tb_in (List.mem_of_getElem? (i := 396) (by decide +kernel)) (by decide +kernel)
theorem k_397 : Cond.fieldLink RX9 36 "MissedTown" "rules" "LMissedTown$Law;" ∈ tb := tb_in (List.mem_of_getElem? (i := 397) (by decide +kernel)) (by decide +kernel)
theorem k_401 : Cond.fieldLink RX9 73 "MissedTown" "trial" "LMissedTown$Trial;" ∈ tb := tb_in (List.mem_of_getElem? (i := 401) (by decide +kernel)) (by decide +kernel)
theorem k_403 : Cond.fieldLink RX9 296 "MissedTown" "hasKept" "Z" ∈ tb := tb_in (List.mem_of_getElem? (i := 403) (by decide +kernel)) (by decide +kernel)
theorem k_431 : Cond.methodLink RX9 81 yX9_within ∈ tb := tb_in (List.mem_of_getElem? (i := 431) (by decide +kernel)) (by decide +kernel)
theorem k_432 : Cond.static yX9_within ∈ tb := tb_in (List.mem_of_getElem? (i := 432) (by decide +kernel)) (by decide +kernel)
theorem k_433 : Cond.code yX9_within cX9_within 3 (some .boolean) ∈ tb := tb_in (List.mem_of_getElem? (i := 433) (by decide +kernel)) (by decide +kernel)
theorem k_446 : Cond.methodLink RX9 104 yX5_hasRoomFor ∈ tb := tb_in (List.mem_of_getElem? (i := 446) (by decide +kernel)) (by decide +kernel)
theorem k_447 : Cond.instanceMethod yX5_hasRoomFor ∈ tb := tb_in (List.mem_of_getElem? (i := 447) (by decide +kernel)) (by decide +kernel)
theorem k_448 : Cond.selects RX5 yX5_hasRoomFor yX5_hasRoomFor ∈ tb := tb_in (List.mem_of_getElem? (i := 448) (by decide +kernel)) (by decide +kernel)
theorem k_449 : Cond.code yX5_hasRoomFor cX5_hasRoomFor 2 (some .boolean) ∈ tb := tb_in (List.mem_of_getElem? (i := 449) (by decide +kernel)) (by decide +kernel)
theorem k_450 : Cond.methodLink RX9 108 yX5_addWord ∈ tb := tb_in (List.mem_of_getElem? (i := 450) (by decide +kernel)) (by decide +kernel)
theorem k_451 : Cond.instanceMethod yX5_addWord ∈ tb := tb_in (List.mem_of_getElem? (i := 451) (by decide +kernel)) (by decide +kernel)
theorem k_452 : Cond.selects RX5 yX5_addWord yX5_addWord ∈ tb := tb_in (List.mem_of_getElem? (i := 452) (by decide +kernel)) (by decide +kernel)
theorem k_453 : Cond.code yX5_addWord cX5_addWord 3 none ∈ tb := tb_in (List.mem_of_getElem? (i := 453) (by decide +kernel)) (by decide +kernel)
theorem k_458 : Cond.methodLink RX9 115 yX5_canGive ∈ tb := tb_in (List.mem_of_getElem? (i := 458) (by decide +kernel)) (by decide +kernel)
theorem k_459 : Cond.instanceMethod yX5_canGive ∈ tb := tb_in (List.mem_of_getElem? (i := 459) (by decide +kernel)) (by decide +kernel)
theorem k_460 : Cond.selects RX5 yX5_canGive yX5_canGive ∈ tb := tb_in (List.mem_of_getElem? (i := 460) (by decide +kernel)) (by decide +kernel)
theorem k_461 : Cond.code yX5_canGive cX5_canGive 4 (some .boolean) ∈ tb := tb_in (List.mem_of_getElem? (i := 461) (by decide +kernel)) (by decide +kernel)
theorem k_666 : Cond.static arraycopyName ∈ tb := tb_in (List.mem_of_getElem? (i := 666) (by decide +kernel)) (by decide +kernel)
theorem k_667 : Cond.native arraycopyName ∈ tb := tb_in (List.mem_of_getElem? (i := 667) (by decide +kernel)) (by decide +kernel)
theorem k_696 : Cond.static yX9_isIn ∈ tb := tb_in (List.mem_of_getElem? (i := 696) (by decide +kernel)) (by decide +kernel)
theorem k_697 : Cond.code yX9_isIn cX9_isIn 2 (some .boolean) ∈ tb := tb_in (List.mem_of_getElem? (i := 697) (by decide +kernel)) (by decide +kernel)
theorem k_734 : Cond.instanceMethod yX4_endLeaves ∈ tb := tb_in (List.mem_of_getElem? (i := 734) (by decide +kernel)) (by decide +kernel)
theorem k_735 : Cond.selects RX4 yX4_endLeaves yX4_endLeaves ∈ tb := tb_in (List.mem_of_getElem? (i := 735) (by decide +kernel)) (by decide +kernel)
theorem k_736 : Cond.code yX4_endLeaves cX4_endLeaves 3 none ∈ tb := tb_in (List.mem_of_getElem? (i := 736) (by decide +kernel)) (by decide +kernel)
theorem n_737 : Cond.methodLinkNest RX4 43 yX9_isIn RX9 ∈ lw_tbl := List.mem_of_getElem? (i := 737) (by decide +kernel)
theorem k_746 : Cond.methodLink RX9 138 yX4_leaveBits ∈ tb := tb_in (List.mem_of_getElem? (i := 746) (by decide +kernel)) (by decide +kernel)
theorem k_747 : Cond.instanceMethod yX4_leaveBits ∈ tb := tb_in (List.mem_of_getElem? (i := 747) (by decide +kernel)) (by decide +kernel)
theorem k_748 : Cond.selects RX4 yX4_leaveBits yX4_leaveBits ∈ tb := tb_in (List.mem_of_getElem? (i := 748) (by decide +kernel)) (by decide +kernel)
theorem k_749 : Cond.code yX4_leaveBits cX4_leaveBits 3 (some .int) ∈ tb := tb_in (List.mem_of_getElem? (i := 749) (by decide +kernel)) (by decide +kernel)
theorem k_750 : Cond.methodLink RX4 47 yX4_hasLeave ∈ tb := tb_in (List.mem_of_getElem? (i := 750) (by decide +kernel)) (by decide +kernel)
theorem k_751 : Cond.instanceMethod yX4_hasLeave ∈ tb := tb_in (List.mem_of_getElem? (i := 751) (by decide +kernel)) (by decide +kernel)
theorem k_752 : Cond.selects RX4 yX4_hasLeave yX4_hasLeave ∈ tb := tb_in (List.mem_of_getElem? (i := 752) (by decide +kernel)) (by decide +kernel)
theorem k_753 : Cond.code yX4_hasLeave cX4_hasLeave 2 (some .boolean) ∈ tb := tb_in (List.mem_of_getElem? (i := 753) (by decide +kernel)) (by decide +kernel)
theorem k_754 : Cond.methodLink RX9 142 yJ6_bitCount_0f7a4 ∈ tb := tb_in (List.mem_of_getElem? (i := 754) (by decide +kernel)) (by decide +kernel)
theorem k_755 : Cond.static yJ6_bitCount_0f7a4 ∈ tb := tb_in (List.mem_of_getElem? (i := 755) (by decide +kernel)) (by decide +kernel)
theorem k_756 : Cond.code yJ6_bitCount_0f7a4 cJ6_bitCount_0f7a4 1 (some .int) ∈ tb := tb_in (List.mem_of_getElem? (i := 756) (by decide +kernel)) (by decide +kernel)
theorem k_757 : Cond.constant RJ6 265 (1431655765) ∈ tb := tb_in (List.mem_of_getElem? (i := 757) (by decide +kernel)) (by decide +kernel)
theorem k_758 : Cond.constant RJ6 266 (858993459) ∈ tb := tb_in (List.mem_of_getElem? (i := 758) (by decide +kernel)) (by decide +kernel)
theorem k_759 : Cond.constant RJ6 267 (252645135) ∈ tb := tb_in (List.mem_of_getElem? (i := 759) (by decide +kernel)) (by decide +kernel)
theorem k_760 : Cond.methodLink RX9 147 yX4_endLeaves ∈ tb := tb_in (List.mem_of_getElem? (i := 760) (by decide +kernel)) (by decide +kernel)
theorem k_765 : Cond.constant RX9 150 (65535) ∈ tb := tb_in (List.mem_of_getElem? (i := 765) (by decide +kernel)) (by decide +kernel)
theorem k_770 : Cond.methodLink RX9 154 yX9_isDayCount ∈ tb := tb_in (List.mem_of_getElem? (i := 770) (by decide +kernel)) (by decide +kernel)
theorem k_771 : Cond.static yX9_isDayCount ∈ tb := tb_in (List.mem_of_getElem? (i := 771) (by decide +kernel)) (by decide +kernel)
theorem k_772 : Cond.code yX9_isDayCount cX9_isDayCount 1 (some .boolean) ∈ tb := tb_in (List.mem_of_getElem? (i := 772) (by decide +kernel)) (by decide +kernel)
theorem k_773 : Cond.methodLink RX9 157 yX8_begin ∈ tb := tb_in (List.mem_of_getElem? (i := 773) (by decide +kernel)) (by decide +kernel)
theorem k_774 : Cond.instanceMethod yX8_begin ∈ tb := tb_in (List.mem_of_getElem? (i := 774) (by decide +kernel)) (by decide +kernel)
theorem k_775 : Cond.selects RX8 yX8_begin yX8_begin ∈ tb := tb_in (List.mem_of_getElem? (i := 775) (by decide +kernel)) (by decide +kernel)
theorem k_776 : Cond.code yX8_begin cX8_begin 2 none ∈ tb := tb_in (List.mem_of_getElem? (i := 776) (by decide +kernel)) (by decide +kernel)
theorem k_777 : Cond.methodLink RX8 36 yX4_copy ∈ tb := tb_in (List.mem_of_getElem? (i := 777) (by decide +kernel)) (by decide +kernel)
theorem k_778 : Cond.instanceMethod yX4_copy ∈ tb := tb_in (List.mem_of_getElem? (i := 778) (by decide +kernel)) (by decide +kernel)
theorem k_779 : Cond.selects RX4 yX4_copy yX4_copy ∈ tb := tb_in (List.mem_of_getElem? (i := 779) (by decide +kernel)) (by decide +kernel)
theorem k_780 : Cond.code yX4_copy cX4_copy 2 none ∈ tb := tb_in (List.mem_of_getElem? (i := 780) (by decide +kernel)) (by decide +kernel)
theorem k_781 : Cond.methodLink RX4 31 arraycopyName ∈ tb := tb_in (List.mem_of_getElem? (i := 781) (by decide +kernel)) (by decide +kernel)
theorem k_782 : Cond.methodLink RX8 40 yJ7_fill_53178 ∈ tb := tb_in (List.mem_of_getElem? (i := 782) (by decide +kernel)) (by decide +kernel)
theorem k_783 : Cond.constant RX9 160 (2147483647) ∈ tb := tb_in (List.mem_of_getElem? (i := 783) (by decide +kernel)) (by decide +kernel)
theorem k_784 : Cond.methodLink RX9 161 yX8_run ∈ tb := tb_in (List.mem_of_getElem? (i := 784) (by decide +kernel)) (by decide +kernel)
theorem k_785 : Cond.instanceMethod yX8_run ∈ tb := tb_in (List.mem_of_getElem? (i := 785) (by decide +kernel)) (by decide +kernel)
theorem k_786 : Cond.selects RX8 yX8_run yX8_run ∈ tb := tb_in (List.mem_of_getElem? (i := 786) (by decide +kernel)) (by decide +kernel)
theorem k_787 : Cond.code yX8_run cX8_run 4 (some .int) ∈ tb := tb_in (List.mem_of_getElem? (i := 787) (by decide +kernel)) (by decide +kernel)
theorem k_788 : Cond.methodLink RX8 74 yX8_goThroughDay ∈ tb := tb_in (List.mem_of_getElem? (i := 788) (by decide +kernel)) (by decide +kernel)
theorem k_790 : Cond.instanceMethod yX8_goThroughDay ∈ tb := tb_in (List.mem_of_getElem? (i := 790) (by decide +kernel)) (by decide +kernel)
theorem k_791 : Cond.code yX8_goThroughDay cX8_goThroughDay 6 (some .int) ∈ tb := tb_in (List.mem_of_getElem? (i := 791) (by decide +kernel)) (by decide +kernel)
theorem k_792 : Cond.constant RX8 84 (65536) ∈ tb := tb_in (List.mem_of_getElem? (i := 792) (by decide +kernel)) (by decide +kernel)
theorem k_793 : Cond.methodLink RX8 90 yX4_awayBits ∈ tb := tb_in (List.mem_of_getElem? (i := 793) (by decide +kernel)) (by decide +kernel)
theorem k_794 : Cond.instanceMethod yX4_awayBits ∈ tb := tb_in (List.mem_of_getElem? (i := 794) (by decide +kernel)) (by decide +kernel)
theorem k_795 : Cond.selects RX4 yX4_awayBits yX4_awayBits ∈ tb := tb_in (List.mem_of_getElem? (i := 795) (by decide +kernel)) (by decide +kernel)
theorem k_796 : Cond.code yX4_awayBits cX4_awayBits 3 (some .int) ∈ tb := tb_in (List.mem_of_getElem? (i := 796) (by decide +kernel)) (by decide +kernel)
theorem k_797 : Cond.methodLink RX4 51 yX4_isAway ∈ tb := tb_in (List.mem_of_getElem? (i := 797) (by decide +kernel)) (by decide +kernel)
theorem k_798 : Cond.instanceMethod yX4_isAway ∈ tb := tb_in (List.mem_of_getElem? (i := 798) (by decide +kernel)) (by decide +kernel)
theorem k_799 : Cond.selects RX4 yX4_isAway yX4_isAway ∈ tb := tb_in (List.mem_of_getElem? (i := 799) (by decide +kernel)) (by decide +kernel)
theorem k_800 : Cond.code yX4_isAway cX4_isAway 2 (some .boolean) ∈ tb := tb_in (List.mem_of_getElem? (i := 800) (by decide +kernel)) (by decide +kernel)
theorem k_801 : Cond.methodLink RX8 93 yJ6_bitCount_0f7a4 ∈ tb := tb_in (List.mem_of_getElem? (i := 801) (by decide +kernel)) (by decide +kernel)
theorem k_802 : Cond.methodLink RX8 99 yX1_setDay ∈ tb := tb_in (List.mem_of_getElem? (i := 802) (by decide +kernel)) (by decide +kernel)
theorem k_803 : Cond.instanceMethod yX1_setDay ∈ tb := tb_in (List.mem_of_getElem? (i := 803) (by decide +kernel)) (by decide +kernel)
theorem k_804 : Cond.selects RX1 yX1_setDay yX1_setDay ∈ tb := tb_in (List.mem_of_getElem? (i := 804) (by decide +kernel)) (by decide +kernel)
theorem k_805 : Cond.code yX1_setDay cX1_setDay 4 none ∈ tb := tb_in (List.mem_of_getElem? (i := 805) (by decide +kernel)) (by decide +kernel)
theorem n_806 : Cond.methodLinkNest RX8 108 yX9_isIn RX9 ∈ lw_tbl := List.mem_of_getElem? (i := 806) (by decide +kernel)
theorem k_849 : Cond.methodLink RX9 168 yX4_copy ∈ tb := tb_in (List.mem_of_getElem? (i := 849) (by decide +kernel)) (by decide +kernel)
theorem k_854 : Cond.methodLink RX9 170 yX7_hasChore ∈ tb := tb_in (List.mem_of_getElem? (i := 854) (by decide +kernel)) (by decide +kernel)
theorem k_855 : Cond.instanceMethod yX7_hasChore ∈ tb := tb_in (List.mem_of_getElem? (i := 855) (by decide +kernel)) (by decide +kernel)
theorem k_856 : Cond.selects RX7 yX7_hasChore yX7_hasChore ∈ tb := tb_in (List.mem_of_getElem? (i := 856) (by decide +kernel)) (by decide +kernel)
theorem k_857 : Cond.code yX7_hasChore cX7_hasChore 2 (some .boolean) ∈ tb := tb_in (List.mem_of_getElem? (i := 857) (by decide +kernel)) (by decide +kernel)
theorem n_858 : Cond.methodLinkNest RX7 28 yX9_isIn RX9 ∈ lw_tbl := List.mem_of_getElem? (i := 858) (by decide +kernel)
theorem k_859 : Cond.methodLink RX9 173 yX7_hasPerson ∈ tb := tb_in (List.mem_of_getElem? (i := 859) (by decide +kernel)) (by decide +kernel)
theorem k_860 : Cond.instanceMethod yX7_hasPerson ∈ tb := tb_in (List.mem_of_getElem? (i := 860) (by decide +kernel)) (by decide +kernel)
theorem k_861 : Cond.selects RX7 yX7_hasPerson yX7_hasPerson ∈ tb := tb_in (List.mem_of_getElem? (i := 861) (by decide +kernel)) (by decide +kernel)
theorem k_862 : Cond.code yX7_hasPerson cX7_hasPerson 2 (some .boolean) ∈ tb := tb_in (List.mem_of_getElem? (i := 862) (by decide +kernel)) (by decide +kernel)
theorem k_863 : Cond.methodLink RX9 179 yX4_allUndone ∈ tb := tb_in (List.mem_of_getElem? (i := 863) (by decide +kernel)) (by decide +kernel)
theorem k_864 : Cond.instanceMethod yX4_allUndone ∈ tb := tb_in (List.mem_of_getElem? (i := 864) (by decide +kernel)) (by decide +kernel)
theorem k_865 : Cond.selects RX4 yX4_allUndone yX4_allUndone ∈ tb := tb_in (List.mem_of_getElem? (i := 865) (by decide +kernel)) (by decide +kernel)
theorem k_866 : Cond.code yX4_allUndone cX4_allUndone 3 (some .int) ∈ tb := tb_in (List.mem_of_getElem? (i := 866) (by decide +kernel)) (by decide +kernel)
theorem k_867 : Cond.methodLink RX9 182 yX8_allDone ∈ tb := tb_in (List.mem_of_getElem? (i := 867) (by decide +kernel)) (by decide +kernel)
theorem k_868 : Cond.instanceMethod yX8_allDone ∈ tb := tb_in (List.mem_of_getElem? (i := 868) (by decide +kernel)) (by decide +kernel)
theorem k_869 : Cond.selects RX8 yX8_allDone yX8_allDone ∈ tb := tb_in (List.mem_of_getElem? (i := 869) (by decide +kernel)) (by decide +kernel)
theorem k_870 : Cond.code yX8_allDone cX8_allDone 3 (some .int) ∈ tb := tb_in (List.mem_of_getElem? (i := 870) (by decide +kernel)) (by decide +kernel)
theorem k_888 : Cond.methodLink RX9 215 yX4_awayBits ∈ tb := tb_in (List.mem_of_getElem? (i := 888) (by decide +kernel)) (by decide +kernel)
theorem k_893 : Cond.methodLink RX9 221 yX9_areTold ∈ tb := tb_in (List.mem_of_getElem? (i := 893) (by decide +kernel)) (by decide +kernel)
theorem k_895 : Cond.instanceMethod yX9_areTold ∈ tb := tb_in (List.mem_of_getElem? (i := 895) (by decide +kernel)) (by decide +kernel)
theorem k_896 : Cond.code yX9_areTold cX9_areTold 2 (some .boolean) ∈ tb := tb_in (List.mem_of_getElem? (i := 896) (by decide +kernel)) (by decide +kernel)
theorem k_897 : Cond.methodLink RX9 224 yX9_costIf ∈ tb := tb_in (List.mem_of_getElem? (i := 897) (by decide +kernel)) (by decide +kernel)
theorem k_899 : Cond.instanceMethod yX9_costIf ∈ tb := tb_in (List.mem_of_getElem? (i := 899) (by decide +kernel)) (by decide +kernel)
theorem k_900 : Cond.code yX9_costIf cX9_costIf 6 (some .int) ∈ tb := tb_in (List.mem_of_getElem? (i := 900) (by decide +kernel)) (by decide +kernel)
theorem k_901 : Cond.methodLink RX9 303 yX8_setIdle ∈ tb := tb_in (List.mem_of_getElem? (i := 901) (by decide +kernel)) (by decide +kernel)
theorem k_902 : Cond.instanceMethod yX8_setIdle ∈ tb := tb_in (List.mem_of_getElem? (i := 902) (by decide +kernel)) (by decide +kernel)
theorem k_903 : Cond.selects RX8 yX8_setIdle yX8_setIdle ∈ tb := tb_in (List.mem_of_getElem? (i := 903) (by decide +kernel)) (by decide +kernel)
theorem k_904 : Cond.code yX8_setIdle cX8_setIdle 4 none ∈ tb := tb_in (List.mem_of_getElem? (i := 904) (by decide +kernel)) (by decide +kernel)
theorem k_905 : Cond.methodLink RX9 307 yX8_setFront ∈ tb := tb_in (List.mem_of_getElem? (i := 905) (by decide +kernel)) (by decide +kernel)
theorem k_906 : Cond.instanceMethod yX8_setFront ∈ tb := tb_in (List.mem_of_getElem? (i := 906) (by decide +kernel)) (by decide +kernel)
theorem k_907 : Cond.selects RX8 yX8_setFront yX8_setFront ∈ tb := tb_in (List.mem_of_getElem? (i := 907) (by decide +kernel)) (by decide +kernel)
theorem k_908 : Cond.code yX8_setFront cX8_setFront 3 none ∈ tb := tb_in (List.mem_of_getElem? (i := 908) (by decide +kernel)) (by decide +kernel)
theorem k_913 : Cond.methodLink RX9 228 yX9_canLeave ∈ tb := tb_in (List.mem_of_getElem? (i := 913) (by decide +kernel)) (by decide +kernel)
theorem k_915 : Cond.instanceMethod yX9_canLeave ∈ tb := tb_in (List.mem_of_getElem? (i := 915) (by decide +kernel)) (by decide +kernel)
theorem k_916 : Cond.code yX9_canLeave cX9_canLeave 2 (some .boolean) ∈ tb := tb_in (List.mem_of_getElem? (i := 916) (by decide +kernel)) (by decide +kernel)
theorem k_918 : Cond.constant RX9 231 (-1000000000) ∈ tb := tb_in (List.mem_of_getElem? (i := 918) (by decide +kernel)) (by decide +kernel)
theorem k_927 : Cond.methodLink RX9 232 yX9_isIn ∈ tb := tb_in (List.mem_of_getElem? (i := 927) (by decide +kernel)) (by decide +kernel)
theorem k_976 : Cond.methodLink RX9 266 yX9_runAway ∈ tb := tb_in (List.mem_of_getElem? (i := 976) (by decide +kernel)) (by decide +kernel)
theorem k_978 : Cond.instanceMethod yX9_runAway ∈ tb := tb_in (List.mem_of_getElem? (i := 978) (by decide +kernel)) (by decide +kernel)
theorem k_979 : Cond.code yX9_runAway cX9_runAway 5 (some .int) ∈ tb := tb_in (List.mem_of_getElem? (i := 979) (by decide +kernel)) (by decide +kernel)
theorem k_980 : Cond.methodLink RX9 270 yX9_firstOther ∈ tb := tb_in (List.mem_of_getElem? (i := 980) (by decide +kernel)) (by decide +kernel)
theorem k_982 : Cond.instanceMethod yX9_firstOther ∈ tb := tb_in (List.mem_of_getElem? (i := 982) (by decide +kernel)) (by decide +kernel)
theorem k_983 : Cond.code yX9_firstOther cX9_firstOther 4 (some .int) ∈ tb := tb_in (List.mem_of_getElem? (i := 983) (by decide +kernel)) (by decide +kernel)
theorem k_992 : Cond.constant RX9 274 (999999) ∈ tb := tb_in (List.mem_of_getElem? (i := 992) (by decide +kernel)) (by decide +kernel)
theorem k_1016 : Cond.methodLink RX9 281 yX9_allIsDoneIfStay ∈ tb := tb_in (List.mem_of_getElem? (i := 1016) (by decide +kernel)) (by decide +kernel)
theorem k_1018 : Cond.instanceMethod yX9_allIsDoneIfStay ∈ tb := tb_in (List.mem_of_getElem? (i := 1018) (by decide +kernel)) (by decide +kernel)
theorem k_1019 : Cond.code yX9_allIsDoneIfStay cX9_allIsDoneIfStay 3 (some .boolean) ∈ tb := tb_in (List.mem_of_getElem? (i := 1019) (by decide +kernel)) (by decide +kernel)
theorem k_1020 : Cond.methodLink RX9 323 yX8_staysClear ∈ tb := tb_in (List.mem_of_getElem? (i := 1020) (by decide +kernel)) (by decide +kernel)
theorem k_1021 : Cond.instanceMethod yX8_staysClear ∈ tb := tb_in (List.mem_of_getElem? (i := 1021) (by decide +kernel)) (by decide +kernel)
theorem k_1022 : Cond.selects RX8 yX8_staysClear yX8_staysClear ∈ tb := tb_in (List.mem_of_getElem? (i := 1022) (by decide +kernel)) (by decide +kernel)
theorem k_1023 : Cond.code yX8_staysClear cX8_staysClear 4 (some .boolean) ∈ tb := tb_in (List.mem_of_getElem? (i := 1023) (by decide +kernel)) (by decide +kernel)
theorem k_1068 : Cond.fieldLink RX10 7 "MissedTownModel" "now" "[I" ∈ tb := tb_in (List.mem_of_getElem? (i := 1068) (by decide +kernel)) (by decide +kernel)
theorem k_1069 : Cond.fieldLink RX10 13 "MissedTownModel" "aside" "[I" ∈ tb := tb_in (List.mem_of_getElem? (i := 1069) (by decide +kernel)) (by decide +kernel)
theorem k_1074 : Cond.fieldLink RX10 28 "MissedTownModel" "leaveFrom" "[I" ∈ tb := tb_in (List.mem_of_getElem? (i := 1074) (by decide +kernel)) (by decide +kernel)
theorem k_1079 : Cond.fieldLink RX10 146 "MissedTownModel" "people" "I" ∈ tb := tb_in (List.mem_of_getElem? (i := 1079) (by decide +kernel)) (by decide +kernel)
theorem k_1080 : Cond.fieldLink RX10 154 "MissedTownModel" "chores" "I" ∈ tb := tb_in (List.mem_of_getElem? (i := 1080) (by decide +kernel)) (by decide +kernel)
theorem k_1081 : Cond.fieldLink RX10 161 "MissedTownModel" "rain0" "I" ∈ tb := tb_in (List.mem_of_getElem? (i := 1081) (by decide +kernel)) (by decide +kernel)
theorem k_1105 : Cond.fieldLink RX10 83 "MissedTownModel" "facts" "[I" ∈ tb := tb_in (List.mem_of_getElem? (i := 1105) (by decide +kernel)) (by decide +kernel)
theorem k_1112 : Cond.fieldLink RX10 101 "MissedTownModel" "goFrom" "[I" ∈ tb := tb_in (List.mem_of_getElem? (i := 1112) (by decide +kernel)) (by decide +kernel)
theorem k_1113 : Cond.fieldLink RX10 104 "MissedTownModel" "goTo" "[I" ∈ tb := tb_in (List.mem_of_getElem? (i := 1113) (by decide +kernel)) (by decide +kernel)
theorem k_1114 : Cond.fieldLink RX10 107 "MissedTownModel" "idleFrom" "[I" ∈ tb := tb_in (List.mem_of_getElem? (i := 1114) (by decide +kernel)) (by decide +kernel)
theorem k_1115 : Cond.fieldLink RX10 110 "MissedTownModel" "idleTo" "[I" ∈ tb := tb_in (List.mem_of_getElem? (i := 1115) (by decide +kernel)) (by decide +kernel)
theorem k_1116 : Cond.fieldLink RX10 113 "MissedTownModel" "moreOf" "[I" ∈ tb := tb_in (List.mem_of_getElem? (i := 1116) (by decide +kernel)) (by decide +kernel)
theorem k_1117 : Cond.fieldLink RX10 116 "MissedTownModel" "firstOf" "[I" ∈ tb := tb_in (List.mem_of_getElem? (i := 1117) (by decide +kernel)) (by decide +kernel)
theorem k_1118 : Cond.fieldLink RX10 119 "MissedTownModel" "leftOf" "[I" ∈ tb := tb_in (List.mem_of_getElem? (i := 1118) (by decide +kernel)) (by decide +kernel)
theorem k_1119 : Cond.fieldLink RX10 122 "MissedTownModel" "didOf" "[I" ∈ tb := tb_in (List.mem_of_getElem? (i := 1119) (by decide +kernel)) (by decide +kernel)
theorem k_1120 : Cond.fieldLink RX10 335 "MissedTownModel" "rains" "I" ∈ tb := tb_in (List.mem_of_getElem? (i := 1120) (by decide +kernel)) (by decide +kernel)
theorem k_1121 : Cond.fieldLink RX10 322 "MissedTownModel" "doneUnits" "I" ∈ tb := tb_in (List.mem_of_getElem? (i := 1121) (by decide +kernel)) (by decide +kernel)
theorem k_1122 : Cond.fieldLink RX10 347 "MissedTownModel" "cleanDays" "I" ∈ tb := tb_in (List.mem_of_getElem? (i := 1122) (by decide +kernel)) (by decide +kernel)
theorem k_1123 : Cond.fieldLink RX10 353 "MissedTownModel" "goneDays" "I" ∈ tb := tb_in (List.mem_of_getElem? (i := 1123) (by decide +kernel)) (by decide +kernel)
theorem k_1268 : Cond.methodLink RX10 157 yX10_in ∈ tb := tb_in (List.mem_of_getElem? (i := 1268) (by decide +kernel)) (by decide +kernel)
theorem k_1269 : Cond.static yX10_in ∈ tb := tb_in (List.mem_of_getElem? (i := 1269) (by decide +kernel)) (by decide +kernel)
theorem k_1270 : Cond.code yX10_in cX10_in 3 (some .boolean) ∈ tb := tb_in (List.mem_of_getElem? (i := 1270) (by decide +kernel)) (by decide +kernel)
theorem k_1385 : Cond.methodLink RX10 150 yX10_has ∈ tb := tb_in (List.mem_of_getElem? (i := 1385) (by decide +kernel)) (by decide +kernel)
theorem k_1386 : Cond.static yX10_has ∈ tb := tb_in (List.mem_of_getElem? (i := 1386) (by decide +kernel)) (by decide +kernel)
theorem k_1387 : Cond.code yX10_has cX10_has 2 (some .boolean) ∈ tb := tb_in (List.mem_of_getElem? (i := 1387) (by decide +kernel)) (by decide +kernel)
theorem k_1408 : Cond.methodLink RX10 291 yX10_hasLeave ∈ tb := tb_in (List.mem_of_getElem? (i := 1408) (by decide +kernel)) (by decide +kernel)
theorem k_1410 : Cond.instanceMethod yX10_hasLeave ∈ tb := tb_in (List.mem_of_getElem? (i := 1410) (by decide +kernel)) (by decide +kernel)
theorem k_1411 : Cond.code yX10_hasLeave cX10_hasLeave 2 (some .boolean) ∈ tb := tb_in (List.mem_of_getElem? (i := 1411) (by decide +kernel)) (by decide +kernel)
theorem k_1412 : Cond.methodLink RX10 297 yX10_bits ∈ tb := tb_in (List.mem_of_getElem? (i := 1412) (by decide +kernel)) (by decide +kernel)
theorem k_1413 : Cond.static yX10_bits ∈ tb := tb_in (List.mem_of_getElem? (i := 1413) (by decide +kernel)) (by decide +kernel)
theorem k_1414 : Cond.code yX10_bits cX10_bits 3 (some .int) ∈ tb := tb_in (List.mem_of_getElem? (i := 1414) (by decide +kernel)) (by decide +kernel)
theorem k_1426 : Cond.methodLink RX10 300 yX10_laysNobody ∈ tb := tb_in (List.mem_of_getElem? (i := 1426) (by decide +kernel)) (by decide +kernel)
theorem k_1428 : Cond.instanceMethod yX10_laysNobody ∈ tb := tb_in (List.mem_of_getElem? (i := 1428) (by decide +kernel)) (by decide +kernel)
theorem k_1429 : Cond.code yX10_laysNobody cX10_laysNobody 2 none ∈ tb := tb_in (List.mem_of_getElem? (i := 1429) (by decide +kernel)) (by decide +kernel)
theorem k_1434 : Cond.methodLink RX10 363 yX10_daysGo ∈ tb := tb_in (List.mem_of_getElem? (i := 1434) (by decide +kernel)) (by decide +kernel)
theorem k_1436 : Cond.instanceMethod yX10_daysGo ∈ tb := tb_in (List.mem_of_getElem? (i := 1436) (by decide +kernel)) (by decide +kernel)
theorem k_1437 : Cond.code yX10_daysGo cX10_daysGo 3 none ∈ tb := tb_in (List.mem_of_getElem? (i := 1437) (by decide +kernel)) (by decide +kernel)
theorem k_1438 : Cond.methodLink RX10 356 yX10_dayGoes ∈ tb := tb_in (List.mem_of_getElem? (i := 1438) (by decide +kernel)) (by decide +kernel)
theorem k_1440 : Cond.instanceMethod yX10_dayGoes ∈ tb := tb_in (List.mem_of_getElem? (i := 1440) (by decide +kernel)) (by decide +kernel)
theorem k_1441 : Cond.code yX10_dayGoes cX10_dayGoes 3 none ∈ tb := tb_in (List.mem_of_getElem? (i := 1441) (by decide +kernel)) (by decide +kernel)
theorem k_1442 : Cond.constant RX10 334 (65536) ∈ tb := tb_in (List.mem_of_getElem? (i := 1442) (by decide +kernel)) (by decide +kernel)
theorem k_1443 : Cond.methodLink RX10 338 yX10_feels ∈ tb := tb_in (List.mem_of_getElem? (i := 1443) (by decide +kernel)) (by decide +kernel)
theorem k_1445 : Cond.instanceMethod yX10_feels ∈ tb := tb_in (List.mem_of_getElem? (i := 1445) (by decide +kernel)) (by decide +kernel)
theorem k_1446 : Cond.code yX10_feels cX10_feels 3 none ∈ tb := tb_in (List.mem_of_getElem? (i := 1446) (by decide +kernel)) (by decide +kernel)
theorem k_1447 : Cond.methodLink RX10 313 yX10_awayOn ∈ tb := tb_in (List.mem_of_getElem? (i := 1447) (by decide +kernel)) (by decide +kernel)
theorem k_1449 : Cond.instanceMethod yX10_awayOn ∈ tb := tb_in (List.mem_of_getElem? (i := 1449) (by decide +kernel)) (by decide +kernel)
theorem k_1450 : Cond.code yX10_awayOn cX10_awayOn 4 (some .int) ∈ tb := tb_in (List.mem_of_getElem? (i := 1450) (by decide +kernel)) (by decide +kernel)
theorem k_1451 : Cond.methodLink RX10 307 yX10_isPerson ∈ tb := tb_in (List.mem_of_getElem? (i := 1451) (by decide +kernel)) (by decide +kernel)
theorem k_1453 : Cond.instanceMethod yX10_isPerson ∈ tb := tb_in (List.mem_of_getElem? (i := 1453) (by decide +kernel)) (by decide +kernel)
theorem k_1454 : Cond.code yX10_isPerson cX10_isPerson 2 (some .boolean) ∈ tb := tb_in (List.mem_of_getElem? (i := 1454) (by decide +kernel)) (by decide +kernel)
theorem k_1459 : Cond.methodLink RX10 341 yX10_unitsOf ∈ tb := tb_in (List.mem_of_getElem? (i := 1459) (by decide +kernel)) (by decide +kernel)
theorem k_1461 : Cond.instanceMethod yX10_unitsOf ∈ tb := tb_in (List.mem_of_getElem? (i := 1461) (by decide +kernel)) (by decide +kernel)
theorem k_1462 : Cond.code yX10_unitsOf cX10_unitsOf 2 (some .int) ∈ tb := tb_in (List.mem_of_getElem? (i := 1462) (by decide +kernel)) (by decide +kernel)
theorem k_1474 : Cond.methodLink RX10 331 yX10_isChore ∈ tb := tb_in (List.mem_of_getElem? (i := 1474) (by decide +kernel)) (by decide +kernel)
theorem k_1476 : Cond.instanceMethod yX10_isChore ∈ tb := tb_in (List.mem_of_getElem? (i := 1476) (by decide +kernel)) (by decide +kernel)
theorem k_1477 : Cond.code yX10_isChore cX10_isChore 2 (some .boolean) ∈ tb := tb_in (List.mem_of_getElem? (i := 1477) (by decide +kernel)) (by decide +kernel)
theorem k_1493 : Cond.methodLink RX10 350 yX10_undoneAll ∈ tb := tb_in (List.mem_of_getElem? (i := 1493) (by decide +kernel)) (by decide +kernel)
theorem k_1495 : Cond.instanceMethod yX10_undoneAll ∈ tb := tb_in (List.mem_of_getElem? (i := 1495) (by decide +kernel)) (by decide +kernel)
theorem k_1496 : Cond.code yX10_undoneAll cX10_undoneAll 3 (some .int) ∈ tb := tb_in (List.mem_of_getElem? (i := 1496) (by decide +kernel)) (by decide +kernel)
theorem k_1501 : Cond.methodLink RX10 359 yX10_copies ∈ tb := tb_in (List.mem_of_getElem? (i := 1501) (by decide +kernel)) (by decide +kernel)
theorem k_1502 : Cond.static yX10_copies ∈ tb := tb_in (List.mem_of_getElem? (i := 1502) (by decide +kernel)) (by decide +kernel)
theorem k_1503 : Cond.code yX10_copies cX10_copies 4 none ∈ tb := tb_in (List.mem_of_getElem? (i := 1503) (by decide +kernel)) (by decide +kernel)
end
section
theorem dJ6_bitCount_0f7a4_0 : decode cJ6_bitCount_0f7a4 0 = .ok (.iload_n 0, 1) := by decide +kernel
theorem dJ6_bitCount_0f7a4_1 : decode cJ6_bitCount_0f7a4 1 = .ok (.iload_n 0, 1) := by decide +kernel
theorem dJ6_bitCount_0f7a4_2 : decode cJ6_bitCount_0f7a4 2 = .ok (.iconst 1, 1) := by decide +kernel
theorem dJ6_bitCount_0f7a4_3 : decode cJ6_bitCount_0f7a4 3 = .ok (.iushr, 1) := by decide +kernel
theorem dJ6_bitCount_0f7a4_4 : decode cJ6_bitCount_0f7a4 4 = .ok (.ldc_w 265, 3) := by decide +kernel
theorem dJ6_bitCount_0f7a4_7 : decode cJ6_bitCount_0f7a4 7 = .ok (.iand, 1) := by decide +kernel
theorem dJ6_bitCount_0f7a4_8 : decode cJ6_bitCount_0f7a4 8 = .ok (.isub, 1) := by decide +kernel
theorem dJ6_bitCount_0f7a4_9 : decode cJ6_bitCount_0f7a4 9 = .ok (.istore_n 0, 1) := by decide +kernel
theorem dJ6_bitCount_0f7a4_10 : decode cJ6_bitCount_0f7a4 10 = .ok (.iload_n 0, 1) := by decide +kernel
theorem dJ6_bitCount_0f7a4_11 : decode cJ6_bitCount_0f7a4 11 = .ok (.ldc_w 266, 3) := by decide +kernel
theorem dJ6_bitCount_0f7a4_14 : decode cJ6_bitCount_0f7a4 14 = .ok (.iand, 1) := by decide +kernel
theorem dJ6_bitCount_0f7a4_15 : decode cJ6_bitCount_0f7a4 15 = .ok (.iload_n 0, 1) := by decide +kernel
theorem dJ6_bitCount_0f7a4_16 : decode cJ6_bitCount_0f7a4 16 = .ok (.iconst 2, 1) := by decide +kernel
theorem dJ6_bitCount_0f7a4_17 : decode cJ6_bitCount_0f7a4 17 = .ok (.iushr, 1) := by decide +kernel
theorem dJ6_bitCount_0f7a4_18 : decode cJ6_bitCount_0f7a4 18 = .ok (.ldc_w 266, 3) := by decide +kernel
theorem dJ6_bitCount_0f7a4_21 : decode cJ6_bitCount_0f7a4 21 = .ok (.iand, 1) := by decide +kernel
theorem dJ6_bitCount_0f7a4_22 : decode cJ6_bitCount_0f7a4 22 = .ok (.iadd, 1) := by decide +kernel
theorem dJ6_bitCount_0f7a4_23 : decode cJ6_bitCount_0f7a4 23 = .ok (.istore_n 0, 1) := by decide +kernel
theorem dJ6_bitCount_0f7a4_24 : decode cJ6_bitCount_0f7a4 24 = .ok (.iload_n 0, 1) := by decide +kernel
theorem dJ6_bitCount_0f7a4_25 : decode cJ6_bitCount_0f7a4 25 = .ok (.iload_n 0, 1) := by decide +kernel
theorem dJ6_bitCount_0f7a4_26 : decode cJ6_bitCount_0f7a4 26 = .ok (.iconst 4, 1) := by decide +kernel
theorem dJ6_bitCount_0f7a4_27 : decode cJ6_bitCount_0f7a4 27 = .ok (.iushr, 1) := by decide +kernel
theorem dJ6_bitCount_0f7a4_28 : decode cJ6_bitCount_0f7a4 28 = .ok (.iadd, 1) := by decide +kernel
theorem dJ6_bitCount_0f7a4_29 : decode cJ6_bitCount_0f7a4 29 = .ok (.ldc_w 267, 3) := by decide +kernel
theorem dJ6_bitCount_0f7a4_32 : decode cJ6_bitCount_0f7a4 32 = .ok (.iand, 1) := by decide +kernel
theorem dJ6_bitCount_0f7a4_33 : decode cJ6_bitCount_0f7a4 33 = .ok (.istore_n 0, 1) := by decide +kernel
theorem dJ6_bitCount_0f7a4_34 : decode cJ6_bitCount_0f7a4 34 = .ok (.iload_n 0, 1) := by decide +kernel
theorem dJ6_bitCount_0f7a4_35 : decode cJ6_bitCount_0f7a4 35 = .ok (.iload_n 0, 1) := by decide +kernel
theorem dJ6_bitCount_0f7a4_36 : decode cJ6_bitCount_0f7a4 36 = .ok (.bipush 8, 2) := by decide +kernel
theorem dJ6_bitCount_0f7a4_38 : decode cJ6_bitCount_0f7a4 38 = .ok (.iushr, 1) := by decide +kernel
theorem dJ6_bitCount_0f7a4_39 : decode cJ6_bitCount_0f7a4 39 = .ok (.iadd, 1) := by decide +kernel
theorem dJ6_bitCount_0f7a4_40 : decode cJ6_bitCount_0f7a4 40 = .ok (.istore_n 0, 1) := by decide +kernel
theorem dJ6_bitCount_0f7a4_41 : decode cJ6_bitCount_0f7a4 41 = .ok (.iload_n 0, 1) := by decide +kernel
theorem dJ6_bitCount_0f7a4_42 : decode cJ6_bitCount_0f7a4 42 = .ok (.iload_n 0, 1) := by decide +kernel
theorem dJ6_bitCount_0f7a4_43 : decode cJ6_bitCount_0f7a4 43 = .ok (.bipush 16, 2) := by decide +kernel
theorem dJ6_bitCount_0f7a4_45 : decode cJ6_bitCount_0f7a4 45 = .ok (.iushr, 1) := by decide +kernel
theorem dJ6_bitCount_0f7a4_46 : decode cJ6_bitCount_0f7a4 46 = .ok (.iadd, 1) := by decide +kernel
theorem dJ6_bitCount_0f7a4_47 : decode cJ6_bitCount_0f7a4 47 = .ok (.istore_n 0, 1) := by decide +kernel
theorem dJ6_bitCount_0f7a4_48 : decode cJ6_bitCount_0f7a4 48 = .ok (.iload_n 0, 1) := by decide +kernel
theorem dJ6_bitCount_0f7a4_49 : decode cJ6_bitCount_0f7a4 49 = .ok (.bipush 63, 2) := by decide +kernel
theorem dJ6_bitCount_0f7a4_51 : decode cJ6_bitCount_0f7a4 51 = .ok (.iand, 1) := by decide +kernel
theorem dJ6_bitCount_0f7a4_52 : decode cJ6_bitCount_0f7a4 52 = .ok (.ireturn, 1) := by decide +kernel
theorem dJ7_fill_53178_0 : decode cJ7_fill_53178 0 = .ok (.iconst 0, 1) := by decide +kernel
theorem dJ7_fill_53178_1 : decode cJ7_fill_53178 1 = .ok (.istore_n 2, 1) := by decide +kernel
theorem dJ7_fill_53178_2 : decode cJ7_fill_53178 2 = .ok (.aload_n 0, 1) := by decide +kernel
theorem dJ7_fill_53178_3 : decode cJ7_fill_53178 3 = .ok (.arraylength, 1) := by decide +kernel
theorem dJ7_fill_53178_4 : decode cJ7_fill_53178 4 = .ok (.istore_n 3, 1) := by decide +kernel
theorem dJ7_fill_53178_5 : decode cJ7_fill_53178 5 = .ok (.iload_n 2, 1) := by decide +kernel
theorem dJ7_fill_53178_6 : decode cJ7_fill_53178 6 = .ok (.iload_n 3, 1) := by decide +kernel
theorem dJ7_fill_53178_7 : decode cJ7_fill_53178 7 = .ok (.if_icmp .ge 13, 3) := by decide +kernel
theorem dJ7_fill_53178_10 : decode cJ7_fill_53178 10 = .ok (.aload_n 0, 1) := by decide +kernel
theorem dJ7_fill_53178_11 : decode cJ7_fill_53178 11 = .ok (.iload_n 2, 1) := by decide +kernel
theorem dJ7_fill_53178_12 : decode cJ7_fill_53178 12 = .ok (.iload_n 1, 1) := by decide +kernel
theorem dJ7_fill_53178_13 : decode cJ7_fill_53178 13 = .ok (.iastore, 1) := by decide +kernel
theorem dJ7_fill_53178_14 : decode cJ7_fill_53178 14 = .ok (.iinc 2 1, 3) := by decide +kernel
theorem dJ7_fill_53178_17 : decode cJ7_fill_53178 17 = .ok (.goto (-12), 3) := by decide +kernel
theorem dJ7_fill_53178_20 : decode cJ7_fill_53178 20 = .ok (.return_, 1) := by decide +kernel
theorem dX10_areDays_0 : decode cX10_areDays 0 = .ok (.iload_n 0, 1) := by decide +kernel
theorem dX10_areDays_1 : decode cX10_areDays 1 = .ok (.iconst 1, 1) := by decide +kernel
theorem dX10_areDays_2 : decode cX10_areDays 2 = .ok (.bipush 60, 2) := by decide +kernel
theorem dX10_areDays_4 : decode cX10_areDays 4 = .ok (.invokestatic 157, 3) := by decide +kernel
theorem dX10_areDays_7 : decode cX10_areDays 7 = .ok (.ireturn, 1) := by decide +kernel
theorem dX10_awayOn_0 : decode cX10_awayOn 0 = .ok (.iconst 0, 1) := by decide +kernel
theorem dX10_awayOn_1 : decode cX10_awayOn 1 = .ok (.istore_n 2, 1) := by decide +kernel
theorem dX10_awayOn_2 : decode cX10_awayOn 2 = .ok (.iconst 0, 1) := by decide +kernel
theorem dX10_awayOn_3 : decode cX10_awayOn 3 = .ok (.istore_n 3, 1) := by decide +kernel
theorem dX10_awayOn_4 : decode cX10_awayOn 4 = .ok (.iload_n 3, 1) := by decide +kernel
theorem dX10_awayOn_5 : decode cX10_awayOn 5 = .ok (.bipush 10, 2) := by decide +kernel
theorem dX10_awayOn_7 : decode cX10_awayOn 7 = .ok (.if_icmp .ge 36, 3) := by decide +kernel
theorem dX10_awayOn_10 : decode cX10_awayOn 10 = .ok (.iload_n 2, 1) := by decide +kernel
theorem dX10_awayOn_11 : decode cX10_awayOn 11 = .ok (.aload_n 0, 1) := by decide +kernel
theorem dX10_awayOn_12 : decode cX10_awayOn 12 = .ok (.iload_n 3, 1) := by decide +kernel
theorem dX10_awayOn_13 : decode cX10_awayOn 13 = .ok (.invokevirtual 307, 3) := by decide +kernel
theorem dX10_awayOn_16 : decode cX10_awayOn 16 = .ok (.ifCond .eq 18, 3) := by decide +kernel
theorem dX10_awayOn_34 : decode cX10_awayOn 34 = .ok (.iconst 0, 1) := by decide +kernel
theorem dX10_awayOn_35 : decode cX10_awayOn 35 = .ok (.ior, 1) := by decide +kernel
theorem dX10_awayOn_36 : decode cX10_awayOn 36 = .ok (.istore_n 2, 1) := by decide +kernel
theorem dX10_awayOn_37 : decode cX10_awayOn 37 = .ok (.iinc 3 1, 3) := by decide +kernel
theorem dX10_awayOn_40 : decode cX10_awayOn 40 = .ok (.goto (-36), 3) := by decide +kernel
theorem dX10_awayOn_43 : decode cX10_awayOn 43 = .ok (.iload_n 2, 1) := by decide +kernel
theorem dX10_awayOn_44 : decode cX10_awayOn 44 = .ok (.ireturn, 1) := by decide +kernel
theorem dX10_bits_0 : decode cX10_bits 0 = .ok (.iconst 0, 1) := by decide +kernel
theorem dX10_bits_1 : decode cX10_bits 1 = .ok (.istore_n 1, 1) := by decide +kernel
theorem dX10_bits_2 : decode cX10_bits 2 = .ok (.iconst 0, 1) := by decide +kernel
theorem dX10_bits_3 : decode cX10_bits 3 = .ok (.istore_n 2, 1) := by decide +kernel
theorem dX10_bits_4 : decode cX10_bits 4 = .ok (.iload_n 2, 1) := by decide +kernel
theorem dX10_bits_5 : decode cX10_bits 5 = .ok (.bipush 12, 2) := by decide +kernel
theorem dX10_bits_7 : decode cX10_bits 7 = .ok (.if_icmp .ge 17, 3) := by decide +kernel
theorem dX10_bits_10 : decode cX10_bits 10 = .ok (.iload_n 1, 1) := by decide +kernel
theorem dX10_bits_11 : decode cX10_bits 11 = .ok (.iload_n 0, 1) := by decide +kernel
theorem dX10_bits_12 : decode cX10_bits 12 = .ok (.iload_n 2, 1) := by decide +kernel
theorem dX10_bits_13 : decode cX10_bits 13 = .ok (.ishr, 1) := by decide +kernel
theorem dX10_bits_14 : decode cX10_bits 14 = .ok (.iconst 1, 1) := by decide +kernel
theorem dX10_bits_15 : decode cX10_bits 15 = .ok (.iand, 1) := by decide +kernel
theorem dX10_bits_16 : decode cX10_bits 16 = .ok (.iadd, 1) := by decide +kernel
theorem dX10_bits_17 : decode cX10_bits 17 = .ok (.istore_n 1, 1) := by decide +kernel
theorem dX10_bits_18 : decode cX10_bits 18 = .ok (.iinc 2 1, 3) := by decide +kernel
theorem dX10_bits_21 : decode cX10_bits 21 = .ok (.goto (-17), 3) := by decide +kernel
theorem dX10_bits_24 : decode cX10_bits 24 = .ok (.iload_n 1, 1) := by decide +kernel
theorem dX10_bits_25 : decode cX10_bits 25 = .ok (.ireturn, 1) := by decide +kernel
theorem dX10_copies_0 : decode cX10_copies 0 = .ok (.iconst 0, 1) := by decide +kernel
theorem dX10_copies_1 : decode cX10_copies 1 = .ok (.istore_n 3, 1) := by decide +kernel
theorem dX10_copies_2 : decode cX10_copies 2 = .ok (.iload_n 3, 1) := by decide +kernel
theorem dX10_copies_3 : decode cX10_copies 3 = .ok (.iload_n 2, 1) := by decide +kernel
theorem dX10_copies_4 : decode cX10_copies 4 = .ok (.if_icmp .ge 15, 3) := by decide +kernel
theorem dX10_copies_7 : decode cX10_copies 7 = .ok (.aload_n 1, 1) := by decide +kernel
theorem dX10_copies_8 : decode cX10_copies 8 = .ok (.iload_n 3, 1) := by decide +kernel
theorem dX10_copies_9 : decode cX10_copies 9 = .ok (.aload_n 0, 1) := by decide +kernel
theorem dX10_copies_10 : decode cX10_copies 10 = .ok (.iload_n 3, 1) := by decide +kernel
theorem dX10_copies_11 : decode cX10_copies 11 = .ok (.iaload, 1) := by decide +kernel
theorem dX10_copies_12 : decode cX10_copies 12 = .ok (.iastore, 1) := by decide +kernel
theorem dX10_copies_13 : decode cX10_copies 13 = .ok (.iinc 3 1, 3) := by decide +kernel
theorem dX10_copies_16 : decode cX10_copies 16 = .ok (.goto (-14), 3) := by decide +kernel
theorem dX10_copies_19 : decode cX10_copies 19 = .ok (.return_, 1) := by decide +kernel
theorem dX10_dayGoes_0 : decode cX10_dayGoes 0 = .ok (.aload_n 0, 1) := by decide +kernel
theorem dX10_dayGoes_1 : decode cX10_dayGoes 1 = .ok (.getfield 7, 3) := by decide +kernel
theorem dX10_dayGoes_4 : decode cX10_dayGoes 4 = .ok (.bipush 14, 2) := by decide +kernel
theorem dX10_dayGoes_6 : decode cX10_dayGoes 6 = .ok (.sipush 25173, 3) := by decide +kernel
theorem dX10_dayGoes_9 : decode cX10_dayGoes 9 = .ok (.aload_n 0, 1) := by decide +kernel
theorem dX10_dayGoes_10 : decode cX10_dayGoes 10 = .ok (.getfield 7, 3) := by decide +kernel
theorem dX10_dayGoes_13 : decode cX10_dayGoes 13 = .ok (.bipush 14, 2) := by decide +kernel
theorem dX10_dayGoes_15 : decode cX10_dayGoes 15 = .ok (.iaload, 1) := by decide +kernel
theorem dX10_dayGoes_16 : decode cX10_dayGoes 16 = .ok (.imul, 1) := by decide +kernel
theorem dX10_dayGoes_17 : decode cX10_dayGoes 17 = .ok (.sipush 13849, 3) := by decide +kernel
theorem dX10_dayGoes_20 : decode cX10_dayGoes 20 = .ok (.iadd, 1) := by decide +kernel
theorem dX10_dayGoes_21 : decode cX10_dayGoes 21 = .ok (.ldc_w 334, 3) := by decide +kernel
theorem dX10_dayGoes_24 : decode cX10_dayGoes 24 = .ok (.irem, 1) := by decide +kernel
theorem dX10_dayGoes_25 : decode cX10_dayGoes 25 = .ok (.iastore, 1) := by decide +kernel
theorem dX10_dayGoes_26 : decode cX10_dayGoes 26 = .ok (.aload_n 0, 1) := by decide +kernel
theorem dX10_dayGoes_27 : decode cX10_dayGoes 27 = .ok (.getfield 7, 3) := by decide +kernel
theorem dX10_dayGoes_30 : decode cX10_dayGoes 30 = .ok (.bipush 14, 2) := by decide +kernel
theorem dX10_dayGoes_32 : decode cX10_dayGoes 32 = .ok (.iaload, 1) := by decide +kernel
theorem dX10_dayGoes_33 : decode cX10_dayGoes 33 = .ok (.bipush 10, 2) := by decide +kernel
theorem dX10_dayGoes_35 : decode cX10_dayGoes 35 = .ok (.irem, 1) := by decide +kernel
theorem dX10_dayGoes_36 : decode cX10_dayGoes 36 = .ok (.aload_n 0, 1) := by decide +kernel
theorem dX10_dayGoes_37 : decode cX10_dayGoes 37 = .ok (.getfield 161, 3) := by decide +kernel
theorem dX10_dayGoes_40 : decode cX10_dayGoes 40 = .ok (.if_icmp .ge 7, 3) := by decide +kernel
theorem dX10_dayGoes_47 : decode cX10_dayGoes 47 = .ok (.iconst 0, 1) := by decide +kernel
theorem dX10_dayGoes_48 : decode cX10_dayGoes 48 = .ok (.istore_n 1, 1) := by decide +kernel
theorem dX10_dayGoes_49 : decode cX10_dayGoes 49 = .ok (.aload_n 0, 1) := by decide +kernel
theorem dX10_dayGoes_50 : decode cX10_dayGoes 50 = .ok (.aload_n 0, 1) := by decide +kernel
theorem dX10_dayGoes_51 : decode cX10_dayGoes 51 = .ok (.getfield 335, 3) := by decide +kernel
theorem dX10_dayGoes_54 : decode cX10_dayGoes 54 = .ok (.iload_n 1, 1) := by decide +kernel
theorem dX10_dayGoes_55 : decode cX10_dayGoes 55 = .ok (.ifCond .eq 7, 3) := by decide +kernel
theorem dX10_dayGoes_62 : decode cX10_dayGoes 62 = .ok (.iconst 0, 1) := by decide +kernel
theorem dX10_dayGoes_63 : decode cX10_dayGoes 63 = .ok (.iadd, 1) := by decide +kernel
theorem dX10_dayGoes_64 : decode cX10_dayGoes 64 = .ok (.putfield 335, 3) := by decide +kernel
theorem dX10_dayGoes_67 : decode cX10_dayGoes 67 = .ok (.aload_n 0, 1) := by decide +kernel
theorem dX10_dayGoes_68 : decode cX10_dayGoes 68 = .ok (.iload_n 1, 1) := by decide +kernel
theorem dX10_dayGoes_69 : decode cX10_dayGoes 69 = .ok (.invokevirtual 338, 3) := by decide +kernel
theorem dX10_dayGoes_72 : decode cX10_dayGoes 72 = .ok (.iconst 0, 1) := by decide +kernel
theorem dX10_dayGoes_73 : decode cX10_dayGoes 73 = .ok (.istore_n 2, 1) := by decide +kernel
theorem dX10_dayGoes_74 : decode cX10_dayGoes 74 = .ok (.iload_n 2, 1) := by decide +kernel
theorem dX10_dayGoes_75 : decode cX10_dayGoes 75 = .ok (.bipush 10, 2) := by decide +kernel
theorem dX10_dayGoes_77 : decode cX10_dayGoes 77 = .ok (.if_icmp .ge 20, 3) := by decide +kernel
theorem dX10_dayGoes_80 : decode cX10_dayGoes 80 = .ok (.aload_n 0, 1) := by decide +kernel
theorem dX10_dayGoes_81 : decode cX10_dayGoes 81 = .ok (.getfield 119, 3) := by decide +kernel
theorem dX10_dayGoes_84 : decode cX10_dayGoes 84 = .ok (.iload_n 2, 1) := by decide +kernel
theorem dX10_dayGoes_85 : decode cX10_dayGoes 85 = .ok (.aload_n 0, 1) := by decide +kernel
theorem dX10_dayGoes_86 : decode cX10_dayGoes 86 = .ok (.iload_n 2, 1) := by decide +kernel
theorem dX10_dayGoes_87 : decode cX10_dayGoes 87 = .ok (.invokevirtual 341, 3) := by decide +kernel
theorem dX10_dayGoes_90 : decode cX10_dayGoes 90 = .ok (.iastore, 1) := by decide +kernel
theorem dX10_dayGoes_91 : decode cX10_dayGoes 91 = .ok (.iinc 2 1, 3) := by decide +kernel
theorem dX10_dayGoes_94 : decode cX10_dayGoes 94 = .ok (.goto (-20), 3) := by decide +kernel
theorem dX10_dayGoes_97 : decode cX10_dayGoes 97 = .ok (.iconst 0, 1) := by decide +kernel
theorem dX10_dayGoes_98 : decode cX10_dayGoes 98 = .ok (.istore_n 2, 1) := by decide +kernel
theorem dX10_dayGoes_99 : decode cX10_dayGoes 99 = .ok (.iload_n 2, 1) := by decide +kernel
theorem dX10_dayGoes_100 : decode cX10_dayGoes 100 = .ok (.bipush 12, 2) := by decide +kernel
theorem dX10_dayGoes_102 : decode cX10_dayGoes 102 = .ok (.if_icmp .ge 22, 3) := by decide +kernel
theorem dX10_dayGoes_105 : decode cX10_dayGoes 105 = .ok (.aload_n 0, 1) := by decide +kernel
theorem dX10_dayGoes_106 : decode cX10_dayGoes 106 = .ok (.iload_n 2, 1) := by decide +kernel
theorem dX10_dayGoes_107 : decode cX10_dayGoes 107 = .ok (.invokevirtual 331, 3) := by decide +kernel
theorem dX10_dayGoes_110 : decode cX10_dayGoes 110 = .ok (.ifCond .eq 8, 3) := by decide +kernel
theorem dX10_dayGoes_118 : decode cX10_dayGoes 118 = .ok (.iinc 2 1, 3) := by decide +kernel
theorem dX10_dayGoes_121 : decode cX10_dayGoes 121 = .ok (.goto (-22), 3) := by decide +kernel
theorem dX10_dayGoes_124 : decode cX10_dayGoes 124 = .ok (.aload_n 0, 1) := by decide +kernel
theorem dX10_dayGoes_125 : decode cX10_dayGoes 125 = .ok (.aload_n 0, 1) := by decide +kernel
theorem dX10_dayGoes_126 : decode cX10_dayGoes 126 = .ok (.getfield 347, 3) := by decide +kernel
theorem dX10_dayGoes_129 : decode cX10_dayGoes 129 = .ok (.aload_n 0, 1) := by decide +kernel
theorem dX10_dayGoes_130 : decode cX10_dayGoes 130 = .ok (.invokevirtual 350, 3) := by decide +kernel
theorem dX10_dayGoes_133 : decode cX10_dayGoes 133 = .ok (.ifCond .ne 7, 3) := by decide +kernel
theorem dX10_dayGoes_136 : decode cX10_dayGoes 136 = .ok (.iconst 1, 1) := by decide +kernel
theorem dX10_dayGoes_137 : decode cX10_dayGoes 137 = .ok (.goto 4, 3) := by decide +kernel
theorem dX10_dayGoes_141 : decode cX10_dayGoes 141 = .ok (.iadd, 1) := by decide +kernel
theorem dX10_dayGoes_142 : decode cX10_dayGoes 142 = .ok (.putfield 347, 3) := by decide +kernel
theorem dX10_dayGoes_145 : decode cX10_dayGoes 145 = .ok (.aload_n 0, 1) := by decide +kernel
theorem dX10_dayGoes_146 : decode cX10_dayGoes 146 = .ok (.getfield 7, 3) := by decide +kernel
theorem dX10_dayGoes_149 : decode cX10_dayGoes 149 = .ok (.bipush 13, 2) := by decide +kernel
theorem dX10_dayGoes_151 : decode cX10_dayGoes 151 = .ok (.aload_n 0, 1) := by decide +kernel
theorem dX10_dayGoes_152 : decode cX10_dayGoes 152 = .ok (.getfield 7, 3) := by decide +kernel
theorem dX10_dayGoes_155 : decode cX10_dayGoes 155 = .ok (.bipush 13, 2) := by decide +kernel
theorem dX10_dayGoes_157 : decode cX10_dayGoes 157 = .ok (.iaload, 1) := by decide +kernel
theorem dX10_dayGoes_158 : decode cX10_dayGoes 158 = .ok (.iconst 1, 1) := by decide +kernel
theorem dX10_dayGoes_159 : decode cX10_dayGoes 159 = .ok (.iadd, 1) := by decide +kernel
theorem dX10_dayGoes_160 : decode cX10_dayGoes 160 = .ok (.iastore, 1) := by decide +kernel
theorem dX10_dayGoes_161 : decode cX10_dayGoes 161 = .ok (.return_, 1) := by decide +kernel
theorem dX10_daysGo_0 : decode cX10_daysGo 0 = .ok (.aload_n 0, 1) := by decide +kernel
theorem dX10_daysGo_1 : decode cX10_daysGo 1 = .ok (.iconst 0, 1) := by decide +kernel
theorem dX10_daysGo_2 : decode cX10_daysGo 2 = .ok (.putfield 335, 3) := by decide +kernel
theorem dX10_daysGo_5 : decode cX10_daysGo 5 = .ok (.aload_n 0, 1) := by decide +kernel
theorem dX10_daysGo_6 : decode cX10_daysGo 6 = .ok (.iconst 0, 1) := by decide +kernel
theorem dX10_daysGo_7 : decode cX10_daysGo 7 = .ok (.putfield 322, 3) := by decide +kernel
theorem dX10_daysGo_10 : decode cX10_daysGo 10 = .ok (.aload_n 0, 1) := by decide +kernel
theorem dX10_daysGo_11 : decode cX10_daysGo 11 = .ok (.iconst 0, 1) := by decide +kernel
theorem dX10_daysGo_12 : decode cX10_daysGo 12 = .ok (.putfield 347, 3) := by decide +kernel
theorem dX10_daysGo_15 : decode cX10_daysGo 15 = .ok (.aload_n 0, 1) := by decide +kernel
theorem dX10_daysGo_16 : decode cX10_daysGo 16 = .ok (.iconst 0, 1) := by decide +kernel
theorem dX10_daysGo_17 : decode cX10_daysGo 17 = .ok (.putfield 353, 3) := by decide +kernel
theorem dX10_daysGo_20 : decode cX10_daysGo 20 = .ok (.iconst 0, 1) := by decide +kernel
theorem dX10_daysGo_21 : decode cX10_daysGo 21 = .ok (.istore_n 2, 1) := by decide +kernel
theorem dX10_daysGo_22 : decode cX10_daysGo 22 = .ok (.iload_n 2, 1) := by decide +kernel
theorem dX10_daysGo_23 : decode cX10_daysGo 23 = .ok (.bipush 10, 2) := by decide +kernel
theorem dX10_daysGo_25 : decode cX10_daysGo 25 = .ok (.if_icmp .ge 16, 3) := by decide +kernel
theorem dX10_daysGo_28 : decode cX10_daysGo 28 = .ok (.aload_n 0, 1) := by decide +kernel
theorem dX10_daysGo_29 : decode cX10_daysGo 29 = .ok (.getfield 122, 3) := by decide +kernel
theorem dX10_daysGo_32 : decode cX10_daysGo 32 = .ok (.iload_n 2, 1) := by decide +kernel
theorem dX10_daysGo_33 : decode cX10_daysGo 33 = .ok (.iconst 0, 1) := by decide +kernel
theorem dX10_daysGo_34 : decode cX10_daysGo 34 = .ok (.iastore, 1) := by decide +kernel
theorem dX10_daysGo_35 : decode cX10_daysGo 35 = .ok (.iinc 2 1, 3) := by decide +kernel
theorem dX10_daysGo_38 : decode cX10_daysGo 38 = .ok (.goto (-16), 3) := by decide +kernel
theorem dX10_daysGo_41 : decode cX10_daysGo 41 = .ok (.iconst 0, 1) := by decide +kernel
theorem dX10_daysGo_42 : decode cX10_daysGo 42 = .ok (.istore_n 2, 1) := by decide +kernel
theorem dX10_daysGo_43 : decode cX10_daysGo 43 = .ok (.iload_n 2, 1) := by decide +kernel
theorem dX10_daysGo_44 : decode cX10_daysGo 44 = .ok (.iload_n 1, 1) := by decide +kernel
theorem dX10_daysGo_45 : decode cX10_daysGo 45 = .ok (.if_icmp .ge 36, 3) := by decide +kernel
theorem dX10_daysGo_48 : decode cX10_daysGo 48 = .ok (.aload_n 0, 1) := by decide +kernel
theorem dX10_daysGo_49 : decode cX10_daysGo 49 = .ok (.getfield 7, 3) := by decide +kernel
theorem dX10_daysGo_52 : decode cX10_daysGo 52 = .ok (.bipush 13, 2) := by decide +kernel
theorem dX10_daysGo_54 : decode cX10_daysGo 54 = .ok (.iaload, 1) := by decide +kernel
theorem dX10_daysGo_55 : decode cX10_daysGo 55 = .ok (.sipush 9999, 3) := by decide +kernel
theorem dX10_daysGo_58 : decode cX10_daysGo 58 = .ok (.if_icmp .ge 23, 3) := by decide +kernel
theorem dX10_daysGo_61 : decode cX10_daysGo 61 = .ok (.aload_n 0, 1) := by decide +kernel
theorem dX10_daysGo_62 : decode cX10_daysGo 62 = .ok (.invokevirtual 356, 3) := by decide +kernel
theorem dX10_daysGo_65 : decode cX10_daysGo 65 = .ok (.aload_n 0, 1) := by decide +kernel
theorem dX10_daysGo_66 : decode cX10_daysGo 66 = .ok (.aload_n 0, 1) := by decide +kernel
theorem dX10_daysGo_67 : decode cX10_daysGo 67 = .ok (.getfield 353, 3) := by decide +kernel
theorem dX10_daysGo_70 : decode cX10_daysGo 70 = .ok (.iconst 1, 1) := by decide +kernel
theorem dX10_daysGo_71 : decode cX10_daysGo 71 = .ok (.iadd, 1) := by decide +kernel
theorem dX10_daysGo_72 : decode cX10_daysGo 72 = .ok (.putfield 353, 3) := by decide +kernel
theorem dX10_daysGo_75 : decode cX10_daysGo 75 = .ok (.iinc 2 1, 3) := by decide +kernel
theorem dX10_daysGo_78 : decode cX10_daysGo 78 = .ok (.goto (-35), 3) := by decide +kernel
theorem dX10_daysGo_81 : decode cX10_daysGo 81 = .ok (.return_, 1) := by decide +kernel
theorem dX10_feels_0 : decode cX10_feels 0 = .ok (.iconst 0, 1) := by decide +kernel
theorem dX10_feels_1 : decode cX10_feels 1 = .ok (.istore_n 2, 1) := by decide +kernel
theorem dX10_feels_2 : decode cX10_feels 2 = .ok (.iload_n 2, 1) := by decide +kernel
theorem dX10_feels_3 : decode cX10_feels 3 = .ok (.bipush 8, 2) := by decide +kernel
theorem dX10_feels_5 : decode cX10_feels 5 = .ok (.if_icmp .ge 16, 3) := by decide +kernel
theorem dX10_feels_8 : decode cX10_feels 8 = .ok (.aload_n 0, 1) := by decide +kernel
theorem dX10_feels_9 : decode cX10_feels 9 = .ok (.getfield 83, 3) := by decide +kernel
theorem dX10_feels_12 : decode cX10_feels 12 = .ok (.iload_n 2, 1) := by decide +kernel
theorem dX10_feels_13 : decode cX10_feels 13 = .ok (.iconst 0, 1) := by decide +kernel
theorem dX10_feels_14 : decode cX10_feels 14 = .ok (.iastore, 1) := by decide +kernel
theorem dX10_feels_15 : decode cX10_feels 15 = .ok (.iinc 2 1, 3) := by decide +kernel
theorem dX10_feels_18 : decode cX10_feels 18 = .ok (.goto (-16), 3) := by decide +kernel
theorem dX10_feels_21 : decode cX10_feels 21 = .ok (.aload_n 0, 1) := by decide +kernel
theorem dX10_feels_22 : decode cX10_feels 22 = .ok (.getfield 83, 3) := by decide +kernel
theorem dX10_feels_25 : decode cX10_feels 25 = .ok (.iconst 3, 1) := by decide +kernel
theorem dX10_feels_26 : decode cX10_feels 26 = .ok (.aload_n 0, 1) := by decide +kernel
theorem dX10_feels_27 : decode cX10_feels 27 = .ok (.getfield 7, 3) := by decide +kernel
theorem dX10_feels_30 : decode cX10_feels 30 = .ok (.bipush 13, 2) := by decide +kernel
theorem dX10_feels_32 : decode cX10_feels 32 = .ok (.iaload, 1) := by decide +kernel
theorem dX10_feels_33 : decode cX10_feels 33 = .ok (.iastore, 1) := by decide +kernel
theorem dX10_feels_34 : decode cX10_feels 34 = .ok (.aload_n 0, 1) := by decide +kernel
theorem dX10_feels_35 : decode cX10_feels 35 = .ok (.getfield 83, 3) := by decide +kernel
theorem dX10_feels_38 : decode cX10_feels 38 = .ok (.iconst 4, 1) := by decide +kernel
theorem dX10_feels_39 : decode cX10_feels 39 = .ok (.aload_n 0, 1) := by decide +kernel
theorem dX10_feels_40 : decode cX10_feels 40 = .ok (.getfield 7, 3) := by decide +kernel
theorem dX10_feels_43 : decode cX10_feels 43 = .ok (.bipush 13, 2) := by decide +kernel
theorem dX10_feels_45 : decode cX10_feels 45 = .ok (.iaload, 1) := by decide +kernel
theorem dX10_feels_46 : decode cX10_feels 46 = .ok (.bipush 7, 2) := by decide +kernel
theorem dX10_feels_48 : decode cX10_feels 48 = .ok (.irem, 1) := by decide +kernel
theorem dX10_feels_49 : decode cX10_feels 49 = .ok (.iastore, 1) := by decide +kernel
theorem dX10_feels_50 : decode cX10_feels 50 = .ok (.aload_n 0, 1) := by decide +kernel
theorem dX10_feels_51 : decode cX10_feels 51 = .ok (.getfield 83, 3) := by decide +kernel
theorem dX10_feels_54 : decode cX10_feels 54 = .ok (.iconst 5, 1) := by decide +kernel
theorem dX10_feels_55 : decode cX10_feels 55 = .ok (.iload_n 1, 1) := by decide +kernel
theorem dX10_feels_56 : decode cX10_feels 56 = .ok (.ifCond .eq 7, 3) := by decide +kernel
theorem dX10_feels_63 : decode cX10_feels 63 = .ok (.iconst 0, 1) := by decide +kernel
theorem dX10_feels_64 : decode cX10_feels 64 = .ok (.iastore, 1) := by decide +kernel
theorem dX10_feels_65 : decode cX10_feels 65 = .ok (.aload_n 0, 1) := by decide +kernel
theorem dX10_feels_66 : decode cX10_feels 66 = .ok (.getfield 83, 3) := by decide +kernel
theorem dX10_feels_69 : decode cX10_feels 69 = .ok (.bipush 6, 2) := by decide +kernel
theorem dX10_feels_71 : decode cX10_feels 71 = .ok (.aload_n 0, 1) := by decide +kernel
theorem dX10_feels_72 : decode cX10_feels 72 = .ok (.aload_n 0, 1) := by decide +kernel
theorem dX10_feels_73 : decode cX10_feels 73 = .ok (.getfield 7, 3) := by decide +kernel
theorem dX10_feels_76 : decode cX10_feels 76 = .ok (.bipush 13, 2) := by decide +kernel
theorem dX10_feels_78 : decode cX10_feels 78 = .ok (.iaload, 1) := by decide +kernel
theorem dX10_feels_79 : decode cX10_feels 79 = .ok (.invokevirtual 313, 3) := by decide +kernel
theorem dX10_feels_82 : decode cX10_feels 82 = .ok (.invokestatic 297, 3) := by decide +kernel
theorem dX10_feels_85 : decode cX10_feels 85 = .ok (.iastore, 1) := by decide +kernel
theorem dX10_feels_86 : decode cX10_feels 86 = .ok (.return_, 1) := by decide +kernel
theorem dX10_has_0 : decode cX10_has 0 = .ok (.iload_n 0, 1) := by decide +kernel
theorem dX10_has_1 : decode cX10_has 1 = .ok (.iload_n 1, 1) := by decide +kernel
theorem dX10_has_2 : decode cX10_has 2 = .ok (.ishr, 1) := by decide +kernel
theorem dX10_has_3 : decode cX10_has 3 = .ok (.iconst 1, 1) := by decide +kernel
theorem dX10_has_4 : decode cX10_has 4 = .ok (.iand, 1) := by decide +kernel
theorem dX10_has_5 : decode cX10_has 5 = .ok (.iconst 1, 1) := by decide +kernel
theorem dX10_has_6 : decode cX10_has 6 = .ok (.if_icmp .ne 7, 3) := by decide +kernel
theorem dX10_has_9 : decode cX10_has 9 = .ok (.iconst 1, 1) := by decide +kernel
theorem dX10_has_10 : decode cX10_has 10 = .ok (.goto 4, 3) := by decide +kernel
theorem dX10_has_13 : decode cX10_has 13 = .ok (.iconst 0, 1) := by decide +kernel
theorem dX10_has_14 : decode cX10_has 14 = .ok (.ireturn, 1) := by decide +kernel
theorem dX10_hasLeave_0 : decode cX10_hasLeave 0 = .ok (.aload_n 0, 1) := by decide +kernel
theorem dX10_hasLeave_1 : decode cX10_hasLeave 1 = .ok (.getfield 28, 3) := by decide +kernel
theorem dX10_hasLeave_4 : decode cX10_hasLeave 4 = .ok (.iload_n 1, 1) := by decide +kernel
theorem dX10_hasLeave_5 : decode cX10_hasLeave 5 = .ok (.iaload, 1) := by decide +kernel
theorem dX10_hasLeave_6 : decode cX10_hasLeave 6 = .ok (.bipush (-2), 2) := by decide +kernel
theorem dX10_hasLeave_8 : decode cX10_hasLeave 8 = .ok (.if_icmp .eq 7, 3) := by decide +kernel
theorem dX10_hasLeave_15 : decode cX10_hasLeave 15 = .ok (.iconst 0, 1) := by decide +kernel
theorem dX10_hasLeave_16 : decode cX10_hasLeave 16 = .ok (.ireturn, 1) := by decide +kernel
theorem dX10_in_0 : decode cX10_in 0 = .ok (.iload_n 0, 1) := by decide +kernel
theorem dX10_in_1 : decode cX10_in 1 = .ok (.iload_n 1, 1) := by decide +kernel
theorem dX10_in_2 : decode cX10_in 2 = .ok (.if_icmp .lt 12, 3) := by decide +kernel
theorem dX10_in_5 : decode cX10_in 5 = .ok (.iload_n 0, 1) := by decide +kernel
theorem dX10_in_6 : decode cX10_in 6 = .ok (.iload_n 2, 1) := by decide +kernel
theorem dX10_in_7 : decode cX10_in 7 = .ok (.if_icmp .gt 7, 3) := by decide +kernel
theorem dX10_in_10 : decode cX10_in 10 = .ok (.iconst 1, 1) := by decide +kernel
theorem dX10_in_11 : decode cX10_in 11 = .ok (.goto 4, 3) := by decide +kernel
theorem dX10_in_14 : decode cX10_in 14 = .ok (.iconst 0, 1) := by decide +kernel
theorem dX10_in_15 : decode cX10_in 15 = .ok (.ireturn, 1) := by decide +kernel
theorem dX10_isChore_0 : decode cX10_isChore 0 = .ok (.iload_n 1, 1) := by decide +kernel
theorem dX10_isChore_1 : decode cX10_isChore 1 = .ok (.ifCond .lt 24, 3) := by decide +kernel
theorem dX10_isChore_4 : decode cX10_isChore 4 = .ok (.iload_n 1, 1) := by decide +kernel
theorem dX10_isChore_5 : decode cX10_isChore 5 = .ok (.bipush 12, 2) := by decide +kernel
theorem dX10_isChore_7 : decode cX10_isChore 7 = .ok (.if_icmp .ge 18, 3) := by decide +kernel
theorem dX10_isChore_10 : decode cX10_isChore 10 = .ok (.aload_n 0, 1) := by decide +kernel
theorem dX10_isChore_11 : decode cX10_isChore 11 = .ok (.getfield 154, 3) := by decide +kernel
theorem dX10_isChore_14 : decode cX10_isChore 14 = .ok (.iload_n 1, 1) := by decide +kernel
theorem dX10_isChore_15 : decode cX10_isChore 15 = .ok (.invokestatic 150, 3) := by decide +kernel
theorem dX10_isChore_18 : decode cX10_isChore 18 = .ok (.ifCond .eq 7, 3) := by decide +kernel
theorem dX10_isChore_25 : decode cX10_isChore 25 = .ok (.iconst 0, 1) := by decide +kernel
theorem dX10_isChore_26 : decode cX10_isChore 26 = .ok (.ireturn, 1) := by decide +kernel
theorem dX10_isGoer_0 : decode cX10_isGoer 0 = .ok (.aload_n 0, 1) := by decide +kernel
theorem dX10_isGoer_1 : decode cX10_isGoer 1 = .ok (.iload_n 1, 1) := by decide +kernel
theorem dX10_isGoer_2 : decode cX10_isGoer 2 = .ok (.invokevirtual 307, 3) := by decide +kernel
theorem dX10_isGoer_5 : decode cX10_isGoer 5 = .ok (.ifCond .eq 15, 3) := by decide +kernel
theorem dX10_isGoer_20 : decode cX10_isGoer 20 = .ok (.iconst 0, 1) := by decide +kernel
theorem dX10_isGoer_21 : decode cX10_isGoer 21 = .ok (.ireturn, 1) := by decide +kernel
theorem dX10_isPerson_0 : decode cX10_isPerson 0 = .ok (.iload_n 1, 1) := by decide +kernel
theorem dX10_isPerson_1 : decode cX10_isPerson 1 = .ok (.ifCond .lt 24, 3) := by decide +kernel
theorem dX10_isPerson_4 : decode cX10_isPerson 4 = .ok (.iload_n 1, 1) := by decide +kernel
theorem dX10_isPerson_5 : decode cX10_isPerson 5 = .ok (.bipush 10, 2) := by decide +kernel
theorem dX10_isPerson_7 : decode cX10_isPerson 7 = .ok (.if_icmp .ge 18, 3) := by decide +kernel
theorem dX10_isPerson_10 : decode cX10_isPerson 10 = .ok (.aload_n 0, 1) := by decide +kernel
theorem dX10_isPerson_11 : decode cX10_isPerson 11 = .ok (.getfield 146, 3) := by decide +kernel
theorem dX10_isPerson_14 : decode cX10_isPerson 14 = .ok (.iload_n 1, 1) := by decide +kernel
theorem dX10_isPerson_15 : decode cX10_isPerson 15 = .ok (.invokestatic 150, 3) := by decide +kernel
theorem dX10_isPerson_18 : decode cX10_isPerson 18 = .ok (.ifCond .eq 7, 3) := by decide +kernel
theorem dX10_isPerson_25 : decode cX10_isPerson 25 = .ok (.iconst 0, 1) := by decide +kernel
theorem dX10_isPerson_26 : decode cX10_isPerson 26 = .ok (.ireturn, 1) := by decide +kernel
theorem dX10_laysGoing_0 : decode cX10_laysGoing 0 = .ok (.aload_n 0, 1) := by decide +kernel
theorem dX10_laysGoing_1 : decode cX10_laysGoing 1 = .ok (.invokevirtual 300, 3) := by decide +kernel
theorem dX10_laysGoing_4 : decode cX10_laysGoing 4 = .ok (.iconst 0, 1) := by decide +kernel
theorem dX10_laysGoing_5 : decode cX10_laysGoing 5 = .ok (.istore_n 2, 1) := by decide +kernel
theorem dX10_laysGoing_6 : decode cX10_laysGoing 6 = .ok (.iload_n 2, 1) := by decide +kernel
theorem dX10_laysGoing_7 : decode cX10_laysGoing 7 = .ok (.bipush 10, 2) := by decide +kernel
theorem dX10_laysGoing_9 : decode cX10_laysGoing 9 = .ok (.if_icmp .ge 42, 3) := by decide +kernel
theorem dX10_laysGoing_12 : decode cX10_laysGoing 12 = .ok (.iload_n 1, 1) := by decide +kernel
theorem dX10_laysGoing_13 : decode cX10_laysGoing 13 = .ok (.iload_n 2, 1) := by decide +kernel
theorem dX10_laysGoing_14 : decode cX10_laysGoing 14 = .ok (.invokestatic 150, 3) := by decide +kernel
theorem dX10_laysGoing_17 : decode cX10_laysGoing 17 = .ok (.ifCond .eq 28, 3) := by decide +kernel
theorem dX10_laysGoing_20 : decode cX10_laysGoing 20 = .ok (.aload_n 0, 1) := by decide +kernel
theorem dX10_laysGoing_21 : decode cX10_laysGoing 21 = .ok (.iload_n 2, 1) := by decide +kernel
theorem dX10_laysGoing_22 : decode cX10_laysGoing 22 = .ok (.invokevirtual 291, 3) := by decide +kernel
theorem dX10_laysGoing_25 : decode cX10_laysGoing 25 = .ok (.ifCond .eq 20, 3) := by decide +kernel
theorem dX10_laysGoing_45 : decode cX10_laysGoing 45 = .ok (.iinc 2 1, 3) := by decide +kernel
theorem dX10_laysGoing_48 : decode cX10_laysGoing 48 = .ok (.goto (-42), 3) := by decide +kernel
theorem dX10_laysGoing_51 : decode cX10_laysGoing 51 = .ok (.return_, 1) := by decide +kernel
theorem dX10_laysNobody_0 : decode cX10_laysNobody 0 = .ok (.iconst 0, 1) := by decide +kernel
theorem dX10_laysNobody_1 : decode cX10_laysNobody 1 = .ok (.istore_n 1, 1) := by decide +kernel
theorem dX10_laysNobody_2 : decode cX10_laysNobody 2 = .ok (.iload_n 1, 1) := by decide +kernel
theorem dX10_laysNobody_3 : decode cX10_laysNobody 3 = .ok (.bipush 10, 2) := by decide +kernel
theorem dX10_laysNobody_5 : decode cX10_laysNobody 5 = .ok (.if_icmp .ge 48, 3) := by decide +kernel
theorem dX10_laysNobody_8 : decode cX10_laysNobody 8 = .ok (.aload_n 0, 1) := by decide +kernel
theorem dX10_laysNobody_9 : decode cX10_laysNobody 9 = .ok (.getfield 101, 3) := by decide +kernel
theorem dX10_laysNobody_12 : decode cX10_laysNobody 12 = .ok (.iload_n 1, 1) := by decide +kernel
theorem dX10_laysNobody_13 : decode cX10_laysNobody 13 = .ok (.bipush (-2), 2) := by decide +kernel
theorem dX10_laysNobody_15 : decode cX10_laysNobody 15 = .ok (.iastore, 1) := by decide +kernel
theorem dX10_laysNobody_16 : decode cX10_laysNobody 16 = .ok (.aload_n 0, 1) := by decide +kernel
theorem dX10_laysNobody_17 : decode cX10_laysNobody 17 = .ok (.getfield 104, 3) := by decide +kernel
theorem dX10_laysNobody_20 : decode cX10_laysNobody 20 = .ok (.iload_n 1, 1) := by decide +kernel
theorem dX10_laysNobody_21 : decode cX10_laysNobody 21 = .ok (.bipush (-3), 2) := by decide +kernel
theorem dX10_laysNobody_23 : decode cX10_laysNobody 23 = .ok (.iastore, 1) := by decide +kernel
theorem dX10_laysNobody_24 : decode cX10_laysNobody 24 = .ok (.aload_n 0, 1) := by decide +kernel
theorem dX10_laysNobody_25 : decode cX10_laysNobody 25 = .ok (.getfield 107, 3) := by decide +kernel
theorem dX10_laysNobody_28 : decode cX10_laysNobody 28 = .ok (.iload_n 1, 1) := by decide +kernel
theorem dX10_laysNobody_29 : decode cX10_laysNobody 29 = .ok (.bipush (-2), 2) := by decide +kernel
theorem dX10_laysNobody_31 : decode cX10_laysNobody 31 = .ok (.iastore, 1) := by decide +kernel
theorem dX10_laysNobody_32 : decode cX10_laysNobody 32 = .ok (.aload_n 0, 1) := by decide +kernel
theorem dX10_laysNobody_33 : decode cX10_laysNobody 33 = .ok (.getfield 110, 3) := by decide +kernel
theorem dX10_laysNobody_36 : decode cX10_laysNobody 36 = .ok (.iload_n 1, 1) := by decide +kernel
theorem dX10_laysNobody_37 : decode cX10_laysNobody 37 = .ok (.bipush (-3), 2) := by decide +kernel
theorem dX10_laysNobody_39 : decode cX10_laysNobody 39 = .ok (.iastore, 1) := by decide +kernel
theorem dX10_laysNobody_40 : decode cX10_laysNobody 40 = .ok (.aload_n 0, 1) := by decide +kernel
theorem dX10_laysNobody_41 : decode cX10_laysNobody 41 = .ok (.getfield 113, 3) := by decide +kernel
theorem dX10_laysNobody_44 : decode cX10_laysNobody 44 = .ok (.iload_n 1, 1) := by decide +kernel
theorem dX10_laysNobody_45 : decode cX10_laysNobody 45 = .ok (.iconst 0, 1) := by decide +kernel
theorem dX10_laysNobody_46 : decode cX10_laysNobody 46 = .ok (.iastore, 1) := by decide +kernel
theorem dX10_laysNobody_47 : decode cX10_laysNobody 47 = .ok (.iinc 1 1, 3) := by decide +kernel
theorem dX10_laysNobody_50 : decode cX10_laysNobody 50 = .ok (.goto (-48), 3) := by decide +kernel
theorem dX10_laysNobody_53 : decode cX10_laysNobody 53 = .ok (.iconst 0, 1) := by decide +kernel
theorem dX10_laysNobody_54 : decode cX10_laysNobody 54 = .ok (.istore_n 1, 1) := by decide +kernel
theorem dX10_laysNobody_55 : decode cX10_laysNobody 55 = .ok (.iload_n 1, 1) := by decide +kernel
theorem dX10_laysNobody_56 : decode cX10_laysNobody 56 = .ok (.bipush 12, 2) := by decide +kernel
theorem dX10_laysNobody_58 : decode cX10_laysNobody 58 = .ok (.if_icmp .ge 16, 3) := by decide +kernel
theorem dX10_laysNobody_61 : decode cX10_laysNobody 61 = .ok (.aload_n 0, 1) := by decide +kernel
theorem dX10_laysNobody_62 : decode cX10_laysNobody 62 = .ok (.getfield 116, 3) := by decide +kernel
theorem dX10_laysNobody_65 : decode cX10_laysNobody 65 = .ok (.iload_n 1, 1) := by decide +kernel
theorem dX10_laysNobody_66 : decode cX10_laysNobody 66 = .ok (.iconst (-1), 1) := by decide +kernel
theorem dX10_laysNobody_67 : decode cX10_laysNobody 67 = .ok (.iastore, 1) := by decide +kernel
theorem dX10_laysNobody_68 : decode cX10_laysNobody 68 = .ok (.iinc 1 1, 3) := by decide +kernel
theorem dX10_laysNobody_71 : decode cX10_laysNobody 71 = .ok (.goto (-16), 3) := by decide +kernel
theorem dX10_laysNobody_74 : decode cX10_laysNobody 74 = .ok (.return_, 1) := by decide +kernel
theorem dX10_leaveSet_0 : decode cX10_leaveSet 0 = .ok (.iconst 0, 1) := by decide +kernel
theorem dX10_leaveSet_1 : decode cX10_leaveSet 1 = .ok (.istore_n 1, 1) := by decide +kernel
theorem dX10_leaveSet_2 : decode cX10_leaveSet 2 = .ok (.iconst 0, 1) := by decide +kernel
theorem dX10_leaveSet_3 : decode cX10_leaveSet 3 = .ok (.istore_n 2, 1) := by decide +kernel
theorem dX10_leaveSet_4 : decode cX10_leaveSet 4 = .ok (.iload_n 2, 1) := by decide +kernel
theorem dX10_leaveSet_5 : decode cX10_leaveSet 5 = .ok (.bipush 10, 2) := by decide +kernel
theorem dX10_leaveSet_7 : decode cX10_leaveSet 7 = .ok (.if_icmp .ge 27, 3) := by decide +kernel
theorem dX10_leaveSet_10 : decode cX10_leaveSet 10 = .ok (.iload_n 1, 1) := by decide +kernel
theorem dX10_leaveSet_11 : decode cX10_leaveSet 11 = .ok (.aload_n 0, 1) := by decide +kernel
theorem dX10_leaveSet_12 : decode cX10_leaveSet 12 = .ok (.iload_n 2, 1) := by decide +kernel
theorem dX10_leaveSet_13 : decode cX10_leaveSet 13 = .ok (.invokevirtual 291, 3) := by decide +kernel
theorem dX10_leaveSet_16 : decode cX10_leaveSet 16 = .ok (.ifCond .eq 9, 3) := by decide +kernel
theorem dX10_leaveSet_25 : decode cX10_leaveSet 25 = .ok (.iconst 0, 1) := by decide +kernel
theorem dX10_leaveSet_26 : decode cX10_leaveSet 26 = .ok (.ior, 1) := by decide +kernel
theorem dX10_leaveSet_27 : decode cX10_leaveSet 27 = .ok (.istore_n 1, 1) := by decide +kernel
theorem dX10_leaveSet_28 : decode cX10_leaveSet 28 = .ok (.iinc 2 1, 3) := by decide +kernel
theorem dX10_leaveSet_31 : decode cX10_leaveSet 31 = .ok (.goto (-27), 3) := by decide +kernel
theorem dX10_leaveSet_34 : decode cX10_leaveSet 34 = .ok (.iload_n 1, 1) := by decide +kernel
theorem dX10_leaveSet_35 : decode cX10_leaveSet 35 = .ok (.ireturn, 1) := by decide +kernel
theorem dX10_trial_0 : decode cX10_trial 0 = .ok (.aload_n 0, 1) := by decide +kernel
theorem dX10_trial_1 : decode cX10_trial 1 = .ok (.getfield 7, 3) := by decide +kernel
theorem dX10_trial_4 : decode cX10_trial 4 = .ok (.aload_n 0, 1) := by decide +kernel
theorem dX10_trial_5 : decode cX10_trial 5 = .ok (.getfield 13, 3) := by decide +kernel
theorem dX10_trial_8 : decode cX10_trial 8 = .ok (.bipush 15, 2) := by decide +kernel
theorem dX10_trial_10 : decode cX10_trial 10 = .ok (.invokestatic 359, 3) := by decide +kernel
theorem dX10_trial_13 : decode cX10_trial 13 = .ok (.aload_n 0, 1) := by decide +kernel
theorem dX10_trial_14 : decode cX10_trial 14 = .ok (.iload_n 1, 1) := by decide +kernel
theorem dX10_trial_15 : decode cX10_trial 15 = .ok (.invokevirtual 363, 3) := by decide +kernel
theorem dX10_trial_18 : decode cX10_trial 18 = .ok (.aload_n 0, 1) := by decide +kernel
theorem dX10_trial_19 : decode cX10_trial 19 = .ok (.getfield 7, 3) := by decide +kernel
theorem dX10_trial_22 : decode cX10_trial 22 = .ok (.bipush 12, 2) := by decide +kernel
theorem dX10_trial_24 : decode cX10_trial 24 = .ok (.iaload, 1) := by decide +kernel
theorem dX10_trial_25 : decode cX10_trial 25 = .ok (.aload_n 0, 1) := by decide +kernel
theorem dX10_trial_26 : decode cX10_trial 26 = .ok (.getfield 13, 3) := by decide +kernel
theorem dX10_trial_29 : decode cX10_trial 29 = .ok (.bipush 12, 2) := by decide +kernel
theorem dX10_trial_31 : decode cX10_trial 31 = .ok (.iaload, 1) := by decide +kernel
theorem dX10_trial_32 : decode cX10_trial 32 = .ok (.isub, 1) := by decide +kernel
theorem dX10_trial_33 : decode cX10_trial 33 = .ok (.istore_n 2, 1) := by decide +kernel
theorem dX10_trial_34 : decode cX10_trial 34 = .ok (.aload_n 0, 1) := by decide +kernel
theorem dX10_trial_35 : decode cX10_trial 35 = .ok (.getfield 13, 3) := by decide +kernel
theorem dX10_trial_38 : decode cX10_trial 38 = .ok (.aload_n 0, 1) := by decide +kernel
theorem dX10_trial_39 : decode cX10_trial 39 = .ok (.getfield 7, 3) := by decide +kernel
theorem dX10_trial_42 : decode cX10_trial 42 = .ok (.bipush 15, 2) := by decide +kernel
theorem dX10_trial_44 : decode cX10_trial 44 = .ok (.invokestatic 359, 3) := by decide +kernel
theorem dX10_trial_47 : decode cX10_trial 47 = .ok (.iload_n 2, 1) := by decide +kernel
theorem dX10_trial_48 : decode cX10_trial 48 = .ok (.ireturn, 1) := by decide +kernel
theorem dX10_undoneAll_0 : decode cX10_undoneAll 0 = .ok (.iconst 0, 1) := by decide +kernel
theorem dX10_undoneAll_1 : decode cX10_undoneAll 1 = .ok (.istore_n 1, 1) := by decide +kernel
theorem dX10_undoneAll_2 : decode cX10_undoneAll 2 = .ok (.iconst 0, 1) := by decide +kernel
theorem dX10_undoneAll_3 : decode cX10_undoneAll 3 = .ok (.istore_n 2, 1) := by decide +kernel
theorem dX10_undoneAll_4 : decode cX10_undoneAll 4 = .ok (.iload_n 2, 1) := by decide +kernel
theorem dX10_undoneAll_5 : decode cX10_undoneAll 5 = .ok (.bipush 12, 2) := by decide +kernel
theorem dX10_undoneAll_7 : decode cX10_undoneAll 7 = .ok (.if_icmp .ge 30, 3) := by decide +kernel
theorem dX10_undoneAll_10 : decode cX10_undoneAll 10 = .ok (.iload_n 1, 1) := by decide +kernel
theorem dX10_undoneAll_11 : decode cX10_undoneAll 11 = .ok (.aload_n 0, 1) := by decide +kernel
theorem dX10_undoneAll_12 : decode cX10_undoneAll 12 = .ok (.iload_n 2, 1) := by decide +kernel
theorem dX10_undoneAll_13 : decode cX10_undoneAll 13 = .ok (.invokevirtual 331, 3) := by decide +kernel
theorem dX10_undoneAll_16 : decode cX10_undoneAll 16 = .ok (.ifCond .eq 12, 3) := by decide +kernel
theorem dX10_undoneAll_28 : decode cX10_undoneAll 28 = .ok (.iconst 0, 1) := by decide +kernel
theorem dX10_undoneAll_29 : decode cX10_undoneAll 29 = .ok (.iadd, 1) := by decide +kernel
theorem dX10_undoneAll_30 : decode cX10_undoneAll 30 = .ok (.istore_n 1, 1) := by decide +kernel
theorem dX10_undoneAll_31 : decode cX10_undoneAll 31 = .ok (.iinc 2 1, 3) := by decide +kernel
theorem dX10_undoneAll_34 : decode cX10_undoneAll 34 = .ok (.goto (-30), 3) := by decide +kernel
theorem dX10_undoneAll_37 : decode cX10_undoneAll 37 = .ok (.iload_n 1, 1) := by decide +kernel
theorem dX10_undoneAll_38 : decode cX10_undoneAll 38 = .ok (.ireturn, 1) := by decide +kernel
theorem dX10_unitsOf_0 : decode cX10_unitsOf 0 = .ok (.aload_n 0, 1) := by decide +kernel
theorem dX10_unitsOf_1 : decode cX10_unitsOf 1 = .ok (.iload_n 1, 1) := by decide +kernel
theorem dX10_unitsOf_2 : decode cX10_unitsOf 2 = .ok (.invokevirtual 307, 3) := by decide +kernel
theorem dX10_unitsOf_5 : decode cX10_unitsOf 5 = .ok (.ifCond .eq 43, 3) := by decide +kernel
theorem dX10_unitsOf_48 : decode cX10_unitsOf 48 = .ok (.iconst 0, 1) := by decide +kernel
theorem dX10_unitsOf_49 : decode cX10_unitsOf 49 = .ok (.ireturn, 1) := by decide +kernel
theorem dX1_setDay_0 : decode cX1_setDay 0 = .ok (.aload_n 0, 1) := by decide +kernel
theorem dX1_setDay_1 : decode cX1_setDay 1 = .ok (.getfield 27, 3) := by decide +kernel
theorem dX1_setDay_4 : decode cX1_setDay 4 = .ok (.iconst 3, 1) := by decide +kernel
theorem dX1_setDay_5 : decode cX1_setDay 5 = .ok (.iload_n 1, 1) := by decide +kernel
theorem dX1_setDay_6 : decode cX1_setDay 6 = .ok (.iastore, 1) := by decide +kernel
theorem dX1_setDay_7 : decode cX1_setDay 7 = .ok (.aload_n 0, 1) := by decide +kernel
theorem dX1_setDay_8 : decode cX1_setDay 8 = .ok (.getfield 27, 3) := by decide +kernel
theorem dX1_setDay_11 : decode cX1_setDay 11 = .ok (.iconst 4, 1) := by decide +kernel
theorem dX1_setDay_12 : decode cX1_setDay 12 = .ok (.iload_n 1, 1) := by decide +kernel
theorem dX1_setDay_13 : decode cX1_setDay 13 = .ok (.bipush 7, 2) := by decide +kernel
theorem dX1_setDay_15 : decode cX1_setDay 15 = .ok (.irem, 1) := by decide +kernel
theorem dX1_setDay_16 : decode cX1_setDay 16 = .ok (.iastore, 1) := by decide +kernel
theorem dX1_setDay_17 : decode cX1_setDay 17 = .ok (.aload_n 0, 1) := by decide +kernel
theorem dX1_setDay_18 : decode cX1_setDay 18 = .ok (.getfield 27, 3) := by decide +kernel
theorem dX1_setDay_21 : decode cX1_setDay 21 = .ok (.iconst 5, 1) := by decide +kernel
theorem dX1_setDay_22 : decode cX1_setDay 22 = .ok (.iload_n 2, 1) := by decide +kernel
end
section
theorem dX1_setDay_23 : decode cX1_setDay 23 = .ok (.iastore, 1) := by decide +kernel
theorem dX1_setDay_24 : decode cX1_setDay 24 = .ok (.aload_n 0, 1) := by decide +kernel
theorem dX1_setDay_25 : decode cX1_setDay 25 = .ok (.getfield 27, 3) := by decide +kernel
theorem dX1_setDay_28 : decode cX1_setDay 28 = .ok (.bipush 6, 2) := by decide +kernel
theorem dX1_setDay_30 : decode cX1_setDay 30 = .ok (.iload_n 3, 1) := by decide +kernel
theorem dX1_setDay_31 : decode cX1_setDay 31 = .ok (.iastore, 1) := by decide +kernel
theorem dX1_setDay_32 : decode cX1_setDay 32 = .ok (.return_, 1) := by decide +kernel
theorem dX4_allUndone_0 : decode cX4_allUndone 0 = .ok (.iconst 0, 1) := by decide +kernel
theorem dX4_allUndone_1 : decode cX4_allUndone 1 = .ok (.istore_n 1, 1) := by decide +kernel
theorem dX4_allUndone_2 : decode cX4_allUndone 2 = .ok (.iconst 0, 1) := by decide +kernel
theorem dX4_allUndone_3 : decode cX4_allUndone 3 = .ok (.istore_n 2, 1) := by decide +kernel
theorem dX4_allUndone_4 : decode cX4_allUndone 4 = .ok (.iload_n 2, 1) := by decide +kernel
theorem dX4_allUndone_5 : decode cX4_allUndone 5 = .ok (.bipush 12, 2) := by decide +kernel
theorem dX4_allUndone_7 : decode cX4_allUndone 7 = .ok (.if_icmp .ge 18, 3) := by decide +kernel
theorem dX4_allUndone_10 : decode cX4_allUndone 10 = .ok (.iload_n 1, 1) := by decide +kernel
theorem dX4_allUndone_11 : decode cX4_allUndone 11 = .ok (.aload_n 0, 1) := by decide +kernel
theorem dX4_allUndone_12 : decode cX4_allUndone 12 = .ok (.getfield 9, 3) := by decide +kernel
theorem dX4_allUndone_15 : decode cX4_allUndone 15 = .ok (.iload_n 2, 1) := by decide +kernel
theorem dX4_allUndone_16 : decode cX4_allUndone 16 = .ok (.iaload, 1) := by decide +kernel
theorem dX4_allUndone_17 : decode cX4_allUndone 17 = .ok (.iadd, 1) := by decide +kernel
theorem dX4_allUndone_18 : decode cX4_allUndone 18 = .ok (.istore_n 1, 1) := by decide +kernel
theorem dX4_allUndone_19 : decode cX4_allUndone 19 = .ok (.iinc 2 1, 3) := by decide +kernel
theorem dX4_allUndone_22 : decode cX4_allUndone 22 = .ok (.goto (-18), 3) := by decide +kernel
theorem dX4_allUndone_25 : decode cX4_allUndone 25 = .ok (.iload_n 1, 1) := by decide +kernel
theorem dX4_allUndone_26 : decode cX4_allUndone 26 = .ok (.ireturn, 1) := by decide +kernel
theorem dX4_awayBits_0 : decode cX4_awayBits 0 = .ok (.iconst 0, 1) := by decide +kernel
theorem dX4_awayBits_1 : decode cX4_awayBits 1 = .ok (.istore_n 1, 1) := by decide +kernel
theorem dX4_awayBits_2 : decode cX4_awayBits 2 = .ok (.iconst 0, 1) := by decide +kernel
theorem dX4_awayBits_3 : decode cX4_awayBits 3 = .ok (.istore_n 2, 1) := by decide +kernel
theorem dX4_awayBits_4 : decode cX4_awayBits 4 = .ok (.iload_n 2, 1) := by decide +kernel
theorem dX4_awayBits_5 : decode cX4_awayBits 5 = .ok (.bipush 10, 2) := by decide +kernel
theorem dX4_awayBits_7 : decode cX4_awayBits 7 = .ok (.if_icmp .ge 27, 3) := by decide +kernel
theorem dX4_awayBits_10 : decode cX4_awayBits 10 = .ok (.iload_n 1, 1) := by decide +kernel
theorem dX4_awayBits_11 : decode cX4_awayBits 11 = .ok (.aload_n 0, 1) := by decide +kernel
theorem dX4_awayBits_12 : decode cX4_awayBits 12 = .ok (.iload_n 2, 1) := by decide +kernel
theorem dX4_awayBits_13 : decode cX4_awayBits 13 = .ok (.invokevirtual 51, 3) := by decide +kernel
theorem dX4_awayBits_16 : decode cX4_awayBits 16 = .ok (.ifCond .eq 9, 3) := by decide +kernel
theorem dX4_awayBits_25 : decode cX4_awayBits 25 = .ok (.iconst 0, 1) := by decide +kernel
theorem dX4_awayBits_26 : decode cX4_awayBits 26 = .ok (.ior, 1) := by decide +kernel
theorem dX4_awayBits_27 : decode cX4_awayBits 27 = .ok (.istore_n 1, 1) := by decide +kernel
theorem dX4_awayBits_28 : decode cX4_awayBits 28 = .ok (.iinc 2 1, 3) := by decide +kernel
theorem dX4_awayBits_31 : decode cX4_awayBits 31 = .ok (.goto (-27), 3) := by decide +kernel
theorem dX4_awayBits_34 : decode cX4_awayBits 34 = .ok (.iload_n 1, 1) := by decide +kernel
theorem dX4_awayBits_35 : decode cX4_awayBits 35 = .ok (.ireturn, 1) := by decide +kernel
theorem dX4_copy_0 : decode cX4_copy 0 = .ok (.aload_n 1, 1) := by decide +kernel
theorem dX4_copy_1 : decode cX4_copy 1 = .ok (.getfield 9, 3) := by decide +kernel
theorem dX4_copy_4 : decode cX4_copy 4 = .ok (.iconst 0, 1) := by decide +kernel
theorem dX4_copy_5 : decode cX4_copy 5 = .ok (.aload_n 0, 1) := by decide +kernel
theorem dX4_copy_6 : decode cX4_copy 6 = .ok (.getfield 9, 3) := by decide +kernel
theorem dX4_copy_9 : decode cX4_copy 9 = .ok (.iconst 0, 1) := by decide +kernel
theorem dX4_copy_10 : decode cX4_copy 10 = .ok (.bipush 12, 2) := by decide +kernel
theorem dX4_copy_12 : decode cX4_copy 12 = .ok (.invokestatic 31, 3) := by decide +kernel
theorem dX4_copy_15 : decode cX4_copy 15 = .ok (.aload_n 1, 1) := by decide +kernel
theorem dX4_copy_16 : decode cX4_copy 16 = .ok (.getfield 15, 3) := by decide +kernel
theorem dX4_copy_19 : decode cX4_copy 19 = .ok (.iconst 0, 1) := by decide +kernel
theorem dX4_copy_20 : decode cX4_copy 20 = .ok (.aload_n 0, 1) := by decide +kernel
theorem dX4_copy_21 : decode cX4_copy 21 = .ok (.getfield 15, 3) := by decide +kernel
theorem dX4_copy_24 : decode cX4_copy 24 = .ok (.iconst 0, 1) := by decide +kernel
theorem dX4_copy_25 : decode cX4_copy 25 = .ok (.bipush 10, 2) := by decide +kernel
theorem dX4_copy_27 : decode cX4_copy 27 = .ok (.invokestatic 31, 3) := by decide +kernel
theorem dX4_copy_30 : decode cX4_copy 30 = .ok (.aload_n 1, 1) := by decide +kernel
theorem dX4_copy_31 : decode cX4_copy 31 = .ok (.getfield 18, 3) := by decide +kernel
theorem dX4_copy_34 : decode cX4_copy 34 = .ok (.iconst 0, 1) := by decide +kernel
theorem dX4_copy_35 : decode cX4_copy 35 = .ok (.aload_n 0, 1) := by decide +kernel
theorem dX4_copy_36 : decode cX4_copy 36 = .ok (.getfield 18, 3) := by decide +kernel
theorem dX4_copy_39 : decode cX4_copy 39 = .ok (.iconst 0, 1) := by decide +kernel
theorem dX4_copy_40 : decode cX4_copy 40 = .ok (.bipush 10, 2) := by decide +kernel
theorem dX4_copy_42 : decode cX4_copy 42 = .ok (.invokestatic 31, 3) := by decide +kernel
theorem dX4_copy_45 : decode cX4_copy 45 = .ok (.aload_n 0, 1) := by decide +kernel
theorem dX4_copy_46 : decode cX4_copy 46 = .ok (.aload_n 1, 1) := by decide +kernel
theorem dX4_copy_47 : decode cX4_copy 47 = .ok (.getfield 37, 3) := by decide +kernel
theorem dX4_copy_50 : decode cX4_copy 50 = .ok (.putfield 37, 3) := by decide +kernel
theorem dX4_copy_53 : decode cX4_copy 53 = .ok (.aload_n 0, 1) := by decide +kernel
theorem dX4_copy_54 : decode cX4_copy 54 = .ok (.aload_n 1, 1) := by decide +kernel
theorem dX4_copy_55 : decode cX4_copy 55 = .ok (.getfield 40, 3) := by decide +kernel
theorem dX4_copy_58 : decode cX4_copy 58 = .ok (.putfield 40, 3) := by decide +kernel
theorem dX4_copy_61 : decode cX4_copy 61 = .ok (.aload_n 0, 1) := by decide +kernel
theorem dX4_copy_62 : decode cX4_copy 62 = .ok (.aload_n 1, 1) := by decide +kernel
theorem dX4_copy_63 : decode cX4_copy 63 = .ok (.getfield 21, 3) := by decide +kernel
theorem dX4_copy_66 : decode cX4_copy 66 = .ok (.putfield 21, 3) := by decide +kernel
theorem dX4_copy_69 : decode cX4_copy 69 = .ok (.return_, 1) := by decide +kernel
theorem dX4_endLeaves_0 : decode cX4_endLeaves 0 = .ok (.iconst 0, 1) := by decide +kernel
theorem dX4_endLeaves_1 : decode cX4_endLeaves 1 = .ok (.istore_n 2, 1) := by decide +kernel
theorem dX4_endLeaves_2 : decode cX4_endLeaves 2 = .ok (.iload_n 2, 1) := by decide +kernel
theorem dX4_endLeaves_3 : decode cX4_endLeaves 3 = .ok (.bipush 10, 2) := by decide +kernel
theorem dX4_endLeaves_5 : decode cX4_endLeaves 5 = .ok (.if_icmp .ge 33, 3) := by decide +kernel
theorem dX4_endLeaves_8 : decode cX4_endLeaves 8 = .ok (.iload_n 1, 1) := by decide +kernel
theorem dX4_endLeaves_9 : decode cX4_endLeaves 9 = .ok (.iload_n 2, 1) := by decide +kernel
theorem dX4_endLeaves_10 : decode cX4_endLeaves 10 = .ok (.invokestatic 43, 3) := by decide +kernel
theorem dX4_endLeaves_13 : decode cX4_endLeaves 13 = .ok (.ifCond .eq 19, 3) := by decide +kernel
theorem dX4_endLeaves_16 : decode cX4_endLeaves 16 = .ok (.aload_n 0, 1) := by decide +kernel
theorem dX4_endLeaves_17 : decode cX4_endLeaves 17 = .ok (.getfield 15, 3) := by decide +kernel
theorem dX4_endLeaves_20 : decode cX4_endLeaves 20 = .ok (.iload_n 2, 1) := by decide +kernel
theorem dX4_endLeaves_21 : decode cX4_endLeaves 21 = .ok (.bipush (-2), 2) := by decide +kernel
theorem dX4_endLeaves_23 : decode cX4_endLeaves 23 = .ok (.iastore, 1) := by decide +kernel
theorem dX4_endLeaves_24 : decode cX4_endLeaves 24 = .ok (.aload_n 0, 1) := by decide +kernel
theorem dX4_endLeaves_25 : decode cX4_endLeaves 25 = .ok (.getfield 18, 3) := by decide +kernel
theorem dX4_endLeaves_28 : decode cX4_endLeaves 28 = .ok (.iload_n 2, 1) := by decide +kernel
theorem dX4_endLeaves_29 : decode cX4_endLeaves 29 = .ok (.bipush (-2), 2) := by decide +kernel
theorem dX4_endLeaves_31 : decode cX4_endLeaves 31 = .ok (.iastore, 1) := by decide +kernel
theorem dX4_endLeaves_32 : decode cX4_endLeaves 32 = .ok (.iinc 2 1, 3) := by decide +kernel
theorem dX4_endLeaves_35 : decode cX4_endLeaves 35 = .ok (.goto (-33), 3) := by decide +kernel
theorem dX4_endLeaves_38 : decode cX4_endLeaves 38 = .ok (.return_, 1) := by decide +kernel
theorem dX4_hasLeave_0 : decode cX4_hasLeave 0 = .ok (.iload_n 1, 1) := by decide +kernel
theorem dX4_hasLeave_1 : decode cX4_hasLeave 1 = .ok (.ifCond .lt 24, 3) := by decide +kernel
theorem dX4_hasLeave_4 : decode cX4_hasLeave 4 = .ok (.iload_n 1, 1) := by decide +kernel
theorem dX4_hasLeave_5 : decode cX4_hasLeave 5 = .ok (.bipush 10, 2) := by decide +kernel
theorem dX4_hasLeave_7 : decode cX4_hasLeave 7 = .ok (.if_icmp .ge 18, 3) := by decide +kernel
theorem dX4_hasLeave_10 : decode cX4_hasLeave 10 = .ok (.aload_n 0, 1) := by decide +kernel
theorem dX4_hasLeave_11 : decode cX4_hasLeave 11 = .ok (.getfield 15, 3) := by decide +kernel
theorem dX4_hasLeave_14 : decode cX4_hasLeave 14 = .ok (.iload_n 1, 1) := by decide +kernel
theorem dX4_hasLeave_15 : decode cX4_hasLeave 15 = .ok (.iaload, 1) := by decide +kernel
theorem dX4_hasLeave_16 : decode cX4_hasLeave 16 = .ok (.bipush (-2), 2) := by decide +kernel
theorem dX4_hasLeave_18 : decode cX4_hasLeave 18 = .ok (.if_icmp .eq 7, 3) := by decide +kernel
theorem dX4_hasLeave_25 : decode cX4_hasLeave 25 = .ok (.iconst 0, 1) := by decide +kernel
theorem dX4_hasLeave_26 : decode cX4_hasLeave 26 = .ok (.ireturn, 1) := by decide +kernel
theorem dX4_isAway_0 : decode cX4_isAway 0 = .ok (.iload_n 1, 1) := by decide +kernel
theorem dX4_isAway_1 : decode cX4_isAway 1 = .ok (.ifCond .lt 39, 3) := by decide +kernel
theorem dX4_isAway_4 : decode cX4_isAway 4 = .ok (.iload_n 1, 1) := by decide +kernel
theorem dX4_isAway_5 : decode cX4_isAway 5 = .ok (.bipush 10, 2) := by decide +kernel
theorem dX4_isAway_7 : decode cX4_isAway 7 = .ok (.if_icmp .ge 33, 3) := by decide +kernel
theorem dX4_isAway_10 : decode cX4_isAway 10 = .ok (.aload_n 0, 1) := by decide +kernel
theorem dX4_isAway_11 : decode cX4_isAway 11 = .ok (.getfield 15, 3) := by decide +kernel
theorem dX4_isAway_14 : decode cX4_isAway 14 = .ok (.iload_n 1, 1) := by decide +kernel
theorem dX4_isAway_15 : decode cX4_isAway 15 = .ok (.iaload, 1) := by decide +kernel
theorem dX4_isAway_16 : decode cX4_isAway 16 = .ok (.aload_n 0, 1) := by decide +kernel
theorem dX4_isAway_17 : decode cX4_isAway 17 = .ok (.getfield 40, 3) := by decide +kernel
theorem dX4_isAway_20 : decode cX4_isAway 20 = .ok (.if_icmp .gt 20, 3) := by decide +kernel
theorem dX4_isAway_23 : decode cX4_isAway 23 = .ok (.aload_n 0, 1) := by decide +kernel
theorem dX4_isAway_24 : decode cX4_isAway 24 = .ok (.getfield 40, 3) := by decide +kernel
theorem dX4_isAway_27 : decode cX4_isAway 27 = .ok (.aload_n 0, 1) := by decide +kernel
theorem dX4_isAway_28 : decode cX4_isAway 28 = .ok (.getfield 18, 3) := by decide +kernel
theorem dX4_isAway_31 : decode cX4_isAway 31 = .ok (.iload_n 1, 1) := by decide +kernel
theorem dX4_isAway_32 : decode cX4_isAway 32 = .ok (.iaload, 1) := by decide +kernel
theorem dX4_isAway_33 : decode cX4_isAway 33 = .ok (.if_icmp .gt 7, 3) := by decide +kernel
theorem dX4_isAway_40 : decode cX4_isAway 40 = .ok (.iconst 0, 1) := by decide +kernel
theorem dX4_isAway_41 : decode cX4_isAway 41 = .ok (.ireturn, 1) := by decide +kernel
theorem dX4_leaveBits_0 : decode cX4_leaveBits 0 = .ok (.iconst 0, 1) := by decide +kernel
theorem dX4_leaveBits_1 : decode cX4_leaveBits 1 = .ok (.istore_n 1, 1) := by decide +kernel
theorem dX4_leaveBits_2 : decode cX4_leaveBits 2 = .ok (.iconst 0, 1) := by decide +kernel
theorem dX4_leaveBits_3 : decode cX4_leaveBits 3 = .ok (.istore_n 2, 1) := by decide +kernel
theorem dX4_leaveBits_4 : decode cX4_leaveBits 4 = .ok (.iload_n 2, 1) := by decide +kernel
theorem dX4_leaveBits_5 : decode cX4_leaveBits 5 = .ok (.bipush 10, 2) := by decide +kernel
theorem dX4_leaveBits_7 : decode cX4_leaveBits 7 = .ok (.if_icmp .ge 27, 3) := by decide +kernel
theorem dX4_leaveBits_10 : decode cX4_leaveBits 10 = .ok (.iload_n 1, 1) := by decide +kernel
theorem dX4_leaveBits_11 : decode cX4_leaveBits 11 = .ok (.aload_n 0, 1) := by decide +kernel
theorem dX4_leaveBits_12 : decode cX4_leaveBits 12 = .ok (.iload_n 2, 1) := by decide +kernel
theorem dX4_leaveBits_13 : decode cX4_leaveBits 13 = .ok (.invokevirtual 47, 3) := by decide +kernel
theorem dX4_leaveBits_16 : decode cX4_leaveBits 16 = .ok (.ifCond .eq 9, 3) := by decide +kernel
theorem dX4_leaveBits_25 : decode cX4_leaveBits 25 = .ok (.iconst 0, 1) := by decide +kernel
theorem dX4_leaveBits_26 : decode cX4_leaveBits 26 = .ok (.ior, 1) := by decide +kernel
theorem dX4_leaveBits_27 : decode cX4_leaveBits 27 = .ok (.istore_n 1, 1) := by decide +kernel
theorem dX4_leaveBits_28 : decode cX4_leaveBits 28 = .ok (.iinc 2 1, 3) := by decide +kernel
theorem dX4_leaveBits_31 : decode cX4_leaveBits 31 = .ok (.goto (-27), 3) := by decide +kernel
theorem dX4_leaveBits_34 : decode cX4_leaveBits 34 = .ok (.iload_n 1, 1) := by decide +kernel
theorem dX4_leaveBits_35 : decode cX4_leaveBits 35 = .ok (.ireturn, 1) := by decide +kernel
theorem dX5_addWord_0 : decode cX5_addWord 0 = .ok (.bipush 24, 2) := by decide +kernel
theorem dX5_addWord_2 : decode cX5_addWord 2 = .ok (.istore_n 2, 1) := by decide +kernel
theorem dX5_addWord_3 : decode cX5_addWord 3 = .ok (.iload_n 2, 1) := by decide +kernel
theorem dX5_addWord_4 : decode cX5_addWord 4 = .ok (.ifCond .lt 47, 3) := by decide +kernel
theorem dX5_addWord_7 : decode cX5_addWord 7 = .ok (.aload_n 0, 1) := by decide +kernel
theorem dX5_addWord_8 : decode cX5_addWord 8 = .ok (.getfield 15, 3) := by decide +kernel
theorem dX5_addWord_11 : decode cX5_addWord 11 = .ok (.aload_n 0, 1) := by decide +kernel
theorem dX5_addWord_12 : decode cX5_addWord 12 = .ok (.getfield 9, 3) := by decide +kernel
theorem dX5_addWord_15 : decode cX5_addWord 15 = .ok (.arraylength, 1) := by decide +kernel
theorem dX5_addWord_16 : decode cX5_addWord 16 = .ok (.if_icmp .ge 29, 3) := by decide +kernel
theorem dX5_addWord_19 : decode cX5_addWord 19 = .ok (.aload_n 0, 1) := by decide +kernel
theorem dX5_addWord_20 : decode cX5_addWord 20 = .ok (.getfield 9, 3) := by decide +kernel
theorem dX5_addWord_23 : decode cX5_addWord 23 = .ok (.aload_n 0, 1) := by decide +kernel
theorem dX5_addWord_24 : decode cX5_addWord 24 = .ok (.getfield 15, 3) := by decide +kernel
theorem dX5_addWord_27 : decode cX5_addWord 27 = .ok (.iload_n 1, 1) := by decide +kernel
theorem dX5_addWord_28 : decode cX5_addWord 28 = .ok (.iload_n 2, 1) := by decide +kernel
theorem dX5_addWord_29 : decode cX5_addWord 29 = .ok (.ishr, 1) := by decide +kernel
theorem dX5_addWord_30 : decode cX5_addWord 30 = .ok (.sipush 255, 3) := by decide +kernel
theorem dX5_addWord_33 : decode cX5_addWord 33 = .ok (.iand, 1) := by decide +kernel
theorem dX5_addWord_34 : decode cX5_addWord 34 = .ok (.iastore, 1) := by decide +kernel
theorem dX5_addWord_35 : decode cX5_addWord 35 = .ok (.aload_n 0, 1) := by decide +kernel
theorem dX5_addWord_36 : decode cX5_addWord 36 = .ok (.dup, 1) := by decide +kernel
theorem dX5_addWord_37 : decode cX5_addWord 37 = .ok (.getfield 15, 3) := by decide +kernel
theorem dX5_addWord_40 : decode cX5_addWord 40 = .ok (.iconst 1, 1) := by decide +kernel
theorem dX5_addWord_41 : decode cX5_addWord 41 = .ok (.iadd, 1) := by decide +kernel
theorem dX5_addWord_42 : decode cX5_addWord 42 = .ok (.putfield 15, 3) := by decide +kernel
theorem dX5_addWord_45 : decode cX5_addWord 45 = .ok (.iinc 2 (-8), 3) := by decide +kernel
theorem dX5_addWord_48 : decode cX5_addWord 48 = .ok (.goto (-45), 3) := by decide +kernel
theorem dX5_addWord_51 : decode cX5_addWord 51 = .ok (.return_, 1) := by decide +kernel
theorem dX5_canGive_0 : decode cX5_canGive 0 = .ok (.iload_n 1, 1) := by decide +kernel
theorem dX5_canGive_1 : decode cX5_canGive 1 = .ok (.iload_n 2, 1) := by decide +kernel
theorem dX5_canGive_2 : decode cX5_canGive 2 = .ok (.if_icmp .lt 20, 3) := by decide +kernel
theorem dX5_canGive_5 : decode cX5_canGive 5 = .ok (.iload_n 1, 1) := by decide +kernel
theorem dX5_canGive_6 : decode cX5_canGive 6 = .ok (.iload_n 3, 1) := by decide +kernel
theorem dX5_canGive_7 : decode cX5_canGive 7 = .ok (.if_icmp .gt 15, 3) := by decide +kernel
theorem dX5_canGive_10 : decode cX5_canGive 10 = .ok (.iload_n 1, 1) := by decide +kernel
theorem dX5_canGive_11 : decode cX5_canGive 11 = .ok (.aload_n 0, 1) := by decide +kernel
theorem dX5_canGive_12 : decode cX5_canGive 12 = .ok (.getfield 15, 3) := by decide +kernel
theorem dX5_canGive_15 : decode cX5_canGive 15 = .ok (.if_icmp .gt 7, 3) := by decide +kernel
theorem dX5_canGive_18 : decode cX5_canGive 18 = .ok (.iconst 1, 1) := by decide +kernel
theorem dX5_canGive_19 : decode cX5_canGive 19 = .ok (.goto 4, 3) := by decide +kernel
theorem dX5_canGive_22 : decode cX5_canGive 22 = .ok (.iconst 0, 1) := by decide +kernel
theorem dX5_canGive_23 : decode cX5_canGive 23 = .ok (.ireturn, 1) := by decide +kernel
theorem dX5_hasRoomFor_0 : decode cX5_hasRoomFor 0 = .ok (.aload_n 0, 1) := by decide +kernel
theorem dX5_hasRoomFor_1 : decode cX5_hasRoomFor 1 = .ok (.getfield 15, 3) := by decide +kernel
theorem dX5_hasRoomFor_4 : decode cX5_hasRoomFor 4 = .ok (.iload_n 1, 1) := by decide +kernel
theorem dX5_hasRoomFor_5 : decode cX5_hasRoomFor 5 = .ok (.iadd, 1) := by decide +kernel
theorem dX5_hasRoomFor_6 : decode cX5_hasRoomFor 6 = .ok (.aload_n 0, 1) := by decide +kernel
theorem dX5_hasRoomFor_7 : decode cX5_hasRoomFor 7 = .ok (.getfield 9, 3) := by decide +kernel
theorem dX5_hasRoomFor_10 : decode cX5_hasRoomFor 10 = .ok (.arraylength, 1) := by decide +kernel
theorem dX5_hasRoomFor_11 : decode cX5_hasRoomFor 11 = .ok (.if_icmp .gt 7, 3) := by decide +kernel
theorem dX5_hasRoomFor_14 : decode cX5_hasRoomFor 14 = .ok (.iconst 1, 1) := by decide +kernel
theorem dX5_hasRoomFor_15 : decode cX5_hasRoomFor 15 = .ok (.goto 4, 3) := by decide +kernel
theorem dX5_hasRoomFor_19 : decode cX5_hasRoomFor 19 = .ok (.ireturn, 1) := by decide +kernel
theorem dX7_hasChore_0 : decode cX7_hasChore 0 = .ok (.iload_n 1, 1) := by decide +kernel
theorem dX7_hasChore_1 : decode cX7_hasChore 1 = .ok (.ifCond .lt 24, 3) := by decide +kernel
theorem dX7_hasChore_4 : decode cX7_hasChore 4 = .ok (.iload_n 1, 1) := by decide +kernel
theorem dX7_hasChore_5 : decode cX7_hasChore 5 = .ok (.bipush 12, 2) := by decide +kernel
theorem dX7_hasChore_7 : decode cX7_hasChore 7 = .ok (.if_icmp .ge 18, 3) := by decide +kernel
theorem dX7_hasChore_10 : decode cX7_hasChore 10 = .ok (.aload_n 0, 1) := by decide +kernel
theorem dX7_hasChore_11 : decode cX7_hasChore 11 = .ok (.getfield 32, 3) := by decide +kernel
theorem dX7_hasChore_14 : decode cX7_hasChore 14 = .ok (.iload_n 1, 1) := by decide +kernel
theorem dX7_hasChore_15 : decode cX7_hasChore 15 = .ok (.invokestatic 28, 3) := by decide +kernel
theorem dX7_hasChore_18 : decode cX7_hasChore 18 = .ok (.ifCond .eq 7, 3) := by decide +kernel
theorem dX7_hasChore_25 : decode cX7_hasChore 25 = .ok (.iconst 0, 1) := by decide +kernel
theorem dX7_hasChore_26 : decode cX7_hasChore 26 = .ok (.ireturn, 1) := by decide +kernel
theorem dX7_hasPerson_0 : decode cX7_hasPerson 0 = .ok (.iload_n 1, 1) := by decide +kernel
theorem dX7_hasPerson_1 : decode cX7_hasPerson 1 = .ok (.ifCond .lt 24, 3) := by decide +kernel
theorem dX7_hasPerson_4 : decode cX7_hasPerson 4 = .ok (.iload_n 1, 1) := by decide +kernel
theorem dX7_hasPerson_5 : decode cX7_hasPerson 5 = .ok (.bipush 10, 2) := by decide +kernel
theorem dX7_hasPerson_7 : decode cX7_hasPerson 7 = .ok (.if_icmp .ge 18, 3) := by decide +kernel
theorem dX7_hasPerson_10 : decode cX7_hasPerson 10 = .ok (.aload_n 0, 1) := by decide +kernel
theorem dX7_hasPerson_11 : decode cX7_hasPerson 11 = .ok (.getfield 24, 3) := by decide +kernel
theorem dX7_hasPerson_14 : decode cX7_hasPerson 14 = .ok (.iload_n 1, 1) := by decide +kernel
theorem dX7_hasPerson_15 : decode cX7_hasPerson 15 = .ok (.invokestatic 28, 3) := by decide +kernel
theorem dX7_hasPerson_18 : decode cX7_hasPerson 18 = .ok (.ifCond .eq 7, 3) := by decide +kernel
theorem dX7_hasPerson_25 : decode cX7_hasPerson 25 = .ok (.iconst 0, 1) := by decide +kernel
theorem dX7_hasPerson_26 : decode cX7_hasPerson 26 = .ok (.ireturn, 1) := by decide +kernel
theorem dX8_allDone_0 : decode cX8_allDone 0 = .ok (.iconst 0, 1) := by decide +kernel
theorem dX8_allDone_1 : decode cX8_allDone 1 = .ok (.istore_n 1, 1) := by decide +kernel
theorem dX8_allDone_2 : decode cX8_allDone 2 = .ok (.iconst 0, 1) := by decide +kernel
theorem dX8_allDone_3 : decode cX8_allDone 3 = .ok (.istore_n 2, 1) := by decide +kernel
theorem dX8_allDone_4 : decode cX8_allDone 4 = .ok (.iload_n 2, 1) := by decide +kernel
theorem dX8_allDone_5 : decode cX8_allDone 5 = .ok (.bipush 10, 2) := by decide +kernel
theorem dX8_allDone_7 : decode cX8_allDone 7 = .ok (.if_icmp .ge 18, 3) := by decide +kernel
theorem dX8_allDone_10 : decode cX8_allDone 10 = .ok (.iload_n 1, 1) := by decide +kernel
theorem dX8_allDone_11 : decode cX8_allDone 11 = .ok (.aload_n 0, 1) := by decide +kernel
theorem dX8_allDone_12 : decode cX8_allDone 12 = .ok (.getfield 25, 3) := by decide +kernel
theorem dX8_allDone_15 : decode cX8_allDone 15 = .ok (.iload_n 2, 1) := by decide +kernel
theorem dX8_allDone_16 : decode cX8_allDone 16 = .ok (.iaload, 1) := by decide +kernel
theorem dX8_allDone_17 : decode cX8_allDone 17 = .ok (.iadd, 1) := by decide +kernel
theorem dX8_allDone_18 : decode cX8_allDone 18 = .ok (.istore_n 1, 1) := by decide +kernel
theorem dX8_allDone_19 : decode cX8_allDone 19 = .ok (.iinc 2 1, 3) := by decide +kernel
theorem dX8_allDone_22 : decode cX8_allDone 22 = .ok (.goto (-18), 3) := by decide +kernel
theorem dX8_allDone_25 : decode cX8_allDone 25 = .ok (.iload_n 1, 1) := by decide +kernel
theorem dX8_allDone_26 : decode cX8_allDone 26 = .ok (.ireturn, 1) := by decide +kernel
theorem dX8_begin_0 : decode cX8_begin 0 = .ok (.aload_n 0, 1) := by decide +kernel
theorem dX8_begin_1 : decode cX8_begin 1 = .ok (.getfield 12, 3) := by decide +kernel
theorem dX8_begin_4 : decode cX8_begin 4 = .ok (.aload_n 1, 1) := by decide +kernel
theorem dX8_begin_5 : decode cX8_begin 5 = .ok (.invokevirtual 36, 3) := by decide +kernel
theorem dX8_begin_8 : decode cX8_begin 8 = .ok (.aload_n 0, 1) := by decide +kernel
theorem dX8_begin_9 : decode cX8_begin 9 = .ok (.getfield 18, 3) := by decide +kernel
theorem dX8_begin_12 : decode cX8_begin 12 = .ok (.iconst 0, 1) := by decide +kernel
theorem dX8_begin_13 : decode cX8_begin 13 = .ok (.invokestatic 40, 3) := by decide +kernel
theorem dX8_begin_16 : decode cX8_begin 16 = .ok (.aload_n 0, 1) := by decide +kernel
theorem dX8_begin_17 : decode cX8_begin 17 = .ok (.getfield 25, 3) := by decide +kernel
theorem dX8_begin_20 : decode cX8_begin 20 = .ok (.iconst 0, 1) := by decide +kernel
theorem dX8_begin_21 : decode cX8_begin 21 = .ok (.invokestatic 40, 3) := by decide +kernel
theorem dX8_begin_24 : decode cX8_begin 24 = .ok (.aload_n 0, 1) := by decide +kernel
theorem dX8_begin_25 : decode cX8_begin 25 = .ok (.iconst (-1), 1) := by decide +kernel
theorem dX8_begin_26 : decode cX8_begin 26 = .ok (.putfield 46, 3) := by decide +kernel
theorem dX8_begin_29 : decode cX8_begin 29 = .ok (.aload_n 0, 1) := by decide +kernel
theorem dX8_begin_30 : decode cX8_begin 30 = .ok (.iconst (-1), 1) := by decide +kernel
theorem dX8_begin_31 : decode cX8_begin 31 = .ok (.putfield 50, 3) := by decide +kernel
theorem dX8_begin_34 : decode cX8_begin 34 = .ok (.aload_n 0, 1) := by decide +kernel
theorem dX8_begin_35 : decode cX8_begin 35 = .ok (.aload_n 1, 1) := by decide +kernel
theorem dX8_begin_36 : decode cX8_begin 36 = .ok (.getfield 53, 3) := by decide +kernel
theorem dX8_begin_39 : decode cX8_begin 39 = .ok (.putfield 56, 3) := by decide +kernel
theorem dX8_begin_42 : decode cX8_begin 42 = .ok (.aload_n 0, 1) := by decide +kernel
theorem dX8_begin_43 : decode cX8_begin 43 = .ok (.iconst 0, 1) := by decide +kernel
theorem dX8_begin_44 : decode cX8_begin 44 = .ok (.putfield 59, 3) := by decide +kernel
theorem dX8_begin_47 : decode cX8_begin 47 = .ok (.aload_n 0, 1) := by decide +kernel
theorem dX8_begin_48 : decode cX8_begin 48 = .ok (.iconst 0, 1) := by decide +kernel
theorem dX8_begin_49 : decode cX8_begin 49 = .ok (.putfield 62, 3) := by decide +kernel
theorem dX8_begin_52 : decode cX8_begin 52 = .ok (.return_, 1) := by decide +kernel
theorem dX8_goThroughDay_0 : decode cX8_goThroughDay 0 = .ok (.aload_n 0, 1) := by decide +kernel
theorem dX8_goThroughDay_1 : decode cX8_goThroughDay 1 = .ok (.getfield 12, 3) := by decide +kernel
theorem dX8_goThroughDay_4 : decode cX8_goThroughDay 4 = .ok (.getfield 78, 3) := by decide +kernel
theorem dX8_goThroughDay_7 : decode cX8_goThroughDay 7 = .ok (.sipush 9999, 3) := by decide +kernel
theorem dX8_goThroughDay_10 : decode cX8_goThroughDay 10 = .ok (.if_icmp .lt 5, 3) := by decide +kernel
theorem dX8_goThroughDay_15 : decode cX8_goThroughDay 15 = .ok (.aload_n 0, 1) := by decide +kernel
theorem dX8_goThroughDay_16 : decode cX8_goThroughDay 16 = .ok (.getfield 12, 3) := by decide +kernel
theorem dX8_goThroughDay_19 : decode cX8_goThroughDay 19 = .ok (.sipush 25173, 3) := by decide +kernel
theorem dX8_goThroughDay_22 : decode cX8_goThroughDay 22 = .ok (.aload_n 0, 1) := by decide +kernel
theorem dX8_goThroughDay_23 : decode cX8_goThroughDay 23 = .ok (.getfield 12, 3) := by decide +kernel
theorem dX8_goThroughDay_26 : decode cX8_goThroughDay 26 = .ok (.getfield 81, 3) := by decide +kernel
theorem dX8_goThroughDay_29 : decode cX8_goThroughDay 29 = .ok (.imul, 1) := by decide +kernel
theorem dX8_goThroughDay_30 : decode cX8_goThroughDay 30 = .ok (.sipush 13849, 3) := by decide +kernel
theorem dX8_goThroughDay_33 : decode cX8_goThroughDay 33 = .ok (.iadd, 1) := by decide +kernel
theorem dX8_goThroughDay_34 : decode cX8_goThroughDay 34 = .ok (.ldc 84, 2) := by decide +kernel
theorem dX8_goThroughDay_36 : decode cX8_goThroughDay 36 = .ok (.irem, 1) := by decide +kernel
theorem dX8_goThroughDay_37 : decode cX8_goThroughDay 37 = .ok (.putfield 81, 3) := by decide +kernel
theorem dX8_goThroughDay_40 : decode cX8_goThroughDay 40 = .ok (.aload_n 0, 1) := by decide +kernel
theorem dX8_goThroughDay_41 : decode cX8_goThroughDay 41 = .ok (.getfield 12, 3) := by decide +kernel
theorem dX8_goThroughDay_44 : decode cX8_goThroughDay 44 = .ok (.getfield 81, 3) := by decide +kernel
theorem dX8_goThroughDay_47 : decode cX8_goThroughDay 47 = .ok (.bipush 10, 2) := by decide +kernel
theorem dX8_goThroughDay_49 : decode cX8_goThroughDay 49 = .ok (.irem, 1) := by decide +kernel
theorem dX8_goThroughDay_50 : decode cX8_goThroughDay 50 = .ok (.aload_n 0, 1) := by decide +kernel
theorem dX8_goThroughDay_51 : decode cX8_goThroughDay 51 = .ok (.getfield 28, 3) := by decide +kernel
theorem dX8_goThroughDay_54 : decode cX8_goThroughDay 54 = .ok (.getfield 85, 3) := by decide +kernel
theorem dX8_goThroughDay_57 : decode cX8_goThroughDay 57 = .ok (.if_icmp .ge 7, 3) := by decide +kernel
theorem dX8_goThroughDay_64 : decode cX8_goThroughDay 64 = .ok (.iconst 0, 1) := by decide +kernel
theorem dX8_goThroughDay_65 : decode cX8_goThroughDay 65 = .ok (.istore_n 1, 1) := by decide +kernel
theorem dX8_goThroughDay_66 : decode cX8_goThroughDay 66 = .ok (.aload_n 0, 1) := by decide +kernel
theorem dX8_goThroughDay_67 : decode cX8_goThroughDay 67 = .ok (.getfield 12, 3) := by decide +kernel
theorem dX8_goThroughDay_70 : decode cX8_goThroughDay 70 = .ok (.invokevirtual 90, 3) := by decide +kernel
theorem dX8_goThroughDay_73 : decode cX8_goThroughDay 73 = .ok (.istore_n 2, 1) := by decide +kernel
theorem dX8_goThroughDay_74 : decode cX8_goThroughDay 74 = .ok (.aload_n 0, 1) := by decide +kernel
theorem dX8_goThroughDay_75 : decode cX8_goThroughDay 75 = .ok (.getfield 32, 3) := by decide +kernel
theorem dX8_goThroughDay_78 : decode cX8_goThroughDay 78 = .ok (.aload_n 0, 1) := by decide +kernel
theorem dX8_goThroughDay_79 : decode cX8_goThroughDay 79 = .ok (.getfield 12, 3) := by decide +kernel
theorem dX8_goThroughDay_82 : decode cX8_goThroughDay 82 = .ok (.getfield 78, 3) := by decide +kernel
theorem dX8_goThroughDay_85 : decode cX8_goThroughDay 85 = .ok (.iload_n 1, 1) := by decide +kernel
theorem dX8_goThroughDay_86 : decode cX8_goThroughDay 86 = .ok (.ifCond .eq 7, 3) := by decide +kernel
theorem dX8_goThroughDay_93 : decode cX8_goThroughDay 93 = .ok (.iconst 0, 1) := by decide +kernel
theorem dX8_goThroughDay_94 : decode cX8_goThroughDay 94 = .ok (.iload_n 2, 1) := by decide +kernel
theorem dX8_goThroughDay_95 : decode cX8_goThroughDay 95 = .ok (.invokestatic 93, 3) := by decide +kernel
theorem dX8_goThroughDay_98 : decode cX8_goThroughDay 98 = .ok (.invokevirtual 99, 3) := by decide +kernel
theorem dX8_goThroughDay_101 : decode cX8_goThroughDay 101 = .ok (.aload_n 0, 1) := by decide +kernel
theorem dX8_goThroughDay_102 : decode cX8_goThroughDay 102 = .ok (.getfield 28, 3) := by decide +kernel
theorem dX8_goThroughDay_105 : decode cX8_goThroughDay 105 = .ok (.getfield 105, 3) := by decide +kernel
theorem dX8_goThroughDay_108 : decode cX8_goThroughDay 108 = .ok (.iload_n 2, 1) := by decide +kernel
theorem dX8_goThroughDay_109 : decode cX8_goThroughDay 109 = .ok (.iconst (-1), 1) := by decide +kernel
theorem dX8_goThroughDay_110 : decode cX8_goThroughDay 110 = .ok (.ixor, 1) := by decide +kernel
theorem dX8_goThroughDay_111 : decode cX8_goThroughDay 111 = .ok (.iand, 1) := by decide +kernel
theorem dX8_goThroughDay_112 : decode cX8_goThroughDay 112 = .ok (.istore_n 3, 1) := by decide +kernel
theorem dX8_goThroughDay_113 : decode cX8_goThroughDay 113 = .ok (.iconst 0, 1) := by decide +kernel
theorem dX8_goThroughDay_114 : decode cX8_goThroughDay 114 = .ok (.istore 4, 2) := by decide +kernel
theorem dX8_goThroughDay_116 : decode cX8_goThroughDay 116 = .ok (.iload 4, 2) := by decide +kernel
theorem dX8_goThroughDay_118 : decode cX8_goThroughDay 118 = .ok (.bipush 10, 2) := by decide +kernel
theorem dX8_goThroughDay_120 : decode cX8_goThroughDay 120 = .ok (.if_icmp .ge 35, 3) := by decide +kernel
theorem dX8_goThroughDay_123 : decode cX8_goThroughDay 123 = .ok (.aload_n 0, 1) := by decide +kernel
theorem dX8_goThroughDay_124 : decode cX8_goThroughDay 124 = .ok (.getfield 22, 3) := by decide +kernel
theorem dX8_goThroughDay_127 : decode cX8_goThroughDay 127 = .ok (.iload 4, 2) := by decide +kernel
theorem dX8_goThroughDay_129 : decode cX8_goThroughDay 129 = .ok (.iload_n 3, 1) := by decide +kernel
theorem dX8_goThroughDay_130 : decode cX8_goThroughDay 130 = .ok (.iload 4, 2) := by decide +kernel
theorem dX8_goThroughDay_132 : decode cX8_goThroughDay 132 = .ok (.invokestatic 108, 3) := by decide +kernel
theorem dX8_goThroughDay_135 : decode cX8_goThroughDay 135 = .ok (.ifCond .eq 12, 3) := by decide +kernel
theorem dX8_goThroughDay_147 : decode cX8_goThroughDay 147 = .ok (.iconst 0, 1) := by decide +kernel
theorem dX8_goThroughDay_148 : decode cX8_goThroughDay 148 = .ok (.iastore, 1) := by decide +kernel
theorem dX8_goThroughDay_149 : decode cX8_goThroughDay 149 = .ok (.iinc 4 1, 3) := by decide +kernel
theorem dX8_goThroughDay_152 : decode cX8_goThroughDay 152 = .ok (.goto (-36), 3) := by decide +kernel
theorem dX8_goThroughDay_155 : decode cX8_goThroughDay 155 = .ok (.iconst 0, 1) := by decide +kernel
theorem dX8_goThroughDay_156 : decode cX8_goThroughDay 156 = .ok (.istore 4, 2) := by decide +kernel
theorem dX8_goThroughDay_158 : decode cX8_goThroughDay 158 = .ok (.iconst 0, 1) := by decide +kernel
theorem dX8_goThroughDay_159 : decode cX8_goThroughDay 159 = .ok (.istore 5, 2) := by decide +kernel
theorem dX8_goThroughDay_161 : decode cX8_goThroughDay 161 = .ok (.iload 5, 2) := by decide +kernel
theorem dX8_goThroughDay_163 : decode cX8_goThroughDay 163 = .ok (.bipush 12, 2) := by decide +kernel
theorem dX8_goThroughDay_165 : decode cX8_goThroughDay 165 = .ok (.if_icmp .ge 39, 3) := by decide +kernel
theorem dX8_goThroughDay_168 : decode cX8_goThroughDay 168 = .ok (.iload 4, 2) := by decide +kernel
theorem dX8_goThroughDay_170 : decode cX8_goThroughDay 170 = .ok (.aload_n 0, 1) := by decide +kernel
theorem dX8_goThroughDay_171 : decode cX8_goThroughDay 171 = .ok (.getfield 28, 3) := by decide +kernel
theorem dX8_goThroughDay_174 : decode cX8_goThroughDay 174 = .ok (.getfield 115, 3) := by decide +kernel
theorem dX8_goThroughDay_177 : decode cX8_goThroughDay 177 = .ok (.iload 5, 2) := by decide +kernel
theorem dX8_goThroughDay_179 : decode cX8_goThroughDay 179 = .ok (.invokestatic 108, 3) := by decide +kernel
theorem dX8_goThroughDay_182 : decode cX8_goThroughDay 182 = .ok (.ifCond .eq 12, 3) := by decide +kernel
theorem dX8_goThroughDay_194 : decode cX8_goThroughDay 194 = .ok (.iconst 0, 1) := by decide +kernel
theorem dX8_goThroughDay_195 : decode cX8_goThroughDay 195 = .ok (.iadd, 1) := by decide +kernel
theorem dX8_goThroughDay_196 : decode cX8_goThroughDay 196 = .ok (.istore 4, 2) := by decide +kernel
theorem dX8_goThroughDay_198 : decode cX8_goThroughDay 198 = .ok (.iinc 5 1, 3) := by decide +kernel
theorem dX8_goThroughDay_201 : decode cX8_goThroughDay 201 = .ok (.goto (-40), 3) := by decide +kernel
theorem dX8_goThroughDay_204 : decode cX8_goThroughDay 204 = .ok (.aload_n 0, 1) := by decide +kernel
theorem dX8_goThroughDay_205 : decode cX8_goThroughDay 205 = .ok (.dup, 1) := by decide +kernel
theorem dX8_goThroughDay_206 : decode cX8_goThroughDay 206 = .ok (.getfield 59, 3) := by decide +kernel
theorem dX8_goThroughDay_209 : decode cX8_goThroughDay 209 = .ok (.iload_n 1, 1) := by decide +kernel
theorem dX8_goThroughDay_210 : decode cX8_goThroughDay 210 = .ok (.ifCond .eq 7, 3) := by decide +kernel
theorem dX8_goThroughDay_217 : decode cX8_goThroughDay 217 = .ok (.iconst 0, 1) := by decide +kernel
theorem dX8_goThroughDay_218 : decode cX8_goThroughDay 218 = .ok (.iadd, 1) := by decide +kernel
theorem dX8_goThroughDay_219 : decode cX8_goThroughDay 219 = .ok (.putfield 59, 3) := by decide +kernel
theorem dX8_goThroughDay_222 : decode cX8_goThroughDay 222 = .ok (.aload_n 0, 1) := by decide +kernel
theorem dX8_goThroughDay_223 : decode cX8_goThroughDay 223 = .ok (.dup, 1) := by decide +kernel
theorem dX8_goThroughDay_224 : decode cX8_goThroughDay 224 = .ok (.getfield 62, 3) := by decide +kernel
theorem dX8_goThroughDay_227 : decode cX8_goThroughDay 227 = .ok (.iload 4, 2) := by decide +kernel
theorem dX8_goThroughDay_229 : decode cX8_goThroughDay 229 = .ok (.ifCond .ne 7, 3) := by decide +kernel
theorem dX8_goThroughDay_232 : decode cX8_goThroughDay 232 = .ok (.iconst 1, 1) := by decide +kernel
theorem dX8_goThroughDay_233 : decode cX8_goThroughDay 233 = .ok (.goto 4, 3) := by decide +kernel
theorem dX8_goThroughDay_237 : decode cX8_goThroughDay 237 = .ok (.iadd, 1) := by decide +kernel
theorem dX8_goThroughDay_238 : decode cX8_goThroughDay 238 = .ok (.putfield 62, 3) := by decide +kernel
theorem dX8_goThroughDay_241 : decode cX8_goThroughDay 241 = .ok (.aload_n 0, 1) := by decide +kernel
theorem dX8_goThroughDay_242 : decode cX8_goThroughDay 242 = .ok (.getfield 12, 3) := by decide +kernel
theorem dX8_goThroughDay_245 : decode cX8_goThroughDay 245 = .ok (.dup, 1) := by decide +kernel
theorem dX8_goThroughDay_246 : decode cX8_goThroughDay 246 = .ok (.getfield 78, 3) := by decide +kernel
theorem dX8_goThroughDay_249 : decode cX8_goThroughDay 249 = .ok (.iconst 1, 1) := by decide +kernel
theorem dX8_goThroughDay_250 : decode cX8_goThroughDay 250 = .ok (.iadd, 1) := by decide +kernel
theorem dX8_goThroughDay_251 : decode cX8_goThroughDay 251 = .ok (.putfield 78, 3) := by decide +kernel
theorem dX8_goThroughDay_254 : decode cX8_goThroughDay 254 = .ok (.iload 4, 2) := by decide +kernel
theorem dX8_goThroughDay_256 : decode cX8_goThroughDay 256 = .ok (.ireturn, 1) := by decide +kernel
theorem dX8_run_0 : decode cX8_run 0 = .ok (.iconst 0, 1) := by decide +kernel
theorem dX8_run_1 : decode cX8_run 1 = .ok (.istore_n 3, 1) := by decide +kernel
theorem dX8_run_2 : decode cX8_run 2 = .ok (.iload_n 3, 1) := by decide +kernel
theorem dX8_run_3 : decode cX8_run 3 = .ok (.iload_n 1, 1) := by decide +kernel
theorem dX8_run_4 : decode cX8_run 4 = .ok (.if_icmp .ge 30, 3) := by decide +kernel
theorem dX8_run_7 : decode cX8_run 7 = .ok (.aload_n 0, 1) := by decide +kernel
theorem dX8_run_8 : decode cX8_run 8 = .ok (.getfield 12, 3) := by decide +kernel
theorem dX8_run_11 : decode cX8_run 11 = .ok (.getfield 53, 3) := by decide +kernel
theorem dX8_run_14 : decode cX8_run 14 = .ok (.aload_n 0, 1) := by decide +kernel
theorem dX8_run_15 : decode cX8_run 15 = .ok (.getfield 56, 3) := by decide +kernel
theorem dX8_run_18 : decode cX8_run 18 = .ok (.isub, 1) := by decide +kernel
theorem dX8_run_19 : decode cX8_run 19 = .ok (.iload_n 2, 1) := by decide +kernel
theorem dX8_run_20 : decode cX8_run 20 = .ok (.if_icmp .ge 14, 3) := by decide +kernel
theorem dX8_run_23 : decode cX8_run 23 = .ok (.aload_n 0, 1) := by decide +kernel
theorem dX8_run_24 : decode cX8_run 24 = .ok (.invokevirtual 74, 3) := by decide +kernel
theorem dX8_run_27 : decode cX8_run 27 = .ok (.pop, 1) := by decide +kernel
theorem dX8_run_28 : decode cX8_run 28 = .ok (.iinc 3 1, 3) := by decide +kernel
theorem dX8_run_31 : decode cX8_run 31 = .ok (.goto (-29), 3) := by decide +kernel
theorem dX8_run_34 : decode cX8_run 34 = .ok (.aload_n 0, 1) := by decide +kernel
theorem dX8_run_35 : decode cX8_run 35 = .ok (.getfield 12, 3) := by decide +kernel
theorem dX8_run_38 : decode cX8_run 38 = .ok (.getfield 53, 3) := by decide +kernel
theorem dX8_run_41 : decode cX8_run 41 = .ok (.aload_n 0, 1) := by decide +kernel
theorem dX8_run_42 : decode cX8_run 42 = .ok (.getfield 56, 3) := by decide +kernel
theorem dX8_run_45 : decode cX8_run 45 = .ok (.isub, 1) := by decide +kernel
theorem dX8_run_46 : decode cX8_run 46 = .ok (.ireturn, 1) := by decide +kernel
theorem dX8_setFront_0 : decode cX8_setFront 0 = .ok (.aload_n 0, 1) := by decide +kernel
theorem dX8_setFront_1 : decode cX8_setFront 1 = .ok (.iload_n 1, 1) := by decide +kernel
theorem dX8_setFront_2 : decode cX8_setFront 2 = .ok (.putfield 50, 3) := by decide +kernel
theorem dX8_setFront_5 : decode cX8_setFront 5 = .ok (.aload_n 0, 1) := by decide +kernel
theorem dX8_setFront_6 : decode cX8_setFront 6 = .ok (.iload_n 2, 1) := by decide +kernel
theorem dX8_setFront_7 : decode cX8_setFront 7 = .ok (.putfield 71, 3) := by decide +kernel
theorem dX8_setFront_10 : decode cX8_setFront 10 = .ok (.return_, 1) := by decide +kernel
theorem dX8_setIdle_0 : decode cX8_setIdle 0 = .ok (.aload_n 0, 1) := by decide +kernel
theorem dX8_setIdle_1 : decode cX8_setIdle 1 = .ok (.iload_n 1, 1) := by decide +kernel
theorem dX8_setIdle_2 : decode cX8_setIdle 2 = .ok (.putfield 46, 3) := by decide +kernel
theorem dX8_setIdle_5 : decode cX8_setIdle 5 = .ok (.aload_n 0, 1) := by decide +kernel
theorem dX8_setIdle_6 : decode cX8_setIdle 6 = .ok (.iload_n 2, 1) := by decide +kernel
theorem dX8_setIdle_7 : decode cX8_setIdle 7 = .ok (.putfield 65, 3) := by decide +kernel
theorem dX8_setIdle_10 : decode cX8_setIdle 10 = .ok (.aload_n 0, 1) := by decide +kernel
theorem dX8_setIdle_11 : decode cX8_setIdle 11 = .ok (.iload_n 3, 1) := by decide +kernel
theorem dX8_setIdle_12 : decode cX8_setIdle 12 = .ok (.putfield 68, 3) := by decide +kernel
theorem dX8_setIdle_15 : decode cX8_setIdle 15 = .ok (.return_, 1) := by decide +kernel
theorem dX8_staysClear_0 : decode cX8_staysClear 0 = .ok (.iconst 1, 1) := by decide +kernel
theorem dX8_staysClear_1 : decode cX8_staysClear 1 = .ok (.istore_n 2, 1) := by decide +kernel
theorem dX8_staysClear_2 : decode cX8_staysClear 2 = .ok (.iconst 0, 1) := by decide +kernel
theorem dX8_staysClear_3 : decode cX8_staysClear 3 = .ok (.istore_n 3, 1) := by decide +kernel
theorem dX8_staysClear_4 : decode cX8_staysClear 4 = .ok (.iload_n 3, 1) := by decide +kernel
theorem dX8_staysClear_5 : decode cX8_staysClear 5 = .ok (.iload_n 1, 1) := by decide +kernel
theorem dX8_staysClear_6 : decode cX8_staysClear 6 = .ok (.if_icmp .ge 26, 3) := by decide +kernel
theorem dX8_staysClear_9 : decode cX8_staysClear 9 = .ok (.iload_n 2, 1) := by decide +kernel
theorem dX8_staysClear_10 : decode cX8_staysClear 10 = .ok (.ifCond .eq 22, 3) := by decide +kernel
theorem dX8_staysClear_13 : decode cX8_staysClear 13 = .ok (.aload_n 0, 1) := by decide +kernel
theorem dX8_staysClear_14 : decode cX8_staysClear 14 = .ok (.invokevirtual 74, 3) := by decide +kernel
theorem dX8_staysClear_17 : decode cX8_staysClear 17 = .ok (.ifCond .ne 7, 3) := by decide +kernel
theorem dX8_staysClear_20 : decode cX8_staysClear 20 = .ok (.iconst 1, 1) := by decide +kernel
theorem dX8_staysClear_21 : decode cX8_staysClear 21 = .ok (.goto 4, 3) := by decide +kernel
theorem dX8_staysClear_25 : decode cX8_staysClear 25 = .ok (.istore_n 2, 1) := by decide +kernel
theorem dX8_staysClear_26 : decode cX8_staysClear 26 = .ok (.iinc 3 1, 3) := by decide +kernel
theorem dX8_staysClear_29 : decode cX8_staysClear 29 = .ok (.goto (-25), 3) := by decide +kernel
theorem dX8_staysClear_32 : decode cX8_staysClear 32 = .ok (.iload_n 2, 1) := by decide +kernel
theorem dX8_staysClear_33 : decode cX8_staysClear 33 = .ok (.ireturn, 1) := by decide +kernel
theorem dX9_against_0 : decode cX9_against 0 = .ok (.aload_n 0, 1) := by decide +kernel
theorem dX9_against_1 : decode cX9_against 1 = .ok (.getfield 19, 3) := by decide +kernel
theorem dX9_against_4 : decode cX9_against 4 = .ok (.iload_n 1, 1) := by decide +kernel
theorem dX9_against_5 : decode cX9_against 5 = .ok (.invokevirtual 173, 3) := by decide +kernel
theorem dX9_against_8 : decode cX9_against 8 = .ok (.ifCond .eq 23, 3) := by decide +kernel
theorem dX9_against_31 : decode cX9_against 31 = .ok (.iconst 0, 1) := by decide +kernel
theorem dX9_against_32 : decode cX9_against 32 = .ok (.istore 6, 2) := by decide +kernel
theorem dX9_against_34 : decode cX9_against 34 = .ok (.iload 6, 2) := by decide +kernel
theorem dX9_against_36 : decode cX9_against 36 = .ok (.ifCond .eq 33, 3) := by decide +kernel
theorem dX9_against_69 : decode cX9_against 69 = .ok (.ldc 231, 2) := by decide +kernel
theorem dX9_against_71 : decode cX9_against 71 = .ok (.ireturn, 1) := by decide +kernel
theorem dX9_allIsDoneIfStay_0 : decode cX9_allIsDoneIfStay 0 = .ok (.aload_n 0, 1) := by decide +kernel
theorem dX9_allIsDoneIfStay_1 : decode cX9_allIsDoneIfStay 1 = .ok (.getfield 73, 3) := by decide +kernel
theorem dX9_allIsDoneIfStay_4 : decode cX9_allIsDoneIfStay 4 = .ok (.aload_n 0, 1) := by decide +kernel
theorem dX9_allIsDoneIfStay_5 : decode cX9_allIsDoneIfStay 5 = .ok (.getfield 26, 3) := by decide +kernel
theorem dX9_allIsDoneIfStay_8 : decode cX9_allIsDoneIfStay 8 = .ok (.invokevirtual 157, 3) := by decide +kernel
theorem dX9_allIsDoneIfStay_11 : decode cX9_allIsDoneIfStay 11 = .ok (.aload_n 0, 1) := by decide +kernel
theorem dX9_allIsDoneIfStay_12 : decode cX9_allIsDoneIfStay 12 = .ok (.getfield 73, 3) := by decide +kernel
theorem dX9_allIsDoneIfStay_15 : decode cX9_allIsDoneIfStay 15 = .ok (.getfield 165, 3) := by decide +kernel
theorem dX9_allIsDoneIfStay_18 : decode cX9_allIsDoneIfStay 18 = .ok (.iload_n 1, 1) := by decide +kernel
theorem dX9_allIsDoneIfStay_19 : decode cX9_allIsDoneIfStay 19 = .ok (.invokevirtual 147, 3) := by decide +kernel
theorem dX9_allIsDoneIfStay_22 : decode cX9_allIsDoneIfStay 22 = .ok (.aload_n 0, 1) := by decide +kernel
theorem dX9_allIsDoneIfStay_23 : decode cX9_allIsDoneIfStay 23 = .ok (.getfield 73, 3) := by decide +kernel
theorem dX9_allIsDoneIfStay_26 : decode cX9_allIsDoneIfStay 26 = .ok (.iload_n 2, 1) := by decide +kernel
theorem dX9_allIsDoneIfStay_27 : decode cX9_allIsDoneIfStay 27 = .ok (.invokevirtual 323, 3) := by decide +kernel
theorem dX9_allIsDoneIfStay_30 : decode cX9_allIsDoneIfStay 30 = .ok (.ireturn, 1) := by decide +kernel
theorem dX9_areTold_0 : decode cX9_areTold 0 = .ok (.iload_n 1, 1) := by decide +kernel
theorem dX9_areTold_1 : decode cX9_areTold 1 = .ok (.aload_n 0, 1) := by decide +kernel
theorem dX9_areTold_2 : decode cX9_areTold 2 = .ok (.getfield 19, 3) := by decide +kernel
theorem dX9_areTold_5 : decode cX9_areTold 5 = .ok (.getfield 85, 3) := by decide +kernel
theorem dX9_areTold_8 : decode cX9_areTold 8 = .ok (.iconst (-1), 1) := by decide +kernel
theorem dX9_areTold_9 : decode cX9_areTold 9 = .ok (.ixor, 1) := by decide +kernel
theorem dX9_areTold_10 : decode cX9_areTold 10 = .ok (.iand, 1) := by decide +kernel
theorem dX9_areTold_11 : decode cX9_areTold 11 = .ok (.ifCond .ne 7, 3) := by decide +kernel
theorem dX9_areTold_14 : decode cX9_areTold 14 = .ok (.iconst 1, 1) := by decide +kernel
theorem dX9_areTold_15 : decode cX9_areTold 15 = .ok (.goto 4, 3) := by decide +kernel
theorem dX9_areTold_18 : decode cX9_areTold 18 = .ok (.iconst 0, 1) := by decide +kernel
theorem dX9_areTold_19 : decode cX9_areTold 19 = .ok (.ireturn, 1) := by decide +kernel
theorem dX9_byTurns_0 : decode cX9_byTurns 0 = .ok (.iload_n 1, 1) := by decide +kernel
theorem dX9_byTurns_1 : decode cX9_byTurns 1 = .ok (.invokestatic 142, 3) := by decide +kernel
theorem dX9_byTurns_4 : decode cX9_byTurns 4 = .ok (.istore 4, 2) := by decide +kernel
theorem dX9_byTurns_6 : decode cX9_byTurns 6 = .ok (.aload_n 0, 1) := by decide +kernel
theorem dX9_byTurns_7 : decode cX9_byTurns 7 = .ok (.iload_n 1, 1) := by decide +kernel
theorem dX9_byTurns_8 : decode cX9_byTurns 8 = .ok (.invokevirtual 221, 3) := by decide +kernel
theorem dX9_byTurns_11 : decode cX9_byTurns 11 = .ok (.ifCond .eq 35, 3) := by decide +kernel
theorem dX9_byTurns_14 : decode cX9_byTurns 14 = .ok (.iload 4, 2) := by decide +kernel
end
section
theorem dX9_byTurns_16 : decode cX9_byTurns 16 = .ok (.iconst 2, 1) := by decide +kernel
theorem dX9_byTurns_17 : decode cX9_byTurns 17 = .ok (.iconst 4, 1) := by decide +kernel
theorem dX9_byTurns_18 : decode cX9_byTurns 18 = .ok (.invokestatic 81, 3) := by decide +kernel
theorem dX9_byTurns_21 : decode cX9_byTurns 21 = .ok (.ifCond .eq 25, 3) := by decide +kernel
theorem dX9_byTurns_46 : decode cX9_byTurns 46 = .ok (.iconst 0, 1) := by decide +kernel
theorem dX9_byTurns_47 : decode cX9_byTurns 47 = .ok (.istore 5, 2) := by decide +kernel
theorem dX9_byTurns_49 : decode cX9_byTurns 49 = .ok (.iload 5, 2) := by decide +kernel
theorem dX9_byTurns_51 : decode cX9_byTurns 51 = .ok (.ifCond .eq 13, 3) := by decide +kernel
theorem dX9_byTurns_64 : decode cX9_byTurns 64 = .ok (.iconst (-1), 1) := by decide +kernel
theorem dX9_byTurns_65 : decode cX9_byTurns 65 = .ok (.ireturn, 1) := by decide +kernel
theorem dX9_canLeave_0 : decode cX9_canLeave 0 = .ok (.aload_n 0, 1) := by decide +kernel
theorem dX9_canLeave_1 : decode cX9_canLeave 1 = .ok (.getfield 19, 3) := by decide +kernel
theorem dX9_canLeave_4 : decode cX9_canLeave 4 = .ok (.iload_n 1, 1) := by decide +kernel
theorem dX9_canLeave_5 : decode cX9_canLeave 5 = .ok (.invokevirtual 173, 3) := by decide +kernel
theorem dX9_canLeave_8 : decode cX9_canLeave 8 = .ok (.ifCond .eq 18, 3) := by decide +kernel
theorem dX9_canLeave_26 : decode cX9_canLeave 26 = .ok (.iconst 0, 1) := by decide +kernel
theorem dX9_canLeave_27 : decode cX9_canLeave 27 = .ok (.ireturn, 1) := by decide +kernel
theorem dX9_check_0 : decode cX9_check 0 = .ok (.aload_n 0, 1) := by decide +kernel
theorem dX9_check_1 : decode cX9_check 1 = .ok (.getfield 10, 3) := by decide +kernel
theorem dX9_check_4 : decode cX9_check 4 = .ok (.iload_n 1, 1) := by decide +kernel
theorem dX9_check_5 : decode cX9_check 5 = .ok (.iconst 0, 1) := by decide +kernel
theorem dX9_check_6 : decode cX9_check 6 = .ok (.bipush 12, 2) := by decide +kernel
theorem dX9_check_8 : decode cX9_check 8 = .ok (.invokevirtual 115, 3) := by decide +kernel
theorem dX9_check_11 : decode cX9_check 11 = .ok (.ifCond .ne 6, 3) := by decide +kernel
theorem dX9_check_14 : decode cX9_check 14 = .ok (.bipush (-2), 2) := by decide +kernel
theorem dX9_check_16 : decode cX9_check 16 = .ok (.ireturn, 1) := by decide +kernel
theorem dX9_check_17 : decode cX9_check 17 = .ok (.aload_n 0, 1) := by decide +kernel
theorem dX9_check_18 : decode cX9_check 18 = .ok (.aload_n 0, 1) := by decide +kernel
theorem dX9_check_19 : decode cX9_check 19 = .ok (.getfield 26, 3) := by decide +kernel
theorem dX9_check_22 : decode cX9_check 22 = .ok (.iload_n 1, 1) := by decide +kernel
theorem dX9_check_23 : decode cX9_check 23 = .ok (.invokevirtual 270, 3) := by decide +kernel
theorem dX9_check_26 : decode cX9_check 26 = .ok (.istore_n 2, 1) := by decide +kernel
theorem dX9_check_27 : decode cX9_check 27 = .ok (.aload_n 0, 1) := by decide +kernel
theorem dX9_check_28 : decode cX9_check 28 = .ok (.getfield 10, 3) := by decide +kernel
theorem dX9_check_31 : decode cX9_check 31 = .ok (.iconst 0, 1) := by decide +kernel
theorem dX9_check_32 : decode cX9_check 32 = .ok (.putfield 112, 3) := by decide +kernel
theorem dX9_check_35 : decode cX9_check 35 = .ok (.iload_n 2, 1) := by decide +kernel
theorem dX9_check_36 : decode cX9_check 36 = .ok (.ireturn, 1) := by decide +kernel
theorem dX9_chore_0 : decode cX9_chore 0 = .ok (.iload_n 1, 1) := by decide +kernel
theorem dX9_chore_1 : decode cX9_chore 1 = .ok (.iconst 0, 1) := by decide +kernel
theorem dX9_chore_2 : decode cX9_chore 2 = .ok (.bipush 11, 2) := by decide +kernel
theorem dX9_chore_4 : decode cX9_chore 4 = .ok (.invokestatic 81, 3) := by decide +kernel
theorem dX9_chore_7 : decode cX9_chore 7 = .ok (.ifCond .eq 13, 3) := by decide +kernel
theorem dX9_chore_10 : decode cX9_chore 10 = .ok (.iload_n 2, 1) := by decide +kernel
theorem dX9_chore_11 : decode cX9_chore 11 = .ok (.iconst 0, 1) := by decide +kernel
theorem dX9_chore_12 : decode cX9_chore 12 = .ok (.bipush 20, 2) := by decide +kernel
theorem dX9_chore_14 : decode cX9_chore 14 = .ok (.invokestatic 81, 3) := by decide +kernel
theorem dX9_chore_17 : decode cX9_chore 17 = .ok (.ifCond .ne 5, 3) := by decide +kernel
theorem dX9_chore_20 : decode cX9_chore 20 = .ok (.iconst 0, 1) := by decide +kernel
theorem dX9_chore_21 : decode cX9_chore 21 = .ok (.ireturn, 1) := by decide +kernel
theorem dX9_chore_22 : decode cX9_chore 22 = .ok (.aload_n 0, 1) := by decide +kernel
theorem dX9_chore_23 : decode cX9_chore 23 = .ok (.getfield 19, 3) := by decide +kernel
theorem dX9_chore_26 : decode cX9_chore 26 = .ok (.dup, 1) := by decide +kernel
theorem dX9_chore_27 : decode cX9_chore 27 = .ok (.getfield 92, 3) := by decide +kernel
theorem dX9_chore_30 : decode cX9_chore 30 = .ok (.iconst 1, 1) := by decide +kernel
theorem dX9_chore_31 : decode cX9_chore 31 = .ok (.iload_n 1, 1) := by decide +kernel
theorem dX9_chore_32 : decode cX9_chore 32 = .ok (.ishl, 1) := by decide +kernel
theorem dX9_chore_33 : decode cX9_chore 33 = .ok (.ior, 1) := by decide +kernel
theorem dX9_chore_34 : decode cX9_chore 34 = .ok (.putfield 92, 3) := by decide +kernel
theorem dX9_chore_37 : decode cX9_chore 37 = .ok (.aload_n 0, 1) := by decide +kernel
theorem dX9_chore_38 : decode cX9_chore 38 = .ok (.getfield 19, 3) := by decide +kernel
theorem dX9_chore_41 : decode cX9_chore 41 = .ok (.getfield 95, 3) := by decide +kernel
theorem dX9_chore_44 : decode cX9_chore 44 = .ok (.iload_n 1, 1) := by decide +kernel
theorem dX9_chore_45 : decode cX9_chore 45 = .ok (.iload_n 2, 1) := by decide +kernel
theorem dX9_chore_46 : decode cX9_chore 46 = .ok (.iastore, 1) := by decide +kernel
theorem dX9_chore_47 : decode cX9_chore 47 = .ok (.aload_n 0, 1) := by decide +kernel
theorem dX9_chore_48 : decode cX9_chore 48 = .ok (.getfield 26, 3) := by decide +kernel
theorem dX9_chore_51 : decode cX9_chore 51 = .ok (.getfield 98, 3) := by decide +kernel
theorem dX9_chore_54 : decode cX9_chore 54 = .ok (.iload_n 1, 1) := by decide +kernel
theorem dX9_chore_55 : decode cX9_chore 55 = .ok (.iconst 0, 1) := by decide +kernel
theorem dX9_chore_56 : decode cX9_chore 56 = .ok (.iastore, 1) := by decide +kernel
theorem dX9_chore_57 : decode cX9_chore 57 = .ok (.iconst 1, 1) := by decide +kernel
theorem dX9_chore_58 : decode cX9_chore 58 = .ok (.ireturn, 1) := by decide +kernel
theorem dX9_choreIs_0 : decode cX9_choreIs 0 = .ok (.aload_n 0, 1) := by decide +kernel
theorem dX9_choreIs_1 : decode cX9_choreIs 1 = .ok (.getfield 19, 3) := by decide +kernel
theorem dX9_choreIs_4 : decode cX9_choreIs 4 = .ok (.iload_n 1, 1) := by decide +kernel
theorem dX9_choreIs_5 : decode cX9_choreIs 5 = .ok (.invokevirtual 170, 3) := by decide +kernel
theorem dX9_choreIs_8 : decode cX9_choreIs 8 = .ok (.ifCond .ne 5, 3) := by decide +kernel
theorem dX9_choreIs_11 : decode cX9_choreIs 11 = .ok (.iconst (-1), 1) := by decide +kernel
theorem dX9_choreIs_12 : decode cX9_choreIs 12 = .ok (.ireturn, 1) := by decide +kernel
theorem dX9_cost_0 : decode cX9_cost 0 = .ok (.iload_n 2, 1) := by decide +kernel
theorem dX9_cost_1 : decode cX9_cost 1 = .ok (.invokestatic 154, 3) := by decide +kernel
theorem dX9_cost_4 : decode cX9_cost 4 = .ok (.ifCond .eq 23, 3) := by decide +kernel
theorem dX9_cost_7 : decode cX9_cost 7 = .ok (.aload_n 0, 1) := by decide +kernel
theorem dX9_cost_8 : decode cX9_cost 8 = .ok (.iload_n 1, 1) := by decide +kernel
theorem dX9_cost_9 : decode cX9_cost 9 = .ok (.invokevirtual 221, 3) := by decide +kernel
theorem dX9_cost_12 : decode cX9_cost 12 = .ok (.ifCond .eq 15, 3) := by decide +kernel
theorem dX9_cost_15 : decode cX9_cost 15 = .ok (.aload_n 0, 1) := by decide +kernel
theorem dX9_cost_16 : decode cX9_cost 16 = .ok (.iload_n 1, 1) := by decide +kernel
theorem dX9_cost_17 : decode cX9_cost 17 = .ok (.iload_n 2, 1) := by decide +kernel
theorem dX9_cost_18 : decode cX9_cost 18 = .ok (.iconst (-1), 1) := by decide +kernel
theorem dX9_cost_19 : decode cX9_cost 19 = .ok (.iconst (-1), 1) := by decide +kernel
theorem dX9_cost_20 : decode cX9_cost 20 = .ok (.iconst (-1), 1) := by decide +kernel
theorem dX9_cost_21 : decode cX9_cost 21 = .ok (.invokevirtual 224, 3) := by decide +kernel
theorem dX9_cost_24 : decode cX9_cost 24 = .ok (.goto 4, 3) := by decide +kernel
theorem dX9_cost_27 : decode cX9_cost 27 = .ok (.iconst (-1), 1) := by decide +kernel
theorem dX9_cost_28 : decode cX9_cost 28 = .ok (.ireturn, 1) := by decide +kernel
theorem dX9_costIf_0 : decode cX9_costIf 0 = .ok (.aload_n 0, 1) := by decide +kernel
theorem dX9_costIf_1 : decode cX9_costIf 1 = .ok (.getfield 73, 3) := by decide +kernel
theorem dX9_costIf_4 : decode cX9_costIf 4 = .ok (.aload_n 0, 1) := by decide +kernel
theorem dX9_costIf_5 : decode cX9_costIf 5 = .ok (.getfield 26, 3) := by decide +kernel
theorem dX9_costIf_8 : decode cX9_costIf 8 = .ok (.invokevirtual 157, 3) := by decide +kernel
theorem dX9_costIf_11 : decode cX9_costIf 11 = .ok (.aload_n 0, 1) := by decide +kernel
theorem dX9_costIf_12 : decode cX9_costIf 12 = .ok (.getfield 73, 3) := by decide +kernel
theorem dX9_costIf_15 : decode cX9_costIf 15 = .ok (.getfield 165, 3) := by decide +kernel
theorem dX9_costIf_18 : decode cX9_costIf 18 = .ok (.iload_n 1, 1) := by decide +kernel
theorem dX9_costIf_19 : decode cX9_costIf 19 = .ok (.iconst (-1), 1) := by decide +kernel
theorem dX9_costIf_20 : decode cX9_costIf 20 = .ok (.ixor, 1) := by decide +kernel
theorem dX9_costIf_21 : decode cX9_costIf 21 = .ok (.invokevirtual 147, 3) := by decide +kernel
theorem dX9_costIf_24 : decode cX9_costIf 24 = .ok (.aload_n 0, 1) := by decide +kernel
theorem dX9_costIf_25 : decode cX9_costIf 25 = .ok (.getfield 73, 3) := by decide +kernel
theorem dX9_costIf_28 : decode cX9_costIf 28 = .ok (.iload_n 3, 1) := by decide +kernel
theorem dX9_costIf_29 : decode cX9_costIf 29 = .ok (.iconst 0, 1) := by decide +kernel
theorem dX9_costIf_30 : decode cX9_costIf 30 = .ok (.sipush 9999, 3) := by decide +kernel
theorem dX9_costIf_33 : decode cX9_costIf 33 = .ok (.invokevirtual 303, 3) := by decide +kernel
theorem dX9_costIf_36 : decode cX9_costIf 36 = .ok (.aload_n 0, 1) := by decide +kernel
theorem dX9_costIf_37 : decode cX9_costIf 37 = .ok (.getfield 73, 3) := by decide +kernel
theorem dX9_costIf_40 : decode cX9_costIf 40 = .ok (.iload 4, 2) := by decide +kernel
theorem dX9_costIf_42 : decode cX9_costIf 42 = .ok (.iload 5, 2) := by decide +kernel
theorem dX9_costIf_44 : decode cX9_costIf 44 = .ok (.invokevirtual 307, 3) := by decide +kernel
theorem dX9_costIf_47 : decode cX9_costIf 47 = .ok (.aload_n 0, 1) := by decide +kernel
theorem dX9_costIf_48 : decode cX9_costIf 48 = .ok (.getfield 73, 3) := by decide +kernel
theorem dX9_costIf_51 : decode cX9_costIf 51 = .ok (.iload_n 2, 1) := by decide +kernel
theorem dX9_costIf_52 : decode cX9_costIf 52 = .ok (.ldc 160, 2) := by decide +kernel
theorem dX9_costIf_54 : decode cX9_costIf 54 = .ok (.invokevirtual 161, 3) := by decide +kernel
theorem dX9_costIf_57 : decode cX9_costIf 57 = .ok (.ireturn, 1) := by decide +kernel
theorem dX9_count_0 : decode cX9_count 0 = .ok (.iload_n 1, 1) := by decide +kernel
theorem dX9_count_1 : decode cX9_count 1 = .ok (.tableswitch 135 0 9 #[55, 63, 71, 79, 87, 95, 103, 111, 119, 127], 55) := by decide +kernel
theorem dX9_count_56 : decode cX9_count 56 = .ok (.aload_n 0, 1) := by decide +kernel
theorem dX9_count_57 : decode cX9_count 57 = .ok (.getfield 26, 3) := by decide +kernel
theorem dX9_count_60 : decode cX9_count 60 = .ok (.getfield 209, 3) := by decide +kernel
theorem dX9_count_63 : decode cX9_count 63 = .ok (.ireturn, 1) := by decide +kernel
theorem dX9_count_64 : decode cX9_count 64 = .ok (.aload_n 0, 1) := by decide +kernel
theorem dX9_count_65 : decode cX9_count 65 = .ok (.getfield 26, 3) := by decide +kernel
theorem dX9_count_68 : decode cX9_count 68 = .ok (.getfield 212, 3) := by decide +kernel
theorem dX9_count_71 : decode cX9_count 71 = .ok (.ireturn, 1) := by decide +kernel
theorem dX9_count_72 : decode cX9_count 72 = .ok (.aload_n 0, 1) := by decide +kernel
theorem dX9_count_73 : decode cX9_count 73 = .ok (.getfield 19, 3) := by decide +kernel
theorem dX9_count_76 : decode cX9_count 76 = .ok (.getfield 85, 3) := by decide +kernel
theorem dX9_count_79 : decode cX9_count 79 = .ok (.ireturn, 1) := by decide +kernel
theorem dX9_count_80 : decode cX9_count 80 = .ok (.aload_n 0, 1) := by decide +kernel
theorem dX9_count_81 : decode cX9_count 81 = .ok (.getfield 19, 3) := by decide +kernel
theorem dX9_count_84 : decode cX9_count 84 = .ok (.getfield 92, 3) := by decide +kernel
theorem dX9_count_87 : decode cX9_count 87 = .ok (.ireturn, 1) := by decide +kernel
theorem dX9_count_88 : decode cX9_count 88 = .ok (.aload_n 0, 1) := by decide +kernel
theorem dX9_count_89 : decode cX9_count 89 = .ok (.getfield 26, 3) := by decide +kernel
theorem dX9_count_92 : decode cX9_count 92 = .ok (.invokevirtual 215, 3) := by decide +kernel
theorem dX9_count_95 : decode cX9_count 95 = .ok (.ireturn, 1) := by decide +kernel
theorem dX9_count_96 : decode cX9_count 96 = .ok (.aload_n 0, 1) := by decide +kernel
theorem dX9_count_97 : decode cX9_count 97 = .ok (.getfield 36, 3) := by decide +kernel
theorem dX9_count_100 : decode cX9_count 100 = .ok (.getfield 218, 3) := by decide +kernel
theorem dX9_count_103 : decode cX9_count 103 = .ok (.ireturn, 1) := by decide +kernel
theorem dX9_count_104 : decode cX9_count 104 = .ok (.aload_n 0, 1) := by decide +kernel
theorem dX9_count_105 : decode cX9_count 105 = .ok (.getfield 10, 3) := by decide +kernel
theorem dX9_count_108 : decode cX9_count 108 = .ok (.getfield 112, 3) := by decide +kernel
theorem dX9_count_111 : decode cX9_count 111 = .ok (.ireturn, 1) := by decide +kernel
theorem dX9_count_112 : decode cX9_count 112 = .ok (.aload_n 0, 1) := by decide +kernel
theorem dX9_count_113 : decode cX9_count 113 = .ok (.getfield 26, 3) := by decide +kernel
theorem dX9_count_116 : decode cX9_count 116 = .ok (.getfield 151, 3) := by decide +kernel
theorem dX9_count_119 : decode cX9_count 119 = .ok (.ireturn, 1) := by decide +kernel
theorem dX9_count_120 : decode cX9_count 120 = .ok (.aload_n 0, 1) := by decide +kernel
theorem dX9_count_121 : decode cX9_count 121 = .ok (.getfield 19, 3) := by decide +kernel
theorem dX9_count_124 : decode cX9_count 124 = .ok (.getfield 101, 3) := by decide +kernel
theorem dX9_count_127 : decode cX9_count 127 = .ok (.ireturn, 1) := by decide +kernel
theorem dX9_count_128 : decode cX9_count 128 = .ok (.aload_n 0, 1) := by decide +kernel
theorem dX9_count_129 : decode cX9_count 129 = .ok (.getfield 26, 3) := by decide +kernel
theorem dX9_count_132 : decode cX9_count 132 = .ok (.invokevirtual 138, 3) := by decide +kernel
theorem dX9_count_135 : decode cX9_count 135 = .ok (.ireturn, 1) := by decide +kernel
theorem dX9_count_136 : decode cX9_count 136 = .ok (.iconst (-1), 1) := by decide +kernel
theorem dX9_count_137 : decode cX9_count 137 = .ok (.ireturn, 1) := by decide +kernel
theorem dX9_days_0 : decode cX9_days 0 = .ok (.iload_n 1, 1) := by decide +kernel
theorem dX9_days_1 : decode cX9_days 1 = .ok (.invokestatic 154, 3) := by decide +kernel
theorem dX9_days_4 : decode cX9_days 4 = .ok (.ifCond .ne 5, 3) := by decide +kernel
theorem dX9_days_7 : decode cX9_days 7 = .ok (.iconst (-1), 1) := by decide +kernel
theorem dX9_days_8 : decode cX9_days 8 = .ok (.ireturn, 1) := by decide +kernel
theorem dX9_days_9 : decode cX9_days 9 = .ok (.aload_n 0, 1) := by decide +kernel
theorem dX9_days_10 : decode cX9_days 10 = .ok (.getfield 73, 3) := by decide +kernel
theorem dX9_days_13 : decode cX9_days 13 = .ok (.aload_n 0, 1) := by decide +kernel
theorem dX9_days_14 : decode cX9_days 14 = .ok (.getfield 26, 3) := by decide +kernel
theorem dX9_days_17 : decode cX9_days 17 = .ok (.invokevirtual 157, 3) := by decide +kernel
theorem dX9_days_20 : decode cX9_days 20 = .ok (.aload_n 0, 1) := by decide +kernel
theorem dX9_days_21 : decode cX9_days 21 = .ok (.getfield 73, 3) := by decide +kernel
theorem dX9_days_24 : decode cX9_days 24 = .ok (.iload_n 1, 1) := by decide +kernel
theorem dX9_days_25 : decode cX9_days 25 = .ok (.ldc 160, 2) := by decide +kernel
theorem dX9_days_27 : decode cX9_days 27 = .ok (.invokevirtual 161, 3) := by decide +kernel
theorem dX9_days_30 : decode cX9_days 30 = .ok (.istore_n 2, 1) := by decide +kernel
theorem dX9_days_31 : decode cX9_days 31 = .ok (.aload_n 0, 1) := by decide +kernel
theorem dX9_days_32 : decode cX9_days 32 = .ok (.getfield 26, 3) := by decide +kernel
theorem dX9_days_35 : decode cX9_days 35 = .ok (.aload_n 0, 1) := by decide +kernel
theorem dX9_days_36 : decode cX9_days 36 = .ok (.getfield 73, 3) := by decide +kernel
theorem dX9_days_39 : decode cX9_days 39 = .ok (.getfield 165, 3) := by decide +kernel
theorem dX9_days_42 : decode cX9_days 42 = .ok (.invokevirtual 168, 3) := by decide +kernel
theorem dX9_days_45 : decode cX9_days 45 = .ok (.iload_n 2, 1) := by decide +kernel
theorem dX9_days_46 : decode cX9_days 46 = .ok (.ireturn, 1) := by decide +kernel
theorem dX9_doers_0 : decode cX9_doers 0 = .ok (.aload_n 0, 1) := by decide +kernel
theorem dX9_doers_1 : decode cX9_doers 1 = .ok (.getfield 10, 3) := by decide +kernel
theorem dX9_doers_4 : decode cX9_doers 4 = .ok (.iload_n 1, 1) := by decide +kernel
theorem dX9_doers_5 : decode cX9_doers 5 = .ok (.iconst 1, 1) := by decide +kernel
theorem dX9_doers_6 : decode cX9_doers 6 = .ok (.bipush 120, 2) := by decide +kernel
theorem dX9_doers_8 : decode cX9_doers 8 = .ok (.invokevirtual 115, 3) := by decide +kernel
theorem dX9_doers_11 : decode cX9_doers 11 = .ok (.ifCond .ne 5, 3) := by decide +kernel
theorem dX9_doers_14 : decode cX9_doers 14 = .ok (.iconst (-1), 1) := by decide +kernel
theorem dX9_doers_15 : decode cX9_doers 15 = .ok (.ireturn, 1) := by decide +kernel
theorem dX9_feed_0 : decode cX9_feed 0 = .ok (.aload_n 0, 1) := by decide +kernel
theorem dX9_feed_1 : decode cX9_feed 1 = .ok (.getfield 10, 3) := by decide +kernel
theorem dX9_feed_4 : decode cX9_feed 4 = .ok (.bipush 20, 2) := by decide +kernel
theorem dX9_feed_6 : decode cX9_feed 6 = .ok (.invokevirtual 104, 3) := by decide +kernel
theorem dX9_feed_9 : decode cX9_feed 9 = .ok (.ifCond .ne 5, 3) := by decide +kernel
theorem dX9_feed_14 : decode cX9_feed 14 = .ok (.aload_n 0, 1) := by decide +kernel
theorem dX9_feed_15 : decode cX9_feed 15 = .ok (.getfield 10, 3) := by decide +kernel
theorem dX9_feed_18 : decode cX9_feed 18 = .ok (.iload_n 1, 1) := by decide +kernel
theorem dX9_feed_19 : decode cX9_feed 19 = .ok (.invokevirtual 108, 3) := by decide +kernel
theorem dX9_feed_22 : decode cX9_feed 22 = .ok (.aload_n 0, 1) := by decide +kernel
theorem dX9_feed_23 : decode cX9_feed 23 = .ok (.getfield 10, 3) := by decide +kernel
theorem dX9_feed_26 : decode cX9_feed 26 = .ok (.iload_n 2, 1) := by decide +kernel
theorem dX9_feed_27 : decode cX9_feed 27 = .ok (.invokevirtual 108, 3) := by decide +kernel
theorem dX9_feed_30 : decode cX9_feed 30 = .ok (.aload_n 0, 1) := by decide +kernel
theorem dX9_feed_31 : decode cX9_feed 31 = .ok (.getfield 10, 3) := by decide +kernel
theorem dX9_feed_34 : decode cX9_feed 34 = .ok (.iload_n 3, 1) := by decide +kernel
theorem dX9_feed_35 : decode cX9_feed 35 = .ok (.invokevirtual 108, 3) := by decide +kernel
theorem dX9_feed_38 : decode cX9_feed 38 = .ok (.aload_n 0, 1) := by decide +kernel
theorem dX9_feed_39 : decode cX9_feed 39 = .ok (.getfield 10, 3) := by decide +kernel
theorem dX9_feed_42 : decode cX9_feed 42 = .ok (.iload 4, 2) := by decide +kernel
theorem dX9_feed_44 : decode cX9_feed 44 = .ok (.invokevirtual 108, 3) := by decide +kernel
theorem dX9_feed_47 : decode cX9_feed 47 = .ok (.aload_n 0, 1) := by decide +kernel
theorem dX9_feed_48 : decode cX9_feed 48 = .ok (.getfield 10, 3) := by decide +kernel
theorem dX9_feed_51 : decode cX9_feed 51 = .ok (.iload 5, 2) := by decide +kernel
theorem dX9_feed_53 : decode cX9_feed 53 = .ok (.invokevirtual 108, 3) := by decide +kernel
theorem dX9_feed_56 : decode cX9_feed 56 = .ok (.aload_n 0, 1) := by decide +kernel
theorem dX9_feed_57 : decode cX9_feed 57 = .ok (.getfield 10, 3) := by decide +kernel
theorem dX9_feed_60 : decode cX9_feed 60 = .ok (.getfield 112, 3) := by decide +kernel
theorem dX9_feed_63 : decode cX9_feed 63 = .ok (.ireturn, 1) := by decide +kernel
theorem dX9_firstDoer_0 : decode cX9_firstDoer 0 = .ok (.aload_n 0, 1) := by decide +kernel
theorem dX9_firstDoer_1 : decode cX9_firstDoer 1 = .ok (.getfield 19, 3) := by decide +kernel
theorem dX9_firstDoer_4 : decode cX9_firstDoer 4 = .ok (.iload_n 1, 1) := by decide +kernel
theorem dX9_firstDoer_5 : decode cX9_firstDoer 5 = .ok (.invokevirtual 170, 3) := by decide +kernel
theorem dX9_firstDoer_8 : decode cX9_firstDoer 8 = .ok (.ifCond .eq 19, 3) := by decide +kernel
theorem dX9_firstDoer_27 : decode cX9_firstDoer 27 = .ok (.iconst (-1), 1) := by decide +kernel
theorem dX9_firstDoer_28 : decode cX9_firstDoer 28 = .ok (.ireturn, 1) := by decide +kernel
theorem dX9_firstOther_0 : decode cX9_firstOther 0 = .ok (.iconst 0, 1) := by decide +kernel
theorem dX9_firstOther_1 : decode cX9_firstOther 1 = .ok (.istore_n 3, 1) := by decide +kernel
theorem dX9_firstOther_2 : decode cX9_firstOther 2 = .ok (.iload_n 3, 1) := by decide +kernel
theorem dX9_firstOther_3 : decode cX9_firstOther 3 = .ok (.iload_n 2, 1) := by decide +kernel
theorem dX9_firstOther_4 : decode cX9_firstOther 4 = .ok (.if_icmp .ge 34, 3) := by decide +kernel
theorem dX9_firstOther_38 : decode cX9_firstOther 38 = .ok (.iconst (-1), 1) := by decide +kernel
theorem dX9_firstOther_39 : decode cX9_firstOther 39 = .ok (.ireturn, 1) := by decide +kernel
theorem dX9_halfDone_0 : decode cX9_halfDone 0 = .ok (.aload_n 0, 1) := by decide +kernel
theorem dX9_halfDone_1 : decode cX9_halfDone 1 = .ok (.iload_n 1, 1) := by decide +kernel
theorem dX9_halfDone_2 : decode cX9_halfDone 2 = .ok (.invokevirtual 228, 3) := by decide +kernel
theorem dX9_halfDone_5 : decode cX9_halfDone 5 = .ok (.ifCond .eq 13, 3) := by decide +kernel
theorem dX9_halfDone_18 : decode cX9_halfDone 18 = .ok (.ldc 231, 2) := by decide +kernel
theorem dX9_halfDone_20 : decode cX9_halfDone 20 = .ok (.ireturn, 1) := by decide +kernel
theorem dX9_hired_0 : decode cX9_hired 0 = .ok (.iload_n 2, 1) := by decide +kernel
theorem dX9_hired_1 : decode cX9_hired 1 = .ok (.invokestatic 142, 3) := by decide +kernel
theorem dX9_hired_4 : decode cX9_hired 4 = .ok (.istore 5, 2) := by decide +kernel
theorem dX9_hired_6 : decode cX9_hired 6 = .ok (.aload_n 0, 1) := by decide +kernel
theorem dX9_hired_7 : decode cX9_hired 7 = .ok (.iload_n 2, 1) := by decide +kernel
theorem dX9_hired_8 : decode cX9_hired 8 = .ok (.invokevirtual 221, 3) := by decide +kernel
theorem dX9_hired_11 : decode cX9_hired 11 = .ok (.ifCond .eq 33, 3) := by decide +kernel
theorem dX9_hired_14 : decode cX9_hired 14 = .ok (.iload 5, 2) := by decide +kernel
theorem dX9_hired_16 : decode cX9_hired 16 = .ok (.iconst 1, 1) := by decide +kernel
theorem dX9_hired_17 : decode cX9_hired 17 = .ok (.iconst 3, 1) := by decide +kernel
theorem dX9_hired_18 : decode cX9_hired 18 = .ok (.invokestatic 81, 3) := by decide +kernel
theorem dX9_hired_21 : decode cX9_hired 21 = .ok (.ifCond .eq 23, 3) := by decide +kernel
theorem dX9_hired_44 : decode cX9_hired 44 = .ok (.iconst 0, 1) := by decide +kernel
theorem dX9_hired_45 : decode cX9_hired 45 = .ok (.istore 6, 2) := by decide +kernel
theorem dX9_hired_47 : decode cX9_hired 47 = .ok (.iload_n 1, 1) := by decide +kernel
theorem dX9_hired_48 : decode cX9_hired 48 = .ok (.iconst 1, 1) := by decide +kernel
theorem dX9_hired_49 : decode cX9_hired 49 = .ok (.bipush 9, 2) := by decide +kernel
theorem dX9_hired_51 : decode cX9_hired 51 = .ok (.invokestatic 81, 3) := by decide +kernel
theorem dX9_hired_54 : decode cX9_hired 54 = .ok (.ifCond .eq 15, 3) := by decide +kernel
theorem dX9_hired_57 : decode cX9_hired 57 = .ok (.iload 6, 2) := by decide +kernel
theorem dX9_hired_59 : decode cX9_hired 59 = .ok (.ifCond .eq 10, 3) := by decide +kernel
theorem dX9_hired_69 : decode cX9_hired 69 = .ok (.iconst (-1), 1) := by decide +kernel
theorem dX9_hired_70 : decode cX9_hired 70 = .ok (.ireturn, 1) := by decide +kernel
theorem dX9_holds_0 : decode cX9_holds 0 = .ok (.iload_n 1, 1) := by decide +kernel
theorem dX9_holds_1 : decode cX9_holds 1 = .ok (.iconst 1, 1) := by decide +kernel
theorem dX9_holds_2 : decode cX9_holds 2 = .ok (.bipush 20, 2) := by decide +kernel
theorem dX9_holds_4 : decode cX9_holds 4 = .ok (.invokestatic 81, 3) := by decide +kernel
theorem dX9_holds_7 : decode cX9_holds 7 = .ok (.ifCond .eq 23, 3) := by decide +kernel
theorem dX9_holds_10 : decode cX9_holds 10 = .ok (.iload_n 2, 1) := by decide +kernel
theorem dX9_holds_11 : decode cX9_holds 11 = .ok (.iconst 0, 1) := by decide +kernel
theorem dX9_holds_12 : decode cX9_holds 12 = .ok (.ldc_w 274, 3) := by decide +kernel
theorem dX9_holds_15 : decode cX9_holds 15 = .ok (.invokestatic 81, 3) := by decide +kernel
theorem dX9_holds_18 : decode cX9_holds 18 = .ok (.ifCond .eq 12, 3) := by decide +kernel
theorem dX9_holds_21 : decode cX9_holds 21 = .ok (.iload_n 3, 1) := by decide +kernel
theorem dX9_holds_22 : decode cX9_holds 22 = .ok (.iconst 0, 1) := by decide +kernel
theorem dX9_holds_23 : decode cX9_holds 23 = .ok (.iconst 1, 1) := by decide +kernel
theorem dX9_holds_24 : decode cX9_holds 24 = .ok (.invokestatic 81, 3) := by decide +kernel
theorem dX9_holds_27 : decode cX9_holds 27 = .ok (.ifCond .ne 5, 3) := by decide +kernel
theorem dX9_holds_30 : decode cX9_holds 30 = .ok (.iconst (-1), 1) := by decide +kernel
theorem dX9_holds_31 : decode cX9_holds 31 = .ok (.ireturn, 1) := by decide +kernel
theorem dX9_holds_32 : decode cX9_holds 32 = .ok (.aload_n 0, 1) := by decide +kernel
theorem dX9_holds_33 : decode cX9_holds 33 = .ok (.iconst 0, 1) := by decide +kernel
theorem dX9_holds_34 : decode cX9_holds 34 = .ok (.iload_n 1, 1) := by decide +kernel
theorem dX9_holds_35 : decode cX9_holds 35 = .ok (.ldc 160, 2) := by decide +kernel
theorem dX9_holds_37 : decode cX9_holds 37 = .ok (.invokevirtual 266, 3) := by decide +kernel
theorem dX9_holds_40 : decode cX9_holds 40 = .ok (.iload_n 2, 1) := by decide +kernel
theorem dX9_holds_41 : decode cX9_holds 41 = .ok (.iadd, 1) := by decide +kernel
theorem dX9_holds_42 : decode cX9_holds 42 = .ok (.istore 4, 2) := by decide +kernel
theorem dX9_holds_44 : decode cX9_holds 44 = .ok (.iconst 0, 1) := by decide +kernel
theorem dX9_holds_45 : decode cX9_holds 45 = .ok (.istore 5, 2) := by decide +kernel
theorem dX9_holds_47 : decode cX9_holds 47 = .ok (.iload 5, 2) := by decide +kernel
theorem dX9_holds_49 : decode cX9_holds 49 = .ok (.bipush 10, 2) := by decide +kernel
theorem dX9_holds_51 : decode cX9_holds 51 = .ok (.if_icmp .gt 83, 3) := by decide +kernel
theorem dX9_holds_54 : decode cX9_holds 54 = .ok (.iconst 0, 1) := by decide +kernel
theorem dX9_holds_55 : decode cX9_holds 55 = .ok (.istore 6, 2) := by decide +kernel
theorem dX9_holds_57 : decode cX9_holds 57 = .ok (.iload 6, 2) := by decide +kernel
theorem dX9_holds_59 : decode cX9_holds 59 = .ok (.sipush 1023, 3) := by decide +kernel
theorem dX9_holds_62 : decode cX9_holds 62 = .ok (.if_icmp .gt 66, 3) := by decide +kernel
theorem dX9_holds_65 : decode cX9_holds 65 = .ok (.iload 6, 2) := by decide +kernel
theorem dX9_holds_67 : decode cX9_holds 67 = .ok (.invokestatic 142, 3) := by decide +kernel
theorem dX9_holds_70 : decode cX9_holds 70 = .ok (.iload 5, 2) := by decide +kernel
theorem dX9_holds_72 : decode cX9_holds 72 = .ok (.if_icmp .ne 16, 3) := by decide +kernel
theorem dX9_holds_75 : decode cX9_holds 75 = .ok (.aload_n 0, 1) := by decide +kernel
theorem dX9_holds_76 : decode cX9_holds 76 = .ok (.iload 6, 2) := by decide +kernel
theorem dX9_holds_78 : decode cX9_holds 78 = .ok (.invokevirtual 221, 3) := by decide +kernel
theorem dX9_holds_81 : decode cX9_holds 81 = .ok (.ifCond .eq 7, 3) := by decide +kernel
theorem dX9_holds_84 : decode cX9_holds 84 = .ok (.iconst 1, 1) := by decide +kernel
theorem dX9_holds_85 : decode cX9_holds 85 = .ok (.goto 4, 3) := by decide +kernel
theorem dX9_holds_88 : decode cX9_holds 88 = .ok (.iconst 0, 1) := by decide +kernel
theorem dX9_holds_89 : decode cX9_holds 89 = .ok (.istore 7, 2) := by decide +kernel
theorem dX9_holds_91 : decode cX9_holds 91 = .ok (.iload 7, 2) := by decide +kernel
theorem dX9_holds_93 : decode cX9_holds 93 = .ok (.ifCond .eq 29, 3) := by decide +kernel
theorem dX9_holds_96 : decode cX9_holds 96 = .ok (.aload_n 0, 1) := by decide +kernel
theorem dX9_holds_97 : decode cX9_holds 97 = .ok (.iload 6, 2) := by decide +kernel
theorem dX9_holds_99 : decode cX9_holds 99 = .ok (.iload_n 1, 1) := by decide +kernel
theorem dX9_holds_100 : decode cX9_holds 100 = .ok (.iload 4, 2) := by decide +kernel
theorem dX9_holds_102 : decode cX9_holds 102 = .ok (.invokevirtual 266, 3) := by decide +kernel
theorem dX9_holds_105 : decode cX9_holds 105 = .ok (.iload 4, 2) := by decide +kernel
theorem dX9_holds_107 : decode cX9_holds 107 = .ok (.if_icmp .lt 15, 3) := by decide +kernel
theorem dX9_holds_110 : decode cX9_holds 110 = .ok (.iload_n 3, 1) := by decide +kernel
theorem dX9_holds_111 : decode cX9_holds 111 = .ok (.ifCond .ne 8, 3) := by decide +kernel
theorem dX9_holds_114 : decode cX9_holds 114 = .ok (.iload 5, 2) := by decide +kernel
theorem dX9_holds_116 : decode cX9_holds 116 = .ok (.goto 5, 3) := by decide +kernel
theorem dX9_holds_119 : decode cX9_holds 119 = .ok (.iload 6, 2) := by decide +kernel
theorem dX9_holds_121 : decode cX9_holds 121 = .ok (.ireturn, 1) := by decide +kernel
theorem dX9_holds_122 : decode cX9_holds 122 = .ok (.iinc 6 1, 3) := by decide +kernel
theorem dX9_holds_125 : decode cX9_holds 125 = .ok (.goto (-68), 3) := by decide +kernel
theorem dX9_holds_128 : decode cX9_holds 128 = .ok (.iinc 5 1, 3) := by decide +kernel
theorem dX9_holds_131 : decode cX9_holds 131 = .ok (.goto (-84), 3) := by decide +kernel
theorem dX9_holds_134 : decode cX9_holds 134 = .ok (.bipush (-2), 2) := by decide +kernel
theorem dX9_holds_136 : decode cX9_holds 136 = .ok (.ireturn, 1) := by decide +kernel
theorem dX9_home_0 : decode cX9_home 0 = .ok (.aload_n 0, 1) := by decide +kernel
theorem dX9_home_1 : decode cX9_home 1 = .ok (.getfield 26, 3) := by decide +kernel
theorem dX9_home_4 : decode cX9_home 4 = .ok (.invokevirtual 138, 3) := by decide +kernel
theorem dX9_home_7 : decode cX9_home 7 = .ok (.invokestatic 142, 3) := by decide +kernel
theorem dX9_home_10 : decode cX9_home 10 = .ok (.istore_n 1, 1) := by decide +kernel
theorem dX9_home_11 : decode cX9_home 11 = .ok (.aload_n 0, 1) := by decide +kernel
theorem dX9_home_12 : decode cX9_home 12 = .ok (.getfield 26, 3) := by decide +kernel
theorem dX9_home_15 : decode cX9_home 15 = .ok (.sipush 1023, 3) := by decide +kernel
theorem dX9_home_18 : decode cX9_home 18 = .ok (.invokevirtual 147, 3) := by decide +kernel
theorem dX9_home_21 : decode cX9_home 21 = .ok (.iload_n 1, 1) := by decide +kernel
theorem dX9_home_22 : decode cX9_home 22 = .ok (.ireturn, 1) := by decide +kernel
theorem dX9_isDayCount_0 : decode cX9_isDayCount 0 = .ok (.iload_n 0, 1) := by decide +kernel
theorem dX9_isDayCount_1 : decode cX9_isDayCount 1 = .ok (.iconst 1, 1) := by decide +kernel
theorem dX9_isDayCount_2 : decode cX9_isDayCount 2 = .ok (.if_icmp .lt 13, 3) := by decide +kernel
theorem dX9_isDayCount_5 : decode cX9_isDayCount 5 = .ok (.iload_n 0, 1) := by decide +kernel
theorem dX9_isDayCount_6 : decode cX9_isDayCount 6 = .ok (.bipush 60, 2) := by decide +kernel
theorem dX9_isDayCount_8 : decode cX9_isDayCount 8 = .ok (.if_icmp .gt 7, 3) := by decide +kernel
theorem dX9_isDayCount_11 : decode cX9_isDayCount 11 = .ok (.iconst 1, 1) := by decide +kernel
theorem dX9_isDayCount_12 : decode cX9_isDayCount 12 = .ok (.goto 4, 3) := by decide +kernel
theorem dX9_isDayCount_15 : decode cX9_isDayCount 15 = .ok (.iconst 0, 1) := by decide +kernel
theorem dX9_isDayCount_16 : decode cX9_isDayCount 16 = .ok (.ireturn, 1) := by decide +kernel
theorem dX9_isIn_0 : decode cX9_isIn 0 = .ok (.iload_n 1, 1) := by decide +kernel
theorem dX9_isIn_1 : decode cX9_isIn 1 = .ok (.ifCond .lt 22, 3) := by decide +kernel
theorem dX9_isIn_4 : decode cX9_isIn 4 = .ok (.iload_n 1, 1) := by decide +kernel
theorem dX9_isIn_5 : decode cX9_isIn 5 = .ok (.bipush 31, 2) := by decide +kernel
theorem dX9_isIn_7 : decode cX9_isIn 7 = .ok (.if_icmp .ge 16, 3) := by decide +kernel
theorem dX9_isIn_10 : decode cX9_isIn 10 = .ok (.iload_n 0, 1) := by decide +kernel
theorem dX9_isIn_11 : decode cX9_isIn 11 = .ok (.iload_n 1, 1) := by decide +kernel
theorem dX9_isIn_12 : decode cX9_isIn 12 = .ok (.ishr, 1) := by decide +kernel
theorem dX9_isIn_13 : decode cX9_isIn 13 = .ok (.iconst 1, 1) := by decide +kernel
theorem dX9_isIn_14 : decode cX9_isIn 14 = .ok (.iand, 1) := by decide +kernel
theorem dX9_isIn_15 : decode cX9_isIn 15 = .ok (.iconst 1, 1) := by decide +kernel
theorem dX9_isIn_16 : decode cX9_isIn 16 = .ok (.if_icmp .ne 7, 3) := by decide +kernel
theorem dX9_isIn_19 : decode cX9_isIn 19 = .ok (.iconst 1, 1) := by decide +kernel
theorem dX9_isIn_20 : decode cX9_isIn 20 = .ok (.goto 4, 3) := by decide +kernel
theorem dX9_isIn_23 : decode cX9_isIn 23 = .ok (.iconst 0, 1) := by decide +kernel
theorem dX9_isIn_24 : decode cX9_isIn 24 = .ok (.ireturn, 1) := by decide +kernel
theorem dX9_keep_0 : decode cX9_keep 0 = .ok (.aload_n 0, 1) := by decide +kernel
theorem dX9_keep_1 : decode cX9_keep 1 = .ok (.getfield 30, 3) := by decide +kernel
theorem dX9_keep_4 : decode cX9_keep 4 = .ok (.aload_n 0, 1) := by decide +kernel
theorem dX9_keep_5 : decode cX9_keep 5 = .ok (.getfield 26, 3) := by decide +kernel
theorem dX9_keep_8 : decode cX9_keep 8 = .ok (.invokevirtual 168, 3) := by decide +kernel
theorem dX9_keep_11 : decode cX9_keep 11 = .ok (.aload_n 0, 1) := by decide +kernel
theorem dX9_keep_12 : decode cX9_keep 12 = .ok (.iconst 1, 1) := by decide +kernel
theorem dX9_keep_13 : decode cX9_keep 13 = .ok (.putfield 296, 3) := by decide +kernel
theorem dX9_keep_16 : decode cX9_keep 16 = .ok (.aload_n 0, 1) := by decide +kernel
theorem dX9_keep_17 : decode cX9_keep 17 = .ok (.getfield 26, 3) := by decide +kernel
theorem dX9_keep_20 : decode cX9_keep 20 = .ok (.getfield 209, 3) := by decide +kernel
theorem dX9_keep_23 : decode cX9_keep 23 = .ok (.ireturn, 1) := by decide +kernel
theorem dX9_law_0 : decode cX9_law 0 = .ok (.aload_n 0, 1) := by decide +kernel
theorem dX9_law_1 : decode cX9_law 1 = .ok (.getfield 10, 3) := by decide +kernel
theorem dX9_law_4 : decode cX9_law 4 = .ok (.iload_n 1, 1) := by decide +kernel
theorem dX9_law_5 : decode cX9_law 5 = .ok (.iconst 1, 1) := by decide +kernel
theorem dX9_law_6 : decode cX9_law 6 = .ok (.sipush 240, 3) := by decide +kernel
theorem dX9_law_9 : decode cX9_law 9 = .ok (.invokevirtual 115, 3) := by decide +kernel
theorem dX9_law_12 : decode cX9_law 12 = .ok (.ifCond .ne 5, 3) := by decide +kernel
theorem dX9_law_15 : decode cX9_law 15 = .ok (.iconst (-1), 1) := by decide +kernel
theorem dX9_law_16 : decode cX9_law 16 = .ok (.ireturn, 1) := by decide +kernel
theorem dX9_leaves_0 : decode cX9_leaves 0 = .ok (.aload_n 0, 1) := by decide +kernel
theorem dX9_leaves_1 : decode cX9_leaves 1 = .ok (.getfield 10, 3) := by decide +kernel
theorem dX9_leaves_4 : decode cX9_leaves 4 = .ok (.iload_n 1, 1) := by decide +kernel
theorem dX9_leaves_5 : decode cX9_leaves 5 = .ok (.iconst 1, 1) := by decide +kernel
theorem dX9_leaves_6 : decode cX9_leaves 6 = .ok (.bipush 120, 2) := by decide +kernel
theorem dX9_leaves_8 : decode cX9_leaves 8 = .ok (.invokevirtual 115, 3) := by decide +kernel
theorem dX9_leaves_11 : decode cX9_leaves 11 = .ok (.ifCond .ne 5, 3) := by decide +kernel
theorem dX9_leaves_14 : decode cX9_leaves 14 = .ok (.iconst (-1), 1) := by decide +kernel
theorem dX9_leaves_15 : decode cX9_leaves 15 = .ok (.ireturn, 1) := by decide +kernel
theorem dX9_mayor_0 : decode cX9_mayor 0 = .ok (.iload_n 2, 1) := by decide +kernel
theorem dX9_mayor_1 : decode cX9_mayor 1 = .ok (.iconst 0, 1) := by decide +kernel
theorem dX9_mayor_2 : decode cX9_mayor 2 = .ok (.iconst 1, 1) := by decide +kernel
theorem dX9_mayor_3 : decode cX9_mayor 3 = .ok (.invokestatic 81, 3) := by decide +kernel
theorem dX9_mayor_6 : decode cX9_mayor 6 = .ok (.ifCond .ne 17, 3) := by decide +kernel
theorem dX9_mayor_9 : decode cX9_mayor 9 = .ok (.aload_n 0, 1) := by decide +kernel
theorem dX9_mayor_10 : decode cX9_mayor 10 = .ok (.getfield 19, 3) := by decide +kernel
theorem dX9_mayor_13 : decode cX9_mayor 13 = .ok (.iload_n 2, 1) := by decide +kernel
theorem dX9_mayor_14 : decode cX9_mayor 14 = .ok (.bipush 10, 2) := by decide +kernel
theorem dX9_mayor_16 : decode cX9_mayor 16 = .ok (.isub, 1) := by decide +kernel
theorem dX9_mayor_17 : decode cX9_mayor 17 = .ok (.invokevirtual 173, 3) := by decide +kernel
theorem dX9_mayor_20 : decode cX9_mayor 20 = .ok (.ifCond .eq 7, 3) := by decide +kernel
theorem dX9_mayor_23 : decode cX9_mayor 23 = .ok (.iconst 1, 1) := by decide +kernel
theorem dX9_mayor_24 : decode cX9_mayor 24 = .ok (.goto 4, 3) := by decide +kernel
theorem dX9_mayor_27 : decode cX9_mayor 27 = .ok (.iconst 0, 1) := by decide +kernel
theorem dX9_mayor_28 : decode cX9_mayor 28 = .ok (.istore_n 3, 1) := by decide +kernel
theorem dX9_mayor_29 : decode cX9_mayor 29 = .ok (.iload_n 1, 1) := by decide +kernel
theorem dX9_mayor_30 : decode cX9_mayor 30 = .ok (.invokestatic 154, 3) := by decide +kernel
theorem dX9_mayor_33 : decode cX9_mayor 33 = .ok (.ifCond .eq 7, 3) := by decide +kernel
theorem dX9_mayor_36 : decode cX9_mayor 36 = .ok (.iload_n 3, 1) := by decide +kernel
theorem dX9_mayor_37 : decode cX9_mayor 37 = .ok (.ifCond .ne 6, 3) := by decide +kernel
theorem dX9_mayor_40 : decode cX9_mayor 40 = .ok (.ldc 231, 2) := by decide +kernel
theorem dX9_mayor_42 : decode cX9_mayor 42 = .ok (.ireturn, 1) := by decide +kernel
theorem dX9_mayor_43 : decode cX9_mayor 43 = .ok (.aload_n 0, 1) := by decide +kernel
theorem dX9_mayor_44 : decode cX9_mayor 44 = .ok (.iconst 0, 1) := by decide +kernel
theorem dX9_mayor_45 : decode cX9_mayor 45 = .ok (.iload_n 1, 1) := by decide +kernel
theorem dX9_mayor_46 : decode cX9_mayor 46 = .ok (.ldc 160, 2) := by decide +kernel
theorem dX9_mayor_48 : decode cX9_mayor 48 = .ok (.invokevirtual 266, 3) := by decide +kernel
theorem dX9_mayor_51 : decode cX9_mayor 51 = .ok (.istore 4, 2) := by decide +kernel
theorem dX9_mayor_53 : decode cX9_mayor 53 = .ok (.iload_n 2, 1) := by decide +kernel
theorem dX9_mayor_54 : decode cX9_mayor 54 = .ok (.bipush 10, 2) := by decide +kernel
theorem dX9_mayor_56 : decode cX9_mayor 56 = .ok (.if_icmp .lt 20, 3) := by decide +kernel
theorem dX9_mayor_76 : decode cX9_mayor 76 = .ok (.ldc 160, 2) := by decide +kernel
theorem dX9_mayor_78 : decode cX9_mayor 78 = .ok (.istore 5, 2) := by decide +kernel
theorem dX9_mayor_80 : decode cX9_mayor 80 = .ok (.bipush (-2), 2) := by decide +kernel
theorem dX9_mayor_82 : decode cX9_mayor 82 = .ok (.istore 6, 2) := by decide +kernel
theorem dX9_mayor_84 : decode cX9_mayor 84 = .ok (.iconst 0, 1) := by decide +kernel
theorem dX9_mayor_85 : decode cX9_mayor 85 = .ok (.istore 7, 2) := by decide +kernel
theorem dX9_mayor_87 : decode cX9_mayor 87 = .ok (.iload 7, 2) := by decide +kernel
theorem dX9_mayor_89 : decode cX9_mayor 89 = .ok (.bipush 10, 2) := by decide +kernel
theorem dX9_mayor_91 : decode cX9_mayor 91 = .ok (.if_icmp .ge 49, 3) := by decide +kernel
theorem dX9_mayor_94 : decode cX9_mayor 94 = .ok (.aload_n 0, 1) := by decide +kernel
theorem dX9_mayor_95 : decode cX9_mayor 95 = .ok (.getfield 19, 3) := by decide +kernel
theorem dX9_mayor_98 : decode cX9_mayor 98 = .ok (.iload 7, 2) := by decide +kernel
theorem dX9_mayor_100 : decode cX9_mayor 100 = .ok (.invokevirtual 173, 3) := by decide +kernel
theorem dX9_mayor_103 : decode cX9_mayor 103 = .ok (.ifCond .eq 31, 3) := by decide +kernel
theorem dX9_mayor_134 : decode cX9_mayor 134 = .ok (.iinc 7 1, 3) := by decide +kernel
theorem dX9_mayor_137 : decode cX9_mayor 137 = .ok (.goto (-50), 3) := by decide +kernel
theorem dX9_mayor_140 : decode cX9_mayor 140 = .ok (.iload_n 2, 1) := by decide +kernel
theorem dX9_mayor_141 : decode cX9_mayor 141 = .ok (.ifCond .eq 10, 3) := by decide +kernel
theorem dX9_mayor_144 : decode cX9_mayor 144 = .ok (.iload 6, 2) := by decide +kernel
theorem dX9_mayor_146 : decode cX9_mayor 146 = .ok (.bipush (-2), 2) := by decide +kernel
theorem dX9_mayor_148 : decode cX9_mayor 148 = .ok (.if_icmp .ne 8, 3) := by decide +kernel
theorem dX9_mayor_151 : decode cX9_mayor 151 = .ok (.iload 6, 2) := by decide +kernel
theorem dX9_mayor_153 : decode cX9_mayor 153 = .ok (.goto 8, 3) := by decide +kernel
theorem dX9_mayor_161 : decode cX9_mayor 161 = .ok (.ireturn, 1) := by decide +kernel
theorem dX9_missed_0 : decode cX9_missed 0 = .ok (.iload_n 2, 1) := by decide +kernel
theorem dX9_missed_1 : decode cX9_missed 1 = .ok (.invokestatic 154, 3) := by decide +kernel
theorem dX9_missed_4 : decode cX9_missed 4 = .ok (.ifCond .eq 11, 3) := by decide +kernel
theorem dX9_missed_7 : decode cX9_missed 7 = .ok (.aload_n 0, 1) := by decide +kernel
theorem dX9_missed_8 : decode cX9_missed 8 = .ok (.iload_n 1, 1) := by decide +kernel
theorem dX9_missed_9 : decode cX9_missed 9 = .ok (.invokevirtual 228, 3) := by decide +kernel
theorem dX9_missed_12 : decode cX9_missed 12 = .ok (.ifCond .ne 6, 3) := by decide +kernel
theorem dX9_missed_15 : decode cX9_missed 15 = .ok (.ldc 231, 2) := by decide +kernel
theorem dX9_missed_17 : decode cX9_missed 17 = .ok (.ireturn, 1) := by decide +kernel
theorem dX9_mustStay_0 : decode cX9_mustStay 0 = .ok (.iload_n 1, 1) := by decide +kernel
theorem dX9_mustStay_1 : decode cX9_mustStay 1 = .ok (.iconst 1, 1) := by decide +kernel
theorem dX9_mustStay_2 : decode cX9_mustStay 2 = .ok (.bipush 20, 2) := by decide +kernel
theorem dX9_mustStay_4 : decode cX9_mustStay 4 = .ok (.invokestatic 81, 3) := by decide +kernel
theorem dX9_mustStay_7 : decode cX9_mustStay 7 = .ok (.ifCond .eq 12, 3) := by decide +kernel
theorem dX9_mustStay_10 : decode cX9_mustStay 10 = .ok (.iload_n 2, 1) := by decide +kernel
theorem dX9_mustStay_11 : decode cX9_mustStay 11 = .ok (.iconst 0, 1) := by decide +kernel
theorem dX9_mustStay_12 : decode cX9_mustStay 12 = .ok (.iconst 1, 1) := by decide +kernel
theorem dX9_mustStay_13 : decode cX9_mustStay 13 = .ok (.invokestatic 81, 3) := by decide +kernel
theorem dX9_mustStay_16 : decode cX9_mustStay 16 = .ok (.ifCond .ne 5, 3) := by decide +kernel
theorem dX9_mustStay_19 : decode cX9_mustStay 19 = .ok (.iconst (-1), 1) := by decide +kernel
theorem dX9_mustStay_20 : decode cX9_mustStay 20 = .ok (.ireturn, 1) := by decide +kernel
theorem dX9_mustStay_21 : decode cX9_mustStay 21 = .ok (.aload_n 0, 1) := by decide +kernel
theorem dX9_mustStay_22 : decode cX9_mustStay 22 = .ok (.getfield 26, 3) := by decide +kernel
theorem dX9_mustStay_25 : decode cX9_mustStay 25 = .ok (.invokevirtual 138, 3) := by decide +kernel
theorem dX9_mustStay_28 : decode cX9_mustStay 28 = .ok (.istore_n 3, 1) := by decide +kernel
theorem dX9_mustStay_29 : decode cX9_mustStay 29 = .ok (.iconst 0, 1) := by decide +kernel
theorem dX9_mustStay_30 : decode cX9_mustStay 30 = .ok (.istore 4, 2) := by decide +kernel
theorem dX9_mustStay_32 : decode cX9_mustStay 32 = .ok (.iload 4, 2) := by decide +kernel
theorem dX9_mustStay_34 : decode cX9_mustStay 34 = .ok (.bipush 10, 2) := by decide +kernel
theorem dX9_mustStay_36 : decode cX9_mustStay 36 = .ok (.if_icmp .gt 79, 3) := by decide +kernel
theorem dX9_mustStay_39 : decode cX9_mustStay 39 = .ok (.iconst 0, 1) := by decide +kernel
theorem dX9_mustStay_40 : decode cX9_mustStay 40 = .ok (.istore 5, 2) := by decide +kernel
theorem dX9_mustStay_42 : decode cX9_mustStay 42 = .ok (.iload 5, 2) := by decide +kernel
theorem dX9_mustStay_44 : decode cX9_mustStay 44 = .ok (.sipush 1023, 3) := by decide +kernel
end
section
theorem dX9_mustStay_47 : decode cX9_mustStay 47 = .ok (.if_icmp .gt 62, 3) := by decide +kernel
theorem dX9_mustStay_50 : decode cX9_mustStay 50 = .ok (.iload 5, 2) := by decide +kernel
theorem dX9_mustStay_52 : decode cX9_mustStay 52 = .ok (.invokestatic 142, 3) := by decide +kernel
theorem dX9_mustStay_55 : decode cX9_mustStay 55 = .ok (.iload 4, 2) := by decide +kernel
theorem dX9_mustStay_57 : decode cX9_mustStay 57 = .ok (.if_icmp .ne 16, 3) := by decide +kernel
theorem dX9_mustStay_60 : decode cX9_mustStay 60 = .ok (.iload 5, 2) := by decide +kernel
theorem dX9_mustStay_62 : decode cX9_mustStay 62 = .ok (.iload_n 3, 1) := by decide +kernel
theorem dX9_mustStay_63 : decode cX9_mustStay 63 = .ok (.iconst (-1), 1) := by decide +kernel
theorem dX9_mustStay_64 : decode cX9_mustStay 64 = .ok (.ixor, 1) := by decide +kernel
theorem dX9_mustStay_65 : decode cX9_mustStay 65 = .ok (.iand, 1) := by decide +kernel
theorem dX9_mustStay_66 : decode cX9_mustStay 66 = .ok (.ifCond .ne 7, 3) := by decide +kernel
theorem dX9_mustStay_69 : decode cX9_mustStay 69 = .ok (.iconst 1, 1) := by decide +kernel
theorem dX9_mustStay_70 : decode cX9_mustStay 70 = .ok (.goto 4, 3) := by decide +kernel
theorem dX9_mustStay_74 : decode cX9_mustStay 74 = .ok (.istore 6, 2) := by decide +kernel
theorem dX9_mustStay_76 : decode cX9_mustStay 76 = .ok (.iload 6, 2) := by decide +kernel
theorem dX9_mustStay_78 : decode cX9_mustStay 78 = .ok (.ifCond .eq 25, 3) := by decide +kernel
theorem dX9_mustStay_81 : decode cX9_mustStay 81 = .ok (.aload_n 0, 1) := by decide +kernel
theorem dX9_mustStay_82 : decode cX9_mustStay 82 = .ok (.iload 5, 2) := by decide +kernel
theorem dX9_mustStay_84 : decode cX9_mustStay 84 = .ok (.iload_n 1, 1) := by decide +kernel
theorem dX9_mustStay_85 : decode cX9_mustStay 85 = .ok (.invokevirtual 281, 3) := by decide +kernel
theorem dX9_mustStay_88 : decode cX9_mustStay 88 = .ok (.ifCond .eq 15, 3) := by decide +kernel
theorem dX9_mustStay_91 : decode cX9_mustStay 91 = .ok (.iload_n 2, 1) := by decide +kernel
theorem dX9_mustStay_92 : decode cX9_mustStay 92 = .ok (.ifCond .ne 8, 3) := by decide +kernel
theorem dX9_mustStay_95 : decode cX9_mustStay 95 = .ok (.iload 4, 2) := by decide +kernel
theorem dX9_mustStay_97 : decode cX9_mustStay 97 = .ok (.goto 5, 3) := by decide +kernel
theorem dX9_mustStay_100 : decode cX9_mustStay 100 = .ok (.iload 5, 2) := by decide +kernel
theorem dX9_mustStay_102 : decode cX9_mustStay 102 = .ok (.ireturn, 1) := by decide +kernel
theorem dX9_person_0 : decode cX9_person 0 = .ok (.iload_n 1, 1) := by decide +kernel
theorem dX9_person_1 : decode cX9_person 1 = .ok (.iconst 0, 1) := by decide +kernel
theorem dX9_person_2 : decode cX9_person 2 = .ok (.bipush 9, 2) := by decide +kernel
theorem dX9_person_4 : decode cX9_person 4 = .ok (.invokestatic 81, 3) := by decide +kernel
theorem dX9_person_7 : decode cX9_person 7 = .ok (.ifCond .eq 13, 3) := by decide +kernel
theorem dX9_person_10 : decode cX9_person 10 = .ok (.iload_n 2, 1) := by decide +kernel
theorem dX9_person_11 : decode cX9_person 11 = .ok (.iconst 0, 1) := by decide +kernel
theorem dX9_person_12 : decode cX9_person 12 = .ok (.bipush 20, 2) := by decide +kernel
theorem dX9_person_14 : decode cX9_person 14 = .ok (.invokestatic 81, 3) := by decide +kernel
theorem dX9_person_17 : decode cX9_person 17 = .ok (.ifCond .ne 5, 3) := by decide +kernel
theorem dX9_person_20 : decode cX9_person 20 = .ok (.iconst 0, 1) := by decide +kernel
theorem dX9_person_21 : decode cX9_person 21 = .ok (.ireturn, 1) := by decide +kernel
theorem dX9_person_22 : decode cX9_person 22 = .ok (.aload_n 0, 1) := by decide +kernel
theorem dX9_person_23 : decode cX9_person 23 = .ok (.getfield 19, 3) := by decide +kernel
theorem dX9_person_26 : decode cX9_person 26 = .ok (.dup, 1) := by decide +kernel
theorem dX9_person_27 : decode cX9_person 27 = .ok (.getfield 85, 3) := by decide +kernel
theorem dX9_person_30 : decode cX9_person 30 = .ok (.iconst 1, 1) := by decide +kernel
theorem dX9_person_31 : decode cX9_person 31 = .ok (.iload_n 1, 1) := by decide +kernel
theorem dX9_person_32 : decode cX9_person 32 = .ok (.ishl, 1) := by decide +kernel
theorem dX9_person_33 : decode cX9_person 33 = .ok (.ior, 1) := by decide +kernel
theorem dX9_person_34 : decode cX9_person 34 = .ok (.putfield 85, 3) := by decide +kernel
theorem dX9_person_37 : decode cX9_person 37 = .ok (.aload_n 0, 1) := by decide +kernel
theorem dX9_person_38 : decode cX9_person 38 = .ok (.getfield 19, 3) := by decide +kernel
theorem dX9_person_41 : decode cX9_person 41 = .ok (.getfield 89, 3) := by decide +kernel
theorem dX9_person_44 : decode cX9_person 44 = .ok (.iload_n 1, 1) := by decide +kernel
theorem dX9_person_45 : decode cX9_person 45 = .ok (.iload_n 2, 1) := by decide +kernel
theorem dX9_person_46 : decode cX9_person 46 = .ok (.iastore, 1) := by decide +kernel
theorem dX9_person_47 : decode cX9_person 47 = .ok (.iconst 1, 1) := by decide +kernel
theorem dX9_person_48 : decode cX9_person 48 = .ok (.ireturn, 1) := by decide +kernel
theorem dX9_personIs_0 : decode cX9_personIs 0 = .ok (.aload_n 0, 1) := by decide +kernel
theorem dX9_personIs_1 : decode cX9_personIs 1 = .ok (.getfield 19, 3) := by decide +kernel
theorem dX9_personIs_4 : decode cX9_personIs 4 = .ok (.iload_n 1, 1) := by decide +kernel
theorem dX9_personIs_5 : decode cX9_personIs 5 = .ok (.invokevirtual 173, 3) := by decide +kernel
theorem dX9_personIs_8 : decode cX9_personIs 8 = .ok (.ifCond .ne 5, 3) := by decide +kernel
theorem dX9_personIs_11 : decode cX9_personIs 11 = .ok (.iconst (-1), 1) := by decide +kernel
theorem dX9_personIs_12 : decode cX9_personIs 12 = .ok (.ireturn, 1) := by decide +kernel
theorem dX9_rain_0 : decode cX9_rain 0 = .ok (.iload_n 1, 1) := by decide +kernel
theorem dX9_rain_1 : decode cX9_rain 1 = .ok (.iconst 0, 1) := by decide +kernel
theorem dX9_rain_2 : decode cX9_rain 2 = .ok (.bipush 10, 2) := by decide +kernel
theorem dX9_rain_4 : decode cX9_rain 4 = .ok (.invokestatic 81, 3) := by decide +kernel
theorem dX9_rain_7 : decode cX9_rain 7 = .ok (.ifCond .ne 5, 3) := by decide +kernel
theorem dX9_rain_10 : decode cX9_rain 10 = .ok (.iconst 0, 1) := by decide +kernel
theorem dX9_rain_11 : decode cX9_rain 11 = .ok (.ireturn, 1) := by decide +kernel
theorem dX9_rain_12 : decode cX9_rain 12 = .ok (.aload_n 0, 1) := by decide +kernel
theorem dX9_rain_13 : decode cX9_rain 13 = .ok (.getfield 19, 3) := by decide +kernel
theorem dX9_rain_16 : decode cX9_rain 16 = .ok (.iload_n 1, 1) := by decide +kernel
theorem dX9_rain_17 : decode cX9_rain 17 = .ok (.putfield 101, 3) := by decide +kernel
theorem dX9_rain_20 : decode cX9_rain 20 = .ok (.iconst 1, 1) := by decide +kernel
theorem dX9_rain_21 : decode cX9_rain 21 = .ok (.ireturn, 1) := by decide +kernel
theorem dX9_runAway_0 : decode cX9_runAway 0 = .ok (.aload_n 0, 1) := by decide +kernel
theorem dX9_runAway_1 : decode cX9_runAway 1 = .ok (.getfield 73, 3) := by decide +kernel
theorem dX9_runAway_4 : decode cX9_runAway 4 = .ok (.aload_n 0, 1) := by decide +kernel
theorem dX9_runAway_5 : decode cX9_runAway 5 = .ok (.getfield 26, 3) := by decide +kernel
theorem dX9_runAway_8 : decode cX9_runAway 8 = .ok (.invokevirtual 157, 3) := by decide +kernel
theorem dX9_runAway_11 : decode cX9_runAway 11 = .ok (.aload_n 0, 1) := by decide +kernel
theorem dX9_runAway_12 : decode cX9_runAway 12 = .ok (.getfield 73, 3) := by decide +kernel
theorem dX9_runAway_15 : decode cX9_runAway 15 = .ok (.getfield 165, 3) := by decide +kernel
theorem dX9_runAway_18 : decode cX9_runAway 18 = .ok (.sipush 1023, 3) := by decide +kernel
theorem dX9_runAway_21 : decode cX9_runAway 21 = .ok (.invokevirtual 147, 3) := by decide +kernel
theorem dX9_runAway_24 : decode cX9_runAway 24 = .ok (.iconst 0, 1) := by decide +kernel
theorem dX9_runAway_25 : decode cX9_runAway 25 = .ok (.istore 4, 2) := by decide +kernel
theorem dX9_runAway_27 : decode cX9_runAway 27 = .ok (.iload 4, 2) := by decide +kernel
theorem dX9_runAway_29 : decode cX9_runAway 29 = .ok (.bipush 10, 2) := by decide +kernel
theorem dX9_runAway_31 : decode cX9_runAway 31 = .ok (.if_icmp .ge 40, 3) := by decide +kernel
theorem dX9_runAway_34 : decode cX9_runAway 34 = .ok (.iload_n 1, 1) := by decide +kernel
theorem dX9_runAway_35 : decode cX9_runAway 35 = .ok (.iload 4, 2) := by decide +kernel
theorem dX9_runAway_37 : decode cX9_runAway 37 = .ok (.invokestatic 232, 3) := by decide +kernel
theorem dX9_runAway_40 : decode cX9_runAway 40 = .ok (.ifCond .eq 25, 3) := by decide +kernel
theorem dX9_runAway_65 : decode cX9_runAway 65 = .ok (.iinc 4 1, 3) := by decide +kernel
theorem dX9_runAway_68 : decode cX9_runAway 68 = .ok (.goto (-41), 3) := by decide +kernel
theorem dX9_runAway_71 : decode cX9_runAway 71 = .ok (.aload_n 0, 1) := by decide +kernel
theorem dX9_runAway_72 : decode cX9_runAway 72 = .ok (.getfield 73, 3) := by decide +kernel
theorem dX9_runAway_75 : decode cX9_runAway 75 = .ok (.iload_n 2, 1) := by decide +kernel
theorem dX9_runAway_76 : decode cX9_runAway 76 = .ok (.iload_n 3, 1) := by decide +kernel
theorem dX9_runAway_77 : decode cX9_runAway 77 = .ok (.invokevirtual 161, 3) := by decide +kernel
theorem dX9_runAway_80 : decode cX9_runAway 80 = .ok (.ireturn, 1) := by decide +kernel
theorem dX9_seed_0 : decode cX9_seed 0 = .ok (.iload_n 1, 1) := by decide +kernel
theorem dX9_seed_1 : decode cX9_seed 1 = .ok (.iconst 0, 1) := by decide +kernel
theorem dX9_seed_2 : decode cX9_seed 2 = .ok (.ldc 150, 2) := by decide +kernel
theorem dX9_seed_4 : decode cX9_seed 4 = .ok (.invokestatic 81, 3) := by decide +kernel
theorem dX9_seed_7 : decode cX9_seed 7 = .ok (.ifCond .ne 5, 3) := by decide +kernel
theorem dX9_seed_10 : decode cX9_seed 10 = .ok (.iconst 0, 1) := by decide +kernel
theorem dX9_seed_11 : decode cX9_seed 11 = .ok (.ireturn, 1) := by decide +kernel
theorem dX9_seed_12 : decode cX9_seed 12 = .ok (.aload_n 0, 1) := by decide +kernel
theorem dX9_seed_13 : decode cX9_seed 13 = .ok (.getfield 26, 3) := by decide +kernel
theorem dX9_seed_16 : decode cX9_seed 16 = .ok (.iload_n 1, 1) := by decide +kernel
theorem dX9_seed_17 : decode cX9_seed 17 = .ok (.putfield 151, 3) := by decide +kernel
theorem dX9_seed_20 : decode cX9_seed 20 = .ok (.iconst 1, 1) := by decide +kernel
theorem dX9_seed_21 : decode cX9_seed 21 = .ok (.ireturn, 1) := by decide +kernel
theorem dX9_share_0 : decode cX9_share 0 = .ok (.iload_n 1, 1) := by decide +kernel
theorem dX9_share_1 : decode cX9_share 1 = .ok (.invokestatic 142, 3) := by decide +kernel
theorem dX9_share_4 : decode cX9_share 4 = .ok (.istore 5, 2) := by decide +kernel
theorem dX9_share_6 : decode cX9_share 6 = .ok (.aload_n 0, 1) := by decide +kernel
theorem dX9_share_7 : decode cX9_share 7 = .ok (.iload_n 1, 1) := by decide +kernel
theorem dX9_share_8 : decode cX9_share 8 = .ok (.invokevirtual 221, 3) := by decide +kernel
theorem dX9_share_11 : decode cX9_share 11 = .ok (.ifCond .eq 31, 3) := by decide +kernel
theorem dX9_share_14 : decode cX9_share 14 = .ok (.iload_n 1, 1) := by decide +kernel
theorem dX9_share_15 : decode cX9_share 15 = .ok (.aload_n 0, 1) := by decide +kernel
theorem dX9_share_16 : decode cX9_share 16 = .ok (.getfield 26, 3) := by decide +kernel
theorem dX9_share_19 : decode cX9_share 19 = .ok (.invokevirtual 138, 3) := by decide +kernel
theorem dX9_share_22 : decode cX9_share 22 = .ok (.iconst (-1), 1) := by decide +kernel
theorem dX9_share_23 : decode cX9_share 23 = .ok (.ixor, 1) := by decide +kernel
theorem dX9_share_24 : decode cX9_share 24 = .ok (.iand, 1) := by decide +kernel
theorem dX9_share_25 : decode cX9_share 25 = .ok (.ifCond .ne 17, 3) := by decide +kernel
theorem dX9_share_28 : decode cX9_share 28 = .ok (.iload 5, 2) := by decide +kernel
theorem dX9_share_30 : decode cX9_share 30 = .ok (.iconst 1, 1) := by decide +kernel
theorem dX9_share_31 : decode cX9_share 31 = .ok (.iconst 5, 1) := by decide +kernel
theorem dX9_share_32 : decode cX9_share 32 = .ok (.invokestatic 81, 3) := by decide +kernel
theorem dX9_share_35 : decode cX9_share 35 = .ok (.ifCond .eq 7, 3) := by decide +kernel
theorem dX9_share_42 : decode cX9_share 42 = .ok (.iconst 0, 1) := by decide +kernel
theorem dX9_share_43 : decode cX9_share 43 = .ok (.istore 6, 2) := by decide +kernel
theorem dX9_share_45 : decode cX9_share 45 = .ok (.iload_n 3, 1) := by decide +kernel
theorem dX9_share_46 : decode cX9_share 46 = .ok (.invokestatic 154, 3) := by decide +kernel
theorem dX9_share_49 : decode cX9_share 49 = .ok (.ifCond .eq 18, 3) := by decide +kernel
theorem dX9_share_52 : decode cX9_share 52 = .ok (.iload 6, 2) := by decide +kernel
theorem dX9_share_54 : decode cX9_share 54 = .ok (.ifCond .eq 13, 3) := by decide +kernel
theorem dX9_share_67 : decode cX9_share 67 = .ok (.ldc 231, 2) := by decide +kernel
theorem dX9_share_69 : decode cX9_share 69 = .ok (.ireturn, 1) := by decide +kernel
theorem dX9_spoilt_0 : decode cX9_spoilt 0 = .ok (.iload_n 2, 1) := by decide +kernel
theorem dX9_spoilt_1 : decode cX9_spoilt 1 = .ok (.bipush 10, 2) := by decide +kernel
theorem dX9_spoilt_3 : decode cX9_spoilt 3 = .ok (.if_icmp .eq 19, 3) := by decide +kernel
theorem dX9_spoilt_6 : decode cX9_spoilt 6 = .ok (.aload_n 0, 1) := by decide +kernel
theorem dX9_spoilt_7 : decode cX9_spoilt 7 = .ok (.getfield 19, 3) := by decide +kernel
theorem dX9_spoilt_10 : decode cX9_spoilt 10 = .ok (.iload_n 2, 1) := by decide +kernel
theorem dX9_spoilt_11 : decode cX9_spoilt 11 = .ok (.invokevirtual 173, 3) := by decide +kernel
theorem dX9_spoilt_14 : decode cX9_spoilt 14 = .ok (.ifCond .eq 12, 3) := by decide +kernel
theorem dX9_spoilt_22 : decode cX9_spoilt 22 = .ok (.iconst 1, 1) := by decide +kernel
theorem dX9_spoilt_23 : decode cX9_spoilt 23 = .ok (.goto 4, 3) := by decide +kernel
theorem dX9_spoilt_26 : decode cX9_spoilt 26 = .ok (.iconst 0, 1) := by decide +kernel
theorem dX9_spoilt_27 : decode cX9_spoilt 27 = .ok (.istore 4, 2) := by decide +kernel
theorem dX9_spoilt_29 : decode cX9_spoilt 29 = .ok (.iload_n 3, 1) := by decide +kernel
theorem dX9_spoilt_30 : decode cX9_spoilt 30 = .ok (.invokestatic 154, 3) := by decide +kernel
theorem dX9_spoilt_33 : decode cX9_spoilt 33 = .ok (.ifCond .eq 16, 3) := by decide +kernel
theorem dX9_spoilt_36 : decode cX9_spoilt 36 = .ok (.aload_n 0, 1) := by decide +kernel
theorem dX9_spoilt_37 : decode cX9_spoilt 37 = .ok (.iload_n 1, 1) := by decide +kernel
theorem dX9_spoilt_38 : decode cX9_spoilt 38 = .ok (.invokevirtual 228, 3) := by decide +kernel
theorem dX9_spoilt_41 : decode cX9_spoilt 41 = .ok (.ifCond .eq 8, 3) := by decide +kernel
theorem dX9_spoilt_49 : decode cX9_spoilt 49 = .ok (.ldc 231, 2) := by decide +kernel
theorem dX9_spoilt_51 : decode cX9_spoilt 51 = .ok (.ireturn, 1) := by decide +kernel
theorem dX9_standIn_0 : decode cX9_standIn 0 = .ok (.aload_n 0, 1) := by decide +kernel
theorem dX9_standIn_1 : decode cX9_standIn 1 = .ok (.iload_n 1, 1) := by decide +kernel
theorem dX9_standIn_2 : decode cX9_standIn 2 = .ok (.invokevirtual 228, 3) := by decide +kernel
theorem dX9_standIn_5 : decode cX9_standIn 5 = .ok (.ifCond .eq 23, 3) := by decide +kernel
theorem dX9_standIn_28 : decode cX9_standIn 28 = .ok (.iconst 0, 1) := by decide +kernel
theorem dX9_standIn_29 : decode cX9_standIn 29 = .ok (.istore 5, 2) := by decide +kernel
theorem dX9_standIn_31 : decode cX9_standIn 31 = .ok (.aload_n 0, 1) := by decide +kernel
theorem dX9_standIn_32 : decode cX9_standIn 32 = .ok (.getfield 19, 3) := by decide +kernel
theorem dX9_standIn_35 : decode cX9_standIn 35 = .ok (.iload_n 3, 1) := by decide +kernel
theorem dX9_standIn_36 : decode cX9_standIn 36 = .ok (.invokevirtual 170, 3) := by decide +kernel
theorem dX9_standIn_39 : decode cX9_standIn 39 = .ok (.ifCond .ne 19, 3) := by decide +kernel
theorem dX9_standIn_42 : decode cX9_standIn 42 = .ok (.iload_n 3, 1) := by decide +kernel
theorem dX9_standIn_43 : decode cX9_standIn 43 = .ok (.bipush 12, 2) := by decide +kernel
theorem dX9_standIn_45 : decode cX9_standIn 45 = .ok (.if_icmp .ne 17, 3) := by decide +kernel
theorem dX9_standIn_48 : decode cX9_standIn 48 = .ok (.aload_n 0, 1) := by decide +kernel
theorem dX9_standIn_49 : decode cX9_standIn 49 = .ok (.getfield 19, 3) := by decide +kernel
theorem dX9_standIn_52 : decode cX9_standIn 52 = .ok (.getfield 92, 3) := by decide +kernel
theorem dX9_standIn_55 : decode cX9_standIn 55 = .ok (.ifCond .eq 7, 3) := by decide +kernel
theorem dX9_standIn_62 : decode cX9_standIn 62 = .ok (.iconst 0, 1) := by decide +kernel
theorem dX9_standIn_63 : decode cX9_standIn 63 = .ok (.istore 6, 2) := by decide +kernel
theorem dX9_standIn_65 : decode cX9_standIn 65 = .ok (.iload 4, 2) := by decide +kernel
theorem dX9_standIn_67 : decode cX9_standIn 67 = .ok (.invokestatic 154, 3) := by decide +kernel
theorem dX9_standIn_70 : decode cX9_standIn 70 = .ok (.ifCond .eq 13, 3) := by decide +kernel
theorem dX9_standIn_73 : decode cX9_standIn 73 = .ok (.iload 5, 2) := by decide +kernel
theorem dX9_standIn_75 : decode cX9_standIn 75 = .ok (.ifCond .eq 8, 3) := by decide +kernel
theorem dX9_standIn_83 : decode cX9_standIn 83 = .ok (.ldc 231, 2) := by decide +kernel
theorem dX9_standIn_85 : decode cX9_standIn 85 = .ok (.ireturn, 1) := by decide +kernel
theorem dX9_stopped_0 : decode cX9_stopped 0 = .ok (.aload_n 0, 1) := by decide +kernel
theorem dX9_stopped_1 : decode cX9_stopped 1 = .ok (.getfield 10, 3) := by decide +kernel
theorem dX9_stopped_4 : decode cX9_stopped 4 = .ok (.iload_n 1, 1) := by decide +kernel
theorem dX9_stopped_5 : decode cX9_stopped 5 = .ok (.iconst 1, 1) := by decide +kernel
theorem dX9_stopped_6 : decode cX9_stopped 6 = .ok (.bipush 12, 2) := by decide +kernel
theorem dX9_stopped_8 : decode cX9_stopped 8 = .ok (.invokevirtual 115, 3) := by decide +kernel
theorem dX9_stopped_11 : decode cX9_stopped 11 = .ok (.ifCond .ne 5, 3) := by decide +kernel
theorem dX9_stopped_14 : decode cX9_stopped 14 = .ok (.iconst (-1), 1) := by decide +kernel
theorem dX9_stopped_15 : decode cX9_stopped 15 = .ok (.ireturn, 1) := by decide +kernel
theorem dX9_together_0 : decode cX9_together 0 = .ok (.iload_n 3, 1) := by decide +kernel
theorem dX9_together_1 : decode cX9_together 1 = .ok (.invokestatic 154, 3) := by decide +kernel
theorem dX9_together_4 : decode cX9_together 4 = .ok (.ifCond .eq 24, 3) := by decide +kernel
theorem dX9_together_7 : decode cX9_together 7 = .ok (.aload_n 0, 1) := by decide +kernel
theorem dX9_together_8 : decode cX9_together 8 = .ok (.iload_n 1, 1) := by decide +kernel
theorem dX9_together_9 : decode cX9_together 9 = .ok (.invokevirtual 228, 3) := by decide +kernel
theorem dX9_together_12 : decode cX9_together 12 = .ok (.ifCond .eq 16, 3) := by decide +kernel
theorem dX9_together_28 : decode cX9_together 28 = .ok (.ldc 231, 2) := by decide +kernel
theorem dX9_together_30 : decode cX9_together 30 = .ok (.ireturn, 1) := by decide +kernel
theorem dX9_tried_0 : decode cX9_tried 0 = .ok (.iload_n 2, 1) := by decide +kernel
theorem dX9_tried_1 : decode cX9_tried 1 = .ok (.iconst 0, 1) := by decide +kernel
theorem dX9_tried_2 : decode cX9_tried 2 = .ok (.iconst 4, 1) := by decide +kernel
theorem dX9_tried_3 : decode cX9_tried 3 = .ok (.invokestatic 81, 3) := by decide +kernel
theorem dX9_tried_6 : decode cX9_tried 6 = .ok (.ifCond .ne 31, 3) := by decide +kernel
theorem dX9_tried_9 : decode cX9_tried 9 = .ok (.aload_n 0, 1) := by decide +kernel
theorem dX9_tried_10 : decode cX9_tried 10 = .ok (.getfield 19, 3) := by decide +kernel
theorem dX9_tried_13 : decode cX9_tried 13 = .ok (.iload_n 2, 1) := by decide +kernel
theorem dX9_tried_14 : decode cX9_tried 14 = .ok (.bipush 10, 2) := by decide +kernel
theorem dX9_tried_16 : decode cX9_tried 16 = .ok (.isub, 1) := by decide +kernel
theorem dX9_tried_17 : decode cX9_tried 17 = .ok (.invokevirtual 170, 3) := by decide +kernel
theorem dX9_tried_20 : decode cX9_tried 20 = .ok (.ifCond .ne 17, 3) := by decide +kernel
theorem dX9_tried_23 : decode cX9_tried 23 = .ok (.aload_n 0, 1) := by decide +kernel
theorem dX9_tried_24 : decode cX9_tried 24 = .ok (.getfield 19, 3) := by decide +kernel
theorem dX9_tried_27 : decode cX9_tried 27 = .ok (.iload_n 2, 1) := by decide +kernel
theorem dX9_tried_28 : decode cX9_tried 28 = .ok (.bipush 30, 2) := by decide +kernel
theorem dX9_tried_30 : decode cX9_tried 30 = .ok (.isub, 1) := by decide +kernel
theorem dX9_tried_31 : decode cX9_tried 31 = .ok (.invokevirtual 173, 3) := by decide +kernel
theorem dX9_tried_34 : decode cX9_tried 34 = .ok (.ifCond .eq 7, 3) := by decide +kernel
theorem dX9_tried_37 : decode cX9_tried 37 = .ok (.iconst 1, 1) := by decide +kernel
theorem dX9_tried_38 : decode cX9_tried 38 = .ok (.goto 4, 3) := by decide +kernel
theorem dX9_tried_41 : decode cX9_tried 41 = .ok (.iconst 0, 1) := by decide +kernel
theorem dX9_tried_42 : decode cX9_tried 42 = .ok (.istore_n 3, 1) := by decide +kernel
theorem dX9_tried_43 : decode cX9_tried 43 = .ok (.iload_n 1, 1) := by decide +kernel
theorem dX9_tried_44 : decode cX9_tried 44 = .ok (.invokestatic 154, 3) := by decide +kernel
theorem dX9_tried_47 : decode cX9_tried 47 = .ok (.ifCond .eq 7, 3) := by decide +kernel
theorem dX9_tried_50 : decode cX9_tried 50 = .ok (.iload_n 3, 1) := by decide +kernel
theorem dX9_tried_51 : decode cX9_tried 51 = .ok (.ifCond .ne 5, 3) := by decide +kernel
theorem dX9_tried_54 : decode cX9_tried 54 = .ok (.iconst (-1), 1) := by decide +kernel
theorem dX9_tried_55 : decode cX9_tried 55 = .ok (.ireturn, 1) := by decide +kernel
theorem dX9_tried_56 : decode cX9_tried 56 = .ok (.aload_n 0, 1) := by decide +kernel
theorem dX9_tried_57 : decode cX9_tried 57 = .ok (.getfield 73, 3) := by decide +kernel
theorem dX9_tried_60 : decode cX9_tried 60 = .ok (.aload_n 0, 1) := by decide +kernel
theorem dX9_tried_61 : decode cX9_tried 61 = .ok (.getfield 26, 3) := by decide +kernel
theorem dX9_tried_64 : decode cX9_tried 64 = .ok (.invokevirtual 157, 3) := by decide +kernel
theorem dX9_tried_67 : decode cX9_tried 67 = .ok (.aload_n 0, 1) := by decide +kernel
theorem dX9_tried_68 : decode cX9_tried 68 = .ok (.getfield 73, 3) := by decide +kernel
theorem dX9_tried_71 : decode cX9_tried 71 = .ok (.iload_n 1, 1) := by decide +kernel
theorem dX9_tried_72 : decode cX9_tried 72 = .ok (.ldc 160, 2) := by decide +kernel
theorem dX9_tried_74 : decode cX9_tried 74 = .ok (.invokevirtual 161, 3) := by decide +kernel
theorem dX9_tried_77 : decode cX9_tried 77 = .ok (.istore 4, 2) := by decide +kernel
theorem dX9_tried_79 : decode cX9_tried 79 = .ok (.iload_n 2, 1) := by decide +kernel
theorem dX9_tried_80 : decode cX9_tried 80 = .ok (.tableswitch 74 0 4 #[36, 39, 47, 58, 66], 36) := by decide +kernel
theorem dX9_tried_116 : decode cX9_tried 116 = .ok (.iload 4, 2) := by decide +kernel
theorem dX9_tried_118 : decode cX9_tried 118 = .ok (.ireturn, 1) := by decide +kernel
theorem dX9_tried_119 : decode cX9_tried 119 = .ok (.aload_n 0, 1) := by decide +kernel
theorem dX9_tried_120 : decode cX9_tried 120 = .ok (.getfield 73, 3) := by decide +kernel
theorem dX9_tried_123 : decode cX9_tried 123 = .ok (.getfield 176, 3) := by decide +kernel
theorem dX9_tried_126 : decode cX9_tried 126 = .ok (.ireturn, 1) := by decide +kernel
theorem dX9_tried_127 : decode cX9_tried 127 = .ok (.aload_n 0, 1) := by decide +kernel
theorem dX9_tried_128 : decode cX9_tried 128 = .ok (.getfield 73, 3) := by decide +kernel
theorem dX9_tried_131 : decode cX9_tried 131 = .ok (.getfield 165, 3) := by decide +kernel
theorem dX9_tried_134 : decode cX9_tried 134 = .ok (.invokevirtual 179, 3) := by decide +kernel
theorem dX9_tried_137 : decode cX9_tried 137 = .ok (.ireturn, 1) := by decide +kernel
theorem dX9_tried_138 : decode cX9_tried 138 = .ok (.aload_n 0, 1) := by decide +kernel
theorem dX9_tried_139 : decode cX9_tried 139 = .ok (.getfield 73, 3) := by decide +kernel
theorem dX9_tried_142 : decode cX9_tried 142 = .ok (.invokevirtual 182, 3) := by decide +kernel
theorem dX9_tried_145 : decode cX9_tried 145 = .ok (.ireturn, 1) := by decide +kernel
theorem dX9_tried_146 : decode cX9_tried 146 = .ok (.aload_n 0, 1) := by decide +kernel
theorem dX9_tried_147 : decode cX9_tried 147 = .ok (.getfield 73, 3) := by decide +kernel
theorem dX9_tried_150 : decode cX9_tried 150 = .ok (.getfield 185, 3) := by decide +kernel
theorem dX9_tried_153 : decode cX9_tried 153 = .ok (.ireturn, 1) := by decide +kernel
theorem dX9_undo_0 : decode cX9_undo 0 = .ok (.aload_n 0, 1) := by decide +kernel
theorem dX9_undo_1 : decode cX9_undo 1 = .ok (.getfield 296, 3) := by decide +kernel
theorem dX9_undo_4 : decode cX9_undo 4 = .ok (.ifCond .eq 14, 3) := by decide +kernel
theorem dX9_undo_18 : decode cX9_undo 18 = .ok (.aload_n 0, 1) := by decide +kernel
theorem dX9_undo_19 : decode cX9_undo 19 = .ok (.getfield 296, 3) := by decide +kernel
theorem dX9_undo_22 : decode cX9_undo 22 = .ok (.ireturn, 1) := by decide +kernel
theorem dX9_when_0 : decode cX9_when 0 = .ok (.aload_n 0, 1) := by decide +kernel
theorem dX9_when_1 : decode cX9_when 1 = .ok (.getfield 19, 3) := by decide +kernel
theorem dX9_when_4 : decode cX9_when 4 = .ok (.iload_n 1, 1) := by decide +kernel
theorem dX9_when_5 : decode cX9_when 5 = .ok (.invokevirtual 173, 3) := by decide +kernel
theorem dX9_when_8 : decode cX9_when 8 = .ok (.ifCond .eq 33, 3) := by decide +kernel
theorem dX9_when_41 : decode cX9_when 41 = .ok (.ldc 231, 2) := by decide +kernel
theorem dX9_when_43 : decode cX9_when 43 = .ok (.ireturn, 1) := by decide +kernel
theorem dX9_within_0 : decode cX9_within 0 = .ok (.iload_n 0, 1) := by decide +kernel
theorem dX9_within_1 : decode cX9_within 1 = .ok (.iload_n 1, 1) := by decide +kernel
theorem dX9_within_2 : decode cX9_within 2 = .ok (.if_icmp .lt 12, 3) := by decide +kernel
theorem dX9_within_5 : decode cX9_within 5 = .ok (.iload_n 0, 1) := by decide +kernel
theorem dX9_within_6 : decode cX9_within 6 = .ok (.iload_n 2, 1) := by decide +kernel
theorem dX9_within_7 : decode cX9_within 7 = .ok (.if_icmp .gt 7, 3) := by decide +kernel
theorem dX9_within_10 : decode cX9_within 10 = .ok (.iconst 1, 1) := by decide +kernel
theorem dX9_within_11 : decode cX9_within 11 = .ok (.goto 4, 3) := by decide +kernel
theorem dX9_within_14 : decode cX9_within 14 = .ok (.iconst 0, 1) := by decide +kernel
theorem dX9_within_15 : decode cX9_within 15 = .ok (.ireturn, 1) := by decide +kernel
end
section
set_option maxRecDepth 100000 in
set_option maxHeartbeats 4000000 in
/-- within -/
theorem c_X9_within (l : Launch) (D : va_G) (cI cB : ClassId) (x : Int32) (lo : Int32) (hi : Int32)  : MR l D cI cB yX9_within cX9_within 3 .boolean (rm 0 0) [.int x, .int lo, .int hi] [] (fun r : Int32 => r = bI (lo ≤ x ∧ x ≤ hi)) := by
  refine MR.of (by decide) (Nat.le_of_ble_eq_true rfl) ?_
  intro p e s m below meth c Q ls X hN hP hK hl ret
  obtain ⟨hx, hb, hml, hown, htb⟩ := id X
  have hl : lv_has ls 3 [(0, .int x), (1, .int lo), (2, .int hi)] := hl
  refine lv_iload_n hx hb dX9_within_0 rfl (lv_at hl 0 rfl) ?_
  refine lv_iload_n hx hb dX9_within_1 rfl (lv_at hl 1 rfl) ?_
  refine lv_icmp_lt (tgt := 14) hx hb dX9_within_2 (by decide) (fun c_2 => ?_) (fun c_2 => ?_)
  · refine lv_iconst (v := 0) hx hb dX9_within_14 (by decide) ?_
    exact ret _ _ 0 dX9_within_15 rfl (bI0 (fun h => (Int32.not_lt.mpr h.1) c_2))
  · refine lv_iload_n hx hb dX9_within_5 rfl (lv_at hl 0 rfl) ?_
    refine lv_iload_n hx hb dX9_within_6 rfl (lv_at hl 2 rfl) ?_
    refine lv_icmp_gt (tgt := 14) hx hb dX9_within_7 (by decide) (fun c_7 => ?_) (fun c_7 => ?_)
    · refine lv_iconst (v := 0) hx hb dX9_within_14 (by decide) ?_
      exact ret _ _ 0 dX9_within_15 rfl (bI0 (fun h => (Int32.not_lt.mpr h.2) c_7))
    · refine lv_iconst (v := 1) hx hb dX9_within_10 (by decide) ?_
      refine lv_goto (tgt := 15) hx hb dX9_within_11 (by decide) ?_
      exact ret _ _ 1 dX9_within_15 rfl (bI1 ⟨Int32.not_lt.mp c_2, Int32.not_lt.mp c_7⟩)

set_option maxRecDepth 100000 in
set_option maxHeartbeats 4000000 in
theorem c_X10_in (l : Launch) (D : va_G) (cI cB : ClassId) (x : Int32) (lo : Int32) (hi : Int32)  : MR l D cI cB yX10_in cX10_in 3 .boolean (rm 0 0) [.int x, .int lo, .int hi] [] (fun r : Int32 => r = bI (lo ≤ x ∧ x ≤ hi)) := by
  refine MR.of (by decide) (Nat.le_of_ble_eq_true rfl) ?_
  intro p e s m below meth c Q ls X hN hP hK hl ret
  obtain ⟨hx, hb, hml, hown, htb⟩ := id X
  have hl : lv_has ls 3 [(0, .int x), (1, .int lo), (2, .int hi)] := hl
  refine lv_iload_n hx hb dX10_in_0 rfl (lv_at hl 0 rfl) ?_
  refine lv_iload_n hx hb dX10_in_1 rfl (lv_at hl 1 rfl) ?_
  refine lv_icmp_lt (tgt := 14) hx hb dX10_in_2 (by decide) (fun c_2 => ?_) (fun c_2 => ?_)
  · refine lv_iconst (v := 0) hx hb dX10_in_14 (by decide) ?_
    exact ret _ _ 0 dX10_in_15 rfl (bI0 (fun h => (Int32.not_lt.mpr h.1) c_2))
  · refine lv_iload_n hx hb dX10_in_5 rfl (lv_at hl 0 rfl) ?_
    refine lv_iload_n hx hb dX10_in_6 rfl (lv_at hl 2 rfl) ?_
    refine lv_icmp_gt (tgt := 14) hx hb dX10_in_7 (by decide) (fun c_7 => ?_) (fun c_7 => ?_)
    · refine lv_iconst (v := 0) hx hb dX10_in_14 (by decide) ?_
      exact ret _ _ 0 dX10_in_15 rfl (bI0 (fun h => (Int32.not_lt.mpr h.2) c_7))
    · refine lv_iconst (v := 1) hx hb dX10_in_10 (by decide) ?_
      refine lv_goto (tgt := 15) hx hb dX10_in_11 (by decide) ?_
      exact ret _ _ 1 dX10_in_15 rfl (bI1 ⟨Int32.not_lt.mp c_2, Int32.not_lt.mp c_7⟩)

set_option maxRecDepth 100000 in
set_option maxHeartbeats 4000000 in
theorem c_X9_isDayCount (l : Launch) (D : va_G) (cI cB : ClassId) (x : Int32)  : MR l D cI cB yX9_isDayCount cX9_isDayCount 1 .boolean (rm 0 0) [.int x] [] (fun r : Int32 => r = bI (1 ≤ x ∧ x ≤ 60)) := by
  refine MR.of (by decide) (Nat.le_of_ble_eq_true rfl) ?_
  intro p e s m below meth c Q ls X hN hP hK hl ret
  obtain ⟨hx, hb, hml, hown, htb⟩ := id X
  have hl : lv_has ls 1 [(0, .int x)] := hl
  refine lv_iload_n hx hb dX9_isDayCount_0 rfl (lv_at hl 0 rfl) ?_
  refine lv_iconst (v := 1) hx hb dX9_isDayCount_1 (by decide) ?_
  refine lv_icmp_lt (tgt := 15) hx hb dX9_isDayCount_2 (by decide) (fun c_2 => ?_) (fun c_2 => ?_)
  · refine lv_iconst (v := 0) hx hb dX9_isDayCount_15 (by decide) ?_
    exact ret _ _ 0 dX9_isDayCount_16 rfl (bI0 (fun h => (Int32.not_lt.mpr h.1) c_2))
  · refine lv_iload_n hx hb dX9_isDayCount_5 rfl (lv_at hl 0 rfl) ?_
    refine lv_bipush (v := 60) hx hb dX9_isDayCount_6 (by decide) ?_
    refine lv_icmp_gt (tgt := 15) hx hb dX9_isDayCount_8 (by decide) (fun c_8 => ?_) (fun c_8 => ?_)
    · refine lv_iconst (v := 0) hx hb dX9_isDayCount_15 (by decide) ?_
      exact ret _ _ 0 dX9_isDayCount_16 rfl (bI0 (fun h => (Int32.not_lt.mpr h.2) c_8))
    · refine lv_iconst (v := 1) hx hb dX9_isDayCount_11 (by decide) ?_
      refine lv_goto (tgt := 16) hx hb dX9_isDayCount_12 (by decide) ?_
      exact ret _ _ 1 dX9_isDayCount_16 rfl (bI1 ⟨Int32.not_lt.mp c_2, Int32.not_lt.mp c_8⟩)

set_option maxRecDepth 100000 in
set_option maxHeartbeats 4000000 in
theorem c_X9_isIn (l : Launch) (D : va_G) (cI cB : ClassId) (a : Int32) (k : Int32)  : MR l D cI cB yX9_isIn cX9_isIn 2 .boolean (rm 0 0) [.int a, .int k] [] (fun r : Int32 => (r = 0 ∨ r = 1) ∧ (a = 0 → r = 0)) := by
  refine MR.of (by decide) (Nat.le_of_ble_eq_true rfl) ?_
  intro p e s m below meth c Q ls X hN hP hK hl ret
  obtain ⟨hx, hb, hml, hown, htb⟩ := id X
  have hl : lv_has ls 2 [(0, .int a), (1, .int k)] := hl
  refine lv_iload_n hx hb dX9_isIn_0 rfl (lv_at hl 1 rfl) ?_
  refine lv_if_lt (tgt := 23) hx hb dX9_isIn_1 (by decide) (fun c_1 => ?_) (fun c_1 => ?_)
  · refine lv_iconst (v := 0) hx hb dX9_isIn_23 (by decide) ?_
    exact ret _ _ 0 dX9_isIn_24 rfl (⟨Or.inl rfl, fun _ => rfl⟩)
  · refine lv_iload_n hx hb dX9_isIn_4 rfl (lv_at hl 1 rfl) ?_
    refine lv_bipush (v := 31) hx hb dX9_isIn_5 (by decide) ?_
    refine lv_icmp_ge (tgt := 23) hx hb dX9_isIn_7 (by decide) (fun c_7 => ?_) (fun c_7 => ?_)
    · refine lv_iconst (v := 0) hx hb dX9_isIn_23 (by decide) ?_
      exact ret _ _ 0 dX9_isIn_24 rfl (⟨Or.inl rfl, fun _ => rfl⟩)
    · refine lv_iload_n hx hb dX9_isIn_10 rfl (lv_at hl 0 rfl) ?_
      refine lv_iload_n hx hb dX9_isIn_11 rfl (lv_at hl 1 rfl) ?_
      refine lv_ishr hx hb dX9_isIn_12 ?_
      refine lv_iconst (v := 1) hx hb dX9_isIn_13 (by decide) ?_
      refine lv_iand hx hb dX9_isIn_14 ?_
      refine lv_iconst (v := 1) hx hb dX9_isIn_15 (by decide) ?_
      refine lv_icmp_ne (tgt := 23) hx hb dX9_isIn_16 (by decide) (fun c_16 => ?_) (fun c_16 => ?_)
      · refine lv_iconst (v := 0) hx hb dX9_isIn_23 (by decide) ?_
        exact ret _ _ 0 dX9_isIn_24 rfl (⟨Or.inl rfl, fun _ => rfl⟩)
      · refine lv_iconst (v := 1) hx hb dX9_isIn_19 (by decide) ?_
        refine lv_goto (tgt := 24) hx hb dX9_isIn_20 (by decide) ?_
        exact ret _ _ 1 dX9_isIn_24 rfl (⟨Or.inr rfl, fun h => absurd c_16 (by rw [h]; exact sh0 _)⟩)

set_option maxRecDepth 100000 in
set_option maxHeartbeats 4000000 in
theorem c_X10_has (l : Launch) (D : va_G) (cI cB : ClassId) (a : Int32) (k : Int32)  : MR l D cI cB yX10_has cX10_has 2 .boolean (rm 0 0) [.int a, .int k] [] (fun r : Int32 => r = bI (a >>> (k &&& 31) &&& 1 = 1)) := by
  refine MR.of (by decide) (Nat.le_of_ble_eq_true rfl) ?_
  intro p e s m below meth c Q ls X hN hP hK hl ret
  obtain ⟨hx, hb, hml, hown, htb⟩ := id X
  have hl : lv_has ls 2 [(0, .int a), (1, .int k)] := hl
  refine lv_iload_n hx hb dX10_has_0 rfl (lv_at hl 0 rfl) ?_
  refine lv_iload_n hx hb dX10_has_1 rfl (lv_at hl 1 rfl) ?_
  refine lv_ishr hx hb dX10_has_2 ?_
  refine lv_iconst (v := 1) hx hb dX10_has_3 (by decide) ?_
  refine lv_iand hx hb dX10_has_4 ?_
  refine lv_iconst (v := 1) hx hb dX10_has_5 (by decide) ?_
  refine lv_icmp_ne (tgt := 13) hx hb dX10_has_6 (by decide) (fun c_6 => ?_) (fun c_6 => ?_)
  · refine lv_iconst (v := 0) hx hb dX10_has_13 (by decide) ?_
    exact ret _ _ 0 dX10_has_14 rfl (bI0 c_6)
  · refine lv_iconst (v := 1) hx hb dX10_has_9 (by decide) ?_
    refine lv_goto (tgt := 14) hx hb dX10_has_10 (by decide) ?_
    exact ret _ _ 1 dX10_has_14 rfl (bI1 c_6)

set_option maxRecDepth 100000 in
set_option maxHeartbeats 4000000 in
theorem c_J6_bitCount_0f7a4 (l : Launch) (D : va_G) (cI cB : ClassId) (a : Int32)  : MR l D cI cB yJ6_bitCount_0f7a4 cJ6_bitCount_0f7a4 1 .int (rm 0 0) [.int a] [] (fun r : Int32 => a = 0 → r = 0) := by
  refine MR.of (by decide) (Nat.le_of_ble_eq_true rfl) ?_
  intro p e s m below meth c Q ls X hN hP hK hl ret
  obtain ⟨hx, hb, hml, hown, htb⟩ := id X
  have hl : lv_has ls 1 [(0, .int a)] := hl
  refine lv_iload_n hx hb dJ6_bitCount_0f7a4_0 rfl (lv_at hl 0 rfl) ?_
  refine lv_iload_n hx hb dJ6_bitCount_0f7a4_1 rfl (lv_at hl 0 rfl) ?_
  refine lv_iconst (v := 1) hx hb dJ6_bitCount_0f7a4_2 (by decide) ?_
  refine lv_iushr hx hb dJ6_bitCount_0f7a4_3 rfl ?_
  refine lv_ldcw (v := 1431655765) hx hb hown (htb _ k_757) dJ6_bitCount_0f7a4_4 ?_
  refine lv_iand hx hb dJ6_bitCount_0f7a4_7 ?_
  refine lv_isub hx hb dJ6_bitCount_0f7a4_8 ?_
  refine lv_topi (fun x_1 ex_1 => ?_)
  refine lv_istore_n (lv' := [(0, .int x_1)]) hx hb dJ6_bitCount_0f7a4_9 rfl hl (by decide) rfl (fun ls hl => ?_)
  refine lv_iload_n hx hb dJ6_bitCount_0f7a4_10 rfl (lv_at hl 0 rfl) ?_
  refine lv_ldcw (v := 858993459) hx hb hown (htb _ k_758) dJ6_bitCount_0f7a4_11 ?_
  refine lv_iand hx hb dJ6_bitCount_0f7a4_14 ?_
  refine lv_iload_n hx hb dJ6_bitCount_0f7a4_15 rfl (lv_at hl 0 rfl) ?_
  refine lv_iconst (v := 2) hx hb dJ6_bitCount_0f7a4_16 (by decide) ?_
  refine lv_iushr hx hb dJ6_bitCount_0f7a4_17 rfl ?_
  refine lv_ldcw (v := 858993459) hx hb hown (htb _ k_758) dJ6_bitCount_0f7a4_18 ?_
  refine lv_iand hx hb dJ6_bitCount_0f7a4_21 ?_
  refine lv_iadd hx hb dJ6_bitCount_0f7a4_22 ?_
  refine lv_topi (fun x_2 ex_2 => ?_)
  refine lv_istore_n (lv' := [(0, .int x_2)]) hx hb dJ6_bitCount_0f7a4_23 rfl hl (by decide) rfl (fun ls hl => ?_)
  refine lv_iload_n hx hb dJ6_bitCount_0f7a4_24 rfl (lv_at hl 0 rfl) ?_
  refine lv_iload_n hx hb dJ6_bitCount_0f7a4_25 rfl (lv_at hl 0 rfl) ?_
  refine lv_iconst (v := 4) hx hb dJ6_bitCount_0f7a4_26 (by decide) ?_
  refine lv_iushr hx hb dJ6_bitCount_0f7a4_27 rfl ?_
  refine lv_iadd hx hb dJ6_bitCount_0f7a4_28 ?_
  refine lv_ldcw (v := 252645135) hx hb hown (htb _ k_759) dJ6_bitCount_0f7a4_29 ?_
  refine lv_iand hx hb dJ6_bitCount_0f7a4_32 ?_
  refine lv_topi (fun x_3 ex_3 => ?_)
  refine lv_istore_n (lv' := [(0, .int x_3)]) hx hb dJ6_bitCount_0f7a4_33 rfl hl (by decide) rfl (fun ls hl => ?_)
  refine lv_iload_n hx hb dJ6_bitCount_0f7a4_34 rfl (lv_at hl 0 rfl) ?_
  refine lv_iload_n hx hb dJ6_bitCount_0f7a4_35 rfl (lv_at hl 0 rfl) ?_
  refine lv_bipush (v := 8) hx hb dJ6_bitCount_0f7a4_36 (by decide) ?_
  refine lv_iushr hx hb dJ6_bitCount_0f7a4_38 rfl ?_
  refine lv_iadd hx hb dJ6_bitCount_0f7a4_39 ?_
  refine lv_topi (fun x_4 ex_4 => ?_)
  refine lv_istore_n (lv' := [(0, .int x_4)]) hx hb dJ6_bitCount_0f7a4_40 rfl hl (by decide) rfl (fun ls hl => ?_)
  refine lv_iload_n hx hb dJ6_bitCount_0f7a4_41 rfl (lv_at hl 0 rfl) ?_
  refine lv_iload_n hx hb dJ6_bitCount_0f7a4_42 rfl (lv_at hl 0 rfl) ?_
  refine lv_bipush (v := 16) hx hb dJ6_bitCount_0f7a4_43 (by decide) ?_
  refine lv_iushr hx hb dJ6_bitCount_0f7a4_45 rfl ?_
  refine lv_iadd hx hb dJ6_bitCount_0f7a4_46 ?_
  refine lv_topi (fun x_5 ex_5 => ?_)
  refine lv_istore_n (lv' := [(0, .int x_5)]) hx hb dJ6_bitCount_0f7a4_47 rfl hl (by decide) rfl (fun ls hl => ?_)
  refine lv_iload_n hx hb dJ6_bitCount_0f7a4_48 rfl (lv_at hl 0 rfl) ?_
  refine lv_bipush (v := 63) hx hb dJ6_bitCount_0f7a4_49 (by decide) ?_
  refine lv_iand hx hb dJ6_bitCount_0f7a4_51 ?_
  exact ret _ _ (x_5 &&& 63) dJ6_bitCount_0f7a4_52 rfl (fun h => by subst h; subst ex_1; subst ex_2; subst ex_3; subst ex_4; subst ex_5; decide +kernel)

set_option maxRecDepth 100000 in
set_option maxHeartbeats 4000000 in
theorem c_X7_hasPerson (l : Launch) (D : va_G) (cI cB : ClassId) (h0 : Nat) (rt : Int32) (t1 : Nat) (t2 : Nat) (t3 : Nat) (t4 : Nat) (k : Int32)  : MR l D cI cB yX7_hasPerson cX7_hasPerson 2 .boolean (rm 1 21) [.ref h0, .int k] [(h0, .inr (7, [.int 0, .int 0, .int rt, .ref t1, .ref t2, .ref t3, .ref t4]))] (fun r : Int32 => r = 0) := by
  refine MR.of (by decide) (Nat.le_of_ble_eq_true rfl) ?_
  intro p e s m below meth c Q ls X hN hP hK hl ret
  obtain ⟨hx, hb, hml, hown, htb⟩ := id X
  have hl : lv_has ls 2 [(0, .ref h0), (1, .int k)] := hl
  refine lv_iload_n hx hb dX7_hasPerson_0 rfl (lv_at hl 1 rfl) ?_
  refine lv_if_lt (tgt := 25) hx hb dX7_hasPerson_1 (by decide) (fun c_1 => ?_) (fun c_1 => ?_)
  · refine lv_iconst (v := 0) hx hb dX7_hasPerson_25 (by decide) ?_
    exact ret _ _ 0 dX7_hasPerson_26 rfl rfl
  · refine lv_iload_n hx hb dX7_hasPerson_4 rfl (lv_at hl 1 rfl) ?_
    refine lv_bipush (v := 10) hx hb dX7_hasPerson_5 (by decide) ?_
    refine lv_icmp_ge (tgt := 25) hx hb dX7_hasPerson_7 (by decide) (fun c_7 => ?_) (fun c_7 => ?_)
    · refine lv_iconst (v := 0) hx hb dX7_hasPerson_25 (by decide) ?_
      exact ret _ _ 0 dX7_hasPerson_26 rfl rfl
    · refine lv_aload_n hx hb dX7_hasPerson_10 rfl (lv_at hl 0 rfl) ?_
      refine va_get (D := D) (ci := 7) (v := .int 0) (C := RX7) (T := TX7) (N := 7) hx hb htb itX7 hown hK hP 0 rfl rfl 0 (by decide) (htb _ k_143) (fun _ h9 => h9) rfl dX7_hasPerson_11 ?_
      refine lv_iload_n hx hb dX7_hasPerson_14 rfl (lv_at hl 1 rfl) ?_
      refine cSNR (As := [.int 0, .int k]) (rest := []) (n := 2) X hN hK hP (c_X9_isIn l D cI cB 0 k) n_858 k_696 k_92 k_697 (by decide +kernel) ⟨Nat.le_of_ble_eq_true rfl, Nat.le_of_ble_eq_true rfl⟩ ⟨rfl, rfl⟩ [] rfl rfl rfl hl.1 (Nat.le_of_ble_eq_true rfl) dX7_hasPerson_15 ⟨Nat.le_of_ble_eq_true rfl, Nat.le_of_ble_eq_true rfl⟩ (fun r hr => ?_)
      refine lv_if_eq (tgt := 25) hx hb dX7_hasPerson_18 (by decide) (fun _ => ?_) (fun c_18 => absurd (hr.2 rfl) c_18)
      refine lv_iconst (v := 0) hx hb dX7_hasPerson_25 (by decide) ?_
      exact ret _ _ 0 dX7_hasPerson_26 rfl rfl

set_option maxRecDepth 100000 in
set_option maxHeartbeats 4000000 in
theorem c_X7_hasChore (l : Launch) (D : va_G) (cI cB : ClassId) (h0 : Nat) (rt : Int32) (t1 : Nat) (t2 : Nat) (t3 : Nat) (t4 : Nat) (k : Int32)  : MR l D cI cB yX7_hasChore cX7_hasChore 2 .boolean (rm 1 21) [.ref h0, .int k] [(h0, .inr (7, [.int 0, .int 0, .int rt, .ref t1, .ref t2, .ref t3, .ref t4]))] (fun r : Int32 => r = 0) := by
  refine MR.of (by decide) (Nat.le_of_ble_eq_true rfl) ?_
  intro p e s m below meth c Q ls X hN hP hK hl ret
  obtain ⟨hx, hb, hml, hown, htb⟩ := id X
  have hl : lv_has ls 2 [(0, .ref h0), (1, .int k)] := hl
  refine lv_iload_n hx hb dX7_hasChore_0 rfl (lv_at hl 1 rfl) ?_
  refine lv_if_lt (tgt := 25) hx hb dX7_hasChore_1 (by decide) (fun c_1 => ?_) (fun c_1 => ?_)
  · refine lv_iconst (v := 0) hx hb dX7_hasChore_25 (by decide) ?_
    exact ret _ _ 0 dX7_hasChore_26 rfl rfl
  · refine lv_iload_n hx hb dX7_hasChore_4 rfl (lv_at hl 1 rfl) ?_
    refine lv_bipush (v := 12) hx hb dX7_hasChore_5 (by decide) ?_
    refine lv_icmp_ge (tgt := 25) hx hb dX7_hasChore_7 (by decide) (fun c_7 => ?_) (fun c_7 => ?_)
    · refine lv_iconst (v := 0) hx hb dX7_hasChore_25 (by decide) ?_
      exact ret _ _ 0 dX7_hasChore_26 rfl rfl
    · refine lv_aload_n hx hb dX7_hasChore_10 rfl (lv_at hl 0 rfl) ?_
      refine va_get (D := D) (ci := 7) (v := .int 0) (C := RX7) (T := TX7) (N := 7) hx hb htb itX7 hown hK hP 0 rfl rfl 1 (by decide) (htb _ k_146) (fun _ h9 => h9) rfl dX7_hasChore_11 ?_
      refine lv_iload_n hx hb dX7_hasChore_14 rfl (lv_at hl 1 rfl) ?_
      refine cSNR (As := [.int 0, .int k]) (rest := []) (n := 2) X hN hK hP (c_X9_isIn l D cI cB 0 k) n_858 k_696 k_92 k_697 (by decide +kernel) ⟨Nat.le_of_ble_eq_true rfl, Nat.le_of_ble_eq_true rfl⟩ ⟨rfl, rfl⟩ [] rfl rfl rfl hl.1 (Nat.le_of_ble_eq_true rfl) dX7_hasChore_15 ⟨Nat.le_of_ble_eq_true rfl, Nat.le_of_ble_eq_true rfl⟩ (fun r hr => ?_)
      refine lv_if_eq (tgt := 25) hx hb dX7_hasChore_18 (by decide) (fun _ => ?_) (fun c_18 => absurd (hr.2 rfl) c_18)
      refine lv_iconst (v := 0) hx hb dX7_hasChore_25 (by decide) ?_
      exact ret _ _ 0 dX7_hasChore_26 rfl rfl

set_option maxRecDepth 100000 in
set_option maxHeartbeats 4000000 in
theorem c_X4_hasLeave (l : Launch) (D : va_G) (cI cB : ClassId) (h0 : Nat) (u1 : Nat) (f1 : Nat) (g1 : Nat) (ms : Int32) (dy : Int32) (dr : Int32) (k : Int32) (ff : Nat → Int32) (hf : ∀ j, j < 10 → ff j = -2) : MR l D cI cB yX4_hasLeave cX4_hasLeave 2 .boolean (rm 0 0) [.ref h0, .int k] [(h0, .inr (4, [.ref u1, .ref f1, .ref g1, .int ms, .int dy, .int dr])), (f1, .inl (cI, 10, .inl ff))] (fun r : Int32 => r = 0) := by
  refine MR.of (by decide) (Nat.le_of_ble_eq_true rfl) ?_
  intro p e s m below meth c Q ls X hN hP hK hl ret
  obtain ⟨hx, hb, hml, hown, htb⟩ := id X
  have hl : lv_has ls 2 [(0, .ref h0), (1, .int k)] := hl
  refine lv_iload_n hx hb dX4_hasLeave_0 rfl (lv_at hl 1 rfl) ?_
  refine lv_if_lt (tgt := 25) hx hb dX4_hasLeave_1 (by decide) (fun c_1 => ?_) (fun c_1 => ?_)
  · refine lv_iconst (v := 0) hx hb dX4_hasLeave_25 (by decide) ?_
    exact ret _ _ 0 dX4_hasLeave_26 rfl rfl
  · refine lv_iload_n hx hb dX4_hasLeave_4 rfl (lv_at hl 1 rfl) ?_
    refine lv_bipush (v := 10) hx hb dX4_hasLeave_5 (by decide) ?_
    refine lv_icmp_ge (tgt := 25) hx hb dX4_hasLeave_7 (by decide) (fun c_7 => ?_) (fun c_7 => ?_)
    · refine lv_iconst (v := 0) hx hb dX4_hasLeave_25 (by decide) ?_
      exact ret _ _ 0 dX4_hasLeave_26 rfl rfl
    · refine lv_aload_n hx hb dX4_hasLeave_10 rfl (lv_at hl 0 rfl) ?_
      refine va_get (D := D) (ci := 4) (v := .ref f1) (C := RX4) (T := TX4) (N := 6) hx hb htb itX4 hown hK hP 0 rfl rfl 1 (by decide) (htb _ k_192) (fun _ h9 => h9) rfl dX4_hasLeave_11 ?_
      refine lv_iload_n hx hb dX4_hasLeave_14 rfl (lv_at hl 1 rfl) ?_
      refine va_iald hx hb hK hP 1 0 rfl rfl (vin c_1 c_7 (by decide)) dX4_hasLeave_15 ?_
      refine tv (z := (-2)) (hf _ (vlt (vin c_1 c_7 (by decide)))) ?_
      refine lv_bipush (v := (-2)) hx hb dX4_hasLeave_16 (by decide) ?_
      refine lv_icmp_eq (tgt := 25) hx hb dX4_hasLeave_18 (by decide) (fun _ => ?_) (fun c_18 => absurd (by decide) c_18)
      refine lv_iconst (v := 0) hx hb dX4_hasLeave_25 (by decide) ?_
      exact ret _ _ 0 dX4_hasLeave_26 rfl rfl

set_option maxRecDepth 100000 in
set_option maxHeartbeats 4000000 in
theorem c_X4_isAway (l : Launch) (D : va_G) (cI cB : ClassId) (h0 : Nat) (u1 : Nat) (f1 : Nat) (g1 : Nat) (ms : Int32) (dy : Int32) (dr : Int32) (k : Int32) (ff : Nat → Int32) (gg : Nat → Int32) (hf : ∀ j, j < 10 → gg j = -2) (hd : 0 ≤ dy) : MR l D cI cB yX4_isAway cX4_isAway 2 .boolean (rm 0 0) [.ref h0, .int k] [(h0, .inr (4, [.ref u1, .ref f1, .ref g1, .int ms, .int dy, .int dr])), (f1, .inl (cI, 10, .inl ff)), (g1, .inl (cI, 10, .inl gg))] (fun r : Int32 => r = 0) := by
  refine MR.of (by decide) (Nat.le_of_ble_eq_true rfl) ?_
  intro p e s m below meth c Q ls X hN hP hK hl ret
  obtain ⟨hx, hb, hml, hown, htb⟩ := id X
  have hl : lv_has ls 2 [(0, .ref h0), (1, .int k)] := hl
  refine lv_iload_n hx hb dX4_isAway_0 rfl (lv_at hl 1 rfl) ?_
  refine lv_if_lt (tgt := 40) hx hb dX4_isAway_1 (by decide) (fun c_1 => ?_) (fun c_1 => ?_)
  · refine lv_iconst (v := 0) hx hb dX4_isAway_40 (by decide) ?_
    exact ret _ _ 0 dX4_isAway_41 rfl rfl
  · refine lv_iload_n hx hb dX4_isAway_4 rfl (lv_at hl 1 rfl) ?_
    refine lv_bipush (v := 10) hx hb dX4_isAway_5 (by decide) ?_
    refine lv_icmp_ge (tgt := 40) hx hb dX4_isAway_7 (by decide) (fun c_7 => ?_) (fun c_7 => ?_)
    · refine lv_iconst (v := 0) hx hb dX4_isAway_40 (by decide) ?_
      exact ret _ _ 0 dX4_isAway_41 rfl rfl
    · refine lv_aload_n hx hb dX4_isAway_10 rfl (lv_at hl 0 rfl) ?_
      refine va_get (D := D) (ci := 4) (v := .ref f1) (C := RX4) (T := TX4) (N := 6) hx hb htb itX4 hown hK hP 0 rfl rfl 1 (by decide) (htb _ k_192) (fun _ h9 => h9) rfl dX4_isAway_11 ?_
      refine lv_iload_n hx hb dX4_isAway_14 rfl (lv_at hl 1 rfl) ?_
      refine va_iald hx hb hK hP 1 0 rfl rfl (vin c_1 c_7 (by decide)) dX4_isAway_15 ?_
      refine lv_aload_n hx hb dX4_isAway_16 rfl (lv_at hl 0 rfl) ?_
      refine va_get (D := D) (ci := 4) (v := .int dy) (C := RX4) (T := TX4) (N := 6) hx hb htb itX4 hown hK hP 0 rfl rfl 4 (by decide) (htb _ k_199) (fun _ h9 => h9) rfl dX4_isAway_17 ?_
      refine lv_icmp_gt (tgt := 40) hx hb dX4_isAway_20 (by decide) (fun c_20 => ?_) (fun c_20 => ?_)
      · refine lv_iconst (v := 0) hx hb dX4_isAway_40 (by decide) ?_
        exact ret _ _ 0 dX4_isAway_41 rfl rfl
      · refine lv_aload_n hx hb dX4_isAway_23 rfl (lv_at hl 0 rfl) ?_
        refine va_get (D := D) (ci := 4) (v := .int dy) (C := RX4) (T := TX4) (N := 6) hx hb htb itX4 hown hK hP 0 rfl rfl 4 (by decide) (htb _ k_199) (fun _ h9 => h9) rfl dX4_isAway_24 ?_
        refine lv_aload_n hx hb dX4_isAway_27 rfl (lv_at hl 0 rfl) ?_
        refine va_get (D := D) (ci := 4) (v := .ref g1) (C := RX4) (T := TX4) (N := 6) hx hb htb itX4 hown hK hP 0 rfl rfl 2 (by decide) (htb _ k_194) (fun _ h9 => h9) rfl dX4_isAway_28 ?_
        refine lv_iload_n hx hb dX4_isAway_31 rfl (lv_at hl 1 rfl) ?_
        refine va_iald hx hb hK hP 2 0 rfl rfl (vin c_1 c_7 (by decide)) dX4_isAway_32 ?_
        refine tv (z := (-2)) (hf _ (vlt (vin c_1 c_7 (by decide)))) ?_
        refine lv_icmp_gt (tgt := 40) hx hb dX4_isAway_33 (by decide) (fun _ => ?_) (fun c_33 => absurd (dlt hd) c_33)
        refine lv_iconst (v := 0) hx hb dX4_isAway_40 (by decide) ?_
        exact ret _ _ 0 dX4_isAway_41 rfl rfl

set_option maxRecDepth 100000 in
set_option maxHeartbeats 4000000 in
theorem c_X4_leaveBits (l : Launch) (D : va_G) (cI cB : ClassId) (h0 : Nat) (u1 : Nat) (f1 : Nat) (g1 : Nat) (ms : Int32) (dy : Int32) (dr : Int32) (ff : Nat → Int32) (hf : ∀ j, j < 10 → ff j = -2) : MR l D cI cB yX4_leaveBits cX4_leaveBits 3 .int (rm 1 21) [.ref h0] [(h0, .inr (4, [.ref u1, .ref f1, .ref g1, .int ms, .int dy, .int dr])), (f1, .inl (cI, 10, .inl ff))] (fun r : Int32 => r = 0) := by
  refine MR.of (by decide) (Nat.le_of_ble_eq_true rfl) ?_
  intro p e s m below meth c Q ls X hN hP hK hl ret
  obtain ⟨hx, hb, hml, hown, htb⟩ := id X
  have hl : lv_has ls 3 [(0, .ref h0)] := hl
  refine lv_iconst (v := 0) hx hb dX4_leaveBits_0 (by decide) ?_
  refine lv_istore_n (lv' := [(1, .int 0), (0, .ref h0)]) hx hb dX4_leaveBits_1 rfl hl (by decide) rfl (fun ls hl => ?_)
  refine lv_iconst (v := 0) hx hb dX4_leaveBits_2 (by decide) ?_
  refine lv_istore_n (lv' := [(2, .int 0), (1, .int 0), (0, .ref h0)]) hx hb dX4_leaveBits_3 rfl hl (by decide) rfl (fun ls hl => ?_)
  have loop_4 : ∀ (n i : Nat), n + i = 10 → ∀ (ls : Array Slot), lv_has ls 3 [(0, .ref h0), (1, .int 0), (2, .int (nI i))] → W p l e (rm 1 21) s m ([.ref h0] : List Value).toArray below meth c s.heap [] 0 0 Q (F0 m 4 ls []) := by
    intro n
    induction n with
    | zero =>
      intro i hni ls hl
      have hi : i = 10 := by omega
      subst hi
      refine lv_iload_n hx hb dX4_leaveBits_4 rfl (lv_at hl 2 rfl) ?_
      refine lv_bipush (v := 10) hx hb dX4_leaveBits_5 (by decide) ?_
      refine lv_icmp_ge (tgt := 34) hx hb dX4_leaveBits_7 (by decide) (fun _ => ?_) (fun c_7 => absurd (by decide) c_7)
      refine lv_iload_n hx hb dX4_leaveBits_34 rfl (lv_at hl 1 rfl) ?_
      exact ret _ _ 0 dX4_leaveBits_35 rfl rfl
    | succ n ih =>
      intro i hni ls hl
      have hi : i < 10 := by omega
      refine lv_iload_n hx hb dX4_leaveBits_4 rfl (lv_at hl 2 rfl) ?_
      refine lv_bipush (v := 10) hx hb dX4_leaveBits_5 (by decide) ?_
      refine lv_icmp_ge (tgt := 34) hx hb dX4_leaveBits_7 (by decide) (fun c_7 => absurd c_7 (nI_ge hi (by decide))) (fun _ => ?_)
      refine lv_iload_n hx hb dX4_leaveBits_10 rfl (lv_at hl 1 rfl) ?_
      refine lv_aload_n hx hb dX4_leaveBits_11 rfl (lv_at hl 0 rfl) ?_
      refine lv_iload_n hx hb dX4_leaveBits_12 rfl (lv_at hl 2 rfl) ?_
      refine cVR (As := [.int (nI i)]) (rest := [.int 0]) (n := 1) (ci := 4) (q0 := 0) X hN hK hP (c_X4_hasLeave l D cI cB h0 u1 f1 g1 ms dy dr (nI i) ff hf) (gV k_750 k_751 k_752 k_95 k_753) (by decide +kernel) ⟨Nat.le_of_ble_eq_true rfl, Nat.le_of_ble_eq_true rfl⟩ ⟨rfl, rfl⟩ [0, 1] rfl rfl rfl rfl rfl rfl hl.1 (Nat.le_of_ble_eq_true rfl) dX4_leaveBits_13 ⟨Nat.le_of_ble_eq_true rfl, Nat.le_of_ble_eq_true rfl⟩ (fun r_1 hr_1 => ?_)
      subst hr_1
      refine lv_if_eq (tgt := 25) hx hb dX4_leaveBits_16 (by decide) (fun _ => ?_) (fun c_16 => absurd (by decide) c_16)
      refine lv_iconst (v := 0) hx hb dX4_leaveBits_25 (by decide) ?_
      refine lv_ior hx hb dX4_leaveBits_26 ?_
      refine tv (z := 0) (by decide) ?_
      refine lv_istore_n (lv' := [(1, .int 0), (0, .ref h0), (2, .int (nI i))]) hx hb dX4_leaveBits_27 rfl hl (by decide) rfl (fun ls hl => ?_)
      refine lv_iinc (v := (nI (i + 1))) (lv' := [(2, .int (nI (i + 1))), (1, .int 0), (0, .ref h0)]) hx hb dX4_leaveBits_28 hl (k := 2) rfl (nI_1 i) (by decide) rfl (fun ls hl => ?_)
      refine lv_goto (tgt := 4) hx hb dX4_leaveBits_31 (by decide) ?_
      exact ih (i + 1) (by omega) _ (lv_sub hl [2, 1, 0] rfl)
  exact loop_4 10 0 (by omega) _ (lv_sub hl [2, 1, 0] rfl)

set_option maxRecDepth 100000 in
set_option maxHeartbeats 4000000 in
theorem c_X4_awayBits (l : Launch) (D : va_G) (cI cB : ClassId) (h0 : Nat) (u1 : Nat) (f1 : Nat) (g1 : Nat) (ms : Int32) (dy : Int32) (dr : Int32) (ff : Nat → Int32) (gg : Nat → Int32) (hf : ∀ j, j < 10 → gg j = -2) (hd : 0 ≤ dy) : MR l D cI cB yX4_awayBits cX4_awayBits 3 .int (rm 1 21) [.ref h0] [(h0, .inr (4, [.ref u1, .ref f1, .ref g1, .int ms, .int dy, .int dr])), (f1, .inl (cI, 10, .inl ff)), (g1, .inl (cI, 10, .inl gg))] (fun r : Int32 => r = 0) := by
  refine MR.of (by decide) (Nat.le_of_ble_eq_true rfl) ?_
  intro p e s m below meth c Q ls X hN hP hK hl ret
  obtain ⟨hx, hb, hml, hown, htb⟩ := id X
  have hl : lv_has ls 3 [(0, .ref h0)] := hl
  refine lv_iconst (v := 0) hx hb dX4_awayBits_0 (by decide) ?_
  refine lv_istore_n (lv' := [(1, .int 0), (0, .ref h0)]) hx hb dX4_awayBits_1 rfl hl (by decide) rfl (fun ls hl => ?_)
  refine lv_iconst (v := 0) hx hb dX4_awayBits_2 (by decide) ?_
  refine lv_istore_n (lv' := [(2, .int 0), (1, .int 0), (0, .ref h0)]) hx hb dX4_awayBits_3 rfl hl (by decide) rfl (fun ls hl => ?_)
  have loop_4 : ∀ (n i : Nat), n + i = 10 → ∀ (ls : Array Slot), lv_has ls 3 [(0, .ref h0), (1, .int 0), (2, .int (nI i))] → W p l e (rm 1 21) s m ([.ref h0] : List Value).toArray below meth c s.heap [] 0 0 Q (F0 m 4 ls []) := by
    intro n
    induction n with
    | zero =>
      intro i hni ls hl
      have hi : i = 10 := by omega
      subst hi
      refine lv_iload_n hx hb dX4_awayBits_4 rfl (lv_at hl 2 rfl) ?_
      refine lv_bipush (v := 10) hx hb dX4_awayBits_5 (by decide) ?_
      refine lv_icmp_ge (tgt := 34) hx hb dX4_awayBits_7 (by decide) (fun _ => ?_) (fun c_7 => absurd (by decide) c_7)
      refine lv_iload_n hx hb dX4_awayBits_34 rfl (lv_at hl 1 rfl) ?_
      exact ret _ _ 0 dX4_awayBits_35 rfl rfl
    | succ n ih =>
      intro i hni ls hl
      have hi : i < 10 := by omega
      refine lv_iload_n hx hb dX4_awayBits_4 rfl (lv_at hl 2 rfl) ?_
      refine lv_bipush (v := 10) hx hb dX4_awayBits_5 (by decide) ?_
      refine lv_icmp_ge (tgt := 34) hx hb dX4_awayBits_7 (by decide) (fun c_7 => absurd c_7 (nI_ge hi (by decide))) (fun _ => ?_)
      refine lv_iload_n hx hb dX4_awayBits_10 rfl (lv_at hl 1 rfl) ?_
      refine lv_aload_n hx hb dX4_awayBits_11 rfl (lv_at hl 0 rfl) ?_
      refine lv_iload_n hx hb dX4_awayBits_12 rfl (lv_at hl 2 rfl) ?_
      refine cVR (As := [.int (nI i)]) (rest := [.int 0]) (n := 1) (ci := 4) (q0 := 0) X hN hK hP (c_X4_isAway l D cI cB h0 u1 f1 g1 ms dy dr (nI i) ff gg hf hd) (gV k_797 k_798 k_799 k_95 k_800) (by decide +kernel) ⟨Nat.le_of_ble_eq_true rfl, Nat.le_of_ble_eq_true rfl⟩ ⟨rfl, rfl⟩ [0, 1, 2] rfl rfl rfl rfl rfl rfl hl.1 (Nat.le_of_ble_eq_true rfl) dX4_awayBits_13 ⟨Nat.le_of_ble_eq_true rfl, Nat.le_of_ble_eq_true rfl⟩ (fun r_1 hr_1 => ?_)
      subst hr_1
      refine lv_if_eq (tgt := 25) hx hb dX4_awayBits_16 (by decide) (fun _ => ?_) (fun c_16 => absurd (by decide) c_16)
      refine lv_iconst (v := 0) hx hb dX4_awayBits_25 (by decide) ?_
      refine lv_ior hx hb dX4_awayBits_26 ?_
      refine tv (z := 0) (by decide) ?_
      refine lv_istore_n (lv' := [(1, .int 0), (0, .ref h0), (2, .int (nI i))]) hx hb dX4_awayBits_27 rfl hl (by decide) rfl (fun ls hl => ?_)
      refine lv_iinc (v := (nI (i + 1))) (lv' := [(2, .int (nI (i + 1))), (1, .int 0), (0, .ref h0)]) hx hb dX4_awayBits_28 hl (k := 2) rfl (nI_1 i) (by decide) rfl (fun ls hl => ?_)
      refine lv_goto (tgt := 4) hx hb dX4_awayBits_31 (by decide) ?_
      exact ih (i + 1) (by omega) _ (lv_sub hl [2, 1, 0] rfl)
  exact loop_4 10 0 (by omega) _ (lv_sub hl [2, 1, 0] rfl)
end
section
set_option maxRecDepth 100000 in
set_option maxHeartbeats 4000000 in
theorem c_J7_fill_53178 (l : Launch) (D : va_G) (cI cB : ClassId) (sz : Nat) (a0 : Nat) (v : Int32) (ff : Nat → Int32)  : MV (S := ((Nat → Int32))) l D cI cB yJ7_fill_53178 cJ7_fill_53178 4 (rm 0 0) [.ref a0, .int v] [(a0, .inl (cI, 10, .inl ff))] sz (fun u => ∀ j, j < 10 → u j = v) (fun u : ((Nat → Int32)) => [(a0, .inl (cI, 10, .inl u))]) := by
  refine MV.of (by decide) (Nat.le_of_ble_eq_true rfl) ?_
  intro p e s m below meth c Q ls A X hin hN hP hK hD hA hl ret
  have hS : va_S A s.heap s.heap [] := va_S.rf
  obtain ⟨hx, hb, hml, hown, htb⟩ := id X
  have hl : lv_has ls 4 [(0, .ref a0), (1, .int v)] := hl
  refine lv_iconst (v := 0) hx hb dJ7_fill_53178_0 (by decide) ?_
  refine lv_istore_n (lv' := [(2, .int 0), (0, .ref a0), (1, .int v)]) hx hb dJ7_fill_53178_1 rfl hl (by decide) rfl (fun ls hl => ?_)
  refine lv_aload_n hx hb dJ7_fill_53178_2 rfl (lv_at hl 1 rfl) ?_
  refine va_alen hx hb hK hP 0 0 rfl rfl (v := 10) rfl dJ7_fill_53178_3 ?_
  refine lv_istore_n (lv' := [(3, .int 10), (2, .int 0), (0, .ref a0), (1, .int v)]) hx hb dJ7_fill_53178_4 rfl hl (by decide) rfl (fun ls hl => ?_)
  have loop_5 : ∀ (n i : Nat) (fa : Nat → Int32), n + i = 10 → (∀ j, j < i → fa j = v) → ∀ (H : Heap) (locs : List Loc), va_P D vwCl [(a0, .inl (cI, 10, .inl fa))] H → va_D A [(a0, .inl (cI, 10, .inl fa))] → va_S A s.heap H locs → ∀ (ls : Array Slot), lv_has ls 4 [(0, .ref a0), (1, .int v), (2, .int (nI i)), (3, .int 10)] → W p l e (rm 0 0) s m ([.ref a0, .int v] : List Value).toArray below meth c H locs 0 0 Q (F0 m 5 ls []) := by
    intro n
    induction n with
    | zero =>
      intro i fa hni hfa H locs hP hD hS ls hl
      have hi : i = 10 := by omega
      subst hi
      refine lv_iload_n hx hb dJ7_fill_53178_5 rfl (lv_at hl 2 rfl) ?_
      refine lv_iload_n hx hb dJ7_fill_53178_6 rfl (lv_at hl 3 rfl) ?_
      refine lv_icmp_ge (tgt := 20) hx hb dJ7_fill_53178_7 (by decide) (fun _ => ?_) (fun c_7 => absurd (by decide) c_7)
      exact ret _ _ _ _ fa dJ7_fill_53178_20 hfa (hP.sub [0] rfl) (hD.sub [0] (by decide) rfl) hS
    | succ n ih =>
      intro i fa hni hfa H locs hP hD hS ls hl
      have hi : i < 10 := by omega
      refine lv_iload_n hx hb dJ7_fill_53178_5 rfl (lv_at hl 2 rfl) ?_
      refine lv_iload_n hx hb dJ7_fill_53178_6 rfl (lv_at hl 3 rfl) ?_
      refine lv_icmp_ge (tgt := 20) hx hb dJ7_fill_53178_7 (by decide) (fun c_7 => absurd c_7 (nI_ge hi (by decide))) (fun _ => ?_)
      refine lv_aload_n hx hb dJ7_fill_53178_10 rfl (lv_at hl 0 rfl) ?_
      refine lv_iload_n hx hb dJ7_fill_53178_11 rfl (lv_at hl 2 rfl) ?_
      refine lv_iload_n hx hb dJ7_fill_53178_12 rfl (lv_at hl 1 rfl) ?_
      refine va_iast hx hb hK hP hD hS 0 0 rfl rfl (vp_in_nI (by omega) (by decide)) dJ7_fill_53178_13 (fun H locs hP hD hS => ?_)
      obtain ⟨f_1, ef_1⟩ : ∃ g : Nat → Int32, g = upd fa (Int32.toNatClampNeg (nI i)) v := ⟨_, rfl⟩
      rw [← ef_1] at hP hD
      have hP : va_P D vwCl [(a0, .inl (cI, 10, .inl f_1))] H := hP
      have hD : va_D A [(a0, .inl (cI, 10, .inl f_1))] := hD
      refine lv_iinc (v := (nI (i + 1))) (lv' := [(2, .int (nI (i + 1))), (0, .ref a0), (1, .int v), (3, .int 10)]) hx hb dJ7_fill_53178_14 hl (k := 2) rfl (nI_1 i) (by decide) rfl (fun ls hl => ?_)
      refine lv_goto (tgt := 5) hx hb dJ7_fill_53178_17 (by decide) ?_
      exact ih (i + 1) f_1 (by omega) (by rw [ef_1, nI_clamp (by omega)]; exact updS hfa) _ _ (hP.sub [0] rfl) (hD.sub [0] (by decide) rfl) hS _ (lv_sub hl [1, 2, 0, 3] rfl)
  exact loop_5 10 0 ff (by omega) (fun j hj => absurd hj (Nat.not_lt_zero j)) _ _ (hP.sub [0] rfl) (hD.sub [0] (by decide) rfl) hS _ (lv_sub hl [2, 3, 1, 0] rfl)

set_option maxRecDepth 100000 in
set_option maxHeartbeats 4000000 in
theorem c_X4_copy (l : Launch) (D : va_G) (cI cB : ClassId) (sz : Nat) (h0 : Nat) (u1 : Nat) (f1 : Nat) (g1 : Nat) (ms : Int32) (dy : Int32) (dr : Int32) (h1 : Nat) (u2 : Nat) (f2 : Nat) (g2 : Nat) (ms2 : Int32) (dy2 : Int32) (dr2 : Int32) (fu : Nat → Int32) (ff : Nat → Int32) (fg : Nat → Int32) (fu2 : Nat → Int32) (ff2 : Nat → Int32) (fg2 : Nat → Int32) (hu : ∀ j, j < 12 → fu2 j = 0) (hf : ∀ j, j < 10 → ff2 j = -2) (hg : ∀ j, j < 10 → fg2 j = -2) : MV (S := ((Nat → Int32) × (Nat → Int32) × (Nat → Int32))) l D cI cB yX4_copy cX4_copy 2 (rm 1 60) [.ref h0, .ref h1] [(h0, .inr (4, [.ref u1, .ref f1, .ref g1, .int ms, .int dy, .int dr])), (u1, .inl (cI, 12, .inl fu)), (f1, .inl (cI, 10, .inl ff)), (g1, .inl (cI, 10, .inl fg)), (h1, .inr (4, [.ref u2, .ref f2, .ref g2, .int ms2, .int dy2, .int dr2])), (u2, .inl (cI, 12, .inl fu2)), (f2, .inl (cI, 10, .inl ff2)), (g2, .inl (cI, 10, .inl fg2))] sz (fun u => (∀ j, j < 12 → u.1 j = 0) ∧ (∀ j, j < 10 → u.2.1 j = -2) ∧ (∀ j, j < 10 → u.2.2 j = -2)) (fun u : ((Nat → Int32) × (Nat → Int32) × (Nat → Int32)) => [(h0, .inr (4, [.ref u1, .ref f1, .ref g1, .int ms2, .int dy2, .int dr2])), (u1, .inl (cI, 12, .inl u.1)), (f1, .inl (cI, 10, .inl u.2.1)), (g1, .inl (cI, 10, .inl u.2.2)), (h1, .inr (4, [.ref u2, .ref f2, .ref g2, .int ms2, .int dy2, .int dr2])), (u2, .inl (cI, 12, .inl fu2)), (f2, .inl (cI, 10, .inl ff2)), (g2, .inl (cI, 10, .inl fg2))]) := by
  refine MV.of (by decide) (Nat.le_of_ble_eq_true rfl) ?_
  intro p e s m below meth c Q ls A X hin hN hP hK hD hA hl ret
  have hS : va_S A s.heap s.heap [] := va_S.rf
  obtain ⟨hx, hb, hml, hown, htb⟩ := id X
  have hl : lv_has ls 2 [(0, .ref h0), (1, .ref h1)] := hl
  refine lv_aload_n hx hb dX4_copy_0 rfl (lv_at hl 1 rfl) ?_
  refine va_get (D := D) (ci := 4) (v := .ref u2) (C := RX4) (T := TX4) (N := 6) hx hb htb itX4 hown hK hP 4 rfl rfl 0 (by decide) (htb _ k_189) (fun _ h9 => h9) rfl dX4_copy_1 ?_
  refine lv_iconst (v := 0) hx hb dX4_copy_4 (by decide) ?_
  refine lv_aload_n hx hb dX4_copy_5 rfl (lv_at hl 0 rfl) ?_
  refine va_get (D := D) (ci := 4) (v := .ref u1) (C := RX4) (T := TX4) (N := 6) hx hb htb itX4 hown hK hP 0 rfl rfl 0 (by decide) (htb _ k_189) (fun _ h9 => h9) rfl dX4_copy_6 ?_
  refine lv_iconst (v := 0) hx hb dX4_copy_9 (by decide) ?_
  refine lv_bipush (v := 12) hx hb dX4_copy_10 (by decide) ?_
  refine va_copyi (rest := []) hx hb (by rw [hml]; exact hl.1.symm) hown (htb _ k_781) (htb _ k_667) (htb _ k_666) (htb _ k_110) hK hP hD hS 5 1 0 0 rfl rfl rfl rfl rfl (by decide) (by decide) (by decide) (by decide) (by decide) (fun _ _ => rfl) (Nat.le_of_ble_eq_true rfl) (by decide) dX4_copy_12 (fun H locs hP hD hS => ?_)
  obtain ⟨f_1, ef_1⟩ : ∃ g : Nat → Int32, g = va_cpy fu2 fu (Int32.toNatClampNeg 0) (Int32.toNatClampNeg 0) (Int32.toNatClampNeg 12) := ⟨_, rfl⟩
  rw [← ef_1] at hP hD
  have hP : va_P D vwCl [(h0, .inr (4, [.ref u1, .ref f1, .ref g1, .int ms, .int dy, .int dr])), (u1, .inl (cI, 12, .inl f_1)), (f1, .inl (cI, 10, .inl ff)), (g1, .inl (cI, 10, .inl fg)), (h1, .inr (4, [.ref u2, .ref f2, .ref g2, .int ms2, .int dy2, .int dr2])), (u2, .inl (cI, 12, .inl fu2)), (f2, .inl (cI, 10, .inl ff2)), (g2, .inl (cI, 10, .inl fg2))] H := hP
  have hD : va_D A [(h0, .inr (4, [.ref u1, .ref f1, .ref g1, .int ms, .int dy, .int dr])), (u1, .inl (cI, 12, .inl f_1)), (f1, .inl (cI, 10, .inl ff)), (g1, .inl (cI, 10, .inl fg)), (h1, .inr (4, [.ref u2, .ref f2, .ref g2, .int ms2, .int dy2, .int dr2])), (u2, .inl (cI, 12, .inl fu2)), (f2, .inl (cI, 10, .inl ff2)), (g2, .inl (cI, 10, .inl fg2))] := hD
  refine lv_aload_n hx hb dX4_copy_15 rfl (lv_at hl 1 rfl) ?_
  refine va_get (D := D) (ci := 4) (v := .ref f2) (C := RX4) (T := TX4) (N := 6) hx hb htb itX4 hown hK hP 4 rfl rfl 1 (by decide) (htb _ k_192) (fun _ h9 => h9) rfl dX4_copy_16 ?_
  refine lv_iconst (v := 0) hx hb dX4_copy_19 (by decide) ?_
  refine lv_aload_n hx hb dX4_copy_20 rfl (lv_at hl 0 rfl) ?_
  refine va_get (D := D) (ci := 4) (v := .ref f1) (C := RX4) (T := TX4) (N := 6) hx hb htb itX4 hown hK hP 0 rfl rfl 1 (by decide) (htb _ k_192) (fun _ h9 => h9) rfl dX4_copy_21 ?_
  refine lv_iconst (v := 0) hx hb dX4_copy_24 (by decide) ?_
  refine lv_bipush (v := 10) hx hb dX4_copy_25 (by decide) ?_
  refine va_copyi (rest := []) hx hb (by rw [hml]; exact hl.1.symm) hown (htb _ k_781) (htb _ k_667) (htb _ k_666) (htb _ k_110) hK hP hD hS 6 2 0 0 rfl rfl rfl rfl rfl (by decide) (by decide) (by decide) (by decide) (by decide) (fun _ _ => rfl) (Nat.le_of_ble_eq_true rfl) (by decide) dX4_copy_27 (fun H locs hP hD hS => ?_)
  obtain ⟨f_2, ef_2⟩ : ∃ g : Nat → Int32, g = va_cpy ff2 ff (Int32.toNatClampNeg 0) (Int32.toNatClampNeg 0) (Int32.toNatClampNeg 10) := ⟨_, rfl⟩
  rw [← ef_2] at hP hD
  have hP : va_P D vwCl [(h0, .inr (4, [.ref u1, .ref f1, .ref g1, .int ms, .int dy, .int dr])), (u1, .inl (cI, 12, .inl f_1)), (f1, .inl (cI, 10, .inl f_2)), (g1, .inl (cI, 10, .inl fg)), (h1, .inr (4, [.ref u2, .ref f2, .ref g2, .int ms2, .int dy2, .int dr2])), (u2, .inl (cI, 12, .inl fu2)), (f2, .inl (cI, 10, .inl ff2)), (g2, .inl (cI, 10, .inl fg2))] H := hP
  have hD : va_D A [(h0, .inr (4, [.ref u1, .ref f1, .ref g1, .int ms, .int dy, .int dr])), (u1, .inl (cI, 12, .inl f_1)), (f1, .inl (cI, 10, .inl f_2)), (g1, .inl (cI, 10, .inl fg)), (h1, .inr (4, [.ref u2, .ref f2, .ref g2, .int ms2, .int dy2, .int dr2])), (u2, .inl (cI, 12, .inl fu2)), (f2, .inl (cI, 10, .inl ff2)), (g2, .inl (cI, 10, .inl fg2))] := hD
  refine lv_aload_n hx hb dX4_copy_30 rfl (lv_at hl 1 rfl) ?_
  refine va_get (D := D) (ci := 4) (v := .ref g2) (C := RX4) (T := TX4) (N := 6) hx hb htb itX4 hown hK hP 4 rfl rfl 2 (by decide) (htb _ k_194) (fun _ h9 => h9) rfl dX4_copy_31 ?_
  refine lv_iconst (v := 0) hx hb dX4_copy_34 (by decide) ?_
  refine lv_aload_n hx hb dX4_copy_35 rfl (lv_at hl 0 rfl) ?_
  refine va_get (D := D) (ci := 4) (v := .ref g1) (C := RX4) (T := TX4) (N := 6) hx hb htb itX4 hown hK hP 0 rfl rfl 2 (by decide) (htb _ k_194) (fun _ h9 => h9) rfl dX4_copy_36 ?_
  refine lv_iconst (v := 0) hx hb dX4_copy_39 (by decide) ?_
  refine lv_bipush (v := 10) hx hb dX4_copy_40 (by decide) ?_
  refine va_copyi (rest := []) hx hb (by rw [hml]; exact hl.1.symm) hown (htb _ k_781) (htb _ k_667) (htb _ k_666) (htb _ k_110) hK hP hD hS 7 3 0 0 rfl rfl rfl rfl rfl (by decide) (by decide) (by decide) (by decide) (by decide) (fun _ _ => rfl) (Nat.le_of_ble_eq_true rfl) (by decide) dX4_copy_42 (fun H locs hP hD hS => ?_)
  obtain ⟨f_3, ef_3⟩ : ∃ g : Nat → Int32, g = va_cpy fg2 fg (Int32.toNatClampNeg 0) (Int32.toNatClampNeg 0) (Int32.toNatClampNeg 10) := ⟨_, rfl⟩
  rw [← ef_3] at hP hD
  have hP : va_P D vwCl [(h0, .inr (4, [.ref u1, .ref f1, .ref g1, .int ms, .int dy, .int dr])), (u1, .inl (cI, 12, .inl f_1)), (f1, .inl (cI, 10, .inl f_2)), (g1, .inl (cI, 10, .inl f_3)), (h1, .inr (4, [.ref u2, .ref f2, .ref g2, .int ms2, .int dy2, .int dr2])), (u2, .inl (cI, 12, .inl fu2)), (f2, .inl (cI, 10, .inl ff2)), (g2, .inl (cI, 10, .inl fg2))] H := hP
  have hD : va_D A [(h0, .inr (4, [.ref u1, .ref f1, .ref g1, .int ms, .int dy, .int dr])), (u1, .inl (cI, 12, .inl f_1)), (f1, .inl (cI, 10, .inl f_2)), (g1, .inl (cI, 10, .inl f_3)), (h1, .inr (4, [.ref u2, .ref f2, .ref g2, .int ms2, .int dy2, .int dr2])), (u2, .inl (cI, 12, .inl fu2)), (f2, .inl (cI, 10, .inl ff2)), (g2, .inl (cI, 10, .inl fg2))] := hD
  refine lv_aload_n hx hb dX4_copy_45 rfl (lv_at hl 0 rfl) ?_
  refine lv_aload_n hx hb dX4_copy_46 rfl (lv_at hl 1 rfl) ?_
  refine va_get (D := D) (ci := 4) (v := .int ms2) (C := RX4) (T := TX4) (N := 6) hx hb htb itX4 hown hK hP 4 rfl rfl 3 (by decide) (htb _ k_197) (fun _ h9 => h9) rfl dX4_copy_47 ?_
  refine va_put (D := D) (ci := 4) (v := .int ms2) (ty := .int) (C := RX4) (T := TX4) (N := 6) hx hb htb itX4 tyX4 tyX4_ok nmX4 hown hK hP hD hS 0 rfl rfl 3 (by decide) (htb _ k_197) (fun _ h9 => h9) rfl (tyX4_ok 3 (by decide)) rfl rfl (Nat.le_of_ble_eq_true rfl) dX4_copy_50 (fun H locs hP hD hS => ?_)
  have hP : va_P D vwCl [(h0, .inr (4, [.ref u1, .ref f1, .ref g1, .int ms2, .int dy, .int dr])), (u1, .inl (cI, 12, .inl f_1)), (f1, .inl (cI, 10, .inl f_2)), (g1, .inl (cI, 10, .inl f_3)), (h1, .inr (4, [.ref u2, .ref f2, .ref g2, .int ms2, .int dy2, .int dr2])), (u2, .inl (cI, 12, .inl fu2)), (f2, .inl (cI, 10, .inl ff2)), (g2, .inl (cI, 10, .inl fg2))] H := hP
  have hD : va_D A [(h0, .inr (4, [.ref u1, .ref f1, .ref g1, .int ms2, .int dy, .int dr])), (u1, .inl (cI, 12, .inl f_1)), (f1, .inl (cI, 10, .inl f_2)), (g1, .inl (cI, 10, .inl f_3)), (h1, .inr (4, [.ref u2, .ref f2, .ref g2, .int ms2, .int dy2, .int dr2])), (u2, .inl (cI, 12, .inl fu2)), (f2, .inl (cI, 10, .inl ff2)), (g2, .inl (cI, 10, .inl fg2))] := hD
  refine lv_aload_n hx hb dX4_copy_53 rfl (lv_at hl 0 rfl) ?_
  refine lv_aload_n hx hb dX4_copy_54 rfl (lv_at hl 1 rfl) ?_
  refine va_get (D := D) (ci := 4) (v := .int dy2) (C := RX4) (T := TX4) (N := 6) hx hb htb itX4 hown hK hP 4 rfl rfl 4 (by decide) (htb _ k_199) (fun _ h9 => h9) rfl dX4_copy_55 ?_
  refine va_put (D := D) (ci := 4) (v := .int dy2) (ty := .int) (C := RX4) (T := TX4) (N := 6) hx hb htb itX4 tyX4 tyX4_ok nmX4 hown hK hP hD hS 0 rfl rfl 4 (by decide) (htb _ k_199) (fun _ h9 => h9) rfl (tyX4_ok 4 (by decide)) rfl rfl (Nat.le_of_ble_eq_true rfl) dX4_copy_58 (fun H locs hP hD hS => ?_)
  have hP : va_P D vwCl [(h0, .inr (4, [.ref u1, .ref f1, .ref g1, .int ms2, .int dy2, .int dr])), (u1, .inl (cI, 12, .inl f_1)), (f1, .inl (cI, 10, .inl f_2)), (g1, .inl (cI, 10, .inl f_3)), (h1, .inr (4, [.ref u2, .ref f2, .ref g2, .int ms2, .int dy2, .int dr2])), (u2, .inl (cI, 12, .inl fu2)), (f2, .inl (cI, 10, .inl ff2)), (g2, .inl (cI, 10, .inl fg2))] H := hP
  have hD : va_D A [(h0, .inr (4, [.ref u1, .ref f1, .ref g1, .int ms2, .int dy2, .int dr])), (u1, .inl (cI, 12, .inl f_1)), (f1, .inl (cI, 10, .inl f_2)), (g1, .inl (cI, 10, .inl f_3)), (h1, .inr (4, [.ref u2, .ref f2, .ref g2, .int ms2, .int dy2, .int dr2])), (u2, .inl (cI, 12, .inl fu2)), (f2, .inl (cI, 10, .inl ff2)), (g2, .inl (cI, 10, .inl fg2))] := hD
  refine lv_aload_n hx hb dX4_copy_61 rfl (lv_at hl 0 rfl) ?_
  refine lv_aload_n hx hb dX4_copy_62 rfl (lv_at hl 1 rfl) ?_
  refine va_get (D := D) (ci := 4) (v := .int dr2) (C := RX4) (T := TX4) (N := 6) hx hb htb itX4 hown hK hP 4 rfl rfl 5 (by decide) (htb _ k_202) (fun _ h9 => h9) rfl dX4_copy_63 ?_
  refine va_put (D := D) (ci := 4) (v := .int dr2) (ty := .int) (C := RX4) (T := TX4) (N := 6) hx hb htb itX4 tyX4 tyX4_ok nmX4 hown hK hP hD hS 0 rfl rfl 5 (by decide) (htb _ k_202) (fun _ h9 => h9) rfl (tyX4_ok 5 (by decide)) rfl rfl (Nat.le_of_ble_eq_true rfl) dX4_copy_66 (fun H locs hP hD hS => ?_)
  have hP : va_P D vwCl [(h0, .inr (4, [.ref u1, .ref f1, .ref g1, .int ms2, .int dy2, .int dr2])), (u1, .inl (cI, 12, .inl f_1)), (f1, .inl (cI, 10, .inl f_2)), (g1, .inl (cI, 10, .inl f_3)), (h1, .inr (4, [.ref u2, .ref f2, .ref g2, .int ms2, .int dy2, .int dr2])), (u2, .inl (cI, 12, .inl fu2)), (f2, .inl (cI, 10, .inl ff2)), (g2, .inl (cI, 10, .inl fg2))] H := hP
  have hD : va_D A [(h0, .inr (4, [.ref u1, .ref f1, .ref g1, .int ms2, .int dy2, .int dr2])), (u1, .inl (cI, 12, .inl f_1)), (f1, .inl (cI, 10, .inl f_2)), (g1, .inl (cI, 10, .inl f_3)), (h1, .inr (4, [.ref u2, .ref f2, .ref g2, .int ms2, .int dy2, .int dr2])), (u2, .inl (cI, 12, .inl fu2)), (f2, .inl (cI, 10, .inl ff2)), (g2, .inl (cI, 10, .inl fg2))] := hD
  exact ret _ _ _ _ (f_1, f_2, f_3) dX4_copy_69 (⟨by rw [ef_1]; exact cpyA hu, by rw [ef_2]; exact cpyA hf, by rw [ef_3]; exact cpyA hg⟩) (hP.sub [0, 1, 2, 3, 4, 5, 6, 7] rfl) (hD.sub [0, 1, 2, 3, 4, 5, 6, 7] (by decide) rfl) hS

set_option maxRecDepth 100000 in
set_option maxHeartbeats 4000000 in
theorem c_X4_endLeaves (l : Launch) (D : va_G) (cI cB : ClassId) (sz : Nat) (h0 : Nat) (u1 : Nat) (f1 : Nat) (g1 : Nat) (ms : Int32) (dy : Int32) (dr : Int32) (k : Int32) (ff : Nat → Int32) (fg : Nat → Int32) (hf : ∀ j, j < 10 → ff j = -2) (hg : ∀ j, j < 10 → fg j = -2) : MV (S := ((Nat → Int32) × (Nat → Int32))) l D cI cB yX4_endLeaves cX4_endLeaves 3 (rm 1 21) [.ref h0, .int k] [(h0, .inr (4, [.ref u1, .ref f1, .ref g1, .int ms, .int dy, .int dr])), (f1, .inl (cI, 10, .inl ff)), (g1, .inl (cI, 10, .inl fg))] sz (fun u => (∀ j, j < 10 → u.1 j = -2) ∧ (∀ j, j < 10 → u.2 j = -2)) (fun u : ((Nat → Int32) × (Nat → Int32)) => [(h0, .inr (4, [.ref u1, .ref f1, .ref g1, .int ms, .int dy, .int dr])), (f1, .inl (cI, 10, .inl u.1)), (g1, .inl (cI, 10, .inl u.2))]) := by
  refine MV.of (by decide) (Nat.le_of_ble_eq_true rfl) ?_
  intro p e s m below meth c Q ls A X hin hN hP hK hD hA hl ret
  have hS : va_S A s.heap s.heap [] := va_S.rf
  obtain ⟨hx, hb, hml, hown, htb⟩ := id X
  have hl : lv_has ls 3 [(0, .ref h0), (1, .int k)] := hl
  refine lv_iconst (v := 0) hx hb dX4_endLeaves_0 (by decide) ?_
  refine lv_istore_n (lv' := [(2, .int 0), (0, .ref h0), (1, .int k)]) hx hb dX4_endLeaves_1 rfl hl (by decide) rfl (fun ls hl => ?_)
  have loop_2 : ∀ (n i : Nat) (fa : Nat → Int32) (ga : Nat → Int32), n + i = 10 → (∀ j, j < 10 → fa j = -2) → (∀ j, j < 10 → ga j = -2) → ∀ (H : Heap) (locs : List Loc), va_P D vwCl [(h0, .inr (4, [.ref u1, .ref f1, .ref g1, .int ms, .int dy, .int dr])), (f1, .inl (cI, 10, .inl fa)), (g1, .inl (cI, 10, .inl ga))] H → va_D A [(h0, .inr (4, [.ref u1, .ref f1, .ref g1, .int ms, .int dy, .int dr])), (f1, .inl (cI, 10, .inl fa)), (g1, .inl (cI, 10, .inl ga))] → va_S A s.heap H locs → ∀ (ls : Array Slot), lv_has ls 3 [(0, .ref h0), (1, .int k), (2, .int (nI i))] → W p l e (rm 1 21) s m ([.ref h0, .int k] : List Value).toArray below meth c H locs 0 0 Q (F0 m 2 ls []) := by
    intro n
    induction n with
    | zero =>
      intro i fa ga hni hfa hga H locs hP hD hS ls hl
      have hi : i = 10 := by omega
      subst hi
      refine lv_iload_n hx hb dX4_endLeaves_2 rfl (lv_at hl 2 rfl) ?_
      refine lv_bipush (v := 10) hx hb dX4_endLeaves_3 (by decide) ?_
      refine lv_icmp_ge (tgt := 38) hx hb dX4_endLeaves_5 (by decide) (fun _ => ?_) (fun c_5 => absurd (by decide) c_5)
      exact ret _ _ _ _ (fa, ga) dX4_endLeaves_38 (⟨hfa, hga⟩) (hP.sub [0, 1, 2] rfl) (hD.sub [0, 1, 2] (by decide) rfl) hS
    | succ n ih =>
      intro i fa ga hni hfa hga H locs hP hD hS ls hl
      have hi : i < 10 := by omega
      refine lv_iload_n hx hb dX4_endLeaves_2 rfl (lv_at hl 2 rfl) ?_
      refine lv_bipush (v := 10) hx hb dX4_endLeaves_3 (by decide) ?_
      refine lv_icmp_ge (tgt := 38) hx hb dX4_endLeaves_5 (by decide) (fun c_5 => absurd c_5 (nI_ge hi (by decide))) (fun _ => ?_)
      refine lv_iload_n hx hb dX4_endLeaves_8 rfl (lv_at hl 1 rfl) ?_
      refine lv_iload_n hx hb dX4_endLeaves_9 rfl (lv_at hl 2 rfl) ?_
      refine cSNR (As := [.int k, .int (nI i)]) (rest := []) (n := 2) X hN hK hP (c_X9_isIn l D cI cB k (nI i)) n_737 k_696 k_92 k_697 (by decide +kernel) ⟨Nat.le_of_ble_eq_true rfl, Nat.le_of_ble_eq_true rfl⟩ ⟨rfl, rfl⟩ [] rfl rfl rfl hl.1 (Nat.le_of_ble_eq_true rfl) dX4_endLeaves_10 ⟨Nat.le_of_ble_eq_true rfl, Nat.le_of_ble_eq_true rfl⟩ (fun r_1 hr_1 => ?_)
      refine lv_if_eq (tgt := 32) hx hb dX4_endLeaves_13 (by decide) (fun c_13 => ?_) (fun c_13 => ?_)
      · refine lv_iinc (v := (nI (i + 1))) (lv' := [(2, .int (nI (i + 1))), (0, .ref h0), (1, .int k)]) hx hb dX4_endLeaves_32 hl (k := 2) rfl (nI_1 i) (by decide) rfl (fun ls hl => ?_)
        refine lv_goto (tgt := 2) hx hb dX4_endLeaves_35 (by decide) ?_
        exact ih (i + 1) fa ga (by omega) hfa hga _ _ (hP.sub [0, 1, 2] rfl) (hD.sub [0, 1, 2] (by decide) rfl) hS _ (lv_sub hl [1, 2, 0] rfl)
      · refine lv_aload_n hx hb dX4_endLeaves_16 rfl (lv_at hl 0 rfl) ?_
        refine va_get (D := D) (ci := 4) (v := .ref f1) (C := RX4) (T := TX4) (N := 6) hx hb htb itX4 hown hK hP 0 rfl rfl 1 (by decide) (htb _ k_192) (fun _ h9 => h9) rfl dX4_endLeaves_17 ?_
        refine lv_iload_n hx hb dX4_endLeaves_20 rfl (lv_at hl 2 rfl) ?_
        refine lv_bipush (v := (-2)) hx hb dX4_endLeaves_21 (by decide) ?_
        refine va_iast hx hb hK hP hD hS 1 0 rfl rfl (vp_in_nI (by omega) (by decide)) dX4_endLeaves_23 (fun H locs hP hD hS => ?_)
        obtain ⟨f_2, ef_2⟩ : ∃ g : Nat → Int32, g = upd fa (Int32.toNatClampNeg (nI i)) (-2) := ⟨_, rfl⟩
        rw [← ef_2] at hP hD
        have hP : va_P D vwCl [(h0, .inr (4, [.ref u1, .ref f1, .ref g1, .int ms, .int dy, .int dr])), (f1, .inl (cI, 10, .inl f_2)), (g1, .inl (cI, 10, .inl ga))] H := hP
        have hD : va_D A [(h0, .inr (4, [.ref u1, .ref f1, .ref g1, .int ms, .int dy, .int dr])), (f1, .inl (cI, 10, .inl f_2)), (g1, .inl (cI, 10, .inl ga))] := hD
        refine lv_aload_n hx hb dX4_endLeaves_24 rfl (lv_at hl 0 rfl) ?_
        refine va_get (D := D) (ci := 4) (v := .ref g1) (C := RX4) (T := TX4) (N := 6) hx hb htb itX4 hown hK hP 0 rfl rfl 2 (by decide) (htb _ k_194) (fun _ h9 => h9) rfl dX4_endLeaves_25 ?_
        refine lv_iload_n hx hb dX4_endLeaves_28 rfl (lv_at hl 2 rfl) ?_
        refine lv_bipush (v := (-2)) hx hb dX4_endLeaves_29 (by decide) ?_
        refine va_iast hx hb hK hP hD hS 2 0 rfl rfl (vp_in_nI (by omega) (by decide)) dX4_endLeaves_31 (fun H locs hP hD hS => ?_)
        obtain ⟨f_3, ef_3⟩ : ∃ g : Nat → Int32, g = upd ga (Int32.toNatClampNeg (nI i)) (-2) := ⟨_, rfl⟩
        rw [← ef_3] at hP hD
        have hP : va_P D vwCl [(h0, .inr (4, [.ref u1, .ref f1, .ref g1, .int ms, .int dy, .int dr])), (f1, .inl (cI, 10, .inl f_2)), (g1, .inl (cI, 10, .inl f_3))] H := hP
        have hD : va_D A [(h0, .inr (4, [.ref u1, .ref f1, .ref g1, .int ms, .int dy, .int dr])), (f1, .inl (cI, 10, .inl f_2)), (g1, .inl (cI, 10, .inl f_3))] := hD
        refine lv_iinc (v := (nI (i + 1))) (lv' := [(2, .int (nI (i + 1))), (0, .ref h0), (1, .int k)]) hx hb dX4_endLeaves_32 hl (k := 2) rfl (nI_1 i) (by decide) rfl (fun ls hl => ?_)
        refine lv_goto (tgt := 2) hx hb dX4_endLeaves_35 (by decide) ?_
        exact ih (i + 1) f_2 f_3 (by omega) (by rw [ef_2]; exact updA _ hfa) (by rw [ef_3]; exact updA _ hga) _ _ (hP.sub [0, 1, 2] rfl) (hD.sub [0, 1, 2] (by decide) rfl) hS _ (lv_sub hl [1, 2, 0] rfl)
  exact loop_2 10 0 ff fg (by omega) hf hg _ _ (hP.sub [0, 1, 2] rfl) (hD.sub [0, 1, 2] (by decide) rfl) hS _ (lv_sub hl [1, 2, 0] rfl)

set_option maxRecDepth 100000 in
set_option maxHeartbeats 4000000 in
theorem c_X4_allUndone (l : Launch) (D : va_G) (cI cB : ClassId) (h0 : Nat) (u1 : Nat) (f1 : Nat) (g1 : Nat) (ms : Int32) (dy : Int32) (dr : Int32) (fu : Nat → Int32) (hz : ∀ j, j < 12 → fu j = 0) : MR l D cI cB yX4_allUndone cX4_allUndone 3 .int (rm 0 0) [.ref h0] [(h0, .inr (4, [.ref u1, .ref f1, .ref g1, .int ms, .int dy, .int dr])), (u1, .inl (cI, 12, .inl fu))] (fun r : Int32 => r = 0) := by
  refine MR.of (by decide) (Nat.le_of_ble_eq_true rfl) ?_
  intro p e s m below meth c Q ls X hN hP hK hl ret
  obtain ⟨hx, hb, hml, hown, htb⟩ := id X
  have hl : lv_has ls 3 [(0, .ref h0)] := hl
  refine lv_iconst (v := 0) hx hb dX4_allUndone_0 (by decide) ?_
  refine lv_istore_n (lv' := [(1, .int 0), (0, .ref h0)]) hx hb dX4_allUndone_1 rfl hl (by decide) rfl (fun ls hl => ?_)
  refine lv_iconst (v := 0) hx hb dX4_allUndone_2 (by decide) ?_
  refine lv_istore_n (lv' := [(2, .int 0), (1, .int 0), (0, .ref h0)]) hx hb dX4_allUndone_3 rfl hl (by decide) rfl (fun ls hl => ?_)
  have loop_4 : ∀ (n i : Nat), n + i = 12 → ∀ (ls : Array Slot), lv_has ls 3 [(0, .ref h0), (1, .int 0), (2, .int (nI i))] → W p l e (rm 0 0) s m ([.ref h0] : List Value).toArray below meth c s.heap [] 0 0 Q (F0 m 4 ls []) := by
    intro n
    induction n with
    | zero =>
      intro i hni ls hl
      have hi : i = 12 := by omega
      subst hi
      refine lv_iload_n hx hb dX4_allUndone_4 rfl (lv_at hl 2 rfl) ?_
      refine lv_bipush (v := 12) hx hb dX4_allUndone_5 (by decide) ?_
      refine lv_icmp_ge (tgt := 25) hx hb dX4_allUndone_7 (by decide) (fun _ => ?_) (fun c_7 => absurd (by decide) c_7)
      refine lv_iload_n hx hb dX4_allUndone_25 rfl (lv_at hl 1 rfl) ?_
      exact ret _ _ 0 dX4_allUndone_26 rfl rfl
    | succ n ih =>
      intro i hni ls hl
      have hi : i < 12 := by omega
      refine lv_iload_n hx hb dX4_allUndone_4 rfl (lv_at hl 2 rfl) ?_
      refine lv_bipush (v := 12) hx hb dX4_allUndone_5 (by decide) ?_
      refine lv_icmp_ge (tgt := 25) hx hb dX4_allUndone_7 (by decide) (fun c_7 => absurd c_7 (nI_ge hi (by decide))) (fun _ => ?_)
      refine lv_iload_n hx hb dX4_allUndone_10 rfl (lv_at hl 1 rfl) ?_
      refine lv_aload_n hx hb dX4_allUndone_11 rfl (lv_at hl 0 rfl) ?_
      refine va_get (D := D) (ci := 4) (v := .ref u1) (C := RX4) (T := TX4) (N := 6) hx hb htb itX4 hown hK hP 0 rfl rfl 0 (by decide) (htb _ k_189) (fun _ h9 => h9) rfl dX4_allUndone_12 ?_
      refine lv_iload_n hx hb dX4_allUndone_15 rfl (lv_at hl 2 rfl) ?_
      refine va_iald hx hb hK hP 1 0 rfl rfl (vp_in_nI (by omega) (by decide)) dX4_allUndone_16 ?_
      refine tv (z := 0) (by rw [nI_clamp (by omega)]; exact hz _ hi) ?_
      refine lv_iadd hx hb dX4_allUndone_17 ?_
      refine tv (z := 0) (by decide) ?_
      refine lv_istore_n (lv' := [(1, .int 0), (0, .ref h0), (2, .int (nI i))]) hx hb dX4_allUndone_18 rfl hl (by decide) rfl (fun ls hl => ?_)
      refine lv_iinc (v := (nI (i + 1))) (lv' := [(2, .int (nI (i + 1))), (1, .int 0), (0, .ref h0)]) hx hb dX4_allUndone_19 hl (k := 2) rfl (nI_1 i) (by decide) rfl (fun ls hl => ?_)
      refine lv_goto (tgt := 4) hx hb dX4_allUndone_22 (by decide) ?_
      exact ih (i + 1) (by omega) _ (lv_sub hl [2, 1, 0] rfl)
  exact loop_4 12 0 (by omega) _ (lv_sub hl [2, 1, 0] rfl)

set_option maxRecDepth 100000 in
set_option maxHeartbeats 4000000 in
theorem c_X8_allDone (l : Launch) (D : va_G) (cI cB : ClassId) (h0 : Nat) (tw : Nat) (lw : Nat) (st : Nat) (m1 : Nat) (c1 : Nat) (d1 : Nat) (idl : Int32) (idf : Int32) (idt : Int32) (fc : Int32) (fp : Int32) (mb : Int32) (ra : Int32) (cl : Int32) (fd : Nat → Int32) (hz : ∀ j, j < 10 → fd j = 0) : MR l D cI cB yX8_allDone cX8_allDone 3 .int (rm 0 0) [.ref h0] [(h0, .inr (8, [.ref tw, .ref lw, .ref st, .ref m1, .ref c1, .ref d1, .int idl, .int idf, .int idt, .int fc, .int fp, .int mb, .int ra, .int cl])), (d1, .inl (cI, 10, .inl fd))] (fun r : Int32 => r = 0) := by
  refine MR.of (by decide) (Nat.le_of_ble_eq_true rfl) ?_
  intro p e s m below meth c Q ls X hN hP hK hl ret
  obtain ⟨hx, hb, hml, hown, htb⟩ := id X
  have hl : lv_has ls 3 [(0, .ref h0)] := hl
  refine lv_iconst (v := 0) hx hb dX8_allDone_0 (by decide) ?_
  refine lv_istore_n (lv' := [(1, .int 0), (0, .ref h0)]) hx hb dX8_allDone_1 rfl hl (by decide) rfl (fun ls hl => ?_)
  refine lv_iconst (v := 0) hx hb dX8_allDone_2 (by decide) ?_
  refine lv_istore_n (lv' := [(2, .int 0), (1, .int 0), (0, .ref h0)]) hx hb dX8_allDone_3 rfl hl (by decide) rfl (fun ls hl => ?_)
  have loop_4 : ∀ (n i : Nat), n + i = 10 → ∀ (ls : Array Slot), lv_has ls 3 [(0, .ref h0), (1, .int 0), (2, .int (nI i))] → W p l e (rm 0 0) s m ([.ref h0] : List Value).toArray below meth c s.heap [] 0 0 Q (F0 m 4 ls []) := by
    intro n
    induction n with
    | zero =>
      intro i hni ls hl
      have hi : i = 10 := by omega
      subst hi
      refine lv_iload_n hx hb dX8_allDone_4 rfl (lv_at hl 2 rfl) ?_
      refine lv_bipush (v := 10) hx hb dX8_allDone_5 (by decide) ?_
      refine lv_icmp_ge (tgt := 25) hx hb dX8_allDone_7 (by decide) (fun _ => ?_) (fun c_7 => absurd (by decide) c_7)
      refine lv_iload_n hx hb dX8_allDone_25 rfl (lv_at hl 1 rfl) ?_
      exact ret _ _ 0 dX8_allDone_26 rfl rfl
    | succ n ih =>
      intro i hni ls hl
      have hi : i < 10 := by omega
      refine lv_iload_n hx hb dX8_allDone_4 rfl (lv_at hl 2 rfl) ?_
      refine lv_bipush (v := 10) hx hb dX8_allDone_5 (by decide) ?_
      refine lv_icmp_ge (tgt := 25) hx hb dX8_allDone_7 (by decide) (fun c_7 => absurd c_7 (nI_ge hi (by decide))) (fun _ => ?_)
      refine lv_iload_n hx hb dX8_allDone_10 rfl (lv_at hl 1 rfl) ?_
      refine lv_aload_n hx hb dX8_allDone_11 rfl (lv_at hl 0 rfl) ?_
      refine va_get (D := D) (ci := 8) (v := .ref d1) (C := RX8) (T := TX8) (N := 14) hx hb htb itX8 hown hK hP 0 rfl rfl 5 (by decide) (htb _ k_352) (fun _ h9 => h9) rfl dX8_allDone_12 ?_
      refine lv_iload_n hx hb dX8_allDone_15 rfl (lv_at hl 2 rfl) ?_
      refine va_iald hx hb hK hP 1 0 rfl rfl (vp_in_nI (by omega) (by decide)) dX8_allDone_16 ?_
      refine tv (z := 0) (by rw [nI_clamp (by omega)]; exact hz _ hi) ?_
      refine lv_iadd hx hb dX8_allDone_17 ?_
      refine tv (z := 0) (by decide) ?_
      refine lv_istore_n (lv' := [(1, .int 0), (0, .ref h0), (2, .int (nI i))]) hx hb dX8_allDone_18 rfl hl (by decide) rfl (fun ls hl => ?_)
      refine lv_iinc (v := (nI (i + 1))) (lv' := [(2, .int (nI (i + 1))), (1, .int 0), (0, .ref h0)]) hx hb dX8_allDone_19 hl (k := 2) rfl (nI_1 i) (by decide) rfl (fun ls hl => ?_)
      refine lv_goto (tgt := 4) hx hb dX8_allDone_22 (by decide) ?_
      exact ih (i + 1) (by omega) _ (lv_sub hl [2, 1, 0] rfl)
  exact loop_4 10 0 (by omega) _ (lv_sub hl [2, 1, 0] rfl)

set_option maxRecDepth 100000 in
set_option maxHeartbeats 4000000 in
theorem c_X1_setDay (l : Launch) (D : va_G) (cI cB : ClassId) (sz : Nat) (h0 : Nat) (l1 : Nat) (l2 : Nat) (l3 : Nat) (l4 : Nat) (l5 : Nat) (l6 : Nat) (l7 : Nat) (lz : Int32) (lc : Int32) (a : Int32) (b : Int32) (k : Int32) (fl : Nat → Int32)  : MV (S := ((Nat → Int32))) l D cI cB yX1_setDay cX1_setDay 4 (rm 0 0) [.ref h0, .int a, .int b, .int k] [(h0, .inr (1, [.ref l1, .ref l2, .ref l3, .ref l4, .ref l5, .ref l6, .ref l7, .int lz, .int lc])), (l6, .inl (cI, 8, .inl fl))] sz (fun u => True) (fun u : ((Nat → Int32)) => [(h0, .inr (1, [.ref l1, .ref l2, .ref l3, .ref l4, .ref l5, .ref l6, .ref l7, .int lz, .int lc])), (l6, .inl (cI, 8, .inl u))]) := by
  refine MV.of (by decide) (Nat.le_of_ble_eq_true rfl) ?_
  intro p e s m below meth c Q ls A X hin hN hP hK hD hA hl ret
  have hS : va_S A s.heap s.heap [] := va_S.rf
  obtain ⟨hx, hb, hml, hown, htb⟩ := id X
  have hl : lv_has ls 4 [(0, .ref h0), (1, .int a), (2, .int b), (3, .int k)] := hl
  refine lv_aload_n hx hb dX1_setDay_0 rfl (lv_at hl 0 rfl) ?_
  refine va_get (D := D) (ci := 1) (v := .ref l6) (C := RX1) (T := TX1) (N := 9) hx hb htb itX1 hown hK hP 0 rfl rfl 5 (by decide) (htb _ k_229) (fun _ h9 => h9) rfl dX1_setDay_1 ?_
  refine lv_iconst (v := 3) hx hb dX1_setDay_4 (by decide) ?_
  refine lv_iload_n hx hb dX1_setDay_5 rfl (lv_at hl 1 rfl) ?_
  refine va_iast hx hb hK hP hD hS 1 0 rfl rfl (by unfold vp_in; decide) dX1_setDay_6 (fun H locs hP hD hS => ?_)
  obtain ⟨f_1, ef_1⟩ : ∃ g : Nat → Int32, g = upd fl (Int32.toNatClampNeg 3) a := ⟨_, rfl⟩
  rw [← ef_1] at hP hD
  have hP : va_P D vwCl [(h0, .inr (1, [.ref l1, .ref l2, .ref l3, .ref l4, .ref l5, .ref l6, .ref l7, .int lz, .int lc])), (l6, .inl (cI, 8, .inl f_1))] H := hP
  have hD : va_D A [(h0, .inr (1, [.ref l1, .ref l2, .ref l3, .ref l4, .ref l5, .ref l6, .ref l7, .int lz, .int lc])), (l6, .inl (cI, 8, .inl f_1))] := hD
  refine lv_aload_n hx hb dX1_setDay_7 rfl (lv_at hl 0 rfl) ?_
  refine va_get (D := D) (ci := 1) (v := .ref l6) (C := RX1) (T := TX1) (N := 9) hx hb htb itX1 hown hK hP 0 rfl rfl 5 (by decide) (htb _ k_229) (fun _ h9 => h9) rfl dX1_setDay_8 ?_
  refine lv_iconst (v := 4) hx hb dX1_setDay_11 (by decide) ?_
  refine lv_iload_n hx hb dX1_setDay_12 rfl (lv_at hl 1 rfl) ?_
  refine lv_bipush (v := 7) hx hb dX1_setDay_13 (by decide) ?_
  refine lv_irem hx hb dX1_setDay_15 (by decide) ?_
  refine lv_topi (fun x_2 ex_2 => ?_)
  refine va_iast hx hb hK hP hD hS 1 0 rfl rfl (by unfold vp_in; decide) dX1_setDay_16 (fun H locs hP hD hS => ?_)
  obtain ⟨f_3, ef_3⟩ : ∃ g : Nat → Int32, g = upd f_1 (Int32.toNatClampNeg 4) x_2 := ⟨_, rfl⟩
  rw [← ef_3] at hP hD
  have hP : va_P D vwCl [(h0, .inr (1, [.ref l1, .ref l2, .ref l3, .ref l4, .ref l5, .ref l6, .ref l7, .int lz, .int lc])), (l6, .inl (cI, 8, .inl f_3))] H := hP
  have hD : va_D A [(h0, .inr (1, [.ref l1, .ref l2, .ref l3, .ref l4, .ref l5, .ref l6, .ref l7, .int lz, .int lc])), (l6, .inl (cI, 8, .inl f_3))] := hD
  refine lv_aload_n hx hb dX1_setDay_17 rfl (lv_at hl 0 rfl) ?_
  refine va_get (D := D) (ci := 1) (v := .ref l6) (C := RX1) (T := TX1) (N := 9) hx hb htb itX1 hown hK hP 0 rfl rfl 5 (by decide) (htb _ k_229) (fun _ h9 => h9) rfl dX1_setDay_18 ?_
  refine lv_iconst (v := 5) hx hb dX1_setDay_21 (by decide) ?_
  refine lv_iload_n hx hb dX1_setDay_22 rfl (lv_at hl 2 rfl) ?_
  refine va_iast hx hb hK hP hD hS 1 0 rfl rfl (by unfold vp_in; decide) dX1_setDay_23 (fun H locs hP hD hS => ?_)
  obtain ⟨f_4, ef_4⟩ : ∃ g : Nat → Int32, g = upd f_3 (Int32.toNatClampNeg 5) b := ⟨_, rfl⟩
  rw [← ef_4] at hP hD
  have hP : va_P D vwCl [(h0, .inr (1, [.ref l1, .ref l2, .ref l3, .ref l4, .ref l5, .ref l6, .ref l7, .int lz, .int lc])), (l6, .inl (cI, 8, .inl f_4))] H := hP
  have hD : va_D A [(h0, .inr (1, [.ref l1, .ref l2, .ref l3, .ref l4, .ref l5, .ref l6, .ref l7, .int lz, .int lc])), (l6, .inl (cI, 8, .inl f_4))] := hD
  refine lv_aload_n hx hb dX1_setDay_24 rfl (lv_at hl 0 rfl) ?_
  refine va_get (D := D) (ci := 1) (v := .ref l6) (C := RX1) (T := TX1) (N := 9) hx hb htb itX1 hown hK hP 0 rfl rfl 5 (by decide) (htb _ k_229) (fun _ h9 => h9) rfl dX1_setDay_25 ?_
  refine lv_bipush (v := 6) hx hb dX1_setDay_28 (by decide) ?_
  refine lv_iload_n hx hb dX1_setDay_30 rfl (lv_at hl 3 rfl) ?_
  refine va_iast hx hb hK hP hD hS 1 0 rfl rfl (by unfold vp_in; decide) dX1_setDay_31 (fun H locs hP hD hS => ?_)
  obtain ⟨f_5, ef_5⟩ : ∃ g : Nat → Int32, g = upd f_4 (Int32.toNatClampNeg 6) k := ⟨_, rfl⟩
  rw [← ef_5] at hP hD
  have hP : va_P D vwCl [(h0, .inr (1, [.ref l1, .ref l2, .ref l3, .ref l4, .ref l5, .ref l6, .ref l7, .int lz, .int lc])), (l6, .inl (cI, 8, .inl f_5))] H := hP
  have hD : va_D A [(h0, .inr (1, [.ref l1, .ref l2, .ref l3, .ref l4, .ref l5, .ref l6, .ref l7, .int lz, .int lc])), (l6, .inl (cI, 8, .inl f_5))] := hD
  exact ret _ _ _ _ f_5 dX1_setDay_32 trivial (hP.sub [0, 1] rfl) (hD.sub [0, 1] (by decide) rfl) hS
end
section
set_option maxRecDepth 100000 in
set_option maxHeartbeats 4000000 in
theorem c_X8_begin (l : Launch) (D : va_G) (cI cB : ClassId) (sz : Nat) (h0 : Nat) (tw : Nat) (lw : Nat) (st : Nat) (m1 : Nat) (c1 : Nat) (d1 : Nat) (idl : Int32) (idf : Int32) (idt : Int32) (fc : Int32) (fp : Int32) (mb : Int32) (ra : Int32) (cl : Int32) (u1 : Nat) (f1 : Nat) (g1 : Nat) (ms : Int32) (dy : Int32) (dr : Int32) (nw : Nat) (u2 : Nat) (f2 : Nat) (g2 : Nat) (dr2 : Int32) (fu : Nat → Int32) (ff : Nat → Int32) (fg : Nat → Int32) (fm : Nat → Int32) (fd : Nat → Int32) (fu2 : Nat → Int32) (ff2 : Nat → Int32) (fg2 : Nat → Int32) (hu : ∀ j, j < 12 → fu2 j = 0) (hf : ∀ j, j < 10 → ff2 j = -2) (hg : ∀ j, j < 10 → fg2 j = -2) : MV (S := ((Nat → Int32) × (Nat → Int32) × (Nat → Int32) × (Nat → Int32) × (Nat → Int32))) l D cI cB yX8_begin cX8_begin 2 (rm 2 81) [.ref h0, .ref nw] [(h0, .inr (8, [.ref tw, .ref lw, .ref st, .ref m1, .ref c1, .ref d1, .int idl, .int idf, .int idt, .int fc, .int fp, .int mb, .int ra, .int cl])), (st, .inr (4, [.ref u1, .ref f1, .ref g1, .int ms, .int dy, .int dr])), (u1, .inl (cI, 12, .inl fu)), (f1, .inl (cI, 10, .inl ff)), (g1, .inl (cI, 10, .inl fg)), (m1, .inl (cI, 10, .inl fm)), (d1, .inl (cI, 10, .inl fd)), (nw, .inr (4, [.ref u2, .ref f2, .ref g2, .int 0, .int 0, .int dr2])), (u2, .inl (cI, 12, .inl fu2)), (f2, .inl (cI, 10, .inl ff2)), (g2, .inl (cI, 10, .inl fg2))] sz (fun u => (∀ j, j < 12 → u.1 j = 0) ∧ (∀ j, j < 10 → u.2.1 j = -2) ∧ (∀ j, j < 10 → u.2.2.1 j = -2) ∧ (∀ j, j < 10 → u.2.2.2.1 j = 0) ∧ (∀ j, j < 10 → u.2.2.2.2 j = 0)) (fun u : ((Nat → Int32) × (Nat → Int32) × (Nat → Int32) × (Nat → Int32) × (Nat → Int32)) => [(h0, .inr (8, [.ref tw, .ref lw, .ref st, .ref m1, .ref c1, .ref d1, .int (-1), .int idf, .int idt, .int (-1), .int fp, .int 0, .int 0, .int 0])), (st, .inr (4, [.ref u1, .ref f1, .ref g1, .int 0, .int 0, .int dr2])), (u1, .inl (cI, 12, .inl u.1)), (f1, .inl (cI, 10, .inl u.2.1)), (g1, .inl (cI, 10, .inl u.2.2.1)), (m1, .inl (cI, 10, .inl u.2.2.2.1)), (d1, .inl (cI, 10, .inl u.2.2.2.2)), (nw, .inr (4, [.ref u2, .ref f2, .ref g2, .int 0, .int 0, .int dr2])), (u2, .inl (cI, 12, .inl fu2)), (f2, .inl (cI, 10, .inl ff2)), (g2, .inl (cI, 10, .inl fg2))]) := by
  refine MV.of (by decide) (Nat.le_of_ble_eq_true rfl) ?_
  intro p e s m below meth c Q ls A X hin hN hP hK hD hA hl ret
  have hS : va_S A s.heap s.heap [] := va_S.rf
  obtain ⟨hx, hb, hml, hown, htb⟩ := id X
  have hl : lv_has ls 2 [(0, .ref h0), (1, .ref nw)] := hl
  refine lv_aload_n hx hb dX8_begin_0 rfl (lv_at hl 0 rfl) ?_
  refine va_get (D := D) (ci := 8) (v := .ref st) (C := RX8) (T := TX8) (N := 14) hx hb htb itX8 hown hK hP 0 rfl rfl 2 (by decide) (htb _ k_347) (fun _ h9 => h9) rfl dX8_begin_1 ?_
  refine lv_aload_n hx hb dX8_begin_4 rfl (lv_at hl 1 rfl) ?_
  refine cVV (As := [.ref nw]) (rest := []) (n := 1) (ci := 4) (q0 := 0) (wr := [(h0, .inr (8, [.ref tw, .ref lw, .ref st, .ref m1, .ref c1, .ref d1, .int idl, .int idf, .int idt, .int fc, .int fp, .int mb, .int ra, .int cl])), (m1, .inl (cI, 10, .inl fm)), (d1, .inl (cI, 10, .inl fd))]) X hN hK hP hD hS hA (c_X4_copy l D cI cB _ st u1 f1 g1 ms dy dr nw u2 f2 g2 0 0 dr2 fu ff fg fu2 ff2 fg2 hu hf hg) (gV k_777 k_778 k_779 k_95 k_780) (by decide +kernel) ⟨Nat.le_of_ble_eq_true rfl, Nat.le_of_ble_eq_true rfl⟩ ⟨rfl, rfl⟩ [1, 2, 3, 4, 7, 8, 9, 10] [0, 5, 6] rfl rfl (by decide) (by decide) rfl rfl rfl rfl rfl hl.1 (Nat.le_of_ble_eq_true rfl) dX8_begin_5 ⟨Nat.le_of_ble_eq_true rfl, Nat.le_of_ble_eq_true rfl⟩ (fun u H locs hw_5 hP hD hS => ?_)
  obtain ⟨uo_2, fo_3, go_4⟩ := u
  try dsimp only at hw_5
  have hP : va_P D vwCl [(h0, .inr (8, [.ref tw, .ref lw, .ref st, .ref m1, .ref c1, .ref d1, .int idl, .int idf, .int idt, .int fc, .int fp, .int mb, .int ra, .int cl])), (m1, .inl (cI, 10, .inl fm)), (d1, .inl (cI, 10, .inl fd)), (st, .inr (4, [.ref u1, .ref f1, .ref g1, .int 0, .int 0, .int dr2])), (u1, .inl (cI, 12, .inl uo_2)), (f1, .inl (cI, 10, .inl fo_3)), (g1, .inl (cI, 10, .inl go_4)), (nw, .inr (4, [.ref u2, .ref f2, .ref g2, .int 0, .int 0, .int dr2])), (u2, .inl (cI, 12, .inl fu2)), (f2, .inl (cI, 10, .inl ff2)), (g2, .inl (cI, 10, .inl fg2))] H := hP
  have hD : va_D A [(h0, .inr (8, [.ref tw, .ref lw, .ref st, .ref m1, .ref c1, .ref d1, .int idl, .int idf, .int idt, .int fc, .int fp, .int mb, .int ra, .int cl])), (m1, .inl (cI, 10, .inl fm)), (d1, .inl (cI, 10, .inl fd)), (st, .inr (4, [.ref u1, .ref f1, .ref g1, .int 0, .int 0, .int dr2])), (u1, .inl (cI, 12, .inl uo_2)), (f1, .inl (cI, 10, .inl fo_3)), (g1, .inl (cI, 10, .inl go_4)), (nw, .inr (4, [.ref u2, .ref f2, .ref g2, .int 0, .int 0, .int dr2])), (u2, .inl (cI, 12, .inl fu2)), (f2, .inl (cI, 10, .inl ff2)), (g2, .inl (cI, 10, .inl fg2))] := hD
  refine lv_aload_n hx hb dX8_begin_8 rfl (lv_at hl 0 rfl) ?_
  refine va_get (D := D) (ci := 8) (v := .ref m1) (C := RX8) (T := TX8) (N := 14) hx hb htb itX8 hown hK hP 0 rfl rfl 3 (by decide) (htb _ k_349) (fun _ h9 => h9) rfl dX8_begin_9 ?_
  refine lv_iconst (v := 0) hx hb dX8_begin_12 (by decide) ?_
  refine cSV (As := [.ref m1, .int 0]) (rest := []) (n := 2) (wr := [(h0, .inr (8, [.ref tw, .ref lw, .ref st, .ref m1, .ref c1, .ref d1, .int idl, .int idf, .int idt, .int fc, .int fp, .int mb, .int ra, .int cl])), (d1, .inl (cI, 10, .inl fd)), (st, .inr (4, [.ref u1, .ref f1, .ref g1, .int 0, .int 0, .int dr2])), (u1, .inl (cI, 12, .inl uo_2)), (f1, .inl (cI, 10, .inl fo_3)), (g1, .inl (cI, 10, .inl go_4)), (nw, .inr (4, [.ref u2, .ref f2, .ref g2, .int 0, .int 0, .int dr2])), (u2, .inl (cI, 12, .inl fu2)), (f2, .inl (cI, 10, .inl ff2)), (g2, .inl (cI, 10, .inl fg2))]) X hN hK hP hD hS hA (c_J7_fill_53178 l D cI cB _ m1 0 fm) k_782 k_187 k_96 k_188 (by decide +kernel) ⟨Nat.le_of_ble_eq_true rfl, Nat.le_of_ble_eq_true rfl⟩ ⟨rfl, rfl⟩ [1] [0, 2, 3, 4, 5, 6, 7, 8, 9, 10] rfl rfl (by decide) (by decide) rfl rfl hl.1 (Nat.le_of_ble_eq_true rfl) dX8_begin_13 ⟨Nat.le_of_ble_eq_true rfl, Nat.le_of_ble_eq_true rfl⟩ (fun u H locs hw_8 hP hD hS => ?_)
  obtain ⟨fo_7, rfl⟩ : ∃ z, z = u := ⟨_, rfl⟩
  try dsimp only at hw_8
  have hP : va_P D vwCl [(h0, .inr (8, [.ref tw, .ref lw, .ref st, .ref m1, .ref c1, .ref d1, .int idl, .int idf, .int idt, .int fc, .int fp, .int mb, .int ra, .int cl])), (d1, .inl (cI, 10, .inl fd)), (st, .inr (4, [.ref u1, .ref f1, .ref g1, .int 0, .int 0, .int dr2])), (u1, .inl (cI, 12, .inl uo_2)), (f1, .inl (cI, 10, .inl fo_3)), (g1, .inl (cI, 10, .inl go_4)), (nw, .inr (4, [.ref u2, .ref f2, .ref g2, .int 0, .int 0, .int dr2])), (u2, .inl (cI, 12, .inl fu2)), (f2, .inl (cI, 10, .inl ff2)), (g2, .inl (cI, 10, .inl fg2)), (m1, .inl (cI, 10, .inl fo_7))] H := hP
  have hD : va_D A [(h0, .inr (8, [.ref tw, .ref lw, .ref st, .ref m1, .ref c1, .ref d1, .int idl, .int idf, .int idt, .int fc, .int fp, .int mb, .int ra, .int cl])), (d1, .inl (cI, 10, .inl fd)), (st, .inr (4, [.ref u1, .ref f1, .ref g1, .int 0, .int 0, .int dr2])), (u1, .inl (cI, 12, .inl uo_2)), (f1, .inl (cI, 10, .inl fo_3)), (g1, .inl (cI, 10, .inl go_4)), (nw, .inr (4, [.ref u2, .ref f2, .ref g2, .int 0, .int 0, .int dr2])), (u2, .inl (cI, 12, .inl fu2)), (f2, .inl (cI, 10, .inl ff2)), (g2, .inl (cI, 10, .inl fg2)), (m1, .inl (cI, 10, .inl fo_7))] := hD
  refine lv_aload_n hx hb dX8_begin_16 rfl (lv_at hl 0 rfl) ?_
  refine va_get (D := D) (ci := 8) (v := .ref d1) (C := RX8) (T := TX8) (N := 14) hx hb htb itX8 hown hK hP 0 rfl rfl 5 (by decide) (htb _ k_352) (fun _ h9 => h9) rfl dX8_begin_17 ?_
  refine lv_iconst (v := 0) hx hb dX8_begin_20 (by decide) ?_
  refine cSV (As := [.ref d1, .int 0]) (rest := []) (n := 2) (wr := [(h0, .inr (8, [.ref tw, .ref lw, .ref st, .ref m1, .ref c1, .ref d1, .int idl, .int idf, .int idt, .int fc, .int fp, .int mb, .int ra, .int cl])), (st, .inr (4, [.ref u1, .ref f1, .ref g1, .int 0, .int 0, .int dr2])), (u1, .inl (cI, 12, .inl uo_2)), (f1, .inl (cI, 10, .inl fo_3)), (g1, .inl (cI, 10, .inl go_4)), (nw, .inr (4, [.ref u2, .ref f2, .ref g2, .int 0, .int 0, .int dr2])), (u2, .inl (cI, 12, .inl fu2)), (f2, .inl (cI, 10, .inl ff2)), (g2, .inl (cI, 10, .inl fg2)), (m1, .inl (cI, 10, .inl fo_7))]) X hN hK hP hD hS hA (c_J7_fill_53178 l D cI cB _ d1 0 fd) k_782 k_187 k_96 k_188 (by decide +kernel) ⟨Nat.le_of_ble_eq_true rfl, Nat.le_of_ble_eq_true rfl⟩ ⟨rfl, rfl⟩ [1] [0, 2, 3, 4, 5, 6, 7, 8, 9, 10] rfl rfl (by decide) (by decide) rfl rfl hl.1 (Nat.le_of_ble_eq_true rfl) dX8_begin_21 ⟨Nat.le_of_ble_eq_true rfl, Nat.le_of_ble_eq_true rfl⟩ (fun u H locs hw_11 hP hD hS => ?_)
  obtain ⟨fo_10, rfl⟩ : ∃ z, z = u := ⟨_, rfl⟩
  try dsimp only at hw_11
  have hP : va_P D vwCl [(h0, .inr (8, [.ref tw, .ref lw, .ref st, .ref m1, .ref c1, .ref d1, .int idl, .int idf, .int idt, .int fc, .int fp, .int mb, .int ra, .int cl])), (st, .inr (4, [.ref u1, .ref f1, .ref g1, .int 0, .int 0, .int dr2])), (u1, .inl (cI, 12, .inl uo_2)), (f1, .inl (cI, 10, .inl fo_3)), (g1, .inl (cI, 10, .inl go_4)), (nw, .inr (4, [.ref u2, .ref f2, .ref g2, .int 0, .int 0, .int dr2])), (u2, .inl (cI, 12, .inl fu2)), (f2, .inl (cI, 10, .inl ff2)), (g2, .inl (cI, 10, .inl fg2)), (m1, .inl (cI, 10, .inl fo_7)), (d1, .inl (cI, 10, .inl fo_10))] H := hP
  have hD : va_D A [(h0, .inr (8, [.ref tw, .ref lw, .ref st, .ref m1, .ref c1, .ref d1, .int idl, .int idf, .int idt, .int fc, .int fp, .int mb, .int ra, .int cl])), (st, .inr (4, [.ref u1, .ref f1, .ref g1, .int 0, .int 0, .int dr2])), (u1, .inl (cI, 12, .inl uo_2)), (f1, .inl (cI, 10, .inl fo_3)), (g1, .inl (cI, 10, .inl go_4)), (nw, .inr (4, [.ref u2, .ref f2, .ref g2, .int 0, .int 0, .int dr2])), (u2, .inl (cI, 12, .inl fu2)), (f2, .inl (cI, 10, .inl ff2)), (g2, .inl (cI, 10, .inl fg2)), (m1, .inl (cI, 10, .inl fo_7)), (d1, .inl (cI, 10, .inl fo_10))] := hD
  refine lv_aload_n hx hb dX8_begin_24 rfl (lv_at hl 0 rfl) ?_
  refine lv_iconst (v := (-1)) hx hb dX8_begin_25 (by decide) ?_
  refine va_put (D := D) (ci := 8) (v := .int (-1)) (ty := .int) (C := RX8) (T := TX8) (N := 14) hx hb htb itX8 tyX8 tyX8_ok nmX8 hown hK hP hD hS 0 rfl rfl 6 (by decide) (htb _ k_354) (fun _ h9 => h9) rfl (tyX8_ok 6 (by decide)) rfl rfl (Nat.le_of_ble_eq_true rfl) dX8_begin_26 (fun H locs hP hD hS => ?_)
  have hP : va_P D vwCl [(h0, .inr (8, [.ref tw, .ref lw, .ref st, .ref m1, .ref c1, .ref d1, .int (-1), .int idf, .int idt, .int fc, .int fp, .int mb, .int ra, .int cl])), (st, .inr (4, [.ref u1, .ref f1, .ref g1, .int 0, .int 0, .int dr2])), (u1, .inl (cI, 12, .inl uo_2)), (f1, .inl (cI, 10, .inl fo_3)), (g1, .inl (cI, 10, .inl go_4)), (nw, .inr (4, [.ref u2, .ref f2, .ref g2, .int 0, .int 0, .int dr2])), (u2, .inl (cI, 12, .inl fu2)), (f2, .inl (cI, 10, .inl ff2)), (g2, .inl (cI, 10, .inl fg2)), (m1, .inl (cI, 10, .inl fo_7)), (d1, .inl (cI, 10, .inl fo_10))] H := hP
  have hD : va_D A [(h0, .inr (8, [.ref tw, .ref lw, .ref st, .ref m1, .ref c1, .ref d1, .int (-1), .int idf, .int idt, .int fc, .int fp, .int mb, .int ra, .int cl])), (st, .inr (4, [.ref u1, .ref f1, .ref g1, .int 0, .int 0, .int dr2])), (u1, .inl (cI, 12, .inl uo_2)), (f1, .inl (cI, 10, .inl fo_3)), (g1, .inl (cI, 10, .inl go_4)), (nw, .inr (4, [.ref u2, .ref f2, .ref g2, .int 0, .int 0, .int dr2])), (u2, .inl (cI, 12, .inl fu2)), (f2, .inl (cI, 10, .inl ff2)), (g2, .inl (cI, 10, .inl fg2)), (m1, .inl (cI, 10, .inl fo_7)), (d1, .inl (cI, 10, .inl fo_10))] := hD
  refine lv_aload_n hx hb dX8_begin_29 rfl (lv_at hl 0 rfl) ?_
  refine lv_iconst (v := (-1)) hx hb dX8_begin_30 (by decide) ?_
  refine va_put (D := D) (ci := 8) (v := .int (-1)) (ty := .int) (C := RX8) (T := TX8) (N := 14) hx hb htb itX8 tyX8 tyX8_ok nmX8 hown hK hP hD hS 0 rfl rfl 9 (by decide) (htb _ k_357) (fun _ h9 => h9) rfl (tyX8_ok 9 (by decide)) rfl rfl (Nat.le_of_ble_eq_true rfl) dX8_begin_31 (fun H locs hP hD hS => ?_)
  have hP : va_P D vwCl [(h0, .inr (8, [.ref tw, .ref lw, .ref st, .ref m1, .ref c1, .ref d1, .int (-1), .int idf, .int idt, .int (-1), .int fp, .int mb, .int ra, .int cl])), (st, .inr (4, [.ref u1, .ref f1, .ref g1, .int 0, .int 0, .int dr2])), (u1, .inl (cI, 12, .inl uo_2)), (f1, .inl (cI, 10, .inl fo_3)), (g1, .inl (cI, 10, .inl go_4)), (nw, .inr (4, [.ref u2, .ref f2, .ref g2, .int 0, .int 0, .int dr2])), (u2, .inl (cI, 12, .inl fu2)), (f2, .inl (cI, 10, .inl ff2)), (g2, .inl (cI, 10, .inl fg2)), (m1, .inl (cI, 10, .inl fo_7)), (d1, .inl (cI, 10, .inl fo_10))] H := hP
  have hD : va_D A [(h0, .inr (8, [.ref tw, .ref lw, .ref st, .ref m1, .ref c1, .ref d1, .int (-1), .int idf, .int idt, .int (-1), .int fp, .int mb, .int ra, .int cl])), (st, .inr (4, [.ref u1, .ref f1, .ref g1, .int 0, .int 0, .int dr2])), (u1, .inl (cI, 12, .inl uo_2)), (f1, .inl (cI, 10, .inl fo_3)), (g1, .inl (cI, 10, .inl go_4)), (nw, .inr (4, [.ref u2, .ref f2, .ref g2, .int 0, .int 0, .int dr2])), (u2, .inl (cI, 12, .inl fu2)), (f2, .inl (cI, 10, .inl ff2)), (g2, .inl (cI, 10, .inl fg2)), (m1, .inl (cI, 10, .inl fo_7)), (d1, .inl (cI, 10, .inl fo_10))] := hD
  refine lv_aload_n hx hb dX8_begin_34 rfl (lv_at hl 0 rfl) ?_
  refine lv_aload_n hx hb dX8_begin_35 rfl (lv_at hl 1 rfl) ?_
  refine va_getN (D := D) (ci := 4) (v := .int 0) (C := RX4) (T := TX4) (N := 6) hx hb htb itX4 hown hK hP 5 rfl rfl 3 (by decide) (va_Nw.use rfl (hN _ n_196 rfl)) (fun _ h9 => h9) rfl dX8_begin_36 ?_
  refine va_put (D := D) (ci := 8) (v := .int 0) (ty := .int) (C := RX8) (T := TX8) (N := 14) hx hb htb itX8 tyX8 tyX8_ok nmX8 hown hK hP hD hS 0 rfl rfl 11 (by decide) (htb _ k_359) (fun _ h9 => h9) rfl (tyX8_ok 11 (by decide)) rfl rfl (Nat.le_of_ble_eq_true rfl) dX8_begin_39 (fun H locs hP hD hS => ?_)
  have hP : va_P D vwCl [(h0, .inr (8, [.ref tw, .ref lw, .ref st, .ref m1, .ref c1, .ref d1, .int (-1), .int idf, .int idt, .int (-1), .int fp, .int 0, .int ra, .int cl])), (st, .inr (4, [.ref u1, .ref f1, .ref g1, .int 0, .int 0, .int dr2])), (u1, .inl (cI, 12, .inl uo_2)), (f1, .inl (cI, 10, .inl fo_3)), (g1, .inl (cI, 10, .inl go_4)), (nw, .inr (4, [.ref u2, .ref f2, .ref g2, .int 0, .int 0, .int dr2])), (u2, .inl (cI, 12, .inl fu2)), (f2, .inl (cI, 10, .inl ff2)), (g2, .inl (cI, 10, .inl fg2)), (m1, .inl (cI, 10, .inl fo_7)), (d1, .inl (cI, 10, .inl fo_10))] H := hP
  have hD : va_D A [(h0, .inr (8, [.ref tw, .ref lw, .ref st, .ref m1, .ref c1, .ref d1, .int (-1), .int idf, .int idt, .int (-1), .int fp, .int 0, .int ra, .int cl])), (st, .inr (4, [.ref u1, .ref f1, .ref g1, .int 0, .int 0, .int dr2])), (u1, .inl (cI, 12, .inl uo_2)), (f1, .inl (cI, 10, .inl fo_3)), (g1, .inl (cI, 10, .inl go_4)), (nw, .inr (4, [.ref u2, .ref f2, .ref g2, .int 0, .int 0, .int dr2])), (u2, .inl (cI, 12, .inl fu2)), (f2, .inl (cI, 10, .inl ff2)), (g2, .inl (cI, 10, .inl fg2)), (m1, .inl (cI, 10, .inl fo_7)), (d1, .inl (cI, 10, .inl fo_10))] := hD
  refine lv_aload_n hx hb dX8_begin_42 rfl (lv_at hl 0 rfl) ?_
  refine lv_iconst (v := 0) hx hb dX8_begin_43 (by decide) ?_
  refine va_put (D := D) (ci := 8) (v := .int 0) (ty := .int) (C := RX8) (T := TX8) (N := 14) hx hb htb itX8 tyX8 tyX8_ok nmX8 hown hK hP hD hS 0 rfl rfl 12 (by decide) (htb _ k_360) (fun _ h9 => h9) rfl (tyX8_ok 12 (by decide)) rfl rfl (Nat.le_of_ble_eq_true rfl) dX8_begin_44 (fun H locs hP hD hS => ?_)
  have hP : va_P D vwCl [(h0, .inr (8, [.ref tw, .ref lw, .ref st, .ref m1, .ref c1, .ref d1, .int (-1), .int idf, .int idt, .int (-1), .int fp, .int 0, .int 0, .int cl])), (st, .inr (4, [.ref u1, .ref f1, .ref g1, .int 0, .int 0, .int dr2])), (u1, .inl (cI, 12, .inl uo_2)), (f1, .inl (cI, 10, .inl fo_3)), (g1, .inl (cI, 10, .inl go_4)), (nw, .inr (4, [.ref u2, .ref f2, .ref g2, .int 0, .int 0, .int dr2])), (u2, .inl (cI, 12, .inl fu2)), (f2, .inl (cI, 10, .inl ff2)), (g2, .inl (cI, 10, .inl fg2)), (m1, .inl (cI, 10, .inl fo_7)), (d1, .inl (cI, 10, .inl fo_10))] H := hP
  have hD : va_D A [(h0, .inr (8, [.ref tw, .ref lw, .ref st, .ref m1, .ref c1, .ref d1, .int (-1), .int idf, .int idt, .int (-1), .int fp, .int 0, .int 0, .int cl])), (st, .inr (4, [.ref u1, .ref f1, .ref g1, .int 0, .int 0, .int dr2])), (u1, .inl (cI, 12, .inl uo_2)), (f1, .inl (cI, 10, .inl fo_3)), (g1, .inl (cI, 10, .inl go_4)), (nw, .inr (4, [.ref u2, .ref f2, .ref g2, .int 0, .int 0, .int dr2])), (u2, .inl (cI, 12, .inl fu2)), (f2, .inl (cI, 10, .inl ff2)), (g2, .inl (cI, 10, .inl fg2)), (m1, .inl (cI, 10, .inl fo_7)), (d1, .inl (cI, 10, .inl fo_10))] := hD
  refine lv_aload_n hx hb dX8_begin_47 rfl (lv_at hl 0 rfl) ?_
  refine lv_iconst (v := 0) hx hb dX8_begin_48 (by decide) ?_
  refine va_put (D := D) (ci := 8) (v := .int 0) (ty := .int) (C := RX8) (T := TX8) (N := 14) hx hb htb itX8 tyX8 tyX8_ok nmX8 hown hK hP hD hS 0 rfl rfl 13 (by decide) (htb _ k_362) (fun _ h9 => h9) rfl (tyX8_ok 13 (by decide)) rfl rfl (Nat.le_of_ble_eq_true rfl) dX8_begin_49 (fun H locs hP hD hS => ?_)
  have hP : va_P D vwCl [(h0, .inr (8, [.ref tw, .ref lw, .ref st, .ref m1, .ref c1, .ref d1, .int (-1), .int idf, .int idt, .int (-1), .int fp, .int 0, .int 0, .int 0])), (st, .inr (4, [.ref u1, .ref f1, .ref g1, .int 0, .int 0, .int dr2])), (u1, .inl (cI, 12, .inl uo_2)), (f1, .inl (cI, 10, .inl fo_3)), (g1, .inl (cI, 10, .inl go_4)), (nw, .inr (4, [.ref u2, .ref f2, .ref g2, .int 0, .int 0, .int dr2])), (u2, .inl (cI, 12, .inl fu2)), (f2, .inl (cI, 10, .inl ff2)), (g2, .inl (cI, 10, .inl fg2)), (m1, .inl (cI, 10, .inl fo_7)), (d1, .inl (cI, 10, .inl fo_10))] H := hP
  have hD : va_D A [(h0, .inr (8, [.ref tw, .ref lw, .ref st, .ref m1, .ref c1, .ref d1, .int (-1), .int idf, .int idt, .int (-1), .int fp, .int 0, .int 0, .int 0])), (st, .inr (4, [.ref u1, .ref f1, .ref g1, .int 0, .int 0, .int dr2])), (u1, .inl (cI, 12, .inl uo_2)), (f1, .inl (cI, 10, .inl fo_3)), (g1, .inl (cI, 10, .inl go_4)), (nw, .inr (4, [.ref u2, .ref f2, .ref g2, .int 0, .int 0, .int dr2])), (u2, .inl (cI, 12, .inl fu2)), (f2, .inl (cI, 10, .inl ff2)), (g2, .inl (cI, 10, .inl fg2)), (m1, .inl (cI, 10, .inl fo_7)), (d1, .inl (cI, 10, .inl fo_10))] := hD
  exact ret _ _ _ _ (uo_2, fo_3, go_4, fo_7, fo_10) dX8_begin_52 (⟨hw_5.1, hw_5.2.1, hw_5.2.2, hw_8, hw_11⟩) (hP.sub [0, 1, 2, 3, 4, 9, 10, 5, 6, 7, 8] rfl) (hD.sub [0, 1, 2, 3, 4, 9, 10, 5, 6, 7, 8] (by decide) rfl) hS

set_option maxRecDepth 100000 in
set_option maxHeartbeats 4000000 in
theorem c_X8_setIdle (l : Launch) (D : va_G) (cI cB : ClassId) (sz : Nat) (h0 : Nat) (tw : Nat) (lw : Nat) (st : Nat) (m1 : Nat) (c1 : Nat) (d1 : Nat) (idl : Int32) (idf : Int32) (idt : Int32) (fc : Int32) (fp : Int32) (mb : Int32) (ra : Int32) (cl : Int32) (a : Int32) (b : Int32) (k : Int32)  : MV (S := Unit) l D cI cB yX8_setIdle cX8_setIdle 4 (rm 0 0) [.ref h0, .int a, .int b, .int k] [(h0, .inr (8, [.ref tw, .ref lw, .ref st, .ref m1, .ref c1, .ref d1, .int idl, .int idf, .int idt, .int fc, .int fp, .int mb, .int ra, .int cl]))] sz (fun u => True) (fun u : Unit => [(h0, .inr (8, [.ref tw, .ref lw, .ref st, .ref m1, .ref c1, .ref d1, .int a, .int b, .int k, .int fc, .int fp, .int mb, .int ra, .int cl]))]) := by
  refine MV.of (by decide) (Nat.le_of_ble_eq_true rfl) ?_
  intro p e s m below meth c Q ls A X hin hN hP hK hD hA hl ret
  have hS : va_S A s.heap s.heap [] := va_S.rf
  obtain ⟨hx, hb, hml, hown, htb⟩ := id X
  have hl : lv_has ls 4 [(0, .ref h0), (1, .int a), (2, .int b), (3, .int k)] := hl
  refine lv_aload_n hx hb dX8_setIdle_0 rfl (lv_at hl 0 rfl) ?_
  refine lv_iload_n hx hb dX8_setIdle_1 rfl (lv_at hl 1 rfl) ?_
  refine va_put (D := D) (ci := 8) (v := .int a) (ty := .int) (C := RX8) (T := TX8) (N := 14) hx hb htb itX8 tyX8 tyX8_ok nmX8 hown hK hP hD hS 0 rfl rfl 6 (by decide) (htb _ k_354) (fun _ h9 => h9) rfl (tyX8_ok 6 (by decide)) rfl rfl (Nat.le_of_ble_eq_true rfl) dX8_setIdle_2 (fun H locs hP hD hS => ?_)
  have hP : va_P D vwCl [(h0, .inr (8, [.ref tw, .ref lw, .ref st, .ref m1, .ref c1, .ref d1, .int a, .int idf, .int idt, .int fc, .int fp, .int mb, .int ra, .int cl]))] H := hP
  have hD : va_D A [(h0, .inr (8, [.ref tw, .ref lw, .ref st, .ref m1, .ref c1, .ref d1, .int a, .int idf, .int idt, .int fc, .int fp, .int mb, .int ra, .int cl]))] := hD
  refine lv_aload_n hx hb dX8_setIdle_5 rfl (lv_at hl 0 rfl) ?_
  refine lv_iload_n hx hb dX8_setIdle_6 rfl (lv_at hl 2 rfl) ?_
  refine va_put (D := D) (ci := 8) (v := .int b) (ty := .int) (C := RX8) (T := TX8) (N := 14) hx hb htb itX8 tyX8 tyX8_ok nmX8 hown hK hP hD hS 0 rfl rfl 7 (by decide) (htb _ k_355) (fun _ h9 => h9) rfl (tyX8_ok 7 (by decide)) rfl rfl (Nat.le_of_ble_eq_true rfl) dX8_setIdle_7 (fun H locs hP hD hS => ?_)
  have hP : va_P D vwCl [(h0, .inr (8, [.ref tw, .ref lw, .ref st, .ref m1, .ref c1, .ref d1, .int a, .int b, .int idt, .int fc, .int fp, .int mb, .int ra, .int cl]))] H := hP
  have hD : va_D A [(h0, .inr (8, [.ref tw, .ref lw, .ref st, .ref m1, .ref c1, .ref d1, .int a, .int b, .int idt, .int fc, .int fp, .int mb, .int ra, .int cl]))] := hD
  refine lv_aload_n hx hb dX8_setIdle_10 rfl (lv_at hl 0 rfl) ?_
  refine lv_iload_n hx hb dX8_setIdle_11 rfl (lv_at hl 3 rfl) ?_
  refine va_put (D := D) (ci := 8) (v := .int k) (ty := .int) (C := RX8) (T := TX8) (N := 14) hx hb htb itX8 tyX8 tyX8_ok nmX8 hown hK hP hD hS 0 rfl rfl 8 (by decide) (htb _ k_356) (fun _ h9 => h9) rfl (tyX8_ok 8 (by decide)) rfl rfl (Nat.le_of_ble_eq_true rfl) dX8_setIdle_12 (fun H locs hP hD hS => ?_)
  have hP : va_P D vwCl [(h0, .inr (8, [.ref tw, .ref lw, .ref st, .ref m1, .ref c1, .ref d1, .int a, .int b, .int k, .int fc, .int fp, .int mb, .int ra, .int cl]))] H := hP
  have hD : va_D A [(h0, .inr (8, [.ref tw, .ref lw, .ref st, .ref m1, .ref c1, .ref d1, .int a, .int b, .int k, .int fc, .int fp, .int mb, .int ra, .int cl]))] := hD
  exact ret _ _ _ _ () dX8_setIdle_15 trivial (hP.sub [0] rfl) (hD.sub [0] (by decide) rfl) hS

set_option maxRecDepth 100000 in
set_option maxHeartbeats 4000000 in
theorem c_X8_setFront (l : Launch) (D : va_G) (cI cB : ClassId) (sz : Nat) (h0 : Nat) (tw : Nat) (lw : Nat) (st : Nat) (m1 : Nat) (c1 : Nat) (d1 : Nat) (idl : Int32) (idf : Int32) (idt : Int32) (fc : Int32) (fp : Int32) (mb : Int32) (ra : Int32) (cl : Int32) (a : Int32) (b : Int32)  : MV (S := Unit) l D cI cB yX8_setFront cX8_setFront 3 (rm 0 0) [.ref h0, .int a, .int b] [(h0, .inr (8, [.ref tw, .ref lw, .ref st, .ref m1, .ref c1, .ref d1, .int idl, .int idf, .int idt, .int fc, .int fp, .int mb, .int ra, .int cl]))] sz (fun u => True) (fun u : Unit => [(h0, .inr (8, [.ref tw, .ref lw, .ref st, .ref m1, .ref c1, .ref d1, .int idl, .int idf, .int idt, .int a, .int b, .int mb, .int ra, .int cl]))]) := by
  refine MV.of (by decide) (Nat.le_of_ble_eq_true rfl) ?_
  intro p e s m below meth c Q ls A X hin hN hP hK hD hA hl ret
  have hS : va_S A s.heap s.heap [] := va_S.rf
  obtain ⟨hx, hb, hml, hown, htb⟩ := id X
  have hl : lv_has ls 3 [(0, .ref h0), (1, .int a), (2, .int b)] := hl
  refine lv_aload_n hx hb dX8_setFront_0 rfl (lv_at hl 0 rfl) ?_
  refine lv_iload_n hx hb dX8_setFront_1 rfl (lv_at hl 1 rfl) ?_
  refine va_put (D := D) (ci := 8) (v := .int a) (ty := .int) (C := RX8) (T := TX8) (N := 14) hx hb htb itX8 tyX8 tyX8_ok nmX8 hown hK hP hD hS 0 rfl rfl 9 (by decide) (htb _ k_357) (fun _ h9 => h9) rfl (tyX8_ok 9 (by decide)) rfl rfl (Nat.le_of_ble_eq_true rfl) dX8_setFront_2 (fun H locs hP hD hS => ?_)
  have hP : va_P D vwCl [(h0, .inr (8, [.ref tw, .ref lw, .ref st, .ref m1, .ref c1, .ref d1, .int idl, .int idf, .int idt, .int a, .int fp, .int mb, .int ra, .int cl]))] H := hP
  have hD : va_D A [(h0, .inr (8, [.ref tw, .ref lw, .ref st, .ref m1, .ref c1, .ref d1, .int idl, .int idf, .int idt, .int a, .int fp, .int mb, .int ra, .int cl]))] := hD
  refine lv_aload_n hx hb dX8_setFront_5 rfl (lv_at hl 0 rfl) ?_
  refine lv_iload_n hx hb dX8_setFront_6 rfl (lv_at hl 2 rfl) ?_
  refine va_put (D := D) (ci := 8) (v := .int b) (ty := .int) (C := RX8) (T := TX8) (N := 14) hx hb htb itX8 tyX8 tyX8_ok nmX8 hown hK hP hD hS 0 rfl rfl 10 (by decide) (htb _ k_358) (fun _ h9 => h9) rfl (tyX8_ok 10 (by decide)) rfl rfl (Nat.le_of_ble_eq_true rfl) dX8_setFront_7 (fun H locs hP hD hS => ?_)
  have hP : va_P D vwCl [(h0, .inr (8, [.ref tw, .ref lw, .ref st, .ref m1, .ref c1, .ref d1, .int idl, .int idf, .int idt, .int a, .int b, .int mb, .int ra, .int cl]))] H := hP
  have hD : va_D A [(h0, .inr (8, [.ref tw, .ref lw, .ref st, .ref m1, .ref c1, .ref d1, .int idl, .int idf, .int idt, .int a, .int b, .int mb, .int ra, .int cl]))] := hD
  exact ret _ _ _ _ () dX8_setFront_10 trivial (hP.sub [0] rfl) (hD.sub [0] (by decide) rfl) hS

set_option maxRecDepth 100000 in
set_option maxHeartbeats 4000000 in
theorem c_X8_goThroughDay (l : Launch) (D : va_G) (cI cB : ClassId) (sz : Nat) (h0 : Nat) (tw : Nat) (lw : Nat) (st : Nat) (m1 : Nat) (c1 : Nat) (d1 : Nat) (idl : Int32) (idf : Int32) (idt : Int32) (fc : Int32) (fp : Int32) (l1 : Nat) (l2 : Nat) (l3 : Nat) (l4 : Nat) (l5 : Nat) (l6 : Nat) (l7 : Nat) (lz : Int32) (lc : Int32) (t1 : Nat) (t2 : Nat) (t3 : Nat) (t4 : Nat) (u1 : Nat) (f1 : Nat) (g1 : Nat) (i0 : Nat) (k : Nat) (fl : Nat → Int32) (ff : Nat → Int32) (fg : Nat → Int32) (fc1 : Nat → Int32) (hi0 : i0 < 9999) (hk : k < 65536) (hg : ∀ j, j < 10 → fg j = -2) : MI (S := ((Nat) × (Nat → Int32) × (Nat → Int32))) l D cI cB yX8_goThroughDay cX8_goThroughDay 6 .int (rm 2 43) [.ref h0] [(h0, .inr (8, [.ref tw, .ref lw, .ref st, .ref m1, .ref c1, .ref d1, .int idl, .int idf, .int idt, .int fc, .int fp, .int 0, .int 0, .int (nI i0)])), (tw, .inr (7, [.int 0, .int 0, .int 0, .ref t1, .ref t2, .ref t3, .ref t4])), (lw, .inr (1, [.ref l1, .ref l2, .ref l3, .ref l4, .ref l5, .ref l6, .ref l7, .int lz, .int lc])), (l6, .inl (cI, 8, .inl fl)), (st, .inr (4, [.ref u1, .ref f1, .ref g1, .int 0, .int (nI i0), .int (nI k)])), (f1, .inl (cI, 10, .inl ff)), (g1, .inl (cI, 10, .inl fg)), (c1, .inl (cI, 10, .inl fc1))] sz (fun r u => r = 0 ∧ u.1 < 65536) (fun u : ((Nat) × (Nat → Int32) × (Nat → Int32)) => [(h0, .inr (8, [.ref tw, .ref lw, .ref st, .ref m1, .ref c1, .ref d1, .int idl, .int idf, .int idt, .int fc, .int fp, .int 0, .int 0, .int (nI (i0 + 1))])), (tw, .inr (7, [.int 0, .int 0, .int 0, .ref t1, .ref t2, .ref t3, .ref t4])), (lw, .inr (1, [.ref l1, .ref l2, .ref l3, .ref l4, .ref l5, .ref l6, .ref l7, .int lz, .int lc])), (l6, .inl (cI, 8, .inl u.2.1)), (st, .inr (4, [.ref u1, .ref f1, .ref g1, .int 0, .int (nI (i0 + 1)), .int (nI u.1)])), (f1, .inl (cI, 10, .inl ff)), (g1, .inl (cI, 10, .inl fg)), (c1, .inl (cI, 10, .inl u.2.2))]) := by
  refine MI.of (by decide) (Nat.le_of_ble_eq_true rfl) ?_
  intro p e s m below meth c Q ls A X hin hN hP hK hD hA hl ret
  have hS : va_S A s.heap s.heap [] := va_S.rf
  obtain ⟨hx, hb, hml, hown, htb⟩ := id X
  have hl : lv_has ls 6 [(0, .ref h0)] := hl
  refine lv_aload_n hx hb dX8_goThroughDay_0 rfl (lv_at hl 0 rfl) ?_
  refine va_get (D := D) (ci := 8) (v := .ref st) (C := RX8) (T := TX8) (N := 14) hx hb htb itX8 hown hK hP 0 rfl rfl 2 (by decide) (htb _ k_347) (fun _ h9 => h9) rfl dX8_goThroughDay_1 ?_
  refine va_getN (D := D) (ci := 4) (v := .int (nI i0)) (C := RX4) (T := TX4) (N := 6) hx hb htb itX4 hown hK hP 4 rfl rfl 4 (by decide) (va_Nw.use rfl (hN _ n_200 rfl)) (fun _ h9 => h9) rfl dX8_goThroughDay_4 ?_
  refine lv_sipush (v := 9999) hx hb dX8_goThroughDay_7 (by decide) ?_
  refine lv_icmp_lt (tgt := 15) hx hb dX8_goThroughDay_10 (by decide) (fun _ => ?_) (fun c_10 => absurd (nI_lt hi0 (by decide)) c_10)
  refine lv_aload_n hx hb dX8_goThroughDay_15 rfl (lv_at hl 0 rfl) ?_
  refine va_get (D := D) (ci := 8) (v := .ref st) (C := RX8) (T := TX8) (N := 14) hx hb htb itX8 hown hK hP 0 rfl rfl 2 (by decide) (htb _ k_347) (fun _ h9 => h9) rfl dX8_goThroughDay_16 ?_
  refine lv_sipush (v := 25173) hx hb dX8_goThroughDay_19 (by decide) ?_
  refine lv_aload_n hx hb dX8_goThroughDay_22 rfl (lv_at hl 0 rfl) ?_
  refine va_get (D := D) (ci := 8) (v := .ref st) (C := RX8) (T := TX8) (N := 14) hx hb htb itX8 hown hK hP 0 rfl rfl 2 (by decide) (htb _ k_347) (fun _ h9 => h9) rfl dX8_goThroughDay_23 ?_
  refine va_getN (D := D) (ci := 4) (v := .int (nI k)) (C := RX4) (T := TX4) (N := 6) hx hb htb itX4 hown hK hP 4 rfl rfl 5 (by decide) (va_Nw.use rfl (hN _ n_203 rfl)) (fun _ h9 => h9) rfl dX8_goThroughDay_26 ?_
  refine lv_imul hx hb dX8_goThroughDay_29 ?_
  refine lv_sipush (v := 13849) hx hb dX8_goThroughDay_30 (by decide) ?_
  refine lv_iadd hx hb dX8_goThroughDay_33 ?_
  refine lv_ldc (v := 65536) hx hb hown (htb _ k_792) dX8_goThroughDay_34 ?_
  refine lv_irem hx hb dX8_goThroughDay_36 (by decide) ?_
  obtain ⟨k2, hk2, ek2⟩ := drw hk
  refine tv (z := (nI k2)) (ek2) ?_
  refine va_putN (D := D) (ci := 4) (v := .int (nI k2)) (ty := .int) (C := RX4) (T := TX4) (N := 6) hx hb htb itX4 tyX4 tyX4_ok nmX4 hown hK hP hD hS 4 rfl rfl 5 (by decide) (va_Nw.use rfl (hN _ n_203 rfl)) (fun _ h9 => h9) rfl (tyX4_ok 5 (by decide)) rfl rfl (Nat.le_of_ble_eq_true rfl) dX8_goThroughDay_37 (fun H locs hP hD hS => ?_)
  have hP : va_P D vwCl [(h0, .inr (8, [.ref tw, .ref lw, .ref st, .ref m1, .ref c1, .ref d1, .int idl, .int idf, .int idt, .int fc, .int fp, .int 0, .int 0, .int (nI i0)])), (tw, .inr (7, [.int 0, .int 0, .int 0, .ref t1, .ref t2, .ref t3, .ref t4])), (lw, .inr (1, [.ref l1, .ref l2, .ref l3, .ref l4, .ref l5, .ref l6, .ref l7, .int lz, .int lc])), (l6, .inl (cI, 8, .inl fl)), (st, .inr (4, [.ref u1, .ref f1, .ref g1, .int 0, .int (nI i0), .int (nI k2)])), (f1, .inl (cI, 10, .inl ff)), (g1, .inl (cI, 10, .inl fg)), (c1, .inl (cI, 10, .inl fc1))] H := hP
  have hD : va_D A [(h0, .inr (8, [.ref tw, .ref lw, .ref st, .ref m1, .ref c1, .ref d1, .int idl, .int idf, .int idt, .int fc, .int fp, .int 0, .int 0, .int (nI i0)])), (tw, .inr (7, [.int 0, .int 0, .int 0, .ref t1, .ref t2, .ref t3, .ref t4])), (lw, .inr (1, [.ref l1, .ref l2, .ref l3, .ref l4, .ref l5, .ref l6, .ref l7, .int lz, .int lc])), (l6, .inl (cI, 8, .inl fl)), (st, .inr (4, [.ref u1, .ref f1, .ref g1, .int 0, .int (nI i0), .int (nI k2)])), (f1, .inl (cI, 10, .inl ff)), (g1, .inl (cI, 10, .inl fg)), (c1, .inl (cI, 10, .inl fc1))] := hD
  refine lv_aload_n hx hb dX8_goThroughDay_40 rfl (lv_at hl 0 rfl) ?_
  refine va_get (D := D) (ci := 8) (v := .ref st) (C := RX8) (T := TX8) (N := 14) hx hb htb itX8 hown hK hP 0 rfl rfl 2 (by decide) (htb _ k_347) (fun _ h9 => h9) rfl dX8_goThroughDay_41 ?_
  refine va_getN (D := D) (ci := 4) (v := .int (nI k2)) (C := RX4) (T := TX4) (N := 6) hx hb htb itX4 hown hK hP 4 rfl rfl 5 (by decide) (va_Nw.use rfl (hN _ n_203 rfl)) (fun _ h9 => h9) rfl dX8_goThroughDay_44 ?_
  refine lv_bipush (v := 10) hx hb dX8_goThroughDay_47 (by decide) ?_
  refine lv_irem hx hb dX8_goThroughDay_49 (by decide) ?_
  obtain ⟨k3, hk3, ek3⟩ := r10 hk2
  refine tv (z := (nI k3)) (ek3) ?_
  refine lv_aload_n hx hb dX8_goThroughDay_50 rfl (lv_at hl 0 rfl) ?_
  refine va_get (D := D) (ci := 8) (v := .ref tw) (C := RX8) (T := TX8) (N := 14) hx hb htb itX8 hown hK hP 0 rfl rfl 0 (by decide) (htb _ k_345) (fun _ h9 => h9) rfl dX8_goThroughDay_51 ?_
  refine va_getN (D := D) (ci := 7) (v := .int 0) (C := RX7) (T := TX7) (N := 7) hx hb htb itX7 hown hK hP 1 rfl rfl 2 (by decide) (va_Nw.use rfl (hN _ n_150 rfl)) (fun _ h9 => h9) rfl dX8_goThroughDay_54 ?_
  refine lv_icmp_ge (tgt := 64) hx hb dX8_goThroughDay_57 (by decide) (fun _ => ?_) (fun c_57 => absurd (nI_pos' (by omega)) c_57)
  refine lv_iconst (v := 0) hx hb dX8_goThroughDay_64 (by decide) ?_
  refine lv_istore_n (lv' := [(1, .int 0), (0, .ref h0)]) hx hb dX8_goThroughDay_65 rfl hl (by decide) rfl (fun ls hl => ?_)
  refine lv_aload_n hx hb dX8_goThroughDay_66 rfl (lv_at hl 1 rfl) ?_
  refine va_get (D := D) (ci := 8) (v := .ref st) (C := RX8) (T := TX8) (N := 14) hx hb htb itX8 hown hK hP 0 rfl rfl 2 (by decide) (htb _ k_347) (fun _ h9 => h9) rfl dX8_goThroughDay_67 ?_
  refine cVR (As := []) (rest := []) (n := 0) (ci := 4) (q0 := 0) X hN hK hP (c_X4_awayBits l D cI cB st u1 f1 g1 0 (nI i0) (nI k2) ff fg hg (nI_pos' (by omega))) (gV k_793 k_794 k_795 k_95 k_796) (by decide +kernel) ⟨Nat.le_of_ble_eq_true rfl, Nat.le_of_ble_eq_true rfl⟩ ⟨rfl, rfl⟩ [4, 5, 6] rfl rfl rfl rfl rfl rfl hl.1 (Nat.le_of_ble_eq_true rfl) dX8_goThroughDay_70 ⟨Nat.le_of_ble_eq_true rfl, Nat.le_of_ble_eq_true rfl⟩ (fun r_1 hr_1 => ?_)
  subst hr_1
  refine lv_istore_n (lv' := [(2, .int 0), (1, .int 0), (0, .ref h0)]) hx hb dX8_goThroughDay_73 rfl hl (by decide) rfl (fun ls hl => ?_)
  refine lv_aload_n hx hb dX8_goThroughDay_74 rfl (lv_at hl 2 rfl) ?_
  refine va_get (D := D) (ci := 8) (v := .ref lw) (C := RX8) (T := TX8) (N := 14) hx hb htb itX8 hown hK hP 0 rfl rfl 1 (by decide) (htb _ k_346) (fun _ h9 => h9) rfl dX8_goThroughDay_75 ?_
  refine lv_aload_n hx hb dX8_goThroughDay_78 rfl (lv_at hl 2 rfl) ?_
  refine va_get (D := D) (ci := 8) (v := .ref st) (C := RX8) (T := TX8) (N := 14) hx hb htb itX8 hown hK hP 0 rfl rfl 2 (by decide) (htb _ k_347) (fun _ h9 => h9) rfl dX8_goThroughDay_79 ?_
  refine va_getN (D := D) (ci := 4) (v := .int (nI i0)) (C := RX4) (T := TX4) (N := 6) hx hb htb itX4 hown hK hP 4 rfl rfl 4 (by decide) (va_Nw.use rfl (hN _ n_200 rfl)) (fun _ h9 => h9) rfl dX8_goThroughDay_82 ?_
  refine lv_iload_n hx hb dX8_goThroughDay_85 rfl (lv_at hl 1 rfl) ?_
  refine lv_if_eq (tgt := 93) hx hb dX8_goThroughDay_86 (by decide) (fun _ => ?_) (fun c_86 => absurd (by decide) c_86)
  refine lv_iconst (v := 0) hx hb dX8_goThroughDay_93 (by decide) ?_
  refine lv_iload_n hx hb dX8_goThroughDay_94 rfl (lv_at hl 0 rfl) ?_
  refine cSR (As := [.int 0]) (rest := [.int 0, .int (nI i0), .ref lw]) (n := 1) X hN hK hP (c_J6_bitCount_0f7a4 l D cI cB 0) k_801 k_755 k_111 k_756 (by decide +kernel) ⟨Nat.le_of_ble_eq_true rfl, Nat.le_of_ble_eq_true rfl⟩ ⟨rfl, rfl⟩ [] rfl rfl rfl hl.1 (Nat.le_of_ble_eq_true rfl) dX8_goThroughDay_95 ⟨Nat.le_of_ble_eq_true rfl, Nat.le_of_ble_eq_true rfl⟩ (fun r_2 hr_2 => ?_)
  refine cVV (As := [.int (nI i0), .int 0, .int r_2]) (rest := []) (n := 3) (ci := 1) (q0 := 0) (wr := [(h0, .inr (8, [.ref tw, .ref lw, .ref st, .ref m1, .ref c1, .ref d1, .int idl, .int idf, .int idt, .int fc, .int fp, .int 0, .int 0, .int (nI i0)])), (tw, .inr (7, [.int 0, .int 0, .int 0, .ref t1, .ref t2, .ref t3, .ref t4])), (st, .inr (4, [.ref u1, .ref f1, .ref g1, .int 0, .int (nI i0), .int (nI k2)])), (f1, .inl (cI, 10, .inl ff)), (g1, .inl (cI, 10, .inl fg)), (c1, .inl (cI, 10, .inl fc1))]) X hN hK hP hD hS hA (c_X1_setDay l D cI cB _ lw l1 l2 l3 l4 l5 l6 l7 lz lc (nI i0) 0 r_2 fl) (gV k_802 k_803 k_804 k_97 k_805) (by decide +kernel) ⟨Nat.le_of_ble_eq_true rfl, Nat.le_of_ble_eq_true rfl⟩ ⟨rfl, rfl⟩ [2, 3] [0, 1, 4, 5, 6, 7] rfl rfl (by decide) (by decide) rfl rfl rfl rfl rfl hl.1 (Nat.le_of_ble_eq_true rfl) dX8_goThroughDay_98 ⟨Nat.le_of_ble_eq_true rfl, Nat.le_of_ble_eq_true rfl⟩ (fun u H locs hw_5 hP hD hS => ?_)
  obtain ⟨lo_4, rfl⟩ : ∃ z, z = u := ⟨_, rfl⟩
  try dsimp only at hw_5
  have hP : va_P D vwCl [(h0, .inr (8, [.ref tw, .ref lw, .ref st, .ref m1, .ref c1, .ref d1, .int idl, .int idf, .int idt, .int fc, .int fp, .int 0, .int 0, .int (nI i0)])), (tw, .inr (7, [.int 0, .int 0, .int 0, .ref t1, .ref t2, .ref t3, .ref t4])), (st, .inr (4, [.ref u1, .ref f1, .ref g1, .int 0, .int (nI i0), .int (nI k2)])), (f1, .inl (cI, 10, .inl ff)), (g1, .inl (cI, 10, .inl fg)), (c1, .inl (cI, 10, .inl fc1)), (lw, .inr (1, [.ref l1, .ref l2, .ref l3, .ref l4, .ref l5, .ref l6, .ref l7, .int lz, .int lc])), (l6, .inl (cI, 8, .inl lo_4))] H := hP
  have hD : va_D A [(h0, .inr (8, [.ref tw, .ref lw, .ref st, .ref m1, .ref c1, .ref d1, .int idl, .int idf, .int idt, .int fc, .int fp, .int 0, .int 0, .int (nI i0)])), (tw, .inr (7, [.int 0, .int 0, .int 0, .ref t1, .ref t2, .ref t3, .ref t4])), (st, .inr (4, [.ref u1, .ref f1, .ref g1, .int 0, .int (nI i0), .int (nI k2)])), (f1, .inl (cI, 10, .inl ff)), (g1, .inl (cI, 10, .inl fg)), (c1, .inl (cI, 10, .inl fc1)), (lw, .inr (1, [.ref l1, .ref l2, .ref l3, .ref l4, .ref l5, .ref l6, .ref l7, .int lz, .int lc])), (l6, .inl (cI, 8, .inl lo_4))] := hD
  refine lv_aload_n hx hb dX8_goThroughDay_101 rfl (lv_at hl 2 rfl) ?_
  refine va_get (D := D) (ci := 8) (v := .ref tw) (C := RX8) (T := TX8) (N := 14) hx hb htb itX8 hown hK hP 0 rfl rfl 0 (by decide) (htb _ k_345) (fun _ h9 => h9) rfl dX8_goThroughDay_102 ?_
  refine va_getN (D := D) (ci := 7) (v := .int 0) (C := RX7) (T := TX7) (N := 7) hx hb htb itX7 hown hK hP 1 rfl rfl 0 (by decide) (va_Nw.use rfl (hN _ n_145 rfl)) (fun _ h9 => h9) rfl dX8_goThroughDay_105 ?_
  refine lv_iload_n hx hb dX8_goThroughDay_108 rfl (lv_at hl 0 rfl) ?_
  refine lv_iconst (v := (-1)) hx hb dX8_goThroughDay_109 (by decide) ?_
  refine lv_ixor hx hb dX8_goThroughDay_110 ?_
  refine tv (z := (-1)) (by decide) ?_
  refine lv_iand hx hb dX8_goThroughDay_111 ?_
  refine tv (z := 0) (by decide) ?_
  refine lv_istore_n (lv' := [(3, .int 0), (2, .int 0), (1, .int 0), (0, .ref h0)]) hx hb dX8_goThroughDay_112 rfl hl (by decide) rfl (fun ls hl => ?_)
  refine lv_iconst (v := 0) hx hb dX8_goThroughDay_113 (by decide) ?_
  refine lv_istore (lv' := [(4, .int 0), (3, .int 0), (2, .int 0), (1, .int 0), (0, .ref h0)]) hx hb dX8_goThroughDay_114 hl (by decide) rfl (fun ls hl => ?_)
  have loop_116 : ∀ (n i : Nat) (fa : Nat → Int32), n + i = 10 → ∀ (H : Heap) (locs : List Loc), va_P D vwCl [(h0, .inr (8, [.ref tw, .ref lw, .ref st, .ref m1, .ref c1, .ref d1, .int idl, .int idf, .int idt, .int fc, .int fp, .int 0, .int 0, .int (nI i0)])), (tw, .inr (7, [.int 0, .int 0, .int 0, .ref t1, .ref t2, .ref t3, .ref t4])), (st, .inr (4, [.ref u1, .ref f1, .ref g1, .int 0, .int (nI i0), .int (nI k2)])), (f1, .inl (cI, 10, .inl ff)), (g1, .inl (cI, 10, .inl fg)), (c1, .inl (cI, 10, .inl fa)), (lw, .inr (1, [.ref l1, .ref l2, .ref l3, .ref l4, .ref l5, .ref l6, .ref l7, .int lz, .int lc])), (l6, .inl (cI, 8, .inl lo_4))] H → va_D A [(h0, .inr (8, [.ref tw, .ref lw, .ref st, .ref m1, .ref c1, .ref d1, .int idl, .int idf, .int idt, .int fc, .int fp, .int 0, .int 0, .int (nI i0)])), (tw, .inr (7, [.int 0, .int 0, .int 0, .ref t1, .ref t2, .ref t3, .ref t4])), (st, .inr (4, [.ref u1, .ref f1, .ref g1, .int 0, .int (nI i0), .int (nI k2)])), (f1, .inl (cI, 10, .inl ff)), (g1, .inl (cI, 10, .inl fg)), (c1, .inl (cI, 10, .inl fa)), (lw, .inr (1, [.ref l1, .ref l2, .ref l3, .ref l4, .ref l5, .ref l6, .ref l7, .int lz, .int lc])), (l6, .inl (cI, 8, .inl lo_4))] → va_S A s.heap H locs → ∀ (ls : Array Slot), lv_has ls 6 [(0, .ref h0), (1, .int 0), (2, .int 0), (3, .int 0), (4, .int (nI i))] → W p l e (rm 2 43) s m ([.ref h0] : List Value).toArray below meth c H locs 0 0 Q (F0 m 116 ls []) := by
    intro n
    induction n with
    | zero =>
      intro i fa hni H locs hP hD hS ls hl
      have hi : i = 10 := by omega
      subst hi
      refine lv_iload hx hb dX8_goThroughDay_116 (lv_at hl 4 rfl) ?_
      refine lv_bipush (v := 10) hx hb dX8_goThroughDay_118 (by decide) ?_
      refine lv_icmp_ge (tgt := 155) hx hb dX8_goThroughDay_120 (by decide) (fun _ => ?_) (fun c_120 => absurd (by decide) c_120)
      refine lv_iconst (v := 0) hx hb dX8_goThroughDay_155 (by decide) ?_
      refine lv_istore (lv' := [(4, .int 0), (0, .ref h0), (1, .int 0), (2, .int 0), (3, .int 0)]) hx hb dX8_goThroughDay_156 hl (by decide) rfl (fun ls hl => ?_)
      refine lv_iconst (v := 0) hx hb dX8_goThroughDay_158 (by decide) ?_
      refine lv_istore (lv' := [(5, .int 0), (4, .int 0), (0, .ref h0), (1, .int 0), (2, .int 0), (3, .int 0)]) hx hb dX8_goThroughDay_159 hl (by decide) rfl (fun ls hl => ?_)
      have loop_161 : ∀ (n i : Nat), n + i = 12 → ∀ (H : Heap) (locs : List Loc), va_P D vwCl [(h0, .inr (8, [.ref tw, .ref lw, .ref st, .ref m1, .ref c1, .ref d1, .int idl, .int idf, .int idt, .int fc, .int fp, .int 0, .int 0, .int (nI i0)])), (tw, .inr (7, [.int 0, .int 0, .int 0, .ref t1, .ref t2, .ref t3, .ref t4])), (st, .inr (4, [.ref u1, .ref f1, .ref g1, .int 0, .int (nI i0), .int (nI k2)])), (f1, .inl (cI, 10, .inl ff)), (g1, .inl (cI, 10, .inl fg)), (c1, .inl (cI, 10, .inl fa)), (lw, .inr (1, [.ref l1, .ref l2, .ref l3, .ref l4, .ref l5, .ref l6, .ref l7, .int lz, .int lc])), (l6, .inl (cI, 8, .inl lo_4))] H → va_D A [(h0, .inr (8, [.ref tw, .ref lw, .ref st, .ref m1, .ref c1, .ref d1, .int idl, .int idf, .int idt, .int fc, .int fp, .int 0, .int 0, .int (nI i0)])), (tw, .inr (7, [.int 0, .int 0, .int 0, .ref t1, .ref t2, .ref t3, .ref t4])), (st, .inr (4, [.ref u1, .ref f1, .ref g1, .int 0, .int (nI i0), .int (nI k2)])), (f1, .inl (cI, 10, .inl ff)), (g1, .inl (cI, 10, .inl fg)), (c1, .inl (cI, 10, .inl fa)), (lw, .inr (1, [.ref l1, .ref l2, .ref l3, .ref l4, .ref l5, .ref l6, .ref l7, .int lz, .int lc])), (l6, .inl (cI, 8, .inl lo_4))] → va_S A s.heap H locs → ∀ (ls : Array Slot), lv_has ls 6 [(0, .ref h0), (1, .int 0), (2, .int 0), (3, .int 0), (4, .int 0), (5, .int (nI i))] → W p l e (rm 2 43) s m ([.ref h0] : List Value).toArray below meth c H locs 0 0 Q (F0 m 161 ls []) := by
        intro n
        induction n with
        | zero =>
          intro i hni H locs hP hD hS ls hl
          have hi : i = 12 := by omega
          subst hi
          refine lv_iload hx hb dX8_goThroughDay_161 (lv_at hl 5 rfl) ?_
          refine lv_bipush (v := 12) hx hb dX8_goThroughDay_163 (by decide) ?_
          refine lv_icmp_ge (tgt := 204) hx hb dX8_goThroughDay_165 (by decide) (fun _ => ?_) (fun c_165 => absurd (by decide) c_165)
          refine lv_aload_n hx hb dX8_goThroughDay_204 rfl (lv_at hl 0 rfl) ?_
          refine lv_dup hx hb dX8_goThroughDay_205 rfl ?_
          refine va_get (D := D) (ci := 8) (v := .int 0) (C := RX8) (T := TX8) (N := 14) hx hb htb itX8 hown hK hP 0 rfl rfl 12 (by decide) (htb _ k_360) (fun _ h9 => h9) rfl dX8_goThroughDay_206 ?_
          refine lv_iload_n hx hb dX8_goThroughDay_209 rfl (lv_at hl 1 rfl) ?_
          refine lv_if_eq (tgt := 217) hx hb dX8_goThroughDay_210 (by decide) (fun _ => ?_) (fun c_210 => absurd (by decide) c_210)
          refine lv_iconst (v := 0) hx hb dX8_goThroughDay_217 (by decide) ?_
          refine lv_iadd hx hb dX8_goThroughDay_218 ?_
          refine tv (z := 0) (by decide) ?_
          refine va_put (D := D) (ci := 8) (v := .int 0) (ty := .int) (C := RX8) (T := TX8) (N := 14) hx hb htb itX8 tyX8 tyX8_ok nmX8 hown hK hP hD hS 0 rfl rfl 12 (by decide) (htb _ k_360) (fun _ h9 => h9) rfl (tyX8_ok 12 (by decide)) rfl rfl (Nat.le_of_ble_eq_true rfl) dX8_goThroughDay_219 (fun H locs hP hD hS => ?_)
          have hP : va_P D vwCl [(h0, .inr (8, [.ref tw, .ref lw, .ref st, .ref m1, .ref c1, .ref d1, .int idl, .int idf, .int idt, .int fc, .int fp, .int 0, .int 0, .int (nI i0)])), (tw, .inr (7, [.int 0, .int 0, .int 0, .ref t1, .ref t2, .ref t3, .ref t4])), (st, .inr (4, [.ref u1, .ref f1, .ref g1, .int 0, .int (nI i0), .int (nI k2)])), (f1, .inl (cI, 10, .inl ff)), (g1, .inl (cI, 10, .inl fg)), (c1, .inl (cI, 10, .inl fa)), (lw, .inr (1, [.ref l1, .ref l2, .ref l3, .ref l4, .ref l5, .ref l6, .ref l7, .int lz, .int lc])), (l6, .inl (cI, 8, .inl lo_4))] H := hP
          have hD : va_D A [(h0, .inr (8, [.ref tw, .ref lw, .ref st, .ref m1, .ref c1, .ref d1, .int idl, .int idf, .int idt, .int fc, .int fp, .int 0, .int 0, .int (nI i0)])), (tw, .inr (7, [.int 0, .int 0, .int 0, .ref t1, .ref t2, .ref t3, .ref t4])), (st, .inr (4, [.ref u1, .ref f1, .ref g1, .int 0, .int (nI i0), .int (nI k2)])), (f1, .inl (cI, 10, .inl ff)), (g1, .inl (cI, 10, .inl fg)), (c1, .inl (cI, 10, .inl fa)), (lw, .inr (1, [.ref l1, .ref l2, .ref l3, .ref l4, .ref l5, .ref l6, .ref l7, .int lz, .int lc])), (l6, .inl (cI, 8, .inl lo_4))] := hD
          refine lv_aload_n hx hb dX8_goThroughDay_222 rfl (lv_at hl 0 rfl) ?_
          refine lv_dup hx hb dX8_goThroughDay_223 rfl ?_
          refine va_get (D := D) (ci := 8) (v := .int (nI i0)) (C := RX8) (T := TX8) (N := 14) hx hb htb itX8 hown hK hP 0 rfl rfl 13 (by decide) (htb _ k_362) (fun _ h9 => h9) rfl dX8_goThroughDay_224 ?_
          refine lv_iload hx hb dX8_goThroughDay_227 (lv_at hl 4 rfl) ?_
          refine lv_if_ne (tgt := 236) hx hb dX8_goThroughDay_229 (by decide) (fun c_229 => absurd (by decide) c_229) (fun _ => ?_)
          refine lv_iconst (v := 1) hx hb dX8_goThroughDay_232 (by decide) ?_
          refine lv_goto (tgt := 237) hx hb dX8_goThroughDay_233 (by decide) ?_
          refine lv_iadd hx hb dX8_goThroughDay_237 ?_
          refine tv (z := (nI (i0 + 1))) (nI_1 i0) ?_
          refine va_put (D := D) (ci := 8) (v := .int (nI (i0 + 1))) (ty := .int) (C := RX8) (T := TX8) (N := 14) hx hb htb itX8 tyX8 tyX8_ok nmX8 hown hK hP hD hS 0 rfl rfl 13 (by decide) (htb _ k_362) (fun _ h9 => h9) rfl (tyX8_ok 13 (by decide)) rfl rfl (Nat.le_of_ble_eq_true rfl) dX8_goThroughDay_238 (fun H locs hP hD hS => ?_)
          have hP : va_P D vwCl [(h0, .inr (8, [.ref tw, .ref lw, .ref st, .ref m1, .ref c1, .ref d1, .int idl, .int idf, .int idt, .int fc, .int fp, .int 0, .int 0, .int (nI (i0 + 1))])), (tw, .inr (7, [.int 0, .int 0, .int 0, .ref t1, .ref t2, .ref t3, .ref t4])), (st, .inr (4, [.ref u1, .ref f1, .ref g1, .int 0, .int (nI i0), .int (nI k2)])), (f1, .inl (cI, 10, .inl ff)), (g1, .inl (cI, 10, .inl fg)), (c1, .inl (cI, 10, .inl fa)), (lw, .inr (1, [.ref l1, .ref l2, .ref l3, .ref l4, .ref l5, .ref l6, .ref l7, .int lz, .int lc])), (l6, .inl (cI, 8, .inl lo_4))] H := hP
          have hD : va_D A [(h0, .inr (8, [.ref tw, .ref lw, .ref st, .ref m1, .ref c1, .ref d1, .int idl, .int idf, .int idt, .int fc, .int fp, .int 0, .int 0, .int (nI (i0 + 1))])), (tw, .inr (7, [.int 0, .int 0, .int 0, .ref t1, .ref t2, .ref t3, .ref t4])), (st, .inr (4, [.ref u1, .ref f1, .ref g1, .int 0, .int (nI i0), .int (nI k2)])), (f1, .inl (cI, 10, .inl ff)), (g1, .inl (cI, 10, .inl fg)), (c1, .inl (cI, 10, .inl fa)), (lw, .inr (1, [.ref l1, .ref l2, .ref l3, .ref l4, .ref l5, .ref l6, .ref l7, .int lz, .int lc])), (l6, .inl (cI, 8, .inl lo_4))] := hD
          refine lv_aload_n hx hb dX8_goThroughDay_241 rfl (lv_at hl 0 rfl) ?_
          refine va_get (D := D) (ci := 8) (v := .ref st) (C := RX8) (T := TX8) (N := 14) hx hb htb itX8 hown hK hP 0 rfl rfl 2 (by decide) (htb _ k_347) (fun _ h9 => h9) rfl dX8_goThroughDay_242 ?_
          refine lv_dup hx hb dX8_goThroughDay_245 rfl ?_
          refine va_getN (D := D) (ci := 4) (v := .int (nI i0)) (C := RX4) (T := TX4) (N := 6) hx hb htb itX4 hown hK hP 2 rfl rfl 4 (by decide) (va_Nw.use rfl (hN _ n_200 rfl)) (fun _ h9 => h9) rfl dX8_goThroughDay_246 ?_
          refine lv_iconst (v := 1) hx hb dX8_goThroughDay_249 (by decide) ?_
          refine lv_iadd hx hb dX8_goThroughDay_250 ?_
          refine tv (z := (nI (i0 + 1))) (nI_1 i0) ?_
          refine va_putN (D := D) (ci := 4) (v := .int (nI (i0 + 1))) (ty := .int) (C := RX4) (T := TX4) (N := 6) hx hb htb itX4 tyX4 tyX4_ok nmX4 hown hK hP hD hS 2 rfl rfl 4 (by decide) (va_Nw.use rfl (hN _ n_200 rfl)) (fun _ h9 => h9) rfl (tyX4_ok 4 (by decide)) rfl rfl (Nat.le_of_ble_eq_true rfl) dX8_goThroughDay_251 (fun H locs hP hD hS => ?_)
          have hP : va_P D vwCl [(h0, .inr (8, [.ref tw, .ref lw, .ref st, .ref m1, .ref c1, .ref d1, .int idl, .int idf, .int idt, .int fc, .int fp, .int 0, .int 0, .int (nI (i0 + 1))])), (tw, .inr (7, [.int 0, .int 0, .int 0, .ref t1, .ref t2, .ref t3, .ref t4])), (st, .inr (4, [.ref u1, .ref f1, .ref g1, .int 0, .int (nI (i0 + 1)), .int (nI k2)])), (f1, .inl (cI, 10, .inl ff)), (g1, .inl (cI, 10, .inl fg)), (c1, .inl (cI, 10, .inl fa)), (lw, .inr (1, [.ref l1, .ref l2, .ref l3, .ref l4, .ref l5, .ref l6, .ref l7, .int lz, .int lc])), (l6, .inl (cI, 8, .inl lo_4))] H := hP
          have hD : va_D A [(h0, .inr (8, [.ref tw, .ref lw, .ref st, .ref m1, .ref c1, .ref d1, .int idl, .int idf, .int idt, .int fc, .int fp, .int 0, .int 0, .int (nI (i0 + 1))])), (tw, .inr (7, [.int 0, .int 0, .int 0, .ref t1, .ref t2, .ref t3, .ref t4])), (st, .inr (4, [.ref u1, .ref f1, .ref g1, .int 0, .int (nI (i0 + 1)), .int (nI k2)])), (f1, .inl (cI, 10, .inl ff)), (g1, .inl (cI, 10, .inl fg)), (c1, .inl (cI, 10, .inl fa)), (lw, .inr (1, [.ref l1, .ref l2, .ref l3, .ref l4, .ref l5, .ref l6, .ref l7, .int lz, .int lc])), (l6, .inl (cI, 8, .inl lo_4))] := hD
          refine lv_iload hx hb dX8_goThroughDay_254 (lv_at hl 4 rfl) ?_
          exact ret _ _ _ _ 0 (k2, lo_4, fa) dX8_goThroughDay_256 rfl (⟨rfl, hk2⟩) (hP.sub [0, 1, 6, 7, 2, 3, 4, 5] rfl) (hD.sub [0, 1, 6, 7, 2, 3, 4, 5] (by decide) rfl) hS
        | succ n ih =>
          intro i hni H locs hP hD hS ls hl
          have hi : i < 12 := by omega
          refine lv_iload hx hb dX8_goThroughDay_161 (lv_at hl 5 rfl) ?_
          refine lv_bipush (v := 12) hx hb dX8_goThroughDay_163 (by decide) ?_
          refine lv_icmp_ge (tgt := 204) hx hb dX8_goThroughDay_165 (by decide) (fun c_165 => absurd c_165 (nI_ge hi (by decide))) (fun _ => ?_)
          refine lv_iload hx hb dX8_goThroughDay_168 (lv_at hl 4 rfl) ?_
          refine lv_aload_n hx hb dX8_goThroughDay_170 rfl (lv_at hl 0 rfl) ?_
          refine va_get (D := D) (ci := 8) (v := .ref tw) (C := RX8) (T := TX8) (N := 14) hx hb htb itX8 hown hK hP 0 rfl rfl 0 (by decide) (htb _ k_345) (fun _ h9 => h9) rfl dX8_goThroughDay_171 ?_
          refine va_getN (D := D) (ci := 7) (v := .int 0) (C := RX7) (T := TX7) (N := 7) hx hb htb itX7 hown hK hP 1 rfl rfl 1 (by decide) (va_Nw.use rfl (hN _ n_148 rfl)) (fun _ h9 => h9) rfl dX8_goThroughDay_174 ?_
          refine lv_iload hx hb dX8_goThroughDay_177 (lv_at hl 5 rfl) ?_
          refine cSNR (As := [.int 0, .int (nI i)]) (rest := [.int 0]) (n := 2) X hN hK hP (c_X9_isIn l D cI cB 0 (nI i)) n_806 k_696 k_92 k_697 (by decide +kernel) ⟨Nat.le_of_ble_eq_true rfl, Nat.le_of_ble_eq_true rfl⟩ ⟨rfl, rfl⟩ [] rfl rfl rfl hl.1 (Nat.le_of_ble_eq_true rfl) dX8_goThroughDay_179 ⟨Nat.le_of_ble_eq_true rfl, Nat.le_of_ble_eq_true rfl⟩ (fun r2 hr2 => ?_)
          refine lv_if_eq (tgt := 194) hx hb dX8_goThroughDay_182 (by decide) (fun _ => ?_) (fun c_182 => absurd (hr2.2 rfl) c_182)
          refine lv_iconst (v := 0) hx hb dX8_goThroughDay_194 (by decide) ?_
          refine lv_iadd hx hb dX8_goThroughDay_195 ?_
          refine tv (z := 0) (by decide) ?_
          refine lv_istore (lv' := [(4, .int 0), (0, .ref h0), (1, .int 0), (2, .int 0), (3, .int 0), (5, .int (nI i))]) hx hb dX8_goThroughDay_196 hl (by decide) rfl (fun ls hl => ?_)
          refine lv_iinc (v := (nI (i + 1))) (lv' := [(5, .int (nI (i + 1))), (4, .int 0), (0, .ref h0), (1, .int 0), (2, .int 0), (3, .int 0)]) hx hb dX8_goThroughDay_198 hl (k := 5) rfl (nI_1 i) (by decide) rfl (fun ls hl => ?_)
          refine lv_goto (tgt := 161) hx hb dX8_goThroughDay_201 (by decide) ?_
          exact ih (i + 1) (by omega) _ _ (hP.sub [0, 1, 2, 3, 4, 5, 6, 7] rfl) (hD.sub [0, 1, 2, 3, 4, 5, 6, 7] (by decide) rfl) hS _ (lv_sub hl [2, 3, 4, 5, 1, 0] rfl)
      exact loop_161 12 0 (by omega) _ _ (hP.sub [0, 1, 2, 3, 4, 5, 6, 7] rfl) (hD.sub [0, 1, 2, 3, 4, 5, 6, 7] (by decide) rfl) hS _ (lv_sub hl [2, 3, 4, 5, 1, 0] rfl)
    | succ n ih =>
      intro i fa hni H locs hP hD hS ls hl
      have hi : i < 10 := by omega
      refine lv_iload hx hb dX8_goThroughDay_116 (lv_at hl 4 rfl) ?_
      refine lv_bipush (v := 10) hx hb dX8_goThroughDay_118 (by decide) ?_
      refine lv_icmp_ge (tgt := 155) hx hb dX8_goThroughDay_120 (by decide) (fun c_120 => absurd c_120 (nI_ge hi (by decide))) (fun _ => ?_)
      refine lv_aload_n hx hb dX8_goThroughDay_123 rfl (lv_at hl 0 rfl) ?_
      refine va_get (D := D) (ci := 8) (v := .ref c1) (C := RX8) (T := TX8) (N := 14) hx hb htb itX8 hown hK hP 0 rfl rfl 4 (by decide) (htb _ k_351) (fun _ h9 => h9) rfl dX8_goThroughDay_124 ?_
      refine lv_iload hx hb dX8_goThroughDay_127 (lv_at hl 4 rfl) ?_
      refine lv_iload_n hx hb dX8_goThroughDay_129 rfl (lv_at hl 3 rfl) ?_
      refine lv_iload hx hb dX8_goThroughDay_130 (lv_at hl 4 rfl) ?_
      refine cSNR (As := [.int 0, .int (nI i)]) (rest := [.int (nI i), .ref c1]) (n := 2) X hN hK hP (c_X9_isIn l D cI cB 0 (nI i)) n_806 k_696 k_92 k_697 (by decide +kernel) ⟨Nat.le_of_ble_eq_true rfl, Nat.le_of_ble_eq_true rfl⟩ ⟨rfl, rfl⟩ [] rfl rfl rfl hl.1 (Nat.le_of_ble_eq_true rfl) dX8_goThroughDay_132 ⟨Nat.le_of_ble_eq_true rfl, Nat.le_of_ble_eq_true rfl⟩ (fun r1 hr1 => ?_)
      refine lv_if_eq (tgt := 147) hx hb dX8_goThroughDay_135 (by decide) (fun _ => ?_) (fun c_135 => absurd (hr1.2 rfl) c_135)
      refine lv_iconst (v := 0) hx hb dX8_goThroughDay_147 (by decide) ?_
      refine va_iast hx hb hK hP hD hS 5 0 rfl rfl (vp_in_nI (by omega) (by decide)) dX8_goThroughDay_148 (fun H locs hP hD hS => ?_)
      obtain ⟨f_6, ef_6⟩ : ∃ g : Nat → Int32, g = upd fa (Int32.toNatClampNeg (nI i)) 0 := ⟨_, rfl⟩
      rw [← ef_6] at hP hD
      have hP : va_P D vwCl [(h0, .inr (8, [.ref tw, .ref lw, .ref st, .ref m1, .ref c1, .ref d1, .int idl, .int idf, .int idt, .int fc, .int fp, .int 0, .int 0, .int (nI i0)])), (tw, .inr (7, [.int 0, .int 0, .int 0, .ref t1, .ref t2, .ref t3, .ref t4])), (st, .inr (4, [.ref u1, .ref f1, .ref g1, .int 0, .int (nI i0), .int (nI k2)])), (f1, .inl (cI, 10, .inl ff)), (g1, .inl (cI, 10, .inl fg)), (c1, .inl (cI, 10, .inl f_6)), (lw, .inr (1, [.ref l1, .ref l2, .ref l3, .ref l4, .ref l5, .ref l6, .ref l7, .int lz, .int lc])), (l6, .inl (cI, 8, .inl lo_4))] H := hP
      have hD : va_D A [(h0, .inr (8, [.ref tw, .ref lw, .ref st, .ref m1, .ref c1, .ref d1, .int idl, .int idf, .int idt, .int fc, .int fp, .int 0, .int 0, .int (nI i0)])), (tw, .inr (7, [.int 0, .int 0, .int 0, .ref t1, .ref t2, .ref t3, .ref t4])), (st, .inr (4, [.ref u1, .ref f1, .ref g1, .int 0, .int (nI i0), .int (nI k2)])), (f1, .inl (cI, 10, .inl ff)), (g1, .inl (cI, 10, .inl fg)), (c1, .inl (cI, 10, .inl f_6)), (lw, .inr (1, [.ref l1, .ref l2, .ref l3, .ref l4, .ref l5, .ref l6, .ref l7, .int lz, .int lc])), (l6, .inl (cI, 8, .inl lo_4))] := hD
      refine lv_iinc (v := (nI (i + 1))) (lv' := [(4, .int (nI (i + 1))), (0, .ref h0), (1, .int 0), (2, .int 0), (3, .int 0)]) hx hb dX8_goThroughDay_149 hl (k := 4) rfl (nI_1 i) (by decide) rfl (fun ls hl => ?_)
      refine lv_goto (tgt := 116) hx hb dX8_goThroughDay_152 (by decide) ?_
      exact ih (i + 1) f_6 (by omega) _ _ (hP.sub [0, 1, 2, 3, 4, 5, 6, 7] rfl) (hD.sub [0, 1, 2, 3, 4, 5, 6, 7] (by decide) rfl) hS _ (lv_sub hl [1, 2, 3, 4, 0] rfl)
  exact loop_116 10 0 fc1 (by omega) _ _ (hP.sub [0, 1, 2, 3, 4, 5, 6, 7] rfl) (hD.sub [0, 1, 2, 3, 4, 5, 6, 7] (by decide) rfl) hS _ (lv_sub hl [4, 3, 2, 1, 0] rfl)

set_option maxRecDepth 100000 in
set_option maxHeartbeats 4000000 in
theorem c_X8_run (l : Launch) (D : va_G) (cI cB : ClassId) (sz : Nat) (h0 : Nat) (tw : Nat) (lw : Nat) (st : Nat) (m1 : Nat) (c1 : Nat) (d1 : Nat) (idl : Int32) (idf : Int32) (idt : Int32) (fc : Int32) (fp : Int32) (l1 : Nat) (l2 : Nat) (l3 : Nat) (l4 : Nat) (l5 : Nat) (l6 : Nat) (l7 : Nat) (lz : Int32) (lc : Int32) (t1 : Nat) (t2 : Nat) (t3 : Nat) (t4 : Nat) (u1 : Nat) (f1 : Nat) (g1 : Nat) (N : Nat) (en : Int32) (k : Nat) (fl : Nat → Int32) (ff : Nat → Int32) (fg : Nat → Int32) (fc1 : Nat → Int32) (hN0 : N ≤ 60) (hk : k < 65536) (hg : ∀ j, j < 10 → fg j = -2) : MI (S := ((Nat) × (Nat) × (Nat → Int32) × (Nat → Int32))) l D cI cB yX8_run cX8_run 4 .int (rm 3 68) [.ref h0, .int (nI N), .int en] [(h0, .inr (8, [.ref tw, .ref lw, .ref st, .ref m1, .ref c1, .ref d1, .int idl, .int idf, .int idt, .int fc, .int fp, .int 0, .int 0, .int (nI 0)])), (tw, .inr (7, [.int 0, .int 0, .int 0, .ref t1, .ref t2, .ref t3, .ref t4])), (lw, .inr (1, [.ref l1, .ref l2, .ref l3, .ref l4, .ref l5, .ref l6, .ref l7, .int lz, .int lc])), (l6, .inl (cI, 8, .inl fl)), (st, .inr (4, [.ref u1, .ref f1, .ref g1, .int 0, .int (nI 0), .int (nI k)])), (f1, .inl (cI, 10, .inl ff)), (g1, .inl (cI, 10, .inl fg)), (c1, .inl (cI, 10, .inl fc1))] sz (fun r u => r = 0 ∧ u.1 ≤ N ∧ (0 < en → u.1 = N) ∧ u.2.1 < 65536) (fun u : ((Nat) × (Nat) × (Nat → Int32) × (Nat → Int32)) => [(h0, .inr (8, [.ref tw, .ref lw, .ref st, .ref m1, .ref c1, .ref d1, .int idl, .int idf, .int idt, .int fc, .int fp, .int 0, .int 0, .int (nI u.1)])), (tw, .inr (7, [.int 0, .int 0, .int 0, .ref t1, .ref t2, .ref t3, .ref t4])), (lw, .inr (1, [.ref l1, .ref l2, .ref l3, .ref l4, .ref l5, .ref l6, .ref l7, .int lz, .int lc])), (l6, .inl (cI, 8, .inl u.2.2.1)), (st, .inr (4, [.ref u1, .ref f1, .ref g1, .int 0, .int (nI u.1), .int (nI u.2.1)])), (f1, .inl (cI, 10, .inl ff)), (g1, .inl (cI, 10, .inl fg)), (c1, .inl (cI, 10, .inl u.2.2.2))]) := by
  refine MI.of (by decide) (Nat.le_of_ble_eq_true rfl) ?_
  intro p e s m below meth c Q ls A X hin hN hP hK hD hA hl ret
  have hS : va_S A s.heap s.heap [] := va_S.rf
  obtain ⟨hx, hb, hml, hown, htb⟩ := id X
  have hl : lv_has ls 4 [(0, .ref h0), (1, .int (nI N)), (2, .int en)] := hl
  refine lv_iconst (v := 0) hx hb dX8_run_0 (by decide) ?_
  refine lv_istore_n (lv' := [(3, .int 0), (0, .ref h0), (1, .int (nI N)), (2, .int en)]) hx hb dX8_run_1 rfl hl (by decide) rfl (fun ls hl => ?_)
  have loop_2 : ∀ (n i : Nat) (ka : Nat) (la : Nat → Int32) (ca : Nat → Int32), n + i = N → (ka < 65536) → ∀ (H : Heap) (locs : List Loc), va_P D vwCl [(h0, .inr (8, [.ref tw, .ref lw, .ref st, .ref m1, .ref c1, .ref d1, .int idl, .int idf, .int idt, .int fc, .int fp, .int 0, .int 0, .int (nI i)])), (tw, .inr (7, [.int 0, .int 0, .int 0, .ref t1, .ref t2, .ref t3, .ref t4])), (lw, .inr (1, [.ref l1, .ref l2, .ref l3, .ref l4, .ref l5, .ref l6, .ref l7, .int lz, .int lc])), (l6, .inl (cI, 8, .inl la)), (st, .inr (4, [.ref u1, .ref f1, .ref g1, .int 0, .int (nI i), .int (nI ka)])), (f1, .inl (cI, 10, .inl ff)), (g1, .inl (cI, 10, .inl fg)), (c1, .inl (cI, 10, .inl ca))] H → va_D A [(h0, .inr (8, [.ref tw, .ref lw, .ref st, .ref m1, .ref c1, .ref d1, .int idl, .int idf, .int idt, .int fc, .int fp, .int 0, .int 0, .int (nI i)])), (tw, .inr (7, [.int 0, .int 0, .int 0, .ref t1, .ref t2, .ref t3, .ref t4])), (lw, .inr (1, [.ref l1, .ref l2, .ref l3, .ref l4, .ref l5, .ref l6, .ref l7, .int lz, .int lc])), (l6, .inl (cI, 8, .inl la)), (st, .inr (4, [.ref u1, .ref f1, .ref g1, .int 0, .int (nI i), .int (nI ka)])), (f1, .inl (cI, 10, .inl ff)), (g1, .inl (cI, 10, .inl fg)), (c1, .inl (cI, 10, .inl ca))] → va_S A s.heap H locs → ∀ (ls : Array Slot), lv_has ls 4 [(0, .ref h0), (1, .int (nI N)), (2, .int en), (3, .int (nI i))] → W p l e (rm 3 68) s m ([.ref h0, .int (nI N), .int en] : List Value).toArray below meth c H locs 0 0 Q (F0 m 2 ls []) := by
    intro n
    induction n with
    | zero =>
      intro i ka la ca hni hka H locs hP hD hS ls hl
      have hi : i = N := by omega
      refine lv_iload_n hx hb dX8_run_2 rfl (lv_at hl 3 rfl) ?_
      refine lv_iload_n hx hb dX8_run_3 rfl (lv_at hl 1 rfl) ?_
      refine lv_icmp_ge (tgt := 34) hx hb dX8_run_4 (by decide) (fun _ => ?_) (fun c_4 => absurd (by rw [hi]; exact nI_le (Nat.le_refl _) (by omega)) c_4)
      refine lv_aload_n hx hb dX8_run_34 rfl (lv_at hl 0 rfl) ?_
      refine va_get (D := D) (ci := 8) (v := .ref st) (C := RX8) (T := TX8) (N := 14) hx hb htb itX8 hown hK hP 0 rfl rfl 2 (by decide) (htb _ k_347) (fun _ h9 => h9) rfl dX8_run_35 ?_
      refine va_getN (D := D) (ci := 4) (v := .int 0) (C := RX4) (T := TX4) (N := 6) hx hb htb itX4 hown hK hP 4 rfl rfl 3 (by decide) (va_Nw.use rfl (hN _ n_196 rfl)) (fun _ h9 => h9) rfl dX8_run_38 ?_
      refine lv_aload_n hx hb dX8_run_41 rfl (lv_at hl 0 rfl) ?_
      refine va_get (D := D) (ci := 8) (v := .int 0) (C := RX8) (T := TX8) (N := 14) hx hb htb itX8 hown hK hP 0 rfl rfl 11 (by decide) (htb _ k_359) (fun _ h9 => h9) rfl dX8_run_42 ?_
      refine lv_isub hx hb dX8_run_45 ?_
      refine tv (z := 0) (by decide) ?_
      exact ret _ _ _ _ 0 (i, ka, la, ca) dX8_run_46 rfl (⟨rfl, by omega, fun _ => hi, hka⟩) (hP.sub [0, 1, 2, 3, 4, 5, 6, 7] rfl) (hD.sub [0, 1, 2, 3, 4, 5, 6, 7] (by decide) rfl) hS
    | succ n ih =>
      intro i ka la ca hni hka H locs hP hD hS ls hl
      have hi : i < N := by omega
      refine lv_iload_n hx hb dX8_run_2 rfl (lv_at hl 3 rfl) ?_
      refine lv_iload_n hx hb dX8_run_3 rfl (lv_at hl 1 rfl) ?_
      refine lv_icmp_ge (tgt := 34) hx hb dX8_run_4 (by decide) (fun c_4 => absurd c_4 (nI_ge hi (by omega))) (fun _ => ?_)
      refine lv_aload_n hx hb dX8_run_7 rfl (lv_at hl 0 rfl) ?_
      refine va_get (D := D) (ci := 8) (v := .ref st) (C := RX8) (T := TX8) (N := 14) hx hb htb itX8 hown hK hP 0 rfl rfl 2 (by decide) (htb _ k_347) (fun _ h9 => h9) rfl dX8_run_8 ?_
      refine va_getN (D := D) (ci := 4) (v := .int 0) (C := RX4) (T := TX4) (N := 6) hx hb htb itX4 hown hK hP 4 rfl rfl 3 (by decide) (va_Nw.use rfl (hN _ n_196 rfl)) (fun _ h9 => h9) rfl dX8_run_11 ?_
      refine lv_aload_n hx hb dX8_run_14 rfl (lv_at hl 0 rfl) ?_
      refine va_get (D := D) (ci := 8) (v := .int 0) (C := RX8) (T := TX8) (N := 14) hx hb htb itX8 hown hK hP 0 rfl rfl 11 (by decide) (htb _ k_359) (fun _ h9 => h9) rfl dX8_run_15 ?_
      refine lv_isub hx hb dX8_run_18 ?_
      refine tv (z := 0) (by decide) ?_
      refine lv_iload_n hx hb dX8_run_19 rfl (lv_at hl 2 rfl) ?_
      refine lv_icmp_ge (tgt := 34) hx hb dX8_run_20 (by decide) (fun c_20 => ?_) (fun c_20 => ?_)
      · refine lv_aload_n hx hb dX8_run_34 rfl (lv_at hl 0 rfl) ?_
        refine va_get (D := D) (ci := 8) (v := .ref st) (C := RX8) (T := TX8) (N := 14) hx hb htb itX8 hown hK hP 0 rfl rfl 2 (by decide) (htb _ k_347) (fun _ h9 => h9) rfl dX8_run_35 ?_
        refine va_getN (D := D) (ci := 4) (v := .int 0) (C := RX4) (T := TX4) (N := 6) hx hb htb itX4 hown hK hP 4 rfl rfl 3 (by decide) (va_Nw.use rfl (hN _ n_196 rfl)) (fun _ h9 => h9) rfl dX8_run_38 ?_
        refine lv_aload_n hx hb dX8_run_41 rfl (lv_at hl 0 rfl) ?_
        refine va_get (D := D) (ci := 8) (v := .int 0) (C := RX8) (T := TX8) (N := 14) hx hb htb itX8 hown hK hP 0 rfl rfl 11 (by decide) (htb _ k_359) (fun _ h9 => h9) rfl dX8_run_42 ?_
        refine lv_isub hx hb dX8_run_45 ?_
        refine tv (z := 0) (by decide) ?_
        exact ret _ _ _ _ 0 (i, ka, la, ca) dX8_run_46 rfl (⟨rfl, by omega, fun h => absurd h (Int32.not_lt.mpr c_20), hka⟩) (hP.sub [0, 1, 2, 3, 4, 5, 6, 7] rfl) (hD.sub [0, 1, 2, 3, 4, 5, 6, 7] (by decide) rfl) hS
      · refine lv_aload_n hx hb dX8_run_23 rfl (lv_at hl 0 rfl) ?_
        refine cVI (As := []) (rest := []) (n := 0) (ci := 8) (q0 := 0) (wr := []) X hN hK hP hD hS hA (c_X8_goThroughDay l D cI cB _ h0 tw lw st m1 c1 d1 idl idf idt fc fp l1 l2 l3 l4 l5 l6 l7 lz lc t1 t2 t3 t4 u1 f1 g1 i ka la ff fg ca (by omega) hka hg) (gV k_788 k_790 k_15 k_102 k_791) (by decide +kernel) ⟨Nat.le_of_ble_eq_true rfl, Nat.le_of_ble_eq_true rfl⟩ ⟨rfl, rfl⟩ [0, 1, 2, 3, 4, 5, 6, 7] [] rfl rfl (by decide) (by decide) rfl rfl rfl rfl rfl hl.1 (Nat.le_of_ble_eq_true rfl) dX8_run_24 ⟨Nat.le_of_ble_eq_true rfl, Nat.le_of_ble_eq_true rfl⟩ (fun r_1 u H locs hw_5 hP hD hS => ?_)
        obtain ⟨ko_2, lo_3, co_4⟩ := u
        try dsimp only at hw_5
        have hP : va_P D vwCl [(h0, .inr (8, [.ref tw, .ref lw, .ref st, .ref m1, .ref c1, .ref d1, .int idl, .int idf, .int idt, .int fc, .int fp, .int 0, .int 0, .int (nI (i + 1))])), (tw, .inr (7, [.int 0, .int 0, .int 0, .ref t1, .ref t2, .ref t3, .ref t4])), (lw, .inr (1, [.ref l1, .ref l2, .ref l3, .ref l4, .ref l5, .ref l6, .ref l7, .int lz, .int lc])), (l6, .inl (cI, 8, .inl lo_3)), (st, .inr (4, [.ref u1, .ref f1, .ref g1, .int 0, .int (nI (i + 1)), .int (nI ko_2)])), (f1, .inl (cI, 10, .inl ff)), (g1, .inl (cI, 10, .inl fg)), (c1, .inl (cI, 10, .inl co_4))] H := hP
        have hD : va_D A [(h0, .inr (8, [.ref tw, .ref lw, .ref st, .ref m1, .ref c1, .ref d1, .int idl, .int idf, .int idt, .int fc, .int fp, .int 0, .int 0, .int (nI (i + 1))])), (tw, .inr (7, [.int 0, .int 0, .int 0, .ref t1, .ref t2, .ref t3, .ref t4])), (lw, .inr (1, [.ref l1, .ref l2, .ref l3, .ref l4, .ref l5, .ref l6, .ref l7, .int lz, .int lc])), (l6, .inl (cI, 8, .inl lo_3)), (st, .inr (4, [.ref u1, .ref f1, .ref g1, .int 0, .int (nI (i + 1)), .int (nI ko_2)])), (f1, .inl (cI, 10, .inl ff)), (g1, .inl (cI, 10, .inl fg)), (c1, .inl (cI, 10, .inl co_4))] := hD
        refine lv_pop hx hb dX8_run_27 rfl ?_
        refine lv_iinc (v := (nI (i + 1))) (lv' := [(3, .int (nI (i + 1))), (0, .ref h0), (1, .int (nI N)), (2, .int en)]) hx hb dX8_run_28 hl (k := 3) rfl (nI_1 i) (by decide) rfl (fun ls hl => ?_)
        refine lv_goto (tgt := 2) hx hb dX8_run_31 (by decide) ?_
        exact ih (i + 1) ko_2 lo_3 co_4 (by omega) hw_5.2 _ _ (hP.sub [0, 1, 2, 3, 4, 5, 6, 7] rfl) (hD.sub [0, 1, 2, 3, 4, 5, 6, 7] (by decide) rfl) hS _ (lv_sub hl [1, 2, 3, 0] rfl)
  exact loop_2 N 0 k fl fc1 (by omega) hk _ _ (hP.sub [0, 1, 2, 3, 4, 5, 6, 7] rfl) (hD.sub [0, 1, 2, 3, 4, 5, 6, 7] (by decide) rfl) hS _ (lv_sub hl [1, 2, 3, 0] rfl)

set_option maxRecDepth 100000 in
set_option maxHeartbeats 4000000 in
theorem c_X8_staysClear (l : Launch) (D : va_G) (cI cB : ClassId) (sz : Nat) (h0 : Nat) (tw : Nat) (lw : Nat) (st : Nat) (m1 : Nat) (c1 : Nat) (d1 : Nat) (idl : Int32) (idf : Int32) (idt : Int32) (fc : Int32) (fp : Int32) (l1 : Nat) (l2 : Nat) (l3 : Nat) (l4 : Nat) (l5 : Nat) (l6 : Nat) (l7 : Nat) (lz : Int32) (lc : Int32) (t1 : Nat) (t2 : Nat) (t3 : Nat) (t4 : Nat) (u1 : Nat) (f1 : Nat) (g1 : Nat) (N : Nat) (k : Nat) (fl : Nat → Int32) (ff : Nat → Int32) (fg : Nat → Int32) (fc1 : Nat → Int32) (hN0 : N ≤ 60) (hk : k < 65536) (hg : ∀ j, j < 10 → fg j = -2) : MI (S := ((Nat) × (Nat) × (Nat → Int32) × (Nat → Int32))) l D cI cB yX8_staysClear cX8_staysClear 4 .boolean (rm 3 68) [.ref h0, .int (nI N)] [(h0, .inr (8, [.ref tw, .ref lw, .ref st, .ref m1, .ref c1, .ref d1, .int idl, .int idf, .int idt, .int fc, .int fp, .int 0, .int 0, .int (nI 0)])), (tw, .inr (7, [.int 0, .int 0, .int 0, .ref t1, .ref t2, .ref t3, .ref t4])), (lw, .inr (1, [.ref l1, .ref l2, .ref l3, .ref l4, .ref l5, .ref l6, .ref l7, .int lz, .int lc])), (l6, .inl (cI, 8, .inl fl)), (st, .inr (4, [.ref u1, .ref f1, .ref g1, .int 0, .int (nI 0), .int (nI k)])), (f1, .inl (cI, 10, .inl ff)), (g1, .inl (cI, 10, .inl fg)), (c1, .inl (cI, 10, .inl fc1))] sz (fun r u => r = 1 ∧ u.2.1 < 65536) (fun u : ((Nat) × (Nat) × (Nat → Int32) × (Nat → Int32)) => [(h0, .inr (8, [.ref tw, .ref lw, .ref st, .ref m1, .ref c1, .ref d1, .int idl, .int idf, .int idt, .int fc, .int fp, .int 0, .int 0, .int (nI u.1)])), (tw, .inr (7, [.int 0, .int 0, .int 0, .ref t1, .ref t2, .ref t3, .ref t4])), (lw, .inr (1, [.ref l1, .ref l2, .ref l3, .ref l4, .ref l5, .ref l6, .ref l7, .int lz, .int lc])), (l6, .inl (cI, 8, .inl u.2.2.1)), (st, .inr (4, [.ref u1, .ref f1, .ref g1, .int 0, .int (nI u.1), .int (nI u.2.1)])), (f1, .inl (cI, 10, .inl ff)), (g1, .inl (cI, 10, .inl fg)), (c1, .inl (cI, 10, .inl u.2.2.2))]) := by
  refine MI.of (by decide) (Nat.le_of_ble_eq_true rfl) ?_
  intro p e s m below meth c Q ls A X hin hN hP hK hD hA hl ret
  have hS : va_S A s.heap s.heap [] := va_S.rf
  obtain ⟨hx, hb, hml, hown, htb⟩ := id X
  have hl : lv_has ls 4 [(0, .ref h0), (1, .int (nI N))] := hl
  refine lv_iconst (v := 1) hx hb dX8_staysClear_0 (by decide) ?_
  refine lv_istore_n (lv' := [(2, .int 1), (0, .ref h0), (1, .int (nI N))]) hx hb dX8_staysClear_1 rfl hl (by decide) rfl (fun ls hl => ?_)
  refine lv_iconst (v := 0) hx hb dX8_staysClear_2 (by decide) ?_
  refine lv_istore_n (lv' := [(3, .int 0), (2, .int 1), (0, .ref h0), (1, .int (nI N))]) hx hb dX8_staysClear_3 rfl hl (by decide) rfl (fun ls hl => ?_)
  have loop_4 : ∀ (n i : Nat) (ka : Nat) (la : Nat → Int32) (ca : Nat → Int32), n + i = N → (ka < 65536) → ∀ (H : Heap) (locs : List Loc), va_P D vwCl [(h0, .inr (8, [.ref tw, .ref lw, .ref st, .ref m1, .ref c1, .ref d1, .int idl, .int idf, .int idt, .int fc, .int fp, .int 0, .int 0, .int (nI i)])), (tw, .inr (7, [.int 0, .int 0, .int 0, .ref t1, .ref t2, .ref t3, .ref t4])), (lw, .inr (1, [.ref l1, .ref l2, .ref l3, .ref l4, .ref l5, .ref l6, .ref l7, .int lz, .int lc])), (l6, .inl (cI, 8, .inl la)), (st, .inr (4, [.ref u1, .ref f1, .ref g1, .int 0, .int (nI i), .int (nI ka)])), (f1, .inl (cI, 10, .inl ff)), (g1, .inl (cI, 10, .inl fg)), (c1, .inl (cI, 10, .inl ca))] H → va_D A [(h0, .inr (8, [.ref tw, .ref lw, .ref st, .ref m1, .ref c1, .ref d1, .int idl, .int idf, .int idt, .int fc, .int fp, .int 0, .int 0, .int (nI i)])), (tw, .inr (7, [.int 0, .int 0, .int 0, .ref t1, .ref t2, .ref t3, .ref t4])), (lw, .inr (1, [.ref l1, .ref l2, .ref l3, .ref l4, .ref l5, .ref l6, .ref l7, .int lz, .int lc])), (l6, .inl (cI, 8, .inl la)), (st, .inr (4, [.ref u1, .ref f1, .ref g1, .int 0, .int (nI i), .int (nI ka)])), (f1, .inl (cI, 10, .inl ff)), (g1, .inl (cI, 10, .inl fg)), (c1, .inl (cI, 10, .inl ca))] → va_S A s.heap H locs → ∀ (ls : Array Slot), lv_has ls 4 [(0, .ref h0), (1, .int (nI N)), (2, .int 1), (3, .int (nI i))] → W p l e (rm 3 68) s m ([.ref h0, .int (nI N)] : List Value).toArray below meth c H locs 0 0 Q (F0 m 4 ls []) := by
    intro n
    induction n with
    | zero =>
      intro i ka la ca hni hka H locs hP hD hS ls hl
      have hi : i = N := by omega
      refine lv_iload_n hx hb dX8_staysClear_4 rfl (lv_at hl 3 rfl) ?_
      refine lv_iload_n hx hb dX8_staysClear_5 rfl (lv_at hl 1 rfl) ?_
      refine lv_icmp_ge (tgt := 32) hx hb dX8_staysClear_6 (by decide) (fun _ => ?_) (fun c_6 => absurd (by rw [hi]; exact nI_le (Nat.le_refl _) (by omega)) c_6)
      refine lv_iload_n hx hb dX8_staysClear_32 rfl (lv_at hl 2 rfl) ?_
      exact ret _ _ _ _ 1 (i, ka, la, ca) dX8_staysClear_33 rfl (⟨rfl, hka⟩) (hP.sub [0, 1, 2, 3, 4, 5, 6, 7] rfl) (hD.sub [0, 1, 2, 3, 4, 5, 6, 7] (by decide) rfl) hS
    | succ n ih =>
      intro i ka la ca hni hka H locs hP hD hS ls hl
      have hi : i < N := by omega
      refine lv_iload_n hx hb dX8_staysClear_4 rfl (lv_at hl 3 rfl) ?_
      refine lv_iload_n hx hb dX8_staysClear_5 rfl (lv_at hl 1 rfl) ?_
      refine lv_icmp_ge (tgt := 32) hx hb dX8_staysClear_6 (by decide) (fun c_6 => absurd c_6 (nI_ge hi (by omega))) (fun _ => ?_)
      refine lv_iload_n hx hb dX8_staysClear_9 rfl (lv_at hl 2 rfl) ?_
      refine lv_if_eq (tgt := 32) hx hb dX8_staysClear_10 (by decide) (fun c_10 => absurd c_10 (by decide)) (fun _ => ?_)
      refine lv_aload_n hx hb dX8_staysClear_13 rfl (lv_at hl 0 rfl) ?_
      refine cVI (As := []) (rest := []) (n := 0) (ci := 8) (q0 := 0) (wr := []) X hN hK hP hD hS hA (c_X8_goThroughDay l D cI cB _ h0 tw lw st m1 c1 d1 idl idf idt fc fp l1 l2 l3 l4 l5 l6 l7 lz lc t1 t2 t3 t4 u1 f1 g1 i ka la ff fg ca (by omega) hka hg) (gV k_788 k_790 k_15 k_102 k_791) (by decide +kernel) ⟨Nat.le_of_ble_eq_true rfl, Nat.le_of_ble_eq_true rfl⟩ ⟨rfl, rfl⟩ [0, 1, 2, 3, 4, 5, 6, 7] [] rfl rfl (by decide) (by decide) rfl rfl rfl rfl rfl hl.1 (Nat.le_of_ble_eq_true rfl) dX8_staysClear_14 ⟨Nat.le_of_ble_eq_true rfl, Nat.le_of_ble_eq_true rfl⟩ (fun rc u H locs hw_4 hP hD hS => ?_)
      obtain ⟨ko_1, lo_2, co_3⟩ := u
      try dsimp only at hw_4
      have hP : va_P D vwCl [(h0, .inr (8, [.ref tw, .ref lw, .ref st, .ref m1, .ref c1, .ref d1, .int idl, .int idf, .int idt, .int fc, .int fp, .int 0, .int 0, .int (nI (i + 1))])), (tw, .inr (7, [.int 0, .int 0, .int 0, .ref t1, .ref t2, .ref t3, .ref t4])), (lw, .inr (1, [.ref l1, .ref l2, .ref l3, .ref l4, .ref l5, .ref l6, .ref l7, .int lz, .int lc])), (l6, .inl (cI, 8, .inl lo_2)), (st, .inr (4, [.ref u1, .ref f1, .ref g1, .int 0, .int (nI (i + 1)), .int (nI ko_1)])), (f1, .inl (cI, 10, .inl ff)), (g1, .inl (cI, 10, .inl fg)), (c1, .inl (cI, 10, .inl co_3))] H := hP
      have hD : va_D A [(h0, .inr (8, [.ref tw, .ref lw, .ref st, .ref m1, .ref c1, .ref d1, .int idl, .int idf, .int idt, .int fc, .int fp, .int 0, .int 0, .int (nI (i + 1))])), (tw, .inr (7, [.int 0, .int 0, .int 0, .ref t1, .ref t2, .ref t3, .ref t4])), (lw, .inr (1, [.ref l1, .ref l2, .ref l3, .ref l4, .ref l5, .ref l6, .ref l7, .int lz, .int lc])), (l6, .inl (cI, 8, .inl lo_2)), (st, .inr (4, [.ref u1, .ref f1, .ref g1, .int 0, .int (nI (i + 1)), .int (nI ko_1)])), (f1, .inl (cI, 10, .inl ff)), (g1, .inl (cI, 10, .inl fg)), (c1, .inl (cI, 10, .inl co_3))] := hD
      refine lv_if_ne (tgt := 24) hx hb dX8_staysClear_17 (by decide) (fun c_17 => absurd (hw_4.1) c_17) (fun _ => ?_)
      refine lv_iconst (v := 1) hx hb dX8_staysClear_20 (by decide) ?_
      refine lv_goto (tgt := 25) hx hb dX8_staysClear_21 (by decide) ?_
      refine lv_istore_n (lv' := [(2, .int 1), (0, .ref h0), (1, .int (nI N)), (3, .int (nI i))]) hx hb dX8_staysClear_25 rfl hl (by decide) rfl (fun ls hl => ?_)
      refine lv_iinc (v := (nI (i + 1))) (lv' := [(3, .int (nI (i + 1))), (2, .int 1), (0, .ref h0), (1, .int (nI N))]) hx hb dX8_staysClear_26 hl (k := 3) rfl (nI_1 i) (by decide) rfl (fun ls hl => ?_)
      refine lv_goto (tgt := 4) hx hb dX8_staysClear_29 (by decide) ?_
      exact ih (i + 1) ko_1 lo_2 co_3 (by omega) hw_4.2 _ _ (hP.sub [0, 1, 2, 3, 4, 5, 6, 7] rfl) (hD.sub [0, 1, 2, 3, 4, 5, 6, 7] (by decide) rfl) hS _ (lv_sub hl [2, 3, 1, 0] rfl)
  exact loop_4 N 0 k fl fc1 (by omega) hk _ _ (hP.sub [0, 1, 2, 3, 4, 5, 6, 7] rfl) (hD.sub [0, 1, 2, 3, 4, 5, 6, 7] (by decide) rfl) hS _ (lv_sub hl [2, 3, 1, 0] rfl)
end
section
set_option maxRecDepth 100000 in
set_option maxHeartbeats 4000000 in
theorem c_X5_canGive (l : Launch) (D : va_G) (cI cB : ClassId) (h0 : Nat) (b1 : Nat) (n : Int32) (lo : Int32) (hi : Int32)  : MR l D cI cB yX5_canGive cX5_canGive 4 .boolean (rm 0 0) [.ref h0, .int n, .int lo, .int hi] [(h0, .inr (5, [.ref b1, .int 0]))] (fun r : Int32 => r = bI ((lo ≤ n ∧ n ≤ hi) ∧ n ≤ 0)) := by
  refine MR.of (by decide) (Nat.le_of_ble_eq_true rfl) ?_
  intro p e s m below meth c Q ls X hN hP hK hl ret
  obtain ⟨hx, hb, hml, hown, htb⟩ := id X
  have hl : lv_has ls 4 [(0, .ref h0), (1, .int n), (2, .int lo), (3, .int hi)] := hl
  refine lv_iload_n hx hb dX5_canGive_0 rfl (lv_at hl 1 rfl) ?_
  refine lv_iload_n hx hb dX5_canGive_1 rfl (lv_at hl 2 rfl) ?_
  refine lv_icmp_lt (tgt := 22) hx hb dX5_canGive_2 (by decide) (fun c_2 => ?_) (fun c_2 => ?_)
  · refine lv_iconst (v := 0) hx hb dX5_canGive_22 (by decide) ?_
    exact ret _ _ 0 dX5_canGive_23 rfl (bI0 (fun h => (Int32.not_lt.mpr h.1.1) c_2))
  · refine lv_iload_n hx hb dX5_canGive_5 rfl (lv_at hl 1 rfl) ?_
    refine lv_iload_n hx hb dX5_canGive_6 rfl (lv_at hl 3 rfl) ?_
    refine lv_icmp_gt (tgt := 22) hx hb dX5_canGive_7 (by decide) (fun c_7 => ?_) (fun c_7 => ?_)
    · refine lv_iconst (v := 0) hx hb dX5_canGive_22 (by decide) ?_
      exact ret _ _ 0 dX5_canGive_23 rfl (bI0 (fun h => (Int32.not_lt.mpr h.1.2) c_7))
    · refine lv_iload_n hx hb dX5_canGive_10 rfl (lv_at hl 1 rfl) ?_
      refine lv_aload_n hx hb dX5_canGive_11 rfl (lv_at hl 0 rfl) ?_
      refine va_get (D := D) (ci := 5) (v := .int 0) (C := RX5) (T := TX5) (N := 2) hx hb htb itX5 hown hK hP 0 rfl rfl 1 (by decide) (htb _ k_128) (fun _ h9 => h9) rfl dX5_canGive_12 ?_
      refine lv_icmp_gt (tgt := 22) hx hb dX5_canGive_15 (by decide) (fun c_15 => ?_) (fun c_15 => ?_)
      · refine lv_iconst (v := 0) hx hb dX5_canGive_22 (by decide) ?_
        exact ret _ _ 0 dX5_canGive_23 rfl (bI0 (fun h => (Int32.not_lt.mpr h.2) c_15))
      · refine lv_iconst (v := 1) hx hb dX5_canGive_18 (by decide) ?_
        refine lv_goto (tgt := 23) hx hb dX5_canGive_19 (by decide) ?_
        exact ret _ _ 1 dX5_canGive_23 rfl (bI1 ⟨⟨Int32.not_lt.mp c_2, Int32.not_lt.mp c_7⟩, Int32.not_lt.mp c_15⟩)

set_option maxRecDepth 100000 in
set_option maxHeartbeats 4000000 in
theorem c_X5_hasRoomFor (l : Launch) (D : va_G) (cI cB : ClassId) (h0 : Nat) (b1 : Nat) (fb : Nat → Int32)  : MR l D cI cB yX5_hasRoomFor cX5_hasRoomFor 2 .boolean (rm 0 0) [.ref h0, .int 20] [(h0, .inr (5, [.ref b1, .int 0])), (b1, .inl (cI, 260, .inl fb))] (fun r : Int32 => r = 1) := by
  refine MR.of (by decide) (Nat.le_of_ble_eq_true rfl) ?_
  intro p e s m below meth c Q ls X hN hP hK hl ret
  obtain ⟨hx, hb, hml, hown, htb⟩ := id X
  have hl : lv_has ls 2 [(0, .ref h0), (1, .int 20)] := hl
  refine lv_aload_n hx hb dX5_hasRoomFor_0 rfl (lv_at hl 0 rfl) ?_
  refine va_get (D := D) (ci := 5) (v := .int 0) (C := RX5) (T := TX5) (N := 2) hx hb htb itX5 hown hK hP 0 rfl rfl 1 (by decide) (htb _ k_128) (fun _ h9 => h9) rfl dX5_hasRoomFor_1 ?_
  refine lv_iload_n hx hb dX5_hasRoomFor_4 rfl (lv_at hl 1 rfl) ?_
  refine lv_iadd hx hb dX5_hasRoomFor_5 ?_
  refine tv (z := 20) (by decide) ?_
  refine lv_aload_n hx hb dX5_hasRoomFor_6 rfl (lv_at hl 0 rfl) ?_
  refine va_get (D := D) (ci := 5) (v := .ref b1) (C := RX5) (T := TX5) (N := 2) hx hb htb itX5 hown hK hP 0 rfl rfl 0 (by decide) (htb _ k_126) (fun _ h9 => h9) rfl dX5_hasRoomFor_7 ?_
  refine va_alen hx hb hK hP 1 0 rfl rfl (v := 260) rfl dX5_hasRoomFor_10 ?_
  refine lv_icmp_gt (tgt := 18) hx hb dX5_hasRoomFor_11 (by decide) (fun c_11 => absurd c_11 (by decide)) (fun _ => ?_)
  refine lv_iconst (v := 1) hx hb dX5_hasRoomFor_14 (by decide) ?_
  refine lv_goto (tgt := 19) hx hb dX5_hasRoomFor_15 (by decide) ?_
  exact ret _ _ 1 dX5_hasRoomFor_19 rfl rfl

set_option maxRecDepth 100000 in
set_option maxHeartbeats 4000000 in
theorem c_X5_addWord (l : Launch) (D : va_G) (cI cB : ClassId) (sz : Nat) (h0 : Nat) (b1 : Nat) (t : Nat) (w : Int32) (fb : Nat → Int32) (ht : t + 4 ≤ 260) : MV (S := ((Nat → Int32))) l D cI cB yX5_addWord cX5_addWord 3 (rm 0 0) [.ref h0, .int w] [(h0, .inr (5, [.ref b1, .int (nI t)])), (b1, .inl (cI, 260, .inl fb))] sz (fun u => True) (fun u : ((Nat → Int32)) => [(h0, .inr (5, [.ref b1, .int (nI (t + 4))])), (b1, .inl (cI, 260, .inl u))]) := by
  refine MV.of (by decide) (Nat.le_of_ble_eq_true rfl) ?_
  intro p e s m below meth c Q ls A X hin hN hP hK hD hA hl ret
  have hS : va_S A s.heap s.heap [] := va_S.rf
  obtain ⟨hx, hb, hml, hown, htb⟩ := id X
  have hl : lv_has ls 3 [(0, .ref h0), (1, .int w)] := hl
  refine lv_bipush (v := 24) hx hb dX5_addWord_0 (by decide) ?_
  refine lv_istore_n (lv' := [(2, .int 24), (0, .ref h0), (1, .int w)]) hx hb dX5_addWord_2 rfl hl (by decide) rfl (fun ls hl => ?_)
  refine lv_iload_n hx hb dX5_addWord_3 rfl (lv_at hl 0 rfl) ?_
  refine lv_if_lt (tgt := 51) hx hb dX5_addWord_4 (by decide) (fun c_4 => absurd c_4 (by decide)) (fun _ => ?_)
  refine lv_aload_n hx hb dX5_addWord_7 rfl (lv_at hl 1 rfl) ?_
  refine va_get (D := D) (ci := 5) (v := .int (nI t)) (C := RX5) (T := TX5) (N := 2) hx hb htb itX5 hown hK hP 0 rfl rfl 1 (by decide) (htb _ k_128) (fun _ h9 => h9) rfl dX5_addWord_8 ?_
  refine lv_aload_n hx hb dX5_addWord_11 rfl (lv_at hl 1 rfl) ?_
  refine va_get (D := D) (ci := 5) (v := .ref b1) (C := RX5) (T := TX5) (N := 2) hx hb htb itX5 hown hK hP 0 rfl rfl 0 (by decide) (htb _ k_126) (fun _ h9 => h9) rfl dX5_addWord_12 ?_
  refine va_alen hx hb hK hP 1 0 rfl rfl (v := 260) rfl dX5_addWord_15 ?_
  refine lv_icmp_ge (tgt := 45) hx hb dX5_addWord_16 (by decide) (fun c_16 => absurd c_16 (nI_ge (b := 260) (by omega) (by decide))) (fun _ => ?_)
  refine lv_aload_n hx hb dX5_addWord_19 rfl (lv_at hl 1 rfl) ?_
  refine va_get (D := D) (ci := 5) (v := .ref b1) (C := RX5) (T := TX5) (N := 2) hx hb htb itX5 hown hK hP 0 rfl rfl 0 (by decide) (htb _ k_126) (fun _ h9 => h9) rfl dX5_addWord_20 ?_
  refine lv_aload_n hx hb dX5_addWord_23 rfl (lv_at hl 1 rfl) ?_
  refine va_get (D := D) (ci := 5) (v := .int (nI t)) (C := RX5) (T := TX5) (N := 2) hx hb htb itX5 hown hK hP 0 rfl rfl 1 (by decide) (htb _ k_128) (fun _ h9 => h9) rfl dX5_addWord_24 ?_
  refine lv_iload_n hx hb dX5_addWord_27 rfl (lv_at hl 2 rfl) ?_
  refine lv_iload_n hx hb dX5_addWord_28 rfl (lv_at hl 0 rfl) ?_
  refine lv_ishr hx hb dX5_addWord_29 ?_
  refine lv_sipush (v := 255) hx hb dX5_addWord_30 (by decide) ?_
  refine lv_iand hx hb dX5_addWord_33 ?_
  refine lv_topi (fun x_1 ex_1 => ?_)
  refine va_iast hx hb hK hP hD hS 1 0 rfl rfl (vp_in_nI (by omega) (by decide)) dX5_addWord_34 (fun H locs hP hD hS => ?_)
  obtain ⟨f_2, ef_2⟩ : ∃ g : Nat → Int32, g = upd fb (Int32.toNatClampNeg (nI t)) x_1 := ⟨_, rfl⟩
  rw [← ef_2] at hP hD
  have hP : va_P D vwCl [(h0, .inr (5, [.ref b1, .int (nI t)])), (b1, .inl (cI, 260, .inl f_2))] H := hP
  have hD : va_D A [(h0, .inr (5, [.ref b1, .int (nI t)])), (b1, .inl (cI, 260, .inl f_2))] := hD
  refine lv_aload_n hx hb dX5_addWord_35 rfl (lv_at hl 1 rfl) ?_
  refine lv_dup hx hb dX5_addWord_36 rfl ?_
  refine va_get (D := D) (ci := 5) (v := .int (nI t)) (C := RX5) (T := TX5) (N := 2) hx hb htb itX5 hown hK hP 0 rfl rfl 1 (by decide) (htb _ k_128) (fun _ h9 => h9) rfl dX5_addWord_37 ?_
  refine lv_iconst (v := 1) hx hb dX5_addWord_40 (by decide) ?_
  refine lv_iadd hx hb dX5_addWord_41 ?_
  refine tv (z := (nI (t + 1))) (nI_1 t) ?_
  refine va_put (D := D) (ci := 5) (v := .int (nI (t + 1))) (ty := .int) (C := RX5) (T := TX5) (N := 2) hx hb htb itX5 tyX5 tyX5_ok nmX5 hown hK hP hD hS 0 rfl rfl 1 (by decide) (htb _ k_128) (fun _ h9 => h9) rfl (tyX5_ok 1 (by decide)) rfl rfl (Nat.le_of_ble_eq_true rfl) dX5_addWord_42 (fun H locs hP hD hS => ?_)
  have hP : va_P D vwCl [(h0, .inr (5, [.ref b1, .int (nI (t + 1))])), (b1, .inl (cI, 260, .inl f_2))] H := hP
  have hD : va_D A [(h0, .inr (5, [.ref b1, .int (nI (t + 1))])), (b1, .inl (cI, 260, .inl f_2))] := hD
  refine lv_iinc (v := 16) (lv' := [(2, .int 16), (0, .ref h0), (1, .int w)]) hx hb dX5_addWord_45 hl (k := 0) rfl (by decide) (by decide) rfl (fun ls hl => ?_)
  refine lv_goto (tgt := 3) hx hb dX5_addWord_48 (by decide) ?_
  refine lv_iload_n hx hb dX5_addWord_3 rfl (lv_at hl 0 rfl) ?_
  refine lv_if_lt (tgt := 51) hx hb dX5_addWord_4 (by decide) (fun c_4 => absurd c_4 (by decide)) (fun _ => ?_)
  refine lv_aload_n hx hb dX5_addWord_7 rfl (lv_at hl 1 rfl) ?_
  refine va_get (D := D) (ci := 5) (v := .int (nI (t + 1))) (C := RX5) (T := TX5) (N := 2) hx hb htb itX5 hown hK hP 0 rfl rfl 1 (by decide) (htb _ k_128) (fun _ h9 => h9) rfl dX5_addWord_8 ?_
  refine lv_aload_n hx hb dX5_addWord_11 rfl (lv_at hl 1 rfl) ?_
  refine va_get (D := D) (ci := 5) (v := .ref b1) (C := RX5) (T := TX5) (N := 2) hx hb htb itX5 hown hK hP 0 rfl rfl 0 (by decide) (htb _ k_126) (fun _ h9 => h9) rfl dX5_addWord_12 ?_
  refine va_alen hx hb hK hP 1 0 rfl rfl (v := 260) rfl dX5_addWord_15 ?_
  refine lv_icmp_ge (tgt := 45) hx hb dX5_addWord_16 (by decide) (fun c_16 => absurd c_16 (nI_ge (b := 260) (by omega) (by decide))) (fun _ => ?_)
  refine lv_aload_n hx hb dX5_addWord_19 rfl (lv_at hl 1 rfl) ?_
  refine va_get (D := D) (ci := 5) (v := .ref b1) (C := RX5) (T := TX5) (N := 2) hx hb htb itX5 hown hK hP 0 rfl rfl 0 (by decide) (htb _ k_126) (fun _ h9 => h9) rfl dX5_addWord_20 ?_
  refine lv_aload_n hx hb dX5_addWord_23 rfl (lv_at hl 1 rfl) ?_
  refine va_get (D := D) (ci := 5) (v := .int (nI (t + 1))) (C := RX5) (T := TX5) (N := 2) hx hb htb itX5 hown hK hP 0 rfl rfl 1 (by decide) (htb _ k_128) (fun _ h9 => h9) rfl dX5_addWord_24 ?_
  refine lv_iload_n hx hb dX5_addWord_27 rfl (lv_at hl 2 rfl) ?_
  refine lv_iload_n hx hb dX5_addWord_28 rfl (lv_at hl 0 rfl) ?_
  refine lv_ishr hx hb dX5_addWord_29 ?_
  refine lv_sipush (v := 255) hx hb dX5_addWord_30 (by decide) ?_
  refine lv_iand hx hb dX5_addWord_33 ?_
  refine lv_topi (fun x_3 ex_3 => ?_)
  refine va_iast hx hb hK hP hD hS 1 0 rfl rfl (vp_in_nI (by omega) (by decide)) dX5_addWord_34 (fun H locs hP hD hS => ?_)
  obtain ⟨f_4, ef_4⟩ : ∃ g : Nat → Int32, g = upd f_2 (Int32.toNatClampNeg (nI (t + 1))) x_3 := ⟨_, rfl⟩
  rw [← ef_4] at hP hD
  have hP : va_P D vwCl [(h0, .inr (5, [.ref b1, .int (nI (t + 1))])), (b1, .inl (cI, 260, .inl f_4))] H := hP
  have hD : va_D A [(h0, .inr (5, [.ref b1, .int (nI (t + 1))])), (b1, .inl (cI, 260, .inl f_4))] := hD
  refine lv_aload_n hx hb dX5_addWord_35 rfl (lv_at hl 1 rfl) ?_
  refine lv_dup hx hb dX5_addWord_36 rfl ?_
  refine va_get (D := D) (ci := 5) (v := .int (nI (t + 1))) (C := RX5) (T := TX5) (N := 2) hx hb htb itX5 hown hK hP 0 rfl rfl 1 (by decide) (htb _ k_128) (fun _ h9 => h9) rfl dX5_addWord_37 ?_
  refine lv_iconst (v := 1) hx hb dX5_addWord_40 (by decide) ?_
  refine lv_iadd hx hb dX5_addWord_41 ?_
  refine tv (z := (nI (t + 2))) (nI_1 (t + 1)) ?_
  refine va_put (D := D) (ci := 5) (v := .int (nI (t + 2))) (ty := .int) (C := RX5) (T := TX5) (N := 2) hx hb htb itX5 tyX5 tyX5_ok nmX5 hown hK hP hD hS 0 rfl rfl 1 (by decide) (htb _ k_128) (fun _ h9 => h9) rfl (tyX5_ok 1 (by decide)) rfl rfl (Nat.le_of_ble_eq_true rfl) dX5_addWord_42 (fun H locs hP hD hS => ?_)
  have hP : va_P D vwCl [(h0, .inr (5, [.ref b1, .int (nI (t + 2))])), (b1, .inl (cI, 260, .inl f_4))] H := hP
  have hD : va_D A [(h0, .inr (5, [.ref b1, .int (nI (t + 2))])), (b1, .inl (cI, 260, .inl f_4))] := hD
  refine lv_iinc (v := 8) (lv' := [(2, .int 8), (0, .ref h0), (1, .int w)]) hx hb dX5_addWord_45 hl (k := 0) rfl (by decide) (by decide) rfl (fun ls hl => ?_)
  refine lv_goto (tgt := 3) hx hb dX5_addWord_48 (by decide) ?_
  refine lv_iload_n hx hb dX5_addWord_3 rfl (lv_at hl 0 rfl) ?_
  refine lv_if_lt (tgt := 51) hx hb dX5_addWord_4 (by decide) (fun c_4 => absurd c_4 (by decide)) (fun _ => ?_)
  refine lv_aload_n hx hb dX5_addWord_7 rfl (lv_at hl 1 rfl) ?_
  refine va_get (D := D) (ci := 5) (v := .int (nI (t + 2))) (C := RX5) (T := TX5) (N := 2) hx hb htb itX5 hown hK hP 0 rfl rfl 1 (by decide) (htb _ k_128) (fun _ h9 => h9) rfl dX5_addWord_8 ?_
  refine lv_aload_n hx hb dX5_addWord_11 rfl (lv_at hl 1 rfl) ?_
  refine va_get (D := D) (ci := 5) (v := .ref b1) (C := RX5) (T := TX5) (N := 2) hx hb htb itX5 hown hK hP 0 rfl rfl 0 (by decide) (htb _ k_126) (fun _ h9 => h9) rfl dX5_addWord_12 ?_
  refine va_alen hx hb hK hP 1 0 rfl rfl (v := 260) rfl dX5_addWord_15 ?_
  refine lv_icmp_ge (tgt := 45) hx hb dX5_addWord_16 (by decide) (fun c_16 => absurd c_16 (nI_ge (b := 260) (by omega) (by decide))) (fun _ => ?_)
  refine lv_aload_n hx hb dX5_addWord_19 rfl (lv_at hl 1 rfl) ?_
  refine va_get (D := D) (ci := 5) (v := .ref b1) (C := RX5) (T := TX5) (N := 2) hx hb htb itX5 hown hK hP 0 rfl rfl 0 (by decide) (htb _ k_126) (fun _ h9 => h9) rfl dX5_addWord_20 ?_
  refine lv_aload_n hx hb dX5_addWord_23 rfl (lv_at hl 1 rfl) ?_
  refine va_get (D := D) (ci := 5) (v := .int (nI (t + 2))) (C := RX5) (T := TX5) (N := 2) hx hb htb itX5 hown hK hP 0 rfl rfl 1 (by decide) (htb _ k_128) (fun _ h9 => h9) rfl dX5_addWord_24 ?_
  refine lv_iload_n hx hb dX5_addWord_27 rfl (lv_at hl 2 rfl) ?_
  refine lv_iload_n hx hb dX5_addWord_28 rfl (lv_at hl 0 rfl) ?_
  refine lv_ishr hx hb dX5_addWord_29 ?_
  refine lv_sipush (v := 255) hx hb dX5_addWord_30 (by decide) ?_
  refine lv_iand hx hb dX5_addWord_33 ?_
  refine lv_topi (fun x_5 ex_5 => ?_)
  refine va_iast hx hb hK hP hD hS 1 0 rfl rfl (vp_in_nI (by omega) (by decide)) dX5_addWord_34 (fun H locs hP hD hS => ?_)
  obtain ⟨f_6, ef_6⟩ : ∃ g : Nat → Int32, g = upd f_4 (Int32.toNatClampNeg (nI (t + 2))) x_5 := ⟨_, rfl⟩
  rw [← ef_6] at hP hD
  have hP : va_P D vwCl [(h0, .inr (5, [.ref b1, .int (nI (t + 2))])), (b1, .inl (cI, 260, .inl f_6))] H := hP
  have hD : va_D A [(h0, .inr (5, [.ref b1, .int (nI (t + 2))])), (b1, .inl (cI, 260, .inl f_6))] := hD
  refine lv_aload_n hx hb dX5_addWord_35 rfl (lv_at hl 1 rfl) ?_
  refine lv_dup hx hb dX5_addWord_36 rfl ?_
  refine va_get (D := D) (ci := 5) (v := .int (nI (t + 2))) (C := RX5) (T := TX5) (N := 2) hx hb htb itX5 hown hK hP 0 rfl rfl 1 (by decide) (htb _ k_128) (fun _ h9 => h9) rfl dX5_addWord_37 ?_
  refine lv_iconst (v := 1) hx hb dX5_addWord_40 (by decide) ?_
  refine lv_iadd hx hb dX5_addWord_41 ?_
  refine tv (z := (nI (t + 3))) (nI_1 (t + 2)) ?_
  refine va_put (D := D) (ci := 5) (v := .int (nI (t + 3))) (ty := .int) (C := RX5) (T := TX5) (N := 2) hx hb htb itX5 tyX5 tyX5_ok nmX5 hown hK hP hD hS 0 rfl rfl 1 (by decide) (htb _ k_128) (fun _ h9 => h9) rfl (tyX5_ok 1 (by decide)) rfl rfl (Nat.le_of_ble_eq_true rfl) dX5_addWord_42 (fun H locs hP hD hS => ?_)
  have hP : va_P D vwCl [(h0, .inr (5, [.ref b1, .int (nI (t + 3))])), (b1, .inl (cI, 260, .inl f_6))] H := hP
  have hD : va_D A [(h0, .inr (5, [.ref b1, .int (nI (t + 3))])), (b1, .inl (cI, 260, .inl f_6))] := hD
  refine lv_iinc (v := 0) (lv' := [(2, .int 0), (0, .ref h0), (1, .int w)]) hx hb dX5_addWord_45 hl (k := 0) rfl (by decide) (by decide) rfl (fun ls hl => ?_)
  refine lv_goto (tgt := 3) hx hb dX5_addWord_48 (by decide) ?_
  refine lv_iload_n hx hb dX5_addWord_3 rfl (lv_at hl 0 rfl) ?_
  refine lv_if_lt (tgt := 51) hx hb dX5_addWord_4 (by decide) (fun c_4 => absurd c_4 (by decide)) (fun _ => ?_)
  refine lv_aload_n hx hb dX5_addWord_7 rfl (lv_at hl 1 rfl) ?_
  refine va_get (D := D) (ci := 5) (v := .int (nI (t + 3))) (C := RX5) (T := TX5) (N := 2) hx hb htb itX5 hown hK hP 0 rfl rfl 1 (by decide) (htb _ k_128) (fun _ h9 => h9) rfl dX5_addWord_8 ?_
  refine lv_aload_n hx hb dX5_addWord_11 rfl (lv_at hl 1 rfl) ?_
  refine va_get (D := D) (ci := 5) (v := .ref b1) (C := RX5) (T := TX5) (N := 2) hx hb htb itX5 hown hK hP 0 rfl rfl 0 (by decide) (htb _ k_126) (fun _ h9 => h9) rfl dX5_addWord_12 ?_
  refine va_alen hx hb hK hP 1 0 rfl rfl (v := 260) rfl dX5_addWord_15 ?_
  refine lv_icmp_ge (tgt := 45) hx hb dX5_addWord_16 (by decide) (fun c_16 => absurd c_16 (nI_ge (b := 260) (by omega) (by decide))) (fun _ => ?_)
  refine lv_aload_n hx hb dX5_addWord_19 rfl (lv_at hl 1 rfl) ?_
  refine va_get (D := D) (ci := 5) (v := .ref b1) (C := RX5) (T := TX5) (N := 2) hx hb htb itX5 hown hK hP 0 rfl rfl 0 (by decide) (htb _ k_126) (fun _ h9 => h9) rfl dX5_addWord_20 ?_
  refine lv_aload_n hx hb dX5_addWord_23 rfl (lv_at hl 1 rfl) ?_
  refine va_get (D := D) (ci := 5) (v := .int (nI (t + 3))) (C := RX5) (T := TX5) (N := 2) hx hb htb itX5 hown hK hP 0 rfl rfl 1 (by decide) (htb _ k_128) (fun _ h9 => h9) rfl dX5_addWord_24 ?_
  refine lv_iload_n hx hb dX5_addWord_27 rfl (lv_at hl 2 rfl) ?_
  refine lv_iload_n hx hb dX5_addWord_28 rfl (lv_at hl 0 rfl) ?_
  refine lv_ishr hx hb dX5_addWord_29 ?_
  refine lv_sipush (v := 255) hx hb dX5_addWord_30 (by decide) ?_
  refine lv_iand hx hb dX5_addWord_33 ?_
  refine lv_topi (fun x_7 ex_7 => ?_)
  refine va_iast hx hb hK hP hD hS 1 0 rfl rfl (vp_in_nI (by omega) (by decide)) dX5_addWord_34 (fun H locs hP hD hS => ?_)
  obtain ⟨f_8, ef_8⟩ : ∃ g : Nat → Int32, g = upd f_6 (Int32.toNatClampNeg (nI (t + 3))) x_7 := ⟨_, rfl⟩
  rw [← ef_8] at hP hD
  have hP : va_P D vwCl [(h0, .inr (5, [.ref b1, .int (nI (t + 3))])), (b1, .inl (cI, 260, .inl f_8))] H := hP
  have hD : va_D A [(h0, .inr (5, [.ref b1, .int (nI (t + 3))])), (b1, .inl (cI, 260, .inl f_8))] := hD
  refine lv_aload_n hx hb dX5_addWord_35 rfl (lv_at hl 1 rfl) ?_
  refine lv_dup hx hb dX5_addWord_36 rfl ?_
  refine va_get (D := D) (ci := 5) (v := .int (nI (t + 3))) (C := RX5) (T := TX5) (N := 2) hx hb htb itX5 hown hK hP 0 rfl rfl 1 (by decide) (htb _ k_128) (fun _ h9 => h9) rfl dX5_addWord_37 ?_
  refine lv_iconst (v := 1) hx hb dX5_addWord_40 (by decide) ?_
  refine lv_iadd hx hb dX5_addWord_41 ?_
  refine tv (z := (nI (t + 4))) (nI_1 (t + 3)) ?_
  refine va_put (D := D) (ci := 5) (v := .int (nI (t + 4))) (ty := .int) (C := RX5) (T := TX5) (N := 2) hx hb htb itX5 tyX5 tyX5_ok nmX5 hown hK hP hD hS 0 rfl rfl 1 (by decide) (htb _ k_128) (fun _ h9 => h9) rfl (tyX5_ok 1 (by decide)) rfl rfl (Nat.le_of_ble_eq_true rfl) dX5_addWord_42 (fun H locs hP hD hS => ?_)
  have hP : va_P D vwCl [(h0, .inr (5, [.ref b1, .int (nI (t + 4))])), (b1, .inl (cI, 260, .inl f_8))] H := hP
  have hD : va_D A [(h0, .inr (5, [.ref b1, .int (nI (t + 4))])), (b1, .inl (cI, 260, .inl f_8))] := hD
  refine lv_iinc (v := (-8)) (lv' := [(2, .int (-8)), (0, .ref h0), (1, .int w)]) hx hb dX5_addWord_45 hl (k := 0) rfl (by decide) (by decide) rfl (fun ls hl => ?_)
  refine lv_goto (tgt := 3) hx hb dX5_addWord_48 (by decide) ?_
  refine lv_iload_n hx hb dX5_addWord_3 rfl (lv_at hl 0 rfl) ?_
  refine lv_if_lt (tgt := 51) hx hb dX5_addWord_4 (by decide) (fun _ => ?_) (fun c_4 => absurd (by decide) c_4)
  exact ret _ _ _ _ f_8 dX5_addWord_51 trivial (hP.sub [0, 1] rfl) (hD.sub [0, 1] (by decide) rfl) hS

set_option maxRecDepth 100000 in
set_option maxHeartbeats 4000000 in
theorem c_X9_areTold (l : Launch) (D : va_G) (cI cB : ClassId) (h0 : Nat) (tp : Nat) (tw : Nat) (nw : Nat) (kp : Nat) (lw : Nat) (lr : Nat) (dd : Nat) (vv : Nat) (tl : Nat) (sc : Nat) (t1 : Nat) (t2 : Nat) (t3 : Nat) (t4 : Nat) (a : Int32)  : MR l D cI cB yX9_areTold cX9_areTold 2 .boolean (rm 0 0) [.ref h0, .int a] [(h0, .inr (9, [.ref tp, .ref tw, .ref nw, .ref kp, .ref lw, .ref lr, .ref dd, .ref vv, .ref tl, .ref sc, .int 0])), (tw, .inr (7, [.int 0, .int 0, .int 0, .ref t1, .ref t2, .ref t3, .ref t4]))] (fun r : Int32 => r = bI (a = 0)) := by
  refine MR.of (by decide) (Nat.le_of_ble_eq_true rfl) ?_
  intro p e s m below meth c Q ls X hN hP hK hl ret
  obtain ⟨hx, hb, hml, hown, htb⟩ := id X
  have hl : lv_has ls 2 [(0, .ref h0), (1, .int a)] := hl
  refine lv_iload_n hx hb dX9_areTold_0 rfl (lv_at hl 1 rfl) ?_
  refine lv_aload_n hx hb dX9_areTold_1 rfl (lv_at hl 0 rfl) ?_
  refine va_get (D := D) (ci := 9) (v := .ref tw) (C := RX9) (T := TX9) (N := 11) hx hb htb itX9 hown hK hP 0 rfl rfl 1 (by decide) (htb _ k_394) (fun _ h9 => h9) rfl dX9_areTold_2 ?_
  refine va_getN (D := D) (ci := 7) (v := .int 0) (C := RX7) (T := TX7) (N := 7) hx hb htb itX7 hown hK hP 1 rfl rfl 0 (by decide) (va_Nw.use rfl (hN _ n_144 rfl)) (fun _ h9 => h9) rfl dX9_areTold_5 ?_
  refine lv_iconst (v := (-1)) hx hb dX9_areTold_8 (by decide) ?_
  refine lv_ixor hx hb dX9_areTold_9 ?_
  refine tv (z := (-1)) (by decide) ?_
  refine lv_iand hx hb dX9_areTold_10 ?_
  refine tv (z := a) (aM1 a) ?_
  refine lv_if_ne (tgt := 18) hx hb dX9_areTold_11 (by decide) (fun c_11 => ?_) (fun c_11 => ?_)
  · refine lv_iconst (v := 0) hx hb dX9_areTold_18 (by decide) ?_
    exact ret _ _ 0 dX9_areTold_19 rfl (bI0 c_11)
  · refine lv_iconst (v := 1) hx hb dX9_areTold_14 (by decide) ?_
    refine lv_goto (tgt := 19) hx hb dX9_areTold_15 (by decide) ?_
    exact ret _ _ 1 dX9_areTold_19 rfl (bI1 c_11)

set_option maxRecDepth 100000 in
set_option maxHeartbeats 4000000 in
theorem c_X9_canLeave (l : Launch) (D : va_G) (cI cB : ClassId) (h0 : Nat) (tp : Nat) (tw : Nat) (nw : Nat) (kp : Nat) (lw : Nat) (lr : Nat) (dd : Nat) (vv : Nat) (tl : Nat) (sc : Nat) (t1 : Nat) (t2 : Nat) (t3 : Nat) (t4 : Nat) (k : Int32)  : MR l D cI cB yX9_canLeave cX9_canLeave 2 .boolean (rm 2 42) [.ref h0, .int k] [(h0, .inr (9, [.ref tp, .ref tw, .ref nw, .ref kp, .ref lw, .ref lr, .ref dd, .ref vv, .ref tl, .ref sc, .int 0])), (tw, .inr (7, [.int 0, .int 0, .int 0, .ref t1, .ref t2, .ref t3, .ref t4]))] (fun r : Int32 => r = 0) := by
  refine MR.of (by decide) (Nat.le_of_ble_eq_true rfl) ?_
  intro p e s m below meth c Q ls X hN hP hK hl ret
  obtain ⟨hx, hb, hml, hown, htb⟩ := id X
  have hl : lv_has ls 2 [(0, .ref h0), (1, .int k)] := hl
  refine lv_aload_n hx hb dX9_canLeave_0 rfl (lv_at hl 0 rfl) ?_
  refine va_get (D := D) (ci := 9) (v := .ref tw) (C := RX9) (T := TX9) (N := 11) hx hb htb itX9 hown hK hP 0 rfl rfl 1 (by decide) (htb _ k_394) (fun _ h9 => h9) rfl dX9_canLeave_1 ?_
  refine lv_iload_n hx hb dX9_canLeave_4 rfl (lv_at hl 1 rfl) ?_
  refine cVR (As := [.int k]) (rest := []) (n := 1) (ci := 7) (q0 := 0) X hN hK hP (c_X7_hasPerson l D cI cB tw 0 t1 t2 t3 t4 k) (gV k_859 k_860 k_861 k_94 k_862) (by decide +kernel) ⟨Nat.le_of_ble_eq_true rfl, Nat.le_of_ble_eq_true rfl⟩ ⟨rfl, rfl⟩ [1] rfl rfl rfl rfl rfl rfl hl.1 (Nat.le_of_ble_eq_true rfl) dX9_canLeave_5 ⟨Nat.le_of_ble_eq_true rfl, Nat.le_of_ble_eq_true rfl⟩ (fun r_1 hr_1 => ?_)
  subst hr_1
  refine lv_if_eq (tgt := 26) hx hb dX9_canLeave_8 (by decide) (fun _ => ?_) (fun c_8 => absurd (by decide) c_8)
  refine lv_iconst (v := 0) hx hb dX9_canLeave_26 (by decide) ?_
  exact ret _ _ 0 dX9_canLeave_27 rfl rfl
end
section
set_option maxRecDepth 100000 in
set_option maxHeartbeats 4000000 in
theorem c_X9_runAway (l : Launch) (D : va_G) (cI cB : ClassId) (sz : Nat) (h0 : Nat) (tp : Nat) (tw : Nat) (nw : Nat) (kp : Nat) (lw : Nat) (lr : Nat) (dd : Nat) (vv : Nat) (tl : Nat) (sc : Nat) (t1 : Nat) (t2 : Nat) (t3 : Nat) (t4 : Nat) (u2 : Nat) (f2 : Nat) (g2 : Nat) (fu2 : Nat → Int32) (ff2 : Nat → Int32) (fg2 : Nat → Int32) (l1 : Nat) (l2 : Nat) (l3 : Nat) (l4 : Nat) (l5 : Nat) (l6 : Nat) (l7 : Nat) (lz : Int32) (lc : Int32) (fl : Nat → Int32) (st : Nat) (m1 : Nat) (c1 : Nat) (d1 : Nat) (idl : Int32) (idf : Int32) (idt : Int32) (fc : Int32) (fp : Int32) (mb : Int32) (ra : Int32) (cl : Int32) (u1 : Nat) (f1 : Nat) (g1 : Nat) (ms : Int32) (dy : Int32) (dr : Int32) (fu : Nat → Int32) (ff : Nat → Int32) (fg : Nat → Int32) (fm : Nat → Int32) (fc1 : Nat → Int32) (fd : Nat → Int32) (N : Nat) (en : Int32) (hu : ∀ j, j < 12 → fu2 j = 0) (hf : ∀ j, j < 10 → ff2 j = -2) (hg : ∀ j, j < 10 → fg2 j = -2) (hN0 : N ≤ 60) : MI (S := ((Nat) × (Nat) × (Nat → Int32) × (Nat → Int32) × (Nat → Int32) × (Nat → Int32) × (Nat → Int32) × (Nat → Int32) × (Nat → Int32))) l D cI cB yX9_runAway cX9_runAway 5 .int (rm 4 102) [.ref h0, .int 0, .int (nI N), .int en] [(h0, .inr (9, [.ref tp, .ref tw, .ref nw, .ref kp, .ref lw, .ref lr, .ref dd, .ref vv, .ref tl, .ref sc, .int 0])), (tw, .inr (7, [.int 0, .int 0, .int 0, .ref t1, .ref t2, .ref t3, .ref t4])), (nw, .inr (4, [.ref u2, .ref f2, .ref g2, .int 0, .int 0, .int 1])), (u2, .inl (cI, 12, .inl fu2)), (f2, .inl (cI, 10, .inl ff2)), (g2, .inl (cI, 10, .inl fg2)), (lw, .inr (1, [.ref l1, .ref l2, .ref l3, .ref l4, .ref l5, .ref l6, .ref l7, .int lz, .int lc])), (l6, .inl (cI, 8, .inl fl)), (tl, .inr (8, [.ref tw, .ref lw, .ref st, .ref m1, .ref c1, .ref d1, .int idl, .int idf, .int idt, .int fc, .int fp, .int mb, .int ra, .int cl])), (st, .inr (4, [.ref u1, .ref f1, .ref g1, .int ms, .int dy, .int dr])), (u1, .inl (cI, 12, .inl fu)), (f1, .inl (cI, 10, .inl ff)), (g1, .inl (cI, 10, .inl fg)), (m1, .inl (cI, 10, .inl fm)), (c1, .inl (cI, 10, .inl fc1)), (d1, .inl (cI, 10, .inl fd))] sz (fun r u => r = 0) (fun u : ((Nat) × (Nat) × (Nat → Int32) × (Nat → Int32) × (Nat → Int32) × (Nat → Int32) × (Nat → Int32) × (Nat → Int32) × (Nat → Int32)) => [(h0, .inr (9, [.ref tp, .ref tw, .ref nw, .ref kp, .ref lw, .ref lr, .ref dd, .ref vv, .ref tl, .ref sc, .int 0])), (tw, .inr (7, [.int 0, .int 0, .int 0, .ref t1, .ref t2, .ref t3, .ref t4])), (nw, .inr (4, [.ref u2, .ref f2, .ref g2, .int 0, .int 0, .int 1])), (u2, .inl (cI, 12, .inl fu2)), (f2, .inl (cI, 10, .inl ff2)), (g2, .inl (cI, 10, .inl fg2)), (lw, .inr (1, [.ref l1, .ref l2, .ref l3, .ref l4, .ref l5, .ref l6, .ref l7, .int lz, .int lc])), (l6, .inl (cI, 8, .inl u.2.2.1)), (tl, .inr (8, [.ref tw, .ref lw, .ref st, .ref m1, .ref c1, .ref d1, .int (-1), .int idf, .int idt, .int (-1), .int fp, .int 0, .int 0, .int (nI u.1)])), (st, .inr (4, [.ref u1, .ref f1, .ref g1, .int 0, .int (nI u.1), .int (nI u.2.1)])), (u1, .inl (cI, 12, .inl u.2.2.2.1)), (f1, .inl (cI, 10, .inl u.2.2.2.2.1)), (g1, .inl (cI, 10, .inl u.2.2.2.2.2.1)), (m1, .inl (cI, 10, .inl u.2.2.2.2.2.2.1)), (c1, .inl (cI, 10, .inl u.2.2.2.2.2.2.2.1)), (d1, .inl (cI, 10, .inl u.2.2.2.2.2.2.2.2))]) := by
  refine MI.of (by decide) (Nat.le_of_ble_eq_true rfl) ?_
  intro p e s m below meth c Q ls A X hin hN hP hK hD hA hl ret
  have hS : va_S A s.heap s.heap [] := va_S.rf
  obtain ⟨hx, hb, hml, hown, htb⟩ := id X
  have hl : lv_has ls 5 [(0, .ref h0), (1, .int 0), (2, .int (nI N)), (3, .int en)] := hl
  refine lv_aload_n hx hb dX9_runAway_0 rfl (lv_at hl 0 rfl) ?_
  refine va_get (D := D) (ci := 9) (v := .ref tl) (C := RX9) (T := TX9) (N := 11) hx hb htb itX9 hown hK hP 0 rfl rfl 8 (by decide) (htb _ k_401) (fun _ h9 => h9) rfl dX9_runAway_1 ?_
  refine lv_aload_n hx hb dX9_runAway_4 rfl (lv_at hl 0 rfl) ?_
  refine va_get (D := D) (ci := 9) (v := .ref nw) (C := RX9) (T := TX9) (N := 11) hx hb htb itX9 hown hK hP 0 rfl rfl 2 (by decide) (htb _ k_395) (fun _ h9 => h9) rfl dX9_runAway_5 ?_
  refine cVV (As := [.ref nw]) (rest := []) (n := 1) (ci := 8) (q0 := 0) (wr := [(h0, .inr (9, [.ref tp, .ref tw, .ref nw, .ref kp, .ref lw, .ref lr, .ref dd, .ref vv, .ref tl, .ref sc, .int 0])), (tw, .inr (7, [.int 0, .int 0, .int 0, .ref t1, .ref t2, .ref t3, .ref t4])), (lw, .inr (1, [.ref l1, .ref l2, .ref l3, .ref l4, .ref l5, .ref l6, .ref l7, .int lz, .int lc])), (l6, .inl (cI, 8, .inl fl)), (c1, .inl (cI, 10, .inl fc1))]) X hN hK hP hD hS hA (c_X8_begin l D cI cB _ tl tw lw st m1 c1 d1 idl idf idt fc fp mb ra cl u1 f1 g1 ms dy dr nw u2 f2 g2 1 fu ff fg fm fd fu2 ff2 fg2 hu hf hg) (gV k_773 k_774 k_775 k_102 k_776) (by decide +kernel) ⟨Nat.le_of_ble_eq_true rfl, Nat.le_of_ble_eq_true rfl⟩ ⟨rfl, rfl⟩ [8, 9, 10, 11, 12, 13, 15, 2, 3, 4, 5] [0, 1, 6, 7, 14] rfl rfl (by decide) (by decide) rfl rfl rfl rfl rfl hl.1 (Nat.le_of_ble_eq_true rfl) dX9_runAway_8 ⟨Nat.le_of_ble_eq_true rfl, Nat.le_of_ble_eq_true rfl⟩ (fun u H locs hw_7 hP hD hS => ?_)
  obtain ⟨uo_2, fo_3, go_4, mo_5, do__6⟩ := u
  try dsimp only at hw_7
  have hP : va_P D vwCl [(h0, .inr (9, [.ref tp, .ref tw, .ref nw, .ref kp, .ref lw, .ref lr, .ref dd, .ref vv, .ref tl, .ref sc, .int 0])), (tw, .inr (7, [.int 0, .int 0, .int 0, .ref t1, .ref t2, .ref t3, .ref t4])), (lw, .inr (1, [.ref l1, .ref l2, .ref l3, .ref l4, .ref l5, .ref l6, .ref l7, .int lz, .int lc])), (l6, .inl (cI, 8, .inl fl)), (c1, .inl (cI, 10, .inl fc1)), (tl, .inr (8, [.ref tw, .ref lw, .ref st, .ref m1, .ref c1, .ref d1, .int (-1), .int idf, .int idt, .int (-1), .int fp, .int 0, .int 0, .int 0])), (st, .inr (4, [.ref u1, .ref f1, .ref g1, .int 0, .int 0, .int 1])), (u1, .inl (cI, 12, .inl uo_2)), (f1, .inl (cI, 10, .inl fo_3)), (g1, .inl (cI, 10, .inl go_4)), (m1, .inl (cI, 10, .inl mo_5)), (d1, .inl (cI, 10, .inl do__6)), (nw, .inr (4, [.ref u2, .ref f2, .ref g2, .int 0, .int 0, .int 1])), (u2, .inl (cI, 12, .inl fu2)), (f2, .inl (cI, 10, .inl ff2)), (g2, .inl (cI, 10, .inl fg2))] H := hP
  have hD : va_D A [(h0, .inr (9, [.ref tp, .ref tw, .ref nw, .ref kp, .ref lw, .ref lr, .ref dd, .ref vv, .ref tl, .ref sc, .int 0])), (tw, .inr (7, [.int 0, .int 0, .int 0, .ref t1, .ref t2, .ref t3, .ref t4])), (lw, .inr (1, [.ref l1, .ref l2, .ref l3, .ref l4, .ref l5, .ref l6, .ref l7, .int lz, .int lc])), (l6, .inl (cI, 8, .inl fl)), (c1, .inl (cI, 10, .inl fc1)), (tl, .inr (8, [.ref tw, .ref lw, .ref st, .ref m1, .ref c1, .ref d1, .int (-1), .int idf, .int idt, .int (-1), .int fp, .int 0, .int 0, .int 0])), (st, .inr (4, [.ref u1, .ref f1, .ref g1, .int 0, .int 0, .int 1])), (u1, .inl (cI, 12, .inl uo_2)), (f1, .inl (cI, 10, .inl fo_3)), (g1, .inl (cI, 10, .inl go_4)), (m1, .inl (cI, 10, .inl mo_5)), (d1, .inl (cI, 10, .inl do__6)), (nw, .inr (4, [.ref u2, .ref f2, .ref g2, .int 0, .int 0, .int 1])), (u2, .inl (cI, 12, .inl fu2)), (f2, .inl (cI, 10, .inl ff2)), (g2, .inl (cI, 10, .inl fg2))] := hD
  refine lv_aload_n hx hb dX9_runAway_11 rfl (lv_at hl 0 rfl) ?_
  refine va_get (D := D) (ci := 9) (v := .ref tl) (C := RX9) (T := TX9) (N := 11) hx hb htb itX9 hown hK hP 0 rfl rfl 8 (by decide) (htb _ k_401) (fun _ h9 => h9) rfl dX9_runAway_12 ?_
  refine va_getN (D := D) (ci := 8) (v := .ref st) (C := RX8) (T := TX8) (N := 14) hx hb htb itX8 hown hK hP 5 rfl rfl 2 (by decide) (va_Nw.use rfl (hN _ n_348 rfl)) (fun _ h9 => h9) rfl dX9_runAway_15 ?_
  refine lv_sipush (v := 1023) hx hb dX9_runAway_18 (by decide) ?_
  refine cVV (As := [.int 1023]) (rest := []) (n := 1) (ci := 4) (q0 := 0) (wr := [(h0, .inr (9, [.ref tp, .ref tw, .ref nw, .ref kp, .ref lw, .ref lr, .ref dd, .ref vv, .ref tl, .ref sc, .int 0])), (tw, .inr (7, [.int 0, .int 0, .int 0, .ref t1, .ref t2, .ref t3, .ref t4])), (lw, .inr (1, [.ref l1, .ref l2, .ref l3, .ref l4, .ref l5, .ref l6, .ref l7, .int lz, .int lc])), (l6, .inl (cI, 8, .inl fl)), (c1, .inl (cI, 10, .inl fc1)), (tl, .inr (8, [.ref tw, .ref lw, .ref st, .ref m1, .ref c1, .ref d1, .int (-1), .int idf, .int idt, .int (-1), .int fp, .int 0, .int 0, .int 0])), (u1, .inl (cI, 12, .inl uo_2)), (m1, .inl (cI, 10, .inl mo_5)), (d1, .inl (cI, 10, .inl do__6)), (nw, .inr (4, [.ref u2, .ref f2, .ref g2, .int 0, .int 0, .int 1])), (u2, .inl (cI, 12, .inl fu2)), (f2, .inl (cI, 10, .inl ff2)), (g2, .inl (cI, 10, .inl fg2))]) X hN hK hP hD hS hA (c_X4_endLeaves l D cI cB _ st u1 f1 g1 0 0 1 1023 fo_3 go_4 hw_7.2.1 hw_7.2.2.1) (gV k_760 k_734 k_735 k_95 k_736) (by decide +kernel) ⟨Nat.le_of_ble_eq_true rfl, Nat.le_of_ble_eq_true rfl⟩ ⟨rfl, rfl⟩ [6, 8, 9] [0, 1, 2, 3, 4, 5, 7, 10, 11, 12, 13, 14, 15] rfl rfl (by decide) (by decide) rfl rfl rfl rfl rfl hl.1 (Nat.le_of_ble_eq_true rfl) dX9_runAway_21 ⟨Nat.le_of_ble_eq_true rfl, Nat.le_of_ble_eq_true rfl⟩ (fun u H locs hw_11 hP hD hS => ?_)
  obtain ⟨fo_9, go_10⟩ := u
  try dsimp only at hw_11
  have hP : va_P D vwCl [(h0, .inr (9, [.ref tp, .ref tw, .ref nw, .ref kp, .ref lw, .ref lr, .ref dd, .ref vv, .ref tl, .ref sc, .int 0])), (tw, .inr (7, [.int 0, .int 0, .int 0, .ref t1, .ref t2, .ref t3, .ref t4])), (lw, .inr (1, [.ref l1, .ref l2, .ref l3, .ref l4, .ref l5, .ref l6, .ref l7, .int lz, .int lc])), (l6, .inl (cI, 8, .inl fl)), (c1, .inl (cI, 10, .inl fc1)), (tl, .inr (8, [.ref tw, .ref lw, .ref st, .ref m1, .ref c1, .ref d1, .int (-1), .int idf, .int idt, .int (-1), .int fp, .int 0, .int 0, .int 0])), (u1, .inl (cI, 12, .inl uo_2)), (m1, .inl (cI, 10, .inl mo_5)), (d1, .inl (cI, 10, .inl do__6)), (nw, .inr (4, [.ref u2, .ref f2, .ref g2, .int 0, .int 0, .int 1])), (u2, .inl (cI, 12, .inl fu2)), (f2, .inl (cI, 10, .inl ff2)), (g2, .inl (cI, 10, .inl fg2)), (st, .inr (4, [.ref u1, .ref f1, .ref g1, .int 0, .int 0, .int 1])), (f1, .inl (cI, 10, .inl fo_9)), (g1, .inl (cI, 10, .inl go_10))] H := hP
  have hD : va_D A [(h0, .inr (9, [.ref tp, .ref tw, .ref nw, .ref kp, .ref lw, .ref lr, .ref dd, .ref vv, .ref tl, .ref sc, .int 0])), (tw, .inr (7, [.int 0, .int 0, .int 0, .ref t1, .ref t2, .ref t3, .ref t4])), (lw, .inr (1, [.ref l1, .ref l2, .ref l3, .ref l4, .ref l5, .ref l6, .ref l7, .int lz, .int lc])), (l6, .inl (cI, 8, .inl fl)), (c1, .inl (cI, 10, .inl fc1)), (tl, .inr (8, [.ref tw, .ref lw, .ref st, .ref m1, .ref c1, .ref d1, .int (-1), .int idf, .int idt, .int (-1), .int fp, .int 0, .int 0, .int 0])), (u1, .inl (cI, 12, .inl uo_2)), (m1, .inl (cI, 10, .inl mo_5)), (d1, .inl (cI, 10, .inl do__6)), (nw, .inr (4, [.ref u2, .ref f2, .ref g2, .int 0, .int 0, .int 1])), (u2, .inl (cI, 12, .inl fu2)), (f2, .inl (cI, 10, .inl ff2)), (g2, .inl (cI, 10, .inl fg2)), (st, .inr (4, [.ref u1, .ref f1, .ref g1, .int 0, .int 0, .int 1])), (f1, .inl (cI, 10, .inl fo_9)), (g1, .inl (cI, 10, .inl go_10))] := hD
  refine lv_iconst (v := 0) hx hb dX9_runAway_24 (by decide) ?_
  refine lv_istore (lv' := [(4, .int 0), (0, .ref h0), (1, .int 0), (2, .int (nI N)), (3, .int en)]) hx hb dX9_runAway_25 hl (by decide) rfl (fun ls hl => ?_)
  have loop_27 : ∀ (n i : Nat), n + i = 10 → ∀ (H : Heap) (locs : List Loc), va_P D vwCl [(h0, .inr (9, [.ref tp, .ref tw, .ref nw, .ref kp, .ref lw, .ref lr, .ref dd, .ref vv, .ref tl, .ref sc, .int 0])), (tw, .inr (7, [.int 0, .int 0, .int 0, .ref t1, .ref t2, .ref t3, .ref t4])), (lw, .inr (1, [.ref l1, .ref l2, .ref l3, .ref l4, .ref l5, .ref l6, .ref l7, .int lz, .int lc])), (l6, .inl (cI, 8, .inl fl)), (c1, .inl (cI, 10, .inl fc1)), (tl, .inr (8, [.ref tw, .ref lw, .ref st, .ref m1, .ref c1, .ref d1, .int (-1), .int idf, .int idt, .int (-1), .int fp, .int 0, .int 0, .int 0])), (u1, .inl (cI, 12, .inl uo_2)), (m1, .inl (cI, 10, .inl mo_5)), (d1, .inl (cI, 10, .inl do__6)), (nw, .inr (4, [.ref u2, .ref f2, .ref g2, .int 0, .int 0, .int 1])), (u2, .inl (cI, 12, .inl fu2)), (f2, .inl (cI, 10, .inl ff2)), (g2, .inl (cI, 10, .inl fg2)), (st, .inr (4, [.ref u1, .ref f1, .ref g1, .int 0, .int 0, .int 1])), (f1, .inl (cI, 10, .inl fo_9)), (g1, .inl (cI, 10, .inl go_10))] H → va_D A [(h0, .inr (9, [.ref tp, .ref tw, .ref nw, .ref kp, .ref lw, .ref lr, .ref dd, .ref vv, .ref tl, .ref sc, .int 0])), (tw, .inr (7, [.int 0, .int 0, .int 0, .ref t1, .ref t2, .ref t3, .ref t4])), (lw, .inr (1, [.ref l1, .ref l2, .ref l3, .ref l4, .ref l5, .ref l6, .ref l7, .int lz, .int lc])), (l6, .inl (cI, 8, .inl fl)), (c1, .inl (cI, 10, .inl fc1)), (tl, .inr (8, [.ref tw, .ref lw, .ref st, .ref m1, .ref c1, .ref d1, .int (-1), .int idf, .int idt, .int (-1), .int fp, .int 0, .int 0, .int 0])), (u1, .inl (cI, 12, .inl uo_2)), (m1, .inl (cI, 10, .inl mo_5)), (d1, .inl (cI, 10, .inl do__6)), (nw, .inr (4, [.ref u2, .ref f2, .ref g2, .int 0, .int 0, .int 1])), (u2, .inl (cI, 12, .inl fu2)), (f2, .inl (cI, 10, .inl ff2)), (g2, .inl (cI, 10, .inl fg2)), (st, .inr (4, [.ref u1, .ref f1, .ref g1, .int 0, .int 0, .int 1])), (f1, .inl (cI, 10, .inl fo_9)), (g1, .inl (cI, 10, .inl go_10))] → va_S A s.heap H locs → ∀ (ls : Array Slot), lv_has ls 5 [(0, .ref h0), (1, .int 0), (2, .int (nI N)), (3, .int en), (4, .int (nI i))] → W p l e (rm 4 102) s m ([.ref h0, .int 0, .int (nI N), .int en] : List Value).toArray below meth c H locs 0 0 Q (F0 m 27 ls []) := by
    intro n
    induction n with
    | zero =>
      intro i hni H locs hP hD hS ls hl
      have hi : i = 10 := by omega
      subst hi
      refine lv_iload hx hb dX9_runAway_27 (lv_at hl 4 rfl) ?_
      refine lv_bipush (v := 10) hx hb dX9_runAway_29 (by decide) ?_
      refine lv_icmp_ge (tgt := 71) hx hb dX9_runAway_31 (by decide) (fun _ => ?_) (fun c_31 => absurd (by decide) c_31)
      refine lv_aload_n hx hb dX9_runAway_71 rfl (lv_at hl 0 rfl) ?_
      refine va_get (D := D) (ci := 9) (v := .ref tl) (C := RX9) (T := TX9) (N := 11) hx hb htb itX9 hown hK hP 0 rfl rfl 8 (by decide) (htb _ k_401) (fun _ h9 => h9) rfl dX9_runAway_72 ?_
      refine lv_iload_n hx hb dX9_runAway_75 rfl (lv_at hl 2 rfl) ?_
      refine lv_iload_n hx hb dX9_runAway_76 rfl (lv_at hl 3 rfl) ?_
      refine cVI (As := [.int (nI N), .int en]) (rest := []) (n := 2) (ci := 8) (q0 := 0) (wr := [(h0, .inr (9, [.ref tp, .ref tw, .ref nw, .ref kp, .ref lw, .ref lr, .ref dd, .ref vv, .ref tl, .ref sc, .int 0])), (u1, .inl (cI, 12, .inl uo_2)), (m1, .inl (cI, 10, .inl mo_5)), (d1, .inl (cI, 10, .inl do__6)), (nw, .inr (4, [.ref u2, .ref f2, .ref g2, .int 0, .int 0, .int 1])), (u2, .inl (cI, 12, .inl fu2)), (f2, .inl (cI, 10, .inl ff2)), (g2, .inl (cI, 10, .inl fg2))]) X hN hK hP hD hS hA (c_X8_run l D cI cB _ tl tw lw st m1 c1 d1 (-1) idf idt (-1) fp l1 l2 l3 l4 l5 l6 l7 lz lc t1 t2 t3 t4 u1 f1 g1 N en 1 fl fo_9 go_10 fc1 hN0 (by decide) hw_11.2) (gV k_784 k_785 k_786 k_102 k_787) (by decide +kernel) ⟨Nat.le_of_ble_eq_true rfl, Nat.le_of_ble_eq_true rfl⟩ ⟨rfl, rfl⟩ [5, 1, 2, 3, 13, 14, 15, 4] [0, 6, 7, 8, 9, 10, 11, 12] rfl rfl (by decide) (by decide) rfl rfl rfl rfl rfl hl.1 (Nat.le_of_ble_eq_true rfl) dX9_runAway_77 ⟨Nat.le_of_ble_eq_true rfl, Nat.le_of_ble_eq_true rfl⟩ (fun r_12 u H locs hw_17 hP hD hS => ?_)
      obtain ⟨jo_13, ko_14, lo_15, co_16⟩ := u
      try dsimp only at hw_17
      have hP : va_P D vwCl [(h0, .inr (9, [.ref tp, .ref tw, .ref nw, .ref kp, .ref lw, .ref lr, .ref dd, .ref vv, .ref tl, .ref sc, .int 0])), (u1, .inl (cI, 12, .inl uo_2)), (m1, .inl (cI, 10, .inl mo_5)), (d1, .inl (cI, 10, .inl do__6)), (nw, .inr (4, [.ref u2, .ref f2, .ref g2, .int 0, .int 0, .int 1])), (u2, .inl (cI, 12, .inl fu2)), (f2, .inl (cI, 10, .inl ff2)), (g2, .inl (cI, 10, .inl fg2)), (tl, .inr (8, [.ref tw, .ref lw, .ref st, .ref m1, .ref c1, .ref d1, .int (-1), .int idf, .int idt, .int (-1), .int fp, .int 0, .int 0, .int (nI jo_13)])), (tw, .inr (7, [.int 0, .int 0, .int 0, .ref t1, .ref t2, .ref t3, .ref t4])), (lw, .inr (1, [.ref l1, .ref l2, .ref l3, .ref l4, .ref l5, .ref l6, .ref l7, .int lz, .int lc])), (l6, .inl (cI, 8, .inl lo_15)), (st, .inr (4, [.ref u1, .ref f1, .ref g1, .int 0, .int (nI jo_13), .int (nI ko_14)])), (f1, .inl (cI, 10, .inl fo_9)), (g1, .inl (cI, 10, .inl go_10)), (c1, .inl (cI, 10, .inl co_16))] H := hP
      have hD : va_D A [(h0, .inr (9, [.ref tp, .ref tw, .ref nw, .ref kp, .ref lw, .ref lr, .ref dd, .ref vv, .ref tl, .ref sc, .int 0])), (u1, .inl (cI, 12, .inl uo_2)), (m1, .inl (cI, 10, .inl mo_5)), (d1, .inl (cI, 10, .inl do__6)), (nw, .inr (4, [.ref u2, .ref f2, .ref g2, .int 0, .int 0, .int 1])), (u2, .inl (cI, 12, .inl fu2)), (f2, .inl (cI, 10, .inl ff2)), (g2, .inl (cI, 10, .inl fg2)), (tl, .inr (8, [.ref tw, .ref lw, .ref st, .ref m1, .ref c1, .ref d1, .int (-1), .int idf, .int idt, .int (-1), .int fp, .int 0, .int 0, .int (nI jo_13)])), (tw, .inr (7, [.int 0, .int 0, .int 0, .ref t1, .ref t2, .ref t3, .ref t4])), (lw, .inr (1, [.ref l1, .ref l2, .ref l3, .ref l4, .ref l5, .ref l6, .ref l7, .int lz, .int lc])), (l6, .inl (cI, 8, .inl lo_15)), (st, .inr (4, [.ref u1, .ref f1, .ref g1, .int 0, .int (nI jo_13), .int (nI ko_14)])), (f1, .inl (cI, 10, .inl fo_9)), (g1, .inl (cI, 10, .inl go_10)), (c1, .inl (cI, 10, .inl co_16))] := hD
      exact ret _ _ _ _ r_12 (jo_13, ko_14, lo_15, uo_2, fo_9, go_10, mo_5, co_16, do__6) dX9_runAway_80 rfl hw_17.1 (hP.sub [0, 9, 4, 5, 6, 7, 10, 11, 8, 12, 1, 13, 14, 2, 15, 3] rfl) (hD.sub [0, 9, 4, 5, 6, 7, 10, 11, 8, 12, 1, 13, 14, 2, 15, 3] (by decide) rfl) hS
    | succ n ih =>
      intro i hni H locs hP hD hS ls hl
      have hi : i < 10 := by omega
      refine lv_iload hx hb dX9_runAway_27 (lv_at hl 4 rfl) ?_
      refine lv_bipush (v := 10) hx hb dX9_runAway_29 (by decide) ?_
      refine lv_icmp_ge (tgt := 71) hx hb dX9_runAway_31 (by decide) (fun c_31 => absurd c_31 (nI_ge hi (by decide))) (fun _ => ?_)
      refine lv_iload_n hx hb dX9_runAway_34 rfl (lv_at hl 1 rfl) ?_
      refine lv_iload hx hb dX9_runAway_35 (lv_at hl 4 rfl) ?_
      refine cSR (As := [.int 0, .int (nI i)]) (rest := []) (n := 2) X hN hK hP (c_X9_isIn l D cI cB 0 (nI i)) k_927 k_696 k_92 k_697 (by decide +kernel) ⟨Nat.le_of_ble_eq_true rfl, Nat.le_of_ble_eq_true rfl⟩ ⟨rfl, rfl⟩ [] rfl rfl rfl hl.1 (Nat.le_of_ble_eq_true rfl) dX9_runAway_37 ⟨Nat.le_of_ble_eq_true rfl, Nat.le_of_ble_eq_true rfl⟩ (fun r1 hr1 => ?_)
      refine lv_if_eq (tgt := 65) hx hb dX9_runAway_40 (by decide) (fun _ => ?_) (fun c_40 => absurd (hr1.2 rfl) c_40)
      refine lv_iinc (v := (nI (i + 1))) (lv' := [(4, .int (nI (i + 1))), (0, .ref h0), (1, .int 0), (2, .int (nI N)), (3, .int en)]) hx hb dX9_runAway_65 hl (k := 4) rfl (nI_1 i) (by decide) rfl (fun ls hl => ?_)
      refine lv_goto (tgt := 27) hx hb dX9_runAway_68 (by decide) ?_
      exact ih (i + 1) (by omega) _ _ (hP.sub [0, 1, 2, 3, 4, 5, 6, 7, 8, 9, 10, 11, 12, 13, 14, 15] rfl) (hD.sub [0, 1, 2, 3, 4, 5, 6, 7, 8, 9, 10, 11, 12, 13, 14, 15] (by decide) rfl) hS _ (lv_sub hl [1, 2, 3, 4, 0] rfl)
  exact loop_27 10 0 (by omega) _ _ (hP.sub [0, 1, 2, 3, 4, 5, 6, 7, 8, 9, 10, 11, 12, 13, 14, 15] rfl) (hD.sub [0, 1, 2, 3, 4, 5, 6, 7, 8, 9, 10, 11, 12, 13, 14, 15] (by decide) rfl) hS _ (lv_sub hl [1, 2, 3, 4, 0] rfl)

set_option maxRecDepth 100000 in
set_option maxHeartbeats 4000000 in
theorem c_X9_costIf (l : Launch) (D : va_G) (cI cB : ClassId) (sz : Nat) (h0 : Nat) (tp : Nat) (tw : Nat) (nw : Nat) (kp : Nat) (lw : Nat) (lr : Nat) (dd : Nat) (vv : Nat) (tl : Nat) (sc : Nat) (t1 : Nat) (t2 : Nat) (t3 : Nat) (t4 : Nat) (u2 : Nat) (f2 : Nat) (g2 : Nat) (fu2 : Nat → Int32) (ff2 : Nat → Int32) (fg2 : Nat → Int32) (l1 : Nat) (l2 : Nat) (l3 : Nat) (l4 : Nat) (l5 : Nat) (l6 : Nat) (l7 : Nat) (lz : Int32) (lc : Int32) (fl : Nat → Int32) (st : Nat) (m1 : Nat) (c1 : Nat) (d1 : Nat) (idl : Int32) (idf : Int32) (idt : Int32) (fc : Int32) (fp : Int32) (mb : Int32) (ra : Int32) (cl : Int32) (u1 : Nat) (f1 : Nat) (g1 : Nat) (ms : Int32) (dy : Int32) (dr : Int32) (fu : Nat → Int32) (ff : Nat → Int32) (fg : Nat → Int32) (fm : Nat → Int32) (fc1 : Nat → Int32) (fd : Nat → Int32) (N : Nat) (a : Int32) (hu : ∀ j, j < 12 → fu2 j = 0) (hf : ∀ j, j < 10 → ff2 j = -2) (hg : ∀ j, j < 10 → fg2 j = -2) (hN0 : N ≤ 60) : MI (S := Unit) l D cI cB yX9_costIf cX9_costIf 6 .int (rm 4 102) [.ref h0, .int a, .int (nI N), .int (-1), .int (-1), .int (-1)] [(h0, .inr (9, [.ref tp, .ref tw, .ref nw, .ref kp, .ref lw, .ref lr, .ref dd, .ref vv, .ref tl, .ref sc, .int 0])), (tw, .inr (7, [.int 0, .int 0, .int 0, .ref t1, .ref t2, .ref t3, .ref t4])), (nw, .inr (4, [.ref u2, .ref f2, .ref g2, .int 0, .int 0, .int 1])), (u2, .inl (cI, 12, .inl fu2)), (f2, .inl (cI, 10, .inl ff2)), (g2, .inl (cI, 10, .inl fg2)), (lw, .inr (1, [.ref l1, .ref l2, .ref l3, .ref l4, .ref l5, .ref l6, .ref l7, .int lz, .int lc])), (l6, .inl (cI, 8, .inl fl)), (tl, .inr (8, [.ref tw, .ref lw, .ref st, .ref m1, .ref c1, .ref d1, .int idl, .int idf, .int idt, .int fc, .int fp, .int mb, .int ra, .int cl])), (st, .inr (4, [.ref u1, .ref f1, .ref g1, .int ms, .int dy, .int dr])), (u1, .inl (cI, 12, .inl fu)), (f1, .inl (cI, 10, .inl ff)), (g1, .inl (cI, 10, .inl fg)), (m1, .inl (cI, 10, .inl fm)), (c1, .inl (cI, 10, .inl fc1)), (d1, .inl (cI, 10, .inl fd))] sz (fun r u => r = 0) (fun u : Unit => []) := by
  refine MI.of (by decide) (Nat.le_of_ble_eq_true rfl) ?_
  intro p e s m below meth c Q ls A X hin hN hP hK hD hA hl ret
  have hS : va_S A s.heap s.heap [] := va_S.rf
  obtain ⟨hx, hb, hml, hown, htb⟩ := id X
  have hl : lv_has ls 6 [(0, .ref h0), (1, .int a), (2, .int (nI N)), (3, .int (-1)), (4, .int (-1)), (5, .int (-1))] := hl
  refine lv_aload_n hx hb dX9_costIf_0 rfl (lv_at hl 0 rfl) ?_
  refine va_get (D := D) (ci := 9) (v := .ref tl) (C := RX9) (T := TX9) (N := 11) hx hb htb itX9 hown hK hP 0 rfl rfl 8 (by decide) (htb _ k_401) (fun _ h9 => h9) rfl dX9_costIf_1 ?_
  refine lv_aload_n hx hb dX9_costIf_4 rfl (lv_at hl 0 rfl) ?_
  refine va_get (D := D) (ci := 9) (v := .ref nw) (C := RX9) (T := TX9) (N := 11) hx hb htb itX9 hown hK hP 0 rfl rfl 2 (by decide) (htb _ k_395) (fun _ h9 => h9) rfl dX9_costIf_5 ?_
  refine cVV (As := [.ref nw]) (rest := []) (n := 1) (ci := 8) (q0 := 0) (wr := [(h0, .inr (9, [.ref tp, .ref tw, .ref nw, .ref kp, .ref lw, .ref lr, .ref dd, .ref vv, .ref tl, .ref sc, .int 0])), (tw, .inr (7, [.int 0, .int 0, .int 0, .ref t1, .ref t2, .ref t3, .ref t4])), (lw, .inr (1, [.ref l1, .ref l2, .ref l3, .ref l4, .ref l5, .ref l6, .ref l7, .int lz, .int lc])), (l6, .inl (cI, 8, .inl fl)), (c1, .inl (cI, 10, .inl fc1))]) X hN hK hP hD hS hA (c_X8_begin l D cI cB _ tl tw lw st m1 c1 d1 idl idf idt fc fp mb ra cl u1 f1 g1 ms dy dr nw u2 f2 g2 1 fu ff fg fm fd fu2 ff2 fg2 hu hf hg) (gV k_773 k_774 k_775 k_102 k_776) (by decide +kernel) ⟨Nat.le_of_ble_eq_true rfl, Nat.le_of_ble_eq_true rfl⟩ ⟨rfl, rfl⟩ [8, 9, 10, 11, 12, 13, 15, 2, 3, 4, 5] [0, 1, 6, 7, 14] rfl rfl (by decide) (by decide) rfl rfl rfl rfl rfl hl.1 (Nat.le_of_ble_eq_true rfl) dX9_costIf_8 ⟨Nat.le_of_ble_eq_true rfl, Nat.le_of_ble_eq_true rfl⟩ (fun u H locs hw_7 hP hD hS => ?_)
  obtain ⟨uo_2, fo_3, go_4, mo_5, do__6⟩ := u
  try dsimp only at hw_7
  have hP : va_P D vwCl [(h0, .inr (9, [.ref tp, .ref tw, .ref nw, .ref kp, .ref lw, .ref lr, .ref dd, .ref vv, .ref tl, .ref sc, .int 0])), (tw, .inr (7, [.int 0, .int 0, .int 0, .ref t1, .ref t2, .ref t3, .ref t4])), (lw, .inr (1, [.ref l1, .ref l2, .ref l3, .ref l4, .ref l5, .ref l6, .ref l7, .int lz, .int lc])), (l6, .inl (cI, 8, .inl fl)), (c1, .inl (cI, 10, .inl fc1)), (tl, .inr (8, [.ref tw, .ref lw, .ref st, .ref m1, .ref c1, .ref d1, .int (-1), .int idf, .int idt, .int (-1), .int fp, .int 0, .int 0, .int 0])), (st, .inr (4, [.ref u1, .ref f1, .ref g1, .int 0, .int 0, .int 1])), (u1, .inl (cI, 12, .inl uo_2)), (f1, .inl (cI, 10, .inl fo_3)), (g1, .inl (cI, 10, .inl go_4)), (m1, .inl (cI, 10, .inl mo_5)), (d1, .inl (cI, 10, .inl do__6)), (nw, .inr (4, [.ref u2, .ref f2, .ref g2, .int 0, .int 0, .int 1])), (u2, .inl (cI, 12, .inl fu2)), (f2, .inl (cI, 10, .inl ff2)), (g2, .inl (cI, 10, .inl fg2))] H := hP
  have hD : va_D A [(h0, .inr (9, [.ref tp, .ref tw, .ref nw, .ref kp, .ref lw, .ref lr, .ref dd, .ref vv, .ref tl, .ref sc, .int 0])), (tw, .inr (7, [.int 0, .int 0, .int 0, .ref t1, .ref t2, .ref t3, .ref t4])), (lw, .inr (1, [.ref l1, .ref l2, .ref l3, .ref l4, .ref l5, .ref l6, .ref l7, .int lz, .int lc])), (l6, .inl (cI, 8, .inl fl)), (c1, .inl (cI, 10, .inl fc1)), (tl, .inr (8, [.ref tw, .ref lw, .ref st, .ref m1, .ref c1, .ref d1, .int (-1), .int idf, .int idt, .int (-1), .int fp, .int 0, .int 0, .int 0])), (st, .inr (4, [.ref u1, .ref f1, .ref g1, .int 0, .int 0, .int 1])), (u1, .inl (cI, 12, .inl uo_2)), (f1, .inl (cI, 10, .inl fo_3)), (g1, .inl (cI, 10, .inl go_4)), (m1, .inl (cI, 10, .inl mo_5)), (d1, .inl (cI, 10, .inl do__6)), (nw, .inr (4, [.ref u2, .ref f2, .ref g2, .int 0, .int 0, .int 1])), (u2, .inl (cI, 12, .inl fu2)), (f2, .inl (cI, 10, .inl ff2)), (g2, .inl (cI, 10, .inl fg2))] := hD
  refine lv_aload_n hx hb dX9_costIf_11 rfl (lv_at hl 0 rfl) ?_
  refine va_get (D := D) (ci := 9) (v := .ref tl) (C := RX9) (T := TX9) (N := 11) hx hb htb itX9 hown hK hP 0 rfl rfl 8 (by decide) (htb _ k_401) (fun _ h9 => h9) rfl dX9_costIf_12 ?_
  refine va_getN (D := D) (ci := 8) (v := .ref st) (C := RX8) (T := TX8) (N := 14) hx hb htb itX8 hown hK hP 5 rfl rfl 2 (by decide) (va_Nw.use rfl (hN _ n_348 rfl)) (fun _ h9 => h9) rfl dX9_costIf_15 ?_
  refine lv_iload_n hx hb dX9_costIf_18 rfl (lv_at hl 1 rfl) ?_
  refine lv_iconst (v := (-1)) hx hb dX9_costIf_19 (by decide) ?_
  refine lv_ixor hx hb dX9_costIf_20 ?_
  refine cVV (As := [.int (a ^^^ (-1))]) (rest := []) (n := 1) (ci := 4) (q0 := 0) (wr := [(h0, .inr (9, [.ref tp, .ref tw, .ref nw, .ref kp, .ref lw, .ref lr, .ref dd, .ref vv, .ref tl, .ref sc, .int 0])), (tw, .inr (7, [.int 0, .int 0, .int 0, .ref t1, .ref t2, .ref t3, .ref t4])), (lw, .inr (1, [.ref l1, .ref l2, .ref l3, .ref l4, .ref l5, .ref l6, .ref l7, .int lz, .int lc])), (l6, .inl (cI, 8, .inl fl)), (c1, .inl (cI, 10, .inl fc1)), (tl, .inr (8, [.ref tw, .ref lw, .ref st, .ref m1, .ref c1, .ref d1, .int (-1), .int idf, .int idt, .int (-1), .int fp, .int 0, .int 0, .int 0])), (u1, .inl (cI, 12, .inl uo_2)), (m1, .inl (cI, 10, .inl mo_5)), (d1, .inl (cI, 10, .inl do__6)), (nw, .inr (4, [.ref u2, .ref f2, .ref g2, .int 0, .int 0, .int 1])), (u2, .inl (cI, 12, .inl fu2)), (f2, .inl (cI, 10, .inl ff2)), (g2, .inl (cI, 10, .inl fg2))]) X hN hK hP hD hS hA (c_X4_endLeaves l D cI cB _ st u1 f1 g1 0 0 1 (a ^^^ (-1)) fo_3 go_4 hw_7.2.1 hw_7.2.2.1) (gV k_760 k_734 k_735 k_95 k_736) (by decide +kernel) ⟨Nat.le_of_ble_eq_true rfl, Nat.le_of_ble_eq_true rfl⟩ ⟨rfl, rfl⟩ [6, 8, 9] [0, 1, 2, 3, 4, 5, 7, 10, 11, 12, 13, 14, 15] rfl rfl (by decide) (by decide) rfl rfl rfl rfl rfl hl.1 (Nat.le_of_ble_eq_true rfl) dX9_costIf_21 ⟨Nat.le_of_ble_eq_true rfl, Nat.le_of_ble_eq_true rfl⟩ (fun u H locs hw_11 hP hD hS => ?_)
  obtain ⟨fo_9, go_10⟩ := u
  try dsimp only at hw_11
  have hP : va_P D vwCl [(h0, .inr (9, [.ref tp, .ref tw, .ref nw, .ref kp, .ref lw, .ref lr, .ref dd, .ref vv, .ref tl, .ref sc, .int 0])), (tw, .inr (7, [.int 0, .int 0, .int 0, .ref t1, .ref t2, .ref t3, .ref t4])), (lw, .inr (1, [.ref l1, .ref l2, .ref l3, .ref l4, .ref l5, .ref l6, .ref l7, .int lz, .int lc])), (l6, .inl (cI, 8, .inl fl)), (c1, .inl (cI, 10, .inl fc1)), (tl, .inr (8, [.ref tw, .ref lw, .ref st, .ref m1, .ref c1, .ref d1, .int (-1), .int idf, .int idt, .int (-1), .int fp, .int 0, .int 0, .int 0])), (u1, .inl (cI, 12, .inl uo_2)), (m1, .inl (cI, 10, .inl mo_5)), (d1, .inl (cI, 10, .inl do__6)), (nw, .inr (4, [.ref u2, .ref f2, .ref g2, .int 0, .int 0, .int 1])), (u2, .inl (cI, 12, .inl fu2)), (f2, .inl (cI, 10, .inl ff2)), (g2, .inl (cI, 10, .inl fg2)), (st, .inr (4, [.ref u1, .ref f1, .ref g1, .int 0, .int 0, .int 1])), (f1, .inl (cI, 10, .inl fo_9)), (g1, .inl (cI, 10, .inl go_10))] H := hP
  have hD : va_D A [(h0, .inr (9, [.ref tp, .ref tw, .ref nw, .ref kp, .ref lw, .ref lr, .ref dd, .ref vv, .ref tl, .ref sc, .int 0])), (tw, .inr (7, [.int 0, .int 0, .int 0, .ref t1, .ref t2, .ref t3, .ref t4])), (lw, .inr (1, [.ref l1, .ref l2, .ref l3, .ref l4, .ref l5, .ref l6, .ref l7, .int lz, .int lc])), (l6, .inl (cI, 8, .inl fl)), (c1, .inl (cI, 10, .inl fc1)), (tl, .inr (8, [.ref tw, .ref lw, .ref st, .ref m1, .ref c1, .ref d1, .int (-1), .int idf, .int idt, .int (-1), .int fp, .int 0, .int 0, .int 0])), (u1, .inl (cI, 12, .inl uo_2)), (m1, .inl (cI, 10, .inl mo_5)), (d1, .inl (cI, 10, .inl do__6)), (nw, .inr (4, [.ref u2, .ref f2, .ref g2, .int 0, .int 0, .int 1])), (u2, .inl (cI, 12, .inl fu2)), (f2, .inl (cI, 10, .inl ff2)), (g2, .inl (cI, 10, .inl fg2)), (st, .inr (4, [.ref u1, .ref f1, .ref g1, .int 0, .int 0, .int 1])), (f1, .inl (cI, 10, .inl fo_9)), (g1, .inl (cI, 10, .inl go_10))] := hD
  refine lv_aload_n hx hb dX9_costIf_24 rfl (lv_at hl 0 rfl) ?_
  refine va_get (D := D) (ci := 9) (v := .ref tl) (C := RX9) (T := TX9) (N := 11) hx hb htb itX9 hown hK hP 0 rfl rfl 8 (by decide) (htb _ k_401) (fun _ h9 => h9) rfl dX9_costIf_25 ?_
  refine lv_iload_n hx hb dX9_costIf_28 rfl (lv_at hl 3 rfl) ?_
  refine lv_iconst (v := 0) hx hb dX9_costIf_29 (by decide) ?_
  refine lv_sipush (v := 9999) hx hb dX9_costIf_30 (by decide) ?_
  refine cVV (As := [.int (-1), .int 0, .int 9999]) (rest := []) (n := 3) (ci := 8) (q0 := 0) (wr := [(h0, .inr (9, [.ref tp, .ref tw, .ref nw, .ref kp, .ref lw, .ref lr, .ref dd, .ref vv, .ref tl, .ref sc, .int 0])), (tw, .inr (7, [.int 0, .int 0, .int 0, .ref t1, .ref t2, .ref t3, .ref t4])), (lw, .inr (1, [.ref l1, .ref l2, .ref l3, .ref l4, .ref l5, .ref l6, .ref l7, .int lz, .int lc])), (l6, .inl (cI, 8, .inl fl)), (c1, .inl (cI, 10, .inl fc1)), (u1, .inl (cI, 12, .inl uo_2)), (m1, .inl (cI, 10, .inl mo_5)), (d1, .inl (cI, 10, .inl do__6)), (nw, .inr (4, [.ref u2, .ref f2, .ref g2, .int 0, .int 0, .int 1])), (u2, .inl (cI, 12, .inl fu2)), (f2, .inl (cI, 10, .inl ff2)), (g2, .inl (cI, 10, .inl fg2)), (st, .inr (4, [.ref u1, .ref f1, .ref g1, .int 0, .int 0, .int 1])), (f1, .inl (cI, 10, .inl fo_9)), (g1, .inl (cI, 10, .inl go_10))]) X hN hK hP hD hS hA (c_X8_setIdle l D cI cB _ tl tw lw st m1 c1 d1 (-1) idf idt (-1) fp 0 0 0 (-1) 0 9999) (gV k_901 k_902 k_903 k_102 k_904) (by decide +kernel) ⟨Nat.le_of_ble_eq_true rfl, Nat.le_of_ble_eq_true rfl⟩ ⟨rfl, rfl⟩ [5] [0, 1, 2, 3, 4, 6, 7, 8, 9, 10, 11, 12, 13, 14, 15] rfl rfl (by decide) (by decide) rfl rfl rfl rfl rfl hl.1 (Nat.le_of_ble_eq_true rfl) dX9_costIf_33 ⟨Nat.le_of_ble_eq_true rfl, Nat.le_of_ble_eq_true rfl⟩ (fun u H locs hw_13 hP hD hS => ?_)
  try dsimp only at hw_13
  have hP : va_P D vwCl [(h0, .inr (9, [.ref tp, .ref tw, .ref nw, .ref kp, .ref lw, .ref lr, .ref dd, .ref vv, .ref tl, .ref sc, .int 0])), (tw, .inr (7, [.int 0, .int 0, .int 0, .ref t1, .ref t2, .ref t3, .ref t4])), (lw, .inr (1, [.ref l1, .ref l2, .ref l3, .ref l4, .ref l5, .ref l6, .ref l7, .int lz, .int lc])), (l6, .inl (cI, 8, .inl fl)), (c1, .inl (cI, 10, .inl fc1)), (u1, .inl (cI, 12, .inl uo_2)), (m1, .inl (cI, 10, .inl mo_5)), (d1, .inl (cI, 10, .inl do__6)), (nw, .inr (4, [.ref u2, .ref f2, .ref g2, .int 0, .int 0, .int 1])), (u2, .inl (cI, 12, .inl fu2)), (f2, .inl (cI, 10, .inl ff2)), (g2, .inl (cI, 10, .inl fg2)), (st, .inr (4, [.ref u1, .ref f1, .ref g1, .int 0, .int 0, .int 1])), (f1, .inl (cI, 10, .inl fo_9)), (g1, .inl (cI, 10, .inl go_10)), (tl, .inr (8, [.ref tw, .ref lw, .ref st, .ref m1, .ref c1, .ref d1, .int (-1), .int 0, .int 9999, .int (-1), .int fp, .int 0, .int 0, .int 0]))] H := hP
  have hD : va_D A [(h0, .inr (9, [.ref tp, .ref tw, .ref nw, .ref kp, .ref lw, .ref lr, .ref dd, .ref vv, .ref tl, .ref sc, .int 0])), (tw, .inr (7, [.int 0, .int 0, .int 0, .ref t1, .ref t2, .ref t3, .ref t4])), (lw, .inr (1, [.ref l1, .ref l2, .ref l3, .ref l4, .ref l5, .ref l6, .ref l7, .int lz, .int lc])), (l6, .inl (cI, 8, .inl fl)), (c1, .inl (cI, 10, .inl fc1)), (u1, .inl (cI, 12, .inl uo_2)), (m1, .inl (cI, 10, .inl mo_5)), (d1, .inl (cI, 10, .inl do__6)), (nw, .inr (4, [.ref u2, .ref f2, .ref g2, .int 0, .int 0, .int 1])), (u2, .inl (cI, 12, .inl fu2)), (f2, .inl (cI, 10, .inl ff2)), (g2, .inl (cI, 10, .inl fg2)), (st, .inr (4, [.ref u1, .ref f1, .ref g1, .int 0, .int 0, .int 1])), (f1, .inl (cI, 10, .inl fo_9)), (g1, .inl (cI, 10, .inl go_10)), (tl, .inr (8, [.ref tw, .ref lw, .ref st, .ref m1, .ref c1, .ref d1, .int (-1), .int 0, .int 9999, .int (-1), .int fp, .int 0, .int 0, .int 0]))] := hD
  refine lv_aload_n hx hb dX9_costIf_36 rfl (lv_at hl 0 rfl) ?_
  refine va_get (D := D) (ci := 9) (v := .ref tl) (C := RX9) (T := TX9) (N := 11) hx hb htb itX9 hown hK hP 0 rfl rfl 8 (by decide) (htb _ k_401) (fun _ h9 => h9) rfl dX9_costIf_37 ?_
  refine lv_iload hx hb dX9_costIf_40 (lv_at hl 4 rfl) ?_
  refine lv_iload hx hb dX9_costIf_42 (lv_at hl 5 rfl) ?_
  refine cVV (As := [.int (-1), .int (-1)]) (rest := []) (n := 2) (ci := 8) (q0 := 0) (wr := [(h0, .inr (9, [.ref tp, .ref tw, .ref nw, .ref kp, .ref lw, .ref lr, .ref dd, .ref vv, .ref tl, .ref sc, .int 0])), (tw, .inr (7, [.int 0, .int 0, .int 0, .ref t1, .ref t2, .ref t3, .ref t4])), (lw, .inr (1, [.ref l1, .ref l2, .ref l3, .ref l4, .ref l5, .ref l6, .ref l7, .int lz, .int lc])), (l6, .inl (cI, 8, .inl fl)), (c1, .inl (cI, 10, .inl fc1)), (u1, .inl (cI, 12, .inl uo_2)), (m1, .inl (cI, 10, .inl mo_5)), (d1, .inl (cI, 10, .inl do__6)), (nw, .inr (4, [.ref u2, .ref f2, .ref g2, .int 0, .int 0, .int 1])), (u2, .inl (cI, 12, .inl fu2)), (f2, .inl (cI, 10, .inl ff2)), (g2, .inl (cI, 10, .inl fg2)), (st, .inr (4, [.ref u1, .ref f1, .ref g1, .int 0, .int 0, .int 1])), (f1, .inl (cI, 10, .inl fo_9)), (g1, .inl (cI, 10, .inl go_10))]) X hN hK hP hD hS hA (c_X8_setFront l D cI cB _ tl tw lw st m1 c1 d1 (-1) 0 9999 (-1) fp 0 0 0 (-1) (-1)) (gV k_905 k_906 k_907 k_102 k_908) (by decide +kernel) ⟨Nat.le_of_ble_eq_true rfl, Nat.le_of_ble_eq_true rfl⟩ ⟨rfl, rfl⟩ [15] [0, 1, 2, 3, 4, 5, 6, 7, 8, 9, 10, 11, 12, 13, 14] rfl rfl (by decide) (by decide) rfl rfl rfl rfl rfl hl.1 (Nat.le_of_ble_eq_true rfl) dX9_costIf_44 ⟨Nat.le_of_ble_eq_true rfl, Nat.le_of_ble_eq_true rfl⟩ (fun u H locs hw_15 hP hD hS => ?_)
  try dsimp only at hw_15
  have hP : va_P D vwCl [(h0, .inr (9, [.ref tp, .ref tw, .ref nw, .ref kp, .ref lw, .ref lr, .ref dd, .ref vv, .ref tl, .ref sc, .int 0])), (tw, .inr (7, [.int 0, .int 0, .int 0, .ref t1, .ref t2, .ref t3, .ref t4])), (lw, .inr (1, [.ref l1, .ref l2, .ref l3, .ref l4, .ref l5, .ref l6, .ref l7, .int lz, .int lc])), (l6, .inl (cI, 8, .inl fl)), (c1, .inl (cI, 10, .inl fc1)), (u1, .inl (cI, 12, .inl uo_2)), (m1, .inl (cI, 10, .inl mo_5)), (d1, .inl (cI, 10, .inl do__6)), (nw, .inr (4, [.ref u2, .ref f2, .ref g2, .int 0, .int 0, .int 1])), (u2, .inl (cI, 12, .inl fu2)), (f2, .inl (cI, 10, .inl ff2)), (g2, .inl (cI, 10, .inl fg2)), (st, .inr (4, [.ref u1, .ref f1, .ref g1, .int 0, .int 0, .int 1])), (f1, .inl (cI, 10, .inl fo_9)), (g1, .inl (cI, 10, .inl go_10)), (tl, .inr (8, [.ref tw, .ref lw, .ref st, .ref m1, .ref c1, .ref d1, .int (-1), .int 0, .int 9999, .int (-1), .int (-1), .int 0, .int 0, .int 0]))] H := hP
  have hD : va_D A [(h0, .inr (9, [.ref tp, .ref tw, .ref nw, .ref kp, .ref lw, .ref lr, .ref dd, .ref vv, .ref tl, .ref sc, .int 0])), (tw, .inr (7, [.int 0, .int 0, .int 0, .ref t1, .ref t2, .ref t3, .ref t4])), (lw, .inr (1, [.ref l1, .ref l2, .ref l3, .ref l4, .ref l5, .ref l6, .ref l7, .int lz, .int lc])), (l6, .inl (cI, 8, .inl fl)), (c1, .inl (cI, 10, .inl fc1)), (u1, .inl (cI, 12, .inl uo_2)), (m1, .inl (cI, 10, .inl mo_5)), (d1, .inl (cI, 10, .inl do__6)), (nw, .inr (4, [.ref u2, .ref f2, .ref g2, .int 0, .int 0, .int 1])), (u2, .inl (cI, 12, .inl fu2)), (f2, .inl (cI, 10, .inl ff2)), (g2, .inl (cI, 10, .inl fg2)), (st, .inr (4, [.ref u1, .ref f1, .ref g1, .int 0, .int 0, .int 1])), (f1, .inl (cI, 10, .inl fo_9)), (g1, .inl (cI, 10, .inl go_10)), (tl, .inr (8, [.ref tw, .ref lw, .ref st, .ref m1, .ref c1, .ref d1, .int (-1), .int 0, .int 9999, .int (-1), .int (-1), .int 0, .int 0, .int 0]))] := hD
  refine lv_aload_n hx hb dX9_costIf_47 rfl (lv_at hl 0 rfl) ?_
  refine va_get (D := D) (ci := 9) (v := .ref tl) (C := RX9) (T := TX9) (N := 11) hx hb htb itX9 hown hK hP 0 rfl rfl 8 (by decide) (htb _ k_401) (fun _ h9 => h9) rfl dX9_costIf_48 ?_
  refine lv_iload_n hx hb dX9_costIf_51 rfl (lv_at hl 2 rfl) ?_
  refine lv_ldc (v := 2147483647) hx hb hown (htb _ k_783) dX9_costIf_52 ?_
  refine cVI (As := [.int (nI N), .int 2147483647]) (rest := []) (n := 2) (ci := 8) (q0 := 0) (wr := [(h0, .inr (9, [.ref tp, .ref tw, .ref nw, .ref kp, .ref lw, .ref lr, .ref dd, .ref vv, .ref tl, .ref sc, .int 0])), (u1, .inl (cI, 12, .inl uo_2)), (m1, .inl (cI, 10, .inl mo_5)), (d1, .inl (cI, 10, .inl do__6)), (nw, .inr (4, [.ref u2, .ref f2, .ref g2, .int 0, .int 0, .int 1])), (u2, .inl (cI, 12, .inl fu2)), (f2, .inl (cI, 10, .inl ff2)), (g2, .inl (cI, 10, .inl fg2))]) X hN hK hP hD hS hA (c_X8_run l D cI cB _ tl tw lw st m1 c1 d1 (-1) 0 9999 (-1) (-1) l1 l2 l3 l4 l5 l6 l7 lz lc t1 t2 t3 t4 u1 f1 g1 N 2147483647 1 fl fo_9 go_10 fc1 hN0 (by decide) hw_11.2) (gV k_784 k_785 k_786 k_102 k_787) (by decide +kernel) ⟨Nat.le_of_ble_eq_true rfl, Nat.le_of_ble_eq_true rfl⟩ ⟨rfl, rfl⟩ [15, 1, 2, 3, 12, 13, 14, 4] [0, 5, 6, 7, 8, 9, 10, 11] rfl rfl (by decide) (by decide) rfl rfl rfl rfl rfl hl.1 (Nat.le_of_ble_eq_true rfl) dX9_costIf_54 ⟨Nat.le_of_ble_eq_true rfl, Nat.le_of_ble_eq_true rfl⟩ (fun r_16 u H locs hw_21 hP hD hS => ?_)
  obtain ⟨jo_17, ko_18, lo_19, co_20⟩ := u
  try dsimp only at hw_21
  have hP : va_P D vwCl [(h0, .inr (9, [.ref tp, .ref tw, .ref nw, .ref kp, .ref lw, .ref lr, .ref dd, .ref vv, .ref tl, .ref sc, .int 0])), (u1, .inl (cI, 12, .inl uo_2)), (m1, .inl (cI, 10, .inl mo_5)), (d1, .inl (cI, 10, .inl do__6)), (nw, .inr (4, [.ref u2, .ref f2, .ref g2, .int 0, .int 0, .int 1])), (u2, .inl (cI, 12, .inl fu2)), (f2, .inl (cI, 10, .inl ff2)), (g2, .inl (cI, 10, .inl fg2)), (tl, .inr (8, [.ref tw, .ref lw, .ref st, .ref m1, .ref c1, .ref d1, .int (-1), .int 0, .int 9999, .int (-1), .int (-1), .int 0, .int 0, .int (nI jo_17)])), (tw, .inr (7, [.int 0, .int 0, .int 0, .ref t1, .ref t2, .ref t3, .ref t4])), (lw, .inr (1, [.ref l1, .ref l2, .ref l3, .ref l4, .ref l5, .ref l6, .ref l7, .int lz, .int lc])), (l6, .inl (cI, 8, .inl lo_19)), (st, .inr (4, [.ref u1, .ref f1, .ref g1, .int 0, .int (nI jo_17), .int (nI ko_18)])), (f1, .inl (cI, 10, .inl fo_9)), (g1, .inl (cI, 10, .inl go_10)), (c1, .inl (cI, 10, .inl co_20))] H := hP
  have hD : va_D A [(h0, .inr (9, [.ref tp, .ref tw, .ref nw, .ref kp, .ref lw, .ref lr, .ref dd, .ref vv, .ref tl, .ref sc, .int 0])), (u1, .inl (cI, 12, .inl uo_2)), (m1, .inl (cI, 10, .inl mo_5)), (d1, .inl (cI, 10, .inl do__6)), (nw, .inr (4, [.ref u2, .ref f2, .ref g2, .int 0, .int 0, .int 1])), (u2, .inl (cI, 12, .inl fu2)), (f2, .inl (cI, 10, .inl ff2)), (g2, .inl (cI, 10, .inl fg2)), (tl, .inr (8, [.ref tw, .ref lw, .ref st, .ref m1, .ref c1, .ref d1, .int (-1), .int 0, .int 9999, .int (-1), .int (-1), .int 0, .int 0, .int (nI jo_17)])), (tw, .inr (7, [.int 0, .int 0, .int 0, .ref t1, .ref t2, .ref t3, .ref t4])), (lw, .inr (1, [.ref l1, .ref l2, .ref l3, .ref l4, .ref l5, .ref l6, .ref l7, .int lz, .int lc])), (l6, .inl (cI, 8, .inl lo_19)), (st, .inr (4, [.ref u1, .ref f1, .ref g1, .int 0, .int (nI jo_17), .int (nI ko_18)])), (f1, .inl (cI, 10, .inl fo_9)), (g1, .inl (cI, 10, .inl go_10)), (c1, .inl (cI, 10, .inl co_20))] := hD
  exact ret _ _ _ _ r_16 () dX9_costIf_57 rfl hw_21.1 (hP.sub [] rfl) (hD.sub [] (by decide) rfl) hS

set_option maxRecDepth 100000 in
set_option maxHeartbeats 4000000 in
theorem c_X9_allIsDoneIfStay (l : Launch) (D : va_G) (cI cB : ClassId) (sz : Nat) (h0 : Nat) (tp : Nat) (tw : Nat) (nw : Nat) (kp : Nat) (lw : Nat) (lr : Nat) (dd : Nat) (vv : Nat) (tl : Nat) (sc : Nat) (t1 : Nat) (t2 : Nat) (t3 : Nat) (t4 : Nat) (u2 : Nat) (f2 : Nat) (g2 : Nat) (fu2 : Nat → Int32) (ff2 : Nat → Int32) (fg2 : Nat → Int32) (l1 : Nat) (l2 : Nat) (l3 : Nat) (l4 : Nat) (l5 : Nat) (l6 : Nat) (l7 : Nat) (lz : Int32) (lc : Int32) (fl : Nat → Int32) (st : Nat) (m1 : Nat) (c1 : Nat) (d1 : Nat) (idl : Int32) (idf : Int32) (idt : Int32) (fc : Int32) (fp : Int32) (mb : Int32) (ra : Int32) (cl : Int32) (u1 : Nat) (f1 : Nat) (g1 : Nat) (ms : Int32) (dy : Int32) (dr : Int32) (fu : Nat → Int32) (ff : Nat → Int32) (fg : Nat → Int32) (fm : Nat → Int32) (fc1 : Nat → Int32) (fd : Nat → Int32) (N : Nat) (a : Int32) (hu : ∀ j, j < 12 → fu2 j = 0) (hf : ∀ j, j < 10 → ff2 j = -2) (hg : ∀ j, j < 10 → fg2 j = -2) (hN0 : N ≤ 60) : MI (S := Unit) l D cI cB yX9_allIsDoneIfStay cX9_allIsDoneIfStay 3 .boolean (rm 4 102) [.ref h0, .int a, .int (nI N)] [(h0, .inr (9, [.ref tp, .ref tw, .ref nw, .ref kp, .ref lw, .ref lr, .ref dd, .ref vv, .ref tl, .ref sc, .int 0])), (tw, .inr (7, [.int 0, .int 0, .int 0, .ref t1, .ref t2, .ref t3, .ref t4])), (nw, .inr (4, [.ref u2, .ref f2, .ref g2, .int 0, .int 0, .int 1])), (u2, .inl (cI, 12, .inl fu2)), (f2, .inl (cI, 10, .inl ff2)), (g2, .inl (cI, 10, .inl fg2)), (lw, .inr (1, [.ref l1, .ref l2, .ref l3, .ref l4, .ref l5, .ref l6, .ref l7, .int lz, .int lc])), (l6, .inl (cI, 8, .inl fl)), (tl, .inr (8, [.ref tw, .ref lw, .ref st, .ref m1, .ref c1, .ref d1, .int idl, .int idf, .int idt, .int fc, .int fp, .int mb, .int ra, .int cl])), (st, .inr (4, [.ref u1, .ref f1, .ref g1, .int ms, .int dy, .int dr])), (u1, .inl (cI, 12, .inl fu)), (f1, .inl (cI, 10, .inl ff)), (g1, .inl (cI, 10, .inl fg)), (m1, .inl (cI, 10, .inl fm)), (c1, .inl (cI, 10, .inl fc1)), (d1, .inl (cI, 10, .inl fd))] sz (fun r u => r = 1) (fun u : Unit => []) := by
  refine MI.of (by decide) (Nat.le_of_ble_eq_true rfl) ?_
  intro p e s m below meth c Q ls A X hin hN hP hK hD hA hl ret
  have hS : va_S A s.heap s.heap [] := va_S.rf
  obtain ⟨hx, hb, hml, hown, htb⟩ := id X
  have hl : lv_has ls 3 [(0, .ref h0), (1, .int a), (2, .int (nI N))] := hl
  refine lv_aload_n hx hb dX9_allIsDoneIfStay_0 rfl (lv_at hl 0 rfl) ?_
  refine va_get (D := D) (ci := 9) (v := .ref tl) (C := RX9) (T := TX9) (N := 11) hx hb htb itX9 hown hK hP 0 rfl rfl 8 (by decide) (htb _ k_401) (fun _ h9 => h9) rfl dX9_allIsDoneIfStay_1 ?_
  refine lv_aload_n hx hb dX9_allIsDoneIfStay_4 rfl (lv_at hl 0 rfl) ?_
  refine va_get (D := D) (ci := 9) (v := .ref nw) (C := RX9) (T := TX9) (N := 11) hx hb htb itX9 hown hK hP 0 rfl rfl 2 (by decide) (htb _ k_395) (fun _ h9 => h9) rfl dX9_allIsDoneIfStay_5 ?_
  refine cVV (As := [.ref nw]) (rest := []) (n := 1) (ci := 8) (q0 := 0) (wr := [(h0, .inr (9, [.ref tp, .ref tw, .ref nw, .ref kp, .ref lw, .ref lr, .ref dd, .ref vv, .ref tl, .ref sc, .int 0])), (tw, .inr (7, [.int 0, .int 0, .int 0, .ref t1, .ref t2, .ref t3, .ref t4])), (lw, .inr (1, [.ref l1, .ref l2, .ref l3, .ref l4, .ref l5, .ref l6, .ref l7, .int lz, .int lc])), (l6, .inl (cI, 8, .inl fl)), (c1, .inl (cI, 10, .inl fc1))]) X hN hK hP hD hS hA (c_X8_begin l D cI cB _ tl tw lw st m1 c1 d1 idl idf idt fc fp mb ra cl u1 f1 g1 ms dy dr nw u2 f2 g2 1 fu ff fg fm fd fu2 ff2 fg2 hu hf hg) (gV k_773 k_774 k_775 k_102 k_776) (by decide +kernel) ⟨Nat.le_of_ble_eq_true rfl, Nat.le_of_ble_eq_true rfl⟩ ⟨rfl, rfl⟩ [8, 9, 10, 11, 12, 13, 15, 2, 3, 4, 5] [0, 1, 6, 7, 14] rfl rfl (by decide) (by decide) rfl rfl rfl rfl rfl hl.1 (Nat.le_of_ble_eq_true rfl) dX9_allIsDoneIfStay_8 ⟨Nat.le_of_ble_eq_true rfl, Nat.le_of_ble_eq_true rfl⟩ (fun u H locs hw_7 hP hD hS => ?_)
  obtain ⟨uo_2, fo_3, go_4, mo_5, do__6⟩ := u
  try dsimp only at hw_7
  have hP : va_P D vwCl [(h0, .inr (9, [.ref tp, .ref tw, .ref nw, .ref kp, .ref lw, .ref lr, .ref dd, .ref vv, .ref tl, .ref sc, .int 0])), (tw, .inr (7, [.int 0, .int 0, .int 0, .ref t1, .ref t2, .ref t3, .ref t4])), (lw, .inr (1, [.ref l1, .ref l2, .ref l3, .ref l4, .ref l5, .ref l6, .ref l7, .int lz, .int lc])), (l6, .inl (cI, 8, .inl fl)), (c1, .inl (cI, 10, .inl fc1)), (tl, .inr (8, [.ref tw, .ref lw, .ref st, .ref m1, .ref c1, .ref d1, .int (-1), .int idf, .int idt, .int (-1), .int fp, .int 0, .int 0, .int 0])), (st, .inr (4, [.ref u1, .ref f1, .ref g1, .int 0, .int 0, .int 1])), (u1, .inl (cI, 12, .inl uo_2)), (f1, .inl (cI, 10, .inl fo_3)), (g1, .inl (cI, 10, .inl go_4)), (m1, .inl (cI, 10, .inl mo_5)), (d1, .inl (cI, 10, .inl do__6)), (nw, .inr (4, [.ref u2, .ref f2, .ref g2, .int 0, .int 0, .int 1])), (u2, .inl (cI, 12, .inl fu2)), (f2, .inl (cI, 10, .inl ff2)), (g2, .inl (cI, 10, .inl fg2))] H := hP
  have hD : va_D A [(h0, .inr (9, [.ref tp, .ref tw, .ref nw, .ref kp, .ref lw, .ref lr, .ref dd, .ref vv, .ref tl, .ref sc, .int 0])), (tw, .inr (7, [.int 0, .int 0, .int 0, .ref t1, .ref t2, .ref t3, .ref t4])), (lw, .inr (1, [.ref l1, .ref l2, .ref l3, .ref l4, .ref l5, .ref l6, .ref l7, .int lz, .int lc])), (l6, .inl (cI, 8, .inl fl)), (c1, .inl (cI, 10, .inl fc1)), (tl, .inr (8, [.ref tw, .ref lw, .ref st, .ref m1, .ref c1, .ref d1, .int (-1), .int idf, .int idt, .int (-1), .int fp, .int 0, .int 0, .int 0])), (st, .inr (4, [.ref u1, .ref f1, .ref g1, .int 0, .int 0, .int 1])), (u1, .inl (cI, 12, .inl uo_2)), (f1, .inl (cI, 10, .inl fo_3)), (g1, .inl (cI, 10, .inl go_4)), (m1, .inl (cI, 10, .inl mo_5)), (d1, .inl (cI, 10, .inl do__6)), (nw, .inr (4, [.ref u2, .ref f2, .ref g2, .int 0, .int 0, .int 1])), (u2, .inl (cI, 12, .inl fu2)), (f2, .inl (cI, 10, .inl ff2)), (g2, .inl (cI, 10, .inl fg2))] := hD
  refine lv_aload_n hx hb dX9_allIsDoneIfStay_11 rfl (lv_at hl 0 rfl) ?_
  refine va_get (D := D) (ci := 9) (v := .ref tl) (C := RX9) (T := TX9) (N := 11) hx hb htb itX9 hown hK hP 0 rfl rfl 8 (by decide) (htb _ k_401) (fun _ h9 => h9) rfl dX9_allIsDoneIfStay_12 ?_
  refine va_getN (D := D) (ci := 8) (v := .ref st) (C := RX8) (T := TX8) (N := 14) hx hb htb itX8 hown hK hP 5 rfl rfl 2 (by decide) (va_Nw.use rfl (hN _ n_348 rfl)) (fun _ h9 => h9) rfl dX9_allIsDoneIfStay_15 ?_
  refine lv_iload_n hx hb dX9_allIsDoneIfStay_18 rfl (lv_at hl 1 rfl) ?_
  refine cVV (As := [.int a]) (rest := []) (n := 1) (ci := 4) (q0 := 0) (wr := [(h0, .inr (9, [.ref tp, .ref tw, .ref nw, .ref kp, .ref lw, .ref lr, .ref dd, .ref vv, .ref tl, .ref sc, .int 0])), (tw, .inr (7, [.int 0, .int 0, .int 0, .ref t1, .ref t2, .ref t3, .ref t4])), (lw, .inr (1, [.ref l1, .ref l2, .ref l3, .ref l4, .ref l5, .ref l6, .ref l7, .int lz, .int lc])), (l6, .inl (cI, 8, .inl fl)), (c1, .inl (cI, 10, .inl fc1)), (tl, .inr (8, [.ref tw, .ref lw, .ref st, .ref m1, .ref c1, .ref d1, .int (-1), .int idf, .int idt, .int (-1), .int fp, .int 0, .int 0, .int 0])), (u1, .inl (cI, 12, .inl uo_2)), (m1, .inl (cI, 10, .inl mo_5)), (d1, .inl (cI, 10, .inl do__6)), (nw, .inr (4, [.ref u2, .ref f2, .ref g2, .int 0, .int 0, .int 1])), (u2, .inl (cI, 12, .inl fu2)), (f2, .inl (cI, 10, .inl ff2)), (g2, .inl (cI, 10, .inl fg2))]) X hN hK hP hD hS hA (c_X4_endLeaves l D cI cB _ st u1 f1 g1 0 0 1 a fo_3 go_4 hw_7.2.1 hw_7.2.2.1) (gV k_760 k_734 k_735 k_95 k_736) (by decide +kernel) ⟨Nat.le_of_ble_eq_true rfl, Nat.le_of_ble_eq_true rfl⟩ ⟨rfl, rfl⟩ [6, 8, 9] [0, 1, 2, 3, 4, 5, 7, 10, 11, 12, 13, 14, 15] rfl rfl (by decide) (by decide) rfl rfl rfl rfl rfl hl.1 (Nat.le_of_ble_eq_true rfl) dX9_allIsDoneIfStay_19 ⟨Nat.le_of_ble_eq_true rfl, Nat.le_of_ble_eq_true rfl⟩ (fun u H locs hw_11 hP hD hS => ?_)
  obtain ⟨fo_9, go_10⟩ := u
  try dsimp only at hw_11
  have hP : va_P D vwCl [(h0, .inr (9, [.ref tp, .ref tw, .ref nw, .ref kp, .ref lw, .ref lr, .ref dd, .ref vv, .ref tl, .ref sc, .int 0])), (tw, .inr (7, [.int 0, .int 0, .int 0, .ref t1, .ref t2, .ref t3, .ref t4])), (lw, .inr (1, [.ref l1, .ref l2, .ref l3, .ref l4, .ref l5, .ref l6, .ref l7, .int lz, .int lc])), (l6, .inl (cI, 8, .inl fl)), (c1, .inl (cI, 10, .inl fc1)), (tl, .inr (8, [.ref tw, .ref lw, .ref st, .ref m1, .ref c1, .ref d1, .int (-1), .int idf, .int idt, .int (-1), .int fp, .int 0, .int 0, .int 0])), (u1, .inl (cI, 12, .inl uo_2)), (m1, .inl (cI, 10, .inl mo_5)), (d1, .inl (cI, 10, .inl do__6)), (nw, .inr (4, [.ref u2, .ref f2, .ref g2, .int 0, .int 0, .int 1])), (u2, .inl (cI, 12, .inl fu2)), (f2, .inl (cI, 10, .inl ff2)), (g2, .inl (cI, 10, .inl fg2)), (st, .inr (4, [.ref u1, .ref f1, .ref g1, .int 0, .int 0, .int 1])), (f1, .inl (cI, 10, .inl fo_9)), (g1, .inl (cI, 10, .inl go_10))] H := hP
  have hD : va_D A [(h0, .inr (9, [.ref tp, .ref tw, .ref nw, .ref kp, .ref lw, .ref lr, .ref dd, .ref vv, .ref tl, .ref sc, .int 0])), (tw, .inr (7, [.int 0, .int 0, .int 0, .ref t1, .ref t2, .ref t3, .ref t4])), (lw, .inr (1, [.ref l1, .ref l2, .ref l3, .ref l4, .ref l5, .ref l6, .ref l7, .int lz, .int lc])), (l6, .inl (cI, 8, .inl fl)), (c1, .inl (cI, 10, .inl fc1)), (tl, .inr (8, [.ref tw, .ref lw, .ref st, .ref m1, .ref c1, .ref d1, .int (-1), .int idf, .int idt, .int (-1), .int fp, .int 0, .int 0, .int 0])), (u1, .inl (cI, 12, .inl uo_2)), (m1, .inl (cI, 10, .inl mo_5)), (d1, .inl (cI, 10, .inl do__6)), (nw, .inr (4, [.ref u2, .ref f2, .ref g2, .int 0, .int 0, .int 1])), (u2, .inl (cI, 12, .inl fu2)), (f2, .inl (cI, 10, .inl ff2)), (g2, .inl (cI, 10, .inl fg2)), (st, .inr (4, [.ref u1, .ref f1, .ref g1, .int 0, .int 0, .int 1])), (f1, .inl (cI, 10, .inl fo_9)), (g1, .inl (cI, 10, .inl go_10))] := hD
  refine lv_aload_n hx hb dX9_allIsDoneIfStay_22 rfl (lv_at hl 0 rfl) ?_
  refine va_get (D := D) (ci := 9) (v := .ref tl) (C := RX9) (T := TX9) (N := 11) hx hb htb itX9 hown hK hP 0 rfl rfl 8 (by decide) (htb _ k_401) (fun _ h9 => h9) rfl dX9_allIsDoneIfStay_23 ?_
  refine lv_iload_n hx hb dX9_allIsDoneIfStay_26 rfl (lv_at hl 2 rfl) ?_
  refine cVI (As := [.int (nI N)]) (rest := []) (n := 1) (ci := 8) (q0 := 0) (wr := [(h0, .inr (9, [.ref tp, .ref tw, .ref nw, .ref kp, .ref lw, .ref lr, .ref dd, .ref vv, .ref tl, .ref sc, .int 0])), (u1, .inl (cI, 12, .inl uo_2)), (m1, .inl (cI, 10, .inl mo_5)), (d1, .inl (cI, 10, .inl do__6)), (nw, .inr (4, [.ref u2, .ref f2, .ref g2, .int 0, .int 0, .int 1])), (u2, .inl (cI, 12, .inl fu2)), (f2, .inl (cI, 10, .inl ff2)), (g2, .inl (cI, 10, .inl fg2))]) X hN hK hP hD hS hA (c_X8_staysClear l D cI cB _ tl tw lw st m1 c1 d1 (-1) idf idt (-1) fp l1 l2 l3 l4 l5 l6 l7 lz lc t1 t2 t3 t4 u1 f1 g1 N 1 fl fo_9 go_10 fc1 hN0 (by decide) hw_11.2) (gV k_1020 k_1021 k_1022 k_102 k_1023) (by decide +kernel) ⟨Nat.le_of_ble_eq_true rfl, Nat.le_of_ble_eq_true rfl⟩ ⟨rfl, rfl⟩ [5, 1, 2, 3, 13, 14, 15, 4] [0, 6, 7, 8, 9, 10, 11, 12] rfl rfl (by decide) (by decide) rfl rfl rfl rfl rfl hl.1 (Nat.le_of_ble_eq_true rfl) dX9_allIsDoneIfStay_27 ⟨Nat.le_of_ble_eq_true rfl, Nat.le_of_ble_eq_true rfl⟩ (fun r_12 u H locs hw_17 hP hD hS => ?_)
  obtain ⟨jo_13, ko_14, lo_15, co_16⟩ := u
  try dsimp only at hw_17
  have hP : va_P D vwCl [(h0, .inr (9, [.ref tp, .ref tw, .ref nw, .ref kp, .ref lw, .ref lr, .ref dd, .ref vv, .ref tl, .ref sc, .int 0])), (u1, .inl (cI, 12, .inl uo_2)), (m1, .inl (cI, 10, .inl mo_5)), (d1, .inl (cI, 10, .inl do__6)), (nw, .inr (4, [.ref u2, .ref f2, .ref g2, .int 0, .int 0, .int 1])), (u2, .inl (cI, 12, .inl fu2)), (f2, .inl (cI, 10, .inl ff2)), (g2, .inl (cI, 10, .inl fg2)), (tl, .inr (8, [.ref tw, .ref lw, .ref st, .ref m1, .ref c1, .ref d1, .int (-1), .int idf, .int idt, .int (-1), .int fp, .int 0, .int 0, .int (nI jo_13)])), (tw, .inr (7, [.int 0, .int 0, .int 0, .ref t1, .ref t2, .ref t3, .ref t4])), (lw, .inr (1, [.ref l1, .ref l2, .ref l3, .ref l4, .ref l5, .ref l6, .ref l7, .int lz, .int lc])), (l6, .inl (cI, 8, .inl lo_15)), (st, .inr (4, [.ref u1, .ref f1, .ref g1, .int 0, .int (nI jo_13), .int (nI ko_14)])), (f1, .inl (cI, 10, .inl fo_9)), (g1, .inl (cI, 10, .inl go_10)), (c1, .inl (cI, 10, .inl co_16))] H := hP
  have hD : va_D A [(h0, .inr (9, [.ref tp, .ref tw, .ref nw, .ref kp, .ref lw, .ref lr, .ref dd, .ref vv, .ref tl, .ref sc, .int 0])), (u1, .inl (cI, 12, .inl uo_2)), (m1, .inl (cI, 10, .inl mo_5)), (d1, .inl (cI, 10, .inl do__6)), (nw, .inr (4, [.ref u2, .ref f2, .ref g2, .int 0, .int 0, .int 1])), (u2, .inl (cI, 12, .inl fu2)), (f2, .inl (cI, 10, .inl ff2)), (g2, .inl (cI, 10, .inl fg2)), (tl, .inr (8, [.ref tw, .ref lw, .ref st, .ref m1, .ref c1, .ref d1, .int (-1), .int idf, .int idt, .int (-1), .int fp, .int 0, .int 0, .int (nI jo_13)])), (tw, .inr (7, [.int 0, .int 0, .int 0, .ref t1, .ref t2, .ref t3, .ref t4])), (lw, .inr (1, [.ref l1, .ref l2, .ref l3, .ref l4, .ref l5, .ref l6, .ref l7, .int lz, .int lc])), (l6, .inl (cI, 8, .inl lo_15)), (st, .inr (4, [.ref u1, .ref f1, .ref g1, .int 0, .int (nI jo_13), .int (nI ko_14)])), (f1, .inl (cI, 10, .inl fo_9)), (g1, .inl (cI, 10, .inl go_10)), (c1, .inl (cI, 10, .inl co_16))] := hD
  exact ret _ _ _ _ r_12 () dX9_allIsDoneIfStay_30 (by rw [hw_17.1]; rfl) hw_17.1 (hP.sub [] rfl) (hD.sub [] (by decide) rfl) hS

set_option maxRecDepth 100000 in
set_option maxHeartbeats 4000000 in
theorem c_X9_firstOther (l : Launch) (D : va_G) (cI cB : ClassId) (h0 : Nat) (tp : Nat) (tw : Nat) (nw : Nat) (kp : Nat) (lw : Nat) (lr : Nat) (dd : Nat) (vv : Nat) (tl : Nat) (sc : Nat) (sx : Nat)  : MR l D cI cB yX9_firstOther cX9_firstOther 4 .int (rm 0 0) [.ref h0, .ref sx, .int 0] [(h0, .inr (9, [.ref tp, .ref tw, .ref nw, .ref kp, .ref lw, .ref lr, .ref dd, .ref vv, .ref tl, .ref sc, .int 0]))] (fun r : Int32 => r = -1) := by
  refine MR.of (by decide) (Nat.le_of_ble_eq_true rfl) ?_
  intro p e s m below meth c Q ls X hN hP hK hl ret
  obtain ⟨hx, hb, hml, hown, htb⟩ := id X
  have hl : lv_has ls 4 [(0, .ref h0), (1, .ref sx), (2, .int 0)] := hl
  refine lv_iconst (v := 0) hx hb dX9_firstOther_0 (by decide) ?_
  refine lv_istore_n (lv' := [(3, .int 0), (0, .ref h0), (1, .ref sx), (2, .int 0)]) hx hb dX9_firstOther_1 rfl hl (by decide) rfl (fun ls hl => ?_)
  refine lv_iload_n hx hb dX9_firstOther_2 rfl (lv_at hl 0 rfl) ?_
  refine lv_iload_n hx hb dX9_firstOther_3 rfl (lv_at hl 3 rfl) ?_
  refine lv_icmp_ge (tgt := 38) hx hb dX9_firstOther_4 (by decide) (fun _ => ?_) (fun c_4 => absurd (by decide) c_4)
  refine lv_iconst (v := (-1)) hx hb dX9_firstOther_38 (by decide) ?_
  exact ret _ _ (-1) dX9_firstOther_39 rfl rfl

set_option maxRecDepth 100000 in
set_option maxHeartbeats 4000000 in
theorem c_X9_person (l : Launch) (D : va_G) (cI cB : ClassId) (sz : Nat) (h0 : Nat) (tp : Nat) (tw : Nat) (nw : Nat) (kp : Nat) (lw : Nat) (lr : Nat) (dd : Nat) (vv : Nat) (tl : Nat) (sc : Nat) (t1 : Nat) (t2 : Nat) (t3 : Nat) (t4 : Nat) (fa : Nat → Int32) (x1 : Int32) (x2 : Int32)  : MI (S := Unit) l D cI cB yX9_person cX9_person 3 .boolean (rm 1 22) [.ref h0, .int x1, .int x2] [(h0, .inr (9, [.ref tp, .ref tw, .ref nw, .ref kp, .ref lw, .ref lr, .ref dd, .ref vv, .ref tl, .ref sc, .int 0])), (tw, .inr (7, [.int 0, .int 0, .int 0, .ref t1, .ref t2, .ref t3, .ref t4])), (t1, .inl (cI, 10, .inl fa))] sz (fun r u => r = bI ((0 ≤ x1 ∧ x1 ≤ 9) ∧ (0 ≤ x2 ∧ x2 ≤ 20))) (fun u : Unit => []) := by
  refine MI.of (by decide) (Nat.le_of_ble_eq_true rfl) ?_
  intro p e s m below meth c Q ls A X hin hN hP hK hD hA hl ret
  have hS : va_S A s.heap s.heap [] := va_S.rf
  obtain ⟨hx, hb, hml, hown, htb⟩ := id X
  have hl : lv_has ls 3 [(0, .ref h0), (1, .int x1), (2, .int x2)] := hl
  refine lv_iload_n hx hb dX9_person_0 rfl (lv_at hl 1 rfl) ?_
  refine lv_iconst (v := 0) hx hb dX9_person_1 (by decide) ?_
  refine lv_bipush (v := 9) hx hb dX9_person_2 (by decide) ?_
  refine cSR (As := [.int x1, .int 0, .int 9]) (rest := []) (n := 3) X hN hK hP (c_X9_within l D cI cB x1 0 9) k_431 k_432 k_92 k_433 (by decide +kernel) ⟨Nat.le_of_ble_eq_true rfl, Nat.le_of_ble_eq_true rfl⟩ ⟨rfl, rfl⟩ [] rfl rfl rfl hl.1 (Nat.le_of_ble_eq_true rfl) dX9_person_4 ⟨Nat.le_of_ble_eq_true rfl, Nat.le_of_ble_eq_true rfl⟩ (fun r_1 hr_1 => ?_)
  subst hr_1
  refine lv_if_eq (tgt := 20) hx hb dX9_person_7 (by decide) (fun c_7 => ?_) (fun c_7 => ?_)
  · refine lv_iconst (v := 0) hx hb dX9_person_20 (by decide) ?_
    exact ret _ _ _ _ 0 () dX9_person_21 rfl (bI0 (fun h => bIf c_7 h.1)) (hP.sub [] rfl) (hD.sub [] (by decide) rfl) hS
  · refine lv_iload_n hx hb dX9_person_10 rfl (lv_at hl 2 rfl) ?_
    refine lv_iconst (v := 0) hx hb dX9_person_11 (by decide) ?_
    refine lv_bipush (v := 20) hx hb dX9_person_12 (by decide) ?_
    refine cSR (As := [.int x2, .int 0, .int 20]) (rest := []) (n := 3) X hN hK hP (c_X9_within l D cI cB x2 0 20) k_431 k_432 k_92 k_433 (by decide +kernel) ⟨Nat.le_of_ble_eq_true rfl, Nat.le_of_ble_eq_true rfl⟩ ⟨rfl, rfl⟩ [] rfl rfl rfl hl.1 (Nat.le_of_ble_eq_true rfl) dX9_person_14 ⟨Nat.le_of_ble_eq_true rfl, Nat.le_of_ble_eq_true rfl⟩ (fun r_2 hr_2 => ?_)
    subst hr_2
    refine lv_if_ne (tgt := 22) hx hb dX9_person_17 (by decide) (fun c_17 => ?_) (fun c_17 => ?_)
    · refine lv_aload_n hx hb dX9_person_22 rfl (lv_at hl 0 rfl) ?_
      refine va_get (D := D) (ci := 9) (v := .ref tw) (C := RX9) (T := TX9) (N := 11) hx hb htb itX9 hown hK hP 0 rfl rfl 1 (by decide) (htb _ k_394) (fun _ h9 => h9) rfl dX9_person_23 ?_
      refine lv_dup hx hb dX9_person_26 rfl ?_
      refine va_getN (D := D) (ci := 7) (v := .int 0) (C := RX7) (T := TX7) (N := 7) hx hb htb itX7 hown hK hP 1 rfl rfl 0 (by decide) (va_Nw.use rfl (hN _ n_144 rfl)) (fun _ h9 => h9) rfl dX9_person_27 ?_
      refine lv_iconst (v := 1) hx hb dX9_person_30 (by decide) ?_
      refine lv_iload_n hx hb dX9_person_31 rfl (lv_at hl 1 rfl) ?_
      refine lv_ishl hx hb dX9_person_32 ?_
      refine lv_ior hx hb dX9_person_33 ?_
      refine lv_topi (fun x_3 ex_3 => ?_)
      refine va_putN (D := D) (ci := 7) (v := .int x_3) (ty := .int) (C := RX7) (T := TX7) (N := 7) hx hb htb itX7 tyX7 tyX7_ok nmX7 hown hK hP hD hS 1 rfl rfl 0 (by decide) (va_Nw.use rfl (hN _ n_144 rfl)) (fun _ h9 => h9) rfl (tyX7_ok 0 (by decide)) rfl rfl (Nat.le_of_ble_eq_true rfl) dX9_person_34 (fun H locs hP hD hS => ?_)
      have hP : va_P D vwCl [(h0, .inr (9, [.ref tp, .ref tw, .ref nw, .ref kp, .ref lw, .ref lr, .ref dd, .ref vv, .ref tl, .ref sc, .int 0])), (tw, .inr (7, [.int x_3, .int 0, .int 0, .ref t1, .ref t2, .ref t3, .ref t4])), (t1, .inl (cI, 10, .inl fa))] H := hP
      have hD : va_D A [(h0, .inr (9, [.ref tp, .ref tw, .ref nw, .ref kp, .ref lw, .ref lr, .ref dd, .ref vv, .ref tl, .ref sc, .int 0])), (tw, .inr (7, [.int x_3, .int 0, .int 0, .ref t1, .ref t2, .ref t3, .ref t4])), (t1, .inl (cI, 10, .inl fa))] := hD
      refine lv_aload_n hx hb dX9_person_37 rfl (lv_at hl 0 rfl) ?_
      refine va_get (D := D) (ci := 9) (v := .ref tw) (C := RX9) (T := TX9) (N := 11) hx hb htb itX9 hown hK hP 0 rfl rfl 1 (by decide) (htb _ k_394) (fun _ h9 => h9) rfl dX9_person_38 ?_
      refine va_getN (D := D) (ci := 7) (v := .ref t1) (C := RX7) (T := TX7) (N := 7) hx hb htb itX7 hown hK hP 1 rfl rfl 3 (by decide) (va_Nw.use rfl (hN _ n_152 rfl)) (fun _ h9 => h9) rfl dX9_person_41 ?_
      refine lv_iload_n hx hb dX9_person_44 rfl (lv_at hl 1 rfl) ?_
      refine lv_iload_n hx hb dX9_person_45 rfl (lv_at hl 2 rfl) ?_
      refine va_iast hx hb hK hP hD hS 2 0 rfl rfl (vin (Int32.not_lt.mpr (bIt c_7).1) (fun q => absurd (Int32.le_trans q (bIt c_7).2) (by decide)) (by decide)) dX9_person_46 (fun H locs hP hD hS => ?_)
      obtain ⟨f_4, ef_4⟩ : ∃ g : Nat → Int32, g = upd fa (Int32.toNatClampNeg x1) x2 := ⟨_, rfl⟩
      rw [← ef_4] at hP hD
      have hP : va_P D vwCl [(h0, .inr (9, [.ref tp, .ref tw, .ref nw, .ref kp, .ref lw, .ref lr, .ref dd, .ref vv, .ref tl, .ref sc, .int 0])), (tw, .inr (7, [.int x_3, .int 0, .int 0, .ref t1, .ref t2, .ref t3, .ref t4])), (t1, .inl (cI, 10, .inl f_4))] H := hP
      have hD : va_D A [(h0, .inr (9, [.ref tp, .ref tw, .ref nw, .ref kp, .ref lw, .ref lr, .ref dd, .ref vv, .ref tl, .ref sc, .int 0])), (tw, .inr (7, [.int x_3, .int 0, .int 0, .ref t1, .ref t2, .ref t3, .ref t4])), (t1, .inl (cI, 10, .inl f_4))] := hD
      refine lv_iconst (v := 1) hx hb dX9_person_47 (by decide) ?_
      exact ret _ _ _ _ 1 () dX9_person_48 rfl (bI1 ⟨bIt c_7, bIt c_17⟩) (hP.sub [] rfl) (hD.sub [] (by decide) rfl) hS
    · refine lv_iconst (v := 0) hx hb dX9_person_20 (by decide) ?_
      exact ret _ _ _ _ 0 () dX9_person_21 rfl (bI0 (fun h => bIf c_17 h.2)) (hP.sub [] rfl) (hD.sub [] (by decide) rfl) hS

set_option maxRecDepth 100000 in
set_option maxHeartbeats 4000000 in
theorem c_X9_chore (l : Launch) (D : va_G) (cI cB : ClassId) (sz : Nat) (h0 : Nat) (tp : Nat) (tw : Nat) (nw : Nat) (kp : Nat) (lw : Nat) (lr : Nat) (dd : Nat) (vv : Nat) (tl : Nat) (sc : Nat) (t1 : Nat) (t2 : Nat) (t3 : Nat) (t4 : Nat) (u2 : Nat) (f2 : Nat) (g2 : Nat) (fu2 : Nat → Int32) (fa : Nat → Int32) (x1 : Int32) (x2 : Int32)  : MI (S := Unit) l D cI cB yX9_chore cX9_chore 3 .boolean (rm 1 22) [.ref h0, .int x1, .int x2] [(h0, .inr (9, [.ref tp, .ref tw, .ref nw, .ref kp, .ref lw, .ref lr, .ref dd, .ref vv, .ref tl, .ref sc, .int 0])), (tw, .inr (7, [.int 0, .int 0, .int 0, .ref t1, .ref t2, .ref t3, .ref t4])), (t2, .inl (cI, 12, .inl fa)), (nw, .inr (4, [.ref u2, .ref f2, .ref g2, .int 0, .int 0, .int 1])), (u2, .inl (cI, 12, .inl fu2))] sz (fun r u => r = bI ((0 ≤ x1 ∧ x1 ≤ 11) ∧ (0 ≤ x2 ∧ x2 ≤ 20))) (fun u : Unit => []) := by
  refine MI.of (by decide) (Nat.le_of_ble_eq_true rfl) ?_
  intro p e s m below meth c Q ls A X hin hN hP hK hD hA hl ret
  have hS : va_S A s.heap s.heap [] := va_S.rf
  obtain ⟨hx, hb, hml, hown, htb⟩ := id X
  have hl : lv_has ls 3 [(0, .ref h0), (1, .int x1), (2, .int x2)] := hl
  refine lv_iload_n hx hb dX9_chore_0 rfl (lv_at hl 1 rfl) ?_
  refine lv_iconst (v := 0) hx hb dX9_chore_1 (by decide) ?_
  refine lv_bipush (v := 11) hx hb dX9_chore_2 (by decide) ?_
  refine cSR (As := [.int x1, .int 0, .int 11]) (rest := []) (n := 3) X hN hK hP (c_X9_within l D cI cB x1 0 11) k_431 k_432 k_92 k_433 (by decide +kernel) ⟨Nat.le_of_ble_eq_true rfl, Nat.le_of_ble_eq_true rfl⟩ ⟨rfl, rfl⟩ [] rfl rfl rfl hl.1 (Nat.le_of_ble_eq_true rfl) dX9_chore_4 ⟨Nat.le_of_ble_eq_true rfl, Nat.le_of_ble_eq_true rfl⟩ (fun r_1 hr_1 => ?_)
  subst hr_1
  refine lv_if_eq (tgt := 20) hx hb dX9_chore_7 (by decide) (fun c_7 => ?_) (fun c_7 => ?_)
  · refine lv_iconst (v := 0) hx hb dX9_chore_20 (by decide) ?_
    exact ret _ _ _ _ 0 () dX9_chore_21 rfl (bI0 (fun h => bIf c_7 h.1)) (hP.sub [] rfl) (hD.sub [] (by decide) rfl) hS
  · refine lv_iload_n hx hb dX9_chore_10 rfl (lv_at hl 2 rfl) ?_
    refine lv_iconst (v := 0) hx hb dX9_chore_11 (by decide) ?_
    refine lv_bipush (v := 20) hx hb dX9_chore_12 (by decide) ?_
    refine cSR (As := [.int x2, .int 0, .int 20]) (rest := []) (n := 3) X hN hK hP (c_X9_within l D cI cB x2 0 20) k_431 k_432 k_92 k_433 (by decide +kernel) ⟨Nat.le_of_ble_eq_true rfl, Nat.le_of_ble_eq_true rfl⟩ ⟨rfl, rfl⟩ [] rfl rfl rfl hl.1 (Nat.le_of_ble_eq_true rfl) dX9_chore_14 ⟨Nat.le_of_ble_eq_true rfl, Nat.le_of_ble_eq_true rfl⟩ (fun r_2 hr_2 => ?_)
    subst hr_2
    refine lv_if_ne (tgt := 22) hx hb dX9_chore_17 (by decide) (fun c_17 => ?_) (fun c_17 => ?_)
    · refine lv_aload_n hx hb dX9_chore_22 rfl (lv_at hl 0 rfl) ?_
      refine va_get (D := D) (ci := 9) (v := .ref tw) (C := RX9) (T := TX9) (N := 11) hx hb htb itX9 hown hK hP 0 rfl rfl 1 (by decide) (htb _ k_394) (fun _ h9 => h9) rfl dX9_chore_23 ?_
      refine lv_dup hx hb dX9_chore_26 rfl ?_
      refine va_getN (D := D) (ci := 7) (v := .int 0) (C := RX7) (T := TX7) (N := 7) hx hb htb itX7 hown hK hP 1 rfl rfl 1 (by decide) (va_Nw.use rfl (hN _ n_147 rfl)) (fun _ h9 => h9) rfl dX9_chore_27 ?_
      refine lv_iconst (v := 1) hx hb dX9_chore_30 (by decide) ?_
      refine lv_iload_n hx hb dX9_chore_31 rfl (lv_at hl 1 rfl) ?_
      refine lv_ishl hx hb dX9_chore_32 ?_
      refine lv_ior hx hb dX9_chore_33 ?_
      refine lv_topi (fun x_3 ex_3 => ?_)
      refine va_putN (D := D) (ci := 7) (v := .int x_3) (ty := .int) (C := RX7) (T := TX7) (N := 7) hx hb htb itX7 tyX7 tyX7_ok nmX7 hown hK hP hD hS 1 rfl rfl 1 (by decide) (va_Nw.use rfl (hN _ n_147 rfl)) (fun _ h9 => h9) rfl (tyX7_ok 1 (by decide)) rfl rfl (Nat.le_of_ble_eq_true rfl) dX9_chore_34 (fun H locs hP hD hS => ?_)
      have hP : va_P D vwCl [(h0, .inr (9, [.ref tp, .ref tw, .ref nw, .ref kp, .ref lw, .ref lr, .ref dd, .ref vv, .ref tl, .ref sc, .int 0])), (tw, .inr (7, [.int 0, .int x_3, .int 0, .ref t1, .ref t2, .ref t3, .ref t4])), (t2, .inl (cI, 12, .inl fa)), (nw, .inr (4, [.ref u2, .ref f2, .ref g2, .int 0, .int 0, .int 1])), (u2, .inl (cI, 12, .inl fu2))] H := hP
      have hD : va_D A [(h0, .inr (9, [.ref tp, .ref tw, .ref nw, .ref kp, .ref lw, .ref lr, .ref dd, .ref vv, .ref tl, .ref sc, .int 0])), (tw, .inr (7, [.int 0, .int x_3, .int 0, .ref t1, .ref t2, .ref t3, .ref t4])), (t2, .inl (cI, 12, .inl fa)), (nw, .inr (4, [.ref u2, .ref f2, .ref g2, .int 0, .int 0, .int 1])), (u2, .inl (cI, 12, .inl fu2))] := hD
      refine lv_aload_n hx hb dX9_chore_37 rfl (lv_at hl 0 rfl) ?_
      refine va_get (D := D) (ci := 9) (v := .ref tw) (C := RX9) (T := TX9) (N := 11) hx hb htb itX9 hown hK hP 0 rfl rfl 1 (by decide) (htb _ k_394) (fun _ h9 => h9) rfl dX9_chore_38 ?_
      refine va_getN (D := D) (ci := 7) (v := .ref t2) (C := RX7) (T := TX7) (N := 7) hx hb htb itX7 hown hK hP 1 rfl rfl 4 (by decide) (va_Nw.use rfl (hN _ n_155 rfl)) (fun _ h9 => h9) rfl dX9_chore_41 ?_
      refine lv_iload_n hx hb dX9_chore_44 rfl (lv_at hl 1 rfl) ?_
      refine lv_iload_n hx hb dX9_chore_45 rfl (lv_at hl 2 rfl) ?_
      refine va_iast hx hb hK hP hD hS 2 0 rfl rfl (vin (Int32.not_lt.mpr (bIt c_7).1) (fun q => absurd (Int32.le_trans q (bIt c_7).2) (by decide)) (by decide)) dX9_chore_46 (fun H locs hP hD hS => ?_)
      obtain ⟨f_4, ef_4⟩ : ∃ g : Nat → Int32, g = upd fa (Int32.toNatClampNeg x1) x2 := ⟨_, rfl⟩
      rw [← ef_4] at hP hD
      have hP : va_P D vwCl [(h0, .inr (9, [.ref tp, .ref tw, .ref nw, .ref kp, .ref lw, .ref lr, .ref dd, .ref vv, .ref tl, .ref sc, .int 0])), (tw, .inr (7, [.int 0, .int x_3, .int 0, .ref t1, .ref t2, .ref t3, .ref t4])), (t2, .inl (cI, 12, .inl f_4)), (nw, .inr (4, [.ref u2, .ref f2, .ref g2, .int 0, .int 0, .int 1])), (u2, .inl (cI, 12, .inl fu2))] H := hP
      have hD : va_D A [(h0, .inr (9, [.ref tp, .ref tw, .ref nw, .ref kp, .ref lw, .ref lr, .ref dd, .ref vv, .ref tl, .ref sc, .int 0])), (tw, .inr (7, [.int 0, .int x_3, .int 0, .ref t1, .ref t2, .ref t3, .ref t4])), (t2, .inl (cI, 12, .inl f_4)), (nw, .inr (4, [.ref u2, .ref f2, .ref g2, .int 0, .int 0, .int 1])), (u2, .inl (cI, 12, .inl fu2))] := hD
      refine lv_aload_n hx hb dX9_chore_47 rfl (lv_at hl 0 rfl) ?_
      refine va_get (D := D) (ci := 9) (v := .ref nw) (C := RX9) (T := TX9) (N := 11) hx hb htb itX9 hown hK hP 0 rfl rfl 2 (by decide) (htb _ k_395) (fun _ h9 => h9) rfl dX9_chore_48 ?_
      refine va_getN (D := D) (ci := 4) (v := .ref u2) (C := RX4) (T := TX4) (N := 6) hx hb htb itX4 hown hK hP 3 rfl rfl 0 (by decide) (va_Nw.use rfl (hN _ n_190 rfl)) (fun _ h9 => h9) rfl dX9_chore_51 ?_
      refine lv_iload_n hx hb dX9_chore_54 rfl (lv_at hl 1 rfl) ?_
      refine lv_iconst (v := 0) hx hb dX9_chore_55 (by decide) ?_
      refine va_iast hx hb hK hP hD hS 4 0 rfl rfl (vin (Int32.not_lt.mpr (bIt c_7).1) (fun q => absurd (Int32.le_trans q (bIt c_7).2) (by decide)) (by decide)) dX9_chore_56 (fun H locs hP hD hS => ?_)
      obtain ⟨f_5, ef_5⟩ : ∃ g : Nat → Int32, g = upd fu2 (Int32.toNatClampNeg x1) 0 := ⟨_, rfl⟩
      rw [← ef_5] at hP hD
      have hP : va_P D vwCl [(h0, .inr (9, [.ref tp, .ref tw, .ref nw, .ref kp, .ref lw, .ref lr, .ref dd, .ref vv, .ref tl, .ref sc, .int 0])), (tw, .inr (7, [.int 0, .int x_3, .int 0, .ref t1, .ref t2, .ref t3, .ref t4])), (t2, .inl (cI, 12, .inl f_4)), (nw, .inr (4, [.ref u2, .ref f2, .ref g2, .int 0, .int 0, .int 1])), (u2, .inl (cI, 12, .inl f_5))] H := hP
      have hD : va_D A [(h0, .inr (9, [.ref tp, .ref tw, .ref nw, .ref kp, .ref lw, .ref lr, .ref dd, .ref vv, .ref tl, .ref sc, .int 0])), (tw, .inr (7, [.int 0, .int x_3, .int 0, .ref t1, .ref t2, .ref t3, .ref t4])), (t2, .inl (cI, 12, .inl f_4)), (nw, .inr (4, [.ref u2, .ref f2, .ref g2, .int 0, .int 0, .int 1])), (u2, .inl (cI, 12, .inl f_5))] := hD
      refine lv_iconst (v := 1) hx hb dX9_chore_57 (by decide) ?_
      exact ret _ _ _ _ 1 () dX9_chore_58 rfl (bI1 ⟨bIt c_7, bIt c_17⟩) (hP.sub [] rfl) (hD.sub [] (by decide) rfl) hS
    · refine lv_iconst (v := 0) hx hb dX9_chore_20 (by decide) ?_
      exact ret _ _ _ _ 0 () dX9_chore_21 rfl (bI0 (fun h => bIf c_17 h.2)) (hP.sub [] rfl) (hD.sub [] (by decide) rfl) hS

set_option maxRecDepth 100000 in
set_option maxHeartbeats 4000000 in
theorem c_X9_rain (l : Launch) (D : va_G) (cI cB : ClassId) (sz : Nat) (h0 : Nat) (tp : Nat) (tw : Nat) (nw : Nat) (kp : Nat) (lw : Nat) (lr : Nat) (dd : Nat) (vv : Nat) (tl : Nat) (sc : Nat) (t1 : Nat) (t2 : Nat) (t3 : Nat) (t4 : Nat) (x1 : Int32)  : MI (S := Unit) l D cI cB yX9_rain cX9_rain 2 .boolean (rm 1 22) [.ref h0, .int x1] [(h0, .inr (9, [.ref tp, .ref tw, .ref nw, .ref kp, .ref lw, .ref lr, .ref dd, .ref vv, .ref tl, .ref sc, .int 0])), (tw, .inr (7, [.int 0, .int 0, .int 0, .ref t1, .ref t2, .ref t3, .ref t4]))] sz (fun r u => r = bI (0 ≤ x1 ∧ x1 ≤ 10)) (fun u : Unit => []) := by
  refine MI.of (by decide) (Nat.le_of_ble_eq_true rfl) ?_
  intro p e s m below meth c Q ls A X hin hN hP hK hD hA hl ret
  have hS : va_S A s.heap s.heap [] := va_S.rf
  obtain ⟨hx, hb, hml, hown, htb⟩ := id X
  have hl : lv_has ls 2 [(0, .ref h0), (1, .int x1)] := hl
  refine lv_iload_n hx hb dX9_rain_0 rfl (lv_at hl 1 rfl) ?_
  refine lv_iconst (v := 0) hx hb dX9_rain_1 (by decide) ?_
  refine lv_bipush (v := 10) hx hb dX9_rain_2 (by decide) ?_
  refine cSR (As := [.int x1, .int 0, .int 10]) (rest := []) (n := 3) X hN hK hP (c_X9_within l D cI cB x1 0 10) k_431 k_432 k_92 k_433 (by decide +kernel) ⟨Nat.le_of_ble_eq_true rfl, Nat.le_of_ble_eq_true rfl⟩ ⟨rfl, rfl⟩ [] rfl rfl rfl hl.1 (Nat.le_of_ble_eq_true rfl) dX9_rain_4 ⟨Nat.le_of_ble_eq_true rfl, Nat.le_of_ble_eq_true rfl⟩ (fun r_1 hr_1 => ?_)
  subst hr_1
  refine lv_if_ne (tgt := 12) hx hb dX9_rain_7 (by decide) (fun c_7 => ?_) (fun c_7 => ?_)
  · refine lv_aload_n hx hb dX9_rain_12 rfl (lv_at hl 0 rfl) ?_
    refine va_get (D := D) (ci := 9) (v := .ref tw) (C := RX9) (T := TX9) (N := 11) hx hb htb itX9 hown hK hP 0 rfl rfl 1 (by decide) (htb _ k_394) (fun _ h9 => h9) rfl dX9_rain_13 ?_
    refine lv_iload_n hx hb dX9_rain_16 rfl (lv_at hl 1 rfl) ?_
    refine va_putN (D := D) (ci := 7) (v := .int x1) (ty := .int) (C := RX7) (T := TX7) (N := 7) hx hb htb itX7 tyX7 tyX7_ok nmX7 hown hK hP hD hS 1 rfl rfl 2 (by decide) (va_Nw.use rfl (hN _ n_149 rfl)) (fun _ h9 => h9) rfl (tyX7_ok 2 (by decide)) rfl rfl (Nat.le_of_ble_eq_true rfl) dX9_rain_17 (fun H locs hP hD hS => ?_)
    have hP : va_P D vwCl [(h0, .inr (9, [.ref tp, .ref tw, .ref nw, .ref kp, .ref lw, .ref lr, .ref dd, .ref vv, .ref tl, .ref sc, .int 0])), (tw, .inr (7, [.int 0, .int 0, .int x1, .ref t1, .ref t2, .ref t3, .ref t4]))] H := hP
    have hD : va_D A [(h0, .inr (9, [.ref tp, .ref tw, .ref nw, .ref kp, .ref lw, .ref lr, .ref dd, .ref vv, .ref tl, .ref sc, .int 0])), (tw, .inr (7, [.int 0, .int 0, .int x1, .ref t1, .ref t2, .ref t3, .ref t4]))] := hD
    refine lv_iconst (v := 1) hx hb dX9_rain_20 (by decide) ?_
    exact ret _ _ _ _ 1 () dX9_rain_21 rfl (bI1 (bIt c_7)) (hP.sub [] rfl) (hD.sub [] (by decide) rfl) hS
  · refine lv_iconst (v := 0) hx hb dX9_rain_10 (by decide) ?_
    exact ret _ _ _ _ 0 () dX9_rain_11 rfl (bI0 (bIf c_7)) (hP.sub [] rfl) (hD.sub [] (by decide) rfl) hS

set_option maxRecDepth 100000 in
set_option maxHeartbeats 4000000 in
theorem c_X9_seed (l : Launch) (D : va_G) (cI cB : ClassId) (sz : Nat) (h0 : Nat) (tp : Nat) (tw : Nat) (nw : Nat) (kp : Nat) (lw : Nat) (lr : Nat) (dd : Nat) (vv : Nat) (tl : Nat) (sc : Nat) (u2 : Nat) (f2 : Nat) (g2 : Nat) (x1 : Int32)  : MI (S := Unit) l D cI cB yX9_seed cX9_seed 2 .boolean (rm 1 22) [.ref h0, .int x1] [(h0, .inr (9, [.ref tp, .ref tw, .ref nw, .ref kp, .ref lw, .ref lr, .ref dd, .ref vv, .ref tl, .ref sc, .int 0])), (nw, .inr (4, [.ref u2, .ref f2, .ref g2, .int 0, .int 0, .int 1]))] sz (fun r u => r = bI (0 ≤ x1 ∧ x1 ≤ 65535)) (fun u : Unit => []) := by
  refine MI.of (by decide) (Nat.le_of_ble_eq_true rfl) ?_
  intro p e s m below meth c Q ls A X hin hN hP hK hD hA hl ret
  have hS : va_S A s.heap s.heap [] := va_S.rf
  obtain ⟨hx, hb, hml, hown, htb⟩ := id X
  have hl : lv_has ls 2 [(0, .ref h0), (1, .int x1)] := hl
  refine lv_iload_n hx hb dX9_seed_0 rfl (lv_at hl 1 rfl) ?_
  refine lv_iconst (v := 0) hx hb dX9_seed_1 (by decide) ?_
  refine lv_ldc (v := 65535) hx hb hown (htb _ k_765) dX9_seed_2 ?_
  refine cSR (As := [.int x1, .int 0, .int 65535]) (rest := []) (n := 3) X hN hK hP (c_X9_within l D cI cB x1 0 65535) k_431 k_432 k_92 k_433 (by decide +kernel) ⟨Nat.le_of_ble_eq_true rfl, Nat.le_of_ble_eq_true rfl⟩ ⟨rfl, rfl⟩ [] rfl rfl rfl hl.1 (Nat.le_of_ble_eq_true rfl) dX9_seed_4 ⟨Nat.le_of_ble_eq_true rfl, Nat.le_of_ble_eq_true rfl⟩ (fun r_1 hr_1 => ?_)
  subst hr_1
  refine lv_if_ne (tgt := 12) hx hb dX9_seed_7 (by decide) (fun c_7 => ?_) (fun c_7 => ?_)
  · refine lv_aload_n hx hb dX9_seed_12 rfl (lv_at hl 0 rfl) ?_
    refine va_get (D := D) (ci := 9) (v := .ref nw) (C := RX9) (T := TX9) (N := 11) hx hb htb itX9 hown hK hP 0 rfl rfl 2 (by decide) (htb _ k_395) (fun _ h9 => h9) rfl dX9_seed_13 ?_
    refine lv_iload_n hx hb dX9_seed_16 rfl (lv_at hl 1 rfl) ?_
    refine va_putN (D := D) (ci := 4) (v := .int x1) (ty := .int) (C := RX4) (T := TX4) (N := 6) hx hb htb itX4 tyX4 tyX4_ok nmX4 hown hK hP hD hS 1 rfl rfl 5 (by decide) (va_Nw.use rfl (hN _ n_204 rfl)) (fun _ h9 => h9) rfl (tyX4_ok 5 (by decide)) rfl rfl (Nat.le_of_ble_eq_true rfl) dX9_seed_17 (fun H locs hP hD hS => ?_)
    have hP : va_P D vwCl [(h0, .inr (9, [.ref tp, .ref tw, .ref nw, .ref kp, .ref lw, .ref lr, .ref dd, .ref vv, .ref tl, .ref sc, .int 0])), (nw, .inr (4, [.ref u2, .ref f2, .ref g2, .int 0, .int 0, .int x1]))] H := hP
    have hD : va_D A [(h0, .inr (9, [.ref tp, .ref tw, .ref nw, .ref kp, .ref lw, .ref lr, .ref dd, .ref vv, .ref tl, .ref sc, .int 0])), (nw, .inr (4, [.ref u2, .ref f2, .ref g2, .int 0, .int 0, .int x1]))] := hD
    refine lv_iconst (v := 1) hx hb dX9_seed_20 (by decide) ?_
    exact ret _ _ _ _ 1 () dX9_seed_21 rfl (bI1 (bIt c_7)) (hP.sub [] rfl) (hD.sub [] (by decide) rfl) hS
  · refine lv_iconst (v := 0) hx hb dX9_seed_10 (by decide) ?_
    exact ret _ _ _ _ 0 () dX9_seed_11 rfl (bI0 (bIf c_7)) (hP.sub [] rfl) (hD.sub [] (by decide) rfl) hS

set_option maxRecDepth 100000 in
set_option maxHeartbeats 4000000 in
theorem c_X9_feed (l : Launch) (D : va_G) (cI cB : ClassId) (sz : Nat) (h0 : Nat) (tp : Nat) (tw : Nat) (nw : Nat) (kp : Nat) (lw : Nat) (lr : Nat) (dd : Nat) (vv : Nat) (tl : Nat) (sc : Nat) (by_ : Nat) (fb : Nat → Int32) (v1 : Int32) (v2 : Int32) (v3 : Int32) (v4 : Int32) (v5 : Int32)  : MI (S := Unit) l D cI cB yX9_feed cX9_feed 6 .int (rm 1 22) [.ref h0, .int v1, .int v2, .int v3, .int v4, .int v5] [(h0, .inr (9, [.ref tp, .ref tw, .ref nw, .ref kp, .ref lw, .ref lr, .ref dd, .ref vv, .ref tl, .ref sc, .int 0])), (tp, .inr (5, [.ref by_, .int 0])), (by_, .inl (cI, 260, .inl fb))] sz (fun r u => r = 20) (fun u : Unit => []) := by
  refine MI.of (by decide) (Nat.le_of_ble_eq_true rfl) ?_
  intro p e s m below meth c Q ls A X hin hN hP hK hD hA hl ret
  have hS : va_S A s.heap s.heap [] := va_S.rf
  obtain ⟨hx, hb, hml, hown, htb⟩ := id X
  have hl : lv_has ls 6 [(0, .ref h0), (1, .int v1), (2, .int v2), (3, .int v3), (4, .int v4), (5, .int v5)] := hl
  refine lv_aload_n hx hb dX9_feed_0 rfl (lv_at hl 0 rfl) ?_
  refine va_get (D := D) (ci := 9) (v := .ref tp) (C := RX9) (T := TX9) (N := 11) hx hb htb itX9 hown hK hP 0 rfl rfl 0 (by decide) (htb _ k_393) (fun _ h9 => h9) rfl dX9_feed_1 ?_
  refine lv_bipush (v := 20) hx hb dX9_feed_4 (by decide) ?_
  refine cVR (As := [.int 20]) (rest := []) (n := 1) (ci := 5) (q0 := 0) X hN hK hP (c_X5_hasRoomFor l D cI cB tp by_ fb) (gV k_446 k_447 k_448 k_93 k_449) (by decide +kernel) ⟨Nat.le_of_ble_eq_true rfl, Nat.le_of_ble_eq_true rfl⟩ ⟨rfl, rfl⟩ [1, 2] rfl rfl rfl rfl rfl rfl hl.1 (Nat.le_of_ble_eq_true rfl) dX9_feed_6 ⟨Nat.le_of_ble_eq_true rfl, Nat.le_of_ble_eq_true rfl⟩ (fun r_1 hr_1 => ?_)
  subst hr_1
  refine lv_if_ne (tgt := 14) hx hb dX9_feed_9 (by decide) (fun _ => ?_) (fun c_9 => absurd c_9 (by decide))
  refine lv_aload_n hx hb dX9_feed_14 rfl (lv_at hl 0 rfl) ?_
  refine va_get (D := D) (ci := 9) (v := .ref tp) (C := RX9) (T := TX9) (N := 11) hx hb htb itX9 hown hK hP 0 rfl rfl 0 (by decide) (htb _ k_393) (fun _ h9 => h9) rfl dX9_feed_15 ?_
  refine lv_iload_n hx hb dX9_feed_18 rfl (lv_at hl 1 rfl) ?_
  refine cVV (As := [.int v1]) (rest := []) (n := 1) (ci := 5) (q0 := 0) (wr := [(h0, .inr (9, [.ref tp, .ref tw, .ref nw, .ref kp, .ref lw, .ref lr, .ref dd, .ref vv, .ref tl, .ref sc, .int 0]))]) X hN hK hP hD hS hA (c_X5_addWord l D cI cB _ tp by_ 0 v1 fb (by decide)) (gV k_450 k_451 k_452 k_93 k_453) (by decide +kernel) ⟨Nat.le_of_ble_eq_true rfl, Nat.le_of_ble_eq_true rfl⟩ ⟨rfl, rfl⟩ [1, 2] [0] rfl rfl (by decide) (by decide) rfl rfl rfl rfl rfl hl.1 (Nat.le_of_ble_eq_true rfl) dX9_feed_19 ⟨Nat.le_of_ble_eq_true rfl, Nat.le_of_ble_eq_true rfl⟩ (fun u H locs hw_4 hP hD hS => ?_)
  obtain ⟨bo_3, rfl⟩ : ∃ z, z = u := ⟨_, rfl⟩
  try dsimp only at hw_4
  have hP : va_P D vwCl [(h0, .inr (9, [.ref tp, .ref tw, .ref nw, .ref kp, .ref lw, .ref lr, .ref dd, .ref vv, .ref tl, .ref sc, .int 0])), (tp, .inr (5, [.ref by_, .int (nI (0 + 4))])), (by_, .inl (cI, 260, .inl bo_3))] H := hP
  have hD : va_D A [(h0, .inr (9, [.ref tp, .ref tw, .ref nw, .ref kp, .ref lw, .ref lr, .ref dd, .ref vv, .ref tl, .ref sc, .int 0])), (tp, .inr (5, [.ref by_, .int (nI (0 + 4))])), (by_, .inl (cI, 260, .inl bo_3))] := hD
  refine lv_aload_n hx hb dX9_feed_22 rfl (lv_at hl 0 rfl) ?_
  refine va_get (D := D) (ci := 9) (v := .ref tp) (C := RX9) (T := TX9) (N := 11) hx hb htb itX9 hown hK hP 0 rfl rfl 0 (by decide) (htb _ k_393) (fun _ h9 => h9) rfl dX9_feed_23 ?_
  refine lv_iload_n hx hb dX9_feed_26 rfl (lv_at hl 2 rfl) ?_
  refine cVV (As := [.int v2]) (rest := []) (n := 1) (ci := 5) (q0 := 0) (wr := [(h0, .inr (9, [.ref tp, .ref tw, .ref nw, .ref kp, .ref lw, .ref lr, .ref dd, .ref vv, .ref tl, .ref sc, .int 0]))]) X hN hK hP hD hS hA (c_X5_addWord l D cI cB _ tp by_ (0 + 4) v2 bo_3 (by decide)) (gV k_450 k_451 k_452 k_93 k_453) (by decide +kernel) ⟨Nat.le_of_ble_eq_true rfl, Nat.le_of_ble_eq_true rfl⟩ ⟨rfl, rfl⟩ [1, 2] [0] rfl rfl (by decide) (by decide) rfl rfl rfl rfl rfl hl.1 (Nat.le_of_ble_eq_true rfl) dX9_feed_27 ⟨Nat.le_of_ble_eq_true rfl, Nat.le_of_ble_eq_true rfl⟩ (fun u H locs hw_7 hP hD hS => ?_)
  obtain ⟨bo_6, rfl⟩ : ∃ z, z = u := ⟨_, rfl⟩
  try dsimp only at hw_7
  have hP : va_P D vwCl [(h0, .inr (9, [.ref tp, .ref tw, .ref nw, .ref kp, .ref lw, .ref lr, .ref dd, .ref vv, .ref tl, .ref sc, .int 0])), (tp, .inr (5, [.ref by_, .int (nI ((0 + 4) + 4))])), (by_, .inl (cI, 260, .inl bo_6))] H := hP
  have hD : va_D A [(h0, .inr (9, [.ref tp, .ref tw, .ref nw, .ref kp, .ref lw, .ref lr, .ref dd, .ref vv, .ref tl, .ref sc, .int 0])), (tp, .inr (5, [.ref by_, .int (nI ((0 + 4) + 4))])), (by_, .inl (cI, 260, .inl bo_6))] := hD
  refine lv_aload_n hx hb dX9_feed_30 rfl (lv_at hl 0 rfl) ?_
  refine va_get (D := D) (ci := 9) (v := .ref tp) (C := RX9) (T := TX9) (N := 11) hx hb htb itX9 hown hK hP 0 rfl rfl 0 (by decide) (htb _ k_393) (fun _ h9 => h9) rfl dX9_feed_31 ?_
  refine lv_iload_n hx hb dX9_feed_34 rfl (lv_at hl 3 rfl) ?_
  refine cVV (As := [.int v3]) (rest := []) (n := 1) (ci := 5) (q0 := 0) (wr := [(h0, .inr (9, [.ref tp, .ref tw, .ref nw, .ref kp, .ref lw, .ref lr, .ref dd, .ref vv, .ref tl, .ref sc, .int 0]))]) X hN hK hP hD hS hA (c_X5_addWord l D cI cB _ tp by_ ((0 + 4) + 4) v3 bo_6 (by decide)) (gV k_450 k_451 k_452 k_93 k_453) (by decide +kernel) ⟨Nat.le_of_ble_eq_true rfl, Nat.le_of_ble_eq_true rfl⟩ ⟨rfl, rfl⟩ [1, 2] [0] rfl rfl (by decide) (by decide) rfl rfl rfl rfl rfl hl.1 (Nat.le_of_ble_eq_true rfl) dX9_feed_35 ⟨Nat.le_of_ble_eq_true rfl, Nat.le_of_ble_eq_true rfl⟩ (fun u H locs hw_10 hP hD hS => ?_)
  obtain ⟨bo_9, rfl⟩ : ∃ z, z = u := ⟨_, rfl⟩
  try dsimp only at hw_10
  have hP : va_P D vwCl [(h0, .inr (9, [.ref tp, .ref tw, .ref nw, .ref kp, .ref lw, .ref lr, .ref dd, .ref vv, .ref tl, .ref sc, .int 0])), (tp, .inr (5, [.ref by_, .int (nI (((0 + 4) + 4) + 4))])), (by_, .inl (cI, 260, .inl bo_9))] H := hP
  have hD : va_D A [(h0, .inr (9, [.ref tp, .ref tw, .ref nw, .ref kp, .ref lw, .ref lr, .ref dd, .ref vv, .ref tl, .ref sc, .int 0])), (tp, .inr (5, [.ref by_, .int (nI (((0 + 4) + 4) + 4))])), (by_, .inl (cI, 260, .inl bo_9))] := hD
  refine lv_aload_n hx hb dX9_feed_38 rfl (lv_at hl 0 rfl) ?_
  refine va_get (D := D) (ci := 9) (v := .ref tp) (C := RX9) (T := TX9) (N := 11) hx hb htb itX9 hown hK hP 0 rfl rfl 0 (by decide) (htb _ k_393) (fun _ h9 => h9) rfl dX9_feed_39 ?_
  refine lv_iload hx hb dX9_feed_42 (lv_at hl 4 rfl) ?_
  refine cVV (As := [.int v4]) (rest := []) (n := 1) (ci := 5) (q0 := 0) (wr := [(h0, .inr (9, [.ref tp, .ref tw, .ref nw, .ref kp, .ref lw, .ref lr, .ref dd, .ref vv, .ref tl, .ref sc, .int 0]))]) X hN hK hP hD hS hA (c_X5_addWord l D cI cB _ tp by_ (((0 + 4) + 4) + 4) v4 bo_9 (by decide)) (gV k_450 k_451 k_452 k_93 k_453) (by decide +kernel) ⟨Nat.le_of_ble_eq_true rfl, Nat.le_of_ble_eq_true rfl⟩ ⟨rfl, rfl⟩ [1, 2] [0] rfl rfl (by decide) (by decide) rfl rfl rfl rfl rfl hl.1 (Nat.le_of_ble_eq_true rfl) dX9_feed_44 ⟨Nat.le_of_ble_eq_true rfl, Nat.le_of_ble_eq_true rfl⟩ (fun u H locs hw_13 hP hD hS => ?_)
  obtain ⟨bo_12, rfl⟩ : ∃ z, z = u := ⟨_, rfl⟩
  try dsimp only at hw_13
  have hP : va_P D vwCl [(h0, .inr (9, [.ref tp, .ref tw, .ref nw, .ref kp, .ref lw, .ref lr, .ref dd, .ref vv, .ref tl, .ref sc, .int 0])), (tp, .inr (5, [.ref by_, .int (nI ((((0 + 4) + 4) + 4) + 4))])), (by_, .inl (cI, 260, .inl bo_12))] H := hP
  have hD : va_D A [(h0, .inr (9, [.ref tp, .ref tw, .ref nw, .ref kp, .ref lw, .ref lr, .ref dd, .ref vv, .ref tl, .ref sc, .int 0])), (tp, .inr (5, [.ref by_, .int (nI ((((0 + 4) + 4) + 4) + 4))])), (by_, .inl (cI, 260, .inl bo_12))] := hD
  refine lv_aload_n hx hb dX9_feed_47 rfl (lv_at hl 0 rfl) ?_
  refine va_get (D := D) (ci := 9) (v := .ref tp) (C := RX9) (T := TX9) (N := 11) hx hb htb itX9 hown hK hP 0 rfl rfl 0 (by decide) (htb _ k_393) (fun _ h9 => h9) rfl dX9_feed_48 ?_
  refine lv_iload hx hb dX9_feed_51 (lv_at hl 5 rfl) ?_
  refine cVV (As := [.int v5]) (rest := []) (n := 1) (ci := 5) (q0 := 0) (wr := [(h0, .inr (9, [.ref tp, .ref tw, .ref nw, .ref kp, .ref lw, .ref lr, .ref dd, .ref vv, .ref tl, .ref sc, .int 0]))]) X hN hK hP hD hS hA (c_X5_addWord l D cI cB _ tp by_ ((((0 + 4) + 4) + 4) + 4) v5 bo_12 (by decide)) (gV k_450 k_451 k_452 k_93 k_453) (by decide +kernel) ⟨Nat.le_of_ble_eq_true rfl, Nat.le_of_ble_eq_true rfl⟩ ⟨rfl, rfl⟩ [1, 2] [0] rfl rfl (by decide) (by decide) rfl rfl rfl rfl rfl hl.1 (Nat.le_of_ble_eq_true rfl) dX9_feed_53 ⟨Nat.le_of_ble_eq_true rfl, Nat.le_of_ble_eq_true rfl⟩ (fun u H locs hw_16 hP hD hS => ?_)
  obtain ⟨bo_15, rfl⟩ : ∃ z, z = u := ⟨_, rfl⟩
  try dsimp only at hw_16
  have hP : va_P D vwCl [(h0, .inr (9, [.ref tp, .ref tw, .ref nw, .ref kp, .ref lw, .ref lr, .ref dd, .ref vv, .ref tl, .ref sc, .int 0])), (tp, .inr (5, [.ref by_, .int (nI (((((0 + 4) + 4) + 4) + 4) + 4))])), (by_, .inl (cI, 260, .inl bo_15))] H := hP
  have hD : va_D A [(h0, .inr (9, [.ref tp, .ref tw, .ref nw, .ref kp, .ref lw, .ref lr, .ref dd, .ref vv, .ref tl, .ref sc, .int 0])), (tp, .inr (5, [.ref by_, .int (nI (((((0 + 4) + 4) + 4) + 4) + 4))])), (by_, .inl (cI, 260, .inl bo_15))] := hD
  refine lv_aload_n hx hb dX9_feed_56 rfl (lv_at hl 0 rfl) ?_
  refine va_get (D := D) (ci := 9) (v := .ref tp) (C := RX9) (T := TX9) (N := 11) hx hb htb itX9 hown hK hP 0 rfl rfl 0 (by decide) (htb _ k_393) (fun _ h9 => h9) rfl dX9_feed_57 ?_
  refine va_getN (D := D) (ci := 5) (v := .int (nI (((((0 + 4) + 4) + 4) + 4) + 4))) (C := RX5) (T := TX5) (N := 2) hx hb htb itX5 hown hK hP 1 rfl rfl 1 (by decide) (va_Nw.use rfl (hN _ n_130 rfl)) (fun _ h9 => h9) rfl dX9_feed_60 ?_
  exact ret _ _ _ _ (nI (((((0 + 4) + 4) + 4) + 4) + 4)) () dX9_feed_63 rfl (by decide) (hP.sub [] rfl) (hD.sub [] (by decide) rfl) hS

set_option maxRecDepth 100000 in
set_option maxHeartbeats 4000000 in
theorem c_X9_law (l : Launch) (D : va_G) (cI cB : ClassId) (h0 : Nat) (tp : Nat) (tw : Nat) (nw : Nat) (kp : Nat) (lw : Nat) (lr : Nat) (dd : Nat) (vv : Nat) (tl : Nat) (sc : Nat) (by_ : Nat) (n : Int32)  : MR l D cI cB yX9_law cX9_law 3 .int (rm 1 23) [.ref h0, .int n] [(h0, .inr (9, [.ref tp, .ref tw, .ref nw, .ref kp, .ref lw, .ref lr, .ref dd, .ref vv, .ref tl, .ref sc, .int 0])), (tp, .inr (5, [.ref by_, .int 0]))] (fun r : Int32 => r = -1) := by
  refine MR.of (by decide) (Nat.le_of_ble_eq_true rfl) ?_
  intro p e s m below meth c Q ls X hN hP hK hl ret
  obtain ⟨hx, hb, hml, hown, htb⟩ := id X
  have hl : lv_has ls 3 [(0, .ref h0), (1, .int n)] := hl
  refine lv_aload_n hx hb dX9_law_0 rfl (lv_at hl 0 rfl) ?_
  refine va_get (D := D) (ci := 9) (v := .ref tp) (C := RX9) (T := TX9) (N := 11) hx hb htb itX9 hown hK hP 0 rfl rfl 0 (by decide) (htb _ k_393) (fun _ h9 => h9) rfl dX9_law_1 ?_
  refine lv_iload_n hx hb dX9_law_4 rfl (lv_at hl 1 rfl) ?_
  refine lv_iconst (v := 1) hx hb dX9_law_5 (by decide) ?_
  refine lv_sipush (v := 240) hx hb dX9_law_6 (by decide) ?_
  refine cVR (As := [.int n, .int 1, .int 240]) (rest := []) (n := 3) (ci := 5) (q0 := 0) X hN hK hP (c_X5_canGive l D cI cB tp by_ n 1 240) (gV k_458 k_459 k_460 k_93 k_461) (by decide +kernel) ⟨Nat.le_of_ble_eq_true rfl, Nat.le_of_ble_eq_true rfl⟩ ⟨rfl, rfl⟩ [1] rfl rfl rfl rfl rfl rfl hl.1 (Nat.le_of_ble_eq_true rfl) dX9_law_9 ⟨Nat.le_of_ble_eq_true rfl, Nat.le_of_ble_eq_true rfl⟩ (fun r_1 hr_1 => ?_)
  subst hr_1
  refine lv_if_ne (tgt := 17) hx hb dX9_law_12 (by decide) (fun c_12 => absurd ((bI0 (cg0 (by decide))).symm) c_12) (fun _ => ?_)
  refine lv_iconst (v := (-1)) hx hb dX9_law_15 (by decide) ?_
  exact ret _ _ (-1) dX9_law_16 rfl rfl

set_option maxRecDepth 100000 in
set_option maxHeartbeats 4000000 in
theorem c_X9_doers (l : Launch) (D : va_G) (cI cB : ClassId) (h0 : Nat) (tp : Nat) (tw : Nat) (nw : Nat) (kp : Nat) (lw : Nat) (lr : Nat) (dd : Nat) (vv : Nat) (tl : Nat) (sc : Nat) (by_ : Nat) (n : Int32)  : MR l D cI cB yX9_doers cX9_doers 3 .int (rm 1 23) [.ref h0, .int n] [(h0, .inr (9, [.ref tp, .ref tw, .ref nw, .ref kp, .ref lw, .ref lr, .ref dd, .ref vv, .ref tl, .ref sc, .int 0])), (tp, .inr (5, [.ref by_, .int 0]))] (fun r : Int32 => r = -1) := by
  refine MR.of (by decide) (Nat.le_of_ble_eq_true rfl) ?_
  intro p e s m below meth c Q ls X hN hP hK hl ret
  obtain ⟨hx, hb, hml, hown, htb⟩ := id X
  have hl : lv_has ls 3 [(0, .ref h0), (1, .int n)] := hl
  refine lv_aload_n hx hb dX9_doers_0 rfl (lv_at hl 0 rfl) ?_
  refine va_get (D := D) (ci := 9) (v := .ref tp) (C := RX9) (T := TX9) (N := 11) hx hb htb itX9 hown hK hP 0 rfl rfl 0 (by decide) (htb _ k_393) (fun _ h9 => h9) rfl dX9_doers_1 ?_
  refine lv_iload_n hx hb dX9_doers_4 rfl (lv_at hl 1 rfl) ?_
  refine lv_iconst (v := 1) hx hb dX9_doers_5 (by decide) ?_
  refine lv_bipush (v := 120) hx hb dX9_doers_6 (by decide) ?_
  refine cVR (As := [.int n, .int 1, .int 120]) (rest := []) (n := 3) (ci := 5) (q0 := 0) X hN hK hP (c_X5_canGive l D cI cB tp by_ n 1 120) (gV k_458 k_459 k_460 k_93 k_461) (by decide +kernel) ⟨Nat.le_of_ble_eq_true rfl, Nat.le_of_ble_eq_true rfl⟩ ⟨rfl, rfl⟩ [1] rfl rfl rfl rfl rfl rfl hl.1 (Nat.le_of_ble_eq_true rfl) dX9_doers_8 ⟨Nat.le_of_ble_eq_true rfl, Nat.le_of_ble_eq_true rfl⟩ (fun r_1 hr_1 => ?_)
  subst hr_1
  refine lv_if_ne (tgt := 16) hx hb dX9_doers_11 (by decide) (fun c_11 => absurd ((bI0 (cg0 (by decide))).symm) c_11) (fun _ => ?_)
  refine lv_iconst (v := (-1)) hx hb dX9_doers_14 (by decide) ?_
  exact ret _ _ (-1) dX9_doers_15 rfl rfl

set_option maxRecDepth 100000 in
set_option maxHeartbeats 4000000 in
theorem c_X9_leaves (l : Launch) (D : va_G) (cI cB : ClassId) (h0 : Nat) (tp : Nat) (tw : Nat) (nw : Nat) (kp : Nat) (lw : Nat) (lr : Nat) (dd : Nat) (vv : Nat) (tl : Nat) (sc : Nat) (by_ : Nat) (n : Int32)  : MR l D cI cB yX9_leaves cX9_leaves 3 .int (rm 1 23) [.ref h0, .int n] [(h0, .inr (9, [.ref tp, .ref tw, .ref nw, .ref kp, .ref lw, .ref lr, .ref dd, .ref vv, .ref tl, .ref sc, .int 0])), (tp, .inr (5, [.ref by_, .int 0]))] (fun r : Int32 => r = -1) := by
  refine MR.of (by decide) (Nat.le_of_ble_eq_true rfl) ?_
  intro p e s m below meth c Q ls X hN hP hK hl ret
  obtain ⟨hx, hb, hml, hown, htb⟩ := id X
  have hl : lv_has ls 3 [(0, .ref h0), (1, .int n)] := hl
  refine lv_aload_n hx hb dX9_leaves_0 rfl (lv_at hl 0 rfl) ?_
  refine va_get (D := D) (ci := 9) (v := .ref tp) (C := RX9) (T := TX9) (N := 11) hx hb htb itX9 hown hK hP 0 rfl rfl 0 (by decide) (htb _ k_393) (fun _ h9 => h9) rfl dX9_leaves_1 ?_
  refine lv_iload_n hx hb dX9_leaves_4 rfl (lv_at hl 1 rfl) ?_
  refine lv_iconst (v := 1) hx hb dX9_leaves_5 (by decide) ?_
  refine lv_bipush (v := 120) hx hb dX9_leaves_6 (by decide) ?_
  refine cVR (As := [.int n, .int 1, .int 120]) (rest := []) (n := 3) (ci := 5) (q0 := 0) X hN hK hP (c_X5_canGive l D cI cB tp by_ n 1 120) (gV k_458 k_459 k_460 k_93 k_461) (by decide +kernel) ⟨Nat.le_of_ble_eq_true rfl, Nat.le_of_ble_eq_true rfl⟩ ⟨rfl, rfl⟩ [1] rfl rfl rfl rfl rfl rfl hl.1 (Nat.le_of_ble_eq_true rfl) dX9_leaves_8 ⟨Nat.le_of_ble_eq_true rfl, Nat.le_of_ble_eq_true rfl⟩ (fun r_1 hr_1 => ?_)
  subst hr_1
  refine lv_if_ne (tgt := 16) hx hb dX9_leaves_11 (by decide) (fun c_11 => absurd ((bI0 (cg0 (by decide))).symm) c_11) (fun _ => ?_)
  refine lv_iconst (v := (-1)) hx hb dX9_leaves_14 (by decide) ?_
  exact ret _ _ (-1) dX9_leaves_15 rfl rfl

set_option maxRecDepth 100000 in
set_option maxHeartbeats 4000000 in
theorem c_X9_stopped (l : Launch) (D : va_G) (cI cB : ClassId) (h0 : Nat) (tp : Nat) (tw : Nat) (nw : Nat) (kp : Nat) (lw : Nat) (lr : Nat) (dd : Nat) (vv : Nat) (tl : Nat) (sc : Nat) (by_ : Nat) (n : Int32)  : MR l D cI cB yX9_stopped cX9_stopped 4 .int (rm 1 23) [.ref h0, .int n] [(h0, .inr (9, [.ref tp, .ref tw, .ref nw, .ref kp, .ref lw, .ref lr, .ref dd, .ref vv, .ref tl, .ref sc, .int 0])), (tp, .inr (5, [.ref by_, .int 0]))] (fun r : Int32 => r = -1) := by
  refine MR.of (by decide) (Nat.le_of_ble_eq_true rfl) ?_
  intro p e s m below meth c Q ls X hN hP hK hl ret
  obtain ⟨hx, hb, hml, hown, htb⟩ := id X
  have hl : lv_has ls 4 [(0, .ref h0), (1, .int n)] := hl
  refine lv_aload_n hx hb dX9_stopped_0 rfl (lv_at hl 0 rfl) ?_
  refine va_get (D := D) (ci := 9) (v := .ref tp) (C := RX9) (T := TX9) (N := 11) hx hb htb itX9 hown hK hP 0 rfl rfl 0 (by decide) (htb _ k_393) (fun _ h9 => h9) rfl dX9_stopped_1 ?_
  refine lv_iload_n hx hb dX9_stopped_4 rfl (lv_at hl 1 rfl) ?_
  refine lv_iconst (v := 1) hx hb dX9_stopped_5 (by decide) ?_
  refine lv_bipush (v := 12) hx hb dX9_stopped_6 (by decide) ?_
  refine cVR (As := [.int n, .int 1, .int 12]) (rest := []) (n := 3) (ci := 5) (q0 := 0) X hN hK hP (c_X5_canGive l D cI cB tp by_ n 1 12) (gV k_458 k_459 k_460 k_93 k_461) (by decide +kernel) ⟨Nat.le_of_ble_eq_true rfl, Nat.le_of_ble_eq_true rfl⟩ ⟨rfl, rfl⟩ [1] rfl rfl rfl rfl rfl rfl hl.1 (Nat.le_of_ble_eq_true rfl) dX9_stopped_8 ⟨Nat.le_of_ble_eq_true rfl, Nat.le_of_ble_eq_true rfl⟩ (fun r_1 hr_1 => ?_)
  subst hr_1
  refine lv_if_ne (tgt := 16) hx hb dX9_stopped_11 (by decide) (fun c_11 => absurd ((bI0 (cg0 (by decide))).symm) c_11) (fun _ => ?_)
  refine lv_iconst (v := (-1)) hx hb dX9_stopped_14 (by decide) ?_
  exact ret _ _ (-1) dX9_stopped_15 rfl rfl

set_option maxRecDepth 100000 in
set_option maxHeartbeats 4000000 in
theorem c_X9_personIs (l : Launch) (D : va_G) (cI cB : ClassId) (h0 : Nat) (tp : Nat) (tw : Nat) (nw : Nat) (kp : Nat) (lw : Nat) (lr : Nat) (dd : Nat) (vv : Nat) (tl : Nat) (sc : Nat) (t1 : Nat) (t2 : Nat) (t3 : Nat) (t4 : Nat) (x1 : Int32) (x2 : Int32)  : MR l D cI cB yX9_personIs cX9_personIs 3 .int (rm 2 42) [.ref h0, .int x1, .int x2] [(h0, .inr (9, [.ref tp, .ref tw, .ref nw, .ref kp, .ref lw, .ref lr, .ref dd, .ref vv, .ref tl, .ref sc, .int 0])), (tw, .inr (7, [.int 0, .int 0, .int 0, .ref t1, .ref t2, .ref t3, .ref t4]))] (fun r : Int32 => r = -1) := by
  refine MR.of (by decide) (Nat.le_of_ble_eq_true rfl) ?_
  intro p e s m below meth c Q ls X hN hP hK hl ret
  obtain ⟨hx, hb, hml, hown, htb⟩ := id X
  have hl : lv_has ls 3 [(0, .ref h0), (1, .int x1), (2, .int x2)] := hl
  refine lv_aload_n hx hb dX9_personIs_0 rfl (lv_at hl 0 rfl) ?_
  refine va_get (D := D) (ci := 9) (v := .ref tw) (C := RX9) (T := TX9) (N := 11) hx hb htb itX9 hown hK hP 0 rfl rfl 1 (by decide) (htb _ k_394) (fun _ h9 => h9) rfl dX9_personIs_1 ?_
  refine lv_iload_n hx hb dX9_personIs_4 rfl (lv_at hl 1 rfl) ?_
  refine cVR (As := [.int x1]) (rest := []) (n := 1) (ci := 7) (q0 := 0) X hN hK hP (c_X7_hasPerson l D cI cB tw 0 t1 t2 t3 t4 x1) (gV k_859 k_860 k_861 k_94 k_862) (by decide +kernel) ⟨Nat.le_of_ble_eq_true rfl, Nat.le_of_ble_eq_true rfl⟩ ⟨rfl, rfl⟩ [1] rfl rfl rfl rfl rfl rfl hl.1 (Nat.le_of_ble_eq_true rfl) dX9_personIs_5 ⟨Nat.le_of_ble_eq_true rfl, Nat.le_of_ble_eq_true rfl⟩ (fun r_1 hr_1 => ?_)
  subst hr_1
  refine lv_if_ne (tgt := 13) hx hb dX9_personIs_8 (by decide) (fun c_8 => absurd (by decide) c_8) (fun _ => ?_)
  refine lv_iconst (v := (-1)) hx hb dX9_personIs_11 (by decide) ?_
  exact ret _ _ (-1) dX9_personIs_12 rfl rfl

set_option maxRecDepth 100000 in
set_option maxHeartbeats 4000000 in
theorem c_X9_choreIs (l : Launch) (D : va_G) (cI cB : ClassId) (h0 : Nat) (tp : Nat) (tw : Nat) (nw : Nat) (kp : Nat) (lw : Nat) (lr : Nat) (dd : Nat) (vv : Nat) (tl : Nat) (sc : Nat) (t1 : Nat) (t2 : Nat) (t3 : Nat) (t4 : Nat) (x1 : Int32) (x2 : Int32)  : MR l D cI cB yX9_choreIs cX9_choreIs 3 .int (rm 2 42) [.ref h0, .int x1, .int x2] [(h0, .inr (9, [.ref tp, .ref tw, .ref nw, .ref kp, .ref lw, .ref lr, .ref dd, .ref vv, .ref tl, .ref sc, .int 0])), (tw, .inr (7, [.int 0, .int 0, .int 0, .ref t1, .ref t2, .ref t3, .ref t4]))] (fun r : Int32 => r = -1) := by
  refine MR.of (by decide) (Nat.le_of_ble_eq_true rfl) ?_
  intro p e s m below meth c Q ls X hN hP hK hl ret
  obtain ⟨hx, hb, hml, hown, htb⟩ := id X
  have hl : lv_has ls 3 [(0, .ref h0), (1, .int x1), (2, .int x2)] := hl
  refine lv_aload_n hx hb dX9_choreIs_0 rfl (lv_at hl 0 rfl) ?_
  refine va_get (D := D) (ci := 9) (v := .ref tw) (C := RX9) (T := TX9) (N := 11) hx hb htb itX9 hown hK hP 0 rfl rfl 1 (by decide) (htb _ k_394) (fun _ h9 => h9) rfl dX9_choreIs_1 ?_
  refine lv_iload_n hx hb dX9_choreIs_4 rfl (lv_at hl 1 rfl) ?_
  refine cVR (As := [.int x1]) (rest := []) (n := 1) (ci := 7) (q0 := 0) X hN hK hP (c_X7_hasChore l D cI cB tw 0 t1 t2 t3 t4 x1) (gV k_854 k_855 k_856 k_94 k_857) (by decide +kernel) ⟨Nat.le_of_ble_eq_true rfl, Nat.le_of_ble_eq_true rfl⟩ ⟨rfl, rfl⟩ [1] rfl rfl rfl rfl rfl rfl hl.1 (Nat.le_of_ble_eq_true rfl) dX9_choreIs_5 ⟨Nat.le_of_ble_eq_true rfl, Nat.le_of_ble_eq_true rfl⟩ (fun r_1 hr_1 => ?_)
  subst hr_1
  refine lv_if_ne (tgt := 13) hx hb dX9_choreIs_8 (by decide) (fun c_8 => absurd (by decide) c_8) (fun _ => ?_)
  refine lv_iconst (v := (-1)) hx hb dX9_choreIs_11 (by decide) ?_
  exact ret _ _ (-1) dX9_choreIs_12 rfl rfl

set_option maxRecDepth 100000 in
set_option maxHeartbeats 4000000 in
theorem c_X9_missed (l : Launch) (D : va_G) (cI cB : ClassId) (h0 : Nat) (tp : Nat) (tw : Nat) (nw : Nat) (kp : Nat) (lw : Nat) (lr : Nat) (dd : Nat) (vv : Nat) (tl : Nat) (sc : Nat) (t1 : Nat) (t2 : Nat) (t3 : Nat) (t4 : Nat) (x1 : Int32) (x2 : Int32)  : MR l D cI cB yX9_missed cX9_missed 3 .int (rm 3 63) [.ref h0, .int x1, .int x2] [(h0, .inr (9, [.ref tp, .ref tw, .ref nw, .ref kp, .ref lw, .ref lr, .ref dd, .ref vv, .ref tl, .ref sc, .int 0])), (tw, .inr (7, [.int 0, .int 0, .int 0, .ref t1, .ref t2, .ref t3, .ref t4]))] (fun r : Int32 => r = -1000000000) := by
  refine MR.of (by decide) (Nat.le_of_ble_eq_true rfl) ?_
  intro p e s m below meth c Q ls X hN hP hK hl ret
  obtain ⟨hx, hb, hml, hown, htb⟩ := id X
  have hl : lv_has ls 3 [(0, .ref h0), (1, .int x1), (2, .int x2)] := hl
  refine lv_iload_n hx hb dX9_missed_0 rfl (lv_at hl 2 rfl) ?_
  refine cSR (As := [.int x2]) (rest := []) (n := 1) X hN hK hP (c_X9_isDayCount l D cI cB x2) k_770 k_771 k_92 k_772 (by decide +kernel) ⟨Nat.le_of_ble_eq_true rfl, Nat.le_of_ble_eq_true rfl⟩ ⟨rfl, rfl⟩ [] rfl rfl rfl hl.1 (Nat.le_of_ble_eq_true rfl) dX9_missed_1 ⟨Nat.le_of_ble_eq_true rfl, Nat.le_of_ble_eq_true rfl⟩ (fun r_1 hr_1 => ?_)
  subst hr_1
  refine lv_if_eq (tgt := 15) hx hb dX9_missed_4 (by decide) (fun c_4 => ?_) (fun c_4 => ?_)
  · refine lv_ldc (v := (-1000000000)) hx hb hown (htb _ k_918) dX9_missed_15 ?_
    exact ret _ _ (-1000000000) dX9_missed_17 rfl rfl
  · refine lv_aload_n hx hb dX9_missed_7 rfl (lv_at hl 0 rfl) ?_
    refine lv_iload_n hx hb dX9_missed_8 rfl (lv_at hl 1 rfl) ?_
    refine cVR (As := [.int x1]) (rest := []) (n := 1) (ci := 9) (q0 := 0) X hN hK hP (c_X9_canLeave l D cI cB h0 tp tw nw kp lw lr dd vv tl sc t1 t2 t3 t4 x1) (gV k_913 k_915 k_22 k_92 k_916) (by decide +kernel) ⟨Nat.le_of_ble_eq_true rfl, Nat.le_of_ble_eq_true rfl⟩ ⟨rfl, rfl⟩ [0, 1] rfl rfl rfl rfl rfl rfl hl.1 (Nat.le_of_ble_eq_true rfl) dX9_missed_9 ⟨Nat.le_of_ble_eq_true rfl, Nat.le_of_ble_eq_true rfl⟩ (fun r_2 hr_2 => ?_)
    subst hr_2
    refine lv_if_ne (tgt := 18) hx hb dX9_missed_12 (by decide) (fun c_12 => absurd (by decide) c_12) (fun _ => ?_)
    refine lv_ldc (v := (-1000000000)) hx hb hown (htb _ k_918) dX9_missed_15 ?_
    exact ret _ _ (-1000000000) dX9_missed_17 rfl rfl

set_option maxRecDepth 100000 in
set_option maxHeartbeats 4000000 in
theorem c_X9_together (l : Launch) (D : va_G) (cI cB : ClassId) (h0 : Nat) (tp : Nat) (tw : Nat) (nw : Nat) (kp : Nat) (lw : Nat) (lr : Nat) (dd : Nat) (vv : Nat) (tl : Nat) (sc : Nat) (t1 : Nat) (t2 : Nat) (t3 : Nat) (t4 : Nat) (x1 : Int32) (x2 : Int32) (x3 : Int32)  : MR l D cI cB yX9_together cX9_together 8 .int (rm 3 63) [.ref h0, .int x1, .int x2, .int x3] [(h0, .inr (9, [.ref tp, .ref tw, .ref nw, .ref kp, .ref lw, .ref lr, .ref dd, .ref vv, .ref tl, .ref sc, .int 0])), (tw, .inr (7, [.int 0, .int 0, .int 0, .ref t1, .ref t2, .ref t3, .ref t4]))] (fun r : Int32 => r = -1000000000) := by
  refine MR.of (by decide) (Nat.le_of_ble_eq_true rfl) ?_
  intro p e s m below meth c Q ls X hN hP hK hl ret
  obtain ⟨hx, hb, hml, hown, htb⟩ := id X
  have hl : lv_has ls 8 [(0, .ref h0), (1, .int x1), (2, .int x2), (3, .int x3)] := hl
  refine lv_iload_n hx hb dX9_together_0 rfl (lv_at hl 3 rfl) ?_
  refine cSR (As := [.int x3]) (rest := []) (n := 1) X hN hK hP (c_X9_isDayCount l D cI cB x3) k_770 k_771 k_92 k_772 (by decide +kernel) ⟨Nat.le_of_ble_eq_true rfl, Nat.le_of_ble_eq_true rfl⟩ ⟨rfl, rfl⟩ [] rfl rfl rfl hl.1 (Nat.le_of_ble_eq_true rfl) dX9_together_1 ⟨Nat.le_of_ble_eq_true rfl, Nat.le_of_ble_eq_true rfl⟩ (fun r_1 hr_1 => ?_)
  subst hr_1
  refine lv_if_eq (tgt := 28) hx hb dX9_together_4 (by decide) (fun c_4 => ?_) (fun c_4 => ?_)
  · refine lv_ldc (v := (-1000000000)) hx hb hown (htb _ k_918) dX9_together_28 ?_
    exact ret _ _ (-1000000000) dX9_together_30 rfl rfl
  · refine lv_aload_n hx hb dX9_together_7 rfl (lv_at hl 0 rfl) ?_
    refine lv_iload_n hx hb dX9_together_8 rfl (lv_at hl 1 rfl) ?_
    refine cVR (As := [.int x1]) (rest := []) (n := 1) (ci := 9) (q0 := 0) X hN hK hP (c_X9_canLeave l D cI cB h0 tp tw nw kp lw lr dd vv tl sc t1 t2 t3 t4 x1) (gV k_913 k_915 k_22 k_92 k_916) (by decide +kernel) ⟨Nat.le_of_ble_eq_true rfl, Nat.le_of_ble_eq_true rfl⟩ ⟨rfl, rfl⟩ [0, 1] rfl rfl rfl rfl rfl rfl hl.1 (Nat.le_of_ble_eq_true rfl) dX9_together_9 ⟨Nat.le_of_ble_eq_true rfl, Nat.le_of_ble_eq_true rfl⟩ (fun r_2 hr_2 => ?_)
    subst hr_2
    refine lv_if_eq (tgt := 28) hx hb dX9_together_12 (by decide) (fun _ => ?_) (fun c_12 => absurd (by decide) c_12)
    refine lv_ldc (v := (-1000000000)) hx hb hown (htb _ k_918) dX9_together_28 ?_
    exact ret _ _ (-1000000000) dX9_together_30 rfl rfl

set_option maxRecDepth 100000 in
set_option maxHeartbeats 4000000 in
theorem c_X9_spoilt (l : Launch) (D : va_G) (cI cB : ClassId) (h0 : Nat) (tp : Nat) (tw : Nat) (nw : Nat) (kp : Nat) (lw : Nat) (lr : Nat) (dd : Nat) (vv : Nat) (tl : Nat) (sc : Nat) (t1 : Nat) (t2 : Nat) (t3 : Nat) (t4 : Nat) (x1 : Int32) (x2 : Int32) (x3 : Int32)  : MR l D cI cB yX9_spoilt cX9_spoilt 10 .int (rm 3 63) [.ref h0, .int x1, .int x2, .int x3] [(h0, .inr (9, [.ref tp, .ref tw, .ref nw, .ref kp, .ref lw, .ref lr, .ref dd, .ref vv, .ref tl, .ref sc, .int 0])), (tw, .inr (7, [.int 0, .int 0, .int 0, .ref t1, .ref t2, .ref t3, .ref t4]))] (fun r : Int32 => r = -1000000000) := by
  refine MR.of (by decide) (Nat.le_of_ble_eq_true rfl) ?_
  intro p e s m below meth c Q ls X hN hP hK hl ret
  obtain ⟨hx, hb, hml, hown, htb⟩ := id X
  have hl : lv_has ls 10 [(0, .ref h0), (1, .int x1), (2, .int x2), (3, .int x3)] := hl
  refine lv_iload_n hx hb dX9_spoilt_0 rfl (lv_at hl 2 rfl) ?_
  refine lv_bipush (v := 10) hx hb dX9_spoilt_1 (by decide) ?_
  refine lv_icmp_eq (tgt := 22) hx hb dX9_spoilt_3 (by decide) (fun c_3 => ?_) (fun c_3 => ?_)
  · refine lv_iconst (v := 1) hx hb dX9_spoilt_22 (by decide) ?_
    refine lv_goto (tgt := 27) hx hb dX9_spoilt_23 (by decide) ?_
    refine lv_istore (lv' := [(4, .int 1), (0, .ref h0), (1, .int x1), (2, .int x2), (3, .int x3)]) hx hb dX9_spoilt_27 hl (by decide) rfl (fun ls hl => ?_)
    refine lv_iload_n hx hb dX9_spoilt_29 rfl (lv_at hl 4 rfl) ?_
    refine cSR (As := [.int x3]) (rest := []) (n := 1) X hN hK hP (c_X9_isDayCount l D cI cB x3) k_770 k_771 k_92 k_772 (by decide +kernel) ⟨Nat.le_of_ble_eq_true rfl, Nat.le_of_ble_eq_true rfl⟩ ⟨rfl, rfl⟩ [] rfl rfl rfl hl.1 (Nat.le_of_ble_eq_true rfl) dX9_spoilt_30 ⟨Nat.le_of_ble_eq_true rfl, Nat.le_of_ble_eq_true rfl⟩ (fun r_1 hr_1 => ?_)
    subst hr_1
    refine lv_if_eq (tgt := 49) hx hb dX9_spoilt_33 (by decide) (fun c_33 => ?_) (fun c_33 => ?_)
    · refine lv_ldc (v := (-1000000000)) hx hb hown (htb _ k_918) dX9_spoilt_49 ?_
      exact ret _ _ (-1000000000) dX9_spoilt_51 rfl rfl
    · refine lv_aload_n hx hb dX9_spoilt_36 rfl (lv_at hl 1 rfl) ?_
      refine lv_iload_n hx hb dX9_spoilt_37 rfl (lv_at hl 2 rfl) ?_
      refine cVR (As := [.int x1]) (rest := []) (n := 1) (ci := 9) (q0 := 0) X hN hK hP (c_X9_canLeave l D cI cB h0 tp tw nw kp lw lr dd vv tl sc t1 t2 t3 t4 x1) (gV k_913 k_915 k_22 k_92 k_916) (by decide +kernel) ⟨Nat.le_of_ble_eq_true rfl, Nat.le_of_ble_eq_true rfl⟩ ⟨rfl, rfl⟩ [0, 1] rfl rfl rfl rfl rfl rfl hl.1 (Nat.le_of_ble_eq_true rfl) dX9_spoilt_38 ⟨Nat.le_of_ble_eq_true rfl, Nat.le_of_ble_eq_true rfl⟩ (fun r_2 hr_2 => ?_)
      subst hr_2
      refine lv_if_eq (tgt := 49) hx hb dX9_spoilt_41 (by decide) (fun _ => ?_) (fun c_41 => absurd (by decide) c_41)
      refine lv_ldc (v := (-1000000000)) hx hb hown (htb _ k_918) dX9_spoilt_49 ?_
      exact ret _ _ (-1000000000) dX9_spoilt_51 rfl rfl
  · refine lv_aload_n hx hb dX9_spoilt_6 rfl (lv_at hl 0 rfl) ?_
    refine va_get (D := D) (ci := 9) (v := .ref tw) (C := RX9) (T := TX9) (N := 11) hx hb htb itX9 hown hK hP 0 rfl rfl 1 (by decide) (htb _ k_394) (fun _ h9 => h9) rfl dX9_spoilt_7 ?_
    refine lv_iload_n hx hb dX9_spoilt_10 rfl (lv_at hl 2 rfl) ?_
    refine cVR (As := [.int x2]) (rest := []) (n := 1) (ci := 7) (q0 := 0) X hN hK hP (c_X7_hasPerson l D cI cB tw 0 t1 t2 t3 t4 x2) (gV k_859 k_860 k_861 k_94 k_862) (by decide +kernel) ⟨Nat.le_of_ble_eq_true rfl, Nat.le_of_ble_eq_true rfl⟩ ⟨rfl, rfl⟩ [1] rfl rfl rfl rfl rfl rfl hl.1 (Nat.le_of_ble_eq_true rfl) dX9_spoilt_11 ⟨Nat.le_of_ble_eq_true rfl, Nat.le_of_ble_eq_true rfl⟩ (fun r_3 hr_3 => ?_)
    subst hr_3
    refine lv_if_eq (tgt := 26) hx hb dX9_spoilt_14 (by decide) (fun _ => ?_) (fun c_14 => absurd (by decide) c_14)
    refine lv_iconst (v := 0) hx hb dX9_spoilt_26 (by decide) ?_
    refine lv_istore (lv' := [(4, .int 0), (0, .ref h0), (1, .int x1), (2, .int x2), (3, .int x3)]) hx hb dX9_spoilt_27 hl (by decide) rfl (fun ls hl => ?_)
    refine lv_iload_n hx hb dX9_spoilt_29 rfl (lv_at hl 4 rfl) ?_
    refine cSR (As := [.int x3]) (rest := []) (n := 1) X hN hK hP (c_X9_isDayCount l D cI cB x3) k_770 k_771 k_92 k_772 (by decide +kernel) ⟨Nat.le_of_ble_eq_true rfl, Nat.le_of_ble_eq_true rfl⟩ ⟨rfl, rfl⟩ [] rfl rfl rfl hl.1 (Nat.le_of_ble_eq_true rfl) dX9_spoilt_30 ⟨Nat.le_of_ble_eq_true rfl, Nat.le_of_ble_eq_true rfl⟩ (fun r_4 hr_4 => ?_)
    subst hr_4
    refine lv_if_eq (tgt := 49) hx hb dX9_spoilt_33 (by decide) (fun c_33 => ?_) (fun c_33 => ?_)
    · refine lv_ldc (v := (-1000000000)) hx hb hown (htb _ k_918) dX9_spoilt_49 ?_
      exact ret _ _ (-1000000000) dX9_spoilt_51 rfl rfl
    · refine lv_aload_n hx hb dX9_spoilt_36 rfl (lv_at hl 1 rfl) ?_
      refine lv_iload_n hx hb dX9_spoilt_37 rfl (lv_at hl 2 rfl) ?_
      refine cVR (As := [.int x1]) (rest := []) (n := 1) (ci := 9) (q0 := 0) X hN hK hP (c_X9_canLeave l D cI cB h0 tp tw nw kp lw lr dd vv tl sc t1 t2 t3 t4 x1) (gV k_913 k_915 k_22 k_92 k_916) (by decide +kernel) ⟨Nat.le_of_ble_eq_true rfl, Nat.le_of_ble_eq_true rfl⟩ ⟨rfl, rfl⟩ [0, 1] rfl rfl rfl rfl rfl rfl hl.1 (Nat.le_of_ble_eq_true rfl) dX9_spoilt_38 ⟨Nat.le_of_ble_eq_true rfl, Nat.le_of_ble_eq_true rfl⟩ (fun r_5 hr_5 => ?_)
      subst hr_5
      refine lv_if_eq (tgt := 49) hx hb dX9_spoilt_41 (by decide) (fun _ => ?_) (fun c_41 => absurd (by decide) c_41)
      refine lv_ldc (v := (-1000000000)) hx hb hown (htb _ k_918) dX9_spoilt_49 ?_
      exact ret _ _ (-1000000000) dX9_spoilt_51 rfl rfl

set_option maxRecDepth 100000 in
set_option maxHeartbeats 4000000 in
theorem c_X9_when (l : Launch) (D : va_G) (cI cB : ClassId) (h0 : Nat) (tp : Nat) (tw : Nat) (nw : Nat) (kp : Nat) (lw : Nat) (lr : Nat) (dd : Nat) (vv : Nat) (tl : Nat) (sc : Nat) (t1 : Nat) (t2 : Nat) (t3 : Nat) (t4 : Nat) (x1 : Int32) (x2 : Int32) (x3 : Int32) (x4 : Int32)  : MR l D cI cB yX9_when cX9_when 9 .int (rm 2 42) [.ref h0, .int x1, .int x2, .int x3, .int x4] [(h0, .inr (9, [.ref tp, .ref tw, .ref nw, .ref kp, .ref lw, .ref lr, .ref dd, .ref vv, .ref tl, .ref sc, .int 0])), (tw, .inr (7, [.int 0, .int 0, .int 0, .ref t1, .ref t2, .ref t3, .ref t4]))] (fun r : Int32 => r = -1000000000) := by
  refine MR.of (by decide) (Nat.le_of_ble_eq_true rfl) ?_
  intro p e s m below meth c Q ls X hN hP hK hl ret
  obtain ⟨hx, hb, hml, hown, htb⟩ := id X
  have hl : lv_has ls 9 [(0, .ref h0), (1, .int x1), (2, .int x2), (3, .int x3), (4, .int x4)] := hl
  refine lv_aload_n hx hb dX9_when_0 rfl (lv_at hl 0 rfl) ?_
  refine va_get (D := D) (ci := 9) (v := .ref tw) (C := RX9) (T := TX9) (N := 11) hx hb htb itX9 hown hK hP 0 rfl rfl 1 (by decide) (htb _ k_394) (fun _ h9 => h9) rfl dX9_when_1 ?_
  refine lv_iload_n hx hb dX9_when_4 rfl (lv_at hl 1 rfl) ?_
  refine cVR (As := [.int x1]) (rest := []) (n := 1) (ci := 7) (q0 := 0) X hN hK hP (c_X7_hasPerson l D cI cB tw 0 t1 t2 t3 t4 x1) (gV k_859 k_860 k_861 k_94 k_862) (by decide +kernel) ⟨Nat.le_of_ble_eq_true rfl, Nat.le_of_ble_eq_true rfl⟩ ⟨rfl, rfl⟩ [1] rfl rfl rfl rfl rfl rfl hl.1 (Nat.le_of_ble_eq_true rfl) dX9_when_5 ⟨Nat.le_of_ble_eq_true rfl, Nat.le_of_ble_eq_true rfl⟩ (fun r_1 hr_1 => ?_)
  subst hr_1
  refine lv_if_eq (tgt := 41) hx hb dX9_when_8 (by decide) (fun _ => ?_) (fun c_8 => absurd (by decide) c_8)
  refine lv_ldc (v := (-1000000000)) hx hb hown (htb _ k_918) dX9_when_41 ?_
  exact ret _ _ (-1000000000) dX9_when_43 rfl rfl

set_option maxRecDepth 100000 in
set_option maxHeartbeats 4000000 in
theorem c_X9_against (l : Launch) (D : va_G) (cI cB : ClassId) (h0 : Nat) (tp : Nat) (tw : Nat) (nw : Nat) (kp : Nat) (lw : Nat) (lr : Nat) (dd : Nat) (vv : Nat) (tl : Nat) (sc : Nat) (t1 : Nat) (t2 : Nat) (t3 : Nat) (t4 : Nat) (x1 : Int32) (x2 : Int32) (x3 : Int32) (x4 : Int32) (x5 : Int32)  : MR l D cI cB yX9_against cX9_against 9 .int (rm 2 42) [.ref h0, .int x1, .int x2, .int x3, .int x4, .int x5] [(h0, .inr (9, [.ref tp, .ref tw, .ref nw, .ref kp, .ref lw, .ref lr, .ref dd, .ref vv, .ref tl, .ref sc, .int 0])), (tw, .inr (7, [.int 0, .int 0, .int 0, .ref t1, .ref t2, .ref t3, .ref t4]))] (fun r : Int32 => r = -1000000000) := by
  refine MR.of (by decide) (Nat.le_of_ble_eq_true rfl) ?_
  intro p e s m below meth c Q ls X hN hP hK hl ret
  obtain ⟨hx, hb, hml, hown, htb⟩ := id X
  have hl : lv_has ls 9 [(0, .ref h0), (1, .int x1), (2, .int x2), (3, .int x3), (4, .int x4), (5, .int x5)] := hl
  refine lv_aload_n hx hb dX9_against_0 rfl (lv_at hl 0 rfl) ?_
  refine va_get (D := D) (ci := 9) (v := .ref tw) (C := RX9) (T := TX9) (N := 11) hx hb htb itX9 hown hK hP 0 rfl rfl 1 (by decide) (htb _ k_394) (fun _ h9 => h9) rfl dX9_against_1 ?_
  refine lv_iload_n hx hb dX9_against_4 rfl (lv_at hl 1 rfl) ?_
  refine cVR (As := [.int x1]) (rest := []) (n := 1) (ci := 7) (q0 := 0) X hN hK hP (c_X7_hasPerson l D cI cB tw 0 t1 t2 t3 t4 x1) (gV k_859 k_860 k_861 k_94 k_862) (by decide +kernel) ⟨Nat.le_of_ble_eq_true rfl, Nat.le_of_ble_eq_true rfl⟩ ⟨rfl, rfl⟩ [1] rfl rfl rfl rfl rfl rfl hl.1 (Nat.le_of_ble_eq_true rfl) dX9_against_5 ⟨Nat.le_of_ble_eq_true rfl, Nat.le_of_ble_eq_true rfl⟩ (fun r_1 hr_1 => ?_)
  subst hr_1
  refine lv_if_eq (tgt := 31) hx hb dX9_against_8 (by decide) (fun _ => ?_) (fun c_8 => absurd (by decide) c_8)
  refine lv_iconst (v := 0) hx hb dX9_against_31 (by decide) ?_
  refine lv_istore (lv' := [(6, .int 0), (0, .ref h0), (1, .int x1), (2, .int x2), (3, .int x3), (4, .int x4), (5, .int x5)]) hx hb dX9_against_32 hl (by decide) rfl (fun ls hl => ?_)
  refine lv_iload hx hb dX9_against_34 (lv_at hl 0 rfl) ?_
  refine lv_if_eq (tgt := 69) hx hb dX9_against_36 (by decide) (fun _ => ?_) (fun c_36 => absurd (by decide) c_36)
  refine lv_ldc (v := (-1000000000)) hx hb hown (htb _ k_918) dX9_against_69 ?_
  exact ret _ _ (-1000000000) dX9_against_71 rfl rfl

set_option maxRecDepth 100000 in
set_option maxHeartbeats 4000000 in
theorem c_X9_standIn (l : Launch) (D : va_G) (cI cB : ClassId) (h0 : Nat) (tp : Nat) (tw : Nat) (nw : Nat) (kp : Nat) (lw : Nat) (lr : Nat) (dd : Nat) (vv : Nat) (tl : Nat) (sc : Nat) (t1 : Nat) (t2 : Nat) (t3 : Nat) (t4 : Nat) (x1 : Int32) (x2 : Int32) (x3 : Int32) (x4 : Int32)  : MR l D cI cB yX9_standIn cX9_standIn 11 .int (rm 3 63) [.ref h0, .int x1, .int x2, .int x3, .int x4] [(h0, .inr (9, [.ref tp, .ref tw, .ref nw, .ref kp, .ref lw, .ref lr, .ref dd, .ref vv, .ref tl, .ref sc, .int 0])), (tw, .inr (7, [.int 0, .int 0, .int 0, .ref t1, .ref t2, .ref t3, .ref t4]))] (fun r : Int32 => r = -1000000000) := by
  refine MR.of (by decide) (Nat.le_of_ble_eq_true rfl) ?_
  intro p e s m below meth c Q ls X hN hP hK hl ret
  obtain ⟨hx, hb, hml, hown, htb⟩ := id X
  have hl : lv_has ls 11 [(0, .ref h0), (1, .int x1), (2, .int x2), (3, .int x3), (4, .int x4)] := hl
  refine lv_aload_n hx hb dX9_standIn_0 rfl (lv_at hl 0 rfl) ?_
  refine lv_iload_n hx hb dX9_standIn_1 rfl (lv_at hl 1 rfl) ?_
  refine cVR (As := [.int x1]) (rest := []) (n := 1) (ci := 9) (q0 := 0) X hN hK hP (c_X9_canLeave l D cI cB h0 tp tw nw kp lw lr dd vv tl sc t1 t2 t3 t4 x1) (gV k_913 k_915 k_22 k_92 k_916) (by decide +kernel) ⟨Nat.le_of_ble_eq_true rfl, Nat.le_of_ble_eq_true rfl⟩ ⟨rfl, rfl⟩ [0, 1] rfl rfl rfl rfl rfl rfl hl.1 (Nat.le_of_ble_eq_true rfl) dX9_standIn_2 ⟨Nat.le_of_ble_eq_true rfl, Nat.le_of_ble_eq_true rfl⟩ (fun r_1 hr_1 => ?_)
  subst hr_1
  refine lv_if_eq (tgt := 28) hx hb dX9_standIn_5 (by decide) (fun _ => ?_) (fun c_5 => absurd (by decide) c_5)
  refine lv_iconst (v := 0) hx hb dX9_standIn_28 (by decide) ?_
  refine lv_istore (lv' := [(5, .int 0), (0, .ref h0), (1, .int x1), (2, .int x2), (3, .int x3), (4, .int x4)]) hx hb dX9_standIn_29 hl (by decide) rfl (fun ls hl => ?_)
  refine lv_aload_n hx hb dX9_standIn_31 rfl (lv_at hl 1 rfl) ?_
  refine va_get (D := D) (ci := 9) (v := .ref tw) (C := RX9) (T := TX9) (N := 11) hx hb htb itX9 hown hK hP 0 rfl rfl 1 (by decide) (htb _ k_394) (fun _ h9 => h9) rfl dX9_standIn_32 ?_
  refine lv_iload_n hx hb dX9_standIn_35 rfl (lv_at hl 4 rfl) ?_
  refine cVR (As := [.int x3]) (rest := []) (n := 1) (ci := 7) (q0 := 0) X hN hK hP (c_X7_hasChore l D cI cB tw 0 t1 t2 t3 t4 x3) (gV k_854 k_855 k_856 k_94 k_857) (by decide +kernel) ⟨Nat.le_of_ble_eq_true rfl, Nat.le_of_ble_eq_true rfl⟩ ⟨rfl, rfl⟩ [1] rfl rfl rfl rfl rfl rfl hl.1 (Nat.le_of_ble_eq_true rfl) dX9_standIn_36 ⟨Nat.le_of_ble_eq_true rfl, Nat.le_of_ble_eq_true rfl⟩ (fun r_2 hr_2 => ?_)
  subst hr_2
  refine lv_if_ne (tgt := 58) hx hb dX9_standIn_39 (by decide) (fun c_39 => absurd (by decide) c_39) (fun _ => ?_)
  refine lv_iload_n hx hb dX9_standIn_42 rfl (lv_at hl 4 rfl) ?_
  refine lv_bipush (v := 12) hx hb dX9_standIn_43 (by decide) ?_
  refine lv_icmp_ne (tgt := 62) hx hb dX9_standIn_45 (by decide) (fun c_45 => ?_) (fun c_45 => ?_)
  · refine lv_iconst (v := 0) hx hb dX9_standIn_62 (by decide) ?_
    refine lv_istore (lv' := [(6, .int 0), (5, .int 0), (0, .ref h0), (1, .int x1), (2, .int x2), (3, .int x3), (4, .int x4)]) hx hb dX9_standIn_63 hl (by decide) rfl (fun ls hl => ?_)
    refine lv_iload hx hb dX9_standIn_65 (lv_at hl 6 rfl) ?_
    refine cSR (As := [.int x4]) (rest := []) (n := 1) X hN hK hP (c_X9_isDayCount l D cI cB x4) k_770 k_771 k_92 k_772 (by decide +kernel) ⟨Nat.le_of_ble_eq_true rfl, Nat.le_of_ble_eq_true rfl⟩ ⟨rfl, rfl⟩ [] rfl rfl rfl hl.1 (Nat.le_of_ble_eq_true rfl) dX9_standIn_67 ⟨Nat.le_of_ble_eq_true rfl, Nat.le_of_ble_eq_true rfl⟩ (fun r_3 hr_3 => ?_)
    subst hr_3
    refine lv_if_eq (tgt := 83) hx hb dX9_standIn_70 (by decide) (fun c_70 => ?_) (fun c_70 => ?_)
    · refine lv_ldc (v := (-1000000000)) hx hb hown (htb _ k_918) dX9_standIn_83 ?_
      exact ret _ _ (-1000000000) dX9_standIn_85 rfl rfl
    · refine lv_iload hx hb dX9_standIn_73 (lv_at hl 1 rfl) ?_
      refine lv_if_eq (tgt := 83) hx hb dX9_standIn_75 (by decide) (fun _ => ?_) (fun c_75 => absurd (by decide) c_75)
      refine lv_ldc (v := (-1000000000)) hx hb hown (htb _ k_918) dX9_standIn_83 ?_
      exact ret _ _ (-1000000000) dX9_standIn_85 rfl rfl
  · refine lv_aload_n hx hb dX9_standIn_48 rfl (lv_at hl 1 rfl) ?_
    refine va_get (D := D) (ci := 9) (v := .ref tw) (C := RX9) (T := TX9) (N := 11) hx hb htb itX9 hown hK hP 0 rfl rfl 1 (by decide) (htb _ k_394) (fun _ h9 => h9) rfl dX9_standIn_49 ?_
    refine va_getN (D := D) (ci := 7) (v := .int 0) (C := RX7) (T := TX7) (N := 7) hx hb htb itX7 hown hK hP 1 rfl rfl 1 (by decide) (va_Nw.use rfl (hN _ n_147 rfl)) (fun _ h9 => h9) rfl dX9_standIn_52 ?_
    refine lv_if_eq (tgt := 62) hx hb dX9_standIn_55 (by decide) (fun _ => ?_) (fun c_55 => absurd (by decide) c_55)
    refine lv_iconst (v := 0) hx hb dX9_standIn_62 (by decide) ?_
    refine lv_istore (lv' := [(6, .int 0), (5, .int 0), (0, .ref h0), (1, .int x1), (2, .int x2), (3, .int x3), (4, .int x4)]) hx hb dX9_standIn_63 hl (by decide) rfl (fun ls hl => ?_)
    refine lv_iload hx hb dX9_standIn_65 (lv_at hl 6 rfl) ?_
    refine cSR (As := [.int x4]) (rest := []) (n := 1) X hN hK hP (c_X9_isDayCount l D cI cB x4) k_770 k_771 k_92 k_772 (by decide +kernel) ⟨Nat.le_of_ble_eq_true rfl, Nat.le_of_ble_eq_true rfl⟩ ⟨rfl, rfl⟩ [] rfl rfl rfl hl.1 (Nat.le_of_ble_eq_true rfl) dX9_standIn_67 ⟨Nat.le_of_ble_eq_true rfl, Nat.le_of_ble_eq_true rfl⟩ (fun r_4 hr_4 => ?_)
    subst hr_4
    refine lv_if_eq (tgt := 83) hx hb dX9_standIn_70 (by decide) (fun c_70 => ?_) (fun c_70 => ?_)
    · refine lv_ldc (v := (-1000000000)) hx hb hown (htb _ k_918) dX9_standIn_83 ?_
      exact ret _ _ (-1000000000) dX9_standIn_85 rfl rfl
    · refine lv_iload hx hb dX9_standIn_73 (lv_at hl 1 rfl) ?_
      refine lv_if_eq (tgt := 83) hx hb dX9_standIn_75 (by decide) (fun _ => ?_) (fun c_75 => absurd (by decide) c_75)
      refine lv_ldc (v := (-1000000000)) hx hb hown (htb _ k_918) dX9_standIn_83 ?_
      exact ret _ _ (-1000000000) dX9_standIn_85 rfl rfl

set_option maxRecDepth 100000 in
set_option maxHeartbeats 4000000 in
theorem c_X9_halfDone (l : Launch) (D : va_G) (cI cB : ClassId) (h0 : Nat) (tp : Nat) (tw : Nat) (nw : Nat) (kp : Nat) (lw : Nat) (lr : Nat) (dd : Nat) (vv : Nat) (tl : Nat) (sc : Nat) (t1 : Nat) (t2 : Nat) (t3 : Nat) (t4 : Nat) (x1 : Int32) (x2 : Int32)  : MR l D cI cB yX9_halfDone cX9_halfDone 3 .int (rm 3 63) [.ref h0, .int x1, .int x2] [(h0, .inr (9, [.ref tp, .ref tw, .ref nw, .ref kp, .ref lw, .ref lr, .ref dd, .ref vv, .ref tl, .ref sc, .int 0])), (tw, .inr (7, [.int 0, .int 0, .int 0, .ref t1, .ref t2, .ref t3, .ref t4]))] (fun r : Int32 => r = -1000000000) := by
  refine MR.of (by decide) (Nat.le_of_ble_eq_true rfl) ?_
  intro p e s m below meth c Q ls X hN hP hK hl ret
  obtain ⟨hx, hb, hml, hown, htb⟩ := id X
  have hl : lv_has ls 3 [(0, .ref h0), (1, .int x1), (2, .int x2)] := hl
  refine lv_aload_n hx hb dX9_halfDone_0 rfl (lv_at hl 0 rfl) ?_
  refine lv_iload_n hx hb dX9_halfDone_1 rfl (lv_at hl 1 rfl) ?_
  refine cVR (As := [.int x1]) (rest := []) (n := 1) (ci := 9) (q0 := 0) X hN hK hP (c_X9_canLeave l D cI cB h0 tp tw nw kp lw lr dd vv tl sc t1 t2 t3 t4 x1) (gV k_913 k_915 k_22 k_92 k_916) (by decide +kernel) ⟨Nat.le_of_ble_eq_true rfl, Nat.le_of_ble_eq_true rfl⟩ ⟨rfl, rfl⟩ [0, 1] rfl rfl rfl rfl rfl rfl hl.1 (Nat.le_of_ble_eq_true rfl) dX9_halfDone_2 ⟨Nat.le_of_ble_eq_true rfl, Nat.le_of_ble_eq_true rfl⟩ (fun r_1 hr_1 => ?_)
  subst hr_1
  refine lv_if_eq (tgt := 18) hx hb dX9_halfDone_5 (by decide) (fun _ => ?_) (fun c_5 => absurd (by decide) c_5)
  refine lv_ldc (v := (-1000000000)) hx hb hown (htb _ k_918) dX9_halfDone_18 ?_
  exact ret _ _ (-1000000000) dX9_halfDone_20 rfl rfl

set_option maxRecDepth 100000 in
set_option maxHeartbeats 4000000 in
theorem c_X9_firstDoer (l : Launch) (D : va_G) (cI cB : ClassId) (h0 : Nat) (tp : Nat) (tw : Nat) (nw : Nat) (kp : Nat) (lw : Nat) (lr : Nat) (dd : Nat) (vv : Nat) (tl : Nat) (sc : Nat) (t1 : Nat) (t2 : Nat) (t3 : Nat) (t4 : Nat) (x1 : Int32) (x2 : Int32) (x3 : Int32)  : MR l D cI cB yX9_firstDoer cX9_firstDoer 9 .int (rm 2 42) [.ref h0, .int x1, .int x2, .int x3] [(h0, .inr (9, [.ref tp, .ref tw, .ref nw, .ref kp, .ref lw, .ref lr, .ref dd, .ref vv, .ref tl, .ref sc, .int 0])), (tw, .inr (7, [.int 0, .int 0, .int 0, .ref t1, .ref t2, .ref t3, .ref t4]))] (fun r : Int32 => r = -1) := by
  refine MR.of (by decide) (Nat.le_of_ble_eq_true rfl) ?_
  intro p e s m below meth c Q ls X hN hP hK hl ret
  obtain ⟨hx, hb, hml, hown, htb⟩ := id X
  have hl : lv_has ls 9 [(0, .ref h0), (1, .int x1), (2, .int x2), (3, .int x3)] := hl
  refine lv_aload_n hx hb dX9_firstDoer_0 rfl (lv_at hl 0 rfl) ?_
  refine va_get (D := D) (ci := 9) (v := .ref tw) (C := RX9) (T := TX9) (N := 11) hx hb htb itX9 hown hK hP 0 rfl rfl 1 (by decide) (htb _ k_394) (fun _ h9 => h9) rfl dX9_firstDoer_1 ?_
  refine lv_iload_n hx hb dX9_firstDoer_4 rfl (lv_at hl 1 rfl) ?_
  refine cVR (As := [.int x1]) (rest := []) (n := 1) (ci := 7) (q0 := 0) X hN hK hP (c_X7_hasChore l D cI cB tw 0 t1 t2 t3 t4 x1) (gV k_854 k_855 k_856 k_94 k_857) (by decide +kernel) ⟨Nat.le_of_ble_eq_true rfl, Nat.le_of_ble_eq_true rfl⟩ ⟨rfl, rfl⟩ [1] rfl rfl rfl rfl rfl rfl hl.1 (Nat.le_of_ble_eq_true rfl) dX9_firstDoer_5 ⟨Nat.le_of_ble_eq_true rfl, Nat.le_of_ble_eq_true rfl⟩ (fun r_1 hr_1 => ?_)
  subst hr_1
  refine lv_if_eq (tgt := 27) hx hb dX9_firstDoer_8 (by decide) (fun _ => ?_) (fun c_8 => absurd (by decide) c_8)
  refine lv_iconst (v := (-1)) hx hb dX9_firstDoer_27 (by decide) ?_
  exact ret _ _ (-1) dX9_firstDoer_28 rfl rfl

set_option maxRecDepth 100000 in
set_option maxHeartbeats 4000000 in
theorem c_X9_share (l : Launch) (D : va_G) (cI cB : ClassId) (h0 : Nat) (tp : Nat) (tw : Nat) (nw : Nat) (kp : Nat) (lw : Nat) (lr : Nat) (dd : Nat) (vv : Nat) (tl : Nat) (sc : Nat) (t1 : Nat) (t2 : Nat) (t3 : Nat) (t4 : Nat) (u2 : Nat) (f2 : Nat) (g2 : Nat) (ff2 : Nat → Int32) (x1 : Int32) (x2 : Int32) (x3 : Int32) (x4 : Int32) (hf : ∀ j, j < 10 → ff2 j = -2) : MR l D cI cB yX9_share cX9_share 10 .int (rm 2 43) [.ref h0, .int x1, .int x2, .int x3, .int x4] [(h0, .inr (9, [.ref tp, .ref tw, .ref nw, .ref kp, .ref lw, .ref lr, .ref dd, .ref vv, .ref tl, .ref sc, .int 0])), (tw, .inr (7, [.int 0, .int 0, .int 0, .ref t1, .ref t2, .ref t3, .ref t4])), (nw, .inr (4, [.ref u2, .ref f2, .ref g2, .int 0, .int 0, .int 1])), (f2, .inl (cI, 10, .inl ff2))] (fun r : Int32 => r = -1000000000) := by
  refine MR.of (by decide) (Nat.le_of_ble_eq_true rfl) ?_
  intro p e s m below meth c Q ls X hN hP hK hl ret
  obtain ⟨hx, hb, hml, hown, htb⟩ := id X
  have hl : lv_has ls 10 [(0, .ref h0), (1, .int x1), (2, .int x2), (3, .int x3), (4, .int x4)] := hl
  refine lv_iload_n hx hb dX9_share_0 rfl (lv_at hl 1 rfl) ?_
  refine cSR (As := [.int x1]) (rest := []) (n := 1) X hN hK hP (c_J6_bitCount_0f7a4 l D cI cB x1) k_754 k_755 k_111 k_756 (by decide +kernel) ⟨Nat.le_of_ble_eq_true rfl, Nat.le_of_ble_eq_true rfl⟩ ⟨rfl, rfl⟩ [] rfl rfl rfl hl.1 (Nat.le_of_ble_eq_true rfl) dX9_share_1 ⟨Nat.le_of_ble_eq_true rfl, Nat.le_of_ble_eq_true rfl⟩ (fun sz hsz => ?_)
  refine lv_istore (lv' := [(5, .int sz), (0, .ref h0), (1, .int x1), (2, .int x2), (3, .int x3), (4, .int x4)]) hx hb dX9_share_4 hl (by decide) rfl (fun ls hl => ?_)
  refine lv_aload_n hx hb dX9_share_6 rfl (lv_at hl 1 rfl) ?_
  refine lv_iload_n hx hb dX9_share_7 rfl (lv_at hl 2 rfl) ?_
  refine cVR (As := [.int x1]) (rest := []) (n := 1) (ci := 9) (q0 := 0) X hN hK hP (c_X9_areTold l D cI cB h0 tp tw nw kp lw lr dd vv tl sc t1 t2 t3 t4 x1) (gV k_893 k_895 k_20 k_92 k_896) (by decide +kernel) ⟨Nat.le_of_ble_eq_true rfl, Nat.le_of_ble_eq_true rfl⟩ ⟨rfl, rfl⟩ [0, 1] rfl rfl rfl rfl rfl rfl hl.1 (Nat.le_of_ble_eq_true rfl) dX9_share_8 ⟨Nat.le_of_ble_eq_true rfl, Nat.le_of_ble_eq_true rfl⟩ (fun r_1 hr_1 => ?_)
  subst hr_1
  refine lv_if_eq (tgt := 42) hx hb dX9_share_11 (by decide) (fun c_11 => ?_) (fun c_11 => ?_)
  · refine lv_iconst (v := 0) hx hb dX9_share_42 (by decide) ?_
    refine lv_istore (lv' := [(6, .int 0), (5, .int sz), (0, .ref h0), (1, .int x1), (2, .int x2), (3, .int x3), (4, .int x4)]) hx hb dX9_share_43 hl (by decide) rfl (fun ls hl => ?_)
    refine lv_iload_n hx hb dX9_share_45 rfl (lv_at hl 5 rfl) ?_
    refine cSR (As := [.int x3]) (rest := []) (n := 1) X hN hK hP (c_X9_isDayCount l D cI cB x3) k_770 k_771 k_92 k_772 (by decide +kernel) ⟨Nat.le_of_ble_eq_true rfl, Nat.le_of_ble_eq_true rfl⟩ ⟨rfl, rfl⟩ [] rfl rfl rfl hl.1 (Nat.le_of_ble_eq_true rfl) dX9_share_46 ⟨Nat.le_of_ble_eq_true rfl, Nat.le_of_ble_eq_true rfl⟩ (fun r_2 hr_2 => ?_)
    subst hr_2
    refine lv_if_eq (tgt := 67) hx hb dX9_share_49 (by decide) (fun c_49 => ?_) (fun c_49 => ?_)
    · refine lv_ldc (v := (-1000000000)) hx hb hown (htb _ k_918) dX9_share_67 ?_
      exact ret _ _ (-1000000000) dX9_share_69 rfl rfl
    · refine lv_iload hx hb dX9_share_52 (lv_at hl 0 rfl) ?_
      refine lv_if_eq (tgt := 67) hx hb dX9_share_54 (by decide) (fun _ => ?_) (fun c_54 => absurd (by decide) c_54)
      refine lv_ldc (v := (-1000000000)) hx hb hown (htb _ k_918) dX9_share_67 ?_
      exact ret _ _ (-1000000000) dX9_share_69 rfl rfl
  · refine lv_iload_n hx hb dX9_share_14 rfl (lv_at hl 2 rfl) ?_
    refine lv_aload_n hx hb dX9_share_15 rfl (lv_at hl 1 rfl) ?_
    refine va_get (D := D) (ci := 9) (v := .ref nw) (C := RX9) (T := TX9) (N := 11) hx hb htb itX9 hown hK hP 0 rfl rfl 2 (by decide) (htb _ k_395) (fun _ h9 => h9) rfl dX9_share_16 ?_
    refine cVR (As := []) (rest := [.int x1]) (n := 0) (ci := 4) (q0 := 0) X hN hK hP (c_X4_leaveBits l D cI cB nw u2 f2 g2 0 0 1 ff2 hf) (gV k_746 k_747 k_748 k_95 k_749) (by decide +kernel) ⟨Nat.le_of_ble_eq_true rfl, Nat.le_of_ble_eq_true rfl⟩ ⟨rfl, rfl⟩ [2, 3] rfl rfl rfl rfl rfl rfl hl.1 (Nat.le_of_ble_eq_true rfl) dX9_share_19 ⟨Nat.le_of_ble_eq_true rfl, Nat.le_of_ble_eq_true rfl⟩ (fun r_3 hr_3 => ?_)
    subst hr_3
    refine lv_iconst (v := (-1)) hx hb dX9_share_22 (by decide) ?_
    refine lv_ixor hx hb dX9_share_23 ?_
    refine tv (z := (-1)) (by decide) ?_
    refine lv_iand hx hb dX9_share_24 ?_
    refine tv (z := x1) (aM1 x1) ?_
    refine lv_if_ne (tgt := 42) hx hb dX9_share_25 (by decide) (fun c_25 => absurd (bIt c_11) c_25) (fun _ => ?_)
    refine lv_iload hx hb dX9_share_28 (lv_at hl 0 rfl) ?_
    refine lv_iconst (v := 1) hx hb dX9_share_30 (by decide) ?_
    refine lv_iconst (v := 5) hx hb dX9_share_31 (by decide) ?_
    refine cSR (As := [.int sz, .int 1, .int 5]) (rest := []) (n := 3) X hN hK hP (c_X9_within l D cI cB sz 1 5) k_431 k_432 k_92 k_433 (by decide +kernel) ⟨Nat.le_of_ble_eq_true rfl, Nat.le_of_ble_eq_true rfl⟩ ⟨rfl, rfl⟩ [] rfl rfl rfl hl.1 (Nat.le_of_ble_eq_true rfl) dX9_share_32 ⟨Nat.le_of_ble_eq_true rfl, Nat.le_of_ble_eq_true rfl⟩ (fun r_4 hr_4 => ?_)
    subst hr_4
    refine lv_if_eq (tgt := 42) hx hb dX9_share_35 (by decide) (fun _ => ?_) (fun c_35 => absurd (by rw [hsz (bIt c_11)]; decide) c_35)
    refine lv_iconst (v := 0) hx hb dX9_share_42 (by decide) ?_
    refine lv_istore (lv' := [(6, .int 0), (5, .int sz), (0, .ref h0), (1, .int x1), (2, .int x2), (3, .int x3), (4, .int x4)]) hx hb dX9_share_43 hl (by decide) rfl (fun ls hl => ?_)
    refine lv_iload_n hx hb dX9_share_45 rfl (lv_at hl 5 rfl) ?_
    refine cSR (As := [.int x3]) (rest := []) (n := 1) X hN hK hP (c_X9_isDayCount l D cI cB x3) k_770 k_771 k_92 k_772 (by decide +kernel) ⟨Nat.le_of_ble_eq_true rfl, Nat.le_of_ble_eq_true rfl⟩ ⟨rfl, rfl⟩ [] rfl rfl rfl hl.1 (Nat.le_of_ble_eq_true rfl) dX9_share_46 ⟨Nat.le_of_ble_eq_true rfl, Nat.le_of_ble_eq_true rfl⟩ (fun r_5 hr_5 => ?_)
    subst hr_5
    refine lv_if_eq (tgt := 67) hx hb dX9_share_49 (by decide) (fun c_49 => ?_) (fun c_49 => ?_)
    · refine lv_ldc (v := (-1000000000)) hx hb hown (htb _ k_918) dX9_share_67 ?_
      exact ret _ _ (-1000000000) dX9_share_69 rfl rfl
    · refine lv_iload hx hb dX9_share_52 (lv_at hl 0 rfl) ?_
      refine lv_if_eq (tgt := 67) hx hb dX9_share_54 (by decide) (fun _ => ?_) (fun c_54 => absurd (by decide) c_54)
      refine lv_ldc (v := (-1000000000)) hx hb hown (htb _ k_918) dX9_share_67 ?_
      exact ret _ _ (-1000000000) dX9_share_69 rfl rfl

set_option maxRecDepth 100000 in
set_option maxHeartbeats 4000000 in
theorem c_X9_hired (l : Launch) (D : va_G) (cI cB : ClassId) (h0 : Nat) (tp : Nat) (tw : Nat) (nw : Nat) (kp : Nat) (lw : Nat) (lr : Nat) (dd : Nat) (vv : Nat) (tl : Nat) (sc : Nat) (t1 : Nat) (t2 : Nat) (t3 : Nat) (t4 : Nat) (x1 : Int32) (x2 : Int32) (x3 : Int32) (x4 : Int32)  : MR l D cI cB yX9_hired cX9_hired 12 .int (rm 1 22) [.ref h0, .int x1, .int x2, .int x3, .int x4] [(h0, .inr (9, [.ref tp, .ref tw, .ref nw, .ref kp, .ref lw, .ref lr, .ref dd, .ref vv, .ref tl, .ref sc, .int 0])), (tw, .inr (7, [.int 0, .int 0, .int 0, .ref t1, .ref t2, .ref t3, .ref t4]))] (fun r : Int32 => r = -1) := by
  refine MR.of (by decide) (Nat.le_of_ble_eq_true rfl) ?_
  intro p e s m below meth c Q ls X hN hP hK hl ret
  obtain ⟨hx, hb, hml, hown, htb⟩ := id X
  have hl : lv_has ls 12 [(0, .ref h0), (1, .int x1), (2, .int x2), (3, .int x3), (4, .int x4)] := hl
  refine lv_iload_n hx hb dX9_hired_0 rfl (lv_at hl 2 rfl) ?_
  refine cSR (As := [.int x2]) (rest := []) (n := 1) X hN hK hP (c_J6_bitCount_0f7a4 l D cI cB x2) k_754 k_755 k_111 k_756 (by decide +kernel) ⟨Nat.le_of_ble_eq_true rfl, Nat.le_of_ble_eq_true rfl⟩ ⟨rfl, rfl⟩ [] rfl rfl rfl hl.1 (Nat.le_of_ble_eq_true rfl) dX9_hired_1 ⟨Nat.le_of_ble_eq_true rfl, Nat.le_of_ble_eq_true rfl⟩ (fun sz hsz => ?_)
  refine lv_istore (lv' := [(5, .int sz), (0, .ref h0), (1, .int x1), (2, .int x2), (3, .int x3), (4, .int x4)]) hx hb dX9_hired_4 hl (by decide) rfl (fun ls hl => ?_)
  refine lv_aload_n hx hb dX9_hired_6 rfl (lv_at hl 1 rfl) ?_
  refine lv_iload_n hx hb dX9_hired_7 rfl (lv_at hl 3 rfl) ?_
  refine cVR (As := [.int x2]) (rest := []) (n := 1) (ci := 9) (q0 := 0) X hN hK hP (c_X9_areTold l D cI cB h0 tp tw nw kp lw lr dd vv tl sc t1 t2 t3 t4 x2) (gV k_893 k_895 k_20 k_92 k_896) (by decide +kernel) ⟨Nat.le_of_ble_eq_true rfl, Nat.le_of_ble_eq_true rfl⟩ ⟨rfl, rfl⟩ [0, 1] rfl rfl rfl rfl rfl rfl hl.1 (Nat.le_of_ble_eq_true rfl) dX9_hired_8 ⟨Nat.le_of_ble_eq_true rfl, Nat.le_of_ble_eq_true rfl⟩ (fun r_1 hr_1 => ?_)
  subst hr_1
  refine lv_if_eq (tgt := 44) hx hb dX9_hired_11 (by decide) (fun c_11 => ?_) (fun c_11 => ?_)
  · refine lv_iconst (v := 0) hx hb dX9_hired_44 (by decide) ?_
    refine lv_istore (lv' := [(6, .int 0), (5, .int sz), (0, .ref h0), (1, .int x1), (2, .int x2), (3, .int x3), (4, .int x4)]) hx hb dX9_hired_45 hl (by decide) rfl (fun ls hl => ?_)
    refine lv_iload_n hx hb dX9_hired_47 rfl (lv_at hl 3 rfl) ?_
    refine lv_iconst (v := 1) hx hb dX9_hired_48 (by decide) ?_
    refine lv_bipush (v := 9) hx hb dX9_hired_49 (by decide) ?_
    refine cSR (As := [.int x1, .int 1, .int 9]) (rest := []) (n := 3) X hN hK hP (c_X9_within l D cI cB x1 1 9) k_431 k_432 k_92 k_433 (by decide +kernel) ⟨Nat.le_of_ble_eq_true rfl, Nat.le_of_ble_eq_true rfl⟩ ⟨rfl, rfl⟩ [] rfl rfl rfl hl.1 (Nat.le_of_ble_eq_true rfl) dX9_hired_51 ⟨Nat.le_of_ble_eq_true rfl, Nat.le_of_ble_eq_true rfl⟩ (fun r_2 hr_2 => ?_)
    subst hr_2
    refine lv_if_eq (tgt := 69) hx hb dX9_hired_54 (by decide) (fun c_54 => ?_) (fun c_54 => ?_)
    · refine lv_iconst (v := (-1)) hx hb dX9_hired_69 (by decide) ?_
      exact ret _ _ (-1) dX9_hired_70 rfl rfl
    · refine lv_iload hx hb dX9_hired_57 (lv_at hl 0 rfl) ?_
      refine lv_if_eq (tgt := 69) hx hb dX9_hired_59 (by decide) (fun _ => ?_) (fun c_59 => absurd (by decide) c_59)
      refine lv_iconst (v := (-1)) hx hb dX9_hired_69 (by decide) ?_
      exact ret _ _ (-1) dX9_hired_70 rfl rfl
  · refine lv_iload hx hb dX9_hired_14 (lv_at hl 0 rfl) ?_
    refine lv_iconst (v := 1) hx hb dX9_hired_16 (by decide) ?_
    refine lv_iconst (v := 3) hx hb dX9_hired_17 (by decide) ?_
    refine cSR (As := [.int sz, .int 1, .int 3]) (rest := []) (n := 3) X hN hK hP (c_X9_within l D cI cB sz 1 3) k_431 k_432 k_92 k_433 (by decide +kernel) ⟨Nat.le_of_ble_eq_true rfl, Nat.le_of_ble_eq_true rfl⟩ ⟨rfl, rfl⟩ [] rfl rfl rfl hl.1 (Nat.le_of_ble_eq_true rfl) dX9_hired_18 ⟨Nat.le_of_ble_eq_true rfl, Nat.le_of_ble_eq_true rfl⟩ (fun r_3 hr_3 => ?_)
    subst hr_3
    refine lv_if_eq (tgt := 44) hx hb dX9_hired_21 (by decide) (fun _ => ?_) (fun c_21 => absurd (by rw [hsz (bIt c_11)]; decide) c_21)
    refine lv_iconst (v := 0) hx hb dX9_hired_44 (by decide) ?_
    refine lv_istore (lv' := [(6, .int 0), (5, .int sz), (0, .ref h0), (1, .int x1), (2, .int x2), (3, .int x3), (4, .int x4)]) hx hb dX9_hired_45 hl (by decide) rfl (fun ls hl => ?_)
    refine lv_iload_n hx hb dX9_hired_47 rfl (lv_at hl 3 rfl) ?_
    refine lv_iconst (v := 1) hx hb dX9_hired_48 (by decide) ?_
    refine lv_bipush (v := 9) hx hb dX9_hired_49 (by decide) ?_
    refine cSR (As := [.int x1, .int 1, .int 9]) (rest := []) (n := 3) X hN hK hP (c_X9_within l D cI cB x1 1 9) k_431 k_432 k_92 k_433 (by decide +kernel) ⟨Nat.le_of_ble_eq_true rfl, Nat.le_of_ble_eq_true rfl⟩ ⟨rfl, rfl⟩ [] rfl rfl rfl hl.1 (Nat.le_of_ble_eq_true rfl) dX9_hired_51 ⟨Nat.le_of_ble_eq_true rfl, Nat.le_of_ble_eq_true rfl⟩ (fun r_4 hr_4 => ?_)
    subst hr_4
    refine lv_if_eq (tgt := 69) hx hb dX9_hired_54 (by decide) (fun c_54 => ?_) (fun c_54 => ?_)
    · refine lv_iconst (v := (-1)) hx hb dX9_hired_69 (by decide) ?_
      exact ret _ _ (-1) dX9_hired_70 rfl rfl
    · refine lv_iload hx hb dX9_hired_57 (lv_at hl 0 rfl) ?_
      refine lv_if_eq (tgt := 69) hx hb dX9_hired_59 (by decide) (fun _ => ?_) (fun c_59 => absurd (by decide) c_59)
      refine lv_iconst (v := (-1)) hx hb dX9_hired_69 (by decide) ?_
      exact ret _ _ (-1) dX9_hired_70 rfl rfl

set_option maxRecDepth 100000 in
set_option maxHeartbeats 4000000 in
theorem c_X9_byTurns (l : Launch) (D : va_G) (cI cB : ClassId) (h0 : Nat) (tp : Nat) (tw : Nat) (nw : Nat) (kp : Nat) (lw : Nat) (lr : Nat) (dd : Nat) (vv : Nat) (tl : Nat) (sc : Nat) (t1 : Nat) (t2 : Nat) (t3 : Nat) (t4 : Nat) (x1 : Int32) (x2 : Int32) (x3 : Int32)  : MR l D cI cB yX9_byTurns cX9_byTurns 10 .int (rm 1 22) [.ref h0, .int x1, .int x2, .int x3] [(h0, .inr (9, [.ref tp, .ref tw, .ref nw, .ref kp, .ref lw, .ref lr, .ref dd, .ref vv, .ref tl, .ref sc, .int 0])), (tw, .inr (7, [.int 0, .int 0, .int 0, .ref t1, .ref t2, .ref t3, .ref t4]))] (fun r : Int32 => r = -1) := by
  refine MR.of (by decide) (Nat.le_of_ble_eq_true rfl) ?_
  intro p e s m below meth c Q ls X hN hP hK hl ret
  obtain ⟨hx, hb, hml, hown, htb⟩ := id X
  have hl : lv_has ls 10 [(0, .ref h0), (1, .int x1), (2, .int x2), (3, .int x3)] := hl
  refine lv_iload_n hx hb dX9_byTurns_0 rfl (lv_at hl 1 rfl) ?_
  refine cSR (As := [.int x1]) (rest := []) (n := 1) X hN hK hP (c_J6_bitCount_0f7a4 l D cI cB x1) k_754 k_755 k_111 k_756 (by decide +kernel) ⟨Nat.le_of_ble_eq_true rfl, Nat.le_of_ble_eq_true rfl⟩ ⟨rfl, rfl⟩ [] rfl rfl rfl hl.1 (Nat.le_of_ble_eq_true rfl) dX9_byTurns_1 ⟨Nat.le_of_ble_eq_true rfl, Nat.le_of_ble_eq_true rfl⟩ (fun sz hsz => ?_)
  refine lv_istore (lv' := [(4, .int sz), (0, .ref h0), (1, .int x1), (2, .int x2), (3, .int x3)]) hx hb dX9_byTurns_4 hl (by decide) rfl (fun ls hl => ?_)
  refine lv_aload_n hx hb dX9_byTurns_6 rfl (lv_at hl 1 rfl) ?_
  refine lv_iload_n hx hb dX9_byTurns_7 rfl (lv_at hl 2 rfl) ?_
  refine cVR (As := [.int x1]) (rest := []) (n := 1) (ci := 9) (q0 := 0) X hN hK hP (c_X9_areTold l D cI cB h0 tp tw nw kp lw lr dd vv tl sc t1 t2 t3 t4 x1) (gV k_893 k_895 k_20 k_92 k_896) (by decide +kernel) ⟨Nat.le_of_ble_eq_true rfl, Nat.le_of_ble_eq_true rfl⟩ ⟨rfl, rfl⟩ [0, 1] rfl rfl rfl rfl rfl rfl hl.1 (Nat.le_of_ble_eq_true rfl) dX9_byTurns_8 ⟨Nat.le_of_ble_eq_true rfl, Nat.le_of_ble_eq_true rfl⟩ (fun r_1 hr_1 => ?_)
  subst hr_1
  refine lv_if_eq (tgt := 46) hx hb dX9_byTurns_11 (by decide) (fun c_11 => ?_) (fun c_11 => ?_)
  · refine lv_iconst (v := 0) hx hb dX9_byTurns_46 (by decide) ?_
    refine lv_istore (lv' := [(5, .int 0), (4, .int sz), (0, .ref h0), (1, .int x1), (2, .int x2), (3, .int x3)]) hx hb dX9_byTurns_47 hl (by decide) rfl (fun ls hl => ?_)
    refine lv_iload hx hb dX9_byTurns_49 (lv_at hl 0 rfl) ?_
    refine lv_if_eq (tgt := 64) hx hb dX9_byTurns_51 (by decide) (fun _ => ?_) (fun c_51 => absurd (by decide) c_51)
    refine lv_iconst (v := (-1)) hx hb dX9_byTurns_64 (by decide) ?_
    exact ret _ _ (-1) dX9_byTurns_65 rfl rfl
  · refine lv_iload hx hb dX9_byTurns_14 (lv_at hl 0 rfl) ?_
    refine lv_iconst (v := 2) hx hb dX9_byTurns_16 (by decide) ?_
    refine lv_iconst (v := 4) hx hb dX9_byTurns_17 (by decide) ?_
    refine cSR (As := [.int sz, .int 2, .int 4]) (rest := []) (n := 3) X hN hK hP (c_X9_within l D cI cB sz 2 4) k_431 k_432 k_92 k_433 (by decide +kernel) ⟨Nat.le_of_ble_eq_true rfl, Nat.le_of_ble_eq_true rfl⟩ ⟨rfl, rfl⟩ [] rfl rfl rfl hl.1 (Nat.le_of_ble_eq_true rfl) dX9_byTurns_18 ⟨Nat.le_of_ble_eq_true rfl, Nat.le_of_ble_eq_true rfl⟩ (fun r_2 hr_2 => ?_)
    subst hr_2
    refine lv_if_eq (tgt := 46) hx hb dX9_byTurns_21 (by decide) (fun _ => ?_) (fun c_21 => absurd (by rw [hsz (bIt c_11)]; decide) c_21)
    refine lv_iconst (v := 0) hx hb dX9_byTurns_46 (by decide) ?_
    refine lv_istore (lv' := [(5, .int 0), (4, .int sz), (0, .ref h0), (1, .int x1), (2, .int x2), (3, .int x3)]) hx hb dX9_byTurns_47 hl (by decide) rfl (fun ls hl => ?_)
    refine lv_iload hx hb dX9_byTurns_49 (lv_at hl 0 rfl) ?_
    refine lv_if_eq (tgt := 64) hx hb dX9_byTurns_51 (by decide) (fun _ => ?_) (fun c_51 => absurd (by decide) c_51)
    refine lv_iconst (v := (-1)) hx hb dX9_byTurns_64 (by decide) ?_
    exact ret _ _ (-1) dX9_byTurns_65 rfl rfl

set_option maxRecDepth 100000 in
set_option maxHeartbeats 4000000 in
theorem c_X9_count (l : Launch) (D : va_G) (cI cB : ClassId) (h0 : Nat) (tp : Nat) (tw : Nat) (nw : Nat) (kp : Nat) (lw : Nat) (lr : Nat) (dd : Nat) (vv : Nat) (tl : Nat) (sc : Nat) (t1 : Nat) (t2 : Nat) (t3 : Nat) (t4 : Nat) (by_ : Nat) (u2 : Nat) (f2 : Nat) (g2 : Nat) (ff2 : Nat → Int32) (fg2 : Nat → Int32) (l1 : Nat) (l2 : Nat) (l3 : Nat) (l4 : Nat) (l5 : Nat) (l6 : Nat) (l7 : Nat) (lz : Int32) (x2 : Int32) (hf : ∀ j, j < 10 → ff2 j = -2) (hg : ∀ j, j < 10 → fg2 j = -2) : MR l D cI cB yX9_count cX9_count 2 .int (rm 2 43) [.ref h0, .int x2] [(h0, .inr (9, [.ref tp, .ref tw, .ref nw, .ref kp, .ref lw, .ref lr, .ref dd, .ref vv, .ref tl, .ref sc, .int 0])), (tp, .inr (5, [.ref by_, .int 0])), (tw, .inr (7, [.int 0, .int 0, .int 0, .ref t1, .ref t2, .ref t3, .ref t4])), (nw, .inr (4, [.ref u2, .ref f2, .ref g2, .int 0, .int 0, .int 1])), (f2, .inl (cI, 10, .inl ff2)), (g2, .inl (cI, 10, .inl fg2)), (lw, .inr (1, [.ref l1, .ref l2, .ref l3, .ref l4, .ref l5, .ref l6, .ref l7, .int lz, .int 0]))] (fun r : Int32 => r = iI (x2 = 7) 1 (iI (0 ≤ x2 ∧ x2 ≤ 9) 0 (-1))) := by
  refine MR.of (by decide) (Nat.le_of_ble_eq_true rfl) ?_
  intro p e s m below meth c Q ls X hN hP hK hl ret
  obtain ⟨hx, hb, hml, hown, htb⟩ := id X
  have hl : lv_has ls 2 [(0, .ref h0), (1, .int x2)] := hl
  refine lv_iload_n hx hb dX9_count_0 rfl (lv_at hl 1 rfl) ?_
  by_cases e1_0 : x2 = 0
  · subst e1_0
    refine lv_tableIn (off := 55) (tgt := 56) hx hb dX9_count_1 (by decide) (by decide) (by decide) (by decide) ?_
    refine lv_aload_n hx hb dX9_count_56 rfl (lv_at hl 0 rfl) ?_
    refine va_get (D := D) (ci := 9) (v := .ref nw) (C := RX9) (T := TX9) (N := 11) hx hb htb itX9 hown hK hP 0 rfl rfl 2 (by decide) (htb _ k_395) (fun _ h9 => h9) rfl dX9_count_57 ?_
    refine va_getN (D := D) (ci := 4) (v := .int 0) (C := RX4) (T := TX4) (N := 6) hx hb htb itX4 hown hK hP 3 rfl rfl 4 (by decide) (va_Nw.use rfl (hN _ n_201 rfl)) (fun _ h9 => h9) rfl dX9_count_60 ?_
    exact ret _ _ 0 dX9_count_63 rfl (by decide)
  by_cases e1_1 : x2 = 1
  · subst e1_1
    refine lv_tableIn (off := 63) (tgt := 64) hx hb dX9_count_1 (by decide) (by decide) (by decide) (by decide) ?_
    refine lv_aload_n hx hb dX9_count_64 rfl (lv_at hl 0 rfl) ?_
    refine va_get (D := D) (ci := 9) (v := .ref nw) (C := RX9) (T := TX9) (N := 11) hx hb htb itX9 hown hK hP 0 rfl rfl 2 (by decide) (htb _ k_395) (fun _ h9 => h9) rfl dX9_count_65 ?_
    refine va_getN (D := D) (ci := 4) (v := .int 0) (C := RX4) (T := TX4) (N := 6) hx hb htb itX4 hown hK hP 3 rfl rfl 3 (by decide) (va_Nw.use rfl (hN _ n_198 rfl)) (fun _ h9 => h9) rfl dX9_count_68 ?_
    exact ret _ _ 0 dX9_count_71 rfl (by decide)
  by_cases e1_2 : x2 = 2
  · subst e1_2
    refine lv_tableIn (off := 71) (tgt := 72) hx hb dX9_count_1 (by decide) (by decide) (by decide) (by decide) ?_
    refine lv_aload_n hx hb dX9_count_72 rfl (lv_at hl 0 rfl) ?_
    refine va_get (D := D) (ci := 9) (v := .ref tw) (C := RX9) (T := TX9) (N := 11) hx hb htb itX9 hown hK hP 0 rfl rfl 1 (by decide) (htb _ k_394) (fun _ h9 => h9) rfl dX9_count_73 ?_
    refine va_getN (D := D) (ci := 7) (v := .int 0) (C := RX7) (T := TX7) (N := 7) hx hb htb itX7 hown hK hP 2 rfl rfl 0 (by decide) (va_Nw.use rfl (hN _ n_144 rfl)) (fun _ h9 => h9) rfl dX9_count_76 ?_
    exact ret _ _ 0 dX9_count_79 rfl (by decide)
  by_cases e1_3 : x2 = 3
  · subst e1_3
    refine lv_tableIn (off := 79) (tgt := 80) hx hb dX9_count_1 (by decide) (by decide) (by decide) (by decide) ?_
    refine lv_aload_n hx hb dX9_count_80 rfl (lv_at hl 0 rfl) ?_
    refine va_get (D := D) (ci := 9) (v := .ref tw) (C := RX9) (T := TX9) (N := 11) hx hb htb itX9 hown hK hP 0 rfl rfl 1 (by decide) (htb _ k_394) (fun _ h9 => h9) rfl dX9_count_81 ?_
    refine va_getN (D := D) (ci := 7) (v := .int 0) (C := RX7) (T := TX7) (N := 7) hx hb htb itX7 hown hK hP 2 rfl rfl 1 (by decide) (va_Nw.use rfl (hN _ n_147 rfl)) (fun _ h9 => h9) rfl dX9_count_84 ?_
    exact ret _ _ 0 dX9_count_87 rfl (by decide)
  by_cases e1_4 : x2 = 4
  · subst e1_4
    refine lv_tableIn (off := 87) (tgt := 88) hx hb dX9_count_1 (by decide) (by decide) (by decide) (by decide) ?_
    refine lv_aload_n hx hb dX9_count_88 rfl (lv_at hl 0 rfl) ?_
    refine va_get (D := D) (ci := 9) (v := .ref nw) (C := RX9) (T := TX9) (N := 11) hx hb htb itX9 hown hK hP 0 rfl rfl 2 (by decide) (htb _ k_395) (fun _ h9 => h9) rfl dX9_count_89 ?_
    refine cVR (As := []) (rest := []) (n := 0) (ci := 4) (q0 := 0) X hN hK hP (c_X4_awayBits l D cI cB nw u2 f2 g2 0 0 1 ff2 fg2 hg (by decide)) (gV k_888 k_794 k_795 k_95 k_796) (by decide +kernel) ⟨Nat.le_of_ble_eq_true rfl, Nat.le_of_ble_eq_true rfl⟩ ⟨rfl, rfl⟩ [3, 4, 5] rfl rfl rfl rfl rfl rfl hl.1 (Nat.le_of_ble_eq_true rfl) dX9_count_92 ⟨Nat.le_of_ble_eq_true rfl, Nat.le_of_ble_eq_true rfl⟩ (fun r_1 hr_1 => ?_)
    subst hr_1
    exact ret _ _ 0 dX9_count_95 rfl (by decide)
  by_cases e1_5 : x2 = 5
  · subst e1_5
    refine lv_tableIn (off := 95) (tgt := 96) hx hb dX9_count_1 (by decide) (by decide) (by decide) (by decide) ?_
    refine lv_aload_n hx hb dX9_count_96 rfl (lv_at hl 0 rfl) ?_
    refine va_get (D := D) (ci := 9) (v := .ref lw) (C := RX9) (T := TX9) (N := 11) hx hb htb itX9 hown hK hP 0 rfl rfl 4 (by decide) (htb _ k_397) (fun _ h9 => h9) rfl dX9_count_97 ?_
    refine va_getN (D := D) (ci := 1) (v := .int 0) (C := RX1) (T := TX1) (N := 9) hx hb htb itX1 hown hK hP 6 rfl rfl 8 (by decide) (va_Nw.use rfl (hN _ n_235 rfl)) (fun _ h9 => h9) rfl dX9_count_100 ?_
    exact ret _ _ 0 dX9_count_103 rfl (by decide)
  by_cases e1_6 : x2 = 6
  · subst e1_6
    refine lv_tableIn (off := 103) (tgt := 104) hx hb dX9_count_1 (by decide) (by decide) (by decide) (by decide) ?_
    refine lv_aload_n hx hb dX9_count_104 rfl (lv_at hl 0 rfl) ?_
    refine va_get (D := D) (ci := 9) (v := .ref tp) (C := RX9) (T := TX9) (N := 11) hx hb htb itX9 hown hK hP 0 rfl rfl 0 (by decide) (htb _ k_393) (fun _ h9 => h9) rfl dX9_count_105 ?_
    refine va_getN (D := D) (ci := 5) (v := .int 0) (C := RX5) (T := TX5) (N := 2) hx hb htb itX5 hown hK hP 1 rfl rfl 1 (by decide) (va_Nw.use rfl (hN _ n_130 rfl)) (fun _ h9 => h9) rfl dX9_count_108 ?_
    exact ret _ _ 0 dX9_count_111 rfl (by decide)
  by_cases e1_7 : x2 = 7
  · subst e1_7
    refine lv_tableIn (off := 111) (tgt := 112) hx hb dX9_count_1 (by decide) (by decide) (by decide) (by decide) ?_
    refine lv_aload_n hx hb dX9_count_112 rfl (lv_at hl 0 rfl) ?_
    refine va_get (D := D) (ci := 9) (v := .ref nw) (C := RX9) (T := TX9) (N := 11) hx hb htb itX9 hown hK hP 0 rfl rfl 2 (by decide) (htb _ k_395) (fun _ h9 => h9) rfl dX9_count_113 ?_
    refine va_getN (D := D) (ci := 4) (v := .int 1) (C := RX4) (T := TX4) (N := 6) hx hb htb itX4 hown hK hP 3 rfl rfl 5 (by decide) (va_Nw.use rfl (hN _ n_204 rfl)) (fun _ h9 => h9) rfl dX9_count_116 ?_
    exact ret _ _ 1 dX9_count_119 rfl (by decide)
  by_cases e1_8 : x2 = 8
  · subst e1_8
    refine lv_tableIn (off := 119) (tgt := 120) hx hb dX9_count_1 (by decide) (by decide) (by decide) (by decide) ?_
    refine lv_aload_n hx hb dX9_count_120 rfl (lv_at hl 0 rfl) ?_
    refine va_get (D := D) (ci := 9) (v := .ref tw) (C := RX9) (T := TX9) (N := 11) hx hb htb itX9 hown hK hP 0 rfl rfl 1 (by decide) (htb _ k_394) (fun _ h9 => h9) rfl dX9_count_121 ?_
    refine va_getN (D := D) (ci := 7) (v := .int 0) (C := RX7) (T := TX7) (N := 7) hx hb htb itX7 hown hK hP 2 rfl rfl 2 (by decide) (va_Nw.use rfl (hN _ n_149 rfl)) (fun _ h9 => h9) rfl dX9_count_124 ?_
    exact ret _ _ 0 dX9_count_127 rfl (by decide)
  by_cases e1_9 : x2 = 9
  · subst e1_9
    refine lv_tableIn (off := 127) (tgt := 128) hx hb dX9_count_1 (by decide) (by decide) (by decide) (by decide) ?_
    refine lv_aload_n hx hb dX9_count_128 rfl (lv_at hl 0 rfl) ?_
    refine va_get (D := D) (ci := 9) (v := .ref nw) (C := RX9) (T := TX9) (N := 11) hx hb htb itX9 hown hK hP 0 rfl rfl 2 (by decide) (htb _ k_395) (fun _ h9 => h9) rfl dX9_count_129 ?_
    refine cVR (As := []) (rest := []) (n := 0) (ci := 4) (q0 := 0) X hN hK hP (c_X4_leaveBits l D cI cB nw u2 f2 g2 0 0 1 ff2 hf) (gV k_746 k_747 k_748 k_95 k_749) (by decide +kernel) ⟨Nat.le_of_ble_eq_true rfl, Nat.le_of_ble_eq_true rfl⟩ ⟨rfl, rfl⟩ [3, 4] rfl rfl rfl rfl rfl rfl hl.1 (Nat.le_of_ble_eq_true rfl) dX9_count_132 ⟨Nat.le_of_ble_eq_true rfl, Nat.le_of_ble_eq_true rfl⟩ (fun r_2 hr_2 => ?_)
    subst hr_2
    exact ret _ _ 0 dX9_count_135 rfl (by decide)
  refine lv_tableOut (tgt := 136) hx hb dX9_count_1 (by have t0 := lv_neT e1_0 (a := 0) (by decide); have t1 := lv_neT e1_1 (a := 1) (by decide); have t2 := lv_neT e1_2 (a := 2) (by decide); have t3 := lv_neT e1_3 (a := 3) (by decide); have t4 := lv_neT e1_4 (a := 4) (by decide); have t5 := lv_neT e1_5 (a := 5) (by decide); have t6 := lv_neT e1_6 (a := 6) (by decide); have t7 := lv_neT e1_7 (a := 7) (by decide); have t8 := lv_neT e1_8 (a := 8) (by decide); have t9 := lv_neT e1_9 (a := 9) (by decide); omega) (by decide) ?_
  refine lv_iconst (v := (-1)) hx hb dX9_count_136 (by decide) ?_
  exact ret _ _ (-1) dX9_count_137 rfl (by rw [← iI0 e1_7]; exact iI0 (fun h => by obtain ⟨j, hj, rfl⟩ := inN (k := 9) (by decide) h; exact absurd ⟨e1_0, e1_1, e1_2, e1_3, e1_4, e1_5, e1_6, e1_7, e1_8, e1_9⟩ (c10 hj)))
end
section
set_option maxRecDepth 100000 in
set_option maxHeartbeats 4000000 in
theorem c_X9_home (l : Launch) (D : va_G) (cI cB : ClassId) (sz : Nat) (h0 : Nat) (tp : Nat) (tw : Nat) (nw : Nat) (kp : Nat) (lw : Nat) (lr : Nat) (dd : Nat) (vv : Nat) (tl : Nat) (sc : Nat) (u2 : Nat) (f2 : Nat) (g2 : Nat) (ff2 : Nat → Int32) (fg2 : Nat → Int32) (hf : ∀ j, j < 10 → ff2 j = -2) (hg : ∀ j, j < 10 → fg2 j = -2) : MI (S := Unit) l D cI cB yX9_home cX9_home 2 .int (rm 2 43) [.ref h0] [(h0, .inr (9, [.ref tp, .ref tw, .ref nw, .ref kp, .ref lw, .ref lr, .ref dd, .ref vv, .ref tl, .ref sc, .int 0])), (nw, .inr (4, [.ref u2, .ref f2, .ref g2, .int 0, .int 0, .int 1])), (f2, .inl (cI, 10, .inl ff2)), (g2, .inl (cI, 10, .inl fg2))] sz (fun r u => r = 0) (fun u : Unit => []) := by
  refine MI.of (by decide) (Nat.le_of_ble_eq_true rfl) ?_
  intro p e s m below meth c Q ls A X hin hN hP hK hD hA hl ret
  have hS : va_S A s.heap s.heap [] := va_S.rf
  obtain ⟨hx, hb, hml, hown, htb⟩ := id X
  have hl : lv_has ls 2 [(0, .ref h0)] := hl
  refine lv_aload_n hx hb dX9_home_0 rfl (lv_at hl 0 rfl) ?_
  refine va_get (D := D) (ci := 9) (v := .ref nw) (C := RX9) (T := TX9) (N := 11) hx hb htb itX9 hown hK hP 0 rfl rfl 2 (by decide) (htb _ k_395) (fun _ h9 => h9) rfl dX9_home_1 ?_
  refine cVR (As := []) (rest := []) (n := 0) (ci := 4) (q0 := 0) X hN hK hP (c_X4_leaveBits l D cI cB nw u2 f2 g2 0 0 1 ff2 hf) (gV k_746 k_747 k_748 k_95 k_749) (by decide +kernel) ⟨Nat.le_of_ble_eq_true rfl, Nat.le_of_ble_eq_true rfl⟩ ⟨rfl, rfl⟩ [1, 2] rfl rfl rfl rfl rfl rfl hl.1 (Nat.le_of_ble_eq_true rfl) dX9_home_4 ⟨Nat.le_of_ble_eq_true rfl, Nat.le_of_ble_eq_true rfl⟩ (fun r_1 hr_1 => ?_)
  subst hr_1
  refine cSR (As := [.int 0]) (rest := []) (n := 1) X hN hK hP (c_J6_bitCount_0f7a4 l D cI cB 0) k_754 k_755 k_111 k_756 (by decide +kernel) ⟨Nat.le_of_ble_eq_true rfl, Nat.le_of_ble_eq_true rfl⟩ ⟨rfl, rfl⟩ [] rfl rfl rfl hl.1 (Nat.le_of_ble_eq_true rfl) dX9_home_7 ⟨Nat.le_of_ble_eq_true rfl, Nat.le_of_ble_eq_true rfl⟩ (fun rb hrb => ?_)
  refine lv_istore_n (lv' := [(1, .int rb), (0, .ref h0)]) hx hb dX9_home_10 rfl hl (by decide) rfl (fun ls hl => ?_)
  refine lv_aload_n hx hb dX9_home_11 rfl (lv_at hl 1 rfl) ?_
  refine va_get (D := D) (ci := 9) (v := .ref nw) (C := RX9) (T := TX9) (N := 11) hx hb htb itX9 hown hK hP 0 rfl rfl 2 (by decide) (htb _ k_395) (fun _ h9 => h9) rfl dX9_home_12 ?_
  refine lv_sipush (v := 1023) hx hb dX9_home_15 (by decide) ?_
  refine cVV (As := [.int 1023]) (rest := []) (n := 1) (ci := 4) (q0 := 0) (wr := [(h0, .inr (9, [.ref tp, .ref tw, .ref nw, .ref kp, .ref lw, .ref lr, .ref dd, .ref vv, .ref tl, .ref sc, .int 0]))]) X hN hK hP hD hS hA (c_X4_endLeaves l D cI cB _ nw u2 f2 g2 0 0 1 1023 ff2 fg2 hf hg) (gV k_760 k_734 k_735 k_95 k_736) (by decide +kernel) ⟨Nat.le_of_ble_eq_true rfl, Nat.le_of_ble_eq_true rfl⟩ ⟨rfl, rfl⟩ [1, 2, 3] [0] rfl rfl (by decide) (by decide) rfl rfl rfl rfl rfl hl.1 (Nat.le_of_ble_eq_true rfl) dX9_home_18 ⟨Nat.le_of_ble_eq_true rfl, Nat.le_of_ble_eq_true rfl⟩ (fun u H locs hw_5 hP hD hS => ?_)
  obtain ⟨fo_3, go_4⟩ := u
  try dsimp only at hw_5
  have hP : va_P D vwCl [(h0, .inr (9, [.ref tp, .ref tw, .ref nw, .ref kp, .ref lw, .ref lr, .ref dd, .ref vv, .ref tl, .ref sc, .int 0])), (nw, .inr (4, [.ref u2, .ref f2, .ref g2, .int 0, .int 0, .int 1])), (f2, .inl (cI, 10, .inl fo_3)), (g2, .inl (cI, 10, .inl go_4))] H := hP
  have hD : va_D A [(h0, .inr (9, [.ref tp, .ref tw, .ref nw, .ref kp, .ref lw, .ref lr, .ref dd, .ref vv, .ref tl, .ref sc, .int 0])), (nw, .inr (4, [.ref u2, .ref f2, .ref g2, .int 0, .int 0, .int 1])), (f2, .inl (cI, 10, .inl fo_3)), (g2, .inl (cI, 10, .inl go_4))] := hD
  refine lv_iload_n hx hb dX9_home_21 rfl (lv_at hl 0 rfl) ?_
  exact ret _ _ _ _ rb () dX9_home_22 rfl (hrb rfl) (hP.sub [] rfl) (hD.sub [] (by decide) rfl) hS

set_option maxRecDepth 100000 in
set_option maxHeartbeats 4000000 in
theorem c_X9_days (l : Launch) (D : va_G) (cI cB : ClassId) (sz : Nat) (h0 : Nat) (tp : Nat) (tw : Nat) (nw : Nat) (kp : Nat) (lw : Nat) (lr : Nat) (dd : Nat) (vv : Nat) (tl : Nat) (sc : Nat) (t1 : Nat) (t2 : Nat) (t3 : Nat) (t4 : Nat) (u2 : Nat) (f2 : Nat) (g2 : Nat) (fu2 : Nat → Int32) (ff2 : Nat → Int32) (fg2 : Nat → Int32) (l1 : Nat) (l2 : Nat) (l3 : Nat) (l4 : Nat) (l5 : Nat) (l6 : Nat) (l7 : Nat) (lz : Int32) (lc : Int32) (fl : Nat → Int32) (st : Nat) (m1 : Nat) (c1 : Nat) (d1 : Nat) (idl : Int32) (idf : Int32) (idt : Int32) (fc : Int32) (fp : Int32) (mb : Int32) (ra : Int32) (cl : Int32) (u1 : Nat) (f1 : Nat) (g1 : Nat) (ms : Int32) (dy : Int32) (dr : Int32) (fu : Nat → Int32) (ff : Nat → Int32) (fg : Nat → Int32) (fm : Nat → Int32) (fc1 : Nat → Int32) (fd : Nat → Int32) (x1 : Int32) (hu : ∀ j, j < 12 → fu2 j = 0) (hf : ∀ j, j < 10 → ff2 j = -2) (hg : ∀ j, j < 10 → fg2 j = -2) : MI (S := Unit) l D cI cB yX9_days cX9_days 3 .int (rm 4 102) [.ref h0, .int x1] [(h0, .inr (9, [.ref tp, .ref tw, .ref nw, .ref kp, .ref lw, .ref lr, .ref dd, .ref vv, .ref tl, .ref sc, .int 0])), (tw, .inr (7, [.int 0, .int 0, .int 0, .ref t1, .ref t2, .ref t3, .ref t4])), (nw, .inr (4, [.ref u2, .ref f2, .ref g2, .int 0, .int 0, .int 1])), (u2, .inl (cI, 12, .inl fu2)), (f2, .inl (cI, 10, .inl ff2)), (g2, .inl (cI, 10, .inl fg2)), (lw, .inr (1, [.ref l1, .ref l2, .ref l3, .ref l4, .ref l5, .ref l6, .ref l7, .int lz, .int lc])), (l6, .inl (cI, 8, .inl fl)), (tl, .inr (8, [.ref tw, .ref lw, .ref st, .ref m1, .ref c1, .ref d1, .int idl, .int idf, .int idt, .int fc, .int fp, .int mb, .int ra, .int cl])), (st, .inr (4, [.ref u1, .ref f1, .ref g1, .int ms, .int dy, .int dr])), (u1, .inl (cI, 12, .inl fu)), (f1, .inl (cI, 10, .inl ff)), (g1, .inl (cI, 10, .inl fg)), (m1, .inl (cI, 10, .inl fm)), (c1, .inl (cI, 10, .inl fc1)), (d1, .inl (cI, 10, .inl fd))] sz (fun r u => r = iI (1 ≤ x1 ∧ x1 ≤ 60) 0 (-1)) (fun u : Unit => []) := by
  refine MI.of (by decide) (Nat.le_of_ble_eq_true rfl) ?_
  intro p e s m below meth c Q ls A X hin hN hP hK hD hA hl ret
  have hS : va_S A s.heap s.heap [] := va_S.rf
  obtain ⟨hx, hb, hml, hown, htb⟩ := id X
  have hl : lv_has ls 3 [(0, .ref h0), (1, .int x1)] := hl
  refine lv_iload_n hx hb dX9_days_0 rfl (lv_at hl 1 rfl) ?_
  refine cSR (As := [.int x1]) (rest := []) (n := 1) X hN hK hP (c_X9_isDayCount l D cI cB x1) k_770 k_771 k_92 k_772 (by decide +kernel) ⟨Nat.le_of_ble_eq_true rfl, Nat.le_of_ble_eq_true rfl⟩ ⟨rfl, rfl⟩ [] rfl rfl rfl hl.1 (Nat.le_of_ble_eq_true rfl) dX9_days_1 ⟨Nat.le_of_ble_eq_true rfl, Nat.le_of_ble_eq_true rfl⟩ (fun r_1 hr_1 => ?_)
  subst hr_1
  refine lv_if_ne (tgt := 9) hx hb dX9_days_4 (by decide) (fun c_4 => ?_) (fun c_4 => ?_)
  · obtain ⟨N, hN0, en⟩ := dcN (k := 60) (by decide) (bIt c_4)
    refine lv_aload_n hx hb dX9_days_9 rfl (lv_at hl 0 rfl) ?_
    refine va_get (D := D) (ci := 9) (v := .ref tl) (C := RX9) (T := TX9) (N := 11) hx hb htb itX9 hown hK hP 0 rfl rfl 8 (by decide) (htb _ k_401) (fun _ h9 => h9) rfl dX9_days_10 ?_
    refine lv_aload_n hx hb dX9_days_13 rfl (lv_at hl 0 rfl) ?_
    refine va_get (D := D) (ci := 9) (v := .ref nw) (C := RX9) (T := TX9) (N := 11) hx hb htb itX9 hown hK hP 0 rfl rfl 2 (by decide) (htb _ k_395) (fun _ h9 => h9) rfl dX9_days_14 ?_
    refine cVV (As := [.ref nw]) (rest := []) (n := 1) (ci := 8) (q0 := 0) (wr := [(h0, .inr (9, [.ref tp, .ref tw, .ref nw, .ref kp, .ref lw, .ref lr, .ref dd, .ref vv, .ref tl, .ref sc, .int 0])), (tw, .inr (7, [.int 0, .int 0, .int 0, .ref t1, .ref t2, .ref t3, .ref t4])), (lw, .inr (1, [.ref l1, .ref l2, .ref l3, .ref l4, .ref l5, .ref l6, .ref l7, .int lz, .int lc])), (l6, .inl (cI, 8, .inl fl)), (c1, .inl (cI, 10, .inl fc1))]) X hN hK hP hD hS hA (c_X8_begin l D cI cB _ tl tw lw st m1 c1 d1 idl idf idt fc fp mb ra cl u1 f1 g1 ms dy dr nw u2 f2 g2 1 fu ff fg fm fd fu2 ff2 fg2 hu hf hg) (gV k_773 k_774 k_775 k_102 k_776) (by decide +kernel) ⟨Nat.le_of_ble_eq_true rfl, Nat.le_of_ble_eq_true rfl⟩ ⟨rfl, rfl⟩ [8, 9, 10, 11, 12, 13, 15, 2, 3, 4, 5] [0, 1, 6, 7, 14] rfl rfl (by decide) (by decide) rfl rfl rfl rfl rfl hl.1 (Nat.le_of_ble_eq_true rfl) dX9_days_17 ⟨Nat.le_of_ble_eq_true rfl, Nat.le_of_ble_eq_true rfl⟩ (fun u H locs hw_8 hP hD hS => ?_)
    obtain ⟨uo_3, fo_4, go_5, mo_6, do__7⟩ := u
    try dsimp only at hw_8
    have hP : va_P D vwCl [(h0, .inr (9, [.ref tp, .ref tw, .ref nw, .ref kp, .ref lw, .ref lr, .ref dd, .ref vv, .ref tl, .ref sc, .int 0])), (tw, .inr (7, [.int 0, .int 0, .int 0, .ref t1, .ref t2, .ref t3, .ref t4])), (lw, .inr (1, [.ref l1, .ref l2, .ref l3, .ref l4, .ref l5, .ref l6, .ref l7, .int lz, .int lc])), (l6, .inl (cI, 8, .inl fl)), (c1, .inl (cI, 10, .inl fc1)), (tl, .inr (8, [.ref tw, .ref lw, .ref st, .ref m1, .ref c1, .ref d1, .int (-1), .int idf, .int idt, .int (-1), .int fp, .int 0, .int 0, .int 0])), (st, .inr (4, [.ref u1, .ref f1, .ref g1, .int 0, .int 0, .int 1])), (u1, .inl (cI, 12, .inl uo_3)), (f1, .inl (cI, 10, .inl fo_4)), (g1, .inl (cI, 10, .inl go_5)), (m1, .inl (cI, 10, .inl mo_6)), (d1, .inl (cI, 10, .inl do__7)), (nw, .inr (4, [.ref u2, .ref f2, .ref g2, .int 0, .int 0, .int 1])), (u2, .inl (cI, 12, .inl fu2)), (f2, .inl (cI, 10, .inl ff2)), (g2, .inl (cI, 10, .inl fg2))] H := hP
    have hD : va_D A [(h0, .inr (9, [.ref tp, .ref tw, .ref nw, .ref kp, .ref lw, .ref lr, .ref dd, .ref vv, .ref tl, .ref sc, .int 0])), (tw, .inr (7, [.int 0, .int 0, .int 0, .ref t1, .ref t2, .ref t3, .ref t4])), (lw, .inr (1, [.ref l1, .ref l2, .ref l3, .ref l4, .ref l5, .ref l6, .ref l7, .int lz, .int lc])), (l6, .inl (cI, 8, .inl fl)), (c1, .inl (cI, 10, .inl fc1)), (tl, .inr (8, [.ref tw, .ref lw, .ref st, .ref m1, .ref c1, .ref d1, .int (-1), .int idf, .int idt, .int (-1), .int fp, .int 0, .int 0, .int 0])), (st, .inr (4, [.ref u1, .ref f1, .ref g1, .int 0, .int 0, .int 1])), (u1, .inl (cI, 12, .inl uo_3)), (f1, .inl (cI, 10, .inl fo_4)), (g1, .inl (cI, 10, .inl go_5)), (m1, .inl (cI, 10, .inl mo_6)), (d1, .inl (cI, 10, .inl do__7)), (nw, .inr (4, [.ref u2, .ref f2, .ref g2, .int 0, .int 0, .int 1])), (u2, .inl (cI, 12, .inl fu2)), (f2, .inl (cI, 10, .inl ff2)), (g2, .inl (cI, 10, .inl fg2))] := hD
    refine lv_aload_n hx hb dX9_days_20 rfl (lv_at hl 0 rfl) ?_
    refine va_get (D := D) (ci := 9) (v := .ref tl) (C := RX9) (T := TX9) (N := 11) hx hb htb itX9 hown hK hP 0 rfl rfl 8 (by decide) (htb _ k_401) (fun _ h9 => h9) rfl dX9_days_21 ?_
    refine lv_iload_n hx hb dX9_days_24 rfl (lv_at hl 1 rfl) ?_
    refine tv (z := nI N) en ?_
    refine lv_ldc (v := 2147483647) hx hb hown (htb _ k_783) dX9_days_25 ?_
    refine cVI (As := [.int (nI N), .int 2147483647]) (rest := []) (n := 2) (ci := 8) (q0 := 0) (wr := [(h0, .inr (9, [.ref tp, .ref tw, .ref nw, .ref kp, .ref lw, .ref lr, .ref dd, .ref vv, .ref tl, .ref sc, .int 0])), (u1, .inl (cI, 12, .inl uo_3)), (m1, .inl (cI, 10, .inl mo_6)), (d1, .inl (cI, 10, .inl do__7)), (nw, .inr (4, [.ref u2, .ref f2, .ref g2, .int 0, .int 0, .int 1])), (u2, .inl (cI, 12, .inl fu2)), (f2, .inl (cI, 10, .inl ff2)), (g2, .inl (cI, 10, .inl fg2))]) X hN hK hP hD hS hA (c_X8_run l D cI cB _ tl tw lw st m1 c1 d1 (-1) idf idt (-1) fp l1 l2 l3 l4 l5 l6 l7 lz lc t1 t2 t3 t4 u1 f1 g1 N 2147483647 1 fl fo_4 go_5 fc1 hN0 (by decide) hw_8.2.2.1) (gV k_784 k_785 k_786 k_102 k_787) (by decide +kernel) ⟨Nat.le_of_ble_eq_true rfl, Nat.le_of_ble_eq_true rfl⟩ ⟨rfl, rfl⟩ [5, 1, 2, 3, 6, 8, 9, 4] [0, 7, 10, 11, 12, 13, 14, 15] rfl rfl (by decide) (by decide) rfl rfl rfl rfl rfl hl.1 (Nat.le_of_ble_eq_true rfl) dX9_days_27 ⟨Nat.le_of_ble_eq_true rfl, Nat.le_of_ble_eq_true rfl⟩ (fun r_9 u H locs hw_14 hP hD hS => ?_)
    obtain ⟨jo_10, ko_11, lo_12, co_13⟩ := u
    try dsimp only at hw_14
    have hP : va_P D vwCl [(h0, .inr (9, [.ref tp, .ref tw, .ref nw, .ref kp, .ref lw, .ref lr, .ref dd, .ref vv, .ref tl, .ref sc, .int 0])), (u1, .inl (cI, 12, .inl uo_3)), (m1, .inl (cI, 10, .inl mo_6)), (d1, .inl (cI, 10, .inl do__7)), (nw, .inr (4, [.ref u2, .ref f2, .ref g2, .int 0, .int 0, .int 1])), (u2, .inl (cI, 12, .inl fu2)), (f2, .inl (cI, 10, .inl ff2)), (g2, .inl (cI, 10, .inl fg2)), (tl, .inr (8, [.ref tw, .ref lw, .ref st, .ref m1, .ref c1, .ref d1, .int (-1), .int idf, .int idt, .int (-1), .int fp, .int 0, .int 0, .int (nI jo_10)])), (tw, .inr (7, [.int 0, .int 0, .int 0, .ref t1, .ref t2, .ref t3, .ref t4])), (lw, .inr (1, [.ref l1, .ref l2, .ref l3, .ref l4, .ref l5, .ref l6, .ref l7, .int lz, .int lc])), (l6, .inl (cI, 8, .inl lo_12)), (st, .inr (4, [.ref u1, .ref f1, .ref g1, .int 0, .int (nI jo_10), .int (nI ko_11)])), (f1, .inl (cI, 10, .inl fo_4)), (g1, .inl (cI, 10, .inl go_5)), (c1, .inl (cI, 10, .inl co_13))] H := hP
    have hD : va_D A [(h0, .inr (9, [.ref tp, .ref tw, .ref nw, .ref kp, .ref lw, .ref lr, .ref dd, .ref vv, .ref tl, .ref sc, .int 0])), (u1, .inl (cI, 12, .inl uo_3)), (m1, .inl (cI, 10, .inl mo_6)), (d1, .inl (cI, 10, .inl do__7)), (nw, .inr (4, [.ref u2, .ref f2, .ref g2, .int 0, .int 0, .int 1])), (u2, .inl (cI, 12, .inl fu2)), (f2, .inl (cI, 10, .inl ff2)), (g2, .inl (cI, 10, .inl fg2)), (tl, .inr (8, [.ref tw, .ref lw, .ref st, .ref m1, .ref c1, .ref d1, .int (-1), .int idf, .int idt, .int (-1), .int fp, .int 0, .int 0, .int (nI jo_10)])), (tw, .inr (7, [.int 0, .int 0, .int 0, .ref t1, .ref t2, .ref t3, .ref t4])), (lw, .inr (1, [.ref l1, .ref l2, .ref l3, .ref l4, .ref l5, .ref l6, .ref l7, .int lz, .int lc])), (l6, .inl (cI, 8, .inl lo_12)), (st, .inr (4, [.ref u1, .ref f1, .ref g1, .int 0, .int (nI jo_10), .int (nI ko_11)])), (f1, .inl (cI, 10, .inl fo_4)), (g1, .inl (cI, 10, .inl go_5)), (c1, .inl (cI, 10, .inl co_13))] := hD
    refine lv_istore_n (lv' := [(2, .int r_9), (0, .ref h0), (1, .int x1)]) hx hb dX9_days_30 rfl hl (by decide) rfl (fun ls hl => ?_)
    refine lv_aload_n hx hb dX9_days_31 rfl (lv_at hl 1 rfl) ?_
    refine va_get (D := D) (ci := 9) (v := .ref nw) (C := RX9) (T := TX9) (N := 11) hx hb htb itX9 hown hK hP 0 rfl rfl 2 (by decide) (htb _ k_395) (fun _ h9 => h9) rfl dX9_days_32 ?_
    refine lv_aload_n hx hb dX9_days_35 rfl (lv_at hl 1 rfl) ?_
    refine va_get (D := D) (ci := 9) (v := .ref tl) (C := RX9) (T := TX9) (N := 11) hx hb htb itX9 hown hK hP 0 rfl rfl 8 (by decide) (htb _ k_401) (fun _ h9 => h9) rfl dX9_days_36 ?_
    refine va_getN (D := D) (ci := 8) (v := .ref st) (C := RX8) (T := TX8) (N := 14) hx hb htb itX8 hown hK hP 8 rfl rfl 2 (by decide) (va_Nw.use rfl (hN _ n_348 rfl)) (fun _ h9 => h9) rfl dX9_days_39 ?_
    refine cVV (As := [.ref st]) (rest := []) (n := 1) (ci := 4) (q0 := 0) (wr := [(h0, .inr (9, [.ref tp, .ref tw, .ref nw, .ref kp, .ref lw, .ref lr, .ref dd, .ref vv, .ref tl, .ref sc, .int 0])), (m1, .inl (cI, 10, .inl mo_6)), (d1, .inl (cI, 10, .inl do__7)), (tl, .inr (8, [.ref tw, .ref lw, .ref st, .ref m1, .ref c1, .ref d1, .int (-1), .int idf, .int idt, .int (-1), .int fp, .int 0, .int 0, .int (nI jo_10)])), (tw, .inr (7, [.int 0, .int 0, .int 0, .ref t1, .ref t2, .ref t3, .ref t4])), (lw, .inr (1, [.ref l1, .ref l2, .ref l3, .ref l4, .ref l5, .ref l6, .ref l7, .int lz, .int lc])), (l6, .inl (cI, 8, .inl lo_12)), (c1, .inl (cI, 10, .inl co_13))]) X hN hK hP hD hS hA (c_X4_copy l D cI cB _ nw u2 f2 g2 0 0 1 st u1 f1 g1 0 (nI jo_10) (nI ko_11) fu2 ff2 fg2 uo_3 fo_4 go_5 hw_8.1 hw_8.2.1 hw_8.2.2.1) (gV k_849 k_778 k_779 k_95 k_780) (by decide +kernel) ⟨Nat.le_of_ble_eq_true rfl, Nat.le_of_ble_eq_true rfl⟩ ⟨rfl, rfl⟩ [4, 5, 6, 7, 12, 1, 13, 14] [0, 2, 3, 8, 9, 10, 11, 15] rfl rfl (by decide) (by decide) rfl rfl rfl rfl rfl hl.1 (Nat.le_of_ble_eq_true rfl) dX9_days_42 ⟨Nat.le_of_ble_eq_true rfl, Nat.le_of_ble_eq_true rfl⟩ (fun u H locs hw_19 hP hD hS => ?_)
    obtain ⟨uo_16, fo_17, go_18⟩ := u
    try dsimp only at hw_19
    have hP : va_P D vwCl [(h0, .inr (9, [.ref tp, .ref tw, .ref nw, .ref kp, .ref lw, .ref lr, .ref dd, .ref vv, .ref tl, .ref sc, .int 0])), (m1, .inl (cI, 10, .inl mo_6)), (d1, .inl (cI, 10, .inl do__7)), (tl, .inr (8, [.ref tw, .ref lw, .ref st, .ref m1, .ref c1, .ref d1, .int (-1), .int idf, .int idt, .int (-1), .int fp, .int 0, .int 0, .int (nI jo_10)])), (tw, .inr (7, [.int 0, .int 0, .int 0, .ref t1, .ref t2, .ref t3, .ref t4])), (lw, .inr (1, [.ref l1, .ref l2, .ref l3, .ref l4, .ref l5, .ref l6, .ref l7, .int lz, .int lc])), (l6, .inl (cI, 8, .inl lo_12)), (c1, .inl (cI, 10, .inl co_13)), (nw, .inr (4, [.ref u2, .ref f2, .ref g2, .int 0, .int (nI jo_10), .int (nI ko_11)])), (u2, .inl (cI, 12, .inl uo_16)), (f2, .inl (cI, 10, .inl fo_17)), (g2, .inl (cI, 10, .inl go_18)), (st, .inr (4, [.ref u1, .ref f1, .ref g1, .int 0, .int (nI jo_10), .int (nI ko_11)])), (u1, .inl (cI, 12, .inl uo_3)), (f1, .inl (cI, 10, .inl fo_4)), (g1, .inl (cI, 10, .inl go_5))] H := hP
    have hD : va_D A [(h0, .inr (9, [.ref tp, .ref tw, .ref nw, .ref kp, .ref lw, .ref lr, .ref dd, .ref vv, .ref tl, .ref sc, .int 0])), (m1, .inl (cI, 10, .inl mo_6)), (d1, .inl (cI, 10, .inl do__7)), (tl, .inr (8, [.ref tw, .ref lw, .ref st, .ref m1, .ref c1, .ref d1, .int (-1), .int idf, .int idt, .int (-1), .int fp, .int 0, .int 0, .int (nI jo_10)])), (tw, .inr (7, [.int 0, .int 0, .int 0, .ref t1, .ref t2, .ref t3, .ref t4])), (lw, .inr (1, [.ref l1, .ref l2, .ref l3, .ref l4, .ref l5, .ref l6, .ref l7, .int lz, .int lc])), (l6, .inl (cI, 8, .inl lo_12)), (c1, .inl (cI, 10, .inl co_13)), (nw, .inr (4, [.ref u2, .ref f2, .ref g2, .int 0, .int (nI jo_10), .int (nI ko_11)])), (u2, .inl (cI, 12, .inl uo_16)), (f2, .inl (cI, 10, .inl fo_17)), (g2, .inl (cI, 10, .inl go_18)), (st, .inr (4, [.ref u1, .ref f1, .ref g1, .int 0, .int (nI jo_10), .int (nI ko_11)])), (u1, .inl (cI, 12, .inl uo_3)), (f1, .inl (cI, 10, .inl fo_4)), (g1, .inl (cI, 10, .inl go_5))] := hD
    refine lv_iload_n hx hb dX9_days_45 rfl (lv_at hl 0 rfl) ?_
    exact ret _ _ _ _ r_9 () dX9_days_46 rfl (hw_14.1.trans (iI1 (bIt c_4))) (hP.sub [] rfl) (hD.sub [] (by decide) rfl) hS
  · refine lv_iconst (v := (-1)) hx hb dX9_days_7 (by decide) ?_
    exact ret _ _ _ _ (-1) () dX9_days_8 rfl (iI0 (bIf c_4)) (hP.sub [] rfl) (hD.sub [] (by decide) rfl) hS

set_option maxRecDepth 100000 in
set_option maxHeartbeats 4000000 in
theorem c_X9_tried (l : Launch) (D : va_G) (cI cB : ClassId) (sz : Nat) (h0 : Nat) (tp : Nat) (tw : Nat) (nw : Nat) (kp : Nat) (lw : Nat) (lr : Nat) (dd : Nat) (vv : Nat) (tl : Nat) (sc : Nat) (t1 : Nat) (t2 : Nat) (t3 : Nat) (t4 : Nat) (u2 : Nat) (f2 : Nat) (g2 : Nat) (fu2 : Nat → Int32) (ff2 : Nat → Int32) (fg2 : Nat → Int32) (l1 : Nat) (l2 : Nat) (l3 : Nat) (l4 : Nat) (l5 : Nat) (l6 : Nat) (l7 : Nat) (lz : Int32) (lc : Int32) (fl : Nat → Int32) (st : Nat) (m1 : Nat) (c1 : Nat) (d1 : Nat) (idl : Int32) (idf : Int32) (idt : Int32) (fc : Int32) (fp : Int32) (mb : Int32) (ra : Int32) (cl : Int32) (u1 : Nat) (f1 : Nat) (g1 : Nat) (ms : Int32) (dy : Int32) (dr : Int32) (fu : Nat → Int32) (ff : Nat → Int32) (fg : Nat → Int32) (fm : Nat → Int32) (fc1 : Nat → Int32) (fd : Nat → Int32) (x1 : Int32) (x2 : Int32) (hu : ∀ j, j < 12 → fu2 j = 0) (hf : ∀ j, j < 10 → ff2 j = -2) (hg : ∀ j, j < 10 → fg2 j = -2) : MI (S := Unit) l D cI cB yX9_tried cX9_tried 5 .int (rm 4 102) [.ref h0, .int x1, .int x2] [(h0, .inr (9, [.ref tp, .ref tw, .ref nw, .ref kp, .ref lw, .ref lr, .ref dd, .ref vv, .ref tl, .ref sc, .int 0])), (tw, .inr (7, [.int 0, .int 0, .int 0, .ref t1, .ref t2, .ref t3, .ref t4])), (nw, .inr (4, [.ref u2, .ref f2, .ref g2, .int 0, .int 0, .int 1])), (u2, .inl (cI, 12, .inl fu2)), (f2, .inl (cI, 10, .inl ff2)), (g2, .inl (cI, 10, .inl fg2)), (lw, .inr (1, [.ref l1, .ref l2, .ref l3, .ref l4, .ref l5, .ref l6, .ref l7, .int lz, .int lc])), (l6, .inl (cI, 8, .inl fl)), (tl, .inr (8, [.ref tw, .ref lw, .ref st, .ref m1, .ref c1, .ref d1, .int idl, .int idf, .int idt, .int fc, .int fp, .int mb, .int ra, .int cl])), (st, .inr (4, [.ref u1, .ref f1, .ref g1, .int ms, .int dy, .int dr])), (u1, .inl (cI, 12, .inl fu)), (f1, .inl (cI, 10, .inl ff)), (g1, .inl (cI, 10, .inl fg)), (m1, .inl (cI, 10, .inl fm)), (c1, .inl (cI, 10, .inl fc1)), (d1, .inl (cI, 10, .inl fd))] sz (fun r u => r = iI ((1 ≤ x1 ∧ x1 ≤ 60) ∧ (0 ≤ x2 ∧ x2 ≤ 4)) (iI (x2 = 4) x1 0) (-1)) (fun u : Unit => []) := by
  refine MI.of (by decide) (Nat.le_of_ble_eq_true rfl) ?_
  intro p e s m below meth c Q ls A X hin hN hP hK hD hA hl ret
  have hS : va_S A s.heap s.heap [] := va_S.rf
  obtain ⟨hx, hb, hml, hown, htb⟩ := id X
  have hl : lv_has ls 5 [(0, .ref h0), (1, .int x1), (2, .int x2)] := hl
  refine lv_iload_n hx hb dX9_tried_0 rfl (lv_at hl 2 rfl) ?_
  refine lv_iconst (v := 0) hx hb dX9_tried_1 (by decide) ?_
  refine lv_iconst (v := 4) hx hb dX9_tried_2 (by decide) ?_
  refine cSR (As := [.int x2, .int 0, .int 4]) (rest := []) (n := 3) X hN hK hP (c_X9_within l D cI cB x2 0 4) k_431 k_432 k_92 k_433 (by decide +kernel) ⟨Nat.le_of_ble_eq_true rfl, Nat.le_of_ble_eq_true rfl⟩ ⟨rfl, rfl⟩ [] rfl rfl rfl hl.1 (Nat.le_of_ble_eq_true rfl) dX9_tried_3 ⟨Nat.le_of_ble_eq_true rfl, Nat.le_of_ble_eq_true rfl⟩ (fun r_1 hr_1 => ?_)
  subst hr_1
  refine lv_if_ne (tgt := 37) hx hb dX9_tried_6 (by decide) (fun c_6 => ?_) (fun c_6 => ?_)
  · refine lv_iconst (v := 1) hx hb dX9_tried_37 (by decide) ?_
    refine lv_goto (tgt := 42) hx hb dX9_tried_38 (by decide) ?_
    refine lv_istore_n (lv' := [(3, .int 1), (0, .ref h0), (1, .int x1), (2, .int x2)]) hx hb dX9_tried_42 rfl hl (by decide) rfl (fun ls hl => ?_)
    refine lv_iload_n hx hb dX9_tried_43 rfl (lv_at hl 2 rfl) ?_
    refine cSR (As := [.int x1]) (rest := []) (n := 1) X hN hK hP (c_X9_isDayCount l D cI cB x1) k_770 k_771 k_92 k_772 (by decide +kernel) ⟨Nat.le_of_ble_eq_true rfl, Nat.le_of_ble_eq_true rfl⟩ ⟨rfl, rfl⟩ [] rfl rfl rfl hl.1 (Nat.le_of_ble_eq_true rfl) dX9_tried_44 ⟨Nat.le_of_ble_eq_true rfl, Nat.le_of_ble_eq_true rfl⟩ (fun r_2 hr_2 => ?_)
    subst hr_2
    refine lv_if_eq (tgt := 54) hx hb dX9_tried_47 (by decide) (fun c_47 => ?_) (fun c_47 => ?_)
    · refine lv_iconst (v := (-1)) hx hb dX9_tried_54 (by decide) ?_
      exact ret _ _ _ _ (-1) () dX9_tried_55 rfl (iI0 (fun h => bIf c_47 h.1)) (hP.sub [] rfl) (hD.sub [] (by decide) rfl) hS
    · refine lv_iload_n hx hb dX9_tried_50 rfl (lv_at hl 0 rfl) ?_
      refine lv_if_ne (tgt := 56) hx hb dX9_tried_51 (by decide) (fun _ => ?_) (fun c_51 => absurd c_51 (by decide))
      obtain ⟨N, hN0, en⟩ := dcN (k := 60) (by decide) (bIt c_47)
      refine lv_aload_n hx hb dX9_tried_56 rfl (lv_at hl 1 rfl) ?_
      refine va_get (D := D) (ci := 9) (v := .ref tl) (C := RX9) (T := TX9) (N := 11) hx hb htb itX9 hown hK hP 0 rfl rfl 8 (by decide) (htb _ k_401) (fun _ h9 => h9) rfl dX9_tried_57 ?_
      refine lv_aload_n hx hb dX9_tried_60 rfl (lv_at hl 1 rfl) ?_
      refine va_get (D := D) (ci := 9) (v := .ref nw) (C := RX9) (T := TX9) (N := 11) hx hb htb itX9 hown hK hP 0 rfl rfl 2 (by decide) (htb _ k_395) (fun _ h9 => h9) rfl dX9_tried_61 ?_
      refine cVV (As := [.ref nw]) (rest := []) (n := 1) (ci := 8) (q0 := 0) (wr := [(h0, .inr (9, [.ref tp, .ref tw, .ref nw, .ref kp, .ref lw, .ref lr, .ref dd, .ref vv, .ref tl, .ref sc, .int 0])), (tw, .inr (7, [.int 0, .int 0, .int 0, .ref t1, .ref t2, .ref t3, .ref t4])), (lw, .inr (1, [.ref l1, .ref l2, .ref l3, .ref l4, .ref l5, .ref l6, .ref l7, .int lz, .int lc])), (l6, .inl (cI, 8, .inl fl)), (c1, .inl (cI, 10, .inl fc1))]) X hN hK hP hD hS hA (c_X8_begin l D cI cB _ tl tw lw st m1 c1 d1 idl idf idt fc fp mb ra cl u1 f1 g1 ms dy dr nw u2 f2 g2 1 fu ff fg fm fd fu2 ff2 fg2 hu hf hg) (gV k_773 k_774 k_775 k_102 k_776) (by decide +kernel) ⟨Nat.le_of_ble_eq_true rfl, Nat.le_of_ble_eq_true rfl⟩ ⟨rfl, rfl⟩ [8, 9, 10, 11, 12, 13, 15, 2, 3, 4, 5] [0, 1, 6, 7, 14] rfl rfl (by decide) (by decide) rfl rfl rfl rfl rfl hl.1 (Nat.le_of_ble_eq_true rfl) dX9_tried_64 ⟨Nat.le_of_ble_eq_true rfl, Nat.le_of_ble_eq_true rfl⟩ (fun u H locs hw_9 hP hD hS => ?_)
      obtain ⟨uo_4, fo_5, go_6, mo_7, do__8⟩ := u
      try dsimp only at hw_9
      have hP : va_P D vwCl [(h0, .inr (9, [.ref tp, .ref tw, .ref nw, .ref kp, .ref lw, .ref lr, .ref dd, .ref vv, .ref tl, .ref sc, .int 0])), (tw, .inr (7, [.int 0, .int 0, .int 0, .ref t1, .ref t2, .ref t3, .ref t4])), (lw, .inr (1, [.ref l1, .ref l2, .ref l3, .ref l4, .ref l5, .ref l6, .ref l7, .int lz, .int lc])), (l6, .inl (cI, 8, .inl fl)), (c1, .inl (cI, 10, .inl fc1)), (tl, .inr (8, [.ref tw, .ref lw, .ref st, .ref m1, .ref c1, .ref d1, .int (-1), .int idf, .int idt, .int (-1), .int fp, .int 0, .int 0, .int 0])), (st, .inr (4, [.ref u1, .ref f1, .ref g1, .int 0, .int 0, .int 1])), (u1, .inl (cI, 12, .inl uo_4)), (f1, .inl (cI, 10, .inl fo_5)), (g1, .inl (cI, 10, .inl go_6)), (m1, .inl (cI, 10, .inl mo_7)), (d1, .inl (cI, 10, .inl do__8)), (nw, .inr (4, [.ref u2, .ref f2, .ref g2, .int 0, .int 0, .int 1])), (u2, .inl (cI, 12, .inl fu2)), (f2, .inl (cI, 10, .inl ff2)), (g2, .inl (cI, 10, .inl fg2))] H := hP
      have hD : va_D A [(h0, .inr (9, [.ref tp, .ref tw, .ref nw, .ref kp, .ref lw, .ref lr, .ref dd, .ref vv, .ref tl, .ref sc, .int 0])), (tw, .inr (7, [.int 0, .int 0, .int 0, .ref t1, .ref t2, .ref t3, .ref t4])), (lw, .inr (1, [.ref l1, .ref l2, .ref l3, .ref l4, .ref l5, .ref l6, .ref l7, .int lz, .int lc])), (l6, .inl (cI, 8, .inl fl)), (c1, .inl (cI, 10, .inl fc1)), (tl, .inr (8, [.ref tw, .ref lw, .ref st, .ref m1, .ref c1, .ref d1, .int (-1), .int idf, .int idt, .int (-1), .int fp, .int 0, .int 0, .int 0])), (st, .inr (4, [.ref u1, .ref f1, .ref g1, .int 0, .int 0, .int 1])), (u1, .inl (cI, 12, .inl uo_4)), (f1, .inl (cI, 10, .inl fo_5)), (g1, .inl (cI, 10, .inl go_6)), (m1, .inl (cI, 10, .inl mo_7)), (d1, .inl (cI, 10, .inl do__8)), (nw, .inr (4, [.ref u2, .ref f2, .ref g2, .int 0, .int 0, .int 1])), (u2, .inl (cI, 12, .inl fu2)), (f2, .inl (cI, 10, .inl ff2)), (g2, .inl (cI, 10, .inl fg2))] := hD
      refine lv_aload_n hx hb dX9_tried_67 rfl (lv_at hl 1 rfl) ?_
      refine va_get (D := D) (ci := 9) (v := .ref tl) (C := RX9) (T := TX9) (N := 11) hx hb htb itX9 hown hK hP 0 rfl rfl 8 (by decide) (htb _ k_401) (fun _ h9 => h9) rfl dX9_tried_68 ?_
      refine lv_iload_n hx hb dX9_tried_71 rfl (lv_at hl 2 rfl) ?_
      refine tv (z := nI N) en ?_
      refine lv_ldc (v := 2147483647) hx hb hown (htb _ k_783) dX9_tried_72 ?_
      refine cVI (As := [.int (nI N), .int 2147483647]) (rest := []) (n := 2) (ci := 8) (q0 := 0) (wr := [(h0, .inr (9, [.ref tp, .ref tw, .ref nw, .ref kp, .ref lw, .ref lr, .ref dd, .ref vv, .ref tl, .ref sc, .int 0])), (u1, .inl (cI, 12, .inl uo_4)), (m1, .inl (cI, 10, .inl mo_7)), (d1, .inl (cI, 10, .inl do__8)), (nw, .inr (4, [.ref u2, .ref f2, .ref g2, .int 0, .int 0, .int 1])), (u2, .inl (cI, 12, .inl fu2)), (f2, .inl (cI, 10, .inl ff2)), (g2, .inl (cI, 10, .inl fg2))]) X hN hK hP hD hS hA (c_X8_run l D cI cB _ tl tw lw st m1 c1 d1 (-1) idf idt (-1) fp l1 l2 l3 l4 l5 l6 l7 lz lc t1 t2 t3 t4 u1 f1 g1 N 2147483647 1 fl fo_5 go_6 fc1 hN0 (by decide) hw_9.2.2.1) (gV k_784 k_785 k_786 k_102 k_787) (by decide +kernel) ⟨Nat.le_of_ble_eq_true rfl, Nat.le_of_ble_eq_true rfl⟩ ⟨rfl, rfl⟩ [5, 1, 2, 3, 6, 8, 9, 4] [0, 7, 10, 11, 12, 13, 14, 15] rfl rfl (by decide) (by decide) rfl rfl rfl rfl rfl hl.1 (Nat.le_of_ble_eq_true rfl) dX9_tried_74 ⟨Nat.le_of_ble_eq_true rfl, Nat.le_of_ble_eq_true rfl⟩ (fun r_10 u H locs hw_15 hP hD hS => ?_)
      obtain ⟨jo_11, ko_12, lo_13, co_14⟩ := u
      try dsimp only at hw_15
      have hP : va_P D vwCl [(h0, .inr (9, [.ref tp, .ref tw, .ref nw, .ref kp, .ref lw, .ref lr, .ref dd, .ref vv, .ref tl, .ref sc, .int 0])), (u1, .inl (cI, 12, .inl uo_4)), (m1, .inl (cI, 10, .inl mo_7)), (d1, .inl (cI, 10, .inl do__8)), (nw, .inr (4, [.ref u2, .ref f2, .ref g2, .int 0, .int 0, .int 1])), (u2, .inl (cI, 12, .inl fu2)), (f2, .inl (cI, 10, .inl ff2)), (g2, .inl (cI, 10, .inl fg2)), (tl, .inr (8, [.ref tw, .ref lw, .ref st, .ref m1, .ref c1, .ref d1, .int (-1), .int idf, .int idt, .int (-1), .int fp, .int 0, .int 0, .int (nI jo_11)])), (tw, .inr (7, [.int 0, .int 0, .int 0, .ref t1, .ref t2, .ref t3, .ref t4])), (lw, .inr (1, [.ref l1, .ref l2, .ref l3, .ref l4, .ref l5, .ref l6, .ref l7, .int lz, .int lc])), (l6, .inl (cI, 8, .inl lo_13)), (st, .inr (4, [.ref u1, .ref f1, .ref g1, .int 0, .int (nI jo_11), .int (nI ko_12)])), (f1, .inl (cI, 10, .inl fo_5)), (g1, .inl (cI, 10, .inl go_6)), (c1, .inl (cI, 10, .inl co_14))] H := hP
      have hD : va_D A [(h0, .inr (9, [.ref tp, .ref tw, .ref nw, .ref kp, .ref lw, .ref lr, .ref dd, .ref vv, .ref tl, .ref sc, .int 0])), (u1, .inl (cI, 12, .inl uo_4)), (m1, .inl (cI, 10, .inl mo_7)), (d1, .inl (cI, 10, .inl do__8)), (nw, .inr (4, [.ref u2, .ref f2, .ref g2, .int 0, .int 0, .int 1])), (u2, .inl (cI, 12, .inl fu2)), (f2, .inl (cI, 10, .inl ff2)), (g2, .inl (cI, 10, .inl fg2)), (tl, .inr (8, [.ref tw, .ref lw, .ref st, .ref m1, .ref c1, .ref d1, .int (-1), .int idf, .int idt, .int (-1), .int fp, .int 0, .int 0, .int (nI jo_11)])), (tw, .inr (7, [.int 0, .int 0, .int 0, .ref t1, .ref t2, .ref t3, .ref t4])), (lw, .inr (1, [.ref l1, .ref l2, .ref l3, .ref l4, .ref l5, .ref l6, .ref l7, .int lz, .int lc])), (l6, .inl (cI, 8, .inl lo_13)), (st, .inr (4, [.ref u1, .ref f1, .ref g1, .int 0, .int (nI jo_11), .int (nI ko_12)])), (f1, .inl (cI, 10, .inl fo_5)), (g1, .inl (cI, 10, .inl go_6)), (c1, .inl (cI, 10, .inl co_14))] := hD
      refine lv_istore (lv' := [(4, .int r_10), (3, .int 1), (0, .ref h0), (1, .int x1), (2, .int x2)]) hx hb dX9_tried_77 hl (by decide) rfl (fun ls hl => ?_)
      refine lv_iload_n hx hb dX9_tried_79 rfl (lv_at hl 4 rfl) ?_
      by_cases e80_0 : x2 = 0
      · subst e80_0
        refine lv_tableIn (off := 36) (tgt := 116) hx hb dX9_tried_80 (by decide) (by decide) (by decide) (by decide) ?_
        refine lv_iload hx hb dX9_tried_116 (lv_at hl 0 rfl) ?_
        exact ret _ _ _ _ r_10 () dX9_tried_118 rfl (hw_15.1.trans ((iI0 (x := x1) (by decide)).trans (iI1 ⟨bIt c_47, bIt c_6⟩))) (hP.sub [] rfl) (hD.sub [] (by decide) rfl) hS
      by_cases e80_1 : x2 = 1
      · subst e80_1
        refine lv_tableIn (off := 39) (tgt := 119) hx hb dX9_tried_80 (by decide) (by decide) (by decide) (by decide) ?_
        refine lv_aload_n hx hb dX9_tried_119 rfl (lv_at hl 2 rfl) ?_
        refine va_get (D := D) (ci := 9) (v := .ref tl) (C := RX9) (T := TX9) (N := 11) hx hb htb itX9 hown hK hP 0 rfl rfl 8 (by decide) (htb _ k_401) (fun _ h9 => h9) rfl dX9_tried_120 ?_
        refine va_getN (D := D) (ci := 8) (v := .int 0) (C := RX8) (T := TX8) (N := 14) hx hb htb itX8 hown hK hP 8 rfl rfl 12 (by decide) (va_Nw.use rfl (hN _ n_361 rfl)) (fun _ h9 => h9) rfl dX9_tried_123 ?_
        exact ret _ _ _ _ 0 () dX9_tried_126 rfl ((iI0 (x := x1) (by decide)).trans (iI1 ⟨bIt c_47, bIt c_6⟩)) (hP.sub [] rfl) (hD.sub [] (by decide) rfl) hS
      by_cases e80_2 : x2 = 2
      · subst e80_2
        refine lv_tableIn (off := 47) (tgt := 127) hx hb dX9_tried_80 (by decide) (by decide) (by decide) (by decide) ?_
        refine lv_aload_n hx hb dX9_tried_127 rfl (lv_at hl 2 rfl) ?_
        refine va_get (D := D) (ci := 9) (v := .ref tl) (C := RX9) (T := TX9) (N := 11) hx hb htb itX9 hown hK hP 0 rfl rfl 8 (by decide) (htb _ k_401) (fun _ h9 => h9) rfl dX9_tried_128 ?_
        refine va_getN (D := D) (ci := 8) (v := .ref st) (C := RX8) (T := TX8) (N := 14) hx hb htb itX8 hown hK hP 8 rfl rfl 2 (by decide) (va_Nw.use rfl (hN _ n_348 rfl)) (fun _ h9 => h9) rfl dX9_tried_131 ?_
        refine cVR (As := []) (rest := []) (n := 0) (ci := 4) (q0 := 0) X hN hK hP (c_X4_allUndone l D cI cB st u1 f1 g1 0 (nI jo_11) (nI ko_12) uo_4 hw_9.1) (gV k_863 k_864 k_865 k_95 k_866) (by decide +kernel) ⟨Nat.le_of_ble_eq_true rfl, Nat.le_of_ble_eq_true rfl⟩ ⟨rfl, rfl⟩ [12, 1] rfl rfl rfl rfl rfl rfl hl.1 (Nat.le_of_ble_eq_true rfl) dX9_tried_134 ⟨Nat.le_of_ble_eq_true rfl, Nat.le_of_ble_eq_true rfl⟩ (fun r_16 hr_16 => ?_)
        subst hr_16
        exact ret _ _ _ _ 0 () dX9_tried_137 rfl ((iI0 (x := x1) (by decide)).trans (iI1 ⟨bIt c_47, bIt c_6⟩)) (hP.sub [] rfl) (hD.sub [] (by decide) rfl) hS
      by_cases e80_3 : x2 = 3
      · subst e80_3
        refine lv_tableIn (off := 58) (tgt := 138) hx hb dX9_tried_80 (by decide) (by decide) (by decide) (by decide) ?_
        refine lv_aload_n hx hb dX9_tried_138 rfl (lv_at hl 2 rfl) ?_
        refine va_get (D := D) (ci := 9) (v := .ref tl) (C := RX9) (T := TX9) (N := 11) hx hb htb itX9 hown hK hP 0 rfl rfl 8 (by decide) (htb _ k_401) (fun _ h9 => h9) rfl dX9_tried_139 ?_
        refine cVR (As := []) (rest := []) (n := 0) (ci := 8) (q0 := 0) X hN hK hP (c_X8_allDone l D cI cB tl tw lw st m1 c1 d1 (-1) idf idt (-1) fp 0 0 (nI jo_11) do__8 hw_9.2.2.2.2) (gV k_867 k_868 k_869 k_102 k_870) (by decide +kernel) ⟨Nat.le_of_ble_eq_true rfl, Nat.le_of_ble_eq_true rfl⟩ ⟨rfl, rfl⟩ [8, 3] rfl rfl rfl rfl rfl rfl hl.1 (Nat.le_of_ble_eq_true rfl) dX9_tried_142 ⟨Nat.le_of_ble_eq_true rfl, Nat.le_of_ble_eq_true rfl⟩ (fun r_17 hr_17 => ?_)
        subst hr_17
        exact ret _ _ _ _ 0 () dX9_tried_145 rfl ((iI0 (x := x1) (by decide)).trans (iI1 ⟨bIt c_47, bIt c_6⟩)) (hP.sub [] rfl) (hD.sub [] (by decide) rfl) hS
      by_cases e80_4 : x2 = 4
      · subst e80_4
        refine lv_tableIn (off := 66) (tgt := 146) hx hb dX9_tried_80 (by decide) (by decide) (by decide) (by decide) ?_
        refine lv_aload_n hx hb dX9_tried_146 rfl (lv_at hl 2 rfl) ?_
        refine va_get (D := D) (ci := 9) (v := .ref tl) (C := RX9) (T := TX9) (N := 11) hx hb htb itX9 hown hK hP 0 rfl rfl 8 (by decide) (htb _ k_401) (fun _ h9 => h9) rfl dX9_tried_147 ?_
        refine va_getN (D := D) (ci := 8) (v := .int (nI jo_11)) (C := RX8) (T := TX8) (N := 14) hx hb htb itX8 hown hK hP 8 rfl rfl 13 (by decide) (va_Nw.use rfl (hN _ n_363 rfl)) (fun _ h9 => h9) rfl dX9_tried_150 ?_
        exact ret _ _ _ _ (nI jo_11) () dX9_tried_153 rfl (Eq.trans (by rw [hw_15.2.2.1 (by decide)]; exact en.symm) ((iI1 (z := 0) rfl).trans (iI1 ⟨bIt c_47, bIt c_6⟩))) (hP.sub [] rfl) (hD.sub [] (by decide) rfl) hS
      (obtain ⟨j, hj, rfl⟩ := inN (k := 4) (by decide) (bIt c_6); exact absurd ⟨e80_0, e80_1, e80_2, e80_3, e80_4⟩ (c5 hj))
  · refine lv_aload_n hx hb dX9_tried_9 rfl (lv_at hl 0 rfl) ?_
    refine va_get (D := D) (ci := 9) (v := .ref tw) (C := RX9) (T := TX9) (N := 11) hx hb htb itX9 hown hK hP 0 rfl rfl 1 (by decide) (htb _ k_394) (fun _ h9 => h9) rfl dX9_tried_10 ?_
    refine lv_iload_n hx hb dX9_tried_13 rfl (lv_at hl 2 rfl) ?_
    refine lv_bipush (v := 10) hx hb dX9_tried_14 (by decide) ?_
    refine lv_isub hx hb dX9_tried_16 ?_
    refine cVR (As := [.int (x2 - 10)]) (rest := []) (n := 1) (ci := 7) (q0 := 0) X hN hK hP (c_X7_hasChore l D cI cB tw 0 t1 t2 t3 t4 (x2 - 10)) (gV k_854 k_855 k_856 k_94 k_857) (by decide +kernel) ⟨Nat.le_of_ble_eq_true rfl, Nat.le_of_ble_eq_true rfl⟩ ⟨rfl, rfl⟩ [1] rfl rfl rfl rfl rfl rfl hl.1 (Nat.le_of_ble_eq_true rfl) dX9_tried_17 ⟨Nat.le_of_ble_eq_true rfl, Nat.le_of_ble_eq_true rfl⟩ (fun r_18 hr_18 => ?_)
    subst hr_18
    refine lv_if_ne (tgt := 37) hx hb dX9_tried_20 (by decide) (fun c_20 => absurd (by decide) c_20) (fun _ => ?_)
    refine lv_aload_n hx hb dX9_tried_23 rfl (lv_at hl 0 rfl) ?_
    refine va_get (D := D) (ci := 9) (v := .ref tw) (C := RX9) (T := TX9) (N := 11) hx hb htb itX9 hown hK hP 0 rfl rfl 1 (by decide) (htb _ k_394) (fun _ h9 => h9) rfl dX9_tried_24 ?_
    refine lv_iload_n hx hb dX9_tried_27 rfl (lv_at hl 2 rfl) ?_
    refine lv_bipush (v := 30) hx hb dX9_tried_28 (by decide) ?_
    refine lv_isub hx hb dX9_tried_30 ?_
    refine cVR (As := [.int (x2 - 30)]) (rest := []) (n := 1) (ci := 7) (q0 := 0) X hN hK hP (c_X7_hasPerson l D cI cB tw 0 t1 t2 t3 t4 (x2 - 30)) (gV k_859 k_860 k_861 k_94 k_862) (by decide +kernel) ⟨Nat.le_of_ble_eq_true rfl, Nat.le_of_ble_eq_true rfl⟩ ⟨rfl, rfl⟩ [1] rfl rfl rfl rfl rfl rfl hl.1 (Nat.le_of_ble_eq_true rfl) dX9_tried_31 ⟨Nat.le_of_ble_eq_true rfl, Nat.le_of_ble_eq_true rfl⟩ (fun r_19 hr_19 => ?_)
    subst hr_19
    refine lv_if_eq (tgt := 41) hx hb dX9_tried_34 (by decide) (fun _ => ?_) (fun c_34 => absurd (by decide) c_34)
    refine lv_iconst (v := 0) hx hb dX9_tried_41 (by decide) ?_
    refine lv_istore_n (lv' := [(3, .int 0), (0, .ref h0), (1, .int x1), (2, .int x2)]) hx hb dX9_tried_42 rfl hl (by decide) rfl (fun ls hl => ?_)
    refine lv_iload_n hx hb dX9_tried_43 rfl (lv_at hl 2 rfl) ?_
    refine cSR (As := [.int x1]) (rest := []) (n := 1) X hN hK hP (c_X9_isDayCount l D cI cB x1) k_770 k_771 k_92 k_772 (by decide +kernel) ⟨Nat.le_of_ble_eq_true rfl, Nat.le_of_ble_eq_true rfl⟩ ⟨rfl, rfl⟩ [] rfl rfl rfl hl.1 (Nat.le_of_ble_eq_true rfl) dX9_tried_44 ⟨Nat.le_of_ble_eq_true rfl, Nat.le_of_ble_eq_true rfl⟩ (fun r_20 hr_20 => ?_)
    subst hr_20
    refine lv_if_eq (tgt := 54) hx hb dX9_tried_47 (by decide) (fun c_47 => ?_) (fun c_47 => ?_)
    · refine lv_iconst (v := (-1)) hx hb dX9_tried_54 (by decide) ?_
      exact ret _ _ _ _ (-1) () dX9_tried_55 rfl (iI0 (fun h => bIf c_47 h.1)) (hP.sub [] rfl) (hD.sub [] (by decide) rfl) hS
    · refine lv_iload_n hx hb dX9_tried_50 rfl (lv_at hl 0 rfl) ?_
      refine lv_if_ne (tgt := 56) hx hb dX9_tried_51 (by decide) (fun c_51 => absurd (by decide) c_51) (fun _ => ?_)
      refine lv_iconst (v := (-1)) hx hb dX9_tried_54 (by decide) ?_
      exact ret _ _ _ _ (-1) () dX9_tried_55 rfl (iI0 (fun h => bIf c_6 h.2)) (hP.sub [] rfl) (hD.sub [] (by decide) rfl) hS

set_option maxRecDepth 100000 in
set_option maxHeartbeats 4000000 in
theorem c_X9_cost (l : Launch) (D : va_G) (cI cB : ClassId) (sz : Nat) (h0 : Nat) (tp : Nat) (tw : Nat) (nw : Nat) (kp : Nat) (lw : Nat) (lr : Nat) (dd : Nat) (vv : Nat) (tl : Nat) (sc : Nat) (t1 : Nat) (t2 : Nat) (t3 : Nat) (t4 : Nat) (u2 : Nat) (f2 : Nat) (g2 : Nat) (fu2 : Nat → Int32) (ff2 : Nat → Int32) (fg2 : Nat → Int32) (l1 : Nat) (l2 : Nat) (l3 : Nat) (l4 : Nat) (l5 : Nat) (l6 : Nat) (l7 : Nat) (lz : Int32) (lc : Int32) (fl : Nat → Int32) (st : Nat) (m1 : Nat) (c1 : Nat) (d1 : Nat) (idl : Int32) (idf : Int32) (idt : Int32) (fc : Int32) (fp : Int32) (mb : Int32) (ra : Int32) (cl : Int32) (u1 : Nat) (f1 : Nat) (g1 : Nat) (ms : Int32) (dy : Int32) (dr : Int32) (fu : Nat → Int32) (ff : Nat → Int32) (fg : Nat → Int32) (fm : Nat → Int32) (fc1 : Nat → Int32) (fd : Nat → Int32) (x1 : Int32) (x2 : Int32) (hu : ∀ j, j < 12 → fu2 j = 0) (hf : ∀ j, j < 10 → ff2 j = -2) (hg : ∀ j, j < 10 → fg2 j = -2) : MI (S := Unit) l D cI cB yX9_cost cX9_cost 3 .int (rm 5 127) [.ref h0, .int x1, .int x2] [(h0, .inr (9, [.ref tp, .ref tw, .ref nw, .ref kp, .ref lw, .ref lr, .ref dd, .ref vv, .ref tl, .ref sc, .int 0])), (tw, .inr (7, [.int 0, .int 0, .int 0, .ref t1, .ref t2, .ref t3, .ref t4])), (nw, .inr (4, [.ref u2, .ref f2, .ref g2, .int 0, .int 0, .int 1])), (u2, .inl (cI, 12, .inl fu2)), (f2, .inl (cI, 10, .inl ff2)), (g2, .inl (cI, 10, .inl fg2)), (lw, .inr (1, [.ref l1, .ref l2, .ref l3, .ref l4, .ref l5, .ref l6, .ref l7, .int lz, .int lc])), (l6, .inl (cI, 8, .inl fl)), (tl, .inr (8, [.ref tw, .ref lw, .ref st, .ref m1, .ref c1, .ref d1, .int idl, .int idf, .int idt, .int fc, .int fp, .int mb, .int ra, .int cl])), (st, .inr (4, [.ref u1, .ref f1, .ref g1, .int ms, .int dy, .int dr])), (u1, .inl (cI, 12, .inl fu)), (f1, .inl (cI, 10, .inl ff)), (g1, .inl (cI, 10, .inl fg)), (m1, .inl (cI, 10, .inl fm)), (c1, .inl (cI, 10, .inl fc1)), (d1, .inl (cI, 10, .inl fd))] sz (fun r u => r = iI ((1 ≤ x2 ∧ x2 ≤ 60) ∧ x1 = 0) 0 (-1)) (fun u : Unit => []) := by
  refine MI.of (by decide) (Nat.le_of_ble_eq_true rfl) ?_
  intro p e s m below meth c Q ls A X hin hN hP hK hD hA hl ret
  have hS : va_S A s.heap s.heap [] := va_S.rf
  obtain ⟨hx, hb, hml, hown, htb⟩ := id X
  have hl : lv_has ls 3 [(0, .ref h0), (1, .int x1), (2, .int x2)] := hl
  refine lv_iload_n hx hb dX9_cost_0 rfl (lv_at hl 2 rfl) ?_
  refine cSR (As := [.int x2]) (rest := []) (n := 1) X hN hK hP (c_X9_isDayCount l D cI cB x2) k_770 k_771 k_92 k_772 (by decide +kernel) ⟨Nat.le_of_ble_eq_true rfl, Nat.le_of_ble_eq_true rfl⟩ ⟨rfl, rfl⟩ [] rfl rfl rfl hl.1 (Nat.le_of_ble_eq_true rfl) dX9_cost_1 ⟨Nat.le_of_ble_eq_true rfl, Nat.le_of_ble_eq_true rfl⟩ (fun r_1 hr_1 => ?_)
  subst hr_1
  refine lv_if_eq (tgt := 27) hx hb dX9_cost_4 (by decide) (fun c_4 => ?_) (fun c_4 => ?_)
  · refine lv_iconst (v := (-1)) hx hb dX9_cost_27 (by decide) ?_
    exact ret _ _ _ _ (-1) () dX9_cost_28 rfl (iI0 (fun h => bIf c_4 h.1)) (hP.sub [] rfl) (hD.sub [] (by decide) rfl) hS
  · refine lv_aload_n hx hb dX9_cost_7 rfl (lv_at hl 0 rfl) ?_
    refine lv_iload_n hx hb dX9_cost_8 rfl (lv_at hl 1 rfl) ?_
    refine cVR (As := [.int x1]) (rest := []) (n := 1) (ci := 9) (q0 := 0) X hN hK hP (c_X9_areTold l D cI cB h0 tp tw nw kp lw lr dd vv tl sc t1 t2 t3 t4 x1) (gV k_893 k_895 k_20 k_92 k_896) (by decide +kernel) ⟨Nat.le_of_ble_eq_true rfl, Nat.le_of_ble_eq_true rfl⟩ ⟨rfl, rfl⟩ [0, 1] rfl rfl rfl rfl rfl rfl hl.1 (Nat.le_of_ble_eq_true rfl) dX9_cost_9 ⟨Nat.le_of_ble_eq_true rfl, Nat.le_of_ble_eq_true rfl⟩ (fun r_2 hr_2 => ?_)
    subst hr_2
    refine lv_if_eq (tgt := 27) hx hb dX9_cost_12 (by decide) (fun c_12 => ?_) (fun c_12 => ?_)
    · refine lv_iconst (v := (-1)) hx hb dX9_cost_27 (by decide) ?_
      exact ret _ _ _ _ (-1) () dX9_cost_28 rfl (iI0 (fun h => bIf c_12 h.2)) (hP.sub [] rfl) (hD.sub [] (by decide) rfl) hS
    · obtain ⟨N, hN0, en⟩ := dcN (k := 60) (by decide) (bIt c_4)
      refine lv_aload_n hx hb dX9_cost_15 rfl (lv_at hl 0 rfl) ?_
      refine lv_iload_n hx hb dX9_cost_16 rfl (lv_at hl 1 rfl) ?_
      refine lv_iload_n hx hb dX9_cost_17 rfl (lv_at hl 2 rfl) ?_
      refine tv (z := nI N) en ?_
      refine lv_iconst (v := (-1)) hx hb dX9_cost_18 (by decide) ?_
      refine lv_iconst (v := (-1)) hx hb dX9_cost_19 (by decide) ?_
      refine lv_iconst (v := (-1)) hx hb dX9_cost_20 (by decide) ?_
      refine cVI (As := [.int x1, .int (nI N), .int (-1), .int (-1), .int (-1)]) (rest := []) (n := 5) (ci := 9) (q0 := 0) (wr := []) X hN hK hP hD hS hA (c_X9_costIf l D cI cB _ h0 tp tw nw kp lw lr dd vv tl sc t1 t2 t3 t4 u2 f2 g2 fu2 ff2 fg2 l1 l2 l3 l4 l5 l6 l7 lz lc fl st m1 c1 d1 idl idf idt fc fp mb ra cl u1 f1 g1 ms dy dr fu ff fg fm fc1 fd N x1 hu hf hg hN0) (gV k_897 k_899 k_21 k_92 k_900) (by decide +kernel) ⟨Nat.le_of_ble_eq_true rfl, Nat.le_of_ble_eq_true rfl⟩ ⟨rfl, rfl⟩ [0, 1, 2, 3, 4, 5, 6, 7, 8, 9, 10, 11, 12, 13, 14, 15] [] rfl rfl (by decide) (by decide) rfl rfl rfl rfl rfl hl.1 (Nat.le_of_ble_eq_true rfl) dX9_cost_21 ⟨Nat.le_of_ble_eq_true rfl, Nat.le_of_ble_eq_true rfl⟩ (fun r_3 u H locs hw_4 hP hD hS => ?_)
      try dsimp only at hw_4
      have hP : va_P D vwCl [] H := hP
      have hD : va_D A [] := hD
      refine lv_goto (tgt := 28) hx hb dX9_cost_24 (by decide) ?_
      exact ret _ _ _ _ r_3 () dX9_cost_28 rfl (hw_4.trans (iI1 ⟨bIt c_4, bIt c_12⟩)) (hP.sub [] rfl) (hD.sub [] (by decide) rfl) hS

set_option maxRecDepth 100000 in
set_option maxHeartbeats 4000000 in
theorem c_X9_holds (l : Launch) (D : va_G) (cI cB : ClassId) (sz : Nat) (h0 : Nat) (tp : Nat) (tw : Nat) (nw : Nat) (kp : Nat) (lw : Nat) (lr : Nat) (dd : Nat) (vv : Nat) (tl : Nat) (sc : Nat) (t1 : Nat) (t2 : Nat) (t3 : Nat) (t4 : Nat) (u2 : Nat) (f2 : Nat) (g2 : Nat) (fu2 : Nat → Int32) (ff2 : Nat → Int32) (fg2 : Nat → Int32) (l1 : Nat) (l2 : Nat) (l3 : Nat) (l4 : Nat) (l5 : Nat) (l6 : Nat) (l7 : Nat) (lz : Int32) (lc : Int32) (fl : Nat → Int32) (st : Nat) (m1 : Nat) (c1 : Nat) (d1 : Nat) (idl : Int32) (idf : Int32) (idt : Int32) (fc : Int32) (fp : Int32) (mb : Int32) (ra : Int32) (cl : Int32) (u1 : Nat) (f1 : Nat) (g1 : Nat) (ms : Int32) (dy : Int32) (dr : Int32) (fu : Nat → Int32) (ff : Nat → Int32) (fg : Nat → Int32) (fm : Nat → Int32) (fc1 : Nat → Int32) (fd : Nat → Int32) (x1 : Int32) (x2 : Int32) (x3 : Int32) (hu : ∀ j, j < 12 → fu2 j = 0) (hf : ∀ j, j < 10 → ff2 j = -2) (hg : ∀ j, j < 10 → fg2 j = -2) : MI (S := Unit) l D cI cB yX9_holds cX9_holds 8 .int (rm 5 126) [.ref h0, .int x1, .int x2, .int x3] [(h0, .inr (9, [.ref tp, .ref tw, .ref nw, .ref kp, .ref lw, .ref lr, .ref dd, .ref vv, .ref tl, .ref sc, .int 0])), (tw, .inr (7, [.int 0, .int 0, .int 0, .ref t1, .ref t2, .ref t3, .ref t4])), (nw, .inr (4, [.ref u2, .ref f2, .ref g2, .int 0, .int 0, .int 1])), (u2, .inl (cI, 12, .inl fu2)), (f2, .inl (cI, 10, .inl ff2)), (g2, .inl (cI, 10, .inl fg2)), (lw, .inr (1, [.ref l1, .ref l2, .ref l3, .ref l4, .ref l5, .ref l6, .ref l7, .int lz, .int lc])), (l6, .inl (cI, 8, .inl fl)), (tl, .inr (8, [.ref tw, .ref lw, .ref st, .ref m1, .ref c1, .ref d1, .int idl, .int idf, .int idt, .int fc, .int fp, .int mb, .int ra, .int cl])), (st, .inr (4, [.ref u1, .ref f1, .ref g1, .int ms, .int dy, .int dr])), (u1, .inl (cI, 12, .inl fu)), (f1, .inl (cI, 10, .inl ff)), (g1, .inl (cI, 10, .inl fg)), (m1, .inl (cI, 10, .inl fm)), (c1, .inl (cI, 10, .inl fc1)), (d1, .inl (cI, 10, .inl fd))] sz (fun r u => r = iI ((1 ≤ x1 ∧ x1 ≤ 20) ∧ (0 ≤ x2 ∧ x2 ≤ 999999) ∧ (0 ≤ x3 ∧ x3 ≤ 1)) (iI (x2 = 0) 0 (-2)) (-1)) (fun u : Unit => []) := by
  refine MI.of (by decide) (Nat.le_of_ble_eq_true rfl) ?_
  intro p e s m below meth c Q ls A X hin hN hP hK hD hA hl ret
  have hS : va_S A s.heap s.heap [] := va_S.rf
  obtain ⟨hx, hb, hml, hown, htb⟩ := id X
  have hl : lv_has ls 8 [(0, .ref h0), (1, .int x1), (2, .int x2), (3, .int x3)] := hl
  refine lv_iload_n hx hb dX9_holds_0 rfl (lv_at hl 1 rfl) ?_
  refine lv_iconst (v := 1) hx hb dX9_holds_1 (by decide) ?_
  refine lv_bipush (v := 20) hx hb dX9_holds_2 (by decide) ?_
  refine cSR (As := [.int x1, .int 1, .int 20]) (rest := []) (n := 3) X hN hK hP (c_X9_within l D cI cB x1 1 20) k_431 k_432 k_92 k_433 (by decide +kernel) ⟨Nat.le_of_ble_eq_true rfl, Nat.le_of_ble_eq_true rfl⟩ ⟨rfl, rfl⟩ [] rfl rfl rfl hl.1 (Nat.le_of_ble_eq_true rfl) dX9_holds_4 ⟨Nat.le_of_ble_eq_true rfl, Nat.le_of_ble_eq_true rfl⟩ (fun r_1 hr_1 => ?_)
  subst hr_1
  refine lv_if_eq (tgt := 30) hx hb dX9_holds_7 (by decide) (fun c_7 => ?_) (fun c_7 => ?_)
  · refine lv_iconst (v := (-1)) hx hb dX9_holds_30 (by decide) ?_
    exact ret _ _ _ _ (-1) () dX9_holds_31 rfl (iI0 (fun h => bIf c_7 h.1)) (hP.sub [] rfl) (hD.sub [] (by decide) rfl) hS
  · refine lv_iload_n hx hb dX9_holds_10 rfl (lv_at hl 2 rfl) ?_
    refine lv_iconst (v := 0) hx hb dX9_holds_11 (by decide) ?_
    refine lv_ldcw (v := 999999) hx hb hown (htb _ k_992) dX9_holds_12 ?_
    refine cSR (As := [.int x2, .int 0, .int 999999]) (rest := []) (n := 3) X hN hK hP (c_X9_within l D cI cB x2 0 999999) k_431 k_432 k_92 k_433 (by decide +kernel) ⟨Nat.le_of_ble_eq_true rfl, Nat.le_of_ble_eq_true rfl⟩ ⟨rfl, rfl⟩ [] rfl rfl rfl hl.1 (Nat.le_of_ble_eq_true rfl) dX9_holds_15 ⟨Nat.le_of_ble_eq_true rfl, Nat.le_of_ble_eq_true rfl⟩ (fun r_2 hr_2 => ?_)
    subst hr_2
    refine lv_if_eq (tgt := 30) hx hb dX9_holds_18 (by decide) (fun c_18 => ?_) (fun c_18 => ?_)
    · refine lv_iconst (v := (-1)) hx hb dX9_holds_30 (by decide) ?_
      exact ret _ _ _ _ (-1) () dX9_holds_31 rfl (iI0 (fun h => bIf c_18 h.2.1)) (hP.sub [] rfl) (hD.sub [] (by decide) rfl) hS
    · refine lv_iload_n hx hb dX9_holds_21 rfl (lv_at hl 3 rfl) ?_
      refine lv_iconst (v := 0) hx hb dX9_holds_22 (by decide) ?_
      refine lv_iconst (v := 1) hx hb dX9_holds_23 (by decide) ?_
      refine cSR (As := [.int x3, .int 0, .int 1]) (rest := []) (n := 3) X hN hK hP (c_X9_within l D cI cB x3 0 1) k_431 k_432 k_92 k_433 (by decide +kernel) ⟨Nat.le_of_ble_eq_true rfl, Nat.le_of_ble_eq_true rfl⟩ ⟨rfl, rfl⟩ [] rfl rfl rfl hl.1 (Nat.le_of_ble_eq_true rfl) dX9_holds_24 ⟨Nat.le_of_ble_eq_true rfl, Nat.le_of_ble_eq_true rfl⟩ (fun r_3 hr_3 => ?_)
      subst hr_3
      refine lv_if_ne (tgt := 32) hx hb dX9_holds_27 (by decide) (fun c_27 => ?_) (fun c_27 => ?_)
      · obtain ⟨N, hN0, en⟩ := dcN (k := 20) (by decide) (bIt c_7)
        refine lv_aload_n hx hb dX9_holds_32 rfl (lv_at hl 0 rfl) ?_
        refine lv_iconst (v := 0) hx hb dX9_holds_33 (by decide) ?_
        refine lv_iload_n hx hb dX9_holds_34 rfl (lv_at hl 1 rfl) ?_
        refine tv (z := nI N) en ?_
        refine lv_ldc (v := 2147483647) hx hb hown (htb _ k_783) dX9_holds_35 ?_
        refine cVI (As := [.int 0, .int (nI N), .int 2147483647]) (rest := []) (n := 3) (ci := 9) (q0 := 0) (wr := []) X hN hK hP hD hS hA (c_X9_runAway l D cI cB _ h0 tp tw nw kp lw lr dd vv tl sc t1 t2 t3 t4 u2 f2 g2 fu2 ff2 fg2 l1 l2 l3 l4 l5 l6 l7 lz lc fl st m1 c1 d1 idl idf idt fc fp mb ra cl u1 f1 g1 ms dy dr fu ff fg fm fc1 fd N 2147483647 hu hf hg (by omega)) (gV k_976 k_978 k_27 k_92 k_979) (by decide +kernel) ⟨Nat.le_of_ble_eq_true rfl, Nat.le_of_ble_eq_true rfl⟩ ⟨rfl, rfl⟩ [0, 1, 2, 3, 4, 5, 6, 7, 8, 9, 10, 11, 12, 13, 14, 15] [] rfl rfl (by decide) (by decide) rfl rfl rfl rfl rfl hl.1 (Nat.le_of_ble_eq_true rfl) dX9_holds_37 ⟨Nat.le_of_ble_eq_true rfl, Nat.le_of_ble_eq_true rfl⟩ (fun r_4 u H locs hw_14 hP hD hS => ?_)
        obtain ⟨jo_5, ko_6, lo_7, uo_8, fo_9, go_10, mo_11, co_12, do__13⟩ := u
        try dsimp only at hw_14
        have hP : va_P D vwCl [(h0, .inr (9, [.ref tp, .ref tw, .ref nw, .ref kp, .ref lw, .ref lr, .ref dd, .ref vv, .ref tl, .ref sc, .int 0])), (tw, .inr (7, [.int 0, .int 0, .int 0, .ref t1, .ref t2, .ref t3, .ref t4])), (nw, .inr (4, [.ref u2, .ref f2, .ref g2, .int 0, .int 0, .int 1])), (u2, .inl (cI, 12, .inl fu2)), (f2, .inl (cI, 10, .inl ff2)), (g2, .inl (cI, 10, .inl fg2)), (lw, .inr (1, [.ref l1, .ref l2, .ref l3, .ref l4, .ref l5, .ref l6, .ref l7, .int lz, .int lc])), (l6, .inl (cI, 8, .inl lo_7)), (tl, .inr (8, [.ref tw, .ref lw, .ref st, .ref m1, .ref c1, .ref d1, .int (-1), .int idf, .int idt, .int (-1), .int fp, .int 0, .int 0, .int (nI jo_5)])), (st, .inr (4, [.ref u1, .ref f1, .ref g1, .int 0, .int (nI jo_5), .int (nI ko_6)])), (u1, .inl (cI, 12, .inl uo_8)), (f1, .inl (cI, 10, .inl fo_9)), (g1, .inl (cI, 10, .inl go_10)), (m1, .inl (cI, 10, .inl mo_11)), (c1, .inl (cI, 10, .inl co_12)), (d1, .inl (cI, 10, .inl do__13))] H := hP
        have hD : va_D A [(h0, .inr (9, [.ref tp, .ref tw, .ref nw, .ref kp, .ref lw, .ref lr, .ref dd, .ref vv, .ref tl, .ref sc, .int 0])), (tw, .inr (7, [.int 0, .int 0, .int 0, .ref t1, .ref t2, .ref t3, .ref t4])), (nw, .inr (4, [.ref u2, .ref f2, .ref g2, .int 0, .int 0, .int 1])), (u2, .inl (cI, 12, .inl fu2)), (f2, .inl (cI, 10, .inl ff2)), (g2, .inl (cI, 10, .inl fg2)), (lw, .inr (1, [.ref l1, .ref l2, .ref l3, .ref l4, .ref l5, .ref l6, .ref l7, .int lz, .int lc])), (l6, .inl (cI, 8, .inl lo_7)), (tl, .inr (8, [.ref tw, .ref lw, .ref st, .ref m1, .ref c1, .ref d1, .int (-1), .int idf, .int idt, .int (-1), .int fp, .int 0, .int 0, .int (nI jo_5)])), (st, .inr (4, [.ref u1, .ref f1, .ref g1, .int 0, .int (nI jo_5), .int (nI ko_6)])), (u1, .inl (cI, 12, .inl uo_8)), (f1, .inl (cI, 10, .inl fo_9)), (g1, .inl (cI, 10, .inl go_10)), (m1, .inl (cI, 10, .inl mo_11)), (c1, .inl (cI, 10, .inl co_12)), (d1, .inl (cI, 10, .inl do__13))] := hD
        subst hw_14
        refine lv_iload_n hx hb dX9_holds_40 rfl (lv_at hl 2 rfl) ?_
        refine lv_iadd hx hb dX9_holds_41 ?_
        refine tv (z := x2) (Int32.zero_add _) ?_
        refine lv_istore (lv' := [(4, .int x2), (0, .ref h0), (1, .int x1), (2, .int x2), (3, .int x3)]) hx hb dX9_holds_42 hl (by decide) rfl (fun ls hl => ?_)
        refine lv_iconst (v := 0) hx hb dX9_holds_44 (by decide) ?_
        refine lv_istore (lv' := [(5, .int 0), (4, .int x2), (0, .ref h0), (1, .int x1), (2, .int x2), (3, .int x3)]) hx hb dX9_holds_45 hl (by decide) rfl (fun ls hl => ?_)
        have loop_47 : ∀ (n i : Nat) (ja : Nat) (ka : Nat) (la : Nat → Int32) (ua : Nat → Int32) (fa : Nat → Int32) (ga : Nat → Int32) (ma : Nat → Int32) (ca : Nat → Int32) (da : Nat → Int32), n + i = 11 → (i = 0 ∨ 0 < x2) → ∀ (H : Heap) (locs : List Loc), va_P D vwCl [(h0, .inr (9, [.ref tp, .ref tw, .ref nw, .ref kp, .ref lw, .ref lr, .ref dd, .ref vv, .ref tl, .ref sc, .int 0])), (tw, .inr (7, [.int 0, .int 0, .int 0, .ref t1, .ref t2, .ref t3, .ref t4])), (nw, .inr (4, [.ref u2, .ref f2, .ref g2, .int 0, .int 0, .int 1])), (u2, .inl (cI, 12, .inl fu2)), (f2, .inl (cI, 10, .inl ff2)), (g2, .inl (cI, 10, .inl fg2)), (lw, .inr (1, [.ref l1, .ref l2, .ref l3, .ref l4, .ref l5, .ref l6, .ref l7, .int lz, .int lc])), (l6, .inl (cI, 8, .inl la)), (tl, .inr (8, [.ref tw, .ref lw, .ref st, .ref m1, .ref c1, .ref d1, .int (-1), .int idf, .int idt, .int (-1), .int fp, .int 0, .int 0, .int (nI ja)])), (st, .inr (4, [.ref u1, .ref f1, .ref g1, .int 0, .int (nI ja), .int (nI ka)])), (u1, .inl (cI, 12, .inl ua)), (f1, .inl (cI, 10, .inl fa)), (g1, .inl (cI, 10, .inl ga)), (m1, .inl (cI, 10, .inl ma)), (c1, .inl (cI, 10, .inl ca)), (d1, .inl (cI, 10, .inl da))] H → va_D A [(h0, .inr (9, [.ref tp, .ref tw, .ref nw, .ref kp, .ref lw, .ref lr, .ref dd, .ref vv, .ref tl, .ref sc, .int 0])), (tw, .inr (7, [.int 0, .int 0, .int 0, .ref t1, .ref t2, .ref t3, .ref t4])), (nw, .inr (4, [.ref u2, .ref f2, .ref g2, .int 0, .int 0, .int 1])), (u2, .inl (cI, 12, .inl fu2)), (f2, .inl (cI, 10, .inl ff2)), (g2, .inl (cI, 10, .inl fg2)), (lw, .inr (1, [.ref l1, .ref l2, .ref l3, .ref l4, .ref l5, .ref l6, .ref l7, .int lz, .int lc])), (l6, .inl (cI, 8, .inl la)), (tl, .inr (8, [.ref tw, .ref lw, .ref st, .ref m1, .ref c1, .ref d1, .int (-1), .int idf, .int idt, .int (-1), .int fp, .int 0, .int 0, .int (nI ja)])), (st, .inr (4, [.ref u1, .ref f1, .ref g1, .int 0, .int (nI ja), .int (nI ka)])), (u1, .inl (cI, 12, .inl ua)), (f1, .inl (cI, 10, .inl fa)), (g1, .inl (cI, 10, .inl ga)), (m1, .inl (cI, 10, .inl ma)), (c1, .inl (cI, 10, .inl ca)), (d1, .inl (cI, 10, .inl da))] → va_S A s.heap H locs → ∀ (ls : Array Slot), lv_has ls 8 [(0, .ref h0), (1, .int x1), (2, .int x2), (3, .int x3), (4, .int x2), (5, .int (nI i))] → W p l e (rm 5 126) s m ([.ref h0, .int x1, .int x2, .int x3] : List Value).toArray below meth c H locs 0 0 Q (F0 m 47 ls []) := by
          intro n
          induction n with
          | zero =>
            intro i ja ka la ua fa ga ma ca da hni hv H locs hP hD hS ls hl
            have hi : i = 11 := by omega
            refine lv_iload hx hb dX9_holds_47 (lv_at hl 5 rfl) ?_
            refine lv_bipush (v := 10) hx hb dX9_holds_49 (by decide) ?_
            refine lv_icmp_gt (tgt := 134) hx hb dX9_holds_51 (by decide) (fun _ => ?_) (fun c_51 => absurd (by rw [hi]; decide) c_51)
            refine lv_bipush (v := (-2)) hx hb dX9_holds_134 (by decide) ?_
            exact ret _ _ _ _ (-2) () dX9_holds_136 rfl ((iI0 (fun h => absurd (hv.resolve_left (by omega)) (by rw [h]; decide))).trans (iI1 ⟨bIt c_7, bIt c_18, bIt c_27⟩)) (hP.sub [] rfl) (hD.sub [] (by decide) rfl) hS
          | succ n ih =>
            intro i ja ka la ua fa ga ma ca da hni hv H locs hP hD hS ls hl
            have hi : i < 11 := by omega
            refine lv_iload hx hb dX9_holds_47 (lv_at hl 5 rfl) ?_
            refine lv_bipush (v := 10) hx hb dX9_holds_49 (by decide) ?_
            refine lv_icmp_gt (tgt := 134) hx hb dX9_holds_51 (by decide) (fun c_51 => absurd c_51 (nI_nlt (a := 10) (by omega) (by decide))) (fun _ => ?_)
            refine lv_iconst (v := 0) hx hb dX9_holds_54 (by decide) ?_
            refine lv_istore (lv' := [(6, .int 0), (0, .ref h0), (1, .int x1), (2, .int x2), (3, .int x3), (4, .int x2), (5, .int (nI i))]) hx hb dX9_holds_55 hl (by decide) rfl (fun ls hl => ?_)
            have loop_57 : ∀ (n j : Nat) (ja : Nat) (ka : Nat) (la : Nat → Int32) (ua : Nat → Int32) (fa : Nat → Int32) (ga : Nat → Int32) (ma : Nat → Int32) (ca : Nat → Int32) (da : Nat → Int32), n + j = 1024 → ((i = 0 ∧ j = 0) ∨ 0 < x2) → ∀ (H : Heap) (locs : List Loc), va_P D vwCl [(h0, .inr (9, [.ref tp, .ref tw, .ref nw, .ref kp, .ref lw, .ref lr, .ref dd, .ref vv, .ref tl, .ref sc, .int 0])), (tw, .inr (7, [.int 0, .int 0, .int 0, .ref t1, .ref t2, .ref t3, .ref t4])), (nw, .inr (4, [.ref u2, .ref f2, .ref g2, .int 0, .int 0, .int 1])), (u2, .inl (cI, 12, .inl fu2)), (f2, .inl (cI, 10, .inl ff2)), (g2, .inl (cI, 10, .inl fg2)), (lw, .inr (1, [.ref l1, .ref l2, .ref l3, .ref l4, .ref l5, .ref l6, .ref l7, .int lz, .int lc])), (l6, .inl (cI, 8, .inl la)), (tl, .inr (8, [.ref tw, .ref lw, .ref st, .ref m1, .ref c1, .ref d1, .int (-1), .int idf, .int idt, .int (-1), .int fp, .int 0, .int 0, .int (nI ja)])), (st, .inr (4, [.ref u1, .ref f1, .ref g1, .int 0, .int (nI ja), .int (nI ka)])), (u1, .inl (cI, 12, .inl ua)), (f1, .inl (cI, 10, .inl fa)), (g1, .inl (cI, 10, .inl ga)), (m1, .inl (cI, 10, .inl ma)), (c1, .inl (cI, 10, .inl ca)), (d1, .inl (cI, 10, .inl da))] H → va_D A [(h0, .inr (9, [.ref tp, .ref tw, .ref nw, .ref kp, .ref lw, .ref lr, .ref dd, .ref vv, .ref tl, .ref sc, .int 0])), (tw, .inr (7, [.int 0, .int 0, .int 0, .ref t1, .ref t2, .ref t3, .ref t4])), (nw, .inr (4, [.ref u2, .ref f2, .ref g2, .int 0, .int 0, .int 1])), (u2, .inl (cI, 12, .inl fu2)), (f2, .inl (cI, 10, .inl ff2)), (g2, .inl (cI, 10, .inl fg2)), (lw, .inr (1, [.ref l1, .ref l2, .ref l3, .ref l4, .ref l5, .ref l6, .ref l7, .int lz, .int lc])), (l6, .inl (cI, 8, .inl la)), (tl, .inr (8, [.ref tw, .ref lw, .ref st, .ref m1, .ref c1, .ref d1, .int (-1), .int idf, .int idt, .int (-1), .int fp, .int 0, .int 0, .int (nI ja)])), (st, .inr (4, [.ref u1, .ref f1, .ref g1, .int 0, .int (nI ja), .int (nI ka)])), (u1, .inl (cI, 12, .inl ua)), (f1, .inl (cI, 10, .inl fa)), (g1, .inl (cI, 10, .inl ga)), (m1, .inl (cI, 10, .inl ma)), (c1, .inl (cI, 10, .inl ca)), (d1, .inl (cI, 10, .inl da))] → va_S A s.heap H locs → ∀ (ls : Array Slot), lv_has ls 8 [(0, .ref h0), (1, .int x1), (2, .int x2), (3, .int x3), (4, .int x2), (5, .int (nI i)), (6, .int (nI j))] → W p l e (rm 5 126) s m ([.ref h0, .int x1, .int x2, .int x3] : List Value).toArray below meth c H locs 0 0 Q (F0 m 57 ls []) := by
              intro n
              induction n with
              | zero =>
                intro j ja ka la ua fa ga ma ca da hni hw H locs hP hD hS ls hl
                have hi : j = 1024 := by omega
                refine lv_iload hx hb dX9_holds_57 (lv_at hl 6 rfl) ?_
                refine lv_sipush (v := 1023) hx hb dX9_holds_59 (by decide) ?_
                refine lv_icmp_gt (tgt := 128) hx hb dX9_holds_62 (by decide) (fun _ => ?_) (fun c_62 => absurd (by rw [hi]; decide) c_62)
                refine lv_iinc (v := (nI (i + 1))) (lv' := [(5, .int (nI (i + 1))), (0, .ref h0), (1, .int x1), (2, .int x2), (3, .int x3), (4, .int x2), (6, .int (nI j))]) hx hb dX9_holds_128 hl (k := 5) rfl (nI_1 i) (by decide) rfl (fun ls hl => ?_)
                refine lv_goto (tgt := 47) hx hb dX9_holds_131 (by decide) ?_
                exact ih (i + 1) ja ka la ua fa ga ma ca da (by omega) (Or.inr (hw.resolve_left (fun h => by omega))) _ _ (hP.sub [0, 1, 2, 3, 4, 5, 6, 7, 8, 9, 10, 11, 12, 13, 14, 15] rfl) (hD.sub [0, 1, 2, 3, 4, 5, 6, 7, 8, 9, 10, 11, 12, 13, 14, 15] (by decide) rfl) hS _ (lv_sub hl [1, 2, 3, 4, 5, 0] rfl)
              | succ n ih =>
                intro j ja ka la ua fa ga ma ca da hni hw H locs hP hD hS ls hl
                have hi : j < 1024 := by omega
                refine lv_iload hx hb dX9_holds_57 (lv_at hl 6 rfl) ?_
                refine lv_sipush (v := 1023) hx hb dX9_holds_59 (by decide) ?_
                refine lv_icmp_gt (tgt := 128) hx hb dX9_holds_62 (by decide) (fun c_62 => absurd c_62 (nI_nlt (a := 1023) (by omega) (by decide))) (fun _ => ?_)
                refine lv_iload hx hb dX9_holds_65 (lv_at hl 6 rfl) ?_
                refine cSR (As := [.int (nI j)]) (rest := []) (n := 1) X hN hK hP (c_J6_bitCount_0f7a4 l D cI cB (nI j)) k_754 k_755 k_111 k_756 (by decide +kernel) ⟨Nat.le_of_ble_eq_true rfl, Nat.le_of_ble_eq_true rfl⟩ ⟨rfl, rfl⟩ [] rfl rfl rfl hl.1 (Nat.le_of_ble_eq_true rfl) dX9_holds_67 ⟨Nat.le_of_ble_eq_true rfl, Nat.le_of_ble_eq_true rfl⟩ (fun rb hrb => ?_)
                refine lv_iload hx hb dX9_holds_70 (lv_at hl 5 rfl) ?_
                refine lv_icmp_ne (tgt := 88) hx hb dX9_holds_72 (by decide) (fun c_72 => ?_) (fun c_72 => ?_)
                · refine lv_iconst (v := 0) hx hb dX9_holds_88 (by decide) ?_
                  refine lv_istore (lv' := [(7, .int 0), (0, .ref h0), (1, .int x1), (2, .int x2), (3, .int x3), (4, .int x2), (5, .int (nI i)), (6, .int (nI j))]) hx hb dX9_holds_89 hl (by decide) rfl (fun ls hl => ?_)
                  refine lv_iload hx hb dX9_holds_91 (lv_at hl 0 rfl) ?_
                  refine lv_if_eq (tgt := 122) hx hb dX9_holds_93 (by decide) (fun _ => ?_) (fun c_93 => absurd (by decide) c_93)
                  refine lv_iinc (v := (nI (j + 1))) (lv' := [(6, .int (nI (j + 1))), (7, .int 0), (0, .ref h0), (1, .int x1), (2, .int x2), (3, .int x3), (4, .int x2), (5, .int (nI i))]) hx hb dX9_holds_122 hl (k := 7) rfl (nI_1 j) (by decide) rfl (fun ls hl => ?_)
                  refine lv_goto (tgt := 57) hx hb dX9_holds_125 (by decide) ?_
                  exact ih (j + 1) ja ka la ua fa ga ma ca da (by omega) (Or.inr (hw.resolve_left (fun h => c_72 (by rw [h.1, hrb (by rw [h.2]; rfl)]; rfl)))) _ _ (hP.sub [0, 1, 2, 3, 4, 5, 6, 7, 8, 9, 10, 11, 12, 13, 14, 15] rfl) (hD.sub [0, 1, 2, 3, 4, 5, 6, 7, 8, 9, 10, 11, 12, 13, 14, 15] (by decide) rfl) hS _ (lv_sub hl [2, 3, 4, 5, 6, 7, 0] rfl)
                · refine lv_aload_n hx hb dX9_holds_75 rfl (lv_at hl 0 rfl) ?_
                  refine lv_iload hx hb dX9_holds_76 (lv_at hl 6 rfl) ?_
                  refine cVR (As := [.int (nI j)]) (rest := []) (n := 1) (ci := 9) (q0 := 0) X hN hK hP (c_X9_areTold l D cI cB h0 tp tw nw kp lw lr dd vv tl sc t1 t2 t3 t4 (nI j)) (gV k_893 k_895 k_20 k_92 k_896) (by decide +kernel) ⟨Nat.le_of_ble_eq_true rfl, Nat.le_of_ble_eq_true rfl⟩ ⟨rfl, rfl⟩ [0, 1] rfl rfl rfl rfl rfl rfl hl.1 (Nat.le_of_ble_eq_true rfl) dX9_holds_78 ⟨Nat.le_of_ble_eq_true rfl, Nat.le_of_ble_eq_true rfl⟩ (fun r_15 hr_15 => ?_)
                  subst hr_15
                  refine lv_if_eq (tgt := 88) hx hb dX9_holds_81 (by decide) (fun c_81 => ?_) (fun c_81 => ?_)
                  · refine lv_iconst (v := 0) hx hb dX9_holds_88 (by decide) ?_
                    refine lv_istore (lv' := [(7, .int 0), (0, .ref h0), (1, .int x1), (2, .int x2), (3, .int x3), (4, .int x2), (5, .int (nI i)), (6, .int (nI j))]) hx hb dX9_holds_89 hl (by decide) rfl (fun ls hl => ?_)
                    refine lv_iload hx hb dX9_holds_91 (lv_at hl 0 rfl) ?_
                    refine lv_if_eq (tgt := 122) hx hb dX9_holds_93 (by decide) (fun _ => ?_) (fun c_93 => absurd (by decide) c_93)
                    refine lv_iinc (v := (nI (j + 1))) (lv' := [(6, .int (nI (j + 1))), (7, .int 0), (0, .ref h0), (1, .int x1), (2, .int x2), (3, .int x3), (4, .int x2), (5, .int (nI i))]) hx hb dX9_holds_122 hl (k := 7) rfl (nI_1 j) (by decide) rfl (fun ls hl => ?_)
                    refine lv_goto (tgt := 57) hx hb dX9_holds_125 (by decide) ?_
                    exact ih (j + 1) ja ka la ua fa ga ma ca da (by omega) (Or.inr (hw.resolve_left (fun h => bIf c_81 (by rw [h.2]; rfl)))) _ _ (hP.sub [0, 1, 2, 3, 4, 5, 6, 7, 8, 9, 10, 11, 12, 13, 14, 15] rfl) (hD.sub [0, 1, 2, 3, 4, 5, 6, 7, 8, 9, 10, 11, 12, 13, 14, 15] (by decide) rfl) hS _ (lv_sub hl [2, 3, 4, 5, 6, 7, 0] rfl)
                  · refine lv_iconst (v := 1) hx hb dX9_holds_84 (by decide) ?_
                    refine lv_goto (tgt := 89) hx hb dX9_holds_85 (by decide) ?_
                    refine lv_istore (lv' := [(7, .int 1), (0, .ref h0), (1, .int x1), (2, .int x2), (3, .int x3), (4, .int x2), (5, .int (nI i)), (6, .int (nI j))]) hx hb dX9_holds_89 hl (by decide) rfl (fun ls hl => ?_)
                    refine lv_iload hx hb dX9_holds_91 (lv_at hl 0 rfl) ?_
                    refine lv_if_eq (tgt := 122) hx hb dX9_holds_93 (by decide) (fun c_93 => absurd c_93 (by decide)) (fun _ => ?_)
                    refine lv_aload_n hx hb dX9_holds_96 rfl (lv_at hl 1 rfl) ?_
                    refine lv_iload hx hb dX9_holds_97 (lv_at hl 7 rfl) ?_
                    refine tv (z := 0) (bIt c_81) ?_
                    refine lv_iload_n hx hb dX9_holds_99 rfl (lv_at hl 2 rfl) ?_
                    refine tv (z := nI N) en ?_
                    refine lv_iload hx hb dX9_holds_100 (lv_at hl 5 rfl) ?_
                    refine cVI (As := [.int 0, .int (nI N), .int x2]) (rest := []) (n := 3) (ci := 9) (q0 := 0) (wr := []) X hN hK hP hD hS hA (c_X9_runAway l D cI cB _ h0 tp tw nw kp lw lr dd vv tl sc t1 t2 t3 t4 u2 f2 g2 fu2 ff2 fg2 l1 l2 l3 l4 l5 l6 l7 lz lc la st m1 c1 d1 (-1) idf idt (-1) fp 0 0 (nI ja) u1 f1 g1 0 (nI ja) (nI ka) ua fa ga ma ca da N x2 hu hf hg (by omega)) (gV k_976 k_978 k_27 k_92 k_979) (by decide +kernel) ⟨Nat.le_of_ble_eq_true rfl, Nat.le_of_ble_eq_true rfl⟩ ⟨rfl, rfl⟩ [0, 1, 2, 3, 4, 5, 6, 7, 8, 9, 10, 11, 12, 13, 14, 15] [] rfl rfl (by decide) (by decide) rfl rfl rfl rfl rfl hl.1 (Nat.le_of_ble_eq_true rfl) dX9_holds_102 ⟨Nat.le_of_ble_eq_true rfl, Nat.le_of_ble_eq_true rfl⟩ (fun r_16 u H locs hw_26 hP hD hS => ?_)
                    obtain ⟨jo_17, ko_18, lo_19, uo_20, fo_21, go_22, mo_23, co_24, do__25⟩ := u
                    try dsimp only at hw_26
                    have hP : va_P D vwCl [(h0, .inr (9, [.ref tp, .ref tw, .ref nw, .ref kp, .ref lw, .ref lr, .ref dd, .ref vv, .ref tl, .ref sc, .int 0])), (tw, .inr (7, [.int 0, .int 0, .int 0, .ref t1, .ref t2, .ref t3, .ref t4])), (nw, .inr (4, [.ref u2, .ref f2, .ref g2, .int 0, .int 0, .int 1])), (u2, .inl (cI, 12, .inl fu2)), (f2, .inl (cI, 10, .inl ff2)), (g2, .inl (cI, 10, .inl fg2)), (lw, .inr (1, [.ref l1, .ref l2, .ref l3, .ref l4, .ref l5, .ref l6, .ref l7, .int lz, .int lc])), (l6, .inl (cI, 8, .inl lo_19)), (tl, .inr (8, [.ref tw, .ref lw, .ref st, .ref m1, .ref c1, .ref d1, .int (-1), .int idf, .int idt, .int (-1), .int fp, .int 0, .int 0, .int (nI jo_17)])), (st, .inr (4, [.ref u1, .ref f1, .ref g1, .int 0, .int (nI jo_17), .int (nI ko_18)])), (u1, .inl (cI, 12, .inl uo_20)), (f1, .inl (cI, 10, .inl fo_21)), (g1, .inl (cI, 10, .inl go_22)), (m1, .inl (cI, 10, .inl mo_23)), (c1, .inl (cI, 10, .inl co_24)), (d1, .inl (cI, 10, .inl do__25))] H := hP
                    have hD : va_D A [(h0, .inr (9, [.ref tp, .ref tw, .ref nw, .ref kp, .ref lw, .ref lr, .ref dd, .ref vv, .ref tl, .ref sc, .int 0])), (tw, .inr (7, [.int 0, .int 0, .int 0, .ref t1, .ref t2, .ref t3, .ref t4])), (nw, .inr (4, [.ref u2, .ref f2, .ref g2, .int 0, .int 0, .int 1])), (u2, .inl (cI, 12, .inl fu2)), (f2, .inl (cI, 10, .inl ff2)), (g2, .inl (cI, 10, .inl fg2)), (lw, .inr (1, [.ref l1, .ref l2, .ref l3, .ref l4, .ref l5, .ref l6, .ref l7, .int lz, .int lc])), (l6, .inl (cI, 8, .inl lo_19)), (tl, .inr (8, [.ref tw, .ref lw, .ref st, .ref m1, .ref c1, .ref d1, .int (-1), .int idf, .int idt, .int (-1), .int fp, .int 0, .int 0, .int (nI jo_17)])), (st, .inr (4, [.ref u1, .ref f1, .ref g1, .int 0, .int (nI jo_17), .int (nI ko_18)])), (u1, .inl (cI, 12, .inl uo_20)), (f1, .inl (cI, 10, .inl fo_21)), (g1, .inl (cI, 10, .inl go_22)), (m1, .inl (cI, 10, .inl mo_23)), (c1, .inl (cI, 10, .inl co_24)), (d1, .inl (cI, 10, .inl do__25))] := hD
                    subst hw_26
                    refine lv_iload hx hb dX9_holds_105 (lv_at hl 5 rfl) ?_
                    refine lv_icmp_lt (tgt := 122) hx hb dX9_holds_107 (by decide) (fun c_107 => ?_) (fun c_107 => ?_)
                    · refine lv_iinc (v := (nI (j + 1))) (lv' := [(6, .int (nI (j + 1))), (7, .int 1), (0, .ref h0), (1, .int x1), (2, .int x2), (3, .int x3), (4, .int x2), (5, .int (nI i))]) hx hb dX9_holds_122 hl (k := 7) rfl (nI_1 j) (by decide) rfl (fun ls hl => ?_)
                      refine lv_goto (tgt := 57) hx hb dX9_holds_125 (by decide) ?_
                      exact ih (j + 1) jo_17 ko_18 lo_19 uo_20 fo_21 go_22 mo_23 co_24 do__25 (by omega) (Or.inr c_107) _ _ (hP.sub [0, 1, 2, 3, 4, 5, 6, 7, 8, 9, 10, 11, 12, 13, 14, 15] rfl) (hD.sub [0, 1, 2, 3, 4, 5, 6, 7, 8, 9, 10, 11, 12, 13, 14, 15] (by decide) rfl) hS _ (lv_sub hl [2, 3, 4, 5, 6, 7, 0] rfl)
                    · refine lv_iload_n hx hb dX9_holds_110 rfl (lv_at hl 4 rfl) ?_
                      refine lv_if_ne (tgt := 119) hx hb dX9_holds_111 (by decide) (fun c_111 => ?_) (fun c_111 => ?_)
                      · refine lv_iload hx hb dX9_holds_119 (lv_at hl 7 rfl) ?_
                        exact ret _ _ _ _ (nI j) () dX9_holds_121 rfl ((bIt c_81).trans ((iI1 (z := -2) (le0 (bIt c_18).1 (Int32.not_lt.mp c_107))).trans (iI1 ⟨bIt c_7, bIt c_18, bIt c_27⟩))) (hP.sub [] rfl) (hD.sub [] (by decide) rfl) hS
                      · refine lv_iload hx hb dX9_holds_114 (lv_at hl 6 rfl) ?_
                        refine lv_goto (tgt := 121) hx hb dX9_holds_116 (by decide) ?_
                        exact ret _ _ _ _ (nI i) () dX9_holds_121 rfl ((c_72.symm.trans (hrb (bIt c_81))).trans ((iI1 (z := -2) (le0 (bIt c_18).1 (Int32.not_lt.mp c_107))).trans (iI1 ⟨bIt c_7, bIt c_18, bIt c_27⟩))) (hP.sub [] rfl) (hD.sub [] (by decide) rfl) hS
            exact loop_57 1024 0 ja ka la ua fa ga ma ca da (by omega) (hv.imp (fun h => ⟨h, rfl⟩) id) _ _ (hP.sub [0, 1, 2, 3, 4, 5, 6, 7, 8, 9, 10, 11, 12, 13, 14, 15] rfl) (hD.sub [0, 1, 2, 3, 4, 5, 6, 7, 8, 9, 10, 11, 12, 13, 14, 15] (by decide) rfl) hS _ (lv_sub hl [1, 2, 3, 4, 5, 6, 0] rfl)
        exact loop_47 11 0 jo_5 ko_6 lo_7 uo_8 fo_9 go_10 mo_11 co_12 do__13 (by omega) (Or.inl rfl) _ _ (hP.sub [0, 1, 2, 3, 4, 5, 6, 7, 8, 9, 10, 11, 12, 13, 14, 15] rfl) (hD.sub [0, 1, 2, 3, 4, 5, 6, 7, 8, 9, 10, 11, 12, 13, 14, 15] (by decide) rfl) hS _ (lv_sub hl [2, 3, 4, 5, 1, 0] rfl)
      · refine lv_iconst (v := (-1)) hx hb dX9_holds_30 (by decide) ?_
        exact ret _ _ _ _ (-1) () dX9_holds_31 rfl (iI0 (fun h => bIf c_27 h.2.2)) (hP.sub [] rfl) (hD.sub [] (by decide) rfl) hS

set_option maxRecDepth 100000 in
set_option maxHeartbeats 4000000 in
theorem c_X9_mayor (l : Launch) (D : va_G) (cI cB : ClassId) (sz : Nat) (h0 : Nat) (tp : Nat) (tw : Nat) (nw : Nat) (kp : Nat) (lw : Nat) (lr : Nat) (dd : Nat) (vv : Nat) (tl : Nat) (sc : Nat) (t1 : Nat) (t2 : Nat) (t3 : Nat) (t4 : Nat) (u2 : Nat) (f2 : Nat) (g2 : Nat) (fu2 : Nat → Int32) (ff2 : Nat → Int32) (fg2 : Nat → Int32) (l1 : Nat) (l2 : Nat) (l3 : Nat) (l4 : Nat) (l5 : Nat) (l6 : Nat) (l7 : Nat) (lz : Int32) (lc : Int32) (fl : Nat → Int32) (st : Nat) (m1 : Nat) (c1 : Nat) (d1 : Nat) (idl : Int32) (idf : Int32) (idt : Int32) (fc : Int32) (fp : Int32) (mb : Int32) (ra : Int32) (cl : Int32) (u1 : Nat) (f1 : Nat) (g1 : Nat) (ms : Int32) (dy : Int32) (dr : Int32) (fu : Nat → Int32) (ff : Nat → Int32) (fg : Nat → Int32) (fm : Nat → Int32) (fc1 : Nat → Int32) (fd : Nat → Int32) (x1 : Int32) (x2 : Int32) (hu : ∀ j, j < 12 → fu2 j = 0) (hf : ∀ j, j < 10 → ff2 j = -2) (hg : ∀ j, j < 10 → fg2 j = -2) : MI (S := Unit) l D cI cB yX9_mayor cX9_mayor 9 .int (rm 5 126) [.ref h0, .int x1, .int x2] [(h0, .inr (9, [.ref tp, .ref tw, .ref nw, .ref kp, .ref lw, .ref lr, .ref dd, .ref vv, .ref tl, .ref sc, .int 0])), (tw, .inr (7, [.int 0, .int 0, .int 0, .ref t1, .ref t2, .ref t3, .ref t4])), (nw, .inr (4, [.ref u2, .ref f2, .ref g2, .int 0, .int 0, .int 1])), (u2, .inl (cI, 12, .inl fu2)), (f2, .inl (cI, 10, .inl ff2)), (g2, .inl (cI, 10, .inl fg2)), (lw, .inr (1, [.ref l1, .ref l2, .ref l3, .ref l4, .ref l5, .ref l6, .ref l7, .int lz, .int lc])), (l6, .inl (cI, 8, .inl fl)), (tl, .inr (8, [.ref tw, .ref lw, .ref st, .ref m1, .ref c1, .ref d1, .int idl, .int idf, .int idt, .int fc, .int fp, .int mb, .int ra, .int cl])), (st, .inr (4, [.ref u1, .ref f1, .ref g1, .int ms, .int dy, .int dr])), (u1, .inl (cI, 12, .inl fu)), (f1, .inl (cI, 10, .inl ff)), (g1, .inl (cI, 10, .inl fg)), (m1, .inl (cI, 10, .inl fm)), (c1, .inl (cI, 10, .inl fc1)), (d1, .inl (cI, 10, .inl fd))] sz (fun r u => r = iI ((1 ≤ x1 ∧ x1 ≤ 60) ∧ (0 ≤ x2 ∧ x2 ≤ 1)) (-2) (-1000000000)) (fun u : Unit => []) := by
  refine MI.of (by decide) (Nat.le_of_ble_eq_true rfl) ?_
  intro p e s m below meth c Q ls A X hin hN hP hK hD hA hl ret
  have hS : va_S A s.heap s.heap [] := va_S.rf
  obtain ⟨hx, hb, hml, hown, htb⟩ := id X
  have hl : lv_has ls 9 [(0, .ref h0), (1, .int x1), (2, .int x2)] := hl
  refine lv_iload_n hx hb dX9_mayor_0 rfl (lv_at hl 2 rfl) ?_
  refine lv_iconst (v := 0) hx hb dX9_mayor_1 (by decide) ?_
  refine lv_iconst (v := 1) hx hb dX9_mayor_2 (by decide) ?_
  refine cSR (As := [.int x2, .int 0, .int 1]) (rest := []) (n := 3) X hN hK hP (c_X9_within l D cI cB x2 0 1) k_431 k_432 k_92 k_433 (by decide +kernel) ⟨Nat.le_of_ble_eq_true rfl, Nat.le_of_ble_eq_true rfl⟩ ⟨rfl, rfl⟩ [] rfl rfl rfl hl.1 (Nat.le_of_ble_eq_true rfl) dX9_mayor_3 ⟨Nat.le_of_ble_eq_true rfl, Nat.le_of_ble_eq_true rfl⟩ (fun r_1 hr_1 => ?_)
  subst hr_1
  refine lv_if_ne (tgt := 23) hx hb dX9_mayor_6 (by decide) (fun c_6 => ?_) (fun c_6 => ?_)
  · refine lv_iconst (v := 1) hx hb dX9_mayor_23 (by decide) ?_
    refine lv_goto (tgt := 28) hx hb dX9_mayor_24 (by decide) ?_
    refine lv_istore_n (lv' := [(3, .int 1), (0, .ref h0), (1, .int x1), (2, .int x2)]) hx hb dX9_mayor_28 rfl hl (by decide) rfl (fun ls hl => ?_)
    refine lv_iload_n hx hb dX9_mayor_29 rfl (lv_at hl 2 rfl) ?_
    refine cSR (As := [.int x1]) (rest := []) (n := 1) X hN hK hP (c_X9_isDayCount l D cI cB x1) k_770 k_771 k_92 k_772 (by decide +kernel) ⟨Nat.le_of_ble_eq_true rfl, Nat.le_of_ble_eq_true rfl⟩ ⟨rfl, rfl⟩ [] rfl rfl rfl hl.1 (Nat.le_of_ble_eq_true rfl) dX9_mayor_30 ⟨Nat.le_of_ble_eq_true rfl, Nat.le_of_ble_eq_true rfl⟩ (fun r_2 hr_2 => ?_)
    subst hr_2
    refine lv_if_eq (tgt := 40) hx hb dX9_mayor_33 (by decide) (fun c_33 => ?_) (fun c_33 => ?_)
    · refine lv_ldc (v := (-1000000000)) hx hb hown (htb _ k_918) dX9_mayor_40 ?_
      exact ret _ _ _ _ (-1000000000) () dX9_mayor_42 rfl (iI0 (fun h => bIf c_33 h.1)) (hP.sub [] rfl) (hD.sub [] (by decide) rfl) hS
    · refine lv_iload_n hx hb dX9_mayor_36 rfl (lv_at hl 0 rfl) ?_
      refine lv_if_ne (tgt := 43) hx hb dX9_mayor_37 (by decide) (fun _ => ?_) (fun c_37 => absurd c_37 (by decide))
      obtain ⟨N, hN0, en⟩ := dcN (k := 60) (by decide) (bIt c_33)
      refine lv_aload_n hx hb dX9_mayor_43 rfl (lv_at hl 1 rfl) ?_
      refine lv_iconst (v := 0) hx hb dX9_mayor_44 (by decide) ?_
      refine lv_iload_n hx hb dX9_mayor_45 rfl (lv_at hl 2 rfl) ?_
      refine tv (z := nI N) en ?_
      refine lv_ldc (v := 2147483647) hx hb hown (htb _ k_783) dX9_mayor_46 ?_
      refine cVI (As := [.int 0, .int (nI N), .int 2147483647]) (rest := []) (n := 3) (ci := 9) (q0 := 0) (wr := []) X hN hK hP hD hS hA (c_X9_runAway l D cI cB _ h0 tp tw nw kp lw lr dd vv tl sc t1 t2 t3 t4 u2 f2 g2 fu2 ff2 fg2 l1 l2 l3 l4 l5 l6 l7 lz lc fl st m1 c1 d1 idl idf idt fc fp mb ra cl u1 f1 g1 ms dy dr fu ff fg fm fc1 fd N 2147483647 hu hf hg hN0) (gV k_976 k_978 k_27 k_92 k_979) (by decide +kernel) ⟨Nat.le_of_ble_eq_true rfl, Nat.le_of_ble_eq_true rfl⟩ ⟨rfl, rfl⟩ [0, 1, 2, 3, 4, 5, 6, 7, 8, 9, 10, 11, 12, 13, 14, 15] [] rfl rfl (by decide) (by decide) rfl rfl rfl rfl rfl hl.1 (Nat.le_of_ble_eq_true rfl) dX9_mayor_48 ⟨Nat.le_of_ble_eq_true rfl, Nat.le_of_ble_eq_true rfl⟩ (fun r_3 u H locs hw_13 hP hD hS => ?_)
      obtain ⟨jo_4, ko_5, lo_6, uo_7, fo_8, go_9, mo_10, co_11, do__12⟩ := u
      try dsimp only at hw_13
      have hP : va_P D vwCl [(h0, .inr (9, [.ref tp, .ref tw, .ref nw, .ref kp, .ref lw, .ref lr, .ref dd, .ref vv, .ref tl, .ref sc, .int 0])), (tw, .inr (7, [.int 0, .int 0, .int 0, .ref t1, .ref t2, .ref t3, .ref t4])), (nw, .inr (4, [.ref u2, .ref f2, .ref g2, .int 0, .int 0, .int 1])), (u2, .inl (cI, 12, .inl fu2)), (f2, .inl (cI, 10, .inl ff2)), (g2, .inl (cI, 10, .inl fg2)), (lw, .inr (1, [.ref l1, .ref l2, .ref l3, .ref l4, .ref l5, .ref l6, .ref l7, .int lz, .int lc])), (l6, .inl (cI, 8, .inl lo_6)), (tl, .inr (8, [.ref tw, .ref lw, .ref st, .ref m1, .ref c1, .ref d1, .int (-1), .int idf, .int idt, .int (-1), .int fp, .int 0, .int 0, .int (nI jo_4)])), (st, .inr (4, [.ref u1, .ref f1, .ref g1, .int 0, .int (nI jo_4), .int (nI ko_5)])), (u1, .inl (cI, 12, .inl uo_7)), (f1, .inl (cI, 10, .inl fo_8)), (g1, .inl (cI, 10, .inl go_9)), (m1, .inl (cI, 10, .inl mo_10)), (c1, .inl (cI, 10, .inl co_11)), (d1, .inl (cI, 10, .inl do__12))] H := hP
      have hD : va_D A [(h0, .inr (9, [.ref tp, .ref tw, .ref nw, .ref kp, .ref lw, .ref lr, .ref dd, .ref vv, .ref tl, .ref sc, .int 0])), (tw, .inr (7, [.int 0, .int 0, .int 0, .ref t1, .ref t2, .ref t3, .ref t4])), (nw, .inr (4, [.ref u2, .ref f2, .ref g2, .int 0, .int 0, .int 1])), (u2, .inl (cI, 12, .inl fu2)), (f2, .inl (cI, 10, .inl ff2)), (g2, .inl (cI, 10, .inl fg2)), (lw, .inr (1, [.ref l1, .ref l2, .ref l3, .ref l4, .ref l5, .ref l6, .ref l7, .int lz, .int lc])), (l6, .inl (cI, 8, .inl lo_6)), (tl, .inr (8, [.ref tw, .ref lw, .ref st, .ref m1, .ref c1, .ref d1, .int (-1), .int idf, .int idt, .int (-1), .int fp, .int 0, .int 0, .int (nI jo_4)])), (st, .inr (4, [.ref u1, .ref f1, .ref g1, .int 0, .int (nI jo_4), .int (nI ko_5)])), (u1, .inl (cI, 12, .inl uo_7)), (f1, .inl (cI, 10, .inl fo_8)), (g1, .inl (cI, 10, .inl go_9)), (m1, .inl (cI, 10, .inl mo_10)), (c1, .inl (cI, 10, .inl co_11)), (d1, .inl (cI, 10, .inl do__12))] := hD
      subst hw_13
      refine lv_istore (lv' := [(4, .int 0), (3, .int 1), (0, .ref h0), (1, .int x1), (2, .int x2)]) hx hb dX9_mayor_51 hl (by decide) rfl (fun ls hl => ?_)
      refine lv_iload_n hx hb dX9_mayor_53 rfl (lv_at hl 4 rfl) ?_
      refine lv_bipush (v := 10) hx hb dX9_mayor_54 (by decide) ?_
      refine lv_icmp_lt (tgt := 76) hx hb dX9_mayor_56 (by decide) (fun _ => ?_) (fun c_56 => absurd (Int32.lt_of_le_of_lt (bIt c_6).2 (by decide)) c_56)
      refine lv_ldc (v := 2147483647) hx hb hown (htb _ k_783) dX9_mayor_76 ?_
      refine lv_istore (lv' := [(5, .int 2147483647), (4, .int 0), (3, .int 1), (0, .ref h0), (1, .int x1), (2, .int x2)]) hx hb dX9_mayor_78 hl (by decide) rfl (fun ls hl => ?_)
      refine lv_bipush (v := (-2)) hx hb dX9_mayor_80 (by decide) ?_
      refine lv_istore (lv' := [(6, .int (-2)), (5, .int 2147483647), (4, .int 0), (3, .int 1), (0, .ref h0), (1, .int x1), (2, .int x2)]) hx hb dX9_mayor_82 hl (by decide) rfl (fun ls hl => ?_)
      refine lv_iconst (v := 0) hx hb dX9_mayor_84 (by decide) ?_
      refine lv_istore (lv' := [(7, .int 0), (6, .int (-2)), (5, .int 2147483647), (4, .int 0), (3, .int 1), (0, .ref h0), (1, .int x1), (2, .int x2)]) hx hb dX9_mayor_85 hl (by decide) rfl (fun ls hl => ?_)
      have loop_87 : ∀ (n i : Nat), n + i = 10 → ∀ (H : Heap) (locs : List Loc), va_P D vwCl [(h0, .inr (9, [.ref tp, .ref tw, .ref nw, .ref kp, .ref lw, .ref lr, .ref dd, .ref vv, .ref tl, .ref sc, .int 0])), (tw, .inr (7, [.int 0, .int 0, .int 0, .ref t1, .ref t2, .ref t3, .ref t4])), (nw, .inr (4, [.ref u2, .ref f2, .ref g2, .int 0, .int 0, .int 1])), (u2, .inl (cI, 12, .inl fu2)), (f2, .inl (cI, 10, .inl ff2)), (g2, .inl (cI, 10, .inl fg2)), (lw, .inr (1, [.ref l1, .ref l2, .ref l3, .ref l4, .ref l5, .ref l6, .ref l7, .int lz, .int lc])), (l6, .inl (cI, 8, .inl lo_6)), (tl, .inr (8, [.ref tw, .ref lw, .ref st, .ref m1, .ref c1, .ref d1, .int (-1), .int idf, .int idt, .int (-1), .int fp, .int 0, .int 0, .int (nI jo_4)])), (st, .inr (4, [.ref u1, .ref f1, .ref g1, .int 0, .int (nI jo_4), .int (nI ko_5)])), (u1, .inl (cI, 12, .inl uo_7)), (f1, .inl (cI, 10, .inl fo_8)), (g1, .inl (cI, 10, .inl go_9)), (m1, .inl (cI, 10, .inl mo_10)), (c1, .inl (cI, 10, .inl co_11)), (d1, .inl (cI, 10, .inl do__12))] H → va_D A [(h0, .inr (9, [.ref tp, .ref tw, .ref nw, .ref kp, .ref lw, .ref lr, .ref dd, .ref vv, .ref tl, .ref sc, .int 0])), (tw, .inr (7, [.int 0, .int 0, .int 0, .ref t1, .ref t2, .ref t3, .ref t4])), (nw, .inr (4, [.ref u2, .ref f2, .ref g2, .int 0, .int 0, .int 1])), (u2, .inl (cI, 12, .inl fu2)), (f2, .inl (cI, 10, .inl ff2)), (g2, .inl (cI, 10, .inl fg2)), (lw, .inr (1, [.ref l1, .ref l2, .ref l3, .ref l4, .ref l5, .ref l6, .ref l7, .int lz, .int lc])), (l6, .inl (cI, 8, .inl lo_6)), (tl, .inr (8, [.ref tw, .ref lw, .ref st, .ref m1, .ref c1, .ref d1, .int (-1), .int idf, .int idt, .int (-1), .int fp, .int 0, .int 0, .int (nI jo_4)])), (st, .inr (4, [.ref u1, .ref f1, .ref g1, .int 0, .int (nI jo_4), .int (nI ko_5)])), (u1, .inl (cI, 12, .inl uo_7)), (f1, .inl (cI, 10, .inl fo_8)), (g1, .inl (cI, 10, .inl go_9)), (m1, .inl (cI, 10, .inl mo_10)), (c1, .inl (cI, 10, .inl co_11)), (d1, .inl (cI, 10, .inl do__12))] → va_S A s.heap H locs → ∀ (ls : Array Slot), lv_has ls 9 [(0, .ref h0), (1, .int x1), (2, .int x2), (3, .int 1), (4, .int 0), (5, .int 2147483647), (6, .int (-2)), (7, .int (nI i))] → W p l e (rm 5 126) s m ([.ref h0, .int x1, .int x2] : List Value).toArray below meth c H locs 0 0 Q (F0 m 87 ls []) := by
        intro n
        induction n with
        | zero =>
          intro i hni H locs hP hD hS ls hl
          have hi : i = 10 := by omega
          subst hi
          refine lv_iload hx hb dX9_mayor_87 (lv_at hl 7 rfl) ?_
          refine lv_bipush (v := 10) hx hb dX9_mayor_89 (by decide) ?_
          refine lv_icmp_ge (tgt := 140) hx hb dX9_mayor_91 (by decide) (fun _ => ?_) (fun c_91 => absurd (by decide) c_91)
          refine lv_iload_n hx hb dX9_mayor_140 rfl (lv_at hl 2 rfl) ?_
          refine lv_if_eq (tgt := 151) hx hb dX9_mayor_141 (by decide) (fun c_141 => ?_) (fun c_141 => ?_)
          · refine lv_iload hx hb dX9_mayor_151 (lv_at hl 6 rfl) ?_
            refine lv_goto (tgt := 161) hx hb dX9_mayor_153 (by decide) ?_
            exact ret _ _ _ _ (-2) () dX9_mayor_161 rfl (iI1 ⟨bIt c_33, bIt c_6⟩) (hP.sub [] rfl) (hD.sub [] (by decide) rfl) hS
          · refine lv_iload hx hb dX9_mayor_144 (lv_at hl 6 rfl) ?_
            refine lv_bipush (v := (-2)) hx hb dX9_mayor_146 (by decide) ?_
            refine lv_icmp_ne (tgt := 156) hx hb dX9_mayor_148 (by decide) (fun c_148 => absurd (by decide) c_148) (fun _ => ?_)
            refine lv_iload hx hb dX9_mayor_151 (lv_at hl 6 rfl) ?_
            refine lv_goto (tgt := 161) hx hb dX9_mayor_153 (by decide) ?_
            exact ret _ _ _ _ (-2) () dX9_mayor_161 rfl (iI1 ⟨bIt c_33, bIt c_6⟩) (hP.sub [] rfl) (hD.sub [] (by decide) rfl) hS
        | succ n ih =>
          intro i hni H locs hP hD hS ls hl
          have hi : i < 10 := by omega
          refine lv_iload hx hb dX9_mayor_87 (lv_at hl 7 rfl) ?_
          refine lv_bipush (v := 10) hx hb dX9_mayor_89 (by decide) ?_
          refine lv_icmp_ge (tgt := 140) hx hb dX9_mayor_91 (by decide) (fun c_91 => absurd c_91 (nI_ge hi (by decide))) (fun _ => ?_)
          refine lv_aload_n hx hb dX9_mayor_94 rfl (lv_at hl 0 rfl) ?_
          refine va_get (D := D) (ci := 9) (v := .ref tw) (C := RX9) (T := TX9) (N := 11) hx hb htb itX9 hown hK hP 0 rfl rfl 1 (by decide) (htb _ k_394) (fun _ h9 => h9) rfl dX9_mayor_95 ?_
          refine lv_iload hx hb dX9_mayor_98 (lv_at hl 7 rfl) ?_
          refine cVR (As := [.int (nI i)]) (rest := []) (n := 1) (ci := 7) (q0 := 0) X hN hK hP (c_X7_hasPerson l D cI cB tw 0 t1 t2 t3 t4 (nI i)) (gV k_859 k_860 k_861 k_94 k_862) (by decide +kernel) ⟨Nat.le_of_ble_eq_true rfl, Nat.le_of_ble_eq_true rfl⟩ ⟨rfl, rfl⟩ [1] rfl rfl rfl rfl rfl rfl hl.1 (Nat.le_of_ble_eq_true rfl) dX9_mayor_100 ⟨Nat.le_of_ble_eq_true rfl, Nat.le_of_ble_eq_true rfl⟩ (fun r_14 hr_14 => ?_)
          subst hr_14
          refine lv_if_eq (tgt := 134) hx hb dX9_mayor_103 (by decide) (fun _ => ?_) (fun c_103 => absurd (by decide) c_103)
          refine lv_iinc (v := (nI (i + 1))) (lv' := [(7, .int (nI (i + 1))), (0, .ref h0), (1, .int x1), (2, .int x2), (3, .int 1), (4, .int 0), (5, .int 2147483647), (6, .int (-2))]) hx hb dX9_mayor_134 hl (k := 7) rfl (nI_1 i) (by decide) rfl (fun ls hl => ?_)
          refine lv_goto (tgt := 87) hx hb dX9_mayor_137 (by decide) ?_
          exact ih (i + 1) (by omega) _ _ (hP.sub [0, 1, 2, 3, 4, 5, 6, 7, 8, 9, 10, 11, 12, 13, 14, 15] rfl) (hD.sub [0, 1, 2, 3, 4, 5, 6, 7, 8, 9, 10, 11, 12, 13, 14, 15] (by decide) rfl) hS _ (lv_sub hl [1, 2, 3, 4, 5, 6, 7, 0] rfl)
      exact loop_87 10 0 (by omega) _ _ (hP.sub [0, 1, 2, 3, 4, 5, 6, 7, 8, 9, 10, 11, 12, 13, 14, 15] rfl) (hD.sub [0, 1, 2, 3, 4, 5, 6, 7, 8, 9, 10, 11, 12, 13, 14, 15] (by decide) rfl) hS _ (lv_sub hl [5, 6, 7, 4, 3, 2, 1, 0] rfl)
  · refine lv_aload_n hx hb dX9_mayor_9 rfl (lv_at hl 0 rfl) ?_
    refine va_get (D := D) (ci := 9) (v := .ref tw) (C := RX9) (T := TX9) (N := 11) hx hb htb itX9 hown hK hP 0 rfl rfl 1 (by decide) (htb _ k_394) (fun _ h9 => h9) rfl dX9_mayor_10 ?_
    refine lv_iload_n hx hb dX9_mayor_13 rfl (lv_at hl 2 rfl) ?_
    refine lv_bipush (v := 10) hx hb dX9_mayor_14 (by decide) ?_
    refine lv_isub hx hb dX9_mayor_16 ?_
    refine cVR (As := [.int (x2 - 10)]) (rest := []) (n := 1) (ci := 7) (q0 := 0) X hN hK hP (c_X7_hasPerson l D cI cB tw 0 t1 t2 t3 t4 (x2 - 10)) (gV k_859 k_860 k_861 k_94 k_862) (by decide +kernel) ⟨Nat.le_of_ble_eq_true rfl, Nat.le_of_ble_eq_true rfl⟩ ⟨rfl, rfl⟩ [1] rfl rfl rfl rfl rfl rfl hl.1 (Nat.le_of_ble_eq_true rfl) dX9_mayor_17 ⟨Nat.le_of_ble_eq_true rfl, Nat.le_of_ble_eq_true rfl⟩ (fun r_15 hr_15 => ?_)
    subst hr_15
    refine lv_if_eq (tgt := 27) hx hb dX9_mayor_20 (by decide) (fun _ => ?_) (fun c_20 => absurd (by decide) c_20)
    refine lv_iconst (v := 0) hx hb dX9_mayor_27 (by decide) ?_
    refine lv_istore_n (lv' := [(3, .int 0), (0, .ref h0), (1, .int x1), (2, .int x2)]) hx hb dX9_mayor_28 rfl hl (by decide) rfl (fun ls hl => ?_)
    refine lv_iload_n hx hb dX9_mayor_29 rfl (lv_at hl 2 rfl) ?_
    refine cSR (As := [.int x1]) (rest := []) (n := 1) X hN hK hP (c_X9_isDayCount l D cI cB x1) k_770 k_771 k_92 k_772 (by decide +kernel) ⟨Nat.le_of_ble_eq_true rfl, Nat.le_of_ble_eq_true rfl⟩ ⟨rfl, rfl⟩ [] rfl rfl rfl hl.1 (Nat.le_of_ble_eq_true rfl) dX9_mayor_30 ⟨Nat.le_of_ble_eq_true rfl, Nat.le_of_ble_eq_true rfl⟩ (fun r_16 hr_16 => ?_)
    subst hr_16
    refine lv_if_eq (tgt := 40) hx hb dX9_mayor_33 (by decide) (fun c_33 => ?_) (fun c_33 => ?_)
    · refine lv_ldc (v := (-1000000000)) hx hb hown (htb _ k_918) dX9_mayor_40 ?_
      exact ret _ _ _ _ (-1000000000) () dX9_mayor_42 rfl (iI0 (fun h => bIf c_33 h.1)) (hP.sub [] rfl) (hD.sub [] (by decide) rfl) hS
    · refine lv_iload_n hx hb dX9_mayor_36 rfl (lv_at hl 0 rfl) ?_
      refine lv_if_ne (tgt := 43) hx hb dX9_mayor_37 (by decide) (fun c_37 => absurd (by decide) c_37) (fun _ => ?_)
      refine lv_ldc (v := (-1000000000)) hx hb hown (htb _ k_918) dX9_mayor_40 ?_
      exact ret _ _ _ _ (-1000000000) () dX9_mayor_42 rfl (iI0 (fun h => bIf c_6 h.2)) (hP.sub [] rfl) (hD.sub [] (by decide) rfl) hS

set_option maxRecDepth 100000 in
set_option maxHeartbeats 4000000 in
theorem c_X9_mustStay (l : Launch) (D : va_G) (cI cB : ClassId) (sz : Nat) (h0 : Nat) (tp : Nat) (tw : Nat) (nw : Nat) (kp : Nat) (lw : Nat) (lr : Nat) (dd : Nat) (vv : Nat) (tl : Nat) (sc : Nat) (t1 : Nat) (t2 : Nat) (t3 : Nat) (t4 : Nat) (u2 : Nat) (f2 : Nat) (g2 : Nat) (fu2 : Nat → Int32) (ff2 : Nat → Int32) (fg2 : Nat → Int32) (l1 : Nat) (l2 : Nat) (l3 : Nat) (l4 : Nat) (l5 : Nat) (l6 : Nat) (l7 : Nat) (lz : Int32) (lc : Int32) (fl : Nat → Int32) (st : Nat) (m1 : Nat) (c1 : Nat) (d1 : Nat) (idl : Int32) (idf : Int32) (idt : Int32) (fc : Int32) (fp : Int32) (mb : Int32) (ra : Int32) (cl : Int32) (u1 : Nat) (f1 : Nat) (g1 : Nat) (ms : Int32) (dy : Int32) (dr : Int32) (fu : Nat → Int32) (ff : Nat → Int32) (fg : Nat → Int32) (fm : Nat → Int32) (fc1 : Nat → Int32) (fd : Nat → Int32) (x1 : Int32) (x2 : Int32) (hu : ∀ j, j < 12 → fu2 j = 0) (hf : ∀ j, j < 10 → ff2 j = -2) (hg : ∀ j, j < 10 → fg2 j = -2) : MI (S := Unit) l D cI cB yX9_mustStay cX9_mustStay 7 .int (rm 5 124) [.ref h0, .int x1, .int x2] [(h0, .inr (9, [.ref tp, .ref tw, .ref nw, .ref kp, .ref lw, .ref lr, .ref dd, .ref vv, .ref tl, .ref sc, .int 0])), (tw, .inr (7, [.int 0, .int 0, .int 0, .ref t1, .ref t2, .ref t3, .ref t4])), (nw, .inr (4, [.ref u2, .ref f2, .ref g2, .int 0, .int 0, .int 1])), (u2, .inl (cI, 12, .inl fu2)), (f2, .inl (cI, 10, .inl ff2)), (g2, .inl (cI, 10, .inl fg2)), (lw, .inr (1, [.ref l1, .ref l2, .ref l3, .ref l4, .ref l5, .ref l6, .ref l7, .int lz, .int lc])), (l6, .inl (cI, 8, .inl fl)), (tl, .inr (8, [.ref tw, .ref lw, .ref st, .ref m1, .ref c1, .ref d1, .int idl, .int idf, .int idt, .int fc, .int fp, .int mb, .int ra, .int cl])), (st, .inr (4, [.ref u1, .ref f1, .ref g1, .int ms, .int dy, .int dr])), (u1, .inl (cI, 12, .inl fu)), (f1, .inl (cI, 10, .inl ff)), (g1, .inl (cI, 10, .inl fg)), (m1, .inl (cI, 10, .inl fm)), (c1, .inl (cI, 10, .inl fc1)), (d1, .inl (cI, 10, .inl fd))] sz (fun r u => r = iI ((1 ≤ x1 ∧ x1 ≤ 20) ∧ (0 ≤ x2 ∧ x2 ≤ 1)) 0 (-1)) (fun u : Unit => []) := by
  refine MI.of (by decide) (Nat.le_of_ble_eq_true rfl) ?_
  intro p e s m below meth c Q ls A X hin hN hP hK hD hA hl ret
  have hS : va_S A s.heap s.heap [] := va_S.rf
  obtain ⟨hx, hb, hml, hown, htb⟩ := id X
  have hl : lv_has ls 7 [(0, .ref h0), (1, .int x1), (2, .int x2)] := hl
  refine lv_iload_n hx hb dX9_mustStay_0 rfl (lv_at hl 1 rfl) ?_
  refine lv_iconst (v := 1) hx hb dX9_mustStay_1 (by decide) ?_
  refine lv_bipush (v := 20) hx hb dX9_mustStay_2 (by decide) ?_
  refine cSR (As := [.int x1, .int 1, .int 20]) (rest := []) (n := 3) X hN hK hP (c_X9_within l D cI cB x1 1 20) k_431 k_432 k_92 k_433 (by decide +kernel) ⟨Nat.le_of_ble_eq_true rfl, Nat.le_of_ble_eq_true rfl⟩ ⟨rfl, rfl⟩ [] rfl rfl rfl hl.1 (Nat.le_of_ble_eq_true rfl) dX9_mustStay_4 ⟨Nat.le_of_ble_eq_true rfl, Nat.le_of_ble_eq_true rfl⟩ (fun r_1 hr_1 => ?_)
  subst hr_1
  refine lv_if_eq (tgt := 19) hx hb dX9_mustStay_7 (by decide) (fun c_7 => ?_) (fun c_7 => ?_)
  · refine lv_iconst (v := (-1)) hx hb dX9_mustStay_19 (by decide) ?_
    exact ret _ _ _ _ (-1) () dX9_mustStay_20 rfl (iI0 (fun h => bIf c_7 h.1)) (hP.sub [] rfl) (hD.sub [] (by decide) rfl) hS
  · refine lv_iload_n hx hb dX9_mustStay_10 rfl (lv_at hl 2 rfl) ?_
    refine lv_iconst (v := 0) hx hb dX9_mustStay_11 (by decide) ?_
    refine lv_iconst (v := 1) hx hb dX9_mustStay_12 (by decide) ?_
    refine cSR (As := [.int x2, .int 0, .int 1]) (rest := []) (n := 3) X hN hK hP (c_X9_within l D cI cB x2 0 1) k_431 k_432 k_92 k_433 (by decide +kernel) ⟨Nat.le_of_ble_eq_true rfl, Nat.le_of_ble_eq_true rfl⟩ ⟨rfl, rfl⟩ [] rfl rfl rfl hl.1 (Nat.le_of_ble_eq_true rfl) dX9_mustStay_13 ⟨Nat.le_of_ble_eq_true rfl, Nat.le_of_ble_eq_true rfl⟩ (fun r_2 hr_2 => ?_)
    subst hr_2
    refine lv_if_ne (tgt := 21) hx hb dX9_mustStay_16 (by decide) (fun c_16 => ?_) (fun c_16 => ?_)
    · obtain ⟨N, hN0, en⟩ := dcN (k := 20) (by decide) (bIt c_7)
      refine lv_aload_n hx hb dX9_mustStay_21 rfl (lv_at hl 0 rfl) ?_
      refine va_get (D := D) (ci := 9) (v := .ref nw) (C := RX9) (T := TX9) (N := 11) hx hb htb itX9 hown hK hP 0 rfl rfl 2 (by decide) (htb _ k_395) (fun _ h9 => h9) rfl dX9_mustStay_22 ?_
      refine cVR (As := []) (rest := []) (n := 0) (ci := 4) (q0 := 0) X hN hK hP (c_X4_leaveBits l D cI cB nw u2 f2 g2 0 0 1 ff2 hf) (gV k_746 k_747 k_748 k_95 k_749) (by decide +kernel) ⟨Nat.le_of_ble_eq_true rfl, Nat.le_of_ble_eq_true rfl⟩ ⟨rfl, rfl⟩ [2, 4] rfl rfl rfl rfl rfl rfl hl.1 (Nat.le_of_ble_eq_true rfl) dX9_mustStay_25 ⟨Nat.le_of_ble_eq_true rfl, Nat.le_of_ble_eq_true rfl⟩ (fun r_3 hr_3 => ?_)
      subst hr_3
      refine lv_istore_n (lv' := [(3, .int 0), (0, .ref h0), (1, .int x1), (2, .int x2)]) hx hb dX9_mustStay_28 rfl hl (by decide) rfl (fun ls hl => ?_)
      refine lv_iconst (v := 0) hx hb dX9_mustStay_29 (by decide) ?_
      refine lv_istore (lv' := [(4, .int 0), (3, .int 0), (0, .ref h0), (1, .int x1), (2, .int x2)]) hx hb dX9_mustStay_30 hl (by decide) rfl (fun ls hl => ?_)
      refine lv_iload hx hb dX9_mustStay_32 (lv_at hl 0 rfl) ?_
      refine lv_bipush (v := 10) hx hb dX9_mustStay_34 (by decide) ?_
      refine lv_icmp_gt (tgt := 115) hx hb dX9_mustStay_36 (by decide) (fun c_36 => absurd c_36 (by decide)) (fun _ => ?_)
      refine lv_iconst (v := 0) hx hb dX9_mustStay_39 (by decide) ?_
      refine lv_istore (lv' := [(5, .int 0), (4, .int 0), (3, .int 0), (0, .ref h0), (1, .int x1), (2, .int x2)]) hx hb dX9_mustStay_40 hl (by decide) rfl (fun ls hl => ?_)
      refine lv_iload hx hb dX9_mustStay_42 (lv_at hl 0 rfl) ?_
      refine lv_sipush (v := 1023) hx hb dX9_mustStay_44 (by decide) ?_
      refine lv_icmp_gt (tgt := 109) hx hb dX9_mustStay_47 (by decide) (fun c_47 => absurd c_47 (by decide)) (fun _ => ?_)
      refine lv_iload hx hb dX9_mustStay_50 (lv_at hl 0 rfl) ?_
      refine cSR (As := [.int 0]) (rest := []) (n := 1) X hN hK hP (c_J6_bitCount_0f7a4 l D cI cB 0) k_754 k_755 k_111 k_756 (by decide +kernel) ⟨Nat.le_of_ble_eq_true rfl, Nat.le_of_ble_eq_true rfl⟩ ⟨rfl, rfl⟩ [] rfl rfl rfl hl.1 (Nat.le_of_ble_eq_true rfl) dX9_mustStay_52 ⟨Nat.le_of_ble_eq_true rfl, Nat.le_of_ble_eq_true rfl⟩ (fun rb hrb => ?_)
      refine lv_iload hx hb dX9_mustStay_55 (lv_at hl 1 rfl) ?_
      refine lv_icmp_ne (tgt := 73) hx hb dX9_mustStay_57 (by decide) (fun c_57 => absurd (hrb rfl) c_57) (fun _ => ?_)
      refine lv_iload hx hb dX9_mustStay_60 (lv_at hl 0 rfl) ?_
      refine lv_iload_n hx hb dX9_mustStay_62 rfl (lv_at hl 2 rfl) ?_
      refine lv_iconst (v := (-1)) hx hb dX9_mustStay_63 (by decide) ?_
      refine lv_ixor hx hb dX9_mustStay_64 ?_
      refine tv (z := (-1)) (by decide) ?_
      refine lv_iand hx hb dX9_mustStay_65 ?_
      refine tv (z := 0) (by decide) ?_
      refine lv_if_ne (tgt := 73) hx hb dX9_mustStay_66 (by decide) (fun c_66 => absurd (by decide) c_66) (fun _ => ?_)
      refine lv_iconst (v := 1) hx hb dX9_mustStay_69 (by decide) ?_
      refine lv_goto (tgt := 74) hx hb dX9_mustStay_70 (by decide) ?_
      refine lv_istore (lv' := [(6, .int 1), (5, .int 0), (4, .int 0), (3, .int 0), (0, .ref h0), (1, .int x1), (2, .int x2)]) hx hb dX9_mustStay_74 hl (by decide) rfl (fun ls hl => ?_)
      refine lv_iload hx hb dX9_mustStay_76 (lv_at hl 0 rfl) ?_
      refine lv_if_eq (tgt := 103) hx hb dX9_mustStay_78 (by decide) (fun c_78 => absurd c_78 (by decide)) (fun _ => ?_)
      refine lv_aload_n hx hb dX9_mustStay_81 rfl (lv_at hl 4 rfl) ?_
      refine lv_iload hx hb dX9_mustStay_82 (lv_at hl 1 rfl) ?_
      refine lv_iload_n hx hb dX9_mustStay_84 rfl (lv_at hl 5 rfl) ?_
      refine tv (z := nI N) en ?_
      refine cVI (As := [.int 0, .int (nI N)]) (rest := []) (n := 2) (ci := 9) (q0 := 0) (wr := []) X hN hK hP hD hS hA (c_X9_allIsDoneIfStay l D cI cB _ h0 tp tw nw kp lw lr dd vv tl sc t1 t2 t3 t4 u2 f2 g2 fu2 ff2 fg2 l1 l2 l3 l4 l5 l6 l7 lz lc fl st m1 c1 d1 idl idf idt fc fp mb ra cl u1 f1 g1 ms dy dr fu ff fg fm fc1 fd N 0 hu hf hg (by omega)) (gV k_1016 k_1018 k_30 k_92 k_1019) (by decide +kernel) ⟨Nat.le_of_ble_eq_true rfl, Nat.le_of_ble_eq_true rfl⟩ ⟨rfl, rfl⟩ [0, 1, 2, 3, 4, 5, 6, 7, 8, 9, 10, 11, 12, 13, 14, 15] [] rfl rfl (by decide) (by decide) rfl rfl rfl rfl rfl hl.1 (Nat.le_of_ble_eq_true rfl) dX9_mustStay_85 ⟨Nat.le_of_ble_eq_true rfl, Nat.le_of_ble_eq_true rfl⟩ (fun r_4 u H locs hw_5 hP hD hS => ?_)
      try dsimp only at hw_5
      have hP : va_P D vwCl [] H := hP
      have hD : va_D A [] := hD
      subst hw_5
      refine lv_if_eq (tgt := 103) hx hb dX9_mustStay_88 (by decide) (fun c_88 => absurd c_88 (by decide)) (fun _ => ?_)
      refine lv_iload_n hx hb dX9_mustStay_91 rfl (lv_at hl 6 rfl) ?_
      refine lv_if_ne (tgt := 100) hx hb dX9_mustStay_92 (by decide) (fun c_92 => ?_) (fun c_92 => ?_)
      · refine lv_iload hx hb dX9_mustStay_100 (lv_at hl 1 rfl) ?_
        exact ret _ _ _ _ 0 () dX9_mustStay_102 rfl (iI1 ⟨bIt c_7, bIt c_16⟩) (hP.sub [] rfl) (hD.sub [] (by decide) rfl) hS
      · refine lv_iload hx hb dX9_mustStay_95 (lv_at hl 2 rfl) ?_
        refine lv_goto (tgt := 102) hx hb dX9_mustStay_97 (by decide) ?_
        exact ret _ _ _ _ 0 () dX9_mustStay_102 rfl (iI1 ⟨bIt c_7, bIt c_16⟩) (hP.sub [] rfl) (hD.sub [] (by decide) rfl) hS
    · refine lv_iconst (v := (-1)) hx hb dX9_mustStay_19 (by decide) ?_
      exact ret _ _ _ _ (-1) () dX9_mustStay_20 rfl (iI0 (fun h => bIf c_16 h.2)) (hP.sub [] rfl) (hD.sub [] (by decide) rfl) hS

set_option maxRecDepth 100000 in
set_option maxHeartbeats 4000000 in
theorem c_X9_keep (l : Launch) (D : va_G) (cI cB : ClassId) (sz : Nat) (h0 : Nat) (tp : Nat) (tw : Nat) (nw : Nat) (kp : Nat) (lw : Nat) (lr : Nat) (dd : Nat) (vv : Nat) (tl : Nat) (sc : Nat) (u2 : Nat) (f2 : Nat) (g2 : Nat) (fu2 : Nat → Int32) (ff2 : Nat → Int32) (fg2 : Nat → Int32) (u3 : Nat) (f3 : Nat) (g3 : Nat) (ms : Int32) (dy : Int32) (dr : Int32) (fu3 : Nat → Int32) (ff3 : Nat → Int32) (fg3 : Nat → Int32) (hu : ∀ j, j < 12 → fu2 j = 0) (hf : ∀ j, j < 10 → ff2 j = -2) (hg : ∀ j, j < 10 → fg2 j = -2) : MI (S := Unit) l D cI cB yX9_keep cX9_keep 1 .int (rm 2 81) [.ref h0] [(h0, .inr (9, [.ref tp, .ref tw, .ref nw, .ref kp, .ref lw, .ref lr, .ref dd, .ref vv, .ref tl, .ref sc, .int 0])), (nw, .inr (4, [.ref u2, .ref f2, .ref g2, .int 0, .int 0, .int 1])), (u2, .inl (cI, 12, .inl fu2)), (f2, .inl (cI, 10, .inl ff2)), (g2, .inl (cI, 10, .inl fg2)), (kp, .inr (4, [.ref u3, .ref f3, .ref g3, .int ms, .int dy, .int dr])), (u3, .inl (cI, 12, .inl fu3)), (f3, .inl (cI, 10, .inl ff3)), (g3, .inl (cI, 10, .inl fg3))] sz (fun r u => r = 0) (fun u : Unit => []) := by
  refine MI.of (by decide) (Nat.le_of_ble_eq_true rfl) ?_
  intro p e s m below meth c Q ls A X hin hN hP hK hD hA hl ret
  have hS : va_S A s.heap s.heap [] := va_S.rf
  obtain ⟨hx, hb, hml, hown, htb⟩ := id X
  have hl : lv_has ls 1 [(0, .ref h0)] := hl
  refine lv_aload_n hx hb dX9_keep_0 rfl (lv_at hl 0 rfl) ?_
  refine va_get (D := D) (ci := 9) (v := .ref kp) (C := RX9) (T := TX9) (N := 11) hx hb htb itX9 hown hK hP 0 rfl rfl 3 (by decide) (htb _ k_396) (fun _ h9 => h9) rfl dX9_keep_1 ?_
  refine lv_aload_n hx hb dX9_keep_4 rfl (lv_at hl 0 rfl) ?_
  refine va_get (D := D) (ci := 9) (v := .ref nw) (C := RX9) (T := TX9) (N := 11) hx hb htb itX9 hown hK hP 0 rfl rfl 2 (by decide) (htb _ k_395) (fun _ h9 => h9) rfl dX9_keep_5 ?_
  refine cVV (As := [.ref nw]) (rest := []) (n := 1) (ci := 4) (q0 := 0) (wr := [(h0, .inr (9, [.ref tp, .ref tw, .ref nw, .ref kp, .ref lw, .ref lr, .ref dd, .ref vv, .ref tl, .ref sc, .int 0]))]) X hN hK hP hD hS hA (c_X4_copy l D cI cB _ kp u3 f3 g3 ms dy dr nw u2 f2 g2 0 0 1 fu3 ff3 fg3 fu2 ff2 fg2 hu hf hg) (gV k_849 k_778 k_779 k_95 k_780) (by decide +kernel) ⟨Nat.le_of_ble_eq_true rfl, Nat.le_of_ble_eq_true rfl⟩ ⟨rfl, rfl⟩ [5, 6, 7, 8, 1, 2, 3, 4] [0] rfl rfl (by decide) (by decide) rfl rfl rfl rfl rfl hl.1 (Nat.le_of_ble_eq_true rfl) dX9_keep_8 ⟨Nat.le_of_ble_eq_true rfl, Nat.le_of_ble_eq_true rfl⟩ (fun u H locs hw_5 hP hD hS => ?_)
  obtain ⟨uo_2, fo_3, go_4⟩ := u
  try dsimp only at hw_5
  have hP : va_P D vwCl [(h0, .inr (9, [.ref tp, .ref tw, .ref nw, .ref kp, .ref lw, .ref lr, .ref dd, .ref vv, .ref tl, .ref sc, .int 0])), (kp, .inr (4, [.ref u3, .ref f3, .ref g3, .int 0, .int 0, .int 1])), (u3, .inl (cI, 12, .inl uo_2)), (f3, .inl (cI, 10, .inl fo_3)), (g3, .inl (cI, 10, .inl go_4)), (nw, .inr (4, [.ref u2, .ref f2, .ref g2, .int 0, .int 0, .int 1])), (u2, .inl (cI, 12, .inl fu2)), (f2, .inl (cI, 10, .inl ff2)), (g2, .inl (cI, 10, .inl fg2))] H := hP
  have hD : va_D A [(h0, .inr (9, [.ref tp, .ref tw, .ref nw, .ref kp, .ref lw, .ref lr, .ref dd, .ref vv, .ref tl, .ref sc, .int 0])), (kp, .inr (4, [.ref u3, .ref f3, .ref g3, .int 0, .int 0, .int 1])), (u3, .inl (cI, 12, .inl uo_2)), (f3, .inl (cI, 10, .inl fo_3)), (g3, .inl (cI, 10, .inl go_4)), (nw, .inr (4, [.ref u2, .ref f2, .ref g2, .int 0, .int 0, .int 1])), (u2, .inl (cI, 12, .inl fu2)), (f2, .inl (cI, 10, .inl ff2)), (g2, .inl (cI, 10, .inl fg2))] := hD
  refine lv_aload_n hx hb dX9_keep_11 rfl (lv_at hl 0 rfl) ?_
  refine lv_iconst (v := 1) hx hb dX9_keep_12 (by decide) ?_
  refine va_put (D := D) (ci := 9) (v := .int 1) (ty := .boolean) (C := RX9) (T := TX9) (N := 11) hx hb htb itX9 tyX9 tyX9_ok nmX9 hown hK hP hD hS 0 rfl rfl 10 (by decide) (htb _ k_403) (fun _ h9 => h9) rfl (tyX9_ok 10 (by decide)) rfl rfl (Nat.le_of_ble_eq_true rfl) dX9_keep_13 (fun H locs hP hD hS => ?_)
  have hP : va_P D vwCl [(h0, .inr (9, [.ref tp, .ref tw, .ref nw, .ref kp, .ref lw, .ref lr, .ref dd, .ref vv, .ref tl, .ref sc, .int 1])), (kp, .inr (4, [.ref u3, .ref f3, .ref g3, .int 0, .int 0, .int 1])), (u3, .inl (cI, 12, .inl uo_2)), (f3, .inl (cI, 10, .inl fo_3)), (g3, .inl (cI, 10, .inl go_4)), (nw, .inr (4, [.ref u2, .ref f2, .ref g2, .int 0, .int 0, .int 1])), (u2, .inl (cI, 12, .inl fu2)), (f2, .inl (cI, 10, .inl ff2)), (g2, .inl (cI, 10, .inl fg2))] H := hP
  have hD : va_D A [(h0, .inr (9, [.ref tp, .ref tw, .ref nw, .ref kp, .ref lw, .ref lr, .ref dd, .ref vv, .ref tl, .ref sc, .int 1])), (kp, .inr (4, [.ref u3, .ref f3, .ref g3, .int 0, .int 0, .int 1])), (u3, .inl (cI, 12, .inl uo_2)), (f3, .inl (cI, 10, .inl fo_3)), (g3, .inl (cI, 10, .inl go_4)), (nw, .inr (4, [.ref u2, .ref f2, .ref g2, .int 0, .int 0, .int 1])), (u2, .inl (cI, 12, .inl fu2)), (f2, .inl (cI, 10, .inl ff2)), (g2, .inl (cI, 10, .inl fg2))] := hD
  refine lv_aload_n hx hb dX9_keep_16 rfl (lv_at hl 0 rfl) ?_
  refine va_get (D := D) (ci := 9) (v := .ref nw) (C := RX9) (T := TX9) (N := 11) hx hb htb itX9 hown hK hP 0 rfl rfl 2 (by decide) (htb _ k_395) (fun _ h9 => h9) rfl dX9_keep_17 ?_
  refine va_getN (D := D) (ci := 4) (v := .int 0) (C := RX4) (T := TX4) (N := 6) hx hb htb itX4 hown hK hP 5 rfl rfl 4 (by decide) (va_Nw.use rfl (hN _ n_201 rfl)) (fun _ h9 => h9) rfl dX9_keep_20 ?_
  exact ret _ _ _ _ 0 () dX9_keep_23 rfl rfl (hP.sub [] rfl) (hD.sub [] (by decide) rfl) hS

set_option maxRecDepth 100000 in
set_option maxHeartbeats 4000000 in
theorem c_X9_undo (l : Launch) (D : va_G) (cI cB : ClassId) (h0 : Nat) (tp : Nat) (tw : Nat) (nw : Nat) (kp : Nat) (lw : Nat) (lr : Nat) (dd : Nat) (vv : Nat) (tl : Nat) (sc : Nat)  : MR l D cI cB yX9_undo cX9_undo 1 .boolean (rm 0 0) [.ref h0] [(h0, .inr (9, [.ref tp, .ref tw, .ref nw, .ref kp, .ref lw, .ref lr, .ref dd, .ref vv, .ref tl, .ref sc, .int 0]))] (fun r : Int32 => r = 0) := by
  refine MR.of (by decide) (Nat.le_of_ble_eq_true rfl) ?_
  intro p e s m below meth c Q ls X hN hP hK hl ret
  obtain ⟨hx, hb, hml, hown, htb⟩ := id X
  have hl : lv_has ls 1 [(0, .ref h0)] := hl
  refine lv_aload_n hx hb dX9_undo_0 rfl (lv_at hl 0 rfl) ?_
  refine va_get (D := D) (ci := 9) (v := .int 0) (C := RX9) (T := TX9) (N := 11) hx hb htb itX9 hown hK hP 0 rfl rfl 10 (by decide) (htb _ k_403) (fun _ h9 => h9) rfl dX9_undo_1 ?_
  refine lv_if_eq (tgt := 18) hx hb dX9_undo_4 (by decide) (fun _ => ?_) (fun c_4 => absurd (by decide) c_4)
  refine lv_aload_n hx hb dX9_undo_18 rfl (lv_at hl 0 rfl) ?_
  refine va_get (D := D) (ci := 9) (v := .int 0) (C := RX9) (T := TX9) (N := 11) hx hb htb itX9 hown hK hP 0 rfl rfl 10 (by decide) (htb _ k_403) (fun _ h9 => h9) rfl dX9_undo_19 ?_
  exact ret _ _ 0 dX9_undo_22 rfl rfl

set_option maxRecDepth 100000 in
set_option maxHeartbeats 4000000 in
theorem c_X9_check (l : Launch) (D : va_G) (cI cB : ClassId) (sz : Nat) (h0 : Nat) (tp : Nat) (tw : Nat) (nw : Nat) (kp : Nat) (lw : Nat) (lr : Nat) (dd : Nat) (vv : Nat) (tl : Nat) (sc : Nat) (by_ : Nat) (u2 : Nat) (f2 : Nat) (g2 : Nat) (x1 : Int32)  : MI (S := Unit) l D cI cB yX9_check cX9_check 3 .int (rm 1 23) [.ref h0, .int x1] [(h0, .inr (9, [.ref tp, .ref tw, .ref nw, .ref kp, .ref lw, .ref lr, .ref dd, .ref vv, .ref tl, .ref sc, .int 0])), (tp, .inr (5, [.ref by_, .int 0])), (nw, .inr (4, [.ref u2, .ref f2, .ref g2, .int 0, .int 0, .int 1]))] sz (fun r u => r = iI (x1 = 0) (-1) (-2)) (fun u : Unit => []) := by
  refine MI.of (by decide) (Nat.le_of_ble_eq_true rfl) ?_
  intro p e s m below meth c Q ls A X hin hN hP hK hD hA hl ret
  have hS : va_S A s.heap s.heap [] := va_S.rf
  obtain ⟨hx, hb, hml, hown, htb⟩ := id X
  have hl : lv_has ls 3 [(0, .ref h0), (1, .int x1)] := hl
  refine lv_aload_n hx hb dX9_check_0 rfl (lv_at hl 0 rfl) ?_
  refine va_get (D := D) (ci := 9) (v := .ref tp) (C := RX9) (T := TX9) (N := 11) hx hb htb itX9 hown hK hP 0 rfl rfl 0 (by decide) (htb _ k_393) (fun _ h9 => h9) rfl dX9_check_1 ?_
  refine lv_iload_n hx hb dX9_check_4 rfl (lv_at hl 1 rfl) ?_
  refine lv_iconst (v := 0) hx hb dX9_check_5 (by decide) ?_
  refine lv_bipush (v := 12) hx hb dX9_check_6 (by decide) ?_
  refine cVR (As := [.int x1, .int 0, .int 12]) (rest := []) (n := 3) (ci := 5) (q0 := 0) X hN hK hP (c_X5_canGive l D cI cB tp by_ x1 0 12) (gV k_458 k_459 k_460 k_93 k_461) (by decide +kernel) ⟨Nat.le_of_ble_eq_true rfl, Nat.le_of_ble_eq_true rfl⟩ ⟨rfl, rfl⟩ [1] rfl rfl rfl rfl rfl rfl hl.1 (Nat.le_of_ble_eq_true rfl) dX9_check_8 ⟨Nat.le_of_ble_eq_true rfl, Nat.le_of_ble_eq_true rfl⟩ (fun r_1 hr_1 => ?_)
  subst hr_1
  refine lv_if_ne (tgt := 17) hx hb dX9_check_11 (by decide) (fun c_11 => ?_) (fun c_11 => ?_)
  · refine lv_aload_n hx hb dX9_check_17 rfl (lv_at hl 0 rfl) ?_
    refine lv_aload_n hx hb dX9_check_18 rfl (lv_at hl 0 rfl) ?_
    refine va_get (D := D) (ci := 9) (v := .ref nw) (C := RX9) (T := TX9) (N := 11) hx hb htb itX9 hown hK hP 0 rfl rfl 2 (by decide) (htb _ k_395) (fun _ h9 => h9) rfl dX9_check_19 ?_
    refine lv_iload_n hx hb dX9_check_22 rfl (lv_at hl 1 rfl) ?_
    refine tv (z := 0) (le0 (bIt c_11).1.1 (bIt c_11).2) ?_
    refine cVR (As := [.ref nw, .int 0]) (rest := []) (n := 2) (ci := 9) (q0 := 0) X hN hK hP (c_X9_firstOther l D cI cB h0 tp tw nw kp lw lr dd vv tl sc nw) (gV k_980 k_982 k_28 k_92 k_983) (by decide +kernel) ⟨Nat.le_of_ble_eq_true rfl, Nat.le_of_ble_eq_true rfl⟩ ⟨rfl, rfl⟩ [0] rfl rfl rfl rfl rfl rfl hl.1 (Nat.le_of_ble_eq_true rfl) dX9_check_23 ⟨Nat.le_of_ble_eq_true rfl, Nat.le_of_ble_eq_true rfl⟩ (fun r_2 hr_2 => ?_)
    subst hr_2
    refine lv_istore_n (lv' := [(2, .int (-1)), (0, .ref h0), (1, .int x1)]) hx hb dX9_check_26 rfl hl (by decide) rfl (fun ls hl => ?_)
    refine lv_aload_n hx hb dX9_check_27 rfl (lv_at hl 1 rfl) ?_
    refine va_get (D := D) (ci := 9) (v := .ref tp) (C := RX9) (T := TX9) (N := 11) hx hb htb itX9 hown hK hP 0 rfl rfl 0 (by decide) (htb _ k_393) (fun _ h9 => h9) rfl dX9_check_28 ?_
    refine lv_iconst (v := 0) hx hb dX9_check_31 (by decide) ?_
    refine va_putN (D := D) (ci := 5) (v := .int 0) (ty := .int) (C := RX5) (T := TX5) (N := 2) hx hb htb itX5 tyX5 tyX5_ok nmX5 hown hK hP hD hS 1 rfl rfl 1 (by decide) (va_Nw.use rfl (hN _ n_130 rfl)) (fun _ h9 => h9) rfl (tyX5_ok 1 (by decide)) rfl rfl (Nat.le_of_ble_eq_true rfl) dX9_check_32 (fun H locs hP hD hS => ?_)
    have hP : va_P D vwCl [(h0, .inr (9, [.ref tp, .ref tw, .ref nw, .ref kp, .ref lw, .ref lr, .ref dd, .ref vv, .ref tl, .ref sc, .int 0])), (tp, .inr (5, [.ref by_, .int 0])), (nw, .inr (4, [.ref u2, .ref f2, .ref g2, .int 0, .int 0, .int 1]))] H := hP
    have hD : va_D A [(h0, .inr (9, [.ref tp, .ref tw, .ref nw, .ref kp, .ref lw, .ref lr, .ref dd, .ref vv, .ref tl, .ref sc, .int 0])), (tp, .inr (5, [.ref by_, .int 0])), (nw, .inr (4, [.ref u2, .ref f2, .ref g2, .int 0, .int 0, .int 1]))] := hD
    refine lv_iload_n hx hb dX9_check_35 rfl (lv_at hl 0 rfl) ?_
    exact ret _ _ _ _ (-1) () dX9_check_36 rfl (iI1 (le0 (bIt c_11).1.1 (bIt c_11).2)) (hP.sub [] rfl) (hD.sub [] (by decide) rfl) hS
  · refine lv_bipush (v := (-2)) hx hb dX9_check_14 (by decide) ?_
    exact ret _ _ _ _ (-2) () dX9_check_16 rfl (iI0 (fun h => bIf c_11 (by rw [h]; decide))) (hP.sub [] rfl) (hD.sub [] (by decide) rfl) hS
end
section
set_option maxRecDepth 100000 in
set_option maxHeartbeats 4000000 in
theorem c_X10_bits (l : Launch) (D : va_G) (cI cB : ClassId) (a : Int32)  : MR l D cI cB yX10_bits cX10_bits 3 .int (rm 0 0) [.int a] [] (fun r : Int32 => a = 0 → r = 0) := by
  refine MR.of (by decide) (Nat.le_of_ble_eq_true rfl) ?_
  intro p e s m below meth c Q ls X hN hP hK hl ret
  obtain ⟨hx, hb, hml, hown, htb⟩ := id X
  have hl : lv_has ls 3 [(0, .int a)] := hl
  refine lv_iconst (v := 0) hx hb dX10_bits_0 (by decide) ?_
  refine lv_istore_n (lv' := [(1, .int 0), (0, .int a)]) hx hb dX10_bits_1 rfl hl (by decide) rfl (fun ls hl => ?_)
  refine lv_iconst (v := 0) hx hb dX10_bits_2 (by decide) ?_
  refine lv_istore_n (lv' := [(2, .int 0), (1, .int 0), (0, .int a)]) hx hb dX10_bits_3 rfl hl (by decide) rfl (fun ls hl => ?_)
  have loop_4 : ∀ (n i : Nat) (v : Int32), n + i = 12 → (a = 0 → v = 0) → ∀ (ls : Array Slot), lv_has ls 3 [(0, .int a), (1, .int v), (2, .int (nI i))] → W p l e (rm 0 0) s m ([.int a] : List Value).toArray below meth c s.heap [] 0 0 Q (F0 m 4 ls []) := by
    intro n
    induction n with
    | zero =>
      intro i v hni hv ls hl
      have hi : i = 12 := by omega
      subst hi
      refine lv_iload_n hx hb dX10_bits_4 rfl (lv_at hl 2 rfl) ?_
      refine lv_bipush (v := 12) hx hb dX10_bits_5 (by decide) ?_
      refine lv_icmp_ge (tgt := 24) hx hb dX10_bits_7 (by decide) (fun _ => ?_) (fun c_7 => absurd (by decide) c_7)
      refine lv_iload_n hx hb dX10_bits_24 rfl (lv_at hl 1 rfl) ?_
      exact ret _ _ v dX10_bits_25 rfl hv
    | succ n ih =>
      intro i v hni hv ls hl
      have hi : i < 12 := by omega
      refine lv_iload_n hx hb dX10_bits_4 rfl (lv_at hl 2 rfl) ?_
      refine lv_bipush (v := 12) hx hb dX10_bits_5 (by decide) ?_
      refine lv_icmp_ge (tgt := 24) hx hb dX10_bits_7 (by decide) (fun c_7 => absurd c_7 (nI_ge hi (by decide))) (fun _ => ?_)
      refine lv_iload_n hx hb dX10_bits_10 rfl (lv_at hl 1 rfl) ?_
      refine lv_iload_n hx hb dX10_bits_11 rfl (lv_at hl 0 rfl) ?_
      refine lv_iload_n hx hb dX10_bits_12 rfl (lv_at hl 2 rfl) ?_
      refine lv_ishr hx hb dX10_bits_13 ?_
      refine lv_iconst (v := 1) hx hb dX10_bits_14 (by decide) ?_
      refine lv_iand hx hb dX10_bits_15 ?_
      refine lv_iadd hx hb dX10_bits_16 ?_
      refine lv_topi (fun x_1 ex_1 => ?_)
      refine lv_istore_n (lv' := [(1, .int x_1), (0, .int a), (2, .int (nI i))]) hx hb dX10_bits_17 rfl hl (by decide) rfl (fun ls hl => ?_)
      refine lv_iinc (v := (nI (i + 1))) (lv' := [(2, .int (nI (i + 1))), (1, .int x_1), (0, .int a)]) hx hb dX10_bits_18 hl (k := 2) rfl (nI_1 i) (by decide) rfl (fun ls hl => ?_)
      refine lv_goto (tgt := 4) hx hb dX10_bits_21 (by decide) ?_
      exact ih (i + 1) x_1 (by omega) (fun h => by rw [ex_1, hv h, h, sz0]; decide) _ (lv_sub hl [2, 1, 0] rfl)
  exact loop_4 12 0 0 (by omega) (fun _ => rfl) _ (lv_sub hl [2, 1, 0] rfl)

set_option maxRecDepth 100000 in
set_option maxHeartbeats 4000000 in
theorem c_X10_areDays (l : Launch) (D : va_G) (cI cB : ClassId) (x : Int32)  : MR l D cI cB yX10_areDays cX10_areDays 1 .boolean (rm 1 22) [.int x] [] (fun r : Int32 => r = bI (1 ≤ x ∧ x ≤ 60)) := by
  refine MR.of (by decide) (Nat.le_of_ble_eq_true rfl) ?_
  intro p e s m below meth c Q ls X hN hP hK hl ret
  obtain ⟨hx, hb, hml, hown, htb⟩ := id X
  have hl : lv_has ls 1 [(0, .int x)] := hl
  refine lv_iload_n hx hb dX10_areDays_0 rfl (lv_at hl 0 rfl) ?_
  refine lv_iconst (v := 1) hx hb dX10_areDays_1 (by decide) ?_
  refine lv_bipush (v := 60) hx hb dX10_areDays_2 (by decide) ?_
  refine cSR (As := [.int x, .int 1, .int 60]) (rest := []) (n := 3) X hN hK hP (c_X10_in l D cI cB x 1 60) k_1268 k_1269 k_103 k_1270 (by decide +kernel) ⟨Nat.le_of_ble_eq_true rfl, Nat.le_of_ble_eq_true rfl⟩ ⟨rfl, rfl⟩ [] rfl rfl rfl hl.1 (Nat.le_of_ble_eq_true rfl) dX10_areDays_4 ⟨Nat.le_of_ble_eq_true rfl, Nat.le_of_ble_eq_true rfl⟩ (fun r_1 hr_1 => ?_)
  subst hr_1
  exact ret _ _ (bI (1 ≤ x ∧ x ≤ 60)) dX10_areDays_7 (bIn _) rfl

set_option maxRecDepth 100000 in
set_option maxHeartbeats 4000000 in
theorem c_X10_isPerson (l : Launch) (D : va_G) (cI cB : ClassId) (h0 : Nat) (a_now : Nat) (a_aside : Nat) (a_kept : Nat) (a_keptFrom : Nat) (a_keptTo : Nat) (a_capOf : Nat) (a_leaveFrom : Nat) (a_leaveTo : Nat) (a_amountOf : Nat) (a_doerMany : Nat) (a_doerOf : Nat) (a_tape : Nat) (a_said : Nat) (a_waitsAt : Nat) (a_saidLetter : Nat) (a_saidFrom : Nat) (a_saidHalf : Nat) (a_saidTo : Nat) (a_codes : Nat) (a_clauseOf : Nat) (a_codeFrom : Nat) (a_codeHalf : Nat) (a_codeTo : Nat) (a_stack : Nat) (a_facts : Nat) (a_lineChore : Nat) (a_lineMany : Nat) (a_lineDoer : Nat) (a_newFrom : Nat) (a_newTo : Nat) (a_goFrom : Nat) (a_goTo : Nat) (a_idleFrom : Nat) (a_idleTo : Nat) (a_moreOf : Nat) (a_firstOf : Nat) (a_leftOf : Nat) (a_didOf : Nat) (a_costBy : Nat) (a_gainBy : Nat) (a_hiredOf : Nat) (a_hiredBest : Nat) (a_hiredTo : Nat) (a_turnOf : Nat) (a_turnWho : Nat) (rv : Int32) (du : Int32) (cl : Int32) (gd : Int32) (k : Int32)  : MR l D cI cB yX10_isPerson cX10_isPerson 2 .boolean (rm 1 21) [.ref h0, .int k] [(h0, .inr (10, [.ref a_now, .ref a_aside, .ref a_kept, .ref a_keptFrom, .ref a_keptTo, .ref a_capOf, .ref a_leaveFrom, .ref a_leaveTo, .ref a_amountOf, .ref a_doerMany, .ref a_doerOf, .int 0, .int 0, .int 0, .ref a_tape, .int 0, .int 0, .int 0, .int 0, .int 0, .int 0, .int 0, .int 0, .int 0, .int 0, .ref a_said, .ref a_waitsAt, .ref a_saidLetter, .ref a_saidFrom, .ref a_saidHalf, .ref a_saidTo, .ref a_codes, .ref a_clauseOf, .ref a_codeFrom, .ref a_codeHalf, .ref a_codeTo, .ref a_stack, .ref a_facts, .ref a_lineChore, .ref a_lineMany, .ref a_lineDoer, .ref a_newFrom, .ref a_newTo, .int 0, .ref a_goFrom, .ref a_goTo, .ref a_idleFrom, .ref a_idleTo, .ref a_moreOf, .ref a_firstOf, .ref a_leftOf, .ref a_didOf, .int rv, .int du, .int cl, .int gd, .ref a_costBy, .int 0, .ref a_gainBy, .ref a_hiredOf, .ref a_hiredBest, .ref a_hiredTo, .ref a_turnOf, .ref a_turnWho, .int 0]))] (fun r : Int32 => r = 0) := by
  refine MR.of (by decide) (Nat.le_of_ble_eq_true rfl) ?_
  intro p e s m below meth c Q ls X hN hP hK hl ret
  obtain ⟨hx, hb, hml, hown, htb⟩ := id X
  have hl : lv_has ls 2 [(0, .ref h0), (1, .int k)] := hl
  refine lv_iload_n hx hb dX10_isPerson_0 rfl (lv_at hl 1 rfl) ?_
  refine lv_if_lt (tgt := 25) hx hb dX10_isPerson_1 (by decide) (fun c_1 => ?_) (fun c_1 => ?_)
  · refine lv_iconst (v := 0) hx hb dX10_isPerson_25 (by decide) ?_
    exact ret _ _ 0 dX10_isPerson_26 rfl rfl
  · refine lv_iload_n hx hb dX10_isPerson_4 rfl (lv_at hl 1 rfl) ?_
    refine lv_bipush (v := 10) hx hb dX10_isPerson_5 (by decide) ?_
    refine lv_icmp_ge (tgt := 25) hx hb dX10_isPerson_7 (by decide) (fun c_7 => ?_) (fun c_7 => ?_)
    · refine lv_iconst (v := 0) hx hb dX10_isPerson_25 (by decide) ?_
      exact ret _ _ 0 dX10_isPerson_26 rfl rfl
    · refine lv_aload_n hx hb dX10_isPerson_10 rfl (lv_at hl 0 rfl) ?_
      refine va_get (D := D) (ci := 10) (v := .int 0) (C := RX10) (T := TX10) (N := 65) hx hb htb itX10 hown hK hP 0 rfl rfl 11 (by decide) (htb _ k_1079) (fun _ h9 => h9) rfl dX10_isPerson_11 ?_
      refine lv_iload_n hx hb dX10_isPerson_14 rfl (lv_at hl 1 rfl) ?_
      refine cSR (As := [.int 0, .int k]) (rest := []) (n := 2) X hN hK hP (c_X10_has l D cI cB 0 k) k_1385 k_1386 k_103 k_1387 (by decide +kernel) ⟨Nat.le_of_ble_eq_true rfl, Nat.le_of_ble_eq_true rfl⟩ ⟨rfl, rfl⟩ [] rfl rfl rfl hl.1 (Nat.le_of_ble_eq_true rfl) dX10_isPerson_15 ⟨Nat.le_of_ble_eq_true rfl, Nat.le_of_ble_eq_true rfl⟩ (fun r_1 hr_1 => ?_)
      subst hr_1
      refine lv_if_eq (tgt := 25) hx hb dX10_isPerson_18 (by decide) (fun _ => ?_) (fun c_18 => absurd ((bI0 (sh0 _)).symm) c_18)
      refine lv_iconst (v := 0) hx hb dX10_isPerson_25 (by decide) ?_
      exact ret _ _ 0 dX10_isPerson_26 rfl rfl

set_option maxRecDepth 100000 in
set_option maxHeartbeats 4000000 in
theorem c_X10_isChore (l : Launch) (D : va_G) (cI cB : ClassId) (h0 : Nat) (a_now : Nat) (a_aside : Nat) (a_kept : Nat) (a_keptFrom : Nat) (a_keptTo : Nat) (a_capOf : Nat) (a_leaveFrom : Nat) (a_leaveTo : Nat) (a_amountOf : Nat) (a_doerMany : Nat) (a_doerOf : Nat) (a_tape : Nat) (a_said : Nat) (a_waitsAt : Nat) (a_saidLetter : Nat) (a_saidFrom : Nat) (a_saidHalf : Nat) (a_saidTo : Nat) (a_codes : Nat) (a_clauseOf : Nat) (a_codeFrom : Nat) (a_codeHalf : Nat) (a_codeTo : Nat) (a_stack : Nat) (a_facts : Nat) (a_lineChore : Nat) (a_lineMany : Nat) (a_lineDoer : Nat) (a_newFrom : Nat) (a_newTo : Nat) (a_goFrom : Nat) (a_goTo : Nat) (a_idleFrom : Nat) (a_idleTo : Nat) (a_moreOf : Nat) (a_firstOf : Nat) (a_leftOf : Nat) (a_didOf : Nat) (a_costBy : Nat) (a_gainBy : Nat) (a_hiredOf : Nat) (a_hiredBest : Nat) (a_hiredTo : Nat) (a_turnOf : Nat) (a_turnWho : Nat) (rv : Int32) (du : Int32) (cl : Int32) (gd : Int32) (k : Int32)  : MR l D cI cB yX10_isChore cX10_isChore 2 .boolean (rm 1 21) [.ref h0, .int k] [(h0, .inr (10, [.ref a_now, .ref a_aside, .ref a_kept, .ref a_keptFrom, .ref a_keptTo, .ref a_capOf, .ref a_leaveFrom, .ref a_leaveTo, .ref a_amountOf, .ref a_doerMany, .ref a_doerOf, .int 0, .int 0, .int 0, .ref a_tape, .int 0, .int 0, .int 0, .int 0, .int 0, .int 0, .int 0, .int 0, .int 0, .int 0, .ref a_said, .ref a_waitsAt, .ref a_saidLetter, .ref a_saidFrom, .ref a_saidHalf, .ref a_saidTo, .ref a_codes, .ref a_clauseOf, .ref a_codeFrom, .ref a_codeHalf, .ref a_codeTo, .ref a_stack, .ref a_facts, .ref a_lineChore, .ref a_lineMany, .ref a_lineDoer, .ref a_newFrom, .ref a_newTo, .int 0, .ref a_goFrom, .ref a_goTo, .ref a_idleFrom, .ref a_idleTo, .ref a_moreOf, .ref a_firstOf, .ref a_leftOf, .ref a_didOf, .int rv, .int du, .int cl, .int gd, .ref a_costBy, .int 0, .ref a_gainBy, .ref a_hiredOf, .ref a_hiredBest, .ref a_hiredTo, .ref a_turnOf, .ref a_turnWho, .int 0]))] (fun r : Int32 => r = 0) := by
  refine MR.of (by decide) (Nat.le_of_ble_eq_true rfl) ?_
  intro p e s m below meth c Q ls X hN hP hK hl ret
  obtain ⟨hx, hb, hml, hown, htb⟩ := id X
  have hl : lv_has ls 2 [(0, .ref h0), (1, .int k)] := hl
  refine lv_iload_n hx hb dX10_isChore_0 rfl (lv_at hl 1 rfl) ?_
  refine lv_if_lt (tgt := 25) hx hb dX10_isChore_1 (by decide) (fun c_1 => ?_) (fun c_1 => ?_)
  · refine lv_iconst (v := 0) hx hb dX10_isChore_25 (by decide) ?_
    exact ret _ _ 0 dX10_isChore_26 rfl rfl
  · refine lv_iload_n hx hb dX10_isChore_4 rfl (lv_at hl 1 rfl) ?_
    refine lv_bipush (v := 12) hx hb dX10_isChore_5 (by decide) ?_
    refine lv_icmp_ge (tgt := 25) hx hb dX10_isChore_7 (by decide) (fun c_7 => ?_) (fun c_7 => ?_)
    · refine lv_iconst (v := 0) hx hb dX10_isChore_25 (by decide) ?_
      exact ret _ _ 0 dX10_isChore_26 rfl rfl
    · refine lv_aload_n hx hb dX10_isChore_10 rfl (lv_at hl 0 rfl) ?_
      refine va_get (D := D) (ci := 10) (v := .int 0) (C := RX10) (T := TX10) (N := 65) hx hb htb itX10 hown hK hP 0 rfl rfl 12 (by decide) (htb _ k_1080) (fun _ h9 => h9) rfl dX10_isChore_11 ?_
      refine lv_iload_n hx hb dX10_isChore_14 rfl (lv_at hl 1 rfl) ?_
      refine cSR (As := [.int 0, .int k]) (rest := []) (n := 2) X hN hK hP (c_X10_has l D cI cB 0 k) k_1385 k_1386 k_103 k_1387 (by decide +kernel) ⟨Nat.le_of_ble_eq_true rfl, Nat.le_of_ble_eq_true rfl⟩ ⟨rfl, rfl⟩ [] rfl rfl rfl hl.1 (Nat.le_of_ble_eq_true rfl) dX10_isChore_15 ⟨Nat.le_of_ble_eq_true rfl, Nat.le_of_ble_eq_true rfl⟩ (fun r_1 hr_1 => ?_)
      subst hr_1
      refine lv_if_eq (tgt := 25) hx hb dX10_isChore_18 (by decide) (fun _ => ?_) (fun c_18 => absurd ((bI0 (sh0 _)).symm) c_18)
      refine lv_iconst (v := 0) hx hb dX10_isChore_25 (by decide) ?_
      exact ret _ _ 0 dX10_isChore_26 rfl rfl

set_option maxRecDepth 100000 in
set_option maxHeartbeats 4000000 in
theorem c_X10_hasLeave (l : Launch) (D : va_G) (cI cB : ClassId) (h0 : Nat) (a_now : Nat) (a_aside : Nat) (a_kept : Nat) (a_keptFrom : Nat) (a_keptTo : Nat) (a_capOf : Nat) (a_leaveFrom : Nat) (a_leaveTo : Nat) (a_amountOf : Nat) (a_doerMany : Nat) (a_doerOf : Nat) (a_tape : Nat) (a_said : Nat) (a_waitsAt : Nat) (a_saidLetter : Nat) (a_saidFrom : Nat) (a_saidHalf : Nat) (a_saidTo : Nat) (a_codes : Nat) (a_clauseOf : Nat) (a_codeFrom : Nat) (a_codeHalf : Nat) (a_codeTo : Nat) (a_stack : Nat) (a_facts : Nat) (a_lineChore : Nat) (a_lineMany : Nat) (a_lineDoer : Nat) (a_newFrom : Nat) (a_newTo : Nat) (a_goFrom : Nat) (a_goTo : Nat) (a_idleFrom : Nat) (a_idleTo : Nat) (a_moreOf : Nat) (a_firstOf : Nat) (a_leftOf : Nat) (a_didOf : Nat) (a_costBy : Nat) (a_gainBy : Nat) (a_hiredOf : Nat) (a_hiredBest : Nat) (a_hiredTo : Nat) (a_turnOf : Nat) (a_turnWho : Nat) (rv : Int32) (du : Int32) (cl : Int32) (gd : Int32) (k : Nat) (fl : Nat → Int32) (hk : k < 10) (hf : ∀ j, j < 10 → fl j = -2) : MR l D cI cB yX10_hasLeave cX10_hasLeave 2 .boolean (rm 0 0) [.ref h0, .int (nI k)] [(h0, .inr (10, [.ref a_now, .ref a_aside, .ref a_kept, .ref a_keptFrom, .ref a_keptTo, .ref a_capOf, .ref a_leaveFrom, .ref a_leaveTo, .ref a_amountOf, .ref a_doerMany, .ref a_doerOf, .int 0, .int 0, .int 0, .ref a_tape, .int 0, .int 0, .int 0, .int 0, .int 0, .int 0, .int 0, .int 0, .int 0, .int 0, .ref a_said, .ref a_waitsAt, .ref a_saidLetter, .ref a_saidFrom, .ref a_saidHalf, .ref a_saidTo, .ref a_codes, .ref a_clauseOf, .ref a_codeFrom, .ref a_codeHalf, .ref a_codeTo, .ref a_stack, .ref a_facts, .ref a_lineChore, .ref a_lineMany, .ref a_lineDoer, .ref a_newFrom, .ref a_newTo, .int 0, .ref a_goFrom, .ref a_goTo, .ref a_idleFrom, .ref a_idleTo, .ref a_moreOf, .ref a_firstOf, .ref a_leftOf, .ref a_didOf, .int rv, .int du, .int cl, .int gd, .ref a_costBy, .int 0, .ref a_gainBy, .ref a_hiredOf, .ref a_hiredBest, .ref a_hiredTo, .ref a_turnOf, .ref a_turnWho, .int 0])), (a_leaveFrom, .inl (cI, 10, .inl fl))] (fun r : Int32 => r = 0) := by
  refine MR.of (by decide) (Nat.le_of_ble_eq_true rfl) ?_
  intro p e s m below meth c Q ls X hN hP hK hl ret
  obtain ⟨hx, hb, hml, hown, htb⟩ := id X
  have hl : lv_has ls 2 [(0, .ref h0), (1, .int (nI k))] := hl
  refine lv_aload_n hx hb dX10_hasLeave_0 rfl (lv_at hl 0 rfl) ?_
  refine va_get (D := D) (ci := 10) (v := .ref a_leaveFrom) (C := RX10) (T := TX10) (N := 65) hx hb htb itX10 hown hK hP 0 rfl rfl 6 (by decide) (htb _ k_1074) (fun _ h9 => h9) rfl dX10_hasLeave_1 ?_
  refine lv_iload_n hx hb dX10_hasLeave_4 rfl (lv_at hl 1 rfl) ?_
  refine va_iald hx hb hK hP 1 0 rfl rfl (vp_in_nI (by omega) (by decide)) dX10_hasLeave_5 ?_
  refine tv (z := (-2)) (by rw [nI_clamp (by omega)]; exact hf _ hk) ?_
  refine lv_bipush (v := (-2)) hx hb dX10_hasLeave_6 (by decide) ?_
  refine lv_icmp_eq (tgt := 15) hx hb dX10_hasLeave_8 (by decide) (fun _ => ?_) (fun c_8 => absurd (by decide) c_8)
  refine lv_iconst (v := 0) hx hb dX10_hasLeave_15 (by decide) ?_
  exact ret _ _ 0 dX10_hasLeave_16 rfl rfl

set_option maxRecDepth 100000 in
set_option maxHeartbeats 4000000 in
theorem c_X10_isGoer (l : Launch) (D : va_G) (cI cB : ClassId) (h0 : Nat) (a_now : Nat) (a_aside : Nat) (a_kept : Nat) (a_keptFrom : Nat) (a_keptTo : Nat) (a_capOf : Nat) (a_leaveFrom : Nat) (a_leaveTo : Nat) (a_amountOf : Nat) (a_doerMany : Nat) (a_doerOf : Nat) (a_tape : Nat) (a_said : Nat) (a_waitsAt : Nat) (a_saidLetter : Nat) (a_saidFrom : Nat) (a_saidHalf : Nat) (a_saidTo : Nat) (a_codes : Nat) (a_clauseOf : Nat) (a_codeFrom : Nat) (a_codeHalf : Nat) (a_codeTo : Nat) (a_stack : Nat) (a_facts : Nat) (a_lineChore : Nat) (a_lineMany : Nat) (a_lineDoer : Nat) (a_newFrom : Nat) (a_newTo : Nat) (a_goFrom : Nat) (a_goTo : Nat) (a_idleFrom : Nat) (a_idleTo : Nat) (a_moreOf : Nat) (a_firstOf : Nat) (a_leftOf : Nat) (a_didOf : Nat) (a_costBy : Nat) (a_gainBy : Nat) (a_hiredOf : Nat) (a_hiredBest : Nat) (a_hiredTo : Nat) (a_turnOf : Nat) (a_turnWho : Nat) (rv : Int32) (du : Int32) (cl : Int32) (gd : Int32) (k : Int32)  : MR l D cI cB yX10_isGoer cX10_isGoer 2 .boolean (rm 2 42) [.ref h0, .int k] [(h0, .inr (10, [.ref a_now, .ref a_aside, .ref a_kept, .ref a_keptFrom, .ref a_keptTo, .ref a_capOf, .ref a_leaveFrom, .ref a_leaveTo, .ref a_amountOf, .ref a_doerMany, .ref a_doerOf, .int 0, .int 0, .int 0, .ref a_tape, .int 0, .int 0, .int 0, .int 0, .int 0, .int 0, .int 0, .int 0, .int 0, .int 0, .ref a_said, .ref a_waitsAt, .ref a_saidLetter, .ref a_saidFrom, .ref a_saidHalf, .ref a_saidTo, .ref a_codes, .ref a_clauseOf, .ref a_codeFrom, .ref a_codeHalf, .ref a_codeTo, .ref a_stack, .ref a_facts, .ref a_lineChore, .ref a_lineMany, .ref a_lineDoer, .ref a_newFrom, .ref a_newTo, .int 0, .ref a_goFrom, .ref a_goTo, .ref a_idleFrom, .ref a_idleTo, .ref a_moreOf, .ref a_firstOf, .ref a_leftOf, .ref a_didOf, .int rv, .int du, .int cl, .int gd, .ref a_costBy, .int 0, .ref a_gainBy, .ref a_hiredOf, .ref a_hiredBest, .ref a_hiredTo, .ref a_turnOf, .ref a_turnWho, .int 0]))] (fun r : Int32 => r = 0) := by
  refine MR.of (by decide) (Nat.le_of_ble_eq_true rfl) ?_
  intro p e s m below meth c Q ls X hN hP hK hl ret
  obtain ⟨hx, hb, hml, hown, htb⟩ := id X
  have hl : lv_has ls 2 [(0, .ref h0), (1, .int k)] := hl
  refine lv_aload_n hx hb dX10_isGoer_0 rfl (lv_at hl 0 rfl) ?_
  refine lv_iload_n hx hb dX10_isGoer_1 rfl (lv_at hl 1 rfl) ?_
  refine cVR (As := [.int k]) (rest := []) (n := 1) (ci := 10) (q0 := 0) X hN hK hP (c_X10_isPerson l D cI cB h0 a_now a_aside a_kept a_keptFrom a_keptTo a_capOf a_leaveFrom a_leaveTo a_amountOf a_doerMany a_doerOf a_tape a_said a_waitsAt a_saidLetter a_saidFrom a_saidHalf a_saidTo a_codes a_clauseOf a_codeFrom a_codeHalf a_codeTo a_stack a_facts a_lineChore a_lineMany a_lineDoer a_newFrom a_newTo a_goFrom a_goTo a_idleFrom a_idleTo a_moreOf a_firstOf a_leftOf a_didOf a_costBy a_gainBy a_hiredOf a_hiredBest a_hiredTo a_turnOf a_turnWho rv du cl gd k) (gV k_1451 k_1453 k_65 k_103 k_1454) (by decide +kernel) ⟨Nat.le_of_ble_eq_true rfl, Nat.le_of_ble_eq_true rfl⟩ ⟨rfl, rfl⟩ [0] rfl rfl rfl rfl rfl rfl hl.1 (Nat.le_of_ble_eq_true rfl) dX10_isGoer_2 ⟨Nat.le_of_ble_eq_true rfl, Nat.le_of_ble_eq_true rfl⟩ (fun r_1 hr_1 => ?_)
  subst hr_1
  refine lv_if_eq (tgt := 20) hx hb dX10_isGoer_5 (by decide) (fun _ => ?_) (fun c_5 => absurd (by decide) c_5)
  refine lv_iconst (v := 0) hx hb dX10_isGoer_20 (by decide) ?_
  exact ret _ _ 0 dX10_isGoer_21 rfl rfl

set_option maxRecDepth 100000 in
set_option maxHeartbeats 4000000 in
theorem c_X10_leaveSet (l : Launch) (D : va_G) (cI cB : ClassId) (h0 : Nat) (a_now : Nat) (a_aside : Nat) (a_kept : Nat) (a_keptFrom : Nat) (a_keptTo : Nat) (a_capOf : Nat) (a_leaveFrom : Nat) (a_leaveTo : Nat) (a_amountOf : Nat) (a_doerMany : Nat) (a_doerOf : Nat) (a_tape : Nat) (a_said : Nat) (a_waitsAt : Nat) (a_saidLetter : Nat) (a_saidFrom : Nat) (a_saidHalf : Nat) (a_saidTo : Nat) (a_codes : Nat) (a_clauseOf : Nat) (a_codeFrom : Nat) (a_codeHalf : Nat) (a_codeTo : Nat) (a_stack : Nat) (a_facts : Nat) (a_lineChore : Nat) (a_lineMany : Nat) (a_lineDoer : Nat) (a_newFrom : Nat) (a_newTo : Nat) (a_goFrom : Nat) (a_goTo : Nat) (a_idleFrom : Nat) (a_idleTo : Nat) (a_moreOf : Nat) (a_firstOf : Nat) (a_leftOf : Nat) (a_didOf : Nat) (a_costBy : Nat) (a_gainBy : Nat) (a_hiredOf : Nat) (a_hiredBest : Nat) (a_hiredTo : Nat) (a_turnOf : Nat) (a_turnWho : Nat) (rv : Int32) (du : Int32) (cl : Int32) (gd : Int32) (fl : Nat → Int32) (hf : ∀ j, j < 10 → fl j = -2) : MR l D cI cB yX10_leaveSet cX10_leaveSet 3 .int (rm 1 21) [.ref h0] [(h0, .inr (10, [.ref a_now, .ref a_aside, .ref a_kept, .ref a_keptFrom, .ref a_keptTo, .ref a_capOf, .ref a_leaveFrom, .ref a_leaveTo, .ref a_amountOf, .ref a_doerMany, .ref a_doerOf, .int 0, .int 0, .int 0, .ref a_tape, .int 0, .int 0, .int 0, .int 0, .int 0, .int 0, .int 0, .int 0, .int 0, .int 0, .ref a_said, .ref a_waitsAt, .ref a_saidLetter, .ref a_saidFrom, .ref a_saidHalf, .ref a_saidTo, .ref a_codes, .ref a_clauseOf, .ref a_codeFrom, .ref a_codeHalf, .ref a_codeTo, .ref a_stack, .ref a_facts, .ref a_lineChore, .ref a_lineMany, .ref a_lineDoer, .ref a_newFrom, .ref a_newTo, .int 0, .ref a_goFrom, .ref a_goTo, .ref a_idleFrom, .ref a_idleTo, .ref a_moreOf, .ref a_firstOf, .ref a_leftOf, .ref a_didOf, .int rv, .int du, .int cl, .int gd, .ref a_costBy, .int 0, .ref a_gainBy, .ref a_hiredOf, .ref a_hiredBest, .ref a_hiredTo, .ref a_turnOf, .ref a_turnWho, .int 0])), (a_leaveFrom, .inl (cI, 10, .inl fl))] (fun r : Int32 => r = 0) := by
  refine MR.of (by decide) (Nat.le_of_ble_eq_true rfl) ?_
  intro p e s m below meth c Q ls X hN hP hK hl ret
  obtain ⟨hx, hb, hml, hown, htb⟩ := id X
  have hl : lv_has ls 3 [(0, .ref h0)] := hl
  refine lv_iconst (v := 0) hx hb dX10_leaveSet_0 (by decide) ?_
  refine lv_istore_n (lv' := [(1, .int 0), (0, .ref h0)]) hx hb dX10_leaveSet_1 rfl hl (by decide) rfl (fun ls hl => ?_)
  refine lv_iconst (v := 0) hx hb dX10_leaveSet_2 (by decide) ?_
  refine lv_istore_n (lv' := [(2, .int 0), (1, .int 0), (0, .ref h0)]) hx hb dX10_leaveSet_3 rfl hl (by decide) rfl (fun ls hl => ?_)
  have loop_4 : ∀ (n i : Nat), n + i = 10 → ∀ (ls : Array Slot), lv_has ls 3 [(0, .ref h0), (1, .int 0), (2, .int (nI i))] → W p l e (rm 1 21) s m ([.ref h0] : List Value).toArray below meth c s.heap [] 0 0 Q (F0 m 4 ls []) := by
    intro n
    induction n with
    | zero =>
      intro i hni ls hl
      have hi : i = 10 := by omega
      subst hi
      refine lv_iload_n hx hb dX10_leaveSet_4 rfl (lv_at hl 2 rfl) ?_
      refine lv_bipush (v := 10) hx hb dX10_leaveSet_5 (by decide) ?_
      refine lv_icmp_ge (tgt := 34) hx hb dX10_leaveSet_7 (by decide) (fun _ => ?_) (fun c_7 => absurd (by decide) c_7)
      refine lv_iload_n hx hb dX10_leaveSet_34 rfl (lv_at hl 1 rfl) ?_
      exact ret _ _ 0 dX10_leaveSet_35 rfl rfl
    | succ n ih =>
      intro i hni ls hl
      have hi : i < 10 := by omega
      refine lv_iload_n hx hb dX10_leaveSet_4 rfl (lv_at hl 2 rfl) ?_
      refine lv_bipush (v := 10) hx hb dX10_leaveSet_5 (by decide) ?_
      refine lv_icmp_ge (tgt := 34) hx hb dX10_leaveSet_7 (by decide) (fun c_7 => absurd c_7 (nI_ge hi (by decide))) (fun _ => ?_)
      refine lv_iload_n hx hb dX10_leaveSet_10 rfl (lv_at hl 1 rfl) ?_
      refine lv_aload_n hx hb dX10_leaveSet_11 rfl (lv_at hl 0 rfl) ?_
      refine lv_iload_n hx hb dX10_leaveSet_12 rfl (lv_at hl 2 rfl) ?_
      refine cVR (As := [.int (nI i)]) (rest := [.int 0]) (n := 1) (ci := 10) (q0 := 0) X hN hK hP (c_X10_hasLeave l D cI cB h0 a_now a_aside a_kept a_keptFrom a_keptTo a_capOf a_leaveFrom a_leaveTo a_amountOf a_doerMany a_doerOf a_tape a_said a_waitsAt a_saidLetter a_saidFrom a_saidHalf a_saidTo a_codes a_clauseOf a_codeFrom a_codeHalf a_codeTo a_stack a_facts a_lineChore a_lineMany a_lineDoer a_newFrom a_newTo a_goFrom a_goTo a_idleFrom a_idleTo a_moreOf a_firstOf a_leftOf a_didOf a_costBy a_gainBy a_hiredOf a_hiredBest a_hiredTo a_turnOf a_turnWho rv du cl gd i fl hi hf) (gV k_1408 k_1410 k_57 k_103 k_1411) (by decide +kernel) ⟨Nat.le_of_ble_eq_true rfl, Nat.le_of_ble_eq_true rfl⟩ ⟨rfl, rfl⟩ [0, 1] rfl rfl rfl rfl rfl rfl hl.1 (Nat.le_of_ble_eq_true rfl) dX10_leaveSet_13 ⟨Nat.le_of_ble_eq_true rfl, Nat.le_of_ble_eq_true rfl⟩ (fun r_1 hr_1 => ?_)
      subst hr_1
      refine lv_if_eq (tgt := 25) hx hb dX10_leaveSet_16 (by decide) (fun _ => ?_) (fun c_16 => absurd (by decide) c_16)
      refine lv_iconst (v := 0) hx hb dX10_leaveSet_25 (by decide) ?_
      refine lv_ior hx hb dX10_leaveSet_26 ?_
      refine tv (z := 0) (by decide) ?_
      refine lv_istore_n (lv' := [(1, .int 0), (0, .ref h0), (2, .int (nI i))]) hx hb dX10_leaveSet_27 rfl hl (by decide) rfl (fun ls hl => ?_)
      refine lv_iinc (v := (nI (i + 1))) (lv' := [(2, .int (nI (i + 1))), (1, .int 0), (0, .ref h0)]) hx hb dX10_leaveSet_28 hl (k := 2) rfl (nI_1 i) (by decide) rfl (fun ls hl => ?_)
      refine lv_goto (tgt := 4) hx hb dX10_leaveSet_31 (by decide) ?_
      exact ih (i + 1) (by omega) _ (lv_sub hl [2, 1, 0] rfl)
  exact loop_4 10 0 (by omega) _ (lv_sub hl [2, 1, 0] rfl)

set_option maxRecDepth 100000 in
set_option maxHeartbeats 4000000 in
theorem c_X10_awayOn (l : Launch) (D : va_G) (cI cB : ClassId) (h0 : Nat) (a_now : Nat) (a_aside : Nat) (a_kept : Nat) (a_keptFrom : Nat) (a_keptTo : Nat) (a_capOf : Nat) (a_leaveFrom : Nat) (a_leaveTo : Nat) (a_amountOf : Nat) (a_doerMany : Nat) (a_doerOf : Nat) (a_tape : Nat) (a_said : Nat) (a_waitsAt : Nat) (a_saidLetter : Nat) (a_saidFrom : Nat) (a_saidHalf : Nat) (a_saidTo : Nat) (a_codes : Nat) (a_clauseOf : Nat) (a_codeFrom : Nat) (a_codeHalf : Nat) (a_codeTo : Nat) (a_stack : Nat) (a_facts : Nat) (a_lineChore : Nat) (a_lineMany : Nat) (a_lineDoer : Nat) (a_newFrom : Nat) (a_newTo : Nat) (a_goFrom : Nat) (a_goTo : Nat) (a_idleFrom : Nat) (a_idleTo : Nat) (a_moreOf : Nat) (a_firstOf : Nat) (a_leftOf : Nat) (a_didOf : Nat) (a_costBy : Nat) (a_gainBy : Nat) (a_hiredOf : Nat) (a_hiredBest : Nat) (a_hiredTo : Nat) (a_turnOf : Nat) (a_turnWho : Nat) (rv : Int32) (du : Int32) (cl : Int32) (gd : Int32) (dd : Int32)  : MR l D cI cB yX10_awayOn cX10_awayOn 4 .int (rm 2 42) [.ref h0, .int dd] [(h0, .inr (10, [.ref a_now, .ref a_aside, .ref a_kept, .ref a_keptFrom, .ref a_keptTo, .ref a_capOf, .ref a_leaveFrom, .ref a_leaveTo, .ref a_amountOf, .ref a_doerMany, .ref a_doerOf, .int 0, .int 0, .int 0, .ref a_tape, .int 0, .int 0, .int 0, .int 0, .int 0, .int 0, .int 0, .int 0, .int 0, .int 0, .ref a_said, .ref a_waitsAt, .ref a_saidLetter, .ref a_saidFrom, .ref a_saidHalf, .ref a_saidTo, .ref a_codes, .ref a_clauseOf, .ref a_codeFrom, .ref a_codeHalf, .ref a_codeTo, .ref a_stack, .ref a_facts, .ref a_lineChore, .ref a_lineMany, .ref a_lineDoer, .ref a_newFrom, .ref a_newTo, .int 0, .ref a_goFrom, .ref a_goTo, .ref a_idleFrom, .ref a_idleTo, .ref a_moreOf, .ref a_firstOf, .ref a_leftOf, .ref a_didOf, .int rv, .int du, .int cl, .int gd, .ref a_costBy, .int 0, .ref a_gainBy, .ref a_hiredOf, .ref a_hiredBest, .ref a_hiredTo, .ref a_turnOf, .ref a_turnWho, .int 0]))] (fun r : Int32 => r = 0) := by
  refine MR.of (by decide) (Nat.le_of_ble_eq_true rfl) ?_
  intro p e s m below meth c Q ls X hN hP hK hl ret
  obtain ⟨hx, hb, hml, hown, htb⟩ := id X
  have hl : lv_has ls 4 [(0, .ref h0), (1, .int dd)] := hl
  refine lv_iconst (v := 0) hx hb dX10_awayOn_0 (by decide) ?_
  refine lv_istore_n (lv' := [(2, .int 0), (0, .ref h0), (1, .int dd)]) hx hb dX10_awayOn_1 rfl hl (by decide) rfl (fun ls hl => ?_)
  refine lv_iconst (v := 0) hx hb dX10_awayOn_2 (by decide) ?_
  refine lv_istore_n (lv' := [(3, .int 0), (2, .int 0), (0, .ref h0), (1, .int dd)]) hx hb dX10_awayOn_3 rfl hl (by decide) rfl (fun ls hl => ?_)
  have loop_4 : ∀ (n i : Nat), n + i = 10 → ∀ (ls : Array Slot), lv_has ls 4 [(0, .ref h0), (1, .int dd), (2, .int 0), (3, .int (nI i))] → W p l e (rm 2 42) s m ([.ref h0, .int dd] : List Value).toArray below meth c s.heap [] 0 0 Q (F0 m 4 ls []) := by
    intro n
    induction n with
    | zero =>
      intro i hni ls hl
      have hi : i = 10 := by omega
      subst hi
      refine lv_iload_n hx hb dX10_awayOn_4 rfl (lv_at hl 3 rfl) ?_
      refine lv_bipush (v := 10) hx hb dX10_awayOn_5 (by decide) ?_
      refine lv_icmp_ge (tgt := 43) hx hb dX10_awayOn_7 (by decide) (fun _ => ?_) (fun c_7 => absurd (by decide) c_7)
      refine lv_iload_n hx hb dX10_awayOn_43 rfl (lv_at hl 2 rfl) ?_
      exact ret _ _ 0 dX10_awayOn_44 rfl rfl
    | succ n ih =>
      intro i hni ls hl
      have hi : i < 10 := by omega
      refine lv_iload_n hx hb dX10_awayOn_4 rfl (lv_at hl 3 rfl) ?_
      refine lv_bipush (v := 10) hx hb dX10_awayOn_5 (by decide) ?_
      refine lv_icmp_ge (tgt := 43) hx hb dX10_awayOn_7 (by decide) (fun c_7 => absurd c_7 (nI_ge hi (by decide))) (fun _ => ?_)
      refine lv_iload_n hx hb dX10_awayOn_10 rfl (lv_at hl 2 rfl) ?_
      refine lv_aload_n hx hb dX10_awayOn_11 rfl (lv_at hl 0 rfl) ?_
      refine lv_iload_n hx hb dX10_awayOn_12 rfl (lv_at hl 3 rfl) ?_
      refine cVR (As := [.int (nI i)]) (rest := [.int 0]) (n := 1) (ci := 10) (q0 := 0) X hN hK hP (c_X10_isPerson l D cI cB h0 a_now a_aside a_kept a_keptFrom a_keptTo a_capOf a_leaveFrom a_leaveTo a_amountOf a_doerMany a_doerOf a_tape a_said a_waitsAt a_saidLetter a_saidFrom a_saidHalf a_saidTo a_codes a_clauseOf a_codeFrom a_codeHalf a_codeTo a_stack a_facts a_lineChore a_lineMany a_lineDoer a_newFrom a_newTo a_goFrom a_goTo a_idleFrom a_idleTo a_moreOf a_firstOf a_leftOf a_didOf a_costBy a_gainBy a_hiredOf a_hiredBest a_hiredTo a_turnOf a_turnWho rv du cl gd (nI i)) (gV k_1451 k_1453 k_65 k_103 k_1454) (by decide +kernel) ⟨Nat.le_of_ble_eq_true rfl, Nat.le_of_ble_eq_true rfl⟩ ⟨rfl, rfl⟩ [0] rfl rfl rfl rfl rfl rfl hl.1 (Nat.le_of_ble_eq_true rfl) dX10_awayOn_13 ⟨Nat.le_of_ble_eq_true rfl, Nat.le_of_ble_eq_true rfl⟩ (fun r_1 hr_1 => ?_)
      subst hr_1
      refine lv_if_eq (tgt := 34) hx hb dX10_awayOn_16 (by decide) (fun _ => ?_) (fun c_16 => absurd (by decide) c_16)
      refine lv_iconst (v := 0) hx hb dX10_awayOn_34 (by decide) ?_
      refine lv_ior hx hb dX10_awayOn_35 ?_
      refine tv (z := 0) (by decide) ?_
      refine lv_istore_n (lv' := [(2, .int 0), (0, .ref h0), (1, .int dd), (3, .int (nI i))]) hx hb dX10_awayOn_36 rfl hl (by decide) rfl (fun ls hl => ?_)
      refine lv_iinc (v := (nI (i + 1))) (lv' := [(3, .int (nI (i + 1))), (2, .int 0), (0, .ref h0), (1, .int dd)]) hx hb dX10_awayOn_37 hl (k := 3) rfl (nI_1 i) (by decide) rfl (fun ls hl => ?_)
      refine lv_goto (tgt := 4) hx hb dX10_awayOn_40 (by decide) ?_
      exact ih (i + 1) (by omega) _ (lv_sub hl [2, 3, 1, 0] rfl)
  exact loop_4 10 0 (by omega) _ (lv_sub hl [2, 3, 1, 0] rfl)

set_option maxRecDepth 100000 in
set_option maxHeartbeats 4000000 in
theorem c_X10_unitsOf (l : Launch) (D : va_G) (cI cB : ClassId) (h0 : Nat) (a_now : Nat) (a_aside : Nat) (a_kept : Nat) (a_keptFrom : Nat) (a_keptTo : Nat) (a_capOf : Nat) (a_leaveFrom : Nat) (a_leaveTo : Nat) (a_amountOf : Nat) (a_doerMany : Nat) (a_doerOf : Nat) (a_tape : Nat) (a_said : Nat) (a_waitsAt : Nat) (a_saidLetter : Nat) (a_saidFrom : Nat) (a_saidHalf : Nat) (a_saidTo : Nat) (a_codes : Nat) (a_clauseOf : Nat) (a_codeFrom : Nat) (a_codeHalf : Nat) (a_codeTo : Nat) (a_stack : Nat) (a_facts : Nat) (a_lineChore : Nat) (a_lineMany : Nat) (a_lineDoer : Nat) (a_newFrom : Nat) (a_newTo : Nat) (a_goFrom : Nat) (a_goTo : Nat) (a_idleFrom : Nat) (a_idleTo : Nat) (a_moreOf : Nat) (a_firstOf : Nat) (a_leftOf : Nat) (a_didOf : Nat) (a_costBy : Nat) (a_gainBy : Nat) (a_hiredOf : Nat) (a_hiredBest : Nat) (a_hiredTo : Nat) (a_turnOf : Nat) (a_turnWho : Nat) (rv : Int32) (du : Int32) (cl : Int32) (gd : Int32) (k : Int32)  : MR l D cI cB yX10_unitsOf cX10_unitsOf 2 .int (rm 2 42) [.ref h0, .int k] [(h0, .inr (10, [.ref a_now, .ref a_aside, .ref a_kept, .ref a_keptFrom, .ref a_keptTo, .ref a_capOf, .ref a_leaveFrom, .ref a_leaveTo, .ref a_amountOf, .ref a_doerMany, .ref a_doerOf, .int 0, .int 0, .int 0, .ref a_tape, .int 0, .int 0, .int 0, .int 0, .int 0, .int 0, .int 0, .int 0, .int 0, .int 0, .ref a_said, .ref a_waitsAt, .ref a_saidLetter, .ref a_saidFrom, .ref a_saidHalf, .ref a_saidTo, .ref a_codes, .ref a_clauseOf, .ref a_codeFrom, .ref a_codeHalf, .ref a_codeTo, .ref a_stack, .ref a_facts, .ref a_lineChore, .ref a_lineMany, .ref a_lineDoer, .ref a_newFrom, .ref a_newTo, .int 0, .ref a_goFrom, .ref a_goTo, .ref a_idleFrom, .ref a_idleTo, .ref a_moreOf, .ref a_firstOf, .ref a_leftOf, .ref a_didOf, .int rv, .int du, .int cl, .int gd, .ref a_costBy, .int 0, .ref a_gainBy, .ref a_hiredOf, .ref a_hiredBest, .ref a_hiredTo, .ref a_turnOf, .ref a_turnWho, .int 0]))] (fun r : Int32 => r = 0) := by
  refine MR.of (by decide) (Nat.le_of_ble_eq_true rfl) ?_
  intro p e s m below meth c Q ls X hN hP hK hl ret
  obtain ⟨hx, hb, hml, hown, htb⟩ := id X
  have hl : lv_has ls 2 [(0, .ref h0), (1, .int k)] := hl
  refine lv_aload_n hx hb dX10_unitsOf_0 rfl (lv_at hl 0 rfl) ?_
  refine lv_iload_n hx hb dX10_unitsOf_1 rfl (lv_at hl 1 rfl) ?_
  refine cVR (As := [.int k]) (rest := []) (n := 1) (ci := 10) (q0 := 0) X hN hK hP (c_X10_isPerson l D cI cB h0 a_now a_aside a_kept a_keptFrom a_keptTo a_capOf a_leaveFrom a_leaveTo a_amountOf a_doerMany a_doerOf a_tape a_said a_waitsAt a_saidLetter a_saidFrom a_saidHalf a_saidTo a_codes a_clauseOf a_codeFrom a_codeHalf a_codeTo a_stack a_facts a_lineChore a_lineMany a_lineDoer a_newFrom a_newTo a_goFrom a_goTo a_idleFrom a_idleTo a_moreOf a_firstOf a_leftOf a_didOf a_costBy a_gainBy a_hiredOf a_hiredBest a_hiredTo a_turnOf a_turnWho rv du cl gd k) (gV k_1451 k_1453 k_65 k_103 k_1454) (by decide +kernel) ⟨Nat.le_of_ble_eq_true rfl, Nat.le_of_ble_eq_true rfl⟩ ⟨rfl, rfl⟩ [0] rfl rfl rfl rfl rfl rfl hl.1 (Nat.le_of_ble_eq_true rfl) dX10_unitsOf_2 ⟨Nat.le_of_ble_eq_true rfl, Nat.le_of_ble_eq_true rfl⟩ (fun r_1 hr_1 => ?_)
  subst hr_1
  refine lv_if_eq (tgt := 48) hx hb dX10_unitsOf_5 (by decide) (fun _ => ?_) (fun c_5 => absurd (by decide) c_5)
  refine lv_iconst (v := 0) hx hb dX10_unitsOf_48 (by decide) ?_
  exact ret _ _ 0 dX10_unitsOf_49 rfl rfl

set_option maxRecDepth 100000 in
set_option maxHeartbeats 4000000 in
theorem c_X10_undoneAll (l : Launch) (D : va_G) (cI cB : ClassId) (h0 : Nat) (a_now : Nat) (a_aside : Nat) (a_kept : Nat) (a_keptFrom : Nat) (a_keptTo : Nat) (a_capOf : Nat) (a_leaveFrom : Nat) (a_leaveTo : Nat) (a_amountOf : Nat) (a_doerMany : Nat) (a_doerOf : Nat) (a_tape : Nat) (a_said : Nat) (a_waitsAt : Nat) (a_saidLetter : Nat) (a_saidFrom : Nat) (a_saidHalf : Nat) (a_saidTo : Nat) (a_codes : Nat) (a_clauseOf : Nat) (a_codeFrom : Nat) (a_codeHalf : Nat) (a_codeTo : Nat) (a_stack : Nat) (a_facts : Nat) (a_lineChore : Nat) (a_lineMany : Nat) (a_lineDoer : Nat) (a_newFrom : Nat) (a_newTo : Nat) (a_goFrom : Nat) (a_goTo : Nat) (a_idleFrom : Nat) (a_idleTo : Nat) (a_moreOf : Nat) (a_firstOf : Nat) (a_leftOf : Nat) (a_didOf : Nat) (a_costBy : Nat) (a_gainBy : Nat) (a_hiredOf : Nat) (a_hiredBest : Nat) (a_hiredTo : Nat) (a_turnOf : Nat) (a_turnWho : Nat) (rv : Int32) (du : Int32) (cl : Int32) (gd : Int32)  : MR l D cI cB yX10_undoneAll cX10_undoneAll 3 .int (rm 2 42) [.ref h0] [(h0, .inr (10, [.ref a_now, .ref a_aside, .ref a_kept, .ref a_keptFrom, .ref a_keptTo, .ref a_capOf, .ref a_leaveFrom, .ref a_leaveTo, .ref a_amountOf, .ref a_doerMany, .ref a_doerOf, .int 0, .int 0, .int 0, .ref a_tape, .int 0, .int 0, .int 0, .int 0, .int 0, .int 0, .int 0, .int 0, .int 0, .int 0, .ref a_said, .ref a_waitsAt, .ref a_saidLetter, .ref a_saidFrom, .ref a_saidHalf, .ref a_saidTo, .ref a_codes, .ref a_clauseOf, .ref a_codeFrom, .ref a_codeHalf, .ref a_codeTo, .ref a_stack, .ref a_facts, .ref a_lineChore, .ref a_lineMany, .ref a_lineDoer, .ref a_newFrom, .ref a_newTo, .int 0, .ref a_goFrom, .ref a_goTo, .ref a_idleFrom, .ref a_idleTo, .ref a_moreOf, .ref a_firstOf, .ref a_leftOf, .ref a_didOf, .int rv, .int du, .int cl, .int gd, .ref a_costBy, .int 0, .ref a_gainBy, .ref a_hiredOf, .ref a_hiredBest, .ref a_hiredTo, .ref a_turnOf, .ref a_turnWho, .int 0]))] (fun r : Int32 => r = 0) := by
  refine MR.of (by decide) (Nat.le_of_ble_eq_true rfl) ?_
  intro p e s m below meth c Q ls X hN hP hK hl ret
  obtain ⟨hx, hb, hml, hown, htb⟩ := id X
  have hl : lv_has ls 3 [(0, .ref h0)] := hl
  refine lv_iconst (v := 0) hx hb dX10_undoneAll_0 (by decide) ?_
  refine lv_istore_n (lv' := [(1, .int 0), (0, .ref h0)]) hx hb dX10_undoneAll_1 rfl hl (by decide) rfl (fun ls hl => ?_)
  refine lv_iconst (v := 0) hx hb dX10_undoneAll_2 (by decide) ?_
  refine lv_istore_n (lv' := [(2, .int 0), (1, .int 0), (0, .ref h0)]) hx hb dX10_undoneAll_3 rfl hl (by decide) rfl (fun ls hl => ?_)
  have loop_4 : ∀ (n i : Nat), n + i = 12 → ∀ (ls : Array Slot), lv_has ls 3 [(0, .ref h0), (1, .int 0), (2, .int (nI i))] → W p l e (rm 2 42) s m ([.ref h0] : List Value).toArray below meth c s.heap [] 0 0 Q (F0 m 4 ls []) := by
    intro n
    induction n with
    | zero =>
      intro i hni ls hl
      have hi : i = 12 := by omega
      subst hi
      refine lv_iload_n hx hb dX10_undoneAll_4 rfl (lv_at hl 2 rfl) ?_
      refine lv_bipush (v := 12) hx hb dX10_undoneAll_5 (by decide) ?_
      refine lv_icmp_ge (tgt := 37) hx hb dX10_undoneAll_7 (by decide) (fun _ => ?_) (fun c_7 => absurd (by decide) c_7)
      refine lv_iload_n hx hb dX10_undoneAll_37 rfl (lv_at hl 1 rfl) ?_
      exact ret _ _ 0 dX10_undoneAll_38 rfl rfl
    | succ n ih =>
      intro i hni ls hl
      have hi : i < 12 := by omega
      refine lv_iload_n hx hb dX10_undoneAll_4 rfl (lv_at hl 2 rfl) ?_
      refine lv_bipush (v := 12) hx hb dX10_undoneAll_5 (by decide) ?_
      refine lv_icmp_ge (tgt := 37) hx hb dX10_undoneAll_7 (by decide) (fun c_7 => absurd c_7 (nI_ge hi (by decide))) (fun _ => ?_)
      refine lv_iload_n hx hb dX10_undoneAll_10 rfl (lv_at hl 1 rfl) ?_
      refine lv_aload_n hx hb dX10_undoneAll_11 rfl (lv_at hl 0 rfl) ?_
      refine lv_iload_n hx hb dX10_undoneAll_12 rfl (lv_at hl 2 rfl) ?_
      refine cVR (As := [.int (nI i)]) (rest := [.int 0]) (n := 1) (ci := 10) (q0 := 0) X hN hK hP (c_X10_isChore l D cI cB h0 a_now a_aside a_kept a_keptFrom a_keptTo a_capOf a_leaveFrom a_leaveTo a_amountOf a_doerMany a_doerOf a_tape a_said a_waitsAt a_saidLetter a_saidFrom a_saidHalf a_saidTo a_codes a_clauseOf a_codeFrom a_codeHalf a_codeTo a_stack a_facts a_lineChore a_lineMany a_lineDoer a_newFrom a_newTo a_goFrom a_goTo a_idleFrom a_idleTo a_moreOf a_firstOf a_leftOf a_didOf a_costBy a_gainBy a_hiredOf a_hiredBest a_hiredTo a_turnOf a_turnWho rv du cl gd (nI i)) (gV k_1474 k_1476 k_70 k_103 k_1477) (by decide +kernel) ⟨Nat.le_of_ble_eq_true rfl, Nat.le_of_ble_eq_true rfl⟩ ⟨rfl, rfl⟩ [0] rfl rfl rfl rfl rfl rfl hl.1 (Nat.le_of_ble_eq_true rfl) dX10_undoneAll_13 ⟨Nat.le_of_ble_eq_true rfl, Nat.le_of_ble_eq_true rfl⟩ (fun r_1 hr_1 => ?_)
      subst hr_1
      refine lv_if_eq (tgt := 28) hx hb dX10_undoneAll_16 (by decide) (fun _ => ?_) (fun c_16 => absurd (by decide) c_16)
      refine lv_iconst (v := 0) hx hb dX10_undoneAll_28 (by decide) ?_
      refine lv_iadd hx hb dX10_undoneAll_29 ?_
      refine tv (z := 0) (by decide) ?_
      refine lv_istore_n (lv' := [(1, .int 0), (0, .ref h0), (2, .int (nI i))]) hx hb dX10_undoneAll_30 rfl hl (by decide) rfl (fun ls hl => ?_)
      refine lv_iinc (v := (nI (i + 1))) (lv' := [(2, .int (nI (i + 1))), (1, .int 0), (0, .ref h0)]) hx hb dX10_undoneAll_31 hl (k := 2) rfl (nI_1 i) (by decide) rfl (fun ls hl => ?_)
      refine lv_goto (tgt := 4) hx hb dX10_undoneAll_34 (by decide) ?_
      exact ih (i + 1) (by omega) _ (lv_sub hl [2, 1, 0] rfl)
  exact loop_4 12 0 (by omega) _ (lv_sub hl [2, 1, 0] rfl)

set_option maxRecDepth 100000 in
set_option maxHeartbeats 4000000 in
theorem c_X10_copies (l : Launch) (D : va_G) (cI cB : ClassId) (sz : Nat) (a0 : Nat) (a1 : Nat) (ff : Nat → Int32) (gg : Nat → Int32)  : MV (S := ((Nat → Int32))) l D cI cB yX10_copies cX10_copies 4 (rm 0 0) [.ref a0, .ref a1, .int 15] [(a0, .inl (cI, 15, .inl ff)), (a1, .inl (cI, 15, .inl gg))] sz (fun u => ∀ j, j < 15 → u j = ff j) (fun u : ((Nat → Int32)) => [(a0, .inl (cI, 15, .inl ff)), (a1, .inl (cI, 15, .inl u))]) := by
  refine MV.of (by decide) (Nat.le_of_ble_eq_true rfl) ?_
  intro p e s m below meth c Q ls A X hin hN hP hK hD hA hl ret
  have hS : va_S A s.heap s.heap [] := va_S.rf
  obtain ⟨hx, hb, hml, hown, htb⟩ := id X
  have hl : lv_has ls 4 [(0, .ref a0), (1, .ref a1), (2, .int 15)] := hl
  refine lv_iconst (v := 0) hx hb dX10_copies_0 (by decide) ?_
  refine lv_istore_n (lv' := [(3, .int 0), (0, .ref a0), (1, .ref a1), (2, .int 15)]) hx hb dX10_copies_1 rfl hl (by decide) rfl (fun ls hl => ?_)
  have loop_2 : ∀ (n i : Nat) (ga : Nat → Int32), n + i = 15 → (∀ j, j < i → ga j = ff j) → ∀ (H : Heap) (locs : List Loc), va_P D vwCl [(a0, .inl (cI, 15, .inl ff)), (a1, .inl (cI, 15, .inl ga))] H → va_D A [(a0, .inl (cI, 15, .inl ff)), (a1, .inl (cI, 15, .inl ga))] → va_S A s.heap H locs → ∀ (ls : Array Slot), lv_has ls 4 [(0, .ref a0), (1, .ref a1), (2, .int 15), (3, .int (nI i))] → W p l e (rm 0 0) s m ([.ref a0, .ref a1, .int 15] : List Value).toArray below meth c H locs 0 0 Q (F0 m 2 ls []) := by
    intro n
    induction n with
    | zero =>
      intro i ga hni hga H locs hP hD hS ls hl
      have hi : i = 15 := by omega
      subst hi
      refine lv_iload_n hx hb dX10_copies_2 rfl (lv_at hl 3 rfl) ?_
      refine lv_iload_n hx hb dX10_copies_3 rfl (lv_at hl 2 rfl) ?_
      refine lv_icmp_ge (tgt := 19) hx hb dX10_copies_4 (by decide) (fun _ => ?_) (fun c_4 => absurd (by decide) c_4)
      exact ret _ _ _ _ ga dX10_copies_19 hga (hP.sub [0, 1] rfl) (hD.sub [0, 1] (by decide) rfl) hS
    | succ n ih =>
      intro i ga hni hga H locs hP hD hS ls hl
      have hi : i < 15 := by omega
      refine lv_iload_n hx hb dX10_copies_2 rfl (lv_at hl 3 rfl) ?_
      refine lv_iload_n hx hb dX10_copies_3 rfl (lv_at hl 2 rfl) ?_
      refine lv_icmp_ge (tgt := 19) hx hb dX10_copies_4 (by decide) (fun c_4 => absurd c_4 (nI_ge hi (by decide))) (fun _ => ?_)
      refine lv_aload_n hx hb dX10_copies_7 rfl (lv_at hl 1 rfl) ?_
      refine lv_iload_n hx hb dX10_copies_8 rfl (lv_at hl 3 rfl) ?_
      refine lv_aload_n hx hb dX10_copies_9 rfl (lv_at hl 0 rfl) ?_
      refine lv_iload_n hx hb dX10_copies_10 rfl (lv_at hl 3 rfl) ?_
      refine va_iald hx hb hK hP 0 0 rfl rfl (vp_in_nI (by omega) (by decide)) dX10_copies_11 ?_
      refine tv (z := (ff i)) (by rw [nI_clamp (by omega)]) ?_
      refine lv_topi (fun x_1 ex_1 => ?_)
      refine va_iast hx hb hK hP hD hS 1 0 rfl rfl (vp_in_nI (by omega) (by decide)) dX10_copies_12 (fun H locs hP hD hS => ?_)
      obtain ⟨f_2, ef_2⟩ : ∃ g : Nat → Int32, g = upd ga (Int32.toNatClampNeg (nI i)) x_1 := ⟨_, rfl⟩
      rw [← ef_2] at hP hD
      have hP : va_P D vwCl [(a0, .inl (cI, 15, .inl ff)), (a1, .inl (cI, 15, .inl f_2))] H := hP
      have hD : va_D A [(a0, .inl (cI, 15, .inl ff)), (a1, .inl (cI, 15, .inl f_2))] := hD
      refine lv_iinc (v := (nI (i + 1))) (lv' := [(3, .int (nI (i + 1))), (0, .ref a0), (1, .ref a1), (2, .int 15)]) hx hb dX10_copies_13 hl (k := 3) rfl (nI_1 i) (by decide) rfl (fun ls hl => ?_)
      refine lv_goto (tgt := 2) hx hb dX10_copies_16 (by decide) ?_
      exact ih (i + 1) f_2 (by omega) (by rw [ef_2, nI_clamp (by omega)]; exact updC hga ex_1) _ _ (hP.sub [0, 1] rfl) (hD.sub [0, 1] (by decide) rfl) hS _ (lv_sub hl [1, 2, 3, 0] rfl)
  exact loop_2 15 0 gg (by omega) (fun j hj => absurd hj (Nat.not_lt_zero j)) _ _ (hP.sub [0, 1] rfl) (hD.sub [0, 1] (by decide) rfl) hS _ (lv_sub hl [1, 2, 3, 0] rfl)

set_option maxRecDepth 100000 in
set_option maxHeartbeats 4000000 in
theorem c_X10_copies_10 (l : Launch) (D : va_G) (cI cB : ClassId) (sz : Nat) (a0 : Nat) (a1 : Nat) (ff : Nat → Int32) (gg : Nat → Int32)  : MV (S := ((Nat → Int32))) l D cI cB yX10_copies cX10_copies 4 (rm 0 0) [.ref a0, .ref a1, .int 10] [(a0, .inl (cI, 10, .inl ff)), (a1, .inl (cI, 10, .inl gg))] sz (fun u => ∀ j, j < 10 → u j = ff j) (fun u : ((Nat → Int32)) => [(a0, .inl (cI, 10, .inl ff)), (a1, .inl (cI, 10, .inl u))]) := by
  refine MV.of (by decide) (Nat.le_of_ble_eq_true rfl) ?_
  intro p e s m below meth c Q ls A X hin hN hP hK hD hA hl ret
  have hS : va_S A s.heap s.heap [] := va_S.rf
  obtain ⟨hx, hb, hml, hown, htb⟩ := id X
  have hl : lv_has ls 4 [(0, .ref a0), (1, .ref a1), (2, .int 10)] := hl
  refine lv_iconst (v := 0) hx hb dX10_copies_0 (by decide) ?_
  refine lv_istore_n (lv' := [(3, .int 0), (0, .ref a0), (1, .ref a1), (2, .int 10)]) hx hb dX10_copies_1 rfl hl (by decide) rfl (fun ls hl => ?_)
  have loop_2 : ∀ (n i : Nat) (ga : Nat → Int32), n + i = 10 → (∀ j, j < i → ga j = ff j) → ∀ (H : Heap) (locs : List Loc), va_P D vwCl [(a0, .inl (cI, 10, .inl ff)), (a1, .inl (cI, 10, .inl ga))] H → va_D A [(a0, .inl (cI, 10, .inl ff)), (a1, .inl (cI, 10, .inl ga))] → va_S A s.heap H locs → ∀ (ls : Array Slot), lv_has ls 4 [(0, .ref a0), (1, .ref a1), (2, .int 10), (3, .int (nI i))] → W p l e (rm 0 0) s m ([.ref a0, .ref a1, .int 10] : List Value).toArray below meth c H locs 0 0 Q (F0 m 2 ls []) := by
    intro n
    induction n with
    | zero =>
      intro i ga hni hga H locs hP hD hS ls hl
      have hi : i = 10 := by omega
      subst hi
      refine lv_iload_n hx hb dX10_copies_2 rfl (lv_at hl 3 rfl) ?_
      refine lv_iload_n hx hb dX10_copies_3 rfl (lv_at hl 2 rfl) ?_
      refine lv_icmp_ge (tgt := 19) hx hb dX10_copies_4 (by decide) (fun _ => ?_) (fun c_4 => absurd (by decide) c_4)
      exact ret _ _ _ _ ga dX10_copies_19 hga (hP.sub [0, 1] rfl) (hD.sub [0, 1] (by decide) rfl) hS
    | succ n ih =>
      intro i ga hni hga H locs hP hD hS ls hl
      have hi : i < 10 := by omega
      refine lv_iload_n hx hb dX10_copies_2 rfl (lv_at hl 3 rfl) ?_
      refine lv_iload_n hx hb dX10_copies_3 rfl (lv_at hl 2 rfl) ?_
      refine lv_icmp_ge (tgt := 19) hx hb dX10_copies_4 (by decide) (fun c_4 => absurd c_4 (nI_ge hi (by decide))) (fun _ => ?_)
      refine lv_aload_n hx hb dX10_copies_7 rfl (lv_at hl 1 rfl) ?_
      refine lv_iload_n hx hb dX10_copies_8 rfl (lv_at hl 3 rfl) ?_
      refine lv_aload_n hx hb dX10_copies_9 rfl (lv_at hl 0 rfl) ?_
      refine lv_iload_n hx hb dX10_copies_10 rfl (lv_at hl 3 rfl) ?_
      refine va_iald hx hb hK hP 0 0 rfl rfl (vp_in_nI (by omega) (by decide)) dX10_copies_11 ?_
      refine tv (z := (ff i)) (by rw [nI_clamp (by omega)]) ?_
      refine lv_topi (fun x_1 ex_1 => ?_)
      refine va_iast hx hb hK hP hD hS 1 0 rfl rfl (vp_in_nI (by omega) (by decide)) dX10_copies_12 (fun H locs hP hD hS => ?_)
      obtain ⟨f_2, ef_2⟩ : ∃ g : Nat → Int32, g = upd ga (Int32.toNatClampNeg (nI i)) x_1 := ⟨_, rfl⟩
      rw [← ef_2] at hP hD
      have hP : va_P D vwCl [(a0, .inl (cI, 10, .inl ff)), (a1, .inl (cI, 10, .inl f_2))] H := hP
      have hD : va_D A [(a0, .inl (cI, 10, .inl ff)), (a1, .inl (cI, 10, .inl f_2))] := hD
      refine lv_iinc (v := (nI (i + 1))) (lv' := [(3, .int (nI (i + 1))), (0, .ref a0), (1, .ref a1), (2, .int 10)]) hx hb dX10_copies_13 hl (k := 3) rfl (nI_1 i) (by decide) rfl (fun ls hl => ?_)
      refine lv_goto (tgt := 2) hx hb dX10_copies_16 (by decide) ?_
      exact ih (i + 1) f_2 (by omega) (by rw [ef_2, nI_clamp (by omega)]; exact updC hga ex_1) _ _ (hP.sub [0, 1] rfl) (hD.sub [0, 1] (by decide) rfl) hS _ (lv_sub hl [1, 2, 3, 0] rfl)
  exact loop_2 10 0 gg (by omega) (fun j hj => absurd hj (Nat.not_lt_zero j)) _ _ (hP.sub [0, 1] rfl) (hD.sub [0, 1] (by decide) rfl) hS _ (lv_sub hl [1, 2, 3, 0] rfl)

set_option maxRecDepth 100000 in
set_option maxHeartbeats 4000000 in
theorem c_X10_laysNobody (l : Launch) (D : va_G) (cI cB : ClassId) (sz : Nat) (h0 : Nat) (a_now : Nat) (a_aside : Nat) (a_kept : Nat) (a_keptFrom : Nat) (a_keptTo : Nat) (a_capOf : Nat) (a_leaveFrom : Nat) (a_leaveTo : Nat) (a_amountOf : Nat) (a_doerMany : Nat) (a_doerOf : Nat) (a_tape : Nat) (a_said : Nat) (a_waitsAt : Nat) (a_saidLetter : Nat) (a_saidFrom : Nat) (a_saidHalf : Nat) (a_saidTo : Nat) (a_codes : Nat) (a_clauseOf : Nat) (a_codeFrom : Nat) (a_codeHalf : Nat) (a_codeTo : Nat) (a_stack : Nat) (a_facts : Nat) (a_lineChore : Nat) (a_lineMany : Nat) (a_lineDoer : Nat) (a_newFrom : Nat) (a_newTo : Nat) (a_goFrom : Nat) (a_goTo : Nat) (a_idleFrom : Nat) (a_idleTo : Nat) (a_moreOf : Nat) (a_firstOf : Nat) (a_leftOf : Nat) (a_didOf : Nat) (a_costBy : Nat) (a_gainBy : Nat) (a_hiredOf : Nat) (a_hiredBest : Nat) (a_hiredTo : Nat) (a_turnOf : Nat) (a_turnWho : Nat) (rv : Int32) (du : Int32) (cl : Int32) (gd : Int32) (fa0 : Nat → Int32) (fa1 : Nat → Int32) (fa2 : Nat → Int32) (fa3 : Nat → Int32) (fa4 : Nat → Int32) (fa5 : Nat → Int32)  : MV (S := ((Nat → Int32) × (Nat → Int32) × (Nat → Int32) × (Nat → Int32) × (Nat → Int32) × (Nat → Int32))) l D cI cB yX10_laysNobody cX10_laysNobody 2 (rm 0 0) [.ref h0] [(h0, .inr (10, [.ref a_now, .ref a_aside, .ref a_kept, .ref a_keptFrom, .ref a_keptTo, .ref a_capOf, .ref a_leaveFrom, .ref a_leaveTo, .ref a_amountOf, .ref a_doerMany, .ref a_doerOf, .int 0, .int 0, .int 0, .ref a_tape, .int 0, .int 0, .int 0, .int 0, .int 0, .int 0, .int 0, .int 0, .int 0, .int 0, .ref a_said, .ref a_waitsAt, .ref a_saidLetter, .ref a_saidFrom, .ref a_saidHalf, .ref a_saidTo, .ref a_codes, .ref a_clauseOf, .ref a_codeFrom, .ref a_codeHalf, .ref a_codeTo, .ref a_stack, .ref a_facts, .ref a_lineChore, .ref a_lineMany, .ref a_lineDoer, .ref a_newFrom, .ref a_newTo, .int 0, .ref a_goFrom, .ref a_goTo, .ref a_idleFrom, .ref a_idleTo, .ref a_moreOf, .ref a_firstOf, .ref a_leftOf, .ref a_didOf, .int rv, .int du, .int cl, .int gd, .ref a_costBy, .int 0, .ref a_gainBy, .ref a_hiredOf, .ref a_hiredBest, .ref a_hiredTo, .ref a_turnOf, .ref a_turnWho, .int 0])), (a_goFrom, .inl (cI, 10, .inl fa0)), (a_goTo, .inl (cI, 10, .inl fa1)), (a_idleFrom, .inl (cI, 10, .inl fa2)), (a_idleTo, .inl (cI, 10, .inl fa3)), (a_moreOf, .inl (cI, 10, .inl fa4)), (a_firstOf, .inl (cI, 12, .inl fa5))] sz (fun u => True) (fun u : ((Nat → Int32) × (Nat → Int32) × (Nat → Int32) × (Nat → Int32) × (Nat → Int32) × (Nat → Int32)) => [(h0, .inr (10, [.ref a_now, .ref a_aside, .ref a_kept, .ref a_keptFrom, .ref a_keptTo, .ref a_capOf, .ref a_leaveFrom, .ref a_leaveTo, .ref a_amountOf, .ref a_doerMany, .ref a_doerOf, .int 0, .int 0, .int 0, .ref a_tape, .int 0, .int 0, .int 0, .int 0, .int 0, .int 0, .int 0, .int 0, .int 0, .int 0, .ref a_said, .ref a_waitsAt, .ref a_saidLetter, .ref a_saidFrom, .ref a_saidHalf, .ref a_saidTo, .ref a_codes, .ref a_clauseOf, .ref a_codeFrom, .ref a_codeHalf, .ref a_codeTo, .ref a_stack, .ref a_facts, .ref a_lineChore, .ref a_lineMany, .ref a_lineDoer, .ref a_newFrom, .ref a_newTo, .int 0, .ref a_goFrom, .ref a_goTo, .ref a_idleFrom, .ref a_idleTo, .ref a_moreOf, .ref a_firstOf, .ref a_leftOf, .ref a_didOf, .int rv, .int du, .int cl, .int gd, .ref a_costBy, .int 0, .ref a_gainBy, .ref a_hiredOf, .ref a_hiredBest, .ref a_hiredTo, .ref a_turnOf, .ref a_turnWho, .int 0])), (a_goFrom, .inl (cI, 10, .inl u.1)), (a_goTo, .inl (cI, 10, .inl u.2.1)), (a_idleFrom, .inl (cI, 10, .inl u.2.2.1)), (a_idleTo, .inl (cI, 10, .inl u.2.2.2.1)), (a_moreOf, .inl (cI, 10, .inl u.2.2.2.2.1)), (a_firstOf, .inl (cI, 12, .inl u.2.2.2.2.2))]) := by
  refine MV.of (by decide) (Nat.le_of_ble_eq_true rfl) ?_
  intro p e s m below meth c Q ls A X hin hN hP hK hD hA hl ret
  have hS : va_S A s.heap s.heap [] := va_S.rf
  obtain ⟨hx, hb, hml, hown, htb⟩ := id X
  have hl : lv_has ls 2 [(0, .ref h0)] := hl
  refine lv_iconst (v := 0) hx hb dX10_laysNobody_0 (by decide) ?_
  refine lv_istore_n (lv' := [(1, .int 0), (0, .ref h0)]) hx hb dX10_laysNobody_1 rfl hl (by decide) rfl (fun ls hl => ?_)
  have loop_2 : ∀ (n i : Nat) (fb0 : Nat → Int32) (fb1 : Nat → Int32) (fb2 : Nat → Int32) (fb3 : Nat → Int32) (fb4 : Nat → Int32), n + i = 10 → ∀ (H : Heap) (locs : List Loc), va_P D vwCl [(h0, .inr (10, [.ref a_now, .ref a_aside, .ref a_kept, .ref a_keptFrom, .ref a_keptTo, .ref a_capOf, .ref a_leaveFrom, .ref a_leaveTo, .ref a_amountOf, .ref a_doerMany, .ref a_doerOf, .int 0, .int 0, .int 0, .ref a_tape, .int 0, .int 0, .int 0, .int 0, .int 0, .int 0, .int 0, .int 0, .int 0, .int 0, .ref a_said, .ref a_waitsAt, .ref a_saidLetter, .ref a_saidFrom, .ref a_saidHalf, .ref a_saidTo, .ref a_codes, .ref a_clauseOf, .ref a_codeFrom, .ref a_codeHalf, .ref a_codeTo, .ref a_stack, .ref a_facts, .ref a_lineChore, .ref a_lineMany, .ref a_lineDoer, .ref a_newFrom, .ref a_newTo, .int 0, .ref a_goFrom, .ref a_goTo, .ref a_idleFrom, .ref a_idleTo, .ref a_moreOf, .ref a_firstOf, .ref a_leftOf, .ref a_didOf, .int rv, .int du, .int cl, .int gd, .ref a_costBy, .int 0, .ref a_gainBy, .ref a_hiredOf, .ref a_hiredBest, .ref a_hiredTo, .ref a_turnOf, .ref a_turnWho, .int 0])), (a_goFrom, .inl (cI, 10, .inl fb0)), (a_goTo, .inl (cI, 10, .inl fb1)), (a_idleFrom, .inl (cI, 10, .inl fb2)), (a_idleTo, .inl (cI, 10, .inl fb3)), (a_moreOf, .inl (cI, 10, .inl fb4)), (a_firstOf, .inl (cI, 12, .inl fa5))] H → va_D A [(h0, .inr (10, [.ref a_now, .ref a_aside, .ref a_kept, .ref a_keptFrom, .ref a_keptTo, .ref a_capOf, .ref a_leaveFrom, .ref a_leaveTo, .ref a_amountOf, .ref a_doerMany, .ref a_doerOf, .int 0, .int 0, .int 0, .ref a_tape, .int 0, .int 0, .int 0, .int 0, .int 0, .int 0, .int 0, .int 0, .int 0, .int 0, .ref a_said, .ref a_waitsAt, .ref a_saidLetter, .ref a_saidFrom, .ref a_saidHalf, .ref a_saidTo, .ref a_codes, .ref a_clauseOf, .ref a_codeFrom, .ref a_codeHalf, .ref a_codeTo, .ref a_stack, .ref a_facts, .ref a_lineChore, .ref a_lineMany, .ref a_lineDoer, .ref a_newFrom, .ref a_newTo, .int 0, .ref a_goFrom, .ref a_goTo, .ref a_idleFrom, .ref a_idleTo, .ref a_moreOf, .ref a_firstOf, .ref a_leftOf, .ref a_didOf, .int rv, .int du, .int cl, .int gd, .ref a_costBy, .int 0, .ref a_gainBy, .ref a_hiredOf, .ref a_hiredBest, .ref a_hiredTo, .ref a_turnOf, .ref a_turnWho, .int 0])), (a_goFrom, .inl (cI, 10, .inl fb0)), (a_goTo, .inl (cI, 10, .inl fb1)), (a_idleFrom, .inl (cI, 10, .inl fb2)), (a_idleTo, .inl (cI, 10, .inl fb3)), (a_moreOf, .inl (cI, 10, .inl fb4)), (a_firstOf, .inl (cI, 12, .inl fa5))] → va_S A s.heap H locs → ∀ (ls : Array Slot), lv_has ls 2 [(0, .ref h0), (1, .int (nI i))] → W p l e (rm 0 0) s m ([.ref h0] : List Value).toArray below meth c H locs 0 0 Q (F0 m 2 ls []) := by
    intro n
    induction n with
    | zero =>
      intro i fb0 fb1 fb2 fb3 fb4 hni H locs hP hD hS ls hl
      have hi : i = 10 := by omega
      subst hi
      refine lv_iload_n hx hb dX10_laysNobody_2 rfl (lv_at hl 1 rfl) ?_
      refine lv_bipush (v := 10) hx hb dX10_laysNobody_3 (by decide) ?_
      refine lv_icmp_ge (tgt := 53) hx hb dX10_laysNobody_5 (by decide) (fun _ => ?_) (fun c_5 => absurd (by decide) c_5)
      refine lv_iconst (v := 0) hx hb dX10_laysNobody_53 (by decide) ?_
      refine lv_istore_n (lv' := [(1, .int 0), (0, .ref h0)]) hx hb dX10_laysNobody_54 rfl hl (by decide) rfl (fun ls hl => ?_)
      have loop_55 : ∀ (n i : Nat) (fb5 : Nat → Int32), n + i = 12 → ∀ (H : Heap) (locs : List Loc), va_P D vwCl [(h0, .inr (10, [.ref a_now, .ref a_aside, .ref a_kept, .ref a_keptFrom, .ref a_keptTo, .ref a_capOf, .ref a_leaveFrom, .ref a_leaveTo, .ref a_amountOf, .ref a_doerMany, .ref a_doerOf, .int 0, .int 0, .int 0, .ref a_tape, .int 0, .int 0, .int 0, .int 0, .int 0, .int 0, .int 0, .int 0, .int 0, .int 0, .ref a_said, .ref a_waitsAt, .ref a_saidLetter, .ref a_saidFrom, .ref a_saidHalf, .ref a_saidTo, .ref a_codes, .ref a_clauseOf, .ref a_codeFrom, .ref a_codeHalf, .ref a_codeTo, .ref a_stack, .ref a_facts, .ref a_lineChore, .ref a_lineMany, .ref a_lineDoer, .ref a_newFrom, .ref a_newTo, .int 0, .ref a_goFrom, .ref a_goTo, .ref a_idleFrom, .ref a_idleTo, .ref a_moreOf, .ref a_firstOf, .ref a_leftOf, .ref a_didOf, .int rv, .int du, .int cl, .int gd, .ref a_costBy, .int 0, .ref a_gainBy, .ref a_hiredOf, .ref a_hiredBest, .ref a_hiredTo, .ref a_turnOf, .ref a_turnWho, .int 0])), (a_goFrom, .inl (cI, 10, .inl fb0)), (a_goTo, .inl (cI, 10, .inl fb1)), (a_idleFrom, .inl (cI, 10, .inl fb2)), (a_idleTo, .inl (cI, 10, .inl fb3)), (a_moreOf, .inl (cI, 10, .inl fb4)), (a_firstOf, .inl (cI, 12, .inl fb5))] H → va_D A [(h0, .inr (10, [.ref a_now, .ref a_aside, .ref a_kept, .ref a_keptFrom, .ref a_keptTo, .ref a_capOf, .ref a_leaveFrom, .ref a_leaveTo, .ref a_amountOf, .ref a_doerMany, .ref a_doerOf, .int 0, .int 0, .int 0, .ref a_tape, .int 0, .int 0, .int 0, .int 0, .int 0, .int 0, .int 0, .int 0, .int 0, .int 0, .ref a_said, .ref a_waitsAt, .ref a_saidLetter, .ref a_saidFrom, .ref a_saidHalf, .ref a_saidTo, .ref a_codes, .ref a_clauseOf, .ref a_codeFrom, .ref a_codeHalf, .ref a_codeTo, .ref a_stack, .ref a_facts, .ref a_lineChore, .ref a_lineMany, .ref a_lineDoer, .ref a_newFrom, .ref a_newTo, .int 0, .ref a_goFrom, .ref a_goTo, .ref a_idleFrom, .ref a_idleTo, .ref a_moreOf, .ref a_firstOf, .ref a_leftOf, .ref a_didOf, .int rv, .int du, .int cl, .int gd, .ref a_costBy, .int 0, .ref a_gainBy, .ref a_hiredOf, .ref a_hiredBest, .ref a_hiredTo, .ref a_turnOf, .ref a_turnWho, .int 0])), (a_goFrom, .inl (cI, 10, .inl fb0)), (a_goTo, .inl (cI, 10, .inl fb1)), (a_idleFrom, .inl (cI, 10, .inl fb2)), (a_idleTo, .inl (cI, 10, .inl fb3)), (a_moreOf, .inl (cI, 10, .inl fb4)), (a_firstOf, .inl (cI, 12, .inl fb5))] → va_S A s.heap H locs → ∀ (ls : Array Slot), lv_has ls 2 [(0, .ref h0), (1, .int (nI i))] → W p l e (rm 0 0) s m ([.ref h0] : List Value).toArray below meth c H locs 0 0 Q (F0 m 55 ls []) := by
        intro n
        induction n with
        | zero =>
          intro i fb5 hni H locs hP hD hS ls hl
          have hi : i = 12 := by omega
          subst hi
          refine lv_iload_n hx hb dX10_laysNobody_55 rfl (lv_at hl 1 rfl) ?_
          refine lv_bipush (v := 12) hx hb dX10_laysNobody_56 (by decide) ?_
          refine lv_icmp_ge (tgt := 74) hx hb dX10_laysNobody_58 (by decide) (fun _ => ?_) (fun c_58 => absurd (by decide) c_58)
          exact ret _ _ _ _ (fb0, fb1, fb2, fb3, fb4, fb5) dX10_laysNobody_74 trivial (hP.sub [0, 1, 2, 3, 4, 5, 6] rfl) (hD.sub [0, 1, 2, 3, 4, 5, 6] (by decide) rfl) hS
        | succ n ih =>
          intro i fb5 hni H locs hP hD hS ls hl
          have hi : i < 12 := by omega
          refine lv_iload_n hx hb dX10_laysNobody_55 rfl (lv_at hl 1 rfl) ?_
          refine lv_bipush (v := 12) hx hb dX10_laysNobody_56 (by decide) ?_
          refine lv_icmp_ge (tgt := 74) hx hb dX10_laysNobody_58 (by decide) (fun c_58 => absurd c_58 (nI_ge hi (by decide))) (fun _ => ?_)
          refine lv_aload_n hx hb dX10_laysNobody_61 rfl (lv_at hl 0 rfl) ?_
          refine va_get (D := D) (ci := 10) (v := .ref a_firstOf) (C := RX10) (T := TX10) (N := 65) hx hb htb itX10 hown hK hP 0 rfl rfl 49 (by decide) (htb _ k_1117) (fun _ h9 => h9) rfl dX10_laysNobody_62 ?_
          refine lv_iload_n hx hb dX10_laysNobody_65 rfl (lv_at hl 1 rfl) ?_
          refine lv_iconst (v := (-1)) hx hb dX10_laysNobody_66 (by decide) ?_
          refine va_iast hx hb hK hP hD hS 6 0 rfl rfl (vp_in_nI (by omega) (by decide)) dX10_laysNobody_67 (fun H locs hP hD hS => ?_)
          obtain ⟨f_1, ef_1⟩ : ∃ g : Nat → Int32, g = upd fb5 (Int32.toNatClampNeg (nI i)) (-1) := ⟨_, rfl⟩
          rw [← ef_1] at hP hD
          have hP : va_P D vwCl [(h0, .inr (10, [.ref a_now, .ref a_aside, .ref a_kept, .ref a_keptFrom, .ref a_keptTo, .ref a_capOf, .ref a_leaveFrom, .ref a_leaveTo, .ref a_amountOf, .ref a_doerMany, .ref a_doerOf, .int 0, .int 0, .int 0, .ref a_tape, .int 0, .int 0, .int 0, .int 0, .int 0, .int 0, .int 0, .int 0, .int 0, .int 0, .ref a_said, .ref a_waitsAt, .ref a_saidLetter, .ref a_saidFrom, .ref a_saidHalf, .ref a_saidTo, .ref a_codes, .ref a_clauseOf, .ref a_codeFrom, .ref a_codeHalf, .ref a_codeTo, .ref a_stack, .ref a_facts, .ref a_lineChore, .ref a_lineMany, .ref a_lineDoer, .ref a_newFrom, .ref a_newTo, .int 0, .ref a_goFrom, .ref a_goTo, .ref a_idleFrom, .ref a_idleTo, .ref a_moreOf, .ref a_firstOf, .ref a_leftOf, .ref a_didOf, .int rv, .int du, .int cl, .int gd, .ref a_costBy, .int 0, .ref a_gainBy, .ref a_hiredOf, .ref a_hiredBest, .ref a_hiredTo, .ref a_turnOf, .ref a_turnWho, .int 0])), (a_goFrom, .inl (cI, 10, .inl fb0)), (a_goTo, .inl (cI, 10, .inl fb1)), (a_idleFrom, .inl (cI, 10, .inl fb2)), (a_idleTo, .inl (cI, 10, .inl fb3)), (a_moreOf, .inl (cI, 10, .inl fb4)), (a_firstOf, .inl (cI, 12, .inl f_1))] H := hP
          have hD : va_D A [(h0, .inr (10, [.ref a_now, .ref a_aside, .ref a_kept, .ref a_keptFrom, .ref a_keptTo, .ref a_capOf, .ref a_leaveFrom, .ref a_leaveTo, .ref a_amountOf, .ref a_doerMany, .ref a_doerOf, .int 0, .int 0, .int 0, .ref a_tape, .int 0, .int 0, .int 0, .int 0, .int 0, .int 0, .int 0, .int 0, .int 0, .int 0, .ref a_said, .ref a_waitsAt, .ref a_saidLetter, .ref a_saidFrom, .ref a_saidHalf, .ref a_saidTo, .ref a_codes, .ref a_clauseOf, .ref a_codeFrom, .ref a_codeHalf, .ref a_codeTo, .ref a_stack, .ref a_facts, .ref a_lineChore, .ref a_lineMany, .ref a_lineDoer, .ref a_newFrom, .ref a_newTo, .int 0, .ref a_goFrom, .ref a_goTo, .ref a_idleFrom, .ref a_idleTo, .ref a_moreOf, .ref a_firstOf, .ref a_leftOf, .ref a_didOf, .int rv, .int du, .int cl, .int gd, .ref a_costBy, .int 0, .ref a_gainBy, .ref a_hiredOf, .ref a_hiredBest, .ref a_hiredTo, .ref a_turnOf, .ref a_turnWho, .int 0])), (a_goFrom, .inl (cI, 10, .inl fb0)), (a_goTo, .inl (cI, 10, .inl fb1)), (a_idleFrom, .inl (cI, 10, .inl fb2)), (a_idleTo, .inl (cI, 10, .inl fb3)), (a_moreOf, .inl (cI, 10, .inl fb4)), (a_firstOf, .inl (cI, 12, .inl f_1))] := hD
          refine lv_iinc (v := (nI (i + 1))) (lv' := [(1, .int (nI (i + 1))), (0, .ref h0)]) hx hb dX10_laysNobody_68 hl (k := 1) rfl (nI_1 i) (by decide) rfl (fun ls hl => ?_)
          refine lv_goto (tgt := 55) hx hb dX10_laysNobody_71 (by decide) ?_
          exact ih (i + 1) f_1 (by omega) _ _ (hP.sub [0, 1, 2, 3, 4, 5, 6] rfl) (hD.sub [0, 1, 2, 3, 4, 5, 6] (by decide) rfl) hS _ (lv_sub hl [1, 0] rfl)
      exact loop_55 12 0 fa5 (by omega) _ _ (hP.sub [0, 1, 2, 3, 4, 5, 6] rfl) (hD.sub [0, 1, 2, 3, 4, 5, 6] (by decide) rfl) hS _ (lv_sub hl [1, 0] rfl)
    | succ n ih =>
      intro i fb0 fb1 fb2 fb3 fb4 hni H locs hP hD hS ls hl
      have hi : i < 10 := by omega
      refine lv_iload_n hx hb dX10_laysNobody_2 rfl (lv_at hl 1 rfl) ?_
      refine lv_bipush (v := 10) hx hb dX10_laysNobody_3 (by decide) ?_
      refine lv_icmp_ge (tgt := 53) hx hb dX10_laysNobody_5 (by decide) (fun c_5 => absurd c_5 (nI_ge hi (by decide))) (fun _ => ?_)
      refine lv_aload_n hx hb dX10_laysNobody_8 rfl (lv_at hl 0 rfl) ?_
      refine va_get (D := D) (ci := 10) (v := .ref a_goFrom) (C := RX10) (T := TX10) (N := 65) hx hb htb itX10 hown hK hP 0 rfl rfl 44 (by decide) (htb _ k_1112) (fun _ h9 => h9) rfl dX10_laysNobody_9 ?_
      refine lv_iload_n hx hb dX10_laysNobody_12 rfl (lv_at hl 1 rfl) ?_
      refine lv_bipush (v := (-2)) hx hb dX10_laysNobody_13 (by decide) ?_
      refine va_iast hx hb hK hP hD hS 1 0 rfl rfl (vp_in_nI (by omega) (by decide)) dX10_laysNobody_15 (fun H locs hP hD hS => ?_)
      obtain ⟨f_2, ef_2⟩ : ∃ g : Nat → Int32, g = upd fb0 (Int32.toNatClampNeg (nI i)) (-2) := ⟨_, rfl⟩
      rw [← ef_2] at hP hD
      have hP : va_P D vwCl [(h0, .inr (10, [.ref a_now, .ref a_aside, .ref a_kept, .ref a_keptFrom, .ref a_keptTo, .ref a_capOf, .ref a_leaveFrom, .ref a_leaveTo, .ref a_amountOf, .ref a_doerMany, .ref a_doerOf, .int 0, .int 0, .int 0, .ref a_tape, .int 0, .int 0, .int 0, .int 0, .int 0, .int 0, .int 0, .int 0, .int 0, .int 0, .ref a_said, .ref a_waitsAt, .ref a_saidLetter, .ref a_saidFrom, .ref a_saidHalf, .ref a_saidTo, .ref a_codes, .ref a_clauseOf, .ref a_codeFrom, .ref a_codeHalf, .ref a_codeTo, .ref a_stack, .ref a_facts, .ref a_lineChore, .ref a_lineMany, .ref a_lineDoer, .ref a_newFrom, .ref a_newTo, .int 0, .ref a_goFrom, .ref a_goTo, .ref a_idleFrom, .ref a_idleTo, .ref a_moreOf, .ref a_firstOf, .ref a_leftOf, .ref a_didOf, .int rv, .int du, .int cl, .int gd, .ref a_costBy, .int 0, .ref a_gainBy, .ref a_hiredOf, .ref a_hiredBest, .ref a_hiredTo, .ref a_turnOf, .ref a_turnWho, .int 0])), (a_goFrom, .inl (cI, 10, .inl f_2)), (a_goTo, .inl (cI, 10, .inl fb1)), (a_idleFrom, .inl (cI, 10, .inl fb2)), (a_idleTo, .inl (cI, 10, .inl fb3)), (a_moreOf, .inl (cI, 10, .inl fb4)), (a_firstOf, .inl (cI, 12, .inl fa5))] H := hP
      have hD : va_D A [(h0, .inr (10, [.ref a_now, .ref a_aside, .ref a_kept, .ref a_keptFrom, .ref a_keptTo, .ref a_capOf, .ref a_leaveFrom, .ref a_leaveTo, .ref a_amountOf, .ref a_doerMany, .ref a_doerOf, .int 0, .int 0, .int 0, .ref a_tape, .int 0, .int 0, .int 0, .int 0, .int 0, .int 0, .int 0, .int 0, .int 0, .int 0, .ref a_said, .ref a_waitsAt, .ref a_saidLetter, .ref a_saidFrom, .ref a_saidHalf, .ref a_saidTo, .ref a_codes, .ref a_clauseOf, .ref a_codeFrom, .ref a_codeHalf, .ref a_codeTo, .ref a_stack, .ref a_facts, .ref a_lineChore, .ref a_lineMany, .ref a_lineDoer, .ref a_newFrom, .ref a_newTo, .int 0, .ref a_goFrom, .ref a_goTo, .ref a_idleFrom, .ref a_idleTo, .ref a_moreOf, .ref a_firstOf, .ref a_leftOf, .ref a_didOf, .int rv, .int du, .int cl, .int gd, .ref a_costBy, .int 0, .ref a_gainBy, .ref a_hiredOf, .ref a_hiredBest, .ref a_hiredTo, .ref a_turnOf, .ref a_turnWho, .int 0])), (a_goFrom, .inl (cI, 10, .inl f_2)), (a_goTo, .inl (cI, 10, .inl fb1)), (a_idleFrom, .inl (cI, 10, .inl fb2)), (a_idleTo, .inl (cI, 10, .inl fb3)), (a_moreOf, .inl (cI, 10, .inl fb4)), (a_firstOf, .inl (cI, 12, .inl fa5))] := hD
      refine lv_aload_n hx hb dX10_laysNobody_16 rfl (lv_at hl 0 rfl) ?_
      refine va_get (D := D) (ci := 10) (v := .ref a_goTo) (C := RX10) (T := TX10) (N := 65) hx hb htb itX10 hown hK hP 0 rfl rfl 45 (by decide) (htb _ k_1113) (fun _ h9 => h9) rfl dX10_laysNobody_17 ?_
      refine lv_iload_n hx hb dX10_laysNobody_20 rfl (lv_at hl 1 rfl) ?_
      refine lv_bipush (v := (-3)) hx hb dX10_laysNobody_21 (by decide) ?_
      refine va_iast hx hb hK hP hD hS 2 0 rfl rfl (vp_in_nI (by omega) (by decide)) dX10_laysNobody_23 (fun H locs hP hD hS => ?_)
      obtain ⟨f_3, ef_3⟩ : ∃ g : Nat → Int32, g = upd fb1 (Int32.toNatClampNeg (nI i)) (-3) := ⟨_, rfl⟩
      rw [← ef_3] at hP hD
      have hP : va_P D vwCl [(h0, .inr (10, [.ref a_now, .ref a_aside, .ref a_kept, .ref a_keptFrom, .ref a_keptTo, .ref a_capOf, .ref a_leaveFrom, .ref a_leaveTo, .ref a_amountOf, .ref a_doerMany, .ref a_doerOf, .int 0, .int 0, .int 0, .ref a_tape, .int 0, .int 0, .int 0, .int 0, .int 0, .int 0, .int 0, .int 0, .int 0, .int 0, .ref a_said, .ref a_waitsAt, .ref a_saidLetter, .ref a_saidFrom, .ref a_saidHalf, .ref a_saidTo, .ref a_codes, .ref a_clauseOf, .ref a_codeFrom, .ref a_codeHalf, .ref a_codeTo, .ref a_stack, .ref a_facts, .ref a_lineChore, .ref a_lineMany, .ref a_lineDoer, .ref a_newFrom, .ref a_newTo, .int 0, .ref a_goFrom, .ref a_goTo, .ref a_idleFrom, .ref a_idleTo, .ref a_moreOf, .ref a_firstOf, .ref a_leftOf, .ref a_didOf, .int rv, .int du, .int cl, .int gd, .ref a_costBy, .int 0, .ref a_gainBy, .ref a_hiredOf, .ref a_hiredBest, .ref a_hiredTo, .ref a_turnOf, .ref a_turnWho, .int 0])), (a_goFrom, .inl (cI, 10, .inl f_2)), (a_goTo, .inl (cI, 10, .inl f_3)), (a_idleFrom, .inl (cI, 10, .inl fb2)), (a_idleTo, .inl (cI, 10, .inl fb3)), (a_moreOf, .inl (cI, 10, .inl fb4)), (a_firstOf, .inl (cI, 12, .inl fa5))] H := hP
      have hD : va_D A [(h0, .inr (10, [.ref a_now, .ref a_aside, .ref a_kept, .ref a_keptFrom, .ref a_keptTo, .ref a_capOf, .ref a_leaveFrom, .ref a_leaveTo, .ref a_amountOf, .ref a_doerMany, .ref a_doerOf, .int 0, .int 0, .int 0, .ref a_tape, .int 0, .int 0, .int 0, .int 0, .int 0, .int 0, .int 0, .int 0, .int 0, .int 0, .ref a_said, .ref a_waitsAt, .ref a_saidLetter, .ref a_saidFrom, .ref a_saidHalf, .ref a_saidTo, .ref a_codes, .ref a_clauseOf, .ref a_codeFrom, .ref a_codeHalf, .ref a_codeTo, .ref a_stack, .ref a_facts, .ref a_lineChore, .ref a_lineMany, .ref a_lineDoer, .ref a_newFrom, .ref a_newTo, .int 0, .ref a_goFrom, .ref a_goTo, .ref a_idleFrom, .ref a_idleTo, .ref a_moreOf, .ref a_firstOf, .ref a_leftOf, .ref a_didOf, .int rv, .int du, .int cl, .int gd, .ref a_costBy, .int 0, .ref a_gainBy, .ref a_hiredOf, .ref a_hiredBest, .ref a_hiredTo, .ref a_turnOf, .ref a_turnWho, .int 0])), (a_goFrom, .inl (cI, 10, .inl f_2)), (a_goTo, .inl (cI, 10, .inl f_3)), (a_idleFrom, .inl (cI, 10, .inl fb2)), (a_idleTo, .inl (cI, 10, .inl fb3)), (a_moreOf, .inl (cI, 10, .inl fb4)), (a_firstOf, .inl (cI, 12, .inl fa5))] := hD
      refine lv_aload_n hx hb dX10_laysNobody_24 rfl (lv_at hl 0 rfl) ?_
      refine va_get (D := D) (ci := 10) (v := .ref a_idleFrom) (C := RX10) (T := TX10) (N := 65) hx hb htb itX10 hown hK hP 0 rfl rfl 46 (by decide) (htb _ k_1114) (fun _ h9 => h9) rfl dX10_laysNobody_25 ?_
      refine lv_iload_n hx hb dX10_laysNobody_28 rfl (lv_at hl 1 rfl) ?_
      refine lv_bipush (v := (-2)) hx hb dX10_laysNobody_29 (by decide) ?_
      refine va_iast hx hb hK hP hD hS 3 0 rfl rfl (vp_in_nI (by omega) (by decide)) dX10_laysNobody_31 (fun H locs hP hD hS => ?_)
      obtain ⟨f_4, ef_4⟩ : ∃ g : Nat → Int32, g = upd fb2 (Int32.toNatClampNeg (nI i)) (-2) := ⟨_, rfl⟩
      rw [← ef_4] at hP hD
      have hP : va_P D vwCl [(h0, .inr (10, [.ref a_now, .ref a_aside, .ref a_kept, .ref a_keptFrom, .ref a_keptTo, .ref a_capOf, .ref a_leaveFrom, .ref a_leaveTo, .ref a_amountOf, .ref a_doerMany, .ref a_doerOf, .int 0, .int 0, .int 0, .ref a_tape, .int 0, .int 0, .int 0, .int 0, .int 0, .int 0, .int 0, .int 0, .int 0, .int 0, .ref a_said, .ref a_waitsAt, .ref a_saidLetter, .ref a_saidFrom, .ref a_saidHalf, .ref a_saidTo, .ref a_codes, .ref a_clauseOf, .ref a_codeFrom, .ref a_codeHalf, .ref a_codeTo, .ref a_stack, .ref a_facts, .ref a_lineChore, .ref a_lineMany, .ref a_lineDoer, .ref a_newFrom, .ref a_newTo, .int 0, .ref a_goFrom, .ref a_goTo, .ref a_idleFrom, .ref a_idleTo, .ref a_moreOf, .ref a_firstOf, .ref a_leftOf, .ref a_didOf, .int rv, .int du, .int cl, .int gd, .ref a_costBy, .int 0, .ref a_gainBy, .ref a_hiredOf, .ref a_hiredBest, .ref a_hiredTo, .ref a_turnOf, .ref a_turnWho, .int 0])), (a_goFrom, .inl (cI, 10, .inl f_2)), (a_goTo, .inl (cI, 10, .inl f_3)), (a_idleFrom, .inl (cI, 10, .inl f_4)), (a_idleTo, .inl (cI, 10, .inl fb3)), (a_moreOf, .inl (cI, 10, .inl fb4)), (a_firstOf, .inl (cI, 12, .inl fa5))] H := hP
      have hD : va_D A [(h0, .inr (10, [.ref a_now, .ref a_aside, .ref a_kept, .ref a_keptFrom, .ref a_keptTo, .ref a_capOf, .ref a_leaveFrom, .ref a_leaveTo, .ref a_amountOf, .ref a_doerMany, .ref a_doerOf, .int 0, .int 0, .int 0, .ref a_tape, .int 0, .int 0, .int 0, .int 0, .int 0, .int 0, .int 0, .int 0, .int 0, .int 0, .ref a_said, .ref a_waitsAt, .ref a_saidLetter, .ref a_saidFrom, .ref a_saidHalf, .ref a_saidTo, .ref a_codes, .ref a_clauseOf, .ref a_codeFrom, .ref a_codeHalf, .ref a_codeTo, .ref a_stack, .ref a_facts, .ref a_lineChore, .ref a_lineMany, .ref a_lineDoer, .ref a_newFrom, .ref a_newTo, .int 0, .ref a_goFrom, .ref a_goTo, .ref a_idleFrom, .ref a_idleTo, .ref a_moreOf, .ref a_firstOf, .ref a_leftOf, .ref a_didOf, .int rv, .int du, .int cl, .int gd, .ref a_costBy, .int 0, .ref a_gainBy, .ref a_hiredOf, .ref a_hiredBest, .ref a_hiredTo, .ref a_turnOf, .ref a_turnWho, .int 0])), (a_goFrom, .inl (cI, 10, .inl f_2)), (a_goTo, .inl (cI, 10, .inl f_3)), (a_idleFrom, .inl (cI, 10, .inl f_4)), (a_idleTo, .inl (cI, 10, .inl fb3)), (a_moreOf, .inl (cI, 10, .inl fb4)), (a_firstOf, .inl (cI, 12, .inl fa5))] := hD
      refine lv_aload_n hx hb dX10_laysNobody_32 rfl (lv_at hl 0 rfl) ?_
      refine va_get (D := D) (ci := 10) (v := .ref a_idleTo) (C := RX10) (T := TX10) (N := 65) hx hb htb itX10 hown hK hP 0 rfl rfl 47 (by decide) (htb _ k_1115) (fun _ h9 => h9) rfl dX10_laysNobody_33 ?_
      refine lv_iload_n hx hb dX10_laysNobody_36 rfl (lv_at hl 1 rfl) ?_
      refine lv_bipush (v := (-3)) hx hb dX10_laysNobody_37 (by decide) ?_
      refine va_iast hx hb hK hP hD hS 4 0 rfl rfl (vp_in_nI (by omega) (by decide)) dX10_laysNobody_39 (fun H locs hP hD hS => ?_)
      obtain ⟨f_5, ef_5⟩ : ∃ g : Nat → Int32, g = upd fb3 (Int32.toNatClampNeg (nI i)) (-3) := ⟨_, rfl⟩
      rw [← ef_5] at hP hD
      have hP : va_P D vwCl [(h0, .inr (10, [.ref a_now, .ref a_aside, .ref a_kept, .ref a_keptFrom, .ref a_keptTo, .ref a_capOf, .ref a_leaveFrom, .ref a_leaveTo, .ref a_amountOf, .ref a_doerMany, .ref a_doerOf, .int 0, .int 0, .int 0, .ref a_tape, .int 0, .int 0, .int 0, .int 0, .int 0, .int 0, .int 0, .int 0, .int 0, .int 0, .ref a_said, .ref a_waitsAt, .ref a_saidLetter, .ref a_saidFrom, .ref a_saidHalf, .ref a_saidTo, .ref a_codes, .ref a_clauseOf, .ref a_codeFrom, .ref a_codeHalf, .ref a_codeTo, .ref a_stack, .ref a_facts, .ref a_lineChore, .ref a_lineMany, .ref a_lineDoer, .ref a_newFrom, .ref a_newTo, .int 0, .ref a_goFrom, .ref a_goTo, .ref a_idleFrom, .ref a_idleTo, .ref a_moreOf, .ref a_firstOf, .ref a_leftOf, .ref a_didOf, .int rv, .int du, .int cl, .int gd, .ref a_costBy, .int 0, .ref a_gainBy, .ref a_hiredOf, .ref a_hiredBest, .ref a_hiredTo, .ref a_turnOf, .ref a_turnWho, .int 0])), (a_goFrom, .inl (cI, 10, .inl f_2)), (a_goTo, .inl (cI, 10, .inl f_3)), (a_idleFrom, .inl (cI, 10, .inl f_4)), (a_idleTo, .inl (cI, 10, .inl f_5)), (a_moreOf, .inl (cI, 10, .inl fb4)), (a_firstOf, .inl (cI, 12, .inl fa5))] H := hP
      have hD : va_D A [(h0, .inr (10, [.ref a_now, .ref a_aside, .ref a_kept, .ref a_keptFrom, .ref a_keptTo, .ref a_capOf, .ref a_leaveFrom, .ref a_leaveTo, .ref a_amountOf, .ref a_doerMany, .ref a_doerOf, .int 0, .int 0, .int 0, .ref a_tape, .int 0, .int 0, .int 0, .int 0, .int 0, .int 0, .int 0, .int 0, .int 0, .int 0, .ref a_said, .ref a_waitsAt, .ref a_saidLetter, .ref a_saidFrom, .ref a_saidHalf, .ref a_saidTo, .ref a_codes, .ref a_clauseOf, .ref a_codeFrom, .ref a_codeHalf, .ref a_codeTo, .ref a_stack, .ref a_facts, .ref a_lineChore, .ref a_lineMany, .ref a_lineDoer, .ref a_newFrom, .ref a_newTo, .int 0, .ref a_goFrom, .ref a_goTo, .ref a_idleFrom, .ref a_idleTo, .ref a_moreOf, .ref a_firstOf, .ref a_leftOf, .ref a_didOf, .int rv, .int du, .int cl, .int gd, .ref a_costBy, .int 0, .ref a_gainBy, .ref a_hiredOf, .ref a_hiredBest, .ref a_hiredTo, .ref a_turnOf, .ref a_turnWho, .int 0])), (a_goFrom, .inl (cI, 10, .inl f_2)), (a_goTo, .inl (cI, 10, .inl f_3)), (a_idleFrom, .inl (cI, 10, .inl f_4)), (a_idleTo, .inl (cI, 10, .inl f_5)), (a_moreOf, .inl (cI, 10, .inl fb4)), (a_firstOf, .inl (cI, 12, .inl fa5))] := hD
      refine lv_aload_n hx hb dX10_laysNobody_40 rfl (lv_at hl 0 rfl) ?_
      refine va_get (D := D) (ci := 10) (v := .ref a_moreOf) (C := RX10) (T := TX10) (N := 65) hx hb htb itX10 hown hK hP 0 rfl rfl 48 (by decide) (htb _ k_1116) (fun _ h9 => h9) rfl dX10_laysNobody_41 ?_
      refine lv_iload_n hx hb dX10_laysNobody_44 rfl (lv_at hl 1 rfl) ?_
      refine lv_iconst (v := 0) hx hb dX10_laysNobody_45 (by decide) ?_
      refine va_iast hx hb hK hP hD hS 5 0 rfl rfl (vp_in_nI (by omega) (by decide)) dX10_laysNobody_46 (fun H locs hP hD hS => ?_)
      obtain ⟨f_6, ef_6⟩ : ∃ g : Nat → Int32, g = upd fb4 (Int32.toNatClampNeg (nI i)) 0 := ⟨_, rfl⟩
      rw [← ef_6] at hP hD
      have hP : va_P D vwCl [(h0, .inr (10, [.ref a_now, .ref a_aside, .ref a_kept, .ref a_keptFrom, .ref a_keptTo, .ref a_capOf, .ref a_leaveFrom, .ref a_leaveTo, .ref a_amountOf, .ref a_doerMany, .ref a_doerOf, .int 0, .int 0, .int 0, .ref a_tape, .int 0, .int 0, .int 0, .int 0, .int 0, .int 0, .int 0, .int 0, .int 0, .int 0, .ref a_said, .ref a_waitsAt, .ref a_saidLetter, .ref a_saidFrom, .ref a_saidHalf, .ref a_saidTo, .ref a_codes, .ref a_clauseOf, .ref a_codeFrom, .ref a_codeHalf, .ref a_codeTo, .ref a_stack, .ref a_facts, .ref a_lineChore, .ref a_lineMany, .ref a_lineDoer, .ref a_newFrom, .ref a_newTo, .int 0, .ref a_goFrom, .ref a_goTo, .ref a_idleFrom, .ref a_idleTo, .ref a_moreOf, .ref a_firstOf, .ref a_leftOf, .ref a_didOf, .int rv, .int du, .int cl, .int gd, .ref a_costBy, .int 0, .ref a_gainBy, .ref a_hiredOf, .ref a_hiredBest, .ref a_hiredTo, .ref a_turnOf, .ref a_turnWho, .int 0])), (a_goFrom, .inl (cI, 10, .inl f_2)), (a_goTo, .inl (cI, 10, .inl f_3)), (a_idleFrom, .inl (cI, 10, .inl f_4)), (a_idleTo, .inl (cI, 10, .inl f_5)), (a_moreOf, .inl (cI, 10, .inl f_6)), (a_firstOf, .inl (cI, 12, .inl fa5))] H := hP
      have hD : va_D A [(h0, .inr (10, [.ref a_now, .ref a_aside, .ref a_kept, .ref a_keptFrom, .ref a_keptTo, .ref a_capOf, .ref a_leaveFrom, .ref a_leaveTo, .ref a_amountOf, .ref a_doerMany, .ref a_doerOf, .int 0, .int 0, .int 0, .ref a_tape, .int 0, .int 0, .int 0, .int 0, .int 0, .int 0, .int 0, .int 0, .int 0, .int 0, .ref a_said, .ref a_waitsAt, .ref a_saidLetter, .ref a_saidFrom, .ref a_saidHalf, .ref a_saidTo, .ref a_codes, .ref a_clauseOf, .ref a_codeFrom, .ref a_codeHalf, .ref a_codeTo, .ref a_stack, .ref a_facts, .ref a_lineChore, .ref a_lineMany, .ref a_lineDoer, .ref a_newFrom, .ref a_newTo, .int 0, .ref a_goFrom, .ref a_goTo, .ref a_idleFrom, .ref a_idleTo, .ref a_moreOf, .ref a_firstOf, .ref a_leftOf, .ref a_didOf, .int rv, .int du, .int cl, .int gd, .ref a_costBy, .int 0, .ref a_gainBy, .ref a_hiredOf, .ref a_hiredBest, .ref a_hiredTo, .ref a_turnOf, .ref a_turnWho, .int 0])), (a_goFrom, .inl (cI, 10, .inl f_2)), (a_goTo, .inl (cI, 10, .inl f_3)), (a_idleFrom, .inl (cI, 10, .inl f_4)), (a_idleTo, .inl (cI, 10, .inl f_5)), (a_moreOf, .inl (cI, 10, .inl f_6)), (a_firstOf, .inl (cI, 12, .inl fa5))] := hD
      refine lv_iinc (v := (nI (i + 1))) (lv' := [(1, .int (nI (i + 1))), (0, .ref h0)]) hx hb dX10_laysNobody_47 hl (k := 1) rfl (nI_1 i) (by decide) rfl (fun ls hl => ?_)
      refine lv_goto (tgt := 2) hx hb dX10_laysNobody_50 (by decide) ?_
      exact ih (i + 1) f_2 f_3 f_4 f_5 f_6 (by omega) _ _ (hP.sub [0, 1, 2, 3, 4, 5, 6] rfl) (hD.sub [0, 1, 2, 3, 4, 5, 6] (by decide) rfl) hS _ (lv_sub hl [1, 0] rfl)
  exact loop_2 10 0 fa0 fa1 fa2 fa3 fa4 (by omega) _ _ (hP.sub [0, 1, 2, 3, 4, 5, 6] rfl) (hD.sub [0, 1, 2, 3, 4, 5, 6] (by decide) rfl) hS _ (lv_sub hl [1, 0] rfl)

set_option maxRecDepth 100000 in
set_option maxHeartbeats 4000000 in
theorem c_X10_laysGoing (l : Launch) (D : va_G) (cI cB : ClassId) (sz : Nat) (h0 : Nat) (a_now : Nat) (a_aside : Nat) (a_kept : Nat) (a_keptFrom : Nat) (a_keptTo : Nat) (a_capOf : Nat) (a_leaveFrom : Nat) (a_leaveTo : Nat) (a_amountOf : Nat) (a_doerMany : Nat) (a_doerOf : Nat) (a_tape : Nat) (a_said : Nat) (a_waitsAt : Nat) (a_saidLetter : Nat) (a_saidFrom : Nat) (a_saidHalf : Nat) (a_saidTo : Nat) (a_codes : Nat) (a_clauseOf : Nat) (a_codeFrom : Nat) (a_codeHalf : Nat) (a_codeTo : Nat) (a_stack : Nat) (a_facts : Nat) (a_lineChore : Nat) (a_lineMany : Nat) (a_lineDoer : Nat) (a_newFrom : Nat) (a_newTo : Nat) (a_goFrom : Nat) (a_goTo : Nat) (a_idleFrom : Nat) (a_idleTo : Nat) (a_moreOf : Nat) (a_firstOf : Nat) (a_leftOf : Nat) (a_didOf : Nat) (a_costBy : Nat) (a_gainBy : Nat) (a_hiredOf : Nat) (a_hiredBest : Nat) (a_hiredTo : Nat) (a_turnOf : Nat) (a_turnWho : Nat) (rv : Int32) (du : Int32) (cl : Int32) (gd : Int32) (fa0 : Nat → Int32) (fa1 : Nat → Int32) (fa2 : Nat → Int32) (fa3 : Nat → Int32) (fa4 : Nat → Int32) (fa5 : Nat → Int32) (fl : Nat → Int32) (a : Int32) (hf : ∀ j, j < 10 → fl j = -2) : MV (S := ((Nat → Int32) × (Nat → Int32) × (Nat → Int32) × (Nat → Int32) × (Nat → Int32) × (Nat → Int32))) l D cI cB yX10_laysGoing cX10_laysGoing 3 (rm 1 21) [.ref h0, .int a] [(h0, .inr (10, [.ref a_now, .ref a_aside, .ref a_kept, .ref a_keptFrom, .ref a_keptTo, .ref a_capOf, .ref a_leaveFrom, .ref a_leaveTo, .ref a_amountOf, .ref a_doerMany, .ref a_doerOf, .int 0, .int 0, .int 0, .ref a_tape, .int 0, .int 0, .int 0, .int 0, .int 0, .int 0, .int 0, .int 0, .int 0, .int 0, .ref a_said, .ref a_waitsAt, .ref a_saidLetter, .ref a_saidFrom, .ref a_saidHalf, .ref a_saidTo, .ref a_codes, .ref a_clauseOf, .ref a_codeFrom, .ref a_codeHalf, .ref a_codeTo, .ref a_stack, .ref a_facts, .ref a_lineChore, .ref a_lineMany, .ref a_lineDoer, .ref a_newFrom, .ref a_newTo, .int 0, .ref a_goFrom, .ref a_goTo, .ref a_idleFrom, .ref a_idleTo, .ref a_moreOf, .ref a_firstOf, .ref a_leftOf, .ref a_didOf, .int rv, .int du, .int cl, .int gd, .ref a_costBy, .int 0, .ref a_gainBy, .ref a_hiredOf, .ref a_hiredBest, .ref a_hiredTo, .ref a_turnOf, .ref a_turnWho, .int 0])), (a_goFrom, .inl (cI, 10, .inl fa0)), (a_goTo, .inl (cI, 10, .inl fa1)), (a_idleFrom, .inl (cI, 10, .inl fa2)), (a_idleTo, .inl (cI, 10, .inl fa3)), (a_moreOf, .inl (cI, 10, .inl fa4)), (a_firstOf, .inl (cI, 12, .inl fa5)), (a_leaveFrom, .inl (cI, 10, .inl fl))] sz (fun u => True) (fun u : ((Nat → Int32) × (Nat → Int32) × (Nat → Int32) × (Nat → Int32) × (Nat → Int32) × (Nat → Int32)) => [(h0, .inr (10, [.ref a_now, .ref a_aside, .ref a_kept, .ref a_keptFrom, .ref a_keptTo, .ref a_capOf, .ref a_leaveFrom, .ref a_leaveTo, .ref a_amountOf, .ref a_doerMany, .ref a_doerOf, .int 0, .int 0, .int 0, .ref a_tape, .int 0, .int 0, .int 0, .int 0, .int 0, .int 0, .int 0, .int 0, .int 0, .int 0, .ref a_said, .ref a_waitsAt, .ref a_saidLetter, .ref a_saidFrom, .ref a_saidHalf, .ref a_saidTo, .ref a_codes, .ref a_clauseOf, .ref a_codeFrom, .ref a_codeHalf, .ref a_codeTo, .ref a_stack, .ref a_facts, .ref a_lineChore, .ref a_lineMany, .ref a_lineDoer, .ref a_newFrom, .ref a_newTo, .int 0, .ref a_goFrom, .ref a_goTo, .ref a_idleFrom, .ref a_idleTo, .ref a_moreOf, .ref a_firstOf, .ref a_leftOf, .ref a_didOf, .int rv, .int du, .int cl, .int gd, .ref a_costBy, .int 0, .ref a_gainBy, .ref a_hiredOf, .ref a_hiredBest, .ref a_hiredTo, .ref a_turnOf, .ref a_turnWho, .int 0])), (a_goFrom, .inl (cI, 10, .inl u.1)), (a_goTo, .inl (cI, 10, .inl u.2.1)), (a_idleFrom, .inl (cI, 10, .inl u.2.2.1)), (a_idleTo, .inl (cI, 10, .inl u.2.2.2.1)), (a_moreOf, .inl (cI, 10, .inl u.2.2.2.2.1)), (a_firstOf, .inl (cI, 12, .inl u.2.2.2.2.2)), (a_leaveFrom, .inl (cI, 10, .inl fl))]) := by
  refine MV.of (by decide) (Nat.le_of_ble_eq_true rfl) ?_
  intro p e s m below meth c Q ls A X hin hN hP hK hD hA hl ret
  have hS : va_S A s.heap s.heap [] := va_S.rf
  obtain ⟨hx, hb, hml, hown, htb⟩ := id X
  have hl : lv_has ls 3 [(0, .ref h0), (1, .int a)] := hl
  refine lv_aload_n hx hb dX10_laysGoing_0 rfl (lv_at hl 0 rfl) ?_
  refine cVV (As := []) (rest := []) (n := 0) (ci := 10) (q0 := 0) (wr := [(a_leaveFrom, .inl (cI, 10, .inl fl))]) X hN hK hP hD hS hA (c_X10_laysNobody l D cI cB _ h0 a_now a_aside a_kept a_keptFrom a_keptTo a_capOf a_leaveFrom a_leaveTo a_amountOf a_doerMany a_doerOf a_tape a_said a_waitsAt a_saidLetter a_saidFrom a_saidHalf a_saidTo a_codes a_clauseOf a_codeFrom a_codeHalf a_codeTo a_stack a_facts a_lineChore a_lineMany a_lineDoer a_newFrom a_newTo a_goFrom a_goTo a_idleFrom a_idleTo a_moreOf a_firstOf a_leftOf a_didOf a_costBy a_gainBy a_hiredOf a_hiredBest a_hiredTo a_turnOf a_turnWho rv du cl gd fa0 fa1 fa2 fa3 fa4 fa5) (gV k_1426 k_1428 k_59 k_103 k_1429) (by decide +kernel) ⟨Nat.le_of_ble_eq_true rfl, Nat.le_of_ble_eq_true rfl⟩ ⟨rfl, rfl⟩ [0, 1, 2, 3, 4, 5, 6] [7] rfl rfl (by decide) (by decide) rfl rfl rfl rfl rfl hl.1 (Nat.le_of_ble_eq_true rfl) dX10_laysGoing_1 ⟨Nat.le_of_ble_eq_true rfl, Nat.le_of_ble_eq_true rfl⟩ (fun u H locs hw_8 hP hD hS => ?_)
  obtain ⟨go0_2, go1_3, go2_4, go3_5, go4_6, go5_7⟩ := u
  try dsimp only at hw_8
  have hP : va_P D vwCl [(a_leaveFrom, .inl (cI, 10, .inl fl)), (h0, .inr (10, [.ref a_now, .ref a_aside, .ref a_kept, .ref a_keptFrom, .ref a_keptTo, .ref a_capOf, .ref a_leaveFrom, .ref a_leaveTo, .ref a_amountOf, .ref a_doerMany, .ref a_doerOf, .int 0, .int 0, .int 0, .ref a_tape, .int 0, .int 0, .int 0, .int 0, .int 0, .int 0, .int 0, .int 0, .int 0, .int 0, .ref a_said, .ref a_waitsAt, .ref a_saidLetter, .ref a_saidFrom, .ref a_saidHalf, .ref a_saidTo, .ref a_codes, .ref a_clauseOf, .ref a_codeFrom, .ref a_codeHalf, .ref a_codeTo, .ref a_stack, .ref a_facts, .ref a_lineChore, .ref a_lineMany, .ref a_lineDoer, .ref a_newFrom, .ref a_newTo, .int 0, .ref a_goFrom, .ref a_goTo, .ref a_idleFrom, .ref a_idleTo, .ref a_moreOf, .ref a_firstOf, .ref a_leftOf, .ref a_didOf, .int rv, .int du, .int cl, .int gd, .ref a_costBy, .int 0, .ref a_gainBy, .ref a_hiredOf, .ref a_hiredBest, .ref a_hiredTo, .ref a_turnOf, .ref a_turnWho, .int 0])), (a_goFrom, .inl (cI, 10, .inl go0_2)), (a_goTo, .inl (cI, 10, .inl go1_3)), (a_idleFrom, .inl (cI, 10, .inl go2_4)), (a_idleTo, .inl (cI, 10, .inl go3_5)), (a_moreOf, .inl (cI, 10, .inl go4_6)), (a_firstOf, .inl (cI, 12, .inl go5_7))] H := hP
  have hD : va_D A [(a_leaveFrom, .inl (cI, 10, .inl fl)), (h0, .inr (10, [.ref a_now, .ref a_aside, .ref a_kept, .ref a_keptFrom, .ref a_keptTo, .ref a_capOf, .ref a_leaveFrom, .ref a_leaveTo, .ref a_amountOf, .ref a_doerMany, .ref a_doerOf, .int 0, .int 0, .int 0, .ref a_tape, .int 0, .int 0, .int 0, .int 0, .int 0, .int 0, .int 0, .int 0, .int 0, .int 0, .ref a_said, .ref a_waitsAt, .ref a_saidLetter, .ref a_saidFrom, .ref a_saidHalf, .ref a_saidTo, .ref a_codes, .ref a_clauseOf, .ref a_codeFrom, .ref a_codeHalf, .ref a_codeTo, .ref a_stack, .ref a_facts, .ref a_lineChore, .ref a_lineMany, .ref a_lineDoer, .ref a_newFrom, .ref a_newTo, .int 0, .ref a_goFrom, .ref a_goTo, .ref a_idleFrom, .ref a_idleTo, .ref a_moreOf, .ref a_firstOf, .ref a_leftOf, .ref a_didOf, .int rv, .int du, .int cl, .int gd, .ref a_costBy, .int 0, .ref a_gainBy, .ref a_hiredOf, .ref a_hiredBest, .ref a_hiredTo, .ref a_turnOf, .ref a_turnWho, .int 0])), (a_goFrom, .inl (cI, 10, .inl go0_2)), (a_goTo, .inl (cI, 10, .inl go1_3)), (a_idleFrom, .inl (cI, 10, .inl go2_4)), (a_idleTo, .inl (cI, 10, .inl go3_5)), (a_moreOf, .inl (cI, 10, .inl go4_6)), (a_firstOf, .inl (cI, 12, .inl go5_7))] := hD
  refine lv_iconst (v := 0) hx hb dX10_laysGoing_4 (by decide) ?_
  refine lv_istore_n (lv' := [(2, .int 0), (0, .ref h0), (1, .int a)]) hx hb dX10_laysGoing_5 rfl hl (by decide) rfl (fun ls hl => ?_)
  have loop_6 : ∀ (n i : Nat), n + i = 10 → ∀ (H : Heap) (locs : List Loc), va_P D vwCl [(a_leaveFrom, .inl (cI, 10, .inl fl)), (h0, .inr (10, [.ref a_now, .ref a_aside, .ref a_kept, .ref a_keptFrom, .ref a_keptTo, .ref a_capOf, .ref a_leaveFrom, .ref a_leaveTo, .ref a_amountOf, .ref a_doerMany, .ref a_doerOf, .int 0, .int 0, .int 0, .ref a_tape, .int 0, .int 0, .int 0, .int 0, .int 0, .int 0, .int 0, .int 0, .int 0, .int 0, .ref a_said, .ref a_waitsAt, .ref a_saidLetter, .ref a_saidFrom, .ref a_saidHalf, .ref a_saidTo, .ref a_codes, .ref a_clauseOf, .ref a_codeFrom, .ref a_codeHalf, .ref a_codeTo, .ref a_stack, .ref a_facts, .ref a_lineChore, .ref a_lineMany, .ref a_lineDoer, .ref a_newFrom, .ref a_newTo, .int 0, .ref a_goFrom, .ref a_goTo, .ref a_idleFrom, .ref a_idleTo, .ref a_moreOf, .ref a_firstOf, .ref a_leftOf, .ref a_didOf, .int rv, .int du, .int cl, .int gd, .ref a_costBy, .int 0, .ref a_gainBy, .ref a_hiredOf, .ref a_hiredBest, .ref a_hiredTo, .ref a_turnOf, .ref a_turnWho, .int 0])), (a_goFrom, .inl (cI, 10, .inl go0_2)), (a_goTo, .inl (cI, 10, .inl go1_3)), (a_idleFrom, .inl (cI, 10, .inl go2_4)), (a_idleTo, .inl (cI, 10, .inl go3_5)), (a_moreOf, .inl (cI, 10, .inl go4_6)), (a_firstOf, .inl (cI, 12, .inl go5_7))] H → va_D A [(a_leaveFrom, .inl (cI, 10, .inl fl)), (h0, .inr (10, [.ref a_now, .ref a_aside, .ref a_kept, .ref a_keptFrom, .ref a_keptTo, .ref a_capOf, .ref a_leaveFrom, .ref a_leaveTo, .ref a_amountOf, .ref a_doerMany, .ref a_doerOf, .int 0, .int 0, .int 0, .ref a_tape, .int 0, .int 0, .int 0, .int 0, .int 0, .int 0, .int 0, .int 0, .int 0, .int 0, .ref a_said, .ref a_waitsAt, .ref a_saidLetter, .ref a_saidFrom, .ref a_saidHalf, .ref a_saidTo, .ref a_codes, .ref a_clauseOf, .ref a_codeFrom, .ref a_codeHalf, .ref a_codeTo, .ref a_stack, .ref a_facts, .ref a_lineChore, .ref a_lineMany, .ref a_lineDoer, .ref a_newFrom, .ref a_newTo, .int 0, .ref a_goFrom, .ref a_goTo, .ref a_idleFrom, .ref a_idleTo, .ref a_moreOf, .ref a_firstOf, .ref a_leftOf, .ref a_didOf, .int rv, .int du, .int cl, .int gd, .ref a_costBy, .int 0, .ref a_gainBy, .ref a_hiredOf, .ref a_hiredBest, .ref a_hiredTo, .ref a_turnOf, .ref a_turnWho, .int 0])), (a_goFrom, .inl (cI, 10, .inl go0_2)), (a_goTo, .inl (cI, 10, .inl go1_3)), (a_idleFrom, .inl (cI, 10, .inl go2_4)), (a_idleTo, .inl (cI, 10, .inl go3_5)), (a_moreOf, .inl (cI, 10, .inl go4_6)), (a_firstOf, .inl (cI, 12, .inl go5_7))] → va_S A s.heap H locs → ∀ (ls : Array Slot), lv_has ls 3 [(0, .ref h0), (1, .int a), (2, .int (nI i))] → W p l e (rm 1 21) s m ([.ref h0, .int a] : List Value).toArray below meth c H locs 0 0 Q (F0 m 6 ls []) := by
    intro n
    induction n with
    | zero =>
      intro i hni H locs hP hD hS ls hl
      have hi : i = 10 := by omega
      subst hi
      refine lv_iload_n hx hb dX10_laysGoing_6 rfl (lv_at hl 2 rfl) ?_
      refine lv_bipush (v := 10) hx hb dX10_laysGoing_7 (by decide) ?_
      refine lv_icmp_ge (tgt := 51) hx hb dX10_laysGoing_9 (by decide) (fun _ => ?_) (fun c_9 => absurd (by decide) c_9)
      exact ret _ _ _ _ (go0_2, go1_3, go2_4, go3_5, go4_6, go5_7) dX10_laysGoing_51 trivial (hP.sub [1, 2, 3, 4, 5, 6, 7, 0] rfl) (hD.sub [1, 2, 3, 4, 5, 6, 7, 0] (by decide) rfl) hS
    | succ n ih =>
      intro i hni H locs hP hD hS ls hl
      have hi : i < 10 := by omega
      refine lv_iload_n hx hb dX10_laysGoing_6 rfl (lv_at hl 2 rfl) ?_
      refine lv_bipush (v := 10) hx hb dX10_laysGoing_7 (by decide) ?_
      refine lv_icmp_ge (tgt := 51) hx hb dX10_laysGoing_9 (by decide) (fun c_9 => absurd c_9 (nI_ge hi (by decide))) (fun _ => ?_)
      refine lv_iload_n hx hb dX10_laysGoing_12 rfl (lv_at hl 1 rfl) ?_
      refine lv_iload_n hx hb dX10_laysGoing_13 rfl (lv_at hl 2 rfl) ?_
      refine cSR (As := [.int a, .int (nI i)]) (rest := []) (n := 2) X hN hK hP (c_X10_has l D cI cB a (nI i)) k_1385 k_1386 k_103 k_1387 (by decide +kernel) ⟨Nat.le_of_ble_eq_true rfl, Nat.le_of_ble_eq_true rfl⟩ ⟨rfl, rfl⟩ [] rfl rfl rfl hl.1 (Nat.le_of_ble_eq_true rfl) dX10_laysGoing_14 ⟨Nat.le_of_ble_eq_true rfl, Nat.le_of_ble_eq_true rfl⟩ (fun r_9 hr_9 => ?_)
      subst hr_9
      refine lv_if_eq (tgt := 45) hx hb dX10_laysGoing_17 (by decide) (fun c_17 => ?_) (fun c_17 => ?_)
      · refine lv_iinc (v := (nI (i + 1))) (lv' := [(2, .int (nI (i + 1))), (0, .ref h0), (1, .int a)]) hx hb dX10_laysGoing_45 hl (k := 2) rfl (nI_1 i) (by decide) rfl (fun ls hl => ?_)
        refine lv_goto (tgt := 6) hx hb dX10_laysGoing_48 (by decide) ?_
        exact ih (i + 1) (by omega) _ _ (hP.sub [0, 1, 2, 3, 4, 5, 6, 7] rfl) (hD.sub [0, 1, 2, 3, 4, 5, 6, 7] (by decide) rfl) hS _ (lv_sub hl [1, 2, 0] rfl)
      · refine lv_aload_n hx hb dX10_laysGoing_20 rfl (lv_at hl 0 rfl) ?_
        refine lv_iload_n hx hb dX10_laysGoing_21 rfl (lv_at hl 2 rfl) ?_
        refine cVR (As := [.int (nI i)]) (rest := []) (n := 1) (ci := 10) (q0 := 0) X hN hK hP (c_X10_hasLeave l D cI cB h0 a_now a_aside a_kept a_keptFrom a_keptTo a_capOf a_leaveFrom a_leaveTo a_amountOf a_doerMany a_doerOf a_tape a_said a_waitsAt a_saidLetter a_saidFrom a_saidHalf a_saidTo a_codes a_clauseOf a_codeFrom a_codeHalf a_codeTo a_stack a_facts a_lineChore a_lineMany a_lineDoer a_newFrom a_newTo a_goFrom a_goTo a_idleFrom a_idleTo a_moreOf a_firstOf a_leftOf a_didOf a_costBy a_gainBy a_hiredOf a_hiredBest a_hiredTo a_turnOf a_turnWho rv du cl gd i fl hi hf) (gV k_1408 k_1410 k_57 k_103 k_1411) (by decide +kernel) ⟨Nat.le_of_ble_eq_true rfl, Nat.le_of_ble_eq_true rfl⟩ ⟨rfl, rfl⟩ [1, 0] rfl rfl rfl rfl rfl rfl hl.1 (Nat.le_of_ble_eq_true rfl) dX10_laysGoing_22 ⟨Nat.le_of_ble_eq_true rfl, Nat.le_of_ble_eq_true rfl⟩ (fun r_10 hr_10 => ?_)
        subst hr_10
        refine lv_if_eq (tgt := 45) hx hb dX10_laysGoing_25 (by decide) (fun _ => ?_) (fun c_25 => absurd (by decide) c_25)
        refine lv_iinc (v := (nI (i + 1))) (lv' := [(2, .int (nI (i + 1))), (0, .ref h0), (1, .int a)]) hx hb dX10_laysGoing_45 hl (k := 2) rfl (nI_1 i) (by decide) rfl (fun ls hl => ?_)
        refine lv_goto (tgt := 6) hx hb dX10_laysGoing_48 (by decide) ?_
        exact ih (i + 1) (by omega) _ _ (hP.sub [0, 1, 2, 3, 4, 5, 6, 7] rfl) (hD.sub [0, 1, 2, 3, 4, 5, 6, 7] (by decide) rfl) hS _ (lv_sub hl [1, 2, 0] rfl)
  exact loop_6 10 0 (by omega) _ _ (hP.sub [0, 1, 2, 3, 4, 5, 6, 7] rfl) (hD.sub [0, 1, 2, 3, 4, 5, 6, 7] (by decide) rfl) hS _ (lv_sub hl [1, 2, 0] rfl)

set_option maxRecDepth 100000 in
set_option maxHeartbeats 4000000 in
theorem c_X10_feels (l : Launch) (D : va_G) (cI cB : ClassId) (sz : Nat) (h0 : Nat) (a_now : Nat) (a_aside : Nat) (a_kept : Nat) (a_keptFrom : Nat) (a_keptTo : Nat) (a_capOf : Nat) (a_leaveFrom : Nat) (a_leaveTo : Nat) (a_amountOf : Nat) (a_doerMany : Nat) (a_doerOf : Nat) (a_tape : Nat) (a_said : Nat) (a_waitsAt : Nat) (a_saidLetter : Nat) (a_saidFrom : Nat) (a_saidHalf : Nat) (a_saidTo : Nat) (a_codes : Nat) (a_clauseOf : Nat) (a_codeFrom : Nat) (a_codeHalf : Nat) (a_codeTo : Nat) (a_stack : Nat) (a_facts : Nat) (a_lineChore : Nat) (a_lineMany : Nat) (a_lineDoer : Nat) (a_newFrom : Nat) (a_newTo : Nat) (a_goFrom : Nat) (a_goTo : Nat) (a_idleFrom : Nat) (a_idleTo : Nat) (a_moreOf : Nat) (a_firstOf : Nat) (a_leftOf : Nat) (a_didOf : Nat) (a_costBy : Nat) (a_gainBy : Nat) (a_hiredOf : Nat) (a_hiredBest : Nat) (a_hiredTo : Nat) (a_turnOf : Nat) (a_turnWho : Nat) (rv : Int32) (du : Int32) (cl : Int32) (gd : Int32) (fw : Nat → Int32) (fx : Nat → Int32)  : MV (S := ((Nat → Int32))) l D cI cB yX10_feels cX10_feels 3 (rm 3 65) [.ref h0, .int 0] [(h0, .inr (10, [.ref a_now, .ref a_aside, .ref a_kept, .ref a_keptFrom, .ref a_keptTo, .ref a_capOf, .ref a_leaveFrom, .ref a_leaveTo, .ref a_amountOf, .ref a_doerMany, .ref a_doerOf, .int 0, .int 0, .int 0, .ref a_tape, .int 0, .int 0, .int 0, .int 0, .int 0, .int 0, .int 0, .int 0, .int 0, .int 0, .ref a_said, .ref a_waitsAt, .ref a_saidLetter, .ref a_saidFrom, .ref a_saidHalf, .ref a_saidTo, .ref a_codes, .ref a_clauseOf, .ref a_codeFrom, .ref a_codeHalf, .ref a_codeTo, .ref a_stack, .ref a_facts, .ref a_lineChore, .ref a_lineMany, .ref a_lineDoer, .ref a_newFrom, .ref a_newTo, .int 0, .ref a_goFrom, .ref a_goTo, .ref a_idleFrom, .ref a_idleTo, .ref a_moreOf, .ref a_firstOf, .ref a_leftOf, .ref a_didOf, .int rv, .int du, .int cl, .int gd, .ref a_costBy, .int 0, .ref a_gainBy, .ref a_hiredOf, .ref a_hiredBest, .ref a_hiredTo, .ref a_turnOf, .ref a_turnWho, .int 0])), (a_now, .inl (cI, 15, .inl fw)), (a_facts, .inl (cI, 8, .inl fx))] sz (fun u => True) (fun u : ((Nat → Int32)) => [(h0, .inr (10, [.ref a_now, .ref a_aside, .ref a_kept, .ref a_keptFrom, .ref a_keptTo, .ref a_capOf, .ref a_leaveFrom, .ref a_leaveTo, .ref a_amountOf, .ref a_doerMany, .ref a_doerOf, .int 0, .int 0, .int 0, .ref a_tape, .int 0, .int 0, .int 0, .int 0, .int 0, .int 0, .int 0, .int 0, .int 0, .int 0, .ref a_said, .ref a_waitsAt, .ref a_saidLetter, .ref a_saidFrom, .ref a_saidHalf, .ref a_saidTo, .ref a_codes, .ref a_clauseOf, .ref a_codeFrom, .ref a_codeHalf, .ref a_codeTo, .ref a_stack, .ref a_facts, .ref a_lineChore, .ref a_lineMany, .ref a_lineDoer, .ref a_newFrom, .ref a_newTo, .int 0, .ref a_goFrom, .ref a_goTo, .ref a_idleFrom, .ref a_idleTo, .ref a_moreOf, .ref a_firstOf, .ref a_leftOf, .ref a_didOf, .int rv, .int du, .int cl, .int gd, .ref a_costBy, .int 0, .ref a_gainBy, .ref a_hiredOf, .ref a_hiredBest, .ref a_hiredTo, .ref a_turnOf, .ref a_turnWho, .int 0])), (a_now, .inl (cI, 15, .inl fw)), (a_facts, .inl (cI, 8, .inl u))]) := by
  refine MV.of (by decide) (Nat.le_of_ble_eq_true rfl) ?_
  intro p e s m below meth c Q ls A X hin hN hP hK hD hA hl ret
  have hS : va_S A s.heap s.heap [] := va_S.rf
  obtain ⟨hx, hb, hml, hown, htb⟩ := id X
  have hl : lv_has ls 3 [(0, .ref h0), (1, .int 0)] := hl
  refine lv_iconst (v := 0) hx hb dX10_feels_0 (by decide) ?_
  refine lv_istore_n (lv' := [(2, .int 0), (0, .ref h0), (1, .int 0)]) hx hb dX10_feels_1 rfl hl (by decide) rfl (fun ls hl => ?_)
  have loop_2 : ∀ (n i : Nat) (fxa : Nat → Int32), n + i = 8 → ∀ (H : Heap) (locs : List Loc), va_P D vwCl [(h0, .inr (10, [.ref a_now, .ref a_aside, .ref a_kept, .ref a_keptFrom, .ref a_keptTo, .ref a_capOf, .ref a_leaveFrom, .ref a_leaveTo, .ref a_amountOf, .ref a_doerMany, .ref a_doerOf, .int 0, .int 0, .int 0, .ref a_tape, .int 0, .int 0, .int 0, .int 0, .int 0, .int 0, .int 0, .int 0, .int 0, .int 0, .ref a_said, .ref a_waitsAt, .ref a_saidLetter, .ref a_saidFrom, .ref a_saidHalf, .ref a_saidTo, .ref a_codes, .ref a_clauseOf, .ref a_codeFrom, .ref a_codeHalf, .ref a_codeTo, .ref a_stack, .ref a_facts, .ref a_lineChore, .ref a_lineMany, .ref a_lineDoer, .ref a_newFrom, .ref a_newTo, .int 0, .ref a_goFrom, .ref a_goTo, .ref a_idleFrom, .ref a_idleTo, .ref a_moreOf, .ref a_firstOf, .ref a_leftOf, .ref a_didOf, .int rv, .int du, .int cl, .int gd, .ref a_costBy, .int 0, .ref a_gainBy, .ref a_hiredOf, .ref a_hiredBest, .ref a_hiredTo, .ref a_turnOf, .ref a_turnWho, .int 0])), (a_now, .inl (cI, 15, .inl fw)), (a_facts, .inl (cI, 8, .inl fxa))] H → va_D A [(h0, .inr (10, [.ref a_now, .ref a_aside, .ref a_kept, .ref a_keptFrom, .ref a_keptTo, .ref a_capOf, .ref a_leaveFrom, .ref a_leaveTo, .ref a_amountOf, .ref a_doerMany, .ref a_doerOf, .int 0, .int 0, .int 0, .ref a_tape, .int 0, .int 0, .int 0, .int 0, .int 0, .int 0, .int 0, .int 0, .int 0, .int 0, .ref a_said, .ref a_waitsAt, .ref a_saidLetter, .ref a_saidFrom, .ref a_saidHalf, .ref a_saidTo, .ref a_codes, .ref a_clauseOf, .ref a_codeFrom, .ref a_codeHalf, .ref a_codeTo, .ref a_stack, .ref a_facts, .ref a_lineChore, .ref a_lineMany, .ref a_lineDoer, .ref a_newFrom, .ref a_newTo, .int 0, .ref a_goFrom, .ref a_goTo, .ref a_idleFrom, .ref a_idleTo, .ref a_moreOf, .ref a_firstOf, .ref a_leftOf, .ref a_didOf, .int rv, .int du, .int cl, .int gd, .ref a_costBy, .int 0, .ref a_gainBy, .ref a_hiredOf, .ref a_hiredBest, .ref a_hiredTo, .ref a_turnOf, .ref a_turnWho, .int 0])), (a_now, .inl (cI, 15, .inl fw)), (a_facts, .inl (cI, 8, .inl fxa))] → va_S A s.heap H locs → ∀ (ls : Array Slot), lv_has ls 3 [(0, .ref h0), (1, .int 0), (2, .int (nI i))] → W p l e (rm 3 65) s m ([.ref h0, .int 0] : List Value).toArray below meth c H locs 0 0 Q (F0 m 2 ls []) := by
    intro n
    induction n with
    | zero =>
      intro i fxa hni H locs hP hD hS ls hl
      have hi : i = 8 := by omega
      subst hi
      refine lv_iload_n hx hb dX10_feels_2 rfl (lv_at hl 2 rfl) ?_
      refine lv_bipush (v := 8) hx hb dX10_feels_3 (by decide) ?_
      refine lv_icmp_ge (tgt := 21) hx hb dX10_feels_5 (by decide) (fun _ => ?_) (fun c_5 => absurd (by decide) c_5)
      refine lv_aload_n hx hb dX10_feels_21 rfl (lv_at hl 0 rfl) ?_
      refine va_get (D := D) (ci := 10) (v := .ref a_facts) (C := RX10) (T := TX10) (N := 65) hx hb htb itX10 hown hK hP 0 rfl rfl 37 (by decide) (htb _ k_1105) (fun _ h9 => h9) rfl dX10_feels_22 ?_
      refine lv_iconst (v := 3) hx hb dX10_feels_25 (by decide) ?_
      refine lv_aload_n hx hb dX10_feels_26 rfl (lv_at hl 0 rfl) ?_
      refine va_get (D := D) (ci := 10) (v := .ref a_now) (C := RX10) (T := TX10) (N := 65) hx hb htb itX10 hown hK hP 0 rfl rfl 0 (by decide) (htb _ k_1068) (fun _ h9 => h9) rfl dX10_feels_27 ?_
      refine lv_bipush (v := 13) hx hb dX10_feels_30 (by decide) ?_
      refine va_iald hx hb hK hP 1 0 rfl rfl (by unfold vp_in; decide) dX10_feels_32 ?_
      refine lv_topi (fun x_1 ex_1 => ?_)
      refine va_iast hx hb hK hP hD hS 2 0 rfl rfl (by unfold vp_in; decide) dX10_feels_33 (fun H locs hP hD hS => ?_)
      obtain ⟨f_2, ef_2⟩ : ∃ g : Nat → Int32, g = upd fxa (Int32.toNatClampNeg 3) x_1 := ⟨_, rfl⟩
      rw [← ef_2] at hP hD
      have hP : va_P D vwCl [(h0, .inr (10, [.ref a_now, .ref a_aside, .ref a_kept, .ref a_keptFrom, .ref a_keptTo, .ref a_capOf, .ref a_leaveFrom, .ref a_leaveTo, .ref a_amountOf, .ref a_doerMany, .ref a_doerOf, .int 0, .int 0, .int 0, .ref a_tape, .int 0, .int 0, .int 0, .int 0, .int 0, .int 0, .int 0, .int 0, .int 0, .int 0, .ref a_said, .ref a_waitsAt, .ref a_saidLetter, .ref a_saidFrom, .ref a_saidHalf, .ref a_saidTo, .ref a_codes, .ref a_clauseOf, .ref a_codeFrom, .ref a_codeHalf, .ref a_codeTo, .ref a_stack, .ref a_facts, .ref a_lineChore, .ref a_lineMany, .ref a_lineDoer, .ref a_newFrom, .ref a_newTo, .int 0, .ref a_goFrom, .ref a_goTo, .ref a_idleFrom, .ref a_idleTo, .ref a_moreOf, .ref a_firstOf, .ref a_leftOf, .ref a_didOf, .int rv, .int du, .int cl, .int gd, .ref a_costBy, .int 0, .ref a_gainBy, .ref a_hiredOf, .ref a_hiredBest, .ref a_hiredTo, .ref a_turnOf, .ref a_turnWho, .int 0])), (a_now, .inl (cI, 15, .inl fw)), (a_facts, .inl (cI, 8, .inl f_2))] H := hP
      have hD : va_D A [(h0, .inr (10, [.ref a_now, .ref a_aside, .ref a_kept, .ref a_keptFrom, .ref a_keptTo, .ref a_capOf, .ref a_leaveFrom, .ref a_leaveTo, .ref a_amountOf, .ref a_doerMany, .ref a_doerOf, .int 0, .int 0, .int 0, .ref a_tape, .int 0, .int 0, .int 0, .int 0, .int 0, .int 0, .int 0, .int 0, .int 0, .int 0, .ref a_said, .ref a_waitsAt, .ref a_saidLetter, .ref a_saidFrom, .ref a_saidHalf, .ref a_saidTo, .ref a_codes, .ref a_clauseOf, .ref a_codeFrom, .ref a_codeHalf, .ref a_codeTo, .ref a_stack, .ref a_facts, .ref a_lineChore, .ref a_lineMany, .ref a_lineDoer, .ref a_newFrom, .ref a_newTo, .int 0, .ref a_goFrom, .ref a_goTo, .ref a_idleFrom, .ref a_idleTo, .ref a_moreOf, .ref a_firstOf, .ref a_leftOf, .ref a_didOf, .int rv, .int du, .int cl, .int gd, .ref a_costBy, .int 0, .ref a_gainBy, .ref a_hiredOf, .ref a_hiredBest, .ref a_hiredTo, .ref a_turnOf, .ref a_turnWho, .int 0])), (a_now, .inl (cI, 15, .inl fw)), (a_facts, .inl (cI, 8, .inl f_2))] := hD
      refine lv_aload_n hx hb dX10_feels_34 rfl (lv_at hl 0 rfl) ?_
      refine va_get (D := D) (ci := 10) (v := .ref a_facts) (C := RX10) (T := TX10) (N := 65) hx hb htb itX10 hown hK hP 0 rfl rfl 37 (by decide) (htb _ k_1105) (fun _ h9 => h9) rfl dX10_feels_35 ?_
      refine lv_iconst (v := 4) hx hb dX10_feels_38 (by decide) ?_
      refine lv_aload_n hx hb dX10_feels_39 rfl (lv_at hl 0 rfl) ?_
      refine va_get (D := D) (ci := 10) (v := .ref a_now) (C := RX10) (T := TX10) (N := 65) hx hb htb itX10 hown hK hP 0 rfl rfl 0 (by decide) (htb _ k_1068) (fun _ h9 => h9) rfl dX10_feels_40 ?_
      refine lv_bipush (v := 13) hx hb dX10_feels_43 (by decide) ?_
      refine va_iald hx hb hK hP 1 0 rfl rfl (by unfold vp_in; decide) dX10_feels_45 ?_
      refine lv_bipush (v := 7) hx hb dX10_feels_46 (by decide) ?_
      refine lv_irem hx hb dX10_feels_48 (by decide) ?_
      refine lv_topi (fun x_3 ex_3 => ?_)
      refine va_iast hx hb hK hP hD hS 2 0 rfl rfl (by unfold vp_in; decide) dX10_feels_49 (fun H locs hP hD hS => ?_)
      obtain ⟨f_4, ef_4⟩ : ∃ g : Nat → Int32, g = upd f_2 (Int32.toNatClampNeg 4) x_3 := ⟨_, rfl⟩
      rw [← ef_4] at hP hD
      have hP : va_P D vwCl [(h0, .inr (10, [.ref a_now, .ref a_aside, .ref a_kept, .ref a_keptFrom, .ref a_keptTo, .ref a_capOf, .ref a_leaveFrom, .ref a_leaveTo, .ref a_amountOf, .ref a_doerMany, .ref a_doerOf, .int 0, .int 0, .int 0, .ref a_tape, .int 0, .int 0, .int 0, .int 0, .int 0, .int 0, .int 0, .int 0, .int 0, .int 0, .ref a_said, .ref a_waitsAt, .ref a_saidLetter, .ref a_saidFrom, .ref a_saidHalf, .ref a_saidTo, .ref a_codes, .ref a_clauseOf, .ref a_codeFrom, .ref a_codeHalf, .ref a_codeTo, .ref a_stack, .ref a_facts, .ref a_lineChore, .ref a_lineMany, .ref a_lineDoer, .ref a_newFrom, .ref a_newTo, .int 0, .ref a_goFrom, .ref a_goTo, .ref a_idleFrom, .ref a_idleTo, .ref a_moreOf, .ref a_firstOf, .ref a_leftOf, .ref a_didOf, .int rv, .int du, .int cl, .int gd, .ref a_costBy, .int 0, .ref a_gainBy, .ref a_hiredOf, .ref a_hiredBest, .ref a_hiredTo, .ref a_turnOf, .ref a_turnWho, .int 0])), (a_now, .inl (cI, 15, .inl fw)), (a_facts, .inl (cI, 8, .inl f_4))] H := hP
      have hD : va_D A [(h0, .inr (10, [.ref a_now, .ref a_aside, .ref a_kept, .ref a_keptFrom, .ref a_keptTo, .ref a_capOf, .ref a_leaveFrom, .ref a_leaveTo, .ref a_amountOf, .ref a_doerMany, .ref a_doerOf, .int 0, .int 0, .int 0, .ref a_tape, .int 0, .int 0, .int 0, .int 0, .int 0, .int 0, .int 0, .int 0, .int 0, .int 0, .ref a_said, .ref a_waitsAt, .ref a_saidLetter, .ref a_saidFrom, .ref a_saidHalf, .ref a_saidTo, .ref a_codes, .ref a_clauseOf, .ref a_codeFrom, .ref a_codeHalf, .ref a_codeTo, .ref a_stack, .ref a_facts, .ref a_lineChore, .ref a_lineMany, .ref a_lineDoer, .ref a_newFrom, .ref a_newTo, .int 0, .ref a_goFrom, .ref a_goTo, .ref a_idleFrom, .ref a_idleTo, .ref a_moreOf, .ref a_firstOf, .ref a_leftOf, .ref a_didOf, .int rv, .int du, .int cl, .int gd, .ref a_costBy, .int 0, .ref a_gainBy, .ref a_hiredOf, .ref a_hiredBest, .ref a_hiredTo, .ref a_turnOf, .ref a_turnWho, .int 0])), (a_now, .inl (cI, 15, .inl fw)), (a_facts, .inl (cI, 8, .inl f_4))] := hD
      refine lv_aload_n hx hb dX10_feels_50 rfl (lv_at hl 0 rfl) ?_
      refine va_get (D := D) (ci := 10) (v := .ref a_facts) (C := RX10) (T := TX10) (N := 65) hx hb htb itX10 hown hK hP 0 rfl rfl 37 (by decide) (htb _ k_1105) (fun _ h9 => h9) rfl dX10_feels_51 ?_
      refine lv_iconst (v := 5) hx hb dX10_feels_54 (by decide) ?_
      refine lv_iload_n hx hb dX10_feels_55 rfl (lv_at hl 1 rfl) ?_
      refine lv_if_eq (tgt := 63) hx hb dX10_feels_56 (by decide) (fun _ => ?_) (fun c_56 => absurd (by decide) c_56)
      refine lv_iconst (v := 0) hx hb dX10_feels_63 (by decide) ?_
      refine va_iast hx hb hK hP hD hS 2 0 rfl rfl (by unfold vp_in; decide) dX10_feels_64 (fun H locs hP hD hS => ?_)
      obtain ⟨f_5, ef_5⟩ : ∃ g : Nat → Int32, g = upd f_4 (Int32.toNatClampNeg 5) 0 := ⟨_, rfl⟩
      rw [← ef_5] at hP hD
      have hP : va_P D vwCl [(h0, .inr (10, [.ref a_now, .ref a_aside, .ref a_kept, .ref a_keptFrom, .ref a_keptTo, .ref a_capOf, .ref a_leaveFrom, .ref a_leaveTo, .ref a_amountOf, .ref a_doerMany, .ref a_doerOf, .int 0, .int 0, .int 0, .ref a_tape, .int 0, .int 0, .int 0, .int 0, .int 0, .int 0, .int 0, .int 0, .int 0, .int 0, .ref a_said, .ref a_waitsAt, .ref a_saidLetter, .ref a_saidFrom, .ref a_saidHalf, .ref a_saidTo, .ref a_codes, .ref a_clauseOf, .ref a_codeFrom, .ref a_codeHalf, .ref a_codeTo, .ref a_stack, .ref a_facts, .ref a_lineChore, .ref a_lineMany, .ref a_lineDoer, .ref a_newFrom, .ref a_newTo, .int 0, .ref a_goFrom, .ref a_goTo, .ref a_idleFrom, .ref a_idleTo, .ref a_moreOf, .ref a_firstOf, .ref a_leftOf, .ref a_didOf, .int rv, .int du, .int cl, .int gd, .ref a_costBy, .int 0, .ref a_gainBy, .ref a_hiredOf, .ref a_hiredBest, .ref a_hiredTo, .ref a_turnOf, .ref a_turnWho, .int 0])), (a_now, .inl (cI, 15, .inl fw)), (a_facts, .inl (cI, 8, .inl f_5))] H := hP
      have hD : va_D A [(h0, .inr (10, [.ref a_now, .ref a_aside, .ref a_kept, .ref a_keptFrom, .ref a_keptTo, .ref a_capOf, .ref a_leaveFrom, .ref a_leaveTo, .ref a_amountOf, .ref a_doerMany, .ref a_doerOf, .int 0, .int 0, .int 0, .ref a_tape, .int 0, .int 0, .int 0, .int 0, .int 0, .int 0, .int 0, .int 0, .int 0, .int 0, .ref a_said, .ref a_waitsAt, .ref a_saidLetter, .ref a_saidFrom, .ref a_saidHalf, .ref a_saidTo, .ref a_codes, .ref a_clauseOf, .ref a_codeFrom, .ref a_codeHalf, .ref a_codeTo, .ref a_stack, .ref a_facts, .ref a_lineChore, .ref a_lineMany, .ref a_lineDoer, .ref a_newFrom, .ref a_newTo, .int 0, .ref a_goFrom, .ref a_goTo, .ref a_idleFrom, .ref a_idleTo, .ref a_moreOf, .ref a_firstOf, .ref a_leftOf, .ref a_didOf, .int rv, .int du, .int cl, .int gd, .ref a_costBy, .int 0, .ref a_gainBy, .ref a_hiredOf, .ref a_hiredBest, .ref a_hiredTo, .ref a_turnOf, .ref a_turnWho, .int 0])), (a_now, .inl (cI, 15, .inl fw)), (a_facts, .inl (cI, 8, .inl f_5))] := hD
      refine lv_aload_n hx hb dX10_feels_65 rfl (lv_at hl 0 rfl) ?_
      refine va_get (D := D) (ci := 10) (v := .ref a_facts) (C := RX10) (T := TX10) (N := 65) hx hb htb itX10 hown hK hP 0 rfl rfl 37 (by decide) (htb _ k_1105) (fun _ h9 => h9) rfl dX10_feels_66 ?_
      refine lv_bipush (v := 6) hx hb dX10_feels_69 (by decide) ?_
      refine lv_aload_n hx hb dX10_feels_71 rfl (lv_at hl 0 rfl) ?_
      refine lv_aload_n hx hb dX10_feels_72 rfl (lv_at hl 0 rfl) ?_
      refine va_get (D := D) (ci := 10) (v := .ref a_now) (C := RX10) (T := TX10) (N := 65) hx hb htb itX10 hown hK hP 0 rfl rfl 0 (by decide) (htb _ k_1068) (fun _ h9 => h9) rfl dX10_feels_73 ?_
      refine lv_bipush (v := 13) hx hb dX10_feels_76 (by decide) ?_
      refine va_iald hx hb hK hP 1 0 rfl rfl (by unfold vp_in; decide) dX10_feels_78 ?_
      refine cVR (As := [.int (fw (Int32.toNatClampNeg 13))]) (rest := [.int 6, .ref a_facts]) (n := 1) (ci := 10) (q0 := 0) X hN hK hP (c_X10_awayOn l D cI cB h0 a_now a_aside a_kept a_keptFrom a_keptTo a_capOf a_leaveFrom a_leaveTo a_amountOf a_doerMany a_doerOf a_tape a_said a_waitsAt a_saidLetter a_saidFrom a_saidHalf a_saidTo a_codes a_clauseOf a_codeFrom a_codeHalf a_codeTo a_stack a_facts a_lineChore a_lineMany a_lineDoer a_newFrom a_newTo a_goFrom a_goTo a_idleFrom a_idleTo a_moreOf a_firstOf a_leftOf a_didOf a_costBy a_gainBy a_hiredOf a_hiredBest a_hiredTo a_turnOf a_turnWho rv du cl gd (fw (Int32.toNatClampNeg 13))) (gV k_1447 k_1449 k_64 k_103 k_1450) (by decide +kernel) ⟨Nat.le_of_ble_eq_true rfl, Nat.le_of_ble_eq_true rfl⟩ ⟨rfl, rfl⟩ [0] rfl rfl rfl rfl rfl rfl hl.1 (Nat.le_of_ble_eq_true rfl) dX10_feels_79 ⟨Nat.le_of_ble_eq_true rfl, Nat.le_of_ble_eq_true rfl⟩ (fun r_6 hr_6 => ?_)
      subst hr_6
      refine cSR (As := [.int 0]) (rest := [.int 6, .ref a_facts]) (n := 1) X hN hK hP (c_X10_bits l D cI cB 0) k_1412 k_1413 k_103 k_1414 (by decide +kernel) ⟨Nat.le_of_ble_eq_true rfl, Nat.le_of_ble_eq_true rfl⟩ ⟨rfl, rfl⟩ [] rfl rfl rfl hl.1 (Nat.le_of_ble_eq_true rfl) dX10_feels_82 ⟨Nat.le_of_ble_eq_true rfl, Nat.le_of_ble_eq_true rfl⟩ (fun r_7 hr_7 => ?_)
      refine va_iast hx hb hK hP hD hS 2 0 rfl rfl (by unfold vp_in; decide) dX10_feels_85 (fun H locs hP hD hS => ?_)
      obtain ⟨f_8, ef_8⟩ : ∃ g : Nat → Int32, g = upd f_5 (Int32.toNatClampNeg 6) r_7 := ⟨_, rfl⟩
      rw [← ef_8] at hP hD
      have hP : va_P D vwCl [(h0, .inr (10, [.ref a_now, .ref a_aside, .ref a_kept, .ref a_keptFrom, .ref a_keptTo, .ref a_capOf, .ref a_leaveFrom, .ref a_leaveTo, .ref a_amountOf, .ref a_doerMany, .ref a_doerOf, .int 0, .int 0, .int 0, .ref a_tape, .int 0, .int 0, .int 0, .int 0, .int 0, .int 0, .int 0, .int 0, .int 0, .int 0, .ref a_said, .ref a_waitsAt, .ref a_saidLetter, .ref a_saidFrom, .ref a_saidHalf, .ref a_saidTo, .ref a_codes, .ref a_clauseOf, .ref a_codeFrom, .ref a_codeHalf, .ref a_codeTo, .ref a_stack, .ref a_facts, .ref a_lineChore, .ref a_lineMany, .ref a_lineDoer, .ref a_newFrom, .ref a_newTo, .int 0, .ref a_goFrom, .ref a_goTo, .ref a_idleFrom, .ref a_idleTo, .ref a_moreOf, .ref a_firstOf, .ref a_leftOf, .ref a_didOf, .int rv, .int du, .int cl, .int gd, .ref a_costBy, .int 0, .ref a_gainBy, .ref a_hiredOf, .ref a_hiredBest, .ref a_hiredTo, .ref a_turnOf, .ref a_turnWho, .int 0])), (a_now, .inl (cI, 15, .inl fw)), (a_facts, .inl (cI, 8, .inl f_8))] H := hP
      have hD : va_D A [(h0, .inr (10, [.ref a_now, .ref a_aside, .ref a_kept, .ref a_keptFrom, .ref a_keptTo, .ref a_capOf, .ref a_leaveFrom, .ref a_leaveTo, .ref a_amountOf, .ref a_doerMany, .ref a_doerOf, .int 0, .int 0, .int 0, .ref a_tape, .int 0, .int 0, .int 0, .int 0, .int 0, .int 0, .int 0, .int 0, .int 0, .int 0, .ref a_said, .ref a_waitsAt, .ref a_saidLetter, .ref a_saidFrom, .ref a_saidHalf, .ref a_saidTo, .ref a_codes, .ref a_clauseOf, .ref a_codeFrom, .ref a_codeHalf, .ref a_codeTo, .ref a_stack, .ref a_facts, .ref a_lineChore, .ref a_lineMany, .ref a_lineDoer, .ref a_newFrom, .ref a_newTo, .int 0, .ref a_goFrom, .ref a_goTo, .ref a_idleFrom, .ref a_idleTo, .ref a_moreOf, .ref a_firstOf, .ref a_leftOf, .ref a_didOf, .int rv, .int du, .int cl, .int gd, .ref a_costBy, .int 0, .ref a_gainBy, .ref a_hiredOf, .ref a_hiredBest, .ref a_hiredTo, .ref a_turnOf, .ref a_turnWho, .int 0])), (a_now, .inl (cI, 15, .inl fw)), (a_facts, .inl (cI, 8, .inl f_8))] := hD
      exact ret _ _ _ _ f_8 dX10_feels_86 trivial (hP.sub [0, 1, 2] rfl) (hD.sub [0, 1, 2] (by decide) rfl) hS
    | succ n ih =>
      intro i fxa hni H locs hP hD hS ls hl
      have hi : i < 8 := by omega
      refine lv_iload_n hx hb dX10_feels_2 rfl (lv_at hl 2 rfl) ?_
      refine lv_bipush (v := 8) hx hb dX10_feels_3 (by decide) ?_
      refine lv_icmp_ge (tgt := 21) hx hb dX10_feels_5 (by decide) (fun c_5 => absurd c_5 (nI_ge hi (by decide))) (fun _ => ?_)
      refine lv_aload_n hx hb dX10_feels_8 rfl (lv_at hl 0 rfl) ?_
      refine va_get (D := D) (ci := 10) (v := .ref a_facts) (C := RX10) (T := TX10) (N := 65) hx hb htb itX10 hown hK hP 0 rfl rfl 37 (by decide) (htb _ k_1105) (fun _ h9 => h9) rfl dX10_feels_9 ?_
      refine lv_iload_n hx hb dX10_feels_12 rfl (lv_at hl 2 rfl) ?_
      refine lv_iconst (v := 0) hx hb dX10_feels_13 (by decide) ?_
      refine va_iast hx hb hK hP hD hS 2 0 rfl rfl (vp_in_nI (by omega) (by decide)) dX10_feels_14 (fun H locs hP hD hS => ?_)
      obtain ⟨f_9, ef_9⟩ : ∃ g : Nat → Int32, g = upd fxa (Int32.toNatClampNeg (nI i)) 0 := ⟨_, rfl⟩
      rw [← ef_9] at hP hD
      have hP : va_P D vwCl [(h0, .inr (10, [.ref a_now, .ref a_aside, .ref a_kept, .ref a_keptFrom, .ref a_keptTo, .ref a_capOf, .ref a_leaveFrom, .ref a_leaveTo, .ref a_amountOf, .ref a_doerMany, .ref a_doerOf, .int 0, .int 0, .int 0, .ref a_tape, .int 0, .int 0, .int 0, .int 0, .int 0, .int 0, .int 0, .int 0, .int 0, .int 0, .ref a_said, .ref a_waitsAt, .ref a_saidLetter, .ref a_saidFrom, .ref a_saidHalf, .ref a_saidTo, .ref a_codes, .ref a_clauseOf, .ref a_codeFrom, .ref a_codeHalf, .ref a_codeTo, .ref a_stack, .ref a_facts, .ref a_lineChore, .ref a_lineMany, .ref a_lineDoer, .ref a_newFrom, .ref a_newTo, .int 0, .ref a_goFrom, .ref a_goTo, .ref a_idleFrom, .ref a_idleTo, .ref a_moreOf, .ref a_firstOf, .ref a_leftOf, .ref a_didOf, .int rv, .int du, .int cl, .int gd, .ref a_costBy, .int 0, .ref a_gainBy, .ref a_hiredOf, .ref a_hiredBest, .ref a_hiredTo, .ref a_turnOf, .ref a_turnWho, .int 0])), (a_now, .inl (cI, 15, .inl fw)), (a_facts, .inl (cI, 8, .inl f_9))] H := hP
      have hD : va_D A [(h0, .inr (10, [.ref a_now, .ref a_aside, .ref a_kept, .ref a_keptFrom, .ref a_keptTo, .ref a_capOf, .ref a_leaveFrom, .ref a_leaveTo, .ref a_amountOf, .ref a_doerMany, .ref a_doerOf, .int 0, .int 0, .int 0, .ref a_tape, .int 0, .int 0, .int 0, .int 0, .int 0, .int 0, .int 0, .int 0, .int 0, .int 0, .ref a_said, .ref a_waitsAt, .ref a_saidLetter, .ref a_saidFrom, .ref a_saidHalf, .ref a_saidTo, .ref a_codes, .ref a_clauseOf, .ref a_codeFrom, .ref a_codeHalf, .ref a_codeTo, .ref a_stack, .ref a_facts, .ref a_lineChore, .ref a_lineMany, .ref a_lineDoer, .ref a_newFrom, .ref a_newTo, .int 0, .ref a_goFrom, .ref a_goTo, .ref a_idleFrom, .ref a_idleTo, .ref a_moreOf, .ref a_firstOf, .ref a_leftOf, .ref a_didOf, .int rv, .int du, .int cl, .int gd, .ref a_costBy, .int 0, .ref a_gainBy, .ref a_hiredOf, .ref a_hiredBest, .ref a_hiredTo, .ref a_turnOf, .ref a_turnWho, .int 0])), (a_now, .inl (cI, 15, .inl fw)), (a_facts, .inl (cI, 8, .inl f_9))] := hD
      refine lv_iinc (v := (nI (i + 1))) (lv' := [(2, .int (nI (i + 1))), (0, .ref h0), (1, .int 0)]) hx hb dX10_feels_15 hl (k := 2) rfl (nI_1 i) (by decide) rfl (fun ls hl => ?_)
      refine lv_goto (tgt := 2) hx hb dX10_feels_18 (by decide) ?_
      exact ih (i + 1) f_9 (by omega) _ _ (hP.sub [0, 1, 2] rfl) (hD.sub [0, 1, 2] (by decide) rfl) hS _ (lv_sub hl [1, 2, 0] rfl)
  exact loop_2 8 0 fx (by omega) _ _ (hP.sub [0, 1, 2] rfl) (hD.sub [0, 1, 2] (by decide) rfl) hS _ (lv_sub hl [1, 2, 0] rfl)
end
section
set_option maxRecDepth 100000 in
set_option maxHeartbeats 4000000 in
theorem c_X10_dayGoes (l : Launch) (D : va_G) (cI cB : ClassId) (sz : Nat) (h0 : Nat) (a_now : Nat) (a_aside : Nat) (a_kept : Nat) (a_keptFrom : Nat) (a_keptTo : Nat) (a_capOf : Nat) (a_leaveFrom : Nat) (a_leaveTo : Nat) (a_amountOf : Nat) (a_doerMany : Nat) (a_doerOf : Nat) (a_tape : Nat) (a_said : Nat) (a_waitsAt : Nat) (a_saidLetter : Nat) (a_saidFrom : Nat) (a_saidHalf : Nat) (a_saidTo : Nat) (a_codes : Nat) (a_clauseOf : Nat) (a_codeFrom : Nat) (a_codeHalf : Nat) (a_codeTo : Nat) (a_stack : Nat) (a_facts : Nat) (a_lineChore : Nat) (a_lineMany : Nat) (a_lineDoer : Nat) (a_newFrom : Nat) (a_newTo : Nat) (a_goFrom : Nat) (a_goTo : Nat) (a_idleFrom : Nat) (a_idleTo : Nat) (a_moreOf : Nat) (a_firstOf : Nat) (a_leftOf : Nat) (a_didOf : Nat) (a_costBy : Nat) (a_gainBy : Nat) (a_hiredOf : Nat) (a_hiredBest : Nat) (a_hiredTo : Nat) (a_turnOf : Nat) (a_turnWho : Nat) (du : Int32) (gd : Int32) (i0 : Nat) (k : Nat) (fw : Nat → Int32) (fx : Nat → Int32) (fl : Nat → Int32) (h12 : fw 12 = 0) (h13 : fw 13 = nI i0) (h14 : fw 14 = nI k) (hk : k < 65536) : MV (S := ((Nat) × (Nat → Int32) × (Nat → Int32) × (Nat → Int32))) l D cI cB yX10_dayGoes cX10_dayGoes 3 (rm 4 87) [.ref h0] [(h0, .inr (10, [.ref a_now, .ref a_aside, .ref a_kept, .ref a_keptFrom, .ref a_keptTo, .ref a_capOf, .ref a_leaveFrom, .ref a_leaveTo, .ref a_amountOf, .ref a_doerMany, .ref a_doerOf, .int 0, .int 0, .int 0, .ref a_tape, .int 0, .int 0, .int 0, .int 0, .int 0, .int 0, .int 0, .int 0, .int 0, .int 0, .ref a_said, .ref a_waitsAt, .ref a_saidLetter, .ref a_saidFrom, .ref a_saidHalf, .ref a_saidTo, .ref a_codes, .ref a_clauseOf, .ref a_codeFrom, .ref a_codeHalf, .ref a_codeTo, .ref a_stack, .ref a_facts, .ref a_lineChore, .ref a_lineMany, .ref a_lineDoer, .ref a_newFrom, .ref a_newTo, .int 0, .ref a_goFrom, .ref a_goTo, .ref a_idleFrom, .ref a_idleTo, .ref a_moreOf, .ref a_firstOf, .ref a_leftOf, .ref a_didOf, .int 0, .int du, .int (nI i0), .int gd, .ref a_costBy, .int 0, .ref a_gainBy, .ref a_hiredOf, .ref a_hiredBest, .ref a_hiredTo, .ref a_turnOf, .ref a_turnWho, .int 0])), (a_now, .inl (cI, 15, .inl fw)), (a_facts, .inl (cI, 8, .inl fx)), (a_leftOf, .inl (cI, 10, .inl fl))] sz (fun u => (u.2.1 12 = 0 ∧ u.2.1 13 = nI (i0 + 1) ∧ u.2.1 14 = nI u.1) ∧ u.1 < 65536) (fun u : ((Nat) × (Nat → Int32) × (Nat → Int32) × (Nat → Int32)) => [(h0, .inr (10, [.ref a_now, .ref a_aside, .ref a_kept, .ref a_keptFrom, .ref a_keptTo, .ref a_capOf, .ref a_leaveFrom, .ref a_leaveTo, .ref a_amountOf, .ref a_doerMany, .ref a_doerOf, .int 0, .int 0, .int 0, .ref a_tape, .int 0, .int 0, .int 0, .int 0, .int 0, .int 0, .int 0, .int 0, .int 0, .int 0, .ref a_said, .ref a_waitsAt, .ref a_saidLetter, .ref a_saidFrom, .ref a_saidHalf, .ref a_saidTo, .ref a_codes, .ref a_clauseOf, .ref a_codeFrom, .ref a_codeHalf, .ref a_codeTo, .ref a_stack, .ref a_facts, .ref a_lineChore, .ref a_lineMany, .ref a_lineDoer, .ref a_newFrom, .ref a_newTo, .int 0, .ref a_goFrom, .ref a_goTo, .ref a_idleFrom, .ref a_idleTo, .ref a_moreOf, .ref a_firstOf, .ref a_leftOf, .ref a_didOf, .int 0, .int du, .int (nI (i0 + 1)), .int gd, .ref a_costBy, .int 0, .ref a_gainBy, .ref a_hiredOf, .ref a_hiredBest, .ref a_hiredTo, .ref a_turnOf, .ref a_turnWho, .int 0])), (a_now, .inl (cI, 15, .inl u.2.1)), (a_facts, .inl (cI, 8, .inl u.2.2.1)), (a_leftOf, .inl (cI, 10, .inl u.2.2.2))]) := by
  refine MV.of (by decide) (Nat.le_of_ble_eq_true rfl) ?_
  intro p e s m below meth c Q ls A X hin hN hP hK hD hA hl ret
  have hS : va_S A s.heap s.heap [] := va_S.rf
  obtain ⟨hx, hb, hml, hown, htb⟩ := id X
  have hl : lv_has ls 3 [(0, .ref h0)] := hl
  refine lv_aload_n hx hb dX10_dayGoes_0 rfl (lv_at hl 0 rfl) ?_
  refine va_get (D := D) (ci := 10) (v := .ref a_now) (C := RX10) (T := TX10) (N := 65) hx hb htb itX10 hown hK hP 0 rfl rfl 0 (by decide) (htb _ k_1068) (fun _ h9 => h9) rfl dX10_dayGoes_1 ?_
  refine lv_bipush (v := 14) hx hb dX10_dayGoes_4 (by decide) ?_
  refine lv_sipush (v := 25173) hx hb dX10_dayGoes_6 (by decide) ?_
  refine lv_aload_n hx hb dX10_dayGoes_9 rfl (lv_at hl 0 rfl) ?_
  refine va_get (D := D) (ci := 10) (v := .ref a_now) (C := RX10) (T := TX10) (N := 65) hx hb htb itX10 hown hK hP 0 rfl rfl 0 (by decide) (htb _ k_1068) (fun _ h9 => h9) rfl dX10_dayGoes_10 ?_
  refine lv_bipush (v := 14) hx hb dX10_dayGoes_13 (by decide) ?_
  refine va_iald hx hb hK hP 1 0 rfl rfl (by unfold vp_in; decide) dX10_dayGoes_15 ?_
  refine tv (z := (nI k)) (rdL (by decide) h14) ?_
  refine lv_imul hx hb dX10_dayGoes_16 ?_
  refine lv_sipush (v := 13849) hx hb dX10_dayGoes_17 (by decide) ?_
  refine lv_iadd hx hb dX10_dayGoes_20 ?_
  refine lv_ldcw (v := 65536) hx hb hown (htb _ k_1442) dX10_dayGoes_21 ?_
  refine lv_irem hx hb dX10_dayGoes_24 (by decide) ?_
  obtain ⟨k2, hk2, ek2⟩ := drw hk
  refine tv (z := (nI k2)) (ek2) ?_
  refine va_iast hx hb hK hP hD hS 1 0 rfl rfl (by unfold vp_in; decide) dX10_dayGoes_25 (fun H locs hP hD hS => ?_)
  obtain ⟨f_1, ef_1⟩ : ∃ g : Nat → Int32, g = upd fw (Int32.toNatClampNeg 14) (nI k2) := ⟨_, rfl⟩
  rw [← ef_1] at hP hD
  have hP : va_P D vwCl [(h0, .inr (10, [.ref a_now, .ref a_aside, .ref a_kept, .ref a_keptFrom, .ref a_keptTo, .ref a_capOf, .ref a_leaveFrom, .ref a_leaveTo, .ref a_amountOf, .ref a_doerMany, .ref a_doerOf, .int 0, .int 0, .int 0, .ref a_tape, .int 0, .int 0, .int 0, .int 0, .int 0, .int 0, .int 0, .int 0, .int 0, .int 0, .ref a_said, .ref a_waitsAt, .ref a_saidLetter, .ref a_saidFrom, .ref a_saidHalf, .ref a_saidTo, .ref a_codes, .ref a_clauseOf, .ref a_codeFrom, .ref a_codeHalf, .ref a_codeTo, .ref a_stack, .ref a_facts, .ref a_lineChore, .ref a_lineMany, .ref a_lineDoer, .ref a_newFrom, .ref a_newTo, .int 0, .ref a_goFrom, .ref a_goTo, .ref a_idleFrom, .ref a_idleTo, .ref a_moreOf, .ref a_firstOf, .ref a_leftOf, .ref a_didOf, .int 0, .int du, .int (nI i0), .int gd, .ref a_costBy, .int 0, .ref a_gainBy, .ref a_hiredOf, .ref a_hiredBest, .ref a_hiredTo, .ref a_turnOf, .ref a_turnWho, .int 0])), (a_now, .inl (cI, 15, .inl f_1)), (a_facts, .inl (cI, 8, .inl fx)), (a_leftOf, .inl (cI, 10, .inl fl))] H := hP
  have hD : va_D A [(h0, .inr (10, [.ref a_now, .ref a_aside, .ref a_kept, .ref a_keptFrom, .ref a_keptTo, .ref a_capOf, .ref a_leaveFrom, .ref a_leaveTo, .ref a_amountOf, .ref a_doerMany, .ref a_doerOf, .int 0, .int 0, .int 0, .ref a_tape, .int 0, .int 0, .int 0, .int 0, .int 0, .int 0, .int 0, .int 0, .int 0, .int 0, .ref a_said, .ref a_waitsAt, .ref a_saidLetter, .ref a_saidFrom, .ref a_saidHalf, .ref a_saidTo, .ref a_codes, .ref a_clauseOf, .ref a_codeFrom, .ref a_codeHalf, .ref a_codeTo, .ref a_stack, .ref a_facts, .ref a_lineChore, .ref a_lineMany, .ref a_lineDoer, .ref a_newFrom, .ref a_newTo, .int 0, .ref a_goFrom, .ref a_goTo, .ref a_idleFrom, .ref a_idleTo, .ref a_moreOf, .ref a_firstOf, .ref a_leftOf, .ref a_didOf, .int 0, .int du, .int (nI i0), .int gd, .ref a_costBy, .int 0, .ref a_gainBy, .ref a_hiredOf, .ref a_hiredBest, .ref a_hiredTo, .ref a_turnOf, .ref a_turnWho, .int 0])), (a_now, .inl (cI, 15, .inl f_1)), (a_facts, .inl (cI, 8, .inl fx)), (a_leftOf, .inl (cI, 10, .inl fl))] := hD
  have g12 : f_1 12 = 0 := by rw [ef_1]; exact updN (by decide) h12
  have g13 : f_1 13 = nI i0 := by rw [ef_1]; exact updN (by decide) h13
  have g14 : f_1 14 = nI k2 := by rw [ef_1]; exact updE (by decide)
  refine lv_aload_n hx hb dX10_dayGoes_26 rfl (lv_at hl 0 rfl) ?_
  refine va_get (D := D) (ci := 10) (v := .ref a_now) (C := RX10) (T := TX10) (N := 65) hx hb htb itX10 hown hK hP 0 rfl rfl 0 (by decide) (htb _ k_1068) (fun _ h9 => h9) rfl dX10_dayGoes_27 ?_
  refine lv_bipush (v := 14) hx hb dX10_dayGoes_30 (by decide) ?_
  refine va_iald hx hb hK hP 1 0 rfl rfl (by unfold vp_in; decide) dX10_dayGoes_32 ?_
  refine tv (z := (nI k2)) (rdL (by decide) g14) ?_
  refine lv_bipush (v := 10) hx hb dX10_dayGoes_33 (by decide) ?_
  refine lv_irem hx hb dX10_dayGoes_35 (by decide) ?_
  obtain ⟨k3, hk3, ek3⟩ := r10 hk2
  refine tv (z := (nI k3)) (ek3) ?_
  refine lv_aload_n hx hb dX10_dayGoes_36 rfl (lv_at hl 0 rfl) ?_
  refine va_get (D := D) (ci := 10) (v := .int 0) (C := RX10) (T := TX10) (N := 65) hx hb htb itX10 hown hK hP 0 rfl rfl 13 (by decide) (htb _ k_1081) (fun _ h9 => h9) rfl dX10_dayGoes_37 ?_
  refine lv_icmp_ge (tgt := 47) hx hb dX10_dayGoes_40 (by decide) (fun _ => ?_) (fun c_40 => absurd (nI_pos' (by omega)) c_40)
  refine lv_iconst (v := 0) hx hb dX10_dayGoes_47 (by decide) ?_
  refine lv_istore_n (lv' := [(1, .int 0), (0, .ref h0)]) hx hb dX10_dayGoes_48 rfl hl (by decide) rfl (fun ls hl => ?_)
  refine lv_aload_n hx hb dX10_dayGoes_49 rfl (lv_at hl 1 rfl) ?_
  refine lv_aload_n hx hb dX10_dayGoes_50 rfl (lv_at hl 1 rfl) ?_
  refine va_get (D := D) (ci := 10) (v := .int 0) (C := RX10) (T := TX10) (N := 65) hx hb htb itX10 hown hK hP 0 rfl rfl 52 (by decide) (htb _ k_1120) (fun _ h9 => h9) rfl dX10_dayGoes_51 ?_
  refine lv_iload_n hx hb dX10_dayGoes_54 rfl (lv_at hl 0 rfl) ?_
  refine lv_if_eq (tgt := 62) hx hb dX10_dayGoes_55 (by decide) (fun _ => ?_) (fun c_55 => absurd (by decide) c_55)
  refine lv_iconst (v := 0) hx hb dX10_dayGoes_62 (by decide) ?_
  refine lv_iadd hx hb dX10_dayGoes_63 ?_
  refine tv (z := 0) (by decide) ?_
  refine va_put (D := D) (ci := 10) (v := .int 0) (ty := .int) (C := RX10) (T := TX10) (N := 65) hx hb htb itX10 tyX10 tyX10_ok nmX10 hown hK hP hD hS 0 rfl rfl 52 (by decide) (htb _ k_1120) (fun _ h9 => h9) rfl (tyX10_ok 52 (by decide)) rfl rfl (Nat.le_of_ble_eq_true rfl) dX10_dayGoes_64 (fun H locs hP hD hS => ?_)
  have hP : va_P D vwCl [(h0, .inr (10, [.ref a_now, .ref a_aside, .ref a_kept, .ref a_keptFrom, .ref a_keptTo, .ref a_capOf, .ref a_leaveFrom, .ref a_leaveTo, .ref a_amountOf, .ref a_doerMany, .ref a_doerOf, .int 0, .int 0, .int 0, .ref a_tape, .int 0, .int 0, .int 0, .int 0, .int 0, .int 0, .int 0, .int 0, .int 0, .int 0, .ref a_said, .ref a_waitsAt, .ref a_saidLetter, .ref a_saidFrom, .ref a_saidHalf, .ref a_saidTo, .ref a_codes, .ref a_clauseOf, .ref a_codeFrom, .ref a_codeHalf, .ref a_codeTo, .ref a_stack, .ref a_facts, .ref a_lineChore, .ref a_lineMany, .ref a_lineDoer, .ref a_newFrom, .ref a_newTo, .int 0, .ref a_goFrom, .ref a_goTo, .ref a_idleFrom, .ref a_idleTo, .ref a_moreOf, .ref a_firstOf, .ref a_leftOf, .ref a_didOf, .int 0, .int du, .int (nI i0), .int gd, .ref a_costBy, .int 0, .ref a_gainBy, .ref a_hiredOf, .ref a_hiredBest, .ref a_hiredTo, .ref a_turnOf, .ref a_turnWho, .int 0])), (a_now, .inl (cI, 15, .inl f_1)), (a_facts, .inl (cI, 8, .inl fx)), (a_leftOf, .inl (cI, 10, .inl fl))] H := hP
  have hD : va_D A [(h0, .inr (10, [.ref a_now, .ref a_aside, .ref a_kept, .ref a_keptFrom, .ref a_keptTo, .ref a_capOf, .ref a_leaveFrom, .ref a_leaveTo, .ref a_amountOf, .ref a_doerMany, .ref a_doerOf, .int 0, .int 0, .int 0, .ref a_tape, .int 0, .int 0, .int 0, .int 0, .int 0, .int 0, .int 0, .int 0, .int 0, .int 0, .ref a_said, .ref a_waitsAt, .ref a_saidLetter, .ref a_saidFrom, .ref a_saidHalf, .ref a_saidTo, .ref a_codes, .ref a_clauseOf, .ref a_codeFrom, .ref a_codeHalf, .ref a_codeTo, .ref a_stack, .ref a_facts, .ref a_lineChore, .ref a_lineMany, .ref a_lineDoer, .ref a_newFrom, .ref a_newTo, .int 0, .ref a_goFrom, .ref a_goTo, .ref a_idleFrom, .ref a_idleTo, .ref a_moreOf, .ref a_firstOf, .ref a_leftOf, .ref a_didOf, .int 0, .int du, .int (nI i0), .int gd, .ref a_costBy, .int 0, .ref a_gainBy, .ref a_hiredOf, .ref a_hiredBest, .ref a_hiredTo, .ref a_turnOf, .ref a_turnWho, .int 0])), (a_now, .inl (cI, 15, .inl f_1)), (a_facts, .inl (cI, 8, .inl fx)), (a_leftOf, .inl (cI, 10, .inl fl))] := hD
  refine lv_aload_n hx hb dX10_dayGoes_67 rfl (lv_at hl 1 rfl) ?_
  refine lv_iload_n hx hb dX10_dayGoes_68 rfl (lv_at hl 0 rfl) ?_
  refine cVV (As := [.int 0]) (rest := []) (n := 1) (ci := 10) (q0 := 0) (wr := [(a_leftOf, .inl (cI, 10, .inl fl))]) X hN hK hP hD hS hA (c_X10_feels l D cI cB _ h0 a_now a_aside a_kept a_keptFrom a_keptTo a_capOf a_leaveFrom a_leaveTo a_amountOf a_doerMany a_doerOf a_tape a_said a_waitsAt a_saidLetter a_saidFrom a_saidHalf a_saidTo a_codes a_clauseOf a_codeFrom a_codeHalf a_codeTo a_stack a_facts a_lineChore a_lineMany a_lineDoer a_newFrom a_newTo a_goFrom a_goTo a_idleFrom a_idleTo a_moreOf a_firstOf a_leftOf a_didOf a_costBy a_gainBy a_hiredOf a_hiredBest a_hiredTo a_turnOf a_turnWho 0 du (nI i0) gd f_1 fx) (gV k_1443 k_1445 k_63 k_103 k_1446) (by decide +kernel) ⟨Nat.le_of_ble_eq_true rfl, Nat.le_of_ble_eq_true rfl⟩ ⟨rfl, rfl⟩ [0, 1, 2] [3] rfl rfl (by decide) (by decide) rfl rfl rfl rfl rfl hl.1 (Nat.le_of_ble_eq_true rfl) dX10_dayGoes_69 ⟨Nat.le_of_ble_eq_true rfl, Nat.le_of_ble_eq_true rfl⟩ (fun u H locs hw_4 hP hD hS => ?_)
  obtain ⟨xo_3, rfl⟩ : ∃ z, z = u := ⟨_, rfl⟩
  try dsimp only at hw_4
  have hP : va_P D vwCl [(a_leftOf, .inl (cI, 10, .inl fl)), (h0, .inr (10, [.ref a_now, .ref a_aside, .ref a_kept, .ref a_keptFrom, .ref a_keptTo, .ref a_capOf, .ref a_leaveFrom, .ref a_leaveTo, .ref a_amountOf, .ref a_doerMany, .ref a_doerOf, .int 0, .int 0, .int 0, .ref a_tape, .int 0, .int 0, .int 0, .int 0, .int 0, .int 0, .int 0, .int 0, .int 0, .int 0, .ref a_said, .ref a_waitsAt, .ref a_saidLetter, .ref a_saidFrom, .ref a_saidHalf, .ref a_saidTo, .ref a_codes, .ref a_clauseOf, .ref a_codeFrom, .ref a_codeHalf, .ref a_codeTo, .ref a_stack, .ref a_facts, .ref a_lineChore, .ref a_lineMany, .ref a_lineDoer, .ref a_newFrom, .ref a_newTo, .int 0, .ref a_goFrom, .ref a_goTo, .ref a_idleFrom, .ref a_idleTo, .ref a_moreOf, .ref a_firstOf, .ref a_leftOf, .ref a_didOf, .int 0, .int du, .int (nI i0), .int gd, .ref a_costBy, .int 0, .ref a_gainBy, .ref a_hiredOf, .ref a_hiredBest, .ref a_hiredTo, .ref a_turnOf, .ref a_turnWho, .int 0])), (a_now, .inl (cI, 15, .inl f_1)), (a_facts, .inl (cI, 8, .inl xo_3))] H := hP
  have hD : va_D A [(a_leftOf, .inl (cI, 10, .inl fl)), (h0, .inr (10, [.ref a_now, .ref a_aside, .ref a_kept, .ref a_keptFrom, .ref a_keptTo, .ref a_capOf, .ref a_leaveFrom, .ref a_leaveTo, .ref a_amountOf, .ref a_doerMany, .ref a_doerOf, .int 0, .int 0, .int 0, .ref a_tape, .int 0, .int 0, .int 0, .int 0, .int 0, .int 0, .int 0, .int 0, .int 0, .int 0, .ref a_said, .ref a_waitsAt, .ref a_saidLetter, .ref a_saidFrom, .ref a_saidHalf, .ref a_saidTo, .ref a_codes, .ref a_clauseOf, .ref a_codeFrom, .ref a_codeHalf, .ref a_codeTo, .ref a_stack, .ref a_facts, .ref a_lineChore, .ref a_lineMany, .ref a_lineDoer, .ref a_newFrom, .ref a_newTo, .int 0, .ref a_goFrom, .ref a_goTo, .ref a_idleFrom, .ref a_idleTo, .ref a_moreOf, .ref a_firstOf, .ref a_leftOf, .ref a_didOf, .int 0, .int du, .int (nI i0), .int gd, .ref a_costBy, .int 0, .ref a_gainBy, .ref a_hiredOf, .ref a_hiredBest, .ref a_hiredTo, .ref a_turnOf, .ref a_turnWho, .int 0])), (a_now, .inl (cI, 15, .inl f_1)), (a_facts, .inl (cI, 8, .inl xo_3))] := hD
  refine lv_iconst (v := 0) hx hb dX10_dayGoes_72 (by decide) ?_
  refine lv_istore_n (lv' := [(2, .int 0), (1, .int 0), (0, .ref h0)]) hx hb dX10_dayGoes_73 rfl hl (by decide) rfl (fun ls hl => ?_)
  have loop_74 : ∀ (n i : Nat) (la : Nat → Int32), n + i = 10 → ∀ (H : Heap) (locs : List Loc), va_P D vwCl [(a_leftOf, .inl (cI, 10, .inl la)), (h0, .inr (10, [.ref a_now, .ref a_aside, .ref a_kept, .ref a_keptFrom, .ref a_keptTo, .ref a_capOf, .ref a_leaveFrom, .ref a_leaveTo, .ref a_amountOf, .ref a_doerMany, .ref a_doerOf, .int 0, .int 0, .int 0, .ref a_tape, .int 0, .int 0, .int 0, .int 0, .int 0, .int 0, .int 0, .int 0, .int 0, .int 0, .ref a_said, .ref a_waitsAt, .ref a_saidLetter, .ref a_saidFrom, .ref a_saidHalf, .ref a_saidTo, .ref a_codes, .ref a_clauseOf, .ref a_codeFrom, .ref a_codeHalf, .ref a_codeTo, .ref a_stack, .ref a_facts, .ref a_lineChore, .ref a_lineMany, .ref a_lineDoer, .ref a_newFrom, .ref a_newTo, .int 0, .ref a_goFrom, .ref a_goTo, .ref a_idleFrom, .ref a_idleTo, .ref a_moreOf, .ref a_firstOf, .ref a_leftOf, .ref a_didOf, .int 0, .int du, .int (nI i0), .int gd, .ref a_costBy, .int 0, .ref a_gainBy, .ref a_hiredOf, .ref a_hiredBest, .ref a_hiredTo, .ref a_turnOf, .ref a_turnWho, .int 0])), (a_now, .inl (cI, 15, .inl f_1)), (a_facts, .inl (cI, 8, .inl xo_3))] H → va_D A [(a_leftOf, .inl (cI, 10, .inl la)), (h0, .inr (10, [.ref a_now, .ref a_aside, .ref a_kept, .ref a_keptFrom, .ref a_keptTo, .ref a_capOf, .ref a_leaveFrom, .ref a_leaveTo, .ref a_amountOf, .ref a_doerMany, .ref a_doerOf, .int 0, .int 0, .int 0, .ref a_tape, .int 0, .int 0, .int 0, .int 0, .int 0, .int 0, .int 0, .int 0, .int 0, .int 0, .ref a_said, .ref a_waitsAt, .ref a_saidLetter, .ref a_saidFrom, .ref a_saidHalf, .ref a_saidTo, .ref a_codes, .ref a_clauseOf, .ref a_codeFrom, .ref a_codeHalf, .ref a_codeTo, .ref a_stack, .ref a_facts, .ref a_lineChore, .ref a_lineMany, .ref a_lineDoer, .ref a_newFrom, .ref a_newTo, .int 0, .ref a_goFrom, .ref a_goTo, .ref a_idleFrom, .ref a_idleTo, .ref a_moreOf, .ref a_firstOf, .ref a_leftOf, .ref a_didOf, .int 0, .int du, .int (nI i0), .int gd, .ref a_costBy, .int 0, .ref a_gainBy, .ref a_hiredOf, .ref a_hiredBest, .ref a_hiredTo, .ref a_turnOf, .ref a_turnWho, .int 0])), (a_now, .inl (cI, 15, .inl f_1)), (a_facts, .inl (cI, 8, .inl xo_3))] → va_S A s.heap H locs → ∀ (ls : Array Slot), lv_has ls 3 [(0, .ref h0), (1, .int 0), (2, .int (nI i))] → W p l e (rm 4 87) s m ([.ref h0] : List Value).toArray below meth c H locs 0 0 Q (F0 m 74 ls []) := by
    intro n
    induction n with
    | zero =>
      intro i la hni H locs hP hD hS ls hl
      have hi : i = 10 := by omega
      subst hi
      refine lv_iload_n hx hb dX10_dayGoes_74 rfl (lv_at hl 2 rfl) ?_
      refine lv_bipush (v := 10) hx hb dX10_dayGoes_75 (by decide) ?_
      refine lv_icmp_ge (tgt := 97) hx hb dX10_dayGoes_77 (by decide) (fun _ => ?_) (fun c_77 => absurd (by decide) c_77)
      refine lv_iconst (v := 0) hx hb dX10_dayGoes_97 (by decide) ?_
      refine lv_istore_n (lv' := [(2, .int 0), (0, .ref h0), (1, .int 0)]) hx hb dX10_dayGoes_98 rfl hl (by decide) rfl (fun ls hl => ?_)
      have loop_99 : ∀ (n i : Nat), n + i = 12 → ∀ (H : Heap) (locs : List Loc), va_P D vwCl [(a_leftOf, .inl (cI, 10, .inl la)), (h0, .inr (10, [.ref a_now, .ref a_aside, .ref a_kept, .ref a_keptFrom, .ref a_keptTo, .ref a_capOf, .ref a_leaveFrom, .ref a_leaveTo, .ref a_amountOf, .ref a_doerMany, .ref a_doerOf, .int 0, .int 0, .int 0, .ref a_tape, .int 0, .int 0, .int 0, .int 0, .int 0, .int 0, .int 0, .int 0, .int 0, .int 0, .ref a_said, .ref a_waitsAt, .ref a_saidLetter, .ref a_saidFrom, .ref a_saidHalf, .ref a_saidTo, .ref a_codes, .ref a_clauseOf, .ref a_codeFrom, .ref a_codeHalf, .ref a_codeTo, .ref a_stack, .ref a_facts, .ref a_lineChore, .ref a_lineMany, .ref a_lineDoer, .ref a_newFrom, .ref a_newTo, .int 0, .ref a_goFrom, .ref a_goTo, .ref a_idleFrom, .ref a_idleTo, .ref a_moreOf, .ref a_firstOf, .ref a_leftOf, .ref a_didOf, .int 0, .int du, .int (nI i0), .int gd, .ref a_costBy, .int 0, .ref a_gainBy, .ref a_hiredOf, .ref a_hiredBest, .ref a_hiredTo, .ref a_turnOf, .ref a_turnWho, .int 0])), (a_now, .inl (cI, 15, .inl f_1)), (a_facts, .inl (cI, 8, .inl xo_3))] H → va_D A [(a_leftOf, .inl (cI, 10, .inl la)), (h0, .inr (10, [.ref a_now, .ref a_aside, .ref a_kept, .ref a_keptFrom, .ref a_keptTo, .ref a_capOf, .ref a_leaveFrom, .ref a_leaveTo, .ref a_amountOf, .ref a_doerMany, .ref a_doerOf, .int 0, .int 0, .int 0, .ref a_tape, .int 0, .int 0, .int 0, .int 0, .int 0, .int 0, .int 0, .int 0, .int 0, .int 0, .ref a_said, .ref a_waitsAt, .ref a_saidLetter, .ref a_saidFrom, .ref a_saidHalf, .ref a_saidTo, .ref a_codes, .ref a_clauseOf, .ref a_codeFrom, .ref a_codeHalf, .ref a_codeTo, .ref a_stack, .ref a_facts, .ref a_lineChore, .ref a_lineMany, .ref a_lineDoer, .ref a_newFrom, .ref a_newTo, .int 0, .ref a_goFrom, .ref a_goTo, .ref a_idleFrom, .ref a_idleTo, .ref a_moreOf, .ref a_firstOf, .ref a_leftOf, .ref a_didOf, .int 0, .int du, .int (nI i0), .int gd, .ref a_costBy, .int 0, .ref a_gainBy, .ref a_hiredOf, .ref a_hiredBest, .ref a_hiredTo, .ref a_turnOf, .ref a_turnWho, .int 0])), (a_now, .inl (cI, 15, .inl f_1)), (a_facts, .inl (cI, 8, .inl xo_3))] → va_S A s.heap H locs → ∀ (ls : Array Slot), lv_has ls 3 [(0, .ref h0), (1, .int 0), (2, .int (nI i))] → W p l e (rm 4 87) s m ([.ref h0] : List Value).toArray below meth c H locs 0 0 Q (F0 m 99 ls []) := by
        intro n
        induction n with
        | zero =>
          intro i hni H locs hP hD hS ls hl
          have hi : i = 12 := by omega
          subst hi
          refine lv_iload_n hx hb dX10_dayGoes_99 rfl (lv_at hl 2 rfl) ?_
          refine lv_bipush (v := 12) hx hb dX10_dayGoes_100 (by decide) ?_
          refine lv_icmp_ge (tgt := 124) hx hb dX10_dayGoes_102 (by decide) (fun _ => ?_) (fun c_102 => absurd (by decide) c_102)
          refine lv_aload_n hx hb dX10_dayGoes_124 rfl (lv_at hl 0 rfl) ?_
          refine lv_aload_n hx hb dX10_dayGoes_125 rfl (lv_at hl 0 rfl) ?_
          refine va_get (D := D) (ci := 10) (v := .int (nI i0)) (C := RX10) (T := TX10) (N := 65) hx hb htb itX10 hown hK hP 1 rfl rfl 54 (by decide) (htb _ k_1122) (fun _ h9 => h9) rfl dX10_dayGoes_126 ?_
          refine lv_aload_n hx hb dX10_dayGoes_129 rfl (lv_at hl 0 rfl) ?_
          refine cVR (As := []) (rest := [.int (nI i0), .ref h0]) (n := 0) (ci := 10) (q0 := 0) X hN hK hP (c_X10_undoneAll l D cI cB h0 a_now a_aside a_kept a_keptFrom a_keptTo a_capOf a_leaveFrom a_leaveTo a_amountOf a_doerMany a_doerOf a_tape a_said a_waitsAt a_saidLetter a_saidFrom a_saidHalf a_saidTo a_codes a_clauseOf a_codeFrom a_codeHalf a_codeTo a_stack a_facts a_lineChore a_lineMany a_lineDoer a_newFrom a_newTo a_goFrom a_goTo a_idleFrom a_idleTo a_moreOf a_firstOf a_leftOf a_didOf a_costBy a_gainBy a_hiredOf a_hiredBest a_hiredTo a_turnOf a_turnWho 0 du (nI i0) gd) (gV k_1493 k_1495 k_74 k_103 k_1496) (by decide +kernel) ⟨Nat.le_of_ble_eq_true rfl, Nat.le_of_ble_eq_true rfl⟩ ⟨rfl, rfl⟩ [1] rfl rfl rfl rfl rfl rfl hl.1 (Nat.le_of_ble_eq_true rfl) dX10_dayGoes_130 ⟨Nat.le_of_ble_eq_true rfl, Nat.le_of_ble_eq_true rfl⟩ (fun r_5 hr_5 => ?_)
          subst hr_5
          refine lv_if_ne (tgt := 140) hx hb dX10_dayGoes_133 (by decide) (fun c_133 => absurd (by decide) c_133) (fun _ => ?_)
          refine lv_iconst (v := 1) hx hb dX10_dayGoes_136 (by decide) ?_
          refine lv_goto (tgt := 141) hx hb dX10_dayGoes_137 (by decide) ?_
          refine lv_iadd hx hb dX10_dayGoes_141 ?_
          refine tv (z := (nI (i0 + 1))) (nI_1 i0) ?_
          refine va_put (D := D) (ci := 10) (v := .int (nI (i0 + 1))) (ty := .int) (C := RX10) (T := TX10) (N := 65) hx hb htb itX10 tyX10 tyX10_ok nmX10 hown hK hP hD hS 1 rfl rfl 54 (by decide) (htb _ k_1122) (fun _ h9 => h9) rfl (tyX10_ok 54 (by decide)) rfl rfl (Nat.le_of_ble_eq_true rfl) dX10_dayGoes_142 (fun H locs hP hD hS => ?_)
          have hP : va_P D vwCl [(a_leftOf, .inl (cI, 10, .inl la)), (h0, .inr (10, [.ref a_now, .ref a_aside, .ref a_kept, .ref a_keptFrom, .ref a_keptTo, .ref a_capOf, .ref a_leaveFrom, .ref a_leaveTo, .ref a_amountOf, .ref a_doerMany, .ref a_doerOf, .int 0, .int 0, .int 0, .ref a_tape, .int 0, .int 0, .int 0, .int 0, .int 0, .int 0, .int 0, .int 0, .int 0, .int 0, .ref a_said, .ref a_waitsAt, .ref a_saidLetter, .ref a_saidFrom, .ref a_saidHalf, .ref a_saidTo, .ref a_codes, .ref a_clauseOf, .ref a_codeFrom, .ref a_codeHalf, .ref a_codeTo, .ref a_stack, .ref a_facts, .ref a_lineChore, .ref a_lineMany, .ref a_lineDoer, .ref a_newFrom, .ref a_newTo, .int 0, .ref a_goFrom, .ref a_goTo, .ref a_idleFrom, .ref a_idleTo, .ref a_moreOf, .ref a_firstOf, .ref a_leftOf, .ref a_didOf, .int 0, .int du, .int (nI (i0 + 1)), .int gd, .ref a_costBy, .int 0, .ref a_gainBy, .ref a_hiredOf, .ref a_hiredBest, .ref a_hiredTo, .ref a_turnOf, .ref a_turnWho, .int 0])), (a_now, .inl (cI, 15, .inl f_1)), (a_facts, .inl (cI, 8, .inl xo_3))] H := hP
          have hD : va_D A [(a_leftOf, .inl (cI, 10, .inl la)), (h0, .inr (10, [.ref a_now, .ref a_aside, .ref a_kept, .ref a_keptFrom, .ref a_keptTo, .ref a_capOf, .ref a_leaveFrom, .ref a_leaveTo, .ref a_amountOf, .ref a_doerMany, .ref a_doerOf, .int 0, .int 0, .int 0, .ref a_tape, .int 0, .int 0, .int 0, .int 0, .int 0, .int 0, .int 0, .int 0, .int 0, .int 0, .ref a_said, .ref a_waitsAt, .ref a_saidLetter, .ref a_saidFrom, .ref a_saidHalf, .ref a_saidTo, .ref a_codes, .ref a_clauseOf, .ref a_codeFrom, .ref a_codeHalf, .ref a_codeTo, .ref a_stack, .ref a_facts, .ref a_lineChore, .ref a_lineMany, .ref a_lineDoer, .ref a_newFrom, .ref a_newTo, .int 0, .ref a_goFrom, .ref a_goTo, .ref a_idleFrom, .ref a_idleTo, .ref a_moreOf, .ref a_firstOf, .ref a_leftOf, .ref a_didOf, .int 0, .int du, .int (nI (i0 + 1)), .int gd, .ref a_costBy, .int 0, .ref a_gainBy, .ref a_hiredOf, .ref a_hiredBest, .ref a_hiredTo, .ref a_turnOf, .ref a_turnWho, .int 0])), (a_now, .inl (cI, 15, .inl f_1)), (a_facts, .inl (cI, 8, .inl xo_3))] := hD
          refine lv_aload_n hx hb dX10_dayGoes_145 rfl (lv_at hl 0 rfl) ?_
          refine va_get (D := D) (ci := 10) (v := .ref a_now) (C := RX10) (T := TX10) (N := 65) hx hb htb itX10 hown hK hP 1 rfl rfl 0 (by decide) (htb _ k_1068) (fun _ h9 => h9) rfl dX10_dayGoes_146 ?_
          refine lv_bipush (v := 13) hx hb dX10_dayGoes_149 (by decide) ?_
          refine lv_aload_n hx hb dX10_dayGoes_151 rfl (lv_at hl 0 rfl) ?_
          refine va_get (D := D) (ci := 10) (v := .ref a_now) (C := RX10) (T := TX10) (N := 65) hx hb htb itX10 hown hK hP 1 rfl rfl 0 (by decide) (htb _ k_1068) (fun _ h9 => h9) rfl dX10_dayGoes_152 ?_
          refine lv_bipush (v := 13) hx hb dX10_dayGoes_155 (by decide) ?_
          refine va_iald hx hb hK hP 2 0 rfl rfl (by unfold vp_in; decide) dX10_dayGoes_157 ?_
          refine tv (z := (nI i0)) (rdL (by decide) g13) ?_
          refine lv_iconst (v := 1) hx hb dX10_dayGoes_158 (by decide) ?_
          refine lv_iadd hx hb dX10_dayGoes_159 ?_
          refine tv (z := (nI (i0 + 1))) (nI_1 i0) ?_
          refine va_iast hx hb hK hP hD hS 2 0 rfl rfl (by unfold vp_in; decide) dX10_dayGoes_160 (fun H locs hP hD hS => ?_)
          obtain ⟨f_6, ef_6⟩ : ∃ g : Nat → Int32, g = upd f_1 (Int32.toNatClampNeg 13) (nI (i0 + 1)) := ⟨_, rfl⟩
          rw [← ef_6] at hP hD
          have hP : va_P D vwCl [(a_leftOf, .inl (cI, 10, .inl la)), (h0, .inr (10, [.ref a_now, .ref a_aside, .ref a_kept, .ref a_keptFrom, .ref a_keptTo, .ref a_capOf, .ref a_leaveFrom, .ref a_leaveTo, .ref a_amountOf, .ref a_doerMany, .ref a_doerOf, .int 0, .int 0, .int 0, .ref a_tape, .int 0, .int 0, .int 0, .int 0, .int 0, .int 0, .int 0, .int 0, .int 0, .int 0, .ref a_said, .ref a_waitsAt, .ref a_saidLetter, .ref a_saidFrom, .ref a_saidHalf, .ref a_saidTo, .ref a_codes, .ref a_clauseOf, .ref a_codeFrom, .ref a_codeHalf, .ref a_codeTo, .ref a_stack, .ref a_facts, .ref a_lineChore, .ref a_lineMany, .ref a_lineDoer, .ref a_newFrom, .ref a_newTo, .int 0, .ref a_goFrom, .ref a_goTo, .ref a_idleFrom, .ref a_idleTo, .ref a_moreOf, .ref a_firstOf, .ref a_leftOf, .ref a_didOf, .int 0, .int du, .int (nI (i0 + 1)), .int gd, .ref a_costBy, .int 0, .ref a_gainBy, .ref a_hiredOf, .ref a_hiredBest, .ref a_hiredTo, .ref a_turnOf, .ref a_turnWho, .int 0])), (a_now, .inl (cI, 15, .inl f_6)), (a_facts, .inl (cI, 8, .inl xo_3))] H := hP
          have hD : va_D A [(a_leftOf, .inl (cI, 10, .inl la)), (h0, .inr (10, [.ref a_now, .ref a_aside, .ref a_kept, .ref a_keptFrom, .ref a_keptTo, .ref a_capOf, .ref a_leaveFrom, .ref a_leaveTo, .ref a_amountOf, .ref a_doerMany, .ref a_doerOf, .int 0, .int 0, .int 0, .ref a_tape, .int 0, .int 0, .int 0, .int 0, .int 0, .int 0, .int 0, .int 0, .int 0, .int 0, .ref a_said, .ref a_waitsAt, .ref a_saidLetter, .ref a_saidFrom, .ref a_saidHalf, .ref a_saidTo, .ref a_codes, .ref a_clauseOf, .ref a_codeFrom, .ref a_codeHalf, .ref a_codeTo, .ref a_stack, .ref a_facts, .ref a_lineChore, .ref a_lineMany, .ref a_lineDoer, .ref a_newFrom, .ref a_newTo, .int 0, .ref a_goFrom, .ref a_goTo, .ref a_idleFrom, .ref a_idleTo, .ref a_moreOf, .ref a_firstOf, .ref a_leftOf, .ref a_didOf, .int 0, .int du, .int (nI (i0 + 1)), .int gd, .ref a_costBy, .int 0, .ref a_gainBy, .ref a_hiredOf, .ref a_hiredBest, .ref a_hiredTo, .ref a_turnOf, .ref a_turnWho, .int 0])), (a_now, .inl (cI, 15, .inl f_6)), (a_facts, .inl (cI, 8, .inl xo_3))] := hD
          have k12 : f_6 12 = 0 := by rw [ef_6]; exact updN (by decide) g12
          have k13 : f_6 13 = nI (i0 + 1) := by rw [ef_6]; exact updE (by decide)
          have k14 : f_6 14 = nI k2 := by rw [ef_6]; exact updN (by decide) g14
          exact ret _ _ _ _ (k2, f_6, xo_3, la) dX10_dayGoes_161 (⟨⟨k12, k13, k14⟩, hk2⟩) (hP.sub [1, 2, 3, 0] rfl) (hD.sub [1, 2, 3, 0] (by decide) rfl) hS
        | succ n ih =>
          intro i hni H locs hP hD hS ls hl
          have hi : i < 12 := by omega
          refine lv_iload_n hx hb dX10_dayGoes_99 rfl (lv_at hl 2 rfl) ?_
          refine lv_bipush (v := 12) hx hb dX10_dayGoes_100 (by decide) ?_
          refine lv_icmp_ge (tgt := 124) hx hb dX10_dayGoes_102 (by decide) (fun c_102 => absurd c_102 (nI_ge hi (by decide))) (fun _ => ?_)
          refine lv_aload_n hx hb dX10_dayGoes_105 rfl (lv_at hl 0 rfl) ?_
          refine lv_iload_n hx hb dX10_dayGoes_106 rfl (lv_at hl 2 rfl) ?_
          refine cVR (As := [.int (nI i)]) (rest := []) (n := 1) (ci := 10) (q0 := 0) X hN hK hP (c_X10_isChore l D cI cB h0 a_now a_aside a_kept a_keptFrom a_keptTo a_capOf a_leaveFrom a_leaveTo a_amountOf a_doerMany a_doerOf a_tape a_said a_waitsAt a_saidLetter a_saidFrom a_saidHalf a_saidTo a_codes a_clauseOf a_codeFrom a_codeHalf a_codeTo a_stack a_facts a_lineChore a_lineMany a_lineDoer a_newFrom a_newTo a_goFrom a_goTo a_idleFrom a_idleTo a_moreOf a_firstOf a_leftOf a_didOf a_costBy a_gainBy a_hiredOf a_hiredBest a_hiredTo a_turnOf a_turnWho 0 du (nI i0) gd (nI i)) (gV k_1474 k_1476 k_70 k_103 k_1477) (by decide +kernel) ⟨Nat.le_of_ble_eq_true rfl, Nat.le_of_ble_eq_true rfl⟩ ⟨rfl, rfl⟩ [1] rfl rfl rfl rfl rfl rfl hl.1 (Nat.le_of_ble_eq_true rfl) dX10_dayGoes_107 ⟨Nat.le_of_ble_eq_true rfl, Nat.le_of_ble_eq_true rfl⟩ (fun r_7 hr_7 => ?_)
          subst hr_7
          refine lv_if_eq (tgt := 118) hx hb dX10_dayGoes_110 (by decide) (fun _ => ?_) (fun c_110 => absurd (by decide) c_110)
          refine lv_iinc (v := (nI (i + 1))) (lv' := [(2, .int (nI (i + 1))), (0, .ref h0), (1, .int 0)]) hx hb dX10_dayGoes_118 hl (k := 2) rfl (nI_1 i) (by decide) rfl (fun ls hl => ?_)
          refine lv_goto (tgt := 99) hx hb dX10_dayGoes_121 (by decide) ?_
          exact ih (i + 1) (by omega) _ _ (hP.sub [0, 1, 2, 3] rfl) (hD.sub [0, 1, 2, 3] (by decide) rfl) hS _ (lv_sub hl [1, 2, 0] rfl)
      exact loop_99 12 0 (by omega) _ _ (hP.sub [0, 1, 2, 3] rfl) (hD.sub [0, 1, 2, 3] (by decide) rfl) hS _ (lv_sub hl [1, 2, 0] rfl)
    | succ n ih =>
      intro i la hni H locs hP hD hS ls hl
      have hi : i < 10 := by omega
      refine lv_iload_n hx hb dX10_dayGoes_74 rfl (lv_at hl 2 rfl) ?_
      refine lv_bipush (v := 10) hx hb dX10_dayGoes_75 (by decide) ?_
      refine lv_icmp_ge (tgt := 97) hx hb dX10_dayGoes_77 (by decide) (fun c_77 => absurd c_77 (nI_ge hi (by decide))) (fun _ => ?_)
      refine lv_aload_n hx hb dX10_dayGoes_80 rfl (lv_at hl 0 rfl) ?_
      refine va_get (D := D) (ci := 10) (v := .ref a_leftOf) (C := RX10) (T := TX10) (N := 65) hx hb htb itX10 hown hK hP 1 rfl rfl 50 (by decide) (htb _ k_1118) (fun _ h9 => h9) rfl dX10_dayGoes_81 ?_
      refine lv_iload_n hx hb dX10_dayGoes_84 rfl (lv_at hl 2 rfl) ?_
      refine lv_aload_n hx hb dX10_dayGoes_85 rfl (lv_at hl 0 rfl) ?_
      refine lv_iload_n hx hb dX10_dayGoes_86 rfl (lv_at hl 2 rfl) ?_
      refine cVR (As := [.int (nI i)]) (rest := [.int (nI i), .ref a_leftOf]) (n := 1) (ci := 10) (q0 := 0) X hN hK hP (c_X10_unitsOf l D cI cB h0 a_now a_aside a_kept a_keptFrom a_keptTo a_capOf a_leaveFrom a_leaveTo a_amountOf a_doerMany a_doerOf a_tape a_said a_waitsAt a_saidLetter a_saidFrom a_saidHalf a_saidTo a_codes a_clauseOf a_codeFrom a_codeHalf a_codeTo a_stack a_facts a_lineChore a_lineMany a_lineDoer a_newFrom a_newTo a_goFrom a_goTo a_idleFrom a_idleTo a_moreOf a_firstOf a_leftOf a_didOf a_costBy a_gainBy a_hiredOf a_hiredBest a_hiredTo a_turnOf a_turnWho 0 du (nI i0) gd (nI i)) (gV k_1459 k_1461 k_67 k_103 k_1462) (by decide +kernel) ⟨Nat.le_of_ble_eq_true rfl, Nat.le_of_ble_eq_true rfl⟩ ⟨rfl, rfl⟩ [1] rfl rfl rfl rfl rfl rfl hl.1 (Nat.le_of_ble_eq_true rfl) dX10_dayGoes_87 ⟨Nat.le_of_ble_eq_true rfl, Nat.le_of_ble_eq_true rfl⟩ (fun r_8 hr_8 => ?_)
      subst hr_8
      refine va_iast hx hb hK hP hD hS 0 0 rfl rfl (vp_in_nI (by omega) (by decide)) dX10_dayGoes_90 (fun H locs hP hD hS => ?_)
      obtain ⟨f_9, ef_9⟩ : ∃ g : Nat → Int32, g = upd la (Int32.toNatClampNeg (nI i)) 0 := ⟨_, rfl⟩
      rw [← ef_9] at hP hD
      have hP : va_P D vwCl [(a_leftOf, .inl (cI, 10, .inl f_9)), (h0, .inr (10, [.ref a_now, .ref a_aside, .ref a_kept, .ref a_keptFrom, .ref a_keptTo, .ref a_capOf, .ref a_leaveFrom, .ref a_leaveTo, .ref a_amountOf, .ref a_doerMany, .ref a_doerOf, .int 0, .int 0, .int 0, .ref a_tape, .int 0, .int 0, .int 0, .int 0, .int 0, .int 0, .int 0, .int 0, .int 0, .int 0, .ref a_said, .ref a_waitsAt, .ref a_saidLetter, .ref a_saidFrom, .ref a_saidHalf, .ref a_saidTo, .ref a_codes, .ref a_clauseOf, .ref a_codeFrom, .ref a_codeHalf, .ref a_codeTo, .ref a_stack, .ref a_facts, .ref a_lineChore, .ref a_lineMany, .ref a_lineDoer, .ref a_newFrom, .ref a_newTo, .int 0, .ref a_goFrom, .ref a_goTo, .ref a_idleFrom, .ref a_idleTo, .ref a_moreOf, .ref a_firstOf, .ref a_leftOf, .ref a_didOf, .int 0, .int du, .int (nI i0), .int gd, .ref a_costBy, .int 0, .ref a_gainBy, .ref a_hiredOf, .ref a_hiredBest, .ref a_hiredTo, .ref a_turnOf, .ref a_turnWho, .int 0])), (a_now, .inl (cI, 15, .inl f_1)), (a_facts, .inl (cI, 8, .inl xo_3))] H := hP
      have hD : va_D A [(a_leftOf, .inl (cI, 10, .inl f_9)), (h0, .inr (10, [.ref a_now, .ref a_aside, .ref a_kept, .ref a_keptFrom, .ref a_keptTo, .ref a_capOf, .ref a_leaveFrom, .ref a_leaveTo, .ref a_amountOf, .ref a_doerMany, .ref a_doerOf, .int 0, .int 0, .int 0, .ref a_tape, .int 0, .int 0, .int 0, .int 0, .int 0, .int 0, .int 0, .int 0, .int 0, .int 0, .ref a_said, .ref a_waitsAt, .ref a_saidLetter, .ref a_saidFrom, .ref a_saidHalf, .ref a_saidTo, .ref a_codes, .ref a_clauseOf, .ref a_codeFrom, .ref a_codeHalf, .ref a_codeTo, .ref a_stack, .ref a_facts, .ref a_lineChore, .ref a_lineMany, .ref a_lineDoer, .ref a_newFrom, .ref a_newTo, .int 0, .ref a_goFrom, .ref a_goTo, .ref a_idleFrom, .ref a_idleTo, .ref a_moreOf, .ref a_firstOf, .ref a_leftOf, .ref a_didOf, .int 0, .int du, .int (nI i0), .int gd, .ref a_costBy, .int 0, .ref a_gainBy, .ref a_hiredOf, .ref a_hiredBest, .ref a_hiredTo, .ref a_turnOf, .ref a_turnWho, .int 0])), (a_now, .inl (cI, 15, .inl f_1)), (a_facts, .inl (cI, 8, .inl xo_3))] := hD
      refine lv_iinc (v := (nI (i + 1))) (lv' := [(2, .int (nI (i + 1))), (0, .ref h0), (1, .int 0)]) hx hb dX10_dayGoes_91 hl (k := 2) rfl (nI_1 i) (by decide) rfl (fun ls hl => ?_)
      refine lv_goto (tgt := 74) hx hb dX10_dayGoes_94 (by decide) ?_
      exact ih (i + 1) f_9 (by omega) _ _ (hP.sub [0, 1, 2, 3] rfl) (hD.sub [0, 1, 2, 3] (by decide) rfl) hS _ (lv_sub hl [1, 2, 0] rfl)
  exact loop_74 10 0 fl (by omega) _ _ (hP.sub [0, 1, 2, 3] rfl) (hD.sub [0, 1, 2, 3] (by decide) rfl) hS _ (lv_sub hl [2, 1, 0] rfl)

set_option maxRecDepth 100000 in
set_option maxHeartbeats 4000000 in
theorem c_X10_daysGo (l : Launch) (D : va_G) (cI cB : ClassId) (sz : Nat) (h0 : Nat) (a_now : Nat) (a_aside : Nat) (a_kept : Nat) (a_keptFrom : Nat) (a_keptTo : Nat) (a_capOf : Nat) (a_leaveFrom : Nat) (a_leaveTo : Nat) (a_amountOf : Nat) (a_doerMany : Nat) (a_doerOf : Nat) (a_tape : Nat) (a_said : Nat) (a_waitsAt : Nat) (a_saidLetter : Nat) (a_saidFrom : Nat) (a_saidHalf : Nat) (a_saidTo : Nat) (a_codes : Nat) (a_clauseOf : Nat) (a_codeFrom : Nat) (a_codeHalf : Nat) (a_codeTo : Nat) (a_stack : Nat) (a_facts : Nat) (a_lineChore : Nat) (a_lineMany : Nat) (a_lineDoer : Nat) (a_newFrom : Nat) (a_newTo : Nat) (a_goFrom : Nat) (a_goTo : Nat) (a_idleFrom : Nat) (a_idleTo : Nat) (a_moreOf : Nat) (a_firstOf : Nat) (a_leftOf : Nat) (a_didOf : Nat) (a_costBy : Nat) (a_gainBy : Nat) (a_hiredOf : Nat) (a_hiredBest : Nat) (a_hiredTo : Nat) (a_turnOf : Nat) (a_turnWho : Nat) (rv : Int32) (du : Int32) (cl : Int32) (gd : Int32) (N : Nat) (k : Nat) (fw : Nat → Int32) (fx : Nat → Int32) (fl : Nat → Int32) (fd : Nat → Int32) (hN0 : N ≤ 60) (h12 : fw 12 = 0) (h13 : fw 13 = 0) (h14 : fw 14 = nI k) (hk : k < 65536) : MV (S := ((Nat) × (Nat → Int32) × (Nat → Int32) × (Nat → Int32) × (Nat → Int32))) l D cI cB yX10_daysGo cX10_daysGo 3 (rm 5 109) [.ref h0, .int (nI N)] [(h0, .inr (10, [.ref a_now, .ref a_aside, .ref a_kept, .ref a_keptFrom, .ref a_keptTo, .ref a_capOf, .ref a_leaveFrom, .ref a_leaveTo, .ref a_amountOf, .ref a_doerMany, .ref a_doerOf, .int 0, .int 0, .int 0, .ref a_tape, .int 0, .int 0, .int 0, .int 0, .int 0, .int 0, .int 0, .int 0, .int 0, .int 0, .ref a_said, .ref a_waitsAt, .ref a_saidLetter, .ref a_saidFrom, .ref a_saidHalf, .ref a_saidTo, .ref a_codes, .ref a_clauseOf, .ref a_codeFrom, .ref a_codeHalf, .ref a_codeTo, .ref a_stack, .ref a_facts, .ref a_lineChore, .ref a_lineMany, .ref a_lineDoer, .ref a_newFrom, .ref a_newTo, .int 0, .ref a_goFrom, .ref a_goTo, .ref a_idleFrom, .ref a_idleTo, .ref a_moreOf, .ref a_firstOf, .ref a_leftOf, .ref a_didOf, .int rv, .int du, .int cl, .int gd, .ref a_costBy, .int 0, .ref a_gainBy, .ref a_hiredOf, .ref a_hiredBest, .ref a_hiredTo, .ref a_turnOf, .ref a_turnWho, .int 0])), (a_now, .inl (cI, 15, .inl fw)), (a_facts, .inl (cI, 8, .inl fx)), (a_leftOf, .inl (cI, 10, .inl fl)), (a_didOf, .inl (cI, 10, .inl fd))] sz (fun u => (u.2.1 12 = 0 ∧ u.2.1 13 = nI N ∧ u.2.1 14 = nI u.1) ∧ u.1 < 65536) (fun u : ((Nat) × (Nat → Int32) × (Nat → Int32) × (Nat → Int32) × (Nat → Int32)) => [(h0, .inr (10, [.ref a_now, .ref a_aside, .ref a_kept, .ref a_keptFrom, .ref a_keptTo, .ref a_capOf, .ref a_leaveFrom, .ref a_leaveTo, .ref a_amountOf, .ref a_doerMany, .ref a_doerOf, .int 0, .int 0, .int 0, .ref a_tape, .int 0, .int 0, .int 0, .int 0, .int 0, .int 0, .int 0, .int 0, .int 0, .int 0, .ref a_said, .ref a_waitsAt, .ref a_saidLetter, .ref a_saidFrom, .ref a_saidHalf, .ref a_saidTo, .ref a_codes, .ref a_clauseOf, .ref a_codeFrom, .ref a_codeHalf, .ref a_codeTo, .ref a_stack, .ref a_facts, .ref a_lineChore, .ref a_lineMany, .ref a_lineDoer, .ref a_newFrom, .ref a_newTo, .int 0, .ref a_goFrom, .ref a_goTo, .ref a_idleFrom, .ref a_idleTo, .ref a_moreOf, .ref a_firstOf, .ref a_leftOf, .ref a_didOf, .int 0, .int 0, .int (nI N), .int (nI N), .ref a_costBy, .int 0, .ref a_gainBy, .ref a_hiredOf, .ref a_hiredBest, .ref a_hiredTo, .ref a_turnOf, .ref a_turnWho, .int 0])), (a_now, .inl (cI, 15, .inl u.2.1)), (a_facts, .inl (cI, 8, .inl u.2.2.1)), (a_leftOf, .inl (cI, 10, .inl u.2.2.2.1)), (a_didOf, .inl (cI, 10, .inl u.2.2.2.2))]) := by
  refine MV.of (by decide) (Nat.le_of_ble_eq_true rfl) ?_
  intro p e s m below meth c Q ls A X hin hN hP hK hD hA hl ret
  have hS : va_S A s.heap s.heap [] := va_S.rf
  obtain ⟨hx, hb, hml, hown, htb⟩ := id X
  have hl : lv_has ls 3 [(0, .ref h0), (1, .int (nI N))] := hl
  refine lv_aload_n hx hb dX10_daysGo_0 rfl (lv_at hl 0 rfl) ?_
  refine lv_iconst (v := 0) hx hb dX10_daysGo_1 (by decide) ?_
  refine va_put (D := D) (ci := 10) (v := .int 0) (ty := .int) (C := RX10) (T := TX10) (N := 65) hx hb htb itX10 tyX10 tyX10_ok nmX10 hown hK hP hD hS 0 rfl rfl 52 (by decide) (htb _ k_1120) (fun _ h9 => h9) rfl (tyX10_ok 52 (by decide)) rfl rfl (Nat.le_of_ble_eq_true rfl) dX10_daysGo_2 (fun H locs hP hD hS => ?_)
  have hP : va_P D vwCl [(h0, .inr (10, [.ref a_now, .ref a_aside, .ref a_kept, .ref a_keptFrom, .ref a_keptTo, .ref a_capOf, .ref a_leaveFrom, .ref a_leaveTo, .ref a_amountOf, .ref a_doerMany, .ref a_doerOf, .int 0, .int 0, .int 0, .ref a_tape, .int 0, .int 0, .int 0, .int 0, .int 0, .int 0, .int 0, .int 0, .int 0, .int 0, .ref a_said, .ref a_waitsAt, .ref a_saidLetter, .ref a_saidFrom, .ref a_saidHalf, .ref a_saidTo, .ref a_codes, .ref a_clauseOf, .ref a_codeFrom, .ref a_codeHalf, .ref a_codeTo, .ref a_stack, .ref a_facts, .ref a_lineChore, .ref a_lineMany, .ref a_lineDoer, .ref a_newFrom, .ref a_newTo, .int 0, .ref a_goFrom, .ref a_goTo, .ref a_idleFrom, .ref a_idleTo, .ref a_moreOf, .ref a_firstOf, .ref a_leftOf, .ref a_didOf, .int 0, .int du, .int cl, .int gd, .ref a_costBy, .int 0, .ref a_gainBy, .ref a_hiredOf, .ref a_hiredBest, .ref a_hiredTo, .ref a_turnOf, .ref a_turnWho, .int 0])), (a_now, .inl (cI, 15, .inl fw)), (a_facts, .inl (cI, 8, .inl fx)), (a_leftOf, .inl (cI, 10, .inl fl)), (a_didOf, .inl (cI, 10, .inl fd))] H := hP
  have hD : va_D A [(h0, .inr (10, [.ref a_now, .ref a_aside, .ref a_kept, .ref a_keptFrom, .ref a_keptTo, .ref a_capOf, .ref a_leaveFrom, .ref a_leaveTo, .ref a_amountOf, .ref a_doerMany, .ref a_doerOf, .int 0, .int 0, .int 0, .ref a_tape, .int 0, .int 0, .int 0, .int 0, .int 0, .int 0, .int 0, .int 0, .int 0, .int 0, .ref a_said, .ref a_waitsAt, .ref a_saidLetter, .ref a_saidFrom, .ref a_saidHalf, .ref a_saidTo, .ref a_codes, .ref a_clauseOf, .ref a_codeFrom, .ref a_codeHalf, .ref a_codeTo, .ref a_stack, .ref a_facts, .ref a_lineChore, .ref a_lineMany, .ref a_lineDoer, .ref a_newFrom, .ref a_newTo, .int 0, .ref a_goFrom, .ref a_goTo, .ref a_idleFrom, .ref a_idleTo, .ref a_moreOf, .ref a_firstOf, .ref a_leftOf, .ref a_didOf, .int 0, .int du, .int cl, .int gd, .ref a_costBy, .int 0, .ref a_gainBy, .ref a_hiredOf, .ref a_hiredBest, .ref a_hiredTo, .ref a_turnOf, .ref a_turnWho, .int 0])), (a_now, .inl (cI, 15, .inl fw)), (a_facts, .inl (cI, 8, .inl fx)), (a_leftOf, .inl (cI, 10, .inl fl)), (a_didOf, .inl (cI, 10, .inl fd))] := hD
  refine lv_aload_n hx hb dX10_daysGo_5 rfl (lv_at hl 0 rfl) ?_
  refine lv_iconst (v := 0) hx hb dX10_daysGo_6 (by decide) ?_
  refine va_put (D := D) (ci := 10) (v := .int 0) (ty := .int) (C := RX10) (T := TX10) (N := 65) hx hb htb itX10 tyX10 tyX10_ok nmX10 hown hK hP hD hS 0 rfl rfl 53 (by decide) (htb _ k_1121) (fun _ h9 => h9) rfl (tyX10_ok 53 (by decide)) rfl rfl (Nat.le_of_ble_eq_true rfl) dX10_daysGo_7 (fun H locs hP hD hS => ?_)
  have hP : va_P D vwCl [(h0, .inr (10, [.ref a_now, .ref a_aside, .ref a_kept, .ref a_keptFrom, .ref a_keptTo, .ref a_capOf, .ref a_leaveFrom, .ref a_leaveTo, .ref a_amountOf, .ref a_doerMany, .ref a_doerOf, .int 0, .int 0, .int 0, .ref a_tape, .int 0, .int 0, .int 0, .int 0, .int 0, .int 0, .int 0, .int 0, .int 0, .int 0, .ref a_said, .ref a_waitsAt, .ref a_saidLetter, .ref a_saidFrom, .ref a_saidHalf, .ref a_saidTo, .ref a_codes, .ref a_clauseOf, .ref a_codeFrom, .ref a_codeHalf, .ref a_codeTo, .ref a_stack, .ref a_facts, .ref a_lineChore, .ref a_lineMany, .ref a_lineDoer, .ref a_newFrom, .ref a_newTo, .int 0, .ref a_goFrom, .ref a_goTo, .ref a_idleFrom, .ref a_idleTo, .ref a_moreOf, .ref a_firstOf, .ref a_leftOf, .ref a_didOf, .int 0, .int 0, .int cl, .int gd, .ref a_costBy, .int 0, .ref a_gainBy, .ref a_hiredOf, .ref a_hiredBest, .ref a_hiredTo, .ref a_turnOf, .ref a_turnWho, .int 0])), (a_now, .inl (cI, 15, .inl fw)), (a_facts, .inl (cI, 8, .inl fx)), (a_leftOf, .inl (cI, 10, .inl fl)), (a_didOf, .inl (cI, 10, .inl fd))] H := hP
  have hD : va_D A [(h0, .inr (10, [.ref a_now, .ref a_aside, .ref a_kept, .ref a_keptFrom, .ref a_keptTo, .ref a_capOf, .ref a_leaveFrom, .ref a_leaveTo, .ref a_amountOf, .ref a_doerMany, .ref a_doerOf, .int 0, .int 0, .int 0, .ref a_tape, .int 0, .int 0, .int 0, .int 0, .int 0, .int 0, .int 0, .int 0, .int 0, .int 0, .ref a_said, .ref a_waitsAt, .ref a_saidLetter, .ref a_saidFrom, .ref a_saidHalf, .ref a_saidTo, .ref a_codes, .ref a_clauseOf, .ref a_codeFrom, .ref a_codeHalf, .ref a_codeTo, .ref a_stack, .ref a_facts, .ref a_lineChore, .ref a_lineMany, .ref a_lineDoer, .ref a_newFrom, .ref a_newTo, .int 0, .ref a_goFrom, .ref a_goTo, .ref a_idleFrom, .ref a_idleTo, .ref a_moreOf, .ref a_firstOf, .ref a_leftOf, .ref a_didOf, .int 0, .int 0, .int cl, .int gd, .ref a_costBy, .int 0, .ref a_gainBy, .ref a_hiredOf, .ref a_hiredBest, .ref a_hiredTo, .ref a_turnOf, .ref a_turnWho, .int 0])), (a_now, .inl (cI, 15, .inl fw)), (a_facts, .inl (cI, 8, .inl fx)), (a_leftOf, .inl (cI, 10, .inl fl)), (a_didOf, .inl (cI, 10, .inl fd))] := hD
  refine lv_aload_n hx hb dX10_daysGo_10 rfl (lv_at hl 0 rfl) ?_
  refine lv_iconst (v := 0) hx hb dX10_daysGo_11 (by decide) ?_
  refine va_put (D := D) (ci := 10) (v := .int 0) (ty := .int) (C := RX10) (T := TX10) (N := 65) hx hb htb itX10 tyX10 tyX10_ok nmX10 hown hK hP hD hS 0 rfl rfl 54 (by decide) (htb _ k_1122) (fun _ h9 => h9) rfl (tyX10_ok 54 (by decide)) rfl rfl (Nat.le_of_ble_eq_true rfl) dX10_daysGo_12 (fun H locs hP hD hS => ?_)
  have hP : va_P D vwCl [(h0, .inr (10, [.ref a_now, .ref a_aside, .ref a_kept, .ref a_keptFrom, .ref a_keptTo, .ref a_capOf, .ref a_leaveFrom, .ref a_leaveTo, .ref a_amountOf, .ref a_doerMany, .ref a_doerOf, .int 0, .int 0, .int 0, .ref a_tape, .int 0, .int 0, .int 0, .int 0, .int 0, .int 0, .int 0, .int 0, .int 0, .int 0, .ref a_said, .ref a_waitsAt, .ref a_saidLetter, .ref a_saidFrom, .ref a_saidHalf, .ref a_saidTo, .ref a_codes, .ref a_clauseOf, .ref a_codeFrom, .ref a_codeHalf, .ref a_codeTo, .ref a_stack, .ref a_facts, .ref a_lineChore, .ref a_lineMany, .ref a_lineDoer, .ref a_newFrom, .ref a_newTo, .int 0, .ref a_goFrom, .ref a_goTo, .ref a_idleFrom, .ref a_idleTo, .ref a_moreOf, .ref a_firstOf, .ref a_leftOf, .ref a_didOf, .int 0, .int 0, .int 0, .int gd, .ref a_costBy, .int 0, .ref a_gainBy, .ref a_hiredOf, .ref a_hiredBest, .ref a_hiredTo, .ref a_turnOf, .ref a_turnWho, .int 0])), (a_now, .inl (cI, 15, .inl fw)), (a_facts, .inl (cI, 8, .inl fx)), (a_leftOf, .inl (cI, 10, .inl fl)), (a_didOf, .inl (cI, 10, .inl fd))] H := hP
  have hD : va_D A [(h0, .inr (10, [.ref a_now, .ref a_aside, .ref a_kept, .ref a_keptFrom, .ref a_keptTo, .ref a_capOf, .ref a_leaveFrom, .ref a_leaveTo, .ref a_amountOf, .ref a_doerMany, .ref a_doerOf, .int 0, .int 0, .int 0, .ref a_tape, .int 0, .int 0, .int 0, .int 0, .int 0, .int 0, .int 0, .int 0, .int 0, .int 0, .ref a_said, .ref a_waitsAt, .ref a_saidLetter, .ref a_saidFrom, .ref a_saidHalf, .ref a_saidTo, .ref a_codes, .ref a_clauseOf, .ref a_codeFrom, .ref a_codeHalf, .ref a_codeTo, .ref a_stack, .ref a_facts, .ref a_lineChore, .ref a_lineMany, .ref a_lineDoer, .ref a_newFrom, .ref a_newTo, .int 0, .ref a_goFrom, .ref a_goTo, .ref a_idleFrom, .ref a_idleTo, .ref a_moreOf, .ref a_firstOf, .ref a_leftOf, .ref a_didOf, .int 0, .int 0, .int 0, .int gd, .ref a_costBy, .int 0, .ref a_gainBy, .ref a_hiredOf, .ref a_hiredBest, .ref a_hiredTo, .ref a_turnOf, .ref a_turnWho, .int 0])), (a_now, .inl (cI, 15, .inl fw)), (a_facts, .inl (cI, 8, .inl fx)), (a_leftOf, .inl (cI, 10, .inl fl)), (a_didOf, .inl (cI, 10, .inl fd))] := hD
  refine lv_aload_n hx hb dX10_daysGo_15 rfl (lv_at hl 0 rfl) ?_
  refine lv_iconst (v := 0) hx hb dX10_daysGo_16 (by decide) ?_
  refine va_put (D := D) (ci := 10) (v := .int 0) (ty := .int) (C := RX10) (T := TX10) (N := 65) hx hb htb itX10 tyX10 tyX10_ok nmX10 hown hK hP hD hS 0 rfl rfl 55 (by decide) (htb _ k_1123) (fun _ h9 => h9) rfl (tyX10_ok 55 (by decide)) rfl rfl (Nat.le_of_ble_eq_true rfl) dX10_daysGo_17 (fun H locs hP hD hS => ?_)
  have hP : va_P D vwCl [(h0, .inr (10, [.ref a_now, .ref a_aside, .ref a_kept, .ref a_keptFrom, .ref a_keptTo, .ref a_capOf, .ref a_leaveFrom, .ref a_leaveTo, .ref a_amountOf, .ref a_doerMany, .ref a_doerOf, .int 0, .int 0, .int 0, .ref a_tape, .int 0, .int 0, .int 0, .int 0, .int 0, .int 0, .int 0, .int 0, .int 0, .int 0, .ref a_said, .ref a_waitsAt, .ref a_saidLetter, .ref a_saidFrom, .ref a_saidHalf, .ref a_saidTo, .ref a_codes, .ref a_clauseOf, .ref a_codeFrom, .ref a_codeHalf, .ref a_codeTo, .ref a_stack, .ref a_facts, .ref a_lineChore, .ref a_lineMany, .ref a_lineDoer, .ref a_newFrom, .ref a_newTo, .int 0, .ref a_goFrom, .ref a_goTo, .ref a_idleFrom, .ref a_idleTo, .ref a_moreOf, .ref a_firstOf, .ref a_leftOf, .ref a_didOf, .int 0, .int 0, .int 0, .int 0, .ref a_costBy, .int 0, .ref a_gainBy, .ref a_hiredOf, .ref a_hiredBest, .ref a_hiredTo, .ref a_turnOf, .ref a_turnWho, .int 0])), (a_now, .inl (cI, 15, .inl fw)), (a_facts, .inl (cI, 8, .inl fx)), (a_leftOf, .inl (cI, 10, .inl fl)), (a_didOf, .inl (cI, 10, .inl fd))] H := hP
  have hD : va_D A [(h0, .inr (10, [.ref a_now, .ref a_aside, .ref a_kept, .ref a_keptFrom, .ref a_keptTo, .ref a_capOf, .ref a_leaveFrom, .ref a_leaveTo, .ref a_amountOf, .ref a_doerMany, .ref a_doerOf, .int 0, .int 0, .int 0, .ref a_tape, .int 0, .int 0, .int 0, .int 0, .int 0, .int 0, .int 0, .int 0, .int 0, .int 0, .ref a_said, .ref a_waitsAt, .ref a_saidLetter, .ref a_saidFrom, .ref a_saidHalf, .ref a_saidTo, .ref a_codes, .ref a_clauseOf, .ref a_codeFrom, .ref a_codeHalf, .ref a_codeTo, .ref a_stack, .ref a_facts, .ref a_lineChore, .ref a_lineMany, .ref a_lineDoer, .ref a_newFrom, .ref a_newTo, .int 0, .ref a_goFrom, .ref a_goTo, .ref a_idleFrom, .ref a_idleTo, .ref a_moreOf, .ref a_firstOf, .ref a_leftOf, .ref a_didOf, .int 0, .int 0, .int 0, .int 0, .ref a_costBy, .int 0, .ref a_gainBy, .ref a_hiredOf, .ref a_hiredBest, .ref a_hiredTo, .ref a_turnOf, .ref a_turnWho, .int 0])), (a_now, .inl (cI, 15, .inl fw)), (a_facts, .inl (cI, 8, .inl fx)), (a_leftOf, .inl (cI, 10, .inl fl)), (a_didOf, .inl (cI, 10, .inl fd))] := hD
  refine lv_iconst (v := 0) hx hb dX10_daysGo_20 (by decide) ?_
  refine lv_istore_n (lv' := [(2, .int 0), (0, .ref h0), (1, .int (nI N))]) hx hb dX10_daysGo_21 rfl hl (by decide) rfl (fun ls hl => ?_)
  have loop_22 : ∀ (n i : Nat) (da : Nat → Int32), n + i = 10 → ∀ (H : Heap) (locs : List Loc), va_P D vwCl [(h0, .inr (10, [.ref a_now, .ref a_aside, .ref a_kept, .ref a_keptFrom, .ref a_keptTo, .ref a_capOf, .ref a_leaveFrom, .ref a_leaveTo, .ref a_amountOf, .ref a_doerMany, .ref a_doerOf, .int 0, .int 0, .int 0, .ref a_tape, .int 0, .int 0, .int 0, .int 0, .int 0, .int 0, .int 0, .int 0, .int 0, .int 0, .ref a_said, .ref a_waitsAt, .ref a_saidLetter, .ref a_saidFrom, .ref a_saidHalf, .ref a_saidTo, .ref a_codes, .ref a_clauseOf, .ref a_codeFrom, .ref a_codeHalf, .ref a_codeTo, .ref a_stack, .ref a_facts, .ref a_lineChore, .ref a_lineMany, .ref a_lineDoer, .ref a_newFrom, .ref a_newTo, .int 0, .ref a_goFrom, .ref a_goTo, .ref a_idleFrom, .ref a_idleTo, .ref a_moreOf, .ref a_firstOf, .ref a_leftOf, .ref a_didOf, .int 0, .int 0, .int 0, .int 0, .ref a_costBy, .int 0, .ref a_gainBy, .ref a_hiredOf, .ref a_hiredBest, .ref a_hiredTo, .ref a_turnOf, .ref a_turnWho, .int 0])), (a_now, .inl (cI, 15, .inl fw)), (a_facts, .inl (cI, 8, .inl fx)), (a_leftOf, .inl (cI, 10, .inl fl)), (a_didOf, .inl (cI, 10, .inl da))] H → va_D A [(h0, .inr (10, [.ref a_now, .ref a_aside, .ref a_kept, .ref a_keptFrom, .ref a_keptTo, .ref a_capOf, .ref a_leaveFrom, .ref a_leaveTo, .ref a_amountOf, .ref a_doerMany, .ref a_doerOf, .int 0, .int 0, .int 0, .ref a_tape, .int 0, .int 0, .int 0, .int 0, .int 0, .int 0, .int 0, .int 0, .int 0, .int 0, .ref a_said, .ref a_waitsAt, .ref a_saidLetter, .ref a_saidFrom, .ref a_saidHalf, .ref a_saidTo, .ref a_codes, .ref a_clauseOf, .ref a_codeFrom, .ref a_codeHalf, .ref a_codeTo, .ref a_stack, .ref a_facts, .ref a_lineChore, .ref a_lineMany, .ref a_lineDoer, .ref a_newFrom, .ref a_newTo, .int 0, .ref a_goFrom, .ref a_goTo, .ref a_idleFrom, .ref a_idleTo, .ref a_moreOf, .ref a_firstOf, .ref a_leftOf, .ref a_didOf, .int 0, .int 0, .int 0, .int 0, .ref a_costBy, .int 0, .ref a_gainBy, .ref a_hiredOf, .ref a_hiredBest, .ref a_hiredTo, .ref a_turnOf, .ref a_turnWho, .int 0])), (a_now, .inl (cI, 15, .inl fw)), (a_facts, .inl (cI, 8, .inl fx)), (a_leftOf, .inl (cI, 10, .inl fl)), (a_didOf, .inl (cI, 10, .inl da))] → va_S A s.heap H locs → ∀ (ls : Array Slot), lv_has ls 3 [(0, .ref h0), (1, .int (nI N)), (2, .int (nI i))] → W p l e (rm 5 109) s m ([.ref h0, .int (nI N)] : List Value).toArray below meth c H locs 0 0 Q (F0 m 22 ls []) := by
    intro n
    induction n with
    | zero =>
      intro i da hni H locs hP hD hS ls hl
      have hi : i = 10 := by omega
      subst hi
      refine lv_iload_n hx hb dX10_daysGo_22 rfl (lv_at hl 2 rfl) ?_
      refine lv_bipush (v := 10) hx hb dX10_daysGo_23 (by decide) ?_
      refine lv_icmp_ge (tgt := 41) hx hb dX10_daysGo_25 (by decide) (fun _ => ?_) (fun c_25 => absurd (by decide) c_25)
      refine lv_iconst (v := 0) hx hb dX10_daysGo_41 (by decide) ?_
      refine lv_istore_n (lv' := [(2, .int 0), (0, .ref h0), (1, .int (nI N))]) hx hb dX10_daysGo_42 rfl hl (by decide) rfl (fun ls hl => ?_)
      have loop_43 : ∀ (n i : Nat) (ka : Nat) (wa : Nat → Int32) (xa : Nat → Int32) (la : Nat → Int32), n + i = N → (wa 12 = 0) → (wa 13 = nI i) → (wa 14 = nI ka) → (ka < 65536) → ∀ (H : Heap) (locs : List Loc), va_P D vwCl [(h0, .inr (10, [.ref a_now, .ref a_aside, .ref a_kept, .ref a_keptFrom, .ref a_keptTo, .ref a_capOf, .ref a_leaveFrom, .ref a_leaveTo, .ref a_amountOf, .ref a_doerMany, .ref a_doerOf, .int 0, .int 0, .int 0, .ref a_tape, .int 0, .int 0, .int 0, .int 0, .int 0, .int 0, .int 0, .int 0, .int 0, .int 0, .ref a_said, .ref a_waitsAt, .ref a_saidLetter, .ref a_saidFrom, .ref a_saidHalf, .ref a_saidTo, .ref a_codes, .ref a_clauseOf, .ref a_codeFrom, .ref a_codeHalf, .ref a_codeTo, .ref a_stack, .ref a_facts, .ref a_lineChore, .ref a_lineMany, .ref a_lineDoer, .ref a_newFrom, .ref a_newTo, .int 0, .ref a_goFrom, .ref a_goTo, .ref a_idleFrom, .ref a_idleTo, .ref a_moreOf, .ref a_firstOf, .ref a_leftOf, .ref a_didOf, .int 0, .int 0, .int (nI i), .int (nI i), .ref a_costBy, .int 0, .ref a_gainBy, .ref a_hiredOf, .ref a_hiredBest, .ref a_hiredTo, .ref a_turnOf, .ref a_turnWho, .int 0])), (a_now, .inl (cI, 15, .inl wa)), (a_facts, .inl (cI, 8, .inl xa)), (a_leftOf, .inl (cI, 10, .inl la)), (a_didOf, .inl (cI, 10, .inl da))] H → va_D A [(h0, .inr (10, [.ref a_now, .ref a_aside, .ref a_kept, .ref a_keptFrom, .ref a_keptTo, .ref a_capOf, .ref a_leaveFrom, .ref a_leaveTo, .ref a_amountOf, .ref a_doerMany, .ref a_doerOf, .int 0, .int 0, .int 0, .ref a_tape, .int 0, .int 0, .int 0, .int 0, .int 0, .int 0, .int 0, .int 0, .int 0, .int 0, .ref a_said, .ref a_waitsAt, .ref a_saidLetter, .ref a_saidFrom, .ref a_saidHalf, .ref a_saidTo, .ref a_codes, .ref a_clauseOf, .ref a_codeFrom, .ref a_codeHalf, .ref a_codeTo, .ref a_stack, .ref a_facts, .ref a_lineChore, .ref a_lineMany, .ref a_lineDoer, .ref a_newFrom, .ref a_newTo, .int 0, .ref a_goFrom, .ref a_goTo, .ref a_idleFrom, .ref a_idleTo, .ref a_moreOf, .ref a_firstOf, .ref a_leftOf, .ref a_didOf, .int 0, .int 0, .int (nI i), .int (nI i), .ref a_costBy, .int 0, .ref a_gainBy, .ref a_hiredOf, .ref a_hiredBest, .ref a_hiredTo, .ref a_turnOf, .ref a_turnWho, .int 0])), (a_now, .inl (cI, 15, .inl wa)), (a_facts, .inl (cI, 8, .inl xa)), (a_leftOf, .inl (cI, 10, .inl la)), (a_didOf, .inl (cI, 10, .inl da))] → va_S A s.heap H locs → ∀ (ls : Array Slot), lv_has ls 3 [(0, .ref h0), (1, .int (nI N)), (2, .int (nI i))] → W p l e (rm 5 109) s m ([.ref h0, .int (nI N)] : List Value).toArray below meth c H locs 0 0 Q (F0 m 43 ls []) := by
        intro n
        induction n with
        | zero =>
          intro i ka wa xa la hni g12 g13 g14 hka H locs hP hD hS ls hl
          have hi : i = N := by omega
          subst hi
          refine lv_iload_n hx hb dX10_daysGo_43 rfl (lv_at hl 2 rfl) ?_
          refine lv_iload_n hx hb dX10_daysGo_44 rfl (lv_at hl 1 rfl) ?_
          refine lv_icmp_ge (tgt := 81) hx hb dX10_daysGo_45 (by decide) (fun _ => ?_) (fun c_45 => absurd (nI_le (Nat.le_refl _) (by omega)) c_45)
          exact ret _ _ _ _ (ka, wa, xa, la, da) dX10_daysGo_81 (⟨⟨g12, g13, g14⟩, hka⟩) (hP.sub [0, 1, 2, 3, 4] rfl) (hD.sub [0, 1, 2, 3, 4] (by decide) rfl) hS
        | succ n ih =>
          intro i ka wa xa la hni g12 g13 g14 hka H locs hP hD hS ls hl
          have hi : i < N := by omega
          refine lv_iload_n hx hb dX10_daysGo_43 rfl (lv_at hl 2 rfl) ?_
          refine lv_iload_n hx hb dX10_daysGo_44 rfl (lv_at hl 1 rfl) ?_
          refine lv_icmp_ge (tgt := 81) hx hb dX10_daysGo_45 (by decide) (fun c_45 => absurd c_45 (nI_ge hi (by omega))) (fun _ => ?_)
          refine lv_aload_n hx hb dX10_daysGo_48 rfl (lv_at hl 0 rfl) ?_
          refine va_get (D := D) (ci := 10) (v := .ref a_now) (C := RX10) (T := TX10) (N := 65) hx hb htb itX10 hown hK hP 0 rfl rfl 0 (by decide) (htb _ k_1068) (fun _ h9 => h9) rfl dX10_daysGo_49 ?_
          refine lv_bipush (v := 13) hx hb dX10_daysGo_52 (by decide) ?_
          refine va_iald hx hb hK hP 1 0 rfl rfl (by unfold vp_in; decide) dX10_daysGo_54 ?_
          refine tv (z := (nI i)) (rdL (by decide) g13) ?_
          refine lv_sipush (v := 9999) hx hb dX10_daysGo_55 (by decide) ?_
          refine lv_icmp_ge (tgt := 81) hx hb dX10_daysGo_58 (by decide) (fun c_58 => absurd c_58 (nI_ge (b := 9999) (by omega) (by decide))) (fun _ => ?_)
          refine lv_aload_n hx hb dX10_daysGo_61 rfl (lv_at hl 0 rfl) ?_
          refine cVV (As := []) (rest := []) (n := 0) (ci := 10) (q0 := 0) (wr := [(a_didOf, .inl (cI, 10, .inl da))]) X hN hK hP hD hS hA (c_X10_dayGoes l D cI cB _ h0 a_now a_aside a_kept a_keptFrom a_keptTo a_capOf a_leaveFrom a_leaveTo a_amountOf a_doerMany a_doerOf a_tape a_said a_waitsAt a_saidLetter a_saidFrom a_saidHalf a_saidTo a_codes a_clauseOf a_codeFrom a_codeHalf a_codeTo a_stack a_facts a_lineChore a_lineMany a_lineDoer a_newFrom a_newTo a_goFrom a_goTo a_idleFrom a_idleTo a_moreOf a_firstOf a_leftOf a_didOf a_costBy a_gainBy a_hiredOf a_hiredBest a_hiredTo a_turnOf a_turnWho 0 (nI i) i ka wa xa la g12 g13 g14 hka) (gV k_1438 k_1440 k_62 k_103 k_1441) (by decide +kernel) ⟨Nat.le_of_ble_eq_true rfl, Nat.le_of_ble_eq_true rfl⟩ ⟨rfl, rfl⟩ [0, 1, 2, 3] [4] rfl rfl (by decide) (by decide) rfl rfl rfl rfl rfl hl.1 (Nat.le_of_ble_eq_true rfl) dX10_daysGo_62 ⟨Nat.le_of_ble_eq_true rfl, Nat.le_of_ble_eq_true rfl⟩ (fun u H locs hw_6 hP hD hS => ?_)
          obtain ⟨ko_2, wo_3, xo_4, lo_5⟩ := u
          try dsimp only at hw_6
          have hP : va_P D vwCl [(a_didOf, .inl (cI, 10, .inl da)), (h0, .inr (10, [.ref a_now, .ref a_aside, .ref a_kept, .ref a_keptFrom, .ref a_keptTo, .ref a_capOf, .ref a_leaveFrom, .ref a_leaveTo, .ref a_amountOf, .ref a_doerMany, .ref a_doerOf, .int 0, .int 0, .int 0, .ref a_tape, .int 0, .int 0, .int 0, .int 0, .int 0, .int 0, .int 0, .int 0, .int 0, .int 0, .ref a_said, .ref a_waitsAt, .ref a_saidLetter, .ref a_saidFrom, .ref a_saidHalf, .ref a_saidTo, .ref a_codes, .ref a_clauseOf, .ref a_codeFrom, .ref a_codeHalf, .ref a_codeTo, .ref a_stack, .ref a_facts, .ref a_lineChore, .ref a_lineMany, .ref a_lineDoer, .ref a_newFrom, .ref a_newTo, .int 0, .ref a_goFrom, .ref a_goTo, .ref a_idleFrom, .ref a_idleTo, .ref a_moreOf, .ref a_firstOf, .ref a_leftOf, .ref a_didOf, .int 0, .int 0, .int (nI (i + 1)), .int (nI i), .ref a_costBy, .int 0, .ref a_gainBy, .ref a_hiredOf, .ref a_hiredBest, .ref a_hiredTo, .ref a_turnOf, .ref a_turnWho, .int 0])), (a_now, .inl (cI, 15, .inl wo_3)), (a_facts, .inl (cI, 8, .inl xo_4)), (a_leftOf, .inl (cI, 10, .inl lo_5))] H := hP
          have hD : va_D A [(a_didOf, .inl (cI, 10, .inl da)), (h0, .inr (10, [.ref a_now, .ref a_aside, .ref a_kept, .ref a_keptFrom, .ref a_keptTo, .ref a_capOf, .ref a_leaveFrom, .ref a_leaveTo, .ref a_amountOf, .ref a_doerMany, .ref a_doerOf, .int 0, .int 0, .int 0, .ref a_tape, .int 0, .int 0, .int 0, .int 0, .int 0, .int 0, .int 0, .int 0, .int 0, .int 0, .ref a_said, .ref a_waitsAt, .ref a_saidLetter, .ref a_saidFrom, .ref a_saidHalf, .ref a_saidTo, .ref a_codes, .ref a_clauseOf, .ref a_codeFrom, .ref a_codeHalf, .ref a_codeTo, .ref a_stack, .ref a_facts, .ref a_lineChore, .ref a_lineMany, .ref a_lineDoer, .ref a_newFrom, .ref a_newTo, .int 0, .ref a_goFrom, .ref a_goTo, .ref a_idleFrom, .ref a_idleTo, .ref a_moreOf, .ref a_firstOf, .ref a_leftOf, .ref a_didOf, .int 0, .int 0, .int (nI (i + 1)), .int (nI i), .ref a_costBy, .int 0, .ref a_gainBy, .ref a_hiredOf, .ref a_hiredBest, .ref a_hiredTo, .ref a_turnOf, .ref a_turnWho, .int 0])), (a_now, .inl (cI, 15, .inl wo_3)), (a_facts, .inl (cI, 8, .inl xo_4)), (a_leftOf, .inl (cI, 10, .inl lo_5))] := hD
          refine lv_aload_n hx hb dX10_daysGo_65 rfl (lv_at hl 0 rfl) ?_
          refine lv_aload_n hx hb dX10_daysGo_66 rfl (lv_at hl 0 rfl) ?_
          refine va_get (D := D) (ci := 10) (v := .int (nI i)) (C := RX10) (T := TX10) (N := 65) hx hb htb itX10 hown hK hP 1 rfl rfl 55 (by decide) (htb _ k_1123) (fun _ h9 => h9) rfl dX10_daysGo_67 ?_
          refine lv_iconst (v := 1) hx hb dX10_daysGo_70 (by decide) ?_
          refine lv_iadd hx hb dX10_daysGo_71 ?_
          refine tv (z := (nI (i + 1))) (nI_1 i) ?_
          refine va_put (D := D) (ci := 10) (v := .int (nI (i + 1))) (ty := .int) (C := RX10) (T := TX10) (N := 65) hx hb htb itX10 tyX10 tyX10_ok nmX10 hown hK hP hD hS 1 rfl rfl 55 (by decide) (htb _ k_1123) (fun _ h9 => h9) rfl (tyX10_ok 55 (by decide)) rfl rfl (Nat.le_of_ble_eq_true rfl) dX10_daysGo_72 (fun H locs hP hD hS => ?_)
          have hP : va_P D vwCl [(a_didOf, .inl (cI, 10, .inl da)), (h0, .inr (10, [.ref a_now, .ref a_aside, .ref a_kept, .ref a_keptFrom, .ref a_keptTo, .ref a_capOf, .ref a_leaveFrom, .ref a_leaveTo, .ref a_amountOf, .ref a_doerMany, .ref a_doerOf, .int 0, .int 0, .int 0, .ref a_tape, .int 0, .int 0, .int 0, .int 0, .int 0, .int 0, .int 0, .int 0, .int 0, .int 0, .ref a_said, .ref a_waitsAt, .ref a_saidLetter, .ref a_saidFrom, .ref a_saidHalf, .ref a_saidTo, .ref a_codes, .ref a_clauseOf, .ref a_codeFrom, .ref a_codeHalf, .ref a_codeTo, .ref a_stack, .ref a_facts, .ref a_lineChore, .ref a_lineMany, .ref a_lineDoer, .ref a_newFrom, .ref a_newTo, .int 0, .ref a_goFrom, .ref a_goTo, .ref a_idleFrom, .ref a_idleTo, .ref a_moreOf, .ref a_firstOf, .ref a_leftOf, .ref a_didOf, .int 0, .int 0, .int (nI (i + 1)), .int (nI (i + 1)), .ref a_costBy, .int 0, .ref a_gainBy, .ref a_hiredOf, .ref a_hiredBest, .ref a_hiredTo, .ref a_turnOf, .ref a_turnWho, .int 0])), (a_now, .inl (cI, 15, .inl wo_3)), (a_facts, .inl (cI, 8, .inl xo_4)), (a_leftOf, .inl (cI, 10, .inl lo_5))] H := hP
          have hD : va_D A [(a_didOf, .inl (cI, 10, .inl da)), (h0, .inr (10, [.ref a_now, .ref a_aside, .ref a_kept, .ref a_keptFrom, .ref a_keptTo, .ref a_capOf, .ref a_leaveFrom, .ref a_leaveTo, .ref a_amountOf, .ref a_doerMany, .ref a_doerOf, .int 0, .int 0, .int 0, .ref a_tape, .int 0, .int 0, .int 0, .int 0, .int 0, .int 0, .int 0, .int 0, .int 0, .int 0, .ref a_said, .ref a_waitsAt, .ref a_saidLetter, .ref a_saidFrom, .ref a_saidHalf, .ref a_saidTo, .ref a_codes, .ref a_clauseOf, .ref a_codeFrom, .ref a_codeHalf, .ref a_codeTo, .ref a_stack, .ref a_facts, .ref a_lineChore, .ref a_lineMany, .ref a_lineDoer, .ref a_newFrom, .ref a_newTo, .int 0, .ref a_goFrom, .ref a_goTo, .ref a_idleFrom, .ref a_idleTo, .ref a_moreOf, .ref a_firstOf, .ref a_leftOf, .ref a_didOf, .int 0, .int 0, .int (nI (i + 1)), .int (nI (i + 1)), .ref a_costBy, .int 0, .ref a_gainBy, .ref a_hiredOf, .ref a_hiredBest, .ref a_hiredTo, .ref a_turnOf, .ref a_turnWho, .int 0])), (a_now, .inl (cI, 15, .inl wo_3)), (a_facts, .inl (cI, 8, .inl xo_4)), (a_leftOf, .inl (cI, 10, .inl lo_5))] := hD
          refine lv_iinc (v := (nI (i + 1))) (lv' := [(2, .int (nI (i + 1))), (0, .ref h0), (1, .int (nI N))]) hx hb dX10_daysGo_75 hl (k := 2) rfl (nI_1 i) (by decide) rfl (fun ls hl => ?_)
          refine lv_goto (tgt := 43) hx hb dX10_daysGo_78 (by decide) ?_
          exact ih (i + 1) ko_2 wo_3 xo_4 lo_5 (by omega) hw_6.1.1 hw_6.1.2.1 hw_6.1.2.2 hw_6.2 _ _ (hP.sub [1, 2, 3, 4, 0] rfl) (hD.sub [1, 2, 3, 4, 0] (by decide) rfl) hS _ (lv_sub hl [1, 2, 0] rfl)
      exact loop_43 N 0 k fw fx fl (by omega) h12 h13 h14 hk _ _ (hP.sub [0, 1, 2, 3, 4] rfl) (hD.sub [0, 1, 2, 3, 4] (by decide) rfl) hS _ (lv_sub hl [1, 2, 0] rfl)
    | succ n ih =>
      intro i da hni H locs hP hD hS ls hl
      have hi : i < 10 := by omega
      refine lv_iload_n hx hb dX10_daysGo_22 rfl (lv_at hl 2 rfl) ?_
      refine lv_bipush (v := 10) hx hb dX10_daysGo_23 (by decide) ?_
      refine lv_icmp_ge (tgt := 41) hx hb dX10_daysGo_25 (by decide) (fun c_25 => absurd c_25 (nI_ge hi (by decide))) (fun _ => ?_)
      refine lv_aload_n hx hb dX10_daysGo_28 rfl (lv_at hl 0 rfl) ?_
      refine va_get (D := D) (ci := 10) (v := .ref a_didOf) (C := RX10) (T := TX10) (N := 65) hx hb htb itX10 hown hK hP 0 rfl rfl 51 (by decide) (htb _ k_1119) (fun _ h9 => h9) rfl dX10_daysGo_29 ?_
      refine lv_iload_n hx hb dX10_daysGo_32 rfl (lv_at hl 2 rfl) ?_
      refine lv_iconst (v := 0) hx hb dX10_daysGo_33 (by decide) ?_
      refine va_iast hx hb hK hP hD hS 4 0 rfl rfl (vp_in_nI (by omega) (by decide)) dX10_daysGo_34 (fun H locs hP hD hS => ?_)
      obtain ⟨f_7, ef_7⟩ : ∃ g : Nat → Int32, g = upd da (Int32.toNatClampNeg (nI i)) 0 := ⟨_, rfl⟩
      rw [← ef_7] at hP hD
      have hP : va_P D vwCl [(h0, .inr (10, [.ref a_now, .ref a_aside, .ref a_kept, .ref a_keptFrom, .ref a_keptTo, .ref a_capOf, .ref a_leaveFrom, .ref a_leaveTo, .ref a_amountOf, .ref a_doerMany, .ref a_doerOf, .int 0, .int 0, .int 0, .ref a_tape, .int 0, .int 0, .int 0, .int 0, .int 0, .int 0, .int 0, .int 0, .int 0, .int 0, .ref a_said, .ref a_waitsAt, .ref a_saidLetter, .ref a_saidFrom, .ref a_saidHalf, .ref a_saidTo, .ref a_codes, .ref a_clauseOf, .ref a_codeFrom, .ref a_codeHalf, .ref a_codeTo, .ref a_stack, .ref a_facts, .ref a_lineChore, .ref a_lineMany, .ref a_lineDoer, .ref a_newFrom, .ref a_newTo, .int 0, .ref a_goFrom, .ref a_goTo, .ref a_idleFrom, .ref a_idleTo, .ref a_moreOf, .ref a_firstOf, .ref a_leftOf, .ref a_didOf, .int 0, .int 0, .int 0, .int 0, .ref a_costBy, .int 0, .ref a_gainBy, .ref a_hiredOf, .ref a_hiredBest, .ref a_hiredTo, .ref a_turnOf, .ref a_turnWho, .int 0])), (a_now, .inl (cI, 15, .inl fw)), (a_facts, .inl (cI, 8, .inl fx)), (a_leftOf, .inl (cI, 10, .inl fl)), (a_didOf, .inl (cI, 10, .inl f_7))] H := hP
      have hD : va_D A [(h0, .inr (10, [.ref a_now, .ref a_aside, .ref a_kept, .ref a_keptFrom, .ref a_keptTo, .ref a_capOf, .ref a_leaveFrom, .ref a_leaveTo, .ref a_amountOf, .ref a_doerMany, .ref a_doerOf, .int 0, .int 0, .int 0, .ref a_tape, .int 0, .int 0, .int 0, .int 0, .int 0, .int 0, .int 0, .int 0, .int 0, .int 0, .ref a_said, .ref a_waitsAt, .ref a_saidLetter, .ref a_saidFrom, .ref a_saidHalf, .ref a_saidTo, .ref a_codes, .ref a_clauseOf, .ref a_codeFrom, .ref a_codeHalf, .ref a_codeTo, .ref a_stack, .ref a_facts, .ref a_lineChore, .ref a_lineMany, .ref a_lineDoer, .ref a_newFrom, .ref a_newTo, .int 0, .ref a_goFrom, .ref a_goTo, .ref a_idleFrom, .ref a_idleTo, .ref a_moreOf, .ref a_firstOf, .ref a_leftOf, .ref a_didOf, .int 0, .int 0, .int 0, .int 0, .ref a_costBy, .int 0, .ref a_gainBy, .ref a_hiredOf, .ref a_hiredBest, .ref a_hiredTo, .ref a_turnOf, .ref a_turnWho, .int 0])), (a_now, .inl (cI, 15, .inl fw)), (a_facts, .inl (cI, 8, .inl fx)), (a_leftOf, .inl (cI, 10, .inl fl)), (a_didOf, .inl (cI, 10, .inl f_7))] := hD
      refine lv_iinc (v := (nI (i + 1))) (lv' := [(2, .int (nI (i + 1))), (0, .ref h0), (1, .int (nI N))]) hx hb dX10_daysGo_35 hl (k := 2) rfl (nI_1 i) (by decide) rfl (fun ls hl => ?_)
      refine lv_goto (tgt := 22) hx hb dX10_daysGo_38 (by decide) ?_
      exact ih (i + 1) f_7 (by omega) _ _ (hP.sub [0, 1, 2, 3, 4] rfl) (hD.sub [0, 1, 2, 3, 4] (by decide) rfl) hS _ (lv_sub hl [1, 2, 0] rfl)
  exact loop_22 10 0 fd (by omega) _ _ (hP.sub [0, 1, 2, 3, 4] rfl) (hD.sub [0, 1, 2, 3, 4] (by decide) rfl) hS _ (lv_sub hl [1, 2, 0] rfl)

set_option maxRecDepth 100000 in
set_option maxHeartbeats 4000000 in
theorem c_X10_trial (l : Launch) (D : va_G) (cI cB : ClassId) (sz : Nat) (h0 : Nat) (a_now : Nat) (a_aside : Nat) (a_kept : Nat) (a_keptFrom : Nat) (a_keptTo : Nat) (a_capOf : Nat) (a_leaveFrom : Nat) (a_leaveTo : Nat) (a_amountOf : Nat) (a_doerMany : Nat) (a_doerOf : Nat) (a_tape : Nat) (a_said : Nat) (a_waitsAt : Nat) (a_saidLetter : Nat) (a_saidFrom : Nat) (a_saidHalf : Nat) (a_saidTo : Nat) (a_codes : Nat) (a_clauseOf : Nat) (a_codeFrom : Nat) (a_codeHalf : Nat) (a_codeTo : Nat) (a_stack : Nat) (a_facts : Nat) (a_lineChore : Nat) (a_lineMany : Nat) (a_lineDoer : Nat) (a_newFrom : Nat) (a_newTo : Nat) (a_goFrom : Nat) (a_goTo : Nat) (a_idleFrom : Nat) (a_idleTo : Nat) (a_moreOf : Nat) (a_firstOf : Nat) (a_leftOf : Nat) (a_didOf : Nat) (a_costBy : Nat) (a_gainBy : Nat) (a_hiredOf : Nat) (a_hiredBest : Nat) (a_hiredTo : Nat) (a_turnOf : Nat) (a_turnWho : Nat) (rv : Int32) (du : Int32) (cl : Int32) (gd : Int32) (N : Nat) (k : Nat) (fw : Nat → Int32) (fs : Nat → Int32) (fx : Nat → Int32) (flo : Nat → Int32) (fd : Nat → Int32) (hN0 : N ≤ 60) (h12 : fw 12 = 0) (h13 : fw 13 = 0) (h14 : fw 14 = nI k) (hk : k < 65536) : MI (S := ((Nat → Int32) × (Nat → Int32) × (Nat → Int32) × (Nat → Int32) × (Nat → Int32))) l D cI cB yX10_trial cX10_trial 3 .int (rm 6 131) [.ref h0, .int (nI N)] [(h0, .inr (10, [.ref a_now, .ref a_aside, .ref a_kept, .ref a_keptFrom, .ref a_keptTo, .ref a_capOf, .ref a_leaveFrom, .ref a_leaveTo, .ref a_amountOf, .ref a_doerMany, .ref a_doerOf, .int 0, .int 0, .int 0, .ref a_tape, .int 0, .int 0, .int 0, .int 0, .int 0, .int 0, .int 0, .int 0, .int 0, .int 0, .ref a_said, .ref a_waitsAt, .ref a_saidLetter, .ref a_saidFrom, .ref a_saidHalf, .ref a_saidTo, .ref a_codes, .ref a_clauseOf, .ref a_codeFrom, .ref a_codeHalf, .ref a_codeTo, .ref a_stack, .ref a_facts, .ref a_lineChore, .ref a_lineMany, .ref a_lineDoer, .ref a_newFrom, .ref a_newTo, .int 0, .ref a_goFrom, .ref a_goTo, .ref a_idleFrom, .ref a_idleTo, .ref a_moreOf, .ref a_firstOf, .ref a_leftOf, .ref a_didOf, .int rv, .int du, .int cl, .int gd, .ref a_costBy, .int 0, .ref a_gainBy, .ref a_hiredOf, .ref a_hiredBest, .ref a_hiredTo, .ref a_turnOf, .ref a_turnWho, .int 0])), (a_now, .inl (cI, 15, .inl fw)), (a_aside, .inl (cI, 15, .inl fs)), (a_facts, .inl (cI, 8, .inl fx)), (a_leftOf, .inl (cI, 10, .inl flo)), (a_didOf, .inl (cI, 10, .inl fd))] sz (fun r u => r = 0 ∧ ∀ j, j < 15 → u.1 j = fw j) (fun u : ((Nat → Int32) × (Nat → Int32) × (Nat → Int32) × (Nat → Int32) × (Nat → Int32)) => [(h0, .inr (10, [.ref a_now, .ref a_aside, .ref a_kept, .ref a_keptFrom, .ref a_keptTo, .ref a_capOf, .ref a_leaveFrom, .ref a_leaveTo, .ref a_amountOf, .ref a_doerMany, .ref a_doerOf, .int 0, .int 0, .int 0, .ref a_tape, .int 0, .int 0, .int 0, .int 0, .int 0, .int 0, .int 0, .int 0, .int 0, .int 0, .ref a_said, .ref a_waitsAt, .ref a_saidLetter, .ref a_saidFrom, .ref a_saidHalf, .ref a_saidTo, .ref a_codes, .ref a_clauseOf, .ref a_codeFrom, .ref a_codeHalf, .ref a_codeTo, .ref a_stack, .ref a_facts, .ref a_lineChore, .ref a_lineMany, .ref a_lineDoer, .ref a_newFrom, .ref a_newTo, .int 0, .ref a_goFrom, .ref a_goTo, .ref a_idleFrom, .ref a_idleTo, .ref a_moreOf, .ref a_firstOf, .ref a_leftOf, .ref a_didOf, .int 0, .int 0, .int (nI N), .int (nI N), .ref a_costBy, .int 0, .ref a_gainBy, .ref a_hiredOf, .ref a_hiredBest, .ref a_hiredTo, .ref a_turnOf, .ref a_turnWho, .int 0])), (a_now, .inl (cI, 15, .inl u.1)), (a_aside, .inl (cI, 15, .inl u.2.1)), (a_facts, .inl (cI, 8, .inl u.2.2.1)), (a_leftOf, .inl (cI, 10, .inl u.2.2.2.1)), (a_didOf, .inl (cI, 10, .inl u.2.2.2.2))]) := by
  refine MI.of (by decide) (Nat.le_of_ble_eq_true rfl) ?_
  intro p e s m below meth c Q ls A X hin hN hP hK hD hA hl ret
  have hS : va_S A s.heap s.heap [] := va_S.rf
  obtain ⟨hx, hb, hml, hown, htb⟩ := id X
  have hl : lv_has ls 3 [(0, .ref h0), (1, .int (nI N))] := hl
  refine lv_aload_n hx hb dX10_trial_0 rfl (lv_at hl 0 rfl) ?_
  refine va_get (D := D) (ci := 10) (v := .ref a_now) (C := RX10) (T := TX10) (N := 65) hx hb htb itX10 hown hK hP 0 rfl rfl 0 (by decide) (htb _ k_1068) (fun _ h9 => h9) rfl dX10_trial_1 ?_
  refine lv_aload_n hx hb dX10_trial_4 rfl (lv_at hl 0 rfl) ?_
  refine va_get (D := D) (ci := 10) (v := .ref a_aside) (C := RX10) (T := TX10) (N := 65) hx hb htb itX10 hown hK hP 0 rfl rfl 1 (by decide) (htb _ k_1069) (fun _ h9 => h9) rfl dX10_trial_5 ?_
  refine lv_bipush (v := 15) hx hb dX10_trial_8 (by decide) ?_
  refine cSV (As := [.ref a_now, .ref a_aside, .int 15]) (rest := []) (n := 3) (wr := [(h0, .inr (10, [.ref a_now, .ref a_aside, .ref a_kept, .ref a_keptFrom, .ref a_keptTo, .ref a_capOf, .ref a_leaveFrom, .ref a_leaveTo, .ref a_amountOf, .ref a_doerMany, .ref a_doerOf, .int 0, .int 0, .int 0, .ref a_tape, .int 0, .int 0, .int 0, .int 0, .int 0, .int 0, .int 0, .int 0, .int 0, .int 0, .ref a_said, .ref a_waitsAt, .ref a_saidLetter, .ref a_saidFrom, .ref a_saidHalf, .ref a_saidTo, .ref a_codes, .ref a_clauseOf, .ref a_codeFrom, .ref a_codeHalf, .ref a_codeTo, .ref a_stack, .ref a_facts, .ref a_lineChore, .ref a_lineMany, .ref a_lineDoer, .ref a_newFrom, .ref a_newTo, .int 0, .ref a_goFrom, .ref a_goTo, .ref a_idleFrom, .ref a_idleTo, .ref a_moreOf, .ref a_firstOf, .ref a_leftOf, .ref a_didOf, .int rv, .int du, .int cl, .int gd, .ref a_costBy, .int 0, .ref a_gainBy, .ref a_hiredOf, .ref a_hiredBest, .ref a_hiredTo, .ref a_turnOf, .ref a_turnWho, .int 0])), (a_facts, .inl (cI, 8, .inl fx)), (a_leftOf, .inl (cI, 10, .inl flo)), (a_didOf, .inl (cI, 10, .inl fd))]) X hN hK hP hD hS hA (c_X10_copies l D cI cB _ a_now a_aside fw fs) k_1501 k_1502 k_103 k_1503 (by decide +kernel) ⟨Nat.le_of_ble_eq_true rfl, Nat.le_of_ble_eq_true rfl⟩ ⟨rfl, rfl⟩ [1, 2] [0, 3, 4, 5] rfl rfl (by decide) (by decide) rfl rfl hl.1 (Nat.le_of_ble_eq_true rfl) dX10_trial_10 ⟨Nat.le_of_ble_eq_true rfl, Nat.le_of_ble_eq_true rfl⟩ (fun u H locs hw_3 hP hD hS => ?_)
  obtain ⟨go_2, rfl⟩ : ∃ z, z = u := ⟨_, rfl⟩
  try dsimp only at hw_3
  have hP : va_P D vwCl [(h0, .inr (10, [.ref a_now, .ref a_aside, .ref a_kept, .ref a_keptFrom, .ref a_keptTo, .ref a_capOf, .ref a_leaveFrom, .ref a_leaveTo, .ref a_amountOf, .ref a_doerMany, .ref a_doerOf, .int 0, .int 0, .int 0, .ref a_tape, .int 0, .int 0, .int 0, .int 0, .int 0, .int 0, .int 0, .int 0, .int 0, .int 0, .ref a_said, .ref a_waitsAt, .ref a_saidLetter, .ref a_saidFrom, .ref a_saidHalf, .ref a_saidTo, .ref a_codes, .ref a_clauseOf, .ref a_codeFrom, .ref a_codeHalf, .ref a_codeTo, .ref a_stack, .ref a_facts, .ref a_lineChore, .ref a_lineMany, .ref a_lineDoer, .ref a_newFrom, .ref a_newTo, .int 0, .ref a_goFrom, .ref a_goTo, .ref a_idleFrom, .ref a_idleTo, .ref a_moreOf, .ref a_firstOf, .ref a_leftOf, .ref a_didOf, .int rv, .int du, .int cl, .int gd, .ref a_costBy, .int 0, .ref a_gainBy, .ref a_hiredOf, .ref a_hiredBest, .ref a_hiredTo, .ref a_turnOf, .ref a_turnWho, .int 0])), (a_facts, .inl (cI, 8, .inl fx)), (a_leftOf, .inl (cI, 10, .inl flo)), (a_didOf, .inl (cI, 10, .inl fd)), (a_now, .inl (cI, 15, .inl fw)), (a_aside, .inl (cI, 15, .inl go_2))] H := hP
  have hD : va_D A [(h0, .inr (10, [.ref a_now, .ref a_aside, .ref a_kept, .ref a_keptFrom, .ref a_keptTo, .ref a_capOf, .ref a_leaveFrom, .ref a_leaveTo, .ref a_amountOf, .ref a_doerMany, .ref a_doerOf, .int 0, .int 0, .int 0, .ref a_tape, .int 0, .int 0, .int 0, .int 0, .int 0, .int 0, .int 0, .int 0, .int 0, .int 0, .ref a_said, .ref a_waitsAt, .ref a_saidLetter, .ref a_saidFrom, .ref a_saidHalf, .ref a_saidTo, .ref a_codes, .ref a_clauseOf, .ref a_codeFrom, .ref a_codeHalf, .ref a_codeTo, .ref a_stack, .ref a_facts, .ref a_lineChore, .ref a_lineMany, .ref a_lineDoer, .ref a_newFrom, .ref a_newTo, .int 0, .ref a_goFrom, .ref a_goTo, .ref a_idleFrom, .ref a_idleTo, .ref a_moreOf, .ref a_firstOf, .ref a_leftOf, .ref a_didOf, .int rv, .int du, .int cl, .int gd, .ref a_costBy, .int 0, .ref a_gainBy, .ref a_hiredOf, .ref a_hiredBest, .ref a_hiredTo, .ref a_turnOf, .ref a_turnWho, .int 0])), (a_facts, .inl (cI, 8, .inl fx)), (a_leftOf, .inl (cI, 10, .inl flo)), (a_didOf, .inl (cI, 10, .inl fd)), (a_now, .inl (cI, 15, .inl fw)), (a_aside, .inl (cI, 15, .inl go_2))] := hD
  refine lv_aload_n hx hb dX10_trial_13 rfl (lv_at hl 0 rfl) ?_
  refine lv_iload_n hx hb dX10_trial_14 rfl (lv_at hl 1 rfl) ?_
  refine cVV (As := [.int (nI N)]) (rest := []) (n := 1) (ci := 10) (q0 := 0) (wr := [(a_aside, .inl (cI, 15, .inl go_2))]) X hN hK hP hD hS hA (c_X10_daysGo l D cI cB _ h0 a_now a_aside a_kept a_keptFrom a_keptTo a_capOf a_leaveFrom a_leaveTo a_amountOf a_doerMany a_doerOf a_tape a_said a_waitsAt a_saidLetter a_saidFrom a_saidHalf a_saidTo a_codes a_clauseOf a_codeFrom a_codeHalf a_codeTo a_stack a_facts a_lineChore a_lineMany a_lineDoer a_newFrom a_newTo a_goFrom a_goTo a_idleFrom a_idleTo a_moreOf a_firstOf a_leftOf a_didOf a_costBy a_gainBy a_hiredOf a_hiredBest a_hiredTo a_turnOf a_turnWho rv du cl gd N k fw fx flo fd hN0 h12 h13 h14 hk) (gV k_1434 k_1436 k_61 k_103 k_1437) (by decide +kernel) ⟨Nat.le_of_ble_eq_true rfl, Nat.le_of_ble_eq_true rfl⟩ ⟨rfl, rfl⟩ [0, 4, 1, 2, 3] [5] rfl rfl (by decide) (by decide) rfl rfl rfl rfl rfl hl.1 (Nat.le_of_ble_eq_true rfl) dX10_trial_15 ⟨Nat.le_of_ble_eq_true rfl, Nat.le_of_ble_eq_true rfl⟩ (fun u H locs hw_10 hP hD hS => ?_)
  obtain ⟨ko_5, wo_6, xo_7, lo_8, do__9⟩ := u
  try dsimp only at hw_10
  have hP : va_P D vwCl [(a_aside, .inl (cI, 15, .inl go_2)), (h0, .inr (10, [.ref a_now, .ref a_aside, .ref a_kept, .ref a_keptFrom, .ref a_keptTo, .ref a_capOf, .ref a_leaveFrom, .ref a_leaveTo, .ref a_amountOf, .ref a_doerMany, .ref a_doerOf, .int 0, .int 0, .int 0, .ref a_tape, .int 0, .int 0, .int 0, .int 0, .int 0, .int 0, .int 0, .int 0, .int 0, .int 0, .ref a_said, .ref a_waitsAt, .ref a_saidLetter, .ref a_saidFrom, .ref a_saidHalf, .ref a_saidTo, .ref a_codes, .ref a_clauseOf, .ref a_codeFrom, .ref a_codeHalf, .ref a_codeTo, .ref a_stack, .ref a_facts, .ref a_lineChore, .ref a_lineMany, .ref a_lineDoer, .ref a_newFrom, .ref a_newTo, .int 0, .ref a_goFrom, .ref a_goTo, .ref a_idleFrom, .ref a_idleTo, .ref a_moreOf, .ref a_firstOf, .ref a_leftOf, .ref a_didOf, .int 0, .int 0, .int (nI N), .int (nI N), .ref a_costBy, .int 0, .ref a_gainBy, .ref a_hiredOf, .ref a_hiredBest, .ref a_hiredTo, .ref a_turnOf, .ref a_turnWho, .int 0])), (a_now, .inl (cI, 15, .inl wo_6)), (a_facts, .inl (cI, 8, .inl xo_7)), (a_leftOf, .inl (cI, 10, .inl lo_8)), (a_didOf, .inl (cI, 10, .inl do__9))] H := hP
  have hD : va_D A [(a_aside, .inl (cI, 15, .inl go_2)), (h0, .inr (10, [.ref a_now, .ref a_aside, .ref a_kept, .ref a_keptFrom, .ref a_keptTo, .ref a_capOf, .ref a_leaveFrom, .ref a_leaveTo, .ref a_amountOf, .ref a_doerMany, .ref a_doerOf, .int 0, .int 0, .int 0, .ref a_tape, .int 0, .int 0, .int 0, .int 0, .int 0, .int 0, .int 0, .int 0, .int 0, .int 0, .ref a_said, .ref a_waitsAt, .ref a_saidLetter, .ref a_saidFrom, .ref a_saidHalf, .ref a_saidTo, .ref a_codes, .ref a_clauseOf, .ref a_codeFrom, .ref a_codeHalf, .ref a_codeTo, .ref a_stack, .ref a_facts, .ref a_lineChore, .ref a_lineMany, .ref a_lineDoer, .ref a_newFrom, .ref a_newTo, .int 0, .ref a_goFrom, .ref a_goTo, .ref a_idleFrom, .ref a_idleTo, .ref a_moreOf, .ref a_firstOf, .ref a_leftOf, .ref a_didOf, .int 0, .int 0, .int (nI N), .int (nI N), .ref a_costBy, .int 0, .ref a_gainBy, .ref a_hiredOf, .ref a_hiredBest, .ref a_hiredTo, .ref a_turnOf, .ref a_turnWho, .int 0])), (a_now, .inl (cI, 15, .inl wo_6)), (a_facts, .inl (cI, 8, .inl xo_7)), (a_leftOf, .inl (cI, 10, .inl lo_8)), (a_didOf, .inl (cI, 10, .inl do__9))] := hD
  refine lv_aload_n hx hb dX10_trial_18 rfl (lv_at hl 0 rfl) ?_
  refine va_get (D := D) (ci := 10) (v := .ref a_now) (C := RX10) (T := TX10) (N := 65) hx hb htb itX10 hown hK hP 1 rfl rfl 0 (by decide) (htb _ k_1068) (fun _ h9 => h9) rfl dX10_trial_19 ?_
  refine lv_bipush (v := 12) hx hb dX10_trial_22 (by decide) ?_
  refine va_iald hx hb hK hP 2 0 rfl rfl (by unfold vp_in; decide) dX10_trial_24 ?_
  refine tv (z := 0) (rdL (by decide) hw_10.1.1) ?_
  refine lv_aload_n hx hb dX10_trial_25 rfl (lv_at hl 0 rfl) ?_
  refine va_get (D := D) (ci := 10) (v := .ref a_aside) (C := RX10) (T := TX10) (N := 65) hx hb htb itX10 hown hK hP 1 rfl rfl 1 (by decide) (htb _ k_1069) (fun _ h9 => h9) rfl dX10_trial_26 ?_
  refine lv_bipush (v := 12) hx hb dX10_trial_29 (by decide) ?_
  refine va_iald hx hb hK hP 0 0 rfl rfl (by unfold vp_in; decide) dX10_trial_31 ?_
  refine tv (z := 0) (rdL (by decide) ((hw_3 12 (by decide)).trans h12)) ?_
  refine lv_isub hx hb dX10_trial_32 ?_
  refine tv (z := 0) (by decide) ?_
  refine lv_istore_n (lv' := [(2, .int 0), (0, .ref h0), (1, .int (nI N))]) hx hb dX10_trial_33 rfl hl (by decide) rfl (fun ls hl => ?_)
  refine lv_aload_n hx hb dX10_trial_34 rfl (lv_at hl 1 rfl) ?_
  refine va_get (D := D) (ci := 10) (v := .ref a_aside) (C := RX10) (T := TX10) (N := 65) hx hb htb itX10 hown hK hP 1 rfl rfl 1 (by decide) (htb _ k_1069) (fun _ h9 => h9) rfl dX10_trial_35 ?_
  refine lv_aload_n hx hb dX10_trial_38 rfl (lv_at hl 1 rfl) ?_
  refine va_get (D := D) (ci := 10) (v := .ref a_now) (C := RX10) (T := TX10) (N := 65) hx hb htb itX10 hown hK hP 1 rfl rfl 0 (by decide) (htb _ k_1068) (fun _ h9 => h9) rfl dX10_trial_39 ?_
  refine lv_bipush (v := 15) hx hb dX10_trial_42 (by decide) ?_
  refine cSV (As := [.ref a_aside, .ref a_now, .int 15]) (rest := []) (n := 3) (wr := [(h0, .inr (10, [.ref a_now, .ref a_aside, .ref a_kept, .ref a_keptFrom, .ref a_keptTo, .ref a_capOf, .ref a_leaveFrom, .ref a_leaveTo, .ref a_amountOf, .ref a_doerMany, .ref a_doerOf, .int 0, .int 0, .int 0, .ref a_tape, .int 0, .int 0, .int 0, .int 0, .int 0, .int 0, .int 0, .int 0, .int 0, .int 0, .ref a_said, .ref a_waitsAt, .ref a_saidLetter, .ref a_saidFrom, .ref a_saidHalf, .ref a_saidTo, .ref a_codes, .ref a_clauseOf, .ref a_codeFrom, .ref a_codeHalf, .ref a_codeTo, .ref a_stack, .ref a_facts, .ref a_lineChore, .ref a_lineMany, .ref a_lineDoer, .ref a_newFrom, .ref a_newTo, .int 0, .ref a_goFrom, .ref a_goTo, .ref a_idleFrom, .ref a_idleTo, .ref a_moreOf, .ref a_firstOf, .ref a_leftOf, .ref a_didOf, .int 0, .int 0, .int (nI N), .int (nI N), .ref a_costBy, .int 0, .ref a_gainBy, .ref a_hiredOf, .ref a_hiredBest, .ref a_hiredTo, .ref a_turnOf, .ref a_turnWho, .int 0])), (a_facts, .inl (cI, 8, .inl xo_7)), (a_leftOf, .inl (cI, 10, .inl lo_8)), (a_didOf, .inl (cI, 10, .inl do__9))]) X hN hK hP hD hS hA (c_X10_copies l D cI cB _ a_aside a_now go_2 wo_6) k_1501 k_1502 k_103 k_1503 (by decide +kernel) ⟨Nat.le_of_ble_eq_true rfl, Nat.le_of_ble_eq_true rfl⟩ ⟨rfl, rfl⟩ [0, 2] [1, 3, 4, 5] rfl rfl (by decide) (by decide) rfl rfl hl.1 (Nat.le_of_ble_eq_true rfl) dX10_trial_44 ⟨Nat.le_of_ble_eq_true rfl, Nat.le_of_ble_eq_true rfl⟩ (fun u H locs hw_13 hP hD hS => ?_)
  obtain ⟨go_12, rfl⟩ : ∃ z, z = u := ⟨_, rfl⟩
  try dsimp only at hw_13
  have hP : va_P D vwCl [(h0, .inr (10, [.ref a_now, .ref a_aside, .ref a_kept, .ref a_keptFrom, .ref a_keptTo, .ref a_capOf, .ref a_leaveFrom, .ref a_leaveTo, .ref a_amountOf, .ref a_doerMany, .ref a_doerOf, .int 0, .int 0, .int 0, .ref a_tape, .int 0, .int 0, .int 0, .int 0, .int 0, .int 0, .int 0, .int 0, .int 0, .int 0, .ref a_said, .ref a_waitsAt, .ref a_saidLetter, .ref a_saidFrom, .ref a_saidHalf, .ref a_saidTo, .ref a_codes, .ref a_clauseOf, .ref a_codeFrom, .ref a_codeHalf, .ref a_codeTo, .ref a_stack, .ref a_facts, .ref a_lineChore, .ref a_lineMany, .ref a_lineDoer, .ref a_newFrom, .ref a_newTo, .int 0, .ref a_goFrom, .ref a_goTo, .ref a_idleFrom, .ref a_idleTo, .ref a_moreOf, .ref a_firstOf, .ref a_leftOf, .ref a_didOf, .int 0, .int 0, .int (nI N), .int (nI N), .ref a_costBy, .int 0, .ref a_gainBy, .ref a_hiredOf, .ref a_hiredBest, .ref a_hiredTo, .ref a_turnOf, .ref a_turnWho, .int 0])), (a_facts, .inl (cI, 8, .inl xo_7)), (a_leftOf, .inl (cI, 10, .inl lo_8)), (a_didOf, .inl (cI, 10, .inl do__9)), (a_aside, .inl (cI, 15, .inl go_2)), (a_now, .inl (cI, 15, .inl go_12))] H := hP
  have hD : va_D A [(h0, .inr (10, [.ref a_now, .ref a_aside, .ref a_kept, .ref a_keptFrom, .ref a_keptTo, .ref a_capOf, .ref a_leaveFrom, .ref a_leaveTo, .ref a_amountOf, .ref a_doerMany, .ref a_doerOf, .int 0, .int 0, .int 0, .ref a_tape, .int 0, .int 0, .int 0, .int 0, .int 0, .int 0, .int 0, .int 0, .int 0, .int 0, .ref a_said, .ref a_waitsAt, .ref a_saidLetter, .ref a_saidFrom, .ref a_saidHalf, .ref a_saidTo, .ref a_codes, .ref a_clauseOf, .ref a_codeFrom, .ref a_codeHalf, .ref a_codeTo, .ref a_stack, .ref a_facts, .ref a_lineChore, .ref a_lineMany, .ref a_lineDoer, .ref a_newFrom, .ref a_newTo, .int 0, .ref a_goFrom, .ref a_goTo, .ref a_idleFrom, .ref a_idleTo, .ref a_moreOf, .ref a_firstOf, .ref a_leftOf, .ref a_didOf, .int 0, .int 0, .int (nI N), .int (nI N), .ref a_costBy, .int 0, .ref a_gainBy, .ref a_hiredOf, .ref a_hiredBest, .ref a_hiredTo, .ref a_turnOf, .ref a_turnWho, .int 0])), (a_facts, .inl (cI, 8, .inl xo_7)), (a_leftOf, .inl (cI, 10, .inl lo_8)), (a_didOf, .inl (cI, 10, .inl do__9)), (a_aside, .inl (cI, 15, .inl go_2)), (a_now, .inl (cI, 15, .inl go_12))] := hD
  refine lv_iload_n hx hb dX10_trial_47 rfl (lv_at hl 0 rfl) ?_
  exact ret _ _ _ _ 0 (go_12, go_2, xo_7, lo_8, do__9) dX10_trial_48 rfl (⟨rfl, fun j hj => (hw_13 j hj).trans (hw_3 j hj)⟩) (hP.sub [0, 5, 4, 1, 2, 3] rfl) (hD.sub [0, 5, 4, 1, 2, 3] (by decide) rfl) hS
end
