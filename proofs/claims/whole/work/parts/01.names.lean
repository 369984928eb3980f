-- ===== PART A: goes FIRST, ahead of the names: the tables' words, and 'selects' of the private methods out of them =====
/-- a private method of a class that the tables say can be made, by its rows of tables_1 -/
def lw_okq (q : MethodName × Nat) : Prop := (q.1.cls ≠ "java/lang/invoke/MethodHandle" ∧ q.1.cls ≠ "java/lang/invoke/VarHandle") ∧ Cond.instantiable q.1.cls q.2 ∈ tables_1 ∧ Cond.privateMethod q.1 ∈ tables_1 ∧ Cond.instanceMethod q.1 ∈ tables_1
theorem lw_p0 : lw_okq (⟨"SlideMills$Unpacking", "whyWrong", "(II)I"⟩, 3) := ⟨⟨by decide +kernel, by decide +kernel⟩, List.mem_of_getElem? (i := 215) (by decide +kernel), List.mem_of_getElem? (i := 416) (by decide +kernel), List.mem_of_getElem? (i := 417) (by decide +kernel)⟩
theorem lw_p1 : lw_okq (⟨"SlideMills$Unpacking", "unpackToken", "(LSlideMills$Sack;I)V"⟩, 3) := ⟨⟨by decide +kernel, by decide +kernel⟩, List.mem_of_getElem? (i := 215) (by decide +kernel), List.mem_of_getElem? (i := 420) (by decide +kernel), List.mem_of_getElem? (i := 421) (by decide +kernel)⟩
theorem lw_p2 : lw_okq (⟨"SlideMills$Packer", "setCost", "(II)V"⟩, 2) := ⟨⟨by decide +kernel, by decide +kernel⟩, List.mem_of_getElem? (i := 200) (by decide +kernel), List.mem_of_getElem? (i := 454) (by decide +kernel), List.mem_of_getElem? (i := 455) (by decide +kernel)⟩
theorem lw_p3 : lw_okq (⟨"SlideMills$Packer", "costAt", "(I)I"⟩, 2) := ⟨⟨by decide +kernel, by decide +kernel⟩, List.mem_of_getElem? (i := 200) (by decide +kernel), List.mem_of_getElem? (i := 458) (by decide +kernel), List.mem_of_getElem? (i := 459) (by decide +kernel)⟩
theorem lw_p4 : lw_okq (⟨"SlideMills$Packer", "lower", "(II)V"⟩, 2) := ⟨⟨by decide +kernel, by decide +kernel⟩, List.mem_of_getElem? (i := 200) (by decide +kernel), List.mem_of_getElem? (i := 483) (by decide +kernel), List.mem_of_getElem? (i := 484) (by decide +kernel)⟩
theorem lw_p5 : lw_okq (⟨"SlideMills", "hashText", "(J)J"⟩, 9) := ⟨⟨by decide +kernel, by decide +kernel⟩, List.mem_of_getElem? (i := 22) (by decide +kernel), List.mem_of_getElem? (i := 496) (by decide +kernel), List.mem_of_getElem? (i := 497) (by decide +kernel)⟩
theorem lw_p6 : lw_okq (⟨"SlideMills", "hashSack", "(J)J"⟩, 9) := ⟨⟨by decide +kernel, by decide +kernel⟩, List.mem_of_getElem? (i := 22) (by decide +kernel), List.mem_of_getElem? (i := 505) (by decide +kernel), List.mem_of_getElem? (i := 506) (by decide +kernel)⟩
theorem lw_p7 : lw_okq (⟨"SlideMills", "hashCosts", "(J)J"⟩, 9) := ⟨⟨by decide +kernel, by decide +kernel⟩, List.mem_of_getElem? (i := 22) (by decide +kernel), List.mem_of_getElem? (i := 517) (by decide +kernel), List.mem_of_getElem? (i := 518) (by decide +kernel)⟩
theorem lw_p8 : lw_okq (⟨"SlideMills$Packer", "packCheaply", "(LSlideMills$Sack;)V"⟩, 2) := ⟨⟨by decide +kernel, by decide +kernel⟩, List.mem_of_getElem? (i := 200) (by decide +kernel), List.mem_of_getElem? (i := 526) (by decide +kernel), List.mem_of_getElem? (i := 527) (by decide +kernel)⟩
theorem lw_p9 : lw_okq (⟨"SlideMills$Packer", "cheapestLength", "(I)I"⟩, 2) := ⟨⟨by decide +kernel, by decide +kernel⟩, List.mem_of_getElem? (i := 200) (by decide +kernel), List.mem_of_getElem? (i := 531) (by decide +kernel), List.mem_of_getElem? (i := 532) (by decide +kernel)⟩
theorem lw_p10 : lw_okq (⟨"SlideMills$Packer", "putTokenAt", "(IILSlideMills$Sack;)I"⟩, 2) := ⟨⟨by decide +kernel, by decide +kernel⟩, List.mem_of_getElem? (i := 200) (by decide +kernel), List.mem_of_getElem? (i := 535) (by decide +kernel), List.mem_of_getElem? (i := 536) (by decide +kernel)⟩
theorem lw_p11 : lw_okq (⟨"SlideMills$Packer", "packByLongest", "(LSlideMills$Sack;Z)V"⟩, 2) := ⟨⟨by decide +kernel, by decide +kernel⟩, List.mem_of_getElem? (i := 200) (by decide +kernel), List.mem_of_getElem? (i := 548) (by decide +kernel), List.mem_of_getElem? (i := 549) (by decide +kernel)⟩
theorem lw_p12 : lw_okq (⟨"SlideMills", "hashTokens", "(J)J"⟩, 9) := ⟨⟨by decide +kernel, by decide +kernel⟩, List.mem_of_getElem? (i := 22) (by decide +kernel), List.mem_of_getElem? (i := 552) (by decide +kernel), List.mem_of_getElem? (i := 553) (by decide +kernel)⟩
theorem lw_p13 : lw_okq (⟨"SlideMills", "hashRepeats", "(J)J"⟩, 9) := ⟨⟨by decide +kernel, by decide +kernel⟩, List.mem_of_getElem? (i := 22) (by decide +kernel), List.mem_of_getElem? (i := 559) (by decide +kernel), List.mem_of_getElem? (i := 560) (by decide +kernel)⟩
theorem lw_p14 : lw_okq (⟨"SlideMills$Dictionary", "note", "(II)V"⟩, 3) := ⟨⟨by decide +kernel, by decide +kernel⟩, List.mem_of_getElem? (i := 171) (by decide +kernel), List.mem_of_getElem? (i := 568) (by decide +kernel), List.mem_of_getElem? (i := 569) (by decide +kernel)⟩
theorem lw_p15 : lw_okq (⟨"SlideMills", "hashPairs", "(J)J"⟩, 9) := ⟨⟨by decide +kernel, by decide +kernel⟩, List.mem_of_getElem? (i := 22) (by decide +kernel), List.mem_of_getElem? (i := 582) (by decide +kernel), List.mem_of_getElem? (i := 583) (by decide +kernel)⟩
def lw_privs_1 : List (MethodName × Nat) := [(⟨"SlideMills$Unpacking", "whyWrong", "(II)I"⟩, 3), (⟨"SlideMills$Unpacking", "unpackToken", "(LSlideMills$Sack;I)V"⟩, 3), (⟨"SlideMills$Packer", "setCost", "(II)V"⟩, 2), (⟨"SlideMills$Packer", "costAt", "(I)I"⟩, 2), (⟨"SlideMills$Packer", "lower", "(II)V"⟩, 2), (⟨"SlideMills", "hashText", "(J)J"⟩, 9), (⟨"SlideMills", "hashSack", "(J)J"⟩, 9), (⟨"SlideMills", "hashCosts", "(J)J"⟩, 9), (⟨"SlideMills$Packer", "packCheaply", "(LSlideMills$Sack;)V"⟩, 2), (⟨"SlideMills$Packer", "cheapestLength", "(I)I"⟩, 2), (⟨"SlideMills$Packer", "putTokenAt", "(IILSlideMills$Sack;)I"⟩, 2), (⟨"SlideMills$Packer", "packByLongest", "(LSlideMills$Sack;Z)V"⟩, 2), (⟨"SlideMills", "hashTokens", "(J)J"⟩, 9), (⟨"SlideMills", "hashRepeats", "(J)J"⟩, 9), (⟨"SlideMills$Dictionary", "note", "(II)V"⟩, 3), (⟨"SlideMills", "hashPairs", "(J)J"⟩, 9)]
theorem lw_r1 : ∀ q ∈ lw_privs_1, lw_okq q := List.forall_mem_cons.mpr ⟨lw_p0, List.forall_mem_cons.mpr ⟨lw_p1, List.forall_mem_cons.mpr ⟨lw_p2, List.forall_mem_cons.mpr ⟨lw_p3, List.forall_mem_cons.mpr ⟨lw_p4, List.forall_mem_cons.mpr ⟨lw_p5, List.forall_mem_cons.mpr ⟨lw_p6, List.forall_mem_cons.mpr ⟨lw_p7, List.forall_mem_cons.mpr ⟨lw_p8, List.forall_mem_cons.mpr ⟨lw_p9, List.forall_mem_cons.mpr ⟨lw_p10, List.forall_mem_cons.mpr ⟨lw_p11, List.forall_mem_cons.mpr ⟨lw_p12, List.forall_mem_cons.mpr ⟨lw_p13, List.forall_mem_cons.mpr ⟨lw_p14, List.forall_mem_cons.mpr ⟨lw_p15, fun _ h => absurd h List.not_mem_nil⟩⟩⟩⟩⟩⟩⟩⟩⟩⟩⟩⟩⟩⟩⟩⟩
theorem lw_p16 : lw_okq (⟨"SlideMills", "hashStop", "(J)J"⟩, 9) := ⟨⟨by decide +kernel, by decide +kernel⟩, List.mem_of_getElem? (i := 22) (by decide +kernel), List.mem_of_getElem? (i := 598) (by decide +kernel), List.mem_of_getElem? (i := 599) (by decide +kernel)⟩
theorem lw_p17 : lw_okq (⟨"SlideMills", "hashBuffer", "(J)J"⟩, 9) := ⟨⟨by decide +kernel, by decide +kernel⟩, List.mem_of_getElem? (i := 22) (by decide +kernel), List.mem_of_getElem? (i := 610) (by decide +kernel), List.mem_of_getElem? (i := 611) (by decide +kernel)⟩
theorem lw_p18 : lw_okq (⟨"java/lang/Throwable", "fillInStackTrace", "(I)Ljava/lang/Throwable;"⟩, 6) := ⟨⟨by decide +kernel, by decide +kernel⟩, List.mem_of_getElem? (i := 665) (by decide +kernel), List.mem_of_getElem? (i := 663) (by decide +kernel), List.mem_of_getElem? (i := 664) (by decide +kernel)⟩
theorem lw_p19 : lw_okq (⟨"SlideMills", "doPart", "(I)I"⟩, 9) := ⟨⟨by decide +kernel, by decide +kernel⟩, List.mem_of_getElem? (i := 22) (by decide +kernel), List.mem_of_getElem? (i := 859) (by decide +kernel), List.mem_of_getElem? (i := 860) (by decide +kernel)⟩
theorem lw_p20 : lw_okq (⟨"SlideMills", "putLetters", "(II)I"⟩, 9) := ⟨⟨by decide +kernel, by decide +kernel⟩, List.mem_of_getElem? (i := 22) (by decide +kernel), List.mem_of_getElem? (i := 867) (by decide +kernel), List.mem_of_getElem? (i := 868) (by decide +kernel)⟩
theorem lw_p21 : lw_okq (⟨"SlideMills", "unpackIfPossible", "()I"⟩, 9) := ⟨⟨by decide +kernel, by decide +kernel⟩, List.mem_of_getElem? (i := 22) (by decide +kernel), List.mem_of_getElem? (i := 871) (by decide +kernel), List.mem_of_getElem? (i := 872) (by decide +kernel)⟩
theorem lw_p22 : lw_okq (⟨"SlideMills", "putToken", "(II)I"⟩, 9) := ⟨⟨by decide +kernel, by decide +kernel⟩, List.mem_of_getElem? (i := 22) (by decide +kernel), List.mem_of_getElem? (i := 875) (by decide +kernel), List.mem_of_getElem? (i := 876) (by decide +kernel)⟩
theorem lw_p23 : lw_okq (⟨"SlideMillsModel", "asks", "(Z)Z"⟩, 20) := ⟨⟨by decide +kernel, by decide +kernel⟩, List.mem_of_getElem? (i := 1033) (by decide +kernel), List.mem_of_getElem? (i := 1109) (by decide +kernel), List.mem_of_getElem? (i := 1110) (by decide +kernel)⟩
theorem lw_p24 : lw_okq (⟨"SlideMillsModel", "says", "(I)I"⟩, 20) := ⟨⟨by decide +kernel, by decide +kernel⟩, List.mem_of_getElem? (i := 1033) (by decide +kernel), List.mem_of_getElem? (i := 1117) (by decide +kernel), List.mem_of_getElem? (i := 1118) (by decide +kernel)⟩
theorem lw_p25 : lw_okq (⟨"SlideMillsModel", "record", "()V"⟩, 20) := ⟨⟨by decide +kernel, by decide +kernel⟩, List.mem_of_getElem? (i := 1033) (by decide +kernel), List.mem_of_getElem? (i := 1125) (by decide +kernel), List.mem_of_getElem? (i := 1126) (by decide +kernel)⟩
theorem lw_p26 : lw_okq (⟨"SlideMillsModel", "asksThen", "(ZI)Z"⟩, 20) := ⟨⟨by decide +kernel, by decide +kernel⟩, List.mem_of_getElem? (i := 1033) (by decide +kernel), List.mem_of_getElem? (i := 1140) (by decide +kernel), List.mem_of_getElem? (i := 1141) (by decide +kernel)⟩
theorem lw_p27 : lw_okq (⟨"SlideMillsModel", "isPlace", "(I)Z"⟩, 20) := ⟨⟨by decide +kernel, by decide +kernel⟩, List.mem_of_getElem? (i := 1033) (by decide +kernel), List.mem_of_getElem? (i := 1148) (by decide +kernel), List.mem_of_getElem? (i := 1149) (by decide +kernel)⟩
theorem lw_p28 : lw_okq (⟨"SlideMillsModel", "empties", "(III)I"⟩, 20) := ⟨⟨by decide +kernel, by decide +kernel⟩, List.mem_of_getElem? (i := 1033) (by decide +kernel), List.mem_of_getElem? (i := 1156) (by decide +kernel), List.mem_of_getElem? (i := 1157) (by decide +kernel)⟩
theorem lw_p29 : lw_okq (⟨"SlideMillsModel", "sets", "(IIII)I"⟩, 20) := ⟨⟨by decide +kernel, by decide +kernel⟩, List.mem_of_getElem? (i := 1033) (by decide +kernel), List.mem_of_getElem? (i := 1164) (by decide +kernel), List.mem_of_getElem? (i := 1165) (by decide +kernel)⟩
theorem lw_p30 : lw_okq (⟨"SlideMillsModel", "packNow", "(I)I"⟩, 20) := ⟨⟨by decide +kernel, by decide +kernel⟩, List.mem_of_getElem? (i := 1033) (by decide +kernel), List.mem_of_getElem? (i := 1188) (by decide +kernel), List.mem_of_getElem? (i := 1189) (by decide +kernel)⟩
theorem lw_p31 : lw_okq (⟨"SlideMillsModel", "packs", "(I)V"⟩, 20) := ⟨⟨by decide +kernel, by decide +kernel⟩, List.mem_of_getElem? (i := 1033) (by decide +kernel), List.mem_of_getElem? (i := 1192) (by decide +kernel), List.mem_of_getElem? (i := 1193) (by decide +kernel)⟩
def lw_privs_2 : List (MethodName × Nat) := [(⟨"SlideMills", "hashStop", "(J)J"⟩, 9), (⟨"SlideMills", "hashBuffer", "(J)J"⟩, 9), (⟨"java/lang/Throwable", "fillInStackTrace", "(I)Ljava/lang/Throwable;"⟩, 6), (⟨"SlideMills", "doPart", "(I)I"⟩, 9), (⟨"SlideMills", "putLetters", "(II)I"⟩, 9), (⟨"SlideMills", "unpackIfPossible", "()I"⟩, 9), (⟨"SlideMills", "putToken", "(II)I"⟩, 9), (⟨"SlideMillsModel", "asks", "(Z)Z"⟩, 20), (⟨"SlideMillsModel", "says", "(I)I"⟩, 20), (⟨"SlideMillsModel", "record", "()V"⟩, 20), (⟨"SlideMillsModel", "asksThen", "(ZI)Z"⟩, 20), (⟨"SlideMillsModel", "isPlace", "(I)Z"⟩, 20), (⟨"SlideMillsModel", "empties", "(III)I"⟩, 20), (⟨"SlideMillsModel", "sets", "(IIII)I"⟩, 20), (⟨"SlideMillsModel", "packNow", "(I)I"⟩, 20), (⟨"SlideMillsModel", "packs", "(I)V"⟩, 20)]
theorem lw_r2 : ∀ q ∈ lw_privs_2, lw_okq q := List.forall_mem_cons.mpr ⟨lw_p16, List.forall_mem_cons.mpr ⟨lw_p17, List.forall_mem_cons.mpr ⟨lw_p18, List.forall_mem_cons.mpr ⟨lw_p19, List.forall_mem_cons.mpr ⟨lw_p20, List.forall_mem_cons.mpr ⟨lw_p21, List.forall_mem_cons.mpr ⟨lw_p22, List.forall_mem_cons.mpr ⟨lw_p23, List.forall_mem_cons.mpr ⟨lw_p24, List.forall_mem_cons.mpr ⟨lw_p25, List.forall_mem_cons.mpr ⟨lw_p26, List.forall_mem_cons.mpr ⟨lw_p27, List.forall_mem_cons.mpr ⟨lw_p28, List.forall_mem_cons.mpr ⟨lw_p29, List.forall_mem_cons.mpr ⟨lw_p30, List.forall_mem_cons.mpr ⟨lw_p31, fun _ h => absurd h List.not_mem_nil⟩⟩⟩⟩⟩⟩⟩⟩⟩⟩⟩⟩⟩⟩⟩⟩
theorem lw_p32 : lw_okq (⟨"SlideMillsModel", "costsToEnd", "(I)V"⟩, 20) := ⟨⟨by decide +kernel, by decide +kernel⟩, List.mem_of_getElem? (i := 1033) (by decide +kernel), List.mem_of_getElem? (i := 1196) (by decide +kernel), List.mem_of_getElem? (i := 1197) (by decide +kernel)⟩
theorem lw_p33 : lw_okq (⟨"SlideMillsModel", "longestAt", "(II)I"⟩, 20) := ⟨⟨by decide +kernel, by decide +kernel⟩, List.mem_of_getElem? (i := 1033) (by decide +kernel), List.mem_of_getElem? (i := 1200) (by decide +kernel), List.mem_of_getElem? (i := 1201) (by decide +kernel)⟩
theorem lw_p34 : lw_okq (⟨"SlideMillsModel", "alike", "(II)I"⟩, 20) := ⟨⟨by decide +kernel, by decide +kernel⟩, List.mem_of_getElem? (i := 1033) (by decide +kernel), List.mem_of_getElem? (i := 1204) (by decide +kernel), List.mem_of_getElem? (i := 1205) (by decide +kernel)⟩
theorem lw_p35 : lw_okq (⟨"SlideMillsModel", "lengthBy", "(II)I"⟩, 20) := ⟨⟨by decide +kernel, by decide +kernel⟩, List.mem_of_getElem? (i := 1033) (by decide +kernel), List.mem_of_getElem? (i := 1208) (by decide +kernel), List.mem_of_getElem? (i := 1209) (by decide +kernel)⟩
theorem lw_p36 : lw_okq (⟨"SlideMillsModel", "distanceFor", "(II)I"⟩, 20) := ⟨⟨by decide +kernel, by decide +kernel⟩, List.mem_of_getElem? (i := 1033) (by decide +kernel), List.mem_of_getElem? (i := 1212) (by decide +kernel), List.mem_of_getElem? (i := 1213) (by decide +kernel)⟩
theorem lw_p37 : lw_okq (⟨"SlideMillsModel", "unpacks", "()V"⟩, 20) := ⟨⟨by decide +kernel, by decide +kernel⟩, List.mem_of_getElem? (i := 1033) (by decide +kernel), List.mem_of_getElem? (i := 1220) (by decide +kernel), List.mem_of_getElem? (i := 1221) (by decide +kernel)⟩
theorem lw_p38 : lw_okq (⟨"SlideMillsModel", "distance", "(I)I"⟩, 20) := ⟨⟨by decide +kernel, by decide +kernel⟩, List.mem_of_getElem? (i := 1033) (by decide +kernel), List.mem_of_getElem? (i := 1224) (by decide +kernel), List.mem_of_getElem? (i := 1225) (by decide +kernel)⟩
theorem lw_p39 : lw_okq (⟨"SlideMillsModel", "length", "(I)I"⟩, 20) := ⟨⟨by decide +kernel, by decide +kernel⟩, List.mem_of_getElem? (i := 1033) (by decide +kernel), List.mem_of_getElem? (i := 1228) (by decide +kernel), List.mem_of_getElem? (i := 1229) (by decide +kernel)⟩
theorem lw_p40 : lw_okq (⟨"SlideMillsModel", "unpackNow", "()I"⟩, 20) := ⟨⟨by decide +kernel, by decide +kernel⟩, List.mem_of_getElem? (i := 1033) (by decide +kernel), List.mem_of_getElem? (i := 1232) (by decide +kernel), List.mem_of_getElem? (i := 1233) (by decide +kernel)⟩
theorem lw_p41 : lw_okq (⟨"SlideMillsModel", "puts", "(II)I"⟩, 20) := ⟨⟨by decide +kernel, by decide +kernel⟩, List.mem_of_getElem? (i := 1033) (by decide +kernel), List.mem_of_getElem? (i := 1240) (by decide +kernel), List.mem_of_getElem? (i := 1241) (by decide +kernel)⟩
theorem lw_p42 : lw_okq (⟨"SlideMillsModel", "reads", "()I"⟩, 20) := ⟨⟨by decide +kernel, by decide +kernel⟩, List.mem_of_getElem? (i := 1033) (by decide +kernel), List.mem_of_getElem? (i := 1268) (by decide +kernel), List.mem_of_getElem? (i := 1269) (by decide +kernel)⟩
theorem lw_p43 : lw_okq (⟨"SlideMillsModel", "readPart", "()V"⟩, 20) := ⟨⟨by decide +kernel, by decide +kernel⟩, List.mem_of_getElem? (i := 1033) (by decide +kernel), List.mem_of_getElem? (i := 1272) (by decide +kernel), List.mem_of_getElem? (i := 1273) (by decide +kernel)⟩
theorem lw_p44 : lw_okq (⟨"SlideMillsModel", "sign", "()I"⟩, 20) := ⟨⟨by decide +kernel, by decide +kernel⟩, List.mem_of_getElem? (i := 1033) (by decide +kernel), List.mem_of_getElem? (i := 1276) (by decide +kernel), List.mem_of_getElem? (i := 1277) (by decide +kernel)⟩
theorem lw_p45 : lw_okq (⟨"SlideMillsModel", "needs", "(Z)V"⟩, 20) := ⟨⟨by decide +kernel, by decide +kernel⟩, List.mem_of_getElem? (i := 1033) (by decide +kernel), List.mem_of_getElem? (i := 1280) (by decide +kernel), List.mem_of_getElem? (i := 1281) (by decide +kernel)⟩
theorem lw_p46 : lw_okq (⟨"SlideMillsModel", "number", "(I)I"⟩, 20) := ⟨⟨by decide +kernel, by decide +kernel⟩, List.mem_of_getElem? (i := 1033) (by decide +kernel), List.mem_of_getElem? (i := 1284) (by decide +kernel), List.mem_of_getElem? (i := 1285) (by decide +kernel)⟩
theorem lw_p47 : lw_okq (⟨"SlideMillsModel", "whyNot", "(III)I"⟩, 20) := ⟨⟨by decide +kernel, by decide +kernel⟩, List.mem_of_getElem? (i := 1033) (by decide +kernel), List.mem_of_getElem? (i := 1292) (by decide +kernel), List.mem_of_getElem? (i := 1293) (by decide +kernel)⟩
def lw_privs_3 : List (MethodName × Nat) := [(⟨"SlideMillsModel", "costsToEnd", "(I)V"⟩, 20), (⟨"SlideMillsModel", "longestAt", "(II)I"⟩, 20), (⟨"SlideMillsModel", "alike", "(II)I"⟩, 20), (⟨"SlideMillsModel", "lengthBy", "(II)I"⟩, 20), (⟨"SlideMillsModel", "distanceFor", "(II)I"⟩, 20), (⟨"SlideMillsModel", "unpacks", "()V"⟩, 20), (⟨"SlideMillsModel", "distance", "(I)I"⟩, 20), (⟨"SlideMillsModel", "length", "(I)I"⟩, 20), (⟨"SlideMillsModel", "unpackNow", "()I"⟩, 20), (⟨"SlideMillsModel", "puts", "(II)I"⟩, 20), (⟨"SlideMillsModel", "reads", "()I"⟩, 20), (⟨"SlideMillsModel", "readPart", "()V"⟩, 20), (⟨"SlideMillsModel", "sign", "()I"⟩, 20), (⟨"SlideMillsModel", "needs", "(Z)V"⟩, 20), (⟨"SlideMillsModel", "number", "(I)I"⟩, 20), (⟨"SlideMillsModel", "whyNot", "(III)I"⟩, 20)]
theorem lw_r3 : ∀ q ∈ lw_privs_3, lw_okq q := List.forall_mem_cons.mpr ⟨lw_p32, List.forall_mem_cons.mpr ⟨lw_p33, List.forall_mem_cons.mpr ⟨lw_p34, List.forall_mem_cons.mpr ⟨lw_p35, List.forall_mem_cons.mpr ⟨lw_p36, List.forall_mem_cons.mpr ⟨lw_p37, List.forall_mem_cons.mpr ⟨lw_p38, List.forall_mem_cons.mpr ⟨lw_p39, List.forall_mem_cons.mpr ⟨lw_p40, List.forall_mem_cons.mpr ⟨lw_p41, List.forall_mem_cons.mpr ⟨lw_p42, List.forall_mem_cons.mpr ⟨lw_p43, List.forall_mem_cons.mpr ⟨lw_p44, List.forall_mem_cons.mpr ⟨lw_p45, List.forall_mem_cons.mpr ⟨lw_p46, List.forall_mem_cons.mpr ⟨lw_p47, fun _ h => absurd h List.not_mem_nil⟩⟩⟩⟩⟩⟩⟩⟩⟩⟩⟩⟩⟩⟩⟩⟩
theorem lw_p48 : lw_okq (⟨"SlideMillsModel", "does", "(III)V"⟩, 20) := ⟨⟨by decide +kernel, by decide +kernel⟩, List.mem_of_getElem? (i := 1033) (by decide +kernel), List.mem_of_getElem? (i := 1296) (by decide +kernel), List.mem_of_getElem? (i := 1297) (by decide +kernel)⟩
theorem lw_p49 : lw_okq (⟨"SlideMillsModel", "isToken", "(I)Z"⟩, 20) := ⟨⟨by decide +kernel, by decide +kernel⟩, List.mem_of_getElem? (i := 1033) (by decide +kernel), List.mem_of_getElem? (i := 1340) (by decide +kernel), List.mem_of_getElem? (i := 1341) (by decide +kernel)⟩
theorem lw_p50 : lw_okq (⟨"SlideMillsModel", "cost", "()I"⟩, 20) := ⟨⟨by decide +kernel, by decide +kernel⟩, List.mem_of_getElem? (i := 1033) (by decide +kernel), List.mem_of_getElem? (i := 1360) (by decide +kernel), List.mem_of_getElem? (i := 1361) (by decide +kernel)⟩
theorem lw_p51 : lw_okq (⟨"SlideMillsModel", "stands", "()I"⟩, 20) := ⟨⟨by decide +kernel, by decide +kernel⟩, List.mem_of_getElem? (i := 1033) (by decide +kernel), List.mem_of_getElem? (i := 1368) (by decide +kernel), List.mem_of_getElem? (i := 1369) (by decide +kernel)⟩
theorem lw_p52 : lw_okq (⟨"SlideMillsModel", "forText", "()Z"⟩, 20) := ⟨⟨by decide +kernel, by decide +kernel⟩, List.mem_of_getElem? (i := 1033) (by decide +kernel), List.mem_of_getElem? (i := 1384) (by decide +kernel), List.mem_of_getElem? (i := 1385) (by decide +kernel)⟩
theorem lw_p53 : lw_okq (⟨"SlideMillsModel", "longestByPairs", "(I)I"⟩, 20) := ⟨⟨by decide +kernel, by decide +kernel⟩, List.mem_of_getElem? (i := 1033) (by decide +kernel), List.mem_of_getElem? (i := 1396) (by decide +kernel), List.mem_of_getElem? (i := 1397) (by decide +kernel)⟩
theorem lw_p54 : lw_okq (⟨"SlideMillsModel", "pairAt", "(I)I"⟩, 20) := ⟨⟨by decide +kernel, by decide +kernel⟩, List.mem_of_getElem? (i := 1033) (by decide +kernel), List.mem_of_getElem? (i := 1400) (by decide +kernel), List.mem_of_getElem? (i := 1401) (by decide +kernel)⟩
theorem lw_p55 : lw_okq (⟨"SlideMillsModel", "distanceAt", "(I)I"⟩, 20) := ⟨⟨by decide +kernel, by decide +kernel⟩, List.mem_of_getElem? (i := 1033) (by decide +kernel), List.mem_of_getElem? (i := 1408) (by decide +kernel), List.mem_of_getElem? (i := 1409) (by decide +kernel)⟩
theorem lw_p56 : lw_okq (⟨"SlideMillsModel", "rowCost", "(I)I"⟩, 20) := ⟨⟨by decide +kernel, by decide +kernel⟩, List.mem_of_getElem? (i := 1033) (by decide +kernel), List.mem_of_getElem? (i := 1416) (by decide +kernel), List.mem_of_getElem? (i := 1417) (by decide +kernel)⟩
theorem lw_p57 : lw_okq (⟨"SlideMillsModel", "cheapest", "(I)I"⟩, 20) := ⟨⟨by decide +kernel, by decide +kernel⟩, List.mem_of_getElem? (i := 1033) (by decide +kernel), List.mem_of_getElem? (i := 1428) (by decide +kernel), List.mem_of_getElem? (i := 1429) (by decide +kernel)⟩
theorem lw_p58 : lw_okq (⟨"SlideMillsModel", "fromBeginning", "()I"⟩, 20) := ⟨⟨by decide +kernel, by decide +kernel⟩, List.mem_of_getElem? (i := 1033) (by decide +kernel), List.mem_of_getElem? (i := 1436) (by decide +kernel), List.mem_of_getElem? (i := 1437) (by decide +kernel)⟩
theorem lw_p59 : lw_okq (⟨"SlideMillsModel", "often", "(I)I"⟩, 20) := ⟨⟨by decide +kernel, by decide +kernel⟩, List.mem_of_getElem? (i := 1033) (by decide +kernel), List.mem_of_getElem? (i := 1449) (by decide +kernel), List.mem_of_getElem? (i := 1450) (by decide +kernel)⟩
theorem lw_p60 : lw_okq (⟨"SlideMillsModel", "lastOf", "(I)I"⟩, 20) := ⟨⟨by decide +kernel, by decide +kernel⟩, List.mem_of_getElem? (i := 1033) (by decide +kernel), List.mem_of_getElem? (i := 1457) (by decide +kernel), List.mem_of_getElem? (i := 1458) (by decide +kernel)⟩
theorem lw_p61 : lw_okq (⟨"SlideMillsModel", "frequent", "()I"⟩, 20) := ⟨⟨by decide +kernel, by decide +kernel⟩, List.mem_of_getElem? (i := 1033) (by decide +kernel), List.mem_of_getElem? (i := 1465) (by decide +kernel), List.mem_of_getElem? (i := 1466) (by decide +kernel)⟩
theorem lw_p62 : lw_okq (⟨"SlideMillsModel", "share", "()D"⟩, 20) := ⟨⟨by decide +kernel, by decide +kernel⟩, List.mem_of_getElem? (i := 1033) (by decide +kernel), List.mem_of_getElem? (i := 1473) (by decide +kernel), List.mem_of_getElem? (i := 1474) (by decide +kernel)⟩
theorem lw_p63 : lw_okq (⟨"SlideMillsModel", "adds", "(J)V"⟩, 20) := ⟨⟨by decide +kernel, by decide +kernel⟩, List.mem_of_getElem? (i := 1033) (by decide +kernel), List.mem_of_getElem? (i := 1482) (by decide +kernel), List.mem_of_getElem? (i := 1483) (by decide +kernel)⟩
def lw_privs_4 : List (MethodName × Nat) := [(⟨"SlideMillsModel", "does", "(III)V"⟩, 20), (⟨"SlideMillsModel", "isToken", "(I)Z"⟩, 20), (⟨"SlideMillsModel", "cost", "()I"⟩, 20), (⟨"SlideMillsModel", "stands", "()I"⟩, 20), (⟨"SlideMillsModel", "forText", "()Z"⟩, 20), (⟨"SlideMillsModel", "longestByPairs", "(I)I"⟩, 20), (⟨"SlideMillsModel", "pairAt", "(I)I"⟩, 20), (⟨"SlideMillsModel", "distanceAt", "(I)I"⟩, 20), (⟨"SlideMillsModel", "rowCost", "(I)I"⟩, 20), (⟨"SlideMillsModel", "cheapest", "(I)I"⟩, 20), (⟨"SlideMillsModel", "fromBeginning", "()I"⟩, 20), (⟨"SlideMillsModel", "often", "(I)I"⟩, 20), (⟨"SlideMillsModel", "lastOf", "(I)I"⟩, 20), (⟨"SlideMillsModel", "frequent", "()I"⟩, 20), (⟨"SlideMillsModel", "share", "()D"⟩, 20), (⟨"SlideMillsModel", "adds", "(J)V"⟩, 20)]
theorem lw_r4 : ∀ q ∈ lw_privs_4, lw_okq q := List.forall_mem_cons.mpr ⟨lw_p48, List.forall_mem_cons.mpr ⟨lw_p49, List.forall_mem_cons.mpr ⟨lw_p50, List.forall_mem_cons.mpr ⟨lw_p51, List.forall_mem_cons.mpr ⟨lw_p52, List.forall_mem_cons.mpr ⟨lw_p53, List.forall_mem_cons.mpr ⟨lw_p54, List.forall_mem_cons.mpr ⟨lw_p55, List.forall_mem_cons.mpr ⟨lw_p56, List.forall_mem_cons.mpr ⟨lw_p57, List.forall_mem_cons.mpr ⟨lw_p58, List.forall_mem_cons.mpr ⟨lw_p59, List.forall_mem_cons.mpr ⟨lw_p60, List.forall_mem_cons.mpr ⟨lw_p61, List.forall_mem_cons.mpr ⟨lw_p62, List.forall_mem_cons.mpr ⟨lw_p63, fun _ h => absurd h List.not_mem_nil⟩⟩⟩⟩⟩⟩⟩⟩⟩⟩⟩⟩⟩⟩⟩⟩
def lw_privs : List (MethodName × Nat) := lw_privs_1 ++ (lw_privs_2 ++ (lw_privs_3 ++ (lw_privs_4)))
def lw_tbl : List Cond := k2_sels lw_privs ++ tables_1
theorem lw_privs_ok : ∀ q ∈ lw_privs, lw_okq q := by
  show ∀ q ∈ lw_privs_1 ++ (lw_privs_2 ++ (lw_privs_3 ++ (lw_privs_4))), lw_okq q
  exact List.forall_mem_append.mpr ⟨lw_r1, List.forall_mem_append.mpr ⟨lw_r2, List.forall_mem_append.mpr ⟨lw_r3, lw_r4⟩⟩⟩
/-- the streams that the claim lets the run draw from -/
abbrev lw_cs : List Choice := [Jvm.Choice.named "NaN.bits"]
theorem lw_bits : nanBits ∈ lw_cs := by first | decide | exact List.mem_cons_self | simp [lw_cs, nanBits]
-- ===== end of PART A; then your names; then what follows =====
/-! ===== BEGIN words of one list among another's, by their places ===== -/
theorem goodIn_r {big : List Cond} (ws : List Cond) (ps : List Nat) (hp : ws = ps.filterMap (fun i => big[i]?)) (h : ws.all goodWord = true) : GoodIn big ws := by
  intro w hw
  have h1 := List.all_eq_true.mp h w hw
  rw [hp] at hw
  obtain ⟨i, -, hi⟩ := List.mem_filterMap.mp hw
  have hm : w ∈ big := by first | exact List.mem_of_getElem? hi | exact List.getElem?_mem hi
  exact ⟨hm, good_of_word h1⟩
theorem goodIn_app {big a b : List Cond} (ha : GoodIn big a) (hb : GoodIn big b) : GoodIn big (a ++ b) := fun w h => (List.mem_append.mp h).elim (ha w) (hb w)
theorem goodIn_ca {big a b : List Cond} {c : Cond} (ha : GoodIn big (c :: a)) (hb : GoodIn big b) : GoodIn big (c :: (a ++ b)) := fun w h => (List.mem_cons.mp h).elim (fun e => ha w (List.mem_cons.mpr (Or.inl e))) (fun h => (List.mem_append.mp h).elim (fun h => ha w (List.mem_cons.mpr (Or.inr h))) (hb w))
theorem goodIn_sub {big ws : List Cond} (hm : ∀ w ∈ ws, w ∈ big) (h : ws.all goodWord = true) : GoodIn big ws := fun w hw => ⟨hm w hw, good_of_word (List.all_eq_true.mp h w hw)⟩
/-! ===== END ===== -/

/-! ===== BEGIN exceptions that leave a method, and their catching by the caller (launches without stack traces) ===== -/
section VXA
/-! The laws vx_back, vx_callV, vx_callS, vx_callSW, vx_throw0, vx_throwS follow proofs of the library, with one case more: JvmDerived/Free/Laws.lean (Back.of_free), Shelf42/LK1.lean (callV, callS), Shelf/KitTraced.lean (throwNew0V, throwNewS). -/
/-- where a method has thrown q: the class by its name, the cell, what was written, the world -/
def vx_T (XC : String → State → State → Prop) (st : State) (q : Addr) (t : State) (mc ms : Nat) (free : Addr → Prop) : Prop :=
  ∃ (E : String) (ce : Cell) (L : List Loc), XC E st t ∧ t.heap[q]? = some ce ∧ ce.vm = .none ∧ st.vm.findClass E = some ce.cls ∧ st.WarmedH t.vm ∧ st.sameButNew ({ t with vm := st.vm } : State) L mc ms ∧ ∀ z ∈ L, free z.base
def vx_Q (Qc : Array Value → State → Outcome → State → Prop) (XC : String → State → State → Prop) (mc ms : Nat) (free : Addr → Prop) : Array Value → State → Outcome → State → Prop := fun a st o t =>
  (Qc a st o t ∧ ∃ L, FrameEnd st o t L mc ms ∧ ∀ q ∈ L, free q.base) ∨ ∃ q, o = .threw q ∧ vx_T XC st q t mc ms free
/-- a callee that returns or throws -/
def vx_Met (l : Launch) (y : MethodName) (ws : List Cond) (rm : Room) (Pc : Array Value → State → Prop) (Qc : Array Value → State → Outcome → State → Prop) (XC : String → State → State → Prop) (mc ms : Nat) (free : Addr → Prop) : Prop :=
  MetFree l y (headSpec ws rm) Pc (fun _ _ _ _ _ => True) (vx_Q Qc XC mc ms free)
def vx_Post (XC : String → State → State → Prop) (mc ms : Nat) (free : Addr → Prop) : Pt → Array Value → Addr → Pt → Prop := fun A a q B =>
  ∃ (g : JFrame) (mk : MethodId) (t : State) (L : List Loc) (E : String) (ce : Cell), B.U.heap = t.heap ∧ B.U.vm = t.vm ∧ XC E (A.U.calling g mk a) t ∧ t.heap[q]? = some ce ∧ ce.vm = .none ∧ A.U.vm.findClass E = some ce.cls ∧ B.locs = A.locs ++ L ∧ (∀ z ∈ L, free z.base) ∧ B.cells = A.cells + mc ∧ B.slots = A.slots + ms
def vx_Back (l : Launch) (R : Room) (p : Program) (e : Env) (below : List Frame) (s : State) (sargs : Array Value) (y : MethodName) (len W9 : Nat)
    (Pre : Pt → Array Value → Prop) (Post : Pt → Array Value → Option Value → Pt → Prop) (PostX : Pt → Array Value → Addr → Pt → Prop) : Prop :=
  ∀ (m : MethodId) (meth : Method) (c : Code) (A : Pt) (g : JFrame) (ig : Instr) (mk : MethodId) (a : Array Value),
    Stand p l e R s m sargs below meth c A.U A.locs A.cells A.slots → g.method = m → g.locals.size = c.maxLocals → decode c.code g.pc = .ok (ig, len) →
    2 * g.monitorRoom + (g.stack.map fun v => v.category).sum ≤ W9 → A.U.methodNamed? y = some mk → Pre A a →
    (∃ (v : Option Value) (B : Pt), Stand p l e R s m sargs below meth c B.U B.locs B.cells B.slots ∧ Post A a v B ∧
      Steps p.tables e below (doInvoke e (A.U.setTop g) [] mk a).1 (B.U.setTop { g with pc := g.pc + len, stack := v.toList ++ g.stack })) ∨
    (∃ (q : Addr) (B : Pt), Stand p l e R s m sargs below meth c B.U B.locs B.cells B.slots ∧ PostX A a q B ∧
      Steps p.tables e below (doInvoke e (A.U.setTop g) [] mk a).1 ((B.U.setTop g).pushFrame (.throwing q)))
section Payer
variable {l : Launch} {R : Room} {p : Program} {e : Env} {below : List Frame} {s : State} {sargs : Array Value} {y : MethodName} {len W9 : Nat}
theorem vx_back {ws : List Cond} {rm : Room} {Pc : Array Value → State → Prop} {Qc : Array Value → State → Outcome → State → Prop} {XC : String → State → State → Prop} {mc ms : Nat} {free : Addr → Prop} {bytes : ByteArray} {maxL : Nat} {ret : Option FieldType}
    (hM : vx_Met l y ws rm Pc Qc XC mc ms free) (hblind : FrameBlind Pc) (hrc : rm.cells = mc) (hrs : rm.slots = ms)
    (hframes : rm.frames + 1 ≤ R.frames) (hlocals : W9 + (maxL + 11) + rm.locals ≤ R.locals)
    (hws : ∀ w ∈ ws, ∀ a' U, s.WarmedH U.vm → w.before a' U = true) (hcode : Cond.code y bytes maxL ret ∈ ws) (hinit : ∀ a' U, s.WarmedH U.vm → (Cond.initialized y.cls).before a' U = true) :
    vx_Back l R p e below s sargs y len W9 (PreOf R mc ms Pc) (PostOf Qc mc ms free) (vx_Post XC mc ms free) := by
  intro m meth c A g ig mk a X hg hsize hdg hW hn hp
  have h1 : (headSpec ws rm).pre.before a A.U = true := atoms_intro fun w hw => hws w hw _ _ X.warmed
  have h2 : (Cond.code y bytes maxL ret).before a A.U = true := hws _ hcode _ _ X.warmed
  have h3 : (Cond.initialized y.cls).before a A.U = true := hinit _ _ X.warmed
  have h4 : A.cells + (headSpec ws rm).room.cells ≤ R.cells := by rw [show (headSpec ws rm).room.cells = mc from hrc]; exact hp.1
  have h5 : A.slots + (headSpec ws rm).room.slots ≤ R.slots := by rw [show (headSpec ws rm).room.slots = ms from hrs]; exact hp.2.1
  have hPc : Pc a (A.U.calling g mk a) := hblind _ _ _ _ hp.2.2
  obtain ⟨U, Ls, c0, s0⟩ := A
  dsimp only [Pt.U, Pt.locs, Pt.cells, Pt.slots] at h1 h2 h3 h4 h5 X hn hPc ⊢
  obtain ⟨methY, cY, hmY, hcY, -, hlY, -, -, -, -⟩ := Cond.code_spec hn h2
  obtain ⟨kY, hkY, -⟩ := className_of_methodNamed hn
  have hinitY : kY.init = .initialized := Cond.initialized_spec (findClass_of_methodNamed hn) hkY h3
  have h : At U g.method c below := by rw [hg]; exact X.here
  have hlocals9 : W9 + (maxL + 11) + (headSpec ws rm).room.locals ≤ R.locals := hlocals
  have happ : (headSpec ws rm).appliesLoose y e.platform (U.calling g mk a) = true :=
    Spec.appliesLoose_calling (g := g) h hdg hn hkY hinitY
      (X.room_calling (g := g) (R' := (headSpec ws rm).room) hsize hmY hcY hframes (by rw [hlY]; omega) h4 h5) h1
  obtain ⟨mid, hmid⟩ := h.above
  have hfr : (U.setTop g).frames = (.java g :: mid) ++ below := by rw [State.frames_setTop' g h.top, hmid]; rfl
  obtain ⟨o, s₂, hsteps, -, hend, hq⟩ := Steps.callFree hM p X.admits X.cas X.clock (acts := []) hfr happ hPc trivial
  have hq' : vx_Q Qc XC mc ms free a (U.calling g mk a) o s₂ := hq
  rw [State.frames_setTop' g h.top] at hend
  obtain ⟨g₀, hg0⟩ := Option.isSome_iff_exists.mp h.top
  obtain ⟨r, hr⟩ := State.topJava?_eq_some.mp hg0
  have hr' : (({ U with heap := s₂.heap, slotsUsed := s₂.slotsUsed } : State).setVm s₂.vm).frames = .java g₀ :: r := hr
  rcases hq' with ⟨hqc, L, hfe, hL⟩ | ⟨q, rfl, E, ce, L, hx, hce, hcv, hcl, hW₂, hsm, hL⟩
  · obtain ⟨⟨v, rfl⟩, hW₂, e2, q2, q3, q4, q5, q6⟩ := id hfe
    have e3 : s₂ = ({ (U.calling g mk a).setFrames s₂.frames with heap := s₂.heap, slotsUsed := s₂.slotsUsed } : State).setVm s₂.vm := by
      have : s₂ = ({ s₂ with vm := (U.calling g mk a).vm } : State).setVm s₂.vm := rfl
      rw [e2] at this
      exact this
    obtain ⟨c₂, i₂, len₂, hc₂, hd₂, hf₂⟩ := hend
    have hW' : U.WarmedH s₂.vm := hW₂
    have hcc : c₂ = c := by
      have h1 : s₂.code? g.method = U.code? g.method := by
        rw [State.code?_eq, State.code?_eq, hW'.alike.method?]
      exact Option.some.inj (hc₂.symm.trans (h1.trans h.code))
    subst hcc
    have hlen : len₂ = len := by rw [hdg] at hd₂; cases hd₂; rfl
    subst hlen
    have hs₂ : s₂ = (({ U with heap := s₂.heap, slotsUsed := s₂.slotsUsed } : State).setVm s₂.vm).setTop { g with pc := g.pc + len₂, stack := v.toList ++ g.stack } := by
      refine e3.trans ?_
      rw [hf₂, State.calling_eq h.top, State.setFrames_setFrames, State.setTop_of_frames _ hr', hr]
      rfl
    have hsame : U.sameButNew ({ U with heap := s₂.heap, slotsUsed := s₂.slotsUsed } : State) L mc ms := by
      refine ⟨?_, q2, q3, q4, q5, q6⟩
      obtain ⟨t, ht, -⟩ := State.frames_cons hr
      show ({ U with heap := s₂.heap, slotsUsed := s₂.slotsUsed } : State) = { U.setFrames U.frames with heap := s₂.heap, slotsUsed := s₂.slotsUsed }
      rw [State.setFrames_self ht]
    subst hg
    refine Or.inl ⟨v, ⟨(({ U with heap := s₂.heap, slotsUsed := s₂.slotsUsed } : State).setVm s₂.vm), Ls ++ L, c0 + mc, s0 + ms⟩,
      ⟨X.admits, X.cas, X.clock, X.frames, X.room, X.hears, X.method, X.code, (X.here.setHeapUsed s₂.heap s₂.slotsUsed).setVm hW'.alike, X.tail, State.WarmedH.trans X.warmed hW', X.limits, X.bytes, X.same.trans (hsame.setVm s.vm)⟩,
      ⟨g, mk, s₂, L, rfl, rfl, hqc, rfl, hL, rfl, rfl⟩, ?_⟩
    show Steps p.tables e below _ ((({ U with heap := s₂.heap, slotsUsed := s₂.slotsUsed } : State).setVm s₂.vm).setTop { g with pc := g.pc + len₂, stack := v.toList ++ g.stack })
    rw [← hs₂]
    exact hsteps
  · obtain ⟨e2, q2, q3, q4, q5, q6⟩ := id hsm
    have e3 : s₂ = ({ (U.calling g mk a).setFrames s₂.frames with heap := s₂.heap, slotsUsed := s₂.slotsUsed } : State).setVm s₂.vm := by
      have : s₂ = ({ s₂ with vm := (U.calling g mk a).vm } : State).setVm s₂.vm := rfl
      rw [e2] at this
      exact this
    have hf₂ : s₂.frames = .throwing q :: .java g :: U.frames.tail := hend
    have hW' : U.WarmedH s₂.vm := hW₂
    have hs₂ : s₂ = ((({ U with heap := s₂.heap, slotsUsed := s₂.slotsUsed } : State).setVm s₂.vm).setTop g).pushFrame (.throwing q) := by
      refine e3.trans ?_
      rw [hf₂, State.calling_eq h.top, State.setFrames_setFrames, State.pushFrame, State.frames_setTop _ hr', State.setTop_of_frames _ hr', State.setFrames_setFrames, hr]
      rfl
    have hsame : U.sameButNew ({ U with heap := s₂.heap, slotsUsed := s₂.slotsUsed } : State) L mc ms := by
      refine ⟨?_, q2, q3, q4, q5, q6⟩
      obtain ⟨t, ht, -⟩ := State.frames_cons hr
      show ({ U with heap := s₂.heap, slotsUsed := s₂.slotsUsed } : State) = { U.setFrames U.frames with heap := s₂.heap, slotsUsed := s₂.slotsUsed }
      rw [State.setFrames_self ht]
    subst hg
    refine Or.inr ⟨q, ⟨(({ U with heap := s₂.heap, slotsUsed := s₂.slotsUsed } : State).setVm s₂.vm), Ls ++ L, c0 + mc, s0 + ms⟩,
      ⟨X.admits, X.cas, X.clock, X.frames, X.room, X.hears, X.method, X.code, (X.here.setHeapUsed s₂.heap s₂.slotsUsed).setVm hW'.alike, X.tail, State.WarmedH.trans X.warmed hW', X.limits, X.bytes, X.same.trans (hsame.setVm s.vm)⟩,
      ⟨g, mk, s₂, L, E, ce, rfl, rfl, hx, hce, hcv, hcl, rfl, hL, rfl, rfl⟩, ?_⟩
    show Steps p.tables e below _ (((({ U with heap := s₂.heap, slotsUsed := s₂.slotsUsed } : State).setVm s₂.vm).setTop g).pushFrame (.throwing q))
    rw [← hs₂]
    exact hsteps
end Payer
section Calls
variable {p : Program} {l : Launch} {e : Env} {R : Room} {s : State} {m : MethodId} {args : Array Value} {below : List Frame} {meth : Method} {c : Code} {T : State} {locs : List Loc} {cells slots : Nat}
theorem vx_callV (X : Stand p l e R s m args below meth c T locs cells slots) (hexec : p.tables.exec = Jvm.exec) {own C : String} {index : Nat} {y : MethodName} {bytes : ByteArray} {maxL : Nat} {ret : Option FieldType}
    (hown : s.vm.findClass own = some m.cls) (hlink : (Cond.methodLink own index y).before args s = true) (hinst : (Cond.instanceMethod y).before args s = true) (hsel : (Cond.selects C y y).before args s = true)
    (hcode : (Cond.code y bytes maxL ret).before args s = true) (hy : y.cls ≠ "java/lang/invoke/MethodHandle" ∧ y.cls ≠ "java/lang/invoke/VarHandle")
    {W9 : Nat} {Pre : Pt → Array Value → Prop} {Post : Pt → Array Value → Option Value → Pt → Prop} {PostX : Pt → Array Value → Addr → Pt → Prop} (hK : vx_Back l R p e below s args y 3 W9 Pre Post PostX)
    {b : Addr} {cellB : Cell} (hcell : T.heap[b]? = some cellB) (hobj : cellB.vm.isStatics = false) (hcls : s.vm.findClass C = some cellB.cls)
    {g : JFrame} (hg : g.method = m) (hsize : g.locals.size = c.maxLocals) {argsL rest : List Value} (hlen : ∀ sig, parseMethodDescriptor y.desc = some sig → argsL.length = sig.parameters.length)
    (hstack : g.stack = argsL.reverse ++ .ref b :: rest) (hW : 2 * g.monitorRoom + (rest.map fun v => v.category).sum ≤ W9) (hdg : decode c.code g.pc = .ok (.invokevirtual index, 3))
    (hpre : ∀ vm₁, s.WarmedH vm₁ → Pre ⟨T.setVm vm₁, locs, cells, slots⟩ (Value.ref b :: argsL).toArray) :
    (∃ (v : Option Value) (vm₁ : Vm) (B : Pt), s.WarmedH vm₁ ∧ Stand p l e R s m args below meth c B.U B.locs B.cells B.slots ∧ Post ⟨T.setVm vm₁, locs, cells, slots⟩ (Value.ref b :: argsL).toArray v B ∧
      ∀ target, Steps p.tables e below (B.U.setTop { g with pc := g.pc + 3, stack := v.toList ++ rest }) target → Steps p.tables e below (T.setTop g) target) ∨
    (∃ (q : Addr) (vm₁ : Vm) (B : Pt), s.WarmedH vm₁ ∧ Stand p l e R s m args below meth c B.U B.locs B.cells B.slots ∧ PostX ⟨T.setVm vm₁, locs, cells, slots⟩ (Value.ref b :: argsL).toArray q B ∧
      Steps p.tables e below (T.setTop g) ((B.U.setTop { g with stack := rest }).pushFrame (.throwing q))) := by
  obtain ⟨mk, methM, hnamed, hmethM, hstM, habM⟩ := Cond.instanceMethod_spec hinst
  obtain ⟨methM', cM, hmethM', -, -, -, -, -, -, hsigM⟩ := Cond.code_spec hnamed hcode
  cases hmethM.symm.trans hmethM'
  obtain ⟨c2, r2, m2, q1, q2, q3, q4, kP, hkP, hkPi⟩ := Cond.selects_spec hsel
  cases hcls.symm.trans q1
  cases (State.methodFound?_of_named hnamed hy).symm.trans q2
  cases hnamed.symm.trans q3
  have hselP : selectMethod e.platform s.vm cellB.cls mk = .method mk := by rw [Launch.admits_selectMethod X.admits]; exact q4
  obtain ⟨vm₁, X₁, hstep₁⟩ := X.invokevirtual hexec hown hlink hnamed hmethM hstM hkP hkPi hy (a := b) (cell := cellB) hcell
    (fun z h => by rw [h] at hobj; cases hobj) hselP hmethM habM hkP hkPi (g := g) hg (argsL := argsL) (rest := rest) (hlen _ hsigM) hstack hdg
  rcases hK m meth c ⟨T.setVm vm₁, locs, cells, slots⟩ { g with stack := rest } (.invokevirtual index) mk (Value.ref b :: argsL).toArray X₁ hg hsize hdg hW (X₁.named hnamed) (hpre vm₁ X₁.warmed) with ⟨v, B, X', hpost, hsteps⟩ | ⟨q, B, X', hpost, hsteps⟩
  · exact Or.inl ⟨v, vm₁, B, X₁.warmed, X', hpost, fun target h => hstep₁ _ fun acts => by rw [doInvoke_state]; exact hsteps.trans h⟩
  · exact Or.inr ⟨q, vm₁, B, X₁.warmed, X', hpost, hstep₁ _ fun acts => by rw [doInvoke_state]; exact hsteps⟩
theorem vx_callS (X : Stand p l e R s m args below meth c T locs cells slots) (hexec : p.tables.exec = Jvm.exec) {own : String} {index : Nat} {y : MethodName} {bytes : ByteArray} {maxL : Nat} {ret : Option FieldType}
    (hown : s.vm.findClass own = some m.cls) (hlink : (Cond.methodLink own index y).before args s = true) (hstat : (Cond.static y).before args s = true) (hinit : (Cond.initialized y.cls).before args s = true)
    (hcode : (Cond.code y bytes maxL ret).before args s = true) (hy : y.cls ≠ "java/lang/invoke/MethodHandle" ∧ y.cls ≠ "java/lang/invoke/VarHandle")
    {W9 : Nat} {Pre : Pt → Array Value → Prop} {Post : Pt → Array Value → Option Value → Pt → Prop} {PostX : Pt → Array Value → Addr → Pt → Prop} (hK : vx_Back l R p e below s args y 3 W9 Pre Post PostX)
    {g : JFrame} (hg : g.method = m) (hsize : g.locals.size = c.maxLocals) {argsL rest : List Value} (hlen : ∀ sig, parseMethodDescriptor y.desc = some sig → argsL.length = sig.parameters.length)
    (hstack : g.stack = argsL.reverse ++ rest) (hW : 2 * g.monitorRoom + (rest.map fun v => v.category).sum ≤ W9) (hdg : decode c.code g.pc = .ok (.invokestatic index, 3))
    (hpre : ∀ vm₁, s.WarmedH vm₁ → Pre ⟨T.setVm vm₁, locs, cells, slots⟩ argsL.toArray) :
    (∃ (v : Option Value) (vm₁ : Vm) (B : Pt), s.WarmedH vm₁ ∧ Stand p l e R s m args below meth c B.U B.locs B.cells B.slots ∧ Post ⟨T.setVm vm₁, locs, cells, slots⟩ argsL.toArray v B ∧
      ∀ target, Steps p.tables e below (B.U.setTop { g with pc := g.pc + 3, stack := v.toList ++ rest }) target → Steps p.tables e below (T.setTop g) target) ∨
    (∃ (q : Addr) (vm₁ : Vm) (B : Pt), s.WarmedH vm₁ ∧ Stand p l e R s m args below meth c B.U B.locs B.cells B.slots ∧ PostX ⟨T.setVm vm₁, locs, cells, slots⟩ argsL.toArray q B ∧
      Steps p.tables e below (T.setTop g) ((B.U.setTop { g with stack := rest }).pushFrame (.throwing q))) := by
  obtain ⟨mk, hnamed⟩ := Cond.code_named hcode
  obtain ⟨methM, cM, hmethM, -, -, -, -, -, -, hsigM⟩ := Cond.code_spec hnamed hcode
  have hstatic : methM.isStatic = true := Cond.static_spec hnamed hmethM hstat
  obtain ⟨kP, hkP, -⟩ := className_of_methodNamed hnamed
  have hinitP : kP.init = .initialized := Cond.initialized_spec (findClass_of_methodNamed hnamed) hkP hinit
  obtain ⟨vm₁, X₁, hstep₁⟩ := X.invokestatic hexec hown hlink hnamed hmethM hstatic hkP hinitP hy (g := g) hg (argsL := argsL) (rest := rest) (hlen _ hsigM) hstack hdg
  rcases hK m meth c ⟨T.setVm vm₁, locs, cells, slots⟩ { g with stack := rest } (.invokestatic index) mk argsL.toArray X₁ hg hsize hdg hW (X₁.named hnamed) (hpre vm₁ X₁.warmed) with ⟨v, B, X', hpost, hsteps⟩ | ⟨q, B, X', hpost, hsteps⟩
  · exact Or.inl ⟨v, vm₁, B, X₁.warmed, X', hpost, fun target h => hstep₁ _ fun acts => by rw [doInvoke_state]; exact hsteps.trans h⟩
  · exact Or.inr ⟨q, vm₁, B, X₁.warmed, X', hpost, hstep₁ _ fun acts => by rw [doInvoke_state]; exact hsteps⟩
end Calls
theorem vx_cls {s : State} {T : State} {vm₁ : Vm} {E : String} {k : ClassId} (hW : s.WarmedH vm₁) (h : (T.setVm vm₁).vm.findClass E = some k) : s.vm.findClass E = some k := by
  have h1 : vm₁.findClass E = some k := h
  rw [hW.alike.findClass] at h1
  exact h1
/-- the method's frame g, with q thrown over it -/
def vx_W (p : Program) (l : Launch) (e : Env) (R : Room) (s : State) (m : MethodId) (args : Array Value) (below : List Frame) (meth : Method) (c : Code) (H : Heap) (locs : List Loc) (cells slots : Nat) (Q : State → Prop) (g : JFrame) (q : Addr) : Prop :=
  ∀ T : State, T.heap = H → Stand p l e R s m args below meth c T locs cells slots → ∃ t, Steps p.tables e below ((T.setTop g).pushFrame (.throwing q)) t ∧ Q t
def vx_Run (p : Program) (l : Launch) (e : Env) (R : Room) (s : State) (m : MethodId) (args : Array Value) (below : List Frame) (meth : Method) (c : Code) (H : Heap) (locs : List Loc) (cells slots mc ms : Nat) (g : JFrame) (rest : List Value) (Qa : State → Outcome → State → Prop) (XC : String → State → State → Prop) (free : Addr → Prop) : Prop :=
  ∀ T : State, T.heap = H → Stand p l e R s m args below meth c T locs cells slots →
    (∃ (v : Option Value) (st₀ t T' : State) (L : List Loc), st₀.heap = H ∧ Stand p l e R s m args below meth c T' (locs ++ L) (cells + mc) (slots + ms) ∧ (∀ q ∈ L, free q.base) ∧ T'.heap = t.heap ∧ T'.vm = t.vm ∧ Qa st₀ (.returned v) t ∧
      Goes p e below T g T' { g with pc := g.pc + 3, stack := v.toList ++ rest }) ∨
    (∃ (q : Addr) (st₀ t T' : State) (L : List Loc) (E : String) (ce : Cell), st₀.heap = H ∧ Stand p l e R s m args below meth c T' (locs ++ L) (cells + mc) (slots + ms) ∧ (∀ z ∈ L, free z.base) ∧ T'.heap = t.heap ∧ T'.vm = t.vm ∧ XC E st₀ t ∧ t.heap[q]? = some ce ∧ ce.vm = .none ∧ s.vm.findClass E = some ce.cls ∧
      Steps p.tables e below (T.setTop g) ((T'.setTop { g with stack := rest }).pushFrame (.throwing q)))
def vx_X {S : Type} (px : S → Prop) (B : String → S → State → Prop) (A : Nat → Prop) : String → State → State → Prop := fun E st t => ∃ u : S, px u ∧ B E u t ∧ va_F A st t
section Runs
variable {p : Program} {l : Launch} {e : Env} {R : Room} {s : State} {m : MethodId} {args : Array Value} {below : List Frame} {meth : Method} {c : Code} {H : Heap} {locs : List Loc} {cells slots : Nat}
variable {y : MethodName} {bytes cc : ByteArray} {maxL nL mc ms n index : Nat} {ret : Option FieldType} {ws : List Cond} {rm : Room} {Pc : Array Value → State → Prop} {Qc : Array Value → State → Outcome → State → Prop} {XC : String → State → State → Prop} {free : Addr → Prop} {Ts : List Cond} {own C : String} {b : Addr} {As rest : List Value} {g : JFrame}
theorem vx_callBack (cb : CallB R s args own index y bytes maxL ret ws rm mc ms n) (hM : vx_Met l y ws rm Pc Qc XC mc ms free) (hbl : FrameBlind Pc) : vx_Back l R p e below s args y 3 8 (PreOf R mc ms Pc) (PostOf Qc mc ms free) (vx_Post XC mc ms free) := by
  obtain ⟨hrc, hrs, hfr, hlo, hws, hcw, -, hini, -⟩ := cb
  exact vx_back (bytes := bytes) (maxL := maxL) (ret := ret) hM hbl hrc hrs hfr hlo hws hcw (fun a' U hW => word_at hW (Or.inl (by first | rfl | simp [Cond.onTables, Cond.keeps, Cond.steady])) hini)
theorem vx_runV (S : CallFix p m c cc nL s args Ts own) (hM : vx_Met l y ws rm Pc Qc XC mc ms free) (cw : CallW R s args own C index y bytes maxL ret ws rm mc ms n) (hp : PreV s H C b Pc As)
    (hg : g.method = m) (hn : As.length = n) (hsize : g.locals.size = nL) (hstack : g.stack = As.reverse ++ .ref b :: rest) (hW : 2 * g.monitorRoom + (rest.map fun v => v.category).sum ≤ 8) (hdg : decode cc g.pc = .ok (.invokevirtual index, 3)) (hf : cells + mc ≤ R.cells ∧ slots + ms ≤ R.slots) :
    vx_Run p l e R s m args below meth c H locs cells slots mc ms g rest (Qc (Value.ref b :: As).toArray) XC free := by
  have hK : vx_Back l R p e below s args y 3 8 (PreOf R mc ms Pc) (PostOf Qc mc ms free) (vx_Post XC mc ms free) := vx_callBack cw.1 hM hp.1
  obtain ⟨⟨-, -, -, -, -, -, hcode, -, hy, hlen, hl⟩, hin, hse⟩ := cw
  obtain ⟨hx, hb, hml, ho, -⟩ := S
  obtain ⟨-, ⟨cellB, hcB, hoB, hclB⟩, hPc⟩ := hp
  intro T hT X
  rcases vx_callV X hx (C := C) (bytes := bytes) (maxL := maxL) (ret := ret) ho hl hin hse hcode hy hK (by rw [hT]; exact hcB) hoB hclB hg (hsize.trans hml.symm) (argsL := As) (rest := rest) (fun sig h => hn.trans (hlen sig h)) hstack hW (by rw [hb]; exact hdg)
    (fun vm₁ hW₁ => ⟨hf.1, hf.2, hPc (T.setVm vm₁) hT hW₁⟩) with ⟨v, vm₁, ⟨U', l2, c2, s2⟩, hW₁, X', ⟨g', mk, t, L, e1, e2, hq, h1, hL, h2, h3⟩, st⟩ | ⟨q, vm₁, ⟨U', l2, c2, s2⟩, hW₁, X', ⟨g', mk, t, L, E, ce, e1, e2, hq, hce, hcv, hcl, h1, hL, h2, h3⟩, st⟩
  · dsimp only [Pt.U, Pt.locs, Pt.cells, Pt.slots] at X' e1 e2 h1 h2 h3 st
    subst h1; subst h2; subst h3
    exact Or.inl ⟨v, (T.setVm vm₁).calling g' mk (Value.ref b :: As).toArray, t, U', L, hT, X', hL, e1, e2, hq, st⟩
  · dsimp only [Pt.U, Pt.locs, Pt.cells, Pt.slots] at X' e1 e2 h1 h2 h3 st hcl
    subst h1; subst h2; subst h3
    exact Or.inr ⟨q, (T.setVm vm₁).calling g' mk (Value.ref b :: As).toArray, t, U', L, E, ce, hT, X', hL, e1, e2, hq, hce, hcv, vx_cls hW₁ hcl, st⟩
theorem vx_runS (S : CallFix p m c cc nL s args Ts own) (hM : vx_Met l y ws rm Pc Qc XC mc ms free) (cw : CallB R s args own index y bytes maxL ret ws rm mc ms n ∧ (Cond.static y).before args s = true) (hp : PreS s H Pc As)
    (hg : g.method = m) (hn : As.length = n) (hsize : g.locals.size = nL) (hstack : g.stack = As.reverse ++ rest) (hW : 2 * g.monitorRoom + (rest.map fun v => v.category).sum ≤ 8) (hdg : decode cc g.pc = .ok (.invokestatic index, 3)) (hf : cells + mc ≤ R.cells ∧ slots + ms ≤ R.slots) :
    vx_Run p l e R s m args below meth c H locs cells slots mc ms g rest (Qc As.toArray) XC free := by
  have hK : vx_Back l R p e below s args y 3 8 (PreOf R mc ms Pc) (PostOf Qc mc ms free) (vx_Post XC mc ms free) := vx_callBack cw.1 hM hp.1
  obtain ⟨⟨-, -, -, -, -, -, hcode, hini, hy, hlen, hl⟩, hstt⟩ := cw
  obtain ⟨hx, hb, hml, ho, -⟩ := S
  intro T hT X
  rcases vx_callS X hx (bytes := bytes) (maxL := maxL) (ret := ret) ho hl hstt hini hcode hy hK hg (hsize.trans hml.symm) (argsL := As) (rest := rest) (fun sig h => hn.trans (hlen sig h)) hstack hW (by rw [hb]; exact hdg)
    (fun vm₁ hW₁ => ⟨hf.1, hf.2, hp.2 (T.setVm vm₁) hT hW₁⟩) with ⟨v, vm₁, ⟨U', l2, c2, s2⟩, hW₁, X', ⟨g', mk, t, L, e1, e2, hq, h1, hL, h2, h3⟩, st⟩ | ⟨q, vm₁, ⟨U', l2, c2, s2⟩, hW₁, X', ⟨g', mk, t, L, E, ce, e1, e2, hq, hce, hcv, hcl, h1, hL, h2, h3⟩, st⟩
  · dsimp only [Pt.U, Pt.locs, Pt.cells, Pt.slots] at X' e1 e2 h1 h2 h3 st
    subst h1; subst h2; subst h3
    exact Or.inl ⟨v, (T.setVm vm₁).calling g' mk As.toArray, t, U', L, hT, X', hL, e1, e2, hq, st⟩
  · dsimp only [Pt.U, Pt.locs, Pt.cells, Pt.slots] at X' e1 e2 h1 h2 h3 st hcl
    subst h1; subst h2; subst h3
    exact Or.inr ⟨q, (T.setVm vm₁).calling g' mk As.toArray, t, U', L, E, ce, hT, X', hL, e1, e2, hq, hce, hcv, vx_cls hW₁ hcl, st⟩
end Runs
section Rows
variable {p : Program} {l : Launch} {e : Env} {R : Room} {s : State} {m : MethodId} {args : Array Value} {below : List Frame} {meth : Method} {c : Code} {H : Heap} {locs : List Loc} {cells slots : Nat} {Q : State → Prop}
variable {mc ms : Nat} {free : Addr → Prop} {A0 A1 : Nat → Prop} {H0 : Heap} {a : Array Value} {pc : Nat} {ls : Array Slot} {st0 rest : List Value}
theorem vx_keep {st₀ t T' : State} {L : List Loc} (h0 : st₀.heap = H) (e1 : T'.heap = t.heap) (hS : va_S A0 H0 H locs) (hA : ∀ q, q < H.size → A1 q → A0 q) (hf : ∀ q, free q → A0 q) (hL : ∀ q ∈ L, free q.base) (hF : va_F A1 st₀ t) :
    H.size ≤ T'.heap.size ∧ (∀ q : Nat, q < H.size → ¬ A1 q → T'.heap[q]? = H[q]?) ∧ va_S A0 H0 T'.heap (locs ++ L) := by
  obtain ⟨hz, hk⟩ := hF
  rw [h0] at hz hk
  exact ⟨by rw [e1]; exact hz, fun q h1 h2 => by rw [e1]; exact hk q h1 h2,
    ⟨Nat.le_trans hS.1 (by rw [e1]; exact hz), fun q h1 h2 => by rw [e1, hk q (Nat.lt_of_lt_of_le h1 hS.1) (fun z => h2 (hA q (Nat.lt_of_lt_of_le h1 hS.1) z))]; exact hS.2.1 q h1 h2, fun q hq => by
      rcases List.mem_append.mp hq with h | h
      · exact hS.2.2 q h
      · exact hf _ (hL q h)⟩⟩
theorem vx_calli {S SX : Type} {post : Int32 → S → Prop} {px : SX → Prop} {B : S → State → Prop} {BX : String → SX → State → Prop} {AX : Nat → Prop} (hr : vx_Run p l e R s m args below meth c H locs cells slots mc ms (F0 m pc ls st0) rest (va_Qi post B A1 a) (vx_X px BX AX) free) (hS : va_S A0 H0 H locs) (hA : ∀ q, q < H.size → A1 q → A0 q) (hf : ∀ q, free q → A0 q) (hAX : ∀ q, q < H.size → AX q → A0 q)
    (kx : ∀ (E : String) (ce : Cell) (q9 : Addr) (u : SX) (t : State) (H1 : Heap) (locs1 : List Loc), t.heap = H1 → s.vm.Alike t.vm → px u → BX E u t → H.size ≤ H1.size → (∀ q : Nat, q < H.size → ¬ AX q → H1[q]? = H[q]?) → va_S A0 H0 H1 locs1 → H1[q9]? = some ce → ce.vm = .none → s.vm.findClass E = some ce.cls → vx_W p l e R s m args below meth c H1 locs1 (cells + mc) (slots + ms) Q (F0 m pc ls rest) q9)
    (kk : ∀ (r : Int32) (u : S) (t : State) (H1 : Heap) (locs1 : List Loc), t.heap = H1 → s.vm.Alike t.vm → post r u → B u t → H.size ≤ H1.size → (∀ q : Nat, q < H.size → ¬ A1 q → H1[q]? = H[q]?) → va_S A0 H0 H1 locs1 → W p l e R s m args below meth c H1 locs1 (cells + mc) (slots + ms) Q (F0 m (pc + 3) ls (.int r :: rest))) : W p l e R s m args below meth c H locs cells slots Q (F0 m pc ls st0) := by
  intro T hT X
  rcases hr T hT X with ⟨v, st₀, t, T', L, h0, X', hL, e1, e2, ⟨⟨r, u, hv, hp, hb⟩, hF⟩, st⟩ | ⟨q, st₀, t, T', L, E, ce, h0, X', hL, e1, e2, ⟨u, hp, hb, hF⟩, hce, hcv, hcl, st⟩
  · cases hv
    obtain ⟨k1, k2, k3⟩ := vx_keep h0 e1 hS hA hf hL hF
    obtain ⟨t2, a1, b1⟩ := kk r u t T'.heap (locs ++ L) e1.symm (by rw [← e2]; exact X'.warmed.alike) hp hb k1 k2 k3 T' rfl X'
    exact ⟨t2, st t2 a1, b1⟩
  · obtain ⟨k1, k2, k3⟩ := vx_keep h0 e1 hS hAX hf hL hF
    obtain ⟨t2, a1, b1⟩ := kx E ce q u t T'.heap (locs ++ L) e1.symm (by rw [← e2]; exact X'.warmed.alike) hp hb k1 k2 k3 (by rw [e1]; exact hce) hcv hcl T' rfl X'
    exact ⟨t2, st.trans a1, b1⟩
theorem vx_calll {S SX : Type} {post : Int64 → S → Prop} {px : SX → Prop} {B : S → State → Prop} {BX : String → SX → State → Prop} {AX : Nat → Prop} (hr : vx_Run p l e R s m args below meth c H locs cells slots mc ms (F0 m pc ls st0) rest (va_Ql post B A1 a) (vx_X px BX AX) free) (hS : va_S A0 H0 H locs) (hA : ∀ q, q < H.size → A1 q → A0 q) (hf : ∀ q, free q → A0 q) (hAX : ∀ q, q < H.size → AX q → A0 q)
    (kx : ∀ (E : String) (ce : Cell) (q9 : Addr) (u : SX) (t : State) (H1 : Heap) (locs1 : List Loc), t.heap = H1 → s.vm.Alike t.vm → px u → BX E u t → H.size ≤ H1.size → (∀ q : Nat, q < H.size → ¬ AX q → H1[q]? = H[q]?) → va_S A0 H0 H1 locs1 → H1[q9]? = some ce → ce.vm = .none → s.vm.findClass E = some ce.cls → vx_W p l e R s m args below meth c H1 locs1 (cells + mc) (slots + ms) Q (F0 m pc ls rest) q9)
    (kk : ∀ (r : Int64) (u : S) (t : State) (H1 : Heap) (locs1 : List Loc), t.heap = H1 → s.vm.Alike t.vm → post r u → B u t → H.size ≤ H1.size → (∀ q : Nat, q < H.size → ¬ A1 q → H1[q]? = H[q]?) → va_S A0 H0 H1 locs1 → W p l e R s m args below meth c H1 locs1 (cells + mc) (slots + ms) Q (F0 m (pc + 3) ls (.long r :: rest))) : W p l e R s m args below meth c H locs cells slots Q (F0 m pc ls st0) := by
  intro T hT X
  rcases hr T hT X with ⟨v, st₀, t, T', L, h0, X', hL, e1, e2, ⟨⟨r, u, hv, hp, hb⟩, hF⟩, st⟩ | ⟨q, st₀, t, T', L, E, ce, h0, X', hL, e1, e2, ⟨u, hp, hb, hF⟩, hce, hcv, hcl, st⟩
  · cases hv
    obtain ⟨k1, k2, k3⟩ := vx_keep h0 e1 hS hA hf hL hF
    obtain ⟨t2, a1, b1⟩ := kk r u t T'.heap (locs ++ L) e1.symm (by rw [← e2]; exact X'.warmed.alike) hp hb k1 k2 k3 T' rfl X'
    exact ⟨t2, st t2 a1, b1⟩
  · obtain ⟨k1, k2, k3⟩ := vx_keep h0 e1 hS hAX hf hL hF
    obtain ⟨t2, a1, b1⟩ := kx E ce q u t T'.heap (locs ++ L) e1.symm (by rw [← e2]; exact X'.warmed.alike) hp hb k1 k2 k3 (by rw [e1]; exact hce) hcv hcl T' rfl X'
    exact ⟨t2, st.trans a1, b1⟩
theorem vx_callf {S SX : Type} {post : UInt32 → S → Prop} {px : SX → Prop} {B : S → State → Prop} {BX : String → SX → State → Prop} {AX : Nat → Prop} (hr : vx_Run p l e R s m args below meth c H locs cells slots mc ms (F0 m pc ls st0) rest (va_Qf post B A1 a) (vx_X px BX AX) free) (hS : va_S A0 H0 H locs) (hA : ∀ q, q < H.size → A1 q → A0 q) (hf : ∀ q, free q → A0 q) (hAX : ∀ q, q < H.size → AX q → A0 q)
    (kx : ∀ (E : String) (ce : Cell) (q9 : Addr) (u : SX) (t : State) (H1 : Heap) (locs1 : List Loc), t.heap = H1 → s.vm.Alike t.vm → px u → BX E u t → H.size ≤ H1.size → (∀ q : Nat, q < H.size → ¬ AX q → H1[q]? = H[q]?) → va_S A0 H0 H1 locs1 → H1[q9]? = some ce → ce.vm = .none → s.vm.findClass E = some ce.cls → vx_W p l e R s m args below meth c H1 locs1 (cells + mc) (slots + ms) Q (F0 m pc ls rest) q9)
    (kk : ∀ (r : UInt32) (u : S) (t : State) (H1 : Heap) (locs1 : List Loc), t.heap = H1 → s.vm.Alike t.vm → post r u → B u t → H.size ≤ H1.size → (∀ q : Nat, q < H.size → ¬ A1 q → H1[q]? = H[q]?) → va_S A0 H0 H1 locs1 → W p l e R s m args below meth c H1 locs1 (cells + mc) (slots + ms) Q (F0 m (pc + 3) ls (.float r :: rest))) : W p l e R s m args below meth c H locs cells slots Q (F0 m pc ls st0) := by
  intro T hT X
  rcases hr T hT X with ⟨v, st₀, t, T', L, h0, X', hL, e1, e2, ⟨⟨r, u, hv, hp, hb⟩, hF⟩, st⟩ | ⟨q, st₀, t, T', L, E, ce, h0, X', hL, e1, e2, ⟨u, hp, hb, hF⟩, hce, hcv, hcl, st⟩
  · cases hv
    obtain ⟨k1, k2, k3⟩ := vx_keep h0 e1 hS hA hf hL hF
    obtain ⟨t2, a1, b1⟩ := kk r u t T'.heap (locs ++ L) e1.symm (by rw [← e2]; exact X'.warmed.alike) hp hb k1 k2 k3 T' rfl X'
    exact ⟨t2, st t2 a1, b1⟩
  · obtain ⟨k1, k2, k3⟩ := vx_keep h0 e1 hS hAX hf hL hF
    obtain ⟨t2, a1, b1⟩ := kx E ce q u t T'.heap (locs ++ L) e1.symm (by rw [← e2]; exact X'.warmed.alike) hp hb k1 k2 k3 (by rw [e1]; exact hce) hcv hcl T' rfl X'
    exact ⟨t2, st.trans a1, b1⟩
theorem vx_calld {S SX : Type} {post : UInt64 → S → Prop} {px : SX → Prop} {B : S → State → Prop} {BX : String → SX → State → Prop} {AX : Nat → Prop} (hr : vx_Run p l e R s m args below meth c H locs cells slots mc ms (F0 m pc ls st0) rest (va_Qd post B A1 a) (vx_X px BX AX) free) (hS : va_S A0 H0 H locs) (hA : ∀ q, q < H.size → A1 q → A0 q) (hf : ∀ q, free q → A0 q) (hAX : ∀ q, q < H.size → AX q → A0 q)
    (kx : ∀ (E : String) (ce : Cell) (q9 : Addr) (u : SX) (t : State) (H1 : Heap) (locs1 : List Loc), t.heap = H1 → s.vm.Alike t.vm → px u → BX E u t → H.size ≤ H1.size → (∀ q : Nat, q < H.size → ¬ AX q → H1[q]? = H[q]?) → va_S A0 H0 H1 locs1 → H1[q9]? = some ce → ce.vm = .none → s.vm.findClass E = some ce.cls → vx_W p l e R s m args below meth c H1 locs1 (cells + mc) (slots + ms) Q (F0 m pc ls rest) q9)
    (kk : ∀ (r : UInt64) (u : S) (t : State) (H1 : Heap) (locs1 : List Loc), t.heap = H1 → s.vm.Alike t.vm → post r u → B u t → H.size ≤ H1.size → (∀ q : Nat, q < H.size → ¬ A1 q → H1[q]? = H[q]?) → va_S A0 H0 H1 locs1 → W p l e R s m args below meth c H1 locs1 (cells + mc) (slots + ms) Q (F0 m (pc + 3) ls (.double r :: rest))) : W p l e R s m args below meth c H locs cells slots Q (F0 m pc ls st0) := by
  intro T hT X
  rcases hr T hT X with ⟨v, st₀, t, T', L, h0, X', hL, e1, e2, ⟨⟨r, u, hv, hp, hb⟩, hF⟩, st⟩ | ⟨q, st₀, t, T', L, E, ce, h0, X', hL, e1, e2, ⟨u, hp, hb, hF⟩, hce, hcv, hcl, st⟩
  · cases hv
    obtain ⟨k1, k2, k3⟩ := vx_keep h0 e1 hS hA hf hL hF
    obtain ⟨t2, a1, b1⟩ := kk r u t T'.heap (locs ++ L) e1.symm (by rw [← e2]; exact X'.warmed.alike) hp hb k1 k2 k3 T' rfl X'
    exact ⟨t2, st t2 a1, b1⟩
  · obtain ⟨k1, k2, k3⟩ := vx_keep h0 e1 hS hAX hf hL hF
    obtain ⟨t2, a1, b1⟩ := kx E ce q u t T'.heap (locs ++ L) e1.symm (by rw [← e2]; exact X'.warmed.alike) hp hb k1 k2 k3 (by rw [e1]; exact hce) hcv hcl T' rfl X'
    exact ⟨t2, st.trans a1, b1⟩
theorem vx_callv {S SX : Type} {post : S → Prop} {px : SX → Prop} {B : S → State → Prop} {BX : String → SX → State → Prop} {AX : Nat → Prop} (hr : vx_Run p l e R s m args below meth c H locs cells slots mc ms (F0 m pc ls st0) rest (va_Qv post B A1 a) (vx_X px BX AX) free) (hS : va_S A0 H0 H locs) (hA : ∀ q, q < H.size → A1 q → A0 q) (hf : ∀ q, free q → A0 q) (hAX : ∀ q, q < H.size → AX q → A0 q)
    (kx : ∀ (E : String) (ce : Cell) (q9 : Addr) (u : SX) (t : State) (H1 : Heap) (locs1 : List Loc), t.heap = H1 → s.vm.Alike t.vm → px u → BX E u t → H.size ≤ H1.size → (∀ q : Nat, q < H.size → ¬ AX q → H1[q]? = H[q]?) → va_S A0 H0 H1 locs1 → H1[q9]? = some ce → ce.vm = .none → s.vm.findClass E = some ce.cls → vx_W p l e R s m args below meth c H1 locs1 (cells + mc) (slots + ms) Q (F0 m pc ls rest) q9)
    (kk : ∀ (u : S) (t : State) (H1 : Heap) (locs1 : List Loc), t.heap = H1 → s.vm.Alike t.vm → post u → B u t → H.size ≤ H1.size → (∀ q : Nat, q < H.size → ¬ A1 q → H1[q]? = H[q]?) → va_S A0 H0 H1 locs1 → W p l e R s m args below meth c H1 locs1 (cells + mc) (slots + ms) Q (F0 m (pc + 3) ls (rest))) : W p l e R s m args below meth c H locs cells slots Q (F0 m pc ls st0) := by
  intro T hT X
  rcases hr T hT X with ⟨v, st₀, t, T', L, h0, X', hL, e1, e2, ⟨⟨u, hv, hp, hb⟩, hF⟩, st⟩ | ⟨q, st₀, t, T', L, E, ce, h0, X', hL, e1, e2, ⟨u, hp, hb, hF⟩, hce, hcv, hcl, st⟩
  · cases hv
    obtain ⟨k1, k2, k3⟩ := vx_keep h0 e1 hS hA hf hL hF
    obtain ⟨t2, a1, b1⟩ := kk u t T'.heap (locs ++ L) e1.symm (by rw [← e2]; exact X'.warmed.alike) hp hb k1 k2 k3 T' rfl X'
    exact ⟨t2, st t2 a1, b1⟩
  · obtain ⟨k1, k2, k3⟩ := vx_keep h0 e1 hS hAX hf hL hF
    obtain ⟨t2, a1, b1⟩ := kx E ce q u t T'.heap (locs ++ L) e1.symm (by rw [← e2]; exact X'.warmed.alike) hp hb k1 k2 k3 (by rw [e1]; exact hce) hcv hcl T' rfl X'
    exact ⟨t2, st.trans a1, b1⟩
/-- caught by the row x of this method's table; the rows ahead don't take it -/
theorem vx_catch {own name : String} {E : String} {ce : Cell} {q : Addr} (hown : s.vm.findClass own = some m.cls) (pre : List ExceptionTableEntry) (x : ExceptionTableEntry) (suf : List ExceptionTableEntry) (hsplit : c.exceptionTable.toList = pre ++ x :: suf)
    (hpass : ∀ z ∈ pre, covers z pc = false ∨ (z.catchType ≠ 0 ∧ ∃ nm : String, (Cond.classLink own z.catchType nm).before args s = true ∧ va_Nc E nm s)) (hx : covers x pc = true) (h0 : x.catchType ≠ 0)
    (hlink : (Cond.classLink own x.catchType name).before args s = true) (hcast : (Cond.castable E name).before args s = true) (hcell : H[q]? = some ce) (hv : ce.vm = .none) (hcl : s.vm.findClass E = some ce.cls)
    (kk : W p l e R s m args below meth c H locs cells slots Q (F0 m x.handlerPc ls [.ref q])) : vx_W p l e R s m args below meth c H locs cells slots Q (F0 m pc ls rest) q := by
  intro T hT X
  have hpl : e.platform.magicAccessors = ({} : Platform).magicAccessors := by rw [X.admits.platform]
  obtain ⟨c3, c4, hc3, hc4, hasg⟩ := Cond.castable_spec hcast
  cases Option.some.inj (hc3.symm.trans hcl)
  obtain ⟨c5, hc5, hcl5⟩ := Cond.classLink_spec hown hlink e.platform hpl
  cases Option.some.inj (hc4.symm.trans hc5)
  obtain ⟨vm', X', st⟩ := X.thenCaughtThrough q (g := F0 m pc ls rest) rfl (Steps.refl _) (by rw [hT]; exact hcell) (by rw [hv]; rfl) (by obtain ⟨k9, h9, -⟩ := Vm.findClass_spec hcl; exact ⟨k9, h9⟩) pre x suf hsplit
    (fun z hz => by
      rcases hpass z hz with h | ⟨hz0, nm, hl1, hn1⟩
      · exact Or.inl h
      · obtain ⟨c6, hc6, hcl6⟩ := Cond.classLink_spec hown hl1 e.platform hpl
        obtain ⟨a8, b8, h1, h2, h3⟩ := hn1
        cases Option.some.inj (h1.symm.trans hcl)
        cases Option.some.inj (h2.symm.trans hc6)
        exact Or.inr ⟨hz0, _, hcl6, h3⟩) hx (Or.inr ⟨h0, c4, hcl5, hasg⟩)
  obtain ⟨t, a1, b1⟩ := kk (T.setVm vm') hT X'
  exact ⟨t, st.trans a1, b1⟩
end Rows
section Ends
variable {p : Program} {l : Launch} {e : Env} {R : Room} {s : State} {m : MethodId} {args : Array Value} {below : List Frame} {meth : Method} {c : Code} {H : Heap} {locs : List Loc} {cells slots : Nat} {Q : State → Prop}
variable {mc ms : Nat} {free : Addr → Prop} {A0 A1 : Nat → Prop} {H0 : Heap} {a : Array Value} {ls : Array Slot} {st0 rest : List Value}
variable {Qc : Array Value → State → Outcome → State → Prop} {XC : String → State → State → Prop}
/-- what a body that may throw owes at its end -/
def vx_MQ (below : List Frame) (Qc : Array Value → State → Outcome → State → Prop) (XC : String → State → State → Prop) (a : Array Value) (s : State) (mc ms : Nat) (free : Addr → Prop) : State → Prop := fun t =>
  ∃ o, t.status = .running ∧ Ended t below o ∧ vx_Q Qc XC mc ms free a s o t
theorem vx_ret {g : JFrame} {mc ms : Nat} (k : W p l e R s m args below meth c H locs cells slots (MQ below Qc args s mc ms free) g) : W p l e R s m args below meth c H locs cells slots (vx_MQ below Qc XC args s mc ms free) g := by
  intro T hT X
  obtain ⟨t, a1, o, b1, b2, b3, b4⟩ := k T hT X
  exact ⟨t, a1, o, b1, b2, Or.inl ⟨b3, b4⟩⟩
/-- not caught here: it goes on to the caller -/
theorem vx_widen {g : JFrame} {q : Addr} {k n : Nat} (h1 : cells ≤ k) (h2 : slots ≤ n) (kk : vx_W p l e R s m args below meth c H locs k n Q g q) : vx_W p l e R s m args below meth c H locs cells slots Q g q := fun T hT X => kk T hT (stand_widen X h1 h2)
theorem vx_out {pc : Nat} {E : String} {ce : Cell} {q : Addr} {mc ms : Nat} (hout : ∀ x ∈ c.exceptionTable.toList, covers x pc = false) (hlocks : meth.locks = false) (hcell : H[q]? = some ce) (hv : ce.vm = .none) (hcl : s.vm.findClass E = some ce.cls)
    (hx : ∀ t : State, t.heap = H → s.vm.Alike t.vm → XC E s t) (hf : ∀ z ∈ locs, free z.base) (hc : cells ≤ mc) (hs : slots ≤ ms) :
    vx_W p l e R s m args below meth c H locs cells slots (vx_MQ below Qc XC args s mc ms free) (F0 m pc ls rest) q := by
  intro T hT X
  obtain ⟨st1, hrun, hend, hW, hsm⟩ := X.leaveThrown q (g := F0 m pc ls rest) rfl rfl rfl hout hlocks
  have hcell9 : (T.setFrames (.throwing q :: below)).heap[q]? = some ce := by
    show T.heap[q]? = some ce
    rw [hT]; exact hcell
  exact ⟨_, st1, .threw q, hrun, hend, Or.inr ⟨q, rfl, E, ce, locs, hx _ hT hW.alike, hcell9, hv, hcl, hW, hsm.mono hc hs, hf⟩⟩
theorem vx_frame {U : State} {k n : Nat} (h : s.sameButNew ({ U with vm := s.vm } : State) locs k n) : s.heap.size ≤ U.heap.size ∧ ∀ q : Nat, q < s.heap.size → (∀ z ∈ locs, z.base ≠ q) → U.heap[q]? = s.heap[q]? := by
  obtain ⟨-, h2, -, -, -, h6⟩ := h
  refine ⟨h2, fun q hq hz => ?_⟩
  obtain ⟨c9, e1, e2, e3, e4⟩ := h6 q _ (Array.getElem?_eq_getElem hq)
  have hs : c9.slots = (s.heap[q]).slots := Array.ext_getElem? fun i => e4 i fun hm => hz _ hm rfl
  have h9 : c9 = s.heap[q] := by
    rw [hs] at e2
    exact e2
  have e5 : U.heap[q]? = some c9 := e1
  rw [e5, h9, Array.getElem?_eq_getElem hq]
/-- the words of a throw but the four that speak of the heap -/
def vx_no (w : Cond) : Bool := decide (w ≠ .isRef (.static Bundle.tN "UNASSIGNED_STACK" Bundle.steD)) && decide (w ≠ .isRef (.static Bundle.tN "SUPPRESSED_SENTINEL" Bundle.listD)) && decide (w ≠ .laysStatic Bundle.tN "UNASSIGNED_STACK" Bundle.steD) && decide (w ≠ .laysStatic Bundle.tN "SUPPRESSED_SENTINEL" Bundle.listD)
def vx_at0 (own : String) (ic : Nat) (X : String) (names : List String) : List Cond := (Bundle.ownAtoms0 own ic X names).filter vx_no
def vx_atS (own : String) (ic : Nat) (X : String) (names : List String) : List Cond := (Bundle.ownAtoms own ic X names).filter vx_no
/-- a word that the tables alone decide, or a good one -/
def vx_ot (w : Cond) : Bool := w.onTables || goodWord w
theorem vx_ot_at {args a' : Array Value} {s U : State} {w : Cond} (hW : s.WarmedH U.vm) (hvm : s.vm = U.vm) (hg : vx_ot w = true) (h : w.before args s = true) : w.before a' U = true := by
  simp only [vx_ot, Bool.or_eq_true] at hg
  rcases hg with hg | hg
  · exact va_tabs hg hvm h
  · exact word_at hW (good_of_word hg) h
/-- a list's words: the good ones out of the method's own list, the others by premises of their own -/
theorem vx_hat {args : Array Value} {s : State} {L B : List Cond} (h1 : ∀ w ∈ L.filter goodWord, w.before args s = true) (h2 : ∀ w ∈ L.filter (fun w => !goodWord w), w ∈ B) (h3 : ∀ w ∈ B, w.before args s = true) : ∀ w ∈ L, w.before args s = true := by
  intro w hw
  by_cases g : goodWord w = true
  · exact h1 w (List.mem_filter.mpr ⟨hw, g⟩)
  · refine h3 w (h2 w (List.mem_filter.mpr ⟨hw, ?_⟩))
    show (!goodWord w) = true
    cases hgw : goodWord w
    · rfl
    · exact absurd hgw g
theorem vx_c {args : Array Value} {s : State} {w : Cond} {B : List Cond} (h : w.before args s = true) (t : ∀ w ∈ B, w.before args s = true) : ∀ w' ∈ w :: B, w'.before args s = true := fun w' h' => (List.mem_cons.mp h').elim (fun e => by rw [e]; exact h) (t w')
theorem vx_n {args : Array Value} {s : State} : ∀ w ∈ ([] : List Cond), w.before args s = true := fun _ h => nomatch h
theorem vx_own {args : Array Value} {s : State} {L : List Cond} (h1 : ∀ w ∈ L.filter vx_no, w.before args s = true)
    (hU : (Cond.isRef (.static Bundle.tN "UNASSIGNED_STACK" Bundle.steD)).before args s = true) (hN : (Cond.isRef (.static Bundle.tN "SUPPRESSED_SENTINEL" Bundle.listD)).before args s = true)
    (lU : (Cond.laysStatic Bundle.tN "UNASSIGNED_STACK" Bundle.steD).before args s = true) (lN : (Cond.laysStatic Bundle.tN "SUPPRESSED_SENTINEL" Bundle.listD).before args s = true) : ∀ w ∈ L, w.before args s = true := by
  intro w hw
  by_cases e1 : w = .isRef (.static Bundle.tN "UNASSIGNED_STACK" Bundle.steD)
  · rw [e1]; exact hU
  · by_cases e2 : w = .isRef (.static Bundle.tN "SUPPRESSED_SENTINEL" Bundle.listD)
    · rw [e2]; exact hN
    · by_cases e3 : w = .laysStatic Bundle.tN "UNASSIGNED_STACK" Bundle.steD
      · rw [e3]; exact lU
      · by_cases e4 : w = .laysStatic Bundle.tN "SUPPRESSED_SENTINEL" Bundle.listD
        · rw [e4]; exact lN
        · exact h1 w (List.mem_filter.mpr ⟨hw, by unfold vx_no; rw [decide_eq_true e1, decide_eq_true e2, decide_eq_true e3, decide_eq_true e4]; rfl⟩)
/-- where a static field lies, its class's statics cell in H -/
def vx_L (C n d : String) (A : Nat → Prop) (U : State) (H : Heap) : Prop := ∃ (c : ClassId) (k : Class) (i : Nat) (f : Field) (a : Nat) (cell : Cell), U.vm.findClass C = some c ∧ U.fieldFound? C n d = some (c, k, i, f) ∧ f.isStatic = true ∧ k.statics = some a ∧ H[a]? = some cell ∧ cell.vm.isStatics = true ∧ cell.cls = c ∧ f.slot < cell.slots.size ∧ k.staticTypes[f.slot]? = some f.type ∧ ¬ A a
theorem vx_L.moved {C n d : String} {A : Nat → Prop} {u U : State} {H : Heap} (hvm : u.vm.Alike U.vm) (h : vx_L C n d A u H) : vx_L C n d A U H := by
  obtain ⟨c, k, i, f, a, cell, h1, h2, h3, h4, h5, h6, h7, h8, h9, h10⟩ := h
  obtain ⟨k', hi', he⟩ := State.fieldFound?_setVm hvm h2
  exact ⟨c, k', i, f, a, cell, by rw [hvm.findClass]; exact h1, hi', h3, by rw [he]; exact h4, h5, h6, h7, h8, by rw [he]; exact h9, h10⟩
theorem vx_L.kept {C n d : String} {A : Nat → Prop} {U : State} {H H1 : Heap} (h : vx_L C n d A U H) (hq : ∀ a : Nat, a < H.size → ¬ A a → H1[a]? = H[a]?) : vx_L C n d A U H1 := by
  obtain ⟨c, k, i, f, a, cell, h1, h2, h3, h4, h5, h6, h7, h8, h9, h10⟩ := h
  exact ⟨c, k, i, f, a, cell, h1, h2, h3, h4, by rw [hq a (Array.getElem?_eq_some_iff.mp h5).1 h10]; exact h5, h6, h7, h8, h9, h10⟩
theorem vx_L.narrow {C n d : String} {A B : Nat → Prop} {U : State} {H : Heap} (h : vx_L C n d A U H) (hAB : ∀ q, B q → A q) : vx_L C n d B U H := by
  obtain ⟨c, k, i, f, a, cell, h1, h2, h3, h4, h5, h6, h7, h8, h9, h10⟩ := h
  exact ⟨c, k, i, f, a, cell, h1, h2, h3, h4, h5, h6, h7, h8, h9, fun z => h10 (hAB _ z)⟩
theorem vx_L.word {C n d : String} {A : Nat → Prop} {s : State} {args : Array Value} (h : vx_L C n d A s s.heap) : (Cond.laysStatic C n d).before args s = true := by
  obtain ⟨c, k, i, f, a, cell, h1, h2, h3, h4, h5, h6, h7, h8, h9, -⟩ := h
  show (Cond.laysStatic C n d).holds args s none s [] = true
  exact Cond.laysStatic_of h1 h2 h3 h4 h5 h6 h7 h8 h9
/-- .. and what it holds: null or some reference -/
def vx_Zq (C n d : String) (A : Nat → Prop) (U : State) (H : Heap) : Prop := va_Zq C n d A U H ∧ vx_L C n d A U H
theorem vx_Zq.moved {C n d : String} {A : Nat → Prop} {u U : State} {H : Heap} (hvm : u.vm.Alike U.vm) (h : vx_Zq C n d A u H) : vx_Zq C n d A U H := ⟨va_Zq.moved hvm h.1, vx_L.moved hvm h.2⟩
theorem vx_Zq.kept {C n d : String} {A : Nat → Prop} {U : State} {H H1 : Heap} (h : vx_Zq C n d A U H) (hq : ∀ a : Nat, a < H.size → ¬ A a → H1[a]? = H[a]?) : vx_Zq C n d A U H1 := ⟨va_Zq.kept h.1 hq, vx_L.kept h.2 hq⟩
theorem vx_Zq.narrow {C n d : String} {A B : Nat → Prop} {U : State} {H : Heap} (h : vx_Zq C n d A U H) (hAB : ∀ q, B q → A q) : vx_Zq C n d B U H := ⟨va_Zq.narrow h.1 hAB, vx_L.narrow h.2 hAB⟩
theorem vx_Zqof {args : Array Value} {s : State} {C n d : String} {A : Nat → Prop} (hl : (Cond.laysStatic C n d).before args s = true) (hini : (Cond.initialized C).before args s = true) (h : (Cond.isRef (.static C n d)).before args s = true) (hA : ∀ a : Nat, a < s.heap.size → ¬ A a) : vx_Zq C n d A s s.heap := by
  refine ⟨va_Zqof hl hini h hA, ?_⟩
  obtain ⟨c, k, i, f, a, cell, h1, h2, h3, h4, h5, h6, h7, h8, h9⟩ := Cond.laysStatic_spec hl
  exact ⟨c, k, i, f, a, cell, h1, h2, h3, h4, h5, h6, h7, h8, h9, hA a (Array.getElem?_eq_some_iff.mp h5).1⟩
theorem vx_isRef {C n d : String} {v : Value} {A : Nat → Prop} {s : State} {args : Array Value} (h : va_Z C n d v A s s.heap) (hv : v.isRef = true) : (Cond.isRef (.static C n d)).before args s = true := by
  obtain ⟨cf, kf, fi, f, a, cell, h1, h2, h3, h4, h5, h6, h7, -⟩ := h
  have he : (Term.static C n d).eval args s none [] s = some v := by
    simp [Term.eval, State.fieldNamed?, h1, h2, h4, h5, h6, h7]
  simp only [Cond.before, Cond.holds, Cond.value, he]
  cases v <;> simp_all [Value.isRef]
theorem vx_isRefq {C n d : String} {A : Nat → Prop} {s : State} {args : Array Value} (h : va_Zq C n d A s s.heap) : (Cond.isRef (.static C n d)).before args s = true := by
  rcases h with h | ⟨t, h⟩
  · exact vx_isRef h rfl
  · exact vx_isRef h rfl
/-- the same frame, seen from here: as if the method were called anew in this heap -/
theorem vx_rebase {T : State} (X : Stand p l e R s m args below meth c T locs cells slots) {R' : Room} (hf : R'.frames ≤ R.frames) (hl : R'.locals ≤ R.locals) (hc : cells + R'.cells ≤ R.cells) (hs : slots + R'.slots ≤ R.slots) :
    Stand p l e R' ((T.setVm s.vm).setFrames (.invoking m args :: below)) m args below meth c T [] 0 0 := by
  have htop : (T.setVm s.vm).topJava?.isSome := X.here.top
  have hF : ((T.setVm s.vm).setFrames (.invoking m args :: below)).frames = .invoking m args :: below := State.frames_setFrames _ (State.cur_lt_of_top htop)
  obtain ⟨g₀, hg0⟩ := Option.isSome_iff_exists.mp htop
  obtain ⟨r, hr⟩ := State.topJava?_eq_some.mp hg0
  have hl9 : e.platform.stackLimits (T.setVm s.vm).me = e.platform.stackLimits s.me := X.limits
  have hb9 : (T.setVm s.vm).me.stackBytes = s.me.stackBytes := X.bytes
  refine ⟨X.admits, X.cas, X.clock, hF, ?_, X.hears, X.method, X.code, X.here, X.tail, X.warmed, ?_, ?_, ?_⟩
  · have h := X.room
    have hU : ((T.setVm s.vm).setFrames (.invoking m args :: below)).localsInUse = s.localsInUse := by
      rw [State.localsInUse_invoking hF (meth := meth) (c := c) X.method X.code, State.localsInUse_invoking X.frames X.method X.code]
    simp only [State.hasRoom, Bool.and_eq_true, decide_eq_true_eq] at h ⊢
    obtain ⟨⟨⟨⟨h1, h2, h3, h4, h5, h6⟩, h7⟩, h8⟩, h9⟩ := h
    rw [X.frames, List.length_cons] at h2 h3
    have q1 := X.heapSize
    have q2 := X.used
    simp only [hF, hU, List.length_cons, State.stackLimits_setFrames, State.stackBytes_setFrames, hl9, hb9]
    refine ⟨⟨⟨⟨by omega, by omega, by omega, by omega, by omega, h6⟩, ?_⟩, ?_⟩, X.book⟩
    · show T.heap.size + R'.cells ≤ e.platform.maxCells
      omega
    · show T.slotsUsed + R'.slots ≤ e.platform.maxSlots
      omega
  · rw [State.stackLimits_setFrames]; rfl
  · rw [State.stackBytes_setFrames]; rfl
  · refine ⟨?_, Nat.le_refl _, Nat.le_refl _, ?_, ?_, fun a c9 h9 => ⟨c9, h9, rfl, rfl, fun _ _ => rfl⟩⟩
    · obtain ⟨t, ht, -⟩ := State.frames_cons hr
      show T.setVm s.vm = { ((T.setVm s.vm).setFrames (.invoking m args :: below)).setFrames (T.setVm s.vm).frames with heap := T.heap, slotsUsed := T.slotsUsed }
      rw [State.setFrames_setFrames, State.setFrames_self ht]
      rfl
    · show T.slotsUsed = T.slotsUsed + ((T.heap.toList.drop T.heap.size).map (·.slots.size)).sum
      rw [List.drop_eq_nil_of_le (Nat.le_of_eq Array.length_toList)]
      rfl
    · show ((T.heap.toList.drop T.heap.size).map (·.slots.size)).sum ≤ 0
      rw [List.drop_eq_nil_of_le (Nat.le_of_eq Array.length_toList)]
      exact Nat.le_refl _
/-- 'throw new E()': new; dup; invokespecial; athrow -/
theorem vx_throw0 {cc : ByteArray} {pc : Nat} (hexec : p.tables.exec = Jvm.exec) (hb : c.code = cc) (hl : l.stackTraces = false) {own cls : String} {names : List String} {ik ic mc ms : Nat} {A : Nat → Prop}
    (hown : s.vm.findClass own = some m.cls) (hcls : Bundle.fit cls = true) (hnames : ∀ n ∈ names, Bundle.fit n = true)
    (hk : (Cond.classLink own ik cls).before args s = true) (hini : (Cond.initialized cls).before args s = true) (hat : ∀ w ∈ vx_at0 own ic cls names, w.before args s = true)
    (hgood : ∀ w ∈ Cond.classLink own ik cls :: Cond.initialized cls :: vx_at0 own ic cls names, vx_ot w = true)
    (hU : vx_Zq Bundle.tN "UNASSIGNED_STACK" Bundle.steD A s s.heap) (hN : vx_Zq Bundle.tN "SUPPRESSED_SENTINEL" Bundle.listD A s s.heap) (hS : va_S A s.heap H locs) (hsize : ls.size = c.maxLocals)
    (d0 : decode cc pc = .ok (.new ik, 3)) (d3 : decode cc (pc + 3) = .ok (.dup, 1)) (d4 : decode cc (pc + 4) = .ok (.invokespecial ic, 3)) (d7 : decode cc (pc + 7) = .ok (.athrow, 1))
    (hout : ∀ x ∈ c.exceptionTable.toList, covers x (pc + 7) = false)
    (hRframes : names.length + 3 < R.frames) (hRlocals : (rest.map fun v => v.category).sum + (13 * (names.length + 1) + 42) ≤ R.locals) (hRcells : cells + 1 ≤ R.cells) (hRslots : slots + 6 ≤ R.slots) (hlocks : meth.locks = false)
    (hx : ∀ t : State, s.vm.Alike t.vm → H.size ≤ t.heap.size → (∀ q : Nat, q < H.size → t.heap[q]? = H[q]?) → XC cls s t)
    (hf : ∀ z ∈ locs, free z.base) (hc : cells + 1 ≤ mc) (hs : slots + 6 ≤ ms) :
    W p l e R s m args below meth c H locs cells slots (vx_MQ below Qc XC args s mc ms free) (F0 m pc ls rest) := by
  intro T hT X
  have htr : e.platform.stackTraces = false := (show e.platform.stackTraces = l.stackTraces by rw [X.admits.platform]).trans hl
  have Y := vx_rebase X (R' := { frames := R.frames, locals := R.locals, cells := 1, slots := 6 }) (Nat.le_refl _) (Nat.le_refl _) hRcells hRslots
  obtain ⟨s', hA⟩ : ∃ z, z = (T.setVm s.vm).setFrames (.invoking m args :: below) := ⟨_, rfl⟩
  rw [← hA] at Y
  have hvm : s'.vm = s.vm := by rw [hA]; rfl
  have hhp : s'.heap = H := by rw [hA]; exact hT
  have hW0 : s.WarmedH s'.vm := by rw [hvm]; exact State.WarmedH.refl s
  have hat' : ∀ w ∈ vx_at0 own ic cls names, w.before args s' = true := fun w hw => vx_ot_at hW0 hvm.symm (hgood w (List.mem_cons_of_mem _ (List.mem_cons_of_mem _ hw))) (hat w hw)
  have hk' : (Cond.classLink own ik cls).before args s' = true := vx_ot_at hW0 hvm.symm (hgood _ List.mem_cons_self) hk
  have hini' : (Cond.initialized cls).before args s' = true := vx_ot_at hW0 hvm.symm (hgood _ (List.mem_cons_of_mem _ List.mem_cons_self)) hini
  have hU' : vx_Zq Bundle.tN "UNASSIGNED_STACK" Bundle.steD A s' s'.heap := by rw [hhp]; exact vx_Zq.moved hW0.alike (hU.kept hS.2.1)
  have hN' : vx_Zq Bundle.tN "SUPPRESSED_SENTINEL" Bundle.listD A s' s'.heap := by rw [hhp]; exact vx_Zq.moved hW0.alike (hN.kept hS.2.1)
  have h : ∀ w ∈ Bundle.ownAtoms0 own ic cls names, w.before args s' = true := vx_own hat' (vx_isRefq hU'.1) (vx_isRefq hN'.1) hU'.2.word hN'.2.word
  have hown' : s'.vm.findClass own = some m.cls := by rw [hvm]; exact hown
  have hins : (Cond.instantiable cls 6).before args s' = true := h _ (by simp [Bundle.ownAtoms0])
  obtain ⟨vm₁, cX, kX, hfX, hkX, -, -, X₁, st1⟩ := Y.newCold hexec (own := own) (C := cls) (index := ik) (n := 6) hown' hk' hins hini'
    (g := F0 m pc ls rest) rfl (by rw [hb]; exact d0) (Nat.le_refl _) (Nat.le_refl _)
  generalize hT1 : (T.setVm vm₁).pushCell { cls := cX, slots := kX.instanceTypes.map defaultValue, vm := .none } = T1 at X₁ st1
  have hcat : (Value.ref T.heap.size).category = 1 := rfl
  have hcellA : T1.heap[T.heap.size]? = some (freshCell cX kX) := by rw [← hT1]; exact State.heap_pushCell_size _ _
  have d3' : decode c.code (pc + 3) = .ok (.dup, 1) := by rw [hb]; exact d3
  obtain ⟨U, hsteps, hrun, hend, hW, hsame, ce, hce, hO⟩ := X₁.ctorThrow0 hexec htr (own := own) (cls := cls) (names := names) (ic := ic) hown' hcls hnames h (fun x hx => nomatch hx) hfX hkX hcellA (by rw [hhp, hT]; exact Nat.le_refl _)
    (g := { method := m, pc := pc + 4, locals := ls, stack := .ref T.heap.size :: .ref T.heap.size :: rest, locked := none }) rfl hsize rfl rfl (rest := rest) rfl
    (by rw [hb]; exact d4) (by rw [hb]; exact d7) hout hRframes (by simp only [List.map_cons, List.sum_cons, hcat]; omega) hlocks
  obtain ⟨f1, f2⟩ := vx_frame hsame
  rw [hhp] at f1 f2
  have hWs : s.WarmedH U.vm := State.WarmedH.trans hW0 hW
  have hcl : s.vm.findClass cls = some ce.cls := by
    have h9 := hO.cls
    rw [hvm] at h9
    exact h9
  have hall : s.sameButNew ({ U with vm := s.vm } : State) locs mc ms := by
    subst hA
    obtain ⟨e1, e2⟩ := hsame
    rw [State.setFrames_setFrames] at e1
    have h2 : (T.setVm s.vm).sameButNew ({ U with vm := s.vm } : State) [] (0 + 1) (0 + 6) := ⟨e1, e2⟩
    have h3 := X.same.trans h2
    rw [List.append_nil] at h3
    exact h3.mono hc hs
  refine ⟨U, ?_, .threw T.heap.size, hrun, hend, Or.inr ⟨T.heap.size, rfl, cls, ce, locs, hx U hWs.alike f1 (fun q hq => f2 q hq (fun z hz => nomatch hz)), hce, hO.vm, hcl, hWs, hall, hf⟩⟩
  refine st1 _ ?_
  show Steps p.tables e below (T1.setTop { method := m, pc := pc + 3, locals := ls, stack := .ref T.heap.size :: rest, locked := none }) _
  jvm_step X₁.here [X₁.here.top, hexec, d3', Value.category]
  exact hsteps
/-- 'throw new E("text")': new; dup; ldc; invokespecial; athrow -/
theorem vx_throwS {cc : ByteArray} {pc : Nat} (hexec : p.tables.exec = Jvm.exec) (hb : c.code = cc) (hl : l.stackTraces = false) {own cls text : String} {names : List String} {ik is ic mc ms sa : Nat} {A : Nat → Prop}
    (hown : s.vm.findClass own = some m.cls) (hcls : Bundle.fit cls = true) (hnames : ∀ n ∈ names, Bundle.fit n = true)
    (hk : (Cond.classLink own ik cls).before args s = true) (hini : (Cond.initialized cls).before args s = true) (hstr : vk_R own is text sa s) (hat : ∀ w ∈ vx_atS own ic cls names, w.before args s = true)
    (hgood : ∀ w ∈ Cond.classLink own ik cls :: Cond.initialized cls :: vx_atS own ic cls names, vx_ot w = true)
    (hU : vx_Zq Bundle.tN "UNASSIGNED_STACK" Bundle.steD A s s.heap) (hN : vx_Zq Bundle.tN "SUPPRESSED_SENTINEL" Bundle.listD A s s.heap) (hS : va_S A s.heap H locs) (hsize : ls.size = c.maxLocals)
    (d0 : decode cc pc = .ok (.new ik, 3)) (d3 : decode cc (pc + 3) = .ok (.dup, 1)) (d4 : decode cc (pc + 4) = .ok (.ldc is, 2)) (d6 : decode cc (pc + 6) = .ok (.invokespecial ic, 3)) (d9 : decode cc (pc + 9) = .ok (.athrow, 1))
    (hout : ∀ x ∈ c.exceptionTable.toList, covers x (pc + 9) = false)
    (hRframes : names.length + 3 < R.frames) (hRlocals : (rest.map fun v => v.category).sum + (13 * (names.length + 1) + 43) ≤ R.locals) (hRcells : cells + 1 ≤ R.cells) (hRslots : slots + 6 ≤ R.slots) (hlocks : meth.locks = false)
    (hx : ∀ t : State, s.vm.Alike t.vm → H.size ≤ t.heap.size → (∀ q : Nat, q < H.size → t.heap[q]? = H[q]?) → XC cls s t)
    (hf : ∀ z ∈ locs, free z.base) (hc : cells + 1 ≤ mc) (hs : slots + 6 ≤ ms) :
    W p l e R s m args below meth c H locs cells slots (vx_MQ below Qc XC args s mc ms free) (F0 m pc ls rest) := by
  intro T hT X
  have htr : e.platform.stackTraces = false := (show e.platform.stackTraces = l.stackTraces by rw [X.admits.platform]).trans hl
  have Y := vx_rebase X (R' := { frames := R.frames, locals := R.locals, cells := 1, slots := 6 }) (Nat.le_refl _) (Nat.le_refl _) hRcells hRslots
  obtain ⟨s', hA⟩ : ∃ z, z = (T.setVm s.vm).setFrames (.invoking m args :: below) := ⟨_, rfl⟩
  rw [← hA] at Y
  have hvm : s'.vm = s.vm := by rw [hA]; rfl
  have hhp : s'.heap = H := by rw [hA]; exact hT
  have hW0 : s.WarmedH s'.vm := by rw [hvm]; exact State.WarmedH.refl s
  have hat' : ∀ w ∈ vx_atS own ic cls names, w.before args s' = true := fun w hw => vx_ot_at hW0 hvm.symm (hgood w (List.mem_cons_of_mem _ (List.mem_cons_of_mem _ hw))) (hat w hw)
  have hk' : (Cond.classLink own ik cls).before args s' = true := vx_ot_at hW0 hvm.symm (hgood _ List.mem_cons_self) hk
  have hini' : (Cond.initialized cls).before args s' = true := vx_ot_at hW0 hvm.symm (hgood _ (List.mem_cons_of_mem _ List.mem_cons_self)) hini
  have hU' : vx_Zq Bundle.tN "UNASSIGNED_STACK" Bundle.steD A s' s'.heap := by rw [hhp]; exact vx_Zq.moved hW0.alike (hU.kept hS.2.1)
  have hN' : vx_Zq Bundle.tN "SUPPRESSED_SENTINEL" Bundle.listD A s' s'.heap := by rw [hhp]; exact vx_Zq.moved hW0.alike (hN.kept hS.2.1)
  have h : ∀ w ∈ Bundle.ownAtoms own ic cls names, w.before args s' = true := vx_own hat' (vx_isRefq hU'.1) (vx_isRefq hN'.1) hU'.2.word hN'.2.word
  have hown' : s'.vm.findClass own = some m.cls := by rw [hvm]; exact hown
  have hins : (Cond.instantiable cls 6).before args s' = true := h _ (by simp [Bundle.ownAtoms])
  obtain ⟨vm₁, cX, kX, hfX, hkX, -, -, X₁, st1⟩ := Y.newCold hexec (own := own) (C := cls) (index := ik) (n := 6) hown' hk' hins hini'
    (g := F0 m pc ls rest) rfl (by rw [hb]; exact d0) (Nat.le_refl _) (Nat.le_refl _)
  generalize hT1 : (T.setVm vm₁).pushCell { cls := cX, slots := kX.instanceTypes.map defaultValue, vm := .none } = T1 at X₁ st1
  have hcat : (Value.ref T.heap.size).category = 1 := rfl
  have hcellA : T1.heap[T.heap.size]? = some (freshCell cX kX) := by rw [← hT1]; exact State.heap_pushCell_size _ _
  have d3' : decode c.code (pc + 3) = .ok (.dup, 1) := by rw [hb]; exact d3
  have d4' : decode c.code (pc + 4) = .ok (.ldc is, 2) := by rw [hb]; exact d4
  have hstr' : vk_R own is text sa s' := vk_R.warm hW0 hstr
  obtain ⟨U, hsteps, hrun, hend, hW, hsame, ce, hce, hO⟩ := X₁.ctorThrowS hexec htr (own := own) (cls := cls) (names := names) (ic := ic) hown' hcls hnames h (fun x hx => nomatch hx) hfX hkX hcellA (by rw [hhp, hT]; exact Nat.le_refl _) (msg := .ref sa) rfl
    (g := { method := m, pc := pc + 6, locals := ls, stack := .ref sa :: .ref T.heap.size :: .ref T.heap.size :: rest, locked := none }) rfl hsize rfl rfl (rest := rest) rfl
    (by rw [hb]; exact d6) (by rw [hb]; exact d9) hout hRframes (by simp only [List.map_cons, List.sum_cons, hcat]; omega) hlocks
  obtain ⟨f1, f2⟩ := vx_frame hsame
  rw [hhp] at f1 f2
  have hWs : s.WarmedH U.vm := State.WarmedH.trans hW0 hW
  have hcl : s.vm.findClass cls = some ce.cls := by
    have h9 := hO.cls
    rw [hvm] at h9
    exact h9
  have hall : s.sameButNew ({ U with vm := s.vm } : State) locs mc ms := by
    subst hA
    obtain ⟨e1, e2⟩ := hsame
    rw [State.setFrames_setFrames] at e1
    have h2 : (T.setVm s.vm).sameButNew ({ U with vm := s.vm } : State) [] (0 + 1) (0 + 6) := ⟨e1, e2⟩
    have h3 := X.same.trans h2
    rw [List.append_nil] at h3
    exact h3.mono hc hs
  refine ⟨U, ?_, .threw T.heap.size, hrun, hend, Or.inr ⟨T.heap.size, rfl, cls, ce, locs, hx U hWs.alike f1 (fun q hq => f2 q hq (fun z hz => nomatch hz)), hce, hO.vm, hcl, hWs, hall, hf⟩⟩
  refine st1 _ ?_
  show Steps p.tables e below (T1.setTop { method := m, pc := pc + 3, locals := ls, stack := .ref T.heap.size :: rest, locked := none }) _
  jvm_step X₁.here [X₁.here.top, hexec, d3', Value.category]
  exact X₁.ldcString hexec (own := own) (text := text) (index := is) (a := sa) hown' hstr'.1 hstr'.2
    (g := { method := m, pc := pc + 4, locals := ls, stack := .ref T.heap.size :: .ref T.heap.size :: rest, locked := none }) rfl d4' _ hsteps
/-- 'throw new E("text")', the text by a wide index -/
theorem vx_throwSW {cc : ByteArray} {pc : Nat} (hexec : p.tables.exec = Jvm.exec) (hb : c.code = cc) (hl : l.stackTraces = false) {own cls text : String} {names : List String} {ik is ic mc ms sa : Nat} {A : Nat → Prop}
    (hown : s.vm.findClass own = some m.cls) (hcls : Bundle.fit cls = true) (hnames : ∀ n ∈ names, Bundle.fit n = true)
    (hk : (Cond.classLink own ik cls).before args s = true) (hini : (Cond.initialized cls).before args s = true) (hstr : vk_R own is text sa s) (hat : ∀ w ∈ vx_atS own ic cls names, w.before args s = true)
    (hgood : ∀ w ∈ Cond.classLink own ik cls :: Cond.initialized cls :: vx_atS own ic cls names, vx_ot w = true)
    (hU : vx_Zq Bundle.tN "UNASSIGNED_STACK" Bundle.steD A s s.heap) (hN : vx_Zq Bundle.tN "SUPPRESSED_SENTINEL" Bundle.listD A s s.heap) (hS : va_S A s.heap H locs) (hsize : ls.size = c.maxLocals)
    (d0 : decode cc pc = .ok (.new ik, 3)) (d3 : decode cc (pc + 3) = .ok (.dup, 1)) (d4 : decode cc (pc + 4) = .ok (.ldc_w is, 3)) (d7 : decode cc (pc + 7) = .ok (.invokespecial ic, 3)) (d10 : decode cc (pc + 10) = .ok (.athrow, 1))
    (hout : ∀ x ∈ c.exceptionTable.toList, covers x (pc + 10) = false)
    (hRframes : names.length + 3 < R.frames) (hRlocals : (rest.map fun v => v.category).sum + (13 * (names.length + 1) + 43) ≤ R.locals) (hRcells : cells + 1 ≤ R.cells) (hRslots : slots + 6 ≤ R.slots) (hlocks : meth.locks = false)
    (hx : ∀ t : State, s.vm.Alike t.vm → H.size ≤ t.heap.size → (∀ q : Nat, q < H.size → t.heap[q]? = H[q]?) → XC cls s t)
    (hf : ∀ z ∈ locs, free z.base) (hc : cells + 1 ≤ mc) (hs : slots + 6 ≤ ms) :
    W p l e R s m args below meth c H locs cells slots (vx_MQ below Qc XC args s mc ms free) (F0 m pc ls rest) := by
  intro T hT X
  have htr : e.platform.stackTraces = false := (show e.platform.stackTraces = l.stackTraces by rw [X.admits.platform]).trans hl
  have Y := vx_rebase X (R' := { frames := R.frames, locals := R.locals, cells := 1, slots := 6 }) (Nat.le_refl _) (Nat.le_refl _) hRcells hRslots
  obtain ⟨s', hA⟩ : ∃ z, z = (T.setVm s.vm).setFrames (.invoking m args :: below) := ⟨_, rfl⟩
  rw [← hA] at Y
  have hvm : s'.vm = s.vm := by rw [hA]; rfl
  have hhp : s'.heap = H := by rw [hA]; exact hT
  have hW0 : s.WarmedH s'.vm := by rw [hvm]; exact State.WarmedH.refl s
  have hat' : ∀ w ∈ vx_atS own ic cls names, w.before args s' = true := fun w hw => vx_ot_at hW0 hvm.symm (hgood w (List.mem_cons_of_mem _ (List.mem_cons_of_mem _ hw))) (hat w hw)
  have hk' : (Cond.classLink own ik cls).before args s' = true := vx_ot_at hW0 hvm.symm (hgood _ List.mem_cons_self) hk
  have hini' : (Cond.initialized cls).before args s' = true := vx_ot_at hW0 hvm.symm (hgood _ (List.mem_cons_of_mem _ List.mem_cons_self)) hini
  have hU' : vx_Zq Bundle.tN "UNASSIGNED_STACK" Bundle.steD A s' s'.heap := by rw [hhp]; exact vx_Zq.moved hW0.alike (hU.kept hS.2.1)
  have hN' : vx_Zq Bundle.tN "SUPPRESSED_SENTINEL" Bundle.listD A s' s'.heap := by rw [hhp]; exact vx_Zq.moved hW0.alike (hN.kept hS.2.1)
  have h : ∀ w ∈ Bundle.ownAtoms own ic cls names, w.before args s' = true := vx_own hat' (vx_isRefq hU'.1) (vx_isRefq hN'.1) hU'.2.word hN'.2.word
  have hown' : s'.vm.findClass own = some m.cls := by rw [hvm]; exact hown
  have hins : (Cond.instantiable cls 6).before args s' = true := h _ (by simp [Bundle.ownAtoms])
  obtain ⟨vm₁, cX, kX, hfX, hkX, -, -, X₁, st1⟩ := Y.newCold hexec (own := own) (C := cls) (index := ik) (n := 6) hown' hk' hins hini'
    (g := F0 m pc ls rest) rfl (by rw [hb]; exact d0) (Nat.le_refl _) (Nat.le_refl _)
  generalize hT1 : (T.setVm vm₁).pushCell { cls := cX, slots := kX.instanceTypes.map defaultValue, vm := .none } = T1 at X₁ st1
  have hcat : (Value.ref T.heap.size).category = 1 := rfl
  have hcellA : T1.heap[T.heap.size]? = some (freshCell cX kX) := by rw [← hT1]; exact State.heap_pushCell_size _ _
  have d3' : decode c.code (pc + 3) = .ok (.dup, 1) := by rw [hb]; exact d3
  have d4' : decode c.code (pc + 4) = .ok (.ldc_w is, 3) := by rw [hb]; exact d4
  have hstr' : vk_R own is text sa s' := vk_R.warm hW0 hstr
  obtain ⟨U, hsteps, hrun, hend, hW, hsame, ce, hce, hO⟩ := X₁.ctorThrowS hexec htr (own := own) (cls := cls) (names := names) (ic := ic) hown' hcls hnames h (fun x hx => nomatch hx) hfX hkX hcellA (by rw [hhp, hT]; exact Nat.le_refl _) (msg := .ref sa) rfl
    (g := { method := m, pc := pc + 7, locals := ls, stack := .ref sa :: .ref T.heap.size :: .ref T.heap.size :: rest, locked := none }) rfl hsize rfl rfl (rest := rest) rfl
    (by rw [hb]; exact d7) (by rw [hb]; exact d10) hout hRframes (by simp only [List.map_cons, List.sum_cons, hcat]; omega) hlocks
  obtain ⟨f1, f2⟩ := vx_frame hsame
  rw [hhp] at f1 f2
  have hWs : s.WarmedH U.vm := State.WarmedH.trans hW0 hW
  have hcl : s.vm.findClass cls = some ce.cls := by
    have h9 := hO.cls
    rw [hvm] at h9
    exact h9
  have hall : s.sameButNew ({ U with vm := s.vm } : State) locs mc ms := by
    subst hA
    obtain ⟨e1, e2⟩ := hsame
    rw [State.setFrames_setFrames] at e1
    have h2 : (T.setVm s.vm).sameButNew ({ U with vm := s.vm } : State) [] (0 + 1) (0 + 6) := ⟨e1, e2⟩
    have h3 := X.same.trans h2
    rw [List.append_nil] at h3
    exact h3.mono hc hs
  refine ⟨U, ?_, .threw T.heap.size, hrun, hend, Or.inr ⟨T.heap.size, rfl, cls, ce, locs, hx U hWs.alike f1 (fun q hq => f2 q hq (fun z hz => nomatch hz)), hce, hO.vm, hcl, hWs, hall, hf⟩⟩
  refine st1 _ ?_
  show Steps p.tables e below (T1.setTop { method := m, pc := pc + 3, locals := ls, stack := .ref T.heap.size :: rest, locked := none }) _
  jvm_step X₁.here [X₁.here.top, hexec, d3', Value.category]
  exact X₁.ldcStringW hexec (own := own) (text := text) (index := is) (a := sa) hown' hstr'.1 hstr'.2
    (g := { method := m, pc := pc + 4, locals := ls, stack := .ref T.heap.size :: .ref T.heap.size :: rest, locked := none }) rfl d4' _ hsteps
end Ends
section Bodies
variable {l : Launch}
theorem vx_ofW {y : MethodName} {ws ws' : List Cond} {rm : Room} {Pc : Array Value → State → Prop} {Qc : Array Value → State → Outcome → State → Prop} {XC : String → State → State → Prop} {mc ms : Nat} {free : Addr → Prop} {cc : ByteArray} {maxL : Nat} {ret : Option FieldType}
    (hy : plainName y.cls = true) (hw : ws = Cond.code y cc maxL ret :: ws')
    (body : ∀ p e s m args below meth c s₁, BodyLoose p l y (headSpec ws rm) cc maxL ret e s m args below meth c s₁ → c.maxLocals = maxL → (∀ x ∈ c.exceptionTable.toList, False) → Pc args s →
      W p l e (headSpec ws rm).room s m args below meth c s.heap [] 0 0 (vx_MQ below Qc XC args s mc ms free) (entryFrame m args maxL)) : vx_Met l y ws rm Pc Qc XC mc ms free := by
  refine MetFree.of_bodyS (code := cc) (maxLocals := maxL) (ret := ret) hy ?_ ?_
  · intro args s m h hn
    obtain ⟨meth, c, h1, h2, h3, h4, h5, h6, -, -⟩ := Cond.code_spec hn (atoms_spec (ws := ws) h _ (by rw [hw]; exact List.mem_cons_self))
    exact ⟨meth, c, h1, h2, h3, h4, h5, h6⟩
  · intro p e s m args below meth c s₁ B hml hP _
    have hh0 : s₁.heap = s.heap := by rw [B.state]; rfl
    have ht : ∀ x ∈ c.exceptionTable.toList, False := by
      obtain ⟨meth9, c9, h1, h2, -, -, -, -, h7, -⟩ := Cond.code_spec B.named (atoms_spec (ws := ws) B.pre _ (by rw [hw]; exact List.mem_cons_self))
      cases Option.some.inj (h1.symm.trans B.method)
      cases Option.some.inj (h2.symm.trans (Stand.of_body B).code)
      intro x hx
      rw [Array.isEmpty_iff.mp h7] at hx
      cases hx
    obtain ⟨t, a1, o, b1, b2, b3⟩ := body p e s m args below meth c s₁ B hml ht hP s₁ hh0 (Stand.of_body B)
    exact ⟨t, o, a1, b1, b2, b3⟩
/-- the table of a body with handlers -/
theorem vx_table {p : Program} {x y : MethodName} {S : Spec} {cc bytes : ByteArray} {maxL maxL' : Nat} {ret ret' : Option FieldType} {e : Env} {s s₁ : State} {m : MethodId} {args : Array Value} {below : List Frame} {meth : Method} {c : Code} {hh : List (Nat × Nat × Nat × Nat)}
    (B : BodyLoose p l y S cc maxL ret e s m args below meth c s₁) (h : (Cond.codeWith y bytes maxL' ret' hh).before args s = true) : c.exceptionTable.toList = tableOf hh := by
  obtain ⟨m9, meth9, c9, hn9, h1, h2, -, -, h6, -⟩ := Cond.codeWith_spec h
  cases Option.some.inj (hn9.symm.trans B.named)
  cases Option.some.inj (h1.symm.trans B.method)
  cases Option.some.inj (h2.symm.trans (Stand.of_body B).code)
  rw [← h6, table_eq]
end Bodies
end VXA
/-! ===== END ===== -/
/-! ===== BEGIN a static call of a method with an exception table ===== -/
section VXS
variable {p : Program} {l : Launch} {e : Env} {R : Room} {s : State} {m : MethodId} {args : Array Value} {below : List Frame} {meth : Method} {c : Code} {T : State} {H : Heap} {locs : List Loc} {cells slots : Nat}
abbrev vx_CSW (R : Room) (s : State) (args : Array Value) (own : String) (index : Nat) (y : MethodName) (bytes : ByteArray) (maxL : Nat) (ret : Option FieldType) (hh : List (Nat × Nat × Nat × Nat)) (ws : List Cond) (rm : Room) (mc ms n : Nat) : Prop :=
  (rm.cells = mc ∧ rm.slots = ms ∧ rm.frames + 1 ≤ R.frames ∧ 8 + (maxL + 11) + rm.locals ≤ R.locals ∧ (∀ w ∈ ws, ∀ (a' : Array Value) (U : State), s.WarmedH U.vm → w.before a' U = true) ∧ Cond.codeWith y bytes maxL ret hh ∈ ws) ∧
  (Cond.codeWith y bytes maxL ret hh).before args s = true ∧ (Cond.initialized y.cls).before args s = true ∧ (y.cls ≠ "java/lang/invoke/MethodHandle" ∧ y.cls ≠ "java/lang/invoke/VarHandle") ∧
  (∀ sig, parseMethodDescriptor y.desc = some sig → n = sig.parameters.length) ∧ (Cond.methodLink own index y).before args s = true ∧ (Cond.static y).before args s = true
theorem vx_cwSW {own : String} {index maxL mc ms : Nat} {y : MethodName} {bytes : ByteArray} {ret : Option FieldType} {hh : List (Nat × Nat × Nat × Nat)} {Ts ws ws' : List Cond} {rm : Room} (n : Nat) (ht : ∀ w ∈ Ts, w.before args s = true) (hT : GoodIn Ts (va_wsS own index y ws)) (hw : ws = Cond.codeWith y bytes maxL ret hh :: ws') (hrc : rm.cells = mc) (hrs : rm.slots = ms)
    (hd : y.cls ≠ "java/lang/invoke/MethodHandle" ∧ y.cls ≠ "java/lang/invoke/VarHandle" ∧ (parseMethodDescriptor y.desc).map (fun d => d.parameters.length) = some n) (hR : rm.frames + 1 ≤ R.frames ∧ 8 + (maxL + 11) + rm.locals ≤ R.locals) :
    vx_CSW R s args own index y bytes maxL ret hh ws rm mc ms n := by
  have ok : ∀ w ∈ va_wsS own index y ws, w.before args s = true := fun w h => ht w (hT w h).1
  have hG : GoodIn Ts ws := fun w h => hT w (by unfold va_wsS; exact List.mem_append_right _ h)
  have hc : Cond.codeWith y bytes maxL ret hh ∈ ws := by rw [hw]; exact List.mem_cons_self
  refine ⟨⟨hrc, hrs, hR.1, hR.2, pay_in ht hG, hc⟩, ht _ (hG _ hc).1, ok _ (by simp [va_wsS]), ⟨hd.1, hd.2.1⟩, fun sig h => ?_, ok _ (by simp [va_wsS]), ok _ (by simp [va_wsS])⟩
  have h2 := hd.2.2
  rw [h] at h2
  exact (Option.some.inj h2).symm
theorem vx_callSW (X : Stand p l e R s m args below meth c T locs cells slots) (hexec : p.tables.exec = Jvm.exec) {own : String} {index : Nat} {y : MethodName} {bytes : ByteArray} {maxL : Nat} {ret : Option FieldType} {hh : List (Nat × Nat × Nat × Nat)}
    (hown : s.vm.findClass own = some m.cls) (hlink : (Cond.methodLink own index y).before args s = true) (hstat : (Cond.static y).before args s = true) (hinit : (Cond.initialized y.cls).before args s = true)
    (hcode : (Cond.codeWith y bytes maxL ret hh).before args s = true) (hy : y.cls ≠ "java/lang/invoke/MethodHandle" ∧ y.cls ≠ "java/lang/invoke/VarHandle")
    {W9 : Nat} {Pre : Pt → Array Value → Prop} {Post : Pt → Array Value → Option Value → Pt → Prop} (hK : Back l R p e below s args y 3 W9 Pre Post)
    {g : JFrame} (hg : g.method = m) (hsize : g.locals.size = c.maxLocals) {argsL rest : List Value} (hlen : ∀ sig, parseMethodDescriptor y.desc = some sig → argsL.length = sig.parameters.length)
    (hstack : g.stack = argsL.reverse ++ rest) (hW : 2 * g.monitorRoom + (rest.map fun v => v.category).sum ≤ W9) (hdg : decode c.code g.pc = .ok (.invokestatic index, 3))
    (hpre : ∀ vm₁, s.WarmedH vm₁ → Pre ⟨T.setVm vm₁, locs, cells, slots⟩ argsL.toArray) :
    ∃ (v : Option Value) (vm₁ : Vm) (B : Pt), s.WarmedH vm₁ ∧ Stand p l e R s m args below meth c B.U B.locs B.cells B.slots ∧ Post ⟨T.setVm vm₁, locs, cells, slots⟩ argsL.toArray v B ∧
      ∀ target, Steps p.tables e below (B.U.setTop { g with pc := g.pc + 3, stack := v.toList ++ rest }) target → Steps p.tables e below (T.setTop g) target := by
  obtain ⟨mk, methM, cM, hnamed, hmethM, -, -, -, -, -, -, hsigM⟩ := Cond.codeWith_spec hcode
  have hstatic : methM.isStatic = true := Cond.static_spec hnamed hmethM hstat
  obtain ⟨kP, hkP, -⟩ := className_of_methodNamed hnamed
  have hinitP : kP.init = .initialized := Cond.initialized_spec (findClass_of_methodNamed hnamed) hkP hinit
  obtain ⟨vm₁, X₁, hstep₁⟩ := X.invokestatic hexec hown hlink hnamed hmethM hstatic hkP hinitP hy (g := g) hg (argsL := argsL) (rest := rest) (hlen _ hsigM) hstack hdg
  obtain ⟨v, B, X', hpost, hsteps⟩ := hK m meth c ⟨T.setVm vm₁, locs, cells, slots⟩ { g with stack := rest } (.invokestatic index) mk argsL.toArray X₁ hg hsize hdg hW (X₁.named hnamed) (hpre vm₁ X₁.warmed)
  exact ⟨v, vm₁, B, X₁.warmed, X', hpost, fun target h => hstep₁ _ fun acts => by rw [doInvoke_state]; exact hsteps.trans h⟩
theorem vx_runSW {y : MethodName} {bytes cc : ByteArray} {maxL nL mc ms n index : Nat} {ret : Option FieldType} {hh : List (Nat × Nat × Nat × Nat)} {ws : List Cond} {rm : Room} {Pc : Array Value → State → Prop} {Qc : Array Value → State → Outcome → State → Prop} {free : Addr → Prop} {Ts : List Cond} {own : String} {As rest : List Value} {g : JFrame}
    (S : CallFix p m c cc nL s args Ts own) (hM : Met l y ws rm Pc Qc mc ms free) (cw : vx_CSW R s args own index y bytes maxL ret hh ws rm mc ms n) (hp : PreS s H Pc As)
    (hg : g.method = m) (hn : As.length = n) (hsize : g.locals.size = nL) (hstack : g.stack = As.reverse ++ rest) (hW : 2 * g.monitorRoom + (rest.map fun v => v.category).sum ≤ 8) (hdg : decode cc g.pc = .ok (.invokestatic index, 3)) (hf : cells + mc ≤ R.cells ∧ slots + ms ≤ R.slots) :
    va_Run p l e R s m args below meth c H locs cells slots mc ms g rest (Qc As.toArray) (free) := by
  obtain ⟨⟨hrc, hrs, hfr, hlo, hws, hcw⟩, hcode, hini, hy, hlen, hl, hstt⟩ := cw
  have hK : Back l R p e below s args y 3 8 (PreOf R mc ms Pc) (PostOf Qc mc ms free) := va_backW (hh := hh) (bytes := bytes) (maxL := maxL) (ret := ret) hM hp.1 hrc hrs hfr hlo hws hcw (fun a' U hW => word_at hW (Or.inl (by first | rfl | simp [Cond.onTables, Cond.keeps, Cond.steady])) hini)
  obtain ⟨hx, hb, hml, ho, -⟩ := S
  intro T hT X
  obtain ⟨v, vm₁, ⟨U', l2, c2, s2⟩, hW₁, X', ⟨g', mk, t, L, e1, e2, hq, h1, hL, h2, h3⟩, st⟩ := vx_callSW X hx (hh := hh) (bytes := bytes) (maxL := maxL) (ret := ret) ho hl hstt hini hcode hy hK hg (hsize.trans hml.symm) (argsL := As) (rest := rest) (fun sig h => hn.trans (hlen sig h)) hstack hW (by rw [hb]; exact hdg)
    (fun vm₁ hW₁ => ⟨hf.1, hf.2, hp.2 (T.setVm vm₁) hT hW₁⟩)
  dsimp only [Pt.U, Pt.locs, Pt.cells, Pt.slots] at X' e1 e2 h1 h2 h3 st
  subst h1; subst h2; subst h3
  exact ⟨v, (T.setVm vm₁).calling g' mk As.toArray, t, U', L, hT, X', hL, e1, e2, hq, st⟩
/-- not caught here, past rows that name other classes: it goes on to the caller -/
theorem vx_outP {p : Program} {l : Launch} {e : Env} {R : Room} {s : State} {m : MethodId} {args : Array Value} {below : List Frame} {meth : Method} {c : Code} {H : Heap} {locs : List Loc} {cells slots : Nat} {free : Addr → Prop} {ls : Array Slot} {rest : List Value} {Qc : Array Value → State → Outcome → State → Prop} {XC : String → State → State → Prop}
    {pc : Nat} {own E : String} {ce : Cell} {q : Addr} {mc ms : Nat} (hown : s.vm.findClass own = some m.cls) (hlocks : meth.locks = false)
    (hpass : ∀ z ∈ c.exceptionTable.toList, covers z pc = false ∨ (z.catchType ≠ 0 ∧ ∃ nm : String, (Cond.classLink own z.catchType nm).before args s = true ∧ va_Nc E nm s)) (hcell : H[q]? = some ce) (hv : ce.vm = .none) (hcl : s.vm.findClass E = some ce.cls)
    (hx : ∀ t : State, t.heap = H → s.vm.Alike t.vm → XC E s t) (hf : ∀ z ∈ locs, free z.base) (hc : cells ≤ mc) (hs : slots ≤ ms) :
    vx_W p l e R s m args below meth c H locs cells slots (vx_MQ below Qc XC args s mc ms free) (F0 m pc ls rest) q := by
  intro T hT X
  have hpl : e.platform.magicAccessors = ({} : Platform).magicAccessors := by rw [X.admits.platform]
  obtain ⟨vm', hW', X', st⟩ := X.outThrough hlocks q (g := F0 m pc ls rest) rfl rfl rfl (cell := ce) (by rw [hT]; exact hcell) (by rw [hv]; rfl)
    (by obtain ⟨k9, h9, -⟩ := Vm.findClass_spec hcl; exact ⟨k9, h9⟩) (fun z hz => by
      rcases hpass z hz with h | ⟨hz0, nm, hl1, hn1⟩
      · exact Or.inl h
      · obtain ⟨c6, hc6, hcl6⟩ := Cond.classLink_spec hown hl1 e.platform hpl
        obtain ⟨a8, b8, h1, h2, h3⟩ := hn1
        cases Option.some.inj (h1.symm.trans hcl)
        cases Option.some.inj (h2.symm.trans hc6)
        exact Or.inr ⟨hz0, _, hcl6, h3⟩)
  obtain ⟨g₀, hfr⟩ := X'.frames_eq
  have hcell9 : ((T.setVm vm').setFrames (.throwing q :: below)).heap[q]? = some ce := by
    show T.heap[q]? = some ce
    rw [hT]; exact hcell
  have hend : Ended ((T.setVm vm').setFrames (.throwing q :: below)) below (.threw q) := State.frames_setFrames _ (State.cur_lt_of_frames hfr)
  refine ⟨(T.setVm vm').setFrames (.throwing q :: below), ?_, .threw q, X'.here.running, hend, Or.inr ⟨q, rfl, E, ce, locs, hx _ hT (X'.ends _).1.alike, hcell9, hv, hcl, (X'.ends _).1, (X'.ends _).2.mono hc hs, hf⟩⟩
  rw [X.pushThrowing_eq]
  exact st
/-- a thing of a world lies in the heap -/
theorem vx_lt {D : va_G} {cl : List vw_C} {ws : va_W} {H1 : Heap} (h : va_P D cl ws H1) {k : Nat} {q : Nat × va_E} (hk : ws[k]? = some q) : q.1 < H1.size := (h k q hk).lt
end VXS
/-! ===== END ===== -/
/-! ===== BEGIN methods with a table of their own: called by a name, returning or throwing ===== -/
section VXH
/-! vx_backW, vx_callVX, vx_callSX, vx_callVW, vx_runVW, vx_runVX, vx_runSX, vx_ofWH follow the same proofs as their sisters above (Free/Laws.lean, Shelf42/LK1.lean); vx_outP calls Shelf42/NT130.lean (outThrough). -/
section
variable {l : Launch} {R : Room} {p : Program} {e : Env} {below : List Frame} {s : State} {sargs : Array Value} {y : MethodName} {len W9 : Nat}
theorem vx_backW {ws : List Cond} {rm : Room} {Pc : Array Value → State → Prop} {Qc : Array Value → State → Outcome → State → Prop} {XC : String → State → State → Prop} {mc ms : Nat} {free : Addr → Prop} {bytes : ByteArray} {maxL : Nat} {ret : Option FieldType} {hh : List (Nat × Nat × Nat × Nat)}
    (hM : vx_Met l y ws rm Pc Qc XC mc ms free) (hblind : FrameBlind Pc) (hrc : rm.cells = mc) (hrs : rm.slots = ms)
    (hframes : rm.frames + 1 ≤ R.frames) (hlocals : W9 + (maxL + 11) + rm.locals ≤ R.locals)
    (hws : ∀ w ∈ ws, ∀ a' U, s.WarmedH U.vm → w.before a' U = true) (hcode : Cond.codeWith y bytes maxL ret hh ∈ ws) (hinit : ∀ a' U, s.WarmedH U.vm → (Cond.initialized y.cls).before a' U = true) :
    vx_Back l R p e below s sargs y len W9 (PreOf R mc ms Pc) (PostOf Qc mc ms free) (vx_Post XC mc ms free) := by
  intro m meth c A g ig mk a X hg hsize hdg hW hn hp
  have h1 : (headSpec ws rm).pre.before a A.U = true := atoms_intro fun w hw => hws w hw _ _ X.warmed
  have h2 : (Cond.codeWith y bytes maxL ret hh).before a A.U = true := hws _ hcode _ _ X.warmed
  have h3 : (Cond.initialized y.cls).before a A.U = true := hinit _ _ X.warmed
  have h4 : A.cells + (headSpec ws rm).room.cells ≤ R.cells := by rw [show (headSpec ws rm).room.cells = mc from hrc]; exact hp.1
  have h5 : A.slots + (headSpec ws rm).room.slots ≤ R.slots := by rw [show (headSpec ws rm).room.slots = ms from hrs]; exact hp.2.1
  have hPc : Pc a (A.U.calling g mk a) := hblind _ _ _ _ hp.2.2
  obtain ⟨U, Ls, c0, s0⟩ := A
  dsimp only [Pt.U, Pt.locs, Pt.cells, Pt.slots] at h1 h2 h3 h4 h5 X hn hPc ⊢
  obtain ⟨m9, methY, cY, hn9, hmY, hcY, -, hlY, -⟩ := Cond.codeWith_spec h2
  cases Option.some.inj (hn9.symm.trans hn)
  obtain ⟨kY, hkY, -⟩ := className_of_methodNamed hn
  have hinitY : kY.init = .initialized := Cond.initialized_spec (findClass_of_methodNamed hn) hkY h3
  have h : At U g.method c below := by rw [hg]; exact X.here
  have hlocals9 : W9 + (maxL + 11) + (headSpec ws rm).room.locals ≤ R.locals := hlocals
  have happ : (headSpec ws rm).appliesLoose y e.platform (U.calling g mk a) = true :=
    Spec.appliesLoose_calling (g := g) h hdg hn hkY hinitY
      (X.room_calling (g := g) (R' := (headSpec ws rm).room) hsize hmY hcY hframes (by rw [hlY]; omega) h4 h5) h1
  obtain ⟨mid, hmid⟩ := h.above
  have hfr : (U.setTop g).frames = (.java g :: mid) ++ below := by rw [State.frames_setTop' g h.top, hmid]; rfl
  obtain ⟨o, s₂, hsteps, -, hend, hq⟩ := Steps.callFree hM p X.admits X.cas X.clock (acts := []) hfr happ hPc trivial
  have hq' : vx_Q Qc XC mc ms free a (U.calling g mk a) o s₂ := hq
  rw [State.frames_setTop' g h.top] at hend
  obtain ⟨g₀, hg0⟩ := Option.isSome_iff_exists.mp h.top
  obtain ⟨r, hr⟩ := State.topJava?_eq_some.mp hg0
  have hr' : (({ U with heap := s₂.heap, slotsUsed := s₂.slotsUsed } : State).setVm s₂.vm).frames = .java g₀ :: r := hr
  rcases hq' with ⟨hqc, L, hfe, hL⟩ | ⟨q, rfl, E, ce, L, hx, hce, hcv, hcl, hW₂, hsm, hL⟩
  · obtain ⟨⟨v, rfl⟩, hW₂, e2, q2, q3, q4, q5, q6⟩ := id hfe
    have e3 : s₂ = ({ (U.calling g mk a).setFrames s₂.frames with heap := s₂.heap, slotsUsed := s₂.slotsUsed } : State).setVm s₂.vm := by
      have : s₂ = ({ s₂ with vm := (U.calling g mk a).vm } : State).setVm s₂.vm := rfl
      rw [e2] at this
      exact this
    obtain ⟨c₂, i₂, len₂, hc₂, hd₂, hf₂⟩ := hend
    have hW' : U.WarmedH s₂.vm := hW₂
    have hcc : c₂ = c := by
      have h1 : s₂.code? g.method = U.code? g.method := by
        rw [State.code?_eq, State.code?_eq, hW'.alike.method?]
      exact Option.some.inj (hc₂.symm.trans (h1.trans h.code))
    subst hcc
    have hlen : len₂ = len := by rw [hdg] at hd₂; cases hd₂; rfl
    subst hlen
    have hs₂ : s₂ = (({ U with heap := s₂.heap, slotsUsed := s₂.slotsUsed } : State).setVm s₂.vm).setTop { g with pc := g.pc + len₂, stack := v.toList ++ g.stack } := by
      refine e3.trans ?_
      rw [hf₂, State.calling_eq h.top, State.setFrames_setFrames, State.setTop_of_frames _ hr', hr]
      rfl
    have hsame : U.sameButNew ({ U with heap := s₂.heap, slotsUsed := s₂.slotsUsed } : State) L mc ms := by
      refine ⟨?_, q2, q3, q4, q5, q6⟩
      obtain ⟨t, ht, -⟩ := State.frames_cons hr
      show ({ U with heap := s₂.heap, slotsUsed := s₂.slotsUsed } : State) = { U.setFrames U.frames with heap := s₂.heap, slotsUsed := s₂.slotsUsed }
      rw [State.setFrames_self ht]
    subst hg
    refine Or.inl ⟨v, ⟨(({ U with heap := s₂.heap, slotsUsed := s₂.slotsUsed } : State).setVm s₂.vm), Ls ++ L, c0 + mc, s0 + ms⟩,
      ⟨X.admits, X.cas, X.clock, X.frames, X.room, X.hears, X.method, X.code, (X.here.setHeapUsed s₂.heap s₂.slotsUsed).setVm hW'.alike, X.tail, State.WarmedH.trans X.warmed hW', X.limits, X.bytes, X.same.trans (hsame.setVm s.vm)⟩,
      ⟨g, mk, s₂, L, rfl, rfl, hqc, rfl, hL, rfl, rfl⟩, ?_⟩
    show Steps p.tables e below _ ((({ U with heap := s₂.heap, slotsUsed := s₂.slotsUsed } : State).setVm s₂.vm).setTop { g with pc := g.pc + len₂, stack := v.toList ++ g.stack })
    rw [← hs₂]
    exact hsteps
  · obtain ⟨e2, q2, q3, q4, q5, q6⟩ := id hsm
    have e3 : s₂ = ({ (U.calling g mk a).setFrames s₂.frames with heap := s₂.heap, slotsUsed := s₂.slotsUsed } : State).setVm s₂.vm := by
      have : s₂ = ({ s₂ with vm := (U.calling g mk a).vm } : State).setVm s₂.vm := rfl
      rw [e2] at this
      exact this
    have hf₂ : s₂.frames = .throwing q :: .java g :: U.frames.tail := hend
    have hW' : U.WarmedH s₂.vm := hW₂
    have hs₂ : s₂ = ((({ U with heap := s₂.heap, slotsUsed := s₂.slotsUsed } : State).setVm s₂.vm).setTop g).pushFrame (.throwing q) := by
      refine e3.trans ?_
      rw [hf₂, State.calling_eq h.top, State.setFrames_setFrames, State.pushFrame, State.frames_setTop _ hr', State.setTop_of_frames _ hr', State.setFrames_setFrames, hr]
      rfl
    have hsame : U.sameButNew ({ U with heap := s₂.heap, slotsUsed := s₂.slotsUsed } : State) L mc ms := by
      refine ⟨?_, q2, q3, q4, q5, q6⟩
      obtain ⟨t, ht, -⟩ := State.frames_cons hr
      show ({ U with heap := s₂.heap, slotsUsed := s₂.slotsUsed } : State) = { U.setFrames U.frames with heap := s₂.heap, slotsUsed := s₂.slotsUsed }
      rw [State.setFrames_self ht]
    subst hg
    refine Or.inr ⟨q, ⟨(({ U with heap := s₂.heap, slotsUsed := s₂.slotsUsed } : State).setVm s₂.vm), Ls ++ L, c0 + mc, s0 + ms⟩,
      ⟨X.admits, X.cas, X.clock, X.frames, X.room, X.hears, X.method, X.code, (X.here.setHeapUsed s₂.heap s₂.slotsUsed).setVm hW'.alike, X.tail, State.WarmedH.trans X.warmed hW', X.limits, X.bytes, X.same.trans (hsame.setVm s.vm)⟩,
      ⟨g, mk, s₂, L, E, ce, rfl, rfl, hx, hce, hcv, hcl, rfl, hL, rfl, rfl⟩, ?_⟩
    show Steps p.tables e below _ (((({ U with heap := s₂.heap, slotsUsed := s₂.slotsUsed } : State).setVm s₂.vm).setTop g).pushFrame (.throwing q))
    rw [← hs₂]
    exact hsteps
end
variable {p : Program} {l : Launch} {e : Env} {R : Room} {s : State} {m : MethodId} {args : Array Value} {below : List Frame} {meth : Method} {c : Code} {T : State} {H : Heap} {locs : List Loc} {cells slots : Nat}
theorem vx_callVX (X : Stand p l e R s m args below meth c T locs cells slots) (hexec : p.tables.exec = Jvm.exec) {own C : String} {index : Nat} {y : MethodName} {bytes : ByteArray} {maxL : Nat} {ret : Option FieldType} {hh : List (Nat × Nat × Nat × Nat)}
    (hown : s.vm.findClass own = some m.cls) (hlink : (Cond.methodLink own index y).before args s = true) (hinst : (Cond.instanceMethod y).before args s = true) (hsel : (Cond.selects C y y).before args s = true)
    (hcode : (Cond.codeWith y bytes maxL ret hh).before args s = true) (hy : y.cls ≠ "java/lang/invoke/MethodHandle" ∧ y.cls ≠ "java/lang/invoke/VarHandle")
    {W9 : Nat} {Pre : Pt → Array Value → Prop} {Post : Pt → Array Value → Option Value → Pt → Prop} {PostX : Pt → Array Value → Addr → Pt → Prop} (hK : vx_Back l R p e below s args y 3 W9 Pre Post PostX)
    {b : Addr} {cellB : Cell} (hcell : T.heap[b]? = some cellB) (hobj : cellB.vm.isStatics = false) (hcls : s.vm.findClass C = some cellB.cls)
    {g : JFrame} (hg : g.method = m) (hsize : g.locals.size = c.maxLocals) {argsL rest : List Value} (hlen : ∀ sig, parseMethodDescriptor y.desc = some sig → argsL.length = sig.parameters.length)
    (hstack : g.stack = argsL.reverse ++ .ref b :: rest) (hW : 2 * g.monitorRoom + (rest.map fun v => v.category).sum ≤ W9) (hdg : decode c.code g.pc = .ok (.invokevirtual index, 3))
    (hpre : ∀ vm₁, s.WarmedH vm₁ → Pre ⟨T.setVm vm₁, locs, cells, slots⟩ (Value.ref b :: argsL).toArray) :
    (∃ (v : Option Value) (vm₁ : Vm) (B : Pt), s.WarmedH vm₁ ∧ Stand p l e R s m args below meth c B.U B.locs B.cells B.slots ∧ Post ⟨T.setVm vm₁, locs, cells, slots⟩ (Value.ref b :: argsL).toArray v B ∧
      ∀ target, Steps p.tables e below (B.U.setTop { g with pc := g.pc + 3, stack := v.toList ++ rest }) target → Steps p.tables e below (T.setTop g) target) ∨
    (∃ (q : Addr) (vm₁ : Vm) (B : Pt), s.WarmedH vm₁ ∧ Stand p l e R s m args below meth c B.U B.locs B.cells B.slots ∧ PostX ⟨T.setVm vm₁, locs, cells, slots⟩ (Value.ref b :: argsL).toArray q B ∧
      Steps p.tables e below (T.setTop g) ((B.U.setTop { g with stack := rest }).pushFrame (.throwing q))) := by
  obtain ⟨mk, methM, hnamed, hmethM, hstM, habM⟩ := Cond.instanceMethod_spec hinst
  obtain ⟨m8, methM', cM, hn8, hmethM', -, -, -, -, -, -, hsigM⟩ := Cond.codeWith_spec hcode
  cases Option.some.inj (hn8.symm.trans hnamed)
  cases hmethM.symm.trans hmethM'
  obtain ⟨c2, r2, m2, q1, q2, q3, q4, kP, hkP, hkPi⟩ := Cond.selects_spec hsel
  cases hcls.symm.trans q1
  cases (State.methodFound?_of_named hnamed hy).symm.trans q2
  cases hnamed.symm.trans q3
  have hselP : selectMethod e.platform s.vm cellB.cls mk = .method mk := by rw [Launch.admits_selectMethod X.admits]; exact q4
  obtain ⟨vm₁, X₁, hstep₁⟩ := X.invokevirtual hexec hown hlink hnamed hmethM hstM hkP hkPi hy (a := b) (cell := cellB) hcell
    (fun z h => by rw [h] at hobj; cases hobj) hselP hmethM habM hkP hkPi (g := g) hg (argsL := argsL) (rest := rest) (hlen _ hsigM) hstack hdg
  rcases hK m meth c ⟨T.setVm vm₁, locs, cells, slots⟩ { g with stack := rest } (.invokevirtual index) mk (Value.ref b :: argsL).toArray X₁ hg hsize hdg hW (X₁.named hnamed) (hpre vm₁ X₁.warmed) with ⟨v, B, X', hpost, hsteps⟩ | ⟨q, B, X', hpost, hsteps⟩
  · exact Or.inl ⟨v, vm₁, B, X₁.warmed, X', hpost, fun target h => hstep₁ _ fun acts => by rw [doInvoke_state]; exact hsteps.trans h⟩
  · exact Or.inr ⟨q, vm₁, B, X₁.warmed, X', hpost, hstep₁ _ fun acts => by rw [doInvoke_state]; exact hsteps⟩
theorem vx_callSX (X : Stand p l e R s m args below meth c T locs cells slots) (hexec : p.tables.exec = Jvm.exec) {own : String} {index : Nat} {y : MethodName} {bytes : ByteArray} {maxL : Nat} {ret : Option FieldType} {hh : List (Nat × Nat × Nat × Nat)}
    (hown : s.vm.findClass own = some m.cls) (hlink : (Cond.methodLink own index y).before args s = true) (hstat : (Cond.static y).before args s = true) (hinit : (Cond.initialized y.cls).before args s = true)
    (hcode : (Cond.codeWith y bytes maxL ret hh).before args s = true) (hy : y.cls ≠ "java/lang/invoke/MethodHandle" ∧ y.cls ≠ "java/lang/invoke/VarHandle")
    {W9 : Nat} {Pre : Pt → Array Value → Prop} {Post : Pt → Array Value → Option Value → Pt → Prop} {PostX : Pt → Array Value → Addr → Pt → Prop} (hK : vx_Back l R p e below s args y 3 W9 Pre Post PostX)
    {g : JFrame} (hg : g.method = m) (hsize : g.locals.size = c.maxLocals) {argsL rest : List Value} (hlen : ∀ sig, parseMethodDescriptor y.desc = some sig → argsL.length = sig.parameters.length)
    (hstack : g.stack = argsL.reverse ++ rest) (hW : 2 * g.monitorRoom + (rest.map fun v => v.category).sum ≤ W9) (hdg : decode c.code g.pc = .ok (.invokestatic index, 3))
    (hpre : ∀ vm₁, s.WarmedH vm₁ → Pre ⟨T.setVm vm₁, locs, cells, slots⟩ argsL.toArray) :
    (∃ (v : Option Value) (vm₁ : Vm) (B : Pt), s.WarmedH vm₁ ∧ Stand p l e R s m args below meth c B.U B.locs B.cells B.slots ∧ Post ⟨T.setVm vm₁, locs, cells, slots⟩ argsL.toArray v B ∧
      ∀ target, Steps p.tables e below (B.U.setTop { g with pc := g.pc + 3, stack := v.toList ++ rest }) target → Steps p.tables e below (T.setTop g) target) ∨
    (∃ (q : Addr) (vm₁ : Vm) (B : Pt), s.WarmedH vm₁ ∧ Stand p l e R s m args below meth c B.U B.locs B.cells B.slots ∧ PostX ⟨T.setVm vm₁, locs, cells, slots⟩ argsL.toArray q B ∧
      Steps p.tables e below (T.setTop g) ((B.U.setTop { g with stack := rest }).pushFrame (.throwing q))) := by
  obtain ⟨mk, methM, cM, hnamed, hmethM, -, -, -, -, -, -, hsigM⟩ := Cond.codeWith_spec hcode
  have hstatic : methM.isStatic = true := Cond.static_spec hnamed hmethM hstat
  obtain ⟨kP, hkP, -⟩ := className_of_methodNamed hnamed
  have hinitP : kP.init = .initialized := Cond.initialized_spec (findClass_of_methodNamed hnamed) hkP hinit
  obtain ⟨vm₁, X₁, hstep₁⟩ := X.invokestatic hexec hown hlink hnamed hmethM hstatic hkP hinitP hy (g := g) hg (argsL := argsL) (rest := rest) (hlen _ hsigM) hstack hdg
  rcases hK m meth c ⟨T.setVm vm₁, locs, cells, slots⟩ { g with stack := rest } (.invokestatic index) mk argsL.toArray X₁ hg hsize hdg hW (X₁.named hnamed) (hpre vm₁ X₁.warmed) with ⟨v, B, X', hpost, hsteps⟩ | ⟨q, B, X', hpost, hsteps⟩
  · exact Or.inl ⟨v, vm₁, B, X₁.warmed, X', hpost, fun target h => hstep₁ _ fun acts => by rw [doInvoke_state]; exact hsteps.trans h⟩
  · exact Or.inr ⟨q, vm₁, B, X₁.warmed, X', hpost, hstep₁ _ fun acts => by rw [doInvoke_state]; exact hsteps⟩
theorem vx_callVW (X : Stand p l e R s m args below meth c T locs cells slots) (hexec : p.tables.exec = Jvm.exec) {own C : String} {index : Nat} {y : MethodName} {bytes : ByteArray} {maxL : Nat} {ret : Option FieldType} {hh : List (Nat × Nat × Nat × Nat)}
    (hown : s.vm.findClass own = some m.cls) (hlink : (Cond.methodLink own index y).before args s = true) (hinst : (Cond.instanceMethod y).before args s = true) (hsel : (Cond.selects C y y).before args s = true)
    (hcode : (Cond.codeWith y bytes maxL ret hh).before args s = true) (hy : y.cls ≠ "java/lang/invoke/MethodHandle" ∧ y.cls ≠ "java/lang/invoke/VarHandle")
    {W9 : Nat} {Pre : Pt → Array Value → Prop} {Post : Pt → Array Value → Option Value → Pt → Prop} (hK : Back l R p e below s args y 3 W9 Pre Post)
    {b : Addr} {cellB : Cell} (hcell : T.heap[b]? = some cellB) (hobj : cellB.vm.isStatics = false) (hcls : s.vm.findClass C = some cellB.cls)
    {g : JFrame} (hg : g.method = m) (hsize : g.locals.size = c.maxLocals) {argsL rest : List Value} (hlen : ∀ sig, parseMethodDescriptor y.desc = some sig → argsL.length = sig.parameters.length)
    (hstack : g.stack = argsL.reverse ++ .ref b :: rest) (hW : 2 * g.monitorRoom + (rest.map fun v => v.category).sum ≤ W9) (hdg : decode c.code g.pc = .ok (.invokevirtual index, 3))
    (hpre : ∀ vm₁, s.WarmedH vm₁ → Pre ⟨T.setVm vm₁, locs, cells, slots⟩ (Value.ref b :: argsL).toArray) :
    ∃ (v : Option Value) (vm₁ : Vm) (B : Pt), s.WarmedH vm₁ ∧ Stand p l e R s m args below meth c B.U B.locs B.cells B.slots ∧ Post ⟨T.setVm vm₁, locs, cells, slots⟩ (Value.ref b :: argsL).toArray v B ∧
      ∀ target, Steps p.tables e below (B.U.setTop { g with pc := g.pc + 3, stack := v.toList ++ rest }) target → Steps p.tables e below (T.setTop g) target := by
  obtain ⟨mk, methM, hnamed, hmethM, hstM, habM⟩ := Cond.instanceMethod_spec hinst
  obtain ⟨m8, methM', cM, hn8, hmethM', -, -, -, -, -, -, hsigM⟩ := Cond.codeWith_spec hcode
  cases Option.some.inj (hn8.symm.trans hnamed)
  cases hmethM.symm.trans hmethM'
  obtain ⟨c2, r2, m2, q1, q2, q3, q4, kP, hkP, hkPi⟩ := Cond.selects_spec hsel
  cases hcls.symm.trans q1
  cases (State.methodFound?_of_named hnamed hy).symm.trans q2
  cases hnamed.symm.trans q3
  have hselP : selectMethod e.platform s.vm cellB.cls mk = .method mk := by rw [Launch.admits_selectMethod X.admits]; exact q4
  obtain ⟨vm₁, X₁, hstep₁⟩ := X.invokevirtual hexec hown hlink hnamed hmethM hstM hkP hkPi hy (a := b) (cell := cellB) hcell
    (fun z h => by rw [h] at hobj; cases hobj) hselP hmethM habM hkP hkPi (g := g) hg (argsL := argsL) (rest := rest) (hlen _ hsigM) hstack hdg
  obtain ⟨v, B, X', hpost, hsteps⟩ := hK m meth c ⟨T.setVm vm₁, locs, cells, slots⟩ { g with stack := rest } (.invokevirtual index) mk (Value.ref b :: argsL).toArray X₁ hg hsize hdg hW (X₁.named hnamed) (hpre vm₁ X₁.warmed)
  exact ⟨v, vm₁, B, X₁.warmed, X', hpost, fun target h => hstep₁ _ fun acts => by rw [doInvoke_state]; exact hsteps.trans h⟩
abbrev vx_CVW (R : Room) (s : State) (args : Array Value) (own C : String) (index : Nat) (y : MethodName) (bytes : ByteArray) (maxL : Nat) (ret : Option FieldType) (hh : List (Nat × Nat × Nat × Nat)) (ws : List Cond) (rm : Room) (mc ms n : Nat) : Prop :=
  (rm.cells = mc ∧ rm.slots = ms ∧ rm.frames + 1 ≤ R.frames ∧ 8 + (maxL + 11) + rm.locals ≤ R.locals ∧ (∀ w ∈ ws, ∀ (a' : Array Value) (U : State), s.WarmedH U.vm → w.before a' U = true) ∧ Cond.codeWith y bytes maxL ret hh ∈ ws) ∧
  (Cond.codeWith y bytes maxL ret hh).before args s = true ∧ (Cond.initialized y.cls).before args s = true ∧ (y.cls ≠ "java/lang/invoke/MethodHandle" ∧ y.cls ≠ "java/lang/invoke/VarHandle") ∧
  (∀ sig, parseMethodDescriptor y.desc = some sig → n = sig.parameters.length) ∧ (Cond.methodLink own index y).before args s = true ∧ (Cond.instanceMethod y).before args s = true ∧ (Cond.selects C y y).before args s = true
theorem vx_cwVW {own C : String} {index maxL mc ms : Nat} {y : MethodName} {bytes : ByteArray} {ret : Option FieldType} {hh : List (Nat × Nat × Nat × Nat)} {Ts ws ws' : List Cond} {rm : Room} (n : Nat) (ht : ∀ w ∈ Ts, w.before args s = true) (hT : GoodIn Ts (wsV own index C y ws)) (hw : ws = Cond.codeWith y bytes maxL ret hh :: ws') (hrc : rm.cells = mc) (hrs : rm.slots = ms)
    (hd : y.cls = C ∧ y.cls ≠ "java/lang/invoke/MethodHandle" ∧ y.cls ≠ "java/lang/invoke/VarHandle" ∧ (parseMethodDescriptor y.desc).map (fun d => d.parameters.length) = some n) (hR : rm.frames + 1 ≤ R.frames ∧ 8 + (maxL + 11) + rm.locals ≤ R.locals) :
    vx_CVW R s args own C index y bytes maxL ret hh ws rm mc ms n := by
  obtain ⟨hC, hd⟩ := hd
  subst hC
  have ok : ∀ w ∈ wsV own index y.cls y ws, w.before args s = true := fun w h => ht w (hT w h).1
  have hG : GoodIn Ts ws := fun w h => hT w (by unfold wsV; exact List.mem_append_right _ h)
  have hc : Cond.codeWith y bytes maxL ret hh ∈ ws := by rw [hw]; exact List.mem_cons_self
  refine ⟨⟨hrc, hrs, hR.1, hR.2, pay_in ht hG, hc⟩, ht _ (hG _ hc).1, ok _ (by simp [wsV]), ⟨hd.1, hd.2.1⟩, fun sig h => ?_, ok _ (by simp [wsV]), ok _ (by simp [wsV]), ok _ (by simp [wsV])⟩
  have h2 := hd.2.2
  rw [h] at h2
  exact (Option.some.inj h2).symm
theorem vx_runVW {y : MethodName} {bytes cc : ByteArray} {maxL nL mc ms n index : Nat} {ret : Option FieldType} {hh : List (Nat × Nat × Nat × Nat)} {ws : List Cond} {rm : Room} {Pc : Array Value → State → Prop} {Qc : Array Value → State → Outcome → State → Prop} {free : Addr → Prop} {Ts : List Cond} {own C : String} {b : Addr} {As rest : List Value} {g : JFrame}
    (S : CallFix p m c cc nL s args Ts own) (hM : Met l y ws rm Pc Qc mc ms free) (cw : vx_CVW R s args own C index y bytes maxL ret hh ws rm mc ms n) (hp : PreV s H C b Pc As)
    (hg : g.method = m) (hn : As.length = n) (hsize : g.locals.size = nL) (hstack : g.stack = As.reverse ++ .ref b :: rest) (hW : 2 * g.monitorRoom + (rest.map fun v => v.category).sum ≤ 8) (hdg : decode cc g.pc = .ok (.invokevirtual index, 3)) (hf : cells + mc ≤ R.cells ∧ slots + ms ≤ R.slots) :
    va_Run p l e R s m args below meth c H locs cells slots mc ms g rest (Qc (Value.ref b :: As).toArray) free := by
  obtain ⟨⟨hrc, hrs, hfr, hlo, hws, hcw⟩, hcode, hini, hy, hlen, hl, hin, hse⟩ := cw
  have hK : Back l R p e below s args y 3 8 (PreOf R mc ms Pc) (PostOf Qc mc ms free) := va_backW (hh := hh) (bytes := bytes) (maxL := maxL) (ret := ret) hM hp.1 hrc hrs hfr hlo hws hcw (fun a' U hW => word_at hW (Or.inl (by first | rfl | simp [Cond.onTables, Cond.keeps, Cond.steady])) hini)
  obtain ⟨hx, hb, hml, ho, -⟩ := S
  obtain ⟨-, ⟨cellB, hcB, hoB, hclB⟩, hPc⟩ := hp
  intro T hT X
  obtain ⟨v, vm₁, ⟨U', l2, c2, s2⟩, hW₁, X', ⟨g', mk, t, L, e1, e2, hq, h1, hL, h2, h3⟩, st⟩ := vx_callVW X hx (C := C) (hh := hh) (bytes := bytes) (maxL := maxL) (ret := ret) ho hl hin hse hcode hy hK (by rw [hT]; exact hcB) hoB hclB hg (hsize.trans hml.symm) (argsL := As) (rest := rest) (fun sig h => hn.trans (hlen sig h)) hstack hW (by rw [hb]; exact hdg)
    (fun vm₁ hW₁ => ⟨hf.1, hf.2, hPc (T.setVm vm₁) hT hW₁⟩)
  dsimp only [Pt.U, Pt.locs, Pt.cells, Pt.slots] at X' e1 e2 h1 h2 h3 st
  subst h1; subst h2; subst h3
  exact ⟨v, (T.setVm vm₁).calling g' mk (Value.ref b :: As).toArray, t, U', L, hT, X', hL, e1, e2, hq, st⟩
section
variable {y : MethodName} {bytes cc : ByteArray} {maxL nL mc ms n index : Nat} {ret : Option FieldType} {ws : List Cond} {rm : Room} {Pc : Array Value → State → Prop} {Qc : Array Value → State → Outcome → State → Prop} {XC : String → State → State → Prop} {free : Addr → Prop} {Ts : List Cond} {own C : String} {b : Addr} {As rest : List Value} {g : JFrame}
theorem vx_runVX {hh : List (Nat × Nat × Nat × Nat)} (S : CallFix p m c cc nL s args Ts own) (hM : vx_Met l y ws rm Pc Qc XC mc ms free) (cw : vx_CVW R s args own C index y bytes maxL ret hh ws rm mc ms n) (hp : PreV s H C b Pc As)
    (hg : g.method = m) (hn : As.length = n) (hsize : g.locals.size = nL) (hstack : g.stack = As.reverse ++ .ref b :: rest) (hW : 2 * g.monitorRoom + (rest.map fun v => v.category).sum ≤ 8) (hdg : decode cc g.pc = .ok (.invokevirtual index, 3)) (hf : cells + mc ≤ R.cells ∧ slots + ms ≤ R.slots) :
    vx_Run p l e R s m args below meth c H locs cells slots mc ms g rest (Qc (Value.ref b :: As).toArray) XC free := by
  obtain ⟨⟨hrc, hrs, hfr, hlo, hws, hcw⟩, hcode, hini, hy, hlen, hl, hin, hse⟩ := cw
  have hK : vx_Back l R p e below s args y 3 8 (PreOf R mc ms Pc) (PostOf Qc mc ms free) (vx_Post XC mc ms free) := vx_backW (hh := hh) (bytes := bytes) (maxL := maxL) (ret := ret) hM hp.1 hrc hrs hfr hlo hws hcw (fun a' U hW => word_at hW (Or.inl (by first | rfl | simp [Cond.onTables, Cond.keeps, Cond.steady])) hini)
  obtain ⟨hx, hb, hml, ho, -⟩ := S
  obtain ⟨-, ⟨cellB, hcB, hoB, hclB⟩, hPc⟩ := hp
  intro T hT X
  rcases vx_callVX X hx (C := C) (hh := hh) (bytes := bytes) (maxL := maxL) (ret := ret) ho hl hin hse hcode hy hK (by rw [hT]; exact hcB) hoB hclB hg (hsize.trans hml.symm) (argsL := As) (rest := rest) (fun sig h => hn.trans (hlen sig h)) hstack hW (by rw [hb]; exact hdg)
    (fun vm₁ hW₁ => ⟨hf.1, hf.2, hPc (T.setVm vm₁) hT hW₁⟩) with ⟨v, vm₁, ⟨U', l2, c2, s2⟩, hW₁, X', ⟨g', mk, t, L, e1, e2, hq, h1, hL, h2, h3⟩, st⟩ | ⟨q, vm₁, ⟨U', l2, c2, s2⟩, hW₁, X', ⟨g', mk, t, L, E, ce, e1, e2, hq, hce, hcv, hcl, h1, hL, h2, h3⟩, st⟩
  · dsimp only [Pt.U, Pt.locs, Pt.cells, Pt.slots] at X' e1 e2 h1 h2 h3 st
    subst h1; subst h2; subst h3
    exact Or.inl ⟨v, (T.setVm vm₁).calling g' mk (Value.ref b :: As).toArray, t, U', L, hT, X', hL, e1, e2, hq, st⟩
  · dsimp only [Pt.U, Pt.locs, Pt.cells, Pt.slots] at X' e1 e2 h1 h2 h3 st hcl
    subst h1; subst h2; subst h3
    exact Or.inr ⟨q, (T.setVm vm₁).calling g' mk (Value.ref b :: As).toArray, t, U', L, E, ce, hT, X', hL, e1, e2, hq, hce, hcv, vx_cls hW₁ hcl, st⟩
theorem vx_runSX {hh : List (Nat × Nat × Nat × Nat)} (S : CallFix p m c cc nL s args Ts own) (hM : vx_Met l y ws rm Pc Qc XC mc ms free) (cw : vx_CSW R s args own index y bytes maxL ret hh ws rm mc ms n) (hp : PreS s H Pc As)
    (hg : g.method = m) (hn : As.length = n) (hsize : g.locals.size = nL) (hstack : g.stack = As.reverse ++ rest) (hW : 2 * g.monitorRoom + (rest.map fun v => v.category).sum ≤ 8) (hdg : decode cc g.pc = .ok (.invokestatic index, 3)) (hf : cells + mc ≤ R.cells ∧ slots + ms ≤ R.slots) :
    vx_Run p l e R s m args below meth c H locs cells slots mc ms g rest (Qc As.toArray) XC free := by
  obtain ⟨⟨hrc, hrs, hfr, hlo, hws, hcw⟩, hcode, hini, hy, hlen, hl, hstt⟩ := cw
  have hK : vx_Back l R p e below s args y 3 8 (PreOf R mc ms Pc) (PostOf Qc mc ms free) (vx_Post XC mc ms free) := vx_backW (hh := hh) (bytes := bytes) (maxL := maxL) (ret := ret) hM hp.1 hrc hrs hfr hlo hws hcw (fun a' U hW => word_at hW (Or.inl (by first | rfl | simp [Cond.onTables, Cond.keeps, Cond.steady])) hini)
  obtain ⟨hx, hb, hml, ho, -⟩ := S
  intro T hT X
  rcases vx_callSX X hx (hh := hh) (bytes := bytes) (maxL := maxL) (ret := ret) ho hl hstt hini hcode hy hK hg (hsize.trans hml.symm) (argsL := As) (rest := rest) (fun sig h => hn.trans (hlen sig h)) hstack hW (by rw [hb]; exact hdg)
    (fun vm₁ hW₁ => ⟨hf.1, hf.2, hp.2 (T.setVm vm₁) hT hW₁⟩) with ⟨v, vm₁, ⟨U', l2, c2, s2⟩, hW₁, X', ⟨g', mk, t, L, e1, e2, hq, h1, hL, h2, h3⟩, st⟩ | ⟨q, vm₁, ⟨U', l2, c2, s2⟩, hW₁, X', ⟨g', mk, t, L, E, ce, e1, e2, hq, hce, hcv, hcl, h1, hL, h2, h3⟩, st⟩
  · dsimp only [Pt.U, Pt.locs, Pt.cells, Pt.slots] at X' e1 e2 h1 h2 h3 st
    subst h1; subst h2; subst h3
    exact Or.inl ⟨v, (T.setVm vm₁).calling g' mk As.toArray, t, U', L, hT, X', hL, e1, e2, hq, st⟩
  · dsimp only [Pt.U, Pt.locs, Pt.cells, Pt.slots] at X' e1 e2 h1 h2 h3 st hcl
    subst h1; subst h2; subst h3
    exact Or.inr ⟨q, (T.setVm vm₁).calling g' mk As.toArray, t, U', L, E, ce, hT, X', hL, e1, e2, hq, hce, hcv, vx_cls hW₁ hcl, st⟩
end
end VXH
theorem vx_ofWH {l : Launch} {y : MethodName} {ws ws' : List Cond} {rm : Room} {Pc : Array Value → State → Prop} {Qc : Array Value → State → Outcome → State → Prop} {XC : String → State → State → Prop} {mc ms : Nat} {free : Addr → Prop} {cc : ByteArray} {maxL : Nat} {ret : Option FieldType} {hh : List (Nat × Nat × Nat × Nat)}
    (hy : plainName y.cls = true) (hw : ws = Cond.codeWith y cc maxL ret hh :: ws')
    (body : ∀ p e s m args below meth c s₁, BodyLoose p l y (headSpec ws rm) cc maxL ret e s m args below meth c s₁ → c.maxLocals = maxL → Pc args s →
      W p l e (headSpec ws rm).room s m args below meth c s.heap [] 0 0 (vx_MQ below Qc XC args s mc ms free) (entryFrame m args maxL)) : vx_Met l y ws rm Pc Qc XC mc ms free := by
  refine MetFree.of_bodyS (code := cc) (maxLocals := maxL) (ret := ret) hy ?_ ?_
  · intro args s m h hn
    obtain ⟨m9, meth, c, hn9, h1, h2, h3, h4, -, h5, h6, -⟩ := Cond.codeWith_spec (atoms_spec (ws := ws) h _ (by rw [hw]; exact List.mem_cons_self))
    cases hn.symm.trans hn9
    exact ⟨meth, c, h1, h2, h3, h4, h5, h6⟩
  · intro p e s m args below meth c s₁ B hml hP _
    have hh0 : s₁.heap = s.heap := by rw [B.state]; rfl
    obtain ⟨t, a1, o, b1, b2, b3⟩ := body p e s m args below meth c s₁ B hml hP s₁ hh0 (Stand.of_body B)
    exact ⟨t, o, a1, b1, b2, b3⟩
/-! ===== END ===== -/

/-! ===== BEGIN printed: names, fields, word lists, decode rows ===== -/
def RX0 : String := "SlideMills$Dictionary"
def TX0 : u_T := fun k => match k with
  | 0 => ("SlideMills$Dictionary", "counts", "[I", true)
  | 1 => ("SlideMills$Dictionary", "lastPlaces", "[I", true)
  | _ => ("SlideMills$Dictionary", "earlierPlaces", "[I", true)
def tyX0 : Nat → FieldType := fun k => match k with
  | 0 => .array .int
  | 1 => .array .int
  | _ => .array .int
abbrev wsX00 : List Cond := u_ws RX0 TX0 3
theorem nmX0 : ∀ a, a < 3 → ∀ b, b < 3 → a ≠ b → (TX0 a).2.1 ≠ (TX0 b).2.1 := by decide +kernel
theorem tyX0_ok : ∀ k, k < 3 → parseFieldDescriptor (TX0 k).2.2.1 = some (tyX0 k) := by decide +kernel
abbrev cX0_init : ByteArray := prog_2_method_1_code
def yX0_init : MethodName := ⟨RX0, "<init>", "()V"⟩
abbrev cX0_read : ByteArray := prog_2_method_2_code
def yX0_read : MethodName := ⟨RX0, "read", "(LSlideMills$Letters;)V"⟩
abbrev cX0_note : ByteArray := prog_2_method_3_code
def yX0_note : MethodName := ⟨RX0, "note", "(II)V"⟩
abbrev cX0_times : ByteArray := prog_2_method_4_code
def yX0_times : MethodName := ⟨RX0, "times", "(I)I"⟩
abbrev cX0_lastPlace : ByteArray := prog_2_method_5_code
def yX0_lastPlace : MethodName := ⟨RX0, "lastPlace", "(I)I"⟩
abbrev cX0_earlierPlace : ByteArray := prog_2_method_6_code
def yX0_earlierPlace : MethodName := ⟨RX0, "earlierPlace", "(I)I"⟩
abbrev cX0_commonest : ByteArray := prog_2_method_7_code
def yX0_commonest : MethodName := ⟨RX0, "commonest", "()I"⟩
def RX1 : String := "SlideMills$History"
def TX1 : u_T := fun k => match k with
  | 0 => ("SlideMills$History", "ring", "[LSlideMills$State;", true)
  | 1 => ("SlideMills$History", "next", "I", false)
  | _ => ("SlideMills$History", "count", "I", false)
def tyX1 : Nat → FieldType := fun k => match k with
  | 0 => .array (.object "SlideMills$State")
  | 1 => .int
  | _ => .int
abbrev wsX10 : List Cond := u_ws RX1 TX1 3
theorem nmX1 : ∀ a, a < 3 → ∀ b, b < 3 → a ≠ b → (TX1 a).2.1 ≠ (TX1 b).2.1 := by decide +kernel
theorem tyX1_ok : ∀ k, k < 3 → parseFieldDescriptor (TX1 k).2.2.1 = some (tyX1 k) := by decide +kernel
abbrev cX1_init : ByteArray := prog_3_method_1_code
def yX1_init : MethodName := ⟨RX1, "<init>", "()V"⟩
abbrev cX1_push : ByteArray := prog_3_method_2_code
def yX1_push : MethodName := ⟨RX1, "push", "(LSlideMills$State;)V"⟩
abbrev cX1_popInto : ByteArray := prog_3_method_3_code
def yX1_popInto : MethodName := ⟨RX1, "popInto", "(LSlideMills$State;)V"⟩
def RX2 : String := "SlideMills$Letters"
def TX2 : u_T := fun k => match k with
  | 0 => ("SlideMills$Letters", "row", "[I", true)
  | _ => ("SlideMills$Letters", "count", "I", false)
def tyX2 : Nat → FieldType := fun k => match k with
  | 0 => .array .int
  | _ => .int
abbrev wsX20 : List Cond := u_ws RX2 TX2 2
theorem nmX2 : ∀ a, a < 2 → ∀ b, b < 2 → a ≠ b → (TX2 a).2.1 ≠ (TX2 b).2.1 := by decide +kernel
theorem tyX2_ok : ∀ k, k < 2 → parseFieldDescriptor (TX2 k).2.2.1 = some (tyX2 k) := by decide +kernel
abbrev cX2_init : ByteArray := prog_4_method_1_code
def yX2_init : MethodName := ⟨RX2, "<init>", "()V"⟩
abbrev cX2_has : ByteArray := prog_4_method_2_code
def yX2_has : MethodName := ⟨RX2, "has", "(I)Z"⟩
abbrev cX2_get : ByteArray := prog_4_method_3_code
def yX2_get : MethodName := ⟨RX2, "get", "(I)I"⟩
abbrev cX2_put : ByteArray := prog_4_method_4_code
def yX2_put : MethodName := ⟨RX2, "put", "(I)V"⟩
abbrev cX2_replace : ByteArray := prog_4_method_5_code
def yX2_replace : MethodName := ⟨RX2, "replace", "(II)V"⟩
abbrev cX2_clear : ByteArray := prog_4_method_6_code
def yX2_clear : MethodName := ⟨RX2, "clear", "()V"⟩
abbrev cX2_isLike : ByteArray := prog_4_method_7_code
def yX2_isLike : MethodName := ⟨RX2, "isLike", "(LSlideMills$Letters;)Z"⟩
abbrev cX2_copyFrom : ByteArray := prog_4_method_8_code
def yX2_copyFrom : MethodName := ⟨RX2, "copyFrom", "(LSlideMills$Letters;)V"⟩
def RX3 : String := "SlideMills$Mill"
def TX3 : u_T := fun k => match k with
  | 0 => ("SlideMills$Mill", "text", "LSlideMills$Letters;", true)
  | 1 => ("SlideMills$Mill", "settings", "LSlideMills$Settings;", true)
  | _ => ("SlideMills$Mill", "dictionary", "LSlideMills$Dictionary;", true)
def tyX3 : Nat → FieldType := fun k => match k with
  | 0 => .object "SlideMills$Letters"
  | 1 => .object "SlideMills$Settings"
  | _ => .object "SlideMills$Dictionary"
abbrev wsX30 : List Cond := u_ws RX3 TX3 3
theorem nmX3 : ∀ a, a < 3 → ∀ b, b < 3 → a ≠ b → (TX3 a).2.1 ≠ (TX3 b).2.1 := by decide +kernel
theorem tyX3_ok : ∀ k, k < 3 → parseFieldDescriptor (TX3 k).2.2.1 = some (tyX3 k) := by decide +kernel
abbrev cX3_init : ByteArray := prog_5_method_1_code
def yX3_init : MethodName := ⟨RX3, "<init>", "(LSlideMills$Letters;LSlideMills$Settings;)V"⟩
abbrev cX3_alike : ByteArray := prog_5_method_2_code
def yX3_alike : MethodName := ⟨RX3, "alike", "(II)I"⟩
abbrev cX3_longestAt : ByteArray := prog_5_method_3_code
def yX3_longestAt : MethodName := ⟨RX3, "longestAt", "(II)I"⟩
abbrev cX3_longestByPairs : ByteArray := prog_5_method_4_code
def yX3_longestByPairs : MethodName := ⟨RX3, "longestByPairs", "(I)I"⟩
abbrev cX3_leastDistance : ByteArray := prog_5_method_5_code
def yX3_leastDistance : MethodName := ⟨RX3, "leastDistance", "(II)I"⟩
def RX4 : String := "SlideMills$Packer"
def TX4 : u_T := fun k => match k with
  | 0 => ("SlideMills$Packer", "mill", "LSlideMills$Mill;", true)
  | _ => ("SlideMills$Packer", "costs", "[I", true)
def tyX4 : Nat → FieldType := fun k => match k with
  | 0 => .object "SlideMills$Mill"
  | _ => .array .int
abbrev wsX40 : List Cond := u_ws RX4 TX4 2
theorem nmX4 : ∀ a, a < 2 → ∀ b, b < 2 → a ≠ b → (TX4 a).2.1 ≠ (TX4 b).2.1 := by decide +kernel
theorem tyX4_ok : ∀ k, k < 2 → parseFieldDescriptor (TX4 k).2.2.1 = some (tyX4 k) := by decide +kernel
abbrev cX4_init : ByteArray := prog_6_method_1_code
def yX4_init : MethodName := ⟨RX4, "<init>", "(LSlideMills$Mill;)V"⟩
abbrev cX4_packBy : ByteArray := prog_6_method_2_code
def yX4_packBy : MethodName := ⟨RX4, "packBy", "(ILSlideMills$Sack;)V"⟩
abbrev cX4_packByLongest : ByteArray := prog_6_method_3_code
def yX4_packByLongest : MethodName := ⟨RX4, "packByLongest", "(LSlideMills$Sack;Z)V"⟩
abbrev cX4_packCheaply : ByteArray := prog_6_method_4_code
def yX4_packCheaply : MethodName := ⟨RX4, "packCheaply", "(LSlideMills$Sack;)V"⟩
abbrev cX4_putTokenAt : ByteArray := prog_6_method_5_code
def yX4_putTokenAt : MethodName := ⟨RX4, "putTokenAt", "(IILSlideMills$Sack;)I"⟩
abbrev cX4_cheapestLength : ByteArray := prog_6_method_6_code
def yX4_cheapestLength : MethodName := ⟨RX4, "cheapestLength", "(I)I"⟩
abbrev cX4_costAt : ByteArray := prog_6_method_7_code
def yX4_costAt : MethodName := ⟨RX4, "costAt", "(I)I"⟩
abbrev cX4_setCost : ByteArray := prog_6_method_8_code
def yX4_setCost : MethodName := ⟨RX4, "setCost", "(II)V"⟩
abbrev cX4_leastFromEnd : ByteArray := prog_6_method_9_code
def yX4_leastFromEnd : MethodName := ⟨RX4, "leastFromEnd", "(I)I"⟩
abbrev cX4_leastFromBeginning : ByteArray := prog_6_method_10_code
def yX4_leastFromBeginning : MethodName := ⟨RX4, "leastFromBeginning", "()I"⟩
abbrev cX4_lower : ByteArray := prog_6_method_11_code
def yX4_lower : MethodName := ⟨RX4, "lower", "(II)V"⟩
def RX5 : String := "SlideMills$Sack"
def TX5 : u_T := fun k => match k with
  | 0 => ("SlideMills$Sack", "distances", "[I", true)
  | 1 => ("SlideMills$Sack", "values", "[I", true)
  | _ => ("SlideMills$Sack", "count", "I", false)
def tyX5 : Nat → FieldType := fun k => match k with
  | 0 => .array .int
  | 1 => .array .int
  | _ => .int
abbrev wsX50 : List Cond := u_ws RX5 TX5 3
theorem nmX5 : ∀ a, a < 3 → ∀ b, b < 3 → a ≠ b → (TX5 a).2.1 ≠ (TX5 b).2.1 := by decide +kernel
theorem tyX5_ok : ∀ k, k < 3 → parseFieldDescriptor (TX5 k).2.2.1 = some (tyX5 k) := by decide +kernel
abbrev cX5_init : ByteArray := prog_7_method_1_code
def yX5_init : MethodName := ⟨RX5, "<init>", "()V"⟩
abbrev cX5_has : ByteArray := prog_7_method_2_code
def yX5_has : MethodName := ⟨RX5, "has", "(I)Z"⟩
abbrev cX5_isFull : ByteArray := prog_7_method_3_code
def yX5_isFull : MethodName := ⟨RX5, "isFull", "()Z"⟩
abbrev cX5_distance : ByteArray := prog_7_method_4_code
def yX5_distance : MethodName := ⟨RX5, "distance", "(I)I"⟩
abbrev cX5_value : ByteArray := prog_7_method_5_code
def yX5_value : MethodName := ⟨RX5, "value", "(I)I"⟩
abbrev cX5_length : ByteArray := prog_7_method_6_code
def yX5_length : MethodName := ⟨RX5, "length", "(I)I"⟩
abbrev cX5_put : ByteArray := prog_7_method_7_code
def yX5_put : MethodName := ⟨RX5, "put", "(II)V"⟩
abbrev cX5_clear : ByteArray := prog_7_method_8_code
def yX5_clear : MethodName := ⟨RX5, "clear", "()V"⟩
abbrev cX5_cost : ByteArray := prog_7_method_9_code
def yX5_cost : MethodName := ⟨RX5, "cost", "(LSlideMills$Settings;)I"⟩
abbrev cX5_letters : ByteArray := prog_7_method_10_code
def yX5_letters : MethodName := ⟨RX5, "letters", "()I"⟩
abbrev cX5_copyFrom : ByteArray := prog_7_method_11_code
def yX5_copyFrom : MethodName := ⟨RX5, "copyFrom", "(LSlideMills$Sack;)V"⟩
def RX6 : String := "SlideMills$Settings"
def TX6 : u_T := fun k => match k with
  | 0 => ("SlideMills$Settings", "window", "I", false)
  | 1 => ("SlideMills$Settings", "shortest", "I", false)
  | 2 => ("SlideMills$Settings", "longest", "I", false)
  | 3 => ("SlideMills$Settings", "letterPrice", "I", false)
  | _ => ("SlideMills$Settings", "repeatPrice", "I", false)
def tyX6 : Nat → FieldType := fun k => match k with
  | 0 => .int
  | 1 => .int
  | 2 => .int
  | 3 => .int
  | _ => .int
abbrev wsX60 : List Cond := u_ws RX6 TX6 5
theorem nmX6 : ∀ a, a < 5 → ∀ b, b < 5 → a ≠ b → (TX6 a).2.1 ≠ (TX6 b).2.1 := by decide +kernel
theorem tyX6_ok : ∀ k, k < 5 → parseFieldDescriptor (TX6 k).2.2.1 = some (tyX6 k) := by decide +kernel
abbrev cX6_init : ByteArray := prog_8_method_1_code
def yX6_init : MethodName := ⟨RX6, "<init>", "()V"⟩
abbrev cX6_copyFrom : ByteArray := prog_8_method_2_code
def yX6_copyFrom : MethodName := ⟨RX6, "copyFrom", "(LSlideMills$Settings;)V"⟩
def RX7 : String := "SlideMills$State"
def TX7 : u_T := fun k => match k with
  | 0 => ("SlideMills$State", "text", "LSlideMills$Letters;", true)
  | 1 => ("SlideMills$State", "sack", "LSlideMills$Sack;", true)
  | 2 => ("SlideMills$State", "settings", "LSlideMills$Settings;", true)
  | 3 => ("SlideMills$State", "stopPart", "I", false)
  | _ => ("SlideMills$State", "stopReason", "I", false)
def tyX7 : Nat → FieldType := fun k => match k with
  | 0 => .object "SlideMills$Letters"
  | 1 => .object "SlideMills$Sack"
  | 2 => .object "SlideMills$Settings"
  | 3 => .int
  | _ => .int
abbrev wsX70 : List Cond := u_ws RX7 TX7 5
theorem nmX7 : ∀ a, a < 5 → ∀ b, b < 5 → a ≠ b → (TX7 a).2.1 ≠ (TX7 b).2.1 := by decide +kernel
theorem tyX7_ok : ∀ k, k < 5 → parseFieldDescriptor (TX7 k).2.2.1 = some (tyX7 k) := by decide +kernel
abbrev cX7_init : ByteArray := prog_9_method_1_code
def yX7_init : MethodName := ⟨RX7, "<init>", "()V"⟩
abbrev cX7_copyFrom : ByteArray := prog_9_method_2_code
def yX7_copyFrom : MethodName := ⟨RX7, "copyFrom", "(LSlideMills$State;)V"⟩
def RX8 : String := "SlideMills$Unpacking"
def TX8 : u_T := fun k => match k with
  | 0 => ("SlideMills$Unpacking", "letters", "LSlideMills$Letters;", true)
  | 1 => ("SlideMills$Unpacking", "wrong", "I", false)
  | _ => ("SlideMills$Unpacking", "reason", "I", false)
def tyX8 : Nat → FieldType := fun k => match k with
  | 0 => .object "SlideMills$Letters"
  | 1 => .int
  | _ => .int
abbrev wsX80 : List Cond := u_ws RX8 TX8 3
theorem nmX8 : ∀ a, a < 3 → ∀ b, b < 3 → a ≠ b → (TX8 a).2.1 ≠ (TX8 b).2.1 := by decide +kernel
theorem tyX8_ok : ∀ k, k < 3 → parseFieldDescriptor (TX8 k).2.2.1 = some (tyX8 k) := by decide +kernel
abbrev cX8_init : ByteArray := prog_10_method_1_code
def yX8_init : MethodName := ⟨RX8, "<init>", "()V"⟩
abbrev cX8_run : ByteArray := prog_10_method_2_code
def yX8_run : MethodName := ⟨RX8, "run", "(LSlideMills$Sack;)V"⟩
abbrev cX8_whyWrong : ByteArray := prog_10_method_3_code
def yX8_whyWrong : MethodName := ⟨RX8, "whyWrong", "(II)I"⟩
abbrev cX8_unpackToken : ByteArray := prog_10_method_4_code
def yX8_unpackToken : MethodName := ⟨RX8, "unpackToken", "(LSlideMills$Sack;I)V"⟩
def RX9 : String := "SlideMills$Works"
def TX9 : u_T := fun k => match k with
  | 0 => ("SlideMills$Works", "codes", "[I", true)
  | _ => ("SlideMills$Works", "count", "I", false)
def tyX9 : Nat → FieldType := fun k => match k with
  | 0 => .array .int
  | _ => .int
abbrev wsX90 : List Cond := u_ws RX9 TX9 2
theorem nmX9 : ∀ a, a < 2 → ∀ b, b < 2 → a ≠ b → (TX9 a).2.1 ≠ (TX9 b).2.1 := by decide +kernel
theorem tyX9_ok : ∀ k, k < 2 → parseFieldDescriptor (TX9 k).2.2.1 = some (tyX9 k) := by decide +kernel
abbrev cX9_init : ByteArray := prog_11_method_1_code
def yX9_init : MethodName := ⟨RX9, "<init>", "()V"⟩
abbrev cX9_codeAt : ByteArray := prog_11_method_2_code
def yX9_codeAt : MethodName := ⟨RX9, "codeAt", "(I)I"⟩
abbrev cX9_put : ByteArray := prog_11_method_3_code
def yX9_put : MethodName := ⟨RX9, "put", "(I)V"⟩
abbrev cX9_clear : ByteArray := prog_11_method_4_code
def yX9_clear : MethodName := ⟨RX9, "clear", "()V"⟩
abbrev cX9_errorPlace : ByteArray := prog_11_method_5_code
def yX9_errorPlace : MethodName := ⟨RX9, "errorPlace", "()I"⟩
abbrev cX9_isComplete : ByteArray := prog_11_method_6_code
def yX9_isComplete : MethodName := ⟨RX9, "isComplete", "()Z"⟩
abbrev cX9_endOfPart : ByteArray := prog_11_method_7_code
def yX9_endOfPart : MethodName := ⟨RX9, "endOfPart", "(I)I"⟩
abbrev cX9_endOfNumber : ByteArray := prog_11_method_8_code
def yX9_endOfNumber : MethodName := ⟨RX9, "endOfNumber", "(I)I"⟩
abbrev cX9_number : ByteArray := prog_11_method_9_code
def yX9_number : MethodName := ⟨RX9, "number", "(I)I"⟩
abbrev cX9_behind : ByteArray := prog_11_method_10_code
def yX9_behind : MethodName := ⟨RX9, "behind", "(II)I"⟩
abbrev cX9_behindSign : ByteArray := prog_11_method_11_code
def yX9_behindSign : MethodName := ⟨RX9, "behindSign", "(I)I"⟩
abbrev cX9_behindPart : ByteArray := prog_11_method_12_code
def yX9_behindPart : MethodName := ⟨RX9, "behindPart", "(I)I"⟩
abbrev cX9_behindDistance : ByteArray := prog_11_method_13_code
def yX9_behindDistance : MethodName := ⟨RX9, "behindDistance", "(I)I"⟩
abbrev cX9_behindFirstOfDistance : ByteArray := prog_11_method_14_code
def yX9_behindFirstOfDistance : MethodName := ⟨RX9, "behindFirstOfDistance", "(I)I"⟩
abbrev cX9_behindFirstOfLength : ByteArray := prog_11_method_15_code
def yX9_behindFirstOfLength : MethodName := ⟨RX9, "behindFirstOfLength", "(I)I"⟩
abbrev cX9_isLetterSign : ByteArray := prog_11_method_16_code
def yX9_isLetterSign : MethodName := ⟨RX9, "isLetterSign", "(I)Z"⟩
abbrev cX9_isDigit : ByteArray := prog_11_method_17_code
def yX9_isDigit : MethodName := ⟨RX9, "isDigit", "(II)Z"⟩
def RX10 : String := "SlideMills"
def TX10 : u_T := fun k => match k with
  | 0 => ("SlideMills", "state", "LSlideMills$State;", true)
  | 1 => ("SlideMills", "snapshot", "LSlideMills$State;", true)
  | 2 => ("SlideMills", "hasSnapshot", "Z", false)
  | 3 => ("SlideMills", "history", "LSlideMills$History;", true)
  | 4 => ("SlideMills", "buffer", "LSlideMills$Works;", true)
  | 5 => ("SlideMills", "mill", "LSlideMills$Mill;", true)
  | 6 => ("SlideMills", "packer", "LSlideMills$Packer;", true)
  | 7 => ("SlideMills", "trial", "LSlideMills$Sack;", true)
  | _ => ("SlideMills", "unpacking", "LSlideMills$Unpacking;", true)
def tyX10 : Nat → FieldType := fun k => match k with
  | 0 => .object "SlideMills$State"
  | 1 => .object "SlideMills$State"
  | 2 => .boolean
  | 3 => .object "SlideMills$History"
  | 4 => .object "SlideMills$Works"
  | 5 => .object "SlideMills$Mill"
  | 6 => .object "SlideMills$Packer"
  | 7 => .object "SlideMills$Sack"
  | _ => .object "SlideMills$Unpacking"
abbrev wsX100 : List Cond := u_ws RX10 TX10 9
theorem nmX10 : ∀ a, a < 9 → ∀ b, b < 9 → a ≠ b → (TX10 a).2.1 ≠ (TX10 b).2.1 := by decide +kernel
theorem tyX10_ok : ∀ k, k < 9 → parseFieldDescriptor (TX10 k).2.2.1 = some (tyX10 k) := by decide +kernel
abbrev cX10_init : ByteArray := prog_1_method_1_code
def yX10_init : MethodName := ⟨RX10, "<init>", "()V"⟩
abbrev cX10_addLetter : ByteArray := prog_1_method_2_code
def yX10_addLetter : MethodName := ⟨RX10, "addLetter", "(I)I"⟩
abbrev cX10_setLetter : ByteArray := prog_1_method_3_code
def yX10_setLetter : MethodName := ⟨RX10, "setLetter", "(II)I"⟩
abbrev cX10_emptyText : ByteArray := prog_1_method_4_code
def yX10_emptyText : MethodName := ⟨RX10, "emptyText", "()I"⟩
abbrev cX10_setWindow : ByteArray := prog_1_method_5_code
def yX10_setWindow : MethodName := ⟨RX10, "setWindow", "(I)I"⟩
abbrev cX10_setShortest : ByteArray := prog_1_method_6_code
def yX10_setShortest : MethodName := ⟨RX10, "setShortest", "(I)I"⟩
abbrev cX10_setLongest : ByteArray := prog_1_method_7_code
def yX10_setLongest : MethodName := ⟨RX10, "setLongest", "(I)I"⟩
abbrev cX10_setLetterPrice : ByteArray := prog_1_method_8_code
def yX10_setLetterPrice : MethodName := ⟨RX10, "setLetterPrice", "(I)I"⟩
abbrev cX10_setRepeatPrice : ByteArray := prog_1_method_9_code
def yX10_setRepeatPrice : MethodName := ⟨RX10, "setRepeatPrice", "(I)I"⟩
abbrev cX10_pack : ByteArray := prog_1_method_10_code
def yX10_pack : MethodName := ⟨RX10, "pack", "(I)I"⟩
abbrev cX10_unpack : ByteArray := prog_1_method_11_code
def yX10_unpack : MethodName := ⟨RX10, "unpack", "()I"⟩
abbrev cX10_addToken : ByteArray := prog_1_method_12_code
def yX10_addToken : MethodName := ⟨RX10, "addToken", "(I)I"⟩
abbrev cX10_addRepeat : ByteArray := prog_1_method_13_code
def yX10_addRepeat : MethodName := ⟨RX10, "addRepeat", "(II)I"⟩
abbrev cX10_takeLast : ByteArray := prog_1_method_14_code
def yX10_takeLast : MethodName := ⟨RX10, "takeLast", "()I"⟩
abbrev cX10_emptySack : ByteArray := prog_1_method_15_code
def yX10_emptySack : MethodName := ⟨RX10, "emptySack", "()I"⟩
abbrev cX10_append : ByteArray := prog_1_method_16_code
def yX10_append : MethodName := ⟨RX10, "append", "(I)I"⟩
abbrev cX10_clearBuffer : ByteArray := prog_1_method_17_code
def yX10_clearBuffer : MethodName := ⟨RX10, "clearBuffer", "()I"⟩
abbrev cX10_firstError : ByteArray := prog_1_method_18_code
def yX10_firstError : MethodName := ⟨RX10, "firstError", "()I"⟩
abbrev cX10_work : ByteArray := prog_1_method_19_code
def yX10_work : MethodName := ⟨RX10, "work", "()I"⟩
abbrev cX10_hasStopped : ByteArray := prog_1_method_20_code
def yX10_hasStopped : MethodName := ⟨RX10, "hasStopped", "()Z"⟩
abbrev cX10_stoppedPart : ByteArray := prog_1_method_21_code
def yX10_stoppedPart : MethodName := ⟨RX10, "stoppedPart", "()I"⟩
abbrev cX10_whyStopped : ByteArray := prog_1_method_22_code
def yX10_whyStopped : MethodName := ⟨RX10, "whyStopped", "()I"⟩
abbrev cX10_undo : ByteArray := prog_1_method_23_code
def yX10_undo : MethodName := ⟨RX10, "undo", "()I"⟩
abbrev cX10_keep : ByteArray := prog_1_method_24_code
def yX10_keep : MethodName := ⟨RX10, "keep", "()I"⟩
abbrev cX10_restore : ByteArray := prog_1_method_25_code
def yX10_restore : MethodName := ⟨RX10, "restore", "()I"⟩
abbrev cX10_savedStates : ByteArray := prog_1_method_26_code
def yX10_savedStates : MethodName := ⟨RX10, "savedStates", "()I"⟩
abbrev cX10_textLength : ByteArray := prog_1_method_27_code
def yX10_textLength : MethodName := ⟨RX10, "textLength", "()I"⟩
abbrev cX10_letterAt : ByteArray := prog_1_method_28_code
def yX10_letterAt : MethodName := ⟨RX10, "letterAt", "(I)I"⟩
abbrev cX10_window : ByteArray := prog_1_method_29_code
def yX10_window : MethodName := ⟨RX10, "window", "()I"⟩
abbrev cX10_shortest : ByteArray := prog_1_method_30_code
def yX10_shortest : MethodName := ⟨RX10, "shortest", "()I"⟩
abbrev cX10_longest : ByteArray := prog_1_method_31_code
def yX10_longest : MethodName := ⟨RX10, "longest", "()I"⟩
abbrev cX10_tokens : ByteArray := prog_1_method_32_code
def yX10_tokens : MethodName := ⟨RX10, "tokens", "()I"⟩
abbrev cX10_isRepeat : ByteArray := prog_1_method_33_code
def yX10_isRepeat : MethodName := ⟨RX10, "isRepeat", "(I)Z"⟩
abbrev cX10_letterOf : ByteArray := prog_1_method_34_code
def yX10_letterOf : MethodName := ⟨RX10, "letterOf", "(I)I"⟩
abbrev cX10_distanceOf : ByteArray := prog_1_method_35_code
def yX10_distanceOf : MethodName := ⟨RX10, "distanceOf", "(I)I"⟩
abbrev cX10_lengthOf : ByteArray := prog_1_method_36_code
def yX10_lengthOf : MethodName := ⟨RX10, "lengthOf", "(I)I"⟩
abbrev cX10_sackCost : ByteArray := prog_1_method_37_code
def yX10_sackCost : MethodName := ⟨RX10, "sackCost", "()I"⟩
abbrev cX10_sackLetters : ByteArray := prog_1_method_38_code
def yX10_sackLetters : MethodName := ⟨RX10, "sackLetters", "()I"⟩
abbrev cX10_wrongToken : ByteArray := prog_1_method_39_code
def yX10_wrongToken : MethodName := ⟨RX10, "wrongToken", "()I"⟩
abbrev cX10_wrongReason : ByteArray := prog_1_method_40_code
def yX10_wrongReason : MethodName := ⟨RX10, "wrongReason", "()I"⟩
abbrev cX10_isForText : ByteArray := prog_1_method_41_code
def yX10_isForText : MethodName := ⟨RX10, "isForText", "()Z"⟩
abbrev cX10_repeatLength : ByteArray := prog_1_method_42_code
def yX10_repeatLength : MethodName := ⟨RX10, "repeatLength", "(I)I"⟩
abbrev cX10_repeatLengthByPairs : ByteArray := prog_1_method_43_code
def yX10_repeatLengthByPairs : MethodName := ⟨RX10, "repeatLengthByPairs", "(I)I"⟩
abbrev cX10_repeatDistance : ByteArray := prog_1_method_44_code
def yX10_repeatDistance : MethodName := ⟨RX10, "repeatDistance", "(I)I"⟩
abbrev cX10_costBy : ByteArray := prog_1_method_45_code
def yX10_costBy : MethodName := ⟨RX10, "costBy", "(I)I"⟩
abbrev cX10_tokensBy : ByteArray := prog_1_method_46_code
def yX10_tokensBy : MethodName := ⟨RX10, "tokensBy", "(I)I"⟩
abbrev cX10_leastCost : ByteArray := prog_1_method_47_code
def yX10_leastCost : MethodName := ⟨RX10, "leastCost", "()I"⟩
abbrev cX10_leastCostFromBeginning : ByteArray := prog_1_method_48_code
def yX10_leastCostFromBeginning : MethodName := ⟨RX10, "leastCostFromBeginning", "()I"⟩
abbrev cX10_leastCostWith : ByteArray := prog_1_method_49_code
def yX10_leastCostWith : MethodName := ⟨RX10, "leastCostWith", "(I)I"⟩
abbrev cX10_pairs : ByteArray := prog_1_method_50_code
def yX10_pairs : MethodName := ⟨RX10, "pairs", "(I)I"⟩
abbrev cX10_lastPlaceOf : ByteArray := prog_1_method_51_code
def yX10_lastPlaceOf : MethodName := ⟨RX10, "lastPlaceOf", "(I)I"⟩
abbrev cX10_mostFrequent : ByteArray := prog_1_method_52_code
def yX10_mostFrequent : MethodName := ⟨RX10, "mostFrequent", "()I"⟩
abbrev cX10_packedShare : ByteArray := prog_1_method_53_code
def yX10_packedShare : MethodName := ⟨RX10, "packedShare", "()D"⟩
abbrev cX10_digest : ByteArray := prog_1_method_54_code
def yX10_digest : MethodName := ⟨RX10, "digest", "()J"⟩
abbrev cX10_isBetween : ByteArray := prog_1_method_55_code
def yX10_isBetween : MethodName := ⟨RX10, "isBetween", "(III)Z"⟩
abbrev cX10_isLetter : ByteArray := prog_1_method_56_code
def yX10_isLetter : MethodName := ⟨RX10, "isLetter", "(I)Z"⟩
abbrev cX10_isPair : ByteArray := prog_1_method_57_code
def yX10_isPair : MethodName := ⟨RX10, "isPair", "(I)Z"⟩
abbrev cX10_isWay : ByteArray := prog_1_method_58_code
def yX10_isWay : MethodName := ⟨RX10, "isWay", "(I)Z"⟩
abbrev cX10_doPart : ByteArray := prog_1_method_59_code
def yX10_doPart : MethodName := ⟨RX10, "doPart", "(I)I"⟩
abbrev cX10_putLetters : ByteArray := prog_1_method_60_code
def yX10_putLetters : MethodName := ⟨RX10, "putLetters", "(II)I"⟩
abbrev cX10_putToken : ByteArray := prog_1_method_61_code
def yX10_putToken : MethodName := ⟨RX10, "putToken", "(II)I"⟩
abbrev cX10_unpackIfPossible : ByteArray := prog_1_method_62_code
def yX10_unpackIfPossible : MethodName := ⟨RX10, "unpackIfPossible", "()I"⟩
abbrev cX10_mix : ByteArray := prog_1_method_63_code
def yX10_mix : MethodName := ⟨RX10, "mix", "(JJ)J"⟩
abbrev cX10_mixTruth : ByteArray := prog_1_method_64_code
def yX10_mixTruth : MethodName := ⟨RX10, "mixTruth", "(JZ)J"⟩
abbrev cX10_hashText : ByteArray := prog_1_method_65_code
def yX10_hashText : MethodName := ⟨RX10, "hashText", "(J)J"⟩
abbrev cX10_hashSack : ByteArray := prog_1_method_66_code
def yX10_hashSack : MethodName := ⟨RX10, "hashSack", "(J)J"⟩
abbrev cX10_hashCosts : ByteArray := prog_1_method_67_code
def yX10_hashCosts : MethodName := ⟨RX10, "hashCosts", "(J)J"⟩
abbrev cX10_hashTokens : ByteArray := prog_1_method_68_code
def yX10_hashTokens : MethodName := ⟨RX10, "hashTokens", "(J)J"⟩
abbrev cX10_hashRepeats : ByteArray := prog_1_method_69_code
def yX10_hashRepeats : MethodName := ⟨RX10, "hashRepeats", "(J)J"⟩
abbrev cX10_hashPairs : ByteArray := prog_1_method_70_code
def yX10_hashPairs : MethodName := ⟨RX10, "hashPairs", "(J)J"⟩
abbrev cX10_hashStop : ByteArray := prog_1_method_71_code
def yX10_hashStop : MethodName := ⟨RX10, "hashStop", "(J)J"⟩
abbrev cX10_hashBuffer : ByteArray := prog_1_method_72_code
def yX10_hashBuffer : MethodName := ⟨RX10, "hashBuffer", "(J)J"⟩
abbrev cX10_bitsOf : ByteArray := prog_1_method_73_code
def yX10_bitsOf : MethodName := ⟨RX10, "bitsOf", "(D)J"⟩
def RX11 : String := "SlideMillsModel"
def TX11 : u_T := fun k => match k with
  | 0 => ("SlideMillsModel", "z", "[I", true)
  | 1 => ("SlideMillsModel", "past", "[I", true)
  | 2 => ("SlideMillsModel", "pastMany", "I", false)
  | 3 => ("SlideMillsModel", "kept", "[I", true)
  | 4 => ("SlideMillsModel", "isKept", "Z", false)
  | 5 => ("SlideMillsModel", "row", "[I", true)
  | 6 => ("SlideMillsModel", "rowMany", "I", false)
  | 7 => ("SlideMillsModel", "best", "[I", true)
  | 8 => ("SlideMillsModel", "letters", "[I", true)
  | 9 => ("SlideMillsModel", "buffer", "[C", true)
  | 10 => ("SlideMillsModel", "typed", "I", false)
  | 11 => ("SlideMillsModel", "thrown", "I", false)
  | 12 => ("SlideMillsModel", "wrongAt", "I", false)
  | 13 => ("SlideMillsModel", "wrongFor", "I", false)
  | 14 => ("SlideMillsModel", "unpacked", "I", false)
  | 15 => ("SlideMillsModel", "told", "[I", true)
  | 16 => ("SlideMillsModel", "toldMany", "I", false)
  | 17 => ("SlideMillsModel", "spot", "I", false)
  | 18 => ("SlideMillsModel", "wrong", "I", false)
  | _ => ("SlideMillsModel", "hash", "J", false)
def tyX11 : Nat → FieldType := fun k => match k with
  | 0 => .array .int
  | 1 => .array .int
  | 2 => .int
  | 3 => .array .int
  | 4 => .boolean
  | 5 => .array .int
  | 6 => .int
  | 7 => .array .int
  | 8 => .array .int
  | 9 => .array .char
  | 10 => .int
  | 11 => .int
  | 12 => .int
  | 13 => .int
  | 14 => .int
  | 15 => .array .int
  | 16 => .int
  | 17 => .int
  | 18 => .int
  | _ => .long
abbrev wsX110 : List Cond := u_ws RX11 TX11 20
theorem nmX11 : ∀ a, a < 20 → ∀ b, b < 20 → a ≠ b → (TX11 a).2.1 ≠ (TX11 b).2.1 := by decide +kernel
theorem tyX11_ok : ∀ k, k < 20 → parseFieldDescriptor (TX11 k).2.2.1 = some (tyX11 k) := by decide +kernel
abbrev cX11_init : ByteArray := prog_13_method_1_code
def yX11_init : MethodName := ⟨RX11, "<init>", "()V"⟩
abbrev cX11_thrown : ByteArray := prog_13_method_2_code
def yX11_thrown : MethodName := ⟨RX11, "thrown", "()I"⟩
abbrev cX11_in : ByteArray := prog_13_method_3_code
def yX11_in : MethodName := ⟨RX11, "in", "(III)Z"⟩
abbrev cX11_asks : ByteArray := prog_13_method_4_code
def yX11_asks : MethodName := ⟨RX11, "asks", "(Z)Z"⟩
abbrev cX11_asksThen : ByteArray := prog_13_method_5_code
def yX11_asksThen : MethodName := ⟨RX11, "asksThen", "(ZI)Z"⟩
abbrev cX11_says : ByteArray := prog_13_method_6_code
def yX11_says : MethodName := ⟨RX11, "says", "(I)I"⟩
abbrev cX11_record : ByteArray := prog_13_method_7_code
def yX11_record : MethodName := ⟨RX11, "record", "()V"⟩
abbrev cX11_undo : ByteArray := prog_13_method_8_code
def yX11_undo : MethodName := ⟨RX11, "undo", "()I"⟩
abbrev cX11_keep : ByteArray := prog_13_method_9_code
def yX11_keep : MethodName := ⟨RX11, "keep", "()I"⟩
abbrev cX11_restore : ByteArray := prog_13_method_10_code
def yX11_restore : MethodName := ⟨RX11, "restore", "()I"⟩
abbrev cX11_savedStates : ByteArray := prog_13_method_11_code
def yX11_savedStates : MethodName := ⟨RX11, "savedStates", "()I"⟩
abbrev cX11_isPlace : ByteArray := prog_13_method_12_code
def yX11_isPlace : MethodName := ⟨RX11, "isPlace", "(I)Z"⟩
abbrev cX11_addLetter : ByteArray := prog_13_method_13_code
def yX11_addLetter : MethodName := ⟨RX11, "addLetter", "(I)I"⟩
abbrev cX11_setLetter : ByteArray := prog_13_method_14_code
def yX11_setLetter : MethodName := ⟨RX11, "setLetter", "(II)I"⟩
abbrev cX11_empties : ByteArray := prog_13_method_15_code
def yX11_empties : MethodName := ⟨RX11, "empties", "(III)I"⟩
abbrev cX11_emptyText : ByteArray := prog_13_method_16_code
def yX11_emptyText : MethodName := ⟨RX11, "emptyText", "()I"⟩
abbrev cX11_sets : ByteArray := prog_13_method_17_code
def yX11_sets : MethodName := ⟨RX11, "sets", "(IIII)I"⟩
abbrev cX11_setWindow : ByteArray := prog_13_method_18_code
def yX11_setWindow : MethodName := ⟨RX11, "setWindow", "(I)I"⟩
abbrev cX11_setShortest : ByteArray := prog_13_method_19_code
def yX11_setShortest : MethodName := ⟨RX11, "setShortest", "(I)I"⟩
abbrev cX11_setLongest : ByteArray := prog_13_method_20_code
def yX11_setLongest : MethodName := ⟨RX11, "setLongest", "(I)I"⟩
abbrev cX11_setLetterPrice : ByteArray := prog_13_method_21_code
def yX11_setLetterPrice : MethodName := ⟨RX11, "setLetterPrice", "(I)I"⟩
abbrev cX11_setRepeatPrice : ByteArray := prog_13_method_22_code
def yX11_setRepeatPrice : MethodName := ⟨RX11, "setRepeatPrice", "(I)I"⟩
abbrev cX11_alike : ByteArray := prog_13_method_23_code
def yX11_alike : MethodName := ⟨RX11, "alike", "(II)I"⟩
abbrev cX11_longestAt : ByteArray := prog_13_method_24_code
def yX11_longestAt : MethodName := ⟨RX11, "longestAt", "(II)I"⟩
abbrev cX11_distanceFor : ByteArray := prog_13_method_25_code
def yX11_distanceFor : MethodName := ⟨RX11, "distanceFor", "(II)I"⟩
abbrev cX11_pairAt : ByteArray := prog_13_method_26_code
def yX11_pairAt : MethodName := ⟨RX11, "pairAt", "(I)I"⟩
abbrev cX11_longestByPairs : ByteArray := prog_13_method_27_code
def yX11_longestByPairs : MethodName := ⟨RX11, "longestByPairs", "(I)I"⟩
abbrev cX11_costsToEnd : ByteArray := prog_13_method_28_code
def yX11_costsToEnd : MethodName := ⟨RX11, "costsToEnd", "(I)V"⟩
abbrev cX11_fromBeginning : ByteArray := prog_13_method_29_code
def yX11_fromBeginning : MethodName := ⟨RX11, "fromBeginning", "()I"⟩
abbrev cX11_cheapest : ByteArray := prog_13_method_30_code
def yX11_cheapest : MethodName := ⟨RX11, "cheapest", "(I)I"⟩
abbrev cX11_lengthBy : ByteArray := prog_13_method_31_code
def yX11_lengthBy : MethodName := ⟨RX11, "lengthBy", "(II)I"⟩
abbrev cX11_packs : ByteArray := prog_13_method_32_code
def yX11_packs : MethodName := ⟨RX11, "packs", "(I)V"⟩
abbrev cX11_packNow : ByteArray := prog_13_method_33_code
def yX11_packNow : MethodName := ⟨RX11, "packNow", "(I)I"⟩
abbrev cX11_pack : ByteArray := prog_13_method_34_code
def yX11_pack : MethodName := ⟨RX11, "pack", "(I)I"⟩
abbrev cX11_distance : ByteArray := prog_13_method_35_code
def yX11_distance : MethodName := ⟨RX11, "distance", "(I)I"⟩
abbrev cX11_length : ByteArray := prog_13_method_36_code
def yX11_length : MethodName := ⟨RX11, "length", "(I)I"⟩
abbrev cX11_unpacks : ByteArray := prog_13_method_37_code
def yX11_unpacks : MethodName := ⟨RX11, "unpacks", "()V"⟩
abbrev cX11_unpackNow : ByteArray := prog_13_method_38_code
def yX11_unpackNow : MethodName := ⟨RX11, "unpackNow", "()I"⟩
abbrev cX11_unpack : ByteArray := prog_13_method_39_code
def yX11_unpack : MethodName := ⟨RX11, "unpack", "()I"⟩
abbrev cX11_puts : ByteArray := prog_13_method_40_code
def yX11_puts : MethodName := ⟨RX11, "puts", "(II)I"⟩
abbrev cX11_addToken : ByteArray := prog_13_method_41_code
def yX11_addToken : MethodName := ⟨RX11, "addToken", "(I)I"⟩
abbrev cX11_addRepeat : ByteArray := prog_13_method_42_code
def yX11_addRepeat : MethodName := ⟨RX11, "addRepeat", "(II)I"⟩
abbrev cX11_takeLast : ByteArray := prog_13_method_43_code
def yX11_takeLast : MethodName := ⟨RX11, "takeLast", "()I"⟩
abbrev cX11_emptySack : ByteArray := prog_13_method_44_code
def yX11_emptySack : MethodName := ⟨RX11, "emptySack", "()I"⟩
abbrev cX11_append : ByteArray := prog_13_method_45_code
def yX11_append : MethodName := ⟨RX11, "append", "(I)I"⟩
abbrev cX11_clearBuffer : ByteArray := prog_13_method_46_code
def yX11_clearBuffer : MethodName := ⟨RX11, "clearBuffer", "()I"⟩
abbrev cX11_sign : ByteArray := prog_13_method_47_code
def yX11_sign : MethodName := ⟨RX11, "sign", "()I"⟩
abbrev cX11_needs : ByteArray := prog_13_method_48_code
def yX11_needs : MethodName := ⟨RX11, "needs", "(Z)V"⟩
abbrev cX11_number : ByteArray := prog_13_method_49_code
def yX11_number : MethodName := ⟨RX11, "number", "(I)I"⟩
abbrev cX11_readPart : ByteArray := prog_13_method_50_code
def yX11_readPart : MethodName := ⟨RX11, "readPart", "()V"⟩
abbrev cX11_reads : ByteArray := prog_13_method_51_code
def yX11_reads : MethodName := ⟨RX11, "reads", "()I"⟩
abbrev cX11_firstError : ByteArray := prog_13_method_52_code
def yX11_firstError : MethodName := ⟨RX11, "firstError", "()I"⟩
abbrev cX11_whyNot : ByteArray := prog_13_method_53_code
def yX11_whyNot : MethodName := ⟨RX11, "whyNot", "(III)I"⟩
abbrev cX11_does : ByteArray := prog_13_method_54_code
def yX11_does : MethodName := ⟨RX11, "does", "(III)V"⟩
abbrev cX11_work : ByteArray := prog_13_method_55_code
def yX11_work : MethodName := ⟨RX11, "work", "()I"⟩
abbrev cX11_hasStopped : ByteArray := prog_13_method_56_code
def yX11_hasStopped : MethodName := ⟨RX11, "hasStopped", "()Z"⟩
abbrev cX11_stoppedPart : ByteArray := prog_13_method_57_code
def yX11_stoppedPart : MethodName := ⟨RX11, "stoppedPart", "()I"⟩
abbrev cX11_whyStopped : ByteArray := prog_13_method_58_code
def yX11_whyStopped : MethodName := ⟨RX11, "whyStopped", "()I"⟩
abbrev cX11_textLength : ByteArray := prog_13_method_59_code
def yX11_textLength : MethodName := ⟨RX11, "textLength", "()I"⟩
abbrev cX11_letterAt : ByteArray := prog_13_method_60_code
def yX11_letterAt : MethodName := ⟨RX11, "letterAt", "(I)I"⟩
abbrev cX11_window : ByteArray := prog_13_method_61_code
def yX11_window : MethodName := ⟨RX11, "window", "()I"⟩
abbrev cX11_shortest : ByteArray := prog_13_method_62_code
def yX11_shortest : MethodName := ⟨RX11, "shortest", "()I"⟩
abbrev cX11_longest : ByteArray := prog_13_method_63_code
def yX11_longest : MethodName := ⟨RX11, "longest", "()I"⟩
abbrev cX11_isToken : ByteArray := prog_13_method_64_code
def yX11_isToken : MethodName := ⟨RX11, "isToken", "(I)Z"⟩
abbrev cX11_tokens : ByteArray := prog_13_method_65_code
def yX11_tokens : MethodName := ⟨RX11, "tokens", "()I"⟩
abbrev cX11_isRepeat : ByteArray := prog_13_method_66_code
def yX11_isRepeat : MethodName := ⟨RX11, "isRepeat", "(I)Z"⟩
abbrev cX11_letterOf : ByteArray := prog_13_method_67_code
def yX11_letterOf : MethodName := ⟨RX11, "letterOf", "(I)I"⟩
abbrev cX11_distanceOf : ByteArray := prog_13_method_68_code
def yX11_distanceOf : MethodName := ⟨RX11, "distanceOf", "(I)I"⟩
abbrev cX11_lengthOf : ByteArray := prog_13_method_69_code
def yX11_lengthOf : MethodName := ⟨RX11, "lengthOf", "(I)I"⟩
abbrev cX11_cost : ByteArray := prog_13_method_70_code
def yX11_cost : MethodName := ⟨RX11, "cost", "()I"⟩
abbrev cX11_sackCost : ByteArray := prog_13_method_71_code
def yX11_sackCost : MethodName := ⟨RX11, "sackCost", "()I"⟩
abbrev cX11_stands : ByteArray := prog_13_method_72_code
def yX11_stands : MethodName := ⟨RX11, "stands", "()I"⟩
abbrev cX11_sackLetters : ByteArray := prog_13_method_73_code
def yX11_sackLetters : MethodName := ⟨RX11, "sackLetters", "()I"⟩
abbrev cX11_wrongToken : ByteArray := prog_13_method_74_code
def yX11_wrongToken : MethodName := ⟨RX11, "wrongToken", "()I"⟩
abbrev cX11_wrongReason : ByteArray := prog_13_method_75_code
def yX11_wrongReason : MethodName := ⟨RX11, "wrongReason", "()I"⟩
abbrev cX11_forText : ByteArray := prog_13_method_76_code
def yX11_forText : MethodName := ⟨RX11, "forText", "()Z"⟩
abbrev cX11_isForText : ByteArray := prog_13_method_77_code
def yX11_isForText : MethodName := ⟨RX11, "isForText", "()Z"⟩
abbrev cX11_repeatLength : ByteArray := prog_13_method_78_code
def yX11_repeatLength : MethodName := ⟨RX11, "repeatLength", "(I)I"⟩
abbrev cX11_repeatLengthByPairs : ByteArray := prog_13_method_79_code
def yX11_repeatLengthByPairs : MethodName := ⟨RX11, "repeatLengthByPairs", "(I)I"⟩
abbrev cX11_distanceAt : ByteArray := prog_13_method_80_code
def yX11_distanceAt : MethodName := ⟨RX11, "distanceAt", "(I)I"⟩
abbrev cX11_repeatDistance : ByteArray := prog_13_method_81_code
def yX11_repeatDistance : MethodName := ⟨RX11, "repeatDistance", "(I)I"⟩
abbrev cX11_rowCost : ByteArray := prog_13_method_82_code
def yX11_rowCost : MethodName := ⟨RX11, "rowCost", "(I)I"⟩
abbrev cX11_costBy : ByteArray := prog_13_method_83_code
def yX11_costBy : MethodName := ⟨RX11, "costBy", "(I)I"⟩
abbrev cX11_tokensBy : ByteArray := prog_13_method_84_code
def yX11_tokensBy : MethodName := ⟨RX11, "tokensBy", "(I)I"⟩
abbrev cX11_leastCost : ByteArray := prog_13_method_85_code
def yX11_leastCost : MethodName := ⟨RX11, "leastCost", "()I"⟩
abbrev cX11_leastCostFromBeginning : ByteArray := prog_13_method_86_code
def yX11_leastCostFromBeginning : MethodName := ⟨RX11, "leastCostFromBeginning", "()I"⟩
abbrev cX11_leastCostWith : ByteArray := prog_13_method_87_code
def yX11_leastCostWith : MethodName := ⟨RX11, "leastCostWith", "(I)I"⟩
abbrev cX11_often : ByteArray := prog_13_method_88_code
def yX11_often : MethodName := ⟨RX11, "often", "(I)I"⟩
abbrev cX11_lastOf : ByteArray := prog_13_method_89_code
def yX11_lastOf : MethodName := ⟨RX11, "lastOf", "(I)I"⟩
abbrev cX11_pairs : ByteArray := prog_13_method_90_code
def yX11_pairs : MethodName := ⟨RX11, "pairs", "(I)I"⟩
abbrev cX11_lastPlaceOf : ByteArray := prog_13_method_91_code
def yX11_lastPlaceOf : MethodName := ⟨RX11, "lastPlaceOf", "(I)I"⟩
abbrev cX11_frequent : ByteArray := prog_13_method_92_code
def yX11_frequent : MethodName := ⟨RX11, "frequent", "()I"⟩
abbrev cX11_mostFrequent : ByteArray := prog_13_method_93_code
def yX11_mostFrequent : MethodName := ⟨RX11, "mostFrequent", "()I"⟩
abbrev cX11_share : ByteArray := prog_13_method_94_code
def yX11_share : MethodName := ⟨RX11, "share", "()D"⟩
abbrev cX11_packedShare : ByteArray := prog_13_method_95_code
def yX11_packedShare : MethodName := ⟨RX11, "packedShare", "()D"⟩
abbrev cX11_adds : ByteArray := prog_13_method_96_code
def yX11_adds : MethodName := ⟨RX11, "adds", "(J)V"⟩
abbrev cX11_digest : ByteArray := prog_13_method_97_code
def yX11_digest : MethodName := ⟨RX11, "digest", "()J"⟩
def RJxe99ae : String := "java/lang/Double"
def TJxe99ae : u_T := fun k => match k with
  | _ => ("", "", "", false)
def tyJxe99ae : Nat → FieldType := fun k => match k with
  | _ => .int
abbrev wsJxe99ae0 : List Cond := u_ws RJxe99ae TJxe99ae 0
theorem nmJxe99ae : ∀ a, a < 0 → ∀ b, b < 0 → a ≠ b → (TJxe99ae a).2.1 ≠ (TJxe99ae b).2.1 := by decide +kernel
theorem tyJxe99ae_ok : ∀ k, k < 0 → parseFieldDescriptor (TJxe99ae k).2.2.1 = some (tyJxe99ae k) := by decide +kernel
abbrev cJxe99ae_isNaN_b9ae7 : ByteArray := prog_14_method_6_code
def yJxe99ae_isNaN_b9ae7 : MethodName := ⟨RJxe99ae, "isNaN", "(D)Z"⟩
abbrev cJxe99ae_doubleToLongBits_ccdee : ByteArray := prog_14_method_23_code
def yJxe99ae_doubleToLongBits_ccdee : MethodName := ⟨RJxe99ae, "doubleToLongBits", "(D)J"⟩
def RJ9 : String := "java/lang/Math"
def TJ9 : u_T := fun k => match k with
  | _ => ("", "", "", false)
def tyJ9 : Nat → FieldType := fun k => match k with
  | _ => .int
abbrev wsJ90 : List Cond := u_ws RJ9 TJ9 0
theorem nmJ9 : ∀ a, a < 0 → ∀ b, b < 0 → a ≠ b → (TJ9 a).2.1 ≠ (TJ9 b).2.1 := by decide +kernel
theorem tyJ9_ok : ∀ k, k < 0 → parseFieldDescriptor (TJ9 k).2.2.1 = some (tyJ9 k) := by decide +kernel
abbrev cJ9_min_7cf53 : ByteArray := prog_19_method_69_code
def yJ9_min_7cf53 : MethodName := ⟨RJ9, "min", "(II)I"⟩
def RJ0 : String := "java/lang/String"
def TJ0 : u_T := fun k => match k with
  | _ => ("", "", "", false)
def tyJ0 : Nat → FieldType := fun k => match k with
  | _ => .int
abbrev wsJ00 : List Cond := u_ws RJ0 TJ0 0
theorem nmJ0 : ∀ a, a < 0 → ∀ b, b < 0 → a ≠ b → (TJ0 a).2.1 ≠ (TJ0 b).2.1 := by decide +kernel
theorem tyJ0_ok : ∀ k, k < 0 → parseFieldDescriptor (TJ0 k).2.2.1 = some (tyJ0 k) := by decide +kernel
def RL : String := "SlideMillsLaw"
abbrev cL_addLetter : ByteArray := method_3_code
def yL_addLetter : MethodName := ⟨RL, "addLetter", "(LSlideMills;I[J)I"⟩
abbrev cL_setLetter : ByteArray := method_4_code
def yL_setLetter : MethodName := ⟨RL, "setLetter", "(LSlideMills;II[J)I"⟩
abbrev cL_setWindow : ByteArray := method_5_code
def yL_setWindow : MethodName := ⟨RL, "setWindow", "(LSlideMills;I[J)I"⟩
abbrev cL_setShortest : ByteArray := method_6_code
def yL_setShortest : MethodName := ⟨RL, "setShortest", "(LSlideMills;I[J)I"⟩
abbrev cL_setLongest : ByteArray := method_7_code
def yL_setLongest : MethodName := ⟨RL, "setLongest", "(LSlideMills;I[J)I"⟩
abbrev cL_setLetterPrice : ByteArray := method_8_code
def yL_setLetterPrice : MethodName := ⟨RL, "setLetterPrice", "(LSlideMills;I[J)I"⟩
abbrev cL_setRepeatPrice : ByteArray := method_9_code
def yL_setRepeatPrice : MethodName := ⟨RL, "setRepeatPrice", "(LSlideMills;I[J)I"⟩
abbrev cL_pack : ByteArray := method_10_code
def yL_pack : MethodName := ⟨RL, "pack", "(LSlideMills;I[J)I"⟩
abbrev cL_unpack : ByteArray := method_11_code
def yL_unpack : MethodName := ⟨RL, "unpack", "(LSlideMills;[J)I"⟩
abbrev cL_addToken : ByteArray := method_12_code
def yL_addToken : MethodName := ⟨RL, "addToken", "(LSlideMills;I[J)I"⟩
abbrev cL_addRepeat : ByteArray := method_13_code
def yL_addRepeat : MethodName := ⟨RL, "addRepeat", "(LSlideMills;II[J)I"⟩
abbrev cL_takeLast : ByteArray := method_14_code
def yL_takeLast : MethodName := ⟨RL, "takeLast", "(LSlideMills;[J)I"⟩
abbrev cL_append : ByteArray := method_15_code
def yL_append : MethodName := ⟨RL, "append", "(LSlideMills;I[J)I"⟩
abbrev cL_work : ByteArray := method_16_code
def yL_work : MethodName := ⟨RL, "work", "(LSlideMills;[J)I"⟩
abbrev cL_stoppedPart : ByteArray := method_17_code
def yL_stoppedPart : MethodName := ⟨RL, "stoppedPart", "(LSlideMills;[J)I"⟩
abbrev cL_whyStopped : ByteArray := method_18_code
def yL_whyStopped : MethodName := ⟨RL, "whyStopped", "(LSlideMills;[J)I"⟩
abbrev cL_undo : ByteArray := method_19_code
def yL_undo : MethodName := ⟨RL, "undo", "(LSlideMills;[J)I"⟩
abbrev cL_restore : ByteArray := method_20_code
def yL_restore : MethodName := ⟨RL, "restore", "(LSlideMills;[J)I"⟩
abbrev cL_letterAt : ByteArray := method_21_code
def yL_letterAt : MethodName := ⟨RL, "letterAt", "(LSlideMills;I[J)I"⟩
abbrev cL_isRepeat : ByteArray := method_22_code
def yL_isRepeat : MethodName := ⟨RL, "isRepeat", "(LSlideMills;I[J)I"⟩
abbrev cL_letterOf : ByteArray := method_23_code
def yL_letterOf : MethodName := ⟨RL, "letterOf", "(LSlideMills;I[J)I"⟩
abbrev cL_distanceOf : ByteArray := method_24_code
def yL_distanceOf : MethodName := ⟨RL, "distanceOf", "(LSlideMills;I[J)I"⟩
abbrev cL_lengthOf : ByteArray := method_25_code
def yL_lengthOf : MethodName := ⟨RL, "lengthOf", "(LSlideMills;I[J)I"⟩
abbrev cL_repeatLength : ByteArray := method_26_code
def yL_repeatLength : MethodName := ⟨RL, "repeatLength", "(LSlideMills;I[J)I"⟩
abbrev cL_repeatLengthByPairs : ByteArray := method_27_code
def yL_repeatLengthByPairs : MethodName := ⟨RL, "repeatLengthByPairs", "(LSlideMills;I[J)I"⟩
abbrev cL_repeatDistance : ByteArray := method_28_code
def yL_repeatDistance : MethodName := ⟨RL, "repeatDistance", "(LSlideMills;I[J)I"⟩
abbrev cL_costBy : ByteArray := method_29_code
def yL_costBy : MethodName := ⟨RL, "costBy", "(LSlideMills;I[J)I"⟩
abbrev cL_tokensBy : ByteArray := method_30_code
def yL_tokensBy : MethodName := ⟨RL, "tokensBy", "(LSlideMills;I[J)I"⟩
abbrev cL_leastCostWith : ByteArray := method_31_code
def yL_leastCostWith : MethodName := ⟨RL, "leastCostWith", "(LSlideMills;I[J)I"⟩
abbrev cL_pairs : ByteArray := method_32_code
def yL_pairs : MethodName := ⟨RL, "pairs", "(LSlideMills;I[J)I"⟩
abbrev cL_lastPlaceOf : ByteArray := method_33_code
def yL_lastPlaceOf : MethodName := ⟨RL, "lastPlaceOf", "(LSlideMills;I[J)I"⟩
abbrev cL_mostFrequent : ByteArray := method_34_code
def yL_mostFrequent : MethodName := ⟨RL, "mostFrequent", "(LSlideMills;[J)I"⟩
abbrev cL_law : ByteArray := code
def yL_law : MethodName := ⟨RL, "law", "([I)Z"⟩
def wsL_law0_r1 : List Cond := [Cond.classLink RL 8 RX10, Cond.instantiable RX10 9, Cond.initialized RX10, Cond.classLink RL 116 RX11, Cond.instantiable RX11 20, Cond.initialized RX11, Cond.arrayClass .long, Cond.methodLink RL 115 yX10_init, Cond.instanceMethod yX10_init, Cond.code yX10_init cX10_init 1 none, Cond.methodLink RX10 1 objectInit, Cond.instanceMethod objectInit, Cond.code objectInit ⟨#[0xb1]⟩ 1 none, Cond.classLink RX10 7 RX7, Cond.instantiable RX7 5, Cond.initialized RX7, Cond.fieldLink RX10 10 "SlideMills" "state" "LSlideMills$State;", Cond.fieldLink RX10 16 "SlideMills" "snapshot" "LSlideMills$State;", Cond.fieldLink RX10 19 "SlideMills" "hasSnapshot" "Z", Cond.classLink RX10 23 RX1, Cond.instantiable RX1 3, Cond.initialized RX1, Cond.fieldLink RX10 26 "SlideMills" "history" "LSlideMills$History;", Cond.classLink RX10 30 RX9]
def wsL_law0_r2 : List Cond := [Cond.instantiable RX9 2, Cond.initialized RX9, Cond.fieldLink RX10 33 "SlideMills" "buffer" "LSlideMills$Works;", Cond.classLink RX10 37 RX3, Cond.instantiable RX3 3, Cond.initialized RX3, Cond.fieldLink RX10 39 "SlideMills$State" "text" "LSlideMills$Letters;", Cond.fieldLink RX10 43 "SlideMills$State" "settings" "LSlideMills$Settings;", Cond.fieldLink RX10 50 "SlideMills" "mill" "LSlideMills$Mill;", Cond.classLink RX10 54 RX4, Cond.instantiable RX4 2, Cond.initialized RX4, Cond.fieldLink RX10 59 "SlideMills" "packer" "LSlideMills$Packer;", Cond.classLink RX10 63 RX5, Cond.instantiable RX5 3, Cond.initialized RX5, Cond.fieldLink RX10 66 "SlideMills" "trial" "LSlideMills$Sack;", Cond.classLink RX10 70 RX8, Cond.instantiable RX8 3, Cond.initialized RX8, Cond.fieldLink RX10 73 "SlideMills" "unpacking" "LSlideMills$Unpacking;", Cond.methodLink RX10 9 yX7_init, Cond.instanceMethod yX7_init, Cond.code yX7_init cX7_init 1 none]
def wsL_law0_r3 : List Cond := [Cond.methodLink RX7 1 objectInit, Cond.classLink RX7 7 RX2, Cond.instantiable RX2 2, Cond.initialized RX2, Cond.fieldLink RX7 10 "SlideMills$State" "text" "LSlideMills$Letters;", Cond.classLink RX7 16 RX5, Cond.fieldLink RX7 19 "SlideMills$State" "sack" "LSlideMills$Sack;", Cond.classLink RX7 23 RX6, Cond.instantiable RX6 5, Cond.initialized RX6, Cond.fieldLink RX7 26 "SlideMills$State" "settings" "LSlideMills$Settings;", Cond.fieldLink RX7 30 "SlideMills$State" "stopPart" "I", Cond.fieldLink RX7 34 "SlideMills$State" "stopReason" "I", Cond.methodLink RX7 9 yX2_init, Cond.instanceMethod yX2_init, Cond.code yX2_init cX2_init 1 none, Cond.methodLink RX2 3 objectInit, Cond.arrayClass .int, Cond.fieldLink RX2 9 "SlideMills$Letters" "row" "[I", Cond.fieldLink RX2 15 "SlideMills$Letters" "count" "I", Cond.methodLink RX7 18 yX5_init, Cond.instanceMethod yX5_init, Cond.code yX5_init cX5_init 1 none, Cond.methodLink RX5 3 objectInit]
def wsL_law0_r4 : List Cond := [Cond.fieldLink RX5 9 "SlideMills$Sack" "distances" "[I", Cond.fieldLink RX5 15 "SlideMills$Sack" "values" "[I", Cond.fieldLink RX5 18 "SlideMills$Sack" "count" "I", Cond.methodLink RX7 25 yX6_init, Cond.instanceMethod yX6_init, Cond.code yX6_init cX6_init 1 none, Cond.methodLink RX6 1 objectInit, Cond.fieldLink RX6 7 "SlideMills$Settings" "window" "I", Cond.fieldLink RX6 13 "SlideMills$Settings" "shortest" "I", Cond.fieldLink RX6 16 "SlideMills$Settings" "longest" "I", Cond.fieldLink RX6 19 "SlideMills$Settings" "letterPrice" "I", Cond.fieldLink RX6 22 "SlideMills$Settings" "repeatPrice" "I", Cond.methodLink RX10 25 yX1_init, Cond.instanceMethod yX1_init, Cond.code yX1_init cX1_init 2 none, Cond.methodLink RX1 3 objectInit, Cond.classLink RX1 9 RX7, Cond.fieldLink RX1 11 "SlideMills$History" "ring" "[LSlideMills$State;", Cond.fieldLink RX1 18 "SlideMills$History" "next" "I", Cond.fieldLink RX1 22 "SlideMills$History" "count" "I", Cond.methodLink RX1 17 yX7_init, Cond.methodLink RX10 32 yX9_init, Cond.instanceMethod yX9_init, Cond.code yX9_init cX9_init 1 none]
def wsL_law0_r5 : List Cond := [Cond.methodLink RX9 3 objectInit, Cond.fieldLink RX9 9 "SlideMills$Works" "codes" "[I", Cond.fieldLink RX9 15 "SlideMills$Works" "count" "I", Cond.methodLink RX10 47 yX3_init, Cond.instanceMethod yX3_init, Cond.code yX3_init cX3_init 3 none, Cond.methodLink RX3 3 objectInit, Cond.fieldLink RX3 9 "SlideMills$Mill" "text" "LSlideMills$Letters;", Cond.fieldLink RX3 15 "SlideMills$Mill" "settings" "LSlideMills$Settings;", Cond.classLink RX3 19 RX0, Cond.instantiable RX0 3, Cond.initialized RX0, Cond.fieldLink RX3 22 "SlideMills$Mill" "dictionary" "LSlideMills$Dictionary;", Cond.methodLink RX3 21 yX0_init, Cond.instanceMethod yX0_init, Cond.code yX0_init cX0_init 1 none, Cond.methodLink RX0 3 objectInit, Cond.fieldLink RX0 9 "SlideMills$Dictionary" "counts" "[I", Cond.fieldLink RX0 15 "SlideMills$Dictionary" "lastPlaces" "[I", Cond.fieldLink RX0 18 "SlideMills$Dictionary" "earlierPlaces" "[I", Cond.methodLink RX10 56 yX4_init, Cond.instanceMethod yX4_init, Cond.code yX4_init cX4_init 2 none, Cond.methodLink RX4 3 objectInit]
def wsL_law0_r6 : List Cond := [Cond.fieldLink RX4 9 "SlideMills$Packer" "mill" "LSlideMills$Mill;", Cond.fieldLink RX4 15 "SlideMills$Packer" "costs" "[I", Cond.methodLink RX10 65 yX5_init, Cond.methodLink RX10 72 yX8_init, Cond.instanceMethod yX8_init, Cond.code yX8_init cX8_init 1 none, Cond.methodLink RX8 3 objectInit, Cond.classLink RX8 9 RX2, Cond.fieldLink RX8 12 "SlideMills$Unpacking" "letters" "LSlideMills$Letters;", Cond.fieldLink RX8 18 "SlideMills$Unpacking" "wrong" "I", Cond.fieldLink RX8 22 "SlideMills$Unpacking" "reason" "I", Cond.methodLink RX8 11 yX2_init, Cond.methodLink RL 118 yX11_init, Cond.instanceMethod yX11_init, Cond.code yX11_init cX11_init 1 none, Cond.methodLink RX11 1 objectInit, Cond.fieldLink RX11 7 "SlideMillsModel" "z" "[I", Cond.fieldLink RX11 13 "SlideMillsModel" "past" "[I", Cond.fieldLink RX11 16 "SlideMillsModel" "kept" "[I", Cond.fieldLink RX11 19 "SlideMillsModel" "row" "[I", Cond.fieldLink RX11 22 "SlideMillsModel" "best" "[I", Cond.fieldLink RX11 25 "SlideMillsModel" "letters" "[I", Cond.arrayClass .char, Cond.fieldLink RX11 28 "SlideMillsModel" "buffer" "[C"]
def wsL_law0_r7 : List Cond := [Cond.fieldLink RX11 32 "SlideMillsModel" "told" "[I", Cond.methodLink RL 119 yL_addLetter, Cond.static yL_addLetter, Cond.initialized RL, Cond.codeWith yL_addLetter cL_addLetter 4 (some .int) [(0, 9, 12, 13), (0, 9, 15, 15)], Cond.classLink RL 13 "java/lang/IllegalArgumentException", Cond.classLink RL 15 "java/lang/IllegalStateException", Cond.methodLink RL 7 yX10_addLetter, Cond.instanceMethod yX10_addLetter, Cond.selects RX10 yX10_addLetter yX10_addLetter, Cond.code yX10_addLetter cX10_addLetter 2 (some .int), Cond.classLink RX10 81 "java/lang/IllegalArgumentException", Cond.initialized "java/lang/IllegalArgumentException", Cond.classLink RX10 94 "java/lang/IllegalStateException", Cond.initialized "java/lang/IllegalStateException", Cond.fieldLink RX10 88 "SlideMills$Letters" "count" "I", Cond.methodLink RX10 77 yX10_isLetter, Cond.static yX10_isLetter, Cond.code yX10_isLetter cX10_isLetter 1 (some .boolean), Cond.methodLink RX10 99 yX1_push, Cond.instanceMethod yX1_push, Cond.selects RX1 yX1_push yX1_push, Cond.code yX1_push cX1_push 2 none, Cond.methodLink RX1 25 yX7_copyFrom]
def wsL_law0_r8 : List Cond := [Cond.instanceMethod yX7_copyFrom, Cond.selects RX7 yX7_copyFrom yX7_copyFrom, Cond.code yX7_copyFrom cX7_copyFrom 2 none, Cond.methodLink RX7 37 yX2_copyFrom, Cond.instanceMethod yX2_copyFrom, Cond.selects RX2 yX2_copyFrom yX2_copyFrom, Cond.code yX2_copyFrom cX2_copyFrom 3 none, Cond.methodLink RX7 41 yX5_copyFrom, Cond.instanceMethod yX5_copyFrom, Cond.selects RX5 yX5_copyFrom yX5_copyFrom, Cond.code yX5_copyFrom cX5_copyFrom 3 none, Cond.methodLink RX5 22 yX5_distance, Cond.instanceMethod yX5_distance, Cond.selects RX5 yX5_distance yX5_distance, Cond.code yX5_distance cX5_distance 2 (some .int), Cond.methodLink RX5 26 yX5_value, Cond.instanceMethod yX5_value, Cond.selects RX5 yX5_value yX5_value, Cond.code yX5_value cX5_value 2 (some .int), Cond.methodLink RX7 44 yX6_copyFrom, Cond.instanceMethod yX6_copyFrom, Cond.selects RX6 yX6_copyFrom yX6_copyFrom, Cond.code yX6_copyFrom cX6_copyFrom 2 none, Cond.methodLink RX10 103 yX2_put]
def wsL_law0_r9 : List Cond := [Cond.instanceMethod yX2_put, Cond.selects RX2 yX2_put yX2_put, Cond.code yX2_put cX2_put 2 none, Cond.methodLink RL 124 yX11_addLetter, Cond.instanceMethod yX11_addLetter, Cond.selects RX11 yX11_addLetter yX11_addLetter, Cond.code yX11_addLetter cX11_addLetter 2 (some .int), Cond.methodLink RX11 57 yX11_in, Cond.static yX11_in, Cond.code yX11_in cX11_in 3 (some .boolean), Cond.methodLink RX11 42 yX11_asks, Cond.instanceMethod yX11_asks, Cond.selects RX11 yX11_asks yX11_asks, Cond.code yX11_asks cX11_asks 2 (some .boolean), Cond.fieldLink RX11 35 "SlideMillsModel" "thrown" "I", Cond.methodLink RX11 61 yX11_asksThen, Cond.instanceMethod yX11_asksThen, Cond.selects RX11 yX11_asksThen yX11_asksThen, Cond.code yX11_asksThen cX11_asksThen 3 (some .boolean), Cond.methodLink RX11 54 yX11_record, Cond.instanceMethod yX11_record, Cond.selects RX11 yX11_record yX11_record, Cond.code yX11_record cX11_record 2 none, Cond.fieldLink RX11 39 "SlideMillsModel" "pastMany" "I"]
def wsL_law0_r10 : List Cond := [Cond.methodLink RL 125 yX11_thrown, Cond.instanceMethod yX11_thrown, Cond.selects RX11 yX11_thrown yX11_thrown, Cond.code yX11_thrown cX11_thrown 1 (some .int), Cond.methodLink RL 128 yL_setLetter, Cond.static yL_setLetter, Cond.codeWith yL_setLetter cL_setLetter 5 (some .int) [(0, 10, 13, 21), (0, 10, 17, 13)], Cond.classLink RL 21 "java/lang/IndexOutOfBoundsException", Cond.methodLink RL 17 yX10_setLetter, Cond.instanceMethod yX10_setLetter, Cond.selects RX10 yX10_setLetter yX10_setLetter, Cond.code yX10_setLetter cX10_setLetter 4 (some .int), Cond.classLink RX10 110 "java/lang/IndexOutOfBoundsException", Cond.initialized "java/lang/IndexOutOfBoundsException", Cond.methodLink RX10 107 yX2_has, Cond.instanceMethod yX2_has, Cond.selects RX2 yX2_has yX2_has, Cond.code yX2_has cX2_has 2 (some .boolean), Cond.methodLink RX10 115 yX2_get, Cond.instanceMethod yX2_get, Cond.selects RX2 yX2_get yX2_get, Cond.code yX2_get cX2_get 2 (some .int), Cond.methodLink RX10 119 yX2_replace, Cond.instanceMethod yX2_replace]
def wsL_law0_r11 : List Cond := [Cond.selects RX2 yX2_replace yX2_replace, Cond.code yX2_replace cX2_replace 3 none, Cond.methodLink RL 131 yX11_setLetter, Cond.instanceMethod yX11_setLetter, Cond.selects RX11 yX11_setLetter yX11_setLetter, Cond.code yX11_setLetter cX11_setLetter 4 (some .int), Cond.methodLink RX11 65 yX11_isPlace, Cond.instanceMethod yX11_isPlace, Cond.selects RX11 yX11_isPlace yX11_isPlace, Cond.code yX11_isPlace cX11_isPlace 2 (some .boolean), Cond.methodLink RL 132 yX10_emptyText, Cond.instanceMethod yX10_emptyText, Cond.selects RX10 yX10_emptyText yX10_emptyText, Cond.code yX10_emptyText cX10_emptyText 2 (some .int), Cond.methodLink RX10 123 yX2_clear, Cond.instanceMethod yX2_clear, Cond.selects RX2 yX2_clear yX2_clear, Cond.code yX2_clear cX2_clear 1 none, Cond.methodLink RL 135 yX11_emptyText, Cond.instanceMethod yX11_emptyText, Cond.selects RX11 yX11_emptyText yX11_emptyText, Cond.code yX11_emptyText cX11_emptyText 1 (some .int), Cond.methodLink RX11 69 yX11_empties, Cond.instanceMethod yX11_empties]
def wsL_law0_r12 : List Cond := [Cond.selects RX11 yX11_empties yX11_empties, Cond.code yX11_empties cX11_empties 6 (some .int), Cond.methodLink RX11 50 yX11_says, Cond.instanceMethod yX11_says, Cond.selects RX11 yX11_says yX11_says, Cond.code yX11_says cX11_says 2 (some .int), Cond.methodLink RL 136 yL_setWindow, Cond.static yL_setWindow, Cond.codeWith yL_setWindow cL_setWindow 4 (some .int) [(0, 9, 12, 13)], Cond.methodLink RL 23 yX10_setWindow, Cond.instanceMethod yX10_setWindow, Cond.selects RX10 yX10_setWindow yX10_setWindow, Cond.code yX10_setWindow cX10_setWindow 3 (some .int), Cond.fieldLink RX10 132 "SlideMills$Settings" "window" "I", Cond.methodLink RX10 126 yX10_isBetween, Cond.static yX10_isBetween, Cond.code yX10_isBetween cX10_isBetween 3 (some .boolean), Cond.methodLink RL 138 yX11_setWindow, Cond.instanceMethod yX11_setWindow, Cond.selects RX11 yX11_setWindow yX11_setWindow, Cond.code yX11_setWindow cX11_setWindow 2 (some .int), Cond.methodLink RX11 73 yX11_sets, Cond.instanceMethod yX11_sets, Cond.selects RX11 yX11_sets yX11_sets]
def wsL_law0_r13 : List Cond := [Cond.code yX11_sets cX11_sets 6 (some .int), Cond.methodLink RL 139 yL_setShortest, Cond.static yL_setShortest, Cond.codeWith yL_setShortest cL_setShortest 4 (some .int) [(0, 9, 12, 13)], Cond.methodLink RL 26 yX10_setShortest, Cond.instanceMethod yX10_setShortest, Cond.selects RX10 yX10_setShortest yX10_setShortest, Cond.code yX10_setShortest cX10_setShortest 3 (some .int), Cond.fieldLink RX10 139 "SlideMills$Settings" "shortest" "I", Cond.methodLink RL 141 yX11_setShortest, Cond.instanceMethod yX11_setShortest, Cond.selects RX11 yX11_setShortest yX11_setShortest, Cond.code yX11_setShortest cX11_setShortest 2 (some .int), Cond.methodLink RL 142 yL_setLongest, Cond.static yL_setLongest, Cond.codeWith yL_setLongest cL_setLongest 4 (some .int) [(0, 9, 12, 13)], Cond.methodLink RL 29 yX10_setLongest, Cond.instanceMethod yX10_setLongest, Cond.selects RX10 yX10_setLongest yX10_setLongest, Cond.code yX10_setLongest cX10_setLongest 3 (some .int), Cond.fieldLink RX10 142 "SlideMills$Settings" "longest" "I", Cond.methodLink RL 144 yX11_setLongest, Cond.instanceMethod yX11_setLongest, Cond.selects RX11 yX11_setLongest yX11_setLongest]
def wsL_law0_r14 : List Cond := [Cond.code yX11_setLongest cX11_setLongest 2 (some .int), Cond.methodLink RL 145 yL_setLetterPrice, Cond.static yL_setLetterPrice, Cond.codeWith yL_setLetterPrice cL_setLetterPrice 4 (some .int) [(0, 9, 12, 13)], Cond.methodLink RL 32 yX10_setLetterPrice, Cond.instanceMethod yX10_setLetterPrice, Cond.selects RX10 yX10_setLetterPrice yX10_setLetterPrice, Cond.code yX10_setLetterPrice cX10_setLetterPrice 3 (some .int), Cond.fieldLink RX10 147 "SlideMills$Settings" "letterPrice" "I", Cond.methodLink RL 147 yX11_setLetterPrice, Cond.instanceMethod yX11_setLetterPrice, Cond.selects RX11 yX11_setLetterPrice yX11_setLetterPrice, Cond.code yX11_setLetterPrice cX11_setLetterPrice 2 (some .int), Cond.methodLink RL 148 yL_setRepeatPrice, Cond.static yL_setRepeatPrice, Cond.codeWith yL_setRepeatPrice cL_setRepeatPrice 4 (some .int) [(0, 9, 12, 13)], Cond.methodLink RL 35 yX10_setRepeatPrice, Cond.instanceMethod yX10_setRepeatPrice, Cond.selects RX10 yX10_setRepeatPrice yX10_setRepeatPrice, Cond.code yX10_setRepeatPrice cX10_setRepeatPrice 3 (some .int), Cond.fieldLink RX10 150 "SlideMills$Settings" "repeatPrice" "I", Cond.methodLink RL 150 yX11_setRepeatPrice, Cond.instanceMethod yX11_setRepeatPrice, Cond.selects RX11 yX11_setRepeatPrice yX11_setRepeatPrice]
def wsL_law0_r15 : List Cond := [Cond.code yX11_setRepeatPrice cX11_setRepeatPrice 2 (some .int), Cond.methodLink RL 151 yL_pack, Cond.static yL_pack, Cond.codeWith yL_pack cL_pack 4 (some .int) [(0, 9, 12, 13)], Cond.methodLink RL 38 yX10_pack, Cond.instanceMethod yX10_pack, Cond.selects RX10 yX10_pack yX10_pack, Cond.code yX10_pack cX10_pack 2 (some .int), Cond.fieldLink RX10 158 "SlideMills$State" "sack" "LSlideMills$Sack;", Cond.fieldLink RX10 165 "SlideMills$Sack" "count" "I", Cond.methodLink RX10 153 yX10_isWay, Cond.static yX10_isWay, Cond.code yX10_isWay cX10_isWay 1 (some .boolean), Cond.methodLink RX10 161 yX4_packBy, Cond.instanceMethod yX4_packBy, Cond.selects RX4 yX4_packBy yX4_packBy, Cond.code yX4_packBy cX4_packBy 3 none, Cond.methodLink RX4 19 yX5_clear, Cond.instanceMethod yX5_clear, Cond.selects RX5 yX5_clear yX5_clear, Cond.code yX5_clear cX5_clear 1 none, Cond.methodLink RX4 24 yX4_packCheaply, Cond.instanceMethod yX4_packCheaply, Cond.selects RX4 yX4_packCheaply yX4_packCheaply]
def wsL_law0_r16 : List Cond := [Cond.code yX4_packCheaply cX4_packCheaply 4 none, Cond.fieldLink RX4 32 "SlideMills$Mill" "settings" "LSlideMills$Settings;", Cond.fieldLink RX4 38 "SlideMills$Settings" "window" "I", Cond.fieldLink RX4 44 "SlideMills$Mill" "text" "LSlideMills$Letters;", Cond.fieldLink RX4 48 "SlideMills$Letters" "count" "I", Cond.methodLink RX4 61 yX4_leastFromEnd, Cond.instanceMethod yX4_leastFromEnd, Cond.selects RX4 yX4_leastFromEnd yX4_leastFromEnd, Cond.code yX4_leastFromEnd cX4_leastFromEnd 6 (some .int), Cond.fieldLink RX4 90 "SlideMills$Settings" "letterPrice" "I", Cond.fieldLink RX4 78 "SlideMills$Settings" "shortest" "I", Cond.fieldLink RX4 81 "SlideMills$Settings" "repeatPrice" "I", Cond.methodLink RX4 93 Lib.Math.min.name, Cond.static Lib.Math.min.name, Cond.initialized "java/lang/Math", Cond.code Lib.Math.min.name Lib.Math.min.code 2 (some .int), Cond.methodLink RX4 87 yX4_setCost, Cond.instanceMethod yX4_setCost, Cond.selects RX4 yX4_setCost yX4_setCost, Cond.code yX4_setCost cX4_setCost 3 none, Cond.methodLink RX4 84 yX4_costAt, Cond.instanceMethod yX4_costAt, Cond.selects RX4 yX4_costAt yX4_costAt, Cond.code yX4_costAt cX4_costAt 2 (some .int)]
def wsL_law0_r17 : List Cond := [Cond.methodLink RX4 53 yX3_longestAt, Cond.instanceMethod yX3_longestAt, Cond.selects RX3 yX3_longestAt yX3_longestAt, Cond.code yX3_longestAt cX3_longestAt 6 (some .int), Cond.fieldLink RX3 50 "SlideMills$Settings" "shortest" "I", Cond.methodLink RX3 47 yX3_alike, Cond.instanceMethod yX3_alike, Cond.selects RX3 yX3_alike yX3_alike, Cond.code yX3_alike cX3_alike 6 (some .int), Cond.fieldLink RX3 26 "SlideMills$Letters" "row" "[I", Cond.fieldLink RX3 32 "SlideMills$Settings" "longest" "I", Cond.fieldLink RX3 38 "SlideMills$Letters" "count" "I", Cond.methodLink RX3 41 Lib.Math.min.name, Cond.methodLink RX4 65 yX4_cheapestLength, Cond.instanceMethod yX4_cheapestLength, Cond.selects RX4 yX4_cheapestLength yX4_cheapestLength, Cond.code yX4_cheapestLength cX4_cheapestLength 4 (some .int), Cond.methodLink RX4 57 yX4_putTokenAt, Cond.instanceMethod yX4_putTokenAt, Cond.selects RX4 yX4_putTokenAt yX4_putTokenAt, Cond.code yX4_putTokenAt cX4_putTokenAt 4 (some .int), Cond.methodLink RX4 68 yX2_get, Cond.methodLink RX4 71 yX5_put, Cond.instanceMethod yX5_put]
def wsL_law0_r18 : List Cond := [Cond.selects RX5 yX5_put yX5_put, Cond.code yX5_put cX5_put 3 none, Cond.methodLink RX4 75 yX3_leastDistance, Cond.instanceMethod yX3_leastDistance, Cond.selects RX3 yX3_leastDistance yX3_leastDistance, Cond.code yX3_leastDistance cX3_leastDistance 4 (some .int), Cond.fieldLink RX3 57 "SlideMills$Settings" "window" "I", Cond.methodLink RX4 28 yX4_packByLongest, Cond.instanceMethod yX4_packByLongest, Cond.selects RX4 yX4_packByLongest yX4_packByLongest, Cond.code yX4_packByLongest cX4_packByLongest 7 none, Cond.methodLink RL 153 yX11_pack, Cond.instanceMethod yX11_pack, Cond.selects RX11 yX11_pack yX11_pack, Cond.code yX11_pack cX11_pack 2 (some .int), Cond.methodLink RX11 104 yX11_packNow, Cond.instanceMethod yX11_packNow, Cond.selects RX11 yX11_packNow yX11_packNow, Cond.code yX11_packNow cX11_packNow 3 (some .int), Cond.fieldLink RX11 92 "SlideMillsModel" "rowMany" "I", Cond.methodLink RX11 101 yX11_packs, Cond.instanceMethod yX11_packs, Cond.selects RX11 yX11_packs yX11_packs, Cond.code yX11_packs cX11_packs 4 none]
def wsL_law0_r19 : List Cond := [Cond.methodLink RX11 88 yX11_costsToEnd, Cond.instanceMethod yX11_costsToEnd, Cond.selects RX11 yX11_costsToEnd yX11_costsToEnd, Cond.code yX11_costsToEnd cX11_costsToEnd 6 none, Cond.methodLink RX11 84 yX11_longestAt, Cond.instanceMethod yX11_longestAt, Cond.selects RX11 yX11_longestAt yX11_longestAt, Cond.code yX11_longestAt cX11_longestAt 6 (some .int), Cond.methodLink RX11 77 yX11_alike, Cond.instanceMethod yX11_alike, Cond.selects RX11 yX11_alike yX11_alike, Cond.code yX11_alike cX11_alike 4 (some .int), Cond.methodLink RX11 95 yX11_lengthBy, Cond.instanceMethod yX11_lengthBy, Cond.selects RX11 yX11_lengthBy yX11_lengthBy, Cond.code yX11_lengthBy cX11_lengthBy 5 (some .int), Cond.methodLink RX11 98 yX11_distanceFor, Cond.instanceMethod yX11_distanceFor, Cond.selects RX11 yX11_distanceFor yX11_distanceFor, Cond.code yX11_distanceFor cX11_distanceFor 4 (some .int), Cond.methodLink RL 154 yL_unpack, Cond.static yL_unpack, Cond.codeWith yL_unpack cL_unpack 3 (some .int) [(0, 8, 11, 15)], Cond.methodLink RL 41 yX10_unpack]
def wsL_law0_r20 : List Cond := [Cond.instanceMethod yX10_unpack, Cond.selects RX10 yX10_unpack yX10_unpack, Cond.code yX10_unpack cX10_unpack 1 (some .int), Cond.fieldLink RX10 170 "SlideMills$Unpacking" "reason" "I", Cond.fieldLink RX10 175 "SlideMills$Unpacking" "letters" "LSlideMills$Letters;", Cond.methodLink RX10 166 yX8_run, Cond.instanceMethod yX8_run, Cond.selects RX8 yX8_run yX8_run, Cond.code yX8_run cX8_run 3 none, Cond.fieldLink RX8 28 "SlideMills$Sack" "count" "I", Cond.methodLink RX8 25 yX2_clear, Cond.methodLink RX8 33 yX5_distance, Cond.methodLink RX8 37 yX5_length, Cond.instanceMethod yX5_length, Cond.selects RX5 yX5_length yX5_length, Cond.code yX5_length cX5_length 2 (some .int), Cond.methodLink RX8 40 yX8_whyWrong, Cond.instanceMethod yX8_whyWrong, Cond.selects RX8 yX8_whyWrong yX8_whyWrong, Cond.code yX8_whyWrong cX8_whyWrong 3 (some .int), Cond.fieldLink RX8 48 "SlideMills$Letters" "count" "I", Cond.methodLink RX8 44 yX8_unpackToken, Cond.instanceMethod yX8_unpackToken, Cond.selects RX8 yX8_unpackToken yX8_unpackToken]
def wsL_law0_r21 : List Cond := [Cond.code yX8_unpackToken cX8_unpackToken 6 none, Cond.methodLink RX8 49 yX5_value, Cond.methodLink RX8 52 yX2_put, Cond.methodLink RX8 56 yX2_get, Cond.methodLink RX10 178 yX2_copyFrom, Cond.methodLink RL 157 yX11_unpack, Cond.instanceMethod yX11_unpack, Cond.selects RX11 yX11_unpack yX11_unpack, Cond.code yX11_unpack cX11_unpack 1 (some .int), Cond.fieldLink RX11 110 "SlideMillsModel" "wrongAt" "I", Cond.methodLink RX11 122 yX11_unpacks, Cond.instanceMethod yX11_unpacks, Cond.selects RX11 yX11_unpacks yX11_unpacks, Cond.code yX11_unpacks cX11_unpacks 3 none, Cond.fieldLink RX11 113 "SlideMillsModel" "wrongFor" "I", Cond.fieldLink RX11 116 "SlideMillsModel" "unpacked" "I", Cond.methodLink RX11 107 yX11_distance, Cond.instanceMethod yX11_distance, Cond.selects RX11 yX11_distance yX11_distance, Cond.code yX11_distance cX11_distance 2 (some .int), Cond.methodLink RX11 119 yX11_length, Cond.instanceMethod yX11_length, Cond.selects RX11 yX11_length yX11_length, Cond.code yX11_length cX11_length 2 (some .int)]
def wsL_law0_r22 : List Cond := [Cond.methodLink RX11 125 yX11_unpackNow, Cond.instanceMethod yX11_unpackNow, Cond.selects RX11 yX11_unpackNow yX11_unpackNow, Cond.code yX11_unpackNow cX11_unpackNow 2 (some .int), Cond.methodLink RL 158 yL_addToken, Cond.static yL_addToken, Cond.codeWith yL_addToken cL_addToken 4 (some .int) [(0, 9, 12, 13), (0, 9, 15, 15)], Cond.methodLink RL 45 yX10_addToken, Cond.instanceMethod yX10_addToken, Cond.selects RX10 yX10_addToken yX10_addToken, Cond.code yX10_addToken cX10_addToken 2 (some .int), Cond.methodLink RX10 182 yX5_isFull, Cond.instanceMethod yX5_isFull, Cond.selects RX5 yX5_isFull yX5_isFull, Cond.code yX5_isFull cX5_isFull 1 (some .boolean), Cond.methodLink RX10 188 yX5_put, Cond.methodLink RL 160 yX11_addToken, Cond.instanceMethod yX11_addToken, Cond.selects RX11 yX11_addToken yX11_addToken, Cond.code yX11_addToken cX11_addToken 2 (some .int), Cond.methodLink RX11 129 yX11_puts, Cond.instanceMethod yX11_puts, Cond.selects RX11 yX11_puts yX11_puts, Cond.code yX11_puts cX11_puts 3 (some .int)]
def wsL_law0_r23 : List Cond := [Cond.methodLink RL 161 yL_addRepeat, Cond.static yL_addRepeat, Cond.codeWith yL_addRepeat cL_addRepeat 5 (some .int) [(0, 10, 13, 13), (0, 10, 17, 15)], Cond.methodLink RL 48 yX10_addRepeat, Cond.instanceMethod yX10_addRepeat, Cond.selects RX10 yX10_addRepeat yX10_addRepeat, Cond.code yX10_addRepeat cX10_addRepeat 3 (some .int), Cond.methodLink RL 163 yX11_addRepeat, Cond.instanceMethod yX11_addRepeat, Cond.selects RX11 yX11_addRepeat yX11_addRepeat, Cond.code yX11_addRepeat cX11_addRepeat 3 (some .int), Cond.methodLink RL 164 yL_takeLast, Cond.static yL_takeLast, Cond.codeWith yL_takeLast cL_takeLast 3 (some .int) [(0, 8, 11, 15)], Cond.methodLink RL 51 yX10_takeLast, Cond.instanceMethod yX10_takeLast, Cond.selects RX10 yX10_takeLast yX10_takeLast, Cond.code yX10_takeLast cX10_takeLast 1 (some .int), Cond.methodLink RL 166 yX11_takeLast, Cond.instanceMethod yX11_takeLast, Cond.selects RX11 yX11_takeLast yX11_takeLast, Cond.code yX11_takeLast cX11_takeLast 1 (some .int), Cond.methodLink RL 167 yX10_emptySack, Cond.instanceMethod yX10_emptySack]
def wsL_law0_r24 : List Cond := [Cond.selects RX10 yX10_emptySack yX10_emptySack, Cond.code yX10_emptySack cX10_emptySack 2 (some .int), Cond.methodLink RX10 194 yX5_clear, Cond.methodLink RL 170 yX11_emptySack, Cond.instanceMethod yX11_emptySack, Cond.selects RX11 yX11_emptySack yX11_emptySack, Cond.code yX11_emptySack cX11_emptySack 1 (some .int), Cond.methodLink RL 171 yL_append, Cond.static yL_append, Cond.codeWith yL_append cL_append 4 (some .int) [(0, 9, 12, 13), (0, 9, 15, 15)], Cond.methodLink RL 54 yX10_append, Cond.instanceMethod yX10_append, Cond.selects RX10 yX10_append yX10_append, Cond.code yX10_append cX10_append 2 (some .int), Cond.fieldLink RX10 197 "SlideMills$Works" "count" "I", Cond.methodLink RX10 200 yX9_put, Cond.instanceMethod yX9_put, Cond.selects RX9 yX9_put yX9_put, Cond.code yX9_put cX9_put 2 none, Cond.methodLink RL 173 yX11_append, Cond.instanceMethod yX11_append, Cond.selects RX11 yX11_append yX11_append, Cond.code yX11_append cX11_append 2 (some .int), Cond.fieldLink RX11 132 "SlideMillsModel" "typed" "I"]
def wsL_law0_r25 : List Cond := [Cond.methodLink RL 174 yX10_clearBuffer, Cond.instanceMethod yX10_clearBuffer, Cond.selects RX10 yX10_clearBuffer yX10_clearBuffer, Cond.code yX10_clearBuffer cX10_clearBuffer 2 (some .int), Cond.methodLink RX10 201 yX9_clear, Cond.instanceMethod yX9_clear, Cond.selects RX9 yX9_clear yX9_clear, Cond.code yX9_clear cX9_clear 1 none, Cond.methodLink RL 177 yX11_clearBuffer, Cond.instanceMethod yX11_clearBuffer, Cond.selects RX11 yX11_clearBuffer yX11_clearBuffer, Cond.code yX11_clearBuffer cX11_clearBuffer 2 (some .int), Cond.methodLink RL 178 yX10_firstError, Cond.instanceMethod yX10_firstError, Cond.selects RX10 yX10_firstError yX10_firstError, Cond.code yX10_firstError cX10_firstError 1 (some .int), Cond.methodLink RX10 202 yX9_errorPlace, Cond.instanceMethod yX9_errorPlace, Cond.selects RX9 yX9_errorPlace yX9_errorPlace, Cond.code yX9_errorPlace cX9_errorPlace 3 (some .int), Cond.methodLink RX9 19 yX9_codeAt, Cond.instanceMethod yX9_codeAt, Cond.selects RX9 yX9_codeAt yX9_codeAt, Cond.code yX9_codeAt cX9_codeAt 2 (some .int)]
def wsL_law0_r26 : List Cond := [Cond.methodLink RX9 23 yX9_behind, Cond.static yX9_behind, Cond.code yX9_behind cX9_behind 2 (some .int), Cond.methodLink RX9 34 yX9_behindSign, Cond.static yX9_behindSign, Cond.code yX9_behindSign cX9_behindSign 1 (some .int), Cond.methodLink RX9 37 yX9_isLetterSign, Cond.static yX9_isLetterSign, Cond.code yX9_isLetterSign cX9_isLetterSign 1 (some .boolean), Cond.methodLink RX9 41 yX9_behindPart, Cond.static yX9_behindPart, Cond.code yX9_behindPart cX9_behindPart 1 (some .int), Cond.methodLink RX9 44 yX9_behindFirstOfDistance, Cond.static yX9_behindFirstOfDistance, Cond.code yX9_behindFirstOfDistance cX9_behindFirstOfDistance 1 (some .int), Cond.methodLink RX9 27 yX9_isDigit, Cond.static yX9_isDigit, Cond.code yX9_isDigit cX9_isDigit 2 (some .boolean), Cond.methodLink RX9 47 yX9_behindDistance, Cond.static yX9_behindDistance, Cond.code yX9_behindDistance cX9_behindDistance 1 (some .int), Cond.methodLink RX9 50 yX9_behindFirstOfLength, Cond.static yX9_behindFirstOfLength, Cond.code yX9_behindFirstOfLength cX9_behindFirstOfLength 1 (some .int)]
def wsL_law0_r27 : List Cond := [Cond.methodLink RL 181 yX11_firstError, Cond.instanceMethod yX11_firstError, Cond.selects RX11 yX11_firstError yX11_firstError, Cond.code yX11_firstError cX11_firstError 2 (some .int), Cond.methodLink RX11 157 yX11_reads, Cond.instanceMethod yX11_reads, Cond.selects RX11 yX11_reads yX11_reads, Cond.code yX11_reads cX11_reads 2 (some .int), Cond.fieldLink RX11 148 "SlideMillsModel" "toldMany" "I", Cond.fieldLink RX11 135 "SlideMillsModel" "spot" "I", Cond.fieldLink RX11 138 "SlideMillsModel" "wrong" "I", Cond.methodLink RX11 154 yX11_readPart, Cond.instanceMethod yX11_readPart, Cond.selects RX11 yX11_readPart yX11_readPart, Cond.code yX11_readPart cX11_readPart 3 none, Cond.methodLink RX11 141 yX11_sign, Cond.instanceMethod yX11_sign, Cond.selects RX11 yX11_sign yX11_sign, Cond.code yX11_sign cX11_sign 1 (some .int), Cond.methodLink RX11 144 yX11_needs, Cond.instanceMethod yX11_needs, Cond.selects RX11 yX11_needs yX11_needs, Cond.code yX11_needs cX11_needs 2 none, Cond.methodLink RX11 151 yX11_number]
def wsL_law0_r28 : List Cond := [Cond.instanceMethod yX11_number, Cond.selects RX11 yX11_number yX11_number, Cond.code yX11_number cX11_number 4 (some .int), Cond.methodLink RL 182 yL_work, Cond.static yL_work, Cond.codeWith yL_work cL_work 3 (some .int) [(0, 8, 11, 13)], Cond.methodLink RL 57 yX10_work, Cond.instanceMethod yX10_work, Cond.selects RX10 yX10_work yX10_work, Cond.code yX10_work cX10_work 5 (some .int), Cond.fieldLink RX10 217 "SlideMills$State" "stopReason" "I", Cond.fieldLink RX10 220 "SlideMills$State" "stopPart" "I", Cond.methodLink RX10 206 yX9_isComplete, Cond.instanceMethod yX9_isComplete, Cond.selects RX9 yX9_isComplete yX9_isComplete, Cond.code yX9_isComplete cX9_isComplete 3 (some .boolean), Cond.methodLink RX10 211 yX10_doPart, Cond.instanceMethod yX10_doPart, Cond.selects RX10 yX10_doPart yX10_doPart, Cond.code yX10_doPart cX10_doPart 3 (some .int), Cond.methodLink RX10 344 yX9_codeAt, Cond.methodLink RX10 214 yX9_endOfPart, Cond.instanceMethod yX9_endOfPart, Cond.selects RX9 yX9_endOfPart yX9_endOfPart]
def wsL_law0_r29 : List Cond := [Cond.code yX9_endOfPart cX9_endOfPart 3 (some .int), Cond.methodLink RX10 347 yX10_putLetters, Cond.instanceMethod yX10_putLetters, Cond.selects RX10 yX10_putLetters yX10_putLetters, Cond.code yX10_putLetters cX10_putLetters 4 (some .int), Cond.methodLink RX10 350 yX10_unpackIfPossible, Cond.instanceMethod yX10_unpackIfPossible, Cond.selects RX10 yX10_unpackIfPossible yX10_unpackIfPossible, Cond.code yX10_unpackIfPossible cX10_unpackIfPossible 1 (some .int), Cond.methodLink RX10 353 yX10_putToken, Cond.instanceMethod yX10_putToken, Cond.selects RX10 yX10_putToken yX10_putToken, Cond.code yX10_putToken cX10_putToken 3 (some .int), Cond.methodLink RX10 356 yX9_endOfNumber, Cond.instanceMethod yX9_endOfNumber, Cond.selects RX9 yX9_endOfNumber yX9_endOfNumber, Cond.code yX9_endOfNumber cX9_endOfNumber 3 (some .int), Cond.methodLink RX10 359 yX9_number, Cond.instanceMethod yX9_number, Cond.selects RX9 yX9_number yX9_number, Cond.code yX9_number cX9_number 5 (some .int), Cond.methodLink RX9 31 yX9_endOfNumber, Cond.methodLink RL 184 yX11_work, Cond.instanceMethod yX11_work]
def wsL_law0_r30 : List Cond := [Cond.selects RX11 yX11_work yX11_work, Cond.code yX11_work cX11_work 3 (some .int), Cond.methodLink RX11 160 yX11_whyNot, Cond.instanceMethod yX11_whyNot, Cond.selects RX11 yX11_whyNot yX11_whyNot, Cond.code yX11_whyNot cX11_whyNot 4 (some .int), Cond.methodLink RX11 163 yX11_does, Cond.instanceMethod yX11_does, Cond.selects RX11 yX11_does yX11_does, Cond.code yX11_does cX11_does 5 none, Cond.methodLink RL 185 yX10_hasStopped, Cond.instanceMethod yX10_hasStopped, Cond.selects RX10 yX10_hasStopped yX10_hasStopped, Cond.code yX10_hasStopped cX10_hasStopped 1 (some .boolean), Cond.methodLink RL 189 yX11_hasStopped, Cond.instanceMethod yX11_hasStopped, Cond.selects RX11 yX11_hasStopped yX11_hasStopped, Cond.code yX11_hasStopped cX11_hasStopped 1 (some .boolean), Cond.methodLink RL 190 yL_stoppedPart, Cond.static yL_stoppedPart, Cond.codeWith yL_stoppedPart cL_stoppedPart 3 (some .int) [(0, 8, 11, 15)], Cond.methodLink RL 60 yX10_stoppedPart, Cond.instanceMethod yX10_stoppedPart, Cond.selects RX10 yX10_stoppedPart yX10_stoppedPart]
def wsL_law0_r31 : List Cond := [Cond.code yX10_stoppedPart cX10_stoppedPart 1 (some .int), Cond.methodLink RL 192 yX11_stoppedPart, Cond.instanceMethod yX11_stoppedPart, Cond.selects RX11 yX11_stoppedPart yX11_stoppedPart, Cond.code yX11_stoppedPart cX11_stoppedPart 1 (some .int), Cond.methodLink RL 193 yL_whyStopped, Cond.static yL_whyStopped, Cond.codeWith yL_whyStopped cL_whyStopped 3 (some .int) [(0, 8, 11, 15)], Cond.methodLink RL 63 yX10_whyStopped, Cond.instanceMethod yX10_whyStopped, Cond.selects RX10 yX10_whyStopped yX10_whyStopped, Cond.code yX10_whyStopped cX10_whyStopped 1 (some .int), Cond.methodLink RL 195 yX11_whyStopped, Cond.instanceMethod yX11_whyStopped, Cond.selects RX11 yX11_whyStopped yX11_whyStopped, Cond.code yX11_whyStopped cX11_whyStopped 1 (some .int), Cond.methodLink RL 196 yL_undo, Cond.static yL_undo, Cond.codeWith yL_undo cL_undo 3 (some .int) [(0, 8, 11, 15)], Cond.methodLink RL 66 yX10_undo, Cond.instanceMethod yX10_undo, Cond.selects RX10 yX10_undo yX10_undo, Cond.code yX10_undo cX10_undo 1 (some .int), Cond.fieldLink RX10 225 "SlideMills$History" "count" "I"]
def wsL_law0_r32 : List Cond := [Cond.methodLink RX10 228 yX1_popInto, Cond.instanceMethod yX1_popInto, Cond.selects RX1 yX1_popInto yX1_popInto, Cond.code yX1_popInto cX1_popInto 2 none, Cond.methodLink RL 198 yX11_undo, Cond.instanceMethod yX11_undo, Cond.selects RX11 yX11_undo yX11_undo, Cond.code yX11_undo cX11_undo 2 (some .int), Cond.methodLink RL 199 yX10_keep, Cond.instanceMethod yX10_keep, Cond.selects RX10 yX10_keep yX10_keep, Cond.code yX10_keep cX10_keep 1 (some .int), Cond.methodLink RX10 231 yX7_copyFrom, Cond.methodLink RL 202 yX11_keep, Cond.instanceMethod yX11_keep, Cond.selects RX11 yX11_keep yX11_keep, Cond.code yX11_keep cX11_keep 2 (some .int), Cond.fieldLink RX11 46 "SlideMillsModel" "isKept" "Z", Cond.methodLink RL 203 yL_restore, Cond.static yL_restore, Cond.codeWith yL_restore cL_restore 3 (some .int) [(0, 8, 11, 15)], Cond.methodLink RL 69 yX10_restore, Cond.instanceMethod yX10_restore, Cond.selects RX10 yX10_restore yX10_restore]
def wsL_law0_r33 : List Cond := [Cond.code yX10_restore cX10_restore 1 (some .int), Cond.methodLink RL 205 yX11_restore, Cond.instanceMethod yX11_restore, Cond.selects RX11 yX11_restore yX11_restore, Cond.code yX11_restore cX11_restore 2 (some .int), Cond.methodLink RL 206 yX10_savedStates, Cond.instanceMethod yX10_savedStates, Cond.selects RX10 yX10_savedStates yX10_savedStates, Cond.code yX10_savedStates cX10_savedStates 1 (some .int), Cond.methodLink RL 209 yX11_savedStates, Cond.instanceMethod yX11_savedStates, Cond.selects RX11 yX11_savedStates yX11_savedStates, Cond.code yX11_savedStates cX11_savedStates 1 (some .int), Cond.methodLink RL 210 yX10_textLength, Cond.instanceMethod yX10_textLength, Cond.selects RX10 yX10_textLength yX10_textLength, Cond.code yX10_textLength cX10_textLength 1 (some .int), Cond.methodLink RL 213 yX11_textLength, Cond.instanceMethod yX11_textLength, Cond.selects RX11 yX11_textLength yX11_textLength, Cond.code yX11_textLength cX11_textLength 1 (some .int), Cond.methodLink RL 214 yL_letterAt, Cond.static yL_letterAt, Cond.codeWith yL_letterAt cL_letterAt 4 (some .int) [(0, 9, 12, 21)]]
def wsL_law0_r34 : List Cond := [Cond.methodLink RL 72 yX10_letterAt, Cond.instanceMethod yX10_letterAt, Cond.selects RX10 yX10_letterAt yX10_letterAt, Cond.code yX10_letterAt cX10_letterAt 2 (some .int), Cond.methodLink RL 216 yX11_letterAt, Cond.instanceMethod yX11_letterAt, Cond.selects RX11 yX11_letterAt yX11_letterAt, Cond.code yX11_letterAt cX11_letterAt 2 (some .int), Cond.methodLink RL 217 yX10_window, Cond.instanceMethod yX10_window, Cond.selects RX10 yX10_window yX10_window, Cond.code yX10_window cX10_window 1 (some .int), Cond.methodLink RL 220 yX11_window, Cond.instanceMethod yX11_window, Cond.selects RX11 yX11_window yX11_window, Cond.code yX11_window cX11_window 1 (some .int), Cond.methodLink RL 221 yX10_shortest, Cond.instanceMethod yX10_shortest, Cond.selects RX10 yX10_shortest yX10_shortest, Cond.code yX10_shortest cX10_shortest 1 (some .int), Cond.methodLink RL 224 yX11_shortest, Cond.instanceMethod yX11_shortest, Cond.selects RX11 yX11_shortest yX11_shortest, Cond.code yX11_shortest cX11_shortest 1 (some .int)]
def wsL_law0_r35 : List Cond := [Cond.methodLink RL 225 yX10_longest, Cond.instanceMethod yX10_longest, Cond.selects RX10 yX10_longest yX10_longest, Cond.code yX10_longest cX10_longest 1 (some .int), Cond.methodLink RL 228 yX11_longest, Cond.instanceMethod yX11_longest, Cond.selects RX11 yX11_longest yX11_longest, Cond.code yX11_longest cX11_longest 1 (some .int), Cond.methodLink RL 229 yX10_tokens, Cond.instanceMethod yX10_tokens, Cond.selects RX10 yX10_tokens yX10_tokens, Cond.code yX10_tokens cX10_tokens 1 (some .int), Cond.methodLink RL 232 yX11_tokens, Cond.instanceMethod yX11_tokens, Cond.selects RX11 yX11_tokens yX11_tokens, Cond.code yX11_tokens cX11_tokens 1 (some .int), Cond.methodLink RL 233 yL_isRepeat, Cond.static yL_isRepeat, Cond.codeWith yL_isRepeat cL_isRepeat 4 (some .int) [(0, 16, 19, 21)], Cond.methodLink RL 75 yX10_isRepeat, Cond.instanceMethod yX10_isRepeat, Cond.selects RX10 yX10_isRepeat yX10_isRepeat, Cond.code yX10_isRepeat cX10_isRepeat 2 (some .boolean), Cond.methodLink RX10 235 yX5_has]
def wsL_law0_r36 : List Cond := [Cond.instanceMethod yX5_has, Cond.selects RX5 yX5_has yX5_has, Cond.code yX5_has cX5_has 2 (some .boolean), Cond.methodLink RX10 238 yX5_distance, Cond.methodLink RL 235 yX11_isRepeat, Cond.instanceMethod yX11_isRepeat, Cond.selects RX11 yX11_isRepeat yX11_isRepeat, Cond.code yX11_isRepeat cX11_isRepeat 2 (some .boolean), Cond.methodLink RX11 167 yX11_isToken, Cond.instanceMethod yX11_isToken, Cond.selects RX11 yX11_isToken yX11_isToken, Cond.code yX11_isToken cX11_isToken 2 (some .boolean), Cond.methodLink RL 236 yL_letterOf, Cond.static yL_letterOf, Cond.codeWith yL_letterOf cL_letterOf 4 (some .int) [(0, 9, 12, 21), (0, 9, 15, 15)], Cond.methodLink RL 79 yX10_letterOf, Cond.instanceMethod yX10_letterOf, Cond.selects RX10 yX10_letterOf yX10_letterOf, Cond.code yX10_letterOf cX10_letterOf 2 (some .int), Cond.methodLink RX10 243 yX5_value, Cond.methodLink RL 238 yX11_letterOf, Cond.instanceMethod yX11_letterOf, Cond.selects RX11 yX11_letterOf yX11_letterOf, Cond.code yX11_letterOf cX11_letterOf 2 (some .int)]
def wsL_law0_r37 : List Cond := [Cond.methodLink RL 239 yL_distanceOf, Cond.static yL_distanceOf, Cond.codeWith yL_distanceOf cL_distanceOf 4 (some .int) [(0, 9, 12, 21), (0, 9, 15, 15)], Cond.methodLink RL 82 yX10_distanceOf, Cond.instanceMethod yX10_distanceOf, Cond.selects RX10 yX10_distanceOf yX10_distanceOf, Cond.code yX10_distanceOf cX10_distanceOf 2 (some .int), Cond.methodLink RL 241 yX11_distanceOf, Cond.instanceMethod yX11_distanceOf, Cond.selects RX11 yX11_distanceOf yX11_distanceOf, Cond.code yX11_distanceOf cX11_distanceOf 2 (some .int), Cond.methodLink RL 242 yL_lengthOf, Cond.static yL_lengthOf, Cond.codeWith yL_lengthOf cL_lengthOf 4 (some .int) [(0, 9, 12, 21)], Cond.methodLink RL 85 yX10_lengthOf, Cond.instanceMethod yX10_lengthOf, Cond.selects RX10 yX10_lengthOf yX10_lengthOf, Cond.code yX10_lengthOf cX10_lengthOf 2 (some .int), Cond.methodLink RX10 248 yX5_length, Cond.methodLink RL 244 yX11_lengthOf, Cond.instanceMethod yX11_lengthOf, Cond.selects RX11 yX11_lengthOf yX11_lengthOf, Cond.code yX11_lengthOf cX11_lengthOf 2 (some .int), Cond.methodLink RL 245 yX10_sackCost]
def wsL_law0_r38 : List Cond := [Cond.instanceMethod yX10_sackCost, Cond.selects RX10 yX10_sackCost yX10_sackCost, Cond.code yX10_sackCost cX10_sackCost 1 (some .int), Cond.methodLink RX10 251 yX5_cost, Cond.instanceMethod yX5_cost, Cond.selects RX5 yX5_cost yX5_cost, Cond.code yX5_cost cX5_cost 4 (some .int), Cond.fieldLink RX5 29 "SlideMills$Settings" "letterPrice" "I", Cond.fieldLink RX5 34 "SlideMills$Settings" "repeatPrice" "I", Cond.methodLink RL 248 yX11_sackCost, Cond.instanceMethod yX11_sackCost, Cond.selects RX11 yX11_sackCost yX11_sackCost, Cond.code yX11_sackCost cX11_sackCost 1 (some .int), Cond.methodLink RX11 170 yX11_cost, Cond.instanceMethod yX11_cost, Cond.selects RX11 yX11_cost yX11_cost, Cond.code yX11_cost cX11_cost 3 (some .int), Cond.methodLink RL 249 yX10_sackLetters, Cond.instanceMethod yX10_sackLetters, Cond.selects RX10 yX10_sackLetters yX10_sackLetters, Cond.code yX10_sackLetters cX10_sackLetters 1 (some .int), Cond.methodLink RX10 255 yX5_letters, Cond.instanceMethod yX5_letters, Cond.selects RX5 yX5_letters yX5_letters]
def wsL_law0_r39 : List Cond := [Cond.code yX5_letters cX5_letters 3 (some .int), Cond.methodLink RX5 37 yX5_length, Cond.methodLink RL 252 yX11_sackLetters, Cond.instanceMethod yX11_sackLetters, Cond.selects RX11 yX11_sackLetters yX11_sackLetters, Cond.code yX11_sackLetters cX11_sackLetters 1 (some .int), Cond.methodLink RX11 173 yX11_stands, Cond.instanceMethod yX11_stands, Cond.selects RX11 yX11_stands yX11_stands, Cond.code yX11_stands cX11_stands 3 (some .int), Cond.methodLink RL 253 yX10_wrongToken, Cond.instanceMethod yX10_wrongToken, Cond.selects RX10 yX10_wrongToken yX10_wrongToken, Cond.code yX10_wrongToken cX10_wrongToken 1 (some .int), Cond.fieldLink RX10 257 "SlideMills$Unpacking" "wrong" "I", Cond.methodLink RL 256 yX11_wrongToken, Cond.instanceMethod yX11_wrongToken, Cond.selects RX11 yX11_wrongToken yX11_wrongToken, Cond.code yX11_wrongToken cX11_wrongToken 1 (some .int), Cond.methodLink RL 257 yX10_wrongReason, Cond.instanceMethod yX10_wrongReason, Cond.selects RX10 yX10_wrongReason yX10_wrongReason, Cond.code yX10_wrongReason cX10_wrongReason 1 (some .int), Cond.methodLink RL 260 yX11_wrongReason]
def wsL_law0_r40 : List Cond := [Cond.instanceMethod yX11_wrongReason, Cond.selects RX11 yX11_wrongReason yX11_wrongReason, Cond.code yX11_wrongReason cX11_wrongReason 1 (some .int), Cond.methodLink RL 261 yX10_isForText, Cond.instanceMethod yX10_isForText, Cond.selects RX10 yX10_isForText yX10_isForText, Cond.code yX10_isForText cX10_isForText 1 (some .boolean), Cond.methodLink RX10 260 yX2_isLike, Cond.instanceMethod yX2_isLike, Cond.selects RX2 yX2_isLike yX2_isLike, Cond.code yX2_isLike cX2_isLike 3 (some .boolean), Cond.methodLink RX2 19 yX2_get, Cond.methodLink RL 264 yX11_isForText, Cond.instanceMethod yX11_isForText, Cond.selects RX11 yX11_isForText yX11_isForText, Cond.code yX11_isForText cX11_isForText 1 (some .boolean), Cond.methodLink RX11 176 yX11_forText, Cond.instanceMethod yX11_forText, Cond.selects RX11 yX11_forText yX11_forText, Cond.code yX11_forText cX11_forText 3 (some .boolean), Cond.methodLink RL 265 yL_repeatLength, Cond.static yL_repeatLength, Cond.codeWith yL_repeatLength cL_repeatLength 4 (some .int) [(0, 9, 12, 21)], Cond.methodLink RL 88 yX10_repeatLength]
def wsL_law0_r41 : List Cond := [Cond.instanceMethod yX10_repeatLength, Cond.selects RX10 yX10_repeatLength yX10_repeatLength, Cond.code yX10_repeatLength cX10_repeatLength 2 (some .int), Cond.methodLink RX10 264 yX3_longestAt, Cond.methodLink RL 267 yX11_repeatLength, Cond.instanceMethod yX11_repeatLength, Cond.selects RX11 yX11_repeatLength yX11_repeatLength, Cond.code yX11_repeatLength cX11_repeatLength 2 (some .int), Cond.methodLink RL 268 yL_repeatLengthByPairs, Cond.static yL_repeatLengthByPairs, Cond.codeWith yL_repeatLengthByPairs cL_repeatLengthByPairs 4 (some .int) [(0, 9, 12, 21)], Cond.methodLink RL 91 yX10_repeatLengthByPairs, Cond.instanceMethod yX10_repeatLengthByPairs, Cond.selects RX10 yX10_repeatLengthByPairs yX10_repeatLengthByPairs, Cond.code yX10_repeatLengthByPairs cX10_repeatLengthByPairs 2 (some .int), Cond.fieldLink RX10 268 "SlideMills$Mill" "dictionary" "LSlideMills$Dictionary;", Cond.methodLink RX10 272 yX0_read, Cond.instanceMethod yX0_read, Cond.selects RX0 yX0_read yX0_read, Cond.code yX0_read cX0_read 3 none, Cond.fieldLink RX0 21 "SlideMills$Letters" "count" "I", Cond.methodLink RX0 27 yX2_get, Cond.methodLink RX0 31 yX0_note, Cond.instanceMethod yX0_note]
def wsL_law0_r42 : List Cond := [Cond.selects RX0 yX0_note yX0_note, Cond.code yX0_note cX0_note 3 none, Cond.methodLink RX10 277 yX3_longestByPairs, Cond.instanceMethod yX3_longestByPairs, Cond.selects RX3 yX3_longestByPairs yX3_longestByPairs, Cond.code yX3_longestByPairs cX3_longestByPairs 6 (some .int), Cond.methodLink RX3 53 yX0_earlierPlace, Cond.instanceMethod yX0_earlierPlace, Cond.selects RX0 yX0_earlierPlace yX0_earlierPlace, Cond.code yX0_earlierPlace cX0_earlierPlace 2 (some .int), Cond.methodLink RL 270 yX11_repeatLengthByPairs, Cond.instanceMethod yX11_repeatLengthByPairs, Cond.selects RX11 yX11_repeatLengthByPairs yX11_repeatLengthByPairs, Cond.code yX11_repeatLengthByPairs cX11_repeatLengthByPairs 2 (some .int), Cond.methodLink RX11 180 yX11_longestByPairs, Cond.instanceMethod yX11_longestByPairs, Cond.selects RX11 yX11_longestByPairs yX11_longestByPairs, Cond.code yX11_longestByPairs cX11_longestByPairs 6 (some .int), Cond.methodLink RX11 81 yX11_pairAt, Cond.instanceMethod yX11_pairAt, Cond.selects RX11 yX11_pairAt yX11_pairAt, Cond.code yX11_pairAt cX11_pairAt 2 (some .int), Cond.methodLink RL 271 yL_repeatDistance, Cond.static yL_repeatDistance]
def wsL_law0_r43 : List Cond := [Cond.codeWith yL_repeatDistance cL_repeatDistance 4 (some .int) [(0, 9, 12, 21)], Cond.methodLink RL 94 yX10_repeatDistance, Cond.instanceMethod yX10_repeatDistance, Cond.selects RX10 yX10_repeatDistance yX10_repeatDistance, Cond.code yX10_repeatDistance cX10_repeatDistance 3 (some .int), Cond.methodLink RX10 280 yX3_leastDistance, Cond.methodLink RL 273 yX11_repeatDistance, Cond.instanceMethod yX11_repeatDistance, Cond.selects RX11 yX11_repeatDistance yX11_repeatDistance, Cond.code yX11_repeatDistance cX11_repeatDistance 2 (some .int), Cond.methodLink RX11 183 yX11_distanceAt, Cond.instanceMethod yX11_distanceAt, Cond.selects RX11 yX11_distanceAt yX11_distanceAt, Cond.code yX11_distanceAt cX11_distanceAt 3 (some .int), Cond.methodLink RL 274 yL_costBy, Cond.static yL_costBy, Cond.codeWith yL_costBy cL_costBy 4 (some .int) [(0, 9, 12, 13)], Cond.methodLink RL 97 yX10_costBy, Cond.instanceMethod yX10_costBy, Cond.selects RX10 yX10_costBy yX10_costBy, Cond.code yX10_costBy cX10_costBy 2 (some .int), Cond.methodLink RL 276 yX11_costBy, Cond.instanceMethod yX11_costBy, Cond.selects RX11 yX11_costBy yX11_costBy]
def wsL_law0_r44 : List Cond := [Cond.code yX11_costBy cX11_costBy 2 (some .int), Cond.methodLink RX11 186 yX11_rowCost, Cond.instanceMethod yX11_rowCost, Cond.selects RX11 yX11_rowCost yX11_rowCost, Cond.code yX11_rowCost cX11_rowCost 4 (some .int), Cond.methodLink RL 277 yL_tokensBy, Cond.static yL_tokensBy, Cond.codeWith yL_tokensBy cL_tokensBy 4 (some .int) [(0, 9, 12, 13)], Cond.methodLink RL 100 yX10_tokensBy, Cond.instanceMethod yX10_tokensBy, Cond.selects RX10 yX10_tokensBy yX10_tokensBy, Cond.code yX10_tokensBy cX10_tokensBy 2 (some .int), Cond.methodLink RL 279 yX11_tokensBy, Cond.instanceMethod yX11_tokensBy, Cond.selects RX11 yX11_tokensBy yX11_tokensBy, Cond.code yX11_tokensBy cX11_tokensBy 2 (some .int), Cond.methodLink RL 280 yX10_leastCost, Cond.instanceMethod yX10_leastCost, Cond.selects RX10 yX10_leastCost yX10_leastCost, Cond.code yX10_leastCost cX10_leastCost 1 (some .int), Cond.methodLink RX10 283 yX4_leastFromEnd, Cond.methodLink RL 283 yX11_leastCost, Cond.instanceMethod yX11_leastCost, Cond.selects RX11 yX11_leastCost yX11_leastCost]
def wsL_law0_r45 : List Cond := [Cond.code yX11_leastCost cX11_leastCost 1 (some .int), Cond.methodLink RX11 189 yX11_cheapest, Cond.instanceMethod yX11_cheapest, Cond.selects RX11 yX11_cheapest yX11_cheapest, Cond.code yX11_cheapest cX11_cheapest 2 (some .int), Cond.methodLink RL 284 yX10_leastCostFromBeginning, Cond.instanceMethod yX10_leastCostFromBeginning, Cond.selects RX10 yX10_leastCostFromBeginning yX10_leastCostFromBeginning, Cond.code yX10_leastCostFromBeginning cX10_leastCostFromBeginning 1 (some .int), Cond.methodLink RX10 286 yX4_leastFromBeginning, Cond.instanceMethod yX4_leastFromBeginning, Cond.selects RX4 yX4_leastFromBeginning yX4_leastFromBeginning, Cond.code yX4_leastFromBeginning cX4_leastFromBeginning 4 (some .int), Cond.constant RX4 98 (1000000), Cond.methodLink RX4 99 yX4_lower, Cond.instanceMethod yX4_lower, Cond.selects RX4 yX4_lower yX4_lower, Cond.code yX4_lower cX4_lower 3 none, Cond.methodLink RL 287 yX11_leastCostFromBeginning, Cond.instanceMethod yX11_leastCostFromBeginning, Cond.selects RX11 yX11_leastCostFromBeginning yX11_leastCostFromBeginning, Cond.code yX11_leastCostFromBeginning cX11_leastCostFromBeginning 1 (some .int), Cond.methodLink RX11 192 yX11_fromBeginning, Cond.instanceMethod yX11_fromBeginning]
def wsL_law0_r46 : List Cond := [Cond.selects RX11 yX11_fromBeginning yX11_fromBeginning, Cond.code yX11_fromBeginning cX11_fromBeginning 5 (some .int), Cond.constant RX11 87 (100000), Cond.methodLink RL 288 yL_leastCostWith, Cond.static yL_leastCostWith, Cond.codeWith yL_leastCostWith cL_leastCostWith 4 (some .int) [(0, 9, 12, 13)], Cond.methodLink RL 103 yX10_leastCostWith, Cond.instanceMethod yX10_leastCostWith, Cond.selects RX10 yX10_leastCostWith yX10_leastCostWith, Cond.code yX10_leastCostWith cX10_leastCostWith 2 (some .int), Cond.methodLink RL 290 yX11_leastCostWith, Cond.instanceMethod yX11_leastCostWith, Cond.selects RX11 yX11_leastCostWith yX11_leastCostWith, Cond.code yX11_leastCostWith cX11_leastCostWith 2 (some .int), Cond.methodLink RL 291 yL_pairs, Cond.static yL_pairs, Cond.codeWith yL_pairs cL_pairs 4 (some .int) [(0, 9, 12, 13)], Cond.methodLink RL 106 yX10_pairs, Cond.instanceMethod yX10_pairs, Cond.selects RX10 yX10_pairs yX10_pairs, Cond.code yX10_pairs cX10_pairs 2 (some .int), Cond.methodLink RX10 289 yX10_isPair, Cond.static yX10_isPair, Cond.code yX10_isPair cX10_isPair 1 (some .boolean)]
def wsL_law0_r47 : List Cond := [Cond.methodLink RX10 294 yX0_times, Cond.instanceMethod yX0_times, Cond.selects RX0 yX0_times yX0_times, Cond.code yX0_times cX0_times 2 (some .int), Cond.methodLink RL 293 yX11_pairs, Cond.instanceMethod yX11_pairs, Cond.selects RX11 yX11_pairs yX11_pairs, Cond.code yX11_pairs cX11_pairs 2 (some .int), Cond.methodLink RX11 195 yX11_often, Cond.instanceMethod yX11_often, Cond.selects RX11 yX11_often yX11_often, Cond.code yX11_often cX11_often 4 (some .int), Cond.methodLink RL 294 yL_lastPlaceOf, Cond.static yL_lastPlaceOf, Cond.codeWith yL_lastPlaceOf cL_lastPlaceOf 4 (some .int) [(0, 9, 12, 13)], Cond.methodLink RL 109 yX10_lastPlaceOf, Cond.instanceMethod yX10_lastPlaceOf, Cond.selects RX10 yX10_lastPlaceOf yX10_lastPlaceOf, Cond.code yX10_lastPlaceOf cX10_lastPlaceOf 2 (some .int), Cond.methodLink RX10 297 yX0_lastPlace, Cond.instanceMethod yX0_lastPlace, Cond.selects RX0 yX0_lastPlace yX0_lastPlace, Cond.code yX0_lastPlace cX0_lastPlace 2 (some .int), Cond.methodLink RL 296 yX11_lastPlaceOf]
def wsL_law0_r48 : List Cond := [Cond.instanceMethod yX11_lastPlaceOf, Cond.selects RX11 yX11_lastPlaceOf yX11_lastPlaceOf, Cond.code yX11_lastPlaceOf cX11_lastPlaceOf 2 (some .int), Cond.methodLink RX11 198 yX11_lastOf, Cond.instanceMethod yX11_lastOf, Cond.selects RX11 yX11_lastOf yX11_lastOf, Cond.code yX11_lastOf cX11_lastOf 4 (some .int), Cond.methodLink RL 297 yL_mostFrequent, Cond.static yL_mostFrequent, Cond.codeWith yL_mostFrequent cL_mostFrequent 3 (some .int) [(0, 8, 11, 15)], Cond.methodLink RL 112 yX10_mostFrequent, Cond.instanceMethod yX10_mostFrequent, Cond.selects RX10 yX10_mostFrequent yX10_mostFrequent, Cond.code yX10_mostFrequent cX10_mostFrequent 1 (some .int), Cond.methodLink RX10 302 yX0_commonest, Cond.instanceMethod yX0_commonest, Cond.selects RX0 yX0_commonest yX0_commonest, Cond.code yX0_commonest cX0_commonest 3 (some .int), Cond.methodLink RL 299 yX11_mostFrequent, Cond.instanceMethod yX11_mostFrequent, Cond.selects RX11 yX11_mostFrequent yX11_mostFrequent, Cond.code yX11_mostFrequent cX11_mostFrequent 1 (some .int), Cond.methodLink RX11 201 yX11_frequent, Cond.instanceMethod yX11_frequent]
def wsL_law0_r49 : List Cond := [Cond.selects RX11 yX11_frequent yX11_frequent, Cond.code yX11_frequent cX11_frequent 3 (some .int), Cond.methodLink RL 300 yX10_packedShare, Cond.instanceMethod yX10_packedShare, Cond.selects RX10 yX10_packedShare yX10_packedShare, Cond.code yX10_packedShare cX10_packedShare 2 (some .double), Cond.methodLink RL 304 yX11_packedShare, Cond.instanceMethod yX11_packedShare, Cond.selects RX11 yX11_packedShare yX11_packedShare, Cond.code yX11_packedShare cX11_packedShare 1 (some .double), Cond.methodLink RX11 204 yX11_share, Cond.instanceMethod yX11_share, Cond.selects RX11 yX11_share yX11_share, Cond.code yX11_share cX11_share 1 (some .double), Cond.methodLink RL 305 yX10_digest, Cond.instanceMethod yX10_digest, Cond.selects RX10 yX10_digest yX10_digest, Cond.code yX10_digest cX10_digest 3 (some .long), Cond.constantLong RX10 305 (4483), Cond.methodLink RX10 307 yX10_hashText, Cond.instanceMethod yX10_hashText, Cond.selects RX10 yX10_hashText yX10_hashText, Cond.code yX10_hashText cX10_hashText 6 (some .long), Cond.methodLink RX10 311 yX10_mix]
def wsL_law0_r50 : List Cond := [Cond.static yX10_mix, Cond.code yX10_mix cX10_mix 4 (some .long), Cond.constantLong RX10 362 (31), Cond.methodLink RX10 315 yX10_hashSack, Cond.instanceMethod yX10_hashSack, Cond.selects RX10 yX10_hashSack yX10_hashSack, Cond.code yX10_hashSack cX10_hashSack 5 (some .long), Cond.methodLink RX10 364 yX10_sackCost, Cond.methodLink RX10 367 yX10_sackLetters, Cond.methodLink RX10 370 yX10_wrongToken, Cond.methodLink RX10 373 yX10_wrongReason, Cond.methodLink RX10 376 yX10_isForText, Cond.methodLink RX10 379 yX10_mixTruth, Cond.static yX10_mixTruth, Cond.code yX10_mixTruth cX10_mixTruth 3 (some .long), Cond.methodLink RX10 318 yX10_hashCosts, Cond.instanceMethod yX10_hashCosts, Cond.selects RX10 yX10_hashCosts yX10_hashCosts, Cond.code yX10_hashCosts cX10_hashCosts 6 (some .long), Cond.methodLink RX10 321 yX10_hashTokens, Cond.instanceMethod yX10_hashTokens, Cond.selects RX10 yX10_hashTokens yX10_hashTokens, Cond.code yX10_hashTokens cX10_hashTokens 7 (some .long), Cond.methodLink RX10 324 yX10_hashRepeats]
def wsL_law0_r51 : List Cond := [Cond.instanceMethod yX10_hashRepeats, Cond.selects RX10 yX10_hashRepeats yX10_hashRepeats, Cond.code yX10_hashRepeats cX10_hashRepeats 7 (some .long), Cond.methodLink RX10 327 yX10_hashPairs, Cond.instanceMethod yX10_hashPairs, Cond.selects RX10 yX10_hashPairs yX10_hashPairs, Cond.code yX10_hashPairs cX10_hashPairs 6 (some .long), Cond.methodLink RX10 330 yX10_hashStop, Cond.instanceMethod yX10_hashStop, Cond.selects RX10 yX10_hashStop yX10_hashStop, Cond.code yX10_hashStop cX10_hashStop 5 (some .long), Cond.methodLink RX10 383 yX10_hasStopped, Cond.methodLink RX10 333 yX10_packedShare, Cond.methodLink RX10 337 yX10_bitsOf, Cond.static yX10_bitsOf, Cond.code yX10_bitsOf cX10_bitsOf 8 (some .long), Cond.constantLong RX10 386 (1023), Cond.constantDouble RX10 388 (4611686018427387904), Cond.constantDouble RX10 390 (4841369599423283200), Cond.methodLink RX10 341 yX10_hashBuffer, Cond.instanceMethod yX10_hashBuffer, Cond.selects RX10 yX10_hashBuffer yX10_hashBuffer, Cond.code yX10_hashBuffer cX10_hashBuffer 6 (some .long), Cond.methodLink RL 309 yX11_digest]
def wsL_law0_r52 : List Cond := [Cond.instanceMethod yX11_digest, Cond.selects RX11 yX11_digest yX11_digest, Cond.code yX11_digest cX11_digest 2 (some .long), Cond.constantLong RX11 214 (4483), Cond.fieldLink RX11 210 "SlideMillsModel" "hash" "J", Cond.methodLink RX11 216 yX11_adds, Cond.instanceMethod yX11_adds, Cond.selects RX11 yX11_adds yX11_adds, Cond.code yX11_adds cX11_adds 3 none, Cond.constantLong RX11 208 (31), Cond.methodLink RX11 220 yJxe99ae_doubleToLongBits_ccdee, Cond.static yJxe99ae_doubleToLongBits_ccdee, Cond.initialized RJxe99ae, Cond.code yJxe99ae_doubleToLongBits_ccdee cJxe99ae_doubleToLongBits_ccdee 2 (some .long), Cond.methodLink RJxe99ae 134 ⟨"java/lang/Double", "doubleToRawLongBits", "(D)J"⟩, Cond.native ⟨"java/lang/Double", "doubleToRawLongBits", "(D)J"⟩, Cond.static ⟨"java/lang/Double", "doubleToRawLongBits", "(D)J"⟩, Cond.initialized "java/lang/Double", Cond.constantLong RJxe99ae 137 (9221120237041090560), Cond.methodLink RJxe99ae 122 yJxe99ae_isNaN_b9ae7, Cond.static yJxe99ae_isNaN_b9ae7, Cond.code yJxe99ae_isNaN_b9ae7 cJxe99ae_isNaN_b9ae7 2 (some .boolean)]
def wsL_law0 : List Cond := (wsL_law0_r1 ++ (wsL_law0_r2 ++ (wsL_law0_r3 ++ (wsL_law0_r4 ++ (wsL_law0_r5 ++ (wsL_law0_r6 ++ (wsL_law0_r7 ++ (wsL_law0_r8 ++ (wsL_law0_r9 ++ (wsL_law0_r10 ++ (wsL_law0_r11 ++ (wsL_law0_r12 ++ (wsL_law0_r13 ++ (wsL_law0_r14 ++ (wsL_law0_r15 ++ (wsL_law0_r16 ++ (wsL_law0_r17 ++ (wsL_law0_r18 ++ (wsL_law0_r19 ++ (wsL_law0_r20 ++ (wsL_law0_r21 ++ (wsL_law0_r22 ++ (wsL_law0_r23 ++ (wsL_law0_r24 ++ (wsL_law0_r25 ++ (wsL_law0_r26 ++ (wsL_law0_r27 ++ (wsL_law0_r28 ++ (wsL_law0_r29 ++ (wsL_law0_r30 ++ (wsL_law0_r31 ++ (wsL_law0_r32 ++ (wsL_law0_r33 ++ (wsL_law0_r34 ++ (wsL_law0_r35 ++ (wsL_law0_r36 ++ (wsL_law0_r37 ++ (wsL_law0_r38 ++ (wsL_law0_r39 ++ (wsL_law0_r40 ++ (wsL_law0_r41 ++ (wsL_law0_r42 ++ (wsL_law0_r43 ++ (wsL_law0_r44 ++ (wsL_law0_r45 ++ (wsL_law0_r46 ++ (wsL_law0_r47 ++ (wsL_law0_r48 ++ (wsL_law0_r49 ++ (wsL_law0_r50 ++ (wsL_law0_r51 ++ wsL_law0_r52))))))))))))))))))))))))))))))))))))))))))))))))))) ++ wsX100 ++ wsX110 ++ wsX70 ++ wsX10 ++ wsX90 ++ wsX30 ++ wsX40 ++ wsX50 ++ wsX80 ++ wsX20 ++ wsX60 ++ wsX00 ++ ([] : List Cond)
def wsL_law : List Cond := wsL_law0 ++ (vx_atS RX10 85 "java/lang/IllegalArgumentException" ["java/lang/RuntimeException", "java/lang/Exception"]).filter goodWord ++ (vx_atS RX10 98 "java/lang/IllegalStateException" ["java/lang/RuntimeException", "java/lang/Exception"]).filter goodWord ++ (vx_atS RX10 114 "java/lang/IndexOutOfBoundsException" ["java/lang/RuntimeException", "java/lang/Exception"]).filter goodWord
theorem inlX0 : ∀ w ∈ wsX00, w ∈ wsL_law := fun _ h => List.mem_append_left _ (List.mem_append_left _ (List.mem_append_left _ (List.mem_append_left _ (List.mem_append_right _ h))))
theorem inlX1 : ∀ w ∈ wsX10, w ∈ wsL_law := fun _ h => List.mem_append_left _ (List.mem_append_left _ (List.mem_append_left _ (List.mem_append_left _ (List.mem_append_left _ (List.mem_append_left _ (List.mem_append_left _ (List.mem_append_left _ (List.mem_append_left _ (List.mem_append_left _ (List.mem_append_left _ (List.mem_append_left _ (List.mem_append_right _ h))))))))))))
theorem inlX2 : ∀ w ∈ wsX20, w ∈ wsL_law := fun _ h => List.mem_append_left _ (List.mem_append_left _ (List.mem_append_left _ (List.mem_append_left _ (List.mem_append_left _ (List.mem_append_left _ (List.mem_append_right _ h))))))
theorem inlX3 : ∀ w ∈ wsX30, w ∈ wsL_law := fun _ h => List.mem_append_left _ (List.mem_append_left _ (List.mem_append_left _ (List.mem_append_left _ (List.mem_append_left _ (List.mem_append_left _ (List.mem_append_left _ (List.mem_append_left _ (List.mem_append_left _ (List.mem_append_left _ (List.mem_append_right _ h))))))))))
theorem inlX4 : ∀ w ∈ wsX40, w ∈ wsL_law := fun _ h => List.mem_append_left _ (List.mem_append_left _ (List.mem_append_left _ (List.mem_append_left _ (List.mem_append_left _ (List.mem_append_left _ (List.mem_append_left _ (List.mem_append_left _ (List.mem_append_left _ (List.mem_append_right _ h)))))))))
theorem inlX5 : ∀ w ∈ wsX50, w ∈ wsL_law := fun _ h => List.mem_append_left _ (List.mem_append_left _ (List.mem_append_left _ (List.mem_append_left _ (List.mem_append_left _ (List.mem_append_left _ (List.mem_append_left _ (List.mem_append_left _ (List.mem_append_right _ h))))))))
theorem inlX6 : ∀ w ∈ wsX60, w ∈ wsL_law := fun _ h => List.mem_append_left _ (List.mem_append_left _ (List.mem_append_left _ (List.mem_append_left _ (List.mem_append_left _ (List.mem_append_right _ h)))))
theorem inlX7 : ∀ w ∈ wsX70, w ∈ wsL_law := fun _ h => List.mem_append_left _ (List.mem_append_left _ (List.mem_append_left _ (List.mem_append_left _ (List.mem_append_left _ (List.mem_append_left _ (List.mem_append_left _ (List.mem_append_left _ (List.mem_append_left _ (List.mem_append_left _ (List.mem_append_left _ (List.mem_append_left _ (List.mem_append_left _ (List.mem_append_right _ h)))))))))))))
theorem inlX8 : ∀ w ∈ wsX80, w ∈ wsL_law := fun _ h => List.mem_append_left _ (List.mem_append_left _ (List.mem_append_left _ (List.mem_append_left _ (List.mem_append_left _ (List.mem_append_left _ (List.mem_append_left _ (List.mem_append_right _ h)))))))
theorem inlX9 : ∀ w ∈ wsX90, w ∈ wsL_law := fun _ h => List.mem_append_left _ (List.mem_append_left _ (List.mem_append_left _ (List.mem_append_left _ (List.mem_append_left _ (List.mem_append_left _ (List.mem_append_left _ (List.mem_append_left _ (List.mem_append_left _ (List.mem_append_left _ (List.mem_append_left _ (List.mem_append_right _ h)))))))))))
theorem inlX10 : ∀ w ∈ wsX100, w ∈ wsL_law := fun _ h => List.mem_append_left _ (List.mem_append_left _ (List.mem_append_left _ (List.mem_append_left _ (List.mem_append_left _ (List.mem_append_left _ (List.mem_append_left _ (List.mem_append_left _ (List.mem_append_left _ (List.mem_append_left _ (List.mem_append_left _ (List.mem_append_left _ (List.mem_append_left _ (List.mem_append_left _ (List.mem_append_left _ (List.mem_append_right _ h)))))))))))))))
theorem inlX11 : ∀ w ∈ wsX110, w ∈ wsL_law := fun _ h => List.mem_append_left _ (List.mem_append_left _ (List.mem_append_left _ (List.mem_append_left _ (List.mem_append_left _ (List.mem_append_left _ (List.mem_append_left _ (List.mem_append_left _ (List.mem_append_left _ (List.mem_append_left _ (List.mem_append_left _ (List.mem_append_left _ (List.mem_append_left _ (List.mem_append_left _ (List.mem_append_right _ h))))))))))))))
theorem dJxe99ae_isNaN_b9ae7_0 : decode cJxe99ae_isNaN_b9ae7 0 = .ok (.dload_n 0, 1) := by decide +kernel
theorem dJxe99ae_isNaN_b9ae7_1 : decode cJxe99ae_isNaN_b9ae7 1 = .ok (.dload_n 0, 1) := by decide +kernel
theorem dJxe99ae_isNaN_b9ae7_2 : decode cJxe99ae_isNaN_b9ae7 2 = .ok (.dcmp .l, 1) := by decide +kernel
theorem dJxe99ae_isNaN_b9ae7_3 : decode cJxe99ae_isNaN_b9ae7 3 = .ok (.ifCond .eq 7, 3) := by decide +kernel
theorem dJxe99ae_isNaN_b9ae7_6 : decode cJxe99ae_isNaN_b9ae7 6 = .ok (.iconst 1, 1) := by decide +kernel
theorem dJxe99ae_isNaN_b9ae7_7 : decode cJxe99ae_isNaN_b9ae7 7 = .ok (.goto 4, 3) := by decide +kernel
theorem dJxe99ae_isNaN_b9ae7_10 : decode cJxe99ae_isNaN_b9ae7 10 = .ok (.iconst 0, 1) := by decide +kernel
theorem dJxe99ae_isNaN_b9ae7_11 : decode cJxe99ae_isNaN_b9ae7 11 = .ok (.ireturn, 1) := by decide +kernel
theorem dJxe99ae_doubleToLongBits_ccdee_0 : decode cJxe99ae_doubleToLongBits_ccdee 0 = .ok (.dload_n 0, 1) := by decide +kernel
theorem dJxe99ae_doubleToLongBits_ccdee_1 : decode cJxe99ae_doubleToLongBits_ccdee 1 = .ok (.invokestatic 122, 3) := by decide +kernel
theorem dJxe99ae_doubleToLongBits_ccdee_4 : decode cJxe99ae_doubleToLongBits_ccdee 4 = .ok (.ifCond .ne 8, 3) := by decide +kernel
theorem dJxe99ae_doubleToLongBits_ccdee_7 : decode cJxe99ae_doubleToLongBits_ccdee 7 = .ok (.dload_n 0, 1) := by decide +kernel
theorem dJxe99ae_doubleToLongBits_ccdee_8 : decode cJxe99ae_doubleToLongBits_ccdee 8 = .ok (.invokestatic 134, 3) := by decide +kernel
theorem dJxe99ae_doubleToLongBits_ccdee_11 : decode cJxe99ae_doubleToLongBits_ccdee 11 = .ok (.lreturn, 1) := by decide +kernel
theorem dJxe99ae_doubleToLongBits_ccdee_12 : decode cJxe99ae_doubleToLongBits_ccdee 12 = .ok (.ldc2_w 137, 3) := by decide +kernel
theorem dJxe99ae_doubleToLongBits_ccdee_15 : decode cJxe99ae_doubleToLongBits_ccdee 15 = .ok (.lreturn, 1) := by decide +kernel
theorem dJ9_min_7cf53_0 : decode cJ9_min_7cf53 0 = .ok (.iload_n 0, 1) := by decide +kernel
theorem dJ9_min_7cf53_1 : decode cJ9_min_7cf53 1 = .ok (.iload_n 1, 1) := by decide +kernel
theorem dJ9_min_7cf53_2 : decode cJ9_min_7cf53 2 = .ok (.if_icmp .gt 7, 3) := by decide +kernel
theorem dJ9_min_7cf53_5 : decode cJ9_min_7cf53 5 = .ok (.iload_n 0, 1) := by decide +kernel
theorem dJ9_min_7cf53_6 : decode cJ9_min_7cf53 6 = .ok (.goto 4, 3) := by decide +kernel
theorem dJ9_min_7cf53_9 : decode cJ9_min_7cf53 9 = .ok (.iload_n 1, 1) := by decide +kernel
theorem dJ9_min_7cf53_10 : decode cJ9_min_7cf53 10 = .ok (.ireturn, 1) := by decide +kernel
abbrev vwCl : List vw_C := [(RX0, TX0, 3), (RX1, TX1, 3), (RX2, TX2, 2), (RX3, TX3, 3), (RX4, TX4, 2), (RX5, TX5, 3), (RX6, TX6, 5), (RX7, TX7, 5), (RX8, TX8, 3), (RX9, TX9, 2), (RX10, TX10, 9), (RX11, TX11, 20)]
