section
-- ===== PART A: goes FIRST, ahead of the names: the tables' words, and 'selects' of the private methods out of them =====
/-- a private method of a class that the tables say can be made, by its rows of tables_1 -/
def lw_okq (q : MethodName × Nat) : Prop := (q.1.cls ≠ "java/lang/invoke/MethodHandle" ∧ q.1.cls ≠ "java/lang/invoke/VarHandle") ∧ Cond.instantiable q.1.cls q.2 ∈ tables_1 ∧ Cond.privateMethod q.1 ∈ tables_1 ∧ Cond.instanceMethod q.1 ∈ tables_1
theorem lw_p0 : lw_okq (⟨"BridgesAreLent", "forgetPastIf", "(Z)V"⟩, 8) := ⟨⟨by decide +kernel, by decide +kernel⟩, List.mem_of_getElem? (i := 27) (by decide +kernel), List.mem_of_getElem? (i := 487) (by decide +kernel), List.mem_of_getElem? (i := 488) (by decide +kernel)⟩
theorem lw_p1 : lw_okq (⟨"BridgesAreLent$Rule", "readLevel", "(LBridgesAreLent$Text;II)V"⟩, 5) := ⟨⟨by decide +kernel, by decide +kernel⟩, List.mem_of_getElem? (i := 189) (by decide +kernel), List.mem_of_getElem? (i := 510) (by decide +kernel), List.mem_of_getElem? (i := 511) (by decide +kernel)⟩
theorem lw_p2 : lw_okq (⟨"BridgesAreLent$Rule", "readSigned", "(LBridgesAreLent$Text;I)V"⟩, 5) := ⟨⟨by decide +kernel, by decide +kernel⟩, List.mem_of_getElem? (i := 189) (by decide +kernel), List.mem_of_getElem? (i := 514) (by decide +kernel), List.mem_of_getElem? (i := 515) (by decide +kernel)⟩
theorem lw_p3 : lw_okq (⟨"BridgesAreLent$Rule", "readThing", "(LBridgesAreLent$Text;I)V"⟩, 5) := ⟨⟨by decide +kernel, by decide +kernel⟩, List.mem_of_getElem? (i := 189) (by decide +kernel), List.mem_of_getElem? (i := 519) (by decide +kernel), List.mem_of_getElem? (i := 520) (by decide +kernel)⟩
theorem lw_p4 : lw_okq (⟨"BridgesAreLent$Rule", "emit", "(I)V"⟩, 5) := ⟨⟨by decide +kernel, by decide +kernel⟩, List.mem_of_getElem? (i := 189) (by decide +kernel), List.mem_of_getElem? (i := 525) (by decide +kernel), List.mem_of_getElem? (i := 526) (by decide +kernel)⟩
theorem lw_p5 : lw_okq (⟨"BridgesAreLent$Valley", "placeOf", "(I)I"⟩, 9) := ⟨⟨by decide +kernel, by decide +kernel⟩, List.mem_of_getElem? (i := 75) (by decide +kernel), List.mem_of_getElem? (i := 698) (by decide +kernel), List.mem_of_getElem? (i := 699) (by decide +kernel)⟩
theorem lw_p6 : lw_okq (⟨"BridgesAreLent$Valley", "comeNearer", "()V"⟩, 9) := ⟨⟨by decide +kernel, by decide +kernel⟩, List.mem_of_getElem? (i := 75) (by decide +kernel), List.mem_of_getElem? (i := 771) (by decide +kernel), List.mem_of_getElem? (i := 772) (by decide +kernel)⟩
theorem lw_p7 : lw_okq (⟨"BridgesAreLent$Valley", "endLoans", "()V"⟩, 9) := ⟨⟨by decide +kernel, by decide +kernel⟩, List.mem_of_getElem? (i := 75) (by decide +kernel), List.mem_of_getElem? (i := 775) (by decide +kernel), List.mem_of_getElem? (i := 776) (by decide +kernel)⟩
theorem lw_p8 : lw_okq (⟨"BridgesAreLent$Day", "readAct", "(LBridgesAreLent$Text;I)V"⟩, 4) := ⟨⟨by decide +kernel, by decide +kernel⟩, List.mem_of_getElem? (i := 320) (by decide +kernel), List.mem_of_getElem? (i := 800) (by decide +kernel), List.mem_of_getElem? (i := 801) (by decide +kernel)⟩
theorem lw_p9 : lw_okq (⟨"BridgesAreLent$Day", "doesAct", "(LBridgesAreLent$Valley;I)Z"⟩, 4) := ⟨⟨by decide +kernel, by decide +kernel⟩, List.mem_of_getElem? (i := 320) (by decide +kernel), List.mem_of_getElem? (i := 814) (by decide +kernel), List.mem_of_getElem? (i := 815) (by decide +kernel)⟩
theorem lw_p10 : lw_okq (⟨"BridgesAreLent$Valley", "canMove", "(II)Z"⟩, 9) := ⟨⟨by decide +kernel, by decide +kernel⟩, List.mem_of_getElem? (i := 75) (by decide +kernel), List.mem_of_getElem? (i := 907) (by decide +kernel), List.mem_of_getElem? (i := 908) (by decide +kernel)⟩
theorem lw_p11 : lw_okq (⟨"BridgesAreLent$Valley", "openWithMove", "(IIII)I"⟩, 9) := ⟨⟨by decide +kernel, by decide +kernel⟩, List.mem_of_getElem? (i := 75) (by decide +kernel), List.mem_of_getElem? (i := 911) (by decide +kernel), List.mem_of_getElem? (i := 912) (by decide +kernel)⟩
theorem lw_p12 : lw_okq (⟨"BridgesAreLent$Valley", "bySecondMove", "(LBridgesAreLent$Row;IIIII)Z"⟩, 9) := ⟨⟨by decide +kernel, by decide +kernel⟩, List.mem_of_getElem? (i := 75) (by decide +kernel), List.mem_of_getElem? (i := 921) (by decide +kernel), List.mem_of_getElem? (i := 922) (by decide +kernel)⟩
theorem lw_p13 : lw_okq (⟨"BridgesAreLent$Layouts", "firstFor", "(III)I"⟩, 5) := ⟨⟨by decide +kernel, by decide +kernel⟩, List.mem_of_getElem? (i := 256) (by decide +kernel), List.mem_of_getElem? (i := 955) (by decide +kernel), List.mem_of_getElem? (i := 956) (by decide +kernel)⟩
theorem lw_p14 : lw_okq (⟨"BridgesAreLent$Layouts", "grants", "(I)Z"⟩, 5) := ⟨⟨by decide +kernel, by decide +kernel⟩, List.mem_of_getElem? (i := 256) (by decide +kernel), List.mem_of_getElem? (i := 974) (by decide +kernel), List.mem_of_getElem? (i := 975) (by decide +kernel)⟩
theorem lw_p15 : lw_okq (⟨"BridgesAreLent$Drifting", "passNight", "(I)V"⟩, 4) := ⟨⟨by decide +kernel, by decide +kernel⟩, List.mem_of_getElem? (i := 278) (by decide +kernel), List.mem_of_getElem? (i := 1038) (by decide +kernel), List.mem_of_getElem? (i := 1039) (by decide +kernel)⟩
def lw_privs_1 : List (MethodName × Nat) := [(⟨"BridgesAreLent", "forgetPastIf", "(Z)V"⟩, 8), (⟨"BridgesAreLent$Rule", "readLevel", "(LBridgesAreLent$Text;II)V"⟩, 5), (⟨"BridgesAreLent$Rule", "readSigned", "(LBridgesAreLent$Text;I)V"⟩, 5), (⟨"BridgesAreLent$Rule", "readThing", "(LBridgesAreLent$Text;I)V"⟩, 5), (⟨"BridgesAreLent$Rule", "emit", "(I)V"⟩, 5), (⟨"BridgesAreLent$Valley", "placeOf", "(I)I"⟩, 9), (⟨"BridgesAreLent$Valley", "comeNearer", "()V"⟩, 9), (⟨"BridgesAreLent$Valley", "endLoans", "()V"⟩, 9), (⟨"BridgesAreLent$Day", "readAct", "(LBridgesAreLent$Text;I)V"⟩, 4), (⟨"BridgesAreLent$Day", "doesAct", "(LBridgesAreLent$Valley;I)Z"⟩, 4), (⟨"BridgesAreLent$Valley", "canMove", "(II)Z"⟩, 9), (⟨"BridgesAreLent$Valley", "openWithMove", "(IIII)I"⟩, 9), (⟨"BridgesAreLent$Valley", "bySecondMove", "(LBridgesAreLent$Row;IIIII)Z"⟩, 9), (⟨"BridgesAreLent$Layouts", "firstFor", "(III)I"⟩, 5), (⟨"BridgesAreLent$Layouts", "grants", "(I)Z"⟩, 5), (⟨"BridgesAreLent$Drifting", "passNight", "(I)V"⟩, 4)]
theorem lw_r1 : ∀ q ∈ lw_privs_1, lw_okq q := List.forall_mem_cons.mpr ⟨lw_p0, List.forall_mem_cons.mpr ⟨lw_p1, List.forall_mem_cons.mpr ⟨lw_p2, List.forall_mem_cons.mpr ⟨lw_p3, List.forall_mem_cons.mpr ⟨lw_p4, List.forall_mem_cons.mpr ⟨lw_p5, List.forall_mem_cons.mpr ⟨lw_p6, List.forall_mem_cons.mpr ⟨lw_p7, List.forall_mem_cons.mpr ⟨lw_p8, List.forall_mem_cons.mpr ⟨lw_p9, List.forall_mem_cons.mpr ⟨lw_p10, List.forall_mem_cons.mpr ⟨lw_p11, List.forall_mem_cons.mpr ⟨lw_p12, List.forall_mem_cons.mpr ⟨lw_p13, List.forall_mem_cons.mpr ⟨lw_p14, List.forall_mem_cons.mpr ⟨lw_p15, fun _ h => absurd h List.not_mem_nil⟩⟩⟩⟩⟩⟩⟩⟩⟩⟩⟩⟩⟩⟩⟩⟩
theorem lw_p16 : lw_okq (⟨"BridgesAreLent$Finds", "fits", "(I)Z"⟩, 4) := ⟨⟨by decide +kernel, by decide +kernel⟩, List.mem_of_getElem? (i := 299) (by decide +kernel), List.mem_of_getElem? (i := 1082) (by decide +kernel), List.mem_of_getElem? (i := 1083) (by decide +kernel)⟩
theorem lw_p17 : lw_okq (⟨"BridgesAreLent$Finds", "isSo", "(II)Z"⟩, 4) := ⟨⟨by decide +kernel, by decide +kernel⟩, List.mem_of_getElem? (i := 299) (by decide +kernel), List.mem_of_getElem? (i := 1086) (by decide +kernel), List.mem_of_getElem? (i := 1087) (by decide +kernel)⟩
theorem lw_p18 : lw_okq (⟨"BridgesAreLent$Drifting", "driftsToShed", "(I)Z"⟩, 4) := ⟨⟨by decide +kernel, by decide +kernel⟩, List.mem_of_getElem? (i := 278) (by decide +kernel), List.mem_of_getElem? (i := 1142) (by decide +kernel), List.mem_of_getElem? (i := 1143) (by decide +kernel)⟩
theorem lw_p19 : lw_okq (⟨"BridgesAreLent$Drifting", "dreamedPairs", "()I"⟩, 4) := ⟨⟨by decide +kernel, by decide +kernel⟩, List.mem_of_getElem? (i := 278) (by decide +kernel), List.mem_of_getElem? (i := 1152) (by decide +kernel), List.mem_of_getElem? (i := 1153) (by decide +kernel)⟩
theorem lw_p20 : lw_okq (⟨"java/lang/Throwable", "fillInStackTrace", "(I)Ljava/lang/Throwable;"⟩, 6) := ⟨⟨by decide +kernel, by decide +kernel⟩, List.mem_of_getElem? (i := 1234) (by decide +kernel), List.mem_of_getElem? (i := 1232) (by decide +kernel), List.mem_of_getElem? (i := 1233) (by decide +kernel)⟩
theorem lw_p21 : lw_okq (⟨"BridgesAreLentModel", "begins", "(I)I"⟩, 60) := ⟨⟨by decide +kernel, by decide +kernel⟩, List.mem_of_getElem? (i := 1289) (by decide +kernel), List.mem_of_getElem? (i := 1495) (by decide +kernel), List.mem_of_getElem? (i := 1496) (by decide +kernel)⟩
theorem lw_p22 : lw_okq (⟨"BridgesAreLentModel", "takesOf", "(Ljava/lang/String;)I"⟩, 60) := ⟨⟨by decide +kernel, by decide +kernel⟩, List.mem_of_getElem? (i := 1289) (by decide +kernel), List.mem_of_getElem? (i := 1501) (by decide +kernel), List.mem_of_getElem? (i := 1502) (by decide +kernel)⟩
theorem lw_p23 : lw_okq (⟨"BridgesAreLentModel", "among", "(Ljava/lang/String;)I"⟩, 60) := ⟨⟨by decide +kernel, by decide +kernel⟩, List.mem_of_getElem? (i := 1289) (by decide +kernel), List.mem_of_getElem? (i := 1505) (by decide +kernel), List.mem_of_getElem? (i := 1506) (by decide +kernel)⟩
theorem lw_p24 : lw_okq (⟨"BridgesAreLentModel", "isNext", "(I)Z"⟩, 60) := ⟨⟨by decide +kernel, by decide +kernel⟩, List.mem_of_getElem? (i := 1289) (by decide +kernel), List.mem_of_getElem? (i := 1514) (by decide +kernel), List.mem_of_getElem? (i := 1515) (by decide +kernel)⟩
theorem lw_p25 : lw_okq (⟨"BridgesAreLentModel", "readsCrossing", "()Z"⟩, 60) := ⟨⟨by decide +kernel, by decide +kernel⟩, List.mem_of_getElem? (i := 1289) (by decide +kernel), List.mem_of_getElem? (i := 1518) (by decide +kernel), List.mem_of_getElem? (i := 1519) (by decide +kernel)⟩
theorem lw_p26 : lw_okq (⟨"BridgesAreLentModel", "twoBanks", "(I)I"⟩, 60) := ⟨⟨by decide +kernel, by decide +kernel⟩, List.mem_of_getElem? (i := 1289) (by decide +kernel), List.mem_of_getElem? (i := 1522) (by decide +kernel), List.mem_of_getElem? (i := 1523) (by decide +kernel)⟩
theorem lw_p27 : lw_okq (⟨"BridgesAreLentModel", "letter", "(I)I"⟩, 60) := ⟨⟨by decide +kernel, by decide +kernel⟩, List.mem_of_getElem? (i := 1289) (by decide +kernel), List.mem_of_getElem? (i := 1526) (by decide +kernel), List.mem_of_getElem? (i := 1527) (by decide +kernel)⟩
theorem lw_p28 : lw_okq (⟨"BridgesAreLentModel", "number", "(I)I"⟩, 60) := ⟨⟨by decide +kernel, by decide +kernel⟩, List.mem_of_getElem? (i := 1289) (by decide +kernel), List.mem_of_getElem? (i := 1531) (by decide +kernel), List.mem_of_getElem? (i := 1532) (by decide +kernel)⟩
theorem lw_p29 : lw_okq (⟨"BridgesAreLentModel", "isDigit", "()Z"⟩, 60) := ⟨⟨by decide +kernel, by decide +kernel⟩, List.mem_of_getElem? (i := 1289) (by decide +kernel), List.mem_of_getElem? (i := 1535) (by decide +kernel), List.mem_of_getElem? (i := 1536) (by decide +kernel)⟩
theorem lw_p30 : lw_okq (⟨"BridgesAreLentModel", "faultOf", "(IIZ)I"⟩, 60) := ⟨⟨by decide +kernel, by decide +kernel⟩, List.mem_of_getElem? (i := 1289) (by decide +kernel), List.mem_of_getElem? (i := 1542) (by decide +kernel), List.mem_of_getElem? (i := 1543) (by decide +kernel)⟩
theorem lw_p31 : lw_okq (⟨"BridgesAreLentModel", "comes", "()V"⟩, 60) := ⟨⟨by decide +kernel, by decide +kernel⟩, List.mem_of_getElem? (i := 1289) (by decide +kernel), List.mem_of_getElem? (i := 1546) (by decide +kernel), List.mem_of_getElem? (i := 1547) (by decide +kernel)⟩
def lw_privs_2 : List (MethodName × Nat) := [(⟨"BridgesAreLent$Finds", "fits", "(I)Z"⟩, 4), (⟨"BridgesAreLent$Finds", "isSo", "(II)Z"⟩, 4), (⟨"BridgesAreLent$Drifting", "driftsToShed", "(I)Z"⟩, 4), (⟨"BridgesAreLent$Drifting", "dreamedPairs", "()I"⟩, 4), (⟨"java/lang/Throwable", "fillInStackTrace", "(I)Ljava/lang/Throwable;"⟩, 6), (⟨"BridgesAreLentModel", "begins", "(I)I"⟩, 60), (⟨"BridgesAreLentModel", "takesOf", "(Ljava/lang/String;)I"⟩, 60), (⟨"BridgesAreLentModel", "among", "(Ljava/lang/String;)I"⟩, 60), (⟨"BridgesAreLentModel", "isNext", "(I)Z"⟩, 60), (⟨"BridgesAreLentModel", "readsCrossing", "()Z"⟩, 60), (⟨"BridgesAreLentModel", "twoBanks", "(I)I"⟩, 60), (⟨"BridgesAreLentModel", "letter", "(I)I"⟩, 60), (⟨"BridgesAreLentModel", "number", "(I)I"⟩, 60), (⟨"BridgesAreLentModel", "isDigit", "()Z"⟩, 60), (⟨"BridgesAreLentModel", "faultOf", "(IIZ)I"⟩, 60), (⟨"BridgesAreLentModel", "comes", "()V"⟩, 60)]
theorem lw_r2 : ∀ q ∈ lw_privs_2, lw_okq q := List.forall_mem_cons.mpr ⟨lw_p16, List.forall_mem_cons.mpr ⟨lw_p17, List.forall_mem_cons.mpr ⟨lw_p18, List.forall_mem_cons.mpr ⟨lw_p19, List.forall_mem_cons.mpr ⟨lw_p20, List.forall_mem_cons.mpr ⟨lw_p21, List.forall_mem_cons.mpr ⟨lw_p22, List.forall_mem_cons.mpr ⟨lw_p23, List.forall_mem_cons.mpr ⟨lw_p24, List.forall_mem_cons.mpr ⟨lw_p25, List.forall_mem_cons.mpr ⟨lw_p26, List.forall_mem_cons.mpr ⟨lw_p27, List.forall_mem_cons.mpr ⟨lw_p28, List.forall_mem_cons.mpr ⟨lw_p29, List.forall_mem_cons.mpr ⟨lw_p30, List.forall_mem_cons.mpr ⟨lw_p31, fun _ h => absurd h List.not_mem_nil⟩⟩⟩⟩⟩⟩⟩⟩⟩⟩⟩⟩⟩⟩⟩⟩
theorem lw_p32 : lw_okq (⟨"BridgesAreLentModel", "readsPairs", "(Z)I"⟩, 60) := ⟨⟨by decide +kernel, by decide +kernel⟩, List.mem_of_getElem? (i := 1289) (by decide +kernel), List.mem_of_getElem? (i := 1554) (by decide +kernel), List.mem_of_getElem? (i := 1555) (by decide +kernel)⟩
theorem lw_p33 : lw_okq (⟨"BridgesAreLentModel", "readsPair", "(Z)Z"⟩, 60) := ⟨⟨by decide +kernel, by decide +kernel⟩, List.mem_of_getElem? (i := 1289) (by decide +kernel), List.mem_of_getElem? (i := 1558) (by decide +kernel), List.mem_of_getElem? (i := 1559) (by decide +kernel)⟩
theorem lw_p34 : lw_okq (⟨"BridgesAreLentModel", "readsRank", "(I)Z"⟩, 60) := ⟨⟨by decide +kernel, by decide +kernel⟩, List.mem_of_getElem? (i := 1289) (by decide +kernel), List.mem_of_getElem? (i := 1570) (by decide +kernel), List.mem_of_getElem? (i := 1571) (by decide +kernel)⟩
theorem lw_p35 : lw_okq (⟨"BridgesAreLentModel", "readsThing", "()Z"⟩, 60) := ⟨⟨by decide +kernel, by decide +kernel⟩, List.mem_of_getElem? (i := 1289) (by decide +kernel), List.mem_of_getElem? (i := 1574) (by decide +kernel), List.mem_of_getElem? (i := 1575) (by decide +kernel)⟩
theorem lw_p36 : lw_okq (⟨"BridgesAreLentModel", "codes", "(I)V"⟩, 60) := ⟨⟨by decide +kernel, by decide +kernel⟩, List.mem_of_getElem? (i := 1289) (by decide +kernel), List.mem_of_getElem? (i := 1578) (by decide +kernel), List.mem_of_getElem? (i := 1579) (by decide +kernel)⟩
theorem lw_p37 : lw_okq (⟨"BridgesAreLentModel", "isCrossing", "(I)Z"⟩, 60) := ⟨⟨by decide +kernel, by decide +kernel⟩, List.mem_of_getElem? (i := 1289) (by decide +kernel), List.mem_of_getElem? (i := 1590) (by decide +kernel), List.mem_of_getElem? (i := 1591) (by decide +kernel)⟩
theorem lw_p38 : lw_okq (⟨"BridgesAreLentModel", "refuse", "()I"⟩, 60) := ⟨⟨by decide +kernel, by decide +kernel⟩, List.mem_of_getElem? (i := 1289) (by decide +kernel), List.mem_of_getElem? (i := 1595) (by decide +kernel), List.mem_of_getElem? (i := 1596) (by decide +kernel)⟩
theorem lw_p39 : lw_okq (⟨"BridgesAreLentModel", "bridgeAt", "(IZ)I"⟩, 60) := ⟨⟨by decide +kernel, by decide +kernel⟩, List.mem_of_getElem? (i := 1289) (by decide +kernel), List.mem_of_getElem? (i := 1599) (by decide +kernel), List.mem_of_getElem? (i := 1600) (by decide +kernel)⟩
theorem lw_p40 : lw_okq (⟨"BridgesAreLentModel", "isBridge", "(I)Z"⟩, 60) := ⟨⟨by decide +kernel, by decide +kernel⟩, List.mem_of_getElem? (i := 1289) (by decide +kernel), List.mem_of_getElem? (i := 1607) (by decide +kernel), List.mem_of_getElem? (i := 1608) (by decide +kernel)⟩
theorem lw_p41 : lw_okq (⟨"BridgesAreLentModel", "isPerson", "(I)Z"⟩, 60) := ⟨⟨by decide +kernel, by decide +kernel⟩, List.mem_of_getElem? (i := 1289) (by decide +kernel), List.mem_of_getElem? (i := 1616) (by decide +kernel), List.mem_of_getElem? (i := 1617) (by decide +kernel)⟩
theorem lw_p42 : lw_okq (⟨"BridgesAreLentModel", "whyNot", "(II)I"⟩, 60) := ⟨⟨by decide +kernel, by decide +kernel⟩, List.mem_of_getElem? (i := 1289) (by decide +kernel), List.mem_of_getElem? (i := 1634) (by decide +kernel), List.mem_of_getElem? (i := 1635) (by decide +kernel)⟩
theorem lw_p43 : lw_okq (⟨"BridgesAreLentModel", "towOf", "(II)I"⟩, 60) := ⟨⟨by decide +kernel, by decide +kernel⟩, List.mem_of_getElem? (i := 1289) (by decide +kernel), List.mem_of_getElem? (i := 1638) (by decide +kernel), List.mem_of_getElem? (i := 1639) (by decide +kernel)⟩
theorem lw_p44 : lw_okq (⟨"BridgesAreLentModel", "spotOf", "(I)I"⟩, 60) := ⟨⟨by decide +kernel, by decide +kernel⟩, List.mem_of_getElem? (i := 1289) (by decide +kernel), List.mem_of_getElem? (i := 1642) (by decide +kernel), List.mem_of_getElem? (i := 1643) (by decide +kernel)⟩
theorem lw_p45 : lw_okq (⟨"BridgesAreLentModel", "ruled", "()I"⟩, 60) := ⟨⟨by decide +kernel, by decide +kernel⟩, List.mem_of_getElem? (i := 1289) (by decide +kernel), List.mem_of_getElem? (i := 1647) (by decide +kernel), List.mem_of_getElem? (i := 1648) (by decide +kernel)⟩
theorem lw_p46 : lw_okq (⟨"BridgesAreLentModel", "putsBy", "()V"⟩, 60) := ⟨⟨by decide +kernel, by decide +kernel⟩, List.mem_of_getElem? (i := 1289) (by decide +kernel), List.mem_of_getElem? (i := 1658) (by decide +kernel), List.mem_of_getElem? (i := 1659) (by decide +kernel)⟩
theorem lw_p47 : lw_okq (⟨"BridgesAreLentModel", "tows", "(II)I"⟩, 60) := ⟨⟨by decide +kernel, by decide +kernel⟩, List.mem_of_getElem? (i := 1289) (by decide +kernel), List.mem_of_getElem? (i := 1662) (by decide +kernel), List.mem_of_getElem? (i := 1663) (by decide +kernel)⟩
def lw_privs_3 : List (MethodName × Nat) := [(⟨"BridgesAreLentModel", "readsPairs", "(Z)I"⟩, 60), (⟨"BridgesAreLentModel", "readsPair", "(Z)Z"⟩, 60), (⟨"BridgesAreLentModel", "readsRank", "(I)Z"⟩, 60), (⟨"BridgesAreLentModel", "readsThing", "()Z"⟩, 60), (⟨"BridgesAreLentModel", "codes", "(I)V"⟩, 60), (⟨"BridgesAreLentModel", "isCrossing", "(I)Z"⟩, 60), (⟨"BridgesAreLentModel", "refuse", "()I"⟩, 60), (⟨"BridgesAreLentModel", "bridgeAt", "(IZ)I"⟩, 60), (⟨"BridgesAreLentModel", "isBridge", "(I)Z"⟩, 60), (⟨"BridgesAreLentModel", "isPerson", "(I)Z"⟩, 60), (⟨"BridgesAreLentModel", "whyNot", "(II)I"⟩, 60), (⟨"BridgesAreLentModel", "towOf", "(II)I"⟩, 60), (⟨"BridgesAreLentModel", "spotOf", "(I)I"⟩, 60), (⟨"BridgesAreLentModel", "ruled", "()I"⟩, 60), (⟨"BridgesAreLentModel", "putsBy", "()V"⟩, 60), (⟨"BridgesAreLentModel", "tows", "(II)I"⟩, 60)]
theorem lw_r3 : ∀ q ∈ lw_privs_3, lw_okq q := List.forall_mem_cons.mpr ⟨lw_p32, List.forall_mem_cons.mpr ⟨lw_p33, List.forall_mem_cons.mpr ⟨lw_p34, List.forall_mem_cons.mpr ⟨lw_p35, List.forall_mem_cons.mpr ⟨lw_p36, List.forall_mem_cons.mpr ⟨lw_p37, List.forall_mem_cons.mpr ⟨lw_p38, List.forall_mem_cons.mpr ⟨lw_p39, List.forall_mem_cons.mpr ⟨lw_p40, List.forall_mem_cons.mpr ⟨lw_p41, List.forall_mem_cons.mpr ⟨lw_p42, List.forall_mem_cons.mpr ⟨lw_p43, List.forall_mem_cons.mpr ⟨lw_p44, List.forall_mem_cons.mpr ⟨lw_p45, List.forall_mem_cons.mpr ⟨lw_p46, List.forall_mem_cons.mpr ⟨lw_p47, fun _ h => absurd h List.not_mem_nil⟩⟩⟩⟩⟩⟩⟩⟩⟩⟩⟩⟩⟩⟩⟩⟩
theorem lw_p48 : lw_okq (⟨"BridgesAreLentModel", "counts", "(I)I"⟩, 60) := ⟨⟨by decide +kernel, by decide +kernel⟩, List.mem_of_getElem? (i := 1289) (by decide +kernel), List.mem_of_getElem? (i := 1666) (by decide +kernel), List.mem_of_getElem? (i := 1667) (by decide +kernel)⟩
theorem lw_p49 : lw_okq (⟨"BridgesAreLentModel", "adds", "(I)I"⟩, 60) := ⟨⟨by decide +kernel, by decide +kernel⟩, List.mem_of_getElem? (i := 1289) (by decide +kernel), List.mem_of_getElem? (i := 1670) (by decide +kernel), List.mem_of_getElem? (i := 1671) (by decide +kernel)⟩
theorem lw_p50 : lw_okq (⟨"BridgesAreLentModel", "lends", "(II)I"⟩, 60) := ⟨⟨by decide +kernel, by decide +kernel⟩, List.mem_of_getElem? (i := 1289) (by decide +kernel), List.mem_of_getElem? (i := 1678) (by decide +kernel), List.mem_of_getElem? (i := 1679) (by decide +kernel)⟩
theorem lw_p51 : lw_okq (⟨"BridgesAreLentModel", "crosses", "(II)I"⟩, 60) := ⟨⟨by decide +kernel, by decide +kernel⟩, List.mem_of_getElem? (i := 1289) (by decide +kernel), List.mem_of_getElem? (i := 1687) (by decide +kernel), List.mem_of_getElem? (i := 1688) (by decide +kernel)⟩
theorem lw_p52 : lw_okq (⟨"BridgesAreLentModel", "openIn", "(II)I"⟩, 60) := ⟨⟨by decide +kernel, by decide +kernel⟩, List.mem_of_getElem? (i := 1289) (by decide +kernel), List.mem_of_getElem? (i := 1691) (by decide +kernel), List.mem_of_getElem? (i := 1692) (by decide +kernel)⟩
theorem lw_p53 : lw_okq (⟨"BridgesAreLentModel", "startsCounting", "()V"⟩, 60) := ⟨⟨by decide +kernel, by decide +kernel⟩, List.mem_of_getElem? (i := 1289) (by decide +kernel), List.mem_of_getElem? (i := 1703) (by decide +kernel), List.mem_of_getElem? (i := 1704) (by decide +kernel)⟩
theorem lw_p54 : lw_okq (⟨"BridgesAreLentModel", "hourGoes", "()V"⟩, 60) := ⟨⟨by decide +kernel, by decide +kernel⟩, List.mem_of_getElem? (i := 1289) (by decide +kernel), List.mem_of_getElem? (i := 1707) (by decide +kernel), List.mem_of_getElem? (i := 1708) (by decide +kernel)⟩
theorem lw_p55 : lw_okq (⟨"BridgesAreLentModel", "enters", "(J)V"⟩, 60) := ⟨⟨by decide +kernel, by decide +kernel⟩, List.mem_of_getElem? (i := 1289) (by decide +kernel), List.mem_of_getElem? (i := 1711) (by decide +kernel), List.mem_of_getElem? (i := 1712) (by decide +kernel)⟩
theorem lw_p56 : lw_okq (⟨"BridgesAreLentModel", "readsAct", "()Z"⟩, 60) := ⟨⟨by decide +kernel, by decide +kernel⟩, List.mem_of_getElem? (i := 1289) (by decide +kernel), List.mem_of_getElem? (i := 1719) (by decide +kernel), List.mem_of_getElem? (i := 1720) (by decide +kernel)⟩
theorem lw_p57 : lw_okq (⟨"BridgesAreLentModel", "does", "(I)Z"⟩, 60) := ⟨⟨by decide +kernel, by decide +kernel⟩, List.mem_of_getElem? (i := 1289) (by decide +kernel), List.mem_of_getElem? (i := 1724) (by decide +kernel), List.mem_of_getElem? (i := 1725) (by decide +kernel)⟩
theorem lw_p58 : lw_okq (⟨"BridgesAreLentModel", "isBank", "(I)Z"⟩, 60) := ⟨⟨by decide +kernel, by decide +kernel⟩, List.mem_of_getElem? (i := 1289) (by decide +kernel), List.mem_of_getElem? (i := 1732) (by decide +kernel), List.mem_of_getElem? (i := 1733) (by decide +kernel)⟩
theorem lw_p59 : lw_okq (⟨"BridgesAreLentModel", "laysFar", "(II)V"⟩, 60) := ⟨⟨by decide +kernel, by decide +kernel⟩, List.mem_of_getElem? (i := 1289) (by decide +kernel), List.mem_of_getElem? (i := 1736) (by decide +kernel), List.mem_of_getElem? (i := 1737) (by decide +kernel)⟩
theorem lw_p60 : lw_okq (⟨"BridgesAreLentModel", "pairsOf", "(I)I"⟩, 60) := ⟨⟨by decide +kernel, by decide +kernel⟩, List.mem_of_getElem? (i := 1289) (by decide +kernel), List.mem_of_getElem? (i := 1744) (by decide +kernel), List.mem_of_getElem? (i := 1745) (by decide +kernel)⟩
theorem lw_p61 : lw_okq (⟨"BridgesAreLentModel", "reach", "(II)I"⟩, 60) := ⟨⟨by decide +kernel, by decide +kernel⟩, List.mem_of_getElem? (i := 1289) (by decide +kernel), List.mem_of_getElem? (i := 1748) (by decide +kernel), List.mem_of_getElem? (i := 1749) (by decide +kernel)⟩
theorem lw_p62 : lw_okq (⟨"BridgesAreLentModel", "reachOnce", "(II)I"⟩, 60) := ⟨⟨by decide +kernel, by decide +kernel⟩, List.mem_of_getElem? (i := 1289) (by decide +kernel), List.mem_of_getElem? (i := 1752) (by decide +kernel), List.mem_of_getElem? (i := 1753) (by decide +kernel)⟩
theorem lw_p63 : lw_okq (⟨"BridgesAreLentModel", "canGo", "(III)Z"⟩, 60) := ⟨⟨by decide +kernel, by decide +kernel⟩, List.mem_of_getElem? (i := 1289) (by decide +kernel), List.mem_of_getElem? (i := 1765) (by decide +kernel), List.mem_of_getElem? (i := 1766) (by decide +kernel)⟩
def lw_privs_4 : List (MethodName × Nat) := [(⟨"BridgesAreLentModel", "counts", "(I)I"⟩, 60), (⟨"BridgesAreLentModel", "adds", "(I)I"⟩, 60), (⟨"BridgesAreLentModel", "lends", "(II)I"⟩, 60), (⟨"BridgesAreLentModel", "crosses", "(II)I"⟩, 60), (⟨"BridgesAreLentModel", "openIn", "(II)I"⟩, 60), (⟨"BridgesAreLentModel", "startsCounting", "()V"⟩, 60), (⟨"BridgesAreLentModel", "hourGoes", "()V"⟩, 60), (⟨"BridgesAreLentModel", "enters", "(J)V"⟩, 60), (⟨"BridgesAreLentModel", "readsAct", "()Z"⟩, 60), (⟨"BridgesAreLentModel", "does", "(I)Z"⟩, 60), (⟨"BridgesAreLentModel", "isBank", "(I)Z"⟩, 60), (⟨"BridgesAreLentModel", "laysFar", "(II)V"⟩, 60), (⟨"BridgesAreLentModel", "pairsOf", "(I)I"⟩, 60), (⟨"BridgesAreLentModel", "reach", "(II)I"⟩, 60), (⟨"BridgesAreLentModel", "reachOnce", "(II)I"⟩, 60), (⟨"BridgesAreLentModel", "canGo", "(III)Z"⟩, 60)]
theorem lw_r4 : ∀ q ∈ lw_privs_4, lw_okq q := List.forall_mem_cons.mpr ⟨lw_p48, List.forall_mem_cons.mpr ⟨lw_p49, List.forall_mem_cons.mpr ⟨lw_p50, List.forall_mem_cons.mpr ⟨lw_p51, List.forall_mem_cons.mpr ⟨lw_p52, List.forall_mem_cons.mpr ⟨lw_p53, List.forall_mem_cons.mpr ⟨lw_p54, List.forall_mem_cons.mpr ⟨lw_p55, List.forall_mem_cons.mpr ⟨lw_p56, List.forall_mem_cons.mpr ⟨lw_p57, List.forall_mem_cons.mpr ⟨lw_p58, List.forall_mem_cons.mpr ⟨lw_p59, List.forall_mem_cons.mpr ⟨lw_p60, List.forall_mem_cons.mpr ⟨lw_p61, List.forall_mem_cons.mpr ⟨lw_p62, List.forall_mem_cons.mpr ⟨lw_p63, fun _ h => absurd h List.not_mem_nil⟩⟩⟩⟩⟩⟩⟩⟩⟩⟩⟩⟩⟩⟩⟩⟩
theorem lw_p64 : lw_okq (⟨"BridgesAreLentModel", "canPut", "(II)Z"⟩, 60) := ⟨⟨by decide +kernel, by decide +kernel⟩, List.mem_of_getElem? (i := 1289) (by decide +kernel), List.mem_of_getElem? (i := 1769) (by decide +kernel), List.mem_of_getElem? (i := 1770) (by decide +kernel)⟩
theorem lw_p65 : lw_okq (⟨"BridgesAreLentModel", "isFree", "(I)Z"⟩, 60) := ⟨⟨by decide +kernel, by decide +kernel⟩, List.mem_of_getElem? (i := 1289) (by decide +kernel), List.mem_of_getElem? (i := 1773) (by decide +kernel), List.mem_of_getElem? (i := 1774) (by decide +kernel)⟩
theorem lw_p66 : lw_okq (⟨"BridgesAreLentModel", "openWith", "(IIII)I"⟩, 60) := ⟨⟨by decide +kernel, by decide +kernel⟩, List.mem_of_getElem? (i := 1289) (by decide +kernel), List.mem_of_getElem? (i := 1777) (by decide +kernel), List.mem_of_getElem? (i := 1778) (by decide +kernel)⟩
theorem lw_p67 : lw_okq (⟨"BridgesAreLentModel", "allCrossings", "()I"⟩, 60) := ⟨⟨by decide +kernel, by decide +kernel⟩, List.mem_of_getElem? (i := 1289) (by decide +kernel), List.mem_of_getElem? (i := 1789) (by decide +kernel), List.mem_of_getElem? (i := 1790) (by decide +kernel)⟩
theorem lw_p68 : lw_okq (⟨"BridgesAreLentModel", "laysFrom", "(IIII)Z"⟩, 60) := ⟨⟨by decide +kernel, by decide +kernel⟩, List.mem_of_getElem? (i := 1289) (by decide +kernel), List.mem_of_getElem? (i := 1793) (by decide +kernel), List.mem_of_getElem? (i := 1794) (by decide +kernel)⟩
theorem lw_p69 : lw_okq (⟨"BridgesAreLentModel", "fewestFor", "()I"⟩, 60) := ⟨⟨by decide +kernel, by decide +kernel⟩, List.mem_of_getElem? (i := 1289) (by decide +kernel), List.mem_of_getElem? (i := 1802) (by decide +kernel), List.mem_of_getElem? (i := 1803) (by decide +kernel)⟩
theorem lw_p70 : lw_okq (⟨"BridgesAreLentModel", "joinsAll", "(I)Z"⟩, 60) := ⟨⟨by decide +kernel, by decide +kernel⟩, List.mem_of_getElem? (i := 1289) (by decide +kernel), List.mem_of_getElem? (i := 1806) (by decide +kernel), List.mem_of_getElem? (i := 1807) (by decide +kernel)⟩
theorem lw_p71 : lw_okq (⟨"BridgesAreLentModel", "canLay", "(I)Z"⟩, 60) := ⟨⟨by decide +kernel, by decide +kernel⟩, List.mem_of_getElem? (i := 1289) (by decide +kernel), List.mem_of_getElem? (i := 1810) (by decide +kernel), List.mem_of_getElem? (i := 1811) (by decide +kernel)⟩
theorem lw_p72 : lw_okq (⟨"BridgesAreLentModel", "pairsBy", "(I)I"⟩, 60) := ⟨⟨by decide +kernel, by decide +kernel⟩, List.mem_of_getElem? (i := 1289) (by decide +kernel), List.mem_of_getElem? (i := 1827) (by decide +kernel), List.mem_of_getElem? (i := 1828) (by decide +kernel)⟩
theorem lw_p73 : lw_okq (⟨"BridgesAreLentModel", "shortBy", "(I)I"⟩, 60) := ⟨⟨by decide +kernel, by decide +kernel⟩, List.mem_of_getElem? (i := 1289) (by decide +kernel), List.mem_of_getElem? (i := 1831) (by decide +kernel), List.mem_of_getElem? (i := 1832) (by decide +kernel)⟩
theorem lw_p74 : lw_okq (⟨"BridgesAreLentModel", "isAt", "(I)Z"⟩, 60) := ⟨⟨by decide +kernel, by decide +kernel⟩, List.mem_of_getElem? (i := 1289) (by decide +kernel), List.mem_of_getElem? (i := 1850) (by decide +kernel), List.mem_of_getElem? (i := 1851) (by decide +kernel)⟩
theorem lw_p75 : lw_okq (⟨"BridgesAreLentModel", "drifts", "(III)V"⟩, 60) := ⟨⟨by decide +kernel, by decide +kernel⟩, List.mem_of_getElem? (i := 1289) (by decide +kernel), List.mem_of_getElem? (i := 1854) (by decide +kernel), List.mem_of_getElem? (i := 1855) (by decide +kernel)⟩
theorem lw_p76 : lw_okq (⟨"BridgesAreLentModel", "nextDown", "(I)I"⟩, 60) := ⟨⟨by decide +kernel, by decide +kernel⟩, List.mem_of_getElem? (i := 1289) (by decide +kernel), List.mem_of_getElem? (i := 1858) (by decide +kernel), List.mem_of_getElem? (i := 1859) (by decide +kernel)⟩
theorem lw_p77 : lw_okq (⟨"BridgesAreLentModel", "tellsShare", "(I)V"⟩, 60) := ⟨⟨by decide +kernel, by decide +kernel⟩, List.mem_of_getElem? (i := 1289) (by decide +kernel), List.mem_of_getElem? (i := 1862) (by decide +kernel), List.mem_of_getElem? (i := 1863) (by decide +kernel)⟩
theorem lw_p78 : lw_okq (⟨"BridgesAreLentModel", "fitting", "()I"⟩, 60) := ⟨⟨by decide +kernel, by decide +kernel⟩, List.mem_of_getElem? (i := 1289) (by decide +kernel), List.mem_of_getElem? (i := 1888) (by decide +kernel), List.mem_of_getElem? (i := 1889) (by decide +kernel)⟩
theorem lw_p79 : lw_okq (⟨"BridgesAreLentModel", "isSo", "(III)Z"⟩, 60) := ⟨⟨by decide +kernel, by decide +kernel⟩, List.mem_of_getElem? (i := 1289) (by decide +kernel), List.mem_of_getElem? (i := 1892) (by decide +kernel), List.mem_of_getElem? (i := 1893) (by decide +kernel)⟩
def lw_privs_5 : List (MethodName × Nat) := [(⟨"BridgesAreLentModel", "canPut", "(II)Z"⟩, 60), (⟨"BridgesAreLentModel", "isFree", "(I)Z"⟩, 60), (⟨"BridgesAreLentModel", "openWith", "(IIII)I"⟩, 60), (⟨"BridgesAreLentModel", "allCrossings", "()I"⟩, 60), (⟨"BridgesAreLentModel", "laysFrom", "(IIII)Z"⟩, 60), (⟨"BridgesAreLentModel", "fewestFor", "()I"⟩, 60), (⟨"BridgesAreLentModel", "joinsAll", "(I)Z"⟩, 60), (⟨"BridgesAreLentModel", "canLay", "(I)Z"⟩, 60), (⟨"BridgesAreLentModel", "pairsBy", "(I)I"⟩, 60), (⟨"BridgesAreLentModel", "shortBy", "(I)I"⟩, 60), (⟨"BridgesAreLentModel", "isAt", "(I)Z"⟩, 60), (⟨"BridgesAreLentModel", "drifts", "(III)V"⟩, 60), (⟨"BridgesAreLentModel", "nextDown", "(I)I"⟩, 60), (⟨"BridgesAreLentModel", "tellsShare", "(I)V"⟩, 60), (⟨"BridgesAreLentModel", "fitting", "()I"⟩, 60), (⟨"BridgesAreLentModel", "isSo", "(III)Z"⟩, 60)]
theorem lw_r5 : ∀ q ∈ lw_privs_5, lw_okq q := List.forall_mem_cons.mpr ⟨lw_p64, List.forall_mem_cons.mpr ⟨lw_p65, List.forall_mem_cons.mpr ⟨lw_p66, List.forall_mem_cons.mpr ⟨lw_p67, List.forall_mem_cons.mpr ⟨lw_p68, List.forall_mem_cons.mpr ⟨lw_p69, List.forall_mem_cons.mpr ⟨lw_p70, List.forall_mem_cons.mpr ⟨lw_p71, List.forall_mem_cons.mpr ⟨lw_p72, List.forall_mem_cons.mpr ⟨lw_p73, List.forall_mem_cons.mpr ⟨lw_p74, List.forall_mem_cons.mpr ⟨lw_p75, List.forall_mem_cons.mpr ⟨lw_p76, List.forall_mem_cons.mpr ⟨lw_p77, List.forall_mem_cons.mpr ⟨lw_p78, List.forall_mem_cons.mpr ⟨lw_p79, fun _ h => absurd h List.not_mem_nil⟩⟩⟩⟩⟩⟩⟩⟩⟩⟩⟩⟩⟩⟩⟩⟩
theorem lw_p80 : lw_okq (⟨"BridgesAreLentModel", "canShare", "(III)Z"⟩, 60) := ⟨⟨by decide +kernel, by decide +kernel⟩, List.mem_of_getElem? (i := 1289) (by decide +kernel), List.mem_of_getElem? (i := 1904) (by decide +kernel), List.mem_of_getElem? (i := 1905) (by decide +kernel)⟩
theorem lw_p81 : lw_okq (⟨"BridgesAreLentModel", "sharesBy", "(IIII)V"⟩, 60) := ⟨⟨by decide +kernel, by decide +kernel⟩, List.mem_of_getElem? (i := 1289) (by decide +kernel), List.mem_of_getElem? (i := 1909) (by decide +kernel), List.mem_of_getElem? (i := 1910) (by decide +kernel)⟩
theorem lw_p82 : lw_okq (⟨"BridgesAreLentModel", "homeIn", "(I)I"⟩, 60) := ⟨⟨by decide +kernel, by decide +kernel⟩, List.mem_of_getElem? (i := 1289) (by decide +kernel), List.mem_of_getElem? (i := 1931) (by decide +kernel), List.mem_of_getElem? (i := 1932) (by decide +kernel)⟩
theorem lw_p83 : lw_okq (⟨"BridgesAreLentModel", "isFreeThen", "(I)Z"⟩, 60) := ⟨⟨by decide +kernel, by decide +kernel⟩, List.mem_of_getElem? (i := 1289) (by decide +kernel), List.mem_of_getElem? (i := 1942) (by decide +kernel), List.mem_of_getElem? (i := 1943) (by decide +kernel)⟩
theorem lw_p84 : lw_okq (⟨"BridgesAreLentModel", "openThen", "()I"⟩, 60) := ⟨⟨by decide +kernel, by decide +kernel⟩, List.mem_of_getElem? (i := 1289) (by decide +kernel), List.mem_of_getElem? (i := 1946) (by decide +kernel), List.mem_of_getElem? (i := 1947) (by decide +kernel)⟩
theorem lw_p85 : lw_okq (⟨"BridgesAreLentModel", "bridgesBy", "(I)I"⟩, 60) := ⟨⟨by decide +kernel, by decide +kernel⟩, List.mem_of_getElem? (i := 1289) (by decide +kernel), List.mem_of_getElem? (i := 1963) (by decide +kernel), List.mem_of_getElem? (i := 1964) (by decide +kernel)⟩
def lw_privs_6 : List (MethodName × Nat) := [(⟨"BridgesAreLentModel", "canShare", "(III)Z"⟩, 60), (⟨"BridgesAreLentModel", "sharesBy", "(IIII)V"⟩, 60), (⟨"BridgesAreLentModel", "homeIn", "(I)I"⟩, 60), (⟨"BridgesAreLentModel", "isFreeThen", "(I)Z"⟩, 60), (⟨"BridgesAreLentModel", "openThen", "()I"⟩, 60), (⟨"BridgesAreLentModel", "bridgesBy", "(I)I"⟩, 60)]
theorem lw_r6 : ∀ q ∈ lw_privs_6, lw_okq q := List.forall_mem_cons.mpr ⟨lw_p80, List.forall_mem_cons.mpr ⟨lw_p81, List.forall_mem_cons.mpr ⟨lw_p82, List.forall_mem_cons.mpr ⟨lw_p83, List.forall_mem_cons.mpr ⟨lw_p84, List.forall_mem_cons.mpr ⟨lw_p85, fun _ h => absurd h List.not_mem_nil⟩⟩⟩⟩⟩⟩
def lw_privs : List (MethodName × Nat) := lw_privs_1 ++ (lw_privs_2 ++ (lw_privs_3 ++ (lw_privs_4 ++ (lw_privs_5 ++ (lw_privs_6)))))
def lw_tbl : List Cond := k2_sels lw_privs ++ tables_1
theorem lw_privs_ok : ∀ q ∈ lw_privs, lw_okq q := by
  show ∀ q ∈ lw_privs_1 ++ (lw_privs_2 ++ (lw_privs_3 ++ (lw_privs_4 ++ (lw_privs_5 ++ (lw_privs_6))))), lw_okq q
  exact List.forall_mem_append.mpr ⟨lw_r1, List.forall_mem_append.mpr ⟨lw_r2, List.forall_mem_append.mpr ⟨lw_r3, List.forall_mem_append.mpr ⟨lw_r4, List.forall_mem_append.mpr ⟨lw_r5, lw_r6⟩⟩⟩⟩⟩
end
section
def RX0 : String := "BridgesAreLent$Day"
def TX0 : u_T := fun k => match k with
  | 0 => ("BridgesAreLent$Day", "kind", "[I", true)
  | 1 => ("BridgesAreLent$Day", "first", "[I", true)
  | 2 => ("BridgesAreLent$Day", "second", "[I", true)
  | _ => ("BridgesAreLent$Day", "size", "I", false)
def tyX0 : Nat → FieldType := fun k => match k with
  | 0 => .array .int
  | 1 => .array .int
  | 2 => .array .int
  | _ => .int
theorem nmX0 : ∀ a, a < 4 → ∀ b, b < 4 → a ≠ b → (TX0 a).2.1 ≠ (TX0 b).2.1 := by decide +kernel
theorem tyX0_ok : ∀ k, k < 4 → parseFieldDescriptor (TX0 k).2.2.1 = some (tyX0 k) := by decide +kernel
abbrev cX0_init : ByteArray := prog_2_method_1_code
def yX0_init : MethodName := ⟨RX0, "<init>", "()V"⟩
abbrev cX0_read : ByteArray := prog_2_method_2_code
def yX0_read : MethodName := ⟨RX0, "read", "(LBridgesAreLent$Text;)V"⟩
abbrev cX0_readAct : ByteArray := prog_2_method_3_code
def yX0_readAct : MethodName := ⟨RX0, "readAct", "(LBridgesAreLent$Text;I)V"⟩
abbrev cX0_perform : ByteArray := prog_2_method_4_code
def yX0_perform : MethodName := ⟨RX0, "perform", "(LBridgesAreLent$Valley;)I"⟩
abbrev cX0_doesAct : ByteArray := prog_2_method_5_code
def yX0_doesAct : MethodName := ⟨RX0, "doesAct", "(LBridgesAreLent$Valley;I)Z"⟩
def RX1 : String := "BridgesAreLent$Drifting"
def TX1 : u_T := fun k => match k with
  | 0 => ("BridgesAreLent$Drifting", "valley", "LBridgesAreLent$Valley;", true)
  | 1 => ("BridgesAreLent$Drifting", "dream", "LBridgesAreLent$State;", true)
  | 2 => ("BridgesAreLent$Drifting", "chances", "[J", true)
  | _ => ("BridgesAreLent$Drifting", "whole", "J", false)
def tyX1 : Nat → FieldType := fun k => match k with
  | 0 => .object "BridgesAreLent$Valley"
  | 1 => .object "BridgesAreLent$State"
  | 2 => .array .long
  | _ => .long
theorem nmX1 : ∀ a, a < 4 → ∀ b, b < 4 → a ≠ b → (TX1 a).2.1 ≠ (TX1 b).2.1 := by decide +kernel
theorem tyX1_ok : ∀ k, k < 4 → parseFieldDescriptor (TX1 k).2.2.1 = some (tyX1 k) := by decide +kernel
abbrev cX1_init : ByteArray := prog_3_method_1_code
def yX1_init : MethodName := ⟨RX1, "<init>", "(LBridgesAreLent$Valley;)V"⟩
abbrev cX1_accepts : ByteArray := prog_3_method_2_code
def yX1_accepts : MethodName := ⟨RX1, "accepts", "(II)Z"⟩
abbrev cX1_spreadChances : ByteArray := prog_3_method_3_code
def yX1_spreadChances : MethodName := ⟨RX1, "spreadChances", "(III)V"⟩
abbrev cX1_passNight : ByteArray := prog_3_method_4_code
def yX1_passNight : MethodName := ⟨RX1, "passNight", "(I)V"⟩
abbrev cX1_likeliest : ByteArray := prog_3_method_5_code
def yX1_likeliest : MethodName := ⟨RX1, "likeliest", "()I"⟩
abbrev cX1_tellChance : ByteArray := prog_3_method_6_code
def yX1_tellChance : MethodName := ⟨RX1, "tellChance", "(LBridgesAreLent$Row;I)V"⟩
abbrev cX1_commonDivisor : ByteArray := prog_3_method_7_code
def yX1_commonDivisor : MethodName := ⟨RX1, "commonDivisor", "(JJ)J"⟩
abbrev cX1_tellYears : ByteArray := prog_3_method_8_code
def yX1_tellYears : MethodName := ⟨RX1, "tellYears", "(LBridgesAreLent$Row;II)I"⟩
abbrev cX1_driftsToShed : ByteArray := prog_3_method_9_code
def yX1_driftsToShed : MethodName := ⟨RX1, "driftsToShed", "(I)Z"⟩
abbrev cX1_dreamedPairs : ByteArray := prog_3_method_10_code
def yX1_dreamedPairs : MethodName := ⟨RX1, "dreamedPairs", "()I"⟩
def RX2 : String := "BridgesAreLent$Finds"
def TX2 : u_T := fun k => match k with
  | 0 => ("BridgesAreLent$Finds", "valley", "LBridgesAreLent$Valley;", true)
  | 1 => ("BridgesAreLent$Finds", "questions", "[I", true)
  | 2 => ("BridgesAreLent$Finds", "answers", "[Z", true)
  | _ => ("BridgesAreLent$Finds", "size", "I", false)
def tyX2 : Nat → FieldType := fun k => match k with
  | 0 => .object "BridgesAreLent$Valley"
  | 1 => .array .int
  | 2 => .array .boolean
  | _ => .int
theorem nmX2 : ∀ a, a < 4 → ∀ b, b < 4 → a ≠ b → (TX2 a).2.1 ≠ (TX2 b).2.1 := by decide +kernel
theorem tyX2_ok : ∀ k, k < 4 → parseFieldDescriptor (TX2 k).2.2.1 = some (tyX2 k) := by decide +kernel
abbrev cX2_init : ByteArray := prog_4_method_1_code
def yX2_init : MethodName := ⟨RX2, "<init>", "(LBridgesAreLent$Valley;)V"⟩
abbrev cX2_isQuestion : ByteArray := prog_4_method_2_code
def yX2_isQuestion : MethodName := ⟨RX2, "isQuestion", "(II)Z"⟩
abbrev cX2_add : ByteArray := prog_4_method_3_code
def yX2_add : MethodName := ⟨RX2, "add", "(III)I"⟩
abbrev cX2_isSo : ByteArray := prog_4_method_4_code
def yX2_isSo : MethodName := ⟨RX2, "isSo", "(II)Z"⟩
abbrev cX2_fits : ByteArray := prog_4_method_5_code
def yX2_fits : MethodName := ⟨RX2, "fits", "(I)Z"⟩
abbrev cX2_fitting : ByteArray := prog_4_method_6_code
def yX2_fitting : MethodName := ⟨RX2, "fitting", "()I"⟩
abbrev cX2_mostLeft : ByteArray := prog_4_method_7_code
def yX2_mostLeft : MethodName := ⟨RX2, "mostLeft", "(II)I"⟩
def RX3 : String := "BridgesAreLent$Layouts"
def TX3 : u_T := fun k => match k with
  | 0 => ("BridgesAreLent$Layouts", "valley", "LBridgesAreLent$Valley;", true)
  | 1 => ("BridgesAreLent$Layouts", "wishes", "[I", true)
  | 2 => ("BridgesAreLent$Layouts", "size", "I", false)
  | 3 => ("BridgesAreLent$Layouts", "wide", "[I", true)
  | _ => ("BridgesAreLent$Layouts", "enough", "[I", true)
def tyX3 : Nat → FieldType := fun k => match k with
  | 0 => .object "BridgesAreLent$Valley"
  | 1 => .array .int
  | 2 => .int
  | 3 => .array .int
  | _ => .array .int
theorem nmX3 : ∀ a, a < 5 → ∀ b, b < 5 → a ≠ b → (TX3 a).2.1 ≠ (TX3 b).2.1 := by decide +kernel
theorem tyX3_ok : ∀ k, k < 5 → parseFieldDescriptor (TX3 k).2.2.1 = some (tyX3 k) := by decide +kernel
abbrev cX3_init : ByteArray := prog_5_method_1_code
def yX3_init : MethodName := ⟨RX3, "<init>", "(LBridgesAreLent$Valley;)V"⟩
abbrev cX3_muster : ByteArray := prog_5_method_2_code
def yX3_muster : MethodName := ⟨RX3, "muster", "()I"⟩
abbrev cX3_fits : ByteArray := prog_5_method_3_code
def yX3_fits : MethodName := ⟨RX3, "fits", "(II)Z"⟩
abbrev cX3_tellLeast : ByteArray := prog_5_method_4_code
def yX3_tellLeast : MethodName := ⟨RX3, "tellLeast", "(LBridgesAreLent$Row;II)V"⟩
abbrev cX3_firstFor : ByteArray := prog_5_method_5_code
def yX3_firstFor : MethodName := ⟨RX3, "firstFor", "(III)I"⟩
abbrev cX3_wish : ByteArray := prog_5_method_6_code
def yX3_wish : MethodName := ⟨RX3, "wish", "(I)V"⟩
abbrev cX3_readErrands : ByteArray := prog_5_method_7_code
def yX3_readErrands : MethodName := ⟨RX3, "readErrands", "(LBridgesAreLent$Text;)V"⟩
abbrev cX3_grants : ByteArray := prog_5_method_8_code
def yX3_grants : MethodName := ⟨RX3, "grants", "(I)Z"⟩
abbrev cX3_tellFewest : ByteArray := prog_5_method_9_code
def yX3_tellFewest : MethodName := ⟨RX3, "tellFewest", "(LBridgesAreLent$Row;)I"⟩
abbrev cX3_tellBest : ByteArray := prog_5_method_10_code
def yX3_tellBest : MethodName := ⟨RX3, "tellBest", "(LBridgesAreLent$Row;)I"⟩
def RX4 : String := "BridgesAreLent$Memory"
def TX4 : u_T := fun k => match k with
  | 0 => ("BridgesAreLent$Memory", "ring", "[LBridgesAreLent$State;", true)
  | 1 => ("BridgesAreLent$Memory", "next", "I", false)
  | 2 => ("BridgesAreLent$Memory", "size", "I", false)
  | 3 => ("BridgesAreLent$Memory", "shelf", "[LBridgesAreLent$State;", true)
  | _ => ("BridgesAreLent$Memory", "shelved", "[Z", true)
def tyX4 : Nat → FieldType := fun k => match k with
  | 0 => .array (.object "BridgesAreLent$State")
  | 1 => .int
  | 2 => .int
  | 3 => .array (.object "BridgesAreLent$State")
  | _ => .array .boolean
theorem nmX4 : ∀ a, a < 5 → ∀ b, b < 5 → a ≠ b → (TX4 a).2.1 ≠ (TX4 b).2.1 := by decide +kernel
theorem tyX4_ok : ∀ k, k < 5 → parseFieldDescriptor (TX4 k).2.2.1 = some (tyX4 k) := by decide +kernel
abbrev cX4_init : ByteArray := prog_6_method_1_code
def yX4_init : MethodName := ⟨RX4, "<init>", "()V"⟩
abbrev cX4_note : ByteArray := prog_6_method_2_code
def yX4_note : MethodName := ⟨RX4, "note", "(LBridgesAreLent$State;)V"⟩
abbrev cX4_holdIf : ByteArray := prog_6_method_3_code
def yX4_holdIf : MethodName := ⟨RX4, "holdIf", "(Z)V"⟩
abbrev cX4_takeLatest : ByteArray := prog_6_method_4_code
def yX4_takeLatest : MethodName := ⟨RX4, "takeLatest", "()LBridgesAreLent$State;"⟩
abbrev cX4_forgetPast : ByteArray := prog_6_method_5_code
def yX4_forgetPast : MethodName := ⟨RX4, "forgetPast", "()V"⟩
abbrev cX4_forgetAll : ByteArray := prog_6_method_6_code
def yX4_forgetAll : MethodName := ⟨RX4, "forgetAll", "()V"⟩
abbrev cX4_shelve : ByteArray := prog_6_method_7_code
def yX4_shelve : MethodName := ⟨RX4, "shelve", "(ILBridgesAreLent$State;)Z"⟩
abbrev cX4_canReturnTo : ByteArray := prog_6_method_8_code
def yX4_canReturnTo : MethodName := ⟨RX4, "canReturnTo", "(ILBridgesAreLent$State;)Z"⟩
def RX5 : String := "BridgesAreLent$River"
def TX5 : u_T := fun k => match k with
  | 0 => ("BridgesAreLent$River", "banks", "I", false)
  | 1 => ("BridgesAreLent$River", "crossings", "I", false)
  | 2 => ("BridgesAreLent$River", "one", "[I", true)
  | 3 => ("BridgesAreLent$River", "other", "[I", true)
  | 4 => ("BridgesAreLent$River", "place", "[I", true)
  | 5 => ("BridgesAreLent$River", "width", "[I", true)
  | 6 => ("BridgesAreLent$River", "rank", "[I", true)
  | _ => ("BridgesAreLent$River", "order", "[I", true)
def tyX5 : Nat → FieldType := fun k => match k with
  | 0 => .int
  | 1 => .int
  | 2 => .array .int
  | 3 => .array .int
  | 4 => .array .int
  | 5 => .array .int
  | 6 => .array .int
  | _ => .array .int
theorem nmX5 : ∀ a, a < 8 → ∀ b, b < 8 → a ≠ b → (TX5 a).2.1 ≠ (TX5 b).2.1 := by decide +kernel
theorem tyX5_ok : ∀ k, k < 8 → parseFieldDescriptor (TX5 k).2.2.1 = some (tyX5 k) := by decide +kernel
abbrev cX5_init : ByteArray := prog_7_method_1_code
def yX5_init : MethodName := ⟨RX5, "<init>", "()V"⟩
abbrev cX5_read : ByteArray := prog_7_method_2_code
def yX5_read : MethodName := ⟨RX5, "read", "(LBridgesAreLent$Text;)V"⟩
abbrev cX5_orderDown : ByteArray := prog_7_method_3_code
def yX5_orderDown : MethodName := ⟨RX5, "orderDown", "()V"⟩
abbrev cX5_below : ByteArray := prog_7_method_4_code
def yX5_below : MethodName := ⟨RX5, "below", "(I)I"⟩
abbrev cX5_across : ByteArray := prog_7_method_5_code
def yX5_across : MethodName := ⟨RX5, "across", "(II)I"⟩
abbrev cX5_spread : ByteArray := prog_7_method_6_code
def yX5_spread : MethodName := ⟨RX5, "spread", "(II)I"⟩
abbrev cX5_withinSteps : ByteArray := prog_7_method_7_code
def yX5_withinSteps : MethodName := ⟨RX5, "withinSteps", "(III)I"⟩
abbrev cX5_reach : ByteArray := prog_7_method_8_code
def yX5_reach : MethodName := ⟨RX5, "reach", "(II)I"⟩
abbrev cX5_leads : ByteArray := prog_7_method_9_code
def yX5_leads : MethodName := ⟨RX5, "leads", "(III)Z"⟩
abbrev cX5_pairs : ByteArray := prog_7_method_10_code
def yX5_pairs : MethodName := ⟨RX5, "pairs", "(I)I"⟩
abbrev cX5_steps : ByteArray := prog_7_method_11_code
def yX5_steps : MethodName := ⟨RX5, "steps", "(III)I"⟩
abbrev cX5_tellWay : ByteArray := prog_7_method_12_code
def yX5_tellWay : MethodName := ⟨RX5, "tellWay", "(LBridgesAreLent$Row;IIII)V"⟩
def RX6 : String := "BridgesAreLent$Row"
def TX6 : u_T := fun k => match k with
  | 0 => ("BridgesAreLent$Row", "numbers", "[J", true)
  | _ => ("BridgesAreLent$Row", "size", "I", false)
def tyX6 : Nat → FieldType := fun k => match k with
  | 0 => .array .long
  | _ => .int
theorem nmX6 : ∀ a, a < 2 → ∀ b, b < 2 → a ≠ b → (TX6 a).2.1 ≠ (TX6 b).2.1 := by decide +kernel
theorem tyX6_ok : ∀ k, k < 2 → parseFieldDescriptor (TX6 k).2.2.1 = some (tyX6 k) := by decide +kernel
abbrev cX6_init : ByteArray := prog_8_method_1_code
def yX6_init : MethodName := ⟨RX6, "<init>", "()V"⟩
abbrev cX6_clear : ByteArray := prog_8_method_2_code
def yX6_clear : MethodName := ⟨RX6, "clear", "()V"⟩
abbrev cX6_add : ByteArray := prog_8_method_3_code
def yX6_add : MethodName := ⟨RX6, "add", "(J)V"⟩
abbrev cX6_tellOne : ByteArray := prog_8_method_4_code
def yX6_tellOne : MethodName := ⟨RX6, "tellOne", "(J)V"⟩
abbrev cX6_tellTwo : ByteArray := prog_8_method_5_code
def yX6_tellTwo : MethodName := ⟨RX6, "tellTwo", "(JJ)V"⟩
def RX7 : String := "BridgesAreLent$Rule"
def TX7 : u_T := fun k => match k with
  | 0 => ("BridgesAreLent$Rule", "code", "[I", false)
  | 1 => ("BridgesAreLent$Rule", "size", "I", false)
  | 2 => ("BridgesAreLent$Rule", "draft", "[I", false)
  | 3 => ("BridgesAreLent$Rule", "drafted", "I", false)
  | _ => ("BridgesAreLent$Rule", "stack", "[I", true)
def tyX7 : Nat → FieldType := fun k => match k with
  | 0 => .array .int
  | 1 => .int
  | 2 => .array .int
  | 3 => .int
  | _ => .array .int
theorem nmX7 : ∀ a, a < 5 → ∀ b, b < 5 → a ≠ b → (TX7 a).2.1 ≠ (TX7 b).2.1 := by decide +kernel
theorem tyX7_ok : ∀ k, k < 5 → parseFieldDescriptor (TX7 k).2.2.1 = some (tyX7 k) := by decide +kernel
abbrev cX7_init : ByteArray := prog_9_method_1_code
def yX7_init : MethodName := ⟨RX7, "<init>", "()V"⟩
abbrev cX7_read : ByteArray := prog_9_method_2_code
def yX7_read : MethodName := ⟨RX7, "read", "(LBridgesAreLent$Text;)V"⟩
abbrev cX7_adopt : ByteArray := prog_9_method_3_code
def yX7_adopt : MethodName := ⟨RX7, "adopt", "()V"⟩
abbrev cX7_emit : ByteArray := prog_9_method_4_code
def yX7_emit : MethodName := ⟨RX7, "emit", "(I)V"⟩
abbrev cX7_signsOf : ByteArray := prog_9_method_5_code
def yX7_signsOf : MethodName := ⟨RX7, "signsOf", "(I)Ljava/lang/String;"⟩
abbrev cX7_readLevel : ByteArray := prog_9_method_6_code
def yX7_readLevel : MethodName := ⟨RX7, "readLevel", "(LBridgesAreLent$Text;II)V"⟩
abbrev cX7_readSigned : ByteArray := prog_9_method_7_code
def yX7_readSigned : MethodName := ⟨RX7, "readSigned", "(LBridgesAreLent$Text;I)V"⟩
abbrev cX7_readThing : ByteArray := prog_9_method_8_code
def yX7_readThing : MethodName := ⟨RX7, "readThing", "(LBridgesAreLent$Text;I)V"⟩
abbrev cX7_reckon : ByteArray := prog_9_method_9_code
def yX7_reckon : MethodName := ⟨RX7, "reckon", "([I)I"⟩
abbrev cX7_apply : ByteArray := prog_9_method_10_code
def yX7_apply : MethodName := ⟨RX7, "apply", "(III)I"⟩
def RX8 : String := "BridgesAreLent$State"
def TX8 : u_T := fun k => match k with
  | 0 => ("BridgesAreLent$State", "bridges", "I", false)
  | 1 => ("BridgesAreLent$State", "where", "[I", true)
  | 2 => ("BridgesAreLent$State", "yet", "[I", true)
  | 3 => ("BridgesAreLent$State", "sound", "[I", true)
  | 4 => ("BridgesAreLent$State", "till", "[I", true)
  | 5 => ("BridgesAreLent$State", "people", "I", false)
  | 6 => ("BridgesAreLent$State", "bank", "[I", true)
  | 7 => ("BridgesAreLent$State", "now", "I", false)
  | _ => ("BridgesAreLent$State", "broken", "I", false)
def tyX8 : Nat → FieldType := fun k => match k with
  | 0 => .int
  | 1 => .array .int
  | 2 => .array .int
  | 3 => .array .int
  | 4 => .array .int
  | 5 => .int
  | 6 => .array .int
  | 7 => .int
  | _ => .int
theorem nmX8 : ∀ a, a < 9 → ∀ b, b < 9 → a ≠ b → (TX8 a).2.1 ≠ (TX8 b).2.1 := by decide +kernel
theorem tyX8_ok : ∀ k, k < 9 → parseFieldDescriptor (TX8 k).2.2.1 = some (tyX8 k) := by decide +kernel
abbrev cX8_init : ByteArray := prog_10_method_1_code
def yX8_init : MethodName := ⟨RX8, "<init>", "()V"⟩
abbrev cX8_become : ByteArray := prog_10_method_2_code
def yX8_become : MethodName := ⟨RX8, "become", "(LBridgesAreLent$State;)V"⟩
abbrev cX8_lies : ByteArray := prog_10_method_3_code
def yX8_lies : MethodName := ⟨RX8, "lies", "(I)Z"⟩
abbrev cX8_lyingAt : ByteArray := prog_10_method_4_code
def yX8_lyingAt : MethodName := ⟨RX8, "lyingAt", "(I)I"⟩
abbrev cX8_comingTo : ByteArray := prog_10_method_5_code
def yX8_comingTo : MethodName := ⟨RX8, "comingTo", "(I)I"⟩
abbrev cX8_isFree : ByteArray := prog_10_method_6_code
def yX8_isFree : MethodName := ⟨RX8, "isFree", "(I)Z"⟩
abbrev cX8_inShed : ByteArray := prog_10_method_7_code
def yX8_inShed : MethodName := ⟨RX8, "inShed", "()I"⟩
abbrev cX8_underTow : ByteArray := prog_10_method_8_code
def yX8_underTow : MethodName := ⟨RX8, "underTow", "()I"⟩
abbrev cX8_lent : ByteArray := prog_10_method_9_code
def yX8_lent : MethodName := ⟨RX8, "lent", "()I"⟩
def RX9 : String := "BridgesAreLent$Text"
def TX9 : u_T := fun k => match k with
  | 0 => ("BridgesAreLent$Text", "signs", "[I", true)
  | 1 => ("BridgesAreLent$Text", "size", "I", false)
  | 2 => ("BridgesAreLent$Text", "limit", "I", false)
  | 3 => ("BridgesAreLent$Text", "at", "I", false)
  | _ => ("BridgesAreLent$Text", "bad", "I", false)
def tyX9 : Nat → FieldType := fun k => match k with
  | 0 => .array .int
  | 1 => .int
  | 2 => .int
  | 3 => .int
  | _ => .int
theorem nmX9 : ∀ a, a < 5 → ∀ b, b < 5 → a ≠ b → (TX9 a).2.1 ≠ (TX9 b).2.1 := by decide +kernel
theorem tyX9_ok : ∀ k, k < 5 → parseFieldDescriptor (TX9 k).2.2.1 = some (tyX9 k) := by decide +kernel
abbrev cX9_init : ByteArray := prog_11_method_1_code
def yX9_init : MethodName := ⟨RX9, "<init>", "()V"⟩
abbrev cX9_put : ByteArray := prog_11_method_2_code
def yX9_put : MethodName := ⟨RX9, "put", "(I)I"⟩
abbrev cX9_cut : ByteArray := prog_11_method_3_code
def yX9_cut : MethodName := ⟨RX9, "cut", "(I)Z"⟩
abbrev cX9_open : ByteArray := prog_11_method_4_code
def yX9_open : MethodName := ⟨RX9, "open", "(I)V"⟩
abbrev cX9_peek : ByteArray := prog_11_method_5_code
def yX9_peek : MethodName := ⟨RX9, "peek", "()I"⟩
abbrev cX9_refuse : ByteArray := prog_11_method_6_code
def yX9_refuse : MethodName := ⟨RX9, "refuse", "()V"⟩
abbrev cX9_skip : ByteArray := prog_11_method_7_code
def yX9_skip : MethodName := ⟨RX9, "skip", "(I)Z"⟩
abbrev cX9_pick : ByteArray := prog_11_method_8_code
def yX9_pick : MethodName := ⟨RX9, "pick", "(II)I"⟩
abbrev cX9_oneOf : ByteArray := prog_11_method_9_code
def yX9_oneOf : MethodName := ⟨RX9, "oneOf", "(Ljava/lang/String;)I"⟩
abbrev cX9_atDigit : ByteArray := prog_11_method_10_code
def yX9_atDigit : MethodName := ⟨RX9, "atDigit", "()Z"⟩
abbrev cX9_number : ByteArray := prog_11_method_11_code
def yX9_number : MethodName := ⟨RX9, "number", "(I)I"⟩
abbrev cX9_bankBut : ByteArray := prog_11_method_12_code
def yX9_bankBut : MethodName := ⟨RX9, "bankBut", "(II)I"⟩
abbrev cX9_close : ByteArray := prog_11_method_13_code
def yX9_close : MethodName := ⟨RX9, "close", "()I"⟩
def RX10 : String := "BridgesAreLent$Valley"
def TX10 : u_T := fun k => match k with
  | 0 => ("BridgesAreLent$Valley", "river", "LBridgesAreLent$River;", false)
  | 1 => ("BridgesAreLent$Valley", "draft", "LBridgesAreLent$River;", false)
  | 2 => ("BridgesAreLent$Valley", "state", "LBridgesAreLent$State;", true)
  | 3 => ("BridgesAreLent$Valley", "rule", "LBridgesAreLent$Rule;", true)
  | 4 => ("BridgesAreLent$Valley", "length", "[I", true)
  | 5 => ("BridgesAreLent$Valley", "weight", "[I", true)
  | 6 => ("BridgesAreLent$Valley", "things", "[I", true)
  | 7 => ("BridgesAreLent$Valley", "came", "I", false)
  | _ => ("BridgesAreLent$Valley", "failed", "I", false)
def tyX10 : Nat → FieldType := fun k => match k with
  | 0 => .object "BridgesAreLent$River"
  | 1 => .object "BridgesAreLent$River"
  | 2 => .object "BridgesAreLent$State"
  | 3 => .object "BridgesAreLent$Rule"
  | 4 => .array .int
  | 5 => .array .int
  | 6 => .array .int
  | 7 => .int
  | _ => .int
theorem nmX10 : ∀ a, a < 9 → ∀ b, b < 9 → a ≠ b → (TX10 a).2.1 ≠ (TX10 b).2.1 := by decide +kernel
theorem tyX10_ok : ∀ k, k < 9 → parseFieldDescriptor (TX10 k).2.2.1 = some (tyX10 k) := by decide +kernel
abbrev cX10_init : ByteArray := prog_12_method_1_code
def yX10_init : MethodName := ⟨RX10, "<init>", "()V"⟩
abbrev cX10_settle : ByteArray := prog_12_method_2_code
def yX10_settle : MethodName := ⟨RX10, "settle", "()V"⟩
abbrev cX10_readBridges : ByteArray := prog_12_method_3_code
def yX10_readBridges : MethodName := ⟨RX10, "readBridges", "(LBridgesAreLent$Text;)I"⟩
abbrev cX10_readPeople : ByteArray := prog_12_method_4_code
def yX10_readPeople : MethodName := ⟨RX10, "readPeople", "(LBridgesAreLent$Text;)I"⟩
abbrev cX10_hasBank : ByteArray := prog_12_method_5_code
def yX10_hasBank : MethodName := ⟨RX10, "hasBank", "(I)Z"⟩
abbrev cX10_hasCrossing : ByteArray := prog_12_method_6_code
def yX10_hasCrossing : MethodName := ⟨RX10, "hasCrossing", "(I)Z"⟩
abbrev cX10_hasBridge : ByteArray := prog_12_method_7_code
def yX10_hasBridge : MethodName := ⟨RX10, "hasBridge", "(I)Z"⟩
abbrev cX10_hasPerson : ByteArray := prog_12_method_8_code
def yX10_hasPerson : MethodName := ⟨RX10, "hasPerson", "(I)Z"⟩
abbrev cX10_sounds : ByteArray := prog_12_method_9_code
def yX10_sounds : MethodName := ⟨RX10, "sounds", "(IIII)I"⟩
abbrev cX10_entry : ByteArray := prog_12_method_10_code
def yX10_entry : MethodName := ⟨RX10, "entry", "(II)I"⟩
abbrev cX10_towTime : ByteArray := prog_12_method_11_code
def yX10_towTime : MethodName := ⟨RX10, "towTime", "(II)I"⟩
abbrev cX10_placeOf : ByteArray := prog_12_method_12_code
def yX10_placeOf : MethodName := ⟨RX10, "placeOf", "(I)I"⟩
abbrev cX10_hoursByRule : ByteArray := prog_12_method_13_code
def yX10_hoursByRule : MethodName := ⟨RX10, "hoursByRule", "(II)I"⟩
abbrev cX10_startTow : ByteArray := prog_12_method_14_code
def yX10_startTow : MethodName := ⟨RX10, "startTow", "(II)I"⟩
abbrev cX10_setLoan : ByteArray := prog_12_method_15_code
def yX10_setLoan : MethodName := ⟨RX10, "setLoan", "(II)I"⟩
abbrev cX10_walk : ByteArray := prog_12_method_16_code
def yX10_walk : MethodName := ⟨RX10, "walk", "(II)I"⟩
abbrev cX10_passHours : ByteArray := prog_12_method_17_code
def yX10_passHours : MethodName := ⟨RX10, "passHours", "(I)V"⟩
abbrev cX10_comeNearer : ByteArray := prog_12_method_18_code
def yX10_comeNearer : MethodName := ⟨RX10, "comeNearer", "()V"⟩
abbrev cX10_endLoans : ByteArray := prog_12_method_19_code
def yX10_endLoans : MethodName := ⟨RX10, "endLoans", "()V"⟩
abbrev cX10_openFor : ByteArray := prog_12_method_20_code
def yX10_openFor : MethodName := ⟨RX10, "openFor", "(II)I"⟩
abbrev cX10_tooShortBy : ByteArray := prog_12_method_21_code
def yX10_tooShortBy : MethodName := ⟨RX10, "tooShortBy", "(I)I"⟩
abbrev cX10_canMove : ByteArray := prog_12_method_22_code
def yX10_canMove : MethodName := ⟨RX10, "canMove", "(II)Z"⟩
abbrev cX10_openWithMove : ByteArray := prog_12_method_23_code
def yX10_openWithMove : MethodName := ⟨RX10, "openWithMove", "(IIII)I"⟩
abbrev cX10_byOneMove : ByteArray := prog_12_method_24_code
def yX10_byOneMove : MethodName := ⟨RX10, "byOneMove", "(LBridgesAreLent$Row;III)Z"⟩
abbrev cX10_byTwoMoves : ByteArray := prog_12_method_25_code
def yX10_byTwoMoves : MethodName := ⟨RX10, "byTwoMoves", "(LBridgesAreLent$Row;III)Z"⟩
abbrev cX10_bySecondMove : ByteArray := prog_12_method_26_code
def yX10_bySecondMove : MethodName := ⟨RX10, "bySecondMove", "(LBridgesAreLent$Row;IIIII)Z"⟩
abbrev cX10_homeHour : ByteArray := prog_12_method_27_code
def yX10_homeHour : MethodName := ⟨RX10, "homeHour", "(I)I"⟩
def RX11 : String := "BridgesAreLent"
def TX11 : u_T := fun k => match k with
  | 0 => ("BridgesAreLent", "text", "LBridgesAreLent$Text;", true)
  | 1 => ("BridgesAreLent", "told", "LBridgesAreLent$Row;", true)
  | 2 => ("BridgesAreLent", "valley", "LBridgesAreLent$Valley;", true)
  | 3 => ("BridgesAreLent", "layouts", "LBridgesAreLent$Layouts;", true)
  | 4 => ("BridgesAreLent", "drifting", "LBridgesAreLent$Drifting;", true)
  | 5 => ("BridgesAreLent", "finds", "LBridgesAreLent$Finds;", true)
  | 6 => ("BridgesAreLent", "plan", "LBridgesAreLent$Day;", true)
  | _ => ("BridgesAreLent", "memory", "LBridgesAreLent$Memory;", true)
def tyX11 : Nat → FieldType := fun k => match k with
  | 0 => .object "BridgesAreLent$Text"
  | 1 => .object "BridgesAreLent$Row"
  | 2 => .object "BridgesAreLent$Valley"
  | 3 => .object "BridgesAreLent$Layouts"
  | 4 => .object "BridgesAreLent$Drifting"
  | 5 => .object "BridgesAreLent$Finds"
  | 6 => .object "BridgesAreLent$Day"
  | _ => .object "BridgesAreLent$Memory"
theorem nmX11 : ∀ a, a < 8 → ∀ b, b < 8 → a ≠ b → (TX11 a).2.1 ≠ (TX11 b).2.1 := by decide +kernel
theorem tyX11_ok : ∀ k, k < 8 → parseFieldDescriptor (TX11 k).2.2.1 = some (tyX11 k) := by decide +kernel
abbrev cX11_init : ByteArray := prog_1_method_1_code
def yX11_init : MethodName := ⟨RX11, "<init>", "()V"⟩
abbrev cX11_sign : ByteArray := prog_1_method_2_code
def yX11_sign : MethodName := ⟨RX11, "sign", "(I)I"⟩
abbrev cX11_end : ByteArray := prog_1_method_3_code
def yX11_end : MethodName := ⟨RX11, "end", "(I)Z"⟩
abbrev cX11_river : ByteArray := prog_1_method_4_code
def yX11_river : MethodName := ⟨RX11, "river", "()I"⟩
abbrev cX11_bridges : ByteArray := prog_1_method_5_code
def yX11_bridges : MethodName := ⟨RX11, "bridges", "()I"⟩
abbrev cX11_people : ByteArray := prog_1_method_6_code
def yX11_people : MethodName := ⟨RX11, "people", "()I"⟩
abbrev cX11_rule : ByteArray := prog_1_method_7_code
def yX11_rule : MethodName := ⟨RX11, "rule", "()I"⟩
abbrev cX11_crossing : ByteArray := prog_1_method_8_code
def yX11_crossing : MethodName := ⟨RX11, "crossing", "(II)I"⟩
abbrev cX11_bridge : ByteArray := prog_1_method_9_code
def yX11_bridge : MethodName := ⟨RX11, "bridge", "(II)I"⟩
abbrev cX11_person : ByteArray := prog_1_method_10_code
def yX11_person : MethodName := ⟨RX11, "person", "(II)I"⟩
abbrev cX11_sheet : ByteArray := prog_1_method_11_code
def yX11_sheet : MethodName := ⟨RX11, "sheet", "(IIII)I"⟩
abbrev cX11_takes : ByteArray := prog_1_method_12_code
def yX11_takes : MethodName := ⟨RX11, "takes", "(II)I"⟩
abbrev cX11_tow : ByteArray := prog_1_method_13_code
def yX11_tow : MethodName := ⟨RX11, "tow", "(II)I"⟩
abbrev cX11_lend : ByteArray := prog_1_method_14_code
def yX11_lend : MethodName := ⟨RX11, "lend", "(II)I"⟩
abbrev cX11_cross : ByteArray := prog_1_method_15_code
def yX11_cross : MethodName := ⟨RX11, "cross", "(II)I"⟩
abbrev cX11_hours : ByteArray := prog_1_method_16_code
def yX11_hours : MethodName := ⟨RX11, "hours", "(I)I"⟩
abbrev cX11_day : ByteArray := prog_1_method_17_code
def yX11_day : MethodName := ⟨RX11, "day", "()I"⟩
abbrev cX11_undo : ByteArray := prog_1_method_18_code
def yX11_undo : MethodName := ⟨RX11, "undo", "()I"⟩
abbrev cX11_route : ByteArray := prog_1_method_19_code
def yX11_route : MethodName := ⟨RX11, "route", "(II)I"⟩
abbrev cX11_joined : ByteArray := prog_1_method_20_code
def yX11_joined : MethodName := ⟨RX11, "joined", "(I)I"⟩
abbrev cX11_soonest : ByteArray := prog_1_method_21_code
def yX11_soonest : MethodName := ⟨RX11, "soonest", "(II)I"⟩
abbrev cX11_moves : ByteArray := prog_1_method_22_code
def yX11_moves : MethodName := ⟨RX11, "moves", "(II)I"⟩
abbrev cX11_needed : ByteArray := prog_1_method_23_code
def yX11_needed : MethodName := ⟨RX11, "needed", "()I"⟩
abbrev cX11_lays : ByteArray := prog_1_method_24_code
def yX11_lays : MethodName := ⟨RX11, "lays", "(I)I"⟩
abbrev cX11_joins : ByteArray := prog_1_method_25_code
def yX11_joins : MethodName := ⟨RX11, "joins", "(I)I"⟩
abbrev cX11_night : ByteArray := prog_1_method_26_code
def yX11_night : MethodName := ⟨RX11, "night", "()I"⟩
abbrev cX11_errands : ByteArray := prog_1_method_27_code
def yX11_errands : MethodName := ⟨RX11, "errands", "()I"⟩
abbrev cX11_flood : ByteArray := prog_1_method_28_code
def yX11_flood : MethodName := ⟨RX11, "flood", "(I)I"⟩
abbrev cX11_highest : ByteArray := prog_1_method_29_code
def yX11_highest : MethodName := ⟨RX11, "highest", "()I"⟩
abbrev cX11_worst : ByteArray := prog_1_method_30_code
def yX11_worst : MethodName := ⟨RX11, "worst", "(I)I"⟩
abbrev cX11_drift : ByteArray := prog_1_method_31_code
def yX11_drift : MethodName := ⟨RX11, "drift", "(IIII)I"⟩
abbrev cX11_seek : ByteArray := prog_1_method_32_code
def yX11_seek : MethodName := ⟨RX11, "seek", "(III)I"⟩
abbrev cX11_found : ByteArray := prog_1_method_33_code
def yX11_found : MethodName := ⟨RX11, "found", "(III)I"⟩
abbrev cX11_forget : ByteArray := prog_1_method_34_code
def yX11_forget : MethodName := ⟨RX11, "forget", "()I"⟩
abbrev cX11_stolen : ByteArray := prog_1_method_35_code
def yX11_stolen : MethodName := ⟨RX11, "stolen", "()I"⟩
abbrev cX11_ask : ByteArray := prog_1_method_36_code
def yX11_ask : MethodName := ⟨RX11, "ask", "()I"⟩
abbrev cX11_share : ByteArray := prog_1_method_37_code
def yX11_share : MethodName := ⟨RX11, "share", "(IIII)I"⟩
abbrev cX11_turn : ByteArray := prog_1_method_38_code
def yX11_turn : MethodName := ⟨RX11, "turn", "(III)I"⟩
abbrev cX11_rests : ByteArray := prog_1_method_39_code
def yX11_rests : MethodName := ⟨RX11, "rests", "(I)I"⟩
abbrev cX11_home : ByteArray := prog_1_method_40_code
def yX11_home : MethodName := ⟨RX11, "home", "()I"⟩
abbrev cX11_years : ByteArray := prog_1_method_41_code
def yX11_years : MethodName := ⟨RX11, "years", "(II)I"⟩
abbrev cX11_keep : ByteArray := prog_1_method_42_code
def yX11_keep : MethodName := ⟨RX11, "keep", "(I)Z"⟩
abbrev cX11_again : ByteArray := prog_1_method_43_code
def yX11_again : MethodName := ⟨RX11, "again", "(I)Z"⟩
abbrev cX11_count : ByteArray := prog_1_method_44_code
def yX11_count : MethodName := ⟨RX11, "count", "(I)I"⟩
abbrev cX11_row : ByteArray := prog_1_method_45_code
def yX11_row : MethodName := ⟨RX11, "row", "(I)J"⟩
abbrev cX11_forgetPastIf : ByteArray := prog_1_method_46_code
def yX11_forgetPastIf : MethodName := ⟨RX11, "forgetPastIf", "(Z)V"⟩
abbrev cX11_refusalAt : ByteArray := prog_1_method_47_code
def yX11_refusalAt : MethodName := ⟨RX11, "refusalAt", "(I)I"⟩
abbrev cX11_has : ByteArray := prog_1_method_48_code
def yX11_has : MethodName := ⟨RX11, "has", "(II)Z"⟩
abbrev cX11_within : ByteArray := prog_1_method_49_code
def yX11_within : MethodName := ⟨RX11, "within", "(II)Z"⟩
abbrev cX11_hoursWanted : ByteArray := prog_1_method_50_code
def yX11_hoursWanted : MethodName := ⟨RX11, "hoursWanted", "(IIII)I"⟩
abbrev cX11_gain : ByteArray := prog_1_method_51_code
def yX11_gain : MethodName := ⟨RX11, "gain", "(III)I"⟩
abbrev cX11_keepsPrice : ByteArray := prog_1_method_52_code
def yX11_keepsPrice : MethodName := ⟨RX11, "keepsPrice", "(III)Z"⟩
def RX12 : String := "BridgesAreLentModel"
def TX12 : u_T := fun k => match k with
  | 0 => ("BridgesAreLentModel", "thrown", "I", false)
  | 1 => ("BridgesAreLentModel", "rows", "I", false)
  | 2 => ("BridgesAreLentModel", "row", "[J", true)
  | 3 => ("BridgesAreLentModel", "banks", "I", false)
  | 4 => ("BridgesAreLentModel", "crossings", "I", false)
  | 5 => ("BridgesAreLentModel", "bridges", "I", false)
  | 6 => ("BridgesAreLentModel", "people", "I", false)
  | 7 => ("BridgesAreLentModel", "changes", "I", false)
  | 8 => ("BridgesAreLentModel", "one", "[I", true)
  | 9 => ("BridgesAreLentModel", "other", "[I", true)
  | 10 => ("BridgesAreLentModel", "spot", "[I", true)
  | 11 => ("BridgesAreLentModel", "width", "[I", true)
  | 12 => ("BridgesAreLentModel", "length", "[I", true)
  | 13 => ("BridgesAreLentModel", "heavy", "[I", true)
  | 14 => ("BridgesAreLentModel", "now", "[I", true)
  | 15 => ("BridgesAreLentModel", "tape", "[I", true)
  | 16 => ("BridgesAreLentModel", "taped", "I", false)
  | 17 => ("BridgesAreLentModel", "at", "I", false)
  | 18 => ("BridgesAreLentModel", "to", "I", false)
  | 19 => ("BridgesAreLentModel", "nest", "I", false)
  | 20 => ("BridgesAreLentModel", "read", "[I", true)
  | 21 => ("BridgesAreLentModel", "readBanks", "I", false)
  | 22 => ("BridgesAreLentModel", "readMany", "I", false)
  | 23 => ("BridgesAreLentModel", "firstBank", "I", false)
  | 24 => ("BridgesAreLentModel", "code", "[I", true)
  | 25 => ("BridgesAreLentModel", "readCode", "[I", true)
  | 26 => ("BridgesAreLentModel", "codeLong", "I", false)
  | 27 => ("BridgesAreLentModel", "readLong", "I", false)
  | 28 => ("BridgesAreLentModel", "stack", "[I", true)
  | 29 => ("BridgesAreLentModel", "asked", "[I", true)
  | 30 => ("BridgesAreLentModel", "undos", "I", false)
  | 31 => ("BridgesAreLentModel", "undone", "[I", true)
  | 32 => ("BridgesAreLentModel", "isLent", "Z", false)
  | 33 => ("BridgesAreLentModel", "cameBits", "I", false)
  | 34 => ("BridgesAreLentModel", "brokenBits", "I", false)
  | 35 => ("BridgesAreLentModel", "brokenMany", "I", false)
  | 36 => ("BridgesAreLentModel", "actSign", "[I", true)
  | 37 => ("BridgesAreLentModel", "actOne", "[I", true)
  | 38 => ("BridgesAreLentModel", "actTwo", "[I", true)
  | 39 => ("BridgesAreLentModel", "acts", "I", false)
  | 40 => ("BridgesAreLentModel", "far", "[I", true)
  | 41 => ("BridgesAreLentModel", "laid", "[I", true)
  | 42 => ("BridgesAreLentModel", "errandFrom", "[I", true)
  | 43 => ("BridgesAreLentModel", "errandTo", "[I", true)
  | 44 => ("BridgesAreLentModel", "errandMany", "I", false)
  | 45 => ("BridgesAreLentModel", "share", "[J", true)
  | 46 => ("BridgesAreLentModel", "shareNext", "[J", true)
  | 47 => ("BridgesAreLentModel", "shareAll", "J", false)
  | 48 => ("BridgesAreLentModel", "facts", "I", false)
  | 49 => ("BridgesAreLentModel", "factWhat", "[I", true)
  | 50 => ("BridgesAreLentModel", "factOf", "[I", true)
  | 51 => ("BridgesAreLentModel", "factIs", "[I", true)
  | 52 => ("BridgesAreLentModel", "byOne", "I", false)
  | 53 => ("BridgesAreLentModel", "byOther", "I", false)
  | 54 => ("BridgesAreLentModel", "missedByOne", "I", false)
  | 55 => ("BridgesAreLentModel", "missedByOther", "I", false)
  | 56 => ("BridgesAreLentModel", "then", "[I", true)
  | 57 => ("BridgesAreLentModel", "isKept", "[Z", true)
  | 58 => ("BridgesAreLentModel", "keptChanges", "[I", true)
  | _ => ("BridgesAreLentModel", "kept", "[I", true)
def tyX12 : Nat → FieldType := fun k => match k with
  | 0 => .int
  | 1 => .int
  | 2 => .array .long
  | 3 => .int
  | 4 => .int
  | 5 => .int
  | 6 => .int
  | 7 => .int
  | 8 => .array .int
  | 9 => .array .int
  | 10 => .array .int
  | 11 => .array .int
  | 12 => .array .int
  | 13 => .array .int
  | 14 => .array .int
  | 15 => .array .int
  | 16 => .int
  | 17 => .int
  | 18 => .int
  | 19 => .int
  | 20 => .array .int
  | 21 => .int
  | 22 => .int
  | 23 => .int
  | 24 => .array .int
  | 25 => .array .int
  | 26 => .int
  | 27 => .int
  | 28 => .array .int
  | 29 => .array .int
  | 30 => .int
  | 31 => .array .int
  | 32 => .boolean
  | 33 => .int
  | 34 => .int
  | 35 => .int
  | 36 => .array .int
  | 37 => .array .int
  | 38 => .array .int
  | 39 => .int
  | 40 => .array .int
  | 41 => .array .int
  | 42 => .array .int
  | 43 => .array .int
  | 44 => .int
  | 45 => .array .long
  | 46 => .array .long
  | 47 => .long
  | 48 => .int
  | 49 => .array .int
  | 50 => .array .int
  | 51 => .array .int
  | 52 => .int
  | 53 => .int
  | 54 => .int
  | 55 => .int
  | 56 => .array .int
  | 57 => .array .boolean
  | 58 => .array .int
  | _ => .array .int
theorem nmX12 : ∀ a, a < 60 → ∀ b, b < 60 → a ≠ b → (TX12 a).2.1 ≠ (TX12 b).2.1 := by decide +kernel
theorem tyX12_ok : ∀ k, k < 60 → parseFieldDescriptor (TX12 k).2.2.1 = some (tyX12 k) := by decide +kernel
abbrev cX12_init : ByteArray := prog_14_method_1_code
def yX12_init : MethodName := ⟨RX12, "<init>", "()V"⟩
abbrev cX12_thrown : ByteArray := prog_14_method_2_code
def yX12_thrown : MethodName := ⟨RX12, "thrown", "()I"⟩
abbrev cX12_refuse : ByteArray := prog_14_method_3_code
def yX12_refuse : MethodName := ⟨RX12, "refuse", "()I"⟩
abbrev cX12_in : ByteArray := prog_14_method_4_code
def yX12_in : MethodName := ⟨RX12, "in", "(JJJ)Z"⟩
abbrev cX12_has : ByteArray := prog_14_method_5_code
def yX12_has : MethodName := ⟨RX12, "has", "(II)Z"⟩
abbrev cX12_flag : ByteArray := prog_14_method_6_code
def yX12_flag : MethodName := ⟨RX12, "flag", "(Z)I"⟩
abbrev cX12_common : ByteArray := prog_14_method_7_code
def yX12_common : MethodName := ⟨RX12, "common", "(JJ)J"⟩
abbrev cX12_enters : ByteArray := prog_14_method_8_code
def yX12_enters : MethodName := ⟨RX12, "enters", "(J)V"⟩
abbrev cX12_isBank : ByteArray := prog_14_method_9_code
def yX12_isBank : MethodName := ⟨RX12, "isBank", "(I)Z"⟩
abbrev cX12_isCrossing : ByteArray := prog_14_method_10_code
def yX12_isCrossing : MethodName := ⟨RX12, "isCrossing", "(I)Z"⟩
abbrev cX12_isBridge : ByteArray := prog_14_method_11_code
def yX12_isBridge : MethodName := ⟨RX12, "isBridge", "(I)Z"⟩
abbrev cX12_isPerson : ByteArray := prog_14_method_12_code
def yX12_isPerson : MethodName := ⟨RX12, "isPerson", "(I)Z"⟩
abbrev cX12_sign : ByteArray := prog_14_method_13_code
def yX12_sign : MethodName := ⟨RX12, "sign", "(I)I"⟩
abbrev cX12_end : ByteArray := prog_14_method_14_code
def yX12_end : MethodName := ⟨RX12, "end", "(I)Z"⟩
abbrev cX12_begins : ByteArray := prog_14_method_15_code
def yX12_begins : MethodName := ⟨RX12, "begins", "(I)I"⟩
abbrev cX12_isNext : ByteArray := prog_14_method_16_code
def yX12_isNext : MethodName := ⟨RX12, "isNext", "(I)Z"⟩
abbrev cX12_isDigit : ByteArray := prog_14_method_17_code
def yX12_isDigit : MethodName := ⟨RX12, "isDigit", "()Z"⟩
abbrev cX12_among : ByteArray := prog_14_method_18_code
def yX12_among : MethodName := ⟨RX12, "among", "(Ljava/lang/String;)I"⟩
abbrev cX12_takesOf : ByteArray := prog_14_method_19_code
def yX12_takesOf : MethodName := ⟨RX12, "takesOf", "(Ljava/lang/String;)I"⟩
abbrev cX12_number : ByteArray := prog_14_method_20_code
def yX12_number : MethodName := ⟨RX12, "number", "(I)I"⟩
abbrev cX12_letter : ByteArray := prog_14_method_21_code
def yX12_letter : MethodName := ⟨RX12, "letter", "(I)I"⟩
abbrev cX12_faultOf : ByteArray := prog_14_method_22_code
def yX12_faultOf : MethodName := ⟨RX12, "faultOf", "(IIZ)I"⟩
abbrev cX12_twoBanks : ByteArray := prog_14_method_23_code
def yX12_twoBanks : MethodName := ⟨RX12, "twoBanks", "(I)I"⟩
abbrev cX12_readsCrossing : ByteArray := prog_14_method_24_code
def yX12_readsCrossing : MethodName := ⟨RX12, "readsCrossing", "()Z"⟩
abbrev cX12_river : ByteArray := prog_14_method_25_code
def yX12_river : MethodName := ⟨RX12, "river", "()I"⟩
abbrev cX12_comes : ByteArray := prog_14_method_26_code
def yX12_comes : MethodName := ⟨RX12, "comes", "()V"⟩
abbrev cX12_readsPair : ByteArray := prog_14_method_27_code
def yX12_readsPair : MethodName := ⟨RX12, "readsPair", "(Z)Z"⟩
abbrev cX12_readsPairs : ByteArray := prog_14_method_28_code
def yX12_readsPairs : MethodName := ⟨RX12, "readsPairs", "(Z)I"⟩
abbrev cX12_bridges : ByteArray := prog_14_method_29_code
def yX12_bridges : MethodName := ⟨RX12, "bridges", "()I"⟩
abbrev cX12_people : ByteArray := prog_14_method_30_code
def yX12_people : MethodName := ⟨RX12, "people", "()I"⟩
abbrev cX12_codes : ByteArray := prog_14_method_31_code
def yX12_codes : MethodName := ⟨RX12, "codes", "(I)V"⟩
abbrev cX12_readsThing : ByteArray := prog_14_method_32_code
def yX12_readsThing : MethodName := ⟨RX12, "readsThing", "()Z"⟩
abbrev cX12_readsRank : ByteArray := prog_14_method_33_code
def yX12_readsRank : MethodName := ⟨RX12, "readsRank", "(I)Z"⟩
abbrev cX12_rule : ByteArray := prog_14_method_34_code
def yX12_rule : MethodName := ⟨RX12, "rule", "()I"⟩
abbrev cX12_worked : ByteArray := prog_14_method_35_code
def yX12_worked : MethodName := ⟨RX12, "worked", "(III)I"⟩
abbrev cX12_ruled : ByteArray := prog_14_method_36_code
def yX12_ruled : MethodName := ⟨RX12, "ruled", "()I"⟩
abbrev cX12_spotOf : ByteArray := prog_14_method_37_code
def yX12_spotOf : MethodName := ⟨RX12, "spotOf", "(I)I"⟩
abbrev cX12_towOf : ByteArray := prog_14_method_38_code
def yX12_towOf : MethodName := ⟨RX12, "towOf", "(II)I"⟩
abbrev cX12_bridgeAt : ByteArray := prog_14_method_39_code
def yX12_bridgeAt : MethodName := ⟨RX12, "bridgeAt", "(IZ)I"⟩
abbrev cX12_openIn : ByteArray := prog_14_method_40_code
def yX12_openIn : MethodName := ⟨RX12, "openIn", "(II)I"⟩
abbrev cX12_reachOnce : ByteArray := prog_14_method_41_code
def yX12_reachOnce : MethodName := ⟨RX12, "reachOnce", "(II)I"⟩
abbrev cX12_reach : ByteArray := prog_14_method_42_code
def yX12_reach : MethodName := ⟨RX12, "reach", "(II)I"⟩
abbrev cX12_pairsOf : ByteArray := prog_14_method_43_code
def yX12_pairsOf : MethodName := ⟨RX12, "pairsOf", "(I)I"⟩
abbrev cX12_crossing : ByteArray := prog_14_method_44_code
def yX12_crossing : MethodName := ⟨RX12, "crossing", "(II)I"⟩
abbrev cX12_bridge : ByteArray := prog_14_method_45_code
def yX12_bridge : MethodName := ⟨RX12, "bridge", "(II)I"⟩
abbrev cX12_person : ByteArray := prog_14_method_46_code
def yX12_person : MethodName := ⟨RX12, "person", "(II)I"⟩
abbrev cX12_sheet : ByteArray := prog_14_method_47_code
def yX12_sheet : MethodName := ⟨RX12, "sheet", "(IIII)I"⟩
abbrev cX12_putsBy : ByteArray := prog_14_method_48_code
def yX12_putsBy : MethodName := ⟨RX12, "putsBy", "()V"⟩
abbrev cX12_adds : ByteArray := prog_14_method_49_code
def yX12_adds : MethodName := ⟨RX12, "adds", "(I)I"⟩
abbrev cX12_counts : ByteArray := prog_14_method_50_code
def yX12_counts : MethodName := ⟨RX12, "counts", "(I)I"⟩
abbrev cX12_undo : ByteArray := prog_14_method_51_code
def yX12_undo : MethodName := ⟨RX12, "undo", "()I"⟩
abbrev cX12_whyNot : ByteArray := prog_14_method_52_code
def yX12_whyNot : MethodName := ⟨RX12, "whyNot", "(II)I"⟩
abbrev cX12_takes : ByteArray := prog_14_method_53_code
def yX12_takes : MethodName := ⟨RX12, "takes", "(II)I"⟩
abbrev cX12_tows : ByteArray := prog_14_method_54_code
def yX12_tows : MethodName := ⟨RX12, "tows", "(II)I"⟩
abbrev cX12_lends : ByteArray := prog_14_method_55_code
def yX12_lends : MethodName := ⟨RX12, "lends", "(II)I"⟩
abbrev cX12_crosses : ByteArray := prog_14_method_56_code
def yX12_crosses : MethodName := ⟨RX12, "crosses", "(II)I"⟩
abbrev cX12_startsCounting : ByteArray := prog_14_method_57_code
def yX12_startsCounting : MethodName := ⟨RX12, "startsCounting", "()V"⟩
abbrev cX12_hourGoes : ByteArray := prog_14_method_58_code
def yX12_hourGoes : MethodName := ⟨RX12, "hourGoes", "()V"⟩
abbrev cX12_tow : ByteArray := prog_14_method_59_code
def yX12_tow : MethodName := ⟨RX12, "tow", "(II)I"⟩
abbrev cX12_lend : ByteArray := prog_14_method_60_code
def yX12_lend : MethodName := ⟨RX12, "lend", "(II)I"⟩
abbrev cX12_cross : ByteArray := prog_14_method_61_code
def yX12_cross : MethodName := ⟨RX12, "cross", "(II)I"⟩
abbrev cX12_hours : ByteArray := prog_14_method_62_code
def yX12_hours : MethodName := ⟨RX12, "hours", "(I)I"⟩
abbrev cX12_readsAct : ByteArray := prog_14_method_63_code
def yX12_readsAct : MethodName := ⟨RX12, "readsAct", "()Z"⟩
abbrev cX12_does : ByteArray := prog_14_method_64_code
def yX12_does : MethodName := ⟨RX12, "does", "(I)Z"⟩
abbrev cX12_day : ByteArray := prog_14_method_65_code
def yX12_day : MethodName := ⟨RX12, "day", "()I"⟩
abbrev cX12_laysFar : ByteArray := prog_14_method_66_code
def yX12_laysFar : MethodName := ⟨RX12, "laysFar", "(II)V"⟩
abbrev cX12_route : ByteArray := prog_14_method_67_code
def yX12_route : MethodName := ⟨RX12, "route", "(II)I"⟩
abbrev cX12_joined : ByteArray := prog_14_method_68_code
def yX12_joined : MethodName := ⟨RX12, "joined", "(I)I"⟩
abbrev cX12_soonest : ByteArray := prog_14_method_69_code
def yX12_soonest : MethodName := ⟨RX12, "soonest", "(II)I"⟩
abbrev cX12_isFree : ByteArray := prog_14_method_70_code
def yX12_isFree : MethodName := ⟨RX12, "isFree", "(I)Z"⟩
abbrev cX12_canPut : ByteArray := prog_14_method_71_code
def yX12_canPut : MethodName := ⟨RX12, "canPut", "(II)Z"⟩
abbrev cX12_openWith : ByteArray := prog_14_method_72_code
def yX12_openWith : MethodName := ⟨RX12, "openWith", "(IIII)I"⟩
abbrev cX12_canGo : ByteArray := prog_14_method_73_code
def yX12_canGo : MethodName := ⟨RX12, "canGo", "(III)Z"⟩
abbrev cX12_moves : ByteArray := prog_14_method_74_code
def yX12_moves : MethodName := ⟨RX12, "moves", "(II)I"⟩
abbrev cX12_needed : ByteArray := prog_14_method_75_code
def yX12_needed : MethodName := ⟨RX12, "needed", "()I"⟩
abbrev cX12_laysFrom : ByteArray := prog_14_method_76_code
def yX12_laysFrom : MethodName := ⟨RX12, "laysFrom", "(IIII)Z"⟩
abbrev cX12_canLay : ByteArray := prog_14_method_77_code
def yX12_canLay : MethodName := ⟨RX12, "canLay", "(I)Z"⟩
abbrev cX12_allCrossings : ByteArray := prog_14_method_78_code
def yX12_allCrossings : MethodName := ⟨RX12, "allCrossings", "()I"⟩
abbrev cX12_lays : ByteArray := prog_14_method_79_code
def yX12_lays : MethodName := ⟨RX12, "lays", "(I)I"⟩
abbrev cX12_joinsAll : ByteArray := prog_14_method_80_code
def yX12_joinsAll : MethodName := ⟨RX12, "joinsAll", "(I)Z"⟩
abbrev cX12_fewestFor : ByteArray := prog_14_method_81_code
def yX12_fewestFor : MethodName := ⟨RX12, "fewestFor", "()I"⟩
abbrev cX12_joins : ByteArray := prog_14_method_82_code
def yX12_joins : MethodName := ⟨RX12, "joins", "(I)I"⟩
abbrev cX12_night : ByteArray := prog_14_method_83_code
def yX12_night : MethodName := ⟨RX12, "night", "()I"⟩
abbrev cX12_errands : ByteArray := prog_14_method_84_code
def yX12_errands : MethodName := ⟨RX12, "errands", "()I"⟩
abbrev cX12_shortBy : ByteArray := prog_14_method_85_code
def yX12_shortBy : MethodName := ⟨RX12, "shortBy", "(I)I"⟩
abbrev cX12_pairsBy : ByteArray := prog_14_method_86_code
def yX12_pairsBy : MethodName := ⟨RX12, "pairsBy", "(I)I"⟩
abbrev cX12_flood : ByteArray := prog_14_method_87_code
def yX12_flood : MethodName := ⟨RX12, "flood", "(I)I"⟩
abbrev cX12_highest : ByteArray := prog_14_method_88_code
def yX12_highest : MethodName := ⟨RX12, "highest", "()I"⟩
abbrev cX12_worst : ByteArray := prog_14_method_89_code
def yX12_worst : MethodName := ⟨RX12, "worst", "(I)I"⟩
abbrev cX12_nextDown : ByteArray := prog_14_method_90_code
def yX12_nextDown : MethodName := ⟨RX12, "nextDown", "(I)I"⟩
abbrev cX12_isAt : ByteArray := prog_14_method_91_code
def yX12_isAt : MethodName := ⟨RX12, "isAt", "(I)Z"⟩
abbrev cX12_drifts : ByteArray := prog_14_method_92_code
def yX12_drifts : MethodName := ⟨RX12, "drifts", "(III)V"⟩
abbrev cX12_tellsShare : ByteArray := prog_14_method_93_code
def yX12_tellsShare : MethodName := ⟨RX12, "tellsShare", "(I)V"⟩
abbrev cX12_drift : ByteArray := prog_14_method_94_code
def yX12_drift : MethodName := ⟨RX12, "drift", "(IIII)I"⟩
abbrev cX12_seek : ByteArray := prog_14_method_95_code
def yX12_seek : MethodName := ⟨RX12, "seek", "(III)I"⟩
abbrev cX12_greatestOf : ByteArray := prog_14_method_96_code
def yX12_greatestOf : MethodName := ⟨RX12, "greatestOf", "(I)I"⟩
abbrev cX12_found : ByteArray := prog_14_method_97_code
def yX12_found : MethodName := ⟨RX12, "found", "(III)I"⟩
abbrev cX12_forget : ByteArray := prog_14_method_98_code
def yX12_forget : MethodName := ⟨RX12, "forget", "()I"⟩
abbrev cX12_isSo : ByteArray := prog_14_method_99_code
def yX12_isSo : MethodName := ⟨RX12, "isSo", "(III)Z"⟩
abbrev cX12_fitting : ByteArray := prog_14_method_100_code
def yX12_fitting : MethodName := ⟨RX12, "fitting", "()I"⟩
abbrev cX12_stolen : ByteArray := prog_14_method_101_code
def yX12_stolen : MethodName := ⟨RX12, "stolen", "()I"⟩
abbrev cX12_ask : ByteArray := prog_14_method_102_code
def yX12_ask : MethodName := ⟨RX12, "ask", "()I"⟩
abbrev cX12_sharesBy : ByteArray := prog_14_method_103_code
def yX12_sharesBy : MethodName := ⟨RX12, "sharesBy", "(IIII)V"⟩
abbrev cX12_canShare : ByteArray := prog_14_method_104_code
def yX12_canShare : MethodName := ⟨RX12, "canShare", "(III)Z"⟩
abbrev cX12_share : ByteArray := prog_14_method_105_code
def yX12_share : MethodName := ⟨RX12, "share", "(IIII)I"⟩
abbrev cX12_turn : ByteArray := prog_14_method_106_code
def yX12_turn : MethodName := ⟨RX12, "turn", "(III)I"⟩
abbrev cX12_earns : ByteArray := prog_14_method_107_code
def yX12_earns : MethodName := ⟨RX12, "earns", "(III)I"⟩
abbrev cX12_isRest : ByteArray := prog_14_method_108_code
def yX12_isRest : MethodName := ⟨RX12, "isRest", "(III)Z"⟩
abbrev cX12_rests : ByteArray := prog_14_method_109_code
def yX12_rests : MethodName := ⟨RX12, "rests", "(I)I"⟩
abbrev cX12_homeIn : ByteArray := prog_14_method_110_code
def yX12_homeIn : MethodName := ⟨RX12, "homeIn", "(I)I"⟩
abbrev cX12_home : ByteArray := prog_14_method_111_code
def yX12_home : MethodName := ⟨RX12, "home", "()I"⟩
abbrev cX12_openThen : ByteArray := prog_14_method_112_code
def yX12_openThen : MethodName := ⟨RX12, "openThen", "()I"⟩
abbrev cX12_isFreeThen : ByteArray := prog_14_method_113_code
def yX12_isFreeThen : MethodName := ⟨RX12, "isFreeThen", "(I)Z"⟩
abbrev cX12_years : ByteArray := prog_14_method_114_code
def yX12_years : MethodName := ⟨RX12, "years", "(II)I"⟩
abbrev cX12_keep : ByteArray := prog_14_method_115_code
def yX12_keep : MethodName := ⟨RX12, "keep", "(I)Z"⟩
abbrev cX12_again : ByteArray := prog_14_method_116_code
def yX12_again : MethodName := ⟨RX12, "again", "(I)Z"⟩
abbrev cX12_bridgesBy : ByteArray := prog_14_method_117_code
def yX12_bridgesBy : MethodName := ⟨RX12, "bridgesBy", "(I)I"⟩
abbrev cX12_count : ByteArray := prog_14_method_118_code
def yX12_count : MethodName := ⟨RX12, "count", "(I)I"⟩
abbrev cX12_row : ByteArray := prog_14_method_119_code
def yX12_row : MethodName := ⟨RX12, "row", "(I)J"⟩
def RJx145de : String := "java/io/Serializable"
def TJx145de : u_T := fun k => match k with
  | _ => ("", "", "", false)
def tyJx145de : Nat → FieldType := fun k => match k with
  | _ => .int
theorem nmJx145de : ∀ a, a < 0 → ∀ b, b < 0 → a ≠ b → (TJx145de a).2.1 ≠ (TJx145de b).2.1 := by decide +kernel
theorem tyJx145de_ok : ∀ k, k < 0 → parseFieldDescriptor (TJx145de k).2.2.1 = some (tyJx145de k) := by decide +kernel
def RJx9f9b0 : String := "java/lang/CharSequence"
def TJx9f9b0 : u_T := fun k => match k with
  | _ => ("", "", "", false)
def tyJx9f9b0 : Nat → FieldType := fun k => match k with
  | _ => .int
theorem nmJx9f9b0 : ∀ a, a < 0 → ∀ b, b < 0 → a ≠ b → (TJx9f9b0 a).2.1 ≠ (TJx9f9b0 b).2.1 := by decide +kernel
theorem tyJx9f9b0_ok : ∀ k, k < 0 → parseFieldDescriptor (TJx9f9b0 k).2.2.1 = some (tyJx9f9b0 k) := by decide +kernel
def RJ11 : String := "java/lang/Character"
def TJ11 : u_T := fun k => match k with
  | _ => ("", "", "", false)
def tyJ11 : Nat → FieldType := fun k => match k with
  | _ => .int
theorem nmJ11 : ∀ a, a < 0 → ∀ b, b < 0 → a ≠ b → (TJ11 a).2.1 ≠ (TJ11 b).2.1 := by decide +kernel
theorem tyJ11_ok : ∀ k, k < 0 → parseFieldDescriptor (TJ11 k).2.2.1 = some (tyJ11 k) := by decide +kernel
abbrev cJ11_isValidCodePoint_9a6ad : ByteArray := prog_17_method_11_code
def yJ11_isValidCodePoint_9a6ad : MethodName := ⟨RJ11, "isValidCodePoint", "(I)Z"⟩
abbrev cJ11_highSurrogate_5068e : ByteArray := prog_17_method_28_code
def yJ11_highSurrogate_5068e : MethodName := ⟨RJ11, "highSurrogate", "(I)C"⟩
abbrev cJ11_lowSurrogate_5068e : ByteArray := prog_17_method_29_code
def yJ11_lowSurrogate_5068e : MethodName := ⟨RJ11, "lowSurrogate", "(I)C"⟩
def RJxb160c : String := "java/lang/Comparable"
def TJxb160c : u_T := fun k => match k with
  | _ => ("", "", "", false)
def tyJxb160c : Nat → FieldType := fun k => match k with
  | _ => .int
theorem nmJxb160c : ∀ a, a < 0 → ∀ b, b < 0 → a ≠ b → (TJxb160c a).2.1 ≠ (TJxb160c b).2.1 := by decide +kernel
theorem tyJxb160c_ok : ∀ k, k < 0 → parseFieldDescriptor (TJxb160c k).2.2.1 = some (tyJxb160c k) := by decide +kernel
def RJ6 : String := "java/lang/Integer"
def TJ6 : u_T := fun k => match k with
  | _ => ("", "", "", false)
def tyJ6 : Nat → FieldType := fun k => match k with
  | _ => .int
theorem nmJ6 : ∀ a, a < 0 → ∀ b, b < 0 → a ≠ b → (TJ6 a).2.1 ≠ (TJ6 b).2.1 := by decide +kernel
theorem tyJ6_ok : ∀ k, k < 0 → parseFieldDescriptor (TJ6 k).2.2.1 = some (tyJ6 k) := by decide +kernel
abbrev cJ6_numberOfTrailingZeros_0f7a4 : ByteArray := prog_20_method_48_code
def yJ6_numberOfTrailingZeros_0f7a4 : MethodName := ⟨RJ6, "numberOfTrailingZeros", "(I)I"⟩
abbrev cJ6_bitCount_0f7a4 : ByteArray := prog_20_method_49_code
def yJ6_bitCount_0f7a4 : MethodName := ⟨RJ6, "bitCount", "(I)I"⟩
def RJ9 : String := "java/lang/Math"
def TJ9 : u_T := fun k => match k with
  | _ => ("", "", "", false)
def tyJ9 : Nat → FieldType := fun k => match k with
  | _ => .int
theorem nmJ9 : ∀ a, a < 0 → ∀ b, b < 0 → a ≠ b → (TJ9 a).2.1 ≠ (TJ9 b).2.1 := by decide +kernel
theorem tyJ9_ok : ∀ k, k < 0 → parseFieldDescriptor (TJ9 k).2.2.1 = some (tyJ9 k) := by decide +kernel
abbrev cJ9_abs_0f7a4 : ByteArray := prog_21_method_59_code
def yJ9_abs_0f7a4 : MethodName := ⟨RJ9, "abs", "(I)I"⟩
abbrev cJ9_max_7cf53 : ByteArray := prog_21_method_65_code
def yJ9_max_7cf53 : MethodName := ⟨RJ9, "max", "(II)I"⟩
abbrev cJ9_min_7cf53 : ByteArray := prog_21_method_69_code
def yJ9_min_7cf53 : MethodName := ⟨RJ9, "min", "(II)I"⟩
def RJ0 : String := "java/lang/String"
def TJ0 : u_T := fun k => match k with
  | _ => ("", "", "", false)
def tyJ0 : Nat → FieldType := fun k => match k with
  | _ => .int
theorem nmJ0 : ∀ a, a < 0 → ∀ b, b < 0 → a ≠ b → (TJ0 a).2.1 ≠ (TJ0 b).2.1 := by decide +kernel
theorem tyJ0_ok : ∀ k, k < 0 → parseFieldDescriptor (TJ0 k).2.2.1 = some (tyJ0 k) := by decide +kernel
abbrev cJ0_length_8abf5 : ByteArray := prog_23_method_54_code
def yJ0_length_8abf5 : MethodName := ⟨RJ0, "length", "()I"⟩
abbrev cJ0_charAt_5068e : ByteArray := prog_23_method_56_code
def yJ0_charAt_5068e : MethodName := ⟨RJ0, "charAt", "(I)C"⟩
abbrev cJ0_indexOf_0f7a4 : ByteArray := prog_23_method_79_code
def yJ0_indexOf_0f7a4 : MethodName := ⟨RJ0, "indexOf", "(I)I"⟩
abbrev cJ0_indexOf_7cf53 : ByteArray := prog_23_method_80_code
def yJ0_indexOf_7cf53 : MethodName := ⟨RJ0, "indexOf", "(II)I"⟩
abbrev cJ0_coder_7d493 : ByteArray := prog_23_method_152_code
def yJ0_coder_7d493 : MethodName := ⟨RJ0, "coder", "()B"⟩
abbrev cJ0_isLatin1_aae02 : ByteArray := prog_23_method_154_code
def yJ0_isLatin1_aae02 : MethodName := ⟨RJ0, "isLatin1", "()Z"⟩
abbrev cJ0_checkIndex_df160 : ByteArray := prog_23_method_155_code
def yJ0_checkIndex_df160 : MethodName := ⟨RJ0, "checkIndex", "(II)V"⟩
abbrev cJ0_checkBoundsBeginEnd_23922 : ByteArray := prog_23_method_158_code
def yJ0_checkBoundsBeginEnd_23922 : MethodName := ⟨RJ0, "checkBoundsBeginEnd", "(III)V"⟩
def RJ1 : String := "java/lang/StringLatin1"
def TJ1 : u_T := fun k => match k with
  | _ => ("", "", "", false)
def tyJ1 : Nat → FieldType := fun k => match k with
  | _ => .int
theorem nmJ1 : ∀ a, a < 0 → ∀ b, b < 0 → a ≠ b → (TJ1 a).2.1 ≠ (TJ1 b).2.1 := by decide +kernel
theorem tyJ1_ok : ∀ k, k < 0 → parseFieldDescriptor (TJ1 k).2.2.1 = some (tyJ1 k) := by decide +kernel
abbrev cJ1_charAt_3b067 : ByteArray := prog_24_method_2_code
def yJ1_charAt_3b067 : MethodName := ⟨RJ1, "charAt", "([BI)C"⟩
abbrev cJ1_canEncode_9a6ad : ByteArray := prog_24_method_4_code
def yJ1_canEncode_9a6ad : MethodName := ⟨RJ1, "canEncode", "(I)Z"⟩
abbrev cJ1_indexOf_4cfef : ByteArray := prog_24_method_22_code
def yJ1_indexOf_4cfef : MethodName := ⟨RJ1, "indexOf", "([BIII)I"⟩
abbrev cJ1_indexOfChar_4cfef : ByteArray := prog_24_method_23_code
def yJ1_indexOfChar_4cfef : MethodName := ⟨RJ1, "indexOfChar", "([BIII)I"⟩
def RJ2 : String := "java/lang/StringUTF16"
def TJ2 : u_T := fun k => match k with
  | _ => ("", "", "", false)
def tyJ2 : Nat → FieldType := fun k => match k with
  | _ => .int
theorem nmJ2 : ∀ a, a < 0 → ∀ b, b < 0 → a ≠ b → (TJ2 a).2.1 ≠ (TJ2 b).2.1 := by decide +kernel
theorem tyJ2_ok : ∀ k, k < 0 → parseFieldDescriptor (TJ2 k).2.2.1 = some (tyJ2 k) := by decide +kernel
abbrev cJ2_getChar_3b067 : ByteArray := prog_25_method_5_code
def yJ2_getChar_3b067 : MethodName := ⟨RJ2, "getChar", "([BI)C"⟩
abbrev cJ2_length_9d52b : ByteArray := prog_25_method_6_code
def yJ2_length_9d52b : MethodName := ⟨RJ2, "length", "([B)I"⟩
abbrev cJ2_indexOf_4cfef : ByteArray := prog_25_method_40_code
def yJ2_indexOf_4cfef : MethodName := ⟨RJ2, "indexOf", "([BIII)I"⟩
abbrev cJ2_indexOfChar_4cfef : ByteArray := prog_25_method_47_code
def yJ2_indexOfChar_4cfef : MethodName := ⟨RJ2, "indexOfChar", "([BIII)I"⟩
abbrev cJ2_indexOfCharUnsafe_4cfef : ByteArray := prog_25_method_48_code
def yJ2_indexOfCharUnsafe_4cfef : MethodName := ⟨RJ2, "indexOfCharUnsafe", "([BIII)I"⟩
abbrev cJ2_indexOfSupplementary_4cfef : ByteArray := prog_25_method_49_code
def yJ2_indexOfSupplementary_4cfef : MethodName := ⟨RJ2, "indexOfSupplementary", "([BIII)I"⟩
abbrev cJ2_charAt_3b067 : ByteArray := prog_25_method_83_code
def yJ2_charAt_3b067 : MethodName := ⟨RJ2, "charAt", "([BI)C"⟩
abbrev cJ2_checkIndex_2214a : ByteArray := prog_25_method_91_code
def yJ2_checkIndex_2214a : MethodName := ⟨RJ2, "checkIndex", "(I[B)V"⟩
abbrev cJ2_checkBoundsBeginEnd_d044e : ByteArray := prog_25_method_93_code
def yJ2_checkBoundsBeginEnd_d044e : MethodName := ⟨RJ2, "checkBoundsBeginEnd", "(II[B)V"⟩
def RJ10 : String := "java/lang/System"
def TJ10 : u_T := fun k => match k with
  | _ => ("", "", "", false)
def tyJ10 : Nat → FieldType := fun k => match k with
  | _ => .int
theorem nmJ10 : ∀ a, a < 0 → ∀ b, b < 0 → a ≠ b → (TJ10 a).2.1 ≠ (TJ10 b).2.1 := by decide +kernel
theorem tyJ10_ok : ∀ k, k < 0 → parseFieldDescriptor (TJ10 k).2.2.1 = some (tyJ10 k) := by decide +kernel
def RJxfd54e : String := "java/lang/constant/Constable"
def TJxfd54e : u_T := fun k => match k with
  | _ => ("", "", "", false)
def tyJxfd54e : Nat → FieldType := fun k => match k with
  | _ => .int
theorem nmJxfd54e : ∀ a, a < 0 → ∀ b, b < 0 → a ≠ b → (TJxfd54e a).2.1 ≠ (TJxfd54e b).2.1 := by decide +kernel
theorem tyJxfd54e_ok : ∀ k, k < 0 → parseFieldDescriptor (TJxfd54e k).2.2.1 = some (tyJxfd54e k) := by decide +kernel
def RJx3cf43 : String := "java/lang/constant/ConstantDesc"
def TJx3cf43 : u_T := fun k => match k with
  | _ => ("", "", "", false)
def tyJx3cf43 : Nat → FieldType := fun k => match k with
  | _ => .int
theorem nmJx3cf43 : ∀ a, a < 0 → ∀ b, b < 0 → a ≠ b → (TJx3cf43 a).2.1 ≠ (TJx3cf43 b).2.1 := by decide +kernel
theorem tyJx3cf43_ok : ∀ k, k < 0 → parseFieldDescriptor (TJx3cf43 k).2.2.1 = some (tyJx3cf43 k) := by decide +kernel
def RJ3 : String := "jdk/internal/util/Preconditions"
def TJ3 : u_T := fun k => match k with
  | _ => ("", "", "", false)
def tyJ3 : Nat → FieldType := fun k => match k with
  | _ => .int
theorem nmJ3 : ∀ a, a < 0 → ∀ b, b < 0 → a ≠ b → (TJ3 a).2.1 ≠ (TJ3 b).2.1 := by decide +kernel
theorem tyJ3_ok : ∀ k, k < 0 → parseFieldDescriptor (TJ3 k).2.2.1 = some (tyJ3 k) := by decide +kernel
abbrev cJ3_checkIndex_8e157 : ByteArray := prog_31_method_11_code
def yJ3_checkIndex_8e157 : MethodName := ⟨RJ3, "checkIndex", "(IILjava/util/function/BiFunction;)I"⟩
abbrev cJ3_checkFromToIndex_8c36e : ByteArray := prog_31_method_12_code
def yJ3_checkFromToIndex_8c36e : MethodName := ⟨RJ3, "checkFromToIndex", "(IIILjava/util/function/BiFunction;)I"⟩
def RL : String := "BridgesAreLentLaw"
abbrev cL_crossing : ByteArray := method_3_code
def yL_crossing : MethodName := ⟨RL, "crossing", "(LBridgesAreLent;II[J)I"⟩
abbrev cL_bridge : ByteArray := method_4_code
def yL_bridge : MethodName := ⟨RL, "bridge", "(LBridgesAreLent;II[J)I"⟩
abbrev cL_person : ByteArray := method_5_code
def yL_person : MethodName := ⟨RL, "person", "(LBridgesAreLent;II[J)I"⟩
abbrev cL_row : ByteArray := method_6_code
def yL_row : MethodName := ⟨RL, "row", "(LBridgesAreLent;I[J)I"⟩
abbrev cL_law : ByteArray := code
def yL_law : MethodName := ⟨RL, "law", "([I)Z"⟩
abbrev vwCl : List vw_C := [(RX0, TX0, 4), (RX1, TX1, 4), (RX2, TX2, 4), (RX3, TX3, 5), (RX4, TX4, 5), (RX5, TX5, 8), (RX6, TX6, 2), (RX7, TX7, 5), (RX8, TX8, 9), (RX9, TX9, 5), (RX10, TX10, 9), (RX11, TX11, 8), (RX12, TX12, 60)]
end
section
/-! ===== BEGIN words of one list among another's, by their places ===== -/
theorem goodIn_r {big : List Cond} (ws : List Cond) (ps : List Nat) (hp : ws = ps.filterMap (fun i => big[i]?)) (h : ws.all goodWord = true) : GoodIn big ws := by
  intro w hw
  have h1 := List.all_eq_true.mp h w hw
  rw [hp] at hw
  obtain ⟨i, -, hi⟩ := List.mem_filterMap.mp hw
  have hm : w ∈ big := by first | exact List.mem_of_getElem? hi | exact List.getElem?_mem hi
  exact ⟨hm, good_of_word h1⟩
theorem goodIn_app {big a b : List Cond} (ha : GoodIn big a) (hb : GoodIn big b) : GoodIn big (a ++ b) := fun w h => (List.mem_append.mp h).elim (ha w) (hb w)
theorem goodIn_ca {big a b : List Cond} {c : Cond} (ha : GoodIn big (c :: a)) (hb : GoodIn big b) : GoodIn big (c :: (a ++ b)) := fun w h => (List.mem_cons.mp h).elim (fun e => ha w (List.mem_cons.mpr (Or.inl e))) (fun h => (List.mem_append.mp h).elim (fun h => ha w (List.mem_cons.mpr (Or.inr h))) (hb w))
theorem goodIn_sub {big ws : List Cond} (hm : ∀ w ∈ ws, w ∈ big) (h : ws.all goodWord = true) : GoodIn big ws := fun w hw => ⟨hm w hw, good_of_word (List.all_eq_true.mp h w hw)⟩
/-! ===== END ===== -/

/-! ===== BEGIN exceptions that leave a method, and their catching by the caller (launches without stack traces) ===== -/
section VXA
/-! The laws vx_back, vx_callV, vx_callS, vx_callSW, vx_throw0, vx_throwS follow proofs of the library, with one case more: JvmDerived/Free/Laws.lean (Back.of_free), Shelf42/LK1.lean (callV, callS), Shelf/KitTraced.lean (throwNew0V, throwNewS). -/
/-- where a method has thrown q: the class by its name, the cell, what was written, the world -/
def vx_T (XC : String → State → State → Prop) (st : State) (q : Addr) (t : State) (mc ms : Nat) (free : Addr → Prop) : Prop :=
  ∃ (E : String) (ce : Cell) (L : List Loc), XC E st t ∧ t.heap[q]? = some ce ∧ ce.vm = .none ∧ st.vm.findClass E = some ce.cls ∧ st.WarmedH t.vm ∧ st.sameButNew ({ t with vm := st.vm } : State) L mc ms ∧ ∀ z ∈ L, free z.base
def vx_Q (Qc : Array Value → State → Outcome → State → Prop) (XC : String → State → State → Prop) (mc ms : Nat) (free : Addr → Prop) : Array Value → State → Outcome → State → Prop := fun a st o t =>
  (Qc a st o t ∧ ∃ L, FrameEnd st o t L mc ms ∧ ∀ q ∈ L, free q.base) ∨ ∃ q, o = .threw q ∧ vx_T XC st q t mc ms free
/-- a callee that returns or throws -/
def vx_Met (l : Launch) (y : MethodName) (ws : List Cond) (rm : Room) (Pc : Array Value → State → Prop) (Qc : Array Value → State → Outcome → State → Prop) (XC : String → State → State → Prop) (mc ms : Nat) (free : Addr → Prop) : Prop :=
  MetFree l y (headSpec ws rm) Pc (fun _ _ _ _ _ => True) (vx_Q Qc XC mc ms free)
def vx_Post (XC : String → State → State → Prop) (mc ms : Nat) (free : Addr → Prop) : Pt → Array Value → Addr → Pt → Prop := fun A a q B =>
  ∃ (g : JFrame) (mk : MethodId) (t : State) (L : List Loc) (E : String) (ce : Cell), B.U.heap = t.heap ∧ B.U.vm = t.vm ∧ XC E (A.U.calling g mk a) t ∧ t.heap[q]? = some ce ∧ ce.vm = .none ∧ A.U.vm.findClass E = some ce.cls ∧ B.locs = A.locs ++ L ∧ (∀ z ∈ L, free z.base) ∧ B.cells = A.cells + mc ∧ B.slots = A.slots + ms
def vx_Back (l : Launch) (R : Room) (p : Program) (e : Env) (below : List Frame) (s : State) (sargs : Array Value) (y : MethodName) (len W9 : Nat)
    (Pre : Pt → Array Value → Prop) (Post : Pt → Array Value → Option Value → Pt → Prop) (PostX : Pt → Array Value → Addr → Pt → Prop) : Prop :=
  ∀ (m : MethodId) (meth : Method) (c : Code) (A : Pt) (g : JFrame) (ig : Instr) (mk : MethodId) (a : Array Value),
    Stand p l e R s m sargs below meth c A.U A.locs A.cells A.slots → g.method = m → g.locals.size = c.maxLocals → decode c.code g.pc = .ok (ig, len) →
    2 * g.monitorRoom + (g.stack.map fun v => v.category).sum ≤ W9 → A.U.methodNamed? y = some mk → Pre A a →
    (∃ (v : Option Value) (B : Pt), Stand p l e R s m sargs below meth c B.U B.locs B.cells B.slots ∧ Post A a v B ∧
      Steps p.tables e below (doInvoke e (A.U.setTop g) [] mk a).1 (B.U.setTop { g with pc := g.pc + len, stack := v.toList ++ g.stack })) ∨
    (∃ (q : Addr) (B : Pt), Stand p l e R s m sargs below meth c B.U B.locs B.cells B.slots ∧ PostX A a q B ∧
      Steps p.tables e below (doInvoke e (A.U.setTop g) [] mk a).1 ((B.U.setTop g).pushFrame (.throwing q)))
section Payer
variable {l : Launch} {R : Room} {p : Program} {e : Env} {below : List Frame} {s : State} {sargs : Array Value} {y : MethodName} {len W9 : Nat}
theorem vx_back {ws : List Cond} {rm : Room} {Pc : Array Value → State → Prop} {Qc : Array Value → State → Outcome → State → Prop} {XC : String → State → State → Prop} {mc ms : Nat} {free : Addr → Prop} {bytes : ByteArray} {maxL : Nat} {ret : Option FieldType}
    (hM : vx_Met l y ws rm Pc Qc XC mc ms free) (hblind : FrameBlind Pc) (hrc : rm.cells = mc) (hrs : rm.slots = ms)
    (hframes : rm.frames + 1 ≤ R.frames) (hlocals : W9 + (maxL + 11) + rm.locals ≤ R.locals)
    (hws : ∀ w ∈ ws, ∀ a' U, s.WarmedH U.vm → w.before a' U = true) (hcode : Cond.code y bytes maxL ret ∈ ws) (hinit : ∀ a' U, s.WarmedH U.vm → (Cond.initialized y.cls).before a' U = true) :
    vx_Back l R p e below s sargs y len W9 (PreOf R mc ms Pc) (PostOf Qc mc ms free) (vx_Post XC mc ms free) := by
  intro m meth c A g ig mk a X hg hsize hdg hW hn hp
  have h1 : (headSpec ws rm).pre.before a A.U = true := atoms_intro fun w hw => hws w hw _ _ X.warmed
  have h2 : (Cond.code y bytes maxL ret).before a A.U = true := hws _ hcode _ _ X.warmed
  have h3 : (Cond.initialized y.cls).before a A.U = true := hinit _ _ X.warmed
  have h4 : A.cells + (headSpec ws rm).room.cells ≤ R.cells := by rw [show (headSpec ws rm).room.cells = mc from hrc]; exact hp.1
  have h5 : A.slots + (headSpec ws rm).room.slots ≤ R.slots := by rw [show (headSpec ws rm).room.slots = ms from hrs]; exact hp.2.1
  have hPc : Pc a (A.U.calling g mk a) := hblind _ _ _ _ hp.2.2
  obtain ⟨U, Ls, c0, s0⟩ := A
  dsimp only [Pt.U, Pt.locs, Pt.cells, Pt.slots] at h1 h2 h3 h4 h5 X hn hPc ⊢
  obtain ⟨methY, cY, hmY, hcY, -, hlY, -, -, -, -⟩ := Cond.code_spec hn h2
  obtain ⟨kY, hkY, -⟩ := className_of_methodNamed hn
  have hinitY : kY.init = .initialized := Cond.initialized_spec (findClass_of_methodNamed hn) hkY h3
  have h : At U g.method c below := by rw [hg]; exact X.here
  have hlocals9 : W9 + (maxL + 11) + (headSpec ws rm).room.locals ≤ R.locals := hlocals
  have happ : (headSpec ws rm).appliesLoose y e.platform (U.calling g mk a) = true :=
    Spec.appliesLoose_calling (g := g) h hdg hn hkY hinitY
      (X.room_calling (g := g) (R' := (headSpec ws rm).room) hsize hmY hcY hframes (by rw [hlY]; omega) h4 h5) h1
  obtain ⟨mid, hmid⟩ := h.above
  have hfr : (U.setTop g).frames = (.java g :: mid) ++ below := by rw [State.frames_setTop' g h.top, hmid]; rfl
  obtain ⟨o, s₂, hsteps, -, hend, hq⟩ := Steps.callFree hM p X.admits X.cas X.clock (acts := []) hfr happ hPc trivial
  have hq' : vx_Q Qc XC mc ms free a (U.calling g mk a) o s₂ := hq
  rw [State.frames_setTop' g h.top] at hend
  obtain ⟨g₀, hg0⟩ := Option.isSome_iff_exists.mp h.top
  obtain ⟨r, hr⟩ := State.topJava?_eq_some.mp hg0
  have hr' : (({ U with heap := s₂.heap, slotsUsed := s₂.slotsUsed } : State).setVm s₂.vm).frames = .java g₀ :: r := hr
  rcases hq' with ⟨hqc, L, hfe, hL⟩ | ⟨q, rfl, E, ce, L, hx, hce, hcv, hcl, hW₂, hsm, hL⟩
  · obtain ⟨⟨v, rfl⟩, hW₂, e2, q2, q3, q4, q5, q6⟩ := id hfe
    have e3 : s₂ = ({ (U.calling g mk a).setFrames s₂.frames with heap := s₂.heap, slotsUsed := s₂.slotsUsed } : State).setVm s₂.vm := by
      have : s₂ = ({ s₂ with vm := (U.calling g mk a).vm } : State).setVm s₂.vm := rfl
      rw [e2] at this
      exact this
    obtain ⟨c₂, i₂, len₂, hc₂, hd₂, hf₂⟩ := hend
    have hW' : U.WarmedH s₂.vm := hW₂
    have hcc : c₂ = c := by
      have h1 : s₂.code? g.method = U.code? g.method := by
        rw [State.code?_eq, State.code?_eq, hW'.alike.method?]
      exact Option.some.inj (hc₂.symm.trans (h1.trans h.code))
    subst hcc
    have hlen : len₂ = len := by rw [hdg] at hd₂; cases hd₂; rfl
    subst hlen
    have hs₂ : s₂ = (({ U with heap := s₂.heap, slotsUsed := s₂.slotsUsed } : State).setVm s₂.vm).setTop { g with pc := g.pc + len₂, stack := v.toList ++ g.stack } := by
      refine e3.trans ?_
      rw [hf₂, State.calling_eq h.top, State.setFrames_setFrames, State.setTop_of_frames _ hr', hr]
      rfl
    have hsame : U.sameButNew ({ U with heap := s₂.heap, slotsUsed := s₂.slotsUsed } : State) L mc ms := by
      refine ⟨?_, q2, q3, q4, q5, q6⟩
      obtain ⟨t, ht, -⟩ := State.frames_cons hr
      show ({ U with heap := s₂.heap, slotsUsed := s₂.slotsUsed } : State) = { U.setFrames U.frames with heap := s₂.heap, slotsUsed := s₂.slotsUsed }
      rw [State.setFrames_self ht]
    subst hg
    refine Or.inl ⟨v, ⟨(({ U with heap := s₂.heap, slotsUsed := s₂.slotsUsed } : State).setVm s₂.vm), Ls ++ L, c0 + mc, s0 + ms⟩,
      ⟨X.admits, X.cas, X.clock, X.frames, X.room, X.hears, X.method, X.code, (X.here.setHeapUsed s₂.heap s₂.slotsUsed).setVm hW'.alike, X.tail, State.WarmedH.trans X.warmed hW', X.limits, X.bytes, X.same.trans (hsame.setVm s.vm)⟩,
      ⟨g, mk, s₂, L, rfl, rfl, hqc, rfl, hL, rfl, rfl⟩, ?_⟩
    show Steps p.tables e below _ ((({ U with heap := s₂.heap, slotsUsed := s₂.slotsUsed } : State).setVm s₂.vm).setTop { g with pc := g.pc + len₂, stack := v.toList ++ g.stack })
    rw [← hs₂]
    exact hsteps
  · obtain ⟨e2, q2, q3, q4, q5, q6⟩ := id hsm
    have e3 : s₂ = ({ (U.calling g mk a).setFrames s₂.frames with heap := s₂.heap, slotsUsed := s₂.slotsUsed } : State).setVm s₂.vm := by
      have : s₂ = ({ s₂ with vm := (U.calling g mk a).vm } : State).setVm s₂.vm := rfl
      rw [e2] at this
      exact this
    have hf₂ : s₂.frames = .throwing q :: .java g :: U.frames.tail := hend
    have hW' : U.WarmedH s₂.vm := hW₂
    have hs₂ : s₂ = ((({ U with heap := s₂.heap, slotsUsed := s₂.slotsUsed } : State).setVm s₂.vm).setTop g).pushFrame (.throwing q) := by
      refine e3.trans ?_
      rw [hf₂, State.calling_eq h.top, State.setFrames_setFrames, State.pushFrame, State.frames_setTop _ hr', State.setTop_of_frames _ hr', State.setFrames_setFrames, hr]
      rfl
    have hsame : U.sameButNew ({ U with heap := s₂.heap, slotsUsed := s₂.slotsUsed } : State) L mc ms := by
      refine ⟨?_, q2, q3, q4, q5, q6⟩
      obtain ⟨t, ht, -⟩ := State.frames_cons hr
      show ({ U with heap := s₂.heap, slotsUsed := s₂.slotsUsed } : State) = { U.setFrames U.frames with heap := s₂.heap, slotsUsed := s₂.slotsUsed }
      rw [State.setFrames_self ht]
    subst hg
    refine Or.inr ⟨q, ⟨(({ U with heap := s₂.heap, slotsUsed := s₂.slotsUsed } : State).setVm s₂.vm), Ls ++ L, c0 + mc, s0 + ms⟩,
      ⟨X.admits, X.cas, X.clock, X.frames, X.room, X.hears, X.method, X.code, (X.here.setHeapUsed s₂.heap s₂.slotsUsed).setVm hW'.alike, X.tail, State.WarmedH.trans X.warmed hW', X.limits, X.bytes, X.same.trans (hsame.setVm s.vm)⟩,
      ⟨g, mk, s₂, L, E, ce, rfl, rfl, hx, hce, hcv, hcl, rfl, hL, rfl, rfl⟩, ?_⟩
    show Steps p.tables e below _ (((({ U with heap := s₂.heap, slotsUsed := s₂.slotsUsed } : State).setVm s₂.vm).setTop g).pushFrame (.throwing q))
    rw [← hs₂]
    exact hsteps
end Payer
section Calls
variable {p : Program} {l : Launch} {e : Env} {R : Room} {s : State} {m : MethodId} {args : Array Value} {below : List Frame} {meth : Method} {c : Code} {T : State} {locs : List Loc} {cells slots : Nat}
theorem vx_callV (X : Stand p l e R s m args below meth c T locs cells slots) (hexec : p.tables.exec = Jvm.exec) {own C : String} {index : Nat} {y : MethodName} {bytes : ByteArray} {maxL : Nat} {ret : Option FieldType}
    (hown : s.vm.findClass own = some m.cls) (hlink : (Cond.methodLink own index y).before args s = true) (hinst : (Cond.instanceMethod y).before args s = true) (hsel : (Cond.selects C y y).before args s = true)
    (hcode : (Cond.code y bytes maxL ret).before args s = true) (hy : y.cls ≠ "java/lang/invoke/MethodHandle" ∧ y.cls ≠ "java/lang/invoke/VarHandle")
    {W9 : Nat} {Pre : Pt → Array Value → Prop} {Post : Pt → Array Value → Option Value → Pt → Prop} {PostX : Pt → Array Value → Addr → Pt → Prop} (hK : vx_Back l R p e below s args y 3 W9 Pre Post PostX)
    {b : Addr} {cellB : Cell} (hcell : T.heap[b]? = some cellB) (hobj : cellB.vm.isStatics = false) (hcls : s.vm.findClass C = some cellB.cls)
    {g : JFrame} (hg : g.method = m) (hsize : g.locals.size = c.maxLocals) {argsL rest : List Value} (hlen : ∀ sig, parseMethodDescriptor y.desc = some sig → argsL.length = sig.parameters.length)
    (hstack : g.stack = argsL.reverse ++ .ref b :: rest) (hW : 2 * g.monitorRoom + (rest.map fun v => v.category).sum ≤ W9) (hdg : decode c.code g.pc = .ok (.invokevirtual index, 3))
    (hpre : ∀ vm₁, s.WarmedH vm₁ → Pre ⟨T.setVm vm₁, locs, cells, slots⟩ (Value.ref b :: argsL).toArray) :
    (∃ (v : Option Value) (vm₁ : Vm) (B : Pt), s.WarmedH vm₁ ∧ Stand p l e R s m args below meth c B.U B.locs B.cells B.slots ∧ Post ⟨T.setVm vm₁, locs, cells, slots⟩ (Value.ref b :: argsL).toArray v B ∧
      ∀ target, Steps p.tables e below (B.U.setTop { g with pc := g.pc + 3, stack := v.toList ++ rest }) target → Steps p.tables e below (T.setTop g) target) ∨
    (∃ (q : Addr) (vm₁ : Vm) (B : Pt), s.WarmedH vm₁ ∧ Stand p l e R s m args below meth c B.U B.locs B.cells B.slots ∧ PostX ⟨T.setVm vm₁, locs, cells, slots⟩ (Value.ref b :: argsL).toArray q B ∧
      Steps p.tables e below (T.setTop g) ((B.U.setTop { g with stack := rest }).pushFrame (.throwing q))) := by
  obtain ⟨mk, methM, hnamed, hmethM, hstM, habM⟩ := Cond.instanceMethod_spec hinst
  obtain ⟨methM', cM, hmethM', -, -, -, -, -, -, hsigM⟩ := Cond.code_spec hnamed hcode
  cases hmethM.symm.trans hmethM'
  obtain ⟨c2, r2, m2, q1, q2, q3, q4, kP, hkP, hkPi⟩ := Cond.selects_spec hsel
  cases hcls.symm.trans q1
  cases (State.methodFound?_of_named hnamed hy).symm.trans q2
  cases hnamed.symm.trans q3
  have hselP : selectMethod e.platform s.vm cellB.cls mk = .method mk := by rw [Launch.admits_selectMethod X.admits]; exact q4
  obtain ⟨vm₁, X₁, hstep₁⟩ := X.invokevirtual hexec hown hlink hnamed hmethM hstM hkP hkPi hy (a := b) (cell := cellB) hcell
    (fun z h => by rw [h] at hobj; cases hobj) hselP hmethM habM hkP hkPi (g := g) hg (argsL := argsL) (rest := rest) (hlen _ hsigM) hstack hdg
  rcases hK m meth c ⟨T.setVm vm₁, locs, cells, slots⟩ { g with stack := rest } (.invokevirtual index) mk (Value.ref b :: argsL).toArray X₁ hg hsize hdg hW (X₁.named hnamed) (hpre vm₁ X₁.warmed) with ⟨v, B, X', hpost, hsteps⟩ | ⟨q, B, X', hpost, hsteps⟩
  · exact Or.inl ⟨v, vm₁, B, X₁.warmed, X', hpost, fun target h => hstep₁ _ fun acts => by rw [doInvoke_state]; exact hsteps.trans h⟩
  · exact Or.inr ⟨q, vm₁, B, X₁.warmed, X', hpost, hstep₁ _ fun acts => by rw [doInvoke_state]; exact hsteps⟩
theorem vx_callS (X : Stand p l e R s m args below meth c T locs cells slots) (hexec : p.tables.exec = Jvm.exec) {own : String} {index : Nat} {y : MethodName} {bytes : ByteArray} {maxL : Nat} {ret : Option FieldType}
    (hown : s.vm.findClass own = some m.cls) (hlink : (Cond.methodLink own index y).before args s = true) (hstat : (Cond.static y).before args s = true) (hinit : (Cond.initialized y.cls).before args s = true)
    (hcode : (Cond.code y bytes maxL ret).before args s = true) (hy : y.cls ≠ "java/lang/invoke/MethodHandle" ∧ y.cls ≠ "java/lang/invoke/VarHandle")
    {W9 : Nat} {Pre : Pt → Array Value → Prop} {Post : Pt → Array Value → Option Value → Pt → Prop} {PostX : Pt → Array Value → Addr → Pt → Prop} (hK : vx_Back l R p e below s args y 3 W9 Pre Post PostX)
    {g : JFrame} (hg : g.method = m) (hsize : g.locals.size = c.maxLocals) {argsL rest : List Value} (hlen : ∀ sig, parseMethodDescriptor y.desc = some sig → argsL.length = sig.parameters.length)
    (hstack : g.stack = argsL.reverse ++ rest) (hW : 2 * g.monitorRoom + (rest.map fun v => v.category).sum ≤ W9) (hdg : decode c.code g.pc = .ok (.invokestatic index, 3))
    (hpre : ∀ vm₁, s.WarmedH vm₁ → Pre ⟨T.setVm vm₁, locs, cells, slots⟩ argsL.toArray) :
    (∃ (v : Option Value) (vm₁ : Vm) (B : Pt), s.WarmedH vm₁ ∧ Stand p l e R s m args below meth c B.U B.locs B.cells B.slots ∧ Post ⟨T.setVm vm₁, locs, cells, slots⟩ argsL.toArray v B ∧
      ∀ target, Steps p.tables e below (B.U.setTop { g with pc := g.pc + 3, stack := v.toList ++ rest }) target → Steps p.tables e below (T.setTop g) target) ∨
    (∃ (q : Addr) (vm₁ : Vm) (B : Pt), s.WarmedH vm₁ ∧ Stand p l e R s m args below meth c B.U B.locs B.cells B.slots ∧ PostX ⟨T.setVm vm₁, locs, cells, slots⟩ argsL.toArray q B ∧
      Steps p.tables e below (T.setTop g) ((B.U.setTop { g with stack := rest }).pushFrame (.throwing q))) := by
  obtain ⟨mk, hnamed⟩ := Cond.code_named hcode
  obtain ⟨methM, cM, hmethM, -, -, -, -, -, -, hsigM⟩ := Cond.code_spec hnamed hcode
  have hstatic : methM.isStatic = true := Cond.static_spec hnamed hmethM hstat
  obtain ⟨kP, hkP, -⟩ := className_of_methodNamed hnamed
  have hinitP : kP.init = .initialized := Cond.initialized_spec (findClass_of_methodNamed hnamed) hkP hinit
  obtain ⟨vm₁, X₁, hstep₁⟩ := X.invokestatic hexec hown hlink hnamed hmethM hstatic hkP hinitP hy (g := g) hg (argsL := argsL) (rest := rest) (hlen _ hsigM) hstack hdg
  rcases hK m meth c ⟨T.setVm vm₁, locs, cells, slots⟩ { g with stack := rest } (.invokestatic index) mk argsL.toArray X₁ hg hsize hdg hW (X₁.named hnamed) (hpre vm₁ X₁.warmed) with ⟨v, B, X', hpost, hsteps⟩ | ⟨q, B, X', hpost, hsteps⟩
  · exact Or.inl ⟨v, vm₁, B, X₁.warmed, X', hpost, fun target h => hstep₁ _ fun acts => by rw [doInvoke_state]; exact hsteps.trans h⟩
  · exact Or.inr ⟨q, vm₁, B, X₁.warmed, X', hpost, hstep₁ _ fun acts => by rw [doInvoke_state]; exact hsteps⟩
end Calls
theorem vx_cls {s : State} {T : State} {vm₁ : Vm} {E : String} {k : ClassId} (hW : s.WarmedH vm₁) (h : (T.setVm vm₁).vm.findClass E = some k) : s.vm.findClass E = some k := by
  have h1 : vm₁.findClass E = some k := h
  rw [hW.alike.findClass] at h1
  exact h1
/-- the method's frame g, with q thrown over it -/
def vx_W (p : Program) (l : Launch) (e : Env) (R : Room) (s : State) (m : MethodId) (args : Array Value) (below : List Frame) (meth : Method) (c : Code) (H : Heap) (locs : List Loc) (cells slots : Nat) (Q : State → Prop) (g : JFrame) (q : Addr) : Prop :=
  ∀ T : State, T.heap = H → Stand p l e R s m args below meth c T locs cells slots → ∃ t, Steps p.tables e below ((T.setTop g).pushFrame (.throwing q)) t ∧ Q t
def vx_Run (p : Program) (l : Launch) (e : Env) (R : Room) (s : State) (m : MethodId) (args : Array Value) (below : List Frame) (meth : Method) (c : Code) (H : Heap) (locs : List Loc) (cells slots mc ms : Nat) (g : JFrame) (rest : List Value) (Qa : State → Outcome → State → Prop) (XC : String → State → State → Prop) (free : Addr → Prop) : Prop :=
  ∀ T : State, T.heap = H → Stand p l e R s m args below meth c T locs cells slots →
    (∃ (v : Option Value) (st₀ t T' : State) (L : List Loc), st₀.heap = H ∧ Stand p l e R s m args below meth c T' (locs ++ L) (cells + mc) (slots + ms) ∧ (∀ q ∈ L, free q.base) ∧ T'.heap = t.heap ∧ T'.vm = t.vm ∧ Qa st₀ (.returned v) t ∧
      Goes p e below T g T' { g with pc := g.pc + 3, stack := v.toList ++ rest }) ∨
    (∃ (q : Addr) (st₀ t T' : State) (L : List Loc) (E : String) (ce : Cell), st₀.heap = H ∧ Stand p l e R s m args below meth c T' (locs ++ L) (cells + mc) (slots + ms) ∧ (∀ z ∈ L, free z.base) ∧ T'.heap = t.heap ∧ T'.vm = t.vm ∧ XC E st₀ t ∧ t.heap[q]? = some ce ∧ ce.vm = .none ∧ s.vm.findClass E = some ce.cls ∧
      Steps p.tables e below (T.setTop g) ((T'.setTop { g with stack := rest }).pushFrame (.throwing q)))
def vx_X {S : Type} (px : S → Prop) (B : String → S → State → Prop) (A : Nat → Prop) : String → State → State → Prop := fun E st t => ∃ u : S, px u ∧ B E u t ∧ va_F A st t
section Runs
variable {p : Program} {l : Launch} {e : Env} {R : Room} {s : State} {m : MethodId} {args : Array Value} {below : List Frame} {meth : Method} {c : Code} {H : Heap} {locs : List Loc} {cells slots : Nat}
variable {y : MethodName} {bytes cc : ByteArray} {maxL nL mc ms n index : Nat} {ret : Option FieldType} {ws : List Cond} {rm : Room} {Pc : Array Value → State → Prop} {Qc : Array Value → State → Outcome → State → Prop} {XC : String → State → State → Prop} {free : Addr → Prop} {Ts : List Cond} {own C : String} {b : Addr} {As rest : List Value} {g : JFrame}
theorem vx_callBack (cb : CallB R s args own index y bytes maxL ret ws rm mc ms n) (hM : vx_Met l y ws rm Pc Qc XC mc ms free) (hbl : FrameBlind Pc) : vx_Back l R p e below s args y 3 8 (PreOf R mc ms Pc) (PostOf Qc mc ms free) (vx_Post XC mc ms free) := by
  obtain ⟨hrc, hrs, hfr, hlo, hws, hcw, -, hini, -⟩ := cb
  exact vx_back (bytes := bytes) (maxL := maxL) (ret := ret) hM hbl hrc hrs hfr hlo hws hcw (fun a' U hW => word_at hW (Or.inl (by first | rfl | simp [Cond.onTables, Cond.keeps, Cond.steady])) hini)
theorem vx_runV (S : CallFix p m c cc nL s args Ts own) (hM : vx_Met l y ws rm Pc Qc XC mc ms free) (cw : CallW R s args own C index y bytes maxL ret ws rm mc ms n) (hp : PreV s H C b Pc As)
    (hg : g.method = m) (hn : As.length = n) (hsize : g.locals.size = nL) (hstack : g.stack = As.reverse ++ .ref b :: rest) (hW : 2 * g.monitorRoom + (rest.map fun v => v.category).sum ≤ 8) (hdg : decode cc g.pc = .ok (.invokevirtual index, 3)) (hf : cells + mc ≤ R.cells ∧ slots + ms ≤ R.slots) :
    vx_Run p l e R s m args below meth c H locs cells slots mc ms g rest (Qc (Value.ref b :: As).toArray) XC free := by
  have hK : vx_Back l R p e below s args y 3 8 (PreOf R mc ms Pc) (PostOf Qc mc ms free) (vx_Post XC mc ms free) := vx_callBack cw.1 hM hp.1
  obtain ⟨⟨-, -, -, -, -, -, hcode, -, hy, hlen, hl⟩, hin, hse⟩ := cw
  obtain ⟨hx, hb, hml, ho, -⟩ := S
  obtain ⟨-, ⟨cellB, hcB, hoB, hclB⟩, hPc⟩ := hp
  intro T hT X
  rcases vx_callV X hx (C := C) (bytes := bytes) (maxL := maxL) (ret := ret) ho hl hin hse hcode hy hK (by rw [hT]; exact hcB) hoB hclB hg (hsize.trans hml.symm) (argsL := As) (rest := rest) (fun sig h => hn.trans (hlen sig h)) hstack hW (by rw [hb]; exact hdg)
    (fun vm₁ hW₁ => ⟨hf.1, hf.2, hPc (T.setVm vm₁) hT hW₁⟩) with ⟨v, vm₁, ⟨U', l2, c2, s2⟩, hW₁, X', ⟨g', mk, t, L, e1, e2, hq, h1, hL, h2, h3⟩, st⟩ | ⟨q, vm₁, ⟨U', l2, c2, s2⟩, hW₁, X', ⟨g', mk, t, L, E, ce, e1, e2, hq, hce, hcv, hcl, h1, hL, h2, h3⟩, st⟩
  · dsimp only [Pt.U, Pt.locs, Pt.cells, Pt.slots] at X' e1 e2 h1 h2 h3 st
    subst h1; subst h2; subst h3
    exact Or.inl ⟨v, (T.setVm vm₁).calling g' mk (Value.ref b :: As).toArray, t, U', L, hT, X', hL, e1, e2, hq, st⟩
  · dsimp only [Pt.U, Pt.locs, Pt.cells, Pt.slots] at X' e1 e2 h1 h2 h3 st hcl
    subst h1; subst h2; subst h3
    exact Or.inr ⟨q, (T.setVm vm₁).calling g' mk (Value.ref b :: As).toArray, t, U', L, E, ce, hT, X', hL, e1, e2, hq, hce, hcv, vx_cls hW₁ hcl, st⟩
theorem vx_runS (S : CallFix p m c cc nL s args Ts own) (hM : vx_Met l y ws rm Pc Qc XC mc ms free) (cw : CallB R s args own index y bytes maxL ret ws rm mc ms n ∧ (Cond.static y).before args s = true) (hp : PreS s H Pc As)
    (hg : g.method = m) (hn : As.length = n) (hsize : g.locals.size = nL) (hstack : g.stack = As.reverse ++ rest) (hW : 2 * g.monitorRoom + (rest.map fun v => v.category).sum ≤ 8) (hdg : decode cc g.pc = .ok (.invokestatic index, 3)) (hf : cells + mc ≤ R.cells ∧ slots + ms ≤ R.slots) :
    vx_Run p l e R s m args below meth c H locs cells slots mc ms g rest (Qc As.toArray) XC free := by
  have hK : vx_Back l R p e below s args y 3 8 (PreOf R mc ms Pc) (PostOf Qc mc ms free) (vx_Post XC mc ms free) := vx_callBack cw.1 hM hp.1
  obtain ⟨⟨-, -, -, -, -, -, hcode, hini, hy, hlen, hl⟩, hstt⟩ := cw
  obtain ⟨hx, hb, hml, ho, -⟩ := S
  intro T hT X
  rcases vx_callS X hx (bytes := bytes) (maxL := maxL) (ret := ret) ho hl hstt hini hcode hy hK hg (hsize.trans hml.symm) (argsL := As) (rest := rest) (fun sig h => hn.trans (hlen sig h)) hstack hW (by rw [hb]; exact hdg)
    (fun vm₁ hW₁ => ⟨hf.1, hf.2, hp.2 (T.setVm vm₁) hT hW₁⟩) with ⟨v, vm₁, ⟨U', l2, c2, s2⟩, hW₁, X', ⟨g', mk, t, L, e1, e2, hq, h1, hL, h2, h3⟩, st⟩ | ⟨q, vm₁, ⟨U', l2, c2, s2⟩, hW₁, X', ⟨g', mk, t, L, E, ce, e1, e2, hq, hce, hcv, hcl, h1, hL, h2, h3⟩, st⟩
  · dsimp only [Pt.U, Pt.locs, Pt.cells, Pt.slots] at X' e1 e2 h1 h2 h3 st
    subst h1; subst h2; subst h3
    exact Or.inl ⟨v, (T.setVm vm₁).calling g' mk As.toArray, t, U', L, hT, X', hL, e1, e2, hq, st⟩
  · dsimp only [Pt.U, Pt.locs, Pt.cells, Pt.slots] at X' e1 e2 h1 h2 h3 st hcl
    subst h1; subst h2; subst h3
    exact Or.inr ⟨q, (T.setVm vm₁).calling g' mk As.toArray, t, U', L, E, ce, hT, X', hL, e1, e2, hq, hce, hcv, vx_cls hW₁ hcl, st⟩
end Runs
section Rows
variable {p : Program} {l : Launch} {e : Env} {R : Room} {s : State} {m : MethodId} {args : Array Value} {below : List Frame} {meth : Method} {c : Code} {H : Heap} {locs : List Loc} {cells slots : Nat} {Q : State → Prop}
variable {mc ms : Nat} {free : Addr → Prop} {A0 A1 : Nat → Prop} {H0 : Heap} {a : Array Value} {pc : Nat} {ls : Array Slot} {st0 rest : List Value}
theorem vx_keep {st₀ t T' : State} {L : List Loc} (h0 : st₀.heap = H) (e1 : T'.heap = t.heap) (hS : va_S A0 H0 H locs) (hA : ∀ q, q < H.size → A1 q → A0 q) (hf : ∀ q, free q → A0 q) (hL : ∀ q ∈ L, free q.base) (hF : va_F A1 st₀ t) :
    H.size ≤ T'.heap.size ∧ (∀ q : Nat, q < H.size → ¬ A1 q → T'.heap[q]? = H[q]?) ∧ va_S A0 H0 T'.heap (locs ++ L) := by
  obtain ⟨hz, hk⟩ := hF
  rw [h0] at hz hk
  exact ⟨by rw [e1]; exact hz, fun q h1 h2 => by rw [e1]; exact hk q h1 h2,
    ⟨Nat.le_trans hS.1 (by rw [e1]; exact hz), fun q h1 h2 => by rw [e1, hk q (Nat.lt_of_lt_of_le h1 hS.1) (fun z => h2 (hA q (Nat.lt_of_lt_of_le h1 hS.1) z))]; exact hS.2.1 q h1 h2, fun q hq => by
      rcases List.mem_append.mp hq with h | h
      · exact hS.2.2 q h
      · exact hf _ (hL q h)⟩⟩
theorem vx_calli {S SX : Type} {post : Int32 → S → Prop} {px : SX → Prop} {B : S → State → Prop} {BX : String → SX → State → Prop} {AX : Nat → Prop} (hr : vx_Run p l e R s m args below meth c H locs cells slots mc ms (F0 m pc ls st0) rest (va_Qi post B A1 a) (vx_X px BX AX) free) (hS : va_S A0 H0 H locs) (hA : ∀ q, q < H.size → A1 q → A0 q) (hf : ∀ q, free q → A0 q) (hAX : ∀ q, q < H.size → AX q → A0 q)
    (kx : ∀ (E : String) (ce : Cell) (q9 : Addr) (u : SX) (t : State) (H1 : Heap) (locs1 : List Loc), t.heap = H1 → s.vm.Alike t.vm → px u → BX E u t → H.size ≤ H1.size → (∀ q : Nat, q < H.size → ¬ AX q → H1[q]? = H[q]?) → va_S A0 H0 H1 locs1 → H1[q9]? = some ce → ce.vm = .none → s.vm.findClass E = some ce.cls → vx_W p l e R s m args below meth c H1 locs1 (cells + mc) (slots + ms) Q (F0 m pc ls rest) q9)
    (kk : ∀ (r : Int32) (u : S) (t : State) (H1 : Heap) (locs1 : List Loc), t.heap = H1 → s.vm.Alike t.vm → post r u → B u t → H.size ≤ H1.size → (∀ q : Nat, q < H.size → ¬ A1 q → H1[q]? = H[q]?) → va_S A0 H0 H1 locs1 → W p l e R s m args below meth c H1 locs1 (cells + mc) (slots + ms) Q (F0 m (pc + 3) ls (.int r :: rest))) : W p l e R s m args below meth c H locs cells slots Q (F0 m pc ls st0) := by
  intro T hT X
  rcases hr T hT X with ⟨v, st₀, t, T', L, h0, X', hL, e1, e2, ⟨⟨r, u, hv, hp, hb⟩, hF⟩, st⟩ | ⟨q, st₀, t, T', L, E, ce, h0, X', hL, e1, e2, ⟨u, hp, hb, hF⟩, hce, hcv, hcl, st⟩
  · cases hv
    obtain ⟨k1, k2, k3⟩ := vx_keep h0 e1 hS hA hf hL hF
    obtain ⟨t2, a1, b1⟩ := kk r u t T'.heap (locs ++ L) e1.symm (by rw [← e2]; exact X'.warmed.alike) hp hb k1 k2 k3 T' rfl X'
    exact ⟨t2, st t2 a1, b1⟩
  · obtain ⟨k1, k2, k3⟩ := vx_keep h0 e1 hS hAX hf hL hF
    obtain ⟨t2, a1, b1⟩ := kx E ce q u t T'.heap (locs ++ L) e1.symm (by rw [← e2]; exact X'.warmed.alike) hp hb k1 k2 k3 (by rw [e1]; exact hce) hcv hcl T' rfl X'
    exact ⟨t2, st.trans a1, b1⟩
theorem vx_calll {S SX : Type} {post : Int64 → S → Prop} {px : SX → Prop} {B : S → State → Prop} {BX : String → SX → State → Prop} {AX : Nat → Prop} (hr : vx_Run p l e R s m args below meth c H locs cells slots mc ms (F0 m pc ls st0) rest (va_Ql post B A1 a) (vx_X px BX AX) free) (hS : va_S A0 H0 H locs) (hA : ∀ q, q < H.size → A1 q → A0 q) (hf : ∀ q, free q → A0 q) (hAX : ∀ q, q < H.size → AX q → A0 q)
    (kx : ∀ (E : String) (ce : Cell) (q9 : Addr) (u : SX) (t : State) (H1 : Heap) (locs1 : List Loc), t.heap = H1 → s.vm.Alike t.vm → px u → BX E u t → H.size ≤ H1.size → (∀ q : Nat, q < H.size → ¬ AX q → H1[q]? = H[q]?) → va_S A0 H0 H1 locs1 → H1[q9]? = some ce → ce.vm = .none → s.vm.findClass E = some ce.cls → vx_W p l e R s m args below meth c H1 locs1 (cells + mc) (slots + ms) Q (F0 m pc ls rest) q9)
    (kk : ∀ (r : Int64) (u : S) (t : State) (H1 : Heap) (locs1 : List Loc), t.heap = H1 → s.vm.Alike t.vm → post r u → B u t → H.size ≤ H1.size → (∀ q : Nat, q < H.size → ¬ A1 q → H1[q]? = H[q]?) → va_S A0 H0 H1 locs1 → W p l e R s m args below meth c H1 locs1 (cells + mc) (slots + ms) Q (F0 m (pc + 3) ls (.long r :: rest))) : W p l e R s m args below meth c H locs cells slots Q (F0 m pc ls st0) := by
  intro T hT X
  rcases hr T hT X with ⟨v, st₀, t, T', L, h0, X', hL, e1, e2, ⟨⟨r, u, hv, hp, hb⟩, hF⟩, st⟩ | ⟨q, st₀, t, T', L, E, ce, h0, X', hL, e1, e2, ⟨u, hp, hb, hF⟩, hce, hcv, hcl, st⟩
  · cases hv
    obtain ⟨k1, k2, k3⟩ := vx_keep h0 e1 hS hA hf hL hF
    obtain ⟨t2, a1, b1⟩ := kk r u t T'.heap (locs ++ L) e1.symm (by rw [← e2]; exact X'.warmed.alike) hp hb k1 k2 k3 T' rfl X'
    exact ⟨t2, st t2 a1, b1⟩
  · obtain ⟨k1, k2, k3⟩ := vx_keep h0 e1 hS hAX hf hL hF
    obtain ⟨t2, a1, b1⟩ := kx E ce q u t T'.heap (locs ++ L) e1.symm (by rw [← e2]; exact X'.warmed.alike) hp hb k1 k2 k3 (by rw [e1]; exact hce) hcv hcl T' rfl X'
    exact ⟨t2, st.trans a1, b1⟩
theorem vx_callf {S SX : Type} {post : UInt32 → S → Prop} {px : SX → Prop} {B : S → State → Prop} {BX : String → SX → State → Prop} {AX : Nat → Prop} (hr : vx_Run p l e R s m args below meth c H locs cells slots mc ms (F0 m pc ls st0) rest (va_Qf post B A1 a) (vx_X px BX AX) free) (hS : va_S A0 H0 H locs) (hA : ∀ q, q < H.size → A1 q → A0 q) (hf : ∀ q, free q → A0 q) (hAX : ∀ q, q < H.size → AX q → A0 q)
    (kx : ∀ (E : String) (ce : Cell) (q9 : Addr) (u : SX) (t : State) (H1 : Heap) (locs1 : List Loc), t.heap = H1 → s.vm.Alike t.vm → px u → BX E u t → H.size ≤ H1.size → (∀ q : Nat, q < H.size → ¬ AX q → H1[q]? = H[q]?) → va_S A0 H0 H1 locs1 → H1[q9]? = some ce → ce.vm = .none → s.vm.findClass E = some ce.cls → vx_W p l e R s m args below meth c H1 locs1 (cells + mc) (slots + ms) Q (F0 m pc ls rest) q9)
    (kk : ∀ (r : UInt32) (u : S) (t : State) (H1 : Heap) (locs1 : List Loc), t.heap = H1 → s.vm.Alike t.vm → post r u → B u t → H.size ≤ H1.size → (∀ q : Nat, q < H.size → ¬ A1 q → H1[q]? = H[q]?) → va_S A0 H0 H1 locs1 → W p l e R s m args below meth c H1 locs1 (cells + mc) (slots + ms) Q (F0 m (pc + 3) ls (.float r :: rest))) : W p l e R s m args below meth c H locs cells slots Q (F0 m pc ls st0) := by
  intro T hT X
  rcases hr T hT X with ⟨v, st₀, t, T', L, h0, X', hL, e1, e2, ⟨⟨r, u, hv, hp, hb⟩, hF⟩, st⟩ | ⟨q, st₀, t, T', L, E, ce, h0, X', hL, e1, e2, ⟨u, hp, hb, hF⟩, hce, hcv, hcl, st⟩
  · cases hv
    obtain ⟨k1, k2, k3⟩ := vx_keep h0 e1 hS hA hf hL hF
    obtain ⟨t2, a1, b1⟩ := kk r u t T'.heap (locs ++ L) e1.symm (by rw [← e2]; exact X'.warmed.alike) hp hb k1 k2 k3 T' rfl X'
    exact ⟨t2, st t2 a1, b1⟩
  · obtain ⟨k1, k2, k3⟩ := vx_keep h0 e1 hS hAX hf hL hF
    obtain ⟨t2, a1, b1⟩ := kx E ce q u t T'.heap (locs ++ L) e1.symm (by rw [← e2]; exact X'.warmed.alike) hp hb k1 k2 k3 (by rw [e1]; exact hce) hcv hcl T' rfl X'
    exact ⟨t2, st.trans a1, b1⟩
theorem vx_calld {S SX : Type} {post : UInt64 → S → Prop} {px : SX → Prop} {B : S → State → Prop} {BX : String → SX → State → Prop} {AX : Nat → Prop} (hr : vx_Run p l e R s m args below meth c H locs cells slots mc ms (F0 m pc ls st0) rest (va_Qd post B A1 a) (vx_X px BX AX) free) (hS : va_S A0 H0 H locs) (hA : ∀ q, q < H.size → A1 q → A0 q) (hf : ∀ q, free q → A0 q) (hAX : ∀ q, q < H.size → AX q → A0 q)
    (kx : ∀ (E : String) (ce : Cell) (q9 : Addr) (u : SX) (t : State) (H1 : Heap) (locs1 : List Loc), t.heap = H1 → s.vm.Alike t.vm → px u → BX E u t → H.size ≤ H1.size → (∀ q : Nat, q < H.size → ¬ AX q → H1[q]? = H[q]?) → va_S A0 H0 H1 locs1 → H1[q9]? = some ce → ce.vm = .none → s.vm.findClass E = some ce.cls → vx_W p l e R s m args below meth c H1 locs1 (cells + mc) (slots + ms) Q (F0 m pc ls rest) q9)
    (kk : ∀ (r : UInt64) (u : S) (t : State) (H1 : Heap) (locs1 : List Loc), t.heap = H1 → s.vm.Alike t.vm → post r u → B u t → H.size ≤ H1.size → (∀ q : Nat, q < H.size → ¬ A1 q → H1[q]? = H[q]?) → va_S A0 H0 H1 locs1 → W p l e R s m args below meth c H1 locs1 (cells + mc) (slots + ms) Q (F0 m (pc + 3) ls (.double r :: rest))) : W p l e R s m args below meth c H locs cells slots Q (F0 m pc ls st0) := by
  intro T hT X
  rcases hr T hT X with ⟨v, st₀, t, T', L, h0, X', hL, e1, e2, ⟨⟨r, u, hv, hp, hb⟩, hF⟩, st⟩ | ⟨q, st₀, t, T', L, E, ce, h0, X', hL, e1, e2, ⟨u, hp, hb, hF⟩, hce, hcv, hcl, st⟩
  · cases hv
    obtain ⟨k1, k2, k3⟩ := vx_keep h0 e1 hS hA hf hL hF
    obtain ⟨t2, a1, b1⟩ := kk r u t T'.heap (locs ++ L) e1.symm (by rw [← e2]; exact X'.warmed.alike) hp hb k1 k2 k3 T' rfl X'
    exact ⟨t2, st t2 a1, b1⟩
  · obtain ⟨k1, k2, k3⟩ := vx_keep h0 e1 hS hAX hf hL hF
    obtain ⟨t2, a1, b1⟩ := kx E ce q u t T'.heap (locs ++ L) e1.symm (by rw [← e2]; exact X'.warmed.alike) hp hb k1 k2 k3 (by rw [e1]; exact hce) hcv hcl T' rfl X'
    exact ⟨t2, st.trans a1, b1⟩
theorem vx_callv {S SX : Type} {post : S → Prop} {px : SX → Prop} {B : S → State → Prop} {BX : String → SX → State → Prop} {AX : Nat → Prop} (hr : vx_Run p l e R s m args below meth c H locs cells slots mc ms (F0 m pc ls st0) rest (va_Qv post B A1 a) (vx_X px BX AX) free) (hS : va_S A0 H0 H locs) (hA : ∀ q, q < H.size → A1 q → A0 q) (hf : ∀ q, free q → A0 q) (hAX : ∀ q, q < H.size → AX q → A0 q)
    (kx : ∀ (E : String) (ce : Cell) (q9 : Addr) (u : SX) (t : State) (H1 : Heap) (locs1 : List Loc), t.heap = H1 → s.vm.Alike t.vm → px u → BX E u t → H.size ≤ H1.size → (∀ q : Nat, q < H.size → ¬ AX q → H1[q]? = H[q]?) → va_S A0 H0 H1 locs1 → H1[q9]? = some ce → ce.vm = .none → s.vm.findClass E = some ce.cls → vx_W p l e R s m args below meth c H1 locs1 (cells + mc) (slots + ms) Q (F0 m pc ls rest) q9)
    (kk : ∀ (u : S) (t : State) (H1 : Heap) (locs1 : List Loc), t.heap = H1 → s.vm.Alike t.vm → post u → B u t → H.size ≤ H1.size → (∀ q : Nat, q < H.size → ¬ A1 q → H1[q]? = H[q]?) → va_S A0 H0 H1 locs1 → W p l e R s m args below meth c H1 locs1 (cells + mc) (slots + ms) Q (F0 m (pc + 3) ls (rest))) : W p l e R s m args below meth c H locs cells slots Q (F0 m pc ls st0) := by
  intro T hT X
  rcases hr T hT X with ⟨v, st₀, t, T', L, h0, X', hL, e1, e2, ⟨⟨u, hv, hp, hb⟩, hF⟩, st⟩ | ⟨q, st₀, t, T', L, E, ce, h0, X', hL, e1, e2, ⟨u, hp, hb, hF⟩, hce, hcv, hcl, st⟩
  · cases hv
    obtain ⟨k1, k2, k3⟩ := vx_keep h0 e1 hS hA hf hL hF
    obtain ⟨t2, a1, b1⟩ := kk u t T'.heap (locs ++ L) e1.symm (by rw [← e2]; exact X'.warmed.alike) hp hb k1 k2 k3 T' rfl X'
    exact ⟨t2, st t2 a1, b1⟩
  · obtain ⟨k1, k2, k3⟩ := vx_keep h0 e1 hS hAX hf hL hF
    obtain ⟨t2, a1, b1⟩ := kx E ce q u t T'.heap (locs ++ L) e1.symm (by rw [← e2]; exact X'.warmed.alike) hp hb k1 k2 k3 (by rw [e1]; exact hce) hcv hcl T' rfl X'
    exact ⟨t2, st.trans a1, b1⟩
/-- caught by the row x of this method's table; the rows ahead don't take it -/
theorem vx_catch {own name : String} {E : String} {ce : Cell} {q : Addr} (hown : s.vm.findClass own = some m.cls) (pre : List ExceptionTableEntry) (x : ExceptionTableEntry) (suf : List ExceptionTableEntry) (hsplit : c.exceptionTable.toList = pre ++ x :: suf)
    (hpass : ∀ z ∈ pre, covers z pc = false ∨ (z.catchType ≠ 0 ∧ ∃ nm : String, (Cond.classLink own z.catchType nm).before args s = true ∧ va_Nc E nm s)) (hx : covers x pc = true) (h0 : x.catchType ≠ 0)
    (hlink : (Cond.classLink own x.catchType name).before args s = true) (hcast : (Cond.castable E name).before args s = true) (hcell : H[q]? = some ce) (hv : ce.vm = .none) (hcl : s.vm.findClass E = some ce.cls)
    (kk : W p l e R s m args below meth c H locs cells slots Q (F0 m x.handlerPc ls [.ref q])) : vx_W p l e R s m args below meth c H locs cells slots Q (F0 m pc ls rest) q := by
  intro T hT X
  have hpl : e.platform.magicAccessors = ({} : Platform).magicAccessors := by rw [X.admits.platform]
  obtain ⟨c3, c4, hc3, hc4, hasg⟩ := Cond.castable_spec hcast
  cases Option.some.inj (hc3.symm.trans hcl)
  obtain ⟨c5, hc5, hcl5⟩ := Cond.classLink_spec hown hlink e.platform hpl
  cases Option.some.inj (hc4.symm.trans hc5)
  obtain ⟨vm', X', st⟩ := Stand.thenCaughtThrough X q (g := F0 m pc ls rest) rfl (Steps.refl _) (by rw [hT]; exact hcell) (by rw [hv]; rfl) (by obtain ⟨k9, h9, -⟩ := Vm.findClass_spec hcl; exact ⟨k9, h9⟩) pre x suf hsplit
    (fun z hz => by
      rcases hpass z hz with h | ⟨hz0, nm, hl1, hn1⟩
      · exact Or.inl h
      · obtain ⟨c6, hc6, hcl6⟩ := Cond.classLink_spec hown hl1 e.platform hpl
        obtain ⟨a8, b8, h1, h2, h3⟩ := hn1
        cases Option.some.inj (h1.symm.trans hcl)
        cases Option.some.inj (h2.symm.trans hc6)
        exact Or.inr ⟨hz0, _, hcl6, h3⟩) hx (Or.inr ⟨h0, c4, hcl5, hasg⟩)
  obtain ⟨t, a1, b1⟩ := kk (T.setVm vm') hT X'
  exact ⟨t, st.trans a1, b1⟩
end Rows
section Ends
variable {p : Program} {l : Launch} {e : Env} {R : Room} {s : State} {m : MethodId} {args : Array Value} {below : List Frame} {meth : Method} {c : Code} {H : Heap} {locs : List Loc} {cells slots : Nat} {Q : State → Prop}
variable {mc ms : Nat} {free : Addr → Prop} {A0 A1 : Nat → Prop} {H0 : Heap} {a : Array Value} {ls : Array Slot} {st0 rest : List Value}
variable {Qc : Array Value → State → Outcome → State → Prop} {XC : String → State → State → Prop}
/-- what a body that may throw owes at its end -/
def vx_MQ (below : List Frame) (Qc : Array Value → State → Outcome → State → Prop) (XC : String → State → State → Prop) (a : Array Value) (s : State) (mc ms : Nat) (free : Addr → Prop) : State → Prop := fun t =>
  ∃ o, t.status = .running ∧ Ended t below o ∧ vx_Q Qc XC mc ms free a s o t
theorem vx_ret {g : JFrame} {mc ms : Nat} (k : W p l e R s m args below meth c H locs cells slots (MQ below Qc args s mc ms free) g) : W p l e R s m args below meth c H locs cells slots (vx_MQ below Qc XC args s mc ms free) g := by
  intro T hT X
  obtain ⟨t, a1, o, b1, b2, b3, b4⟩ := k T hT X
  exact ⟨t, a1, o, b1, b2, Or.inl ⟨b3, b4⟩⟩
/-- not caught here: it goes on to the caller -/
theorem vx_widen {g : JFrame} {q : Addr} {k n : Nat} (h1 : cells ≤ k) (h2 : slots ≤ n) (kk : vx_W p l e R s m args below meth c H locs k n Q g q) : vx_W p l e R s m args below meth c H locs cells slots Q g q := fun T hT X => kk T hT (stand_widen X h1 h2)
theorem vx_out {pc : Nat} {E : String} {ce : Cell} {q : Addr} {mc ms : Nat} (hout : ∀ x ∈ c.exceptionTable.toList, covers x pc = false) (hlocks : meth.locks = false) (hcell : H[q]? = some ce) (hv : ce.vm = .none) (hcl : s.vm.findClass E = some ce.cls)
    (hx : ∀ t : State, t.heap = H → s.vm.Alike t.vm → XC E s t) (hf : ∀ z ∈ locs, free z.base) (hc : cells ≤ mc) (hs : slots ≤ ms) :
    vx_W p l e R s m args below meth c H locs cells slots (vx_MQ below Qc XC args s mc ms free) (F0 m pc ls rest) q := by
  intro T hT X
  obtain ⟨st1, hrun, hend, hW, hsm⟩ := X.leaveThrown q (g := F0 m pc ls rest) rfl rfl rfl hout hlocks
  have hcell9 : (T.setFrames (.throwing q :: below)).heap[q]? = some ce := by
    show T.heap[q]? = some ce
    rw [hT]; exact hcell
  exact ⟨_, st1, .threw q, hrun, hend, Or.inr ⟨q, rfl, E, ce, locs, hx _ hT hW.alike, hcell9, hv, hcl, hW, hsm.mono hc hs, hf⟩⟩
theorem vx_frame {U : State} {k n : Nat} (h : s.sameButNew ({ U with vm := s.vm } : State) locs k n) : s.heap.size ≤ U.heap.size ∧ ∀ q : Nat, q < s.heap.size → (∀ z ∈ locs, z.base ≠ q) → U.heap[q]? = s.heap[q]? := by
  obtain ⟨-, h2, -, -, -, h6⟩ := h
  refine ⟨h2, fun q hq hz => ?_⟩
  obtain ⟨c9, e1, e2, e3, e4⟩ := h6 q _ (Array.getElem?_eq_getElem hq)
  have hs : c9.slots = (s.heap[q]).slots := Array.ext_getElem? fun i => e4 i fun hm => hz _ hm rfl
  have h9 : c9 = s.heap[q] := by
    rw [hs] at e2
    exact e2
  have e5 : U.heap[q]? = some c9 := e1
  rw [e5, h9, Array.getElem?_eq_getElem hq]
/-- the words of a throw but the four that speak of the heap -/
def vx_no (w : Cond) : Bool := decide (w ≠ .isRef (.static Bundle.tN "UNASSIGNED_STACK" Bundle.steD)) && decide (w ≠ .isRef (.static Bundle.tN "SUPPRESSED_SENTINEL" Bundle.listD)) && decide (w ≠ .laysStatic Bundle.tN "UNASSIGNED_STACK" Bundle.steD) && decide (w ≠ .laysStatic Bundle.tN "SUPPRESSED_SENTINEL" Bundle.listD)
def vx_at0 (own : String) (ic : Nat) (X : String) (names : List String) : List Cond := (Bundle.ownAtoms0 own ic X names).filter vx_no
def vx_atS (own : String) (ic : Nat) (X : String) (names : List String) : List Cond := (Bundle.ownAtoms own ic X names).filter vx_no
/-- a word that the tables alone decide, or a good one -/
def vx_ot (w : Cond) : Bool := w.onTables || goodWord w
theorem vx_ot_at {args a' : Array Value} {s U : State} {w : Cond} (hW : s.WarmedH U.vm) (hvm : s.vm = U.vm) (hg : vx_ot w = true) (h : w.before args s = true) : w.before a' U = true := by
  simp only [vx_ot, Bool.or_eq_true] at hg
  rcases hg with hg | hg
  · exact va_tabs hg hvm h
  · exact word_at hW (good_of_word hg) h
/-- a list's words: the good ones out of the method's own list, the others by premises of their own -/
theorem vx_hat {args : Array Value} {s : State} {L B : List Cond} (h1 : ∀ w ∈ L.filter goodWord, w.before args s = true) (h2 : ∀ w ∈ L.filter (fun w => !goodWord w), w ∈ B) (h3 : ∀ w ∈ B, w.before args s = true) : ∀ w ∈ L, w.before args s = true := by
  intro w hw
  by_cases g : goodWord w = true
  · exact h1 w (List.mem_filter.mpr ⟨hw, g⟩)
  · refine h3 w (h2 w (List.mem_filter.mpr ⟨hw, ?_⟩))
    show (!goodWord w) = true
    cases hgw : goodWord w
    · rfl
    · exact absurd hgw g
theorem vx_c {args : Array Value} {s : State} {w : Cond} {B : List Cond} (h : w.before args s = true) (t : ∀ w ∈ B, w.before args s = true) : ∀ w' ∈ w :: B, w'.before args s = true := fun w' h' => (List.mem_cons.mp h').elim (fun e => by rw [e]; exact h) (t w')
theorem vx_n {args : Array Value} {s : State} : ∀ w ∈ ([] : List Cond), w.before args s = true := fun _ h => nomatch h
theorem vx_own {args : Array Value} {s : State} {L : List Cond} (h1 : ∀ w ∈ L.filter vx_no, w.before args s = true)
    (hU : (Cond.isRef (.static Bundle.tN "UNASSIGNED_STACK" Bundle.steD)).before args s = true) (hN : (Cond.isRef (.static Bundle.tN "SUPPRESSED_SENTINEL" Bundle.listD)).before args s = true)
    (lU : (Cond.laysStatic Bundle.tN "UNASSIGNED_STACK" Bundle.steD).before args s = true) (lN : (Cond.laysStatic Bundle.tN "SUPPRESSED_SENTINEL" Bundle.listD).before args s = true) : ∀ w ∈ L, w.before args s = true := by
  intro w hw
  by_cases e1 : w = .isRef (.static Bundle.tN "UNASSIGNED_STACK" Bundle.steD)
  · rw [e1]; exact hU
  · by_cases e2 : w = .isRef (.static Bundle.tN "SUPPRESSED_SENTINEL" Bundle.listD)
    · rw [e2]; exact hN
    · by_cases e3 : w = .laysStatic Bundle.tN "UNASSIGNED_STACK" Bundle.steD
      · rw [e3]; exact lU
      · by_cases e4 : w = .laysStatic Bundle.tN "SUPPRESSED_SENTINEL" Bundle.listD
        · rw [e4]; exact lN
        · exact h1 w (List.mem_filter.mpr ⟨hw, by unfold vx_no; rw [decide_eq_true e1, decide_eq_true e2, decide_eq_true e3, decide_eq_true e4]; rfl⟩)
/-- where a static field lies, its class's statics cell in H -/
def vx_L (C n d : String) (A : Nat → Prop) (U : State) (H : Heap) : Prop := ∃ (c : ClassId) (k : Class) (i : Nat) (f : Field) (a : Nat) (cell : Cell), U.vm.findClass C = some c ∧ U.fieldFound? C n d = some (c, k, i, f) ∧ f.isStatic = true ∧ k.statics = some a ∧ H[a]? = some cell ∧ cell.vm.isStatics = true ∧ cell.cls = c ∧ f.slot < cell.slots.size ∧ k.staticTypes[f.slot]? = some f.type ∧ ¬ A a
theorem vx_L.moved {C n d : String} {A : Nat → Prop} {u U : State} {H : Heap} (hvm : u.vm.Alike U.vm) (h : vx_L C n d A u H) : vx_L C n d A U H := by
  obtain ⟨c, k, i, f, a, cell, h1, h2, h3, h4, h5, h6, h7, h8, h9, h10⟩ := h
  obtain ⟨k', hi', he⟩ := State.fieldFound?_setVm hvm h2
  exact ⟨c, k', i, f, a, cell, by rw [hvm.findClass]; exact h1, hi', h3, by rw [he]; exact h4, h5, h6, h7, h8, by rw [he]; exact h9, h10⟩
theorem vx_L.kept {C n d : String} {A : Nat → Prop} {U : State} {H H1 : Heap} (h : vx_L C n d A U H) (hq : ∀ a : Nat, a < H.size → ¬ A a → H1[a]? = H[a]?) : vx_L C n d A U H1 := by
  obtain ⟨c, k, i, f, a, cell, h1, h2, h3, h4, h5, h6, h7, h8, h9, h10⟩ := h
  exact ⟨c, k, i, f, a, cell, h1, h2, h3, h4, by rw [hq a (Array.getElem?_eq_some_iff.mp h5).1 h10]; exact h5, h6, h7, h8, h9, h10⟩
theorem vx_L.narrow {C n d : String} {A B : Nat → Prop} {U : State} {H : Heap} (h : vx_L C n d A U H) (hAB : ∀ q, B q → A q) : vx_L C n d B U H := by
  obtain ⟨c, k, i, f, a, cell, h1, h2, h3, h4, h5, h6, h7, h8, h9, h10⟩ := h
  exact ⟨c, k, i, f, a, cell, h1, h2, h3, h4, h5, h6, h7, h8, h9, fun z => h10 (hAB _ z)⟩
theorem vx_L.word {C n d : String} {A : Nat → Prop} {s : State} {args : Array Value} (h : vx_L C n d A s s.heap) : (Cond.laysStatic C n d).before args s = true := by
  obtain ⟨c, k, i, f, a, cell, h1, h2, h3, h4, h5, h6, h7, h8, h9, -⟩ := h
  show (Cond.laysStatic C n d).holds args s none s [] = true
  exact Cond.laysStatic_of h1 h2 h3 h4 h5 h6 h7 h8 h9
/-- .. and what it holds: null or some reference -/
def vx_Zq (C n d : String) (A : Nat → Prop) (U : State) (H : Heap) : Prop := va_Zq C n d A U H ∧ vx_L C n d A U H
theorem vx_Zq.moved {C n d : String} {A : Nat → Prop} {u U : State} {H : Heap} (hvm : u.vm.Alike U.vm) (h : vx_Zq C n d A u H) : vx_Zq C n d A U H := ⟨va_Zq.moved hvm h.1, vx_L.moved hvm h.2⟩
theorem vx_Zq.kept {C n d : String} {A : Nat → Prop} {U : State} {H H1 : Heap} (h : vx_Zq C n d A U H) (hq : ∀ a : Nat, a < H.size → ¬ A a → H1[a]? = H[a]?) : vx_Zq C n d A U H1 := ⟨va_Zq.kept h.1 hq, vx_L.kept h.2 hq⟩
theorem vx_Zq.narrow {C n d : String} {A B : Nat → Prop} {U : State} {H : Heap} (h : vx_Zq C n d A U H) (hAB : ∀ q, B q → A q) : vx_Zq C n d B U H := ⟨va_Zq.narrow h.1 hAB, vx_L.narrow h.2 hAB⟩
theorem vx_Zqof {args : Array Value} {s : State} {C n d : String} {A : Nat → Prop} (hl : (Cond.laysStatic C n d).before args s = true) (hini : (Cond.initialized C).before args s = true) (h : (Cond.isRef (.static C n d)).before args s = true) (hA : ∀ a : Nat, a < s.heap.size → ¬ A a) : vx_Zq C n d A s s.heap := by
  refine ⟨va_Zqof hl hini h hA, ?_⟩
  obtain ⟨c, k, i, f, a, cell, h1, h2, h3, h4, h5, h6, h7, h8, h9⟩ := Cond.laysStatic_spec hl
  exact ⟨c, k, i, f, a, cell, h1, h2, h3, h4, h5, h6, h7, h8, h9, hA a (Array.getElem?_eq_some_iff.mp h5).1⟩
theorem vx_isRef {C n d : String} {v : Value} {A : Nat → Prop} {s : State} {args : Array Value} (h : va_Z C n d v A s s.heap) (hv : v.isRef = true) : (Cond.isRef (.static C n d)).before args s = true := by
  obtain ⟨cf, kf, fi, f, a, cell, h1, h2, h3, h4, h5, h6, h7, -⟩ := h
  have he : (Term.static C n d).eval args s none [] s = some v := by
    simp [Term.eval, State.fieldNamed?, h1, h2, h4, h5, h6, h7]
  simp only [Cond.before, Cond.holds, Cond.value, he]
  cases v <;> simp_all [Value.isRef]
theorem vx_isRefq {C n d : String} {A : Nat → Prop} {s : State} {args : Array Value} (h : va_Zq C n d A s s.heap) : (Cond.isRef (.static C n d)).before args s = true := by
  rcases h with h | ⟨t, h⟩
  · exact vx_isRef h rfl
  · exact vx_isRef h rfl
/-- the same frame, seen from here: as if the method were called anew in this heap -/
theorem vx_rebase {T : State} (X : Stand p l e R s m args below meth c T locs cells slots) {R' : Room} (hf : R'.frames ≤ R.frames) (hl : R'.locals ≤ R.locals) (hc : cells + R'.cells ≤ R.cells) (hs : slots + R'.slots ≤ R.slots) :
    Stand p l e R' ((T.setVm s.vm).setFrames (.invoking m args :: below)) m args below meth c T [] 0 0 := by
  have htop : (T.setVm s.vm).topJava?.isSome := X.here.top
  have hF : ((T.setVm s.vm).setFrames (.invoking m args :: below)).frames = .invoking m args :: below := State.frames_setFrames _ (State.cur_lt_of_top htop)
  obtain ⟨g₀, hg0⟩ := Option.isSome_iff_exists.mp htop
  obtain ⟨r, hr⟩ := State.topJava?_eq_some.mp hg0
  have hl9 : e.platform.stackLimits (T.setVm s.vm).me = e.platform.stackLimits s.me := X.limits
  have hb9 : (T.setVm s.vm).me.stackBytes = s.me.stackBytes := X.bytes
  refine ⟨X.admits, X.cas, X.clock, hF, ?_, X.hears, X.method, X.code, X.here, X.tail, X.warmed, ?_, ?_, ?_⟩
  · have h := X.room
    have hU : ((T.setVm s.vm).setFrames (.invoking m args :: below)).localsInUse = s.localsInUse := by
      rw [State.localsInUse_invoking hF (meth := meth) (c := c) X.method X.code, State.localsInUse_invoking X.frames X.method X.code]
    simp only [State.hasRoom, Bool.and_eq_true, decide_eq_true_eq] at h ⊢
    obtain ⟨⟨⟨⟨h1, h2, h3, h4, h5, h6⟩, h7⟩, h8⟩, h9⟩ := h
    rw [X.frames, List.length_cons] at h2 h3
    have q1 := X.heapSize
    have q2 := X.used
    simp only [hF, hU, List.length_cons, State.stackLimits_setFrames, State.stackBytes_setFrames, hl9, hb9]
    refine ⟨⟨⟨⟨by omega, by omega, by omega, by omega, by omega, h6⟩, ?_⟩, ?_⟩, X.book⟩
    · show T.heap.size + R'.cells ≤ e.platform.maxCells
      omega
    · show T.slotsUsed + R'.slots ≤ e.platform.maxSlots
      omega
  · rw [State.stackLimits_setFrames]; rfl
  · rw [State.stackBytes_setFrames]; rfl
  · refine ⟨?_, Nat.le_refl _, Nat.le_refl _, ?_, ?_, fun a c9 h9 => ⟨c9, h9, rfl, rfl, fun _ _ => rfl⟩⟩
    · obtain ⟨t, ht, -⟩ := State.frames_cons hr
      show T.setVm s.vm = { ((T.setVm s.vm).setFrames (.invoking m args :: below)).setFrames (T.setVm s.vm).frames with heap := T.heap, slotsUsed := T.slotsUsed }
      rw [State.setFrames_setFrames, State.setFrames_self ht]
      rfl
    · show T.slotsUsed = T.slotsUsed + ((T.heap.toList.drop T.heap.size).map (·.slots.size)).sum
      rw [List.drop_eq_nil_of_le (Nat.le_of_eq Array.length_toList)]
      rfl
    · show ((T.heap.toList.drop T.heap.size).map (·.slots.size)).sum ≤ 0
      rw [List.drop_eq_nil_of_le (Nat.le_of_eq Array.length_toList)]
      exact Nat.le_refl _
/-- 'throw new E()': new; dup; invokespecial; athrow -/
theorem vx_throw0 {cc : ByteArray} {pc : Nat} (hexec : p.tables.exec = Jvm.exec) (hb : c.code = cc) (hl : l.stackTraces = false) {own cls : String} {names : List String} {ik ic mc ms : Nat} {A : Nat → Prop}
    (hown : s.vm.findClass own = some m.cls) (hcls : Bundle.fit cls = true) (hnames : ∀ n ∈ names, Bundle.fit n = true)
    (hk : (Cond.classLink own ik cls).before args s = true) (hini : (Cond.initialized cls).before args s = true) (hat : ∀ w ∈ vx_at0 own ic cls names, w.before args s = true)
    (hgood : ∀ w ∈ Cond.classLink own ik cls :: Cond.initialized cls :: vx_at0 own ic cls names, vx_ot w = true)
    (hU : vx_Zq Bundle.tN "UNASSIGNED_STACK" Bundle.steD A s s.heap) (hN : vx_Zq Bundle.tN "SUPPRESSED_SENTINEL" Bundle.listD A s s.heap) (hS : va_S A s.heap H locs) (hsize : ls.size = c.maxLocals)
    (d0 : decode cc pc = .ok (.new ik, 3)) (d3 : decode cc (pc + 3) = .ok (.dup, 1)) (d4 : decode cc (pc + 4) = .ok (.invokespecial ic, 3)) (d7 : decode cc (pc + 7) = .ok (.athrow, 1))
    (hout : ∀ x ∈ c.exceptionTable.toList, covers x (pc + 7) = false)
    (hRframes : names.length + 3 < R.frames) (hRlocals : (rest.map fun v => v.category).sum + (13 * (names.length + 1) + 42) ≤ R.locals) (hRcells : cells + 1 ≤ R.cells) (hRslots : slots + 6 ≤ R.slots) (hlocks : meth.locks = false)
    (hx : ∀ t : State, s.vm.Alike t.vm → H.size ≤ t.heap.size → (∀ q : Nat, q < H.size → t.heap[q]? = H[q]?) → XC cls s t)
    (hf : ∀ z ∈ locs, free z.base) (hc : cells + 1 ≤ mc) (hs : slots + 6 ≤ ms) :
    W p l e R s m args below meth c H locs cells slots (vx_MQ below Qc XC args s mc ms free) (F0 m pc ls rest) := by
  intro T hT X
  have htr : e.platform.stackTraces = false := (show e.platform.stackTraces = l.stackTraces by rw [X.admits.platform]).trans hl
  have Y := vx_rebase X (R' := { frames := R.frames, locals := R.locals, cells := 1, slots := 6 }) (Nat.le_refl _) (Nat.le_refl _) hRcells hRslots
  obtain ⟨s', hA⟩ : ∃ z, z = (T.setVm s.vm).setFrames (.invoking m args :: below) := ⟨_, rfl⟩
  rw [← hA] at Y
  have hvm : s'.vm = s.vm := by rw [hA]; rfl
  have hhp : s'.heap = H := by rw [hA]; exact hT
  have hW0 : s.WarmedH s'.vm := by rw [hvm]; exact State.WarmedH.refl s
  have hat' : ∀ w ∈ vx_at0 own ic cls names, w.before args s' = true := fun w hw => vx_ot_at hW0 hvm.symm (hgood w (List.mem_cons_of_mem _ (List.mem_cons_of_mem _ hw))) (hat w hw)
  have hk' : (Cond.classLink own ik cls).before args s' = true := vx_ot_at hW0 hvm.symm (hgood _ List.mem_cons_self) hk
  have hini' : (Cond.initialized cls).before args s' = true := vx_ot_at hW0 hvm.symm (hgood _ (List.mem_cons_of_mem _ List.mem_cons_self)) hini
  have hU' : vx_Zq Bundle.tN "UNASSIGNED_STACK" Bundle.steD A s' s'.heap := by rw [hhp]; exact vx_Zq.moved hW0.alike (hU.kept hS.2.1)
  have hN' : vx_Zq Bundle.tN "SUPPRESSED_SENTINEL" Bundle.listD A s' s'.heap := by rw [hhp]; exact vx_Zq.moved hW0.alike (hN.kept hS.2.1)
  have h : ∀ w ∈ Bundle.ownAtoms0 own ic cls names, w.before args s' = true := vx_own hat' (vx_isRefq hU'.1) (vx_isRefq hN'.1) hU'.2.word hN'.2.word
  have hown' : s'.vm.findClass own = some m.cls := by rw [hvm]; exact hown
  have hins : (Cond.instantiable cls 6).before args s' = true := h _ (by simp [Bundle.ownAtoms0])
  obtain ⟨vm₁, cX, kX, hfX, hkX, -, -, X₁, st1⟩ := Y.newCold hexec (own := own) (C := cls) (index := ik) (n := 6) hown' hk' hins hini'
    (g := F0 m pc ls rest) rfl (by rw [hb]; exact d0) (Nat.le_refl _) (Nat.le_refl _)
  generalize hT1 : (T.setVm vm₁).pushCell { cls := cX, slots := kX.instanceTypes.map defaultValue, vm := .none } = T1 at X₁ st1
  have hcat : (Value.ref T.heap.size).category = 1 := rfl
  have hcellA : T1.heap[T.heap.size]? = some (freshCell cX kX) := by rw [← hT1]; exact State.heap_pushCell_size _ _
  have d3' : decode c.code (pc + 3) = .ok (.dup, 1) := by rw [hb]; exact d3
  obtain ⟨U, hsteps, hrun, hend, hW, hsame, ce, hce, hO⟩ := X₁.ctorThrow0 hexec htr (own := own) (cls := cls) (names := names) (ic := ic) hown' hcls hnames h (fun x hx => nomatch hx) hfX hkX hcellA (by rw [hhp, hT]; exact Nat.le_refl _)
    (g := { method := m, pc := pc + 4, locals := ls, stack := .ref T.heap.size :: .ref T.heap.size :: rest, locked := none }) rfl hsize rfl rfl (rest := rest) rfl
    (by rw [hb]; exact d4) (by rw [hb]; exact d7) hout hRframes (by simp only [List.map_cons, List.sum_cons, hcat]; omega) hlocks
  obtain ⟨f1, f2⟩ := vx_frame hsame
  rw [hhp] at f1 f2
  have hWs : s.WarmedH U.vm := State.WarmedH.trans hW0 hW
  have hcl : s.vm.findClass cls = some ce.cls := by
    have h9 := hO.cls
    rw [hvm] at h9
    exact h9
  have hall : s.sameButNew ({ U with vm := s.vm } : State) locs mc ms := by
    subst hA
    obtain ⟨e1, e2⟩ := hsame
    rw [State.setFrames_setFrames] at e1
    have h2 : (T.setVm s.vm).sameButNew ({ U with vm := s.vm } : State) [] (0 + 1) (0 + 6) := ⟨e1, e2⟩
    have h3 := X.same.trans h2
    rw [List.append_nil] at h3
    exact h3.mono hc hs
  refine ⟨U, ?_, .threw T.heap.size, hrun, hend, Or.inr ⟨T.heap.size, rfl, cls, ce, locs, hx U hWs.alike f1 (fun q hq => f2 q hq (fun z hz => nomatch hz)), hce, hO.vm, hcl, hWs, hall, hf⟩⟩
  refine st1 _ ?_
  show Steps p.tables e below (T1.setTop { method := m, pc := pc + 3, locals := ls, stack := .ref T.heap.size :: rest, locked := none }) _
  jvm_step X₁.here [X₁.here.top, hexec, d3', Value.category]
  exact hsteps
/-- 'throw new E("text")': new; dup; ldc; invokespecial; athrow -/
theorem vx_throwS {cc : ByteArray} {pc : Nat} (hexec : p.tables.exec = Jvm.exec) (hb : c.code = cc) (hl : l.stackTraces = false) {own cls text : String} {names : List String} {ik is ic mc ms sa : Nat} {A : Nat → Prop}
    (hown : s.vm.findClass own = some m.cls) (hcls : Bundle.fit cls = true) (hnames : ∀ n ∈ names, Bundle.fit n = true)
    (hk : (Cond.classLink own ik cls).before args s = true) (hini : (Cond.initialized cls).before args s = true) (hstr : vk_R own is text sa s) (hat : ∀ w ∈ vx_atS own ic cls names, w.before args s = true)
    (hgood : ∀ w ∈ Cond.classLink own ik cls :: Cond.initialized cls :: vx_atS own ic cls names, vx_ot w = true)
    (hU : vx_Zq Bundle.tN "UNASSIGNED_STACK" Bundle.steD A s s.heap) (hN : vx_Zq Bundle.tN "SUPPRESSED_SENTINEL" Bundle.listD A s s.heap) (hS : va_S A s.heap H locs) (hsize : ls.size = c.maxLocals)
    (d0 : decode cc pc = .ok (.new ik, 3)) (d3 : decode cc (pc + 3) = .ok (.dup, 1)) (d4 : decode cc (pc + 4) = .ok (.ldc is, 2)) (d6 : decode cc (pc + 6) = .ok (.invokespecial ic, 3)) (d9 : decode cc (pc + 9) = .ok (.athrow, 1))
    (hout : ∀ x ∈ c.exceptionTable.toList, covers x (pc + 9) = false)
    (hRframes : names.length + 3 < R.frames) (hRlocals : (rest.map fun v => v.category).sum + (13 * (names.length + 1) + 43) ≤ R.locals) (hRcells : cells + 1 ≤ R.cells) (hRslots : slots + 6 ≤ R.slots) (hlocks : meth.locks = false)
    (hx : ∀ t : State, s.vm.Alike t.vm → H.size ≤ t.heap.size → (∀ q : Nat, q < H.size → t.heap[q]? = H[q]?) → XC cls s t)
    (hf : ∀ z ∈ locs, free z.base) (hc : cells + 1 ≤ mc) (hs : slots + 6 ≤ ms) :
    W p l e R s m args below meth c H locs cells slots (vx_MQ below Qc XC args s mc ms free) (F0 m pc ls rest) := by
  intro T hT X
  have htr : e.platform.stackTraces = false := (show e.platform.stackTraces = l.stackTraces by rw [X.admits.platform]).trans hl
  have Y := vx_rebase X (R' := { frames := R.frames, locals := R.locals, cells := 1, slots := 6 }) (Nat.le_refl _) (Nat.le_refl _) hRcells hRslots
  obtain ⟨s', hA⟩ : ∃ z, z = (T.setVm s.vm).setFrames (.invoking m args :: below) := ⟨_, rfl⟩
  rw [← hA] at Y
  have hvm : s'.vm = s.vm := by rw [hA]; rfl
  have hhp : s'.heap = H := by rw [hA]; exact hT
  have hW0 : s.WarmedH s'.vm := by rw [hvm]; exact State.WarmedH.refl s
  have hat' : ∀ w ∈ vx_atS own ic cls names, w.before args s' = true := fun w hw => vx_ot_at hW0 hvm.symm (hgood w (List.mem_cons_of_mem _ (List.mem_cons_of_mem _ hw))) (hat w hw)
  have hk' : (Cond.classLink own ik cls).before args s' = true := vx_ot_at hW0 hvm.symm (hgood _ List.mem_cons_self) hk
  have hini' : (Cond.initialized cls).before args s' = true := vx_ot_at hW0 hvm.symm (hgood _ (List.mem_cons_of_mem _ List.mem_cons_self)) hini
  have hU' : vx_Zq Bundle.tN "UNASSIGNED_STACK" Bundle.steD A s' s'.heap := by rw [hhp]; exact vx_Zq.moved hW0.alike (hU.kept hS.2.1)
  have hN' : vx_Zq Bundle.tN "SUPPRESSED_SENTINEL" Bundle.listD A s' s'.heap := by rw [hhp]; exact vx_Zq.moved hW0.alike (hN.kept hS.2.1)
  have h : ∀ w ∈ Bundle.ownAtoms own ic cls names, w.before args s' = true := vx_own hat' (vx_isRefq hU'.1) (vx_isRefq hN'.1) hU'.2.word hN'.2.word
  have hown' : s'.vm.findClass own = some m.cls := by rw [hvm]; exact hown
  have hins : (Cond.instantiable cls 6).before args s' = true := h _ (by simp [Bundle.ownAtoms])
  obtain ⟨vm₁, cX, kX, hfX, hkX, -, -, X₁, st1⟩ := Y.newCold hexec (own := own) (C := cls) (index := ik) (n := 6) hown' hk' hins hini'
    (g := F0 m pc ls rest) rfl (by rw [hb]; exact d0) (Nat.le_refl _) (Nat.le_refl _)
  generalize hT1 : (T.setVm vm₁).pushCell { cls := cX, slots := kX.instanceTypes.map defaultValue, vm := .none } = T1 at X₁ st1
  have hcat : (Value.ref T.heap.size).category = 1 := rfl
  have hcellA : T1.heap[T.heap.size]? = some (freshCell cX kX) := by rw [← hT1]; exact State.heap_pushCell_size _ _
  have d3' : decode c.code (pc + 3) = .ok (.dup, 1) := by rw [hb]; exact d3
  have d4' : decode c.code (pc + 4) = .ok (.ldc is, 2) := by rw [hb]; exact d4
  have hstr' : vk_R own is text sa s' := vk_R.warm hW0 hstr
  obtain ⟨U, hsteps, hrun, hend, hW, hsame, ce, hce, hO⟩ := X₁.ctorThrowS hexec htr (own := own) (cls := cls) (names := names) (ic := ic) hown' hcls hnames h (fun x hx => nomatch hx) hfX hkX hcellA (by rw [hhp, hT]; exact Nat.le_refl _) (msg := .ref sa) rfl
    (g := { method := m, pc := pc + 6, locals := ls, stack := .ref sa :: .ref T.heap.size :: .ref T.heap.size :: rest, locked := none }) rfl hsize rfl rfl (rest := rest) rfl
    (by rw [hb]; exact d6) (by rw [hb]; exact d9) hout hRframes (by simp only [List.map_cons, List.sum_cons, hcat]; omega) hlocks
  obtain ⟨f1, f2⟩ := vx_frame hsame
  rw [hhp] at f1 f2
  have hWs : s.WarmedH U.vm := State.WarmedH.trans hW0 hW
  have hcl : s.vm.findClass cls = some ce.cls := by
    have h9 := hO.cls
    rw [hvm] at h9
    exact h9
  have hall : s.sameButNew ({ U with vm := s.vm } : State) locs mc ms := by
    subst hA
    obtain ⟨e1, e2⟩ := hsame
    rw [State.setFrames_setFrames] at e1
    have h2 : (T.setVm s.vm).sameButNew ({ U with vm := s.vm } : State) [] (0 + 1) (0 + 6) := ⟨e1, e2⟩
    have h3 := X.same.trans h2
    rw [List.append_nil] at h3
    exact h3.mono hc hs
  refine ⟨U, ?_, .threw T.heap.size, hrun, hend, Or.inr ⟨T.heap.size, rfl, cls, ce, locs, hx U hWs.alike f1 (fun q hq => f2 q hq (fun z hz => nomatch hz)), hce, hO.vm, hcl, hWs, hall, hf⟩⟩
  refine st1 _ ?_
  show Steps p.tables e below (T1.setTop { method := m, pc := pc + 3, locals := ls, stack := .ref T.heap.size :: rest, locked := none }) _
  jvm_step X₁.here [X₁.here.top, hexec, d3', Value.category]
  exact X₁.ldcString hexec (own := own) (text := text) (index := is) (a := sa) hown' hstr'.1 hstr'.2
    (g := { method := m, pc := pc + 4, locals := ls, stack := .ref T.heap.size :: .ref T.heap.size :: rest, locked := none }) rfl d4' _ hsteps
/-- 'throw new E("text")', the text by a wide index -/
theorem vx_throwSW {cc : ByteArray} {pc : Nat} (hexec : p.tables.exec = Jvm.exec) (hb : c.code = cc) (hl : l.stackTraces = false) {own cls text : String} {names : List String} {ik is ic mc ms sa : Nat} {A : Nat → Prop}
    (hown : s.vm.findClass own = some m.cls) (hcls : Bundle.fit cls = true) (hnames : ∀ n ∈ names, Bundle.fit n = true)
    (hk : (Cond.classLink own ik cls).before args s = true) (hini : (Cond.initialized cls).before args s = true) (hstr : vk_R own is text sa s) (hat : ∀ w ∈ vx_atS own ic cls names, w.before args s = true)
    (hgood : ∀ w ∈ Cond.classLink own ik cls :: Cond.initialized cls :: vx_atS own ic cls names, vx_ot w = true)
    (hU : vx_Zq Bundle.tN "UNASSIGNED_STACK" Bundle.steD A s s.heap) (hN : vx_Zq Bundle.tN "SUPPRESSED_SENTINEL" Bundle.listD A s s.heap) (hS : va_S A s.heap H locs) (hsize : ls.size = c.maxLocals)
    (d0 : decode cc pc = .ok (.new ik, 3)) (d3 : decode cc (pc + 3) = .ok (.dup, 1)) (d4 : decode cc (pc + 4) = .ok (.ldc_w is, 3)) (d7 : decode cc (pc + 7) = .ok (.invokespecial ic, 3)) (d10 : decode cc (pc + 10) = .ok (.athrow, 1))
    (hout : ∀ x ∈ c.exceptionTable.toList, covers x (pc + 10) = false)
    (hRframes : names.length + 3 < R.frames) (hRlocals : (rest.map fun v => v.category).sum + (13 * (names.length + 1) + 43) ≤ R.locals) (hRcells : cells + 1 ≤ R.cells) (hRslots : slots + 6 ≤ R.slots) (hlocks : meth.locks = false)
    (hx : ∀ t : State, s.vm.Alike t.vm → H.size ≤ t.heap.size → (∀ q : Nat, q < H.size → t.heap[q]? = H[q]?) → XC cls s t)
    (hf : ∀ z ∈ locs, free z.base) (hc : cells + 1 ≤ mc) (hs : slots + 6 ≤ ms) :
    W p l e R s m args below meth c H locs cells slots (vx_MQ below Qc XC args s mc ms free) (F0 m pc ls rest) := by
  intro T hT X
  have htr : e.platform.stackTraces = false := (show e.platform.stackTraces = l.stackTraces by rw [X.admits.platform]).trans hl
  have Y := vx_rebase X (R' := { frames := R.frames, locals := R.locals, cells := 1, slots := 6 }) (Nat.le_refl _) (Nat.le_refl _) hRcells hRslots
  obtain ⟨s', hA⟩ : ∃ z, z = (T.setVm s.vm).setFrames (.invoking m args :: below) := ⟨_, rfl⟩
  rw [← hA] at Y
  have hvm : s'.vm = s.vm := by rw [hA]; rfl
  have hhp : s'.heap = H := by rw [hA]; exact hT
  have hW0 : s.WarmedH s'.vm := by rw [hvm]; exact State.WarmedH.refl s
  have hat' : ∀ w ∈ vx_atS own ic cls names, w.before args s' = true := fun w hw => vx_ot_at hW0 hvm.symm (hgood w (List.mem_cons_of_mem _ (List.mem_cons_of_mem _ hw))) (hat w hw)
  have hk' : (Cond.classLink own ik cls).before args s' = true := vx_ot_at hW0 hvm.symm (hgood _ List.mem_cons_self) hk
  have hini' : (Cond.initialized cls).before args s' = true := vx_ot_at hW0 hvm.symm (hgood _ (List.mem_cons_of_mem _ List.mem_cons_self)) hini
  have hU' : vx_Zq Bundle.tN "UNASSIGNED_STACK" Bundle.steD A s' s'.heap := by rw [hhp]; exact vx_Zq.moved hW0.alike (hU.kept hS.2.1)
  have hN' : vx_Zq Bundle.tN "SUPPRESSED_SENTINEL" Bundle.listD A s' s'.heap := by rw [hhp]; exact vx_Zq.moved hW0.alike (hN.kept hS.2.1)
  have h : ∀ w ∈ Bundle.ownAtoms own ic cls names, w.before args s' = true := vx_own hat' (vx_isRefq hU'.1) (vx_isRefq hN'.1) hU'.2.word hN'.2.word
  have hown' : s'.vm.findClass own = some m.cls := by rw [hvm]; exact hown
  have hins : (Cond.instantiable cls 6).before args s' = true := h _ (by simp [Bundle.ownAtoms])
  obtain ⟨vm₁, cX, kX, hfX, hkX, -, -, X₁, st1⟩ := Y.newCold hexec (own := own) (C := cls) (index := ik) (n := 6) hown' hk' hins hini'
    (g := F0 m pc ls rest) rfl (by rw [hb]; exact d0) (Nat.le_refl _) (Nat.le_refl _)
  generalize hT1 : (T.setVm vm₁).pushCell { cls := cX, slots := kX.instanceTypes.map defaultValue, vm := .none } = T1 at X₁ st1
  have hcat : (Value.ref T.heap.size).category = 1 := rfl
  have hcellA : T1.heap[T.heap.size]? = some (freshCell cX kX) := by rw [← hT1]; exact State.heap_pushCell_size _ _
  have d3' : decode c.code (pc + 3) = .ok (.dup, 1) := by rw [hb]; exact d3
  have d4' : decode c.code (pc + 4) = .ok (.ldc_w is, 3) := by rw [hb]; exact d4
  have hstr' : vk_R own is text sa s' := vk_R.warm hW0 hstr
  obtain ⟨U, hsteps, hrun, hend, hW, hsame, ce, hce, hO⟩ := X₁.ctorThrowS hexec htr (own := own) (cls := cls) (names := names) (ic := ic) hown' hcls hnames h (fun x hx => nomatch hx) hfX hkX hcellA (by rw [hhp, hT]; exact Nat.le_refl _) (msg := .ref sa) rfl
    (g := { method := m, pc := pc + 7, locals := ls, stack := .ref sa :: .ref T.heap.size :: .ref T.heap.size :: rest, locked := none }) rfl hsize rfl rfl (rest := rest) rfl
    (by rw [hb]; exact d7) (by rw [hb]; exact d10) hout hRframes (by simp only [List.map_cons, List.sum_cons, hcat]; omega) hlocks
  obtain ⟨f1, f2⟩ := vx_frame hsame
  rw [hhp] at f1 f2
  have hWs : s.WarmedH U.vm := State.WarmedH.trans hW0 hW
  have hcl : s.vm.findClass cls = some ce.cls := by
    have h9 := hO.cls
    rw [hvm] at h9
    exact h9
  have hall : s.sameButNew ({ U with vm := s.vm } : State) locs mc ms := by
    subst hA
    obtain ⟨e1, e2⟩ := hsame
    rw [State.setFrames_setFrames] at e1
    have h2 : (T.setVm s.vm).sameButNew ({ U with vm := s.vm } : State) [] (0 + 1) (0 + 6) := ⟨e1, e2⟩
    have h3 := X.same.trans h2
    rw [List.append_nil] at h3
    exact h3.mono hc hs
  refine ⟨U, ?_, .threw T.heap.size, hrun, hend, Or.inr ⟨T.heap.size, rfl, cls, ce, locs, hx U hWs.alike f1 (fun q hq => f2 q hq (fun z hz => nomatch hz)), hce, hO.vm, hcl, hWs, hall, hf⟩⟩
  refine st1 _ ?_
  show Steps p.tables e below (T1.setTop { method := m, pc := pc + 3, locals := ls, stack := .ref T.heap.size :: rest, locked := none }) _
  jvm_step X₁.here [X₁.here.top, hexec, d3', Value.category]
  exact X₁.ldcStringW hexec (own := own) (text := text) (index := is) (a := sa) hown' hstr'.1 hstr'.2
    (g := { method := m, pc := pc + 4, locals := ls, stack := .ref T.heap.size :: .ref T.heap.size :: rest, locked := none }) rfl d4' _ hsteps
end Ends
section Bodies
variable {l : Launch}
theorem vx_ofW {y : MethodName} {ws ws' : List Cond} {rm : Room} {Pc : Array Value → State → Prop} {Qc : Array Value → State → Outcome → State → Prop} {XC : String → State → State → Prop} {mc ms : Nat} {free : Addr → Prop} {cc : ByteArray} {maxL : Nat} {ret : Option FieldType}
    (hy : plainName y.cls = true) (hw : ws = Cond.code y cc maxL ret :: ws')
    (body : ∀ p e s m args below meth c s₁, BodyLoose p l y (headSpec ws rm) cc maxL ret e s m args below meth c s₁ → c.maxLocals = maxL → (∀ x ∈ c.exceptionTable.toList, False) → Pc args s →
      W p l e (headSpec ws rm).room s m args below meth c s.heap [] 0 0 (vx_MQ below Qc XC args s mc ms free) (entryFrame m args maxL)) : vx_Met l y ws rm Pc Qc XC mc ms free := by
  refine MetFree.of_bodyS (code := cc) (maxLocals := maxL) (ret := ret) hy ?_ ?_
  · intro args s m h hn
    obtain ⟨meth, c, h1, h2, h3, h4, h5, h6, -, -⟩ := Cond.code_spec hn (atoms_spec (ws := ws) h _ (by rw [hw]; exact List.mem_cons_self))
    exact ⟨meth, c, h1, h2, h3, h4, h5, h6⟩
  · intro p e s m args below meth c s₁ B hml hP _
    have hh0 : s₁.heap = s.heap := by rw [B.state]; rfl
    have ht : ∀ x ∈ c.exceptionTable.toList, False := by
      obtain ⟨meth9, c9, h1, h2, -, -, -, -, h7, -⟩ := Cond.code_spec B.named (atoms_spec (ws := ws) B.pre _ (by rw [hw]; exact List.mem_cons_self))
      cases Option.some.inj (h1.symm.trans B.method)
      cases Option.some.inj (h2.symm.trans (Stand.of_body B).code)
      intro x hx
      rw [Array.isEmpty_iff.mp h7] at hx
      cases hx
    obtain ⟨t, a1, o, b1, b2, b3⟩ := body p e s m args below meth c s₁ B hml ht hP s₁ hh0 (Stand.of_body B)
    exact ⟨t, o, a1, b1, b2, b3⟩
/-- the table of a body with handlers -/
theorem vx_table {p : Program} {x y : MethodName} {S : Spec} {cc bytes : ByteArray} {maxL maxL' : Nat} {ret ret' : Option FieldType} {e : Env} {s s₁ : State} {m : MethodId} {args : Array Value} {below : List Frame} {meth : Method} {c : Code} {hh : List (Nat × Nat × Nat × Nat)}
    (B : BodyLoose p l y S cc maxL ret e s m args below meth c s₁) (h : (Cond.codeWith y bytes maxL' ret' hh).before args s = true) : c.exceptionTable.toList = tableOf hh := by
  obtain ⟨m9, meth9, c9, hn9, h1, h2, -, -, h6, -⟩ := Cond.codeWith_spec h
  cases Option.some.inj (hn9.symm.trans B.named)
  cases Option.some.inj (h1.symm.trans B.method)
  cases Option.some.inj (h2.symm.trans (Stand.of_body B).code)
  rw [← h6, table_eq]
end Bodies
end VXA
/-! ===== END ===== -/
/-! ===== BEGIN a static call of a method with an exception table ===== -/
section VXS
variable {p : Program} {l : Launch} {e : Env} {R : Room} {s : State} {m : MethodId} {args : Array Value} {below : List Frame} {meth : Method} {c : Code} {T : State} {H : Heap} {locs : List Loc} {cells slots : Nat}
abbrev vx_CSW (R : Room) (s : State) (args : Array Value) (own : String) (index : Nat) (y : MethodName) (bytes : ByteArray) (maxL : Nat) (ret : Option FieldType) (hh : List (Nat × Nat × Nat × Nat)) (ws : List Cond) (rm : Room) (mc ms n : Nat) : Prop :=
  (rm.cells = mc ∧ rm.slots = ms ∧ rm.frames + 1 ≤ R.frames ∧ 8 + (maxL + 11) + rm.locals ≤ R.locals ∧ (∀ w ∈ ws, ∀ (a' : Array Value) (U : State), s.WarmedH U.vm → w.before a' U = true) ∧ Cond.codeWith y bytes maxL ret hh ∈ ws) ∧
  (Cond.codeWith y bytes maxL ret hh).before args s = true ∧ (Cond.initialized y.cls).before args s = true ∧ (y.cls ≠ "java/lang/invoke/MethodHandle" ∧ y.cls ≠ "java/lang/invoke/VarHandle") ∧
  (∀ sig, parseMethodDescriptor y.desc = some sig → n = sig.parameters.length) ∧ (Cond.methodLink own index y).before args s = true ∧ (Cond.static y).before args s = true
theorem vx_cwSW {own : String} {index maxL mc ms : Nat} {y : MethodName} {bytes : ByteArray} {ret : Option FieldType} {hh : List (Nat × Nat × Nat × Nat)} {Ts ws ws' : List Cond} {rm : Room} (n : Nat) (ht : ∀ w ∈ Ts, w.before args s = true) (hT : GoodIn Ts (va_wsS own index y ws)) (hw : ws = Cond.codeWith y bytes maxL ret hh :: ws') (hrc : rm.cells = mc) (hrs : rm.slots = ms)
    (hd : y.cls ≠ "java/lang/invoke/MethodHandle" ∧ y.cls ≠ "java/lang/invoke/VarHandle" ∧ (parseMethodDescriptor y.desc).map (fun d => d.parameters.length) = some n) (hR : rm.frames + 1 ≤ R.frames ∧ 8 + (maxL + 11) + rm.locals ≤ R.locals) :
    vx_CSW R s args own index y bytes maxL ret hh ws rm mc ms n := by
  have ok : ∀ w ∈ va_wsS own index y ws, w.before args s = true := fun w h => ht w (hT w h).1
  have hG : GoodIn Ts ws := fun w h => hT w (by unfold va_wsS; exact List.mem_append_right _ h)
  have hc : Cond.codeWith y bytes maxL ret hh ∈ ws := by rw [hw]; exact List.mem_cons_self
  refine ⟨⟨hrc, hrs, hR.1, hR.2, pay_in ht hG, hc⟩, ht _ (hG _ hc).1, ok _ (by simp [va_wsS]), ⟨hd.1, hd.2.1⟩, fun sig h => ?_, ok _ (by simp [va_wsS]), ok _ (by simp [va_wsS])⟩
  have h2 := hd.2.2
  rw [h] at h2
  exact (Option.some.inj h2).symm
theorem vx_callSW (X : Stand p l e R s m args below meth c T locs cells slots) (hexec : p.tables.exec = Jvm.exec) {own : String} {index : Nat} {y : MethodName} {bytes : ByteArray} {maxL : Nat} {ret : Option FieldType} {hh : List (Nat × Nat × Nat × Nat)}
    (hown : s.vm.findClass own = some m.cls) (hlink : (Cond.methodLink own index y).before args s = true) (hstat : (Cond.static y).before args s = true) (hinit : (Cond.initialized y.cls).before args s = true)
    (hcode : (Cond.codeWith y bytes maxL ret hh).before args s = true) (hy : y.cls ≠ "java/lang/invoke/MethodHandle" ∧ y.cls ≠ "java/lang/invoke/VarHandle")
    {W9 : Nat} {Pre : Pt → Array Value → Prop} {Post : Pt → Array Value → Option Value → Pt → Prop} (hK : Back l R p e below s args y 3 W9 Pre Post)
    {g : JFrame} (hg : g.method = m) (hsize : g.locals.size = c.maxLocals) {argsL rest : List Value} (hlen : ∀ sig, parseMethodDescriptor y.desc = some sig → argsL.length = sig.parameters.length)
    (hstack : g.stack = argsL.reverse ++ rest) (hW : 2 * g.monitorRoom + (rest.map fun v => v.category).sum ≤ W9) (hdg : decode c.code g.pc = .ok (.invokestatic index, 3))
    (hpre : ∀ vm₁, s.WarmedH vm₁ → Pre ⟨T.setVm vm₁, locs, cells, slots⟩ argsL.toArray) :
    ∃ (v : Option Value) (vm₁ : Vm) (B : Pt), s.WarmedH vm₁ ∧ Stand p l e R s m args below meth c B.U B.locs B.cells B.slots ∧ Post ⟨T.setVm vm₁, locs, cells, slots⟩ argsL.toArray v B ∧
      ∀ target, Steps p.tables e below (B.U.setTop { g with pc := g.pc + 3, stack := v.toList ++ rest }) target → Steps p.tables e below (T.setTop g) target := by
  obtain ⟨mk, methM, cM, hnamed, hmethM, -, -, -, -, -, -, hsigM⟩ := Cond.codeWith_spec hcode
  have hstatic : methM.isStatic = true := Cond.static_spec hnamed hmethM hstat
  obtain ⟨kP, hkP, -⟩ := className_of_methodNamed hnamed
  have hinitP : kP.init = .initialized := Cond.initialized_spec (findClass_of_methodNamed hnamed) hkP hinit
  obtain ⟨vm₁, X₁, hstep₁⟩ := X.invokestatic hexec hown hlink hnamed hmethM hstatic hkP hinitP hy (g := g) hg (argsL := argsL) (rest := rest) (hlen _ hsigM) hstack hdg
  obtain ⟨v, B, X', hpost, hsteps⟩ := hK m meth c ⟨T.setVm vm₁, locs, cells, slots⟩ { g with stack := rest } (.invokestatic index) mk argsL.toArray X₁ hg hsize hdg hW (X₁.named hnamed) (hpre vm₁ X₁.warmed)
  exact ⟨v, vm₁, B, X₁.warmed, X', hpost, fun target h => hstep₁ _ fun acts => by rw [doInvoke_state]; exact hsteps.trans h⟩
theorem vx_runSW {y : MethodName} {bytes cc : ByteArray} {maxL nL mc ms n index : Nat} {ret : Option FieldType} {hh : List (Nat × Nat × Nat × Nat)} {ws : List Cond} {rm : Room} {Pc : Array Value → State → Prop} {Qc : Array Value → State → Outcome → State → Prop} {free : Addr → Prop} {Ts : List Cond} {own : String} {As rest : List Value} {g : JFrame}
    (S : CallFix p m c cc nL s args Ts own) (hM : Met l y ws rm Pc Qc mc ms free) (cw : vx_CSW R s args own index y bytes maxL ret hh ws rm mc ms n) (hp : PreS s H Pc As)
    (hg : g.method = m) (hn : As.length = n) (hsize : g.locals.size = nL) (hstack : g.stack = As.reverse ++ rest) (hW : 2 * g.monitorRoom + (rest.map fun v => v.category).sum ≤ 8) (hdg : decode cc g.pc = .ok (.invokestatic index, 3)) (hf : cells + mc ≤ R.cells ∧ slots + ms ≤ R.slots) :
    va_Run p l e R s m args below meth c H locs cells slots mc ms g rest (Qc As.toArray) (free) := by
  obtain ⟨⟨hrc, hrs, hfr, hlo, hws, hcw⟩, hcode, hini, hy, hlen, hl, hstt⟩ := cw
  have hK : Back l R p e below s args y 3 8 (PreOf R mc ms Pc) (PostOf Qc mc ms free) := va_backW (hh := hh) (bytes := bytes) (maxL := maxL) (ret := ret) hM hp.1 hrc hrs hfr hlo hws hcw (fun a' U hW => word_at hW (Or.inl (by first | rfl | simp [Cond.onTables, Cond.keeps, Cond.steady])) hini)
  obtain ⟨hx, hb, hml, ho, -⟩ := S
  intro T hT X
  obtain ⟨v, vm₁, ⟨U', l2, c2, s2⟩, hW₁, X', ⟨g', mk, t, L, e1, e2, hq, h1, hL, h2, h3⟩, st⟩ := vx_callSW X hx (hh := hh) (bytes := bytes) (maxL := maxL) (ret := ret) ho hl hstt hini hcode hy hK hg (hsize.trans hml.symm) (argsL := As) (rest := rest) (fun sig h => hn.trans (hlen sig h)) hstack hW (by rw [hb]; exact hdg)
    (fun vm₁ hW₁ => ⟨hf.1, hf.2, hp.2 (T.setVm vm₁) hT hW₁⟩)
  dsimp only [Pt.U, Pt.locs, Pt.cells, Pt.slots] at X' e1 e2 h1 h2 h3 st
  subst h1; subst h2; subst h3
  exact ⟨v, (T.setVm vm₁).calling g' mk As.toArray, t, U', L, hT, X', hL, e1, e2, hq, st⟩
/-- not caught here, past rows that name other classes: it goes on to the caller -/
theorem vx_outP {p : Program} {l : Launch} {e : Env} {R : Room} {s : State} {m : MethodId} {args : Array Value} {below : List Frame} {meth : Method} {c : Code} {H : Heap} {locs : List Loc} {cells slots : Nat} {free : Addr → Prop} {ls : Array Slot} {rest : List Value} {Qc : Array Value → State → Outcome → State → Prop} {XC : String → State → State → Prop}
    {pc : Nat} {own E : String} {ce : Cell} {q : Addr} {mc ms : Nat} (hown : s.vm.findClass own = some m.cls) (hlocks : meth.locks = false)
    (hpass : ∀ z ∈ c.exceptionTable.toList, covers z pc = false ∨ (z.catchType ≠ 0 ∧ ∃ nm : String, (Cond.classLink own z.catchType nm).before args s = true ∧ va_Nc E nm s)) (hcell : H[q]? = some ce) (hv : ce.vm = .none) (hcl : s.vm.findClass E = some ce.cls)
    (hx : ∀ t : State, t.heap = H → s.vm.Alike t.vm → XC E s t) (hf : ∀ z ∈ locs, free z.base) (hc : cells ≤ mc) (hs : slots ≤ ms) :
    vx_W p l e R s m args below meth c H locs cells slots (vx_MQ below Qc XC args s mc ms free) (F0 m pc ls rest) q := by
  intro T hT X
  have hpl : e.platform.magicAccessors = ({} : Platform).magicAccessors := by rw [X.admits.platform]
  obtain ⟨vm', hW', X', st⟩ := X.outThrough hlocks q (g := F0 m pc ls rest) rfl rfl rfl (cell := ce) (by rw [hT]; exact hcell) (by rw [hv]; rfl)
    (by obtain ⟨k9, h9, -⟩ := Vm.findClass_spec hcl; exact ⟨k9, h9⟩) (fun z hz => by
      rcases hpass z hz with h | ⟨hz0, nm, hl1, hn1⟩
      · exact Or.inl h
      · obtain ⟨c6, hc6, hcl6⟩ := Cond.classLink_spec hown hl1 e.platform hpl
        obtain ⟨a8, b8, h1, h2, h3⟩ := hn1
        cases Option.some.inj (h1.symm.trans hcl)
        cases Option.some.inj (h2.symm.trans hc6)
        exact Or.inr ⟨hz0, _, hcl6, h3⟩)
  obtain ⟨g₀, hfr⟩ := X'.frames_eq
  have hcell9 : ((T.setVm vm').setFrames (.throwing q :: below)).heap[q]? = some ce := by
    show T.heap[q]? = some ce
    rw [hT]; exact hcell
  have hend : Ended ((T.setVm vm').setFrames (.throwing q :: below)) below (.threw q) := State.frames_setFrames _ (State.cur_lt_of_frames hfr)
  refine ⟨(T.setVm vm').setFrames (.throwing q :: below), ?_, .threw q, X'.here.running, hend, Or.inr ⟨q, rfl, E, ce, locs, hx _ hT (X'.ends _).1.alike, hcell9, hv, hcl, (X'.ends _).1, (X'.ends _).2.mono hc hs, hf⟩⟩
  rw [X.pushThrowing_eq]
  exact st
/-- a thing of a world lies in the heap -/
theorem vx_lt {D : va_G} {cl : List vw_C} {ws : va_W} {H1 : Heap} (h : va_P D cl ws H1) {k : Nat} {q : Nat × va_E} (hk : ws[k]? = some q) : q.1 < H1.size := (h k q hk).lt
end VXS
/-! ===== END ===== -/
/-! ===== BEGIN methods with a table of their own: called by a name, returning or throwing ===== -/
section VXH
/-! vx_backW, vx_callVX, vx_callSX, vx_callVW, vx_runVW, vx_runVX, vx_runSX, vx_ofWH follow the same proofs as their sisters above (Free/Laws.lean, Shelf42/LK1.lean); vx_outP calls Shelf42/NT130.lean (outThrough). -/
section
variable {l : Launch} {R : Room} {p : Program} {e : Env} {below : List Frame} {s : State} {sargs : Array Value} {y : MethodName} {len W9 : Nat}
theorem vx_backW {ws : List Cond} {rm : Room} {Pc : Array Value → State → Prop} {Qc : Array Value → State → Outcome → State → Prop} {XC : String → State → State → Prop} {mc ms : Nat} {free : Addr → Prop} {bytes : ByteArray} {maxL : Nat} {ret : Option FieldType} {hh : List (Nat × Nat × Nat × Nat)}
    (hM : vx_Met l y ws rm Pc Qc XC mc ms free) (hblind : FrameBlind Pc) (hrc : rm.cells = mc) (hrs : rm.slots = ms)
    (hframes : rm.frames + 1 ≤ R.frames) (hlocals : W9 + (maxL + 11) + rm.locals ≤ R.locals)
    (hws : ∀ w ∈ ws, ∀ a' U, s.WarmedH U.vm → w.before a' U = true) (hcode : Cond.codeWith y bytes maxL ret hh ∈ ws) (hinit : ∀ a' U, s.WarmedH U.vm → (Cond.initialized y.cls).before a' U = true) :
    vx_Back l R p e below s sargs y len W9 (PreOf R mc ms Pc) (PostOf Qc mc ms free) (vx_Post XC mc ms free) := by
  intro m meth c A g ig mk a X hg hsize hdg hW hn hp
  have h1 : (headSpec ws rm).pre.before a A.U = true := atoms_intro fun w hw => hws w hw _ _ X.warmed
  have h2 : (Cond.codeWith y bytes maxL ret hh).before a A.U = true := hws _ hcode _ _ X.warmed
  have h3 : (Cond.initialized y.cls).before a A.U = true := hinit _ _ X.warmed
  have h4 : A.cells + (headSpec ws rm).room.cells ≤ R.cells := by rw [show (headSpec ws rm).room.cells = mc from hrc]; exact hp.1
  have h5 : A.slots + (headSpec ws rm).room.slots ≤ R.slots := by rw [show (headSpec ws rm).room.slots = ms from hrs]; exact hp.2.1
  have hPc : Pc a (A.U.calling g mk a) := hblind _ _ _ _ hp.2.2
  obtain ⟨U, Ls, c0, s0⟩ := A
  dsimp only [Pt.U, Pt.locs, Pt.cells, Pt.slots] at h1 h2 h3 h4 h5 X hn hPc ⊢
  obtain ⟨m9, methY, cY, hn9, hmY, hcY, -, hlY, -⟩ := Cond.codeWith_spec h2
  cases Option.some.inj (hn9.symm.trans hn)
  obtain ⟨kY, hkY, -⟩ := className_of_methodNamed hn
  have hinitY : kY.init = .initialized := Cond.initialized_spec (findClass_of_methodNamed hn) hkY h3
  have h : At U g.method c below := by rw [hg]; exact X.here
  have hlocals9 : W9 + (maxL + 11) + (headSpec ws rm).room.locals ≤ R.locals := hlocals
  have happ : (headSpec ws rm).appliesLoose y e.platform (U.calling g mk a) = true :=
    Spec.appliesLoose_calling (g := g) h hdg hn hkY hinitY
      (X.room_calling (g := g) (R' := (headSpec ws rm).room) hsize hmY hcY hframes (by rw [hlY]; omega) h4 h5) h1
  obtain ⟨mid, hmid⟩ := h.above
  have hfr : (U.setTop g).frames = (.java g :: mid) ++ below := by rw [State.frames_setTop' g h.top, hmid]; rfl
  obtain ⟨o, s₂, hsteps, -, hend, hq⟩ := Steps.callFree hM p X.admits X.cas X.clock (acts := []) hfr happ hPc trivial
  have hq' : vx_Q Qc XC mc ms free a (U.calling g mk a) o s₂ := hq
  rw [State.frames_setTop' g h.top] at hend
  obtain ⟨g₀, hg0⟩ := Option.isSome_iff_exists.mp h.top
  obtain ⟨r, hr⟩ := State.topJava?_eq_some.mp hg0
  have hr' : (({ U with heap := s₂.heap, slotsUsed := s₂.slotsUsed } : State).setVm s₂.vm).frames = .java g₀ :: r := hr
  rcases hq' with ⟨hqc, L, hfe, hL⟩ | ⟨q, rfl, E, ce, L, hx, hce, hcv, hcl, hW₂, hsm, hL⟩
  · obtain ⟨⟨v, rfl⟩, hW₂, e2, q2, q3, q4, q5, q6⟩ := id hfe
    have e3 : s₂ = ({ (U.calling g mk a).setFrames s₂.frames with heap := s₂.heap, slotsUsed := s₂.slotsUsed } : State).setVm s₂.vm := by
      have : s₂ = ({ s₂ with vm := (U.calling g mk a).vm } : State).setVm s₂.vm := rfl
      rw [e2] at this
      exact this
    obtain ⟨c₂, i₂, len₂, hc₂, hd₂, hf₂⟩ := hend
    have hW' : U.WarmedH s₂.vm := hW₂
    have hcc : c₂ = c := by
      have h1 : s₂.code? g.method = U.code? g.method := by
        rw [State.code?_eq, State.code?_eq, hW'.alike.method?]
      exact Option.some.inj (hc₂.symm.trans (h1.trans h.code))
    subst hcc
    have hlen : len₂ = len := by rw [hdg] at hd₂; cases hd₂; rfl
    subst hlen
    have hs₂ : s₂ = (({ U with heap := s₂.heap, slotsUsed := s₂.slotsUsed } : State).setVm s₂.vm).setTop { g with pc := g.pc + len₂, stack := v.toList ++ g.stack } := by
      refine e3.trans ?_
      rw [hf₂, State.calling_eq h.top, State.setFrames_setFrames, State.setTop_of_frames _ hr', hr]
      rfl
    have hsame : U.sameButNew ({ U with heap := s₂.heap, slotsUsed := s₂.slotsUsed } : State) L mc ms := by
      refine ⟨?_, q2, q3, q4, q5, q6⟩
      obtain ⟨t, ht, -⟩ := State.frames_cons hr
      show ({ U with heap := s₂.heap, slotsUsed := s₂.slotsUsed } : State) = { U.setFrames U.frames with heap := s₂.heap, slotsUsed := s₂.slotsUsed }
      rw [State.setFrames_self ht]
    subst hg
    refine Or.inl ⟨v, ⟨(({ U with heap := s₂.heap, slotsUsed := s₂.slotsUsed } : State).setVm s₂.vm), Ls ++ L, c0 + mc, s0 + ms⟩,
      ⟨X.admits, X.cas, X.clock, X.frames, X.room, X.hears, X.method, X.code, (X.here.setHeapUsed s₂.heap s₂.slotsUsed).setVm hW'.alike, X.tail, State.WarmedH.trans X.warmed hW', X.limits, X.bytes, X.same.trans (hsame.setVm s.vm)⟩,
      ⟨g, mk, s₂, L, rfl, rfl, hqc, rfl, hL, rfl, rfl⟩, ?_⟩
    show Steps p.tables e below _ ((({ U with heap := s₂.heap, slotsUsed := s₂.slotsUsed } : State).setVm s₂.vm).setTop { g with pc := g.pc + len₂, stack := v.toList ++ g.stack })
    rw [← hs₂]
    exact hsteps
  · obtain ⟨e2, q2, q3, q4, q5, q6⟩ := id hsm
    have e3 : s₂ = ({ (U.calling g mk a).setFrames s₂.frames with heap := s₂.heap, slotsUsed := s₂.slotsUsed } : State).setVm s₂.vm := by
      have : s₂ = ({ s₂ with vm := (U.calling g mk a).vm } : State).setVm s₂.vm := rfl
      rw [e2] at this
      exact this
    have hf₂ : s₂.frames = .throwing q :: .java g :: U.frames.tail := hend
    have hW' : U.WarmedH s₂.vm := hW₂
    have hs₂ : s₂ = ((({ U with heap := s₂.heap, slotsUsed := s₂.slotsUsed } : State).setVm s₂.vm).setTop g).pushFrame (.throwing q) := by
      refine e3.trans ?_
      rw [hf₂, State.calling_eq h.top, State.setFrames_setFrames, State.pushFrame, State.frames_setTop _ hr', State.setTop_of_frames _ hr', State.setFrames_setFrames, hr]
      rfl
    have hsame : U.sameButNew ({ U with heap := s₂.heap, slotsUsed := s₂.slotsUsed } : State) L mc ms := by
      refine ⟨?_, q2, q3, q4, q5, q6⟩
      obtain ⟨t, ht, -⟩ := State.frames_cons hr
      show ({ U with heap := s₂.heap, slotsUsed := s₂.slotsUsed } : State) = { U.setFrames U.frames with heap := s₂.heap, slotsUsed := s₂.slotsUsed }
      rw [State.setFrames_self ht]
    subst hg
    refine Or.inr ⟨q, ⟨(({ U with heap := s₂.heap, slotsUsed := s₂.slotsUsed } : State).setVm s₂.vm), Ls ++ L, c0 + mc, s0 + ms⟩,
      ⟨X.admits, X.cas, X.clock, X.frames, X.room, X.hears, X.method, X.code, (X.here.setHeapUsed s₂.heap s₂.slotsUsed).setVm hW'.alike, X.tail, State.WarmedH.trans X.warmed hW', X.limits, X.bytes, X.same.trans (hsame.setVm s.vm)⟩,
      ⟨g, mk, s₂, L, E, ce, rfl, rfl, hx, hce, hcv, hcl, rfl, hL, rfl, rfl⟩, ?_⟩
    show Steps p.tables e below _ (((({ U with heap := s₂.heap, slotsUsed := s₂.slotsUsed } : State).setVm s₂.vm).setTop g).pushFrame (.throwing q))
    rw [← hs₂]
    exact hsteps
end
variable {p : Program} {l : Launch} {e : Env} {R : Room} {s : State} {m : MethodId} {args : Array Value} {below : List Frame} {meth : Method} {c : Code} {T : State} {H : Heap} {locs : List Loc} {cells slots : Nat}
theorem vx_callVX (X : Stand p l e R s m args below meth c T locs cells slots) (hexec : p.tables.exec = Jvm.exec) {own C : String} {index : Nat} {y : MethodName} {bytes : ByteArray} {maxL : Nat} {ret : Option FieldType} {hh : List (Nat × Nat × Nat × Nat)}
    (hown : s.vm.findClass own = some m.cls) (hlink : (Cond.methodLink own index y).before args s = true) (hinst : (Cond.instanceMethod y).before args s = true) (hsel : (Cond.selects C y y).before args s = true)
    (hcode : (Cond.codeWith y bytes maxL ret hh).before args s = true) (hy : y.cls ≠ "java/lang/invoke/MethodHandle" ∧ y.cls ≠ "java/lang/invoke/VarHandle")
    {W9 : Nat} {Pre : Pt → Array Value → Prop} {Post : Pt → Array Value → Option Value → Pt → Prop} {PostX : Pt → Array Value → Addr → Pt → Prop} (hK : vx_Back l R p e below s args y 3 W9 Pre Post PostX)
    {b : Addr} {cellB : Cell} (hcell : T.heap[b]? = some cellB) (hobj : cellB.vm.isStatics = false) (hcls : s.vm.findClass C = some cellB.cls)
    {g : JFrame} (hg : g.method = m) (hsize : g.locals.size = c.maxLocals) {argsL rest : List Value} (hlen : ∀ sig, parseMethodDescriptor y.desc = some sig → argsL.length = sig.parameters.length)
    (hstack : g.stack = argsL.reverse ++ .ref b :: rest) (hW : 2 * g.monitorRoom + (rest.map fun v => v.category).sum ≤ W9) (hdg : decode c.code g.pc = .ok (.invokevirtual index, 3))
    (hpre : ∀ vm₁, s.WarmedH vm₁ → Pre ⟨T.setVm vm₁, locs, cells, slots⟩ (Value.ref b :: argsL).toArray) :
    (∃ (v : Option Value) (vm₁ : Vm) (B : Pt), s.WarmedH vm₁ ∧ Stand p l e R s m args below meth c B.U B.locs B.cells B.slots ∧ Post ⟨T.setVm vm₁, locs, cells, slots⟩ (Value.ref b :: argsL).toArray v B ∧
      ∀ target, Steps p.tables e below (B.U.setTop { g with pc := g.pc + 3, stack := v.toList ++ rest }) target → Steps p.tables e below (T.setTop g) target) ∨
    (∃ (q : Addr) (vm₁ : Vm) (B : Pt), s.WarmedH vm₁ ∧ Stand p l e R s m args below meth c B.U B.locs B.cells B.slots ∧ PostX ⟨T.setVm vm₁, locs, cells, slots⟩ (Value.ref b :: argsL).toArray q B ∧
      Steps p.tables e below (T.setTop g) ((B.U.setTop { g with stack := rest }).pushFrame (.throwing q))) := by
  obtain ⟨mk, methM, hnamed, hmethM, hstM, habM⟩ := Cond.instanceMethod_spec hinst
  obtain ⟨m8, methM', cM, hn8, hmethM', -, -, -, -, -, -, hsigM⟩ := Cond.codeWith_spec hcode
  cases Option.some.inj (hn8.symm.trans hnamed)
  cases hmethM.symm.trans hmethM'
  obtain ⟨c2, r2, m2, q1, q2, q3, q4, kP, hkP, hkPi⟩ := Cond.selects_spec hsel
  cases hcls.symm.trans q1
  cases (State.methodFound?_of_named hnamed hy).symm.trans q2
  cases hnamed.symm.trans q3
  have hselP : selectMethod e.platform s.vm cellB.cls mk = .method mk := by rw [Launch.admits_selectMethod X.admits]; exact q4
  obtain ⟨vm₁, X₁, hstep₁⟩ := X.invokevirtual hexec hown hlink hnamed hmethM hstM hkP hkPi hy (a := b) (cell := cellB) hcell
    (fun z h => by rw [h] at hobj; cases hobj) hselP hmethM habM hkP hkPi (g := g) hg (argsL := argsL) (rest := rest) (hlen _ hsigM) hstack hdg
  rcases hK m meth c ⟨T.setVm vm₁, locs, cells, slots⟩ { g with stack := rest } (.invokevirtual index) mk (Value.ref b :: argsL).toArray X₁ hg hsize hdg hW (X₁.named hnamed) (hpre vm₁ X₁.warmed) with ⟨v, B, X', hpost, hsteps⟩ | ⟨q, B, X', hpost, hsteps⟩
  · exact Or.inl ⟨v, vm₁, B, X₁.warmed, X', hpost, fun target h => hstep₁ _ fun acts => by rw [doInvoke_state]; exact hsteps.trans h⟩
  · exact Or.inr ⟨q, vm₁, B, X₁.warmed, X', hpost, hstep₁ _ fun acts => by rw [doInvoke_state]; exact hsteps⟩
theorem vx_callSX (X : Stand p l e R s m args below meth c T locs cells slots) (hexec : p.tables.exec = Jvm.exec) {own : String} {index : Nat} {y : MethodName} {bytes : ByteArray} {maxL : Nat} {ret : Option FieldType} {hh : List (Nat × Nat × Nat × Nat)}
    (hown : s.vm.findClass own = some m.cls) (hlink : (Cond.methodLink own index y).before args s = true) (hstat : (Cond.static y).before args s = true) (hinit : (Cond.initialized y.cls).before args s = true)
    (hcode : (Cond.codeWith y bytes maxL ret hh).before args s = true) (hy : y.cls ≠ "java/lang/invoke/MethodHandle" ∧ y.cls ≠ "java/lang/invoke/VarHandle")
    {W9 : Nat} {Pre : Pt → Array Value → Prop} {Post : Pt → Array Value → Option Value → Pt → Prop} {PostX : Pt → Array Value → Addr → Pt → Prop} (hK : vx_Back l R p e below s args y 3 W9 Pre Post PostX)
    {g : JFrame} (hg : g.method = m) (hsize : g.locals.size = c.maxLocals) {argsL rest : List Value} (hlen : ∀ sig, parseMethodDescriptor y.desc = some sig → argsL.length = sig.parameters.length)
    (hstack : g.stack = argsL.reverse ++ rest) (hW : 2 * g.monitorRoom + (rest.map fun v => v.category).sum ≤ W9) (hdg : decode c.code g.pc = .ok (.invokestatic index, 3))
    (hpre : ∀ vm₁, s.WarmedH vm₁ → Pre ⟨T.setVm vm₁, locs, cells, slots⟩ argsL.toArray) :
    (∃ (v : Option Value) (vm₁ : Vm) (B : Pt), s.WarmedH vm₁ ∧ Stand p l e R s m args below meth c B.U B.locs B.cells B.slots ∧ Post ⟨T.setVm vm₁, locs, cells, slots⟩ argsL.toArray v B ∧
      ∀ target, Steps p.tables e below (B.U.setTop { g with pc := g.pc + 3, stack := v.toList ++ rest }) target → Steps p.tables e below (T.setTop g) target) ∨
    (∃ (q : Addr) (vm₁ : Vm) (B : Pt), s.WarmedH vm₁ ∧ Stand p l e R s m args below meth c B.U B.locs B.cells B.slots ∧ PostX ⟨T.setVm vm₁, locs, cells, slots⟩ argsL.toArray q B ∧
      Steps p.tables e below (T.setTop g) ((B.U.setTop { g with stack := rest }).pushFrame (.throwing q))) := by
  obtain ⟨mk, methM, cM, hnamed, hmethM, -, -, -, -, -, -, hsigM⟩ := Cond.codeWith_spec hcode
  have hstatic : methM.isStatic = true := Cond.static_spec hnamed hmethM hstat
  obtain ⟨kP, hkP, -⟩ := className_of_methodNamed hnamed
  have hinitP : kP.init = .initialized := Cond.initialized_spec (findClass_of_methodNamed hnamed) hkP hinit
  obtain ⟨vm₁, X₁, hstep₁⟩ := X.invokestatic hexec hown hlink hnamed hmethM hstatic hkP hinitP hy (g := g) hg (argsL := argsL) (rest := rest) (hlen _ hsigM) hstack hdg
  rcases hK m meth c ⟨T.setVm vm₁, locs, cells, slots⟩ { g with stack := rest } (.invokestatic index) mk argsL.toArray X₁ hg hsize hdg hW (X₁.named hnamed) (hpre vm₁ X₁.warmed) with ⟨v, B, X', hpost, hsteps⟩ | ⟨q, B, X', hpost, hsteps⟩
  · exact Or.inl ⟨v, vm₁, B, X₁.warmed, X', hpost, fun target h => hstep₁ _ fun acts => by rw [doInvoke_state]; exact hsteps.trans h⟩
  · exact Or.inr ⟨q, vm₁, B, X₁.warmed, X', hpost, hstep₁ _ fun acts => by rw [doInvoke_state]; exact hsteps⟩
theorem vx_callVW (X : Stand p l e R s m args below meth c T locs cells slots) (hexec : p.tables.exec = Jvm.exec) {own C : String} {index : Nat} {y : MethodName} {bytes : ByteArray} {maxL : Nat} {ret : Option FieldType} {hh : List (Nat × Nat × Nat × Nat)}
    (hown : s.vm.findClass own = some m.cls) (hlink : (Cond.methodLink own index y).before args s = true) (hinst : (Cond.instanceMethod y).before args s = true) (hsel : (Cond.selects C y y).before args s = true)
    (hcode : (Cond.codeWith y bytes maxL ret hh).before args s = true) (hy : y.cls ≠ "java/lang/invoke/MethodHandle" ∧ y.cls ≠ "java/lang/invoke/VarHandle")
    {W9 : Nat} {Pre : Pt → Array Value → Prop} {Post : Pt → Array Value → Option Value → Pt → Prop} (hK : Back l R p e below s args y 3 W9 Pre Post)
    {b : Addr} {cellB : Cell} (hcell : T.heap[b]? = some cellB) (hobj : cellB.vm.isStatics = false) (hcls : s.vm.findClass C = some cellB.cls)
    {g : JFrame} (hg : g.method = m) (hsize : g.locals.size = c.maxLocals) {argsL rest : List Value} (hlen : ∀ sig, parseMethodDescriptor y.desc = some sig → argsL.length = sig.parameters.length)
    (hstack : g.stack = argsL.reverse ++ .ref b :: rest) (hW : 2 * g.monitorRoom + (rest.map fun v => v.category).sum ≤ W9) (hdg : decode c.code g.pc = .ok (.invokevirtual index, 3))
    (hpre : ∀ vm₁, s.WarmedH vm₁ → Pre ⟨T.setVm vm₁, locs, cells, slots⟩ (Value.ref b :: argsL).toArray) :
    ∃ (v : Option Value) (vm₁ : Vm) (B : Pt), s.WarmedH vm₁ ∧ Stand p l e R s m args below meth c B.U B.locs B.cells B.slots ∧ Post ⟨T.setVm vm₁, locs, cells, slots⟩ (Value.ref b :: argsL).toArray v B ∧
      ∀ target, Steps p.tables e below (B.U.setTop { g with pc := g.pc + 3, stack := v.toList ++ rest }) target → Steps p.tables e below (T.setTop g) target := by
  obtain ⟨mk, methM, hnamed, hmethM, hstM, habM⟩ := Cond.instanceMethod_spec hinst
  obtain ⟨m8, methM', cM, hn8, hmethM', -, -, -, -, -, -, hsigM⟩ := Cond.codeWith_spec hcode
  cases Option.some.inj (hn8.symm.trans hnamed)
  cases hmethM.symm.trans hmethM'
  obtain ⟨c2, r2, m2, q1, q2, q3, q4, kP, hkP, hkPi⟩ := Cond.selects_spec hsel
  cases hcls.symm.trans q1
  cases (State.methodFound?_of_named hnamed hy).symm.trans q2
  cases hnamed.symm.trans q3
  have hselP : selectMethod e.platform s.vm cellB.cls mk = .method mk := by rw [Launch.admits_selectMethod X.admits]; exact q4
  obtain ⟨vm₁, X₁, hstep₁⟩ := X.invokevirtual hexec hown hlink hnamed hmethM hstM hkP hkPi hy (a := b) (cell := cellB) hcell
    (fun z h => by rw [h] at hobj; cases hobj) hselP hmethM habM hkP hkPi (g := g) hg (argsL := argsL) (rest := rest) (hlen _ hsigM) hstack hdg
  obtain ⟨v, B, X', hpost, hsteps⟩ := hK m meth c ⟨T.setVm vm₁, locs, cells, slots⟩ { g with stack := rest } (.invokevirtual index) mk (Value.ref b :: argsL).toArray X₁ hg hsize hdg hW (X₁.named hnamed) (hpre vm₁ X₁.warmed)
  exact ⟨v, vm₁, B, X₁.warmed, X', hpost, fun target h => hstep₁ _ fun acts => by rw [doInvoke_state]; exact hsteps.trans h⟩
abbrev vx_CVW (R : Room) (s : State) (args : Array Value) (own C : String) (index : Nat) (y : MethodName) (bytes : ByteArray) (maxL : Nat) (ret : Option FieldType) (hh : List (Nat × Nat × Nat × Nat)) (ws : List Cond) (rm : Room) (mc ms n : Nat) : Prop :=
  (rm.cells = mc ∧ rm.slots = ms ∧ rm.frames + 1 ≤ R.frames ∧ 8 + (maxL + 11) + rm.locals ≤ R.locals ∧ (∀ w ∈ ws, ∀ (a' : Array Value) (U : State), s.WarmedH U.vm → w.before a' U = true) ∧ Cond.codeWith y bytes maxL ret hh ∈ ws) ∧
  (Cond.codeWith y bytes maxL ret hh).before args s = true ∧ (Cond.initialized y.cls).before args s = true ∧ (y.cls ≠ "java/lang/invoke/MethodHandle" ∧ y.cls ≠ "java/lang/invoke/VarHandle") ∧
  (∀ sig, parseMethodDescriptor y.desc = some sig → n = sig.parameters.length) ∧ (Cond.methodLink own index y).before args s = true ∧ (Cond.instanceMethod y).before args s = true ∧ (Cond.selects C y y).before args s = true
theorem vx_cwVW {own C : String} {index maxL mc ms : Nat} {y : MethodName} {bytes : ByteArray} {ret : Option FieldType} {hh : List (Nat × Nat × Nat × Nat)} {Ts ws ws' : List Cond} {rm : Room} (n : Nat) (ht : ∀ w ∈ Ts, w.before args s = true) (hT : GoodIn Ts (wsV own index C y ws)) (hw : ws = Cond.codeWith y bytes maxL ret hh :: ws') (hrc : rm.cells = mc) (hrs : rm.slots = ms)
    (hd : y.cls = C ∧ y.cls ≠ "java/lang/invoke/MethodHandle" ∧ y.cls ≠ "java/lang/invoke/VarHandle" ∧ (parseMethodDescriptor y.desc).map (fun d => d.parameters.length) = some n) (hR : rm.frames + 1 ≤ R.frames ∧ 8 + (maxL + 11) + rm.locals ≤ R.locals) :
    vx_CVW R s args own C index y bytes maxL ret hh ws rm mc ms n := by
  obtain ⟨hC, hd⟩ := hd
  subst hC
  have ok : ∀ w ∈ wsV own index y.cls y ws, w.before args s = true := fun w h => ht w (hT w h).1
  have hG : GoodIn Ts ws := fun w h => hT w (by unfold wsV; exact List.mem_append_right _ h)
  have hc : Cond.codeWith y bytes maxL ret hh ∈ ws := by rw [hw]; exact List.mem_cons_self
  refine ⟨⟨hrc, hrs, hR.1, hR.2, pay_in ht hG, hc⟩, ht _ (hG _ hc).1, ok _ (by simp [wsV]), ⟨hd.1, hd.2.1⟩, fun sig h => ?_, ok _ (by simp [wsV]), ok _ (by simp [wsV]), ok _ (by simp [wsV])⟩
  have h2 := hd.2.2
  rw [h] at h2
  exact (Option.some.inj h2).symm
theorem vx_runVW {y : MethodName} {bytes cc : ByteArray} {maxL nL mc ms n index : Nat} {ret : Option FieldType} {hh : List (Nat × Nat × Nat × Nat)} {ws : List Cond} {rm : Room} {Pc : Array Value → State → Prop} {Qc : Array Value → State → Outcome → State → Prop} {free : Addr → Prop} {Ts : List Cond} {own C : String} {b : Addr} {As rest : List Value} {g : JFrame}
    (S : CallFix p m c cc nL s args Ts own) (hM : Met l y ws rm Pc Qc mc ms free) (cw : vx_CVW R s args own C index y bytes maxL ret hh ws rm mc ms n) (hp : PreV s H C b Pc As)
    (hg : g.method = m) (hn : As.length = n) (hsize : g.locals.size = nL) (hstack : g.stack = As.reverse ++ .ref b :: rest) (hW : 2 * g.monitorRoom + (rest.map fun v => v.category).sum ≤ 8) (hdg : decode cc g.pc = .ok (.invokevirtual index, 3)) (hf : cells + mc ≤ R.cells ∧ slots + ms ≤ R.slots) :
    va_Run p l e R s m args below meth c H locs cells slots mc ms g rest (Qc (Value.ref b :: As).toArray) free := by
  obtain ⟨⟨hrc, hrs, hfr, hlo, hws, hcw⟩, hcode, hini, hy, hlen, hl, hin, hse⟩ := cw
  have hK : Back l R p e below s args y 3 8 (PreOf R mc ms Pc) (PostOf Qc mc ms free) := va_backW (hh := hh) (bytes := bytes) (maxL := maxL) (ret := ret) hM hp.1 hrc hrs hfr hlo hws hcw (fun a' U hW => word_at hW (Or.inl (by first | rfl | simp [Cond.onTables, Cond.keeps, Cond.steady])) hini)
  obtain ⟨hx, hb, hml, ho, -⟩ := S
  obtain ⟨-, ⟨cellB, hcB, hoB, hclB⟩, hPc⟩ := hp
  intro T hT X
  obtain ⟨v, vm₁, ⟨U', l2, c2, s2⟩, hW₁, X', ⟨g', mk, t, L, e1, e2, hq, h1, hL, h2, h3⟩, st⟩ := vx_callVW X hx (C := C) (hh := hh) (bytes := bytes) (maxL := maxL) (ret := ret) ho hl hin hse hcode hy hK (by rw [hT]; exact hcB) hoB hclB hg (hsize.trans hml.symm) (argsL := As) (rest := rest) (fun sig h => hn.trans (hlen sig h)) hstack hW (by rw [hb]; exact hdg)
    (fun vm₁ hW₁ => ⟨hf.1, hf.2, hPc (T.setVm vm₁) hT hW₁⟩)
  dsimp only [Pt.U, Pt.locs, Pt.cells, Pt.slots] at X' e1 e2 h1 h2 h3 st
  subst h1; subst h2; subst h3
  exact ⟨v, (T.setVm vm₁).calling g' mk (Value.ref b :: As).toArray, t, U', L, hT, X', hL, e1, e2, hq, st⟩
section
variable {y : MethodName} {bytes cc : ByteArray} {maxL nL mc ms n index : Nat} {ret : Option FieldType} {ws : List Cond} {rm : Room} {Pc : Array Value → State → Prop} {Qc : Array Value → State → Outcome → State → Prop} {XC : String → State → State → Prop} {free : Addr → Prop} {Ts : List Cond} {own C : String} {b : Addr} {As rest : List Value} {g : JFrame}
theorem vx_runVX {hh : List (Nat × Nat × Nat × Nat)} (S : CallFix p m c cc nL s args Ts own) (hM : vx_Met l y ws rm Pc Qc XC mc ms free) (cw : vx_CVW R s args own C index y bytes maxL ret hh ws rm mc ms n) (hp : PreV s H C b Pc As)
    (hg : g.method = m) (hn : As.length = n) (hsize : g.locals.size = nL) (hstack : g.stack = As.reverse ++ .ref b :: rest) (hW : 2 * g.monitorRoom + (rest.map fun v => v.category).sum ≤ 8) (hdg : decode cc g.pc = .ok (.invokevirtual index, 3)) (hf : cells + mc ≤ R.cells ∧ slots + ms ≤ R.slots) :
    vx_Run p l e R s m args below meth c H locs cells slots mc ms g rest (Qc (Value.ref b :: As).toArray) XC free := by
  obtain ⟨⟨hrc, hrs, hfr, hlo, hws, hcw⟩, hcode, hini, hy, hlen, hl, hin, hse⟩ := cw
  have hK : vx_Back l R p e below s args y 3 8 (PreOf R mc ms Pc) (PostOf Qc mc ms free) (vx_Post XC mc ms free) := vx_backW (hh := hh) (bytes := bytes) (maxL := maxL) (ret := ret) hM hp.1 hrc hrs hfr hlo hws hcw (fun a' U hW => word_at hW (Or.inl (by first | rfl | simp [Cond.onTables, Cond.keeps, Cond.steady])) hini)
  obtain ⟨hx, hb, hml, ho, -⟩ := S
  obtain ⟨-, ⟨cellB, hcB, hoB, hclB⟩, hPc⟩ := hp
  intro T hT X
  rcases vx_callVX X hx (C := C) (hh := hh) (bytes := bytes) (maxL := maxL) (ret := ret) ho hl hin hse hcode hy hK (by rw [hT]; exact hcB) hoB hclB hg (hsize.trans hml.symm) (argsL := As) (rest := rest) (fun sig h => hn.trans (hlen sig h)) hstack hW (by rw [hb]; exact hdg)
    (fun vm₁ hW₁ => ⟨hf.1, hf.2, hPc (T.setVm vm₁) hT hW₁⟩) with ⟨v, vm₁, ⟨U', l2, c2, s2⟩, hW₁, X', ⟨g', mk, t, L, e1, e2, hq, h1, hL, h2, h3⟩, st⟩ | ⟨q, vm₁, ⟨U', l2, c2, s2⟩, hW₁, X', ⟨g', mk, t, L, E, ce, e1, e2, hq, hce, hcv, hcl, h1, hL, h2, h3⟩, st⟩
  · dsimp only [Pt.U, Pt.locs, Pt.cells, Pt.slots] at X' e1 e2 h1 h2 h3 st
    subst h1; subst h2; subst h3
    exact Or.inl ⟨v, (T.setVm vm₁).calling g' mk (Value.ref b :: As).toArray, t, U', L, hT, X', hL, e1, e2, hq, st⟩
  · dsimp only [Pt.U, Pt.locs, Pt.cells, Pt.slots] at X' e1 e2 h1 h2 h3 st hcl
    subst h1; subst h2; subst h3
    exact Or.inr ⟨q, (T.setVm vm₁).calling g' mk (Value.ref b :: As).toArray, t, U', L, E, ce, hT, X', hL, e1, e2, hq, hce, hcv, vx_cls hW₁ hcl, st⟩
theorem vx_runSX {hh : List (Nat × Nat × Nat × Nat)} (S : CallFix p m c cc nL s args Ts own) (hM : vx_Met l y ws rm Pc Qc XC mc ms free) (cw : vx_CSW R s args own index y bytes maxL ret hh ws rm mc ms n) (hp : PreS s H Pc As)
    (hg : g.method = m) (hn : As.length = n) (hsize : g.locals.size = nL) (hstack : g.stack = As.reverse ++ rest) (hW : 2 * g.monitorRoom + (rest.map fun v => v.category).sum ≤ 8) (hdg : decode cc g.pc = .ok (.invokestatic index, 3)) (hf : cells + mc ≤ R.cells ∧ slots + ms ≤ R.slots) :
    vx_Run p l e R s m args below meth c H locs cells slots mc ms g rest (Qc As.toArray) XC free := by
  obtain ⟨⟨hrc, hrs, hfr, hlo, hws, hcw⟩, hcode, hini, hy, hlen, hl, hstt⟩ := cw
  have hK : vx_Back l R p e below s args y 3 8 (PreOf R mc ms Pc) (PostOf Qc mc ms free) (vx_Post XC mc ms free) := vx_backW (hh := hh) (bytes := bytes) (maxL := maxL) (ret := ret) hM hp.1 hrc hrs hfr hlo hws hcw (fun a' U hW => word_at hW (Or.inl (by first | rfl | simp [Cond.onTables, Cond.keeps, Cond.steady])) hini)
  obtain ⟨hx, hb, hml, ho, -⟩ := S
  intro T hT X
  rcases vx_callSX X hx (hh := hh) (bytes := bytes) (maxL := maxL) (ret := ret) ho hl hstt hini hcode hy hK hg (hsize.trans hml.symm) (argsL := As) (rest := rest) (fun sig h => hn.trans (hlen sig h)) hstack hW (by rw [hb]; exact hdg)
    (fun vm₁ hW₁ => ⟨hf.1, hf.2, hp.2 (T.setVm vm₁) hT hW₁⟩) with ⟨v, vm₁, ⟨U', l2, c2, s2⟩, hW₁, X', ⟨g', mk, t, L, e1, e2, hq, h1, hL, h2, h3⟩, st⟩ | ⟨q, vm₁, ⟨U', l2, c2, s2⟩, hW₁, X', ⟨g', mk, t, L, E, ce, e1, e2, hq, hce, hcv, hcl, h1, hL, h2, h3⟩, st⟩
  · dsimp only [Pt.U, Pt.locs, Pt.cells, Pt.slots] at X' e1 e2 h1 h2 h3 st
    subst h1; subst h2; subst h3
    exact Or.inl ⟨v, (T.setVm vm₁).calling g' mk As.toArray, t, U', L, hT, X', hL, e1, e2, hq, st⟩
  · dsimp only [Pt.U, Pt.locs, Pt.cells, Pt.slots] at X' e1 e2 h1 h2 h3 st hcl
    subst h1; subst h2; subst h3
    exact Or.inr ⟨q, (T.setVm vm₁).calling g' mk As.toArray, t, U', L, E, ce, hT, X', hL, e1, e2, hq, hce, hcv, vx_cls hW₁ hcl, st⟩
end
end VXH
theorem vx_ofWH {l : Launch} {y : MethodName} {ws ws' : List Cond} {rm : Room} {Pc : Array Value → State → Prop} {Qc : Array Value → State → Outcome → State → Prop} {XC : String → State → State → Prop} {mc ms : Nat} {free : Addr → Prop} {cc : ByteArray} {maxL : Nat} {ret : Option FieldType} {hh : List (Nat × Nat × Nat × Nat)}
    (hy : plainName y.cls = true) (hw : ws = Cond.codeWith y cc maxL ret hh :: ws')
    (body : ∀ p e s m args below meth c s₁, BodyLoose p l y (headSpec ws rm) cc maxL ret e s m args below meth c s₁ → c.maxLocals = maxL → Pc args s →
      W p l e (headSpec ws rm).room s m args below meth c s.heap [] 0 0 (vx_MQ below Qc XC args s mc ms free) (entryFrame m args maxL)) : vx_Met l y ws rm Pc Qc XC mc ms free := by
  refine MetFree.of_bodyS (code := cc) (maxLocals := maxL) (ret := ret) hy ?_ ?_
  · intro args s m h hn
    obtain ⟨m9, meth, c, hn9, h1, h2, h3, h4, -, h5, h6, -⟩ := Cond.codeWith_spec (atoms_spec (ws := ws) h _ (by rw [hw]; exact List.mem_cons_self))
    cases hn.symm.trans hn9
    exact ⟨meth, c, h1, h2, h3, h4, h5, h6⟩
  · intro p e s m args below meth c s₁ B hml hP _
    have hh0 : s₁.heap = s.heap := by rw [B.state]; rfl
    obtain ⟨t, a1, o, b1, b2, b3⟩ := body p e s m args below meth c s₁ B hml hP s₁ hh0 (Stand.of_body B)
    exact ⟨t, o, a1, b1, b2, b3⟩
/-! ===== END ===== -/
end
section
/-! THE PURE MACHINE. Cells stand in a list; a ref is virtual: 0 is the law's script, i + 1 the i-th cell that was made. -/
abbrev pj_C : Type := (Nat × vp_A) ⊕ (Nat × List Value)
/-- the cells, and whether the heap holds nothing else behind its base -/
abbrev pj_G : Type := List pj_C × Bool
abbrev pj_L : Type := List (Nat × Value)
/-- where the virtual places really are: of cells, of String constants (told as retAddr) -/
abbrev pj_A : Type := (Nat → Nat) × (Nat → Nat)
def pj_ad0 (b base : Nat) : Nat → Nat
  | 0 => b
  | i + 1 => base + i
def pj_ad (b : Nat × (Nat → Nat)) (base : Nat) : pj_A := (pj_ad0 b.1 base, b.2)
def pj_v (ad : pj_A) : Value → Value
  | .ref i => .ref (ad.1 i)
  | .int x => .int x
  | .long x => .long x
  | .float x => .float x
  | .double x => .double x
  | .null => .null
  | .retAddr x => .ref (ad.2 x)
def pj_a (ad : pj_A) (x : vp_A) : vp_A := (x.1, match x.2 with
  | .inl f => .inl f
  | .inr (.inl f) => .inr (.inl f)
  | .inr (.inr (.inl f)) => .inr (.inr (.inl f))
  | .inr (.inr (.inr (.inl f))) => .inr (.inr (.inr (.inl f)))
  | .inr (.inr (.inr (.inr f))) => .inr (.inr (.inr (.inr (fun j => (f j).map ad.1)))))
def pj_e (ad : pj_A) (cy : Nat → ClassId) : pj_C → va_E
  | .inl x => .inl (cy x.1, pj_a ad x.2)
  | .inr x => .inr (x.1, x.2.map (pj_v ad))
def pj_w (ad : pj_A) (cy : Nat → ClassId) : Nat → List pj_C → va_W
  | _, [] => []
  | k, c :: t => (ad.1 (k + 1), pj_e ad cy c) :: pj_w ad cy (k + 1) t
theorem pj_w_get (ad : pj_A) (cy : Nat → ClassId) : ∀ (σ : List pj_C) (k i : Nat), (pj_w ad cy k σ)[i]? = σ[i]?.map (fun c => (ad.1 (k + i + 1), pj_e ad cy c))
  | [], k, i => by simp [pj_w]
  | c :: t, k, 0 => by simp [pj_w]
  | c :: t, k, i + 1 => by
    have h := pj_w_get ad cy t (k + 1) i
    simp only [pj_w, List.getElem?_cons_succ, h]
    have e : k + 1 + i + 1 = k + (i + 1) + 1 := by omega
    rw [e]
theorem pj_w_set (ad : pj_A) (cy : Nat → ClassId) (c : pj_C) : ∀ (σ : List pj_C) (k i : Nat), (pj_w ad cy k σ).set i (ad.1 (k + i + 1), pj_e ad cy c) = pj_w ad cy k (σ.set i c)
  | [], k, i => by simp [pj_w]
  | d :: t, k, 0 => by simp [pj_w]
  | d :: t, k, i + 1 => by
    have h := pj_w_set ad cy c t (k + 1) i
    have e : k + 1 + i + 1 = k + (i + 1) + 1 := by omega
    rw [e] at h
    simp only [pj_w, List.set_cons_succ, h]
theorem pj_w_app (ad : pj_A) (cy : Nat → ClassId) (c : pj_C) : ∀ (σ : List pj_C) (k : Nat), pj_w ad cy k (σ ++ [c]) = pj_w ad cy k σ ++ [(ad.1 (k + σ.length + 1), pj_e ad cy c)]
  | [], k => by simp [pj_w]
  | d :: t, k => by
    have h := pj_w_app ad cy c t (k + 1)
    have e : k + 1 + t.length + 1 = k + (t.length + 1) + 1 := by omega
    rw [e] at h
    simp only [pj_w, List.cons_append, h, List.length_cons]
theorem pj_D (b : Nat × (Nat → Nat)) (base : Nat) (cy : Nat → ClassId) (σ : List pj_C) : va_D (fun q => base ≤ q) (pj_w (pj_ad b base) cy 0 σ) := by
  refine ⟨fun i j p q hi hj e => ?_, fun k q hk => ?_⟩
  · rw [pj_w_get] at hi hj
    obtain ⟨c, -, rfl⟩ := Option.map_eq_some_iff.mp hi
    obtain ⟨d, -, rfl⟩ := Option.map_eq_some_iff.mp hj
    have e : base + (0 + i) = base + (0 + j) := e
    omega
  · rw [pj_w_get] at hk
    obtain ⟨c, -, rfl⟩ := Option.map_eq_some_iff.mp hk
    show base ≤ base + (0 + k)
    omega
/-- the cell at a virtual place -/
def pj_get (G : pj_G) : Nat → Option pj_C
  | 0 => none
  | i + 1 => G.1[i]?
def pj_put (G : pj_G) (a : Nat) (c : pj_C) : pj_G := (G.1.set (a - 1) c, G.2)
/-- the locals: read, written -/
def pj_ld : pj_L → Nat → Option Value
  | [], _ => none
  | (k, v) :: t, i => if k = i then some v else pj_ld t i
theorem pj_ld_mem : ∀ {L : pj_L} {i : Nat} {v : Value}, pj_ld L i = some v → (i, v) ∈ L
  | [], i, v, h => by simp [pj_ld] at h
  | (k, w) :: t, i, v, h => by
    simp only [pj_ld] at h
    by_cases e : k = i
    · rw [if_pos e] at h
      cases h
      rw [e]
      exact List.mem_cons_self
    · rw [if_neg e] at h
      exact List.mem_cons_of_mem _ (pj_ld_mem h)
def pj_f1 (i : Nat) (q : Nat × Value) : Bool := !(q.1 == i) && !(q.1 + 1 == i && q.2.category == 2)
def pj_f2 (i : Nat) (q : Nat × Value) : Bool := !(q.1 == i) && (!(q.1 == i + 1) && !(q.1 + 1 == i && q.2.category == 2))
def pj_st1 (L : pj_L) (i : Nat) (v : Value) : pj_L := (i, v) :: L.filter (pj_f1 i)
def pj_st2 (L : pj_L) (i : Nat) (v : Value) : pj_L := (i, v) :: L.filter (pj_f2 i)
def pj_l (ad : pj_A) (L : pj_L) : pj_L := L.map (fun q => (q.1, pj_v ad q.2))
theorem pj_v_cat (ad : pj_A) (v : Value) : (pj_v ad v).category = v.category := by cases v <;> rfl
theorem pj_l_f (ad : pj_A) (f : Nat × Value → Bool) (hf : ∀ q : Nat × Value, f (q.1, pj_v ad q.2) = f q) : ∀ L : pj_L, (pj_l ad L).filter f = pj_l ad (L.filter f)
  | [] => rfl
  | q :: t => by
    have h := pj_l_f ad f hf t
    unfold pj_l at h ⊢
    rw [List.map_cons, List.filter_cons, hf q, h, List.filter_cons]
    by_cases e : f q = true
    · rw [if_pos e, if_pos e, List.map_cons]
    · rw [if_neg e, if_neg e]
theorem pj_l_1 (ad : pj_A) (L : pj_L) (i : Nat) (v w : Value) (h : pj_v ad v = w) : (i, w) :: (pj_l ad L).filter (fun q => !(q.1 == i) && !(q.1 + 1 == i && q.2.category == 2)) = pj_l ad (pj_st1 L i v) := by
  have e : (pj_l ad L).filter (pj_f1 i) = pj_l ad (L.filter (pj_f1 i)) := pj_l_f ad (pj_f1 i) (fun q => by simp only [pj_f1, pj_v_cat]) L
  show (i, w) :: (pj_l ad L).filter (pj_f1 i) = _
  rw [e, ← h]
  rfl
theorem pj_l_2 (ad : pj_A) (L : pj_L) (i : Nat) (v w : Value) (h : pj_v ad v = w) : (i, w) :: (pj_l ad L).filter (fun q => !(q.1 == i) && (!(q.1 == i + 1) && !(q.1 + 1 == i && q.2.category == 2))) = pj_l ad (pj_st2 L i v) := by
  have e : (pj_l ad L).filter (pj_f2 i) = pj_l ad (L.filter (pj_f2 i)) := pj_l_f ad (pj_f2 i) (fun q => by simp only [pj_f2, pj_v_cat]) L
  show (i, w) :: (pj_l ad L).filter (pj_f2 i) = _
  rw [e, ← h]
  rfl
theorem pj_l_at (ad : pj_A) {ls : Array Slot} {nL : Nat} {L : pj_L} (h : lv_has ls nL (pj_l ad L)) {i : Nat} {v : Value} (e : pj_ld L i = some v) : ls[i]? = some (.val (pj_v ad v)) :=
  h.2.2 (i, pj_v ad v) (List.mem_map.mpr ⟨(i, v), pj_ld_mem e, rfl⟩)
theorem pj_l_ix (ad : pj_A) {L : pj_L} {i : Nat} {v : Value} (e : pj_ld L i = some v) : ∃ k : Nat, (pj_l ad L)[k]? = some (i, pj_v ad v) := by
  have h : (i, pj_v ad v) ∈ pj_l ad L := List.mem_map.mpr ⟨(i, v), pj_ld_mem e, rfl⟩
  exact List.getElem?_of_mem h
end
section
/-! STEPS THAT SEE THE STACK ALONE -/
def pj_bi (f : Int32 → Int32 → Int32) : List Value → Option (List Value)
  | .int y :: .int x :: r => some (.int (f x y) :: r)
  | _ => none
def pj_bl (f : Int64 → Int64 → Int64) : List Value → Option (List Value)
  | .long y :: .long x :: r => some (.long (f x y) :: r)
  | _ => none
def pj_di (f : Int32 → Int32 → Int32) : List Value → Option (List Value)
  | .int y :: .int x :: r => if y = 0 then none else some (.int (f x y) :: r)
  | _ => none
def pj_dl (f : Int64 → Int64 → Int64) : List Value → Option (List Value)
  | .long y :: .long x :: r => if y = 0 then none else some (.long (f x y) :: r)
  | _ => none
def pj_ui (f : Int32 → Int32) : List Value → Option (List Value)
  | .int x :: r => some (.int (f x) :: r)
  | _ => none
def pj_i2l : List Value → Option (List Value)
  | .int x :: r => some (.long x.toInt64 :: r)
  | _ => none
def pj_l2i : List Value → Option (List Value)
  | .long x :: r => some (.int x.toInt32 :: r)
  | _ => none
def pj_lcmp : List Value → Option (List Value)
  | .long y :: .long x :: r => some (.int (lg_cmp x y) :: r)
  | _ => none
def pj_dup : List Value → Option (List Value)
  | v :: r => if v.category = 1 then some (v :: v :: r) else none
  | _ => none
def pj_pop : List Value → Option (List Value)
  | v :: r => if v.category = 1 then some r else none
  | _ => none
def pj_dup2 : List Value → Option (List Value)
  | .int y :: x :: r => if x.category = 1 then some (.int y :: x :: .int y :: x :: r) else none
  | .long y :: r => some (.long y :: .long y :: r)
  | _ => none
theorem pj_bi_s {f : Int32 → Int32 → Int32} {S S' : List Value} (h : pj_bi f S = some S') : ∃ x y r, S = .int y :: .int x :: r ∧ S' = .int (f x y) :: r := by
  unfold pj_bi at h
  split at h
  · cases h; exact ⟨_, _, _, rfl, rfl⟩
  · cases h
theorem pj_bl_s {f : Int64 → Int64 → Int64} {S S' : List Value} (h : pj_bl f S = some S') : ∃ x y r, S = .long y :: .long x :: r ∧ S' = .long (f x y) :: r := by
  unfold pj_bl at h
  split at h
  · cases h; exact ⟨_, _, _, rfl, rfl⟩
  · cases h
theorem pj_di_s {f : Int32 → Int32 → Int32} {S S' : List Value} (h : pj_di f S = some S') : ∃ x y r, S = .int y :: .int x :: r ∧ S' = .int (f x y) :: r ∧ ¬ y = 0 := by
  unfold pj_di at h
  split at h
  · split at h
    · cases h
    · cases h; exact ⟨_, _, _, rfl, rfl, by assumption⟩
  · cases h
theorem pj_dl_s {f : Int64 → Int64 → Int64} {S S' : List Value} (h : pj_dl f S = some S') : ∃ x y r, S = .long y :: .long x :: r ∧ S' = .long (f x y) :: r ∧ ¬ y = 0 := by
  unfold pj_dl at h
  split at h
  · split at h
    · cases h
    · cases h; exact ⟨_, _, _, rfl, rfl, by assumption⟩
  · cases h
theorem pj_ui_s {f : Int32 → Int32} {S S' : List Value} (h : pj_ui f S = some S') : ∃ x r, S = .int x :: r ∧ S' = .int (f x) :: r := by
  unfold pj_ui at h
  split at h
  · cases h; exact ⟨_, _, rfl, rfl⟩
  · cases h
def pj_k (i : Instr) (S : List Value) : Option (List Value) := match i with
  | .iconst n => some (.int (Int32.ofInt n) :: S)
  | .bipush n => some (.int (Int8.ofInt n).toInt32 :: S)
  | .sipush n => some (.int (Int16.ofInt n).toInt32 :: S)
  | .lconst n => some (.long (Int64.ofNat (n : Nat)) :: S)
  | .iadd => pj_bi (fun x y => x + y) S
  | .isub => pj_bi (fun x y => x - y) S
  | .imul => pj_bi (fun x y => x * y) S
  | .iand => pj_bi (fun x y => x &&& y) S
  | .ior => pj_bi (fun x y => x ||| y) S
  | .ixor => pj_bi (fun x y => x ^^^ y) S
  | .ishl => pj_bi (fun x y => x <<< (y &&& 31)) S
  | .ishr => pj_bi (fun x y => x >>> (y &&& 31)) S
  | .iushr => pj_bi (fun x y => (x.toUInt32 >>> (y.toUInt32 &&& Int32.toUInt32 31)).toInt32) S
  | .ladd => pj_bl (fun x y => x + y) S
  | .lsub => pj_bl (fun x y => x - y) S
  | .lmul => pj_bl (fun x y => x * y) S
  | .idiv => pj_di (fun x y => x / y) S
  | .irem => pj_di (fun x y => x - x / y * y) S
  | .ldiv => pj_dl (fun x y => x / y) S
  | .lrem => pj_dl (fun x y => x - x / y * y) S
  | .ineg => pj_ui (fun x => -x) S
  | .i2b => pj_ui (fun x => x.toInt8.toInt32) S
  | .i2s => pj_ui (fun x => x.toInt16.toInt32) S
  | .i2c => pj_ui (fun x => (x.toUInt32 % 65536).toInt32) S
  | .i2l => pj_i2l S
  | .l2i => pj_l2i S
  | .lcmp => pj_lcmp S
  | .dup => pj_dup S
  | .pop => pj_pop S
  | .dup2 => pj_dup2 S
  | _ => none
/-- the length of an instruction -/
def pj_len : Instr → Nat
  | .bipush _ => 2 | .sipush _ => 3 | .iload _ => 2 | .lload _ => 2 | .aload _ => 2 | .istore _ => 2 | .lstore _ => 2 | .astore _ => 2 | .iinc _ _ => 3
  | .ifCond _ _ => 3 | .if_icmp _ _ => 3 | .goto _ => 3 | .getfield _ => 3 | .putfield _ => 3 | .new _ => 3 | .newarray _ => 2 | .anewarray _ => 3
  | .invokevirtual _ => 3 | .invokespecial _ => 3 | .invokestatic _ => 3 | .ldc _ => 2 | .ldc_w _ => 3 | .ldc2_w _ => 3 | _ => 1
section PJK
variable {p : Program} {l : Launch} {e : Env} {R : Room} {s : State} {m : MethodId} {args : Array Value} {below : List Frame} {meth : Method} {c : Code} {H : Heap} {locs : List Loc} {cells slots : Nat} {Q : State → Prop}
variable {cc : ByteArray} {pc : Nat} {ls : Array Slot}
set_option maxHeartbeats 4000000 in
theorem pj_k_snd (ad : pj_A) (hx : p.tables.exec = Jvm.exec) (hb : c.code = cc) {i : Instr} {S S' : List Value} (hd : decode cc pc = .ok (i, pj_len i)) (h : pj_k i S = some S')
    (k : W p l e R s m args below meth c H locs cells slots Q (F0 m (pc + pj_len i) ls (S'.map (pj_v ad)))) : W p l e R s m args below meth c H locs cells slots Q (F0 m pc ls (S.map (pj_v ad))) := by
  cases i
  case iconst n => cases h; exact lv_iconst hx hb hd rfl k
  case bipush n => cases h; exact lv_bipush hx hb hd rfl k
  case sipush n => cases h; exact lv_sipush hx hb hd rfl k
  case lconst n => cases h; exact lv_lconst hx hb hd rfl k
  case iadd =>
    obtain ⟨x, y, r, rfl, rfl⟩ := pj_bi_s h
    exact lv_iadd hx hb hd k
  case isub =>
    obtain ⟨x, y, r, rfl, rfl⟩ := pj_bi_s h
    exact lv_isub hx hb hd k
  case imul =>
    obtain ⟨x, y, r, rfl, rfl⟩ := pj_bi_s h
    exact lv_imul hx hb hd k
  case iand =>
    obtain ⟨x, y, r, rfl, rfl⟩ := pj_bi_s h
    exact lv_iand hx hb hd k
  case ior =>
    obtain ⟨x, y, r, rfl, rfl⟩ := pj_bi_s h
    exact lv_ior hx hb hd k
  case ixor =>
    obtain ⟨x, y, r, rfl, rfl⟩ := pj_bi_s h
    exact lv_ixor hx hb hd k
  case ishl =>
    obtain ⟨x, y, r, rfl, rfl⟩ := pj_bi_s h
    exact lv_ishl hx hb hd k
  case ishr =>
    obtain ⟨x, y, r, rfl, rfl⟩ := pj_bi_s h
    exact lv_ishr hx hb hd k
  case iushr =>
    obtain ⟨x, y, r, rfl, rfl⟩ := pj_bi_s h
    exact lv_iushr hx hb hd rfl k
  case ladd =>
    obtain ⟨x, y, r, rfl, rfl⟩ := pj_bl_s h
    exact lv_ladd hx hb hd k
  case lsub =>
    obtain ⟨x, y, r, rfl, rfl⟩ := pj_bl_s h
    exact lv_lsub hx hb hd k
  case lmul =>
    obtain ⟨x, y, r, rfl, rfl⟩ := pj_bl_s h
    exact lv_lmul hx hb hd k
  case idiv =>
    obtain ⟨x, y, r, rfl, rfl, h0⟩ := pj_di_s h
    exact lv_idiv hx hb hd h0 k
  case irem =>
    obtain ⟨x, y, r, rfl, rfl, h0⟩ := pj_di_s h
    exact lv_irem hx hb hd h0 k
  case ldiv =>
    obtain ⟨x, y, r, rfl, rfl, h0⟩ := pj_dl_s h
    exact lv_ldiv hx hb hd h0 k
  case lrem =>
    obtain ⟨x, y, r, rfl, rfl, h0⟩ := pj_dl_s h
    exact lv_lrem hx hb hd h0 k
  case ineg =>
    obtain ⟨x, r, rfl, rfl⟩ := pj_ui_s h
    exact lv_ineg hx hb hd k
  case i2b =>
    obtain ⟨x, r, rfl, rfl⟩ := pj_ui_s h
    exact lv_i2b hx hb hd rfl k
  case i2s =>
    obtain ⟨x, r, rfl, rfl⟩ := pj_ui_s h
    exact lv_i2s hx hb hd rfl k
  case i2c =>
    obtain ⟨x, r, rfl, rfl⟩ := pj_ui_s h
    exact lv_i2c hx hb hd rfl k
  case i2l =>
    have h : pj_i2l S = some S' := h
    unfold pj_i2l at h
    split at h
    · cases h; exact lv_i2l hx hb hd rfl k
    · cases h
  case l2i =>
    have h : pj_l2i S = some S' := h
    unfold pj_l2i at h
    split at h
    · cases h; exact lv_l2i hx hb hd rfl k
    · cases h
  case lcmp =>
    have h : pj_lcmp S = some S' := h
    unfold pj_lcmp at h
    split at h
    · cases h; exact W.lcmp hx hb hd k
    · cases h
  case dup =>
    have h : pj_dup S = some S' := h
    unfold pj_dup at h
    split at h
    · split at h
      · cases h; exact lv_dup hx hb hd (by rw [pj_v_cat]; assumption) k
      · cases h
    · cases h
  case pop =>
    have h : pj_pop S = some S' := h
    unfold pj_pop at h
    split at h
    · split at h
      · cases h; exact lv_pop hx hb hd (by rw [pj_v_cat]; assumption) k
      · cases h
    · cases h
  case dup2 =>
    have h : pj_dup2 S = some S' := h
    unfold pj_dup2 at h
    split at h
    · split at h
      · cases h; exact lv_dup2_11 hx hb hd rfl (by rw [pj_v_cat]; assumption) k
      · cases h
    · cases h; exact lv_dup2_2 hx hb hd rfl k
    · cases h
  all_goals cases (show (none : Option (List Value)) = some S' from h)
end PJK
/-! STEPS THAT SEE THE LOCALS -/
def pj_li (L : pj_L) (i : Nat) (S : List Value) : Option (pj_L × List Value) := match pj_ld L i with
  | some (.int x) => some (L, .int x :: S)
  | _ => none
def pj_ll (L : pj_L) (i : Nat) (S : List Value) : Option (pj_L × List Value) := match pj_ld L i with
  | some (.long x) => some (L, .long x :: S)
  | _ => none
def pj_la (L : pj_L) (i : Nat) (S : List Value) : Option (pj_L × List Value) := match pj_ld L i with
  | some (.ref x) => some (L, .ref x :: S)
  | some (.retAddr x) => some (L, .retAddr x :: S)
  | _ => none
def pj_si (nL : Nat) (L : pj_L) (i : Nat) : List Value → Option (pj_L × List Value)
  | .int x :: r => if i < nL then some (pj_st1 L i (.int x), r) else none
  | _ => none
def pj_sl (nL : Nat) (L : pj_L) (i : Nat) : List Value → Option (pj_L × List Value)
  | .long x :: r => if i + 1 < nL then some (pj_st2 L i (.long x), r) else none
  | _ => none
def pj_sa (nL : Nat) (L : pj_L) (i : Nat) : List Value → Option (pj_L × List Value)
  | .ref x :: r => if i < nL then some (pj_st1 L i (.ref x), r) else none
  | _ => none
def pj_ic (nL : Nat) (L : pj_L) (i : Nat) (n : Int) (S : List Value) : Option (pj_L × List Value) := match pj_ld L i with
  | some (.int x) => if i < nL then some (pj_st1 L i (.int (x + Int32.ofInt n)), S) else none
  | _ => none
def pj_kl (nL : Nat) (i : Instr) (L : pj_L) (S : List Value) : Option (pj_L × List Value) := match i with
  | .iload_n k => pj_li L k S
  | .iload k => pj_li L k S
  | .lload_n k => pj_ll L k S
  | .lload k => pj_ll L k S
  | .aload_n k => pj_la L k S
  | .aload k => pj_la L k S
  | .istore_n k => pj_si nL L k S
  | .istore k => pj_si nL L k S
  | .lstore_n k => pj_sl nL L k S
  | .lstore k => pj_sl nL L k S
  | .astore_n k => pj_sa nL L k S
  | .astore k => pj_sa nL L k S
  | .iinc k n => pj_ic nL L k n S
  | _ => none
theorem pj_li_s {L L' : pj_L} {i : Nat} {S S' : List Value} (h : pj_li L i S = some (L', S')) : ∃ x, pj_ld L i = some (.int x) ∧ L' = L ∧ S' = .int x :: S := by
  unfold pj_li at h
  split at h
  · cases h; exact ⟨_, by assumption, rfl, rfl⟩
  · cases h
theorem pj_ll_s {L L' : pj_L} {i : Nat} {S S' : List Value} (h : pj_ll L i S = some (L', S')) : ∃ x, pj_ld L i = some (.long x) ∧ L' = L ∧ S' = .long x :: S := by
  unfold pj_ll at h
  split at h
  · cases h; exact ⟨_, by assumption, rfl, rfl⟩
  · cases h
theorem pj_la_s (ad : pj_A) {L L' : pj_L} {i : Nat} {S S' : List Value} (h : pj_la L i S = some (L', S')) : ∃ x q, pj_ld L i = some x ∧ pj_v ad x = .ref q ∧ L' = L ∧ S' = x :: S := by
  unfold pj_la at h
  split at h
  · cases h; exact ⟨_, _, by assumption, rfl, rfl, rfl⟩
  · cases h; exact ⟨_, _, by assumption, rfl, rfl, rfl⟩
  · cases h
theorem pj_si_s {nL : Nat} {L L' : pj_L} {i : Nat} {S S' : List Value} (h : pj_si nL L i S = some (L', S')) : ∃ x, S = .int x :: S' ∧ i < nL ∧ L' = pj_st1 L i (.int x) := by
  unfold pj_si at h
  split at h
  · split at h
    · cases h; exact ⟨_, rfl, by assumption, rfl⟩
    · cases h
  · cases h
theorem pj_sl_s {nL : Nat} {L L' : pj_L} {i : Nat} {S S' : List Value} (h : pj_sl nL L i S = some (L', S')) : ∃ x, S = .long x :: S' ∧ i + 1 < nL ∧ L' = pj_st2 L i (.long x) := by
  unfold pj_sl at h
  split at h
  · split at h
    · cases h; exact ⟨_, rfl, by assumption, rfl⟩
    · cases h
  · cases h
theorem pj_sa_s {nL : Nat} {L L' : pj_L} {i : Nat} {S S' : List Value} (h : pj_sa nL L i S = some (L', S')) : ∃ x, S = .ref x :: S' ∧ i < nL ∧ L' = pj_st1 L i (.ref x) := by
  unfold pj_sa at h
  split at h
  · split at h
    · cases h; exact ⟨_, rfl, by assumption, rfl⟩
    · cases h
  · cases h
theorem pj_ic_s {nL : Nat} {L L' : pj_L} {i : Nat} {n : Int} {S S' : List Value} (h : pj_ic nL L i n S = some (L', S')) : ∃ x, pj_ld L i = some (.int x) ∧ i < nL ∧ L' = pj_st1 L i (.int (x + Int32.ofInt n)) ∧ S' = S := by
  unfold pj_ic at h
  split at h
  · split at h
    · cases h; exact ⟨_, by assumption, by assumption, rfl, rfl⟩
    · cases h
  · cases h
section PJKL
variable {p : Program} {l : Launch} {e : Env} {R : Room} {s : State} {m : MethodId} {args : Array Value} {below : List Frame} {meth : Method} {c : Code} {H : Heap} {locs : List Loc} {cells slots : Nat} {Q : State → Prop}
variable {cc : ByteArray} {pc nL : Nat} {ls : Array Slot}
set_option maxHeartbeats 4000000 in
theorem pj_kl_snd (ad : pj_A) (hx : p.tables.exec = Jvm.exec) (hb : c.code = cc) {i : Instr} {L L' : pj_L} {S S' : List Value} (hl : lv_has ls nL (pj_l ad L)) (hd : decode cc pc = .ok (i, pj_len i)) (h : pj_kl nL i L S = some (L', S'))
    (k : ∀ ls' : Array Slot, lv_has ls' nL (pj_l ad L') → W p l e R s m args below meth c H locs cells slots Q (F0 m (pc + pj_len i) ls' (S'.map (pj_v ad)))) : W p l e R s m args below meth c H locs cells slots Q (F0 m pc ls (S.map (pj_v ad))) := by
  cases i
  case aload_n j =>
    obtain ⟨x, q, g, hq, rfl, rfl⟩ := pj_la_s ad h
    have k1 := k ls hl
    rw [List.map_cons, hq] at k1
    exact lv_aload_n hx hb hd rfl (by rw [← hq]; exact pj_l_at ad hl g) k1
  case aload j =>
    obtain ⟨x, q, g, hq, rfl, rfl⟩ := pj_la_s ad h
    have k1 := k ls hl
    rw [List.map_cons, hq] at k1
    exact lv_aload hx hb hd (by rw [← hq]; exact pj_l_at ad hl g) k1
  case iload_n j =>
    obtain ⟨x, g, rfl, rfl⟩ := pj_li_s h
    exact lv_iload_n hx hb hd rfl (pj_l_at ad hl g) (k ls hl)
  case iload j =>
    obtain ⟨x, g, rfl, rfl⟩ := pj_li_s h
    exact lv_iload hx hb hd (pj_l_at ad hl g) (k ls hl)
  case lload_n j =>
    obtain ⟨x, g, rfl, rfl⟩ := pj_ll_s h
    exact lv_lload_n hx hb hd rfl (pj_l_at ad hl g) (k ls hl)
  case lload j =>
    obtain ⟨x, g, rfl, rfl⟩ := pj_ll_s h
    exact lv_lload hx hb hd (pj_l_at ad hl g) (k ls hl)
  case istore_n j =>
    obtain ⟨x, rfl, g, rfl⟩ := pj_si_s h
    exact lv_istore_n hx hb hd rfl hl g (pj_l_1 ad L j (.int x) _ rfl) k
  case istore j =>
    obtain ⟨x, rfl, g, rfl⟩ := pj_si_s h
    exact lv_istore hx hb hd hl g (pj_l_1 ad L j (.int x) _ rfl) k
  case lstore_n j =>
    obtain ⟨x, rfl, g, rfl⟩ := pj_sl_s h
    exact lv_lstore_n hx hb hd rfl hl g (pj_l_2 ad L j (.long x) _ rfl) k
  case lstore j =>
    obtain ⟨x, rfl, g, rfl⟩ := pj_sl_s h
    exact lv_lstore hx hb hd hl g (pj_l_2 ad L j (.long x) _ rfl) k
  case astore_n j =>
    obtain ⟨x, rfl, g, rfl⟩ := pj_sa_s h
    exact lv_astore_n hx hb hd rfl hl g (pj_l_1 ad L j (.ref x) _ rfl) k
  case astore j =>
    obtain ⟨x, rfl, g, rfl⟩ := pj_sa_s h
    exact lv_astore hx hb hd hl g (pj_l_1 ad L j (.ref x) _ rfl) k
  case iinc j n =>
    obtain ⟨x, g1, g2, rfl, rfl⟩ := pj_ic_s h
    obtain ⟨q, hq⟩ := pj_l_ix ad g1
    exact lv_iinc hx hb hd hl hq rfl g2 (pj_l_1 ad L j (.int (x + Int32.ofInt n)) _ rfl) k
  all_goals cases (show (none : Option (pj_L × List Value)) = some (L', S') from h)
end PJKL
/-! BRANCHES: the target stands in the table -/
def pj_c1 : Jvm.ClassFile.Cond → Int32 → Int32 → Bool
  | .eq, x, y => decide (x = y)
  | .ne, x, y => decide (¬ x = y)
  | .lt, x, y => decide (x < y)
  | .ge, x, y => decide (y ≤ x)
  | .gt, x, y => decide (y < x)
  | .le, x, y => decide (x ≤ y)

def pj_kb (i : Instr) (tgt pc : Nat) (S : List Value) : Option (Nat × List Value) := match i with
  | .goto _ => some (tgt, S)
  | .ifCond cd _ => (match S with
    | .int x :: r => some (if pj_c1 cd x 0 then tgt else pc + 3, r)
    | _ => none)
  | .if_icmp cd _ => (match S with
    | .int y :: .int x :: r => some (if pj_c1 cd x y then tgt else pc + 3, r)
    | _ => none)
  | .tableswitch dflt lo hi offs => (match S with
    | .int x :: r => if x.toInt < lo ∨ hi < x.toInt then (if 0 ≤ (pc : Int) + dflt then some (((pc : Int) + dflt).toNat, r) else none)
      else (match offs[(x.toInt - lo).toNat]? with
        | some off => if 0 ≤ (pc : Int) + off then some (((pc : Int) + off).toNat, r) else none
        | none => none)
    | _ => none)
  | .lookupswitch dflt ps => (match S with
    | .int x :: r => if 0 ≤ (pc : Int) + Op.lookupswitch.offset ps.toList dflt x.toInt then some (((pc : Int) + Op.lookupswitch.offset ps.toList dflt x.toInt).toNat, r) else none
    | _ => none)
  | _ => none
/-- what the table must hold of a branch -/
def pj_okb (i : Instr) (tgt pc : Nat) : Bool := match i with
  | .goto off => decide ((pc : Int) + off = (tgt : Int))
  | .ifCond _ off => decide ((pc : Int) + off = (tgt : Int))
  | .if_icmp _ off => decide ((pc : Int) + off = (tgt : Int))
  | .lookupswitch _ ps => (ps.toList.zip (ps.toList.drop 1)).all (fun (a, next) => a.1 < next.1)
  | _ => true
section PJKB
variable {p : Program} {l : Launch} {e : Env} {R : Room} {s : State} {m : MethodId} {args : Array Value} {below : List Frame} {meth : Method} {c : Code} {H : Heap} {locs : List Loc} {cells slots : Nat} {Q : State → Prop}
variable {cc : ByteArray} {pc tgt pc' len : Nat} {ls : Array Slot}
set_option maxHeartbeats 4000000 in
theorem pj_kb_snd (ad : pj_A) (hx : p.tables.exec = Jvm.exec) (hb : c.code = cc) {i : Instr} {S S' : List Value} (hd : decode cc pc = .ok (i, len)) (hlen : (match i with | .tableswitch .. => True | .lookupswitch .. => True | _ => len = pj_len i)) (hok : pj_okb i tgt pc = true) (h : pj_kb i tgt pc S = some (pc', S'))
    (k : W p l e R s m args below meth c H locs cells slots Q (F0 m pc' ls (S'.map (pj_v ad)))) : W p l e R s m args below meth c H locs cells slots Q (F0 m pc ls (S.map (pj_v ad))) := by
  cases i
  case goto off =>
    cases h
    have hlen : len = 3 := hlen
    subst hlen
    exact lv_goto hx hb hd (of_decide_eq_true hok) k
  case ifCond cd off =>
    have hlen : len = 3 := hlen
    subst hlen
    have ht : (pc : Int) + off = (tgt : Int) := of_decide_eq_true hok
    simp only [pj_kb] at h
    split at h
    · cases h
      cases cd
      case eq => exact lv_if_eq hx hb hd ht (fun q => by simpa only [pj_c1, q, Bool.false_eq_true, decide_true, decide_false, if_true, if_false, not_true_eq_false, not_false_eq_true, decide_not] using k) (fun q => by simpa only [pj_c1, q, Bool.false_eq_true, decide_true, decide_false, if_true, if_false, not_true_eq_false, not_false_eq_true, decide_not] using k)
      case ne => exact lv_if_ne hx hb hd ht (fun q => by simpa only [pj_c1, q, Bool.false_eq_true, decide_true, decide_false, if_true, if_false, not_true_eq_false, not_false_eq_true, decide_not] using k) (fun q => by simpa only [pj_c1, q, Bool.false_eq_true, decide_true, decide_false, if_true, if_false, not_true_eq_false, not_false_eq_true, decide_not] using k)
      case lt => exact lv_if_lt hx hb hd ht (fun q => by simpa only [pj_c1, q, Bool.false_eq_true, decide_true, decide_false, if_true, if_false, not_true_eq_false, not_false_eq_true, decide_not] using k) (fun q => by simpa only [pj_c1, q, Bool.false_eq_true, decide_true, decide_false, if_true, if_false, not_true_eq_false, not_false_eq_true, decide_not] using k)
      case ge => exact lv_if_ge hx hb hd ht (fun q => by simpa only [pj_c1, q, Bool.false_eq_true, decide_true, decide_false, if_true, if_false, not_true_eq_false, not_false_eq_true, decide_not] using k) (fun q => by simpa only [pj_c1, q, Bool.false_eq_true, decide_true, decide_false, if_true, if_false, not_true_eq_false, not_false_eq_true, decide_not] using k)
      case gt => exact lv_if_gt hx hb hd ht (fun q => by simpa only [pj_c1, q, Bool.false_eq_true, decide_true, decide_false, if_true, if_false, not_true_eq_false, not_false_eq_true, decide_not] using k) (fun q => by simpa only [pj_c1, q, Bool.false_eq_true, decide_true, decide_false, if_true, if_false, not_true_eq_false, not_false_eq_true, decide_not] using k)
      case le => exact lv_if_le hx hb hd ht (fun q => by simpa only [pj_c1, q, Bool.false_eq_true, decide_true, decide_false, if_true, if_false, not_true_eq_false, not_false_eq_true, decide_not] using k) (fun q => by simpa only [pj_c1, q, Bool.false_eq_true, decide_true, decide_false, if_true, if_false, not_true_eq_false, not_false_eq_true, decide_not] using k)
    · cases h
  case if_icmp cd off =>
    have hlen : len = 3 := hlen
    subst hlen
    have ht : (pc : Int) + off = (tgt : Int) := of_decide_eq_true hok
    simp only [pj_kb] at h
    split at h
    · cases h
      cases cd
      case eq => exact lv_icmp_eq hx hb hd ht (fun q => by simpa only [pj_c1, q, Bool.false_eq_true, decide_true, decide_false, if_true, if_false, not_true_eq_false, not_false_eq_true, decide_not] using k) (fun q => by simpa only [pj_c1, q, Bool.false_eq_true, decide_true, decide_false, if_true, if_false, not_true_eq_false, not_false_eq_true, decide_not] using k)
      case ne => exact lv_icmp_ne hx hb hd ht (fun q => by simpa only [pj_c1, q, Bool.false_eq_true, decide_true, decide_false, if_true, if_false, not_true_eq_false, not_false_eq_true, decide_not] using k) (fun q => by simpa only [pj_c1, q, Bool.false_eq_true, decide_true, decide_false, if_true, if_false, not_true_eq_false, not_false_eq_true, decide_not] using k)
      case lt => exact lv_icmp_lt hx hb hd ht (fun q => by simpa only [pj_c1, q, Bool.false_eq_true, decide_true, decide_false, if_true, if_false, not_true_eq_false, not_false_eq_true, decide_not] using k) (fun q => by simpa only [pj_c1, q, Bool.false_eq_true, decide_true, decide_false, if_true, if_false, not_true_eq_false, not_false_eq_true, decide_not] using k)
      case ge => exact lv_icmp_ge hx hb hd ht (fun q => by simpa only [pj_c1, q, Bool.false_eq_true, decide_true, decide_false, if_true, if_false, not_true_eq_false, not_false_eq_true, decide_not] using k) (fun q => by simpa only [pj_c1, q, Bool.false_eq_true, decide_true, decide_false, if_true, if_false, not_true_eq_false, not_false_eq_true, decide_not] using k)
      case gt => exact lv_icmp_gt hx hb hd ht (fun q => by simpa only [pj_c1, q, Bool.false_eq_true, decide_true, decide_false, if_true, if_false, not_true_eq_false, not_false_eq_true, decide_not] using k) (fun q => by simpa only [pj_c1, q, Bool.false_eq_true, decide_true, decide_false, if_true, if_false, not_true_eq_false, not_false_eq_true, decide_not] using k)
      case le => exact lv_icmp_le hx hb hd ht (fun q => by simpa only [pj_c1, q, Bool.false_eq_true, decide_true, decide_false, if_true, if_false, not_true_eq_false, not_false_eq_true, decide_not] using k) (fun q => by simpa only [pj_c1, q, Bool.false_eq_true, decide_true, decide_false, if_true, if_false, not_true_eq_false, not_false_eq_true, decide_not] using k)
    · cases h
  case tableswitch dflt lo hi offs =>
    simp only [pj_kb] at h
    split at h
    · split at h
      · split at h
        · cases h
          rename_i h1 h2
          exact lv_tableOut hx hb hd h1 (Int.toNat_of_nonneg h2).symm k
        · cases h
      · split at h
        · split at h
          · cases h
            rename_i h1 _ off h2 h3
            exact lv_tableIn hx hb hd (fun z => h1 (Or.inl z)) (fun z => h1 (Or.inr z)) h2 (Int.toNat_of_nonneg h3).symm k
          · cases h
        · cases h
    · cases h
  case lookupswitch dflt ps =>
    simp only [pj_kb] at h
    split at h
    · split at h
      · cases h
        rename_i h1
        exact lv_lookup hx hb hd hok rfl (Int.toNat_of_nonneg h1).symm k
      · cases h
    · cases h
  all_goals cases (show (none : Option (Nat × List Value)) = some (pc', S') from h)
end PJKB
end
section
/-! THE CLASSES, THE WORDS, THE WORLD -/
def pj_cls : List (String × u_T × Nat × (Nat → FieldType)) := [(RX0, TX0, 4, tyX0), (RX1, TX1, 4, tyX1), (RX2, TX2, 4, tyX2), (RX3, TX3, 5, tyX3), (RX4, TX4, 5, tyX4), (RX5, TX5, 8, tyX5), (RX6, TX6, 2, tyX6), (RX7, TX7, 5, tyX7), (RX8, TX8, 9, tyX8), (RX9, TX9, 5, tyX9), (RX10, TX10, 9, tyX10), (RX11, TX11, 8, tyX11), (RX12, TX12, 60, tyX12)]
def pj_host : String := "BridgesAreLent"
/-- words that stay true as the tables warm -/
def pj_stb : Jvm.Cond → Bool
  | .fieldLinkNest .. => true
  | .methodLinkNest .. => true
  | .arrayOver (.object _) => true
  | .castable .. => true
  | .declares .. => true
  | w => goodWord w
theorem pj_stb_warm {w : Jvm.Cond} (h : pj_stb w = true) {args a' : Array Value} {s U : State} (hW : s.WarmedH U.vm) (hb : w.before args s = true) : w.before a' U = true := by
  unfold pj_stb at h
  split at h
  · exact va_Nw.use rfl (va_Nw.warmF hW (va_Nw.of rfl hb))
  · exact va_Nw.use rfl (va_Nw.warmM hW (va_Nw.of rfl hb))
  · exact va_AO.use (va_AO.moved hW.alike (va_AO.of hb))
  · exact va_Nw.use rfl (va_Nw.warmC hW (va_Nw.of rfl hb))
  · exact va_Nw.use rfl (va_Nw.warmD hW (va_Nw.of rfl hb))
  · exact word_at hW (good_of_word h) hb
def pj_all : List Jvm.Cond := lw_tbl.filter pj_stb
def pj_wd (pos : Nat) (w : Jvm.Cond) : Bool := decide (lw_tbl[pos]? = some w) && pj_stb w
theorem pj_wd_in {pos : Nat} {w : Jvm.Cond} (h : pj_wd pos w = true) : w ∈ pj_all := by
  simp only [pj_wd, Bool.and_eq_true, decide_eq_true_eq] at h
  exact List.mem_filter.mpr ⟨List.mem_of_getElem? h.1, h.2⟩
set_option maxRecDepth 100000 in
theorem pj_ws0 : ∀ q ∈ pj_cls, ∀ k, k < q.2.2.1 → u_lay q.1 q.2.1 k ∈ lw_tbl ∧ pj_stb (u_lay q.1 q.2.1 k) = true := by decide +kernel
theorem pj_cls_vw : vwCl = pj_cls.map (fun q => (q.1, q.2.1, q.2.2.1)) := rfl
theorem pj_cls_1 {ci : Nat} {q : String × u_T × Nat × (Nat → FieldType)} (h : pj_cls[ci]? = some q) : vwCl[ci]? = some (q.1, q.2.1, q.2.2.1) := by
  rw [pj_cls_vw, List.getElem?_map, h]
  rfl
theorem pj_cls_2 {ci : Nat} {q : String × u_T × Nat × (Nat → FieldType)} (h : pj_cls[ci]? = some q) : ∀ w ∈ u_ws q.1 q.2.1 q.2.2.1, w ∈ pj_all := by
  intro w hw
  obtain ⟨k, hk, rfl⟩ := List.mem_map.mp hw
  have h1 := pj_ws0 q (List.mem_of_getElem? h) k (List.mem_range.mp hk)
  exact List.mem_filter.mpr h1
theorem pj_cls_3a : ∀ q ∈ pj_cls, ∀ k, k < q.2.2.1 → parseFieldDescriptor (q.2.1 k).2.2.1 = some (q.2.2.2 k) := by decide +kernel
theorem pj_cls_4a : ∀ q ∈ pj_cls, ∀ a, a < q.2.2.1 → ∀ b, b < q.2.2.1 → a ≠ b → (q.2.1 a).2.1 ≠ (q.2.1 b).2.1 := by decide +kernel
def pj_tys (cy : Nat → ClassId) : List (ClassId × FieldType) := [(cy 0, .int), (cy 1, .long), (cy 2, .boolean), (cy 3, .object RX8)]
/-- what a field takes -/
def pj_fit : FieldType → Value → Bool
  | .int, .int _ => true
  | .long, .long _ => true
  | .boolean, .int x => decide (x = 0) || decide (x = 1)
  | .object _, .ref _ => true
  | .array _, .ref _ => true
  | _, _ => false
theorem pj_fit_s (ad : pj_A) {ty : FieldType} {v : Value} (h : pj_fit ty v = true) : narrow ty (pj_v ad v) = pj_v ad v ∧ fits ty (pj_v ad v) = true := by
  unfold pj_fit at h
  split at h
  · exact ⟨rfl, rfl⟩
  · exact ⟨rfl, rfl⟩
  · simp only [Bool.or_eq_true, decide_eq_true_eq] at h
    rcases h with rfl | rfl
    · exact (by decide +kernel : narrow .boolean (.int 0) = .int 0 ∧ fits .boolean (.int 0) = true)
    · exact (by decide +kernel : narrow .boolean (.int 1) = .int 1 ∧ fits .boolean (.int 1) = true)
  · exact ⟨rfl, rfl⟩
  · exact ⟨rfl, rfl⟩
  · cases h
def pj_okf (own : String) (idx ci k pos : Nat) : Bool := match pj_cls[ci]? with
  | none => false
  | some q => decide (k < q.2.2.1) && (pj_wd pos (.fieldLink own idx (q.2.1 k).1 (q.2.1 k).2.1 (q.2.1 k).2.2.1) || pj_wd pos (.fieldLinkNest own idx (q.2.1 k).1 (q.2.1 k).2.1 (q.2.1 k).2.2.1 pj_host))
theorem pj_okf_s {own : String} {idx ci k pos : Nat} (h : pj_okf own idx ci k pos = true) : ∃ q, pj_cls[ci]? = some q ∧ k < q.2.2.1 ∧ ((Jvm.Cond.fieldLink own idx (q.2.1 k).1 (q.2.1 k).2.1 (q.2.1 k).2.2.1) ∈ pj_all ∨ (Jvm.Cond.fieldLinkNest own idx (q.2.1 k).1 (q.2.1 k).2.1 (q.2.1 k).2.2.1 pj_host) ∈ pj_all) := by
  unfold pj_okf at h
  split at h
  · cases h
  · rename_i q hq
    simp only [Bool.and_eq_true, Bool.or_eq_true, decide_eq_true_eq] at h
    exact ⟨q, hq, h.1, h.2.elim (fun z => Or.inl (pj_wd_in z)) (fun z => Or.inr (pj_wd_in z))⟩
/-- the cells that are seen through a world -/
theorem pj_at {b : Nat × (Nat → Nat)} {base : Nat} {cy : Nat → ClassId} {G : pj_G} {a : Nat} {x : pj_C} (h : pj_get G a = some x) : ∃ i, a = i + 1 ∧ (pj_w (pj_ad b base) cy 0 G.1)[i]? = some ((pj_ad b base).1 a, pj_e (pj_ad b base) cy x) := by
  cases a with
  | zero => cases h
  | succ i =>
    refine ⟨i, rfl, ?_⟩
    rw [pj_w_get, show G.1[i]? = some x from h, Nat.zero_add]
    rfl
theorem pj_set {b : Nat × (Nat → Nat)} {base : Nat} {cy : Nat → ClassId} {G : pj_G} {i : Nat} (x : pj_C) : (pj_w (pj_ad b base) cy 0 G.1).set i ((pj_ad b base).1 (i + 1), pj_e (pj_ad b base) cy x) = pj_w (pj_ad b base) cy 0 (pj_put G (i + 1) x).1 := by
  have h := pj_w_set (pj_ad b base) cy x G.1 0 i
  rw [Nat.zero_add] at h
  exact h
end
section
section PJH
variable {p : Program} {l : Launch} {e : Env} {R : Room} {s : State} {m : MethodId} {args : Array Value} {below : List Frame} {meth : Method} {c : Code} {H : Heap} {locs : List Loc} {cells slots : Nat} {Q : State → Prop}
variable {cc : ByteArray} {pc : Nat} {ls : Array Slot} {b : Nat × (Nat → Nat)} {base : Nat} {cy : Nat → ClassId} {D : va_G} {G G' : pj_G} {S S' : List Value} {own : String} {dc ds : Nat}
/-- where a step comes to -/
abbrev pj_N (p : Program) (l : Launch) (e : Env) (R : Room) (s : State) (m : MethodId) (args : Array Value) (below : List Frame) (meth : Method) (c : Code) (Q : State → Prop) (b : Nat × (Nat → Nat)) (base : Nat) (cy : Nat → ClassId) (D : va_G) (ls : Array Slot) (cells slots : Nat) (G : pj_G) (pc : Nat) (S : List Value) : Prop :=
  ∀ (H : Heap) (locs : List Loc), va_P D vwCl (pj_w (pj_ad b base) cy 0 G.1) H → va_S (fun q => base ≤ q) s.heap H locs → W p l e R s m args below meth c H locs cells slots Q (F0 m pc ls (S.map (pj_v (pj_ad b base))))
def pj_gf (ci k : Nat) (G : pj_G) : List Value → Option (List Value)
  | .ref a :: r => (match pj_get G a with
    | some (.inr (c, fs)) => if c = ci then (match fs[k]? with
      | some v => some (v :: r)
      | none => none) else none
    | _ => none)
  | _ => none
theorem pj_gf_s {ci k : Nat} (h : pj_gf ci k G S = some S') : ∃ a r fs v, S = .ref a :: r ∧ pj_get G a = some (.inr (ci, fs)) ∧ fs[k]? = some v ∧ S' = v :: r := by
  unfold pj_gf at h
  split at h
  · split at h
    · split at h
      · split at h
        · rename_i hg e1 _ v e2
          subst e1
          cases h
          exact ⟨_, _, _, _, rfl, hg, e2, rfl⟩
        · cases h
      · cases h
    · cases h
  · cases h
theorem pj_gf_snd (hx : p.tables.exec = Jvm.exec) (hb : c.code = cc) (hts : ∀ w ∈ pj_all, w.before args s = true) (hown : s.vm.findClass own = some m.cls) (hK : va_K D vwCl (pj_tys cy) s) {idx ci k pos : Nat} (hok : pj_okf own idx ci k pos = true) (hd : decode cc pc = .ok (.getfield idx, 3)) (h : pj_gf ci k G S = some S')
    (kk : pj_N p l e R s m args below meth c Q b base cy D ls cells slots G (pc + 3) S') : pj_N p l e R s m args below meth c Q b base cy D ls cells slots G pc S := by
  intro H locs hP hS
  obtain ⟨a, r, fs, v, rfl, g1, g2, rfl⟩ := pj_gf_s h
  obtain ⟨q, hq, hk, hw⟩ := pj_okf_s hok
  obtain ⟨i, -, hi⟩ := pj_at (b := b) (base := base) (cy := cy) g1
  have hv : (fs.map (pj_v (pj_ad b base)))[k]? = some (pj_v (pj_ad b base) v) := by rw [List.getElem?_map, g2]; rfl
  rcases hw with hw | hw
  · exact va_get (D := D) (ci := ci) (C := q.1) (T := q.2.1) (N := q.2.2.1) hx hb hts (pj_cls_2 hq) hown hK hP i hi (pj_cls_1 hq) k hk (hts _ hw) (fun _ z => z) hv hd (kk H locs hP hS)
  · exact va_getN (D := D) (ci := ci) (C := q.1) (T := q.2.1) (N := q.2.2.1) hx hb hts (pj_cls_2 hq) hown hK hP i hi (pj_cls_1 hq) k hk (hts _ hw) (fun _ z => z) hv hd (kk H locs hP hS)
def pj_ft (ci k : Nat) : FieldType := match pj_cls[ci]? with
  | some q => q.2.2.2 k
  | none => .float
/-- putfield -/
def pj_pf (ci k : Nat) (G : pj_G) : List Value → Option (pj_G × List Value)
  | v :: .ref a :: r => (match pj_get G a with
    | some (.inr (c, fs)) => if c = ci ∧ k < fs.length ∧ pj_fit (pj_ft ci k) v = true then some (pj_put G a (.inr (ci, fs.set k v)), r) else none
    | _ => none)
  | _ => none
theorem pj_pf_s {ci k : Nat} (h : pj_pf ci k G S = some (G', S')) : ∃ v a fs, S = v :: .ref a :: S' ∧ pj_get G a = some (.inr (ci, fs)) ∧ k < fs.length ∧ pj_fit (pj_ft ci k) v = true ∧ G' = pj_put G a (.inr (ci, fs.set k v)) := by
  unfold pj_pf at h
  split at h
  · split at h
    · split at h
      · rename_i hg e1
        obtain ⟨e1, e2, e3⟩ := e1
        subst e1
        cases h
        exact ⟨_, _, _, rfl, hg, e2, e3, rfl⟩
      · cases h
    · cases h
  · cases h
/-- a final field is written in a constructor of its own class alone -/
def pj_okp (own : String) (ini : Bool) (idx ci k pos : Nat) : Bool := match pj_cls[ci]? with
  | none => false
  | some q => !(q.2.1 k).2.2.2 || (ini && decide ((q.2.1 k).1 = own) && pj_wd pos (.fieldLink own idx (q.2.1 k).1 (q.2.1 k).2.1 (q.2.1 k).2.2.1))
theorem pj_pf_snd (hx : p.tables.exec = Jvm.exec) (hb : c.code = cc) (hts : ∀ w ∈ pj_all, w.before args s = true) (hown : s.vm.findClass own = some m.cls) (hK : va_K D vwCl (pj_tys cy) s) {ini : Bool} (hini : ini = true → meth.name = "<init>") {idx ci k pos : Nat} (hok : pj_okf own idx ci k pos = true) (hok2 : pj_okp own ini idx ci k pos = true) (hd : decode cc pc = .ok (.putfield idx, 3)) (h : pj_pf ci k G S = some (G', S'))
    (kk : pj_N p l e R s m args below meth c Q b base cy D ls cells slots G' (pc + 3) S') : pj_N p l e R s m args below meth c Q b base cy D ls cells slots G pc S := by
  intro H locs hP hS
  obtain ⟨v, a, fs, rfl, g1, g2, g3, rfl⟩ := pj_pf_s h
  obtain ⟨q, hq, hk, hw⟩ := pj_okf_s hok
  obtain ⟨i, rfl, hi⟩ := pj_at (b := b) (base := base) (cy := cy) g1
  have hty := pj_cls_3a q (List.mem_of_getElem? hq)
  have hnm := pj_cls_4a q (List.mem_of_getElem? hq)
  have hft : pj_ft ci k = q.2.2.2 k := by unfold pj_ft; rw [hq]
  rw [hft] at g3
  obtain ⟨f1, f2⟩ := pj_fit_s (pj_ad b base) g3
  have hl : k < (fs.map (pj_v (pj_ad b base))).length := by rw [List.length_map]; exact g2
  have hset : (pj_w (pj_ad b base) cy 0 G.1).set i ((pj_ad b base).1 (i + 1), .inr (ci, (fs.map (pj_v (pj_ad b base))).set k (pj_v (pj_ad b base) v))) = pj_w (pj_ad b base) cy 0 (pj_put G (i + 1) (.inr (ci, fs.set k v))).1 := by
    rw [← pj_set, ← List.map_set]
    rfl
  have kk' : ∀ (H1 : Heap) (locs1 : List Loc), va_P D vwCl ((pj_w (pj_ad b base) cy 0 G.1).set i ((pj_ad b base).1 (i + 1), .inr (ci, (fs.map (pj_v (pj_ad b base))).set k (pj_v (pj_ad b base) v)))) H1 → va_D (fun q => base ≤ q) ((pj_w (pj_ad b base) cy 0 G.1).set i ((pj_ad b base).1 (i + 1), .inr (ci, (fs.map (pj_v (pj_ad b base))).set k (pj_v (pj_ad b base) v)))) → va_S (fun q => base ≤ q) s.heap H1 locs1 → W p l e R s m args below meth c H1 locs1 cells slots Q (F0 m (pc + 3) ls (S'.map (pj_v (pj_ad b base)))) := fun H1 locs1 hP1 _ hS1 => kk H1 locs1 (hset ▸ hP1) hS1
  have hok2 : ((q.2.1 k).2.2.2 = false) ∨ ((q.2.1 k).2.2.2 = true ∧ (ini = true ∧ (q.2.1 k).1 = own) ∧ pj_wd pos (.fieldLink own idx (q.2.1 k).1 (q.2.1 k).2.1 (q.2.1 k).2.2.1) = true) := by
    unfold pj_okp at hok2
    rw [hq] at hok2
    cases hf : (q.2.1 k).2.2.2 with
    | false => exact Or.inl rfl
    | true =>
      simp only [hf, Bool.not_true, Bool.false_or, Bool.and_eq_true, decide_eq_true_eq] at hok2
      exact Or.inr ⟨rfl, hok2⟩
  rcases hok2 with hf | ⟨hf, ⟨hi1, hi2⟩, hi3⟩
  · rcases hw with hw | hw
    · exact va_put (D := D) (ci := ci) (C := q.1) (T := q.2.1) (N := q.2.2.1) hx hb hts (pj_cls_2 hq) q.2.2.2 hty hnm hown hK hP (pj_D b base cy G.1) hS i hi (pj_cls_1 hq) k hk (hts _ hw) (fun _ z => z) hf (hty k hk) f1 f2 hl hd kk'
    · exact va_putN (D := D) (ci := ci) (C := q.1) (T := q.2.1) (N := q.2.2.1) hx hb hts (pj_cls_2 hq) q.2.2.2 hty hnm hown hK hP (pj_D b base cy G.1) hS i hi (pj_cls_1 hq) k hk (hts _ hw) (fun _ z => z) hf (hty k hk) f1 f2 hl hd kk'
  · exact va_putF (D := D) (ci := ci) (C := q.1) (T := q.2.1) (N := q.2.2.1) hx hb hts (pj_cls_2 hq) q.2.2.2 hty hnm hown hK hP (pj_D b base cy G.1) hS i hi (pj_cls_1 hq) k hk (hts _ (pj_wd_in hi3)) (fun _ z => z) hf (hini hi1) hi2 (hty k hk) f1 f2 hl hd kk'
/-! arrays -/
theorem pj_rf (ad : pj_A) (r : Option Nat) : pj_v ad (va_rf r) = va_rf (r.map ad.1) := by cases r <;> rfl
def pj_rdi (G : pj_G) : List Value → Option (List Value)
  | .int j :: .ref a :: r => (match pj_get G a with
    | some (.inl (k, n, .inl f)) => if k = 0 ∧ ¬ (j < 0 ∨ n ≤ j.toNatClampNeg) then some (.int (f j.toNatClampNeg) :: r) else none
    | _ => none)
  | _ => none
theorem pj_rdi_s (h : pj_rdi G S = some S') : ∃ (j : Int32) (a : Nat) (r : List Value) (n : Nat) (f : Nat → Int32), S = .int j :: .ref a :: r ∧ pj_get G a = some (.inl (0, n, .inl f)) ∧ vp_in j n ∧ S' = .int (f j.toNatClampNeg) :: r := by
  unfold pj_rdi at h
  split at h
  · split at h
    · split at h
      · rename_i hg e1
        obtain ⟨e1, e2⟩ := e1
        subst e1
        cases h
        exact ⟨_, _, _, _, _, rfl, hg, e2, rfl⟩
      · cases h
    · cases h
  · cases h
theorem pj_rdi_snd (hx : p.tables.exec = Jvm.exec) (hb : c.code = cc) (hK : va_K D vwCl (pj_tys cy) s) (hd : decode cc pc = .ok (.iaload, 1)) (h : pj_rdi G S = some S')
    (kk : pj_N p l e R s m args below meth c Q b base cy D ls cells slots G (pc + 1) S') : pj_N p l e R s m args below meth c Q b base cy D ls cells slots G pc S := by
  intro H locs hP hS
  obtain ⟨j, a, r, n, f, rfl, g1, g2, rfl⟩ := pj_rdi_s h
  obtain ⟨i, rfl, hi⟩ := pj_at (b := b) (base := base) (cy := cy) g1
  have k1 := kk H locs hP hS
  exact va_iald hx hb hK hP i 0 hi rfl g2 hd k1
def pj_rdz (G : pj_G) : List Value → Option (List Value)
  | .int j :: .ref a :: r => (match pj_get G a with
    | some (.inl (k, n, .inl f)) => if k = 2 ∧ ¬ (j < 0 ∨ n ≤ j.toNatClampNeg) then some (.int (f j.toNatClampNeg) :: r) else none
    | _ => none)
  | _ => none
theorem pj_rdz_s (h : pj_rdz G S = some S') : ∃ (j : Int32) (a : Nat) (r : List Value) (n : Nat) (f : Nat → Int32), S = .int j :: .ref a :: r ∧ pj_get G a = some (.inl (2, n, .inl f)) ∧ vp_in j n ∧ S' = .int (f j.toNatClampNeg) :: r := by
  unfold pj_rdz at h
  split at h
  · split at h
    · split at h
      · rename_i hg e1
        obtain ⟨e1, e2⟩ := e1
        subst e1
        cases h
        exact ⟨_, _, _, _, _, rfl, hg, e2, rfl⟩
      · cases h
    · cases h
  · cases h
theorem pj_rdz_snd (hx : p.tables.exec = Jvm.exec) (hb : c.code = cc) (hK : va_K D vwCl (pj_tys cy) s) (hd : decode cc pc = .ok (.baload, 1)) (h : pj_rdz G S = some S')
    (kk : pj_N p l e R s m args below meth c Q b base cy D ls cells slots G (pc + 1) S') : pj_N p l e R s m args below meth c Q b base cy D ls cells slots G pc S := by
  intro H locs hP hS
  obtain ⟨j, a, r, n, f, rfl, g1, g2, rfl⟩ := pj_rdz_s h
  obtain ⟨i, rfl, hi⟩ := pj_at (b := b) (base := base) (cy := cy) g1
  have k1 := kk H locs hP hS
  exact va_zald hx hb hK hP i 2 hi rfl g2 hd k1
def pj_rdl (G : pj_G) : List Value → Option (List Value)
  | .int j :: .ref a :: r => (match pj_get G a with
    | some (.inl (k, n, .inr (.inl f))) => if k = 1 ∧ ¬ (j < 0 ∨ n ≤ j.toNatClampNeg) then some (.long (f j.toNatClampNeg) :: r) else none
    | _ => none)
  | _ => none
theorem pj_rdl_s (h : pj_rdl G S = some S') : ∃ (j : Int32) (a : Nat) (r : List Value) (n : Nat) (f : Nat → Int64), S = .int j :: .ref a :: r ∧ pj_get G a = some (.inl (1, n, .inr (.inl f))) ∧ vp_in j n ∧ S' = .long (f j.toNatClampNeg) :: r := by
  unfold pj_rdl at h
  split at h
  · split at h
    · split at h
      · rename_i hg e1
        obtain ⟨e1, e2⟩ := e1
        subst e1
        cases h
        exact ⟨_, _, _, _, _, rfl, hg, e2, rfl⟩
      · cases h
    · cases h
  · cases h
theorem pj_rdl_snd (hx : p.tables.exec = Jvm.exec) (hb : c.code = cc) (hK : va_K D vwCl (pj_tys cy) s) (hd : decode cc pc = .ok (.laload, 1)) (h : pj_rdl G S = some S')
    (kk : pj_N p l e R s m args below meth c Q b base cy D ls cells slots G (pc + 1) S') : pj_N p l e R s m args below meth c Q b base cy D ls cells slots G pc S := by
  intro H locs hP hS
  obtain ⟨j, a, r, n, f, rfl, g1, g2, rfl⟩ := pj_rdl_s h
  obtain ⟨i, rfl, hi⟩ := pj_at (b := b) (base := base) (cy := cy) g1
  have k1 := kk H locs hP hS
  exact va_lald hx hb hK hP i 1 hi rfl g2 hd k1
def pj_rdq (G : pj_G) : List Value → Option (List Value)
  | .int j :: .ref a :: r => (match pj_get G a with
    | some (.inl (k, n, .inr (.inr (.inr (.inr f))))) => if k = 3 ∧ ¬ (j < 0 ∨ n ≤ j.toNatClampNeg) then some (va_rf (f j.toNatClampNeg) :: r) else none
    | _ => none)
  | _ => none
theorem pj_rdq_s (h : pj_rdq G S = some S') : ∃ (j : Int32) (a : Nat) (r : List Value) (n : Nat) (f : Nat → Option Nat), S = .int j :: .ref a :: r ∧ pj_get G a = some (.inl (3, n, .inr (.inr (.inr (.inr f))))) ∧ vp_in j n ∧ S' = va_rf (f j.toNatClampNeg) :: r := by
  unfold pj_rdq at h
  split at h
  · split at h
    · split at h
      · rename_i hg e1
        obtain ⟨e1, e2⟩ := e1
        subst e1
        cases h
        exact ⟨_, _, _, _, _, rfl, hg, e2, rfl⟩
      · cases h
    · cases h
  · cases h
theorem pj_rdq_snd (hx : p.tables.exec = Jvm.exec) (hb : c.code = cc) (hK : va_K D vwCl (pj_tys cy) s) (hd : decode cc pc = .ok (.aaload, 1)) (h : pj_rdq G S = some S')
    (kk : pj_N p l e R s m args below meth c Q b base cy D ls cells slots G (pc + 1) S') : pj_N p l e R s m args below meth c Q b base cy D ls cells slots G pc S := by
  intro H locs hP hS
  obtain ⟨j, a, r, n, f, rfl, g1, g2, rfl⟩ := pj_rdq_s h
  obtain ⟨i, rfl, hi⟩ := pj_at (b := b) (base := base) (cy := cy) g1
  have k1 := kk H locs hP hS
  rw [List.map_cons, pj_rf] at k1
  exact va_aldq hx hb hK hP i 3 hi rfl g2 hd k1
def pj_asi (G : pj_G) : List Value → Option (pj_G × List Value)
  | .int x :: .int j :: .ref a :: r => (match pj_get G a with
    | some (.inl (k, n, .inl f)) => if k = 0 ∧ ¬ (j < 0 ∨ n ≤ j.toNatClampNeg) then some (pj_put G a (.inl (0, n, .inl (upd f j.toNatClampNeg x))), r) else none
    | _ => none)
  | _ => none
theorem pj_asi_s (h : pj_asi G S = some (G', S')) : ∃ (x : Int32) (j : Int32) (a : Nat) (n : Nat) (f : Nat → Int32), S = .int x :: .int j :: .ref a :: S' ∧ pj_get G a = some (.inl (0, n, .inl f)) ∧ vp_in j n ∧ G' = pj_put G a (.inl (0, n, .inl (upd f j.toNatClampNeg x))) := by
  unfold pj_asi at h
  split at h
  · split at h
    · split at h
      · rename_i hg e1
        obtain ⟨e1, e2⟩ := e1
        subst e1
        cases h
        exact ⟨_, _, _, _, _, rfl, hg, e2, rfl⟩
      · cases h
    · cases h
  · cases h
theorem pj_asi_snd (hx : p.tables.exec = Jvm.exec) (hb : c.code = cc) (hK : va_K D vwCl (pj_tys cy) s) (hd : decode cc pc = .ok (.iastore, 1)) (h : pj_asi G S = some (G', S'))
    (kk : pj_N p l e R s m args below meth c Q b base cy D ls cells slots G' (pc + 1) S') : pj_N p l e R s m args below meth c Q b base cy D ls cells slots G pc S := by
  intro H locs hP hS
  obtain ⟨x, j, a, n, f, rfl, g1, g2, rfl⟩ := pj_asi_s h
  obtain ⟨i, rfl, hi⟩ := pj_at (b := b) (base := base) (cy := cy) g1
  exact va_iast hx hb hK hP (pj_D b base cy G.1) hS i 0 hi rfl g2 hd (fun H1 locs1 hP1 _ hS1 => kk H1 locs1 (pj_set (b := b) (base := base) (cy := cy) (G := G) (i := i) (.inl (0, n, .inl (upd f j.toNatClampNeg x))) ▸ hP1) hS1)
def pj_asz (G : pj_G) : List Value → Option (pj_G × List Value)
  | .int x :: .int j :: .ref a :: r => (match pj_get G a with
    | some (.inl (k, n, .inl f)) => if k = 2 ∧ ¬ (j < 0 ∨ n ≤ j.toNatClampNeg) then some (pj_put G a (.inl (2, n, .inl (upd f j.toNatClampNeg (vp_nar .boolean x)))), r) else none
    | _ => none)
  | _ => none
theorem pj_asz_s (h : pj_asz G S = some (G', S')) : ∃ (x : Int32) (j : Int32) (a : Nat) (n : Nat) (f : Nat → Int32), S = .int x :: .int j :: .ref a :: S' ∧ pj_get G a = some (.inl (2, n, .inl f)) ∧ vp_in j n ∧ G' = pj_put G a (.inl (2, n, .inl (upd f j.toNatClampNeg (vp_nar .boolean x)))) := by
  unfold pj_asz at h
  split at h
  · split at h
    · split at h
      · rename_i hg e1
        obtain ⟨e1, e2⟩ := e1
        subst e1
        cases h
        exact ⟨_, _, _, _, _, rfl, hg, e2, rfl⟩
      · cases h
    · cases h
  · cases h
theorem pj_asz_snd (hx : p.tables.exec = Jvm.exec) (hb : c.code = cc) (hK : va_K D vwCl (pj_tys cy) s) (hd : decode cc pc = .ok (.bastore, 1)) (h : pj_asz G S = some (G', S'))
    (kk : pj_N p l e R s m args below meth c Q b base cy D ls cells slots G' (pc + 1) S') : pj_N p l e R s m args below meth c Q b base cy D ls cells slots G pc S := by
  intro H locs hP hS
  obtain ⟨x, j, a, n, f, rfl, g1, g2, rfl⟩ := pj_asz_s h
  obtain ⟨i, rfl, hi⟩ := pj_at (b := b) (base := base) (cy := cy) g1
  exact va_zast hx hb hK hP (pj_D b base cy G.1) hS i 2 hi rfl g2 hd (fun H1 locs1 hP1 _ hS1 => kk H1 locs1 (pj_set (b := b) (base := base) (cy := cy) (G := G) (i := i) (.inl (2, n, .inl (upd f j.toNatClampNeg (vp_nar .boolean x)))) ▸ hP1) hS1)
def pj_asl (G : pj_G) : List Value → Option (pj_G × List Value)
  | .long x :: .int j :: .ref a :: r => (match pj_get G a with
    | some (.inl (k, n, .inr (.inl f))) => if k = 1 ∧ ¬ (j < 0 ∨ n ≤ j.toNatClampNeg) then some (pj_put G a (.inl (1, n, .inr (.inl (vp_updL f j.toNatClampNeg x)))), r) else none
    | _ => none)
  | _ => none
theorem pj_asl_s (h : pj_asl G S = some (G', S')) : ∃ (x : Int64) (j : Int32) (a : Nat) (n : Nat) (f : Nat → Int64), S = .long x :: .int j :: .ref a :: S' ∧ pj_get G a = some (.inl (1, n, .inr (.inl f))) ∧ vp_in j n ∧ G' = pj_put G a (.inl (1, n, .inr (.inl (vp_updL f j.toNatClampNeg x)))) := by
  unfold pj_asl at h
  split at h
  · split at h
    · split at h
      · rename_i hg e1
        obtain ⟨e1, e2⟩ := e1
        subst e1
        cases h
        exact ⟨_, _, _, _, _, rfl, hg, e2, rfl⟩
      · cases h
    · cases h
  · cases h
theorem pj_asl_snd (hx : p.tables.exec = Jvm.exec) (hb : c.code = cc) (hK : va_K D vwCl (pj_tys cy) s) (hd : decode cc pc = .ok (.lastore, 1)) (h : pj_asl G S = some (G', S'))
    (kk : pj_N p l e R s m args below meth c Q b base cy D ls cells slots G' (pc + 1) S') : pj_N p l e R s m args below meth c Q b base cy D ls cells slots G pc S := by
  intro H locs hP hS
  obtain ⟨x, j, a, n, f, rfl, g1, g2, rfl⟩ := pj_asl_s h
  obtain ⟨i, rfl, hi⟩ := pj_at (b := b) (base := base) (cy := cy) g1
  exact va_last hx hb hK hP (pj_D b base cy G.1) hS i 1 hi rfl g2 hd (fun H1 locs1 hP1 _ hS1 => kk H1 locs1 (pj_set (b := b) (base := base) (cy := cy) (G := G) (i := i) (.inl (1, n, .inr (.inl (vp_updL f j.toNatClampNeg x)))) ▸ hP1) hS1)
def pj_asq (G : pj_G) : List Value → Option (pj_G × List Value)
  | .ref v :: .int j :: .ref a :: r => (match pj_get G a with
    | some (.inl (k, n, .inr (.inr (.inr (.inr f))))) => (match pj_get G v with
      | some (.inr (ci, _)) => if k = 3 ∧ ci = 8 ∧ ¬ (j < 0 ∨ n ≤ j.toNatClampNeg) then some (pj_put G a (.inl (3, n, .inr (.inr (.inr (.inr (va_up f j.toNatClampNeg (some v))))))), r) else none
      | _ => none)
    | _ => none)
  | _ => none
theorem pj_asq_s (h : pj_asq G S = some (G', S')) : ∃ (v : Nat) (j : Int32) (a : Nat) (n : Nat) (f : Nat → Option Nat) (fs : List Value), S = .ref v :: .int j :: .ref a :: S' ∧ pj_get G a = some (.inl (3, n, .inr (.inr (.inr (.inr f))))) ∧ pj_get G v = some (.inr (8, fs)) ∧ vp_in j n ∧ G' = pj_put G a (.inl (3, n, .inr (.inr (.inr (.inr (va_up f j.toNatClampNeg (some v))))))) := by
  unfold pj_asq at h
  split at h
  · split at h
    · split at h
      · split at h
        · rename_i hg _ _ _ hg2 e1
          obtain ⟨e1, e2, e3⟩ := e1
          subst e1
          subst e2
          cases h
          exact ⟨_, _, _, _, _, _, rfl, hg, hg2, e3, rfl⟩
        · cases h
      · cases h
    · cases h
  · cases h
theorem pj_asq_snd (hx : p.tables.exec = Jvm.exec) (hb : c.code = cc) (hK : va_K D vwCl (pj_tys cy) s) (hd : decode cc pc = .ok (.aastore, 1)) (h : pj_asq G S = some (G', S'))
    (kk : pj_N p l e R s m args below meth c Q b base cy D ls cells slots G' (pc + 1) S') : pj_N p l e R s m args below meth c Q b base cy D ls cells slots G pc S := by
  intro H locs hP hS
  obtain ⟨v, j, a, n, f, fs, rfl, g1, g3, g2, rfl⟩ := pj_asq_s h
  obtain ⟨i, rfl, hi⟩ := pj_at (b := b) (base := base) (cy := cy) g1
  obtain ⟨i2, rfl, hi2⟩ := pj_at (b := b) (base := base) (cy := cy) g3
  have hc : vwCl[8]? = some (RX8, TX8, 9) := rfl
  have e : (fun k => (va_up f j.toNatClampNeg (some (i2 + 1)) k).map (pj_ad b base).1) = va_up (fun k => (f k).map (pj_ad b base).1) j.toNatClampNeg (some ((pj_ad b base).1 (i2 + 1))) := by
    funext k
    by_cases z : k = j.toNatClampNeg
    · simp [va_up, z]
    · simp [va_up, z]
  have hset := pj_set (b := b) (base := base) (cy := cy) (G := G) (i := i) (.inl (3, n, .inr (.inr (.inr (.inr (va_up f j.toNatClampNeg (some (i2 + 1))))))))
  simp only [pj_e, pj_a, e] at hset
  exact va_astq (r := (RX8, TX8, 9)) hx hb hK hP (pj_D b base cy G.1) hS i 3 i2 8 hi rfl hi2 hc g2 hd (fun H1 locs1 hP1 _ hS1 => kk H1 locs1 (hset ▸ hP1) hS1)
/-- the length of an array; of the script (n0: one more than its length; 0: it is not told) -/
def pj_aln (n0 : Nat) (G : pj_G) : List Value → Option (List Value)
  | .ref 0 :: r => (match n0 with
    | 0 => none
    | n + 1 => some (.int (Int32.ofNat n) :: r))
  | .ref a :: r => (match pj_get G a with
    | some (.inl (k, x)) => if k < 4 then some (.int (Int32.ofNat x.1) :: r) else none
    | _ => none)
  | _ => none
theorem pj_aln_snd (hx : p.tables.exec = Jvm.exec) (hb : c.code = cc) (hK : va_K D vwCl (pj_tys cy) s) {n0 : Nat} {xs : Nat → Int32} (hX : ∀ n, n0 = n + 1 → va_X b.1 n xs s s.heap) (hbl : b.1 < s.heap.size) (hbb : b.1 < base) (hd : decode cc pc = .ok (.arraylength, 1)) (h : pj_aln n0 G S = some S')
    (kk : pj_N p l e R s m args below meth c Q b base cy D ls cells slots G (pc + 1) S') : pj_N p l e R s m args below meth c Q b base cy D ls cells slots G pc S := by
  intro H locs hP hS
  have k1 := kk H locs hP hS
  unfold pj_aln at h
  split at h
  · split at h
    · cases h
    · cases h
      exact va_slen hx hb (hX _ rfl) hbl (Nat.not_le.mpr hbb) hS hd k1
  · split at h
    · split at h
      · rename_i kd x g1 g2
        cases h
        obtain ⟨i, rfl, hi⟩ := pj_at (b := b) (base := base) (cy := cy) g1
        have h4 : ∃ ty, (pj_tys cy)[kd]? = some (cy kd, ty) := by
          match kd, g2 with
          | 0, _ => exact ⟨_, rfl⟩
          | 1, _ => exact ⟨_, rfl⟩
          | 2, _ => exact ⟨_, rfl⟩
          | 3, _ => exact ⟨_, rfl⟩
          | k + 4, z => exact absurd z (by omega)
        obtain ⟨ty, hty⟩ := h4
        exact va_alen hx hb hK hP i kd hi hty rfl hd k1
      · cases h
    · cases h
  · cases h
/-- the script's ints -/
def pj_sc (n0 : Nat) (xs : Nat → Int32) : List Value → Option (List Value)
  | .int j :: .ref 0 :: r => if ¬ (j < 0 ∨ n0 ≤ j.toNatClampNeg + 1) then some (.int (xs j.toNatClampNeg) :: r) else none
  | _ => none
theorem pj_sc_snd (hx : p.tables.exec = Jvm.exec) (hb : c.code = cc) {n0 : Nat} {xs : Nat → Int32} (hX : ∀ n, n0 = n + 1 → va_X b.1 n xs s s.heap) (hbl : b.1 < s.heap.size) (hbb : b.1 < base) (hd : decode cc pc = .ok (.iaload, 1)) (h : pj_sc n0 xs S = some S')
    (kk : pj_N p l e R s m args below meth c Q b base cy D ls cells slots G (pc + 1) S') : pj_N p l e R s m args below meth c Q b base cy D ls cells slots G pc S := by
  intro H locs hP hS
  have k1 := kk H locs hP hS
  unfold pj_sc at h
  split at h
  · split at h
    · rename_i g
      cases h
      have hn : ∃ n, n0 = n + 1 := ⟨n0 - 1, by omega⟩
      obtain ⟨n, rfl⟩ := hn
      exact va_sld hx hb (hX n rfl) hbl (Nat.not_le.mpr hbb) hS (fun z => g (z.elim Or.inl (fun y => Or.inr (by omega)))) hd k1
    · cases h
  · cases h
end PJH
end
section
/-! WHAT STANDS OUTSIDE: the script, String constants, statics that a throw reads -/
def pj_strs : List (String × Nat × String) := [("BridgesAreLent", 147, "no such crossing, or nothing such of it"), ("BridgesAreLent", 174, "no such bridge, or nothing such of it"), ("BridgesAreLent", 194, "no such person, or nothing such of it"), ("BridgesAreLent", 421, "the row has no such number"), ("BridgesAreLent$Day", 39, "tlch"), ("BridgesAreLent$Rule", 38, "<>="), ("BridgesAreLent$Rule", 40, "+-"), ("BridgesAreLent$Rule", 42, "*/"), ("BridgesAreLent$Rule", 79, "dulswbn"), ("BridgesAreLentModel", 200, "123456789"), ("BridgesAreLentModel", 208, "2345678"), ("BridgesAreLentModel", 243, "dulswbn"), ("BridgesAreLentModel", 248, "<>="), ("BridgesAreLentModel", 250, "+-"), ("BridgesAreLentModel", 252, "*/"), ("BridgesAreLentModel", 367, "tlch")]
/-- the codes of the signs of a String constant -/
def pj_byt (k : Nat) : List Int32 := match pj_strs[k]? with
  | some q => q.2.2.toList.map (fun ch => Int32.ofNat ch.toNat)
  | none => []
def pj_O (b : Nat × (Nat → Nat)) (base n0 : Nat) (xs : Nat → Int32) (adV : Nat → Nat) (U : State) (H : Heap) : Prop :=
  ((∀ n, n0 = n + 1 → va_X b.1 n xs U H) ∧ b.1 < base) ∧
  (∀ (k : Nat) (q : String × Nat × String), pj_strs[k]? = some q → vk_R q.1 q.2.1 q.2.2 (b.2 k) U ∧ va_O "java/lang/String" (b.2 k) (fun q => base ≤ q) U H ∧ va_OF "java/lang/String" "coder" "B" (.int 0) (b.2 k) (fun q => base ≤ q) U H ∧ va_OF "java/lang/String" "value" "[B" (.ref (adV k)) (b.2 k) (fun q => base ≤ q) U H ∧ va_T .byte (adV k) (pj_byt k).length (fun j => .int ((pj_byt k).getD j 0)) (fun q => base ≤ q) U H) ∧
  va_Z "java/lang/String" "COMPACT_STRINGS" "Z" (.int 1) (fun q => base ≤ q) U H ∧ vx_Zq Bundle.tN "UNASSIGNED_STACK" Bundle.steD (fun q => base ≤ q) U H ∧ vx_Zq Bundle.tN "SUPPRESSED_SENTINEL" Bundle.listD (fun q => base ≤ q) U H
theorem pj_O_kept {b : Nat × (Nat → Nat)} {base n0 : Nat} {xs : Nat → Int32} {adV : Nat → Nat} {U : State} {H H1 : Heap} (h : pj_O b base n0 xs adV U H) (hz : base ≤ H.size) (hq : ∀ a : Nat, a < H.size → ¬ base ≤ a → H1[a]? = H[a]?) : pj_O b base n0 xs adV U H1 := by
  obtain ⟨⟨h1, h2⟩, h3, h4, h5, h6⟩ := h
  exact ⟨⟨fun n hn => (h1 n hn).kept (hq b.1 (by omega) (by omega)), h2⟩, fun k q hk => ⟨(h3 k q hk).1, (h3 k q hk).2.1.kept hq, (h3 k q hk).2.2.1.kept hq, (h3 k q hk).2.2.2.1.kept hq, (h3 k q hk).2.2.2.2.kept hq⟩, h4.kept hq, h5.kept hq, h6.kept hq⟩
theorem pj_O_moved {b : Nat × (Nat → Nat)} {base n0 : Nat} {xs : Nat → Int32} {adV : Nat → Nat} {s U : State} {H : Heap} (hW : s.WarmedH U.vm) (h : pj_O b base n0 xs adV s H) : pj_O b base n0 xs adV U H := by
  obtain ⟨⟨h1, h2⟩, h3, h4, h5, h6⟩ := h
  exact ⟨⟨fun n hn => (h1 n hn).moved hW.alike, h2⟩, fun k q hk => ⟨(h3 k q hk).1.warm hW, (h3 k q hk).2.1.moved hW.alike, (h3 k q hk).2.2.1.moved hW.alike, (h3 k q hk).2.2.2.1.moved hW.alike, (h3 k q hk).2.2.2.2.moved hW.alike⟩, h4.moved hW.alike, h5.moved hW.alike, h6.moved hW.alike⟩
def pj_x0 : Nat → Int32 := fun _ => 0
/-- a callee is not told of the script -/
theorem pj_O_0 {b : Nat × (Nat → Nat)} {base n0 : Nat} {xs : Nat → Int32} {adV : Nat → Nat} {U : State} {H : Heap} (h : pj_O b base n0 xs adV U H) : pj_O b base 0 pj_x0 adV U H := ⟨⟨fun n hn => absurd hn (by omega), h.1.2⟩, h.2⟩
theorem pj_w_len (ad : pj_A) (cy : Nat → ClassId) : ∀ (σ : List pj_C) (k : Nat), (pj_w ad cy k σ).length = σ.length
  | [], _ => rfl
  | c :: t, k => by simp only [pj_w, List.length_cons, pj_w_len ad cy t (k + 1)]
theorem pj_fresh {b : Nat × (Nat → Nat)} {base : Nat} {cy : Nat → ClassId} {D : va_G} {σ : List pj_C} {q : Nat} {x : va_E} {H1 : Heap} (hP : va_P D vwCl (pj_w (pj_ad b base) cy 0 σ ++ [(q, x)]) H1) (hD : va_D (fun q => base ≤ q) (pj_w (pj_ad b base) cy 0 σ ++ [(q, x)])) (hz : H1.size ≤ base + σ.length + 1) : q = base + σ.length := by
  have hlen := pj_w_len (pj_ad b base) cy σ 0
  have h0 : (pj_w (pj_ad b base) cy 0 σ ++ [(q, x)])[σ.length]? = some (q, x) := by rw [← hlen, List.getElem?_append_right (Nat.le_refl _), Nat.sub_self]; rfl
  have h1 : q < H1.size := (hP _ _ h0).lt
  have h2 : base ≤ q := hD.2 _ _ h0
  rcases Nat.lt_or_ge q (base + σ.length) with h | h
  · have hi : q - base < σ.length := by omega
    have h3 : (pj_w (pj_ad b base) cy 0 σ ++ [(q, x)])[q - base]? = some ((pj_ad b base).1 (0 + (q - base) + 1), pj_e (pj_ad b base) cy σ[q - base]) := by
      rw [List.getElem?_append_left (by rw [hlen]; exact hi), pj_w_get, List.getElem?_eq_getElem hi]
      rfl
    have h4 := hD.1 _ _ _ _ h3 h0 (show base + (0 + (q - base)) = q by omega)
    omega
  · omega
theorem pj_app {b : Nat × (Nat → Nat)} {base : Nat} {cy : Nat → ClassId} {σ : List pj_C} (x : pj_C) : pj_w (pj_ad b base) cy 0 σ ++ [(base + σ.length, pj_e (pj_ad b base) cy x)] = pj_w (pj_ad b base) cy 0 (σ ++ [x]) := by
  rw [pj_w_app, Nat.zero_add]
  rfl
section PJM
variable {p : Program} {l : Launch} {e : Env} {R : Room} {s : State} {m : MethodId} {args : Array Value} {below : List Frame} {meth : Method} {c : Code} {H : Heap} {locs : List Loc} {cells slots : Nat} {Q : State → Prop}
variable {cc : ByteArray} {pc : Nat} {ls : Array Slot} {b : Nat × (Nat → Nat)} {base : Nat} {cy : Nat → ClassId} {D : va_G} {G G' : pj_G} {S S' : List Value} {own : String} {dc ds : Nat}
/-- no more cells are there than were counted -/
theorem pj_exact {g : JFrame} (k : H.size ≤ s.heap.size + cells → W p l e R s m args below meth c H locs cells slots Q g) : W p l e R s m args below meth c H locs cells slots Q g := fun T hT X => k (by have h := X.same.2.2.1; rw [← hT]; exact h) T hT X
def pj_nw (ci : Nat) (G : pj_G) (S : List Value) : Option (pj_G × List Value × Nat) := match pj_cls[ci]? with
  | some q => if G.2 = true then some ((G.1 ++ [.inr (ci, (List.range q.2.2.1).map (fun k => defaultValue (q.2.2.2 k)))], true), .ref (G.1.length + 1) :: S, q.2.2.1) else none
  | none => none
def pj_okn (own : String) (idx ci p1 p2 p3 : Nat) : Bool := match pj_cls[ci]? with
  | some q => pj_wd p1 (.classLink own idx q.1) && pj_wd p2 (.instantiable q.1 q.2.2.1) && pj_wd p3 (.initialized q.1)
  | none => false
theorem pj_df (ad : pj_A) (ty : FieldType) : pj_v ad (defaultValue ty) = defaultValue ty := by cases ty <;> rfl
theorem pj_nw_snd (hx : p.tables.exec = Jvm.exec) (hb : c.code = cc) (hts : ∀ w ∈ pj_all, w.before args s = true) (hown : s.vm.findClass own = some m.cls) (hK : va_K D vwCl (pj_tys cy) s) (hbs : base ≤ s.heap.size) (hex : G.2 = true → s.heap.size + cells = base + G.1.length) {idx ci p1 p2 p3 : Nat} (hok : pj_okn own idx ci p1 p2 p3 = true) (hd : decode cc pc = .ok (.new idx, 3)) (h : pj_nw ci G S = some (G', S', ds)) (hc : cells + 1 ≤ R.cells) (hs : slots + ds ≤ R.slots)
    (kk : pj_N p l e R s m args below meth c Q b base cy D ls (cells + 1) (slots + ds) G' (pc + 3) S') : pj_N p l e R s m args below meth c Q b base cy D ls cells slots G pc S := by
  intro H locs hP hS
  unfold pj_nw at h
  split at h
  · rename_i q hq
    split at h
    · rename_i h2
      cases h
      simp only [pj_okn, hq, Bool.and_eq_true] at hok
      obtain ⟨⟨w1, w2⟩, w3⟩ := hok
      refine va_new (ci := ci) (fs := ((List.range q.2.2.1).map (fun k => defaultValue (q.2.2.2 k))).map (pj_v (pj_ad b base))) (C := q.1) (T := q.2.1) (N := q.2.2.1) hx hb hts (pj_cls_2 hq) q.2.2.2 (pj_cls_3a q (List.mem_of_getElem? hq)) hown (hts _ (pj_wd_in w1)) (hts _ (pj_wd_in w2)) (hts _ (pj_wd_in w3)) hK hP (pj_D b base cy G.1) hS (fun _ z => Nat.le_trans hbs z) (pj_cls_1 hq) ?_ hc hs hd (fun a H1 hP1 hD1 hS1 => ?_)
      · intro j hj
        simp [vp_V, hj, pj_df]
      · refine pj_exact (fun hz => ?_)
        have e1 := hex h2
        have ha := pj_fresh hP1 hD1 (by omega)
        subst ha
        exact kk H1 locs (pj_app (b := b) (base := base) (cy := cy) (.inr (ci, (List.range q.2.2.1).map (fun k => defaultValue (q.2.2.2 k)))) ▸ hP1) hS1
    · cases h
  · cases h
/-- newarray: the kind, and what it begins with -/
def pj_na0 (N : Nat) : ArrayType → Option pj_C
  | .int => some (.inl (0, N, .inl (fun _ => 0)))
  | .long => some (.inl (1, N, .inr (.inl (fun _ => 0))))
  | .boolean => some (.inl (2, N, .inl (fun _ => 0)))
  | _ => none
def pj_na (at_ : ArrayType) (G : pj_G) : List Value → Option (pj_G × List Value × Nat)
  | .int n :: r => if G.2 = true ∧ ¬ n < 0 ∧ n.toNatClampNeg ≤ 10000 then (match pj_na0 n.toNatClampNeg at_ with
    | some x => some ((G.1 ++ [x], true), .ref (G.1.length + 1) :: r, n.toNatClampNeg)
    | none => none) else none
  | _ => none
theorem pj_na_snd (hx : p.tables.exec = Jvm.exec) (hb : c.code = cc) (hts : ∀ w ∈ pj_all, w.before args s = true) (hK : va_K D vwCl (pj_tys cy) s) (hbs : base ≤ s.heap.size) (hex : G.2 = true → s.heap.size + cells = base + G.1.length) {at_ : ArrayType} {p1 : Nat} (hok : pj_wd p1 (.arrayClass (newarray.typeOf at_)) = true) (hd : decode cc pc = .ok (.newarray at_, 2)) (h : pj_na at_ G S = some (G', S', ds)) (hc : cells + 1 ≤ R.cells) (hs : slots + ds ≤ R.slots)
    (kk : pj_N p l e R s m args below meth c Q b base cy D ls (cells + 1) (slots + ds) G' (pc + 2) S') : pj_N p l e R s m args below meth c Q b base cy D ls cells slots G pc S := by
  intro H locs hP hS
  unfold pj_na at h
  split at h
  · rename_i n r
    split at h
    · rename_i hg
      obtain ⟨h2, h3, h4⟩ := hg
      split at h
      · rename_i x hx0
        cases h
        have key : ∀ (ty : FieldType) (kd : Nat) (a0 : vp_A), newarray.typeOf at_ = ty → (pj_tys cy)[kd]? = some (cy kd, ty) → (∀ cA, va_RA s cA ty → va_RA s (cy kd) ty → cA = cy kd) → x = .inl (kd, a0) → pj_a (pj_ad b base) a0 = a0 → (∀ cA : ClassId, vp_cell cA a0 = arrV cA n.toNatClampNeg (fun _ => defaultValue ty)) → n.toNatClampNeg * componentBytes ty ≤ 536870912 → W p l e R s m args below meth c H locs cells slots Q (F0 m pc ls ((Value.int n :: r).map (pj_v (pj_ad b base)))) := by
          intro ty kd a0 hty htk huq he hpa ha hby
          refine va_newa (ty := ty) (a0 := a0) hx hb (hts _ (pj_wd_in hok)) hty hK hP (pj_D b base cy G.1) hS (fun _ z => Nat.le_trans hbs z) ha h3 rfl hby hc hs hd (fun a cA H1 hK1 hP1 hD1 hS1 => ?_)
          refine pj_exact (fun hz => ?_)
          have e1 := hex h2
          have ha2 := pj_fresh hP1 hD1 (by omega)
          subst ha2
          have hcA : cA = cy kd := huq cA (hK1.2 4 (cA, ty) rfl).2 (hK.2 kd _ htk).2
          subst hcA
          subst he
          have e2 := pj_app (b := b) (base := base) (cy := cy) (σ := G.1) (.inl (kd, a0))
          simp only [pj_e, hpa] at e2
          exact kk H1 locs (e2 ▸ hP1) hS1
        cases at_
        case int => exact key .int 0 _ rfl rfl (fun cA z1 z2 => Option.some.inj (z1.symm.trans z2)) (Option.some.inj hx0).symm rfl (fun cA => rfl) (by show _ * 4 ≤ _; omega)
        case long => exact key .long 1 _ rfl rfl (fun cA z1 z2 => Option.some.inj (z1.symm.trans z2)) (Option.some.inj hx0).symm rfl (fun cA => rfl) (by show _ * 8 ≤ _; omega)
        case boolean => exact key .boolean 2 _ rfl rfl (fun cA z1 z2 => Option.some.inj (z1.symm.trans z2)) (Option.some.inj hx0).symm rfl (fun cA => rfl) (by show _ * 1 ≤ _; omega)
        all_goals cases hx0
      · cases h
    · cases h
  · cases h
/-- anewarray, of State -/
def pj_nq (G : pj_G) : List Value → Option (pj_G × List Value × Nat)
  | .int n :: r => if G.2 = true ∧ ¬ n < 0 ∧ n.toNatClampNeg ≤ 10000 then some ((G.1 ++ [.inl (3, n.toNatClampNeg, .inr (.inr (.inr (.inr (fun _ => none)))))], true), .ref (G.1.length + 1) :: r, n.toNatClampNeg) else none
  | _ => none
theorem pj_nq_snd (hx : p.tables.exec = Jvm.exec) (hb : c.code = cc) (hts : ∀ w ∈ pj_all, w.before args s = true) (hown : s.vm.findClass own = some m.cls) (hK : va_K D vwCl (pj_tys cy) s) (hbs : base ≤ s.heap.size) (hex : G.2 = true → s.heap.size + cells = base + G.1.length) {idx p1 p2 : Nat} (hok : pj_wd p1 (.classLink own idx RX8) = true) (hok2 : pj_wd p2 (.arrayOver (.object RX8)) = true) (hd : decode cc pc = .ok (.anewarray idx, 3)) (h : pj_nq G S = some (G', S', ds)) (hc : cells + 1 ≤ R.cells) (hs : slots + ds ≤ R.slots)
    (kk : pj_N p l e R s m args below meth c Q b base cy D ls (cells + 1) (slots + ds) G' (pc + 3) S') : pj_N p l e R s m args below meth c Q b base cy D ls cells slots G pc S := by
  intro H locs hP hS
  unfold pj_nq at h
  split at h
  · rename_i n r
    split at h
    · rename_i hg
      obtain ⟨h2, h3, h4⟩ := hg
      cases h
      refine va_newq hx hb hown (hts _ (pj_wd_in hok)) (va_AO.of (hts _ (pj_wd_in hok2))) hK hP (pj_D b base cy G.1) hS (fun _ z => Nat.le_trans hbs z) h3 rfl (by omega) hc hs hd (fun a cA H1 hK1 hP1 hD1 hS1 => ?_)
      refine pj_exact (fun hz => ?_)
      have e1 := hex h2
      have ha2 := pj_fresh hP1 hD1 (by omega)
      subst ha2
      obtain ⟨k1, c1, -, -, -, q1⟩ := (hK1.2 4 (cA, .object RX8) rfl).2
      obtain ⟨k2, c2, -, -, -, q2⟩ := (hK.2 3 (cy 3, .object RX8) rfl).2
      have hcA : cA = cy 3 := Option.some.inj (q1.symm.trans q2)
      subst hcA
      exact kk H1 locs (pj_app (b := b) (base := base) (cy := cy) (σ := G.1) (.inl (3, n.toNatClampNeg, .inr (.inr (.inr (.inr (fun _ => none)))))) ▸ hP1) hS1
    · cases h
  · cases h
end PJM
end
section
/-! CONTRACTS OF THE PURE MACHINE'S METHODS, CALLS -/
def pj_P (b : Nat × (Nat → Nat)) (base : Nat) (cy : Nat → ClassId) (D : va_G) (adV : Nat → Nat) (vs : List Value) (G : pj_G) : Array Value → State → Prop := fun a U =>
  a = (vs.map (pj_v (pj_ad b base))).toArray ∧ va_P D vwCl (pj_w (pj_ad b base) cy 0 G.1) U.heap ∧ va_K D vwCl (pj_tys cy) U ∧ (base ≤ U.heap.size ∧ (G.2 = true → U.heap.size = base + G.1.length)) ∧ pj_O b base 0 pj_x0 adV U U.heap
def pj_Q (b : Nat × (Nat → Nat)) (base : Nat) (cy : Nat → ClassId) (D : va_G) (v : Option Value) (G : pj_G) : Array Value → State → Outcome → State → Prop := fun _ st oc t =>
  oc = .returned (v.map (pj_v (pj_ad b base))) ∧ va_P D vwCl (pj_w (pj_ad b base) cy 0 G.1) t.heap ∧ va_F (fun q => base ≤ q) st t
theorem pj_P_blind {b : Nat × (Nat → Nat)} {base : Nat} {cy : Nat → ClassId} {D : va_G} {adV : Nat → Nat} {vs : List Value} {G : pj_G} : FrameBlind (pj_P b base cy D adV vs G) := by
  intro a U g mk h
  obtain ⟨h1, h2, h3, h4, h5⟩ := h
  exact ⟨h1, h2, va_K.moved (u := U) (U := U.calling g mk a) (Vm.Alike.refl U.vm) h3, h4, pj_O_moved (s := U) (U := U.calling g mk a) (State.WarmedH.refl U) h5⟩
section PJC
variable {p : Program} {l : Launch} {e : Env} {R : Room} {s : State} {m : MethodId} {args : Array Value} {below : List Frame} {meth : Method} {c : Code} {H : Heap} {locs : List Loc} {cells slots : Nat} {Q : State → Prop}
variable {cc : ByteArray} {pc : Nat} {ls : Array Slot} {b : Nat × (Nat → Nat)} {base : Nat} {cy : Nat → ClassId} {D : va_G} {G G' : pj_G} {S S' : List Value} {own : String} {dc ds : Nat}
/-- a world holds at least its cells -/
theorem pj_low {σ : List pj_C} (hP : va_P D vwCl (pj_w (pj_ad b base) cy 0 σ) H) (hz : base ≤ H.size) : base + σ.length ≤ H.size := by
  cases hσ : σ.length with
  | zero => omega
  | succ n =>
    have hi : n < σ.length := by omega
    have h1 : (pj_w (pj_ad b base) cy 0 σ)[n]? = some ((pj_ad b base).1 (0 + n + 1), pj_e (pj_ad b base) cy σ[n]) := by
      rw [pj_w_get, List.getElem?_eq_getElem hi]
      rfl
    have h2 : base + (0 + n) < H.size := (hP _ _ h1).lt
    omega
/-- behind a call -/
theorem pj_after {rest : List Value} {a : Array Value} {v : Option Value} {st0 : List Value} (hr : va_Run p l e R s m args below meth c H locs cells slots dc ds (F0 m pc ls st0) (rest.map (pj_v (pj_ad b base))) (pj_Q b base cy D v G' a) (fun q => base ≤ q)) (hS : va_S (fun q => base ≤ q) s.heap H locs)
    (kk : pj_N p l e R s m args below meth c Q b base cy D ls (cells + dc) (slots + ds) G' (pc + 3) (v.toList ++ rest)) : W p l e R s m args below meth c H locs cells slots Q (F0 m pc ls st0) := by
  intro T hT X
  obtain ⟨v', st₀, t, T', L, h0, X', hL, e1, e2, ⟨hv, hp, hz, hk⟩, st⟩ := hr T hT X
  have hv' : v' = v.map (pj_v (pj_ad b base)) := Outcome.returned.inj hv
  subst hv'
  rw [h0] at hz hk
  have hS' : va_S (fun q => base ≤ q) s.heap T'.heap (locs ++ L) := ⟨Nat.le_trans hS.1 (by rw [e1]; exact hz), fun q h1 h2 => by rw [e1, hk q (Nat.lt_of_lt_of_le h1 hS.1) h2]; exact hS.2.1 q h1 h2, fun q hq => by
      rcases List.mem_append.mp hq with h | h
      · exact hS.2.2 q h
      · exact hL q h⟩
  have k1 := kk T'.heap (locs ++ L) (by rw [e1]; exact hp) hS'
  have e3 : (v.toList ++ rest).map (pj_v (pj_ad b base)) = (v.map (pj_v (pj_ad b base))).toList ++ rest.map (pj_v (pj_ad b base)) := by cases v <;> simp
  rw [e3] at k1
  obtain ⟨t2, a1, b1⟩ := k1 T' rfl X'
  exact ⟨t2, st t2 a1, b1⟩
/-- what holds ahead of a call -/
theorem pj_pre {n0 : Nat} {xs : Nat → Int32} {adV : Nat → Nat} {vs : List Value} (hK : va_K D vwCl (pj_tys cy) s) (hO : pj_O b base n0 xs adV s s.heap) (hbs : base ≤ s.heap.size) (hP : va_P D vwCl (pj_w (pj_ad b base) cy 0 G.1) H) (hS : va_S (fun q => base ≤ q) s.heap H locs) (hz : H.size ≤ s.heap.size + cells) (hex : G.2 = true → s.heap.size + cells = base + G.1.length) :
    ∀ U : State, U.heap = H → s.WarmedH U.vm → pj_P b base cy D adV vs G (vs.map (pj_v (pj_ad b base))).toArray U := by
  intro U hU hW
  have hz2 : base ≤ H.size := Nat.le_trans hbs hS.1
  refine ⟨rfl, by rw [hU]; exact hP, va_K.moved hW.alike hK, ⟨by rw [hU]; exact hz2, fun h => ?_⟩, ?_⟩
  · have h1 := hex h
    have h2 := pj_low hP hz2
    rw [hU]
    omega
  · rw [hU]
    exact pj_O_moved hW (pj_O_kept (pj_O_0 hO) hbs (fun a h1 h2 => hS.2.1 a h1 h2))
/-- the words of a callee, all of them steady -/
def pj_ws (y : MethodName) (bytes : ByteArray) (maxL : Nat) (ret : Option FieldType) : List Jvm.Cond := Jvm.Cond.code y bytes maxL ret :: pj_all
theorem pj_warm {y : MethodName} {bytes : ByteArray} {maxL : Nat} {ret : Option FieldType} (hts : ∀ w ∈ pj_all, w.before args s = true) (hc : Jvm.Cond.code y bytes maxL ret ∈ pj_all) : ∀ w ∈ pj_ws y bytes maxL ret, ∀ (a' : Array Value) (U : State), s.WarmedH U.vm → w.before a' U = true := by
  intro w hw a' U hW
  have h1 : w ∈ pj_all := by
    rcases List.mem_cons.mp hw with rfl | h
    · exact hc
    · exact h
  exact pj_stb_warm (List.mem_filter.mp h1).2 hW (hts w h1)
def pj_rm (d dc ds : Nat) : Room := { frames := d, cells := dc, slots := ds, locals := 64 * d }
/-- method tables: name, code, locals, answer; places of its words: code, initialized, instanceMethod or static, selects; instructions -/
abbrev pj_I : Type := Nat × Instr × Nat × List Nat × Int
abbrev pj_M : Type := MethodName × ByteArray × Nat × Option FieldType × List Nat × List pj_I
/-- the contract of a method at a depth -/
abbrev pj_Met (l : Launch) (b : Nat × (Nat → Nat)) (base : Nat) (cy : Nat → ClassId) (D : va_G) (adV : Nat → Nat) (d : Nat) (M : pj_M) (vs : List Value) (G : pj_G) (v : Option Value) (G' : pj_G) (dc ds : Nat) : Prop :=
  Met l M.1 (pj_ws M.1 M.2.1 M.2.2.1 M.2.2.2.1) (pj_rm d dc ds) (pj_P b base cy D adV vs G) (pj_Q b base cy D v G') dc ds (fun q => base ≤ q)
/-- what a method's row must hold, however it is called -/
def pj_okM (M : pj_M) (n : Nat) : Bool := pj_wd (M.2.2.2.2.1.getD 0 0) (.code M.1 M.2.1 M.2.2.1 M.2.2.2.1) && pj_wd (M.2.2.2.2.1.getD 1 0) (.initialized M.1.cls) && (decide (M.1.cls ≠ "java/lang/invoke/MethodHandle") && decide (M.1.cls ≠ "java/lang/invoke/VarHandle")) && decide ((parseMethodDescriptor M.1.desc).map (fun d => d.parameters.length) = some n) && decide (M.2.2.1 ≤ 45)
theorem pj_okM_s {M : pj_M} {n d dc ds : Nat} (h : pj_okM M n = true) (hts : ∀ w ∈ pj_all, w.before args s = true) (hf : d + 1 ≤ R.frames) (hl : 64 * (d + 1) ≤ R.locals) :
    ((pj_rm d dc ds).cells = dc ∧ (pj_rm d dc ds).slots = ds ∧ (pj_rm d dc ds).frames + 1 ≤ R.frames ∧ 8 + (M.2.2.1 + 11) + (pj_rm d dc ds).locals ≤ R.locals ∧ (∀ w ∈ pj_ws M.1 M.2.1 M.2.2.1 M.2.2.2.1, ∀ (a' : Array Value) (U : State), s.WarmedH U.vm → w.before a' U = true) ∧ Jvm.Cond.code M.1 M.2.1 M.2.2.1 M.2.2.2.1 ∈ pj_ws M.1 M.2.1 M.2.2.1 M.2.2.2.1) ∧ (Jvm.Cond.code M.1 M.2.1 M.2.2.1 M.2.2.2.1).before args s = true ∧ (Jvm.Cond.initialized M.1.cls).before args s = true ∧ (M.1.cls ≠ "java/lang/invoke/MethodHandle" ∧ M.1.cls ≠ "java/lang/invoke/VarHandle") ∧ (∀ sig, parseMethodDescriptor M.1.desc = some sig → n = sig.parameters.length) := by
  simp only [pj_okM, Bool.and_eq_true, decide_eq_true_eq] at h
  obtain ⟨⟨⟨⟨w1, w2⟩, h3⟩, h4⟩, h5⟩ := h
  refine ⟨⟨rfl, rfl, hf, ?_, pj_warm hts (pj_wd_in w1), List.mem_cons_self⟩, hts _ (pj_wd_in w1), hts _ (pj_wd_in w2), h3, fun sig hs => ?_⟩
  · show 8 + (M.2.2.1 + 11) + 64 * d ≤ R.locals
    omega
  · rw [hs] at h4
    exact (Option.some.inj h4).symm
end PJC
end
section
/-! CALLS, BY THEIR KIND: 0 virtual, 1 virtual of a nest mate, 2 static, 3 static of a nest mate, 4 constructor, 5 constructor of a nest mate, 6 Object's, 7 arraycopy, 8 virtual of a String -/
theorem pj_cats (ad : pj_A) (r : List Value) : ((r.map (pj_v ad)).map fun v => v.category).sum = (r.map Value.category).sum := by
  rw [List.map_map]
  congr 1
  exact List.map_congr_left (fun v _ => pj_v_cat ad v)
section PJI
variable {p : Program} {l : Launch} {e : Env} {R : Room} {s : State} {m : MethodId} {args : Array Value} {below : List Frame} {meth : Method} {c : Code} {H : Heap} {locs : List Loc} {cells slots : Nat} {Q : State → Prop}
variable {cc : ByteArray} {pc nL : Nat} {ls : Array Slot} {b : Nat × (Nat → Nat)} {base : Nat} {cy : Nat → ClassId} {D : va_G} {G G' : pj_G} {S S' : List Value} {own : String} {dc ds d : Nat} {n0 : Nat} {xs : Nat → Int32} {adV : Nat → Nat}
def pj_lnk (pos : Nat) (own : String) (idx : Nat) (y : MethodName) : Bool := pj_wd pos (.methodLink own idx y)
def pj_lnkN (pos : Nat) (own : String) (idx : Nat) (y : MethodName) : Bool := pj_wd pos (.methodLinkNest own idx y pj_host)
/-- the fixed things of a walk -/
abbrev pj_Cx (p : Program) (s : State) (m : MethodId) (args : Array Value) (c : Code) (cc : ByteArray) (nL : Nat) (ls : Array Slot) (own : String) (b : Nat × (Nat → Nat)) (base : Nat) (cy : Nat → ClassId) (D : va_G) (n0 : Nat) (xs : Nat → Int32) (adV : Nat → Nat) : Prop :=
  (p.tables.exec = Jvm.exec ∧ c.code = cc ∧ c.maxLocals = nL ∧ s.vm.findClass own = some m.cls ∧ ∀ w ∈ pj_all, w.before args s = true) ∧ va_K D vwCl (pj_tys cy) s ∧ pj_O b base n0 xs adV s s.heap ∧ base ≤ s.heap.size ∧ ls.size = nL
theorem pj_iV {M : pj_M} {us rest : List Value} {v : Option Value} {a idx ci pl : Nat} {fs : List Value} {q : String × u_T × Nat × (Nat → FieldType)} (hC : pj_Cx p s m args c cc nL ls own b base cy D n0 xs adV) (hex : G.2 = true → s.heap.size + cells = base + G.1.length)
    (hM : pj_Met l b base cy D adV d M (.ref a :: us) G v G' dc ds) (hg : pj_get G a = some (.inr (ci, fs))) (hq : pj_cls[ci]? = some q) (hqn : q.1 = M.1.cls) (hokM : pj_okM M us.length = true) (hin : pj_wd (M.2.2.2.2.1.getD 2 0) (.instanceMethod M.1) = true) (hse : pj_wd (M.2.2.2.2.1.getD 3 0) (.selects M.1.cls M.1 M.1) = true)
    (hl : pj_lnk pl own idx M.1 = true ∨ pj_lnkN pl own idx M.1 = true) (hd : decode cc pc = .ok (.invokevirtual idx, 3)) (hf : d + 1 ≤ R.frames) (hlo : 64 * (d + 1) ≤ R.locals) (hc : cells + dc ≤ R.cells) (hs : slots + ds ≤ R.slots) (hW : (rest.map Value.category).sum ≤ 8)
    (kk : pj_N p l e R s m args below meth c Q b base cy D ls (cells + dc) (slots + ds) G' (pc + 3) (v.toList ++ rest)) : pj_N p l e R s m args below meth c Q b base cy D ls cells slots G pc ((Value.ref a :: us).reverse ++ rest) := by
  obtain ⟨hS0, hK, hO, hbs, hls⟩ := hC
  have hts := hS0.2.2.2.2
  intro H locs hP hS
  refine pj_exact (fun hz => ?_)
  have hstk : ((Value.ref a :: us).reverse ++ rest).map (pj_v (pj_ad b base)) = (us.map (pj_v (pj_ad b base))).reverse ++ Value.ref ((pj_ad b base).1 a) :: rest.map (pj_v (pj_ad b base)) := by simp [pj_v]
  rw [hstk]
  obtain ⟨i, -, hi⟩ := pj_at (b := b) (base := base) (cy := cy) hg
  have hrc := va_recv hK hP (pj_cls_1 hq) hi
  rw [show (q.1, q.2.1, q.2.2.1).1 = M.1.cls from hqn] at hrc
  obtain ⟨⟨k1, k2, k3, k4, k5, k6⟩, k7, k8, k9, k10⟩ := pj_okM_s (R := R) (d := d) (dc := dc) (ds := ds) hokM hts hf hlo
  have hpre := pj_pre (vs := .ref a :: us) hK hO hbs hP hS hz hex
  rcases hl with hl | hl
  · exact pj_after (va_runV (As := us.map (pj_v (pj_ad b base))) (rest := rest.map (pj_v (pj_ad b base))) hS0 hM ⟨⟨k1, k2, k3, k4, k5, k6, k7, k8, k9, k10, hts _ (pj_wd_in hl)⟩, hts _ (pj_wd_in hin), hts _ (pj_wd_in hse)⟩ ⟨pj_P_blind, hrc, hpre⟩ rfl (by rw [List.length_map]) hls rfl (lv_room (by rw [pj_cats]; exact hW)) hd ⟨hc, hs⟩) hS kk
  · exact pj_after (va_runVN (As := us.map (pj_v (pj_ad b base))) (rest := rest.map (pj_v (pj_ad b base))) hS0 hM ⟨⟨⟨k1, k2, k3, k4, k5, k6⟩, k7, k8, k9, k10, hts _ (pj_wd_in hl)⟩, hts _ (pj_wd_in hin), hts _ (pj_wd_in hse)⟩ ⟨pj_P_blind, hrc, hpre⟩ rfl (by rw [List.length_map]) hls rfl (lv_room (by rw [pj_cats]; exact hW)) hd ⟨hc, hs⟩) hS kk
theorem pj_iT {M : pj_M} {us rest : List Value} {v : Option Value} {k idx pl : Nat} {q : String × Nat × String} (hC : pj_Cx p s m args c cc nL ls own b base cy D n0 xs adV) (hex : G.2 = true → s.heap.size + cells = base + G.1.length)
    (hM : pj_Met l b base cy D adV d M (.retAddr k :: us) G v G' dc ds) (hg : pj_strs[k]? = some q) (hqn : "java/lang/String" = M.1.cls) (hokM : pj_okM M us.length = true) (hin : pj_wd (M.2.2.2.2.1.getD 2 0) (.instanceMethod M.1) = true) (hse : pj_wd (M.2.2.2.2.1.getD 3 0) (.selects M.1.cls M.1 M.1) = true)
    (hl : pj_lnk pl own idx M.1 = true) (hd : decode cc pc = .ok (.invokevirtual idx, 3)) (hf : d + 1 ≤ R.frames) (hlo : 64 * (d + 1) ≤ R.locals) (hc : cells + dc ≤ R.cells) (hs : slots + ds ≤ R.slots) (hW : (rest.map Value.category).sum ≤ 8)
    (kk : pj_N p l e R s m args below meth c Q b base cy D ls (cells + dc) (slots + ds) G' (pc + 3) (v.toList ++ rest)) : pj_N p l e R s m args below meth c Q b base cy D ls cells slots G pc ((Value.retAddr k :: us).reverse ++ rest) := by
  obtain ⟨hS0, hK, hO, hbs, hls⟩ := hC
  have hts := hS0.2.2.2.2
  intro H locs hP hS
  refine pj_exact (fun hz => ?_)
  have hstk : ((Value.retAddr k :: us).reverse ++ rest).map (pj_v (pj_ad b base)) = (us.map (pj_v (pj_ad b base))).reverse ++ Value.ref ((pj_ad b base).2 k) :: rest.map (pj_v (pj_ad b base)) := by simp [pj_v]
  rw [hstk]
  have hrc : ∃ cell : Cell, H[b.2 k]? = some cell ∧ cell.vm.isStatics = false ∧ s.vm.findClass "java/lang/String" = some cell.cls := by
    obtain ⟨cell, h1, h2, h3, -⟩ := (hO.2.1 k q hg).2.1.kept (H1 := H) hS.2.1
    exact ⟨cell, h1, h2, h3⟩
  rw [hqn] at hrc
  obtain ⟨⟨k1, k2, k3, k4, k5, k6⟩, k7, k8, k9, k10⟩ := pj_okM_s (R := R) (d := d) (dc := dc) (ds := ds) hokM hts hf hlo
  have hpre := pj_pre (vs := .retAddr k :: us) hK hO hbs hP hS hz hex
  exact pj_after (va_runV (As := us.map (pj_v (pj_ad b base))) (rest := rest.map (pj_v (pj_ad b base))) hS0 hM ⟨⟨k1, k2, k3, k4, k5, k6, k7, k8, k9, k10, hts _ (pj_wd_in hl)⟩, hts _ (pj_wd_in hin), hts _ (pj_wd_in hse)⟩ ⟨pj_P_blind, hrc, hpre⟩ rfl (by rw [List.length_map]) hls rfl (lv_room (by rw [pj_cats]; exact hW)) hd ⟨hc, hs⟩) hS kk
theorem pj_iS {M : pj_M} {vs rest : List Value} {v : Option Value} {idx pl : Nat} (hC : pj_Cx p s m args c cc nL ls own b base cy D n0 xs adV) (hex : G.2 = true → s.heap.size + cells = base + G.1.length)
    (hM : pj_Met l b base cy D adV d M vs G v G' dc ds) (hokM : pj_okM M vs.length = true) (hst : pj_wd (M.2.2.2.2.1.getD 2 0) (.static M.1) = true)
    (hl : pj_lnk pl own idx M.1 = true ∨ pj_lnkN pl own idx M.1 = true) (hd : decode cc pc = .ok (.invokestatic idx, 3)) (hf : d + 1 ≤ R.frames) (hlo : 64 * (d + 1) ≤ R.locals) (hc : cells + dc ≤ R.cells) (hs : slots + ds ≤ R.slots) (hW : (rest.map Value.category).sum ≤ 8)
    (kk : pj_N p l e R s m args below meth c Q b base cy D ls (cells + dc) (slots + ds) G' (pc + 3) (v.toList ++ rest)) : pj_N p l e R s m args below meth c Q b base cy D ls cells slots G pc (vs.reverse ++ rest) := by
  obtain ⟨hS0, hK, hO, hbs, hls⟩ := hC
  have hts := hS0.2.2.2.2
  intro H locs hP hS
  refine pj_exact (fun hz => ?_)
  have hstk : (vs.reverse ++ rest).map (pj_v (pj_ad b base)) = (vs.map (pj_v (pj_ad b base))).reverse ++ rest.map (pj_v (pj_ad b base)) := by simp
  rw [hstk]
  obtain ⟨⟨k1, k2, k3, k4, k5, k6⟩, k7, k8, k9, k10⟩ := pj_okM_s (R := R) (d := d) (dc := dc) (ds := ds) hokM hts hf hlo
  have hpre := pj_pre (vs := vs) hK hO hbs hP hS hz hex
  rcases hl with hl | hl
  · exact pj_after (va_runS (As := vs.map (pj_v (pj_ad b base))) (rest := rest.map (pj_v (pj_ad b base))) hS0 hM ⟨⟨k1, k2, k3, k4, k5, k6, k7, k8, k9, k10, hts _ (pj_wd_in hl)⟩, hts _ (pj_wd_in hst)⟩ ⟨pj_P_blind, hpre⟩ rfl (by rw [List.length_map]) hls rfl (lv_room (by rw [pj_cats]; exact hW)) hd ⟨hc, hs⟩) hS kk
  · exact pj_after (va_runSN (As := vs.map (pj_v (pj_ad b base))) (rest := rest.map (pj_v (pj_ad b base))) hS0 hM ⟨⟨⟨k1, k2, k3, k4, k5, k6⟩, k7, k8, k9, k10, hts _ (pj_wd_in hl)⟩, hts _ (pj_wd_in hst), trivial⟩ ⟨pj_P_blind, hpre⟩ rfl (by rw [List.length_map]) hls rfl (lv_room (by rw [pj_cats]; exact hW)) hd ⟨hc, hs⟩) hS kk
theorem pj_iI {M : pj_M} {us rest : List Value} {v : Option Value} {a idx pl : Nat} (hC : pj_Cx p s m args c cc nL ls own b base cy D n0 xs adV) (hex : G.2 = true → s.heap.size + cells = base + G.1.length)
    (hM : pj_Met l b base cy D adV d M (.ref a :: us) G v G' dc ds) (hret : M.2.2.2.1 = none) (hokM : pj_okM M us.length = true) (hin : pj_wd (M.2.2.2.2.1.getD 2 0) (.instanceMethod M.1) = true) (hnm : M.1.name = "<init>")
    (hl : pj_lnk pl own idx M.1 = true ∨ pj_lnkN pl own idx M.1 = true) (hd : decode cc pc = .ok (.invokespecial idx, 3)) (hf : d + 1 ≤ R.frames) (hlo : 64 * (d + 1) ≤ R.locals) (hc : cells + dc ≤ R.cells) (hs : slots + ds ≤ R.slots) (hW : (rest.map Value.category).sum ≤ 8)
    (kk : pj_N p l e R s m args below meth c Q b base cy D ls (cells + dc) (slots + ds) G' (pc + 3) (v.toList ++ rest)) : pj_N p l e R s m args below meth c Q b base cy D ls cells slots G pc ((Value.ref a :: us).reverse ++ rest) := by
  obtain ⟨hS0, hK, hO, hbs, hls⟩ := hC
  have hts := hS0.2.2.2.2
  intro H locs hP hS
  refine pj_exact (fun hz => ?_)
  have hstk : ((Value.ref a :: us).reverse ++ rest).map (pj_v (pj_ad b base)) = (us.map (pj_v (pj_ad b base))).reverse ++ Value.ref ((pj_ad b base).1 a) :: rest.map (pj_v (pj_ad b base)) := by simp [pj_v]
  rw [hstk]
  obtain ⟨⟨k1, k2, k3, k4, k5, k6⟩, k7, k8, k9, k10⟩ := pj_okM_s (R := R) (d := d) (dc := dc) (ds := ds) hokM hts hf hlo
  have hpre := pj_pre (vs := .ref a :: us) hK hO hbs hP hS hz hex
  have hM' : Met l M.1 (pj_ws M.1 M.2.1 M.2.2.1 none) (pj_rm d dc ds) (pj_P b base cy D adV (.ref a :: us) G) (pj_Q b base cy D v G') dc ds (fun q => base ≤ q) := by
    have h := hM
    unfold pj_Met at h
    rw [hret] at h
    exact h
  rw [hret] at k5 k6 k7
  rcases hl with hl | hl
  · exact pj_after (va_runI (As := us.map (pj_v (pj_ad b base))) (rest := rest.map (pj_v (pj_ad b base))) hS0 hM' ⟨⟨k1, k2, k3, k4, k5, k6, k7, k8, k9, k10, hts _ (pj_wd_in hl)⟩, hnm, hts _ (pj_wd_in hin)⟩ ⟨pj_P_blind, hpre⟩ rfl (by rw [List.length_map]) hls rfl (lv_room (by rw [pj_cats]; exact hW)) hd ⟨hc, hs⟩) hS kk
  · exact pj_after (va_runIN (As := us.map (pj_v (pj_ad b base))) (rest := rest.map (pj_v (pj_ad b base))) hS0 hM' ⟨⟨⟨k1, k2, k3, k4, k5, k6⟩, k7, k8, k9, k10, hts _ (pj_wd_in hl)⟩, hnm, hts _ (pj_wd_in hin)⟩ ⟨pj_P_blind, hpre⟩ rfl (by rw [List.length_map]) hls rfl (lv_room (by rw [pj_cats]; exact hW)) hd ⟨hc, hs⟩) hS kk
theorem pj_iO {rest : List Value} {a idx pl p1 p2 : Nat} (hC : pj_Cx p s m args c cc nL ls own b base cy D n0 xs adV) (hl : pj_lnk pl own idx Lib.objectInit = true) (hin : pj_wd p1 (.instanceMethod Lib.objectInit) = true) (hco : pj_wd p2 (.code Lib.objectInit ⟨#[0xb1]⟩ 1 none) = true) (hd : decode cc pc = .ok (.invokespecial idx, 3)) (hf : 1 ≤ R.frames) (hlo : 64 ≤ R.locals) (hW : (rest.map Value.category).sum ≤ 8)
    (kk : pj_N p l e R s m args below meth c Q b base cy D ls cells slots G (pc + 3) rest) : pj_N p l e R s m args below meth c Q b base cy D ls cells slots G pc (.ref a :: rest) := by
  obtain ⟨⟨hx, hb, hml, hown, hts⟩, hK, hO, hbs, hls⟩ := hC
  intro H locs hP hS
  refine W.objInit hx hb hown (hts _ (pj_wd_in hl)) (hts _ (pj_wd_in hin)) (hts _ (pj_wd_in hco)) rfl (by rw [hml]; exact hls) rfl hd hf ?_ (kk H locs hP hS)
  have h1 : 2 * (F0 m pc ls (rest.map (pj_v (pj_ad b base)))).monitorRoom + ((rest.map (pj_v (pj_ad b base))).map fun v => v.category).sum ≤ 8 := lv_room (by rw [pj_cats]; exact hW)
  have h2 : 2 * (F0 m pc ls ((Value.ref a :: rest).map (pj_v (pj_ad b base)))).monitorRoom + ((rest.map (pj_v (pj_ad b base))).map fun v => v.category).sum ≤ 8 := h1
  omega
/-- arraycopy of ints -/
def pj_cp (G : pj_G) : List Value → Option (pj_G × List Value)
  | .int n :: .int dp :: .ref a1 :: .int sp :: .ref a0 :: r => (match pj_get G a0, pj_get G a1 with
    | some (.inl (k0, n0, .inl f)), some (.inl (k1, n1, .inl g)) => if k0 = 0 ∧ k1 = 0 ∧ ¬ sp < 0 ∧ ¬ dp < 0 ∧ ¬ n < 0 ∧ sp.toNatClampNeg + n.toNatClampNeg ≤ n0 ∧ dp.toNatClampNeg + n.toNatClampNeg ≤ n1 ∧ (r.map Value.category).sum ≤ 8 then some (pj_put G a1 (.inl (0, n1, .inl (va_cpy f g sp.toNatClampNeg dp.toNatClampNeg n.toNatClampNeg))), r) else none
    | _, _ => none)
  | _ => none
theorem pj_iA {idx pl p1 p2 p3 : Nat} (hC : pj_Cx p s m args c cc nL ls own b base cy D n0 xs adV) (hl : pj_lnk pl own idx arraycopyName = true) (h1 : pj_wd p1 (.native arraycopyName) = true) (h2 : pj_wd p2 (.static arraycopyName) = true) (h3 : pj_wd p3 (.initialized "java/lang/System") = true) (hd : decode cc pc = .ok (.invokestatic idx, 3)) (hf : 1 ≤ R.frames) (hlo : 64 ≤ R.locals) (h : pj_cp G S = some (G', S'))
    (kk : pj_N p l e R s m args below meth c Q b base cy D ls cells slots G' (pc + 3) S') : pj_N p l e R s m args below meth c Q b base cy D ls cells slots G pc S := by
  obtain ⟨⟨hx, hb, hml, hown, hts⟩, hK, hO, hbs, hls⟩ := hC
  intro H locs hP hS
  unfold pj_cp at h
  split at h
  · split at h
    · split at h
      · rename_i g0 g1 hg
        obtain ⟨rfl, rfl, q1, q2, q3, q4, q5, q6⟩ := hg
        cases h
        obtain ⟨i0, rfl, hi0⟩ := pj_at (b := b) (base := base) (cy := cy) g0
        obtain ⟨i1, rfl, hi1⟩ := pj_at (b := b) (base := base) (cy := cy) g1
        refine va_copyi (ty := .int) hx hb (hml.trans hls.symm) hown (hts _ (pj_wd_in hl)) (hts _ (pj_wd_in h1)) (hts _ (pj_wd_in h2)) (hts _ (pj_wd_in h3)) hK hP (pj_D b base cy G.1) hS i0 i1 0 0 hi0 hi1 rfl rfl rfl q1 q2 q3 q4 q5 (fun _ _ => rfl) hf ?_ hd (fun H1 locs1 hP1 _ hS1 => kk H1 locs1 (pj_set (b := b) (base := base) (cy := cy) (G := G) (i := i1) _ ▸ hP1) hS1)
        rw [pj_cats]
        have e1 : nativeFrameWords "java/lang/System" "arraycopy" 5 = 7 := by decide +kernel
        rw [e1]
        omega
      · cases h
    · cases h
  · cases h
end PJI
end
section
/-! ONE STEP -/
abbrev pj_F : Type := Nat → List Value → pj_G → Option (Option Value × pj_G × Nat × Nat)
abbrev pj_T : Type := pj_G × Nat × pj_L × List Value × Nat × Nat
def pj_rcv (kind ci : Nat) (G : pj_G) (vs : List Value) : Bool := match kind with
  | 0 => (match vs with
    | .ref a :: _ => (match pj_get G a with
      | some (.inr (c, _)) => c == ci
      | _ => false)
    | _ => false)
  | 2 => true
  | 4 => (match vs with
    | .ref _ :: _ => true
    | _ => false)
  | 8 => (match vs with
    | .retAddr k :: _ => decide (k < 16)
    | _ => false)
  | 9 => true
  | _ => false
/-- Math.max, min, abs -/
def pj_mth (kind : Nat) (S : List Value) : Option (List Value) := match kind with
  | 10 => (match S with
    | .int y :: .int x :: r => if (r.map Value.category).sum ≤ 8 then some (.int (if x < y then y else x) :: r) else none
    | _ => none)
  | 11 => (match S with
    | .int y :: .int x :: r => if (r.map Value.category).sum ≤ 8 then some (.int (if y < x then y else x) :: r) else none
    | _ => none)
  | 12 => (match S with
    | .int x :: r => if (r.map Value.category).sum ≤ 8 then some (.int (if 0 ≤ x then x else 0 - x) :: r) else none
    | _ => none)
  | _ => none
/-- the law's own helpers, which catch: name, code, locals, answer, table -/
abbrev pj_Hl : Type := MethodName × ByteArray × Nat × Option FieldType × List (Nat × Nat × Nat × Nat)
def pj_hl : List pj_Hl := [(yL_crossing, cL_crossing, 5, some .int, [(0, 10, 13, 13)]), (yL_bridge, cL_bridge, 5, some .int, [(0, 10, 13, 13)]), (yL_person, cL_person, 5, some .int, [(0, 10, 13, 13)]), (yL_row, cL_row, 4, some .int, [(0, 8, 11, 13)])]
def pj_hw (h : pj_Hl) : Jvm.Cond := .codeWith h.1 h.2.1 h.2.2.1 h.2.2.2.1 h.2.2.2.2
abbrev pj_MetH (l : Launch) (b : Nat × (Nat → Nat)) (base : Nat) (cy : Nat → ClassId) (D : va_G) (adV : Nat → Nat) (d : Nat) (h : pj_Hl) (vs : List Value) (G : pj_G) (v : Option Value) (G' : pj_G) (dc ds : Nat) : Prop :=
  Met l h.1 (pj_hw h :: pj_all) (pj_rm d dc ds) (pj_P b base cy D adV vs G) (pj_Q b base cy D v G') dc ds (fun q => base ≤ q)
def pj_inv (call : pj_F) (inf : List Nat) (G : pj_G) (S : List Value) : Option (pj_G × List Value × Nat × Nat) :=
  if inf.getD 1 0 ≤ S.length ∧ ((S.drop (inf.getD 1 0)).map Value.category).sum ≤ 8 ∧ pj_rcv (inf.getD 0 0) (inf.getD 3 0) G (S.take (inf.getD 1 0)).reverse = true then
    (match call (inf.getD 2 0) (S.take (inf.getD 1 0)).reverse G with
    | some r => some (r.2.1, r.1.toList ++ S.drop (inf.getD 1 0), r.2.2.1, r.2.2.2)
    | none => none)
  else none
def pj_oi (S : List Value) : Option (List Value) := match S with
  | .ref _ :: r => if (r.map Value.category).sum ≤ 8 then some r else none
  | _ => none
def pj_s (call : pj_F) (n0 : Nat) (xs : Nat → Int32) (nL : Nat) (inf : List Nat) (z : Int) (i : Instr) (pc : Nat) (G : pj_G) (L : pj_L) (S : List Value) : Option pj_T := match i with
  | .getfield _ => (pj_gf (inf.getD 0 0) (inf.getD 1 0) G S).map (fun r => (G, pc + 3, L, r, 0, 0))
  | .putfield _ => (pj_pf (inf.getD 0 0) (inf.getD 1 0) G S).map (fun r => (r.1, pc + 3, L, r.2, 0, 0))
  | .iaload => (match pj_sc n0 xs S with
    | some r => some (G, pc + 1, L, r, 0, 0)
    | none => (pj_rdi G S).map (fun r => (G, pc + 1, L, r, 0, 0)))
  | .baload => (pj_rdz G S).map (fun r => (G, pc + 1, L, r, 0, 0))
  | .laload => (pj_rdl G S).map (fun r => (G, pc + 1, L, r, 0, 0))
  | .aaload => (pj_rdq G S).map (fun r => (G, pc + 1, L, r, 0, 0))
  | .iastore => (pj_asi G S).map (fun r => (r.1, pc + 1, L, r.2, 0, 0))
  | .bastore => (pj_asz G S).map (fun r => (r.1, pc + 1, L, r.2, 0, 0))
  | .lastore => (pj_asl G S).map (fun r => (r.1, pc + 1, L, r.2, 0, 0))
  | .aastore => (pj_asq G S).map (fun r => (r.1, pc + 1, L, r.2, 0, 0))
  | .arraylength => (pj_aln n0 G S).map (fun r => (G, pc + 1, L, r, 0, 0))
  | .new _ => (pj_nw (inf.getD 0 0) G S).map (fun r => (r.1, pc + 3, L, r.2.1, 1, r.2.2))
  | .newarray a => (pj_na a G S).map (fun r => (r.1, pc + 2, L, r.2.1, 1, r.2.2))
  | .anewarray _ => (pj_nq G S).map (fun r => (r.1, pc + 3, L, r.2.1, 1, r.2.2))
  | .ldc _ => some (G, pc + 2, L, (if inf.getD 0 0 = 0 then Value.int (Int32.ofInt z) else Value.retAddr (inf.getD 1 0)) :: S, 0, 0)
  | .ldc_w _ => some (G, pc + 3, L, (if inf.getD 0 0 = 0 then Value.int (Int32.ofInt z) else Value.retAddr (inf.getD 1 0)) :: S, 0, 0)
  | .ldc2_w _ => some (G, pc + 3, L, Value.long (Int64.ofInt z) :: S, 0, 0)
  | .invokevirtual _ => (pj_inv call inf G S).map (fun r => (r.1, pc + 3, L, r.2.1, r.2.2.1, r.2.2.2))
  | .invokespecial _ => if inf.getD 0 0 = 6 then (pj_oi S).map (fun r => (G, pc + 3, L, r, 0, 0)) else (pj_inv call inf G S).map (fun r => (r.1, pc + 3, L, r.2.1, r.2.2.1, r.2.2.2))
  | .invokestatic _ => if inf.getD 0 0 = 7 then (pj_cp G S).map (fun r => (r.1, pc + 3, L, r.2, 0, 0)) else if 10 ≤ inf.getD 0 0 then (pj_mth (inf.getD 0 0) S).map (fun r => (G, pc + 3, L, r, 0, 0)) else (pj_inv call inf G S).map (fun r => (r.1, pc + 3, L, r.2.1, r.2.2.1, r.2.2.2))
  | .goto q => (pj_kb (.goto q) (inf.getD 0 0) pc S).map (fun r => (G, r.1, L, r.2, 0, 0))
  | .ifCond q1 q2 => (pj_kb (.ifCond q1 q2) (inf.getD 0 0) pc S).map (fun r => (G, r.1, L, r.2, 0, 0))
  | .if_icmp q1 q2 => (pj_kb (.if_icmp q1 q2) (inf.getD 0 0) pc S).map (fun r => (G, r.1, L, r.2, 0, 0))
  | .tableswitch q1 q2 q3 q4 => (pj_kb (.tableswitch q1 q2 q3 q4) (inf.getD 0 0) pc S).map (fun r => (G, r.1, L, r.2, 0, 0))
  | .lookupswitch q1 q2 => (pj_kb (.lookupswitch q1 q2) (inf.getD 0 0) pc S).map (fun r => (G, r.1, L, r.2, 0, 0))
  | .iload_n k => (pj_kl nL (.iload_n k) L S).map (fun r => (G, pc + pj_len (.iload_n k), r.1, r.2, 0, 0))
  | .iload k => (pj_kl nL (.iload k) L S).map (fun r => (G, pc + pj_len (.iload k), r.1, r.2, 0, 0))
  | .lload_n k => (pj_kl nL (.lload_n k) L S).map (fun r => (G, pc + pj_len (.lload_n k), r.1, r.2, 0, 0))
  | .lload k => (pj_kl nL (.lload k) L S).map (fun r => (G, pc + pj_len (.lload k), r.1, r.2, 0, 0))
  | .aload_n k => (pj_kl nL (.aload_n k) L S).map (fun r => (G, pc + pj_len (.aload_n k), r.1, r.2, 0, 0))
  | .aload k => (pj_kl nL (.aload k) L S).map (fun r => (G, pc + pj_len (.aload k), r.1, r.2, 0, 0))
  | .istore_n k => (pj_kl nL (.istore_n k) L S).map (fun r => (G, pc + pj_len (.istore_n k), r.1, r.2, 0, 0))
  | .istore k => (pj_kl nL (.istore k) L S).map (fun r => (G, pc + pj_len (.istore k), r.1, r.2, 0, 0))
  | .lstore_n k => (pj_kl nL (.lstore_n k) L S).map (fun r => (G, pc + pj_len (.lstore_n k), r.1, r.2, 0, 0))
  | .lstore k => (pj_kl nL (.lstore k) L S).map (fun r => (G, pc + pj_len (.lstore k), r.1, r.2, 0, 0))
  | .astore_n k => (pj_kl nL (.astore_n k) L S).map (fun r => (G, pc + pj_len (.astore_n k), r.1, r.2, 0, 0))
  | .astore k => (pj_kl nL (.astore k) L S).map (fun r => (G, pc + pj_len (.astore k), r.1, r.2, 0, 0))
  | .iinc k q => (pj_kl nL (.iinc k q) L S).map (fun r => (G, pc + 3, r.1, r.2, 0, 0))
  | i => (pj_k i S).map (fun r => (G, pc + pj_len i, L, r, 0, 0))
def pj_okv (P : List pj_M) (own : String) (idx : Nat) (inf : List Nat) : Bool := match P[inf.getD 2 0]? with
  | none => false
  | some M => decide (1 ≤ inf.getD 1 0) && pj_okM M (inf.getD 1 0 - 1) && pj_wd (M.2.2.2.2.1.getD 2 0) (.instanceMethod M.1) && pj_wd (M.2.2.2.2.1.getD 3 0) (.selects M.1.cls M.1 M.1) &&
    ((decide (inf.getD 0 0 = 0) && ((pj_lnk (inf.getD 4 0) own idx M.1 || pj_lnkN (inf.getD 4 0) own idx M.1) && decide ((pj_cls[inf.getD 3 0]?).map (fun q => q.1) = some M.1.cls))) ||
     (decide (inf.getD 0 0 = 8) && (pj_lnk (inf.getD 4 0) own idx M.1 && decide ("java/lang/String" = M.1.cls))))
def pj_oks (P : List pj_M) (own : String) (idx : Nat) (inf : List Nat) : Bool := if inf.getD 0 0 = 7 then pj_lnk (inf.getD 4 0) own idx arraycopyName && pj_wd (inf.getD 5 0) (.native arraycopyName) && pj_wd (inf.getD 6 0) (.static arraycopyName) && pj_wd (inf.getD 7 0) (.initialized "java/lang/System") else if inf.getD 0 0 = 10 then pj_lnk (inf.getD 4 0) own idx Lib.Math.max.name && pj_wd (inf.getD 5 0) (.static Lib.Math.max.name) && pj_wd (inf.getD 6 0) (.initialized "java/lang/Math") && pj_wd (inf.getD 7 0) (.code Lib.Math.max.name Lib.Math.max.code 2 (some .int))
  else if inf.getD 0 0 = 11 then pj_lnk (inf.getD 4 0) own idx Lib.Math.min.name && pj_wd (inf.getD 5 0) (.static Lib.Math.min.name) && pj_wd (inf.getD 6 0) (.initialized "java/lang/Math") && pj_wd (inf.getD 7 0) (.code Lib.Math.min.name Lib.Math.min.code 2 (some .int))
  else if inf.getD 0 0 = 12 then pj_lnk (inf.getD 4 0) own idx Lib.Math.abs.name && pj_wd (inf.getD 5 0) (.static Lib.Math.abs.name) && pj_wd (inf.getD 6 0) (.initialized "java/lang/Math") && pj_wd (inf.getD 7 0) (.code Lib.Math.abs.name Lib.Math.abs.code 1 (some .int))
  else if inf.getD 0 0 = 9 then (match pj_hl[inf.getD 2 0 - 1000]? with
    | none => false
    | some h => decide (1000 ≤ inf.getD 2 0) && pj_lnk (inf.getD 4 0) own idx h.1 && pj_wd (inf.getD 5 0) (.static h.1) && pj_wd (inf.getD 6 0) (.initialized h.1.cls) && pj_wd (inf.getD 7 0) (pj_hw h) && (decide (h.1.cls ≠ "java/lang/invoke/MethodHandle") && decide (h.1.cls ≠ "java/lang/invoke/VarHandle")) && decide ((parseMethodDescriptor h.1.desc).map (fun d => d.parameters.length) = some (inf.getD 1 0)) && decide (h.2.2.1 ≤ 45))
  else (match P[inf.getD 2 0]? with
  | none => false
  | some M => decide (inf.getD 0 0 = 2) && pj_okM M (inf.getD 1 0) && pj_wd (M.2.2.2.2.1.getD 2 0) (.static M.1) && (pj_lnk (inf.getD 4 0) own idx M.1 || pj_lnkN (inf.getD 4 0) own idx M.1))
def pj_okc (P : List pj_M) (own : String) (idx : Nat) (inf : List Nat) : Bool := if inf.getD 0 0 = 6 then pj_lnk (inf.getD 4 0) own idx Lib.objectInit && pj_wd (inf.getD 5 0) (.instanceMethod Lib.objectInit) && pj_wd (inf.getD 6 0) (.code Lib.objectInit ⟨#[0xb1]⟩ 1 none) else (match P[inf.getD 2 0]? with
  | none => false
  | some M => decide (inf.getD 0 0 = 4) && decide (1 ≤ inf.getD 1 0) && pj_okM M (inf.getD 1 0 - 1) && pj_wd (M.2.2.2.2.1.getD 2 0) (.instanceMethod M.1) && decide (M.1.name = "<init>") && decide (M.2.2.2.1 = none) && (pj_lnk (inf.getD 4 0) own idx M.1 || pj_lnkN (inf.getD 4 0) own idx M.1))
def pj_ok (P : List pj_M) (own : String) (ini : Bool) (pc : Nat) (i : Instr) (len : Nat) (inf : List Nat) (z : Int) : Bool := match i with
  | .getfield idx => decide (len = 3) && pj_okf own idx (inf.getD 0 0) (inf.getD 1 0) (inf.getD 2 0)
  | .putfield idx => decide (len = 3) && pj_okf own idx (inf.getD 0 0) (inf.getD 1 0) (inf.getD 2 0) && pj_okp own ini idx (inf.getD 0 0) (inf.getD 1 0) (inf.getD 2 0)
  | .new idx => decide (len = 3) && pj_okn own idx (inf.getD 0 0) (inf.getD 1 0) (inf.getD 2 0) (inf.getD 3 0)
  | .newarray a => decide (len = 2) && pj_wd (inf.getD 0 0) (.arrayClass (newarray.typeOf a))
  | .anewarray idx => decide (len = 3) && pj_wd (inf.getD 0 0) (.classLink own idx RX8) && pj_wd (inf.getD 1 0) (.arrayOver (.object RX8))
  | .ldc idx => decide (len = 2) && (if inf.getD 0 0 = 0 then pj_wd (inf.getD 1 0) (.constant own idx (Int32.ofInt z)) else decide ((pj_strs[inf.getD 1 0]?).map (fun q => (q.1, q.2.1)) = some (own, idx)))
  | .ldc_w idx => decide (len = 3) && (if inf.getD 0 0 = 0 then pj_wd (inf.getD 1 0) (.constant own idx (Int32.ofInt z)) else decide ((pj_strs[inf.getD 1 0]?).map (fun q => (q.1, q.2.1)) = some (own, idx)))
  | .ldc2_w idx => decide (len = 3) && pj_wd (inf.getD 1 0) (.constantLong own idx (Int64.ofInt z))
  | .invokevirtual idx => decide (len = 3) && pj_okv P own idx inf
  | .invokespecial idx => decide (len = 3) && pj_okc P own idx inf
  | .invokestatic idx => decide (len = 3) && pj_oks P own idx inf
  | .tableswitch .. => true
  | .lookupswitch q1 q2 => pj_okb (.lookupswitch q1 q2) 0 pc
  | .goto q => decide (len = 3) && pj_okb (.goto q) (inf.getD 0 0) pc
  | .ifCond q1 q2 => decide (len = 3) && pj_okb (.ifCond q1 q2) (inf.getD 0 0) pc
  | .if_icmp q1 q2 => decide (len = 3) && pj_okb (.if_icmp q1 q2) (inf.getD 0 0) pc
  | i => decide (len = pj_len i)
theorem pj_map {α β : Type} {x : Option α} {f : α → β} {y : β} (h : x.map f = some y) : ∃ a, x = some a ∧ f a = y := Option.map_eq_some_iff.mp h
theorem pj_take (n : Nat) (S : List Value) : S = (S.take n).reverse.reverse ++ S.drop n := by rw [List.reverse_reverse, List.take_append_drop]
theorem pj_inv_s {call : pj_F} {inf : List Nat} {G G' : pj_G} {S S' : List Value} {dc ds : Nat} (h : pj_inv call inf G S = some (G', S', dc, ds)) : ∃ (vs rest : List Value) (v : Option Value), S = vs.reverse ++ rest ∧ vs.length = inf.getD 1 0 ∧ (rest.map Value.category).sum ≤ 8 ∧ pj_rcv (inf.getD 0 0) (inf.getD 3 0) G vs = true ∧ call (inf.getD 2 0) vs G = some (v, G', dc, ds) ∧ S' = v.toList ++ rest := by
  unfold pj_inv at h
  split at h
  · rename_i hg
    obtain ⟨h1, h2, h3⟩ := hg
    split at h
    · rename_i r hr
      cases h
      refine ⟨(S.take (inf.getD 1 0)).reverse, S.drop (inf.getD 1 0), r.1, pj_take _ S, ?_, h2, h3, hr, rfl⟩
      rw [List.length_reverse, List.length_take]
      exact Nat.min_eq_left h1
    · cases h
  · cases h
section PJS
variable {p : Program} {l : Launch} {e : Env} {R : Room} {s : State} {m : MethodId} {args : Array Value} {below : List Frame} {meth : Method} {c : Code} {H : Heap} {locs : List Loc} {cells slots : Nat} {Q : State → Prop}
variable {cc : ByteArray} {pc nL : Nat} {ls : Array Slot} {b : Nat × (Nat → Nat)} {base : Nat} {cy : Nat → ClassId} {D : va_G} {G G' : pj_G} {S S' : List Value} {own : String} {dc ds d : Nat} {n0 : Nat} {xs : Nat → Int32} {adV : Nat → Nat} {L L' : pj_L} {pc' : Nat}
theorem pj_s_k {i : Instr} (hx : p.tables.exec = Jvm.exec) (hb : c.code = cc) (hlv : lv_has ls nL (pj_l (pj_ad b base) L)) {len : Nat} (hd : decode cc pc = .ok (i, len)) (hok : decide (len = pj_len i) = true) (h : (pj_k i S).map (fun r => (G, pc + pj_len i, L, r, 0, 0)) = some (G', pc', L', S', dc, ds))
    (kk : ∀ ls' : Array Slot, lv_has ls' nL (pj_l (pj_ad b base) L') → pj_N p l e R s m args below meth c Q b base cy D ls' (cells + dc) (slots + ds) G' pc' S') : pj_N p l e R s m args below meth c Q b base cy D ls cells slots G pc S := by
  obtain ⟨r, h1, h2⟩ := pj_map h
  cases h2
  have hl := of_decide_eq_true hok
  subst hl
  intro H locs hP hS
  exact pj_k_snd (pj_ad b base) hx hb hd h1 (kk ls hlv H locs hP hS)
theorem pj_s_l {i : Instr} (hx : p.tables.exec = Jvm.exec) (hb : c.code = cc) (hlv : lv_has ls nL (pj_l (pj_ad b base) L)) {len : Nat} (hd : decode cc pc = .ok (i, len)) (hok : decide (len = pj_len i) = true) (h : (pj_kl nL i L S).map (fun r => (G, pc + pj_len i, r.1, r.2, 0, 0)) = some (G', pc', L', S', dc, ds))
    (kk : ∀ ls' : Array Slot, lv_has ls' nL (pj_l (pj_ad b base) L') → pj_N p l e R s m args below meth c Q b base cy D ls' (cells + dc) (slots + ds) G' pc' S') : pj_N p l e R s m args below meth c Q b base cy D ls cells slots G pc S := by
  obtain ⟨r, h1, h2⟩ := pj_map h
  cases h2
  have hl := of_decide_eq_true hok
  subst hl
  intro H locs hP hS
  exact pj_kl_snd (pj_ad b base) hx hb hlv hd h1 (fun ls' hl' => kk ls' hl' H locs hP hS)
theorem pj_s_b {i : Instr} {tgt len : Nat} (hx : p.tables.exec = Jvm.exec) (hb : c.code = cc) (hlv : lv_has ls nL (pj_l (pj_ad b base) L)) (hd : decode cc pc = .ok (i, len)) (hlen : (match i with | .tableswitch .. => True | .lookupswitch .. => True | _ => len = pj_len i)) (hok : pj_okb i tgt pc = true) (h : (pj_kb i tgt pc S).map (fun r => (G, r.1, L, r.2, 0, 0)) = some (G', pc', L', S', dc, ds))
    (kk : ∀ ls' : Array Slot, lv_has ls' nL (pj_l (pj_ad b base) L') → pj_N p l e R s m args below meth c Q b base cy D ls' (cells + dc) (slots + ds) G' pc' S') : pj_N p l e R s m args below meth c Q b base cy D ls cells slots G pc S := by
  obtain ⟨⟨r1, r2⟩, h1, h2⟩ := pj_map h
  cases h2
  intro H locs hP hS
  exact pj_kb_snd (pj_ad b base) hx hb hd hlen hok h1 (kk ls hlv H locs hP hS)
theorem pj_okv_lt {P : List pj_M} {own : String} {idx : Nat} {inf : List Nat} (h : pj_okv P own idx inf = true) (hPl : P.length ≤ 1000) : inf.getD 2 0 < 1000 := by
  unfold pj_okv at h
  split at h
  · cases h
  · rename_i M9 hM9
    exact Nat.lt_of_lt_of_le (List.getElem?_eq_some_iff.mp hM9).1 hPl
theorem pj_iH {h : pj_Hl} {vs rest : List Value} {v : Option Value} {idx pl p1 p2 p3 : Nat} (hC : pj_Cx p s m args c cc nL ls own b base cy D n0 xs adV) (hex : G.2 = true → s.heap.size + cells = base + G.1.length)
    (hM : pj_MetH l b base cy D adV d h vs G v G' dc ds) (hl : pj_lnk pl own idx h.1 = true) (hst : pj_wd p1 (.static h.1) = true) (hin : pj_wd p2 (.initialized h.1.cls) = true) (hcw : pj_wd p3 (pj_hw h) = true) (hy : h.1.cls ≠ "java/lang/invoke/MethodHandle" ∧ h.1.cls ≠ "java/lang/invoke/VarHandle") (hn : (parseMethodDescriptor h.1.desc).map (fun d => d.parameters.length) = some vs.length) (hmx : h.2.2.1 ≤ 45)
    (hd : decode cc pc = .ok (.invokestatic idx, 3)) (hf : d + 1 ≤ R.frames) (hlo : 64 * (d + 1) ≤ R.locals) (hc : cells + dc ≤ R.cells) (hs : slots + ds ≤ R.slots) (hW : (rest.map Value.category).sum ≤ 8)
    (kk : pj_N p l e R s m args below meth c Q b base cy D ls (cells + dc) (slots + ds) G' (pc + 3) (v.toList ++ rest)) : pj_N p l e R s m args below meth c Q b base cy D ls cells slots G pc (vs.reverse ++ rest) := by
  obtain ⟨hS0, hK, hO, hbs, hls⟩ := hC
  have hts := hS0.2.2.2.2
  intro H locs hP hS
  refine pj_exact (fun hz => ?_)
  have hstk : (vs.reverse ++ rest).map (pj_v (pj_ad b base)) = (vs.map (pj_v (pj_ad b base))).reverse ++ rest.map (pj_v (pj_ad b base)) := by simp
  rw [hstk]
  have hpre := pj_pre (vs := vs) hK hO hbs hP hS hz hex
  have hwarm : ∀ w ∈ pj_hw h :: pj_all, ∀ (a' : Array Value) (U : State), s.WarmedH U.vm → w.before a' U = true := by
    intro w hw a' U hW9
    have h1 : w ∈ pj_all := by
      rcases List.mem_cons.mp hw with rfl | h9
      · exact pj_wd_in hcw
      · exact h9
    exact pj_stb_warm (List.mem_filter.mp h1).2 hW9 (hts w h1)
  exact pj_after (vx_runSW (hh := h.2.2.2.2) (bytes := h.2.1) (maxL := h.2.2.1) (ret := h.2.2.2.1) (As := vs.map (pj_v (pj_ad b base))) (rest := rest.map (pj_v (pj_ad b base))) hS0 hM ⟨⟨rfl, rfl, hf, by show 8 + (h.2.2.1 + 11) + 64 * d ≤ R.locals; omega, hwarm, List.mem_cons_self⟩, hts _ (pj_wd_in hcw), hts _ (pj_wd_in hin), hy, fun sig hsg => by rw [hsg] at hn; exact (Option.some.inj hn).symm, hts _ (pj_wd_in hl), hts _ (pj_wd_in hst)⟩ ⟨pj_P_blind, hpre⟩ rfl (by rw [List.length_map]) hls rfl (lv_room (by rw [pj_cats]; exact hW)) hd ⟨hc, hs⟩) hS kk
set_option maxHeartbeats 8000000 in
theorem pj_s_snd {call : pj_F} {P : List pj_M} {ini : Bool} {i : Instr} {len : Nat} {inf : List Nat} {z : Int}
    (hC0 : (p.tables.exec = Jvm.exec ∧ c.code = cc ∧ c.maxLocals = nL ∧ s.vm.findClass own = some m.cls ∧ ∀ w ∈ pj_all, w.before args s = true) ∧ va_K D vwCl (pj_tys cy) s ∧ pj_O b base n0 xs adV s s.heap ∧ base ≤ s.heap.size) (hini : ini = true → meth.name = "<init>") (hlv : lv_has ls nL (pj_l (pj_ad b base) L)) (hex : G.2 = true → s.heap.size + cells = base + G.1.length)
    (hPl : P.length ≤ 1000) (hcall : ∀ (mi : Nat) (vs : List Value) (G : pj_G) (v : Option Value) (G' : pj_G) (dc ds : Nat), mi < 1000 → call mi vs G = some (v, G', dc, ds) → ∃ M, P[mi]? = some M ∧ pj_Met l b base cy D adV d M vs G v G' dc ds)
    (hcallH : ∀ (j : Nat) (vs : List Value) (G : pj_G) (v : Option Value) (G' : pj_G) (dc ds : Nat), call (1000 + j) vs G = some (v, G', dc, ds) → ∃ h, pj_hl[j]? = some h ∧ pj_MetH l b base cy D adV d h vs G v G' dc ds)
    (hd : decode cc pc = .ok (i, len)) (hok : pj_ok P own ini pc i len inf z = true) (h : pj_s call n0 xs nL inf z i pc G L S = some (G', pc', L', S', dc, ds)) (hf : d + 1 ≤ R.frames) (hlo : 64 * (d + 1) ≤ R.locals) (hc : cells + dc ≤ R.cells) (hs : slots + ds ≤ R.slots)
    (kk : ∀ ls' : Array Slot, lv_has ls' nL (pj_l (pj_ad b base) L') → pj_N p l e R s m args below meth c Q b base cy D ls' (cells + dc) (slots + ds) G' pc' S') : pj_N p l e R s m args below meth c Q b base cy D ls cells slots G pc S := by
  obtain ⟨⟨hx, hb, hml, hown, hts⟩, hK, hO, hbs⟩ := hC0
  have hC : pj_Cx p s m args c cc nL ls own b base cy D n0 xs adV := ⟨⟨hx, hb, hml, hown, hts⟩, hK, hO, hbs, hlv.1⟩
  have hbl : b.1 < s.heap.size := Nat.lt_of_lt_of_le hO.1.2 hbs
  cases i
  case getfield idx =>
    simp only [pj_ok, Bool.and_eq_true, decide_eq_true_eq] at hok
    obtain ⟨rfl, hok⟩ := hok
    obtain ⟨r, h1, h2⟩ := pj_map h
    cases h2
    exact pj_gf_snd hx hb hts hown hK hok hd h1 (kk ls hlv)
  case putfield idx =>
    simp only [pj_ok, Bool.and_eq_true, decide_eq_true_eq] at hok
    obtain ⟨⟨rfl, hok⟩, hok2⟩ := hok
    obtain ⟨⟨r1, r2⟩, h1, h2⟩ := pj_map h
    cases h2
    exact pj_pf_snd hx hb hts hown hK hini hok hok2 hd h1 (kk ls hlv)
  case iaload =>
    have hl : len = 1 := of_decide_eq_true hok
    subst hl
    simp only [pj_s] at h
    split at h
    · rename_i r hr
      cases h
      exact pj_sc_snd hx hb hO.1.1 hbl hO.1.2 hd hr (kk ls hlv)
    · obtain ⟨r, h1, h2⟩ := pj_map h
      cases h2
      exact pj_rdi_snd hx hb hK hd h1 (kk ls hlv)
  case baload =>
    have hl : len = 1 := of_decide_eq_true hok
    subst hl
    obtain ⟨r, h1, h2⟩ := pj_map h
    cases h2
    exact pj_rdz_snd hx hb hK hd h1 (kk ls hlv)
  case laload =>
    have hl : len = 1 := of_decide_eq_true hok
    subst hl
    obtain ⟨r, h1, h2⟩ := pj_map h
    cases h2
    exact pj_rdl_snd hx hb hK hd h1 (kk ls hlv)
  case aaload =>
    have hl : len = 1 := of_decide_eq_true hok
    subst hl
    obtain ⟨r, h1, h2⟩ := pj_map h
    cases h2
    exact pj_rdq_snd hx hb hK hd h1 (kk ls hlv)
  case iastore =>
    have hl : len = 1 := of_decide_eq_true hok
    subst hl
    obtain ⟨⟨r1, r2⟩, h1, h2⟩ := pj_map h
    cases h2
    exact pj_asi_snd hx hb hK hd h1 (kk ls hlv)
  case bastore =>
    have hl : len = 1 := of_decide_eq_true hok
    subst hl
    obtain ⟨⟨r1, r2⟩, h1, h2⟩ := pj_map h
    cases h2
    exact pj_asz_snd hx hb hK hd h1 (kk ls hlv)
  case lastore =>
    have hl : len = 1 := of_decide_eq_true hok
    subst hl
    obtain ⟨⟨r1, r2⟩, h1, h2⟩ := pj_map h
    cases h2
    exact pj_asl_snd hx hb hK hd h1 (kk ls hlv)
  case aastore =>
    have hl : len = 1 := of_decide_eq_true hok
    subst hl
    obtain ⟨⟨r1, r2⟩, h1, h2⟩ := pj_map h
    cases h2
    exact pj_asq_snd hx hb hK hd h1 (kk ls hlv)
  case arraylength =>
    have hl : len = 1 := of_decide_eq_true hok
    subst hl
    obtain ⟨r, h1, h2⟩ := pj_map h
    cases h2
    exact pj_aln_snd hx hb hK hO.1.1 hbl hO.1.2 hd h1 (kk ls hlv)
  case new idx =>
    simp only [pj_ok, Bool.and_eq_true, decide_eq_true_eq] at hok
    obtain ⟨rfl, hok⟩ := hok
    obtain ⟨⟨r1, r2, r3⟩, h1, h2⟩ := pj_map h
    cases h2
    exact pj_nw_snd hx hb hts hown hK hbs hex hok hd h1 hc hs (kk ls hlv)
  case newarray a =>
    simp only [pj_ok, Bool.and_eq_true, decide_eq_true_eq] at hok
    obtain ⟨rfl, hok⟩ := hok
    obtain ⟨⟨r1, r2, r3⟩, h1, h2⟩ := pj_map h
    cases h2
    exact pj_na_snd hx hb hts hK hbs hex hok hd h1 hc hs (kk ls hlv)
  case anewarray idx =>
    simp only [pj_ok, Bool.and_eq_true, decide_eq_true_eq] at hok
    obtain ⟨⟨rfl, hok⟩, hok2⟩ := hok
    obtain ⟨⟨r1, r2, r3⟩, h1, h2⟩ := pj_map h
    cases h2
    exact pj_nq_snd hx hb hts hown hK hbs hex hok hok2 hd h1 hc hs (kk ls hlv)
  case ldc idx =>
    simp only [pj_ok, Bool.and_eq_true, decide_eq_true_eq] at hok
    obtain ⟨rfl, hok⟩ := hok
    cases h
    intro H locs hP hS
    have k1 := kk ls hlv H locs hP hS
    by_cases h0 : inf.getD 0 0 = 0
    · rw [if_pos h0] at hok k1
      exact lv_ldc hx hb hown (hts _ (pj_wd_in hok)) hd k1
    · rw [if_neg h0] at hok k1
      obtain ⟨q, hq, he⟩ := Option.map_eq_some_iff.mp (of_decide_eq_true hok)
      have hr := (hO.2.1 _ q hq).1
      rw [show q.1 = own from congrArg Prod.fst he, show q.2.1 = idx from congrArg Prod.snd he] at hr
      exact va_ldcS hx hb hown hr hd k1
  case ldc_w idx =>
    simp only [pj_ok, Bool.and_eq_true, decide_eq_true_eq] at hok
    obtain ⟨rfl, hok⟩ := hok
    cases h
    intro H locs hP hS
    have k1 := kk ls hlv H locs hP hS
    by_cases h0 : inf.getD 0 0 = 0
    · rw [if_pos h0] at hok k1
      exact lv_ldcw hx hb hown (hts _ (pj_wd_in hok)) hd k1
    · rw [if_neg h0] at hok k1
      obtain ⟨q, hq, he⟩ := Option.map_eq_some_iff.mp (of_decide_eq_true hok)
      have hr := (hO.2.1 _ q hq).1
      rw [show q.1 = own from congrArg Prod.fst he, show q.2.1 = idx from congrArg Prod.snd he] at hr
      intro T hT X
      obtain ⟨t, a1, b1⟩ := k1 T hT X
      exact ⟨t, X.ldcStringW hx hown (text := q.2.2) (a := b.2 (inf.getD 1 0)) hr.1 hr.2 (g := F0 m pc ls (S.map (pj_v (pj_ad b base)))) rfl (by rw [hb]; exact hd) t a1, b1⟩
  case ldc2_w idx =>
    simp only [pj_ok, Bool.and_eq_true, decide_eq_true_eq] at hok
    obtain ⟨rfl, hok⟩ := hok
    cases h
    intro H locs hP hS
    exact lv_ldc2 hx hb hown (hts _ (pj_wd_in hok)) hd (kk ls hlv H locs hP hS)
  case invokevirtual idx =>
    simp only [pj_ok, Bool.and_eq_true, decide_eq_true_eq] at hok
    obtain ⟨rfl, hok⟩ := hok
    obtain ⟨⟨r1, r2, r3, r4⟩, h1, h2⟩ := pj_map h
    cases h2
    obtain ⟨vs, rest, v, rfl, hn, hW, hrc, hcl, rfl⟩ := pj_inv_s h1
    have hlt := pj_okv_lt hok hPl
    obtain ⟨M, hM, hMet⟩ := hcall _ _ _ _ _ _ _ hlt hcl
    unfold pj_okv at hok
    rw [hM] at hok
    simp only [Bool.and_eq_true, Bool.or_eq_true, decide_eq_true_eq] at hok
    obtain ⟨⟨⟨⟨o1, o2⟩, o3⟩, o4⟩, o5⟩ := hok
    rcases o5 with ⟨z0, o6, o7⟩ | ⟨z0, o6, o7⟩
    · rw [z0] at hrc
      simp only [pj_rcv] at hrc
      split at hrc
      · rename_i a us
        split at hrc
        · rename_i ci fs hg
          have hci : ci = inf.getD 3 0 := by simpa using hrc
          obtain ⟨q, hq, hqe⟩ := Option.map_eq_some_iff.mp o7
          have hus : us.length = inf.getD 1 0 - 1 := by rw [← hn, List.length_cons]; rfl
          exact pj_iV hC hex hMet hg (by rw [hci]; exact hq) hqe (by rw [hus]; exact o2) o3 o4 o6 hd hf hlo hc hs hW (kk ls hlv)
        · cases hrc
      · cases hrc
    · rw [z0] at hrc
      simp only [pj_rcv] at hrc
      split at hrc
      · rename_i k us
        have hk : k < 16 := of_decide_eq_true hrc
        have hus : us.length = inf.getD 1 0 - 1 := by rw [← hn, List.length_cons]; rfl
        have hg : ∃ q, pj_strs[k]? = some q := ⟨_, List.getElem?_eq_getElem (show k < pj_strs.length from hk)⟩
        obtain ⟨q, hg⟩ := hg
        exact pj_iT hC hex hMet hg o7 (by rw [hus]; exact o2) o3 o4 o6 hd hf hlo hc hs hW (kk ls hlv)
      · cases hrc
  case invokespecial idx =>
    simp only [pj_ok, Bool.and_eq_true, decide_eq_true_eq] at hok
    obtain ⟨rfl, hok⟩ := hok
    simp only [pj_s] at h
    unfold pj_okc at hok
    by_cases h6 : inf.getD 0 0 = 6
    · rw [if_pos h6] at h hok
      simp only [Bool.and_eq_true] at hok
      obtain ⟨⟨o1, o2⟩, o3⟩ := hok
      obtain ⟨r, h1, h2⟩ := pj_map h
      cases h2
      unfold pj_oi at h1
      split at h1
      · split at h1
        · cases h1
          exact pj_iO hC o1 o2 o3 hd (by omega) (by omega) (by assumption) (kk ls hlv)
        · cases h1
      · cases h1
    · rw [if_neg h6] at h hok
      obtain ⟨⟨r1, r2, r3, r4⟩, h1, h2⟩ := pj_map h
      cases h2
      obtain ⟨vs, rest, v, rfl, hn, hW, hrc, hcl, rfl⟩ := pj_inv_s h1
      have hlt : inf.getD 2 0 < 1000 := by
        split at hok
        · cases hok
        · rename_i M9 hM9
          exact Nat.lt_of_lt_of_le (List.getElem?_eq_some_iff.mp hM9).1 hPl
      obtain ⟨M, hM, hMet⟩ := hcall _ _ _ _ _ _ _ hlt hcl
      rw [hM] at hok
      simp only [Bool.and_eq_true, Bool.or_eq_true, decide_eq_true_eq] at hok
      obtain ⟨⟨⟨⟨⟨⟨z0, o1⟩, o2⟩, o3⟩, o4⟩, o5⟩, o6⟩ := hok
      rw [z0] at hrc
      simp only [pj_rcv] at hrc
      split at hrc
      · rename_i a us
        have hus : us.length = inf.getD 1 0 - 1 := by rw [← hn, List.length_cons]; rfl
        exact pj_iI hC hex hMet o5 (by rw [hus]; exact o2) o3 o4 o6 hd hf hlo hc hs hW (kk ls hlv)
      · cases hrc
  case invokestatic idx =>
    simp only [pj_ok, Bool.and_eq_true, decide_eq_true_eq] at hok
    obtain ⟨rfl, hok⟩ := hok
    simp only [pj_s] at h
    unfold pj_oks at hok
    by_cases h7 : inf.getD 0 0 = 7
    · rw [if_pos h7] at h hok
      simp only [Bool.and_eq_true] at hok
      obtain ⟨⟨⟨o1, o2⟩, o3⟩, o4⟩ := hok
      obtain ⟨⟨r1, r2⟩, h1, h2⟩ := pj_map h
      cases h2
      exact pj_iA hC o1 o2 o3 o4 hd (by omega) (by omega) h1 (kk ls hlv)
    · rw [if_neg h7] at h hok
      by_cases h10 : 10 ≤ inf.getD 0 0
      · rw [if_pos h10] at h
        obtain ⟨r, h1, h2⟩ := pj_map h
        cases h2
        intro H locs hP hS
        have k1 := kk ls hlv H locs hP hS
        have hcc : cells ≤ R.cells := hc
        have hss : slots ≤ R.slots := hs
        by_cases q10 : inf.getD 0 0 = 10
        · rw [if_pos q10] at hok
          rw [q10] at h1
          simp only [Bool.and_eq_true] at hok
          obtain ⟨⟨⟨o1, o2⟩, o3⟩, o4⟩ := hok
          simp only [pj_mth] at h1
          split at h1
          · split at h1
            · rename_i hsum
              cases h1
              exact va_mmax hx hb (hml.trans hlv.1.symm) hown (hts _ (pj_wd_in o1)) (hts _ (pj_wd_in o2)) (hts _ (pj_wd_in o3)) (hts _ (pj_wd_in o4)) (by omega) (by rw [pj_cats]; omega) hcc hss hd k1
            · cases h1
          · cases h1
        · rw [if_neg q10] at hok
          by_cases q11 : inf.getD 0 0 = 11
          · rw [if_pos q11] at hok
            rw [q11] at h1
            simp only [Bool.and_eq_true] at hok
            obtain ⟨⟨⟨o1, o2⟩, o3⟩, o4⟩ := hok
            simp only [pj_mth] at h1
            split at h1
            · split at h1
              · rename_i hsum
                cases h1
                exact va_mmin hx hb (hml.trans hlv.1.symm) hown (hts _ (pj_wd_in o1)) (hts _ (pj_wd_in o2)) (hts _ (pj_wd_in o3)) (hts _ (pj_wd_in o4)) (by omega) (by rw [pj_cats]; omega) hcc hss hd k1
              · cases h1
            · cases h1
          · rw [if_neg q11] at hok
            by_cases q12 : inf.getD 0 0 = 12
            · rw [if_pos q12] at hok
              rw [q12] at h1
              simp only [Bool.and_eq_true] at hok
              obtain ⟨⟨⟨o1, o2⟩, o3⟩, o4⟩ := hok
              simp only [pj_mth] at h1
              split at h1
              · split at h1
                · rename_i hsum
                  cases h1
                  exact va_mabs hx hb (hml.trans hlv.1.symm) hown (hts _ (pj_wd_in o1)) (hts _ (pj_wd_in o2)) (hts _ (pj_wd_in o3)) (hts _ (pj_wd_in o4)) (by omega) (by rw [pj_cats]; omega) hcc hss hd k1
                · cases h1
              · cases h1
            · exact absurd h1 (by
                unfold pj_mth
                split
                · exact absurd (by assumption) q10
                · exact absurd (by assumption) q11
                · exact absurd (by assumption) q12
                · simp)
      · rw [if_neg h10] at h
        rw [if_neg (by omega), if_neg (by omega), if_neg (by omega)] at hok
        obtain ⟨⟨r1, r2, r3, r4⟩, h1, h2⟩ := pj_map h
        cases h2
        obtain ⟨vs, rest, v, rfl, hn, hW, hrc, hcl, rfl⟩ := pj_inv_s h1
        by_cases q9 : inf.getD 0 0 = 9
        · rw [if_pos q9] at hok
          split at hok
          · cases hok
          · rename_i hh hj
            simp only [Bool.and_eq_true, decide_eq_true_eq] at hok
            obtain ⟨⟨⟨⟨⟨⟨⟨o0, o1⟩, o2⟩, o3⟩, o4⟩, o5⟩, o6⟩, o7⟩ := hok
            have e1 : inf.getD 2 0 = 1000 + (inf.getD 2 0 - 1000) := by omega
            rw [e1] at hcl
            obtain ⟨h9, hj9, hMet⟩ := hcallH _ _ _ _ _ _ _ hcl
            cases hj.symm.trans hj9
            exact pj_iH hC hex hMet o1 o2 o3 o4 o5 (by rw [hn]; exact o6) o7 hd hf hlo hc hs hW (kk ls hlv)
        · rw [if_neg q9] at hok
          have hlt : inf.getD 2 0 < 1000 := by
            split at hok
            · cases hok
            · rename_i M9 hM9
              exact Nat.lt_of_lt_of_le (List.getElem?_eq_some_iff.mp hM9).1 hPl
          obtain ⟨M, hM, hMet⟩ := hcall _ _ _ _ _ _ _ hlt hcl
          rw [hM] at hok
          simp only [Bool.and_eq_true, Bool.or_eq_true, decide_eq_true_eq] at hok
          obtain ⟨⟨⟨-, o2⟩, o3⟩, o6⟩ := hok
          exact pj_iS hC hex hMet (by rw [hn]; exact o2) o3 o6 hd hf hlo hc hs hW (kk ls hlv)
  case goto q =>
    simp only [pj_ok, Bool.and_eq_true, decide_eq_true_eq] at hok
    exact pj_s_b hx hb hlv hd hok.1 hok.2 h kk
  case ifCond q1 q2 =>
    simp only [pj_ok, Bool.and_eq_true, decide_eq_true_eq] at hok
    exact pj_s_b hx hb hlv hd hok.1 hok.2 h kk
  case if_icmp q1 q2 =>
    simp only [pj_ok, Bool.and_eq_true, decide_eq_true_eq] at hok
    exact pj_s_b hx hb hlv hd hok.1 hok.2 h kk
  case tableswitch q1 q2 q3 q4 =>
    exact pj_s_b hx hb hlv hd trivial rfl h kk
  case lookupswitch q1 q2 =>
    exact pj_s_b hx hb hlv hd trivial hok h kk
  case iload_n k =>
    exact pj_s_l hx hb hlv hd hok h kk
  case iload k =>
    exact pj_s_l hx hb hlv hd hok h kk
  case lload_n k =>
    exact pj_s_l hx hb hlv hd hok h kk
  case lload k =>
    exact pj_s_l hx hb hlv hd hok h kk
  case aload_n k =>
    exact pj_s_l hx hb hlv hd hok h kk
  case aload k =>
    exact pj_s_l hx hb hlv hd hok h kk
  case istore_n k =>
    exact pj_s_l hx hb hlv hd hok h kk
  case istore k =>
    exact pj_s_l hx hb hlv hd hok h kk
  case lstore_n k =>
    exact pj_s_l hx hb hlv hd hok h kk
  case lstore k =>
    exact pj_s_l hx hb hlv hd hok h kk
  case astore_n k =>
    exact pj_s_l hx hb hlv hd hok h kk
  case astore k =>
    exact pj_s_l hx hb hlv hd hok h kk
  case iinc k q =>
    exact pj_s_l hx hb hlv hd hok h kk
  all_goals exact pj_s_k hx hb hlv hd hok h kk
end PJS
end
section
/-! RUNS -/
def pj_rt (ret : Option FieldType) (i : Instr) (S : List Value) : Option (Option Value) := match i with
  | .ireturn => (match S with
    | [.int v] => (match ret with
      | some .int => some (some (.int v))
      | some ty => if narrow ty (.int v) = .int v then some (some (.int v)) else none
      | none => none)
    | _ => none)
  | .lreturn => (match S, ret with
    | [.long v], some .long => some (some (.long v))
    | _, _ => none)
  | .areturn => (match S, ret with
    | [.ref a], some (.object _) => some (some (.ref a))
    | [.retAddr a], some (.object _) => some (some (.retAddr a))
    | _, _ => none)
  | .return_ => (match S, ret with
    | [], none => some none
    | _, _ => none)
  | _ => none
def pj_find (code : List pj_I) (pc : Nat) : Option (Instr × Nat × List Nat × Int) := (code.find? (fun q => Nat.beq q.1 pc)).map (fun q => q.2)
theorem pj_find_s {code : List pj_I} {pc : Nat} {q : Instr × Nat × List Nat × Int} (h : pj_find code pc = some q) : (pc, q) ∈ code := by
  obtain ⟨a, h1, h2⟩ := pj_map h
  have h3 := List.mem_of_find?_eq_some h1
  have h4 := List.find?_some h1
  have h5 : a.1 = pc := Nat.eq_of_beq_eq_true h4
  subst h2
  rw [← h5]
  exact h3
abbrev pj_V : Type := Option (Option Value × pj_G × Nat × Nat)
def pj_one (call : pj_F) (n0 : Nat) (xs : Nat → Int32) (M : pj_M) (ih : pj_T → pj_V) (t : pj_T) : pj_V := match pj_find M.2.2.2.2.2 t.2.1 with
  | none => none
  | some q => (match pj_rt M.2.2.2.1 q.1 t.2.2.2.1 with
    | some v => some (v, t.1, t.2.2.2.2.1, t.2.2.2.2.2)
    | none => (match pj_s call n0 xs M.2.2.1 q.2.2.1 q.2.2.2 q.1 t.2.1 t.1 t.2.2.1 t.2.2.2.1 with
      | none => none
      | some r => ih (r.1, r.2.1, r.2.2.1, r.2.2.2.1, t.2.2.2.2.1 + r.2.2.2.2.1, t.2.2.2.2.2 + r.2.2.2.2.2)))
noncomputable def pj_run (call : pj_F) (n0 : Nat) (xs : Nat → Int32) (M : pj_M) (n : Nat) : pj_T → pj_V := Nat.rec (motive := fun _ => pj_T → pj_V) (fun _ => none) (fun _ ih t => pj_one call n0 xs M ih t) n
theorem pj_run_0 (call : pj_F) (n0 : Nat) (xs : Nat → Int32) (M : pj_M) (t : pj_T) : pj_run call n0 xs M 0 t = none := rfl
theorem pj_run_s (call : pj_F) (n0 : Nat) (xs : Nat → Int32) (M : pj_M) (n : Nat) (t : pj_T) : pj_run call n0 xs M (n + 1) t = pj_one call n0 xs M (pj_run call n0 xs M n) t := rfl
/-- a step of a run, told apart -/
theorem pj_one_s {call : pj_F} {n0 : Nat} {xs : Nat → Int32} {M : pj_M} {ih : pj_T → pj_V} {t : pj_T} {v : Option Value} {G' : pj_G} {mc ms : Nat} (h : pj_one call n0 xs M ih t = some (v, G', mc, ms)) :
    ∃ q, (t.2.1, q) ∈ M.2.2.2.2.2 ∧ ((pj_rt M.2.2.2.1 q.1 t.2.2.2.1 = some v ∧ G' = t.1 ∧ mc = t.2.2.2.2.1 ∧ ms = t.2.2.2.2.2) ∨
      ∃ (G2 : pj_G) (pc2 : Nat) (L2 : pj_L) (S2 : List Value) (dc ds : Nat), pj_s call n0 xs M.2.2.1 q.2.2.1 q.2.2.2 q.1 t.2.1 t.1 t.2.2.1 t.2.2.2.1 = some (G2, pc2, L2, S2, dc, ds) ∧ ih (G2, pc2, L2, S2, t.2.2.2.2.1 + dc, t.2.2.2.2.2 + ds) = some (v, G', mc, ms)) := by
  unfold pj_one at h
  split at h
  · cases h
  · rename_i q hq
    refine ⟨q, pj_find_s hq, ?_⟩
    split at h
    · rename_i v2 hv
      cases h
      exact Or.inl ⟨hv, rfl, rfl, rfl⟩
    · split at h
      · cases h
      · rename_i r hr
        exact Or.inr ⟨_, _, _, _, _, _, hr, h⟩
theorem pj_run_mono {call : pj_F} {n0 : Nat} {xs : Nat → Int32} {M : pj_M} : ∀ (n : Nat) (t : pj_T) {v : Option Value} {G' : pj_G} {mc ms : Nat}, pj_run call n0 xs M n t = some (v, G', mc, ms) → t.2.2.2.2.1 ≤ mc ∧ t.2.2.2.2.2 ≤ ms
  | 0, t, v, G', mc, ms, h => by cases (show (none : pj_V) = some (v, G', mc, ms) from h)
  | n + 1, t, v, G', mc, ms, h => by
    rw [pj_run_s] at h
    obtain ⟨q, -, h1 | ⟨G2, pc2, L2, S2, dc, ds, h1, h2⟩⟩ := pj_one_s h
    · obtain ⟨-, -, e1, e2⟩ := h1
      omega
    · have h3 := pj_run_mono n _ h2
      dsimp only at h3
      omega
/-- exactness is kept -/
def pj_gd (G G' : pj_G) (dc : Nat) : Prop := G'.2 = true → G.2 = true ∧ G'.1.length = G.1.length + dc
theorem pj_gd_0 (G : pj_G) : pj_gd G G 0 := fun h => ⟨h, rfl⟩
theorem pj_gd_p (G : pj_G) (a : Nat) (x : pj_C) : pj_gd G (pj_put G a x) 0 := fun h => ⟨h, by show (G.1.set (a - 1) x).length = _; rw [List.length_set]; rfl⟩
theorem pj_gd_a (G : pj_G) (x : pj_C) (h : G.2 = true) : pj_gd G (G.1 ++ [x], true) 1 := fun _ => ⟨h, by show (G.1 ++ [x]).length = _; rw [List.length_append]; rfl⟩
set_option maxHeartbeats 4000000 in
theorem pj_s_gd {call : pj_F} {n0 : Nat} {xs : Nat → Int32} {nL : Nat} {inf : List Nat} {z : Int} {i : Instr} {pc pc' : Nat} {G G' : pj_G} {L L' : pj_L} {S S' : List Value} {dc ds : Nat} (hcall : ∀ (mi : Nat) (vs : List Value) (G : pj_G) (v : Option Value) (G' : pj_G) (dc ds : Nat), call mi vs G = some (v, G', dc, ds) → pj_gd G G' dc)
    (h : pj_s call n0 xs nL inf z i pc G L S = some (G', pc', L', S', dc, ds)) : pj_gd G G' dc := by
  have hinv : ∀ {G' : pj_G} {S' : List Value} {dc ds : Nat}, pj_inv call inf G S = some (G', S', dc, ds) → pj_gd G G' dc := by
    intro G' S' dc ds h1
    obtain ⟨vs, rest, v, -, -, -, -, hcl, -⟩ := pj_inv_s h1
    exact hcall _ _ _ _ _ _ _ hcl
  cases i
  case putfield idx =>
    obtain ⟨⟨r1, r2⟩, h1, h2⟩ := pj_map h
    cases h2
    obtain ⟨v, a, fs, -, -, -, -, rfl⟩ := pj_pf_s h1
    exact pj_gd_p _ _ _
  case iaload =>
    simp only [pj_s] at h
    split at h
    · cases h
      exact pj_gd_0 _
    · obtain ⟨r, h1, h2⟩ := pj_map h
      cases h2
      exact pj_gd_0 _
  case iastore =>
    obtain ⟨⟨r1, r2⟩, h1, h2⟩ := pj_map h
    cases h2
    obtain ⟨x, j, a, n, f, -, -, -, rfl⟩ := pj_asi_s h1
    exact pj_gd_p _ _ _
  case bastore =>
    obtain ⟨⟨r1, r2⟩, h1, h2⟩ := pj_map h
    cases h2
    obtain ⟨x, j, a, n, f, -, -, -, rfl⟩ := pj_asz_s h1
    exact pj_gd_p _ _ _
  case lastore =>
    obtain ⟨⟨r1, r2⟩, h1, h2⟩ := pj_map h
    cases h2
    obtain ⟨x, j, a, n, f, -, -, -, rfl⟩ := pj_asl_s h1
    exact pj_gd_p _ _ _
  case aastore =>
    obtain ⟨⟨r1, r2⟩, h1, h2⟩ := pj_map h
    cases h2
    obtain ⟨v, j, a, n, f, fs, -, -, -, -, rfl⟩ := pj_asq_s h1
    exact pj_gd_p _ _ _
  case new idx =>
    obtain ⟨⟨r1, r2, r3⟩, h1, h2⟩ := pj_map h
    cases h2
    unfold pj_nw at h1
    split at h1
    · split at h1
      · cases h1
        exact pj_gd_a _ _ (by assumption)
      · cases h1
    · cases h1
  case newarray a =>
    obtain ⟨⟨r1, r2, r3⟩, h1, h2⟩ := pj_map h
    cases h2
    unfold pj_na at h1
    split at h1
    · split at h1
      · rename_i hg
        split at h1
        · cases h1
          exact pj_gd_a _ _ hg.1
        · cases h1
      · cases h1
    · cases h1
  case anewarray idx =>
    obtain ⟨⟨r1, r2, r3⟩, h1, h2⟩ := pj_map h
    cases h2
    unfold pj_nq at h1
    split at h1
    · split at h1
      · rename_i hg
        cases h1
        exact pj_gd_a _ _ hg.1
      · cases h1
    · cases h1
  case ldc idx =>
    cases h
    exact pj_gd_0 _
  case ldc_w idx =>
    cases h
    exact pj_gd_0 _
  case ldc2_w idx =>
    cases h
    exact pj_gd_0 _
  case invokevirtual idx =>
    obtain ⟨⟨r1, r2, r3, r4⟩, h1, h2⟩ := pj_map h
    cases h2
    exact hinv h1
  case invokespecial idx =>
    simp only [pj_s] at h
    split at h
    · obtain ⟨r, h1, h2⟩ := pj_map h
      cases h2
      exact pj_gd_0 _
    · obtain ⟨⟨r1, r2, r3, r4⟩, h1, h2⟩ := pj_map h
      cases h2
      exact hinv h1
  case invokestatic idx =>
    simp only [pj_s] at h
    split at h
    · obtain ⟨⟨r1, r2⟩, h1, h2⟩ := pj_map h
      cases h2
      unfold pj_cp at h1
      split at h1
      · split at h1
        · split at h1
          · cases h1
            exact pj_gd_p _ _ _
          · cases h1
        · cases h1
      · cases h1
    · split at h
      · obtain ⟨r, h1, h2⟩ := pj_map h
        cases h2
        exact pj_gd_0 _
      · obtain ⟨⟨r1, r2, r3, r4⟩, h1, h2⟩ := pj_map h
        cases h2
        exact hinv h1
  all_goals first
    | (cases (show (none : Option pj_T) = some (G', pc', L', S', dc, ds) from h))
    | (cases h
       exact pj_gd_0 _)
    | (obtain ⟨r, h1, h2⟩ := pj_map h
       cases h2
       exact pj_gd_0 _)
theorem pj_gd_t {A B C : pj_G} {x y : Nat} (h1 : pj_gd A B x) (h2 : pj_gd B C y) : pj_gd A C (x + y) := fun h => by
  obtain ⟨a1, a2⟩ := h2 h
  obtain ⟨b1, b2⟩ := h1 a1
  exact ⟨b1, by omega⟩
theorem pj_run_gd {call : pj_F} {n0 : Nat} {xs : Nat → Int32} {M : pj_M} (hcall : ∀ (mi : Nat) (vs : List Value) (G : pj_G) (v : Option Value) (G' : pj_G) (dc ds : Nat), call mi vs G = some (v, G', dc, ds) → pj_gd G G' dc) : ∀ (n : Nat) (t : pj_T) {v : Option Value} {G' : pj_G} {mc ms : Nat}, pj_run call n0 xs M n t = some (v, G', mc, ms) → pj_gd t.1 G' (mc - t.2.2.2.2.1)
  | 0, t, v, G', mc, ms, h => by cases (show (none : pj_V) = some (v, G', mc, ms) from h)
  | n + 1, t, v, G', mc, ms, h => by
    rw [pj_run_s] at h
    obtain ⟨q, -, h1 | ⟨G2, pc2, L2, S2, dc, ds, h1, h2⟩⟩ := pj_one_s h
    · obtain ⟨-, rfl, rfl, -⟩ := h1
      rw [Nat.sub_self]
      exact pj_gd_0 _
    · have h3 := pj_run_gd hcall n _ h2
      have h4 := pj_s_gd hcall h1
      have h5 := (pj_run_mono n _ h2).1
      dsimp only at h3 h5
      have h6 := pj_gd_t h4 h3
      rw [show dc + (mc - (t.2.2.2.2.1 + dc)) = mc - t.2.2.2.2.1 by omega] at h6
      exact h6
/-- the methods by their numbers, to a depth; those without a row of code are told by bi -/
noncomputable def pj_exec (P : List pj_M) (bi : pj_F) (f d : Nat) : pj_F := Nat.rec (motive := fun _ => pj_F) (fun _ _ _ => none) (fun k ih mi vs G => match P[mi]? with
  | none => none
  | some M => (match M.2.2.2.2.2 with
    | [] => if 12 ≤ k then bi mi vs G else none
    | _ :: _ => if (lg_sl vs).length ≤ M.2.2.1 then pj_run ih 0 pj_x0 M f (G, 0, lv_args 0 vs, [], 0, 0) else none)) d
theorem pj_exec_s {P : List pj_M} {bi : pj_F} {f d mi : Nat} {vs : List Value} {G : pj_G} {r : Option Value × pj_G × Nat × Nat} (h : pj_exec P bi f (d + 1) mi vs G = some r) : ∃ M, P[mi]? = some M ∧ ((M.2.2.2.2.2 = [] ∧ 12 ≤ d ∧ bi mi vs G = some r) ∨ ((lg_sl vs).length ≤ M.2.2.1 ∧ pj_run (pj_exec P bi f d) 0 pj_x0 M f (G, 0, lv_args 0 vs, [], 0, 0) = some r)) := by
  have h : (match P[mi]? with
    | none => none
    | some M => (match M.2.2.2.2.2 with
      | [] => if 12 ≤ d then bi mi vs G else none
      | _ :: _ => if (lg_sl vs).length ≤ M.2.2.1 then pj_run (pj_exec P bi f d) 0 pj_x0 M f (G, 0, lv_args 0 vs, [], 0, 0) else none)) = some r := h
  split at h
  · cases h
  · rename_i M hM
    refine ⟨M, hM, ?_⟩
    split at h
    · rename_i hc
      split at h
      · exact Or.inl ⟨hc, by assumption, h⟩
      · cases h
    · split at h
      · exact Or.inr ⟨by assumption, h⟩
      · cases h
theorem pj_exec_gd {P : List pj_M} {bi : pj_F} {f : Nat} (hbi : ∀ (mi : Nat) (vs : List Value) (G : pj_G) (v : Option Value) (G' : pj_G) (dc ds : Nat), bi mi vs G = some (v, G', dc, ds) → pj_gd G G' dc) : ∀ (d mi : Nat) (vs : List Value) (G : pj_G) (v : Option Value) (G' : pj_G) (dc ds : Nat), pj_exec P bi f d mi vs G = some (v, G', dc, ds) → pj_gd G G' dc
  | 0, mi, vs, G, v, G', dc, ds, h => by cases (show (none : pj_V) = some (v, G', dc, ds) from h)
  | d + 1, mi, vs, G, v, G', dc, ds, h => by
    obtain ⟨M, -, ⟨-, -, h1⟩ | ⟨-, h1⟩⟩ := pj_exec_s h
    · exact hbi _ _ _ _ _ _ _ h1
    · have h2 := pj_run_gd (pj_exec_gd hbi d) f _ h1
      exact h2
/-- a method's rows are the machine's -/
def pj_okR (P : List pj_M) (M : pj_M) : Bool := plainName M.1.cls && M.2.2.2.2.2.all (fun q => decide (decode M.2.1 q.1 = .ok (q.2.1, q.2.2.1)) && pj_ok P M.1.cls (decide (M.1.name = "<init>")) q.1 q.2.1 q.2.2.1 q.2.2.2.1 q.2.2.2.2)
theorem pj_okR_s {P : List pj_M} {M : pj_M} (h : pj_okR P M = true) {q : pj_I} (hq : q ∈ M.2.2.2.2.2) : decode M.2.1 q.1 = .ok (q.2.1, q.2.2.1) ∧ pj_ok P M.1.cls (decide (M.1.name = "<init>")) q.1 q.2.1 q.2.2.1 q.2.2.2.1 q.2.2.2.2 = true := by
  simp only [pj_okR, Bool.and_eq_true] at h
  have h1 := List.all_eq_true.mp h.2 q hq
  simp only [Bool.and_eq_true, decide_eq_true_eq] at h1
  exact h1
theorem pj_rt_len {P : List pj_M} {own : String} {ini : Bool} {pc : Nat} {i : Instr} {len : Nat} {inf : List Nat} {z : Int} {ret : Option FieldType} {S : List Value} {v : Option Value} (h : pj_rt ret i S = some v) (hok : pj_ok P own ini pc i len inf z = true) : len = 1 := by
  cases i
  case ireturn => exact of_decide_eq_true hok
  case lreturn => exact of_decide_eq_true hok
  case areturn => exact of_decide_eq_true hok
  case return_ => exact of_decide_eq_true hok
  all_goals cases (show (none : Option (Option Value)) = some v from h)
theorem pj_sl_len (ad : pj_A) : ∀ vs : List Value, (lg_sl (vs.map (pj_v ad))).length = (lg_sl vs).length
  | [] => rfl
  | v :: t => by
    have h := pj_sl_len ad t
    simp only [lg_sl, List.map_cons, List.flatMap_cons, List.length_append, pj_v_cat] at h ⊢
    rw [h]
    split <;> rfl
theorem pj_args (ad : pj_A) : ∀ (vs : List Value) (i : Nat), lv_args i (vs.map (pj_v ad)) = pj_l ad (lv_args i vs)
  | [], _ => rfl
  | v :: t, i => by
    simp only [List.map_cons, lv_args, pj_v_cat, pj_args ad t]
    rfl
section PJX
variable {p : Program} {l : Launch} {e : Env} {R : Room} {s : State} {m : MethodId} {args : Array Value} {below : List Frame} {meth : Method} {c : Code} {Q : State → Prop}
variable {b : Nat × (Nat → Nat)} {base : Nat} {cy : Nat → ClassId} {D : va_G} {n0 : Nat} {xs : Nat → Int32} {adV : Nat → Nat} {d : Nat}
/-- a run of the pure machine is a run of the machine -/
theorem pj_run_snd {call : pj_F} {P : List pj_M} {M : pj_M} {nL : Nat} {v : Option Value} {G' : pj_G} {mc ms : Nat} (hnL : M.2.2.1 = nL) (hokR : pj_okR P M = true)
    (hC0 : (p.tables.exec = Jvm.exec ∧ c.code = M.2.1 ∧ c.maxLocals = nL ∧ s.vm.findClass M.1.cls = some m.cls ∧ ∀ w ∈ pj_all, w.before args s = true) ∧ va_K D vwCl (pj_tys cy) s ∧ pj_O b base n0 xs adV s s.heap ∧ base ≤ s.heap.size) (hini : M.1.name = "<init>" → meth.name = "<init>")
    (hPl : P.length ≤ 1000) (hcall : ∀ (mi : Nat) (vs : List Value) (G : pj_G) (v : Option Value) (G' : pj_G) (dc ds : Nat), mi < 1000 → call mi vs G = some (v, G', dc, ds) → ∃ M, P[mi]? = some M ∧ pj_Met l b base cy D adV d M vs G v G' dc ds)
    (hcallH : ∀ (j : Nat) (vs : List Value) (G : pj_G) (v : Option Value) (G' : pj_G) (dc ds : Nat), call (1000 + j) vs G = some (v, G', dc, ds) → ∃ h, pj_hl[j]? = some h ∧ pj_MetH l b base cy D adV d h vs G v G' dc ds)
    (hgd : ∀ (mi : Nat) (vs : List Value) (G : pj_G) (v : Option Value) (G' : pj_G) (dc ds : Nat), call mi vs G = some (v, G', dc, ds) → pj_gd G G' dc)
    (hf : d + 1 ≤ R.frames) (hlo : 64 * (d + 1) ≤ R.locals) (hmc : mc ≤ R.cells) (hms : ms ≤ R.slots)
    (hend : ∀ (pc : Nat) (i : Instr) (L : pj_L) (S : List Value) (ls : Array Slot), decode M.2.1 pc = .ok (i, 1) → pj_rt M.2.2.2.1 i S = some v → lv_has ls nL (pj_l (pj_ad b base) L) → pj_N p l e R s m args below meth c Q b base cy D ls mc ms G' pc S) :
    ∀ (n : Nat) (t : pj_T), pj_run call n0 xs M n t = some (v, G', mc, ms) → (t.1.2 = true → s.heap.size + t.2.2.2.2.1 = base + t.1.1.length) → ∀ ls : Array Slot, lv_has ls nL (pj_l (pj_ad b base) t.2.2.1) → pj_N p l e R s m args below meth c Q b base cy D ls t.2.2.2.2.1 t.2.2.2.2.2 t.1 t.2.1 t.2.2.2.1
  | 0, t, h, _, _, _ => by cases (show (none : pj_V) = some (v, G', mc, ms) from h)
  | n + 1, t, h, hex, ls, hlv => by
    rw [pj_run_s] at h
    obtain ⟨q, hq, h1 | ⟨G2, pc2, L2, S2, dc, ds, h1, h2⟩⟩ := pj_one_s h
    · obtain ⟨g1, rfl, rfl, rfl⟩ := h1
      obtain ⟨g2, g3⟩ := pj_okR_s hokR hq
      have hl := pj_rt_len g1 g3
      exact hend _ q.1 _ _ ls (by rw [← hl]; exact g2) g1 hlv
    · obtain ⟨g2, g3⟩ := pj_okR_s hokR hq
      have hm := pj_run_mono n _ h2
      dsimp only at hm
      subst hnL
      refine pj_s_snd hC0 (fun z => hini (of_decide_eq_true z)) hlv hex hPl hcall hcallH g2 g3 h1 hf hlo (by omega) (by omega) (fun ls' hl' => ?_)
      have hgd2 := pj_s_gd hgd h1
      exact pj_run_snd rfl hokR hC0 hini hPl hcall hcallH hgd hf hlo hmc hms hend n _ h2 (fun z => by
        obtain ⟨a1, a2⟩ := hgd2 z
        have a3 := hex a1
        show s.heap.size + (t.2.2.2.2.1 + dc) = base + G2.1.length
        omega) ls' hl'
/-- THE CONTRACT of every method, out of its pure run -/
theorem pj_exec_snd {P : List pj_M} {bi : pj_F} {f : Nat} (hPl : P.length ≤ 1000) (hP : ∀ M ∈ P, pj_okR P M = true) (hbg : ∀ (mi : Nat) (vs : List Value) (G : pj_G) (v : Option Value) (G' : pj_G) (dc ds : Nat), bi mi vs G = some (v, G', dc, ds) → pj_gd G G' dc)
    (hbi : ∀ (d mi : Nat) (vs : List Value) (G : pj_G) (v : Option Value) (G' : pj_G) (dc ds : Nat) (M : pj_M), 12 ≤ d → P[mi]? = some M → bi mi vs G = some (v, G', dc, ds) → pj_Met l b base cy D adV (d + 1) M vs G v G' dc ds) :
    ∀ (d mi : Nat) (vs : List Value) (G : pj_G) (v : Option Value) (G' : pj_G) (dc ds : Nat), pj_exec P bi f d mi vs G = some (v, G', dc, ds) → ∃ M, P[mi]? = some M ∧ pj_Met l b base cy D adV d M vs G v G' dc ds
  | 0, mi, vs, G, v, G', dc, ds, h => by cases (show (none : pj_V) = some (v, G', dc, ds) from h)
  | d + 1, mi, vs, G, v, G', dc, ds, h => by
    obtain ⟨M, hM, ⟨-, h12, h1⟩ | ⟨hlen, h1⟩⟩ := pj_exec_s h
    · exact ⟨M, hM, hbi d mi vs G v G' dc ds M h12 hM h1⟩
    · refine ⟨M, hM, ?_⟩
      have hokR := hP M (List.mem_of_getElem? hM)
      have hpl : plainName M.1.cls = true := by
        have hh := hokR
        simp only [pj_okR, Bool.and_eq_true] at hh
        exact hh.1
      refine Met.ofW (cc := M.2.1) (maxL := M.2.2.1) (ret := M.2.2.2.1) hpl rfl ?_
      intro p e s m args below meth c s₁ B hml hv
      obtain ⟨rfl, hP0, hK, ⟨hbs, hexG⟩, hO⟩ := hv
      have hx := B.exec
      have hb := B.bytes
      have hr := B.returns
      have hts0 := atoms_spec (ws := pj_ws M.1 M.2.1 M.2.2.1 M.2.2.2.1) B.pre
      have hts : ∀ w ∈ pj_all, w.before (vs.map (pj_v (pj_ad b base))).toArray s = true := fun w hw => hts0 w (List.mem_cons_of_mem _ hw)
      have hown : s.vm.findClass M.1.cls = some m.cls := findClass_of_methodNamed B.named
      have hlocks := B.notSynchronized
      have hnm : meth.name = M.1.name := (name_of_methodNamed B.named B.method).1
      have hl := lv_entry (vs.map (pj_v (pj_ad b base))) (n := M.2.2.1) (by rw [pj_sl_len]; exact hlen)
      rw [lg_entry_eq]
      generalize (lg_sl (vs.map (pj_v (pj_ad b base))) ++ List.replicate (M.2.2.1 - (lg_sl (vs.map (pj_v (pj_ad b base)))).length) Slot.unset).toArray = ls at hl ⊢
      rw [pj_args] at hl
      have key := pj_run_snd (p := p) (l := l) (e := e) (R := (headSpec (pj_ws M.1 M.2.1 M.2.2.1 M.2.2.2.1) (pj_rm (d + 1) dc ds)).room) (s := s) (m := m) (args := (vs.map (pj_v (pj_ad b base))).toArray) (below := below) (meth := meth) (c := c) (Q := MQ below (pj_Q b base cy D v G') (vs.map (pj_v (pj_ad b base))).toArray s dc ds (fun q => base ≤ q)) (n0 := 0) (xs := pj_x0) (adV := adV) (d := d) (v := v) (G' := G') (mc := dc) (ms := ds) rfl hokR ⟨⟨hx, hb, hml, hown, hts⟩, hK, hO, hbs⟩ (fun z => hnm.trans z) hPl (fun mi vs G v G2 dc2 ds2 _ => pj_exec_snd hPl hP hbg hbi d mi vs G v G2 dc2 ds2) (fun j vs2 G2 v2 G3 dc2 ds2 h9 => by
        obtain ⟨M9, hM9, -⟩ := pj_exec_snd hPl hP hbg hbi d _ _ _ _ _ _ _ h9
        have := (List.getElem?_eq_some_iff.mp hM9).1
        omega) (pj_exec_gd hbg d) (Nat.le_refl _) (Nat.le_refl _) (Nat.le_refl _) (Nat.le_refl _) ?_ f _ h1 (fun z => by have := hexG z; show s.heap.size + 0 = base + G.1.length; omega) ls hl
      · exact key s.heap [] hP0 va_S.rf
      · intro pc i L S ls2 hdg hrt hl2 H locs hP1 hS1
        have hq : ∀ (w : Option Value), w = v → ∀ t : State, t.heap = H → s.WarmedH t.vm → pj_Q b base cy D v G' (vs.map (pj_v (pj_ad b base))).toArray s (.returned (w.map (pj_v (pj_ad b base)))) t := fun w hw t ht _ => ⟨by rw [hw], by rw [ht]; exact hP1, hS1.F ht⟩
        cases i
        case ireturn =>
          simp only [pj_rt] at hrt
          split at hrt
          · rename_i x
            split at hrt
            · rename_i hre
              cases hrt
              exact W.iret (v := x) hx hb (hr.trans hre) (hq _ rfl) hS1.2.2 hdg
            · rename_i ty _ hre
              split at hrt
              · rename_i hn
                cases hrt
                exact W.zret (v := x) hx hb (hr.trans hre) hn (hq _ rfl) hS1.2.2 hdg
              · cases hrt
            · cases hrt
          · cases hrt
        case lreturn =>
          simp only [pj_rt] at hrt
          split at hrt
          · rename_i x hre
            cases hrt
            exact W.lret (v := x) hx hb (hr.trans hre) (hq _ rfl) hS1.2.2 hdg
          · cases hrt
        case areturn =>
          simp only [pj_rt] at hrt
          split at hrt
          · rename_i x _ hre
            cases hrt
            exact W.aret hx hb (hr.trans hre) (Or.inl ⟨_, rfl⟩) (Or.inr ⟨_, rfl⟩) (hq _ rfl) hS1.2.2 hdg
          · rename_i x _ hre
            cases hrt
            exact W.aret hx hb (hr.trans hre) (Or.inl ⟨_, rfl⟩) (Or.inr ⟨_, rfl⟩) (hq _ rfl) hS1.2.2 hdg
          · cases hrt
        case return_ =>
          simp only [pj_rt] at hrt
          split at hrt
          · rename_i hre
            cases hrt
            exact W.vret hx hb (hr.trans hre) (hq _ rfl) hS1.2.2 hdg
          · cases hrt
        all_goals cases (show (none : Option (Option Value)) = some v from hrt)
end PJX
end
section
/-! THE PROGRAM, laid by wip/p1/gen_prog.py -/
def pj_m0 : pj_M := (yX0_init, cX0_init, 1, none, [409, 97, 408, 0], [(0, .aload_n 0, 1, [], 0), (1, .invokespecial 3, 3, [6, 1, 0, 0, 410, 118, 119], 0), (4, .aload_n 0, 1, [], 0), (5, .bipush 21, 2, [], 0), (7, .newarray .int, 2, [143], 0), (9, .putfield 11, 3, [0, 0, 411], 0), (12, .aload_n 0, 1, [], 0), (13, .bipush 21, 2, [], 0), (15, .newarray .int, 2, [143], 0), (17, .putfield 15, 3, [0, 1, 412], 0), (20, .aload_n 0, 1, [], 0), (21, .bipush 21, 2, [], 0), (23, .newarray .int, 2, [143], 0), (25, .putfield 18, 3, [0, 2, 413], 0), (28, .return_, 1, [], 0)])
def pj_m1 : pj_M := (yX0_read, cX0_read, 4, none, [883, 97, 881, 882], [(0, .aload_n 0, 1, [], 0), (1, .iconst 0, 1, [], 0), (2, .putfield 21, 3, [0, 3, 414], 0), (5, .aload_n 1, 1, [], 0), (6, .invokevirtual 25, 3, [0, 1, 80, 9, 884], 0), (9, .iconst (-1), 1, [], 0), (10, .if_icmp .eq 7, 3, [17], 0), (13, .iconst 1, 1, [], 0), (14, .goto 4, 3, [18], 0), (17, .iconst 0, 1, [], 0), (18, .istore_n 2, 1, [], 0), (19, .iconst 0, 1, [], 0), (20, .istore_n 3, 1, [], 0), (21, .iload_n 3, 1, [], 0), (22, .bipush 21, 2, [], 0), (24, .if_icmp .ge 33, 3, [57], 0), (27, .iload_n 2, 1, [], 0), (28, .ifCond .eq 29, 3, [57], 0), (31, .aload_n 0, 1, [], 0), (32, .aload_n 1, 1, [], 0), (33, .iload_n 3, 1, [], 0), (34, .invokevirtual 31, 3, [0, 3, 2, 0, 885], 0), (37, .aload_n 0, 1, [], 0), (38, .iload_n 3, 1, [], 0), (39, .iconst 1, 1, [], 0), (40, .iadd, 1, [], 0), (41, .putfield 21, 3, [0, 3, 414], 0), (44, .aload_n 1, 1, [], 0), (45, .bipush 59, 2, [], 0), (47, .invokevirtual 35, 3, [0, 2, 82, 9, 892], 0), (50, .istore_n 2, 1, [], 0), (51, .iinc 3 1, 3, [], 0), (54, .goto (-33), 3, [21], 0), (57, .return_, 1, [], 0)])
def pj_m2 : pj_M := (yX0_readAct, cX0_readAct, 3, none, [888, 97, 887, 8], [(0, .aload_n 0, 1, [], 0), (1, .getfield 11, 3, [0, 0, 411], 0), (4, .iload_n 2, 1, [], 0), (5, .aload_n 1, 1, [], 0), (6, .ldc 39, 2, [1, 4], 0), (8, .invokevirtual 41, 3, [0, 2, 84, 9, 890], 0), (11, .iastore, 1, [], 0), (12, .aload_n 0, 1, [], 0), (13, .getfield 11, 3, [0, 0, 411], 0), (16, .iload_n 2, 1, [], 0), (17, .iaload, 1, [], 0), (18, .lookupswitch 159 #[(99, 114), (104, 145), (108, 86), (116, 42)], 42, [], 0), (60, .aload_n 0, 1, [], 0), (61, .getfield 15, 3, [0, 1, 412], 0), (64, .iload_n 2, 1, [], 0), (65, .aload_n 1, 1, [], 0), (66, .bipush 48, 2, [], 0), (68, .bipush 57, 2, [], 0), (70, .invokevirtual 45, 3, [0, 3, 83, 9, 891], 0), (73, .iastore, 1, [], 0), (74, .aload_n 0, 1, [], 0), (75, .getfield 18, 3, [0, 2, 413], 0), (78, .iload_n 2, 1, [], 0), (79, .aload_n 1, 1, [], 0), (80, .bipush 45, 2, [], 0), (82, .invokevirtual 35, 3, [0, 2, 82, 9, 892], 0), (85, .ifCond .eq 7, 3, [92], 0), (88, .iconst (-1), 1, [], 0), (89, .goto 11, 3, [100], 0), (92, .aload_n 1, 1, [], 0), (93, .bipush 48, 2, [], 0), (95, .bipush 57, 2, [], 0), (97, .invokevirtual 45, 3, [0, 3, 83, 9, 891], 0), (100, .iastore, 1, [], 0), (101, .goto 80, 3, [181], 0), (104, .aload_n 0, 1, [], 0), (105, .getfield 15, 3, [0, 1, 412], 0), (108, .iload_n 2, 1, [], 0), (109, .aload_n 1, 1, [], 0), (110, .bipush 48, 2, [], 0), (112, .bipush 57, 2, [], 0), (114, .invokevirtual 45, 3, [0, 3, 83, 9, 891], 0), (117, .iastore, 1, [], 0), (118, .aload_n 0, 1, [], 0), (119, .getfield 18, 3, [0, 2, 413], 0), (122, .iload_n 2, 1, [], 0), (123, .aload_n 1, 1, [], 0), (124, .iconst 3, 1, [], 0), (125, .invokevirtual 49, 3, [0, 2, 86, 9, 893], 0), (128, .iastore, 1, [], 0), (129, .goto 52, 3, [181], 0), (132, .aload_n 0, 1, [], 0), (133, .getfield 15, 3, [0, 1, 412], 0), (136, .iload_n 2, 1, [], 0), (137, .aload_n 1, 1, [], 0), (138, .bipush 97, 2, [], 0), (140, .bipush 102, 2, [], 0), (142, .invokevirtual 45, 3, [0, 3, 83, 9, 891], 0), (145, .iastore, 1, [], 0), (146, .aload_n 0, 1, [], 0), (147, .getfield 18, 3, [0, 2, 413], 0), (150, .iload_n 2, 1, [], 0), (151, .aload_n 1, 1, [], 0), (152, .bipush 48, 2, [], 0), (154, .bipush 57, 2, [], 0), (156, .invokevirtual 45, 3, [0, 3, 83, 9, 891], 0), (159, .iastore, 1, [], 0), (160, .goto 21, 3, [181], 0), (163, .aload_n 0, 1, [], 0), (164, .getfield 15, 3, [0, 1, 412], 0), (167, .iload_n 2, 1, [], 0), (168, .aload_n 1, 1, [], 0), (169, .iconst 2, 1, [], 0), (170, .invokevirtual 49, 3, [0, 2, 86, 9, 893], 0), (173, .iastore, 1, [], 0), (174, .goto 7, 3, [181], 0), (177, .aload_n 1, 1, [], 0), (178, .invokevirtual 53, 3, [0, 1, 81, 9, 894], 0), (181, .return_, 1, [], 0)])
def pj_m3 : pj_M := (yX0_perform, cX0_perform, 4, some (.int), [898, 97, 896, 897], [(0, .iconst 0, 1, [], 0), (1, .istore_n 2, 1, [], 0), (2, .iconst 0, 1, [], 0), (3, .istore_n 3, 1, [], 0), (4, .iload_n 3, 1, [], 0), (5, .aload_n 0, 1, [], 0), (6, .getfield 21, 3, [0, 3, 414], 0), (9, .if_icmp .ge 31, 3, [40], 0), (12, .iload_n 2, 1, [], 0), (13, .iload_n 3, 1, [], 0), (14, .if_icmp .ne 26, 3, [40], 0), (17, .iload_n 2, 1, [], 0), (18, .aload_n 0, 1, [], 0), (19, .aload_n 1, 1, [], 0), (20, .iload_n 3, 1, [], 0), (21, .invokevirtual 56, 3, [0, 3, 4, 0, 899], 0), (24, .ifCond .eq 7, 3, [31], 0), (27, .iconst 1, 1, [], 0), (28, .goto 4, 3, [32], 0), (31, .iconst 0, 1, [], 0), (32, .iadd, 1, [], 0), (33, .istore_n 2, 1, [], 0), (34, .iinc 3 1, 3, [], 0), (37, .goto (-33), 3, [4], 0), (40, .iload_n 2, 1, [], 0), (41, .ireturn, 1, [], 0)])
def pj_m4 : pj_M := (yX0_doesAct, cX0_doesAct, 3, some (.boolean), [902, 97, 901, 9], [(0, .aload_n 0, 1, [], 0), (1, .getfield 11, 3, [0, 0, 411], 0), (4, .iload_n 2, 1, [], 0), (5, .iaload, 1, [], 0), (6, .lookupswitch 118 #[(99, 93), (108, 59), (116, 34)], 34, [], 0), (40, .aload_n 1, 1, [], 0), (41, .aload_n 0, 1, [], 0), (42, .getfield 15, 3, [0, 1, 412], 0), (45, .iload_n 2, 1, [], 0), (46, .iaload, 1, [], 0), (47, .aload_n 0, 1, [], 0), (48, .getfield 18, 3, [0, 2, 413], 0), (51, .iload_n 2, 1, [], 0), (52, .iaload, 1, [], 0), (53, .invokevirtual 60, 3, [0, 3, 102, 10, 903], 0), (56, .ifCond .lt 7, 3, [63], 0), (59, .iconst 1, 1, [], 0), (60, .goto 4, 3, [64], 0), (63, .iconst 0, 1, [], 0), (64, .ireturn, 1, [], 0), (65, .aload_n 1, 1, [], 0), (66, .aload_n 0, 1, [], 0), (67, .getfield 15, 3, [0, 1, 412], 0), (70, .iload_n 2, 1, [], 0), (71, .iaload, 1, [], 0), (72, .aload_n 1, 1, [], 0), (73, .getfield 65, 3, [10, 2, 306], 0), (76, .getfield 69, 3, [8, 7, 250], 0), (79, .aload_n 0, 1, [], 0), (80, .getfield 18, 3, [0, 2, 413], 0), (83, .iload_n 2, 1, [], 0), (84, .iaload, 1, [], 0), (85, .iadd, 1, [], 0), (86, .invokevirtual 74, 3, [0, 3, 103, 10, 904], 0), (89, .iconst (-1), 1, [], 0), (90, .if_icmp .lt 7, 3, [97], 0), (93, .iconst 1, 1, [], 0), (94, .goto 4, 3, [98], 0), (97, .iconst 0, 1, [], 0), (98, .ireturn, 1, [], 0), (99, .aload_n 1, 1, [], 0), (100, .aload_n 0, 1, [], 0), (101, .getfield 15, 3, [0, 1, 412], 0), (104, .iload_n 2, 1, [], 0), (105, .iaload, 1, [], 0), (106, .aload_n 0, 1, [], 0), (107, .getfield 18, 3, [0, 2, 413], 0), (110, .iload_n 2, 1, [], 0), (111, .iaload, 1, [], 0), (112, .invokevirtual 77, 3, [0, 3, 104, 10, 905], 0), (115, .ifCond .lt 7, 3, [122], 0), (118, .iconst 1, 1, [], 0), (119, .goto 4, 3, [123], 0), (122, .iconst 0, 1, [], 0), (123, .ireturn, 1, [], 0), (124, .aload_n 1, 1, [], 0), (125, .aload_n 0, 1, [], 0), (126, .getfield 15, 3, [0, 1, 412], 0), (129, .iload_n 2, 1, [], 0), (130, .iaload, 1, [], 0), (131, .invokevirtual 80, 3, [0, 2, 105, 10, 906], 0), (134, .iconst 1, 1, [], 0), (135, .ireturn, 1, [], 0)])
def pj_m5 : pj_M := (yX1_init, cX1_init, 2, none, [367, 95, 366, 0], [(0, .aload_n 0, 1, [], 0), (1, .invokespecial 3, 3, [6, 1, 0, 0, 368, 118, 119], 0), (4, .aload_n 0, 1, [], 0), (5, .new 9, 3, [8, 369, 215, 92], 0), (8, .dup, 1, [], 0), (9, .invokespecial 11, 3, [4, 1, 67, 0, 370], 0), (12, .putfield 12, 3, [1, 1, 372], 0), (15, .aload_n 0, 1, [], 0), (16, .bipush 10, 2, [], 0), (18, .newarray .long, 2, [159], 0), (20, .putfield 18, 3, [1, 2, 373], 0), (23, .aload_n 0, 1, [], 0), (24, .lconst 1, 1, [], 0), (25, .putfield 22, 3, [1, 3, 374], 0), (28, .aload_n 0, 1, [], 0), (29, .aload_n 1, 1, [], 0), (30, .putfield 26, 3, [1, 0, 371], 0), (33, .return_, 1, [], 0)])
def pj_m6 : pj_M := (yX1_accepts, cX1_accepts, 3, some (.boolean), [1118, 95, 1116, 1117], [(0, .iload_n 1, 1, [], 0), (1, .ifCond .lt 23, 3, [24], 0), (4, .iload_n 1, 1, [], 0), (5, .bipush 10, 2, [], 0), (7, .if_icmp .gt 17, 3, [24], 0), (10, .iload_n 2, 1, [], 0), (11, .ifCond .lt 13, 3, [24], 0), (14, .iload_n 2, 1, [], 0), (15, .bipush 12, 2, [], 0), (17, .if_icmp .gt 7, 3, [24], 0), (20, .iconst 1, 1, [], 0), (21, .goto 4, 3, [25], 0), (24, .iconst 0, 1, [], 0), (25, .ireturn, 1, [], 0)])
def pj_m7 : pj_M := (yX1_spreadChances, cX1_spreadChances, 5, none, [1122, 95, 1120, 1121], [(0, .iconst 0, 1, [], 0), (1, .istore 4, 2, [], 0), (3, .iload 4, 2, [], 0), (5, .bipush 10, 2, [], 0), (7, .if_icmp .ge 17, 3, [24], 0), (10, .aload_n 0, 1, [], 0), (11, .getfield 18, 3, [1, 2, 373], 0), (14, .iload 4, 2, [], 0), (16, .lconst 0, 1, [], 0), (17, .lastore, 1, [], 0), (18, .iinc 4 1, 3, [], 0), (21, .goto (-18), 3, [3], 0), (24, .aload_n 0, 1, [], 0), (25, .getfield 18, 3, [1, 2, 373], 0), (28, .aload_n 0, 1, [], 0), (29, .getfield 26, 3, [1, 0, 371], 0), (32, .getfield 30, 3, [10, 0, 298], 0), (35, .getfield 36, 3, [5, 6, 194], 0), (38, .iload_n 1, 1, [], 0), (39, .iaload, 1, [], 0), (40, .lconst 1, 1, [], 0), (41, .lastore, 1, [], 0), (42, .aload_n 0, 1, [], 0), (43, .lconst 1, 1, [], 0), (44, .putfield 22, 3, [1, 3, 374], 0), (47, .iconst 0, 1, [], 0), (48, .istore 4, 2, [], 0), (50, .iload 4, 2, [], 0), (52, .iload_n 3, 1, [], 0), (53, .if_icmp .ge 26, 3, [79], 0), (56, .aload_n 0, 1, [], 0), (57, .iload_n 2, 1, [], 0), (58, .invokevirtual 42, 3, [0, 2, 8, 1, 1123], 0), (61, .aload_n 0, 1, [], 0), (62, .dup, 1, [], 0), (63, .getfield 22, 3, [1, 3, 374], 0), (66, .ldc2_w 46, 3, [0, 1127], 10), (69, .lmul, 1, [], 0), (70, .putfield 22, 3, [1, 3, 374], 0), (73, .iinc 4 1, 3, [], 0), (76, .goto (-26), 3, [50], 0), (79, .return_, 1, [], 0)])
def pj_m8 : pj_M := (yX1_passNight, cX1_passNight, 7, none, [1126, 95, 1125, 15], [(0, .aload_n 0, 1, [], 0), (1, .getfield 26, 3, [1, 0, 371], 0), (4, .getfield 30, 3, [10, 0, 298], 0), (7, .getfield 48, 3, [5, 1, 178], 0), (10, .iconst 1, 1, [], 0), (11, .isub, 1, [], 0), (12, .istore_n 2, 1, [], 0), (13, .iload_n 2, 1, [], 0), (14, .istore_n 3, 1, [], 0), (15, .iload_n 3, 1, [], 0), (16, .ifCond .lt 65, 3, [81], 0), (19, .iload_n 3, 1, [], 0), (20, .iload_n 2, 1, [], 0), (21, .if_icmp .ne 8, 3, [29], 0), (24, .bipush 10, 2, [], 0), (26, .goto 7, 3, [33], 0), (29, .bipush 10, 2, [], 0), (31, .iload_n 1, 1, [], 0), (32, .isub, 1, [], 0), (33, .istore 4, 2, [], 0), (35, .iload_n 3, 1, [], 0), (36, .ifCond .le 17, 3, [53], 0), (39, .aload_n 0, 1, [], 0), (40, .getfield 18, 3, [1, 2, 373], 0), (43, .iload_n 3, 1, [], 0), (44, .iconst 1, 1, [], 0), (45, .isub, 1, [], 0), (46, .laload, 1, [], 0), (47, .iload_n 1, 1, [], 0), (48, .i2l, 1, [], 0), (49, .lmul, 1, [], 0), (50, .goto 4, 3, [54], 0), (53, .lconst 0, 1, [], 0), (54, .lstore 5, 2, [], 0), (56, .aload_n 0, 1, [], 0), (57, .getfield 18, 3, [1, 2, 373], 0), (60, .iload_n 3, 1, [], 0), (61, .aload_n 0, 1, [], 0), (62, .getfield 18, 3, [1, 2, 373], 0), (65, .iload_n 3, 1, [], 0), (66, .laload, 1, [], 0), (67, .iload 4, 2, [], 0), (69, .i2l, 1, [], 0), (70, .lmul, 1, [], 0), (71, .lload 5, 2, [], 0), (73, .ladd, 1, [], 0), (74, .lastore, 1, [], 0), (75, .iinc 3 (-1), 3, [], 0), (78, .goto (-63), 3, [15], 0), (81, .return_, 1, [], 0)])
def pj_m9 : pj_M := (yX1_likeliest, cX1_likeliest, 3, some (.int), [1143, 95, 1141, 1142], [(0, .iconst 0, 1, [], 0), (1, .istore_n 1, 1, [], 0), (2, .iconst 1, 1, [], 0), (3, .istore_n 2, 1, [], 0), (4, .iload_n 2, 1, [], 0), (5, .aload_n 0, 1, [], 0), (6, .getfield 26, 3, [1, 0, 371], 0), (9, .getfield 30, 3, [10, 0, 298], 0), (12, .getfield 48, 3, [5, 1, 178], 0), (15, .if_icmp .ge 27, 3, [42], 0), (18, .aload_n 0, 1, [], 0), (19, .getfield 18, 3, [1, 2, 373], 0), (22, .iload_n 2, 1, [], 0), (23, .laload, 1, [], 0), (24, .aload_n 0, 1, [], 0), (25, .getfield 18, 3, [1, 2, 373], 0), (28, .iload_n 1, 1, [], 0), (29, .laload, 1, [], 0), (30, .lcmp, 1, [], 0), (31, .ifCond .le 5, 3, [36], 0), (34, .iload_n 2, 1, [], 0), (35, .istore_n 1, 1, [], 0), (36, .iinc 2 1, 3, [], 0), (39, .goto (-35), 3, [4], 0), (42, .aload_n 0, 1, [], 0), (43, .getfield 26, 3, [1, 0, 371], 0), (46, .getfield 30, 3, [10, 0, 298], 0), (49, .getfield 52, 3, [5, 7, 196], 0), (52, .iload_n 1, 1, [], 0), (53, .iaload, 1, [], 0), (54, .ireturn, 1, [], 0)])
def pj_m10 : pj_M := (yX1_tellChance, cX1_tellChance, 7, none, [1131, 95, 1129, 1130], [(0, .aload_n 0, 1, [], 0), (1, .getfield 18, 3, [1, 2, 373], 0), (4, .aload_n 0, 1, [], 0), (5, .getfield 26, 3, [1, 0, 371], 0), (8, .getfield 30, 3, [10, 0, 298], 0), (11, .getfield 36, 3, [5, 6, 194], 0), (14, .iload_n 2, 1, [], 0), (15, .iaload, 1, [], 0), (16, .laload, 1, [], 0), (17, .lstore_n 3, 1, [], 0), (18, .lload_n 3, 1, [], 0), (19, .aload_n 0, 1, [], 0), (20, .getfield 22, 3, [1, 3, 374], 0), (23, .invokestatic 55, 3, [2, 2, 11, 0, 1132], 0), (26, .lstore 5, 2, [], 0), (28, .lload 5, 2, [], 0), (30, .lconst 0, 1, [], 0), (31, .lcmp, 1, [], 0), (32, .ifCond .le 18, 3, [50], 0), (35, .aload_n 1, 1, [], 0), (36, .lload_n 3, 1, [], 0), (37, .lload 5, 2, [], 0), (39, .ldiv, 1, [], 0), (40, .aload_n 0, 1, [], 0), (41, .getfield 22, 3, [1, 3, 374], 0), (44, .lload 5, 2, [], 0), (46, .ldiv, 1, [], 0), (47, .invokevirtual 59, 3, [0, 3, 56, 6, 1135], 0), (50, .return_, 1, [], 0)])
def pj_m11 : pj_M := (yX1_commonDivisor, cX1_commonDivisor, 11, some (.long), [1134, 95, 1133, 0], [(0, .lload_n 0, 1, [], 0), (1, .lstore 4, 2, [], 0), (3, .lload_n 2, 1, [], 0), (4, .lstore 6, 2, [], 0), (6, .iconst 0, 1, [], 0), (7, .istore 8, 2, [], 0), (9, .iload 8, 2, [], 0), (11, .bipush 100, 2, [], 0), (13, .if_icmp .ge 31, 3, [44], 0), (16, .lload 4, 2, [], 0), (18, .lconst 0, 1, [], 0), (19, .lcmp, 1, [], 0), (20, .ifCond .eq 24, 3, [44], 0), (23, .lload 6, 2, [], 0), (25, .lload 4, 2, [], 0), (27, .lrem, 1, [], 0), (28, .lstore 9, 2, [], 0), (30, .lload 4, 2, [], 0), (32, .lstore 6, 2, [], 0), (34, .lload 9, 2, [], 0), (36, .lstore 4, 2, [], 0), (38, .iinc 8 1, 3, [], 0), (41, .goto (-32), 3, [9], 0), (44, .lload 6, 2, [], 0), (46, .lreturn, 1, [], 0)])
def pj_m12 : pj_M := (yX1_tellYears, cX1_tellYears, 10, some (.int), [1224, 95, 1222, 1223], [(0, .aload_n 0, 1, [], 0), (1, .getfield 12, 3, [1, 1, 372], 0), (4, .aload_n 0, 1, [], 0), (5, .getfield 26, 3, [1, 0, 371], 0), (8, .getfield 65, 3, [10, 2, 307], 0), (11, .invokevirtual 68, 3, [0, 2, 68, 8, 1225], 0), (14, .iload_n 2, 1, [], 0), (15, .istore 4, 2, [], 0), (17, .iconst 0, 1, [], 0), (18, .istore 5, 2, [], 0), (20, .iconst 0, 1, [], 0), (21, .istore 6, 2, [], 0), (23, .iconst (-1), 1, [], 0), (24, .istore 7, 2, [], 0), (26, .iconst 0, 1, [], 0), (27, .istore 8, 2, [], 0), (29, .iload 8, 2, [], 0), (31, .iload_n 3, 1, [], 0), (32, .if_icmp .ge 90, 3, [122], 0), (35, .aload_n 0, 1, [], 0), (36, .getfield 12, 3, [1, 1, 372], 0), (39, .getfield 72, 3, [8, 0, 226], 0), (42, .ifCond .le 80, 3, [122], 0), (45, .iload 4, 2, [], 0), (47, .ldc 75, 2, [0, 1226], 1103515245), (49, .imul, 1, [], 0), (50, .sipush 12345, 3, [], 0), (53, .iadd, 1, [], 0), (54, .istore 4, 2, [], 0), (56, .iload 4, 2, [], 0), (58, .bipush 16, 2, [], 0), (60, .iushr, 1, [], 0), (61, .aload_n 0, 1, [], 0), (62, .getfield 12, 3, [1, 1, 372], 0), (65, .getfield 72, 3, [8, 0, 226], 0), (68, .irem, 1, [], 0), (69, .istore 9, 2, [], 0), (71, .iload 5, 2, [], 0), (73, .aload_n 0, 1, [], 0), (74, .iload 9, 2, [], 0), (76, .invokevirtual 76, 3, [0, 2, 13, 1, 1227], 0), (79, .ifCond .eq 7, 3, [86], 0), (82, .iconst 1, 1, [], 0), (83, .goto 4, 3, [87], 0), (86, .iconst 0, 1, [], 0), (87, .iadd, 1, [], 0), (88, .istore 5, 2, [], 0), (90, .aload_n 0, 1, [], 0), (91, .invokevirtual 80, 3, [0, 1, 14, 1, 1237], 0), (94, .istore 6, 2, [], 0), (96, .iload 7, 2, [], 0), (98, .iconst (-1), 1, [], 0), (99, .if_icmp .ne 8, 3, [107], 0), (102, .iload 6, 2, [], 0), (104, .goto 10, 3, [114], 0), (107, .iload 7, 2, [], 0), (109, .iload 6, 2, [], 0), (111, .invokestatic 84, 3, [11, 0, 0, 0, 1242, 502, 100, 503], 0), (114, .istore 7, 2, [], 0), (116, .iinc 8 1, 3, [], 0), (119, .goto (-90), 3, [29], 0), (122, .aload_n 1, 1, [], 0), (123, .iload 5, 2, [], 0), (125, .i2l, 1, [], 0), (126, .iload 7, 2, [], 0), (128, .i2l, 1, [], 0), (129, .invokevirtual 59, 3, [0, 3, 56, 6, 1135], 0), (132, .iload 6, 2, [], 0), (134, .ireturn, 1, [], 0)])
def pj_m13 : pj_M := (yX1_driftsToShed, cX1_driftsToShed, 3, some (.boolean), [1230, 95, 1229, 18], [(0, .aload_n 0, 1, [], 0), (1, .getfield 12, 3, [1, 1, 372], 0), (4, .iload_n 1, 1, [], 0), (5, .invokevirtual 90, 3, [0, 2, 69, 8, 1231], 0), (8, .ifCond .eq 25, 3, [33], 0), (11, .aload_n 0, 1, [], 0), (12, .getfield 26, 3, [1, 0, 371], 0), (15, .getfield 30, 3, [10, 0, 298], 0), (18, .aload_n 0, 1, [], 0), (19, .getfield 12, 3, [1, 1, 372], 0), (22, .getfield 93, 3, [8, 1, 229], 0), (25, .iload_n 1, 1, [], 0), (26, .iaload, 1, [], 0), (27, .invokevirtual 96, 3, [0, 2, 43, 5, 1232], 0), (30, .goto 4, 3, [34], 0), (33, .iconst (-1), 1, [], 0), (34, .istore_n 2, 1, [], 0), (35, .iload_n 2, 1, [], 0), (36, .iconst (-1), 1, [], 0), (37, .if_icmp .ne 5, 3, [42], 0), (40, .iconst 0, 1, [], 0), (41, .ireturn, 1, [], 0), (42, .aload_n 0, 1, [], 0), (43, .getfield 12, 3, [1, 1, 372], 0), (46, .iload_n 2, 1, [], 0), (47, .invokevirtual 100, 3, [0, 2, 72, 8, 1236], 0), (50, .ifCond .eq 39, 3, [89], 0), (53, .aload_n 0, 1, [], 0), (54, .getfield 26, 3, [1, 0, 371], 0), (57, .getfield 103, 3, [10, 4, 313], 0), (60, .iload_n 1, 1, [], 0), (61, .iaload, 1, [], 0), (62, .aload_n 0, 1, [], 0), (63, .getfield 26, 3, [1, 0, 371], 0), (66, .getfield 30, 3, [10, 0, 298], 0), (69, .getfield 106, 3, [5, 5, 191], 0), (72, .iload_n 2, 1, [], 0), (73, .iaload, 1, [], 0), (74, .if_icmp .lt 15, 3, [89], 0), (77, .aload_n 0, 1, [], 0), (78, .getfield 12, 3, [1, 1, 372], 0), (81, .getfield 93, 3, [8, 1, 229], 0), (84, .iload_n 1, 1, [], 0), (85, .iload_n 2, 1, [], 0), (86, .iastore, 1, [], 0), (87, .iconst 0, 1, [], 0), (88, .ireturn, 1, [], 0), (89, .aload_n 0, 1, [], 0), (90, .getfield 12, 3, [1, 1, 372], 0), (93, .getfield 93, 3, [8, 1, 229], 0), (96, .iload_n 1, 1, [], 0), (97, .iconst (-1), 1, [], 0), (98, .iastore, 1, [], 0), (99, .iconst 1, 1, [], 0), (100, .ireturn, 1, [], 0)])
def pj_m14 : pj_M := (yX1_dreamedPairs, cX1_dreamedPairs, 3, some (.int), [1240, 95, 1239, 19], [(0, .iconst 0, 1, [], 0), (1, .istore_n 1, 1, [], 0), (2, .iconst 0, 1, [], 0), (3, .istore_n 2, 1, [], 0), (4, .iload_n 2, 1, [], 0), (5, .aload_n 0, 1, [], 0), (6, .getfield 12, 3, [1, 1, 372], 0), (9, .getfield 72, 3, [8, 0, 226], 0), (12, .if_icmp .ge 38, 3, [50], 0), (15, .iload_n 1, 1, [], 0), (16, .aload_n 0, 1, [], 0), (17, .getfield 12, 3, [1, 1, 372], 0), (20, .iload_n 2, 1, [], 0), (21, .invokevirtual 90, 3, [0, 2, 69, 8, 1231], 0), (24, .ifCond .eq 17, 3, [41], 0), (27, .iconst 1, 1, [], 0), (28, .aload_n 0, 1, [], 0), (29, .getfield 12, 3, [1, 1, 372], 0), (32, .getfield 93, 3, [8, 1, 229], 0), (35, .iload_n 2, 1, [], 0), (36, .iaload, 1, [], 0), (37, .ishl, 1, [], 0), (38, .goto 4, 3, [42], 0), (41, .iconst 0, 1, [], 0), (42, .ior, 1, [], 0), (43, .istore_n 1, 1, [], 0), (44, .iinc 2 1, 3, [], 0), (47, .goto (-43), 3, [4], 0), (50, .aload_n 0, 1, [], 0), (51, .getfield 26, 3, [1, 0, 371], 0), (54, .getfield 30, 3, [10, 0, 298], 0), (57, .iload_n 1, 1, [], 0), (58, .invokevirtual 109, 3, [0, 2, 49, 5, 1241], 0), (61, .ireturn, 1, [], 0)])
def pj_m15 : pj_M := (yX2_init, cX2_init, 2, none, [388, 96, 387, 0], [(0, .aload_n 0, 1, [], 0), (1, .invokespecial 5, 3, [6, 1, 0, 0, 389, 118, 119], 0), (4, .aload_n 0, 1, [], 0), (5, .bipush 12, 2, [], 0), (7, .newarray .int, 2, [143], 0), (9, .putfield 11, 3, [2, 1, 391], 0), (12, .aload_n 0, 1, [], 0), (13, .bipush 12, 2, [], 0), (15, .newarray .boolean, 2, [404], 0), (17, .putfield 15, 3, [2, 2, 392], 0), (20, .aload_n 0, 1, [], 0), (21, .aload_n 1, 1, [], 0), (22, .putfield 19, 3, [2, 0, 390], 0), (25, .return_, 1, [], 0)])
def pj_m16 : pj_M := (yX2_isQuestion, cX2_isQuestion, 2, some (.boolean), [1154, 96, 1153, 0], [(0, .iload_n 0, 1, [], 0), (1, .tableswitch 78 0 3 #[31, 31, 47, 63], 31, [], 0), (32, .iload_n 1, 1, [], 0), (33, .ifCond .lt 13, 3, [46], 0), (36, .iload_n 1, 1, [], 0), (37, .bipush 18, 2, [], 0), (39, .if_icmp .gt 7, 3, [46], 0), (42, .iconst 1, 1, [], 0), (43, .goto 4, 3, [47], 0), (46, .iconst 0, 1, [], 0), (47, .ireturn, 1, [], 0), (48, .iload_n 1, 1, [], 0), (49, .ifCond .lt 13, 3, [62], 0), (52, .iload_n 1, 1, [], 0), (53, .bipush 6, 2, [], 0), (55, .if_icmp .gt 7, 3, [62], 0), (58, .iconst 1, 1, [], 0), (59, .goto 4, 3, [63], 0), (62, .iconst 0, 1, [], 0), (63, .ireturn, 1, [], 0), (64, .iload_n 1, 1, [], 0), (65, .ifCond .eq 8, 3, [73], 0), (68, .iload_n 1, 1, [], 0), (69, .iconst 1, 1, [], 0), (70, .if_icmp .ne 7, 3, [77], 0), (73, .iconst 1, 1, [], 0), (74, .goto 4, 3, [78], 0), (77, .iconst 0, 1, [], 0), (78, .ireturn, 1, [], 0), (79, .iconst 0, 1, [], 0), (80, .ireturn, 1, [], 0)])
def pj_m17 : pj_M := (yX2_add, cX2_add, 4, some (.int), [1151, 96, 1149, 1150], [(0, .iload_n 1, 1, [], 0), (1, .iload_n 2, 1, [], 0), (2, .invokestatic 23, 3, [2, 2, 16, 0, 1152], 0), (5, .ifCond .eq 21, 3, [26], 0), (8, .iload_n 3, 1, [], 0), (9, .ifCond .lt 17, 3, [26], 0), (12, .iload_n 3, 1, [], 0), (13, .iconst 1, 1, [], 0), (14, .if_icmp .gt 12, 3, [26], 0), (17, .aload_n 0, 1, [], 0), (18, .getfield 27, 3, [2, 3, 393], 0), (21, .bipush 12, 2, [], 0), (23, .if_icmp .lt 5, 3, [28], 0), (26, .iconst (-1), 1, [], 0), (27, .ireturn, 1, [], 0), (28, .aload_n 0, 1, [], 0), (29, .getfield 11, 3, [2, 1, 391], 0), (32, .aload_n 0, 1, [], 0), (33, .getfield 27, 3, [2, 3, 393], 0), (36, .bipush 19, 2, [], 0), (38, .iload_n 1, 1, [], 0), (39, .imul, 1, [], 0), (40, .iload_n 2, 1, [], 0), (41, .iadd, 1, [], 0), (42, .iastore, 1, [], 0), (43, .aload_n 0, 1, [], 0), (44, .getfield 15, 3, [2, 2, 392], 0), (47, .aload_n 0, 1, [], 0), (48, .getfield 27, 3, [2, 3, 393], 0), (51, .iload_n 3, 1, [], 0), (52, .iconst 1, 1, [], 0), (53, .if_icmp .ne 7, 3, [60], 0), (56, .iconst 1, 1, [], 0), (57, .goto 4, 3, [61], 0), (60, .iconst 0, 1, [], 0), (61, .bastore, 1, [], 0), (62, .aload_n 0, 1, [], 0), (63, .dup, 1, [], 0), (64, .getfield 27, 3, [2, 3, 393], 0), (67, .iconst 1, 1, [], 0), (68, .iadd, 1, [], 0), (69, .putfield 27, 3, [2, 3, 393], 0), (72, .aload_n 0, 1, [], 0), (73, .getfield 27, 3, [2, 3, 393], 0), (76, .ireturn, 1, [], 0)])
def pj_m18 : pj_M := (yX2_isSo, cX2_isSo, 4, some (.boolean), [1174, 96, 1173, 17], [(0, .iload_n 1, 1, [], 0), (1, .bipush 19, 2, [], 0), (3, .irem, 1, [], 0), (4, .istore_n 3, 1, [], 0), (5, .iload_n 1, 1, [], 0), (6, .bipush 19, 2, [], 0), (8, .idiv, 1, [], 0), (9, .tableswitch 103 0 2 #[27, 46, 68], 27, [], 0), (36, .aload_n 0, 1, [], 0), (37, .getfield 19, 3, [2, 0, 390], 0), (40, .getfield 31, 3, [10, 4, 312], 0), (43, .iload_n 2, 1, [], 0), (44, .iaload, 1, [], 0), (45, .iload_n 3, 1, [], 0), (46, .if_icmp .lt 7, 3, [53], 0), (49, .iconst 1, 1, [], 0), (50, .goto 4, 3, [54], 0), (53, .iconst 0, 1, [], 0), (54, .ireturn, 1, [], 0), (55, .aload_n 0, 1, [], 0), (56, .getfield 19, 3, [2, 0, 390], 0), (59, .getfield 36, 3, [10, 2, 304], 0), (62, .getfield 40, 3, [8, 3, 236], 0), (65, .iload_n 2, 1, [], 0), (66, .iaload, 1, [], 0), (67, .iload_n 3, 1, [], 0), (68, .if_icmp .lt 7, 3, [75], 0), (71, .iconst 1, 1, [], 0), (72, .goto 4, 3, [76], 0), (75, .iconst 0, 1, [], 0), (76, .ireturn, 1, [], 0), (77, .aload_n 0, 1, [], 0), (78, .getfield 19, 3, [2, 0, 390], 0), (81, .getfield 31, 3, [10, 4, 312], 0), (84, .iload_n 2, 1, [], 0), (85, .iaload, 1, [], 0), (86, .aload_n 0, 1, [], 0), (87, .getfield 19, 3, [2, 0, 390], 0), (90, .getfield 36, 3, [10, 2, 304], 0), (93, .getfield 40, 3, [8, 3, 236], 0), (96, .iload_n 2, 1, [], 0), (97, .iaload, 1, [], 0), (98, .iadd, 1, [], 0), (99, .bipush 7, 2, [], 0), (101, .irem, 1, [], 0), (102, .iload_n 3, 1, [], 0), (103, .if_icmp .ne 7, 3, [110], 0), (106, .iconst 1, 1, [], 0), (107, .goto 4, 3, [111], 0), (110, .iconst 0, 1, [], 0), (111, .ireturn, 1, [], 0), (112, .iload_n 2, 1, [], 0), (113, .iconst 2, 1, [], 0), (114, .irem, 1, [], 0), (115, .iload_n 3, 1, [], 0), (116, .if_icmp .ne 7, 3, [123], 0), (119, .iconst 1, 1, [], 0), (120, .goto 4, 3, [124], 0), (123, .iconst 0, 1, [], 0), (124, .ireturn, 1, [], 0)])
def pj_m19 : pj_M := (yX2_fits, cX2_fits, 3, some (.boolean), [1170, 96, 1169, 16], [(0, .iconst 0, 1, [], 0), (1, .istore_n 2, 1, [], 0), (2, .iload_n 2, 1, [], 0), (3, .aload_n 0, 1, [], 0), (4, .getfield 27, 3, [2, 3, 393], 0), (7, .if_icmp .ge 31, 3, [38], 0), (10, .aload_n 0, 1, [], 0), (11, .aload_n 0, 1, [], 0), (12, .getfield 11, 3, [2, 1, 391], 0), (15, .iload_n 2, 1, [], 0), (16, .iaload, 1, [], 0), (17, .iload_n 1, 1, [], 0), (18, .invokevirtual 45, 3, [0, 3, 18, 2, 1171], 0), (21, .aload_n 0, 1, [], 0), (22, .getfield 15, 3, [2, 2, 392], 0), (25, .iload_n 2, 1, [], 0), (26, .baload, 1, [], 0), (27, .if_icmp .eq 5, 3, [32], 0), (30, .iconst 0, 1, [], 0), (31, .ireturn, 1, [], 0), (32, .iinc 2 1, 3, [], 0), (35, .goto (-33), 3, [2], 0), (38, .iconst 1, 1, [], 0), (39, .ireturn, 1, [], 0)])
def pj_m20 : pj_M := (yX2_fitting, cX2_fitting, 3, some (.int), [1166, 96, 1164, 1165], [(0, .iconst 0, 1, [], 0), (1, .istore_n 1, 1, [], 0), (2, .iconst 0, 1, [], 0), (3, .istore_n 2, 1, [], 0), (4, .iload_n 2, 1, [], 0), (5, .aload_n 0, 1, [], 0), (6, .getfield 19, 3, [2, 0, 390], 0), (9, .getfield 36, 3, [10, 2, 304], 0), (12, .getfield 48, 3, [8, 0, 224], 0), (15, .if_icmp .ge 27, 3, [42], 0), (18, .iload_n 1, 1, [], 0), (19, .aload_n 0, 1, [], 0), (20, .iload_n 2, 1, [], 0), (21, .invokevirtual 51, 3, [0, 2, 19, 2, 1167], 0), (24, .ifCond .eq 9, 3, [33], 0), (27, .iconst 1, 1, [], 0), (28, .iload_n 2, 1, [], 0), (29, .ishl, 1, [], 0), (30, .goto 4, 3, [34], 0), (33, .iconst 0, 1, [], 0), (34, .ior, 1, [], 0), (35, .istore_n 1, 1, [], 0), (36, .iinc 2 1, 3, [], 0), (39, .goto (-35), 3, [4], 0), (42, .iload_n 1, 1, [], 0), (43, .ireturn, 1, [], 0)])
def pj_m21 : pj_M := (yX2_mostLeft, cX2_mostLeft, 5, some (.int), [1183, 96, 1181, 1182], [(0, .iconst 0, 1, [], 0), (1, .istore_n 3, 1, [], 0), (2, .iconst 0, 1, [], 0), (3, .istore 4, 2, [], 0), (5, .iload 4, 2, [], 0), (7, .aload_n 0, 1, [], 0), (8, .getfield 19, 3, [2, 0, 390], 0), (11, .getfield 36, 3, [10, 2, 304], 0), (14, .getfield 48, 3, [8, 0, 224], 0), (17, .if_icmp .ge 36, 3, [53], 0), (20, .iload_n 3, 1, [], 0), (21, .iload_n 2, 1, [], 0), (22, .iload 4, 2, [], 0), (24, .invokestatic 55, 3, [2, 2, 163, 0, 1184], 0), (27, .ifCond .eq 17, 3, [44], 0), (30, .aload_n 0, 1, [], 0), (31, .iload_n 1, 1, [], 0), (32, .iload 4, 2, [], 0), (34, .invokevirtual 45, 3, [0, 3, 18, 2, 1171], 0), (37, .ifCond .eq 7, 3, [44], 0), (40, .iconst 1, 1, [], 0), (41, .goto 4, 3, [45], 0), (44, .iconst 0, 1, [], 0), (45, .iadd, 1, [], 0), (46, .istore_n 3, 1, [], 0), (47, .iinc 4 1, 3, [], 0), (50, .goto (-45), 3, [5], 0), (53, .iload_n 3, 1, [], 0), (54, .iload_n 2, 1, [], 0), (55, .invokestatic 58, 3, [2, 1, 288, 0, 1185], 0), (58, .iload_n 3, 1, [], 0), (59, .isub, 1, [], 0), (60, .invokestatic 64, 3, [10, 0, 0, 0, 1186, 686, 100, 687], 0), (63, .ireturn, 1, [], 0)])
def pj_m22 : pj_M := (yX3_init, cX3_init, 2, none, [345, 94, 344, 0], [(0, .aload_n 0, 1, [], 0), (1, .invokespecial 3, 3, [6, 1, 0, 0, 346, 118, 119], 0), (4, .aload_n 0, 1, [], 0), (5, .bipush 8, 2, [], 0), (7, .newarray .int, 2, [143], 0), (9, .putfield 9, 3, [3, 1, 348], 0), (12, .aload_n 0, 1, [], 0), (13, .bipush 10, 2, [], 0), (15, .newarray .int, 2, [143], 0), (17, .putfield 15, 3, [3, 3, 350], 0), (20, .aload_n 0, 1, [], 0), (21, .bipush 10, 2, [], 0), (23, .newarray .int, 2, [143], 0), (25, .putfield 18, 3, [3, 4, 351], 0), (28, .aload_n 0, 1, [], 0), (29, .aload_n 1, 1, [], 0), (30, .putfield 21, 3, [3, 0, 347], 0), (33, .return_, 1, [], 0)])
def pj_m23 : pj_M := (yX3_muster, cX3_muster, 3, some (.int), [1029, 94, 1027, 1028], [(0, .iconst 0, 1, [], 0), (1, .istore_n 1, 1, [], 0), (2, .iload_n 1, 1, [], 0), (3, .bipush 10, 2, [], 0), (5, .if_icmp .ge 128, 3, [133], 0), (8, .aload_n 0, 1, [], 0), (9, .getfield 15, 3, [3, 3, 350], 0), (12, .iload_n 1, 1, [], 0), (13, .iconst 0, 1, [], 0), (14, .iastore, 1, [], 0), (15, .aload_n 0, 1, [], 0), (16, .getfield 18, 3, [3, 4, 351], 0), (19, .iload_n 1, 1, [], 0), (20, .iconst 0, 1, [], 0), (21, .iastore, 1, [], 0), (22, .iconst 0, 1, [], 0), (23, .istore_n 2, 1, [], 0), (24, .iload_n 2, 1, [], 0), (25, .aload_n 0, 1, [], 0), (26, .getfield 21, 3, [3, 0, 347], 0), (29, .getfield 25, 3, [10, 0, 297], 0), (32, .getfield 31, 3, [5, 1, 177], 0), (35, .if_icmp .ge 41, 3, [76], 0), (38, .aload_n 0, 1, [], 0), (39, .getfield 15, 3, [3, 3, 350], 0), (42, .iload_n 1, 1, [], 0), (43, .dup2, 1, [], 0), (44, .iaload, 1, [], 0), (45, .aload_n 0, 1, [], 0), (46, .getfield 21, 3, [3, 0, 347], 0), (49, .getfield 25, 3, [10, 0, 297], 0), (52, .getfield 37, 3, [5, 5, 189], 0), (55, .iload_n 2, 1, [], 0), (56, .iaload, 1, [], 0), (57, .iload_n 1, 1, [], 0), (58, .if_icmp .lt 9, 3, [67], 0), (61, .iconst 1, 1, [], 0), (62, .iload_n 2, 1, [], 0), (63, .ishl, 1, [], 0), (64, .goto 4, 3, [68], 0), (67, .iconst 0, 1, [], 0), (68, .ior, 1, [], 0), (69, .iastore, 1, [], 0), (70, .iinc 2 1, 3, [], 0), (73, .goto (-49), 3, [24], 0), (76, .iconst 0, 1, [], 0), (77, .istore_n 2, 1, [], 0), (78, .iload_n 2, 1, [], 0), (79, .aload_n 0, 1, [], 0), (80, .getfield 21, 3, [3, 0, 347], 0), (83, .getfield 40, 3, [10, 2, 303], 0), (86, .getfield 44, 3, [8, 0, 222], 0), (89, .if_icmp .ge 38, 3, [127], 0), (92, .aload_n 0, 1, [], 0), (93, .getfield 18, 3, [3, 4, 351], 0), (96, .iload_n 1, 1, [], 0), (97, .dup2, 1, [], 0), (98, .iaload, 1, [], 0), (99, .aload_n 0, 1, [], 0), (100, .getfield 21, 3, [3, 0, 347], 0), (103, .getfield 49, 3, [10, 4, 311], 0), (106, .iload_n 2, 1, [], 0), (107, .iaload, 1, [], 0), (108, .iload_n 1, 1, [], 0), (109, .if_icmp .lt 9, 3, [118], 0), (112, .iconst 1, 1, [], 0), (113, .iload_n 2, 1, [], 0), (114, .ishl, 1, [], 0), (115, .goto 4, 3, [119], 0), (118, .iconst 0, 1, [], 0), (119, .ior, 1, [], 0), (120, .iastore, 1, [], 0), (121, .iinc 2 1, 3, [], 0), (124, .goto (-46), 3, [78], 0), (127, .iinc 1 1, 3, [], 0), (130, .goto (-128), 3, [2], 0), (133, .iconst 1, 1, [], 0), (134, .aload_n 0, 1, [], 0), (135, .getfield 21, 3, [3, 0, 347], 0), (138, .getfield 40, 3, [10, 2, 303], 0), (141, .getfield 44, 3, [8, 0, 222], 0), (144, .ishl, 1, [], 0), (145, .iconst 1, 1, [], 0), (146, .isub, 1, [], 0), (147, .ireturn, 1, [], 0)])
def pj_m24 : pj_M := (yX3_fits, cX3_fits, 4, some (.boolean), [1033, 94, 1031, 1032], [(0, .iconst 1, 1, [], 0), (1, .istore_n 3, 1, [], 0), (2, .iload_n 3, 1, [], 0), (3, .bipush 10, 2, [], 0), (5, .if_icmp .ge 36, 3, [41], 0), (8, .iload_n 1, 1, [], 0), (9, .aload_n 0, 1, [], 0), (10, .getfield 15, 3, [3, 3, 350], 0), (13, .iload_n 3, 1, [], 0), (14, .iaload, 1, [], 0), (15, .iand, 1, [], 0), (16, .invokestatic 52, 3, [2, 1, 288, 0, 1034], 0), (19, .iload_n 2, 1, [], 0), (20, .aload_n 0, 1, [], 0), (21, .getfield 18, 3, [3, 4, 351], 0), (24, .iload_n 3, 1, [], 0), (25, .iaload, 1, [], 0), (26, .iand, 1, [], 0), (27, .invokestatic 52, 3, [2, 1, 288, 0, 1034], 0), (30, .if_icmp .le 5, 3, [35], 0), (33, .iconst 0, 1, [], 0), (34, .ireturn, 1, [], 0), (35, .iinc 3 1, 3, [], 0), (38, .goto (-36), 3, [2], 0), (41, .iconst 1, 1, [], 0), (42, .ireturn, 1, [], 0)])
def pj_m25 : pj_M := (yX3_tellLeast, cX3_tellLeast, 8, none, [1038, 94, 1036, 1037], [(0, .iload_n 2, 1, [], 0), (1, .istore 4, 2, [], 0), (3, .iload_n 3, 1, [], 0), (4, .istore 5, 2, [], 0), (6, .iconst 0, 1, [], 0), (7, .istore 6, 2, [], 0), (9, .iload 6, 2, [], 0), (11, .aload_n 0, 1, [], 0), (12, .getfield 21, 3, [3, 0, 347], 0), (15, .getfield 25, 3, [10, 0, 297], 0), (18, .getfield 31, 3, [5, 1, 177], 0), (21, .if_icmp .ge 70, 3, [91], 0), (24, .iload_n 2, 1, [], 0), (25, .iload 6, 2, [], 0), (27, .invokestatic 58, 3, [2, 2, 163, 0, 1039], 0), (30, .ifCond .eq 55, 3, [85], 0), (33, .iload 4, 2, [], 0), (35, .iconst 1, 1, [], 0), (36, .iload 6, 2, [], 0), (38, .ishl, 1, [], 0), (39, .iconst (-1), 1, [], 0), (40, .ixor, 1, [], 0), (41, .iand, 1, [], 0), (42, .istore 4, 2, [], 0), (44, .aload_n 0, 1, [], 0), (45, .iload 6, 2, [], 0), (47, .iload 4, 2, [], 0), (49, .iload 5, 2, [], 0), (51, .invokevirtual 62, 3, [0, 4, 26, 3, 1040], 0), (54, .istore 7, 2, [], 0), (56, .aload_n 1, 1, [], 0), (57, .iload 7, 2, [], 0), (59, .i2l, 1, [], 0), (60, .invokevirtual 66, 3, [0, 2, 54, 6, 1045], 0), (63, .iload 5, 2, [], 0), (65, .iload 7, 2, [], 0), (67, .iconst (-1), 1, [], 0), (68, .if_icmp .ne 8, 3, [76], 0), (71, .iload 5, 2, [], 0), (73, .goto 9, 3, [82], 0), (76, .iconst 1, 1, [], 0), (77, .iload 7, 2, [], 0), (79, .ishl, 1, [], 0), (80, .iconst (-1), 1, [], 0), (81, .ixor, 1, [], 0), (82, .iand, 1, [], 0), (83, .istore 5, 2, [], 0), (85, .iinc 6 1, 3, [], 0), (88, .goto (-79), 3, [9], 0), (91, .return_, 1, [], 0)])
def pj_m26 : pj_M := (yX3_firstFor, cX3_firstFor, 5, some (.int), [1043, 94, 1042, 13], [(0, .iconst 0, 1, [], 0), (1, .istore 4, 2, [], 0), (3, .iload 4, 2, [], 0), (5, .aload_n 0, 1, [], 0), (6, .getfield 21, 3, [3, 0, 347], 0), (9, .getfield 40, 3, [10, 2, 303], 0), (12, .getfield 44, 3, [8, 0, 222], 0), (15, .if_icmp .ge 62, 3, [77], 0), (18, .iload_n 3, 1, [], 0), (19, .iload 4, 2, [], 0), (21, .invokestatic 58, 3, [2, 2, 163, 0, 1039], 0), (24, .ifCond .eq 47, 3, [71], 0), (27, .aload_n 0, 1, [], 0), (28, .getfield 21, 3, [3, 0, 347], 0), (31, .getfield 49, 3, [10, 4, 311], 0), (34, .iload 4, 2, [], 0), (36, .iaload, 1, [], 0), (37, .aload_n 0, 1, [], 0), (38, .getfield 21, 3, [3, 0, 347], 0), (41, .getfield 25, 3, [10, 0, 297], 0), (44, .getfield 37, 3, [5, 5, 189], 0), (47, .iload_n 1, 1, [], 0), (48, .iaload, 1, [], 0), (49, .if_icmp .lt 22, 3, [71], 0), (52, .aload_n 0, 1, [], 0), (53, .iload_n 2, 1, [], 0), (54, .iload_n 3, 1, [], 0), (55, .iconst 1, 1, [], 0), (56, .iload 4, 2, [], 0), (58, .ishl, 1, [], 0), (59, .iconst (-1), 1, [], 0), (60, .ixor, 1, [], 0), (61, .iand, 1, [], 0), (62, .invokevirtual 72, 3, [0, 3, 24, 3, 1044], 0), (65, .ifCond .eq 6, 3, [71], 0), (68, .iload 4, 2, [], 0), (70, .ireturn, 1, [], 0), (71, .iinc 4 1, 3, [], 0), (74, .goto (-71), 3, [3], 0), (77, .iconst (-1), 1, [], 0), (78, .ireturn, 1, [], 0)])
def pj_m27 : pj_M := (yX3_wish, cX3_wish, 2, none, [1053, 94, 1051, 1052], [(0, .aload_n 0, 1, [], 0), (1, .getfield 9, 3, [3, 1, 348], 0), (4, .iconst 0, 1, [], 0), (5, .iload_n 1, 1, [], 0), (6, .iastore, 1, [], 0), (7, .aload_n 0, 1, [], 0), (8, .iconst 1, 1, [], 0), (9, .putfield 75, 3, [3, 2, 349], 0), (12, .return_, 1, [], 0)])
def pj_m28 : pj_M := (yX3_readErrands, cX3_readErrands, 5, none, [1085, 94, 1083, 1084], [(0, .aload_n 0, 1, [], 0), (1, .iconst 0, 1, [], 0), (2, .putfield 75, 3, [3, 2, 349], 0), (5, .iconst 1, 1, [], 0), (6, .istore_n 2, 1, [], 0), (7, .iconst 0, 1, [], 0), (8, .istore_n 3, 1, [], 0), (9, .iload_n 3, 1, [], 0), (10, .bipush 8, 2, [], 0), (12, .if_icmp .gt 86, 3, [98], 0), (15, .iload_n 2, 1, [], 0), (16, .ifCond .eq 82, 3, [98], 0), (19, .iload_n 3, 1, [], 0), (20, .bipush 8, 2, [], 0), (22, .if_icmp .ge 59, 3, [81], 0), (25, .aload_n 1, 1, [], 0), (26, .iconst (-1), 1, [], 0), (27, .aload_n 0, 1, [], 0), (28, .getfield 21, 3, [3, 0, 347], 0), (31, .getfield 25, 3, [10, 0, 297], 0), (34, .getfield 78, 3, [5, 0, 174], 0), (37, .invokevirtual 81, 3, [0, 3, 87, 9, 1086], 0), (40, .istore 4, 2, [], 0), (42, .aload_n 0, 1, [], 0), (43, .getfield 9, 3, [3, 1, 348], 0), (46, .iload_n 3, 1, [], 0), (47, .iconst 1, 1, [], 0), (48, .iload 4, 2, [], 0), (50, .ishl, 1, [], 0), (51, .iconst 1, 1, [], 0), (52, .aload_n 1, 1, [], 0), (53, .iload 4, 2, [], 0), (55, .aload_n 0, 1, [], 0), (56, .getfield 21, 3, [3, 0, 347], 0), (59, .getfield 25, 3, [10, 0, 297], 0), (62, .getfield 78, 3, [5, 0, 174], 0), (65, .invokevirtual 81, 3, [0, 3, 87, 9, 1086], 0), (68, .ishl, 1, [], 0), (69, .ior, 1, [], 0), (70, .iastore, 1, [], 0), (71, .aload_n 0, 1, [], 0), (72, .iload_n 3, 1, [], 0), (73, .iconst 1, 1, [], 0), (74, .iadd, 1, [], 0), (75, .putfield 75, 3, [3, 2, 349], 0), (78, .goto 7, 3, [85], 0), (81, .aload_n 1, 1, [], 0), (82, .invokevirtual 87, 3, [0, 1, 81, 9, 1087], 0), (85, .aload_n 1, 1, [], 0), (86, .bipush 44, 2, [], 0), (88, .invokevirtual 90, 3, [0, 2, 82, 9, 1088], 0), (91, .istore_n 2, 1, [], 0), (92, .iinc 3 1, 3, [], 0), (95, .goto (-86), 3, [9], 0), (98, .return_, 1, [], 0)])
def pj_m29 : pj_M := (yX3_grants, cX3_grants, 5, some (.boolean), [1062, 94, 1061, 14], [(0, .iconst 0, 1, [], 0), (1, .istore_n 2, 1, [], 0), (2, .iload_n 2, 1, [], 0), (3, .aload_n 0, 1, [], 0), (4, .getfield 75, 3, [3, 2, 349], 0), (7, .if_icmp .ge 48, 3, [55], 0), (10, .aload_n 0, 1, [], 0), (11, .getfield 9, 3, [3, 1, 348], 0), (14, .iload_n 2, 1, [], 0), (15, .iaload, 1, [], 0), (16, .istore_n 3, 1, [], 0), (17, .iload_n 3, 1, [], 0), (18, .invokestatic 94, 3, [2, 1, 287, 0, 1063], 0), (21, .istore 4, 2, [], 0), (23, .iload_n 3, 1, [], 0), (24, .ifCond .eq 25, 3, [49], 0), (27, .iload_n 3, 1, [], 0), (28, .aload_n 0, 1, [], 0), (29, .getfield 21, 3, [3, 0, 347], 0), (32, .getfield 25, 3, [10, 0, 297], 0), (35, .iload 4, 2, [], 0), (37, .iload_n 1, 1, [], 0), (38, .invokevirtual 97, 3, [0, 3, 47, 5, 1067], 0), (41, .iconst (-1), 1, [], 0), (42, .ixor, 1, [], 0), (43, .iand, 1, [], 0), (44, .ifCond .eq 5, 3, [49], 0), (47, .iconst 0, 1, [], 0), (48, .ireturn, 1, [], 0), (49, .iinc 2 1, 3, [], 0), (52, .goto (-50), 3, [2], 0), (55, .iconst 1, 1, [], 0), (56, .ireturn, 1, [], 0)])
def pj_m30 : pj_M := (yX3_tellFewest, cX3_tellFewest, 6, some (.int), [1057, 94, 1055, 1056], [(0, .iconst (-1), 1, [], 0), (1, .istore_n 2, 1, [], 0), (2, .bipush 11, 2, [], 0), (4, .istore_n 3, 1, [], 0), (5, .aload_n 0, 1, [], 0), (6, .invokevirtual 100, 3, [0, 1, 23, 3, 1058], 0), (9, .istore 4, 2, [], 0), (11, .iconst 0, 1, [], 0), (12, .istore 5, 2, [], 0), (14, .iload 5, 2, [], 0), (16, .iconst 1, 1, [], 0), (17, .aload_n 0, 1, [], 0), (18, .getfield 21, 3, [3, 0, 347], 0), (21, .getfield 25, 3, [10, 0, 297], 0), (24, .getfield 31, 3, [5, 1, 177], 0), (27, .ishl, 1, [], 0), (28, .if_icmp .ge 47, 3, [75], 0), (31, .iload 5, 2, [], 0), (33, .invokestatic 52, 3, [2, 1, 288, 0, 1034], 0), (36, .iload_n 3, 1, [], 0), (37, .if_icmp .ge 32, 3, [69], 0), (40, .aload_n 0, 1, [], 0), (41, .iload 5, 2, [], 0), (43, .iload 4, 2, [], 0), (45, .invokevirtual 72, 3, [0, 3, 24, 3, 1044], 0), (48, .ifCond .eq 21, 3, [69], 0), (51, .aload_n 0, 1, [], 0), (52, .iload 5, 2, [], 0), (54, .invokevirtual 104, 3, [0, 2, 29, 3, 1059], 0), (57, .ifCond .eq 12, 3, [69], 0), (60, .iload 5, 2, [], 0), (62, .istore_n 2, 1, [], 0), (63, .iload 5, 2, [], 0), (65, .invokestatic 52, 3, [2, 1, 288, 0, 1034], 0), (68, .istore_n 3, 1, [], 0), (69, .iinc 5 1, 3, [], 0), (72, .goto (-58), 3, [14], 0), (75, .iload_n 2, 1, [], 0), (76, .iconst (-1), 1, [], 0), (77, .if_icmp .ne 6, 3, [83], 0), (80, .bipush (-2), 2, [], 0), (82, .ireturn, 1, [], 0), (83, .aload_n 1, 1, [], 0), (84, .iload_n 2, 1, [], 0), (85, .i2l, 1, [], 0), (86, .invokevirtual 107, 3, [0, 2, 55, 6, 1068], 0), (89, .iload_n 3, 1, [], 0), (90, .ireturn, 1, [], 0)])
def pj_m31 : pj_M := (yX3_tellBest, cX3_tellBest, 7, some (.int), [1076, 94, 1074, 1075], [(0, .iconst 0, 1, [], 0), (1, .istore_n 2, 1, [], 0), (2, .iconst 0, 1, [], 0), (3, .istore_n 3, 1, [], 0), (4, .aload_n 0, 1, [], 0), (5, .invokevirtual 100, 3, [0, 1, 23, 3, 1058], 0), (8, .istore 4, 2, [], 0), (10, .iconst 0, 1, [], 0), (11, .istore 5, 2, [], 0), (13, .iload 5, 2, [], 0), (15, .iconst 1, 1, [], 0), (16, .aload_n 0, 1, [], 0), (17, .getfield 21, 3, [3, 0, 347], 0), (20, .getfield 25, 3, [10, 0, 297], 0), (23, .getfield 31, 3, [5, 1, 177], 0), (26, .ishl, 1, [], 0), (27, .if_icmp .ge 64, 3, [91], 0), (30, .aload_n 0, 1, [], 0), (31, .iload 5, 2, [], 0), (33, .iload 4, 2, [], 0), (35, .invokevirtual 72, 3, [0, 3, 24, 3, 1044], 0), (38, .ifCond .eq 47, 3, [85], 0), (41, .aload_n 0, 1, [], 0), (42, .getfield 21, 3, [3, 0, 347], 0), (45, .getfield 25, 3, [10, 0, 297], 0), (48, .iload 5, 2, [], 0), (50, .invokevirtual 110, 3, [0, 2, 49, 5, 1077], 0), (53, .istore 6, 2, [], 0), (55, .iload 6, 2, [], 0), (57, .iload_n 3, 1, [], 0), (58, .if_icmp .gt 21, 3, [79], 0), (61, .iload 6, 2, [], 0), (63, .iload_n 3, 1, [], 0), (64, .if_icmp .ne 21, 3, [85], 0), (67, .iload 5, 2, [], 0), (69, .invokestatic 52, 3, [2, 1, 288, 0, 1034], 0), (72, .iload_n 2, 1, [], 0), (73, .invokestatic 52, 3, [2, 1, 288, 0, 1034], 0), (76, .if_icmp .ge 9, 3, [85], 0), (79, .iload 6, 2, [], 0), (81, .istore_n 3, 1, [], 0), (82, .iload 5, 2, [], 0), (84, .istore_n 2, 1, [], 0), (85, .iinc 5 1, 3, [], 0), (88, .goto (-75), 3, [13], 0), (91, .aload_n 1, 1, [], 0), (92, .iload_n 2, 1, [], 0), (93, .i2l, 1, [], 0), (94, .invokevirtual 107, 3, [0, 2, 55, 6, 1068], 0), (97, .iload_n 3, 1, [], 0), (98, .ireturn, 1, [], 0)])
def pj_m32 : pj_M := (yX4_init, cX4_init, 2, none, [429, 98, 428, 0], [(0, .aload_n 0, 1, [], 0), (1, .invokespecial 1, 3, [6, 1, 0, 0, 430, 118, 119], 0), (4, .aload_n 0, 1, [], 0), (5, .bipush 16, 2, [], 0), (7, .anewarray 9, 3, [431, 432], 0), (10, .putfield 11, 3, [4, 0, 434], 0), (13, .aload_n 0, 1, [], 0), (14, .iconst 3, 1, [], 0), (15, .anewarray 9, 3, [431, 432], 0), (18, .putfield 15, 3, [4, 3, 438], 0), (21, .aload_n 0, 1, [], 0), (22, .iconst 3, 1, [], 0), (23, .newarray .boolean, 2, [404], 0), (25, .putfield 18, 3, [4, 4, 440], 0), (28, .iconst 0, 1, [], 0), (29, .istore_n 1, 1, [], 0), (30, .iload_n 1, 1, [], 0), (31, .aload_n 0, 1, [], 0), (32, .getfield 11, 3, [4, 0, 434], 0), (35, .arraylength, 1, [], 0), (36, .if_icmp .ge 22, 3, [58], 0), (39, .aload_n 0, 1, [], 0), (40, .getfield 11, 3, [4, 0, 434], 0), (43, .iload_n 1, 1, [], 0), (44, .new 9, 3, [8, 431, 215, 92], 0), (47, .dup, 1, [], 0), (48, .invokespecial 22, 3, [4, 1, 67, 0, 433], 0), (51, .aastore, 1, [], 0), (52, .iinc 1 1, 3, [], 0), (55, .goto (-25), 3, [30], 0), (58, .iconst 0, 1, [], 0), (59, .istore_n 1, 1, [], 0), (60, .iload_n 1, 1, [], 0), (61, .iconst 3, 1, [], 0), (62, .if_icmp .ge 22, 3, [84], 0), (65, .aload_n 0, 1, [], 0), (66, .getfield 15, 3, [4, 3, 438], 0), (69, .iload_n 1, 1, [], 0), (70, .new 9, 3, [8, 431, 215, 92], 0), (73, .dup, 1, [], 0), (74, .invokespecial 22, 3, [4, 1, 67, 0, 433], 0), (77, .aastore, 1, [], 0), (78, .iinc 1 1, 3, [], 0), (81, .goto (-21), 3, [60], 0), (84, .return_, 1, [], 0)])
def pj_m33 : pj_M := (yX4_note, cX4_note, 2, none, [804, 98, 802, 803], [(0, .aload_n 0, 1, [], 0), (1, .getfield 11, 3, [4, 0, 434], 0), (4, .aload_n 0, 1, [], 0), (5, .getfield 23, 3, [4, 1, 435], 0), (8, .aaload, 1, [], 0), (9, .aload_n 1, 1, [], 0), (10, .invokevirtual 27, 3, [0, 2, 68, 8, 805], 0), (13, .return_, 1, [], 0)])
def pj_m34 : pj_M := (yX4_holdIf, cX4_holdIf, 2, none, [820, 98, 818, 819], [(0, .iload_n 1, 1, [], 0), (1, .ifCond .eq 34, 3, [35], 0), (4, .aload_n 0, 1, [], 0), (5, .aload_n 0, 1, [], 0), (6, .getfield 23, 3, [4, 1, 435], 0), (9, .iconst 1, 1, [], 0), (10, .iadd, 1, [], 0), (11, .aload_n 0, 1, [], 0), (12, .getfield 11, 3, [4, 0, 434], 0), (15, .arraylength, 1, [], 0), (16, .irem, 1, [], 0), (17, .putfield 23, 3, [4, 1, 435], 0), (20, .aload_n 0, 1, [], 0), (21, .aload_n 0, 1, [], 0), (22, .getfield 31, 3, [4, 2, 436], 0), (25, .iconst 1, 1, [], 0), (26, .iadd, 1, [], 0), (27, .bipush 15, 2, [], 0), (29, .invokestatic 34, 3, [11, 0, 0, 0, 821, 502, 100, 503], 0), (32, .putfield 31, 3, [4, 2, 436], 0), (35, .return_, 1, [], 0)])
def pj_m35 : pj_M := (yX4_takeLatest, cX4_takeLatest, 1, some (.object "BridgesAreLent$State"), [914, 98, 912, 913], [(0, .aload_n 0, 1, [], 0), (1, .aload_n 0, 1, [], 0), (2, .getfield 23, 3, [4, 1, 435], 0), (5, .bipush 15, 2, [], 0), (7, .iadd, 1, [], 0), (8, .aload_n 0, 1, [], 0), (9, .getfield 11, 3, [4, 0, 434], 0), (12, .arraylength, 1, [], 0), (13, .irem, 1, [], 0), (14, .putfield 23, 3, [4, 1, 435], 0), (17, .aload_n 0, 1, [], 0), (18, .dup, 1, [], 0), (19, .getfield 31, 3, [4, 2, 436], 0), (22, .iconst 1, 1, [], 0), (23, .isub, 1, [], 0), (24, .putfield 31, 3, [4, 2, 436], 0), (27, .aload_n 0, 1, [], 0), (28, .getfield 11, 3, [4, 0, 434], 0), (31, .aload_n 0, 1, [], 0), (32, .getfield 23, 3, [4, 1, 435], 0), (35, .aaload, 1, [], 0), (36, .areturn, 1, [], 0)])
def pj_m36 : pj_M := (yX4_forgetPast, cX4_forgetPast, 1, none, [559, 98, 557, 558], [(0, .aload_n 0, 1, [], 0), (1, .iconst 0, 1, [], 0), (2, .putfield 31, 3, [4, 2, 436], 0), (5, .return_, 1, [], 0)])
def pj_m37 : pj_M := (yX4_forgetAll, cX4_forgetAll, 2, none, [555, 98, 553, 554], [(0, .aload_n 0, 1, [], 0), (1, .invokevirtual 40, 3, [0, 1, 36, 4, 556], 0), (4, .iconst 0, 1, [], 0), (5, .istore_n 1, 1, [], 0), (6, .iload_n 1, 1, [], 0), (7, .iconst 3, 1, [], 0), (8, .if_icmp .ge 16, 3, [24], 0), (11, .aload_n 0, 1, [], 0), (12, .getfield 18, 3, [4, 4, 440], 0), (15, .iload_n 1, 1, [], 0), (16, .iconst 0, 1, [], 0), (17, .bastore, 1, [], 0), (18, .iinc 1 1, 3, [], 0), (21, .goto (-15), 3, [6], 0), (24, .return_, 1, [], 0)])
def pj_m38 : pj_M := (yX4_shelve, cX4_shelve, 3, some (.boolean), [1250, 98, 1248, 1249], [(0, .iload_n 1, 1, [], 0), (1, .ifCond .lt 8, 3, [9], 0), (4, .iload_n 1, 1, [], 0), (5, .iconst 3, 1, [], 0), (6, .if_icmp .lt 5, 3, [11], 0), (9, .iconst 0, 1, [], 0), (10, .ireturn, 1, [], 0), (11, .aload_n 0, 1, [], 0), (12, .getfield 15, 3, [4, 3, 438], 0), (15, .iload_n 1, 1, [], 0), (16, .aaload, 1, [], 0), (17, .aload_n 2, 1, [], 0), (18, .invokevirtual 27, 3, [0, 2, 68, 8, 805], 0), (21, .aload_n 0, 1, [], 0), (22, .getfield 18, 3, [4, 4, 440], 0), (25, .iload_n 1, 1, [], 0), (26, .iconst 1, 1, [], 0), (27, .bastore, 1, [], 0), (28, .iconst 1, 1, [], 0), (29, .ireturn, 1, [], 0)])
def pj_m39 : pj_M := (yX4_canReturnTo, cX4_canReturnTo, 3, some (.boolean), [1258, 98, 1256, 1257], [(0, .iload_n 1, 1, [], 0), (1, .ifCond .lt 53, 3, [54], 0), (4, .iload_n 1, 1, [], 0), (5, .iconst 3, 1, [], 0), (6, .if_icmp .ge 48, 3, [54], 0), (9, .aload_n 0, 1, [], 0), (10, .getfield 18, 3, [4, 4, 440], 0), (13, .iload_n 1, 1, [], 0), (14, .baload, 1, [], 0), (15, .ifCond .eq 39, 3, [54], 0), (18, .aload_n 0, 1, [], 0), (19, .getfield 15, 3, [4, 3, 438], 0), (22, .iload_n 1, 1, [], 0), (23, .aaload, 1, [], 0), (24, .getfield 43, 3, [8, 0, 225], 0), (27, .aload_n 2, 1, [], 0), (28, .getfield 43, 3, [8, 0, 225], 0), (31, .if_icmp .ne 23, 3, [54], 0), (34, .aload_n 0, 1, [], 0), (35, .getfield 15, 3, [4, 3, 438], 0), (38, .iload_n 1, 1, [], 0), (39, .aaload, 1, [], 0), (40, .getfield 46, 3, [8, 5, 244], 0), (43, .aload_n 2, 1, [], 0), (44, .getfield 46, 3, [8, 5, 244], 0), (47, .if_icmp .ne 7, 3, [54], 0), (50, .iconst 1, 1, [], 0), (51, .goto 4, 3, [55], 0), (54, .iconst 0, 1, [], 0), (55, .ireturn, 1, [], 0)])
def pj_m40 : pj_M := (yX5_init, cX5_init, 1, none, [170, 91, 169, 0], [(0, .aload_n 0, 1, [], 0), (1, .invokespecial 3, 3, [6, 1, 0, 0, 171, 118, 119], 0), (4, .aload_n 0, 1, [], 0), (5, .bipush 10, 2, [], 0), (7, .newarray .int, 2, [143], 0), (9, .putfield 9, 3, [5, 2, 181], 0), (12, .aload_n 0, 1, [], 0), (13, .bipush 10, 2, [], 0), (15, .newarray .int, 2, [143], 0), (17, .putfield 15, 3, [5, 3, 183], 0), (20, .aload_n 0, 1, [], 0), (21, .bipush 10, 2, [], 0), (23, .newarray .int, 2, [143], 0), (25, .putfield 18, 3, [5, 4, 185], 0), (28, .aload_n 0, 1, [], 0), (29, .bipush 10, 2, [], 0), (31, .newarray .int, 2, [143], 0), (33, .putfield 21, 3, [5, 5, 188], 0), (36, .aload_n 0, 1, [], 0), (37, .bipush 10, 2, [], 0), (39, .newarray .int, 2, [143], 0), (41, .putfield 24, 3, [5, 6, 193], 0), (44, .aload_n 0, 1, [], 0), (45, .bipush 10, 2, [], 0), (47, .newarray .int, 2, [143], 0), (49, .putfield 27, 3, [5, 7, 195], 0), (52, .return_, 1, [], 0)])
def pj_m41 : pj_M := (yX5_read, cX5_read, 3, none, [507, 91, 505, 506], [(0, .aload_n 0, 1, [], 0), (1, .iconst 2, 1, [], 0), (2, .aload_n 1, 1, [], 0), (3, .bipush 50, 2, [], 0), (5, .bipush 56, 2, [], 0), (7, .invokevirtual 30, 3, [0, 3, 83, 9, 508], 0), (10, .iadd, 1, [], 0), (11, .putfield 36, 3, [5, 0, 172], 0), (14, .aload_n 0, 1, [], 0), (15, .iconst 0, 1, [], 0), (16, .putfield 40, 3, [5, 1, 176], 0), (19, .iconst 0, 1, [], 0), (20, .istore_n 2, 1, [], 0), (21, .iload_n 2, 1, [], 0), (22, .bipush 10, 2, [], 0), (24, .if_icmp .ge 96, 3, [120], 0), (27, .aload_n 1, 1, [], 0), (28, .bipush 59, 2, [], 0), (30, .invokevirtual 43, 3, [0, 2, 82, 9, 520], 0), (33, .ifCond .eq 87, 3, [120], 0), (36, .aload_n 0, 1, [], 0), (37, .getfield 9, 3, [5, 2, 181], 0), (40, .iload_n 2, 1, [], 0), (41, .aload_n 1, 1, [], 0), (42, .iconst (-1), 1, [], 0), (43, .aload_n 0, 1, [], 0), (44, .getfield 36, 3, [5, 0, 172], 0), (47, .invokevirtual 47, 3, [0, 3, 87, 9, 524], 0), (50, .iastore, 1, [], 0), (51, .aload_n 0, 1, [], 0), (52, .getfield 15, 3, [5, 3, 183], 0), (55, .iload_n 2, 1, [], 0), (56, .aload_n 1, 1, [], 0), (57, .aload_n 0, 1, [], 0), (58, .getfield 9, 3, [5, 2, 181], 0), (61, .iload_n 2, 1, [], 0), (62, .iaload, 1, [], 0), (63, .aload_n 0, 1, [], 0), (64, .getfield 36, 3, [5, 0, 172], 0), (67, .invokevirtual 47, 3, [0, 3, 87, 9, 524], 0), (70, .iastore, 1, [], 0), (71, .aload_n 0, 1, [], 0), (72, .getfield 18, 3, [5, 4, 185], 0), (75, .iload_n 2, 1, [], 0), (76, .aload_n 1, 1, [], 0), (77, .iconst 2, 1, [], 0), (78, .invokevirtual 50, 3, [0, 2, 86, 9, 529], 0), (81, .iastore, 1, [], 0), (82, .aload_n 1, 1, [], 0), (83, .bipush 58, 2, [], 0), (85, .bipush 58, 2, [], 0), (87, .invokevirtual 30, 3, [0, 3, 83, 9, 508], 0), (90, .pop, 1, [], 0), (91, .aload_n 0, 1, [], 0), (92, .getfield 21, 3, [5, 5, 188], 0), (95, .iload_n 2, 1, [], 0), (96, .iconst 1, 1, [], 0), (97, .aload_n 1, 1, [], 0), (98, .bipush 49, 2, [], 0), (100, .bipush 57, 2, [], 0), (102, .invokevirtual 30, 3, [0, 3, 83, 9, 508], 0), (105, .iadd, 1, [], 0), (106, .iastore, 1, [], 0), (107, .aload_n 0, 1, [], 0), (108, .iload_n 2, 1, [], 0), (109, .iconst 1, 1, [], 0), (110, .iadd, 1, [], 0), (111, .putfield 40, 3, [5, 1, 176], 0), (114, .iinc 2 1, 3, [], 0), (117, .goto (-96), 3, [21], 0), (120, .return_, 1, [], 0)])
def pj_m42 : pj_M := (yX5_orderDown, cX5_orderDown, 4, none, [551, 91, 549, 550], [(0, .iconst 0, 1, [], 0), (1, .istore_n 1, 1, [], 0), (2, .iload_n 1, 1, [], 0), (3, .aload_n 0, 1, [], 0), (4, .getfield 40, 3, [5, 1, 176], 0), (7, .if_icmp .ge 79, 3, [86], 0), (10, .iconst 0, 1, [], 0), (11, .istore_n 2, 1, [], 0), (12, .iconst 0, 1, [], 0), (13, .istore_n 3, 1, [], 0), (14, .iload_n 3, 1, [], 0), (15, .aload_n 0, 1, [], 0), (16, .getfield 40, 3, [5, 1, 176], 0), (19, .if_icmp .ge 47, 3, [66], 0), (22, .aload_n 0, 1, [], 0), (23, .getfield 18, 3, [5, 4, 185], 0), (26, .iload_n 3, 1, [], 0), (27, .iaload, 1, [], 0), (28, .aload_n 0, 1, [], 0), (29, .getfield 18, 3, [5, 4, 185], 0), (32, .iload_n 1, 1, [], 0), (33, .iaload, 1, [], 0), (34, .if_icmp .lt 23, 3, [57], 0), (37, .aload_n 0, 1, [], 0), (38, .getfield 18, 3, [5, 4, 185], 0), (41, .iload_n 3, 1, [], 0), (42, .iaload, 1, [], 0), (43, .aload_n 0, 1, [], 0), (44, .getfield 18, 3, [5, 4, 185], 0), (47, .iload_n 1, 1, [], 0), (48, .iaload, 1, [], 0), (49, .if_icmp .ne 11, 3, [60], 0), (52, .iload_n 3, 1, [], 0), (53, .iload_n 1, 1, [], 0), (54, .if_icmp .ge 6, 3, [60], 0), (57, .iinc 2 1, 3, [], 0), (60, .iinc 3 1, 3, [], 0), (63, .goto (-49), 3, [14], 0), (66, .aload_n 0, 1, [], 0), (67, .getfield 24, 3, [5, 6, 193], 0), (70, .iload_n 1, 1, [], 0), (71, .iload_n 2, 1, [], 0), (72, .iastore, 1, [], 0), (73, .aload_n 0, 1, [], 0), (74, .getfield 27, 3, [5, 7, 195], 0), (77, .iload_n 2, 1, [], 0), (78, .iload_n 1, 1, [], 0), (79, .iastore, 1, [], 0), (80, .iinc 1 1, 3, [], 0), (83, .goto (-81), 3, [2], 0), (86, .return_, 1, [], 0)])
def pj_m43 : pj_M := (yX5_below, cX5_below, 2, some (.int), [1235, 91, 1233, 1234], [(0, .aload_n 0, 1, [], 0), (1, .getfield 24, 3, [5, 6, 193], 0), (4, .iload_n 1, 1, [], 0), (5, .iaload, 1, [], 0), (6, .iconst 1, 1, [], 0), (7, .iadd, 1, [], 0), (8, .aload_n 0, 1, [], 0), (9, .getfield 40, 3, [5, 1, 176], 0), (12, .if_icmp .ge 19, 3, [31], 0), (15, .aload_n 0, 1, [], 0), (16, .getfield 27, 3, [5, 7, 195], 0), (19, .aload_n 0, 1, [], 0), (20, .getfield 24, 3, [5, 6, 193], 0), (23, .iload_n 1, 1, [], 0), (24, .iaload, 1, [], 0), (25, .iconst 1, 1, [], 0), (26, .iadd, 1, [], 0), (27, .iaload, 1, [], 0), (28, .goto 4, 3, [32], 0), (31, .iconst (-1), 1, [], 0), (32, .ireturn, 1, [], 0)])
def pj_m44 : pj_M := (yX5_across, cX5_across, 3, some (.int), [846, 91, 844, 845], [(0, .aload_n 0, 1, [], 0), (1, .getfield 9, 3, [5, 2, 181], 0), (4, .iload_n 1, 1, [], 0), (5, .iaload, 1, [], 0), (6, .iload_n 2, 1, [], 0), (7, .if_icmp .ne 10, 3, [17], 0), (10, .aload_n 0, 1, [], 0), (11, .getfield 15, 3, [5, 3, 183], 0), (14, .iload_n 1, 1, [], 0), (15, .iaload, 1, [], 0), (16, .ireturn, 1, [], 0), (17, .aload_n 0, 1, [], 0), (18, .getfield 15, 3, [5, 3, 183], 0), (21, .iload_n 1, 1, [], 0), (22, .iaload, 1, [], 0), (23, .iload_n 2, 1, [], 0), (24, .if_icmp .ne 12, 3, [36], 0), (27, .aload_n 0, 1, [], 0), (28, .getfield 9, 3, [5, 2, 181], 0), (31, .iload_n 1, 1, [], 0), (32, .iaload, 1, [], 0), (33, .goto 4, 3, [37], 0), (36, .iconst (-1), 1, [], 0), (37, .ireturn, 1, [], 0)])
def pj_m45 : pj_M := (yX5_spread, cX5_spread, 5, some (.int), [939, 91, 937, 938], [(0, .iload_n 1, 1, [], 0), (1, .istore_n 3, 1, [], 0), (2, .iconst 0, 1, [], 0), (3, .istore 4, 2, [], 0), (5, .iload 4, 2, [], 0), (7, .aload_n 0, 1, [], 0), (8, .getfield 40, 3, [5, 1, 176], 0), (11, .if_icmp .ge 79, 3, [90], 0), (14, .iload_n 2, 1, [], 0), (15, .iload 4, 2, [], 0), (17, .invokestatic 54, 3, [2, 2, 163, 0, 933], 0), (20, .ifCond .eq 29, 3, [49], 0), (23, .iload_n 1, 1, [], 0), (24, .aload_n 0, 1, [], 0), (25, .getfield 9, 3, [5, 2, 181], 0), (28, .iload 4, 2, [], 0), (30, .iaload, 1, [], 0), (31, .invokestatic 54, 3, [2, 2, 163, 0, 933], 0), (34, .ifCond .eq 15, 3, [49], 0), (37, .iload_n 3, 1, [], 0), (38, .iconst 1, 1, [], 0), (39, .aload_n 0, 1, [], 0), (40, .getfield 15, 3, [5, 3, 183], 0), (43, .iload 4, 2, [], 0), (45, .iaload, 1, [], 0), (46, .ishl, 1, [], 0), (47, .ior, 1, [], 0), (48, .istore_n 3, 1, [], 0), (49, .iload_n 2, 1, [], 0), (50, .iload 4, 2, [], 0), (52, .invokestatic 54, 3, [2, 2, 163, 0, 933], 0), (55, .ifCond .eq 29, 3, [84], 0), (58, .iload_n 1, 1, [], 0), (59, .aload_n 0, 1, [], 0), (60, .getfield 15, 3, [5, 3, 183], 0), (63, .iload 4, 2, [], 0), (65, .iaload, 1, [], 0), (66, .invokestatic 54, 3, [2, 2, 163, 0, 933], 0), (69, .ifCond .eq 15, 3, [84], 0), (72, .iload_n 3, 1, [], 0), (73, .iconst 1, 1, [], 0), (74, .aload_n 0, 1, [], 0), (75, .getfield 9, 3, [5, 2, 181], 0), (78, .iload 4, 2, [], 0), (80, .iaload, 1, [], 0), (81, .ishl, 1, [], 0), (82, .ior, 1, [], 0), (83, .istore_n 3, 1, [], 0), (84, .iinc 4 1, 3, [], 0), (87, .goto (-82), 3, [5], 0), (90, .iload_n 3, 1, [], 0), (91, .ireturn, 1, [], 0)])
def pj_m46 : pj_M := (yX5_withinSteps, cX5_withinSteps, 6, some (.int), [948, 91, 946, 947], [(0, .iconst 1, 1, [], 0), (1, .iload_n 1, 1, [], 0), (2, .ishl, 1, [], 0), (3, .istore 4, 2, [], 0), (5, .iconst 0, 1, [], 0), (6, .istore 5, 2, [], 0), (8, .iload 5, 2, [], 0), (10, .iload_n 2, 1, [], 0), (11, .if_icmp .ge 18, 3, [29], 0), (14, .aload_n 0, 1, [], 0), (15, .iload 4, 2, [], 0), (17, .iload_n 3, 1, [], 0), (18, .invokevirtual 58, 3, [0, 3, 45, 5, 936], 0), (21, .istore 4, 2, [], 0), (23, .iinc 5 1, 3, [], 0), (26, .goto (-18), 3, [8], 0), (29, .iload 4, 2, [], 0), (31, .ireturn, 1, [], 0)])
def pj_m47 : pj_M := (yX5_reach, cX5_reach, 6, some (.int), [962, 91, 960, 961], [(0, .iconst 1, 1, [], 0), (1, .iload_n 1, 1, [], 0), (2, .ishl, 1, [], 0), (3, .istore_n 3, 1, [], 0), (4, .iconst 0, 1, [], 0), (5, .istore 4, 2, [], 0), (7, .iload 4, 2, [], 0), (9, .aload_n 0, 1, [], 0), (10, .getfield 36, 3, [5, 0, 172], 0), (13, .if_icmp .ge 28, 3, [41], 0), (16, .aload_n 0, 1, [], 0), (17, .iload_n 3, 1, [], 0), (18, .iload_n 2, 1, [], 0), (19, .invokevirtual 58, 3, [0, 3, 45, 5, 936], 0), (22, .istore 5, 2, [], 0), (24, .iload 5, 2, [], 0), (26, .iload_n 3, 1, [], 0), (27, .if_icmp .ne 5, 3, [32], 0), (30, .iload_n 3, 1, [], 0), (31, .ireturn, 1, [], 0), (32, .iload 5, 2, [], 0), (34, .istore_n 3, 1, [], 0), (35, .iinc 4 1, 3, [], 0), (38, .goto (-31), 3, [7], 0), (41, .iload_n 3, 1, [], 0), (42, .ireturn, 1, [], 0)])
def pj_m48 : pj_M := (yX5_leads, cX5_leads, 4, some (.boolean), [987, 91, 985, 986], [(0, .aload_n 0, 1, [], 0), (1, .iload_n 1, 1, [], 0), (2, .iload_n 3, 1, [], 0), (3, .invokevirtual 61, 3, [0, 3, 47, 5, 959], 0), (6, .iload_n 2, 1, [], 0), (7, .invokestatic 54, 3, [2, 2, 163, 0, 933], 0), (10, .ireturn, 1, [], 0)])
def pj_m49 : pj_M := (yX5_pairs, cX5_pairs, 7, some (.int), [958, 91, 956, 957], [(0, .iconst 0, 1, [], 0), (1, .istore_n 2, 1, [], 0), (2, .iconst 0, 1, [], 0), (3, .istore_n 3, 1, [], 0), (4, .iconst 0, 1, [], 0), (5, .istore 4, 2, [], 0), (7, .iload 4, 2, [], 0), (9, .aload_n 0, 1, [], 0), (10, .getfield 36, 3, [5, 0, 172], 0), (13, .if_icmp .ge 51, 3, [64], 0), (16, .iload_n 3, 1, [], 0), (17, .iload 4, 2, [], 0), (19, .invokestatic 54, 3, [2, 2, 163, 0, 933], 0), (22, .ifCond .ne 36, 3, [58], 0), (25, .aload_n 0, 1, [], 0), (26, .iload 4, 2, [], 0), (28, .iload_n 1, 1, [], 0), (29, .invokevirtual 61, 3, [0, 3, 47, 5, 959], 0), (32, .istore 5, 2, [], 0), (34, .iload 5, 2, [], 0), (36, .invokestatic 64, 3, [2, 1, 288, 0, 963], 0), (39, .istore 6, 2, [], 0), (41, .iload_n 2, 1, [], 0), (42, .iload 6, 2, [], 0), (44, .iload 6, 2, [], 0), (46, .iconst 1, 1, [], 0), (47, .isub, 1, [], 0), (48, .imul, 1, [], 0), (49, .iconst 2, 1, [], 0), (50, .idiv, 1, [], 0), (51, .iadd, 1, [], 0), (52, .istore_n 2, 1, [], 0), (53, .iload_n 3, 1, [], 0), (54, .iload 5, 2, [], 0), (56, .ior, 1, [], 0), (57, .istore_n 3, 1, [], 0), (58, .iinc 4 1, 3, [], 0), (61, .goto (-54), 3, [7], 0), (64, .iload_n 2, 1, [], 0), (65, .ireturn, 1, [], 0)])
def pj_m50 : pj_M := (yX5_steps, cX5_steps, 6, some (.int), [932, 91, 930, 931], [(0, .iconst 1, 1, [], 0), (1, .iload_n 1, 1, [], 0), (2, .ishl, 1, [], 0), (3, .istore 4, 2, [], 0), (5, .iconst 0, 1, [], 0), (6, .istore 5, 2, [], 0), (8, .iload 5, 2, [], 0), (10, .aload_n 0, 1, [], 0), (11, .getfield 36, 3, [5, 0, 172], 0), (14, .if_icmp .ge 30, 3, [44], 0), (17, .iload 4, 2, [], 0), (19, .iload_n 2, 1, [], 0), (20, .invokestatic 54, 3, [2, 2, 163, 0, 933], 0), (23, .ifCond .eq 6, 3, [29], 0), (26, .iload 5, 2, [], 0), (28, .ireturn, 1, [], 0), (29, .aload_n 0, 1, [], 0), (30, .iload 4, 2, [], 0), (32, .iload_n 3, 1, [], 0), (33, .invokevirtual 58, 3, [0, 3, 45, 5, 936], 0), (36, .istore 4, 2, [], 0), (38, .iinc 5 1, 3, [], 0), (41, .goto (-33), 3, [8], 0), (44, .iconst (-1), 1, [], 0), (45, .ireturn, 1, [], 0)])
def pj_m51 : pj_M := (yX5_tellWay, cX5_tellWay, 12, none, [944, 91, 942, 943], [(0, .iload_n 2, 1, [], 0), (1, .istore 6, 2, [], 0), (3, .iload 4, 2, [], 0), (5, .iconst 1, 1, [], 0), (6, .isub, 1, [], 0), (7, .istore 7, 2, [], 0), (9, .iload 7, 2, [], 0), (11, .ifCond .lt 100, 3, [111], 0), (14, .aload_n 0, 1, [], 0), (15, .iload_n 3, 1, [], 0), (16, .iload 7, 2, [], 0), (18, .iload 5, 2, [], 0), (20, .invokevirtual 69, 3, [0, 4, 46, 5, 945], 0), (23, .istore 8, 2, [], 0), (25, .iconst 0, 1, [], 0), (26, .istore 9, 2, [], 0), (28, .iconst 0, 1, [], 0), (29, .istore 10, 2, [], 0), (31, .iload 10, 2, [], 0), (33, .aload_n 0, 1, [], 0), (34, .getfield 40, 3, [5, 1, 176], 0), (37, .if_icmp .ge 68, 3, [105], 0), (40, .iload 9, 2, [], 0), (42, .ifCond .ne 63, 3, [105], 0), (45, .iload 5, 2, [], 0), (47, .iload 10, 2, [], 0), (49, .invokestatic 54, 3, [2, 2, 163, 0, 933], 0), (52, .ifCond .eq 14, 3, [66], 0), (55, .aload_n 0, 1, [], 0), (56, .iload 10, 2, [], 0), (58, .iload 6, 2, [], 0), (60, .invokevirtual 73, 3, [0, 3, 44, 5, 949], 0), (63, .goto 4, 3, [67], 0), (66, .iconst (-1), 1, [], 0), (67, .istore 11, 2, [], 0), (69, .iload 11, 2, [], 0), (71, .iconst (-1), 1, [], 0), (72, .if_icmp .eq 27, 3, [99], 0), (75, .iload 8, 2, [], 0), (77, .iload 11, 2, [], 0), (79, .invokestatic 54, 3, [2, 2, 163, 0, 933], 0), (82, .ifCond .eq 17, 3, [99], 0), (85, .aload_n 1, 1, [], 0), (86, .iload 10, 2, [], 0), (88, .i2l, 1, [], 0), (89, .invokevirtual 76, 3, [0, 2, 54, 6, 950], 0), (92, .iload 11, 2, [], 0), (94, .istore 6, 2, [], 0), (96, .iconst 1, 1, [], 0), (97, .istore 9, 2, [], 0), (99, .iinc 10 1, 3, [], 0), (102, .goto (-71), 3, [31], 0), (105, .iinc 7 (-1), 3, [], 0), (108, .goto (-99), 3, [9], 0), (111, .return_, 1, [], 0)])
def pj_m52 : pj_M := (yX6_init, cX6_init, 1, none, [148, 89, 147, 0], [(0, .aload_n 0, 1, [], 0), (1, .invokespecial 3, 3, [6, 1, 0, 0, 149, 118, 119], 0), (4, .aload_n 0, 1, [], 0), (5, .bipush 10, 2, [], 0), (7, .newarray .long, 2, [159], 0), (9, .putfield 9, 3, [6, 0, 150], 0), (12, .return_, 1, [], 0)])
def pj_m53 : pj_M := (yX6_clear, cX6_clear, 1, none, [871, 89, 869, 870], [(0, .aload_n 0, 1, [], 0), (1, .iconst 0, 1, [], 0), (2, .putfield 15, 3, [6, 1, 152], 0), (5, .return_, 1, [], 0)])
def pj_m54 : pj_M := (yX6_add, cX6_add, 3, none, [875, 89, 873, 874], [(0, .aload_n 0, 1, [], 0), (1, .getfield 15, 3, [6, 1, 152], 0), (4, .aload_n 0, 1, [], 0), (5, .getfield 9, 3, [6, 0, 150], 0), (8, .arraylength, 1, [], 0), (9, .if_icmp .ge 23, 3, [32], 0), (12, .aload_n 0, 1, [], 0), (13, .getfield 9, 3, [6, 0, 150], 0), (16, .aload_n 0, 1, [], 0), (17, .getfield 15, 3, [6, 1, 152], 0), (20, .lload_n 1, 1, [], 0), (21, .lastore, 1, [], 0), (22, .aload_n 0, 1, [], 0), (23, .dup, 1, [], 0), (24, .getfield 15, 3, [6, 1, 152], 0), (27, .iconst 1, 1, [], 0), (28, .iadd, 1, [], 0), (29, .putfield 15, 3, [6, 1, 152], 0), (32, .return_, 1, [], 0)])
def pj_m55 : pj_M := (yX6_tellOne, cX6_tellOne, 3, none, [972, 89, 970, 971], [(0, .aload_n 0, 1, [], 0), (1, .invokevirtual 19, 3, [0, 1, 53, 6, 868], 0), (4, .aload_n 0, 1, [], 0), (5, .lload_n 1, 1, [], 0), (6, .invokevirtual 22, 3, [0, 2, 54, 6, 872], 0), (9, .return_, 1, [], 0)])
def pj_m56 : pj_M := (yX6_tellTwo, cX6_tellTwo, 5, none, [867, 89, 865, 866], [(0, .aload_n 0, 1, [], 0), (1, .invokevirtual 19, 3, [0, 1, 53, 6, 868], 0), (4, .aload_n 0, 1, [], 0), (5, .lload_n 1, 1, [], 0), (6, .invokevirtual 22, 3, [0, 2, 54, 6, 872], 0), (9, .aload_n 0, 1, [], 0), (10, .lload_n 3, 1, [], 0), (11, .invokevirtual 22, 3, [0, 2, 54, 6, 872], 0), (14, .return_, 1, [], 0)])
def pj_m57 : pj_M := (yX7_init, cX7_init, 1, none, [278, 93, 277, 0], [(0, .aload_n 0, 1, [], 0), (1, .invokespecial 3, 3, [6, 1, 0, 0, 279, 118, 119], 0), (4, .aload_n 0, 1, [], 0), (5, .bipush 40, 2, [], 0), (7, .newarray .int, 2, [143], 0), (9, .putfield 9, 3, [7, 0, 280], 0), (12, .aload_n 0, 1, [], 0), (13, .bipush 40, 2, [], 0), (15, .newarray .int, 2, [143], 0), (17, .putfield 15, 3, [7, 2, 282], 0), (20, .aload_n 0, 1, [], 0), (21, .bipush 40, 2, [], 0), (23, .newarray .int, 2, [143], 0), (25, .putfield 18, 3, [7, 4, 284], 0), (28, .return_, 1, [], 0)])
def pj_m58 : pj_M := (yX7_read, cX7_read, 2, none, [593, 93, 591, 592], [(0, .aload_n 0, 1, [], 0), (1, .iconst 0, 1, [], 0), (2, .putfield 21, 3, [7, 3, 283], 0), (5, .aload_n 1, 1, [], 0), (6, .invokevirtual 25, 3, [0, 1, 80, 9, 594], 0), (9, .iconst (-1), 1, [], 0), (10, .if_icmp .eq 10, 3, [20], 0), (13, .aload_n 0, 1, [], 0), (14, .aload_n 1, 1, [], 0), (15, .iconst 0, 1, [], 0), (16, .iconst 0, 1, [], 0), (17, .invokevirtual 31, 3, [0, 4, 62, 7, 595], 0), (20, .return_, 1, [], 0)])
def pj_m59 : pj_M := (yX7_adopt, cX7_adopt, 2, none, [736, 93, 734, 735], [(0, .aload_n 0, 1, [], 0), (1, .getfield 9, 3, [7, 0, 280], 0), (4, .astore_n 1, 1, [], 0), (5, .aload_n 0, 1, [], 0), (6, .aload_n 0, 1, [], 0), (7, .getfield 15, 3, [7, 2, 282], 0), (10, .putfield 9, 3, [7, 0, 280], 0), (13, .aload_n 0, 1, [], 0), (14, .aload_n 0, 1, [], 0), (15, .getfield 21, 3, [7, 3, 283], 0), (18, .putfield 35, 3, [7, 1, 281], 0), (21, .aload_n 0, 1, [], 0), (22, .aload_n 1, 1, [], 0), (23, .putfield 15, 3, [7, 2, 282], 0), (26, .return_, 1, [], 0)])
def pj_m60 : pj_M := (yX7_emit, cX7_emit, 2, none, [613, 93, 612, 4], [(0, .aload_n 0, 1, [], 0), (1, .getfield 21, 3, [7, 3, 283], 0), (4, .bipush 40, 2, [], 0), (6, .if_icmp .ge 23, 3, [29], 0), (9, .aload_n 0, 1, [], 0), (10, .getfield 15, 3, [7, 2, 282], 0), (13, .aload_n 0, 1, [], 0), (14, .getfield 21, 3, [7, 3, 283], 0), (17, .iload_n 1, 1, [], 0), (18, .iastore, 1, [], 0), (19, .aload_n 0, 1, [], 0), (20, .dup, 1, [], 0), (21, .getfield 21, 3, [7, 3, 283], 0), (24, .iconst 1, 1, [], 0), (25, .iadd, 1, [], 0), (26, .putfield 21, 3, [7, 3, 283], 0), (29, .return_, 1, [], 0)])
def pj_m61 : pj_M := (yX7_signsOf, cX7_signsOf, 1, some (.object "java/lang/String"), [729, 93, 728, 0], [(0, .iload_n 0, 1, [], 0), (1, .lookupswitch 33 #[(0, 27), (1, 30)], 27, [], 0), (28, .ldc 38, 2, [1, 5], 0), (30, .areturn, 1, [], 0), (31, .ldc 40, 2, [1, 6], 0), (33, .areturn, 1, [], 0), (34, .ldc 42, 2, [1, 7], 0), (36, .areturn, 1, [], 0)])
def pj_m62 : pj_M := (yX7_readLevel, cX7_readLevel, 7, none, [598, 93, 597, 1], [(0, .iload_n 2, 1, [], 0), (1, .iconst 2, 1, [], 0), (2, .if_icmp .le 10, 3, [12], 0), (5, .aload_n 0, 1, [], 0), (6, .aload_n 1, 1, [], 0), (7, .iload_n 3, 1, [], 0), (8, .invokevirtual 44, 3, [0, 3, 63, 7, 599], 0), (11, .return_, 1, [], 0), (12, .aload_n 0, 1, [], 0), (13, .aload_n 1, 1, [], 0), (14, .iload_n 2, 1, [], 0), (15, .iconst 1, 1, [], 0), (16, .iadd, 1, [], 0), (17, .iload_n 3, 1, [], 0), (18, .invokevirtual 31, 3, [0, 4, 62, 7, 595], 0), (21, .iload_n 2, 1, [], 0), (22, .ifCond .ne 7, 3, [29], 0), (25, .iconst 1, 1, [], 0), (26, .goto 5, 3, [31], 0), (29, .bipush 40, 2, [], 0), (31, .istore 4, 2, [], 0), (33, .iconst 0, 1, [], 0), (34, .istore 5, 2, [], 0), (36, .iload 5, 2, [], 0), (38, .iload 4, 2, [], 0), (40, .if_icmp .ge 45, 3, [85], 0), (43, .aload_n 1, 1, [], 0), (44, .iload_n 2, 1, [], 0), (45, .invokestatic 48, 3, [2, 1, 61, 0, 727], 0), (48, .invokevirtual 52, 3, [0, 2, 84, 9, 616], 0), (51, .istore 6, 2, [], 0), (53, .iload 6, 2, [], 0), (55, .iconst (-1), 1, [], 0), (56, .if_icmp .ne 4, 3, [60], 0), (59, .return_, 1, [], 0), (60, .aload_n 0, 1, [], 0), (61, .aload_n 1, 1, [], 0), (62, .iload_n 2, 1, [], 0), (63, .iconst 1, 1, [], 0), (64, .iadd, 1, [], 0), (65, .iload_n 3, 1, [], 0), (66, .invokevirtual 31, 3, [0, 4, 62, 7, 595], 0), (69, .aload_n 0, 1, [], 0), (70, .sipush 3000, 3, [], 0), (73, .iload 6, 2, [], 0), (75, .iadd, 1, [], 0), (76, .invokevirtual 56, 3, [0, 2, 60, 7, 610], 0), (79, .iinc 5 1, 3, [], 0), (82, .goto (-46), 3, [36], 0), (85, .return_, 1, [], 0)])
def pj_m63 : pj_M := (yX7_readSigned, cX7_readSigned, 5, none, [602, 93, 601, 2], [(0, .iconst 0, 1, [], 0), (1, .istore_n 3, 1, [], 0), (2, .iconst 0, 1, [], 0), (3, .istore 4, 2, [], 0), (5, .iload 4, 2, [], 0), (7, .bipush 40, 2, [], 0), (9, .if_icmp .ge 28, 3, [37], 0), (12, .aload_n 1, 1, [], 0), (13, .bipush 45, 2, [], 0), (15, .invokevirtual 60, 3, [0, 2, 82, 9, 603], 0), (18, .ifCond .eq 19, 3, [37], 0), (21, .iload_n 3, 1, [], 0), (22, .ifCond .ne 7, 3, [29], 0), (25, .iconst 1, 1, [], 0), (26, .goto 4, 3, [30], 0), (29, .iconst 0, 1, [], 0), (30, .istore_n 3, 1, [], 0), (31, .iinc 4 1, 3, [], 0), (34, .goto (-29), 3, [5], 0), (37, .aload_n 0, 1, [], 0), (38, .aload_n 1, 1, [], 0), (39, .iload_n 2, 1, [], 0), (40, .invokevirtual 64, 3, [0, 3, 64, 7, 604], 0), (43, .iload_n 3, 1, [], 0), (44, .ifCond .eq 10, 3, [54], 0), (47, .aload_n 0, 1, [], 0), (48, .sipush 2000, 3, [], 0), (51, .invokevirtual 56, 3, [0, 2, 60, 7, 610], 0), (54, .return_, 1, [], 0)])
def pj_m64 : pj_M := (yX7_readThing, cX7_readThing, 4, none, [607, 93, 606, 3], [(0, .aload_n 1, 1, [], 0), (1, .invokevirtual 67, 3, [0, 1, 85, 9, 608], 0), (4, .ifCond .eq 15, 3, [19], 0), (7, .aload_n 0, 1, [], 0), (8, .aload_n 1, 1, [], 0), (9, .iconst 3, 1, [], 0), (10, .invokevirtual 71, 3, [0, 2, 86, 9, 609], 0), (13, .invokevirtual 56, 3, [0, 2, 60, 7, 610], 0), (16, .goto 72, 3, [88], 0), (19, .iload_n 2, 1, [], 0), (20, .iconst 4, 1, [], 0), (21, .if_icmp .ge 33, 3, [54], 0), (24, .aload_n 1, 1, [], 0), (25, .bipush 40, 2, [], 0), (27, .invokevirtual 60, 3, [0, 2, 82, 9, 603], 0), (30, .ifCond .eq 24, 3, [54], 0), (33, .aload_n 0, 1, [], 0), (34, .aload_n 1, 1, [], 0), (35, .iconst 0, 1, [], 0), (36, .iload_n 2, 1, [], 0), (37, .iconst 1, 1, [], 0), (38, .iadd, 1, [], 0), (39, .invokevirtual 31, 3, [0, 4, 62, 7, 595], 0), (42, .aload_n 1, 1, [], 0), (43, .bipush 41, 2, [], 0), (45, .bipush 41, 2, [], 0), (47, .invokevirtual 75, 3, [0, 3, 83, 9, 614], 0), (50, .pop, 1, [], 0), (51, .goto 37, 3, [88], 0), (54, .aload_n 1, 1, [], 0), (55, .ldc 79, 2, [1, 8], 0), (57, .invokevirtual 52, 3, [0, 2, 84, 9, 616], 0), (60, .istore_n 3, 1, [], 0), (61, .iload_n 3, 1, [], 0), (62, .iconst (-1), 1, [], 0), (63, .if_icmp .ne 10, 3, [73], 0), (66, .aload_n 1, 1, [], 0), (67, .invokevirtual 81, 3, [0, 1, 81, 9, 669], 0), (70, .goto 18, 3, [88], 0), (73, .aload_n 0, 1, [], 0), (74, .sipush 1000, 3, [], 0), (77, .ldc 79, 2, [1, 8], 0), (79, .iload_n 3, 1, [], 0), (80, .i2c, 1, [], 0), (81, .invokevirtual 84, 3, [8, 2, 291, 0, 670], 0), (84, .iadd, 1, [], 0), (85, .invokevirtual 56, 3, [0, 2, 60, 7, 610], 0), (88, .return_, 1, [], 0)])
def pj_m65 : pj_M := (yX7_reckon, cX7_reckon, 5, some (.int), [793, 93, 791, 792], [(0, .aload_n 0, 1, [], 0), (1, .getfield 35, 3, [7, 1, 281], 0), (4, .ifCond .ne 18, 3, [22], 0), (7, .aload_n 1, 1, [], 0), (8, .iconst 0, 1, [], 0), (9, .iaload, 1, [], 0), (10, .bipush 9, 2, [], 0), (12, .idiv, 1, [], 0), (13, .aload_n 1, 1, [], 0), (14, .iconst 1, 1, [], 0), (15, .iaload, 1, [], 0), (16, .iconst 2, 1, [], 0), (17, .imul, 1, [], 0), (18, .iadd, 1, [], 0), (19, .iconst 1, 1, [], 0), (20, .iadd, 1, [], 0), (21, .ireturn, 1, [], 0), (22, .iconst 0, 1, [], 0), (23, .istore_n 2, 1, [], 0), (24, .iconst 0, 1, [], 0), (25, .istore_n 3, 1, [], 0), (26, .iload_n 3, 1, [], 0), (27, .aload_n 0, 1, [], 0), (28, .getfield 35, 3, [7, 1, 281], 0), (31, .if_icmp .ge 135, 3, [166], 0), (34, .aload_n 0, 1, [], 0), (35, .getfield 9, 3, [7, 0, 280], 0), (38, .iload_n 3, 1, [], 0), (39, .iaload, 1, [], 0), (40, .istore 4, 2, [], 0), (42, .iload 4, 2, [], 0), (44, .sipush 2000, 3, [], 0), (47, .if_icmp .ge 42, 3, [89], 0), (50, .iload_n 2, 1, [], 0), (51, .bipush 40, 2, [], 0), (53, .if_icmp .ge 36, 3, [89], 0), (56, .aload_n 0, 1, [], 0), (57, .getfield 18, 3, [7, 4, 284], 0), (60, .iload_n 2, 1, [], 0), (61, .iload 4, 2, [], 0), (63, .sipush 1000, 3, [], 0), (66, .if_icmp .ge 8, 3, [74], 0), (69, .iload 4, 2, [], 0), (71, .goto 11, 3, [82], 0), (74, .aload_n 1, 1, [], 0), (75, .iload 4, 2, [], 0), (77, .sipush 1000, 3, [], 0), (80, .isub, 1, [], 0), (81, .iaload, 1, [], 0), (82, .iastore, 1, [], 0), (83, .iinc 2 1, 3, [], 0), (86, .goto 74, 3, [160], 0), (89, .iload 4, 2, [], 0), (91, .sipush 2000, 3, [], 0), (94, .if_icmp .ne 27, 3, [121], 0), (97, .iload_n 2, 1, [], 0), (98, .ifCond .le 23, 3, [121], 0), (101, .aload_n 0, 1, [], 0), (102, .getfield 18, 3, [7, 4, 284], 0), (105, .iload_n 2, 1, [], 0), (106, .iconst 1, 1, [], 0), (107, .isub, 1, [], 0), (108, .aload_n 0, 1, [], 0), (109, .getfield 18, 3, [7, 4, 284], 0), (112, .iload_n 2, 1, [], 0), (113, .iconst 1, 1, [], 0), (114, .isub, 1, [], 0), (115, .iaload, 1, [], 0), (116, .ineg, 1, [], 0), (117, .iastore, 1, [], 0), (118, .goto 42, 3, [160], 0), (121, .iload_n 2, 1, [], 0), (122, .iconst 1, 1, [], 0), (123, .if_icmp .le 37, 3, [160], 0), (126, .iinc 2 (-1), 3, [], 0), (129, .aload_n 0, 1, [], 0), (130, .getfield 18, 3, [7, 4, 284], 0), (133, .iload_n 2, 1, [], 0), (134, .iconst 1, 1, [], 0), (135, .isub, 1, [], 0), (136, .iload 4, 2, [], 0), (138, .sipush 3000, 3, [], 0), (141, .isub, 1, [], 0), (142, .aload_n 0, 1, [], 0), (143, .getfield 18, 3, [7, 4, 284], 0), (146, .iload_n 2, 1, [], 0), (147, .iconst 1, 1, [], 0), (148, .isub, 1, [], 0), (149, .iaload, 1, [], 0), (150, .aload_n 0, 1, [], 0), (151, .getfield 18, 3, [7, 4, 284], 0), (154, .iload_n 2, 1, [], 0), (155, .iaload, 1, [], 0), (156, .invokestatic 89, 3, [2, 3, 66, 0, 794], 0), (159, .iastore, 1, [], 0), (160, .iinc 3 1, 3, [], 0), (163, .goto (-137), 3, [26], 0), (166, .aload_n 0, 1, [], 0), (167, .getfield 18, 3, [7, 4, 284], 0), (170, .iconst 0, 1, [], 0), (171, .iaload, 1, [], 0), (172, .ireturn, 1, [], 0)])
def pj_m66 : pj_M := (yX7_apply, cX7_apply, 3, some (.int), [796, 93, 795, 0], [(0, .iload_n 0, 1, [], 0), (1, .lookupswitch 105 #[(42, 67), (43, 59), (45, 63), (47, 71), (60, 83), (62, 94)], 59, [], 0), (60, .iload_n 1, 1, [], 0), (61, .iload_n 2, 1, [], 0), (62, .iadd, 1, [], 0), (63, .ireturn, 1, [], 0), (64, .iload_n 1, 1, [], 0), (65, .iload_n 2, 1, [], 0), (66, .isub, 1, [], 0), (67, .ireturn, 1, [], 0), (68, .iload_n 1, 1, [], 0), (69, .iload_n 2, 1, [], 0), (70, .imul, 1, [], 0), (71, .ireturn, 1, [], 0), (72, .iload_n 2, 1, [], 0), (73, .ifCond .ne 7, 3, [80], 0), (76, .iconst 0, 1, [], 0), (77, .goto 6, 3, [83], 0), (80, .iload_n 1, 1, [], 0), (81, .iload_n 2, 1, [], 0), (82, .idiv, 1, [], 0), (83, .ireturn, 1, [], 0), (84, .iload_n 1, 1, [], 0), (85, .iload_n 2, 1, [], 0), (86, .if_icmp .ge 7, 3, [93], 0), (89, .iconst 1, 1, [], 0), (90, .goto 4, 3, [94], 0), (93, .iconst 0, 1, [], 0), (94, .ireturn, 1, [], 0), (95, .iload_n 1, 1, [], 0), (96, .iload_n 2, 1, [], 0), (97, .if_icmp .le 7, 3, [104], 0), (100, .iconst 1, 1, [], 0), (101, .goto 4, 3, [105], 0), (104, .iconst 0, 1, [], 0), (105, .ireturn, 1, [], 0), (106, .iload_n 1, 1, [], 0), (107, .iload_n 2, 1, [], 0), (108, .if_icmp .ne 7, 3, [115], 0), (111, .iconst 1, 1, [], 0), (112, .goto 4, 3, [116], 0), (115, .iconst 0, 1, [], 0), (116, .ireturn, 1, [], 0)])
def pj_m67 : pj_M := (yX8_init, cX8_init, 1, none, [218, 92, 217, 0], [(0, .aload_n 0, 1, [], 0), (1, .invokespecial 3, 3, [6, 1, 0, 0, 219, 118, 119], 0), (4, .aload_n 0, 1, [], 0), (5, .bipush 6, 2, [], 0), (7, .newarray .int, 2, [143], 0), (9, .putfield 9, 3, [8, 1, 227], 0), (12, .aload_n 0, 1, [], 0), (13, .bipush 6, 2, [], 0), (15, .newarray .int, 2, [143], 0), (17, .putfield 15, 3, [8, 2, 231], 0), (20, .aload_n 0, 1, [], 0), (21, .bipush 6, 2, [], 0), (23, .newarray .int, 2, [143], 0), (25, .putfield 18, 3, [8, 3, 234], 0), (28, .aload_n 0, 1, [], 0), (29, .bipush 6, 2, [], 0), (31, .newarray .int, 2, [143], 0), (33, .putfield 21, 3, [8, 4, 238], 0), (36, .aload_n 0, 1, [], 0), (37, .bipush 6, 2, [], 0), (39, .newarray .int, 2, [143], 0), (41, .putfield 24, 3, [8, 6, 245], 0), (44, .return_, 1, [], 0)])
def pj_m68 : pj_M := (yX8_become, cX8_become, 2, none, [808, 92, 806, 807], [(0, .aload_n 0, 1, [], 0), (1, .aload_n 1, 1, [], 0), (2, .getfield 27, 3, [8, 0, 220], 0), (5, .putfield 27, 3, [8, 0, 220], 0), (8, .aload_n 1, 1, [], 0), (9, .getfield 9, 3, [8, 1, 227], 0), (12, .iconst 0, 1, [], 0), (13, .aload_n 0, 1, [], 0), (14, .getfield 9, 3, [8, 1, 227], 0), (17, .iconst 0, 1, [], 0), (18, .bipush 6, 2, [], 0), (20, .invokestatic 31, 3, [7, 5, 0, 0, 809, 811, 810, 110], 0), (23, .aload_n 1, 1, [], 0), (24, .getfield 15, 3, [8, 2, 231], 0), (27, .iconst 0, 1, [], 0), (28, .aload_n 0, 1, [], 0), (29, .getfield 15, 3, [8, 2, 231], 0), (32, .iconst 0, 1, [], 0), (33, .bipush 6, 2, [], 0), (35, .invokestatic 31, 3, [7, 5, 0, 0, 809, 811, 810, 110], 0), (38, .aload_n 1, 1, [], 0), (39, .getfield 18, 3, [8, 3, 234], 0), (42, .iconst 0, 1, [], 0), (43, .aload_n 0, 1, [], 0), (44, .getfield 18, 3, [8, 3, 234], 0), (47, .iconst 0, 1, [], 0), (48, .bipush 6, 2, [], 0), (50, .invokestatic 31, 3, [7, 5, 0, 0, 809, 811, 810, 110], 0), (53, .aload_n 1, 1, [], 0), (54, .getfield 21, 3, [8, 4, 238], 0), (57, .iconst 0, 1, [], 0), (58, .aload_n 0, 1, [], 0), (59, .getfield 21, 3, [8, 4, 238], 0), (62, .iconst 0, 1, [], 0), (63, .bipush 6, 2, [], 0), (65, .invokestatic 31, 3, [7, 5, 0, 0, 809, 811, 810, 110], 0), (68, .aload_n 0, 1, [], 0), (69, .aload_n 1, 1, [], 0), (70, .getfield 37, 3, [8, 5, 242], 0), (73, .putfield 37, 3, [8, 5, 242], 0), (76, .aload_n 1, 1, [], 0), (77, .getfield 24, 3, [8, 6, 245], 0), (80, .iconst 0, 1, [], 0), (81, .aload_n 0, 1, [], 0), (82, .getfield 24, 3, [8, 6, 245], 0), (85, .iconst 0, 1, [], 0), (86, .bipush 6, 2, [], 0), (88, .invokestatic 31, 3, [7, 5, 0, 0, 809, 811, 810, 110], 0), (91, .aload_n 0, 1, [], 0), (92, .aload_n 1, 1, [], 0), (93, .getfield 40, 3, [8, 7, 249], 0), (96, .putfield 40, 3, [8, 7, 249], 0), (99, .aload_n 0, 1, [], 0), (100, .aload_n 1, 1, [], 0), (101, .getfield 43, 3, [8, 8, 252], 0), (104, .putfield 43, 3, [8, 8, 252], 0), (107, .return_, 1, [], 0)])
def pj_m69 : pj_M := (yX8_lies, cX8_lies, 2, some (.boolean), [1018, 92, 1016, 1017], [(0, .aload_n 0, 1, [], 0), (1, .getfield 9, 3, [8, 1, 227], 0), (4, .iload_n 1, 1, [], 0), (5, .iaload, 1, [], 0), (6, .iconst (-1), 1, [], 0), (7, .if_icmp .eq 16, 3, [23], 0), (10, .aload_n 0, 1, [], 0), (11, .getfield 15, 3, [8, 2, 231], 0), (14, .iload_n 1, 1, [], 0), (15, .iaload, 1, [], 0), (16, .ifCond .ne 7, 3, [23], 0), (19, .iconst 1, 1, [], 0), (20, .goto 4, 3, [24], 0), (23, .iconst 0, 1, [], 0), (24, .ireturn, 1, [], 0)])
def pj_m70 : pj_M := (yX8_lyingAt, cX8_lyingAt, 3, some (.int), [774, 92, 772, 773], [(0, .iconst 0, 1, [], 0), (1, .istore_n 2, 1, [], 0), (2, .iload_n 2, 1, [], 0), (3, .aload_n 0, 1, [], 0), (4, .getfield 27, 3, [8, 0, 220], 0), (7, .if_icmp .ge 30, 3, [37], 0), (10, .aload_n 0, 1, [], 0), (11, .getfield 9, 3, [8, 1, 227], 0), (14, .iload_n 2, 1, [], 0), (15, .iaload, 1, [], 0), (16, .iload_n 1, 1, [], 0), (17, .if_icmp .ne 14, 3, [31], 0), (20, .aload_n 0, 1, [], 0), (21, .getfield 15, 3, [8, 2, 231], 0), (24, .iload_n 2, 1, [], 0), (25, .iaload, 1, [], 0), (26, .ifCond .ne 5, 3, [31], 0), (29, .iload_n 2, 1, [], 0), (30, .ireturn, 1, [], 0), (31, .iinc 2 1, 3, [], 0), (34, .goto (-32), 3, [2], 0), (37, .iconst (-1), 1, [], 0), (38, .ireturn, 1, [], 0)])
def pj_m71 : pj_M := (yX8_comingTo, cX8_comingTo, 3, some (.int), [778, 92, 776, 777], [(0, .iconst 0, 1, [], 0), (1, .istore_n 2, 1, [], 0), (2, .iload_n 2, 1, [], 0), (3, .aload_n 0, 1, [], 0), (4, .getfield 27, 3, [8, 0, 220], 0), (7, .if_icmp .ge 30, 3, [37], 0), (10, .aload_n 0, 1, [], 0), (11, .getfield 9, 3, [8, 1, 227], 0), (14, .iload_n 2, 1, [], 0), (15, .iaload, 1, [], 0), (16, .iload_n 1, 1, [], 0), (17, .if_icmp .ne 14, 3, [31], 0), (20, .aload_n 0, 1, [], 0), (21, .getfield 15, 3, [8, 2, 231], 0), (24, .iload_n 2, 1, [], 0), (25, .iaload, 1, [], 0), (26, .ifCond .le 5, 3, [31], 0), (29, .iload_n 2, 1, [], 0), (30, .ireturn, 1, [], 0), (31, .iinc 2 1, 3, [], 0), (34, .goto (-32), 3, [2], 0), (37, .iconst (-1), 1, [], 0), (38, .ireturn, 1, [], 0)])
def pj_m72 : pj_M := (yX8_isFree, cX8_isFree, 2, some (.boolean), [770, 92, 768, 769], [(0, .aload_n 0, 1, [], 0), (1, .iload_n 1, 1, [], 0), (2, .invokevirtual 46, 3, [0, 2, 70, 8, 771], 0), (5, .iconst (-1), 1, [], 0), (6, .if_icmp .ne 16, 3, [22], 0), (9, .aload_n 0, 1, [], 0), (10, .iload_n 1, 1, [], 0), (11, .invokevirtual 50, 3, [0, 2, 71, 8, 775], 0), (14, .iconst (-1), 1, [], 0), (15, .if_icmp .ne 7, 3, [22], 0), (18, .iconst 1, 1, [], 0), (19, .goto 4, 3, [23], 0), (22, .iconst 0, 1, [], 0), (23, .ireturn, 1, [], 0)])
def pj_m73 : pj_M := (yX8_inShed, cX8_inShed, 3, some (.int), [1266, 92, 1264, 1265], [(0, .iconst 0, 1, [], 0), (1, .istore_n 1, 1, [], 0), (2, .iconst 0, 1, [], 0), (3, .istore_n 2, 1, [], 0), (4, .iload_n 2, 1, [], 0), (5, .aload_n 0, 1, [], 0), (6, .getfield 27, 3, [8, 0, 220], 0), (9, .if_icmp .ge 38, 3, [47], 0), (12, .iload_n 1, 1, [], 0), (13, .aload_n 0, 1, [], 0), (14, .getfield 9, 3, [8, 1, 227], 0), (17, .iload_n 2, 1, [], 0), (18, .iaload, 1, [], 0), (19, .iconst (-1), 1, [], 0), (20, .if_icmp .ne 18, 3, [38], 0), (23, .aload_n 0, 1, [], 0), (24, .getfield 15, 3, [8, 2, 231], 0), (27, .iload_n 2, 1, [], 0), (28, .iaload, 1, [], 0), (29, .ifCond .ne 9, 3, [38], 0), (32, .iconst 1, 1, [], 0), (33, .iload_n 2, 1, [], 0), (34, .ishl, 1, [], 0), (35, .goto 4, 3, [39], 0), (38, .iconst 0, 1, [], 0), (39, .ior, 1, [], 0), (40, .istore_n 1, 1, [], 0), (41, .iinc 2 1, 3, [], 0), (44, .goto (-40), 3, [4], 0), (47, .iload_n 1, 1, [], 0), (48, .ireturn, 1, [], 0)])
def pj_m74 : pj_M := (yX8_underTow, cX8_underTow, 3, some (.int), [1270, 92, 1268, 1269], [(0, .iconst 0, 1, [], 0), (1, .istore_n 1, 1, [], 0), (2, .iconst 0, 1, [], 0), (3, .istore_n 2, 1, [], 0), (4, .iload_n 2, 1, [], 0), (5, .aload_n 0, 1, [], 0), (6, .getfield 27, 3, [8, 0, 220], 0), (9, .if_icmp .ge 28, 3, [37], 0), (12, .iload_n 1, 1, [], 0), (13, .aload_n 0, 1, [], 0), (14, .getfield 15, 3, [8, 2, 231], 0), (17, .iload_n 2, 1, [], 0), (18, .iaload, 1, [], 0), (19, .ifCond .le 9, 3, [28], 0), (22, .iconst 1, 1, [], 0), (23, .iload_n 2, 1, [], 0), (24, .ishl, 1, [], 0), (25, .goto 4, 3, [29], 0), (28, .iconst 0, 1, [], 0), (29, .ior, 1, [], 0), (30, .istore_n 1, 1, [], 0), (31, .iinc 2 1, 3, [], 0), (34, .goto (-30), 3, [4], 0), (37, .iload_n 1, 1, [], 0), (38, .ireturn, 1, [], 0)])
def pj_m75 : pj_M := (yX8_lent, cX8_lent, 3, some (.int), [1274, 92, 1272, 1273], [(0, .iconst 0, 1, [], 0), (1, .istore_n 1, 1, [], 0), (2, .iconst 0, 1, [], 0), (3, .istore_n 2, 1, [], 0), (4, .iload_n 2, 1, [], 0), (5, .aload_n 0, 1, [], 0), (6, .getfield 27, 3, [8, 0, 220], 0), (9, .if_icmp .ge 29, 3, [38], 0), (12, .iload_n 1, 1, [], 0), (13, .aload_n 0, 1, [], 0), (14, .getfield 21, 3, [8, 4, 238], 0), (17, .iload_n 2, 1, [], 0), (18, .iaload, 1, [], 0), (19, .iconst (-1), 1, [], 0), (20, .if_icmp .eq 9, 3, [29], 0), (23, .iconst 1, 1, [], 0), (24, .iload_n 2, 1, [], 0), (25, .ishl, 1, [], 0), (26, .goto 4, 3, [30], 0), (29, .iconst 0, 1, [], 0), (30, .ior, 1, [], 0), (31, .istore_n 1, 1, [], 0), (32, .iinc 2 1, 3, [], 0), (35, .goto (-31), 3, [4], 0), (38, .iload_n 1, 1, [], 0), (39, .ireturn, 1, [], 0)])
def pj_m76 : pj_M := (yX9_init, cX9_init, 1, none, [124, 88, 123, 0], [(0, .aload_n 0, 1, [], 0), (1, .invokespecial 3, 3, [6, 1, 0, 0, 125, 118, 119], 0), (4, .aload_n 0, 1, [], 0), (5, .bipush 80, 2, [], 0), (7, .newarray .int, 2, [143], 0), (9, .putfield 9, 3, [9, 0, 126], 0), (12, .aload_n 0, 1, [], 0), (13, .iconst (-1), 1, [], 0), (14, .putfield 15, 3, [9, 4, 131], 0), (17, .return_, 1, [], 0)])
def pj_m77 : pj_M := (yX9_put, cX9_put, 3, some (.int), [484, 88, 482, 483], [(0, .aload_n 0, 1, [], 0), (1, .getfield 19, 3, [9, 1, 127], 0), (4, .bipush 76, 2, [], 0), (6, .if_icmp .le 5, 3, [11], 0), (9, .iconst (-1), 1, [], 0), (10, .ireturn, 1, [], 0), (11, .bipush 24, 2, [], 0), (13, .istore_n 2, 1, [], 0), (14, .iload_n 2, 1, [], 0), (15, .ifCond .lt 35, 3, [50], 0), (18, .aload_n 0, 1, [], 0), (19, .getfield 9, 3, [9, 0, 126], 0), (22, .aload_n 0, 1, [], 0), (23, .getfield 19, 3, [9, 1, 127], 0), (26, .iload_n 1, 1, [], 0), (27, .iload_n 2, 1, [], 0), (28, .iushr, 1, [], 0), (29, .sipush 255, 3, [], 0), (32, .iand, 1, [], 0), (33, .iastore, 1, [], 0), (34, .aload_n 0, 1, [], 0), (35, .dup, 1, [], 0), (36, .getfield 19, 3, [9, 1, 127], 0), (39, .iconst 1, 1, [], 0), (40, .iadd, 1, [], 0), (41, .putfield 19, 3, [9, 1, 127], 0), (44, .iinc 2 (-8), 3, [], 0), (47, .goto (-33), 3, [14], 0), (50, .aload_n 0, 1, [], 0), (51, .getfield 19, 3, [9, 1, 127], 0), (54, .ireturn, 1, [], 0)])
def pj_m78 : pj_M := (yX9_cut, cX9_cut, 2, some (.boolean), [492, 88, 490, 491], [(0, .iload_n 1, 1, [], 0), (1, .ifCond .lt 11, 3, [12], 0), (4, .iload_n 1, 1, [], 0), (5, .aload_n 0, 1, [], 0), (6, .getfield 19, 3, [9, 1, 127], 0), (9, .if_icmp .le 5, 3, [14], 0), (12, .iconst 0, 1, [], 0), (13, .ireturn, 1, [], 0), (14, .aload_n 0, 1, [], 0), (15, .iload_n 1, 1, [], 0), (16, .putfield 19, 3, [9, 1, 127], 0), (19, .iconst 1, 1, [], 0), (20, .ireturn, 1, [], 0)])
def pj_m79 : pj_M := (yX9_open, cX9_open, 2, none, [500, 88, 498, 499], [(0, .aload_n 0, 1, [], 0), (1, .iload_n 1, 1, [], 0), (2, .aload_n 0, 1, [], 0), (3, .getfield 19, 3, [9, 1, 127], 0), (6, .invokestatic 22, 3, [11, 0, 0, 0, 501, 502, 100, 503], 0), (9, .putfield 28, 3, [9, 2, 129], 0), (12, .aload_n 0, 1, [], 0), (13, .iconst 0, 1, [], 0), (14, .putfield 31, 3, [9, 3, 130], 0), (17, .aload_n 0, 1, [], 0), (18, .iconst (-1), 1, [], 0), (19, .putfield 15, 3, [9, 4, 131], 0), (22, .return_, 1, [], 0)])
def pj_m80 : pj_M := (yX9_peek, cX9_peek, 1, some (.int), [515, 88, 513, 514], [(0, .aload_n 0, 1, [], 0), (1, .getfield 15, 3, [9, 4, 131], 0), (4, .iconst (-1), 1, [], 0), (5, .if_icmp .ne 26, 3, [31], 0), (8, .aload_n 0, 1, [], 0), (9, .getfield 31, 3, [9, 3, 130], 0), (12, .aload_n 0, 1, [], 0), (13, .getfield 28, 3, [9, 2, 129], 0), (16, .if_icmp .ge 15, 3, [31], 0), (19, .aload_n 0, 1, [], 0), (20, .getfield 9, 3, [9, 0, 126], 0), (23, .aload_n 0, 1, [], 0), (24, .getfield 31, 3, [9, 3, 130], 0), (27, .iaload, 1, [], 0), (28, .goto 4, 3, [32], 0), (31, .iconst (-1), 1, [], 0), (32, .ireturn, 1, [], 0)])
def pj_m81 : pj_M := (yX9_refuse, cX9_refuse, 1, none, [519, 88, 517, 518], [(0, .aload_n 0, 1, [], 0), (1, .getfield 15, 3, [9, 4, 131], 0), (4, .iconst (-1), 1, [], 0), (5, .if_icmp .ne 11, 3, [16], 0), (8, .aload_n 0, 1, [], 0), (9, .aload_n 0, 1, [], 0), (10, .getfield 31, 3, [9, 3, 130], 0), (13, .putfield 15, 3, [9, 4, 131], 0), (16, .return_, 1, [], 0)])
def pj_m82 : pj_M := (yX9_skip, cX9_skip, 2, some (.boolean), [523, 88, 521, 522], [(0, .aload_n 0, 1, [], 0), (1, .invokevirtual 34, 3, [0, 1, 80, 9, 512], 0), (4, .iload_n 1, 1, [], 0), (5, .if_icmp .eq 5, 3, [10], 0), (8, .iconst 0, 1, [], 0), (9, .ireturn, 1, [], 0), (10, .aload_n 0, 1, [], 0), (11, .dup, 1, [], 0), (12, .getfield 31, 3, [9, 3, 130], 0), (15, .iconst 1, 1, [], 0), (16, .iadd, 1, [], 0), (17, .putfield 31, 3, [9, 3, 130], 0), (20, .iconst 1, 1, [], 0), (21, .ireturn, 1, [], 0)])
def pj_m83 : pj_M := (yX9_pick, cX9_pick, 4, some (.int), [511, 88, 509, 510], [(0, .aload_n 0, 1, [], 0), (1, .invokevirtual 34, 3, [0, 1, 80, 9, 512], 0), (4, .istore_n 3, 1, [], 0), (5, .iload_n 3, 1, [], 0), (6, .iload_n 1, 1, [], 0), (7, .if_icmp .lt 8, 3, [15], 0), (10, .iload_n 3, 1, [], 0), (11, .iload_n 2, 1, [], 0), (12, .if_icmp .le 9, 3, [21], 0), (15, .aload_n 0, 1, [], 0), (16, .invokevirtual 38, 3, [0, 1, 81, 9, 516], 0), (19, .iconst 0, 1, [], 0), (20, .ireturn, 1, [], 0), (21, .aload_n 0, 1, [], 0), (22, .dup, 1, [], 0), (23, .getfield 31, 3, [9, 3, 130], 0), (26, .iconst 1, 1, [], 0), (27, .iadd, 1, [], 0), (28, .putfield 31, 3, [9, 3, 130], 0), (31, .iload_n 3, 1, [], 0), (32, .iload_n 1, 1, [], 0), (33, .isub, 1, [], 0), (34, .ireturn, 1, [], 0)])
def pj_m84 : pj_M := (yX9_oneOf, cX9_oneOf, 3, some (.int), [619, 88, 617, 618], [(0, .iconst 0, 1, [], 0), (1, .istore_n 2, 1, [], 0), (2, .iload_n 2, 1, [], 0), (3, .aload_n 1, 1, [], 0), (4, .invokevirtual 41, 3, [8, 1, 289, 0, 620], 0), (7, .if_icmp .ge 27, 3, [34], 0), (10, .aload_n 0, 1, [], 0), (11, .aload_n 1, 1, [], 0), (12, .iload_n 2, 1, [], 0), (13, .invokevirtual 46, 3, [8, 2, 290, 0, 630], 0), (16, .invokevirtual 50, 3, [0, 2, 82, 9, 668], 0), (19, .ifCond .eq 9, 3, [28], 0), (22, .aload_n 1, 1, [], 0), (23, .iload_n 2, 1, [], 0), (24, .invokevirtual 46, 3, [8, 2, 290, 0, 630], 0), (27, .ireturn, 1, [], 0), (28, .iinc 2 1, 3, [], 0), (31, .goto (-29), 3, [2], 0), (34, .iconst (-1), 1, [], 0), (35, .ireturn, 1, [], 0)])
def pj_m85 : pj_M := (yX9_atDigit, cX9_atDigit, 1, some (.boolean), [536, 88, 534, 535], [(0, .aload_n 0, 1, [], 0), (1, .invokevirtual 34, 3, [0, 1, 80, 9, 512], 0), (4, .bipush 48, 2, [], 0), (6, .if_icmp .lt 16, 3, [22], 0), (9, .aload_n 0, 1, [], 0), (10, .invokevirtual 34, 3, [0, 1, 80, 9, 512], 0), (13, .bipush 57, 2, [], 0), (15, .if_icmp .gt 7, 3, [22], 0), (18, .iconst 1, 1, [], 0), (19, .goto 4, 3, [23], 0), (22, .iconst 0, 1, [], 0), (23, .ireturn, 1, [], 0)])
def pj_m86 : pj_M := (yX9_number, cX9_number, 4, some (.int), [532, 88, 530, 531], [(0, .aload_n 0, 1, [], 0), (1, .bipush 48, 2, [], 0), (3, .bipush 57, 2, [], 0), (5, .invokevirtual 54, 3, [0, 3, 83, 9, 528], 0), (8, .istore_n 2, 1, [], 0), (9, .iconst 1, 1, [], 0), (10, .istore_n 3, 1, [], 0), (11, .iload_n 3, 1, [], 0), (12, .iload_n 1, 1, [], 0), (13, .if_icmp .ge 30, 3, [43], 0), (16, .aload_n 0, 1, [], 0), (17, .invokevirtual 57, 3, [0, 1, 85, 9, 533], 0), (20, .ifCond .eq 23, 3, [43], 0), (23, .iload_n 2, 1, [], 0), (24, .bipush 10, 2, [], 0), (26, .imul, 1, [], 0), (27, .aload_n 0, 1, [], 0), (28, .bipush 48, 2, [], 0), (30, .bipush 57, 2, [], 0), (32, .invokevirtual 54, 3, [0, 3, 83, 9, 528], 0), (35, .iadd, 1, [], 0), (36, .istore_n 2, 1, [], 0), (37, .iinc 3 1, 3, [], 0), (40, .goto (-29), 3, [11], 0), (43, .iload_n 2, 1, [], 0), (44, .ireturn, 1, [], 0)])
def pj_m87 : pj_M := (yX9_bankBut, cX9_bankBut, 3, some (.int), [527, 88, 525, 526], [(0, .iload_n 1, 1, [], 0), (1, .iconst (-1), 1, [], 0), (2, .if_icmp .eq 18, 3, [20], 0), (5, .aload_n 0, 1, [], 0), (6, .invokevirtual 34, 3, [0, 1, 80, 9, 512], 0), (9, .bipush 97, 2, [], 0), (11, .iload_n 1, 1, [], 0), (12, .iadd, 1, [], 0), (13, .if_icmp .ne 7, 3, [20], 0), (16, .aload_n 0, 1, [], 0), (17, .invokevirtual 38, 3, [0, 1, 81, 9, 516], 0), (20, .aload_n 0, 1, [], 0), (21, .bipush 97, 2, [], 0), (23, .bipush 97, 2, [], 0), (25, .iload_n 2, 1, [], 0), (26, .iadd, 1, [], 0), (27, .iconst 1, 1, [], 0), (28, .isub, 1, [], 0), (29, .invokevirtual 54, 3, [0, 3, 83, 9, 528], 0), (32, .ireturn, 1, [], 0)])
def pj_m88 : pj_M := (yX9_close, cX9_close, 1, some (.int), [540, 88, 538, 539], [(0, .aload_n 0, 1, [], 0), (1, .getfield 31, 3, [9, 3, 130], 0), (4, .aload_n 0, 1, [], 0), (5, .getfield 19, 3, [9, 1, 127], 0), (8, .if_icmp .ge 7, 3, [15], 0), (11, .aload_n 0, 1, [], 0), (12, .invokevirtual 38, 3, [0, 1, 81, 9, 516], 0), (15, .aload_n 0, 1, [], 0), (16, .iconst 0, 1, [], 0), (17, .putfield 19, 3, [9, 1, 127], 0), (20, .aload_n 0, 1, [], 0), (21, .getfield 15, 3, [9, 4, 131], 0), (24, .ireturn, 1, [], 0)])
def pj_m89 : pj_M := (yX10_init, cX10_init, 1, none, [164, 90, 163, 0], [(0, .aload_n 0, 1, [], 0), (1, .invokespecial 3, 3, [6, 1, 0, 0, 165, 118, 119], 0), (4, .aload_n 0, 1, [], 0), (5, .new 9, 3, [5, 166, 167, 91], 0), (8, .dup, 1, [], 0), (9, .invokespecial 11, 3, [4, 1, 40, 0, 168], 0), (12, .putfield 12, 3, [10, 0, 296], 0), (15, .aload_n 0, 1, [], 0), (16, .new 9, 3, [5, 166, 167, 91], 0), (19, .dup, 1, [], 0), (20, .invokespecial 11, 3, [4, 1, 40, 0, 168], 0), (23, .putfield 18, 3, [10, 1, 300], 0), (26, .aload_n 0, 1, [], 0), (27, .new 21, 3, [8, 214, 215, 92], 0), (30, .dup, 1, [], 0), (31, .invokespecial 23, 3, [4, 1, 67, 0, 216], 0), (34, .putfield 24, 3, [10, 2, 302], 0), (37, .aload_n 0, 1, [], 0), (38, .new 28, 3, [7, 274, 275, 93], 0), (41, .dup, 1, [], 0), (42, .invokespecial 30, 3, [4, 1, 57, 0, 276], 0), (45, .putfield 31, 3, [10, 3, 308], 0), (48, .aload_n 0, 1, [], 0), (49, .bipush 6, 2, [], 0), (51, .newarray .int, 2, [143], 0), (53, .putfield 35, 3, [10, 4, 310], 0), (56, .aload_n 0, 1, [], 0), (57, .bipush 6, 2, [], 0), (59, .newarray .int, 2, [143], 0), (61, .putfield 39, 3, [10, 5, 315], 0), (64, .aload_n 0, 1, [], 0), (65, .bipush 7, 2, [], 0), (67, .newarray .int, 2, [143], 0), (69, .putfield 42, 3, [10, 6, 317], 0), (72, .return_, 1, [], 0)])
def pj_m90 : pj_M := (yX10_settle, cX10_settle, 2, none, [547, 90, 545, 546], [(0, .aload_n 0, 1, [], 0), (1, .getfield 12, 3, [10, 0, 296], 0), (4, .astore_n 1, 1, [], 0), (5, .aload_n 0, 1, [], 0), (6, .aload_n 0, 1, [], 0), (7, .getfield 18, 3, [10, 1, 300], 0), (10, .putfield 12, 3, [10, 0, 296], 0), (13, .aload_n 0, 1, [], 0), (14, .aload_n 1, 1, [], 0), (15, .putfield 18, 3, [10, 1, 300], 0), (18, .aload_n 0, 1, [], 0), (19, .getfield 12, 3, [10, 0, 296], 0), (22, .invokevirtual 45, 3, [0, 1, 42, 5, 548], 0), (25, .aload_n 0, 1, [], 0), (26, .getfield 24, 3, [10, 2, 302], 0), (29, .iconst 0, 1, [], 0), (30, .putfield 48, 3, [8, 0, 221], 0), (33, .aload_n 0, 1, [], 0), (34, .getfield 24, 3, [10, 2, 302], 0), (37, .iconst 0, 1, [], 0), (38, .putfield 52, 3, [8, 5, 241], 0), (41, .aload_n 0, 1, [], 0), (42, .getfield 24, 3, [10, 2, 302], 0), (45, .iconst 0, 1, [], 0), (46, .putfield 55, 3, [8, 7, 248], 0), (49, .return_, 1, [], 0)])
def pj_m91 : pj_M := (yX10_readBridges, cX10_readBridges, 5, some (.int), [567, 90, 565, 566], [(0, .iconst 0, 1, [], 0), (1, .istore_n 2, 1, [], 0), (2, .aload_n 1, 1, [], 0), (3, .invokevirtual 58, 3, [0, 1, 80, 9, 568], 0), (6, .iconst (-1), 1, [], 0), (7, .if_icmp .eq 7, 3, [14], 0), (10, .iconst 1, 1, [], 0), (11, .goto 4, 3, [15], 0), (14, .iconst 0, 1, [], 0), (15, .istore_n 3, 1, [], 0), (16, .aload_n 0, 1, [], 0), (17, .getfield 24, 3, [10, 2, 302], 0), (20, .getfield 48, 3, [8, 0, 221], 0), (23, .istore 4, 2, [], 0), (25, .iload 4, 2, [], 0), (27, .bipush 6, 2, [], 0), (29, .if_icmp .gt 105, 3, [134], 0), (32, .iload_n 3, 1, [], 0), (33, .ifCond .eq 101, 3, [134], 0), (36, .iload 4, 2, [], 0), (38, .bipush 6, 2, [], 0), (40, .if_icmp .ge 74, 3, [114], 0), (43, .aload_n 0, 1, [], 0), (44, .getfield 35, 3, [10, 4, 310], 0), (47, .iload 4, 2, [], 0), (49, .iconst 1, 1, [], 0), (50, .aload_n 1, 1, [], 0), (51, .bipush 49, 2, [], 0), (53, .bipush 57, 2, [], 0), (55, .invokevirtual 64, 3, [0, 3, 83, 9, 569], 0), (58, .iadd, 1, [], 0), (59, .iastore, 1, [], 0), (60, .aload_n 0, 1, [], 0), (61, .getfield 24, 3, [10, 2, 302], 0), (64, .getfield 68, 3, [8, 3, 235], 0), (67, .iload 4, 2, [], 0), (69, .aload_n 1, 1, [], 0), (70, .bipush 48, 2, [], 0), (72, .bipush 57, 2, [], 0), (74, .invokevirtual 64, 3, [0, 3, 83, 9, 569], 0), (77, .iastore, 1, [], 0), (78, .aload_n 0, 1, [], 0), (79, .getfield 24, 3, [10, 2, 302], 0), (82, .getfield 71, 3, [8, 1, 228], 0), (85, .iload 4, 2, [], 0), (87, .iconst (-1), 1, [], 0), (88, .iastore, 1, [], 0), (89, .aload_n 0, 1, [], 0), (90, .getfield 24, 3, [10, 2, 302], 0), (93, .getfield 74, 3, [8, 2, 232], 0), (96, .iload 4, 2, [], 0), (98, .iconst 0, 1, [], 0), (99, .iastore, 1, [], 0), (100, .aload_n 0, 1, [], 0), (101, .getfield 24, 3, [10, 2, 302], 0), (104, .getfield 77, 3, [8, 4, 239], 0), (107, .iload 4, 2, [], 0), (109, .iconst (-1), 1, [], 0), (110, .iastore, 1, [], 0), (111, .goto 7, 3, [118], 0), (114, .aload_n 1, 1, [], 0), (115, .invokevirtual 80, 3, [0, 1, 81, 9, 570], 0), (118, .iinc 2 1, 3, [], 0), (121, .aload_n 1, 1, [], 0), (122, .bipush 59, 2, [], 0), (124, .invokevirtual 83, 3, [0, 2, 82, 9, 571], 0), (127, .istore_n 3, 1, [], 0), (128, .iinc 4 1, 3, [], 0), (131, .goto (-106), 3, [25], 0), (134, .iload_n 2, 1, [], 0), (135, .ireturn, 1, [], 0)])
def pj_m92 : pj_M := (yX10_readPeople, cX10_readPeople, 5, some (.int), [584, 90, 582, 583], [(0, .iconst 0, 1, [], 0), (1, .istore_n 2, 1, [], 0), (2, .aload_n 1, 1, [], 0), (3, .invokevirtual 58, 3, [0, 1, 80, 9, 568], 0), (6, .iconst (-1), 1, [], 0), (7, .if_icmp .eq 7, 3, [14], 0), (10, .iconst 1, 1, [], 0), (11, .goto 4, 3, [15], 0), (14, .iconst 0, 1, [], 0), (15, .istore_n 3, 1, [], 0), (16, .aload_n 0, 1, [], 0), (17, .getfield 24, 3, [10, 2, 302], 0), (20, .getfield 52, 3, [8, 5, 241], 0), (23, .istore 4, 2, [], 0), (25, .iload 4, 2, [], 0), (27, .bipush 6, 2, [], 0), (29, .if_icmp .gt 76, 3, [105], 0), (32, .iload_n 3, 1, [], 0), (33, .ifCond .eq 72, 3, [105], 0), (36, .iload 4, 2, [], 0), (38, .bipush 6, 2, [], 0), (40, .if_icmp .ge 45, 3, [85], 0), (43, .aload_n 0, 1, [], 0), (44, .getfield 24, 3, [10, 2, 302], 0), (47, .getfield 87, 3, [8, 6, 246], 0), (50, .iload 4, 2, [], 0), (52, .aload_n 1, 1, [], 0), (53, .iconst (-1), 1, [], 0), (54, .aload_n 0, 1, [], 0), (55, .getfield 12, 3, [10, 0, 296], 0), (58, .getfield 90, 3, [5, 0, 173], 0), (61, .invokevirtual 93, 3, [0, 3, 87, 9, 585], 0), (64, .iastore, 1, [], 0), (65, .aload_n 0, 1, [], 0), (66, .getfield 39, 3, [10, 5, 315], 0), (69, .iload 4, 2, [], 0), (71, .iconst 1, 1, [], 0), (72, .aload_n 1, 1, [], 0), (73, .bipush 49, 2, [], 0), (75, .bipush 57, 2, [], 0), (77, .invokevirtual 64, 3, [0, 3, 83, 9, 569], 0), (80, .iadd, 1, [], 0), (81, .iastore, 1, [], 0), (82, .goto 7, 3, [89], 0), (85, .aload_n 1, 1, [], 0), (86, .invokevirtual 80, 3, [0, 1, 81, 9, 570], 0), (89, .iinc 2 1, 3, [], 0), (92, .aload_n 1, 1, [], 0), (93, .bipush 59, 2, [], 0), (95, .invokevirtual 83, 3, [0, 2, 82, 9, 571], 0), (98, .istore_n 3, 1, [], 0), (99, .iinc 4 1, 3, [], 0), (102, .goto (-77), 3, [25], 0), (105, .iload_n 2, 1, [], 0), (106, .ireturn, 1, [], 0)])
def pj_m93 : pj_M := (yX10_hasBank, cX10_hasBank, 2, some (.boolean), [924, 90, 922, 923], [(0, .iload_n 1, 1, [], 0), (1, .ifCond .lt 18, 3, [19], 0), (4, .iload_n 1, 1, [], 0), (5, .aload_n 0, 1, [], 0), (6, .getfield 12, 3, [10, 0, 296], 0), (9, .getfield 90, 3, [5, 0, 173], 0), (12, .if_icmp .ge 7, 3, [19], 0), (15, .iconst 1, 1, [], 0), (16, .goto 4, 3, [20], 0), (19, .iconst 0, 1, [], 0), (20, .ireturn, 1, [], 0)])
def pj_m94 : pj_M := (yX10_hasCrossing, cX10_hasCrossing, 2, some (.boolean), [766, 90, 764, 765], [(0, .iload_n 1, 1, [], 0), (1, .ifCond .lt 18, 3, [19], 0), (4, .iload_n 1, 1, [], 0), (5, .aload_n 0, 1, [], 0), (6, .getfield 12, 3, [10, 0, 296], 0), (9, .getfield 96, 3, [5, 1, 180], 0), (12, .if_icmp .ge 7, 3, [19], 0), (15, .iconst 1, 1, [], 0), (16, .goto 4, 3, [20], 0), (19, .iconst 0, 1, [], 0), (20, .ireturn, 1, [], 0)])
def pj_m95 : pj_M := (yX10_hasBridge, cX10_hasBridge, 2, some (.boolean), [762, 90, 760, 761], [(0, .iload_n 1, 1, [], 0), (1, .ifCond .lt 18, 3, [19], 0), (4, .iload_n 1, 1, [], 0), (5, .aload_n 0, 1, [], 0), (6, .getfield 24, 3, [10, 2, 302], 0), (9, .getfield 48, 3, [8, 0, 221], 0), (12, .if_icmp .ge 7, 3, [19], 0), (15, .iconst 1, 1, [], 0), (16, .goto 4, 3, [20], 0), (19, .iconst 0, 1, [], 0), (20, .ireturn, 1, [], 0)])
def pj_m96 : pj_M := (yX10_hasPerson, cX10_hasPerson, 2, some (.boolean), [842, 90, 840, 841], [(0, .iload_n 1, 1, [], 0), (1, .ifCond .lt 18, 3, [19], 0), (4, .iload_n 1, 1, [], 0), (5, .aload_n 0, 1, [], 0), (6, .getfield 24, 3, [10, 2, 302], 0), (9, .getfield 52, 3, [8, 5, 241], 0), (12, .if_icmp .ge 7, 3, [19], 0), (15, .iconst 1, 1, [], 0), (16, .goto 4, 3, [20], 0), (19, .iconst 0, 1, [], 0), (20, .ireturn, 1, [], 0)])
def pj_m97 : pj_M := (yX10_sounds, cX10_sounds, 7, some (.int), [745, 90, 743, 744], [(0, .iconst 0, 1, [], 0), (1, .istore 5, 2, [], 0), (3, .iconst 0, 1, [], 0), (4, .istore 6, 2, [], 0), (6, .iload 6, 2, [], 0), (8, .aload_n 0, 1, [], 0), (9, .getfield 24, 3, [10, 2, 302], 0), (12, .getfield 48, 3, [8, 0, 221], 0), (15, .if_icmp .ge 55, 3, [70], 0), (18, .aload_n 0, 1, [], 0), (19, .getfield 24, 3, [10, 2, 302], 0), (22, .getfield 68, 3, [8, 3, 235], 0), (25, .iload 6, 2, [], 0), (27, .iload 6, 2, [], 0), (29, .iload_n 2, 1, [], 0), (30, .if_icmp .ge 17, 3, [47], 0), (33, .iload_n 1, 1, [], 0), (34, .iload_n 3, 1, [], 0), (35, .iload 6, 2, [], 0), (37, .iload 4, 2, [], 0), (39, .imul, 1, [], 0), (40, .iadd, 1, [], 0), (41, .invokestatic 99, 3, [2, 2, 98, 0, 746], 0), (44, .goto 4, 3, [48], 0), (47, .iconst 0, 1, [], 0), (48, .iastore, 1, [], 0), (49, .iload 5, 2, [], 0), (51, .aload_n 0, 1, [], 0), (52, .getfield 24, 3, [10, 2, 302], 0), (55, .getfield 68, 3, [8, 3, 235], 0), (58, .iload 6, 2, [], 0), (60, .iaload, 1, [], 0), (61, .iadd, 1, [], 0), (62, .istore 5, 2, [], 0), (64, .iinc 6 1, 3, [], 0), (67, .goto (-61), 3, [6], 0), (70, .iload 5, 2, [], 0), (72, .ireturn, 1, [], 0)])
def pj_m98 : pj_M := (yX10_entry, cX10_entry, 3, some (.int), [748, 90, 747, 0], [(0, .iload_n 1, 1, [], 0), (1, .istore_n 2, 1, [], 0), (2, .iload_n 0, 1, [], 0), (3, .ifCond .ne 9, 3, [12], 0), (6, .iload_n 1, 1, [], 0), (7, .i2b, 1, [], 0), (8, .istore_n 2, 1, [], 0), (9, .goto 11, 3, [20], 0), (12, .iload_n 0, 1, [], 0), (13, .iconst 1, 1, [], 0), (14, .if_icmp .ne 6, 3, [20], 0), (17, .iload_n 1, 1, [], 0), (18, .i2s, 1, [], 0), (19, .istore_n 2, 1, [], 0), (20, .iconst 0, 1, [], 0), (21, .bipush 9, 2, [], 0), (23, .iload_n 2, 1, [], 0), (24, .invokestatic 102, 3, [11, 0, 0, 0, 749, 502, 100, 503], 0), (27, .invokestatic 107, 3, [10, 0, 0, 0, 750, 686, 100, 687], 0), (30, .ireturn, 1, [], 0)])
def pj_m99 : pj_M := (yX10_towTime, cX10_towTime, 3, some (.int), [758, 90, 756, 757], [(0, .aload_n 0, 1, [], 0), (1, .iload_n 1, 1, [], 0), (2, .invokevirtual 110, 3, [0, 2, 95, 10, 759], 0), (5, .ifCond .eq 16, 3, [21], 0), (8, .iload_n 2, 1, [], 0), (9, .iconst (-1), 1, [], 0), (10, .if_icmp .eq 13, 3, [23], 0), (13, .aload_n 0, 1, [], 0), (14, .iload_n 2, 1, [], 0), (15, .invokevirtual 113, 3, [0, 2, 94, 10, 763], 0), (18, .ifCond .ne 5, 3, [23], 0), (21, .iconst (-1), 1, [], 0), (22, .ireturn, 1, [], 0), (23, .aload_n 0, 1, [], 0), (24, .getfield 24, 3, [10, 2, 302], 0), (27, .getfield 74, 3, [8, 2, 232], 0), (30, .iload_n 1, 1, [], 0), (31, .iaload, 1, [], 0), (32, .ifCond .gt 16, 3, [48], 0), (35, .aload_n 0, 1, [], 0), (36, .getfield 24, 3, [10, 2, 302], 0), (39, .getfield 71, 3, [8, 1, 228], 0), (42, .iload_n 1, 1, [], 0), (43, .iaload, 1, [], 0), (44, .iload_n 2, 1, [], 0), (45, .if_icmp .ne 6, 3, [51], 0), (48, .bipush (-2), 2, [], 0), (50, .ireturn, 1, [], 0), (51, .iload_n 2, 1, [], 0), (52, .iconst (-1), 1, [], 0), (53, .if_icmp .eq 24, 3, [77], 0), (56, .aload_n 0, 1, [], 0), (57, .getfield 35, 3, [10, 4, 310], 0), (60, .iload_n 1, 1, [], 0), (61, .iaload, 1, [], 0), (62, .aload_n 0, 1, [], 0), (63, .getfield 12, 3, [10, 0, 296], 0), (66, .getfield 116, 3, [5, 5, 192], 0), (69, .iload_n 2, 1, [], 0), (70, .iaload, 1, [], 0), (71, .if_icmp .ge 6, 3, [77], 0), (74, .bipush (-3), 2, [], 0), (76, .ireturn, 1, [], 0), (77, .iload_n 2, 1, [], 0), (78, .iconst (-1), 1, [], 0), (79, .if_icmp .eq 17, 3, [96], 0), (82, .aload_n 0, 1, [], 0), (83, .getfield 24, 3, [10, 2, 302], 0), (86, .iload_n 2, 1, [], 0), (87, .invokevirtual 119, 3, [0, 2, 72, 8, 767], 0), (90, .ifCond .ne 6, 3, [96], 0), (93, .bipush (-4), 2, [], 0), (95, .ireturn, 1, [], 0), (96, .aload_n 0, 1, [], 0), (97, .iload_n 1, 1, [], 0), (98, .iload_n 2, 1, [], 0), (99, .invokevirtual 122, 3, [0, 3, 101, 10, 779], 0), (102, .ireturn, 1, [], 0)])
def pj_m100 : pj_M := (yX10_placeOf, cX10_placeOf, 2, some (.int), [786, 90, 785, 5], [(0, .iload_n 1, 1, [], 0), (1, .iconst (-1), 1, [], 0), (2, .if_icmp .ne 7, 3, [9], 0), (5, .iconst 0, 1, [], 0), (6, .goto 12, 3, [18], 0), (9, .aload_n 0, 1, [], 0), (10, .getfield 12, 3, [10, 0, 296], 0), (13, .getfield 125, 3, [5, 4, 187], 0), (16, .iload_n 1, 1, [], 0), (17, .iaload, 1, [], 0), (18, .ireturn, 1, [], 0)])
def pj_m101 : pj_M := (yX10_hoursByRule, cX10_hoursByRule, 5, some (.int), [782, 90, 780, 781], [(0, .aload_n 0, 1, [], 0), (1, .aload_n 0, 1, [], 0), (2, .getfield 24, 3, [10, 2, 302], 0), (5, .getfield 71, 3, [8, 1, 228], 0), (8, .iload_n 1, 1, [], 0), (9, .iaload, 1, [], 0), (10, .invokevirtual 128, 3, [0, 2, 100, 10, 783], 0), (13, .istore_n 3, 1, [], 0), (14, .aload_n 0, 1, [], 0), (15, .iload_n 2, 1, [], 0), (16, .invokevirtual 128, 3, [0, 2, 100, 10, 783], 0), (19, .istore 4, 2, [], 0), (21, .aload_n 0, 1, [], 0), (22, .getfield 42, 3, [10, 6, 317], 0), (25, .iconst 0, 1, [], 0), (26, .iload 4, 2, [], 0), (28, .iload_n 3, 1, [], 0), (29, .isub, 1, [], 0), (30, .invokestatic 132, 3, [12, 0, 0, 0, 787, 788, 100, 789], 0), (33, .iastore, 1, [], 0), (34, .aload_n 0, 1, [], 0), (35, .getfield 42, 3, [10, 6, 317], 0), (38, .iconst 1, 1, [], 0), (39, .iload 4, 2, [], 0), (41, .iload_n 3, 1, [], 0), (42, .if_icmp .ge 7, 3, [49], 0), (45, .iconst 1, 1, [], 0), (46, .goto 4, 3, [50], 0), (49, .iconst 0, 1, [], 0), (50, .iastore, 1, [], 0), (51, .aload_n 0, 1, [], 0), (52, .getfield 42, 3, [10, 6, 317], 0), (55, .iconst 2, 1, [], 0), (56, .aload_n 0, 1, [], 0), (57, .getfield 35, 3, [10, 4, 310], 0), (60, .iload_n 1, 1, [], 0), (61, .iaload, 1, [], 0), (62, .iastore, 1, [], 0), (63, .aload_n 0, 1, [], 0), (64, .getfield 42, 3, [10, 6, 317], 0), (67, .iconst 3, 1, [], 0), (68, .aload_n 0, 1, [], 0), (69, .getfield 24, 3, [10, 2, 302], 0), (72, .getfield 68, 3, [8, 3, 235], 0), (75, .iload_n 1, 1, [], 0), (76, .iaload, 1, [], 0), (77, .iastore, 1, [], 0), (78, .aload_n 0, 1, [], 0), (79, .getfield 42, 3, [10, 6, 317], 0), (82, .iconst 4, 1, [], 0), (83, .iload_n 2, 1, [], 0), (84, .iconst (-1), 1, [], 0), (85, .if_icmp .ne 7, 3, [92], 0), (88, .iconst 0, 1, [], 0), (89, .goto 12, 3, [101], 0), (92, .aload_n 0, 1, [], 0), (93, .getfield 12, 3, [10, 0, 296], 0), (96, .getfield 116, 3, [5, 5, 192], 0), (99, .iload_n 2, 1, [], 0), (100, .iaload, 1, [], 0), (101, .iastore, 1, [], 0), (102, .aload_n 0, 1, [], 0), (103, .getfield 42, 3, [10, 6, 317], 0), (106, .iconst 5, 1, [], 0), (107, .iload_n 1, 1, [], 0), (108, .iastore, 1, [], 0), (109, .aload_n 0, 1, [], 0), (110, .getfield 42, 3, [10, 6, 317], 0), (113, .bipush 6, 2, [], 0), (115, .aload_n 0, 1, [], 0), (116, .getfield 24, 3, [10, 2, 302], 0), (119, .getfield 55, 3, [8, 7, 248], 0), (122, .bipush 24, 2, [], 0), (124, .irem, 1, [], 0), (125, .iastore, 1, [], 0), (126, .iconst 1, 1, [], 0), (127, .bipush 99, 2, [], 0), (129, .aload_n 0, 1, [], 0), (130, .getfield 31, 3, [10, 3, 308], 0), (133, .aload_n 0, 1, [], 0), (134, .getfield 42, 3, [10, 6, 317], 0), (137, .invokevirtual 135, 3, [0, 2, 65, 7, 790], 0), (140, .invokestatic 102, 3, [11, 0, 0, 0, 749, 502, 100, 503], 0), (143, .invokestatic 107, 3, [10, 0, 0, 0, 750, 686, 100, 687], 0), (146, .ireturn, 1, [], 0)])
def pj_m102 : pj_M := (yX10_startTow, cX10_startTow, 4, some (.int), [815, 90, 813, 814], [(0, .aload_n 0, 1, [], 0), (1, .iload_n 1, 1, [], 0), (2, .iload_n 2, 1, [], 0), (3, .invokevirtual 139, 3, [0, 3, 99, 10, 816], 0), (6, .istore_n 3, 1, [], 0), (7, .iload_n 3, 1, [], 0), (8, .ifCond .le 23, 3, [31], 0), (11, .aload_n 0, 1, [], 0), (12, .getfield 24, 3, [10, 2, 302], 0), (15, .getfield 71, 3, [8, 1, 228], 0), (18, .iload_n 1, 1, [], 0), (19, .iload_n 2, 1, [], 0), (20, .iastore, 1, [], 0), (21, .aload_n 0, 1, [], 0), (22, .getfield 24, 3, [10, 2, 302], 0), (25, .getfield 74, 3, [8, 2, 232], 0), (28, .iload_n 1, 1, [], 0), (29, .iload_n 3, 1, [], 0), (30, .iastore, 1, [], 0), (31, .iload_n 3, 1, [], 0), (32, .ireturn, 1, [], 0)])
def pj_m103 : pj_M := (yX10_setLoan, cX10_setLoan, 4, some (.int), [829, 90, 827, 828], [(0, .aload_n 0, 1, [], 0), (1, .iload_n 1, 1, [], 0), (2, .invokevirtual 110, 3, [0, 2, 95, 10, 759], 0), (5, .ifCond .ne 6, 3, [11], 0), (8, .bipush (-3), 2, [], 0), (10, .ireturn, 1, [], 0), (11, .iload_n 2, 1, [], 0), (12, .iconst (-1), 1, [], 0), (13, .if_icmp .eq 23, 3, [36], 0), (16, .iload_n 2, 1, [], 0), (17, .aload_n 0, 1, [], 0), (18, .getfield 24, 3, [10, 2, 302], 0), (21, .getfield 55, 3, [8, 7, 248], 0), (24, .if_icmp .le 9, 3, [33], 0), (27, .iload_n 2, 1, [], 0), (28, .ldc 142, 2, [0, 830], 999999), (30, .if_icmp .le 6, 3, [36], 0), (33, .bipush (-2), 2, [], 0), (35, .ireturn, 1, [], 0), (36, .aload_n 0, 1, [], 0), (37, .getfield 24, 3, [10, 2, 302], 0), (40, .getfield 77, 3, [8, 4, 239], 0), (43, .iload_n 1, 1, [], 0), (44, .iaload, 1, [], 0), (45, .istore_n 3, 1, [], 0), (46, .aload_n 0, 1, [], 0), (47, .getfield 24, 3, [10, 2, 302], 0), (50, .getfield 77, 3, [8, 4, 239], 0), (53, .iload_n 1, 1, [], 0), (54, .iload_n 2, 1, [], 0), (55, .iastore, 1, [], 0), (56, .iload_n 3, 1, [], 0), (57, .ireturn, 1, [], 0)])
def pj_m104 : pj_M := (yX10_walk, cX10_walk, 5, some (.int), [838, 90, 836, 837], [(0, .aload_n 0, 1, [], 0), (1, .iload_n 1, 1, [], 0), (2, .invokevirtual 143, 3, [0, 2, 96, 10, 839], 0), (5, .ifCond .eq 11, 3, [16], 0), (8, .aload_n 0, 1, [], 0), (9, .iload_n 2, 1, [], 0), (10, .invokevirtual 113, 3, [0, 2, 94, 10, 763], 0), (13, .ifCond .ne 5, 3, [18], 0), (16, .iconst (-1), 1, [], 0), (17, .ireturn, 1, [], 0), (18, .aload_n 0, 1, [], 0), (19, .getfield 12, 3, [10, 0, 296], 0), (22, .iload_n 2, 1, [], 0), (23, .aload_n 0, 1, [], 0), (24, .getfield 24, 3, [10, 2, 302], 0), (27, .getfield 87, 3, [8, 6, 246], 0), (30, .iload_n 1, 1, [], 0), (31, .iaload, 1, [], 0), (32, .invokevirtual 146, 3, [0, 3, 44, 5, 843], 0), (35, .istore_n 3, 1, [], 0), (36, .iload_n 3, 1, [], 0), (37, .iconst (-1), 1, [], 0), (38, .if_icmp .ne 6, 3, [44], 0), (41, .bipush (-2), 2, [], 0), (43, .ireturn, 1, [], 0), (44, .aload_n 0, 1, [], 0), (45, .getfield 24, 3, [10, 2, 302], 0), (48, .iload_n 2, 1, [], 0), (49, .invokevirtual 149, 3, [0, 2, 70, 8, 847], 0), (52, .istore 4, 2, [], 0), (54, .iload 4, 2, [], 0), (56, .iconst (-1), 1, [], 0), (57, .if_icmp .eq 22, 3, [79], 0), (60, .aload_n 0, 1, [], 0), (61, .getfield 24, 3, [10, 2, 302], 0), (64, .getfield 68, 3, [8, 3, 235], 0), (67, .iload 4, 2, [], 0), (69, .iaload, 1, [], 0), (70, .aload_n 0, 1, [], 0), (71, .getfield 39, 3, [10, 5, 315], 0), (74, .iload_n 1, 1, [], 0), (75, .iaload, 1, [], 0), (76, .if_icmp .ge 6, 3, [82], 0), (79, .bipush (-3), 2, [], 0), (81, .ireturn, 1, [], 0), (82, .aload_n 0, 1, [], 0), (83, .getfield 24, 3, [10, 2, 302], 0), (86, .getfield 68, 3, [8, 3, 235], 0), (89, .iload 4, 2, [], 0), (91, .iaload, 1, [], 0), (92, .aload_n 0, 1, [], 0), (93, .getfield 39, 3, [10, 5, 315], 0), (96, .iload_n 1, 1, [], 0), (97, .iaload, 1, [], 0), (98, .if_icmp .ne 17, 3, [115], 0), (101, .aload_n 0, 1, [], 0), (102, .getfield 24, 3, [10, 2, 302], 0), (105, .getfield 68, 3, [8, 3, 235], 0), (108, .iload 4, 2, [], 0), (110, .dup2, 1, [], 0), (111, .iaload, 1, [], 0), (112, .iconst 1, 1, [], 0), (113, .isub, 1, [], 0), (114, .iastore, 1, [], 0), (115, .aload_n 0, 1, [], 0), (116, .getfield 24, 3, [10, 2, 302], 0), (119, .getfield 87, 3, [8, 6, 246], 0), (122, .iload_n 1, 1, [], 0), (123, .iload_n 3, 1, [], 0), (124, .iastore, 1, [], 0), (125, .iload_n 3, 1, [], 0), (126, .ireturn, 1, [], 0)])
def pj_m105 : pj_M := (yX10_passHours, cX10_passHours, 3, none, [855, 90, 853, 854], [(0, .aload_n 0, 1, [], 0), (1, .iconst 0, 1, [], 0), (2, .putfield 152, 3, [10, 7, 319], 0), (5, .aload_n 0, 1, [], 0), (6, .iconst 0, 1, [], 0), (7, .putfield 155, 3, [10, 8, 321], 0), (10, .iconst 0, 1, [], 0), (11, .istore_n 2, 1, [], 0), (12, .iload_n 2, 1, [], 0), (13, .iload_n 1, 1, [], 0), (14, .if_icmp .ge 30, 3, [44], 0), (17, .aload_n 0, 1, [], 0), (18, .getfield 24, 3, [10, 2, 302], 0), (21, .dup, 1, [], 0), (22, .getfield 55, 3, [8, 7, 248], 0), (25, .iconst 1, 1, [], 0), (26, .iadd, 1, [], 0), (27, .putfield 55, 3, [8, 7, 248], 0), (30, .aload_n 0, 1, [], 0), (31, .invokevirtual 158, 3, [0, 1, 106, 10, 856], 0), (34, .aload_n 0, 1, [], 0), (35, .invokevirtual 161, 3, [0, 1, 107, 10, 860], 0), (38, .iinc 2 1, 3, [], 0), (41, .goto (-29), 3, [12], 0), (44, .return_, 1, [], 0)])
def pj_m106 : pj_M := (yX10_comeNearer, cX10_comeNearer, 2, none, [859, 90, 858, 6], [(0, .iconst 0, 1, [], 0), (1, .istore_n 1, 1, [], 0), (2, .iload_n 1, 1, [], 0), (3, .aload_n 0, 1, [], 0), (4, .getfield 24, 3, [10, 2, 302], 0), (7, .getfield 48, 3, [8, 0, 221], 0), (10, .if_icmp .ge 62, 3, [72], 0), (13, .aload_n 0, 1, [], 0), (14, .getfield 24, 3, [10, 2, 302], 0), (17, .getfield 74, 3, [8, 2, 232], 0), (20, .iload_n 1, 1, [], 0), (21, .iaload, 1, [], 0), (22, .ifCond .le 44, 3, [66], 0), (25, .aload_n 0, 1, [], 0), (26, .getfield 24, 3, [10, 2, 302], 0), (29, .getfield 74, 3, [8, 2, 232], 0), (32, .iload_n 1, 1, [], 0), (33, .dup2, 1, [], 0), (34, .iaload, 1, [], 0), (35, .iconst 1, 1, [], 0), (36, .isub, 1, [], 0), (37, .iastore, 1, [], 0), (38, .aload_n 0, 1, [], 0), (39, .dup, 1, [], 0), (40, .getfield 152, 3, [10, 7, 319], 0), (43, .aload_n 0, 1, [], 0), (44, .getfield 24, 3, [10, 2, 302], 0), (47, .getfield 74, 3, [8, 2, 232], 0), (50, .iload_n 1, 1, [], 0), (51, .iaload, 1, [], 0), (52, .ifCond .ne 9, 3, [61], 0), (55, .iconst 1, 1, [], 0), (56, .iload_n 1, 1, [], 0), (57, .ishl, 1, [], 0), (58, .goto 4, 3, [62], 0), (61, .iconst 0, 1, [], 0), (62, .ior, 1, [], 0), (63, .putfield 152, 3, [10, 7, 319], 0), (66, .iinc 1 1, 3, [], 0), (69, .goto (-67), 3, [2], 0), (72, .return_, 1, [], 0)])
def pj_m107 : pj_M := (yX10_endLoans, cX10_endLoans, 2, none, [863, 90, 862, 7], [(0, .iconst 0, 1, [], 0), (1, .istore_n 1, 1, [], 0), (2, .iload_n 1, 1, [], 0), (3, .aload_n 0, 1, [], 0), (4, .getfield 24, 3, [10, 2, 302], 0), (7, .getfield 48, 3, [8, 0, 221], 0), (10, .if_icmp .ge 88, 3, [98], 0), (13, .aload_n 0, 1, [], 0), (14, .getfield 24, 3, [10, 2, 302], 0), (17, .getfield 77, 3, [8, 4, 239], 0), (20, .iload_n 1, 1, [], 0), (21, .iaload, 1, [], 0), (22, .aload_n 0, 1, [], 0), (23, .getfield 24, 3, [10, 2, 302], 0), (26, .getfield 55, 3, [8, 7, 248], 0), (29, .if_icmp .ne 63, 3, [92], 0), (32, .aload_n 0, 1, [], 0), (33, .getfield 24, 3, [10, 2, 302], 0), (36, .getfield 77, 3, [8, 4, 239], 0), (39, .iload_n 1, 1, [], 0), (40, .iconst (-1), 1, [], 0), (41, .iastore, 1, [], 0), (42, .aload_n 0, 1, [], 0), (43, .getfield 24, 3, [10, 2, 302], 0), (46, .getfield 71, 3, [8, 1, 228], 0), (49, .iload_n 1, 1, [], 0), (50, .iaload, 1, [], 0), (51, .iconst (-1), 1, [], 0), (52, .if_icmp .ne 15, 3, [67], 0), (55, .aload_n 0, 1, [], 0), (56, .getfield 24, 3, [10, 2, 302], 0), (59, .getfield 74, 3, [8, 2, 232], 0), (62, .iload_n 1, 1, [], 0), (63, .iaload, 1, [], 0), (64, .ifCond .le 28, 3, [92], 0), (67, .aload_n 0, 1, [], 0), (68, .getfield 24, 3, [10, 2, 302], 0), (71, .dup, 1, [], 0), (72, .getfield 164, 3, [8, 8, 254], 0), (75, .iconst 1, 1, [], 0), (76, .iadd, 1, [], 0), (77, .putfield 164, 3, [8, 8, 254], 0), (80, .aload_n 0, 1, [], 0), (81, .dup, 1, [], 0), (82, .getfield 155, 3, [10, 8, 321], 0), (85, .iconst 1, 1, [], 0), (86, .iload_n 1, 1, [], 0), (87, .ishl, 1, [], 0), (88, .ior, 1, [], 0), (89, .putfield 155, 3, [10, 8, 321], 0), (92, .iinc 1 1, 3, [], 0), (95, .goto (-93), 3, [2], 0), (98, .return_, 1, [], 0)])
def pj_m108 : pj_M := (yX10_openFor, cX10_openFor, 5, some (.int), [928, 90, 926, 927], [(0, .iconst 0, 1, [], 0), (1, .istore_n 3, 1, [], 0), (2, .iconst 0, 1, [], 0), (3, .istore 4, 2, [], 0), (5, .iload 4, 2, [], 0), (7, .aload_n 0, 1, [], 0), (8, .getfield 24, 3, [10, 2, 302], 0), (11, .getfield 48, 3, [8, 0, 221], 0), (14, .if_icmp .ge 66, 3, [80], 0), (17, .aload_n 0, 1, [], 0), (18, .getfield 24, 3, [10, 2, 302], 0), (21, .getfield 71, 3, [8, 1, 228], 0), (24, .iload 4, 2, [], 0), (26, .iaload, 1, [], 0), (27, .iconst (-1), 1, [], 0), (28, .if_icmp .eq 46, 3, [74], 0), (31, .aload_n 0, 1, [], 0), (32, .getfield 24, 3, [10, 2, 302], 0), (35, .getfield 74, 3, [8, 2, 232], 0), (38, .iload 4, 2, [], 0), (40, .iaload, 1, [], 0), (41, .iload_n 2, 1, [], 0), (42, .if_icmp .gt 32, 3, [74], 0), (45, .aload_n 0, 1, [], 0), (46, .getfield 24, 3, [10, 2, 302], 0), (49, .getfield 68, 3, [8, 3, 235], 0), (52, .iload 4, 2, [], 0), (54, .iaload, 1, [], 0), (55, .iload_n 1, 1, [], 0), (56, .if_icmp .lt 18, 3, [74], 0), (59, .iload_n 3, 1, [], 0), (60, .iconst 1, 1, [], 0), (61, .aload_n 0, 1, [], 0), (62, .getfield 24, 3, [10, 2, 302], 0), (65, .getfield 71, 3, [8, 1, 228], 0), (68, .iload 4, 2, [], 0), (70, .iaload, 1, [], 0), (71, .ishl, 1, [], 0), (72, .ior, 1, [], 0), (73, .istore_n 3, 1, [], 0), (74, .iinc 4 1, 3, [], 0), (77, .goto (-72), 3, [5], 0), (80, .iload_n 3, 1, [], 0), (81, .ireturn, 1, [], 0)])
def pj_m109 : pj_M := (yX10_tooShortBy, cX10_tooShortBy, 4, some (.int), [1096, 90, 1094, 1095], [(0, .iconst 0, 1, [], 0), (1, .istore_n 2, 1, [], 0), (2, .iconst 0, 1, [], 0), (3, .istore_n 3, 1, [], 0), (4, .iload_n 3, 1, [], 0), (5, .aload_n 0, 1, [], 0), (6, .getfield 24, 3, [10, 2, 302], 0), (9, .getfield 48, 3, [8, 0, 221], 0), (12, .if_icmp .ge 62, 3, [74], 0), (15, .aload_n 0, 1, [], 0), (16, .getfield 24, 3, [10, 2, 302], 0), (19, .iload_n 3, 1, [], 0), (20, .invokevirtual 167, 3, [0, 2, 69, 8, 1097], 0), (23, .ifCond .eq 45, 3, [68], 0), (26, .aload_n 0, 1, [], 0), (27, .getfield 35, 3, [10, 4, 310], 0), (30, .iload_n 3, 1, [], 0), (31, .iaload, 1, [], 0), (32, .aload_n 0, 1, [], 0), (33, .getfield 12, 3, [10, 0, 296], 0), (36, .getfield 116, 3, [5, 5, 192], 0), (39, .aload_n 0, 1, [], 0), (40, .getfield 24, 3, [10, 2, 302], 0), (43, .getfield 71, 3, [8, 1, 228], 0), (46, .iload_n 3, 1, [], 0), (47, .iaload, 1, [], 0), (48, .iaload, 1, [], 0), (49, .iload_n 1, 1, [], 0), (50, .iadd, 1, [], 0), (51, .if_icmp .ge 17, 3, [68], 0), (54, .iload_n 2, 1, [], 0), (55, .iconst 1, 1, [], 0), (56, .aload_n 0, 1, [], 0), (57, .getfield 24, 3, [10, 2, 302], 0), (60, .getfield 71, 3, [8, 1, 228], 0), (63, .iload_n 3, 1, [], 0), (64, .iaload, 1, [], 0), (65, .ishl, 1, [], 0), (66, .ior, 1, [], 0), (67, .istore_n 2, 1, [], 0), (68, .iinc 3 1, 3, [], 0), (71, .goto (-67), 3, [4], 0), (74, .iload_n 2, 1, [], 0), (75, .ireturn, 1, [], 0)])
def pj_m110 : pj_M := (yX10_canMove, cX10_canMove, 3, some (.boolean), [995, 90, 994, 10], [(0, .aload_n 0, 1, [], 0), (1, .getfield 24, 3, [10, 2, 302], 0), (4, .getfield 74, 3, [8, 2, 232], 0), (7, .iload_n 1, 1, [], 0), (8, .iaload, 1, [], 0), (9, .ifCond .ne 36, 3, [45], 0), (12, .aload_n 0, 1, [], 0), (13, .getfield 35, 3, [10, 4, 310], 0), (16, .iload_n 1, 1, [], 0), (17, .iaload, 1, [], 0), (18, .aload_n 0, 1, [], 0), (19, .getfield 12, 3, [10, 0, 296], 0), (22, .getfield 116, 3, [5, 5, 192], 0), (25, .iload_n 2, 1, [], 0), (26, .iaload, 1, [], 0), (27, .if_icmp .lt 18, 3, [45], 0), (30, .aload_n 0, 1, [], 0), (31, .getfield 24, 3, [10, 2, 302], 0), (34, .iload_n 2, 1, [], 0), (35, .invokevirtual 119, 3, [0, 2, 72, 8, 767], 0), (38, .ifCond .eq 7, 3, [45], 0), (41, .iconst 1, 1, [], 0), (42, .goto 4, 3, [46], 0), (45, .iconst 0, 1, [], 0), (46, .ireturn, 1, [], 0)])
def pj_m111 : pj_M := (yX10_openWithMove, cX10_openWithMove, 6, some (.int), [999, 90, 998, 11], [(0, .aload_n 0, 1, [], 0), (1, .getfield 24, 3, [10, 2, 302], 0), (4, .getfield 71, 3, [8, 1, 228], 0), (7, .iload_n 2, 1, [], 0), (8, .iaload, 1, [], 0), (9, .iconst (-1), 1, [], 0), (10, .if_icmp .ne 7, 3, [17], 0), (13, .iload_n 1, 1, [], 0), (14, .goto 18, 3, [32], 0), (17, .iload_n 1, 1, [], 0), (18, .iconst 1, 1, [], 0), (19, .aload_n 0, 1, [], 0), (20, .getfield 24, 3, [10, 2, 302], 0), (23, .getfield 71, 3, [8, 1, 228], 0), (26, .iload_n 2, 1, [], 0), (27, .iaload, 1, [], 0), (28, .ishl, 1, [], 0), (29, .iconst (-1), 1, [], 0), (30, .ixor, 1, [], 0), (31, .iand, 1, [], 0), (32, .istore 5, 2, [], 0), (34, .aload_n 0, 1, [], 0), (35, .getfield 24, 3, [10, 2, 302], 0), (38, .getfield 68, 3, [8, 3, 235], 0), (41, .iload_n 2, 1, [], 0), (42, .iaload, 1, [], 0), (43, .iload 4, 2, [], 0), (45, .if_icmp .lt 12, 3, [57], 0), (48, .iload 5, 2, [], 0), (50, .iconst 1, 1, [], 0), (51, .iload_n 3, 1, [], 0), (52, .ishl, 1, [], 0), (53, .ior, 1, [], 0), (54, .goto 5, 3, [59], 0), (57, .iload 5, 2, [], 0), (59, .ireturn, 1, [], 0)])
def pj_m112 : pj_M := (yX10_byOneMove, cX10_byOneMove, 7, some (.boolean), [991, 90, 989, 990], [(0, .iconst 0, 1, [], 0), (1, .istore 5, 2, [], 0), (3, .iload 5, 2, [], 0), (5, .aload_n 0, 1, [], 0), (6, .getfield 24, 3, [10, 2, 302], 0), (9, .getfield 48, 3, [8, 0, 221], 0), (12, .if_icmp .ge 89, 3, [101], 0), (15, .iconst 0, 1, [], 0), (16, .istore 6, 2, [], 0), (18, .iload 6, 2, [], 0), (20, .aload_n 0, 1, [], 0), (21, .getfield 12, 3, [10, 0, 296], 0), (24, .getfield 96, 3, [5, 1, 180], 0), (27, .if_icmp .ge 68, 3, [95], 0), (30, .aload_n 0, 1, [], 0), (31, .iload 5, 2, [], 0), (33, .iload 6, 2, [], 0), (35, .invokevirtual 170, 3, [0, 3, 110, 10, 992], 0), (38, .ifCond .eq 51, 3, [89], 0), (41, .aload_n 0, 1, [], 0), (42, .getfield 12, 3, [10, 0, 296], 0), (45, .aload_n 0, 1, [], 0), (46, .getfield 24, 3, [10, 2, 302], 0), (49, .getfield 87, 3, [8, 6, 246], 0), (52, .iload_n 2, 1, [], 0), (53, .iaload, 1, [], 0), (54, .iload_n 3, 1, [], 0), (55, .aload_n 0, 1, [], 0), (56, .iload 4, 2, [], 0), (58, .iload 5, 2, [], 0), (60, .iload 6, 2, [], 0), (62, .aload_n 0, 1, [], 0), (63, .getfield 39, 3, [10, 5, 315], 0), (66, .iload_n 2, 1, [], 0), (67, .iaload, 1, [], 0), (68, .invokevirtual 174, 3, [0, 5, 111, 10, 996], 0), (71, .invokevirtual 178, 3, [0, 4, 48, 5, 1000], 0), (74, .ifCond .eq 15, 3, [89], 0), (77, .aload_n 1, 1, [], 0), (78, .iload 5, 2, [], 0), (80, .i2l, 1, [], 0), (81, .iload 6, 2, [], 0), (83, .i2l, 1, [], 0), (84, .invokevirtual 182, 3, [0, 3, 56, 6, 1001], 0), (87, .iconst 1, 1, [], 0), (88, .ireturn, 1, [], 0), (89, .iinc 6 1, 3, [], 0), (92, .goto (-74), 3, [18], 0), (95, .iinc 5 1, 3, [], 0), (98, .goto (-95), 3, [3], 0), (101, .iconst 0, 1, [], 0), (102, .ireturn, 1, [], 0)])
def pj_m113 : pj_M := (yX10_byTwoMoves, cX10_byTwoMoves, 7, some (.boolean), [1005, 90, 1003, 1004], [(0, .iconst 0, 1, [], 0), (1, .istore 5, 2, [], 0), (3, .iload 5, 2, [], 0), (5, .aload_n 0, 1, [], 0), (6, .getfield 24, 3, [10, 2, 302], 0), (9, .getfield 48, 3, [8, 0, 221], 0), (12, .if_icmp .ge 59, 3, [71], 0), (15, .iconst 0, 1, [], 0), (16, .istore 6, 2, [], 0), (18, .iload 6, 2, [], 0), (20, .aload_n 0, 1, [], 0), (21, .getfield 12, 3, [10, 0, 296], 0), (24, .getfield 96, 3, [5, 1, 180], 0), (27, .if_icmp .ge 38, 3, [65], 0), (30, .aload_n 0, 1, [], 0), (31, .iload 5, 2, [], 0), (33, .iload 6, 2, [], 0), (35, .invokevirtual 170, 3, [0, 3, 110, 10, 992], 0), (38, .ifCond .eq 21, 3, [59], 0), (41, .aload_n 0, 1, [], 0), (42, .aload_n 1, 1, [], 0), (43, .iload_n 2, 1, [], 0), (44, .iload_n 3, 1, [], 0), (45, .iload 4, 2, [], 0), (47, .iload 5, 2, [], 0), (49, .iload 6, 2, [], 0), (51, .invokevirtual 188, 3, [0, 7, 114, 10, 1006], 0), (54, .ifCond .eq 5, 3, [59], 0), (57, .iconst 1, 1, [], 0), (58, .ireturn, 1, [], 0), (59, .iinc 6 1, 3, [], 0), (62, .goto (-44), 3, [18], 0), (65, .iinc 5 1, 3, [], 0), (68, .goto (-65), 3, [3], 0), (71, .iconst 0, 1, [], 0), (72, .ireturn, 1, [], 0)])
def pj_m114 : pj_M := (yX10_bySecondMove, cX10_bySecondMove, 10, some (.boolean), [1009, 90, 1008, 12], [(0, .aload_n 0, 1, [], 0), (1, .iload 4, 2, [], 0), (3, .iload 5, 2, [], 0), (5, .iload 6, 2, [], 0), (7, .aload_n 0, 1, [], 0), (8, .getfield 39, 3, [10, 5, 315], 0), (11, .iload_n 2, 1, [], 0), (12, .iaload, 1, [], 0), (13, .invokevirtual 174, 3, [0, 5, 111, 10, 996], 0), (16, .istore 7, 2, [], 0), (18, .iload 5, 2, [], 0), (20, .iconst 1, 1, [], 0), (21, .iadd, 1, [], 0), (22, .istore 8, 2, [], 0), (24, .iload 8, 2, [], 0), (26, .aload_n 0, 1, [], 0), (27, .getfield 24, 3, [10, 2, 302], 0), (30, .getfield 48, 3, [8, 0, 221], 0), (33, .if_icmp .ge 110, 3, [143], 0), (36, .iconst 0, 1, [], 0), (37, .istore 9, 2, [], 0), (39, .iload 9, 2, [], 0), (41, .aload_n 0, 1, [], 0), (42, .getfield 12, 3, [10, 0, 296], 0), (45, .getfield 96, 3, [5, 1, 180], 0), (48, .if_icmp .ge 89, 3, [137], 0), (51, .iload 9, 2, [], 0), (53, .iload 6, 2, [], 0), (55, .if_icmp .eq 76, 3, [131], 0), (58, .aload_n 0, 1, [], 0), (59, .iload 8, 2, [], 0), (61, .iload 9, 2, [], 0), (63, .invokevirtual 170, 3, [0, 3, 110, 10, 992], 0), (66, .ifCond .eq 65, 3, [131], 0), (69, .aload_n 0, 1, [], 0), (70, .getfield 12, 3, [10, 0, 296], 0), (73, .aload_n 0, 1, [], 0), (74, .getfield 24, 3, [10, 2, 302], 0), (77, .getfield 87, 3, [8, 6, 246], 0), (80, .iload_n 2, 1, [], 0), (81, .iaload, 1, [], 0), (82, .iload_n 3, 1, [], 0), (83, .aload_n 0, 1, [], 0), (84, .iload 7, 2, [], 0), (86, .iload 8, 2, [], 0), (88, .iload 9, 2, [], 0), (90, .aload_n 0, 1, [], 0), (91, .getfield 39, 3, [10, 5, 315], 0), (94, .iload_n 2, 1, [], 0), (95, .iaload, 1, [], 0), (96, .invokevirtual 174, 3, [0, 5, 111, 10, 996], 0), (99, .invokevirtual 178, 3, [0, 4, 48, 5, 1000], 0), (102, .ifCond .eq 29, 3, [131], 0), (105, .aload_n 1, 1, [], 0), (106, .iload 5, 2, [], 0), (108, .i2l, 1, [], 0), (109, .iload 6, 2, [], 0), (111, .i2l, 1, [], 0), (112, .invokevirtual 182, 3, [0, 3, 56, 6, 1001], 0), (115, .aload_n 1, 1, [], 0), (116, .iload 8, 2, [], 0), (118, .i2l, 1, [], 0), (119, .invokevirtual 192, 3, [0, 2, 54, 6, 1010], 0), (122, .aload_n 1, 1, [], 0), (123, .iload 9, 2, [], 0), (125, .i2l, 1, [], 0), (126, .invokevirtual 192, 3, [0, 2, 54, 6, 1010], 0), (129, .iconst 1, 1, [], 0), (130, .ireturn, 1, [], 0), (131, .iinc 9 1, 3, [], 0), (134, .goto (-95), 3, [39], 0), (137, .iinc 8 1, 3, [], 0), (140, .goto (-116), 3, [24], 0), (143, .iconst 0, 1, [], 0), (144, .ireturn, 1, [], 0)])
def pj_m115 : pj_M := (yX10_homeHour, cX10_homeHour, 2, some (.int), [1215, 90, 1213, 1214], [(0, .aload_n 0, 1, [], 0), (1, .getfield 24, 3, [10, 2, 302], 0), (4, .getfield 71, 3, [8, 1, 228], 0), (7, .iload_n 1, 1, [], 0), (8, .iaload, 1, [], 0), (9, .iconst (-1), 1, [], 0), (10, .if_icmp .ne 21, 3, [31], 0), (13, .aload_n 0, 1, [], 0), (14, .getfield 24, 3, [10, 2, 302], 0), (17, .getfield 55, 3, [8, 7, 248], 0), (20, .aload_n 0, 1, [], 0), (21, .getfield 24, 3, [10, 2, 302], 0), (24, .getfield 74, 3, [8, 2, 232], 0), (27, .iload_n 1, 1, [], 0), (28, .iaload, 1, [], 0), (29, .iadd, 1, [], 0), (30, .ireturn, 1, [], 0), (31, .aload_n 0, 1, [], 0), (32, .getfield 24, 3, [10, 2, 302], 0), (35, .getfield 74, 3, [8, 2, 232], 0), (38, .iload_n 1, 1, [], 0), (39, .iaload, 1, [], 0), (40, .ifCond .le 7, 3, [47], 0), (43, .iconst (-1), 1, [], 0), (44, .goto 17, 3, [61], 0), (47, .aload_n 0, 1, [], 0), (48, .getfield 24, 3, [10, 2, 302], 0), (51, .getfield 55, 3, [8, 7, 248], 0), (54, .aload_n 0, 1, [], 0), (55, .iload_n 1, 1, [], 0), (56, .iconst (-1), 1, [], 0), (57, .invokevirtual 122, 3, [0, 3, 101, 10, 779], 0), (60, .iadd, 1, [], 0), (61, .ireturn, 1, [], 0)])
def pj_m116 : pj_M := (yX11_init, cX11_init, 1, none, [116, 87, 115, 0], [(0, .aload_n 0, 1, [], 0), (1, .invokespecial 1, 3, [6, 1, 0, 0, 117, 118, 119], 0), (4, .aload_n 0, 1, [], 0), (5, .new 7, 3, [9, 120, 121, 88], 0), (8, .dup, 1, [], 0), (9, .invokespecial 9, 3, [4, 1, 76, 0, 122], 0), (12, .putfield 10, 3, [11, 0, 452], 0), (15, .aload_n 0, 1, [], 0), (16, .new 16, 3, [6, 144, 145, 89], 0), (19, .dup, 1, [], 0), (20, .invokespecial 18, 3, [4, 1, 52, 0, 146], 0), (23, .putfield 19, 3, [11, 1, 453], 0), (26, .aload_n 0, 1, [], 0), (27, .new 23, 3, [10, 160, 161, 90], 0), (30, .dup, 1, [], 0), (31, .invokespecial 25, 3, [4, 1, 89, 0, 162], 0), (34, .putfield 26, 3, [11, 2, 454], 0), (37, .aload_n 0, 1, [], 0), (38, .new 30, 3, [3, 341, 342, 94], 0), (41, .dup, 1, [], 0), (42, .aload_n 0, 1, [], 0), (43, .getfield 26, 3, [11, 2, 454], 0), (46, .invokespecial 32, 3, [4, 2, 22, 0, 343], 0), (49, .putfield 35, 3, [11, 3, 455], 0), (52, .aload_n 0, 1, [], 0), (53, .new 39, 3, [1, 363, 364, 95], 0), (56, .dup, 1, [], 0), (57, .aload_n 0, 1, [], 0), (58, .getfield 26, 3, [11, 2, 454], 0), (61, .invokespecial 41, 3, [4, 2, 5, 0, 365], 0), (64, .putfield 42, 3, [11, 4, 456], 0), (67, .aload_n 0, 1, [], 0), (68, .new 46, 3, [2, 384, 385, 96], 0), (71, .dup, 1, [], 0), (72, .aload_n 0, 1, [], 0), (73, .getfield 26, 3, [11, 2, 454], 0), (76, .invokespecial 48, 3, [4, 2, 15, 0, 386], 0), (79, .putfield 49, 3, [11, 5, 457], 0), (82, .aload_n 0, 1, [], 0), (83, .new 53, 3, [0, 405, 406, 97], 0), (86, .dup, 1, [], 0), (87, .invokespecial 55, 3, [4, 1, 0, 0, 407], 0), (90, .putfield 56, 3, [11, 6, 458], 0), (93, .aload_n 0, 1, [], 0), (94, .new 60, 3, [4, 425, 426, 98], 0), (97, .dup, 1, [], 0), (98, .invokespecial 62, 3, [4, 1, 32, 0, 427], 0), (101, .putfield 63, 3, [11, 7, 459], 0), (104, .return_, 1, [], 0)])
def pj_m117 : pj_M := (yX11_sign, cX11_sign, 2, some (.int), [480, 87, 478, 479], [(0, .aload_n 0, 1, [], 0), (1, .getfield 10, 3, [11, 0, 452], 0), (4, .iload_n 1, 1, [], 0), (5, .invokevirtual 67, 3, [0, 2, 77, 9, 481], 0), (8, .ireturn, 1, [], 0)])
def pj_m118 : pj_M := (yX11_end, cX11_end, 2, some (.boolean), [488, 87, 486, 487], [(0, .aload_n 0, 1, [], 0), (1, .getfield 10, 3, [11, 0, 452], 0), (4, .iload_n 1, 1, [], 0), (5, .invokevirtual 71, 3, [0, 2, 78, 9, 489], 0), (8, .ireturn, 1, [], 0)])
def pj_m119 : pj_M := (yX11_river, cX11_river, 2, some (.int), [496, 87, 494, 495], [(0, .aload_n 0, 1, [], 0), (1, .getfield 10, 3, [11, 0, 452], 0), (4, .bipush 72, 2, [], 0), (6, .invokevirtual 75, 3, [0, 2, 79, 9, 497], 0), (9, .aload_n 0, 1, [], 0), (10, .getfield 26, 3, [11, 2, 454], 0), (13, .getfield 79, 3, [10, 1, 301], 0), (16, .aload_n 0, 1, [], 0), (17, .getfield 10, 3, [11, 0, 452], 0), (20, .invokevirtual 83, 3, [0, 2, 41, 5, 504], 0), (23, .aload_n 0, 1, [], 0), (24, .getfield 10, 3, [11, 0, 452], 0), (27, .invokevirtual 89, 3, [0, 1, 88, 9, 537], 0), (30, .istore_n 1, 1, [], 0), (31, .iload_n 1, 1, [], 0), (32, .iconst (-1), 1, [], 0), (33, .if_icmp .eq 8, 3, [41], 0), (36, .iload_n 1, 1, [], 0), (37, .invokestatic 93, 3, [2, 1, 162, 0, 541], 0), (40, .ireturn, 1, [], 0), (41, .aload_n 0, 1, [], 0), (42, .getfield 26, 3, [11, 2, 454], 0), (45, .invokevirtual 96, 3, [0, 1, 90, 10, 544], 0), (48, .aload_n 0, 1, [], 0), (49, .getfield 63, 3, [11, 7, 459], 0), (52, .invokevirtual 99, 3, [0, 1, 37, 4, 552], 0), (55, .aload_n 0, 1, [], 0), (56, .getfield 26, 3, [11, 2, 454], 0), (59, .getfield 102, 3, [10, 0, 299], 0), (62, .getfield 105, 3, [5, 1, 179], 0), (65, .ireturn, 1, [], 0)])
def pj_m120 : pj_M := (yX11_bridges, cX11_bridges, 3, some (.int), [563, 87, 561, 562], [(0, .aload_n 0, 1, [], 0), (1, .getfield 10, 3, [11, 0, 452], 0), (4, .bipush 17, 2, [], 0), (6, .invokevirtual 75, 3, [0, 2, 79, 9, 497], 0), (9, .aload_n 0, 1, [], 0), (10, .getfield 26, 3, [11, 2, 454], 0), (13, .aload_n 0, 1, [], 0), (14, .getfield 10, 3, [11, 0, 452], 0), (17, .invokevirtual 109, 3, [0, 2, 91, 10, 564], 0), (20, .istore_n 1, 1, [], 0), (21, .aload_n 0, 1, [], 0), (22, .getfield 10, 3, [11, 0, 452], 0), (25, .invokevirtual 89, 3, [0, 1, 88, 9, 537], 0), (28, .istore_n 2, 1, [], 0), (29, .iload_n 2, 1, [], 0), (30, .iconst (-1), 1, [], 0), (31, .if_icmp .eq 8, 3, [39], 0), (34, .iload_n 2, 1, [], 0), (35, .invokestatic 93, 3, [2, 1, 162, 0, 541], 0), (38, .ireturn, 1, [], 0), (39, .aload_n 0, 1, [], 0), (40, .getfield 26, 3, [11, 2, 454], 0), (43, .getfield 113, 3, [10, 2, 305], 0), (46, .dup, 1, [], 0), (47, .getfield 117, 3, [8, 0, 223], 0), (50, .iload_n 1, 1, [], 0), (51, .iadd, 1, [], 0), (52, .putfield 117, 3, [8, 0, 223], 0), (55, .aload_n 0, 1, [], 0), (56, .iload_n 1, 1, [], 0), (57, .ifCond .le 7, 3, [64], 0), (60, .iconst 1, 1, [], 0), (61, .goto 4, 3, [65], 0), (64, .iconst 0, 1, [], 0), (65, .invokevirtual 122, 3, [0, 2, 161, 11, 572], 0), (68, .iload_n 1, 1, [], 0), (69, .ireturn, 1, [], 0)])
def pj_m121 : pj_M := (yX11_people, cX11_people, 3, some (.int), [580, 87, 578, 579], [(0, .aload_n 0, 1, [], 0), (1, .getfield 10, 3, [11, 0, 452], 0), (4, .bipush 17, 2, [], 0), (6, .invokevirtual 75, 3, [0, 2, 79, 9, 497], 0), (9, .aload_n 0, 1, [], 0), (10, .getfield 26, 3, [11, 2, 454], 0), (13, .aload_n 0, 1, [], 0), (14, .getfield 10, 3, [11, 0, 452], 0), (17, .invokevirtual 126, 3, [0, 2, 92, 10, 581], 0), (20, .istore_n 1, 1, [], 0), (21, .aload_n 0, 1, [], 0), (22, .getfield 10, 3, [11, 0, 452], 0), (25, .invokevirtual 89, 3, [0, 1, 88, 9, 537], 0), (28, .istore_n 2, 1, [], 0), (29, .iload_n 2, 1, [], 0), (30, .iconst (-1), 1, [], 0), (31, .if_icmp .eq 8, 3, [39], 0), (34, .iload_n 2, 1, [], 0), (35, .invokestatic 93, 3, [2, 1, 162, 0, 541], 0), (38, .ireturn, 1, [], 0), (39, .aload_n 0, 1, [], 0), (40, .getfield 26, 3, [11, 2, 454], 0), (43, .getfield 113, 3, [10, 2, 305], 0), (46, .dup, 1, [], 0), (47, .getfield 129, 3, [8, 5, 243], 0), (50, .iload_n 1, 1, [], 0), (51, .iadd, 1, [], 0), (52, .putfield 129, 3, [8, 5, 243], 0), (55, .aload_n 0, 1, [], 0), (56, .iload_n 1, 1, [], 0), (57, .ifCond .le 7, 3, [64], 0), (60, .iconst 1, 1, [], 0), (61, .goto 4, 3, [65], 0), (64, .iconst 0, 1, [], 0), (65, .invokevirtual 122, 3, [0, 2, 161, 11, 572], 0), (68, .iload_n 1, 1, [], 0), (69, .ireturn, 1, [], 0)])
def pj_m122 : pj_M := (yX11_rule, cX11_rule, 2, some (.int), [589, 87, 587, 588], [(0, .aload_n 0, 1, [], 0), (1, .getfield 10, 3, [11, 0, 452], 0), (4, .bipush 40, 2, [], 0), (6, .invokevirtual 75, 3, [0, 2, 79, 9, 497], 0), (9, .aload_n 0, 1, [], 0), (10, .getfield 26, 3, [11, 2, 454], 0), (13, .getfield 132, 3, [10, 3, 309], 0), (16, .aload_n 0, 1, [], 0), (17, .getfield 10, 3, [11, 0, 452], 0), (20, .invokevirtual 136, 3, [0, 2, 58, 7, 590], 0), (23, .aload_n 0, 1, [], 0), (24, .getfield 10, 3, [11, 0, 452], 0), (27, .invokevirtual 89, 3, [0, 1, 88, 9, 537], 0), (30, .istore_n 1, 1, [], 0), (31, .iload_n 1, 1, [], 0), (32, .iconst (-1), 1, [], 0), (33, .if_icmp .eq 8, 3, [41], 0), (36, .iload_n 1, 1, [], 0), (37, .invokestatic 93, 3, [2, 1, 162, 0, 541], 0), (40, .ireturn, 1, [], 0), (41, .aload_n 0, 1, [], 0), (42, .getfield 26, 3, [11, 2, 454], 0), (45, .getfield 132, 3, [10, 3, 309], 0), (48, .invokevirtual 139, 3, [0, 1, 59, 7, 733], 0), (51, .iconst 0, 1, [], 0), (52, .ireturn, 1, [], 0)])
def pj_m123 : pj_M := (yX11_crossing, cX11_crossing, 3, some (.int), [1282, 87, 1280, 1281], [(0, .aload_n 0, 1, [], 0), (1, .getfield 26, 3, [11, 2, 454], 0), (4, .iload_n 1, 1, [], 0), (5, .invokevirtual 142, 3, [0, 2, 94, 10, 1113], 0), (8, .ifCond .eq 12, 3, [20], 0), (11, .iload_n 2, 1, [], 0), (12, .ifCond .lt 8, 3, [20], 0), (15, .iload_n 2, 1, [], 0), (16, .iconst 5, 1, [], 0), (17, .if_icmp .le 13, 3, [30], 0), (30, .iload_n 2, 1, [], 0), (31, .tableswitch 97 0 4 #[33, 46, 59, 72, 85], 33, [], 0), (64, .aload_n 0, 1, [], 0), (65, .getfield 26, 3, [11, 2, 454], 0), (68, .getfield 102, 3, [10, 0, 299], 0), (71, .getfield 152, 3, [5, 2, 182], 0), (74, .iload_n 1, 1, [], 0), (75, .iaload, 1, [], 0), (76, .ireturn, 1, [], 0), (77, .aload_n 0, 1, [], 0), (78, .getfield 26, 3, [11, 2, 454], 0), (81, .getfield 102, 3, [10, 0, 299], 0), (84, .getfield 156, 3, [5, 3, 184], 0), (87, .iload_n 1, 1, [], 0), (88, .iaload, 1, [], 0), (89, .ireturn, 1, [], 0), (90, .aload_n 0, 1, [], 0), (91, .getfield 26, 3, [11, 2, 454], 0), (94, .getfield 102, 3, [10, 0, 299], 0), (97, .getfield 159, 3, [5, 4, 186], 0), (100, .iload_n 1, 1, [], 0), (101, .iaload, 1, [], 0), (102, .ireturn, 1, [], 0), (103, .aload_n 0, 1, [], 0), (104, .getfield 26, 3, [11, 2, 454], 0), (107, .getfield 102, 3, [10, 0, 299], 0), (110, .getfield 162, 3, [5, 5, 190], 0), (113, .iload_n 1, 1, [], 0), (114, .iaload, 1, [], 0), (115, .ireturn, 1, [], 0), (116, .aload_n 0, 1, [], 0), (117, .getfield 26, 3, [11, 2, 454], 0), (120, .getfield 113, 3, [10, 2, 305], 0), (123, .iload_n 1, 1, [], 0), (124, .invokevirtual 165, 3, [0, 2, 70, 8, 1348], 0), (127, .ireturn, 1, [], 0), (128, .aload_n 0, 1, [], 0), (129, .getfield 26, 3, [11, 2, 454], 0), (132, .getfield 113, 3, [10, 2, 305], 0), (135, .iload_n 1, 1, [], 0), (136, .invokevirtual 168, 3, [0, 2, 71, 8, 1349], 0), (139, .ireturn, 1, [], 0)])
def pj_m124 : pj_M := (yX11_bridge, cX11_bridge, 3, some (.int), [1356, 87, 1354, 1355], [(0, .aload_n 0, 1, [], 0), (1, .getfield 26, 3, [11, 2, 454], 0), (4, .iload_n 1, 1, [], 0), (5, .invokevirtual 171, 3, [0, 2, 95, 10, 1114], 0), (8, .ifCond .eq 12, 3, [20], 0), (11, .iload_n 2, 1, [], 0), (12, .ifCond .lt 8, 3, [20], 0), (15, .iload_n 2, 1, [], 0), (16, .iconst 4, 1, [], 0), (17, .if_icmp .le 13, 3, [30], 0), (30, .iload_n 2, 1, [], 0), (31, .tableswitch 78 0 3 #[29, 39, 52, 65], 29, [], 0), (60, .aload_n 0, 1, [], 0), (61, .getfield 26, 3, [11, 2, 454], 0), (64, .getfield 176, 3, [10, 4, 314], 0), (67, .iload_n 1, 1, [], 0), (68, .iaload, 1, [], 0), (69, .ireturn, 1, [], 0), (70, .aload_n 0, 1, [], 0), (71, .getfield 26, 3, [11, 2, 454], 0), (74, .getfield 113, 3, [10, 2, 305], 0), (77, .getfield 179, 3, [8, 3, 237], 0), (80, .iload_n 1, 1, [], 0), (81, .iaload, 1, [], 0), (82, .ireturn, 1, [], 0), (83, .aload_n 0, 1, [], 0), (84, .getfield 26, 3, [11, 2, 454], 0), (87, .getfield 113, 3, [10, 2, 305], 0), (90, .getfield 182, 3, [8, 1, 230], 0), (93, .iload_n 1, 1, [], 0), (94, .iaload, 1, [], 0), (95, .ireturn, 1, [], 0), (96, .aload_n 0, 1, [], 0), (97, .getfield 26, 3, [11, 2, 454], 0), (100, .getfield 113, 3, [10, 2, 305], 0), (103, .getfield 185, 3, [8, 2, 233], 0), (106, .iload_n 1, 1, [], 0), (107, .iaload, 1, [], 0), (108, .ireturn, 1, [], 0), (109, .aload_n 0, 1, [], 0), (110, .getfield 26, 3, [11, 2, 454], 0), (113, .getfield 113, 3, [10, 2, 305], 0), (116, .getfield 188, 3, [8, 4, 240], 0), (119, .iload_n 1, 1, [], 0), (120, .iaload, 1, [], 0), (121, .ireturn, 1, [], 0)])
def pj_m125 : pj_M := (yX11_person, cX11_person, 3, some (.int), [1364, 87, 1362, 1363], [(0, .aload_n 0, 1, [], 0), (1, .getfield 26, 3, [11, 2, 454], 0), (4, .iload_n 1, 1, [], 0), (5, .invokevirtual 191, 3, [0, 2, 96, 10, 920], 0), (8, .ifCond .eq 12, 3, [20], 0), (11, .iload_n 2, 1, [], 0), (12, .ifCond .lt 8, 3, [20], 0), (15, .iload_n 2, 1, [], 0), (16, .iconst 1, 1, [], 0), (17, .if_icmp .le 13, 3, [30], 0), (30, .iload_n 2, 1, [], 0), (31, .ifCond .ne 18, 3, [49], 0), (34, .aload_n 0, 1, [], 0), (35, .getfield 26, 3, [11, 2, 454], 0), (38, .getfield 113, 3, [10, 2, 305], 0), (41, .getfield 196, 3, [8, 6, 247], 0), (44, .iload_n 1, 1, [], 0), (45, .iaload, 1, [], 0), (46, .goto 12, 3, [58], 0), (49, .aload_n 0, 1, [], 0), (50, .getfield 26, 3, [11, 2, 454], 0), (53, .getfield 199, 3, [10, 5, 316], 0), (56, .iload_n 1, 1, [], 0), (57, .iaload, 1, [], 0), (58, .ireturn, 1, [], 0)])
def pj_m126 : pj_M := (yX11_sheet, cX11_sheet, 5, some (.int), [741, 87, 739, 740], [(0, .iload_n 1, 1, [], 0), (1, .ifCond .lt 14, 3, [15], 0), (4, .iload_n 1, 1, [], 0), (5, .iconst 3, 1, [], 0), (6, .if_icmp .gt 9, 3, [15], 0), (9, .iload_n 2, 1, [], 0), (10, .bipush 6, 2, [], 0), (12, .if_icmp .le 5, 3, [17], 0), (15, .iconst (-1), 1, [], 0), (16, .ireturn, 1, [], 0), (17, .iload_n 1, 1, [], 0), (18, .iconst 3, 1, [], 0), (19, .if_icmp .ne 18, 3, [37], 0), (22, .aload_n 0, 1, [], 0), (23, .getfield 26, 3, [11, 2, 454], 0), (26, .iload_n 1, 1, [], 0), (27, .iconst 0, 1, [], 0), (28, .iconst 0, 1, [], 0), (29, .iconst 0, 1, [], 0), (30, .invokevirtual 202, 3, [0, 5, 97, 10, 742], 0), (33, .pop, 1, [], 0), (34, .bipush (-3), 2, [], 0), (36, .ireturn, 1, [], 0), (37, .iload_n 2, 1, [], 0), (38, .ifCond .ge 6, 3, [44], 0), (41, .bipush (-2), 2, [], 0), (43, .ireturn, 1, [], 0), (44, .aload_n 0, 1, [], 0), (45, .getfield 26, 3, [11, 2, 454], 0), (48, .iload_n 1, 1, [], 0), (49, .iload_n 2, 1, [], 0), (50, .iload_n 3, 1, [], 0), (51, .iload 4, 2, [], 0), (53, .invokevirtual 202, 3, [0, 5, 97, 10, 742], 0), (56, .ireturn, 1, [], 0)])
def pj_m127 : pj_M := (yX11_takes, cX11_takes, 3, some (.int), [754, 87, 752, 753], [(0, .aload_n 0, 1, [], 0), (1, .getfield 26, 3, [11, 2, 454], 0), (4, .iload_n 1, 1, [], 0), (5, .iload_n 2, 1, [], 0), (6, .invokevirtual 206, 3, [0, 3, 99, 10, 755], 0), (9, .ireturn, 1, [], 0)])
def pj_m128 : pj_M := (yX11_tow, cX11_tow, 4, some (.int), [800, 87, 798, 799], [(0, .aload_n 0, 1, [], 0), (1, .getfield 63, 3, [11, 7, 459], 0), (4, .aload_n 0, 1, [], 0), (5, .getfield 26, 3, [11, 2, 454], 0), (8, .getfield 113, 3, [10, 2, 305], 0), (11, .invokevirtual 210, 3, [0, 2, 33, 4, 801], 0), (14, .aload_n 0, 1, [], 0), (15, .getfield 26, 3, [11, 2, 454], 0), (18, .iload_n 1, 1, [], 0), (19, .iload_n 2, 1, [], 0), (20, .invokevirtual 214, 3, [0, 3, 102, 10, 812], 0), (23, .istore_n 3, 1, [], 0), (24, .aload_n 0, 1, [], 0), (25, .getfield 63, 3, [11, 7, 459], 0), (28, .iload_n 3, 1, [], 0), (29, .ifCond .lt 7, 3, [36], 0), (32, .iconst 1, 1, [], 0), (33, .goto 4, 3, [37], 0), (36, .iconst 0, 1, [], 0), (37, .invokevirtual 217, 3, [0, 2, 34, 4, 817], 0), (40, .iload_n 3, 1, [], 0), (41, .ireturn, 1, [], 0)])
def pj_m129 : pj_M := (yX11_lend, cX11_lend, 4, some (.int), [825, 87, 823, 824], [(0, .aload_n 0, 1, [], 0), (1, .getfield 63, 3, [11, 7, 459], 0), (4, .aload_n 0, 1, [], 0), (5, .getfield 26, 3, [11, 2, 454], 0), (8, .getfield 113, 3, [10, 2, 305], 0), (11, .invokevirtual 210, 3, [0, 2, 33, 4, 801], 0), (14, .aload_n 0, 1, [], 0), (15, .getfield 26, 3, [11, 2, 454], 0), (18, .iload_n 1, 1, [], 0), (19, .iload_n 2, 1, [], 0), (20, .invokevirtual 220, 3, [0, 3, 103, 10, 826], 0), (23, .istore_n 3, 1, [], 0), (24, .aload_n 0, 1, [], 0), (25, .getfield 63, 3, [11, 7, 459], 0), (28, .iload_n 3, 1, [], 0), (29, .iconst (-1), 1, [], 0), (30, .if_icmp .lt 7, 3, [37], 0), (33, .iconst 1, 1, [], 0), (34, .goto 4, 3, [38], 0), (37, .iconst 0, 1, [], 0), (38, .invokevirtual 217, 3, [0, 2, 34, 4, 817], 0), (41, .iload_n 3, 1, [], 0), (42, .ireturn, 1, [], 0)])
def pj_m130 : pj_M := (yX11_cross, cX11_cross, 4, some (.int), [834, 87, 832, 833], [(0, .aload_n 0, 1, [], 0), (1, .getfield 63, 3, [11, 7, 459], 0), (4, .aload_n 0, 1, [], 0), (5, .getfield 26, 3, [11, 2, 454], 0), (8, .getfield 113, 3, [10, 2, 305], 0), (11, .invokevirtual 210, 3, [0, 2, 33, 4, 801], 0), (14, .aload_n 0, 1, [], 0), (15, .getfield 26, 3, [11, 2, 454], 0), (18, .iload_n 1, 1, [], 0), (19, .iload_n 2, 1, [], 0), (20, .invokevirtual 223, 3, [0, 3, 104, 10, 835], 0), (23, .istore_n 3, 1, [], 0), (24, .aload_n 0, 1, [], 0), (25, .getfield 63, 3, [11, 7, 459], 0), (28, .iload_n 3, 1, [], 0), (29, .ifCond .lt 7, 3, [36], 0), (32, .iconst 1, 1, [], 0), (33, .goto 4, 3, [37], 0), (36, .iconst 0, 1, [], 0), (37, .invokevirtual 217, 3, [0, 2, 34, 4, 817], 0), (40, .iload_n 3, 1, [], 0), (41, .ireturn, 1, [], 0)])
def pj_m131 : pj_M := (yX11_hours, cX11_hours, 2, some (.int), [851, 87, 849, 850], [(0, .iload_n 1, 1, [], 0), (1, .ifCond .lt 9, 3, [10], 0), (4, .iload_n 1, 1, [], 0), (5, .bipush 99, 2, [], 0), (7, .if_icmp .le 5, 3, [12], 0), (10, .iconst (-1), 1, [], 0), (11, .ireturn, 1, [], 0), (12, .aload_n 0, 1, [], 0), (13, .getfield 63, 3, [11, 7, 459], 0), (16, .aload_n 0, 1, [], 0), (17, .getfield 26, 3, [11, 2, 454], 0), (20, .getfield 113, 3, [10, 2, 305], 0), (23, .invokevirtual 210, 3, [0, 2, 33, 4, 801], 0), (26, .aload_n 0, 1, [], 0), (27, .getfield 26, 3, [11, 2, 454], 0), (30, .iload_n 1, 1, [], 0), (31, .invokevirtual 226, 3, [0, 2, 105, 10, 852], 0), (34, .aload_n 0, 1, [], 0), (35, .getfield 63, 3, [11, 7, 459], 0), (38, .iconst 1, 1, [], 0), (39, .invokevirtual 217, 3, [0, 2, 34, 4, 817], 0), (42, .aload_n 0, 1, [], 0), (43, .getfield 19, 3, [11, 1, 453], 0), (46, .aload_n 0, 1, [], 0), (47, .getfield 26, 3, [11, 2, 454], 0), (50, .getfield 229, 3, [10, 7, 318], 0), (53, .i2l, 1, [], 0), (54, .aload_n 0, 1, [], 0), (55, .getfield 26, 3, [11, 2, 454], 0), (58, .getfield 232, 3, [10, 8, 320], 0), (61, .i2l, 1, [], 0), (62, .invokevirtual 235, 3, [0, 3, 56, 6, 864], 0), (65, .aload_n 0, 1, [], 0), (66, .getfield 26, 3, [11, 2, 454], 0), (69, .getfield 113, 3, [10, 2, 305], 0), (72, .getfield 239, 3, [8, 7, 251], 0), (75, .ireturn, 1, [], 0)])
def pj_m132 : pj_M := (yX11_day, cX11_day, 4, some (.int), [879, 87, 877, 878], [(0, .aload_n 0, 1, [], 0), (1, .getfield 10, 3, [11, 0, 452], 0), (4, .bipush 60, 2, [], 0), (6, .invokevirtual 75, 3, [0, 2, 79, 9, 497], 0), (9, .aload_n 0, 1, [], 0), (10, .getfield 56, 3, [11, 6, 458], 0), (13, .aload_n 0, 1, [], 0), (14, .getfield 10, 3, [11, 0, 452], 0), (17, .invokevirtual 242, 3, [0, 2, 1, 0, 880], 0), (20, .aload_n 0, 1, [], 0), (21, .getfield 10, 3, [11, 0, 452], 0), (24, .invokevirtual 89, 3, [0, 1, 88, 9, 537], 0), (27, .istore_n 1, 1, [], 0), (28, .iload_n 1, 1, [], 0), (29, .iconst (-1), 1, [], 0), (30, .if_icmp .eq 8, 3, [38], 0), (33, .iload_n 1, 1, [], 0), (34, .invokestatic 93, 3, [2, 1, 162, 0, 541], 0), (37, .ireturn, 1, [], 0), (38, .aload_n 0, 1, [], 0), (39, .getfield 63, 3, [11, 7, 459], 0), (42, .aload_n 0, 1, [], 0), (43, .getfield 26, 3, [11, 2, 454], 0), (46, .getfield 113, 3, [10, 2, 305], 0), (49, .invokevirtual 210, 3, [0, 2, 33, 4, 801], 0), (52, .aload_n 0, 1, [], 0), (53, .getfield 26, 3, [11, 2, 454], 0), (56, .getfield 113, 3, [10, 2, 305], 0), (59, .getfield 243, 3, [8, 8, 253], 0), (62, .istore_n 2, 1, [], 0), (63, .aload_n 0, 1, [], 0), (64, .getfield 56, 3, [11, 6, 458], 0), (67, .aload_n 0, 1, [], 0), (68, .getfield 26, 3, [11, 2, 454], 0), (71, .invokevirtual 246, 3, [0, 2, 3, 0, 895], 0), (74, .istore_n 3, 1, [], 0), (75, .aload_n 0, 1, [], 0), (76, .getfield 63, 3, [11, 7, 459], 0), (79, .iload_n 3, 1, [], 0), (80, .ifCond .le 7, 3, [87], 0), (83, .iconst 1, 1, [], 0), (84, .goto 4, 3, [88], 0), (87, .iconst 0, 1, [], 0), (88, .invokevirtual 217, 3, [0, 2, 34, 4, 817], 0), (91, .aload_n 0, 1, [], 0), (92, .getfield 19, 3, [11, 1, 453], 0), (95, .iload_n 3, 1, [], 0), (96, .aload_n 0, 1, [], 0), (97, .getfield 56, 3, [11, 6, 458], 0), (100, .getfield 250, 3, [0, 3, 415], 0), (103, .if_icmp .ge 7, 3, [110], 0), (106, .lconst 1, 1, [], 0), (107, .goto 4, 3, [111], 0), (110, .lconst 0, 1, [], 0), (111, .aload_n 0, 1, [], 0), (112, .getfield 26, 3, [11, 2, 454], 0), (115, .getfield 113, 3, [10, 2, 305], 0), (118, .getfield 243, 3, [8, 8, 253], 0), (121, .iload_n 2, 1, [], 0), (122, .isub, 1, [], 0), (123, .i2l, 1, [], 0), (124, .invokevirtual 235, 3, [0, 3, 56, 6, 864], 0), (127, .iload_n 3, 1, [], 0), (128, .ireturn, 1, [], 0)])
def pj_m133 : pj_M := (yX11_undo, cX11_undo, 1, some (.int), [910, 87, 908, 909], [(0, .aload_n 0, 1, [], 0), (1, .getfield 63, 3, [11, 7, 459], 0), (4, .getfield 253, 3, [4, 2, 437], 0), (7, .ifCond .ne 5, 3, [12], 0), (10, .iconst (-1), 1, [], 0), (11, .ireturn, 1, [], 0), (12, .aload_n 0, 1, [], 0), (13, .getfield 26, 3, [11, 2, 454], 0), (16, .getfield 113, 3, [10, 2, 305], 0), (19, .aload_n 0, 1, [], 0), (20, .getfield 63, 3, [11, 7, 459], 0), (23, .invokevirtual 254, 3, [0, 1, 35, 4, 911], 0), (26, .invokevirtual 258, 3, [0, 2, 68, 8, 915], 0), (29, .aload_n 0, 1, [], 0), (30, .getfield 63, 3, [11, 7, 459], 0), (33, .getfield 253, 3, [4, 2, 437], 0), (36, .ireturn, 1, [], 0)])
def pj_m134 : pj_M := (yX11_route, cX11_route, 6, some (.int), [919, 87, 917, 918], [(0, .aload_n 0, 1, [], 0), (1, .getfield 26, 3, [11, 2, 454], 0), (4, .iload_n 1, 1, [], 0), (5, .invokevirtual 191, 3, [0, 2, 96, 10, 920], 0), (8, .ifCond .eq 14, 3, [22], 0), (11, .aload_n 0, 1, [], 0), (12, .getfield 26, 3, [11, 2, 454], 0), (15, .iload_n 2, 1, [], 0), (16, .invokevirtual 261, 3, [0, 2, 93, 10, 921], 0), (19, .ifCond .ne 5, 3, [24], 0), (22, .iconst (-1), 1, [], 0), (23, .ireturn, 1, [], 0), (24, .aload_n 0, 1, [], 0), (25, .getfield 26, 3, [11, 2, 454], 0), (28, .getfield 113, 3, [10, 2, 305], 0), (31, .getfield 196, 3, [8, 6, 247], 0), (34, .iload_n 1, 1, [], 0), (35, .iaload, 1, [], 0), (36, .istore_n 3, 1, [], 0), (37, .aload_n 0, 1, [], 0), (38, .getfield 26, 3, [11, 2, 454], 0), (41, .aload_n 0, 1, [], 0), (42, .getfield 26, 3, [11, 2, 454], 0), (45, .getfield 199, 3, [10, 5, 316], 0), (48, .iload_n 1, 1, [], 0), (49, .iaload, 1, [], 0), (50, .iconst 0, 1, [], 0), (51, .invokevirtual 264, 3, [0, 3, 108, 10, 925], 0), (54, .istore 4, 2, [], 0), (56, .aload_n 0, 1, [], 0), (57, .getfield 26, 3, [11, 2, 454], 0), (60, .getfield 102, 3, [10, 0, 299], 0), (63, .iload_n 3, 1, [], 0), (64, .iload_n 2, 1, [], 0), (65, .iload 4, 2, [], 0), (67, .invokevirtual 267, 3, [0, 4, 50, 5, 929], 0), (70, .istore 5, 2, [], 0), (72, .iload 5, 2, [], 0), (74, .iconst (-1), 1, [], 0), (75, .if_icmp .ne 6, 3, [81], 0), (78, .bipush (-2), 2, [], 0), (80, .ireturn, 1, [], 0), (81, .aload_n 0, 1, [], 0), (82, .getfield 19, 3, [11, 1, 453], 0), (85, .invokevirtual 271, 3, [0, 1, 53, 6, 940], 0), (88, .aload_n 0, 1, [], 0), (89, .getfield 26, 3, [11, 2, 454], 0), (92, .getfield 102, 3, [10, 0, 299], 0), (95, .aload_n 0, 1, [], 0), (96, .getfield 19, 3, [11, 1, 453], 0), (99, .iload_n 3, 1, [], 0), (100, .iload_n 2, 1, [], 0), (101, .iload 5, 2, [], 0), (103, .iload 4, 2, [], 0), (105, .invokevirtual 274, 3, [0, 6, 51, 5, 941], 0), (108, .iload 5, 2, [], 0), (110, .ireturn, 1, [], 0)])
def pj_m135 : pj_M := (yX11_joined, cX11_joined, 3, some (.int), [954, 87, 952, 953], [(0, .aload_n 0, 1, [], 0), (1, .getfield 26, 3, [11, 2, 454], 0), (4, .iload_n 1, 1, [], 0), (5, .invokevirtual 261, 3, [0, 2, 93, 10, 921], 0), (8, .ifCond .ne 5, 3, [13], 0), (11, .iconst (-1), 1, [], 0), (12, .ireturn, 1, [], 0), (13, .aload_n 0, 1, [], 0), (14, .getfield 26, 3, [11, 2, 454], 0), (17, .iconst 0, 1, [], 0), (18, .iconst 0, 1, [], 0), (19, .invokevirtual 264, 3, [0, 3, 108, 10, 925], 0), (22, .istore_n 2, 1, [], 0), (23, .aload_n 0, 1, [], 0), (24, .getfield 19, 3, [11, 1, 453], 0), (27, .aload_n 0, 1, [], 0), (28, .getfield 26, 3, [11, 2, 454], 0), (31, .getfield 102, 3, [10, 0, 299], 0), (34, .iload_n 2, 1, [], 0), (35, .invokevirtual 278, 3, [0, 2, 49, 5, 955], 0), (38, .i2l, 1, [], 0), (39, .invokevirtual 281, 3, [0, 2, 55, 6, 969], 0), (42, .aload_n 0, 1, [], 0), (43, .getfield 26, 3, [11, 2, 454], 0), (46, .getfield 102, 3, [10, 0, 299], 0), (49, .iload_n 1, 1, [], 0), (50, .iload_n 2, 1, [], 0), (51, .invokevirtual 285, 3, [0, 3, 47, 5, 973], 0), (54, .ireturn, 1, [], 0)])
def pj_m136 : pj_M := (yX11_soonest, cX11_soonest, 5, some (.int), [977, 87, 975, 976], [(0, .aload_n 0, 1, [], 0), (1, .getfield 26, 3, [11, 2, 454], 0), (4, .iload_n 1, 1, [], 0), (5, .invokevirtual 191, 3, [0, 2, 96, 10, 920], 0), (8, .ifCond .eq 14, 3, [22], 0), (11, .aload_n 0, 1, [], 0), (12, .getfield 26, 3, [11, 2, 454], 0), (15, .iload_n 2, 1, [], 0), (16, .invokevirtual 261, 3, [0, 2, 93, 10, 921], 0), (19, .ifCond .ne 5, 3, [24], 0), (22, .iconst (-1), 1, [], 0), (23, .ireturn, 1, [], 0), (24, .iconst 1, 1, [], 0), (25, .aload_n 0, 1, [], 0), (26, .getfield 26, 3, [11, 2, 454], 0), (29, .getfield 113, 3, [10, 2, 305], 0), (32, .getfield 196, 3, [8, 6, 247], 0), (35, .iload_n 1, 1, [], 0), (36, .iaload, 1, [], 0), (37, .ishl, 1, [], 0), (38, .istore_n 3, 1, [], 0), (39, .iconst 0, 1, [], 0), (40, .istore 4, 2, [], 0), (42, .iload 4, 2, [], 0), (44, .bipush 99, 2, [], 0), (46, .if_icmp .gt 50, 3, [96], 0), (49, .iload_n 3, 1, [], 0), (50, .iload_n 2, 1, [], 0), (51, .invokestatic 288, 3, [2, 2, 163, 0, 978], 0), (54, .ifCond .eq 6, 3, [60], 0), (57, .iload 4, 2, [], 0), (59, .ireturn, 1, [], 0), (60, .aload_n 0, 1, [], 0), (61, .getfield 26, 3, [11, 2, 454], 0), (64, .getfield 102, 3, [10, 0, 299], 0), (67, .iload_n 3, 1, [], 0), (68, .aload_n 0, 1, [], 0), (69, .getfield 26, 3, [11, 2, 454], 0), (72, .aload_n 0, 1, [], 0), (73, .getfield 26, 3, [11, 2, 454], 0), (76, .getfield 199, 3, [10, 5, 316], 0), (79, .iload_n 1, 1, [], 0), (80, .iaload, 1, [], 0), (81, .iload 4, 2, [], 0), (83, .invokevirtual 264, 3, [0, 3, 108, 10, 925], 0), (86, .invokevirtual 292, 3, [0, 3, 45, 5, 979], 0), (89, .istore_n 3, 1, [], 0), (90, .iinc 4 1, 3, [], 0), (93, .goto (-51), 3, [42], 0), (96, .bipush (-2), 2, [], 0), (98, .ireturn, 1, [], 0)])
def pj_m137 : pj_M := (yX11_moves, cX11_moves, 4, some (.int), [983, 87, 981, 982], [(0, .aload_n 0, 1, [], 0), (1, .getfield 26, 3, [11, 2, 454], 0), (4, .iload_n 1, 1, [], 0), (5, .invokevirtual 191, 3, [0, 2, 96, 10, 920], 0), (8, .ifCond .eq 14, 3, [22], 0), (11, .aload_n 0, 1, [], 0), (12, .getfield 26, 3, [11, 2, 454], 0), (15, .iload_n 2, 1, [], 0), (16, .invokevirtual 261, 3, [0, 2, 93, 10, 921], 0), (19, .ifCond .ne 5, 3, [24], 0), (22, .iconst (-1), 1, [], 0), (23, .ireturn, 1, [], 0), (24, .aload_n 0, 1, [], 0), (25, .getfield 26, 3, [11, 2, 454], 0), (28, .aload_n 0, 1, [], 0), (29, .getfield 26, 3, [11, 2, 454], 0), (32, .getfield 199, 3, [10, 5, 316], 0), (35, .iload_n 1, 1, [], 0), (36, .iaload, 1, [], 0), (37, .iconst 0, 1, [], 0), (38, .invokevirtual 264, 3, [0, 3, 108, 10, 925], 0), (41, .istore_n 3, 1, [], 0), (42, .aload_n 0, 1, [], 0), (43, .getfield 26, 3, [11, 2, 454], 0), (46, .getfield 102, 3, [10, 0, 299], 0), (49, .aload_n 0, 1, [], 0), (50, .getfield 26, 3, [11, 2, 454], 0), (53, .getfield 113, 3, [10, 2, 305], 0), (56, .getfield 196, 3, [8, 6, 247], 0), (59, .iload_n 1, 1, [], 0), (60, .iaload, 1, [], 0), (61, .iload_n 2, 1, [], 0), (62, .iload_n 3, 1, [], 0), (63, .invokevirtual 295, 3, [0, 4, 48, 5, 984], 0), (66, .ifCond .eq 12, 3, [78], 0), (69, .aload_n 0, 1, [], 0), (70, .getfield 19, 3, [11, 1, 453], 0), (73, .invokevirtual 271, 3, [0, 1, 53, 6, 940], 0), (76, .iconst 0, 1, [], 0), (77, .ireturn, 1, [], 0), (78, .aload_n 0, 1, [], 0), (79, .getfield 26, 3, [11, 2, 454], 0), (82, .aload_n 0, 1, [], 0), (83, .getfield 19, 3, [11, 1, 453], 0), (86, .iload_n 1, 1, [], 0), (87, .iload_n 2, 1, [], 0), (88, .iload_n 3, 1, [], 0), (89, .invokevirtual 299, 3, [0, 5, 112, 10, 988], 0), (92, .ifCond .eq 5, 3, [97], 0), (95, .iconst 1, 1, [], 0), (96, .ireturn, 1, [], 0), (97, .aload_n 0, 1, [], 0), (98, .getfield 26, 3, [11, 2, 454], 0), (101, .aload_n 0, 1, [], 0), (102, .getfield 19, 3, [11, 1, 453], 0), (105, .iload_n 1, 1, [], 0), (106, .iload_n 2, 1, [], 0), (107, .iload_n 3, 1, [], 0), (108, .invokevirtual 303, 3, [0, 5, 113, 10, 1002], 0), (111, .ifCond .eq 7, 3, [118], 0), (114, .iconst 2, 1, [], 0), (115, .goto 5, 3, [120], 0), (118, .bipush (-2), 2, [], 0), (120, .ireturn, 1, [], 0)])
def pj_m138 : pj_M := (yX11_needed, cX11_needed, 6, some (.int), [1014, 87, 1012, 1013], [(0, .aload_n 0, 1, [], 0), (1, .getfield 26, 3, [11, 2, 454], 0), (4, .iconst 0, 1, [], 0), (5, .iconst 0, 1, [], 0), (6, .invokevirtual 264, 3, [0, 3, 108, 10, 925], 0), (9, .istore_n 1, 1, [], 0), (10, .iconst (-1), 1, [], 0), (11, .istore_n 2, 1, [], 0), (12, .iconst 0, 1, [], 0), (13, .istore_n 3, 1, [], 0), (14, .iconst 0, 1, [], 0), (15, .istore 4, 2, [], 0), (17, .iload 4, 2, [], 0), (19, .aload_n 0, 1, [], 0), (20, .getfield 26, 3, [11, 2, 454], 0), (23, .getfield 113, 3, [10, 2, 305], 0), (26, .getfield 117, 3, [8, 0, 223], 0), (29, .if_icmp .ge 72, 3, [101], 0), (32, .aload_n 0, 1, [], 0), (33, .getfield 26, 3, [11, 2, 454], 0), (36, .getfield 113, 3, [10, 2, 305], 0), (39, .iload 4, 2, [], 0), (41, .invokevirtual 306, 3, [0, 2, 69, 8, 1015], 0), (44, .ifCond .eq 51, 3, [95], 0), (47, .aload_n 0, 1, [], 0), (48, .getfield 26, 3, [11, 2, 454], 0), (51, .getfield 102, 3, [10, 0, 299], 0), (54, .iload_n 1, 1, [], 0), (55, .iconst 1, 1, [], 0), (56, .aload_n 0, 1, [], 0), (57, .getfield 26, 3, [11, 2, 454], 0), (60, .getfield 113, 3, [10, 2, 305], 0), (63, .getfield 182, 3, [8, 1, 230], 0), (66, .iload 4, 2, [], 0), (68, .iaload, 1, [], 0), (69, .ishl, 1, [], 0), (70, .iconst (-1), 1, [], 0), (71, .ixor, 1, [], 0), (72, .iand, 1, [], 0), (73, .invokevirtual 278, 3, [0, 2, 49, 5, 955], 0), (76, .istore 5, 2, [], 0), (78, .iload_n 2, 1, [], 0), (79, .iconst (-1), 1, [], 0), (80, .if_icmp .eq 9, 3, [89], 0), (83, .iload 5, 2, [], 0), (85, .iload_n 3, 1, [], 0), (86, .if_icmp .ge 9, 3, [95], 0), (89, .iload 4, 2, [], 0), (91, .istore_n 2, 1, [], 0), (92, .iload 5, 2, [], 0), (94, .istore_n 3, 1, [], 0), (95, .iinc 4 1, 3, [], 0), (98, .goto (-81), 3, [17], 0), (101, .iload_n 2, 1, [], 0), (102, .iconst (-1), 1, [], 0), (103, .if_icmp .ne 6, 3, [109], 0), (106, .bipush (-2), 2, [], 0), (108, .ireturn, 1, [], 0), (109, .aload_n 0, 1, [], 0), (110, .getfield 19, 3, [11, 1, 453], 0), (113, .iload_n 3, 1, [], 0), (114, .i2l, 1, [], 0), (115, .aload_n 0, 1, [], 0), (116, .getfield 26, 3, [11, 2, 454], 0), (119, .getfield 102, 3, [10, 0, 299], 0), (122, .iload_n 1, 1, [], 0), (123, .invokevirtual 278, 3, [0, 2, 49, 5, 955], 0), (126, .i2l, 1, [], 0), (127, .invokevirtual 235, 3, [0, 3, 56, 6, 864], 0), (130, .iload_n 2, 1, [], 0), (131, .ireturn, 1, [], 0)])
def pj_m139 : pj_M := (yX11_lays, cX11_lays, 3, some (.int), [1022, 87, 1020, 1021], [(0, .iload_n 1, 1, [], 0), (1, .aload_n 0, 1, [], 0), (2, .getfield 26, 3, [11, 2, 454], 0), (5, .getfield 102, 3, [10, 0, 299], 0), (8, .getfield 105, 3, [5, 1, 179], 0), (11, .invokestatic 309, 3, [2, 2, 164, 0, 1023], 0), (14, .ifCond .ne 5, 3, [19], 0), (17, .iconst (-1), 1, [], 0), (18, .ireturn, 1, [], 0), (19, .aload_n 0, 1, [], 0), (20, .getfield 19, 3, [11, 1, 453], 0), (23, .invokevirtual 271, 3, [0, 1, 53, 6, 940], 0), (26, .aload_n 0, 1, [], 0), (27, .getfield 35, 3, [11, 3, 455], 0), (30, .invokevirtual 312, 3, [0, 1, 23, 3, 1026], 0), (33, .istore_n 2, 1, [], 0), (34, .aload_n 0, 1, [], 0), (35, .getfield 35, 3, [11, 3, 455], 0), (38, .iload_n 1, 1, [], 0), (39, .iload_n 2, 1, [], 0), (40, .invokevirtual 315, 3, [0, 3, 24, 3, 1030], 0), (43, .ifCond .ne 5, 3, [48], 0), (46, .iconst 0, 1, [], 0), (47, .ireturn, 1, [], 0), (48, .aload_n 0, 1, [], 0), (49, .getfield 35, 3, [11, 3, 455], 0), (52, .aload_n 0, 1, [], 0), (53, .getfield 19, 3, [11, 1, 453], 0), (56, .iload_n 1, 1, [], 0), (57, .iload_n 2, 1, [], 0), (58, .invokevirtual 318, 3, [0, 4, 25, 3, 1035], 0), (61, .iconst 1, 1, [], 0), (62, .ireturn, 1, [], 0)])
def pj_m140 : pj_M := (yX11_joins, cX11_joins, 2, some (.int), [1049, 87, 1047, 1048], [(0, .iload_n 1, 1, [], 0), (1, .aload_n 0, 1, [], 0), (2, .getfield 26, 3, [11, 2, 454], 0), (5, .getfield 102, 3, [10, 0, 299], 0), (8, .getfield 322, 3, [5, 0, 175], 0), (11, .invokestatic 309, 3, [2, 2, 164, 0, 1023], 0), (14, .ifCond .ne 5, 3, [19], 0), (17, .iconst (-1), 1, [], 0), (18, .ireturn, 1, [], 0), (19, .aload_n 0, 1, [], 0), (20, .getfield 35, 3, [11, 3, 455], 0), (23, .iload_n 1, 1, [], 0), (24, .invokevirtual 325, 3, [0, 2, 27, 3, 1050], 0), (27, .aload_n 0, 1, [], 0), (28, .getfield 35, 3, [11, 3, 455], 0), (31, .aload_n 0, 1, [], 0), (32, .getfield 19, 3, [11, 1, 453], 0), (35, .invokevirtual 328, 3, [0, 2, 30, 3, 1054], 0), (38, .ireturn, 1, [], 0)])
def pj_m141 : pj_M := (yX11_night, cX11_night, 1, some (.int), [1072, 87, 1070, 1071], [(0, .aload_n 0, 1, [], 0), (1, .getfield 35, 3, [11, 3, 455], 0), (4, .aload_n 0, 1, [], 0), (5, .getfield 19, 3, [11, 1, 453], 0), (8, .invokevirtual 332, 3, [0, 2, 31, 3, 1073], 0), (11, .ireturn, 1, [], 0)])
def pj_m142 : pj_M := (yX11_errands, cX11_errands, 2, some (.int), [1081, 87, 1079, 1080], [(0, .aload_n 0, 1, [], 0), (1, .getfield 10, 3, [11, 0, 452], 0), (4, .bipush 80, 2, [], 0), (6, .invokevirtual 75, 3, [0, 2, 79, 9, 497], 0), (9, .aload_n 0, 1, [], 0), (10, .getfield 35, 3, [11, 3, 455], 0), (13, .aload_n 0, 1, [], 0), (14, .getfield 10, 3, [11, 0, 452], 0), (17, .invokevirtual 335, 3, [0, 2, 28, 3, 1082], 0), (20, .aload_n 0, 1, [], 0), (21, .getfield 10, 3, [11, 0, 452], 0), (24, .invokevirtual 89, 3, [0, 1, 88, 9, 537], 0), (27, .istore_n 1, 1, [], 0), (28, .iload_n 1, 1, [], 0), (29, .iconst (-1), 1, [], 0), (30, .if_icmp .eq 8, 3, [38], 0), (33, .iload_n 1, 1, [], 0), (34, .invokestatic 93, 3, [2, 1, 162, 0, 541], 0), (37, .ireturn, 1, [], 0), (38, .aload_n 0, 1, [], 0), (39, .getfield 35, 3, [11, 3, 455], 0), (42, .aload_n 0, 1, [], 0), (43, .getfield 19, 3, [11, 1, 453], 0), (46, .invokevirtual 328, 3, [0, 2, 30, 3, 1054], 0), (49, .ireturn, 1, [], 0)])
def pj_m143 : pj_M := (yX11_flood, cX11_flood, 3, some (.int), [1092, 87, 1090, 1091], [(0, .iload_n 1, 1, [], 0), (1, .ifCond .lt 9, 3, [10], 0), (4, .iload_n 1, 1, [], 0), (5, .bipush 9, 2, [], 0), (7, .if_icmp .le 5, 3, [12], 0), (10, .iconst (-1), 1, [], 0), (11, .ireturn, 1, [], 0), (12, .aload_n 0, 1, [], 0), (13, .getfield 26, 3, [11, 2, 454], 0), (16, .iload_n 1, 1, [], 0), (17, .invokevirtual 338, 3, [0, 2, 109, 10, 1093], 0), (20, .istore_n 2, 1, [], 0), (21, .aload_n 0, 1, [], 0), (22, .getfield 19, 3, [11, 1, 453], 0), (25, .aload_n 0, 1, [], 0), (26, .getfield 26, 3, [11, 2, 454], 0), (29, .getfield 102, 3, [10, 0, 299], 0), (32, .aload_n 0, 1, [], 0), (33, .getfield 26, 3, [11, 2, 454], 0), (36, .iconst 0, 1, [], 0), (37, .iconst 0, 1, [], 0), (38, .invokevirtual 264, 3, [0, 3, 108, 10, 925], 0), (41, .iload_n 2, 1, [], 0), (42, .iconst (-1), 1, [], 0), (43, .ixor, 1, [], 0), (44, .iand, 1, [], 0), (45, .invokevirtual 278, 3, [0, 2, 49, 5, 955], 0), (48, .i2l, 1, [], 0), (49, .invokevirtual 281, 3, [0, 2, 55, 6, 969], 0), (52, .iload_n 2, 1, [], 0), (53, .ireturn, 1, [], 0)])
def pj_m144 : pj_M := (yX11_highest, cX11_highest, 5, some (.int), [1101, 87, 1099, 1100], [(0, .aload_n 0, 1, [], 0), (1, .getfield 26, 3, [11, 2, 454], 0), (4, .iconst 0, 1, [], 0), (5, .iconst 0, 1, [], 0), (6, .invokevirtual 264, 3, [0, 3, 108, 10, 925], 0), (9, .istore_n 1, 1, [], 0), (10, .aload_n 0, 1, [], 0), (11, .getfield 26, 3, [11, 2, 454], 0), (14, .getfield 102, 3, [10, 0, 299], 0), (17, .iload_n 1, 1, [], 0), (18, .invokevirtual 278, 3, [0, 2, 49, 5, 955], 0), (21, .istore_n 2, 1, [], 0), (22, .iconst 1, 1, [], 0), (23, .istore_n 3, 1, [], 0), (24, .iload_n 3, 1, [], 0), (25, .bipush 9, 2, [], 0), (27, .if_icmp .gt 53, 3, [80], 0), (30, .aload_n 0, 1, [], 0), (31, .getfield 26, 3, [11, 2, 454], 0), (34, .getfield 102, 3, [10, 0, 299], 0), (37, .iload_n 1, 1, [], 0), (38, .aload_n 0, 1, [], 0), (39, .getfield 26, 3, [11, 2, 454], 0), (42, .iload_n 3, 1, [], 0), (43, .invokevirtual 338, 3, [0, 2, 109, 10, 1093], 0), (46, .iconst (-1), 1, [], 0), (47, .ixor, 1, [], 0), (48, .iand, 1, [], 0), (49, .invokevirtual 278, 3, [0, 2, 49, 5, 955], 0), (52, .istore 4, 2, [], 0), (54, .iload 4, 2, [], 0), (56, .iload_n 2, 1, [], 0), (57, .if_icmp .ge 17, 3, [74], 0), (60, .aload_n 0, 1, [], 0), (61, .getfield 19, 3, [11, 1, 453], 0), (64, .iload 4, 2, [], 0), (66, .i2l, 1, [], 0), (67, .invokevirtual 281, 3, [0, 2, 55, 6, 969], 0), (70, .iload_n 3, 1, [], 0), (71, .iconst 1, 1, [], 0), (72, .isub, 1, [], 0), (73, .ireturn, 1, [], 0), (74, .iinc 3 1, 3, [], 0), (77, .goto (-53), 3, [24], 0), (80, .aload_n 0, 1, [], 0), (81, .getfield 19, 3, [11, 1, 453], 0), (84, .ldc2_w 341, 3, [0, 1102], (-1)), (87, .invokevirtual 281, 3, [0, 2, 55, 6, 969], 0), (90, .bipush 9, 2, [], 0), (92, .ireturn, 1, [], 0)])
def pj_m145 : pj_M := (yX11_worst, cX11_worst, 8, some (.int), [1106, 87, 1104, 1105], [(0, .iload_n 1, 1, [], 0), (1, .ifCond .lt 8, 3, [9], 0), (4, .iload_n 1, 1, [], 0), (5, .iconst 3, 1, [], 0), (6, .if_icmp .le 5, 3, [11], 0), (9, .iconst (-1), 1, [], 0), (10, .ireturn, 1, [], 0), (11, .aload_n 0, 1, [], 0), (12, .getfield 26, 3, [11, 2, 454], 0), (15, .iconst 0, 1, [], 0), (16, .iconst 0, 1, [], 0), (17, .invokevirtual 264, 3, [0, 3, 108, 10, 925], 0), (20, .istore_n 2, 1, [], 0), (21, .iload_n 1, 1, [], 0), (22, .iload_n 2, 1, [], 0), (23, .invokestatic 343, 3, [2, 1, 288, 0, 1107], 0), (26, .invokestatic 348, 3, [11, 0, 0, 0, 1108, 502, 100, 503], 0), (29, .istore_n 3, 1, [], 0), (30, .iconst (-1), 1, [], 0), (31, .istore 4, 2, [], 0), (33, .iconst 0, 1, [], 0), (34, .istore 5, 2, [], 0), (36, .iconst 0, 1, [], 0), (37, .istore 6, 2, [], 0), (39, .iload 6, 2, [], 0), (41, .iload_n 2, 1, [], 0), (42, .if_icmp .gt 66, 3, [108], 0), (45, .iload 6, 2, [], 0), (47, .iload_n 2, 1, [], 0), (48, .iconst (-1), 1, [], 0), (49, .ixor, 1, [], 0), (50, .iand, 1, [], 0), (51, .ifCond .ne 51, 3, [102], 0), (54, .iload 6, 2, [], 0), (56, .invokestatic 343, 3, [2, 1, 288, 0, 1107], 0), (59, .iload_n 3, 1, [], 0), (60, .if_icmp .ne 42, 3, [102], 0), (63, .aload_n 0, 1, [], 0), (64, .getfield 26, 3, [11, 2, 454], 0), (67, .getfield 102, 3, [10, 0, 299], 0), (70, .iload_n 2, 1, [], 0), (71, .iload 6, 2, [], 0), (73, .iconst (-1), 1, [], 0), (74, .ixor, 1, [], 0), (75, .iand, 1, [], 0), (76, .invokevirtual 278, 3, [0, 2, 49, 5, 955], 0), (79, .istore 7, 2, [], 0), (81, .iload 4, 2, [], 0), (83, .iconst (-1), 1, [], 0), (84, .if_icmp .eq 10, 3, [94], 0), (87, .iload 7, 2, [], 0), (89, .iload 4, 2, [], 0), (91, .if_icmp .ge 11, 3, [102], 0), (94, .iload 7, 2, [], 0), (96, .istore 4, 2, [], 0), (98, .iload 6, 2, [], 0), (100, .istore 5, 2, [], 0), (102, .iinc 6 1, 3, [], 0), (105, .goto (-66), 3, [39], 0), (108, .aload_n 0, 1, [], 0), (109, .getfield 19, 3, [11, 1, 453], 0), (112, .iload 5, 2, [], 0), (114, .i2l, 1, [], 0), (115, .invokevirtual 281, 3, [0, 2, 55, 6, 969], 0), (118, .iload 4, 2, [], 0), (120, .ireturn, 1, [], 0)])
def pj_m146 : pj_M := (yX11_drift, cX11_drift, 5, some (.int), [1112, 87, 1110, 1111], [(0, .aload_n 0, 1, [], 0), (1, .getfield 26, 3, [11, 2, 454], 0), (4, .iload 4, 2, [], 0), (6, .invokevirtual 142, 3, [0, 2, 94, 10, 1113], 0), (9, .ifCond .eq 26, 3, [35], 0), (12, .aload_n 0, 1, [], 0), (13, .getfield 26, 3, [11, 2, 454], 0), (16, .iload_n 1, 1, [], 0), (17, .invokevirtual 171, 3, [0, 2, 95, 10, 1114], 0), (20, .ifCond .eq 15, 3, [35], 0), (23, .aload_n 0, 1, [], 0), (24, .getfield 42, 3, [11, 4, 456], 0), (27, .iload_n 2, 1, [], 0), (28, .iload_n 3, 1, [], 0), (29, .invokevirtual 353, 3, [0, 3, 6, 1, 1115], 0), (32, .ifCond .ne 5, 3, [37], 0), (35, .iconst (-1), 1, [], 0), (36, .ireturn, 1, [], 0), (37, .aload_n 0, 1, [], 0), (38, .getfield 26, 3, [11, 2, 454], 0), (41, .getfield 113, 3, [10, 2, 305], 0), (44, .iload_n 1, 1, [], 0), (45, .invokevirtual 306, 3, [0, 2, 69, 8, 1015], 0), (48, .ifCond .ne 6, 3, [54], 0), (51, .bipush (-2), 2, [], 0), (53, .ireturn, 1, [], 0), (54, .aload_n 0, 1, [], 0), (55, .getfield 42, 3, [11, 4, 456], 0), (58, .aload_n 0, 1, [], 0), (59, .getfield 26, 3, [11, 2, 454], 0), (62, .getfield 113, 3, [10, 2, 305], 0), (65, .getfield 182, 3, [8, 1, 230], 0), (68, .iload_n 1, 1, [], 0), (69, .iaload, 1, [], 0), (70, .iload_n 2, 1, [], 0), (71, .iload_n 3, 1, [], 0), (72, .invokevirtual 356, 3, [0, 4, 7, 1, 1119], 0), (75, .aload_n 0, 1, [], 0), (76, .getfield 42, 3, [11, 4, 456], 0), (79, .aload_n 0, 1, [], 0), (80, .getfield 19, 3, [11, 1, 453], 0), (83, .iload 4, 2, [], 0), (85, .invokevirtual 360, 3, [0, 3, 10, 1, 1128], 0), (88, .iconst 0, 1, [], 0), (89, .ireturn, 1, [], 0)])
def pj_m147 : pj_M := (yX11_seek, cX11_seek, 5, some (.int), [1139, 87, 1137, 1138], [(0, .aload_n 0, 1, [], 0), (1, .getfield 26, 3, [11, 2, 454], 0), (4, .iload_n 1, 1, [], 0), (5, .invokevirtual 171, 3, [0, 2, 95, 10, 1114], 0), (8, .ifCond .eq 15, 3, [23], 0), (11, .aload_n 0, 1, [], 0), (12, .getfield 42, 3, [11, 4, 456], 0), (15, .iload_n 2, 1, [], 0), (16, .iload_n 3, 1, [], 0), (17, .invokevirtual 353, 3, [0, 3, 6, 1, 1115], 0), (20, .ifCond .ne 5, 3, [25], 0), (23, .iconst (-1), 1, [], 0), (24, .ireturn, 1, [], 0), (25, .aload_n 0, 1, [], 0), (26, .getfield 26, 3, [11, 2, 454], 0), (29, .getfield 113, 3, [10, 2, 305], 0), (32, .iload_n 1, 1, [], 0), (33, .invokevirtual 306, 3, [0, 2, 69, 8, 1015], 0), (36, .ifCond .ne 6, 3, [42], 0), (39, .bipush (-2), 2, [], 0), (41, .ireturn, 1, [], 0), (42, .aload_n 0, 1, [], 0), (43, .getfield 42, 3, [11, 4, 456], 0), (46, .aload_n 0, 1, [], 0), (47, .getfield 26, 3, [11, 2, 454], 0), (50, .getfield 113, 3, [10, 2, 305], 0), (53, .getfield 182, 3, [8, 1, 230], 0), (56, .iload_n 1, 1, [], 0), (57, .iaload, 1, [], 0), (58, .iload_n 2, 1, [], 0), (59, .iload_n 3, 1, [], 0), (60, .invokevirtual 356, 3, [0, 4, 7, 1, 1119], 0), (63, .aload_n 0, 1, [], 0), (64, .getfield 42, 3, [11, 4, 456], 0), (67, .invokevirtual 364, 3, [0, 1, 9, 1, 1140], 0), (70, .istore 4, 2, [], 0), (72, .aload_n 0, 1, [], 0), (73, .getfield 42, 3, [11, 4, 456], 0), (76, .aload_n 0, 1, [], 0), (77, .getfield 19, 3, [11, 1, 453], 0), (80, .iload 4, 2, [], 0), (82, .invokevirtual 360, 3, [0, 3, 10, 1, 1128], 0), (85, .iload 4, 2, [], 0), (87, .ireturn, 1, [], 0)])
def pj_m148 : pj_M := (yX11_found, cX11_found, 4, some (.int), [1147, 87, 1145, 1146], [(0, .aload_n 0, 1, [], 0), (1, .getfield 49, 3, [11, 5, 457], 0), (4, .iload_n 1, 1, [], 0), (5, .iload_n 2, 1, [], 0), (6, .iload_n 3, 1, [], 0), (7, .invokevirtual 367, 3, [0, 4, 17, 2, 1148], 0), (10, .ireturn, 1, [], 0)])
def pj_m149 : pj_M := (yX11_forget, cX11_forget, 2, some (.int), [1158, 87, 1156, 1157], [(0, .aload_n 0, 1, [], 0), (1, .getfield 49, 3, [11, 5, 457], 0), (4, .getfield 370, 3, [2, 3, 394], 0), (7, .istore_n 1, 1, [], 0), (8, .aload_n 0, 1, [], 0), (9, .getfield 49, 3, [11, 5, 457], 0), (12, .iconst 0, 1, [], 0), (13, .putfield 370, 3, [2, 3, 394], 0), (16, .iload_n 1, 1, [], 0), (17, .ireturn, 1, [], 0)])
def pj_m150 : pj_M := (yX11_stolen, cX11_stolen, 2, some (.int), [1162, 87, 1160, 1161], [(0, .aload_n 0, 1, [], 0), (1, .getfield 49, 3, [11, 5, 457], 0), (4, .invokevirtual 371, 3, [0, 1, 20, 2, 1163], 0), (7, .istore_n 1, 1, [], 0), (8, .aload_n 0, 1, [], 0), (9, .getfield 19, 3, [11, 1, 453], 0), (12, .iload_n 1, 1, [], 0), (13, .invokestatic 343, 3, [2, 1, 288, 0, 1107], 0), (16, .i2l, 1, [], 0), (17, .invokevirtual 281, 3, [0, 2, 55, 6, 969], 0), (20, .iload_n 1, 1, [], 0), (21, .ireturn, 1, [], 0)])
def pj_m151 : pj_M := (yX11_ask, cX11_ask, 6, some (.int), [1178, 87, 1176, 1177], [(0, .aload_n 0, 1, [], 0), (1, .getfield 49, 3, [11, 5, 457], 0), (4, .invokevirtual 371, 3, [0, 1, 20, 2, 1163], 0), (7, .istore_n 1, 1, [], 0), (8, .iload_n 1, 1, [], 0), (9, .ifCond .ne 6, 3, [15], 0), (12, .bipush (-2), 2, [], 0), (14, .ireturn, 1, [], 0), (15, .iconst (-1), 1, [], 0), (16, .istore_n 2, 1, [], 0), (17, .iconst 0, 1, [], 0), (18, .istore_n 3, 1, [], 0), (19, .iconst 0, 1, [], 0), (20, .istore 4, 2, [], 0), (22, .iload 4, 2, [], 0), (24, .bipush 76, 2, [], 0), (26, .if_icmp .ge 54, 3, [80], 0), (29, .iload 4, 2, [], 0), (31, .bipush 19, 2, [], 0), (33, .idiv, 1, [], 0), (34, .iload 4, 2, [], 0), (36, .bipush 19, 2, [], 0), (38, .irem, 1, [], 0), (39, .invokestatic 374, 3, [2, 2, 16, 0, 1179], 0), (42, .ifCond .eq 32, 3, [74], 0), (45, .aload_n 0, 1, [], 0), (46, .getfield 49, 3, [11, 5, 457], 0), (49, .iload 4, 2, [], 0), (51, .iload_n 1, 1, [], 0), (52, .invokevirtual 377, 3, [0, 3, 21, 2, 1180], 0), (55, .istore 5, 2, [], 0), (57, .iload_n 2, 1, [], 0), (58, .iconst (-1), 1, [], 0), (59, .if_icmp .eq 9, 3, [68], 0), (62, .iload 5, 2, [], 0), (64, .iload_n 3, 1, [], 0), (65, .if_icmp .ge 9, 3, [74], 0), (68, .iload 4, 2, [], 0), (70, .istore_n 2, 1, [], 0), (71, .iload 5, 2, [], 0), (73, .istore_n 3, 1, [], 0), (74, .iinc 4 1, 3, [], 0), (77, .goto (-55), 3, [22], 0), (80, .aload_n 0, 1, [], 0), (81, .getfield 19, 3, [11, 1, 453], 0), (84, .iload_n 3, 1, [], 0), (85, .i2l, 1, [], 0), (86, .invokevirtual 281, 3, [0, 2, 55, 6, 969], 0), (89, .iload_n 2, 1, [], 0), (90, .ireturn, 1, [], 0)])
def pj_m152 : pj_M := (yX11_share, cX11_share, 5, some (.int), [1190, 87, 1188, 1189], [(0, .iload_n 1, 1, [], 0), (1, .bipush 24, 2, [], 0), (3, .invokestatic 309, 3, [2, 2, 164, 0, 1023], 0), (6, .ifCond .eq 36, 3, [42], 0), (9, .iload_n 2, 1, [], 0), (10, .bipush 24, 2, [], 0), (12, .invokestatic 309, 3, [2, 2, 164, 0, 1023], 0), (15, .ifCond .eq 27, 3, [42], 0), (18, .iload_n 3, 1, [], 0), (19, .iconst 1, 1, [], 0), (20, .if_icmp .lt 22, 3, [42], 0), (23, .iload_n 3, 1, [], 0), (24, .bipush 48, 2, [], 0), (26, .if_icmp .gt 16, 3, [42], 0), (29, .iload 4, 2, [], 0), (31, .iconst 1, 1, [], 0), (32, .if_icmp .lt 10, 3, [42], 0), (35, .iload 4, 2, [], 0), (37, .bipush 48, 2, [], 0), (39, .if_icmp .le 5, 3, [44], 0), (42, .iconst (-1), 1, [], 0), (43, .ireturn, 1, [], 0), (44, .aload_n 0, 1, [], 0), (45, .getfield 19, 3, [11, 1, 453], 0), (48, .iload_n 1, 1, [], 0), (49, .iload_n 3, 1, [], 0), (50, .iload 4, 2, [], 0), (52, .iconst 1, 1, [], 0), (53, .invokestatic 380, 3, [2, 4, 165, 0, 1191], 0), (56, .i2l, 1, [], 0), (57, .iload_n 2, 1, [], 0), (58, .iload_n 3, 1, [], 0), (59, .iload 4, 2, [], 0), (61, .iconst 0, 1, [], 0), (62, .invokestatic 380, 3, [2, 4, 165, 0, 1191], 0), (65, .i2l, 1, [], 0), (66, .invokevirtual 235, 3, [0, 3, 56, 6, 864], 0), (69, .iload_n 1, 1, [], 0), (70, .iload_n 3, 1, [], 0), (71, .iload 4, 2, [], 0), (73, .iconst 0, 1, [], 0), (74, .invokestatic 380, 3, [2, 4, 165, 0, 1191], 0), (77, .iload_n 2, 1, [], 0), (78, .iload_n 3, 1, [], 0), (79, .iload 4, 2, [], 0), (81, .iconst 1, 1, [], 0), (82, .invokestatic 380, 3, [2, 4, 165, 0, 1191], 0), (85, .iadd, 1, [], 0), (86, .ireturn, 1, [], 0)])
def pj_m153 : pj_M := (yX11_turn, cX11_turn, 8, some (.int), [1197, 87, 1195, 1196], [(0, .iload_n 1, 1, [], 0), (1, .bipush 24, 2, [], 0), (3, .invokestatic 309, 3, [2, 2, 164, 0, 1023], 0), (6, .ifCond .eq 23, 3, [29], 0), (9, .iload_n 2, 1, [], 0), (10, .bipush 24, 2, [], 0), (12, .invokestatic 309, 3, [2, 2, 164, 0, 1023], 0), (15, .ifCond .eq 14, 3, [29], 0), (18, .iload_n 3, 1, [], 0), (19, .iconst 1, 1, [], 0), (20, .if_icmp .lt 9, 3, [29], 0), (23, .iload_n 3, 1, [], 0), (24, .bipush 48, 2, [], 0), (26, .if_icmp .le 5, 3, [31], 0), (29, .iconst (-1), 1, [], 0), (30, .ireturn, 1, [], 0), (31, .iconst (-1), 1, [], 0), (32, .istore 4, 2, [], 0), (34, .iconst 0, 1, [], 0), (35, .istore 5, 2, [], 0), (37, .iconst 1, 1, [], 0), (38, .istore 6, 2, [], 0), (40, .iload 6, 2, [], 0), (42, .bipush 24, 2, [], 0), (44, .if_icmp .gt 49, 3, [93], 0), (47, .iload_n 1, 1, [], 0), (48, .iload_n 3, 1, [], 0), (49, .iload 6, 2, [], 0), (51, .iconst 0, 1, [], 0), (52, .invokestatic 380, 3, [2, 4, 165, 0, 1191], 0), (55, .iload_n 2, 1, [], 0), (56, .iload_n 3, 1, [], 0), (57, .iload 6, 2, [], 0), (59, .iconst 1, 1, [], 0), (60, .invokestatic 380, 3, [2, 4, 165, 0, 1191], 0), (63, .iadd, 1, [], 0), (64, .istore 7, 2, [], 0), (66, .iload 4, 2, [], 0), (68, .iconst (-1), 1, [], 0), (69, .if_icmp .eq 10, 3, [79], 0), (72, .iload 7, 2, [], 0), (74, .iload 5, 2, [], 0), (76, .if_icmp .le 11, 3, [87], 0), (79, .iload 6, 2, [], 0), (81, .istore 4, 2, [], 0), (83, .iload 7, 2, [], 0), (85, .istore 5, 2, [], 0), (87, .iinc 6 1, 3, [], 0), (90, .goto (-50), 3, [40], 0), (93, .aload_n 0, 1, [], 0), (94, .getfield 19, 3, [11, 1, 453], 0), (97, .iload 5, 2, [], 0), (99, .i2l, 1, [], 0), (100, .invokevirtual 281, 3, [0, 2, 55, 6, 969], 0), (103, .iload 4, 2, [], 0), (105, .ireturn, 1, [], 0)])
def pj_m154 : pj_M := (yX11_rests, cX11_rests, 5, some (.int), [1201, 87, 1199, 1200], [(0, .iload_n 1, 1, [], 0), (1, .ifCond .lt 9, 3, [10], 0), (4, .iload_n 1, 1, [], 0), (5, .bipush 9, 2, [], 0), (7, .if_icmp .le 5, 3, [12], 0), (10, .iconst (-1), 1, [], 0), (11, .ireturn, 1, [], 0), (12, .aload_n 0, 1, [], 0), (13, .getfield 19, 3, [11, 1, 453], 0), (16, .invokevirtual 271, 3, [0, 1, 53, 6, 940], 0), (19, .iconst 0, 1, [], 0), (20, .istore_n 2, 1, [], 0), (21, .iconst 1, 1, [], 0), (22, .istore_n 3, 1, [], 0), (23, .iload_n 3, 1, [], 0), (24, .bipush 9, 2, [], 0), (26, .if_icmp .gt 64, 3, [90], 0), (29, .iconst 1, 1, [], 0), (30, .istore 4, 2, [], 0), (32, .iload 4, 2, [], 0), (34, .bipush 9, 2, [], 0), (36, .if_icmp .gt 48, 3, [84], 0), (39, .iload_n 3, 1, [], 0), (40, .iload 4, 2, [], 0), (42, .iload_n 1, 1, [], 0), (43, .invokestatic 383, 3, [2, 3, 167, 0, 1202], 0), (46, .ifCond .eq 32, 3, [78], 0), (49, .iload 4, 2, [], 0), (51, .iload_n 3, 1, [], 0), (52, .iload_n 1, 1, [], 0), (53, .invokestatic 383, 3, [2, 3, 167, 0, 1202], 0), (56, .ifCond .eq 22, 3, [78], 0), (59, .iload_n 2, 1, [], 0), (60, .ifCond .ne 15, 3, [75], 0), (63, .aload_n 0, 1, [], 0), (64, .getfield 19, 3, [11, 1, 453], 0), (67, .iload_n 3, 1, [], 0), (68, .i2l, 1, [], 0), (69, .iload 4, 2, [], 0), (71, .i2l, 1, [], 0), (72, .invokevirtual 235, 3, [0, 3, 56, 6, 864], 0), (75, .iinc 2 1, 3, [], 0), (78, .iinc 4 1, 3, [], 0), (81, .goto (-49), 3, [32], 0), (84, .iinc 3 1, 3, [], 0), (87, .goto (-64), 3, [23], 0), (90, .iload_n 2, 1, [], 0), (91, .ireturn, 1, [], 0)])
def pj_m155 : pj_M := (yX11_home, cX11_home, 5, some (.int), [1211, 87, 1209, 1210], [(0, .iconst 0, 1, [], 0), (1, .istore_n 1, 1, [], 0), (2, .aload_n 0, 1, [], 0), (3, .getfield 26, 3, [11, 2, 454], 0), (6, .getfield 113, 3, [10, 2, 305], 0), (9, .getfield 239, 3, [8, 7, 251], 0), (12, .istore_n 2, 1, [], 0), (13, .iconst 0, 1, [], 0), (14, .istore_n 3, 1, [], 0), (15, .iload_n 3, 1, [], 0), (16, .aload_n 0, 1, [], 0), (17, .getfield 26, 3, [11, 2, 454], 0), (20, .getfield 113, 3, [10, 2, 305], 0), (23, .getfield 117, 3, [8, 0, 223], 0), (26, .if_icmp .ge 74, 3, [100], 0), (29, .aload_n 0, 1, [], 0), (30, .getfield 26, 3, [11, 2, 454], 0), (33, .getfield 113, 3, [10, 2, 305], 0), (36, .getfield 188, 3, [8, 4, 240], 0), (39, .iload_n 3, 1, [], 0), (40, .iaload, 1, [], 0), (41, .iconst (-1), 1, [], 0), (42, .if_icmp .eq 52, 3, [94], 0), (45, .aload_n 0, 1, [], 0), (46, .getfield 26, 3, [11, 2, 454], 0), (49, .iload_n 3, 1, [], 0), (50, .invokevirtual 386, 3, [0, 2, 115, 10, 1212], 0), (53, .istore 4, 2, [], 0), (55, .iload 4, 2, [], 0), (57, .iconst (-1), 1, [], 0), (58, .if_icmp .eq 20, 3, [78], 0), (61, .iload 4, 2, [], 0), (63, .aload_n 0, 1, [], 0), (64, .getfield 26, 3, [11, 2, 454], 0), (67, .getfield 113, 3, [10, 2, 305], 0), (70, .getfield 188, 3, [8, 4, 240], 0), (73, .iload_n 3, 1, [], 0), (74, .iaload, 1, [], 0), (75, .if_icmp .le 12, 3, [87], 0), (78, .iload_n 1, 1, [], 0), (79, .iconst 1, 1, [], 0), (80, .iload_n 3, 1, [], 0), (81, .ishl, 1, [], 0), (82, .ior, 1, [], 0), (83, .istore_n 1, 1, [], 0), (84, .goto 10, 3, [94], 0), (87, .iload_n 2, 1, [], 0), (88, .iload 4, 2, [], 0), (90, .invokestatic 389, 3, [10, 0, 0, 0, 1216, 686, 100, 687], 0), (93, .istore_n 2, 1, [], 0), (94, .iinc 3 1, 3, [], 0), (97, .goto (-82), 3, [15], 0), (100, .aload_n 0, 1, [], 0), (101, .getfield 19, 3, [11, 1, 453], 0), (104, .iload_n 2, 1, [], 0), (105, .i2l, 1, [], 0), (106, .invokevirtual 281, 3, [0, 2, 55, 6, 969], 0), (109, .iload_n 1, 1, [], 0), (110, .ireturn, 1, [], 0)])
def pj_m156 : pj_M := (yX11_years, cX11_years, 3, some (.int), [1220, 87, 1218, 1219], [(0, .iload_n 2, 1, [], 0), (1, .iconst 1, 1, [], 0), (2, .if_icmp .lt 22, 3, [24], 0), (5, .iload_n 2, 1, [], 0), (6, .bipush 60, 2, [], 0), (8, .if_icmp .gt 16, 3, [24], 0), (11, .aload_n 0, 1, [], 0), (12, .getfield 26, 3, [11, 2, 454], 0), (15, .getfield 113, 3, [10, 2, 305], 0), (18, .getfield 117, 3, [8, 0, 223], 0), (21, .ifCond .ne 5, 3, [26], 0), (24, .iconst (-1), 1, [], 0), (25, .ireturn, 1, [], 0), (26, .aload_n 0, 1, [], 0), (27, .getfield 42, 3, [11, 4, 456], 0), (30, .aload_n 0, 1, [], 0), (31, .getfield 19, 3, [11, 1, 453], 0), (34, .iload_n 1, 1, [], 0), (35, .iload_n 2, 1, [], 0), (36, .invokevirtual 392, 3, [0, 4, 12, 1, 1221], 0), (39, .ireturn, 1, [], 0)])
def pj_m157 : pj_M := (yX11_keep, cX11_keep, 2, some (.boolean), [1246, 87, 1244, 1245], [(0, .aload_n 0, 1, [], 0), (1, .getfield 63, 3, [11, 7, 459], 0), (4, .iload_n 1, 1, [], 0), (5, .aload_n 0, 1, [], 0), (6, .getfield 26, 3, [11, 2, 454], 0), (9, .getfield 113, 3, [10, 2, 305], 0), (12, .invokevirtual 396, 3, [0, 3, 38, 4, 1247], 0), (15, .ireturn, 1, [], 0)])
def pj_m158 : pj_M := (yX11_again, cX11_again, 2, some (.boolean), [1254, 87, 1252, 1253], [(0, .aload_n 0, 1, [], 0), (1, .getfield 63, 3, [11, 7, 459], 0), (4, .iload_n 1, 1, [], 0), (5, .aload_n 0, 1, [], 0), (6, .getfield 26, 3, [11, 2, 454], 0), (9, .getfield 113, 3, [10, 2, 305], 0), (12, .invokevirtual 400, 3, [0, 3, 39, 4, 1255], 0), (15, .ifCond .ne 5, 3, [20], 0), (18, .iconst 0, 1, [], 0), (19, .ireturn, 1, [], 0), (20, .aload_n 0, 1, [], 0), (21, .getfield 26, 3, [11, 2, 454], 0), (24, .getfield 113, 3, [10, 2, 305], 0), (27, .aload_n 0, 1, [], 0), (28, .getfield 63, 3, [11, 7, 459], 0), (31, .getfield 403, 3, [4, 3, 439], 0), (34, .iload_n 1, 1, [], 0), (35, .aaload, 1, [], 0), (36, .invokevirtual 258, 3, [0, 2, 68, 8, 915], 0), (39, .aload_n 0, 1, [], 0), (40, .getfield 63, 3, [11, 7, 459], 0), (43, .invokevirtual 407, 3, [0, 1, 36, 4, 576], 0), (46, .iconst 1, 1, [], 0), (47, .ireturn, 1, [], 0)])
def pj_m159 : pj_M := (yX11_count, cX11_count, 2, some (.int), [1262, 87, 1260, 1261], [(0, .iload_n 1, 1, [], 0), (1, .tableswitch 222 0 13 #[71, 82, 93, 104, 115, 126, 137, 148, 159, 170, 178, 186, 194, 202], 71, [], 0), (72, .aload_n 0, 1, [], 0), (73, .getfield 26, 3, [11, 2, 454], 0), (76, .getfield 102, 3, [10, 0, 299], 0), (79, .getfield 322, 3, [5, 0, 175], 0), (82, .ireturn, 1, [], 0), (83, .aload_n 0, 1, [], 0), (84, .getfield 26, 3, [11, 2, 454], 0), (87, .getfield 102, 3, [10, 0, 299], 0), (90, .getfield 105, 3, [5, 1, 179], 0), (93, .ireturn, 1, [], 0), (94, .aload_n 0, 1, [], 0), (95, .getfield 26, 3, [11, 2, 454], 0), (98, .getfield 113, 3, [10, 2, 305], 0), (101, .getfield 117, 3, [8, 0, 223], 0), (104, .ireturn, 1, [], 0), (105, .aload_n 0, 1, [], 0), (106, .getfield 26, 3, [11, 2, 454], 0), (109, .getfield 113, 3, [10, 2, 305], 0), (112, .getfield 129, 3, [8, 5, 243], 0), (115, .ireturn, 1, [], 0), (116, .aload_n 0, 1, [], 0), (117, .getfield 26, 3, [11, 2, 454], 0), (120, .getfield 113, 3, [10, 2, 305], 0), (123, .getfield 239, 3, [8, 7, 251], 0), (126, .ireturn, 1, [], 0), (127, .aload_n 0, 1, [], 0), (128, .getfield 26, 3, [11, 2, 454], 0), (131, .getfield 113, 3, [10, 2, 305], 0), (134, .invokevirtual 410, 3, [0, 1, 73, 8, 1263], 0), (137, .ireturn, 1, [], 0), (138, .aload_n 0, 1, [], 0), (139, .getfield 26, 3, [11, 2, 454], 0), (142, .getfield 113, 3, [10, 2, 305], 0), (145, .invokevirtual 413, 3, [0, 1, 74, 8, 1267], 0), (148, .ireturn, 1, [], 0), (149, .aload_n 0, 1, [], 0), (150, .getfield 26, 3, [11, 2, 454], 0), (153, .getfield 113, 3, [10, 2, 305], 0), (156, .invokevirtual 416, 3, [0, 1, 75, 8, 1271], 0), (159, .ireturn, 1, [], 0), (160, .aload_n 0, 1, [], 0), (161, .getfield 26, 3, [11, 2, 454], 0), (164, .getfield 113, 3, [10, 2, 305], 0), (167, .getfield 243, 3, [8, 8, 253], 0), (170, .ireturn, 1, [], 0), (171, .aload_n 0, 1, [], 0), (172, .getfield 49, 3, [11, 5, 457], 0), (175, .getfield 370, 3, [2, 3, 394], 0), (178, .ireturn, 1, [], 0), (179, .aload_n 0, 1, [], 0), (180, .getfield 63, 3, [11, 7, 459], 0), (183, .getfield 253, 3, [4, 2, 437], 0), (186, .ireturn, 1, [], 0), (187, .aload_n 0, 1, [], 0), (188, .getfield 19, 3, [11, 1, 453], 0), (191, .getfield 419, 3, [6, 1, 153], 0), (194, .ireturn, 1, [], 0), (195, .aload_n 0, 1, [], 0), (196, .getfield 10, 3, [11, 0, 452], 0), (199, .getfield 420, 3, [9, 1, 128], 0), (202, .ireturn, 1, [], 0), (203, .aload_n 0, 1, [], 0), (204, .getfield 26, 3, [11, 2, 454], 0), (207, .getfield 102, 3, [10, 0, 299], 0), (210, .aload_n 0, 1, [], 0), (211, .getfield 26, 3, [11, 2, 454], 0), (214, .iconst 0, 1, [], 0), (215, .iconst 0, 1, [], 0), (216, .invokevirtual 264, 3, [0, 3, 108, 10, 925], 0), (219, .invokevirtual 278, 3, [0, 2, 49, 5, 955], 0), (222, .ireturn, 1, [], 0), (223, .bipush (-100), 2, [], 0), (225, .ireturn, 1, [], 0)])
def pj_m160 : pj_M := (yX11_row, cX11_row, 2, some (.long), [1372, 87, 1370, 1371], [(0, .iload_n 1, 1, [], 0), (1, .ifCond .lt 14, 3, [15], 0), (4, .iload_n 1, 1, [], 0), (5, .aload_n 0, 1, [], 0), (6, .getfield 19, 3, [11, 1, 453], 0), (9, .getfield 419, 3, [6, 1, 153], 0), (12, .if_icmp .lt 14, 3, [26], 0), (26, .aload_n 0, 1, [], 0), (27, .getfield 19, 3, [11, 1, 453], 0), (30, .getfield 423, 3, [6, 0, 151], 0), (33, .iload_n 1, 1, [], 0), (34, .laload, 1, [], 0), (35, .lreturn, 1, [], 0)])
def pj_m161 : pj_M := (yX11_forgetPastIf, cX11_forgetPastIf, 2, none, [575, 87, 574, 0], [(0, .iload_n 1, 1, [], 0), (1, .ifCond .eq 10, 3, [11], 0), (4, .aload_n 0, 1, [], 0), (5, .getfield 63, 3, [11, 7, 459], 0), (8, .invokevirtual 407, 3, [0, 1, 36, 4, 576], 0), (11, .return_, 1, [], 0)])
def pj_m162 : pj_M := (yX11_refusalAt, cX11_refusalAt, 1, some (.int), [543, 87, 542, 0], [(0, .iconst (-1), 1, [], 0), (1, .iload_n 0, 1, [], 0), (2, .isub, 1, [], 0), (3, .ireturn, 1, [], 0)])
def pj_m163 : pj_M := (yX11_has, cX11_has, 2, some (.boolean), [935, 87, 934, 0], [(0, .iload_n 0, 1, [], 0), (1, .iload_n 1, 1, [], 0), (2, .ishr, 1, [], 0), (3, .iconst 1, 1, [], 0), (4, .iand, 1, [], 0), (5, .iconst 1, 1, [], 0), (6, .if_icmp .ne 7, 3, [13], 0), (9, .iconst 1, 1, [], 0), (10, .goto 4, 3, [14], 0), (13, .iconst 0, 1, [], 0), (14, .ireturn, 1, [], 0)])
def pj_m164 : pj_M := (yX11_within, cX11_within, 2, some (.boolean), [1025, 87, 1024, 0], [(0, .iload_n 0, 1, [], 0), (1, .iload_n 1, 1, [], 0), (2, .ishr, 1, [], 0), (3, .ifCond .ne 7, 3, [10], 0), (6, .iconst 1, 1, [], 0), (7, .goto 4, 3, [11], 0), (10, .iconst 0, 1, [], 0), (11, .ireturn, 1, [], 0)])
def pj_m165 : pj_M := (yX11_hoursWanted, cX11_hoursWanted, 6, some (.int), [1193, 87, 1192, 0], [(0, .iconst 0, 1, [], 0), (1, .istore 4, 2, [], 0), (3, .iconst 0, 1, [], 0), (4, .istore 5, 2, [], 0), (6, .iload 5, 2, [], 0), (8, .iload_n 1, 1, [], 0), (9, .if_icmp .ge 38, 3, [47], 0), (12, .iload_n 2, 1, [], 0), (13, .ifCond .le 34, 3, [47], 0), (16, .iload 5, 2, [], 0), (18, .iload_n 2, 1, [], 0), (19, .idiv, 1, [], 0), (20, .iconst 2, 1, [], 0), (21, .irem, 1, [], 0), (22, .iload_n 3, 1, [], 0), (23, .if_icmp .ne 18, 3, [41], 0), (26, .iload_n 0, 1, [], 0), (27, .iload 5, 2, [], 0), (29, .bipush 24, 2, [], 0), (31, .irem, 1, [], 0), (32, .invokestatic 288, 3, [2, 2, 163, 0, 978], 0), (35, .ifCond .eq 6, 3, [41], 0), (38, .iinc 4 1, 3, [], 0), (41, .iinc 5 1, 3, [], 0), (44, .goto (-38), 3, [6], 0), (47, .iload 4, 2, [], 0), (49, .ireturn, 1, [], 0)])
def pj_m166 : pj_M := (yX11_gain, cX11_gain, 3, some (.int), [1207, 87, 1206, 0], [(0, .iload_n 0, 1, [], 0), (1, .iload_n 1, 1, [], 0), (2, .if_icmp .le 5, 3, [7], 0), (5, .iconst 0, 1, [], 0), (6, .ireturn, 1, [], 0), (7, .iload_n 0, 1, [], 0), (8, .iload_n 1, 1, [], 0), (9, .if_icmp .ge 9, 3, [18], 0), (12, .iload_n 0, 1, [], 0), (13, .iload_n 2, 1, [], 0), (14, .isub, 1, [], 0), (15, .goto 8, 3, [23], 0), (18, .iload_n 0, 1, [], 0), (19, .iload_n 2, 1, [], 0), (20, .isub, 1, [], 0), (21, .iconst 2, 1, [], 0), (22, .idiv, 1, [], 0), (23, .ireturn, 1, [], 0)])
def pj_m167 : pj_M := (yX11_keepsPrice, cX11_keepsPrice, 4, some (.boolean), [1204, 87, 1203, 0], [(0, .iconst 1, 1, [], 0), (1, .istore_n 3, 1, [], 0), (2, .iload_n 3, 1, [], 0), (3, .bipush 9, 2, [], 0), (5, .if_icmp .gt 26, 3, [31], 0), (8, .iload_n 3, 1, [], 0), (9, .iload_n 1, 1, [], 0), (10, .iload_n 2, 1, [], 0), (11, .invokestatic 427, 3, [2, 3, 166, 0, 1205], 0), (14, .iload_n 0, 1, [], 0), (15, .iload_n 1, 1, [], 0), (16, .iload_n 2, 1, [], 0), (17, .invokestatic 427, 3, [2, 3, 166, 0, 1205], 0), (20, .if_icmp .le 5, 3, [25], 0), (23, .iconst 0, 1, [], 0), (24, .ireturn, 1, [], 0), (25, .iinc 3 1, 3, [], 0), (28, .goto (-26), 3, [2], 0), (31, .iconst 1, 1, [], 0), (32, .ireturn, 1, [], 0)])
def pj_m168 : pj_M := (yX12_init, cX12_init, 1, none, [1378, 99, 1377, 0], [(0, .aload_n 0, 1, [], 0), (1, .invokespecial 3, 3, [6, 1, 0, 0, 1379, 118, 119], 0), (4, .aload_n 0, 1, [], 0), (5, .bipush 24, 2, [], 0), (7, .newarray .long, 2, [159], 0), (9, .putfield 9, 3, [12, 2, 1382], 0), (12, .aload_n 0, 1, [], 0), (13, .bipush 10, 2, [], 0), (15, .newarray .int, 2, [143], 0), (17, .putfield 13, 3, [12, 8, 1388], 0), (20, .aload_n 0, 1, [], 0), (21, .bipush 10, 2, [], 0), (23, .newarray .int, 2, [143], 0), (25, .putfield 17, 3, [12, 9, 1389], 0), (28, .aload_n 0, 1, [], 0), (29, .bipush 10, 2, [], 0), (31, .newarray .int, 2, [143], 0), (33, .putfield 20, 3, [12, 10, 1390], 0), (36, .aload_n 0, 1, [], 0), (37, .bipush 10, 2, [], 0), (39, .newarray .int, 2, [143], 0), (41, .putfield 23, 3, [12, 11, 1391], 0), (44, .aload_n 0, 1, [], 0), (45, .bipush 6, 2, [], 0), (47, .newarray .int, 2, [143], 0), (49, .putfield 26, 3, [12, 12, 1392], 0), (52, .aload_n 0, 1, [], 0), (53, .bipush 6, 2, [], 0), (55, .newarray .int, 2, [143], 0), (57, .putfield 29, 3, [12, 13, 1393], 0), (60, .aload_n 0, 1, [], 0), (61, .bipush 32, 2, [], 0), (63, .newarray .int, 2, [143], 0), (65, .putfield 32, 3, [12, 14, 1394], 0), (68, .aload_n 0, 1, [], 0), (69, .bipush 80, 2, [], 0), (71, .newarray .int, 2, [143], 0), (73, .putfield 35, 3, [12, 15, 1395], 0), (76, .aload_n 0, 1, [], 0), (77, .bipush 40, 2, [], 0), (79, .newarray .int, 2, [143], 0), (81, .putfield 38, 3, [12, 20, 1400], 0), (84, .aload_n 0, 1, [], 0), (85, .bipush 80, 2, [], 0), (87, .newarray .int, 2, [143], 0), (89, .putfield 41, 3, [12, 24, 1404], 0), (92, .aload_n 0, 1, [], 0), (93, .bipush 80, 2, [], 0), (95, .newarray .int, 2, [143], 0), (97, .putfield 44, 3, [12, 25, 1405], 0), (100, .aload_n 0, 1, [], 0), (101, .bipush 80, 2, [], 0), (103, .newarray .int, 2, [143], 0), (105, .putfield 47, 3, [12, 28, 1408], 0), (108, .aload_n 0, 1, [], 0), (109, .bipush 7, 2, [], 0), (111, .newarray .int, 2, [143], 0), (113, .putfield 50, 3, [12, 29, 1409], 0), (116, .aload_n 0, 1, [], 0), (117, .sipush 512, 3, [], 0), (120, .newarray .int, 2, [143], 0), (122, .putfield 53, 3, [12, 31, 1411], 0), (125, .aload_n 0, 1, [], 0), (126, .bipush 60, 2, [], 0), (128, .newarray .int, 2, [143], 0), (130, .putfield 56, 3, [12, 36, 1416], 0), (133, .aload_n 0, 1, [], 0), (134, .bipush 60, 2, [], 0), (136, .newarray .int, 2, [143], 0), (138, .putfield 59, 3, [12, 37, 1417], 0), (141, .aload_n 0, 1, [], 0), (142, .bipush 60, 2, [], 0), (144, .newarray .int, 2, [143], 0), (146, .putfield 62, 3, [12, 38, 1418], 0), (149, .aload_n 0, 1, [], 0), (150, .bipush 8, 2, [], 0), (152, .newarray .int, 2, [143], 0), (154, .putfield 65, 3, [12, 40, 1420], 0), (157, .aload_n 0, 1, [], 0), (158, .bipush 10, 2, [], 0), (160, .newarray .int, 2, [143], 0), (162, .putfield 68, 3, [12, 41, 1421], 0), (165, .aload_n 0, 1, [], 0), (166, .bipush 16, 2, [], 0), (168, .newarray .int, 2, [143], 0), (170, .putfield 71, 3, [12, 42, 1422], 0), (173, .aload_n 0, 1, [], 0), (174, .bipush 16, 2, [], 0), (176, .newarray .int, 2, [143], 0), (178, .putfield 74, 3, [12, 43, 1423], 0), (181, .aload_n 0, 1, [], 0), (182, .bipush 10, 2, [], 0), (184, .newarray .long, 2, [159], 0), (186, .putfield 77, 3, [12, 45, 1425], 0), (189, .aload_n 0, 1, [], 0), (190, .bipush 10, 2, [], 0), (192, .newarray .long, 2, [159], 0), (194, .putfield 80, 3, [12, 46, 1426], 0), (197, .aload_n 0, 1, [], 0), (198, .bipush 12, 2, [], 0), (200, .newarray .int, 2, [143], 0), (202, .putfield 83, 3, [12, 49, 1429], 0), (205, .aload_n 0, 1, [], 0), (206, .bipush 12, 2, [], 0), (208, .newarray .int, 2, [143], 0), (210, .putfield 86, 3, [12, 50, 1430], 0), (213, .aload_n 0, 1, [], 0), (214, .bipush 12, 2, [], 0), (216, .newarray .int, 2, [143], 0), (218, .putfield 89, 3, [12, 51, 1431], 0), (221, .aload_n 0, 1, [], 0), (222, .bipush 6, 2, [], 0), (224, .newarray .int, 2, [143], 0), (226, .putfield 92, 3, [12, 56, 1436], 0), (229, .aload_n 0, 1, [], 0), (230, .iconst 3, 1, [], 0), (231, .newarray .boolean, 2, [404], 0), (233, .putfield 95, 3, [12, 57, 1437], 0), (236, .aload_n 0, 1, [], 0), (237, .iconst 3, 1, [], 0), (238, .newarray .int, 2, [143], 0), (240, .putfield 99, 3, [12, 58, 1438], 0), (243, .aload_n 0, 1, [], 0), (244, .bipush 96, 2, [], 0), (246, .newarray .int, 2, [143], 0), (248, .putfield 102, 3, [12, 59, 1439], 0), (251, .return_, 1, [], 0)])
def pj_m169 : pj_M := (yX12_thrown, cX12_thrown, 1, some (.int), [1564, 99, 1562, 1563], [(0, .aload_n 0, 1, [], 0), (1, .getfield 105, 3, [12, 0, 1380], 0), (4, .ireturn, 1, [], 0)])
def pj_m170 : pj_M := (yX12_refuse, cX12_refuse, 1, some (.int), [1683, 99, 1682, 38], [(0, .aload_n 0, 1, [], 0), (1, .iconst 1, 1, [], 0), (2, .putfield 105, 3, [12, 0, 1380], 0), (5, .iconst 0, 1, [], 0), (6, .ireturn, 1, [], 0)])
def pj_m171 : pj_M := (yX12_in, cX12_in, 6, some (.boolean), [1575, 99, 1574, 0], [(0, .lload_n 0, 1, [], 0), (1, .lload_n 2, 1, [], 0), (2, .lcmp, 1, [], 0), (3, .ifCond .lt 14, 3, [17], 0), (6, .lload_n 0, 1, [], 0), (7, .lload 4, 2, [], 0), (9, .lcmp, 1, [], 0), (10, .ifCond .gt 7, 3, [17], 0), (13, .iconst 1, 1, [], 0), (14, .goto 4, 3, [18], 0), (17, .iconst 0, 1, [], 0), (18, .ireturn, 1, [], 0)])
def pj_m172 : pj_M := (yX12_has, cX12_has, 2, some (.boolean), [1782, 99, 1781, 0], [(0, .iload_n 0, 1, [], 0), (1, .iload_n 1, 1, [], 0), (2, .ishr, 1, [], 0), (3, .iconst 1, 1, [], 0), (4, .iand, 1, [], 0), (5, .iconst 1, 1, [], 0), (6, .if_icmp .ne 7, 3, [13], 0), (9, .iconst 1, 1, [], 0), (10, .goto 4, 3, [14], 0), (13, .iconst 0, 1, [], 0), (14, .ireturn, 1, [], 0)])
def pj_m173 : pj_M := (yX12_flag, cX12_flag, 1, some (.int), [1598, 99, 1597, 0], [(0, .iload_n 0, 1, [], 0), (1, .ifCond .eq 7, 3, [8], 0), (4, .iconst 1, 1, [], 0), (5, .goto 4, 3, [9], 0), (8, .iconst 0, 1, [], 0), (9, .ireturn, 1, [], 0)])
def pj_m174 : pj_M := (yX12_common, cX12_common, 4, some (.long), [1953, 99, 1952, 0], [(0, .lload_n 2, 1, [], 0), (1, .lconst 0, 1, [], 0), (2, .lcmp, 1, [], 0), (3, .ifCond .ne 7, 3, [10], 0), (6, .lload_n 0, 1, [], 0), (7, .goto 10, 3, [17], 0), (10, .lload_n 2, 1, [], 0), (11, .lload_n 0, 1, [], 0), (12, .lload_n 2, 1, [], 0), (13, .lrem, 1, [], 0), (14, .invokestatic 109, 3, [2, 2, 174, 0, 1951], 0), (17, .lreturn, 1, [], 0)])
def pj_m175 : pj_M := (yX12_enters, cX12_enters, 3, none, [1799, 99, 1798, 55], [(0, .aload_n 0, 1, [], 0), (1, .getfield 9, 3, [12, 2, 1382], 0), (4, .aload_n 0, 1, [], 0), (5, .getfield 113, 3, [12, 1, 1381], 0), (8, .lload_n 1, 1, [], 0), (9, .lastore, 1, [], 0), (10, .aload_n 0, 1, [], 0), (11, .dup, 1, [], 0), (12, .getfield 113, 3, [12, 1, 1381], 0), (15, .iconst 1, 1, [], 0), (16, .iadd, 1, [], 0), (17, .putfield 113, 3, [12, 1, 1381], 0), (20, .return_, 1, [], 0)])
def pj_m176 : pj_M := (yX12_isBank, cX12_isBank, 2, some (.boolean), [1820, 99, 1819, 58], [(0, .iload_n 1, 1, [], 0), (1, .i2l, 1, [], 0), (2, .lconst 0, 1, [], 0), (3, .aload_n 0, 1, [], 0), (4, .getfield 116, 3, [12, 3, 1383], 0), (7, .iconst 1, 1, [], 0), (8, .isub, 1, [], 0), (9, .i2l, 1, [], 0), (10, .invokestatic 119, 3, [2, 3, 171, 0, 1573], 0), (13, .ireturn, 1, [], 0)])
def pj_m177 : pj_M := (yX12_isCrossing, cX12_isCrossing, 2, some (.boolean), [1678, 99, 1677, 37], [(0, .iload_n 1, 1, [], 0), (1, .i2l, 1, [], 0), (2, .lconst 0, 1, [], 0), (3, .aload_n 0, 1, [], 0), (4, .getfield 123, 3, [12, 4, 1384], 0), (7, .iconst 1, 1, [], 0), (8, .isub, 1, [], 0), (9, .i2l, 1, [], 0), (10, .invokestatic 119, 3, [2, 3, 171, 0, 1573], 0), (13, .ireturn, 1, [], 0)])
def pj_m178 : pj_M := (yX12_isBridge, cX12_isBridge, 2, some (.boolean), [1695, 99, 1694, 40], [(0, .iload_n 1, 1, [], 0), (1, .i2l, 1, [], 0), (2, .lconst 0, 1, [], 0), (3, .aload_n 0, 1, [], 0), (4, .getfield 126, 3, [12, 5, 1385], 0), (7, .iconst 1, 1, [], 0), (8, .isub, 1, [], 0), (9, .i2l, 1, [], 0), (10, .invokestatic 119, 3, [2, 3, 171, 0, 1573], 0), (13, .ireturn, 1, [], 0)])
def pj_m179 : pj_M := (yX12_isPerson, cX12_isPerson, 2, some (.boolean), [1704, 99, 1703, 41], [(0, .iload_n 1, 1, [], 0), (1, .i2l, 1, [], 0), (2, .lconst 0, 1, [], 0), (3, .aload_n 0, 1, [], 0), (4, .getfield 129, 3, [12, 6, 1386], 0), (7, .iconst 1, 1, [], 0), (8, .isub, 1, [], 0), (9, .i2l, 1, [], 0), (10, .invokestatic 119, 3, [2, 3, 171, 0, 1573], 0), (13, .ireturn, 1, [], 0)])
def pj_m180 : pj_M := (yX12_sign, cX12_sign, 3, some (.int), [1568, 99, 1566, 1567], [(0, .aload_n 0, 1, [], 0), (1, .iconst 0, 1, [], 0), (2, .putfield 105, 3, [12, 0, 1380], 0), (5, .aload_n 0, 1, [], 0), (6, .getfield 132, 3, [12, 16, 1396], 0), (9, .bipush 76, 2, [], 0), (11, .if_icmp .le 5, 3, [16], 0), (14, .iconst (-1), 1, [], 0), (15, .ireturn, 1, [], 0), (16, .iconst 0, 1, [], 0), (17, .istore_n 2, 1, [], 0), (18, .iload_n 2, 1, [], 0), (19, .iconst 4, 1, [], 0), (20, .if_icmp .ge 33, 3, [53], 0), (23, .aload_n 0, 1, [], 0), (24, .getfield 35, 3, [12, 15, 1395], 0), (27, .aload_n 0, 1, [], 0), (28, .getfield 132, 3, [12, 16, 1396], 0), (31, .iload_n 2, 1, [], 0), (32, .iadd, 1, [], 0), (33, .iload_n 1, 1, [], 0), (34, .bipush 24, 2, [], 0), (36, .bipush 8, 2, [], 0), (38, .iload_n 2, 1, [], 0), (39, .imul, 1, [], 0), (40, .isub, 1, [], 0), (41, .ishr, 1, [], 0), (42, .sipush 255, 3, [], 0), (45, .iand, 1, [], 0), (46, .iastore, 1, [], 0), (47, .iinc 2 1, 3, [], 0), (50, .goto (-32), 3, [18], 0), (53, .aload_n 0, 1, [], 0), (54, .dup, 1, [], 0), (55, .getfield 132, 3, [12, 16, 1396], 0), (58, .iconst 4, 1, [], 0), (59, .iadd, 1, [], 0), (60, .putfield 132, 3, [12, 16, 1396], 0), (63, .aload_n 0, 1, [], 0), (64, .getfield 132, 3, [12, 16, 1396], 0), (67, .ireturn, 1, [], 0)])
def pj_m181 : pj_M := (yX12_end, cX12_end, 2, some (.boolean), [1572, 99, 1570, 1571], [(0, .aload_n 0, 1, [], 0), (1, .iconst 0, 1, [], 0), (2, .putfield 105, 3, [12, 0, 1380], 0), (5, .iload_n 1, 1, [], 0), (6, .i2l, 1, [], 0), (7, .lconst 0, 1, [], 0), (8, .aload_n 0, 1, [], 0), (9, .getfield 132, 3, [12, 16, 1396], 0), (12, .i2l, 1, [], 0), (13, .invokestatic 119, 3, [2, 3, 171, 0, 1573], 0), (16, .ifCond .ne 5, 3, [21], 0), (19, .iconst 0, 1, [], 0), (20, .ireturn, 1, [], 0), (21, .aload_n 0, 1, [], 0), (22, .iload_n 1, 1, [], 0), (23, .putfield 132, 3, [12, 16, 1396], 0), (26, .iconst 1, 1, [], 0), (27, .ireturn, 1, [], 0)])
def pj_m182 : pj_M := (yX12_begins, cX12_begins, 3, some (.int), [1583, 99, 1582, 21], [(0, .aload_n 0, 1, [], 0), (1, .getfield 132, 3, [12, 16, 1396], 0), (4, .istore_n 2, 1, [], 0), (5, .aload_n 0, 1, [], 0), (6, .iconst 0, 1, [], 0), (7, .putfield 132, 3, [12, 16, 1396], 0), (10, .aload_n 0, 1, [], 0), (11, .iconst 0, 1, [], 0), (12, .putfield 135, 3, [12, 17, 1397], 0), (15, .aload_n 0, 1, [], 0), (16, .iconst 0, 1, [], 0), (17, .putfield 138, 3, [12, 19, 1399], 0), (20, .aload_n 0, 1, [], 0), (21, .iload_n 2, 1, [], 0), (22, .iload_n 1, 1, [], 0), (23, .invokestatic 141, 3, [11, 0, 0, 0, 1584, 502, 100, 503], 0), (26, .putfield 147, 3, [12, 18, 1398], 0), (29, .iload_n 2, 1, [], 0), (30, .ireturn, 1, [], 0)])
def pj_m183 : pj_M := (yX12_isNext, cX12_isNext, 3, some (.boolean), [1602, 99, 1601, 24], [(0, .aload_n 0, 1, [], 0), (1, .getfield 135, 3, [12, 17, 1397], 0), (4, .aload_n 0, 1, [], 0), (5, .getfield 147, 3, [12, 18, 1398], 0), (8, .if_icmp .ge 20, 3, [28], 0), (11, .aload_n 0, 1, [], 0), (12, .getfield 35, 3, [12, 15, 1395], 0), (15, .aload_n 0, 1, [], 0), (16, .getfield 135, 3, [12, 17, 1397], 0), (19, .iaload, 1, [], 0), (20, .iload_n 1, 1, [], 0), (21, .if_icmp .ne 7, 3, [28], 0), (24, .iconst 1, 1, [], 0), (25, .goto 4, 3, [29], 0), (28, .iconst 0, 1, [], 0), (29, .istore_n 2, 1, [], 0), (30, .aload_n 0, 1, [], 0), (31, .dup, 1, [], 0), (32, .getfield 135, 3, [12, 17, 1397], 0), (35, .iload_n 2, 1, [], 0), (36, .invokestatic 150, 3, [2, 1, 173, 0, 1596], 0), (39, .iadd, 1, [], 0), (40, .putfield 135, 3, [12, 17, 1397], 0), (43, .iload_n 2, 1, [], 0), (44, .ireturn, 1, [], 0)])
def pj_m184 : pj_M := (yX12_isDigit, cX12_isDigit, 1, some (.boolean), [1623, 99, 1622, 29], [(0, .aload_n 0, 1, [], 0), (1, .getfield 135, 3, [12, 17, 1397], 0), (4, .aload_n 0, 1, [], 0), (5, .getfield 147, 3, [12, 18, 1398], 0), (8, .if_icmp .ge 29, 3, [37], 0), (11, .aload_n 0, 1, [], 0), (12, .getfield 35, 3, [12, 15, 1395], 0), (15, .aload_n 0, 1, [], 0), (16, .getfield 135, 3, [12, 17, 1397], 0), (19, .iaload, 1, [], 0), (20, .i2l, 1, [], 0), (21, .ldc2_w 154, 3, [0, 1624], 48), (24, .ldc2_w 156, 3, [0, 1625], 57), (27, .invokestatic 119, 3, [2, 3, 171, 0, 1573], 0), (30, .ifCond .eq 7, 3, [37], 0), (33, .iconst 1, 1, [], 0), (34, .goto 4, 3, [38], 0), (37, .iconst 0, 1, [], 0), (38, .ireturn, 1, [], 0)])
def pj_m185 : pj_M := (yX12_among, cX12_among, 3, some (.int), [1593, 99, 1592, 23], [(0, .iconst 0, 1, [], 0), (1, .istore_n 2, 1, [], 0), (2, .iload_n 2, 1, [], 0), (3, .aload_n 1, 1, [], 0), (4, .invokevirtual 158, 3, [8, 1, 289, 0, 1594], 0), (7, .if_icmp .ge 39, 3, [46], 0), (10, .aload_n 0, 1, [], 0), (11, .getfield 135, 3, [12, 17, 1397], 0), (14, .aload_n 0, 1, [], 0), (15, .getfield 147, 3, [12, 18, 1398], 0), (18, .if_icmp .ge 28, 3, [46], 0), (21, .aload_n 1, 1, [], 0), (22, .iload_n 2, 1, [], 0), (23, .invokevirtual 163, 3, [8, 2, 290, 0, 1595], 0), (26, .aload_n 0, 1, [], 0), (27, .getfield 35, 3, [12, 15, 1395], 0), (30, .aload_n 0, 1, [], 0), (31, .getfield 135, 3, [12, 17, 1397], 0), (34, .iaload, 1, [], 0), (35, .if_icmp .ne 5, 3, [40], 0), (38, .iload_n 2, 1, [], 0), (39, .ireturn, 1, [], 0), (40, .iinc 2 1, 3, [], 0), (43, .goto (-41), 3, [2], 0), (46, .iconst (-1), 1, [], 0), (47, .ireturn, 1, [], 0)])
def pj_m186 : pj_M := (yX12_takesOf, cX12_takesOf, 3, some (.int), [1589, 99, 1588, 22], [(0, .aload_n 0, 1, [], 0), (1, .aload_n 1, 1, [], 0), (2, .invokevirtual 167, 3, [0, 2, 185, 12, 1590], 0), (5, .istore_n 2, 1, [], 0), (6, .aload_n 0, 1, [], 0), (7, .dup, 1, [], 0), (8, .getfield 135, 3, [12, 17, 1397], 0), (11, .iload_n 2, 1, [], 0), (12, .ifCond .lt 7, 3, [19], 0), (15, .iconst 1, 1, [], 0), (16, .goto 4, 3, [20], 0), (19, .iconst 0, 1, [], 0), (20, .invokestatic 150, 3, [2, 1, 173, 0, 1596], 0), (23, .iadd, 1, [], 0), (24, .putfield 135, 3, [12, 17, 1397], 0), (27, .iload_n 2, 1, [], 0), (28, .ireturn, 1, [], 0)])
def pj_m187 : pj_M := (yX12_number, cX12_number, 4, some (.int), [1619, 99, 1618, 28], [(0, .aload_n 0, 1, [], 0), (1, .invokevirtual 171, 3, [0, 1, 184, 12, 1620], 0), (4, .ifCond .ne 5, 3, [9], 0), (7, .iconst (-1), 1, [], 0), (8, .ireturn, 1, [], 0), (9, .iconst 0, 1, [], 0), (10, .istore_n 2, 1, [], 0), (11, .iconst 0, 1, [], 0), (12, .istore_n 3, 1, [], 0), (13, .iload_n 3, 1, [], 0), (14, .iload_n 1, 1, [], 0), (15, .if_icmp .ge 44, 3, [59], 0), (18, .aload_n 0, 1, [], 0), (19, .invokevirtual 171, 3, [0, 1, 184, 12, 1620], 0), (22, .ifCond .eq 37, 3, [59], 0), (25, .bipush 10, 2, [], 0), (27, .iload_n 2, 1, [], 0), (28, .imul, 1, [], 0), (29, .aload_n 0, 1, [], 0), (30, .getfield 35, 3, [12, 15, 1395], 0), (33, .aload_n 0, 1, [], 0), (34, .getfield 135, 3, [12, 17, 1397], 0), (37, .iaload, 1, [], 0), (38, .iadd, 1, [], 0), (39, .bipush 48, 2, [], 0), (41, .isub, 1, [], 0), (42, .istore_n 2, 1, [], 0), (43, .aload_n 0, 1, [], 0), (44, .dup, 1, [], 0), (45, .getfield 135, 3, [12, 17, 1397], 0), (48, .iconst 1, 1, [], 0), (49, .iadd, 1, [], 0), (50, .putfield 135, 3, [12, 17, 1397], 0), (53, .iinc 3 1, 3, [], 0), (56, .goto (-43), 3, [13], 0), (59, .iload_n 2, 1, [], 0), (60, .ireturn, 1, [], 0)])
def pj_m188 : pj_M := (yX12_letter, cX12_letter, 2, some (.int), [1614, 99, 1613, 27], [(0, .aload_n 0, 1, [], 0), (1, .getfield 135, 3, [12, 17, 1397], 0), (4, .aload_n 0, 1, [], 0), (5, .getfield 147, 3, [12, 18, 1398], 0), (8, .if_icmp .ge 29, 3, [37], 0), (11, .aload_n 0, 1, [], 0), (12, .getfield 35, 3, [12, 15, 1395], 0), (15, .aload_n 0, 1, [], 0), (16, .getfield 135, 3, [12, 17, 1397], 0), (19, .iaload, 1, [], 0), (20, .i2l, 1, [], 0), (21, .ldc2_w 175, 3, [0, 1615], 97), (24, .bipush 97, 2, [], 0), (26, .iload_n 1, 1, [], 0), (27, .iadd, 1, [], 0), (28, .iconst 1, 1, [], 0), (29, .isub, 1, [], 0), (30, .i2l, 1, [], 0), (31, .invokestatic 119, 3, [2, 3, 171, 0, 1573], 0), (34, .ifCond .ne 5, 3, [39], 0), (37, .iconst (-1), 1, [], 0), (38, .ireturn, 1, [], 0), (39, .aload_n 0, 1, [], 0), (40, .dup, 1, [], 0), (41, .getfield 135, 3, [12, 17, 1397], 0), (44, .iconst 1, 1, [], 0), (45, .iadd, 1, [], 0), (46, .putfield 135, 3, [12, 17, 1397], 0), (49, .aload_n 0, 1, [], 0), (50, .getfield 35, 3, [12, 15, 1395], 0), (53, .aload_n 0, 1, [], 0), (54, .getfield 135, 3, [12, 17, 1397], 0), (57, .iconst 1, 1, [], 0), (58, .isub, 1, [], 0), (59, .iaload, 1, [], 0), (60, .bipush 97, 2, [], 0), (62, .isub, 1, [], 0), (63, .ireturn, 1, [], 0)])
def pj_m189 : pj_M := (yX12_faultOf, cX12_faultOf, 5, some (.int), [1630, 99, 1629, 30], [(0, .iload_n 3, 1, [], 0), (1, .ifCond .eq 18, 3, [19], 0), (4, .aload_n 0, 1, [], 0), (5, .getfield 135, 3, [12, 17, 1397], 0), (8, .aload_n 0, 1, [], 0), (9, .getfield 147, 3, [12, 18, 1398], 0), (12, .if_icmp .ne 7, 3, [19], 0), (15, .iconst 1, 1, [], 0), (16, .goto 4, 3, [20], 0), (19, .iconst 0, 1, [], 0), (20, .istore 4, 2, [], 0), (22, .iload_n 1, 1, [], 0), (23, .iload_n 2, 1, [], 0), (24, .if_icmp .le 20, 3, [44], 0), (27, .iload 4, 2, [], 0), (29, .ifCond .ne 11, 3, [40], 0), (32, .aload_n 0, 1, [], 0), (33, .getfield 135, 3, [12, 17, 1397], 0), (36, .iload_n 2, 1, [], 0), (37, .if_icmp .lt 7, 3, [44], 0), (40, .iconst (-1), 1, [], 0), (41, .iload_n 2, 1, [], 0), (42, .isub, 1, [], 0), (43, .ireturn, 1, [], 0), (44, .iload 4, 2, [], 0), (46, .ifCond .eq 7, 3, [53], 0), (49, .iconst 0, 1, [], 0), (50, .goto 9, 3, [59], 0), (53, .iconst (-1), 1, [], 0), (54, .aload_n 0, 1, [], 0), (55, .getfield 135, 3, [12, 17, 1397], 0), (58, .isub, 1, [], 0), (59, .ireturn, 1, [], 0)])
def pj_m190 : pj_M := (yX12_twoBanks, cX12_twoBanks, 2, some (.int), [1610, 99, 1609, 26], [(0, .aload_n 0, 1, [], 0), (1, .aload_n 0, 1, [], 0), (2, .iload_n 1, 1, [], 0), (3, .invokevirtual 177, 3, [0, 2, 188, 12, 1611], 0), (6, .putfield 181, 3, [12, 23, 1403], 0), (9, .aload_n 0, 1, [], 0), (10, .getfield 181, 3, [12, 23, 1403], 0), (13, .ifCond .lt 33, 3, [46], 0), (16, .aload_n 0, 1, [], 0), (17, .getfield 135, 3, [12, 17, 1397], 0), (20, .aload_n 0, 1, [], 0), (21, .getfield 147, 3, [12, 18, 1398], 0), (24, .if_icmp .ge 24, 3, [48], 0), (27, .aload_n 0, 1, [], 0), (28, .getfield 35, 3, [12, 15, 1395], 0), (31, .aload_n 0, 1, [], 0), (32, .getfield 135, 3, [12, 17, 1397], 0), (35, .iaload, 1, [], 0), (36, .bipush 97, 2, [], 0), (38, .aload_n 0, 1, [], 0), (39, .getfield 181, 3, [12, 23, 1403], 0), (42, .iadd, 1, [], 0), (43, .if_icmp .ne 5, 3, [48], 0), (46, .iconst (-1), 1, [], 0), (47, .ireturn, 1, [], 0), (48, .aload_n 0, 1, [], 0), (49, .iload_n 1, 1, [], 0), (50, .invokevirtual 177, 3, [0, 2, 188, 12, 1611], 0), (53, .ireturn, 1, [], 0)])
def pj_m191 : pj_M := (yX12_readsCrossing, cX12_readsCrossing, 2, some (.boolean), [1606, 99, 1605, 25], [(0, .iconst 4, 1, [], 0), (1, .aload_n 0, 1, [], 0), (2, .getfield 184, 3, [12, 22, 1402], 0), (5, .imul, 1, [], 0), (6, .istore_n 1, 1, [], 0), (7, .aload_n 0, 1, [], 0), (8, .getfield 38, 3, [12, 20, 1400], 0), (11, .iload_n 1, 1, [], 0), (12, .iconst 1, 1, [], 0), (13, .iadd, 1, [], 0), (14, .aload_n 0, 1, [], 0), (15, .aload_n 0, 1, [], 0), (16, .getfield 187, 3, [12, 21, 1401], 0), (19, .invokevirtual 190, 3, [0, 2, 190, 12, 1607], 0), (22, .iastore, 1, [], 0), (23, .aload_n 0, 1, [], 0), (24, .getfield 38, 3, [12, 20, 1400], 0), (27, .iload_n 1, 1, [], 0), (28, .aload_n 0, 1, [], 0), (29, .getfield 181, 3, [12, 23, 1403], 0), (32, .iastore, 1, [], 0), (33, .aload_n 0, 1, [], 0), (34, .getfield 38, 3, [12, 20, 1400], 0), (37, .iload_n 1, 1, [], 0), (38, .iconst 1, 1, [], 0), (39, .iadd, 1, [], 0), (40, .iaload, 1, [], 0), (41, .ifCond .ge 5, 3, [46], 0), (44, .iconst 0, 1, [], 0), (45, .ireturn, 1, [], 0), (46, .aload_n 0, 1, [], 0), (47, .getfield 38, 3, [12, 20, 1400], 0), (50, .iload_n 1, 1, [], 0), (51, .iconst 2, 1, [], 0), (52, .iadd, 1, [], 0), (53, .aload_n 0, 1, [], 0), (54, .iconst 2, 1, [], 0), (55, .invokevirtual 193, 3, [0, 2, 187, 12, 1616], 0), (58, .iastore, 1, [], 0), (59, .aload_n 0, 1, [], 0), (60, .getfield 38, 3, [12, 20, 1400], 0), (63, .iload_n 1, 1, [], 0), (64, .iconst 2, 1, [], 0), (65, .iadd, 1, [], 0), (66, .iaload, 1, [], 0), (67, .ifCond .lt 12, 3, [79], 0), (70, .aload_n 0, 1, [], 0), (71, .bipush 58, 2, [], 0), (73, .invokevirtual 196, 3, [0, 2, 183, 12, 1599], 0), (76, .ifCond .ne 5, 3, [81], 0), (79, .iconst 0, 1, [], 0), (80, .ireturn, 1, [], 0), (81, .aload_n 0, 1, [], 0), (82, .getfield 38, 3, [12, 20, 1400], 0), (85, .iload_n 1, 1, [], 0), (86, .iconst 3, 1, [], 0), (87, .iadd, 1, [], 0), (88, .iconst 1, 1, [], 0), (89, .aload_n 0, 1, [], 0), (90, .ldc 200, 2, [1, 9], 0), (92, .invokevirtual 202, 3, [0, 2, 186, 12, 1586], 0), (95, .iadd, 1, [], 0), (96, .iastore, 1, [], 0), (97, .aload_n 0, 1, [], 0), (98, .dup, 1, [], 0), (99, .getfield 184, 3, [12, 22, 1402], 0), (102, .iconst 1, 1, [], 0), (103, .iadd, 1, [], 0), (104, .putfield 184, 3, [12, 22, 1402], 0), (107, .aload_n 0, 1, [], 0), (108, .getfield 38, 3, [12, 20, 1400], 0), (111, .iload_n 1, 1, [], 0), (112, .iconst 3, 1, [], 0), (113, .iadd, 1, [], 0), (114, .iaload, 1, [], 0), (115, .ifCond .le 7, 3, [122], 0), (118, .iconst 1, 1, [], 0), (119, .goto 4, 3, [123], 0), (122, .iconst 0, 1, [], 0), (123, .ireturn, 1, [], 0)])
def pj_m192 : pj_M := (yX12_river, cX12_river, 5, some (.int), [1579, 99, 1577, 1578], [(0, .aload_n 0, 1, [], 0), (1, .iconst 0, 1, [], 0), (2, .putfield 105, 3, [12, 0, 1380], 0), (5, .aload_n 0, 1, [], 0), (6, .bipush 72, 2, [], 0), (8, .invokevirtual 205, 3, [0, 2, 182, 12, 1580], 0), (11, .istore_n 1, 1, [], 0), (12, .aload_n 0, 1, [], 0), (13, .iconst 0, 1, [], 0), (14, .putfield 184, 3, [12, 22, 1402], 0), (17, .aload_n 0, 1, [], 0), (18, .iconst 2, 1, [], 0), (19, .aload_n 0, 1, [], 0), (20, .ldc 208, 2, [1, 10], 0), (22, .invokevirtual 202, 3, [0, 2, 186, 12, 1586], 0), (25, .iadd, 1, [], 0), (26, .putfield 187, 3, [12, 21, 1401], 0), (29, .aload_n 0, 1, [], 0), (30, .getfield 187, 3, [12, 21, 1401], 0), (33, .iconst 1, 1, [], 0), (34, .if_icmp .le 7, 3, [41], 0), (37, .iconst 1, 1, [], 0), (38, .goto 4, 3, [42], 0), (41, .iconst 0, 1, [], 0), (42, .istore_n 2, 1, [], 0), (43, .iload_n 2, 1, [], 0), (44, .ifCond .eq 29, 3, [73], 0), (47, .aload_n 0, 1, [], 0), (48, .getfield 184, 3, [12, 22, 1402], 0), (51, .bipush 10, 2, [], 0), (53, .if_icmp .ge 20, 3, [73], 0), (56, .aload_n 0, 1, [], 0), (57, .bipush 59, 2, [], 0), (59, .invokevirtual 196, 3, [0, 2, 183, 12, 1599], 0), (62, .ifCond .eq 11, 3, [73], 0), (65, .aload_n 0, 1, [], 0), (66, .invokevirtual 210, 3, [0, 1, 191, 12, 1603], 0), (69, .istore_n 2, 1, [], 0), (70, .goto (-27), 3, [43], 0), (73, .aload_n 0, 1, [], 0), (74, .iload_n 1, 1, [], 0), (75, .bipush 72, 2, [], 0), (77, .iload_n 2, 1, [], 0), (78, .invokevirtual 213, 3, [0, 4, 189, 12, 1627], 0), (81, .istore_n 3, 1, [], 0), (82, .iload_n 3, 1, [], 0), (83, .ifCond .ge 5, 3, [88], 0), (86, .iload_n 3, 1, [], 0), (87, .ireturn, 1, [], 0), (88, .aload_n 0, 1, [], 0), (89, .aload_n 0, 1, [], 0), (90, .getfield 187, 3, [12, 21, 1401], 0), (93, .putfield 116, 3, [12, 3, 1383], 0), (96, .aload_n 0, 1, [], 0), (97, .aload_n 0, 1, [], 0), (98, .getfield 184, 3, [12, 22, 1402], 0), (101, .putfield 123, 3, [12, 4, 1384], 0), (104, .iconst 0, 1, [], 0), (105, .istore 4, 2, [], 0), (107, .iload 4, 2, [], 0), (109, .aload_n 0, 1, [], 0), (110, .getfield 123, 3, [12, 4, 1384], 0), (113, .if_icmp .ge 79, 3, [192], 0), (116, .aload_n 0, 1, [], 0), (117, .getfield 13, 3, [12, 8, 1388], 0), (120, .iload 4, 2, [], 0), (122, .aload_n 0, 1, [], 0), (123, .getfield 38, 3, [12, 20, 1400], 0), (126, .iconst 4, 1, [], 0), (127, .iload 4, 2, [], 0), (129, .imul, 1, [], 0), (130, .iaload, 1, [], 0), (131, .iastore, 1, [], 0), (132, .aload_n 0, 1, [], 0), (133, .getfield 17, 3, [12, 9, 1389], 0), (136, .iload 4, 2, [], 0), (138, .aload_n 0, 1, [], 0), (139, .getfield 38, 3, [12, 20, 1400], 0), (142, .iconst 4, 1, [], 0), (143, .iload 4, 2, [], 0), (145, .imul, 1, [], 0), (146, .iconst 1, 1, [], 0), (147, .iadd, 1, [], 0), (148, .iaload, 1, [], 0), (149, .iastore, 1, [], 0), (150, .aload_n 0, 1, [], 0), (151, .getfield 20, 3, [12, 10, 1390], 0), (154, .iload 4, 2, [], 0), (156, .aload_n 0, 1, [], 0), (157, .getfield 38, 3, [12, 20, 1400], 0), (160, .iconst 4, 1, [], 0), (161, .iload 4, 2, [], 0), (163, .imul, 1, [], 0), (164, .iconst 2, 1, [], 0), (165, .iadd, 1, [], 0), (166, .iaload, 1, [], 0), (167, .iastore, 1, [], 0), (168, .aload_n 0, 1, [], 0), (169, .getfield 23, 3, [12, 11, 1391], 0), (172, .iload 4, 2, [], 0), (174, .aload_n 0, 1, [], 0), (175, .getfield 38, 3, [12, 20, 1400], 0), (178, .iconst 4, 1, [], 0), (179, .iload 4, 2, [], 0), (181, .imul, 1, [], 0), (182, .iconst 3, 1, [], 0), (183, .iadd, 1, [], 0), (184, .iaload, 1, [], 0), (185, .iastore, 1, [], 0), (186, .iinc 4 1, 3, [], 0), (189, .goto (-82), 3, [107], 0), (192, .aload_n 0, 1, [], 0), (193, .iconst 0, 1, [], 0), (194, .putfield 126, 3, [12, 5, 1385], 0), (197, .aload_n 0, 1, [], 0), (198, .iconst 0, 1, [], 0), (199, .putfield 129, 3, [12, 6, 1386], 0), (202, .aload_n 0, 1, [], 0), (203, .getfield 32, 3, [12, 14, 1394], 0), (206, .bipush 30, 2, [], 0), (208, .iconst 0, 1, [], 0), (209, .iastore, 1, [], 0), (210, .aload_n 0, 1, [], 0), (211, .getfield 32, 3, [12, 14, 1394], 0), (214, .bipush 31, 2, [], 0), (216, .iconst 0, 1, [], 0), (217, .iastore, 1, [], 0), (218, .aload_n 0, 1, [], 0), (219, .invokevirtual 217, 3, [0, 1, 193, 12, 1631], 0), (222, .aload_n 0, 1, [], 0), (223, .getfield 123, 3, [12, 4, 1384], 0), (226, .ireturn, 1, [], 0)])
def pj_m193 : pj_M := (yX12_comes, cX12_comes, 1, none, [1634, 99, 1633, 31], [(0, .aload_n 0, 1, [], 0), (1, .iconst 0, 1, [], 0), (2, .putfield 220, 3, [12, 30, 1410], 0), (5, .aload_n 0, 1, [], 0), (6, .dup, 1, [], 0), (7, .getfield 223, 3, [12, 7, 1387], 0), (10, .iconst 1, 1, [], 0), (11, .iadd, 1, [], 0), (12, .putfield 223, 3, [12, 7, 1387], 0), (15, .return_, 1, [], 0)])
def pj_m194 : pj_M := (yX12_readsPair, cX12_readsPair, 4, some (.boolean), [1646, 99, 1645, 33], [(0, .iload_n 1, 1, [], 0), (1, .ifCond .eq 10, 3, [11], 0), (4, .aload_n 0, 1, [], 0), (5, .getfield 126, 3, [12, 5, 1385], 0), (8, .goto 7, 3, [15], 0), (11, .aload_n 0, 1, [], 0), (12, .getfield 129, 3, [12, 6, 1386], 0), (15, .istore_n 2, 1, [], 0), (16, .iload_n 2, 1, [], 0), (17, .aload_n 0, 1, [], 0), (18, .getfield 184, 3, [12, 22, 1402], 0), (21, .iadd, 1, [], 0), (22, .iload_n 1, 1, [], 0), (23, .ifCond .eq 8, 3, [31], 0), (26, .bipush 6, 2, [], 0), (28, .goto 5, 3, [33], 0), (31, .bipush 6, 2, [], 0), (33, .if_icmp .ne 5, 3, [38], 0), (36, .iconst 0, 1, [], 0), (37, .ireturn, 1, [], 0), (38, .iconst 2, 1, [], 0), (39, .aload_n 0, 1, [], 0), (40, .getfield 184, 3, [12, 22, 1402], 0), (43, .imul, 1, [], 0), (44, .istore_n 3, 1, [], 0), (45, .aload_n 0, 1, [], 0), (46, .getfield 38, 3, [12, 20, 1400], 0), (49, .iload_n 3, 1, [], 0), (50, .iload_n 1, 1, [], 0), (51, .ifCond .eq 14, 3, [65], 0), (54, .iconst 1, 1, [], 0), (55, .aload_n 0, 1, [], 0), (56, .ldc 200, 2, [1, 9], 0), (58, .invokevirtual 202, 3, [0, 2, 186, 12, 1586], 0), (61, .iadd, 1, [], 0), (62, .goto 11, 3, [73], 0), (65, .aload_n 0, 1, [], 0), (66, .aload_n 0, 1, [], 0), (67, .getfield 116, 3, [12, 3, 1383], 0), (70, .invokevirtual 177, 3, [0, 2, 188, 12, 1611], 0), (73, .iastore, 1, [], 0), (74, .iload_n 1, 1, [], 0), (75, .ifCond .eq 12, 3, [87], 0), (78, .aload_n 0, 1, [], 0), (79, .getfield 38, 3, [12, 20, 1400], 0), (82, .iload_n 3, 1, [], 0), (83, .iaload, 1, [], 0), (84, .ifCond .eq 12, 3, [96], 0), (87, .aload_n 0, 1, [], 0), (88, .getfield 38, 3, [12, 20, 1400], 0), (91, .iload_n 3, 1, [], 0), (92, .iaload, 1, [], 0), (93, .ifCond .ge 5, 3, [98], 0), (96, .iconst 0, 1, [], 0), (97, .ireturn, 1, [], 0), (98, .aload_n 0, 1, [], 0), (99, .getfield 38, 3, [12, 20, 1400], 0), (102, .iload_n 3, 1, [], 0), (103, .iconst 1, 1, [], 0), (104, .iadd, 1, [], 0), (105, .iload_n 1, 1, [], 0), (106, .ifCond .eq 11, 3, [117], 0), (109, .aload_n 0, 1, [], 0), (110, .iconst 1, 1, [], 0), (111, .invokevirtual 193, 3, [0, 2, 187, 12, 1616], 0), (114, .goto 11, 3, [125], 0), (117, .iconst 1, 1, [], 0), (118, .aload_n 0, 1, [], 0), (119, .ldc 200, 2, [1, 9], 0), (121, .invokevirtual 202, 3, [0, 2, 186, 12, 1586], 0), (124, .iadd, 1, [], 0), (125, .iastore, 1, [], 0), (126, .aload_n 0, 1, [], 0), (127, .dup, 1, [], 0), (128, .getfield 184, 3, [12, 22, 1402], 0), (131, .iconst 1, 1, [], 0), (132, .iadd, 1, [], 0), (133, .putfield 184, 3, [12, 22, 1402], 0), (136, .iload_n 1, 1, [], 0), (137, .ifCond .eq 22, 3, [159], 0), (140, .aload_n 0, 1, [], 0), (141, .getfield 38, 3, [12, 20, 1400], 0), (144, .iload_n 3, 1, [], 0), (145, .iconst 1, 1, [], 0), (146, .iadd, 1, [], 0), (147, .iaload, 1, [], 0), (148, .ifCond .lt 7, 3, [155], 0), (151, .iconst 1, 1, [], 0), (152, .goto 23, 3, [175], 0), (155, .iconst 0, 1, [], 0), (156, .goto 19, 3, [175], 0), (159, .aload_n 0, 1, [], 0), (160, .getfield 38, 3, [12, 20, 1400], 0), (163, .iload_n 3, 1, [], 0), (164, .iconst 1, 1, [], 0), (165, .iadd, 1, [], 0), (166, .iaload, 1, [], 0), (167, .ifCond .le 7, 3, [174], 0), (170, .iconst 1, 1, [], 0), (171, .goto 4, 3, [175], 0), (174, .iconst 0, 1, [], 0), (175, .ireturn, 1, [], 0)])
def pj_m195 : pj_M := (yX12_readsPairs, cX12_readsPairs, 5, some (.int), [1642, 99, 1641, 32], [(0, .aload_n 0, 1, [], 0), (1, .bipush 17, 2, [], 0), (3, .invokevirtual 205, 3, [0, 2, 182, 12, 1580], 0), (6, .istore_n 2, 1, [], 0), (7, .aload_n 0, 1, [], 0), (8, .iconst 0, 1, [], 0), (9, .putfield 184, 3, [12, 22, 1402], 0), (12, .iconst 1, 1, [], 0), (13, .istore_n 3, 1, [], 0), (14, .iload_n 2, 1, [], 0), (15, .ifCond .le 7, 3, [22], 0), (18, .iconst 1, 1, [], 0), (19, .goto 4, 3, [23], 0), (22, .iconst 0, 1, [], 0), (23, .istore 4, 2, [], 0), (25, .iload 4, 2, [], 0), (27, .ifCond .eq 32, 3, [59], 0), (30, .aload_n 0, 1, [], 0), (31, .iload_n 1, 1, [], 0), (32, .invokevirtual 226, 3, [0, 2, 194, 12, 1643], 0), (35, .istore_n 3, 1, [], 0), (36, .iload_n 3, 1, [], 0), (37, .ifCond .eq 16, 3, [53], 0), (40, .aload_n 0, 1, [], 0), (41, .bipush 59, 2, [], 0), (43, .invokevirtual 196, 3, [0, 2, 183, 12, 1599], 0), (46, .ifCond .eq 7, 3, [53], 0), (49, .iconst 1, 1, [], 0), (50, .goto 4, 3, [54], 0), (53, .iconst 0, 1, [], 0), (54, .istore 4, 2, [], 0), (56, .goto (-31), 3, [25], 0), (59, .aload_n 0, 1, [], 0), (60, .iload_n 2, 1, [], 0), (61, .bipush 17, 2, [], 0), (63, .iload_n 3, 1, [], 0), (64, .invokevirtual 213, 3, [0, 4, 189, 12, 1627], 0), (67, .ireturn, 1, [], 0)])
def pj_m196 : pj_M := (yX12_bridges, cX12_bridges, 3, some (.int), [1638, 99, 1636, 1637], [(0, .aload_n 0, 1, [], 0), (1, .iconst 0, 1, [], 0), (2, .putfield 105, 3, [12, 0, 1380], 0), (5, .aload_n 0, 1, [], 0), (6, .iconst 1, 1, [], 0), (7, .invokevirtual 230, 3, [0, 2, 195, 12, 1639], 0), (10, .istore_n 1, 1, [], 0), (11, .iload_n 1, 1, [], 0), (12, .ifCond .ge 5, 3, [17], 0), (15, .iload_n 1, 1, [], 0), (16, .ireturn, 1, [], 0), (17, .iconst 0, 1, [], 0), (18, .istore_n 2, 1, [], 0), (19, .iload_n 2, 1, [], 0), (20, .aload_n 0, 1, [], 0), (21, .getfield 184, 3, [12, 22, 1402], 0), (24, .if_icmp .ge 101, 3, [125], 0), (27, .aload_n 0, 1, [], 0), (28, .getfield 26, 3, [12, 12, 1392], 0), (31, .aload_n 0, 1, [], 0), (32, .getfield 126, 3, [12, 5, 1385], 0), (35, .aload_n 0, 1, [], 0), (36, .getfield 38, 3, [12, 20, 1400], 0), (39, .iconst 2, 1, [], 0), (40, .iload_n 2, 1, [], 0), (41, .imul, 1, [], 0), (42, .iaload, 1, [], 0), (43, .iastore, 1, [], 0), (44, .aload_n 0, 1, [], 0), (45, .getfield 32, 3, [12, 14, 1394], 0), (48, .iconst 4, 1, [], 0), (49, .aload_n 0, 1, [], 0), (50, .getfield 126, 3, [12, 5, 1385], 0), (53, .imul, 1, [], 0), (54, .iconst 0, 1, [], 0), (55, .iadd, 1, [], 0), (56, .iconst (-1), 1, [], 0), (57, .iastore, 1, [], 0), (58, .aload_n 0, 1, [], 0), (59, .getfield 32, 3, [12, 14, 1394], 0), (62, .iconst 4, 1, [], 0), (63, .aload_n 0, 1, [], 0), (64, .getfield 126, 3, [12, 5, 1385], 0), (67, .imul, 1, [], 0), (68, .iconst 1, 1, [], 0), (69, .iadd, 1, [], 0), (70, .iconst 0, 1, [], 0), (71, .iastore, 1, [], 0), (72, .aload_n 0, 1, [], 0), (73, .getfield 32, 3, [12, 14, 1394], 0), (76, .iconst 4, 1, [], 0), (77, .aload_n 0, 1, [], 0), (78, .getfield 126, 3, [12, 5, 1385], 0), (81, .imul, 1, [], 0), (82, .iconst 2, 1, [], 0), (83, .iadd, 1, [], 0), (84, .iconst (-1), 1, [], 0), (85, .iastore, 1, [], 0), (86, .aload_n 0, 1, [], 0), (87, .getfield 32, 3, [12, 14, 1394], 0), (90, .iconst 4, 1, [], 0), (91, .aload_n 0, 1, [], 0), (92, .getfield 126, 3, [12, 5, 1385], 0), (95, .imul, 1, [], 0), (96, .iconst 3, 1, [], 0), (97, .iadd, 1, [], 0), (98, .aload_n 0, 1, [], 0), (99, .getfield 38, 3, [12, 20, 1400], 0), (102, .iconst 2, 1, [], 0), (103, .iload_n 2, 1, [], 0), (104, .imul, 1, [], 0), (105, .iconst 1, 1, [], 0), (106, .iadd, 1, [], 0), (107, .iaload, 1, [], 0), (108, .iastore, 1, [], 0), (109, .aload_n 0, 1, [], 0), (110, .dup, 1, [], 0), (111, .getfield 126, 3, [12, 5, 1385], 0), (114, .iconst 1, 1, [], 0), (115, .iadd, 1, [], 0), (116, .putfield 126, 3, [12, 5, 1385], 0), (119, .iinc 2 1, 3, [], 0), (122, .goto (-103), 3, [19], 0), (125, .aload_n 0, 1, [], 0), (126, .getfield 184, 3, [12, 22, 1402], 0), (129, .ifCond .le 7, 3, [136], 0), (132, .aload_n 0, 1, [], 0), (133, .invokevirtual 217, 3, [0, 1, 193, 12, 1631], 0), (136, .aload_n 0, 1, [], 0), (137, .getfield 184, 3, [12, 22, 1402], 0), (140, .ireturn, 1, [], 0)])
def pj_m197 : pj_M := (yX12_people, cX12_people, 3, some (.int), [1650, 99, 1648, 1649], [(0, .aload_n 0, 1, [], 0), (1, .iconst 0, 1, [], 0), (2, .putfield 105, 3, [12, 0, 1380], 0), (5, .aload_n 0, 1, [], 0), (6, .iconst 0, 1, [], 0), (7, .invokevirtual 230, 3, [0, 2, 195, 12, 1639], 0), (10, .istore_n 1, 1, [], 0), (11, .iload_n 1, 1, [], 0), (12, .ifCond .ge 5, 3, [17], 0), (15, .iload_n 1, 1, [], 0), (16, .ireturn, 1, [], 0), (17, .iconst 0, 1, [], 0), (18, .istore_n 2, 1, [], 0), (19, .iload_n 2, 1, [], 0), (20, .aload_n 0, 1, [], 0), (21, .getfield 184, 3, [12, 22, 1402], 0), (24, .if_icmp .ge 58, 3, [82], 0), (27, .aload_n 0, 1, [], 0), (28, .getfield 32, 3, [12, 14, 1394], 0), (31, .bipush 24, 2, [], 0), (33, .aload_n 0, 1, [], 0), (34, .getfield 129, 3, [12, 6, 1386], 0), (37, .iadd, 1, [], 0), (38, .aload_n 0, 1, [], 0), (39, .getfield 38, 3, [12, 20, 1400], 0), (42, .iconst 2, 1, [], 0), (43, .iload_n 2, 1, [], 0), (44, .imul, 1, [], 0), (45, .iaload, 1, [], 0), (46, .iastore, 1, [], 0), (47, .aload_n 0, 1, [], 0), (48, .getfield 29, 3, [12, 13, 1393], 0), (51, .aload_n 0, 1, [], 0), (52, .getfield 129, 3, [12, 6, 1386], 0), (55, .aload_n 0, 1, [], 0), (56, .getfield 38, 3, [12, 20, 1400], 0), (59, .iconst 2, 1, [], 0), (60, .iload_n 2, 1, [], 0), (61, .imul, 1, [], 0), (62, .iconst 1, 1, [], 0), (63, .iadd, 1, [], 0), (64, .iaload, 1, [], 0), (65, .iastore, 1, [], 0), (66, .aload_n 0, 1, [], 0), (67, .dup, 1, [], 0), (68, .getfield 129, 3, [12, 6, 1386], 0), (71, .iconst 1, 1, [], 0), (72, .iadd, 1, [], 0), (73, .putfield 129, 3, [12, 6, 1386], 0), (76, .iinc 2 1, 3, [], 0), (79, .goto (-60), 3, [19], 0), (82, .aload_n 0, 1, [], 0), (83, .getfield 184, 3, [12, 22, 1402], 0), (86, .ifCond .le 7, 3, [93], 0), (89, .aload_n 0, 1, [], 0), (90, .invokevirtual 217, 3, [0, 1, 193, 12, 1631], 0), (93, .aload_n 0, 1, [], 0), (94, .getfield 184, 3, [12, 22, 1402], 0), (97, .ireturn, 1, [], 0)])
def pj_m198 : pj_M := (yX12_codes, cX12_codes, 2, none, [1666, 99, 1665, 36], [(0, .aload_n 0, 1, [], 0), (1, .getfield 44, 3, [12, 25, 1405], 0), (4, .aload_n 0, 1, [], 0), (5, .getfield 233, 3, [12, 27, 1407], 0), (8, .iload_n 1, 1, [], 0), (9, .iastore, 1, [], 0), (10, .aload_n 0, 1, [], 0), (11, .dup, 1, [], 0), (12, .getfield 233, 3, [12, 27, 1407], 0), (15, .iconst 1, 1, [], 0), (16, .iadd, 1, [], 0), (17, .putfield 233, 3, [12, 27, 1407], 0), (20, .return_, 1, [], 0)])
def pj_m199 : pj_M := (yX12_readsThing, cX12_readsThing, 2, some (.boolean), [1662, 99, 1661, 35], [(0, .aload_n 0, 1, [], 0), (1, .bipush 45, 2, [], 0), (3, .invokevirtual 196, 3, [0, 2, 183, 12, 1599], 0), (6, .ifCond .eq 17, 3, [23], 0), (9, .aload_n 0, 1, [], 0), (10, .invokevirtual 236, 3, [0, 1, 199, 12, 1659], 0), (13, .istore_n 1, 1, [], 0), (14, .aload_n 0, 1, [], 0), (15, .sipush 3000, 3, [], 0), (18, .invokevirtual 239, 3, [0, 2, 198, 12, 1663], 0), (21, .iload_n 1, 1, [], 0), (22, .ireturn, 1, [], 0), (23, .aload_n 0, 1, [], 0), (24, .invokevirtual 171, 3, [0, 1, 184, 12, 1620], 0), (27, .ifCond .eq 14, 3, [41], 0), (30, .aload_n 0, 1, [], 0), (31, .aload_n 0, 1, [], 0), (32, .iconst 3, 1, [], 0), (33, .invokevirtual 193, 3, [0, 2, 187, 12, 1616], 0), (36, .invokevirtual 239, 3, [0, 2, 198, 12, 1663], 0), (39, .iconst 1, 1, [], 0), (40, .ireturn, 1, [], 0), (41, .aload_n 0, 1, [], 0), (42, .ldc 243, 2, [1, 11], 0), (44, .invokevirtual 202, 3, [0, 2, 186, 12, 1586], 0), (47, .istore_n 1, 1, [], 0), (48, .iload_n 1, 1, [], 0), (49, .ifCond .lt 14, 3, [63], 0), (52, .aload_n 0, 1, [], 0), (53, .sipush 1000, 3, [], 0), (56, .iload_n 1, 1, [], 0), (57, .iadd, 1, [], 0), (58, .invokevirtual 239, 3, [0, 2, 198, 12, 1663], 0), (61, .iconst 1, 1, [], 0), (62, .ireturn, 1, [], 0), (63, .aload_n 0, 1, [], 0), (64, .getfield 138, 3, [12, 19, 1399], 0), (67, .iconst 4, 1, [], 0), (68, .if_icmp .eq 12, 3, [80], 0), (71, .aload_n 0, 1, [], 0), (72, .bipush 40, 2, [], 0), (74, .invokevirtual 196, 3, [0, 2, 183, 12, 1599], 0), (77, .ifCond .ne 5, 3, [82], 0), (80, .iconst 0, 1, [], 0), (81, .ireturn, 1, [], 0), (82, .aload_n 0, 1, [], 0), (83, .dup, 1, [], 0), (84, .getfield 138, 3, [12, 19, 1399], 0), (87, .iconst 1, 1, [], 0), (88, .iadd, 1, [], 0), (89, .putfield 138, 3, [12, 19, 1399], 0), (92, .aload_n 0, 1, [], 0), (93, .iconst 0, 1, [], 0), (94, .invokevirtual 245, 3, [0, 2, 200, 12, 1655], 0), (97, .ifCond .eq 12, 3, [109], 0), (100, .aload_n 0, 1, [], 0), (101, .bipush 41, 2, [], 0), (103, .invokevirtual 196, 3, [0, 2, 183, 12, 1599], 0), (106, .ifCond .ne 5, 3, [111], 0), (109, .iconst 0, 1, [], 0), (110, .ireturn, 1, [], 0), (111, .aload_n 0, 1, [], 0), (112, .dup, 1, [], 0), (113, .getfield 138, 3, [12, 19, 1399], 0), (116, .iconst 1, 1, [], 0), (117, .isub, 1, [], 0), (118, .putfield 138, 3, [12, 19, 1399], 0), (121, .iconst 1, 1, [], 0), (122, .ireturn, 1, [], 0)])
def pj_m200 : pj_M := (yX12_readsRank, cX12_readsRank, 4, some (.boolean), [1658, 99, 1657, 34], [(0, .iload_n 1, 1, [], 0), (1, .iconst 3, 1, [], 0), (2, .if_icmp .ne 8, 3, [10], 0), (5, .aload_n 0, 1, [], 0), (6, .invokevirtual 236, 3, [0, 1, 199, 12, 1659], 0), (9, .ireturn, 1, [], 0), (10, .aload_n 0, 1, [], 0), (11, .iload_n 1, 1, [], 0), (12, .iconst 1, 1, [], 0), (13, .iadd, 1, [], 0), (14, .invokevirtual 245, 3, [0, 2, 200, 12, 1655], 0), (17, .ifCond .ne 5, 3, [22], 0), (20, .iconst 0, 1, [], 0), (21, .ireturn, 1, [], 0), (22, .iconst 1, 1, [], 0), (23, .istore_n 2, 1, [], 0), (24, .iload_n 2, 1, [], 0), (25, .ifCond .eq 88, 3, [113], 0), (28, .aload_n 0, 1, [], 0), (29, .iload_n 1, 1, [], 0), (30, .ifCond .ne 8, 3, [38], 0), (33, .ldc 248, 2, [1, 12], 0), (35, .goto 15, 3, [50], 0), (38, .iload_n 1, 1, [], 0), (39, .iconst 1, 1, [], 0), (40, .if_icmp .ne 8, 3, [48], 0), (43, .ldc 250, 2, [1, 13], 0), (45, .goto 5, 3, [50], 0), (48, .ldc 252, 2, [1, 14], 0), (50, .invokevirtual 202, 3, [0, 2, 186, 12, 1586], 0), (53, .istore_n 3, 1, [], 0), (54, .iload_n 3, 1, [], 0), (55, .ifCond .ge 5, 3, [60], 0), (58, .iconst 1, 1, [], 0), (59, .ireturn, 1, [], 0), (60, .aload_n 0, 1, [], 0), (61, .iload_n 1, 1, [], 0), (62, .iconst 1, 1, [], 0), (63, .iadd, 1, [], 0), (64, .invokevirtual 245, 3, [0, 2, 200, 12, 1655], 0), (67, .ifCond .ne 5, 3, [72], 0), (70, .iconst 0, 1, [], 0), (71, .ireturn, 1, [], 0), (72, .aload_n 0, 1, [], 0), (73, .sipush 2000, 3, [], 0), (76, .iload_n 3, 1, [], 0), (77, .iadd, 1, [], 0), (78, .iload_n 1, 1, [], 0), (79, .ifCond .ne 7, 3, [86], 0), (82, .iconst 0, 1, [], 0), (83, .goto 13, 3, [96], 0), (86, .iload_n 1, 1, [], 0), (87, .iconst 1, 1, [], 0), (88, .if_icmp .ne 7, 3, [95], 0), (91, .iconst 3, 1, [], 0), (92, .goto 4, 3, [96], 0), (95, .iconst 5, 1, [], 0), (96, .iadd, 1, [], 0), (97, .invokevirtual 239, 3, [0, 2, 198, 12, 1663], 0), (100, .iload_n 1, 1, [], 0), (101, .ifCond .le 7, 3, [108], 0), (104, .iconst 1, 1, [], 0), (105, .goto 4, 3, [109], 0), (108, .iconst 0, 1, [], 0), (109, .istore_n 2, 1, [], 0), (110, .goto (-86), 3, [24], 0), (113, .iconst 1, 1, [], 0), (114, .ireturn, 1, [], 0)])
def pj_m201 : pj_M := (yX12_rule, cX12_rule, 5, some (.int), [1654, 99, 1652, 1653], [(0, .aload_n 0, 1, [], 0), (1, .iconst 0, 1, [], 0), (2, .putfield 105, 3, [12, 0, 1380], 0), (5, .aload_n 0, 1, [], 0), (6, .bipush 40, 2, [], 0), (8, .invokevirtual 205, 3, [0, 2, 182, 12, 1580], 0), (11, .istore_n 1, 1, [], 0), (12, .aload_n 0, 1, [], 0), (13, .iconst 0, 1, [], 0), (14, .putfield 233, 3, [12, 27, 1407], 0), (17, .iload_n 1, 1, [], 0), (18, .ifCond .eq 11, 3, [29], 0), (21, .aload_n 0, 1, [], 0), (22, .iconst 0, 1, [], 0), (23, .invokevirtual 245, 3, [0, 2, 200, 12, 1655], 0), (26, .ifCond .eq 7, 3, [33], 0), (29, .iconst 1, 1, [], 0), (30, .goto 4, 3, [34], 0), (33, .iconst 0, 1, [], 0), (34, .istore_n 2, 1, [], 0), (35, .aload_n 0, 1, [], 0), (36, .iload_n 1, 1, [], 0), (37, .bipush 40, 2, [], 0), (39, .iload_n 2, 1, [], 0), (40, .invokevirtual 213, 3, [0, 4, 189, 12, 1627], 0), (43, .istore_n 3, 1, [], 0), (44, .iload_n 3, 1, [], 0), (45, .ifCond .ge 5, 3, [50], 0), (48, .iload_n 3, 1, [], 0), (49, .ireturn, 1, [], 0), (50, .aload_n 0, 1, [], 0), (51, .aload_n 0, 1, [], 0), (52, .getfield 233, 3, [12, 27, 1407], 0), (55, .putfield 254, 3, [12, 26, 1406], 0), (58, .iconst 0, 1, [], 0), (59, .istore 4, 2, [], 0), (61, .iload 4, 2, [], 0), (63, .aload_n 0, 1, [], 0), (64, .getfield 233, 3, [12, 27, 1407], 0), (67, .if_icmp .ge 23, 3, [90], 0), (70, .aload_n 0, 1, [], 0), (71, .getfield 41, 3, [12, 24, 1404], 0), (74, .iload 4, 2, [], 0), (76, .aload_n 0, 1, [], 0), (77, .getfield 44, 3, [12, 25, 1405], 0), (80, .iload 4, 2, [], 0), (82, .iaload, 1, [], 0), (83, .iastore, 1, [], 0), (84, .iinc 4 1, 3, [], 0), (87, .goto (-26), 3, [61], 0), (90, .iconst 0, 1, [], 0), (91, .ireturn, 1, [], 0)])
def pj_m202 : pj_M := (yX12_worked, cX12_worked, 3, some (.int), [1738, 99, 1737, 0], [(0, .iload_n 0, 1, [], 0), (1, .tableswitch 93 0 5 #[39, 53, 67, 81, 85, 89], 39, [], 0), (40, .iload_n 1, 1, [], 0), (41, .iload_n 2, 1, [], 0), (42, .if_icmp .ge 7, 3, [49], 0), (45, .iconst 1, 1, [], 0), (46, .goto 4, 3, [50], 0), (49, .iconst 0, 1, [], 0), (50, .invokestatic 150, 3, [2, 1, 173, 0, 1596], 0), (53, .ireturn, 1, [], 0), (54, .iload_n 1, 1, [], 0), (55, .iload_n 2, 1, [], 0), (56, .if_icmp .le 7, 3, [63], 0), (59, .iconst 1, 1, [], 0), (60, .goto 4, 3, [64], 0), (63, .iconst 0, 1, [], 0), (64, .invokestatic 150, 3, [2, 1, 173, 0, 1596], 0), (67, .ireturn, 1, [], 0), (68, .iload_n 1, 1, [], 0), (69, .iload_n 2, 1, [], 0), (70, .if_icmp .ne 7, 3, [77], 0), (73, .iconst 1, 1, [], 0), (74, .goto 4, 3, [78], 0), (77, .iconst 0, 1, [], 0), (78, .invokestatic 150, 3, [2, 1, 173, 0, 1596], 0), (81, .ireturn, 1, [], 0), (82, .iload_n 1, 1, [], 0), (83, .iload_n 2, 1, [], 0), (84, .iadd, 1, [], 0), (85, .ireturn, 1, [], 0), (86, .iload_n 1, 1, [], 0), (87, .iload_n 2, 1, [], 0), (88, .isub, 1, [], 0), (89, .ireturn, 1, [], 0), (90, .iload_n 1, 1, [], 0), (91, .iload_n 2, 1, [], 0), (92, .imul, 1, [], 0), (93, .ireturn, 1, [], 0), (94, .iload_n 2, 1, [], 0), (95, .ifCond .ne 7, 3, [102], 0), (98, .iconst 0, 1, [], 0), (99, .goto 6, 3, [105], 0), (102, .iload_n 1, 1, [], 0), (103, .iload_n 2, 1, [], 0), (104, .idiv, 1, [], 0), (105, .ireturn, 1, [], 0)])
def pj_m203 : pj_M := (yX12_ruled, cX12_ruled, 4, some (.int), [1735, 99, 1734, 45], [(0, .iconst 0, 1, [], 0), (1, .istore_n 1, 1, [], 0), (2, .iconst 0, 1, [], 0), (3, .istore_n 2, 1, [], 0), (4, .iload_n 2, 1, [], 0), (5, .aload_n 0, 1, [], 0), (6, .getfield 254, 3, [12, 26, 1406], 0), (9, .if_icmp .ge 116, 3, [125], 0), (12, .aload_n 0, 1, [], 0), (13, .getfield 41, 3, [12, 24, 1404], 0), (16, .iload_n 2, 1, [], 0), (17, .iaload, 1, [], 0), (18, .istore_n 3, 1, [], 0), (19, .iload_n 3, 1, [], 0), (20, .sipush 3000, 3, [], 0), (23, .if_icmp .ne 23, 3, [46], 0), (26, .aload_n 0, 1, [], 0), (27, .getfield 47, 3, [12, 28, 1408], 0), (30, .iload_n 1, 1, [], 0), (31, .iconst 1, 1, [], 0), (32, .isub, 1, [], 0), (33, .aload_n 0, 1, [], 0), (34, .getfield 47, 3, [12, 28, 1408], 0), (37, .iload_n 1, 1, [], 0), (38, .iconst 1, 1, [], 0), (39, .isub, 1, [], 0), (40, .iaload, 1, [], 0), (41, .ineg, 1, [], 0), (42, .iastore, 1, [], 0), (43, .goto 76, 3, [119], 0), (46, .iload_n 3, 1, [], 0), (47, .sipush 2000, 3, [], 0), (50, .if_icmp .lt 39, 3, [89], 0), (53, .iinc 1 (-1), 3, [], 0), (56, .aload_n 0, 1, [], 0), (57, .getfield 47, 3, [12, 28, 1408], 0), (60, .iload_n 1, 1, [], 0), (61, .iconst 1, 1, [], 0), (62, .isub, 1, [], 0), (63, .iload_n 3, 1, [], 0), (64, .sipush 2000, 3, [], 0), (67, .isub, 1, [], 0), (68, .aload_n 0, 1, [], 0), (69, .getfield 47, 3, [12, 28, 1408], 0), (72, .iload_n 1, 1, [], 0), (73, .iconst 1, 1, [], 0), (74, .isub, 1, [], 0), (75, .iaload, 1, [], 0), (76, .aload_n 0, 1, [], 0), (77, .getfield 47, 3, [12, 28, 1408], 0), (80, .iload_n 1, 1, [], 0), (81, .iaload, 1, [], 0), (82, .invokestatic 257, 3, [2, 3, 202, 0, 1736], 0), (85, .iastore, 1, [], 0), (86, .goto 33, 3, [119], 0), (89, .aload_n 0, 1, [], 0), (90, .getfield 47, 3, [12, 28, 1408], 0), (93, .iload_n 1, 1, [], 0), (94, .iload_n 3, 1, [], 0), (95, .sipush 1000, 3, [], 0), (98, .if_icmp .lt 16, 3, [114], 0), (101, .aload_n 0, 1, [], 0), (102, .getfield 50, 3, [12, 29, 1409], 0), (105, .iload_n 3, 1, [], 0), (106, .sipush 1000, 3, [], 0), (109, .isub, 1, [], 0), (110, .iaload, 1, [], 0), (111, .goto 4, 3, [115], 0), (114, .iload_n 3, 1, [], 0), (115, .iastore, 1, [], 0), (116, .iinc 1 1, 3, [], 0), (119, .iinc 2 1, 3, [], 0), (122, .goto (-118), 3, [4], 0), (125, .aload_n 0, 1, [], 0), (126, .getfield 254, 3, [12, 26, 1406], 0), (129, .ifCond .ne 26, 3, [155], 0), (132, .aload_n 0, 1, [], 0), (133, .getfield 50, 3, [12, 29, 1409], 0), (136, .iconst 0, 1, [], 0), (137, .iaload, 1, [], 0), (138, .bipush 9, 2, [], 0), (140, .idiv, 1, [], 0), (141, .iconst 2, 1, [], 0), (142, .aload_n 0, 1, [], 0), (143, .getfield 50, 3, [12, 29, 1409], 0), (146, .iconst 1, 1, [], 0), (147, .iaload, 1, [], 0), (148, .imul, 1, [], 0), (149, .iadd, 1, [], 0), (150, .iconst 1, 1, [], 0), (151, .iadd, 1, [], 0), (152, .goto 9, 3, [161], 0), (155, .aload_n 0, 1, [], 0), (156, .getfield 47, 3, [12, 28, 1408], 0), (159, .iconst 0, 1, [], 0), (160, .iaload, 1, [], 0), (161, .istore_n 2, 1, [], 0), (162, .iconst 1, 1, [], 0), (163, .bipush 99, 2, [], 0), (165, .iload_n 2, 1, [], 0), (166, .invokestatic 141, 3, [11, 0, 0, 0, 1584, 502, 100, 503], 0), (169, .invokestatic 261, 3, [10, 0, 0, 0, 1710, 686, 100, 687], 0), (172, .ireturn, 1, [], 0)])
def pj_m204 : pj_M := (yX12_spotOf, cX12_spotOf, 2, some (.int), [1730, 99, 1729, 44], [(0, .iload_n 1, 1, [], 0), (1, .ifCond .ge 7, 3, [8], 0), (4, .iconst 0, 1, [], 0), (5, .goto 9, 3, [14], 0), (8, .aload_n 0, 1, [], 0), (9, .getfield 20, 3, [12, 10, 1390], 0), (12, .iload_n 1, 1, [], 0), (13, .iaload, 1, [], 0), (14, .ireturn, 1, [], 0)])
def pj_m205 : pj_M := (yX12_towOf, cX12_towOf, 5, some (.int), [1726, 99, 1725, 43], [(0, .aload_n 0, 1, [], 0), (1, .aload_n 0, 1, [], 0), (2, .getfield 32, 3, [12, 14, 1394], 0), (5, .iconst 4, 1, [], 0), (6, .iload_n 1, 1, [], 0), (7, .imul, 1, [], 0), (8, .iconst 0, 1, [], 0), (9, .iadd, 1, [], 0), (10, .iaload, 1, [], 0), (11, .invokevirtual 264, 3, [0, 2, 204, 12, 1727], 0), (14, .istore_n 3, 1, [], 0), (15, .aload_n 0, 1, [], 0), (16, .iload_n 2, 1, [], 0), (17, .invokevirtual 264, 3, [0, 2, 204, 12, 1727], 0), (20, .istore 4, 2, [], 0), (22, .aload_n 0, 1, [], 0), (23, .getfield 50, 3, [12, 29, 1409], 0), (26, .iconst 0, 1, [], 0), (27, .iload_n 3, 1, [], 0), (28, .iload 4, 2, [], 0), (30, .isub, 1, [], 0), (31, .invokestatic 267, 3, [12, 0, 0, 0, 1731, 788, 100, 789], 0), (34, .iastore, 1, [], 0), (35, .aload_n 0, 1, [], 0), (36, .getfield 50, 3, [12, 29, 1409], 0), (39, .iconst 1, 1, [], 0), (40, .iload 4, 2, [], 0), (42, .iload_n 3, 1, [], 0), (43, .if_icmp .ge 7, 3, [50], 0), (46, .iconst 1, 1, [], 0), (47, .goto 4, 3, [51], 0), (50, .iconst 0, 1, [], 0), (51, .invokestatic 150, 3, [2, 1, 173, 0, 1596], 0), (54, .iastore, 1, [], 0), (55, .aload_n 0, 1, [], 0), (56, .getfield 50, 3, [12, 29, 1409], 0), (59, .iconst 2, 1, [], 0), (60, .aload_n 0, 1, [], 0), (61, .getfield 26, 3, [12, 12, 1392], 0), (64, .iload_n 1, 1, [], 0), (65, .iaload, 1, [], 0), (66, .iastore, 1, [], 0), (67, .aload_n 0, 1, [], 0), (68, .getfield 50, 3, [12, 29, 1409], 0), (71, .iconst 3, 1, [], 0), (72, .aload_n 0, 1, [], 0), (73, .getfield 32, 3, [12, 14, 1394], 0), (76, .iconst 4, 1, [], 0), (77, .iload_n 1, 1, [], 0), (78, .imul, 1, [], 0), (79, .iconst 3, 1, [], 0), (80, .iadd, 1, [], 0), (81, .iaload, 1, [], 0), (82, .iastore, 1, [], 0), (83, .aload_n 0, 1, [], 0), (84, .getfield 50, 3, [12, 29, 1409], 0), (87, .iconst 4, 1, [], 0), (88, .iload_n 2, 1, [], 0), (89, .ifCond .ge 7, 3, [96], 0), (92, .iconst 0, 1, [], 0), (93, .goto 9, 3, [102], 0), (96, .aload_n 0, 1, [], 0), (97, .getfield 23, 3, [12, 11, 1391], 0), (100, .iload_n 2, 1, [], 0), (101, .iaload, 1, [], 0), (102, .iastore, 1, [], 0), (103, .aload_n 0, 1, [], 0), (104, .getfield 50, 3, [12, 29, 1409], 0), (107, .iconst 5, 1, [], 0), (108, .iload_n 1, 1, [], 0), (109, .iastore, 1, [], 0), (110, .aload_n 0, 1, [], 0), (111, .getfield 50, 3, [12, 29, 1409], 0), (114, .bipush 6, 2, [], 0), (116, .aload_n 0, 1, [], 0), (117, .getfield 32, 3, [12, 14, 1394], 0), (120, .bipush 30, 2, [], 0), (122, .iaload, 1, [], 0), (123, .bipush 24, 2, [], 0), (125, .irem, 1, [], 0), (126, .iastore, 1, [], 0), (127, .aload_n 0, 1, [], 0), (128, .invokevirtual 270, 3, [0, 1, 203, 12, 1732], 0), (131, .ireturn, 1, [], 0)])
def pj_m206 : pj_M := (yX12_bridgeAt, cX12_bridgeAt, 4, some (.int), [1687, 99, 1686, 39], [(0, .iconst 0, 1, [], 0), (1, .istore_n 3, 1, [], 0), (2, .iload_n 3, 1, [], 0), (3, .aload_n 0, 1, [], 0), (4, .getfield 126, 3, [12, 5, 1385], 0), (7, .if_icmp .ge 47, 3, [54], 0), (10, .aload_n 0, 1, [], 0), (11, .getfield 32, 3, [12, 14, 1394], 0), (14, .iconst 4, 1, [], 0), (15, .iload_n 3, 1, [], 0), (16, .imul, 1, [], 0), (17, .iconst 0, 1, [], 0), (18, .iadd, 1, [], 0), (19, .iaload, 1, [], 0), (20, .iload_n 1, 1, [], 0), (21, .if_icmp .ne 27, 3, [48], 0), (24, .aload_n 0, 1, [], 0), (25, .getfield 32, 3, [12, 14, 1394], 0), (28, .iconst 4, 1, [], 0), (29, .iload_n 3, 1, [], 0), (30, .imul, 1, [], 0), (31, .iconst 1, 1, [], 0), (32, .iadd, 1, [], 0), (33, .iaload, 1, [], 0), (34, .ifCond .ne 7, 3, [41], 0), (37, .iconst 1, 1, [], 0), (38, .goto 4, 3, [42], 0), (41, .iconst 0, 1, [], 0), (42, .iload_n 2, 1, [], 0), (43, .if_icmp .ne 5, 3, [48], 0), (46, .iload_n 3, 1, [], 0), (47, .ireturn, 1, [], 0), (48, .iinc 3 1, 3, [], 0), (51, .goto (-49), 3, [2], 0), (54, .iconst (-1), 1, [], 0), (55, .ireturn, 1, [], 0)])
def pj_m207 : pj_M := (yX12_openIn, cX12_openIn, 6, some (.int), [1779, 99, 1778, 52], [(0, .iconst 0, 1, [], 0), (1, .istore_n 3, 1, [], 0), (2, .iconst 0, 1, [], 0), (3, .istore 4, 2, [], 0), (5, .iload 4, 2, [], 0), (7, .aload_n 0, 1, [], 0), (8, .getfield 126, 3, [12, 5, 1385], 0), (11, .if_icmp .ge 68, 3, [79], 0), (14, .aload_n 0, 1, [], 0), (15, .getfield 32, 3, [12, 14, 1394], 0), (18, .iconst 4, 1, [], 0), (19, .iload 4, 2, [], 0), (21, .imul, 1, [], 0), (22, .iconst 0, 1, [], 0), (23, .iadd, 1, [], 0), (24, .iaload, 1, [], 0), (25, .istore 5, 2, [], 0), (27, .iload_n 3, 1, [], 0), (28, .iload 5, 2, [], 0), (30, .ifCond .lt 40, 3, [70], 0), (33, .aload_n 0, 1, [], 0), (34, .getfield 32, 3, [12, 14, 1394], 0), (37, .iconst 4, 1, [], 0), (38, .iload 4, 2, [], 0), (40, .imul, 1, [], 0), (41, .iconst 1, 1, [], 0), (42, .iadd, 1, [], 0), (43, .iaload, 1, [], 0), (44, .iload_n 1, 1, [], 0), (45, .if_icmp .gt 25, 3, [70], 0), (48, .aload_n 0, 1, [], 0), (49, .getfield 32, 3, [12, 14, 1394], 0), (52, .iconst 4, 1, [], 0), (53, .iload 4, 2, [], 0), (55, .imul, 1, [], 0), (56, .iconst 3, 1, [], 0), (57, .iadd, 1, [], 0), (58, .iaload, 1, [], 0), (59, .iload_n 2, 1, [], 0), (60, .if_icmp .lt 10, 3, [70], 0), (63, .iconst 1, 1, [], 0), (64, .iload 5, 2, [], 0), (66, .ishl, 1, [], 0), (67, .goto 4, 3, [71], 0), (70, .iconst 0, 1, [], 0), (71, .ior, 1, [], 0), (72, .istore_n 3, 1, [], 0), (73, .iinc 4 1, 3, [], 0), (76, .goto (-71), 3, [5], 0), (79, .iload_n 3, 1, [], 0), (80, .ireturn, 1, [], 0)])
def pj_m208 : pj_M := (yX12_reachOnce, cX12_reachOnce, 5, some (.int), [1840, 99, 1839, 62], [(0, .iload_n 1, 1, [], 0), (1, .istore_n 3, 1, [], 0), (2, .iconst 0, 1, [], 0), (3, .istore 4, 2, [], 0), (5, .iload 4, 2, [], 0), (7, .aload_n 0, 1, [], 0), (8, .getfield 123, 3, [12, 4, 1384], 0), (11, .if_icmp .ge 78, 3, [89], 0), (14, .iload_n 2, 1, [], 0), (15, .iload 4, 2, [], 0), (17, .invokestatic 273, 3, [2, 2, 172, 0, 1780], 0), (20, .ifCond .eq 63, 3, [83], 0), (23, .iload_n 3, 1, [], 0), (24, .iload_n 1, 1, [], 0), (25, .aload_n 0, 1, [], 0), (26, .getfield 13, 3, [12, 8, 1388], 0), (29, .iload 4, 2, [], 0), (31, .iaload, 1, [], 0), (32, .invokestatic 273, 3, [2, 2, 172, 0, 1780], 0), (35, .ifCond .eq 15, 3, [50], 0), (38, .iconst 1, 1, [], 0), (39, .aload_n 0, 1, [], 0), (40, .getfield 17, 3, [12, 9, 1389], 0), (43, .iload 4, 2, [], 0), (45, .iaload, 1, [], 0), (46, .ishl, 1, [], 0), (47, .goto 4, 3, [51], 0), (50, .iconst 0, 1, [], 0), (51, .ior, 1, [], 0), (52, .istore_n 3, 1, [], 0), (53, .iload_n 3, 1, [], 0), (54, .iload_n 1, 1, [], 0), (55, .aload_n 0, 1, [], 0), (56, .getfield 17, 3, [12, 9, 1389], 0), (59, .iload 4, 2, [], 0), (61, .iaload, 1, [], 0), (62, .invokestatic 273, 3, [2, 2, 172, 0, 1780], 0), (65, .ifCond .eq 15, 3, [80], 0), (68, .iconst 1, 1, [], 0), (69, .aload_n 0, 1, [], 0), (70, .getfield 13, 3, [12, 8, 1388], 0), (73, .iload 4, 2, [], 0), (75, .iaload, 1, [], 0), (76, .ishl, 1, [], 0), (77, .goto 4, 3, [81], 0), (80, .iconst 0, 1, [], 0), (81, .ior, 1, [], 0), (82, .istore_n 3, 1, [], 0), (83, .iinc 4 1, 3, [], 0), (86, .goto (-81), 3, [5], 0), (89, .iload_n 3, 1, [], 0), (90, .ireturn, 1, [], 0)])
def pj_m209 : pj_M := (yX12_reach, cX12_reach, 5, some (.int), [1836, 99, 1835, 61], [(0, .iload_n 1, 1, [], 0), (1, .istore_n 3, 1, [], 0), (2, .iconst 0, 1, [], 0), (3, .istore 4, 2, [], 0), (5, .iload 4, 2, [], 0), (7, .aload_n 0, 1, [], 0), (8, .getfield 116, 3, [12, 3, 1383], 0), (11, .if_icmp .ge 16, 3, [27], 0), (14, .aload_n 0, 1, [], 0), (15, .iload_n 3, 1, [], 0), (16, .iload_n 2, 1, [], 0), (17, .invokevirtual 277, 3, [0, 3, 208, 12, 1837], 0), (20, .istore_n 3, 1, [], 0), (21, .iinc 4 1, 3, [], 0), (24, .goto (-19), 3, [5], 0), (27, .iload_n 3, 1, [], 0), (28, .ireturn, 1, [], 0)])
def pj_m210 : pj_M := (yX12_pairsOf, cX12_pairsOf, 4, some (.int), [1832, 99, 1831, 60], [(0, .iconst 0, 1, [], 0), (1, .istore_n 2, 1, [], 0), (2, .iconst 0, 1, [], 0), (3, .istore_n 3, 1, [], 0), (4, .iload_n 3, 1, [], 0), (5, .aload_n 0, 1, [], 0), (6, .getfield 116, 3, [12, 3, 1383], 0), (9, .if_icmp .ge 25, 3, [34], 0), (12, .iload_n 2, 1, [], 0), (13, .aload_n 0, 1, [], 0), (14, .iconst 1, 1, [], 0), (15, .iload_n 3, 1, [], 0), (16, .ishl, 1, [], 0), (17, .iload_n 1, 1, [], 0), (18, .invokevirtual 280, 3, [0, 3, 209, 12, 1833], 0), (21, .invokestatic 283, 3, [2, 1, 288, 0, 1841], 0), (24, .iconst 1, 1, [], 0), (25, .isub, 1, [], 0), (26, .iadd, 1, [], 0), (27, .istore_n 2, 1, [], 0), (28, .iinc 3 1, 3, [], 0), (31, .goto (-27), 3, [4], 0), (34, .iload_n 2, 1, [], 0), (35, .iconst 2, 1, [], 0), (36, .idiv, 1, [], 0), (37, .ireturn, 1, [], 0)])
def pj_m211 : pj_M := (yX12_crossing, cX12_crossing, 3, some (.int), [1674, 99, 1672, 1673], [(0, .aload_n 0, 1, [], 0), (1, .iconst 0, 1, [], 0), (2, .putfield 105, 3, [12, 0, 1380], 0), (5, .aload_n 0, 1, [], 0), (6, .iload_n 1, 1, [], 0), (7, .invokevirtual 288, 3, [0, 2, 177, 12, 1675], 0), (10, .ifCond .eq 15, 3, [25], 0), (13, .iload_n 2, 1, [], 0), (14, .i2l, 1, [], 0), (15, .lconst 0, 1, [], 0), (16, .ldc2_w 291, 3, [0, 1679], 5), (19, .invokestatic 119, 3, [2, 3, 171, 0, 1573], 0), (22, .ifCond .ne 8, 3, [30], 0), (25, .aload_n 0, 1, [], 0), (26, .invokevirtual 293, 3, [0, 1, 170, 12, 1680], 0), (29, .ireturn, 1, [], 0), (30, .iload_n 2, 1, [], 0), (31, .tableswitch 57 0 3 #[29, 36, 43, 50], 29, [], 0), (60, .aload_n 0, 1, [], 0), (61, .getfield 13, 3, [12, 8, 1388], 0), (64, .iload_n 1, 1, [], 0), (65, .iaload, 1, [], 0), (66, .ireturn, 1, [], 0), (67, .aload_n 0, 1, [], 0), (68, .getfield 17, 3, [12, 9, 1389], 0), (71, .iload_n 1, 1, [], 0), (72, .iaload, 1, [], 0), (73, .ireturn, 1, [], 0), (74, .aload_n 0, 1, [], 0), (75, .getfield 20, 3, [12, 10, 1390], 0), (78, .iload_n 1, 1, [], 0), (79, .iaload, 1, [], 0), (80, .ireturn, 1, [], 0), (81, .aload_n 0, 1, [], 0), (82, .getfield 23, 3, [12, 11, 1391], 0), (85, .iload_n 1, 1, [], 0), (86, .iaload, 1, [], 0), (87, .ireturn, 1, [], 0), (88, .aload_n 0, 1, [], 0), (89, .iload_n 1, 1, [], 0), (90, .iload_n 2, 1, [], 0), (91, .iconst 4, 1, [], 0), (92, .if_icmp .ne 7, 3, [99], 0), (95, .iconst 1, 1, [], 0), (96, .goto 4, 3, [100], 0), (99, .iconst 0, 1, [], 0), (100, .invokevirtual 296, 3, [0, 3, 206, 12, 1684], 0), (103, .ireturn, 1, [], 0)])
def pj_m212 : pj_M := (yX12_bridge, cX12_bridge, 3, some (.int), [1691, 99, 1689, 1690], [(0, .aload_n 0, 1, [], 0), (1, .iconst 0, 1, [], 0), (2, .putfield 105, 3, [12, 0, 1380], 0), (5, .aload_n 0, 1, [], 0), (6, .iload_n 1, 1, [], 0), (7, .invokevirtual 300, 3, [0, 2, 178, 12, 1692], 0), (10, .ifCond .eq 15, 3, [25], 0), (13, .iload_n 2, 1, [], 0), (14, .i2l, 1, [], 0), (15, .lconst 0, 1, [], 0), (16, .ldc2_w 303, 3, [0, 1696], 4), (19, .invokestatic 119, 3, [2, 3, 171, 0, 1573], 0), (22, .ifCond .ne 8, 3, [30], 0), (25, .aload_n 0, 1, [], 0), (26, .invokevirtual 293, 3, [0, 1, 170, 12, 1680], 0), (29, .ireturn, 1, [], 0), (30, .iload_n 2, 1, [], 0), (31, .tableswitch 69 0 3 #[29, 36, 47, 58], 29, [], 0), (60, .aload_n 0, 1, [], 0), (61, .getfield 26, 3, [12, 12, 1392], 0), (64, .iload_n 1, 1, [], 0), (65, .iaload, 1, [], 0), (66, .ireturn, 1, [], 0), (67, .aload_n 0, 1, [], 0), (68, .getfield 32, 3, [12, 14, 1394], 0), (71, .iconst 4, 1, [], 0), (72, .iload_n 1, 1, [], 0), (73, .imul, 1, [], 0), (74, .iconst 3, 1, [], 0), (75, .iadd, 1, [], 0), (76, .iaload, 1, [], 0), (77, .ireturn, 1, [], 0), (78, .aload_n 0, 1, [], 0), (79, .getfield 32, 3, [12, 14, 1394], 0), (82, .iconst 4, 1, [], 0), (83, .iload_n 1, 1, [], 0), (84, .imul, 1, [], 0), (85, .iconst 0, 1, [], 0), (86, .iadd, 1, [], 0), (87, .iaload, 1, [], 0), (88, .ireturn, 1, [], 0), (89, .aload_n 0, 1, [], 0), (90, .getfield 32, 3, [12, 14, 1394], 0), (93, .iconst 4, 1, [], 0), (94, .iload_n 1, 1, [], 0), (95, .imul, 1, [], 0), (96, .iconst 1, 1, [], 0), (97, .iadd, 1, [], 0), (98, .iaload, 1, [], 0), (99, .ireturn, 1, [], 0), (100, .aload_n 0, 1, [], 0), (101, .getfield 32, 3, [12, 14, 1394], 0), (104, .iconst 4, 1, [], 0), (105, .iload_n 1, 1, [], 0), (106, .imul, 1, [], 0), (107, .iconst 2, 1, [], 0), (108, .iadd, 1, [], 0), (109, .iaload, 1, [], 0), (110, .ireturn, 1, [], 0)])
def pj_m213 : pj_M := (yX12_person, cX12_person, 3, some (.int), [1700, 99, 1698, 1699], [(0, .aload_n 0, 1, [], 0), (1, .iconst 0, 1, [], 0), (2, .putfield 105, 3, [12, 0, 1380], 0), (5, .aload_n 0, 1, [], 0), (6, .iload_n 1, 1, [], 0), (7, .invokevirtual 305, 3, [0, 2, 179, 12, 1701], 0), (10, .ifCond .eq 13, 3, [23], 0), (13, .iload_n 2, 1, [], 0), (14, .i2l, 1, [], 0), (15, .lconst 0, 1, [], 0), (16, .lconst 1, 1, [], 0), (17, .invokestatic 119, 3, [2, 3, 171, 0, 1573], 0), (20, .ifCond .ne 8, 3, [28], 0), (23, .aload_n 0, 1, [], 0), (24, .invokevirtual 293, 3, [0, 1, 170, 12, 1680], 0), (27, .ireturn, 1, [], 0), (28, .iload_n 2, 1, [], 0), (29, .ifCond .ne 15, 3, [44], 0), (32, .aload_n 0, 1, [], 0), (33, .getfield 32, 3, [12, 14, 1394], 0), (36, .bipush 24, 2, [], 0), (38, .iload_n 1, 1, [], 0), (39, .iadd, 1, [], 0), (40, .iaload, 1, [], 0), (41, .goto 9, 3, [50], 0), (44, .aload_n 0, 1, [], 0), (45, .getfield 29, 3, [12, 13, 1393], 0), (48, .iload_n 1, 1, [], 0), (49, .iaload, 1, [], 0), (50, .ireturn, 1, [], 0)])
def pj_m214 : pj_M := (yX12_sheet, cX12_sheet, 9, some (.int), [1708, 99, 1706, 1707], [(0, .aload_n 0, 1, [], 0), (1, .iconst 0, 1, [], 0), (2, .putfield 105, 3, [12, 0, 1380], 0), (5, .iload_n 1, 1, [], 0), (6, .i2l, 1, [], 0), (7, .lconst 0, 1, [], 0), (8, .ldc2_w 308, 3, [0, 1709], 3), (11, .invokestatic 119, 3, [2, 3, 171, 0, 1573], 0), (14, .ifCond .eq 9, 3, [23], 0), (17, .iload_n 2, 1, [], 0), (18, .bipush 6, 2, [], 0), (20, .if_icmp .le 5, 3, [25], 0), (23, .iconst (-1), 1, [], 0), (24, .ireturn, 1, [], 0), (25, .iload_n 1, 1, [], 0), (26, .iconst 3, 1, [], 0), (27, .if_icmp .eq 10, 3, [37], 0), (30, .iload_n 2, 1, [], 0), (31, .ifCond .ge 6, 3, [37], 0), (34, .bipush (-2), 2, [], 0), (36, .ireturn, 1, [], 0), (37, .iconst 0, 1, [], 0), (38, .istore 5, 2, [], 0), (40, .iload_n 3, 1, [], 0), (41, .istore 6, 2, [], 0), (43, .iconst 0, 1, [], 0), (44, .istore 7, 2, [], 0), (46, .iload 7, 2, [], 0), (48, .aload_n 0, 1, [], 0), (49, .getfield 126, 3, [12, 5, 1385], 0), (52, .if_icmp .ge 94, 3, [146], 0), (55, .iload_n 1, 1, [], 0), (56, .ifCond .ne 9, 3, [65], 0), (59, .iload 6, 2, [], 0), (61, .i2b, 1, [], 0), (62, .goto 16, 3, [78], 0), (65, .iload_n 1, 1, [], 0), (66, .iconst 1, 1, [], 0), (67, .if_icmp .ne 9, 3, [76], 0), (70, .iload 6, 2, [], 0), (72, .i2s, 1, [], 0), (73, .goto 5, 3, [78], 0), (76, .iload 6, 2, [], 0), (78, .istore 8, 2, [], 0), (80, .aload_n 0, 1, [], 0), (81, .getfield 32, 3, [12, 14, 1394], 0), (84, .iconst 4, 1, [], 0), (85, .iload 7, 2, [], 0), (87, .imul, 1, [], 0), (88, .iconst 3, 1, [], 0), (89, .iadd, 1, [], 0), (90, .iload_n 1, 1, [], 0), (91, .iconst 3, 1, [], 0), (92, .if_icmp .eq 9, 3, [101], 0), (95, .iload 7, 2, [], 0), (97, .iload_n 2, 1, [], 0), (98, .if_icmp .lt 7, 3, [105], 0), (101, .iconst 0, 1, [], 0), (102, .goto 14, 3, [116], 0), (105, .iconst 0, 1, [], 0), (106, .bipush 9, 2, [], 0), (108, .iload 8, 2, [], 0), (110, .invokestatic 141, 3, [11, 0, 0, 0, 1584, 502, 100, 503], 0), (113, .invokestatic 261, 3, [10, 0, 0, 0, 1710, 686, 100, 687], 0), (116, .iastore, 1, [], 0), (117, .iload 5, 2, [], 0), (119, .aload_n 0, 1, [], 0), (120, .getfield 32, 3, [12, 14, 1394], 0), (123, .iconst 4, 1, [], 0), (124, .iload 7, 2, [], 0), (126, .imul, 1, [], 0), (127, .iconst 3, 1, [], 0), (128, .iadd, 1, [], 0), (129, .iaload, 1, [], 0), (130, .iadd, 1, [], 0), (131, .istore 5, 2, [], 0), (133, .iload 6, 2, [], 0), (135, .iload 4, 2, [], 0), (137, .iadd, 1, [], 0), (138, .istore 6, 2, [], 0), (140, .iinc 7 1, 3, [], 0), (143, .goto (-97), 3, [46], 0), (146, .iload_n 1, 1, [], 0), (147, .iconst 3, 1, [], 0), (148, .if_icmp .ne 8, 3, [156], 0), (151, .bipush (-3), 2, [], 0), (153, .goto 5, 3, [158], 0), (156, .iload 5, 2, [], 0), (158, .ireturn, 1, [], 0)])
def pj_m215 : pj_M := (yX12_putsBy, cX12_putsBy, 2, none, [1746, 99, 1745, 46], [(0, .iconst 0, 1, [], 0), (1, .istore_n 1, 1, [], 0), (2, .iload_n 1, 1, [], 0), (3, .bipush 32, 2, [], 0), (5, .if_icmp .ge 29, 3, [34], 0), (8, .aload_n 0, 1, [], 0), (9, .getfield 53, 3, [12, 31, 1411], 0), (12, .bipush 32, 2, [], 0), (14, .aload_n 0, 1, [], 0), (15, .getfield 220, 3, [12, 30, 1410], 0), (18, .imul, 1, [], 0), (19, .iload_n 1, 1, [], 0), (20, .iadd, 1, [], 0), (21, .aload_n 0, 1, [], 0), (22, .getfield 32, 3, [12, 14, 1394], 0), (25, .iload_n 1, 1, [], 0), (26, .iaload, 1, [], 0), (27, .iastore, 1, [], 0), (28, .iinc 1 1, 3, [], 0), (31, .goto (-29), 3, [2], 0), (34, .return_, 1, [], 0)])
def pj_m216 : pj_M := (yX12_adds, cX12_adds, 3, some (.int), [1758, 99, 1757, 49], [(0, .aload_n 0, 1, [], 0), (1, .dup, 1, [], 0), (2, .getfield 220, 3, [12, 30, 1410], 0), (5, .iconst 1, 1, [], 0), (6, .iadd, 1, [], 0), (7, .putfield 220, 3, [12, 30, 1410], 0), (10, .aload_n 0, 1, [], 0), (11, .getfield 220, 3, [12, 30, 1410], 0), (14, .bipush 15, 2, [], 0), (16, .if_icmp .le 43, 3, [59], 0), (19, .iconst 0, 1, [], 0), (20, .istore_n 2, 1, [], 0), (21, .iload_n 2, 1, [], 0), (22, .sipush 480, 3, [], 0), (25, .if_icmp .ge 24, 3, [49], 0), (28, .aload_n 0, 1, [], 0), (29, .getfield 53, 3, [12, 31, 1411], 0), (32, .iload_n 2, 1, [], 0), (33, .aload_n 0, 1, [], 0), (34, .getfield 53, 3, [12, 31, 1411], 0), (37, .iload_n 2, 1, [], 0), (38, .bipush 32, 2, [], 0), (40, .iadd, 1, [], 0), (41, .iaload, 1, [], 0), (42, .iastore, 1, [], 0), (43, .iinc 2 1, 3, [], 0), (46, .goto (-25), 3, [21], 0), (49, .aload_n 0, 1, [], 0), (50, .dup, 1, [], 0), (51, .getfield 220, 3, [12, 30, 1410], 0), (54, .iconst 1, 1, [], 0), (55, .isub, 1, [], 0), (56, .putfield 220, 3, [12, 30, 1410], 0), (59, .iload_n 1, 1, [], 0), (60, .ireturn, 1, [], 0)])
def pj_m217 : pj_M := (yX12_counts, cX12_counts, 2, some (.int), [1754, 99, 1753, 48], [(0, .iload_n 1, 1, [], 0), (1, .ifCond .ge 7, 3, [8], 0), (4, .iload_n 1, 1, [], 0), (5, .goto 8, 3, [13], 0), (8, .aload_n 0, 1, [], 0), (9, .iload_n 1, 1, [], 0), (10, .invokevirtual 310, 3, [0, 2, 216, 12, 1755], 0), (13, .ireturn, 1, [], 0)])
def pj_m218 : pj_M := (yX12_undo, cX12_undo, 2, some (.int), [1714, 99, 1712, 1713], [(0, .aload_n 0, 1, [], 0), (1, .iconst 0, 1, [], 0), (2, .putfield 105, 3, [12, 0, 1380], 0), (5, .aload_n 0, 1, [], 0), (6, .getfield 220, 3, [12, 30, 1410], 0), (9, .ifCond .ne 5, 3, [14], 0), (12, .iconst (-1), 1, [], 0), (13, .ireturn, 1, [], 0), (14, .aload_n 0, 1, [], 0), (15, .dup, 1, [], 0), (16, .getfield 220, 3, [12, 30, 1410], 0), (19, .iconst 1, 1, [], 0), (20, .isub, 1, [], 0), (21, .putfield 220, 3, [12, 30, 1410], 0), (24, .iconst 0, 1, [], 0), (25, .istore_n 1, 1, [], 0), (26, .iload_n 1, 1, [], 0), (27, .bipush 32, 2, [], 0), (29, .if_icmp .ge 29, 3, [58], 0), (32, .aload_n 0, 1, [], 0), (33, .getfield 32, 3, [12, 14, 1394], 0), (36, .iload_n 1, 1, [], 0), (37, .aload_n 0, 1, [], 0), (38, .getfield 53, 3, [12, 31, 1411], 0), (41, .bipush 32, 2, [], 0), (43, .aload_n 0, 1, [], 0), (44, .getfield 220, 3, [12, 30, 1410], 0), (47, .imul, 1, [], 0), (48, .iload_n 1, 1, [], 0), (49, .iadd, 1, [], 0), (50, .iaload, 1, [], 0), (51, .iastore, 1, [], 0), (52, .iinc 1 1, 3, [], 0), (55, .goto (-29), 3, [26], 0), (58, .aload_n 0, 1, [], 0), (59, .getfield 220, 3, [12, 30, 1410], 0), (62, .ireturn, 1, [], 0)])
def pj_m219 : pj_M := (yX12_whyNot, cX12_whyNot, 3, some (.int), [1722, 99, 1721, 42], [(0, .aload_n 0, 1, [], 0), (1, .iload_n 1, 1, [], 0), (2, .invokevirtual 300, 3, [0, 2, 178, 12, 1692], 0), (5, .ifCond .eq 16, 3, [21], 0), (8, .iload_n 2, 1, [], 0), (9, .iconst (-1), 1, [], 0), (10, .if_icmp .eq 13, 3, [23], 0), (13, .aload_n 0, 1, [], 0), (14, .iload_n 2, 1, [], 0), (15, .invokevirtual 288, 3, [0, 2, 177, 12, 1675], 0), (18, .ifCond .ne 5, 3, [23], 0), (21, .iconst (-1), 1, [], 0), (22, .ireturn, 1, [], 0), (23, .aload_n 0, 1, [], 0), (24, .getfield 32, 3, [12, 14, 1394], 0), (27, .iconst 4, 1, [], 0), (28, .iload_n 1, 1, [], 0), (29, .imul, 1, [], 0), (30, .iconst 1, 1, [], 0), (31, .iadd, 1, [], 0), (32, .iaload, 1, [], 0), (33, .ifCond .gt 17, 3, [50], 0), (36, .aload_n 0, 1, [], 0), (37, .getfield 32, 3, [12, 14, 1394], 0), (40, .iconst 4, 1, [], 0), (41, .iload_n 1, 1, [], 0), (42, .imul, 1, [], 0), (43, .iconst 0, 1, [], 0), (44, .iadd, 1, [], 0), (45, .iaload, 1, [], 0), (46, .iload_n 2, 1, [], 0), (47, .if_icmp .ne 6, 3, [53], 0), (50, .bipush (-2), 2, [], 0), (52, .ireturn, 1, [], 0), (53, .iload_n 2, 1, [], 0), (54, .ifCond .ge 5, 3, [59], 0), (57, .iconst 0, 1, [], 0), (58, .ireturn, 1, [], 0), (59, .aload_n 0, 1, [], 0), (60, .getfield 26, 3, [12, 12, 1392], 0), (63, .iload_n 1, 1, [], 0), (64, .iaload, 1, [], 0), (65, .aload_n 0, 1, [], 0), (66, .getfield 23, 3, [12, 11, 1391], 0), (69, .iload_n 2, 1, [], 0), (70, .iaload, 1, [], 0), (71, .if_icmp .ge 8, 3, [79], 0), (74, .bipush (-3), 2, [], 0), (76, .goto 27, 3, [103], 0), (79, .aload_n 0, 1, [], 0), (80, .iload_n 2, 1, [], 0), (81, .iconst 1, 1, [], 0), (82, .invokevirtual 296, 3, [0, 3, 206, 12, 1684], 0), (85, .ifCond .ge 12, 3, [97], 0), (88, .aload_n 0, 1, [], 0), (89, .iload_n 2, 1, [], 0), (90, .iconst 0, 1, [], 0), (91, .invokevirtual 296, 3, [0, 3, 206, 12, 1684], 0), (94, .ifCond .lt 8, 3, [102], 0), (97, .bipush (-4), 2, [], 0), (99, .goto 4, 3, [103], 0), (102, .iconst 0, 1, [], 0), (103, .ireturn, 1, [], 0)])
def pj_m220 : pj_M := (yX12_takes, cX12_takes, 4, some (.int), [1718, 99, 1716, 1717], [(0, .aload_n 0, 1, [], 0), (1, .iconst 0, 1, [], 0), (2, .putfield 105, 3, [12, 0, 1380], 0), (5, .aload_n 0, 1, [], 0), (6, .iload_n 1, 1, [], 0), (7, .iload_n 2, 1, [], 0), (8, .invokevirtual 313, 3, [0, 3, 219, 12, 1719], 0), (11, .istore_n 3, 1, [], 0), (12, .iload_n 3, 1, [], 0), (13, .ifCond .ge 7, 3, [20], 0), (16, .iload_n 3, 1, [], 0), (17, .goto 9, 3, [26], 0), (20, .aload_n 0, 1, [], 0), (21, .iload_n 1, 1, [], 0), (22, .iload_n 2, 1, [], 0), (23, .invokevirtual 316, 3, [0, 3, 205, 12, 1723], 0), (26, .ireturn, 1, [], 0)])
def pj_m221 : pj_M := (yX12_tows, cX12_tows, 5, some (.int), [1750, 99, 1749, 47], [(0, .aload_n 0, 1, [], 0), (1, .iload_n 1, 1, [], 0), (2, .iload_n 2, 1, [], 0), (3, .invokevirtual 313, 3, [0, 3, 219, 12, 1719], 0), (6, .istore_n 3, 1, [], 0), (7, .iload_n 3, 1, [], 0), (8, .ifCond .ge 5, 3, [13], 0), (11, .iload_n 3, 1, [], 0), (12, .ireturn, 1, [], 0), (13, .aload_n 0, 1, [], 0), (14, .iload_n 1, 1, [], 0), (15, .iload_n 2, 1, [], 0), (16, .invokevirtual 316, 3, [0, 3, 205, 12, 1723], 0), (19, .istore 4, 2, [], 0), (21, .aload_n 0, 1, [], 0), (22, .getfield 32, 3, [12, 14, 1394], 0), (25, .iconst 4, 1, [], 0), (26, .iload_n 1, 1, [], 0), (27, .imul, 1, [], 0), (28, .iconst 0, 1, [], 0), (29, .iadd, 1, [], 0), (30, .iload_n 2, 1, [], 0), (31, .iastore, 1, [], 0), (32, .aload_n 0, 1, [], 0), (33, .getfield 32, 3, [12, 14, 1394], 0), (36, .iconst 4, 1, [], 0), (37, .iload_n 1, 1, [], 0), (38, .imul, 1, [], 0), (39, .iconst 1, 1, [], 0), (40, .iadd, 1, [], 0), (41, .iload 4, 2, [], 0), (43, .iastore, 1, [], 0), (44, .iload 4, 2, [], 0), (46, .ireturn, 1, [], 0)])
def pj_m222 : pj_M := (yX12_lends, cX12_lends, 4, some (.int), [1766, 99, 1765, 50], [(0, .aload_n 0, 1, [], 0), (1, .iconst 0, 1, [], 0), (2, .putfield 319, 3, [12, 32, 1412], 0), (5, .aload_n 0, 1, [], 0), (6, .iload_n 1, 1, [], 0), (7, .invokevirtual 300, 3, [0, 2, 178, 12, 1692], 0), (10, .ifCond .ne 6, 3, [16], 0), (13, .bipush (-3), 2, [], 0), (15, .ireturn, 1, [], 0), (16, .iload_n 2, 1, [], 0), (17, .iconst (-1), 1, [], 0), (18, .if_icmp .eq 27, 3, [45], 0), (21, .iload_n 2, 1, [], 0), (22, .i2l, 1, [], 0), (23, .aload_n 0, 1, [], 0), (24, .getfield 32, 3, [12, 14, 1394], 0), (27, .bipush 30, 2, [], 0), (29, .iaload, 1, [], 0), (30, .iconst 1, 1, [], 0), (31, .iadd, 1, [], 0), (32, .i2l, 1, [], 0), (33, .ldc2_w 323, 3, [0, 1767], 999999), (36, .invokestatic 119, 3, [2, 3, 171, 0, 1573], 0), (39, .ifCond .ne 6, 3, [45], 0), (42, .bipush (-2), 2, [], 0), (44, .ireturn, 1, [], 0), (45, .aload_n 0, 1, [], 0), (46, .iconst 1, 1, [], 0), (47, .putfield 319, 3, [12, 32, 1412], 0), (50, .aload_n 0, 1, [], 0), (51, .getfield 32, 3, [12, 14, 1394], 0), (54, .iconst 4, 1, [], 0), (55, .iload_n 1, 1, [], 0), (56, .imul, 1, [], 0), (57, .iconst 2, 1, [], 0), (58, .iadd, 1, [], 0), (59, .iaload, 1, [], 0), (60, .istore_n 3, 1, [], 0), (61, .aload_n 0, 1, [], 0), (62, .getfield 32, 3, [12, 14, 1394], 0), (65, .iconst 4, 1, [], 0), (66, .iload_n 1, 1, [], 0), (67, .imul, 1, [], 0), (68, .iconst 2, 1, [], 0), (69, .iadd, 1, [], 0), (70, .iload_n 2, 1, [], 0), (71, .iastore, 1, [], 0), (72, .iload_n 3, 1, [], 0), (73, .ireturn, 1, [], 0)])
def pj_m223 : pj_M := (yX12_crosses, cX12_crosses, 5, some (.int), [1775, 99, 1774, 51], [(0, .aload_n 0, 1, [], 0), (1, .iload_n 1, 1, [], 0), (2, .invokevirtual 305, 3, [0, 2, 179, 12, 1701], 0), (5, .ifCond .eq 11, 3, [16], 0), (8, .aload_n 0, 1, [], 0), (9, .iload_n 2, 1, [], 0), (10, .invokevirtual 288, 3, [0, 2, 177, 12, 1675], 0), (13, .ifCond .ne 5, 3, [18], 0), (16, .iconst (-1), 1, [], 0), (17, .ireturn, 1, [], 0), (18, .aload_n 0, 1, [], 0), (19, .getfield 32, 3, [12, 14, 1394], 0), (22, .bipush 24, 2, [], 0), (24, .iload_n 1, 1, [], 0), (25, .iadd, 1, [], 0), (26, .iaload, 1, [], 0), (27, .istore_n 3, 1, [], 0), (28, .iload_n 3, 1, [], 0), (29, .aload_n 0, 1, [], 0), (30, .getfield 13, 3, [12, 8, 1388], 0), (33, .iload_n 2, 1, [], 0), (34, .iaload, 1, [], 0), (35, .if_icmp .eq 16, 3, [51], 0), (38, .iload_n 3, 1, [], 0), (39, .aload_n 0, 1, [], 0), (40, .getfield 17, 3, [12, 9, 1389], 0), (43, .iload_n 2, 1, [], 0), (44, .iaload, 1, [], 0), (45, .if_icmp .eq 6, 3, [51], 0), (48, .bipush (-2), 2, [], 0), (50, .ireturn, 1, [], 0), (51, .aload_n 0, 1, [], 0), (52, .iconst 0, 1, [], 0), (53, .aload_n 0, 1, [], 0), (54, .getfield 29, 3, [12, 13, 1393], 0), (57, .iload_n 1, 1, [], 0), (58, .iaload, 1, [], 0), (59, .invokevirtual 325, 3, [0, 3, 207, 12, 1776], 0), (62, .iload_n 2, 1, [], 0), (63, .invokestatic 273, 3, [2, 2, 172, 0, 1780], 0), (66, .ifCond .ne 6, 3, [72], 0), (69, .bipush (-3), 2, [], 0), (71, .ireturn, 1, [], 0), (72, .aload_n 0, 1, [], 0), (73, .iload_n 2, 1, [], 0), (74, .iconst 1, 1, [], 0), (75, .invokevirtual 296, 3, [0, 3, 206, 12, 1684], 0), (78, .istore 4, 2, [], 0), (80, .aload_n 0, 1, [], 0), (81, .getfield 32, 3, [12, 14, 1394], 0), (84, .iconst 4, 1, [], 0), (85, .iload 4, 2, [], 0), (87, .imul, 1, [], 0), (88, .iconst 3, 1, [], 0), (89, .iadd, 1, [], 0), (90, .dup2, 1, [], 0), (91, .iaload, 1, [], 0), (92, .aload_n 0, 1, [], 0), (93, .getfield 32, 3, [12, 14, 1394], 0), (96, .iconst 4, 1, [], 0), (97, .iload 4, 2, [], 0), (99, .imul, 1, [], 0), (100, .iconst 3, 1, [], 0), (101, .iadd, 1, [], 0), (102, .iaload, 1, [], 0), (103, .aload_n 0, 1, [], 0), (104, .getfield 29, 3, [12, 13, 1393], 0), (107, .iload_n 1, 1, [], 0), (108, .iaload, 1, [], 0), (109, .if_icmp .ne 7, 3, [116], 0), (112, .iconst 1, 1, [], 0), (113, .goto 4, 3, [117], 0), (116, .iconst 0, 1, [], 0), (117, .invokestatic 150, 3, [2, 1, 173, 0, 1596], 0), (120, .isub, 1, [], 0), (121, .iastore, 1, [], 0), (122, .aload_n 0, 1, [], 0), (123, .getfield 32, 3, [12, 14, 1394], 0), (126, .bipush 24, 2, [], 0), (128, .iload_n 1, 1, [], 0), (129, .iadd, 1, [], 0), (130, .aload_n 0, 1, [], 0), (131, .getfield 13, 3, [12, 8, 1388], 0), (134, .iload_n 2, 1, [], 0), (135, .iaload, 1, [], 0), (136, .aload_n 0, 1, [], 0), (137, .getfield 17, 3, [12, 9, 1389], 0), (140, .iload_n 2, 1, [], 0), (141, .iaload, 1, [], 0), (142, .iadd, 1, [], 0), (143, .iload_n 3, 1, [], 0), (144, .isub, 1, [], 0), (145, .iastore, 1, [], 0), (146, .aload_n 0, 1, [], 0), (147, .getfield 32, 3, [12, 14, 1394], 0), (150, .bipush 24, 2, [], 0), (152, .iload_n 1, 1, [], 0), (153, .iadd, 1, [], 0), (154, .iaload, 1, [], 0), (155, .ireturn, 1, [], 0)])
def pj_m224 : pj_M := (yX12_startsCounting, cX12_startsCounting, 1, none, [1791, 99, 1790, 53], [(0, .aload_n 0, 1, [], 0), (1, .iconst 0, 1, [], 0), (2, .putfield 328, 3, [12, 33, 1413], 0), (5, .aload_n 0, 1, [], 0), (6, .iconst 0, 1, [], 0), (7, .putfield 331, 3, [12, 34, 1414], 0), (10, .aload_n 0, 1, [], 0), (11, .iconst 0, 1, [], 0), (12, .putfield 334, 3, [12, 35, 1415], 0), (15, .return_, 1, [], 0)])
def pj_m225 : pj_M := (yX12_hourGoes, cX12_hourGoes, 4, none, [1795, 99, 1794, 54], [(0, .aload_n 0, 1, [], 0), (1, .getfield 32, 3, [12, 14, 1394], 0), (4, .bipush 30, 2, [], 0), (6, .dup2, 1, [], 0), (7, .iaload, 1, [], 0), (8, .iconst 1, 1, [], 0), (9, .iadd, 1, [], 0), (10, .iastore, 1, [], 0), (11, .iconst 0, 1, [], 0), (12, .istore_n 1, 1, [], 0), (13, .iload_n 1, 1, [], 0), (14, .aload_n 0, 1, [], 0), (15, .getfield 126, 3, [12, 5, 1385], 0), (18, .if_icmp .ge 181, 3, [199], 0), (21, .iconst 4, 1, [], 0), (22, .iload_n 1, 1, [], 0), (23, .imul, 1, [], 0), (24, .istore_n 2, 1, [], 0), (25, .aload_n 0, 1, [], 0), (26, .getfield 32, 3, [12, 14, 1394], 0), (29, .iload_n 2, 1, [], 0), (30, .iconst 1, 1, [], 0), (31, .iadd, 1, [], 0), (32, .iaload, 1, [], 0), (33, .ifCond .le 42, 3, [75], 0), (36, .aload_n 0, 1, [], 0), (37, .getfield 32, 3, [12, 14, 1394], 0), (40, .iload_n 2, 1, [], 0), (41, .iconst 1, 1, [], 0), (42, .iadd, 1, [], 0), (43, .dup2, 1, [], 0), (44, .iaload, 1, [], 0), (45, .iconst 1, 1, [], 0), (46, .isub, 1, [], 0), (47, .iastore, 1, [], 0), (48, .aload_n 0, 1, [], 0), (49, .dup, 1, [], 0), (50, .getfield 328, 3, [12, 33, 1413], 0), (53, .aload_n 0, 1, [], 0), (54, .getfield 32, 3, [12, 14, 1394], 0), (57, .iload_n 2, 1, [], 0), (58, .iconst 1, 1, [], 0), (59, .iadd, 1, [], 0), (60, .iaload, 1, [], 0), (61, .ifCond .ne 9, 3, [70], 0), (64, .iconst 1, 1, [], 0), (65, .iload_n 1, 1, [], 0), (66, .ishl, 1, [], 0), (67, .goto 4, 3, [71], 0), (70, .iconst 0, 1, [], 0), (71, .ior, 1, [], 0), (72, .putfield 328, 3, [12, 33, 1413], 0), (75, .aload_n 0, 1, [], 0), (76, .getfield 32, 3, [12, 14, 1394], 0), (79, .iload_n 2, 1, [], 0), (80, .iconst 2, 1, [], 0), (81, .iadd, 1, [], 0), (82, .iaload, 1, [], 0), (83, .aload_n 0, 1, [], 0), (84, .getfield 32, 3, [12, 14, 1394], 0), (87, .bipush 30, 2, [], 0), (89, .iaload, 1, [], 0), (90, .if_icmp .ne 103, 3, [193], 0), (93, .aload_n 0, 1, [], 0), (94, .getfield 32, 3, [12, 14, 1394], 0), (97, .iload_n 2, 1, [], 0), (98, .iconst 2, 1, [], 0), (99, .iadd, 1, [], 0), (100, .iconst (-1), 1, [], 0), (101, .iastore, 1, [], 0), (102, .aload_n 0, 1, [], 0), (103, .getfield 32, 3, [12, 14, 1394], 0), (106, .iload_n 2, 1, [], 0), (107, .iconst 0, 1, [], 0), (108, .iadd, 1, [], 0), (109, .iaload, 1, [], 0), (110, .ifCond .ge 18, 3, [128], 0), (113, .aload_n 0, 1, [], 0), (114, .getfield 32, 3, [12, 14, 1394], 0), (117, .iload_n 2, 1, [], 0), (118, .iconst 1, 1, [], 0), (119, .iadd, 1, [], 0), (120, .iaload, 1, [], 0), (121, .ifCond .ne 7, 3, [128], 0), (124, .iconst 1, 1, [], 0), (125, .goto 4, 3, [129], 0), (128, .iconst 0, 1, [], 0), (129, .istore_n 3, 1, [], 0), (130, .aload_n 0, 1, [], 0), (131, .dup, 1, [], 0), (132, .getfield 331, 3, [12, 34, 1414], 0), (135, .iload_n 3, 1, [], 0), (136, .ifCond .eq 7, 3, [143], 0), (139, .iconst 0, 1, [], 0), (140, .goto 6, 3, [146], 0), (143, .iconst 1, 1, [], 0), (144, .iload_n 1, 1, [], 0), (145, .ishl, 1, [], 0), (146, .ior, 1, [], 0), (147, .putfield 331, 3, [12, 34, 1414], 0), (150, .aload_n 0, 1, [], 0), (151, .dup, 1, [], 0), (152, .getfield 334, 3, [12, 35, 1415], 0), (155, .iload_n 3, 1, [], 0), (156, .ifCond .ne 7, 3, [163], 0), (159, .iconst 1, 1, [], 0), (160, .goto 4, 3, [164], 0), (163, .iconst 0, 1, [], 0), (164, .invokestatic 150, 3, [2, 1, 173, 0, 1596], 0), (167, .iadd, 1, [], 0), (168, .putfield 334, 3, [12, 35, 1415], 0), (171, .aload_n 0, 1, [], 0), (172, .getfield 32, 3, [12, 14, 1394], 0), (175, .bipush 31, 2, [], 0), (177, .dup2, 1, [], 0), (178, .iaload, 1, [], 0), (179, .iload_n 3, 1, [], 0), (180, .ifCond .ne 7, 3, [187], 0), (183, .iconst 1, 1, [], 0), (184, .goto 4, 3, [188], 0), (187, .iconst 0, 1, [], 0), (188, .invokestatic 150, 3, [2, 1, 173, 0, 1596], 0), (191, .iadd, 1, [], 0), (192, .iastore, 1, [], 0), (193, .iinc 1 1, 3, [], 0), (196, .goto (-183), 3, [13], 0), (199, .return_, 1, [], 0)])
def pj_m226 : pj_M := (yX12_tow, cX12_tow, 3, some (.int), [1742, 99, 1740, 1741], [(0, .aload_n 0, 1, [], 0), (1, .iconst 0, 1, [], 0), (2, .putfield 105, 3, [12, 0, 1380], 0), (5, .aload_n 0, 1, [], 0), (6, .invokevirtual 337, 3, [0, 1, 215, 12, 1743], 0), (9, .aload_n 0, 1, [], 0), (10, .aload_n 0, 1, [], 0), (11, .iload_n 1, 1, [], 0), (12, .iload_n 2, 1, [], 0), (13, .invokevirtual 340, 3, [0, 3, 221, 12, 1747], 0), (16, .invokevirtual 343, 3, [0, 2, 217, 12, 1751], 0), (19, .ireturn, 1, [], 0)])
def pj_m227 : pj_M := (yX12_lend, cX12_lend, 4, some (.int), [1762, 99, 1760, 1761], [(0, .aload_n 0, 1, [], 0), (1, .iconst 0, 1, [], 0), (2, .putfield 105, 3, [12, 0, 1380], 0), (5, .aload_n 0, 1, [], 0), (6, .invokevirtual 337, 3, [0, 1, 215, 12, 1743], 0), (9, .aload_n 0, 1, [], 0), (10, .iload_n 1, 1, [], 0), (11, .iload_n 2, 1, [], 0), (12, .invokevirtual 346, 3, [0, 3, 222, 12, 1763], 0), (15, .istore_n 3, 1, [], 0), (16, .aload_n 0, 1, [], 0), (17, .getfield 319, 3, [12, 32, 1412], 0), (20, .ifCond .eq 11, 3, [31], 0), (23, .aload_n 0, 1, [], 0), (24, .iload_n 3, 1, [], 0), (25, .invokevirtual 310, 3, [0, 2, 216, 12, 1755], 0), (28, .goto 4, 3, [32], 0), (31, .iload_n 3, 1, [], 0), (32, .ireturn, 1, [], 0)])
def pj_m228 : pj_M := (yX12_cross, cX12_cross, 3, some (.int), [1771, 99, 1769, 1770], [(0, .aload_n 0, 1, [], 0), (1, .iconst 0, 1, [], 0), (2, .putfield 105, 3, [12, 0, 1380], 0), (5, .aload_n 0, 1, [], 0), (6, .invokevirtual 337, 3, [0, 1, 215, 12, 1743], 0), (9, .aload_n 0, 1, [], 0), (10, .aload_n 0, 1, [], 0), (11, .iload_n 1, 1, [], 0), (12, .iload_n 2, 1, [], 0), (13, .invokevirtual 349, 3, [0, 3, 223, 12, 1772], 0), (16, .invokevirtual 343, 3, [0, 2, 217, 12, 1751], 0), (19, .ireturn, 1, [], 0)])
def pj_m229 : pj_M := (yX12_hours, cX12_hours, 3, some (.int), [1786, 99, 1784, 1785], [(0, .aload_n 0, 1, [], 0), (1, .iconst 0, 1, [], 0), (2, .putfield 105, 3, [12, 0, 1380], 0), (5, .iload_n 1, 1, [], 0), (6, .i2l, 1, [], 0), (7, .lconst 0, 1, [], 0), (8, .ldc2_w 352, 3, [0, 1787], 99), (11, .invokestatic 119, 3, [2, 3, 171, 0, 1573], 0), (14, .ifCond .ne 5, 3, [19], 0), (17, .iconst (-1), 1, [], 0), (18, .ireturn, 1, [], 0), (19, .aload_n 0, 1, [], 0), (20, .invokevirtual 337, 3, [0, 1, 215, 12, 1743], 0), (23, .aload_n 0, 1, [], 0), (24, .invokevirtual 354, 3, [0, 1, 224, 12, 1788], 0), (27, .iconst 0, 1, [], 0), (28, .istore_n 2, 1, [], 0), (29, .iload_n 2, 1, [], 0), (30, .iload_n 1, 1, [], 0), (31, .if_icmp .ge 13, 3, [44], 0), (34, .aload_n 0, 1, [], 0), (35, .invokevirtual 357, 3, [0, 1, 225, 12, 1792], 0), (38, .iinc 2 1, 3, [], 0), (41, .goto (-12), 3, [29], 0), (44, .aload_n 0, 1, [], 0), (45, .iconst 0, 1, [], 0), (46, .putfield 113, 3, [12, 1, 1381], 0), (49, .aload_n 0, 1, [], 0), (50, .aload_n 0, 1, [], 0), (51, .getfield 328, 3, [12, 33, 1413], 0), (54, .i2l, 1, [], 0), (55, .invokevirtual 360, 3, [0, 2, 175, 12, 1796], 0), (58, .aload_n 0, 1, [], 0), (59, .aload_n 0, 1, [], 0), (60, .getfield 331, 3, [12, 34, 1414], 0), (63, .i2l, 1, [], 0), (64, .invokevirtual 360, 3, [0, 2, 175, 12, 1796], 0), (67, .aload_n 0, 1, [], 0), (68, .aload_n 0, 1, [], 0), (69, .getfield 32, 3, [12, 14, 1394], 0), (72, .bipush 30, 2, [], 0), (74, .iaload, 1, [], 0), (75, .invokevirtual 310, 3, [0, 2, 216, 12, 1755], 0), (78, .ireturn, 1, [], 0)])
def pj_m230 : pj_M := (yX12_readsAct, cX12_readsAct, 2, some (.boolean), [1807, 99, 1806, 56], [(0, .aload_n 0, 1, [], 0), (1, .getfield 364, 3, [12, 39, 1419], 0), (4, .istore_n 1, 1, [], 0), (5, .aload_n 0, 1, [], 0), (6, .getfield 56, 3, [12, 36, 1416], 0), (9, .iload_n 1, 1, [], 0), (10, .aload_n 0, 1, [], 0), (11, .ldc_w 367, 3, [1, 15], 0), (14, .invokevirtual 202, 3, [0, 2, 186, 12, 1586], 0), (17, .iastore, 1, [], 0), (18, .aload_n 0, 1, [], 0), (19, .dup, 1, [], 0), (20, .getfield 364, 3, [12, 39, 1419], 0), (23, .iconst 1, 1, [], 0), (24, .iadd, 1, [], 0), (25, .putfield 364, 3, [12, 39, 1419], 0), (28, .aload_n 0, 1, [], 0), (29, .getfield 56, 3, [12, 36, 1416], 0), (32, .iload_n 1, 1, [], 0), (33, .iaload, 1, [], 0), (34, .ifCond .ge 5, 3, [39], 0), (37, .iconst 0, 1, [], 0), (38, .ireturn, 1, [], 0), (39, .aload_n 0, 1, [], 0), (40, .getfield 59, 3, [12, 37, 1417], 0), (43, .iload_n 1, 1, [], 0), (44, .aload_n 0, 1, [], 0), (45, .getfield 56, 3, [12, 36, 1416], 0), (48, .iload_n 1, 1, [], 0), (49, .iaload, 1, [], 0), (50, .iconst 2, 1, [], 0), (51, .if_icmp .ne 12, 3, [63], 0), (54, .aload_n 0, 1, [], 0), (55, .bipush 6, 2, [], 0), (57, .invokevirtual 177, 3, [0, 2, 188, 12, 1611], 0), (60, .goto 22, 3, [82], 0), (63, .aload_n 0, 1, [], 0), (64, .aload_n 0, 1, [], 0), (65, .getfield 56, 3, [12, 36, 1416], 0), (68, .iload_n 1, 1, [], 0), (69, .iaload, 1, [], 0), (70, .iconst 3, 1, [], 0), (71, .if_icmp .ne 7, 3, [78], 0), (74, .iconst 2, 1, [], 0), (75, .goto 4, 3, [79], 0), (78, .iconst 1, 1, [], 0), (79, .invokevirtual 193, 3, [0, 2, 187, 12, 1616], 0), (82, .iastore, 1, [], 0), (83, .aload_n 0, 1, [], 0), (84, .getfield 59, 3, [12, 37, 1417], 0), (87, .iload_n 1, 1, [], 0), (88, .iaload, 1, [], 0), (89, .ifCond .lt 13, 3, [102], 0), (92, .aload_n 0, 1, [], 0), (93, .getfield 56, 3, [12, 36, 1416], 0), (96, .iload_n 1, 1, [], 0), (97, .iaload, 1, [], 0), (98, .iconst 3, 1, [], 0), (99, .if_icmp .ne 18, 3, [117], 0), (102, .aload_n 0, 1, [], 0), (103, .getfield 59, 3, [12, 37, 1417], 0), (106, .iload_n 1, 1, [], 0), (107, .iaload, 1, [], 0), (108, .ifCond .lt 7, 3, [115], 0), (111, .iconst 1, 1, [], 0), (112, .goto 4, 3, [116], 0), (115, .iconst 0, 1, [], 0), (116, .ireturn, 1, [], 0), (117, .aload_n 0, 1, [], 0), (118, .getfield 56, 3, [12, 36, 1416], 0), (121, .iload_n 1, 1, [], 0), (122, .iaload, 1, [], 0), (123, .ifCond .ne 21, 3, [144], 0), (126, .aload_n 0, 1, [], 0), (127, .bipush 45, 2, [], 0), (129, .invokevirtual 196, 3, [0, 2, 183, 12, 1599], 0), (132, .ifCond .eq 12, 3, [144], 0), (135, .aload_n 0, 1, [], 0), (136, .getfield 62, 3, [12, 38, 1418], 0), (139, .iload_n 1, 1, [], 0), (140, .iconst (-1), 1, [], 0), (141, .iastore, 1, [], 0), (142, .iconst 1, 1, [], 0), (143, .ireturn, 1, [], 0), (144, .aload_n 0, 1, [], 0), (145, .getfield 62, 3, [12, 38, 1418], 0), (148, .iload_n 1, 1, [], 0), (149, .aload_n 0, 1, [], 0), (150, .aload_n 0, 1, [], 0), (151, .getfield 56, 3, [12, 36, 1416], 0), (154, .iload_n 1, 1, [], 0), (155, .iaload, 1, [], 0), (156, .iconst 1, 1, [], 0), (157, .if_icmp .ne 7, 3, [164], 0), (160, .iconst 3, 1, [], 0), (161, .goto 4, 3, [165], 0), (164, .iconst 1, 1, [], 0), (165, .invokevirtual 193, 3, [0, 2, 187, 12, 1616], 0), (168, .iastore, 1, [], 0), (169, .aload_n 0, 1, [], 0), (170, .getfield 62, 3, [12, 38, 1418], 0), (173, .iload_n 1, 1, [], 0), (174, .iaload, 1, [], 0), (175, .ifCond .lt 7, 3, [182], 0), (178, .iconst 1, 1, [], 0), (179, .goto 4, 3, [183], 0), (182, .iconst 0, 1, [], 0), (183, .ireturn, 1, [], 0)])
def pj_m231 : pj_M := (yX12_does, cX12_does, 3, some (.boolean), [1812, 99, 1811, 57], [(0, .aload_n 0, 1, [], 0), (1, .getfield 56, 3, [12, 36, 1416], 0), (4, .iload_n 1, 1, [], 0), (5, .iaload, 1, [], 0), (6, .tableswitch 106 0 2 #[26, 51, 81], 26, [], 0), (32, .aload_n 0, 1, [], 0), (33, .aload_n 0, 1, [], 0), (34, .getfield 59, 3, [12, 37, 1417], 0), (37, .iload_n 1, 1, [], 0), (38, .iaload, 1, [], 0), (39, .aload_n 0, 1, [], 0), (40, .getfield 62, 3, [12, 38, 1418], 0), (43, .iload_n 1, 1, [], 0), (44, .iaload, 1, [], 0), (45, .invokevirtual 340, 3, [0, 3, 221, 12, 1747], 0), (48, .ifCond .lt 7, 3, [55], 0), (51, .iconst 1, 1, [], 0), (52, .goto 4, 3, [56], 0), (55, .iconst 0, 1, [], 0), (56, .ireturn, 1, [], 0), (57, .aload_n 0, 1, [], 0), (58, .aload_n 0, 1, [], 0), (59, .getfield 59, 3, [12, 37, 1417], 0), (62, .iload_n 1, 1, [], 0), (63, .iaload, 1, [], 0), (64, .aload_n 0, 1, [], 0), (65, .getfield 32, 3, [12, 14, 1394], 0), (68, .bipush 30, 2, [], 0), (70, .iaload, 1, [], 0), (71, .aload_n 0, 1, [], 0), (72, .getfield 62, 3, [12, 38, 1418], 0), (75, .iload_n 1, 1, [], 0), (76, .iaload, 1, [], 0), (77, .iadd, 1, [], 0), (78, .invokevirtual 346, 3, [0, 3, 222, 12, 1763], 0), (81, .pop, 1, [], 0), (82, .aload_n 0, 1, [], 0), (83, .getfield 319, 3, [12, 32, 1412], 0), (86, .ireturn, 1, [], 0), (87, .aload_n 0, 1, [], 0), (88, .aload_n 0, 1, [], 0), (89, .getfield 59, 3, [12, 37, 1417], 0), (92, .iload_n 1, 1, [], 0), (93, .iaload, 1, [], 0), (94, .aload_n 0, 1, [], 0), (95, .getfield 62, 3, [12, 38, 1418], 0), (98, .iload_n 1, 1, [], 0), (99, .iaload, 1, [], 0), (100, .invokevirtual 349, 3, [0, 3, 223, 12, 1772], 0), (103, .ifCond .lt 7, 3, [110], 0), (106, .iconst 1, 1, [], 0), (107, .goto 4, 3, [111], 0), (110, .iconst 0, 1, [], 0), (111, .ireturn, 1, [], 0), (112, .iconst 0, 1, [], 0), (113, .istore_n 2, 1, [], 0), (114, .iload_n 2, 1, [], 0), (115, .aload_n 0, 1, [], 0), (116, .getfield 59, 3, [12, 37, 1417], 0), (119, .iload_n 1, 1, [], 0), (120, .iaload, 1, [], 0), (121, .if_icmp .ge 13, 3, [134], 0), (124, .aload_n 0, 1, [], 0), (125, .invokevirtual 357, 3, [0, 1, 225, 12, 1792], 0), (128, .iinc 2 1, 3, [], 0), (131, .goto (-17), 3, [114], 0), (134, .iconst 1, 1, [], 0), (135, .ireturn, 1, [], 0)])
def pj_m232 : pj_M := (yX12_day, cX12_day, 6, some (.int), [1803, 99, 1801, 1802], [(0, .aload_n 0, 1, [], 0), (1, .iconst 0, 1, [], 0), (2, .putfield 105, 3, [12, 0, 1380], 0), (5, .aload_n 0, 1, [], 0), (6, .bipush 60, 2, [], 0), (8, .invokevirtual 205, 3, [0, 2, 182, 12, 1580], 0), (11, .istore_n 1, 1, [], 0), (12, .aload_n 0, 1, [], 0), (13, .iconst 0, 1, [], 0), (14, .putfield 364, 3, [12, 39, 1419], 0), (17, .iconst 1, 1, [], 0), (18, .istore_n 2, 1, [], 0), (19, .iload_n 1, 1, [], 0), (20, .ifCond .le 7, 3, [27], 0), (23, .iconst 1, 1, [], 0), (24, .goto 4, 3, [28], 0), (27, .iconst 0, 1, [], 0), (28, .istore_n 3, 1, [], 0), (29, .iload_n 3, 1, [], 0), (30, .ifCond .eq 30, 3, [60], 0), (33, .aload_n 0, 1, [], 0), (34, .invokevirtual 369, 3, [0, 1, 230, 12, 1804], 0), (37, .istore_n 2, 1, [], 0), (38, .iload_n 2, 1, [], 0), (39, .ifCond .eq 16, 3, [55], 0), (42, .aload_n 0, 1, [], 0), (43, .bipush 59, 2, [], 0), (45, .invokevirtual 196, 3, [0, 2, 183, 12, 1599], 0), (48, .ifCond .eq 7, 3, [55], 0), (51, .iconst 1, 1, [], 0), (52, .goto 4, 3, [56], 0), (55, .iconst 0, 1, [], 0), (56, .istore_n 3, 1, [], 0), (57, .goto (-28), 3, [29], 0), (60, .aload_n 0, 1, [], 0), (61, .iload_n 1, 1, [], 0), (62, .bipush 60, 2, [], 0), (64, .iload_n 2, 1, [], 0), (65, .invokevirtual 213, 3, [0, 4, 189, 12, 1627], 0), (68, .istore 4, 2, [], 0), (70, .iload 4, 2, [], 0), (72, .ifCond .ge 6, 3, [78], 0), (75, .iload 4, 2, [], 0), (77, .ireturn, 1, [], 0), (78, .aload_n 0, 1, [], 0), (79, .invokevirtual 337, 3, [0, 1, 215, 12, 1743], 0), (82, .aload_n 0, 1, [], 0), (83, .invokevirtual 354, 3, [0, 1, 224, 12, 1788], 0), (86, .iconst 0, 1, [], 0), (87, .istore 5, 2, [], 0), (89, .iload 5, 2, [], 0), (91, .aload_n 0, 1, [], 0), (92, .getfield 364, 3, [12, 39, 1419], 0), (95, .if_icmp .ge 18, 3, [113], 0), (98, .aload_n 0, 1, [], 0), (99, .iload 5, 2, [], 0), (101, .invokevirtual 372, 3, [0, 2, 231, 12, 1809], 0), (104, .ifCond .eq 9, 3, [113], 0), (107, .iinc 5 1, 3, [], 0), (110, .goto (-21), 3, [89], 0), (113, .aload_n 0, 1, [], 0), (114, .iconst 0, 1, [], 0), (115, .putfield 113, 3, [12, 1, 1381], 0), (118, .aload_n 0, 1, [], 0), (119, .iload 5, 2, [], 0), (121, .aload_n 0, 1, [], 0), (122, .getfield 364, 3, [12, 39, 1419], 0), (125, .if_icmp .ge 7, 3, [132], 0), (128, .iconst 1, 1, [], 0), (129, .goto 4, 3, [133], 0), (132, .iconst 0, 1, [], 0), (133, .invokestatic 150, 3, [2, 1, 173, 0, 1596], 0), (136, .i2l, 1, [], 0), (137, .invokevirtual 360, 3, [0, 2, 175, 12, 1796], 0), (140, .aload_n 0, 1, [], 0), (141, .aload_n 0, 1, [], 0), (142, .getfield 334, 3, [12, 35, 1415], 0), (145, .i2l, 1, [], 0), (146, .invokevirtual 360, 3, [0, 2, 175, 12, 1796], 0), (149, .iload 5, 2, [], 0), (151, .ifCond .le 12, 3, [163], 0), (154, .aload_n 0, 1, [], 0), (155, .iload 5, 2, [], 0), (157, .invokevirtual 310, 3, [0, 2, 216, 12, 1755], 0), (160, .goto 4, 3, [164], 0), (163, .iconst 0, 1, [], 0), (164, .ireturn, 1, [], 0)])
def pj_m233 : pj_M := (yX12_laysFar, cX12_laysFar, 5, none, [1824, 99, 1823, 59], [(0, .iconst 0, 1, [], 0), (1, .istore_n 3, 1, [], 0), (2, .iload_n 3, 1, [], 0), (3, .bipush 8, 2, [], 0), (5, .if_icmp .ge 27, 3, [32], 0), (8, .aload_n 0, 1, [], 0), (9, .getfield 65, 3, [12, 40, 1420], 0), (12, .iload_n 3, 1, [], 0), (13, .iload_n 3, 1, [], 0), (14, .iload_n 1, 1, [], 0), (15, .if_icmp .ne 7, 3, [22], 0), (18, .iconst 0, 1, [], 0), (19, .goto 6, 3, [25], 0), (22, .sipush 1000, 3, [], 0), (25, .iastore, 1, [], 0), (26, .iinc 3 1, 3, [], 0), (29, .goto (-27), 3, [2], 0), (32, .iconst 0, 1, [], 0), (33, .istore_n 3, 1, [], 0), (34, .iload_n 3, 1, [], 0), (35, .aload_n 0, 1, [], 0), (36, .getfield 116, 3, [12, 3, 1383], 0), (39, .if_icmp .ge 118, 3, [157], 0), (42, .iconst 0, 1, [], 0), (43, .istore 4, 2, [], 0), (45, .iload 4, 2, [], 0), (47, .aload_n 0, 1, [], 0), (48, .getfield 123, 3, [12, 4, 1384], 0), (51, .if_icmp .ge 100, 3, [151], 0), (54, .iload_n 2, 1, [], 0), (55, .iload 4, 2, [], 0), (57, .invokestatic 273, 3, [2, 2, 172, 0, 1780], 0), (60, .ifCond .eq 85, 3, [145], 0), (63, .aload_n 0, 1, [], 0), (64, .getfield 65, 3, [12, 40, 1420], 0), (67, .aload_n 0, 1, [], 0), (68, .getfield 13, 3, [12, 8, 1388], 0), (71, .iload 4, 2, [], 0), (73, .iaload, 1, [], 0), (74, .aload_n 0, 1, [], 0), (75, .getfield 65, 3, [12, 40, 1420], 0), (78, .aload_n 0, 1, [], 0), (79, .getfield 13, 3, [12, 8, 1388], 0), (82, .iload 4, 2, [], 0), (84, .iaload, 1, [], 0), (85, .iaload, 1, [], 0), (86, .aload_n 0, 1, [], 0), (87, .getfield 65, 3, [12, 40, 1420], 0), (90, .aload_n 0, 1, [], 0), (91, .getfield 17, 3, [12, 9, 1389], 0), (94, .iload 4, 2, [], 0), (96, .iaload, 1, [], 0), (97, .iaload, 1, [], 0), (98, .iconst 1, 1, [], 0), (99, .iadd, 1, [], 0), (100, .invokestatic 141, 3, [11, 0, 0, 0, 1584, 502, 100, 503], 0), (103, .iastore, 1, [], 0), (104, .aload_n 0, 1, [], 0), (105, .getfield 65, 3, [12, 40, 1420], 0), (108, .aload_n 0, 1, [], 0), (109, .getfield 17, 3, [12, 9, 1389], 0), (112, .iload 4, 2, [], 0), (114, .iaload, 1, [], 0), (115, .aload_n 0, 1, [], 0), (116, .getfield 65, 3, [12, 40, 1420], 0), (119, .aload_n 0, 1, [], 0), (120, .getfield 17, 3, [12, 9, 1389], 0), (123, .iload 4, 2, [], 0), (125, .iaload, 1, [], 0), (126, .iaload, 1, [], 0), (127, .aload_n 0, 1, [], 0), (128, .getfield 65, 3, [12, 40, 1420], 0), (131, .aload_n 0, 1, [], 0), (132, .getfield 13, 3, [12, 8, 1388], 0), (135, .iload 4, 2, [], 0), (137, .iaload, 1, [], 0), (138, .iaload, 1, [], 0), (139, .iconst 1, 1, [], 0), (140, .iadd, 1, [], 0), (141, .invokestatic 141, 3, [11, 0, 0, 0, 1584, 502, 100, 503], 0), (144, .iastore, 1, [], 0), (145, .iinc 4 1, 3, [], 0), (148, .goto (-103), 3, [45], 0), (151, .iinc 3 1, 3, [], 0), (154, .goto (-120), 3, [34], 0), (157, .return_, 1, [], 0)])
def pj_m234 : pj_M := (yX12_route, cX12_route, 7, some (.int), [1816, 99, 1814, 1815], [(0, .aload_n 0, 1, [], 0), (1, .iconst 0, 1, [], 0), (2, .putfield 105, 3, [12, 0, 1380], 0), (5, .aload_n 0, 1, [], 0), (6, .iload_n 1, 1, [], 0), (7, .invokevirtual 305, 3, [0, 2, 179, 12, 1701], 0), (10, .ifCond .eq 11, 3, [21], 0), (13, .aload_n 0, 1, [], 0), (14, .iload_n 2, 1, [], 0), (15, .invokevirtual 375, 3, [0, 2, 176, 12, 1817], 0), (18, .ifCond .ne 5, 3, [23], 0), (21, .iconst (-1), 1, [], 0), (22, .ireturn, 1, [], 0), (23, .aload_n 0, 1, [], 0), (24, .iconst 0, 1, [], 0), (25, .aload_n 0, 1, [], 0), (26, .getfield 29, 3, [12, 13, 1393], 0), (29, .iload_n 1, 1, [], 0), (30, .iaload, 1, [], 0), (31, .invokevirtual 325, 3, [0, 3, 207, 12, 1776], 0), (34, .istore_n 3, 1, [], 0), (35, .aload_n 0, 1, [], 0), (36, .iload_n 2, 1, [], 0), (37, .iload_n 3, 1, [], 0), (38, .invokevirtual 378, 3, [0, 3, 233, 12, 1821], 0), (41, .aload_n 0, 1, [], 0), (42, .getfield 32, 3, [12, 14, 1394], 0), (45, .bipush 24, 2, [], 0), (47, .iload_n 1, 1, [], 0), (48, .iadd, 1, [], 0), (49, .iaload, 1, [], 0), (50, .istore 4, 2, [], 0), (52, .aload_n 0, 1, [], 0), (53, .getfield 65, 3, [12, 40, 1420], 0), (56, .iload 4, 2, [], 0), (58, .iaload, 1, [], 0), (59, .istore 5, 2, [], 0), (61, .iload 5, 2, [], 0), (63, .sipush 1000, 3, [], 0), (66, .if_icmp .lt 6, 3, [72], 0), (69, .bipush (-2), 2, [], 0), (71, .ireturn, 1, [], 0), (72, .aload_n 0, 1, [], 0), (73, .iconst 0, 1, [], 0), (74, .putfield 113, 3, [12, 1, 1381], 0), (77, .iload 4, 2, [], 0), (79, .iload_n 2, 1, [], 0), (80, .if_icmp .eq 110, 3, [190], 0), (83, .iconst 0, 1, [], 0), (84, .istore 6, 2, [], 0), (86, .iload_n 3, 1, [], 0), (87, .iload 6, 2, [], 0), (89, .invokestatic 273, 3, [2, 2, 172, 0, 1780], 0), (92, .ifCond .eq 62, 3, [154], 0), (95, .aload_n 0, 1, [], 0), (96, .getfield 13, 3, [12, 8, 1388], 0), (99, .iload 6, 2, [], 0), (101, .iaload, 1, [], 0), (102, .iload 4, 2, [], 0), (104, .if_icmp .eq 15, 3, [119], 0), (107, .aload_n 0, 1, [], 0), (108, .getfield 17, 3, [12, 9, 1389], 0), (111, .iload 6, 2, [], 0), (113, .iaload, 1, [], 0), (114, .iload 4, 2, [], 0), (116, .if_icmp .ne 38, 3, [154], 0), (119, .aload_n 0, 1, [], 0), (120, .getfield 65, 3, [12, 40, 1420], 0), (123, .aload_n 0, 1, [], 0), (124, .getfield 13, 3, [12, 8, 1388], 0), (127, .iload 6, 2, [], 0), (129, .iaload, 1, [], 0), (130, .aload_n 0, 1, [], 0), (131, .getfield 17, 3, [12, 9, 1389], 0), (134, .iload 6, 2, [], 0), (136, .iaload, 1, [], 0), (137, .iadd, 1, [], 0), (138, .iload 4, 2, [], 0), (140, .isub, 1, [], 0), (141, .iaload, 1, [], 0), (142, .aload_n 0, 1, [], 0), (143, .getfield 65, 3, [12, 40, 1420], 0), (146, .iload 4, 2, [], 0), (148, .iaload, 1, [], 0), (149, .iconst 1, 1, [], 0), (150, .isub, 1, [], 0), (151, .if_icmp .eq 9, 3, [160], 0), (154, .iinc 6 1, 3, [], 0), (157, .goto (-71), 3, [86], 0), (160, .aload_n 0, 1, [], 0), (161, .iload 6, 2, [], 0), (163, .i2l, 1, [], 0), (164, .invokevirtual 360, 3, [0, 2, 175, 12, 1796], 0), (167, .aload_n 0, 1, [], 0), (168, .getfield 13, 3, [12, 8, 1388], 0), (171, .iload 6, 2, [], 0), (173, .iaload, 1, [], 0), (174, .aload_n 0, 1, [], 0), (175, .getfield 17, 3, [12, 9, 1389], 0), (178, .iload 6, 2, [], 0), (180, .iaload, 1, [], 0), (181, .iadd, 1, [], 0), (182, .iload 4, 2, [], 0), (184, .isub, 1, [], 0), (185, .istore 4, 2, [], 0), (187, .goto (-110), 3, [77], 0), (190, .iload 5, 2, [], 0), (192, .ireturn, 1, [], 0)])
def pj_m235 : pj_M := (yX12_joined, cX12_joined, 2, some (.int), [1828, 99, 1826, 1827], [(0, .aload_n 0, 1, [], 0), (1, .iconst 0, 1, [], 0), (2, .putfield 105, 3, [12, 0, 1380], 0), (5, .aload_n 0, 1, [], 0), (6, .iload_n 1, 1, [], 0), (7, .invokevirtual 375, 3, [0, 2, 176, 12, 1817], 0), (10, .ifCond .ne 5, 3, [15], 0), (13, .iconst (-1), 1, [], 0), (14, .ireturn, 1, [], 0), (15, .aload_n 0, 1, [], 0), (16, .iconst 0, 1, [], 0), (17, .putfield 113, 3, [12, 1, 1381], 0), (20, .aload_n 0, 1, [], 0), (21, .aload_n 0, 1, [], 0), (22, .aload_n 0, 1, [], 0), (23, .iconst 0, 1, [], 0), (24, .iconst 0, 1, [], 0), (25, .invokevirtual 325, 3, [0, 3, 207, 12, 1776], 0), (28, .invokevirtual 382, 3, [0, 2, 210, 12, 1829], 0), (31, .i2l, 1, [], 0), (32, .invokevirtual 360, 3, [0, 2, 175, 12, 1796], 0), (35, .aload_n 0, 1, [], 0), (36, .iconst 1, 1, [], 0), (37, .iload_n 1, 1, [], 0), (38, .ishl, 1, [], 0), (39, .aload_n 0, 1, [], 0), (40, .iconst 0, 1, [], 0), (41, .iconst 0, 1, [], 0), (42, .invokevirtual 325, 3, [0, 3, 207, 12, 1776], 0), (45, .invokevirtual 280, 3, [0, 3, 209, 12, 1833], 0), (48, .ireturn, 1, [], 0)])
def pj_m236 : pj_M := (yX12_soonest, cX12_soonest, 5, some (.int), [1845, 99, 1843, 1844], [(0, .aload_n 0, 1, [], 0), (1, .iconst 0, 1, [], 0), (2, .putfield 105, 3, [12, 0, 1380], 0), (5, .aload_n 0, 1, [], 0), (6, .iload_n 1, 1, [], 0), (7, .invokevirtual 305, 3, [0, 2, 179, 12, 1701], 0), (10, .ifCond .eq 11, 3, [21], 0), (13, .aload_n 0, 1, [], 0), (14, .iload_n 2, 1, [], 0), (15, .invokevirtual 375, 3, [0, 2, 176, 12, 1817], 0), (18, .ifCond .ne 5, 3, [23], 0), (21, .iconst (-1), 1, [], 0), (22, .ireturn, 1, [], 0), (23, .iconst 1, 1, [], 0), (24, .aload_n 0, 1, [], 0), (25, .getfield 32, 3, [12, 14, 1394], 0), (28, .bipush 24, 2, [], 0), (30, .iload_n 1, 1, [], 0), (31, .iadd, 1, [], 0), (32, .iaload, 1, [], 0), (33, .ishl, 1, [], 0), (34, .istore_n 3, 1, [], 0), (35, .iconst 0, 1, [], 0), (36, .istore 4, 2, [], 0), (38, .iload 4, 2, [], 0), (40, .bipush 99, 2, [], 0), (42, .if_icmp .gt 38, 3, [80], 0), (45, .iload_n 3, 1, [], 0), (46, .iload_n 2, 1, [], 0), (47, .invokestatic 273, 3, [2, 2, 172, 0, 1780], 0), (50, .ifCond .eq 6, 3, [56], 0), (53, .iload 4, 2, [], 0), (55, .ireturn, 1, [], 0), (56, .aload_n 0, 1, [], 0), (57, .iload_n 3, 1, [], 0), (58, .aload_n 0, 1, [], 0), (59, .iload 4, 2, [], 0), (61, .aload_n 0, 1, [], 0), (62, .getfield 29, 3, [12, 13, 1393], 0), (65, .iload_n 1, 1, [], 0), (66, .iaload, 1, [], 0), (67, .invokevirtual 325, 3, [0, 3, 207, 12, 1776], 0), (70, .invokevirtual 277, 3, [0, 3, 208, 12, 1837], 0), (73, .istore_n 3, 1, [], 0), (74, .iinc 4 1, 3, [], 0), (77, .goto (-39), 3, [38], 0), (80, .bipush (-2), 2, [], 0), (82, .ireturn, 1, [], 0)])
def pj_m237 : pj_M := (yX12_isFree, cX12_isFree, 2, some (.boolean), [1861, 99, 1860, 65], [(0, .aload_n 0, 1, [], 0), (1, .iload_n 1, 1, [], 0), (2, .iconst 1, 1, [], 0), (3, .invokevirtual 296, 3, [0, 3, 206, 12, 1684], 0), (6, .ifCond .ge 16, 3, [22], 0), (9, .aload_n 0, 1, [], 0), (10, .iload_n 1, 1, [], 0), (11, .iconst 0, 1, [], 0), (12, .invokevirtual 296, 3, [0, 3, 206, 12, 1684], 0), (15, .ifCond .ge 7, 3, [22], 0), (18, .iconst 1, 1, [], 0), (19, .goto 4, 3, [23], 0), (22, .iconst 0, 1, [], 0), (23, .ireturn, 1, [], 0)])
def pj_m238 : pj_M := (yX12_canPut, cX12_canPut, 3, some (.boolean), [1857, 99, 1856, 64], [(0, .aload_n 0, 1, [], 0), (1, .getfield 32, 3, [12, 14, 1394], 0), (4, .iconst 4, 1, [], 0), (5, .iload_n 1, 1, [], 0), (6, .imul, 1, [], 0), (7, .iconst 1, 1, [], 0), (8, .iadd, 1, [], 0), (9, .iaload, 1, [], 0), (10, .ifCond .ne 30, 3, [40], 0), (13, .aload_n 0, 1, [], 0), (14, .iload_n 2, 1, [], 0), (15, .invokevirtual 385, 3, [0, 2, 237, 12, 1858], 0), (18, .ifCond .eq 22, 3, [40], 0), (21, .aload_n 0, 1, [], 0), (22, .getfield 26, 3, [12, 12, 1392], 0), (25, .iload_n 1, 1, [], 0), (26, .iaload, 1, [], 0), (27, .aload_n 0, 1, [], 0), (28, .getfield 23, 3, [12, 11, 1391], 0), (31, .iload_n 2, 1, [], 0), (32, .iaload, 1, [], 0), (33, .if_icmp .lt 7, 3, [40], 0), (36, .iconst 1, 1, [], 0), (37, .goto 4, 3, [41], 0), (40, .iconst 0, 1, [], 0), (41, .ireturn, 1, [], 0)])
def pj_m239 : pj_M := (yX12_openWith, cX12_openWith, 7, some (.int), [1865, 99, 1864, 66], [(0, .iload_n 2, 1, [], 0), (1, .ifCond .ge 7, 3, [8], 0), (4, .iconst (-1), 1, [], 0), (5, .goto 13, 3, [18], 0), (8, .aload_n 0, 1, [], 0), (9, .getfield 32, 3, [12, 14, 1394], 0), (12, .iconst 4, 1, [], 0), (13, .iload_n 2, 1, [], 0), (14, .imul, 1, [], 0), (15, .iconst 0, 1, [], 0), (16, .iadd, 1, [], 0), (17, .iaload, 1, [], 0), (18, .istore 5, 2, [], 0), (20, .iload 5, 2, [], 0), (22, .ifCond .ge 7, 3, [29], 0), (25, .iload_n 1, 1, [], 0), (26, .goto 11, 3, [37], 0), (29, .iload_n 1, 1, [], 0), (30, .iconst 1, 1, [], 0), (31, .iload 5, 2, [], 0), (33, .ishl, 1, [], 0), (34, .iconst (-1), 1, [], 0), (35, .ixor, 1, [], 0), (36, .iand, 1, [], 0), (37, .istore 6, 2, [], 0), (39, .iload_n 2, 1, [], 0), (40, .ifCond .lt 27, 3, [67], 0), (43, .aload_n 0, 1, [], 0), (44, .getfield 32, 3, [12, 14, 1394], 0), (47, .iconst 4, 1, [], 0), (48, .iload_n 2, 1, [], 0), (49, .imul, 1, [], 0), (50, .iconst 3, 1, [], 0), (51, .iadd, 1, [], 0), (52, .iaload, 1, [], 0), (53, .iload 4, 2, [], 0), (55, .if_icmp .lt 12, 3, [67], 0), (58, .iload 6, 2, [], 0), (60, .iconst 1, 1, [], 0), (61, .iload_n 3, 1, [], 0), (62, .ishl, 1, [], 0), (63, .ior, 1, [], 0), (64, .goto 5, 3, [69], 0), (67, .iload 6, 2, [], 0), (69, .ireturn, 1, [], 0)])
def pj_m240 : pj_M := (yX12_canGo, cX12_canGo, 4, some (.boolean), [1853, 99, 1852, 63], [(0, .aload_n 0, 1, [], 0), (1, .iconst 1, 1, [], 0), (2, .aload_n 0, 1, [], 0), (3, .getfield 32, 3, [12, 14, 1394], 0), (6, .bipush 24, 2, [], 0), (8, .iload_n 1, 1, [], 0), (9, .iadd, 1, [], 0), (10, .iaload, 1, [], 0), (11, .ishl, 1, [], 0), (12, .iload_n 3, 1, [], 0), (13, .invokevirtual 280, 3, [0, 3, 209, 12, 1833], 0), (16, .iload_n 2, 1, [], 0), (17, .invokestatic 273, 3, [2, 2, 172, 0, 1780], 0), (20, .ireturn, 1, [], 0)])
def pj_m241 : pj_M := (yX12_moves, cX12_moves, 9, some (.int), [1849, 99, 1847, 1848], [(0, .aload_n 0, 1, [], 0), (1, .iconst 0, 1, [], 0), (2, .putfield 105, 3, [12, 0, 1380], 0), (5, .aload_n 0, 1, [], 0), (6, .iload_n 1, 1, [], 0), (7, .invokevirtual 305, 3, [0, 2, 179, 12, 1701], 0), (10, .ifCond .eq 11, 3, [21], 0), (13, .aload_n 0, 1, [], 0), (14, .iload_n 2, 1, [], 0), (15, .invokevirtual 375, 3, [0, 2, 176, 12, 1817], 0), (18, .ifCond .ne 5, 3, [23], 0), (21, .iconst (-1), 1, [], 0), (22, .ireturn, 1, [], 0), (23, .aload_n 0, 1, [], 0), (24, .iconst 0, 1, [], 0), (25, .aload_n 0, 1, [], 0), (26, .getfield 29, 3, [12, 13, 1393], 0), (29, .iload_n 1, 1, [], 0), (30, .iaload, 1, [], 0), (31, .invokevirtual 325, 3, [0, 3, 207, 12, 1776], 0), (34, .istore_n 3, 1, [], 0), (35, .aload_n 0, 1, [], 0), (36, .iload_n 1, 1, [], 0), (37, .iload_n 2, 1, [], 0), (38, .iload_n 3, 1, [], 0), (39, .invokevirtual 388, 3, [0, 4, 240, 12, 1850], 0), (42, .ifCond .eq 10, 3, [52], 0), (45, .aload_n 0, 1, [], 0), (46, .iconst 0, 1, [], 0), (47, .putfield 113, 3, [12, 1, 1381], 0), (50, .iconst 0, 1, [], 0), (51, .ireturn, 1, [], 0), (52, .iconst 0, 1, [], 0), (53, .istore 4, 2, [], 0), (55, .iload 4, 2, [], 0), (57, .aload_n 0, 1, [], 0), (58, .getfield 126, 3, [12, 5, 1385], 0), (61, .if_icmp .ge 83, 3, [144], 0), (64, .iconst 0, 1, [], 0), (65, .istore 5, 2, [], 0), (67, .iload 5, 2, [], 0), (69, .aload_n 0, 1, [], 0), (70, .getfield 123, 3, [12, 4, 1384], 0), (73, .if_icmp .ge 65, 3, [138], 0), (76, .aload_n 0, 1, [], 0), (77, .iload 4, 2, [], 0), (79, .iload 5, 2, [], 0), (81, .invokevirtual 392, 3, [0, 3, 238, 12, 1854], 0), (84, .ifCond .eq 48, 3, [132], 0), (87, .aload_n 0, 1, [], 0), (88, .iload_n 1, 1, [], 0), (89, .iload_n 2, 1, [], 0), (90, .aload_n 0, 1, [], 0), (91, .iload_n 3, 1, [], 0), (92, .iload 4, 2, [], 0), (94, .iload 5, 2, [], 0), (96, .aload_n 0, 1, [], 0), (97, .getfield 29, 3, [12, 13, 1393], 0), (100, .iload_n 1, 1, [], 0), (101, .iaload, 1, [], 0), (102, .invokevirtual 395, 3, [0, 5, 239, 12, 1862], 0), (105, .invokevirtual 388, 3, [0, 4, 240, 12, 1850], 0), (108, .ifCond .eq 24, 3, [132], 0), (111, .aload_n 0, 1, [], 0), (112, .iconst 0, 1, [], 0), (113, .putfield 113, 3, [12, 1, 1381], 0), (116, .aload_n 0, 1, [], 0), (117, .iload 4, 2, [], 0), (119, .i2l, 1, [], 0), (120, .invokevirtual 360, 3, [0, 2, 175, 12, 1796], 0), (123, .aload_n 0, 1, [], 0), (124, .iload 5, 2, [], 0), (126, .i2l, 1, [], 0), (127, .invokevirtual 360, 3, [0, 2, 175, 12, 1796], 0), (130, .iconst 1, 1, [], 0), (131, .ireturn, 1, [], 0), (132, .iinc 5 1, 3, [], 0), (135, .goto (-68), 3, [67], 0), (138, .iinc 4 1, 3, [], 0), (141, .goto (-86), 3, [55], 0), (144, .iconst 0, 1, [], 0), (145, .istore 4, 2, [], 0), (147, .iload 4, 2, [], 0), (149, .aload_n 0, 1, [], 0), (150, .getfield 126, 3, [12, 5, 1385], 0), (153, .if_icmp .ge 172, 3, [325], 0), (156, .iconst 0, 1, [], 0), (157, .istore 5, 2, [], 0), (159, .iload 5, 2, [], 0), (161, .aload_n 0, 1, [], 0), (162, .getfield 123, 3, [12, 4, 1384], 0), (165, .if_icmp .ge 154, 3, [319], 0), (168, .aload_n 0, 1, [], 0), (169, .iload_n 3, 1, [], 0), (170, .iload 4, 2, [], 0), (172, .iload 5, 2, [], 0), (174, .aload_n 0, 1, [], 0), (175, .getfield 29, 3, [12, 13, 1393], 0), (178, .iload_n 1, 1, [], 0), (179, .iaload, 1, [], 0), (180, .invokevirtual 395, 3, [0, 5, 239, 12, 1862], 0), (183, .istore 6, 2, [], 0), (185, .iload 4, 2, [], 0), (187, .iconst 1, 1, [], 0), (188, .iadd, 1, [], 0), (189, .istore 7, 2, [], 0), (191, .iload 7, 2, [], 0), (193, .aload_n 0, 1, [], 0), (194, .getfield 126, 3, [12, 5, 1385], 0), (197, .if_icmp .ge 116, 3, [313], 0), (200, .aload_n 0, 1, [], 0), (201, .iload 4, 2, [], 0), (203, .iload 5, 2, [], 0), (205, .invokevirtual 392, 3, [0, 3, 238, 12, 1854], 0), (208, .ifCond .eq 105, 3, [313], 0), (211, .iconst 0, 1, [], 0), (212, .istore 8, 2, [], 0), (214, .iload 8, 2, [], 0), (216, .aload_n 0, 1, [], 0), (217, .getfield 123, 3, [12, 4, 1384], 0), (220, .if_icmp .ge 87, 3, [307], 0), (223, .iload 8, 2, [], 0), (225, .iload 5, 2, [], 0), (227, .if_icmp .eq 74, 3, [301], 0), (230, .aload_n 0, 1, [], 0), (231, .iload 7, 2, [], 0), (233, .iload 8, 2, [], 0), (235, .invokevirtual 392, 3, [0, 3, 238, 12, 1854], 0), (238, .ifCond .eq 63, 3, [301], 0), (241, .aload_n 0, 1, [], 0), (242, .iload_n 1, 1, [], 0), (243, .iload_n 2, 1, [], 0), (244, .aload_n 0, 1, [], 0), (245, .iload 6, 2, [], 0), (247, .iload 7, 2, [], 0), (249, .iload 8, 2, [], 0), (251, .aload_n 0, 1, [], 0), (252, .getfield 29, 3, [12, 13, 1393], 0), (255, .iload_n 1, 1, [], 0), (256, .iaload, 1, [], 0), (257, .invokevirtual 395, 3, [0, 5, 239, 12, 1862], 0), (260, .invokevirtual 388, 3, [0, 4, 240, 12, 1850], 0), (263, .ifCond .eq 38, 3, [301], 0), (266, .aload_n 0, 1, [], 0), (267, .iconst 0, 1, [], 0), (268, .putfield 113, 3, [12, 1, 1381], 0), (271, .aload_n 0, 1, [], 0), (272, .iload 4, 2, [], 0), (274, .i2l, 1, [], 0), (275, .invokevirtual 360, 3, [0, 2, 175, 12, 1796], 0), (278, .aload_n 0, 1, [], 0), (279, .iload 5, 2, [], 0), (281, .i2l, 1, [], 0), (282, .invokevirtual 360, 3, [0, 2, 175, 12, 1796], 0), (285, .aload_n 0, 1, [], 0), (286, .iload 7, 2, [], 0), (288, .i2l, 1, [], 0), (289, .invokevirtual 360, 3, [0, 2, 175, 12, 1796], 0), (292, .aload_n 0, 1, [], 0), (293, .iload 8, 2, [], 0), (295, .i2l, 1, [], 0), (296, .invokevirtual 360, 3, [0, 2, 175, 12, 1796], 0), (299, .iconst 2, 1, [], 0), (300, .ireturn, 1, [], 0), (301, .iinc 8 1, 3, [], 0), (304, .goto (-90), 3, [214], 0), (307, .iinc 7 1, 3, [], 0), (310, .goto (-119), 3, [191], 0), (313, .iinc 5 1, 3, [], 0), (316, .goto (-157), 3, [159], 0), (319, .iinc 4 1, 3, [], 0), (322, .goto (-175), 3, [147], 0), (325, .bipush (-2), 2, [], 0), (327, .ireturn, 1, [], 0)])
def pj_m242 : pj_M := (yX12_needed, cX12_needed, 7, some (.int), [1869, 99, 1867, 1868], [(0, .aload_n 0, 1, [], 0), (1, .iconst 0, 1, [], 0), (2, .putfield 105, 3, [12, 0, 1380], 0), (5, .aload_n 0, 1, [], 0), (6, .iconst 0, 1, [], 0), (7, .iconst 0, 1, [], 0), (8, .invokevirtual 325, 3, [0, 3, 207, 12, 1776], 0), (11, .istore_n 1, 1, [], 0), (12, .bipush (-2), 2, [], 0), (14, .istore_n 2, 1, [], 0), (15, .sipush 1000, 3, [], 0), (18, .istore_n 3, 1, [], 0), (19, .iconst 0, 1, [], 0), (20, .istore 4, 2, [], 0), (22, .iload 4, 2, [], 0), (24, .aload_n 0, 1, [], 0), (25, .getfield 126, 3, [12, 5, 1385], 0), (28, .if_icmp .ge 75, 3, [103], 0), (31, .aload_n 0, 1, [], 0), (32, .getfield 32, 3, [12, 14, 1394], 0), (35, .iconst 4, 1, [], 0), (36, .iload 4, 2, [], 0), (38, .imul, 1, [], 0), (39, .iconst 0, 1, [], 0), (40, .iadd, 1, [], 0), (41, .iaload, 1, [], 0), (42, .istore 5, 2, [], 0), (44, .iload 5, 2, [], 0), (46, .ifCond .lt 51, 3, [97], 0), (49, .aload_n 0, 1, [], 0), (50, .getfield 32, 3, [12, 14, 1394], 0), (53, .iconst 4, 1, [], 0), (54, .iload 4, 2, [], 0), (56, .imul, 1, [], 0), (57, .iconst 1, 1, [], 0), (58, .iadd, 1, [], 0), (59, .iaload, 1, [], 0), (60, .ifCond .ne 37, 3, [97], 0), (63, .aload_n 0, 1, [], 0), (64, .iload_n 1, 1, [], 0), (65, .iconst 1, 1, [], 0), (66, .iload 5, 2, [], 0), (68, .ishl, 1, [], 0), (69, .iconst (-1), 1, [], 0), (70, .ixor, 1, [], 0), (71, .iand, 1, [], 0), (72, .invokevirtual 382, 3, [0, 2, 210, 12, 1829], 0), (75, .istore 6, 2, [], 0), (77, .iload 6, 2, [], 0), (79, .iload_n 3, 1, [], 0), (80, .if_icmp .ge 8, 3, [88], 0), (83, .iload 4, 2, [], 0), (85, .goto 4, 3, [89], 0), (88, .iload_n 2, 1, [], 0), (89, .istore_n 2, 1, [], 0), (90, .iload_n 3, 1, [], 0), (91, .iload 6, 2, [], 0), (93, .invokestatic 141, 3, [11, 0, 0, 0, 1584, 502, 100, 503], 0), (96, .istore_n 3, 1, [], 0), (97, .iinc 4 1, 3, [], 0), (100, .goto (-78), 3, [22], 0), (103, .iload_n 2, 1, [], 0), (104, .ifCond .ge 6, 3, [110], 0), (107, .bipush (-2), 2, [], 0), (109, .ireturn, 1, [], 0), (110, .aload_n 0, 1, [], 0), (111, .iconst 0, 1, [], 0), (112, .putfield 113, 3, [12, 1, 1381], 0), (115, .aload_n 0, 1, [], 0), (116, .iload_n 3, 1, [], 0), (117, .i2l, 1, [], 0), (118, .invokevirtual 360, 3, [0, 2, 175, 12, 1796], 0), (121, .aload_n 0, 1, [], 0), (122, .aload_n 0, 1, [], 0), (123, .iload_n 1, 1, [], 0), (124, .invokevirtual 382, 3, [0, 2, 210, 12, 1829], 0), (127, .i2l, 1, [], 0), (128, .invokevirtual 360, 3, [0, 2, 175, 12, 1796], 0), (131, .iload_n 2, 1, [], 0), (132, .ireturn, 1, [], 0)])
def pj_m243 : pj_M := (yX12_laysFrom, cX12_laysFrom, 6, some (.boolean), [1881, 99, 1880, 68], [(0, .iload_n 2, 1, [], 0), (1, .aload_n 0, 1, [], 0), (2, .getfield 123, 3, [12, 4, 1384], 0), (5, .if_icmp .ne 5, 3, [10], 0), (8, .iconst 1, 1, [], 0), (9, .ireturn, 1, [], 0), (10, .iload_n 1, 1, [], 0), (11, .iload_n 2, 1, [], 0), (12, .invokestatic 273, 3, [2, 2, 172, 0, 1780], 0), (15, .ifCond .ne 15, 3, [30], 0), (18, .aload_n 0, 1, [], 0), (19, .iload_n 1, 1, [], 0), (20, .iload_n 2, 1, [], 0), (21, .iconst 1, 1, [], 0), (22, .iadd, 1, [], 0), (23, .iload_n 3, 1, [], 0), (24, .iload 4, 2, [], 0), (26, .invokevirtual 399, 3, [0, 5, 243, 12, 1878], 0), (29, .ireturn, 1, [], 0), (30, .iconst 0, 1, [], 0), (31, .istore 5, 2, [], 0), (33, .iload 5, 2, [], 0), (35, .aload_n 0, 1, [], 0), (36, .getfield 126, 3, [12, 5, 1385], 0), (39, .if_icmp .ge 66, 3, [105], 0), (42, .iload_n 3, 1, [], 0), (43, .iload 5, 2, [], 0), (45, .invokestatic 273, 3, [2, 2, 172, 0, 1780], 0), (48, .ifCond .ne 51, 3, [99], 0), (51, .aload_n 0, 1, [], 0), (52, .getfield 26, 3, [12, 12, 1392], 0), (55, .iload 5, 2, [], 0), (57, .iaload, 1, [], 0), (58, .aload_n 0, 1, [], 0), (59, .getfield 23, 3, [12, 11, 1391], 0), (62, .iload_n 2, 1, [], 0), (63, .iaload, 1, [], 0), (64, .if_icmp .lt 35, 3, [99], 0), (67, .aload_n 0, 1, [], 0), (68, .getfield 68, 3, [12, 41, 1421], 0), (71, .iload 4, 2, [], 0), (73, .iload 5, 2, [], 0), (75, .iastore, 1, [], 0), (76, .aload_n 0, 1, [], 0), (77, .iload_n 1, 1, [], 0), (78, .iload_n 2, 1, [], 0), (79, .iconst 1, 1, [], 0), (80, .iadd, 1, [], 0), (81, .iload_n 3, 1, [], 0), (82, .iconst 1, 1, [], 0), (83, .iload 5, 2, [], 0), (85, .ishl, 1, [], 0), (86, .ior, 1, [], 0), (87, .iload 4, 2, [], 0), (89, .iconst 1, 1, [], 0), (90, .iadd, 1, [], 0), (91, .invokevirtual 399, 3, [0, 5, 243, 12, 1878], 0), (94, .ifCond .eq 5, 3, [99], 0), (97, .iconst 1, 1, [], 0), (98, .ireturn, 1, [], 0), (99, .iinc 5 1, 3, [], 0), (102, .goto (-69), 3, [33], 0), (105, .iconst 0, 1, [], 0), (106, .ireturn, 1, [], 0)])
def pj_m244 : pj_M := (yX12_canLay, cX12_canLay, 7, some (.boolean), [1898, 99, 1897, 71], [(0, .iconst 1, 1, [], 0), (1, .istore_n 2, 1, [], 0), (2, .iconst 1, 1, [], 0), (3, .istore_n 3, 1, [], 0), (4, .iload_n 3, 1, [], 0), (5, .bipush 9, 2, [], 0), (7, .if_icmp .gt 125, 3, [132], 0), (10, .iconst 0, 1, [], 0), (11, .istore 4, 2, [], 0), (13, .iconst 0, 1, [], 0), (14, .istore 5, 2, [], 0), (16, .iconst 0, 1, [], 0), (17, .istore 6, 2, [], 0), (19, .iload 6, 2, [], 0), (21, .aload_n 0, 1, [], 0), (22, .getfield 123, 3, [12, 4, 1384], 0), (25, .if_icmp .ge 42, 3, [67], 0), (28, .iload 4, 2, [], 0), (30, .iload_n 1, 1, [], 0), (31, .iload 6, 2, [], 0), (33, .invokestatic 273, 3, [2, 2, 172, 0, 1780], 0), (36, .ifCond .eq 18, 3, [54], 0), (39, .aload_n 0, 1, [], 0), (40, .getfield 23, 3, [12, 11, 1391], 0), (43, .iload 6, 2, [], 0), (45, .iaload, 1, [], 0), (46, .iload_n 3, 1, [], 0), (47, .if_icmp .lt 7, 3, [54], 0), (50, .iconst 1, 1, [], 0), (51, .goto 4, 3, [55], 0), (54, .iconst 0, 1, [], 0), (55, .invokestatic 150, 3, [2, 1, 173, 0, 1596], 0), (58, .iadd, 1, [], 0), (59, .istore 4, 2, [], 0), (61, .iinc 6 1, 3, [], 0), (64, .goto (-45), 3, [19], 0), (67, .iconst 0, 1, [], 0), (68, .istore 6, 2, [], 0), (70, .iload 6, 2, [], 0), (72, .aload_n 0, 1, [], 0), (73, .getfield 126, 3, [12, 5, 1385], 0), (76, .if_icmp .ge 33, 3, [109], 0), (79, .iload 5, 2, [], 0), (81, .aload_n 0, 1, [], 0), (82, .getfield 26, 3, [12, 12, 1392], 0), (85, .iload 6, 2, [], 0), (87, .iaload, 1, [], 0), (88, .iload_n 3, 1, [], 0), (89, .if_icmp .lt 7, 3, [96], 0), (92, .iconst 1, 1, [], 0), (93, .goto 4, 3, [97], 0), (96, .iconst 0, 1, [], 0), (97, .invokestatic 150, 3, [2, 1, 173, 0, 1596], 0), (100, .iadd, 1, [], 0), (101, .istore 5, 2, [], 0), (103, .iinc 6 1, 3, [], 0), (106, .goto (-36), 3, [70], 0), (109, .iload_n 2, 1, [], 0), (110, .ifCond .eq 14, 3, [124], 0), (113, .iload 4, 2, [], 0), (115, .iload 5, 2, [], 0), (117, .if_icmp .gt 7, 3, [124], 0), (120, .iconst 1, 1, [], 0), (121, .goto 4, 3, [125], 0), (124, .iconst 0, 1, [], 0), (125, .istore_n 2, 1, [], 0), (126, .iinc 3 1, 3, [], 0), (129, .goto (-125), 3, [4], 0), (132, .iload_n 2, 1, [], 0), (133, .ireturn, 1, [], 0)])
def pj_m245 : pj_M := (yX12_allCrossings, cX12_allCrossings, 1, some (.int), [1877, 99, 1876, 67], [(0, .iconst 1, 1, [], 0), (1, .aload_n 0, 1, [], 0), (2, .getfield 123, 3, [12, 4, 1384], 0), (5, .ishl, 1, [], 0), (6, .iconst 1, 1, [], 0), (7, .isub, 1, [], 0), (8, .ireturn, 1, [], 0)])
def pj_m246 : pj_M := (yX12_lays, cX12_lays, 3, some (.int), [1873, 99, 1871, 1872], [(0, .aload_n 0, 1, [], 0), (1, .iconst 0, 1, [], 0), (2, .putfield 105, 3, [12, 0, 1380], 0), (5, .iload_n 1, 1, [], 0), (6, .i2l, 1, [], 0), (7, .lconst 0, 1, [], 0), (8, .aload_n 0, 1, [], 0), (9, .invokevirtual 403, 3, [0, 1, 245, 12, 1874], 0), (12, .i2l, 1, [], 0), (13, .invokestatic 119, 3, [2, 3, 171, 0, 1573], 0), (16, .ifCond .ne 5, 3, [21], 0), (19, .iconst (-1), 1, [], 0), (20, .ireturn, 1, [], 0), (21, .aload_n 0, 1, [], 0), (22, .iconst 0, 1, [], 0), (23, .putfield 113, 3, [12, 1, 1381], 0), (26, .aload_n 0, 1, [], 0), (27, .iload_n 1, 1, [], 0), (28, .iconst 0, 1, [], 0), (29, .iconst 0, 1, [], 0), (30, .iconst 0, 1, [], 0), (31, .invokevirtual 399, 3, [0, 5, 243, 12, 1878], 0), (34, .ifCond .ne 5, 3, [39], 0), (37, .iconst 0, 1, [], 0), (38, .ireturn, 1, [], 0), (39, .iconst 0, 1, [], 0), (40, .istore_n 2, 1, [], 0), (41, .iload_n 2, 1, [], 0), (42, .iload_n 1, 1, [], 0), (43, .invokestatic 283, 3, [2, 1, 288, 0, 1841], 0), (46, .if_icmp .ge 20, 3, [66], 0), (49, .aload_n 0, 1, [], 0), (50, .aload_n 0, 1, [], 0), (51, .getfield 68, 3, [12, 41, 1421], 0), (54, .iload_n 2, 1, [], 0), (55, .iaload, 1, [], 0), (56, .i2l, 1, [], 0), (57, .invokevirtual 360, 3, [0, 2, 175, 12, 1796], 0), (60, .iinc 2 1, 3, [], 0), (63, .goto (-22), 3, [41], 0), (66, .iconst 1, 1, [], 0), (67, .ireturn, 1, [], 0)])
def pj_m247 : pj_M := (yX12_joinsAll, cX12_joinsAll, 4, some (.boolean), [1894, 99, 1893, 70], [(0, .iconst 1, 1, [], 0), (1, .istore_n 2, 1, [], 0), (2, .iconst 0, 1, [], 0), (3, .istore_n 3, 1, [], 0), (4, .iload_n 3, 1, [], 0), (5, .aload_n 0, 1, [], 0), (6, .getfield 406, 3, [12, 44, 1424], 0), (9, .if_icmp .ge 36, 3, [45], 0), (12, .iload_n 2, 1, [], 0), (13, .ifCond .eq 32, 3, [45], 0), (16, .aload_n 0, 1, [], 0), (17, .iconst 1, 1, [], 0), (18, .aload_n 0, 1, [], 0), (19, .getfield 71, 3, [12, 42, 1422], 0), (22, .iload_n 3, 1, [], 0), (23, .iaload, 1, [], 0), (24, .ishl, 1, [], 0), (25, .iload_n 1, 1, [], 0), (26, .invokevirtual 280, 3, [0, 3, 209, 12, 1833], 0), (29, .aload_n 0, 1, [], 0), (30, .getfield 74, 3, [12, 43, 1423], 0), (33, .iload_n 3, 1, [], 0), (34, .iaload, 1, [], 0), (35, .invokestatic 273, 3, [2, 2, 172, 0, 1780], 0), (38, .istore_n 2, 1, [], 0), (39, .iinc 3 1, 3, [], 0), (42, .goto (-38), 3, [4], 0), (45, .iload_n 2, 1, [], 0), (46, .ireturn, 1, [], 0)])
def pj_m248 : pj_M := (yX12_fewestFor, cX12_fewestFor, 4, some (.int), [1890, 99, 1889, 69], [(0, .iconst (-1), 1, [], 0), (1, .istore_n 1, 1, [], 0), (2, .iconst 0, 1, [], 0), (3, .istore_n 2, 1, [], 0), (4, .iload_n 2, 1, [], 0), (5, .aload_n 0, 1, [], 0), (6, .invokevirtual 403, 3, [0, 1, 245, 12, 1874], 0), (9, .if_icmp .gt 56, 3, [65], 0), (12, .iload_n 1, 1, [], 0), (13, .ifCond .lt 14, 3, [27], 0), (16, .iload_n 2, 1, [], 0), (17, .invokestatic 283, 3, [2, 1, 288, 0, 1841], 0), (20, .iload_n 1, 1, [], 0), (21, .invokestatic 283, 3, [2, 1, 288, 0, 1841], 0), (24, .if_icmp .ge 7, 3, [31], 0), (27, .iconst 1, 1, [], 0), (28, .goto 4, 3, [32], 0), (31, .iconst 0, 1, [], 0), (32, .istore_n 3, 1, [], 0), (33, .iload_n 3, 1, [], 0), (34, .ifCond .eq 23, 3, [57], 0), (37, .aload_n 0, 1, [], 0), (38, .iload_n 2, 1, [], 0), (39, .invokevirtual 409, 3, [0, 2, 247, 12, 1891], 0), (42, .ifCond .eq 15, 3, [57], 0), (45, .aload_n 0, 1, [], 0), (46, .iload_n 2, 1, [], 0), (47, .invokevirtual 412, 3, [0, 2, 244, 12, 1895], 0), (50, .ifCond .eq 7, 3, [57], 0), (53, .iload_n 2, 1, [], 0), (54, .goto 4, 3, [58], 0), (57, .iload_n 1, 1, [], 0), (58, .istore_n 1, 1, [], 0), (59, .iinc 2 1, 3, [], 0), (62, .goto (-58), 3, [4], 0), (65, .iload_n 1, 1, [], 0), (66, .ifCond .ge 6, 3, [72], 0), (69, .bipush (-2), 2, [], 0), (71, .ireturn, 1, [], 0), (72, .aload_n 0, 1, [], 0), (73, .iconst 0, 1, [], 0), (74, .putfield 113, 3, [12, 1, 1381], 0), (77, .aload_n 0, 1, [], 0), (78, .iload_n 1, 1, [], 0), (79, .i2l, 1, [], 0), (80, .invokevirtual 360, 3, [0, 2, 175, 12, 1796], 0), (83, .iload_n 1, 1, [], 0), (84, .invokestatic 283, 3, [2, 1, 288, 0, 1841], 0), (87, .ireturn, 1, [], 0)])
def pj_m249 : pj_M := (yX12_joins, cX12_joins, 4, some (.int), [1885, 99, 1883, 1884], [(0, .aload_n 0, 1, [], 0), (1, .iconst 0, 1, [], 0), (2, .putfield 105, 3, [12, 0, 1380], 0), (5, .iload_n 1, 1, [], 0), (6, .i2l, 1, [], 0), (7, .lconst 0, 1, [], 0), (8, .iconst 1, 1, [], 0), (9, .aload_n 0, 1, [], 0), (10, .getfield 116, 3, [12, 3, 1383], 0), (13, .ishl, 1, [], 0), (14, .iconst 1, 1, [], 0), (15, .isub, 1, [], 0), (16, .i2l, 1, [], 0), (17, .invokestatic 119, 3, [2, 3, 171, 0, 1573], 0), (20, .ifCond .ne 5, 3, [25], 0), (23, .iconst (-1), 1, [], 0), (24, .ireturn, 1, [], 0), (25, .aload_n 0, 1, [], 0), (26, .iconst 0, 1, [], 0), (27, .putfield 406, 3, [12, 44, 1424], 0), (30, .iload_n 1, 1, [], 0), (31, .invokestatic 415, 3, [2, 1, 287, 0, 1886], 0), (34, .istore_n 2, 1, [], 0), (35, .iload_n 2, 1, [], 0), (36, .iconst 1, 1, [], 0), (37, .iadd, 1, [], 0), (38, .istore_n 3, 1, [], 0), (39, .iload_n 3, 1, [], 0), (40, .aload_n 0, 1, [], 0), (41, .getfield 116, 3, [12, 3, 1383], 0), (44, .if_icmp .ge 47, 3, [91], 0), (47, .iload_n 1, 1, [], 0), (48, .iload_n 3, 1, [], 0), (49, .invokestatic 273, 3, [2, 2, 172, 0, 1780], 0), (52, .ifCond .eq 33, 3, [85], 0), (55, .aload_n 0, 1, [], 0), (56, .getfield 71, 3, [12, 42, 1422], 0), (59, .aload_n 0, 1, [], 0), (60, .getfield 406, 3, [12, 44, 1424], 0), (63, .iload_n 2, 1, [], 0), (64, .iastore, 1, [], 0), (65, .aload_n 0, 1, [], 0), (66, .getfield 74, 3, [12, 43, 1423], 0), (69, .aload_n 0, 1, [], 0), (70, .getfield 406, 3, [12, 44, 1424], 0), (73, .iload_n 3, 1, [], 0), (74, .iastore, 1, [], 0), (75, .aload_n 0, 1, [], 0), (76, .dup, 1, [], 0), (77, .getfield 406, 3, [12, 44, 1424], 0), (80, .iconst 1, 1, [], 0), (81, .iadd, 1, [], 0), (82, .putfield 406, 3, [12, 44, 1424], 0), (85, .iinc 3 1, 3, [], 0), (88, .goto (-49), 3, [39], 0), (91, .aload_n 0, 1, [], 0), (92, .invokevirtual 418, 3, [0, 1, 248, 12, 1887], 0), (95, .ireturn, 1, [], 0)])
def pj_m250 : pj_M := (yX12_night, cX12_night, 6, some (.int), [1902, 99, 1900, 1901], [(0, .aload_n 0, 1, [], 0), (1, .iconst 0, 1, [], 0), (2, .putfield 105, 3, [12, 0, 1380], 0), (5, .iconst 0, 1, [], 0), (6, .istore_n 1, 1, [], 0), (7, .iconst (-1), 1, [], 0), (8, .istore_n 2, 1, [], 0), (9, .iconst 0, 1, [], 0), (10, .istore_n 3, 1, [], 0), (11, .iload_n 3, 1, [], 0), (12, .aload_n 0, 1, [], 0), (13, .invokevirtual 403, 3, [0, 1, 245, 12, 1874], 0), (16, .if_icmp .gt 72, 3, [88], 0), (19, .aload_n 0, 1, [], 0), (20, .iload_n 3, 1, [], 0), (21, .invokevirtual 412, 3, [0, 2, 244, 12, 1895], 0), (24, .ifCond .eq 58, 3, [82], 0), (27, .aload_n 0, 1, [], 0), (28, .iload_n 3, 1, [], 0), (29, .invokevirtual 382, 3, [0, 2, 210, 12, 1829], 0), (32, .istore 4, 2, [], 0), (34, .iload 4, 2, [], 0), (36, .iload_n 2, 1, [], 0), (37, .if_icmp .gt 20, 3, [57], 0), (40, .iload 4, 2, [], 0), (42, .iload_n 2, 1, [], 0), (43, .if_icmp .ne 18, 3, [61], 0), (46, .iload_n 3, 1, [], 0), (47, .invokestatic 283, 3, [2, 1, 288, 0, 1841], 0), (50, .iload_n 1, 1, [], 0), (51, .invokestatic 283, 3, [2, 1, 288, 0, 1841], 0), (54, .if_icmp .ge 7, 3, [61], 0), (57, .iconst 1, 1, [], 0), (58, .goto 4, 3, [62], 0), (61, .iconst 0, 1, [], 0), (62, .istore 5, 2, [], 0), (64, .iload 5, 2, [], 0), (66, .ifCond .eq 7, 3, [73], 0), (69, .iload_n 3, 1, [], 0), (70, .goto 4, 3, [74], 0), (73, .iload_n 1, 1, [], 0), (74, .istore_n 1, 1, [], 0), (75, .iload_n 2, 1, [], 0), (76, .iload 4, 2, [], 0), (78, .invokestatic 261, 3, [10, 0, 0, 0, 1710, 686, 100, 687], 0), (81, .istore_n 2, 1, [], 0), (82, .iinc 3 1, 3, [], 0), (85, .goto (-74), 3, [11], 0), (88, .aload_n 0, 1, [], 0), (89, .iconst 0, 1, [], 0), (90, .putfield 113, 3, [12, 1, 1381], 0), (93, .aload_n 0, 1, [], 0), (94, .iload_n 1, 1, [], 0), (95, .i2l, 1, [], 0), (96, .invokevirtual 360, 3, [0, 2, 175, 12, 1796], 0), (99, .iload_n 2, 1, [], 0), (100, .ireturn, 1, [], 0)])
def pj_m251 : pj_M := (yX12_errands, cX12_errands, 4, some (.int), [1906, 99, 1904, 1905], [(0, .aload_n 0, 1, [], 0), (1, .iconst 0, 1, [], 0), (2, .putfield 105, 3, [12, 0, 1380], 0), (5, .aload_n 0, 1, [], 0), (6, .bipush 80, 2, [], 0), (8, .invokevirtual 205, 3, [0, 2, 182, 12, 1580], 0), (11, .pop, 1, [], 0), (12, .iconst 0, 1, [], 0), (13, .istore_n 1, 1, [], 0), (14, .iconst 1, 1, [], 0), (15, .istore_n 2, 1, [], 0), (16, .iload_n 2, 1, [], 0), (17, .ifCond .eq 63, 3, [80], 0), (20, .iload_n 1, 1, [], 0), (21, .bipush 8, 2, [], 0), (23, .if_icmp .ge 14, 3, [37], 0), (26, .aload_n 0, 1, [], 0), (27, .aload_n 0, 1, [], 0), (28, .getfield 116, 3, [12, 3, 1383], 0), (31, .invokevirtual 190, 3, [0, 2, 190, 12, 1607], 0), (34, .goto 4, 3, [38], 0), (37, .iconst (-1), 1, [], 0), (38, .istore_n 3, 1, [], 0), (39, .iload_n 3, 1, [], 0), (40, .ifCond .ge 10, 3, [50], 0), (43, .iconst (-1), 1, [], 0), (44, .aload_n 0, 1, [], 0), (45, .getfield 135, 3, [12, 17, 1397], 0), (48, .isub, 1, [], 0), (49, .ireturn, 1, [], 0), (50, .aload_n 0, 1, [], 0), (51, .getfield 71, 3, [12, 42, 1422], 0), (54, .iload_n 1, 1, [], 0), (55, .aload_n 0, 1, [], 0), (56, .getfield 181, 3, [12, 23, 1403], 0), (59, .iastore, 1, [], 0), (60, .aload_n 0, 1, [], 0), (61, .getfield 74, 3, [12, 43, 1423], 0), (64, .iload_n 1, 1, [], 0), (65, .iload_n 3, 1, [], 0), (66, .iastore, 1, [], 0), (67, .iinc 1 1, 3, [], 0), (70, .aload_n 0, 1, [], 0), (71, .bipush 44, 2, [], 0), (73, .invokevirtual 196, 3, [0, 2, 183, 12, 1599], 0), (76, .istore_n 2, 1, [], 0), (77, .goto (-61), 3, [16], 0), (80, .aload_n 0, 1, [], 0), (81, .getfield 135, 3, [12, 17, 1397], 0), (84, .aload_n 0, 1, [], 0), (85, .getfield 147, 3, [12, 18, 1398], 0), (88, .if_icmp .ge 10, 3, [98], 0), (91, .iconst (-1), 1, [], 0), (92, .aload_n 0, 1, [], 0), (93, .getfield 135, 3, [12, 17, 1397], 0), (96, .isub, 1, [], 0), (97, .ireturn, 1, [], 0), (98, .aload_n 0, 1, [], 0), (99, .iload_n 1, 1, [], 0), (100, .putfield 406, 3, [12, 44, 1424], 0), (103, .aload_n 0, 1, [], 0), (104, .invokevirtual 418, 3, [0, 1, 248, 12, 1887], 0), (107, .ireturn, 1, [], 0)])
def pj_m252 : pj_M := (yX12_shortBy, cX12_shortBy, 5, some (.int), [1919, 99, 1918, 73], [(0, .iconst 0, 1, [], 0), (1, .istore_n 2, 1, [], 0), (2, .aload_n 0, 1, [], 0), (3, .iconst 0, 1, [], 0), (4, .iconst 0, 1, [], 0), (5, .invokevirtual 325, 3, [0, 3, 207, 12, 1776], 0), (8, .istore_n 3, 1, [], 0), (9, .iconst 0, 1, [], 0), (10, .istore 4, 2, [], 0), (12, .iload 4, 2, [], 0), (14, .aload_n 0, 1, [], 0), (15, .getfield 123, 3, [12, 4, 1384], 0), (18, .if_icmp .ge 53, 3, [71], 0), (21, .iload_n 2, 1, [], 0), (22, .iload_n 3, 1, [], 0), (23, .iload 4, 2, [], 0), (25, .invokestatic 273, 3, [2, 2, 172, 0, 1780], 0), (28, .ifCond .eq 34, 3, [62], 0), (31, .aload_n 0, 1, [], 0), (32, .getfield 26, 3, [12, 12, 1392], 0), (35, .aload_n 0, 1, [], 0), (36, .iload 4, 2, [], 0), (38, .iconst 1, 1, [], 0), (39, .invokevirtual 296, 3, [0, 3, 206, 12, 1684], 0), (42, .iaload, 1, [], 0), (43, .aload_n 0, 1, [], 0), (44, .getfield 23, 3, [12, 11, 1391], 0), (47, .iload 4, 2, [], 0), (49, .iaload, 1, [], 0), (50, .iload_n 1, 1, [], 0), (51, .iadd, 1, [], 0), (52, .if_icmp .ge 10, 3, [62], 0), (55, .iconst 1, 1, [], 0), (56, .iload 4, 2, [], 0), (58, .ishl, 1, [], 0), (59, .goto 4, 3, [63], 0), (62, .iconst 0, 1, [], 0), (63, .ior, 1, [], 0), (64, .istore_n 2, 1, [], 0), (65, .iinc 4 1, 3, [], 0), (68, .goto (-56), 3, [12], 0), (71, .iload_n 2, 1, [], 0), (72, .ireturn, 1, [], 0)])
def pj_m253 : pj_M := (yX12_pairsBy, cX12_pairsBy, 2, some (.int), [1915, 99, 1914, 72], [(0, .aload_n 0, 1, [], 0), (1, .aload_n 0, 1, [], 0), (2, .iconst 0, 1, [], 0), (3, .iconst 0, 1, [], 0), (4, .invokevirtual 325, 3, [0, 3, 207, 12, 1776], 0), (7, .aload_n 0, 1, [], 0), (8, .iload_n 1, 1, [], 0), (9, .invokevirtual 421, 3, [0, 2, 252, 12, 1916], 0), (12, .iconst (-1), 1, [], 0), (13, .ixor, 1, [], 0), (14, .iand, 1, [], 0), (15, .invokevirtual 382, 3, [0, 2, 210, 12, 1829], 0), (18, .ireturn, 1, [], 0)])
def pj_m254 : pj_M := (yX12_flood, cX12_flood, 2, some (.int), [1910, 99, 1908, 1909], [(0, .aload_n 0, 1, [], 0), (1, .iconst 0, 1, [], 0), (2, .putfield 105, 3, [12, 0, 1380], 0), (5, .iload_n 1, 1, [], 0), (6, .i2l, 1, [], 0), (7, .lconst 0, 1, [], 0), (8, .ldc2_w 424, 3, [0, 1911], 9), (11, .invokestatic 119, 3, [2, 3, 171, 0, 1573], 0), (14, .ifCond .ne 5, 3, [19], 0), (17, .iconst (-1), 1, [], 0), (18, .ireturn, 1, [], 0), (19, .aload_n 0, 1, [], 0), (20, .iconst 0, 1, [], 0), (21, .putfield 113, 3, [12, 1, 1381], 0), (24, .aload_n 0, 1, [], 0), (25, .aload_n 0, 1, [], 0), (26, .iload_n 1, 1, [], 0), (27, .invokevirtual 426, 3, [0, 2, 253, 12, 1912], 0), (30, .i2l, 1, [], 0), (31, .invokevirtual 360, 3, [0, 2, 175, 12, 1796], 0), (34, .aload_n 0, 1, [], 0), (35, .iload_n 1, 1, [], 0), (36, .invokevirtual 421, 3, [0, 2, 252, 12, 1916], 0), (39, .ireturn, 1, [], 0)])
def pj_m255 : pj_M := (yX12_highest, cX12_highest, 3, some (.int), [1923, 99, 1921, 1922], [(0, .aload_n 0, 1, [], 0), (1, .iconst 0, 1, [], 0), (2, .putfield 105, 3, [12, 0, 1380], 0), (5, .aload_n 0, 1, [], 0), (6, .aload_n 0, 1, [], 0), (7, .iconst 0, 1, [], 0), (8, .iconst 0, 1, [], 0), (9, .invokevirtual 325, 3, [0, 3, 207, 12, 1776], 0), (12, .invokevirtual 382, 3, [0, 2, 210, 12, 1829], 0), (15, .istore_n 1, 1, [], 0), (16, .iconst 0, 1, [], 0), (17, .istore_n 2, 1, [], 0), (18, .iload_n 2, 1, [], 0), (19, .bipush 9, 2, [], 0), (21, .if_icmp .ge 20, 3, [41], 0), (24, .aload_n 0, 1, [], 0), (25, .iload_n 2, 1, [], 0), (26, .iconst 1, 1, [], 0), (27, .iadd, 1, [], 0), (28, .invokevirtual 426, 3, [0, 2, 253, 12, 1912], 0), (31, .iload_n 1, 1, [], 0), (32, .if_icmp .ne 9, 3, [41], 0), (35, .iinc 2 1, 3, [], 0), (38, .goto (-20), 3, [18], 0), (41, .aload_n 0, 1, [], 0), (42, .iconst 0, 1, [], 0), (43, .putfield 113, 3, [12, 1, 1381], 0), (46, .aload_n 0, 1, [], 0), (47, .iload_n 2, 1, [], 0), (48, .bipush 9, 2, [], 0), (50, .if_icmp .ne 9, 3, [59], 0), (53, .ldc2_w 429, 3, [0, 1924], (-1)), (56, .goto 11, 3, [67], 0), (59, .aload_n 0, 1, [], 0), (60, .iload_n 2, 1, [], 0), (61, .iconst 1, 1, [], 0), (62, .iadd, 1, [], 0), (63, .invokevirtual 426, 3, [0, 2, 253, 12, 1912], 0), (66, .i2l, 1, [], 0), (67, .invokevirtual 360, 3, [0, 2, 175, 12, 1796], 0), (70, .iload_n 2, 1, [], 0), (71, .ireturn, 1, [], 0)])
def pj_m256 : pj_M := (yX12_worst, cX12_worst, 8, some (.int), [1928, 99, 1926, 1927], [(0, .aload_n 0, 1, [], 0), (1, .iconst 0, 1, [], 0), (2, .putfield 105, 3, [12, 0, 1380], 0), (5, .iload_n 1, 1, [], 0), (6, .i2l, 1, [], 0), (7, .lconst 0, 1, [], 0), (8, .ldc2_w 308, 3, [0, 1709], 3), (11, .invokestatic 119, 3, [2, 3, 171, 0, 1573], 0), (14, .ifCond .ne 5, 3, [19], 0), (17, .iconst (-1), 1, [], 0), (18, .ireturn, 1, [], 0), (19, .aload_n 0, 1, [], 0), (20, .iconst 0, 1, [], 0), (21, .iconst 0, 1, [], 0), (22, .invokevirtual 325, 3, [0, 3, 207, 12, 1776], 0), (25, .istore_n 2, 1, [], 0), (26, .iload_n 1, 1, [], 0), (27, .iload_n 2, 1, [], 0), (28, .invokestatic 283, 3, [2, 1, 288, 0, 1841], 0), (31, .invokestatic 141, 3, [11, 0, 0, 0, 1584, 502, 100, 503], 0), (34, .istore_n 3, 1, [], 0), (35, .iconst 0, 1, [], 0), (36, .istore 4, 2, [], 0), (38, .sipush 1000, 3, [], 0), (41, .istore 5, 2, [], 0), (43, .iconst 0, 1, [], 0), (44, .istore 6, 2, [], 0), (46, .iload 6, 2, [], 0), (48, .iload_n 2, 1, [], 0), (49, .if_icmp .gt 64, 3, [113], 0), (52, .iload 6, 2, [], 0), (54, .iload_n 2, 1, [], 0), (55, .iconst (-1), 1, [], 0), (56, .ixor, 1, [], 0), (57, .iand, 1, [], 0), (58, .ifCond .ne 49, 3, [107], 0), (61, .iload 6, 2, [], 0), (63, .invokestatic 283, 3, [2, 1, 288, 0, 1841], 0), (66, .iload_n 3, 1, [], 0), (67, .if_icmp .ne 40, 3, [107], 0), (70, .aload_n 0, 1, [], 0), (71, .iload_n 2, 1, [], 0), (72, .iload 6, 2, [], 0), (74, .iconst (-1), 1, [], 0), (75, .ixor, 1, [], 0), (76, .iand, 1, [], 0), (77, .invokevirtual 382, 3, [0, 2, 210, 12, 1829], 0), (80, .istore 7, 2, [], 0), (82, .iload 7, 2, [], 0), (84, .iload 5, 2, [], 0), (86, .if_icmp .ge 8, 3, [94], 0), (89, .iload 6, 2, [], 0), (91, .goto 5, 3, [96], 0), (94, .iload 4, 2, [], 0), (96, .istore 4, 2, [], 0), (98, .iload 5, 2, [], 0), (100, .iload 7, 2, [], 0), (102, .invokestatic 141, 3, [11, 0, 0, 0, 1584, 502, 100, 503], 0), (105, .istore 5, 2, [], 0), (107, .iinc 6 1, 3, [], 0), (110, .goto (-64), 3, [46], 0), (113, .aload_n 0, 1, [], 0), (114, .iconst 0, 1, [], 0), (115, .putfield 113, 3, [12, 1, 1381], 0), (118, .aload_n 0, 1, [], 0), (119, .iload 4, 2, [], 0), (121, .i2l, 1, [], 0), (122, .invokevirtual 360, 3, [0, 2, 175, 12, 1796], 0), (125, .iload 5, 2, [], 0), (127, .ireturn, 1, [], 0)])
def pj_m257 : pj_M := (yX12_nextDown, cX12_nextDown, 6, some (.int), [1946, 99, 1945, 76], [(0, .iconst (-1), 1, [], 0), (1, .istore_n 2, 1, [], 0), (2, .iconst 0, 1, [], 0), (3, .istore_n 3, 1, [], 0), (4, .iload_n 3, 1, [], 0), (5, .aload_n 0, 1, [], 0), (6, .getfield 123, 3, [12, 4, 1384], 0), (9, .if_icmp .ge 93, 3, [102], 0), (12, .aload_n 0, 1, [], 0), (13, .getfield 20, 3, [12, 10, 1390], 0), (16, .iload_n 3, 1, [], 0), (17, .iaload, 1, [], 0), (18, .aload_n 0, 1, [], 0), (19, .getfield 20, 3, [12, 10, 1390], 0), (22, .iload_n 1, 1, [], 0), (23, .iaload, 1, [], 0), (24, .if_icmp .gt 23, 3, [47], 0), (27, .aload_n 0, 1, [], 0), (28, .getfield 20, 3, [12, 10, 1390], 0), (31, .iload_n 3, 1, [], 0), (32, .iaload, 1, [], 0), (33, .aload_n 0, 1, [], 0), (34, .getfield 20, 3, [12, 10, 1390], 0), (37, .iload_n 1, 1, [], 0), (38, .iaload, 1, [], 0), (39, .if_icmp .ne 12, 3, [51], 0), (42, .iload_n 3, 1, [], 0), (43, .iload_n 1, 1, [], 0), (44, .if_icmp .le 7, 3, [51], 0), (47, .iconst 1, 1, [], 0), (48, .goto 4, 3, [52], 0), (51, .iconst 0, 1, [], 0), (52, .istore 4, 2, [], 0), (54, .iload_n 2, 1, [], 0), (55, .ifCond .lt 18, 3, [73], 0), (58, .aload_n 0, 1, [], 0), (59, .getfield 20, 3, [12, 10, 1390], 0), (62, .iload_n 3, 1, [], 0), (63, .iaload, 1, [], 0), (64, .aload_n 0, 1, [], 0), (65, .getfield 20, 3, [12, 10, 1390], 0), (68, .iload_n 2, 1, [], 0), (69, .iaload, 1, [], 0), (70, .if_icmp .ge 7, 3, [77], 0), (73, .iconst 1, 1, [], 0), (74, .goto 4, 3, [78], 0), (77, .iconst 0, 1, [], 0), (78, .istore 5, 2, [], 0), (80, .iload 4, 2, [], 0), (82, .ifCond .eq 12, 3, [94], 0), (85, .iload 5, 2, [], 0), (87, .ifCond .eq 7, 3, [94], 0), (90, .iload_n 3, 1, [], 0), (91, .goto 4, 3, [95], 0), (94, .iload_n 2, 1, [], 0), (95, .istore_n 2, 1, [], 0), (96, .iinc 3 1, 3, [], 0), (99, .goto (-95), 3, [4], 0), (102, .iload_n 2, 1, [], 0), (103, .ireturn, 1, [], 0)])
def pj_m258 : pj_M := (yX12_isAt, cX12_isAt, 2, some (.boolean), [1938, 99, 1937, 74], [(0, .aload_n 0, 1, [], 0), (1, .getfield 32, 3, [12, 14, 1394], 0), (4, .iconst 4, 1, [], 0), (5, .iload_n 1, 1, [], 0), (6, .imul, 1, [], 0), (7, .iconst 0, 1, [], 0), (8, .iadd, 1, [], 0), (9, .iaload, 1, [], 0), (10, .ifCond .lt 20, 3, [30], 0), (13, .aload_n 0, 1, [], 0), (14, .getfield 32, 3, [12, 14, 1394], 0), (17, .iconst 4, 1, [], 0), (18, .iload_n 1, 1, [], 0), (19, .imul, 1, [], 0), (20, .iconst 1, 1, [], 0), (21, .iadd, 1, [], 0), (22, .iaload, 1, [], 0), (23, .ifCond .ne 7, 3, [30], 0), (26, .iconst 1, 1, [], 0), (27, .goto 4, 3, [31], 0), (30, .iconst 0, 1, [], 0), (31, .ireturn, 1, [], 0)])
def pj_m259 : pj_M := (yX12_drifts, cX12_drifts, 7, none, [1942, 99, 1941, 75], [(0, .aload_n 0, 1, [], 0), (1, .lconst 1, 1, [], 0), (2, .putfield 431, 3, [12, 47, 1427], 0), (5, .iconst 0, 1, [], 0), (6, .istore 4, 2, [], 0), (8, .iload 4, 2, [], 0), (10, .aload_n 0, 1, [], 0), (11, .getfield 123, 3, [12, 4, 1384], 0), (14, .if_icmp .ge 40, 3, [54], 0), (17, .aload_n 0, 1, [], 0), (18, .getfield 77, 3, [12, 45, 1425], 0), (21, .iload 4, 2, [], 0), (23, .iload 4, 2, [], 0), (25, .aload_n 0, 1, [], 0), (26, .getfield 32, 3, [12, 14, 1394], 0), (29, .iconst 4, 1, [], 0), (30, .iload_n 1, 1, [], 0), (31, .imul, 1, [], 0), (32, .iconst 0, 1, [], 0), (33, .iadd, 1, [], 0), (34, .iaload, 1, [], 0), (35, .if_icmp .ne 7, 3, [42], 0), (38, .iconst 1, 1, [], 0), (39, .goto 4, 3, [43], 0), (42, .iconst 0, 1, [], 0), (43, .invokestatic 150, 3, [2, 1, 173, 0, 1596], 0), (46, .i2l, 1, [], 0), (47, .lastore, 1, [], 0), (48, .iinc 4 1, 3, [], 0), (51, .goto (-43), 3, [8], 0), (54, .iconst 0, 1, [], 0), (55, .istore 4, 2, [], 0), (57, .iload 4, 2, [], 0), (59, .iload_n 3, 1, [], 0), (60, .if_icmp .ge 163, 3, [223], 0), (63, .aload_n 0, 1, [], 0), (64, .dup, 1, [], 0), (65, .getfield 431, 3, [12, 47, 1427], 0), (68, .ldc2_w 435, 3, [0, 1933], 10), (71, .lmul, 1, [], 0), (72, .putfield 431, 3, [12, 47, 1427], 0), (75, .iconst 0, 1, [], 0), (76, .istore 5, 2, [], 0), (78, .iload 5, 2, [], 0), (80, .aload_n 0, 1, [], 0), (81, .getfield 123, 3, [12, 4, 1384], 0), (84, .if_icmp .ge 17, 3, [101], 0), (87, .aload_n 0, 1, [], 0), (88, .getfield 80, 3, [12, 46, 1426], 0), (91, .iload 5, 2, [], 0), (93, .lconst 0, 1, [], 0), (94, .lastore, 1, [], 0), (95, .iinc 5 1, 3, [], 0), (98, .goto (-20), 3, [78], 0), (101, .iconst 0, 1, [], 0), (102, .istore 5, 2, [], 0), (104, .iload 5, 2, [], 0), (106, .aload_n 0, 1, [], 0), (107, .getfield 123, 3, [12, 4, 1384], 0), (110, .if_icmp .ge 75, 3, [185], 0), (113, .aload_n 0, 1, [], 0), (114, .iload 5, 2, [], 0), (116, .invokevirtual 437, 3, [0, 2, 257, 12, 1943], 0), (119, .istore 6, 2, [], 0), (121, .aload_n 0, 1, [], 0), (122, .getfield 80, 3, [12, 46, 1426], 0), (125, .iload 5, 2, [], 0), (127, .dup2, 1, [], 0), (128, .laload, 1, [], 0), (129, .aload_n 0, 1, [], 0), (130, .getfield 77, 3, [12, 45, 1425], 0), (133, .iload 5, 2, [], 0), (135, .laload, 1, [], 0), (136, .iload 6, 2, [], 0), (138, .ifCond .ge 8, 3, [146], 0), (141, .bipush 10, 2, [], 0), (143, .goto 7, 3, [150], 0), (146, .bipush 10, 2, [], 0), (148, .iload_n 2, 1, [], 0), (149, .isub, 1, [], 0), (150, .i2l, 1, [], 0), (151, .lmul, 1, [], 0), (152, .ladd, 1, [], 0), (153, .lastore, 1, [], 0), (154, .iload 6, 2, [], 0), (156, .ifCond .lt 23, 3, [179], 0), (159, .aload_n 0, 1, [], 0), (160, .getfield 80, 3, [12, 46, 1426], 0), (163, .iload 6, 2, [], 0), (165, .dup2, 1, [], 0), (166, .laload, 1, [], 0), (167, .aload_n 0, 1, [], 0), (168, .getfield 77, 3, [12, 45, 1425], 0), (171, .iload 5, 2, [], 0), (173, .laload, 1, [], 0), (174, .iload_n 2, 1, [], 0), (175, .i2l, 1, [], 0), (176, .lmul, 1, [], 0), (177, .ladd, 1, [], 0), (178, .lastore, 1, [], 0), (179, .iinc 5 1, 3, [], 0), (182, .goto (-78), 3, [104], 0), (185, .iconst 0, 1, [], 0), (186, .istore 5, 2, [], 0), (188, .iload 5, 2, [], 0), (190, .aload_n 0, 1, [], 0), (191, .getfield 123, 3, [12, 4, 1384], 0), (194, .if_icmp .ge 23, 3, [217], 0), (197, .aload_n 0, 1, [], 0), (198, .getfield 77, 3, [12, 45, 1425], 0), (201, .iload 5, 2, [], 0), (203, .aload_n 0, 1, [], 0), (204, .getfield 80, 3, [12, 46, 1426], 0), (207, .iload 5, 2, [], 0), (209, .laload, 1, [], 0), (210, .lastore, 1, [], 0), (211, .iinc 5 1, 3, [], 0), (214, .goto (-26), 3, [188], 0), (217, .iinc 4 1, 3, [], 0), (220, .goto (-163), 3, [57], 0), (223, .return_, 1, [], 0)])
def pj_m260 : pj_M := (yX12_tellsShare, cX12_tellsShare, 4, none, [1950, 99, 1949, 77], [(0, .aload_n 0, 1, [], 0), (1, .getfield 77, 3, [12, 45, 1425], 0), (4, .iload_n 1, 1, [], 0), (5, .laload, 1, [], 0), (6, .aload_n 0, 1, [], 0), (7, .getfield 431, 3, [12, 47, 1427], 0), (10, .invokestatic 109, 3, [2, 2, 174, 0, 1951], 0), (13, .lstore_n 2, 1, [], 0), (14, .aload_n 0, 1, [], 0), (15, .iconst 0, 1, [], 0), (16, .putfield 113, 3, [12, 1, 1381], 0), (19, .aload_n 0, 1, [], 0), (20, .aload_n 0, 1, [], 0), (21, .getfield 77, 3, [12, 45, 1425], 0), (24, .iload_n 1, 1, [], 0), (25, .laload, 1, [], 0), (26, .lload_n 2, 1, [], 0), (27, .ldiv, 1, [], 0), (28, .invokevirtual 360, 3, [0, 2, 175, 12, 1796], 0), (31, .aload_n 0, 1, [], 0), (32, .aload_n 0, 1, [], 0), (33, .getfield 431, 3, [12, 47, 1427], 0), (36, .lload_n 2, 1, [], 0), (37, .ldiv, 1, [], 0), (38, .invokevirtual 360, 3, [0, 2, 175, 12, 1796], 0), (41, .return_, 1, [], 0)])
def pj_m261 : pj_M := (yX12_drift, cX12_drift, 5, some (.int), [1932, 99, 1930, 1931], [(0, .aload_n 0, 1, [], 0), (1, .iconst 0, 1, [], 0), (2, .putfield 105, 3, [12, 0, 1380], 0), (5, .aload_n 0, 1, [], 0), (6, .iload_n 1, 1, [], 0), (7, .invokevirtual 300, 3, [0, 2, 178, 12, 1692], 0), (10, .ifCond .eq 36, 3, [46], 0), (13, .iload_n 2, 1, [], 0), (14, .i2l, 1, [], 0), (15, .lconst 0, 1, [], 0), (16, .ldc2_w 435, 3, [0, 1933], 10), (19, .invokestatic 119, 3, [2, 3, 171, 0, 1573], 0), (22, .ifCond .eq 24, 3, [46], 0), (25, .iload_n 3, 1, [], 0), (26, .i2l, 1, [], 0), (27, .lconst 0, 1, [], 0), (28, .ldc2_w 440, 3, [0, 1934], 12), (31, .invokestatic 119, 3, [2, 3, 171, 0, 1573], 0), (34, .ifCond .eq 12, 3, [46], 0), (37, .aload_n 0, 1, [], 0), (38, .iload 4, 2, [], 0), (40, .invokevirtual 288, 3, [0, 2, 177, 12, 1675], 0), (43, .ifCond .ne 5, 3, [48], 0), (46, .iconst (-1), 1, [], 0), (47, .ireturn, 1, [], 0), (48, .aload_n 0, 1, [], 0), (49, .iload_n 1, 1, [], 0), (50, .invokevirtual 442, 3, [0, 2, 258, 12, 1935], 0), (53, .ifCond .ne 6, 3, [59], 0), (56, .bipush (-2), 2, [], 0), (58, .ireturn, 1, [], 0), (59, .aload_n 0, 1, [], 0), (60, .iload_n 1, 1, [], 0), (61, .iload_n 2, 1, [], 0), (62, .iload_n 3, 1, [], 0), (63, .invokevirtual 445, 3, [0, 4, 259, 12, 1939], 0), (66, .aload_n 0, 1, [], 0), (67, .iload 4, 2, [], 0), (69, .invokevirtual 449, 3, [0, 2, 260, 12, 1947], 0), (72, .iconst 0, 1, [], 0), (73, .ireturn, 1, [], 0)])
def pj_m262 : pj_M := (yX12_seek, cX12_seek, 6, some (.int), [1957, 99, 1955, 1956], [(0, .aload_n 0, 1, [], 0), (1, .iconst 0, 1, [], 0), (2, .putfield 105, 3, [12, 0, 1380], 0), (5, .aload_n 0, 1, [], 0), (6, .iload_n 1, 1, [], 0), (7, .invokevirtual 300, 3, [0, 2, 178, 12, 1692], 0), (10, .ifCond .eq 27, 3, [37], 0), (13, .iload_n 2, 1, [], 0), (14, .i2l, 1, [], 0), (15, .lconst 0, 1, [], 0), (16, .ldc2_w 435, 3, [0, 1933], 10), (19, .invokestatic 119, 3, [2, 3, 171, 0, 1573], 0), (22, .ifCond .eq 15, 3, [37], 0), (25, .iload_n 3, 1, [], 0), (26, .i2l, 1, [], 0), (27, .lconst 0, 1, [], 0), (28, .ldc2_w 440, 3, [0, 1934], 12), (31, .invokestatic 119, 3, [2, 3, 171, 0, 1573], 0), (34, .ifCond .ne 5, 3, [39], 0), (37, .iconst (-1), 1, [], 0), (38, .ireturn, 1, [], 0), (39, .aload_n 0, 1, [], 0), (40, .iload_n 1, 1, [], 0), (41, .invokevirtual 442, 3, [0, 2, 258, 12, 1935], 0), (44, .ifCond .ne 6, 3, [50], 0), (47, .bipush (-2), 2, [], 0), (49, .ireturn, 1, [], 0), (50, .aload_n 0, 1, [], 0), (51, .iload_n 1, 1, [], 0), (52, .iload_n 2, 1, [], 0), (53, .iload_n 3, 1, [], 0), (54, .invokevirtual 445, 3, [0, 4, 259, 12, 1939], 0), (57, .aload_n 0, 1, [], 0), (58, .getfield 32, 3, [12, 14, 1394], 0), (61, .iconst 4, 1, [], 0), (62, .iload_n 1, 1, [], 0), (63, .imul, 1, [], 0), (64, .iconst 0, 1, [], 0), (65, .iadd, 1, [], 0), (66, .iaload, 1, [], 0), (67, .istore 4, 2, [], 0), (69, .aload_n 0, 1, [], 0), (70, .iload 4, 2, [], 0), (72, .invokevirtual 437, 3, [0, 2, 257, 12, 1943], 0), (75, .istore 5, 2, [], 0), (77, .iload 5, 2, [], 0), (79, .ifCond .lt 41, 3, [120], 0), (82, .aload_n 0, 1, [], 0), (83, .getfield 77, 3, [12, 45, 1425], 0), (86, .iload 5, 2, [], 0), (88, .laload, 1, [], 0), (89, .aload_n 0, 1, [], 0), (90, .getfield 77, 3, [12, 45, 1425], 0), (93, .iload 4, 2, [], 0), (95, .laload, 1, [], 0), (96, .lcmp, 1, [], 0), (97, .ifCond .le 8, 3, [105], 0), (100, .iload 5, 2, [], 0), (102, .goto 5, 3, [107], 0), (105, .iload 4, 2, [], 0), (107, .istore 4, 2, [], 0), (109, .aload_n 0, 1, [], 0), (110, .iload 5, 2, [], 0), (112, .invokevirtual 437, 3, [0, 2, 257, 12, 1943], 0), (115, .istore 5, 2, [], 0), (117, .goto (-40), 3, [77], 0), (120, .aload_n 0, 1, [], 0), (121, .iload 4, 2, [], 0), (123, .invokevirtual 449, 3, [0, 2, 260, 12, 1947], 0), (126, .iload 4, 2, [], 0), (128, .ireturn, 1, [], 0)])
def pj_m263 : pj_M := (yX12_greatestOf, cX12_greatestOf, 1, some (.int), [1964, 99, 1963, 0], [(0, .iload_n 0, 1, [], 0), (1, .iconst 2, 1, [], 0), (2, .if_icmp .ge 8, 3, [10], 0), (5, .bipush 18, 2, [], 0), (7, .goto 14, 3, [21], 0), (10, .iload_n 0, 1, [], 0), (11, .iconst 2, 1, [], 0), (12, .if_icmp .ne 8, 3, [20], 0), (15, .bipush 6, 2, [], 0), (17, .goto 4, 3, [21], 0), (20, .iconst 1, 1, [], 0), (21, .ireturn, 1, [], 0)])
def pj_m264 : pj_M := (yX12_found, cX12_found, 4, some (.int), [1961, 99, 1959, 1960], [(0, .aload_n 0, 1, [], 0), (1, .iconst 0, 1, [], 0), (2, .putfield 105, 3, [12, 0, 1380], 0), (5, .iload_n 1, 1, [], 0), (6, .i2l, 1, [], 0), (7, .lconst 0, 1, [], 0), (8, .ldc2_w 308, 3, [0, 1709], 3), (11, .invokestatic 119, 3, [2, 3, 171, 0, 1573], 0), (14, .ifCond .eq 36, 3, [50], 0), (17, .iload_n 2, 1, [], 0), (18, .i2l, 1, [], 0), (19, .lconst 0, 1, [], 0), (20, .iload_n 1, 1, [], 0), (21, .invokestatic 452, 3, [2, 1, 263, 0, 1962], 0), (24, .i2l, 1, [], 0), (25, .invokestatic 119, 3, [2, 3, 171, 0, 1573], 0), (28, .ifCond .eq 22, 3, [50], 0), (31, .iload_n 3, 1, [], 0), (32, .i2l, 1, [], 0), (33, .lconst 0, 1, [], 0), (34, .lconst 1, 1, [], 0), (35, .invokestatic 119, 3, [2, 3, 171, 0, 1573], 0), (38, .ifCond .eq 12, 3, [50], 0), (41, .aload_n 0, 1, [], 0), (42, .getfield 455, 3, [12, 48, 1428], 0), (45, .bipush 12, 2, [], 0), (47, .if_icmp .ne 5, 3, [52], 0), (50, .iconst (-1), 1, [], 0), (51, .ireturn, 1, [], 0), (52, .aload_n 0, 1, [], 0), (53, .getfield 83, 3, [12, 49, 1429], 0), (56, .aload_n 0, 1, [], 0), (57, .getfield 455, 3, [12, 48, 1428], 0), (60, .iload_n 1, 1, [], 0), (61, .iastore, 1, [], 0), (62, .aload_n 0, 1, [], 0), (63, .getfield 86, 3, [12, 50, 1430], 0), (66, .aload_n 0, 1, [], 0), (67, .getfield 455, 3, [12, 48, 1428], 0), (70, .iload_n 2, 1, [], 0), (71, .iastore, 1, [], 0), (72, .aload_n 0, 1, [], 0), (73, .getfield 89, 3, [12, 51, 1431], 0), (76, .aload_n 0, 1, [], 0), (77, .getfield 455, 3, [12, 48, 1428], 0), (80, .iload_n 3, 1, [], 0), (81, .iastore, 1, [], 0), (82, .aload_n 0, 1, [], 0), (83, .dup, 1, [], 0), (84, .getfield 455, 3, [12, 48, 1428], 0), (87, .iconst 1, 1, [], 0), (88, .iadd, 1, [], 0), (89, .putfield 455, 3, [12, 48, 1428], 0), (92, .aload_n 0, 1, [], 0), (93, .getfield 455, 3, [12, 48, 1428], 0), (96, .ireturn, 1, [], 0)])
def pj_m265 : pj_M := (yX12_forget, cX12_forget, 2, some (.int), [1968, 99, 1966, 1967], [(0, .aload_n 0, 1, [], 0), (1, .iconst 0, 1, [], 0), (2, .putfield 105, 3, [12, 0, 1380], 0), (5, .aload_n 0, 1, [], 0), (6, .getfield 455, 3, [12, 48, 1428], 0), (9, .istore_n 1, 1, [], 0), (10, .aload_n 0, 1, [], 0), (11, .iconst 0, 1, [], 0), (12, .putfield 455, 3, [12, 48, 1428], 0), (15, .iload_n 1, 1, [], 0), (16, .ireturn, 1, [], 0)])
def pj_m266 : pj_M := (yX12_isSo, cX12_isSo, 5, some (.boolean), [1980, 99, 1979, 79], [(0, .aload_n 0, 1, [], 0), (1, .getfield 32, 3, [12, 14, 1394], 0), (4, .iconst 4, 1, [], 0), (5, .iload_n 1, 1, [], 0), (6, .imul, 1, [], 0), (7, .iconst 3, 1, [], 0), (8, .iadd, 1, [], 0), (9, .iaload, 1, [], 0), (10, .istore 4, 2, [], 0), (12, .iload_n 2, 1, [], 0), (13, .tableswitch 77 0 2 #[27, 43, 55], 27, [], 0), (40, .aload_n 0, 1, [], 0), (41, .getfield 26, 3, [12, 12, 1392], 0), (44, .iload_n 1, 1, [], 0), (45, .iaload, 1, [], 0), (46, .iload_n 3, 1, [], 0), (47, .if_icmp .lt 7, 3, [54], 0), (50, .iconst 1, 1, [], 0), (51, .goto 4, 3, [55], 0), (54, .iconst 0, 1, [], 0), (55, .ireturn, 1, [], 0), (56, .iload 4, 2, [], 0), (58, .iload_n 3, 1, [], 0), (59, .if_icmp .lt 7, 3, [66], 0), (62, .iconst 1, 1, [], 0), (63, .goto 4, 3, [67], 0), (66, .iconst 0, 1, [], 0), (67, .ireturn, 1, [], 0), (68, .aload_n 0, 1, [], 0), (69, .getfield 26, 3, [12, 12, 1392], 0), (72, .iload_n 1, 1, [], 0), (73, .iaload, 1, [], 0), (74, .iload 4, 2, [], 0), (76, .iadd, 1, [], 0), (77, .bipush 7, 2, [], 0), (79, .irem, 1, [], 0), (80, .iload_n 3, 1, [], 0), (81, .if_icmp .ne 7, 3, [88], 0), (84, .iconst 1, 1, [], 0), (85, .goto 4, 3, [89], 0), (88, .iconst 0, 1, [], 0), (89, .ireturn, 1, [], 0), (90, .iload_n 1, 1, [], 0), (91, .iconst 2, 1, [], 0), (92, .irem, 1, [], 0), (93, .iload_n 3, 1, [], 0), (94, .if_icmp .ne 7, 3, [101], 0), (97, .iconst 1, 1, [], 0), (98, .goto 4, 3, [102], 0), (101, .iconst 0, 1, [], 0), (102, .ireturn, 1, [], 0)])
def pj_m267 : pj_M := (yX12_fitting, cX12_fitting, 5, some (.int), [1976, 99, 1975, 78], [(0, .iconst 0, 1, [], 0), (1, .istore_n 1, 1, [], 0), (2, .iconst 0, 1, [], 0), (3, .istore_n 2, 1, [], 0), (4, .iload_n 2, 1, [], 0), (5, .aload_n 0, 1, [], 0), (6, .getfield 126, 3, [12, 5, 1385], 0), (9, .if_icmp .ge 85, 3, [94], 0), (12, .iconst 1, 1, [], 0), (13, .istore_n 3, 1, [], 0), (14, .iconst 0, 1, [], 0), (15, .istore 4, 2, [], 0), (17, .iload 4, 2, [], 0), (19, .aload_n 0, 1, [], 0), (20, .getfield 455, 3, [12, 48, 1428], 0), (23, .if_icmp .ge 51, 3, [74], 0), (26, .iload_n 3, 1, [], 0), (27, .ifCond .eq 39, 3, [66], 0), (30, .aload_n 0, 1, [], 0), (31, .iload_n 2, 1, [], 0), (32, .aload_n 0, 1, [], 0), (33, .getfield 83, 3, [12, 49, 1429], 0), (36, .iload 4, 2, [], 0), (38, .iaload, 1, [], 0), (39, .aload_n 0, 1, [], 0), (40, .getfield 86, 3, [12, 50, 1430], 0), (43, .iload 4, 2, [], 0), (45, .iaload, 1, [], 0), (46, .invokevirtual 458, 3, [0, 4, 266, 12, 1977], 0), (49, .invokestatic 150, 3, [2, 1, 173, 0, 1596], 0), (52, .aload_n 0, 1, [], 0), (53, .getfield 89, 3, [12, 51, 1431], 0), (56, .iload 4, 2, [], 0), (58, .iaload, 1, [], 0), (59, .if_icmp .ne 7, 3, [66], 0), (62, .iconst 1, 1, [], 0), (63, .goto 4, 3, [67], 0), (66, .iconst 0, 1, [], 0), (67, .istore_n 3, 1, [], 0), (68, .iinc 4 1, 3, [], 0), (71, .goto (-54), 3, [17], 0), (74, .iload_n 1, 1, [], 0), (75, .iload_n 3, 1, [], 0), (76, .ifCond .eq 9, 3, [85], 0), (79, .iconst 1, 1, [], 0), (80, .iload_n 2, 1, [], 0), (81, .ishl, 1, [], 0), (82, .goto 4, 3, [86], 0), (85, .iconst 0, 1, [], 0), (86, .ior, 1, [], 0), (87, .istore_n 1, 1, [], 0), (88, .iinc 2 1, 3, [], 0), (91, .goto (-87), 3, [4], 0), (94, .iload_n 1, 1, [], 0), (95, .ireturn, 1, [], 0)])
def pj_m268 : pj_M := (yX12_stolen, cX12_stolen, 2, some (.int), [1972, 99, 1970, 1971], [(0, .aload_n 0, 1, [], 0), (1, .iconst 0, 1, [], 0), (2, .putfield 105, 3, [12, 0, 1380], 0), (5, .aload_n 0, 1, [], 0), (6, .invokevirtual 461, 3, [0, 1, 267, 12, 1973], 0), (9, .istore_n 1, 1, [], 0), (10, .aload_n 0, 1, [], 0), (11, .iconst 0, 1, [], 0), (12, .putfield 113, 3, [12, 1, 1381], 0), (15, .aload_n 0, 1, [], 0), (16, .iload_n 1, 1, [], 0), (17, .invokestatic 283, 3, [2, 1, 288, 0, 1841], 0), (20, .i2l, 1, [], 0), (21, .invokevirtual 360, 3, [0, 2, 175, 12, 1796], 0), (24, .iload_n 1, 1, [], 0), (25, .ireturn, 1, [], 0)])
def pj_m269 : pj_M := (yX12_ask, cX12_ask, 8, some (.int), [1984, 99, 1982, 1983], [(0, .aload_n 0, 1, [], 0), (1, .iconst 0, 1, [], 0), (2, .putfield 105, 3, [12, 0, 1380], 0), (5, .aload_n 0, 1, [], 0), (6, .invokevirtual 461, 3, [0, 1, 267, 12, 1973], 0), (9, .istore_n 1, 1, [], 0), (10, .iload_n 1, 1, [], 0), (11, .ifCond .ne 6, 3, [17], 0), (14, .bipush (-2), 2, [], 0), (16, .ireturn, 1, [], 0), (17, .iconst (-1), 1, [], 0), (18, .istore_n 2, 1, [], 0), (19, .sipush 1000, 3, [], 0), (22, .istore_n 3, 1, [], 0), (23, .iconst 0, 1, [], 0), (24, .istore 4, 2, [], 0), (26, .iload 4, 2, [], 0), (28, .iconst 4, 1, [], 0), (29, .if_icmp .ge 124, 3, [153], 0), (32, .iconst 0, 1, [], 0), (33, .istore 5, 2, [], 0), (35, .iload 5, 2, [], 0), (37, .iload 4, 2, [], 0), (39, .invokestatic 452, 3, [2, 1, 263, 0, 1962], 0), (42, .if_icmp .gt 105, 3, [147], 0), (45, .iconst 0, 1, [], 0), (46, .istore 6, 2, [], 0), (48, .iconst 0, 1, [], 0), (49, .istore 7, 2, [], 0), (51, .iload 7, 2, [], 0), (53, .aload_n 0, 1, [], 0), (54, .getfield 126, 3, [12, 5, 1385], 0), (57, .if_icmp .ge 44, 3, [101], 0), (60, .iload 6, 2, [], 0), (62, .iload_n 1, 1, [], 0), (63, .iload 7, 2, [], 0), (65, .invokestatic 273, 3, [2, 2, 172, 0, 1780], 0), (68, .ifCond .eq 20, 3, [88], 0), (71, .aload_n 0, 1, [], 0), (72, .iload 7, 2, [], 0), (74, .iload 4, 2, [], 0), (76, .iload 5, 2, [], 0), (78, .invokevirtual 458, 3, [0, 4, 266, 12, 1977], 0), (81, .ifCond .eq 7, 3, [88], 0), (84, .iconst 1, 1, [], 0), (85, .goto 4, 3, [89], 0), (88, .iconst 0, 1, [], 0), (89, .invokestatic 150, 3, [2, 1, 173, 0, 1596], 0), (92, .iadd, 1, [], 0), (93, .istore 6, 2, [], 0), (95, .iinc 7 1, 3, [], 0), (98, .goto (-47), 3, [51], 0), (101, .iload 6, 2, [], 0), (103, .iload_n 1, 1, [], 0), (104, .invokestatic 283, 3, [2, 1, 288, 0, 1841], 0), (107, .iload 6, 2, [], 0), (109, .isub, 1, [], 0), (110, .invokestatic 261, 3, [10, 0, 0, 0, 1710, 686, 100, 687], 0), (113, .istore 7, 2, [], 0), (115, .iload 7, 2, [], 0), (117, .iload_n 3, 1, [], 0), (118, .if_icmp .ge 14, 3, [132], 0), (121, .bipush 19, 2, [], 0), (123, .iload 4, 2, [], 0), (125, .imul, 1, [], 0), (126, .iload 5, 2, [], 0), (128, .iadd, 1, [], 0), (129, .goto 4, 3, [133], 0), (132, .iload_n 2, 1, [], 0), (133, .istore_n 2, 1, [], 0), (134, .iload_n 3, 1, [], 0), (135, .iload 7, 2, [], 0), (137, .invokestatic 141, 3, [11, 0, 0, 0, 1584, 502, 100, 503], 0), (140, .istore_n 3, 1, [], 0), (141, .iinc 5 1, 3, [], 0), (144, .goto (-109), 3, [35], 0), (147, .iinc 4 1, 3, [], 0), (150, .goto (-124), 3, [26], 0), (153, .aload_n 0, 1, [], 0), (154, .iconst 0, 1, [], 0), (155, .putfield 113, 3, [12, 1, 1381], 0), (158, .aload_n 0, 1, [], 0), (159, .iload_n 3, 1, [], 0), (160, .i2l, 1, [], 0), (161, .invokevirtual 360, 3, [0, 2, 175, 12, 1796], 0), (164, .iload_n 2, 1, [], 0), (165, .ireturn, 1, [], 0)])
def pj_m270 : pj_M := (yX12_sharesBy, cX12_sharesBy, 9, none, [1997, 99, 1996, 81], [(0, .aload_n 0, 1, [], 0), (1, .iconst 0, 1, [], 0), (2, .putfield 464, 3, [12, 52, 1432], 0), (5, .aload_n 0, 1, [], 0), (6, .iconst 0, 1, [], 0), (7, .putfield 467, 3, [12, 53, 1433], 0), (10, .aload_n 0, 1, [], 0), (11, .iconst 0, 1, [], 0), (12, .putfield 470, 3, [12, 54, 1434], 0), (15, .aload_n 0, 1, [], 0), (16, .iconst 0, 1, [], 0), (17, .putfield 473, 3, [12, 55, 1435], 0), (20, .iconst 0, 1, [], 0), (21, .istore 5, 2, [], 0), (23, .iload 5, 2, [], 0), (25, .iload_n 3, 1, [], 0), (26, .if_icmp .ge 156, 3, [182], 0), (29, .iload 5, 2, [], 0), (31, .iload 4, 2, [], 0), (33, .idiv, 1, [], 0), (34, .iconst 2, 1, [], 0), (35, .irem, 1, [], 0), (36, .ifCond .ne 7, 3, [43], 0), (39, .iconst 1, 1, [], 0), (40, .goto 4, 3, [44], 0), (43, .iconst 0, 1, [], 0), (44, .istore 6, 2, [], 0), (46, .iload_n 1, 1, [], 0), (47, .iload 5, 2, [], 0), (49, .bipush 24, 2, [], 0), (51, .irem, 1, [], 0), (52, .invokestatic 273, 3, [2, 2, 172, 0, 1780], 0), (55, .istore 7, 2, [], 0), (57, .iload_n 2, 1, [], 0), (58, .iload 5, 2, [], 0), (60, .bipush 24, 2, [], 0), (62, .irem, 1, [], 0), (63, .invokestatic 273, 3, [2, 2, 172, 0, 1780], 0), (66, .istore 8, 2, [], 0), (68, .aload_n 0, 1, [], 0), (69, .dup, 1, [], 0), (70, .getfield 464, 3, [12, 52, 1432], 0), (73, .iload 6, 2, [], 0), (75, .ifCond .eq 12, 3, [87], 0), (78, .iload 7, 2, [], 0), (80, .ifCond .eq 7, 3, [87], 0), (83, .iconst 1, 1, [], 0), (84, .goto 4, 3, [88], 0), (87, .iconst 0, 1, [], 0), (88, .invokestatic 150, 3, [2, 1, 173, 0, 1596], 0), (91, .iadd, 1, [], 0), (92, .putfield 464, 3, [12, 52, 1432], 0), (95, .aload_n 0, 1, [], 0), (96, .dup, 1, [], 0), (97, .getfield 467, 3, [12, 53, 1433], 0), (100, .iload 6, 2, [], 0), (102, .ifCond .ne 12, 3, [114], 0), (105, .iload 8, 2, [], 0), (107, .ifCond .eq 7, 3, [114], 0), (110, .iconst 1, 1, [], 0), (111, .goto 4, 3, [115], 0), (114, .iconst 0, 1, [], 0), (115, .invokestatic 150, 3, [2, 1, 173, 0, 1596], 0), (118, .iadd, 1, [], 0), (119, .putfield 467, 3, [12, 53, 1433], 0), (122, .aload_n 0, 1, [], 0), (123, .dup, 1, [], 0), (124, .getfield 470, 3, [12, 54, 1434], 0), (127, .iload 6, 2, [], 0), (129, .ifCond .ne 12, 3, [141], 0), (132, .iload 7, 2, [], 0), (134, .ifCond .eq 7, 3, [141], 0), (137, .iconst 1, 1, [], 0), (138, .goto 4, 3, [142], 0), (141, .iconst 0, 1, [], 0), (142, .invokestatic 150, 3, [2, 1, 173, 0, 1596], 0), (145, .iadd, 1, [], 0), (146, .putfield 470, 3, [12, 54, 1434], 0), (149, .aload_n 0, 1, [], 0), (150, .dup, 1, [], 0), (151, .getfield 473, 3, [12, 55, 1435], 0), (154, .iload 6, 2, [], 0), (156, .ifCond .eq 12, 3, [168], 0), (159, .iload 8, 2, [], 0), (161, .ifCond .eq 7, 3, [168], 0), (164, .iconst 1, 1, [], 0), (165, .goto 4, 3, [169], 0), (168, .iconst 0, 1, [], 0), (169, .invokestatic 150, 3, [2, 1, 173, 0, 1596], 0), (172, .iadd, 1, [], 0), (173, .putfield 473, 3, [12, 55, 1435], 0), (176, .iinc 5 1, 3, [], 0), (179, .goto (-156), 3, [23], 0), (182, .return_, 1, [], 0)])
def pj_m271 : pj_M := (yX12_canShare, cX12_canShare, 5, some (.boolean), [1992, 99, 1991, 80], [(0, .ldc_w 476, 3, [0, 1993], 16777215), (3, .istore 4, 2, [], 0), (5, .iload_n 1, 1, [], 0), (6, .i2l, 1, [], 0), (7, .lconst 0, 1, [], 0), (8, .iload 4, 2, [], 0), (10, .i2l, 1, [], 0), (11, .invokestatic 119, 3, [2, 3, 171, 0, 1573], 0), (14, .ifCond .eq 31, 3, [45], 0), (17, .iload_n 2, 1, [], 0), (18, .i2l, 1, [], 0), (19, .lconst 0, 1, [], 0), (20, .iload 4, 2, [], 0), (22, .i2l, 1, [], 0), (23, .invokestatic 119, 3, [2, 3, 171, 0, 1573], 0), (26, .ifCond .eq 19, 3, [45], 0), (29, .iload_n 3, 1, [], 0), (30, .i2l, 1, [], 0), (31, .lconst 1, 1, [], 0), (32, .ldc2_w 154, 3, [0, 1624], 48), (35, .invokestatic 119, 3, [2, 3, 171, 0, 1573], 0), (38, .ifCond .eq 7, 3, [45], 0), (41, .iconst 1, 1, [], 0), (42, .goto 4, 3, [46], 0), (45, .iconst 0, 1, [], 0), (46, .ireturn, 1, [], 0)])
def pj_m272 : pj_M := (yX12_share, cX12_share, 5, some (.int), [1988, 99, 1986, 1987], [(0, .aload_n 0, 1, [], 0), (1, .iconst 0, 1, [], 0), (2, .putfield 105, 3, [12, 0, 1380], 0), (5, .aload_n 0, 1, [], 0), (6, .iload_n 1, 1, [], 0), (7, .iload_n 2, 1, [], 0), (8, .iload_n 3, 1, [], 0), (9, .invokevirtual 477, 3, [0, 4, 271, 12, 1989], 0), (12, .ifCond .eq 16, 3, [28], 0), (15, .iload 4, 2, [], 0), (17, .i2l, 1, [], 0), (18, .lconst 1, 1, [], 0), (19, .ldc2_w 154, 3, [0, 1624], 48), (22, .invokestatic 119, 3, [2, 3, 171, 0, 1573], 0), (25, .ifCond .ne 5, 3, [30], 0), (28, .iconst (-1), 1, [], 0), (29, .ireturn, 1, [], 0), (30, .aload_n 0, 1, [], 0), (31, .iload_n 1, 1, [], 0), (32, .iload_n 2, 1, [], 0), (33, .iload_n 3, 1, [], 0), (34, .iload 4, 2, [], 0), (36, .invokevirtual 480, 3, [0, 5, 270, 12, 1994], 0), (39, .aload_n 0, 1, [], 0), (40, .iconst 0, 1, [], 0), (41, .putfield 113, 3, [12, 1, 1381], 0), (44, .aload_n 0, 1, [], 0), (45, .aload_n 0, 1, [], 0), (46, .getfield 470, 3, [12, 54, 1434], 0), (49, .i2l, 1, [], 0), (50, .invokevirtual 360, 3, [0, 2, 175, 12, 1796], 0), (53, .aload_n 0, 1, [], 0), (54, .aload_n 0, 1, [], 0), (55, .getfield 473, 3, [12, 55, 1435], 0), (58, .i2l, 1, [], 0), (59, .invokevirtual 360, 3, [0, 2, 175, 12, 1796], 0), (62, .aload_n 0, 1, [], 0), (63, .getfield 464, 3, [12, 52, 1432], 0), (66, .aload_n 0, 1, [], 0), (67, .getfield 467, 3, [12, 53, 1433], 0), (70, .iadd, 1, [], 0), (71, .ireturn, 1, [], 0)])
def pj_m273 : pj_M := (yX12_turn, cX12_turn, 7, some (.int), [2001, 99, 1999, 2000], [(0, .aload_n 0, 1, [], 0), (1, .iconst 0, 1, [], 0), (2, .putfield 105, 3, [12, 0, 1380], 0), (5, .aload_n 0, 1, [], 0), (6, .iload_n 1, 1, [], 0), (7, .iload_n 2, 1, [], 0), (8, .iload_n 3, 1, [], 0), (9, .invokevirtual 477, 3, [0, 4, 271, 12, 1989], 0), (12, .ifCond .ne 5, 3, [17], 0), (15, .iconst (-1), 1, [], 0), (16, .ireturn, 1, [], 0), (17, .iconst (-1), 1, [], 0), (18, .istore 4, 2, [], 0), (20, .iconst (-1), 1, [], 0), (21, .istore 5, 2, [], 0), (23, .iconst 1, 1, [], 0), (24, .istore 6, 2, [], 0), (26, .iload 6, 2, [], 0), (28, .bipush 24, 2, [], 0), (30, .if_icmp .gt 57, 3, [87], 0), (33, .aload_n 0, 1, [], 0), (34, .iload_n 1, 1, [], 0), (35, .iload_n 2, 1, [], 0), (36, .iload_n 3, 1, [], 0), (37, .iload 6, 2, [], 0), (39, .invokevirtual 480, 3, [0, 5, 270, 12, 1994], 0), (42, .aload_n 0, 1, [], 0), (43, .getfield 464, 3, [12, 52, 1432], 0), (46, .aload_n 0, 1, [], 0), (47, .getfield 467, 3, [12, 53, 1433], 0), (50, .iadd, 1, [], 0), (51, .iload 5, 2, [], 0), (53, .if_icmp .le 8, 3, [61], 0), (56, .iload 6, 2, [], 0), (58, .goto 5, 3, [63], 0), (61, .iload 4, 2, [], 0), (63, .istore 4, 2, [], 0), (65, .iload 5, 2, [], 0), (67, .aload_n 0, 1, [], 0), (68, .getfield 464, 3, [12, 52, 1432], 0), (71, .aload_n 0, 1, [], 0), (72, .getfield 467, 3, [12, 53, 1433], 0), (75, .iadd, 1, [], 0), (76, .invokestatic 261, 3, [10, 0, 0, 0, 1710, 686, 100, 687], 0), (79, .istore 5, 2, [], 0), (81, .iinc 6 1, 3, [], 0), (84, .goto (-58), 3, [26], 0), (87, .aload_n 0, 1, [], 0), (88, .iconst 0, 1, [], 0), (89, .putfield 113, 3, [12, 1, 1381], 0), (92, .aload_n 0, 1, [], 0), (93, .iload 5, 2, [], 0), (95, .i2l, 1, [], 0), (96, .invokevirtual 360, 3, [0, 2, 175, 12, 1796], 0), (99, .iload 4, 2, [], 0), (101, .ireturn, 1, [], 0)])
def pj_m274 : pj_M := (yX12_earns, cX12_earns, 3, some (.int), [2011, 99, 2010, 0], [(0, .iload_n 0, 1, [], 0), (1, .iload_n 1, 1, [], 0), (2, .if_icmp .ge 9, 3, [11], 0), (5, .iload_n 0, 1, [], 0), (6, .iload_n 2, 1, [], 0), (7, .isub, 1, [], 0), (8, .goto 17, 3, [25], 0), (11, .iload_n 0, 1, [], 0), (12, .iload_n 1, 1, [], 0), (13, .if_icmp .ne 11, 3, [24], 0), (16, .iload_n 0, 1, [], 0), (17, .iload_n 2, 1, [], 0), (18, .isub, 1, [], 0), (19, .iconst 2, 1, [], 0), (20, .idiv, 1, [], 0), (21, .goto 4, 3, [25], 0), (24, .iconst 0, 1, [], 0), (25, .ireturn, 1, [], 0)])
def pj_m275 : pj_M := (yX12_isRest, cX12_isRest, 5, some (.boolean), [2008, 99, 2007, 0], [(0, .iconst 1, 1, [], 0), (1, .istore_n 3, 1, [], 0), (2, .iconst 1, 1, [], 0), (3, .istore 4, 2, [], 0), (5, .iload 4, 2, [], 0), (7, .bipush 9, 2, [], 0), (9, .if_icmp .gt 35, 3, [44], 0), (12, .iload_n 3, 1, [], 0), (13, .ifCond .eq 23, 3, [36], 0), (16, .iload 4, 2, [], 0), (18, .iload_n 1, 1, [], 0), (19, .iload_n 2, 1, [], 0), (20, .invokestatic 484, 3, [2, 3, 274, 0, 2009], 0), (23, .iload_n 0, 1, [], 0), (24, .iload_n 1, 1, [], 0), (25, .iload_n 2, 1, [], 0), (26, .invokestatic 484, 3, [2, 3, 274, 0, 2009], 0), (29, .if_icmp .gt 7, 3, [36], 0), (32, .iconst 1, 1, [], 0), (33, .goto 4, 3, [37], 0), (36, .iconst 0, 1, [], 0), (37, .istore_n 3, 1, [], 0), (38, .iinc 4 1, 3, [], 0), (41, .goto (-36), 3, [5], 0), (44, .iload_n 3, 1, [], 0), (45, .ireturn, 1, [], 0)])
def pj_m276 : pj_M := (yX12_rests, cX12_rests, 5, some (.int), [2005, 99, 2003, 2004], [(0, .aload_n 0, 1, [], 0), (1, .iconst 0, 1, [], 0), (2, .putfield 105, 3, [12, 0, 1380], 0), (5, .iload_n 1, 1, [], 0), (6, .i2l, 1, [], 0), (7, .lconst 0, 1, [], 0), (8, .ldc2_w 424, 3, [0, 1911], 9), (11, .invokestatic 119, 3, [2, 3, 171, 0, 1573], 0), (14, .ifCond .ne 5, 3, [19], 0), (17, .iconst (-1), 1, [], 0), (18, .ireturn, 1, [], 0), (19, .iconst 0, 1, [], 0), (20, .istore_n 2, 1, [], 0), (21, .aload_n 0, 1, [], 0), (22, .iconst 0, 1, [], 0), (23, .putfield 113, 3, [12, 1, 1381], 0), (26, .iconst 1, 1, [], 0), (27, .istore_n 3, 1, [], 0), (28, .iload_n 3, 1, [], 0), (29, .bipush 9, 2, [], 0), (31, .if_icmp .gt 65, 3, [96], 0), (34, .iconst 1, 1, [], 0), (35, .istore 4, 2, [], 0), (37, .iload 4, 2, [], 0), (39, .bipush 9, 2, [], 0), (41, .if_icmp .gt 49, 3, [90], 0), (44, .iload_n 3, 1, [], 0), (45, .iload 4, 2, [], 0), (47, .iload_n 1, 1, [], 0), (48, .invokestatic 487, 3, [2, 3, 275, 0, 2006], 0), (51, .ifCond .eq 33, 3, [84], 0), (54, .iload 4, 2, [], 0), (56, .iload_n 3, 1, [], 0), (57, .iload_n 1, 1, [], 0), (58, .invokestatic 487, 3, [2, 3, 275, 0, 2006], 0), (61, .ifCond .eq 23, 3, [84], 0), (64, .iload_n 2, 1, [], 0), (65, .ifCond .ne 16, 3, [81], 0), (68, .aload_n 0, 1, [], 0), (69, .iload_n 3, 1, [], 0), (70, .i2l, 1, [], 0), (71, .invokevirtual 360, 3, [0, 2, 175, 12, 1796], 0), (74, .aload_n 0, 1, [], 0), (75, .iload 4, 2, [], 0), (77, .i2l, 1, [], 0), (78, .invokevirtual 360, 3, [0, 2, 175, 12, 1796], 0), (81, .iinc 2 1, 3, [], 0), (84, .iinc 4 1, 3, [], 0), (87, .goto (-50), 3, [37], 0), (90, .iinc 3 1, 3, [], 0), (93, .goto (-65), 3, [28], 0), (96, .iload_n 2, 1, [], 0), (97, .ireturn, 1, [], 0)])
def pj_m277 : pj_M := (yX12_homeIn, cX12_homeIn, 4, some (.int), [2019, 99, 2018, 82], [(0, .aload_n 0, 1, [], 0), (1, .getfield 32, 3, [12, 14, 1394], 0), (4, .iconst 4, 1, [], 0), (5, .iload_n 1, 1, [], 0), (6, .imul, 1, [], 0), (7, .iconst 0, 1, [], 0), (8, .iadd, 1, [], 0), (9, .iaload, 1, [], 0), (10, .istore_n 2, 1, [], 0), (11, .aload_n 0, 1, [], 0), (12, .getfield 32, 3, [12, 14, 1394], 0), (15, .iconst 4, 1, [], 0), (16, .iload_n 1, 1, [], 0), (17, .imul, 1, [], 0), (18, .iconst 1, 1, [], 0), (19, .iadd, 1, [], 0), (20, .iaload, 1, [], 0), (21, .istore_n 3, 1, [], 0), (22, .iload_n 2, 1, [], 0), (23, .ifCond .ge 15, 3, [38], 0), (26, .aload_n 0, 1, [], 0), (27, .getfield 32, 3, [12, 14, 1394], 0), (30, .bipush 30, 2, [], 0), (32, .iaload, 1, [], 0), (33, .iload_n 3, 1, [], 0), (34, .iadd, 1, [], 0), (35, .goto 27, 3, [62], 0), (38, .iload_n 3, 1, [], 0), (39, .ifCond .le 9, 3, [48], 0), (42, .ldc_w 490, 3, [0, 2020], 1000000), (45, .goto 17, 3, [62], 0), (48, .aload_n 0, 1, [], 0), (49, .getfield 32, 3, [12, 14, 1394], 0), (52, .bipush 30, 2, [], 0), (54, .iaload, 1, [], 0), (55, .aload_n 0, 1, [], 0), (56, .iload_n 1, 1, [], 0), (57, .iconst (-1), 1, [], 0), (58, .invokevirtual 316, 3, [0, 3, 205, 12, 1723], 0), (61, .iadd, 1, [], 0), (62, .ireturn, 1, [], 0)])
def pj_m278 : pj_M := (yX12_home, cX12_home, 6, some (.int), [2015, 99, 2013, 2014], [(0, .aload_n 0, 1, [], 0), (1, .iconst 0, 1, [], 0), (2, .putfield 105, 3, [12, 0, 1380], 0), (5, .iconst 0, 1, [], 0), (6, .istore_n 1, 1, [], 0), (7, .aload_n 0, 1, [], 0), (8, .getfield 32, 3, [12, 14, 1394], 0), (11, .bipush 30, 2, [], 0), (13, .iaload, 1, [], 0), (14, .istore_n 2, 1, [], 0), (15, .iconst 0, 1, [], 0), (16, .istore_n 3, 1, [], 0), (17, .iload_n 3, 1, [], 0), (18, .aload_n 0, 1, [], 0), (19, .getfield 126, 3, [12, 5, 1385], 0), (22, .if_icmp .ge 82, 3, [104], 0), (25, .aload_n 0, 1, [], 0), (26, .getfield 32, 3, [12, 14, 1394], 0), (29, .iconst 4, 1, [], 0), (30, .iload_n 3, 1, [], 0), (31, .imul, 1, [], 0), (32, .iconst 2, 1, [], 0), (33, .iadd, 1, [], 0), (34, .iaload, 1, [], 0), (35, .ifCond .lt 63, 3, [98], 0), (38, .aload_n 0, 1, [], 0), (39, .iload_n 3, 1, [], 0), (40, .invokevirtual 491, 3, [0, 2, 277, 12, 2016], 0), (43, .istore 4, 2, [], 0), (45, .iload 4, 2, [], 0), (47, .aload_n 0, 1, [], 0), (48, .getfield 32, 3, [12, 14, 1394], 0), (51, .iconst 4, 1, [], 0), (52, .iload_n 3, 1, [], 0), (53, .imul, 1, [], 0), (54, .iconst 2, 1, [], 0), (55, .iadd, 1, [], 0), (56, .iaload, 1, [], 0), (57, .if_icmp .le 7, 3, [64], 0), (60, .iconst 1, 1, [], 0), (61, .goto 4, 3, [65], 0), (64, .iconst 0, 1, [], 0), (65, .istore 5, 2, [], 0), (67, .iload_n 1, 1, [], 0), (68, .iload 5, 2, [], 0), (70, .ifCond .eq 9, 3, [79], 0), (73, .iconst 1, 1, [], 0), (74, .iload_n 3, 1, [], 0), (75, .ishl, 1, [], 0), (76, .goto 4, 3, [80], 0), (79, .iconst 0, 1, [], 0), (80, .ior, 1, [], 0), (81, .istore_n 1, 1, [], 0), (82, .iload 5, 2, [], 0), (84, .ifCond .eq 7, 3, [91], 0), (87, .iload_n 2, 1, [], 0), (88, .goto 9, 3, [97], 0), (91, .iload_n 2, 1, [], 0), (92, .iload 4, 2, [], 0), (94, .invokestatic 261, 3, [10, 0, 0, 0, 1710, 686, 100, 687], 0), (97, .istore_n 2, 1, [], 0), (98, .iinc 3 1, 3, [], 0), (101, .goto (-84), 3, [17], 0), (104, .aload_n 0, 1, [], 0), (105, .iconst 0, 1, [], 0), (106, .putfield 113, 3, [12, 1, 1381], 0), (109, .aload_n 0, 1, [], 0), (110, .iload_n 2, 1, [], 0), (111, .i2l, 1, [], 0), (112, .invokevirtual 360, 3, [0, 2, 175, 12, 1796], 0), (115, .iload_n 1, 1, [], 0), (116, .ireturn, 1, [], 0)])
def pj_m279 : pj_M := (yX12_openThen, cX12_openThen, 3, some (.int), [2034, 99, 2033, 84], [(0, .iconst 0, 1, [], 0), (1, .istore_n 1, 1, [], 0), (2, .iconst 0, 1, [], 0), (3, .istore_n 2, 1, [], 0), (4, .iload_n 2, 1, [], 0), (5, .aload_n 0, 1, [], 0), (6, .getfield 126, 3, [12, 5, 1385], 0), (9, .if_icmp .ge 46, 3, [55], 0), (12, .iload_n 1, 1, [], 0), (13, .aload_n 0, 1, [], 0), (14, .getfield 92, 3, [12, 56, 1436], 0), (17, .iload_n 2, 1, [], 0), (18, .iaload, 1, [], 0), (19, .ifCond .lt 27, 3, [46], 0), (22, .aload_n 0, 1, [], 0), (23, .getfield 32, 3, [12, 14, 1394], 0), (26, .iconst 4, 1, [], 0), (27, .iload_n 2, 1, [], 0), (28, .imul, 1, [], 0), (29, .iconst 1, 1, [], 0), (30, .iadd, 1, [], 0), (31, .iaload, 1, [], 0), (32, .ifCond .ne 14, 3, [46], 0), (35, .iconst 1, 1, [], 0), (36, .aload_n 0, 1, [], 0), (37, .getfield 92, 3, [12, 56, 1436], 0), (40, .iload_n 2, 1, [], 0), (41, .iaload, 1, [], 0), (42, .ishl, 1, [], 0), (43, .goto 4, 3, [47], 0), (46, .iconst 0, 1, [], 0), (47, .ior, 1, [], 0), (48, .istore_n 1, 1, [], 0), (49, .iinc 2 1, 3, [], 0), (52, .goto (-48), 3, [4], 0), (55, .iload_n 1, 1, [], 0), (56, .ireturn, 1, [], 0)])
def pj_m280 : pj_M := (yX12_isFreeThen, cX12_isFreeThen, 4, some (.boolean), [2030, 99, 2029, 83], [(0, .iconst 1, 1, [], 0), (1, .istore_n 2, 1, [], 0), (2, .iconst 0, 1, [], 0), (3, .istore_n 3, 1, [], 0), (4, .iload_n 3, 1, [], 0), (5, .aload_n 0, 1, [], 0), (6, .getfield 126, 3, [12, 5, 1385], 0), (9, .if_icmp .ge 29, 3, [38], 0), (12, .iload_n 2, 1, [], 0), (13, .ifCond .eq 17, 3, [30], 0), (16, .aload_n 0, 1, [], 0), (17, .getfield 92, 3, [12, 56, 1436], 0), (20, .iload_n 3, 1, [], 0), (21, .iaload, 1, [], 0), (22, .iload_n 1, 1, [], 0), (23, .if_icmp .eq 7, 3, [30], 0), (26, .iconst 1, 1, [], 0), (27, .goto 4, 3, [31], 0), (30, .iconst 0, 1, [], 0), (31, .istore_n 2, 1, [], 0), (32, .iinc 3 1, 3, [], 0), (35, .goto (-31), 3, [4], 0), (38, .iload_n 2, 1, [], 0), (39, .ireturn, 1, [], 0)])
def pj_m281 : pj_M := (yX12_years, cX12_years, 11, some (.int), [2024, 99, 2022, 2023], [(0, .aload_n 0, 1, [], 0), (1, .iconst 0, 1, [], 0), (2, .putfield 105, 3, [12, 0, 1380], 0), (5, .iload_n 2, 1, [], 0), (6, .i2l, 1, [], 0), (7, .lconst 1, 1, [], 0), (8, .ldc2_w 494, 3, [0, 2025], 60), (11, .invokestatic 119, 3, [2, 3, 171, 0, 1573], 0), (14, .ifCond .eq 10, 3, [24], 0), (17, .aload_n 0, 1, [], 0), (18, .getfield 126, 3, [12, 5, 1385], 0), (21, .ifCond .ne 5, 3, [26], 0), (24, .iconst (-1), 1, [], 0), (25, .ireturn, 1, [], 0), (26, .iload_n 1, 1, [], 0), (27, .istore_n 3, 1, [], 0), (28, .iconst 0, 1, [], 0), (29, .istore 4, 2, [], 0), (31, .iload 4, 2, [], 0), (33, .aload_n 0, 1, [], 0), (34, .getfield 126, 3, [12, 5, 1385], 0), (37, .if_icmp .ge 27, 3, [64], 0), (40, .aload_n 0, 1, [], 0), (41, .getfield 92, 3, [12, 56, 1436], 0), (44, .iload 4, 2, [], 0), (46, .aload_n 0, 1, [], 0), (47, .getfield 32, 3, [12, 14, 1394], 0), (50, .iconst 4, 1, [], 0), (51, .iload 4, 2, [], 0), (53, .imul, 1, [], 0), (54, .iconst 0, 1, [], 0), (55, .iadd, 1, [], 0), (56, .iaload, 1, [], 0), (57, .iastore, 1, [], 0), (58, .iinc 4 1, 3, [], 0), (61, .goto (-30), 3, [31], 0), (64, .iconst 0, 1, [], 0), (65, .istore 4, 2, [], 0), (67, .sipush 1000, 3, [], 0), (70, .istore 5, 2, [], 0), (72, .iconst 0, 1, [], 0), (73, .istore 6, 2, [], 0), (75, .iconst 0, 1, [], 0), (76, .istore 7, 2, [], 0), (78, .iload 7, 2, [], 0), (80, .iload_n 2, 1, [], 0), (81, .if_icmp .ge 160, 3, [241], 0), (84, .iload_n 3, 1, [], 0), (85, .ldc_w 496, 3, [0, 2026], 1103515245), (88, .imul, 1, [], 0), (89, .sipush 12345, 3, [], 0), (92, .iadd, 1, [], 0), (93, .istore_n 3, 1, [], 0), (94, .iload_n 3, 1, [], 0), (95, .bipush 16, 2, [], 0), (97, .iushr, 1, [], 0), (98, .aload_n 0, 1, [], 0), (99, .getfield 126, 3, [12, 5, 1385], 0), (102, .irem, 1, [], 0), (103, .istore 8, 2, [], 0), (105, .aload_n 0, 1, [], 0), (106, .getfield 92, 3, [12, 56, 1436], 0), (109, .iload 8, 2, [], 0), (111, .iaload, 1, [], 0), (112, .ifCond .lt 104, 3, [216], 0), (115, .aload_n 0, 1, [], 0), (116, .getfield 32, 3, [12, 14, 1394], 0), (119, .iconst 4, 1, [], 0), (120, .iload 8, 2, [], 0), (122, .imul, 1, [], 0), (123, .iconst 1, 1, [], 0), (124, .iadd, 1, [], 0), (125, .iaload, 1, [], 0), (126, .ifCond .ne 90, 3, [216], 0), (129, .aload_n 0, 1, [], 0), (130, .aload_n 0, 1, [], 0), (131, .getfield 92, 3, [12, 56, 1436], 0), (134, .iload 8, 2, [], 0), (136, .iaload, 1, [], 0), (137, .invokevirtual 437, 3, [0, 2, 257, 12, 1943], 0), (140, .istore 9, 2, [], 0), (142, .iload 9, 2, [], 0), (144, .ifCond .lt 72, 3, [216], 0), (147, .aload_n 0, 1, [], 0), (148, .iload 9, 2, [], 0), (150, .invokevirtual 497, 3, [0, 2, 280, 12, 2027], 0), (153, .ifCond .eq 24, 3, [177], 0), (156, .aload_n 0, 1, [], 0), (157, .getfield 26, 3, [12, 12, 1392], 0), (160, .iload 8, 2, [], 0), (162, .iaload, 1, [], 0), (163, .aload_n 0, 1, [], 0), (164, .getfield 23, 3, [12, 11, 1391], 0), (167, .iload 9, 2, [], 0), (169, .iaload, 1, [], 0), (170, .if_icmp .lt 7, 3, [177], 0), (173, .iconst 1, 1, [], 0), (174, .goto 4, 3, [178], 0), (177, .iconst 0, 1, [], 0), (178, .istore 10, 2, [], 0), (180, .aload_n 0, 1, [], 0), (181, .getfield 92, 3, [12, 56, 1436], 0), (184, .iload 8, 2, [], 0), (186, .iload 10, 2, [], 0), (188, .ifCond .eq 8, 3, [196], 0), (191, .iload 9, 2, [], 0), (193, .goto 4, 3, [197], 0), (196, .iconst (-1), 1, [], 0), (197, .iastore, 1, [], 0), (198, .iload 4, 2, [], 0), (200, .iload 10, 2, [], 0), (202, .ifCond .ne 7, 3, [209], 0), (205, .iconst 1, 1, [], 0), (206, .goto 4, 3, [210], 0), (209, .iconst 0, 1, [], 0), (210, .invokestatic 150, 3, [2, 1, 173, 0, 1596], 0), (213, .iadd, 1, [], 0), (214, .istore 4, 2, [], 0), (216, .aload_n 0, 1, [], 0), (217, .aload_n 0, 1, [], 0), (218, .invokevirtual 500, 3, [0, 1, 279, 12, 2031], 0), (221, .invokevirtual 382, 3, [0, 2, 210, 12, 1829], 0), (224, .istore 6, 2, [], 0), (226, .iload 5, 2, [], 0), (228, .iload 6, 2, [], 0), (230, .invokestatic 141, 3, [11, 0, 0, 0, 1584, 502, 100, 503], 0), (233, .istore 5, 2, [], 0), (235, .iinc 7 1, 3, [], 0), (238, .goto (-160), 3, [78], 0), (241, .aload_n 0, 1, [], 0), (242, .iconst 0, 1, [], 0), (243, .putfield 113, 3, [12, 1, 1381], 0), (246, .aload_n 0, 1, [], 0), (247, .iload 4, 2, [], 0), (249, .i2l, 1, [], 0), (250, .invokevirtual 360, 3, [0, 2, 175, 12, 1796], 0), (253, .aload_n 0, 1, [], 0), (254, .iload 5, 2, [], 0), (256, .i2l, 1, [], 0), (257, .invokevirtual 360, 3, [0, 2, 175, 12, 1796], 0), (260, .iload 6, 2, [], 0), (262, .ireturn, 1, [], 0)])
def pj_m282 : pj_M := (yX12_keep, cX12_keep, 3, some (.boolean), [2038, 99, 2036, 2037], [(0, .aload_n 0, 1, [], 0), (1, .iconst 0, 1, [], 0), (2, .putfield 105, 3, [12, 0, 1380], 0), (5, .iload_n 1, 1, [], 0), (6, .i2l, 1, [], 0), (7, .lconst 0, 1, [], 0), (8, .ldc2_w 503, 3, [0, 2039], 2), (11, .invokestatic 119, 3, [2, 3, 171, 0, 1573], 0), (14, .ifCond .ne 5, 3, [19], 0), (17, .iconst 0, 1, [], 0), (18, .ireturn, 1, [], 0), (19, .aload_n 0, 1, [], 0), (20, .getfield 95, 3, [12, 57, 1437], 0), (23, .iload_n 1, 1, [], 0), (24, .iconst 1, 1, [], 0), (25, .bastore, 1, [], 0), (26, .aload_n 0, 1, [], 0), (27, .getfield 99, 3, [12, 58, 1438], 0), (30, .iload_n 1, 1, [], 0), (31, .aload_n 0, 1, [], 0), (32, .getfield 223, 3, [12, 7, 1387], 0), (35, .iastore, 1, [], 0), (36, .iconst 0, 1, [], 0), (37, .istore_n 2, 1, [], 0), (38, .iload_n 2, 1, [], 0), (39, .bipush 32, 2, [], 0), (41, .if_icmp .ge 26, 3, [67], 0), (44, .aload_n 0, 1, [], 0), (45, .getfield 102, 3, [12, 59, 1439], 0), (48, .bipush 32, 2, [], 0), (50, .iload_n 1, 1, [], 0), (51, .imul, 1, [], 0), (52, .iload_n 2, 1, [], 0), (53, .iadd, 1, [], 0), (54, .aload_n 0, 1, [], 0), (55, .getfield 32, 3, [12, 14, 1394], 0), (58, .iload_n 2, 1, [], 0), (59, .iaload, 1, [], 0), (60, .iastore, 1, [], 0), (61, .iinc 2 1, 3, [], 0), (64, .goto (-26), 3, [38], 0), (67, .iconst 1, 1, [], 0), (68, .ireturn, 1, [], 0)])
def pj_m283 : pj_M := (yX12_again, cX12_again, 3, some (.boolean), [2043, 99, 2041, 2042], [(0, .aload_n 0, 1, [], 0), (1, .iconst 0, 1, [], 0), (2, .putfield 105, 3, [12, 0, 1380], 0), (5, .iload_n 1, 1, [], 0), (6, .i2l, 1, [], 0), (7, .lconst 0, 1, [], 0), (8, .ldc2_w 503, 3, [0, 2039], 2), (11, .invokestatic 119, 3, [2, 3, 171, 0, 1573], 0), (14, .ifCond .eq 25, 3, [39], 0), (17, .aload_n 0, 1, [], 0), (18, .getfield 95, 3, [12, 57, 1437], 0), (21, .iload_n 1, 1, [], 0), (22, .baload, 1, [], 0), (23, .ifCond .eq 16, 3, [39], 0), (26, .aload_n 0, 1, [], 0), (27, .getfield 99, 3, [12, 58, 1438], 0), (30, .iload_n 1, 1, [], 0), (31, .iaload, 1, [], 0), (32, .aload_n 0, 1, [], 0), (33, .getfield 223, 3, [12, 7, 1387], 0), (36, .if_icmp .eq 5, 3, [41], 0), (39, .iconst 0, 1, [], 0), (40, .ireturn, 1, [], 0), (41, .iconst 0, 1, [], 0), (42, .istore_n 2, 1, [], 0), (43, .iload_n 2, 1, [], 0), (44, .bipush 32, 2, [], 0), (46, .if_icmp .ge 26, 3, [72], 0), (49, .aload_n 0, 1, [], 0), (50, .getfield 32, 3, [12, 14, 1394], 0), (53, .iload_n 2, 1, [], 0), (54, .aload_n 0, 1, [], 0), (55, .getfield 102, 3, [12, 59, 1439], 0), (58, .bipush 32, 2, [], 0), (60, .iload_n 1, 1, [], 0), (61, .imul, 1, [], 0), (62, .iload_n 2, 1, [], 0), (63, .iadd, 1, [], 0), (64, .iaload, 1, [], 0), (65, .iastore, 1, [], 0), (66, .iinc 2 1, 3, [], 0), (69, .goto (-26), 3, [43], 0), (72, .aload_n 0, 1, [], 0), (73, .iconst 0, 1, [], 0), (74, .putfield 220, 3, [12, 30, 1410], 0), (77, .iconst 1, 1, [], 0), (78, .ireturn, 1, [], 0)])
def pj_m284 : pj_M := (yX12_bridgesBy, cX12_bridgesBy, 6, some (.int), [2051, 99, 2050, 85], [(0, .iconst 0, 1, [], 0), (1, .istore_n 2, 1, [], 0), (2, .iconst 0, 1, [], 0), (3, .istore_n 3, 1, [], 0), (4, .iload_n 3, 1, [], 0), (5, .aload_n 0, 1, [], 0), (6, .getfield 126, 3, [12, 5, 1385], 0), (9, .if_icmp .ge 104, 3, [113], 0), (12, .aload_n 0, 1, [], 0), (13, .getfield 32, 3, [12, 14, 1394], 0), (16, .iconst 4, 1, [], 0), (17, .iload_n 3, 1, [], 0), (18, .imul, 1, [], 0), (19, .iconst 1, 1, [], 0), (20, .iadd, 1, [], 0), (21, .iaload, 1, [], 0), (22, .ifCond .le 7, 3, [29], 0), (25, .iconst 1, 1, [], 0), (26, .goto 4, 3, [30], 0), (29, .iconst 0, 1, [], 0), (30, .istore 4, 2, [], 0), (32, .iload_n 1, 1, [], 0), (33, .ifCond .ne 29, 3, [62], 0), (36, .aload_n 0, 1, [], 0), (37, .getfield 32, 3, [12, 14, 1394], 0), (40, .iconst 4, 1, [], 0), (41, .iload_n 3, 1, [], 0), (42, .imul, 1, [], 0), (43, .iconst 0, 1, [], 0), (44, .iadd, 1, [], 0), (45, .iaload, 1, [], 0), (46, .ifCond .ge 12, 3, [58], 0), (49, .iload 4, 2, [], 0), (51, .ifCond .ne 7, 3, [58], 0), (54, .iconst 1, 1, [], 0), (55, .goto 35, 3, [90], 0), (58, .iconst 0, 1, [], 0), (59, .goto 31, 3, [90], 0), (62, .iload_n 1, 1, [], 0), (63, .iconst 1, 1, [], 0), (64, .if_icmp .ne 8, 3, [72], 0), (67, .iload 4, 2, [], 0), (69, .goto 21, 3, [90], 0), (72, .aload_n 0, 1, [], 0), (73, .getfield 32, 3, [12, 14, 1394], 0), (76, .iconst 4, 1, [], 0), (77, .iload_n 3, 1, [], 0), (78, .imul, 1, [], 0), (79, .iconst 2, 1, [], 0), (80, .iadd, 1, [], 0), (81, .iaload, 1, [], 0), (82, .ifCond .lt 7, 3, [89], 0), (85, .iconst 1, 1, [], 0), (86, .goto 4, 3, [90], 0), (89, .iconst 0, 1, [], 0), (90, .istore 5, 2, [], 0), (92, .iload_n 2, 1, [], 0), (93, .iload 5, 2, [], 0), (95, .ifCond .eq 9, 3, [104], 0), (98, .iconst 1, 1, [], 0), (99, .iload_n 3, 1, [], 0), (100, .ishl, 1, [], 0), (101, .goto 4, 3, [105], 0), (104, .iconst 0, 1, [], 0), (105, .ior, 1, [], 0), (106, .istore_n 2, 1, [], 0), (107, .iinc 3 1, 3, [], 0), (110, .goto (-106), 3, [4], 0), (113, .iload_n 2, 1, [], 0), (114, .ireturn, 1, [], 0)])
def pj_m285 : pj_M := (yX12_count, cX12_count, 2, some (.int), [2047, 99, 2045, 2046], [(0, .aload_n 0, 1, [], 0), (1, .iconst 0, 1, [], 0), (2, .putfield 105, 3, [12, 0, 1380], 0), (5, .iload_n 1, 1, [], 0), (6, .tableswitch 145 0 13 #[70, 75, 80, 85, 90, 98, 98, 98, 106, 114, 119, 124, 129, 134], 70, [], 0), (76, .aload_n 0, 1, [], 0), (77, .getfield 116, 3, [12, 3, 1383], 0), (80, .ireturn, 1, [], 0), (81, .aload_n 0, 1, [], 0), (82, .getfield 123, 3, [12, 4, 1384], 0), (85, .ireturn, 1, [], 0), (86, .aload_n 0, 1, [], 0), (87, .getfield 126, 3, [12, 5, 1385], 0), (90, .ireturn, 1, [], 0), (91, .aload_n 0, 1, [], 0), (92, .getfield 129, 3, [12, 6, 1386], 0), (95, .ireturn, 1, [], 0), (96, .aload_n 0, 1, [], 0), (97, .getfield 32, 3, [12, 14, 1394], 0), (100, .bipush 30, 2, [], 0), (102, .iaload, 1, [], 0), (103, .ireturn, 1, [], 0), (104, .aload_n 0, 1, [], 0), (105, .iload_n 1, 1, [], 0), (106, .iconst 5, 1, [], 0), (107, .isub, 1, [], 0), (108, .invokevirtual 505, 3, [0, 2, 284, 12, 2048], 0), (111, .ireturn, 1, [], 0), (112, .aload_n 0, 1, [], 0), (113, .getfield 32, 3, [12, 14, 1394], 0), (116, .bipush 31, 2, [], 0), (118, .iaload, 1, [], 0), (119, .ireturn, 1, [], 0), (120, .aload_n 0, 1, [], 0), (121, .getfield 455, 3, [12, 48, 1428], 0), (124, .ireturn, 1, [], 0), (125, .aload_n 0, 1, [], 0), (126, .getfield 220, 3, [12, 30, 1410], 0), (129, .ireturn, 1, [], 0), (130, .aload_n 0, 1, [], 0), (131, .getfield 113, 3, [12, 1, 1381], 0), (134, .ireturn, 1, [], 0), (135, .aload_n 0, 1, [], 0), (136, .getfield 132, 3, [12, 16, 1396], 0), (139, .ireturn, 1, [], 0), (140, .aload_n 0, 1, [], 0), (141, .aload_n 0, 1, [], 0), (142, .iconst 0, 1, [], 0), (143, .iconst 0, 1, [], 0), (144, .invokevirtual 325, 3, [0, 3, 207, 12, 1776], 0), (147, .invokevirtual 382, 3, [0, 2, 210, 12, 1829], 0), (150, .ireturn, 1, [], 0), (151, .bipush (-100), 2, [], 0), (153, .ireturn, 1, [], 0)])
def pj_m286 : pj_M := (yX12_row, cX12_row, 2, some (.long), [2055, 99, 2053, 2054], [(0, .aload_n 0, 1, [], 0), (1, .iconst 0, 1, [], 0), (2, .putfield 105, 3, [12, 0, 1380], 0), (5, .iload_n 1, 1, [], 0), (6, .i2l, 1, [], 0), (7, .lconst 0, 1, [], 0), (8, .aload_n 0, 1, [], 0), (9, .getfield 113, 3, [12, 1, 1381], 0), (12, .iconst 1, 1, [], 0), (13, .isub, 1, [], 0), (14, .i2l, 1, [], 0), (15, .invokestatic 119, 3, [2, 3, 171, 0, 1573], 0), (18, .ifCond .ne 10, 3, [28], 0), (21, .aload_n 0, 1, [], 0), (22, .iconst 1, 1, [], 0), (23, .putfield 105, 3, [12, 0, 1380], 0), (26, .lconst 0, 1, [], 0), (27, .lreturn, 1, [], 0), (28, .aload_n 0, 1, [], 0), (29, .getfield 9, 3, [12, 2, 1382], 0), (32, .iload_n 1, 1, [], 0), (33, .laload, 1, [], 0), (34, .lreturn, 1, [], 0)])
def pj_m287 : pj_M := (yJ6_numberOfTrailingZeros_0f7a4, cJ6_numberOfTrailingZeros_0f7a4, 2, some (.int), [1065, 111, 1064, 0], [(0, .iload_n 0, 1, [], 0), (1, .iconst (-1), 1, [], 0), (2, .ixor, 1, [], 0), (3, .iload_n 0, 1, [], 0), (4, .iconst 1, 1, [], 0), (5, .isub, 1, [], 0), (6, .iand, 1, [], 0), (7, .istore_n 0, 1, [], 0), (8, .iload_n 0, 1, [], 0), (9, .ifCond .gt 8, 3, [17], 0), (12, .iload_n 0, 1, [], 0), (13, .bipush 32, 2, [], 0), (15, .iand, 1, [], 0), (16, .ireturn, 1, [], 0), (17, .iconst 1, 1, [], 0), (18, .istore_n 1, 1, [], 0), (19, .iload_n 0, 1, [], 0), (20, .ldc_w 264, 3, [0, 1066], 65536), (23, .if_icmp .le 11, 3, [34], 0), (26, .iinc 1 16, 3, [], 0), (29, .iload_n 0, 1, [], 0), (30, .bipush 16, 2, [], 0), (32, .iushr, 1, [], 0), (33, .istore_n 0, 1, [], 0), (34, .iload_n 0, 1, [], 0), (35, .sipush 256, 3, [], 0), (38, .if_icmp .le 11, 3, [49], 0), (41, .iinc 1 8, 3, [], 0), (44, .iload_n 0, 1, [], 0), (45, .bipush 8, 2, [], 0), (47, .iushr, 1, [], 0), (48, .istore_n 0, 1, [], 0), (49, .iload_n 0, 1, [], 0), (50, .bipush 16, 2, [], 0), (52, .if_icmp .le 10, 3, [62], 0), (55, .iinc 1 4, 3, [], 0), (58, .iload_n 0, 1, [], 0), (59, .iconst 4, 1, [], 0), (60, .iushr, 1, [], 0), (61, .istore_n 0, 1, [], 0), (62, .iload_n 0, 1, [], 0), (63, .iconst 4, 1, [], 0), (64, .if_icmp .le 10, 3, [74], 0), (67, .iinc 1 2, 3, [], 0), (70, .iload_n 0, 1, [], 0), (71, .iconst 2, 1, [], 0), (72, .iushr, 1, [], 0), (73, .istore_n 0, 1, [], 0), (74, .iload_n 1, 1, [], 0), (75, .iload_n 0, 1, [], 0), (76, .iconst 1, 1, [], 0), (77, .iushr, 1, [], 0), (78, .iadd, 1, [], 0), (79, .ireturn, 1, [], 0)])
def pj_m288 : pj_M := (yJ6_bitCount_0f7a4, cJ6_bitCount_0f7a4, 1, some (.int), [965, 111, 964, 0], [(0, .iload_n 0, 1, [], 0), (1, .iload_n 0, 1, [], 0), (2, .iconst 1, 1, [], 0), (3, .iushr, 1, [], 0), (4, .ldc_w 265, 3, [0, 966], 1431655765), (7, .iand, 1, [], 0), (8, .isub, 1, [], 0), (9, .istore_n 0, 1, [], 0), (10, .iload_n 0, 1, [], 0), (11, .ldc_w 266, 3, [0, 967], 858993459), (14, .iand, 1, [], 0), (15, .iload_n 0, 1, [], 0), (16, .iconst 2, 1, [], 0), (17, .iushr, 1, [], 0), (18, .ldc_w 266, 3, [0, 967], 858993459), (21, .iand, 1, [], 0), (22, .iadd, 1, [], 0), (23, .istore_n 0, 1, [], 0), (24, .iload_n 0, 1, [], 0), (25, .iload_n 0, 1, [], 0), (26, .iconst 4, 1, [], 0), (27, .iushr, 1, [], 0), (28, .iadd, 1, [], 0), (29, .ldc_w 267, 3, [0, 968], 252645135), (32, .iand, 1, [], 0), (33, .istore_n 0, 1, [], 0), (34, .iload_n 0, 1, [], 0), (35, .iload_n 0, 1, [], 0), (36, .bipush 8, 2, [], 0), (38, .iushr, 1, [], 0), (39, .iadd, 1, [], 0), (40, .istore_n 0, 1, [], 0), (41, .iload_n 0, 1, [], 0), (42, .iload_n 0, 1, [], 0), (43, .bipush 16, 2, [], 0), (45, .iushr, 1, [], 0), (46, .iadd, 1, [], 0), (47, .istore_n 0, 1, [], 0), (48, .iload_n 0, 1, [], 0), (49, .bipush 63, 2, [], 0), (51, .iand, 1, [], 0), (52, .ireturn, 1, [], 0)])
def pj_m289 : pj_M := (yJ0_length_8abf5, cJ0_length_8abf5, 1, some (.int), [623, 101, 621, 622], [])
def pj_m290 : pj_M := (yJ0_charAt_5068e, cJ0_charAt_5068e, 2, some (.char), [633, 101, 631, 632], [])
def pj_m291 : pj_M := (yJ0_indexOf_0f7a4, cJ0_indexOf_0f7a4, 2, some (.int), [673, 101, 671, 672], [])
def pj_prog : List pj_M := [pj_m0, pj_m1, pj_m2, pj_m3, pj_m4, pj_m5, pj_m6, pj_m7, pj_m8, pj_m9, pj_m10, pj_m11, pj_m12, pj_m13, pj_m14, pj_m15, pj_m16, pj_m17, pj_m18, pj_m19, pj_m20, pj_m21, pj_m22, pj_m23, pj_m24, pj_m25, pj_m26, pj_m27, pj_m28, pj_m29, pj_m30, pj_m31, pj_m32, pj_m33, pj_m34, pj_m35, pj_m36, pj_m37, pj_m38, pj_m39, pj_m40, pj_m41, pj_m42, pj_m43, pj_m44, pj_m45, pj_m46, pj_m47, pj_m48, pj_m49, pj_m50, pj_m51, pj_m52, pj_m53, pj_m54, pj_m55, pj_m56, pj_m57, pj_m58, pj_m59, pj_m60, pj_m61, pj_m62, pj_m63, pj_m64, pj_m65, pj_m66, pj_m67, pj_m68, pj_m69, pj_m70, pj_m71, pj_m72, pj_m73, pj_m74, pj_m75, pj_m76, pj_m77, pj_m78, pj_m79, pj_m80, pj_m81, pj_m82, pj_m83, pj_m84, pj_m85, pj_m86, pj_m87, pj_m88, pj_m89, pj_m90, pj_m91, pj_m92, pj_m93, pj_m94, pj_m95, pj_m96, pj_m97, pj_m98, pj_m99, pj_m100, pj_m101, pj_m102, pj_m103, pj_m104, pj_m105, pj_m106, pj_m107, pj_m108, pj_m109, pj_m110, pj_m111, pj_m112, pj_m113, pj_m114, pj_m115, pj_m116, pj_m117, pj_m118, pj_m119, pj_m120, pj_m121, pj_m122, pj_m123, pj_m124, pj_m125, pj_m126, pj_m127, pj_m128, pj_m129, pj_m130, pj_m131, pj_m132, pj_m133, pj_m134, pj_m135, pj_m136, pj_m137, pj_m138, pj_m139, pj_m140, pj_m141, pj_m142, pj_m143, pj_m144, pj_m145, pj_m146, pj_m147, pj_m148, pj_m149, pj_m150, pj_m151, pj_m152, pj_m153, pj_m154, pj_m155, pj_m156, pj_m157, pj_m158, pj_m159, pj_m160, pj_m161, pj_m162, pj_m163, pj_m164, pj_m165, pj_m166, pj_m167, pj_m168, pj_m169, pj_m170, pj_m171, pj_m172, pj_m173, pj_m174, pj_m175, pj_m176, pj_m177, pj_m178, pj_m179, pj_m180, pj_m181, pj_m182, pj_m183, pj_m184, pj_m185, pj_m186, pj_m187, pj_m188, pj_m189, pj_m190, pj_m191, pj_m192, pj_m193, pj_m194, pj_m195, pj_m196, pj_m197, pj_m198, pj_m199, pj_m200, pj_m201, pj_m202, pj_m203, pj_m204, pj_m205, pj_m206, pj_m207, pj_m208, pj_m209, pj_m210, pj_m211, pj_m212, pj_m213, pj_m214, pj_m215, pj_m216, pj_m217, pj_m218, pj_m219, pj_m220, pj_m221, pj_m222, pj_m223, pj_m224, pj_m225, pj_m226, pj_m227, pj_m228, pj_m229, pj_m230, pj_m231, pj_m232, pj_m233, pj_m234, pj_m235, pj_m236, pj_m237, pj_m238, pj_m239, pj_m240, pj_m241, pj_m242, pj_m243, pj_m244, pj_m245, pj_m246, pj_m247, pj_m248, pj_m249, pj_m250, pj_m251, pj_m252, pj_m253, pj_m254, pj_m255, pj_m256, pj_m257, pj_m258, pj_m259, pj_m260, pj_m261, pj_m262, pj_m263, pj_m264, pj_m265, pj_m266, pj_m267, pj_m268, pj_m269, pj_m270, pj_m271, pj_m272, pj_m273, pj_m274, pj_m275, pj_m276, pj_m277, pj_m278, pj_m279, pj_m280, pj_m281, pj_m282, pj_m283, pj_m284, pj_m285, pj_m286, pj_m287, pj_m288, pj_m289, pj_m290, pj_m291]
def pj_law : pj_M := (yL_law, code, 8, some .boolean, [0, 0, 0, 0], [(0, .new 8, 3, [11, 112, 113, 87], 0), (3, .dup, 1, [], 0), (4, .invokespecial 25, 3, [4, 1, 116, 0, 114], 0), (7, .astore_n 1, 1, [], 0), (8, .new 26, 3, [12, 1374, 1375, 99], 0), (11, .dup, 1, [], 0), (12, .invokespecial 28, 3, [4, 1, 168, 0, 1376], 0), (15, .astore_n 2, 1, [], 0), (16, .iconst 1, 1, [], 0), (17, .newarray .long, 2, [159], 0), (19, .astore_n 3, 1, [], 0), (20, .iconst 0, 1, [], 0), (21, .istore 4, 2, [], 0), (23, .iload 4, 2, [], 0), (25, .aload_n 0, 1, [], 0), (26, .arraylength, 1, [], 0), (27, .iconst 5, 1, [], 0), (28, .isub, 1, [], 0), (29, .if_icmp .gt 1572, 3, [1601], 0), (32, .aload_n 0, 1, [], 0), (33, .iload 4, 2, [], 0), (35, .iaload, 1, [], 0), (36, .bipush 63, 2, [], 0), (38, .iand, 1, [], 0), (39, .tableswitch 1556 0 43 #[189, 214, 239, 252, 265, 278, 291, 359, 427, 495, 556, 593, 630, 667, 704, 729, 742, 755, 792, 817, 854, 891, 904, 929, 954, 967, 980, 1005, 1018, 1043, 1104, 1153, 1202, 1215, 1228, 1241, 1302, 1351, 1376, 1389, 1426, 1451, 1476, 1501], 189, [], 0), (228, .aload_n 1, 1, [], 0), (229, .aload_n 0, 1, [], 0), (230, .iload 4, 2, [], 0), (232, .iconst 1, 1, [], 0), (233, .iadd, 1, [], 0), (234, .iaload, 1, [], 0), (235, .invokevirtual 29, 3, [0, 2, 117, 11, 477], 0), (238, .aload_n 2, 1, [], 0), (239, .aload_n 0, 1, [], 0), (240, .iload 4, 2, [], 0), (242, .iconst 1, 1, [], 0), (243, .iadd, 1, [], 0), (244, .iaload, 1, [], 0), (245, .invokevirtual 33, 3, [0, 2, 180, 12, 1565], 0), (248, .if_icmp .eq 1347, 3, [1595], 0), (251, .iconst 0, 1, [], 0), (252, .ireturn, 1, [], 0), (253, .aload_n 1, 1, [], 0), (254, .aload_n 0, 1, [], 0), (255, .iload 4, 2, [], 0), (257, .iconst 1, 1, [], 0), (258, .iadd, 1, [], 0), (259, .iaload, 1, [], 0), (260, .invokevirtual 34, 3, [0, 2, 118, 11, 485], 0), (263, .aload_n 2, 1, [], 0), (264, .aload_n 0, 1, [], 0), (265, .iload 4, 2, [], 0), (267, .iconst 1, 1, [], 0), (268, .iadd, 1, [], 0), (269, .iaload, 1, [], 0), (270, .invokevirtual 38, 3, [0, 2, 181, 12, 1569], 0), (273, .if_icmp .eq 1322, 3, [1595], 0), (276, .iconst 0, 1, [], 0), (277, .ireturn, 1, [], 0), (278, .aload_n 1, 1, [], 0), (279, .invokevirtual 39, 3, [0, 1, 119, 11, 493], 0), (282, .aload_n 2, 1, [], 0), (283, .invokevirtual 43, 3, [0, 1, 192, 12, 1576], 0), (286, .if_icmp .eq 1309, 3, [1595], 0), (289, .iconst 0, 1, [], 0), (290, .ireturn, 1, [], 0), (291, .aload_n 1, 1, [], 0), (292, .invokevirtual 44, 3, [0, 1, 120, 11, 560], 0), (295, .aload_n 2, 1, [], 0), (296, .invokevirtual 47, 3, [0, 1, 196, 12, 1635], 0), (299, .if_icmp .eq 1296, 3, [1595], 0), (302, .iconst 0, 1, [], 0), (303, .ireturn, 1, [], 0), (304, .aload_n 1, 1, [], 0), (305, .invokevirtual 48, 3, [0, 1, 121, 11, 577], 0), (308, .aload_n 2, 1, [], 0), (309, .invokevirtual 51, 3, [0, 1, 197, 12, 1647], 0), (312, .if_icmp .eq 1283, 3, [1595], 0), (315, .iconst 0, 1, [], 0), (316, .ireturn, 1, [], 0), (317, .aload_n 1, 1, [], 0), (318, .invokevirtual 52, 3, [0, 1, 122, 11, 586], 0), (321, .aload_n 2, 1, [], 0), (322, .invokevirtual 55, 3, [0, 1, 201, 12, 1651], 0), (325, .if_icmp .eq 1270, 3, [1595], 0), (328, .iconst 0, 1, [], 0), (329, .ireturn, 1, [], 0), (330, .aload_n 1, 1, [], 0), (331, .aload_n 0, 1, [], 0), (332, .iload 4, 2, [], 0), (334, .iconst 1, 1, [], 0), (335, .iadd, 1, [], 0), (336, .iaload, 1, [], 0), (337, .aload_n 0, 1, [], 0), (338, .iload 4, 2, [], 0), (340, .iconst 2, 1, [], 0), (341, .iadd, 1, [], 0), (342, .iaload, 1, [], 0), (343, .aload_n 3, 1, [], 0), (344, .invokestatic 56, 3, [9, 4, 1000, 0, 1275, 1276, 86, 1277], 0), (347, .istore 5, 2, [], 0), (349, .aload_n 2, 1, [], 0), (350, .aload_n 0, 1, [], 0), (351, .iload 4, 2, [], 0), (353, .iconst 1, 1, [], 0), (354, .iadd, 1, [], 0), (355, .iaload, 1, [], 0), (356, .aload_n 0, 1, [], 0), (357, .iload 4, 2, [], 0), (359, .iconst 2, 1, [], 0), (360, .iadd, 1, [], 0), (361, .iaload, 1, [], 0), (362, .invokevirtual 61, 3, [0, 3, 211, 12, 1671], 0), (365, .istore 6, 2, [], 0), (367, .aload_n 2, 1, [], 0), (368, .invokevirtual 62, 3, [0, 1, 169, 12, 1561], 0), (371, .iload 5, 2, [], 0), (373, .if_icmp .eq 5, 3, [378], 0), (376, .iconst 0, 1, [], 0), (377, .ireturn, 1, [], 0), (378, .iload 5, 2, [], 0), (380, .ifCond .ne 15, 3, [395], 0), (383, .aload_n 3, 1, [], 0), (384, .iconst 0, 1, [], 0), (385, .laload, 1, [], 0), (386, .iload 6, 2, [], 0), (388, .i2l, 1, [], 0), (389, .lcmp, 1, [], 0), (390, .ifCond .eq 5, 3, [395], 0), (393, .iconst 0, 1, [], 0), (394, .ireturn, 1, [], 0), (395, .goto 1200, 3, [1595], 0), (398, .aload_n 1, 1, [], 0), (399, .aload_n 0, 1, [], 0), (400, .iload 4, 2, [], 0), (402, .iconst 1, 1, [], 0), (403, .iadd, 1, [], 0), (404, .iaload, 1, [], 0), (405, .aload_n 0, 1, [], 0), (406, .iload 4, 2, [], 0), (408, .iconst 2, 1, [], 0), (409, .iadd, 1, [], 0), (410, .iaload, 1, [], 0), (411, .aload_n 3, 1, [], 0), (412, .invokestatic 65, 3, [9, 4, 1001, 0, 1350, 1351, 86, 1352], 0), (415, .istore 5, 2, [], 0), (417, .aload_n 2, 1, [], 0), (418, .aload_n 0, 1, [], 0), (419, .iload 4, 2, [], 0), (421, .iconst 1, 1, [], 0), (422, .iadd, 1, [], 0), (423, .iaload, 1, [], 0), (424, .aload_n 0, 1, [], 0), (425, .iload 4, 2, [], 0), (427, .iconst 2, 1, [], 0), (428, .iadd, 1, [], 0), (429, .iaload, 1, [], 0), (430, .invokevirtual 67, 3, [0, 3, 212, 12, 1688], 0), (433, .istore 6, 2, [], 0), (435, .aload_n 2, 1, [], 0), (436, .invokevirtual 62, 3, [0, 1, 169, 12, 1561], 0), (439, .iload 5, 2, [], 0), (441, .if_icmp .eq 5, 3, [446], 0), (444, .iconst 0, 1, [], 0), (445, .ireturn, 1, [], 0), (446, .iload 5, 2, [], 0), (448, .ifCond .ne 15, 3, [463], 0), (451, .aload_n 3, 1, [], 0), (452, .iconst 0, 1, [], 0), (453, .laload, 1, [], 0), (454, .iload 6, 2, [], 0), (456, .i2l, 1, [], 0), (457, .lcmp, 1, [], 0), (458, .ifCond .eq 5, 3, [463], 0), (461, .iconst 0, 1, [], 0), (462, .ireturn, 1, [], 0), (463, .goto 1132, 3, [1595], 0), (466, .aload_n 1, 1, [], 0), (467, .aload_n 0, 1, [], 0), (468, .iload 4, 2, [], 0), (470, .iconst 1, 1, [], 0), (471, .iadd, 1, [], 0), (472, .iaload, 1, [], 0), (473, .aload_n 0, 1, [], 0), (474, .iload 4, 2, [], 0), (476, .iconst 2, 1, [], 0), (477, .iadd, 1, [], 0), (478, .iaload, 1, [], 0), (479, .aload_n 3, 1, [], 0), (480, .invokestatic 68, 3, [9, 4, 1002, 0, 1358, 1359, 86, 1360], 0), (483, .istore 5, 2, [], 0), (485, .aload_n 2, 1, [], 0), (486, .aload_n 0, 1, [], 0), (487, .iload 4, 2, [], 0), (489, .iconst 1, 1, [], 0), (490, .iadd, 1, [], 0), (491, .iaload, 1, [], 0), (492, .aload_n 0, 1, [], 0), (493, .iload 4, 2, [], 0), (495, .iconst 2, 1, [], 0), (496, .iadd, 1, [], 0), (497, .iaload, 1, [], 0), (498, .invokevirtual 70, 3, [0, 3, 213, 12, 1697], 0), (501, .istore 6, 2, [], 0), (503, .aload_n 2, 1, [], 0), (504, .invokevirtual 62, 3, [0, 1, 169, 12, 1561], 0), (507, .iload 5, 2, [], 0), (509, .if_icmp .eq 5, 3, [514], 0), (512, .iconst 0, 1, [], 0), (513, .ireturn, 1, [], 0), (514, .iload 5, 2, [], 0), (516, .ifCond .ne 15, 3, [531], 0), (519, .aload_n 3, 1, [], 0), (520, .iconst 0, 1, [], 0), (521, .laload, 1, [], 0), (522, .iload 6, 2, [], 0), (524, .i2l, 1, [], 0), (525, .lcmp, 1, [], 0), (526, .ifCond .eq 5, 3, [531], 0), (529, .iconst 0, 1, [], 0), (530, .ireturn, 1, [], 0), (531, .goto 1064, 3, [1595], 0), (534, .aload_n 1, 1, [], 0), (535, .aload_n 0, 1, [], 0), (536, .iload 4, 2, [], 0), (538, .iconst 1, 1, [], 0), (539, .iadd, 1, [], 0), (540, .iaload, 1, [], 0), (541, .aload_n 0, 1, [], 0), (542, .iload 4, 2, [], 0), (544, .iconst 2, 1, [], 0), (545, .iadd, 1, [], 0), (546, .iaload, 1, [], 0), (547, .aload_n 0, 1, [], 0), (548, .iload 4, 2, [], 0), (550, .iconst 3, 1, [], 0), (551, .iadd, 1, [], 0), (552, .iaload, 1, [], 0), (553, .aload_n 0, 1, [], 0), (554, .iload 4, 2, [], 0), (556, .iconst 4, 1, [], 0), (557, .iadd, 1, [], 0), (558, .iaload, 1, [], 0), (559, .invokevirtual 71, 3, [0, 5, 126, 11, 738], 0), (562, .aload_n 2, 1, [], 0), (563, .aload_n 0, 1, [], 0), (564, .iload 4, 2, [], 0), (566, .iconst 1, 1, [], 0), (567, .iadd, 1, [], 0), (568, .iaload, 1, [], 0), (569, .aload_n 0, 1, [], 0), (570, .iload 4, 2, [], 0), (572, .iconst 2, 1, [], 0), (573, .iadd, 1, [], 0), (574, .iaload, 1, [], 0), (575, .aload_n 0, 1, [], 0), (576, .iload 4, 2, [], 0), (578, .iconst 3, 1, [], 0), (579, .iadd, 1, [], 0), (580, .iaload, 1, [], 0), (581, .aload_n 0, 1, [], 0), (582, .iload 4, 2, [], 0), (584, .iconst 4, 1, [], 0), (585, .iadd, 1, [], 0), (586, .iaload, 1, [], 0), (587, .invokevirtual 75, 3, [0, 5, 214, 12, 1705], 0), (590, .if_icmp .eq 1005, 3, [1595], 0), (593, .iconst 0, 1, [], 0), (594, .ireturn, 1, [], 0), (595, .aload_n 1, 1, [], 0), (596, .aload_n 0, 1, [], 0), (597, .iload 4, 2, [], 0), (599, .iconst 1, 1, [], 0), (600, .iadd, 1, [], 0), (601, .iaload, 1, [], 0), (602, .aload_n 0, 1, [], 0), (603, .iload 4, 2, [], 0), (605, .iconst 2, 1, [], 0), (606, .iadd, 1, [], 0), (607, .iaload, 1, [], 0), (608, .invokevirtual 76, 3, [0, 3, 127, 11, 751], 0), (611, .aload_n 2, 1, [], 0), (612, .aload_n 0, 1, [], 0), (613, .iload 4, 2, [], 0), (615, .iconst 1, 1, [], 0), (616, .iadd, 1, [], 0), (617, .iaload, 1, [], 0), (618, .aload_n 0, 1, [], 0), (619, .iload 4, 2, [], 0), (621, .iconst 2, 1, [], 0), (622, .iadd, 1, [], 0), (623, .iaload, 1, [], 0), (624, .invokevirtual 79, 3, [0, 3, 220, 12, 1715], 0), (627, .if_icmp .eq 968, 3, [1595], 0), (630, .iconst 0, 1, [], 0), (631, .ireturn, 1, [], 0), (632, .aload_n 1, 1, [], 0), (633, .aload_n 0, 1, [], 0), (634, .iload 4, 2, [], 0), (636, .iconst 1, 1, [], 0), (637, .iadd, 1, [], 0), (638, .iaload, 1, [], 0), (639, .aload_n 0, 1, [], 0), (640, .iload 4, 2, [], 0), (642, .iconst 2, 1, [], 0), (643, .iadd, 1, [], 0), (644, .iaload, 1, [], 0), (645, .invokevirtual 80, 3, [0, 3, 128, 11, 797], 0), (648, .aload_n 2, 1, [], 0), (649, .aload_n 0, 1, [], 0), (650, .iload 4, 2, [], 0), (652, .iconst 1, 1, [], 0), (653, .iadd, 1, [], 0), (654, .iaload, 1, [], 0), (655, .aload_n 0, 1, [], 0), (656, .iload 4, 2, [], 0), (658, .iconst 2, 1, [], 0), (659, .iadd, 1, [], 0), (660, .iaload, 1, [], 0), (661, .invokevirtual 83, 3, [0, 3, 226, 12, 1739], 0), (664, .if_icmp .eq 931, 3, [1595], 0), (667, .iconst 0, 1, [], 0), (668, .ireturn, 1, [], 0), (669, .aload_n 1, 1, [], 0), (670, .aload_n 0, 1, [], 0), (671, .iload 4, 2, [], 0), (673, .iconst 1, 1, [], 0), (674, .iadd, 1, [], 0), (675, .iaload, 1, [], 0), (676, .aload_n 0, 1, [], 0), (677, .iload 4, 2, [], 0), (679, .iconst 2, 1, [], 0), (680, .iadd, 1, [], 0), (681, .iaload, 1, [], 0), (682, .invokevirtual 84, 3, [0, 3, 129, 11, 822], 0), (685, .aload_n 2, 1, [], 0), (686, .aload_n 0, 1, [], 0), (687, .iload 4, 2, [], 0), (689, .iconst 1, 1, [], 0), (690, .iadd, 1, [], 0), (691, .iaload, 1, [], 0), (692, .aload_n 0, 1, [], 0), (693, .iload 4, 2, [], 0), (695, .iconst 2, 1, [], 0), (696, .iadd, 1, [], 0), (697, .iaload, 1, [], 0), (698, .invokevirtual 87, 3, [0, 3, 227, 12, 1759], 0), (701, .if_icmp .eq 894, 3, [1595], 0), (704, .iconst 0, 1, [], 0), (705, .ireturn, 1, [], 0), (706, .aload_n 1, 1, [], 0), (707, .aload_n 0, 1, [], 0), (708, .iload 4, 2, [], 0), (710, .iconst 1, 1, [], 0), (711, .iadd, 1, [], 0), (712, .iaload, 1, [], 0), (713, .aload_n 0, 1, [], 0), (714, .iload 4, 2, [], 0), (716, .iconst 2, 1, [], 0), (717, .iadd, 1, [], 0), (718, .iaload, 1, [], 0), (719, .invokevirtual 88, 3, [0, 3, 130, 11, 831], 0), (722, .aload_n 2, 1, [], 0), (723, .aload_n 0, 1, [], 0), (724, .iload 4, 2, [], 0), (726, .iconst 1, 1, [], 0), (727, .iadd, 1, [], 0), (728, .iaload, 1, [], 0), (729, .aload_n 0, 1, [], 0), (730, .iload 4, 2, [], 0), (732, .iconst 2, 1, [], 0), (733, .iadd, 1, [], 0), (734, .iaload, 1, [], 0), (735, .invokevirtual 91, 3, [0, 3, 228, 12, 1768], 0), (738, .if_icmp .eq 857, 3, [1595], 0), (741, .iconst 0, 1, [], 0), (742, .ireturn, 1, [], 0), (743, .aload_n 1, 1, [], 0), (744, .aload_n 0, 1, [], 0), (745, .iload 4, 2, [], 0), (747, .iconst 1, 1, [], 0), (748, .iadd, 1, [], 0), (749, .iaload, 1, [], 0), (750, .invokevirtual 92, 3, [0, 2, 131, 11, 848], 0), (753, .aload_n 2, 1, [], 0), (754, .aload_n 0, 1, [], 0), (755, .iload 4, 2, [], 0), (757, .iconst 1, 1, [], 0), (758, .iadd, 1, [], 0), (759, .iaload, 1, [], 0), (760, .invokevirtual 95, 3, [0, 2, 229, 12, 1783], 0), (763, .if_icmp .eq 832, 3, [1595], 0), (766, .iconst 0, 1, [], 0), (767, .ireturn, 1, [], 0), (768, .aload_n 1, 1, [], 0), (769, .invokevirtual 96, 3, [0, 1, 132, 11, 876], 0), (772, .aload_n 2, 1, [], 0), (773, .invokevirtual 99, 3, [0, 1, 232, 12, 1800], 0), (776, .if_icmp .eq 819, 3, [1595], 0), (779, .iconst 0, 1, [], 0), (780, .ireturn, 1, [], 0), (781, .aload_n 1, 1, [], 0), (782, .invokevirtual 100, 3, [0, 1, 133, 11, 907], 0), (785, .aload_n 2, 1, [], 0), (786, .invokevirtual 103, 3, [0, 1, 218, 12, 1711], 0), (789, .if_icmp .eq 806, 3, [1595], 0), (792, .iconst 0, 1, [], 0), (793, .ireturn, 1, [], 0), (794, .aload_n 1, 1, [], 0), (795, .aload_n 0, 1, [], 0), (796, .iload 4, 2, [], 0), (798, .iconst 1, 1, [], 0), (799, .iadd, 1, [], 0), (800, .iaload, 1, [], 0), (801, .aload_n 0, 1, [], 0), (802, .iload 4, 2, [], 0), (804, .iconst 2, 1, [], 0), (805, .iadd, 1, [], 0), (806, .iaload, 1, [], 0), (807, .invokevirtual 104, 3, [0, 3, 134, 11, 916], 0), (810, .aload_n 2, 1, [], 0), (811, .aload_n 0, 1, [], 0), (812, .iload 4, 2, [], 0), (814, .iconst 1, 1, [], 0), (815, .iadd, 1, [], 0), (816, .iaload, 1, [], 0), (817, .aload_n 0, 1, [], 0), (818, .iload 4, 2, [], 0), (820, .iconst 2, 1, [], 0), (821, .iadd, 1, [], 0), (822, .iaload, 1, [], 0), (823, .invokevirtual 107, 3, [0, 3, 234, 12, 1813], 0), (826, .if_icmp .eq 769, 3, [1595], 0), (829, .iconst 0, 1, [], 0), (830, .ireturn, 1, [], 0), (831, .aload_n 1, 1, [], 0), (832, .aload_n 0, 1, [], 0), (833, .iload 4, 2, [], 0), (835, .iconst 1, 1, [], 0), (836, .iadd, 1, [], 0), (837, .iaload, 1, [], 0), (838, .invokevirtual 108, 3, [0, 2, 135, 11, 951], 0), (841, .aload_n 2, 1, [], 0), (842, .aload_n 0, 1, [], 0), (843, .iload 4, 2, [], 0), (845, .iconst 1, 1, [], 0), (846, .iadd, 1, [], 0), (847, .iaload, 1, [], 0), (848, .invokevirtual 111, 3, [0, 2, 235, 12, 1825], 0), (851, .if_icmp .eq 744, 3, [1595], 0), (854, .iconst 0, 1, [], 0), (855, .ireturn, 1, [], 0), (856, .aload_n 1, 1, [], 0), (857, .aload_n 0, 1, [], 0), (858, .iload 4, 2, [], 0), (860, .iconst 1, 1, [], 0), (861, .iadd, 1, [], 0), (862, .iaload, 1, [], 0), (863, .aload_n 0, 1, [], 0), (864, .iload 4, 2, [], 0), (866, .iconst 2, 1, [], 0), (867, .iadd, 1, [], 0), (868, .iaload, 1, [], 0), (869, .invokevirtual 112, 3, [0, 3, 136, 11, 974], 0), (872, .aload_n 2, 1, [], 0), (873, .aload_n 0, 1, [], 0), (874, .iload 4, 2, [], 0), (876, .iconst 1, 1, [], 0), (877, .iadd, 1, [], 0), (878, .iaload, 1, [], 0), (879, .aload_n 0, 1, [], 0), (880, .iload 4, 2, [], 0), (882, .iconst 2, 1, [], 0), (883, .iadd, 1, [], 0), (884, .iaload, 1, [], 0), (885, .invokevirtual 115, 3, [0, 3, 236, 12, 1842], 0), (888, .if_icmp .eq 707, 3, [1595], 0), (891, .iconst 0, 1, [], 0), (892, .ireturn, 1, [], 0), (893, .aload_n 1, 1, [], 0), (894, .aload_n 0, 1, [], 0), (895, .iload 4, 2, [], 0), (897, .iconst 1, 1, [], 0), (898, .iadd, 1, [], 0), (899, .iaload, 1, [], 0), (900, .aload_n 0, 1, [], 0), (901, .iload 4, 2, [], 0), (903, .iconst 2, 1, [], 0), (904, .iadd, 1, [], 0), (905, .iaload, 1, [], 0), (906, .invokevirtual 116, 3, [0, 3, 137, 11, 980], 0), (909, .aload_n 2, 1, [], 0), (910, .aload_n 0, 1, [], 0), (911, .iload 4, 2, [], 0), (913, .iconst 1, 1, [], 0), (914, .iadd, 1, [], 0), (915, .iaload, 1, [], 0), (916, .aload_n 0, 1, [], 0), (917, .iload 4, 2, [], 0), (919, .iconst 2, 1, [], 0), (920, .iadd, 1, [], 0), (921, .iaload, 1, [], 0), (922, .invokevirtual 119, 3, [0, 3, 241, 12, 1846], 0), (925, .if_icmp .eq 670, 3, [1595], 0), (928, .iconst 0, 1, [], 0), (929, .ireturn, 1, [], 0), (930, .aload_n 1, 1, [], 0), (931, .invokevirtual 120, 3, [0, 1, 138, 11, 1011], 0), (934, .aload_n 2, 1, [], 0), (935, .invokevirtual 123, 3, [0, 1, 242, 12, 1866], 0), (938, .if_icmp .eq 657, 3, [1595], 0), (941, .iconst 0, 1, [], 0), (942, .ireturn, 1, [], 0), (943, .aload_n 1, 1, [], 0), (944, .aload_n 0, 1, [], 0), (945, .iload 4, 2, [], 0), (947, .iconst 1, 1, [], 0), (948, .iadd, 1, [], 0), (949, .iaload, 1, [], 0), (950, .invokevirtual 124, 3, [0, 2, 139, 11, 1019], 0), (953, .aload_n 2, 1, [], 0), (954, .aload_n 0, 1, [], 0), (955, .iload 4, 2, [], 0), (957, .iconst 1, 1, [], 0), (958, .iadd, 1, [], 0), (959, .iaload, 1, [], 0), (960, .invokevirtual 127, 3, [0, 2, 246, 12, 1870], 0), (963, .if_icmp .eq 632, 3, [1595], 0), (966, .iconst 0, 1, [], 0), (967, .ireturn, 1, [], 0), (968, .aload_n 1, 1, [], 0), (969, .aload_n 0, 1, [], 0), (970, .iload 4, 2, [], 0), (972, .iconst 1, 1, [], 0), (973, .iadd, 1, [], 0), (974, .iaload, 1, [], 0), (975, .invokevirtual 128, 3, [0, 2, 140, 11, 1046], 0), (978, .aload_n 2, 1, [], 0), (979, .aload_n 0, 1, [], 0), (980, .iload 4, 2, [], 0), (982, .iconst 1, 1, [], 0), (983, .iadd, 1, [], 0), (984, .iaload, 1, [], 0), (985, .invokevirtual 131, 3, [0, 2, 249, 12, 1882], 0), (988, .if_icmp .eq 607, 3, [1595], 0), (991, .iconst 0, 1, [], 0), (992, .ireturn, 1, [], 0), (993, .aload_n 1, 1, [], 0), (994, .invokevirtual 132, 3, [0, 1, 141, 11, 1069], 0), (997, .aload_n 2, 1, [], 0), (998, .invokevirtual 135, 3, [0, 1, 250, 12, 1899], 0), (1001, .if_icmp .eq 594, 3, [1595], 0), (1004, .iconst 0, 1, [], 0), (1005, .ireturn, 1, [], 0), (1006, .aload_n 1, 1, [], 0), (1007, .invokevirtual 136, 3, [0, 1, 142, 11, 1078], 0), (1010, .aload_n 2, 1, [], 0), (1011, .invokevirtual 139, 3, [0, 1, 251, 12, 1903], 0), (1014, .if_icmp .eq 581, 3, [1595], 0), (1017, .iconst 0, 1, [], 0), (1018, .ireturn, 1, [], 0), (1019, .aload_n 1, 1, [], 0), (1020, .aload_n 0, 1, [], 0), (1021, .iload 4, 2, [], 0), (1023, .iconst 1, 1, [], 0), (1024, .iadd, 1, [], 0), (1025, .iaload, 1, [], 0), (1026, .invokevirtual 140, 3, [0, 2, 143, 11, 1089], 0), (1029, .aload_n 2, 1, [], 0), (1030, .aload_n 0, 1, [], 0), (1031, .iload 4, 2, [], 0), (1033, .iconst 1, 1, [], 0), (1034, .iadd, 1, [], 0), (1035, .iaload, 1, [], 0), (1036, .invokevirtual 143, 3, [0, 2, 254, 12, 1907], 0), (1039, .if_icmp .eq 556, 3, [1595], 0), (1042, .iconst 0, 1, [], 0), (1043, .ireturn, 1, [], 0), (1044, .aload_n 1, 1, [], 0), (1045, .invokevirtual 144, 3, [0, 1, 144, 11, 1098], 0), (1048, .aload_n 2, 1, [], 0), (1049, .invokevirtual 147, 3, [0, 1, 255, 12, 1920], 0), (1052, .if_icmp .eq 543, 3, [1595], 0), (1055, .iconst 0, 1, [], 0), (1056, .ireturn, 1, [], 0), (1057, .aload_n 1, 1, [], 0), (1058, .aload_n 0, 1, [], 0), (1059, .iload 4, 2, [], 0), (1061, .iconst 1, 1, [], 0), (1062, .iadd, 1, [], 0), (1063, .iaload, 1, [], 0), (1064, .invokevirtual 148, 3, [0, 2, 145, 11, 1103], 0), (1067, .aload_n 2, 1, [], 0), (1068, .aload_n 0, 1, [], 0), (1069, .iload 4, 2, [], 0), (1071, .iconst 1, 1, [], 0), (1072, .iadd, 1, [], 0), (1073, .iaload, 1, [], 0), (1074, .invokevirtual 151, 3, [0, 2, 256, 12, 1925], 0), (1077, .if_icmp .eq 518, 3, [1595], 0), (1080, .iconst 0, 1, [], 0), (1081, .ireturn, 1, [], 0), (1082, .aload_n 1, 1, [], 0), (1083, .aload_n 0, 1, [], 0), (1084, .iload 4, 2, [], 0), (1086, .iconst 1, 1, [], 0), (1087, .iadd, 1, [], 0), (1088, .iaload, 1, [], 0), (1089, .aload_n 0, 1, [], 0), (1090, .iload 4, 2, [], 0), (1092, .iconst 2, 1, [], 0), (1093, .iadd, 1, [], 0), (1094, .iaload, 1, [], 0), (1095, .aload_n 0, 1, [], 0), (1096, .iload 4, 2, [], 0), (1098, .iconst 3, 1, [], 0), (1099, .iadd, 1, [], 0), (1100, .iaload, 1, [], 0), (1101, .aload_n 0, 1, [], 0), (1102, .iload 4, 2, [], 0), (1104, .iconst 4, 1, [], 0), (1105, .iadd, 1, [], 0), (1106, .iaload, 1, [], 0), (1107, .invokevirtual 152, 3, [0, 5, 146, 11, 1109], 0), (1110, .aload_n 2, 1, [], 0), (1111, .aload_n 0, 1, [], 0), (1112, .iload 4, 2, [], 0), (1114, .iconst 1, 1, [], 0), (1115, .iadd, 1, [], 0), (1116, .iaload, 1, [], 0), (1117, .aload_n 0, 1, [], 0), (1118, .iload 4, 2, [], 0), (1120, .iconst 2, 1, [], 0), (1121, .iadd, 1, [], 0), (1122, .iaload, 1, [], 0), (1123, .aload_n 0, 1, [], 0), (1124, .iload 4, 2, [], 0), (1126, .iconst 3, 1, [], 0), (1127, .iadd, 1, [], 0), (1128, .iaload, 1, [], 0), (1129, .aload_n 0, 1, [], 0), (1130, .iload 4, 2, [], 0), (1132, .iconst 4, 1, [], 0), (1133, .iadd, 1, [], 0), (1134, .iaload, 1, [], 0), (1135, .invokevirtual 155, 3, [0, 5, 261, 12, 1929], 0), (1138, .if_icmp .eq 457, 3, [1595], 0), (1141, .iconst 0, 1, [], 0), (1142, .ireturn, 1, [], 0), (1143, .aload_n 1, 1, [], 0), (1144, .aload_n 0, 1, [], 0), (1145, .iload 4, 2, [], 0), (1147, .iconst 1, 1, [], 0), (1148, .iadd, 1, [], 0), (1149, .iaload, 1, [], 0), (1150, .aload_n 0, 1, [], 0), (1151, .iload 4, 2, [], 0), (1153, .iconst 2, 1, [], 0), (1154, .iadd, 1, [], 0), (1155, .iaload, 1, [], 0), (1156, .aload_n 0, 1, [], 0), (1157, .iload 4, 2, [], 0), (1159, .iconst 3, 1, [], 0), (1160, .iadd, 1, [], 0), (1161, .iaload, 1, [], 0), (1162, .invokevirtual 156, 3, [0, 4, 147, 11, 1136], 0), (1165, .aload_n 2, 1, [], 0), (1166, .aload_n 0, 1, [], 0), (1167, .iload 4, 2, [], 0), (1169, .iconst 1, 1, [], 0), (1170, .iadd, 1, [], 0), (1171, .iaload, 1, [], 0), (1172, .aload_n 0, 1, [], 0), (1173, .iload 4, 2, [], 0), (1175, .iconst 2, 1, [], 0), (1176, .iadd, 1, [], 0), (1177, .iaload, 1, [], 0), (1178, .aload_n 0, 1, [], 0), (1179, .iload 4, 2, [], 0), (1181, .iconst 3, 1, [], 0), (1182, .iadd, 1, [], 0), (1183, .iaload, 1, [], 0), (1184, .invokevirtual 160, 3, [0, 4, 262, 12, 1954], 0), (1187, .if_icmp .eq 408, 3, [1595], 0), (1190, .iconst 0, 1, [], 0), (1191, .ireturn, 1, [], 0), (1192, .aload_n 1, 1, [], 0), (1193, .aload_n 0, 1, [], 0), (1194, .iload 4, 2, [], 0), (1196, .iconst 1, 1, [], 0), (1197, .iadd, 1, [], 0), (1198, .iaload, 1, [], 0), (1199, .aload_n 0, 1, [], 0), (1200, .iload 4, 2, [], 0), (1202, .iconst 2, 1, [], 0), (1203, .iadd, 1, [], 0), (1204, .iaload, 1, [], 0), (1205, .aload_n 0, 1, [], 0), (1206, .iload 4, 2, [], 0), (1208, .iconst 3, 1, [], 0), (1209, .iadd, 1, [], 0), (1210, .iaload, 1, [], 0), (1211, .invokevirtual 161, 3, [0, 4, 148, 11, 1144], 0), (1214, .aload_n 2, 1, [], 0), (1215, .aload_n 0, 1, [], 0), (1216, .iload 4, 2, [], 0), (1218, .iconst 1, 1, [], 0), (1219, .iadd, 1, [], 0), (1220, .iaload, 1, [], 0), (1221, .aload_n 0, 1, [], 0), (1222, .iload 4, 2, [], 0), (1224, .iconst 2, 1, [], 0), (1225, .iadd, 1, [], 0), (1226, .iaload, 1, [], 0), (1227, .aload_n 0, 1, [], 0), (1228, .iload 4, 2, [], 0), (1230, .iconst 3, 1, [], 0), (1231, .iadd, 1, [], 0), (1232, .iaload, 1, [], 0), (1233, .invokevirtual 164, 3, [0, 4, 264, 12, 1958], 0), (1236, .if_icmp .eq 359, 3, [1595], 0), (1239, .iconst 0, 1, [], 0), (1240, .ireturn, 1, [], 0), (1241, .aload_n 1, 1, [], 0), (1242, .invokevirtual 165, 3, [0, 1, 149, 11, 1155], 0), (1245, .aload_n 2, 1, [], 0), (1246, .invokevirtual 168, 3, [0, 1, 265, 12, 1965], 0), (1249, .if_icmp .eq 346, 3, [1595], 0), (1252, .iconst 0, 1, [], 0), (1253, .ireturn, 1, [], 0), (1254, .aload_n 1, 1, [], 0), (1255, .invokevirtual 169, 3, [0, 1, 150, 11, 1159], 0), (1258, .aload_n 2, 1, [], 0), (1259, .invokevirtual 172, 3, [0, 1, 268, 12, 1969], 0), (1262, .if_icmp .eq 333, 3, [1595], 0), (1265, .iconst 0, 1, [], 0), (1266, .ireturn, 1, [], 0), (1267, .aload_n 1, 1, [], 0), (1268, .invokevirtual 173, 3, [0, 1, 151, 11, 1175], 0), (1271, .aload_n 2, 1, [], 0), (1272, .invokevirtual 176, 3, [0, 1, 269, 12, 1981], 0), (1275, .if_icmp .eq 320, 3, [1595], 0), (1278, .iconst 0, 1, [], 0), (1279, .ireturn, 1, [], 0), (1280, .aload_n 1, 1, [], 0), (1281, .aload_n 0, 1, [], 0), (1282, .iload 4, 2, [], 0), (1284, .iconst 1, 1, [], 0), (1285, .iadd, 1, [], 0), (1286, .iaload, 1, [], 0), (1287, .aload_n 0, 1, [], 0), (1288, .iload 4, 2, [], 0), (1290, .iconst 2, 1, [], 0), (1291, .iadd, 1, [], 0), (1292, .iaload, 1, [], 0), (1293, .aload_n 0, 1, [], 0), (1294, .iload 4, 2, [], 0), (1296, .iconst 3, 1, [], 0), (1297, .iadd, 1, [], 0), (1298, .iaload, 1, [], 0), (1299, .aload_n 0, 1, [], 0), (1300, .iload 4, 2, [], 0), (1302, .iconst 4, 1, [], 0), (1303, .iadd, 1, [], 0), (1304, .iaload, 1, [], 0), (1305, .invokevirtual 177, 3, [0, 5, 152, 11, 1187], 0), (1308, .aload_n 2, 1, [], 0), (1309, .aload_n 0, 1, [], 0), (1310, .iload 4, 2, [], 0), (1312, .iconst 1, 1, [], 0), (1313, .iadd, 1, [], 0), (1314, .iaload, 1, [], 0), (1315, .aload_n 0, 1, [], 0), (1316, .iload 4, 2, [], 0), (1318, .iconst 2, 1, [], 0), (1319, .iadd, 1, [], 0), (1320, .iaload, 1, [], 0), (1321, .aload_n 0, 1, [], 0), (1322, .iload 4, 2, [], 0), (1324, .iconst 3, 1, [], 0), (1325, .iadd, 1, [], 0), (1326, .iaload, 1, [], 0), (1327, .aload_n 0, 1, [], 0), (1328, .iload 4, 2, [], 0), (1330, .iconst 4, 1, [], 0), (1331, .iadd, 1, [], 0), (1332, .iaload, 1, [], 0), (1333, .invokevirtual 180, 3, [0, 5, 272, 12, 1985], 0), (1336, .if_icmp .eq 259, 3, [1595], 0), (1339, .iconst 0, 1, [], 0), (1340, .ireturn, 1, [], 0), (1341, .aload_n 1, 1, [], 0), (1342, .aload_n 0, 1, [], 0), (1343, .iload 4, 2, [], 0), (1345, .iconst 1, 1, [], 0), (1346, .iadd, 1, [], 0), (1347, .iaload, 1, [], 0), (1348, .aload_n 0, 1, [], 0), (1349, .iload 4, 2, [], 0), (1351, .iconst 2, 1, [], 0), (1352, .iadd, 1, [], 0), (1353, .iaload, 1, [], 0), (1354, .aload_n 0, 1, [], 0), (1355, .iload 4, 2, [], 0), (1357, .iconst 3, 1, [], 0), (1358, .iadd, 1, [], 0), (1359, .iaload, 1, [], 0), (1360, .invokevirtual 181, 3, [0, 4, 153, 11, 1194], 0), (1363, .aload_n 2, 1, [], 0), (1364, .aload_n 0, 1, [], 0), (1365, .iload 4, 2, [], 0), (1367, .iconst 1, 1, [], 0), (1368, .iadd, 1, [], 0), (1369, .iaload, 1, [], 0), (1370, .aload_n 0, 1, [], 0), (1371, .iload 4, 2, [], 0), (1373, .iconst 2, 1, [], 0), (1374, .iadd, 1, [], 0), (1375, .iaload, 1, [], 0), (1376, .aload_n 0, 1, [], 0), (1377, .iload 4, 2, [], 0), (1379, .iconst 3, 1, [], 0), (1380, .iadd, 1, [], 0), (1381, .iaload, 1, [], 0), (1382, .invokevirtual 184, 3, [0, 4, 273, 12, 1998], 0), (1385, .if_icmp .eq 210, 3, [1595], 0), (1388, .iconst 0, 1, [], 0), (1389, .ireturn, 1, [], 0), (1390, .aload_n 1, 1, [], 0), (1391, .aload_n 0, 1, [], 0), (1392, .iload 4, 2, [], 0), (1394, .iconst 1, 1, [], 0), (1395, .iadd, 1, [], 0), (1396, .iaload, 1, [], 0), (1397, .invokevirtual 185, 3, [0, 2, 154, 11, 1198], 0), (1400, .aload_n 2, 1, [], 0), (1401, .aload_n 0, 1, [], 0), (1402, .iload 4, 2, [], 0), (1404, .iconst 1, 1, [], 0), (1405, .iadd, 1, [], 0), (1406, .iaload, 1, [], 0), (1407, .invokevirtual 188, 3, [0, 2, 276, 12, 2002], 0), (1410, .if_icmp .eq 185, 3, [1595], 0), (1413, .iconst 0, 1, [], 0), (1414, .ireturn, 1, [], 0), (1415, .aload_n 1, 1, [], 0), (1416, .invokevirtual 189, 3, [0, 1, 155, 11, 1208], 0), (1419, .aload_n 2, 1, [], 0), (1420, .invokevirtual 192, 3, [0, 1, 278, 12, 2012], 0), (1423, .if_icmp .eq 172, 3, [1595], 0), (1426, .iconst 0, 1, [], 0), (1427, .ireturn, 1, [], 0), (1428, .aload_n 1, 1, [], 0), (1429, .aload_n 0, 1, [], 0), (1430, .iload 4, 2, [], 0), (1432, .iconst 1, 1, [], 0), (1433, .iadd, 1, [], 0), (1434, .iaload, 1, [], 0), (1435, .aload_n 0, 1, [], 0), (1436, .iload 4, 2, [], 0), (1438, .iconst 2, 1, [], 0), (1439, .iadd, 1, [], 0), (1440, .iaload, 1, [], 0), (1441, .invokevirtual 193, 3, [0, 3, 156, 11, 1217], 0), (1444, .aload_n 2, 1, [], 0), (1445, .aload_n 0, 1, [], 0), (1446, .iload 4, 2, [], 0), (1448, .iconst 1, 1, [], 0), (1449, .iadd, 1, [], 0), (1450, .iaload, 1, [], 0), (1451, .aload_n 0, 1, [], 0), (1452, .iload 4, 2, [], 0), (1454, .iconst 2, 1, [], 0), (1455, .iadd, 1, [], 0), (1456, .iaload, 1, [], 0), (1457, .invokevirtual 196, 3, [0, 3, 281, 12, 2021], 0), (1460, .if_icmp .eq 135, 3, [1595], 0), (1463, .iconst 0, 1, [], 0), (1464, .ireturn, 1, [], 0), (1465, .aload_n 1, 1, [], 0), (1466, .aload_n 0, 1, [], 0), (1467, .iload 4, 2, [], 0), (1469, .iconst 1, 1, [], 0), (1470, .iadd, 1, [], 0), (1471, .iaload, 1, [], 0), (1472, .invokevirtual 197, 3, [0, 2, 157, 11, 1243], 0), (1475, .aload_n 2, 1, [], 0), (1476, .aload_n 0, 1, [], 0), (1477, .iload 4, 2, [], 0), (1479, .iconst 1, 1, [], 0), (1480, .iadd, 1, [], 0), (1481, .iaload, 1, [], 0), (1482, .invokevirtual 200, 3, [0, 2, 282, 12, 2035], 0), (1485, .if_icmp .eq 110, 3, [1595], 0), (1488, .iconst 0, 1, [], 0), (1489, .ireturn, 1, [], 0), (1490, .aload_n 1, 1, [], 0), (1491, .aload_n 0, 1, [], 0), (1492, .iload 4, 2, [], 0), (1494, .iconst 1, 1, [], 0), (1495, .iadd, 1, [], 0), (1496, .iaload, 1, [], 0), (1497, .invokevirtual 201, 3, [0, 2, 158, 11, 1251], 0), (1500, .aload_n 2, 1, [], 0), (1501, .aload_n 0, 1, [], 0), (1502, .iload 4, 2, [], 0), (1504, .iconst 1, 1, [], 0), (1505, .iadd, 1, [], 0), (1506, .iaload, 1, [], 0), (1507, .invokevirtual 204, 3, [0, 2, 283, 12, 2040], 0), (1510, .if_icmp .eq 85, 3, [1595], 0), (1513, .iconst 0, 1, [], 0), (1514, .ireturn, 1, [], 0), (1515, .aload_n 1, 1, [], 0), (1516, .aload_n 0, 1, [], 0), (1517, .iload 4, 2, [], 0), (1519, .iconst 1, 1, [], 0), (1520, .iadd, 1, [], 0), (1521, .iaload, 1, [], 0), (1522, .invokevirtual 205, 3, [0, 2, 159, 11, 1259], 0), (1525, .aload_n 2, 1, [], 0), (1526, .aload_n 0, 1, [], 0), (1527, .iload 4, 2, [], 0), (1529, .iconst 1, 1, [], 0), (1530, .iadd, 1, [], 0), (1531, .iaload, 1, [], 0), (1532, .invokevirtual 208, 3, [0, 2, 285, 12, 2044], 0), (1535, .if_icmp .eq 60, 3, [1595], 0), (1538, .iconst 0, 1, [], 0), (1539, .ireturn, 1, [], 0), (1540, .aload_n 1, 1, [], 0), (1541, .aload_n 0, 1, [], 0), (1542, .iload 4, 2, [], 0), (1544, .iconst 1, 1, [], 0), (1545, .iadd, 1, [], 0), (1546, .iaload, 1, [], 0), (1547, .aload_n 3, 1, [], 0), (1548, .invokestatic 209, 3, [9, 3, 1003, 0, 1366, 1367, 86, 1368], 0), (1551, .istore 5, 2, [], 0), (1553, .aload_n 2, 1, [], 0), (1554, .aload_n 0, 1, [], 0), (1555, .iload 4, 2, [], 0), (1557, .iconst 1, 1, [], 0), (1558, .iadd, 1, [], 0), (1559, .iaload, 1, [], 0), (1560, .invokevirtual 212, 3, [0, 2, 286, 12, 2052], 0), (1563, .lstore 6, 2, [], 0), (1565, .aload_n 2, 1, [], 0), (1566, .invokevirtual 62, 3, [0, 1, 169, 12, 1561], 0), (1569, .iload 5, 2, [], 0), (1571, .if_icmp .eq 5, 3, [1576], 0), (1574, .iconst 0, 1, [], 0), (1575, .ireturn, 1, [], 0), (1576, .iload 5, 2, [], 0), (1578, .ifCond .ne 14, 3, [1592], 0), (1581, .aload_n 3, 1, [], 0), (1582, .iconst 0, 1, [], 0), (1583, .laload, 1, [], 0), (1584, .lload 6, 2, [], 0), (1586, .lcmp, 1, [], 0), (1587, .ifCond .eq 5, 3, [1592], 0), (1590, .iconst 0, 1, [], 0), (1591, .ireturn, 1, [], 0), (1592, .goto 3, 3, [1595], 0), (1595, .iinc 4 5, 3, [], 0), (1598, .goto (-1575), 3, [23], 0), (1601, .iconst 1, 1, [], 0), (1602, .ireturn, 1, [], 0)])
end
section
set_option maxRecDepth 100000 in
theorem pj_mk0 : pj_okR pj_prog pj_m0 = true := by decide +kernel
set_option maxRecDepth 100000 in
theorem pj_mk1 : pj_okR pj_prog pj_m1 = true := by decide +kernel
set_option maxRecDepth 100000 in
theorem pj_mk2 : pj_okR pj_prog pj_m2 = true := by decide +kernel
set_option maxRecDepth 100000 in
theorem pj_mk3 : pj_okR pj_prog pj_m3 = true := by decide +kernel
set_option maxRecDepth 100000 in
theorem pj_mk4 : pj_okR pj_prog pj_m4 = true := by decide +kernel
set_option maxRecDepth 100000 in
theorem pj_mk5 : pj_okR pj_prog pj_m5 = true := by decide +kernel
set_option maxRecDepth 100000 in
theorem pj_mk6 : pj_okR pj_prog pj_m6 = true := by decide +kernel
set_option maxRecDepth 100000 in
theorem pj_mk7 : pj_okR pj_prog pj_m7 = true := by decide +kernel
set_option maxRecDepth 100000 in
theorem pj_mk8 : pj_okR pj_prog pj_m8 = true := by decide +kernel
set_option maxRecDepth 100000 in
theorem pj_mk9 : pj_okR pj_prog pj_m9 = true := by decide +kernel
set_option maxRecDepth 100000 in
theorem pj_mk10 : pj_okR pj_prog pj_m10 = true := by decide +kernel
set_option maxRecDepth 100000 in
theorem pj_mk11 : pj_okR pj_prog pj_m11 = true := by decide +kernel
set_option maxRecDepth 100000 in
theorem pj_mk12 : pj_okR pj_prog pj_m12 = true := by decide +kernel
set_option maxRecDepth 100000 in
theorem pj_mk13 : pj_okR pj_prog pj_m13 = true := by decide +kernel
set_option maxRecDepth 100000 in
theorem pj_mk14 : pj_okR pj_prog pj_m14 = true := by decide +kernel
set_option maxRecDepth 100000 in
theorem pj_mk15 : pj_okR pj_prog pj_m15 = true := by decide +kernel
set_option maxRecDepth 100000 in
theorem pj_mk16 : pj_okR pj_prog pj_m16 = true := by decide +kernel
set_option maxRecDepth 100000 in
theorem pj_mk17 : pj_okR pj_prog pj_m17 = true := by decide +kernel
set_option maxRecDepth 100000 in
theorem pj_mk18 : pj_okR pj_prog pj_m18 = true := by decide +kernel
set_option maxRecDepth 100000 in
theorem pj_mk19 : pj_okR pj_prog pj_m19 = true := by decide +kernel
set_option maxRecDepth 100000 in
theorem pj_mk20 : pj_okR pj_prog pj_m20 = true := by decide +kernel
set_option maxRecDepth 100000 in
theorem pj_mk21 : pj_okR pj_prog pj_m21 = true := by decide +kernel
set_option maxRecDepth 100000 in
theorem pj_mk22 : pj_okR pj_prog pj_m22 = true := by decide +kernel
end
section
set_option maxRecDepth 100000 in
theorem pj_mk23 : pj_okR pj_prog pj_m23 = true := by decide +kernel
set_option maxRecDepth 100000 in
theorem pj_mk24 : pj_okR pj_prog pj_m24 = true := by decide +kernel
set_option maxRecDepth 100000 in
theorem pj_mk25 : pj_okR pj_prog pj_m25 = true := by decide +kernel
set_option maxRecDepth 100000 in
theorem pj_mk26 : pj_okR pj_prog pj_m26 = true := by decide +kernel
set_option maxRecDepth 100000 in
theorem pj_mk27 : pj_okR pj_prog pj_m27 = true := by decide +kernel
set_option maxRecDepth 100000 in
theorem pj_mk28 : pj_okR pj_prog pj_m28 = true := by decide +kernel
set_option maxRecDepth 100000 in
theorem pj_mk29 : pj_okR pj_prog pj_m29 = true := by decide +kernel
set_option maxRecDepth 100000 in
theorem pj_mk30 : pj_okR pj_prog pj_m30 = true := by decide +kernel
set_option maxRecDepth 100000 in
theorem pj_mk31 : pj_okR pj_prog pj_m31 = true := by decide +kernel
set_option maxRecDepth 100000 in
theorem pj_mk32 : pj_okR pj_prog pj_m32 = true := by decide +kernel
set_option maxRecDepth 100000 in
theorem pj_mk33 : pj_okR pj_prog pj_m33 = true := by decide +kernel
set_option maxRecDepth 100000 in
theorem pj_mk34 : pj_okR pj_prog pj_m34 = true := by decide +kernel
set_option maxRecDepth 100000 in
theorem pj_mk35 : pj_okR pj_prog pj_m35 = true := by decide +kernel
set_option maxRecDepth 100000 in
theorem pj_mk36 : pj_okR pj_prog pj_m36 = true := by decide +kernel
set_option maxRecDepth 100000 in
theorem pj_mk37 : pj_okR pj_prog pj_m37 = true := by decide +kernel
set_option maxRecDepth 100000 in
theorem pj_mk38 : pj_okR pj_prog pj_m38 = true := by decide +kernel
set_option maxRecDepth 100000 in
theorem pj_mk39 : pj_okR pj_prog pj_m39 = true := by decide +kernel
set_option maxRecDepth 100000 in
theorem pj_mk40 : pj_okR pj_prog pj_m40 = true := by decide +kernel
set_option maxRecDepth 100000 in
theorem pj_mk41 : pj_okR pj_prog pj_m41 = true := by decide +kernel
set_option maxRecDepth 100000 in
theorem pj_mk42 : pj_okR pj_prog pj_m42 = true := by decide +kernel
set_option maxRecDepth 100000 in
theorem pj_mk43 : pj_okR pj_prog pj_m43 = true := by decide +kernel
set_option maxRecDepth 100000 in
theorem pj_mk44 : pj_okR pj_prog pj_m44 = true := by decide +kernel
set_option maxRecDepth 100000 in
theorem pj_mk45 : pj_okR pj_prog pj_m45 = true := by decide +kernel
set_option maxRecDepth 100000 in
theorem pj_mk46 : pj_okR pj_prog pj_m46 = true := by decide +kernel
set_option maxRecDepth 100000 in
theorem pj_mk47 : pj_okR pj_prog pj_m47 = true := by decide +kernel
set_option maxRecDepth 100000 in
theorem pj_mk48 : pj_okR pj_prog pj_m48 = true := by decide +kernel
end
section
set_option maxRecDepth 100000 in
theorem pj_mk49 : pj_okR pj_prog pj_m49 = true := by decide +kernel
set_option maxRecDepth 100000 in
theorem pj_mk50 : pj_okR pj_prog pj_m50 = true := by decide +kernel
set_option maxRecDepth 100000 in
theorem pj_mk51 : pj_okR pj_prog pj_m51 = true := by decide +kernel
set_option maxRecDepth 100000 in
theorem pj_mk52 : pj_okR pj_prog pj_m52 = true := by decide +kernel
set_option maxRecDepth 100000 in
theorem pj_mk53 : pj_okR pj_prog pj_m53 = true := by decide +kernel
set_option maxRecDepth 100000 in
theorem pj_mk54 : pj_okR pj_prog pj_m54 = true := by decide +kernel
set_option maxRecDepth 100000 in
theorem pj_mk55 : pj_okR pj_prog pj_m55 = true := by decide +kernel
set_option maxRecDepth 100000 in
theorem pj_mk56 : pj_okR pj_prog pj_m56 = true := by decide +kernel
set_option maxRecDepth 100000 in
theorem pj_mk57 : pj_okR pj_prog pj_m57 = true := by decide +kernel
set_option maxRecDepth 100000 in
theorem pj_mk58 : pj_okR pj_prog pj_m58 = true := by decide +kernel
set_option maxRecDepth 100000 in
theorem pj_mk59 : pj_okR pj_prog pj_m59 = true := by decide +kernel
set_option maxRecDepth 100000 in
theorem pj_mk60 : pj_okR pj_prog pj_m60 = true := by decide +kernel
set_option maxRecDepth 100000 in
theorem pj_mk61 : pj_okR pj_prog pj_m61 = true := by decide +kernel
set_option maxRecDepth 100000 in
theorem pj_mk62 : pj_okR pj_prog pj_m62 = true := by decide +kernel
set_option maxRecDepth 100000 in
theorem pj_mk63 : pj_okR pj_prog pj_m63 = true := by decide +kernel
set_option maxRecDepth 100000 in
theorem pj_mk64 : pj_okR pj_prog pj_m64 = true := by decide +kernel
set_option maxRecDepth 100000 in
theorem pj_mk65 : pj_okR pj_prog pj_m65 = true := by decide +kernel
set_option maxRecDepth 100000 in
theorem pj_mk66 : pj_okR pj_prog pj_m66 = true := by decide +kernel
set_option maxRecDepth 100000 in
theorem pj_mk67 : pj_okR pj_prog pj_m67 = true := by decide +kernel
set_option maxRecDepth 100000 in
theorem pj_mk68 : pj_okR pj_prog pj_m68 = true := by decide +kernel
set_option maxRecDepth 100000 in
theorem pj_mk69 : pj_okR pj_prog pj_m69 = true := by decide +kernel
set_option maxRecDepth 100000 in
theorem pj_mk70 : pj_okR pj_prog pj_m70 = true := by decide +kernel
set_option maxRecDepth 100000 in
theorem pj_mk71 : pj_okR pj_prog pj_m71 = true := by decide +kernel
set_option maxRecDepth 100000 in
theorem pj_mk72 : pj_okR pj_prog pj_m72 = true := by decide +kernel
set_option maxRecDepth 100000 in
theorem pj_mk73 : pj_okR pj_prog pj_m73 = true := by decide +kernel
set_option maxRecDepth 100000 in
theorem pj_mk74 : pj_okR pj_prog pj_m74 = true := by decide +kernel
set_option maxRecDepth 100000 in
theorem pj_mk75 : pj_okR pj_prog pj_m75 = true := by decide +kernel
set_option maxRecDepth 100000 in
theorem pj_mk76 : pj_okR pj_prog pj_m76 = true := by decide +kernel
set_option maxRecDepth 100000 in
theorem pj_mk77 : pj_okR pj_prog pj_m77 = true := by decide +kernel
set_option maxRecDepth 100000 in
theorem pj_mk78 : pj_okR pj_prog pj_m78 = true := by decide +kernel
set_option maxRecDepth 100000 in
theorem pj_mk79 : pj_okR pj_prog pj_m79 = true := by decide +kernel
set_option maxRecDepth 100000 in
theorem pj_mk80 : pj_okR pj_prog pj_m80 = true := by decide +kernel
set_option maxRecDepth 100000 in
theorem pj_mk81 : pj_okR pj_prog pj_m81 = true := by decide +kernel
set_option maxRecDepth 100000 in
theorem pj_mk82 : pj_okR pj_prog pj_m82 = true := by decide +kernel
end
section
set_option maxRecDepth 100000 in
theorem pj_mk83 : pj_okR pj_prog pj_m83 = true := by decide +kernel
set_option maxRecDepth 100000 in
theorem pj_mk84 : pj_okR pj_prog pj_m84 = true := by decide +kernel
set_option maxRecDepth 100000 in
theorem pj_mk85 : pj_okR pj_prog pj_m85 = true := by decide +kernel
set_option maxRecDepth 100000 in
theorem pj_mk86 : pj_okR pj_prog pj_m86 = true := by decide +kernel
set_option maxRecDepth 100000 in
theorem pj_mk87 : pj_okR pj_prog pj_m87 = true := by decide +kernel
set_option maxRecDepth 100000 in
theorem pj_mk88 : pj_okR pj_prog pj_m88 = true := by decide +kernel
set_option maxRecDepth 100000 in
theorem pj_mk89 : pj_okR pj_prog pj_m89 = true := by decide +kernel
set_option maxRecDepth 100000 in
theorem pj_mk90 : pj_okR pj_prog pj_m90 = true := by decide +kernel
set_option maxRecDepth 100000 in
theorem pj_mk91 : pj_okR pj_prog pj_m91 = true := by decide +kernel
set_option maxRecDepth 100000 in
theorem pj_mk92 : pj_okR pj_prog pj_m92 = true := by decide +kernel
set_option maxRecDepth 100000 in
theorem pj_mk93 : pj_okR pj_prog pj_m93 = true := by decide +kernel
set_option maxRecDepth 100000 in
theorem pj_mk94 : pj_okR pj_prog pj_m94 = true := by decide +kernel
set_option maxRecDepth 100000 in
theorem pj_mk95 : pj_okR pj_prog pj_m95 = true := by decide +kernel
set_option maxRecDepth 100000 in
theorem pj_mk96 : pj_okR pj_prog pj_m96 = true := by decide +kernel
set_option maxRecDepth 100000 in
theorem pj_mk97 : pj_okR pj_prog pj_m97 = true := by decide +kernel
set_option maxRecDepth 100000 in
theorem pj_mk98 : pj_okR pj_prog pj_m98 = true := by decide +kernel
set_option maxRecDepth 100000 in
theorem pj_mk99 : pj_okR pj_prog pj_m99 = true := by decide +kernel
set_option maxRecDepth 100000 in
theorem pj_mk100 : pj_okR pj_prog pj_m100 = true := by decide +kernel
set_option maxRecDepth 100000 in
theorem pj_mk101 : pj_okR pj_prog pj_m101 = true := by decide +kernel
set_option maxRecDepth 100000 in
theorem pj_mk102 : pj_okR pj_prog pj_m102 = true := by decide +kernel
set_option maxRecDepth 100000 in
theorem pj_mk103 : pj_okR pj_prog pj_m103 = true := by decide +kernel
set_option maxRecDepth 100000 in
theorem pj_mk104 : pj_okR pj_prog pj_m104 = true := by decide +kernel
set_option maxRecDepth 100000 in
theorem pj_mk105 : pj_okR pj_prog pj_m105 = true := by decide +kernel
set_option maxRecDepth 100000 in
theorem pj_mk106 : pj_okR pj_prog pj_m106 = true := by decide +kernel
set_option maxRecDepth 100000 in
theorem pj_mk107 : pj_okR pj_prog pj_m107 = true := by decide +kernel
set_option maxRecDepth 100000 in
theorem pj_mk108 : pj_okR pj_prog pj_m108 = true := by decide +kernel
end
section
set_option maxRecDepth 100000 in
theorem pj_mk109 : pj_okR pj_prog pj_m109 = true := by decide +kernel
set_option maxRecDepth 100000 in
theorem pj_mk110 : pj_okR pj_prog pj_m110 = true := by decide +kernel
set_option maxRecDepth 100000 in
theorem pj_mk111 : pj_okR pj_prog pj_m111 = true := by decide +kernel
set_option maxRecDepth 100000 in
theorem pj_mk112 : pj_okR pj_prog pj_m112 = true := by decide +kernel
set_option maxRecDepth 100000 in
theorem pj_mk113 : pj_okR pj_prog pj_m113 = true := by decide +kernel
set_option maxRecDepth 100000 in
theorem pj_mk114 : pj_okR pj_prog pj_m114 = true := by decide +kernel
set_option maxRecDepth 100000 in
theorem pj_mk115 : pj_okR pj_prog pj_m115 = true := by decide +kernel
set_option maxRecDepth 100000 in
theorem pj_mk116 : pj_okR pj_prog pj_m116 = true := by decide +kernel
set_option maxRecDepth 100000 in
theorem pj_mk117 : pj_okR pj_prog pj_m117 = true := by decide +kernel
set_option maxRecDepth 100000 in
theorem pj_mk118 : pj_okR pj_prog pj_m118 = true := by decide +kernel
set_option maxRecDepth 100000 in
theorem pj_mk119 : pj_okR pj_prog pj_m119 = true := by decide +kernel
set_option maxRecDepth 100000 in
theorem pj_mk120 : pj_okR pj_prog pj_m120 = true := by decide +kernel
set_option maxRecDepth 100000 in
theorem pj_mk121 : pj_okR pj_prog pj_m121 = true := by decide +kernel
set_option maxRecDepth 100000 in
theorem pj_mk122 : pj_okR pj_prog pj_m122 = true := by decide +kernel
set_option maxRecDepth 100000 in
theorem pj_mk123 : pj_okR pj_prog pj_m123 = true := by decide +kernel
set_option maxRecDepth 100000 in
theorem pj_mk124 : pj_okR pj_prog pj_m124 = true := by decide +kernel
set_option maxRecDepth 100000 in
theorem pj_mk125 : pj_okR pj_prog pj_m125 = true := by decide +kernel
set_option maxRecDepth 100000 in
theorem pj_mk126 : pj_okR pj_prog pj_m126 = true := by decide +kernel
set_option maxRecDepth 100000 in
theorem pj_mk127 : pj_okR pj_prog pj_m127 = true := by decide +kernel
set_option maxRecDepth 100000 in
theorem pj_mk128 : pj_okR pj_prog pj_m128 = true := by decide +kernel
set_option maxRecDepth 100000 in
theorem pj_mk129 : pj_okR pj_prog pj_m129 = true := by decide +kernel
set_option maxRecDepth 100000 in
theorem pj_mk130 : pj_okR pj_prog pj_m130 = true := by decide +kernel
set_option maxRecDepth 100000 in
theorem pj_mk131 : pj_okR pj_prog pj_m131 = true := by decide +kernel
set_option maxRecDepth 100000 in
theorem pj_mk132 : pj_okR pj_prog pj_m132 = true := by decide +kernel
set_option maxRecDepth 100000 in
theorem pj_mk133 : pj_okR pj_prog pj_m133 = true := by decide +kernel
end
section
set_option maxRecDepth 100000 in
theorem pj_mk134 : pj_okR pj_prog pj_m134 = true := by decide +kernel
set_option maxRecDepth 100000 in
theorem pj_mk135 : pj_okR pj_prog pj_m135 = true := by decide +kernel
set_option maxRecDepth 100000 in
theorem pj_mk136 : pj_okR pj_prog pj_m136 = true := by decide +kernel
set_option maxRecDepth 100000 in
theorem pj_mk137 : pj_okR pj_prog pj_m137 = true := by decide +kernel
set_option maxRecDepth 100000 in
theorem pj_mk138 : pj_okR pj_prog pj_m138 = true := by decide +kernel
set_option maxRecDepth 100000 in
theorem pj_mk139 : pj_okR pj_prog pj_m139 = true := by decide +kernel
set_option maxRecDepth 100000 in
theorem pj_mk140 : pj_okR pj_prog pj_m140 = true := by decide +kernel
set_option maxRecDepth 100000 in
theorem pj_mk141 : pj_okR pj_prog pj_m141 = true := by decide +kernel
set_option maxRecDepth 100000 in
theorem pj_mk142 : pj_okR pj_prog pj_m142 = true := by decide +kernel
set_option maxRecDepth 100000 in
theorem pj_mk143 : pj_okR pj_prog pj_m143 = true := by decide +kernel
set_option maxRecDepth 100000 in
theorem pj_mk144 : pj_okR pj_prog pj_m144 = true := by decide +kernel
set_option maxRecDepth 100000 in
theorem pj_mk145 : pj_okR pj_prog pj_m145 = true := by decide +kernel
set_option maxRecDepth 100000 in
theorem pj_mk146 : pj_okR pj_prog pj_m146 = true := by decide +kernel
set_option maxRecDepth 100000 in
theorem pj_mk147 : pj_okR pj_prog pj_m147 = true := by decide +kernel
set_option maxRecDepth 100000 in
theorem pj_mk148 : pj_okR pj_prog pj_m148 = true := by decide +kernel
set_option maxRecDepth 100000 in
theorem pj_mk149 : pj_okR pj_prog pj_m149 = true := by decide +kernel
set_option maxRecDepth 100000 in
theorem pj_mk150 : pj_okR pj_prog pj_m150 = true := by decide +kernel
set_option maxRecDepth 100000 in
theorem pj_mk151 : pj_okR pj_prog pj_m151 = true := by decide +kernel
set_option maxRecDepth 100000 in
theorem pj_mk152 : pj_okR pj_prog pj_m152 = true := by decide +kernel
set_option maxRecDepth 100000 in
theorem pj_mk153 : pj_okR pj_prog pj_m153 = true := by decide +kernel
set_option maxRecDepth 100000 in
theorem pj_mk154 : pj_okR pj_prog pj_m154 = true := by decide +kernel
end
section
set_option maxRecDepth 100000 in
theorem pj_mk155 : pj_okR pj_prog pj_m155 = true := by decide +kernel
set_option maxRecDepth 100000 in
theorem pj_mk156 : pj_okR pj_prog pj_m156 = true := by decide +kernel
set_option maxRecDepth 100000 in
theorem pj_mk157 : pj_okR pj_prog pj_m157 = true := by decide +kernel
set_option maxRecDepth 100000 in
theorem pj_mk158 : pj_okR pj_prog pj_m158 = true := by decide +kernel
set_option maxRecDepth 100000 in
theorem pj_mk159 : pj_okR pj_prog pj_m159 = true := by decide +kernel
set_option maxRecDepth 100000 in
theorem pj_mk160 : pj_okR pj_prog pj_m160 = true := by decide +kernel
set_option maxRecDepth 100000 in
theorem pj_mk161 : pj_okR pj_prog pj_m161 = true := by decide +kernel
set_option maxRecDepth 100000 in
theorem pj_mk162 : pj_okR pj_prog pj_m162 = true := by decide +kernel
set_option maxRecDepth 100000 in
theorem pj_mk163 : pj_okR pj_prog pj_m163 = true := by decide +kernel
set_option maxRecDepth 100000 in
theorem pj_mk164 : pj_okR pj_prog pj_m164 = true := by decide +kernel
set_option maxRecDepth 100000 in
theorem pj_mk165 : pj_okR pj_prog pj_m165 = true := by decide +kernel
set_option maxRecDepth 100000 in
theorem pj_mk166 : pj_okR pj_prog pj_m166 = true := by decide +kernel
set_option maxRecDepth 100000 in
theorem pj_mk167 : pj_okR pj_prog pj_m167 = true := by decide +kernel
set_option maxRecDepth 100000 in
theorem pj_mk168 : pj_okR pj_prog pj_m168 = true := by decide +kernel
set_option maxRecDepth 100000 in
theorem pj_mk169 : pj_okR pj_prog pj_m169 = true := by decide +kernel
set_option maxRecDepth 100000 in
theorem pj_mk170 : pj_okR pj_prog pj_m170 = true := by decide +kernel
set_option maxRecDepth 100000 in
theorem pj_mk171 : pj_okR pj_prog pj_m171 = true := by decide +kernel
set_option maxRecDepth 100000 in
theorem pj_mk172 : pj_okR pj_prog pj_m172 = true := by decide +kernel
set_option maxRecDepth 100000 in
theorem pj_mk173 : pj_okR pj_prog pj_m173 = true := by decide +kernel
set_option maxRecDepth 100000 in
theorem pj_mk174 : pj_okR pj_prog pj_m174 = true := by decide +kernel
set_option maxRecDepth 100000 in
theorem pj_mk175 : pj_okR pj_prog pj_m175 = true := by decide +kernel
set_option maxRecDepth 100000 in
theorem pj_mk176 : pj_okR pj_prog pj_m176 = true := by decide +kernel
set_option maxRecDepth 100000 in
theorem pj_mk177 : pj_okR pj_prog pj_m177 = true := by decide +kernel
set_option maxRecDepth 100000 in
theorem pj_mk178 : pj_okR pj_prog pj_m178 = true := by decide +kernel
set_option maxRecDepth 100000 in
theorem pj_mk179 : pj_okR pj_prog pj_m179 = true := by decide +kernel
set_option maxRecDepth 100000 in
theorem pj_mk180 : pj_okR pj_prog pj_m180 = true := by decide +kernel
set_option maxRecDepth 100000 in
theorem pj_mk181 : pj_okR pj_prog pj_m181 = true := by decide +kernel
set_option maxRecDepth 100000 in
theorem pj_mk182 : pj_okR pj_prog pj_m182 = true := by decide +kernel
set_option maxRecDepth 100000 in
theorem pj_mk183 : pj_okR pj_prog pj_m183 = true := by decide +kernel
set_option maxRecDepth 100000 in
theorem pj_mk184 : pj_okR pj_prog pj_m184 = true := by decide +kernel
set_option maxRecDepth 100000 in
theorem pj_mk185 : pj_okR pj_prog pj_m185 = true := by decide +kernel
set_option maxRecDepth 100000 in
theorem pj_mk186 : pj_okR pj_prog pj_m186 = true := by decide +kernel
set_option maxRecDepth 100000 in
theorem pj_mk187 : pj_okR pj_prog pj_m187 = true := by decide +kernel
set_option maxRecDepth 100000 in
theorem pj_mk188 : pj_okR pj_prog pj_m188 = true := by decide +kernel
set_option maxRecDepth 100000 in
theorem pj_mk189 : pj_okR pj_prog pj_m189 = true := by decide +kernel
set_option maxRecDepth 100000 in
theorem pj_mk190 : pj_okR pj_prog pj_m190 = true := by decide +kernel
end
section
set_option maxRecDepth 100000 in
theorem pj_mk191 : pj_okR pj_prog pj_m191 = true := by decide +kernel
set_option maxRecDepth 100000 in
theorem pj_mk192 : pj_okR pj_prog pj_m192 = true := by decide +kernel
set_option maxRecDepth 100000 in
theorem pj_mk193 : pj_okR pj_prog pj_m193 = true := by decide +kernel
set_option maxRecDepth 100000 in
theorem pj_mk194 : pj_okR pj_prog pj_m194 = true := by decide +kernel
set_option maxRecDepth 100000 in
theorem pj_mk195 : pj_okR pj_prog pj_m195 = true := by decide +kernel
set_option maxRecDepth 100000 in
theorem pj_mk196 : pj_okR pj_prog pj_m196 = true := by decide +kernel
set_option maxRecDepth 100000 in
theorem pj_mk197 : pj_okR pj_prog pj_m197 = true := by decide +kernel
set_option maxRecDepth 100000 in
theorem pj_mk198 : pj_okR pj_prog pj_m198 = true := by decide +kernel
set_option maxRecDepth 100000 in
theorem pj_mk199 : pj_okR pj_prog pj_m199 = true := by decide +kernel
set_option maxRecDepth 100000 in
theorem pj_mk200 : pj_okR pj_prog pj_m200 = true := by decide +kernel
set_option maxRecDepth 100000 in
theorem pj_mk201 : pj_okR pj_prog pj_m201 = true := by decide +kernel
set_option maxRecDepth 100000 in
theorem pj_mk202 : pj_okR pj_prog pj_m202 = true := by decide +kernel
set_option maxRecDepth 100000 in
theorem pj_mk203 : pj_okR pj_prog pj_m203 = true := by decide +kernel
set_option maxRecDepth 100000 in
theorem pj_mk204 : pj_okR pj_prog pj_m204 = true := by decide +kernel
end
section
set_option maxRecDepth 100000 in
theorem pj_mk205 : pj_okR pj_prog pj_m205 = true := by decide +kernel
set_option maxRecDepth 100000 in
theorem pj_mk206 : pj_okR pj_prog pj_m206 = true := by decide +kernel
set_option maxRecDepth 100000 in
theorem pj_mk207 : pj_okR pj_prog pj_m207 = true := by decide +kernel
set_option maxRecDepth 100000 in
theorem pj_mk208 : pj_okR pj_prog pj_m208 = true := by decide +kernel
set_option maxRecDepth 100000 in
theorem pj_mk209 : pj_okR pj_prog pj_m209 = true := by decide +kernel
set_option maxRecDepth 100000 in
theorem pj_mk210 : pj_okR pj_prog pj_m210 = true := by decide +kernel
set_option maxRecDepth 100000 in
theorem pj_mk211 : pj_okR pj_prog pj_m211 = true := by decide +kernel
set_option maxRecDepth 100000 in
theorem pj_mk212 : pj_okR pj_prog pj_m212 = true := by decide +kernel
set_option maxRecDepth 100000 in
theorem pj_mk213 : pj_okR pj_prog pj_m213 = true := by decide +kernel
set_option maxRecDepth 100000 in
theorem pj_mk214 : pj_okR pj_prog pj_m214 = true := by decide +kernel
set_option maxRecDepth 100000 in
theorem pj_mk215 : pj_okR pj_prog pj_m215 = true := by decide +kernel
set_option maxRecDepth 100000 in
theorem pj_mk216 : pj_okR pj_prog pj_m216 = true := by decide +kernel
set_option maxRecDepth 100000 in
theorem pj_mk217 : pj_okR pj_prog pj_m217 = true := by decide +kernel
set_option maxRecDepth 100000 in
theorem pj_mk218 : pj_okR pj_prog pj_m218 = true := by decide +kernel
set_option maxRecDepth 100000 in
theorem pj_mk219 : pj_okR pj_prog pj_m219 = true := by decide +kernel
set_option maxRecDepth 100000 in
theorem pj_mk220 : pj_okR pj_prog pj_m220 = true := by decide +kernel
set_option maxRecDepth 100000 in
theorem pj_mk221 : pj_okR pj_prog pj_m221 = true := by decide +kernel
set_option maxRecDepth 100000 in
theorem pj_mk222 : pj_okR pj_prog pj_m222 = true := by decide +kernel
set_option maxRecDepth 100000 in
theorem pj_mk223 : pj_okR pj_prog pj_m223 = true := by decide +kernel
set_option maxRecDepth 100000 in
theorem pj_mk224 : pj_okR pj_prog pj_m224 = true := by decide +kernel
end
section
set_option maxRecDepth 100000 in
theorem pj_mk225 : pj_okR pj_prog pj_m225 = true := by decide +kernel
set_option maxRecDepth 100000 in
theorem pj_mk226 : pj_okR pj_prog pj_m226 = true := by decide +kernel
set_option maxRecDepth 100000 in
theorem pj_mk227 : pj_okR pj_prog pj_m227 = true := by decide +kernel
set_option maxRecDepth 100000 in
theorem pj_mk228 : pj_okR pj_prog pj_m228 = true := by decide +kernel
set_option maxRecDepth 100000 in
theorem pj_mk229 : pj_okR pj_prog pj_m229 = true := by decide +kernel
set_option maxRecDepth 100000 in
theorem pj_mk230 : pj_okR pj_prog pj_m230 = true := by decide +kernel
set_option maxRecDepth 100000 in
theorem pj_mk231 : pj_okR pj_prog pj_m231 = true := by decide +kernel
set_option maxRecDepth 100000 in
theorem pj_mk232 : pj_okR pj_prog pj_m232 = true := by decide +kernel
set_option maxRecDepth 100000 in
theorem pj_mk233 : pj_okR pj_prog pj_m233 = true := by decide +kernel
set_option maxRecDepth 100000 in
theorem pj_mk234 : pj_okR pj_prog pj_m234 = true := by decide +kernel
set_option maxRecDepth 100000 in
theorem pj_mk235 : pj_okR pj_prog pj_m235 = true := by decide +kernel
set_option maxRecDepth 100000 in
theorem pj_mk236 : pj_okR pj_prog pj_m236 = true := by decide +kernel
set_option maxRecDepth 100000 in
theorem pj_mk237 : pj_okR pj_prog pj_m237 = true := by decide +kernel
set_option maxRecDepth 100000 in
theorem pj_mk238 : pj_okR pj_prog pj_m238 = true := by decide +kernel
set_option maxRecDepth 100000 in
theorem pj_mk239 : pj_okR pj_prog pj_m239 = true := by decide +kernel
set_option maxRecDepth 100000 in
theorem pj_mk240 : pj_okR pj_prog pj_m240 = true := by decide +kernel
end
section
set_option maxRecDepth 100000 in
theorem pj_mk241 : pj_okR pj_prog pj_m241 = true := by decide +kernel
set_option maxRecDepth 100000 in
theorem pj_mk242 : pj_okR pj_prog pj_m242 = true := by decide +kernel
set_option maxRecDepth 100000 in
theorem pj_mk243 : pj_okR pj_prog pj_m243 = true := by decide +kernel
set_option maxRecDepth 100000 in
theorem pj_mk244 : pj_okR pj_prog pj_m244 = true := by decide +kernel
set_option maxRecDepth 100000 in
theorem pj_mk245 : pj_okR pj_prog pj_m245 = true := by decide +kernel
set_option maxRecDepth 100000 in
theorem pj_mk246 : pj_okR pj_prog pj_m246 = true := by decide +kernel
set_option maxRecDepth 100000 in
theorem pj_mk247 : pj_okR pj_prog pj_m247 = true := by decide +kernel
set_option maxRecDepth 100000 in
theorem pj_mk248 : pj_okR pj_prog pj_m248 = true := by decide +kernel
set_option maxRecDepth 100000 in
theorem pj_mk249 : pj_okR pj_prog pj_m249 = true := by decide +kernel
set_option maxRecDepth 100000 in
theorem pj_mk250 : pj_okR pj_prog pj_m250 = true := by decide +kernel
set_option maxRecDepth 100000 in
theorem pj_mk251 : pj_okR pj_prog pj_m251 = true := by decide +kernel
set_option maxRecDepth 100000 in
theorem pj_mk252 : pj_okR pj_prog pj_m252 = true := by decide +kernel
set_option maxRecDepth 100000 in
theorem pj_mk253 : pj_okR pj_prog pj_m253 = true := by decide +kernel
set_option maxRecDepth 100000 in
theorem pj_mk254 : pj_okR pj_prog pj_m254 = true := by decide +kernel
set_option maxRecDepth 100000 in
theorem pj_mk255 : pj_okR pj_prog pj_m255 = true := by decide +kernel
set_option maxRecDepth 100000 in
theorem pj_mk256 : pj_okR pj_prog pj_m256 = true := by decide +kernel
end
section
set_option maxRecDepth 100000 in
theorem pj_mk257 : pj_okR pj_prog pj_m257 = true := by decide +kernel
set_option maxRecDepth 100000 in
theorem pj_mk258 : pj_okR pj_prog pj_m258 = true := by decide +kernel
set_option maxRecDepth 100000 in
theorem pj_mk259 : pj_okR pj_prog pj_m259 = true := by decide +kernel
set_option maxRecDepth 100000 in
theorem pj_mk260 : pj_okR pj_prog pj_m260 = true := by decide +kernel
set_option maxRecDepth 100000 in
theorem pj_mk261 : pj_okR pj_prog pj_m261 = true := by decide +kernel
set_option maxRecDepth 100000 in
theorem pj_mk262 : pj_okR pj_prog pj_m262 = true := by decide +kernel
set_option maxRecDepth 100000 in
theorem pj_mk263 : pj_okR pj_prog pj_m263 = true := by decide +kernel
set_option maxRecDepth 100000 in
theorem pj_mk264 : pj_okR pj_prog pj_m264 = true := by decide +kernel
set_option maxRecDepth 100000 in
theorem pj_mk265 : pj_okR pj_prog pj_m265 = true := by decide +kernel
set_option maxRecDepth 100000 in
theorem pj_mk266 : pj_okR pj_prog pj_m266 = true := by decide +kernel
set_option maxRecDepth 100000 in
theorem pj_mk267 : pj_okR pj_prog pj_m267 = true := by decide +kernel
set_option maxRecDepth 100000 in
theorem pj_mk268 : pj_okR pj_prog pj_m268 = true := by decide +kernel
set_option maxRecDepth 100000 in
theorem pj_mk269 : pj_okR pj_prog pj_m269 = true := by decide +kernel
set_option maxRecDepth 100000 in
theorem pj_mk270 : pj_okR pj_prog pj_m270 = true := by decide +kernel
set_option maxRecDepth 100000 in
theorem pj_mk271 : pj_okR pj_prog pj_m271 = true := by decide +kernel
set_option maxRecDepth 100000 in
theorem pj_mk272 : pj_okR pj_prog pj_m272 = true := by decide +kernel
set_option maxRecDepth 100000 in
theorem pj_mk273 : pj_okR pj_prog pj_m273 = true := by decide +kernel
set_option maxRecDepth 100000 in
theorem pj_mk274 : pj_okR pj_prog pj_m274 = true := by decide +kernel
end
section
set_option maxRecDepth 100000 in
theorem pj_mk275 : pj_okR pj_prog pj_m275 = true := by decide +kernel
set_option maxRecDepth 100000 in
theorem pj_mk276 : pj_okR pj_prog pj_m276 = true := by decide +kernel
set_option maxRecDepth 100000 in
theorem pj_mk277 : pj_okR pj_prog pj_m277 = true := by decide +kernel
set_option maxRecDepth 100000 in
theorem pj_mk278 : pj_okR pj_prog pj_m278 = true := by decide +kernel
set_option maxRecDepth 100000 in
theorem pj_mk279 : pj_okR pj_prog pj_m279 = true := by decide +kernel
set_option maxRecDepth 100000 in
theorem pj_mk280 : pj_okR pj_prog pj_m280 = true := by decide +kernel
set_option maxRecDepth 100000 in
theorem pj_mk281 : pj_okR pj_prog pj_m281 = true := by decide +kernel
set_option maxRecDepth 100000 in
theorem pj_mk282 : pj_okR pj_prog pj_m282 = true := by decide +kernel
set_option maxRecDepth 100000 in
theorem pj_mk283 : pj_okR pj_prog pj_m283 = true := by decide +kernel
set_option maxRecDepth 100000 in
theorem pj_mk284 : pj_okR pj_prog pj_m284 = true := by decide +kernel
set_option maxRecDepth 100000 in
theorem pj_mk285 : pj_okR pj_prog pj_m285 = true := by decide +kernel
set_option maxRecDepth 100000 in
theorem pj_mk286 : pj_okR pj_prog pj_m286 = true := by decide +kernel
set_option maxRecDepth 100000 in
theorem pj_mk287 : pj_okR pj_prog pj_m287 = true := by decide +kernel
set_option maxRecDepth 100000 in
theorem pj_mk288 : pj_okR pj_prog pj_m288 = true := by decide +kernel
set_option maxRecDepth 100000 in
theorem pj_mk289 : pj_okR pj_prog pj_m289 = true := by decide +kernel
set_option maxRecDepth 100000 in
theorem pj_mk290 : pj_okR pj_prog pj_m290 = true := by decide +kernel
set_option maxRecDepth 100000 in
theorem pj_mk291 : pj_okR pj_prog pj_m291 = true := by decide +kernel
end
section
theorem pj_q292 : ∀ M ∈ pj_prog.drop 292, pj_okR pj_prog M = true := fun M h => absurd (show M ∈ ([] : List pj_M) from h) List.not_mem_nil
set_option maxRecDepth 100000 in
theorem pj_q291 : ∀ M ∈ pj_prog.drop 291, pj_okR pj_prog M = true := fun M h => (List.mem_cons.mp (show M ∈ pj_m291 :: pj_prog.drop 292 from h)).elim (fun e => e ▸ pj_mk291) (pj_q292 M)
set_option maxRecDepth 100000 in
theorem pj_q290 : ∀ M ∈ pj_prog.drop 290, pj_okR pj_prog M = true := fun M h => (List.mem_cons.mp (show M ∈ pj_m290 :: pj_prog.drop 291 from h)).elim (fun e => e ▸ pj_mk290) (pj_q291 M)
set_option maxRecDepth 100000 in
theorem pj_q289 : ∀ M ∈ pj_prog.drop 289, pj_okR pj_prog M = true := fun M h => (List.mem_cons.mp (show M ∈ pj_m289 :: pj_prog.drop 290 from h)).elim (fun e => e ▸ pj_mk289) (pj_q290 M)
set_option maxRecDepth 100000 in
theorem pj_q288 : ∀ M ∈ pj_prog.drop 288, pj_okR pj_prog M = true := fun M h => (List.mem_cons.mp (show M ∈ pj_m288 :: pj_prog.drop 289 from h)).elim (fun e => e ▸ pj_mk288) (pj_q289 M)
set_option maxRecDepth 100000 in
theorem pj_q287 : ∀ M ∈ pj_prog.drop 287, pj_okR pj_prog M = true := fun M h => (List.mem_cons.mp (show M ∈ pj_m287 :: pj_prog.drop 288 from h)).elim (fun e => e ▸ pj_mk287) (pj_q288 M)
set_option maxRecDepth 100000 in
theorem pj_q286 : ∀ M ∈ pj_prog.drop 286, pj_okR pj_prog M = true := fun M h => (List.mem_cons.mp (show M ∈ pj_m286 :: pj_prog.drop 287 from h)).elim (fun e => e ▸ pj_mk286) (pj_q287 M)
set_option maxRecDepth 100000 in
theorem pj_q285 : ∀ M ∈ pj_prog.drop 285, pj_okR pj_prog M = true := fun M h => (List.mem_cons.mp (show M ∈ pj_m285 :: pj_prog.drop 286 from h)).elim (fun e => e ▸ pj_mk285) (pj_q286 M)
set_option maxRecDepth 100000 in
theorem pj_q284 : ∀ M ∈ pj_prog.drop 284, pj_okR pj_prog M = true := fun M h => (List.mem_cons.mp (show M ∈ pj_m284 :: pj_prog.drop 285 from h)).elim (fun e => e ▸ pj_mk284) (pj_q285 M)
set_option maxRecDepth 100000 in
theorem pj_q283 : ∀ M ∈ pj_prog.drop 283, pj_okR pj_prog M = true := fun M h => (List.mem_cons.mp (show M ∈ pj_m283 :: pj_prog.drop 284 from h)).elim (fun e => e ▸ pj_mk283) (pj_q284 M)
set_option maxRecDepth 100000 in
theorem pj_q282 : ∀ M ∈ pj_prog.drop 282, pj_okR pj_prog M = true := fun M h => (List.mem_cons.mp (show M ∈ pj_m282 :: pj_prog.drop 283 from h)).elim (fun e => e ▸ pj_mk282) (pj_q283 M)
set_option maxRecDepth 100000 in
theorem pj_q281 : ∀ M ∈ pj_prog.drop 281, pj_okR pj_prog M = true := fun M h => (List.mem_cons.mp (show M ∈ pj_m281 :: pj_prog.drop 282 from h)).elim (fun e => e ▸ pj_mk281) (pj_q282 M)
set_option maxRecDepth 100000 in
theorem pj_q280 : ∀ M ∈ pj_prog.drop 280, pj_okR pj_prog M = true := fun M h => (List.mem_cons.mp (show M ∈ pj_m280 :: pj_prog.drop 281 from h)).elim (fun e => e ▸ pj_mk280) (pj_q281 M)
set_option maxRecDepth 100000 in
theorem pj_q279 : ∀ M ∈ pj_prog.drop 279, pj_okR pj_prog M = true := fun M h => (List.mem_cons.mp (show M ∈ pj_m279 :: pj_prog.drop 280 from h)).elim (fun e => e ▸ pj_mk279) (pj_q280 M)
set_option maxRecDepth 100000 in
theorem pj_q278 : ∀ M ∈ pj_prog.drop 278, pj_okR pj_prog M = true := fun M h => (List.mem_cons.mp (show M ∈ pj_m278 :: pj_prog.drop 279 from h)).elim (fun e => e ▸ pj_mk278) (pj_q279 M)
set_option maxRecDepth 100000 in
theorem pj_q277 : ∀ M ∈ pj_prog.drop 277, pj_okR pj_prog M = true := fun M h => (List.mem_cons.mp (show M ∈ pj_m277 :: pj_prog.drop 278 from h)).elim (fun e => e ▸ pj_mk277) (pj_q278 M)
set_option maxRecDepth 100000 in
theorem pj_q276 : ∀ M ∈ pj_prog.drop 276, pj_okR pj_prog M = true := fun M h => (List.mem_cons.mp (show M ∈ pj_m276 :: pj_prog.drop 277 from h)).elim (fun e => e ▸ pj_mk276) (pj_q277 M)
set_option maxRecDepth 100000 in
theorem pj_q275 : ∀ M ∈ pj_prog.drop 275, pj_okR pj_prog M = true := fun M h => (List.mem_cons.mp (show M ∈ pj_m275 :: pj_prog.drop 276 from h)).elim (fun e => e ▸ pj_mk275) (pj_q276 M)
set_option maxRecDepth 100000 in
theorem pj_q274 : ∀ M ∈ pj_prog.drop 274, pj_okR pj_prog M = true := fun M h => (List.mem_cons.mp (show M ∈ pj_m274 :: pj_prog.drop 275 from h)).elim (fun e => e ▸ pj_mk274) (pj_q275 M)
set_option maxRecDepth 100000 in
theorem pj_q273 : ∀ M ∈ pj_prog.drop 273, pj_okR pj_prog M = true := fun M h => (List.mem_cons.mp (show M ∈ pj_m273 :: pj_prog.drop 274 from h)).elim (fun e => e ▸ pj_mk273) (pj_q274 M)
set_option maxRecDepth 100000 in
theorem pj_q272 : ∀ M ∈ pj_prog.drop 272, pj_okR pj_prog M = true := fun M h => (List.mem_cons.mp (show M ∈ pj_m272 :: pj_prog.drop 273 from h)).elim (fun e => e ▸ pj_mk272) (pj_q273 M)
set_option maxRecDepth 100000 in
theorem pj_q271 : ∀ M ∈ pj_prog.drop 271, pj_okR pj_prog M = true := fun M h => (List.mem_cons.mp (show M ∈ pj_m271 :: pj_prog.drop 272 from h)).elim (fun e => e ▸ pj_mk271) (pj_q272 M)
set_option maxRecDepth 100000 in
theorem pj_q270 : ∀ M ∈ pj_prog.drop 270, pj_okR pj_prog M = true := fun M h => (List.mem_cons.mp (show M ∈ pj_m270 :: pj_prog.drop 271 from h)).elim (fun e => e ▸ pj_mk270) (pj_q271 M)
set_option maxRecDepth 100000 in
theorem pj_q269 : ∀ M ∈ pj_prog.drop 269, pj_okR pj_prog M = true := fun M h => (List.mem_cons.mp (show M ∈ pj_m269 :: pj_prog.drop 270 from h)).elim (fun e => e ▸ pj_mk269) (pj_q270 M)
set_option maxRecDepth 100000 in
theorem pj_q268 : ∀ M ∈ pj_prog.drop 268, pj_okR pj_prog M = true := fun M h => (List.mem_cons.mp (show M ∈ pj_m268 :: pj_prog.drop 269 from h)).elim (fun e => e ▸ pj_mk268) (pj_q269 M)
set_option maxRecDepth 100000 in
theorem pj_q267 : ∀ M ∈ pj_prog.drop 267, pj_okR pj_prog M = true := fun M h => (List.mem_cons.mp (show M ∈ pj_m267 :: pj_prog.drop 268 from h)).elim (fun e => e ▸ pj_mk267) (pj_q268 M)
set_option maxRecDepth 100000 in
theorem pj_q266 : ∀ M ∈ pj_prog.drop 266, pj_okR pj_prog M = true := fun M h => (List.mem_cons.mp (show M ∈ pj_m266 :: pj_prog.drop 267 from h)).elim (fun e => e ▸ pj_mk266) (pj_q267 M)
set_option maxRecDepth 100000 in
theorem pj_q265 : ∀ M ∈ pj_prog.drop 265, pj_okR pj_prog M = true := fun M h => (List.mem_cons.mp (show M ∈ pj_m265 :: pj_prog.drop 266 from h)).elim (fun e => e ▸ pj_mk265) (pj_q266 M)
set_option maxRecDepth 100000 in
theorem pj_q264 : ∀ M ∈ pj_prog.drop 264, pj_okR pj_prog M = true := fun M h => (List.mem_cons.mp (show M ∈ pj_m264 :: pj_prog.drop 265 from h)).elim (fun e => e ▸ pj_mk264) (pj_q265 M)
set_option maxRecDepth 100000 in
theorem pj_q263 : ∀ M ∈ pj_prog.drop 263, pj_okR pj_prog M = true := fun M h => (List.mem_cons.mp (show M ∈ pj_m263 :: pj_prog.drop 264 from h)).elim (fun e => e ▸ pj_mk263) (pj_q264 M)
set_option maxRecDepth 100000 in
theorem pj_q262 : ∀ M ∈ pj_prog.drop 262, pj_okR pj_prog M = true := fun M h => (List.mem_cons.mp (show M ∈ pj_m262 :: pj_prog.drop 263 from h)).elim (fun e => e ▸ pj_mk262) (pj_q263 M)
set_option maxRecDepth 100000 in
theorem pj_q261 : ∀ M ∈ pj_prog.drop 261, pj_okR pj_prog M = true := fun M h => (List.mem_cons.mp (show M ∈ pj_m261 :: pj_prog.drop 262 from h)).elim (fun e => e ▸ pj_mk261) (pj_q262 M)
set_option maxRecDepth 100000 in
theorem pj_q260 : ∀ M ∈ pj_prog.drop 260, pj_okR pj_prog M = true := fun M h => (List.mem_cons.mp (show M ∈ pj_m260 :: pj_prog.drop 261 from h)).elim (fun e => e ▸ pj_mk260) (pj_q261 M)
set_option maxRecDepth 100000 in
theorem pj_q259 : ∀ M ∈ pj_prog.drop 259, pj_okR pj_prog M = true := fun M h => (List.mem_cons.mp (show M ∈ pj_m259 :: pj_prog.drop 260 from h)).elim (fun e => e ▸ pj_mk259) (pj_q260 M)
set_option maxRecDepth 100000 in
theorem pj_q258 : ∀ M ∈ pj_prog.drop 258, pj_okR pj_prog M = true := fun M h => (List.mem_cons.mp (show M ∈ pj_m258 :: pj_prog.drop 259 from h)).elim (fun e => e ▸ pj_mk258) (pj_q259 M)
set_option maxRecDepth 100000 in
theorem pj_q257 : ∀ M ∈ pj_prog.drop 257, pj_okR pj_prog M = true := fun M h => (List.mem_cons.mp (show M ∈ pj_m257 :: pj_prog.drop 258 from h)).elim (fun e => e ▸ pj_mk257) (pj_q258 M)
set_option maxRecDepth 100000 in
theorem pj_q256 : ∀ M ∈ pj_prog.drop 256, pj_okR pj_prog M = true := fun M h => (List.mem_cons.mp (show M ∈ pj_m256 :: pj_prog.drop 257 from h)).elim (fun e => e ▸ pj_mk256) (pj_q257 M)
set_option maxRecDepth 100000 in
theorem pj_q255 : ∀ M ∈ pj_prog.drop 255, pj_okR pj_prog M = true := fun M h => (List.mem_cons.mp (show M ∈ pj_m255 :: pj_prog.drop 256 from h)).elim (fun e => e ▸ pj_mk255) (pj_q256 M)
set_option maxRecDepth 100000 in
theorem pj_q254 : ∀ M ∈ pj_prog.drop 254, pj_okR pj_prog M = true := fun M h => (List.mem_cons.mp (show M ∈ pj_m254 :: pj_prog.drop 255 from h)).elim (fun e => e ▸ pj_mk254) (pj_q255 M)
set_option maxRecDepth 100000 in
theorem pj_q253 : ∀ M ∈ pj_prog.drop 253, pj_okR pj_prog M = true := fun M h => (List.mem_cons.mp (show M ∈ pj_m253 :: pj_prog.drop 254 from h)).elim (fun e => e ▸ pj_mk253) (pj_q254 M)
set_option maxRecDepth 100000 in
theorem pj_q252 : ∀ M ∈ pj_prog.drop 252, pj_okR pj_prog M = true := fun M h => (List.mem_cons.mp (show M ∈ pj_m252 :: pj_prog.drop 253 from h)).elim (fun e => e ▸ pj_mk252) (pj_q253 M)
set_option maxRecDepth 100000 in
theorem pj_q251 : ∀ M ∈ pj_prog.drop 251, pj_okR pj_prog M = true := fun M h => (List.mem_cons.mp (show M ∈ pj_m251 :: pj_prog.drop 252 from h)).elim (fun e => e ▸ pj_mk251) (pj_q252 M)
set_option maxRecDepth 100000 in
theorem pj_q250 : ∀ M ∈ pj_prog.drop 250, pj_okR pj_prog M = true := fun M h => (List.mem_cons.mp (show M ∈ pj_m250 :: pj_prog.drop 251 from h)).elim (fun e => e ▸ pj_mk250) (pj_q251 M)
set_option maxRecDepth 100000 in
theorem pj_q249 : ∀ M ∈ pj_prog.drop 249, pj_okR pj_prog M = true := fun M h => (List.mem_cons.mp (show M ∈ pj_m249 :: pj_prog.drop 250 from h)).elim (fun e => e ▸ pj_mk249) (pj_q250 M)
set_option maxRecDepth 100000 in
theorem pj_q248 : ∀ M ∈ pj_prog.drop 248, pj_okR pj_prog M = true := fun M h => (List.mem_cons.mp (show M ∈ pj_m248 :: pj_prog.drop 249 from h)).elim (fun e => e ▸ pj_mk248) (pj_q249 M)
set_option maxRecDepth 100000 in
theorem pj_q247 : ∀ M ∈ pj_prog.drop 247, pj_okR pj_prog M = true := fun M h => (List.mem_cons.mp (show M ∈ pj_m247 :: pj_prog.drop 248 from h)).elim (fun e => e ▸ pj_mk247) (pj_q248 M)
set_option maxRecDepth 100000 in
theorem pj_q246 : ∀ M ∈ pj_prog.drop 246, pj_okR pj_prog M = true := fun M h => (List.mem_cons.mp (show M ∈ pj_m246 :: pj_prog.drop 247 from h)).elim (fun e => e ▸ pj_mk246) (pj_q247 M)
set_option maxRecDepth 100000 in
theorem pj_q245 : ∀ M ∈ pj_prog.drop 245, pj_okR pj_prog M = true := fun M h => (List.mem_cons.mp (show M ∈ pj_m245 :: pj_prog.drop 246 from h)).elim (fun e => e ▸ pj_mk245) (pj_q246 M)
set_option maxRecDepth 100000 in
theorem pj_q244 : ∀ M ∈ pj_prog.drop 244, pj_okR pj_prog M = true := fun M h => (List.mem_cons.mp (show M ∈ pj_m244 :: pj_prog.drop 245 from h)).elim (fun e => e ▸ pj_mk244) (pj_q245 M)
set_option maxRecDepth 100000 in
theorem pj_q243 : ∀ M ∈ pj_prog.drop 243, pj_okR pj_prog M = true := fun M h => (List.mem_cons.mp (show M ∈ pj_m243 :: pj_prog.drop 244 from h)).elim (fun e => e ▸ pj_mk243) (pj_q244 M)
set_option maxRecDepth 100000 in
theorem pj_q242 : ∀ M ∈ pj_prog.drop 242, pj_okR pj_prog M = true := fun M h => (List.mem_cons.mp (show M ∈ pj_m242 :: pj_prog.drop 243 from h)).elim (fun e => e ▸ pj_mk242) (pj_q243 M)
set_option maxRecDepth 100000 in
theorem pj_q241 : ∀ M ∈ pj_prog.drop 241, pj_okR pj_prog M = true := fun M h => (List.mem_cons.mp (show M ∈ pj_m241 :: pj_prog.drop 242 from h)).elim (fun e => e ▸ pj_mk241) (pj_q242 M)
set_option maxRecDepth 100000 in
theorem pj_q240 : ∀ M ∈ pj_prog.drop 240, pj_okR pj_prog M = true := fun M h => (List.mem_cons.mp (show M ∈ pj_m240 :: pj_prog.drop 241 from h)).elim (fun e => e ▸ pj_mk240) (pj_q241 M)
set_option maxRecDepth 100000 in
theorem pj_q239 : ∀ M ∈ pj_prog.drop 239, pj_okR pj_prog M = true := fun M h => (List.mem_cons.mp (show M ∈ pj_m239 :: pj_prog.drop 240 from h)).elim (fun e => e ▸ pj_mk239) (pj_q240 M)
set_option maxRecDepth 100000 in
theorem pj_q238 : ∀ M ∈ pj_prog.drop 238, pj_okR pj_prog M = true := fun M h => (List.mem_cons.mp (show M ∈ pj_m238 :: pj_prog.drop 239 from h)).elim (fun e => e ▸ pj_mk238) (pj_q239 M)
set_option maxRecDepth 100000 in
theorem pj_q237 : ∀ M ∈ pj_prog.drop 237, pj_okR pj_prog M = true := fun M h => (List.mem_cons.mp (show M ∈ pj_m237 :: pj_prog.drop 238 from h)).elim (fun e => e ▸ pj_mk237) (pj_q238 M)
set_option maxRecDepth 100000 in
theorem pj_q236 : ∀ M ∈ pj_prog.drop 236, pj_okR pj_prog M = true := fun M h => (List.mem_cons.mp (show M ∈ pj_m236 :: pj_prog.drop 237 from h)).elim (fun e => e ▸ pj_mk236) (pj_q237 M)
set_option maxRecDepth 100000 in
theorem pj_q235 : ∀ M ∈ pj_prog.drop 235, pj_okR pj_prog M = true := fun M h => (List.mem_cons.mp (show M ∈ pj_m235 :: pj_prog.drop 236 from h)).elim (fun e => e ▸ pj_mk235) (pj_q236 M)
set_option maxRecDepth 100000 in
theorem pj_q234 : ∀ M ∈ pj_prog.drop 234, pj_okR pj_prog M = true := fun M h => (List.mem_cons.mp (show M ∈ pj_m234 :: pj_prog.drop 235 from h)).elim (fun e => e ▸ pj_mk234) (pj_q235 M)
set_option maxRecDepth 100000 in
theorem pj_q233 : ∀ M ∈ pj_prog.drop 233, pj_okR pj_prog M = true := fun M h => (List.mem_cons.mp (show M ∈ pj_m233 :: pj_prog.drop 234 from h)).elim (fun e => e ▸ pj_mk233) (pj_q234 M)
set_option maxRecDepth 100000 in
theorem pj_q232 : ∀ M ∈ pj_prog.drop 232, pj_okR pj_prog M = true := fun M h => (List.mem_cons.mp (show M ∈ pj_m232 :: pj_prog.drop 233 from h)).elim (fun e => e ▸ pj_mk232) (pj_q233 M)
set_option maxRecDepth 100000 in
theorem pj_q231 : ∀ M ∈ pj_prog.drop 231, pj_okR pj_prog M = true := fun M h => (List.mem_cons.mp (show M ∈ pj_m231 :: pj_prog.drop 232 from h)).elim (fun e => e ▸ pj_mk231) (pj_q232 M)
set_option maxRecDepth 100000 in
theorem pj_q230 : ∀ M ∈ pj_prog.drop 230, pj_okR pj_prog M = true := fun M h => (List.mem_cons.mp (show M ∈ pj_m230 :: pj_prog.drop 231 from h)).elim (fun e => e ▸ pj_mk230) (pj_q231 M)
set_option maxRecDepth 100000 in
theorem pj_q229 : ∀ M ∈ pj_prog.drop 229, pj_okR pj_prog M = true := fun M h => (List.mem_cons.mp (show M ∈ pj_m229 :: pj_prog.drop 230 from h)).elim (fun e => e ▸ pj_mk229) (pj_q230 M)
set_option maxRecDepth 100000 in
theorem pj_q228 : ∀ M ∈ pj_prog.drop 228, pj_okR pj_prog M = true := fun M h => (List.mem_cons.mp (show M ∈ pj_m228 :: pj_prog.drop 229 from h)).elim (fun e => e ▸ pj_mk228) (pj_q229 M)
set_option maxRecDepth 100000 in
theorem pj_q227 : ∀ M ∈ pj_prog.drop 227, pj_okR pj_prog M = true := fun M h => (List.mem_cons.mp (show M ∈ pj_m227 :: pj_prog.drop 228 from h)).elim (fun e => e ▸ pj_mk227) (pj_q228 M)
set_option maxRecDepth 100000 in
theorem pj_q226 : ∀ M ∈ pj_prog.drop 226, pj_okR pj_prog M = true := fun M h => (List.mem_cons.mp (show M ∈ pj_m226 :: pj_prog.drop 227 from h)).elim (fun e => e ▸ pj_mk226) (pj_q227 M)
set_option maxRecDepth 100000 in
theorem pj_q225 : ∀ M ∈ pj_prog.drop 225, pj_okR pj_prog M = true := fun M h => (List.mem_cons.mp (show M ∈ pj_m225 :: pj_prog.drop 226 from h)).elim (fun e => e ▸ pj_mk225) (pj_q226 M)
set_option maxRecDepth 100000 in
theorem pj_q224 : ∀ M ∈ pj_prog.drop 224, pj_okR pj_prog M = true := fun M h => (List.mem_cons.mp (show M ∈ pj_m224 :: pj_prog.drop 225 from h)).elim (fun e => e ▸ pj_mk224) (pj_q225 M)
set_option maxRecDepth 100000 in
theorem pj_q223 : ∀ M ∈ pj_prog.drop 223, pj_okR pj_prog M = true := fun M h => (List.mem_cons.mp (show M ∈ pj_m223 :: pj_prog.drop 224 from h)).elim (fun e => e ▸ pj_mk223) (pj_q224 M)
set_option maxRecDepth 100000 in
theorem pj_q222 : ∀ M ∈ pj_prog.drop 222, pj_okR pj_prog M = true := fun M h => (List.mem_cons.mp (show M ∈ pj_m222 :: pj_prog.drop 223 from h)).elim (fun e => e ▸ pj_mk222) (pj_q223 M)
set_option maxRecDepth 100000 in
theorem pj_q221 : ∀ M ∈ pj_prog.drop 221, pj_okR pj_prog M = true := fun M h => (List.mem_cons.mp (show M ∈ pj_m221 :: pj_prog.drop 222 from h)).elim (fun e => e ▸ pj_mk221) (pj_q222 M)
set_option maxRecDepth 100000 in
theorem pj_q220 : ∀ M ∈ pj_prog.drop 220, pj_okR pj_prog M = true := fun M h => (List.mem_cons.mp (show M ∈ pj_m220 :: pj_prog.drop 221 from h)).elim (fun e => e ▸ pj_mk220) (pj_q221 M)
set_option maxRecDepth 100000 in
theorem pj_q219 : ∀ M ∈ pj_prog.drop 219, pj_okR pj_prog M = true := fun M h => (List.mem_cons.mp (show M ∈ pj_m219 :: pj_prog.drop 220 from h)).elim (fun e => e ▸ pj_mk219) (pj_q220 M)
set_option maxRecDepth 100000 in
theorem pj_q218 : ∀ M ∈ pj_prog.drop 218, pj_okR pj_prog M = true := fun M h => (List.mem_cons.mp (show M ∈ pj_m218 :: pj_prog.drop 219 from h)).elim (fun e => e ▸ pj_mk218) (pj_q219 M)
set_option maxRecDepth 100000 in
theorem pj_q217 : ∀ M ∈ pj_prog.drop 217, pj_okR pj_prog M = true := fun M h => (List.mem_cons.mp (show M ∈ pj_m217 :: pj_prog.drop 218 from h)).elim (fun e => e ▸ pj_mk217) (pj_q218 M)
set_option maxRecDepth 100000 in
theorem pj_q216 : ∀ M ∈ pj_prog.drop 216, pj_okR pj_prog M = true := fun M h => (List.mem_cons.mp (show M ∈ pj_m216 :: pj_prog.drop 217 from h)).elim (fun e => e ▸ pj_mk216) (pj_q217 M)
set_option maxRecDepth 100000 in
theorem pj_q215 : ∀ M ∈ pj_prog.drop 215, pj_okR pj_prog M = true := fun M h => (List.mem_cons.mp (show M ∈ pj_m215 :: pj_prog.drop 216 from h)).elim (fun e => e ▸ pj_mk215) (pj_q216 M)
set_option maxRecDepth 100000 in
theorem pj_q214 : ∀ M ∈ pj_prog.drop 214, pj_okR pj_prog M = true := fun M h => (List.mem_cons.mp (show M ∈ pj_m214 :: pj_prog.drop 215 from h)).elim (fun e => e ▸ pj_mk214) (pj_q215 M)
set_option maxRecDepth 100000 in
theorem pj_q213 : ∀ M ∈ pj_prog.drop 213, pj_okR pj_prog M = true := fun M h => (List.mem_cons.mp (show M ∈ pj_m213 :: pj_prog.drop 214 from h)).elim (fun e => e ▸ pj_mk213) (pj_q214 M)
set_option maxRecDepth 100000 in
theorem pj_q212 : ∀ M ∈ pj_prog.drop 212, pj_okR pj_prog M = true := fun M h => (List.mem_cons.mp (show M ∈ pj_m212 :: pj_prog.drop 213 from h)).elim (fun e => e ▸ pj_mk212) (pj_q213 M)
set_option maxRecDepth 100000 in
theorem pj_q211 : ∀ M ∈ pj_prog.drop 211, pj_okR pj_prog M = true := fun M h => (List.mem_cons.mp (show M ∈ pj_m211 :: pj_prog.drop 212 from h)).elim (fun e => e ▸ pj_mk211) (pj_q212 M)
set_option maxRecDepth 100000 in
theorem pj_q210 : ∀ M ∈ pj_prog.drop 210, pj_okR pj_prog M = true := fun M h => (List.mem_cons.mp (show M ∈ pj_m210 :: pj_prog.drop 211 from h)).elim (fun e => e ▸ pj_mk210) (pj_q211 M)
set_option maxRecDepth 100000 in
theorem pj_q209 : ∀ M ∈ pj_prog.drop 209, pj_okR pj_prog M = true := fun M h => (List.mem_cons.mp (show M ∈ pj_m209 :: pj_prog.drop 210 from h)).elim (fun e => e ▸ pj_mk209) (pj_q210 M)
set_option maxRecDepth 100000 in
theorem pj_q208 : ∀ M ∈ pj_prog.drop 208, pj_okR pj_prog M = true := fun M h => (List.mem_cons.mp (show M ∈ pj_m208 :: pj_prog.drop 209 from h)).elim (fun e => e ▸ pj_mk208) (pj_q209 M)
set_option maxRecDepth 100000 in
theorem pj_q207 : ∀ M ∈ pj_prog.drop 207, pj_okR pj_prog M = true := fun M h => (List.mem_cons.mp (show M ∈ pj_m207 :: pj_prog.drop 208 from h)).elim (fun e => e ▸ pj_mk207) (pj_q208 M)
set_option maxRecDepth 100000 in
theorem pj_q206 : ∀ M ∈ pj_prog.drop 206, pj_okR pj_prog M = true := fun M h => (List.mem_cons.mp (show M ∈ pj_m206 :: pj_prog.drop 207 from h)).elim (fun e => e ▸ pj_mk206) (pj_q207 M)
set_option maxRecDepth 100000 in
theorem pj_q205 : ∀ M ∈ pj_prog.drop 205, pj_okR pj_prog M = true := fun M h => (List.mem_cons.mp (show M ∈ pj_m205 :: pj_prog.drop 206 from h)).elim (fun e => e ▸ pj_mk205) (pj_q206 M)
set_option maxRecDepth 100000 in
theorem pj_q204 : ∀ M ∈ pj_prog.drop 204, pj_okR pj_prog M = true := fun M h => (List.mem_cons.mp (show M ∈ pj_m204 :: pj_prog.drop 205 from h)).elim (fun e => e ▸ pj_mk204) (pj_q205 M)
set_option maxRecDepth 100000 in
theorem pj_q203 : ∀ M ∈ pj_prog.drop 203, pj_okR pj_prog M = true := fun M h => (List.mem_cons.mp (show M ∈ pj_m203 :: pj_prog.drop 204 from h)).elim (fun e => e ▸ pj_mk203) (pj_q204 M)
set_option maxRecDepth 100000 in
theorem pj_q202 : ∀ M ∈ pj_prog.drop 202, pj_okR pj_prog M = true := fun M h => (List.mem_cons.mp (show M ∈ pj_m202 :: pj_prog.drop 203 from h)).elim (fun e => e ▸ pj_mk202) (pj_q203 M)
set_option maxRecDepth 100000 in
theorem pj_q201 : ∀ M ∈ pj_prog.drop 201, pj_okR pj_prog M = true := fun M h => (List.mem_cons.mp (show M ∈ pj_m201 :: pj_prog.drop 202 from h)).elim (fun e => e ▸ pj_mk201) (pj_q202 M)
set_option maxRecDepth 100000 in
theorem pj_q200 : ∀ M ∈ pj_prog.drop 200, pj_okR pj_prog M = true := fun M h => (List.mem_cons.mp (show M ∈ pj_m200 :: pj_prog.drop 201 from h)).elim (fun e => e ▸ pj_mk200) (pj_q201 M)
set_option maxRecDepth 100000 in
theorem pj_q199 : ∀ M ∈ pj_prog.drop 199, pj_okR pj_prog M = true := fun M h => (List.mem_cons.mp (show M ∈ pj_m199 :: pj_prog.drop 200 from h)).elim (fun e => e ▸ pj_mk199) (pj_q200 M)
set_option maxRecDepth 100000 in
theorem pj_q198 : ∀ M ∈ pj_prog.drop 198, pj_okR pj_prog M = true := fun M h => (List.mem_cons.mp (show M ∈ pj_m198 :: pj_prog.drop 199 from h)).elim (fun e => e ▸ pj_mk198) (pj_q199 M)
set_option maxRecDepth 100000 in
theorem pj_q197 : ∀ M ∈ pj_prog.drop 197, pj_okR pj_prog M = true := fun M h => (List.mem_cons.mp (show M ∈ pj_m197 :: pj_prog.drop 198 from h)).elim (fun e => e ▸ pj_mk197) (pj_q198 M)
set_option maxRecDepth 100000 in
theorem pj_q196 : ∀ M ∈ pj_prog.drop 196, pj_okR pj_prog M = true := fun M h => (List.mem_cons.mp (show M ∈ pj_m196 :: pj_prog.drop 197 from h)).elim (fun e => e ▸ pj_mk196) (pj_q197 M)
set_option maxRecDepth 100000 in
theorem pj_q195 : ∀ M ∈ pj_prog.drop 195, pj_okR pj_prog M = true := fun M h => (List.mem_cons.mp (show M ∈ pj_m195 :: pj_prog.drop 196 from h)).elim (fun e => e ▸ pj_mk195) (pj_q196 M)
set_option maxRecDepth 100000 in
theorem pj_q194 : ∀ M ∈ pj_prog.drop 194, pj_okR pj_prog M = true := fun M h => (List.mem_cons.mp (show M ∈ pj_m194 :: pj_prog.drop 195 from h)).elim (fun e => e ▸ pj_mk194) (pj_q195 M)
set_option maxRecDepth 100000 in
theorem pj_q193 : ∀ M ∈ pj_prog.drop 193, pj_okR pj_prog M = true := fun M h => (List.mem_cons.mp (show M ∈ pj_m193 :: pj_prog.drop 194 from h)).elim (fun e => e ▸ pj_mk193) (pj_q194 M)
set_option maxRecDepth 100000 in
theorem pj_q192 : ∀ M ∈ pj_prog.drop 192, pj_okR pj_prog M = true := fun M h => (List.mem_cons.mp (show M ∈ pj_m192 :: pj_prog.drop 193 from h)).elim (fun e => e ▸ pj_mk192) (pj_q193 M)
set_option maxRecDepth 100000 in
theorem pj_q191 : ∀ M ∈ pj_prog.drop 191, pj_okR pj_prog M = true := fun M h => (List.mem_cons.mp (show M ∈ pj_m191 :: pj_prog.drop 192 from h)).elim (fun e => e ▸ pj_mk191) (pj_q192 M)
set_option maxRecDepth 100000 in
theorem pj_q190 : ∀ M ∈ pj_prog.drop 190, pj_okR pj_prog M = true := fun M h => (List.mem_cons.mp (show M ∈ pj_m190 :: pj_prog.drop 191 from h)).elim (fun e => e ▸ pj_mk190) (pj_q191 M)
set_option maxRecDepth 100000 in
theorem pj_q189 : ∀ M ∈ pj_prog.drop 189, pj_okR pj_prog M = true := fun M h => (List.mem_cons.mp (show M ∈ pj_m189 :: pj_prog.drop 190 from h)).elim (fun e => e ▸ pj_mk189) (pj_q190 M)
set_option maxRecDepth 100000 in
theorem pj_q188 : ∀ M ∈ pj_prog.drop 188, pj_okR pj_prog M = true := fun M h => (List.mem_cons.mp (show M ∈ pj_m188 :: pj_prog.drop 189 from h)).elim (fun e => e ▸ pj_mk188) (pj_q189 M)
set_option maxRecDepth 100000 in
theorem pj_q187 : ∀ M ∈ pj_prog.drop 187, pj_okR pj_prog M = true := fun M h => (List.mem_cons.mp (show M ∈ pj_m187 :: pj_prog.drop 188 from h)).elim (fun e => e ▸ pj_mk187) (pj_q188 M)
set_option maxRecDepth 100000 in
theorem pj_q186 : ∀ M ∈ pj_prog.drop 186, pj_okR pj_prog M = true := fun M h => (List.mem_cons.mp (show M ∈ pj_m186 :: pj_prog.drop 187 from h)).elim (fun e => e ▸ pj_mk186) (pj_q187 M)
set_option maxRecDepth 100000 in
theorem pj_q185 : ∀ M ∈ pj_prog.drop 185, pj_okR pj_prog M = true := fun M h => (List.mem_cons.mp (show M ∈ pj_m185 :: pj_prog.drop 186 from h)).elim (fun e => e ▸ pj_mk185) (pj_q186 M)
set_option maxRecDepth 100000 in
theorem pj_q184 : ∀ M ∈ pj_prog.drop 184, pj_okR pj_prog M = true := fun M h => (List.mem_cons.mp (show M ∈ pj_m184 :: pj_prog.drop 185 from h)).elim (fun e => e ▸ pj_mk184) (pj_q185 M)
set_option maxRecDepth 100000 in
theorem pj_q183 : ∀ M ∈ pj_prog.drop 183, pj_okR pj_prog M = true := fun M h => (List.mem_cons.mp (show M ∈ pj_m183 :: pj_prog.drop 184 from h)).elim (fun e => e ▸ pj_mk183) (pj_q184 M)
set_option maxRecDepth 100000 in
theorem pj_q182 : ∀ M ∈ pj_prog.drop 182, pj_okR pj_prog M = true := fun M h => (List.mem_cons.mp (show M ∈ pj_m182 :: pj_prog.drop 183 from h)).elim (fun e => e ▸ pj_mk182) (pj_q183 M)
set_option maxRecDepth 100000 in
theorem pj_q181 : ∀ M ∈ pj_prog.drop 181, pj_okR pj_prog M = true := fun M h => (List.mem_cons.mp (show M ∈ pj_m181 :: pj_prog.drop 182 from h)).elim (fun e => e ▸ pj_mk181) (pj_q182 M)
set_option maxRecDepth 100000 in
theorem pj_q180 : ∀ M ∈ pj_prog.drop 180, pj_okR pj_prog M = true := fun M h => (List.mem_cons.mp (show M ∈ pj_m180 :: pj_prog.drop 181 from h)).elim (fun e => e ▸ pj_mk180) (pj_q181 M)
set_option maxRecDepth 100000 in
theorem pj_q179 : ∀ M ∈ pj_prog.drop 179, pj_okR pj_prog M = true := fun M h => (List.mem_cons.mp (show M ∈ pj_m179 :: pj_prog.drop 180 from h)).elim (fun e => e ▸ pj_mk179) (pj_q180 M)
set_option maxRecDepth 100000 in
theorem pj_q178 : ∀ M ∈ pj_prog.drop 178, pj_okR pj_prog M = true := fun M h => (List.mem_cons.mp (show M ∈ pj_m178 :: pj_prog.drop 179 from h)).elim (fun e => e ▸ pj_mk178) (pj_q179 M)
set_option maxRecDepth 100000 in
theorem pj_q177 : ∀ M ∈ pj_prog.drop 177, pj_okR pj_prog M = true := fun M h => (List.mem_cons.mp (show M ∈ pj_m177 :: pj_prog.drop 178 from h)).elim (fun e => e ▸ pj_mk177) (pj_q178 M)
set_option maxRecDepth 100000 in
theorem pj_q176 : ∀ M ∈ pj_prog.drop 176, pj_okR pj_prog M = true := fun M h => (List.mem_cons.mp (show M ∈ pj_m176 :: pj_prog.drop 177 from h)).elim (fun e => e ▸ pj_mk176) (pj_q177 M)
set_option maxRecDepth 100000 in
theorem pj_q175 : ∀ M ∈ pj_prog.drop 175, pj_okR pj_prog M = true := fun M h => (List.mem_cons.mp (show M ∈ pj_m175 :: pj_prog.drop 176 from h)).elim (fun e => e ▸ pj_mk175) (pj_q176 M)
set_option maxRecDepth 100000 in
theorem pj_q174 : ∀ M ∈ pj_prog.drop 174, pj_okR pj_prog M = true := fun M h => (List.mem_cons.mp (show M ∈ pj_m174 :: pj_prog.drop 175 from h)).elim (fun e => e ▸ pj_mk174) (pj_q175 M)
set_option maxRecDepth 100000 in
theorem pj_q173 : ∀ M ∈ pj_prog.drop 173, pj_okR pj_prog M = true := fun M h => (List.mem_cons.mp (show M ∈ pj_m173 :: pj_prog.drop 174 from h)).elim (fun e => e ▸ pj_mk173) (pj_q174 M)
set_option maxRecDepth 100000 in
theorem pj_q172 : ∀ M ∈ pj_prog.drop 172, pj_okR pj_prog M = true := fun M h => (List.mem_cons.mp (show M ∈ pj_m172 :: pj_prog.drop 173 from h)).elim (fun e => e ▸ pj_mk172) (pj_q173 M)
set_option maxRecDepth 100000 in
theorem pj_q171 : ∀ M ∈ pj_prog.drop 171, pj_okR pj_prog M = true := fun M h => (List.mem_cons.mp (show M ∈ pj_m171 :: pj_prog.drop 172 from h)).elim (fun e => e ▸ pj_mk171) (pj_q172 M)
set_option maxRecDepth 100000 in
theorem pj_q170 : ∀ M ∈ pj_prog.drop 170, pj_okR pj_prog M = true := fun M h => (List.mem_cons.mp (show M ∈ pj_m170 :: pj_prog.drop 171 from h)).elim (fun e => e ▸ pj_mk170) (pj_q171 M)
set_option maxRecDepth 100000 in
theorem pj_q169 : ∀ M ∈ pj_prog.drop 169, pj_okR pj_prog M = true := fun M h => (List.mem_cons.mp (show M ∈ pj_m169 :: pj_prog.drop 170 from h)).elim (fun e => e ▸ pj_mk169) (pj_q170 M)
set_option maxRecDepth 100000 in
theorem pj_q168 : ∀ M ∈ pj_prog.drop 168, pj_okR pj_prog M = true := fun M h => (List.mem_cons.mp (show M ∈ pj_m168 :: pj_prog.drop 169 from h)).elim (fun e => e ▸ pj_mk168) (pj_q169 M)
set_option maxRecDepth 100000 in
theorem pj_q167 : ∀ M ∈ pj_prog.drop 167, pj_okR pj_prog M = true := fun M h => (List.mem_cons.mp (show M ∈ pj_m167 :: pj_prog.drop 168 from h)).elim (fun e => e ▸ pj_mk167) (pj_q168 M)
set_option maxRecDepth 100000 in
theorem pj_q166 : ∀ M ∈ pj_prog.drop 166, pj_okR pj_prog M = true := fun M h => (List.mem_cons.mp (show M ∈ pj_m166 :: pj_prog.drop 167 from h)).elim (fun e => e ▸ pj_mk166) (pj_q167 M)
set_option maxRecDepth 100000 in
theorem pj_q165 : ∀ M ∈ pj_prog.drop 165, pj_okR pj_prog M = true := fun M h => (List.mem_cons.mp (show M ∈ pj_m165 :: pj_prog.drop 166 from h)).elim (fun e => e ▸ pj_mk165) (pj_q166 M)
set_option maxRecDepth 100000 in
theorem pj_q164 : ∀ M ∈ pj_prog.drop 164, pj_okR pj_prog M = true := fun M h => (List.mem_cons.mp (show M ∈ pj_m164 :: pj_prog.drop 165 from h)).elim (fun e => e ▸ pj_mk164) (pj_q165 M)
set_option maxRecDepth 100000 in
theorem pj_q163 : ∀ M ∈ pj_prog.drop 163, pj_okR pj_prog M = true := fun M h => (List.mem_cons.mp (show M ∈ pj_m163 :: pj_prog.drop 164 from h)).elim (fun e => e ▸ pj_mk163) (pj_q164 M)
set_option maxRecDepth 100000 in
theorem pj_q162 : ∀ M ∈ pj_prog.drop 162, pj_okR pj_prog M = true := fun M h => (List.mem_cons.mp (show M ∈ pj_m162 :: pj_prog.drop 163 from h)).elim (fun e => e ▸ pj_mk162) (pj_q163 M)
set_option maxRecDepth 100000 in
theorem pj_q161 : ∀ M ∈ pj_prog.drop 161, pj_okR pj_prog M = true := fun M h => (List.mem_cons.mp (show M ∈ pj_m161 :: pj_prog.drop 162 from h)).elim (fun e => e ▸ pj_mk161) (pj_q162 M)
set_option maxRecDepth 100000 in
theorem pj_q160 : ∀ M ∈ pj_prog.drop 160, pj_okR pj_prog M = true := fun M h => (List.mem_cons.mp (show M ∈ pj_m160 :: pj_prog.drop 161 from h)).elim (fun e => e ▸ pj_mk160) (pj_q161 M)
set_option maxRecDepth 100000 in
theorem pj_q159 : ∀ M ∈ pj_prog.drop 159, pj_okR pj_prog M = true := fun M h => (List.mem_cons.mp (show M ∈ pj_m159 :: pj_prog.drop 160 from h)).elim (fun e => e ▸ pj_mk159) (pj_q160 M)
set_option maxRecDepth 100000 in
theorem pj_q158 : ∀ M ∈ pj_prog.drop 158, pj_okR pj_prog M = true := fun M h => (List.mem_cons.mp (show M ∈ pj_m158 :: pj_prog.drop 159 from h)).elim (fun e => e ▸ pj_mk158) (pj_q159 M)
set_option maxRecDepth 100000 in
theorem pj_q157 : ∀ M ∈ pj_prog.drop 157, pj_okR pj_prog M = true := fun M h => (List.mem_cons.mp (show M ∈ pj_m157 :: pj_prog.drop 158 from h)).elim (fun e => e ▸ pj_mk157) (pj_q158 M)
set_option maxRecDepth 100000 in
theorem pj_q156 : ∀ M ∈ pj_prog.drop 156, pj_okR pj_prog M = true := fun M h => (List.mem_cons.mp (show M ∈ pj_m156 :: pj_prog.drop 157 from h)).elim (fun e => e ▸ pj_mk156) (pj_q157 M)
set_option maxRecDepth 100000 in
theorem pj_q155 : ∀ M ∈ pj_prog.drop 155, pj_okR pj_prog M = true := fun M h => (List.mem_cons.mp (show M ∈ pj_m155 :: pj_prog.drop 156 from h)).elim (fun e => e ▸ pj_mk155) (pj_q156 M)
set_option maxRecDepth 100000 in
theorem pj_q154 : ∀ M ∈ pj_prog.drop 154, pj_okR pj_prog M = true := fun M h => (List.mem_cons.mp (show M ∈ pj_m154 :: pj_prog.drop 155 from h)).elim (fun e => e ▸ pj_mk154) (pj_q155 M)
set_option maxRecDepth 100000 in
theorem pj_q153 : ∀ M ∈ pj_prog.drop 153, pj_okR pj_prog M = true := fun M h => (List.mem_cons.mp (show M ∈ pj_m153 :: pj_prog.drop 154 from h)).elim (fun e => e ▸ pj_mk153) (pj_q154 M)
set_option maxRecDepth 100000 in
theorem pj_q152 : ∀ M ∈ pj_prog.drop 152, pj_okR pj_prog M = true := fun M h => (List.mem_cons.mp (show M ∈ pj_m152 :: pj_prog.drop 153 from h)).elim (fun e => e ▸ pj_mk152) (pj_q153 M)
set_option maxRecDepth 100000 in
theorem pj_q151 : ∀ M ∈ pj_prog.drop 151, pj_okR pj_prog M = true := fun M h => (List.mem_cons.mp (show M ∈ pj_m151 :: pj_prog.drop 152 from h)).elim (fun e => e ▸ pj_mk151) (pj_q152 M)
set_option maxRecDepth 100000 in
theorem pj_q150 : ∀ M ∈ pj_prog.drop 150, pj_okR pj_prog M = true := fun M h => (List.mem_cons.mp (show M ∈ pj_m150 :: pj_prog.drop 151 from h)).elim (fun e => e ▸ pj_mk150) (pj_q151 M)
set_option maxRecDepth 100000 in
theorem pj_q149 : ∀ M ∈ pj_prog.drop 149, pj_okR pj_prog M = true := fun M h => (List.mem_cons.mp (show M ∈ pj_m149 :: pj_prog.drop 150 from h)).elim (fun e => e ▸ pj_mk149) (pj_q150 M)
set_option maxRecDepth 100000 in
theorem pj_q148 : ∀ M ∈ pj_prog.drop 148, pj_okR pj_prog M = true := fun M h => (List.mem_cons.mp (show M ∈ pj_m148 :: pj_prog.drop 149 from h)).elim (fun e => e ▸ pj_mk148) (pj_q149 M)
set_option maxRecDepth 100000 in
theorem pj_q147 : ∀ M ∈ pj_prog.drop 147, pj_okR pj_prog M = true := fun M h => (List.mem_cons.mp (show M ∈ pj_m147 :: pj_prog.drop 148 from h)).elim (fun e => e ▸ pj_mk147) (pj_q148 M)
set_option maxRecDepth 100000 in
theorem pj_q146 : ∀ M ∈ pj_prog.drop 146, pj_okR pj_prog M = true := fun M h => (List.mem_cons.mp (show M ∈ pj_m146 :: pj_prog.drop 147 from h)).elim (fun e => e ▸ pj_mk146) (pj_q147 M)
set_option maxRecDepth 100000 in
theorem pj_q145 : ∀ M ∈ pj_prog.drop 145, pj_okR pj_prog M = true := fun M h => (List.mem_cons.mp (show M ∈ pj_m145 :: pj_prog.drop 146 from h)).elim (fun e => e ▸ pj_mk145) (pj_q146 M)
set_option maxRecDepth 100000 in
theorem pj_q144 : ∀ M ∈ pj_prog.drop 144, pj_okR pj_prog M = true := fun M h => (List.mem_cons.mp (show M ∈ pj_m144 :: pj_prog.drop 145 from h)).elim (fun e => e ▸ pj_mk144) (pj_q145 M)
set_option maxRecDepth 100000 in
theorem pj_q143 : ∀ M ∈ pj_prog.drop 143, pj_okR pj_prog M = true := fun M h => (List.mem_cons.mp (show M ∈ pj_m143 :: pj_prog.drop 144 from h)).elim (fun e => e ▸ pj_mk143) (pj_q144 M)
set_option maxRecDepth 100000 in
theorem pj_q142 : ∀ M ∈ pj_prog.drop 142, pj_okR pj_prog M = true := fun M h => (List.mem_cons.mp (show M ∈ pj_m142 :: pj_prog.drop 143 from h)).elim (fun e => e ▸ pj_mk142) (pj_q143 M)
set_option maxRecDepth 100000 in
theorem pj_q141 : ∀ M ∈ pj_prog.drop 141, pj_okR pj_prog M = true := fun M h => (List.mem_cons.mp (show M ∈ pj_m141 :: pj_prog.drop 142 from h)).elim (fun e => e ▸ pj_mk141) (pj_q142 M)
set_option maxRecDepth 100000 in
theorem pj_q140 : ∀ M ∈ pj_prog.drop 140, pj_okR pj_prog M = true := fun M h => (List.mem_cons.mp (show M ∈ pj_m140 :: pj_prog.drop 141 from h)).elim (fun e => e ▸ pj_mk140) (pj_q141 M)
set_option maxRecDepth 100000 in
theorem pj_q139 : ∀ M ∈ pj_prog.drop 139, pj_okR pj_prog M = true := fun M h => (List.mem_cons.mp (show M ∈ pj_m139 :: pj_prog.drop 140 from h)).elim (fun e => e ▸ pj_mk139) (pj_q140 M)
set_option maxRecDepth 100000 in
theorem pj_q138 : ∀ M ∈ pj_prog.drop 138, pj_okR pj_prog M = true := fun M h => (List.mem_cons.mp (show M ∈ pj_m138 :: pj_prog.drop 139 from h)).elim (fun e => e ▸ pj_mk138) (pj_q139 M)
set_option maxRecDepth 100000 in
theorem pj_q137 : ∀ M ∈ pj_prog.drop 137, pj_okR pj_prog M = true := fun M h => (List.mem_cons.mp (show M ∈ pj_m137 :: pj_prog.drop 138 from h)).elim (fun e => e ▸ pj_mk137) (pj_q138 M)
set_option maxRecDepth 100000 in
theorem pj_q136 : ∀ M ∈ pj_prog.drop 136, pj_okR pj_prog M = true := fun M h => (List.mem_cons.mp (show M ∈ pj_m136 :: pj_prog.drop 137 from h)).elim (fun e => e ▸ pj_mk136) (pj_q137 M)
set_option maxRecDepth 100000 in
theorem pj_q135 : ∀ M ∈ pj_prog.drop 135, pj_okR pj_prog M = true := fun M h => (List.mem_cons.mp (show M ∈ pj_m135 :: pj_prog.drop 136 from h)).elim (fun e => e ▸ pj_mk135) (pj_q136 M)
set_option maxRecDepth 100000 in
theorem pj_q134 : ∀ M ∈ pj_prog.drop 134, pj_okR pj_prog M = true := fun M h => (List.mem_cons.mp (show M ∈ pj_m134 :: pj_prog.drop 135 from h)).elim (fun e => e ▸ pj_mk134) (pj_q135 M)
set_option maxRecDepth 100000 in
theorem pj_q133 : ∀ M ∈ pj_prog.drop 133, pj_okR pj_prog M = true := fun M h => (List.mem_cons.mp (show M ∈ pj_m133 :: pj_prog.drop 134 from h)).elim (fun e => e ▸ pj_mk133) (pj_q134 M)
set_option maxRecDepth 100000 in
theorem pj_q132 : ∀ M ∈ pj_prog.drop 132, pj_okR pj_prog M = true := fun M h => (List.mem_cons.mp (show M ∈ pj_m132 :: pj_prog.drop 133 from h)).elim (fun e => e ▸ pj_mk132) (pj_q133 M)
set_option maxRecDepth 100000 in
theorem pj_q131 : ∀ M ∈ pj_prog.drop 131, pj_okR pj_prog M = true := fun M h => (List.mem_cons.mp (show M ∈ pj_m131 :: pj_prog.drop 132 from h)).elim (fun e => e ▸ pj_mk131) (pj_q132 M)
set_option maxRecDepth 100000 in
theorem pj_q130 : ∀ M ∈ pj_prog.drop 130, pj_okR pj_prog M = true := fun M h => (List.mem_cons.mp (show M ∈ pj_m130 :: pj_prog.drop 131 from h)).elim (fun e => e ▸ pj_mk130) (pj_q131 M)
set_option maxRecDepth 100000 in
theorem pj_q129 : ∀ M ∈ pj_prog.drop 129, pj_okR pj_prog M = true := fun M h => (List.mem_cons.mp (show M ∈ pj_m129 :: pj_prog.drop 130 from h)).elim (fun e => e ▸ pj_mk129) (pj_q130 M)
set_option maxRecDepth 100000 in
theorem pj_q128 : ∀ M ∈ pj_prog.drop 128, pj_okR pj_prog M = true := fun M h => (List.mem_cons.mp (show M ∈ pj_m128 :: pj_prog.drop 129 from h)).elim (fun e => e ▸ pj_mk128) (pj_q129 M)
set_option maxRecDepth 100000 in
theorem pj_q127 : ∀ M ∈ pj_prog.drop 127, pj_okR pj_prog M = true := fun M h => (List.mem_cons.mp (show M ∈ pj_m127 :: pj_prog.drop 128 from h)).elim (fun e => e ▸ pj_mk127) (pj_q128 M)
set_option maxRecDepth 100000 in
theorem pj_q126 : ∀ M ∈ pj_prog.drop 126, pj_okR pj_prog M = true := fun M h => (List.mem_cons.mp (show M ∈ pj_m126 :: pj_prog.drop 127 from h)).elim (fun e => e ▸ pj_mk126) (pj_q127 M)
set_option maxRecDepth 100000 in
theorem pj_q125 : ∀ M ∈ pj_prog.drop 125, pj_okR pj_prog M = true := fun M h => (List.mem_cons.mp (show M ∈ pj_m125 :: pj_prog.drop 126 from h)).elim (fun e => e ▸ pj_mk125) (pj_q126 M)
set_option maxRecDepth 100000 in
theorem pj_q124 : ∀ M ∈ pj_prog.drop 124, pj_okR pj_prog M = true := fun M h => (List.mem_cons.mp (show M ∈ pj_m124 :: pj_prog.drop 125 from h)).elim (fun e => e ▸ pj_mk124) (pj_q125 M)
set_option maxRecDepth 100000 in
theorem pj_q123 : ∀ M ∈ pj_prog.drop 123, pj_okR pj_prog M = true := fun M h => (List.mem_cons.mp (show M ∈ pj_m123 :: pj_prog.drop 124 from h)).elim (fun e => e ▸ pj_mk123) (pj_q124 M)
set_option maxRecDepth 100000 in
theorem pj_q122 : ∀ M ∈ pj_prog.drop 122, pj_okR pj_prog M = true := fun M h => (List.mem_cons.mp (show M ∈ pj_m122 :: pj_prog.drop 123 from h)).elim (fun e => e ▸ pj_mk122) (pj_q123 M)
set_option maxRecDepth 100000 in
theorem pj_q121 : ∀ M ∈ pj_prog.drop 121, pj_okR pj_prog M = true := fun M h => (List.mem_cons.mp (show M ∈ pj_m121 :: pj_prog.drop 122 from h)).elim (fun e => e ▸ pj_mk121) (pj_q122 M)
set_option maxRecDepth 100000 in
theorem pj_q120 : ∀ M ∈ pj_prog.drop 120, pj_okR pj_prog M = true := fun M h => (List.mem_cons.mp (show M ∈ pj_m120 :: pj_prog.drop 121 from h)).elim (fun e => e ▸ pj_mk120) (pj_q121 M)
set_option maxRecDepth 100000 in
theorem pj_q119 : ∀ M ∈ pj_prog.drop 119, pj_okR pj_prog M = true := fun M h => (List.mem_cons.mp (show M ∈ pj_m119 :: pj_prog.drop 120 from h)).elim (fun e => e ▸ pj_mk119) (pj_q120 M)
set_option maxRecDepth 100000 in
theorem pj_q118 : ∀ M ∈ pj_prog.drop 118, pj_okR pj_prog M = true := fun M h => (List.mem_cons.mp (show M ∈ pj_m118 :: pj_prog.drop 119 from h)).elim (fun e => e ▸ pj_mk118) (pj_q119 M)
set_option maxRecDepth 100000 in
theorem pj_q117 : ∀ M ∈ pj_prog.drop 117, pj_okR pj_prog M = true := fun M h => (List.mem_cons.mp (show M ∈ pj_m117 :: pj_prog.drop 118 from h)).elim (fun e => e ▸ pj_mk117) (pj_q118 M)
set_option maxRecDepth 100000 in
theorem pj_q116 : ∀ M ∈ pj_prog.drop 116, pj_okR pj_prog M = true := fun M h => (List.mem_cons.mp (show M ∈ pj_m116 :: pj_prog.drop 117 from h)).elim (fun e => e ▸ pj_mk116) (pj_q117 M)
set_option maxRecDepth 100000 in
theorem pj_q115 : ∀ M ∈ pj_prog.drop 115, pj_okR pj_prog M = true := fun M h => (List.mem_cons.mp (show M ∈ pj_m115 :: pj_prog.drop 116 from h)).elim (fun e => e ▸ pj_mk115) (pj_q116 M)
set_option maxRecDepth 100000 in
theorem pj_q114 : ∀ M ∈ pj_prog.drop 114, pj_okR pj_prog M = true := fun M h => (List.mem_cons.mp (show M ∈ pj_m114 :: pj_prog.drop 115 from h)).elim (fun e => e ▸ pj_mk114) (pj_q115 M)
set_option maxRecDepth 100000 in
theorem pj_q113 : ∀ M ∈ pj_prog.drop 113, pj_okR pj_prog M = true := fun M h => (List.mem_cons.mp (show M ∈ pj_m113 :: pj_prog.drop 114 from h)).elim (fun e => e ▸ pj_mk113) (pj_q114 M)
set_option maxRecDepth 100000 in
theorem pj_q112 : ∀ M ∈ pj_prog.drop 112, pj_okR pj_prog M = true := fun M h => (List.mem_cons.mp (show M ∈ pj_m112 :: pj_prog.drop 113 from h)).elim (fun e => e ▸ pj_mk112) (pj_q113 M)
set_option maxRecDepth 100000 in
theorem pj_q111 : ∀ M ∈ pj_prog.drop 111, pj_okR pj_prog M = true := fun M h => (List.mem_cons.mp (show M ∈ pj_m111 :: pj_prog.drop 112 from h)).elim (fun e => e ▸ pj_mk111) (pj_q112 M)
set_option maxRecDepth 100000 in
theorem pj_q110 : ∀ M ∈ pj_prog.drop 110, pj_okR pj_prog M = true := fun M h => (List.mem_cons.mp (show M ∈ pj_m110 :: pj_prog.drop 111 from h)).elim (fun e => e ▸ pj_mk110) (pj_q111 M)
set_option maxRecDepth 100000 in
theorem pj_q109 : ∀ M ∈ pj_prog.drop 109, pj_okR pj_prog M = true := fun M h => (List.mem_cons.mp (show M ∈ pj_m109 :: pj_prog.drop 110 from h)).elim (fun e => e ▸ pj_mk109) (pj_q110 M)
set_option maxRecDepth 100000 in
theorem pj_q108 : ∀ M ∈ pj_prog.drop 108, pj_okR pj_prog M = true := fun M h => (List.mem_cons.mp (show M ∈ pj_m108 :: pj_prog.drop 109 from h)).elim (fun e => e ▸ pj_mk108) (pj_q109 M)
set_option maxRecDepth 100000 in
theorem pj_q107 : ∀ M ∈ pj_prog.drop 107, pj_okR pj_prog M = true := fun M h => (List.mem_cons.mp (show M ∈ pj_m107 :: pj_prog.drop 108 from h)).elim (fun e => e ▸ pj_mk107) (pj_q108 M)
set_option maxRecDepth 100000 in
theorem pj_q106 : ∀ M ∈ pj_prog.drop 106, pj_okR pj_prog M = true := fun M h => (List.mem_cons.mp (show M ∈ pj_m106 :: pj_prog.drop 107 from h)).elim (fun e => e ▸ pj_mk106) (pj_q107 M)
set_option maxRecDepth 100000 in
theorem pj_q105 : ∀ M ∈ pj_prog.drop 105, pj_okR pj_prog M = true := fun M h => (List.mem_cons.mp (show M ∈ pj_m105 :: pj_prog.drop 106 from h)).elim (fun e => e ▸ pj_mk105) (pj_q106 M)
set_option maxRecDepth 100000 in
theorem pj_q104 : ∀ M ∈ pj_prog.drop 104, pj_okR pj_prog M = true := fun M h => (List.mem_cons.mp (show M ∈ pj_m104 :: pj_prog.drop 105 from h)).elim (fun e => e ▸ pj_mk104) (pj_q105 M)
set_option maxRecDepth 100000 in
theorem pj_q103 : ∀ M ∈ pj_prog.drop 103, pj_okR pj_prog M = true := fun M h => (List.mem_cons.mp (show M ∈ pj_m103 :: pj_prog.drop 104 from h)).elim (fun e => e ▸ pj_mk103) (pj_q104 M)
set_option maxRecDepth 100000 in
theorem pj_q102 : ∀ M ∈ pj_prog.drop 102, pj_okR pj_prog M = true := fun M h => (List.mem_cons.mp (show M ∈ pj_m102 :: pj_prog.drop 103 from h)).elim (fun e => e ▸ pj_mk102) (pj_q103 M)
set_option maxRecDepth 100000 in
theorem pj_q101 : ∀ M ∈ pj_prog.drop 101, pj_okR pj_prog M = true := fun M h => (List.mem_cons.mp (show M ∈ pj_m101 :: pj_prog.drop 102 from h)).elim (fun e => e ▸ pj_mk101) (pj_q102 M)
set_option maxRecDepth 100000 in
theorem pj_q100 : ∀ M ∈ pj_prog.drop 100, pj_okR pj_prog M = true := fun M h => (List.mem_cons.mp (show M ∈ pj_m100 :: pj_prog.drop 101 from h)).elim (fun e => e ▸ pj_mk100) (pj_q101 M)
set_option maxRecDepth 100000 in
theorem pj_q99 : ∀ M ∈ pj_prog.drop 99, pj_okR pj_prog M = true := fun M h => (List.mem_cons.mp (show M ∈ pj_m99 :: pj_prog.drop 100 from h)).elim (fun e => e ▸ pj_mk99) (pj_q100 M)
set_option maxRecDepth 100000 in
theorem pj_q98 : ∀ M ∈ pj_prog.drop 98, pj_okR pj_prog M = true := fun M h => (List.mem_cons.mp (show M ∈ pj_m98 :: pj_prog.drop 99 from h)).elim (fun e => e ▸ pj_mk98) (pj_q99 M)
set_option maxRecDepth 100000 in
theorem pj_q97 : ∀ M ∈ pj_prog.drop 97, pj_okR pj_prog M = true := fun M h => (List.mem_cons.mp (show M ∈ pj_m97 :: pj_prog.drop 98 from h)).elim (fun e => e ▸ pj_mk97) (pj_q98 M)
set_option maxRecDepth 100000 in
theorem pj_q96 : ∀ M ∈ pj_prog.drop 96, pj_okR pj_prog M = true := fun M h => (List.mem_cons.mp (show M ∈ pj_m96 :: pj_prog.drop 97 from h)).elim (fun e => e ▸ pj_mk96) (pj_q97 M)
set_option maxRecDepth 100000 in
theorem pj_q95 : ∀ M ∈ pj_prog.drop 95, pj_okR pj_prog M = true := fun M h => (List.mem_cons.mp (show M ∈ pj_m95 :: pj_prog.drop 96 from h)).elim (fun e => e ▸ pj_mk95) (pj_q96 M)
set_option maxRecDepth 100000 in
theorem pj_q94 : ∀ M ∈ pj_prog.drop 94, pj_okR pj_prog M = true := fun M h => (List.mem_cons.mp (show M ∈ pj_m94 :: pj_prog.drop 95 from h)).elim (fun e => e ▸ pj_mk94) (pj_q95 M)
set_option maxRecDepth 100000 in
theorem pj_q93 : ∀ M ∈ pj_prog.drop 93, pj_okR pj_prog M = true := fun M h => (List.mem_cons.mp (show M ∈ pj_m93 :: pj_prog.drop 94 from h)).elim (fun e => e ▸ pj_mk93) (pj_q94 M)
set_option maxRecDepth 100000 in
theorem pj_q92 : ∀ M ∈ pj_prog.drop 92, pj_okR pj_prog M = true := fun M h => (List.mem_cons.mp (show M ∈ pj_m92 :: pj_prog.drop 93 from h)).elim (fun e => e ▸ pj_mk92) (pj_q93 M)
set_option maxRecDepth 100000 in
theorem pj_q91 : ∀ M ∈ pj_prog.drop 91, pj_okR pj_prog M = true := fun M h => (List.mem_cons.mp (show M ∈ pj_m91 :: pj_prog.drop 92 from h)).elim (fun e => e ▸ pj_mk91) (pj_q92 M)
set_option maxRecDepth 100000 in
theorem pj_q90 : ∀ M ∈ pj_prog.drop 90, pj_okR pj_prog M = true := fun M h => (List.mem_cons.mp (show M ∈ pj_m90 :: pj_prog.drop 91 from h)).elim (fun e => e ▸ pj_mk90) (pj_q91 M)
set_option maxRecDepth 100000 in
theorem pj_q89 : ∀ M ∈ pj_prog.drop 89, pj_okR pj_prog M = true := fun M h => (List.mem_cons.mp (show M ∈ pj_m89 :: pj_prog.drop 90 from h)).elim (fun e => e ▸ pj_mk89) (pj_q90 M)
set_option maxRecDepth 100000 in
theorem pj_q88 : ∀ M ∈ pj_prog.drop 88, pj_okR pj_prog M = true := fun M h => (List.mem_cons.mp (show M ∈ pj_m88 :: pj_prog.drop 89 from h)).elim (fun e => e ▸ pj_mk88) (pj_q89 M)
set_option maxRecDepth 100000 in
theorem pj_q87 : ∀ M ∈ pj_prog.drop 87, pj_okR pj_prog M = true := fun M h => (List.mem_cons.mp (show M ∈ pj_m87 :: pj_prog.drop 88 from h)).elim (fun e => e ▸ pj_mk87) (pj_q88 M)
set_option maxRecDepth 100000 in
theorem pj_q86 : ∀ M ∈ pj_prog.drop 86, pj_okR pj_prog M = true := fun M h => (List.mem_cons.mp (show M ∈ pj_m86 :: pj_prog.drop 87 from h)).elim (fun e => e ▸ pj_mk86) (pj_q87 M)
set_option maxRecDepth 100000 in
theorem pj_q85 : ∀ M ∈ pj_prog.drop 85, pj_okR pj_prog M = true := fun M h => (List.mem_cons.mp (show M ∈ pj_m85 :: pj_prog.drop 86 from h)).elim (fun e => e ▸ pj_mk85) (pj_q86 M)
set_option maxRecDepth 100000 in
theorem pj_q84 : ∀ M ∈ pj_prog.drop 84, pj_okR pj_prog M = true := fun M h => (List.mem_cons.mp (show M ∈ pj_m84 :: pj_prog.drop 85 from h)).elim (fun e => e ▸ pj_mk84) (pj_q85 M)
set_option maxRecDepth 100000 in
theorem pj_q83 : ∀ M ∈ pj_prog.drop 83, pj_okR pj_prog M = true := fun M h => (List.mem_cons.mp (show M ∈ pj_m83 :: pj_prog.drop 84 from h)).elim (fun e => e ▸ pj_mk83) (pj_q84 M)
set_option maxRecDepth 100000 in
theorem pj_q82 : ∀ M ∈ pj_prog.drop 82, pj_okR pj_prog M = true := fun M h => (List.mem_cons.mp (show M ∈ pj_m82 :: pj_prog.drop 83 from h)).elim (fun e => e ▸ pj_mk82) (pj_q83 M)
set_option maxRecDepth 100000 in
theorem pj_q81 : ∀ M ∈ pj_prog.drop 81, pj_okR pj_prog M = true := fun M h => (List.mem_cons.mp (show M ∈ pj_m81 :: pj_prog.drop 82 from h)).elim (fun e => e ▸ pj_mk81) (pj_q82 M)
set_option maxRecDepth 100000 in
theorem pj_q80 : ∀ M ∈ pj_prog.drop 80, pj_okR pj_prog M = true := fun M h => (List.mem_cons.mp (show M ∈ pj_m80 :: pj_prog.drop 81 from h)).elim (fun e => e ▸ pj_mk80) (pj_q81 M)
set_option maxRecDepth 100000 in
theorem pj_q79 : ∀ M ∈ pj_prog.drop 79, pj_okR pj_prog M = true := fun M h => (List.mem_cons.mp (show M ∈ pj_m79 :: pj_prog.drop 80 from h)).elim (fun e => e ▸ pj_mk79) (pj_q80 M)
set_option maxRecDepth 100000 in
theorem pj_q78 : ∀ M ∈ pj_prog.drop 78, pj_okR pj_prog M = true := fun M h => (List.mem_cons.mp (show M ∈ pj_m78 :: pj_prog.drop 79 from h)).elim (fun e => e ▸ pj_mk78) (pj_q79 M)
set_option maxRecDepth 100000 in
theorem pj_q77 : ∀ M ∈ pj_prog.drop 77, pj_okR pj_prog M = true := fun M h => (List.mem_cons.mp (show M ∈ pj_m77 :: pj_prog.drop 78 from h)).elim (fun e => e ▸ pj_mk77) (pj_q78 M)
set_option maxRecDepth 100000 in
theorem pj_q76 : ∀ M ∈ pj_prog.drop 76, pj_okR pj_prog M = true := fun M h => (List.mem_cons.mp (show M ∈ pj_m76 :: pj_prog.drop 77 from h)).elim (fun e => e ▸ pj_mk76) (pj_q77 M)
set_option maxRecDepth 100000 in
theorem pj_q75 : ∀ M ∈ pj_prog.drop 75, pj_okR pj_prog M = true := fun M h => (List.mem_cons.mp (show M ∈ pj_m75 :: pj_prog.drop 76 from h)).elim (fun e => e ▸ pj_mk75) (pj_q76 M)
set_option maxRecDepth 100000 in
theorem pj_q74 : ∀ M ∈ pj_prog.drop 74, pj_okR pj_prog M = true := fun M h => (List.mem_cons.mp (show M ∈ pj_m74 :: pj_prog.drop 75 from h)).elim (fun e => e ▸ pj_mk74) (pj_q75 M)
set_option maxRecDepth 100000 in
theorem pj_q73 : ∀ M ∈ pj_prog.drop 73, pj_okR pj_prog M = true := fun M h => (List.mem_cons.mp (show M ∈ pj_m73 :: pj_prog.drop 74 from h)).elim (fun e => e ▸ pj_mk73) (pj_q74 M)
set_option maxRecDepth 100000 in
theorem pj_q72 : ∀ M ∈ pj_prog.drop 72, pj_okR pj_prog M = true := fun M h => (List.mem_cons.mp (show M ∈ pj_m72 :: pj_prog.drop 73 from h)).elim (fun e => e ▸ pj_mk72) (pj_q73 M)
set_option maxRecDepth 100000 in
theorem pj_q71 : ∀ M ∈ pj_prog.drop 71, pj_okR pj_prog M = true := fun M h => (List.mem_cons.mp (show M ∈ pj_m71 :: pj_prog.drop 72 from h)).elim (fun e => e ▸ pj_mk71) (pj_q72 M)
set_option maxRecDepth 100000 in
theorem pj_q70 : ∀ M ∈ pj_prog.drop 70, pj_okR pj_prog M = true := fun M h => (List.mem_cons.mp (show M ∈ pj_m70 :: pj_prog.drop 71 from h)).elim (fun e => e ▸ pj_mk70) (pj_q71 M)
set_option maxRecDepth 100000 in
theorem pj_q69 : ∀ M ∈ pj_prog.drop 69, pj_okR pj_prog M = true := fun M h => (List.mem_cons.mp (show M ∈ pj_m69 :: pj_prog.drop 70 from h)).elim (fun e => e ▸ pj_mk69) (pj_q70 M)
set_option maxRecDepth 100000 in
theorem pj_q68 : ∀ M ∈ pj_prog.drop 68, pj_okR pj_prog M = true := fun M h => (List.mem_cons.mp (show M ∈ pj_m68 :: pj_prog.drop 69 from h)).elim (fun e => e ▸ pj_mk68) (pj_q69 M)
set_option maxRecDepth 100000 in
theorem pj_q67 : ∀ M ∈ pj_prog.drop 67, pj_okR pj_prog M = true := fun M h => (List.mem_cons.mp (show M ∈ pj_m67 :: pj_prog.drop 68 from h)).elim (fun e => e ▸ pj_mk67) (pj_q68 M)
set_option maxRecDepth 100000 in
theorem pj_q66 : ∀ M ∈ pj_prog.drop 66, pj_okR pj_prog M = true := fun M h => (List.mem_cons.mp (show M ∈ pj_m66 :: pj_prog.drop 67 from h)).elim (fun e => e ▸ pj_mk66) (pj_q67 M)
set_option maxRecDepth 100000 in
theorem pj_q65 : ∀ M ∈ pj_prog.drop 65, pj_okR pj_prog M = true := fun M h => (List.mem_cons.mp (show M ∈ pj_m65 :: pj_prog.drop 66 from h)).elim (fun e => e ▸ pj_mk65) (pj_q66 M)
set_option maxRecDepth 100000 in
theorem pj_q64 : ∀ M ∈ pj_prog.drop 64, pj_okR pj_prog M = true := fun M h => (List.mem_cons.mp (show M ∈ pj_m64 :: pj_prog.drop 65 from h)).elim (fun e => e ▸ pj_mk64) (pj_q65 M)
set_option maxRecDepth 100000 in
theorem pj_q63 : ∀ M ∈ pj_prog.drop 63, pj_okR pj_prog M = true := fun M h => (List.mem_cons.mp (show M ∈ pj_m63 :: pj_prog.drop 64 from h)).elim (fun e => e ▸ pj_mk63) (pj_q64 M)
set_option maxRecDepth 100000 in
theorem pj_q62 : ∀ M ∈ pj_prog.drop 62, pj_okR pj_prog M = true := fun M h => (List.mem_cons.mp (show M ∈ pj_m62 :: pj_prog.drop 63 from h)).elim (fun e => e ▸ pj_mk62) (pj_q63 M)
set_option maxRecDepth 100000 in
theorem pj_q61 : ∀ M ∈ pj_prog.drop 61, pj_okR pj_prog M = true := fun M h => (List.mem_cons.mp (show M ∈ pj_m61 :: pj_prog.drop 62 from h)).elim (fun e => e ▸ pj_mk61) (pj_q62 M)
set_option maxRecDepth 100000 in
theorem pj_q60 : ∀ M ∈ pj_prog.drop 60, pj_okR pj_prog M = true := fun M h => (List.mem_cons.mp (show M ∈ pj_m60 :: pj_prog.drop 61 from h)).elim (fun e => e ▸ pj_mk60) (pj_q61 M)
set_option maxRecDepth 100000 in
theorem pj_q59 : ∀ M ∈ pj_prog.drop 59, pj_okR pj_prog M = true := fun M h => (List.mem_cons.mp (show M ∈ pj_m59 :: pj_prog.drop 60 from h)).elim (fun e => e ▸ pj_mk59) (pj_q60 M)
set_option maxRecDepth 100000 in
theorem pj_q58 : ∀ M ∈ pj_prog.drop 58, pj_okR pj_prog M = true := fun M h => (List.mem_cons.mp (show M ∈ pj_m58 :: pj_prog.drop 59 from h)).elim (fun e => e ▸ pj_mk58) (pj_q59 M)
set_option maxRecDepth 100000 in
theorem pj_q57 : ∀ M ∈ pj_prog.drop 57, pj_okR pj_prog M = true := fun M h => (List.mem_cons.mp (show M ∈ pj_m57 :: pj_prog.drop 58 from h)).elim (fun e => e ▸ pj_mk57) (pj_q58 M)
set_option maxRecDepth 100000 in
theorem pj_q56 : ∀ M ∈ pj_prog.drop 56, pj_okR pj_prog M = true := fun M h => (List.mem_cons.mp (show M ∈ pj_m56 :: pj_prog.drop 57 from h)).elim (fun e => e ▸ pj_mk56) (pj_q57 M)
set_option maxRecDepth 100000 in
theorem pj_q55 : ∀ M ∈ pj_prog.drop 55, pj_okR pj_prog M = true := fun M h => (List.mem_cons.mp (show M ∈ pj_m55 :: pj_prog.drop 56 from h)).elim (fun e => e ▸ pj_mk55) (pj_q56 M)
set_option maxRecDepth 100000 in
theorem pj_q54 : ∀ M ∈ pj_prog.drop 54, pj_okR pj_prog M = true := fun M h => (List.mem_cons.mp (show M ∈ pj_m54 :: pj_prog.drop 55 from h)).elim (fun e => e ▸ pj_mk54) (pj_q55 M)
set_option maxRecDepth 100000 in
theorem pj_q53 : ∀ M ∈ pj_prog.drop 53, pj_okR pj_prog M = true := fun M h => (List.mem_cons.mp (show M ∈ pj_m53 :: pj_prog.drop 54 from h)).elim (fun e => e ▸ pj_mk53) (pj_q54 M)
set_option maxRecDepth 100000 in
theorem pj_q52 : ∀ M ∈ pj_prog.drop 52, pj_okR pj_prog M = true := fun M h => (List.mem_cons.mp (show M ∈ pj_m52 :: pj_prog.drop 53 from h)).elim (fun e => e ▸ pj_mk52) (pj_q53 M)
set_option maxRecDepth 100000 in
theorem pj_q51 : ∀ M ∈ pj_prog.drop 51, pj_okR pj_prog M = true := fun M h => (List.mem_cons.mp (show M ∈ pj_m51 :: pj_prog.drop 52 from h)).elim (fun e => e ▸ pj_mk51) (pj_q52 M)
set_option maxRecDepth 100000 in
theorem pj_q50 : ∀ M ∈ pj_prog.drop 50, pj_okR pj_prog M = true := fun M h => (List.mem_cons.mp (show M ∈ pj_m50 :: pj_prog.drop 51 from h)).elim (fun e => e ▸ pj_mk50) (pj_q51 M)
set_option maxRecDepth 100000 in
theorem pj_q49 : ∀ M ∈ pj_prog.drop 49, pj_okR pj_prog M = true := fun M h => (List.mem_cons.mp (show M ∈ pj_m49 :: pj_prog.drop 50 from h)).elim (fun e => e ▸ pj_mk49) (pj_q50 M)
set_option maxRecDepth 100000 in
theorem pj_q48 : ∀ M ∈ pj_prog.drop 48, pj_okR pj_prog M = true := fun M h => (List.mem_cons.mp (show M ∈ pj_m48 :: pj_prog.drop 49 from h)).elim (fun e => e ▸ pj_mk48) (pj_q49 M)
set_option maxRecDepth 100000 in
theorem pj_q47 : ∀ M ∈ pj_prog.drop 47, pj_okR pj_prog M = true := fun M h => (List.mem_cons.mp (show M ∈ pj_m47 :: pj_prog.drop 48 from h)).elim (fun e => e ▸ pj_mk47) (pj_q48 M)
set_option maxRecDepth 100000 in
theorem pj_q46 : ∀ M ∈ pj_prog.drop 46, pj_okR pj_prog M = true := fun M h => (List.mem_cons.mp (show M ∈ pj_m46 :: pj_prog.drop 47 from h)).elim (fun e => e ▸ pj_mk46) (pj_q47 M)
set_option maxRecDepth 100000 in
theorem pj_q45 : ∀ M ∈ pj_prog.drop 45, pj_okR pj_prog M = true := fun M h => (List.mem_cons.mp (show M ∈ pj_m45 :: pj_prog.drop 46 from h)).elim (fun e => e ▸ pj_mk45) (pj_q46 M)
set_option maxRecDepth 100000 in
theorem pj_q44 : ∀ M ∈ pj_prog.drop 44, pj_okR pj_prog M = true := fun M h => (List.mem_cons.mp (show M ∈ pj_m44 :: pj_prog.drop 45 from h)).elim (fun e => e ▸ pj_mk44) (pj_q45 M)
set_option maxRecDepth 100000 in
theorem pj_q43 : ∀ M ∈ pj_prog.drop 43, pj_okR pj_prog M = true := fun M h => (List.mem_cons.mp (show M ∈ pj_m43 :: pj_prog.drop 44 from h)).elim (fun e => e ▸ pj_mk43) (pj_q44 M)
set_option maxRecDepth 100000 in
theorem pj_q42 : ∀ M ∈ pj_prog.drop 42, pj_okR pj_prog M = true := fun M h => (List.mem_cons.mp (show M ∈ pj_m42 :: pj_prog.drop 43 from h)).elim (fun e => e ▸ pj_mk42) (pj_q43 M)
set_option maxRecDepth 100000 in
theorem pj_q41 : ∀ M ∈ pj_prog.drop 41, pj_okR pj_prog M = true := fun M h => (List.mem_cons.mp (show M ∈ pj_m41 :: pj_prog.drop 42 from h)).elim (fun e => e ▸ pj_mk41) (pj_q42 M)
set_option maxRecDepth 100000 in
theorem pj_q40 : ∀ M ∈ pj_prog.drop 40, pj_okR pj_prog M = true := fun M h => (List.mem_cons.mp (show M ∈ pj_m40 :: pj_prog.drop 41 from h)).elim (fun e => e ▸ pj_mk40) (pj_q41 M)
set_option maxRecDepth 100000 in
theorem pj_q39 : ∀ M ∈ pj_prog.drop 39, pj_okR pj_prog M = true := fun M h => (List.mem_cons.mp (show M ∈ pj_m39 :: pj_prog.drop 40 from h)).elim (fun e => e ▸ pj_mk39) (pj_q40 M)
set_option maxRecDepth 100000 in
theorem pj_q38 : ∀ M ∈ pj_prog.drop 38, pj_okR pj_prog M = true := fun M h => (List.mem_cons.mp (show M ∈ pj_m38 :: pj_prog.drop 39 from h)).elim (fun e => e ▸ pj_mk38) (pj_q39 M)
set_option maxRecDepth 100000 in
theorem pj_q37 : ∀ M ∈ pj_prog.drop 37, pj_okR pj_prog M = true := fun M h => (List.mem_cons.mp (show M ∈ pj_m37 :: pj_prog.drop 38 from h)).elim (fun e => e ▸ pj_mk37) (pj_q38 M)
set_option maxRecDepth 100000 in
theorem pj_q36 : ∀ M ∈ pj_prog.drop 36, pj_okR pj_prog M = true := fun M h => (List.mem_cons.mp (show M ∈ pj_m36 :: pj_prog.drop 37 from h)).elim (fun e => e ▸ pj_mk36) (pj_q37 M)
set_option maxRecDepth 100000 in
theorem pj_q35 : ∀ M ∈ pj_prog.drop 35, pj_okR pj_prog M = true := fun M h => (List.mem_cons.mp (show M ∈ pj_m35 :: pj_prog.drop 36 from h)).elim (fun e => e ▸ pj_mk35) (pj_q36 M)
set_option maxRecDepth 100000 in
theorem pj_q34 : ∀ M ∈ pj_prog.drop 34, pj_okR pj_prog M = true := fun M h => (List.mem_cons.mp (show M ∈ pj_m34 :: pj_prog.drop 35 from h)).elim (fun e => e ▸ pj_mk34) (pj_q35 M)
set_option maxRecDepth 100000 in
theorem pj_q33 : ∀ M ∈ pj_prog.drop 33, pj_okR pj_prog M = true := fun M h => (List.mem_cons.mp (show M ∈ pj_m33 :: pj_prog.drop 34 from h)).elim (fun e => e ▸ pj_mk33) (pj_q34 M)
set_option maxRecDepth 100000 in
theorem pj_q32 : ∀ M ∈ pj_prog.drop 32, pj_okR pj_prog M = true := fun M h => (List.mem_cons.mp (show M ∈ pj_m32 :: pj_prog.drop 33 from h)).elim (fun e => e ▸ pj_mk32) (pj_q33 M)
set_option maxRecDepth 100000 in
theorem pj_q31 : ∀ M ∈ pj_prog.drop 31, pj_okR pj_prog M = true := fun M h => (List.mem_cons.mp (show M ∈ pj_m31 :: pj_prog.drop 32 from h)).elim (fun e => e ▸ pj_mk31) (pj_q32 M)
set_option maxRecDepth 100000 in
theorem pj_q30 : ∀ M ∈ pj_prog.drop 30, pj_okR pj_prog M = true := fun M h => (List.mem_cons.mp (show M ∈ pj_m30 :: pj_prog.drop 31 from h)).elim (fun e => e ▸ pj_mk30) (pj_q31 M)
set_option maxRecDepth 100000 in
theorem pj_q29 : ∀ M ∈ pj_prog.drop 29, pj_okR pj_prog M = true := fun M h => (List.mem_cons.mp (show M ∈ pj_m29 :: pj_prog.drop 30 from h)).elim (fun e => e ▸ pj_mk29) (pj_q30 M)
set_option maxRecDepth 100000 in
theorem pj_q28 : ∀ M ∈ pj_prog.drop 28, pj_okR pj_prog M = true := fun M h => (List.mem_cons.mp (show M ∈ pj_m28 :: pj_prog.drop 29 from h)).elim (fun e => e ▸ pj_mk28) (pj_q29 M)
set_option maxRecDepth 100000 in
theorem pj_q27 : ∀ M ∈ pj_prog.drop 27, pj_okR pj_prog M = true := fun M h => (List.mem_cons.mp (show M ∈ pj_m27 :: pj_prog.drop 28 from h)).elim (fun e => e ▸ pj_mk27) (pj_q28 M)
set_option maxRecDepth 100000 in
theorem pj_q26 : ∀ M ∈ pj_prog.drop 26, pj_okR pj_prog M = true := fun M h => (List.mem_cons.mp (show M ∈ pj_m26 :: pj_prog.drop 27 from h)).elim (fun e => e ▸ pj_mk26) (pj_q27 M)
set_option maxRecDepth 100000 in
theorem pj_q25 : ∀ M ∈ pj_prog.drop 25, pj_okR pj_prog M = true := fun M h => (List.mem_cons.mp (show M ∈ pj_m25 :: pj_prog.drop 26 from h)).elim (fun e => e ▸ pj_mk25) (pj_q26 M)
set_option maxRecDepth 100000 in
theorem pj_q24 : ∀ M ∈ pj_prog.drop 24, pj_okR pj_prog M = true := fun M h => (List.mem_cons.mp (show M ∈ pj_m24 :: pj_prog.drop 25 from h)).elim (fun e => e ▸ pj_mk24) (pj_q25 M)
set_option maxRecDepth 100000 in
theorem pj_q23 : ∀ M ∈ pj_prog.drop 23, pj_okR pj_prog M = true := fun M h => (List.mem_cons.mp (show M ∈ pj_m23 :: pj_prog.drop 24 from h)).elim (fun e => e ▸ pj_mk23) (pj_q24 M)
set_option maxRecDepth 100000 in
theorem pj_q22 : ∀ M ∈ pj_prog.drop 22, pj_okR pj_prog M = true := fun M h => (List.mem_cons.mp (show M ∈ pj_m22 :: pj_prog.drop 23 from h)).elim (fun e => e ▸ pj_mk22) (pj_q23 M)
set_option maxRecDepth 100000 in
theorem pj_q21 : ∀ M ∈ pj_prog.drop 21, pj_okR pj_prog M = true := fun M h => (List.mem_cons.mp (show M ∈ pj_m21 :: pj_prog.drop 22 from h)).elim (fun e => e ▸ pj_mk21) (pj_q22 M)
set_option maxRecDepth 100000 in
theorem pj_q20 : ∀ M ∈ pj_prog.drop 20, pj_okR pj_prog M = true := fun M h => (List.mem_cons.mp (show M ∈ pj_m20 :: pj_prog.drop 21 from h)).elim (fun e => e ▸ pj_mk20) (pj_q21 M)
set_option maxRecDepth 100000 in
theorem pj_q19 : ∀ M ∈ pj_prog.drop 19, pj_okR pj_prog M = true := fun M h => (List.mem_cons.mp (show M ∈ pj_m19 :: pj_prog.drop 20 from h)).elim (fun e => e ▸ pj_mk19) (pj_q20 M)
set_option maxRecDepth 100000 in
theorem pj_q18 : ∀ M ∈ pj_prog.drop 18, pj_okR pj_prog M = true := fun M h => (List.mem_cons.mp (show M ∈ pj_m18 :: pj_prog.drop 19 from h)).elim (fun e => e ▸ pj_mk18) (pj_q19 M)
set_option maxRecDepth 100000 in
theorem pj_q17 : ∀ M ∈ pj_prog.drop 17, pj_okR pj_prog M = true := fun M h => (List.mem_cons.mp (show M ∈ pj_m17 :: pj_prog.drop 18 from h)).elim (fun e => e ▸ pj_mk17) (pj_q18 M)
set_option maxRecDepth 100000 in
theorem pj_q16 : ∀ M ∈ pj_prog.drop 16, pj_okR pj_prog M = true := fun M h => (List.mem_cons.mp (show M ∈ pj_m16 :: pj_prog.drop 17 from h)).elim (fun e => e ▸ pj_mk16) (pj_q17 M)
set_option maxRecDepth 100000 in
theorem pj_q15 : ∀ M ∈ pj_prog.drop 15, pj_okR pj_prog M = true := fun M h => (List.mem_cons.mp (show M ∈ pj_m15 :: pj_prog.drop 16 from h)).elim (fun e => e ▸ pj_mk15) (pj_q16 M)
set_option maxRecDepth 100000 in
theorem pj_q14 : ∀ M ∈ pj_prog.drop 14, pj_okR pj_prog M = true := fun M h => (List.mem_cons.mp (show M ∈ pj_m14 :: pj_prog.drop 15 from h)).elim (fun e => e ▸ pj_mk14) (pj_q15 M)
set_option maxRecDepth 100000 in
theorem pj_q13 : ∀ M ∈ pj_prog.drop 13, pj_okR pj_prog M = true := fun M h => (List.mem_cons.mp (show M ∈ pj_m13 :: pj_prog.drop 14 from h)).elim (fun e => e ▸ pj_mk13) (pj_q14 M)
set_option maxRecDepth 100000 in
theorem pj_q12 : ∀ M ∈ pj_prog.drop 12, pj_okR pj_prog M = true := fun M h => (List.mem_cons.mp (show M ∈ pj_m12 :: pj_prog.drop 13 from h)).elim (fun e => e ▸ pj_mk12) (pj_q13 M)
set_option maxRecDepth 100000 in
theorem pj_q11 : ∀ M ∈ pj_prog.drop 11, pj_okR pj_prog M = true := fun M h => (List.mem_cons.mp (show M ∈ pj_m11 :: pj_prog.drop 12 from h)).elim (fun e => e ▸ pj_mk11) (pj_q12 M)
set_option maxRecDepth 100000 in
theorem pj_q10 : ∀ M ∈ pj_prog.drop 10, pj_okR pj_prog M = true := fun M h => (List.mem_cons.mp (show M ∈ pj_m10 :: pj_prog.drop 11 from h)).elim (fun e => e ▸ pj_mk10) (pj_q11 M)
set_option maxRecDepth 100000 in
theorem pj_q9 : ∀ M ∈ pj_prog.drop 9, pj_okR pj_prog M = true := fun M h => (List.mem_cons.mp (show M ∈ pj_m9 :: pj_prog.drop 10 from h)).elim (fun e => e ▸ pj_mk9) (pj_q10 M)
set_option maxRecDepth 100000 in
theorem pj_q8 : ∀ M ∈ pj_prog.drop 8, pj_okR pj_prog M = true := fun M h => (List.mem_cons.mp (show M ∈ pj_m8 :: pj_prog.drop 9 from h)).elim (fun e => e ▸ pj_mk8) (pj_q9 M)
set_option maxRecDepth 100000 in
theorem pj_q7 : ∀ M ∈ pj_prog.drop 7, pj_okR pj_prog M = true := fun M h => (List.mem_cons.mp (show M ∈ pj_m7 :: pj_prog.drop 8 from h)).elim (fun e => e ▸ pj_mk7) (pj_q8 M)
set_option maxRecDepth 100000 in
theorem pj_q6 : ∀ M ∈ pj_prog.drop 6, pj_okR pj_prog M = true := fun M h => (List.mem_cons.mp (show M ∈ pj_m6 :: pj_prog.drop 7 from h)).elim (fun e => e ▸ pj_mk6) (pj_q7 M)
set_option maxRecDepth 100000 in
theorem pj_q5 : ∀ M ∈ pj_prog.drop 5, pj_okR pj_prog M = true := fun M h => (List.mem_cons.mp (show M ∈ pj_m5 :: pj_prog.drop 6 from h)).elim (fun e => e ▸ pj_mk5) (pj_q6 M)
set_option maxRecDepth 100000 in
theorem pj_q4 : ∀ M ∈ pj_prog.drop 4, pj_okR pj_prog M = true := fun M h => (List.mem_cons.mp (show M ∈ pj_m4 :: pj_prog.drop 5 from h)).elim (fun e => e ▸ pj_mk4) (pj_q5 M)
set_option maxRecDepth 100000 in
theorem pj_q3 : ∀ M ∈ pj_prog.drop 3, pj_okR pj_prog M = true := fun M h => (List.mem_cons.mp (show M ∈ pj_m3 :: pj_prog.drop 4 from h)).elim (fun e => e ▸ pj_mk3) (pj_q4 M)
set_option maxRecDepth 100000 in
theorem pj_q2 : ∀ M ∈ pj_prog.drop 2, pj_okR pj_prog M = true := fun M h => (List.mem_cons.mp (show M ∈ pj_m2 :: pj_prog.drop 3 from h)).elim (fun e => e ▸ pj_mk2) (pj_q3 M)
set_option maxRecDepth 100000 in
theorem pj_q1 : ∀ M ∈ pj_prog.drop 1, pj_okR pj_prog M = true := fun M h => (List.mem_cons.mp (show M ∈ pj_m1 :: pj_prog.drop 2 from h)).elim (fun e => e ▸ pj_mk1) (pj_q2 M)
set_option maxRecDepth 100000 in
theorem pj_q0 : ∀ M ∈ pj_prog.drop 0, pj_okR pj_prog M = true := fun M h => (List.mem_cons.mp (show M ∈ pj_m0 :: pj_prog.drop 1 from h)).elim (fun e => e ▸ pj_mk0) (pj_q1 M)
theorem pj_prog_ok : ∀ M ∈ pj_prog, pj_okR pj_prog M = true := pj_q0
end
section
def pj_nse : String := "java/util/NoSuchElementException"
def pj_nms : List String := ["java/lang/RuntimeException", "java/lang/Exception"]
def pj_XC (b : Nat × (Nat → Nat)) (base : Nat) (cy : Nat → ClassId) (D : va_G) (G : pj_G) : String → State → State → Prop := fun E st t => E = pj_nse ∧ va_P D vwCl (pj_w (pj_ad b base) cy 0 G.1) t.heap ∧ va_F (fun q => base ≤ q) st t
section PJCT
variable {p : Program} {l : Launch} {e : Env} {R : Room} {s : State} {m : MethodId} {args : Array Value} {below : List Frame} {meth : Method} {c : Code} {W0 : State} {locs : List Loc} {cells slots : Nat}
set_option maxHeartbeats 4000000 in
/-- the constructor of an exception with a text, traces off, where its first link has an index of its own; then the throw -/
theorem pj_ctorX (X : Stand p l e R s m args below meth c W0 locs cells slots) (hexec : p.tables.exec = Jvm.exec) (htr : e.platform.stackTraces = false) {own cls : String} {names : List String} {ic ix : Nat} {rx : ByteArray}
    (x0 : decode rx 0 = .ok (.aload_n 0, 1)) (x1 : decode rx 1 = .ok (.aload_n 1, 1)) (x2 : decode rx 2 = .ok (.invokespecial ix, 3)) (x5 : decode rx 5 = .ok (.return_, 1))
    (hown : s.vm.findClass own = some m.cls) (hcls : Bundle.fit cls = true) (hnames : ∀ n ∈ names, Bundle.fit n = true)
    (h : ∀ w ∈ Bundle.ownAtomsX own ic cls ix rx names, w.before args s = true) (hlocs : locs = [])
    {a : Addr} {cX : ClassId} {kX : Class} (hfoundX : s.vm.findClass cls = some cX) (hkX : s.vm.classes[cX]? = some kX) (hcell : W0.heap[a]? = some (freshCell cX kX)) (hnew : s.heap.size ≤ a) {sa : Addr}
    {g : JFrame} (hg : g.method = m) (hsize : g.locals.size = c.maxLocals) (hlocked : g.locked = none) (hentered : g.entered = []) {rest : List Value} (hstack : g.stack = .ref sa :: .ref a :: .ref a :: rest)
    (hd6 : decode c.code g.pc = .ok (.invokespecial ic, 3)) (hd9 : decode c.code (g.pc + 3) = .ok (.athrow, 1)) (hout : ∀ x ∈ c.exceptionTable.toList, covers x (g.pc + 3) = false)
    (hRf : names.length + 3 < R.frames) (hRl : 2 * g.monitorRoom + ((Value.ref a :: rest).map fun v => v.category).sum + (13 * (names.length + 1) + 42) ≤ R.locals) (hlocks : meth.locks = false) :
    ∃ U : State, Steps p.tables e below (W0.setTop g) U ∧ U.status = .running ∧ Ended U below (.threw a) ∧ s.WarmedH U.vm ∧ s.sameButNew ({ U with vm := s.vm } : State) [] cells slots ∧ ∃ ce, U.heap[a]? = some ce ∧ s.vm.findClass cls = some ce.cls ∧ ce.vm = .none := by
  subst hlocs
  have q1 : e.platform.frameOwnsMonitors = true := by rw [X.admits.platform]
  have q2 : e.platform.finalization = false := by rw [X.admits.platform]
  have q3 : e.platform.magicAccessors = ({} : Platform).magicAccessors := by rw [X.admits.platform]
  have hw : ∀ x, x ∈ Bundle.ownAtomsX own ic cls ix rx names → x.holds args s none s [] = true := fun x hx => h x hx
  obtain ⟨T, Z0, L, -, Y⟩ := ThrowableC.of_atoms (args := args) q1 q2 q3 (fun x hx => h x (by simp [Bundle.ownAtomsX, hx]))
  obtain ⟨Z, M, LZ, LM, hnZ⟩ := Init0T.ofS_atoms (args := args) q3 L Y (fun x hx => h x (by simp [Bundle.ownAtomsX, hx]))
  obtain ⟨P1, Ps, hlen, L1, hL, hP1, k1, k2⟩ := Bundle.chainSX (args := args) q3 hnZ x0 x1 x2 x5 names cls hcls hnames (fun x hx => h x (by simp [Bundle.ownAtomsX, hx]))
  have hfd : s.vm.findClass cls = some P1.m.cls := findClass_of_methodNamed hP1
  cases Option.some.inj (hfoundX.symm.trans hfd)
  obtain ⟨c1, kX', hc1, hk, hord, -, -, hn6⟩ := Cond.instantiable_spec (hw (.instantiable cls 6) (by simp [Bundle.ownAtomsX]))
  cases Option.some.inj (hc1.symm.trans hfd)
  cases Option.some.inj (hkX.symm.trans hk)
  have hs0 : selectMethod e.platform s.vm P1.m.cls T.fill0 = .method T.fill0 := by
    obtain ⟨c2, r2, m2, g1, g2, g3, g4, -⟩ := Cond.selects_spec (hw (.selects cls Bundle.tFill0 Bundle.tFill0) (by simp [Bundle.ownAtomsX]))
    cases Option.some.inj (g1.symm.trans hfd)
    cases Option.some.inj (g2.symm.trans (State.methodFound?_of_named Y.fill0 (by decide)))
    cases Option.some.inj (g3.symm.trans Y.fill0)
    rw [Launch.admits_selectMethod X.admits]; exact g4
  have hsF : selectMethod e.platform s.vm P1.m.cls T.fill = .method T.fill := by
    obtain ⟨c2, r2, m2, g1, g2, g3, g4, -⟩ := Cond.selects_spec (hw (.selects cls Bundle.tFill Bundle.tFill) (by simp [Bundle.ownAtomsX]))
    cases Option.some.inj (g1.symm.trans hfd)
    cases Option.some.inj (g2.symm.trans (State.methodFound?_of_named Y.fill (by decide)))
    cases Option.some.inj (g3.symm.trans Y.fill)
    rw [Launch.admits_selectMethod X.admits]; exact g4
  obtain ⟨cS0, hcS0, hiss⟩ := Y.statics
  obtain ⟨u0, hu0⟩ := Cond.staticRefV Y.unassigned L.unassignedStatic L.statics hcS0 hiss (hw (.isRef (.static Bundle.tN "UNASSIGNED_STACK" Bundle.steD)) (by simp [Bundle.ownAtomsX]))
  obtain ⟨u1, hu1⟩ := Cond.staticRefV Y.sentinel L.sentinelStatic L.statics hcS0 hiss (hw (.isRef (.static Bundle.tN "SUPPRESSED_SENTINEL" Bundle.listD)) (by simp [Bundle.ownAtomsX]))
  obtain ⟨ciB, iB, fB, b1, b2, b3, b4, -, b5, b6, b7⟩ := Cond.ownField (t := .object "java/lang/Object") Y.found L.cls (by decide +kernel) (hw (.fieldLink Bundle.tN 198 Bundle.tN "backtrace" "Ljava/lang/Object;") (by simp [Bundle.ownAtomsX])) (hw (.lays Bundle.tN Bundle.tN "backtrace" "Ljava/lang/Object;") (by simp [Bundle.ownAtomsX])) e.platform q3
  obtain ⟨cS, hcS', heS, -, hkeep⟩ := X.same.2.2.2.2.2 T.aS cS0 hcS0
  have hcS : W0.heap[T.aS]? = some cS := hcS'
  have hkS : cS.vm ≠ .unknown := by
    rw [heS]
    intro hu
    rw [show cS0.vm = .unknown from hu] at hiss
    cases hiss
  have hneS : T.aS ≠ a := Nat.ne_of_lt (Nat.lt_of_lt_of_le (Array.getElem?_eq_some_iff.mp hcS0).1 hnew)
  obtain ⟨iM, hfM⟩ := Y.msg
  obtain ⟨tyC, dC, hdC, hnC⟩ := Cond.laysAt hfd hk Y.cause (hw (.lays cls Bundle.tN "cause" "Ljava/lang/Throwable;") (by simp [Bundle.ownAtomsX]))
  obtain ⟨tyS, dS, hdS, hnS⟩ := Cond.laysAt hfd hk Y.stack (hw (.lays cls Bundle.tN "stackTrace" Bundle.steD) (by simp [Bundle.ownAtomsX]))
  obtain ⟨tyP, dP, hdP, hnP⟩ := Cond.laysAt hfd hk Y.supp (hw (.lays cls Bundle.tN "suppressedExceptions" Bundle.listD) (by simp [Bundle.ownAtomsX]))
  obtain ⟨tyM, dM, hdM, hnM⟩ := Cond.laysAt hfd hk hfM (hw (.lays cls Bundle.tN "detailMessage" "Ljava/lang/String;") (by simp [Bundle.ownAtomsX]))
  obtain ⟨tyB, dB, hdB, hnB⟩ := Cond.laysAt hfd hk b7 (hw (.lays cls Bundle.tN "backtrace" "Ljava/lang/Object;") (by simp [Bundle.ownAtomsX]))
  have bC := Cond.laysApart hdB hdC hnB hnC (by rw [b5, Y.causeName]; decide)
  have bS := Cond.laysApart hdB hdS hnB hnS (by rw [b5, Y.stackName]; decide)
  have bP := Cond.laysApart hdB hdP hnB hnP (by rw [b5, Y.suppName]; decide)
  have hskip : SkipFacts T e.platform s (fun u => u) u0 ((preparedCellV T.toThrowableT (freshCell P1.m.cls kX) a u0 u1).withEntry W0.cur) := by
    refine ⟨{ ci198 := ciB, i198 := iB, fBack := fB }, ⟨b1, b2, b3, b4⟩, ?_, fun _ _ => rfl⟩
    have hz := fresh_default (c := P1.m.cls) tyB
    rw [b6] at hz
    simpa [preparedCellV, Cell.setSlot, Cell.withEntry, Array.getElem?_setIfInBounds, bC, bS, bP, bC.symm, bS.symm, bP.symm, defaultValue] using hz
  obtain ⟨tm, mC, cC, kC, vm1, hn1, -, -, -, -, -, -, -, hW1, st1⟩ := Steps.initColdS (tb := p.tables) (e := e) (below := below) (s := s) (U := W0) X.here hexec X.warmed q3 hown (t := Bundle.initS cls) rfl rfl (Bundle.fit_spec hcls).2
    (hw (.methodLink own ic (Bundle.initS cls)) (by simp [Bundle.ownAtomsX])) (h (.instanceMethod (Bundle.initS cls)) (by cases names <;> simp [Bundle.ownAtomsX, Bundle.chainSAtomsX, Bundle.passSAtoms])) (bytes := rx) (maxL := 2) (h (.code (Bundle.initS cls) rx 2 none) (by cases names <;> simp [Bundle.ownAtomsX, Bundle.chainSAtomsX, Bundle.passSAtoms]))
    (f := g) hg (a := a) (msg := .ref sa) (rest := .ref a :: rest) hstack hd6
  cases Option.some.inj (hn1.symm.trans hP1)
  have X1 := X.noted hW1
  obtain ⟨vm2, X2, st2⟩ := X1.ctorMessageOffV hexec (g := { g with stack := .ref a :: rest }) hg hsize T L Z LZ M LM (P1 :: Ps)
    (fun P hP => by rcases List.mem_cons.mp hP with rfl | hP; exact L1; exact hL P hP) ⟨k1, k2⟩ (u0 := u0) (sen := u1) (self := a) (show (Value.ref sa).isRef = true from rfl) (cell := freshCell P1.m.cls kX) (cellS := cS)
    hcell (fun _ => by simp) (by simp) rfl rfl hs0 hsF hcS hneS hkS (by rw [hkeep _ (List.not_mem_nil)]; exact hu0) (by rw [hkeep _ (List.not_mem_nil)]; exact hu1)
    (Takes.of_laid hk hord tyC (by rw [Y.causeType]; rfl)) (Takes.of_laid hk hord tyS (by rw [Y.stackType]; exact fits_refV_array _ u0)) (Takes.of_laid hk hord tyP (by rw [Y.suppType]; exact fits_refV_object _ u1))
    (Takes.of_laid hk hord tyM (by rw [Y.msgType]; exact fits_refV_object _ ⟨.ref sa, rfl⟩)) Y.objLocals hskip htr [] hd6
    (by simp only [List.length_cons, hlen]; omega) (by simp only [List.length_cons, hlen]; exact hRl)
  obtain ⟨hwalk, hrun, hend, hWU, hsame⟩ := X2.athrowLeaves hexec (g := { g with stack := .ref a :: rest, pc := g.pc + 3 }) hg hlocked hentered hout (a := a) (rest := rest) rfl hd9
  have hlt : a < ((W0.setVm vm1).setVm vm2).heap.size := (Array.getElem?_eq_some_iff.mp hcell).1
  have hU := heapAt_setCell_self (s := (W0.setVm vm1).setVm vm2) (plainBareV T.toThrowableT (freshCell P1.m.cls kX) a u0 u1 (.ref sa)) hlt
  refine ⟨_, st1 _ (fun acts => ?_), hrun, hend, hWU, hsame.weaken (fun y hy hlt' => ?_) (Nat.le_refl _) (Nat.le_refl _), _, hU, hfd, rfl⟩
  · rw [doInvoke_state]
    exact st2 _ hwalk
  · exfalso
    have hb : y.base = a := by
      simp only [List.nil_append, List.mem_cons, List.not_mem_nil, or_false] at hy
      rcases hy with rfl | rfl | rfl | rfl | rfl <;> rfl
    rw [hb] at hlt'
    exact Nat.not_lt.mpr hnew hlt'
end PJCT
def pj_atX (own : String) (ic : Nat) (X : String) (ix : Nat) (rx : ByteArray) (names : List String) : List Cond := (Bundle.ownAtomsX own ic X ix rx names).filter vx_no
section PJTX
variable {p : Program} {l : Launch} {e : Env} {R : Room} {s : State} {m : MethodId} {args : Array Value} {below : List Frame} {meth : Method} {c : Code} {H : Heap} {locs : List Loc} {cells slots : Nat} {ls : Array Slot} {rest : List Value} {Qc : Array Value → State → Outcome → State → Prop} {XC : String → State → State → Prop} {free : Nat → Prop}
set_option maxHeartbeats 4000000 in
/-- 'throw new E("text")', the text by a short or a wide index -/
theorem pj_throwX {cc : ByteArray} {pc q : Nat} (hexec : p.tables.exec = Jvm.exec) (hb : c.code = cc) (hl : l.stackTraces = false) {own cls text : String} {names : List String} {ik is ic ix mc ms sa : Nat} {rx : ByteArray} {A : Nat → Prop}
    (x0 : decode rx 0 = .ok (.aload_n 0, 1)) (x1 : decode rx 1 = .ok (.aload_n 1, 1)) (x2 : decode rx 2 = .ok (.invokespecial ix, 3)) (x5 : decode rx 5 = .ok (.return_, 1))
    (hown : s.vm.findClass own = some m.cls) (hcls : Bundle.fit cls = true) (hnames : ∀ n ∈ names, Bundle.fit n = true)
    (hk : (Cond.classLink own ik cls).before args s = true) (hini : (Cond.initialized cls).before args s = true) (hstr : vk_R own is text sa s) (hat : ∀ w ∈ pj_atX own ic cls ix rx names, w.before args s = true)
    (hgood : ∀ w ∈ Cond.classLink own ik cls :: Cond.initialized cls :: pj_atX own ic cls ix rx names, vx_ot w = true)
    (hU : vx_Zq Bundle.tN "UNASSIGNED_STACK" Bundle.steD A s s.heap) (hN : vx_Zq Bundle.tN "SUPPRESSED_SENTINEL" Bundle.listD A s s.heap) (hS : va_S A s.heap H locs) (hsize : ls.size = c.maxLocals)
    (d0 : decode cc pc = .ok (.new ik, 3)) (d3 : decode cc (pc + 3) = .ok (.dup, 1)) (d4 : (decode cc (pc + 4) = .ok (.ldc is, 2) ∧ q = pc + 6) ∨ (decode cc (pc + 4) = .ok (.ldc_w is, 3) ∧ q = pc + 7)) (d6 : decode cc q = .ok (.invokespecial ic, 3)) (d9 : decode cc (q + 3) = .ok (.athrow, 1))
    (hout : ∀ x ∈ c.exceptionTable.toList, covers x (q + 3) = false)
    (hRf : names.length + 3 < R.frames) (hRl : (rest.map fun v => v.category).sum + (13 * (names.length + 1) + 43) ≤ R.locals) (hRc : cells + 1 ≤ R.cells) (hRs : slots + 6 ≤ R.slots) (hlocks : meth.locks = false)
    (hx : ∀ t : State, s.vm.Alike t.vm → H.size ≤ t.heap.size → (∀ q : Nat, q < H.size → t.heap[q]? = H[q]?) → XC cls s t)
    (hf : ∀ z ∈ locs, free z.base) (hc : cells + 1 ≤ mc) (hs : slots + 6 ≤ ms) :
    W p l e R s m args below meth c H locs cells slots (vx_MQ below Qc XC args s mc ms free) (F0 m pc ls rest) := by
  intro T hT X
  have htr : e.platform.stackTraces = false := (show e.platform.stackTraces = l.stackTraces by rw [X.admits.platform]).trans hl
  have Y := vx_rebase X (R' := { frames := R.frames, locals := R.locals, cells := 1, slots := 6 }) (Nat.le_refl _) (Nat.le_refl _) hRc hRs
  obtain ⟨s2, hA⟩ : ∃ z, z = (T.setVm s.vm).setFrames (.invoking m args :: below) := ⟨_, rfl⟩
  rw [← hA] at Y
  have hvm : s2.vm = s.vm := by rw [hA]; rfl
  have hhp : s2.heap = H := by rw [hA]; exact hT
  have hW0 : s.WarmedH s2.vm := by rw [hvm]; exact State.WarmedH.refl s
  have g0 : ∀ w ∈ Cond.classLink own ik cls :: Cond.initialized cls :: pj_atX own ic cls ix rx names, w.before args s = true → w.before args s2 = true := fun w hw hb => vx_ot_at hW0 hvm.symm (hgood w hw) hb
  have hU2 : vx_Zq Bundle.tN "UNASSIGNED_STACK" Bundle.steD A s2 s2.heap := by rw [hhp]; exact vx_Zq.moved hW0.alike (hU.kept hS.2.1)
  have hN2 : vx_Zq Bundle.tN "SUPPRESSED_SENTINEL" Bundle.listD A s2 s2.heap := by rw [hhp]; exact vx_Zq.moved hW0.alike (hN.kept hS.2.1)
  have h : ∀ w ∈ Bundle.ownAtomsX own ic cls ix rx names, w.before args s2 = true := vx_own (fun w hw => g0 w (List.mem_cons_of_mem _ (List.mem_cons_of_mem _ hw)) (hat w hw)) (vx_isRefq hU2.1) (vx_isRefq hN2.1) hU2.2.word hN2.2.word
  have hown2 : s2.vm.findClass own = some m.cls := by rw [hvm]; exact hown
  obtain ⟨vm1, cX, kX, hfX, hkX, -, -, X1, st1⟩ := Y.newCold hexec (own := own) (C := cls) (index := ik) (n := 6) hown2 (g0 _ List.mem_cons_self hk) (h _ (by simp [Bundle.ownAtomsX])) (g0 _ (List.mem_cons_of_mem _ List.mem_cons_self) hini)
    (g := F0 m pc ls rest) rfl (by rw [hb]; exact d0) (Nat.le_refl _) (Nat.le_refl _)
  generalize hT1 : (T.setVm vm1).pushCell { cls := cX, slots := kX.instanceTypes.map defaultValue, vm := .none } = T1 at X1 st1
  have hcat : (Value.ref T.heap.size).category = 1 := rfl
  have hcA : T1.heap[T.heap.size]? = some (freshCell cX kX) := by rw [← hT1]; exact State.heap_pushCell_size _ _
  have d3' : decode c.code (pc + 3) = .ok (.dup, 1) := by rw [hb]; exact d3
  have hstr2 : vk_R own is text sa s2 := vk_R.warm hW0 hstr
  obtain ⟨U, hst, hrun, hend, hW, hsame, ce, hce, hcl0, hcv⟩ := pj_ctorX X1 hexec htr (own := own) (cls := cls) (names := names) (ic := ic) x0 x1 x2 x5 hown2 hcls hnames h rfl hfX hkX hcA (by rw [hhp, hT]; exact Nat.le_refl _) (sa := sa)
    (g := { method := m, pc := q, locals := ls, stack := .ref sa :: .ref T.heap.size :: .ref T.heap.size :: rest, locked := none }) rfl hsize rfl rfl (rest := rest) rfl
    (by rw [hb]; exact d6) (by rw [hb]; exact d9) hout hRf (by
      have e0 : (({ method := m, pc := q, locals := ls, stack := .ref sa :: .ref T.heap.size :: .ref T.heap.size :: rest, locked := none } : JFrame)).monitorRoom = 0 := rfl
      rw [e0]
      simp only [List.map_cons, List.sum_cons, hcat]
      omega) hlocks
  obtain ⟨f1, f2⟩ := vx_frame hsame
  rw [hhp] at f1 f2
  have hWs : s.WarmedH U.vm := State.WarmedH.trans hW0 hW
  have hcl : s.vm.findClass cls = some ce.cls := by rw [← hvm]; exact hcl0
  have hall : s.sameButNew ({ U with vm := s.vm } : State) locs mc ms := by
    subst hA
    obtain ⟨e1, e2⟩ := hsame
    rw [State.setFrames_setFrames] at e1
    have h2 : (T.setVm s.vm).sameButNew ({ U with vm := s.vm } : State) [] (0 + 1) (0 + 6) := ⟨e1, e2⟩
    have h3 := X.same.trans h2
    rw [List.append_nil] at h3
    exact h3.mono hc hs
  refine ⟨U, ?_, .threw T.heap.size, hrun, hend, Or.inr ⟨T.heap.size, rfl, cls, ce, locs, hx U hWs.alike f1 (fun q hq => f2 q hq (fun z hz => nomatch hz)), hce, hcv, hcl, hWs, hall, hf⟩⟩
  refine st1 _ ?_
  show Steps p.tables e below (T1.setTop { method := m, pc := pc + 3, locals := ls, stack := .ref T.heap.size :: rest, locked := none }) _
  jvm_step X1.here [X1.here.top, hexec, d3', Value.category]
  rcases d4 with ⟨d4, rfl⟩ | ⟨d4, rfl⟩
  · exact X1.ldcString hexec (own := own) (text := text) (index := is) (a := sa) hown2 hstr2.1 hstr2.2
      (g := { method := m, pc := pc + 4, locals := ls, stack := .ref T.heap.size :: .ref T.heap.size :: rest, locked := none }) rfl (by rw [hb]; exact d4) _ hst
  · exact X1.ldcStringW hexec (own := own) (text := text) (index := is) (a := sa) hown2 hstr2.1 hstr2.2
      (g := { method := m, pc := pc + 4, locals := ls, stack := .ref T.heap.size :: .ref T.heap.size :: rest, locked := none }) rfl (by rw [hb]; exact d4) _ hst
end PJTX
theorem pj_rx0 : decode prog_30_method_4_code 0 = .ok (.aload_n 0, 1) := by decide +kernel
theorem pj_rx1 : decode prog_30_method_4_code 1 = .ok (.aload_n 1, 1) := by decide +kernel
theorem pj_rx2 : decode prog_30_method_4_code 2 = .ok (.invokespecial 13, 3) := by decide +kernel
theorem pj_rx5 : decode prog_30_method_4_code 5 = .ok (.return_, 1) := by decide +kernel
set_option maxRecDepth 100000 in
theorem pj_atn1 : ∀ w ∈ pj_atX "BridgesAreLent" 149 pj_nse 13 prog_30_method_4_code pj_nms, w ∈ lw_tbl := by decide +kernel
set_option maxRecDepth 100000 in
theorem pj_atn2 : ∀ w ∈ Cond.classLink "BridgesAreLent" 145 pj_nse :: Cond.initialized pj_nse :: pj_atX "BridgesAreLent" 149 pj_nse 13 prog_30_method_4_code pj_nms, vx_ot w = true := by decide +kernel
set_option maxRecDepth 100000 in
theorem pj_atn3 : ∀ w ∈ pj_atX "BridgesAreLent" 149 pj_nse 13 prog_30_method_4_code pj_nms, pj_stb w = true := by decide +kernel
theorem pj_atw2 : Jvm.Cond.classLink "BridgesAreLent" 145 pj_nse ∈ pj_all ∧ Jvm.Cond.initialized pj_nse ∈ pj_all ∧ vx_ot (Jvm.Cond.classLink "BridgesAreLent" 145 pj_nse) = true ∧ vx_ot (Jvm.Cond.initialized pj_nse) = true := by decide +kernel
theorem pj_atn : ∀ w ∈ Cond.classLink "BridgesAreLent" 145 pj_nse :: Cond.initialized pj_nse :: pj_atX "BridgesAreLent" 149 pj_nse 13 prog_30_method_4_code pj_nms, w ∈ pj_all := by
  intro w hw
  rcases List.mem_cons.mp hw with rfl | hw
  · exact pj_atw2.1
  · rcases List.mem_cons.mp hw with rfl | hw
    · exact pj_atw2.2.1
    · exact List.mem_filter.mpr ⟨pj_atn1 w hw, pj_atn3 w hw⟩
theorem pj_fit1 : Bundle.fit pj_nse = true := by decide +kernel
theorem pj_fit2 : ∀ n ∈ pj_nms, Bundle.fit n = true := by decide +kernel
section PJTE
variable {p : Program} {l : Launch} {e : Env} {R : Room} {s : State} {m : MethodId} {args : Array Value} {below : List Frame} {meth : Method} {c : Code}
variable {b : Nat × (Nat → Nat)} {base : Nat} {cy : Nat → ClassId} {D : va_G} {n0 : Nat} {xs : Nat → Int32} {adV : Nat → Nat}
theorem pj_thrE {cc : ByteArray} {G : pj_G} {k tp q is : Nat} {tx : String} {ls : Array Slot} {H : Heap} {locs : List Loc} (hl : l.stackTraces = false) (hx : p.tables.exec = Jvm.exec) (hb : c.code = cc) (hts : ∀ w ∈ Cond.classLink "BridgesAreLent" 145 pj_nse :: Cond.initialized pj_nse :: pj_atX "BridgesAreLent" 149 pj_nse 13 prog_30_method_4_code pj_nms, w.before args s = true) (hown : s.vm.findClass "BridgesAreLent" = some m.cls) (hO : pj_O b base n0 xs adV s s.heap) (htab : ∀ x ∈ c.exceptionTable.toList, False) (hlocks : meth.locks = false) (hstr : pj_strs[k]? = some ("BridgesAreLent", is, tx))
    (hRf : 9 ≤ R.frames) (hRl : 128 ≤ R.locals) (hRc : 1 ≤ R.cells) (hRs : 6 ≤ R.slots) (hsize : ls.size = c.maxLocals)
    (d0 : decode cc tp = .ok (.new 145, 3)) (d3 : decode cc (tp + 3) = .ok (.dup, 1)) (d4 : (decode cc (tp + 4) = .ok (.ldc is, 2) ∧ q = tp + 6) ∨ (decode cc (tp + 4) = .ok (.ldc_w is, 3) ∧ q = tp + 7)) (d6 : decode cc q = .ok (.invokespecial 149, 3)) (d9 : decode cc (q + 3) = .ok (.athrow, 1))
    (hP1 : va_P D vwCl (pj_w (pj_ad b base) cy 0 G.1) H) (hS1 : va_S (fun q => base ≤ q) s.heap H locs) :
    W p l e R s m args below meth c H locs 0 0 (vx_MQ below (fun _ _ _ _ => False) (pj_XC b base cy D G) args s 1 6 (fun q => base ≤ q)) (F0 m tp ls []) := by
  refine pj_throwX hx hb hl pj_rx0 pj_rx1 pj_rx2 pj_rx5 hown pj_fit1 pj_fit2 (hts _ List.mem_cons_self) (hts _ (List.mem_cons_of_mem _ List.mem_cons_self)) (hO.2.1 k _ hstr).1 (fun w hw => hts w (List.mem_cons_of_mem _ (List.mem_cons_of_mem _ hw))) pj_atn2 hO.2.2.2.1 hO.2.2.2.2 hS1 hsize d0 d3 d4 d6 d9 (fun x hx => (htab x hx).elim) (show 5 < R.frames by omega) (show 0 + (13 * 3 + 43) ≤ R.locals by omega) (by omega) (by omega) hlocks ?_ (fun z hz => hS1.2.2 z hz) (Nat.le_refl _) (Nat.le_refl _)
  intro t _ h1 h2
  exact ⟨rfl, hP1.kept (fun k q hk => h2 _ (hP1 k q hk).lt), Nat.le_trans hS1.1 h1, fun q hq hn => (h2 q (Nat.lt_of_lt_of_le hq hS1.1)).trans (hS1.2.1 q hq hn)⟩
end PJTE
end
section
/-! A RUN UP TO A PLACE -/
def pj_oneT (call : pj_F) (n0 : Nat) (xs : Nat → Int32) (M : pj_M) (tp : Nat) (ih : pj_T → Option pj_T) (t : pj_T) : Option pj_T := if t.2.1 = tp then some t else (match pj_find M.2.2.2.2.2 t.2.1 with
  | none => none
  | some q => (match pj_s call n0 xs M.2.2.1 q.2.2.1 q.2.2.2 q.1 t.2.1 t.1 t.2.2.1 t.2.2.2.1 with
    | none => none
    | some r => ih (r.1, r.2.1, r.2.2.1, r.2.2.2.1, t.2.2.2.2.1 + r.2.2.2.2.1, t.2.2.2.2.2 + r.2.2.2.2.2)))
noncomputable def pj_to (call : pj_F) (n0 : Nat) (xs : Nat → Int32) (M : pj_M) (tp n : Nat) : pj_T → Option pj_T := Nat.rec (motive := fun _ => pj_T → Option pj_T) (fun _ => none) (fun _ ih t => pj_oneT call n0 xs M tp ih t) n
theorem pj_oneT_s {call : pj_F} {n0 : Nat} {xs : Nat → Int32} {M : pj_M} {tp : Nat} {ih : pj_T → Option pj_T} {t t' : pj_T} (h : pj_oneT call n0 xs M tp ih t = some t') :
    t' = t ∧ t.2.1 = tp ∨ ∃ q, (t.2.1, q) ∈ M.2.2.2.2.2 ∧ ∃ (G2 : pj_G) (pc2 : Nat) (L2 : pj_L) (S2 : List Value) (dc ds : Nat), pj_s call n0 xs M.2.2.1 q.2.2.1 q.2.2.2 q.1 t.2.1 t.1 t.2.2.1 t.2.2.2.1 = some (G2, pc2, L2, S2, dc, ds) ∧ ih (G2, pc2, L2, S2, t.2.2.2.2.1 + dc, t.2.2.2.2.2 + ds) = some t' := by
  unfold pj_oneT at h
  split at h
  · cases h
    exact Or.inl ⟨rfl, by assumption⟩
  · split at h
    · cases h
    · rename_i q hq
      refine Or.inr ⟨q, pj_find_s hq, ?_⟩
      split at h
      · cases h
      · rename_i r hr
        exact ⟨_, _, _, _, _, _, hr, h⟩
theorem pj_to_mono {call : pj_F} {n0 : Nat} {xs : Nat → Int32} {M : pj_M} {tp : Nat} : ∀ (n : Nat) (t t' : pj_T), pj_to call n0 xs M tp n t = some t' → t.2.2.2.2.1 ≤ t'.2.2.2.2.1 ∧ t.2.2.2.2.2 ≤ t'.2.2.2.2.2
  | 0, t, t', h => by cases (show (none : Option pj_T) = some t' from h)
  | n + 1, t, t', h => by
    obtain ⟨rfl, -⟩ | ⟨q, -, G2, pc2, L2, S2, dc, ds, h1, h2⟩ := pj_oneT_s (ih := pj_to call n0 xs M tp n) h
    · exact ⟨Nat.le_refl _, Nat.le_refl _⟩
    · have h3 := pj_to_mono n _ _ h2
      dsimp only at h3
      omega
section PJTO
variable {p : Program} {l : Launch} {e : Env} {R : Room} {s : State} {m : MethodId} {args : Array Value} {below : List Frame} {meth : Method} {c : Code} {Q : State → Prop}
variable {b : Nat × (Nat → Nat)} {base : Nat} {cy : Nat → ClassId} {D : va_G} {n0 : Nat} {xs : Nat → Int32} {adV : Nat → Nat} {d : Nat}
theorem pj_to_snd {call : pj_F} {P : List pj_M} {M : pj_M} {nL tp : Nat} {t' : pj_T} (hnL : M.2.2.1 = nL) (hokR : pj_okR P M = true)
    (hC0 : (p.tables.exec = Jvm.exec ∧ c.code = M.2.1 ∧ c.maxLocals = nL ∧ s.vm.findClass M.1.cls = some m.cls ∧ ∀ w ∈ pj_all, w.before args s = true) ∧ va_K D vwCl (pj_tys cy) s ∧ pj_O b base n0 xs adV s s.heap ∧ base ≤ s.heap.size) (hini : M.1.name = "<init>" → meth.name = "<init>")
    (hPl : P.length ≤ 1000) (hcall : ∀ (mi : Nat) (vs : List Value) (G : pj_G) (v : Option Value) (G' : pj_G) (dc ds : Nat), mi < 1000 → call mi vs G = some (v, G', dc, ds) → ∃ M, P[mi]? = some M ∧ pj_Met l b base cy D adV d M vs G v G' dc ds)
    (hcallH : ∀ (j : Nat) (vs : List Value) (G : pj_G) (v : Option Value) (G' : pj_G) (dc ds : Nat), call (1000 + j) vs G = some (v, G', dc, ds) → ∃ h, pj_hl[j]? = some h ∧ pj_MetH l b base cy D adV d h vs G v G' dc ds)
    (hgd : ∀ (mi : Nat) (vs : List Value) (G : pj_G) (v : Option Value) (G' : pj_G) (dc ds : Nat), call mi vs G = some (v, G', dc, ds) → pj_gd G G' dc)
    (hf : d + 1 ≤ R.frames) (hlo : 64 * (d + 1) ≤ R.locals) (hmc : t'.2.2.2.2.1 ≤ R.cells) (hms : t'.2.2.2.2.2 ≤ R.slots)
    (hend : (t'.1.2 = true → s.heap.size + t'.2.2.2.2.1 = base + t'.1.1.length) → ∀ ls : Array Slot, lv_has ls nL (pj_l (pj_ad b base) t'.2.2.1) → pj_N p l e R s m args below meth c Q b base cy D ls t'.2.2.2.2.1 t'.2.2.2.2.2 t'.1 t'.2.1 t'.2.2.2.1) :
    ∀ (n : Nat) (t : pj_T), pj_to call n0 xs M tp n t = some t' → (t.1.2 = true → s.heap.size + t.2.2.2.2.1 = base + t.1.1.length) → ∀ ls : Array Slot, lv_has ls nL (pj_l (pj_ad b base) t.2.2.1) → pj_N p l e R s m args below meth c Q b base cy D ls t.2.2.2.2.1 t.2.2.2.2.2 t.1 t.2.1 t.2.2.2.1
  | 0, t, h, _, _, _ => by cases (show (none : Option pj_T) = some t' from h)
  | n + 1, t, h, hex, ls, hlv => by
    obtain ⟨rfl, -⟩ | ⟨q, hq, G2, pc2, L2, S2, dc, ds, h1, h2⟩ := pj_oneT_s (ih := pj_to call n0 xs M tp n) h
    · exact hend hex ls hlv
    · obtain ⟨g2, g3⟩ := pj_okR_s hokR hq
      have hm := pj_to_mono n _ _ h2
      dsimp only at hm
      subst hnL
      refine pj_s_snd hC0 (fun z => hini (of_decide_eq_true z)) hlv hex hPl hcall hcallH g2 g3 h1 hf hlo (by omega) (by omega) (fun ls' hl' => ?_)
      have hgd2 := pj_s_gd hgd h1
      exact pj_to_snd rfl hokR hC0 hini hPl hcall hcallH hgd hf hlo hmc hms hend n _ h2 (fun z => by
        obtain ⟨a1, a2⟩ := hgd2 z
        have a3 := hex a1
        show s.heap.size + (t.2.2.2.2.1 + dc) = base + G2.1.length
        omega) ls' hl'
/-! A METHOD THAT THROWS NoSuchElementException -/
theorem pj_thr {P : List pj_M} {bi : pj_F} {f : Nat} {M : pj_M} {k tp is : Nat} {tx : String} {vs : List Value} {G : pj_G} {L' : pj_L} (hl : l.stackTraces = false) (hPl : P.length ≤ 1000) (hP : ∀ M ∈ P, pj_okR P M = true) (hbg : ∀ (mi : Nat) (vs : List Value) (G : pj_G) (v : Option Value) (G' : pj_G) (dc ds : Nat), bi mi vs G = some (v, G', dc, ds) → pj_gd G G' dc)
    (hbi : ∀ (d mi : Nat) (vs : List Value) (G : pj_G) (v : Option Value) (G' : pj_G) (dc ds : Nat) (M : pj_M), 12 ≤ d → P[mi]? = some M → bi mi vs G = some (v, G', dc, ds) → pj_Met l b base cy D adV (d + 1) M vs G v G' dc ds)
    (hM : M ∈ P) (hcls : M.1.cls = "BridgesAreLent") (hstr : pj_strs[k]? = some ("BridgesAreLent", is, tx)) (hlen : (lg_sl vs).length ≤ M.2.2.1) (hd8 : 8 ≤ d)
    (d0 : decode M.2.1 tp = .ok (.new 145, 3)) (d3 : decode M.2.1 (tp + 3) = .ok (.dup, 1)) (d4 : decode M.2.1 (tp + 4) = .ok (.ldc is, 2)) (d6 : decode M.2.1 (tp + 6) = .ok (.invokespecial 149, 3)) (d9 : decode M.2.1 (tp + 9) = .ok (.athrow, 1))
    (hrun : pj_to (pj_exec P bi f d) 0 pj_x0 M tp f (G, 0, lv_args 0 vs, [], 0, 0) = some (G, tp, L', [], 0, 0)) :
    vx_Met l M.1 (pj_ws M.1 M.2.1 M.2.2.1 M.2.2.2.1) (pj_rm (d + 1) 1 6) (pj_P b base cy D adV vs G) (fun _ _ _ _ => False) (pj_XC b base cy D G) 1 6 (fun q => base ≤ q) := by
  have hokR := hP M hM
  have hpl : plainName M.1.cls = true := by
    have hh := hokR
    simp only [pj_okR, Bool.and_eq_true] at hh
    exact hh.1
  refine vx_ofW (cc := M.2.1) (maxL := M.2.2.1) (ret := M.2.2.2.1) hpl rfl ?_
  intro p e s m args below meth c s₁ B hml htab hv
  obtain ⟨rfl, hP0, hK, ⟨hbs, hexG⟩, hO⟩ := hv
  have hx := B.exec
  have hb := B.bytes
  have hts0 := atoms_spec (ws := pj_ws M.1 M.2.1 M.2.2.1 M.2.2.2.1) B.pre
  have hts : ∀ w ∈ pj_all, w.before (vs.map (pj_v (pj_ad b base))).toArray s = true := fun w hw => hts0 w (List.mem_cons_of_mem _ hw)
  have hown : s.vm.findClass M.1.cls = some m.cls := findClass_of_methodNamed B.named
  have hlocks := B.notSynchronized
  have hnm : meth.name = M.1.name := (name_of_methodNamed B.named B.method).1
  have hl0 := lv_entry (vs.map (pj_v (pj_ad b base))) (n := M.2.2.1) (by rw [pj_sl_len]; exact hlen)
  rw [lg_entry_eq]
  generalize (lg_sl (vs.map (pj_v (pj_ad b base))) ++ List.replicate (M.2.2.1 - (lg_sl (vs.map (pj_v (pj_ad b base)))).length) Slot.unset).toArray = ls at hl0 ⊢
  rw [pj_args] at hl0
  have key := pj_to_snd (p := p) (l := l) (e := e) (R := (headSpec (pj_ws M.1 M.2.1 M.2.2.1 M.2.2.2.1) (pj_rm (d + 1) 1 6)).room) (s := s) (m := m) (args := (vs.map (pj_v (pj_ad b base))).toArray) (below := below) (meth := meth) (c := c) (Q := vx_MQ below (fun _ _ _ _ => False) (pj_XC b base cy D G) (vs.map (pj_v (pj_ad b base))).toArray s 1 6 (fun q => base ≤ q)) (n0 := 0) (xs := pj_x0) (adV := adV) (d := d) (t' := (G, tp, L', [], 0, 0)) rfl hokR ⟨⟨hx, hb, hml, hown, hts⟩, hK, hO, hbs⟩ (fun z => hnm.trans z) hPl (fun mi vs G v G2 dc2 ds2 _ => pj_exec_snd hPl hP hbg hbi d mi vs G v G2 dc2 ds2) (fun j vs2 G2 v2 G3 dc2 ds2 h9 => by
        obtain ⟨M9, hM9, -⟩ := pj_exec_snd hPl hP hbg hbi d _ _ _ _ _ _ _ h9
        have := (List.getElem?_eq_some_iff.mp hM9).1
        omega) (pj_exec_gd hbg d) (Nat.le_refl _) (Nat.le_refl _) (Nat.zero_le _) (Nat.zero_le _) ?_ f _ hrun (fun z => by have := hexG z; show s.heap.size + 0 = base + G.1.length; omega) ls hl0
  · exact key s.heap [] hP0 va_S.rf
  · intro _ ls2 hl2 H locs hP1 hS1
    exact pj_thrE (q := tp + 6) hl hx hb (fun w hw => hts w (pj_atn w hw)) (hcls ▸ hown) hO htab hlocks hstr (show 9 ≤ d + 1 by omega) (show 128 ≤ 64 * (d + 1) by omega) (Nat.le_refl 1) (Nat.le_refl 6) (hl2.1.trans hml.symm) d0 d3 (Or.inl ⟨d4, rfl⟩) d6 d9 hP1 hS1
theorem pj_thrW {P : List pj_M} {bi : pj_F} {f : Nat} {M : pj_M} {k tp is : Nat} {tx : String} {vs : List Value} {G : pj_G} {L' : pj_L} (hl : l.stackTraces = false) (hPl : P.length ≤ 1000) (hP : ∀ M ∈ P, pj_okR P M = true) (hbg : ∀ (mi : Nat) (vs : List Value) (G : pj_G) (v : Option Value) (G' : pj_G) (dc ds : Nat), bi mi vs G = some (v, G', dc, ds) → pj_gd G G' dc)
    (hbi : ∀ (d mi : Nat) (vs : List Value) (G : pj_G) (v : Option Value) (G' : pj_G) (dc ds : Nat) (M : pj_M), 12 ≤ d → P[mi]? = some M → bi mi vs G = some (v, G', dc, ds) → pj_Met l b base cy D adV (d + 1) M vs G v G' dc ds)
    (hM : M ∈ P) (hcls : M.1.cls = "BridgesAreLent") (hstr : pj_strs[k]? = some ("BridgesAreLent", is, tx)) (hlen : (lg_sl vs).length ≤ M.2.2.1) (hd8 : 8 ≤ d)
    (d0 : decode M.2.1 tp = .ok (.new 145, 3)) (d3 : decode M.2.1 (tp + 3) = .ok (.dup, 1)) (d4 : decode M.2.1 (tp + 4) = .ok (.ldc_w is, 3)) (d6 : decode M.2.1 (tp + 7) = .ok (.invokespecial 149, 3)) (d9 : decode M.2.1 (tp + 10) = .ok (.athrow, 1))
    (hrun : pj_to (pj_exec P bi f d) 0 pj_x0 M tp f (G, 0, lv_args 0 vs, [], 0, 0) = some (G, tp, L', [], 0, 0)) :
    vx_Met l M.1 (pj_ws M.1 M.2.1 M.2.2.1 M.2.2.2.1) (pj_rm (d + 1) 1 6) (pj_P b base cy D adV vs G) (fun _ _ _ _ => False) (pj_XC b base cy D G) 1 6 (fun q => base ≤ q) := by
  have hokR := hP M hM
  have hpl : plainName M.1.cls = true := by
    have hh := hokR
    simp only [pj_okR, Bool.and_eq_true] at hh
    exact hh.1
  refine vx_ofW (cc := M.2.1) (maxL := M.2.2.1) (ret := M.2.2.2.1) hpl rfl ?_
  intro p e s m args below meth c s₁ B hml htab hv
  obtain ⟨rfl, hP0, hK, ⟨hbs, hexG⟩, hO⟩ := hv
  have hx := B.exec
  have hb := B.bytes
  have hts0 := atoms_spec (ws := pj_ws M.1 M.2.1 M.2.2.1 M.2.2.2.1) B.pre
  have hts : ∀ w ∈ pj_all, w.before (vs.map (pj_v (pj_ad b base))).toArray s = true := fun w hw => hts0 w (List.mem_cons_of_mem _ hw)
  have hown : s.vm.findClass M.1.cls = some m.cls := findClass_of_methodNamed B.named
  have hlocks := B.notSynchronized
  have hnm : meth.name = M.1.name := (name_of_methodNamed B.named B.method).1
  have hl0 := lv_entry (vs.map (pj_v (pj_ad b base))) (n := M.2.2.1) (by rw [pj_sl_len]; exact hlen)
  rw [lg_entry_eq]
  generalize (lg_sl (vs.map (pj_v (pj_ad b base))) ++ List.replicate (M.2.2.1 - (lg_sl (vs.map (pj_v (pj_ad b base)))).length) Slot.unset).toArray = ls at hl0 ⊢
  rw [pj_args] at hl0
  have key := pj_to_snd (p := p) (l := l) (e := e) (R := (headSpec (pj_ws M.1 M.2.1 M.2.2.1 M.2.2.2.1) (pj_rm (d + 1) 1 6)).room) (s := s) (m := m) (args := (vs.map (pj_v (pj_ad b base))).toArray) (below := below) (meth := meth) (c := c) (Q := vx_MQ below (fun _ _ _ _ => False) (pj_XC b base cy D G) (vs.map (pj_v (pj_ad b base))).toArray s 1 6 (fun q => base ≤ q)) (n0 := 0) (xs := pj_x0) (adV := adV) (d := d) (t' := (G, tp, L', [], 0, 0)) rfl hokR ⟨⟨hx, hb, hml, hown, hts⟩, hK, hO, hbs⟩ (fun z => hnm.trans z) hPl (fun mi vs G v G2 dc2 ds2 _ => pj_exec_snd hPl hP hbg hbi d mi vs G v G2 dc2 ds2) (fun j vs2 G2 v2 G3 dc2 ds2 h9 => by
        obtain ⟨M9, hM9, -⟩ := pj_exec_snd hPl hP hbg hbi d _ _ _ _ _ _ _ h9
        have := (List.getElem?_eq_some_iff.mp hM9).1
        omega) (pj_exec_gd hbg d) (Nat.le_refl _) (Nat.le_refl _) (Nat.zero_le _) (Nat.zero_le _) ?_ f _ hrun (fun z => by have := hexG z; show s.heap.size + 0 = base + G.1.length; omega) ls hl0
  · exact key s.heap [] hP0 va_S.rf
  · intro _ ls2 hl2 H locs hP1 hS1
    exact pj_thrE (q := tp + 7) hl hx hb (fun w hw => hts w (pj_atn w hw)) (hcls ▸ hown) hO htab hlocks hstr (show 9 ≤ d + 1 by omega) (show 128 ≤ 64 * (d + 1) by omega) (Nat.le_refl 1) (Nat.le_refl 6) (hl2.1.trans hml.symm) d0 d3 (Or.inr ⟨d4, rfl⟩) d6 d9 hP1 hS1
/-- behind a call that throws -/
theorem pj_afterX {H : Heap} {locs : List Loc} {cells slots pc : Nat} {ls : Array Slot} {rest : List Value} {st0 : List Value} {G : pj_G} {Qa : State → Outcome → State → Prop} (hQ : ∀ a o t, ¬ Qa a o t) (hr : vx_Run p l e R s m args below meth c H locs cells slots 1 6 (F0 m pc ls st0) rest Qa (pj_XC b base cy D G) (fun q => base ≤ q)) (hS : va_S (fun q => base ≤ q) s.heap H locs)
    (kx : ∀ (H1 : Heap) (locs1 : List Loc) (q : Addr) (ce : Cell), va_P D vwCl (pj_w (pj_ad b base) cy 0 G.1) H1 → va_S (fun q => base ≤ q) s.heap H1 locs1 → H1[q]? = some ce → ce.vm = .none → s.vm.findClass pj_nse = some ce.cls → vx_W p l e R s m args below meth c H1 locs1 (cells + 1) (slots + 6) Q (F0 m pc ls rest) q) : W p l e R s m args below meth c H locs cells slots Q (F0 m pc ls st0) := by
  intro T hT X
  rcases hr T hT X with ⟨v, st₀, t, T', L, h0, X', hL, e1, e2, hq, st⟩ | ⟨q, st₀, t, T', L, E, ce, h0, X', hL, e1, e2, ⟨rfl, hp, hz, hk⟩, hce, hcv, hcl, st⟩
  · exact absurd hq (hQ _ _ _)
  · rw [h0] at hz hk
    have hS' : va_S (fun q => base ≤ q) s.heap T'.heap (locs ++ L) := ⟨Nat.le_trans hS.1 (by rw [e1]; exact hz), fun q h1 h2 => by rw [e1, hk q (Nat.lt_of_lt_of_le h1 hS.1) h2]; exact hS.2.1 q h1 h2, fun q hq => by
        rcases List.mem_append.mp hq with h | h
        · exact hS.2.2 q h
        · exact hL q h⟩
    obtain ⟨t2, a1, b1⟩ := kx T'.heap (locs ++ L) q ce (by rw [e1]; exact hp) hS' (by rw [e1]; exact hce) hcv hcl T' rfl X'
    exact ⟨t2, st.trans a1, b1⟩

theorem pj_hc0 : Jvm.Cond.classLink "BridgesAreLentLaw" 13 pj_nse ∈ pj_all := pj_wd_in (pos := 1278) (by decide +kernel)
theorem pj_hc1 : Jvm.Cond.castable pj_nse pj_nse ∈ pj_all := pj_wd_in (pos := 1285) (by decide +kernel)
theorem pj_dh0_0 : decode cL_crossing 0 = .ok (.aload_n 3, 1) := by decide +kernel
theorem pj_dh0_1 : decode cL_crossing 1 = .ok (.iconst 0, 1) := by decide +kernel
theorem pj_dh0_2 : decode cL_crossing 2 = .ok (.aload_n 0, 1) := by decide +kernel
theorem pj_dh0_3 : decode cL_crossing 3 = .ok (.iload_n 1, 1) := by decide +kernel
theorem pj_dh0_4 : decode cL_crossing 4 = .ok (.iload_n 2, 1) := by decide +kernel
theorem pj_dh0_5 : decode cL_crossing 5 = .ok (.invokevirtual 7, 3) := by decide +kernel
theorem pj_dh0_8 : decode cL_crossing 8 = .ok (.i2l, 1) := by decide +kernel
theorem pj_dh0_9 : decode cL_crossing 9 = .ok (.lastore, 1) := by decide +kernel
theorem pj_dh0_10 : decode cL_crossing 10 = .ok (.goto 7, 3) := by decide +kernel
theorem pj_dh0_13 : decode cL_crossing 13 = .ok (.astore 4, 2) := by decide +kernel
theorem pj_dh0_15 : decode cL_crossing 15 = .ok (.iconst 1, 1) := by decide +kernel
theorem pj_dh0_16 : decode cL_crossing 16 = .ok (.ireturn, 1) := by decide +kernel
theorem pj_dh0_17 : decode cL_crossing 17 = .ok (.iconst 0, 1) := by decide +kernel
theorem pj_dh0_18 : decode cL_crossing 18 = .ok (.ireturn, 1) := by decide +kernel
theorem pj_hk0 : Jvm.Cond.methodLink "BridgesAreLentLaw" 7 yX11_crossing ∈ pj_all := pj_wd_in (pos := 1279) (by decide +kernel)
theorem pj_hm0 : pj_okM pj_m123 2 = true := by decide +kernel
theorem pj_hi0 : Jvm.Cond.instanceMethod yX11_crossing ∈ pj_all := pj_wd_in (pos := 1280) (by decide +kernel)
theorem pj_hs0 : Jvm.Cond.selects "BridgesAreLent" yX11_crossing yX11_crossing ∈ pj_all := pj_wd_in (pos := 1281) (by decide +kernel)
theorem pj_dt0_0 : decode cX11_crossing 20 = .ok (.new 145, 3) := by decide +kernel
theorem pj_dt0_3 : decode cX11_crossing 23 = .ok (.dup, 1) := by decide +kernel
theorem pj_dt0_4 : decode cX11_crossing 24 = .ok (.ldc 147, 2) := by decide +kernel
theorem pj_dt0_6 : decode cX11_crossing 26 = .ok (.invokespecial 149, 3) := by decide +kernel
theorem pj_dt0_9 : decode cX11_crossing 29 = .ok (.athrow, 1) := by decide +kernel
theorem pj_hp0 {bi : pj_F} {f a o : Nat} {p0 p1 : Int32} {fs : List Value} {G : pj_G} {L' : pj_L} (hl : l.stackTraces = false) (hbg : ∀ (mi : Nat) (vs : List Value) (G : pj_G) (v : Option Value) (G' : pj_G) (dc ds : Nat), bi mi vs G = some (v, G', dc, ds) → pj_gd G G' dc)
    (hbi : ∀ (d mi : Nat) (vs : List Value) (G : pj_G) (v : Option Value) (G' : pj_G) (dc ds : Nat) (M : pj_M), 12 ≤ d → pj_prog[mi]? = some M → bi mi vs G = some (v, G', dc, ds) → pj_Met l b base cy D adV (d + 1) M vs G v G' dc ds) (hd8 : 8 ≤ d) (hgx : pj_get G a = some (.inr (11, fs)))
    (hrun : pj_to (pj_exec pj_prog bi f d) 0 pj_x0 pj_m123 20 f (G, 0, lv_args 0 [.ref a, .int p0, .int p1], [], 0, 0) = some (G, 20, L', [], 0, 0)) :
    pj_MetH l b base cy D adV (d + 2) (yL_crossing, cL_crossing, 5, some .int, [(0, 10, 13, 13)]) [.ref a, .int p0, .int p1, .ref o] G (some (.int 1)) (G.1, false) 1 6 := by
  have hMet := pj_thr (l := l) (b := b) (base := base) (cy := cy) (D := D) (adV := adV) (d := d) (P := pj_prog) (M := pj_m123) (k := 0) (tp := 20) (vs := [.ref a, .int p0, .int p1]) hl (by decide +kernel) pj_prog_ok hbg hbi (List.mem_of_getElem? (i := 123) rfl) rfl rfl (Nat.le_of_ble_eq_true rfl) hd8 pj_dt0_0 pj_dt0_3 pj_dt0_4 pj_dt0_6 pj_dt0_9 hrun
  refine va_MetW (hh := [(0, 10, 13, 13)]) (cc := cL_crossing) (maxL := 5) (ret := some .int) (by decide +kernel) rfl ?_
  intro p e s m args below meth c s₁ B hml hv
  obtain ⟨rfl, hP0, hK, ⟨hbs, hexG⟩, hO⟩ := hv
  have hx := B.exec
  have hb := B.bytes
  have hr := B.returns
  have hts0 := atoms_spec (ws := pj_hw (yL_crossing, cL_crossing, 5, some .int, [(0, 10, 13, 13)]) :: pj_all) B.pre
  have hts : ∀ w ∈ pj_all, w.before (([.ref a, .int p0, .int p1, .ref o] : List Value).map (pj_v (pj_ad b base))).toArray s = true := fun w hw => hts0 w (List.mem_cons_of_mem _ hw)
  have hown : s.vm.findClass "BridgesAreLentLaw" = some m.cls := findClass_of_methodNamed B.named
  have hlocks := B.notSynchronized
  have hsplit : c.exceptionTable.toList = [⟨0, 10, 13, 13⟩] := vx_table (x := yL_law) B (hts0 _ List.mem_cons_self)
  have hl0 := lv_entry (([.ref a, .int p0, .int p1, .ref o] : List Value).map (pj_v (pj_ad b base))) (n := 5) (Nat.le_of_ble_eq_true rfl)
  rw [lg_entry_eq]
  generalize (lg_sl (([.ref a, .int p0, .int p1, .ref o] : List Value).map (pj_v (pj_ad b base))) ++ List.replicate (5 - (lg_sl (([.ref a, .int p0, .int p1, .ref o] : List Value).map (pj_v (pj_ad b base)))).length) Slot.unset).toArray = ls at hl0 ⊢
  have hl1 : lv_has ls 5 [(0, .ref ((pj_ad b base).1 a)), (1, .int p0), (2, .int p1), (3, .ref ((pj_ad b base).1 o))] := hl0
  refine lv_aload_n hx hb pj_dh0_0 rfl (lv_at hl1 3 rfl) ?_
  refine lv_iconst (v := 0) hx hb pj_dh0_1 (by decide) ?_
  refine lv_aload_n hx hb pj_dh0_2 rfl (lv_at hl1 0 rfl) ?_
  refine lv_iload_n hx hb pj_dh0_3 rfl (lv_at hl1 1 rfl) ?_
  refine lv_iload_n hx hb pj_dh0_4 rfl (lv_at hl1 2 rfl) ?_
  obtain ⟨i9, -, hi9⟩ := pj_at (b := b) (base := base) (cy := cy) hgx
  have hrc := va_recv hK hP0 (show vwCl[11]? = some (RX11, TX11, 8) from rfl) hi9
  obtain ⟨⟨k1, k2, k3, k4, k5, k6⟩, k7, k8, k9, k10⟩ := pj_okM_s (R := (headSpec (pj_hw (yL_crossing, cL_crossing, 5, some .int, [(0, 10, 13, 13)]) :: pj_all) (pj_rm (d + 2) 1 6)).room) (d := d + 1) (dc := 1) (ds := 6) pj_hm0 hts (Nat.le_refl _) (Nat.le_refl _)
  have hpre := pj_pre (b := b) (base := base) (cy := cy) (D := D) (adV := adV) (G := G) (vs := [.ref a, .int p0, .int p1]) (cells := 0) hK hO hbs hP0 va_S.rf (Nat.le_refl _) (fun z => by have := hexG z; omega)
  refine pj_afterX (G := G) (fun _ _ _ z => z) (vx_runV (As := [.int p0, .int p1]) (rest := [.int 0, .ref ((pj_ad b base).1 o)]) ⟨hx, hb, hml, hown, hts⟩ hMet ⟨⟨k1, k2, k3, k4, k5, k6, k7, k8, k9, k10, hts _ pj_hk0⟩, hts _ pj_hi0, hts _ pj_hs0⟩ ⟨pj_P_blind, hrc, hpre⟩ rfl rfl hl1.1 rfl (lv_room (by show 1 + (1 + 0) ≤ 8; omega)) pj_dh0_5 ⟨Nat.le_refl _, Nat.le_refl _⟩) va_S.rf (fun H1 locs1 q ce hP1 hS1 hc1 hv1 hcl1 => ?_)
  refine vx_catch (name := pj_nse) hown [] ⟨0, 10, 13, 13⟩ [] hsplit (fun _ h => by cases h) (by decide) (by decide) (hts _ pj_hc0) (hts _ pj_hc1) hc1 hv1 hcl1 ?_
  refine lv_astore (lv' := [(4, .ref q), (0, .ref ((pj_ad b base).1 a)), (1, .int p0), (2, .int p1), (3, .ref ((pj_ad b base).1 o))]) hx hb pj_dh0_13 hl1 (by decide) rfl (fun ls2 hl2 => ?_)
  refine lv_iconst (v := 1) hx hb pj_dh0_15 (by decide) ?_
  exact W.iret (v := 1) hx hb hr (fun t ht _ => ⟨rfl, by rw [ht]; exact hP1, hS1.F ht⟩) hS1.2.2 pj_dh0_16
theorem pj_dh1_0 : decode cL_bridge 0 = .ok (.aload_n 3, 1) := by decide +kernel
theorem pj_dh1_1 : decode cL_bridge 1 = .ok (.iconst 0, 1) := by decide +kernel
theorem pj_dh1_2 : decode cL_bridge 2 = .ok (.aload_n 0, 1) := by decide +kernel
theorem pj_dh1_3 : decode cL_bridge 3 = .ok (.iload_n 1, 1) := by decide +kernel
theorem pj_dh1_4 : decode cL_bridge 4 = .ok (.iload_n 2, 1) := by decide +kernel
theorem pj_dh1_5 : decode cL_bridge 5 = .ok (.invokevirtual 15, 3) := by decide +kernel
theorem pj_dh1_8 : decode cL_bridge 8 = .ok (.i2l, 1) := by decide +kernel
theorem pj_dh1_9 : decode cL_bridge 9 = .ok (.lastore, 1) := by decide +kernel
theorem pj_dh1_10 : decode cL_bridge 10 = .ok (.goto 7, 3) := by decide +kernel
theorem pj_dh1_13 : decode cL_bridge 13 = .ok (.astore 4, 2) := by decide +kernel
theorem pj_dh1_15 : decode cL_bridge 15 = .ok (.iconst 1, 1) := by decide +kernel
theorem pj_dh1_16 : decode cL_bridge 16 = .ok (.ireturn, 1) := by decide +kernel
theorem pj_dh1_17 : decode cL_bridge 17 = .ok (.iconst 0, 1) := by decide +kernel
theorem pj_dh1_18 : decode cL_bridge 18 = .ok (.ireturn, 1) := by decide +kernel
theorem pj_hk1 : Jvm.Cond.methodLink "BridgesAreLentLaw" 15 yX11_bridge ∈ pj_all := pj_wd_in (pos := 1353) (by decide +kernel)
theorem pj_hm1 : pj_okM pj_m124 2 = true := by decide +kernel
theorem pj_hi1 : Jvm.Cond.instanceMethod yX11_bridge ∈ pj_all := pj_wd_in (pos := 1354) (by decide +kernel)
theorem pj_hs1 : Jvm.Cond.selects "BridgesAreLent" yX11_bridge yX11_bridge ∈ pj_all := pj_wd_in (pos := 1355) (by decide +kernel)
theorem pj_dt1_0 : decode cX11_bridge 20 = .ok (.new 145, 3) := by decide +kernel
theorem pj_dt1_3 : decode cX11_bridge 23 = .ok (.dup, 1) := by decide +kernel
theorem pj_dt1_4 : decode cX11_bridge 24 = .ok (.ldc 174, 2) := by decide +kernel
theorem pj_dt1_6 : decode cX11_bridge 26 = .ok (.invokespecial 149, 3) := by decide +kernel
theorem pj_dt1_9 : decode cX11_bridge 29 = .ok (.athrow, 1) := by decide +kernel
theorem pj_hp1 {bi : pj_F} {f a o : Nat} {p0 p1 : Int32} {fs : List Value} {G : pj_G} {L' : pj_L} (hl : l.stackTraces = false) (hbg : ∀ (mi : Nat) (vs : List Value) (G : pj_G) (v : Option Value) (G' : pj_G) (dc ds : Nat), bi mi vs G = some (v, G', dc, ds) → pj_gd G G' dc)
    (hbi : ∀ (d mi : Nat) (vs : List Value) (G : pj_G) (v : Option Value) (G' : pj_G) (dc ds : Nat) (M : pj_M), 12 ≤ d → pj_prog[mi]? = some M → bi mi vs G = some (v, G', dc, ds) → pj_Met l b base cy D adV (d + 1) M vs G v G' dc ds) (hd8 : 8 ≤ d) (hgx : pj_get G a = some (.inr (11, fs)))
    (hrun : pj_to (pj_exec pj_prog bi f d) 0 pj_x0 pj_m124 20 f (G, 0, lv_args 0 [.ref a, .int p0, .int p1], [], 0, 0) = some (G, 20, L', [], 0, 0)) :
    pj_MetH l b base cy D adV (d + 2) (yL_bridge, cL_bridge, 5, some .int, [(0, 10, 13, 13)]) [.ref a, .int p0, .int p1, .ref o] G (some (.int 1)) (G.1, false) 1 6 := by
  have hMet := pj_thr (l := l) (b := b) (base := base) (cy := cy) (D := D) (adV := adV) (d := d) (P := pj_prog) (M := pj_m124) (k := 1) (tp := 20) (vs := [.ref a, .int p0, .int p1]) hl (by decide +kernel) pj_prog_ok hbg hbi (List.mem_of_getElem? (i := 124) rfl) rfl rfl (Nat.le_of_ble_eq_true rfl) hd8 pj_dt1_0 pj_dt1_3 pj_dt1_4 pj_dt1_6 pj_dt1_9 hrun
  refine va_MetW (hh := [(0, 10, 13, 13)]) (cc := cL_bridge) (maxL := 5) (ret := some .int) (by decide +kernel) rfl ?_
  intro p e s m args below meth c s₁ B hml hv
  obtain ⟨rfl, hP0, hK, ⟨hbs, hexG⟩, hO⟩ := hv
  have hx := B.exec
  have hb := B.bytes
  have hr := B.returns
  have hts0 := atoms_spec (ws := pj_hw (yL_bridge, cL_bridge, 5, some .int, [(0, 10, 13, 13)]) :: pj_all) B.pre
  have hts : ∀ w ∈ pj_all, w.before (([.ref a, .int p0, .int p1, .ref o] : List Value).map (pj_v (pj_ad b base))).toArray s = true := fun w hw => hts0 w (List.mem_cons_of_mem _ hw)
  have hown : s.vm.findClass "BridgesAreLentLaw" = some m.cls := findClass_of_methodNamed B.named
  have hlocks := B.notSynchronized
  have hsplit : c.exceptionTable.toList = [⟨0, 10, 13, 13⟩] := vx_table (x := yL_law) B (hts0 _ List.mem_cons_self)
  have hl0 := lv_entry (([.ref a, .int p0, .int p1, .ref o] : List Value).map (pj_v (pj_ad b base))) (n := 5) (Nat.le_of_ble_eq_true rfl)
  rw [lg_entry_eq]
  generalize (lg_sl (([.ref a, .int p0, .int p1, .ref o] : List Value).map (pj_v (pj_ad b base))) ++ List.replicate (5 - (lg_sl (([.ref a, .int p0, .int p1, .ref o] : List Value).map (pj_v (pj_ad b base)))).length) Slot.unset).toArray = ls at hl0 ⊢
  have hl1 : lv_has ls 5 [(0, .ref ((pj_ad b base).1 a)), (1, .int p0), (2, .int p1), (3, .ref ((pj_ad b base).1 o))] := hl0
  refine lv_aload_n hx hb pj_dh1_0 rfl (lv_at hl1 3 rfl) ?_
  refine lv_iconst (v := 0) hx hb pj_dh1_1 (by decide) ?_
  refine lv_aload_n hx hb pj_dh1_2 rfl (lv_at hl1 0 rfl) ?_
  refine lv_iload_n hx hb pj_dh1_3 rfl (lv_at hl1 1 rfl) ?_
  refine lv_iload_n hx hb pj_dh1_4 rfl (lv_at hl1 2 rfl) ?_
  obtain ⟨i9, -, hi9⟩ := pj_at (b := b) (base := base) (cy := cy) hgx
  have hrc := va_recv hK hP0 (show vwCl[11]? = some (RX11, TX11, 8) from rfl) hi9
  obtain ⟨⟨k1, k2, k3, k4, k5, k6⟩, k7, k8, k9, k10⟩ := pj_okM_s (R := (headSpec (pj_hw (yL_bridge, cL_bridge, 5, some .int, [(0, 10, 13, 13)]) :: pj_all) (pj_rm (d + 2) 1 6)).room) (d := d + 1) (dc := 1) (ds := 6) pj_hm1 hts (Nat.le_refl _) (Nat.le_refl _)
  have hpre := pj_pre (b := b) (base := base) (cy := cy) (D := D) (adV := adV) (G := G) (vs := [.ref a, .int p0, .int p1]) (cells := 0) hK hO hbs hP0 va_S.rf (Nat.le_refl _) (fun z => by have := hexG z; omega)
  refine pj_afterX (G := G) (fun _ _ _ z => z) (vx_runV (As := [.int p0, .int p1]) (rest := [.int 0, .ref ((pj_ad b base).1 o)]) ⟨hx, hb, hml, hown, hts⟩ hMet ⟨⟨k1, k2, k3, k4, k5, k6, k7, k8, k9, k10, hts _ pj_hk1⟩, hts _ pj_hi1, hts _ pj_hs1⟩ ⟨pj_P_blind, hrc, hpre⟩ rfl rfl hl1.1 rfl (lv_room (by show 1 + (1 + 0) ≤ 8; omega)) pj_dh1_5 ⟨Nat.le_refl _, Nat.le_refl _⟩) va_S.rf (fun H1 locs1 q ce hP1 hS1 hc1 hv1 hcl1 => ?_)
  refine vx_catch (name := pj_nse) hown [] ⟨0, 10, 13, 13⟩ [] hsplit (fun _ h => by cases h) (by decide) (by decide) (hts _ pj_hc0) (hts _ pj_hc1) hc1 hv1 hcl1 ?_
  refine lv_astore (lv' := [(4, .ref q), (0, .ref ((pj_ad b base).1 a)), (1, .int p0), (2, .int p1), (3, .ref ((pj_ad b base).1 o))]) hx hb pj_dh1_13 hl1 (by decide) rfl (fun ls2 hl2 => ?_)
  refine lv_iconst (v := 1) hx hb pj_dh1_15 (by decide) ?_
  exact W.iret (v := 1) hx hb hr (fun t ht _ => ⟨rfl, by rw [ht]; exact hP1, hS1.F ht⟩) hS1.2.2 pj_dh1_16
theorem pj_dh2_0 : decode cL_person 0 = .ok (.aload_n 3, 1) := by decide +kernel
theorem pj_dh2_1 : decode cL_person 1 = .ok (.iconst 0, 1) := by decide +kernel
theorem pj_dh2_2 : decode cL_person 2 = .ok (.aload_n 0, 1) := by decide +kernel
theorem pj_dh2_3 : decode cL_person 3 = .ok (.iload_n 1, 1) := by decide +kernel
theorem pj_dh2_4 : decode cL_person 4 = .ok (.iload_n 2, 1) := by decide +kernel
theorem pj_dh2_5 : decode cL_person 5 = .ok (.invokevirtual 18, 3) := by decide +kernel
theorem pj_dh2_8 : decode cL_person 8 = .ok (.i2l, 1) := by decide +kernel
theorem pj_dh2_9 : decode cL_person 9 = .ok (.lastore, 1) := by decide +kernel
theorem pj_dh2_10 : decode cL_person 10 = .ok (.goto 7, 3) := by decide +kernel
theorem pj_dh2_13 : decode cL_person 13 = .ok (.astore 4, 2) := by decide +kernel
theorem pj_dh2_15 : decode cL_person 15 = .ok (.iconst 1, 1) := by decide +kernel
theorem pj_dh2_16 : decode cL_person 16 = .ok (.ireturn, 1) := by decide +kernel
theorem pj_dh2_17 : decode cL_person 17 = .ok (.iconst 0, 1) := by decide +kernel
theorem pj_dh2_18 : decode cL_person 18 = .ok (.ireturn, 1) := by decide +kernel
theorem pj_hk2 : Jvm.Cond.methodLink "BridgesAreLentLaw" 18 yX11_person ∈ pj_all := pj_wd_in (pos := 1361) (by decide +kernel)
theorem pj_hm2 : pj_okM pj_m125 2 = true := by decide +kernel
theorem pj_hi2 : Jvm.Cond.instanceMethod yX11_person ∈ pj_all := pj_wd_in (pos := 1362) (by decide +kernel)
theorem pj_hs2 : Jvm.Cond.selects "BridgesAreLent" yX11_person yX11_person ∈ pj_all := pj_wd_in (pos := 1363) (by decide +kernel)
theorem pj_dt2_0 : decode cX11_person 20 = .ok (.new 145, 3) := by decide +kernel
theorem pj_dt2_3 : decode cX11_person 23 = .ok (.dup, 1) := by decide +kernel
theorem pj_dt2_4 : decode cX11_person 24 = .ok (.ldc 194, 2) := by decide +kernel
theorem pj_dt2_6 : decode cX11_person 26 = .ok (.invokespecial 149, 3) := by decide +kernel
theorem pj_dt2_9 : decode cX11_person 29 = .ok (.athrow, 1) := by decide +kernel
theorem pj_hp2 {bi : pj_F} {f a o : Nat} {p0 p1 : Int32} {fs : List Value} {G : pj_G} {L' : pj_L} (hl : l.stackTraces = false) (hbg : ∀ (mi : Nat) (vs : List Value) (G : pj_G) (v : Option Value) (G' : pj_G) (dc ds : Nat), bi mi vs G = some (v, G', dc, ds) → pj_gd G G' dc)
    (hbi : ∀ (d mi : Nat) (vs : List Value) (G : pj_G) (v : Option Value) (G' : pj_G) (dc ds : Nat) (M : pj_M), 12 ≤ d → pj_prog[mi]? = some M → bi mi vs G = some (v, G', dc, ds) → pj_Met l b base cy D adV (d + 1) M vs G v G' dc ds) (hd8 : 8 ≤ d) (hgx : pj_get G a = some (.inr (11, fs)))
    (hrun : pj_to (pj_exec pj_prog bi f d) 0 pj_x0 pj_m125 20 f (G, 0, lv_args 0 [.ref a, .int p0, .int p1], [], 0, 0) = some (G, 20, L', [], 0, 0)) :
    pj_MetH l b base cy D adV (d + 2) (yL_person, cL_person, 5, some .int, [(0, 10, 13, 13)]) [.ref a, .int p0, .int p1, .ref o] G (some (.int 1)) (G.1, false) 1 6 := by
  have hMet := pj_thr (l := l) (b := b) (base := base) (cy := cy) (D := D) (adV := adV) (d := d) (P := pj_prog) (M := pj_m125) (k := 2) (tp := 20) (vs := [.ref a, .int p0, .int p1]) hl (by decide +kernel) pj_prog_ok hbg hbi (List.mem_of_getElem? (i := 125) rfl) rfl rfl (Nat.le_of_ble_eq_true rfl) hd8 pj_dt2_0 pj_dt2_3 pj_dt2_4 pj_dt2_6 pj_dt2_9 hrun
  refine va_MetW (hh := [(0, 10, 13, 13)]) (cc := cL_person) (maxL := 5) (ret := some .int) (by decide +kernel) rfl ?_
  intro p e s m args below meth c s₁ B hml hv
  obtain ⟨rfl, hP0, hK, ⟨hbs, hexG⟩, hO⟩ := hv
  have hx := B.exec
  have hb := B.bytes
  have hr := B.returns
  have hts0 := atoms_spec (ws := pj_hw (yL_person, cL_person, 5, some .int, [(0, 10, 13, 13)]) :: pj_all) B.pre
  have hts : ∀ w ∈ pj_all, w.before (([.ref a, .int p0, .int p1, .ref o] : List Value).map (pj_v (pj_ad b base))).toArray s = true := fun w hw => hts0 w (List.mem_cons_of_mem _ hw)
  have hown : s.vm.findClass "BridgesAreLentLaw" = some m.cls := findClass_of_methodNamed B.named
  have hlocks := B.notSynchronized
  have hsplit : c.exceptionTable.toList = [⟨0, 10, 13, 13⟩] := vx_table (x := yL_law) B (hts0 _ List.mem_cons_self)
  have hl0 := lv_entry (([.ref a, .int p0, .int p1, .ref o] : List Value).map (pj_v (pj_ad b base))) (n := 5) (Nat.le_of_ble_eq_true rfl)
  rw [lg_entry_eq]
  generalize (lg_sl (([.ref a, .int p0, .int p1, .ref o] : List Value).map (pj_v (pj_ad b base))) ++ List.replicate (5 - (lg_sl (([.ref a, .int p0, .int p1, .ref o] : List Value).map (pj_v (pj_ad b base)))).length) Slot.unset).toArray = ls at hl0 ⊢
  have hl1 : lv_has ls 5 [(0, .ref ((pj_ad b base).1 a)), (1, .int p0), (2, .int p1), (3, .ref ((pj_ad b base).1 o))] := hl0
  refine lv_aload_n hx hb pj_dh2_0 rfl (lv_at hl1 3 rfl) ?_
  refine lv_iconst (v := 0) hx hb pj_dh2_1 (by decide) ?_
  refine lv_aload_n hx hb pj_dh2_2 rfl (lv_at hl1 0 rfl) ?_
  refine lv_iload_n hx hb pj_dh2_3 rfl (lv_at hl1 1 rfl) ?_
  refine lv_iload_n hx hb pj_dh2_4 rfl (lv_at hl1 2 rfl) ?_
  obtain ⟨i9, -, hi9⟩ := pj_at (b := b) (base := base) (cy := cy) hgx
  have hrc := va_recv hK hP0 (show vwCl[11]? = some (RX11, TX11, 8) from rfl) hi9
  obtain ⟨⟨k1, k2, k3, k4, k5, k6⟩, k7, k8, k9, k10⟩ := pj_okM_s (R := (headSpec (pj_hw (yL_person, cL_person, 5, some .int, [(0, 10, 13, 13)]) :: pj_all) (pj_rm (d + 2) 1 6)).room) (d := d + 1) (dc := 1) (ds := 6) pj_hm2 hts (Nat.le_refl _) (Nat.le_refl _)
  have hpre := pj_pre (b := b) (base := base) (cy := cy) (D := D) (adV := adV) (G := G) (vs := [.ref a, .int p0, .int p1]) (cells := 0) hK hO hbs hP0 va_S.rf (Nat.le_refl _) (fun z => by have := hexG z; omega)
  refine pj_afterX (G := G) (fun _ _ _ z => z) (vx_runV (As := [.int p0, .int p1]) (rest := [.int 0, .ref ((pj_ad b base).1 o)]) ⟨hx, hb, hml, hown, hts⟩ hMet ⟨⟨k1, k2, k3, k4, k5, k6, k7, k8, k9, k10, hts _ pj_hk2⟩, hts _ pj_hi2, hts _ pj_hs2⟩ ⟨pj_P_blind, hrc, hpre⟩ rfl rfl hl1.1 rfl (lv_room (by show 1 + (1 + 0) ≤ 8; omega)) pj_dh2_5 ⟨Nat.le_refl _, Nat.le_refl _⟩) va_S.rf (fun H1 locs1 q ce hP1 hS1 hc1 hv1 hcl1 => ?_)
  refine vx_catch (name := pj_nse) hown [] ⟨0, 10, 13, 13⟩ [] hsplit (fun _ h => by cases h) (by decide) (by decide) (hts _ pj_hc0) (hts _ pj_hc1) hc1 hv1 hcl1 ?_
  refine lv_astore (lv' := [(4, .ref q), (0, .ref ((pj_ad b base).1 a)), (1, .int p0), (2, .int p1), (3, .ref ((pj_ad b base).1 o))]) hx hb pj_dh2_13 hl1 (by decide) rfl (fun ls2 hl2 => ?_)
  refine lv_iconst (v := 1) hx hb pj_dh2_15 (by decide) ?_
  exact W.iret (v := 1) hx hb hr (fun t ht _ => ⟨rfl, by rw [ht]; exact hP1, hS1.F ht⟩) hS1.2.2 pj_dh2_16
theorem pj_dh3_0 : decode cL_row 0 = .ok (.aload_n 2, 1) := by decide +kernel
theorem pj_dh3_1 : decode cL_row 1 = .ok (.iconst 0, 1) := by decide +kernel
theorem pj_dh3_2 : decode cL_row 2 = .ok (.aload_n 0, 1) := by decide +kernel
theorem pj_dh3_3 : decode cL_row 3 = .ok (.iload_n 1, 1) := by decide +kernel
theorem pj_dh3_4 : decode cL_row 4 = .ok (.invokevirtual 21, 3) := by decide +kernel
theorem pj_dh3_7 : decode cL_row 7 = .ok (.lastore, 1) := by decide +kernel
theorem pj_dh3_8 : decode cL_row 8 = .ok (.goto 6, 3) := by decide +kernel
theorem pj_dh3_11 : decode cL_row 11 = .ok (.astore_n 3, 1) := by decide +kernel
theorem pj_dh3_12 : decode cL_row 12 = .ok (.iconst 1, 1) := by decide +kernel
theorem pj_dh3_13 : decode cL_row 13 = .ok (.ireturn, 1) := by decide +kernel
theorem pj_dh3_14 : decode cL_row 14 = .ok (.iconst 0, 1) := by decide +kernel
theorem pj_dh3_15 : decode cL_row 15 = .ok (.ireturn, 1) := by decide +kernel
theorem pj_hk3 : Jvm.Cond.methodLink "BridgesAreLentLaw" 21 yX11_row ∈ pj_all := pj_wd_in (pos := 1369) (by decide +kernel)
theorem pj_hm3 : pj_okM pj_m160 1 = true := by decide +kernel
theorem pj_hi3 : Jvm.Cond.instanceMethod yX11_row ∈ pj_all := pj_wd_in (pos := 1370) (by decide +kernel)
theorem pj_hs3 : Jvm.Cond.selects "BridgesAreLent" yX11_row yX11_row ∈ pj_all := pj_wd_in (pos := 1371) (by decide +kernel)
theorem pj_dt3_0 : decode cX11_row 15 = .ok (.new 145, 3) := by decide +kernel
theorem pj_dt3_3 : decode cX11_row 18 = .ok (.dup, 1) := by decide +kernel
theorem pj_dt3_4 : decode cX11_row 19 = .ok (.ldc_w 421, 3) := by decide +kernel
theorem pj_dt3_6 : decode cX11_row 22 = .ok (.invokespecial 149, 3) := by decide +kernel
theorem pj_dt3_9 : decode cX11_row 25 = .ok (.athrow, 1) := by decide +kernel
theorem pj_hp3 {bi : pj_F} {f a o : Nat} {p0 : Int32} {fs : List Value} {G : pj_G} {L' : pj_L} (hl : l.stackTraces = false) (hbg : ∀ (mi : Nat) (vs : List Value) (G : pj_G) (v : Option Value) (G' : pj_G) (dc ds : Nat), bi mi vs G = some (v, G', dc, ds) → pj_gd G G' dc)
    (hbi : ∀ (d mi : Nat) (vs : List Value) (G : pj_G) (v : Option Value) (G' : pj_G) (dc ds : Nat) (M : pj_M), 12 ≤ d → pj_prog[mi]? = some M → bi mi vs G = some (v, G', dc, ds) → pj_Met l b base cy D adV (d + 1) M vs G v G' dc ds) (hd8 : 8 ≤ d) (hgx : pj_get G a = some (.inr (11, fs)))
    (hrun : pj_to (pj_exec pj_prog bi f d) 0 pj_x0 pj_m160 15 f (G, 0, lv_args 0 [.ref a, .int p0], [], 0, 0) = some (G, 15, L', [], 0, 0)) :
    pj_MetH l b base cy D adV (d + 2) (yL_row, cL_row, 4, some .int, [(0, 8, 11, 13)]) [.ref a, .int p0, .ref o] G (some (.int 1)) (G.1, false) 1 6 := by
  have hMet := pj_thrW (l := l) (b := b) (base := base) (cy := cy) (D := D) (adV := adV) (d := d) (P := pj_prog) (M := pj_m160) (k := 3) (tp := 15) (vs := [.ref a, .int p0]) hl (by decide +kernel) pj_prog_ok hbg hbi (List.mem_of_getElem? (i := 160) rfl) rfl rfl (Nat.le_of_ble_eq_true rfl) hd8 pj_dt3_0 pj_dt3_3 pj_dt3_4 pj_dt3_6 pj_dt3_9 hrun
  refine va_MetW (hh := [(0, 8, 11, 13)]) (cc := cL_row) (maxL := 4) (ret := some .int) (by decide +kernel) rfl ?_
  intro p e s m args below meth c s₁ B hml hv
  obtain ⟨rfl, hP0, hK, ⟨hbs, hexG⟩, hO⟩ := hv
  have hx := B.exec
  have hb := B.bytes
  have hr := B.returns
  have hts0 := atoms_spec (ws := pj_hw (yL_row, cL_row, 4, some .int, [(0, 8, 11, 13)]) :: pj_all) B.pre
  have hts : ∀ w ∈ pj_all, w.before (([.ref a, .int p0, .ref o] : List Value).map (pj_v (pj_ad b base))).toArray s = true := fun w hw => hts0 w (List.mem_cons_of_mem _ hw)
  have hown : s.vm.findClass "BridgesAreLentLaw" = some m.cls := findClass_of_methodNamed B.named
  have hlocks := B.notSynchronized
  have hsplit : c.exceptionTable.toList = [⟨0, 8, 11, 13⟩] := vx_table (x := yL_law) B (hts0 _ List.mem_cons_self)
  have hl0 := lv_entry (([.ref a, .int p0, .ref o] : List Value).map (pj_v (pj_ad b base))) (n := 4) (Nat.le_of_ble_eq_true rfl)
  rw [lg_entry_eq]
  generalize (lg_sl (([.ref a, .int p0, .ref o] : List Value).map (pj_v (pj_ad b base))) ++ List.replicate (4 - (lg_sl (([.ref a, .int p0, .ref o] : List Value).map (pj_v (pj_ad b base)))).length) Slot.unset).toArray = ls at hl0 ⊢
  have hl1 : lv_has ls 4 [(0, .ref ((pj_ad b base).1 a)), (1, .int p0), (2, .ref ((pj_ad b base).1 o))] := hl0
  refine lv_aload_n hx hb pj_dh3_0 rfl (lv_at hl1 2 rfl) ?_
  refine lv_iconst (v := 0) hx hb pj_dh3_1 (by decide) ?_
  refine lv_aload_n hx hb pj_dh3_2 rfl (lv_at hl1 0 rfl) ?_
  refine lv_iload_n hx hb pj_dh3_3 rfl (lv_at hl1 1 rfl) ?_
  obtain ⟨i9, -, hi9⟩ := pj_at (b := b) (base := base) (cy := cy) hgx
  have hrc := va_recv hK hP0 (show vwCl[11]? = some (RX11, TX11, 8) from rfl) hi9
  obtain ⟨⟨k1, k2, k3, k4, k5, k6⟩, k7, k8, k9, k10⟩ := pj_okM_s (R := (headSpec (pj_hw (yL_row, cL_row, 4, some .int, [(0, 8, 11, 13)]) :: pj_all) (pj_rm (d + 2) 1 6)).room) (d := d + 1) (dc := 1) (ds := 6) pj_hm3 hts (Nat.le_refl _) (Nat.le_refl _)
  have hpre := pj_pre (b := b) (base := base) (cy := cy) (D := D) (adV := adV) (G := G) (vs := [.ref a, .int p0]) (cells := 0) hK hO hbs hP0 va_S.rf (Nat.le_refl _) (fun z => by have := hexG z; omega)
  refine pj_afterX (G := G) (fun _ _ _ z => z) (vx_runV (As := [.int p0]) (rest := [.int 0, .ref ((pj_ad b base).1 o)]) ⟨hx, hb, hml, hown, hts⟩ hMet ⟨⟨k1, k2, k3, k4, k5, k6, k7, k8, k9, k10, hts _ pj_hk3⟩, hts _ pj_hi3, hts _ pj_hs3⟩ ⟨pj_P_blind, hrc, hpre⟩ rfl rfl hl1.1 rfl (lv_room (by show 1 + (1 + 0) ≤ 8; omega)) pj_dh3_4 ⟨Nat.le_refl _, Nat.le_refl _⟩) va_S.rf (fun H1 locs1 q ce hP1 hS1 hc1 hv1 hcl1 => ?_)
  refine vx_catch (name := pj_nse) hown [] ⟨0, 8, 11, 13⟩ [] hsplit (fun _ h => by cases h) (by decide) (by decide) (hts _ pj_hc0) (hts _ pj_hc1) hc1 hv1 hcl1 ?_
  refine lv_astore_n (lv' := [(3, .ref q), (0, .ref ((pj_ad b base).1 a)), (1, .int p0), (2, .ref ((pj_ad b base).1 o))]) hx hb pj_dh3_11 rfl hl1 (by decide) rfl (fun ls2 hl2 => ?_)
  refine lv_iconst (v := 1) hx hb pj_dh3_12 (by decide) ?_
  exact W.iret (v := 1) hx hb hr (fun t ht _ => ⟨rfl, by rw [ht]; exact hP1, hS1.F ht⟩) hS1.2.2 pj_dh3_13
end PJTO
end
section
/-! String.length of a constant -/
section PJST
variable {l : Launch} {b : Nat × (Nat → Nat)} {base : Nat} {cy : Nat → ClassId} {D : va_G} {adV : Nat → Nat} {d : Nat}
theorem pj_sd0 : decode cJ0_coder_7d493 0 = .ok (.getstatic 38, 3) := by decide +kernel
theorem pj_sd3 : decode cJ0_coder_7d493 3 = .ok (.ifCond .eq 10, 3) := by decide +kernel
theorem pj_sd6 : decode cJ0_coder_7d493 6 = .ok (.aload_n 0, 1) := by decide +kernel
theorem pj_sd7 : decode cJ0_coder_7d493 7 = .ok (.getfield 15, 3) := by decide +kernel
theorem pj_sd10 : decode cJ0_coder_7d493 10 = .ok (.goto 4, 3) := by decide +kernel
theorem pj_sd14 : decode cJ0_coder_7d493 14 = .ok (.ireturn, 1) := by decide +kernel
theorem pj_se0 : decode cJ0_length_8abf5 0 = .ok (.aload_n 0, 1) := by decide +kernel
theorem pj_se1 : decode cJ0_length_8abf5 1 = .ok (.getfield 9, 3) := by decide +kernel
theorem pj_se4 : decode cJ0_length_8abf5 4 = .ok (.arraylength, 1) := by decide +kernel
theorem pj_se5 : decode cJ0_length_8abf5 5 = .ok (.aload_n 0, 1) := by decide +kernel
theorem pj_se6 : decode cJ0_length_8abf5 6 = .ok (.invokevirtual 335, 3) := by decide +kernel
theorem pj_se9 : decode cJ0_length_8abf5 9 = .ok (.ishr, 1) := by decide +kernel
theorem pj_se10 : decode cJ0_length_8abf5 10 = .ok (.ireturn, 1) := by decide +kernel
theorem pj_sw1 : Jvm.Cond.fieldLink "java/lang/String" 38 "java/lang/String" "COMPACT_STRINGS" "Z" ∈ pj_all := pj_wd_in (pos := 628) (by decide +kernel)
theorem pj_sw2 : Jvm.Cond.fieldLink "java/lang/String" 15 "java/lang/String" "coder" "B" ∈ pj_all := pj_wd_in (pos := 2074) (by decide +kernel)
theorem pj_sw3 : Jvm.Cond.fieldLink "java/lang/String" 9 "java/lang/String" "value" "[B" ∈ pj_all := pj_wd_in (pos := 2073) (by decide +kernel)
theorem pj_sw4 : Jvm.Cond.code yJ0_coder_7d493 cJ0_coder_7d493 1 (some .byte) ∈ pj_all := pj_wd_in (pos := 627) (by decide +kernel)
theorem pj_sw5 : Jvm.Cond.initialized "java/lang/String" ∈ pj_all := pj_wd_in (pos := 101) (by decide +kernel)
theorem pj_sw6 : Jvm.Cond.methodLink "java/lang/String" 335 yJ0_coder_7d493 ∈ pj_all := pj_wd_in (pos := 624) (by decide +kernel)
theorem pj_sw7 : Jvm.Cond.instanceMethod yJ0_coder_7d493 ∈ pj_all := pj_wd_in (pos := 625) (by decide +kernel)
theorem pj_sw8 : Jvm.Cond.selects "java/lang/String" yJ0_coder_7d493 yJ0_coder_7d493 ∈ pj_all := pj_wd_in (pos := 626) (by decide +kernel)
theorem pj_cod {k : Nat} {q : String × Nat × String} {G : pj_G} (hk : pj_strs[k]? = some q) : Met l yJ0_coder_7d493 (pj_ws yJ0_coder_7d493 cJ0_coder_7d493 1 (some .byte)) (pj_rm d 0 0) (pj_P b base cy D adV [.retAddr k] G) (pj_Q b base cy D (some (.int 0)) G) 0 0 (fun q => base ≤ q) := by
  refine Met.ofW (cc := cJ0_coder_7d493) (maxL := 1) (ret := some .byte) (by decide +kernel) rfl ?_
  intro p e s m args below meth c s₁ B hml hv
  obtain ⟨rfl, hP0, hK, ⟨hbs, hexG⟩, hO⟩ := hv
  have hx := B.exec
  have hb := B.bytes
  have hr := B.returns
  have hts0 := atoms_spec (ws := pj_ws yJ0_coder_7d493 cJ0_coder_7d493 1 (some .byte)) B.pre
  have hts : ∀ w ∈ pj_all, w.before (([.retAddr k] : List Value).map (pj_v (pj_ad b base))).toArray s = true := fun w hw => hts0 w (List.mem_cons_of_mem _ hw)
  have hown : s.vm.findClass "java/lang/String" = some m.cls := findClass_of_methodNamed B.named
  have hlocks := B.notSynchronized
  have hl0 := lv_entry (([.retAddr k] : List Value).map (pj_v (pj_ad b base))) (n := 1) (Nat.le_of_ble_eq_true rfl)
  rw [lg_entry_eq]
  generalize (lg_sl (([.retAddr k] : List Value).map (pj_v (pj_ad b base))) ++ List.replicate (1 - (lg_sl (([.retAddr k] : List Value).map (pj_v (pj_ad b base)))).length) Slot.unset).toArray = ls at hl0 ⊢
  have hl1 : lv_has ls 1 [(0, .ref (b.2 k))] := hl0
  have hS0 : va_S (fun q => base ≤ q) s.heap s.heap [] := va_S.rf
  refine va_gets (A := fun q => base ≤ q) hx hb hO.2.2.1 hS0 hown (hts _ pj_sw1) (fun _ z => z) pj_sd0 ?_
  refine lv_if_eq (tgt := 13) hx hb pj_sd3 (by decide) (fun z => absurd z (by decide)) (fun _ => ?_)
  refine lv_aload_n hx hb pj_sd6 rfl (lv_at hl1 0 rfl) ?_
  refine vk_getf (A := fun q => base ≤ q) hx hb (hO.2.1 k q hk).2.2.1 hS0 hown (hts _ pj_sw2) (fun _ z => z) pj_sd7 ?_
  refine lv_goto (tgt := 14) hx hb pj_sd10 (by decide) ?_
  exact W.zret (v := 0) hx hb hr rfl (fun t ht _ => ⟨rfl, by rw [ht]; exact hP0, hS0.F ht⟩) hS0.2.2 pj_sd14
theorem pj_len_met {k : Nat} {q : String × Nat × String} {G : pj_G} (hk : pj_strs[k]? = some q) : Met l yJ0_length_8abf5 (pj_ws yJ0_length_8abf5 cJ0_length_8abf5 1 (some .int)) (pj_rm (d + 1) 0 0) (pj_P b base cy D adV [.retAddr k] G) (pj_Q b base cy D (some (.int (Int32.ofNat (pj_byt k).length))) G) 0 0 (fun q => base ≤ q) := by
  refine Met.ofW (cc := cJ0_length_8abf5) (maxL := 1) (ret := some .int) (by decide +kernel) rfl ?_
  intro p e s m args below meth c s₁ B hml hv
  obtain ⟨rfl, hP0, hK, ⟨hbs, hexG⟩, hO⟩ := hv
  have hx := B.exec
  have hb := B.bytes
  have hr := B.returns
  have hts0 := atoms_spec (ws := pj_ws yJ0_length_8abf5 cJ0_length_8abf5 1 (some .int)) B.pre
  have hts : ∀ w ∈ pj_all, w.before (([.retAddr k] : List Value).map (pj_v (pj_ad b base))).toArray s = true := fun w hw => hts0 w (List.mem_cons_of_mem _ hw)
  have hown : s.vm.findClass "java/lang/String" = some m.cls := findClass_of_methodNamed B.named
  have hlocks := B.notSynchronized
  have hl0 := lv_entry (([.retAddr k] : List Value).map (pj_v (pj_ad b base))) (n := 1) (Nat.le_of_ble_eq_true rfl)
  rw [lg_entry_eq]
  generalize (lg_sl (([.retAddr k] : List Value).map (pj_v (pj_ad b base))) ++ List.replicate (1 - (lg_sl (([.retAddr k] : List Value).map (pj_v (pj_ad b base)))).length) Slot.unset).toArray = ls at hl0 ⊢
  have hl1 : lv_has ls 1 [(0, .ref (b.2 k))] := hl0
  have hS0 : va_S (fun q => base ≤ q) s.heap s.heap [] := va_S.rf
  refine lv_aload_n hx hb pj_se0 rfl (lv_at hl1 0 rfl) ?_
  refine vk_getf (A := fun q => base ≤ q) hx hb (hO.2.1 k q hk).2.2.2.1 hS0 hown (hts _ pj_sw3) (fun _ z => z) pj_se1 ?_
  refine va_tlen (A := fun q => base ≤ q) hx hb (hO.2.1 k q hk).2.2.2.2 hS0 rfl pj_se4 ?_
  refine lv_aload_n hx hb pj_se5 rfl (lv_at hl1 0 rfl) ?_
  have hrc : ∃ cell : Cell, s.heap[b.2 k]? = some cell ∧ cell.vm.isStatics = false ∧ s.vm.findClass "java/lang/String" = some cell.cls := by
    obtain ⟨cell, h1, h2, h3, -⟩ := (hO.2.1 k q hk).2.1
    exact ⟨cell, h1, h2, h3⟩
  have hpre := pj_pre (b := b) (base := base) (cy := cy) (D := D) (adV := adV) (G := G) (vs := [.retAddr k]) (cells := 0) hK hO hbs hP0 hS0 (Nat.le_refl _) (fun z => by have := hexG z; omega)
  refine pj_after (rest := [.int (Int32.ofNat (pj_byt k).length)]) (dc := 0) (ds := 0) (va_runV (As := []) (rest := [.int (Int32.ofNat (pj_byt k).length)]) ⟨hx, hb, hml, hown, hts⟩ (pj_cod (d := d) hk) ⟨⟨rfl, rfl, Nat.le_refl _, by show 8 + (1 + 11) + 64 * d ≤ 64 * (d + 1); omega, pj_warm hts pj_sw4, List.mem_cons_self, hts _ pj_sw4, hts _ pj_sw5, by decide, fun sig h => ?_, hts _ pj_sw6⟩, hts _ pj_sw7, hts _ pj_sw8⟩ ⟨pj_P_blind, hrc, hpre⟩ rfl rfl hl1.1 rfl (lv_room (by show 1 + 0 ≤ 8; omega)) pj_se6 ⟨Nat.le_refl _, Nat.le_refl _⟩) hS0 ?_
  · have h2 : (parseMethodDescriptor yJ0_coder_7d493.desc).map (fun d => d.parameters.length) = some 0 := by decide +kernel
    rw [h] at h2
    exact (Option.some.inj h2).symm
  · intro H locs hP hS
    refine lv_ishr hx hb pj_se9 ?_
    rw [sb_shr0]
    exact W.iret hx hb hr (fun t ht _ => ⟨rfl, by rw [ht]; exact hP, hS.F ht⟩) hS.2.2 pj_se10
/-- the methods that are told, not run: String.length -/
def pj_nat : pj_F := fun mi vs G => match vs with
  | [.retAddr k] => if mi = 289 ∧ k < 16 then some (some (.int (Int32.ofNat (pj_byt k).length)), G, 0, 0) else none
  | _ => none
theorem pj_nat_s {mi : Nat} {vs : List Value} {G G' : pj_G} {v : Option Value} {dc ds : Nat} (h : pj_nat mi vs G = some (v, G', dc, ds)) : ∃ k, vs = [.retAddr k] ∧ mi = 289 ∧ k < 16 ∧ v = some (.int (Int32.ofNat (pj_byt k).length)) ∧ G' = G ∧ dc = 0 ∧ ds = 0 := by
  unfold pj_nat at h
  split at h
  · split at h
    · rename_i k hg
      cases h
      exact ⟨k, rfl, hg.1, hg.2, rfl, rfl, rfl, rfl⟩
    · cases h
  · cases h
theorem pj_nat_gd (mi : Nat) (vs : List Value) (G : pj_G) (v : Option Value) (G' : pj_G) (dc ds : Nat) (h : pj_nat mi vs G = some (v, G', dc, ds)) : pj_gd G G' dc := by
  obtain ⟨k, rfl, rfl, hk, rfl, rfl, rfl, rfl⟩ := pj_nat_s h
  exact pj_gd_0 _
theorem pj_nat_met (d mi : Nat) (vs : List Value) (G : pj_G) (v : Option Value) (G' : pj_G) (dc ds : Nat) (M : pj_M) (h12 : 12 ≤ d) (hM : pj_prog[mi]? = some M) (h : pj_nat mi vs G = some (v, G', dc, ds)) : pj_Met l b base cy D adV (d + 1) M vs G v G' dc ds := by
  obtain ⟨k, rfl, rfl, hk, rfl, rfl, rfl, rfl⟩ := pj_nat_s h
  have e1 : M = pj_m289 := Option.some.inj (hM.symm.trans (show pj_prog[289]? = some pj_m289 from rfl))
  subst e1
  obtain ⟨q, hq⟩ : ∃ q, pj_strs[k]? = some q := ⟨_, List.getElem?_eq_getElem (show k < pj_strs.length from hk)⟩
  exact pj_len_met hq
theorem pj_byt10 : (pj_byt 10).length = 7 := by decide +kernel
end PJST
end
section
/-! THE START: what the Statement gives, in the pure machine's words -/
theorem pj_inst : ∀ q ∈ pj_cls, Jvm.Cond.instantiable q.1 q.2.2.1 ∈ lw_tbl := by decide +kernel
theorem pj_arrw : (Jvm.Cond.arrayClass .int ∈ lw_tbl ∧ Jvm.Cond.arrayClass .long ∈ lw_tbl ∧ Jvm.Cond.arrayClass .boolean ∈ lw_tbl ∧ Jvm.Cond.arrayOver (.object RX8) ∈ lw_tbl) := by decide +kernel
abbrev pj_fl : List Jvm.Cond := flatC (Jvm.Cond.and given_1 narrow_1)
def pj_bytL : List (List Int32) := [[110, 111, 32, 115, 117, 99, 104, 32, 99, 114, 111, 115, 115, 105, 110, 103, 44, 32, 111, 114, 32, 110, 111, 116, 104, 105, 110, 103, 32, 115, 117, 99, 104, 32, 111, 102, 32, 105, 116], [110, 111, 32, 115, 117, 99, 104, 32, 98, 114, 105, 100, 103, 101, 44, 32, 111, 114, 32, 110, 111, 116, 104, 105, 110, 103, 32, 115, 117, 99, 104, 32, 111, 102, 32, 105, 116], [110, 111, 32, 115, 117, 99, 104, 32, 112, 101, 114, 115, 111, 110, 44, 32, 111, 114, 32, 110, 111, 116, 104, 105, 110, 103, 32, 115, 117, 99, 104, 32, 111, 102, 32, 105, 116], [116, 104, 101, 32, 114, 111, 119, 32, 104, 97, 115, 32, 110, 111, 32, 115, 117, 99, 104, 32, 110, 117, 109, 98, 101, 114], [116, 108, 99, 104], [60, 62, 61], [43, 45], [42, 47], [100, 117, 108, 115, 119, 98, 110], [49, 50, 51, 52, 53, 54, 55, 56, 57], [50, 51, 52, 53, 54, 55, 56], [100, 117, 108, 115, 119, 98, 110], [60, 62, 61], [43, 45], [42, 47], [116, 108, 99, 104]]
theorem pj_bytL_ok : ∀ k, k < 16 → pj_byt k = pj_bytL.getD k [] := by decide +kernel
abbrev pj_sok (q : String × Nat × String) (bs : List Int32) : Prop := Jvm.Cond.stringRef q.1 q.2.1 q.2.2 ∈ lw_tbl ∧ Jvm.Cond.exactly (.string q.1 q.2.1) "java/lang/String" ∈ pj_fl ∧ Jvm.Cond.eq (.field (.string q.1 q.2.1) "java/lang/String" "coder" "B") (.int 0) ∈ pj_fl ∧ Jvm.Cond.arrayOf (.field (.string q.1 q.2.1) "java/lang/String" "value" "[B") .byte ∈ pj_fl ∧ Jvm.Cond.eq (.length (.field (.string q.1 q.2.1) "java/lang/String" "value" "[B")) (.int (Int32.ofNat bs.length)) ∈ pj_fl ∧ ∀ j, j < bs.length → Jvm.Cond.eq (.elem (.field (.string q.1 q.2.1) "java/lang/String" "value" "[B") (.int (Int32.ofNat j))) (.int (bs.getD j 0)) ∈ pj_fl
def pj_blk (q : String × Nat × String) (bs : List Int32) : List Jvm.Cond := [Jvm.Cond.exactly (.string q.1 q.2.1) "java/lang/String", Jvm.Cond.eq (.field (.string q.1 q.2.1) "java/lang/String" "coder" "B") (.int 0), Jvm.Cond.arrayOf (.field (.string q.1 q.2.1) "java/lang/String" "value" "[B") .byte, Jvm.Cond.eq (.length (.field (.string q.1 q.2.1) "java/lang/String" "value" "[B")) (.int (Int32.ofNat bs.length))] ++ (List.range bs.length).map (fun j => Jvm.Cond.eq (.elem (.field (.string q.1 q.2.1) "java/lang/String" "value" "[B") (.int (Int32.ofNat j))) (.int (bs.getD j 0)))
theorem pj_sok_of {q : String × Nat × String} {bs : List Int32} {p n : Nat} (h1 : Jvm.Cond.stringRef q.1 q.2.1 q.2.2 ∈ lw_tbl) (h2 : (pj_fl.drop p).take n = pj_blk q bs) : pj_sok q bs := by
  have h3 : ∀ w ∈ pj_blk q bs, w ∈ pj_fl := fun w hw => List.mem_of_mem_drop (List.mem_of_mem_take (h2 ▸ hw))
  exact ⟨h1, h3 _ (by simp [pj_blk]), h3 _ (by simp [pj_blk]), h3 _ (by simp [pj_blk]), h3 _ (by simp [pj_blk]), fun j hj => h3 _ (List.mem_append_right _ (List.mem_map.mpr ⟨j, List.mem_range.mpr hj, rfl⟩))⟩
set_option maxRecDepth 100000 in
theorem pj_bk0 : (pj_fl.drop 72).take 43 = pj_blk ("BridgesAreLent", 147, "no such crossing, or nothing such of it") (pj_bytL.getD 0 []) := by decide +kernel
set_option maxRecDepth 100000 in
theorem pj_br0 : lw_tbl[1322]? = some (Jvm.Cond.stringRef "BridgesAreLent" 147 "no such crossing, or nothing such of it") := by decide +kernel
set_option maxRecDepth 100000 in
theorem pj_bk1 : (pj_fl.drop 120).take 41 = pj_blk ("BridgesAreLent", 174, "no such bridge, or nothing such of it") (pj_bytL.getD 1 []) := by decide +kernel
set_option maxRecDepth 100000 in
theorem pj_br1 : lw_tbl[1357]? = some (Jvm.Cond.stringRef "BridgesAreLent" 174 "no such bridge, or nothing such of it") := by decide +kernel
set_option maxRecDepth 100000 in
theorem pj_bk2 : (pj_fl.drop 167).take 41 = pj_blk ("BridgesAreLent", 194, "no such person, or nothing such of it") (pj_bytL.getD 2 []) := by decide +kernel
set_option maxRecDepth 100000 in
theorem pj_br2 : lw_tbl[1365]? = some (Jvm.Cond.stringRef "BridgesAreLent" 194 "no such person, or nothing such of it") := by decide +kernel
set_option maxRecDepth 100000 in
theorem pj_bk3 : (pj_fl.drop 215).take 30 = pj_blk ("BridgesAreLent", 421, "the row has no such number") (pj_bytL.getD 3 []) := by decide +kernel
set_option maxRecDepth 100000 in
theorem pj_br3 : lw_tbl[1373]? = some (Jvm.Cond.stringRef "BridgesAreLent" 421 "the row has no such number") := by decide +kernel
set_option maxRecDepth 100000 in
theorem pj_bk4 : (pj_fl.drop 60).take 8 = pj_blk ("BridgesAreLent$Day", 39, "tlch") (pj_bytL.getD 4 []) := by decide +kernel
set_option maxRecDepth 100000 in
theorem pj_br4 : lw_tbl[889]? = some (Jvm.Cond.stringRef "BridgesAreLent$Day" 39 "tlch") := by decide +kernel
set_option maxRecDepth 100000 in
theorem pj_bk5 : (pj_fl.drop 35).take 7 = pj_blk ("BridgesAreLent$Rule", 38, "<>=") (pj_bytL.getD 5 []) := by decide +kernel
set_option maxRecDepth 100000 in
theorem pj_br5 : lw_tbl[730]? = some (Jvm.Cond.stringRef "BridgesAreLent$Rule" 38 "<>=") := by decide +kernel
set_option maxRecDepth 100000 in
theorem pj_bk6 : (pj_fl.drop 43).take 6 = pj_blk ("BridgesAreLent$Rule", 40, "+-") (pj_bytL.getD 6 []) := by decide +kernel
set_option maxRecDepth 100000 in
theorem pj_br6 : lw_tbl[731]? = some (Jvm.Cond.stringRef "BridgesAreLent$Rule" 40 "+-") := by decide +kernel
set_option maxRecDepth 100000 in
theorem pj_bk7 : (pj_fl.drop 51).take 6 = pj_blk ("BridgesAreLent$Rule", 42, "*/") (pj_bytL.getD 7 []) := by decide +kernel
set_option maxRecDepth 100000 in
theorem pj_br7 : lw_tbl[732]? = some (Jvm.Cond.stringRef "BridgesAreLent$Rule" 42 "*/") := by decide +kernel
set_option maxRecDepth 100000 in
theorem pj_bk8 : (pj_fl.drop 24).take 11 = pj_blk ("BridgesAreLent$Rule", 79, "dulswbn") (pj_bytL.getD 8 []) := by decide +kernel
set_option maxRecDepth 100000 in
theorem pj_br8 : lw_tbl[615]? = some (Jvm.Cond.stringRef "BridgesAreLent$Rule" 79 "dulswbn") := by decide +kernel
set_option maxRecDepth 100000 in
theorem pj_bk9 : (pj_fl.drop 273).take 13 = pj_blk ("BridgesAreLentModel", 200, "123456789") (pj_bytL.getD 9 []) := by decide +kernel
set_option maxRecDepth 100000 in
theorem pj_br9 : lw_tbl[1626]? = some (Jvm.Cond.stringRef "BridgesAreLentModel" 200 "123456789") := by decide +kernel
set_option maxRecDepth 100000 in
theorem pj_bk10 : (pj_fl.drop 253).take 11 = pj_blk ("BridgesAreLentModel", 208, "2345678") (pj_bytL.getD 10 []) := by decide +kernel
set_option maxRecDepth 100000 in
theorem pj_br10 : lw_tbl[1585]? = some (Jvm.Cond.stringRef "BridgesAreLentModel" 208 "2345678") := by decide +kernel
set_option maxRecDepth 100000 in
theorem pj_bk11 : (pj_fl.drop 296).take 11 = pj_blk ("BridgesAreLentModel", 243, "dulswbn") (pj_bytL.getD 11 []) := by decide +kernel
set_option maxRecDepth 100000 in
theorem pj_br11 : lw_tbl[1667]? = some (Jvm.Cond.stringRef "BridgesAreLentModel" 243 "dulswbn") := by decide +kernel
set_option maxRecDepth 100000 in
theorem pj_bk12 : (pj_fl.drop 318).take 7 = pj_blk ("BridgesAreLentModel", 248, "<>=") (pj_bytL.getD 12 []) := by decide +kernel
set_option maxRecDepth 100000 in
theorem pj_br12 : lw_tbl[1668]? = some (Jvm.Cond.stringRef "BridgesAreLentModel" 248 "<>=") := by decide +kernel
set_option maxRecDepth 100000 in
theorem pj_bk13 : (pj_fl.drop 337).take 6 = pj_blk ("BridgesAreLentModel", 250, "+-") (pj_bytL.getD 13 []) := by decide +kernel
set_option maxRecDepth 100000 in
theorem pj_br13 : lw_tbl[1669]? = some (Jvm.Cond.stringRef "BridgesAreLentModel" 250 "+-") := by decide +kernel
set_option maxRecDepth 100000 in
theorem pj_bk14 : (pj_fl.drop 356).take 6 = pj_blk ("BridgesAreLentModel", 252, "*/") (pj_bytL.getD 14 []) := by decide +kernel
set_option maxRecDepth 100000 in
theorem pj_br14 : lw_tbl[1670]? = some (Jvm.Cond.stringRef "BridgesAreLentModel" 252 "*/") := by decide +kernel
set_option maxRecDepth 100000 in
theorem pj_bk15 : (pj_fl.drop 376).take 8 = pj_blk ("BridgesAreLentModel", 367, "tlch") (pj_bytL.getD 15 []) := by decide +kernel
set_option maxRecDepth 100000 in
theorem pj_br15 : lw_tbl[1808]? = some (Jvm.Cond.stringRef "BridgesAreLentModel" 367 "tlch") := by decide +kernel
theorem pj_sAll : ∀ k, k < 16 → pj_sok (pj_strs.getD k ("", 0, "")) (pj_bytL.getD k [])
  | 0, _ => pj_sok_of (List.mem_of_getElem? pj_br0) pj_bk0
  | 1, _ => pj_sok_of (List.mem_of_getElem? pj_br1) pj_bk1
  | 2, _ => pj_sok_of (List.mem_of_getElem? pj_br2) pj_bk2
  | 3, _ => pj_sok_of (List.mem_of_getElem? pj_br3) pj_bk3
  | 4, _ => pj_sok_of (List.mem_of_getElem? pj_br4) pj_bk4
  | 5, _ => pj_sok_of (List.mem_of_getElem? pj_br5) pj_bk5
  | 6, _ => pj_sok_of (List.mem_of_getElem? pj_br6) pj_bk6
  | 7, _ => pj_sok_of (List.mem_of_getElem? pj_br7) pj_bk7
  | 8, _ => pj_sok_of (List.mem_of_getElem? pj_br8) pj_bk8
  | 9, _ => pj_sok_of (List.mem_of_getElem? pj_br9) pj_bk9
  | 10, _ => pj_sok_of (List.mem_of_getElem? pj_br10) pj_bk10
  | 11, _ => pj_sok_of (List.mem_of_getElem? pj_br11) pj_bk11
  | 12, _ => pj_sok_of (List.mem_of_getElem? pj_br12) pj_bk12
  | 13, _ => pj_sok_of (List.mem_of_getElem? pj_br13) pj_bk13
  | 14, _ => pj_sok_of (List.mem_of_getElem? pj_br14) pj_bk14
  | 15, _ => pj_sok_of (List.mem_of_getElem? pj_br15) pj_bk15
  | k + 16, h => absurd h (by omega)
theorem pj_bytL_len : ∀ k, k < 16 → (pj_bytL.getD k []).length < 2 ^ 31 := by decide +kernel
theorem pj_ot1 : lw_tbl[629]? = some (Jvm.Cond.laysStatic "java/lang/String" "COMPACT_STRINGS" "Z") := by decide +kernel
theorem pj_ot2 : lw_tbl[101]? = some (Jvm.Cond.initialized "java/lang/String") := by decide +kernel
theorem pj_ot4 : lw_tbl[1310]? = some (Jvm.Cond.laysStatic Bundle.tN "UNASSIGNED_STACK" Bundle.steD) := by decide +kernel
theorem pj_ot5 : lw_tbl[1312]? = some (Jvm.Cond.laysStatic Bundle.tN "SUPPRESSED_SENTINEL" Bundle.listD) := by decide +kernel
theorem pj_ot6 : lw_tbl[106]? = some (Jvm.Cond.initialized Bundle.tN) := by decide +kernel
theorem pj_ot3 : pj_fl[4]? = some (Jvm.Cond.eq (.static "java/lang/String" "COMPACT_STRINGS" "Z") (.int 1)) := by decide +kernel
theorem pj_ot7 : pj_fl[9]? = some (Jvm.Cond.isRef (.static Bundle.tN "UNASSIGNED_STACK" Bundle.steD)) := by decide +kernel
theorem pj_ot8 : pj_fl[10]? = some (Jvm.Cond.isRef (.static Bundle.tN "SUPPRESSED_SENTINEL" Bundle.listD)) := by decide +kernel
section PJG
variable {s : State} {args : Array Value}
theorem pj_startK (hts : ∀ w ∈ lw_tbl, w.before args s = true) : ∃ (D : va_G) (cy : Nat → ClassId), va_K D vwCl (pj_tys cy) s := by
  have h0 : ∀ ci : Nat, ∃ z : ClassId × (Nat → Nat), ∀ q, pj_cls[ci]? = some q → u_Kn s q.1 q.2.1 q.2.2.1 z.1 z.2 := by
    intro ci
    cases hq : pj_cls[ci]? with
    | none => exact ⟨(0, fun _ => 0), fun q h => by cases h⟩
    | some q =>
      obtain ⟨c, iS, h⟩ := u_known (C := q.1) (T := q.2.1) (N := q.2.2.1) (n := q.2.2.1) hts (fun w hw => (List.mem_filter.mp (pj_cls_2 hq w hw)).1) (hts _ (pj_inst q (List.mem_of_getElem? hq)))
      exact ⟨(c, iS), fun q2 h2 => by cases h2; exact h⟩
  obtain ⟨z, hz⟩ := Classical.axiomOfChoice h0
  have harr : ∀ ty : FieldType, (Jvm.Cond.arrayClass ty).before args s = true → ∃ cA, ArrOfT s cA ty ∧ s.vm.findClass ("[" ++ ty.toString) = some cA := by
    intro ty h
    obtain ⟨cA, kA, comp, h1, h2, h3⟩ := Cond.arrayClass_spec h
    exact ⟨cA, fun n z => ⟨fun k h => (by cases h), kA, h2, comp, h3⟩, h1⟩
  obtain ⟨c0, a0, f0⟩ := harr .int (hts _ pj_arrw.1)
  obtain ⟨c1, a1, f1⟩ := harr .long (hts _ pj_arrw.2.1)
  obtain ⟨c2, a2, f2⟩ := harr .boolean (hts _ pj_arrw.2.2.1)
  obtain ⟨comp, c3, k3, g1, -, g3, g4, g5⟩ := Cond.arrayOver_spec (hts _ pj_arrw.2.2.2)
  refine ⟨(fun k => (z k).1, fun k => (z k).2), fun k => if k = 0 then c0 else if k = 1 then c1 else if k = 2 then c2 else c3, fun c q hq => ?_, fun k q hq => ?_⟩
  · rw [pj_cls_vw, List.getElem?_map] at hq
    obtain ⟨q2, h1, rfl⟩ := Option.map_eq_some_iff.mp hq
    exact hz c q2 h1
  · match k, hq with
    | 0, hq => cases hq; exact ⟨a0, f0⟩
    | 1, hq => cases hq; exact ⟨a1, f1⟩
    | 2, hq => cases hq; exact ⟨a2, f2⟩
    | 3, hq => cases hq; exact ⟨fun n z => ⟨fun k h => (by cases h), k3, g3, comp, g4⟩, k3, comp, g3, g4, g1, g5⟩
    | k + 4, hq => exact absurd hq (by simp [pj_tys])
/-- one String constant -/
theorem pj_start1 {own tx : String} {idx : Nat} {by_ : List Int32} (hlen : by_.length < 2 ^ 31) (href : (Jvm.Cond.stringRef own idx tx).before args s = true) (hex : (Jvm.Cond.exactly (.string own idx) "java/lang/String").before args s = true) (hco : (Jvm.Cond.eq (.field (.string own idx) "java/lang/String" "coder" "B") (.int 0)).before args s = true)
    (har : (Jvm.Cond.arrayOf (.field (.string own idx) "java/lang/String" "value" "[B") .byte).before args s = true) (hle : (Jvm.Cond.eq (.length (.field (.string own idx) "java/lang/String" "value" "[B")) (.int (Int32.ofNat by_.length))).before args s = true)
    (hel : ∀ j : Nat, j < by_.length → (Jvm.Cond.eq (.elem (.field (.string own idx) "java/lang/String" "value" "[B") (.int (Int32.ofNat j))) (.int (by_.getD j 0))).before args s = true) :
    ∃ z : Nat × Nat, vk_R own idx tx z.1 s ∧ va_O "java/lang/String" z.1 (fun q => s.heap.size ≤ q) s s.heap ∧ va_OF "java/lang/String" "coder" "B" (.int 0) z.1 (fun q => s.heap.size ≤ q) s s.heap ∧ va_OF "java/lang/String" "value" "[B" (.ref z.2) z.1 (fun q => s.heap.size ≤ q) s s.heap ∧ va_T .byte z.2 by_.length (fun j => .int (by_.getD j 0)) (fun q => s.heap.size ≤ q) s s.heap := by
  obtain ⟨adK, adV, h1, h2⟩ := vk_Sof (args := args) (s := s) (N := 1) (tm := fun _ => .string own idx) (len := [by_.length]) (byt := [by_]) (A := fun q => s.heap.size ≤ q) (fun i hi => by cases (show i = 0 by omega); exact hlen) (fun i _ => hex) (fun i _ => hco) (fun i _ => har) (fun i hi => by cases (show i = 0 by omega); exact hle) (fun i hi j hj => by cases (show i = 0 by omega); exact hel j hj) (fun i j hi hj hne => absurd (show i = j by omega) hne) (fun a ha => Nat.not_le.mpr ha)
  have h3 := h1.1 0 (by omega)
  exact ⟨(adK 0, adV 0), vk_R.of (by exact href) (by exact h2 0 (by omega)), h3.1, h3.2.1, h3.2.2.1, h3.2.2.2⟩
/-- all that stands outside -/
theorem pj_startO {b L : Nat} {xs : Nat → Int32} (hts : ∀ w ∈ lw_tbl, w.before args s = true) (hgv : (Jvm.Cond.and given_1 narrow_1).before args s = true) (hX : va_X b L xs s s.heap) (hbl : b < s.heap.size) : ∃ (sk adV : Nat → Nat), pj_O (b, sk) s.heap.size (L + 1) xs adV s s.heap := by
  have hfl := flat_of_before _ hgv
  have h0 : ∀ k : Nat, ∃ z : Nat × Nat, ∀ q, pj_strs[k]? = some q → vk_R q.1 q.2.1 q.2.2 z.1 s ∧ va_O "java/lang/String" z.1 (fun q => s.heap.size ≤ q) s s.heap ∧ va_OF "java/lang/String" "coder" "B" (.int 0) z.1 (fun q => s.heap.size ≤ q) s s.heap ∧ va_OF "java/lang/String" "value" "[B" (.ref z.2) z.1 (fun q => s.heap.size ≤ q) s s.heap ∧ va_T .byte z.2 (pj_byt k).length (fun j => .int ((pj_byt k).getD j 0)) (fun q => s.heap.size ≤ q) s s.heap := by
    intro k
    cases hq : pj_strs[k]? with
    | none => exact ⟨(0, 0), fun q h => by cases h⟩
    | some q =>
      have hk : k < 16 := (List.getElem?_eq_some_iff.mp hq).1
      have h1 := pj_sAll k hk
      have e1 : pj_strs.getD k ("", 0, "") = q := by rw [List.getD_eq_getElem?_getD, hq]; rfl
      rw [e1] at h1
      obtain ⟨w1, w2, w3, w4, w5, w6⟩ := h1
      obtain ⟨z, hz⟩ := pj_start1 (args := args) (pj_bytL_len k hk) (hts _ w1) (hfl _ w2) (hfl _ w3) (hfl _ w4) (hfl _ w5) (fun j hj => hfl _ (w6 j hj))
      rw [← pj_bytL_ok k hk] at hz
      exact ⟨z, fun q2 h2 => by cases h2; exact hz⟩
  obtain ⟨z, hz⟩ := Classical.axiomOfChoice h0
  have o1 := List.mem_of_getElem? pj_ot1
  have o2 := List.mem_of_getElem? pj_ot2
  have o3 := List.mem_of_getElem? pj_ot3
  have o4 := List.mem_of_getElem? pj_ot4
  have o5 := List.mem_of_getElem? pj_ot5
  have o6 := List.mem_of_getElem? pj_ot6
  have o7 := List.mem_of_getElem? pj_ot7
  have o8 := List.mem_of_getElem? pj_ot8
  have hA : ∀ a : Nat, a < s.heap.size → ¬ s.heap.size ≤ a := fun a ha => Nat.not_le.mpr ha
  exact ⟨fun k => (z k).1, fun k => (z k).2, ⟨fun n hn => by cases hn; exact hX, hbl⟩, fun k q hq => hz k q hq, va_Zof (hts _ o1) (hts _ o2) (va_eqi (hfl _ o3)) hA, vx_Zqof (hts _ o4) (hts _ o6) (hfl _ o7) hA, vx_Zqof (hts _ o5) (hts _ o6) (hfl _ o8) hA⟩
end PJG
end
section
def pj_lokf (q : pj_I) : Bool := decide (decode pj_law.2.1 q.1 = .ok (q.2.1, q.2.2.1)) && pj_ok pj_prog pj_law.1.cls (decide (pj_law.1.name = "<init>")) q.1 q.2.1 q.2.2.1 q.2.2.2.1 q.2.2.2.2
theorem pj_chunk {α : Type} {l : List α} {f : α → Bool} {k : Nat} (n : Nat) (h : ((l.drop k).take n).all f = true) (h2 : (l.drop (k + n)).all f = true) : (l.drop k).all f = true := by
  rw [← List.take_append_drop n (l.drop k), List.all_append, List.drop_drop, h, h2]
  rfl
set_option maxRecDepth 100000 in
theorem pj_lok0 : ((pj_law.2.2.2.2.2.drop 0).take 61).all pj_lokf = true := by decide +kernel
set_option maxRecDepth 100000 in
theorem pj_lok61 : ((pj_law.2.2.2.2.2.drop 61).take 61).all pj_lokf = true := by decide +kernel
set_option maxRecDepth 100000 in
theorem pj_lok122 : ((pj_law.2.2.2.2.2.drop 122).take 61).all pj_lokf = true := by decide +kernel
set_option maxRecDepth 100000 in
theorem pj_lok183 : ((pj_law.2.2.2.2.2.drop 183).take 61).all pj_lokf = true := by decide +kernel
set_option maxRecDepth 100000 in
theorem pj_lok244 : ((pj_law.2.2.2.2.2.drop 244).take 61).all pj_lokf = true := by decide +kernel
set_option maxRecDepth 100000 in
theorem pj_lok305 : ((pj_law.2.2.2.2.2.drop 305).take 61).all pj_lokf = true := by decide +kernel
set_option maxRecDepth 100000 in
theorem pj_lok366 : ((pj_law.2.2.2.2.2.drop 366).take 61).all pj_lokf = true := by decide +kernel
set_option maxRecDepth 100000 in
theorem pj_lok427 : ((pj_law.2.2.2.2.2.drop 427).take 61).all pj_lokf = true := by decide +kernel
set_option maxRecDepth 100000 in
theorem pj_lok488 : ((pj_law.2.2.2.2.2.drop 488).take 61).all pj_lokf = true := by decide +kernel
set_option maxRecDepth 100000 in
theorem pj_lok549 : ((pj_law.2.2.2.2.2.drop 549).take 61).all pj_lokf = true := by decide +kernel
set_option maxRecDepth 100000 in
theorem pj_lok610 : ((pj_law.2.2.2.2.2.drop 610).take 61).all pj_lokf = true := by decide +kernel
set_option maxRecDepth 100000 in
theorem pj_lok671 : ((pj_law.2.2.2.2.2.drop 671).take 61).all pj_lokf = true := by decide +kernel
set_option maxRecDepth 100000 in
theorem pj_lok732 : ((pj_law.2.2.2.2.2.drop 732).take 61).all pj_lokf = true := by decide +kernel
set_option maxRecDepth 100000 in
theorem pj_lok793 : ((pj_law.2.2.2.2.2.drop 793).take 61).all pj_lokf = true := by decide +kernel
set_option maxRecDepth 100000 in
theorem pj_lok854 : ((pj_law.2.2.2.2.2.drop 854).take 61).all pj_lokf = true := by decide +kernel
set_option maxRecDepth 100000 in
theorem pj_lok915 : ((pj_law.2.2.2.2.2.drop 915).take 61).all pj_lokf = true := by decide +kernel
theorem pj_lokz : (pj_law.2.2.2.2.2.drop 976).all pj_lokf = true := by decide +kernel
theorem pj_law_all : (pj_law.2.2.2.2.2.drop 0).all pj_lokf = true := (pj_chunk 61 pj_lok0 (pj_chunk 61 pj_lok61 (pj_chunk 61 pj_lok122 (pj_chunk 61 pj_lok183 (pj_chunk 61 pj_lok244 (pj_chunk 61 pj_lok305 (pj_chunk 61 pj_lok366 (pj_chunk 61 pj_lok427 (pj_chunk 61 pj_lok488 (pj_chunk 61 pj_lok549 (pj_chunk 61 pj_lok610 (pj_chunk 61 pj_lok671 (pj_chunk 61 pj_lok732 (pj_chunk 61 pj_lok793 (pj_chunk 61 pj_lok854 (pj_chunk 61 pj_lok915 pj_lokz))))))))))))))))
theorem pj_law_pl : plainName pj_law.1.cls = true := by decide +kernel
theorem pj_law_ok : pj_okR pj_prog pj_law = true := by
  unfold pj_okR
  rw [pj_law_pl, Bool.true_and]
  exact pj_law_all
end
section
/-! THE CLAIM OUT OF ONE WALK OF THE LAW'S BODY. Your part is whole_start (and what it stands on); all else here is the same for every law, but numbers. -/
def R_law : String := "BridgesAreLentLaw"
def lw_P (b : Addr) (xs : List Int32) (args : Array Value) (s : State) : Prop := args = #[.ref b] ∧ s.IntsAt b xs ∧ xs.length ≤ 5 ∧ (Jvm.Cond.and given_1 narrow_1).before args s = true
def lw_Q (_ : Array Value) (s : State) (o : Outcome) (t : State) : Prop := o = .returned (some (.int 1)) ∧ Framed s o t [] 600002 7302232
def lw_Z (below : List Frame) (a : Array Value) (s : State) : State → Prop := fun t => ∃ o, t.status = .running ∧ Ended t below o ∧ lw_Q a s o t
/-- the law's own end, with 1 on the stack, nothing written that was there before, its room as the claim has it -/
theorem lw_ret {p : Program} {l : Launch} {e : Env} {s : State} {m : MethodId} {below : List Frame} {meth : Method} {c : Code} {b : Nat} (hx : p.tables.exec = Jvm.exec) (hb : c.code = code) (hr : meth.sig.returnType = ret) (hlocks : meth.locks = false) {pc : Nat} {H : Heap} {ls : Array Slot} (hdg : decode code pc = .ok (.ireturn, 1)) : W p l e room_1 s m #[Value.ref b] below meth c H [] 600002 7302232 (lw_Z below #[Value.ref b] s) (F0 m pc ls [.int 1]) := by
  intro T hT X
  obtain ⟨fs, hret, hrun, hended, hW, hframe⟩ := X.leave (v := some (.int 1)) (hlocks := hlocks) (fun h => by rw [hr] at h; cases h)
  have hmeth' : T.vm.method? m = some meth := X.method'
  refine ⟨T.setFrames fs, ?_, .returned (some (.int 1)), hrun, hended, rfl, ⟨_, rfl⟩, hW, hframe⟩
  jvm_step X.here [X.here.top, hx, hb, hdg, hmeth', hr, ret, narrow_b1]
  (try refine ⟨rfl, ?_⟩); (try refine ⟨rfl, ?_⟩)
  first | (intro acts; rw [hret _ acts rfl rfl rfl]) | rw [hret _ _ rfl rfl rfl]
  exact Steps.refl _
/-- what holds at the law's entry: the machine, the code, the tables' words (any of lw_tbl by 'hts w (by decide +kernel)'), the script of L ints xs at the cell b, what the Statement gives of the start (any of its parts by flat_of_before) -/
def lw_At (p : Program) (s : State) (m : MethodId) (meth : Method) (c : Code) (b L : Nat) (xs : Nat → Int32) : Prop :=
  p.tables.exec = Jvm.exec ∧ c.code = code ∧ meth.sig.returnType = ret ∧ c.maxLocals = 8 ∧ s.vm.findClass R_law = some m.cls ∧ (∀ w ∈ lw_tbl, w.before #[Value.ref b] s = true) ∧ va_X b L xs s s.heap ∧ b < s.heap.size ∧ meth.locks = false ∧ (Jvm.Cond.and given_1 narrow_1).before #[Value.ref b] s = true

/-- the law's calls of its helpers: where the callee throws -/
def pj_hx0 (f a : Nat) (p0 p1 : Int32) (G : pj_G) : Prop := (∃ fs, pj_get G a = some (.inr (11, fs))) ∧ ∃ L', pj_to (pj_exec pj_prog pj_nat f 998) 0 pj_x0 pj_m123 20 f (G, 0, lv_args 0 [.ref a, .int p0, .int p1], [], 0, 0) = some (G, 20, L', [], 0, 0)
def pj_hx1 (f a : Nat) (p0 p1 : Int32) (G : pj_G) : Prop := (∃ fs, pj_get G a = some (.inr (11, fs))) ∧ ∃ L', pj_to (pj_exec pj_prog pj_nat f 998) 0 pj_x0 pj_m124 20 f (G, 0, lv_args 0 [.ref a, .int p0, .int p1], [], 0, 0) = some (G, 20, L', [], 0, 0)
def pj_hx2 (f a : Nat) (p0 p1 : Int32) (G : pj_G) : Prop := (∃ fs, pj_get G a = some (.inr (11, fs))) ∧ ∃ L', pj_to (pj_exec pj_prog pj_nat f 998) 0 pj_x0 pj_m125 20 f (G, 0, lv_args 0 [.ref a, .int p0, .int p1], [], 0, 0) = some (G, 20, L', [], 0, 0)
def pj_hx3 (f a : Nat) (p0 : Int32) (G : pj_G) : Prop := (∃ fs, pj_get G a = some (.inr (11, fs))) ∧ ∃ L', pj_to (pj_exec pj_prog pj_nat f 998) 0 pj_x0 pj_m160 15 f (G, 0, lv_args 0 [.ref a, .int p0], [], 0, 0) = some (G, 15, L', [], 0, 0)
noncomputable def pj_hcl (f j : Nat) (vs : List Value) (G : pj_G) : pj_V := match j with
  | 0 => (match vs with
    | [.ref a, .int p0, .int p1, .ref _] => @ite pj_V (pj_hx0 f a p0 p1 G) (Classical.propDecidable _) (some (some (.int 1), (G.1, false), 1, 6)) none
    | _ => none)
  | 1 => (match vs with
    | [.ref a, .int p0, .int p1, .ref _] => @ite pj_V (pj_hx1 f a p0 p1 G) (Classical.propDecidable _) (some (some (.int 1), (G.1, false), 1, 6)) none
    | _ => none)
  | 2 => (match vs with
    | [.ref a, .int p0, .int p1, .ref _] => @ite pj_V (pj_hx2 f a p0 p1 G) (Classical.propDecidable _) (some (some (.int 1), (G.1, false), 1, 6)) none
    | _ => none)
  | 3 => (match vs with
    | [.ref a, .int p0, .ref _] => @ite pj_V (pj_hx3 f a p0 G) (Classical.propDecidable _) (some (some (.int 1), (G.1, false), 1, 6)) none
    | _ => none)
  | _ => none
noncomputable def pj_lc (f : Nat) : pj_F := fun mi vs G => if mi < 1000 then pj_exec pj_prog pj_nat f 1000 mi vs G else pj_hcl f (mi - 1000) vs G
theorem pj_lc_hi (f j : Nat) (vs : List Value) (G : pj_G) : pj_lc f (1000 + j) vs G = pj_hcl f j vs G := by
  unfold pj_lc
  rw [if_neg (by omega), Nat.add_sub_cancel_left]
theorem pj_lc_lo {f mi : Nat} (h : mi < 1000) (vs : List Value) (G : pj_G) : pj_lc f mi vs G = pj_exec pj_prog pj_nat f 1000 mi vs G := if_pos h
theorem pj_hcl_s {f j : Nat} {vs : List Value} {G G' : pj_G} {v : Option Value} {dc ds : Nat} (h : pj_hcl f j vs G = some (v, G', dc, ds)) : v = some (.int 1) ∧ G' = (G.1, false) ∧ dc = 1 ∧ ds = 6 ∧ ((j = 0 ∧ ∃ a o p0 p1, vs = [.ref a, .int p0, .int p1, .ref o] ∧ pj_hx0 f a p0 p1 G) ∨ (j = 1 ∧ ∃ a o p0 p1, vs = [.ref a, .int p0, .int p1, .ref o] ∧ pj_hx1 f a p0 p1 G) ∨ (j = 2 ∧ ∃ a o p0 p1, vs = [.ref a, .int p0, .int p1, .ref o] ∧ pj_hx2 f a p0 p1 G) ∨ (j = 3 ∧ ∃ a o p0, vs = [.ref a, .int p0, .ref o] ∧ pj_hx3 f a p0 G)) := by
  unfold pj_hcl at h
  split at h
  · split at h
    · rename_i a p0 p1 o
      by_cases hh : pj_hx0 f a p0 p1 G
      · rw [if_pos hh] at h
        cases h
        exact ⟨rfl, rfl, rfl, rfl, Or.inl ⟨rfl, a, o, p0, p1, rfl, hh⟩⟩
      · rw [if_neg hh] at h
        cases h
    · cases h
  · split at h
    · rename_i a p0 p1 o
      by_cases hh : pj_hx1 f a p0 p1 G
      · rw [if_pos hh] at h
        cases h
        exact ⟨rfl, rfl, rfl, rfl, Or.inr (Or.inl ⟨rfl, a, o, p0, p1, rfl, hh⟩)⟩
      · rw [if_neg hh] at h
        cases h
    · cases h
  · split at h
    · rename_i a p0 p1 o
      by_cases hh : pj_hx2 f a p0 p1 G
      · rw [if_pos hh] at h
        cases h
        exact ⟨rfl, rfl, rfl, rfl, Or.inr (Or.inr (Or.inl ⟨rfl, a, o, p0, p1, rfl, hh⟩))⟩
      · rw [if_neg hh] at h
        cases h
    · cases h
  · split at h
    · rename_i a p0 o
      by_cases hh : pj_hx3 f a p0 G
      · rw [if_pos hh] at h
        cases h
        exact ⟨rfl, rfl, rfl, rfl, Or.inr (Or.inr (Or.inr (⟨rfl, a, o, p0, rfl, hh⟩)))⟩
      · rw [if_neg hh] at h
        cases h
    · cases h
  · cases h
theorem pj_lc_gd (f : Nat) (mi : Nat) (vs : List Value) (G : pj_G) (v : Option Value) (G' : pj_G) (dc ds : Nat) (h : pj_lc f mi vs G = some (v, G', dc, ds)) : pj_gd G G' dc := by
  by_cases hm : mi < 1000
  · rw [pj_lc_lo hm] at h
    exact pj_exec_gd pj_nat_gd 1000 mi vs G v G' dc ds h
  · have e1 : mi = 1000 + (mi - 1000) := by omega
    rw [e1, pj_lc_hi] at h
    obtain ⟨-, rfl, -, -, -⟩ := pj_hcl_s h
    intro z
    cases z
theorem pj_prog_len : pj_prog.length ≤ 1000 := by decide +kernel
theorem pj_flags {l : Launch} (hfl : l.flags = flags0) : l.stackTraces = false := by
  unfold Launch.stackTraces
  rw [hfl]
  decide +kernel
set_option maxHeartbeats 4000000 in
/-- THE LAW out of its pure run -/
theorem pj_law_snd {p : Program} {e : Env} {s : State} {m : MethodId} {below : List Frame} {meth : Method} {c : Code} (l : Launch) (hfl : l.flags = flags0) {b L : Nat} {xs : Nat → Int32} (C0 : lw_At p s m meth c b L xs) {f : Nat} {G' : pj_G} {mc ms : Nat} (hrun : pj_run (pj_lc f) (L + 1) xs pj_law f (([], true), 0, [(0, .ref 0)], [], 0, 0) = some (some (.int 1), G', mc, ms)) (hmc : mc ≤ 600002) (hms : ms ≤ 7302232) :
    W p l e room_1 s m #[Value.ref b] below meth c s.heap [] 0 0 (lw_Z below #[Value.ref b] s) (entryFrame m ([Value.ref b] : List Value).toArray 8) := by
  obtain ⟨hx, hb, hr, hml, hown, hts, hX, hbl, hlocks, hgv⟩ := C0
  obtain ⟨D, cy, hK⟩ := pj_startK hts
  obtain ⟨sk, adV, hO⟩ := pj_startO hts hgv hX hbl
  have hts' : ∀ w ∈ pj_all, w.before #[Value.ref b] s = true := fun w hw => hts w (List.mem_filter.mp hw).1
  have hl0 := lv_entry ([.ref b]) (n := 8) (Nat.le_of_ble_eq_true rfl)
  rw [lg_entry_eq]
  generalize (lg_sl ([.ref b]) ++ List.replicate (8 - (lg_sl ([.ref b])).length) Slot.unset).toArray = ls at hl0 ⊢
  have hl1 : lv_has ls 8 (pj_l (pj_ad (b, sk) s.heap.size) [(0, .ref 0)]) := hl0
  have hst := pj_flags hfl
  have key := pj_run_snd (p := p) (l := l) (e := e) (R := room_1) (s := s) (m := m) (args := #[Value.ref b]) (below := below) (meth := meth) (c := c) (Q := lw_Z below #[Value.ref b] s) (b := (b, sk)) (base := s.heap.size) (cy := cy) (D := D) (n0 := L + 1) (xs := xs) (adV := adV) (d := 1000) (call := pj_lc f) (P := pj_prog) (M := pj_law) (nL := 8) (v := some (.int 1)) (G' := G') (mc := mc) (ms := ms) rfl pj_law_ok ⟨⟨hx, hb, hml, hown, hts'⟩, hK, hO, Nat.le_refl _⟩ (fun z => absurd z (by decide)) pj_prog_len
    (fun mi vs G v G2 dc ds hm h => by
      rw [pj_lc_lo hm] at h
      exact pj_exec_snd pj_prog_len pj_prog_ok pj_nat_gd pj_nat_met 1000 mi vs G v G2 dc ds h)
    (fun j vs G v G2 dc ds h => by
      rw [pj_lc_hi] at h
      obtain ⟨rfl, rfl, rfl, rfl, hh⟩ := pj_hcl_s h
      rcases hh with ⟨rfl, a, o, p0, p1, rfl, ⟨fs, hg⟩, L9, hr9⟩ | ⟨rfl, a, o, p0, p1, rfl, ⟨fs, hg⟩, L9, hr9⟩ | ⟨rfl, a, o, p0, p1, rfl, ⟨fs, hg⟩, L9, hr9⟩ | ⟨rfl, a, o, p0, rfl, ⟨fs, hg⟩, L9, hr9⟩
      · exact ⟨_, rfl, pj_hp0 (d := 998) hst pj_nat_gd pj_nat_met (by decide) hg hr9⟩
      · exact ⟨_, rfl, pj_hp1 (d := 998) hst pj_nat_gd pj_nat_met (by decide) hg hr9⟩
      · exact ⟨_, rfl, pj_hp2 (d := 998) hst pj_nat_gd pj_nat_met (by decide) hg hr9⟩
      · exact ⟨_, rfl, pj_hp3 (d := 998) hst pj_nat_gd pj_nat_met (by decide) hg hr9⟩)
    (pj_lc_gd f) (by decide) (by decide) hmc hms ?_ f _ hrun (fun _ => rfl) ls hl1
  · exact key s.heap [] (fun k q h => by simp [pj_w] at h) va_S.rf
  · intro pc i L2 S ls2 hdg hrt hl2 H locs hP1 hS1
    cases i
    case ireturn =>
      have hr3 : pj_rt (some .boolean) .ireturn S = some (some (Value.int 1)) := hrt
      simp only [pj_rt] at hr3
      split at hr3
      · split at hr3
        · cases hr3
          refine va_forget (fun q hq => hS1.2.2 q hq) ?_
          refine W.widen (k := 600002) (n := 7302232) hmc hms ?_
          exact lw_ret hx hb hr hlocks hdg
        · cases hr3
      · cases hr3
    case lreturn =>
      simp only [pj_rt] at hrt
      split at hrt
      · cases hrt
      · cases hrt
    case areturn =>
      simp only [pj_rt] at hrt
      split at hrt
      · cases hrt
      · cases hrt
      · cases hrt
    case return_ =>
      simp only [pj_rt] at hrt
      split at hrt
      · cases hrt
      · cases hrt
    all_goals cases (show (none : Option (Option Value)) = some (some (Value.int 1)) from hrt)
end
section
theorem pj_pure (L : Nat) (hL : L ≤ 5) (xs : Nat → Int32) : ∃ (f : Nat) (G' : pj_G) (mc ms : Nat), pj_run (pj_lc f) (L + 1) xs pj_law f (([], true), 0, [(0, .ref 0)], [], 0, 0) = some (some (.int 1), G', mc, ms) ∧ mc ≤ 600002 ∧ ms ≤ 7302232 := by
  sorry
end
section
/-- THE LAW, from its entry -/
theorem whole_start {p : Program} {e : Env} {s : State} {m : MethodId} {below : List Frame} {meth : Method} {c : Code} (l : Launch) (hfl : l.flags = flags0) {b L : Nat} {xs : Nat → Int32} (hL : L ≤ 5) (C0 : lw_At p s m meth c b L xs) : W p l e room_1 s m #[Value.ref b] below meth c s.heap [] 0 0 (lw_Z below #[Value.ref b] s) (entryFrame m ([Value.ref b] : List Value).toArray 8) := by
  obtain ⟨f, G', mc, ms, h1, h2, h3⟩ := pj_pure L hL xs
  exact pj_law_snd l hfl C0 h1 h2 h3
-- ===== YOUR PART ENDS =====
set_option maxHeartbeats 4000000 in
theorem lw_walk (l : Launch) (hfl : l.flags = flags0) (b : Addr) (xs : List Int32) : MetFree l x (headSpec (Jvm.Cond.code x code maxLocals ret :: tables_1) room_1) (lw_P b xs) (fun _ _ _ _ _ => True) lw_Q := by
  refine MetFree.of_bodyS (code := code) (maxLocals := maxLocals) (ret := ret) (by decide) ?_ ?_
  · intro args s m h hn
    obtain ⟨meth, c, h1, h2, h3, h4, h5, h6, -, -⟩ := Cond.code_spec hn (atoms_spec (ws := Jvm.Cond.code x code maxLocals ret :: tables_1) h _ List.mem_cons_self)
    exact ⟨meth, c, h1, h2, h3, h4, h5, h6⟩
  · intro p e s m args below meth c s₁ B hml0 hP _
    obtain ⟨rfl, hx, hbd, hgv⟩ := hP
    obtain ⟨scr, harrAt, hlist, hof, hsmall⟩ := hx
    obtain ⟨hcb, hkn, -, -⟩ := State.arrayAt?_spec harrAt
    have hown : s.vm.findClass R_law = some m.cls := findClass_of_methodNamed B.named
    have hts0 : ∀ c ∈ (Jvm.Cond.code x code maxLocals ret :: tables_1), c.before #[Value.ref b] s = true := atoms_spec (ws := Jvm.Cond.code x code maxLocals ret :: tables_1) B.pre
    have hts : ∀ w ∈ lw_tbl, w.before #[Value.ref b] s = true := k2_hts_sels lw_privs (fun w hw => hts0 w (List.mem_cons_of_mem _ hw)) lw_privs_ok
    have hml : c.maxLocals = 8 := B.maxLocals_eq (hts0 _ List.mem_cons_self)
    have X₀ : Stand p l e room_1 s m #[Value.ref b] below meth c s₁ [] 0 0 := Stand.of_body B
    have hh0 : s₁.heap = s.heap := by rw [B.state]; rfl
    have hsz : scr.slots.size = xs.length := by rw [← Array.length_toList, hlist, List.length_map]
    have hval : ∀ j : Nat, j < xs.length → scr.slots[j]? = some (.int (xs.getD j 0)) := fun j hj => by
      rw [← Array.getElem?_toList, hlist]
      simp [hj]
    have hbl : b < s.heap.size := (Array.getElem?_eq_some_iff.mp hcb).1
    have hX : va_X b xs.length (fun j => xs.getD j 0) s s.heap := ⟨scr, hcb, hof, hkn, hsz, hval⟩
    have K : W p l e room_1 s m #[Value.ref b] below meth c s₁.heap [] 0 0 (lw_Z below #[Value.ref b] s) (entryFrame m ([Value.ref b] : List Value).toArray 8) := by
      rw [hh0]
      exact whole_start l hfl hbd ⟨B.exec, B.bytes, B.returns, hml, hown, hts, hX, hbl, B.notSynchronized, hgv⟩
    obtain ⟨t, a1, o, b1, b2, b3⟩ := K s₁ rfl X₀
    exact ⟨t, o, a1, b1, b2, b3⟩
theorem lw_pre_spec {args : Array Value} {s : State} (h : (Jvm.Cond.and given_1 narrow_1).before args s = true) (hr : rest_1_c.before args s = true) : ∃ (b : Addr) (xs : List Int32), lw_P b xs args s := by
  have hs := flat_of_before _ h
  have hq := flat_of_before _ hr
  have hc : (Cond.count 1).before args s = true := hs _ (by decide +kernel)
  have harr : (Cond.arrayOf (.arg 0) .int).before args s = true := hs _ (by decide +kernel)
  have hle : (Cond.le (.length (.arg 0)) (.int 5)).before args s = true := hs _ (by decide +kernel)
  have hlen : (Cond.isInt (.length (.arg 0))).before args s = true := hq _ (by decide +kernel)
  have hall : (Cond.all (.arg 0) (.isInt (.elem (.arg 0) (.index 0)))).before args s = true := hq _ (by decide +kernel)
  obtain ⟨b, xs, hb, hx⟩ := State.ints_of_pre rfl harr hlen hall
  have hsm : xs.length < 2 ^ 31 := hx.choose_spec.2.2.2
  have hev : (Term.length (.arg 0)).eval args s none [] s = some (.int xs.length.toInt32) := hx.length_eval hb
  have hv := Cond.le_ints hev (show (Term.int 5).eval args s none [] s = some (.int 5) from rfl)
  have hd : xs.length.toInt32 ≤ 5 := by
    simpa [Cond.before, Cond.holds, hv] using hle
  have hN : xs.length ≤ 5 := (Int32.ofNat_le_ofNat hsm (by decide)).mp (show Int32.ofNat xs.length ≤ Int32.ofNat 5 from hd)
  exact ⟨b, xs, Cond.one_arg hc (show args[0]? = some (.ref b) from hb), hx, hN, h⟩
theorem lw_comes (l : Launch) (hfl : l.flags = flags0) : Comes l x (Jvm.Cond.code x code maxLocals ret :: tables_1) room_1 (fun tb e args s => Calls_1 tb e args s ∧ rest_1 tb e args s ∧ Pre_1 tb e args s)
    (fun _ _ args s o t => lw_Q args s o t) := by
  intro p e ha hc hk s m args below hf hfit hheap happ hpre
  obtain ⟨b, xs, hP⟩ := lw_pre_spec hpre.2.2 hpre.2.1
  obtain ⟨k, o, h1, h2, h3, hQ⟩ := lw_walk l hfl b xs p e ha hc hk s m args below hf ((Spec.applies_iff_loose hf).mp happ).1 hP trivial
  exact ⟨k, o, h1, h2, h3, hQ⟩
theorem lw_frame {s t : State} {o : Outcome} {args : Array Value} (h : Framed s o t [] 600002 7302232) :
    Framed s o t (fieldLocs frame_1_writes args s ++ arrayLocs frame_1_arrays args s ++ staticLocs frame_1_statics s) 600002 7302232 := h
theorem lw_limb (L : Cond) (hL : ∀ (args : Array Value) (s t : State), L.after args s (.returned (some (.int 1))) t = true) :
    ArmFor flags0 classFile x code maxLocals ret World_1 tables_1 room_1 Calls_1 rest_1 Pre_1
      (fun tb e a s o t => postC L tb e a s o t ∧ Framed s o t (fieldLocs frame_1_writes a s ++ arrayLocs frame_1_arrays a s ++ staticLocs frame_1_statics s) 600002 7302232) := by
  intro l hfl _ _ p e ha hc hk s m args below hf hfit hheap happ hpre
  obtain ⟨k, o, h1, h2, h3, rfl, hF⟩ := lw_comes l hfl p e ha hc hk s m args below hf hfit hheap happ hpre
  exact ⟨k, _, h1, h2, h3, hL args s _, lw_frame hF⟩
theorem i_vc : Claimed_1_1 ∧ Claimed_1_2 := ⟨lw_limb limb_1_1 (fun args s t => by simp [limb_1_1, Cond.after, Cond.holds, Cond.value]), lw_limb limb_1_2 (fun args s t => Cond.after_iff.mpr (by
  first | (rw [show limb_1_2 = Cond.eq .result (.int 1) from rfl, Cond.eq_ints (x := 1) (y := 1) rfl rfl]; simp; done) | (simp [limb_1_2, Cond.value, Term.eval]; done)))⟩
end
