section
-- ===== PART A: goes FIRST, ahead of the names: the tables' words, and 'selects' of the private methods out of them =====
/-- a private method of a class that the tables say can be made, by its rows of tables_1 -/
def lw_okq (q : MethodName × Nat) : Prop := (q.1.cls ≠ "java/lang/invoke/MethodHandle" ∧ q.1.cls ≠ "java/lang/invoke/VarHandle") ∧ Cond.instantiable q.1.cls q.2 ∈ tables_1 ∧ Cond.privateMethod q.1 ∈ tables_1 ∧ Cond.instanceMethod q.1 ∈ tables_1
theorem lw_p0 : lw_okq (⟨"BridgesAreLent", "forgetPastIf", "(Z)V"⟩, 8) := ⟨⟨by decide +kernel, by decide +kernel⟩, List.mem_of_getElem? (i := 27) (by decide +kernel), List.mem_of_getElem? (i := 487) (by decide +kernel), List.mem_of_getElem? (i := 488) (by decide +kernel)⟩
theorem lw_p1 : lw_okq (⟨"BridgesAreLent$Rule", "readLevel", "(LBridgesAreLent$Text;II)V"⟩, 5) := ⟨⟨by decide +kernel, by decide +kernel⟩, List.mem_of_getElem? (i := 189) (by decide +kernel), List.mem_of_getElem? (i := 510) (by decide +kernel), List.mem_of_getElem? (i := 511) (by decide +kernel)⟩
theorem lw_p2 : lw_okq (⟨"BridgesAreLent$Rule", "readSigned", "(LBridgesAreLent$Text;I)V"⟩, 5) := ⟨⟨by decide +kernel, by decide +kernel⟩, List.mem_of_getElem? (i := 189) (by decide +kernel), List.mem_of_getElem? (i := 514) (by decide +kernel), List.mem_of_getElem? (i := 515) (by decide +kernel)⟩
theorem lw_p3 : lw_okq (⟨"BridgesAreLent$Rule", "readThing", "(LBridgesAreLent$Text;I)V"⟩, 5) := ⟨⟨by decide +kernel, by decide +kernel⟩, List.mem_of_getElem? (i := 189) (by decide +kernel), List.mem_of_getElem? (i := 519) (by decide +kernel), List.mem_of_getElem? (i := 520) (by decide +kernel)⟩
theorem lw_p4 : lw_okq (⟨"BridgesAreLent$Rule", "emit", "(I)V"⟩, 5) := ⟨⟨by decide +kernel, by decide +kernel⟩, List.mem_of_getElem? (i := 189) (by decide +kernel), List.mem_of_getElem? (i := 525) (by decide +kernel), List.mem_of_getElem? (i := 526) (by decide +kernel)⟩
theorem lw_p5 : lw_okq (⟨"BridgesAreLent$Valley", "placeOf", "(I)I"⟩, 9) := ⟨⟨by decide +kernel, by decide +kernel⟩, List.mem_of_getElem? (i := 75) (by decide +kernel), List.mem_of_getElem? (i := 698) (by decide +kernel), List.mem_of_getElem? (i := 699) (by decide +kernel)⟩
theorem lw_p6 : lw_okq (⟨"BridgesAreLent$Valley", "comeNearer", "()V"⟩, 9) := ⟨⟨by decide +kernel, by decide +kernel⟩, List.mem_of_getElem? (i := 75) (by decide +kernel), List.mem_of_getElem? (i := 771) (by decide +kernel), List.mem_of_getElem? (i := 772) (by decide +kernel)⟩
theorem lw_p7 : lw_okq (⟨"BridgesAreLent$Valley", "endLoans", "()V"⟩, 9) := ⟨⟨by decide +kernel, by decide +kernel⟩, List.mem_of_getElem? (i := 75) (by decide +kernel), List.mem_of_getElem? (i := 775) (by decide +kernel), List.mem_of_getElem? (i := 776) (by decide +kernel)⟩
theorem lw_p8 : lw_okq (⟨"BridgesAreLent$Day", "readAct", "(LBridgesAreLent$Text;I)V"⟩, 4) := ⟨⟨by decide +kernel, by decide +kernel⟩, List.mem_of_getElem? (i := 320) (by decide +kernel), List.mem_of_getElem? (i := 800) (by decide +kernel), List.mem_of_getElem? (i := 801) (by decide +kernel)⟩
theorem lw_p9 : lw_okq (⟨"BridgesAreLent$Day", "doesAct", "(LBridgesAreLent$Valley;I)Z"⟩, 4) := ⟨⟨by decide +kernel, by decide +kernel⟩, List.mem_of_getElem? (i := 320) (by decide +kernel), List.mem_of_getElem? (i := 814) (by decide +kernel), List.mem_of_getElem? (i := 815) (by decide +kernel)⟩
theorem lw_p10 : lw_okq (⟨"BridgesAreLent$Valley", "canMove", "(II)Z"⟩, 9) := ⟨⟨by decide +kernel, by decide +kernel⟩, List.mem_of_getElem? (i := 75) (by decide +kernel), List.mem_of_getElem? (i := 907) (by decide +kernel), List.mem_of_getElem? (i := 908) (by decide +kernel)⟩
theorem lw_p11 : lw_okq (⟨"BridgesAreLent$Valley", "openWithMove", "(IIII)I"⟩, 9) := ⟨⟨by decide +kernel, by decide +kernel⟩, List.mem_of_getElem? (i := 75) (by decide +kernel), List.mem_of_getElem? (i := 911) (by decide +kernel), List.mem_of_getElem? (i := 912) (by decide +kernel)⟩
theorem lw_p12 : lw_okq (⟨"BridgesAreLent$Valley", "bySecondMove", "(LBridgesAreLent$Row;IIIII)Z"⟩, 9) := ⟨⟨by decide +kernel, by decide +kernel⟩, List.mem_of_getElem? (i := 75) (by decide +kernel), List.mem_of_getElem? (i := 921) (by decide +kernel), List.mem_of_getElem? (i := 922) (by decide +kernel)⟩
theorem lw_p13 : lw_okq (⟨"BridgesAreLent$Layouts", "firstFor", "(III)I"⟩, 5) := ⟨⟨by decide +kernel, by decide +kernel⟩, List.mem_of_getElem? (i := 256) (by decide +kernel), List.mem_of_getElem? (i := 955) (by decide +kernel), List.mem_of_getElem? (i := 956) (by decide +kernel)⟩
theorem lw_p14 : lw_okq (⟨"BridgesAreLent$Layouts", "grants", "(I)Z"⟩, 5) := ⟨⟨by decide +kernel, by decide +kernel⟩, List.mem_of_getElem? (i := 256) (by decide +kernel), List.mem_of_getElem? (i := 974) (by decide +kernel), List.mem_of_getElem? (i := 975) (by decide +kernel)⟩
theorem lw_p15 : lw_okq (⟨"BridgesAreLent$Drifting", "passNight", "(I)V"⟩, 4) := ⟨⟨by decide +kernel, by decide +kernel⟩, List.mem_of_getElem? (i := 278) (by decide +kernel), List.mem_of_getElem? (i := 1038) (by decide +kernel), List.mem_of_getElem? (i := 1039) (by decide +kernel)⟩
def lw_privs_1 : List (MethodName × Nat) := [(⟨"BridgesAreLent", "forgetPastIf", "(Z)V"⟩, 8), (⟨"BridgesAreLent$Rule", "readLevel", "(LBridgesAreLent$Text;II)V"⟩, 5), (⟨"BridgesAreLent$Rule", "readSigned", "(LBridgesAreLent$Text;I)V"⟩, 5), (⟨"BridgesAreLent$Rule", "readThing", "(LBridgesAreLent$Text;I)V"⟩, 5), (⟨"BridgesAreLent$Rule", "emit", "(I)V"⟩, 5), (⟨"BridgesAreLent$Valley", "placeOf", "(I)I"⟩, 9), (⟨"BridgesAreLent$Valley", "comeNearer", "()V"⟩, 9), (⟨"BridgesAreLent$Valley", "endLoans", "()V"⟩, 9), (⟨"BridgesAreLent$Day", "readAct", "(LBridgesAreLent$Text;I)V"⟩, 4), (⟨"BridgesAreLent$Day", "doesAct", "(LBridgesAreLent$Valley;I)Z"⟩, 4), (⟨"BridgesAreLent$Valley", "canMove", "(II)Z"⟩, 9), (⟨"BridgesAreLent$Valley", "openWithMove", "(IIII)I"⟩, 9), (⟨"BridgesAreLent$Valley", "bySecondMove", "(LBridgesAreLent$Row;IIIII)Z"⟩, 9), (⟨"BridgesAreLent$Layouts", "firstFor", "(III)I"⟩, 5), (⟨"BridgesAreLent$Layouts", "grants", "(I)Z"⟩, 5), (⟨"BridgesAreLent$Drifting", "passNight", "(I)V"⟩, 4)]
theorem lw_r1 : ∀ q ∈ lw_privs_1, lw_okq q := List.forall_mem_cons.mpr ⟨lw_p0, List.forall_mem_cons.mpr ⟨lw_p1, List.forall_mem_cons.mpr ⟨lw_p2, List.forall_mem_cons.mpr ⟨lw_p3, List.forall_mem_cons.mpr ⟨lw_p4, List.forall_mem_cons.mpr ⟨lw_p5, List.forall_mem_cons.mpr ⟨lw_p6, List.forall_mem_cons.mpr ⟨lw_p7, List.forall_mem_cons.mpr ⟨lw_p8, List.forall_mem_cons.mpr ⟨lw_p9, List.forall_mem_cons.mpr ⟨lw_p10, List.forall_mem_cons.mpr ⟨lw_p11, List.forall_mem_cons.mpr ⟨lw_p12, List.forall_mem_cons.mpr ⟨lw_p13, List.forall_mem_cons.mpr ⟨lw_p14, List.forall_mem_cons.mpr ⟨lw_p15, fun _ h => absurd h List.not_mem_nil⟩⟩⟩⟩⟩⟩⟩⟩⟩⟩⟩⟩⟩⟩⟩⟩
theorem lw_p16 : lw_okq (⟨"BridgesAreLent$Finds", "fits", "(I)Z"⟩, 4) := ⟨⟨by decide +kernel, by decide +kernel⟩, List.mem_of_getElem? (i := 299) (by decide +kernel), List.mem_of_getElem? (i := 1082) (by decide +kernel), List.mem_of_getElem? (i := 1083) (by decide +kernel)⟩
theorem lw_p17 : lw_okq (⟨"BridgesAreLent$Finds", "isSo", "(II)Z"⟩, 4) := ⟨⟨by decide +kernel, by decide +kernel⟩, List.mem_of_getElem? (i := 299) (by decide +kernel), List.mem_of_getElem? (i := 1086) (by decide +kernel), List.mem_of_getElem? (i := 1087) (by decide +kernel)⟩
theorem lw_p18 : lw_okq (⟨"BridgesAreLent$Drifting", "driftsToShed", "(I)Z"⟩, 4) := ⟨⟨by decide +kernel, by decide +kernel⟩, List.mem_of_getElem? (i := 278) (by decide +kernel), List.mem_of_getElem? (i := 1142) (by decide +kernel), List.mem_of_getElem? (i := 1143) (by decide +kernel)⟩
theorem lw_p19 : lw_okq (⟨"BridgesAreLent$Drifting", "dreamedPairs", "()I"⟩, 4) := ⟨⟨by decide +kernel, by decide +kernel⟩, List.mem_of_getElem? (i := 278) (by decide +kernel), List.mem_of_getElem? (i := 1152) (by decide +kernel), List.mem_of_getElem? (i := 1153) (by decide +kernel)⟩
theorem lw_p20 : lw_okq (⟨"java/lang/Throwable", "fillInStackTrace", "(I)Ljava/lang/Throwable;"⟩, 6) := ⟨⟨by decide +kernel, by decide +kernel⟩, List.mem_of_getElem? (i := 1234) (by decide +kernel), List.mem_of_getElem? (i := 1232) (by decide +kernel), List.mem_of_getElem? (i := 1233) (by decide +kernel)⟩
theorem lw_p21 : lw_okq (⟨"BridgesAreLentModel", "begins", "(I)I"⟩, 60) := ⟨⟨by decide +kernel, by decide +kernel⟩, List.mem_of_getElem? (i := 1289) (by decide +kernel), List.mem_of_getElem? (i := 1495) (by decide +kernel), List.mem_of_getElem? (i := 1496) (by decide +kernel)⟩
theorem lw_p22 : lw_okq (⟨"BridgesAreLentModel", "takesOf", "(Ljava/lang/String;)I"⟩, 60) := ⟨⟨by decide +kernel, by decide +kernel⟩, List.mem_of_getElem? (i := 1289) (by decide +kernel), List.mem_of_getElem? (i := 1501) (by decide +kernel), List.mem_of_getElem? (i := 1502) (by decide +kernel)⟩
theorem lw_p23 : lw_okq (⟨"BridgesAreLentModel", "among", "(Ljava/lang/String;)I"⟩, 60) := ⟨⟨by decide +kernel, by decide +kernel⟩, List.mem_of_getElem? (i := 1289) (by decide +kernel), List.mem_of_getElem? (i := 1505) (by decide +kernel), List.mem_of_getElem? (i := 1506) (by decide +kernel)⟩
theorem lw_p24 : lw_okq (⟨"BridgesAreLentModel", "isNext", "(I)Z"⟩, 60) := ⟨⟨by decide +kernel, by decide +kernel⟩, List.mem_of_getElem? (i := 1289) (by decide +kernel), List.mem_of_getElem? (i := 1514) (by decide +kernel), List.mem_of_getElem? (i := 1515) (by decide +kernel)⟩
theorem lw_p25 : lw_okq (⟨"BridgesAreLentModel", "readsCrossing", "()Z"⟩, 60) := ⟨⟨by decide +kernel, by decide +kernel⟩, List.mem_of_getElem? (i := 1289) (by decide +kernel), List.mem_of_getElem? (i := 1518) (by decide +kernel), List.mem_of_getElem? (i := 1519) (by decide +kernel)⟩
theorem lw_p26 : lw_okq (⟨"BridgesAreLentModel", "twoBanks", "(I)I"⟩, 60) := ⟨⟨by decide +kernel, by decide +kernel⟩, List.mem_of_getElem? (i := 1289) (by decide +kernel), List.mem_of_getElem? (i := 1522) (by decide +kernel), List.mem_of_getElem? (i := 1523) (by decide +kernel)⟩
theorem lw_p27 : lw_okq (⟨"BridgesAreLentModel", "letter", "(I)I"⟩, 60) := ⟨⟨by decide +kernel, by decide +kernel⟩, List.mem_of_getElem? (i := 1289) (by decide +kernel), List.mem_of_getElem? (i := 1526) (by decide +kernel), List.mem_of_getElem? (i := 1527) (by decide +kernel)⟩
theorem lw_p28 : lw_okq (⟨"BridgesAreLentModel", "number", "(I)I"⟩, 60) := ⟨⟨by decide +kernel, by decide +kernel⟩, List.mem_of_getElem? (i := 1289) (by decide +kernel), List.mem_of_getElem? (i := 1531) (by decide +kernel), List.mem_of_getElem? (i := 1532) (by decide +kernel)⟩
theorem lw_p29 : lw_okq (⟨"BridgesAreLentModel", "isDigit", "()Z"⟩, 60) := ⟨⟨by decide +kernel, by decide +kernel⟩, List.mem_of_getElem? (i := 1289) (by decide +kernel), List.mem_of_getElem? (i := 1535) (by decide +kernel), List.mem_of_getElem? (i := 1536) (by decide +kernel)⟩
theorem lw_p30 : lw_okq (⟨"BridgesAreLentModel", "faultOf", "(IIZ)I"⟩, 60) := ⟨⟨by decide +kernel, by decide +kernel⟩, List.mem_of_getElem? (i := 1289) (by decide +kernel), List.mem_of_getElem? (i := 1542) (by decide +kernel), List.mem_of_getElem? (i := 1543) (by decide +kernel)⟩
theorem lw_p31 : lw_okq (⟨"BridgesAreLentModel", "comes", "()V"⟩, 60) := ⟨⟨by decide +kernel, by decide +kernel⟩, List.mem_of_getElem? (i := 1289) (by decide +kernel), List.mem_of_getElem? (i := 1546) (by decide +kernel), List.mem_of_getElem? (i := 1547) (by decide +kernel)⟩
def lw_privs_2 : List (MethodName × Nat) := [(⟨"BridgesAreLent$Finds", "fits", "(I)Z"⟩, 4), (⟨"BridgesAreLent$Finds", "isSo", "(II)Z"⟩, 4), (⟨"BridgesAreLent$Drifting", "driftsToShed", "(I)Z"⟩, 4), (⟨"BridgesAreLent$Drifting", "dreamedPairs", "()I"⟩, 4), (⟨"java/lang/Throwable", "fillInStackTrace", "(I)Ljava/lang/Throwable;"⟩, 6), (⟨"BridgesAreLentModel", "begins", "(I)I"⟩, 60), (⟨"BridgesAreLentModel", "takesOf", "(Ljava/lang/String;)I"⟩, 60), (⟨"BridgesAreLentModel", "among", "(Ljava/lang/String;)I"⟩, 60), (⟨"BridgesAreLentModel", "isNext", "(I)Z"⟩, 60), (⟨"BridgesAreLentModel", "readsCrossing", "()Z"⟩, 60), (⟨"BridgesAreLentModel", "twoBanks", "(I)I"⟩, 60), (⟨"BridgesAreLentModel", "letter", "(I)I"⟩, 60), (⟨"BridgesAreLentModel", "number", "(I)I"⟩, 60), (⟨"BridgesAreLentModel", "isDigit", "()Z"⟩, 60), (⟨"BridgesAreLentModel", "faultOf", "(IIZ)I"⟩, 60), (⟨"BridgesAreLentModel", "comes", "()V"⟩, 60)]
theorem lw_r2 : ∀ q ∈ lw_privs_2, lw_okq q := List.forall_mem_cons.mpr ⟨lw_p16, List.forall_mem_cons.mpr ⟨lw_p17, List.forall_mem_cons.mpr ⟨lw_p18, List.forall_mem_cons.mpr ⟨lw_p19, List.forall_mem_cons.mpr ⟨lw_p20, List.forall_mem_cons.mpr ⟨lw_p21, List.forall_mem_cons.mpr ⟨lw_p22, List.forall_mem_cons.mpr ⟨lw_p23, List.forall_mem_cons.mpr ⟨lw_p24, List.forall_mem_cons.mpr ⟨lw_p25, List.forall_mem_cons.mpr ⟨lw_p26, List.forall_mem_cons.mpr ⟨lw_p27, List.forall_mem_cons.mpr ⟨lw_p28, List.forall_mem_cons.mpr ⟨lw_p29, List.forall_mem_cons.mpr ⟨lw_p30, List.forall_mem_cons.mpr ⟨lw_p31, fun _ h => absurd h List.not_mem_nil⟩⟩⟩⟩⟩⟩⟩⟩⟩⟩⟩⟩⟩⟩⟩⟩
theorem lw_p32 : lw_okq (⟨"BridgesAreLentModel", "readsPairs", "(Z)I"⟩, 60) := ⟨⟨by decide +kernel, by decide +kernel⟩, List.mem_of_getElem? (i := 1289) (by decide +kernel), List.mem_of_getElem? (i := 1554) (by decide +kernel), List.mem_of_getElem? (i := 1555) (by decide +kernel)⟩
theorem lw_p33 : lw_okq (⟨"BridgesAreLentModel", "readsPair", "(Z)Z"⟩, 60) := ⟨⟨by decide +kernel, by decide +kernel⟩, List.mem_of_getElem? (i := 1289) (by decide +kernel), List.mem_of_getElem? (i := 1558) (by decide +kernel), List.mem_of_getElem? (i := 1559) (by decide +kernel)⟩
theorem lw_p34 : lw_okq (⟨"BridgesAreLentModel", "readsRank", "(I)Z"⟩, 60) := ⟨⟨by decide +kernel, by decide +kernel⟩, List.mem_of_getElem? (i := 1289) (by decide +kernel), List.mem_of_getElem? (i := 1570) (by decide +kernel), List.mem_of_getElem? (i := 1571) (by decide +kernel)⟩
theorem lw_p35 : lw_okq (⟨"BridgesAreLentModel", "readsThing", "()Z"⟩, 60) := ⟨⟨by decide +kernel, by decide +kernel⟩, List.mem_of_getElem? (i := 1289) (by decide +kernel), List.mem_of_getElem? (i := 1574) (by decide +kernel), List.mem_of_getElem? (i := 1575) (by decide +kernel)⟩
theorem lw_p36 : lw_okq (⟨"BridgesAreLentModel", "codes", "(I)V"⟩, 60) := ⟨⟨by decide +kernel, by decide +kernel⟩, List.mem_of_getElem? (i := 1289) (by decide +kernel), List.mem_of_getElem? (i := 1578) (by decide +kernel), List.mem_of_getElem? (i := 1579) (by decide +kernel)⟩
theorem lw_p37 : lw_okq (⟨"BridgesAreLentModel", "isCrossing", "(I)Z"⟩, 60) := ⟨⟨by decide +kernel, by decide +kernel⟩, List.mem_of_getElem? (i := 1289) (by decide +kernel), List.mem_of_getElem? (i := 1590) (by decide +kernel), List.mem_of_getElem? (i := 1591) (by decide +kernel)⟩
theorem lw_p38 : lw_okq (⟨"BridgesAreLentModel", "refuse", "()I"⟩, 60) := ⟨⟨by decide +kernel, by decide +kernel⟩, List.mem_of_getElem? (i := 1289) (by decide +kernel), List.mem_of_getElem? (i := 1595) (by decide +kernel), List.mem_of_getElem? (i := 1596) (by decide +kernel)⟩
theorem lw_p39 : lw_okq (⟨"BridgesAreLentModel", "bridgeAt", "(IZ)I"⟩, 60) := ⟨⟨by decide +kernel, by decide +kernel⟩, List.mem_of_getElem? (i := 1289) (by decide +kernel), List.mem_of_getElem? (i := 1599) (by decide +kernel), List.mem_of_getElem? (i := 1600) (by decide +kernel)⟩
theorem lw_p40 : lw_okq (⟨"BridgesAreLentModel", "isBridge", "(I)Z"⟩, 60) := ⟨⟨by decide +kernel, by decide +kernel⟩, List.mem_of_getElem? (i := 1289) (by decide +kernel), List.mem_of_getElem? (i := 1607) (by decide +kernel), List.mem_of_getElem? (i := 1608) (by decide +kernel)⟩
theorem lw_p41 : lw_okq (⟨"BridgesAreLentModel", "isPerson", "(I)Z"⟩, 60) := ⟨⟨by decide +kernel, by decide +kernel⟩, List.mem_of_getElem? (i := 1289) (by decide +kernel), List.mem_of_getElem? (i := 1616) (by decide +kernel), List.mem_of_getElem? (i := 1617) (by decide +kernel)⟩
theorem lw_p42 : lw_okq (⟨"BridgesAreLentModel", "whyNot", "(II)I"⟩, 60) := ⟨⟨by decide +kernel, by decide +kernel⟩, List.mem_of_getElem? (i := 1289) (by decide +kernel), List.mem_of_getElem? (i := 1634) (by decide +kernel), List.mem_of_getElem? (i := 1635) (by decide +kernel)⟩
theorem lw_p43 : lw_okq (⟨"BridgesAreLentModel", "towOf", "(II)I"⟩, 60) := ⟨⟨by decide +kernel, by decide +kernel⟩, List.mem_of_getElem? (i := 1289) (by decide +kernel), List.mem_of_getElem? (i := 1638) (by decide +kernel), List.mem_of_getElem? (i := 1639) (by decide +kernel)⟩
theorem lw_p44 : lw_okq (⟨"BridgesAreLentModel", "spotOf", "(I)I"⟩, 60) := ⟨⟨by decide +kernel, by decide +kernel⟩, List.mem_of_getElem? (i := 1289) (by decide +kernel), List.mem_of_getElem? (i := 1642) (by decide +kernel), List.mem_of_getElem? (i := 1643) (by decide +kernel)⟩
theorem lw_p45 : lw_okq (⟨"BridgesAreLentModel", "ruled", "()I"⟩, 60) := ⟨⟨by decide +kernel, by decide +kernel⟩, List.mem_of_getElem? (i := 1289) (by decide +kernel), List.mem_of_getElem? (i := 1647) (by decide +kernel), List.mem_of_getElem? (i := 1648) (by decide +kernel)⟩
theorem lw_p46 : lw_okq (⟨"BridgesAreLentModel", "putsBy", "()V"⟩, 60) := ⟨⟨by decide +kernel, by decide +kernel⟩, List.mem_of_getElem? (i := 1289) (by decide +kernel), List.mem_of_getElem? (i := 1658) (by decide +kernel), List.mem_of_getElem? (i := 1659) (by decide +kernel)⟩
theorem lw_p47 : lw_okq (⟨"BridgesAreLentModel", "tows", "(II)I"⟩, 60) := ⟨⟨by decide +kernel, by decide +kernel⟩, List.mem_of_getElem? (i := 1289) (by decide +kernel), List.mem_of_getElem? (i := 1662) (by decide +kernel), List.mem_of_getElem? (i := 1663) (by decide +kernel)⟩
def lw_privs_3 : List (MethodName × Nat) := [(⟨"BridgesAreLentModel", "readsPairs", "(Z)I"⟩, 60), (⟨"BridgesAreLentModel", "readsPair", "(Z)Z"⟩, 60), (⟨"BridgesAreLentModel", "readsRank", "(I)Z"⟩, 60), (⟨"BridgesAreLentModel", "readsThing", "()Z"⟩, 60), (⟨"BridgesAreLentModel", "codes", "(I)V"⟩, 60), (⟨"BridgesAreLentModel", "isCrossing", "(I)Z"⟩, 60), (⟨"BridgesAreLentModel", "refuse", "()I"⟩, 60), (⟨"BridgesAreLentModel", "bridgeAt", "(IZ)I"⟩, 60), (⟨"BridgesAreLentModel", "isBridge", "(I)Z"⟩, 60), (⟨"BridgesAreLentModel", "isPerson", "(I)Z"⟩, 60), (⟨"BridgesAreLentModel", "whyNot", "(II)I"⟩, 60), (⟨"BridgesAreLentModel", "towOf", "(II)I"⟩, 60), (⟨"BridgesAreLentModel", "spotOf", "(I)I"⟩, 60), (⟨"BridgesAreLentModel", "ruled", "()I"⟩, 60), (⟨"BridgesAreLentModel", "putsBy", "()V"⟩, 60), (⟨"BridgesAreLentModel", "tows", "(II)I"⟩, 60)]
theorem lw_r3 : ∀ q ∈ lw_privs_3, lw_okq q := List.forall_mem_cons.mpr ⟨lw_p32, List.forall_mem_cons.mpr ⟨lw_p33, List.forall_mem_cons.mpr ⟨lw_p34, List.forall_mem_cons.mpr ⟨lw_p35, List.forall_mem_cons.mpr ⟨lw_p36, List.forall_mem_cons.mpr ⟨lw_p37, List.forall_mem_cons.mpr ⟨lw_p38, List.forall_mem_cons.mpr ⟨lw_p39, List.forall_mem_cons.mpr ⟨lw_p40, List.forall_mem_cons.mpr ⟨lw_p41, List.forall_mem_cons.mpr ⟨lw_p42, List.forall_mem_cons.mpr ⟨lw_p43, List.forall_mem_cons.mpr ⟨lw_p44, List.forall_mem_cons.mpr ⟨lw_p45, List.forall_mem_cons.mpr ⟨lw_p46, List.forall_mem_cons.mpr ⟨lw_p47, fun _ h => absurd h List.not_mem_nil⟩⟩⟩⟩⟩⟩⟩⟩⟩⟩⟩⟩⟩⟩⟩⟩
theorem lw_p48 : lw_okq (⟨"BridgesAreLentModel", "counts", "(I)I"⟩, 60) := ⟨⟨by decide +kernel, by decide +kernel⟩, List.mem_of_getElem? (i := 1289) (by decide +kernel), List.mem_of_getElem? (i := 1666) (by decide +kernel), List.mem_of_getElem? (i := 1667) (by decide +kernel)⟩
theorem lw_p49 : lw_okq (⟨"BridgesAreLentModel", "adds", "(I)I"⟩, 60) := ⟨⟨by decide +kernel, by decide +kernel⟩, List.mem_of_getElem? (i := 1289) (by decide +kernel), List.mem_of_getElem? (i := 1670) (by decide +kernel), List.mem_of_getElem? (i := 1671) (by decide +kernel)⟩
theorem lw_p50 : lw_okq (⟨"BridgesAreLentModel", "lends", "(II)I"⟩, 60) := ⟨⟨by decide +kernel, by decide +kernel⟩, List.mem_of_getElem? (i := 1289) (by decide +kernel), List.mem_of_getElem? (i := 1678) (by decide +kernel), List.mem_of_getElem? (i := 1679) (by decide +kernel)⟩
theorem lw_p51 : lw_okq (⟨"BridgesAreLentModel", "crosses", "(II)I"⟩, 60) := ⟨⟨by decide +kernel, by decide +kernel⟩, List.mem_of_getElem? (i := 1289) (by decide +kernel), List.mem_of_getElem? (i := 1687) (by decide +kernel), List.mem_of_getElem? (i := 1688) (by decide +kernel)⟩
theorem lw_p52 : lw_okq (⟨"BridgesAreLentModel", "openIn", "(II)I"⟩, 60) := ⟨⟨by decide +kernel, by decide +kernel⟩, List.mem_of_getElem? (i := 1289) (by decide +kernel), List.mem_of_getElem? (i := 1691) (by decide +kernel), List.mem_of_getElem? (i := 1692) (by decide +kernel)⟩
theorem lw_p53 : lw_okq (⟨"BridgesAreLentModel", "startsCounting", "()V"⟩, 60) := ⟨⟨by decide +kernel, by decide +kernel⟩, List.mem_of_getElem? (i := 1289) (by decide +kernel), List.mem_of_getElem? (i := 1703) (by decide +kernel), List.mem_of_getElem? (i := 1704) (by decide +kernel)⟩
theorem lw_p54 : lw_okq (⟨"BridgesAreLentModel", "hourGoes", "()V"⟩, 60) := ⟨⟨by decide +kernel, by decide +kernel⟩, List.mem_of_getElem? (i := 1289) (by decide +kernel), List.mem_of_getElem? (i := 1707) (by decide +kernel), List.mem_of_getElem? (i := 1708) (by decide +kernel)⟩
theorem lw_p55 : lw_okq (⟨"BridgesAreLentModel", "enters", "(J)V"⟩, 60) := ⟨⟨by decide +kernel, by decide +kernel⟩, List.mem_of_getElem? (i := 1289) (by decide +kernel), List.mem_of_getElem? (i := 1711) (by decide +kernel), List.mem_of_getElem? (i := 1712) (by decide +kernel)⟩
theorem lw_p56 : lw_okq (⟨"BridgesAreLentModel", "readsAct", "()Z"⟩, 60) := ⟨⟨by decide +kernel, by decide +kernel⟩, List.mem_of_getElem? (i := 1289) (by decide +kernel), List.mem_of_getElem? (i := 1719) (by decide +kernel), List.mem_of_getElem? (i := 1720) (by decide +kernel)⟩
theorem lw_p57 : lw_okq (⟨"BridgesAreLentModel", "does", "(I)Z"⟩, 60) := ⟨⟨by decide +kernel, by decide +kernel⟩, List.mem_of_getElem? (i := 1289) (by decide +kernel), List.mem_of_getElem? (i := 1724) (by decide +kernel), List.mem_of_getElem? (i := 1725) (by decide +kernel)⟩
theorem lw_p58 : lw_okq (⟨"BridgesAreLentModel", "isBank", "(I)Z"⟩, 60) := ⟨⟨by decide +kernel, by decide +kernel⟩, List.mem_of_getElem? (i := 1289) (by decide +kernel), List.mem_of_getElem? (i := 1732) (by decide +kernel), List.mem_of_getElem? (i := 1733) (by decide +kernel)⟩
theorem lw_p59 : lw_okq (⟨"BridgesAreLentModel", "laysFar", "(II)V"⟩, 60) := ⟨⟨by decide +kernel, by decide +kernel⟩, List.mem_of_getElem? (i := 1289) (by decide +kernel), List.mem_of_getElem? (i := 1736) (by decide +kernel), List.mem_of_getElem? (i := 1737) (by decide +kernel)⟩
theorem lw_p60 : lw_okq (⟨"BridgesAreLentModel", "pairsOf", "(I)I"⟩, 60) := ⟨⟨by decide +kernel, by decide +kernel⟩, List.mem_of_getElem? (i := 1289) (by decide +kernel), List.mem_of_getElem? (i := 1744) (by decide +kernel), List.mem_of_getElem? (i := 1745) (by decide +kernel)⟩
theorem lw_p61 : lw_okq (⟨"BridgesAreLentModel", "reach", "(II)I"⟩, 60) := ⟨⟨by decide +kernel, by decide +kernel⟩, List.mem_of_getElem? (i := 1289) (by decide +kernel), List.mem_of_getElem? (i := 1748) (by decide +kernel), List.mem_of_getElem? (i := 1749) (by decide +kernel)⟩
theorem lw_p62 : lw_okq (⟨"BridgesAreLentModel", "reachOnce", "(II)I"⟩, 60) := ⟨⟨by decide +kernel, by decide +kernel⟩, List.mem_of_getElem? (i := 1289) (by decide +kernel), List.mem_of_getElem? (i := 1752) (by decide +kernel), List.mem_of_getElem? (i := 1753) (by decide +kernel)⟩
theorem lw_p63 : lw_okq (⟨"BridgesAreLentModel", "canGo", "(III)Z"⟩, 60) := ⟨⟨by decide +kernel, by decide +kernel⟩, List.mem_of_getElem? (i := 1289) (by decide +kernel), List.mem_of_getElem? (i := 1765) (by decide +kernel), List.mem_of_getElem? (i := 1766) (by decide +kernel)⟩
def lw_privs_4 : List (MethodName × Nat) := [(⟨"BridgesAreLentModel", "counts", "(I)I"⟩, 60), (⟨"BridgesAreLentModel", "adds", "(I)I"⟩, 60), (⟨"BridgesAreLentModel", "lends", "(II)I"⟩, 60), (⟨"BridgesAreLentModel", "crosses", "(II)I"⟩, 60), (⟨"BridgesAreLentModel", "openIn", "(II)I"⟩, 60), (⟨"BridgesAreLentModel", "startsCounting", "()V"⟩, 60), (⟨"BridgesAreLentModel", "hourGoes", "()V"⟩, 60), (⟨"BridgesAreLentModel", "enters", "(J)V"⟩, 60), (⟨"BridgesAreLentModel", "readsAct", "()Z"⟩, 60), (⟨"BridgesAreLentModel", "does", "(I)Z"⟩, 60), (⟨"BridgesAreLentModel", "isBank", "(I)Z"⟩, 60), (⟨"BridgesAreLentModel", "laysFar", "(II)V"⟩, 60), (⟨"BridgesAreLentModel", "pairsOf", "(I)I"⟩, 60), (⟨"BridgesAreLentModel", "reach", "(II)I"⟩, 60), (⟨"BridgesAreLentModel", "reachOnce", "(II)I"⟩, 60), (⟨"BridgesAreLentModel", "canGo", "(III)Z"⟩, 60)]
theorem lw_r4 : ∀ q ∈ lw_privs_4, lw_okq q := List.forall_mem_cons.mpr ⟨lw_p48, List.forall_mem_cons.mpr ⟨lw_p49, List.forall_mem_cons.mpr ⟨lw_p50, List.forall_mem_cons.mpr ⟨lw_p51, List.forall_mem_cons.mpr ⟨lw_p52, List.forall_mem_cons.mpr ⟨lw_p53, List.forall_mem_cons.mpr ⟨lw_p54, List.forall_mem_cons.mpr ⟨lw_p55, List.forall_mem_cons.mpr ⟨lw_p56, List.forall_mem_cons.mpr ⟨lw_p57, List.forall_mem_cons.mpr ⟨lw_p58, List.forall_mem_cons.mpr ⟨lw_p59, List.forall_mem_cons.mpr ⟨lw_p60, List.forall_mem_cons.mpr ⟨lw_p61, List.forall_mem_cons.mpr ⟨lw_p62, List.forall_mem_cons.mpr ⟨lw_p63, fun _ h => absurd h List.not_mem_nil⟩⟩⟩⟩⟩⟩⟩⟩⟩⟩⟩⟩⟩⟩⟩⟩
theorem lw_p64 : lw_okq (⟨"BridgesAreLentModel", "canPut", "(II)Z"⟩, 60) := ⟨⟨by decide +kernel, by decide +kernel⟩, List.mem_of_getElem? (i := 1289) (by decide +kernel), List.mem_of_getElem? (i := 1769) (by decide +kernel), List.mem_of_getElem? (i := 1770) (by decide +kernel)⟩
theorem lw_p65 : lw_okq (⟨"BridgesAreLentModel", "isFree", "(I)Z"⟩, 60) := ⟨⟨by decide +kernel, by decide +kernel⟩, List.mem_of_getElem? (i := 1289) (by decide +kernel), List.mem_of_getElem? (i := 1773) (by decide +kernel), List.mem_of_getElem? (i := 1774) (by decide +kernel)⟩
theorem lw_p66 : lw_okq (⟨"BridgesAreLentModel", "openWith", "(IIII)I"⟩, 60) := ⟨⟨by decide +kernel, by decide +kernel⟩, List.mem_of_getElem? (i := 1289) (by decide +kernel), List.mem_of_getElem? (i := 1777) (by decide +kernel), List.mem_of_getElem? (i := 1778) (by decide +kernel)⟩
theorem lw_p67 : lw_okq (⟨"BridgesAreLentModel", "allCrossings", "()I"⟩, 60) := ⟨⟨by decide +kernel, by decide +kernel⟩, List.mem_of_getElem? (i := 1289) (by decide +kernel), List.mem_of_getElem? (i := 1789) (by decide +kernel), List.mem_of_getElem? (i := 1790) (by decide +kernel)⟩
theorem lw_p68 : lw_okq (⟨"BridgesAreLentModel", "laysFrom", "(IIII)Z"⟩, 60) := ⟨⟨by decide +kernel, by decide +kernel⟩, List.mem_of_getElem? (i := 1289) (by decide +kernel), List.mem_of_getElem? (i := 1793) (by decide +kernel), List.mem_of_getElem? (i := 1794) (by decide +kernel)⟩
theorem lw_p69 : lw_okq (⟨"BridgesAreLentModel", "fewestFor", "()I"⟩, 60) := ⟨⟨by decide +kernel, by decide +kernel⟩, List.mem_of_getElem? (i := 1289) (by decide +kernel), List.mem_of_getElem? (i := 1802) (by decide +kernel), List.mem_of_getElem? (i := 1803) (by decide +kernel)⟩
theorem lw_p70 : lw_okq (⟨"BridgesAreLentModel", "joinsAll", "(I)Z"⟩, 60) := ⟨⟨by decide +kernel, by decide +kernel⟩, List.mem_of_getElem? (i := 1289) (by decide +kernel), List.mem_of_getElem? (i := 1806) (by decide +kernel), List.mem_of_getElem? (i := 1807) (by decide +kernel)⟩
theorem lw_p71 : lw_okq (⟨"BridgesAreLentModel", "canLay", "(I)Z"⟩, 60) := ⟨⟨by decide +kernel, by decide +kernel⟩, List.mem_of_getElem? (i := 1289) (by decide +kernel), List.mem_of_getElem? (i := 1810) (by decide +kernel), List.mem_of_getElem? (i := 1811) (by decide +kernel)⟩
theorem lw_p72 : lw_okq (⟨"BridgesAreLentModel", "pairsBy", "(I)I"⟩, 60) := ⟨⟨by decide +kernel, by decide +kernel⟩, List.mem_of_getElem? (i := 1289) (by decide +kernel), List.mem_of_getElem? (i := 1827) (by decide +kernel), List.mem_of_getElem? (i := 1828) (by decide +kernel)⟩
theorem lw_p73 : lw_okq (⟨"BridgesAreLentModel", "shortBy", "(I)I"⟩, 60) := ⟨⟨by decide +kernel, by decide +kernel⟩, List.mem_of_getElem? (i := 1289) (by decide +kernel), List.mem_of_getElem? (i := 1831) (by decide +kernel), List.mem_of_getElem? (i := 1832) (by decide +kernel)⟩
theorem lw_p74 : lw_okq (⟨"BridgesAreLentModel", "isAt", "(I)Z"⟩, 60) := ⟨⟨by decide +kernel, by decide +kernel⟩, List.mem_of_getElem? (i := 1289) (by decide +kernel), List.mem_of_getElem? (i := 1850) (by decide +kernel), List.mem_of_getElem? (i := 1851) (by decide +kernel)⟩
theorem lw_p75 : lw_okq (⟨"BridgesAreLentModel", "drifts", "(III)V"⟩, 60) := ⟨⟨by decide +kernel, by decide +kernel⟩, List.mem_of_getElem? (i := 1289) (by decide +kernel), List.mem_of_getElem? (i := 1854) (by decide +kernel), List.mem_of_getElem? (i := 1855) (by decide +kernel)⟩
theorem lw_p76 : lw_okq (⟨"BridgesAreLentModel", "nextDown", "(I)I"⟩, 60) := ⟨⟨by decide +kernel, by decide +kernel⟩, List.mem_of_getElem? (i := 1289) (by decide +kernel), List.mem_of_getElem? (i := 1858) (by decide +kernel), List.mem_of_getElem? (i := 1859) (by decide +kernel)⟩
theorem lw_p77 : lw_okq (⟨"BridgesAreLentModel", "tellsShare", "(I)V"⟩, 60) := ⟨⟨by decide +kernel, by decide +kernel⟩, List.mem_of_getElem? (i := 1289) (by decide +kernel), List.mem_of_getElem? (i := 1862) (by decide +kernel), List.mem_of_getElem? (i := 1863) (by decide +kernel)⟩
theorem lw_p78 : lw_okq (⟨"BridgesAreLentModel", "fitting", "()I"⟩, 60) := ⟨⟨by decide +kernel, by decide +kernel⟩, List.mem_of_getElem? (i := 1289) (by decide +kernel), List.mem_of_getElem? (i := 1888) (by decide +kernel), List.mem_of_getElem? (i := 1889) (by decide +kernel)⟩
theorem lw_p79 : lw_okq (⟨"BridgesAreLentModel", "isSo", "(III)Z"⟩, 60) := ⟨⟨by decide +kernel, by decide +kernel⟩, List.mem_of_getElem? (i := 1289) (by decide +kernel), List.mem_of_getElem? (i := 1892) (by decide +kernel), List.mem_of_getElem? (i := 1893) (by decide +kernel)⟩
def lw_privs_5 : List (MethodName × Nat) := [(⟨"BridgesAreLentModel", "canPut", "(II)Z"⟩, 60), (⟨"BridgesAreLentModel", "isFree", "(I)Z"⟩, 60), (⟨"BridgesAreLentModel", "openWith", "(IIII)I"⟩, 60), (⟨"BridgesAreLentModel", "allCrossings", "()I"⟩, 60), (⟨"BridgesAreLentModel", "laysFrom", "(IIII)Z"⟩, 60), (⟨"BridgesAreLentModel", "fewestFor", "()I"⟩, 60), (⟨"BridgesAreLentModel", "joinsAll", "(I)Z"⟩, 60), (⟨"BridgesAreLentModel", "canLay", "(I)Z"⟩, 60), (⟨"BridgesAreLentModel", "pairsBy", "(I)I"⟩, 60), (⟨"BridgesAreLentModel", "shortBy", "(I)I"⟩, 60), (⟨"BridgesAreLentModel", "isAt", "(I)Z"⟩, 60), (⟨"BridgesAreLentModel", "drifts", "(III)V"⟩, 60), (⟨"BridgesAreLentModel", "nextDown", "(I)I"⟩, 60), (⟨"BridgesAreLentModel", "tellsShare", "(I)V"⟩, 60), (⟨"BridgesAreLentModel", "fitting", "()I"⟩, 60), (⟨"BridgesAreLentModel", "isSo", "(III)Z"⟩, 60)]
theorem lw_r5 : ∀ q ∈ lw_privs_5, lw_okq q := List.forall_mem_cons.mpr ⟨lw_p64, List.forall_mem_cons.mpr ⟨lw_p65, List.forall_mem_cons.mpr ⟨lw_p66, List.forall_mem_cons.mpr ⟨lw_p67, List.forall_mem_cons.mpr ⟨lw_p68, List.forall_mem_cons.mpr ⟨lw_p69, List.forall_mem_cons.mpr ⟨lw_p70, List.forall_mem_cons.mpr ⟨lw_p71, List.forall_mem_cons.mpr ⟨lw_p72, List.forall_mem_cons.mpr ⟨lw_p73, List.forall_mem_cons.mpr ⟨lw_p74, List.forall_mem_cons.mpr ⟨lw_p75, List.forall_mem_cons.mpr ⟨lw_p76, List.forall_mem_cons.mpr ⟨lw_p77, List.forall_mem_cons.mpr ⟨lw_p78, List.forall_mem_cons.mpr ⟨lw_p79, fun _ h => absurd h List.not_mem_nil⟩⟩⟩⟩⟩⟩⟩⟩⟩⟩⟩⟩⟩⟩⟩⟩
theorem lw_p80 : lw_okq (⟨"BridgesAreLentModel", "canShare", "(III)Z"⟩, 60) := ⟨⟨by decide +kernel, by decide +kernel⟩, List.mem_of_getElem? (i := 1289) (by decide +kernel), List.mem_of_getElem? (i := 1904) (by decide +kernel), List.mem_of_getElem? (i := 1905) (by decide +kernel)⟩
theorem lw_p81 : lw_okq (⟨"BridgesAreLentModel", "sharesBy", "(IIII)V"⟩, 60) := ⟨⟨by decide +kernel, by decide +kernel⟩, List.mem_of_getElem? (i := 1289) (by decide +kernel), List.mem_of_getElem? (i := 1909) (by decide +kernel), List.mem_of_getElem? (i := 1910) (by decide +kernel)⟩
theorem lw_p82 : lw_okq (⟨"BridgesAreLentModel", "homeIn", "(I)I"⟩, 60) := ⟨⟨by decide +kernel, by decide +kernel⟩, List.mem_of_getElem? (i := 1289) (by decide +kernel), List.mem_of_getElem? (i := 1931) (by decide +kernel), List.mem_of_getElem? (i := 1932) (by decide +kernel)⟩
theorem lw_p83 : lw_okq (⟨"BridgesAreLentModel", "isFreeThen", "(I)Z"⟩, 60) := ⟨⟨by decide +kernel, by decide +kernel⟩, List.mem_of_getElem? (i := 1289) (by decide +kernel), List.mem_of_getElem? (i := 1942) (by decide +kernel), List.mem_of_getElem? (i := 1943) (by decide +kernel)⟩
theorem lw_p84 : lw_okq (⟨"BridgesAreLentModel", "openThen", "()I"⟩, 60) := ⟨⟨by decide +kernel, by decide +kernel⟩, List.mem_of_getElem? (i := 1289) (by decide +kernel), List.mem_of_getElem? (i := 1946) (by decide +kernel), List.mem_of_getElem? (i := 1947) (by decide +kernel)⟩
theorem lw_p85 : lw_okq (⟨"BridgesAreLentModel", "bridgesBy", "(I)I"⟩, 60) := ⟨⟨by decide +kernel, by decide +kernel⟩, List.mem_of_getElem? (i := 1289) (by decide +kernel), List.mem_of_getElem? (i := 1963) (by decide +kernel), List.mem_of_getElem? (i := 1964) (by decide +kernel)⟩
def lw_privs_6 : List (MethodName × Nat) := [(⟨"BridgesAreLentModel", "canShare", "(III)Z"⟩, 60), (⟨"BridgesAreLentModel", "sharesBy", "(IIII)V"⟩, 60), (⟨"BridgesAreLentModel", "homeIn", "(I)I"⟩, 60), (⟨"BridgesAreLentModel", "isFreeThen", "(I)Z"⟩, 60), (⟨"BridgesAreLentModel", "openThen", "()I"⟩, 60), (⟨"BridgesAreLentModel", "bridgesBy", "(I)I"⟩, 60)]
theorem lw_r6 : ∀ q ∈ lw_privs_6, lw_okq q := List.forall_mem_cons.mpr ⟨lw_p80, List.forall_mem_cons.mpr ⟨lw_p81, List.forall_mem_cons.mpr ⟨lw_p82, List.forall_mem_cons.mpr ⟨lw_p83, List.forall_mem_cons.mpr ⟨lw_p84, List.forall_mem_cons.mpr ⟨lw_p85, fun _ h => absurd h List.not_mem_nil⟩⟩⟩⟩⟩⟩
def lw_privs : List (MethodName × Nat) := lw_privs_1 ++ (lw_privs_2 ++ (lw_privs_3 ++ (lw_privs_4 ++ (lw_privs_5 ++ (lw_privs_6)))))
def lw_tbl : List Cond := k2_sels lw_privs ++ tables_1
theorem lw_privs_ok : ∀ q ∈ lw_privs, lw_okq q := by
  show ∀ q ∈ lw_privs_1 ++ (lw_privs_2 ++ (lw_privs_3 ++ (lw_privs_4 ++ (lw_privs_5 ++ (lw_privs_6))))), lw_okq q
  exact List.forall_mem_append.mpr ⟨lw_r1, List.forall_mem_append.mpr ⟨lw_r2, List.forall_mem_append.mpr ⟨lw_r3, List.forall_mem_append.mpr ⟨lw_r4, List.forall_mem_append.mpr ⟨lw_r5, lw_r6⟩⟩⟩⟩⟩
end
section
def RX0 : String := "BridgesAreLent$Day"
def TX0 : u_T := fun k => match k with
  | 0 => ("BridgesAreLent$Day", "kind", "[I", true)
  | 1 => ("BridgesAreLent$Day", "first", "[I", true)
  | 2 => ("BridgesAreLent$Day", "second", "[I", true)
  | _ => ("BridgesAreLent$Day", "size", "I", false)
def tyX0 : Nat → FieldType := fun k => match k with
  | 0 => .array .int
  | 1 => .array .int
  | 2 => .array .int
  | _ => .int
theorem nmX0 : ∀ a, a < 4 → ∀ b, b < 4 → a ≠ b → (TX0 a).2.1 ≠ (TX0 b).2.1 := by decide +kernel
theorem tyX0_ok : ∀ k, k < 4 → parseFieldDescriptor (TX0 k).2.2.1 = some (tyX0 k) := by decide +kernel
abbrev cX0_init : ByteArray := prog_2_method_1_code
def yX0_init : MethodName := ⟨RX0, "<init>", "()V"⟩
abbrev cX0_read : ByteArray := prog_2_method_2_code
def yX0_read : MethodName := ⟨RX0, "read", "(LBridgesAreLent$Text;)V"⟩
abbrev cX0_readAct : ByteArray := prog_2_method_3_code
def yX0_readAct : MethodName := ⟨RX0, "readAct", "(LBridgesAreLent$Text;I)V"⟩
abbrev cX0_perform : ByteArray := prog_2_method_4_code
def yX0_perform : MethodName := ⟨RX0, "perform", "(LBridgesAreLent$Valley;)I"⟩
abbrev cX0_doesAct : ByteArray := prog_2_method_5_code
def yX0_doesAct : MethodName := ⟨RX0, "doesAct", "(LBridgesAreLent$Valley;I)Z"⟩
def RX1 : String := "BridgesAreLent$Drifting"
def TX1 : u_T := fun k => match k with
  | 0 => ("BridgesAreLent$Drifting", "valley", "LBridgesAreLent$Valley;", true)
  | 1 => ("BridgesAreLent$Drifting", "dream", "LBridgesAreLent$State;", true)
  | 2 => ("BridgesAreLent$Drifting", "chances", "[J", true)
  | _ => ("BridgesAreLent$Drifting", "whole", "J", false)
def tyX1 : Nat → FieldType := fun k => match k with
  | 0 => .object "BridgesAreLent$Valley"
  | 1 => .object "BridgesAreLent$State"
  | 2 => .array .long
  | _ => .long
theorem nmX1 : ∀ a, a < 4 → ∀ b, b < 4 → a ≠ b → (TX1 a).2.1 ≠ (TX1 b).2.1 := by decide +kernel
theorem tyX1_ok : ∀ k, k < 4 → parseFieldDescriptor (TX1 k).2.2.1 = some (tyX1 k) := by decide +kernel
abbrev cX1_init : ByteArray := prog_3_method_1_code
def yX1_init : MethodName := ⟨RX1, "<init>", "(LBridgesAreLent$Valley;)V"⟩
abbrev cX1_accepts : ByteArray := prog_3_method_2_code
def yX1_accepts : MethodName := ⟨RX1, "accepts", "(II)Z"⟩
abbrev cX1_spreadChances : ByteArray := prog_3_method_3_code
def yX1_spreadChances : MethodName := ⟨RX1, "spreadChances", "(III)V"⟩
abbrev cX1_passNight : ByteArray := prog_3_method_4_code
def yX1_passNight : MethodName := ⟨RX1, "passNight", "(I)V"⟩
abbrev cX1_likeliest : ByteArray := prog_3_method_5_code
def yX1_likeliest : MethodName := ⟨RX1, "likeliest", "()I"⟩
abbrev cX1_tellChance : ByteArray := prog_3_method_6_code
def yX1_tellChance : MethodName := ⟨RX1, "tellChance", "(LBridgesAreLent$Row;I)V"⟩
abbrev cX1_commonDivisor : ByteArray := prog_3_method_7_code
def yX1_commonDivisor : MethodName := ⟨RX1, "commonDivisor", "(JJ)J"⟩
abbrev cX1_tellYears : ByteArray := prog_3_method_8_code
def yX1_tellYears : MethodName := ⟨RX1, "tellYears", "(LBridgesAreLent$Row;II)I"⟩
abbrev cX1_driftsToShed : ByteArray := prog_3_method_9_code
def yX1_driftsToShed : MethodName := ⟨RX1, "driftsToShed", "(I)Z"⟩
abbrev cX1_dreamedPairs : ByteArray := prog_3_method_10_code
def yX1_dreamedPairs : MethodName := ⟨RX1, "dreamedPairs", "()I"⟩
def RX2 : String := "BridgesAreLent$Finds"
def TX2 : u_T := fun k => match k with
  | 0 => ("BridgesAreLent$Finds", "valley", "LBridgesAreLent$Valley;", true)
  | 1 => ("BridgesAreLent$Finds", "questions", "[I", true)
  | 2 => ("BridgesAreLent$Finds", "answers", "[Z", true)
  | _ => ("BridgesAreLent$Finds", "size", "I", false)
def tyX2 : Nat → FieldType := fun k => match k with
  | 0 => .object "BridgesAreLent$Valley"
  | 1 => .array .int
  | 2 => .array .boolean
  | _ => .int
theorem nmX2 : ∀ a, a < 4 → ∀ b, b < 4 → a ≠ b → (TX2 a).2.1 ≠ (TX2 b).2.1 := by decide +kernel
theorem tyX2_ok : ∀ k, k < 4 → parseFieldDescriptor (TX2 k).2.2.1 = some (tyX2 k) := by decide +kernel
abbrev cX2_init : ByteArray := prog_4_method_1_code
def yX2_init : MethodName := ⟨RX2, "<init>", "(LBridgesAreLent$Valley;)V"⟩
abbrev cX2_isQuestion : ByteArray := prog_4_method_2_code
def yX2_isQuestion : MethodName := ⟨RX2, "isQuestion", "(II)Z"⟩
abbrev cX2_add : ByteArray := prog_4_method_3_code
def yX2_add : MethodName := ⟨RX2, "add", "(III)I"⟩
abbrev cX2_isSo : ByteArray := prog_4_method_4_code
def yX2_isSo : MethodName := ⟨RX2, "isSo", "(II)Z"⟩
abbrev cX2_fits : ByteArray := prog_4_method_5_code
def yX2_fits : MethodName := ⟨RX2, "fits", "(I)Z"⟩
abbrev cX2_fitting : ByteArray := prog_4_method_6_code
def yX2_fitting : MethodName := ⟨RX2, "fitting", "()I"⟩
abbrev cX2_mostLeft : ByteArray := prog_4_method_7_code
def yX2_mostLeft : MethodName := ⟨RX2, "mostLeft", "(II)I"⟩
def RX3 : String := "BridgesAreLent$Layouts"
def TX3 : u_T := fun k => match k with
  | 0 => ("BridgesAreLent$Layouts", "valley", "LBridgesAreLent$Valley;", true)
  | 1 => ("BridgesAreLent$Layouts", "wishes", "[I", true)
  | 2 => ("BridgesAreLent$Layouts", "size", "I", false)
  | 3 => ("BridgesAreLent$Layouts", "wide", "[I", true)
  | _ => ("BridgesAreLent$Layouts", "enough", "[I", true)
def tyX3 : Nat → FieldType := fun k => match k with
  | 0 => .object "BridgesAreLent$Valley"
  | 1 => .array .int
  | 2 => .int
  | 3 => .array .int
  | _ => .array .int
theorem nmX3 : ∀ a, a < 5 → ∀ b, b < 5 → a ≠ b → (TX3 a).2.1 ≠ (TX3 b).2.1 := by decide +kernel
theorem tyX3_ok : ∀ k, k < 5 → parseFieldDescriptor (TX3 k).2.2.1 = some (tyX3 k) := by decide +kernel
abbrev cX3_init : ByteArray := prog_5_method_1_code
def yX3_init : MethodName := ⟨RX3, "<init>", "(LBridgesAreLent$Valley;)V"⟩
abbrev cX3_muster : ByteArray := prog_5_method_2_code
def yX3_muster : MethodName := ⟨RX3, "muster", "()I"⟩
abbrev cX3_fits : ByteArray := prog_5_method_3_code
def yX3_fits : MethodName := ⟨RX3, "fits", "(II)Z"⟩
abbrev cX3_tellLeast : ByteArray := prog_5_method_4_code
def yX3_tellLeast : MethodName := ⟨RX3, "tellLeast", "(LBridgesAreLent$Row;II)V"⟩
abbrev cX3_firstFor : ByteArray := prog_5_method_5_code
def yX3_firstFor : MethodName := ⟨RX3, "firstFor", "(III)I"⟩
abbrev cX3_wish : ByteArray := prog_5_method_6_code
def yX3_wish : MethodName := ⟨RX3, "wish", "(I)V"⟩
abbrev cX3_readErrands : ByteArray := prog_5_method_7_code
def yX3_readErrands : MethodName := ⟨RX3, "readErrands", "(LBridgesAreLent$Text;)V"⟩
abbrev cX3_grants : ByteArray := prog_5_method_8_code
def yX3_grants : MethodName := ⟨RX3, "grants", "(I)Z"⟩
abbrev cX3_tellFewest : ByteArray := prog_5_method_9_code
def yX3_tellFewest : MethodName := ⟨RX3, "tellFewest", "(LBridgesAreLent$Row;)I"⟩
abbrev cX3_tellBest : ByteArray := prog_5_method_10_code
def yX3_tellBest : MethodName := ⟨RX3, "tellBest", "(LBridgesAreLent$Row;)I"⟩
def RX4 : String := "BridgesAreLent$Memory"
def TX4 : u_T := fun k => match k with
  | 0 => ("BridgesAreLent$Memory", "ring", "[LBridgesAreLent$State;", true)
  | 1 => ("BridgesAreLent$Memory", "next", "I", false)
  | 2 => ("BridgesAreLent$Memory", "size", "I", false)
  | 3 => ("BridgesAreLent$Memory", "shelf", "[LBridgesAreLent$State;", true)
  | _ => ("BridgesAreLent$Memory", "shelved", "[Z", true)
def tyX4 : Nat → FieldType := fun k => match k with
  | 0 => .array (.object "BridgesAreLent$State")
  | 1 => .int
  | 2 => .int
  | 3 => .array (.object "BridgesAreLent$State")
  | _ => .array .boolean
theorem nmX4 : ∀ a, a < 5 → ∀ b, b < 5 → a ≠ b → (TX4 a).2.1 ≠ (TX4 b).2.1 := by decide +kernel
theorem tyX4_ok : ∀ k, k < 5 → parseFieldDescriptor (TX4 k).2.2.1 = some (tyX4 k) := by decide +kernel
abbrev cX4_init : ByteArray := prog_6_method_1_code
def yX4_init : MethodName := ⟨RX4, "<init>", "()V"⟩
abbrev cX4_note : ByteArray := prog_6_method_2_code
def yX4_note : MethodName := ⟨RX4, "note", "(LBridgesAreLent$State;)V"⟩
abbrev cX4_holdIf : ByteArray := prog_6_method_3_code
def yX4_holdIf : MethodName := ⟨RX4, "holdIf", "(Z)V"⟩
abbrev cX4_takeLatest : ByteArray := prog_6_method_4_code
def yX4_takeLatest : MethodName := ⟨RX4, "takeLatest", "()LBridgesAreLent$State;"⟩
abbrev cX4_forgetPast : ByteArray := prog_6_method_5_code
def yX4_forgetPast : MethodName := ⟨RX4, "forgetPast", "()V"⟩
abbrev cX4_forgetAll : ByteArray := prog_6_method_6_code
def yX4_forgetAll : MethodName := ⟨RX4, "forgetAll", "()V"⟩
abbrev cX4_shelve : ByteArray := prog_6_method_7_code
def yX4_shelve : MethodName := ⟨RX4, "shelve", "(ILBridgesAreLent$State;)Z"⟩
abbrev cX4_canReturnTo : ByteArray := prog_6_method_8_code
def yX4_canReturnTo : MethodName := ⟨RX4, "canReturnTo", "(ILBridgesAreLent$State;)Z"⟩
def RX5 : String := "BridgesAreLent$River"
def TX5 : u_T := fun k => match k with
  | 0 => ("BridgesAreLent$River", "banks", "I", false)
  | 1 => ("BridgesAreLent$River", "crossings", "I", false)
  | 2 => ("BridgesAreLent$River", "one", "[I", true)
  | 3 => ("BridgesAreLent$River", "other", "[I", true)
  | 4 => ("BridgesAreLent$River", "place", "[I", true)
  | 5 => ("BridgesAreLent$River", "width", "[I", true)
  | 6 => ("BridgesAreLent$River", "rank", "[I", true)
  | _ => ("BridgesAreLent$River", "order", "[I", true)
def tyX5 : Nat → FieldType := fun k => match k with
  | 0 => .int
  | 1 => .int
  | 2 => .array .int
  | 3 => .array .int
  | 4 => .array .int
  | 5 => .array .int
  | 6 => .array .int
  | _ => .array .int
theorem nmX5 : ∀ a, a < 8 → ∀ b, b < 8 → a ≠ b → (TX5 a).2.1 ≠ (TX5 b).2.1 := by decide +kernel
theorem tyX5_ok : ∀ k, k < 8 → parseFieldDescriptor (TX5 k).2.2.1 = some (tyX5 k) := by decide +kernel
abbrev cX5_init : ByteArray := prog_7_method_1_code
def yX5_init : MethodName := ⟨RX5, "<init>", "()V"⟩
abbrev cX5_read : ByteArray := prog_7_method_2_code
def yX5_read : MethodName := ⟨RX5, "read", "(LBridgesAreLent$Text;)V"⟩
abbrev cX5_orderDown : ByteArray := prog_7_method_3_code
def yX5_orderDown : MethodName := ⟨RX5, "orderDown", "()V"⟩
abbrev cX5_below : ByteArray := prog_7_method_4_code
def yX5_below : MethodName := ⟨RX5, "below", "(I)I"⟩
abbrev cX5_across : ByteArray := prog_7_method_5_code
def yX5_across : MethodName := ⟨RX5, "across", "(II)I"⟩
abbrev cX5_spread : ByteArray := prog_7_method_6_code
def yX5_spread : MethodName := ⟨RX5, "spread", "(II)I"⟩
abbrev cX5_withinSteps : ByteArray := prog_7_method_7_code
def yX5_withinSteps : MethodName := ⟨RX5, "withinSteps", "(III)I"⟩
abbrev cX5_reach : ByteArray := prog_7_method_8_code
def yX5_reach : MethodName := ⟨RX5, "reach", "(II)I"⟩
abbrev cX5_leads : ByteArray := prog_7_method_9_code
def yX5_leads : MethodName := ⟨RX5, "leads", "(III)Z"⟩
abbrev cX5_pairs : ByteArray := prog_7_method_10_code
def yX5_pairs : MethodName := ⟨RX5, "pairs", "(I)I"⟩
abbrev cX5_steps : ByteArray := prog_7_method_11_code
def yX5_steps : MethodName := ⟨RX5, "steps", "(III)I"⟩
abbrev cX5_tellWay : ByteArray := prog_7_method_12_code
def yX5_tellWay : MethodName := ⟨RX5, "tellWay", "(LBridgesAreLent$Row;IIII)V"⟩
def RX6 : String := "BridgesAreLent$Row"
def TX6 : u_T := fun k => match k with
  | 0 => ("BridgesAreLent$Row", "numbers", "[J", true)
  | _ => ("BridgesAreLent$Row", "size", "I", false)
def tyX6 : Nat → FieldType := fun k => match k with
  | 0 => .array .long
  | _ => .int
theorem nmX6 : ∀ a, a < 2 → ∀ b, b < 2 → a ≠ b → (TX6 a).2.1 ≠ (TX6 b).2.1 := by decide +kernel
theorem tyX6_ok : ∀ k, k < 2 → parseFieldDescriptor (TX6 k).2.2.1 = some (tyX6 k) := by decide +kernel
abbrev cX6_init : ByteArray := prog_8_method_1_code
def yX6_init : MethodName := ⟨RX6, "<init>", "()V"⟩
abbrev cX6_clear : ByteArray := prog_8_method_2_code
def yX6_clear : MethodName := ⟨RX6, "clear", "()V"⟩
abbrev cX6_add : ByteArray := prog_8_method_3_code
def yX6_add : MethodName := ⟨RX6, "add", "(J)V"⟩
abbrev cX6_tellOne : ByteArray := prog_8_method_4_code
def yX6_tellOne : MethodName := ⟨RX6, "tellOne", "(J)V"⟩
abbrev cX6_tellTwo : ByteArray := prog_8_method_5_code
def yX6_tellTwo : MethodName := ⟨RX6, "tellTwo", "(JJ)V"⟩
def RX7 : String := "BridgesAreLent$Rule"
def TX7 : u_T := fun k => match k with
  | 0 => ("BridgesAreLent$Rule", "code", "[I", false)
  | 1 => ("BridgesAreLent$Rule", "size", "I", false)
  | 2 => ("BridgesAreLent$Rule", "draft", "[I", false)
  | 3 => ("BridgesAreLent$Rule", "drafted", "I", false)
  | _ => ("BridgesAreLent$Rule", "stack", "[I", true)
def tyX7 : Nat → FieldType := fun k => match k with
  | 0 => .array .int
  | 1 => .int
  | 2 => .array .int
  | 3 => .int
  | _ => .array .int
theorem nmX7 : ∀ a, a < 5 → ∀ b, b < 5 → a ≠ b → (TX7 a).2.1 ≠ (TX7 b).2.1 := by decide +kernel
theorem tyX7_ok : ∀ k, k < 5 → parseFieldDescriptor (TX7 k).2.2.1 = some (tyX7 k) := by decide +kernel
abbrev cX7_init : ByteArray := prog_9_method_1_code
def yX7_init : MethodName := ⟨RX7, "<init>", "()V"⟩
abbrev cX7_read : ByteArray := prog_9_method_2_code
def yX7_read : MethodName := ⟨RX7, "read", "(LBridgesAreLent$Text;)V"⟩
abbrev cX7_adopt : ByteArray := prog_9_method_3_code
def yX7_adopt : MethodName := ⟨RX7, "adopt", "()V"⟩
abbrev cX7_emit : ByteArray := prog_9_method_4_code
def yX7_emit : MethodName := ⟨RX7, "emit", "(I)V"⟩
abbrev cX7_signsOf : ByteArray := prog_9_method_5_code
def yX7_signsOf : MethodName := ⟨RX7, "signsOf", "(I)Ljava/lang/String;"⟩
abbrev cX7_readLevel : ByteArray := prog_9_method_6_code
def yX7_readLevel : MethodName := ⟨RX7, "readLevel", "(LBridgesAreLent$Text;II)V"⟩
abbrev cX7_readSigned : ByteArray := prog_9_method_7_code
def yX7_readSigned : MethodName := ⟨RX7, "readSigned", "(LBridgesAreLent$Text;I)V"⟩
abbrev cX7_readThing : ByteArray := prog_9_method_8_code
def yX7_readThing : MethodName := ⟨RX7, "readThing", "(LBridgesAreLent$Text;I)V"⟩
abbrev cX7_reckon : ByteArray := prog_9_method_9_code
def yX7_reckon : MethodName := ⟨RX7, "reckon", "([I)I"⟩
abbrev cX7_apply : ByteArray := prog_9_method_10_code
def yX7_apply : MethodName := ⟨RX7, "apply", "(III)I"⟩
def RX8 : String := "BridgesAreLent$State"
def TX8 : u_T := fun k => match k with
  | 0 => ("BridgesAreLent$State", "bridges", "I", false)
  | 1 => ("BridgesAreLent$State", "where", "[I", true)
  | 2 => ("BridgesAreLent$State", "yet", "[I", true)
  | 3 => ("BridgesAreLent$State", "sound", "[I", true)
  | 4 => ("BridgesAreLent$State", "till", "[I", true)
  | 5 => ("BridgesAreLent$State", "people", "I", false)
  | 6 => ("BridgesAreLent$State", "bank", "[I", true)
  | 7 => ("BridgesAreLent$State", "now", "I", false)
  | _ => ("BridgesAreLent$State", "broken", "I", false)
def tyX8 : Nat → FieldType := fun k => match k with
  | 0 => .int
  | 1 => .array .int
  | 2 => .array .int
  | 3 => .array .int
  | 4 => .array .int
  | 5 => .int
  | 6 => .array .int
  | 7 => .int
  | _ => .int
theorem nmX8 : ∀ a, a < 9 → ∀ b, b < 9 → a ≠ b → (TX8 a).2.1 ≠ (TX8 b).2.1 := by decide +kernel
theorem tyX8_ok : ∀ k, k < 9 → parseFieldDescriptor (TX8 k).2.2.1 = some (tyX8 k) := by decide +kernel
abbrev cX8_init : ByteArray := prog_10_method_1_code
def yX8_init : MethodName := ⟨RX8, "<init>", "()V"⟩
abbrev cX8_become : ByteArray := prog_10_method_2_code
def yX8_become : MethodName := ⟨RX8, "become", "(LBridgesAreLent$State;)V"⟩
abbrev cX8_lies : ByteArray := prog_10_method_3_code
def yX8_lies : MethodName := ⟨RX8, "lies", "(I)Z"⟩
abbrev cX8_lyingAt : ByteArray := prog_10_method_4_code
def yX8_lyingAt : MethodName := ⟨RX8, "lyingAt", "(I)I"⟩
abbrev cX8_comingTo : ByteArray := prog_10_method_5_code
def yX8_comingTo : MethodName := ⟨RX8, "comingTo", "(I)I"⟩
abbrev cX8_isFree : ByteArray := prog_10_method_6_code
def yX8_isFree : MethodName := ⟨RX8, "isFree", "(I)Z"⟩
abbrev cX8_inShed : ByteArray := prog_10_method_7_code
def yX8_inShed : MethodName := ⟨RX8, "inShed", "()I"⟩
abbrev cX8_underTow : ByteArray := prog_10_method_8_code
def yX8_underTow : MethodName := ⟨RX8, "underTow", "()I"⟩
abbrev cX8_lent : ByteArray := prog_10_method_9_code
def yX8_lent : MethodName := ⟨RX8, "lent", "()I"⟩
def RX9 : String := "BridgesAreLent$Text"
def TX9 : u_T := fun k => match k with
  | 0 => ("BridgesAreLent$Text", "signs", "[I", true)
  | 1 => ("BridgesAreLent$Text", "size", "I", false)
  | 2 => ("BridgesAreLent$Text", "limit", "I", false)
  | 3 => ("BridgesAreLent$Text", "at", "I", false)
  | _ => ("BridgesAreLent$Text", "bad", "I", false)
def tyX9 : Nat → FieldType := fun k => match k with
  | 0 => .array .int
  | 1 => .int
  | 2 => .int
  | 3 => .int
  | _ => .int
theorem nmX9 : ∀ a, a < 5 → ∀ b, b < 5 → a ≠ b → (TX9 a).2.1 ≠ (TX9 b).2.1 := by decide +kernel
theorem tyX9_ok : ∀ k, k < 5 → parseFieldDescriptor (TX9 k).2.2.1 = some (tyX9 k) := by decide +kernel
abbrev cX9_init : ByteArray := prog_11_method_1_code
def yX9_init : MethodName := ⟨RX9, "<init>", "()V"⟩
abbrev cX9_put : ByteArray := prog_11_method_2_code
def yX9_put : MethodName := ⟨RX9, "put", "(I)I"⟩
abbrev cX9_cut : ByteArray := prog_11_method_3_code
def yX9_cut : MethodName := ⟨RX9, "cut", "(I)Z"⟩
abbrev cX9_open : ByteArray := prog_11_method_4_code
def yX9_open : MethodName := ⟨RX9, "open", "(I)V"⟩
abbrev cX9_peek : ByteArray := prog_11_method_5_code
def yX9_peek : MethodName := ⟨RX9, "peek", "()I"⟩
abbrev cX9_refuse : ByteArray := prog_11_method_6_code
def yX9_refuse : MethodName := ⟨RX9, "refuse", "()V"⟩
abbrev cX9_skip : ByteArray := prog_11_method_7_code
def yX9_skip : MethodName := ⟨RX9, "skip", "(I)Z"⟩
abbrev cX9_pick : ByteArray := prog_11_method_8_code
def yX9_pick : MethodName := ⟨RX9, "pick", "(II)I"⟩
abbrev cX9_oneOf : ByteArray := prog_11_method_9_code
def yX9_oneOf : MethodName := ⟨RX9, "oneOf", "(Ljava/lang/String;)I"⟩
abbrev cX9_atDigit : ByteArray := prog_11_method_10_code
def yX9_atDigit : MethodName := ⟨RX9, "atDigit", "()Z"⟩
abbrev cX9_number : ByteArray := prog_11_method_11_code
def yX9_number : MethodName := ⟨RX9, "number", "(I)I"⟩
abbrev cX9_bankBut : ByteArray := prog_11_method_12_code
def yX9_bankBut : MethodName := ⟨RX9, "bankBut", "(II)I"⟩
abbrev cX9_close : ByteArray := prog_11_method_13_code
def yX9_close : MethodName := ⟨RX9, "close", "()I"⟩
def RX10 : String := "BridgesAreLent$Valley"
def TX10 : u_T := fun k => match k with
  | 0 => ("BridgesAreLent$Valley", "river", "LBridgesAreLent$River;", false)
  | 1 => ("BridgesAreLent$Valley", "draft", "LBridgesAreLent$River;", false)
  | 2 => ("BridgesAreLent$Valley", "state", "LBridgesAreLent$State;", true)
  | 3 => ("BridgesAreLent$Valley", "rule", "LBridgesAreLent$Rule;", true)
  | 4 => ("BridgesAreLent$Valley", "length", "[I", true)
  | 5 => ("BridgesAreLent$Valley", "weight", "[I", true)
  | 6 => ("BridgesAreLent$Valley", "things", "[I", true)
  | 7 => ("BridgesAreLent$Valley", "came", "I", false)
  | _ => ("BridgesAreLent$Valley", "failed", "I", false)
def tyX10 : Nat → FieldType := fun k => match k with
  | 0 => .object "BridgesAreLent$River"
  | 1 => .object "BridgesAreLent$River"
  | 2 => .object "BridgesAreLent$State"
  | 3 => .object "BridgesAreLent$Rule"
  | 4 => .array .int
  | 5 => .array .int
  | 6 => .array .int
  | 7 => .int
  | _ => .int
theorem nmX10 : ∀ a, a < 9 → ∀ b, b < 9 → a ≠ b → (TX10 a).2.1 ≠ (TX10 b).2.1 := by decide +kernel
theorem tyX10_ok : ∀ k, k < 9 → parseFieldDescriptor (TX10 k).2.2.1 = some (tyX10 k) := by decide +kernel
abbrev cX10_init : ByteArray := prog_12_method_1_code
def yX10_init : MethodName := ⟨RX10, "<init>", "()V"⟩
abbrev cX10_settle : ByteArray := prog_12_method_2_code
def yX10_settle : MethodName := ⟨RX10, "settle", "()V"⟩
abbrev cX10_readBridges : ByteArray := prog_12_method_3_code
def yX10_readBridges : MethodName := ⟨RX10, "readBridges", "(LBridgesAreLent$Text;)I"⟩
abbrev cX10_readPeople : ByteArray := prog_12_method_4_code
def yX10_readPeople : MethodName := ⟨RX10, "readPeople", "(LBridgesAreLent$Text;)I"⟩
abbrev cX10_hasBank : ByteArray := prog_12_method_5_code
def yX10_hasBank : MethodName := ⟨RX10, "hasBank", "(I)Z"⟩
abbrev cX10_hasCrossing : ByteArray := prog_12_method_6_code
def yX10_hasCrossing : MethodName := ⟨RX10, "hasCrossing", "(I)Z"⟩
abbrev cX10_hasBridge : ByteArray := prog_12_method_7_code
def yX10_hasBridge : MethodName := ⟨RX10, "hasBridge", "(I)Z"⟩
abbrev cX10_hasPerson : ByteArray := prog_12_method_8_code
def yX10_hasPerson : MethodName := ⟨RX10, "hasPerson", "(I)Z"⟩
abbrev cX10_sounds : ByteArray := prog_12_method_9_code
def yX10_sounds : MethodName := ⟨RX10, "sounds", "(IIII)I"⟩
abbrev cX10_entry : ByteArray := prog_12_method_10_code
def yX10_entry : MethodName := ⟨RX10, "entry", "(II)I"⟩
abbrev cX10_towTime : ByteArray := prog_12_method_11_code
def yX10_towTime : MethodName := ⟨RX10, "towTime", "(II)I"⟩
abbrev cX10_placeOf : ByteArray := prog_12_method_12_code
def yX10_placeOf : MethodName := ⟨RX10, "placeOf", "(I)I"⟩
abbrev cX10_hoursByRule : ByteArray := prog_12_method_13_code
def yX10_hoursByRule : MethodName := ⟨RX10, "hoursByRule", "(II)I"⟩
abbrev cX10_startTow : ByteArray := prog_12_method_14_code
def yX10_startTow : MethodName := ⟨RX10, "startTow", "(II)I"⟩
abbrev cX10_setLoan : ByteArray := prog_12_method_15_code
def yX10_setLoan : MethodName := ⟨RX10, "setLoan", "(II)I"⟩
abbrev cX10_walk : ByteArray := prog_12_method_16_code
def yX10_walk : MethodName := ⟨RX10, "walk", "(II)I"⟩
abbrev cX10_passHours : ByteArray := prog_12_method_17_code
def yX10_passHours : MethodName := ⟨RX10, "passHours", "(I)V"⟩
abbrev cX10_comeNearer : ByteArray := prog_12_method_18_code
def yX10_comeNearer : MethodName := ⟨RX10, "comeNearer", "()V"⟩
abbrev cX10_endLoans : ByteArray := prog_12_method_19_code
def yX10_endLoans : MethodName := ⟨RX10, "endLoans", "()V"⟩
abbrev cX10_openFor : ByteArray := prog_12_method_20_code
def yX10_openFor : MethodName := ⟨RX10, "openFor", "(II)I"⟩
abbrev cX10_tooShortBy : ByteArray := prog_12_method_21_code
def yX10_tooShortBy : MethodName := ⟨RX10, "tooShortBy", "(I)I"⟩
abbrev cX10_canMove : ByteArray := prog_12_method_22_code
def yX10_canMove : MethodName := ⟨RX10, "canMove", "(II)Z"⟩
abbrev cX10_openWithMove : ByteArray := prog_12_method_23_code
def yX10_openWithMove : MethodName := ⟨RX10, "openWithMove", "(IIII)I"⟩
abbrev cX10_byOneMove : ByteArray := prog_12_method_24_code
def yX10_byOneMove : MethodName := ⟨RX10, "byOneMove", "(LBridgesAreLent$Row;III)Z"⟩
abbrev cX10_byTwoMoves : ByteArray := prog_12_method_25_code
def yX10_byTwoMoves : MethodName := ⟨RX10, "byTwoMoves", "(LBridgesAreLent$Row;III)Z"⟩
abbrev cX10_bySecondMove : ByteArray := prog_12_method_26_code
def yX10_bySecondMove : MethodName := ⟨RX10, "bySecondMove", "(LBridgesAreLent$Row;IIIII)Z"⟩
abbrev cX10_homeHour : ByteArray := prog_12_method_27_code
def yX10_homeHour : MethodName := ⟨RX10, "homeHour", "(I)I"⟩
def RX11 : String := "BridgesAreLent"
def TX11 : u_T := fun k => match k with
  | 0 => ("BridgesAreLent", "text", "LBridgesAreLent$Text;", true)
  | 1 => ("BridgesAreLent", "told", "LBridgesAreLent$Row;", true)
  | 2 => ("BridgesAreLent", "valley", "LBridgesAreLent$Valley;", true)
  | 3 => ("BridgesAreLent", "layouts", "LBridgesAreLent$Layouts;", true)
  | 4 => ("BridgesAreLent", "drifting", "LBridgesAreLent$Drifting;", true)
  | 5 => ("BridgesAreLent", "finds", "LBridgesAreLent$Finds;", true)
  | 6 => ("BridgesAreLent", "plan", "LBridgesAreLent$Day;", true)
  | _ => ("BridgesAreLent", "memory", "LBridgesAreLent$Memory;", true)
def tyX11 : Nat → FieldType := fun k => match k with
  | 0 => .object "BridgesAreLent$Text"
  | 1 => .object "BridgesAreLent$Row"
  | 2 => .object "BridgesAreLent$Valley"
  | 3 => .object "BridgesAreLent$Layouts"
  | 4 => .object "BridgesAreLent$Drifting"
  | 5 => .object "BridgesAreLent$Finds"
  | 6 => .object "BridgesAreLent$Day"
  | _ => .object "BridgesAreLent$Memory"
theorem nmX11 : ∀ a, a < 8 → ∀ b, b < 8 → a ≠ b → (TX11 a).2.1 ≠ (TX11 b).2.1 := by decide +kernel
theorem tyX11_ok : ∀ k, k < 8 → parseFieldDescriptor (TX11 k).2.2.1 = some (tyX11 k) := by decide +kernel
abbrev cX11_init : ByteArray := prog_1_method_1_code
def yX11_init : MethodName := ⟨RX11, "<init>", "()V"⟩
abbrev cX11_sign : ByteArray := prog_1_method_2_code
def yX11_sign : MethodName := ⟨RX11, "sign", "(I)I"⟩
abbrev cX11_end : ByteArray := prog_1_method_3_code
def yX11_end : MethodName := ⟨RX11, "end", "(I)Z"⟩
abbrev cX11_river : ByteArray := prog_1_method_4_code
def yX11_river : MethodName := ⟨RX11, "river", "()I"⟩
abbrev cX11_bridges : ByteArray := prog_1_method_5_code
def yX11_bridges : MethodName := ⟨RX11, "bridges", "()I"⟩
abbrev cX11_people : ByteArray := prog_1_method_6_code
def yX11_people : MethodName := ⟨RX11, "people", "()I"⟩
abbrev cX11_rule : ByteArray := prog_1_method_7_code
def yX11_rule : MethodName := ⟨RX11, "rule", "()I"⟩
abbrev cX11_crossing : ByteArray := prog_1_method_8_code
def yX11_crossing : MethodName := ⟨RX11, "crossing", "(II)I"⟩
abbrev cX11_bridge : ByteArray := prog_1_method_9_code
def yX11_bridge : MethodName := ⟨RX11, "bridge", "(II)I"⟩
abbrev cX11_person : ByteArray := prog_1_method_10_code
def yX11_person : MethodName := ⟨RX11, "person", "(II)I"⟩
abbrev cX11_sheet : ByteArray := prog_1_method_11_code
def yX11_sheet : MethodName := ⟨RX11, "sheet", "(IIII)I"⟩
abbrev cX11_takes : ByteArray := prog_1_method_12_code
def yX11_takes : MethodName := ⟨RX11, "takes", "(II)I"⟩
abbrev cX11_tow : ByteArray := prog_1_method_13_code
def yX11_tow : MethodName := ⟨RX11, "tow", "(II)I"⟩
abbrev cX11_lend : ByteArray := prog_1_method_14_code
def yX11_lend : MethodName := ⟨RX11, "lend", "(II)I"⟩
abbrev cX11_cross : ByteArray := prog_1_method_15_code
def yX11_cross : MethodName := ⟨RX11, "cross", "(II)I"⟩
abbrev cX11_hours : ByteArray := prog_1_method_16_code
def yX11_hours : MethodName := ⟨RX11, "hours", "(I)I"⟩
abbrev cX11_day : ByteArray := prog_1_method_17_code
def yX11_day : MethodName := ⟨RX11, "day", "()I"⟩
abbrev cX11_undo : ByteArray := prog_1_method_18_code
def yX11_undo : MethodName := ⟨RX11, "undo", "()I"⟩
abbrev cX11_route : ByteArray := prog_1_method_19_code
def yX11_route : MethodName := ⟨RX11, "route", "(II)I"⟩
abbrev cX11_joined : ByteArray := prog_1_method_20_code
def yX11_joined : MethodName := ⟨RX11, "joined", "(I)I"⟩
abbrev cX11_soonest : ByteArray := prog_1_method_21_code
def yX11_soonest : MethodName := ⟨RX11, "soonest", "(II)I"⟩
abbrev cX11_moves : ByteArray := prog_1_method_22_code
def yX11_moves : MethodName := ⟨RX11, "moves", "(II)I"⟩
abbrev cX11_needed : ByteArray := prog_1_method_23_code
def yX11_needed : MethodName := ⟨RX11, "needed", "()I"⟩
abbrev cX11_lays : ByteArray := prog_1_method_24_code
def yX11_lays : MethodName := ⟨RX11, "lays", "(I)I"⟩
abbrev cX11_joins : ByteArray := prog_1_method_25_code
def yX11_joins : MethodName := ⟨RX11, "joins", "(I)I"⟩
abbrev cX11_night : ByteArray := prog_1_method_26_code
def yX11_night : MethodName := ⟨RX11, "night", "()I"⟩
abbrev cX11_errands : ByteArray := prog_1_method_27_code
def yX11_errands : MethodName := ⟨RX11, "errands", "()I"⟩
abbrev cX11_flood : ByteArray := prog_1_method_28_code
def yX11_flood : MethodName := ⟨RX11, "flood", "(I)I"⟩
abbrev cX11_highest : ByteArray := prog_1_method_29_code
def yX11_highest : MethodName := ⟨RX11, "highest", "()I"⟩
abbrev cX11_worst : ByteArray := prog_1_method_30_code
def yX11_worst : MethodName := ⟨RX11, "worst", "(I)I"⟩
abbrev cX11_drift : ByteArray := prog_1_method_31_code
def yX11_drift : MethodName := ⟨RX11, "drift", "(IIII)I"⟩
abbrev cX11_seek : ByteArray := prog_1_method_32_code
def yX11_seek : MethodName := ⟨RX11, "seek", "(III)I"⟩
abbrev cX11_found : ByteArray := prog_1_method_33_code
def yX11_found : MethodName := ⟨RX11, "found", "(III)I"⟩
abbrev cX11_forget : ByteArray := prog_1_method_34_code
def yX11_forget : MethodName := ⟨RX11, "forget", "()I"⟩
abbrev cX11_stolen : ByteArray := prog_1_method_35_code
def yX11_stolen : MethodName := ⟨RX11, "stolen", "()I"⟩
abbrev cX11_ask : ByteArray := prog_1_method_36_code
def yX11_ask : MethodName := ⟨RX11, "ask", "()I"⟩
abbrev cX11_share : ByteArray := prog_1_method_37_code
def yX11_share : MethodName := ⟨RX11, "share", "(IIII)I"⟩
abbrev cX11_turn : ByteArray := prog_1_method_38_code
def yX11_turn : MethodName := ⟨RX11, "turn", "(III)I"⟩
abbrev cX11_rests : ByteArray := prog_1_method_39_code
def yX11_rests : MethodName := ⟨RX11, "rests", "(I)I"⟩
abbrev cX11_home : ByteArray := prog_1_method_40_code
def yX11_home : MethodName := ⟨RX11, "home", "()I"⟩
abbrev cX11_years : ByteArray := prog_1_method_41_code
def yX11_years : MethodName := ⟨RX11, "years", "(II)I"⟩
abbrev cX11_keep : ByteArray := prog_1_method_42_code
def yX11_keep : MethodName := ⟨RX11, "keep", "(I)Z"⟩
abbrev cX11_again : ByteArray := prog_1_method_43_code
def yX11_again : MethodName := ⟨RX11, "again", "(I)Z"⟩
abbrev cX11_count : ByteArray := prog_1_method_44_code
def yX11_count : MethodName := ⟨RX11, "count", "(I)I"⟩
abbrev cX11_row : ByteArray := prog_1_method_45_code
def yX11_row : MethodName := ⟨RX11, "row", "(I)J"⟩
abbrev cX11_forgetPastIf : ByteArray := prog_1_method_46_code
def yX11_forgetPastIf : MethodName := ⟨RX11, "forgetPastIf", "(Z)V"⟩
abbrev cX11_refusalAt : ByteArray := prog_1_method_47_code
def yX11_refusalAt : MethodName := ⟨RX11, "refusalAt", "(I)I"⟩
abbrev cX11_has : ByteArray := prog_1_method_48_code
def yX11_has : MethodName := ⟨RX11, "has", "(II)Z"⟩
abbrev cX11_within : ByteArray := prog_1_method_49_code
def yX11_within : MethodName := ⟨RX11, "within", "(II)Z"⟩
abbrev cX11_hoursWanted : ByteArray := prog_1_method_50_code
def yX11_hoursWanted : MethodName := ⟨RX11, "hoursWanted", "(IIII)I"⟩
abbrev cX11_gain : ByteArray := prog_1_method_51_code
def yX11_gain : MethodName := ⟨RX11, "gain", "(III)I"⟩
abbrev cX11_keepsPrice : ByteArray := prog_1_method_52_code
def yX11_keepsPrice : MethodName := ⟨RX11, "keepsPrice", "(III)Z"⟩
def RX12 : String := "BridgesAreLentModel"
def TX12 : u_T := fun k => match k with
  | 0 => ("BridgesAreLentModel", "thrown", "I", false)
  | 1 => ("BridgesAreLentModel", "rows", "I", false)
  | 2 => ("BridgesAreLentModel", "row", "[J", true)
  | 3 => ("BridgesAreLentModel", "banks", "I", false)
  | 4 => ("BridgesAreLentModel", "crossings", "I", false)
  | 5 => ("BridgesAreLentModel", "bridges", "I", false)
  | 6 => ("BridgesAreLentModel", "people", "I", false)
  | 7 => ("BridgesAreLentModel", "changes", "I", false)
  | 8 => ("BridgesAreLentModel", "one", "[I", true)
  | 9 => ("BridgesAreLentModel", "other", "[I", true)
  | 10 => ("BridgesAreLentModel", "spot", "[I", true)
  | 11 => ("BridgesAreLentModel", "width", "[I", true)
  | 12 => ("BridgesAreLentModel", "length", "[I", true)
  | 13 => ("BridgesAreLentModel", "heavy", "[I", true)
  | 14 => ("BridgesAreLentModel", "now", "[I", true)
  | 15 => ("BridgesAreLentModel", "tape", "[I", true)
  | 16 => ("BridgesAreLentModel", "taped", "I", false)
  | 17 => ("BridgesAreLentModel", "at", "I", false)
  | 18 => ("BridgesAreLentModel", "to", "I", false)
  | 19 => ("BridgesAreLentModel", "nest", "I", false)
  | 20 => ("BridgesAreLentModel", "read", "[I", true)
  | 21 => ("BridgesAreLentModel", "readBanks", "I", false)
  | 22 => ("BridgesAreLentModel", "readMany", "I", false)
  | 23 => ("BridgesAreLentModel", "firstBank", "I", false)
  | 24 => ("BridgesAreLentModel", "code", "[I", true)
  | 25 => ("BridgesAreLentModel", "readCode", "[I", true)
  | 26 => ("BridgesAreLentModel", "codeLong", "I", false)
  | 27 => ("BridgesAreLentModel", "readLong", "I", false)
  | 28 => ("BridgesAreLentModel", "stack", "[I", true)
  | 29 => ("BridgesAreLentModel", "asked", "[I", true)
  | 30 => ("BridgesAreLentModel", "undos", "I", false)
  | 31 => ("BridgesAreLentModel", "undone", "[I", true)
  | 32 => ("BridgesAreLentModel", "isLent", "Z", false)
  | 33 => ("BridgesAreLentModel", "cameBits", "I", false)
  | 34 => ("BridgesAreLentModel", "brokenBits", "I", false)
  | 35 => ("BridgesAreLentModel", "brokenMany", "I", false)
  | 36 => ("BridgesAreLentModel", "actSign", "[I", true)
  | 37 => ("BridgesAreLentModel", "actOne", "[I", true)
  | 38 => ("BridgesAreLentModel", "actTwo", "[I", true)
  | 39 => ("BridgesAreLentModel", "acts", "I", false)
  | 40 => ("BridgesAreLentModel", "far", "[I", true)
  | 41 => ("BridgesAreLentModel", "laid", "[I", true)
  | 42 => ("BridgesAreLentModel", "errandFrom", "[I", true)
  | 43 => ("BridgesAreLentModel", "errandTo", "[I", true)
  | 44 => ("BridgesAreLentModel", "errandMany", "I", false)
  | 45 => ("BridgesAreLentModel", "share", "[J", true)
  | 46 => ("BridgesAreLentModel", "shareNext", "[J", true)
  | 47 => ("BridgesAreLentModel", "shareAll", "J", false)
  | 48 => ("BridgesAreLentModel", "facts", "I", false)
  | 49 => ("BridgesAreLentModel", "factWhat", "[I", true)
  | 50 => ("BridgesAreLentModel", "factOf", "[I", true)
  | 51 => ("BridgesAreLentModel", "factIs", "[I", true)
  | 52 => ("BridgesAreLentModel", "byOne", "I", false)
  | 53 => ("BridgesAreLentModel", "byOther", "I", false)
  | 54 => ("BridgesAreLentModel", "missedByOne", "I", false)
  | 55 => ("BridgesAreLentModel", "missedByOther", "I", false)
  | 56 => ("BridgesAreLentModel", "then", "[I", true)
  | 57 => ("BridgesAreLentModel", "isKept", "[Z", true)
  | 58 => ("BridgesAreLentModel", "keptChanges", "[I", true)
  | _ => ("BridgesAreLentModel", "kept", "[I", true)
def tyX12 : Nat → FieldType := fun k => match k with
  | 0 => .int
  | 1 => .int
  | 2 => .array .long
  | 3 => .int
  | 4 => .int
  | 5 => .int
  | 6 => .int
  | 7 => .int
  | 8 => .array .int
  | 9 => .array .int
  | 10 => .array .int
  | 11 => .array .int
  | 12 => .array .int
  | 13 => .array .int
  | 14 => .array .int
  | 15 => .array .int
  | 16 => .int
  | 17 => .int
  | 18 => .int
  | 19 => .int
  | 20 => .array .int
  | 21 => .int
  | 22 => .int
  | 23 => .int
  | 24 => .array .int
  | 25 => .array .int
  | 26 => .int
  | 27 => .int
  | 28 => .array .int
  | 29 => .array .int
  | 30 => .int
  | 31 => .array .int
  | 32 => .boolean
  | 33 => .int
  | 34 => .int
  | 35 => .int
  | 36 => .array .int
  | 37 => .array .int
  | 38 => .array .int
  | 39 => .int
  | 40 => .array .int
  | 41 => .array .int
  | 42 => .array .int
  | 43 => .array .int
  | 44 => .int
  | 45 => .array .long
  | 46 => .array .long
  | 47 => .long
  | 48 => .int
  | 49 => .array .int
  | 50 => .array .int
  | 51 => .array .int
  | 52 => .int
  | 53 => .int
  | 54 => .int
  | 55 => .int
  | 56 => .array .int
  | 57 => .array .boolean
  | 58 => .array .int
  | _ => .array .int
theorem nmX12 : ∀ a, a < 60 → ∀ b, b < 60 → a ≠ b → (TX12 a).2.1 ≠ (TX12 b).2.1 := by decide +kernel
theorem tyX12_ok : ∀ k, k < 60 → parseFieldDescriptor (TX12 k).2.2.1 = some (tyX12 k) := by decide +kernel
abbrev cX12_init : ByteArray := prog_14_method_1_code
def yX12_init : MethodName := ⟨RX12, "<init>", "()V"⟩
abbrev cX12_thrown : ByteArray := prog_14_method_2_code
def yX12_thrown : MethodName := ⟨RX12, "thrown", "()I"⟩
abbrev cX12_refuse : ByteArray := prog_14_method_3_code
def yX12_refuse : MethodName := ⟨RX12, "refuse", "()I"⟩
abbrev cX12_in : ByteArray := prog_14_method_4_code
def yX12_in : MethodName := ⟨RX12, "in", "(JJJ)Z"⟩
abbrev cX12_has : ByteArray := prog_14_method_5_code
def yX12_has : MethodName := ⟨RX12, "has", "(II)Z"⟩
abbrev cX12_flag : ByteArray := prog_14_method_6_code
def yX12_flag : MethodName := ⟨RX12, "flag", "(Z)I"⟩
abbrev cX12_common : ByteArray := prog_14_method_7_code
def yX12_common : MethodName := ⟨RX12, "common", "(JJ)J"⟩
abbrev cX12_enters : ByteArray := prog_14_method_8_code
def yX12_enters : MethodName := ⟨RX12, "enters", "(J)V"⟩
abbrev cX12_isBank : ByteArray := prog_14_method_9_code
def yX12_isBank : MethodName := ⟨RX12, "isBank", "(I)Z"⟩
abbrev cX12_isCrossing : ByteArray := prog_14_method_10_code
def yX12_isCrossing : MethodName := ⟨RX12, "isCrossing", "(I)Z"⟩
abbrev cX12_isBridge : ByteArray := prog_14_method_11_code
def yX12_isBridge : MethodName := ⟨RX12, "isBridge", "(I)Z"⟩
abbrev cX12_isPerson : ByteArray := prog_14_method_12_code
def yX12_isPerson : MethodName := ⟨RX12, "isPerson", "(I)Z"⟩
abbrev cX12_sign : ByteArray := prog_14_method_13_code
def yX12_sign : MethodName := ⟨RX12, "sign", "(I)I"⟩
abbrev cX12_end : ByteArray := prog_14_method_14_code
def yX12_end : MethodName := ⟨RX12, "end", "(I)Z"⟩
abbrev cX12_begins : ByteArray := prog_14_method_15_code
def yX12_begins : MethodName := ⟨RX12, "begins", "(I)I"⟩
abbrev cX12_isNext : ByteArray := prog_14_method_16_code
def yX12_isNext : MethodName := ⟨RX12, "isNext", "(I)Z"⟩
abbrev cX12_isDigit : ByteArray := prog_14_method_17_code
def yX12_isDigit : MethodName := ⟨RX12, "isDigit", "()Z"⟩
abbrev cX12_among : ByteArray := prog_14_method_18_code
def yX12_among : MethodName := ⟨RX12, "among", "(Ljava/lang/String;)I"⟩
abbrev cX12_takesOf : ByteArray := prog_14_method_19_code
def yX12_takesOf : MethodName := ⟨RX12, "takesOf", "(Ljava/lang/String;)I"⟩
abbrev cX12_number : ByteArray := prog_14_method_20_code
def yX12_number : MethodName := ⟨RX12, "number", "(I)I"⟩
abbrev cX12_letter : ByteArray := prog_14_method_21_code
def yX12_letter : MethodName := ⟨RX12, "letter", "(I)I"⟩
abbrev cX12_faultOf : ByteArray := prog_14_method_22_code
def yX12_faultOf : MethodName := ⟨RX12, "faultOf", "(IIZ)I"⟩
abbrev cX12_twoBanks : ByteArray := prog_14_method_23_code
def yX12_twoBanks : MethodName := ⟨RX12, "twoBanks", "(I)I"⟩
abbrev cX12_readsCrossing : ByteArray := prog_14_method_24_code
def yX12_readsCrossing : MethodName := ⟨RX12, "readsCrossing", "()Z"⟩
abbrev cX12_river : ByteArray := prog_14_method_25_code
def yX12_river : MethodName := ⟨RX12, "river", "()I"⟩
abbrev cX12_comes : ByteArray := prog_14_method_26_code
def yX12_comes : MethodName := ⟨RX12, "comes", "()V"⟩
abbrev cX12_readsPair : ByteArray := prog_14_method_27_code
def yX12_readsPair : MethodName := ⟨RX12, "readsPair", "(Z)Z"⟩
abbrev cX12_readsPairs : ByteArray := prog_14_method_28_code
def yX12_readsPairs : MethodName := ⟨RX12, "readsPairs", "(Z)I"⟩
abbrev cX12_bridges : ByteArray := prog_14_method_29_code
def yX12_bridges : MethodName := ⟨RX12, "bridges", "()I"⟩
abbrev cX12_people : ByteArray := prog_14_method_30_code
def yX12_people : MethodName := ⟨RX12, "people", "()I"⟩
abbrev cX12_codes : ByteArray := prog_14_method_31_code
def yX12_codes : MethodName := ⟨RX12, "codes", "(I)V"⟩
abbrev cX12_readsThing : ByteArray := prog_14_method_32_code
def yX12_readsThing : MethodName := ⟨RX12, "readsThing", "()Z"⟩
abbrev cX12_readsRank : ByteArray := prog_14_method_33_code
def yX12_readsRank : MethodName := ⟨RX12, "readsRank", "(I)Z"⟩
abbrev cX12_rule : ByteArray := prog_14_method_34_code
def yX12_rule : MethodName := ⟨RX12, "rule", "()I"⟩
abbrev cX12_worked : ByteArray := prog_14_method_35_code
def yX12_worked : MethodName := ⟨RX12, "worked", "(III)I"⟩
abbrev cX12_ruled : ByteArray := prog_14_method_36_code
def yX12_ruled : MethodName := ⟨RX12, "ruled", "()I"⟩
abbrev cX12_spotOf : ByteArray := prog_14_method_37_code
def yX12_spotOf : MethodName := ⟨RX12, "spotOf", "(I)I"⟩
abbrev cX12_towOf : ByteArray := prog_14_method_38_code
def yX12_towOf : MethodName := ⟨RX12, "towOf", "(II)I"⟩
abbrev cX12_bridgeAt : ByteArray := prog_14_method_39_code
def yX12_bridgeAt : MethodName := ⟨RX12, "bridgeAt", "(IZ)I"⟩
abbrev cX12_openIn : ByteArray := prog_14_method_40_code
def yX12_openIn : MethodName := ⟨RX12, "openIn", "(II)I"⟩
abbrev cX12_reachOnce : ByteArray := prog_14_method_41_code
def yX12_reachOnce : MethodName := ⟨RX12, "reachOnce", "(II)I"⟩
abbrev cX12_reach : ByteArray := prog_14_method_42_code
def yX12_reach : MethodName := ⟨RX12, "reach", "(II)I"⟩
abbrev cX12_pairsOf : ByteArray := prog_14_method_43_code
def yX12_pairsOf : MethodName := ⟨RX12, "pairsOf", "(I)I"⟩
abbrev cX12_crossing : ByteArray := prog_14_method_44_code
def yX12_crossing : MethodName := ⟨RX12, "crossing", "(II)I"⟩
abbrev cX12_bridge : ByteArray := prog_14_method_45_code
def yX12_bridge : MethodName := ⟨RX12, "bridge", "(II)I"⟩
abbrev cX12_person : ByteArray := prog_14_method_46_code
def yX12_person : MethodName := ⟨RX12, "person", "(II)I"⟩
abbrev cX12_sheet : ByteArray := prog_14_method_47_code
def yX12_sheet : MethodName := ⟨RX12, "sheet", "(IIII)I"⟩
abbrev cX12_putsBy : ByteArray := prog_14_method_48_code
def yX12_putsBy : MethodName := ⟨RX12, "putsBy", "()V"⟩
abbrev cX12_adds : ByteArray := prog_14_method_49_code
def yX12_adds : MethodName := ⟨RX12, "adds", "(I)I"⟩
abbrev cX12_counts : ByteArray := prog_14_method_50_code
def yX12_counts : MethodName := ⟨RX12, "counts", "(I)I"⟩
abbrev cX12_undo : ByteArray := prog_14_method_51_code
def yX12_undo : MethodName := ⟨RX12, "undo", "()I"⟩
abbrev cX12_whyNot : ByteArray := prog_14_method_52_code
def yX12_whyNot : MethodName := ⟨RX12, "whyNot", "(II)I"⟩
abbrev cX12_takes : ByteArray := prog_14_method_53_code
def yX12_takes : MethodName := ⟨RX12, "takes", "(II)I"⟩
abbrev cX12_tows : ByteArray := prog_14_method_54_code
def yX12_tows : MethodName := ⟨RX12, "tows", "(II)I"⟩
abbrev cX12_lends : ByteArray := prog_14_method_55_code
def yX12_lends : MethodName := ⟨RX12, "lends", "(II)I"⟩
abbrev cX12_crosses : ByteArray := prog_14_method_56_code
def yX12_crosses : MethodName := ⟨RX12, "crosses", "(II)I"⟩
abbrev cX12_startsCounting : ByteArray := prog_14_method_57_code
def yX12_startsCounting : MethodName := ⟨RX12, "startsCounting", "()V"⟩
abbrev cX12_hourGoes : ByteArray := prog_14_method_58_code
def yX12_hourGoes : MethodName := ⟨RX12, "hourGoes", "()V"⟩
abbrev cX12_tow : ByteArray := prog_14_method_59_code
def yX12_tow : MethodName := ⟨RX12, "tow", "(II)I"⟩
abbrev cX12_lend : ByteArray := prog_14_method_60_code
def yX12_lend : MethodName := ⟨RX12, "lend", "(II)I"⟩
abbrev cX12_cross : ByteArray := prog_14_method_61_code
def yX12_cross : MethodName := ⟨RX12, "cross", "(II)I"⟩
abbrev cX12_hours : ByteArray := prog_14_method_62_code
def yX12_hours : MethodName := ⟨RX12, "hours", "(I)I"⟩
abbrev cX12_readsAct : ByteArray := prog_14_method_63_code
def yX12_readsAct : MethodName := ⟨RX12, "readsAct", "()Z"⟩
abbrev cX12_does : ByteArray := prog_14_method_64_code
def yX12_does : MethodName := ⟨RX12, "does", "(I)Z"⟩
abbrev cX12_day : ByteArray := prog_14_method_65_code
def yX12_day : MethodName := ⟨RX12, "day", "()I"⟩
abbrev cX12_laysFar : ByteArray := prog_14_method_66_code
def yX12_laysFar : MethodName := ⟨RX12, "laysFar", "(II)V"⟩
abbrev cX12_route : ByteArray := prog_14_method_67_code
def yX12_route : MethodName := ⟨RX12, "route", "(II)I"⟩
abbrev cX12_joined : ByteArray := prog_14_method_68_code
def yX12_joined : MethodName := ⟨RX12, "joined", "(I)I"⟩
abbrev cX12_soonest : ByteArray := prog_14_method_69_code
def yX12_soonest : MethodName := ⟨RX12, "soonest", "(II)I"⟩
abbrev cX12_isFree : ByteArray := prog_14_method_70_code
def yX12_isFree : MethodName := ⟨RX12, "isFree", "(I)Z"⟩
abbrev cX12_canPut : ByteArray := prog_14_method_71_code
def yX12_canPut : MethodName := ⟨RX12, "canPut", "(II)Z"⟩
abbrev cX12_openWith : ByteArray := prog_14_method_72_code
def yX12_openWith : MethodName := ⟨RX12, "openWith", "(IIII)I"⟩
abbrev cX12_canGo : ByteArray := prog_14_method_73_code
def yX12_canGo : MethodName := ⟨RX12, "canGo", "(III)Z"⟩
abbrev cX12_moves : ByteArray := prog_14_method_74_code
def yX12_moves : MethodName := ⟨RX12, "moves", "(II)I"⟩
abbrev cX12_needed : ByteArray := prog_14_method_75_code
def yX12_needed : MethodName := ⟨RX12, "needed", "()I"⟩
abbrev cX12_laysFrom : ByteArray := prog_14_method_76_code
def yX12_laysFrom : MethodName := ⟨RX12, "laysFrom", "(IIII)Z"⟩
abbrev cX12_canLay : ByteArray := prog_14_method_77_code
def yX12_canLay : MethodName := ⟨RX12, "canLay", "(I)Z"⟩
abbrev cX12_allCrossings : ByteArray := prog_14_method_78_code
def yX12_allCrossings : MethodName := ⟨RX12, "allCrossings", "()I"⟩
abbrev cX12_lays : ByteArray := prog_14_method_79_code
def yX12_lays : MethodName := ⟨RX12, "lays", "(I)I"⟩
abbrev cX12_joinsAll : ByteArray := prog_14_method_80_code
def yX12_joinsAll : MethodName := ⟨RX12, "joinsAll", "(I)Z"⟩
abbrev cX12_fewestFor : ByteArray := prog_14_method_81_code
def yX12_fewestFor : MethodName := ⟨RX12, "fewestFor", "()I"⟩
abbrev cX12_joins : ByteArray := prog_14_method_82_code
def yX12_joins : MethodName := ⟨RX12, "joins", "(I)I"⟩
abbrev cX12_night : ByteArray := prog_14_method_83_code
def yX12_night : MethodName := ⟨RX12, "night", "()I"⟩
abbrev cX12_errands : ByteArray := prog_14_method_84_code
def yX12_errands : MethodName := ⟨RX12, "errands", "()I"⟩
abbrev cX12_shortBy : ByteArray := prog_14_method_85_code
def yX12_shortBy : MethodName := ⟨RX12, "shortBy", "(I)I"⟩
abbrev cX12_pairsBy : ByteArray := prog_14_method_86_code
def yX12_pairsBy : MethodName := ⟨RX12, "pairsBy", "(I)I"⟩
abbrev cX12_flood : ByteArray := prog_14_method_87_code
def yX12_flood : MethodName := ⟨RX12, "flood", "(I)I"⟩
abbrev cX12_highest : ByteArray := prog_14_method_88_code
def yX12_highest : MethodName := ⟨RX12, "highest", "()I"⟩
abbrev cX12_worst : ByteArray := prog_14_method_89_code
def yX12_worst : MethodName := ⟨RX12, "worst", "(I)I"⟩
abbrev cX12_nextDown : ByteArray := prog_14_method_90_code
def yX12_nextDown : MethodName := ⟨RX12, "nextDown", "(I)I"⟩
abbrev cX12_isAt : ByteArray := prog_14_method_91_code
def yX12_isAt : MethodName := ⟨RX12, "isAt", "(I)Z"⟩
abbrev cX12_drifts : ByteArray := prog_14_method_92_code
def yX12_drifts : MethodName := ⟨RX12, "drifts", "(III)V"⟩
abbrev cX12_tellsShare : ByteArray := prog_14_method_93_code
def yX12_tellsShare : MethodName := ⟨RX12, "tellsShare", "(I)V"⟩
abbrev cX12_drift : ByteArray := prog_14_method_94_code
def yX12_drift : MethodName := ⟨RX12, "drift", "(IIII)I"⟩
abbrev cX12_seek : ByteArray := prog_14_method_95_code
def yX12_seek : MethodName := ⟨RX12, "seek", "(III)I"⟩
abbrev cX12_greatestOf : ByteArray := prog_14_method_96_code
def yX12_greatestOf : MethodName := ⟨RX12, "greatestOf", "(I)I"⟩
abbrev cX12_found : ByteArray := prog_14_method_97_code
def yX12_found : MethodName := ⟨RX12, "found", "(III)I"⟩
abbrev cX12_forget : ByteArray := prog_14_method_98_code
def yX12_forget : MethodName := ⟨RX12, "forget", "()I"⟩
abbrev cX12_isSo : ByteArray := prog_14_method_99_code
def yX12_isSo : MethodName := ⟨RX12, "isSo", "(III)Z"⟩
abbrev cX12_fitting : ByteArray := prog_14_method_100_code
def yX12_fitting : MethodName := ⟨RX12, "fitting", "()I"⟩
abbrev cX12_stolen : ByteArray := prog_14_method_101_code
def yX12_stolen : MethodName := ⟨RX12, "stolen", "()I"⟩
abbrev cX12_ask : ByteArray := prog_14_method_102_code
def yX12_ask : MethodName := ⟨RX12, "ask", "()I"⟩
abbrev cX12_sharesBy : ByteArray := prog_14_method_103_code
def yX12_sharesBy : MethodName := ⟨RX12, "sharesBy", "(IIII)V"⟩
abbrev cX12_canShare : ByteArray := prog_14_method_104_code
def yX12_canShare : MethodName := ⟨RX12, "canShare", "(III)Z"⟩
abbrev cX12_share : ByteArray := prog_14_method_105_code
def yX12_share : MethodName := ⟨RX12, "share", "(IIII)I"⟩
abbrev cX12_turn : ByteArray := prog_14_method_106_code
def yX12_turn : MethodName := ⟨RX12, "turn", "(III)I"⟩
abbrev cX12_earns : ByteArray := prog_14_method_107_code
def yX12_earns : MethodName := ⟨RX12, "earns", "(III)I"⟩
abbrev cX12_isRest : ByteArray := prog_14_method_108_code
def yX12_isRest : MethodName := ⟨RX12, "isRest", "(III)Z"⟩
abbrev cX12_rests : ByteArray := prog_14_method_109_code
def yX12_rests : MethodName := ⟨RX12, "rests", "(I)I"⟩
abbrev cX12_homeIn : ByteArray := prog_14_method_110_code
def yX12_homeIn : MethodName := ⟨RX12, "homeIn", "(I)I"⟩
abbrev cX12_home : ByteArray := prog_14_method_111_code
def yX12_home : MethodName := ⟨RX12, "home", "()I"⟩
abbrev cX12_openThen : ByteArray := prog_14_method_112_code
def yX12_openThen : MethodName := ⟨RX12, "openThen", "()I"⟩
abbrev cX12_isFreeThen : ByteArray := prog_14_method_113_code
def yX12_isFreeThen : MethodName := ⟨RX12, "isFreeThen", "(I)Z"⟩
abbrev cX12_years : ByteArray := prog_14_method_114_code
def yX12_years : MethodName := ⟨RX12, "years", "(II)I"⟩
abbrev cX12_keep : ByteArray := prog_14_method_115_code
def yX12_keep : MethodName := ⟨RX12, "keep", "(I)Z"⟩
abbrev cX12_again : ByteArray := prog_14_method_116_code
def yX12_again : MethodName := ⟨RX12, "again", "(I)Z"⟩
abbrev cX12_bridgesBy : ByteArray := prog_14_method_117_code
def yX12_bridgesBy : MethodName := ⟨RX12, "bridgesBy", "(I)I"⟩
abbrev cX12_count : ByteArray := prog_14_method_118_code
def yX12_count : MethodName := ⟨RX12, "count", "(I)I"⟩
abbrev cX12_row : ByteArray := prog_14_method_119_code
def yX12_row : MethodName := ⟨RX12, "row", "(I)J"⟩
def RJx145de : String := "java/io/Serializable"
def TJx145de : u_T := fun k => match k with
  | _ => ("", "", "", false)
def tyJx145de : Nat → FieldType := fun k => match k with
  | _ => .int
theorem nmJx145de : ∀ a, a < 0 → ∀ b, b < 0 → a ≠ b → (TJx145de a).2.1 ≠ (TJx145de b).2.1 := by decide +kernel
theorem tyJx145de_ok : ∀ k, k < 0 → parseFieldDescriptor (TJx145de k).2.2.1 = some (tyJx145de k) := by decide +kernel
def RJx9f9b0 : String := "java/lang/CharSequence"
def TJx9f9b0 : u_T := fun k => match k with
  | _ => ("", "", "", false)
def tyJx9f9b0 : Nat → FieldType := fun k => match k with
  | _ => .int
theorem nmJx9f9b0 : ∀ a, a < 0 → ∀ b, b < 0 → a ≠ b → (TJx9f9b0 a).2.1 ≠ (TJx9f9b0 b).2.1 := by decide +kernel
theorem tyJx9f9b0_ok : ∀ k, k < 0 → parseFieldDescriptor (TJx9f9b0 k).2.2.1 = some (tyJx9f9b0 k) := by decide +kernel
def RJ11 : String := "java/lang/Character"
def TJ11 : u_T := fun k => match k with
  | _ => ("", "", "", false)
def tyJ11 : Nat → FieldType := fun k => match k with
  | _ => .int
theorem nmJ11 : ∀ a, a < 0 → ∀ b, b < 0 → a ≠ b → (TJ11 a).2.1 ≠ (TJ11 b).2.1 := by decide +kernel
theorem tyJ11_ok : ∀ k, k < 0 → parseFieldDescriptor (TJ11 k).2.2.1 = some (tyJ11 k) := by decide +kernel
abbrev cJ11_isValidCodePoint_9a6ad : ByteArray := prog_17_method_11_code
def yJ11_isValidCodePoint_9a6ad : MethodName := ⟨RJ11, "isValidCodePoint", "(I)Z"⟩
abbrev cJ11_highSurrogate_5068e : ByteArray := prog_17_method_28_code
def yJ11_highSurrogate_5068e : MethodName := ⟨RJ11, "highSurrogate", "(I)C"⟩
abbrev cJ11_lowSurrogate_5068e : ByteArray := prog_17_method_29_code
def yJ11_lowSurrogate_5068e : MethodName := ⟨RJ11, "lowSurrogate", "(I)C"⟩
def RJxb160c : String := "java/lang/Comparable"
def TJxb160c : u_T := fun k => match k with
  | _ => ("", "", "", false)
def tyJxb160c : Nat → FieldType := fun k => match k with
  | _ => .int
theorem nmJxb160c : ∀ a, a < 0 → ∀ b, b < 0 → a ≠ b → (TJxb160c a).2.1 ≠ (TJxb160c b).2.1 := by decide +kernel
theorem tyJxb160c_ok : ∀ k, k < 0 → parseFieldDescriptor (TJxb160c k).2.2.1 = some (tyJxb160c k) := by decide +kernel
def RJ6 : String := "java/lang/Integer"
def TJ6 : u_T := fun k => match k with
  | _ => ("", "", "", false)
def tyJ6 : Nat → FieldType := fun k => match k with
  | _ => .int
theorem nmJ6 : ∀ a, a < 0 → ∀ b, b < 0 → a ≠ b → (TJ6 a).2.1 ≠ (TJ6 b).2.1 := by decide +kernel
theorem tyJ6_ok : ∀ k, k < 0 → parseFieldDescriptor (TJ6 k).2.2.1 = some (tyJ6 k) := by decide +kernel
abbrev cJ6_numberOfTrailingZeros_0f7a4 : ByteArray := prog_20_method_48_code
def yJ6_numberOfTrailingZeros_0f7a4 : MethodName := ⟨RJ6, "numberOfTrailingZeros", "(I)I"⟩
abbrev cJ6_bitCount_0f7a4 : ByteArray := prog_20_method_49_code
def yJ6_bitCount_0f7a4 : MethodName := ⟨RJ6, "bitCount", "(I)I"⟩
def RJ9 : String := "java/lang/Math"
def TJ9 : u_T := fun k => match k with
  | _ => ("", "", "", false)
def tyJ9 : Nat → FieldType := fun k => match k with
  | _ => .int
theorem nmJ9 : ∀ a, a < 0 → ∀ b, b < 0 → a ≠ b → (TJ9 a).2.1 ≠ (TJ9 b).2.1 := by decide +kernel
theorem tyJ9_ok : ∀ k, k < 0 → parseFieldDescriptor (TJ9 k).2.2.1 = some (tyJ9 k) := by decide +kernel
abbrev cJ9_abs_0f7a4 : ByteArray := prog_21_method_59_code
def yJ9_abs_0f7a4 : MethodName := ⟨RJ9, "abs", "(I)I"⟩
abbrev cJ9_max_7cf53 : ByteArray := prog_21_method_65_code
def yJ9_max_7cf53 : MethodName := ⟨RJ9, "max", "(II)I"⟩
abbrev cJ9_min_7cf53 : ByteArray := prog_21_method_69_code
def yJ9_min_7cf53 : MethodName := ⟨RJ9, "min", "(II)I"⟩
def RJ0 : String := "java/lang/String"
def TJ0 : u_T := fun k => match k with
  | _ => ("", "", "", false)
def tyJ0 : Nat → FieldType := fun k => match k with
  | _ => .int
theorem nmJ0 : ∀ a, a < 0 → ∀ b, b < 0 → a ≠ b → (TJ0 a).2.1 ≠ (TJ0 b).2.1 := by decide +kernel
theorem tyJ0_ok : ∀ k, k < 0 → parseFieldDescriptor (TJ0 k).2.2.1 = some (tyJ0 k) := by decide +kernel
abbrev cJ0_length_8abf5 : ByteArray := prog_23_method_54_code
def yJ0_length_8abf5 : MethodName := ⟨RJ0, "length", "()I"⟩
abbrev cJ0_charAt_5068e : ByteArray := prog_23_method_56_code
def yJ0_charAt_5068e : MethodName := ⟨RJ0, "charAt", "(I)C"⟩
abbrev cJ0_indexOf_0f7a4 : ByteArray := prog_23_method_79_code
def yJ0_indexOf_0f7a4 : MethodName := ⟨RJ0, "indexOf", "(I)I"⟩
abbrev cJ0_indexOf_7cf53 : ByteArray := prog_23_method_80_code
def yJ0_indexOf_7cf53 : MethodName := ⟨RJ0, "indexOf", "(II)I"⟩
abbrev cJ0_coder_7d493 : ByteArray := prog_23_method_152_code
def yJ0_coder_7d493 : MethodName := ⟨RJ0, "coder", "()B"⟩
abbrev cJ0_isLatin1_aae02 : ByteArray := prog_23_method_154_code
def yJ0_isLatin1_aae02 : MethodName := ⟨RJ0, "isLatin1", "()Z"⟩
abbrev cJ0_checkIndex_df160 : ByteArray := prog_23_method_155_code
def yJ0_checkIndex_df160 : MethodName := ⟨RJ0, "checkIndex", "(II)V"⟩
abbrev cJ0_checkBoundsBeginEnd_23922 : ByteArray := prog_23_method_158_code
def yJ0_checkBoundsBeginEnd_23922 : MethodName := ⟨RJ0, "checkBoundsBeginEnd", "(III)V"⟩
def RJ1 : String := "java/lang/StringLatin1"
def TJ1 : u_T := fun k => match k with
  | _ => ("", "", "", false)
def tyJ1 : Nat → FieldType := fun k => match k with
  | _ => .int
theorem nmJ1 : ∀ a, a < 0 → ∀ b, b < 0 → a ≠ b → (TJ1 a).2.1 ≠ (TJ1 b).2.1 := by decide +kernel
theorem tyJ1_ok : ∀ k, k < 0 → parseFieldDescriptor (TJ1 k).2.2.1 = some (tyJ1 k) := by decide +kernel
abbrev cJ1_charAt_3b067 : ByteArray := prog_24_method_2_code
def yJ1_charAt_3b067 : MethodName := ⟨RJ1, "charAt", "([BI)C"⟩
abbrev cJ1_canEncode_9a6ad : ByteArray := prog_24_method_4_code
def yJ1_canEncode_9a6ad : MethodName := ⟨RJ1, "canEncode", "(I)Z"⟩
abbrev cJ1_indexOf_4cfef : ByteArray := prog_24_method_22_code
def yJ1_indexOf_4cfef : MethodName := ⟨RJ1, "indexOf", "([BIII)I"⟩
abbrev cJ1_indexOfChar_4cfef : ByteArray := prog_24_method_23_code
def yJ1_indexOfChar_4cfef : MethodName := ⟨RJ1, "indexOfChar", "([BIII)I"⟩
def RJ2 : String := "java/lang/StringUTF16"
def TJ2 : u_T := fun k => match k with
  | _ => ("", "", "", false)
def tyJ2 : Nat → FieldType := fun k => match k with
  | _ => .int
theorem nmJ2 : ∀ a, a < 0 → ∀ b, b < 0 → a ≠ b → (TJ2 a).2.1 ≠ (TJ2 b).2.1 := by decide +kernel
theorem tyJ2_ok : ∀ k, k < 0 → parseFieldDescriptor (TJ2 k).2.2.1 = some (tyJ2 k) := by decide +kernel
abbrev cJ2_getChar_3b067 : ByteArray := prog_25_method_5_code
def yJ2_getChar_3b067 : MethodName := ⟨RJ2, "getChar", "([BI)C"⟩
abbrev cJ2_length_9d52b : ByteArray := prog_25_method_6_code
def yJ2_length_9d52b : MethodName := ⟨RJ2, "length", "([B)I"⟩
abbrev cJ2_indexOf_4cfef : ByteArray := prog_25_method_40_code
def yJ2_indexOf_4cfef : MethodName := ⟨RJ2, "indexOf", "([BIII)I"⟩
abbrev cJ2_indexOfChar_4cfef : ByteArray := prog_25_method_47_code
def yJ2_indexOfChar_4cfef : MethodName := ⟨RJ2, "indexOfChar", "([BIII)I"⟩
abbrev cJ2_indexOfCharUnsafe_4cfef : ByteArray := prog_25_method_48_code
def yJ2_indexOfCharUnsafe_4cfef : MethodName := ⟨RJ2, "indexOfCharUnsafe", "([BIII)I"⟩
abbrev cJ2_indexOfSupplementary_4cfef : ByteArray := prog_25_method_49_code
def yJ2_indexOfSupplementary_4cfef : MethodName := ⟨RJ2, "indexOfSupplementary", "([BIII)I"⟩
abbrev cJ2_charAt_3b067 : ByteArray := prog_25_method_83_code
def yJ2_charAt_3b067 : MethodName := ⟨RJ2, "charAt", "([BI)C"⟩
abbrev cJ2_checkIndex_2214a : ByteArray := prog_25_method_91_code
def yJ2_checkIndex_2214a : MethodName := ⟨RJ2, "checkIndex", "(I[B)V"⟩
abbrev cJ2_checkBoundsBeginEnd_d044e : ByteArray := prog_25_method_93_code
def yJ2_checkBoundsBeginEnd_d044e : MethodName := ⟨RJ2, "checkBoundsBeginEnd", "(II[B)V"⟩
def RJ10 : String := "java/lang/System"
def TJ10 : u_T := fun k => match k with
  | _ => ("", "", "", false)
def tyJ10 : Nat → FieldType := fun k => match k with
  | _ => .int
theorem nmJ10 : ∀ a, a < 0 → ∀ b, b < 0 → a ≠ b → (TJ10 a).2.1 ≠ (TJ10 b).2.1 := by decide +kernel
theorem tyJ10_ok : ∀ k, k < 0 → parseFieldDescriptor (TJ10 k).2.2.1 = some (tyJ10 k) := by decide +kernel
def RJxfd54e : String := "java/lang/constant/Constable"
def TJxfd54e : u_T := fun k => match k with
  | _ => ("", "", "", false)
def tyJxfd54e : Nat → FieldType := fun k => match k with
  | _ => .int
theorem nmJxfd54e : ∀ a, a < 0 → ∀ b, b < 0 → a ≠ b → (TJxfd54e a).2.1 ≠ (TJxfd54e b).2.1 := by decide +kernel
theorem tyJxfd54e_ok : ∀ k, k < 0 → parseFieldDescriptor (TJxfd54e k).2.2.1 = some (tyJxfd54e k) := by decide +kernel
def RJx3cf43 : String := "java/lang/constant/ConstantDesc"
def TJx3cf43 : u_T := fun k => match k with
  | _ => ("", "", "", false)
def tyJx3cf43 : Nat → FieldType := fun k => match k with
  | _ => .int
theorem nmJx3cf43 : ∀ a, a < 0 → ∀ b, b < 0 → a ≠ b → (TJx3cf43 a).2.1 ≠ (TJx3cf43 b).2.1 := by decide +kernel
theorem tyJx3cf43_ok : ∀ k, k < 0 → parseFieldDescriptor (TJx3cf43 k).2.2.1 = some (tyJx3cf43 k) := by decide +kernel
def RJ3 : String := "jdk/internal/util/Preconditions"
def TJ3 : u_T := fun k => match k with
  | _ => ("", "", "", false)
def tyJ3 : Nat → FieldType := fun k => match k with
  | _ => .int
theorem nmJ3 : ∀ a, a < 0 → ∀ b, b < 0 → a ≠ b → (TJ3 a).2.1 ≠ (TJ3 b).2.1 := by decide +kernel
theorem tyJ3_ok : ∀ k, k < 0 → parseFieldDescriptor (TJ3 k).2.2.1 = some (tyJ3 k) := by decide +kernel
abbrev cJ3_checkIndex_8e157 : ByteArray := prog_31_method_11_code
def yJ3_checkIndex_8e157 : MethodName := ⟨RJ3, "checkIndex", "(IILjava/util/function/BiFunction;)I"⟩
abbrev cJ3_checkFromToIndex_8c36e : ByteArray := prog_31_method_12_code
def yJ3_checkFromToIndex_8c36e : MethodName := ⟨RJ3, "checkFromToIndex", "(IIILjava/util/function/BiFunction;)I"⟩
def RL : String := "BridgesAreLentLaw"
abbrev cL_crossing : ByteArray := method_3_code
def yL_crossing : MethodName := ⟨RL, "crossing", "(LBridgesAreLent;II[J)I"⟩
abbrev cL_bridge : ByteArray := method_4_code
def yL_bridge : MethodName := ⟨RL, "bridge", "(LBridgesAreLent;II[J)I"⟩
abbrev cL_person : ByteArray := method_5_code
def yL_person : MethodName := ⟨RL, "person", "(LBridgesAreLent;II[J)I"⟩
abbrev cL_row : ByteArray := method_6_code
def yL_row : MethodName := ⟨RL, "row", "(LBridgesAreLent;I[J)I"⟩
abbrev cL_law : ByteArray := code
def yL_law : MethodName := ⟨RL, "law", "([I)Z"⟩
abbrev vwCl : List vw_C := [(RX0, TX0, 4), (RX1, TX1, 4), (RX2, TX2, 4), (RX3, TX3, 5), (RX4, TX4, 5), (RX5, TX5, 8), (RX6, TX6, 2), (RX7, TX7, 5), (RX8, TX8, 9), (RX9, TX9, 5), (RX10, TX10, 9), (RX11, TX11, 8), (RX12, TX12, 60)]
end
section
/-! THE PURE MACHINE. Cells stand in a list; a ref is virtual: 0 is the law's script, i + 1 the i-th cell that was made. -/
abbrev pj_C : Type := (Nat × vp_A) ⊕ (Nat × List Value)
/-- the cells, and whether the heap holds nothing else behind its base -/
abbrev pj_G : Type := List pj_C × Bool
abbrev pj_L : Type := List (Nat × Value)
def pj_ad (b base : Nat) : Nat → Nat
  | 0 => b
  | i + 1 => base + i
def pj_v (ad : Nat → Nat) : Value → Value
  | .ref i => .ref (ad i)
  | .int x => .int x
  | .long x => .long x
  | .float x => .float x
  | .double x => .double x
  | .null => .null
  | .retAddr x => .retAddr x
def pj_a (ad : Nat → Nat) (x : vp_A) : vp_A := (x.1, match x.2 with
  | .inl f => .inl f
  | .inr (.inl f) => .inr (.inl f)
  | .inr (.inr (.inl f)) => .inr (.inr (.inl f))
  | .inr (.inr (.inr (.inl f))) => .inr (.inr (.inr (.inl f)))
  | .inr (.inr (.inr (.inr f))) => .inr (.inr (.inr (.inr (fun j => (f j).map ad)))))
def pj_e (ad : Nat → Nat) (cy : Nat → ClassId) : pj_C → va_E
  | .inl x => .inl (cy x.1, pj_a ad x.2)
  | .inr x => .inr (x.1, x.2.map (pj_v ad))
def pj_w (ad : Nat → Nat) (cy : Nat → ClassId) : Nat → List pj_C → va_W
  | _, [] => []
  | k, c :: t => (ad (k + 1), pj_e ad cy c) :: pj_w ad cy (k + 1) t
theorem pj_w_get (ad : Nat → Nat) (cy : Nat → ClassId) : ∀ (σ : List pj_C) (k i : Nat), (pj_w ad cy k σ)[i]? = σ[i]?.map (fun c => (ad (k + i + 1), pj_e ad cy c))
  | [], k, i => by simp [pj_w]
  | c :: t, k, 0 => by simp [pj_w]
  | c :: t, k, i + 1 => by
    have h := pj_w_get ad cy t (k + 1) i
    simp only [pj_w, List.getElem?_cons_succ, h]
    have e : k + 1 + i + 1 = k + (i + 1) + 1 := by omega
    rw [e]
theorem pj_w_set (ad : Nat → Nat) (cy : Nat → ClassId) (c : pj_C) : ∀ (σ : List pj_C) (k i : Nat), (pj_w ad cy k σ).set i (ad (k + i + 1), pj_e ad cy c) = pj_w ad cy k (σ.set i c)
  | [], k, i => by simp [pj_w]
  | d :: t, k, 0 => by simp [pj_w]
  | d :: t, k, i + 1 => by
    have h := pj_w_set ad cy c t (k + 1) i
    have e : k + 1 + i + 1 = k + (i + 1) + 1 := by omega
    rw [e] at h
    simp only [pj_w, List.set_cons_succ, h]
theorem pj_w_app (ad : Nat → Nat) (cy : Nat → ClassId) (c : pj_C) : ∀ (σ : List pj_C) (k : Nat), pj_w ad cy k (σ ++ [c]) = pj_w ad cy k σ ++ [(ad (k + σ.length + 1), pj_e ad cy c)]
  | [], k => by simp [pj_w]
  | d :: t, k => by
    have h := pj_w_app ad cy c t (k + 1)
    have e : k + 1 + t.length + 1 = k + (t.length + 1) + 1 := by omega
    rw [e] at h
    simp only [pj_w, List.cons_append, h, List.length_cons]
theorem pj_D (b base : Nat) (cy : Nat → ClassId) (σ : List pj_C) : va_D (fun q => base ≤ q) (pj_w (pj_ad b base) cy 0 σ) := by
  refine ⟨fun i j p q hi hj e => ?_, fun k q hk => ?_⟩
  · rw [pj_w_get] at hi hj
    obtain ⟨c, -, rfl⟩ := Option.map_eq_some_iff.mp hi
    obtain ⟨d, -, rfl⟩ := Option.map_eq_some_iff.mp hj
    have e : base + (0 + i) = base + (0 + j) := e
    omega
  · rw [pj_w_get] at hk
    obtain ⟨c, -, rfl⟩ := Option.map_eq_some_iff.mp hk
    show base ≤ base + (0 + k)
    omega
/-- the cell at a virtual place -/
def pj_get (G : pj_G) : Nat → Option pj_C
  | 0 => none
  | i + 1 => G.1[i]?
def pj_put (G : pj_G) (a : Nat) (c : pj_C) : pj_G := (G.1.set (a - 1) c, G.2)
/-- the locals: read, written -/
def pj_ld : pj_L → Nat → Option Value
  | [], _ => none
  | (k, v) :: t, i => if k = i then some v else pj_ld t i
theorem pj_ld_mem : ∀ {L : pj_L} {i : Nat} {v : Value}, pj_ld L i = some v → (i, v) ∈ L
  | [], i, v, h => by simp [pj_ld] at h
  | (k, w) :: t, i, v, h => by
    simp only [pj_ld] at h
    by_cases e : k = i
    · rw [if_pos e] at h
      cases h
      rw [e]
      exact List.mem_cons_self
    · rw [if_neg e] at h
      exact List.mem_cons_of_mem _ (pj_ld_mem h)
def pj_f1 (i : Nat) (q : Nat × Value) : Bool := !(q.1 == i) && !(q.1 + 1 == i && q.2.category == 2)
def pj_f2 (i : Nat) (q : Nat × Value) : Bool := !(q.1 == i) && (!(q.1 == i + 1) && !(q.1 + 1 == i && q.2.category == 2))
def pj_st1 (L : pj_L) (i : Nat) (v : Value) : pj_L := (i, v) :: L.filter (pj_f1 i)
def pj_st2 (L : pj_L) (i : Nat) (v : Value) : pj_L := (i, v) :: L.filter (pj_f2 i)
def pj_l (ad : Nat → Nat) (L : pj_L) : pj_L := L.map (fun q => (q.1, pj_v ad q.2))
theorem pj_v_cat (ad : Nat → Nat) (v : Value) : (pj_v ad v).category = v.category := by cases v <;> rfl
theorem pj_l_f (ad : Nat → Nat) (f : Nat × Value → Bool) (hf : ∀ q : Nat × Value, f (q.1, pj_v ad q.2) = f q) : ∀ L : pj_L, (pj_l ad L).filter f = pj_l ad (L.filter f)
  | [] => rfl
  | q :: t => by
    have h := pj_l_f ad f hf t
    unfold pj_l at h ⊢
    rw [List.map_cons, List.filter_cons, hf q, h, List.filter_cons]
    by_cases e : f q = true
    · rw [if_pos e, if_pos e, List.map_cons]
    · rw [if_neg e, if_neg e]
theorem pj_l_1 (ad : Nat → Nat) (L : pj_L) (i : Nat) (v w : Value) (h : pj_v ad v = w) : (i, w) :: (pj_l ad L).filter (fun q => !(q.1 == i) && !(q.1 + 1 == i && q.2.category == 2)) = pj_l ad (pj_st1 L i v) := by
  have e : (pj_l ad L).filter (pj_f1 i) = pj_l ad (L.filter (pj_f1 i)) := pj_l_f ad (pj_f1 i) (fun q => by simp only [pj_f1, pj_v_cat]) L
  show (i, w) :: (pj_l ad L).filter (pj_f1 i) = _
  rw [e, ← h]
  rfl
theorem pj_l_2 (ad : Nat → Nat) (L : pj_L) (i : Nat) (v w : Value) (h : pj_v ad v = w) : (i, w) :: (pj_l ad L).filter (fun q => !(q.1 == i) && (!(q.1 == i + 1) && !(q.1 + 1 == i && q.2.category == 2))) = pj_l ad (pj_st2 L i v) := by
  have e : (pj_l ad L).filter (pj_f2 i) = pj_l ad (L.filter (pj_f2 i)) := pj_l_f ad (pj_f2 i) (fun q => by simp only [pj_f2, pj_v_cat]) L
  show (i, w) :: (pj_l ad L).filter (pj_f2 i) = _
  rw [e, ← h]
  rfl
theorem pj_l_at (ad : Nat → Nat) {ls : Array Slot} {nL : Nat} {L : pj_L} (h : lv_has ls nL (pj_l ad L)) {i : Nat} {v : Value} (e : pj_ld L i = some v) : ls[i]? = some (.val (pj_v ad v)) :=
  h.2.2 (i, pj_v ad v) (List.mem_map.mpr ⟨(i, v), pj_ld_mem e, rfl⟩)
theorem pj_l_ix (ad : Nat → Nat) {L : pj_L} {i : Nat} {v : Value} (e : pj_ld L i = some v) : ∃ k : Nat, (pj_l ad L)[k]? = some (i, pj_v ad v) := by
  have h : (i, pj_v ad v) ∈ pj_l ad L := List.mem_map.mpr ⟨(i, v), pj_ld_mem e, rfl⟩
  exact List.getElem?_of_mem h
end
section
/-! STEPS THAT SEE THE STACK ALONE -/
def pj_bi (f : Int32 → Int32 → Int32) : List Value → Option (List Value)
  | .int y :: .int x :: r => some (.int (f x y) :: r)
  | _ => none
def pj_bl (f : Int64 → Int64 → Int64) : List Value → Option (List Value)
  | .long y :: .long x :: r => some (.long (f x y) :: r)
  | _ => none
def pj_di (f : Int32 → Int32 → Int32) : List Value → Option (List Value)
  | .int y :: .int x :: r => if y = 0 then none else some (.int (f x y) :: r)
  | _ => none
def pj_dl (f : Int64 → Int64 → Int64) : List Value → Option (List Value)
  | .long y :: .long x :: r => if y = 0 then none else some (.long (f x y) :: r)
  | _ => none
def pj_ui (f : Int32 → Int32) : List Value → Option (List Value)
  | .int x :: r => some (.int (f x) :: r)
  | _ => none
def pj_i2l : List Value → Option (List Value)
  | .int x :: r => some (.long x.toInt64 :: r)
  | _ => none
def pj_l2i : List Value → Option (List Value)
  | .long x :: r => some (.int x.toInt32 :: r)
  | _ => none
def pj_lcmp : List Value → Option (List Value)
  | .long y :: .long x :: r => some (.int (lg_cmp x y) :: r)
  | _ => none
def pj_dup : List Value → Option (List Value)
  | v :: r => if v.category = 1 then some (v :: v :: r) else none
  | _ => none
def pj_pop : List Value → Option (List Value)
  | v :: r => if v.category = 1 then some r else none
  | _ => none
def pj_dup2 : List Value → Option (List Value)
  | .int y :: x :: r => if x.category = 1 then some (.int y :: x :: .int y :: x :: r) else none
  | .long y :: r => some (.long y :: .long y :: r)
  | _ => none
theorem pj_bi_s {f : Int32 → Int32 → Int32} {S S' : List Value} (h : pj_bi f S = some S') : ∃ x y r, S = .int y :: .int x :: r ∧ S' = .int (f x y) :: r := by
  unfold pj_bi at h
  split at h
  · cases h; exact ⟨_, _, _, rfl, rfl⟩
  · cases h
theorem pj_bl_s {f : Int64 → Int64 → Int64} {S S' : List Value} (h : pj_bl f S = some S') : ∃ x y r, S = .long y :: .long x :: r ∧ S' = .long (f x y) :: r := by
  unfold pj_bl at h
  split at h
  · cases h; exact ⟨_, _, _, rfl, rfl⟩
  · cases h
theorem pj_di_s {f : Int32 → Int32 → Int32} {S S' : List Value} (h : pj_di f S = some S') : ∃ x y r, S = .int y :: .int x :: r ∧ S' = .int (f x y) :: r ∧ ¬ y = 0 := by
  unfold pj_di at h
  split at h
  · split at h
    · cases h
    · cases h; exact ⟨_, _, _, rfl, rfl, by assumption⟩
  · cases h
theorem pj_dl_s {f : Int64 → Int64 → Int64} {S S' : List Value} (h : pj_dl f S = some S') : ∃ x y r, S = .long y :: .long x :: r ∧ S' = .long (f x y) :: r ∧ ¬ y = 0 := by
  unfold pj_dl at h
  split at h
  · split at h
    · cases h
    · cases h; exact ⟨_, _, _, rfl, rfl, by assumption⟩
  · cases h
theorem pj_ui_s {f : Int32 → Int32} {S S' : List Value} (h : pj_ui f S = some S') : ∃ x r, S = .int x :: r ∧ S' = .int (f x) :: r := by
  unfold pj_ui at h
  split at h
  · cases h; exact ⟨_, _, rfl, rfl⟩
  · cases h
def pj_k (i : Instr) (S : List Value) : Option (List Value) := match i with
  | .iconst n => some (.int (Int32.ofInt n) :: S)
  | .bipush n => some (.int (Int8.ofInt n).toInt32 :: S)
  | .sipush n => some (.int (Int16.ofInt n).toInt32 :: S)
  | .lconst n => some (.long (Int64.ofNat (n : Nat)) :: S)
  | .iadd => pj_bi (fun x y => x + y) S
  | .isub => pj_bi (fun x y => x - y) S
  | .imul => pj_bi (fun x y => x * y) S
  | .iand => pj_bi (fun x y => x &&& y) S
  | .ior => pj_bi (fun x y => x ||| y) S
  | .ixor => pj_bi (fun x y => x ^^^ y) S
  | .ishl => pj_bi (fun x y => x <<< (y &&& 31)) S
  | .ishr => pj_bi (fun x y => x >>> (y &&& 31)) S
  | .iushr => pj_bi (fun x y => (x.toUInt32 >>> (y.toUInt32 &&& Int32.toUInt32 31)).toInt32) S
  | .ladd => pj_bl (fun x y => x + y) S
  | .lsub => pj_bl (fun x y => x - y) S
  | .lmul => pj_bl (fun x y => x * y) S
  | .idiv => pj_di (fun x y => x / y) S
  | .irem => pj_di (fun x y => x - x / y * y) S
  | .ldiv => pj_dl (fun x y => x / y) S
  | .lrem => pj_dl (fun x y => x - x / y * y) S
  | .ineg => pj_ui (fun x => -x) S
  | .i2b => pj_ui (fun x => x.toInt8.toInt32) S
  | .i2s => pj_ui (fun x => x.toInt16.toInt32) S
  | .i2c => pj_ui (fun x => (x.toUInt32 % 65536).toInt32) S
  | .i2l => pj_i2l S
  | .l2i => pj_l2i S
  | .lcmp => pj_lcmp S
  | .dup => pj_dup S
  | .pop => pj_pop S
  | .dup2 => pj_dup2 S
  | _ => none
/-- the length of an instruction -/
def pj_len : Instr → Nat
  | .bipush _ => 2 | .sipush _ => 3 | .iload _ => 2 | .lload _ => 2 | .aload _ => 2 | .istore _ => 2 | .lstore _ => 2 | .astore _ => 2 | .iinc _ _ => 3
  | .ifCond _ _ => 3 | .if_icmp _ _ => 3 | .goto _ => 3 | .getfield _ => 3 | .putfield _ => 3 | .new _ => 3 | .newarray _ => 2 | .anewarray _ => 3
  | .invokevirtual _ => 3 | .invokespecial _ => 3 | .invokestatic _ => 3 | .ldc _ => 2 | .ldc_w _ => 3 | .ldc2_w _ => 3 | _ => 1
section PJK
variable {p : Program} {l : Launch} {e : Env} {R : Room} {s : State} {m : MethodId} {args : Array Value} {below : List Frame} {meth : Method} {c : Code} {H : Heap} {locs : List Loc} {cells slots : Nat} {Q : State → Prop}
variable {cc : ByteArray} {pc : Nat} {ls : Array Slot}
set_option maxHeartbeats 4000000 in
theorem pj_k_snd (ad : Nat → Nat) (hx : p.tables.exec = Jvm.exec) (hb : c.code = cc) {i : Instr} {S S' : List Value} (hd : decode cc pc = .ok (i, pj_len i)) (h : pj_k i S = some S')
    (k : W p l e R s m args below meth c H locs cells slots Q (F0 m (pc + pj_len i) ls (S'.map (pj_v ad)))) : W p l e R s m args below meth c H locs cells slots Q (F0 m pc ls (S.map (pj_v ad))) := by
  cases i
  case iconst n => cases h; exact lv_iconst hx hb hd rfl k
  case bipush n => cases h; exact lv_bipush hx hb hd rfl k
  case sipush n => cases h; exact lv_sipush hx hb hd rfl k
  case lconst n => cases h; exact lv_lconst hx hb hd rfl k
  case iadd =>
    obtain ⟨x, y, r, rfl, rfl⟩ := pj_bi_s h
    exact lv_iadd hx hb hd k
  case isub =>
    obtain ⟨x, y, r, rfl, rfl⟩ := pj_bi_s h
    exact lv_isub hx hb hd k
  case imul =>
    obtain ⟨x, y, r, rfl, rfl⟩ := pj_bi_s h
    exact lv_imul hx hb hd k
  case iand =>
    obtain ⟨x, y, r, rfl, rfl⟩ := pj_bi_s h
    exact lv_iand hx hb hd k
  case ior =>
    obtain ⟨x, y, r, rfl, rfl⟩ := pj_bi_s h
    exact lv_ior hx hb hd k
  case ixor =>
    obtain ⟨x, y, r, rfl, rfl⟩ := pj_bi_s h
    exact lv_ixor hx hb hd k
  case ishl =>
    obtain ⟨x, y, r, rfl, rfl⟩ := pj_bi_s h
    exact lv_ishl hx hb hd k
  case ishr =>
    obtain ⟨x, y, r, rfl, rfl⟩ := pj_bi_s h
    exact lv_ishr hx hb hd k
  case iushr =>
    obtain ⟨x, y, r, rfl, rfl⟩ := pj_bi_s h
    exact lv_iushr hx hb hd rfl k
  case ladd =>
    obtain ⟨x, y, r, rfl, rfl⟩ := pj_bl_s h
    exact lv_ladd hx hb hd k
  case lsub =>
    obtain ⟨x, y, r, rfl, rfl⟩ := pj_bl_s h
    exact lv_lsub hx hb hd k
  case lmul =>
    obtain ⟨x, y, r, rfl, rfl⟩ := pj_bl_s h
    exact lv_lmul hx hb hd k
  case idiv =>
    obtain ⟨x, y, r, rfl, rfl, h0⟩ := pj_di_s h
    exact lv_idiv hx hb hd h0 k
  case irem =>
    obtain ⟨x, y, r, rfl, rfl, h0⟩ := pj_di_s h
    exact lv_irem hx hb hd h0 k
  case ldiv =>
    obtain ⟨x, y, r, rfl, rfl, h0⟩ := pj_dl_s h
    exact lv_ldiv hx hb hd h0 k
  case lrem =>
    obtain ⟨x, y, r, rfl, rfl, h0⟩ := pj_dl_s h
    exact lv_lrem hx hb hd h0 k
  case ineg =>
    obtain ⟨x, r, rfl, rfl⟩ := pj_ui_s h
    exact lv_ineg hx hb hd k
  case i2b =>
    obtain ⟨x, r, rfl, rfl⟩ := pj_ui_s h
    exact lv_i2b hx hb hd rfl k
  case i2s =>
    obtain ⟨x, r, rfl, rfl⟩ := pj_ui_s h
    exact lv_i2s hx hb hd rfl k
  case i2c =>
    obtain ⟨x, r, rfl, rfl⟩ := pj_ui_s h
    exact lv_i2c hx hb hd rfl k
  case i2l =>
    have h : pj_i2l S = some S' := h
    unfold pj_i2l at h
    split at h
    · cases h; exact lv_i2l hx hb hd rfl k
    · cases h
  case l2i =>
    have h : pj_l2i S = some S' := h
    unfold pj_l2i at h
    split at h
    · cases h; exact lv_l2i hx hb hd rfl k
    · cases h
  case lcmp =>
    have h : pj_lcmp S = some S' := h
    unfold pj_lcmp at h
    split at h
    · cases h; exact W.lcmp hx hb hd k
    · cases h
  case dup =>
    have h : pj_dup S = some S' := h
    unfold pj_dup at h
    split at h
    · split at h
      · cases h; exact lv_dup hx hb hd (by rw [pj_v_cat]; assumption) k
      · cases h
    · cases h
  case pop =>
    have h : pj_pop S = some S' := h
    unfold pj_pop at h
    split at h
    · split at h
      · cases h; exact lv_pop hx hb hd (by rw [pj_v_cat]; assumption) k
      · cases h
    · cases h
  case dup2 =>
    have h : pj_dup2 S = some S' := h
    unfold pj_dup2 at h
    split at h
    · split at h
      · cases h; exact lv_dup2_11 hx hb hd rfl (by rw [pj_v_cat]; assumption) k
      · cases h
    · cases h; exact lv_dup2_2 hx hb hd rfl k
    · cases h
  all_goals cases (show (none : Option (List Value)) = some S' from h)
end PJK
/-! STEPS THAT SEE THE LOCALS -/
def pj_li (L : pj_L) (i : Nat) (S : List Value) : Option (pj_L × List Value) := match pj_ld L i with
  | some (.int x) => some (L, .int x :: S)
  | _ => none
def pj_ll (L : pj_L) (i : Nat) (S : List Value) : Option (pj_L × List Value) := match pj_ld L i with
  | some (.long x) => some (L, .long x :: S)
  | _ => none
def pj_la (L : pj_L) (i : Nat) (S : List Value) : Option (pj_L × List Value) := match pj_ld L i with
  | some (.ref x) => some (L, .ref x :: S)
  | _ => none
def pj_si (nL : Nat) (L : pj_L) (i : Nat) : List Value → Option (pj_L × List Value)
  | .int x :: r => if i < nL then some (pj_st1 L i (.int x), r) else none
  | _ => none
def pj_sl (nL : Nat) (L : pj_L) (i : Nat) : List Value → Option (pj_L × List Value)
  | .long x :: r => if i + 1 < nL then some (pj_st2 L i (.long x), r) else none
  | _ => none
def pj_sa (nL : Nat) (L : pj_L) (i : Nat) : List Value → Option (pj_L × List Value)
  | .ref x :: r => if i < nL then some (pj_st1 L i (.ref x), r) else none
  | _ => none
def pj_ic (nL : Nat) (L : pj_L) (i : Nat) (n : Int) (S : List Value) : Option (pj_L × List Value) := match pj_ld L i with
  | some (.int x) => if i < nL then some (pj_st1 L i (.int (x + Int32.ofInt n)), S) else none
  | _ => none
def pj_kl (nL : Nat) (i : Instr) (L : pj_L) (S : List Value) : Option (pj_L × List Value) := match i with
  | .iload_n k => pj_li L k S
  | .iload k => pj_li L k S
  | .lload_n k => pj_ll L k S
  | .lload k => pj_ll L k S
  | .aload_n k => pj_la L k S
  | .aload k => pj_la L k S
  | .istore_n k => pj_si nL L k S
  | .istore k => pj_si nL L k S
  | .lstore_n k => pj_sl nL L k S
  | .lstore k => pj_sl nL L k S
  | .astore_n k => pj_sa nL L k S
  | .astore k => pj_sa nL L k S
  | .iinc k n => pj_ic nL L k n S
  | _ => none
theorem pj_li_s {L L' : pj_L} {i : Nat} {S S' : List Value} (h : pj_li L i S = some (L', S')) : ∃ x, pj_ld L i = some (.int x) ∧ L' = L ∧ S' = .int x :: S := by
  unfold pj_li at h
  split at h
  · cases h; exact ⟨_, by assumption, rfl, rfl⟩
  · cases h
theorem pj_ll_s {L L' : pj_L} {i : Nat} {S S' : List Value} (h : pj_ll L i S = some (L', S')) : ∃ x, pj_ld L i = some (.long x) ∧ L' = L ∧ S' = .long x :: S := by
  unfold pj_ll at h
  split at h
  · cases h; exact ⟨_, by assumption, rfl, rfl⟩
  · cases h
theorem pj_la_s {L L' : pj_L} {i : Nat} {S S' : List Value} (h : pj_la L i S = some (L', S')) : ∃ x, pj_ld L i = some (.ref x) ∧ L' = L ∧ S' = .ref x :: S := by
  unfold pj_la at h
  split at h
  · cases h; exact ⟨_, by assumption, rfl, rfl⟩
  · cases h
theorem pj_si_s {nL : Nat} {L L' : pj_L} {i : Nat} {S S' : List Value} (h : pj_si nL L i S = some (L', S')) : ∃ x, S = .int x :: S' ∧ i < nL ∧ L' = pj_st1 L i (.int x) := by
  unfold pj_si at h
  split at h
  · split at h
    · cases h; exact ⟨_, rfl, by assumption, rfl⟩
    · cases h
  · cases h
theorem pj_sl_s {nL : Nat} {L L' : pj_L} {i : Nat} {S S' : List Value} (h : pj_sl nL L i S = some (L', S')) : ∃ x, S = .long x :: S' ∧ i + 1 < nL ∧ L' = pj_st2 L i (.long x) := by
  unfold pj_sl at h
  split at h
  · split at h
    · cases h; exact ⟨_, rfl, by assumption, rfl⟩
    · cases h
  · cases h
theorem pj_sa_s {nL : Nat} {L L' : pj_L} {i : Nat} {S S' : List Value} (h : pj_sa nL L i S = some (L', S')) : ∃ x, S = .ref x :: S' ∧ i < nL ∧ L' = pj_st1 L i (.ref x) := by
  unfold pj_sa at h
  split at h
  · split at h
    · cases h; exact ⟨_, rfl, by assumption, rfl⟩
    · cases h
  · cases h
theorem pj_ic_s {nL : Nat} {L L' : pj_L} {i : Nat} {n : Int} {S S' : List Value} (h : pj_ic nL L i n S = some (L', S')) : ∃ x, pj_ld L i = some (.int x) ∧ i < nL ∧ L' = pj_st1 L i (.int (x + Int32.ofInt n)) ∧ S' = S := by
  unfold pj_ic at h
  split at h
  · split at h
    · cases h; exact ⟨_, by assumption, by assumption, rfl, rfl⟩
    · cases h
  · cases h
section PJKL
variable {p : Program} {l : Launch} {e : Env} {R : Room} {s : State} {m : MethodId} {args : Array Value} {below : List Frame} {meth : Method} {c : Code} {H : Heap} {locs : List Loc} {cells slots : Nat} {Q : State → Prop}
variable {cc : ByteArray} {pc nL : Nat} {ls : Array Slot}
set_option maxHeartbeats 4000000 in
theorem pj_kl_snd (ad : Nat → Nat) (hx : p.tables.exec = Jvm.exec) (hb : c.code = cc) {i : Instr} {L L' : pj_L} {S S' : List Value} (hl : lv_has ls nL (pj_l ad L)) (hd : decode cc pc = .ok (i, pj_len i)) (h : pj_kl nL i L S = some (L', S'))
    (k : ∀ ls' : Array Slot, lv_has ls' nL (pj_l ad L') → W p l e R s m args below meth c H locs cells slots Q (F0 m (pc + pj_len i) ls' (S'.map (pj_v ad)))) : W p l e R s m args below meth c H locs cells slots Q (F0 m pc ls (S.map (pj_v ad))) := by
  cases i
  case iload_n j =>
    obtain ⟨x, g, rfl, rfl⟩ := pj_li_s h
    exact lv_iload_n hx hb hd rfl (pj_l_at ad hl g) (k ls hl)
  case iload j =>
    obtain ⟨x, g, rfl, rfl⟩ := pj_li_s h
    exact lv_iload hx hb hd (pj_l_at ad hl g) (k ls hl)
  case lload_n j =>
    obtain ⟨x, g, rfl, rfl⟩ := pj_ll_s h
    exact lv_lload_n hx hb hd rfl (pj_l_at ad hl g) (k ls hl)
  case lload j =>
    obtain ⟨x, g, rfl, rfl⟩ := pj_ll_s h
    exact lv_lload hx hb hd (pj_l_at ad hl g) (k ls hl)
  case aload_n j =>
    obtain ⟨x, g, rfl, rfl⟩ := pj_la_s h
    exact lv_aload_n hx hb hd rfl (pj_l_at ad hl g) (k ls hl)
  case aload j =>
    obtain ⟨x, g, rfl, rfl⟩ := pj_la_s h
    exact lv_aload hx hb hd (pj_l_at ad hl g) (k ls hl)
  case istore_n j =>
    obtain ⟨x, rfl, g, rfl⟩ := pj_si_s h
    exact lv_istore_n hx hb hd rfl hl g (pj_l_1 ad L j (.int x) _ rfl) k
  case istore j =>
    obtain ⟨x, rfl, g, rfl⟩ := pj_si_s h
    exact lv_istore hx hb hd hl g (pj_l_1 ad L j (.int x) _ rfl) k
  case lstore_n j =>
    obtain ⟨x, rfl, g, rfl⟩ := pj_sl_s h
    exact lv_lstore_n hx hb hd rfl hl g (pj_l_2 ad L j (.long x) _ rfl) k
  case lstore j =>
    obtain ⟨x, rfl, g, rfl⟩ := pj_sl_s h
    exact lv_lstore hx hb hd hl g (pj_l_2 ad L j (.long x) _ rfl) k
  case astore_n j =>
    obtain ⟨x, rfl, g, rfl⟩ := pj_sa_s h
    exact lv_astore_n hx hb hd rfl hl g (pj_l_1 ad L j (.ref x) _ rfl) k
  case astore j =>
    obtain ⟨x, rfl, g, rfl⟩ := pj_sa_s h
    exact lv_astore hx hb hd hl g (pj_l_1 ad L j (.ref x) _ rfl) k
  case iinc j n =>
    obtain ⟨x, g1, g2, rfl, rfl⟩ := pj_ic_s h
    obtain ⟨q, hq⟩ := pj_l_ix ad g1
    exact lv_iinc hx hb hd hl hq rfl g2 (pj_l_1 ad L j (.int (x + Int32.ofInt n)) _ rfl) k
  all_goals cases (show (none : Option (pj_L × List Value)) = some (L', S') from h)
end PJKL
/-! BRANCHES: the target stands in the table -/
def pj_c1 : Jvm.ClassFile.Cond → Int32 → Int32 → Bool
  | .eq, x, y => decide (x = y)
  | .ne, x, y => decide (¬ x = y)
  | .lt, x, y => decide (x < y)
  | .ge, x, y => decide (y ≤ x)
  | .gt, x, y => decide (y < x)
  | .le, x, y => decide (x ≤ y)

def pj_kb (i : Instr) (tgt pc : Nat) (S : List Value) : Option (Nat × List Value) := match i with
  | .goto _ => some (tgt, S)
  | .ifCond cd _ => (match S with
    | .int x :: r => some (if pj_c1 cd x 0 then tgt else pc + 3, r)
    | _ => none)
  | .if_icmp cd _ => (match S with
    | .int y :: .int x :: r => some (if pj_c1 cd x y then tgt else pc + 3, r)
    | _ => none)
  | .tableswitch dflt lo hi offs => (match S with
    | .int x :: r => if x.toInt < lo ∨ hi < x.toInt then (if 0 ≤ (pc : Int) + dflt then some (((pc : Int) + dflt).toNat, r) else none)
      else (match offs[(x.toInt - lo).toNat]? with
        | some off => if 0 ≤ (pc : Int) + off then some (((pc : Int) + off).toNat, r) else none
        | none => none)
    | _ => none)
  | .lookupswitch dflt ps => (match S with
    | .int x :: r => if 0 ≤ (pc : Int) + Op.lookupswitch.offset ps.toList dflt x.toInt then some (((pc : Int) + Op.lookupswitch.offset ps.toList dflt x.toInt).toNat, r) else none
    | _ => none)
  | _ => none
/-- what the table must hold of a branch -/
def pj_okb (i : Instr) (tgt pc : Nat) : Bool := match i with
  | .goto off => decide ((pc : Int) + off = (tgt : Int))
  | .ifCond _ off => decide ((pc : Int) + off = (tgt : Int))
  | .if_icmp _ off => decide ((pc : Int) + off = (tgt : Int))
  | .lookupswitch _ ps => (ps.toList.zip (ps.toList.drop 1)).all (fun (a, next) => a.1 < next.1)
  | _ => true
section PJKB
variable {p : Program} {l : Launch} {e : Env} {R : Room} {s : State} {m : MethodId} {args : Array Value} {below : List Frame} {meth : Method} {c : Code} {H : Heap} {locs : List Loc} {cells slots : Nat} {Q : State → Prop}
variable {cc : ByteArray} {pc tgt pc' len : Nat} {ls : Array Slot}
set_option maxHeartbeats 4000000 in
theorem pj_kb_snd (ad : Nat → Nat) (hx : p.tables.exec = Jvm.exec) (hb : c.code = cc) {i : Instr} {S S' : List Value} (hd : decode cc pc = .ok (i, len)) (hlen : (match i with | .tableswitch .. => True | .lookupswitch .. => True | _ => len = pj_len i)) (hok : pj_okb i tgt pc = true) (h : pj_kb i tgt pc S = some (pc', S'))
    (k : W p l e R s m args below meth c H locs cells slots Q (F0 m pc' ls (S'.map (pj_v ad)))) : W p l e R s m args below meth c H locs cells slots Q (F0 m pc ls (S.map (pj_v ad))) := by
  cases i
  case goto off =>
    cases h
    have hlen : len = 3 := hlen
    subst hlen
    exact lv_goto hx hb hd (of_decide_eq_true hok) k
  case ifCond cd off =>
    have hlen : len = 3 := hlen
    subst hlen
    have ht : (pc : Int) + off = (tgt : Int) := of_decide_eq_true hok
    simp only [pj_kb] at h
    split at h
    · cases h
      cases cd
      case eq => exact lv_if_eq hx hb hd ht (fun q => by simpa only [pj_c1, q, Bool.false_eq_true, decide_true, decide_false, if_true, if_false, not_true_eq_false, not_false_eq_true, decide_not] using k) (fun q => by simpa only [pj_c1, q, Bool.false_eq_true, decide_true, decide_false, if_true, if_false, not_true_eq_false, not_false_eq_true, decide_not] using k)
      case ne => exact lv_if_ne hx hb hd ht (fun q => by simpa only [pj_c1, q, Bool.false_eq_true, decide_true, decide_false, if_true, if_false, not_true_eq_false, not_false_eq_true, decide_not] using k) (fun q => by simpa only [pj_c1, q, Bool.false_eq_true, decide_true, decide_false, if_true, if_false, not_true_eq_false, not_false_eq_true, decide_not] using k)
      case lt => exact lv_if_lt hx hb hd ht (fun q => by simpa only [pj_c1, q, Bool.false_eq_true, decide_true, decide_false, if_true, if_false, not_true_eq_false, not_false_eq_true, decide_not] using k) (fun q => by simpa only [pj_c1, q, Bool.false_eq_true, decide_true, decide_false, if_true, if_false, not_true_eq_false, not_false_eq_true, decide_not] using k)
      case ge => exact lv_if_ge hx hb hd ht (fun q => by simpa only [pj_c1, q, Bool.false_eq_true, decide_true, decide_false, if_true, if_false, not_true_eq_false, not_false_eq_true, decide_not] using k) (fun q => by simpa only [pj_c1, q, Bool.false_eq_true, decide_true, decide_false, if_true, if_false, not_true_eq_false, not_false_eq_true, decide_not] using k)
      case gt => exact lv_if_gt hx hb hd ht (fun q => by simpa only [pj_c1, q, Bool.false_eq_true, decide_true, decide_false, if_true, if_false, not_true_eq_false, not_false_eq_true, decide_not] using k) (fun q => by simpa only [pj_c1, q, Bool.false_eq_true, decide_true, decide_false, if_true, if_false, not_true_eq_false, not_false_eq_true, decide_not] using k)
      case le => exact lv_if_le hx hb hd ht (fun q => by simpa only [pj_c1, q, Bool.false_eq_true, decide_true, decide_false, if_true, if_false, not_true_eq_false, not_false_eq_true, decide_not] using k) (fun q => by simpa only [pj_c1, q, Bool.false_eq_true, decide_true, decide_false, if_true, if_false, not_true_eq_false, not_false_eq_true, decide_not] using k)
    · cases h
  case if_icmp cd off =>
    have hlen : len = 3 := hlen
    subst hlen
    have ht : (pc : Int) + off = (tgt : Int) := of_decide_eq_true hok
    simp only [pj_kb] at h
    split at h
    · cases h
      cases cd
      case eq => exact lv_icmp_eq hx hb hd ht (fun q => by simpa only [pj_c1, q, Bool.false_eq_true, decide_true, decide_false, if_true, if_false, not_true_eq_false, not_false_eq_true, decide_not] using k) (fun q => by simpa only [pj_c1, q, Bool.false_eq_true, decide_true, decide_false, if_true, if_false, not_true_eq_false, not_false_eq_true, decide_not] using k)
      case ne => exact lv_icmp_ne hx hb hd ht (fun q => by simpa only [pj_c1, q, Bool.false_eq_true, decide_true, decide_false, if_true, if_false, not_true_eq_false, not_false_eq_true, decide_not] using k) (fun q => by simpa only [pj_c1, q, Bool.false_eq_true, decide_true, decide_false, if_true, if_false, not_true_eq_false, not_false_eq_true, decide_not] using k)
      case lt => exact lv_icmp_lt hx hb hd ht (fun q => by simpa only [pj_c1, q, Bool.false_eq_true, decide_true, decide_false, if_true, if_false, not_true_eq_false, not_false_eq_true, decide_not] using k) (fun q => by simpa only [pj_c1, q, Bool.false_eq_true, decide_true, decide_false, if_true, if_false, not_true_eq_false, not_false_eq_true, decide_not] using k)
      case ge => exact lv_icmp_ge hx hb hd ht (fun q => by simpa only [pj_c1, q, Bool.false_eq_true, decide_true, decide_false, if_true, if_false, not_true_eq_false, not_false_eq_true, decide_not] using k) (fun q => by simpa only [pj_c1, q, Bool.false_eq_true, decide_true, decide_false, if_true, if_false, not_true_eq_false, not_false_eq_true, decide_not] using k)
      case gt => exact lv_icmp_gt hx hb hd ht (fun q => by simpa only [pj_c1, q, Bool.false_eq_true, decide_true, decide_false, if_true, if_false, not_true_eq_false, not_false_eq_true, decide_not] using k) (fun q => by simpa only [pj_c1, q, Bool.false_eq_true, decide_true, decide_false, if_true, if_false, not_true_eq_false, not_false_eq_true, decide_not] using k)
      case le => exact lv_icmp_le hx hb hd ht (fun q => by simpa only [pj_c1, q, Bool.false_eq_true, decide_true, decide_false, if_true, if_false, not_true_eq_false, not_false_eq_true, decide_not] using k) (fun q => by simpa only [pj_c1, q, Bool.false_eq_true, decide_true, decide_false, if_true, if_false, not_true_eq_false, not_false_eq_true, decide_not] using k)
    · cases h
  case tableswitch dflt lo hi offs =>
    simp only [pj_kb] at h
    split at h
    · split at h
      · split at h
        · cases h
          rename_i h1 h2
          exact lv_tableOut hx hb hd h1 (Int.toNat_of_nonneg h2).symm k
        · cases h
      · split at h
        · split at h
          · cases h
            rename_i h1 _ off h2 h3
            exact lv_tableIn hx hb hd (fun z => h1 (Or.inl z)) (fun z => h1 (Or.inr z)) h2 (Int.toNat_of_nonneg h3).symm k
          · cases h
        · cases h
    · cases h
  case lookupswitch dflt ps =>
    simp only [pj_kb] at h
    split at h
    · split at h
      · cases h
        rename_i h1
        exact lv_lookup hx hb hd hok rfl (Int.toNat_of_nonneg h1).symm k
      · cases h
    · cases h
  all_goals cases (show (none : Option (Nat × List Value)) = some (pc', S') from h)
end PJKB
end
section
/-! THE CLASSES, THE WORDS, THE WORLD -/
def pj_cls : List (String × u_T × Nat × (Nat → FieldType)) := [(RX0, TX0, 4, tyX0), (RX1, TX1, 4, tyX1), (RX2, TX2, 4, tyX2), (RX3, TX3, 5, tyX3), (RX4, TX4, 5, tyX4), (RX5, TX5, 8, tyX5), (RX6, TX6, 2, tyX6), (RX7, TX7, 5, tyX7), (RX8, TX8, 9, tyX8), (RX9, TX9, 5, tyX9), (RX10, TX10, 9, tyX10), (RX11, TX11, 8, tyX11), (RX12, TX12, 60, tyX12)]
def pj_host : String := "BridgesAreLent"
/-- words that stay true as the tables warm -/
def pj_stb : Jvm.Cond → Bool
  | .fieldLinkNest .. => true
  | .methodLinkNest .. => true
  | .arrayOver (.object _) => true
  | w => goodWord w
theorem pj_stb_warm {w : Jvm.Cond} (h : pj_stb w = true) {args a' : Array Value} {s U : State} (hW : s.WarmedH U.vm) (hb : w.before args s = true) : w.before a' U = true := by
  unfold pj_stb at h
  split at h
  · exact va_Nw.use rfl (va_Nw.warmF hW (va_Nw.of rfl hb))
  · exact va_Nw.use rfl (va_Nw.warmM hW (va_Nw.of rfl hb))
  · exact va_AO.use (va_AO.moved hW.alike (va_AO.of hb))
  · exact word_at hW (good_of_word h) hb
def pj_all : List Jvm.Cond := lw_tbl.filter pj_stb
def pj_wd (pos : Nat) (w : Jvm.Cond) : Bool := decide (lw_tbl[pos]? = some w) && pj_stb w
theorem pj_wd_in {pos : Nat} {w : Jvm.Cond} (h : pj_wd pos w = true) : w ∈ pj_all := by
  simp only [pj_wd, Bool.and_eq_true, decide_eq_true_eq] at h
  exact List.mem_filter.mpr ⟨List.mem_of_getElem? h.1, h.2⟩
set_option maxRecDepth 100000 in
theorem pj_ws0 : ∀ q ∈ pj_cls, ∀ k, k < q.2.2.1 → u_lay q.1 q.2.1 k ∈ lw_tbl ∧ pj_stb (u_lay q.1 q.2.1 k) = true := by decide +kernel
theorem pj_cls_vw : vwCl = pj_cls.map (fun q => (q.1, q.2.1, q.2.2.1)) := rfl
theorem pj_cls_1 {ci : Nat} {q : String × u_T × Nat × (Nat → FieldType)} (h : pj_cls[ci]? = some q) : vwCl[ci]? = some (q.1, q.2.1, q.2.2.1) := by
  rw [pj_cls_vw, List.getElem?_map, h]
  rfl
theorem pj_cls_2 {ci : Nat} {q : String × u_T × Nat × (Nat → FieldType)} (h : pj_cls[ci]? = some q) : ∀ w ∈ u_ws q.1 q.2.1 q.2.2.1, w ∈ pj_all := by
  intro w hw
  obtain ⟨k, hk, rfl⟩ := List.mem_map.mp hw
  have h1 := pj_ws0 q (List.mem_of_getElem? h) k (List.mem_range.mp hk)
  exact List.mem_filter.mpr h1
theorem pj_cls_3a : ∀ q ∈ pj_cls, ∀ k, k < q.2.2.1 → parseFieldDescriptor (q.2.1 k).2.2.1 = some (q.2.2.2 k) := by decide +kernel
theorem pj_cls_4a : ∀ q ∈ pj_cls, ∀ a, a < q.2.2.1 → ∀ b, b < q.2.2.1 → a ≠ b → (q.2.1 a).2.1 ≠ (q.2.1 b).2.1 := by decide +kernel
def pj_tys (cy : Nat → ClassId) : List (ClassId × FieldType) := [(cy 0, .int), (cy 1, .long), (cy 2, .boolean), (cy 3, .object RX8)]
/-- what a field takes -/
def pj_fit : FieldType → Value → Bool
  | .int, .int _ => true
  | .long, .long _ => true
  | .boolean, .int x => decide (x = 0) || decide (x = 1)
  | .object _, .ref _ => true
  | .array _, .ref _ => true
  | _, _ => false
theorem pj_fit_s (ad : Nat → Nat) {ty : FieldType} {v : Value} (h : pj_fit ty v = true) : narrow ty (pj_v ad v) = pj_v ad v ∧ fits ty (pj_v ad v) = true := by
  unfold pj_fit at h
  split at h
  · exact ⟨rfl, rfl⟩
  · exact ⟨rfl, rfl⟩
  · simp only [Bool.or_eq_true, decide_eq_true_eq] at h
    rcases h with rfl | rfl
    · exact (by decide +kernel : narrow .boolean (.int 0) = .int 0 ∧ fits .boolean (.int 0) = true)
    · exact (by decide +kernel : narrow .boolean (.int 1) = .int 1 ∧ fits .boolean (.int 1) = true)
  · exact ⟨rfl, rfl⟩
  · exact ⟨rfl, rfl⟩
  · cases h
def pj_okf (own : String) (idx ci k pos : Nat) : Bool := match pj_cls[ci]? with
  | none => false
  | some q => decide (k < q.2.2.1) && (pj_wd pos (.fieldLink own idx (q.2.1 k).1 (q.2.1 k).2.1 (q.2.1 k).2.2.1) || pj_wd pos (.fieldLinkNest own idx (q.2.1 k).1 (q.2.1 k).2.1 (q.2.1 k).2.2.1 pj_host))
theorem pj_okf_s {own : String} {idx ci k pos : Nat} (h : pj_okf own idx ci k pos = true) : ∃ q, pj_cls[ci]? = some q ∧ k < q.2.2.1 ∧ ((Jvm.Cond.fieldLink own idx (q.2.1 k).1 (q.2.1 k).2.1 (q.2.1 k).2.2.1) ∈ pj_all ∨ (Jvm.Cond.fieldLinkNest own idx (q.2.1 k).1 (q.2.1 k).2.1 (q.2.1 k).2.2.1 pj_host) ∈ pj_all) := by
  unfold pj_okf at h
  split at h
  · cases h
  · rename_i q hq
    simp only [Bool.and_eq_true, Bool.or_eq_true, decide_eq_true_eq] at h
    exact ⟨q, hq, h.1, h.2.elim (fun z => Or.inl (pj_wd_in z)) (fun z => Or.inr (pj_wd_in z))⟩
/-- the cells that are seen through a world -/
theorem pj_at {b base : Nat} {cy : Nat → ClassId} {G : pj_G} {a : Nat} {x : pj_C} (h : pj_get G a = some x) : ∃ i, a = i + 1 ∧ (pj_w (pj_ad b base) cy 0 G.1)[i]? = some (pj_ad b base a, pj_e (pj_ad b base) cy x) := by
  cases a with
  | zero => cases h
  | succ i =>
    refine ⟨i, rfl, ?_⟩
    rw [pj_w_get, show G.1[i]? = some x from h, Nat.zero_add]
    rfl
theorem pj_set {b base : Nat} {cy : Nat → ClassId} {G : pj_G} {i : Nat} (x : pj_C) : (pj_w (pj_ad b base) cy 0 G.1).set i (pj_ad b base (i + 1), pj_e (pj_ad b base) cy x) = pj_w (pj_ad b base) cy 0 (pj_put G (i + 1) x).1 := by
  have h := pj_w_set (pj_ad b base) cy x G.1 0 i
  rw [Nat.zero_add] at h
  exact h
end
section
section PJH
variable {p : Program} {l : Launch} {e : Env} {R : Room} {s : State} {m : MethodId} {args : Array Value} {below : List Frame} {meth : Method} {c : Code} {H : Heap} {locs : List Loc} {cells slots : Nat} {Q : State → Prop}
variable {cc : ByteArray} {pc : Nat} {ls : Array Slot} {b base : Nat} {cy : Nat → ClassId} {D : va_G} {G G' : pj_G} {S S' : List Value} {own : String} {dc ds : Nat}
/-- where a step comes to -/
abbrev pj_N (p : Program) (l : Launch) (e : Env) (R : Room) (s : State) (m : MethodId) (args : Array Value) (below : List Frame) (meth : Method) (c : Code) (Q : State → Prop) (b base : Nat) (cy : Nat → ClassId) (D : va_G) (ls : Array Slot) (cells slots : Nat) (G : pj_G) (pc : Nat) (S : List Value) : Prop :=
  ∀ (H : Heap) (locs : List Loc), va_P D vwCl (pj_w (pj_ad b base) cy 0 G.1) H → va_S (fun q => base ≤ q) s.heap H locs → W p l e R s m args below meth c H locs cells slots Q (F0 m pc ls (S.map (pj_v (pj_ad b base))))
def pj_gf (ci k : Nat) (G : pj_G) : List Value → Option (List Value)
  | .ref a :: r => (match pj_get G a with
    | some (.inr (c, fs)) => if c = ci then (match fs[k]? with
      | some v => some (v :: r)
      | none => none) else none
    | _ => none)
  | _ => none
theorem pj_gf_s {ci k : Nat} (h : pj_gf ci k G S = some S') : ∃ a r fs v, S = .ref a :: r ∧ pj_get G a = some (.inr (ci, fs)) ∧ fs[k]? = some v ∧ S' = v :: r := by
  unfold pj_gf at h
  split at h
  · split at h
    · split at h
      · split at h
        · rename_i hg e1 _ v e2
          subst e1
          cases h
          exact ⟨_, _, _, _, rfl, hg, e2, rfl⟩
        · cases h
      · cases h
    · cases h
  · cases h
theorem pj_gf_snd (hx : p.tables.exec = Jvm.exec) (hb : c.code = cc) (hts : ∀ w ∈ pj_all, w.before args s = true) (hown : s.vm.findClass own = some m.cls) (hK : va_K D vwCl (pj_tys cy) s) {idx ci k pos : Nat} (hok : pj_okf own idx ci k pos = true) (hd : decode cc pc = .ok (.getfield idx, 3)) (h : pj_gf ci k G S = some S')
    (kk : pj_N p l e R s m args below meth c Q b base cy D ls cells slots G (pc + 3) S') : pj_N p l e R s m args below meth c Q b base cy D ls cells slots G pc S := by
  intro H locs hP hS
  obtain ⟨a, r, fs, v, rfl, g1, g2, rfl⟩ := pj_gf_s h
  obtain ⟨q, hq, hk, hw⟩ := pj_okf_s hok
  obtain ⟨i, -, hi⟩ := pj_at (b := b) (base := base) (cy := cy) g1
  have hv : (fs.map (pj_v (pj_ad b base)))[k]? = some (pj_v (pj_ad b base) v) := by rw [List.getElem?_map, g2]; rfl
  rcases hw with hw | hw
  · exact va_get (D := D) (ci := ci) (C := q.1) (T := q.2.1) (N := q.2.2.1) hx hb hts (pj_cls_2 hq) hown hK hP i hi (pj_cls_1 hq) k hk (hts _ hw) (fun _ z => z) hv hd (kk H locs hP hS)
  · exact va_getN (D := D) (ci := ci) (C := q.1) (T := q.2.1) (N := q.2.2.1) hx hb hts (pj_cls_2 hq) hown hK hP i hi (pj_cls_1 hq) k hk (hts _ hw) (fun _ z => z) hv hd (kk H locs hP hS)
def pj_ft (ci k : Nat) : FieldType := match pj_cls[ci]? with
  | some q => q.2.2.2 k
  | none => .float
/-- putfield -/
def pj_pf (ci k : Nat) (G : pj_G) : List Value → Option (pj_G × List Value)
  | v :: .ref a :: r => (match pj_get G a with
    | some (.inr (c, fs)) => if c = ci ∧ k < fs.length ∧ pj_fit (pj_ft ci k) v = true then some (pj_put G a (.inr (ci, fs.set k v)), r) else none
    | _ => none)
  | _ => none
theorem pj_pf_s {ci k : Nat} (h : pj_pf ci k G S = some (G', S')) : ∃ v a fs, S = v :: .ref a :: S' ∧ pj_get G a = some (.inr (ci, fs)) ∧ k < fs.length ∧ pj_fit (pj_ft ci k) v = true ∧ G' = pj_put G a (.inr (ci, fs.set k v)) := by
  unfold pj_pf at h
  split at h
  · split at h
    · split at h
      · rename_i hg e1
        obtain ⟨e1, e2, e3⟩ := e1
        subst e1
        cases h
        exact ⟨_, _, _, rfl, hg, e2, e3, rfl⟩
      · cases h
    · cases h
  · cases h
/-- a final field is written in a constructor of its own class alone -/
def pj_okp (own : String) (ini : Bool) (idx ci k pos : Nat) : Bool := match pj_cls[ci]? with
  | none => false
  | some q => !(q.2.1 k).2.2.2 || (ini && decide ((q.2.1 k).1 = own) && pj_wd pos (.fieldLink own idx (q.2.1 k).1 (q.2.1 k).2.1 (q.2.1 k).2.2.1))
theorem pj_pf_snd (hx : p.tables.exec = Jvm.exec) (hb : c.code = cc) (hts : ∀ w ∈ pj_all, w.before args s = true) (hown : s.vm.findClass own = some m.cls) (hK : va_K D vwCl (pj_tys cy) s) {ini : Bool} (hini : ini = true → meth.name = "<init>") {idx ci k pos : Nat} (hok : pj_okf own idx ci k pos = true) (hok2 : pj_okp own ini idx ci k pos = true) (hd : decode cc pc = .ok (.putfield idx, 3)) (h : pj_pf ci k G S = some (G', S'))
    (kk : pj_N p l e R s m args below meth c Q b base cy D ls cells slots G' (pc + 3) S') : pj_N p l e R s m args below meth c Q b base cy D ls cells slots G pc S := by
  intro H locs hP hS
  obtain ⟨v, a, fs, rfl, g1, g2, g3, rfl⟩ := pj_pf_s h
  obtain ⟨q, hq, hk, hw⟩ := pj_okf_s hok
  obtain ⟨i, rfl, hi⟩ := pj_at (b := b) (base := base) (cy := cy) g1
  have hty := pj_cls_3a q (List.mem_of_getElem? hq)
  have hnm := pj_cls_4a q (List.mem_of_getElem? hq)
  have hft : pj_ft ci k = q.2.2.2 k := by unfold pj_ft; rw [hq]
  rw [hft] at g3
  obtain ⟨f1, f2⟩ := pj_fit_s (pj_ad b base) g3
  have hl : k < (fs.map (pj_v (pj_ad b base))).length := by rw [List.length_map]; exact g2
  have hset : (pj_w (pj_ad b base) cy 0 G.1).set i (pj_ad b base (i + 1), .inr (ci, (fs.map (pj_v (pj_ad b base))).set k (pj_v (pj_ad b base) v))) = pj_w (pj_ad b base) cy 0 (pj_put G (i + 1) (.inr (ci, fs.set k v))).1 := by
    rw [← pj_set, ← List.map_set]
    rfl
  have kk' : ∀ (H1 : Heap) (locs1 : List Loc), va_P D vwCl ((pj_w (pj_ad b base) cy 0 G.1).set i (pj_ad b base (i + 1), .inr (ci, (fs.map (pj_v (pj_ad b base))).set k (pj_v (pj_ad b base) v)))) H1 → va_D (fun q => base ≤ q) ((pj_w (pj_ad b base) cy 0 G.1).set i (pj_ad b base (i + 1), .inr (ci, (fs.map (pj_v (pj_ad b base))).set k (pj_v (pj_ad b base) v)))) → va_S (fun q => base ≤ q) s.heap H1 locs1 → W p l e R s m args below meth c H1 locs1 cells slots Q (F0 m (pc + 3) ls (S'.map (pj_v (pj_ad b base)))) := fun H1 locs1 hP1 _ hS1 => kk H1 locs1 (hset ▸ hP1) hS1
  have hok2 : ((q.2.1 k).2.2.2 = false) ∨ ((q.2.1 k).2.2.2 = true ∧ (ini = true ∧ (q.2.1 k).1 = own) ∧ pj_wd pos (.fieldLink own idx (q.2.1 k).1 (q.2.1 k).2.1 (q.2.1 k).2.2.1) = true) := by
    unfold pj_okp at hok2
    rw [hq] at hok2
    cases hf : (q.2.1 k).2.2.2 with
    | false => exact Or.inl rfl
    | true =>
      simp only [hf, Bool.not_true, Bool.false_or, Bool.and_eq_true, decide_eq_true_eq] at hok2
      exact Or.inr ⟨rfl, hok2⟩
  rcases hok2 with hf | ⟨hf, ⟨hi1, hi2⟩, hi3⟩
  · rcases hw with hw | hw
    · exact va_put (D := D) (ci := ci) (C := q.1) (T := q.2.1) (N := q.2.2.1) hx hb hts (pj_cls_2 hq) q.2.2.2 hty hnm hown hK hP (pj_D b base cy G.1) hS i hi (pj_cls_1 hq) k hk (hts _ hw) (fun _ z => z) hf (hty k hk) f1 f2 hl hd kk'
    · exact va_putN (D := D) (ci := ci) (C := q.1) (T := q.2.1) (N := q.2.2.1) hx hb hts (pj_cls_2 hq) q.2.2.2 hty hnm hown hK hP (pj_D b base cy G.1) hS i hi (pj_cls_1 hq) k hk (hts _ hw) (fun _ z => z) hf (hty k hk) f1 f2 hl hd kk'
  · exact va_putF (D := D) (ci := ci) (C := q.1) (T := q.2.1) (N := q.2.2.1) hx hb hts (pj_cls_2 hq) q.2.2.2 hty hnm hown hK hP (pj_D b base cy G.1) hS i hi (pj_cls_1 hq) k hk (hts _ (pj_wd_in hi3)) (fun _ z => z) hf (hini hi1) hi2 (hty k hk) f1 f2 hl hd kk'
/-! arrays -/
theorem pj_rf (ad : Nat → Nat) (r : Option Nat) : pj_v ad (va_rf r) = va_rf (r.map ad) := by cases r <;> rfl
def pj_rdi (G : pj_G) : List Value → Option (List Value)
  | .int j :: .ref a :: r => (match pj_get G a with
    | some (.inl (k, n, .inl f)) => if k = 0 ∧ ¬ (j < 0 ∨ n ≤ j.toNatClampNeg) then some (.int (f j.toNatClampNeg) :: r) else none
    | _ => none)
  | _ => none
theorem pj_rdi_s (h : pj_rdi G S = some S') : ∃ (j : Int32) (a : Nat) (r : List Value) (n : Nat) (f : Nat → Int32), S = .int j :: .ref a :: r ∧ pj_get G a = some (.inl (0, n, .inl f)) ∧ vp_in j n ∧ S' = .int (f j.toNatClampNeg) :: r := by
  unfold pj_rdi at h
  split at h
  · split at h
    · split at h
      · rename_i hg e1
        obtain ⟨e1, e2⟩ := e1
        subst e1
        cases h
        exact ⟨_, _, _, _, _, rfl, hg, e2, rfl⟩
      · cases h
    · cases h
  · cases h
theorem pj_rdi_snd (hx : p.tables.exec = Jvm.exec) (hb : c.code = cc) (hK : va_K D vwCl (pj_tys cy) s) (hd : decode cc pc = .ok (.iaload, 1)) (h : pj_rdi G S = some S')
    (kk : pj_N p l e R s m args below meth c Q b base cy D ls cells slots G (pc + 1) S') : pj_N p l e R s m args below meth c Q b base cy D ls cells slots G pc S := by
  intro H locs hP hS
  obtain ⟨j, a, r, n, f, rfl, g1, g2, rfl⟩ := pj_rdi_s h
  obtain ⟨i, rfl, hi⟩ := pj_at (b := b) (base := base) (cy := cy) g1
  have k1 := kk H locs hP hS
  exact va_iald hx hb hK hP i 0 hi rfl g2 hd k1
def pj_rdz (G : pj_G) : List Value → Option (List Value)
  | .int j :: .ref a :: r => (match pj_get G a with
    | some (.inl (k, n, .inl f)) => if k = 2 ∧ ¬ (j < 0 ∨ n ≤ j.toNatClampNeg) then some (.int (f j.toNatClampNeg) :: r) else none
    | _ => none)
  | _ => none
theorem pj_rdz_s (h : pj_rdz G S = some S') : ∃ (j : Int32) (a : Nat) (r : List Value) (n : Nat) (f : Nat → Int32), S = .int j :: .ref a :: r ∧ pj_get G a = some (.inl (2, n, .inl f)) ∧ vp_in j n ∧ S' = .int (f j.toNatClampNeg) :: r := by
  unfold pj_rdz at h
  split at h
  · split at h
    · split at h
      · rename_i hg e1
        obtain ⟨e1, e2⟩ := e1
        subst e1
        cases h
        exact ⟨_, _, _, _, _, rfl, hg, e2, rfl⟩
      · cases h
    · cases h
  · cases h
theorem pj_rdz_snd (hx : p.tables.exec = Jvm.exec) (hb : c.code = cc) (hK : va_K D vwCl (pj_tys cy) s) (hd : decode cc pc = .ok (.baload, 1)) (h : pj_rdz G S = some S')
    (kk : pj_N p l e R s m args below meth c Q b base cy D ls cells slots G (pc + 1) S') : pj_N p l e R s m args below meth c Q b base cy D ls cells slots G pc S := by
  intro H locs hP hS
  obtain ⟨j, a, r, n, f, rfl, g1, g2, rfl⟩ := pj_rdz_s h
  obtain ⟨i, rfl, hi⟩ := pj_at (b := b) (base := base) (cy := cy) g1
  have k1 := kk H locs hP hS
  exact va_zald hx hb hK hP i 2 hi rfl g2 hd k1
def pj_rdl (G : pj_G) : List Value → Option (List Value)
  | .int j :: .ref a :: r => (match pj_get G a with
    | some (.inl (k, n, .inr (.inl f))) => if k = 1 ∧ ¬ (j < 0 ∨ n ≤ j.toNatClampNeg) then some (.long (f j.toNatClampNeg) :: r) else none
    | _ => none)
  | _ => none
theorem pj_rdl_s (h : pj_rdl G S = some S') : ∃ (j : Int32) (a : Nat) (r : List Value) (n : Nat) (f : Nat → Int64), S = .int j :: .ref a :: r ∧ pj_get G a = some (.inl (1, n, .inr (.inl f))) ∧ vp_in j n ∧ S' = .long (f j.toNatClampNeg) :: r := by
  unfold pj_rdl at h
  split at h
  · split at h
    · split at h
      · rename_i hg e1
        obtain ⟨e1, e2⟩ := e1
        subst e1
        cases h
        exact ⟨_, _, _, _, _, rfl, hg, e2, rfl⟩
      · cases h
    · cases h
  · cases h
theorem pj_rdl_snd (hx : p.tables.exec = Jvm.exec) (hb : c.code = cc) (hK : va_K D vwCl (pj_tys cy) s) (hd : decode cc pc = .ok (.laload, 1)) (h : pj_rdl G S = some S')
    (kk : pj_N p l e R s m args below meth c Q b base cy D ls cells slots G (pc + 1) S') : pj_N p l e R s m args below meth c Q b base cy D ls cells slots G pc S := by
  intro H locs hP hS
  obtain ⟨j, a, r, n, f, rfl, g1, g2, rfl⟩ := pj_rdl_s h
  obtain ⟨i, rfl, hi⟩ := pj_at (b := b) (base := base) (cy := cy) g1
  have k1 := kk H locs hP hS
  exact va_lald hx hb hK hP i 1 hi rfl g2 hd k1
def pj_rdq (G : pj_G) : List Value → Option (List Value)
  | .int j :: .ref a :: r => (match pj_get G a with
    | some (.inl (k, n, .inr (.inr (.inr (.inr f))))) => if k = 3 ∧ ¬ (j < 0 ∨ n ≤ j.toNatClampNeg) then some (va_rf (f j.toNatClampNeg) :: r) else none
    | _ => none)
  | _ => none
theorem pj_rdq_s (h : pj_rdq G S = some S') : ∃ (j : Int32) (a : Nat) (r : List Value) (n : Nat) (f : Nat → Option Nat), S = .int j :: .ref a :: r ∧ pj_get G a = some (.inl (3, n, .inr (.inr (.inr (.inr f))))) ∧ vp_in j n ∧ S' = va_rf (f j.toNatClampNeg) :: r := by
  unfold pj_rdq at h
  split at h
  · split at h
    · split at h
      · rename_i hg e1
        obtain ⟨e1, e2⟩ := e1
        subst e1
        cases h
        exact ⟨_, _, _, _, _, rfl, hg, e2, rfl⟩
      · cases h
    · cases h
  · cases h
theorem pj_rdq_snd (hx : p.tables.exec = Jvm.exec) (hb : c.code = cc) (hK : va_K D vwCl (pj_tys cy) s) (hd : decode cc pc = .ok (.aaload, 1)) (h : pj_rdq G S = some S')
    (kk : pj_N p l e R s m args below meth c Q b base cy D ls cells slots G (pc + 1) S') : pj_N p l e R s m args below meth c Q b base cy D ls cells slots G pc S := by
  intro H locs hP hS
  obtain ⟨j, a, r, n, f, rfl, g1, g2, rfl⟩ := pj_rdq_s h
  obtain ⟨i, rfl, hi⟩ := pj_at (b := b) (base := base) (cy := cy) g1
  have k1 := kk H locs hP hS
  rw [List.map_cons, pj_rf] at k1
  exact va_aldq hx hb hK hP i 3 hi rfl g2 hd k1
def pj_asi (G : pj_G) : List Value → Option (pj_G × List Value)
  | .int x :: .int j :: .ref a :: r => (match pj_get G a with
    | some (.inl (k, n, .inl f)) => if k = 0 ∧ ¬ (j < 0 ∨ n ≤ j.toNatClampNeg) then some (pj_put G a (.inl (0, n, .inl (upd f j.toNatClampNeg x))), r) else none
    | _ => none)
  | _ => none
theorem pj_asi_s (h : pj_asi G S = some (G', S')) : ∃ (x : Int32) (j : Int32) (a : Nat) (n : Nat) (f : Nat → Int32), S = .int x :: .int j :: .ref a :: S' ∧ pj_get G a = some (.inl (0, n, .inl f)) ∧ vp_in j n ∧ G' = pj_put G a (.inl (0, n, .inl (upd f j.toNatClampNeg x))) := by
  unfold pj_asi at h
  split at h
  · split at h
    · split at h
      · rename_i hg e1
        obtain ⟨e1, e2⟩ := e1
        subst e1
        cases h
        exact ⟨_, _, _, _, _, rfl, hg, e2, rfl⟩
      · cases h
    · cases h
  · cases h
theorem pj_asi_snd (hx : p.tables.exec = Jvm.exec) (hb : c.code = cc) (hK : va_K D vwCl (pj_tys cy) s) (hd : decode cc pc = .ok (.iastore, 1)) (h : pj_asi G S = some (G', S'))
    (kk : pj_N p l e R s m args below meth c Q b base cy D ls cells slots G' (pc + 1) S') : pj_N p l e R s m args below meth c Q b base cy D ls cells slots G pc S := by
  intro H locs hP hS
  obtain ⟨x, j, a, n, f, rfl, g1, g2, rfl⟩ := pj_asi_s h
  obtain ⟨i, rfl, hi⟩ := pj_at (b := b) (base := base) (cy := cy) g1
  exact va_iast hx hb hK hP (pj_D b base cy G.1) hS i 0 hi rfl g2 hd (fun H1 locs1 hP1 _ hS1 => kk H1 locs1 (pj_set (b := b) (base := base) (cy := cy) (G := G) (i := i) (.inl (0, n, .inl (upd f j.toNatClampNeg x))) ▸ hP1) hS1)
def pj_asz (G : pj_G) : List Value → Option (pj_G × List Value)
  | .int x :: .int j :: .ref a :: r => (match pj_get G a with
    | some (.inl (k, n, .inl f)) => if k = 2 ∧ ¬ (j < 0 ∨ n ≤ j.toNatClampNeg) then some (pj_put G a (.inl (2, n, .inl (upd f j.toNatClampNeg (vp_nar .boolean x)))), r) else none
    | _ => none)
  | _ => none
theorem pj_asz_s (h : pj_asz G S = some (G', S')) : ∃ (x : Int32) (j : Int32) (a : Nat) (n : Nat) (f : Nat → Int32), S = .int x :: .int j :: .ref a :: S' ∧ pj_get G a = some (.inl (2, n, .inl f)) ∧ vp_in j n ∧ G' = pj_put G a (.inl (2, n, .inl (upd f j.toNatClampNeg (vp_nar .boolean x)))) := by
  unfold pj_asz at h
  split at h
  · split at h
    · split at h
      · rename_i hg e1
        obtain ⟨e1, e2⟩ := e1
        subst e1
        cases h
        exact ⟨_, _, _, _, _, rfl, hg, e2, rfl⟩
      · cases h
    · cases h
  · cases h
theorem pj_asz_snd (hx : p.tables.exec = Jvm.exec) (hb : c.code = cc) (hK : va_K D vwCl (pj_tys cy) s) (hd : decode cc pc = .ok (.bastore, 1)) (h : pj_asz G S = some (G', S'))
    (kk : pj_N p l e R s m args below meth c Q b base cy D ls cells slots G' (pc + 1) S') : pj_N p l e R s m args below meth c Q b base cy D ls cells slots G pc S := by
  intro H locs hP hS
  obtain ⟨x, j, a, n, f, rfl, g1, g2, rfl⟩ := pj_asz_s h
  obtain ⟨i, rfl, hi⟩ := pj_at (b := b) (base := base) (cy := cy) g1
  exact va_zast hx hb hK hP (pj_D b base cy G.1) hS i 2 hi rfl g2 hd (fun H1 locs1 hP1 _ hS1 => kk H1 locs1 (pj_set (b := b) (base := base) (cy := cy) (G := G) (i := i) (.inl (2, n, .inl (upd f j.toNatClampNeg (vp_nar .boolean x)))) ▸ hP1) hS1)
def pj_asl (G : pj_G) : List Value → Option (pj_G × List Value)
  | .long x :: .int j :: .ref a :: r => (match pj_get G a with
    | some (.inl (k, n, .inr (.inl f))) => if k = 1 ∧ ¬ (j < 0 ∨ n ≤ j.toNatClampNeg) then some (pj_put G a (.inl (1, n, .inr (.inl (vp_updL f j.toNatClampNeg x)))), r) else none
    | _ => none)
  | _ => none
theorem pj_asl_s (h : pj_asl G S = some (G', S')) : ∃ (x : Int64) (j : Int32) (a : Nat) (n : Nat) (f : Nat → Int64), S = .long x :: .int j :: .ref a :: S' ∧ pj_get G a = some (.inl (1, n, .inr (.inl f))) ∧ vp_in j n ∧ G' = pj_put G a (.inl (1, n, .inr (.inl (vp_updL f j.toNatClampNeg x)))) := by
  unfold pj_asl at h
  split at h
  · split at h
    · split at h
      · rename_i hg e1
        obtain ⟨e1, e2⟩ := e1
        subst e1
        cases h
        exact ⟨_, _, _, _, _, rfl, hg, e2, rfl⟩
      · cases h
    · cases h
  · cases h
theorem pj_asl_snd (hx : p.tables.exec = Jvm.exec) (hb : c.code = cc) (hK : va_K D vwCl (pj_tys cy) s) (hd : decode cc pc = .ok (.lastore, 1)) (h : pj_asl G S = some (G', S'))
    (kk : pj_N p l e R s m args below meth c Q b base cy D ls cells slots G' (pc + 1) S') : pj_N p l e R s m args below meth c Q b base cy D ls cells slots G pc S := by
  intro H locs hP hS
  obtain ⟨x, j, a, n, f, rfl, g1, g2, rfl⟩ := pj_asl_s h
  obtain ⟨i, rfl, hi⟩ := pj_at (b := b) (base := base) (cy := cy) g1
  exact va_last hx hb hK hP (pj_D b base cy G.1) hS i 1 hi rfl g2 hd (fun H1 locs1 hP1 _ hS1 => kk H1 locs1 (pj_set (b := b) (base := base) (cy := cy) (G := G) (i := i) (.inl (1, n, .inr (.inl (vp_updL f j.toNatClampNeg x)))) ▸ hP1) hS1)
def pj_asq (G : pj_G) : List Value → Option (pj_G × List Value)
  | .ref v :: .int j :: .ref a :: r => (match pj_get G a with
    | some (.inl (k, n, .inr (.inr (.inr (.inr f))))) => (match pj_get G v with
      | some (.inr (ci, _)) => if k = 3 ∧ ci = 8 ∧ ¬ (j < 0 ∨ n ≤ j.toNatClampNeg) then some (pj_put G a (.inl (3, n, .inr (.inr (.inr (.inr (va_up f j.toNatClampNeg (some v))))))), r) else none
      | _ => none)
    | _ => none)
  | _ => none
theorem pj_asq_s (h : pj_asq G S = some (G', S')) : ∃ (v : Nat) (j : Int32) (a : Nat) (n : Nat) (f : Nat → Option Nat) (fs : List Value), S = .ref v :: .int j :: .ref a :: S' ∧ pj_get G a = some (.inl (3, n, .inr (.inr (.inr (.inr f))))) ∧ pj_get G v = some (.inr (8, fs)) ∧ vp_in j n ∧ G' = pj_put G a (.inl (3, n, .inr (.inr (.inr (.inr (va_up f j.toNatClampNeg (some v))))))) := by
  unfold pj_asq at h
  split at h
  · split at h
    · split at h
      · split at h
        · rename_i hg _ _ _ hg2 e1
          obtain ⟨e1, e2, e3⟩ := e1
          subst e1
          subst e2
          cases h
          exact ⟨_, _, _, _, _, _, rfl, hg, hg2, e3, rfl⟩
        · cases h
      · cases h
    · cases h
  · cases h
theorem pj_asq_snd (hx : p.tables.exec = Jvm.exec) (hb : c.code = cc) (hK : va_K D vwCl (pj_tys cy) s) (hd : decode cc pc = .ok (.aastore, 1)) (h : pj_asq G S = some (G', S'))
    (kk : pj_N p l e R s m args below meth c Q b base cy D ls cells slots G' (pc + 1) S') : pj_N p l e R s m args below meth c Q b base cy D ls cells slots G pc S := by
  intro H locs hP hS
  obtain ⟨v, j, a, n, f, fs, rfl, g1, g3, g2, rfl⟩ := pj_asq_s h
  obtain ⟨i, rfl, hi⟩ := pj_at (b := b) (base := base) (cy := cy) g1
  obtain ⟨i2, rfl, hi2⟩ := pj_at (b := b) (base := base) (cy := cy) g3
  have hc : vwCl[8]? = some (RX8, TX8, 9) := rfl
  have e : (fun k => (va_up f j.toNatClampNeg (some (i2 + 1)) k).map (pj_ad b base)) = va_up (fun k => (f k).map (pj_ad b base)) j.toNatClampNeg (some (pj_ad b base (i2 + 1))) := by
    funext k
    by_cases z : k = j.toNatClampNeg
    · simp [va_up, z]
    · simp [va_up, z]
  have hset := pj_set (b := b) (base := base) (cy := cy) (G := G) (i := i) (.inl (3, n, .inr (.inr (.inr (.inr (va_up f j.toNatClampNeg (some (i2 + 1))))))))
  simp only [pj_e, pj_a, e] at hset
  exact va_astq (r := (RX8, TX8, 9)) hx hb hK hP (pj_D b base cy G.1) hS i 3 i2 8 hi rfl hi2 hc g2 hd (fun H1 locs1 hP1 _ hS1 => kk H1 locs1 (hset ▸ hP1) hS1)
/-- the length of an array; of the script -/
def pj_aln (n0 : Nat) (G : pj_G) : List Value → Option (List Value)
  | .ref 0 :: r => some (.int (Int32.ofNat n0) :: r)
  | .ref a :: r => (match pj_get G a with
    | some (.inl (k, x)) => if k < 4 then some (.int (Int32.ofNat x.1) :: r) else none
    | _ => none)
  | _ => none
theorem pj_aln_snd (hx : p.tables.exec = Jvm.exec) (hb : c.code = cc) (hK : va_K D vwCl (pj_tys cy) s) {n0 : Nat} {xs : Nat → Int32} (hX : va_X b n0 xs s s.heap) (hbl : b < s.heap.size) (hbb : b < base) (hd : decode cc pc = .ok (.arraylength, 1)) (h : pj_aln n0 G S = some S')
    (kk : pj_N p l e R s m args below meth c Q b base cy D ls cells slots G (pc + 1) S') : pj_N p l e R s m args below meth c Q b base cy D ls cells slots G pc S := by
  intro H locs hP hS
  have k1 := kk H locs hP hS
  unfold pj_aln at h
  split at h
  · cases h
    exact va_slen hx hb hX hbl (Nat.not_le.mpr hbb) hS hd k1
  · split at h
    · split at h
      · rename_i kd x g1 g2
        cases h
        obtain ⟨i, rfl, hi⟩ := pj_at (b := b) (base := base) (cy := cy) g1
        have h4 : ∃ ty, (pj_tys cy)[kd]? = some (cy kd, ty) := by
          match kd, g2 with
          | 0, _ => exact ⟨_, rfl⟩
          | 1, _ => exact ⟨_, rfl⟩
          | 2, _ => exact ⟨_, rfl⟩
          | 3, _ => exact ⟨_, rfl⟩
          | k + 4, z => exact absurd z (by omega)
        obtain ⟨ty, hty⟩ := h4
        exact va_alen hx hb hK hP i kd hi hty rfl hd k1
      · cases h
    · cases h
  · cases h
/-- the script's ints -/
def pj_sc (n0 : Nat) (xs : Nat → Int32) : List Value → Option (List Value)
  | .int j :: .ref 0 :: r => if ¬ (j < 0 ∨ n0 ≤ j.toNatClampNeg) then some (.int (xs j.toNatClampNeg) :: r) else none
  | _ => none
theorem pj_sc_snd (hx : p.tables.exec = Jvm.exec) (hb : c.code = cc) {n0 : Nat} {xs : Nat → Int32} (hX : va_X b n0 xs s s.heap) (hbl : b < s.heap.size) (hbb : b < base) (hd : decode cc pc = .ok (.iaload, 1)) (h : pj_sc n0 xs S = some S')
    (kk : pj_N p l e R s m args below meth c Q b base cy D ls cells slots G (pc + 1) S') : pj_N p l e R s m args below meth c Q b base cy D ls cells slots G pc S := by
  intro H locs hP hS
  have k1 := kk H locs hP hS
  unfold pj_sc at h
  split at h
  · split at h
    · rename_i g
      cases h
      exact va_sld hx hb hX hbl (Nat.not_le.mpr hbb) hS g hd k1
    · cases h
  · cases h
end PJH
end
