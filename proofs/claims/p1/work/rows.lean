section
-- ===== PART A: goes FIRST, ahead of the names: the tables' words, and 'selects' of the private methods out of them =====
/-- a private method of a class that the tables say can be made, by its rows of tables_1 -/
def lw_okq (q : MethodName × Nat) : Prop := (q.1.cls ≠ "java/lang/invoke/MethodHandle" ∧ q.1.cls ≠ "java/lang/invoke/VarHandle") ∧ Cond.instantiable q.1.cls q.2 ∈ tables_1 ∧ Cond.privateMethod q.1 ∈ tables_1 ∧ Cond.instanceMethod q.1 ∈ tables_1
theorem lw_p0 : lw_okq (⟨"BridgesAreLent", "forgetPastIf", "(Z)V"⟩, 8) := ⟨⟨by decide +kernel, by decide +kernel⟩, List.mem_of_getElem? (i := 27) (by decide +kernel), List.mem_of_getElem? (i := 487) (by decide +kernel), List.mem_of_getElem? (i := 488) (by decide +kernel)⟩
theorem lw_p1 : lw_okq (⟨"BridgesAreLent$Rule", "readLevel", "(LBridgesAreLent$Text;II)V"⟩, 5) := ⟨⟨by decide +kernel, by decide +kernel⟩, List.mem_of_getElem? (i := 189) (by decide +kernel), List.mem_of_getElem? (i := 510) (by decide +kernel), List.mem_of_getElem? (i := 511) (by decide +kernel)⟩
theorem lw_p2 : lw_okq (⟨"BridgesAreLent$Rule", "readSigned", "(LBridgesAreLent$Text;I)V"⟩, 5) := ⟨⟨by decide +kernel, by decide +kernel⟩, List.mem_of_getElem? (i := 189) (by decide +kernel), List.mem_of_getElem? (i := 514) (by decide +kernel), List.mem_of_getElem? (i := 515) (by decide +kernel)⟩
theorem lw_p3 : lw_okq (⟨"BridgesAreLent$Rule", "readThing", "(LBridgesAreLent$Text;I)V"⟩, 5) := ⟨⟨by decide +kernel, by decide +kernel⟩, List.mem_of_getElem? (i := 189) (by decide +kernel), List.mem_of_getElem? (i := 519) (by decide +kernel), List.mem_of_getElem? (i := 520) (by decide +kernel)⟩
theorem lw_p4 : lw_okq (⟨"BridgesAreLent$Rule", "emit", "(I)V"⟩, 5) := ⟨⟨by decide +kernel, by decide +kernel⟩, List.mem_of_getElem? (i := 189) (by decide +kernel), List.mem_of_getElem? (i := 525) (by decide +kernel), List.mem_of_getElem? (i := 526) (by decide +kernel)⟩
theorem lw_p5 : lw_okq (⟨"BridgesAreLent$Valley", "placeOf", "(I)I"⟩, 9) := ⟨⟨by decide +kernel, by decide +kernel⟩, List.mem_of_getElem? (i := 75) (by decide +kernel), List.mem_of_getElem? (i := 698) (by decide +kernel), List.mem_of_getElem? (i := 699) (by decide +kernel)⟩
theorem lw_p6 : lw_okq (⟨"BridgesAreLent$Valley", "comeNearer", "()V"⟩, 9) := ⟨⟨by decide +kernel, by decide +kernel⟩, List.mem_of_getElem? (i := 75) (by decide +kernel), List.mem_of_getElem? (i := 771) (by decide +kernel), List.mem_of_getElem? (i := 772) (by decide +kernel)⟩
theorem lw_p7 : lw_okq (⟨"BridgesAreLent$Valley", "endLoans", "()V"⟩, 9) := ⟨⟨by decide +kernel, by decide +kernel⟩, List.mem_of_getElem? (i := 75) (by decide +kernel), List.mem_of_getElem? (i := 775) (by decide +kernel), List.mem_of_getElem? (i := 776) (by decide +kernel)⟩
theorem lw_p8 : lw_okq (⟨"BridgesAreLent$Day", "readAct", "(LBridgesAreLent$Text;I)V"⟩, 4) := ⟨⟨by decide +kernel, by decide +kernel⟩, List.mem_of_getElem? (i := 320) (by decide +kernel), List.mem_of_getElem? (i := 800) (by decide +kernel), List.mem_of_getElem? (i := 801) (by decide +kernel)⟩
theorem lw_p9 : lw_okq (⟨"BridgesAreLent$Day", "doesAct", "(LBridgesAreLent$Valley;I)Z"⟩, 4) := ⟨⟨by decide +kernel, by decide +kernel⟩, List.mem_of_getElem? (i := 320) (by decide +kernel), List.mem_of_getElem? (i := 814) (by decide +kernel), List.mem_of_getElem? (i := 815) (by decide +kernel)⟩
theorem lw_p10 : lw_okq (⟨"BridgesAreLent$Valley", "canMove", "(II)Z"⟩, 9) := ⟨⟨by decide +kernel, by decide +kernel⟩, List.mem_of_getElem? (i := 75) (by decide +kernel), List.mem_of_getElem? (i := 907) (by decide +kernel), List.mem_of_getElem? (i := 908) (by decide +kernel)⟩
theorem lw_p11 : lw_okq (⟨"BridgesAreLent$Valley", "openWithMove", "(IIII)I"⟩, 9) := ⟨⟨by decide +kernel, by decide +kernel⟩, List.mem_of_getElem? (i := 75) (by decide +kernel), List.mem_of_getElem? (i := 911) (by decide +kernel), List.mem_of_getElem? (i := 912) (by decide +kernel)⟩
theorem lw_p12 : lw_okq (⟨"BridgesAreLent$Valley", "bySecondMove", "(LBridgesAreLent$Row;IIIII)Z"⟩, 9) := ⟨⟨by decide +kernel, by decide +kernel⟩, List.mem_of_getElem? (i := 75) (by decide +kernel), List.mem_of_getElem? (i := 921) (by decide +kernel), List.mem_of_getElem? (i := 922) (by decide +kernel)⟩
theorem lw_p13 : lw_okq (⟨"BridgesAreLent$Layouts", "firstFor", "(III)I"⟩, 5) := ⟨⟨by decide +kernel, by decide +kernel⟩, List.mem_of_getElem? (i := 256) (by decide +kernel), List.mem_of_getElem? (i := 955) (by decide +kernel), List.mem_of_getElem? (i := 956) (by decide +kernel)⟩
theorem lw_p14 : lw_okq (⟨"BridgesAreLent$Layouts", "grants", "(I)Z"⟩, 5) := ⟨⟨by decide +kernel, by decide +kernel⟩, List.mem_of_getElem? (i := 256) (by decide +kernel), List.mem_of_getElem? (i := 974) (by decide +kernel), List.mem_of_getElem? (i := 975) (by decide +kernel)⟩
theorem lw_p15 : lw_okq (⟨"BridgesAreLent$Drifting", "passNight", "(I)V"⟩, 4) := ⟨⟨by decide +kernel, by decide +kernel⟩, List.mem_of_getElem? (i := 278) (by decide +kernel), List.mem_of_getElem? (i := 1038) (by decide +kernel), List.mem_of_getElem? (i := 1039) (by decide +kernel)⟩
def lw_privs_1 : List (MethodName × Nat) := [(⟨"BridgesAreLent", "forgetPastIf", "(Z)V"⟩, 8), (⟨"BridgesAreLent$Rule", "readLevel", "(LBridgesAreLent$Text;II)V"⟩, 5), (⟨"BridgesAreLent$Rule", "readSigned", "(LBridgesAreLent$Text;I)V"⟩, 5), (⟨"BridgesAreLent$Rule", "readThing", "(LBridgesAreLent$Text;I)V"⟩, 5), (⟨"BridgesAreLent$Rule", "emit", "(I)V"⟩, 5), (⟨"BridgesAreLent$Valley", "placeOf", "(I)I"⟩, 9), (⟨"BridgesAreLent$Valley", "comeNearer", "()V"⟩, 9), (⟨"BridgesAreLent$Valley", "endLoans", "()V"⟩, 9), (⟨"BridgesAreLent$Day", "readAct", "(LBridgesAreLent$Text;I)V"⟩, 4), (⟨"BridgesAreLent$Day", "doesAct", "(LBridgesAreLent$Valley;I)Z"⟩, 4), (⟨"BridgesAreLent$Valley", "canMove", "(II)Z"⟩, 9), (⟨"BridgesAreLent$Valley", "openWithMove", "(IIII)I"⟩, 9), (⟨"BridgesAreLent$Valley", "bySecondMove", "(LBridgesAreLent$Row;IIIII)Z"⟩, 9), (⟨"BridgesAreLent$Layouts", "firstFor", "(III)I"⟩, 5), (⟨"BridgesAreLent$Layouts", "grants", "(I)Z"⟩, 5), (⟨"BridgesAreLent$Drifting", "passNight", "(I)V"⟩, 4)]
theorem lw_r1 : ∀ q ∈ lw_privs_1, lw_okq q := List.forall_mem_cons.mpr ⟨lw_p0, List.forall_mem_cons.mpr ⟨lw_p1, List.forall_mem_cons.mpr ⟨lw_p2, List.forall_mem_cons.mpr ⟨lw_p3, List.forall_mem_cons.mpr ⟨lw_p4, List.forall_mem_cons.mpr ⟨lw_p5, List.forall_mem_cons.mpr ⟨lw_p6, List.forall_mem_cons.mpr ⟨lw_p7, List.forall_mem_cons.mpr ⟨lw_p8, List.forall_mem_cons.mpr ⟨lw_p9, List.forall_mem_cons.mpr ⟨lw_p10, List.forall_mem_cons.mpr ⟨lw_p11, List.forall_mem_cons.mpr ⟨lw_p12, List.forall_mem_cons.mpr ⟨lw_p13, List.forall_mem_cons.mpr ⟨lw_p14, List.forall_mem_cons.mpr ⟨lw_p15, fun _ h => absurd h List.not_mem_nil⟩⟩⟩⟩⟩⟩⟩⟩⟩⟩⟩⟩⟩⟩⟩⟩
theorem lw_p16 : lw_okq (⟨"BridgesAreLent$Finds", "fits", "(I)Z"⟩, 4) := ⟨⟨by decide +kernel, by decide +kernel⟩, List.mem_of_getElem? (i := 299) (by decide +kernel), List.mem_of_getElem? (i := 1082) (by decide +kernel), List.mem_of_getElem? (i := 1083) (by decide +kernel)⟩
theorem lw_p17 : lw_okq (⟨"BridgesAreLent$Finds", "isSo", "(II)Z"⟩, 4) := ⟨⟨by decide +kernel, by decide +kernel⟩, List.mem_of_getElem? (i := 299) (by decide +kernel), List.mem_of_getElem? (i := 1086) (by decide +kernel), List.mem_of_getElem? (i := 1087) (by decide +kernel)⟩
theorem lw_p18 : lw_okq (⟨"BridgesAreLent$Drifting", "driftsToShed", "(I)Z"⟩, 4) := ⟨⟨by decide +kernel, by decide +kernel⟩, List.mem_of_getElem? (i := 278) (by decide +kernel), List.mem_of_getElem? (i := 1142) (by decide +kernel), List.mem_of_getElem? (i := 1143) (by decide +kernel)⟩
theorem lw_p19 : lw_okq (⟨"BridgesAreLent$Drifting", "dreamedPairs", "()I"⟩, 4) := ⟨⟨by decide +kernel, by decide +kernel⟩, List.mem_of_getElem? (i := 278) (by decide +kernel), List.mem_of_getElem? (i := 1152) (by decide +kernel), List.mem_of_getElem? (i := 1153) (by decide +kernel)⟩
theorem lw_p20 : lw_okq (⟨"java/lang/Throwable", "fillInStackTrace", "(I)Ljava/lang/Throwable;"⟩, 6) := ⟨⟨by decide +kernel, by decide +kernel⟩, List.mem_of_getElem? (i := 1234) (by decide +kernel), List.mem_of_getElem? (i := 1232) (by decide +kernel), List.mem_of_getElem? (i := 1233) (by decide +kernel)⟩
theorem lw_p21 : lw_okq (⟨"BridgesAreLentModel", "begins", "(I)I"⟩, 60) := ⟨⟨by decide +kernel, by decide +kernel⟩, List.mem_of_getElem? (i := 1289) (by decide +kernel), List.mem_of_getElem? (i := 1495) (by decide +kernel), List.mem_of_getElem? (i := 1496) (by decide +kernel)⟩
theorem lw_p22 : lw_okq (⟨"BridgesAreLentModel", "takesOf", "(Ljava/lang/String;)I"⟩, 60) := ⟨⟨by decide +kernel, by decide +kernel⟩, List.mem_of_getElem? (i := 1289) (by decide +kernel), List.mem_of_getElem? (i := 1501) (by decide +kernel), List.mem_of_getElem? (i := 1502) (by decide +kernel)⟩
theorem lw_p23 : lw_okq (⟨"BridgesAreLentModel", "among", "(Ljava/lang/String;)I"⟩, 60) := ⟨⟨by decide +kernel, by decide +kernel⟩, List.mem_of_getElem? (i := 1289) (by decide +kernel), List.mem_of_getElem? (i := 1505) (by decide +kernel), List.mem_of_getElem? (i := 1506) (by decide +kernel)⟩
theorem lw_p24 : lw_okq (⟨"BridgesAreLentModel", "isNext", "(I)Z"⟩, 60) := ⟨⟨by decide +kernel, by decide +kernel⟩, List.mem_of_getElem? (i := 1289) (by decide +kernel), List.mem_of_getElem? (i := 1514) (by decide +kernel), List.mem_of_getElem? (i := 1515) (by decide +kernel)⟩
theorem lw_p25 : lw_okq (⟨"BridgesAreLentModel", "readsCrossing", "()Z"⟩, 60) := ⟨⟨by decide +kernel, by decide +kernel⟩, List.mem_of_getElem? (i := 1289) (by decide +kernel), List.mem_of_getElem? (i := 1518) (by decide +kernel), List.mem_of_getElem? (i := 1519) (by decide +kernel)⟩
theorem lw_p26 : lw_okq (⟨"BridgesAreLentModel", "twoBanks", "(I)I"⟩, 60) := ⟨⟨by decide +kernel, by decide +kernel⟩, List.mem_of_getElem? (i := 1289) (by decide +kernel), List.mem_of_getElem? (i := 1522) (by decide +kernel), List.mem_of_getElem? (i := 1523) (by decide +kernel)⟩
theorem lw_p27 : lw_okq (⟨"BridgesAreLentModel", "letter", "(I)I"⟩, 60) := ⟨⟨by decide +kernel, by decide +kernel⟩, List.mem_of_getElem? (i := 1289) (by decide +kernel), List.mem_of_getElem? (i := 1526) (by decide +kernel), List.mem_of_getElem? (i := 1527) (by decide +kernel)⟩
theorem lw_p28 : lw_okq (⟨"BridgesAreLentModel", "number", "(I)I"⟩, 60) := ⟨⟨by decide +kernel, by decide +kernel⟩, List.mem_of_getElem? (i := 1289) (by decide +kernel), List.mem_of_getElem? (i := 1531) (by decide +kernel), List.mem_of_getElem? (i := 1532) (by decide +kernel)⟩
theorem lw_p29 : lw_okq (⟨"BridgesAreLentModel", "isDigit", "()Z"⟩, 60) := ⟨⟨by decide +kernel, by decide +kernel⟩, List.mem_of_getElem? (i := 1289) (by decide +kernel), List.mem_of_getElem? (i := 1535) (by decide +kernel), List.mem_of_getElem? (i := 1536) (by decide +kernel)⟩
theorem lw_p30 : lw_okq (⟨"BridgesAreLentModel", "faultOf", "(IIZ)I"⟩, 60) := ⟨⟨by decide +kernel, by decide +kernel⟩, List.mem_of_getElem? (i := 1289) (by decide +kernel), List.mem_of_getElem? (i := 1542) (by decide +kernel), List.mem_of_getElem? (i := 1543) (by decide +kernel)⟩
theorem lw_p31 : lw_okq (⟨"BridgesAreLentModel", "comes", "()V"⟩, 60) := ⟨⟨by decide +kernel, by decide +kernel⟩, List.mem_of_getElem? (i := 1289) (by decide +kernel), List.mem_of_getElem? (i := 1546) (by decide +kernel), List.mem_of_getElem? (i := 1547) (by decide +kernel)⟩
def lw_privs_2 : List (MethodName × Nat) := [(⟨"BridgesAreLent$Finds", "fits", "(I)Z"⟩, 4), (⟨"BridgesAreLent$Finds", "isSo", "(II)Z"⟩, 4), (⟨"BridgesAreLent$Drifting", "driftsToShed", "(I)Z"⟩, 4), (⟨"BridgesAreLent$Drifting", "dreamedPairs", "()I"⟩, 4), (⟨"java/lang/Throwable", "fillInStackTrace", "(I)Ljava/lang/Throwable;"⟩, 6), (⟨"BridgesAreLentModel", "begins", "(I)I"⟩, 60), (⟨"BridgesAreLentModel", "takesOf", "(Ljava/lang/String;)I"⟩, 60), (⟨"BridgesAreLentModel", "among", "(Ljava/lang/String;)I"⟩, 60), (⟨"BridgesAreLentModel", "isNext", "(I)Z"⟩, 60), (⟨"BridgesAreLentModel", "readsCrossing", "()Z"⟩, 60), (⟨"BridgesAreLentModel", "twoBanks", "(I)I"⟩, 60), (⟨"BridgesAreLentModel", "letter", "(I)I"⟩, 60), (⟨"BridgesAreLentModel", "number", "(I)I"⟩, 60), (⟨"BridgesAreLentModel", "isDigit", "()Z"⟩, 60), (⟨"BridgesAreLentModel", "faultOf", "(IIZ)I"⟩, 60), (⟨"BridgesAreLentModel", "comes", "()V"⟩, 60)]
theorem lw_r2 : ∀ q ∈ lw_privs_2, lw_okq q := List.forall_mem_cons.mpr ⟨lw_p16, List.forall_mem_cons.mpr ⟨lw_p17, List.forall_mem_cons.mpr ⟨lw_p18, List.forall_mem_cons.mpr ⟨lw_p19, List.forall_mem_cons.mpr ⟨lw_p20, List.forall_mem_cons.mpr ⟨lw_p21, List.forall_mem_cons.mpr ⟨lw_p22, List.forall_mem_cons.mpr ⟨lw_p23, List.forall_mem_cons.mpr ⟨lw_p24, List.forall_mem_cons.mpr ⟨lw_p25, List.forall_mem_cons.mpr ⟨lw_p26, List.forall_mem_cons.mpr ⟨lw_p27, List.forall_mem_cons.mpr ⟨lw_p28, List.forall_mem_cons.mpr ⟨lw_p29, List.forall_mem_cons.mpr ⟨lw_p30, List.forall_mem_cons.mpr ⟨lw_p31, fun _ h => absurd h List.not_mem_nil⟩⟩⟩⟩⟩⟩⟩⟩⟩⟩⟩⟩⟩⟩⟩⟩
theorem lw_p32 : lw_okq (⟨"BridgesAreLentModel", "readsPairs", "(Z)I"⟩, 60) := ⟨⟨by decide +kernel, by decide +kernel⟩, List.mem_of_getElem? (i := 1289) (by decide +kernel), List.mem_of_getElem? (i := 1554) (by decide +kernel), List.mem_of_getElem? (i := 1555) (by decide +kernel)⟩
theorem lw_p33 : lw_okq (⟨"BridgesAreLentModel", "readsPair", "(Z)Z"⟩, 60) := ⟨⟨by decide +kernel, by decide +kernel⟩, List.mem_of_getElem? (i := 1289) (by decide +kernel), List.mem_of_getElem? (i := 1558) (by decide +kernel), List.mem_of_getElem? (i := 1559) (by decide +kernel)⟩
theorem lw_p34 : lw_okq (⟨"BridgesAreLentModel", "readsRank", "(I)Z"⟩, 60) := ⟨⟨by decide +kernel, by decide +kernel⟩, List.mem_of_getElem? (i := 1289) (by decide +kernel), List.mem_of_getElem? (i := 1570) (by decide +kernel), List.mem_of_getElem? (i := 1571) (by decide +kernel)⟩
theorem lw_p35 : lw_okq (⟨"BridgesAreLentModel", "readsThing", "()Z"⟩, 60) := ⟨⟨by decide +kernel, by decide +kernel⟩, List.mem_of_getElem? (i := 1289) (by decide +kernel), List.mem_of_getElem? (i := 1574) (by decide +kernel), List.mem_of_getElem? (i := 1575) (by decide +kernel)⟩
theorem lw_p36 : lw_okq (⟨"BridgesAreLentModel", "codes", "(I)V"⟩, 60) := ⟨⟨by decide +kernel, by decide +kernel⟩, List.mem_of_getElem? (i := 1289) (by decide +kernel), List.mem_of_getElem? (i := 1578) (by decide +kernel), List.mem_of_getElem? (i := 1579) (by decide +kernel)⟩
theorem lw_p37 : lw_okq (⟨"BridgesAreLentModel", "isCrossing", "(I)Z"⟩, 60) := ⟨⟨by decide +kernel, by decide +kernel⟩, List.mem_of_getElem? (i := 1289) (by decide +kernel), List.mem_of_getElem? (i := 1590) (by decide +kernel), List.mem_of_getElem? (i := 1591) (by decide +kernel)⟩
theorem lw_p38 : lw_okq (⟨"BridgesAreLentModel", "refuse", "()I"⟩, 60) := ⟨⟨by decide +kernel, by decide +kernel⟩, List.mem_of_getElem? (i := 1289) (by decide +kernel), List.mem_of_getElem? (i := 1595) (by decide +kernel), List.mem_of_getElem? (i := 1596) (by decide +kernel)⟩
theorem lw_p39 : lw_okq (⟨"BridgesAreLentModel", "bridgeAt", "(IZ)I"⟩, 60) := ⟨⟨by decide +kernel, by decide +kernel⟩, List.mem_of_getElem? (i := 1289) (by decide +kernel), List.mem_of_getElem? (i := 1599) (by decide +kernel), List.mem_of_getElem? (i := 1600) (by decide +kernel)⟩
theorem lw_p40 : lw_okq (⟨"BridgesAreLentModel", "isBridge", "(I)Z"⟩, 60) := ⟨⟨by decide +kernel, by decide +kernel⟩, List.mem_of_getElem? (i := 1289) (by decide +kernel), List.mem_of_getElem? (i := 1607) (by decide +kernel), List.mem_of_getElem? (i := 1608) (by decide +kernel)⟩
theorem lw_p41 : lw_okq (⟨"BridgesAreLentModel", "isPerson", "(I)Z"⟩, 60) := ⟨⟨by decide +kernel, by decide +kernel⟩, List.mem_of_getElem? (i := 1289) (by decide +kernel), List.mem_of_getElem? (i := 1616) (by decide +kernel), List.mem_of_getElem? (i := 1617) (by decide +kernel)⟩
theorem lw_p42 : lw_okq (⟨"BridgesAreLentModel", "whyNot", "(II)I"⟩, 60) := ⟨⟨by decide +kernel, by decide +kernel⟩, List.mem_of_getElem? (i := 1289) (by decide +kernel), List.mem_of_getElem? (i := 1634) (by decide +kernel), List.mem_of_getElem? (i := 1635) (by decide +kernel)⟩
theorem lw_p43 : lw_okq (⟨"BridgesAreLentModel", "towOf", "(II)I"⟩, 60) := ⟨⟨by decide +kernel, by decide +kernel⟩, List.mem_of_getElem? (i := 1289) (by decide +kernel), List.mem_of_getElem? (i := 1638) (by decide +kernel), List.mem_of_getElem? (i := 1639) (by decide +kernel)⟩
theorem lw_p44 : lw_okq (⟨"BridgesAreLentModel", "spotOf", "(I)I"⟩, 60) := ⟨⟨by decide +kernel, by decide +kernel⟩, List.mem_of_getElem? (i := 1289) (by decide +kernel), List.mem_of_getElem? (i := 1642) (by decide +kernel), List.mem_of_getElem? (i := 1643) (by decide +kernel)⟩
theorem lw_p45 : lw_okq (⟨"BridgesAreLentModel", "ruled", "()I"⟩, 60) := ⟨⟨by decide +kernel, by decide +kernel⟩, List.mem_of_getElem? (i := 1289) (by decide +kernel), List.mem_of_getElem? (i := 1647) (by decide +kernel), List.mem_of_getElem? (i := 1648) (by decide +kernel)⟩
theorem lw_p46 : lw_okq (⟨"BridgesAreLentModel", "putsBy", "()V"⟩, 60) := ⟨⟨by decide +kernel, by decide +kernel⟩, List.mem_of_getElem? (i := 1289) (by decide +kernel), List.mem_of_getElem? (i := 1658) (by decide +kernel), List.mem_of_getElem? (i := 1659) (by decide +kernel)⟩
theorem lw_p47 : lw_okq (⟨"BridgesAreLentModel", "tows", "(II)I"⟩, 60) := ⟨⟨by decide +kernel, by decide +kernel⟩, List.mem_of_getElem? (i := 1289) (by decide +kernel), List.mem_of_getElem? (i := 1662) (by decide +kernel), List.mem_of_getElem? (i := 1663) (by decide +kernel)⟩
def lw_privs_3 : List (MethodName × Nat) := [(⟨"BridgesAreLentModel", "readsPairs", "(Z)I"⟩, 60), (⟨"BridgesAreLentModel", "readsPair", "(Z)Z"⟩, 60), (⟨"BridgesAreLentModel", "readsRank", "(I)Z"⟩, 60), (⟨"BridgesAreLentModel", "readsThing", "()Z"⟩, 60), (⟨"BridgesAreLentModel", "codes", "(I)V"⟩, 60), (⟨"BridgesAreLentModel", "isCrossing", "(I)Z"⟩, 60), (⟨"BridgesAreLentModel", "refuse", "()I"⟩, 60), (⟨"BridgesAreLentModel", "bridgeAt", "(IZ)I"⟩, 60), (⟨"BridgesAreLentModel", "isBridge", "(I)Z"⟩, 60), (⟨"BridgesAreLentModel", "isPerson", "(I)Z"⟩, 60), (⟨"BridgesAreLentModel", "whyNot", "(II)I"⟩, 60), (⟨"BridgesAreLentModel", "towOf", "(II)I"⟩, 60), (⟨"BridgesAreLentModel", "spotOf", "(I)I"⟩, 60), (⟨"BridgesAreLentModel", "ruled", "()I"⟩, 60), (⟨"BridgesAreLentModel", "putsBy", "()V"⟩, 60), (⟨"BridgesAreLentModel", "tows", "(II)I"⟩, 60)]
theorem lw_r3 : ∀ q ∈ lw_privs_3, lw_okq q := List.forall_mem_cons.mpr ⟨lw_p32, List.forall_mem_cons.mpr ⟨lw_p33, List.forall_mem_cons.mpr ⟨lw_p34, List.forall_mem_cons.mpr ⟨lw_p35, List.forall_mem_cons.mpr ⟨lw_p36, List.forall_mem_cons.mpr ⟨lw_p37, List.forall_mem_cons.mpr ⟨lw_p38, List.forall_mem_cons.mpr ⟨lw_p39, List.forall_mem_cons.mpr ⟨lw_p40, List.forall_mem_cons.mpr ⟨lw_p41, List.forall_mem_cons.mpr ⟨lw_p42, List.forall_mem_cons.mpr ⟨lw_p43, List.forall_mem_cons.mpr ⟨lw_p44, List.forall_mem_cons.mpr ⟨lw_p45, List.forall_mem_cons.mpr ⟨lw_p46, List.forall_mem_cons.mpr ⟨lw_p47, fun _ h => absurd h List.not_mem_nil⟩⟩⟩⟩⟩⟩⟩⟩⟩⟩⟩⟩⟩⟩⟩⟩
theorem lw_p48 : lw_okq (⟨"BridgesAreLentModel", "counts", "(I)I"⟩, 60) := ⟨⟨by decide +kernel, by decide +kernel⟩, List.mem_of_getElem? (i := 1289) (by decide +kernel), List.mem_of_getElem? (i := 1666) (by decide +kernel), List.mem_of_getElem? (i := 1667) (by decide +kernel)⟩
theorem lw_p49 : lw_okq (⟨"BridgesAreLentModel", "adds", "(I)I"⟩, 60) := ⟨⟨by decide +kernel, by decide +kernel⟩, List.mem_of_getElem? (i := 1289) (by decide +kernel), List.mem_of_getElem? (i := 1670) (by decide +kernel), List.mem_of_getElem? (i := 1671) (by decide +kernel)⟩
theorem lw_p50 : lw_okq (⟨"BridgesAreLentModel", "lends", "(II)I"⟩, 60) := ⟨⟨by decide +kernel, by decide +kernel⟩, List.mem_of_getElem? (i := 1289) (by decide +kernel), List.mem_of_getElem? (i := 1678) (by decide +kernel), List.mem_of_getElem? (i := 1679) (by decide +kernel)⟩
theorem lw_p51 : lw_okq (⟨"BridgesAreLentModel", "crosses", "(II)I"⟩, 60) := ⟨⟨by decide +kernel, by decide +kernel⟩, List.mem_of_getElem? (i := 1289) (by decide +kernel), List.mem_of_getElem? (i := 1687) (by decide +kernel), List.mem_of_getElem? (i := 1688) (by decide +kernel)⟩
theorem lw_p52 : lw_okq (⟨"BridgesAreLentModel", "openIn", "(II)I"⟩, 60) := ⟨⟨by decide +kernel, by decide +kernel⟩, List.mem_of_getElem? (i := 1289) (by decide +kernel), List.mem_of_getElem? (i := 1691) (by decide +kernel), List.mem_of_getElem? (i := 1692) (by decide +kernel)⟩
theorem lw_p53 : lw_okq (⟨"BridgesAreLentModel", "startsCounting", "()V"⟩, 60) := ⟨⟨by decide +kernel, by decide +kernel⟩, List.mem_of_getElem? (i := 1289) (by decide +kernel), List.mem_of_getElem? (i := 1703) (by decide +kernel), List.mem_of_getElem? (i := 1704) (by decide +kernel)⟩
theorem lw_p54 : lw_okq (⟨"BridgesAreLentModel", "hourGoes", "()V"⟩, 60) := ⟨⟨by decide +kernel, by decide +kernel⟩, List.mem_of_getElem? (i := 1289) (by decide +kernel), List.mem_of_getElem? (i := 1707) (by decide +kernel), List.mem_of_getElem? (i := 1708) (by decide +kernel)⟩
theorem lw_p55 : lw_okq (⟨"BridgesAreLentModel", "enters", "(J)V"⟩, 60) := ⟨⟨by decide +kernel, by decide +kernel⟩, List.mem_of_getElem? (i := 1289) (by decide +kernel), List.mem_of_getElem? (i := 1711) (by decide +kernel), List.mem_of_getElem? (i := 1712) (by decide +kernel)⟩
theorem lw_p56 : lw_okq (⟨"BridgesAreLentModel", "readsAct", "()Z"⟩, 60) := ⟨⟨by decide +kernel, by decide +kernel⟩, List.mem_of_getElem? (i := 1289) (by decide +kernel), List.mem_of_getElem? (i := 1719) (by decide +kernel), List.mem_of_getElem? (i := 1720) (by decide +kernel)⟩
theorem lw_p57 : lw_okq (⟨"BridgesAreLentModel", "does", "(I)Z"⟩, 60) := ⟨⟨by decide +kernel, by decide +kernel⟩, List.mem_of_getElem? (i := 1289) (by decide +kernel), List.mem_of_getElem? (i := 1724) (by decide +kernel), List.mem_of_getElem? (i := 1725) (by decide +kernel)⟩
theorem lw_p58 : lw_okq (⟨"BridgesAreLentModel", "isBank", "(I)Z"⟩, 60) := ⟨⟨by decide +kernel, by decide +kernel⟩, List.mem_of_getElem? (i := 1289) (by decide +kernel), List.mem_of_getElem? (i := 1732) (by decide +kernel), List.mem_of_getElem? (i := 1733) (by decide +kernel)⟩
theorem lw_p59 : lw_okq (⟨"BridgesAreLentModel", "laysFar", "(II)V"⟩, 60) := ⟨⟨by decide +kernel, by decide +kernel⟩, List.mem_of_getElem? (i := 1289) (by decide +kernel), List.mem_of_getElem? (i := 1736) (by decide +kernel), List.mem_of_getElem? (i := 1737) (by decide +kernel)⟩
theorem lw_p60 : lw_okq (⟨"BridgesAreLentModel", "pairsOf", "(I)I"⟩, 60) := ⟨⟨by decide +kernel, by decide +kernel⟩, List.mem_of_getElem? (i := 1289) (by decide +kernel), List.mem_of_getElem? (i := 1744) (by decide +kernel), List.mem_of_getElem? (i := 1745) (by decide +kernel)⟩
theorem lw_p61 : lw_okq (⟨"BridgesAreLentModel", "reach", "(II)I"⟩, 60) := ⟨⟨by decide +kernel, by decide +kernel⟩, List.mem_of_getElem? (i := 1289) (by decide +kernel), List.mem_of_getElem? (i := 1748) (by decide +kernel), List.mem_of_getElem? (i := 1749) (by decide +kernel)⟩
theorem lw_p62 : lw_okq (⟨"BridgesAreLentModel", "reachOnce", "(II)I"⟩, 60) := ⟨⟨by decide +kernel, by decide +kernel⟩, List.mem_of_getElem? (i := 1289) (by decide +kernel), List.mem_of_getElem? (i := 1752) (by decide +kernel), List.mem_of_getElem? (i := 1753) (by decide +kernel)⟩
theorem lw_p63 : lw_okq (⟨"BridgesAreLentModel", "canGo", "(III)Z"⟩, 60) := ⟨⟨by decide +kernel, by decide +kernel⟩, List.mem_of_getElem? (i := 1289) (by decide +kernel), List.mem_of_getElem? (i := 1765) (by decide +kernel), List.mem_of_getElem? (i := 1766) (by decide +kernel)⟩
def lw_privs_4 : List (MethodName × Nat) := [(⟨"BridgesAreLentModel", "counts", "(I)I"⟩, 60), (⟨"BridgesAreLentModel", "adds", "(I)I"⟩, 60), (⟨"BridgesAreLentModel", "lends", "(II)I"⟩, 60), (⟨"BridgesAreLentModel", "crosses", "(II)I"⟩, 60), (⟨"BridgesAreLentModel", "openIn", "(II)I"⟩, 60), (⟨"BridgesAreLentModel", "startsCounting", "()V"⟩, 60), (⟨"BridgesAreLentModel", "hourGoes", "()V"⟩, 60), (⟨"BridgesAreLentModel", "enters", "(J)V"⟩, 60), (⟨"BridgesAreLentModel", "readsAct", "()Z"⟩, 60), (⟨"BridgesAreLentModel", "does", "(I)Z"⟩, 60), (⟨"BridgesAreLentModel", "isBank", "(I)Z"⟩, 60), (⟨"BridgesAreLentModel", "laysFar", "(II)V"⟩, 60), (⟨"BridgesAreLentModel", "pairsOf", "(I)I"⟩, 60), (⟨"BridgesAreLentModel", "reach", "(II)I"⟩, 60), (⟨"BridgesAreLentModel", "reachOnce", "(II)I"⟩, 60), (⟨"BridgesAreLentModel", "canGo", "(III)Z"⟩, 60)]
theorem lw_r4 : ∀ q ∈ lw_privs_4, lw_okq q := List.forall_mem_cons.mpr ⟨lw_p48, List.forall_mem_cons.mpr ⟨lw_p49, List.forall_mem_cons.mpr ⟨lw_p50, List.forall_mem_cons.mpr ⟨lw_p51, List.forall_mem_cons.mpr ⟨lw_p52, List.forall_mem_cons.mpr ⟨lw_p53, List.forall_mem_cons.mpr ⟨lw_p54, List.forall_mem_cons.mpr ⟨lw_p55, List.forall_mem_cons.mpr ⟨lw_p56, List.forall_mem_cons.mpr ⟨lw_p57, List.forall_mem_cons.mpr ⟨lw_p58, List.forall_mem_cons.mpr ⟨lw_p59, List.forall_mem_cons.mpr ⟨lw_p60, List.forall_mem_cons.mpr ⟨lw_p61, List.forall_mem_cons.mpr ⟨lw_p62, List.forall_mem_cons.mpr ⟨lw_p63, fun _ h => absurd h List.not_mem_nil⟩⟩⟩⟩⟩⟩⟩⟩⟩⟩⟩⟩⟩⟩⟩⟩
theorem lw_p64 : lw_okq (⟨"BridgesAreLentModel", "canPut", "(II)Z"⟩, 60) := ⟨⟨by decide +kernel, by decide +kernel⟩, List.mem_of_getElem? (i := 1289) (by decide +kernel), List.mem_of_getElem? (i := 1769) (by decide +kernel), List.mem_of_getElem? (i := 1770) (by decide +kernel)⟩
theorem lw_p65 : lw_okq (⟨"BridgesAreLentModel", "isFree", "(I)Z"⟩, 60) := ⟨⟨by decide +kernel, by decide +kernel⟩, List.mem_of_getElem? (i := 1289) (by decide +kernel), List.mem_of_getElem? (i := 1773) (by decide +kernel), List.mem_of_getElem? (i := 1774) (by decide +kernel)⟩
theorem lw_p66 : lw_okq (⟨"BridgesAreLentModel", "openWith", "(IIII)I"⟩, 60) := ⟨⟨by decide +kernel, by decide +kernel⟩, List.mem_of_getElem? (i := 1289) (by decide +kernel), List.mem_of_getElem? (i := 1777) (by decide +kernel), List.mem_of_getElem? (i := 1778) (by decide +kernel)⟩
theorem lw_p67 : lw_okq (⟨"BridgesAreLentModel", "allCrossings", "()I"⟩, 60) := ⟨⟨by decide +kernel, by decide +kernel⟩, List.mem_of_getElem? (i := 1289) (by decide +kernel), List.mem_of_getElem? (i := 1789) (by decide +kernel), List.mem_of_getElem? (i := 1790) (by decide +kernel)⟩
theorem lw_p68 : lw_okq (⟨"BridgesAreLentModel", "laysFrom", "(IIII)Z"⟩, 60) := ⟨⟨by decide +kernel, by decide +kernel⟩, List.mem_of_getElem? (i := 1289) (by decide +kernel), List.mem_of_getElem? (i := 1793) (by decide +kernel), List.mem_of_getElem? (i := 1794) (by decide +kernel)⟩
theorem lw_p69 : lw_okq (⟨"BridgesAreLentModel", "fewestFor", "()I"⟩, 60) := ⟨⟨by decide +kernel, by decide +kernel⟩, List.mem_of_getElem? (i := 1289) (by decide +kernel), List.mem_of_getElem? (i := 1802) (by decide +kernel), List.mem_of_getElem? (i := 1803) (by decide +kernel)⟩
theorem lw_p70 : lw_okq (⟨"BridgesAreLentModel", "joinsAll", "(I)Z"⟩, 60) := ⟨⟨by decide +kernel, by decide +kernel⟩, List.mem_of_getElem? (i := 1289) (by decide +kernel), List.mem_of_getElem? (i := 1806) (by decide +kernel), List.mem_of_getElem? (i := 1807) (by decide +kernel)⟩
theorem lw_p71 : lw_okq (⟨"BridgesAreLentModel", "canLay", "(I)Z"⟩, 60) := ⟨⟨by decide +kernel, by decide +kernel⟩, List.mem_of_getElem? (i := 1289) (by decide +kernel), List.mem_of_getElem? (i := 1810) (by decide +kernel), List.mem_of_getElem? (i := 1811) (by decide +kernel)⟩
theorem lw_p72 : lw_okq (⟨"BridgesAreLentModel", "pairsBy", "(I)I"⟩, 60) := ⟨⟨by decide +kernel, by decide +kernel⟩, List.mem_of_getElem? (i := 1289) (by decide +kernel), List.mem_of_getElem? (i := 1827) (by decide +kernel), List.mem_of_getElem? (i := 1828) (by decide +kernel)⟩
theorem lw_p73 : lw_okq (⟨"BridgesAreLentModel", "shortBy", "(I)I"⟩, 60) := ⟨⟨by decide +kernel, by decide +kernel⟩, List.mem_of_getElem? (i := 1289) (by decide +kernel), List.mem_of_getElem? (i := 1831) (by decide +kernel), List.mem_of_getElem? (i := 1832) (by decide +kernel)⟩
theorem lw_p74 : lw_okq (⟨"BridgesAreLentModel", "isAt", "(I)Z"⟩, 60) := ⟨⟨by decide +kernel, by decide +kernel⟩, List.mem_of_getElem? (i := 1289) (by decide +kernel), List.mem_of_getElem? (i := 1850) (by decide +kernel), List.mem_of_getElem? (i := 1851) (by decide +kernel)⟩
theorem lw_p75 : lw_okq (⟨"BridgesAreLentModel", "drifts", "(III)V"⟩, 60) := ⟨⟨by decide +kernel, by decide +kernel⟩, List.mem_of_getElem? (i := 1289) (by decide +kernel), List.mem_of_getElem? (i := 1854) (by decide +kernel), List.mem_of_getElem? (i := 1855) (by decide +kernel)⟩
theorem lw_p76 : lw_okq (⟨"BridgesAreLentModel", "nextDown", "(I)I"⟩, 60) := ⟨⟨by decide +kernel, by decide +kernel⟩, List.mem_of_getElem? (i := 1289) (by decide +kernel), List.mem_of_getElem? (i := 1858) (by decide +kernel), List.mem_of_getElem? (i := 1859) (by decide +kernel)⟩
theorem lw_p77 : lw_okq (⟨"BridgesAreLentModel", "tellsShare", "(I)V"⟩, 60) := ⟨⟨by decide +kernel, by decide +kernel⟩, List.mem_of_getElem? (i := 1289) (by decide +kernel), List.mem_of_getElem? (i := 1862) (by decide +kernel), List.mem_of_getElem? (i := 1863) (by decide +kernel)⟩
theorem lw_p78 : lw_okq (⟨"BridgesAreLentModel", "fitting", "()I"⟩, 60) := ⟨⟨by decide +kernel, by decide +kernel⟩, List.mem_of_getElem? (i := 1289) (by decide +kernel), List.mem_of_getElem? (i := 1888) (by decide +kernel), List.mem_of_getElem? (i := 1889) (by decide +kernel)⟩
theorem lw_p79 : lw_okq (⟨"BridgesAreLentModel", "isSo", "(III)Z"⟩, 60) := ⟨⟨by decide +kernel, by decide +kernel⟩, List.mem_of_getElem? (i := 1289) (by decide +kernel), List.mem_of_getElem? (i := 1892) (by decide +kernel), List.mem_of_getElem? (i := 1893) (by decide +kernel)⟩
def lw_privs_5 : List (MethodName × Nat) := [(⟨"BridgesAreLentModel", "canPut", "(II)Z"⟩, 60), (⟨"BridgesAreLentModel", "isFree", "(I)Z"⟩, 60), (⟨"BridgesAreLentModel", "openWith", "(IIII)I"⟩, 60), (⟨"BridgesAreLentModel", "allCrossings", "()I"⟩, 60), (⟨"BridgesAreLentModel", "laysFrom", "(IIII)Z"⟩, 60), (⟨"BridgesAreLentModel", "fewestFor", "()I"⟩, 60), (⟨"BridgesAreLentModel", "joinsAll", "(I)Z"⟩, 60), (⟨"BridgesAreLentModel", "canLay", "(I)Z"⟩, 60), (⟨"BridgesAreLentModel", "pairsBy", "(I)I"⟩, 60), (⟨"BridgesAreLentModel", "shortBy", "(I)I"⟩, 60), (⟨"BridgesAreLentModel", "isAt", "(I)Z"⟩, 60), (⟨"BridgesAreLentModel", "drifts", "(III)V"⟩, 60), (⟨"BridgesAreLentModel", "nextDown", "(I)I"⟩, 60), (⟨"BridgesAreLentModel", "tellsShare", "(I)V"⟩, 60), (⟨"BridgesAreLentModel", "fitting", "()I"⟩, 60), (⟨"BridgesAreLentModel", "isSo", "(III)Z"⟩, 60)]
theorem lw_r5 : ∀ q ∈ lw_privs_5, lw_okq q := List.forall_mem_cons.mpr ⟨lw_p64, List.forall_mem_cons.mpr ⟨lw_p65, List.forall_mem_cons.mpr ⟨lw_p66, List.forall_mem_cons.mpr ⟨lw_p67, List.forall_mem_cons.mpr ⟨lw_p68, List.forall_mem_cons.mpr ⟨lw_p69, List.forall_mem_cons.mpr ⟨lw_p70, List.forall_mem_cons.mpr ⟨lw_p71, List.forall_mem_cons.mpr ⟨lw_p72, List.forall_mem_cons.mpr ⟨lw_p73, List.forall_mem_cons.mpr ⟨lw_p74, List.forall_mem_cons.mpr ⟨lw_p75, List.forall_mem_cons.mpr ⟨lw_p76, List.forall_mem_cons.mpr ⟨lw_p77, List.forall_mem_cons.mpr ⟨lw_p78, List.forall_mem_cons.mpr ⟨lw_p79, fun _ h => absurd h List.not_mem_nil⟩⟩⟩⟩⟩⟩⟩⟩⟩⟩⟩⟩⟩⟩⟩⟩
theorem lw_p80 : lw_okq (⟨"BridgesAreLentModel", "canShare", "(III)Z"⟩, 60) := ⟨⟨by decide +kernel, by decide +kernel⟩, List.mem_of_getElem? (i := 1289) (by decide +kernel), List.mem_of_getElem? (i := 1904) (by decide +kernel), List.mem_of_getElem? (i := 1905) (by decide +kernel)⟩
theorem lw_p81 : lw_okq (⟨"BridgesAreLentModel", "sharesBy", "(IIII)V"⟩, 60) := ⟨⟨by decide +kernel, by decide +kernel⟩, List.mem_of_getElem? (i := 1289) (by decide +kernel), List.mem_of_getElem? (i := 1909) (by decide +kernel), List.mem_of_getElem? (i := 1910) (by decide +kernel)⟩
theorem lw_p82 : lw_okq (⟨"BridgesAreLentModel", "homeIn", "(I)I"⟩, 60) := ⟨⟨by decide +kernel, by decide +kernel⟩, List.mem_of_getElem? (i := 1289) (by decide +kernel), List.mem_of_getElem? (i := 1931) (by decide +kernel), List.mem_of_getElem? (i := 1932) (by decide +kernel)⟩
theorem lw_p83 : lw_okq (⟨"BridgesAreLentModel", "isFreeThen", "(I)Z"⟩, 60) := ⟨⟨by decide +kernel, by decide +kernel⟩, List.mem_of_getElem? (i := 1289) (by decide +kernel), List.mem_of_getElem? (i := 1942) (by decide +kernel), List.mem_of_getElem? (i := 1943) (by decide +kernel)⟩
theorem lw_p84 : lw_okq (⟨"BridgesAreLentModel", "openThen", "()I"⟩, 60) := ⟨⟨by decide +kernel, by decide +kernel⟩, List.mem_of_getElem? (i := 1289) (by decide +kernel), List.mem_of_getElem? (i := 1946) (by decide +kernel), List.mem_of_getElem? (i := 1947) (by decide +kernel)⟩
theorem lw_p85 : lw_okq (⟨"BridgesAreLentModel", "bridgesBy", "(I)I"⟩, 60) := ⟨⟨by decide +kernel, by decide +kernel⟩, List.mem_of_getElem? (i := 1289) (by decide +kernel), List.mem_of_getElem? (i := 1963) (by decide +kernel), List.mem_of_getElem? (i := 1964) (by decide +kernel)⟩
def lw_privs_6 : List (MethodName × Nat) := [(⟨"BridgesAreLentModel", "canShare", "(III)Z"⟩, 60), (⟨"BridgesAreLentModel", "sharesBy", "(IIII)V"⟩, 60), (⟨"BridgesAreLentModel", "homeIn", "(I)I"⟩, 60), (⟨"BridgesAreLentModel", "isFreeThen", "(I)Z"⟩, 60), (⟨"BridgesAreLentModel", "openThen", "()I"⟩, 60), (⟨"BridgesAreLentModel", "bridgesBy", "(I)I"⟩, 60)]
theorem lw_r6 : ∀ q ∈ lw_privs_6, lw_okq q := List.forall_mem_cons.mpr ⟨lw_p80, List.forall_mem_cons.mpr ⟨lw_p81, List.forall_mem_cons.mpr ⟨lw_p82, List.forall_mem_cons.mpr ⟨lw_p83, List.forall_mem_cons.mpr ⟨lw_p84, List.forall_mem_cons.mpr ⟨lw_p85, fun _ h => absurd h List.not_mem_nil⟩⟩⟩⟩⟩⟩
def lw_privs : List (MethodName × Nat) := lw_privs_1 ++ (lw_privs_2 ++ (lw_privs_3 ++ (lw_privs_4 ++ (lw_privs_5 ++ (lw_privs_6)))))
def lw_tbl : List Cond := k2_sels lw_privs ++ tables_1
theorem lw_privs_ok : ∀ q ∈ lw_privs, lw_okq q := by
  show ∀ q ∈ lw_privs_1 ++ (lw_privs_2 ++ (lw_privs_3 ++ (lw_privs_4 ++ (lw_privs_5 ++ (lw_privs_6))))), lw_okq q
  exact List.forall_mem_append.mpr ⟨lw_r1, List.forall_mem_append.mpr ⟨lw_r2, List.forall_mem_append.mpr ⟨lw_r3, List.forall_mem_append.mpr ⟨lw_r4, List.forall_mem_append.mpr ⟨lw_r5, lw_r6⟩⟩⟩⟩⟩
end
section
def RX0 : String := "BridgesAreLent$Day"
def TX0 : u_T := fun k => match k with
  | 0 => ("BridgesAreLent$Day", "kind", "[I", true)
  | 1 => ("BridgesAreLent$Day", "first", "[I", true)
  | 2 => ("BridgesAreLent$Day", "second", "[I", true)
  | _ => ("BridgesAreLent$Day", "size", "I", false)
def tyX0 : Nat → FieldType := fun k => match k with
  | 0 => .array .int
  | 1 => .array .int
  | 2 => .array .int
  | _ => .int
theorem nmX0 : ∀ a, a < 4 → ∀ b, b < 4 → a ≠ b → (TX0 a).2.1 ≠ (TX0 b).2.1 := by decide +kernel
theorem tyX0_ok : ∀ k, k < 4 → parseFieldDescriptor (TX0 k).2.2.1 = some (tyX0 k) := by decide +kernel
abbrev cX0_init : ByteArray := prog_2_method_1_code
def yX0_init : MethodName := ⟨RX0, "<init>", "()V"⟩
abbrev cX0_read : ByteArray := prog_2_method_2_code
def yX0_read : MethodName := ⟨RX0, "read", "(LBridgesAreLent$Text;)V"⟩
abbrev cX0_readAct : ByteArray := prog_2_method_3_code
def yX0_readAct : MethodName := ⟨RX0, "readAct", "(LBridgesAreLent$Text;I)V"⟩
abbrev cX0_perform : ByteArray := prog_2_method_4_code
def yX0_perform : MethodName := ⟨RX0, "perform", "(LBridgesAreLent$Valley;)I"⟩
abbrev cX0_doesAct : ByteArray := prog_2_method_5_code
def yX0_doesAct : MethodName := ⟨RX0, "doesAct", "(LBridgesAreLent$Valley;I)Z"⟩
def RX1 : String := "BridgesAreLent$Drifting"
def TX1 : u_T := fun k => match k with
  | 0 => ("BridgesAreLent$Drifting", "valley", "LBridgesAreLent$Valley;", true)
  | 1 => ("BridgesAreLent$Drifting", "dream", "LBridgesAreLent$State;", true)
  | 2 => ("BridgesAreLent$Drifting", "chances", "[J", true)
  | _ => ("BridgesAreLent$Drifting", "whole", "J", false)
def tyX1 : Nat → FieldType := fun k => match k with
  | 0 => .object "BridgesAreLent$Valley"
  | 1 => .object "BridgesAreLent$State"
  | 2 => .array .long
  | _ => .long
theorem nmX1 : ∀ a, a < 4 → ∀ b, b < 4 → a ≠ b → (TX1 a).2.1 ≠ (TX1 b).2.1 := by decide +kernel
theorem tyX1_ok : ∀ k, k < 4 → parseFieldDescriptor (TX1 k).2.2.1 = some (tyX1 k) := by decide +kernel
abbrev cX1_init : ByteArray := prog_3_method_1_code
def yX1_init : MethodName := ⟨RX1, "<init>", "(LBridgesAreLent$Valley;)V"⟩
abbrev cX1_accepts : ByteArray := prog_3_method_2_code
def yX1_accepts : MethodName := ⟨RX1, "accepts", "(II)Z"⟩
abbrev cX1_spreadChances : ByteArray := prog_3_method_3_code
def yX1_spreadChances : MethodName := ⟨RX1, "spreadChances", "(III)V"⟩
abbrev cX1_passNight : ByteArray := prog_3_method_4_code
def yX1_passNight : MethodName := ⟨RX1, "passNight", "(I)V"⟩
abbrev cX1_likeliest : ByteArray := prog_3_method_5_code
def yX1_likeliest : MethodName := ⟨RX1, "likeliest", "()I"⟩
abbrev cX1_tellChance : ByteArray := prog_3_method_6_code
def yX1_tellChance : MethodName := ⟨RX1, "tellChance", "(LBridgesAreLent$Row;I)V"⟩
abbrev cX1_commonDivisor : ByteArray := prog_3_method_7_code
def yX1_commonDivisor : MethodName := ⟨RX1, "commonDivisor", "(JJ)J"⟩
abbrev cX1_tellYears : ByteArray := prog_3_method_8_code
def yX1_tellYears : MethodName := ⟨RX1, "tellYears", "(LBridgesAreLent$Row;II)I"⟩
abbrev cX1_driftsToShed : ByteArray := prog_3_method_9_code
def yX1_driftsToShed : MethodName := ⟨RX1, "driftsToShed", "(I)Z"⟩
abbrev cX1_dreamedPairs : ByteArray := prog_3_method_10_code
def yX1_dreamedPairs : MethodName := ⟨RX1, "dreamedPairs", "()I"⟩
def RX2 : String := "BridgesAreLent$Finds"
def TX2 : u_T := fun k => match k with
  | 0 => ("BridgesAreLent$Finds", "valley", "LBridgesAreLent$Valley;", true)
  | 1 => ("BridgesAreLent$Finds", "questions", "[I", true)
  | 2 => ("BridgesAreLent$Finds", "answers", "[Z", true)
  | _ => ("BridgesAreLent$Finds", "size", "I", false)
def tyX2 : Nat → FieldType := fun k => match k with
  | 0 => .object "BridgesAreLent$Valley"
  | 1 => .array .int
  | 2 => .array .boolean
  | _ => .int
theorem nmX2 : ∀ a, a < 4 → ∀ b, b < 4 → a ≠ b → (TX2 a).2.1 ≠ (TX2 b).2.1 := by decide +kernel
theorem tyX2_ok : ∀ k, k < 4 → parseFieldDescriptor (TX2 k).2.2.1 = some (tyX2 k) := by decide +kernel
abbrev cX2_init : ByteArray := prog_4_method_1_code
def yX2_init : MethodName := ⟨RX2, "<init>", "(LBridgesAreLent$Valley;)V"⟩
abbrev cX2_isQuestion : ByteArray := prog_4_method_2_code
def yX2_isQuestion : MethodName := ⟨RX2, "isQuestion", "(II)Z"⟩
abbrev cX2_add : ByteArray := prog_4_method_3_code
def yX2_add : MethodName := ⟨RX2, "add", "(III)I"⟩
abbrev cX2_isSo : ByteArray := prog_4_method_4_code
def yX2_isSo : MethodName := ⟨RX2, "isSo", "(II)Z"⟩
abbrev cX2_fits : ByteArray := prog_4_method_5_code
def yX2_fits : MethodName := ⟨RX2, "fits", "(I)Z"⟩
abbrev cX2_fitting : ByteArray := prog_4_method_6_code
def yX2_fitting : MethodName := ⟨RX2, "fitting", "()I"⟩
abbrev cX2_mostLeft : ByteArray := prog_4_method_7_code
def yX2_mostLeft : MethodName := ⟨RX2, "mostLeft", "(II)I"⟩
def RX3 : String := "BridgesAreLent$Layouts"
def TX3 : u_T := fun k => match k with
  | 0 => ("BridgesAreLent$Layouts", "valley", "LBridgesAreLent$Valley;", true)
  | 1 => ("BridgesAreLent$Layouts", "wishes", "[I", true)
  | 2 => ("BridgesAreLent$Layouts", "size", "I", false)
  | 3 => ("BridgesAreLent$Layouts", "wide", "[I", true)
  | _ => ("BridgesAreLent$Layouts", "enough", "[I", true)
def tyX3 : Nat → FieldType := fun k => match k with
  | 0 => .object "BridgesAreLent$Valley"
  | 1 => .array .int
  | 2 => .int
  | 3 => .array .int
  | _ => .array .int
theorem nmX3 : ∀ a, a < 5 → ∀ b, b < 5 → a ≠ b → (TX3 a).2.1 ≠ (TX3 b).2.1 := by decide +kernel
theorem tyX3_ok : ∀ k, k < 5 → parseFieldDescriptor (TX3 k).2.2.1 = some (tyX3 k) := by decide +kernel
abbrev cX3_init : ByteArray := prog_5_method_1_code
def yX3_init : MethodName := ⟨RX3, "<init>", "(LBridgesAreLent$Valley;)V"⟩
abbrev cX3_muster : ByteArray := prog_5_method_2_code
def yX3_muster : MethodName := ⟨RX3, "muster", "()I"⟩
abbrev cX3_fits : ByteArray := prog_5_method_3_code
def yX3_fits : MethodName := ⟨RX3, "fits", "(II)Z"⟩
abbrev cX3_tellLeast : ByteArray := prog_5_method_4_code
def yX3_tellLeast : MethodName := ⟨RX3, "tellLeast", "(LBridgesAreLent$Row;II)V"⟩
abbrev cX3_firstFor : ByteArray := prog_5_method_5_code
def yX3_firstFor : MethodName := ⟨RX3, "firstFor", "(III)I"⟩
abbrev cX3_wish : ByteArray := prog_5_method_6_code
def yX3_wish : MethodName := ⟨RX3, "wish", "(I)V"⟩
abbrev cX3_readErrands : ByteArray := prog_5_method_7_code
def yX3_readErrands : MethodName := ⟨RX3, "readErrands", "(LBridgesAreLent$Text;)V"⟩
abbrev cX3_grants : ByteArray := prog_5_method_8_code
def yX3_grants : MethodName := ⟨RX3, "grants", "(I)Z"⟩
abbrev cX3_tellFewest : ByteArray := prog_5_method_9_code
def yX3_tellFewest : MethodName := ⟨RX3, "tellFewest", "(LBridgesAreLent$Row;)I"⟩
abbrev cX3_tellBest : ByteArray := prog_5_method_10_code
def yX3_tellBest : MethodName := ⟨RX3, "tellBest", "(LBridgesAreLent$Row;)I"⟩
def RX4 : String := "BridgesAreLent$Memory"
def TX4 : u_T := fun k => match k with
  | 0 => ("BridgesAreLent$Memory", "ring", "[LBridgesAreLent$State;", true)
  | 1 => ("BridgesAreLent$Memory", "next", "I", false)
  | 2 => ("BridgesAreLent$Memory", "size", "I", false)
  | 3 => ("BridgesAreLent$Memory", "shelf", "[LBridgesAreLent$State;", true)
  | _ => ("BridgesAreLent$Memory", "shelved", "[Z", true)
def tyX4 : Nat → FieldType := fun k => match k with
  | 0 => .array (.object "BridgesAreLent$State")
  | 1 => .int
  | 2 => .int
  | 3 => .array (.object "BridgesAreLent$State")
  | _ => .array .boolean
theorem nmX4 : ∀ a, a < 5 → ∀ b, b < 5 → a ≠ b → (TX4 a).2.1 ≠ (TX4 b).2.1 := by decide +kernel
theorem tyX4_ok : ∀ k, k < 5 → parseFieldDescriptor (TX4 k).2.2.1 = some (tyX4 k) := by decide +kernel
abbrev cX4_init : ByteArray := prog_6_method_1_code
def yX4_init : MethodName := ⟨RX4, "<init>", "()V"⟩
abbrev cX4_note : ByteArray := prog_6_method_2_code
def yX4_note : MethodName := ⟨RX4, "note", "(LBridgesAreLent$State;)V"⟩
abbrev cX4_holdIf : ByteArray := prog_6_method_3_code
def yX4_holdIf : MethodName := ⟨RX4, "holdIf", "(Z)V"⟩
abbrev cX4_takeLatest : ByteArray := prog_6_method_4_code
def yX4_takeLatest : MethodName := ⟨RX4, "takeLatest", "()LBridgesAreLent$State;"⟩
abbrev cX4_forgetPast : ByteArray := prog_6_method_5_code
def yX4_forgetPast : MethodName := ⟨RX4, "forgetPast", "()V"⟩
abbrev cX4_forgetAll : ByteArray := prog_6_method_6_code
def yX4_forgetAll : MethodName := ⟨RX4, "forgetAll", "()V"⟩
abbrev cX4_shelve : ByteArray := prog_6_method_7_code
def yX4_shelve : MethodName := ⟨RX4, "shelve", "(ILBridgesAreLent$State;)Z"⟩
abbrev cX4_canReturnTo : ByteArray := prog_6_method_8_code
def yX4_canReturnTo : MethodName := ⟨RX4, "canReturnTo", "(ILBridgesAreLent$State;)Z"⟩
def RX5 : String := "BridgesAreLent$River"
def TX5 : u_T := fun k => match k with
  | 0 => ("BridgesAreLent$River", "banks", "I", false)
  | 1 => ("BridgesAreLent$River", "crossings", "I", false)
  | 2 => ("BridgesAreLent$River", "one", "[I", true)
  | 3 => ("BridgesAreLent$River", "other", "[I", true)
  | 4 => ("BridgesAreLent$River", "place", "[I", true)
  | 5 => ("BridgesAreLent$River", "width", "[I", true)
  | 6 => ("BridgesAreLent$River", "rank", "[I", true)
  | _ => ("BridgesAreLent$River", "order", "[I", true)
def tyX5 : Nat → FieldType := fun k => match k with
  | 0 => .int
  | 1 => .int
  | 2 => .array .int
  | 3 => .array .int
  | 4 => .array .int
  | 5 => .array .int
  | 6 => .array .int
  | _ => .array .int
theorem nmX5 : ∀ a, a < 8 → ∀ b, b < 8 → a ≠ b → (TX5 a).2.1 ≠ (TX5 b).2.1 := by decide +kernel
theorem tyX5_ok : ∀ k, k < 8 → parseFieldDescriptor (TX5 k).2.2.1 = some (tyX5 k) := by decide +kernel
abbrev cX5_init : ByteArray := prog_7_method_1_code
def yX5_init : MethodName := ⟨RX5, "<init>", "()V"⟩
abbrev cX5_read : ByteArray := prog_7_method_2_code
def yX5_read : MethodName := ⟨RX5, "read", "(LBridgesAreLent$Text;)V"⟩
abbrev cX5_orderDown : ByteArray := prog_7_method_3_code
def yX5_orderDown : MethodName := ⟨RX5, "orderDown", "()V"⟩
abbrev cX5_below : ByteArray := prog_7_method_4_code
def yX5_below : MethodName := ⟨RX5, "below", "(I)I"⟩
abbrev cX5_across : ByteArray := prog_7_method_5_code
def yX5_across : MethodName := ⟨RX5, "across", "(II)I"⟩
abbrev cX5_spread : ByteArray := prog_7_method_6_code
def yX5_spread : MethodName := ⟨RX5, "spread", "(II)I"⟩
abbrev cX5_withinSteps : ByteArray := prog_7_method_7_code
def yX5_withinSteps : MethodName := ⟨RX5, "withinSteps", "(III)I"⟩
abbrev cX5_reach : ByteArray := prog_7_method_8_code
def yX5_reach : MethodName := ⟨RX5, "reach", "(II)I"⟩
abbrev cX5_leads : ByteArray := prog_7_method_9_code
def yX5_leads : MethodName := ⟨RX5, "leads", "(III)Z"⟩
abbrev cX5_pairs : ByteArray := prog_7_method_10_code
def yX5_pairs : MethodName := ⟨RX5, "pairs", "(I)I"⟩
abbrev cX5_steps : ByteArray := prog_7_method_11_code
def yX5_steps : MethodName := ⟨RX5, "steps", "(III)I"⟩
abbrev cX5_tellWay : ByteArray := prog_7_method_12_code
def yX5_tellWay : MethodName := ⟨RX5, "tellWay", "(LBridgesAreLent$Row;IIII)V"⟩
def RX6 : String := "BridgesAreLent$Row"
def TX6 : u_T := fun k => match k with
  | 0 => ("BridgesAreLent$Row", "numbers", "[J", true)
  | _ => ("BridgesAreLent$Row", "size", "I", false)
def tyX6 : Nat → FieldType := fun k => match k with
  | 0 => .array .long
  | _ => .int
theorem nmX6 : ∀ a, a < 2 → ∀ b, b < 2 → a ≠ b → (TX6 a).2.1 ≠ (TX6 b).2.1 := by decide +kernel
theorem tyX6_ok : ∀ k, k < 2 → parseFieldDescriptor (TX6 k).2.2.1 = some (tyX6 k) := by decide +kernel
abbrev cX6_init : ByteArray := prog_8_method_1_code
def yX6_init : MethodName := ⟨RX6, "<init>", "()V"⟩
abbrev cX6_clear : ByteArray := prog_8_method_2_code
def yX6_clear : MethodName := ⟨RX6, "clear", "()V"⟩
abbrev cX6_add : ByteArray := prog_8_method_3_code
def yX6_add : MethodName := ⟨RX6, "add", "(J)V"⟩
abbrev cX6_tellOne : ByteArray := prog_8_method_4_code
def yX6_tellOne : MethodName := ⟨RX6, "tellOne", "(J)V"⟩
abbrev cX6_tellTwo : ByteArray := prog_8_method_5_code
def yX6_tellTwo : MethodName := ⟨RX6, "tellTwo", "(JJ)V"⟩
def RX7 : String := "BridgesAreLent$Rule"
def TX7 : u_T := fun k => match k with
  | 0 => ("BridgesAreLent$Rule", "code", "[I", false)
  | 1 => ("BridgesAreLent$Rule", "size", "I", false)
  | 2 => ("BridgesAreLent$Rule", "draft", "[I", false)
  | 3 => ("BridgesAreLent$Rule", "drafted", "I", false)
  | _ => ("BridgesAreLent$Rule", "stack", "[I", true)
def tyX7 : Nat → FieldType := fun k => match k with
  | 0 => .array .int
  | 1 => .int
  | 2 => .array .int
  | 3 => .int
  | _ => .array .int
theorem nmX7 : ∀ a, a < 5 → ∀ b, b < 5 → a ≠ b → (TX7 a).2.1 ≠ (TX7 b).2.1 := by decide +kernel
theorem tyX7_ok : ∀ k, k < 5 → parseFieldDescriptor (TX7 k).2.2.1 = some (tyX7 k) := by decide +kernel
abbrev cX7_init : ByteArray := prog_9_method_1_code
def yX7_init : MethodName := ⟨RX7, "<init>", "()V"⟩
abbrev cX7_read : ByteArray := prog_9_method_2_code
def yX7_read : MethodName := ⟨RX7, "read", "(LBridgesAreLent$Text;)V"⟩
abbrev cX7_adopt : ByteArray := prog_9_method_3_code
def yX7_adopt : MethodName := ⟨RX7, "adopt", "()V"⟩
abbrev cX7_emit : ByteArray := prog_9_method_4_code
def yX7_emit : MethodName := ⟨RX7, "emit", "(I)V"⟩
abbrev cX7_signsOf : ByteArray := prog_9_method_5_code
def yX7_signsOf : MethodName := ⟨RX7, "signsOf", "(I)Ljava/lang/String;"⟩
abbrev cX7_readLevel : ByteArray := prog_9_method_6_code
def yX7_readLevel : MethodName := ⟨RX7, "readLevel", "(LBridgesAreLent$Text;II)V"⟩
abbrev cX7_readSigned : ByteArray := prog_9_method_7_code
def yX7_readSigned : MethodName := ⟨RX7, "readSigned", "(LBridgesAreLent$Text;I)V"⟩
abbrev cX7_readThing : ByteArray := prog_9_method_8_code
def yX7_readThing : MethodName := ⟨RX7, "readThing", "(LBridgesAreLent$Text;I)V"⟩
abbrev cX7_reckon : ByteArray := prog_9_method_9_code
def yX7_reckon : MethodName := ⟨RX7, "reckon", "([I)I"⟩
abbrev cX7_apply : ByteArray := prog_9_method_10_code
def yX7_apply : MethodName := ⟨RX7, "apply", "(III)I"⟩
def RX8 : String := "BridgesAreLent$State"
def TX8 : u_T := fun k => match k with
  | 0 => ("BridgesAreLent$State", "bridges", "I", false)
  | 1 => ("BridgesAreLent$State", "where", "[I", true)
  | 2 => ("BridgesAreLent$State", "yet", "[I", true)
  | 3 => ("BridgesAreLent$State", "sound", "[I", true)
  | 4 => ("BridgesAreLent$State", "till", "[I", true)
  | 5 => ("BridgesAreLent$State", "people", "I", false)
  | 6 => ("BridgesAreLent$State", "bank", "[I", true)
  | 7 => ("BridgesAreLent$State", "now", "I", false)
  | _ => ("BridgesAreLent$State", "broken", "I", false)
def tyX8 : Nat → FieldType := fun k => match k with
  | 0 => .int
  | 1 => .array .int
  | 2 => .array .int
  | 3 => .array .int
  | 4 => .array .int
  | 5 => .int
  | 6 => .array .int
  | 7 => .int
  | _ => .int
theorem nmX8 : ∀ a, a < 9 → ∀ b, b < 9 → a ≠ b → (TX8 a).2.1 ≠ (TX8 b).2.1 := by decide +kernel
theorem tyX8_ok : ∀ k, k < 9 → parseFieldDescriptor (TX8 k).2.2.1 = some (tyX8 k) := by decide +kernel
abbrev cX8_init : ByteArray := prog_10_method_1_code
def yX8_init : MethodName := ⟨RX8, "<init>", "()V"⟩
abbrev cX8_become : ByteArray := prog_10_method_2_code
def yX8_become : MethodName := ⟨RX8, "become", "(LBridgesAreLent$State;)V"⟩
abbrev cX8_lies : ByteArray := prog_10_method_3_code
def yX8_lies : MethodName := ⟨RX8, "lies", "(I)Z"⟩
abbrev cX8_lyingAt : ByteArray := prog_10_method_4_code
def yX8_lyingAt : MethodName := ⟨RX8, "lyingAt", "(I)I"⟩
abbrev cX8_comingTo : ByteArray := prog_10_method_5_code
def yX8_comingTo : MethodName := ⟨RX8, "comingTo", "(I)I"⟩
abbrev cX8_isFree : ByteArray := prog_10_method_6_code
def yX8_isFree : MethodName := ⟨RX8, "isFree", "(I)Z"⟩
abbrev cX8_inShed : ByteArray := prog_10_method_7_code
def yX8_inShed : MethodName := ⟨RX8, "inShed", "()I"⟩
abbrev cX8_underTow : ByteArray := prog_10_method_8_code
def yX8_underTow : MethodName := ⟨RX8, "underTow", "()I"⟩
abbrev cX8_lent : ByteArray := prog_10_method_9_code
def yX8_lent : MethodName := ⟨RX8, "lent", "()I"⟩
def RX9 : String := "BridgesAreLent$Text"
def TX9 : u_T := fun k => match k with
  | 0 => ("BridgesAreLent$Text", "signs", "[I", true)
  | 1 => ("BridgesAreLent$Text", "size", "I", false)
  | 2 => ("BridgesAreLent$Text", "limit", "I", false)
  | 3 => ("BridgesAreLent$Text", "at", "I", false)
  | _ => ("BridgesAreLent$Text", "bad", "I", false)
def tyX9 : Nat → FieldType := fun k => match k with
  | 0 => .array .int
  | 1 => .int
  | 2 => .int
  | 3 => .int
  | _ => .int
theorem nmX9 : ∀ a, a < 5 → ∀ b, b < 5 → a ≠ b → (TX9 a).2.1 ≠ (TX9 b).2.1 := by decide +kernel
theorem tyX9_ok : ∀ k, k < 5 → parseFieldDescriptor (TX9 k).2.2.1 = some (tyX9 k) := by decide +kernel
abbrev cX9_init : ByteArray := prog_11_method_1_code
def yX9_init : MethodName := ⟨RX9, "<init>", "()V"⟩
abbrev cX9_put : ByteArray := prog_11_method_2_code
def yX9_put : MethodName := ⟨RX9, "put", "(I)I"⟩
abbrev cX9_cut : ByteArray := prog_11_method_3_code
def yX9_cut : MethodName := ⟨RX9, "cut", "(I)Z"⟩
abbrev cX9_open : ByteArray := prog_11_method_4_code
def yX9_open : MethodName := ⟨RX9, "open", "(I)V"⟩
abbrev cX9_peek : ByteArray := prog_11_method_5_code
def yX9_peek : MethodName := ⟨RX9, "peek", "()I"⟩
abbrev cX9_refuse : ByteArray := prog_11_method_6_code
def yX9_refuse : MethodName := ⟨RX9, "refuse", "()V"⟩
abbrev cX9_skip : ByteArray := prog_11_method_7_code
def yX9_skip : MethodName := ⟨RX9, "skip", "(I)Z"⟩
abbrev cX9_pick : ByteArray := prog_11_method_8_code
def yX9_pick : MethodName := ⟨RX9, "pick", "(II)I"⟩
abbrev cX9_oneOf : ByteArray := prog_11_method_9_code
def yX9_oneOf : MethodName := ⟨RX9, "oneOf", "(Ljava/lang/String;)I"⟩
abbrev cX9_atDigit : ByteArray := prog_11_method_10_code
def yX9_atDigit : MethodName := ⟨RX9, "atDigit", "()Z"⟩
abbrev cX9_number : ByteArray := prog_11_method_11_code
def yX9_number : MethodName := ⟨RX9, "number", "(I)I"⟩
abbrev cX9_bankBut : ByteArray := prog_11_method_12_code
def yX9_bankBut : MethodName := ⟨RX9, "bankBut", "(II)I"⟩
abbrev cX9_close : ByteArray := prog_11_method_13_code
def yX9_close : MethodName := ⟨RX9, "close", "()I"⟩
def RX10 : String := "BridgesAreLent$Valley"
def TX10 : u_T := fun k => match k with
  | 0 => ("BridgesAreLent$Valley", "river", "LBridgesAreLent$River;", false)
  | 1 => ("BridgesAreLent$Valley", "draft", "LBridgesAreLent$River;", false)
  | 2 => ("BridgesAreLent$Valley", "state", "LBridgesAreLent$State;", true)
  | 3 => ("BridgesAreLent$Valley", "rule", "LBridgesAreLent$Rule;", true)
  | 4 => ("BridgesAreLent$Valley", "length", "[I", true)
  | 5 => ("BridgesAreLent$Valley", "weight", "[I", true)
  | 6 => ("BridgesAreLent$Valley", "things", "[I", true)
  | 7 => ("BridgesAreLent$Valley", "came", "I", false)
  | _ => ("BridgesAreLent$Valley", "failed", "I", false)
def tyX10 : Nat → FieldType := fun k => match k with
  | 0 => .object "BridgesAreLent$River"
  | 1 => .object "BridgesAreLent$River"
  | 2 => .object "BridgesAreLent$State"
  | 3 => .object "BridgesAreLent$Rule"
  | 4 => .array .int
  | 5 => .array .int
  | 6 => .array .int
  | 7 => .int
  | _ => .int
theorem nmX10 : ∀ a, a < 9 → ∀ b, b < 9 → a ≠ b → (TX10 a).2.1 ≠ (TX10 b).2.1 := by decide +kernel
theorem tyX10_ok : ∀ k, k < 9 → parseFieldDescriptor (TX10 k).2.2.1 = some (tyX10 k) := by decide +kernel
abbrev cX10_init : ByteArray := prog_12_method_1_code
def yX10_init : MethodName := ⟨RX10, "<init>", "()V"⟩
abbrev cX10_settle : ByteArray := prog_12_method_2_code
def yX10_settle : MethodName := ⟨RX10, "settle", "()V"⟩
abbrev cX10_readBridges : ByteArray := prog_12_method_3_code
def yX10_readBridges : MethodName := ⟨RX10, "readBridges", "(LBridgesAreLent$Text;)I"⟩
abbrev cX10_readPeople : ByteArray := prog_12_method_4_code
def yX10_readPeople : MethodName := ⟨RX10, "readPeople", "(LBridgesAreLent$Text;)I"⟩
abbrev cX10_hasBank : ByteArray := prog_12_method_5_code
def yX10_hasBank : MethodName := ⟨RX10, "hasBank", "(I)Z"⟩
abbrev cX10_hasCrossing : ByteArray := prog_12_method_6_code
def yX10_hasCrossing : MethodName := ⟨RX10, "hasCrossing", "(I)Z"⟩
abbrev cX10_hasBridge : ByteArray := prog_12_method_7_code
def yX10_hasBridge : MethodName := ⟨RX10, "hasBridge", "(I)Z"⟩
abbrev cX10_hasPerson : ByteArray := prog_12_method_8_code
def yX10_hasPerson : MethodName := ⟨RX10, "hasPerson", "(I)Z"⟩
abbrev cX10_sounds : ByteArray := prog_12_method_9_code
def yX10_sounds : MethodName := ⟨RX10, "sounds", "(IIII)I"⟩
abbrev cX10_entry : ByteArray := prog_12_method_10_code
def yX10_entry : MethodName := ⟨RX10, "entry", "(II)I"⟩
abbrev cX10_towTime : ByteArray := prog_12_method_11_code
def yX10_towTime : MethodName := ⟨RX10, "towTime", "(II)I"⟩
abbrev cX10_placeOf : ByteArray := prog_12_method_12_code
def yX10_placeOf : MethodName := ⟨RX10, "placeOf", "(I)I"⟩
abbrev cX10_hoursByRule : ByteArray := prog_12_method_13_code
def yX10_hoursByRule : MethodName := ⟨RX10, "hoursByRule", "(II)I"⟩
abbrev cX10_startTow : ByteArray := prog_12_method_14_code
def yX10_startTow : MethodName := ⟨RX10, "startTow", "(II)I"⟩
abbrev cX10_setLoan : ByteArray := prog_12_method_15_code
def yX10_setLoan : MethodName := ⟨RX10, "setLoan", "(II)I"⟩
abbrev cX10_walk : ByteArray := prog_12_method_16_code
def yX10_walk : MethodName := ⟨RX10, "walk", "(II)I"⟩
abbrev cX10_passHours : ByteArray := prog_12_method_17_code
def yX10_passHours : MethodName := ⟨RX10, "passHours", "(I)V"⟩
abbrev cX10_comeNearer : ByteArray := prog_12_method_18_code
def yX10_comeNearer : MethodName := ⟨RX10, "comeNearer", "()V"⟩
abbrev cX10_endLoans : ByteArray := prog_12_method_19_code
def yX10_endLoans : MethodName := ⟨RX10, "endLoans", "()V"⟩
abbrev cX10_openFor : ByteArray := prog_12_method_20_code
def yX10_openFor : MethodName := ⟨RX10, "openFor", "(II)I"⟩
abbrev cX10_tooShortBy : ByteArray := prog_12_method_21_code
def yX10_tooShortBy : MethodName := ⟨RX10, "tooShortBy", "(I)I"⟩
abbrev cX10_canMove : ByteArray := prog_12_method_22_code
def yX10_canMove : MethodName := ⟨RX10, "canMove", "(II)Z"⟩
abbrev cX10_openWithMove : ByteArray := prog_12_method_23_code
def yX10_openWithMove : MethodName := ⟨RX10, "openWithMove", "(IIII)I"⟩
abbrev cX10_byOneMove : ByteArray := prog_12_method_24_code
def yX10_byOneMove : MethodName := ⟨RX10, "byOneMove", "(LBridgesAreLent$Row;III)Z"⟩
abbrev cX10_byTwoMoves : ByteArray := prog_12_method_25_code
def yX10_byTwoMoves : MethodName := ⟨RX10, "byTwoMoves", "(LBridgesAreLent$Row;III)Z"⟩
abbrev cX10_bySecondMove : ByteArray := prog_12_method_26_code
def yX10_bySecondMove : MethodName := ⟨RX10, "bySecondMove", "(LBridgesAreLent$Row;IIIII)Z"⟩
abbrev cX10_homeHour : ByteArray := prog_12_method_27_code
def yX10_homeHour : MethodName := ⟨RX10, "homeHour", "(I)I"⟩
def RX11 : String := "BridgesAreLent"
def TX11 : u_T := fun k => match k with
  | 0 => ("BridgesAreLent", "text", "LBridgesAreLent$Text;", true)
  | 1 => ("BridgesAreLent", "told", "LBridgesAreLent$Row;", true)
  | 2 => ("BridgesAreLent", "valley", "LBridgesAreLent$Valley;", true)
  | 3 => ("BridgesAreLent", "layouts", "LBridgesAreLent$Layouts;", true)
  | 4 => ("BridgesAreLent", "drifting", "LBridgesAreLent$Drifting;", true)
  | 5 => ("BridgesAreLent", "finds", "LBridgesAreLent$Finds;", true)
  | 6 => ("BridgesAreLent", "plan", "LBridgesAreLent$Day;", true)
  | _ => ("BridgesAreLent", "memory", "LBridgesAreLent$Memory;", true)
def tyX11 : Nat → FieldType := fun k => match k with
  | 0 => .object "BridgesAreLent$Text"
  | 1 => .object "BridgesAreLent$Row"
  | 2 => .object "BridgesAreLent$Valley"
  | 3 => .object "BridgesAreLent$Layouts"
  | 4 => .object "BridgesAreLent$Drifting"
  | 5 => .object "BridgesAreLent$Finds"
  | 6 => .object "BridgesAreLent$Day"
  | _ => .object "BridgesAreLent$Memory"
theorem nmX11 : ∀ a, a < 8 → ∀ b, b < 8 → a ≠ b → (TX11 a).2.1 ≠ (TX11 b).2.1 := by decide +kernel
theorem tyX11_ok : ∀ k, k < 8 → parseFieldDescriptor (TX11 k).2.2.1 = some (tyX11 k) := by decide +kernel
abbrev cX11_init : ByteArray := prog_1_method_1_code
def yX11_init : MethodName := ⟨RX11, "<init>", "()V"⟩
abbrev cX11_sign : ByteArray := prog_1_method_2_code
def yX11_sign : MethodName := ⟨RX11, "sign", "(I)I"⟩
abbrev cX11_end : ByteArray := prog_1_method_3_code
def yX11_end : MethodName := ⟨RX11, "end", "(I)Z"⟩
abbrev cX11_river : ByteArray := prog_1_method_4_code
def yX11_river : MethodName := ⟨RX11, "river", "()I"⟩
abbrev cX11_bridges : ByteArray := prog_1_method_5_code
def yX11_bridges : MethodName := ⟨RX11, "bridges", "()I"⟩
abbrev cX11_people : ByteArray := prog_1_method_6_code
def yX11_people : MethodName := ⟨RX11, "people", "()I"⟩
abbrev cX11_rule : ByteArray := prog_1_method_7_code
def yX11_rule : MethodName := ⟨RX11, "rule", "()I"⟩
abbrev cX11_crossing : ByteArray := prog_1_method_8_code
def yX11_crossing : MethodName := ⟨RX11, "crossing", "(II)I"⟩
abbrev cX11_bridge : ByteArray := prog_1_method_9_code
def yX11_bridge : MethodName := ⟨RX11, "bridge", "(II)I"⟩
abbrev cX11_person : ByteArray := prog_1_method_10_code
def yX11_person : MethodName := ⟨RX11, "person", "(II)I"⟩
abbrev cX11_sheet : ByteArray := prog_1_method_11_code
def yX11_sheet : MethodName := ⟨RX11, "sheet", "(IIII)I"⟩
abbrev cX11_takes : ByteArray := prog_1_method_12_code
def yX11_takes : MethodName := ⟨RX11, "takes", "(II)I"⟩
abbrev cX11_tow : ByteArray := prog_1_method_13_code
def yX11_tow : MethodName := ⟨RX11, "tow", "(II)I"⟩
abbrev cX11_lend : ByteArray := prog_1_method_14_code
def yX11_lend : MethodName := ⟨RX11, "lend", "(II)I"⟩
abbrev cX11_cross : ByteArray := prog_1_method_15_code
def yX11_cross : MethodName := ⟨RX11, "cross", "(II)I"⟩
abbrev cX11_hours : ByteArray := prog_1_method_16_code
def yX11_hours : MethodName := ⟨RX11, "hours", "(I)I"⟩
abbrev cX11_day : ByteArray := prog_1_method_17_code
def yX11_day : MethodName := ⟨RX11, "day", "()I"⟩
abbrev cX11_undo : ByteArray := prog_1_method_18_code
def yX11_undo : MethodName := ⟨RX11, "undo", "()I"⟩
abbrev cX11_route : ByteArray := prog_1_method_19_code
def yX11_route : MethodName := ⟨RX11, "route", "(II)I"⟩
abbrev cX11_joined : ByteArray := prog_1_method_20_code
def yX11_joined : MethodName := ⟨RX11, "joined", "(I)I"⟩
abbrev cX11_soonest : ByteArray := prog_1_method_21_code
def yX11_soonest : MethodName := ⟨RX11, "soonest", "(II)I"⟩
abbrev cX11_moves : ByteArray := prog_1_method_22_code
def yX11_moves : MethodName := ⟨RX11, "moves", "(II)I"⟩
abbrev cX11_needed : ByteArray := prog_1_method_23_code
def yX11_needed : MethodName := ⟨RX11, "needed", "()I"⟩
abbrev cX11_lays : ByteArray := prog_1_method_24_code
def yX11_lays : MethodName := ⟨RX11, "lays", "(I)I"⟩
abbrev cX11_joins : ByteArray := prog_1_method_25_code
def yX11_joins : MethodName := ⟨RX11, "joins", "(I)I"⟩
abbrev cX11_night : ByteArray := prog_1_method_26_code
def yX11_night : MethodName := ⟨RX11, "night", "()I"⟩
abbrev cX11_errands : ByteArray := prog_1_method_27_code
def yX11_errands : MethodName := ⟨RX11, "errands", "()I"⟩
abbrev cX11_flood : ByteArray := prog_1_method_28_code
def yX11_flood : MethodName := ⟨RX11, "flood", "(I)I"⟩
abbrev cX11_highest : ByteArray := prog_1_method_29_code
def yX11_highest : MethodName := ⟨RX11, "highest", "()I"⟩
abbrev cX11_worst : ByteArray := prog_1_method_30_code
def yX11_worst : MethodName := ⟨RX11, "worst", "(I)I"⟩
abbrev cX11_drift : ByteArray := prog_1_method_31_code
def yX11_drift : MethodName := ⟨RX11, "drift", "(IIII)I"⟩
abbrev cX11_seek : ByteArray := prog_1_method_32_code
def yX11_seek : MethodName := ⟨RX11, "seek", "(III)I"⟩
abbrev cX11_found : ByteArray := prog_1_method_33_code
def yX11_found : MethodName := ⟨RX11, "found", "(III)I"⟩
abbrev cX11_forget : ByteArray := prog_1_method_34_code
def yX11_forget : MethodName := ⟨RX11, "forget", "()I"⟩
abbrev cX11_stolen : ByteArray := prog_1_method_35_code
def yX11_stolen : MethodName := ⟨RX11, "stolen", "()I"⟩
abbrev cX11_ask : ByteArray := prog_1_method_36_code
def yX11_ask : MethodName := ⟨RX11, "ask", "()I"⟩
abbrev cX11_share : ByteArray := prog_1_method_37_code
def yX11_share : MethodName := ⟨RX11, "share", "(IIII)I"⟩
abbrev cX11_turn : ByteArray := prog_1_method_38_code
def yX11_turn : MethodName := ⟨RX11, "turn", "(III)I"⟩
abbrev cX11_rests : ByteArray := prog_1_method_39_code
def yX11_rests : MethodName := ⟨RX11, "rests", "(I)I"⟩
abbrev cX11_home : ByteArray := prog_1_method_40_code
def yX11_home : MethodName := ⟨RX11, "home", "()I"⟩
abbrev cX11_years : ByteArray := prog_1_method_41_code
def yX11_years : MethodName := ⟨RX11, "years", "(II)I"⟩
abbrev cX11_keep : ByteArray := prog_1_method_42_code
def yX11_keep : MethodName := ⟨RX11, "keep", "(I)Z"⟩
abbrev cX11_again : ByteArray := prog_1_method_43_code
def yX11_again : MethodName := ⟨RX11, "again", "(I)Z"⟩
abbrev cX11_count : ByteArray := prog_1_method_44_code
def yX11_count : MethodName := ⟨RX11, "count", "(I)I"⟩
abbrev cX11_row : ByteArray := prog_1_method_45_code
def yX11_row : MethodName := ⟨RX11, "row", "(I)J"⟩
abbrev cX11_forgetPastIf : ByteArray := prog_1_method_46_code
def yX11_forgetPastIf : MethodName := ⟨RX11, "forgetPastIf", "(Z)V"⟩
abbrev cX11_refusalAt : ByteArray := prog_1_method_47_code
def yX11_refusalAt : MethodName := ⟨RX11, "refusalAt", "(I)I"⟩
abbrev cX11_has : ByteArray := prog_1_method_48_code
def yX11_has : MethodName := ⟨RX11, "has", "(II)Z"⟩
abbrev cX11_within : ByteArray := prog_1_method_49_code
def yX11_within : MethodName := ⟨RX11, "within", "(II)Z"⟩
abbrev cX11_hoursWanted : ByteArray := prog_1_method_50_code
def yX11_hoursWanted : MethodName := ⟨RX11, "hoursWanted", "(IIII)I"⟩
abbrev cX11_gain : ByteArray := prog_1_method_51_code
def yX11_gain : MethodName := ⟨RX11, "gain", "(III)I"⟩
abbrev cX11_keepsPrice : ByteArray := prog_1_method_52_code
def yX11_keepsPrice : MethodName := ⟨RX11, "keepsPrice", "(III)Z"⟩
def RX12 : String := "BridgesAreLentModel"
def TX12 : u_T := fun k => match k with
  | 0 => ("BridgesAreLentModel", "thrown", "I", false)
  | 1 => ("BridgesAreLentModel", "rows", "I", false)
  | 2 => ("BridgesAreLentModel", "row", "[J", true)
  | 3 => ("BridgesAreLentModel", "banks", "I", false)
  | 4 => ("BridgesAreLentModel", "crossings", "I", false)
  | 5 => ("BridgesAreLentModel", "bridges", "I", false)
  | 6 => ("BridgesAreLentModel", "people", "I", false)
  | 7 => ("BridgesAreLentModel", "changes", "I", false)
  | 8 => ("BridgesAreLentModel", "one", "[I", true)
  | 9 => ("BridgesAreLentModel", "other", "[I", true)
  | 10 => ("BridgesAreLentModel", "spot", "[I", true)
  | 11 => ("BridgesAreLentModel", "width", "[I", true)
  | 12 => ("BridgesAreLentModel", "length", "[I", true)
  | 13 => ("BridgesAreLentModel", "heavy", "[I", true)
  | 14 => ("BridgesAreLentModel", "now", "[I", true)
  | 15 => ("BridgesAreLentModel", "tape", "[I", true)
  | 16 => ("BridgesAreLentModel", "taped", "I", false)
  | 17 => ("BridgesAreLentModel", "at", "I", false)
  | 18 => ("BridgesAreLentModel", "to", "I", false)
  | 19 => ("BridgesAreLentModel", "nest", "I", false)
  | 20 => ("BridgesAreLentModel", "read", "[I", true)
  | 21 => ("BridgesAreLentModel", "readBanks", "I", false)
  | 22 => ("BridgesAreLentModel", "readMany", "I", false)
  | 23 => ("BridgesAreLentModel", "firstBank", "I", false)
  | 24 => ("BridgesAreLentModel", "code", "[I", true)
  | 25 => ("BridgesAreLentModel", "readCode", "[I", true)
  | 26 => ("BridgesAreLentModel", "codeLong", "I", false)
  | 27 => ("BridgesAreLentModel", "readLong", "I", false)
  | 28 => ("BridgesAreLentModel", "stack", "[I", true)
  | 29 => ("BridgesAreLentModel", "asked", "[I", true)
  | 30 => ("BridgesAreLentModel", "undos", "I", false)
  | 31 => ("BridgesAreLentModel", "undone", "[I", true)
  | 32 => ("BridgesAreLentModel", "isLent", "Z", false)
  | 33 => ("BridgesAreLentModel", "cameBits", "I", false)
  | 34 => ("BridgesAreLentModel", "brokenBits", "I", false)
  | 35 => ("BridgesAreLentModel", "brokenMany", "I", false)
  | 36 => ("BridgesAreLentModel", "actSign", "[I", true)
  | 37 => ("BridgesAreLentModel", "actOne", "[I", true)
  | 38 => ("BridgesAreLentModel", "actTwo", "[I", true)
  | 39 => ("BridgesAreLentModel", "acts", "I", false)
  | 40 => ("BridgesAreLentModel", "far", "[I", true)
  | 41 => ("BridgesAreLentModel", "laid", "[I", true)
  | 42 => ("BridgesAreLentModel", "errandFrom", "[I", true)
  | 43 => ("BridgesAreLentModel", "errandTo", "[I", true)
  | 44 => ("BridgesAreLentModel", "errandMany", "I", false)
  | 45 => ("BridgesAreLentModel", "share", "[J", true)
  | 46 => ("BridgesAreLentModel", "shareNext", "[J", true)
  | 47 => ("BridgesAreLentModel", "shareAll", "J", false)
  | 48 => ("BridgesAreLentModel", "facts", "I", false)
  | 49 => ("BridgesAreLentModel", "factWhat", "[I", true)
  | 50 => ("BridgesAreLentModel", "factOf", "[I", true)
  | 51 => ("BridgesAreLentModel", "factIs", "[I", true)
  | 52 => ("BridgesAreLentModel", "byOne", "I", false)
  | 53 => ("BridgesAreLentModel", "byOther", "I", false)
  | 54 => ("BridgesAreLentModel", "missedByOne", "I", false)
  | 55 => ("BridgesAreLentModel", "missedByOther", "I", false)
  | 56 => ("BridgesAreLentModel", "then", "[I", true)
  | 57 => ("BridgesAreLentModel", "isKept", "[Z", true)
  | 58 => ("BridgesAreLentModel", "keptChanges", "[I", true)
  | _ => ("BridgesAreLentModel", "kept", "[I", true)
def tyX12 : Nat → FieldType := fun k => match k with
  | 0 => .int
  | 1 => .int
  | 2 => .array .long
  | 3 => .int
  | 4 => .int
  | 5 => .int
  | 6 => .int
  | 7 => .int
  | 8 => .array .int
  | 9 => .array .int
  | 10 => .array .int
  | 11 => .array .int
  | 12 => .array .int
  | 13 => .array .int
  | 14 => .array .int
  | 15 => .array .int
  | 16 => .int
  | 17 => .int
  | 18 => .int
  | 19 => .int
  | 20 => .array .int
  | 21 => .int
  | 22 => .int
  | 23 => .int
  | 24 => .array .int
  | 25 => .array .int
  | 26 => .int
  | 27 => .int
  | 28 => .array .int
  | 29 => .array .int
  | 30 => .int
  | 31 => .array .int
  | 32 => .boolean
  | 33 => .int
  | 34 => .int
  | 35 => .int
  | 36 => .array .int
  | 37 => .array .int
  | 38 => .array .int
  | 39 => .int
  | 40 => .array .int
  | 41 => .array .int
  | 42 => .array .int
  | 43 => .array .int
  | 44 => .int
  | 45 => .array .long
  | 46 => .array .long
  | 47 => .long
  | 48 => .int
  | 49 => .array .int
  | 50 => .array .int
  | 51 => .array .int
  | 52 => .int
  | 53 => .int
  | 54 => .int
  | 55 => .int
  | 56 => .array .int
  | 57 => .array .boolean
  | 58 => .array .int
  | _ => .array .int
theorem nmX12 : ∀ a, a < 60 → ∀ b, b < 60 → a ≠ b → (TX12 a).2.1 ≠ (TX12 b).2.1 := by decide +kernel
theorem tyX12_ok : ∀ k, k < 60 → parseFieldDescriptor (TX12 k).2.2.1 = some (tyX12 k) := by decide +kernel
abbrev cX12_init : ByteArray := prog_14_method_1_code
def yX12_init : MethodName := ⟨RX12, "<init>", "()V"⟩
abbrev cX12_thrown : ByteArray := prog_14_method_2_code
def yX12_thrown : MethodName := ⟨RX12, "thrown", "()I"⟩
abbrev cX12_refuse : ByteArray := prog_14_method_3_code
def yX12_refuse : MethodName := ⟨RX12, "refuse", "()I"⟩
abbrev cX12_in : ByteArray := prog_14_method_4_code
def yX12_in : MethodName := ⟨RX12, "in", "(JJJ)Z"⟩
abbrev cX12_has : ByteArray := prog_14_method_5_code
def yX12_has : MethodName := ⟨RX12, "has", "(II)Z"⟩
abbrev cX12_flag : ByteArray := prog_14_method_6_code
def yX12_flag : MethodName := ⟨RX12, "flag", "(Z)I"⟩
abbrev cX12_common : ByteArray := prog_14_method_7_code
def yX12_common : MethodName := ⟨RX12, "common", "(JJ)J"⟩
abbrev cX12_enters : ByteArray := prog_14_method_8_code
def yX12_enters : MethodName := ⟨RX12, "enters", "(J)V"⟩
abbrev cX12_isBank : ByteArray := prog_14_method_9_code
def yX12_isBank : MethodName := ⟨RX12, "isBank", "(I)Z"⟩
abbrev cX12_isCrossing : ByteArray := prog_14_method_10_code
def yX12_isCrossing : MethodName := ⟨RX12, "isCrossing", "(I)Z"⟩
abbrev cX12_isBridge : ByteArray := prog_14_method_11_code
def yX12_isBridge : MethodName := ⟨RX12, "isBridge", "(I)Z"⟩
abbrev cX12_isPerson : ByteArray := prog_14_method_12_code
def yX12_isPerson : MethodName := ⟨RX12, "isPerson", "(I)Z"⟩
abbrev cX12_sign : ByteArray := prog_14_method_13_code
def yX12_sign : MethodName := ⟨RX12, "sign", "(I)I"⟩
abbrev cX12_end : ByteArray := prog_14_method_14_code
def yX12_end : MethodName := ⟨RX12, "end", "(I)Z"⟩
abbrev cX12_begins : ByteArray := prog_14_method_15_code
def yX12_begins : MethodName := ⟨RX12, "begins", "(I)I"⟩
abbrev cX12_isNext : ByteArray := prog_14_method_16_code
def yX12_isNext : MethodName := ⟨RX12, "isNext", "(I)Z"⟩
abbrev cX12_isDigit : ByteArray := prog_14_method_17_code
def yX12_isDigit : MethodName := ⟨RX12, "isDigit", "()Z"⟩
abbrev cX12_among : ByteArray := prog_14_method_18_code
def yX12_among : MethodName := ⟨RX12, "among", "(Ljava/lang/String;)I"⟩
abbrev cX12_takesOf : ByteArray := prog_14_method_19_code
def yX12_takesOf : MethodName := ⟨RX12, "takesOf", "(Ljava/lang/String;)I"⟩
abbrev cX12_number : ByteArray := prog_14_method_20_code
def yX12_number : MethodName := ⟨RX12, "number", "(I)I"⟩
abbrev cX12_letter : ByteArray := prog_14_method_21_code
def yX12_letter : MethodName := ⟨RX12, "letter", "(I)I"⟩
abbrev cX12_faultOf : ByteArray := prog_14_method_22_code
def yX12_faultOf : MethodName := ⟨RX12, "faultOf", "(IIZ)I"⟩
abbrev cX12_twoBanks : ByteArray := prog_14_method_23_code
def yX12_twoBanks : MethodName := ⟨RX12, "twoBanks", "(I)I"⟩
abbrev cX12_readsCrossing : ByteArray := prog_14_method_24_code
def yX12_readsCrossing : MethodName := ⟨RX12, "readsCrossing", "()Z"⟩
abbrev cX12_river : ByteArray := prog_14_method_25_code
def yX12_river : MethodName := ⟨RX12, "river", "()I"⟩
abbrev cX12_comes : ByteArray := prog_14_method_26_code
def yX12_comes : MethodName := ⟨RX12, "comes", "()V"⟩
abbrev cX12_readsPair : ByteArray := prog_14_method_27_code
def yX12_readsPair : MethodName := ⟨RX12, "readsPair", "(Z)Z"⟩
abbrev cX12_readsPairs : ByteArray := prog_14_method_28_code
def yX12_readsPairs : MethodName := ⟨RX12, "readsPairs", "(Z)I"⟩
abbrev cX12_bridges : ByteArray := prog_14_method_29_code
def yX12_bridges : MethodName := ⟨RX12, "bridges", "()I"⟩
abbrev cX12_people : ByteArray := prog_14_method_30_code
def yX12_people : MethodName := ⟨RX12, "people", "()I"⟩
abbrev cX12_codes : ByteArray := prog_14_method_31_code
def yX12_codes : MethodName := ⟨RX12, "codes", "(I)V"⟩
abbrev cX12_readsThing : ByteArray := prog_14_method_32_code
def yX12_readsThing : MethodName := ⟨RX12, "readsThing", "()Z"⟩
abbrev cX12_readsRank : ByteArray := prog_14_method_33_code
def yX12_readsRank : MethodName := ⟨RX12, "readsRank", "(I)Z"⟩
abbrev cX12_rule : ByteArray := prog_14_method_34_code
def yX12_rule : MethodName := ⟨RX12, "rule", "()I"⟩
abbrev cX12_worked : ByteArray := prog_14_method_35_code
def yX12_worked : MethodName := ⟨RX12, "worked", "(III)I"⟩
abbrev cX12_ruled : ByteArray := prog_14_method_36_code
def yX12_ruled : MethodName := ⟨RX12, "ruled", "()I"⟩
abbrev cX12_spotOf : ByteArray := prog_14_method_37_code
def yX12_spotOf : MethodName := ⟨RX12, "spotOf", "(I)I"⟩
abbrev cX12_towOf : ByteArray := prog_14_method_38_code
def yX12_towOf : MethodName := ⟨RX12, "towOf", "(II)I"⟩
abbrev cX12_bridgeAt : ByteArray := prog_14_method_39_code
def yX12_bridgeAt : MethodName := ⟨RX12, "bridgeAt", "(IZ)I"⟩
abbrev cX12_openIn : ByteArray := prog_14_method_40_code
def yX12_openIn : MethodName := ⟨RX12, "openIn", "(II)I"⟩
abbrev cX12_reachOnce : ByteArray := prog_14_method_41_code
def yX12_reachOnce : MethodName := ⟨RX12, "reachOnce", "(II)I"⟩
abbrev cX12_reach : ByteArray := prog_14_method_42_code
def yX12_reach : MethodName := ⟨RX12, "reach", "(II)I"⟩
abbrev cX12_pairsOf : ByteArray := prog_14_method_43_code
def yX12_pairsOf : MethodName := ⟨RX12, "pairsOf", "(I)I"⟩
abbrev cX12_crossing : ByteArray := prog_14_method_44_code
def yX12_crossing : MethodName := ⟨RX12, "crossing", "(II)I"⟩
abbrev cX12_bridge : ByteArray := prog_14_method_45_code
def yX12_bridge : MethodName := ⟨RX12, "bridge", "(II)I"⟩
abbrev cX12_person : ByteArray := prog_14_method_46_code
def yX12_person : MethodName := ⟨RX12, "person", "(II)I"⟩
abbrev cX12_sheet : ByteArray := prog_14_method_47_code
def yX12_sheet : MethodName := ⟨RX12, "sheet", "(IIII)I"⟩
abbrev cX12_putsBy : ByteArray := prog_14_method_48_code
def yX12_putsBy : MethodName := ⟨RX12, "putsBy", "()V"⟩
abbrev cX12_adds : ByteArray := prog_14_method_49_code
def yX12_adds : MethodName := ⟨RX12, "adds", "(I)I"⟩
abbrev cX12_counts : ByteArray := prog_14_method_50_code
def yX12_counts : MethodName := ⟨RX12, "counts", "(I)I"⟩
abbrev cX12_undo : ByteArray := prog_14_method_51_code
def yX12_undo : MethodName := ⟨RX12, "undo", "()I"⟩
abbrev cX12_whyNot : ByteArray := prog_14_method_52_code
def yX12_whyNot : MethodName := ⟨RX12, "whyNot", "(II)I"⟩
abbrev cX12_takes : ByteArray := prog_14_method_53_code
def yX12_takes : MethodName := ⟨RX12, "takes", "(II)I"⟩
abbrev cX12_tows : ByteArray := prog_14_method_54_code
def yX12_tows : MethodName := ⟨RX12, "tows", "(II)I"⟩
abbrev cX12_lends : ByteArray := prog_14_method_55_code
def yX12_lends : MethodName := ⟨RX12, "lends", "(II)I"⟩
abbrev cX12_crosses : ByteArray := prog_14_method_56_code
def yX12_crosses : MethodName := ⟨RX12, "crosses", "(II)I"⟩
abbrev cX12_startsCounting : ByteArray := prog_14_method_57_code
def yX12_startsCounting : MethodName := ⟨RX12, "startsCounting", "()V"⟩
abbrev cX12_hourGoes : ByteArray := prog_14_method_58_code
def yX12_hourGoes : MethodName := ⟨RX12, "hourGoes", "()V"⟩
abbrev cX12_tow : ByteArray := prog_14_method_59_code
def yX12_tow : MethodName := ⟨RX12, "tow", "(II)I"⟩
abbrev cX12_lend : ByteArray := prog_14_method_60_code
def yX12_lend : MethodName := ⟨RX12, "lend", "(II)I"⟩
abbrev cX12_cross : ByteArray := prog_14_method_61_code
def yX12_cross : MethodName := ⟨RX12, "cross", "(II)I"⟩
abbrev cX12_hours : ByteArray := prog_14_method_62_code
def yX12_hours : MethodName := ⟨RX12, "hours", "(I)I"⟩
abbrev cX12_readsAct : ByteArray := prog_14_method_63_code
def yX12_readsAct : MethodName := ⟨RX12, "readsAct", "()Z"⟩
abbrev cX12_does : ByteArray := prog_14_method_64_code
def yX12_does : MethodName := ⟨RX12, "does", "(I)Z"⟩
abbrev cX12_day : ByteArray := prog_14_method_65_code
def yX12_day : MethodName := ⟨RX12, "day", "()I"⟩
abbrev cX12_laysFar : ByteArray := prog_14_method_66_code
def yX12_laysFar : MethodName := ⟨RX12, "laysFar", "(II)V"⟩
abbrev cX12_route : ByteArray := prog_14_method_67_code
def yX12_route : MethodName := ⟨RX12, "route", "(II)I"⟩
abbrev cX12_joined : ByteArray := prog_14_method_68_code
def yX12_joined : MethodName := ⟨RX12, "joined", "(I)I"⟩
abbrev cX12_soonest : ByteArray := prog_14_method_69_code
def yX12_soonest : MethodName := ⟨RX12, "soonest", "(II)I"⟩
abbrev cX12_isFree : ByteArray := prog_14_method_70_code
def yX12_isFree : MethodName := ⟨RX12, "isFree", "(I)Z"⟩
abbrev cX12_canPut : ByteArray := prog_14_method_71_code
def yX12_canPut : MethodName := ⟨RX12, "canPut", "(II)Z"⟩
abbrev cX12_openWith : ByteArray := prog_14_method_72_code
def yX12_openWith : MethodName := ⟨RX12, "openWith", "(IIII)I"⟩
abbrev cX12_canGo : ByteArray := prog_14_method_73_code
def yX12_canGo : MethodName := ⟨RX12, "canGo", "(III)Z"⟩
abbrev cX12_moves : ByteArray := prog_14_method_74_code
def yX12_moves : MethodName := ⟨RX12, "moves", "(II)I"⟩
abbrev cX12_needed : ByteArray := prog_14_method_75_code
def yX12_needed : MethodName := ⟨RX12, "needed", "()I"⟩
abbrev cX12_laysFrom : ByteArray := prog_14_method_76_code
def yX12_laysFrom : MethodName := ⟨RX12, "laysFrom", "(IIII)Z"⟩
abbrev cX12_canLay : ByteArray := prog_14_method_77_code
def yX12_canLay : MethodName := ⟨RX12, "canLay", "(I)Z"⟩
abbrev cX12_allCrossings : ByteArray := prog_14_method_78_code
def yX12_allCrossings : MethodName := ⟨RX12, "allCrossings", "()I"⟩
abbrev cX12_lays : ByteArray := prog_14_method_79_code
def yX12_lays : MethodName := ⟨RX12, "lays", "(I)I"⟩
abbrev cX12_joinsAll : ByteArray := prog_14_method_80_code
def yX12_joinsAll : MethodName := ⟨RX12, "joinsAll", "(I)Z"⟩
abbrev cX12_fewestFor : ByteArray := prog_14_method_81_code
def yX12_fewestFor : MethodName := ⟨RX12, "fewestFor", "()I"⟩
abbrev cX12_joins : ByteArray := prog_14_method_82_code
def yX12_joins : MethodName := ⟨RX12, "joins", "(I)I"⟩
abbrev cX12_night : ByteArray := prog_14_method_83_code
def yX12_night : MethodName := ⟨RX12, "night", "()I"⟩
abbrev cX12_errands : ByteArray := prog_14_method_84_code
def yX12_errands : MethodName := ⟨RX12, "errands", "()I"⟩
abbrev cX12_shortBy : ByteArray := prog_14_method_85_code
def yX12_shortBy : MethodName := ⟨RX12, "shortBy", "(I)I"⟩
abbrev cX12_pairsBy : ByteArray := prog_14_method_86_code
def yX12_pairsBy : MethodName := ⟨RX12, "pairsBy", "(I)I"⟩
abbrev cX12_flood : ByteArray := prog_14_method_87_code
def yX12_flood : MethodName := ⟨RX12, "flood", "(I)I"⟩
abbrev cX12_highest : ByteArray := prog_14_method_88_code
def yX12_highest : MethodName := ⟨RX12, "highest", "()I"⟩
abbrev cX12_worst : ByteArray := prog_14_method_89_code
def yX12_worst : MethodName := ⟨RX12, "worst", "(I)I"⟩
abbrev cX12_nextDown : ByteArray := prog_14_method_90_code
def yX12_nextDown : MethodName := ⟨RX12, "nextDown", "(I)I"⟩
abbrev cX12_isAt : ByteArray := prog_14_method_91_code
def yX12_isAt : MethodName := ⟨RX12, "isAt", "(I)Z"⟩
abbrev cX12_drifts : ByteArray := prog_14_method_92_code
def yX12_drifts : MethodName := ⟨RX12, "drifts", "(III)V"⟩
abbrev cX12_tellsShare : ByteArray := prog_14_method_93_code
def yX12_tellsShare : MethodName := ⟨RX12, "tellsShare", "(I)V"⟩
abbrev cX12_drift : ByteArray := prog_14_method_94_code
def yX12_drift : MethodName := ⟨RX12, "drift", "(IIII)I"⟩
abbrev cX12_seek : ByteArray := prog_14_method_95_code
def yX12_seek : MethodName := ⟨RX12, "seek", "(III)I"⟩
abbrev cX12_greatestOf : ByteArray := prog_14_method_96_code
def yX12_greatestOf : MethodName := ⟨RX12, "greatestOf", "(I)I"⟩
abbrev cX12_found : ByteArray := prog_14_method_97_code
def yX12_found : MethodName := ⟨RX12, "found", "(III)I"⟩
abbrev cX12_forget : ByteArray := prog_14_method_98_code
def yX12_forget : MethodName := ⟨RX12, "forget", "()I"⟩
abbrev cX12_isSo : ByteArray := prog_14_method_99_code
def yX12_isSo : MethodName := ⟨RX12, "isSo", "(III)Z"⟩
abbrev cX12_fitting : ByteArray := prog_14_method_100_code
def yX12_fitting : MethodName := ⟨RX12, "fitting", "()I"⟩
abbrev cX12_stolen : ByteArray := prog_14_method_101_code
def yX12_stolen : MethodName := ⟨RX12, "stolen", "()I"⟩
abbrev cX12_ask : ByteArray := prog_14_method_102_code
def yX12_ask : MethodName := ⟨RX12, "ask", "()I"⟩
abbrev cX12_sharesBy : ByteArray := prog_14_method_103_code
def yX12_sharesBy : MethodName := ⟨RX12, "sharesBy", "(IIII)V"⟩
abbrev cX12_canShare : ByteArray := prog_14_method_104_code
def yX12_canShare : MethodName := ⟨RX12, "canShare", "(III)Z"⟩
abbrev cX12_share : ByteArray := prog_14_method_105_code
def yX12_share : MethodName := ⟨RX12, "share", "(IIII)I"⟩
abbrev cX12_turn : ByteArray := prog_14_method_106_code
def yX12_turn : MethodName := ⟨RX12, "turn", "(III)I"⟩
abbrev cX12_earns : ByteArray := prog_14_method_107_code
def yX12_earns : MethodName := ⟨RX12, "earns", "(III)I"⟩
abbrev cX12_isRest : ByteArray := prog_14_method_108_code
def yX12_isRest : MethodName := ⟨RX12, "isRest", "(III)Z"⟩
abbrev cX12_rests : ByteArray := prog_14_method_109_code
def yX12_rests : MethodName := ⟨RX12, "rests", "(I)I"⟩
abbrev cX12_homeIn : ByteArray := prog_14_method_110_code
def yX12_homeIn : MethodName := ⟨RX12, "homeIn", "(I)I"⟩
abbrev cX12_home : ByteArray := prog_14_method_111_code
def yX12_home : MethodName := ⟨RX12, "home", "()I"⟩
abbrev cX12_openThen : ByteArray := prog_14_method_112_code
def yX12_openThen : MethodName := ⟨RX12, "openThen", "()I"⟩
abbrev cX12_isFreeThen : ByteArray := prog_14_method_113_code
def yX12_isFreeThen : MethodName := ⟨RX12, "isFreeThen", "(I)Z"⟩
abbrev cX12_years : ByteArray := prog_14_method_114_code
def yX12_years : MethodName := ⟨RX12, "years", "(II)I"⟩
abbrev cX12_keep : ByteArray := prog_14_method_115_code
def yX12_keep : MethodName := ⟨RX12, "keep", "(I)Z"⟩
abbrev cX12_again : ByteArray := prog_14_method_116_code
def yX12_again : MethodName := ⟨RX12, "again", "(I)Z"⟩
abbrev cX12_bridgesBy : ByteArray := prog_14_method_117_code
def yX12_bridgesBy : MethodName := ⟨RX12, "bridgesBy", "(I)I"⟩
abbrev cX12_count : ByteArray := prog_14_method_118_code
def yX12_count : MethodName := ⟨RX12, "count", "(I)I"⟩
abbrev cX12_row : ByteArray := prog_14_method_119_code
def yX12_row : MethodName := ⟨RX12, "row", "(I)J"⟩
def RJx145de : String := "java/io/Serializable"
def TJx145de : u_T := fun k => match k with
  | _ => ("", "", "", false)
def tyJx145de : Nat → FieldType := fun k => match k with
  | _ => .int
theorem nmJx145de : ∀ a, a < 0 → ∀ b, b < 0 → a ≠ b → (TJx145de a).2.1 ≠ (TJx145de b).2.1 := by decide +kernel
theorem tyJx145de_ok : ∀ k, k < 0 → parseFieldDescriptor (TJx145de k).2.2.1 = some (tyJx145de k) := by decide +kernel
def RJx9f9b0 : String := "java/lang/CharSequence"
def TJx9f9b0 : u_T := fun k => match k with
  | _ => ("", "", "", false)
def tyJx9f9b0 : Nat → FieldType := fun k => match k with
  | _ => .int
theorem nmJx9f9b0 : ∀ a, a < 0 → ∀ b, b < 0 → a ≠ b → (TJx9f9b0 a).2.1 ≠ (TJx9f9b0 b).2.1 := by decide +kernel
theorem tyJx9f9b0_ok : ∀ k, k < 0 → parseFieldDescriptor (TJx9f9b0 k).2.2.1 = some (tyJx9f9b0 k) := by decide +kernel
def RJ11 : String := "java/lang/Character"
def TJ11 : u_T := fun k => match k with
  | _ => ("", "", "", false)
def tyJ11 : Nat → FieldType := fun k => match k with
  | _ => .int
theorem nmJ11 : ∀ a, a < 0 → ∀ b, b < 0 → a ≠ b → (TJ11 a).2.1 ≠ (TJ11 b).2.1 := by decide +kernel
theorem tyJ11_ok : ∀ k, k < 0 → parseFieldDescriptor (TJ11 k).2.2.1 = some (tyJ11 k) := by decide +kernel
abbrev cJ11_isValidCodePoint_9a6ad : ByteArray := prog_17_method_11_code
def yJ11_isValidCodePoint_9a6ad : MethodName := ⟨RJ11, "isValidCodePoint", "(I)Z"⟩
abbrev cJ11_highSurrogate_5068e : ByteArray := prog_17_method_28_code
def yJ11_highSurrogate_5068e : MethodName := ⟨RJ11, "highSurrogate", "(I)C"⟩
abbrev cJ11_lowSurrogate_5068e : ByteArray := prog_17_method_29_code
def yJ11_lowSurrogate_5068e : MethodName := ⟨RJ11, "lowSurrogate", "(I)C"⟩
def RJxb160c : String := "java/lang/Comparable"
def TJxb160c : u_T := fun k => match k with
  | _ => ("", "", "", false)
def tyJxb160c : Nat → FieldType := fun k => match k with
  | _ => .int
theorem nmJxb160c : ∀ a, a < 0 → ∀ b, b < 0 → a ≠ b → (TJxb160c a).2.1 ≠ (TJxb160c b).2.1 := by decide +kernel
theorem tyJxb160c_ok : ∀ k, k < 0 → parseFieldDescriptor (TJxb160c k).2.2.1 = some (tyJxb160c k) := by decide +kernel
def RJ6 : String := "java/lang/Integer"
def TJ6 : u_T := fun k => match k with
  | _ => ("", "", "", false)
def tyJ6 : Nat → FieldType := fun k => match k with
  | _ => .int
theorem nmJ6 : ∀ a, a < 0 → ∀ b, b < 0 → a ≠ b → (TJ6 a).2.1 ≠ (TJ6 b).2.1 := by decide +kernel
theorem tyJ6_ok : ∀ k, k < 0 → parseFieldDescriptor (TJ6 k).2.2.1 = some (tyJ6 k) := by decide +kernel
abbrev cJ6_numberOfTrailingZeros_0f7a4 : ByteArray := prog_20_method_48_code
def yJ6_numberOfTrailingZeros_0f7a4 : MethodName := ⟨RJ6, "numberOfTrailingZeros", "(I)I"⟩
abbrev cJ6_bitCount_0f7a4 : ByteArray := prog_20_method_49_code
def yJ6_bitCount_0f7a4 : MethodName := ⟨RJ6, "bitCount", "(I)I"⟩
def RJ9 : String := "java/lang/Math"
def TJ9 : u_T := fun k => match k with
  | _ => ("", "", "", false)
def tyJ9 : Nat → FieldType := fun k => match k with
  | _ => .int
theorem nmJ9 : ∀ a, a < 0 → ∀ b, b < 0 → a ≠ b → (TJ9 a).2.1 ≠ (TJ9 b).2.1 := by decide +kernel
theorem tyJ9_ok : ∀ k, k < 0 → parseFieldDescriptor (TJ9 k).2.2.1 = some (tyJ9 k) := by decide +kernel
abbrev cJ9_abs_0f7a4 : ByteArray := prog_21_method_59_code
def yJ9_abs_0f7a4 : MethodName := ⟨RJ9, "abs", "(I)I"⟩
abbrev cJ9_max_7cf53 : ByteArray := prog_21_method_65_code
def yJ9_max_7cf53 : MethodName := ⟨RJ9, "max", "(II)I"⟩
abbrev cJ9_min_7cf53 : ByteArray := prog_21_method_69_code
def yJ9_min_7cf53 : MethodName := ⟨RJ9, "min", "(II)I"⟩
def RJ0 : String := "java/lang/String"
def TJ0 : u_T := fun k => match k with
  | _ => ("", "", "", false)
def tyJ0 : Nat → FieldType := fun k => match k with
  | _ => .int
theorem nmJ0 : ∀ a, a < 0 → ∀ b, b < 0 → a ≠ b → (TJ0 a).2.1 ≠ (TJ0 b).2.1 := by decide +kernel
theorem tyJ0_ok : ∀ k, k < 0 → parseFieldDescriptor (TJ0 k).2.2.1 = some (tyJ0 k) := by decide +kernel
abbrev cJ0_length_8abf5 : ByteArray := prog_23_method_54_code
def yJ0_length_8abf5 : MethodName := ⟨RJ0, "length", "()I"⟩
abbrev cJ0_charAt_5068e : ByteArray := prog_23_method_56_code
def yJ0_charAt_5068e : MethodName := ⟨RJ0, "charAt", "(I)C"⟩
abbrev cJ0_indexOf_0f7a4 : ByteArray := prog_23_method_79_code
def yJ0_indexOf_0f7a4 : MethodName := ⟨RJ0, "indexOf", "(I)I"⟩
abbrev cJ0_indexOf_7cf53 : ByteArray := prog_23_method_80_code
def yJ0_indexOf_7cf53 : MethodName := ⟨RJ0, "indexOf", "(II)I"⟩
abbrev cJ0_coder_7d493 : ByteArray := prog_23_method_152_code
def yJ0_coder_7d493 : MethodName := ⟨RJ0, "coder", "()B"⟩
abbrev cJ0_isLatin1_aae02 : ByteArray := prog_23_method_154_code
def yJ0_isLatin1_aae02 : MethodName := ⟨RJ0, "isLatin1", "()Z"⟩
abbrev cJ0_checkIndex_df160 : ByteArray := prog_23_method_155_code
def yJ0_checkIndex_df160 : MethodName := ⟨RJ0, "checkIndex", "(II)V"⟩
abbrev cJ0_checkBoundsBeginEnd_23922 : ByteArray := prog_23_method_158_code
def yJ0_checkBoundsBeginEnd_23922 : MethodName := ⟨RJ0, "checkBoundsBeginEnd", "(III)V"⟩
def RJ1 : String := "java/lang/StringLatin1"
def TJ1 : u_T := fun k => match k with
  | _ => ("", "", "", false)
def tyJ1 : Nat → FieldType := fun k => match k with
  | _ => .int
theorem nmJ1 : ∀ a, a < 0 → ∀ b, b < 0 → a ≠ b → (TJ1 a).2.1 ≠ (TJ1 b).2.1 := by decide +kernel
theorem tyJ1_ok : ∀ k, k < 0 → parseFieldDescriptor (TJ1 k).2.2.1 = some (tyJ1 k) := by decide +kernel
abbrev cJ1_charAt_3b067 : ByteArray := prog_24_method_2_code
def yJ1_charAt_3b067 : MethodName := ⟨RJ1, "charAt", "([BI)C"⟩
abbrev cJ1_canEncode_9a6ad : ByteArray := prog_24_method_4_code
def yJ1_canEncode_9a6ad : MethodName := ⟨RJ1, "canEncode", "(I)Z"⟩
abbrev cJ1_indexOf_4cfef : ByteArray := prog_24_method_22_code
def yJ1_indexOf_4cfef : MethodName := ⟨RJ1, "indexOf", "([BIII)I"⟩
abbrev cJ1_indexOfChar_4cfef : ByteArray := prog_24_method_23_code
def yJ1_indexOfChar_4cfef : MethodName := ⟨RJ1, "indexOfChar", "([BIII)I"⟩
def RJ2 : String := "java/lang/StringUTF16"
def TJ2 : u_T := fun k => match k with
  | _ => ("", "", "", false)
def tyJ2 : Nat → FieldType := fun k => match k with
  | _ => .int
theorem nmJ2 : ∀ a, a < 0 → ∀ b, b < 0 → a ≠ b → (TJ2 a).2.1 ≠ (TJ2 b).2.1 := by decide +kernel
theorem tyJ2_ok : ∀ k, k < 0 → parseFieldDescriptor (TJ2 k).2.2.1 = some (tyJ2 k) := by decide +kernel
abbrev cJ2_getChar_3b067 : ByteArray := prog_25_method_5_code
def yJ2_getChar_3b067 : MethodName := ⟨RJ2, "getChar", "([BI)C"⟩
abbrev cJ2_length_9d52b : ByteArray := prog_25_method_6_code
def yJ2_length_9d52b : MethodName := ⟨RJ2, "length", "([B)I"⟩
abbrev cJ2_indexOf_4cfef : ByteArray := prog_25_method_40_code
def yJ2_indexOf_4cfef : MethodName := ⟨RJ2, "indexOf", "([BIII)I"⟩
abbrev cJ2_indexOfChar_4cfef : ByteArray := prog_25_method_47_code
def yJ2_indexOfChar_4cfef : MethodName := ⟨RJ2, "indexOfChar", "([BIII)I"⟩
abbrev cJ2_indexOfCharUnsafe_4cfef : ByteArray := prog_25_method_48_code
def yJ2_indexOfCharUnsafe_4cfef : MethodName := ⟨RJ2, "indexOfCharUnsafe", "([BIII)I"⟩
abbrev cJ2_indexOfSupplementary_4cfef : ByteArray := prog_25_method_49_code
def yJ2_indexOfSupplementary_4cfef : MethodName := ⟨RJ2, "indexOfSupplementary", "([BIII)I"⟩
abbrev cJ2_charAt_3b067 : ByteArray := prog_25_method_83_code
def yJ2_charAt_3b067 : MethodName := ⟨RJ2, "charAt", "([BI)C"⟩
abbrev cJ2_checkIndex_2214a : ByteArray := prog_25_method_91_code
def yJ2_checkIndex_2214a : MethodName := ⟨RJ2, "checkIndex", "(I[B)V"⟩
abbrev cJ2_checkBoundsBeginEnd_d044e : ByteArray := prog_25_method_93_code
def yJ2_checkBoundsBeginEnd_d044e : MethodName := ⟨RJ2, "checkBoundsBeginEnd", "(II[B)V"⟩
def RJ10 : String := "java/lang/System"
def TJ10 : u_T := fun k => match k with
  | _ => ("", "", "", false)
def tyJ10 : Nat → FieldType := fun k => match k with
  | _ => .int
theorem nmJ10 : ∀ a, a < 0 → ∀ b, b < 0 → a ≠ b → (TJ10 a).2.1 ≠ (TJ10 b).2.1 := by decide +kernel
theorem tyJ10_ok : ∀ k, k < 0 → parseFieldDescriptor (TJ10 k).2.2.1 = some (tyJ10 k) := by decide +kernel
def RJxfd54e : String := "java/lang/constant/Constable"
def TJxfd54e : u_T := fun k => match k with
  | _ => ("", "", "", false)
def tyJxfd54e : Nat → FieldType := fun k => match k with
  | _ => .int
theorem nmJxfd54e : ∀ a, a < 0 → ∀ b, b < 0 → a ≠ b → (TJxfd54e a).2.1 ≠ (TJxfd54e b).2.1 := by decide +kernel
theorem tyJxfd54e_ok : ∀ k, k < 0 → parseFieldDescriptor (TJxfd54e k).2.2.1 = some (tyJxfd54e k) := by decide +kernel
def RJx3cf43 : String := "java/lang/constant/ConstantDesc"
def TJx3cf43 : u_T := fun k => match k with
  | _ => ("", "", "", false)
def tyJx3cf43 : Nat → FieldType := fun k => match k with
  | _ => .int
theorem nmJx3cf43 : ∀ a, a < 0 → ∀ b, b < 0 → a ≠ b → (TJx3cf43 a).2.1 ≠ (TJx3cf43 b).2.1 := by decide +kernel
theorem tyJx3cf43_ok : ∀ k, k < 0 → parseFieldDescriptor (TJx3cf43 k).2.2.1 = some (tyJx3cf43 k) := by decide +kernel
def RJ3 : String := "jdk/internal/util/Preconditions"
def TJ3 : u_T := fun k => match k with
  | _ => ("", "", "", false)
def tyJ3 : Nat → FieldType := fun k => match k with
  | _ => .int
theorem nmJ3 : ∀ a, a < 0 → ∀ b, b < 0 → a ≠ b → (TJ3 a).2.1 ≠ (TJ3 b).2.1 := by decide +kernel
theorem tyJ3_ok : ∀ k, k < 0 → parseFieldDescriptor (TJ3 k).2.2.1 = some (tyJ3 k) := by decide +kernel
abbrev cJ3_checkIndex_8e157 : ByteArray := prog_31_method_11_code
def yJ3_checkIndex_8e157 : MethodName := ⟨RJ3, "checkIndex", "(IILjava/util/function/BiFunction;)I"⟩
abbrev cJ3_checkFromToIndex_8c36e : ByteArray := prog_31_method_12_code
def yJ3_checkFromToIndex_8c36e : MethodName := ⟨RJ3, "checkFromToIndex", "(IIILjava/util/function/BiFunction;)I"⟩
def RL : String := "BridgesAreLentLaw"
abbrev cL_crossing : ByteArray := method_3_code
def yL_crossing : MethodName := ⟨RL, "crossing", "(LBridgesAreLent;II[J)I"⟩
abbrev cL_bridge : ByteArray := method_4_code
def yL_bridge : MethodName := ⟨RL, "bridge", "(LBridgesAreLent;II[J)I"⟩
abbrev cL_person : ByteArray := method_5_code
def yL_person : MethodName := ⟨RL, "person", "(LBridgesAreLent;II[J)I"⟩
abbrev cL_row : ByteArray := method_6_code
def yL_row : MethodName := ⟨RL, "row", "(LBridgesAreLent;I[J)I"⟩
abbrev cL_law : ByteArray := code
def yL_law : MethodName := ⟨RL, "law", "([I)Z"⟩
abbrev vwCl : List vw_C := [(RX0, TX0, 4), (RX1, TX1, 4), (RX2, TX2, 4), (RX3, TX3, 5), (RX4, TX4, 5), (RX5, TX5, 8), (RX6, TX6, 2), (RX7, TX7, 5), (RX8, TX8, 9), (RX9, TX9, 5), (RX10, TX10, 9), (RX11, TX11, 8), (RX12, TX12, 60)]
end
section
/-! ===== BEGIN words of one list among another's, by their places ===== -/
theorem goodIn_r {big : List Cond} (ws : List Cond) (ps : List Nat) (hp : ws = ps.filterMap (fun i => big[i]?)) (h : ws.all goodWord = true) : GoodIn big ws := by
  intro w hw
  have h1 := List.all_eq_true.mp h w hw
  rw [hp] at hw
  obtain ⟨i, -, hi⟩ := List.mem_filterMap.mp hw
  have hm : w ∈ big := by first | exact List.mem_of_getElem? hi | exact List.getElem?_mem hi
  exact ⟨hm, good_of_word h1⟩
theorem goodIn_app {big a b : List Cond} (ha : GoodIn big a) (hb : GoodIn big b) : GoodIn big (a ++ b) := fun w h => (List.mem_append.mp h).elim (ha w) (hb w)
theorem goodIn_ca {big a b : List Cond} {c : Cond} (ha : GoodIn big (c :: a)) (hb : GoodIn big b) : GoodIn big (c :: (a ++ b)) := fun w h => (List.mem_cons.mp h).elim (fun e => ha w (List.mem_cons.mpr (Or.inl e))) (fun h => (List.mem_append.mp h).elim (fun h => ha w (List.mem_cons.mpr (Or.inr h))) (hb w))
theorem goodIn_sub {big ws : List Cond} (hm : ∀ w ∈ ws, w ∈ big) (h : ws.all goodWord = true) : GoodIn big ws := fun w hw => ⟨hm w hw, good_of_word (List.all_eq_true.mp h w hw)⟩
/-! ===== END ===== -/

/-! ===== BEGIN exceptions that leave a method, and their catching by the caller (launches without stack traces) ===== -/
section VXA
/-! The laws vx_back, vx_callV, vx_callS, vx_callSW, vx_throw0, vx_throwS follow proofs of the library, with one case more: JvmDerived/Free/Laws.lean (Back.of_free), Shelf42/LK1.lean (callV, callS), Shelf/KitTraced.lean (throwNew0V, throwNewS). -/
/-- where a method has thrown q: the class by its name, the cell, what was written, the world -/
def vx_T (XC : String → State → State → Prop) (st : State) (q : Addr) (t : State) (mc ms : Nat) (free : Addr → Prop) : Prop :=
  ∃ (E : String) (ce : Cell) (L : List Loc), XC E st t ∧ t.heap[q]? = some ce ∧ ce.vm = .none ∧ st.vm.findClass E = some ce.cls ∧ st.WarmedH t.vm ∧ st.sameButNew ({ t with vm := st.vm } : State) L mc ms ∧ ∀ z ∈ L, free z.base
def vx_Q (Qc : Array Value → State → Outcome → State → Prop) (XC : String → State → State → Prop) (mc ms : Nat) (free : Addr → Prop) : Array Value → State → Outcome → State → Prop := fun a st o t =>
  (Qc a st o t ∧ ∃ L, FrameEnd st o t L mc ms ∧ ∀ q ∈ L, free q.base) ∨ ∃ q, o = .threw q ∧ vx_T XC st q t mc ms free
/-- a callee that returns or throws -/
def vx_Met (l : Launch) (y : MethodName) (ws : List Cond) (rm : Room) (Pc : Array Value → State → Prop) (Qc : Array Value → State → Outcome → State → Prop) (XC : String → State → State → Prop) (mc ms : Nat) (free : Addr → Prop) : Prop :=
  MetFree l y (headSpec ws rm) Pc (fun _ _ _ _ _ => True) (vx_Q Qc XC mc ms free)
def vx_Post (XC : String → State → State → Prop) (mc ms : Nat) (free : Addr → Prop) : Pt → Array Value → Addr → Pt → Prop := fun A a q B =>
  ∃ (g : JFrame) (mk : MethodId) (t : State) (L : List Loc) (E : String) (ce : Cell), B.U.heap = t.heap ∧ B.U.vm = t.vm ∧ XC E (A.U.calling g mk a) t ∧ t.heap[q]? = some ce ∧ ce.vm = .none ∧ A.U.vm.findClass E = some ce.cls ∧ B.locs = A.locs ++ L ∧ (∀ z ∈ L, free z.base) ∧ B.cells = A.cells + mc ∧ B.slots = A.slots + ms
def vx_Back (l : Launch) (R : Room) (p : Program) (e : Env) (below : List Frame) (s : State) (sargs : Array Value) (y : MethodName) (len W9 : Nat)
    (Pre : Pt → Array Value → Prop) (Post : Pt → Array Value → Option Value → Pt → Prop) (PostX : Pt → Array Value → Addr → Pt → Prop) : Prop :=
  ∀ (m : MethodId) (meth : Method) (c : Code) (A : Pt) (g : JFrame) (ig : Instr) (mk : MethodId) (a : Array Value),
    Stand p l e R s m sargs below meth c A.U A.locs A.cells A.slots → g.method = m → g.locals.size = c.maxLocals → decode c.code g.pc = .ok (ig, len) →
    2 * g.monitorRoom + (g.stack.map fun v => v.category).sum ≤ W9 → A.U.methodNamed? y = some mk → Pre A a →
    (∃ (v : Option Value) (B : Pt), Stand p l e R s m sargs below meth c B.U B.locs B.cells B.slots ∧ Post A a v B ∧
      Steps p.tables e below (doInvoke e (A.U.setTop g) [] mk a).1 (B.U.setTop { g with pc := g.pc + len, stack := v.toList ++ g.stack })) ∨
    (∃ (q : Addr) (B : Pt), Stand p l e R s m sargs below meth c B.U B.locs B.cells B.slots ∧ PostX A a q B ∧
      Steps p.tables e below (doInvoke e (A.U.setTop g) [] mk a).1 ((B.U.setTop g).pushFrame (.throwing q)))
section Payer
variable {l : Launch} {R : Room} {p : Program} {e : Env} {below : List Frame} {s : State} {sargs : Array Value} {y : MethodName} {len W9 : Nat}
theorem vx_back {ws : List Cond} {rm : Room} {Pc : Array Value → State → Prop} {Qc : Array Value → State → Outcome → State → Prop} {XC : String → State → State → Prop} {mc ms : Nat} {free : Addr → Prop} {bytes : ByteArray} {maxL : Nat} {ret : Option FieldType}
    (hM : vx_Met l y ws rm Pc Qc XC mc ms free) (hblind : FrameBlind Pc) (hrc : rm.cells = mc) (hrs : rm.slots = ms)
    (hframes : rm.frames + 1 ≤ R.frames) (hlocals : W9 + (maxL + 11) + rm.locals ≤ R.locals)
    (hws : ∀ w ∈ ws, ∀ a' U, s.WarmedH U.vm → w.before a' U = true) (hcode : Cond.code y bytes maxL ret ∈ ws) (hinit : ∀ a' U, s.WarmedH U.vm → (Cond.initialized y.cls).before a' U = true) :
    vx_Back l R p e below s sargs y len W9 (PreOf R mc ms Pc) (PostOf Qc mc ms free) (vx_Post XC mc ms free) := by
  intro m meth c A g ig mk a X hg hsize hdg hW hn hp
  have h1 : (headSpec ws rm).pre.before a A.U = true := atoms_intro fun w hw => hws w hw _ _ X.warmed
  have h2 : (Cond.code y bytes maxL ret).before a A.U = true := hws _ hcode _ _ X.warmed
  have h3 : (Cond.initialized y.cls).before a A.U = true := hinit _ _ X.warmed
  have h4 : A.cells + (headSpec ws rm).room.cells ≤ R.cells := by rw [show (headSpec ws rm).room.cells = mc from hrc]; exact hp.1
  have h5 : A.slots + (headSpec ws rm).room.slots ≤ R.slots := by rw [show (headSpec ws rm).room.slots = ms from hrs]; exact hp.2.1
  have hPc : Pc a (A.U.calling g mk a) := hblind _ _ _ _ hp.2.2
  obtain ⟨U, Ls, c0, s0⟩ := A
  dsimp only [Pt.U, Pt.locs, Pt.cells, Pt.slots] at h1 h2 h3 h4 h5 X hn hPc ⊢
  obtain ⟨methY, cY, hmY, hcY, -, hlY, -, -, -, -⟩ := Cond.code_spec hn h2
  obtain ⟨kY, hkY, -⟩ := className_of_methodNamed hn
  have hinitY : kY.init = .initialized := Cond.initialized_spec (findClass_of_methodNamed hn) hkY h3
  have h : At U g.method c below := by rw [hg]; exact X.here
  have hlocals9 : W9 + (maxL + 11) + (headSpec ws rm).room.locals ≤ R.locals := hlocals
  have happ : (headSpec ws rm).appliesLoose y e.platform (U.calling g mk a) = true :=
    Spec.appliesLoose_calling (g := g) h hdg hn hkY hinitY
      (X.room_calling (g := g) (R' := (headSpec ws rm).room) hsize hmY hcY hframes (by rw [hlY]; omega) h4 h5) h1
  obtain ⟨mid, hmid⟩ := h.above
  have hfr : (U.setTop g).frames = (.java g :: mid) ++ below := by rw [State.frames_setTop' g h.top, hmid]; rfl
  obtain ⟨o, s₂, hsteps, -, hend, hq⟩ := Steps.callFree hM p X.admits X.cas X.clock (acts := []) hfr happ hPc trivial
  have hq' : vx_Q Qc XC mc ms free a (U.calling g mk a) o s₂ := hq
  rw [State.frames_setTop' g h.top] at hend
  obtain ⟨g₀, hg0⟩ := Option.isSome_iff_exists.mp h.top
  obtain ⟨r, hr⟩ := State.topJava?_eq_some.mp hg0
  have hr' : (({ U with heap := s₂.heap, slotsUsed := s₂.slotsUsed } : State).setVm s₂.vm).frames = .java g₀ :: r := hr
  rcases hq' with ⟨hqc, L, hfe, hL⟩ | ⟨q, rfl, E, ce, L, hx, hce, hcv, hcl, hW₂, hsm, hL⟩
  · obtain ⟨⟨v, rfl⟩, hW₂, e2, q2, q3, q4, q5, q6⟩ := id hfe
    have e3 : s₂ = ({ (U.calling g mk a).setFrames s₂.frames with heap := s₂.heap, slotsUsed := s₂.slotsUsed } : State).setVm s₂.vm := by
      have : s₂ = ({ s₂ with vm := (U.calling g mk a).vm } : State).setVm s₂.vm := rfl
      rw [e2] at this
      exact this
    obtain ⟨c₂, i₂, len₂, hc₂, hd₂, hf₂⟩ := hend
    have hW' : U.WarmedH s₂.vm := hW₂
    have hcc : c₂ = c := by
      have h1 : s₂.code? g.method = U.code? g.method := by
        rw [State.code?_eq, State.code?_eq, hW'.alike.method?]
      exact Option.some.inj (hc₂.symm.trans (h1.trans h.code))
    subst hcc
    have hlen : len₂ = len := by rw [hdg] at hd₂; cases hd₂; rfl
    subst hlen
    have hs₂ : s₂ = (({ U with heap := s₂.heap, slotsUsed := s₂.slotsUsed } : State).setVm s₂.vm).setTop { g with pc := g.pc + len₂, stack := v.toList ++ g.stack } := by
      refine e3.trans ?_
      rw [hf₂, State.calling_eq h.top, State.setFrames_setFrames, State.setTop_of_frames _ hr', hr]
      rfl
    have hsame : U.sameButNew ({ U with heap := s₂.heap, slotsUsed := s₂.slotsUsed } : State) L mc ms := by
      refine ⟨?_, q2, q3, q4, q5, q6⟩
      obtain ⟨t, ht, -⟩ := State.frames_cons hr
      show ({ U with heap := s₂.heap, slotsUsed := s₂.slotsUsed } : State) = { U.setFrames U.frames with heap := s₂.heap, slotsUsed := s₂.slotsUsed }
      rw [State.setFrames_self ht]
    subst hg
    refine Or.inl ⟨v, ⟨(({ U with heap := s₂.heap, slotsUsed := s₂.slotsUsed } : State).setVm s₂.vm), Ls ++ L, c0 + mc, s0 + ms⟩,
      ⟨X.admits, X.cas, X.clock, X.frames, X.room, X.hears, X.method, X.code, (X.here.setHeapUsed s₂.heap s₂.slotsUsed).setVm hW'.alike, X.tail, State.WarmedH.trans X.warmed hW', X.limits, X.bytes, X.same.trans (hsame.setVm s.vm)⟩,
      ⟨g, mk, s₂, L, rfl, rfl, hqc, rfl, hL, rfl, rfl⟩, ?_⟩
    show Steps p.tables e below _ ((({ U with heap := s₂.heap, slotsUsed := s₂.slotsUsed } : State).setVm s₂.vm).setTop { g with pc := g.pc + len₂, stack := v.toList ++ g.stack })
    rw [← hs₂]
    exact hsteps
  · obtain ⟨e2, q2, q3, q4, q5, q6⟩ := id hsm
    have e3 : s₂ = ({ (U.calling g mk a).setFrames s₂.frames with heap := s₂.heap, slotsUsed := s₂.slotsUsed } : State).setVm s₂.vm := by
      have : s₂ = ({ s₂ with vm := (U.calling g mk a).vm } : State).setVm s₂.vm := rfl
      rw [e2] at this
      exact this
    have hf₂ : s₂.frames = .throwing q :: .java g :: U.frames.tail := hend
    have hW' : U.WarmedH s₂.vm := hW₂
    have hs₂ : s₂ = ((({ U with heap := s₂.heap, slotsUsed := s₂.slotsUsed } : State).setVm s₂.vm).setTop g).pushFrame (.throwing q) := by
      refine e3.trans ?_
      rw [hf₂, State.calling_eq h.top, State.setFrames_setFrames, State.pushFrame, State.frames_setTop _ hr', State.setTop_of_frames _ hr', State.setFrames_setFrames, hr]
      rfl
    have hsame : U.sameButNew ({ U with heap := s₂.heap, slotsUsed := s₂.slotsUsed } : State) L mc ms := by
      refine ⟨?_, q2, q3, q4, q5, q6⟩
      obtain ⟨t, ht, -⟩ := State.frames_cons hr
      show ({ U with heap := s₂.heap, slotsUsed := s₂.slotsUsed } : State) = { U.setFrames U.frames with heap := s₂.heap, slotsUsed := s₂.slotsUsed }
      rw [State.setFrames_self ht]
    subst hg
    refine Or.inr ⟨q, ⟨(({ U with heap := s₂.heap, slotsUsed := s₂.slotsUsed } : State).setVm s₂.vm), Ls ++ L, c0 + mc, s0 + ms⟩,
      ⟨X.admits, X.cas, X.clock, X.frames, X.room, X.hears, X.method, X.code, (X.here.setHeapUsed s₂.heap s₂.slotsUsed).setVm hW'.alike, X.tail, State.WarmedH.trans X.warmed hW', X.limits, X.bytes, X.same.trans (hsame.setVm s.vm)⟩,
      ⟨g, mk, s₂, L, E, ce, rfl, rfl, hx, hce, hcv, hcl, rfl, hL, rfl, rfl⟩, ?_⟩
    show Steps p.tables e below _ (((({ U with heap := s₂.heap, slotsUsed := s₂.slotsUsed } : State).setVm s₂.vm).setTop g).pushFrame (.throwing q))
    rw [← hs₂]
    exact hsteps
end Payer
section Calls
variable {p : Program} {l : Launch} {e : Env} {R : Room} {s : State} {m : MethodId} {args : Array Value} {below : List Frame} {meth : Method} {c : Code} {T : State} {locs : List Loc} {cells slots : Nat}
theorem vx_callV (X : Stand p l e R s m args below meth c T locs cells slots) (hexec : p.tables.exec = Jvm.exec) {own C : String} {index : Nat} {y : MethodName} {bytes : ByteArray} {maxL : Nat} {ret : Option FieldType}
    (hown : s.vm.findClass own = some m.cls) (hlink : (Cond.methodLink own index y).before args s = true) (hinst : (Cond.instanceMethod y).before args s = true) (hsel : (Cond.selects C y y).before args s = true)
    (hcode : (Cond.code y bytes maxL ret).before args s = true) (hy : y.cls ≠ "java/lang/invoke/MethodHandle" ∧ y.cls ≠ "java/lang/invoke/VarHandle")
    {W9 : Nat} {Pre : Pt → Array Value → Prop} {Post : Pt → Array Value → Option Value → Pt → Prop} {PostX : Pt → Array Value → Addr → Pt → Prop} (hK : vx_Back l R p e below s args y 3 W9 Pre Post PostX)
    {b : Addr} {cellB : Cell} (hcell : T.heap[b]? = some cellB) (hobj : cellB.vm.isStatics = false) (hcls : s.vm.findClass C = some cellB.cls)
    {g : JFrame} (hg : g.method = m) (hsize : g.locals.size = c.maxLocals) {argsL rest : List Value} (hlen : ∀ sig, parseMethodDescriptor y.desc = some sig → argsL.length = sig.parameters.length)
    (hstack : g.stack = argsL.reverse ++ .ref b :: rest) (hW : 2 * g.monitorRoom + (rest.map fun v => v.category).sum ≤ W9) (hdg : decode c.code g.pc = .ok (.invokevirtual index, 3))
    (hpre : ∀ vm₁, s.WarmedH vm₁ → Pre ⟨T.setVm vm₁, locs, cells, slots⟩ (Value.ref b :: argsL).toArray) :
    (∃ (v : Option Value) (vm₁ : Vm) (B : Pt), s.WarmedH vm₁ ∧ Stand p l e R s m args below meth c B.U B.locs B.cells B.slots ∧ Post ⟨T.setVm vm₁, locs, cells, slots⟩ (Value.ref b :: argsL).toArray v B ∧
      ∀ target, Steps p.tables e below (B.U.setTop { g with pc := g.pc + 3, stack := v.toList ++ rest }) target → Steps p.tables e below (T.setTop g) target) ∨
    (∃ (q : Addr) (vm₁ : Vm) (B : Pt), s.WarmedH vm₁ ∧ Stand p l e R s m args below meth c B.U B.locs B.cells B.slots ∧ PostX ⟨T.setVm vm₁, locs, cells, slots⟩ (Value.ref b :: argsL).toArray q B ∧
      Steps p.tables e below (T.setTop g) ((B.U.setTop { g with stack := rest }).pushFrame (.throwing q))) := by
  obtain ⟨mk, methM, hnamed, hmethM, hstM, habM⟩ := Cond.instanceMethod_spec hinst
  obtain ⟨methM', cM, hmethM', -, -, -, -, -, -, hsigM⟩ := Cond.code_spec hnamed hcode
  cases hmethM.symm.trans hmethM'
  obtain ⟨c2, r2, m2, q1, q2, q3, q4, kP, hkP, hkPi⟩ := Cond.selects_spec hsel
  cases hcls.symm.trans q1
  cases (State.methodFound?_of_named hnamed hy).symm.trans q2
  cases hnamed.symm.trans q3
  have hselP : selectMethod e.platform s.vm cellB.cls mk = .method mk := by rw [Launch.admits_selectMethod X.admits]; exact q4
  obtain ⟨vm₁, X₁, hstep₁⟩ := X.invokevirtual hexec hown hlink hnamed hmethM hstM hkP hkPi hy (a := b) (cell := cellB) hcell
    (fun z h => by rw [h] at hobj; cases hobj) hselP hmethM habM hkP hkPi (g := g) hg (argsL := argsL) (rest := rest) (hlen _ hsigM) hstack hdg
  rcases hK m meth c ⟨T.setVm vm₁, locs, cells, slots⟩ { g with stack := rest } (.invokevirtual index) mk (Value.ref b :: argsL).toArray X₁ hg hsize hdg hW (X₁.named hnamed) (hpre vm₁ X₁.warmed) with ⟨v, B, X', hpost, hsteps⟩ | ⟨q, B, X', hpost, hsteps⟩
  · exact Or.inl ⟨v, vm₁, B, X₁.warmed, X', hpost, fun target h => hstep₁ _ fun acts => by rw [doInvoke_state]; exact hsteps.trans h⟩
  · exact Or.inr ⟨q, vm₁, B, X₁.warmed, X', hpost, hstep₁ _ fun acts => by rw [doInvoke_state]; exact hsteps⟩
theorem vx_callS (X : Stand p l e R s m args below meth c T locs cells slots) (hexec : p.tables.exec = Jvm.exec) {own : String} {index : Nat} {y : MethodName} {bytes : ByteArray} {maxL : Nat} {ret : Option FieldType}
    (hown : s.vm.findClass own = some m.cls) (hlink : (Cond.methodLink own index y).before args s = true) (hstat : (Cond.static y).before args s = true) (hinit : (Cond.initialized y.cls).before args s = true)
    (hcode : (Cond.code y bytes maxL ret).before args s = true) (hy : y.cls ≠ "java/lang/invoke/MethodHandle" ∧ y.cls ≠ "java/lang/invoke/VarHandle")
    {W9 : Nat} {Pre : Pt → Array Value → Prop} {Post : Pt → Array Value → Option Value → Pt → Prop} {PostX : Pt → Array Value → Addr → Pt → Prop} (hK : vx_Back l R p e below s args y 3 W9 Pre Post PostX)
    {g : JFrame} (hg : g.method = m) (hsize : g.locals.size = c.maxLocals) {argsL rest : List Value} (hlen : ∀ sig, parseMethodDescriptor y.desc = some sig → argsL.length = sig.parameters.length)
    (hstack : g.stack = argsL.reverse ++ rest) (hW : 2 * g.monitorRoom + (rest.map fun v => v.category).sum ≤ W9) (hdg : decode c.code g.pc = .ok (.invokestatic index, 3))
    (hpre : ∀ vm₁, s.WarmedH vm₁ → Pre ⟨T.setVm vm₁, locs, cells, slots⟩ argsL.toArray) :
    (∃ (v : Option Value) (vm₁ : Vm) (B : Pt), s.WarmedH vm₁ ∧ Stand p l e R s m args below meth c B.U B.locs B.cells B.slots ∧ Post ⟨T.setVm vm₁, locs, cells, slots⟩ argsL.toArray v B ∧
      ∀ target, Steps p.tables e below (B.U.setTop { g with pc := g.pc + 3, stack := v.toList ++ rest }) target → Steps p.tables e below (T.setTop g) target) ∨
    (∃ (q : Addr) (vm₁ : Vm) (B : Pt), s.WarmedH vm₁ ∧ Stand p l e R s m args below meth c B.U B.locs B.cells B.slots ∧ PostX ⟨T.setVm vm₁, locs, cells, slots⟩ argsL.toArray q B ∧
      Steps p.tables e below (T.setTop g) ((B.U.setTop { g with stack := rest }).pushFrame (.throwing q))) := by
  obtain ⟨mk, hnamed⟩ := Cond.code_named hcode
  obtain ⟨methM, cM, hmethM, -, -, -, -, -, -, hsigM⟩ := Cond.code_spec hnamed hcode
  have hstatic : methM.isStatic = true := Cond.static_spec hnamed hmethM hstat
  obtain ⟨kP, hkP, -⟩ := className_of_methodNamed hnamed
  have hinitP : kP.init = .initialized := Cond.initialized_spec (findClass_of_methodNamed hnamed) hkP hinit
  obtain ⟨vm₁, X₁, hstep₁⟩ := X.invokestatic hexec hown hlink hnamed hmethM hstatic hkP hinitP hy (g := g) hg (argsL := argsL) (rest := rest) (hlen _ hsigM) hstack hdg
  rcases hK m meth c ⟨T.setVm vm₁, locs, cells, slots⟩ { g with stack := rest } (.invokestatic index) mk argsL.toArray X₁ hg hsize hdg hW (X₁.named hnamed) (hpre vm₁ X₁.warmed) with ⟨v, B, X', hpost, hsteps⟩ | ⟨q, B, X', hpost, hsteps⟩
  · exact Or.inl ⟨v, vm₁, B, X₁.warmed, X', hpost, fun target h => hstep₁ _ fun acts => by rw [doInvoke_state]; exact hsteps.trans h⟩
  · exact Or.inr ⟨q, vm₁, B, X₁.warmed, X', hpost, hstep₁ _ fun acts => by rw [doInvoke_state]; exact hsteps⟩
end Calls
theorem vx_cls {s : State} {T : State} {vm₁ : Vm} {E : String} {k : ClassId} (hW : s.WarmedH vm₁) (h : (T.setVm vm₁).vm.findClass E = some k) : s.vm.findClass E = some k := by
  have h1 : vm₁.findClass E = some k := h
  rw [hW.alike.findClass] at h1
  exact h1
/-- the method's frame g, with q thrown over it -/
def vx_W (p : Program) (l : Launch) (e : Env) (R : Room) (s : State) (m : MethodId) (args : Array Value) (below : List Frame) (meth : Method) (c : Code) (H : Heap) (locs : List Loc) (cells slots : Nat) (Q : State → Prop) (g : JFrame) (q : Addr) : Prop :=
  ∀ T : State, T.heap = H → Stand p l e R s m args below meth c T locs cells slots → ∃ t, Steps p.tables e below ((T.setTop g).pushFrame (.throwing q)) t ∧ Q t
def vx_Run (p : Program) (l : Launch) (e : Env) (R : Room) (s : State) (m : MethodId) (args : Array Value) (below : List Frame) (meth : Method) (c : Code) (H : Heap) (locs : List Loc) (cells slots mc ms : Nat) (g : JFrame) (rest : List Value) (Qa : State → Outcome → State → Prop) (XC : String → State → State → Prop) (free : Addr → Prop) : Prop :=
  ∀ T : State, T.heap = H → Stand p l e R s m args below meth c T locs cells slots →
    (∃ (v : Option Value) (st₀ t T' : State) (L : List Loc), st₀.heap = H ∧ Stand p l e R s m args below meth c T' (locs ++ L) (cells + mc) (slots + ms) ∧ (∀ q ∈ L, free q.base) ∧ T'.heap = t.heap ∧ T'.vm = t.vm ∧ Qa st₀ (.returned v) t ∧
      Goes p e below T g T' { g with pc := g.pc + 3, stack := v.toList ++ rest }) ∨
    (∃ (q : Addr) (st₀ t T' : State) (L : List Loc) (E : String) (ce : Cell), st₀.heap = H ∧ Stand p l e R s m args below meth c T' (locs ++ L) (cells + mc) (slots + ms) ∧ (∀ z ∈ L, free z.base) ∧ T'.heap = t.heap ∧ T'.vm = t.vm ∧ XC E st₀ t ∧ t.heap[q]? = some ce ∧ ce.vm = .none ∧ s.vm.findClass E = some ce.cls ∧
      Steps p.tables e below (T.setTop g) ((T'.setTop { g with stack := rest }).pushFrame (.throwing q)))
def vx_X {S : Type} (px : S → Prop) (B : String → S → State → Prop) (A : Nat → Prop) : String → State → State → Prop := fun E st t => ∃ u : S, px u ∧ B E u t ∧ va_F A st t
section Runs
variable {p : Program} {l : Launch} {e : Env} {R : Room} {s : State} {m : MethodId} {args : Array Value} {below : List Frame} {meth : Method} {c : Code} {H : Heap} {locs : List Loc} {cells slots : Nat}
variable {y : MethodName} {bytes cc : ByteArray} {maxL nL mc ms n index : Nat} {ret : Option FieldType} {ws : List Cond} {rm : Room} {Pc : Array Value → State → Prop} {Qc : Array Value → State → Outcome → State → Prop} {XC : String → State → State → Prop} {free : Addr → Prop} {Ts : List Cond} {own C : String} {b : Addr} {As rest : List Value} {g : JFrame}
theorem vx_callBack (cb : CallB R s args own index y bytes maxL ret ws rm mc ms n) (hM : vx_Met l y ws rm Pc Qc XC mc ms free) (hbl : FrameBlind Pc) : vx_Back l R p e below s args y 3 8 (PreOf R mc ms Pc) (PostOf Qc mc ms free) (vx_Post XC mc ms free) := by
  obtain ⟨hrc, hrs, hfr, hlo, hws, hcw, -, hini, -⟩ := cb
  exact vx_back (bytes := bytes) (maxL := maxL) (ret := ret) hM hbl hrc hrs hfr hlo hws hcw (fun a' U hW => word_at hW (Or.inl (by first | rfl | simp [Cond.onTables, Cond.keeps, Cond.steady])) hini)
theorem vx_runV (S : CallFix p m c cc nL s args Ts own) (hM : vx_Met l y ws rm Pc Qc XC mc ms free) (cw : CallW R s args own C index y bytes maxL ret ws rm mc ms n) (hp : PreV s H C b Pc As)
    (hg : g.method = m) (hn : As.length = n) (hsize : g.locals.size = nL) (hstack : g.stack = As.reverse ++ .ref b :: rest) (hW : 2 * g.monitorRoom + (rest.map fun v => v.category).sum ≤ 8) (hdg : decode cc g.pc = .ok (.invokevirtual index, 3)) (hf : cells + mc ≤ R.cells ∧ slots + ms ≤ R.slots) :
    vx_Run p l e R s m args below meth c H locs cells slots mc ms g rest (Qc (Value.ref b :: As).toArray) XC free := by
  have hK : vx_Back l R p e below s args y 3 8 (PreOf R mc ms Pc) (PostOf Qc mc ms free) (vx_Post XC mc ms free) := vx_callBack cw.1 hM hp.1
  obtain ⟨⟨-, -, -, -, -, -, hcode, -, hy, hlen, hl⟩, hin, hse⟩ := cw
  obtain ⟨hx, hb, hml, ho, -⟩ := S
  obtain ⟨-, ⟨cellB, hcB, hoB, hclB⟩, hPc⟩ := hp
  intro T hT X
  rcases vx_callV X hx (C := C) (bytes := bytes) (maxL := maxL) (ret := ret) ho hl hin hse hcode hy hK (by rw [hT]; exact hcB) hoB hclB hg (hsize.trans hml.symm) (argsL := As) (rest := rest) (fun sig h => hn.trans (hlen sig h)) hstack hW (by rw [hb]; exact hdg)
    (fun vm₁ hW₁ => ⟨hf.1, hf.2, hPc (T.setVm vm₁) hT hW₁⟩) with ⟨v, vm₁, ⟨U', l2, c2, s2⟩, hW₁, X', ⟨g', mk, t, L, e1, e2, hq, h1, hL, h2, h3⟩, st⟩ | ⟨q, vm₁, ⟨U', l2, c2, s2⟩, hW₁, X', ⟨g', mk, t, L, E, ce, e1, e2, hq, hce, hcv, hcl, h1, hL, h2, h3⟩, st⟩
  · dsimp only [Pt.U, Pt.locs, Pt.cells, Pt.slots] at X' e1 e2 h1 h2 h3 st
    subst h1; subst h2; subst h3
    exact Or.inl ⟨v, (T.setVm vm₁).calling g' mk (Value.ref b :: As).toArray, t, U', L, hT, X', hL, e1, e2, hq, st⟩
  · dsimp only [Pt.U, Pt.locs, Pt.cells, Pt.slots] at X' e1 e2 h1 h2 h3 st hcl
    subst h1; subst h2; subst h3
    exact Or.inr ⟨q, (T.setVm vm₁).calling g' mk (Value.ref b :: As).toArray, t, U', L, E, ce, hT, X', hL, e1, e2, hq, hce, hcv, vx_cls hW₁ hcl, st⟩
theorem vx_runS (S : CallFix p m c cc nL s args Ts own) (hM : vx_Met l y ws rm Pc Qc XC mc ms free) (cw : CallB R s args own index y bytes maxL ret ws rm mc ms n ∧ (Cond.static y).before args s = true) (hp : PreS s H Pc As)
    (hg : g.method = m) (hn : As.length = n) (hsize : g.locals.size = nL) (hstack : g.stack = As.reverse ++ rest) (hW : 2 * g.monitorRoom + (rest.map fun v => v.category).sum ≤ 8) (hdg : decode cc g.pc = .ok (.invokestatic index, 3)) (hf : cells + mc ≤ R.cells ∧ slots + ms ≤ R.slots) :
    vx_Run p l e R s m args below meth c H locs cells slots mc ms g rest (Qc As.toArray) XC free := by
  have hK : vx_Back l R p e below s args y 3 8 (PreOf R mc ms Pc) (PostOf Qc mc ms free) (vx_Post XC mc ms free) := vx_callBack cw.1 hM hp.1
  obtain ⟨⟨-, -, -, -, -, -, hcode, hini, hy, hlen, hl⟩, hstt⟩ := cw
  obtain ⟨hx, hb, hml, ho, -⟩ := S
  intro T hT X
  rcases vx_callS X hx (bytes := bytes) (maxL := maxL) (ret := ret) ho hl hstt hini hcode hy hK hg (hsize.trans hml.symm) (argsL := As) (rest := rest) (fun sig h => hn.trans (hlen sig h)) hstack hW (by rw [hb]; exact hdg)
    (fun vm₁ hW₁ => ⟨hf.1, hf.2, hp.2 (T.setVm vm₁) hT hW₁⟩) with ⟨v, vm₁, ⟨U', l2, c2, s2⟩, hW₁, X', ⟨g', mk, t, L, e1, e2, hq, h1, hL, h2, h3⟩, st⟩ | ⟨q, vm₁, ⟨U', l2, c2, s2⟩, hW₁, X', ⟨g', mk, t, L, E, ce, e1, e2, hq, hce, hcv, hcl, h1, hL, h2, h3⟩, st⟩
  · dsimp only [Pt.U, Pt.locs, Pt.cells, Pt.slots] at X' e1 e2 h1 h2 h3 st
    subst h1; subst h2; subst h3
    exact Or.inl ⟨v, (T.setVm vm₁).calling g' mk As.toArray, t, U', L, hT, X', hL, e1, e2, hq, st⟩
  · dsimp only [Pt.U, Pt.locs, Pt.cells, Pt.slots] at X' e1 e2 h1 h2 h3 st hcl
    subst h1; subst h2; subst h3
    exact Or.inr ⟨q, (T.setVm vm₁).calling g' mk As.toArray, t, U', L, E, ce, hT, X', hL, e1, e2, hq, hce, hcv, vx_cls hW₁ hcl, st⟩
end Runs
section Rows
variable {p : Program} {l : Launch} {e : Env} {R : Room} {s : State} {m : MethodId} {args : Array Value} {below : List Frame} {meth : Method} {c : Code} {H : Heap} {locs : List Loc} {cells slots : Nat} {Q : State → Prop}
variable {mc ms : Nat} {free : Addr → Prop} {A0 A1 : Nat → Prop} {H0 : Heap} {a : Array Value} {pc : Nat} {ls : Array Slot} {st0 rest : List Value}
theorem vx_keep {st₀ t T' : State} {L : List Loc} (h0 : st₀.heap = H) (e1 : T'.heap = t.heap) (hS : va_S A0 H0 H locs) (hA : ∀ q, q < H.size → A1 q → A0 q) (hf : ∀ q, free q → A0 q) (hL : ∀ q ∈ L, free q.base) (hF : va_F A1 st₀ t) :
    H.size ≤ T'.heap.size ∧ (∀ q : Nat, q < H.size → ¬ A1 q → T'.heap[q]? = H[q]?) ∧ va_S A0 H0 T'.heap (locs ++ L) := by
  obtain ⟨hz, hk⟩ := hF
  rw [h0] at hz hk
  exact ⟨by rw [e1]; exact hz, fun q h1 h2 => by rw [e1]; exact hk q h1 h2,
    ⟨Nat.le_trans hS.1 (by rw [e1]; exact hz), fun q h1 h2 => by rw [e1, hk q (Nat.lt_of_lt_of_le h1 hS.1) (fun z => h2 (hA q (Nat.lt_of_lt_of_le h1 hS.1) z))]; exact hS.2.1 q h1 h2, fun q hq => by
      rcases List.mem_append.mp hq with h | h
      · exact hS.2.2 q h
      · exact hf _ (hL q h)⟩⟩
theorem vx_calli {S SX : Type} {post : Int32 → S → Prop} {px : SX → Prop} {B : S → State → Prop} {BX : String → SX → State → Prop} {AX : Nat → Prop} (hr : vx_Run p l e R s m args below meth c H locs cells slots mc ms (F0 m pc ls st0) rest (va_Qi post B A1 a) (vx_X px BX AX) free) (hS : va_S A0 H0 H locs) (hA : ∀ q, q < H.size → A1 q → A0 q) (hf : ∀ q, free q → A0 q) (hAX : ∀ q, q < H.size → AX q → A0 q)
    (kx : ∀ (E : String) (ce : Cell) (q9 : Addr) (u : SX) (t : State) (H1 : Heap) (locs1 : List Loc), t.heap = H1 → s.vm.Alike t.vm → px u → BX E u t → H.size ≤ H1.size → (∀ q : Nat, q < H.size → ¬ AX q → H1[q]? = H[q]?) → va_S A0 H0 H1 locs1 → H1[q9]? = some ce → ce.vm = .none → s.vm.findClass E = some ce.cls → vx_W p l e R s m args below meth c H1 locs1 (cells + mc) (slots + ms) Q (F0 m pc ls rest) q9)
    (kk : ∀ (r : Int32) (u : S) (t : State) (H1 : Heap) (locs1 : List Loc), t.heap = H1 → s.vm.Alike t.vm → post r u → B u t → H.size ≤ H1.size → (∀ q : Nat, q < H.size → ¬ A1 q → H1[q]? = H[q]?) → va_S A0 H0 H1 locs1 → W p l e R s m args below meth c H1 locs1 (cells + mc) (slots + ms) Q (F0 m (pc + 3) ls (.int r :: rest))) : W p l e R s m args below meth c H locs cells slots Q (F0 m pc ls st0) := by
  intro T hT X
  rcases hr T hT X with ⟨v, st₀, t, T', L, h0, X', hL, e1, e2, ⟨⟨r, u, hv, hp, hb⟩, hF⟩, st⟩ | ⟨q, st₀, t, T', L, E, ce, h0, X', hL, e1, e2, ⟨u, hp, hb, hF⟩, hce, hcv, hcl, st⟩
  · cases hv
    obtain ⟨k1, k2, k3⟩ := vx_keep h0 e1 hS hA hf hL hF
    obtain ⟨t2, a1, b1⟩ := kk r u t T'.heap (locs ++ L) e1.symm (by rw [← e2]; exact X'.warmed.alike) hp hb k1 k2 k3 T' rfl X'
    exact ⟨t2, st t2 a1, b1⟩
  · obtain ⟨k1, k2, k3⟩ := vx_keep h0 e1 hS hAX hf hL hF
    obtain ⟨t2, a1, b1⟩ := kx E ce q u t T'.heap (locs ++ L) e1.symm (by rw [← e2]; exact X'.warmed.alike) hp hb k1 k2 k3 (by rw [e1]; exact hce) hcv hcl T' rfl X'
    exact ⟨t2, st.trans a1, b1⟩
theorem vx_calll {S SX : Type} {post : Int64 → S → Prop} {px : SX → Prop} {B : S → State → Prop} {BX : String → SX → State → Prop} {AX : Nat → Prop} (hr : vx_Run p l e R s m args below meth c H locs cells slots mc ms (F0 m pc ls st0) rest (va_Ql post B A1 a) (vx_X px BX AX) free) (hS : va_S A0 H0 H locs) (hA : ∀ q, q < H.size → A1 q → A0 q) (hf : ∀ q, free q → A0 q) (hAX : ∀ q, q < H.size → AX q → A0 q)
    (kx : ∀ (E : String) (ce : Cell) (q9 : Addr) (u : SX) (t : State) (H1 : Heap) (locs1 : List Loc), t.heap = H1 → s.vm.Alike t.vm → px u → BX E u t → H.size ≤ H1.size → (∀ q : Nat, q < H.size → ¬ AX q → H1[q]? = H[q]?) → va_S A0 H0 H1 locs1 → H1[q9]? = some ce → ce.vm = .none → s.vm.findClass E = some ce.cls → vx_W p l e R s m args below meth c H1 locs1 (cells + mc) (slots + ms) Q (F0 m pc ls rest) q9)
    (kk : ∀ (r : Int64) (u : S) (t : State) (H1 : Heap) (locs1 : List Loc), t.heap = H1 → s.vm.Alike t.vm → post r u → B u t → H.size ≤ H1.size → (∀ q : Nat, q < H.size → ¬ A1 q → H1[q]? = H[q]?) → va_S A0 H0 H1 locs1 → W p l e R s m args below meth c H1 locs1 (cells + mc) (slots + ms) Q (F0 m (pc + 3) ls (.long r :: rest))) : W p l e R s m args below meth c H locs cells slots Q (F0 m pc ls st0) := by
  intro T hT X
  rcases hr T hT X with ⟨v, st₀, t, T', L, h0, X', hL, e1, e2, ⟨⟨r, u, hv, hp, hb⟩, hF⟩, st⟩ | ⟨q, st₀, t, T', L, E, ce, h0, X', hL, e1, e2, ⟨u, hp, hb, hF⟩, hce, hcv, hcl, st⟩
  · cases hv
    obtain ⟨k1, k2, k3⟩ := vx_keep h0 e1 hS hA hf hL hF
    obtain ⟨t2, a1, b1⟩ := kk r u t T'.heap (locs ++ L) e1.symm (by rw [← e2]; exact X'.warmed.alike) hp hb k1 k2 k3 T' rfl X'
    exact ⟨t2, st t2 a1, b1⟩
  · obtain ⟨k1, k2, k3⟩ := vx_keep h0 e1 hS hAX hf hL hF
    obtain ⟨t2, a1, b1⟩ := kx E ce q u t T'.heap (locs ++ L) e1.symm (by rw [← e2]; exact X'.warmed.alike) hp hb k1 k2 k3 (by rw [e1]; exact hce) hcv hcl T' rfl X'
    exact ⟨t2, st.trans a1, b1⟩
theorem vx_callf {S SX : Type} {post : UInt32 → S → Prop} {px : SX → Prop} {B : S → State → Prop} {BX : String → SX → State → Prop} {AX : Nat → Prop} (hr : vx_Run p l e R s m args below meth c H locs cells slots mc ms (F0 m pc ls st0) rest (va_Qf post B A1 a) (vx_X px BX AX) free) (hS : va_S A0 H0 H locs) (hA : ∀ q, q < H.size → A1 q → A0 q) (hf : ∀ q, free q → A0 q) (hAX : ∀ q, q < H.size → AX q → A0 q)
    (kx : ∀ (E : String) (ce : Cell) (q9 : Addr) (u : SX) (t : State) (H1 : Heap) (locs1 : List Loc), t.heap = H1 → s.vm.Alike t.vm → px u → BX E u t → H.size ≤ H1.size → (∀ q : Nat, q < H.size → ¬ AX q → H1[q]? = H[q]?) → va_S A0 H0 H1 locs1 → H1[q9]? = some ce → ce.vm = .none → s.vm.findClass E = some ce.cls → vx_W p l e R s m args below meth c H1 locs1 (cells + mc) (slots + ms) Q (F0 m pc ls rest) q9)
    (kk : ∀ (r : UInt32) (u : S) (t : State) (H1 : Heap) (locs1 : List Loc), t.heap = H1 → s.vm.Alike t.vm → post r u → B u t → H.size ≤ H1.size → (∀ q : Nat, q < H.size → ¬ A1 q → H1[q]? = H[q]?) → va_S A0 H0 H1 locs1 → W p l e R s m args below meth c H1 locs1 (cells + mc) (slots + ms) Q (F0 m (pc + 3) ls (.float r :: rest))) : W p l e R s m args below meth c H locs cells slots Q (F0 m pc ls st0) := by
  intro T hT X
  rcases hr T hT X with ⟨v, st₀, t, T', L, h0, X', hL, e1, e2, ⟨⟨r, u, hv, hp, hb⟩, hF⟩, st⟩ | ⟨q, st₀, t, T', L, E, ce, h0, X', hL, e1, e2, ⟨u, hp, hb, hF⟩, hce, hcv, hcl, st⟩
  · cases hv
    obtain ⟨k1, k2, k3⟩ := vx_keep h0 e1 hS hA hf hL hF
    obtain ⟨t2, a1, b1⟩ := kk r u t T'.heap (locs ++ L) e1.symm (by rw [← e2]; exact X'.warmed.alike) hp hb k1 k2 k3 T' rfl X'
    exact ⟨t2, st t2 a1, b1⟩
  · obtain ⟨k1, k2, k3⟩ := vx_keep h0 e1 hS hAX hf hL hF
    obtain ⟨t2, a1, b1⟩ := kx E ce q u t T'.heap (locs ++ L) e1.symm (by rw [← e2]; exact X'.warmed.alike) hp hb k1 k2 k3 (by rw [e1]; exact hce) hcv hcl T' rfl X'
    exact ⟨t2, st.trans a1, b1⟩
theorem vx_calld {S SX : Type} {post : UInt64 → S → Prop} {px : SX → Prop} {B : S → State → Prop} {BX : String → SX → State → Prop} {AX : Nat → Prop} (hr : vx_Run p l e R s m args below meth c H locs cells slots mc ms (F0 m pc ls st0) rest (va_Qd post B A1 a) (vx_X px BX AX) free) (hS : va_S A0 H0 H locs) (hA : ∀ q, q < H.size → A1 q → A0 q) (hf : ∀ q, free q → A0 q) (hAX : ∀ q, q < H.size → AX q → A0 q)
    (kx : ∀ (E : String) (ce : Cell) (q9 : Addr) (u : SX) (t : State) (H1 : Heap) (locs1 : List Loc), t.heap = H1 → s.vm.Alike t.vm → px u → BX E u t → H.size ≤ H1.size → (∀ q : Nat, q < H.size → ¬ AX q → H1[q]? = H[q]?) → va_S A0 H0 H1 locs1 → H1[q9]? = some ce → ce.vm = .none → s.vm.findClass E = some ce.cls → vx_W p l e R s m args below meth c H1 locs1 (cells + mc) (slots + ms) Q (F0 m pc ls rest) q9)
    (kk : ∀ (r : UInt64) (u : S) (t : State) (H1 : Heap) (locs1 : List Loc), t.heap = H1 → s.vm.Alike t.vm → post r u → B u t → H.size ≤ H1.size → (∀ q : Nat, q < H.size → ¬ A1 q → H1[q]? = H[q]?) → va_S A0 H0 H1 locs1 → W p l e R s m args below meth c H1 locs1 (cells + mc) (slots + ms) Q (F0 m (pc + 3) ls (.double r :: rest))) : W p l e R s m args below meth c H locs cells slots Q (F0 m pc ls st0) := by
  intro T hT X
  rcases hr T hT X with ⟨v, st₀, t, T', L, h0, X', hL, e1, e2, ⟨⟨r, u, hv, hp, hb⟩, hF⟩, st⟩ | ⟨q, st₀, t, T', L, E, ce, h0, X', hL, e1, e2, ⟨u, hp, hb, hF⟩, hce, hcv, hcl, st⟩
  · cases hv
    obtain ⟨k1, k2, k3⟩ := vx_keep h0 e1 hS hA hf hL hF
    obtain ⟨t2, a1, b1⟩ := kk r u t T'.heap (locs ++ L) e1.symm (by rw [← e2]; exact X'.warmed.alike) hp hb k1 k2 k3 T' rfl X'
    exact ⟨t2, st t2 a1, b1⟩
  · obtain ⟨k1, k2, k3⟩ := vx_keep h0 e1 hS hAX hf hL hF
    obtain ⟨t2, a1, b1⟩ := kx E ce q u t T'.heap (locs ++ L) e1.symm (by rw [← e2]; exact X'.warmed.alike) hp hb k1 k2 k3 (by rw [e1]; exact hce) hcv hcl T' rfl X'
    exact ⟨t2, st.trans a1, b1⟩
theorem vx_callv {S SX : Type} {post : S → Prop} {px : SX → Prop} {B : S → State → Prop} {BX : String → SX → State → Prop} {AX : Nat → Prop} (hr : vx_Run p l e R s m args below meth c H locs cells slots mc ms (F0 m pc ls st0) rest (va_Qv post B A1 a) (vx_X px BX AX) free) (hS : va_S A0 H0 H locs) (hA : ∀ q, q < H.size → A1 q → A0 q) (hf : ∀ q, free q → A0 q) (hAX : ∀ q, q < H.size → AX q → A0 q)
    (kx : ∀ (E : String) (ce : Cell) (q9 : Addr) (u : SX) (t : State) (H1 : Heap) (locs1 : List Loc), t.heap = H1 → s.vm.Alike t.vm → px u → BX E u t → H.size ≤ H1.size → (∀ q : Nat, q < H.size → ¬ AX q → H1[q]? = H[q]?) → va_S A0 H0 H1 locs1 → H1[q9]? = some ce → ce.vm = .none → s.vm.findClass E = some ce.cls → vx_W p l e R s m args below meth c H1 locs1 (cells + mc) (slots + ms) Q (F0 m pc ls rest) q9)
    (kk : ∀ (u : S) (t : State) (H1 : Heap) (locs1 : List Loc), t.heap = H1 → s.vm.Alike t.vm → post u → B u t → H.size ≤ H1.size → (∀ q : Nat, q < H.size → ¬ A1 q → H1[q]? = H[q]?) → va_S A0 H0 H1 locs1 → W p l e R s m args below meth c H1 locs1 (cells + mc) (slots + ms) Q (F0 m (pc + 3) ls (rest))) : W p l e R s m args below meth c H locs cells slots Q (F0 m pc ls st0) := by
  intro T hT X
  rcases hr T hT X with ⟨v, st₀, t, T', L, h0, X', hL, e1, e2, ⟨⟨u, hv, hp, hb⟩, hF⟩, st⟩ | ⟨q, st₀, t, T', L, E, ce, h0, X', hL, e1, e2, ⟨u, hp, hb, hF⟩, hce, hcv, hcl, st⟩
  · cases hv
    obtain ⟨k1, k2, k3⟩ := vx_keep h0 e1 hS hA hf hL hF
    obtain ⟨t2, a1, b1⟩ := kk u t T'.heap (locs ++ L) e1.symm (by rw [← e2]; exact X'.warmed.alike) hp hb k1 k2 k3 T' rfl X'
    exact ⟨t2, st t2 a1, b1⟩
  · obtain ⟨k1, k2, k3⟩ := vx_keep h0 e1 hS hAX hf hL hF
    obtain ⟨t2, a1, b1⟩ := kx E ce q u t T'.heap (locs ++ L) e1.symm (by rw [← e2]; exact X'.warmed.alike) hp hb k1 k2 k3 (by rw [e1]; exact hce) hcv hcl T' rfl X'
    exact ⟨t2, st.trans a1, b1⟩
/-- caught by the row x of this method's table; the rows ahead don't take it -/
theorem vx_catch {own name : String} {E : String} {ce : Cell} {q : Addr} (hown : s.vm.findClass own = some m.cls) (pre : List ExceptionTableEntry) (x : ExceptionTableEntry) (suf : List ExceptionTableEntry) (hsplit : c.exceptionTable.toList = pre ++ x :: suf)
    (hpass : ∀ z ∈ pre, covers z pc = false ∨ (z.catchType ≠ 0 ∧ ∃ nm : String, (Cond.classLink own z.catchType nm).before args s = true ∧ va_Nc E nm s)) (hx : covers x pc = true) (h0 : x.catchType ≠ 0)
    (hlink : (Cond.classLink own x.catchType name).before args s = true) (hcast : (Cond.castable E name).before args s = true) (hcell : H[q]? = some ce) (hv : ce.vm = .none) (hcl : s.vm.findClass E = some ce.cls)
    (kk : W p l e R s m args below meth c H locs cells slots Q (F0 m x.handlerPc ls [.ref q])) : vx_W p l e R s m args below meth c H locs cells slots Q (F0 m pc ls rest) q := by
  intro T hT X
  have hpl : e.platform.magicAccessors = ({} : Platform).magicAccessors := by rw [X.admits.platform]
  obtain ⟨c3, c4, hc3, hc4, hasg⟩ := Cond.castable_spec hcast
  cases Option.some.inj (hc3.symm.trans hcl)
  obtain ⟨c5, hc5, hcl5⟩ := Cond.classLink_spec hown hlink e.platform hpl
  cases Option.some.inj (hc4.symm.trans hc5)
  obtain ⟨vm', X', st⟩ := Stand.thenCaughtThrough X q (g := F0 m pc ls rest) rfl (Steps.refl _) (by rw [hT]; exact hcell) (by rw [hv]; rfl) (by obtain ⟨k9, h9, -⟩ := Vm.findClass_spec hcl; exact ⟨k9, h9⟩) pre x suf hsplit
    (fun z hz => by
      rcases hpass z hz with h | ⟨hz0, nm, hl1, hn1⟩
      · exact Or.inl h
      · obtain ⟨c6, hc6, hcl6⟩ := Cond.classLink_spec hown hl1 e.platform hpl
        obtain ⟨a8, b8, h1, h2, h3⟩ := hn1
        cases Option.some.inj (h1.symm.trans hcl)
        cases Option.some.inj (h2.symm.trans hc6)
        exact Or.inr ⟨hz0, _, hcl6, h3⟩) hx (Or.inr ⟨h0, c4, hcl5, hasg⟩)
  obtain ⟨t, a1, b1⟩ := kk (T.setVm vm') hT X'
  exact ⟨t, st.trans a1, b1⟩
end Rows
section Ends
variable {p : Program} {l : Launch} {e : Env} {R : Room} {s : State} {m : MethodId} {args : Array Value} {below : List Frame} {meth : Method} {c : Code} {H : Heap} {locs : List Loc} {cells slots : Nat} {Q : State → Prop}
variable {mc ms : Nat} {free : Addr → Prop} {A0 A1 : Nat → Prop} {H0 : Heap} {a : Array Value} {ls : Array Slot} {st0 rest : List Value}
variable {Qc : Array Value → State → Outcome → State → Prop} {XC : String → State → State → Prop}
/-- what a body that may throw owes at its end -/
def vx_MQ (below : List Frame) (Qc : Array Value → State → Outcome → State → Prop) (XC : String → State → State → Prop) (a : Array Value) (s : State) (mc ms : Nat) (free : Addr → Prop) : State → Prop := fun t =>
  ∃ o, t.status = .running ∧ Ended t below o ∧ vx_Q Qc XC mc ms free a s o t
theorem vx_ret {g : JFrame} {mc ms : Nat} (k : W p l e R s m args below meth c H locs cells slots (MQ below Qc args s mc ms free) g) : W p l e R s m args below meth c H locs cells slots (vx_MQ below Qc XC args s mc ms free) g := by
  intro T hT X
  obtain ⟨t, a1, o, b1, b2, b3, b4⟩ := k T hT X
  exact ⟨t, a1, o, b1, b2, Or.inl ⟨b3, b4⟩⟩
/-- not caught here: it goes on to the caller -/
theorem vx_widen {g : JFrame} {q : Addr} {k n : Nat} (h1 : cells ≤ k) (h2 : slots ≤ n) (kk : vx_W p l e R s m args below meth c H locs k n Q g q) : vx_W p l e R s m args below meth c H locs cells slots Q g q := fun T hT X => kk T hT (stand_widen X h1 h2)
theorem vx_out {pc : Nat} {E : String} {ce : Cell} {q : Addr} {mc ms : Nat} (hout : ∀ x ∈ c.exceptionTable.toList, covers x pc = false) (hlocks : meth.locks = false) (hcell : H[q]? = some ce) (hv : ce.vm = .none) (hcl : s.vm.findClass E = some ce.cls)
    (hx : ∀ t : State, t.heap = H → s.vm.Alike t.vm → XC E s t) (hf : ∀ z ∈ locs, free z.base) (hc : cells ≤ mc) (hs : slots ≤ ms) :
    vx_W p l e R s m args below meth c H locs cells slots (vx_MQ below Qc XC args s mc ms free) (F0 m pc ls rest) q := by
  intro T hT X
  obtain ⟨st1, hrun, hend, hW, hsm⟩ := X.leaveThrown q (g := F0 m pc ls rest) rfl rfl rfl hout hlocks
  have hcell9 : (T.setFrames (.throwing q :: below)).heap[q]? = some ce := by
    show T.heap[q]? = some ce
    rw [hT]; exact hcell
  exact ⟨_, st1, .threw q, hrun, hend, Or.inr ⟨q, rfl, E, ce, locs, hx _ hT hW.alike, hcell9, hv, hcl, hW, hsm.mono hc hs, hf⟩⟩
theorem vx_frame {U : State} {k n : Nat} (h : s.sameButNew ({ U with vm := s.vm } : State) locs k n) : s.heap.size ≤ U.heap.size ∧ ∀ q : Nat, q < s.heap.size → (∀ z ∈ locs, z.base ≠ q) → U.heap[q]? = s.heap[q]? := by
  obtain ⟨-, h2, -, -, -, h6⟩ := h
  refine ⟨h2, fun q hq hz => ?_⟩
  obtain ⟨c9, e1, e2, e3, e4⟩ := h6 q _ (Array.getElem?_eq_getElem hq)
  have hs : c9.slots = (s.heap[q]).slots := Array.ext_getElem? fun i => e4 i fun hm => hz _ hm rfl
  have h9 : c9 = s.heap[q] := by
    rw [hs] at e2
    exact e2
  have e5 : U.heap[q]? = some c9 := e1
  rw [e5, h9, Array.getElem?_eq_getElem hq]
/-- the words of a throw but the four that speak of the heap -/
def vx_no (w : Cond) : Bool := decide (w ≠ .isRef (.static Bundle.tN "UNASSIGNED_STACK" Bundle.steD)) && decide (w ≠ .isRef (.static Bundle.tN "SUPPRESSED_SENTINEL" Bundle.listD)) && decide (w ≠ .laysStatic Bundle.tN "UNASSIGNED_STACK" Bundle.steD) && decide (w ≠ .laysStatic Bundle.tN "SUPPRESSED_SENTINEL" Bundle.listD)
def vx_at0 (own : String) (ic : Nat) (X : String) (names : List String) : List Cond := (Bundle.ownAtoms0 own ic X names).filter vx_no
def vx_atS (own : String) (ic : Nat) (X : String) (names : List String) : List Cond := (Bundle.ownAtoms own ic X names).filter vx_no
/-- a word that the tables alone decide, or a good one -/
def vx_ot (w : Cond) : Bool := w.onTables || goodWord w
theorem vx_ot_at {args a' : Array Value} {s U : State} {w : Cond} (hW : s.WarmedH U.vm) (hvm : s.vm = U.vm) (hg : vx_ot w = true) (h : w.before args s = true) : w.before a' U = true := by
  simp only [vx_ot, Bool.or_eq_true] at hg
  rcases hg with hg | hg
  · exact va_tabs hg hvm h
  · exact word_at hW (good_of_word hg) h
/-- a list's words: the good ones out of the method's own list, the others by premises of their own -/
theorem vx_hat {args : Array Value} {s : State} {L B : List Cond} (h1 : ∀ w ∈ L.filter goodWord, w.before args s = true) (h2 : ∀ w ∈ L.filter (fun w => !goodWord w), w ∈ B) (h3 : ∀ w ∈ B, w.before args s = true) : ∀ w ∈ L, w.before args s = true := by
  intro w hw
  by_cases g : goodWord w = true
  · exact h1 w (List.mem_filter.mpr ⟨hw, g⟩)
  · refine h3 w (h2 w (List.mem_filter.mpr ⟨hw, ?_⟩))
    show (!goodWord w) = true
    cases hgw : goodWord w
    · rfl
    · exact absurd hgw g
theorem vx_c {args : Array Value} {s : State} {w : Cond} {B : List Cond} (h : w.before args s = true) (t : ∀ w ∈ B, w.before args s = true) : ∀ w' ∈ w :: B, w'.before args s = true := fun w' h' => (List.mem_cons.mp h').elim (fun e => by rw [e]; exact h) (t w')
theorem vx_n {args : Array Value} {s : State} : ∀ w ∈ ([] : List Cond), w.before args s = true := fun _ h => nomatch h
theorem vx_own {args : Array Value} {s : State} {L : List Cond} (h1 : ∀ w ∈ L.filter vx_no, w.before args s = true)
    (hU : (Cond.isRef (.static Bundle.tN "UNASSIGNED_STACK" Bundle.steD)).before args s = true) (hN : (Cond.isRef (.static Bundle.tN "SUPPRESSED_SENTINEL" Bundle.listD)).before args s = true)
    (lU : (Cond.laysStatic Bundle.tN "UNASSIGNED_STACK" Bundle.steD).before args s = true) (lN : (Cond.laysStatic Bundle.tN "SUPPRESSED_SENTINEL" Bundle.listD).before args s = true) : ∀ w ∈ L, w.before args s = true := by
  intro w hw
  by_cases e1 : w = .isRef (.static Bundle.tN "UNASSIGNED_STACK" Bundle.steD)
  · rw [e1]; exact hU
  · by_cases e2 : w = .isRef (.static Bundle.tN "SUPPRESSED_SENTINEL" Bundle.listD)
    · rw [e2]; exact hN
    · by_cases e3 : w = .laysStatic Bundle.tN "UNASSIGNED_STACK" Bundle.steD
      · rw [e3]; exact lU
      · by_cases e4 : w = .laysStatic Bundle.tN "SUPPRESSED_SENTINEL" Bundle.listD
        · rw [e4]; exact lN
        · exact h1 w (List.mem_filter.mpr ⟨hw, by unfold vx_no; rw [decide_eq_true e1, decide_eq_true e2, decide_eq_true e3, decide_eq_true e4]; rfl⟩)
/-- where a static field lies, its class's statics cell in H -/
def vx_L (C n d : String) (A : Nat → Prop) (U : State) (H : Heap) : Prop := ∃ (c : ClassId) (k : Class) (i : Nat) (f : Field) (a : Nat) (cell : Cell), U.vm.findClass C = some c ∧ U.fieldFound? C n d = some (c, k, i, f) ∧ f.isStatic = true ∧ k.statics = some a ∧ H[a]? = some cell ∧ cell.vm.isStatics = true ∧ cell.cls = c ∧ f.slot < cell.slots.size ∧ k.staticTypes[f.slot]? = some f.type ∧ ¬ A a
theorem vx_L.moved {C n d : String} {A : Nat → Prop} {u U : State} {H : Heap} (hvm : u.vm.Alike U.vm) (h : vx_L C n d A u H) : vx_L C n d A U H := by
  obtain ⟨c, k, i, f, a, cell, h1, h2, h3, h4, h5, h6, h7, h8, h9, h10⟩ := h
  obtain ⟨k', hi', he⟩ := State.fieldFound?_setVm hvm h2
  exact ⟨c, k', i, f, a, cell, by rw [hvm.findClass]; exact h1, hi', h3, by rw [he]; exact h4, h5, h6, h7, h8, by rw [he]; exact h9, h10⟩
theorem vx_L.kept {C n d : String} {A : Nat → Prop} {U : State} {H H1 : Heap} (h : vx_L C n d A U H) (hq : ∀ a : Nat, a < H.size → ¬ A a → H1[a]? = H[a]?) : vx_L C n d A U H1 := by
  obtain ⟨c, k, i, f, a, cell, h1, h2, h3, h4, h5, h6, h7, h8, h9, h10⟩ := h
  exact ⟨c, k, i, f, a, cell, h1, h2, h3, h4, by rw [hq a (Array.getElem?_eq_some_iff.mp h5).1 h10]; exact h5, h6, h7, h8, h9, h10⟩
theorem vx_L.narrow {C n d : String} {A B : Nat → Prop} {U : State} {H : Heap} (h : vx_L C n d A U H) (hAB : ∀ q, B q → A q) : vx_L C n d B U H := by
  obtain ⟨c, k, i, f, a, cell, h1, h2, h3, h4, h5, h6, h7, h8, h9, h10⟩ := h
  exact ⟨c, k, i, f, a, cell, h1, h2, h3, h4, h5, h6, h7, h8, h9, fun z => h10 (hAB _ z)⟩
theorem vx_L.word {C n d : String} {A : Nat → Prop} {s : State} {args : Array Value} (h : vx_L C n d A s s.heap) : (Cond.laysStatic C n d).before args s = true := by
  obtain ⟨c, k, i, f, a, cell, h1, h2, h3, h4, h5, h6, h7, h8, h9, -⟩ := h
  show (Cond.laysStatic C n d).holds args s none s [] = true
  exact Cond.laysStatic_of h1 h2 h3 h4 h5 h6 h7 h8 h9
/-- .. and what it holds: null or some reference -/
def vx_Zq (C n d : String) (A : Nat → Prop) (U : State) (H : Heap) : Prop := va_Zq C n d A U H ∧ vx_L C n d A U H
theorem vx_Zq.moved {C n d : String} {A : Nat → Prop} {u U : State} {H : Heap} (hvm : u.vm.Alike U.vm) (h : vx_Zq C n d A u H) : vx_Zq C n d A U H := ⟨va_Zq.moved hvm h.1, vx_L.moved hvm h.2⟩
theorem vx_Zq.kept {C n d : String} {A : Nat → Prop} {U : State} {H H1 : Heap} (h : vx_Zq C n d A U H) (hq : ∀ a : Nat, a < H.size → ¬ A a → H1[a]? = H[a]?) : vx_Zq C n d A U H1 := ⟨va_Zq.kept h.1 hq, vx_L.kept h.2 hq⟩
theorem vx_Zq.narrow {C n d : String} {A B : Nat → Prop} {U : State} {H : Heap} (h : vx_Zq C n d A U H) (hAB : ∀ q, B q → A q) : vx_Zq C n d B U H := ⟨va_Zq.narrow h.1 hAB, vx_L.narrow h.2 hAB⟩
theorem vx_Zqof {args : Array Value} {s : State} {C n d : String} {A : Nat → Prop} (hl : (Cond.laysStatic C n d).before args s = true) (hini : (Cond.initialized C).before args s = true) (h : (Cond.isRef (.static C n d)).before args s = true) (hA : ∀ a : Nat, a < s.heap.size → ¬ A a) : vx_Zq C n d A s s.heap := by
  refine ⟨va_Zqof hl hini h hA, ?_⟩
  obtain ⟨c, k, i, f, a, cell, h1, h2, h3, h4, h5, h6, h7, h8, h9⟩ := Cond.laysStatic_spec hl
  exact ⟨c, k, i, f, a, cell, h1, h2, h3, h4, h5, h6, h7, h8, h9, hA a (Array.getElem?_eq_some_iff.mp h5).1⟩
theorem vx_isRef {C n d : String} {v : Value} {A : Nat → Prop} {s : State} {args : Array Value} (h : va_Z C n d v A s s.heap) (hv : v.isRef = true) : (Cond.isRef (.static C n d)).before args s = true := by
  obtain ⟨cf, kf, fi, f, a, cell, h1, h2, h3, h4, h5, h6, h7, -⟩ := h
  have he : (Term.static C n d).eval args s none [] s = some v := by
    simp [Term.eval, State.fieldNamed?, h1, h2, h4, h5, h6, h7]
  simp only [Cond.before, Cond.holds, Cond.value, he]
  cases v <;> simp_all [Value.isRef]
theorem vx_isRefq {C n d : String} {A : Nat → Prop} {s : State} {args : Array Value} (h : va_Zq C n d A s s.heap) : (Cond.isRef (.static C n d)).before args s = true := by
  rcases h with h | ⟨t, h⟩
  · exact vx_isRef h rfl
  · exact vx_isRef h rfl
/-- the same frame, seen from here: as if the method were called anew in this heap -/
theorem vx_rebase {T : State} (X : Stand p l e R s m args below meth c T locs cells slots) {R' : Room} (hf : R'.frames ≤ R.frames) (hl : R'.locals ≤ R.locals) (hc : cells + R'.cells ≤ R.cells) (hs : slots + R'.slots ≤ R.slots) :
    Stand p l e R' ((T.setVm s.vm).setFrames (.invoking m args :: below)) m args below meth c T [] 0 0 := by
  have htop : (T.setVm s.vm).topJava?.isSome := X.here.top
  have hF : ((T.setVm s.vm).setFrames (.invoking m args :: below)).frames = .invoking m args :: below := State.frames_setFrames _ (State.cur_lt_of_top htop)
  obtain ⟨g₀, hg0⟩ := Option.isSome_iff_exists.mp htop
  obtain ⟨r, hr⟩ := State.topJava?_eq_some.mp hg0
  have hl9 : e.platform.stackLimits (T.setVm s.vm).me = e.platform.stackLimits s.me := X.limits
  have hb9 : (T.setVm s.vm).me.stackBytes = s.me.stackBytes := X.bytes
  refine ⟨X.admits, X.cas, X.clock, hF, ?_, X.hears, X.method, X.code, X.here, X.tail, X.warmed, ?_, ?_, ?_⟩
  · have h := X.room
    have hU : ((T.setVm s.vm).setFrames (.invoking m args :: below)).localsInUse = s.localsInUse := by
      rw [State.localsInUse_invoking hF (meth := meth) (c := c) X.method X.code, State.localsInUse_invoking X.frames X.method X.code]
    simp only [State.hasRoom, Bool.and_eq_true, decide_eq_true_eq] at h ⊢
    obtain ⟨⟨⟨⟨h1, h2, h3, h4, h5, h6⟩, h7⟩, h8⟩, h9⟩ := h
    rw [X.frames, List.length_cons] at h2 h3
    have q1 := X.heapSize
    have q2 := X.used
    simp only [hF, hU, List.length_cons, State.stackLimits_setFrames, State.stackBytes_setFrames, hl9, hb9]
    refine ⟨⟨⟨⟨by omega, by omega, by omega, by omega, by omega, h6⟩, ?_⟩, ?_⟩, X.book⟩
    · show T.heap.size + R'.cells ≤ e.platform.maxCells
      omega
    · show T.slotsUsed + R'.slots ≤ e.platform.maxSlots
      omega
  · rw [State.stackLimits_setFrames]; rfl
  · rw [State.stackBytes_setFrames]; rfl
  · refine ⟨?_, Nat.le_refl _, Nat.le_refl _, ?_, ?_, fun a c9 h9 => ⟨c9, h9, rfl, rfl, fun _ _ => rfl⟩⟩
    · obtain ⟨t, ht, -⟩ := State.frames_cons hr
      show T.setVm s.vm = { ((T.setVm s.vm).setFrames (.invoking m args :: below)).setFrames (T.setVm s.vm).frames with heap := T.heap, slotsUsed := T.slotsUsed }
      rw [State.setFrames_setFrames, State.setFrames_self ht]
      rfl
    · show T.slotsUsed = T.slotsUsed + ((T.heap.toList.drop T.heap.size).map (·.slots.size)).sum
      rw [List.drop_eq_nil_of_le (Nat.le_of_eq Array.length_toList)]
      rfl
    · show ((T.heap.toList.drop T.heap.size).map (·.slots.size)).sum ≤ 0
      rw [List.drop_eq_nil_of_le (Nat.le_of_eq Array.length_toList)]
      exact Nat.le_refl _
/-- 'throw new E()': new; dup; invokespecial; athrow -/
theorem vx_throw0 {cc : ByteArray} {pc : Nat} (hexec : p.tables.exec = Jvm.exec) (hb : c.code = cc) (hl : l.stackTraces = false) {own cls : String} {names : List String} {ik ic mc ms : Nat} {A : Nat → Prop}
    (hown : s.vm.findClass own = some m.cls) (hcls : Bundle.fit cls = true) (hnames : ∀ n ∈ names, Bundle.fit n = true)
    (hk : (Cond.classLink own ik cls).before args s = true) (hini : (Cond.initialized cls).before args s = true) (hat : ∀ w ∈ vx_at0 own ic cls names, w.before args s = true)
    (hgood : ∀ w ∈ Cond.classLink own ik cls :: Cond.initialized cls :: vx_at0 own ic cls names, vx_ot w = true)
    (hU : vx_Zq Bundle.tN "UNASSIGNED_STACK" Bundle.steD A s s.heap) (hN : vx_Zq Bundle.tN "SUPPRESSED_SENTINEL" Bundle.listD A s s.heap) (hS : va_S A s.heap H locs) (hsize : ls.size = c.maxLocals)
    (d0 : decode cc pc = .ok (.new ik, 3)) (d3 : decode cc (pc + 3) = .ok (.dup, 1)) (d4 : decode cc (pc + 4) = .ok (.invokespecial ic, 3)) (d7 : decode cc (pc + 7) = .ok (.athrow, 1))
    (hout : ∀ x ∈ c.exceptionTable.toList, covers x (pc + 7) = false)
    (hRframes : names.length + 3 < R.frames) (hRlocals : (rest.map fun v => v.category).sum + (13 * (names.length + 1) + 42) ≤ R.locals) (hRcells : cells + 1 ≤ R.cells) (hRslots : slots + 6 ≤ R.slots) (hlocks : meth.locks = false)
    (hx : ∀ t : State, s.vm.Alike t.vm → H.size ≤ t.heap.size → (∀ q : Nat, q < H.size → t.heap[q]? = H[q]?) → XC cls s t)
    (hf : ∀ z ∈ locs, free z.base) (hc : cells + 1 ≤ mc) (hs : slots + 6 ≤ ms) :
    W p l e R s m args below meth c H locs cells slots (vx_MQ below Qc XC args s mc ms free) (F0 m pc ls rest) := by
  intro T hT X
  have htr : e.platform.stackTraces = false := (show e.platform.stackTraces = l.stackTraces by rw [X.admits.platform]).trans hl
  have Y := vx_rebase X (R' := { frames := R.frames, locals := R.locals, cells := 1, slots := 6 }) (Nat.le_refl _) (Nat.le_refl _) hRcells hRslots
  obtain ⟨s', hA⟩ : ∃ z, z = (T.setVm s.vm).setFrames (.invoking m args :: below) := ⟨_, rfl⟩
  rw [← hA] at Y
  have hvm : s'.vm = s.vm := by rw [hA]; rfl
  have hhp : s'.heap = H := by rw [hA]; exact hT
  have hW0 : s.WarmedH s'.vm := by rw [hvm]; exact State.WarmedH.refl s
  have hat' : ∀ w ∈ vx_at0 own ic cls names, w.before args s' = true := fun w hw => vx_ot_at hW0 hvm.symm (hgood w (List.mem_cons_of_mem _ (List.mem_cons_of_mem _ hw))) (hat w hw)
  have hk' : (Cond.classLink own ik cls).before args s' = true := vx_ot_at hW0 hvm.symm (hgood _ List.mem_cons_self) hk
  have hini' : (Cond.initialized cls).before args s' = true := vx_ot_at hW0 hvm.symm (hgood _ (List.mem_cons_of_mem _ List.mem_cons_self)) hini
  have hU' : vx_Zq Bundle.tN "UNASSIGNED_STACK" Bundle.steD A s' s'.heap := by rw [hhp]; exact vx_Zq.moved hW0.alike (hU.kept hS.2.1)
  have hN' : vx_Zq Bundle.tN "SUPPRESSED_SENTINEL" Bundle.listD A s' s'.heap := by rw [hhp]; exact vx_Zq.moved hW0.alike (hN.kept hS.2.1)
  have h : ∀ w ∈ Bundle.ownAtoms0 own ic cls names, w.before args s' = true := vx_own hat' (vx_isRefq hU'.1) (vx_isRefq hN'.1) hU'.2.word hN'.2.word
  have hown' : s'.vm.findClass own = some m.cls := by rw [hvm]; exact hown
  have hins : (Cond.instantiable cls 6).before args s' = true := h _ (by simp [Bundle.ownAtoms0])
  obtain ⟨vm₁, cX, kX, hfX, hkX, -, -, X₁, st1⟩ := Y.newCold hexec (own := own) (C := cls) (index := ik) (n := 6) hown' hk' hins hini'
    (g := F0 m pc ls rest) rfl (by rw [hb]; exact d0) (Nat.le_refl _) (Nat.le_refl _)
  generalize hT1 : (T.setVm vm₁).pushCell { cls := cX, slots := kX.instanceTypes.map defaultValue, vm := .none } = T1 at X₁ st1
  have hcat : (Value.ref T.heap.size).category = 1 := rfl
  have hcellA : T1.heap[T.heap.size]? = some (freshCell cX kX) := by rw [← hT1]; exact State.heap_pushCell_size _ _
  have d3' : decode c.code (pc + 3) = .ok (.dup, 1) := by rw [hb]; exact d3
  obtain ⟨U, hsteps, hrun, hend, hW, hsame, ce, hce, hO⟩ := X₁.ctorThrow0 hexec htr (own := own) (cls := cls) (names := names) (ic := ic) hown' hcls hnames h (fun x hx => nomatch hx) hfX hkX hcellA (by rw [hhp, hT]; exact Nat.le_refl _)
    (g := { method := m, pc := pc + 4, locals := ls, stack := .ref T.heap.size :: .ref T.heap.size :: rest, locked := none }) rfl hsize rfl rfl (rest := rest) rfl
    (by rw [hb]; exact d4) (by rw [hb]; exact d7) hout hRframes (by simp only [List.map_cons, List.sum_cons, hcat]; omega) hlocks
  obtain ⟨f1, f2⟩ := vx_frame hsame
  rw [hhp] at f1 f2
  have hWs : s.WarmedH U.vm := State.WarmedH.trans hW0 hW
  have hcl : s.vm.findClass cls = some ce.cls := by
    have h9 := hO.cls
    rw [hvm] at h9
    exact h9
  have hall : s.sameButNew ({ U with vm := s.vm } : State) locs mc ms := by
    subst hA
    obtain ⟨e1, e2⟩ := hsame
    rw [State.setFrames_setFrames] at e1
    have h2 : (T.setVm s.vm).sameButNew ({ U with vm := s.vm } : State) [] (0 + 1) (0 + 6) := ⟨e1, e2⟩
    have h3 := X.same.trans h2
    rw [List.append_nil] at h3
    exact h3.mono hc hs
  refine ⟨U, ?_, .threw T.heap.size, hrun, hend, Or.inr ⟨T.heap.size, rfl, cls, ce, locs, hx U hWs.alike f1 (fun q hq => f2 q hq (fun z hz => nomatch hz)), hce, hO.vm, hcl, hWs, hall, hf⟩⟩
  refine st1 _ ?_
  show Steps p.tables e below (T1.setTop { method := m, pc := pc + 3, locals := ls, stack := .ref T.heap.size :: rest, locked := none }) _
  jvm_step X₁.here [X₁.here.top, hexec, d3', Value.category]
  exact hsteps
/-- 'throw new E("text")': new; dup; ldc; invokespecial; athrow -/
theorem vx_throwS {cc : ByteArray} {pc : Nat} (hexec : p.tables.exec = Jvm.exec) (hb : c.code = cc) (hl : l.stackTraces = false) {own cls text : String} {names : List String} {ik is ic mc ms sa : Nat} {A : Nat → Prop}
    (hown : s.vm.findClass own = some m.cls) (hcls : Bundle.fit cls = true) (hnames : ∀ n ∈ names, Bundle.fit n = true)
    (hk : (Cond.classLink own ik cls).before args s = true) (hini : (Cond.initialized cls).before args s = true) (hstr : vk_R own is text sa s) (hat : ∀ w ∈ vx_atS own ic cls names, w.before args s = true)
    (hgood : ∀ w ∈ Cond.classLink own ik cls :: Cond.initialized cls :: vx_atS own ic cls names, vx_ot w = true)
    (hU : vx_Zq Bundle.tN "UNASSIGNED_STACK" Bundle.steD A s s.heap) (hN : vx_Zq Bundle.tN "SUPPRESSED_SENTINEL" Bundle.listD A s s.heap) (hS : va_S A s.heap H locs) (hsize : ls.size = c.maxLocals)
    (d0 : decode cc pc = .ok (.new ik, 3)) (d3 : decode cc (pc + 3) = .ok (.dup, 1)) (d4 : decode cc (pc + 4) = .ok (.ldc is, 2)) (d6 : decode cc (pc + 6) = .ok (.invokespecial ic, 3)) (d9 : decode cc (pc + 9) = .ok (.athrow, 1))
    (hout : ∀ x ∈ c.exceptionTable.toList, covers x (pc + 9) = false)
    (hRframes : names.length + 3 < R.frames) (hRlocals : (rest.map fun v => v.category).sum + (13 * (names.length + 1) + 43) ≤ R.locals) (hRcells : cells + 1 ≤ R.cells) (hRslots : slots + 6 ≤ R.slots) (hlocks : meth.locks = false)
    (hx : ∀ t : State, s.vm.Alike t.vm → H.size ≤ t.heap.size → (∀ q : Nat, q < H.size → t.heap[q]? = H[q]?) → XC cls s t)
    (hf : ∀ z ∈ locs, free z.base) (hc : cells + 1 ≤ mc) (hs : slots + 6 ≤ ms) :
    W p l e R s m args below meth c H locs cells slots (vx_MQ below Qc XC args s mc ms free) (F0 m pc ls rest) := by
  intro T hT X
  have htr : e.platform.stackTraces = false := (show e.platform.stackTraces = l.stackTraces by rw [X.admits.platform]).trans hl
  have Y := vx_rebase X (R' := { frames := R.frames, locals := R.locals, cells := 1, slots := 6 }) (Nat.le_refl _) (Nat.le_refl _) hRcells hRslots
  obtain ⟨s', hA⟩ : ∃ z, z = (T.setVm s.vm).setFrames (.invoking m args :: below) := ⟨_, rfl⟩
  rw [← hA] at Y
  have hvm : s'.vm = s.vm := by rw [hA]; rfl
  have hhp : s'.heap = H := by rw [hA]; exact hT
  have hW0 : s.WarmedH s'.vm := by rw [hvm]; exact State.WarmedH.refl s
  have hat' : ∀ w ∈ vx_atS own ic cls names, w.before args s' = true := fun w hw => vx_ot_at hW0 hvm.symm (hgood w (List.mem_cons_of_mem _ (List.mem_cons_of_mem _ hw))) (hat w hw)
  have hk' : (Cond.classLink own ik cls).before args s' = true := vx_ot_at hW0 hvm.symm (hgood _ List.mem_cons_self) hk
  have hini' : (Cond.initialized cls).before args s' = true := vx_ot_at hW0 hvm.symm (hgood _ (List.mem_cons_of_mem _ List.mem_cons_self)) hini
  have hU' : vx_Zq Bundle.tN "UNASSIGNED_STACK" Bundle.steD A s' s'.heap := by rw [hhp]; exact vx_Zq.moved hW0.alike (hU.kept hS.2.1)
  have hN' : vx_Zq Bundle.tN "SUPPRESSED_SENTINEL" Bundle.listD A s' s'.heap := by rw [hhp]; exact vx_Zq.moved hW0.alike (hN.kept hS.2.1)
  have h : ∀ w ∈ Bundle.ownAtoms own ic cls names, w.before args s' = true := vx_own hat' (vx_isRefq hU'.1) (vx_isRefq hN'.1) hU'.2.word hN'.2.word
  have hown' : s'.vm.findClass own = some m.cls := by rw [hvm]; exact hown
  have hins : (Cond.instantiable cls 6).before args s' = true := h _ (by simp [Bundle.ownAtoms])
  obtain ⟨vm₁, cX, kX, hfX, hkX, -, -, X₁, st1⟩ := Y.newCold hexec (own := own) (C := cls) (index := ik) (n := 6) hown' hk' hins hini'
    (g := F0 m pc ls rest) rfl (by rw [hb]; exact d0) (Nat.le_refl _) (Nat.le_refl _)
  generalize hT1 : (T.setVm vm₁).pushCell { cls := cX, slots := kX.instanceTypes.map defaultValue, vm := .none } = T1 at X₁ st1
  have hcat : (Value.ref T.heap.size).category = 1 := rfl
  have hcellA : T1.heap[T.heap.size]? = some (freshCell cX kX) := by rw [← hT1]; exact State.heap_pushCell_size _ _
  have d3' : decode c.code (pc + 3) = .ok (.dup, 1) := by rw [hb]; exact d3
  have d4' : decode c.code (pc + 4) = .ok (.ldc is, 2) := by rw [hb]; exact d4
  have hstr' : vk_R own is text sa s' := vk_R.warm hW0 hstr
  obtain ⟨U, hsteps, hrun, hend, hW, hsame, ce, hce, hO⟩ := X₁.ctorThrowS hexec htr (own := own) (cls := cls) (names := names) (ic := ic) hown' hcls hnames h (fun x hx => nomatch hx) hfX hkX hcellA (by rw [hhp, hT]; exact Nat.le_refl _) (msg := .ref sa) rfl
    (g := { method := m, pc := pc + 6, locals := ls, stack := .ref sa :: .ref T.heap.size :: .ref T.heap.size :: rest, locked := none }) rfl hsize rfl rfl (rest := rest) rfl
    (by rw [hb]; exact d6) (by rw [hb]; exact d9) hout hRframes (by simp only [List.map_cons, List.sum_cons, hcat]; omega) hlocks
  obtain ⟨f1, f2⟩ := vx_frame hsame
  rw [hhp] at f1 f2
  have hWs : s.WarmedH U.vm := State.WarmedH.trans hW0 hW
  have hcl : s.vm.findClass cls = some ce.cls := by
    have h9 := hO.cls
    rw [hvm] at h9
    exact h9
  have hall : s.sameButNew ({ U with vm := s.vm } : State) locs mc ms := by
    subst hA
    obtain ⟨e1, e2⟩ := hsame
    rw [State.setFrames_setFrames] at e1
    have h2 : (T.setVm s.vm).sameButNew ({ U with vm := s.vm } : State) [] (0 + 1) (0 + 6) := ⟨e1, e2⟩
    have h3 := X.same.trans h2
    rw [List.append_nil] at h3
    exact h3.mono hc hs
  refine ⟨U, ?_, .threw T.heap.size, hrun, hend, Or.inr ⟨T.heap.size, rfl, cls, ce, locs, hx U hWs.alike f1 (fun q hq => f2 q hq (fun z hz => nomatch hz)), hce, hO.vm, hcl, hWs, hall, hf⟩⟩
  refine st1 _ ?_
  show Steps p.tables e below (T1.setTop { method := m, pc := pc + 3, locals := ls, stack := .ref T.heap.size :: rest, locked := none }) _
  jvm_step X₁.here [X₁.here.top, hexec, d3', Value.category]
  exact X₁.ldcString hexec (own := own) (text := text) (index := is) (a := sa) hown' hstr'.1 hstr'.2
    (g := { method := m, pc := pc + 4, locals := ls, stack := .ref T.heap.size :: .ref T.heap.size :: rest, locked := none }) rfl d4' _ hsteps
/-- 'throw new E("text")', the text by a wide index -/
theorem vx_throwSW {cc : ByteArray} {pc : Nat} (hexec : p.tables.exec = Jvm.exec) (hb : c.code = cc) (hl : l.stackTraces = false) {own cls text : String} {names : List String} {ik is ic mc ms sa : Nat} {A : Nat → Prop}
    (hown : s.vm.findClass own = some m.cls) (hcls : Bundle.fit cls = true) (hnames : ∀ n ∈ names, Bundle.fit n = true)
    (hk : (Cond.classLink own ik cls).before args s = true) (hini : (Cond.initialized cls).before args s = true) (hstr : vk_R own is text sa s) (hat : ∀ w ∈ vx_atS own ic cls names, w.before args s = true)
    (hgood : ∀ w ∈ Cond.classLink own ik cls :: Cond.initialized cls :: vx_atS own ic cls names, vx_ot w = true)
    (hU : vx_Zq Bundle.tN "UNASSIGNED_STACK" Bundle.steD A s s.heap) (hN : vx_Zq Bundle.tN "SUPPRESSED_SENTINEL" Bundle.listD A s s.heap) (hS : va_S A s.heap H locs) (hsize : ls.size = c.maxLocals)
    (d0 : decode cc pc = .ok (.new ik, 3)) (d3 : decode cc (pc + 3) = .ok (.dup, 1)) (d4 : decode cc (pc + 4) = .ok (.ldc_w is, 3)) (d7 : decode cc (pc + 7) = .ok (.invokespecial ic, 3)) (d10 : decode cc (pc + 10) = .ok (.athrow, 1))
    (hout : ∀ x ∈ c.exceptionTable.toList, covers x (pc + 10) = false)
    (hRframes : names.length + 3 < R.frames) (hRlocals : (rest.map fun v => v.category).sum + (13 * (names.length + 1) + 43) ≤ R.locals) (hRcells : cells + 1 ≤ R.cells) (hRslots : slots + 6 ≤ R.slots) (hlocks : meth.locks = false)
    (hx : ∀ t : State, s.vm.Alike t.vm → H.size ≤ t.heap.size → (∀ q : Nat, q < H.size → t.heap[q]? = H[q]?) → XC cls s t)
    (hf : ∀ z ∈ locs, free z.base) (hc : cells + 1 ≤ mc) (hs : slots + 6 ≤ ms) :
    W p l e R s m args below meth c H locs cells slots (vx_MQ below Qc XC args s mc ms free) (F0 m pc ls rest) := by
  intro T hT X
  have htr : e.platform.stackTraces = false := (show e.platform.stackTraces = l.stackTraces by rw [X.admits.platform]).trans hl
  have Y := vx_rebase X (R' := { frames := R.frames, locals := R.locals, cells := 1, slots := 6 }) (Nat.le_refl _) (Nat.le_refl _) hRcells hRslots
  obtain ⟨s', hA⟩ : ∃ z, z = (T.setVm s.vm).setFrames (.invoking m args :: below) := ⟨_, rfl⟩
  rw [← hA] at Y
  have hvm : s'.vm = s.vm := by rw [hA]; rfl
  have hhp : s'.heap = H := by rw [hA]; exact hT
  have hW0 : s.WarmedH s'.vm := by rw [hvm]; exact State.WarmedH.refl s
  have hat' : ∀ w ∈ vx_atS own ic cls names, w.before args s' = true := fun w hw => vx_ot_at hW0 hvm.symm (hgood w (List.mem_cons_of_mem _ (List.mem_cons_of_mem _ hw))) (hat w hw)
  have hk' : (Cond.classLink own ik cls).before args s' = true := vx_ot_at hW0 hvm.symm (hgood _ List.mem_cons_self) hk
  have hini' : (Cond.initialized cls).before args s' = true := vx_ot_at hW0 hvm.symm (hgood _ (List.mem_cons_of_mem _ List.mem_cons_self)) hini
  have hU' : vx_Zq Bundle.tN "UNASSIGNED_STACK" Bundle.steD A s' s'.heap := by rw [hhp]; exact vx_Zq.moved hW0.alike (hU.kept hS.2.1)
  have hN' : vx_Zq Bundle.tN "SUPPRESSED_SENTINEL" Bundle.listD A s' s'.heap := by rw [hhp]; exact vx_Zq.moved hW0.alike (hN.kept hS.2.1)
  have h : ∀ w ∈ Bundle.ownAtoms own ic cls names, w.before args s' = true := vx_own hat' (vx_isRefq hU'.1) (vx_isRefq hN'.1) hU'.2.word hN'.2.word
  have hown' : s'.vm.findClass own = some m.cls := by rw [hvm]; exact hown
  have hins : (Cond.instantiable cls 6).before args s' = true := h _ (by simp [Bundle.ownAtoms])
  obtain ⟨vm₁, cX, kX, hfX, hkX, -, -, X₁, st1⟩ := Y.newCold hexec (own := own) (C := cls) (index := ik) (n := 6) hown' hk' hins hini'
    (g := F0 m pc ls rest) rfl (by rw [hb]; exact d0) (Nat.le_refl _) (Nat.le_refl _)
  generalize hT1 : (T.setVm vm₁).pushCell { cls := cX, slots := kX.instanceTypes.map defaultValue, vm := .none } = T1 at X₁ st1
  have hcat : (Value.ref T.heap.size).category = 1 := rfl
  have hcellA : T1.heap[T.heap.size]? = some (freshCell cX kX) := by rw [← hT1]; exact State.heap_pushCell_size _ _
  have d3' : decode c.code (pc + 3) = .ok (.dup, 1) := by rw [hb]; exact d3
  have d4' : decode c.code (pc + 4) = .ok (.ldc_w is, 3) := by rw [hb]; exact d4
  have hstr' : vk_R own is text sa s' := vk_R.warm hW0 hstr
  obtain ⟨U, hsteps, hrun, hend, hW, hsame, ce, hce, hO⟩ := X₁.ctorThrowS hexec htr (own := own) (cls := cls) (names := names) (ic := ic) hown' hcls hnames h (fun x hx => nomatch hx) hfX hkX hcellA (by rw [hhp, hT]; exact Nat.le_refl _) (msg := .ref sa) rfl
    (g := { method := m, pc := pc + 7, locals := ls, stack := .ref sa :: .ref T.heap.size :: .ref T.heap.size :: rest, locked := none }) rfl hsize rfl rfl (rest := rest) rfl
    (by rw [hb]; exact d7) (by rw [hb]; exact d10) hout hRframes (by simp only [List.map_cons, List.sum_cons, hcat]; omega) hlocks
  obtain ⟨f1, f2⟩ := vx_frame hsame
  rw [hhp] at f1 f2
  have hWs : s.WarmedH U.vm := State.WarmedH.trans hW0 hW
  have hcl : s.vm.findClass cls = some ce.cls := by
    have h9 := hO.cls
    rw [hvm] at h9
    exact h9
  have hall : s.sameButNew ({ U with vm := s.vm } : State) locs mc ms := by
    subst hA
    obtain ⟨e1, e2⟩ := hsame
    rw [State.setFrames_setFrames] at e1
    have h2 : (T.setVm s.vm).sameButNew ({ U with vm := s.vm } : State) [] (0 + 1) (0 + 6) := ⟨e1, e2⟩
    have h3 := X.same.trans h2
    rw [List.append_nil] at h3
    exact h3.mono hc hs
  refine ⟨U, ?_, .threw T.heap.size, hrun, hend, Or.inr ⟨T.heap.size, rfl, cls, ce, locs, hx U hWs.alike f1 (fun q hq => f2 q hq (fun z hz => nomatch hz)), hce, hO.vm, hcl, hWs, hall, hf⟩⟩
  refine st1 _ ?_
  show Steps p.tables e below (T1.setTop { method := m, pc := pc + 3, locals := ls, stack := .ref T.heap.size :: rest, locked := none }) _
  jvm_step X₁.here [X₁.here.top, hexec, d3', Value.category]
  exact X₁.ldcStringW hexec (own := own) (text := text) (index := is) (a := sa) hown' hstr'.1 hstr'.2
    (g := { method := m, pc := pc + 4, locals := ls, stack := .ref T.heap.size :: .ref T.heap.size :: rest, locked := none }) rfl d4' _ hsteps
end Ends
section Bodies
variable {l : Launch}
theorem vx_ofW {y : MethodName} {ws ws' : List Cond} {rm : Room} {Pc : Array Value → State → Prop} {Qc : Array Value → State → Outcome → State → Prop} {XC : String → State → State → Prop} {mc ms : Nat} {free : Addr → Prop} {cc : ByteArray} {maxL : Nat} {ret : Option FieldType}
    (hy : plainName y.cls = true) (hw : ws = Cond.code y cc maxL ret :: ws')
    (body : ∀ p e s m args below meth c s₁, BodyLoose p l y (headSpec ws rm) cc maxL ret e s m args below meth c s₁ → c.maxLocals = maxL → (∀ x ∈ c.exceptionTable.toList, False) → Pc args s →
      W p l e (headSpec ws rm).room s m args below meth c s.heap [] 0 0 (vx_MQ below Qc XC args s mc ms free) (entryFrame m args maxL)) : vx_Met l y ws rm Pc Qc XC mc ms free := by
  refine MetFree.of_bodyS (code := cc) (maxLocals := maxL) (ret := ret) hy ?_ ?_
  · intro args s m h hn
    obtain ⟨meth, c, h1, h2, h3, h4, h5, h6, -, -⟩ := Cond.code_spec hn (atoms_spec (ws := ws) h _ (by rw [hw]; exact List.mem_cons_self))
    exact ⟨meth, c, h1, h2, h3, h4, h5, h6⟩
  · intro p e s m args below meth c s₁ B hml hP _
    have hh0 : s₁.heap = s.heap := by rw [B.state]; rfl
    have ht : ∀ x ∈ c.exceptionTable.toList, False := by
      obtain ⟨meth9, c9, h1, h2, -, -, -, -, h7, -⟩ := Cond.code_spec B.named (atoms_spec (ws := ws) B.pre _ (by rw [hw]; exact List.mem_cons_self))
      cases Option.some.inj (h1.symm.trans B.method)
      cases Option.some.inj (h2.symm.trans (Stand.of_body B).code)
      intro x hx
      rw [Array.isEmpty_iff.mp h7] at hx
      cases hx
    obtain ⟨t, a1, o, b1, b2, b3⟩ := body p e s m args below meth c s₁ B hml ht hP s₁ hh0 (Stand.of_body B)
    exact ⟨t, o, a1, b1, b2, b3⟩
/-- the table of a body with handlers -/
theorem vx_table {p : Program} {x y : MethodName} {S : Spec} {cc bytes : ByteArray} {maxL maxL' : Nat} {ret ret' : Option FieldType} {e : Env} {s s₁ : State} {m : MethodId} {args : Array Value} {below : List Frame} {meth : Method} {c : Code} {hh : List (Nat × Nat × Nat × Nat)}
    (B : BodyLoose p l y S cc maxL ret e s m args below meth c s₁) (h : (Cond.codeWith y bytes maxL' ret' hh).before args s = true) : c.exceptionTable.toList = tableOf hh := by
  obtain ⟨m9, meth9, c9, hn9, h1, h2, -, -, h6, -⟩ := Cond.codeWith_spec h
  cases Option.some.inj (hn9.symm.trans B.named)
  cases Option.some.inj (h1.symm.trans B.method)
  cases Option.some.inj (h2.symm.trans (Stand.of_body B).code)
  rw [← h6, table_eq]
end Bodies
end VXA
/-! ===== END ===== -/
/-! ===== BEGIN a static call of a method with an exception table ===== -/
section VXS
variable {p : Program} {l : Launch} {e : Env} {R : Room} {s : State} {m : MethodId} {args : Array Value} {below : List Frame} {meth : Method} {c : Code} {T : State} {H : Heap} {locs : List Loc} {cells slots : Nat}
abbrev vx_CSW (R : Room) (s : State) (args : Array Value) (own : String) (index : Nat) (y : MethodName) (bytes : ByteArray) (maxL : Nat) (ret : Option FieldType) (hh : List (Nat × Nat × Nat × Nat)) (ws : List Cond) (rm : Room) (mc ms n : Nat) : Prop :=
  (rm.cells = mc ∧ rm.slots = ms ∧ rm.frames + 1 ≤ R.frames ∧ 8 + (maxL + 11) + rm.locals ≤ R.locals ∧ (∀ w ∈ ws, ∀ (a' : Array Value) (U : State), s.WarmedH U.vm → w.before a' U = true) ∧ Cond.codeWith y bytes maxL ret hh ∈ ws) ∧
  (Cond.codeWith y bytes maxL ret hh).before args s = true ∧ (Cond.initialized y.cls).before args s = true ∧ (y.cls ≠ "java/lang/invoke/MethodHandle" ∧ y.cls ≠ "java/lang/invoke/VarHandle") ∧
  (∀ sig, parseMethodDescriptor y.desc = some sig → n = sig.parameters.length) ∧ (Cond.methodLink own index y).before args s = true ∧ (Cond.static y).before args s = true
theorem vx_cwSW {own : String} {index maxL mc ms : Nat} {y : MethodName} {bytes : ByteArray} {ret : Option FieldType} {hh : List (Nat × Nat × Nat × Nat)} {Ts ws ws' : List Cond} {rm : Room} (n : Nat) (ht : ∀ w ∈ Ts, w.before args s = true) (hT : GoodIn Ts (va_wsS own index y ws)) (hw : ws = Cond.codeWith y bytes maxL ret hh :: ws') (hrc : rm.cells = mc) (hrs : rm.slots = ms)
    (hd : y.cls ≠ "java/lang/invoke/MethodHandle" ∧ y.cls ≠ "java/lang/invoke/VarHandle" ∧ (parseMethodDescriptor y.desc).map (fun d => d.parameters.length) = some n) (hR : rm.frames + 1 ≤ R.frames ∧ 8 + (maxL + 11) + rm.locals ≤ R.locals) :
    vx_CSW R s args own index y bytes maxL ret hh ws rm mc ms n := by
  have ok : ∀ w ∈ va_wsS own index y ws, w.before args s = true := fun w h => ht w (hT w h).1
  have hG : GoodIn Ts ws := fun w h => hT w (by unfold va_wsS; exact List.mem_append_right _ h)
  have hc : Cond.codeWith y bytes maxL ret hh ∈ ws := by rw [hw]; exact List.mem_cons_self
  refine ⟨⟨hrc, hrs, hR.1, hR.2, pay_in ht hG, hc⟩, ht _ (hG _ hc).1, ok _ (by simp [va_wsS]), ⟨hd.1, hd.2.1⟩, fun sig h => ?_, ok _ (by simp [va_wsS]), ok _ (by simp [va_wsS])⟩
  have h2 := hd.2.2
  rw [h] at h2
  exact (Option.some.inj h2).symm
theorem vx_callSW (X : Stand p l e R s m args below meth c T locs cells slots) (hexec : p.tables.exec = Jvm.exec) {own : String} {index : Nat} {y : MethodName} {bytes : ByteArray} {maxL : Nat} {ret : Option FieldType} {hh : List (Nat × Nat × Nat × Nat)}
    (hown : s.vm.findClass own = some m.cls) (hlink : (Cond.methodLink own index y).before args s = true) (hstat : (Cond.static y).before args s = true) (hinit : (Cond.initialized y.cls).before args s = true)
    (hcode : (Cond.codeWith y bytes maxL ret hh).before args s = true) (hy : y.cls ≠ "java/lang/invoke/MethodHandle" ∧ y.cls ≠ "java/lang/invoke/VarHandle")
    {W9 : Nat} {Pre : Pt → Array Value → Prop} {Post : Pt → Array Value → Option Value → Pt → Prop} (hK : Back l R p e below s args y 3 W9 Pre Post)
    {g : JFrame} (hg : g.method = m) (hsize : g.locals.size = c.maxLocals) {argsL rest : List Value} (hlen : ∀ sig, parseMethodDescriptor y.desc = some sig → argsL.length = sig.parameters.length)
    (hstack : g.stack = argsL.reverse ++ rest) (hW : 2 * g.monitorRoom + (rest.map fun v => v.category).sum ≤ W9) (hdg : decode c.code g.pc = .ok (.invokestatic index, 3))
    (hpre : ∀ vm₁, s.WarmedH vm₁ → Pre ⟨T.setVm vm₁, locs, cells, slots⟩ argsL.toArray) :
    ∃ (v : Option Value) (vm₁ : Vm) (B : Pt), s.WarmedH vm₁ ∧ Stand p l e R s m args below meth c B.U B.locs B.cells B.slots ∧ Post ⟨T.setVm vm₁, locs, cells, slots⟩ argsL.toArray v B ∧
      ∀ target, Steps p.tables e below (B.U.setTop { g with pc := g.pc + 3, stack := v.toList ++ rest }) target → Steps p.tables e below (T.setTop g) target := by
  obtain ⟨mk, methM, cM, hnamed, hmethM, -, -, -, -, -, -, hsigM⟩ := Cond.codeWith_spec hcode
  have hstatic : methM.isStatic = true := Cond.static_spec hnamed hmethM hstat
  obtain ⟨kP, hkP, -⟩ := className_of_methodNamed hnamed
  have hinitP : kP.init = .initialized := Cond.initialized_spec (findClass_of_methodNamed hnamed) hkP hinit
  obtain ⟨vm₁, X₁, hstep₁⟩ := X.invokestatic hexec hown hlink hnamed hmethM hstatic hkP hinitP hy (g := g) hg (argsL := argsL) (rest := rest) (hlen _ hsigM) hstack hdg
  obtain ⟨v, B, X', hpost, hsteps⟩ := hK m meth c ⟨T.setVm vm₁, locs, cells, slots⟩ { g with stack := rest } (.invokestatic index) mk argsL.toArray X₁ hg hsize hdg hW (X₁.named hnamed) (hpre vm₁ X₁.warmed)
  exact ⟨v, vm₁, B, X₁.warmed, X', hpost, fun target h => hstep₁ _ fun acts => by rw [doInvoke_state]; exact hsteps.trans h⟩
theorem vx_runSW {y : MethodName} {bytes cc : ByteArray} {maxL nL mc ms n index : Nat} {ret : Option FieldType} {hh : List (Nat × Nat × Nat × Nat)} {ws : List Cond} {rm : Room} {Pc : Array Value → State → Prop} {Qc : Array Value → State → Outcome → State → Prop} {free : Addr → Prop} {Ts : List Cond} {own : String} {As rest : List Value} {g : JFrame}
    (S : CallFix p m c cc nL s args Ts own) (hM : Met l y ws rm Pc Qc mc ms free) (cw : vx_CSW R s args own index y bytes maxL ret hh ws rm mc ms n) (hp : PreS s H Pc As)
    (hg : g.method = m) (hn : As.length = n) (hsize : g.locals.size = nL) (hstack : g.stack = As.reverse ++ rest) (hW : 2 * g.monitorRoom + (rest.map fun v => v.category).sum ≤ 8) (hdg : decode cc g.pc = .ok (.invokestatic index, 3)) (hf : cells + mc ≤ R.cells ∧ slots + ms ≤ R.slots) :
    va_Run p l e R s m args below meth c H locs cells slots mc ms g rest (Qc As.toArray) (free) := by
  obtain ⟨⟨hrc, hrs, hfr, hlo, hws, hcw⟩, hcode, hini, hy, hlen, hl, hstt⟩ := cw
  have hK : Back l R p e below s args y 3 8 (PreOf R mc ms Pc) (PostOf Qc mc ms free) := va_backW (hh := hh) (bytes := bytes) (maxL := maxL) (ret := ret) hM hp.1 hrc hrs hfr hlo hws hcw (fun a' U hW => word_at hW (Or.inl (by first | rfl | simp [Cond.onTables, Cond.keeps, Cond.steady])) hini)
  obtain ⟨hx, hb, hml, ho, -⟩ := S
  intro T hT X
  obtain ⟨v, vm₁, ⟨U', l2, c2, s2⟩, hW₁, X', ⟨g', mk, t, L, e1, e2, hq, h1, hL, h2, h3⟩, st⟩ := vx_callSW X hx (hh := hh) (bytes := bytes) (maxL := maxL) (ret := ret) ho hl hstt hini hcode hy hK hg (hsize.trans hml.symm) (argsL := As) (rest := rest) (fun sig h => hn.trans (hlen sig h)) hstack hW (by rw [hb]; exact hdg)
    (fun vm₁ hW₁ => ⟨hf.1, hf.2, hp.2 (T.setVm vm₁) hT hW₁⟩)
  dsimp only [Pt.U, Pt.locs, Pt.cells, Pt.slots] at X' e1 e2 h1 h2 h3 st
  subst h1; subst h2; subst h3
  exact ⟨v, (T.setVm vm₁).calling g' mk As.toArray, t, U', L, hT, X', hL, e1, e2, hq, st⟩
/-- not caught here, past rows that name other classes: it goes on to the caller -/
theorem vx_outP {p : Program} {l : Launch} {e : Env} {R : Room} {s : State} {m : MethodId} {args : Array Value} {below : List Frame} {meth : Method} {c : Code} {H : Heap} {locs : List Loc} {cells slots : Nat} {free : Addr → Prop} {ls : Array Slot} {rest : List Value} {Qc : Array Value → State → Outcome → State → Prop} {XC : String → State → State → Prop}
    {pc : Nat} {own E : String} {ce : Cell} {q : Addr} {mc ms : Nat} (hown : s.vm.findClass own = some m.cls) (hlocks : meth.locks = false)
    (hpass : ∀ z ∈ c.exceptionTable.toList, covers z pc = false ∨ (z.catchType ≠ 0 ∧ ∃ nm : String, (Cond.classLink own z.catchType nm).before args s = true ∧ va_Nc E nm s)) (hcell : H[q]? = some ce) (hv : ce.vm = .none) (hcl : s.vm.findClass E = some ce.cls)
    (hx : ∀ t : State, t.heap = H → s.vm.Alike t.vm → XC E s t) (hf : ∀ z ∈ locs, free z.base) (hc : cells ≤ mc) (hs : slots ≤ ms) :
    vx_W p l e R s m args below meth c H locs cells slots (vx_MQ below Qc XC args s mc ms free) (F0 m pc ls rest) q := by
  intro T hT X
  have hpl : e.platform.magicAccessors = ({} : Platform).magicAccessors := by rw [X.admits.platform]
  obtain ⟨vm', hW', X', st⟩ := X.outThrough hlocks q (g := F0 m pc ls rest) rfl rfl rfl (cell := ce) (by rw [hT]; exact hcell) (by rw [hv]; rfl)
    (by obtain ⟨k9, h9, -⟩ := Vm.findClass_spec hcl; exact ⟨k9, h9⟩) (fun z hz => by
      rcases hpass z hz with h | ⟨hz0, nm, hl1, hn1⟩
      · exact Or.inl h
      · obtain ⟨c6, hc6, hcl6⟩ := Cond.classLink_spec hown hl1 e.platform hpl
        obtain ⟨a8, b8, h1, h2, h3⟩ := hn1
        cases Option.some.inj (h1.symm.trans hcl)
        cases Option.some.inj (h2.symm.trans hc6)
        exact Or.inr ⟨hz0, _, hcl6, h3⟩)
  obtain ⟨g₀, hfr⟩ := X'.frames_eq
  have hcell9 : ((T.setVm vm').setFrames (.throwing q :: below)).heap[q]? = some ce := by
    show T.heap[q]? = some ce
    rw [hT]; exact hcell
  have hend : Ended ((T.setVm vm').setFrames (.throwing q :: below)) below (.threw q) := State.frames_setFrames _ (State.cur_lt_of_frames hfr)
  refine ⟨(T.setVm vm').setFrames (.throwing q :: below), ?_, .threw q, X'.here.running, hend, Or.inr ⟨q, rfl, E, ce, locs, hx _ hT (X'.ends _).1.alike, hcell9, hv, hcl, (X'.ends _).1, (X'.ends _).2.mono hc hs, hf⟩⟩
  rw [X.pushThrowing_eq]
  exact st
/-- a thing of a world lies in the heap -/
theorem vx_lt {D : va_G} {cl : List vw_C} {ws : va_W} {H1 : Heap} (h : va_P D cl ws H1) {k : Nat} {q : Nat × va_E} (hk : ws[k]? = some q) : q.1 < H1.size := (h k q hk).lt
end VXS
/-! ===== END ===== -/
/-! ===== BEGIN methods with a table of their own: called by a name, returning or throwing ===== -/
section VXH
/-! vx_backW, vx_callVX, vx_callSX, vx_callVW, vx_runVW, vx_runVX, vx_runSX, vx_ofWH follow the same proofs as their sisters above (Free/Laws.lean, Shelf42/LK1.lean); vx_outP calls Shelf42/NT130.lean (outThrough). -/
section
variable {l : Launch} {R : Room} {p : Program} {e : Env} {below : List Frame} {s : State} {sargs : Array Value} {y : MethodName} {len W9 : Nat}
theorem vx_backW {ws : List Cond} {rm : Room} {Pc : Array Value → State → Prop} {Qc : Array Value → State → Outcome → State → Prop} {XC : String → State → State → Prop} {mc ms : Nat} {free : Addr → Prop} {bytes : ByteArray} {maxL : Nat} {ret : Option FieldType} {hh : List (Nat × Nat × Nat × Nat)}
    (hM : vx_Met l y ws rm Pc Qc XC mc ms free) (hblind : FrameBlind Pc) (hrc : rm.cells = mc) (hrs : rm.slots = ms)
    (hframes : rm.frames + 1 ≤ R.frames) (hlocals : W9 + (maxL + 11) + rm.locals ≤ R.locals)
    (hws : ∀ w ∈ ws, ∀ a' U, s.WarmedH U.vm → w.before a' U = true) (hcode : Cond.codeWith y bytes maxL ret hh ∈ ws) (hinit : ∀ a' U, s.WarmedH U.vm → (Cond.initialized y.cls).before a' U = true) :
    vx_Back l R p e below s sargs y len W9 (PreOf R mc ms Pc) (PostOf Qc mc ms free) (vx_Post XC mc ms free) := by
  intro m meth c A g ig mk a X hg hsize hdg hW hn hp
  have h1 : (headSpec ws rm).pre.before a A.U = true := atoms_intro fun w hw => hws w hw _ _ X.warmed
  have h2 : (Cond.codeWith y bytes maxL ret hh).before a A.U = true := hws _ hcode _ _ X.warmed
  have h3 : (Cond.initialized y.cls).before a A.U = true := hinit _ _ X.warmed
  have h4 : A.cells + (headSpec ws rm).room.cells ≤ R.cells := by rw [show (headSpec ws rm).room.cells = mc from hrc]; exact hp.1
  have h5 : A.slots + (headSpec ws rm).room.slots ≤ R.slots := by rw [show (headSpec ws rm).room.slots = ms from hrs]; exact hp.2.1
  have hPc : Pc a (A.U.calling g mk a) := hblind _ _ _ _ hp.2.2
  obtain ⟨U, Ls, c0, s0⟩ := A
  dsimp only [Pt.U, Pt.locs, Pt.cells, Pt.slots] at h1 h2 h3 h4 h5 X hn hPc ⊢
  obtain ⟨m9, methY, cY, hn9, hmY, hcY, -, hlY, -⟩ := Cond.codeWith_spec h2
  cases Option.some.inj (hn9.symm.trans hn)
  obtain ⟨kY, hkY, -⟩ := className_of_methodNamed hn
  have hinitY : kY.init = .initialized := Cond.initialized_spec (findClass_of_methodNamed hn) hkY h3
  have h : At U g.method c below := by rw [hg]; exact X.here
  have hlocals9 : W9 + (maxL + 11) + (headSpec ws rm).room.locals ≤ R.locals := hlocals
  have happ : (headSpec ws rm).appliesLoose y e.platform (U.calling g mk a) = true :=
    Spec.appliesLoose_calling (g := g) h hdg hn hkY hinitY
      (X.room_calling (g := g) (R' := (headSpec ws rm).room) hsize hmY hcY hframes (by rw [hlY]; omega) h4 h5) h1
  obtain ⟨mid, hmid⟩ := h.above
  have hfr : (U.setTop g).frames = (.java g :: mid) ++ below := by rw [State.frames_setTop' g h.top, hmid]; rfl
  obtain ⟨o, s₂, hsteps, -, hend, hq⟩ := Steps.callFree hM p X.admits X.cas X.clock (acts := []) hfr happ hPc trivial
  have hq' : vx_Q Qc XC mc ms free a (U.calling g mk a) o s₂ := hq
  rw [State.frames_setTop' g h.top] at hend
  obtain ⟨g₀, hg0⟩ := Option.isSome_iff_exists.mp h.top
  obtain ⟨r, hr⟩ := State.topJava?_eq_some.mp hg0
  have hr' : (({ U with heap := s₂.heap, slotsUsed := s₂.slotsUsed } : State).setVm s₂.vm).frames = .java g₀ :: r := hr
  rcases hq' with ⟨hqc, L, hfe, hL⟩ | ⟨q, rfl, E, ce, L, hx, hce, hcv, hcl, hW₂, hsm, hL⟩
  · obtain ⟨⟨v, rfl⟩, hW₂, e2, q2, q3, q4, q5, q6⟩ := id hfe
    have e3 : s₂ = ({ (U.calling g mk a).setFrames s₂.frames with heap := s₂.heap, slotsUsed := s₂.slotsUsed } : State).setVm s₂.vm := by
      have : s₂ = ({ s₂ with vm := (U.calling g mk a).vm } : State).setVm s₂.vm := rfl
      rw [e2] at this
      exact this
    obtain ⟨c₂, i₂, len₂, hc₂, hd₂, hf₂⟩ := hend
    have hW' : U.WarmedH s₂.vm := hW₂
    have hcc : c₂ = c := by
      have h1 : s₂.code? g.method = U.code? g.method := by
        rw [State.code?_eq, State.code?_eq, hW'.alike.method?]
      exact Option.some.inj (hc₂.symm.trans (h1.trans h.code))
    subst hcc
    have hlen : len₂ = len := by rw [hdg] at hd₂; cases hd₂; rfl
    subst hlen
    have hs₂ : s₂ = (({ U with heap := s₂.heap, slotsUsed := s₂.slotsUsed } : State).setVm s₂.vm).setTop { g with pc := g.pc + len₂, stack := v.toList ++ g.stack } := by
      refine e3.trans ?_
      rw [hf₂, State.calling_eq h.top, State.setFrames_setFrames, State.setTop_of_frames _ hr', hr]
      rfl
    have hsame : U.sameButNew ({ U with heap := s₂.heap, slotsUsed := s₂.slotsUsed } : State) L mc ms := by
      refine ⟨?_, q2, q3, q4, q5, q6⟩
      obtain ⟨t, ht, -⟩ := State.frames_cons hr
      show ({ U with heap := s₂.heap, slotsUsed := s₂.slotsUsed } : State) = { U.setFrames U.frames with heap := s₂.heap, slotsUsed := s₂.slotsUsed }
      rw [State.setFrames_self ht]
    subst hg
    refine Or.inl ⟨v, ⟨(({ U with heap := s₂.heap, slotsUsed := s₂.slotsUsed } : State).setVm s₂.vm), Ls ++ L, c0 + mc, s0 + ms⟩,
      ⟨X.admits, X.cas, X.clock, X.frames, X.room, X.hears, X.method, X.code, (X.here.setHeapUsed s₂.heap s₂.slotsUsed).setVm hW'.alike, X.tail, State.WarmedH.trans X.warmed hW', X.limits, X.bytes, X.same.trans (hsame.setVm s.vm)⟩,
      ⟨g, mk, s₂, L, rfl, rfl, hqc, rfl, hL, rfl, rfl⟩, ?_⟩
    show Steps p.tables e below _ ((({ U with heap := s₂.heap, slotsUsed := s₂.slotsUsed } : State).setVm s₂.vm).setTop { g with pc := g.pc + len₂, stack := v.toList ++ g.stack })
    rw [← hs₂]
    exact hsteps
  · obtain ⟨e2, q2, q3, q4, q5, q6⟩ := id hsm
    have e3 : s₂ = ({ (U.calling g mk a).setFrames s₂.frames with heap := s₂.heap, slotsUsed := s₂.slotsUsed } : State).setVm s₂.vm := by
      have : s₂ = ({ s₂ with vm := (U.calling g mk a).vm } : State).setVm s₂.vm := rfl
      rw [e2] at this
      exact this
    have hf₂ : s₂.frames = .throwing q :: .java g :: U.frames.tail := hend
    have hW' : U.WarmedH s₂.vm := hW₂
    have hs₂ : s₂ = ((({ U with heap := s₂.heap, slotsUsed := s₂.slotsUsed } : State).setVm s₂.vm).setTop g).pushFrame (.throwing q) := by
      refine e3.trans ?_
      rw [hf₂, State.calling_eq h.top, State.setFrames_setFrames, State.pushFrame, State.frames_setTop _ hr', State.setTop_of_frames _ hr', State.setFrames_setFrames, hr]
      rfl
    have hsame : U.sameButNew ({ U with heap := s₂.heap, slotsUsed := s₂.slotsUsed } : State) L mc ms := by
      refine ⟨?_, q2, q3, q4, q5, q6⟩
      obtain ⟨t, ht, -⟩ := State.frames_cons hr
      show ({ U with heap := s₂.heap, slotsUsed := s₂.slotsUsed } : State) = { U.setFrames U.frames with heap := s₂.heap, slotsUsed := s₂.slotsUsed }
      rw [State.setFrames_self ht]
    subst hg
    refine Or.inr ⟨q, ⟨(({ U with heap := s₂.heap, slotsUsed := s₂.slotsUsed } : State).setVm s₂.vm), Ls ++ L, c0 + mc, s0 + ms⟩,
      ⟨X.admits, X.cas, X.clock, X.frames, X.room, X.hears, X.method, X.code, (X.here.setHeapUsed s₂.heap s₂.slotsUsed).setVm hW'.alike, X.tail, State.WarmedH.trans X.warmed hW', X.limits, X.bytes, X.same.trans (hsame.setVm s.vm)⟩,
      ⟨g, mk, s₂, L, E, ce, rfl, rfl, hx, hce, hcv, hcl, rfl, hL, rfl, rfl⟩, ?_⟩
    show Steps p.tables e below _ (((({ U with heap := s₂.heap, slotsUsed := s₂.slotsUsed } : State).setVm s₂.vm).setTop g).pushFrame (.throwing q))
    rw [← hs₂]
    exact hsteps
end
variable {p : Program} {l : Launch} {e : Env} {R : Room} {s : State} {m : MethodId} {args : Array Value} {below : List Frame} {meth : Method} {c : Code} {T : State} {H : Heap} {locs : List Loc} {cells slots : Nat}
theorem vx_callVX (X : Stand p l e R s m args below meth c T locs cells slots) (hexec : p.tables.exec = Jvm.exec) {own C : String} {index : Nat} {y : MethodName} {bytes : ByteArray} {maxL : Nat} {ret : Option FieldType} {hh : List (Nat × Nat × Nat × Nat)}
    (hown : s.vm.findClass own = some m.cls) (hlink : (Cond.methodLink own index y).before args s = true) (hinst : (Cond.instanceMethod y).before args s = true) (hsel : (Cond.selects C y y).before args s = true)
    (hcode : (Cond.codeWith y bytes maxL ret hh).before args s = true) (hy : y.cls ≠ "java/lang/invoke/MethodHandle" ∧ y.cls ≠ "java/lang/invoke/VarHandle")
    {W9 : Nat} {Pre : Pt → Array Value → Prop} {Post : Pt → Array Value → Option Value → Pt → Prop} {PostX : Pt → Array Value → Addr → Pt → Prop} (hK : vx_Back l R p e below s args y 3 W9 Pre Post PostX)
    {b : Addr} {cellB : Cell} (hcell : T.heap[b]? = some cellB) (hobj : cellB.vm.isStatics = false) (hcls : s.vm.findClass C = some cellB.cls)
    {g : JFrame} (hg : g.method = m) (hsize : g.locals.size = c.maxLocals) {argsL rest : List Value} (hlen : ∀ sig, parseMethodDescriptor y.desc = some sig → argsL.length = sig.parameters.length)
    (hstack : g.stack = argsL.reverse ++ .ref b :: rest) (hW : 2 * g.monitorRoom + (rest.map fun v => v.category).sum ≤ W9) (hdg : decode c.code g.pc = .ok (.invokevirtual index, 3))
    (hpre : ∀ vm₁, s.WarmedH vm₁ → Pre ⟨T.setVm vm₁, locs, cells, slots⟩ (Value.ref b :: argsL).toArray) :
    (∃ (v : Option Value) (vm₁ : Vm) (B : Pt), s.WarmedH vm₁ ∧ Stand p l e R s m args below meth c B.U B.locs B.cells B.slots ∧ Post ⟨T.setVm vm₁, locs, cells, slots⟩ (Value.ref b :: argsL).toArray v B ∧
      ∀ target, Steps p.tables e below (B.U.setTop { g with pc := g.pc + 3, stack := v.toList ++ rest }) target → Steps p.tables e below (T.setTop g) target) ∨
    (∃ (q : Addr) (vm₁ : Vm) (B : Pt), s.WarmedH vm₁ ∧ Stand p l e R s m args below meth c B.U B.locs B.cells B.slots ∧ PostX ⟨T.setVm vm₁, locs, cells, slots⟩ (Value.ref b :: argsL).toArray q B ∧
      Steps p.tables e below (T.setTop g) ((B.U.setTop { g with stack := rest }).pushFrame (.throwing q))) := by
  obtain ⟨mk, methM, hnamed, hmethM, hstM, habM⟩ := Cond.instanceMethod_spec hinst
  obtain ⟨m8, methM', cM, hn8, hmethM', -, -, -, -, -, -, hsigM⟩ := Cond.codeWith_spec hcode
  cases Option.some.inj (hn8.symm.trans hnamed)
  cases hmethM.symm.trans hmethM'
  obtain ⟨c2, r2, m2, q1, q2, q3, q4, kP, hkP, hkPi⟩ := Cond.selects_spec hsel
  cases hcls.symm.trans q1
  cases (State.methodFound?_of_named hnamed hy).symm.trans q2
  cases hnamed.symm.trans q3
  have hselP : selectMethod e.platform s.vm cellB.cls mk = .method mk := by rw [Launch.admits_selectMethod X.admits]; exact q4
  obtain ⟨vm₁, X₁, hstep₁⟩ := X.invokevirtual hexec hown hlink hnamed hmethM hstM hkP hkPi hy (a := b) (cell := cellB) hcell
    (fun z h => by rw [h] at hobj; cases hobj) hselP hmethM habM hkP hkPi (g := g) hg (argsL := argsL) (rest := rest) (hlen _ hsigM) hstack hdg
  rcases hK m meth c ⟨T.setVm vm₁, locs, cells, slots⟩ { g with stack := rest } (.invokevirtual index) mk (Value.ref b :: argsL).toArray X₁ hg hsize hdg hW (X₁.named hnamed) (hpre vm₁ X₁.warmed) with ⟨v, B, X', hpost, hsteps⟩ | ⟨q, B, X', hpost, hsteps⟩
  · exact Or.inl ⟨v, vm₁, B, X₁.warmed, X', hpost, fun target h => hstep₁ _ fun acts => by rw [doInvoke_state]; exact hsteps.trans h⟩
  · exact Or.inr ⟨q, vm₁, B, X₁.warmed, X', hpost, hstep₁ _ fun acts => by rw [doInvoke_state]; exact hsteps⟩
theorem vx_callSX (X : Stand p l e R s m args below meth c T locs cells slots) (hexec : p.tables.exec = Jvm.exec) {own : String} {index : Nat} {y : MethodName} {bytes : ByteArray} {maxL : Nat} {ret : Option FieldType} {hh : List (Nat × Nat × Nat × Nat)}
    (hown : s.vm.findClass own = some m.cls) (hlink : (Cond.methodLink own index y).before args s = true) (hstat : (Cond.static y).before args s = true) (hinit : (Cond.initialized y.cls).before args s = true)
    (hcode : (Cond.codeWith y bytes maxL ret hh).before args s = true) (hy : y.cls ≠ "java/lang/invoke/MethodHandle" ∧ y.cls ≠ "java/lang/invoke/VarHandle")
    {W9 : Nat} {Pre : Pt → Array Value → Prop} {Post : Pt → Array Value → Option Value → Pt → Prop} {PostX : Pt → Array Value → Addr → Pt → Prop} (hK : vx_Back l R p e below s args y 3 W9 Pre Post PostX)
    {g : JFrame} (hg : g.method = m) (hsize : g.locals.size = c.maxLocals) {argsL rest : List Value} (hlen : ∀ sig, parseMethodDescriptor y.desc = some sig → argsL.length = sig.parameters.length)
    (hstack : g.stack = argsL.reverse ++ rest) (hW : 2 * g.monitorRoom + (rest.map fun v => v.category).sum ≤ W9) (hdg : decode c.code g.pc = .ok (.invokestatic index, 3))
    (hpre : ∀ vm₁, s.WarmedH vm₁ → Pre ⟨T.setVm vm₁, locs, cells, slots⟩ argsL.toArray) :
    (∃ (v : Option Value) (vm₁ : Vm) (B : Pt), s.WarmedH vm₁ ∧ Stand p l e R s m args below meth c B.U B.locs B.cells B.slots ∧ Post ⟨T.setVm vm₁, locs, cells, slots⟩ argsL.toArray v B ∧
      ∀ target, Steps p.tables e below (B.U.setTop { g with pc := g.pc + 3, stack := v.toList ++ rest }) target → Steps p.tables e below (T.setTop g) target) ∨
    (∃ (q : Addr) (vm₁ : Vm) (B : Pt), s.WarmedH vm₁ ∧ Stand p l e R s m args below meth c B.U B.locs B.cells B.slots ∧ PostX ⟨T.setVm vm₁, locs, cells, slots⟩ argsL.toArray q B ∧
      Steps p.tables e below (T.setTop g) ((B.U.setTop { g with stack := rest }).pushFrame (.throwing q))) := by
  obtain ⟨mk, methM, cM, hnamed, hmethM, -, -, -, -, -, -, hsigM⟩ := Cond.codeWith_spec hcode
  have hstatic : methM.isStatic = true := Cond.static_spec hnamed hmethM hstat
  obtain ⟨kP, hkP, -⟩ := className_of_methodNamed hnamed
  have hinitP : kP.init = .initialized := Cond.initialized_spec (findClass_of_methodNamed hnamed) hkP hinit
  obtain ⟨vm₁, X₁, hstep₁⟩ := X.invokestatic hexec hown hlink hnamed hmethM hstatic hkP hinitP hy (g := g) hg (argsL := argsL) (rest := rest) (hlen _ hsigM) hstack hdg
  rcases hK m meth c ⟨T.setVm vm₁, locs, cells, slots⟩ { g with stack := rest } (.invokestatic index) mk argsL.toArray X₁ hg hsize hdg hW (X₁.named hnamed) (hpre vm₁ X₁.warmed) with ⟨v, B, X', hpost, hsteps⟩ | ⟨q, B, X', hpost, hsteps⟩
  · exact Or.inl ⟨v, vm₁, B, X₁.warmed, X', hpost, fun target h => hstep₁ _ fun acts => by rw [doInvoke_state]; exact hsteps.trans h⟩
  · exact Or.inr ⟨q, vm₁, B, X₁.warmed, X', hpost, hstep₁ _ fun acts => by rw [doInvoke_state]; exact hsteps⟩
theorem vx_callVW (X : Stand p l e R s m args below meth c T locs cells slots) (hexec : p.tables.exec = Jvm.exec) {own C : String} {index : Nat} {y : MethodName} {bytes : ByteArray} {maxL : Nat} {ret : Option FieldType} {hh : List (Nat × Nat × Nat × Nat)}
    (hown : s.vm.findClass own = some m.cls) (hlink : (Cond.methodLink own index y).before args s = true) (hinst : (Cond.instanceMethod y).before args s = true) (hsel : (Cond.selects C y y).before args s = true)
    (hcode : (Cond.codeWith y bytes maxL ret hh).before args s = true) (hy : y.cls ≠ "java/lang/invoke/MethodHandle" ∧ y.cls ≠ "java/lang/invoke/VarHandle")
    {W9 : Nat} {Pre : Pt → Array Value → Prop} {Post : Pt → Array Value → Option Value → Pt → Prop} (hK : Back l R p e below s args y 3 W9 Pre Post)
    {b : Addr} {cellB : Cell} (hcell : T.heap[b]? = some cellB) (hobj : cellB.vm.isStatics = false) (hcls : s.vm.findClass C = some cellB.cls)
    {g : JFrame} (hg : g.method = m) (hsize : g.locals.size = c.maxLocals) {argsL rest : List Value} (hlen : ∀ sig, parseMethodDescriptor y.desc = some sig → argsL.length = sig.parameters.length)
    (hstack : g.stack = argsL.reverse ++ .ref b :: rest) (hW : 2 * g.monitorRoom + (rest.map fun v => v.category).sum ≤ W9) (hdg : decode c.code g.pc = .ok (.invokevirtual index, 3))
    (hpre : ∀ vm₁, s.WarmedH vm₁ → Pre ⟨T.setVm vm₁, locs, cells, slots⟩ (Value.ref b :: argsL).toArray) :
    ∃ (v : Option Value) (vm₁ : Vm) (B : Pt), s.WarmedH vm₁ ∧ Stand p l e R s m args below meth c B.U B.locs B.cells B.slots ∧ Post ⟨T.setVm vm₁, locs, cells, slots⟩ (Value.ref b :: argsL).toArray v B ∧
      ∀ target, Steps p.tables e below (B.U.setTop { g with pc := g.pc + 3, stack := v.toList ++ rest }) target → Steps p.tables e below (T.setTop g) target := by
  obtain ⟨mk, methM, hnamed, hmethM, hstM, habM⟩ := Cond.instanceMethod_spec hinst
  obtain ⟨m8, methM', cM, hn8, hmethM', -, -, -, -, -, -, hsigM⟩ := Cond.codeWith_spec hcode
  cases Option.some.inj (hn8.symm.trans hnamed)
  cases hmethM.symm.trans hmethM'
  obtain ⟨c2, r2, m2, q1, q2, q3, q4, kP, hkP, hkPi⟩ := Cond.selects_spec hsel
  cases hcls.symm.trans q1
  cases (State.methodFound?_of_named hnamed hy).symm.trans q2
  cases hnamed.symm.trans q3
  have hselP : selectMethod e.platform s.vm cellB.cls mk = .method mk := by rw [Launch.admits_selectMethod X.admits]; exact q4
  obtain ⟨vm₁, X₁, hstep₁⟩ := X.invokevirtual hexec hown hlink hnamed hmethM hstM hkP hkPi hy (a := b) (cell := cellB) hcell
    (fun z h => by rw [h] at hobj; cases hobj) hselP hmethM habM hkP hkPi (g := g) hg (argsL := argsL) (rest := rest) (hlen _ hsigM) hstack hdg
  obtain ⟨v, B, X', hpost, hsteps⟩ := hK m meth c ⟨T.setVm vm₁, locs, cells, slots⟩ { g with stack := rest } (.invokevirtual index) mk (Value.ref b :: argsL).toArray X₁ hg hsize hdg hW (X₁.named hnamed) (hpre vm₁ X₁.warmed)
  exact ⟨v, vm₁, B, X₁.warmed, X', hpost, fun target h => hstep₁ _ fun acts => by rw [doInvoke_state]; exact hsteps.trans h⟩
abbrev vx_CVW (R : Room) (s : State) (args : Array Value) (own C : String) (index : Nat) (y : MethodName) (bytes : ByteArray) (maxL : Nat) (ret : Option FieldType) (hh : List (Nat × Nat × Nat × Nat)) (ws : List Cond) (rm : Room) (mc ms n : Nat) : Prop :=
  (rm.cells = mc ∧ rm.slots = ms ∧ rm.frames + 1 ≤ R.frames ∧ 8 + (maxL + 11) + rm.locals ≤ R.locals ∧ (∀ w ∈ ws, ∀ (a' : Array Value) (U : State), s.WarmedH U.vm → w.before a' U = true) ∧ Cond.codeWith y bytes maxL ret hh ∈ ws) ∧
  (Cond.codeWith y bytes maxL ret hh).before args s = true ∧ (Cond.initialized y.cls).before args s = true ∧ (y.cls ≠ "java/lang/invoke/MethodHandle" ∧ y.cls ≠ "java/lang/invoke/VarHandle") ∧
  (∀ sig, parseMethodDescriptor y.desc = some sig → n = sig.parameters.length) ∧ (Cond.methodLink own index y).before args s = true ∧ (Cond.instanceMethod y).before args s = true ∧ (Cond.selects C y y).before args s = true
theorem vx_cwVW {own C : String} {index maxL mc ms : Nat} {y : MethodName} {bytes : ByteArray} {ret : Option FieldType} {hh : List (Nat × Nat × Nat × Nat)} {Ts ws ws' : List Cond} {rm : Room} (n : Nat) (ht : ∀ w ∈ Ts, w.before args s = true) (hT : GoodIn Ts (wsV own index C y ws)) (hw : ws = Cond.codeWith y bytes maxL ret hh :: ws') (hrc : rm.cells = mc) (hrs : rm.slots = ms)
    (hd : y.cls = C ∧ y.cls ≠ "java/lang/invoke/MethodHandle" ∧ y.cls ≠ "java/lang/invoke/VarHandle" ∧ (parseMethodDescriptor y.desc).map (fun d => d.parameters.length) = some n) (hR : rm.frames + 1 ≤ R.frames ∧ 8 + (maxL + 11) + rm.locals ≤ R.locals) :
    vx_CVW R s args own C index y bytes maxL ret hh ws rm mc ms n := by
  obtain ⟨hC, hd⟩ := hd
  subst hC
  have ok : ∀ w ∈ wsV own index y.cls y ws, w.before args s = true := fun w h => ht w (hT w h).1
  have hG : GoodIn Ts ws := fun w h => hT w (by unfold wsV; exact List.mem_append_right _ h)
  have hc : Cond.codeWith y bytes maxL ret hh ∈ ws := by rw [hw]; exact List.mem_cons_self
  refine ⟨⟨hrc, hrs, hR.1, hR.2, pay_in ht hG, hc⟩, ht _ (hG _ hc).1, ok _ (by simp [wsV]), ⟨hd.1, hd.2.1⟩, fun sig h => ?_, ok _ (by simp [wsV]), ok _ (by simp [wsV]), ok _ (by simp [wsV])⟩
  have h2 := hd.2.2
  rw [h] at h2
  exact (Option.some.inj h2).symm
theorem vx_runVW {y : MethodName} {bytes cc : ByteArray} {maxL nL mc ms n index : Nat} {ret : Option FieldType} {hh : List (Nat × Nat × Nat × Nat)} {ws : List Cond} {rm : Room} {Pc : Array Value → State → Prop} {Qc : Array Value → State → Outcome → State → Prop} {free : Addr → Prop} {Ts : List Cond} {own C : String} {b : Addr} {As rest : List Value} {g : JFrame}
    (S : CallFix p m c cc nL s args Ts own) (hM : Met l y ws rm Pc Qc mc ms free) (cw : vx_CVW R s args own C index y bytes maxL ret hh ws rm mc ms n) (hp : PreV s H C b Pc As)
    (hg : g.method = m) (hn : As.length = n) (hsize : g.locals.size = nL) (hstack : g.stack = As.reverse ++ .ref b :: rest) (hW : 2 * g.monitorRoom + (rest.map fun v => v.category).sum ≤ 8) (hdg : decode cc g.pc = .ok (.invokevirtual index, 3)) (hf : cells + mc ≤ R.cells ∧ slots + ms ≤ R.slots) :
    va_Run p l e R s m args below meth c H locs cells slots mc ms g rest (Qc (Value.ref b :: As).toArray) free := by
  obtain ⟨⟨hrc, hrs, hfr, hlo, hws, hcw⟩, hcode, hini, hy, hlen, hl, hin, hse⟩ := cw
  have hK : Back l R p e below s args y 3 8 (PreOf R mc ms Pc) (PostOf Qc mc ms free) := va_backW (hh := hh) (bytes := bytes) (maxL := maxL) (ret := ret) hM hp.1 hrc hrs hfr hlo hws hcw (fun a' U hW => word_at hW (Or.inl (by first | rfl | simp [Cond.onTables, Cond.keeps, Cond.steady])) hini)
  obtain ⟨hx, hb, hml, ho, -⟩ := S
  obtain ⟨-, ⟨cellB, hcB, hoB, hclB⟩, hPc⟩ := hp
  intro T hT X
  obtain ⟨v, vm₁, ⟨U', l2, c2, s2⟩, hW₁, X', ⟨g', mk, t, L, e1, e2, hq, h1, hL, h2, h3⟩, st⟩ := vx_callVW X hx (C := C) (hh := hh) (bytes := bytes) (maxL := maxL) (ret := ret) ho hl hin hse hcode hy hK (by rw [hT]; exact hcB) hoB hclB hg (hsize.trans hml.symm) (argsL := As) (rest := rest) (fun sig h => hn.trans (hlen sig h)) hstack hW (by rw [hb]; exact hdg)
    (fun vm₁ hW₁ => ⟨hf.1, hf.2, hPc (T.setVm vm₁) hT hW₁⟩)
  dsimp only [Pt.U, Pt.locs, Pt.cells, Pt.slots] at X' e1 e2 h1 h2 h3 st
  subst h1; subst h2; subst h3
  exact ⟨v, (T.setVm vm₁).calling g' mk (Value.ref b :: As).toArray, t, U', L, hT, X', hL, e1, e2, hq, st⟩
section
variable {y : MethodName} {bytes cc : ByteArray} {maxL nL mc ms n index : Nat} {ret : Option FieldType} {ws : List Cond} {rm : Room} {Pc : Array Value → State → Prop} {Qc : Array Value → State → Outcome → State → Prop} {XC : String → State → State → Prop} {free : Addr → Prop} {Ts : List Cond} {own C : String} {b : Addr} {As rest : List Value} {g : JFrame}
theorem vx_runVX {hh : List (Nat × Nat × Nat × Nat)} (S : CallFix p m c cc nL s args Ts own) (hM : vx_Met l y ws rm Pc Qc XC mc ms free) (cw : vx_CVW R s args own C index y bytes maxL ret hh ws rm mc ms n) (hp : PreV s H C b Pc As)
    (hg : g.method = m) (hn : As.length = n) (hsize : g.locals.size = nL) (hstack : g.stack = As.reverse ++ .ref b :: rest) (hW : 2 * g.monitorRoom + (rest.map fun v => v.category).sum ≤ 8) (hdg : decode cc g.pc = .ok (.invokevirtual index, 3)) (hf : cells + mc ≤ R.cells ∧ slots + ms ≤ R.slots) :
    vx_Run p l e R s m args below meth c H locs cells slots mc ms g rest (Qc (Value.ref b :: As).toArray) XC free := by
  obtain ⟨⟨hrc, hrs, hfr, hlo, hws, hcw⟩, hcode, hini, hy, hlen, hl, hin, hse⟩ := cw
  have hK : vx_Back l R p e below s args y 3 8 (PreOf R mc ms Pc) (PostOf Qc mc ms free) (vx_Post XC mc ms free) := vx_backW (hh := hh) (bytes := bytes) (maxL := maxL) (ret := ret) hM hp.1 hrc hrs hfr hlo hws hcw (fun a' U hW => word_at hW (Or.inl (by first | rfl | simp [Cond.onTables, Cond.keeps, Cond.steady])) hini)
  obtain ⟨hx, hb, hml, ho, -⟩ := S
  obtain ⟨-, ⟨cellB, hcB, hoB, hclB⟩, hPc⟩ := hp
  intro T hT X
  rcases vx_callVX X hx (C := C) (hh := hh) (bytes := bytes) (maxL := maxL) (ret := ret) ho hl hin hse hcode hy hK (by rw [hT]; exact hcB) hoB hclB hg (hsize.trans hml.symm) (argsL := As) (rest := rest) (fun sig h => hn.trans (hlen sig h)) hstack hW (by rw [hb]; exact hdg)
    (fun vm₁ hW₁ => ⟨hf.1, hf.2, hPc (T.setVm vm₁) hT hW₁⟩) with ⟨v, vm₁, ⟨U', l2, c2, s2⟩, hW₁, X', ⟨g', mk, t, L, e1, e2, hq, h1, hL, h2, h3⟩, st⟩ | ⟨q, vm₁, ⟨U', l2, c2, s2⟩, hW₁, X', ⟨g', mk, t, L, E, ce, e1, e2, hq, hce, hcv, hcl, h1, hL, h2, h3⟩, st⟩
  · dsimp only [Pt.U, Pt.locs, Pt.cells, Pt.slots] at X' e1 e2 h1 h2 h3 st
    subst h1; subst h2; subst h3
    exact Or.inl ⟨v, (T.setVm vm₁).calling g' mk (Value.ref b :: As).toArray, t, U', L, hT, X', hL, e1, e2, hq, st⟩
  · dsimp only [Pt.U, Pt.locs, Pt.cells, Pt.slots] at X' e1 e2 h1 h2 h3 st hcl
    subst h1; subst h2; subst h3
    exact Or.inr ⟨q, (T.setVm vm₁).calling g' mk (Value.ref b :: As).toArray, t, U', L, E, ce, hT, X', hL, e1, e2, hq, hce, hcv, vx_cls hW₁ hcl, st⟩
theorem vx_runSX {hh : List (Nat × Nat × Nat × Nat)} (S : CallFix p m c cc nL s args Ts own) (hM : vx_Met l y ws rm Pc Qc XC mc ms free) (cw : vx_CSW R s args own index y bytes maxL ret hh ws rm mc ms n) (hp : PreS s H Pc As)
    (hg : g.method = m) (hn : As.length = n) (hsize : g.locals.size = nL) (hstack : g.stack = As.reverse ++ rest) (hW : 2 * g.monitorRoom + (rest.map fun v => v.category).sum ≤ 8) (hdg : decode cc g.pc = .ok (.invokestatic index, 3)) (hf : cells + mc ≤ R.cells ∧ slots + ms ≤ R.slots) :
    vx_Run p l e R s m args below meth c H locs cells slots mc ms g rest (Qc As.toArray) XC free := by
  obtain ⟨⟨hrc, hrs, hfr, hlo, hws, hcw⟩, hcode, hini, hy, hlen, hl, hstt⟩ := cw
  have hK : vx_Back l R p e below s args y 3 8 (PreOf R mc ms Pc) (PostOf Qc mc ms free) (vx_Post XC mc ms free) := vx_backW (hh := hh) (bytes := bytes) (maxL := maxL) (ret := ret) hM hp.1 hrc hrs hfr hlo hws hcw (fun a' U hW => word_at hW (Or.inl (by first | rfl | simp [Cond.onTables, Cond.keeps, Cond.steady])) hini)
  obtain ⟨hx, hb, hml, ho, -⟩ := S
  intro T hT X
  rcases vx_callSX X hx (hh := hh) (bytes := bytes) (maxL := maxL) (ret := ret) ho hl hstt hini hcode hy hK hg (hsize.trans hml.symm) (argsL := As) (rest := rest) (fun sig h => hn.trans (hlen sig h)) hstack hW (by rw [hb]; exact hdg)
    (fun vm₁ hW₁ => ⟨hf.1, hf.2, hp.2 (T.setVm vm₁) hT hW₁⟩) with ⟨v, vm₁, ⟨U', l2, c2, s2⟩, hW₁, X', ⟨g', mk, t, L, e1, e2, hq, h1, hL, h2, h3⟩, st⟩ | ⟨q, vm₁, ⟨U', l2, c2, s2⟩, hW₁, X', ⟨g', mk, t, L, E, ce, e1, e2, hq, hce, hcv, hcl, h1, hL, h2, h3⟩, st⟩
  · dsimp only [Pt.U, Pt.locs, Pt.cells, Pt.slots] at X' e1 e2 h1 h2 h3 st
    subst h1; subst h2; subst h3
    exact Or.inl ⟨v, (T.setVm vm₁).calling g' mk As.toArray, t, U', L, hT, X', hL, e1, e2, hq, st⟩
  · dsimp only [Pt.U, Pt.locs, Pt.cells, Pt.slots] at X' e1 e2 h1 h2 h3 st hcl
    subst h1; subst h2; subst h3
    exact Or.inr ⟨q, (T.setVm vm₁).calling g' mk As.toArray, t, U', L, E, ce, hT, X', hL, e1, e2, hq, hce, hcv, vx_cls hW₁ hcl, st⟩
end
end VXH
theorem vx_ofWH {l : Launch} {y : MethodName} {ws ws' : List Cond} {rm : Room} {Pc : Array Value → State → Prop} {Qc : Array Value → State → Outcome → State → Prop} {XC : String → State → State → Prop} {mc ms : Nat} {free : Addr → Prop} {cc : ByteArray} {maxL : Nat} {ret : Option FieldType} {hh : List (Nat × Nat × Nat × Nat)}
    (hy : plainName y.cls = true) (hw : ws = Cond.codeWith y cc maxL ret hh :: ws')
    (body : ∀ p e s m args below meth c s₁, BodyLoose p l y (headSpec ws rm) cc maxL ret e s m args below meth c s₁ → c.maxLocals = maxL → Pc args s →
      W p l e (headSpec ws rm).room s m args below meth c s.heap [] 0 0 (vx_MQ below Qc XC args s mc ms free) (entryFrame m args maxL)) : vx_Met l y ws rm Pc Qc XC mc ms free := by
  refine MetFree.of_bodyS (code := cc) (maxLocals := maxL) (ret := ret) hy ?_ ?_
  · intro args s m h hn
    obtain ⟨m9, meth, c, hn9, h1, h2, h3, h4, -, h5, h6, -⟩ := Cond.codeWith_spec (atoms_spec (ws := ws) h _ (by rw [hw]; exact List.mem_cons_self))
    cases hn.symm.trans hn9
    exact ⟨meth, c, h1, h2, h3, h4, h5, h6⟩
  · intro p e s m args below meth c s₁ B hml hP _
    have hh0 : s₁.heap = s.heap := by rw [B.state]; rfl
    obtain ⟨t, a1, o, b1, b2, b3⟩ := body p e s m args below meth c s₁ B hml hP s₁ hh0 (Stand.of_body B)
    exact ⟨t, o, a1, b1, b2, b3⟩
/-! ===== END ===== -/
end
section
/-! THE PURE MACHINE. Cells stand in a list; a ref is virtual: 0 is the law's script, i + 1 the i-th cell that was made. -/
abbrev pj_C : Type := (Nat × vp_A) ⊕ (Nat × List Value)
/-- the cells, and whether the heap holds nothing else behind its base -/
abbrev pj_G : Type := List pj_C × Bool
abbrev pj_L : Type := List (Nat × Value)
/-- where the virtual places really are: of cells, of String constants (told as retAddr) -/
abbrev pj_A : Type := (Nat → Nat) × (Nat → Nat)
def pj_ad0 (b base : Nat) : Nat → Nat
  | 0 => b
  | i + 1 => base + i
def pj_ad (b : Nat × (Nat → Nat)) (base : Nat) : pj_A := (pj_ad0 b.1 base, b.2)
def pj_v (ad : pj_A) : Value → Value
  | .ref i => .ref (ad.1 i)
  | .int x => .int x
  | .long x => .long x
  | .float x => .float x
  | .double x => .double x
  | .null => .null
  | .retAddr x => .ref (ad.2 x)
def pj_a (ad : pj_A) (x : vp_A) : vp_A := (x.1, match x.2 with
  | .inl f => .inl f
  | .inr (.inl f) => .inr (.inl f)
  | .inr (.inr (.inl f)) => .inr (.inr (.inl f))
  | .inr (.inr (.inr (.inl f))) => .inr (.inr (.inr (.inl f)))
  | .inr (.inr (.inr (.inr f))) => .inr (.inr (.inr (.inr (fun j => (f j).map ad.1)))))
def pj_e (ad : pj_A) (cy : Nat → ClassId) : pj_C → va_E
  | .inl x => .inl (cy x.1, pj_a ad x.2)
  | .inr x => .inr (x.1, x.2.map (pj_v ad))
def pj_w (ad : pj_A) (cy : Nat → ClassId) : Nat → List pj_C → va_W
  | _, [] => []
  | k, c :: t => (ad.1 (k + 1), pj_e ad cy c) :: pj_w ad cy (k + 1) t
theorem pj_w_get (ad : pj_A) (cy : Nat → ClassId) : ∀ (σ : List pj_C) (k i : Nat), (pj_w ad cy k σ)[i]? = σ[i]?.map (fun c => (ad.1 (k + i + 1), pj_e ad cy c))
  | [], k, i => by simp [pj_w]
  | c :: t, k, 0 => by simp [pj_w]
  | c :: t, k, i + 1 => by
    have h := pj_w_get ad cy t (k + 1) i
    simp only [pj_w, List.getElem?_cons_succ, h]
    have e : k + 1 + i + 1 = k + (i + 1) + 1 := by omega
    rw [e]
theorem pj_w_set (ad : pj_A) (cy : Nat → ClassId) (c : pj_C) : ∀ (σ : List pj_C) (k i : Nat), (pj_w ad cy k σ).set i (ad.1 (k + i + 1), pj_e ad cy c) = pj_w ad cy k (σ.set i c)
  | [], k, i => by simp [pj_w]
  | d :: t, k, 0 => by simp [pj_w]
  | d :: t, k, i + 1 => by
    have h := pj_w_set ad cy c t (k + 1) i
    have e : k + 1 + i + 1 = k + (i + 1) + 1 := by omega
    rw [e] at h
    simp only [pj_w, List.set_cons_succ, h]
theorem pj_w_app (ad : pj_A) (cy : Nat → ClassId) (c : pj_C) : ∀ (σ : List pj_C) (k : Nat), pj_w ad cy k (σ ++ [c]) = pj_w ad cy k σ ++ [(ad.1 (k + σ.length + 1), pj_e ad cy c)]
  | [], k => by simp [pj_w]
  | d :: t, k => by
    have h := pj_w_app ad cy c t (k + 1)
    have e : k + 1 + t.length + 1 = k + (t.length + 1) + 1 := by omega
    rw [e] at h
    simp only [pj_w, List.cons_append, h, List.length_cons]
theorem pj_D (b : Nat × (Nat → Nat)) (base : Nat) (cy : Nat → ClassId) (σ : List pj_C) : va_D (fun q => base ≤ q) (pj_w (pj_ad b base) cy 0 σ) := by
  refine ⟨fun i j p q hi hj e => ?_, fun k q hk => ?_⟩
  · rw [pj_w_get] at hi hj
    obtain ⟨c, -, rfl⟩ := Option.map_eq_some_iff.mp hi
    obtain ⟨d, -, rfl⟩ := Option.map_eq_some_iff.mp hj
    have e : base + (0 + i) = base + (0 + j) := e
    omega
  · rw [pj_w_get] at hk
    obtain ⟨c, -, rfl⟩ := Option.map_eq_some_iff.mp hk
    show base ≤ base + (0 + k)
    omega
/-- the cell at a virtual place -/
def pj_get (G : pj_G) : Nat → Option pj_C
  | 0 => none
  | i + 1 => G.1[i]?
def pj_put (G : pj_G) (a : Nat) (c : pj_C) : pj_G := (G.1.set (a - 1) c, G.2)
/-- the locals: read, written -/
def pj_ld : pj_L → Nat → Option Value
  | [], _ => none
  | (k, v) :: t, i => if k = i then some v else pj_ld t i
theorem pj_ld_mem : ∀ {L : pj_L} {i : Nat} {v : Value}, pj_ld L i = some v → (i, v) ∈ L
  | [], i, v, h => by simp [pj_ld] at h
  | (k, w) :: t, i, v, h => by
    simp only [pj_ld] at h
    by_cases e : k = i
    · rw [if_pos e] at h
      cases h
      rw [e]
      exact List.mem_cons_self
    · rw [if_neg e] at h
      exact List.mem_cons_of_mem _ (pj_ld_mem h)
def pj_f1 (i : Nat) (q : Nat × Value) : Bool := !(q.1 == i) && !(q.1 + 1 == i && q.2.category == 2)
def pj_f2 (i : Nat) (q : Nat × Value) : Bool := !(q.1 == i) && (!(q.1 == i + 1) && !(q.1 + 1 == i && q.2.category == 2))
def pj_st1 (L : pj_L) (i : Nat) (v : Value) : pj_L := (i, v) :: L.filter (pj_f1 i)
def pj_st2 (L : pj_L) (i : Nat) (v : Value) : pj_L := (i, v) :: L.filter (pj_f2 i)
def pj_l (ad : pj_A) (L : pj_L) : pj_L := L.map (fun q => (q.1, pj_v ad q.2))
theorem pj_v_cat (ad : pj_A) (v : Value) : (pj_v ad v).category = v.category := by cases v <;> rfl
theorem pj_l_f (ad : pj_A) (f : Nat × Value → Bool) (hf : ∀ q : Nat × Value, f (q.1, pj_v ad q.2) = f q) : ∀ L : pj_L, (pj_l ad L).filter f = pj_l ad (L.filter f)
  | [] => rfl
  | q :: t => by
    have h := pj_l_f ad f hf t
    unfold pj_l at h ⊢
    rw [List.map_cons, List.filter_cons, hf q, h, List.filter_cons]
    by_cases e : f q = true
    · rw [if_pos e, if_pos e, List.map_cons]
    · rw [if_neg e, if_neg e]
theorem pj_l_1 (ad : pj_A) (L : pj_L) (i : Nat) (v w : Value) (h : pj_v ad v = w) : (i, w) :: (pj_l ad L).filter (fun q => !(q.1 == i) && !(q.1 + 1 == i && q.2.category == 2)) = pj_l ad (pj_st1 L i v) := by
  have e : (pj_l ad L).filter (pj_f1 i) = pj_l ad (L.filter (pj_f1 i)) := pj_l_f ad (pj_f1 i) (fun q => by simp only [pj_f1, pj_v_cat]) L
  show (i, w) :: (pj_l ad L).filter (pj_f1 i) = _
  rw [e, ← h]
  rfl
theorem pj_l_2 (ad : pj_A) (L : pj_L) (i : Nat) (v w : Value) (h : pj_v ad v = w) : (i, w) :: (pj_l ad L).filter (fun q => !(q.1 == i) && (!(q.1 == i + 1) && !(q.1 + 1 == i && q.2.category == 2))) = pj_l ad (pj_st2 L i v) := by
  have e : (pj_l ad L).filter (pj_f2 i) = pj_l ad (L.filter (pj_f2 i)) := pj_l_f ad (pj_f2 i) (fun q => by simp only [pj_f2, pj_v_cat]) L
  show (i, w) :: (pj_l ad L).filter (pj_f2 i) = _
  rw [e, ← h]
  rfl
theorem pj_l_at (ad : pj_A) {ls : Array Slot} {nL : Nat} {L : pj_L} (h : lv_has ls nL (pj_l ad L)) {i : Nat} {v : Value} (e : pj_ld L i = some v) : ls[i]? = some (.val (pj_v ad v)) :=
  h.2.2 (i, pj_v ad v) (List.mem_map.mpr ⟨(i, v), pj_ld_mem e, rfl⟩)
theorem pj_l_ix (ad : pj_A) {L : pj_L} {i : Nat} {v : Value} (e : pj_ld L i = some v) : ∃ k : Nat, (pj_l ad L)[k]? = some (i, pj_v ad v) := by
  have h : (i, pj_v ad v) ∈ pj_l ad L := List.mem_map.mpr ⟨(i, v), pj_ld_mem e, rfl⟩
  exact List.getElem?_of_mem h
end
section
/-! STEPS THAT SEE THE STACK ALONE -/
def pj_bi (f : Int32 → Int32 → Int32) : List Value → Option (List Value)
  | .int y :: .int x :: r => some (.int (f x y) :: r)
  | _ => none
def pj_bl (f : Int64 → Int64 → Int64) : List Value → Option (List Value)
  | .long y :: .long x :: r => some (.long (f x y) :: r)
  | _ => none
def pj_di (f : Int32 → Int32 → Int32) : List Value → Option (List Value)
  | .int y :: .int x :: r => if y = 0 then none else some (.int (f x y) :: r)
  | _ => none
def pj_dl (f : Int64 → Int64 → Int64) : List Value → Option (List Value)
  | .long y :: .long x :: r => if y = 0 then none else some (.long (f x y) :: r)
  | _ => none
def pj_ui (f : Int32 → Int32) : List Value → Option (List Value)
  | .int x :: r => some (.int (f x) :: r)
  | _ => none
def pj_i2l : List Value → Option (List Value)
  | .int x :: r => some (.long x.toInt64 :: r)
  | _ => none
def pj_l2i : List Value → Option (List Value)
  | .long x :: r => some (.int x.toInt32 :: r)
  | _ => none
def pj_lcmp : List Value → Option (List Value)
  | .long y :: .long x :: r => some (.int (lg_cmp x y) :: r)
  | _ => none
def pj_dup : List Value → Option (List Value)
  | v :: r => if v.category = 1 then some (v :: v :: r) else none
  | _ => none
def pj_pop : List Value → Option (List Value)
  | v :: r => if v.category = 1 then some r else none
  | _ => none
def pj_dup2 : List Value → Option (List Value)
  | .int y :: x :: r => if x.category = 1 then some (.int y :: x :: .int y :: x :: r) else none
  | .long y :: r => some (.long y :: .long y :: r)
  | _ => none
theorem pj_bi_s {f : Int32 → Int32 → Int32} {S S' : List Value} (h : pj_bi f S = some S') : ∃ x y r, S = .int y :: .int x :: r ∧ S' = .int (f x y) :: r := by
  unfold pj_bi at h
  split at h
  · cases h; exact ⟨_, _, _, rfl, rfl⟩
  · cases h
theorem pj_bl_s {f : Int64 → Int64 → Int64} {S S' : List Value} (h : pj_bl f S = some S') : ∃ x y r, S = .long y :: .long x :: r ∧ S' = .long (f x y) :: r := by
  unfold pj_bl at h
  split at h
  · cases h; exact ⟨_, _, _, rfl, rfl⟩
  · cases h
theorem pj_di_s {f : Int32 → Int32 → Int32} {S S' : List Value} (h : pj_di f S = some S') : ∃ x y r, S = .int y :: .int x :: r ∧ S' = .int (f x y) :: r ∧ ¬ y = 0 := by
  unfold pj_di at h
  split at h
  · split at h
    · cases h
    · cases h; exact ⟨_, _, _, rfl, rfl, by assumption⟩
  · cases h
theorem pj_dl_s {f : Int64 → Int64 → Int64} {S S' : List Value} (h : pj_dl f S = some S') : ∃ x y r, S = .long y :: .long x :: r ∧ S' = .long (f x y) :: r ∧ ¬ y = 0 := by
  unfold pj_dl at h
  split at h
  · split at h
    · cases h
    · cases h; exact ⟨_, _, _, rfl, rfl, by assumption⟩
  · cases h
theorem pj_ui_s {f : Int32 → Int32} {S S' : List Value} (h : pj_ui f S = some S') : ∃ x r, S = .int x :: r ∧ S' = .int (f x) :: r := by
  unfold pj_ui at h
  split at h
  · cases h; exact ⟨_, _, rfl, rfl⟩
  · cases h
def pj_k (i : Instr) (S : List Value) : Option (List Value) := match i with
  | .iconst n => some (.int (Int32.ofInt n) :: S)
  | .bipush n => some (.int (Int8.ofInt n).toInt32 :: S)
  | .sipush n => some (.int (Int16.ofInt n).toInt32 :: S)
  | .lconst n => some (.long (Int64.ofNat (n : Nat)) :: S)
  | .iadd => pj_bi (fun x y => x + y) S
  | .isub => pj_bi (fun x y => x - y) S
  | .imul => pj_bi (fun x y => x * y) S
  | .iand => pj_bi (fun x y => x &&& y) S
  | .ior => pj_bi (fun x y => x ||| y) S
  | .ixor => pj_bi (fun x y => x ^^^ y) S
  | .ishl => pj_bi (fun x y => x <<< (y &&& 31)) S
  | .ishr => pj_bi (fun x y => x >>> (y &&& 31)) S
  | .iushr => pj_bi (fun x y => (x.toUInt32 >>> (y.toUInt32 &&& Int32.toUInt32 31)).toInt32) S
  | .ladd => pj_bl (fun x y => x + y) S
  | .lsub => pj_bl (fun x y => x - y) S
  | .lmul => pj_bl (fun x y => x * y) S
  | .idiv => pj_di (fun x y => x / y) S
  | .irem => pj_di (fun x y => x - x / y * y) S
  | .ldiv => pj_dl (fun x y => x / y) S
  | .lrem => pj_dl (fun x y => x - x / y * y) S
  | .ineg => pj_ui (fun x => -x) S
  | .i2b => pj_ui (fun x => x.toInt8.toInt32) S
  | .i2s => pj_ui (fun x => x.toInt16.toInt32) S
  | .i2c => pj_ui (fun x => (x.toUInt32 % 65536).toInt32) S
  | .i2l => pj_i2l S
  | .l2i => pj_l2i S
  | .lcmp => pj_lcmp S
  | .dup => pj_dup S
  | .pop => pj_pop S
  | .dup2 => pj_dup2 S
  | _ => none
/-- the length of an instruction -/
def pj_len : Instr → Nat
  | .bipush _ => 2 | .sipush _ => 3 | .iload _ => 2 | .lload _ => 2 | .aload _ => 2 | .istore _ => 2 | .lstore _ => 2 | .astore _ => 2 | .iinc _ _ => 3
  | .ifCond _ _ => 3 | .if_icmp _ _ => 3 | .goto _ => 3 | .getfield _ => 3 | .putfield _ => 3 | .new _ => 3 | .newarray _ => 2 | .anewarray _ => 3
  | .invokevirtual _ => 3 | .invokespecial _ => 3 | .invokestatic _ => 3 | .ldc _ => 2 | .ldc_w _ => 3 | .ldc2_w _ => 3 | _ => 1
section PJK
variable {p : Program} {l : Launch} {e : Env} {R : Room} {s : State} {m : MethodId} {args : Array Value} {below : List Frame} {meth : Method} {c : Code} {H : Heap} {locs : List Loc} {cells slots : Nat} {Q : State → Prop}
variable {cc : ByteArray} {pc : Nat} {ls : Array Slot}
set_option maxHeartbeats 4000000 in
theorem pj_k_snd (ad : pj_A) (hx : p.tables.exec = Jvm.exec) (hb : c.code = cc) {i : Instr} {S S' : List Value} (hd : decode cc pc = .ok (i, pj_len i)) (h : pj_k i S = some S')
    (k : W p l e R s m args below meth c H locs cells slots Q (F0 m (pc + pj_len i) ls (S'.map (pj_v ad)))) : W p l e R s m args below meth c H locs cells slots Q (F0 m pc ls (S.map (pj_v ad))) := by
  cases i
  case iconst n => cases h; exact lv_iconst hx hb hd rfl k
  case bipush n => cases h; exact lv_bipush hx hb hd rfl k
  case sipush n => cases h; exact lv_sipush hx hb hd rfl k
  case lconst n => cases h; exact lv_lconst hx hb hd rfl k
  case iadd =>
    obtain ⟨x, y, r, rfl, rfl⟩ := pj_bi_s h
    exact lv_iadd hx hb hd k
  case isub =>
    obtain ⟨x, y, r, rfl, rfl⟩ := pj_bi_s h
    exact lv_isub hx hb hd k
  case imul =>
    obtain ⟨x, y, r, rfl, rfl⟩ := pj_bi_s h
    exact lv_imul hx hb hd k
  case iand =>
    obtain ⟨x, y, r, rfl, rfl⟩ := pj_bi_s h
    exact lv_iand hx hb hd k
  case ior =>
    obtain ⟨x, y, r, rfl, rfl⟩ := pj_bi_s h
    exact lv_ior hx hb hd k
  case ixor =>
    obtain ⟨x, y, r, rfl, rfl⟩ := pj_bi_s h
    exact lv_ixor hx hb hd k
  case ishl =>
    obtain ⟨x, y, r, rfl, rfl⟩ := pj_bi_s h
    exact lv_ishl hx hb hd k
  case ishr =>
    obtain ⟨x, y, r, rfl, rfl⟩ := pj_bi_s h
    exact lv_ishr hx hb hd k
  case iushr =>
    obtain ⟨x, y, r, rfl, rfl⟩ := pj_bi_s h
    exact lv_iushr hx hb hd rfl k
  case ladd =>
    obtain ⟨x, y, r, rfl, rfl⟩ := pj_bl_s h
    exact lv_ladd hx hb hd k
  case lsub =>
    obtain ⟨x, y, r, rfl, rfl⟩ := pj_bl_s h
    exact lv_lsub hx hb hd k
  case lmul =>
    obtain ⟨x, y, r, rfl, rfl⟩ := pj_bl_s h
    exact lv_lmul hx hb hd k
  case idiv =>
    obtain ⟨x, y, r, rfl, rfl, h0⟩ := pj_di_s h
    exact lv_idiv hx hb hd h0 k
  case irem =>
    obtain ⟨x, y, r, rfl, rfl, h0⟩ := pj_di_s h
    exact lv_irem hx hb hd h0 k
  case ldiv =>
    obtain ⟨x, y, r, rfl, rfl, h0⟩ := pj_dl_s h
    exact lv_ldiv hx hb hd h0 k
  case lrem =>
    obtain ⟨x, y, r, rfl, rfl, h0⟩ := pj_dl_s h
    exact lv_lrem hx hb hd h0 k
  case ineg =>
    obtain ⟨x, r, rfl, rfl⟩ := pj_ui_s h
    exact lv_ineg hx hb hd k
  case i2b =>
    obtain ⟨x, r, rfl, rfl⟩ := pj_ui_s h
    exact lv_i2b hx hb hd rfl k
  case i2s =>
    obtain ⟨x, r, rfl, rfl⟩ := pj_ui_s h
    exact lv_i2s hx hb hd rfl k
  case i2c =>
    obtain ⟨x, r, rfl, rfl⟩ := pj_ui_s h
    exact lv_i2c hx hb hd rfl k
  case i2l =>
    have h : pj_i2l S = some S' := h
    unfold pj_i2l at h
    split at h
    · cases h; exact lv_i2l hx hb hd rfl k
    · cases h
  case l2i =>
    have h : pj_l2i S = some S' := h
    unfold pj_l2i at h
    split at h
    · cases h; exact lv_l2i hx hb hd rfl k
    · cases h
  case lcmp =>
    have h : pj_lcmp S = some S' := h
    unfold pj_lcmp at h
    split at h
    · cases h; exact W.lcmp hx hb hd k
    · cases h
  case dup =>
    have h : pj_dup S = some S' := h
    unfold pj_dup at h
    split at h
    · split at h
      · cases h; exact lv_dup hx hb hd (by rw [pj_v_cat]; assumption) k
      · cases h
    · cases h
  case pop =>
    have h : pj_pop S = some S' := h
    unfold pj_pop at h
    split at h
    · split at h
      · cases h; exact lv_pop hx hb hd (by rw [pj_v_cat]; assumption) k
      · cases h
    · cases h
  case dup2 =>
    have h : pj_dup2 S = some S' := h
    unfold pj_dup2 at h
    split at h
    · split at h
      · cases h; exact lv_dup2_11 hx hb hd rfl (by rw [pj_v_cat]; assumption) k
      · cases h
    · cases h; exact lv_dup2_2 hx hb hd rfl k
    · cases h
  all_goals cases (show (none : Option (List Value)) = some S' from h)
end PJK
/-! STEPS THAT SEE THE LOCALS -/
def pj_li (L : pj_L) (i : Nat) (S : List Value) : Option (pj_L × List Value) := match pj_ld L i with
  | some (.int x) => some (L, .int x :: S)
  | _ => none
def pj_ll (L : pj_L) (i : Nat) (S : List Value) : Option (pj_L × List Value) := match pj_ld L i with
  | some (.long x) => some (L, .long x :: S)
  | _ => none
def pj_la (L : pj_L) (i : Nat) (S : List Value) : Option (pj_L × List Value) := match pj_ld L i with
  | some (.ref x) => some (L, .ref x :: S)
  | some (.retAddr x) => some (L, .retAddr x :: S)
  | _ => none
def pj_si (nL : Nat) (L : pj_L) (i : Nat) : List Value → Option (pj_L × List Value)
  | .int x :: r => if i < nL then some (pj_st1 L i (.int x), r) else none
  | _ => none
def pj_sl (nL : Nat) (L : pj_L) (i : Nat) : List Value → Option (pj_L × List Value)
  | .long x :: r => if i + 1 < nL then some (pj_st2 L i (.long x), r) else none
  | _ => none
def pj_sa (nL : Nat) (L : pj_L) (i : Nat) : List Value → Option (pj_L × List Value)
  | .ref x :: r => if i < nL then some (pj_st1 L i (.ref x), r) else none
  | _ => none
def pj_ic (nL : Nat) (L : pj_L) (i : Nat) (n : Int) (S : List Value) : Option (pj_L × List Value) := match pj_ld L i with
  | some (.int x) => if i < nL then some (pj_st1 L i (.int (x + Int32.ofInt n)), S) else none
  | _ => none
def pj_kl (nL : Nat) (i : Instr) (L : pj_L) (S : List Value) : Option (pj_L × List Value) := match i with
  | .iload_n k => pj_li L k S
  | .iload k => pj_li L k S
  | .lload_n k => pj_ll L k S
  | .lload k => pj_ll L k S
  | .aload_n k => pj_la L k S
  | .aload k => pj_la L k S
  | .istore_n k => pj_si nL L k S
  | .istore k => pj_si nL L k S
  | .lstore_n k => pj_sl nL L k S
  | .lstore k => pj_sl nL L k S
  | .astore_n k => pj_sa nL L k S
  | .astore k => pj_sa nL L k S
  | .iinc k n => pj_ic nL L k n S
  | _ => none
theorem pj_li_s {L L' : pj_L} {i : Nat} {S S' : List Value} (h : pj_li L i S = some (L', S')) : ∃ x, pj_ld L i = some (.int x) ∧ L' = L ∧ S' = .int x :: S := by
  unfold pj_li at h
  split at h
  · cases h; exact ⟨_, by assumption, rfl, rfl⟩
  · cases h
theorem pj_ll_s {L L' : pj_L} {i : Nat} {S S' : List Value} (h : pj_ll L i S = some (L', S')) : ∃ x, pj_ld L i = some (.long x) ∧ L' = L ∧ S' = .long x :: S := by
  unfold pj_ll at h
  split at h
  · cases h; exact ⟨_, by assumption, rfl, rfl⟩
  · cases h
theorem pj_la_s (ad : pj_A) {L L' : pj_L} {i : Nat} {S S' : List Value} (h : pj_la L i S = some (L', S')) : ∃ x q, pj_ld L i = some x ∧ pj_v ad x = .ref q ∧ L' = L ∧ S' = x :: S := by
  unfold pj_la at h
  split at h
  · cases h; exact ⟨_, _, by assumption, rfl, rfl, rfl⟩
  · cases h; exact ⟨_, _, by assumption, rfl, rfl, rfl⟩
  · cases h
theorem pj_si_s {nL : Nat} {L L' : pj_L} {i : Nat} {S S' : List Value} (h : pj_si nL L i S = some (L', S')) : ∃ x, S = .int x :: S' ∧ i < nL ∧ L' = pj_st1 L i (.int x) := by
  unfold pj_si at h
  split at h
  · split at h
    · cases h; exact ⟨_, rfl, by assumption, rfl⟩
    · cases h
  · cases h
theorem pj_sl_s {nL : Nat} {L L' : pj_L} {i : Nat} {S S' : List Value} (h : pj_sl nL L i S = some (L', S')) : ∃ x, S = .long x :: S' ∧ i + 1 < nL ∧ L' = pj_st2 L i (.long x) := by
  unfold pj_sl at h
  split at h
  · split at h
    · cases h; exact ⟨_, rfl, by assumption, rfl⟩
    · cases h
  · cases h
theorem pj_sa_s {nL : Nat} {L L' : pj_L} {i : Nat} {S S' : List Value} (h : pj_sa nL L i S = some (L', S')) : ∃ x, S = .ref x :: S' ∧ i < nL ∧ L' = pj_st1 L i (.ref x) := by
  unfold pj_sa at h
  split at h
  · split at h
    · cases h; exact ⟨_, rfl, by assumption, rfl⟩
    · cases h
  · cases h
theorem pj_ic_s {nL : Nat} {L L' : pj_L} {i : Nat} {n : Int} {S S' : List Value} (h : pj_ic nL L i n S = some (L', S')) : ∃ x, pj_ld L i = some (.int x) ∧ i < nL ∧ L' = pj_st1 L i (.int (x + Int32.ofInt n)) ∧ S' = S := by
  unfold pj_ic at h
  split at h
  · split at h
    · cases h; exact ⟨_, by assumption, by assumption, rfl, rfl⟩
    · cases h
  · cases h
section PJKL
variable {p : Program} {l : Launch} {e : Env} {R : Room} {s : State} {m : MethodId} {args : Array Value} {below : List Frame} {meth : Method} {c : Code} {H : Heap} {locs : List Loc} {cells slots : Nat} {Q : State → Prop}
variable {cc : ByteArray} {pc nL : Nat} {ls : Array Slot}
set_option maxHeartbeats 4000000 in
theorem pj_kl_snd (ad : pj_A) (hx : p.tables.exec = Jvm.exec) (hb : c.code = cc) {i : Instr} {L L' : pj_L} {S S' : List Value} (hl : lv_has ls nL (pj_l ad L)) (hd : decode cc pc = .ok (i, pj_len i)) (h : pj_kl nL i L S = some (L', S'))
    (k : ∀ ls' : Array Slot, lv_has ls' nL (pj_l ad L') → W p l e R s m args below meth c H locs cells slots Q (F0 m (pc + pj_len i) ls' (S'.map (pj_v ad)))) : W p l e R s m args below meth c H locs cells slots Q (F0 m pc ls (S.map (pj_v ad))) := by
  cases i
  case aload_n j =>
    obtain ⟨x, q, g, hq, rfl, rfl⟩ := pj_la_s ad h
    have k1 := k ls hl
    rw [List.map_cons, hq] at k1
    exact lv_aload_n hx hb hd rfl (by rw [← hq]; exact pj_l_at ad hl g) k1
  case aload j =>
    obtain ⟨x, q, g, hq, rfl, rfl⟩ := pj_la_s ad h
    have k1 := k ls hl
    rw [List.map_cons, hq] at k1
    exact lv_aload hx hb hd (by rw [← hq]; exact pj_l_at ad hl g) k1
  case iload_n j =>
    obtain ⟨x, g, rfl, rfl⟩ := pj_li_s h
    exact lv_iload_n hx hb hd rfl (pj_l_at ad hl g) (k ls hl)
  case iload j =>
    obtain ⟨x, g, rfl, rfl⟩ := pj_li_s h
    exact lv_iload hx hb hd (pj_l_at ad hl g) (k ls hl)
  case lload_n j =>
    obtain ⟨x, g, rfl, rfl⟩ := pj_ll_s h
    exact lv_lload_n hx hb hd rfl (pj_l_at ad hl g) (k ls hl)
  case lload j =>
    obtain ⟨x, g, rfl, rfl⟩ := pj_ll_s h
    exact lv_lload hx hb hd (pj_l_at ad hl g) (k ls hl)
  case istore_n j =>
    obtain ⟨x, rfl, g, rfl⟩ := pj_si_s h
    exact lv_istore_n hx hb hd rfl hl g (pj_l_1 ad L j (.int x) _ rfl) k
  case istore j =>
    obtain ⟨x, rfl, g, rfl⟩ := pj_si_s h
    exact lv_istore hx hb hd hl g (pj_l_1 ad L j (.int x) _ rfl) k
  case lstore_n j =>
    obtain ⟨x, rfl, g, rfl⟩ := pj_sl_s h
    exact lv_lstore_n hx hb hd rfl hl g (pj_l_2 ad L j (.long x) _ rfl) k
  case lstore j =>
    obtain ⟨x, rfl, g, rfl⟩ := pj_sl_s h
    exact lv_lstore hx hb hd hl g (pj_l_2 ad L j (.long x) _ rfl) k
  case astore_n j =>
    obtain ⟨x, rfl, g, rfl⟩ := pj_sa_s h
    exact lv_astore_n hx hb hd rfl hl g (pj_l_1 ad L j (.ref x) _ rfl) k
  case astore j =>
    obtain ⟨x, rfl, g, rfl⟩ := pj_sa_s h
    exact lv_astore hx hb hd hl g (pj_l_1 ad L j (.ref x) _ rfl) k
  case iinc j n =>
    obtain ⟨x, g1, g2, rfl, rfl⟩ := pj_ic_s h
    obtain ⟨q, hq⟩ := pj_l_ix ad g1
    exact lv_iinc hx hb hd hl hq rfl g2 (pj_l_1 ad L j (.int (x + Int32.ofInt n)) _ rfl) k
  all_goals cases (show (none : Option (pj_L × List Value)) = some (L', S') from h)
end PJKL
/-! BRANCHES: the target stands in the table -/
def pj_c1 : Jvm.ClassFile.Cond → Int32 → Int32 → Bool
  | .eq, x, y => decide (x = y)
  | .ne, x, y => decide (¬ x = y)
  | .lt, x, y => decide (x < y)
  | .ge, x, y => decide (y ≤ x)
  | .gt, x, y => decide (y < x)
  | .le, x, y => decide (x ≤ y)

def pj_kb (i : Instr) (tgt pc : Nat) (S : List Value) : Option (Nat × List Value) := match i with
  | .goto _ => some (tgt, S)
  | .ifCond cd _ => (match S with
    | .int x :: r => some (if pj_c1 cd x 0 then tgt else pc + 3, r)
    | _ => none)
  | .if_icmp cd _ => (match S with
    | .int y :: .int x :: r => some (if pj_c1 cd x y then tgt else pc + 3, r)
    | _ => none)
  | .tableswitch dflt lo hi offs => (match S with
    | .int x :: r => if x.toInt < lo ∨ hi < x.toInt then (if 0 ≤ (pc : Int) + dflt then some (((pc : Int) + dflt).toNat, r) else none)
      else (match offs[(x.toInt - lo).toNat]? with
        | some off => if 0 ≤ (pc : Int) + off then some (((pc : Int) + off).toNat, r) else none
        | none => none)
    | _ => none)
  | .lookupswitch dflt ps => (match S with
    | .int x :: r => if 0 ≤ (pc : Int) + Op.lookupswitch.offset ps.toList dflt x.toInt then some (((pc : Int) + Op.lookupswitch.offset ps.toList dflt x.toInt).toNat, r) else none
    | _ => none)
  | _ => none
/-- what the table must hold of a branch -/
def pj_okb (i : Instr) (tgt pc : Nat) : Bool := match i with
  | .goto off => decide ((pc : Int) + off = (tgt : Int))
  | .ifCond _ off => decide ((pc : Int) + off = (tgt : Int))
  | .if_icmp _ off => decide ((pc : Int) + off = (tgt : Int))
  | .lookupswitch _ ps => (ps.toList.zip (ps.toList.drop 1)).all (fun (a, next) => a.1 < next.1)
  | _ => true
section PJKB
variable {p : Program} {l : Launch} {e : Env} {R : Room} {s : State} {m : MethodId} {args : Array Value} {below : List Frame} {meth : Method} {c : Code} {H : Heap} {locs : List Loc} {cells slots : Nat} {Q : State → Prop}
variable {cc : ByteArray} {pc tgt pc' len : Nat} {ls : Array Slot}
set_option maxHeartbeats 4000000 in
theorem pj_kb_snd (ad : pj_A) (hx : p.tables.exec = Jvm.exec) (hb : c.code = cc) {i : Instr} {S S' : List Value} (hd : decode cc pc = .ok (i, len)) (hlen : (match i with | .tableswitch .. => True | .lookupswitch .. => True | _ => len = pj_len i)) (hok : pj_okb i tgt pc = true) (h : pj_kb i tgt pc S = some (pc', S'))
    (k : W p l e R s m args below meth c H locs cells slots Q (F0 m pc' ls (S'.map (pj_v ad)))) : W p l e R s m args below meth c H locs cells slots Q (F0 m pc ls (S.map (pj_v ad))) := by
  cases i
  case goto off =>
    cases h
    have hlen : len = 3 := hlen
    subst hlen
    exact lv_goto hx hb hd (of_decide_eq_true hok) k
  case ifCond cd off =>
    have hlen : len = 3 := hlen
    subst hlen
    have ht : (pc : Int) + off = (tgt : Int) := of_decide_eq_true hok
    simp only [pj_kb] at h
    split at h
    · cases h
      cases cd
      case eq => exact lv_if_eq hx hb hd ht (fun q => by simpa only [pj_c1, q, Bool.false_eq_true, decide_true, decide_false, if_true, if_false, not_true_eq_false, not_false_eq_true, decide_not] using k) (fun q => by simpa only [pj_c1, q, Bool.false_eq_true, decide_true, decide_false, if_true, if_false, not_true_eq_false, not_false_eq_true, decide_not] using k)
      case ne => exact lv_if_ne hx hb hd ht (fun q => by simpa only [pj_c1, q, Bool.false_eq_true, decide_true, decide_false, if_true, if_false, not_true_eq_false, not_false_eq_true, decide_not] using k) (fun q => by simpa only [pj_c1, q, Bool.false_eq_true, decide_true, decide_false, if_true, if_false, not_true_eq_false, not_false_eq_true, decide_not] using k)
      case lt => exact lv_if_lt hx hb hd ht (fun q => by simpa only [pj_c1, q, Bool.false_eq_true, decide_true, decide_false, if_true, if_false, not_true_eq_false, not_false_eq_true, decide_not] using k) (fun q => by simpa only [pj_c1, q, Bool.false_eq_true, decide_true, decide_false, if_true, if_false, not_true_eq_false, not_false_eq_true, decide_not] using k)
      case ge => exact lv_if_ge hx hb hd ht (fun q => by simpa only [pj_c1, q, Bool.false_eq_true, decide_true, decide_false, if_true, if_false, not_true_eq_false, not_false_eq_true, decide_not] using k) (fun q => by simpa only [pj_c1, q, Bool.false_eq_true, decide_true, decide_false, if_true, if_false, not_true_eq_false, not_false_eq_true, decide_not] using k)
      case gt => exact lv_if_gt hx hb hd ht (fun q => by simpa only [pj_c1, q, Bool.false_eq_true, decide_true, decide_false, if_true, if_false, not_true_eq_false, not_false_eq_true, decide_not] using k) (fun q => by simpa only [pj_c1, q, Bool.false_eq_true, decide_true, decide_false, if_true, if_false, not_true_eq_false, not_false_eq_true, decide_not] using k)
      case le => exact lv_if_le hx hb hd ht (fun q => by simpa only [pj_c1, q, Bool.false_eq_true, decide_true, decide_false, if_true, if_false, not_true_eq_false, not_false_eq_true, decide_not] using k) (fun q => by simpa only [pj_c1, q, Bool.false_eq_true, decide_true, decide_false, if_true, if_false, not_true_eq_false, not_false_eq_true, decide_not] using k)
    · cases h
  case if_icmp cd off =>
    have hlen : len = 3 := hlen
    subst hlen
    have ht : (pc : Int) + off = (tgt : Int) := of_decide_eq_true hok
    simp only [pj_kb] at h
    split at h
    · cases h
      cases cd
      case eq => exact lv_icmp_eq hx hb hd ht (fun q => by simpa only [pj_c1, q, Bool.false_eq_true, decide_true, decide_false, if_true, if_false, not_true_eq_false, not_false_eq_true, decide_not] using k) (fun q => by simpa only [pj_c1, q, Bool.false_eq_true, decide_true, decide_false, if_true, if_false, not_true_eq_false, not_false_eq_true, decide_not] using k)
      case ne => exact lv_icmp_ne hx hb hd ht (fun q => by simpa only [pj_c1, q, Bool.false_eq_true, decide_true, decide_false, if_true, if_false, not_true_eq_false, not_false_eq_true, decide_not] using k) (fun q => by simpa only [pj_c1, q, Bool.false_eq_true, decide_true, decide_false, if_true, if_false, not_true_eq_false, not_false_eq_true, decide_not] using k)
      case lt => exact lv_icmp_lt hx hb hd ht (fun q => by simpa only [pj_c1, q, Bool.false_eq_true, decide_true, decide_false, if_true, if_false, not_true_eq_false, not_false_eq_true, decide_not] using k) (fun q => by simpa only [pj_c1, q, Bool.false_eq_true, decide_true, decide_false, if_true, if_false, not_true_eq_false, not_false_eq_true, decide_not] using k)
      case ge => exact lv_icmp_ge hx hb hd ht (fun q => by simpa only [pj_c1, q, Bool.false_eq_true, decide_true, decide_false, if_true, if_false, not_true_eq_false, not_false_eq_true, decide_not] using k) (fun q => by simpa only [pj_c1, q, Bool.false_eq_true, decide_true, decide_false, if_true, if_false, not_true_eq_false, not_false_eq_true, decide_not] using k)
      case gt => exact lv_icmp_gt hx hb hd ht (fun q => by simpa only [pj_c1, q, Bool.false_eq_true, decide_true, decide_false, if_true, if_false, not_true_eq_false, not_false_eq_true, decide_not] using k) (fun q => by simpa only [pj_c1, q, Bool.false_eq_true, decide_true, decide_false, if_true, if_false, not_true_eq_false, not_false_eq_true, decide_not] using k)
      case le => exact lv_icmp_le hx hb hd ht (fun q => by simpa only [pj_c1, q, Bool.false_eq_true, decide_true, decide_false, if_true, if_false, not_true_eq_false, not_false_eq_true, decide_not] using k) (fun q => by simpa only [pj_c1, q, Bool.false_eq_true, decide_true, decide_false, if_true, if_false, not_true_eq_false, not_false_eq_true, decide_not] using k)
    · cases h
  case tableswitch dflt lo hi offs =>
    simp only [pj_kb] at h
    split at h
    · split at h
      · split at h
        · cases h
          rename_i h1 h2
          exact lv_tableOut hx hb hd h1 (Int.toNat_of_nonneg h2).symm k
        · cases h
      · split at h
        · split at h
          · cases h
            rename_i h1 _ off h2 h3
            exact lv_tableIn hx hb hd (fun z => h1 (Or.inl z)) (fun z => h1 (Or.inr z)) h2 (Int.toNat_of_nonneg h3).symm k
          · cases h
        · cases h
    · cases h
  case lookupswitch dflt ps =>
    simp only [pj_kb] at h
    split at h
    · split at h
      · cases h
        rename_i h1
        exact lv_lookup hx hb hd hok rfl (Int.toNat_of_nonneg h1).symm k
      · cases h
    · cases h
  all_goals cases (show (none : Option (Nat × List Value)) = some (pc', S') from h)
end PJKB
end
section
/-! THE CLASSES, THE WORDS, THE WORLD -/
def pj_cls : List (String × u_T × Nat × (Nat → FieldType)) := [(RX0, TX0, 4, tyX0), (RX1, TX1, 4, tyX1), (RX2, TX2, 4, tyX2), (RX3, TX3, 5, tyX3), (RX4, TX4, 5, tyX4), (RX5, TX5, 8, tyX5), (RX6, TX6, 2, tyX6), (RX7, TX7, 5, tyX7), (RX8, TX8, 9, tyX8), (RX9, TX9, 5, tyX9), (RX10, TX10, 9, tyX10), (RX11, TX11, 8, tyX11), (RX12, TX12, 60, tyX12)]
def pj_host : String := "BridgesAreLent"
/-- words that stay true as the tables warm -/
def pj_stb : Jvm.Cond → Bool
  | .fieldLinkNest .. => true
  | .methodLinkNest .. => true
  | .arrayOver (.object _) => true
  | .castable .. => true
  | w => goodWord w
theorem pj_stb_warm {w : Jvm.Cond} (h : pj_stb w = true) {args a' : Array Value} {s U : State} (hW : s.WarmedH U.vm) (hb : w.before args s = true) : w.before a' U = true := by
  unfold pj_stb at h
  split at h
  · exact va_Nw.use rfl (va_Nw.warmF hW (va_Nw.of rfl hb))
  · exact va_Nw.use rfl (va_Nw.warmM hW (va_Nw.of rfl hb))
  · exact va_AO.use (va_AO.moved hW.alike (va_AO.of hb))
  · exact va_Nw.use rfl (va_Nw.warmC hW (va_Nw.of rfl hb))
  · exact word_at hW (good_of_word h) hb
def pj_all : List Jvm.Cond := lw_tbl.filter pj_stb
def pj_wd (pos : Nat) (w : Jvm.Cond) : Bool := decide (lw_tbl[pos]? = some w) && pj_stb w
theorem pj_wd_in {pos : Nat} {w : Jvm.Cond} (h : pj_wd pos w = true) : w ∈ pj_all := by
  simp only [pj_wd, Bool.and_eq_true, decide_eq_true_eq] at h
  exact List.mem_filter.mpr ⟨List.mem_of_getElem? h.1, h.2⟩
set_option maxRecDepth 100000 in
theorem pj_ws0 : ∀ q ∈ pj_cls, ∀ k, k < q.2.2.1 → u_lay q.1 q.2.1 k ∈ lw_tbl ∧ pj_stb (u_lay q.1 q.2.1 k) = true := by decide +kernel
theorem pj_cls_vw : vwCl = pj_cls.map (fun q => (q.1, q.2.1, q.2.2.1)) := rfl
theorem pj_cls_1 {ci : Nat} {q : String × u_T × Nat × (Nat → FieldType)} (h : pj_cls[ci]? = some q) : vwCl[ci]? = some (q.1, q.2.1, q.2.2.1) := by
  rw [pj_cls_vw, List.getElem?_map, h]
  rfl
theorem pj_cls_2 {ci : Nat} {q : String × u_T × Nat × (Nat → FieldType)} (h : pj_cls[ci]? = some q) : ∀ w ∈ u_ws q.1 q.2.1 q.2.2.1, w ∈ pj_all := by
  intro w hw
  obtain ⟨k, hk, rfl⟩ := List.mem_map.mp hw
  have h1 := pj_ws0 q (List.mem_of_getElem? h) k (List.mem_range.mp hk)
  exact List.mem_filter.mpr h1
theorem pj_cls_3a : ∀ q ∈ pj_cls, ∀ k, k < q.2.2.1 → parseFieldDescriptor (q.2.1 k).2.2.1 = some (q.2.2.2 k) := by decide +kernel
theorem pj_cls_4a : ∀ q ∈ pj_cls, ∀ a, a < q.2.2.1 → ∀ b, b < q.2.2.1 → a ≠ b → (q.2.1 a).2.1 ≠ (q.2.1 b).2.1 := by decide +kernel
def pj_tys (cy : Nat → ClassId) : List (ClassId × FieldType) := [(cy 0, .int), (cy 1, .long), (cy 2, .boolean), (cy 3, .object RX8)]
/-- what a field takes -/
def pj_fit : FieldType → Value → Bool
  | .int, .int _ => true
  | .long, .long _ => true
  | .boolean, .int x => decide (x = 0) || decide (x = 1)
  | .object _, .ref _ => true
  | .array _, .ref _ => true
  | _, _ => false
theorem pj_fit_s (ad : pj_A) {ty : FieldType} {v : Value} (h : pj_fit ty v = true) : narrow ty (pj_v ad v) = pj_v ad v ∧ fits ty (pj_v ad v) = true := by
  unfold pj_fit at h
  split at h
  · exact ⟨rfl, rfl⟩
  · exact ⟨rfl, rfl⟩
  · simp only [Bool.or_eq_true, decide_eq_true_eq] at h
    rcases h with rfl | rfl
    · exact (by decide +kernel : narrow .boolean (.int 0) = .int 0 ∧ fits .boolean (.int 0) = true)
    · exact (by decide +kernel : narrow .boolean (.int 1) = .int 1 ∧ fits .boolean (.int 1) = true)
  · exact ⟨rfl, rfl⟩
  · exact ⟨rfl, rfl⟩
  · cases h
def pj_okf (own : String) (idx ci k pos : Nat) : Bool := match pj_cls[ci]? with
  | none => false
  | some q => decide (k < q.2.2.1) && (pj_wd pos (.fieldLink own idx (q.2.1 k).1 (q.2.1 k).2.1 (q.2.1 k).2.2.1) || pj_wd pos (.fieldLinkNest own idx (q.2.1 k).1 (q.2.1 k).2.1 (q.2.1 k).2.2.1 pj_host))
theorem pj_okf_s {own : String} {idx ci k pos : Nat} (h : pj_okf own idx ci k pos = true) : ∃ q, pj_cls[ci]? = some q ∧ k < q.2.2.1 ∧ ((Jvm.Cond.fieldLink own idx (q.2.1 k).1 (q.2.1 k).2.1 (q.2.1 k).2.2.1) ∈ pj_all ∨ (Jvm.Cond.fieldLinkNest own idx (q.2.1 k).1 (q.2.1 k).2.1 (q.2.1 k).2.2.1 pj_host) ∈ pj_all) := by
  unfold pj_okf at h
  split at h
  · cases h
  · rename_i q hq
    simp only [Bool.and_eq_true, Bool.or_eq_true, decide_eq_true_eq] at h
    exact ⟨q, hq, h.1, h.2.elim (fun z => Or.inl (pj_wd_in z)) (fun z => Or.inr (pj_wd_in z))⟩
/-- the cells that are seen through a world -/
theorem pj_at {b : Nat × (Nat → Nat)} {base : Nat} {cy : Nat → ClassId} {G : pj_G} {a : Nat} {x : pj_C} (h : pj_get G a = some x) : ∃ i, a = i + 1 ∧ (pj_w (pj_ad b base) cy 0 G.1)[i]? = some ((pj_ad b base).1 a, pj_e (pj_ad b base) cy x) := by
  cases a with
  | zero => cases h
  | succ i =>
    refine ⟨i, rfl, ?_⟩
    rw [pj_w_get, show G.1[i]? = some x from h, Nat.zero_add]
    rfl
theorem pj_set {b : Nat × (Nat → Nat)} {base : Nat} {cy : Nat → ClassId} {G : pj_G} {i : Nat} (x : pj_C) : (pj_w (pj_ad b base) cy 0 G.1).set i ((pj_ad b base).1 (i + 1), pj_e (pj_ad b base) cy x) = pj_w (pj_ad b base) cy 0 (pj_put G (i + 1) x).1 := by
  have h := pj_w_set (pj_ad b base) cy x G.1 0 i
  rw [Nat.zero_add] at h
  exact h
end
section
section PJH
variable {p : Program} {l : Launch} {e : Env} {R : Room} {s : State} {m : MethodId} {args : Array Value} {below : List Frame} {meth : Method} {c : Code} {H : Heap} {locs : List Loc} {cells slots : Nat} {Q : State → Prop}
variable {cc : ByteArray} {pc : Nat} {ls : Array Slot} {b : Nat × (Nat → Nat)} {base : Nat} {cy : Nat → ClassId} {D : va_G} {G G' : pj_G} {S S' : List Value} {own : String} {dc ds : Nat}
/-- where a step comes to -/
abbrev pj_N (p : Program) (l : Launch) (e : Env) (R : Room) (s : State) (m : MethodId) (args : Array Value) (below : List Frame) (meth : Method) (c : Code) (Q : State → Prop) (b : Nat × (Nat → Nat)) (base : Nat) (cy : Nat → ClassId) (D : va_G) (ls : Array Slot) (cells slots : Nat) (G : pj_G) (pc : Nat) (S : List Value) : Prop :=
  ∀ (H : Heap) (locs : List Loc), va_P D vwCl (pj_w (pj_ad b base) cy 0 G.1) H → va_S (fun q => base ≤ q) s.heap H locs → W p l e R s m args below meth c H locs cells slots Q (F0 m pc ls (S.map (pj_v (pj_ad b base))))
def pj_gf (ci k : Nat) (G : pj_G) : List Value → Option (List Value)
  | .ref a :: r => (match pj_get G a with
    | some (.inr (c, fs)) => if c = ci then (match fs[k]? with
      | some v => some (v :: r)
      | none => none) else none
    | _ => none)
  | _ => none
theorem pj_gf_s {ci k : Nat} (h : pj_gf ci k G S = some S') : ∃ a r fs v, S = .ref a :: r ∧ pj_get G a = some (.inr (ci, fs)) ∧ fs[k]? = some v ∧ S' = v :: r := by
  unfold pj_gf at h
  split at h
  · split at h
    · split at h
      · split at h
        · rename_i hg e1 _ v e2
          subst e1
          cases h
          exact ⟨_, _, _, _, rfl, hg, e2, rfl⟩
        · cases h
      · cases h
    · cases h
  · cases h
theorem pj_gf_snd (hx : p.tables.exec = Jvm.exec) (hb : c.code = cc) (hts : ∀ w ∈ pj_all, w.before args s = true) (hown : s.vm.findClass own = some m.cls) (hK : va_K D vwCl (pj_tys cy) s) {idx ci k pos : Nat} (hok : pj_okf own idx ci k pos = true) (hd : decode cc pc = .ok (.getfield idx, 3)) (h : pj_gf ci k G S = some S')
    (kk : pj_N p l e R s m args below meth c Q b base cy D ls cells slots G (pc + 3) S') : pj_N p l e R s m args below meth c Q b base cy D ls cells slots G pc S := by
  intro H locs hP hS
  obtain ⟨a, r, fs, v, rfl, g1, g2, rfl⟩ := pj_gf_s h
  obtain ⟨q, hq, hk, hw⟩ := pj_okf_s hok
  obtain ⟨i, -, hi⟩ := pj_at (b := b) (base := base) (cy := cy) g1
  have hv : (fs.map (pj_v (pj_ad b base)))[k]? = some (pj_v (pj_ad b base) v) := by rw [List.getElem?_map, g2]; rfl
  rcases hw with hw | hw
  · exact va_get (D := D) (ci := ci) (C := q.1) (T := q.2.1) (N := q.2.2.1) hx hb hts (pj_cls_2 hq) hown hK hP i hi (pj_cls_1 hq) k hk (hts _ hw) (fun _ z => z) hv hd (kk H locs hP hS)
  · exact va_getN (D := D) (ci := ci) (C := q.1) (T := q.2.1) (N := q.2.2.1) hx hb hts (pj_cls_2 hq) hown hK hP i hi (pj_cls_1 hq) k hk (hts _ hw) (fun _ z => z) hv hd (kk H locs hP hS)
def pj_ft (ci k : Nat) : FieldType := match pj_cls[ci]? with
  | some q => q.2.2.2 k
  | none => .float
/-- putfield -/
def pj_pf (ci k : Nat) (G : pj_G) : List Value → Option (pj_G × List Value)
  | v :: .ref a :: r => (match pj_get G a with
    | some (.inr (c, fs)) => if c = ci ∧ k < fs.length ∧ pj_fit (pj_ft ci k) v = true then some (pj_put G a (.inr (ci, fs.set k v)), r) else none
    | _ => none)
  | _ => none
theorem pj_pf_s {ci k : Nat} (h : pj_pf ci k G S = some (G', S')) : ∃ v a fs, S = v :: .ref a :: S' ∧ pj_get G a = some (.inr (ci, fs)) ∧ k < fs.length ∧ pj_fit (pj_ft ci k) v = true ∧ G' = pj_put G a (.inr (ci, fs.set k v)) := by
  unfold pj_pf at h
  split at h
  · split at h
    · split at h
      · rename_i hg e1
        obtain ⟨e1, e2, e3⟩ := e1
        subst e1
        cases h
        exact ⟨_, _, _, rfl, hg, e2, e3, rfl⟩
      · cases h
    · cases h
  · cases h
/-- a final field is written in a constructor of its own class alone -/
def pj_okp (own : String) (ini : Bool) (idx ci k pos : Nat) : Bool := match pj_cls[ci]? with
  | none => false
  | some q => !(q.2.1 k).2.2.2 || (ini && decide ((q.2.1 k).1 = own) && pj_wd pos (.fieldLink own idx (q.2.1 k).1 (q.2.1 k).2.1 (q.2.1 k).2.2.1))
theorem pj_pf_snd (hx : p.tables.exec = Jvm.exec) (hb : c.code = cc) (hts : ∀ w ∈ pj_all, w.before args s = true) (hown : s.vm.findClass own = some m.cls) (hK : va_K D vwCl (pj_tys cy) s) {ini : Bool} (hini : ini = true → meth.name = "<init>") {idx ci k pos : Nat} (hok : pj_okf own idx ci k pos = true) (hok2 : pj_okp own ini idx ci k pos = true) (hd : decode cc pc = .ok (.putfield idx, 3)) (h : pj_pf ci k G S = some (G', S'))
    (kk : pj_N p l e R s m args below meth c Q b base cy D ls cells slots G' (pc + 3) S') : pj_N p l e R s m args below meth c Q b base cy D ls cells slots G pc S := by
  intro H locs hP hS
  obtain ⟨v, a, fs, rfl, g1, g2, g3, rfl⟩ := pj_pf_s h
  obtain ⟨q, hq, hk, hw⟩ := pj_okf_s hok
  obtain ⟨i, rfl, hi⟩ := pj_at (b := b) (base := base) (cy := cy) g1
  have hty := pj_cls_3a q (List.mem_of_getElem? hq)
  have hnm := pj_cls_4a q (List.mem_of_getElem? hq)
  have hft : pj_ft ci k = q.2.2.2 k := by unfold pj_ft; rw [hq]
  rw [hft] at g3
  obtain ⟨f1, f2⟩ := pj_fit_s (pj_ad b base) g3
  have hl : k < (fs.map (pj_v (pj_ad b base))).length := by rw [List.length_map]; exact g2
  have hset : (pj_w (pj_ad b base) cy 0 G.1).set i ((pj_ad b base).1 (i + 1), .inr (ci, (fs.map (pj_v (pj_ad b base))).set k (pj_v (pj_ad b base) v))) = pj_w (pj_ad b base) cy 0 (pj_put G (i + 1) (.inr (ci, fs.set k v))).1 := by
    rw [← pj_set, ← List.map_set]
    rfl
  have kk' : ∀ (H1 : Heap) (locs1 : List Loc), va_P D vwCl ((pj_w (pj_ad b base) cy 0 G.1).set i ((pj_ad b base).1 (i + 1), .inr (ci, (fs.map (pj_v (pj_ad b base))).set k (pj_v (pj_ad b base) v)))) H1 → va_D (fun q => base ≤ q) ((pj_w (pj_ad b base) cy 0 G.1).set i ((pj_ad b base).1 (i + 1), .inr (ci, (fs.map (pj_v (pj_ad b base))).set k (pj_v (pj_ad b base) v)))) → va_S (fun q => base ≤ q) s.heap H1 locs1 → W p l e R s m args below meth c H1 locs1 cells slots Q (F0 m (pc + 3) ls (S'.map (pj_v (pj_ad b base)))) := fun H1 locs1 hP1 _ hS1 => kk H1 locs1 (hset ▸ hP1) hS1
  have hok2 : ((q.2.1 k).2.2.2 = false) ∨ ((q.2.1 k).2.2.2 = true ∧ (ini = true ∧ (q.2.1 k).1 = own) ∧ pj_wd pos (.fieldLink own idx (q.2.1 k).1 (q.2.1 k).2.1 (q.2.1 k).2.2.1) = true) := by
    unfold pj_okp at hok2
    rw [hq] at hok2
    cases hf : (q.2.1 k).2.2.2 with
    | false => exact Or.inl rfl
    | true =>
      simp only [hf, Bool.not_true, Bool.false_or, Bool.and_eq_true, decide_eq_true_eq] at hok2
      exact Or.inr ⟨rfl, hok2⟩
  rcases hok2 with hf | ⟨hf, ⟨hi1, hi2⟩, hi3⟩
  · rcases hw with hw | hw
    · exact va_put (D := D) (ci := ci) (C := q.1) (T := q.2.1) (N := q.2.2.1) hx hb hts (pj_cls_2 hq) q.2.2.2 hty hnm hown hK hP (pj_D b base cy G.1) hS i hi (pj_cls_1 hq) k hk (hts _ hw) (fun _ z => z) hf (hty k hk) f1 f2 hl hd kk'
    · exact va_putN (D := D) (ci := ci) (C := q.1) (T := q.2.1) (N := q.2.2.1) hx hb hts (pj_cls_2 hq) q.2.2.2 hty hnm hown hK hP (pj_D b base cy G.1) hS i hi (pj_cls_1 hq) k hk (hts _ hw) (fun _ z => z) hf (hty k hk) f1 f2 hl hd kk'
  · exact va_putF (D := D) (ci := ci) (C := q.1) (T := q.2.1) (N := q.2.2.1) hx hb hts (pj_cls_2 hq) q.2.2.2 hty hnm hown hK hP (pj_D b base cy G.1) hS i hi (pj_cls_1 hq) k hk (hts _ (pj_wd_in hi3)) (fun _ z => z) hf (hini hi1) hi2 (hty k hk) f1 f2 hl hd kk'
/-! arrays -/
theorem pj_rf (ad : pj_A) (r : Option Nat) : pj_v ad (va_rf r) = va_rf (r.map ad.1) := by cases r <;> rfl
def pj_rdi (G : pj_G) : List Value → Option (List Value)
  | .int j :: .ref a :: r => (match pj_get G a with
    | some (.inl (k, n, .inl f)) => if k = 0 ∧ ¬ (j < 0 ∨ n ≤ j.toNatClampNeg) then some (.int (f j.toNatClampNeg) :: r) else none
    | _ => none)
  | _ => none
theorem pj_rdi_s (h : pj_rdi G S = some S') : ∃ (j : Int32) (a : Nat) (r : List Value) (n : Nat) (f : Nat → Int32), S = .int j :: .ref a :: r ∧ pj_get G a = some (.inl (0, n, .inl f)) ∧ vp_in j n ∧ S' = .int (f j.toNatClampNeg) :: r := by
  unfold pj_rdi at h
  split at h
  · split at h
    · split at h
      · rename_i hg e1
        obtain ⟨e1, e2⟩ := e1
        subst e1
        cases h
        exact ⟨_, _, _, _, _, rfl, hg, e2, rfl⟩
      · cases h
    · cases h
  · cases h
theorem pj_rdi_snd (hx : p.tables.exec = Jvm.exec) (hb : c.code = cc) (hK : va_K D vwCl (pj_tys cy) s) (hd : decode cc pc = .ok (.iaload, 1)) (h : pj_rdi G S = some S')
    (kk : pj_N p l e R s m args below meth c Q b base cy D ls cells slots G (pc + 1) S') : pj_N p l e R s m args below meth c Q b base cy D ls cells slots G pc S := by
  intro H locs hP hS
  obtain ⟨j, a, r, n, f, rfl, g1, g2, rfl⟩ := pj_rdi_s h
  obtain ⟨i, rfl, hi⟩ := pj_at (b := b) (base := base) (cy := cy) g1
  have k1 := kk H locs hP hS
  exact va_iald hx hb hK hP i 0 hi rfl g2 hd k1
def pj_rdz (G : pj_G) : List Value → Option (List Value)
  | .int j :: .ref a :: r => (match pj_get G a with
    | some (.inl (k, n, .inl f)) => if k = 2 ∧ ¬ (j < 0 ∨ n ≤ j.toNatClampNeg) then some (.int (f j.toNatClampNeg) :: r) else none
    | _ => none)
  | _ => none
theorem pj_rdz_s (h : pj_rdz G S = some S') : ∃ (j : Int32) (a : Nat) (r : List Value) (n : Nat) (f : Nat → Int32), S = .int j :: .ref a :: r ∧ pj_get G a = some (.inl (2, n, .inl f)) ∧ vp_in j n ∧ S' = .int (f j.toNatClampNeg) :: r := by
  unfold pj_rdz at h
  split at h
  · split at h
    · split at h
      · rename_i hg e1
        obtain ⟨e1, e2⟩ := e1
        subst e1
        cases h
        exact ⟨_, _, _, _, _, rfl, hg, e2, rfl⟩
      · cases h
    · cases h
  · cases h
theorem pj_rdz_snd (hx : p.tables.exec = Jvm.exec) (hb : c.code = cc) (hK : va_K D vwCl (pj_tys cy) s) (hd : decode cc pc = .ok (.baload, 1)) (h : pj_rdz G S = some S')
    (kk : pj_N p l e R s m args below meth c Q b base cy D ls cells slots G (pc + 1) S') : pj_N p l e R s m args below meth c Q b base cy D ls cells slots G pc S := by
  intro H locs hP hS
  obtain ⟨j, a, r, n, f, rfl, g1, g2, rfl⟩ := pj_rdz_s h
  obtain ⟨i, rfl, hi⟩ := pj_at (b := b) (base := base) (cy := cy) g1
  have k1 := kk H locs hP hS
  exact va_zald hx hb hK hP i 2 hi rfl g2 hd k1
def pj_rdl (G : pj_G) : List Value → Option (List Value)
  | .int j :: .ref a :: r => (match pj_get G a with
    | some (.inl (k, n, .inr (.inl f))) => if k = 1 ∧ ¬ (j < 0 ∨ n ≤ j.toNatClampNeg) then some (.long (f j.toNatClampNeg) :: r) else none
    | _ => none)
  | _ => none
theorem pj_rdl_s (h : pj_rdl G S = some S') : ∃ (j : Int32) (a : Nat) (r : List Value) (n : Nat) (f : Nat → Int64), S = .int j :: .ref a :: r ∧ pj_get G a = some (.inl (1, n, .inr (.inl f))) ∧ vp_in j n ∧ S' = .long (f j.toNatClampNeg) :: r := by
  unfold pj_rdl at h
  split at h
  · split at h
    · split at h
      · rename_i hg e1
        obtain ⟨e1, e2⟩ := e1
        subst e1
        cases h
        exact ⟨_, _, _, _, _, rfl, hg, e2, rfl⟩
      · cases h
    · cases h
  · cases h
theorem pj_rdl_snd (hx : p.tables.exec = Jvm.exec) (hb : c.code = cc) (hK : va_K D vwCl (pj_tys cy) s) (hd : decode cc pc = .ok (.laload, 1)) (h : pj_rdl G S = some S')
    (kk : pj_N p l e R s m args below meth c Q b base cy D ls cells slots G (pc + 1) S') : pj_N p l e R s m args below meth c Q b base cy D ls cells slots G pc S := by
  intro H locs hP hS
  obtain ⟨j, a, r, n, f, rfl, g1, g2, rfl⟩ := pj_rdl_s h
  obtain ⟨i, rfl, hi⟩ := pj_at (b := b) (base := base) (cy := cy) g1
  have k1 := kk H locs hP hS
  exact va_lald hx hb hK hP i 1 hi rfl g2 hd k1
def pj_rdq (G : pj_G) : List Value → Option (List Value)
  | .int j :: .ref a :: r => (match pj_get G a with
    | some (.inl (k, n, .inr (.inr (.inr (.inr f))))) => if k = 3 ∧ ¬ (j < 0 ∨ n ≤ j.toNatClampNeg) then some (va_rf (f j.toNatClampNeg) :: r) else none
    | _ => none)
  | _ => none
theorem pj_rdq_s (h : pj_rdq G S = some S') : ∃ (j : Int32) (a : Nat) (r : List Value) (n : Nat) (f : Nat → Option Nat), S = .int j :: .ref a :: r ∧ pj_get G a = some (.inl (3, n, .inr (.inr (.inr (.inr f))))) ∧ vp_in j n ∧ S' = va_rf (f j.toNatClampNeg) :: r := by
  unfold pj_rdq at h
  split at h
  · split at h
    · split at h
      · rename_i hg e1
        obtain ⟨e1, e2⟩ := e1
        subst e1
        cases h
        exact ⟨_, _, _, _, _, rfl, hg, e2, rfl⟩
      · cases h
    · cases h
  · cases h
theorem pj_rdq_snd (hx : p.tables.exec = Jvm.exec) (hb : c.code = cc) (hK : va_K D vwCl (pj_tys cy) s) (hd : decode cc pc = .ok (.aaload, 1)) (h : pj_rdq G S = some S')
    (kk : pj_N p l e R s m args below meth c Q b base cy D ls cells slots G (pc + 1) S') : pj_N p l e R s m args below meth c Q b base cy D ls cells slots G pc S := by
  intro H locs hP hS
  obtain ⟨j, a, r, n, f, rfl, g1, g2, rfl⟩ := pj_rdq_s h
  obtain ⟨i, rfl, hi⟩ := pj_at (b := b) (base := base) (cy := cy) g1
  have k1 := kk H locs hP hS
  rw [List.map_cons, pj_rf] at k1
  exact va_aldq hx hb hK hP i 3 hi rfl g2 hd k1
def pj_asi (G : pj_G) : List Value → Option (pj_G × List Value)
  | .int x :: .int j :: .ref a :: r => (match pj_get G a with
    | some (.inl (k, n, .inl f)) => if k = 0 ∧ ¬ (j < 0 ∨ n ≤ j.toNatClampNeg) then some (pj_put G a (.inl (0, n, .inl (upd f j.toNatClampNeg x))), r) else none
    | _ => none)
  | _ => none
theorem pj_asi_s (h : pj_asi G S = some (G', S')) : ∃ (x : Int32) (j : Int32) (a : Nat) (n : Nat) (f : Nat → Int32), S = .int x :: .int j :: .ref a :: S' ∧ pj_get G a = some (.inl (0, n, .inl f)) ∧ vp_in j n ∧ G' = pj_put G a (.inl (0, n, .inl (upd f j.toNatClampNeg x))) := by
  unfold pj_asi at h
  split at h
  · split at h
    · split at h
      · rename_i hg e1
        obtain ⟨e1, e2⟩ := e1
        subst e1
        cases h
        exact ⟨_, _, _, _, _, rfl, hg, e2, rfl⟩
      · cases h
    · cases h
  · cases h
theorem pj_asi_snd (hx : p.tables.exec = Jvm.exec) (hb : c.code = cc) (hK : va_K D vwCl (pj_tys cy) s) (hd : decode cc pc = .ok (.iastore, 1)) (h : pj_asi G S = some (G', S'))
    (kk : pj_N p l e R s m args below meth c Q b base cy D ls cells slots G' (pc + 1) S') : pj_N p l e R s m args below meth c Q b base cy D ls cells slots G pc S := by
  intro H locs hP hS
  obtain ⟨x, j, a, n, f, rfl, g1, g2, rfl⟩ := pj_asi_s h
  obtain ⟨i, rfl, hi⟩ := pj_at (b := b) (base := base) (cy := cy) g1
  exact va_iast hx hb hK hP (pj_D b base cy G.1) hS i 0 hi rfl g2 hd (fun H1 locs1 hP1 _ hS1 => kk H1 locs1 (pj_set (b := b) (base := base) (cy := cy) (G := G) (i := i) (.inl (0, n, .inl (upd f j.toNatClampNeg x))) ▸ hP1) hS1)
def pj_asz (G : pj_G) : List Value → Option (pj_G × List Value)
  | .int x :: .int j :: .ref a :: r => (match pj_get G a with
    | some (.inl (k, n, .inl f)) => if k = 2 ∧ ¬ (j < 0 ∨ n ≤ j.toNatClampNeg) then some (pj_put G a (.inl (2, n, .inl (upd f j.toNatClampNeg (vp_nar .boolean x)))), r) else none
    | _ => none)
  | _ => none
theorem pj_asz_s (h : pj_asz G S = some (G', S')) : ∃ (x : Int32) (j : Int32) (a : Nat) (n : Nat) (f : Nat → Int32), S = .int x :: .int j :: .ref a :: S' ∧ pj_get G a = some (.inl (2, n, .inl f)) ∧ vp_in j n ∧ G' = pj_put G a (.inl (2, n, .inl (upd f j.toNatClampNeg (vp_nar .boolean x)))) := by
  unfold pj_asz at h
  split at h
  · split at h
    · split at h
      · rename_i hg e1
        obtain ⟨e1, e2⟩ := e1
        subst e1
        cases h
        exact ⟨_, _, _, _, _, rfl, hg, e2, rfl⟩
      · cases h
    · cases h
  · cases h
theorem pj_asz_snd (hx : p.tables.exec = Jvm.exec) (hb : c.code = cc) (hK : va_K D vwCl (pj_tys cy) s) (hd : decode cc pc = .ok (.bastore, 1)) (h : pj_asz G S = some (G', S'))
    (kk : pj_N p l e R s m args below meth c Q b base cy D ls cells slots G' (pc + 1) S') : pj_N p l e R s m args below meth c Q b base cy D ls cells slots G pc S := by
  intro H locs hP hS
  obtain ⟨x, j, a, n, f, rfl, g1, g2, rfl⟩ := pj_asz_s h
  obtain ⟨i, rfl, hi⟩ := pj_at (b := b) (base := base) (cy := cy) g1
  exact va_zast hx hb hK hP (pj_D b base cy G.1) hS i 2 hi rfl g2 hd (fun H1 locs1 hP1 _ hS1 => kk H1 locs1 (pj_set (b := b) (base := base) (cy := cy) (G := G) (i := i) (.inl (2, n, .inl (upd f j.toNatClampNeg (vp_nar .boolean x)))) ▸ hP1) hS1)
def pj_asl (G : pj_G) : List Value → Option (pj_G × List Value)
  | .long x :: .int j :: .ref a :: r => (match pj_get G a with
    | some (.inl (k, n, .inr (.inl f))) => if k = 1 ∧ ¬ (j < 0 ∨ n ≤ j.toNatClampNeg) then some (pj_put G a (.inl (1, n, .inr (.inl (vp_updL f j.toNatClampNeg x)))), r) else none
    | _ => none)
  | _ => none
theorem pj_asl_s (h : pj_asl G S = some (G', S')) : ∃ (x : Int64) (j : Int32) (a : Nat) (n : Nat) (f : Nat → Int64), S = .long x :: .int j :: .ref a :: S' ∧ pj_get G a = some (.inl (1, n, .inr (.inl f))) ∧ vp_in j n ∧ G' = pj_put G a (.inl (1, n, .inr (.inl (vp_updL f j.toNatClampNeg x)))) := by
  unfold pj_asl at h
  split at h
  · split at h
    · split at h
      · rename_i hg e1
        obtain ⟨e1, e2⟩ := e1
        subst e1
        cases h
        exact ⟨_, _, _, _, _, rfl, hg, e2, rfl⟩
      · cases h
    · cases h
  · cases h
theorem pj_asl_snd (hx : p.tables.exec = Jvm.exec) (hb : c.code = cc) (hK : va_K D vwCl (pj_tys cy) s) (hd : decode cc pc = .ok (.lastore, 1)) (h : pj_asl G S = some (G', S'))
    (kk : pj_N p l e R s m args below meth c Q b base cy D ls cells slots G' (pc + 1) S') : pj_N p l e R s m args below meth c Q b base cy D ls cells slots G pc S := by
  intro H locs hP hS
  obtain ⟨x, j, a, n, f, rfl, g1, g2, rfl⟩ := pj_asl_s h
  obtain ⟨i, rfl, hi⟩ := pj_at (b := b) (base := base) (cy := cy) g1
  exact va_last hx hb hK hP (pj_D b base cy G.1) hS i 1 hi rfl g2 hd (fun H1 locs1 hP1 _ hS1 => kk H1 locs1 (pj_set (b := b) (base := base) (cy := cy) (G := G) (i := i) (.inl (1, n, .inr (.inl (vp_updL f j.toNatClampNeg x)))) ▸ hP1) hS1)
def pj_asq (G : pj_G) : List Value → Option (pj_G × List Value)
  | .ref v :: .int j :: .ref a :: r => (match pj_get G a with
    | some (.inl (k, n, .inr (.inr (.inr (.inr f))))) => (match pj_get G v with
      | some (.inr (ci, _)) => if k = 3 ∧ ci = 8 ∧ ¬ (j < 0 ∨ n ≤ j.toNatClampNeg) then some (pj_put G a (.inl (3, n, .inr (.inr (.inr (.inr (va_up f j.toNatClampNeg (some v))))))), r) else none
      | _ => none)
    | _ => none)
  | _ => none
theorem pj_asq_s (h : pj_asq G S = some (G', S')) : ∃ (v : Nat) (j : Int32) (a : Nat) (n : Nat) (f : Nat → Option Nat) (fs : List Value), S = .ref v :: .int j :: .ref a :: S' ∧ pj_get G a = some (.inl (3, n, .inr (.inr (.inr (.inr f))))) ∧ pj_get G v = some (.inr (8, fs)) ∧ vp_in j n ∧ G' = pj_put G a (.inl (3, n, .inr (.inr (.inr (.inr (va_up f j.toNatClampNeg (some v))))))) := by
  unfold pj_asq at h
  split at h
  · split at h
    · split at h
      · split at h
        · rename_i hg _ _ _ hg2 e1
          obtain ⟨e1, e2, e3⟩ := e1
          subst e1
          subst e2
          cases h
          exact ⟨_, _, _, _, _, _, rfl, hg, hg2, e3, rfl⟩
        · cases h
      · cases h
    · cases h
  · cases h
theorem pj_asq_snd (hx : p.tables.exec = Jvm.exec) (hb : c.code = cc) (hK : va_K D vwCl (pj_tys cy) s) (hd : decode cc pc = .ok (.aastore, 1)) (h : pj_asq G S = some (G', S'))
    (kk : pj_N p l e R s m args below meth c Q b base cy D ls cells slots G' (pc + 1) S') : pj_N p l e R s m args below meth c Q b base cy D ls cells slots G pc S := by
  intro H locs hP hS
  obtain ⟨v, j, a, n, f, fs, rfl, g1, g3, g2, rfl⟩ := pj_asq_s h
  obtain ⟨i, rfl, hi⟩ := pj_at (b := b) (base := base) (cy := cy) g1
  obtain ⟨i2, rfl, hi2⟩ := pj_at (b := b) (base := base) (cy := cy) g3
  have hc : vwCl[8]? = some (RX8, TX8, 9) := rfl
  have e : (fun k => (va_up f j.toNatClampNeg (some (i2 + 1)) k).map (pj_ad b base).1) = va_up (fun k => (f k).map (pj_ad b base).1) j.toNatClampNeg (some ((pj_ad b base).1 (i2 + 1))) := by
    funext k
    by_cases z : k = j.toNatClampNeg
    · simp [va_up, z]
    · simp [va_up, z]
  have hset := pj_set (b := b) (base := base) (cy := cy) (G := G) (i := i) (.inl (3, n, .inr (.inr (.inr (.inr (va_up f j.toNatClampNeg (some (i2 + 1))))))))
  simp only [pj_e, pj_a, e] at hset
  exact va_astq (r := (RX8, TX8, 9)) hx hb hK hP (pj_D b base cy G.1) hS i 3 i2 8 hi rfl hi2 hc g2 hd (fun H1 locs1 hP1 _ hS1 => kk H1 locs1 (hset ▸ hP1) hS1)
/-- the length of an array; of the script -/
def pj_aln (n0 : Nat) (G : pj_G) : List Value → Option (List Value)
  | .ref 0 :: r => some (.int (Int32.ofNat n0) :: r)
  | .ref a :: r => (match pj_get G a with
    | some (.inl (k, x)) => if k < 4 then some (.int (Int32.ofNat x.1) :: r) else none
    | _ => none)
  | _ => none
theorem pj_aln_snd (hx : p.tables.exec = Jvm.exec) (hb : c.code = cc) (hK : va_K D vwCl (pj_tys cy) s) {n0 : Nat} {xs : Nat → Int32} (hX : va_X b.1 n0 xs s s.heap) (hbl : b.1 < s.heap.size) (hbb : b.1 < base) (hd : decode cc pc = .ok (.arraylength, 1)) (h : pj_aln n0 G S = some S')
    (kk : pj_N p l e R s m args below meth c Q b base cy D ls cells slots G (pc + 1) S') : pj_N p l e R s m args below meth c Q b base cy D ls cells slots G pc S := by
  intro H locs hP hS
  have k1 := kk H locs hP hS
  unfold pj_aln at h
  split at h
  · cases h
    exact va_slen hx hb hX hbl (Nat.not_le.mpr hbb) hS hd k1
  · split at h
    · split at h
      · rename_i kd x g1 g2
        cases h
        obtain ⟨i, rfl, hi⟩ := pj_at (b := b) (base := base) (cy := cy) g1
        have h4 : ∃ ty, (pj_tys cy)[kd]? = some (cy kd, ty) := by
          match kd, g2 with
          | 0, _ => exact ⟨_, rfl⟩
          | 1, _ => exact ⟨_, rfl⟩
          | 2, _ => exact ⟨_, rfl⟩
          | 3, _ => exact ⟨_, rfl⟩
          | k + 4, z => exact absurd z (by omega)
        obtain ⟨ty, hty⟩ := h4
        exact va_alen hx hb hK hP i kd hi hty rfl hd k1
      · cases h
    · cases h
  · cases h
/-- the script's ints -/
def pj_sc (n0 : Nat) (xs : Nat → Int32) : List Value → Option (List Value)
  | .int j :: .ref 0 :: r => if ¬ (j < 0 ∨ n0 ≤ j.toNatClampNeg) then some (.int (xs j.toNatClampNeg) :: r) else none
  | _ => none
theorem pj_sc_snd (hx : p.tables.exec = Jvm.exec) (hb : c.code = cc) {n0 : Nat} {xs : Nat → Int32} (hX : va_X b.1 n0 xs s s.heap) (hbl : b.1 < s.heap.size) (hbb : b.1 < base) (hd : decode cc pc = .ok (.iaload, 1)) (h : pj_sc n0 xs S = some S')
    (kk : pj_N p l e R s m args below meth c Q b base cy D ls cells slots G (pc + 1) S') : pj_N p l e R s m args below meth c Q b base cy D ls cells slots G pc S := by
  intro H locs hP hS
  have k1 := kk H locs hP hS
  unfold pj_sc at h
  split at h
  · split at h
    · rename_i g
      cases h
      exact va_sld hx hb hX hbl (Nat.not_le.mpr hbb) hS g hd k1
    · cases h
  · cases h
end PJH
end
section
/-! WHAT STANDS OUTSIDE: the script, String constants, statics that a throw reads -/
def pj_strs : List (String × Nat × String) := [("BridgesAreLent", 147, "no such crossing, or nothing such of it"), ("BridgesAreLent", 174, "no such bridge, or nothing such of it"), ("BridgesAreLent", 194, "no such person, or nothing such of it"), ("BridgesAreLent", 421, "the row has no such number"), ("BridgesAreLent$Day", 39, "tlch"), ("BridgesAreLent$Rule", 38, "<>="), ("BridgesAreLent$Rule", 40, "+-"), ("BridgesAreLent$Rule", 42, "*/"), ("BridgesAreLent$Rule", 79, "dulswbn"), ("BridgesAreLentModel", 200, "123456789"), ("BridgesAreLentModel", 208, "2345678"), ("BridgesAreLentModel", 243, "dulswbn"), ("BridgesAreLentModel", 248, "<>="), ("BridgesAreLentModel", 250, "+-"), ("BridgesAreLentModel", 252, "*/"), ("BridgesAreLentModel", 367, "tlch")]
/-- the codes of the signs of a String constant -/
def pj_byt (k : Nat) : List Int32 := match pj_strs[k]? with
  | some q => q.2.2.toList.map (fun ch => Int32.ofNat ch.toNat)
  | none => []
def pj_O (b : Nat × (Nat → Nat)) (base n0 : Nat) (xs : Nat → Int32) (adV : Nat → Nat) (U : State) (H : Heap) : Prop :=
  (va_X b.1 n0 xs U H ∧ b.1 < base) ∧
  (∀ (k : Nat) (q : String × Nat × String), pj_strs[k]? = some q → vk_R q.1 q.2.1 q.2.2 (b.2 k) U ∧ va_O "java/lang/String" (b.2 k) (fun q => base ≤ q) U H ∧ va_OF "java/lang/String" "coder" "B" (.int 0) (b.2 k) (fun q => base ≤ q) U H ∧ va_OF "java/lang/String" "value" "[B" (.ref (adV k)) (b.2 k) (fun q => base ≤ q) U H ∧ va_T .byte (adV k) (pj_byt k).length (fun j => .int ((pj_byt k).getD j 0)) (fun q => base ≤ q) U H) ∧
  va_Z "java/lang/String" "COMPACT_STRINGS" "Z" (.int 1) (fun q => base ≤ q) U H ∧ vx_Zq Bundle.tN "UNASSIGNED_STACK" Bundle.steD (fun q => base ≤ q) U H ∧ vx_Zq Bundle.tN "SUPPRESSED_SENTINEL" Bundle.listD (fun q => base ≤ q) U H
theorem pj_O_kept {b : Nat × (Nat → Nat)} {base n0 : Nat} {xs : Nat → Int32} {adV : Nat → Nat} {U : State} {H H1 : Heap} (h : pj_O b base n0 xs adV U H) (hz : base ≤ H.size) (hq : ∀ a : Nat, a < H.size → ¬ base ≤ a → H1[a]? = H[a]?) : pj_O b base n0 xs adV U H1 := by
  obtain ⟨⟨h1, h2⟩, h3, h4, h5, h6⟩ := h
  exact ⟨⟨h1.kept (hq b.1 (by omega) (by omega)), h2⟩, fun k q hk => ⟨(h3 k q hk).1, (h3 k q hk).2.1.kept hq, (h3 k q hk).2.2.1.kept hq, (h3 k q hk).2.2.2.1.kept hq, (h3 k q hk).2.2.2.2.kept hq⟩, h4.kept hq, h5.kept hq, h6.kept hq⟩
theorem pj_O_moved {b : Nat × (Nat → Nat)} {base n0 : Nat} {xs : Nat → Int32} {adV : Nat → Nat} {s U : State} {H : Heap} (hW : s.WarmedH U.vm) (h : pj_O b base n0 xs adV s H) : pj_O b base n0 xs adV U H := by
  obtain ⟨⟨h1, h2⟩, h3, h4, h5, h6⟩ := h
  exact ⟨⟨h1.moved hW.alike, h2⟩, fun k q hk => ⟨(h3 k q hk).1.warm hW, (h3 k q hk).2.1.moved hW.alike, (h3 k q hk).2.2.1.moved hW.alike, (h3 k q hk).2.2.2.1.moved hW.alike, (h3 k q hk).2.2.2.2.moved hW.alike⟩, h4.moved hW.alike, h5.moved hW.alike, h6.moved hW.alike⟩
theorem pj_w_len (ad : pj_A) (cy : Nat → ClassId) : ∀ (σ : List pj_C) (k : Nat), (pj_w ad cy k σ).length = σ.length
  | [], _ => rfl
  | c :: t, k => by simp only [pj_w, List.length_cons, pj_w_len ad cy t (k + 1)]
theorem pj_fresh {b : Nat × (Nat → Nat)} {base : Nat} {cy : Nat → ClassId} {D : va_G} {σ : List pj_C} {q : Nat} {x : va_E} {H1 : Heap} (hP : va_P D vwCl (pj_w (pj_ad b base) cy 0 σ ++ [(q, x)]) H1) (hD : va_D (fun q => base ≤ q) (pj_w (pj_ad b base) cy 0 σ ++ [(q, x)])) (hz : H1.size ≤ base + σ.length + 1) : q = base + σ.length := by
  have hlen := pj_w_len (pj_ad b base) cy σ 0
  have h0 : (pj_w (pj_ad b base) cy 0 σ ++ [(q, x)])[σ.length]? = some (q, x) := by rw [← hlen, List.getElem?_append_right (Nat.le_refl _), Nat.sub_self]; rfl
  have h1 : q < H1.size := (hP _ _ h0).lt
  have h2 : base ≤ q := hD.2 _ _ h0
  rcases Nat.lt_or_ge q (base + σ.length) with h | h
  · have hi : q - base < σ.length := by omega
    have h3 : (pj_w (pj_ad b base) cy 0 σ ++ [(q, x)])[q - base]? = some ((pj_ad b base).1 (0 + (q - base) + 1), pj_e (pj_ad b base) cy σ[q - base]) := by
      rw [List.getElem?_append_left (by rw [hlen]; exact hi), pj_w_get, List.getElem?_eq_getElem hi]
      rfl
    have h4 := hD.1 _ _ _ _ h3 h0 (show base + (0 + (q - base)) = q by omega)
    omega
  · omega
theorem pj_app {b : Nat × (Nat → Nat)} {base : Nat} {cy : Nat → ClassId} {σ : List pj_C} (x : pj_C) : pj_w (pj_ad b base) cy 0 σ ++ [(base + σ.length, pj_e (pj_ad b base) cy x)] = pj_w (pj_ad b base) cy 0 (σ ++ [x]) := by
  rw [pj_w_app, Nat.zero_add]
  rfl
section PJM
variable {p : Program} {l : Launch} {e : Env} {R : Room} {s : State} {m : MethodId} {args : Array Value} {below : List Frame} {meth : Method} {c : Code} {H : Heap} {locs : List Loc} {cells slots : Nat} {Q : State → Prop}
variable {cc : ByteArray} {pc : Nat} {ls : Array Slot} {b : Nat × (Nat → Nat)} {base : Nat} {cy : Nat → ClassId} {D : va_G} {G G' : pj_G} {S S' : List Value} {own : String} {dc ds : Nat}
/-- no more cells are there than were counted -/
theorem pj_exact {g : JFrame} (k : H.size ≤ s.heap.size + cells → W p l e R s m args below meth c H locs cells slots Q g) : W p l e R s m args below meth c H locs cells slots Q g := fun T hT X => k (by have h := X.same.2.2.1; rw [← hT]; exact h) T hT X
def pj_nw (ci : Nat) (G : pj_G) (S : List Value) : Option (pj_G × List Value × Nat) := match pj_cls[ci]? with
  | some q => if G.2 = true then some ((G.1 ++ [.inr (ci, (List.range q.2.2.1).map (fun k => defaultValue (q.2.2.2 k)))], true), .ref (G.1.length + 1) :: S, q.2.2.1) else none
  | none => none
def pj_okn (own : String) (idx ci p1 p2 p3 : Nat) : Bool := match pj_cls[ci]? with
  | some q => pj_wd p1 (.classLink own idx q.1) && pj_wd p2 (.instantiable q.1 q.2.2.1) && pj_wd p3 (.initialized q.1)
  | none => false
theorem pj_df (ad : pj_A) (ty : FieldType) : pj_v ad (defaultValue ty) = defaultValue ty := by cases ty <;> rfl
theorem pj_nw_snd (hx : p.tables.exec = Jvm.exec) (hb : c.code = cc) (hts : ∀ w ∈ pj_all, w.before args s = true) (hown : s.vm.findClass own = some m.cls) (hK : va_K D vwCl (pj_tys cy) s) (hbs : base ≤ s.heap.size) (hex : G.2 = true → s.heap.size + cells = base + G.1.length) {idx ci p1 p2 p3 : Nat} (hok : pj_okn own idx ci p1 p2 p3 = true) (hd : decode cc pc = .ok (.new idx, 3)) (h : pj_nw ci G S = some (G', S', ds)) (hc : cells + 1 ≤ R.cells) (hs : slots + ds ≤ R.slots)
    (kk : pj_N p l e R s m args below meth c Q b base cy D ls (cells + 1) (slots + ds) G' (pc + 3) S') : pj_N p l e R s m args below meth c Q b base cy D ls cells slots G pc S := by
  intro H locs hP hS
  unfold pj_nw at h
  split at h
  · rename_i q hq
    split at h
    · rename_i h2
      cases h
      simp only [pj_okn, hq, Bool.and_eq_true] at hok
      obtain ⟨⟨w1, w2⟩, w3⟩ := hok
      refine va_new (ci := ci) (fs := ((List.range q.2.2.1).map (fun k => defaultValue (q.2.2.2 k))).map (pj_v (pj_ad b base))) (C := q.1) (T := q.2.1) (N := q.2.2.1) hx hb hts (pj_cls_2 hq) q.2.2.2 (pj_cls_3a q (List.mem_of_getElem? hq)) hown (hts _ (pj_wd_in w1)) (hts _ (pj_wd_in w2)) (hts _ (pj_wd_in w3)) hK hP (pj_D b base cy G.1) hS (fun _ z => Nat.le_trans hbs z) (pj_cls_1 hq) ?_ hc hs hd (fun a H1 hP1 hD1 hS1 => ?_)
      · intro j hj
        simp [vp_V, hj, pj_df]
      · refine pj_exact (fun hz => ?_)
        have e1 := hex h2
        have ha := pj_fresh hP1 hD1 (by omega)
        subst ha
        exact kk H1 locs (pj_app (b := b) (base := base) (cy := cy) (.inr (ci, (List.range q.2.2.1).map (fun k => defaultValue (q.2.2.2 k)))) ▸ hP1) hS1
    · cases h
  · cases h
/-- newarray: the kind, and what it begins with -/
def pj_na0 (N : Nat) : ArrayType → Option pj_C
  | .int => some (.inl (0, N, .inl (fun _ => 0)))
  | .long => some (.inl (1, N, .inr (.inl (fun _ => 0))))
  | .boolean => some (.inl (2, N, .inl (fun _ => 0)))
  | _ => none
def pj_na (at_ : ArrayType) (G : pj_G) : List Value → Option (pj_G × List Value × Nat)
  | .int n :: r => if G.2 = true ∧ ¬ n < 0 ∧ n.toNatClampNeg ≤ 10000 then (match pj_na0 n.toNatClampNeg at_ with
    | some x => some ((G.1 ++ [x], true), .ref (G.1.length + 1) :: r, n.toNatClampNeg)
    | none => none) else none
  | _ => none
theorem pj_na_snd (hx : p.tables.exec = Jvm.exec) (hb : c.code = cc) (hts : ∀ w ∈ pj_all, w.before args s = true) (hK : va_K D vwCl (pj_tys cy) s) (hbs : base ≤ s.heap.size) (hex : G.2 = true → s.heap.size + cells = base + G.1.length) {at_ : ArrayType} {p1 : Nat} (hok : pj_wd p1 (.arrayClass (newarray.typeOf at_)) = true) (hd : decode cc pc = .ok (.newarray at_, 2)) (h : pj_na at_ G S = some (G', S', ds)) (hc : cells + 1 ≤ R.cells) (hs : slots + ds ≤ R.slots)
    (kk : pj_N p l e R s m args below meth c Q b base cy D ls (cells + 1) (slots + ds) G' (pc + 2) S') : pj_N p l e R s m args below meth c Q b base cy D ls cells slots G pc S := by
  intro H locs hP hS
  unfold pj_na at h
  split at h
  · rename_i n r
    split at h
    · rename_i hg
      obtain ⟨h2, h3, h4⟩ := hg
      split at h
      · rename_i x hx0
        cases h
        have key : ∀ (ty : FieldType) (kd : Nat) (a0 : vp_A), newarray.typeOf at_ = ty → (pj_tys cy)[kd]? = some (cy kd, ty) → (∀ cA, va_RA s cA ty → va_RA s (cy kd) ty → cA = cy kd) → x = .inl (kd, a0) → pj_a (pj_ad b base) a0 = a0 → (∀ cA : ClassId, vp_cell cA a0 = arrV cA n.toNatClampNeg (fun _ => defaultValue ty)) → n.toNatClampNeg * componentBytes ty ≤ 536870912 → W p l e R s m args below meth c H locs cells slots Q (F0 m pc ls ((Value.int n :: r).map (pj_v (pj_ad b base)))) := by
          intro ty kd a0 hty htk huq he hpa ha hby
          refine va_newa (ty := ty) (a0 := a0) hx hb (hts _ (pj_wd_in hok)) hty hK hP (pj_D b base cy G.1) hS (fun _ z => Nat.le_trans hbs z) ha h3 rfl hby hc hs hd (fun a cA H1 hK1 hP1 hD1 hS1 => ?_)
          refine pj_exact (fun hz => ?_)
          have e1 := hex h2
          have ha2 := pj_fresh hP1 hD1 (by omega)
          subst ha2
          have hcA : cA = cy kd := huq cA (hK1.2 4 (cA, ty) rfl).2 (hK.2 kd _ htk).2
          subst hcA
          subst he
          have e2 := pj_app (b := b) (base := base) (cy := cy) (σ := G.1) (.inl (kd, a0))
          simp only [pj_e, hpa] at e2
          exact kk H1 locs (e2 ▸ hP1) hS1
        cases at_
        case int => exact key .int 0 _ rfl rfl (fun cA z1 z2 => Option.some.inj (z1.symm.trans z2)) (Option.some.inj hx0).symm rfl (fun cA => rfl) (by show _ * 4 ≤ _; omega)
        case long => exact key .long 1 _ rfl rfl (fun cA z1 z2 => Option.some.inj (z1.symm.trans z2)) (Option.some.inj hx0).symm rfl (fun cA => rfl) (by show _ * 8 ≤ _; omega)
        case boolean => exact key .boolean 2 _ rfl rfl (fun cA z1 z2 => Option.some.inj (z1.symm.trans z2)) (Option.some.inj hx0).symm rfl (fun cA => rfl) (by show _ * 1 ≤ _; omega)
        all_goals cases hx0
      · cases h
    · cases h
  · cases h
/-- anewarray, of State -/
def pj_nq (G : pj_G) : List Value → Option (pj_G × List Value × Nat)
  | .int n :: r => if G.2 = true ∧ ¬ n < 0 ∧ n.toNatClampNeg ≤ 10000 then some ((G.1 ++ [.inl (3, n.toNatClampNeg, .inr (.inr (.inr (.inr (fun _ => none)))))], true), .ref (G.1.length + 1) :: r, n.toNatClampNeg) else none
  | _ => none
theorem pj_nq_snd (hx : p.tables.exec = Jvm.exec) (hb : c.code = cc) (hts : ∀ w ∈ pj_all, w.before args s = true) (hown : s.vm.findClass own = some m.cls) (hK : va_K D vwCl (pj_tys cy) s) (hbs : base ≤ s.heap.size) (hex : G.2 = true → s.heap.size + cells = base + G.1.length) {idx p1 p2 : Nat} (hok : pj_wd p1 (.classLink own idx RX8) = true) (hok2 : pj_wd p2 (.arrayOver (.object RX8)) = true) (hd : decode cc pc = .ok (.anewarray idx, 3)) (h : pj_nq G S = some (G', S', ds)) (hc : cells + 1 ≤ R.cells) (hs : slots + ds ≤ R.slots)
    (kk : pj_N p l e R s m args below meth c Q b base cy D ls (cells + 1) (slots + ds) G' (pc + 3) S') : pj_N p l e R s m args below meth c Q b base cy D ls cells slots G pc S := by
  intro H locs hP hS
  unfold pj_nq at h
  split at h
  · rename_i n r
    split at h
    · rename_i hg
      obtain ⟨h2, h3, h4⟩ := hg
      cases h
      refine va_newq hx hb hown (hts _ (pj_wd_in hok)) (va_AO.of (hts _ (pj_wd_in hok2))) hK hP (pj_D b base cy G.1) hS (fun _ z => Nat.le_trans hbs z) h3 rfl (by omega) hc hs hd (fun a cA H1 hK1 hP1 hD1 hS1 => ?_)
      refine pj_exact (fun hz => ?_)
      have e1 := hex h2
      have ha2 := pj_fresh hP1 hD1 (by omega)
      subst ha2
      obtain ⟨k1, c1, -, -, -, q1⟩ := (hK1.2 4 (cA, .object RX8) rfl).2
      obtain ⟨k2, c2, -, -, -, q2⟩ := (hK.2 3 (cy 3, .object RX8) rfl).2
      have hcA : cA = cy 3 := Option.some.inj (q1.symm.trans q2)
      subst hcA
      exact kk H1 locs (pj_app (b := b) (base := base) (cy := cy) (σ := G.1) (.inl (3, n.toNatClampNeg, .inr (.inr (.inr (.inr (fun _ => none)))))) ▸ hP1) hS1
    · cases h
  · cases h
end PJM
end
section
/-! CONTRACTS OF THE PURE MACHINE'S METHODS, CALLS -/
def pj_P (b : Nat × (Nat → Nat)) (base : Nat) (cy : Nat → ClassId) (D : va_G) (n0 : Nat) (xs : Nat → Int32) (adV : Nat → Nat) (vs : List Value) (G : pj_G) : Array Value → State → Prop := fun a U =>
  a = (vs.map (pj_v (pj_ad b base))).toArray ∧ va_P D vwCl (pj_w (pj_ad b base) cy 0 G.1) U.heap ∧ va_K D vwCl (pj_tys cy) U ∧ (base ≤ U.heap.size ∧ (G.2 = true → U.heap.size = base + G.1.length)) ∧ pj_O b base n0 xs adV U U.heap
def pj_Q (b : Nat × (Nat → Nat)) (base : Nat) (cy : Nat → ClassId) (D : va_G) (v : Option Value) (G : pj_G) : Array Value → State → Outcome → State → Prop := fun _ st oc t =>
  oc = .returned (v.map (pj_v (pj_ad b base))) ∧ va_P D vwCl (pj_w (pj_ad b base) cy 0 G.1) t.heap ∧ va_F (fun q => base ≤ q) st t
theorem pj_P_blind {b : Nat × (Nat → Nat)} {base : Nat} {cy : Nat → ClassId} {D : va_G} {n0 : Nat} {xs : Nat → Int32} {adV : Nat → Nat} {vs : List Value} {G : pj_G} : FrameBlind (pj_P b base cy D n0 xs adV vs G) := by
  intro a U g mk h
  obtain ⟨h1, h2, h3, h4, h5⟩ := h
  exact ⟨h1, h2, va_K.moved (u := U) (U := U.calling g mk a) (Vm.Alike.refl U.vm) h3, h4, pj_O_moved (s := U) (U := U.calling g mk a) (State.WarmedH.refl U) h5⟩
section PJC
variable {p : Program} {l : Launch} {e : Env} {R : Room} {s : State} {m : MethodId} {args : Array Value} {below : List Frame} {meth : Method} {c : Code} {H : Heap} {locs : List Loc} {cells slots : Nat} {Q : State → Prop}
variable {cc : ByteArray} {pc : Nat} {ls : Array Slot} {b : Nat × (Nat → Nat)} {base : Nat} {cy : Nat → ClassId} {D : va_G} {G G' : pj_G} {S S' : List Value} {own : String} {dc ds : Nat}
/-- a world holds at least its cells -/
theorem pj_low {σ : List pj_C} (hP : va_P D vwCl (pj_w (pj_ad b base) cy 0 σ) H) (hz : base ≤ H.size) : base + σ.length ≤ H.size := by
  cases hσ : σ.length with
  | zero => omega
  | succ n =>
    have hi : n < σ.length := by omega
    have h1 : (pj_w (pj_ad b base) cy 0 σ)[n]? = some ((pj_ad b base).1 (0 + n + 1), pj_e (pj_ad b base) cy σ[n]) := by
      rw [pj_w_get, List.getElem?_eq_getElem hi]
      rfl
    have h2 : base + (0 + n) < H.size := (hP _ _ h1).lt
    omega
/-- behind a call -/
theorem pj_after {rest : List Value} {a : Array Value} {v : Option Value} {st0 : List Value} (hr : va_Run p l e R s m args below meth c H locs cells slots dc ds (F0 m pc ls st0) (rest.map (pj_v (pj_ad b base))) (pj_Q b base cy D v G' a) (fun q => base ≤ q)) (hS : va_S (fun q => base ≤ q) s.heap H locs)
    (kk : pj_N p l e R s m args below meth c Q b base cy D ls (cells + dc) (slots + ds) G' (pc + 3) (v.toList ++ rest)) : W p l e R s m args below meth c H locs cells slots Q (F0 m pc ls st0) := by
  intro T hT X
  obtain ⟨v', st₀, t, T', L, h0, X', hL, e1, e2, ⟨hv, hp, hz, hk⟩, st⟩ := hr T hT X
  have hv' : v' = v.map (pj_v (pj_ad b base)) := Outcome.returned.inj hv
  subst hv'
  rw [h0] at hz hk
  have hS' : va_S (fun q => base ≤ q) s.heap T'.heap (locs ++ L) := ⟨Nat.le_trans hS.1 (by rw [e1]; exact hz), fun q h1 h2 => by rw [e1, hk q (Nat.lt_of_lt_of_le h1 hS.1) h2]; exact hS.2.1 q h1 h2, fun q hq => by
      rcases List.mem_append.mp hq with h | h
      · exact hS.2.2 q h
      · exact hL q h⟩
  have k1 := kk T'.heap (locs ++ L) (by rw [e1]; exact hp) hS'
  have e3 : (v.toList ++ rest).map (pj_v (pj_ad b base)) = (v.map (pj_v (pj_ad b base))).toList ++ rest.map (pj_v (pj_ad b base)) := by cases v <;> simp
  rw [e3] at k1
  obtain ⟨t2, a1, b1⟩ := k1 T' rfl X'
  exact ⟨t2, st t2 a1, b1⟩
/-- what holds ahead of a call -/
theorem pj_pre {n0 : Nat} {xs : Nat → Int32} {adV : Nat → Nat} {vs : List Value} (hK : va_K D vwCl (pj_tys cy) s) (hO : pj_O b base n0 xs adV s s.heap) (hbs : base ≤ s.heap.size) (hP : va_P D vwCl (pj_w (pj_ad b base) cy 0 G.1) H) (hS : va_S (fun q => base ≤ q) s.heap H locs) (hz : H.size ≤ s.heap.size + cells) (hex : G.2 = true → s.heap.size + cells = base + G.1.length) :
    ∀ U : State, U.heap = H → s.WarmedH U.vm → pj_P b base cy D n0 xs adV vs G (vs.map (pj_v (pj_ad b base))).toArray U := by
  intro U hU hW
  have hz2 : base ≤ H.size := Nat.le_trans hbs hS.1
  refine ⟨rfl, by rw [hU]; exact hP, va_K.moved hW.alike hK, ⟨by rw [hU]; exact hz2, fun h => ?_⟩, ?_⟩
  · have h1 := hex h
    have h2 := pj_low hP hz2
    rw [hU]
    omega
  · rw [hU]
    exact pj_O_moved hW (pj_O_kept hO hbs (fun a h1 h2 => hS.2.1 a h1 h2))
/-- the words of a callee, all of them steady -/
def pj_ws (y : MethodName) (bytes : ByteArray) (maxL : Nat) (ret : Option FieldType) : List Jvm.Cond := Jvm.Cond.code y bytes maxL ret :: pj_all
theorem pj_warm {y : MethodName} {bytes : ByteArray} {maxL : Nat} {ret : Option FieldType} (hts : ∀ w ∈ pj_all, w.before args s = true) (hc : Jvm.Cond.code y bytes maxL ret ∈ pj_all) : ∀ w ∈ pj_ws y bytes maxL ret, ∀ (a' : Array Value) (U : State), s.WarmedH U.vm → w.before a' U = true := by
  intro w hw a' U hW
  have h1 : w ∈ pj_all := by
    rcases List.mem_cons.mp hw with rfl | h
    · exact hc
    · exact h
  exact pj_stb_warm (List.mem_filter.mp h1).2 hW (hts w h1)
def pj_rm (d dc ds : Nat) : Room := { frames := d, cells := dc, slots := ds, locals := 64 * d }
/-- method tables: name, code, locals, answer; places of its words: code, initialized, instanceMethod or static, selects; instructions -/
abbrev pj_I : Type := Nat × Instr × Nat × List Nat × Int
abbrev pj_M : Type := MethodName × ByteArray × Nat × Option FieldType × List Nat × List pj_I
/-- the contract of a method at a depth -/
abbrev pj_Met (l : Launch) (b : Nat × (Nat → Nat)) (base : Nat) (cy : Nat → ClassId) (D : va_G) (n0 : Nat) (xs : Nat → Int32) (adV : Nat → Nat) (d : Nat) (M : pj_M) (vs : List Value) (G : pj_G) (v : Option Value) (G' : pj_G) (dc ds : Nat) : Prop :=
  Met l M.1 (pj_ws M.1 M.2.1 M.2.2.1 M.2.2.2.1) (pj_rm d dc ds) (pj_P b base cy D n0 xs adV vs G) (pj_Q b base cy D v G') dc ds (fun q => base ≤ q)
/-- what a method's row must hold, however it is called -/
def pj_okM (M : pj_M) (n : Nat) : Bool := pj_wd (M.2.2.2.2.1.getD 0 0) (.code M.1 M.2.1 M.2.2.1 M.2.2.2.1) && pj_wd (M.2.2.2.2.1.getD 1 0) (.initialized M.1.cls) && (decide (M.1.cls ≠ "java/lang/invoke/MethodHandle") && decide (M.1.cls ≠ "java/lang/invoke/VarHandle")) && decide ((parseMethodDescriptor M.1.desc).map (fun d => d.parameters.length) = some n) && decide (M.2.2.1 ≤ 45)
theorem pj_okM_s {M : pj_M} {n d dc ds : Nat} (h : pj_okM M n = true) (hts : ∀ w ∈ pj_all, w.before args s = true) (hf : d + 1 ≤ R.frames) (hl : 64 * (d + 1) ≤ R.locals) :
    ((pj_rm d dc ds).cells = dc ∧ (pj_rm d dc ds).slots = ds ∧ (pj_rm d dc ds).frames + 1 ≤ R.frames ∧ 8 + (M.2.2.1 + 11) + (pj_rm d dc ds).locals ≤ R.locals ∧ (∀ w ∈ pj_ws M.1 M.2.1 M.2.2.1 M.2.2.2.1, ∀ (a' : Array Value) (U : State), s.WarmedH U.vm → w.before a' U = true) ∧ Jvm.Cond.code M.1 M.2.1 M.2.2.1 M.2.2.2.1 ∈ pj_ws M.1 M.2.1 M.2.2.1 M.2.2.2.1) ∧ (Jvm.Cond.code M.1 M.2.1 M.2.2.1 M.2.2.2.1).before args s = true ∧ (Jvm.Cond.initialized M.1.cls).before args s = true ∧ (M.1.cls ≠ "java/lang/invoke/MethodHandle" ∧ M.1.cls ≠ "java/lang/invoke/VarHandle") ∧ (∀ sig, parseMethodDescriptor M.1.desc = some sig → n = sig.parameters.length) := by
  simp only [pj_okM, Bool.and_eq_true, decide_eq_true_eq] at h
  obtain ⟨⟨⟨⟨w1, w2⟩, h3⟩, h4⟩, h5⟩ := h
  refine ⟨⟨rfl, rfl, hf, ?_, pj_warm hts (pj_wd_in w1), List.mem_cons_self⟩, hts _ (pj_wd_in w1), hts _ (pj_wd_in w2), h3, fun sig hs => ?_⟩
  · show 8 + (M.2.2.1 + 11) + 64 * d ≤ R.locals
    omega
  · rw [hs] at h4
    exact (Option.some.inj h4).symm
end PJC
end
section
/-! CALLS, BY THEIR KIND: 0 virtual, 1 virtual of a nest mate, 2 static, 3 static of a nest mate, 4 constructor, 5 constructor of a nest mate, 6 Object's, 7 arraycopy, 8 virtual of a String -/
theorem pj_cats (ad : pj_A) (r : List Value) : ((r.map (pj_v ad)).map fun v => v.category).sum = (r.map Value.category).sum := by
  rw [List.map_map]
  congr 1
  exact List.map_congr_left (fun v _ => pj_v_cat ad v)
section PJI
variable {p : Program} {l : Launch} {e : Env} {R : Room} {s : State} {m : MethodId} {args : Array Value} {below : List Frame} {meth : Method} {c : Code} {H : Heap} {locs : List Loc} {cells slots : Nat} {Q : State → Prop}
variable {cc : ByteArray} {pc nL : Nat} {ls : Array Slot} {b : Nat × (Nat → Nat)} {base : Nat} {cy : Nat → ClassId} {D : va_G} {G G' : pj_G} {S S' : List Value} {own : String} {dc ds d : Nat} {n0 : Nat} {xs : Nat → Int32} {adV : Nat → Nat}
def pj_lnk (pos : Nat) (own : String) (idx : Nat) (y : MethodName) : Bool := pj_wd pos (.methodLink own idx y)
def pj_lnkN (pos : Nat) (own : String) (idx : Nat) (y : MethodName) : Bool := pj_wd pos (.methodLinkNest own idx y pj_host)
/-- the fixed things of a walk -/
abbrev pj_Cx (p : Program) (s : State) (m : MethodId) (args : Array Value) (c : Code) (cc : ByteArray) (nL : Nat) (ls : Array Slot) (own : String) (b : Nat × (Nat → Nat)) (base : Nat) (cy : Nat → ClassId) (D : va_G) (n0 : Nat) (xs : Nat → Int32) (adV : Nat → Nat) : Prop :=
  (p.tables.exec = Jvm.exec ∧ c.code = cc ∧ c.maxLocals = nL ∧ s.vm.findClass own = some m.cls ∧ ∀ w ∈ pj_all, w.before args s = true) ∧ va_K D vwCl (pj_tys cy) s ∧ pj_O b base n0 xs adV s s.heap ∧ base ≤ s.heap.size ∧ ls.size = nL
theorem pj_iV {M : pj_M} {us rest : List Value} {v : Option Value} {a idx ci pl : Nat} {fs : List Value} {q : String × u_T × Nat × (Nat → FieldType)} (hC : pj_Cx p s m args c cc nL ls own b base cy D n0 xs adV) (hex : G.2 = true → s.heap.size + cells = base + G.1.length)
    (hM : pj_Met l b base cy D n0 xs adV d M (.ref a :: us) G v G' dc ds) (hg : pj_get G a = some (.inr (ci, fs))) (hq : pj_cls[ci]? = some q) (hqn : q.1 = M.1.cls) (hokM : pj_okM M us.length = true) (hin : pj_wd (M.2.2.2.2.1.getD 2 0) (.instanceMethod M.1) = true) (hse : pj_wd (M.2.2.2.2.1.getD 3 0) (.selects M.1.cls M.1 M.1) = true)
    (hl : pj_lnk pl own idx M.1 = true ∨ pj_lnkN pl own idx M.1 = true) (hd : decode cc pc = .ok (.invokevirtual idx, 3)) (hf : d + 1 ≤ R.frames) (hlo : 64 * (d + 1) ≤ R.locals) (hc : cells + dc ≤ R.cells) (hs : slots + ds ≤ R.slots) (hW : (rest.map Value.category).sum ≤ 8)
    (kk : pj_N p l e R s m args below meth c Q b base cy D ls (cells + dc) (slots + ds) G' (pc + 3) (v.toList ++ rest)) : pj_N p l e R s m args below meth c Q b base cy D ls cells slots G pc ((Value.ref a :: us).reverse ++ rest) := by
  obtain ⟨hS0, hK, hO, hbs, hls⟩ := hC
  have hts := hS0.2.2.2.2
  intro H locs hP hS
  refine pj_exact (fun hz => ?_)
  have hstk : ((Value.ref a :: us).reverse ++ rest).map (pj_v (pj_ad b base)) = (us.map (pj_v (pj_ad b base))).reverse ++ Value.ref ((pj_ad b base).1 a) :: rest.map (pj_v (pj_ad b base)) := by simp [pj_v]
  rw [hstk]
  obtain ⟨i, -, hi⟩ := pj_at (b := b) (base := base) (cy := cy) hg
  have hrc := va_recv hK hP (pj_cls_1 hq) hi
  rw [show (q.1, q.2.1, q.2.2.1).1 = M.1.cls from hqn] at hrc
  obtain ⟨⟨k1, k2, k3, k4, k5, k6⟩, k7, k8, k9, k10⟩ := pj_okM_s (R := R) (d := d) (dc := dc) (ds := ds) hokM hts hf hlo
  have hpre := pj_pre (vs := .ref a :: us) hK hO hbs hP hS hz hex
  rcases hl with hl | hl
  · exact pj_after (va_runV (As := us.map (pj_v (pj_ad b base))) (rest := rest.map (pj_v (pj_ad b base))) hS0 hM ⟨⟨k1, k2, k3, k4, k5, k6, k7, k8, k9, k10, hts _ (pj_wd_in hl)⟩, hts _ (pj_wd_in hin), hts _ (pj_wd_in hse)⟩ ⟨pj_P_blind, hrc, hpre⟩ rfl (by rw [List.length_map]) hls rfl (lv_room (by rw [pj_cats]; exact hW)) hd ⟨hc, hs⟩) hS kk
  · exact pj_after (va_runVN (As := us.map (pj_v (pj_ad b base))) (rest := rest.map (pj_v (pj_ad b base))) hS0 hM ⟨⟨⟨k1, k2, k3, k4, k5, k6⟩, k7, k8, k9, k10, hts _ (pj_wd_in hl)⟩, hts _ (pj_wd_in hin), hts _ (pj_wd_in hse)⟩ ⟨pj_P_blind, hrc, hpre⟩ rfl (by rw [List.length_map]) hls rfl (lv_room (by rw [pj_cats]; exact hW)) hd ⟨hc, hs⟩) hS kk
theorem pj_iT {M : pj_M} {us rest : List Value} {v : Option Value} {k idx pl : Nat} {q : String × Nat × String} (hC : pj_Cx p s m args c cc nL ls own b base cy D n0 xs adV) (hex : G.2 = true → s.heap.size + cells = base + G.1.length)
    (hM : pj_Met l b base cy D n0 xs adV d M (.retAddr k :: us) G v G' dc ds) (hg : pj_strs[k]? = some q) (hqn : "java/lang/String" = M.1.cls) (hokM : pj_okM M us.length = true) (hin : pj_wd (M.2.2.2.2.1.getD 2 0) (.instanceMethod M.1) = true) (hse : pj_wd (M.2.2.2.2.1.getD 3 0) (.selects M.1.cls M.1 M.1) = true)
    (hl : pj_lnk pl own idx M.1 = true) (hd : decode cc pc = .ok (.invokevirtual idx, 3)) (hf : d + 1 ≤ R.frames) (hlo : 64 * (d + 1) ≤ R.locals) (hc : cells + dc ≤ R.cells) (hs : slots + ds ≤ R.slots) (hW : (rest.map Value.category).sum ≤ 8)
    (kk : pj_N p l e R s m args below meth c Q b base cy D ls (cells + dc) (slots + ds) G' (pc + 3) (v.toList ++ rest)) : pj_N p l e R s m args below meth c Q b base cy D ls cells slots G pc ((Value.retAddr k :: us).reverse ++ rest) := by
  obtain ⟨hS0, hK, hO, hbs, hls⟩ := hC
  have hts := hS0.2.2.2.2
  intro H locs hP hS
  refine pj_exact (fun hz => ?_)
  have hstk : ((Value.retAddr k :: us).reverse ++ rest).map (pj_v (pj_ad b base)) = (us.map (pj_v (pj_ad b base))).reverse ++ Value.ref ((pj_ad b base).2 k) :: rest.map (pj_v (pj_ad b base)) := by simp [pj_v]
  rw [hstk]
  have hrc : ∃ cell : Cell, H[b.2 k]? = some cell ∧ cell.vm.isStatics = false ∧ s.vm.findClass "java/lang/String" = some cell.cls := by
    obtain ⟨cell, h1, h2, h3, -⟩ := (hO.2.1 k q hg).2.1.kept (H1 := H) hS.2.1
    exact ⟨cell, h1, h2, h3⟩
  rw [hqn] at hrc
  obtain ⟨⟨k1, k2, k3, k4, k5, k6⟩, k7, k8, k9, k10⟩ := pj_okM_s (R := R) (d := d) (dc := dc) (ds := ds) hokM hts hf hlo
  have hpre := pj_pre (vs := .retAddr k :: us) hK hO hbs hP hS hz hex
  exact pj_after (va_runV (As := us.map (pj_v (pj_ad b base))) (rest := rest.map (pj_v (pj_ad b base))) hS0 hM ⟨⟨k1, k2, k3, k4, k5, k6, k7, k8, k9, k10, hts _ (pj_wd_in hl)⟩, hts _ (pj_wd_in hin), hts _ (pj_wd_in hse)⟩ ⟨pj_P_blind, hrc, hpre⟩ rfl (by rw [List.length_map]) hls rfl (lv_room (by rw [pj_cats]; exact hW)) hd ⟨hc, hs⟩) hS kk
theorem pj_iS {M : pj_M} {vs rest : List Value} {v : Option Value} {idx pl : Nat} (hC : pj_Cx p s m args c cc nL ls own b base cy D n0 xs adV) (hex : G.2 = true → s.heap.size + cells = base + G.1.length)
    (hM : pj_Met l b base cy D n0 xs adV d M vs G v G' dc ds) (hokM : pj_okM M vs.length = true) (hst : pj_wd (M.2.2.2.2.1.getD 2 0) (.static M.1) = true)
    (hl : pj_lnk pl own idx M.1 = true ∨ pj_lnkN pl own idx M.1 = true) (hd : decode cc pc = .ok (.invokestatic idx, 3)) (hf : d + 1 ≤ R.frames) (hlo : 64 * (d + 1) ≤ R.locals) (hc : cells + dc ≤ R.cells) (hs : slots + ds ≤ R.slots) (hW : (rest.map Value.category).sum ≤ 8)
    (kk : pj_N p l e R s m args below meth c Q b base cy D ls (cells + dc) (slots + ds) G' (pc + 3) (v.toList ++ rest)) : pj_N p l e R s m args below meth c Q b base cy D ls cells slots G pc (vs.reverse ++ rest) := by
  obtain ⟨hS0, hK, hO, hbs, hls⟩ := hC
  have hts := hS0.2.2.2.2
  intro H locs hP hS
  refine pj_exact (fun hz => ?_)
  have hstk : (vs.reverse ++ rest).map (pj_v (pj_ad b base)) = (vs.map (pj_v (pj_ad b base))).reverse ++ rest.map (pj_v (pj_ad b base)) := by simp
  rw [hstk]
  obtain ⟨⟨k1, k2, k3, k4, k5, k6⟩, k7, k8, k9, k10⟩ := pj_okM_s (R := R) (d := d) (dc := dc) (ds := ds) hokM hts hf hlo
  have hpre := pj_pre (vs := vs) hK hO hbs hP hS hz hex
  rcases hl with hl | hl
  · exact pj_after (va_runS (As := vs.map (pj_v (pj_ad b base))) (rest := rest.map (pj_v (pj_ad b base))) hS0 hM ⟨⟨k1, k2, k3, k4, k5, k6, k7, k8, k9, k10, hts _ (pj_wd_in hl)⟩, hts _ (pj_wd_in hst)⟩ ⟨pj_P_blind, hpre⟩ rfl (by rw [List.length_map]) hls rfl (lv_room (by rw [pj_cats]; exact hW)) hd ⟨hc, hs⟩) hS kk
  · exact pj_after (va_runSN (As := vs.map (pj_v (pj_ad b base))) (rest := rest.map (pj_v (pj_ad b base))) hS0 hM ⟨⟨⟨k1, k2, k3, k4, k5, k6⟩, k7, k8, k9, k10, hts _ (pj_wd_in hl)⟩, hts _ (pj_wd_in hst), trivial⟩ ⟨pj_P_blind, hpre⟩ rfl (by rw [List.length_map]) hls rfl (lv_room (by rw [pj_cats]; exact hW)) hd ⟨hc, hs⟩) hS kk
theorem pj_iI {M : pj_M} {us rest : List Value} {v : Option Value} {a idx pl : Nat} (hC : pj_Cx p s m args c cc nL ls own b base cy D n0 xs adV) (hex : G.2 = true → s.heap.size + cells = base + G.1.length)
    (hM : pj_Met l b base cy D n0 xs adV d M (.ref a :: us) G v G' dc ds) (hret : M.2.2.2.1 = none) (hokM : pj_okM M us.length = true) (hin : pj_wd (M.2.2.2.2.1.getD 2 0) (.instanceMethod M.1) = true) (hnm : M.1.name = "<init>")
    (hl : pj_lnk pl own idx M.1 = true ∨ pj_lnkN pl own idx M.1 = true) (hd : decode cc pc = .ok (.invokespecial idx, 3)) (hf : d + 1 ≤ R.frames) (hlo : 64 * (d + 1) ≤ R.locals) (hc : cells + dc ≤ R.cells) (hs : slots + ds ≤ R.slots) (hW : (rest.map Value.category).sum ≤ 8)
    (kk : pj_N p l e R s m args below meth c Q b base cy D ls (cells + dc) (slots + ds) G' (pc + 3) (v.toList ++ rest)) : pj_N p l e R s m args below meth c Q b base cy D ls cells slots G pc ((Value.ref a :: us).reverse ++ rest) := by
  obtain ⟨hS0, hK, hO, hbs, hls⟩ := hC
  have hts := hS0.2.2.2.2
  intro H locs hP hS
  refine pj_exact (fun hz => ?_)
  have hstk : ((Value.ref a :: us).reverse ++ rest).map (pj_v (pj_ad b base)) = (us.map (pj_v (pj_ad b base))).reverse ++ Value.ref ((pj_ad b base).1 a) :: rest.map (pj_v (pj_ad b base)) := by simp [pj_v]
  rw [hstk]
  obtain ⟨⟨k1, k2, k3, k4, k5, k6⟩, k7, k8, k9, k10⟩ := pj_okM_s (R := R) (d := d) (dc := dc) (ds := ds) hokM hts hf hlo
  have hpre := pj_pre (vs := .ref a :: us) hK hO hbs hP hS hz hex
  have hM' : Met l M.1 (pj_ws M.1 M.2.1 M.2.2.1 none) (pj_rm d dc ds) (pj_P b base cy D n0 xs adV (.ref a :: us) G) (pj_Q b base cy D v G') dc ds (fun q => base ≤ q) := by
    have h := hM
    unfold pj_Met at h
    rw [hret] at h
    exact h
  rw [hret] at k5 k6 k7
  rcases hl with hl | hl
  · exact pj_after (va_runI (As := us.map (pj_v (pj_ad b base))) (rest := rest.map (pj_v (pj_ad b base))) hS0 hM' ⟨⟨k1, k2, k3, k4, k5, k6, k7, k8, k9, k10, hts _ (pj_wd_in hl)⟩, hnm, hts _ (pj_wd_in hin)⟩ ⟨pj_P_blind, hpre⟩ rfl (by rw [List.length_map]) hls rfl (lv_room (by rw [pj_cats]; exact hW)) hd ⟨hc, hs⟩) hS kk
  · exact pj_after (va_runIN (As := us.map (pj_v (pj_ad b base))) (rest := rest.map (pj_v (pj_ad b base))) hS0 hM' ⟨⟨⟨k1, k2, k3, k4, k5, k6⟩, k7, k8, k9, k10, hts _ (pj_wd_in hl)⟩, hnm, hts _ (pj_wd_in hin)⟩ ⟨pj_P_blind, hpre⟩ rfl (by rw [List.length_map]) hls rfl (lv_room (by rw [pj_cats]; exact hW)) hd ⟨hc, hs⟩) hS kk
theorem pj_iO {rest : List Value} {a idx pl p1 p2 : Nat} (hC : pj_Cx p s m args c cc nL ls own b base cy D n0 xs adV) (hl : pj_lnk pl own idx Lib.objectInit = true) (hin : pj_wd p1 (.instanceMethod Lib.objectInit) = true) (hco : pj_wd p2 (.code Lib.objectInit ⟨#[0xb1]⟩ 1 none) = true) (hd : decode cc pc = .ok (.invokespecial idx, 3)) (hf : 1 ≤ R.frames) (hlo : 64 ≤ R.locals) (hW : (rest.map Value.category).sum ≤ 8)
    (kk : pj_N p l e R s m args below meth c Q b base cy D ls cells slots G (pc + 3) rest) : pj_N p l e R s m args below meth c Q b base cy D ls cells slots G pc (.ref a :: rest) := by
  obtain ⟨⟨hx, hb, hml, hown, hts⟩, hK, hO, hbs, hls⟩ := hC
  intro H locs hP hS
  refine W.objInit hx hb hown (hts _ (pj_wd_in hl)) (hts _ (pj_wd_in hin)) (hts _ (pj_wd_in hco)) rfl (by rw [hml]; exact hls) rfl hd hf ?_ (kk H locs hP hS)
  have h1 : 2 * (F0 m pc ls (rest.map (pj_v (pj_ad b base)))).monitorRoom + ((rest.map (pj_v (pj_ad b base))).map fun v => v.category).sum ≤ 8 := lv_room (by rw [pj_cats]; exact hW)
  have h2 : 2 * (F0 m pc ls ((Value.ref a :: rest).map (pj_v (pj_ad b base)))).monitorRoom + ((rest.map (pj_v (pj_ad b base))).map fun v => v.category).sum ≤ 8 := h1
  omega
/-- arraycopy of ints -/
def pj_cp (G : pj_G) : List Value → Option (pj_G × List Value)
  | .int n :: .int dp :: .ref a1 :: .int sp :: .ref a0 :: r => (match pj_get G a0, pj_get G a1 with
    | some (.inl (k0, n0, .inl f)), some (.inl (k1, n1, .inl g)) => if k0 = 0 ∧ k1 = 0 ∧ ¬ sp < 0 ∧ ¬ dp < 0 ∧ ¬ n < 0 ∧ sp.toNatClampNeg + n.toNatClampNeg ≤ n0 ∧ dp.toNatClampNeg + n.toNatClampNeg ≤ n1 ∧ (r.map Value.category).sum ≤ 8 then some (pj_put G a1 (.inl (0, n1, .inl (va_cpy f g sp.toNatClampNeg dp.toNatClampNeg n.toNatClampNeg))), r) else none
    | _, _ => none)
  | _ => none
theorem pj_iA {idx pl p1 p2 p3 : Nat} (hC : pj_Cx p s m args c cc nL ls own b base cy D n0 xs adV) (hl : pj_lnk pl own idx arraycopyName = true) (h1 : pj_wd p1 (.native arraycopyName) = true) (h2 : pj_wd p2 (.static arraycopyName) = true) (h3 : pj_wd p3 (.initialized "java/lang/System") = true) (hd : decode cc pc = .ok (.invokestatic idx, 3)) (hf : 1 ≤ R.frames) (hlo : 64 ≤ R.locals) (h : pj_cp G S = some (G', S'))
    (kk : pj_N p l e R s m args below meth c Q b base cy D ls cells slots G' (pc + 3) S') : pj_N p l e R s m args below meth c Q b base cy D ls cells slots G pc S := by
  obtain ⟨⟨hx, hb, hml, hown, hts⟩, hK, hO, hbs, hls⟩ := hC
  intro H locs hP hS
  unfold pj_cp at h
  split at h
  · split at h
    · split at h
      · rename_i g0 g1 hg
        obtain ⟨rfl, rfl, q1, q2, q3, q4, q5, q6⟩ := hg
        cases h
        obtain ⟨i0, rfl, hi0⟩ := pj_at (b := b) (base := base) (cy := cy) g0
        obtain ⟨i1, rfl, hi1⟩ := pj_at (b := b) (base := base) (cy := cy) g1
        refine va_copyi (ty := .int) hx hb (hml.trans hls.symm) hown (hts _ (pj_wd_in hl)) (hts _ (pj_wd_in h1)) (hts _ (pj_wd_in h2)) (hts _ (pj_wd_in h3)) hK hP (pj_D b base cy G.1) hS i0 i1 0 0 hi0 hi1 rfl rfl rfl q1 q2 q3 q4 q5 (fun _ _ => rfl) hf ?_ hd (fun H1 locs1 hP1 _ hS1 => kk H1 locs1 (pj_set (b := b) (base := base) (cy := cy) (G := G) (i := i1) _ ▸ hP1) hS1)
        rw [pj_cats]
        have e1 : nativeFrameWords "java/lang/System" "arraycopy" 5 = 7 := by decide +kernel
        rw [e1]
        omega
      · cases h
    · cases h
  · cases h
end PJI
end
section
/-! ONE STEP -/
abbrev pj_F : Type := Nat → List Value → pj_G → Option (Option Value × pj_G × Nat × Nat)
abbrev pj_T : Type := pj_G × Nat × pj_L × List Value × Nat × Nat
def pj_rcv (kind ci : Nat) (G : pj_G) (vs : List Value) : Bool := match kind with
  | 0 => (match vs with
    | .ref a :: _ => (match pj_get G a with
      | some (.inr (c, _)) => c == ci
      | _ => false)
    | _ => false)
  | 2 => true
  | 4 => (match vs with
    | .ref _ :: _ => true
    | _ => false)
  | 8 => (match vs with
    | .retAddr k :: _ => decide (k < 16)
    | _ => false)
  | 9 => true
  | _ => false
/-- Math.max, min, abs -/
def pj_mth (kind : Nat) (S : List Value) : Option (List Value) := match kind with
  | 10 => (match S with
    | .int y :: .int x :: r => if (r.map Value.category).sum ≤ 8 then some (.int (if x < y then y else x) :: r) else none
    | _ => none)
  | 11 => (match S with
    | .int y :: .int x :: r => if (r.map Value.category).sum ≤ 8 then some (.int (if y < x then y else x) :: r) else none
    | _ => none)
  | 12 => (match S with
    | .int x :: r => if (r.map Value.category).sum ≤ 8 then some (.int (if 0 ≤ x then x else 0 - x) :: r) else none
    | _ => none)
  | _ => none
/-- the law's own helpers, which catch: name, code, locals, answer, table -/
abbrev pj_Hl : Type := MethodName × ByteArray × Nat × Option FieldType × List (Nat × Nat × Nat × Nat)
def pj_hl : List pj_Hl := [(yL_crossing, cL_crossing, 5, some .int, [(0, 10, 13, 13)]), (yL_bridge, cL_bridge, 5, some .int, [(0, 10, 13, 13)]), (yL_person, cL_person, 5, some .int, [(0, 10, 13, 13)]), (yL_row, cL_row, 4, some .int, [(0, 8, 11, 13)])]
def pj_hw (h : pj_Hl) : Jvm.Cond := .codeWith h.1 h.2.1 h.2.2.1 h.2.2.2.1 h.2.2.2.2
abbrev pj_MetH (l : Launch) (b : Nat × (Nat → Nat)) (base : Nat) (cy : Nat → ClassId) (D : va_G) (n0 : Nat) (xs : Nat → Int32) (adV : Nat → Nat) (d : Nat) (h : pj_Hl) (vs : List Value) (G : pj_G) (v : Option Value) (G' : pj_G) (dc ds : Nat) : Prop :=
  Met l h.1 (pj_hw h :: pj_all) (pj_rm d dc ds) (pj_P b base cy D n0 xs adV vs G) (pj_Q b base cy D v G') dc ds (fun q => base ≤ q)
def pj_inv (call : pj_F) (inf : List Nat) (G : pj_G) (S : List Value) : Option (pj_G × List Value × Nat × Nat) :=
  if inf.getD 1 0 ≤ S.length ∧ ((S.drop (inf.getD 1 0)).map Value.category).sum ≤ 8 ∧ pj_rcv (inf.getD 0 0) (inf.getD 3 0) G (S.take (inf.getD 1 0)).reverse = true then
    (match call (inf.getD 2 0) (S.take (inf.getD 1 0)).reverse G with
    | some r => some (r.2.1, r.1.toList ++ S.drop (inf.getD 1 0), r.2.2.1, r.2.2.2)
    | none => none)
  else none
def pj_oi (S : List Value) : Option (List Value) := match S with
  | .ref _ :: r => if (r.map Value.category).sum ≤ 8 then some r else none
  | _ => none
def pj_s (call : pj_F) (n0 : Nat) (xs : Nat → Int32) (nL : Nat) (inf : List Nat) (z : Int) (i : Instr) (pc : Nat) (G : pj_G) (L : pj_L) (S : List Value) : Option pj_T := match i with
  | .getfield _ => (pj_gf (inf.getD 0 0) (inf.getD 1 0) G S).map (fun r => (G, pc + 3, L, r, 0, 0))
  | .putfield _ => (pj_pf (inf.getD 0 0) (inf.getD 1 0) G S).map (fun r => (r.1, pc + 3, L, r.2, 0, 0))
  | .iaload => (match pj_sc n0 xs S with
    | some r => some (G, pc + 1, L, r, 0, 0)
    | none => (pj_rdi G S).map (fun r => (G, pc + 1, L, r, 0, 0)))
  | .baload => (pj_rdz G S).map (fun r => (G, pc + 1, L, r, 0, 0))
  | .laload => (pj_rdl G S).map (fun r => (G, pc + 1, L, r, 0, 0))
  | .aaload => (pj_rdq G S).map (fun r => (G, pc + 1, L, r, 0, 0))
  | .iastore => (pj_asi G S).map (fun r => (r.1, pc + 1, L, r.2, 0, 0))
  | .bastore => (pj_asz G S).map (fun r => (r.1, pc + 1, L, r.2, 0, 0))
  | .lastore => (pj_asl G S).map (fun r => (r.1, pc + 1, L, r.2, 0, 0))
  | .aastore => (pj_asq G S).map (fun r => (r.1, pc + 1, L, r.2, 0, 0))
  | .arraylength => (pj_aln n0 G S).map (fun r => (G, pc + 1, L, r, 0, 0))
  | .new _ => (pj_nw (inf.getD 0 0) G S).map (fun r => (r.1, pc + 3, L, r.2.1, 1, r.2.2))
  | .newarray a => (pj_na a G S).map (fun r => (r.1, pc + 2, L, r.2.1, 1, r.2.2))
  | .anewarray _ => (pj_nq G S).map (fun r => (r.1, pc + 3, L, r.2.1, 1, r.2.2))
  | .ldc _ => some (G, pc + 2, L, (if inf.getD 0 0 = 0 then Value.int (Int32.ofInt z) else Value.retAddr (inf.getD 1 0)) :: S, 0, 0)
  | .ldc_w _ => some (G, pc + 3, L, (if inf.getD 0 0 = 0 then Value.int (Int32.ofInt z) else Value.retAddr (inf.getD 1 0)) :: S, 0, 0)
  | .ldc2_w _ => some (G, pc + 3, L, Value.long (Int64.ofInt z) :: S, 0, 0)
  | .invokevirtual _ => (pj_inv call inf G S).map (fun r => (r.1, pc + 3, L, r.2.1, r.2.2.1, r.2.2.2))
  | .invokespecial _ => if inf.getD 0 0 = 6 then (pj_oi S).map (fun r => (G, pc + 3, L, r, 0, 0)) else (pj_inv call inf G S).map (fun r => (r.1, pc + 3, L, r.2.1, r.2.2.1, r.2.2.2))
  | .invokestatic _ => if inf.getD 0 0 = 7 then (pj_cp G S).map (fun r => (r.1, pc + 3, L, r.2, 0, 0)) else if 10 ≤ inf.getD 0 0 then (pj_mth (inf.getD 0 0) S).map (fun r => (G, pc + 3, L, r, 0, 0)) else (pj_inv call inf G S).map (fun r => (r.1, pc + 3, L, r.2.1, r.2.2.1, r.2.2.2))
  | .goto q => (pj_kb (.goto q) (inf.getD 0 0) pc S).map (fun r => (G, r.1, L, r.2, 0, 0))
  | .ifCond q1 q2 => (pj_kb (.ifCond q1 q2) (inf.getD 0 0) pc S).map (fun r => (G, r.1, L, r.2, 0, 0))
  | .if_icmp q1 q2 => (pj_kb (.if_icmp q1 q2) (inf.getD 0 0) pc S).map (fun r => (G, r.1, L, r.2, 0, 0))
  | .tableswitch q1 q2 q3 q4 => (pj_kb (.tableswitch q1 q2 q3 q4) (inf.getD 0 0) pc S).map (fun r => (G, r.1, L, r.2, 0, 0))
  | .lookupswitch q1 q2 => (pj_kb (.lookupswitch q1 q2) (inf.getD 0 0) pc S).map (fun r => (G, r.1, L, r.2, 0, 0))
  | .iload_n k => (pj_kl nL (.iload_n k) L S).map (fun r => (G, pc + pj_len (.iload_n k), r.1, r.2, 0, 0))
  | .iload k => (pj_kl nL (.iload k) L S).map (fun r => (G, pc + pj_len (.iload k), r.1, r.2, 0, 0))
  | .lload_n k => (pj_kl nL (.lload_n k) L S).map (fun r => (G, pc + pj_len (.lload_n k), r.1, r.2, 0, 0))
  | .lload k => (pj_kl nL (.lload k) L S).map (fun r => (G, pc + pj_len (.lload k), r.1, r.2, 0, 0))
  | .aload_n k => (pj_kl nL (.aload_n k) L S).map (fun r => (G, pc + pj_len (.aload_n k), r.1, r.2, 0, 0))
  | .aload k => (pj_kl nL (.aload k) L S).map (fun r => (G, pc + pj_len (.aload k), r.1, r.2, 0, 0))
  | .istore_n k => (pj_kl nL (.istore_n k) L S).map (fun r => (G, pc + pj_len (.istore_n k), r.1, r.2, 0, 0))
  | .istore k => (pj_kl nL (.istore k) L S).map (fun r => (G, pc + pj_len (.istore k), r.1, r.2, 0, 0))
  | .lstore_n k => (pj_kl nL (.lstore_n k) L S).map (fun r => (G, pc + pj_len (.lstore_n k), r.1, r.2, 0, 0))
  | .lstore k => (pj_kl nL (.lstore k) L S).map (fun r => (G, pc + pj_len (.lstore k), r.1, r.2, 0, 0))
  | .astore_n k => (pj_kl nL (.astore_n k) L S).map (fun r => (G, pc + pj_len (.astore_n k), r.1, r.2, 0, 0))
  | .astore k => (pj_kl nL (.astore k) L S).map (fun r => (G, pc + pj_len (.astore k), r.1, r.2, 0, 0))
  | .iinc k q => (pj_kl nL (.iinc k q) L S).map (fun r => (G, pc + 3, r.1, r.2, 0, 0))
  | i => (pj_k i S).map (fun r => (G, pc + pj_len i, L, r, 0, 0))
def pj_okv (P : List pj_M) (own : String) (idx : Nat) (inf : List Nat) : Bool := match P[inf.getD 2 0]? with
  | none => false
  | some M => decide (1 ≤ inf.getD 1 0) && pj_okM M (inf.getD 1 0 - 1) && pj_wd (M.2.2.2.2.1.getD 2 0) (.instanceMethod M.1) && pj_wd (M.2.2.2.2.1.getD 3 0) (.selects M.1.cls M.1 M.1) &&
    ((decide (inf.getD 0 0 = 0) && ((pj_lnk (inf.getD 4 0) own idx M.1 || pj_lnkN (inf.getD 4 0) own idx M.1) && decide ((pj_cls[inf.getD 3 0]?).map (fun q => q.1) = some M.1.cls))) ||
     (decide (inf.getD 0 0 = 8) && (pj_lnk (inf.getD 4 0) own idx M.1 && decide ("java/lang/String" = M.1.cls))))
def pj_oks (P : List pj_M) (own : String) (idx : Nat) (inf : List Nat) : Bool := if inf.getD 0 0 = 7 then pj_lnk (inf.getD 4 0) own idx arraycopyName && pj_wd (inf.getD 5 0) (.native arraycopyName) && pj_wd (inf.getD 6 0) (.static arraycopyName) && pj_wd (inf.getD 7 0) (.initialized "java/lang/System") else if inf.getD 0 0 = 10 then pj_lnk (inf.getD 4 0) own idx Lib.Math.max.name && pj_wd (inf.getD 5 0) (.static Lib.Math.max.name) && pj_wd (inf.getD 6 0) (.initialized "java/lang/Math") && pj_wd (inf.getD 7 0) (.code Lib.Math.max.name Lib.Math.max.code 2 (some .int))
  else if inf.getD 0 0 = 11 then pj_lnk (inf.getD 4 0) own idx Lib.Math.min.name && pj_wd (inf.getD 5 0) (.static Lib.Math.min.name) && pj_wd (inf.getD 6 0) (.initialized "java/lang/Math") && pj_wd (inf.getD 7 0) (.code Lib.Math.min.name Lib.Math.min.code 2 (some .int))
  else if inf.getD 0 0 = 12 then pj_lnk (inf.getD 4 0) own idx Lib.Math.abs.name && pj_wd (inf.getD 5 0) (.static Lib.Math.abs.name) && pj_wd (inf.getD 6 0) (.initialized "java/lang/Math") && pj_wd (inf.getD 7 0) (.code Lib.Math.abs.name Lib.Math.abs.code 1 (some .int))
  else if inf.getD 0 0 = 9 then (match pj_hl[inf.getD 2 0 - 1000]? with
    | none => false
    | some h => decide (1000 ≤ inf.getD 2 0) && pj_lnk (inf.getD 4 0) own idx h.1 && pj_wd (inf.getD 5 0) (.static h.1) && pj_wd (inf.getD 6 0) (.initialized h.1.cls) && pj_wd (inf.getD 7 0) (pj_hw h) && (decide (h.1.cls ≠ "java/lang/invoke/MethodHandle") && decide (h.1.cls ≠ "java/lang/invoke/VarHandle")) && decide ((parseMethodDescriptor h.1.desc).map (fun d => d.parameters.length) = some (inf.getD 1 0)) && decide (h.2.2.1 ≤ 45))
  else (match P[inf.getD 2 0]? with
  | none => false
  | some M => decide (inf.getD 0 0 = 2) && pj_okM M (inf.getD 1 0) && pj_wd (M.2.2.2.2.1.getD 2 0) (.static M.1) && (pj_lnk (inf.getD 4 0) own idx M.1 || pj_lnkN (inf.getD 4 0) own idx M.1))
def pj_okc (P : List pj_M) (own : String) (idx : Nat) (inf : List Nat) : Bool := if inf.getD 0 0 = 6 then pj_lnk (inf.getD 4 0) own idx Lib.objectInit && pj_wd (inf.getD 5 0) (.instanceMethod Lib.objectInit) && pj_wd (inf.getD 6 0) (.code Lib.objectInit ⟨#[0xb1]⟩ 1 none) else (match P[inf.getD 2 0]? with
  | none => false
  | some M => decide (inf.getD 0 0 = 4) && decide (1 ≤ inf.getD 1 0) && pj_okM M (inf.getD 1 0 - 1) && pj_wd (M.2.2.2.2.1.getD 2 0) (.instanceMethod M.1) && decide (M.1.name = "<init>") && decide (M.2.2.2.1 = none) && (pj_lnk (inf.getD 4 0) own idx M.1 || pj_lnkN (inf.getD 4 0) own idx M.1))
def pj_ok (P : List pj_M) (own : String) (ini : Bool) (pc : Nat) (i : Instr) (len : Nat) (inf : List Nat) (z : Int) : Bool := match i with
  | .getfield idx => decide (len = 3) && pj_okf own idx (inf.getD 0 0) (inf.getD 1 0) (inf.getD 2 0)
  | .putfield idx => decide (len = 3) && pj_okf own idx (inf.getD 0 0) (inf.getD 1 0) (inf.getD 2 0) && pj_okp own ini idx (inf.getD 0 0) (inf.getD 1 0) (inf.getD 2 0)
  | .new idx => decide (len = 3) && pj_okn own idx (inf.getD 0 0) (inf.getD 1 0) (inf.getD 2 0) (inf.getD 3 0)
  | .newarray a => decide (len = 2) && pj_wd (inf.getD 0 0) (.arrayClass (newarray.typeOf a))
  | .anewarray idx => decide (len = 3) && pj_wd (inf.getD 0 0) (.classLink own idx RX8) && pj_wd (inf.getD 1 0) (.arrayOver (.object RX8))
  | .ldc idx => decide (len = 2) && (if inf.getD 0 0 = 0 then pj_wd (inf.getD 1 0) (.constant own idx (Int32.ofInt z)) else decide ((pj_strs[inf.getD 1 0]?).map (fun q => (q.1, q.2.1)) = some (own, idx)))
  | .ldc_w idx => decide (len = 3) && (if inf.getD 0 0 = 0 then pj_wd (inf.getD 1 0) (.constant own idx (Int32.ofInt z)) else decide ((pj_strs[inf.getD 1 0]?).map (fun q => (q.1, q.2.1)) = some (own, idx)))
  | .ldc2_w idx => decide (len = 3) && pj_wd (inf.getD 1 0) (.constantLong own idx (Int64.ofInt z))
  | .invokevirtual idx => decide (len = 3) && pj_okv P own idx inf
  | .invokespecial idx => decide (len = 3) && pj_okc P own idx inf
  | .invokestatic idx => decide (len = 3) && pj_oks P own idx inf
  | .tableswitch .. => true
  | .lookupswitch q1 q2 => pj_okb (.lookupswitch q1 q2) 0 pc
  | .goto q => decide (len = 3) && pj_okb (.goto q) (inf.getD 0 0) pc
  | .ifCond q1 q2 => decide (len = 3) && pj_okb (.ifCond q1 q2) (inf.getD 0 0) pc
  | .if_icmp q1 q2 => decide (len = 3) && pj_okb (.if_icmp q1 q2) (inf.getD 0 0) pc
  | i => decide (len = pj_len i)
theorem pj_map {α β : Type} {x : Option α} {f : α → β} {y : β} (h : x.map f = some y) : ∃ a, x = some a ∧ f a = y := Option.map_eq_some_iff.mp h
theorem pj_take (n : Nat) (S : List Value) : S = (S.take n).reverse.reverse ++ S.drop n := by rw [List.reverse_reverse, List.take_append_drop]
theorem pj_inv_s {call : pj_F} {inf : List Nat} {G G' : pj_G} {S S' : List Value} {dc ds : Nat} (h : pj_inv call inf G S = some (G', S', dc, ds)) : ∃ (vs rest : List Value) (v : Option Value), S = vs.reverse ++ rest ∧ vs.length = inf.getD 1 0 ∧ (rest.map Value.category).sum ≤ 8 ∧ pj_rcv (inf.getD 0 0) (inf.getD 3 0) G vs = true ∧ call (inf.getD 2 0) vs G = some (v, G', dc, ds) ∧ S' = v.toList ++ rest := by
  unfold pj_inv at h
  split at h
  · rename_i hg
    obtain ⟨h1, h2, h3⟩ := hg
    split at h
    · rename_i r hr
      cases h
      refine ⟨(S.take (inf.getD 1 0)).reverse, S.drop (inf.getD 1 0), r.1, pj_take _ S, ?_, h2, h3, hr, rfl⟩
      rw [List.length_reverse, List.length_take]
      exact Nat.min_eq_left h1
    · cases h
  · cases h
section PJS
variable {p : Program} {l : Launch} {e : Env} {R : Room} {s : State} {m : MethodId} {args : Array Value} {below : List Frame} {meth : Method} {c : Code} {H : Heap} {locs : List Loc} {cells slots : Nat} {Q : State → Prop}
variable {cc : ByteArray} {pc nL : Nat} {ls : Array Slot} {b : Nat × (Nat → Nat)} {base : Nat} {cy : Nat → ClassId} {D : va_G} {G G' : pj_G} {S S' : List Value} {own : String} {dc ds d : Nat} {n0 : Nat} {xs : Nat → Int32} {adV : Nat → Nat} {L L' : pj_L} {pc' : Nat}
theorem pj_s_k {i : Instr} (hx : p.tables.exec = Jvm.exec) (hb : c.code = cc) (hlv : lv_has ls nL (pj_l (pj_ad b base) L)) {len : Nat} (hd : decode cc pc = .ok (i, len)) (hok : decide (len = pj_len i) = true) (h : (pj_k i S).map (fun r => (G, pc + pj_len i, L, r, 0, 0)) = some (G', pc', L', S', dc, ds))
    (kk : ∀ ls' : Array Slot, lv_has ls' nL (pj_l (pj_ad b base) L') → pj_N p l e R s m args below meth c Q b base cy D ls' (cells + dc) (slots + ds) G' pc' S') : pj_N p l e R s m args below meth c Q b base cy D ls cells slots G pc S := by
  obtain ⟨r, h1, h2⟩ := pj_map h
  cases h2
  have hl := of_decide_eq_true hok
  subst hl
  intro H locs hP hS
  exact pj_k_snd (pj_ad b base) hx hb hd h1 (kk ls hlv H locs hP hS)
theorem pj_s_l {i : Instr} (hx : p.tables.exec = Jvm.exec) (hb : c.code = cc) (hlv : lv_has ls nL (pj_l (pj_ad b base) L)) {len : Nat} (hd : decode cc pc = .ok (i, len)) (hok : decide (len = pj_len i) = true) (h : (pj_kl nL i L S).map (fun r => (G, pc + pj_len i, r.1, r.2, 0, 0)) = some (G', pc', L', S', dc, ds))
    (kk : ∀ ls' : Array Slot, lv_has ls' nL (pj_l (pj_ad b base) L') → pj_N p l e R s m args below meth c Q b base cy D ls' (cells + dc) (slots + ds) G' pc' S') : pj_N p l e R s m args below meth c Q b base cy D ls cells slots G pc S := by
  obtain ⟨r, h1, h2⟩ := pj_map h
  cases h2
  have hl := of_decide_eq_true hok
  subst hl
  intro H locs hP hS
  exact pj_kl_snd (pj_ad b base) hx hb hlv hd h1 (fun ls' hl' => kk ls' hl' H locs hP hS)
theorem pj_s_b {i : Instr} {tgt len : Nat} (hx : p.tables.exec = Jvm.exec) (hb : c.code = cc) (hlv : lv_has ls nL (pj_l (pj_ad b base) L)) (hd : decode cc pc = .ok (i, len)) (hlen : (match i with | .tableswitch .. => True | .lookupswitch .. => True | _ => len = pj_len i)) (hok : pj_okb i tgt pc = true) (h : (pj_kb i tgt pc S).map (fun r => (G, r.1, L, r.2, 0, 0)) = some (G', pc', L', S', dc, ds))
    (kk : ∀ ls' : Array Slot, lv_has ls' nL (pj_l (pj_ad b base) L') → pj_N p l e R s m args below meth c Q b base cy D ls' (cells + dc) (slots + ds) G' pc' S') : pj_N p l e R s m args below meth c Q b base cy D ls cells slots G pc S := by
  obtain ⟨⟨r1, r2⟩, h1, h2⟩ := pj_map h
  cases h2
  intro H locs hP hS
  exact pj_kb_snd (pj_ad b base) hx hb hd hlen hok h1 (kk ls hlv H locs hP hS)
theorem pj_okv_lt {P : List pj_M} {own : String} {idx : Nat} {inf : List Nat} (h : pj_okv P own idx inf = true) (hPl : P.length ≤ 1000) : inf.getD 2 0 < 1000 := by
  unfold pj_okv at h
  split at h
  · cases h
  · rename_i M9 hM9
    exact Nat.lt_of_lt_of_le (List.getElem?_eq_some_iff.mp hM9).1 hPl
theorem pj_iH {h : pj_Hl} {vs rest : List Value} {v : Option Value} {idx pl p1 p2 p3 : Nat} (hC : pj_Cx p s m args c cc nL ls own b base cy D n0 xs adV) (hex : G.2 = true → s.heap.size + cells = base + G.1.length)
    (hM : pj_MetH l b base cy D n0 xs adV d h vs G v G' dc ds) (hl : pj_lnk pl own idx h.1 = true) (hst : pj_wd p1 (.static h.1) = true) (hin : pj_wd p2 (.initialized h.1.cls) = true) (hcw : pj_wd p3 (pj_hw h) = true) (hy : h.1.cls ≠ "java/lang/invoke/MethodHandle" ∧ h.1.cls ≠ "java/lang/invoke/VarHandle") (hn : (parseMethodDescriptor h.1.desc).map (fun d => d.parameters.length) = some vs.length) (hmx : h.2.2.1 ≤ 45)
    (hd : decode cc pc = .ok (.invokestatic idx, 3)) (hf : d + 1 ≤ R.frames) (hlo : 64 * (d + 1) ≤ R.locals) (hc : cells + dc ≤ R.cells) (hs : slots + ds ≤ R.slots) (hW : (rest.map Value.category).sum ≤ 8)
    (kk : pj_N p l e R s m args below meth c Q b base cy D ls (cells + dc) (slots + ds) G' (pc + 3) (v.toList ++ rest)) : pj_N p l e R s m args below meth c Q b base cy D ls cells slots G pc (vs.reverse ++ rest) := by
  obtain ⟨hS0, hK, hO, hbs, hls⟩ := hC
  have hts := hS0.2.2.2.2
  intro H locs hP hS
  refine pj_exact (fun hz => ?_)
  have hstk : (vs.reverse ++ rest).map (pj_v (pj_ad b base)) = (vs.map (pj_v (pj_ad b base))).reverse ++ rest.map (pj_v (pj_ad b base)) := by simp
  rw [hstk]
  have hpre := pj_pre (vs := vs) hK hO hbs hP hS hz hex
  have hwarm : ∀ w ∈ pj_hw h :: pj_all, ∀ (a' : Array Value) (U : State), s.WarmedH U.vm → w.before a' U = true := by
    intro w hw a' U hW9
    have h1 : w ∈ pj_all := by
      rcases List.mem_cons.mp hw with rfl | h9
      · exact pj_wd_in hcw
      · exact h9
    exact pj_stb_warm (List.mem_filter.mp h1).2 hW9 (hts w h1)
  exact pj_after (vx_runSW (hh := h.2.2.2.2) (bytes := h.2.1) (maxL := h.2.2.1) (ret := h.2.2.2.1) (As := vs.map (pj_v (pj_ad b base))) (rest := rest.map (pj_v (pj_ad b base))) hS0 hM ⟨⟨rfl, rfl, hf, by show 8 + (h.2.2.1 + 11) + 64 * d ≤ R.locals; omega, hwarm, List.mem_cons_self⟩, hts _ (pj_wd_in hcw), hts _ (pj_wd_in hin), hy, fun sig hsg => by rw [hsg] at hn; exact (Option.some.inj hn).symm, hts _ (pj_wd_in hl), hts _ (pj_wd_in hst)⟩ ⟨pj_P_blind, hpre⟩ rfl (by rw [List.length_map]) hls rfl (lv_room (by rw [pj_cats]; exact hW)) hd ⟨hc, hs⟩) hS kk
set_option maxHeartbeats 8000000 in
theorem pj_s_snd {call : pj_F} {P : List pj_M} {ini : Bool} {i : Instr} {len : Nat} {inf : List Nat} {z : Int}
    (hC0 : (p.tables.exec = Jvm.exec ∧ c.code = cc ∧ c.maxLocals = nL ∧ s.vm.findClass own = some m.cls ∧ ∀ w ∈ pj_all, w.before args s = true) ∧ va_K D vwCl (pj_tys cy) s ∧ pj_O b base n0 xs adV s s.heap ∧ base ≤ s.heap.size) (hini : ini = true → meth.name = "<init>") (hlv : lv_has ls nL (pj_l (pj_ad b base) L)) (hex : G.2 = true → s.heap.size + cells = base + G.1.length)
    (hPl : P.length ≤ 1000) (hcall : ∀ (mi : Nat) (vs : List Value) (G : pj_G) (v : Option Value) (G' : pj_G) (dc ds : Nat), mi < 1000 → call mi vs G = some (v, G', dc, ds) → ∃ M, P[mi]? = some M ∧ pj_Met l b base cy D n0 xs adV d M vs G v G' dc ds)
    (hcallH : ∀ (j : Nat) (vs : List Value) (G : pj_G) (v : Option Value) (G' : pj_G) (dc ds : Nat), call (1000 + j) vs G = some (v, G', dc, ds) → ∃ h, pj_hl[j]? = some h ∧ pj_MetH l b base cy D n0 xs adV d h vs G v G' dc ds)
    (hd : decode cc pc = .ok (i, len)) (hok : pj_ok P own ini pc i len inf z = true) (h : pj_s call n0 xs nL inf z i pc G L S = some (G', pc', L', S', dc, ds)) (hf : d + 1 ≤ R.frames) (hlo : 64 * (d + 1) ≤ R.locals) (hc : cells + dc ≤ R.cells) (hs : slots + ds ≤ R.slots)
    (kk : ∀ ls' : Array Slot, lv_has ls' nL (pj_l (pj_ad b base) L') → pj_N p l e R s m args below meth c Q b base cy D ls' (cells + dc) (slots + ds) G' pc' S') : pj_N p l e R s m args below meth c Q b base cy D ls cells slots G pc S := by
  obtain ⟨⟨hx, hb, hml, hown, hts⟩, hK, hO, hbs⟩ := hC0
  have hC : pj_Cx p s m args c cc nL ls own b base cy D n0 xs adV := ⟨⟨hx, hb, hml, hown, hts⟩, hK, hO, hbs, hlv.1⟩
  have hbl : b.1 < s.heap.size := Nat.lt_of_lt_of_le hO.1.2 hbs
  cases i
  case getfield idx =>
    simp only [pj_ok, Bool.and_eq_true, decide_eq_true_eq] at hok
    obtain ⟨rfl, hok⟩ := hok
    obtain ⟨r, h1, h2⟩ := pj_map h
    cases h2
    exact pj_gf_snd hx hb hts hown hK hok hd h1 (kk ls hlv)
  case putfield idx =>
    simp only [pj_ok, Bool.and_eq_true, decide_eq_true_eq] at hok
    obtain ⟨⟨rfl, hok⟩, hok2⟩ := hok
    obtain ⟨⟨r1, r2⟩, h1, h2⟩ := pj_map h
    cases h2
    exact pj_pf_snd hx hb hts hown hK hini hok hok2 hd h1 (kk ls hlv)
  case iaload =>
    have hl : len = 1 := of_decide_eq_true hok
    subst hl
    simp only [pj_s] at h
    split at h
    · rename_i r hr
      cases h
      exact pj_sc_snd hx hb hO.1.1 hbl hO.1.2 hd hr (kk ls hlv)
    · obtain ⟨r, h1, h2⟩ := pj_map h
      cases h2
      exact pj_rdi_snd hx hb hK hd h1 (kk ls hlv)
  case baload =>
    have hl : len = 1 := of_decide_eq_true hok
    subst hl
    obtain ⟨r, h1, h2⟩ := pj_map h
    cases h2
    exact pj_rdz_snd hx hb hK hd h1 (kk ls hlv)
  case laload =>
    have hl : len = 1 := of_decide_eq_true hok
    subst hl
    obtain ⟨r, h1, h2⟩ := pj_map h
    cases h2
    exact pj_rdl_snd hx hb hK hd h1 (kk ls hlv)
  case aaload =>
    have hl : len = 1 := of_decide_eq_true hok
    subst hl
    obtain ⟨r, h1, h2⟩ := pj_map h
    cases h2
    exact pj_rdq_snd hx hb hK hd h1 (kk ls hlv)
  case iastore =>
    have hl : len = 1 := of_decide_eq_true hok
    subst hl
    obtain ⟨⟨r1, r2⟩, h1, h2⟩ := pj_map h
    cases h2
    exact pj_asi_snd hx hb hK hd h1 (kk ls hlv)
  case bastore =>
    have hl : len = 1 := of_decide_eq_true hok
    subst hl
    obtain ⟨⟨r1, r2⟩, h1, h2⟩ := pj_map h
    cases h2
    exact pj_asz_snd hx hb hK hd h1 (kk ls hlv)
  case lastore =>
    have hl : len = 1 := of_decide_eq_true hok
    subst hl
    obtain ⟨⟨r1, r2⟩, h1, h2⟩ := pj_map h
    cases h2
    exact pj_asl_snd hx hb hK hd h1 (kk ls hlv)
  case aastore =>
    have hl : len = 1 := of_decide_eq_true hok
    subst hl
    obtain ⟨⟨r1, r2⟩, h1, h2⟩ := pj_map h
    cases h2
    exact pj_asq_snd hx hb hK hd h1 (kk ls hlv)
  case arraylength =>
    have hl : len = 1 := of_decide_eq_true hok
    subst hl
    obtain ⟨r, h1, h2⟩ := pj_map h
    cases h2
    exact pj_aln_snd hx hb hK hO.1.1 hbl hO.1.2 hd h1 (kk ls hlv)
  case new idx =>
    simp only [pj_ok, Bool.and_eq_true, decide_eq_true_eq] at hok
    obtain ⟨rfl, hok⟩ := hok
    obtain ⟨⟨r1, r2, r3⟩, h1, h2⟩ := pj_map h
    cases h2
    exact pj_nw_snd hx hb hts hown hK hbs hex hok hd h1 hc hs (kk ls hlv)
  case newarray a =>
    simp only [pj_ok, Bool.and_eq_true, decide_eq_true_eq] at hok
    obtain ⟨rfl, hok⟩ := hok
    obtain ⟨⟨r1, r2, r3⟩, h1, h2⟩ := pj_map h
    cases h2
    exact pj_na_snd hx hb hts hK hbs hex hok hd h1 hc hs (kk ls hlv)
  case anewarray idx =>
    simp only [pj_ok, Bool.and_eq_true, decide_eq_true_eq] at hok
    obtain ⟨⟨rfl, hok⟩, hok2⟩ := hok
    obtain ⟨⟨r1, r2, r3⟩, h1, h2⟩ := pj_map h
    cases h2
    exact pj_nq_snd hx hb hts hown hK hbs hex hok hok2 hd h1 hc hs (kk ls hlv)
  case ldc idx =>
    simp only [pj_ok, Bool.and_eq_true, decide_eq_true_eq] at hok
    obtain ⟨rfl, hok⟩ := hok
    cases h
    intro H locs hP hS
    have k1 := kk ls hlv H locs hP hS
    by_cases h0 : inf.getD 0 0 = 0
    · rw [if_pos h0] at hok k1
      exact lv_ldc hx hb hown (hts _ (pj_wd_in hok)) hd k1
    · rw [if_neg h0] at hok k1
      obtain ⟨q, hq, he⟩ := Option.map_eq_some_iff.mp (of_decide_eq_true hok)
      have hr := (hO.2.1 _ q hq).1
      rw [show q.1 = own from congrArg Prod.fst he, show q.2.1 = idx from congrArg Prod.snd he] at hr
      exact va_ldcS hx hb hown hr hd k1
  case ldc_w idx =>
    simp only [pj_ok, Bool.and_eq_true, decide_eq_true_eq] at hok
    obtain ⟨rfl, hok⟩ := hok
    cases h
    intro H locs hP hS
    have k1 := kk ls hlv H locs hP hS
    by_cases h0 : inf.getD 0 0 = 0
    · rw [if_pos h0] at hok k1
      exact lv_ldcw hx hb hown (hts _ (pj_wd_in hok)) hd k1
    · rw [if_neg h0] at hok k1
      obtain ⟨q, hq, he⟩ := Option.map_eq_some_iff.mp (of_decide_eq_true hok)
      have hr := (hO.2.1 _ q hq).1
      rw [show q.1 = own from congrArg Prod.fst he, show q.2.1 = idx from congrArg Prod.snd he] at hr
      intro T hT X
      obtain ⟨t, a1, b1⟩ := k1 T hT X
      exact ⟨t, X.ldcStringW hx hown (text := q.2.2) (a := b.2 (inf.getD 1 0)) hr.1 hr.2 (g := F0 m pc ls (S.map (pj_v (pj_ad b base)))) rfl (by rw [hb]; exact hd) t a1, b1⟩
  case ldc2_w idx =>
    simp only [pj_ok, Bool.and_eq_true, decide_eq_true_eq] at hok
    obtain ⟨rfl, hok⟩ := hok
    cases h
    intro H locs hP hS
    exact lv_ldc2 hx hb hown (hts _ (pj_wd_in hok)) hd (kk ls hlv H locs hP hS)
  case invokevirtual idx =>
    simp only [pj_ok, Bool.and_eq_true, decide_eq_true_eq] at hok
    obtain ⟨rfl, hok⟩ := hok
    obtain ⟨⟨r1, r2, r3, r4⟩, h1, h2⟩ := pj_map h
    cases h2
    obtain ⟨vs, rest, v, rfl, hn, hW, hrc, hcl, rfl⟩ := pj_inv_s h1
    have hlt := pj_okv_lt hok hPl
    obtain ⟨M, hM, hMet⟩ := hcall _ _ _ _ _ _ _ hlt hcl
    unfold pj_okv at hok
    rw [hM] at hok
    simp only [Bool.and_eq_true, Bool.or_eq_true, decide_eq_true_eq] at hok
    obtain ⟨⟨⟨⟨o1, o2⟩, o3⟩, o4⟩, o5⟩ := hok
    rcases o5 with ⟨z0, o6, o7⟩ | ⟨z0, o6, o7⟩
    · rw [z0] at hrc
      simp only [pj_rcv] at hrc
      split at hrc
      · rename_i a us
        split at hrc
        · rename_i ci fs hg
          have hci : ci = inf.getD 3 0 := by simpa using hrc
          obtain ⟨q, hq, hqe⟩ := Option.map_eq_some_iff.mp o7
          have hus : us.length = inf.getD 1 0 - 1 := by rw [← hn, List.length_cons]; rfl
          exact pj_iV hC hex hMet hg (by rw [hci]; exact hq) hqe (by rw [hus]; exact o2) o3 o4 o6 hd hf hlo hc hs hW (kk ls hlv)
        · cases hrc
      · cases hrc
    · rw [z0] at hrc
      simp only [pj_rcv] at hrc
      split at hrc
      · rename_i k us
        have hk : k < 16 := of_decide_eq_true hrc
        have hus : us.length = inf.getD 1 0 - 1 := by rw [← hn, List.length_cons]; rfl
        have hg : ∃ q, pj_strs[k]? = some q := ⟨_, List.getElem?_eq_getElem (show k < pj_strs.length from hk)⟩
        obtain ⟨q, hg⟩ := hg
        exact pj_iT hC hex hMet hg o7 (by rw [hus]; exact o2) o3 o4 o6 hd hf hlo hc hs hW (kk ls hlv)
      · cases hrc
  case invokespecial idx =>
    simp only [pj_ok, Bool.and_eq_true, decide_eq_true_eq] at hok
    obtain ⟨rfl, hok⟩ := hok
    simp only [pj_s] at h
    unfold pj_okc at hok
    by_cases h6 : inf.getD 0 0 = 6
    · rw [if_pos h6] at h hok
      simp only [Bool.and_eq_true] at hok
      obtain ⟨⟨o1, o2⟩, o3⟩ := hok
      obtain ⟨r, h1, h2⟩ := pj_map h
      cases h2
      unfold pj_oi at h1
      split at h1
      · split at h1
        · cases h1
          exact pj_iO hC o1 o2 o3 hd (by omega) (by omega) (by assumption) (kk ls hlv)
        · cases h1
      · cases h1
    · rw [if_neg h6] at h hok
      obtain ⟨⟨r1, r2, r3, r4⟩, h1, h2⟩ := pj_map h
      cases h2
      obtain ⟨vs, rest, v, rfl, hn, hW, hrc, hcl, rfl⟩ := pj_inv_s h1
      have hlt : inf.getD 2 0 < 1000 := by
        split at hok
        · cases hok
        · rename_i M9 hM9
          exact Nat.lt_of_lt_of_le (List.getElem?_eq_some_iff.mp hM9).1 hPl
      obtain ⟨M, hM, hMet⟩ := hcall _ _ _ _ _ _ _ hlt hcl
      rw [hM] at hok
      simp only [Bool.and_eq_true, Bool.or_eq_true, decide_eq_true_eq] at hok
      obtain ⟨⟨⟨⟨⟨⟨z0, o1⟩, o2⟩, o3⟩, o4⟩, o5⟩, o6⟩ := hok
      rw [z0] at hrc
      simp only [pj_rcv] at hrc
      split at hrc
      · rename_i a us
        have hus : us.length = inf.getD 1 0 - 1 := by rw [← hn, List.length_cons]; rfl
        exact pj_iI hC hex hMet o5 (by rw [hus]; exact o2) o3 o4 o6 hd hf hlo hc hs hW (kk ls hlv)
      · cases hrc
  case invokestatic idx =>
    simp only [pj_ok, Bool.and_eq_true, decide_eq_true_eq] at hok
    obtain ⟨rfl, hok⟩ := hok
    simp only [pj_s] at h
    unfold pj_oks at hok
    by_cases h7 : inf.getD 0 0 = 7
    · rw [if_pos h7] at h hok
      simp only [Bool.and_eq_true] at hok
      obtain ⟨⟨⟨o1, o2⟩, o3⟩, o4⟩ := hok
      obtain ⟨⟨r1, r2⟩, h1, h2⟩ := pj_map h
      cases h2
      exact pj_iA hC o1 o2 o3 o4 hd (by omega) (by omega) h1 (kk ls hlv)
    · rw [if_neg h7] at h hok
      by_cases h10 : 10 ≤ inf.getD 0 0
      · rw [if_pos h10] at h
        obtain ⟨r, h1, h2⟩ := pj_map h
        cases h2
        intro H locs hP hS
        have k1 := kk ls hlv H locs hP hS
        have hcc : cells ≤ R.cells := hc
        have hss : slots ≤ R.slots := hs
        by_cases q10 : inf.getD 0 0 = 10
        · rw [if_pos q10] at hok
          rw [q10] at h1
          simp only [Bool.and_eq_true] at hok
          obtain ⟨⟨⟨o1, o2⟩, o3⟩, o4⟩ := hok
          simp only [pj_mth] at h1
          split at h1
          · split at h1
            · rename_i hsum
              cases h1
              exact va_mmax hx hb (hml.trans hlv.1.symm) hown (hts _ (pj_wd_in o1)) (hts _ (pj_wd_in o2)) (hts _ (pj_wd_in o3)) (hts _ (pj_wd_in o4)) (by omega) (by rw [pj_cats]; omega) hcc hss hd k1
            · cases h1
          · cases h1
        · rw [if_neg q10] at hok
          by_cases q11 : inf.getD 0 0 = 11
          · rw [if_pos q11] at hok
            rw [q11] at h1
            simp only [Bool.and_eq_true] at hok
            obtain ⟨⟨⟨o1, o2⟩, o3⟩, o4⟩ := hok
            simp only [pj_mth] at h1
            split at h1
            · split at h1
              · rename_i hsum
                cases h1
                exact va_mmin hx hb (hml.trans hlv.1.symm) hown (hts _ (pj_wd_in o1)) (hts _ (pj_wd_in o2)) (hts _ (pj_wd_in o3)) (hts _ (pj_wd_in o4)) (by omega) (by rw [pj_cats]; omega) hcc hss hd k1
              · cases h1
            · cases h1
          · rw [if_neg q11] at hok
            by_cases q12 : inf.getD 0 0 = 12
            · rw [if_pos q12] at hok
              rw [q12] at h1
              simp only [Bool.and_eq_true] at hok
              obtain ⟨⟨⟨o1, o2⟩, o3⟩, o4⟩ := hok
              simp only [pj_mth] at h1
              split at h1
              · split at h1
                · rename_i hsum
                  cases h1
                  exact va_mabs hx hb (hml.trans hlv.1.symm) hown (hts _ (pj_wd_in o1)) (hts _ (pj_wd_in o2)) (hts _ (pj_wd_in o3)) (hts _ (pj_wd_in o4)) (by omega) (by rw [pj_cats]; omega) hcc hss hd k1
                · cases h1
              · cases h1
            · exact absurd h1 (by
                unfold pj_mth
                split
                · exact absurd (by assumption) q10
                · exact absurd (by assumption) q11
                · exact absurd (by assumption) q12
                · simp)
      · rw [if_neg h10] at h
        rw [if_neg (by omega), if_neg (by omega), if_neg (by omega)] at hok
        obtain ⟨⟨r1, r2, r3, r4⟩, h1, h2⟩ := pj_map h
        cases h2
        obtain ⟨vs, rest, v, rfl, hn, hW, hrc, hcl, rfl⟩ := pj_inv_s h1
        by_cases q9 : inf.getD 0 0 = 9
        · rw [if_pos q9] at hok
          split at hok
          · cases hok
          · rename_i hh hj
            simp only [Bool.and_eq_true, decide_eq_true_eq] at hok
            obtain ⟨⟨⟨⟨⟨⟨⟨o0, o1⟩, o2⟩, o3⟩, o4⟩, o5⟩, o6⟩, o7⟩ := hok
            have e1 : inf.getD 2 0 = 1000 + (inf.getD 2 0 - 1000) := by omega
            rw [e1] at hcl
            obtain ⟨h9, hj9, hMet⟩ := hcallH _ _ _ _ _ _ _ hcl
            cases hj.symm.trans hj9
            exact pj_iH hC hex hMet o1 o2 o3 o4 o5 (by rw [hn]; exact o6) o7 hd hf hlo hc hs hW (kk ls hlv)
        · rw [if_neg q9] at hok
          have hlt : inf.getD 2 0 < 1000 := by
            split at hok
            · cases hok
            · rename_i M9 hM9
              exact Nat.lt_of_lt_of_le (List.getElem?_eq_some_iff.mp hM9).1 hPl
          obtain ⟨M, hM, hMet⟩ := hcall _ _ _ _ _ _ _ hlt hcl
          rw [hM] at hok
          simp only [Bool.and_eq_true, Bool.or_eq_true, decide_eq_true_eq] at hok
          obtain ⟨⟨⟨-, o2⟩, o3⟩, o6⟩ := hok
          exact pj_iS hC hex hMet (by rw [hn]; exact o2) o3 o6 hd hf hlo hc hs hW (kk ls hlv)
  case goto q =>
    simp only [pj_ok, Bool.and_eq_true, decide_eq_true_eq] at hok
    exact pj_s_b hx hb hlv hd hok.1 hok.2 h kk
  case ifCond q1 q2 =>
    simp only [pj_ok, Bool.and_eq_true, decide_eq_true_eq] at hok
    exact pj_s_b hx hb hlv hd hok.1 hok.2 h kk
  case if_icmp q1 q2 =>
    simp only [pj_ok, Bool.and_eq_true, decide_eq_true_eq] at hok
    exact pj_s_b hx hb hlv hd hok.1 hok.2 h kk
  case tableswitch q1 q2 q3 q4 =>
    exact pj_s_b hx hb hlv hd trivial rfl h kk
  case lookupswitch q1 q2 =>
    exact pj_s_b hx hb hlv hd trivial hok h kk
  case iload_n k =>
    exact pj_s_l hx hb hlv hd hok h kk
  case iload k =>
    exact pj_s_l hx hb hlv hd hok h kk
  case lload_n k =>
    exact pj_s_l hx hb hlv hd hok h kk
  case lload k =>
    exact pj_s_l hx hb hlv hd hok h kk
  case aload_n k =>
    exact pj_s_l hx hb hlv hd hok h kk
  case aload k =>
    exact pj_s_l hx hb hlv hd hok h kk
  case istore_n k =>
    exact pj_s_l hx hb hlv hd hok h kk
  case istore k =>
    exact pj_s_l hx hb hlv hd hok h kk
  case lstore_n k =>
    exact pj_s_l hx hb hlv hd hok h kk
  case lstore k =>
    exact pj_s_l hx hb hlv hd hok h kk
  case astore_n k =>
    exact pj_s_l hx hb hlv hd hok h kk
  case astore k =>
    exact pj_s_l hx hb hlv hd hok h kk
  case iinc k q =>
    exact pj_s_l hx hb hlv hd hok h kk
  all_goals exact pj_s_k hx hb hlv hd hok h kk
end PJS
end
section
/-! RUNS -/
def pj_rt (ret : Option FieldType) (i : Instr) (S : List Value) : Option (Option Value) := match i with
  | .ireturn => (match S with
    | [.int v] => (match ret with
      | some .int => some (some (.int v))
      | some ty => if narrow ty (.int v) = .int v then some (some (.int v)) else none
      | none => none)
    | _ => none)
  | .lreturn => (match S, ret with
    | [.long v], some .long => some (some (.long v))
    | _, _ => none)
  | .areturn => (match S, ret with
    | [.ref a], some (.object _) => some (some (.ref a))
    | [.retAddr a], some (.object _) => some (some (.retAddr a))
    | _, _ => none)
  | .return_ => (match S, ret with
    | [], none => some none
    | _, _ => none)
  | _ => none
def pj_find (code : List pj_I) (pc : Nat) : Option (Instr × Nat × List Nat × Int) := (code.find? (fun q => q.1 == pc)).map (fun q => q.2)
theorem pj_find_s {code : List pj_I} {pc : Nat} {q : Instr × Nat × List Nat × Int} (h : pj_find code pc = some q) : (pc, q) ∈ code := by
  obtain ⟨a, h1, h2⟩ := pj_map h
  have h3 := List.mem_of_find?_eq_some h1
  have h4 := List.find?_some h1
  have h5 : a.1 = pc := by simpa using h4
  subst h2
  rw [← h5]
  exact h3
abbrev pj_V : Type := Option (Option Value × pj_G × Nat × Nat)
def pj_one (call : pj_F) (n0 : Nat) (xs : Nat → Int32) (M : pj_M) (ih : pj_T → pj_V) (t : pj_T) : pj_V := match pj_find M.2.2.2.2.2 t.2.1 with
  | none => none
  | some q => (match pj_rt M.2.2.2.1 q.1 t.2.2.2.1 with
    | some v => some (v, t.1, t.2.2.2.2.1, t.2.2.2.2.2)
    | none => (match pj_s call n0 xs M.2.2.1 q.2.2.1 q.2.2.2 q.1 t.2.1 t.1 t.2.2.1 t.2.2.2.1 with
      | none => none
      | some r => ih (r.1, r.2.1, r.2.2.1, r.2.2.2.1, t.2.2.2.2.1 + r.2.2.2.2.1, t.2.2.2.2.2 + r.2.2.2.2.2)))
noncomputable def pj_run (call : pj_F) (n0 : Nat) (xs : Nat → Int32) (M : pj_M) (n : Nat) : pj_T → pj_V := Nat.rec (motive := fun _ => pj_T → pj_V) (fun _ => none) (fun _ ih t => pj_one call n0 xs M ih t) n
theorem pj_run_0 (call : pj_F) (n0 : Nat) (xs : Nat → Int32) (M : pj_M) (t : pj_T) : pj_run call n0 xs M 0 t = none := rfl
theorem pj_run_s (call : pj_F) (n0 : Nat) (xs : Nat → Int32) (M : pj_M) (n : Nat) (t : pj_T) : pj_run call n0 xs M (n + 1) t = pj_one call n0 xs M (pj_run call n0 xs M n) t := rfl
/-- a step of a run, told apart -/
theorem pj_one_s {call : pj_F} {n0 : Nat} {xs : Nat → Int32} {M : pj_M} {ih : pj_T → pj_V} {t : pj_T} {v : Option Value} {G' : pj_G} {mc ms : Nat} (h : pj_one call n0 xs M ih t = some (v, G', mc, ms)) :
    ∃ q, (t.2.1, q) ∈ M.2.2.2.2.2 ∧ ((pj_rt M.2.2.2.1 q.1 t.2.2.2.1 = some v ∧ G' = t.1 ∧ mc = t.2.2.2.2.1 ∧ ms = t.2.2.2.2.2) ∨
      ∃ (G2 : pj_G) (pc2 : Nat) (L2 : pj_L) (S2 : List Value) (dc ds : Nat), pj_s call n0 xs M.2.2.1 q.2.2.1 q.2.2.2 q.1 t.2.1 t.1 t.2.2.1 t.2.2.2.1 = some (G2, pc2, L2, S2, dc, ds) ∧ ih (G2, pc2, L2, S2, t.2.2.2.2.1 + dc, t.2.2.2.2.2 + ds) = some (v, G', mc, ms)) := by
  unfold pj_one at h
  split at h
  · cases h
  · rename_i q hq
    refine ⟨q, pj_find_s hq, ?_⟩
    split at h
    · rename_i v2 hv
      cases h
      exact Or.inl ⟨hv, rfl, rfl, rfl⟩
    · split at h
      · cases h
      · rename_i r hr
        exact Or.inr ⟨_, _, _, _, _, _, hr, h⟩
theorem pj_run_mono {call : pj_F} {n0 : Nat} {xs : Nat → Int32} {M : pj_M} : ∀ (n : Nat) (t : pj_T) {v : Option Value} {G' : pj_G} {mc ms : Nat}, pj_run call n0 xs M n t = some (v, G', mc, ms) → t.2.2.2.2.1 ≤ mc ∧ t.2.2.2.2.2 ≤ ms
  | 0, t, v, G', mc, ms, h => by cases (show (none : pj_V) = some (v, G', mc, ms) from h)
  | n + 1, t, v, G', mc, ms, h => by
    rw [pj_run_s] at h
    obtain ⟨q, -, h1 | ⟨G2, pc2, L2, S2, dc, ds, h1, h2⟩⟩ := pj_one_s h
    · obtain ⟨-, -, e1, e2⟩ := h1
      omega
    · have h3 := pj_run_mono n _ h2
      dsimp only at h3
      omega
/-- exactness is kept -/
def pj_gd (G G' : pj_G) (dc : Nat) : Prop := G'.2 = true → G.2 = true ∧ G'.1.length = G.1.length + dc
theorem pj_gd_0 (G : pj_G) : pj_gd G G 0 := fun h => ⟨h, rfl⟩
theorem pj_gd_p (G : pj_G) (a : Nat) (x : pj_C) : pj_gd G (pj_put G a x) 0 := fun h => ⟨h, by show (G.1.set (a - 1) x).length = _; rw [List.length_set]; rfl⟩
theorem pj_gd_a (G : pj_G) (x : pj_C) (h : G.2 = true) : pj_gd G (G.1 ++ [x], true) 1 := fun _ => ⟨h, by show (G.1 ++ [x]).length = _; rw [List.length_append]; rfl⟩
set_option maxHeartbeats 4000000 in
theorem pj_s_gd {call : pj_F} {n0 : Nat} {xs : Nat → Int32} {nL : Nat} {inf : List Nat} {z : Int} {i : Instr} {pc pc' : Nat} {G G' : pj_G} {L L' : pj_L} {S S' : List Value} {dc ds : Nat} (hcall : ∀ (mi : Nat) (vs : List Value) (G : pj_G) (v : Option Value) (G' : pj_G) (dc ds : Nat), call mi vs G = some (v, G', dc, ds) → pj_gd G G' dc)
    (h : pj_s call n0 xs nL inf z i pc G L S = some (G', pc', L', S', dc, ds)) : pj_gd G G' dc := by
  have hinv : ∀ {G' : pj_G} {S' : List Value} {dc ds : Nat}, pj_inv call inf G S = some (G', S', dc, ds) → pj_gd G G' dc := by
    intro G' S' dc ds h1
    obtain ⟨vs, rest, v, -, -, -, -, hcl, -⟩ := pj_inv_s h1
    exact hcall _ _ _ _ _ _ _ hcl
  cases i
  case putfield idx =>
    obtain ⟨⟨r1, r2⟩, h1, h2⟩ := pj_map h
    cases h2
    obtain ⟨v, a, fs, -, -, -, -, rfl⟩ := pj_pf_s h1
    exact pj_gd_p _ _ _
  case iaload =>
    simp only [pj_s] at h
    split at h
    · cases h
      exact pj_gd_0 _
    · obtain ⟨r, h1, h2⟩ := pj_map h
      cases h2
      exact pj_gd_0 _
  case iastore =>
    obtain ⟨⟨r1, r2⟩, h1, h2⟩ := pj_map h
    cases h2
    obtain ⟨x, j, a, n, f, -, -, -, rfl⟩ := pj_asi_s h1
    exact pj_gd_p _ _ _
  case bastore =>
    obtain ⟨⟨r1, r2⟩, h1, h2⟩ := pj_map h
    cases h2
    obtain ⟨x, j, a, n, f, -, -, -, rfl⟩ := pj_asz_s h1
    exact pj_gd_p _ _ _
  case lastore =>
    obtain ⟨⟨r1, r2⟩, h1, h2⟩ := pj_map h
    cases h2
    obtain ⟨x, j, a, n, f, -, -, -, rfl⟩ := pj_asl_s h1
    exact pj_gd_p _ _ _
  case aastore =>
    obtain ⟨⟨r1, r2⟩, h1, h2⟩ := pj_map h
    cases h2
    obtain ⟨v, j, a, n, f, fs, -, -, -, -, rfl⟩ := pj_asq_s h1
    exact pj_gd_p _ _ _
  case new idx =>
    obtain ⟨⟨r1, r2, r3⟩, h1, h2⟩ := pj_map h
    cases h2
    unfold pj_nw at h1
    split at h1
    · split at h1
      · cases h1
        exact pj_gd_a _ _ (by assumption)
      · cases h1
    · cases h1
  case newarray a =>
    obtain ⟨⟨r1, r2, r3⟩, h1, h2⟩ := pj_map h
    cases h2
    unfold pj_na at h1
    split at h1
    · split at h1
      · rename_i hg
        split at h1
        · cases h1
          exact pj_gd_a _ _ hg.1
        · cases h1
      · cases h1
    · cases h1
  case anewarray idx =>
    obtain ⟨⟨r1, r2, r3⟩, h1, h2⟩ := pj_map h
    cases h2
    unfold pj_nq at h1
    split at h1
    · split at h1
      · rename_i hg
        cases h1
        exact pj_gd_a _ _ hg.1
      · cases h1
    · cases h1
  case ldc idx =>
    cases h
    exact pj_gd_0 _
  case ldc_w idx =>
    cases h
    exact pj_gd_0 _
  case ldc2_w idx =>
    cases h
    exact pj_gd_0 _
  case invokevirtual idx =>
    obtain ⟨⟨r1, r2, r3, r4⟩, h1, h2⟩ := pj_map h
    cases h2
    exact hinv h1
  case invokespecial idx =>
    simp only [pj_s] at h
    split at h
    · obtain ⟨r, h1, h2⟩ := pj_map h
      cases h2
      exact pj_gd_0 _
    · obtain ⟨⟨r1, r2, r3, r4⟩, h1, h2⟩ := pj_map h
      cases h2
      exact hinv h1
  case invokestatic idx =>
    simp only [pj_s] at h
    split at h
    · obtain ⟨⟨r1, r2⟩, h1, h2⟩ := pj_map h
      cases h2
      unfold pj_cp at h1
      split at h1
      · split at h1
        · split at h1
          · cases h1
            exact pj_gd_p _ _ _
          · cases h1
        · cases h1
      · cases h1
    · split at h
      · obtain ⟨r, h1, h2⟩ := pj_map h
        cases h2
        exact pj_gd_0 _
      · obtain ⟨⟨r1, r2, r3, r4⟩, h1, h2⟩ := pj_map h
        cases h2
        exact hinv h1
  all_goals first
    | (cases (show (none : Option pj_T) = some (G', pc', L', S', dc, ds) from h))
    | (cases h
       exact pj_gd_0 _)
    | (obtain ⟨r, h1, h2⟩ := pj_map h
       cases h2
       exact pj_gd_0 _)
theorem pj_gd_t {A B C : pj_G} {x y : Nat} (h1 : pj_gd A B x) (h2 : pj_gd B C y) : pj_gd A C (x + y) := fun h => by
  obtain ⟨a1, a2⟩ := h2 h
  obtain ⟨b1, b2⟩ := h1 a1
  exact ⟨b1, by omega⟩
theorem pj_run_gd {call : pj_F} {n0 : Nat} {xs : Nat → Int32} {M : pj_M} (hcall : ∀ (mi : Nat) (vs : List Value) (G : pj_G) (v : Option Value) (G' : pj_G) (dc ds : Nat), call mi vs G = some (v, G', dc, ds) → pj_gd G G' dc) : ∀ (n : Nat) (t : pj_T) {v : Option Value} {G' : pj_G} {mc ms : Nat}, pj_run call n0 xs M n t = some (v, G', mc, ms) → pj_gd t.1 G' (mc - t.2.2.2.2.1)
  | 0, t, v, G', mc, ms, h => by cases (show (none : pj_V) = some (v, G', mc, ms) from h)
  | n + 1, t, v, G', mc, ms, h => by
    rw [pj_run_s] at h
    obtain ⟨q, -, h1 | ⟨G2, pc2, L2, S2, dc, ds, h1, h2⟩⟩ := pj_one_s h
    · obtain ⟨-, rfl, rfl, -⟩ := h1
      rw [Nat.sub_self]
      exact pj_gd_0 _
    · have h3 := pj_run_gd hcall n _ h2
      have h4 := pj_s_gd hcall h1
      have h5 := (pj_run_mono n _ h2).1
      dsimp only at h3 h5
      have h6 := pj_gd_t h4 h3
      rw [show dc + (mc - (t.2.2.2.2.1 + dc)) = mc - t.2.2.2.2.1 by omega] at h6
      exact h6
/-- the methods by their numbers, to a depth; those without a row of code are told by bi -/
noncomputable def pj_exec (P : List pj_M) (bi : pj_F) (n0 : Nat) (xs : Nat → Int32) (f d : Nat) : pj_F := Nat.rec (motive := fun _ => pj_F) (fun _ _ _ => none) (fun k ih mi vs G => match P[mi]? with
  | none => none
  | some M => (match M.2.2.2.2.2 with
    | [] => if 12 ≤ k then bi mi vs G else none
    | _ :: _ => if (lg_sl vs).length ≤ M.2.2.1 then pj_run ih n0 xs M f (G, 0, lv_args 0 vs, [], 0, 0) else none)) d
theorem pj_exec_s {P : List pj_M} {bi : pj_F} {n0 : Nat} {xs : Nat → Int32} {f d mi : Nat} {vs : List Value} {G : pj_G} {r : Option Value × pj_G × Nat × Nat} (h : pj_exec P bi n0 xs f (d + 1) mi vs G = some r) : ∃ M, P[mi]? = some M ∧ ((M.2.2.2.2.2 = [] ∧ 12 ≤ d ∧ bi mi vs G = some r) ∨ ((lg_sl vs).length ≤ M.2.2.1 ∧ pj_run (pj_exec P bi n0 xs f d) n0 xs M f (G, 0, lv_args 0 vs, [], 0, 0) = some r)) := by
  have h : (match P[mi]? with
    | none => none
    | some M => (match M.2.2.2.2.2 with
      | [] => if 12 ≤ d then bi mi vs G else none
      | _ :: _ => if (lg_sl vs).length ≤ M.2.2.1 then pj_run (pj_exec P bi n0 xs f d) n0 xs M f (G, 0, lv_args 0 vs, [], 0, 0) else none)) = some r := h
  split at h
  · cases h
  · rename_i M hM
    refine ⟨M, hM, ?_⟩
    split at h
    · rename_i hc
      split at h
      · exact Or.inl ⟨hc, by assumption, h⟩
      · cases h
    · split at h
      · exact Or.inr ⟨by assumption, h⟩
      · cases h
theorem pj_exec_gd {P : List pj_M} {bi : pj_F} {n0 : Nat} {xs : Nat → Int32} {f : Nat} (hbi : ∀ (mi : Nat) (vs : List Value) (G : pj_G) (v : Option Value) (G' : pj_G) (dc ds : Nat), bi mi vs G = some (v, G', dc, ds) → pj_gd G G' dc) : ∀ (d mi : Nat) (vs : List Value) (G : pj_G) (v : Option Value) (G' : pj_G) (dc ds : Nat), pj_exec P bi n0 xs f d mi vs G = some (v, G', dc, ds) → pj_gd G G' dc
  | 0, mi, vs, G, v, G', dc, ds, h => by cases (show (none : pj_V) = some (v, G', dc, ds) from h)
  | d + 1, mi, vs, G, v, G', dc, ds, h => by
    obtain ⟨M, -, ⟨-, -, h1⟩ | ⟨-, h1⟩⟩ := pj_exec_s h
    · exact hbi _ _ _ _ _ _ _ h1
    · have h2 := pj_run_gd (pj_exec_gd hbi d) f _ h1
      exact h2
/-- a method's rows are the machine's -/
def pj_okR (P : List pj_M) (M : pj_M) : Bool := plainName M.1.cls && M.2.2.2.2.2.all (fun q => decide (decode M.2.1 q.1 = .ok (q.2.1, q.2.2.1)) && pj_ok P M.1.cls (decide (M.1.name = "<init>")) q.1 q.2.1 q.2.2.1 q.2.2.2.1 q.2.2.2.2)
theorem pj_okR_s {P : List pj_M} {M : pj_M} (h : pj_okR P M = true) {q : pj_I} (hq : q ∈ M.2.2.2.2.2) : decode M.2.1 q.1 = .ok (q.2.1, q.2.2.1) ∧ pj_ok P M.1.cls (decide (M.1.name = "<init>")) q.1 q.2.1 q.2.2.1 q.2.2.2.1 q.2.2.2.2 = true := by
  simp only [pj_okR, Bool.and_eq_true] at h
  have h1 := List.all_eq_true.mp h.2 q hq
  simp only [Bool.and_eq_true, decide_eq_true_eq] at h1
  exact h1
theorem pj_rt_len {P : List pj_M} {own : String} {ini : Bool} {pc : Nat} {i : Instr} {len : Nat} {inf : List Nat} {z : Int} {ret : Option FieldType} {S : List Value} {v : Option Value} (h : pj_rt ret i S = some v) (hok : pj_ok P own ini pc i len inf z = true) : len = 1 := by
  cases i
  case ireturn => exact of_decide_eq_true hok
  case lreturn => exact of_decide_eq_true hok
  case areturn => exact of_decide_eq_true hok
  case return_ => exact of_decide_eq_true hok
  all_goals cases (show (none : Option (Option Value)) = some v from h)
theorem pj_sl_len (ad : pj_A) : ∀ vs : List Value, (lg_sl (vs.map (pj_v ad))).length = (lg_sl vs).length
  | [] => rfl
  | v :: t => by
    have h := pj_sl_len ad t
    simp only [lg_sl, List.map_cons, List.flatMap_cons, List.length_append, pj_v_cat] at h ⊢
    rw [h]
    split <;> rfl
theorem pj_args (ad : pj_A) : ∀ (vs : List Value) (i : Nat), lv_args i (vs.map (pj_v ad)) = pj_l ad (lv_args i vs)
  | [], _ => rfl
  | v :: t, i => by
    simp only [List.map_cons, lv_args, pj_v_cat, pj_args ad t]
    rfl
section PJX
variable {p : Program} {l : Launch} {e : Env} {R : Room} {s : State} {m : MethodId} {args : Array Value} {below : List Frame} {meth : Method} {c : Code} {Q : State → Prop}
variable {b : Nat × (Nat → Nat)} {base : Nat} {cy : Nat → ClassId} {D : va_G} {n0 : Nat} {xs : Nat → Int32} {adV : Nat → Nat} {d : Nat}
/-- a run of the pure machine is a run of the machine -/
theorem pj_run_snd {call : pj_F} {P : List pj_M} {M : pj_M} {nL : Nat} {v : Option Value} {G' : pj_G} {mc ms : Nat} (hnL : M.2.2.1 = nL) (hokR : pj_okR P M = true)
    (hC0 : (p.tables.exec = Jvm.exec ∧ c.code = M.2.1 ∧ c.maxLocals = nL ∧ s.vm.findClass M.1.cls = some m.cls ∧ ∀ w ∈ pj_all, w.before args s = true) ∧ va_K D vwCl (pj_tys cy) s ∧ pj_O b base n0 xs adV s s.heap ∧ base ≤ s.heap.size) (hini : M.1.name = "<init>" → meth.name = "<init>")
    (hPl : P.length ≤ 1000) (hcall : ∀ (mi : Nat) (vs : List Value) (G : pj_G) (v : Option Value) (G' : pj_G) (dc ds : Nat), mi < 1000 → call mi vs G = some (v, G', dc, ds) → ∃ M, P[mi]? = some M ∧ pj_Met l b base cy D n0 xs adV d M vs G v G' dc ds)
    (hcallH : ∀ (j : Nat) (vs : List Value) (G : pj_G) (v : Option Value) (G' : pj_G) (dc ds : Nat), call (1000 + j) vs G = some (v, G', dc, ds) → ∃ h, pj_hl[j]? = some h ∧ pj_MetH l b base cy D n0 xs adV d h vs G v G' dc ds)
    (hgd : ∀ (mi : Nat) (vs : List Value) (G : pj_G) (v : Option Value) (G' : pj_G) (dc ds : Nat), call mi vs G = some (v, G', dc, ds) → pj_gd G G' dc)
    (hf : d + 1 ≤ R.frames) (hlo : 64 * (d + 1) ≤ R.locals) (hmc : mc ≤ R.cells) (hms : ms ≤ R.slots)
    (hend : ∀ (pc : Nat) (i : Instr) (L : pj_L) (S : List Value) (ls : Array Slot), decode M.2.1 pc = .ok (i, 1) → pj_rt M.2.2.2.1 i S = some v → lv_has ls nL (pj_l (pj_ad b base) L) → pj_N p l e R s m args below meth c Q b base cy D ls mc ms G' pc S) :
    ∀ (n : Nat) (t : pj_T), pj_run call n0 xs M n t = some (v, G', mc, ms) → (t.1.2 = true → s.heap.size + t.2.2.2.2.1 = base + t.1.1.length) → ∀ ls : Array Slot, lv_has ls nL (pj_l (pj_ad b base) t.2.2.1) → pj_N p l e R s m args below meth c Q b base cy D ls t.2.2.2.2.1 t.2.2.2.2.2 t.1 t.2.1 t.2.2.2.1
  | 0, t, h, _, _, _ => by cases (show (none : pj_V) = some (v, G', mc, ms) from h)
  | n + 1, t, h, hex, ls, hlv => by
    rw [pj_run_s] at h
    obtain ⟨q, hq, h1 | ⟨G2, pc2, L2, S2, dc, ds, h1, h2⟩⟩ := pj_one_s h
    · obtain ⟨g1, rfl, rfl, rfl⟩ := h1
      obtain ⟨g2, g3⟩ := pj_okR_s hokR hq
      have hl := pj_rt_len g1 g3
      exact hend _ q.1 _ _ ls (by rw [← hl]; exact g2) g1 hlv
    · obtain ⟨g2, g3⟩ := pj_okR_s hokR hq
      have hm := pj_run_mono n _ h2
      dsimp only at hm
      subst hnL
      refine pj_s_snd hC0 (fun z => hini (of_decide_eq_true z)) hlv hex hPl hcall hcallH g2 g3 h1 hf hlo (by omega) (by omega) (fun ls' hl' => ?_)
      have hgd2 := pj_s_gd hgd h1
      exact pj_run_snd rfl hokR hC0 hini hPl hcall hcallH hgd hf hlo hmc hms hend n _ h2 (fun z => by
        obtain ⟨a1, a2⟩ := hgd2 z
        have a3 := hex a1
        show s.heap.size + (t.2.2.2.2.1 + dc) = base + G2.1.length
        omega) ls' hl'
/-- THE CONTRACT of every method, out of its pure run -/
theorem pj_exec_snd {P : List pj_M} {bi : pj_F} {f : Nat} (hPl : P.length ≤ 1000) (hP : ∀ M ∈ P, pj_okR P M = true) (hbg : ∀ (mi : Nat) (vs : List Value) (G : pj_G) (v : Option Value) (G' : pj_G) (dc ds : Nat), bi mi vs G = some (v, G', dc, ds) → pj_gd G G' dc)
    (hbi : ∀ (d mi : Nat) (vs : List Value) (G : pj_G) (v : Option Value) (G' : pj_G) (dc ds : Nat) (M : pj_M), 12 ≤ d → P[mi]? = some M → bi mi vs G = some (v, G', dc, ds) → pj_Met l b base cy D n0 xs adV (d + 1) M vs G v G' dc ds) :
    ∀ (d mi : Nat) (vs : List Value) (G : pj_G) (v : Option Value) (G' : pj_G) (dc ds : Nat), pj_exec P bi n0 xs f d mi vs G = some (v, G', dc, ds) → ∃ M, P[mi]? = some M ∧ pj_Met l b base cy D n0 xs adV d M vs G v G' dc ds
  | 0, mi, vs, G, v, G', dc, ds, h => by cases (show (none : pj_V) = some (v, G', dc, ds) from h)
  | d + 1, mi, vs, G, v, G', dc, ds, h => by
    obtain ⟨M, hM, ⟨-, h12, h1⟩ | ⟨hlen, h1⟩⟩ := pj_exec_s h
    · exact ⟨M, hM, hbi d mi vs G v G' dc ds M h12 hM h1⟩
    · refine ⟨M, hM, ?_⟩
      have hokR := hP M (List.mem_of_getElem? hM)
      have hpl : plainName M.1.cls = true := by
        have hh := hokR
        simp only [pj_okR, Bool.and_eq_true] at hh
        exact hh.1
      refine Met.ofW (cc := M.2.1) (maxL := M.2.2.1) (ret := M.2.2.2.1) hpl rfl ?_
      intro p e s m args below meth c s₁ B hml hv
      obtain ⟨rfl, hP0, hK, ⟨hbs, hexG⟩, hO⟩ := hv
      have hx := B.exec
      have hb := B.bytes
      have hr := B.returns
      have hts0 := atoms_spec (ws := pj_ws M.1 M.2.1 M.2.2.1 M.2.2.2.1) B.pre
      have hts : ∀ w ∈ pj_all, w.before (vs.map (pj_v (pj_ad b base))).toArray s = true := fun w hw => hts0 w (List.mem_cons_of_mem _ hw)
      have hown : s.vm.findClass M.1.cls = some m.cls := findClass_of_methodNamed B.named
      have hlocks := B.notSynchronized
      have hnm : meth.name = M.1.name := (name_of_methodNamed B.named B.method).1
      have hl := lv_entry (vs.map (pj_v (pj_ad b base))) (n := M.2.2.1) (by rw [pj_sl_len]; exact hlen)
      rw [lg_entry_eq]
      generalize (lg_sl (vs.map (pj_v (pj_ad b base))) ++ List.replicate (M.2.2.1 - (lg_sl (vs.map (pj_v (pj_ad b base)))).length) Slot.unset).toArray = ls at hl ⊢
      rw [pj_args] at hl
      have key := pj_run_snd (p := p) (l := l) (e := e) (R := (headSpec (pj_ws M.1 M.2.1 M.2.2.1 M.2.2.2.1) (pj_rm (d + 1) dc ds)).room) (s := s) (m := m) (args := (vs.map (pj_v (pj_ad b base))).toArray) (below := below) (meth := meth) (c := c) (Q := MQ below (pj_Q b base cy D v G') (vs.map (pj_v (pj_ad b base))).toArray s dc ds (fun q => base ≤ q)) (d := d) (v := v) (G' := G') (mc := dc) (ms := ds) rfl hokR ⟨⟨hx, hb, hml, hown, hts⟩, hK, hO, hbs⟩ (fun z => hnm.trans z) hPl (fun mi vs G v G2 dc2 ds2 _ => pj_exec_snd hPl hP hbg hbi d mi vs G v G2 dc2 ds2) (fun j vs2 G2 v2 G3 dc2 ds2 h9 => by
        obtain ⟨M9, hM9, -⟩ := pj_exec_snd hPl hP hbg hbi d _ _ _ _ _ _ _ h9
        have := (List.getElem?_eq_some_iff.mp hM9).1
        omega) (pj_exec_gd hbg d) (Nat.le_refl _) (Nat.le_refl _) (Nat.le_refl _) (Nat.le_refl _) ?_ f _ h1 (fun z => by have := hexG z; show s.heap.size + 0 = base + G.1.length; omega) ls hl
      · exact key s.heap [] hP0 va_S.rf
      · intro pc i L S ls2 hdg hrt hl2 H locs hP1 hS1
        have hq : ∀ (w : Option Value), w = v → ∀ t : State, t.heap = H → s.WarmedH t.vm → pj_Q b base cy D v G' (vs.map (pj_v (pj_ad b base))).toArray s (.returned (w.map (pj_v (pj_ad b base)))) t := fun w hw t ht _ => ⟨by rw [hw], by rw [ht]; exact hP1, hS1.F ht⟩
        cases i
        case ireturn =>
          simp only [pj_rt] at hrt
          split at hrt
          · rename_i x
            split at hrt
            · rename_i hre
              cases hrt
              exact W.iret (v := x) hx hb (hr.trans hre) (hq _ rfl) hS1.2.2 hdg
            · rename_i ty _ hre
              split at hrt
              · rename_i hn
                cases hrt
                exact W.zret (v := x) hx hb (hr.trans hre) hn (hq _ rfl) hS1.2.2 hdg
              · cases hrt
            · cases hrt
          · cases hrt
        case lreturn =>
          simp only [pj_rt] at hrt
          split at hrt
          · rename_i x hre
            cases hrt
            exact W.lret (v := x) hx hb (hr.trans hre) (hq _ rfl) hS1.2.2 hdg
          · cases hrt
        case areturn =>
          simp only [pj_rt] at hrt
          split at hrt
          · rename_i x _ hre
            cases hrt
            exact W.aret hx hb (hr.trans hre) (Or.inl ⟨_, rfl⟩) (Or.inr ⟨_, rfl⟩) (hq _ rfl) hS1.2.2 hdg
          · rename_i x _ hre
            cases hrt
            exact W.aret hx hb (hr.trans hre) (Or.inl ⟨_, rfl⟩) (Or.inr ⟨_, rfl⟩) (hq _ rfl) hS1.2.2 hdg
          · cases hrt
        case return_ =>
          simp only [pj_rt] at hrt
          split at hrt
          · rename_i hre
            cases hrt
            exact W.vret hx hb (hr.trans hre) (hq _ rfl) hS1.2.2 hdg
          · cases hrt
        all_goals cases (show (none : Option (Option Value)) = some v from hrt)
end PJX
end
