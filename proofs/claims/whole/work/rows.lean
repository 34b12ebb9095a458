section
-- ===== PART A: goes FIRST, ahead of the names: the tables' words, and 'selects' of the private methods out of them =====
/-- a private method of a class that the tables say can be made, by its rows of tables_1 -/
def lw_okq (q : MethodName × Nat) : Prop := (q.1.cls ≠ "java/lang/invoke/MethodHandle" ∧ q.1.cls ≠ "java/lang/invoke/VarHandle") ∧ Cond.instantiable q.1.cls q.2 ∈ tables_1 ∧ Cond.privateMethod q.1 ∈ tables_1 ∧ Cond.instanceMethod q.1 ∈ tables_1
theorem lw_p0 : lw_okq (⟨"AccentHouse$Parser", "readHeader", "()V"⟩, 5) := ⟨⟨by decide +kernel, by decide +kernel⟩, List.mem_of_getElem? (i := 72) (by decide +kernel), List.mem_of_getElem? (i := 342) (by decide +kernel), List.mem_of_getElem? (i := 343) (by decide +kernel)⟩
theorem lw_p1 : lw_okq (⟨"AccentHouse$Parser", "expectWord", "(Ljava/lang/String;)V"⟩, 5) := ⟨⟨by decide +kernel, by decide +kernel⟩, List.mem_of_getElem? (i := 72) (by decide +kernel), List.mem_of_getElem? (i := 347) (by decide +kernel), List.mem_of_getElem? (i := 348) (by decide +kernel)⟩
theorem lw_p2 : lw_okq (⟨"AccentHouse$Parser", "fail", "(II)V"⟩, 5) := ⟨⟨by decide +kernel, by decide +kernel⟩, List.mem_of_getElem? (i := 72) (by decide +kernel), List.mem_of_getElem? (i := 362) (by decide +kernel), List.mem_of_getElem? (i := 363) (by decide +kernel)⟩
theorem lw_p3 : lw_okq (⟨"AccentHouse$Parser", "readNumber", "(II)I"⟩, 5) := ⟨⟨by decide +kernel, by decide +kernel⟩, List.mem_of_getElem? (i := 72) (by decide +kernel), List.mem_of_getElem? (i := 366) (by decide +kernel), List.mem_of_getElem? (i := 367) (by decide +kernel)⟩
theorem lw_p4 : lw_okq (⟨"AccentHouse$Parser", "readAccent", "()I"⟩, 5) := ⟨⟨by decide +kernel, by decide +kernel⟩, List.mem_of_getElem? (i := 72) (by decide +kernel), List.mem_of_getElem? (i := 382) (by decide +kernel), List.mem_of_getElem? (i := 383) (by decide +kernel)⟩
theorem lw_p5 : lw_okq (⟨"AccentHouse$Parser", "readLodger", "()V"⟩, 5) := ⟨⟨by decide +kernel, by decide +kernel⟩, List.mem_of_getElem? (i := 72) (by decide +kernel), List.mem_of_getElem? (i := 391) (by decide +kernel), List.mem_of_getElem? (i := 392) (by decide +kernel)⟩
theorem lw_p6 : lw_okq (⟨"AccentHouse$Parser", "isAtName", "()Z"⟩, 5) := ⟨⟨by decide +kernel, by decide +kernel⟩, List.mem_of_getElem? (i := 72) (by decide +kernel), List.mem_of_getElem? (i := 395) (by decide +kernel), List.mem_of_getElem? (i := 396) (by decide +kernel)⟩
theorem lw_p7 : lw_okq (⟨"java/lang/Throwable", "fillInStackTrace", "(I)Ljava/lang/Throwable;"⟩, 6) := ⟨⟨by decide +kernel, by decide +kernel⟩, List.mem_of_getElem? (i := 629) (by decide +kernel), List.mem_of_getElem? (i := 627) (by decide +kernel), List.mem_of_getElem? (i := 628) (by decide +kernel)⟩
theorem lw_p8 : lw_okq (⟨"AccentHouse$Parser", "readFloor", "(LAccentHouse$Lodger;)I"⟩, 5) := ⟨⟨by decide +kernel, by decide +kernel⟩, List.mem_of_getElem? (i := 72) (by decide +kernel), List.mem_of_getElem? (i := 749) (by decide +kernel), List.mem_of_getElem? (i := 750) (by decide +kernel)⟩
theorem lw_p9 : lw_okq (⟨"AccentHouse$Parser", "readPay", "()V"⟩, 5) := ⟨⟨by decide +kernel, by decide +kernel⟩, List.mem_of_getElem? (i := 72) (by decide +kernel), List.mem_of_getElem? (i := 763) (by decide +kernel), List.mem_of_getElem? (i := 764) (by decide +kernel)⟩
theorem lw_p10 : lw_okq (⟨"AccentHouse$Parser", "readKnownName", "()LAccentHouse$Lodger;"⟩, 5) := ⟨⟨by decide +kernel, by decide +kernel⟩, List.mem_of_getElem? (i := 72) (by decide +kernel), List.mem_of_getElem? (i := 767) (by decide +kernel), List.mem_of_getElem? (i := 768) (by decide +kernel)⟩
theorem lw_p11 : lw_okq (⟨"AccentHouse$Parser", "readMove", "()V"⟩, 5) := ⟨⟨by decide +kernel, by decide +kernel⟩, List.mem_of_getElem? (i := 72) (by decide +kernel), List.mem_of_getElem? (i := 776) (by decide +kernel), List.mem_of_getElem? (i := 777) (by decide +kernel)⟩
theorem lw_p12 : lw_okq (⟨"AccentHouse$Parser", "readDays", "()V"⟩, 5) := ⟨⟨by decide +kernel, by decide +kernel⟩, List.mem_of_getElem? (i := 72) (by decide +kernel), List.mem_of_getElem? (i := 781) (by decide +kernel), List.mem_of_getElem? (i := 782) (by decide +kernel)⟩
theorem lw_p13 : lw_okq (⟨"AccentHouse$House", "collectRent", "()V"⟩, 11) := ⟨⟨by decide +kernel, by decide +kernel⟩, List.mem_of_getElem? (i := 78) (by decide +kernel), List.mem_of_getElem? (i := 789) (by decide +kernel), List.mem_of_getElem? (i := 790) (by decide +kernel)⟩
theorem lw_p14 : lw_okq (⟨"AccentHouse$House", "giveLessons", "()V"⟩, 11) := ⟨⟨by decide +kernel, by decide +kernel⟩, List.mem_of_getElem? (i := 78) (by decide +kernel), List.mem_of_getElem? (i := 797) (by decide +kernel), List.mem_of_getElem? (i := 798) (by decide +kernel)⟩
theorem lw_p15 : lw_okq (⟨"AccentHouse$House", "serveDinner", "(I)V"⟩, 11) := ⟨⟨by decide +kernel, by decide +kernel⟩, List.mem_of_getElem? (i := 78) (by decide +kernel), List.mem_of_getElem? (i := 809) (by decide +kernel), List.mem_of_getElem? (i := 810) (by decide +kernel)⟩
def lw_privs_1 : List (MethodName × Nat) := [(⟨"AccentHouse$Parser", "readHeader", "()V"⟩, 5), (⟨"AccentHouse$Parser", "expectWord", "(Ljava/lang/String;)V"⟩, 5), (⟨"AccentHouse$Parser", "fail", "(II)V"⟩, 5), (⟨"AccentHouse$Parser", "readNumber", "(II)I"⟩, 5), (⟨"AccentHouse$Parser", "readAccent", "()I"⟩, 5), (⟨"AccentHouse$Parser", "readLodger", "()V"⟩, 5), (⟨"AccentHouse$Parser", "isAtName", "()Z"⟩, 5), (⟨"java/lang/Throwable", "fillInStackTrace", "(I)Ljava/lang/Throwable;"⟩, 6), (⟨"AccentHouse$Parser", "readFloor", "(LAccentHouse$Lodger;)I"⟩, 5), (⟨"AccentHouse$Parser", "readPay", "()V"⟩, 5), (⟨"AccentHouse$Parser", "readKnownName", "()LAccentHouse$Lodger;"⟩, 5), (⟨"AccentHouse$Parser", "readMove", "()V"⟩, 5), (⟨"AccentHouse$Parser", "readDays", "()V"⟩, 5), (⟨"AccentHouse$House", "collectRent", "()V"⟩, 11), (⟨"AccentHouse$House", "giveLessons", "()V"⟩, 11), (⟨"AccentHouse$House", "serveDinner", "(I)V"⟩, 11)]
theorem lw_r1 : ∀ q ∈ lw_privs_1, lw_okq q := List.forall_mem_cons.mpr ⟨lw_p0, List.forall_mem_cons.mpr ⟨lw_p1, List.forall_mem_cons.mpr ⟨lw_p2, List.forall_mem_cons.mpr ⟨lw_p3, List.forall_mem_cons.mpr ⟨lw_p4, List.forall_mem_cons.mpr ⟨lw_p5, List.forall_mem_cons.mpr ⟨lw_p6, List.forall_mem_cons.mpr ⟨lw_p7, List.forall_mem_cons.mpr ⟨lw_p8, List.forall_mem_cons.mpr ⟨lw_p9, List.forall_mem_cons.mpr ⟨lw_p10, List.forall_mem_cons.mpr ⟨lw_p11, List.forall_mem_cons.mpr ⟨lw_p12, List.forall_mem_cons.mpr ⟨lw_p13, List.forall_mem_cons.mpr ⟨lw_p14, List.forall_mem_cons.mpr ⟨lw_p15, fun _ h => absurd h List.not_mem_nil⟩⟩⟩⟩⟩⟩⟩⟩⟩⟩⟩⟩⟩⟩⟩⟩
theorem lw_p16 : lw_okq (⟨"AccentHouse$House", "inspect", "()V"⟩, 11) := ⟨⟨by decide +kernel, by decide +kernel⟩, List.mem_of_getElem? (i := 78) (by decide +kernel), List.mem_of_getElem? (i := 825) (by decide +kernel), List.mem_of_getElem? (i := 826) (by decide +kernel)⟩
theorem lw_p17 : lw_okq (⟨"AccentHouse", "appendWord", "(I)V"⟩, 11) := ⟨⟨by decide +kernel, by decide +kernel⟩, List.mem_of_getElem? (i := 31) (by decide +kernel), List.mem_of_getElem? (i := 985) (by decide +kernel), List.mem_of_getElem? (i := 986) (by decide +kernel)⟩
theorem lw_p18 : lw_okq (⟨"AccentHouse", "requireFloor", "(I)V"⟩, 11) := ⟨⟨by decide +kernel, by decide +kernel⟩, List.mem_of_getElem? (i := 31) (by decide +kernel), List.mem_of_getElem? (i := 1025) (by decide +kernel), List.mem_of_getElem? (i := 1026) (by decide +kernel)⟩
theorem lw_p19 : lw_okq (⟨"AccentHouse", "requireVowel", "(I)V"⟩, 11) := ⟨⟨by decide +kernel, by decide +kernel⟩, List.mem_of_getElem? (i := 31) (by decide +kernel), List.mem_of_getElem? (i := 1038) (by decide +kernel), List.mem_of_getElem? (i := 1039) (by decide +kernel)⟩
theorem lw_p20 : lw_okq (⟨"AccentHouse", "requireLodger", "(I)LAccentHouse$Lodger;"⟩, 11) := ⟨⟨by decide +kernel, by decide +kernel⟩, List.mem_of_getElem? (i := 31) (by decide +kernel), List.mem_of_getElem? (i := 1050) (by decide +kernel), List.mem_of_getElem? (i := 1051) (by decide +kernel)⟩
theorem lw_p21 : lw_okq (⟨"AccentHouse", "requireRange", "(III)V"⟩, 11) := ⟨⟨by decide +kernel, by decide +kernel⟩, List.mem_of_getElem? (i := 31) (by decide +kernel), List.mem_of_getElem? (i := 1207) (by decide +kernel), List.mem_of_getElem? (i := 1208) (by decide +kernel)⟩
theorem lw_p22 : lw_okq (⟨"AccentHouse", "startTrial", "(I)LAccentHouse$Lodger;"⟩, 11) := ⟨⟨by decide +kernel, by decide +kernel⟩, List.mem_of_getElem? (i := 31) (by decide +kernel), List.mem_of_getElem? (i := 1212) (by decide +kernel), List.mem_of_getElem? (i := 1213) (by decide +kernel)⟩
theorem lw_p23 : lw_okq (⟨"AccentHouse", "runTrial", "(LAccentHouse$Lodger;I)I"⟩, 11) := ⟨⟨by decide +kernel, by decide +kernel⟩, List.mem_of_getElem? (i := 31) (by decide +kernel), List.mem_of_getElem? (i := 1216) (by decide +kernel), List.mem_of_getElem? (i := 1217) (by decide +kernel)⟩
theorem lw_p24 : lw_okq (⟨"AccentHouse", "staysWith", "(II)Z"⟩, 11) := ⟨⟨by decide +kernel, by decide +kernel⟩, List.mem_of_getElem? (i := 31) (by decide +kernel), List.mem_of_getElem? (i := 1246) (by decide +kernel), List.mem_of_getElem? (i := 1247) (by decide +kernel)⟩
theorem lw_p25 : lw_okq (⟨"AccentHouse", "requirePlace", "(ILAccentHouse$Lodger;)V"⟩, 11) := ⟨⟨by decide +kernel, by decide +kernel⟩, List.mem_of_getElem? (i := 31) (by decide +kernel), List.mem_of_getElem? (i := 1273) (by decide +kernel), List.mem_of_getElem? (i := 1274) (by decide +kernel)⟩
theorem lw_p26 : lw_okq (⟨"AccentHouse$House", "hasLetterName", "(C)Z"⟩, 11) := ⟨⟨by decide +kernel, by decide +kernel⟩, List.mem_of_getElem? (i := 78) (by decide +kernel), List.mem_of_getElem? (i := 1286) (by decide +kernel), List.mem_of_getElem? (i := 1287) (by decide +kernel)⟩
theorem lw_p27 : lw_okq (⟨"AccentHouse", "requireSlot", "(I)V"⟩, 11) := ⟨⟨by decide +kernel, by decide +kernel⟩, List.mem_of_getElem? (i := 31) (by decide +kernel), List.mem_of_getElem? (i := 1367) (by decide +kernel), List.mem_of_getElem? (i := 1368) (by decide +kernel)⟩
theorem lw_p28 : lw_okq (⟨"AccentHouseModel", "comes", "(III)V"⟩, 26) := ⟨⟨by decide +kernel, by decide +kernel⟩, List.mem_of_getElem? (i := 1429) (by decide +kernel), List.mem_of_getElem? (i := 1438) (by decide +kernel), List.mem_of_getElem? (i := 1439) (by decide +kernel)⟩
theorem lw_p29 : lw_okq (⟨"AccentHouseModel", "passesDay", "()V"⟩, 26) := ⟨⟨by decide +kernel, by decide +kernel⟩, List.mem_of_getElem? (i := 1429) (by decide +kernel), List.mem_of_getElem? (i := 1445) (by decide +kernel), List.mem_of_getElem? (i := 1446) (by decide +kernel)⟩
theorem lw_p30 : lw_okq (⟨"AccentHouseModel", "charges", "(I)V"⟩, 26) := ⟨⟨by decide +kernel, by decide +kernel⟩, List.mem_of_getElem? (i := 1429) (by decide +kernel), List.mem_of_getElem? (i := 1449) (by decide +kernel), List.mem_of_getElem? (i := 1450) (by decide +kernel)⟩
theorem lw_p31 : lw_okq (⟨"AccentHouseModel", "rentAt", "(I)I"⟩, 26) := ⟨⟨by decide +kernel, by decide +kernel⟩, List.mem_of_getElem? (i := 1429) (by decide +kernel), List.mem_of_getElem? (i := 1453) (by decide +kernel), List.mem_of_getElem? (i := 1454) (by decide +kernel)⟩
def lw_privs_2 : List (MethodName × Nat) := [(⟨"AccentHouse$House", "inspect", "()V"⟩, 11), (⟨"AccentHouse", "appendWord", "(I)V"⟩, 11), (⟨"AccentHouse", "requireFloor", "(I)V"⟩, 11), (⟨"AccentHouse", "requireVowel", "(I)V"⟩, 11), (⟨"AccentHouse", "requireLodger", "(I)LAccentHouse$Lodger;"⟩, 11), (⟨"AccentHouse", "requireRange", "(III)V"⟩, 11), (⟨"AccentHouse", "startTrial", "(I)LAccentHouse$Lodger;"⟩, 11), (⟨"AccentHouse", "runTrial", "(LAccentHouse$Lodger;I)I"⟩, 11), (⟨"AccentHouse", "staysWith", "(II)Z"⟩, 11), (⟨"AccentHouse", "requirePlace", "(ILAccentHouse$Lodger;)V"⟩, 11), (⟨"AccentHouse$House", "hasLetterName", "(C)Z"⟩, 11), (⟨"AccentHouse", "requireSlot", "(I)V"⟩, 11), (⟨"AccentHouseModel", "comes", "(III)V"⟩, 26), (⟨"AccentHouseModel", "passesDay", "()V"⟩, 26), (⟨"AccentHouseModel", "charges", "(I)V"⟩, 26), (⟨"AccentHouseModel", "rentAt", "(I)I"⟩, 26)]
theorem lw_r2 : ∀ q ∈ lw_privs_2, lw_okq q := List.forall_mem_cons.mpr ⟨lw_p16, List.forall_mem_cons.mpr ⟨lw_p17, List.forall_mem_cons.mpr ⟨lw_p18, List.forall_mem_cons.mpr ⟨lw_p19, List.forall_mem_cons.mpr ⟨lw_p20, List.forall_mem_cons.mpr ⟨lw_p21, List.forall_mem_cons.mpr ⟨lw_p22, List.forall_mem_cons.mpr ⟨lw_p23, List.forall_mem_cons.mpr ⟨lw_p24, List.forall_mem_cons.mpr ⟨lw_p25, List.forall_mem_cons.mpr ⟨lw_p26, List.forall_mem_cons.mpr ⟨lw_p27, List.forall_mem_cons.mpr ⟨lw_p28, List.forall_mem_cons.mpr ⟨lw_p29, List.forall_mem_cons.mpr ⟨lw_p30, List.forall_mem_cons.mpr ⟨lw_p31, fun _ h => absurd h List.not_mem_nil⟩⟩⟩⟩⟩⟩⟩⟩⟩⟩⟩⟩⟩⟩⟩⟩
theorem lw_p32 : lw_okq (⟨"AccentHouseModel", "teaches", "(I)V"⟩, 26) := ⟨⟨by decide +kernel, by decide +kernel⟩, List.mem_of_getElem? (i := 1429) (by decide +kernel), List.mem_of_getElem? (i := 1457) (by decide +kernel), List.mem_of_getElem? (i := 1458) (by decide +kernel)⟩
theorem lw_p33 : lw_okq (⟨"AccentHouseModel", "lessonFor", "(I)I"⟩, 26) := ⟨⟨by decide +kernel, by decide +kernel⟩, List.mem_of_getElem? (i := 1429) (by decide +kernel), List.mem_of_getElem? (i := 1461) (by decide +kernel), List.mem_of_getElem? (i := 1462) (by decide +kernel)⟩
theorem lw_p34 : lw_okq (⟨"AccentHouseModel", "at", "(II)I"⟩, 26) := ⟨⟨by decide +kernel, by decide +kernel⟩, List.mem_of_getElem? (i := 1429) (by decide +kernel), List.mem_of_getElem? (i := 1465) (by decide +kernel), List.mem_of_getElem? (i := 1466) (by decide +kernel)⟩
theorem lw_p35 : lw_okq (⟨"AccentHouseModel", "moves", "(III)V"⟩, 26) := ⟨⟨by decide +kernel, by decide +kernel⟩, List.mem_of_getElem? (i := 1429) (by decide +kernel), List.mem_of_getElem? (i := 1472) (by decide +kernel), List.mem_of_getElem? (i := 1473) (by decide +kernel)⟩
theorem lw_p36 : lw_okq (⟨"AccentHouseModel", "averagesNow", "()V"⟩, 26) := ⟨⟨by decide +kernel, by decide +kernel⟩, List.mem_of_getElem? (i := 1429) (by decide +kernel), List.mem_of_getElem? (i := 1476) (by decide +kernel), List.mem_of_getElem? (i := 1477) (by decide +kernel)⟩
theorem lw_p37 : lw_okq (⟨"AccentHouseModel", "livingOn", "(II)I"⟩, 26) := ⟨⟨by decide +kernel, by decide +kernel⟩, List.mem_of_getElem? (i := 1429) (by decide +kernel), List.mem_of_getElem? (i := 1480) (by decide +kernel), List.mem_of_getElem? (i := 1481) (by decide +kernel)⟩
theorem lw_p38 : lw_okq (⟨"AccentHouseModel", "averageAt", "(II)I"⟩, 26) := ⟨⟨by decide +kernel, by decide +kernel⟩, List.mem_of_getElem? (i := 1429) (by decide +kernel), List.mem_of_getElem? (i := 1484) (by decide +kernel), List.mem_of_getElem? (i := 1485) (by decide +kernel)⟩
theorem lw_p39 : lw_okq (⟨"AccentHouseModel", "dines", "(I)V"⟩, 26) := ⟨⟨by decide +kernel, by decide +kernel⟩, List.mem_of_getElem? (i := 1429) (by decide +kernel), List.mem_of_getElem? (i := 1488) (by decide +kernel), List.mem_of_getElem? (i := 1489) (by decide +kernel)⟩
theorem lw_p40 : lw_okq (⟨"AccentHouseModel", "slipFor", "(I)I"⟩, 26) := ⟨⟨by decide +kernel, by decide +kernel⟩, List.mem_of_getElem? (i := 1429) (by decide +kernel), List.mem_of_getElem? (i := 1492) (by decide +kernel), List.mem_of_getElem? (i := 1493) (by decide +kernel)⟩
theorem lw_p41 : lw_okq (⟨"AccentHouseModel", "inspects", "()V"⟩, 26) := ⟨⟨by decide +kernel, by decide +kernel⟩, List.mem_of_getElem? (i := 1429) (by decide +kernel), List.mem_of_getElem? (i := 1496) (by decide +kernel), List.mem_of_getElem? (i := 1497) (by decide +kernel)⟩
theorem lw_p42 : lw_okq (⟨"AccentHouseModel", "hasToGo", "(I)Z"⟩, 26) := ⟨⟨by decide +kernel, by decide +kernel⟩, List.mem_of_getElem? (i := 1429) (by decide +kernel), List.mem_of_getElem? (i := 1500) (by decide +kernel), List.mem_of_getElem? (i := 1501) (by decide +kernel)⟩
theorem lw_p43 : lw_okq (⟨"AccentHouseModel", "toLandlady", "(I)I"⟩, 26) := ⟨⟨by decide +kernel, by decide +kernel⟩, List.mem_of_getElem? (i := 1429) (by decide +kernel), List.mem_of_getElem? (i := 1504) (by decide +kernel), List.mem_of_getElem? (i := 1505) (by decide +kernel)⟩
theorem lw_p44 : lw_okq (⟨"AccentHouseModel", "rhymesHer", "(I)Z"⟩, 26) := ⟨⟨by decide +kernel, by decide +kernel⟩, List.mem_of_getElem? (i := 1429) (by decide +kernel), List.mem_of_getElem? (i := 1508) (by decide +kernel), List.mem_of_getElem? (i := 1509) (by decide +kernel)⟩
theorem lw_p45 : lw_okq (⟨"AccentHouseModel", "goes", "(I)V"⟩, 26) := ⟨⟨by decide +kernel, by decide +kernel⟩, List.mem_of_getElem? (i := 1429) (by decide +kernel), List.mem_of_getElem? (i := 1512) (by decide +kernel), List.mem_of_getElem? (i := 1513) (by decide +kernel)⟩
theorem lw_p46 : lw_okq (⟨"AccentHouseModel", "refuse", "(I)I"⟩, 26) := ⟨⟨by decide +kernel, by decide +kernel⟩, List.mem_of_getElem? (i := 1429) (by decide +kernel), List.mem_of_getElem? (i := 1604) (by decide +kernel), List.mem_of_getElem? (i := 1605) (by decide +kernel)⟩
theorem lw_p47 : lw_okq (⟨"AccentHouseModel", "feeds", "(I)V"⟩, 26) := ⟨⟨by decide +kernel, by decide +kernel⟩, List.mem_of_getElem? (i := 1429) (by decide +kernel), List.mem_of_getElem? (i := 1608) (by decide +kernel), List.mem_of_getElem? (i := 1609) (by decide +kernel)⟩
def lw_privs_3 : List (MethodName × Nat) := [(⟨"AccentHouseModel", "teaches", "(I)V"⟩, 26), (⟨"AccentHouseModel", "lessonFor", "(I)I"⟩, 26), (⟨"AccentHouseModel", "at", "(II)I"⟩, 26), (⟨"AccentHouseModel", "moves", "(III)V"⟩, 26), (⟨"AccentHouseModel", "averagesNow", "()V"⟩, 26), (⟨"AccentHouseModel", "livingOn", "(II)I"⟩, 26), (⟨"AccentHouseModel", "averageAt", "(II)I"⟩, 26), (⟨"AccentHouseModel", "dines", "(I)V"⟩, 26), (⟨"AccentHouseModel", "slipFor", "(I)I"⟩, 26), (⟨"AccentHouseModel", "inspects", "()V"⟩, 26), (⟨"AccentHouseModel", "hasToGo", "(I)Z"⟩, 26), (⟨"AccentHouseModel", "toLandlady", "(I)I"⟩, 26), (⟨"AccentHouseModel", "rhymesHer", "(I)Z"⟩, 26), (⟨"AccentHouseModel", "goes", "(I)V"⟩, 26), (⟨"AccentHouseModel", "refuse", "(I)I"⟩, 26), (⟨"AccentHouseModel", "feeds", "(I)V"⟩, 26)]
theorem lw_r3 : ∀ q ∈ lw_privs_3, lw_okq q := List.forall_mem_cons.mpr ⟨lw_p32, List.forall_mem_cons.mpr ⟨lw_p33, List.forall_mem_cons.mpr ⟨lw_p34, List.forall_mem_cons.mpr ⟨lw_p35, List.forall_mem_cons.mpr ⟨lw_p36, List.forall_mem_cons.mpr ⟨lw_p37, List.forall_mem_cons.mpr ⟨lw_p38, List.forall_mem_cons.mpr ⟨lw_p39, List.forall_mem_cons.mpr ⟨lw_p40, List.forall_mem_cons.mpr ⟨lw_p41, List.forall_mem_cons.mpr ⟨lw_p42, List.forall_mem_cons.mpr ⟨lw_p43, List.forall_mem_cons.mpr ⟨lw_p44, List.forall_mem_cons.mpr ⟨lw_p45, List.forall_mem_cons.mpr ⟨lw_p46, List.forall_mem_cons.mpr ⟨lw_p47, fun _ h => absurd h List.not_mem_nil⟩⟩⟩⟩⟩⟩⟩⟩⟩⟩⟩⟩⟩⟩⟩⟩
theorem lw_p48 : lw_okq (⟨"AccentHouseModel", "told", "(I)I"⟩, 26) := ⟨⟨by decide +kernel, by decide +kernel⟩, List.mem_of_getElem? (i := 1429) (by decide +kernel), List.mem_of_getElem? (i := 1612) (by decide +kernel), List.mem_of_getElem? (i := 1613) (by decide +kernel)⟩
theorem lw_p49 : lw_okq (⟨"AccentHouseModel", "putsAside", "()V"⟩, 26) := ⟨⟨by decide +kernel, by decide +kernel⟩, List.mem_of_getElem? (i := 1429) (by decide +kernel), List.mem_of_getElem? (i := 1623) (by decide +kernel), List.mem_of_getElem? (i := 1624) (by decide +kernel)⟩
theorem lw_p50 : lw_okq (⟨"AccentHouseModel", "readsText", "(I)V"⟩, 26) := ⟨⟨by decide +kernel, by decide +kernel⟩, List.mem_of_getElem? (i := 1429) (by decide +kernel), List.mem_of_getElem? (i := 1627) (by decide +kernel), List.mem_of_getElem? (i := 1628) (by decide +kernel)⟩
theorem lw_p51 : lw_okq (⟨"AccentHouseModel", "next", "()V"⟩, 26) := ⟨⟨by decide +kernel, by decide +kernel⟩, List.mem_of_getElem? (i := 1429) (by decide +kernel), List.mem_of_getElem? (i := 1631) (by decide +kernel), List.mem_of_getElem? (i := 1632) (by decide +kernel)⟩
theorem lw_p52 : lw_okq (⟨"AccentHouseModel", "takesWord", "(I)V"⟩, 26) := ⟨⟨by decide +kernel, by decide +kernel⟩, List.mem_of_getElem? (i := 1429) (by decide +kernel), List.mem_of_getElem? (i := 1641) (by decide +kernel), List.mem_of_getElem? (i := 1642) (by decide +kernel)⟩
theorem lw_p53 : lw_okq (⟨"AccentHouseModel", "isKey", "(I)Z"⟩, 26) := ⟨⟨by decide +kernel, by decide +kernel⟩, List.mem_of_getElem? (i := 1429) (by decide +kernel), List.mem_of_getElem? (i := 1645) (by decide +kernel), List.mem_of_getElem? (i := 1646) (by decide +kernel)⟩
theorem lw_p54 : lw_okq (⟨"AccentHouseModel", "errs", "(I)V"⟩, 26) := ⟨⟨by decide +kernel, by decide +kernel⟩, List.mem_of_getElem? (i := 1429) (by decide +kernel), List.mem_of_getElem? (i := 1649) (by decide +kernel), List.mem_of_getElem? (i := 1650) (by decide +kernel)⟩
theorem lw_p55 : lw_okq (⟨"AccentHouseModel", "goesOn", "()V"⟩, 26) := ⟨⟨by decide +kernel, by decide +kernel⟩, List.mem_of_getElem? (i := 1429) (by decide +kernel), List.mem_of_getElem? (i := 1653) (by decide +kernel), List.mem_of_getElem? (i := 1654) (by decide +kernel)⟩
theorem lw_p56 : lw_okq (⟨"AccentHouseModel", "takesNumber", "(II)I"⟩, 26) := ⟨⟨by decide +kernel, by decide +kernel⟩, List.mem_of_getElem? (i := 1429) (by decide +kernel), List.mem_of_getElem? (i := 1657) (by decide +kernel), List.mem_of_getElem? (i := 1658) (by decide +kernel)⟩
theorem lw_p57 : lw_okq (⟨"AccentHouseModel", "here", "(II)I"⟩, 26) := ⟨⟨by decide +kernel, by decide +kernel⟩, List.mem_of_getElem? (i := 1429) (by decide +kernel), List.mem_of_getElem? (i := 1661) (by decide +kernel), List.mem_of_getElem? (i := 1662) (by decide +kernel)⟩
theorem lw_p58 : lw_okq (⟨"AccentHouseModel", "takesSemicolon", "()V"⟩, 26) := ⟨⟨by decide +kernel, by decide +kernel⟩, List.mem_of_getElem? (i := 1429) (by decide +kernel), List.mem_of_getElem? (i := 1665) (by decide +kernel), List.mem_of_getElem? (i := 1666) (by decide +kernel)⟩
theorem lw_p59 : lw_okq (⟨"AccentHouseModel", "readsLine", "()V"⟩, 26) := ⟨⟨by decide +kernel, by decide +kernel⟩, List.mem_of_getElem? (i := 1429) (by decide +kernel), List.mem_of_getElem? (i := 1669) (by decide +kernel), List.mem_of_getElem? (i := 1670) (by decide +kernel)⟩
theorem lw_p60 : lw_okq (⟨"AccentHouseModel", "readsLodger", "()V"⟩, 26) := ⟨⟨by decide +kernel, by decide +kernel⟩, List.mem_of_getElem? (i := 1429) (by decide +kernel), List.mem_of_getElem? (i := 1673) (by decide +kernel), List.mem_of_getElem? (i := 1674) (by decide +kernel)⟩
theorem lw_p61 : lw_okq (⟨"AccentHouseModel", "isName", "()V"⟩, 26) := ⟨⟨by decide +kernel, by decide +kernel⟩, List.mem_of_getElem? (i := 1429) (by decide +kernel), List.mem_of_getElem? (i := 1677) (by decide +kernel), List.mem_of_getElem? (i := 1678) (by decide +kernel)⟩
theorem lw_p62 : lw_okq (⟨"AccentHouseModel", "lodgerNamed", "(II)I"⟩, 26) := ⟨⟨by decide +kernel, by decide +kernel⟩, List.mem_of_getElem? (i := 1429) (by decide +kernel), List.mem_of_getElem? (i := 1681) (by decide +kernel), List.mem_of_getElem? (i := 1682) (by decide +kernel)⟩
theorem lw_p63 : lw_okq (⟨"AccentHouseModel", "takesAccent", "()I"⟩, 26) := ⟨⟨by decide +kernel, by decide +kernel⟩, List.mem_of_getElem? (i := 1429) (by decide +kernel), List.mem_of_getElem? (i := 1685) (by decide +kernel), List.mem_of_getElem? (i := 1686) (by decide +kernel)⟩
def lw_privs_4 : List (MethodName × Nat) := [(⟨"AccentHouseModel", "told", "(I)I"⟩, 26), (⟨"AccentHouseModel", "putsAside", "()V"⟩, 26), (⟨"AccentHouseModel", "readsText", "(I)V"⟩, 26), (⟨"AccentHouseModel", "next", "()V"⟩, 26), (⟨"AccentHouseModel", "takesWord", "(I)V"⟩, 26), (⟨"AccentHouseModel", "isKey", "(I)Z"⟩, 26), (⟨"AccentHouseModel", "errs", "(I)V"⟩, 26), (⟨"AccentHouseModel", "goesOn", "()V"⟩, 26), (⟨"AccentHouseModel", "takesNumber", "(II)I"⟩, 26), (⟨"AccentHouseModel", "here", "(II)I"⟩, 26), (⟨"AccentHouseModel", "takesSemicolon", "()V"⟩, 26), (⟨"AccentHouseModel", "readsLine", "()V"⟩, 26), (⟨"AccentHouseModel", "readsLodger", "()V"⟩, 26), (⟨"AccentHouseModel", "isName", "()V"⟩, 26), (⟨"AccentHouseModel", "lodgerNamed", "(II)I"⟩, 26), (⟨"AccentHouseModel", "takesAccent", "()I"⟩, 26)]
theorem lw_r4 : ∀ q ∈ lw_privs_4, lw_okq q := List.forall_mem_cons.mpr ⟨lw_p48, List.forall_mem_cons.mpr ⟨lw_p49, List.forall_mem_cons.mpr ⟨lw_p50, List.forall_mem_cons.mpr ⟨lw_p51, List.forall_mem_cons.mpr ⟨lw_p52, List.forall_mem_cons.mpr ⟨lw_p53, List.forall_mem_cons.mpr ⟨lw_p54, List.forall_mem_cons.mpr ⟨lw_p55, List.forall_mem_cons.mpr ⟨lw_p56, List.forall_mem_cons.mpr ⟨lw_p57, List.forall_mem_cons.mpr ⟨lw_p58, List.forall_mem_cons.mpr ⟨lw_p59, List.forall_mem_cons.mpr ⟨lw_p60, List.forall_mem_cons.mpr ⟨lw_p61, List.forall_mem_cons.mpr ⟨lw_p62, List.forall_mem_cons.mpr ⟨lw_p63, fun _ h => absurd h List.not_mem_nil⟩⟩⟩⟩⟩⟩⟩⟩⟩⟩⟩⟩⟩⟩⟩⟩
theorem lw_p64 : lw_okq (⟨"AccentHouseModel", "readsPay", "()V"⟩, 26) := ⟨⟨by decide +kernel, by decide +kernel⟩, List.mem_of_getElem? (i := 1429) (by decide +kernel), List.mem_of_getElem? (i := 1689) (by decide +kernel), List.mem_of_getElem? (i := 1690) (by decide +kernel)⟩
theorem lw_p65 : lw_okq (⟨"AccentHouseModel", "takesLodger", "()I"⟩, 26) := ⟨⟨by decide +kernel, by decide +kernel⟩, List.mem_of_getElem? (i := 1429) (by decide +kernel), List.mem_of_getElem? (i := 1693) (by decide +kernel), List.mem_of_getElem? (i := 1694) (by decide +kernel)⟩
theorem lw_p66 : lw_okq (⟨"AccentHouseModel", "pays", "(II)V"⟩, 26) := ⟨⟨by decide +kernel, by decide +kernel⟩, List.mem_of_getElem? (i := 1429) (by decide +kernel), List.mem_of_getElem? (i := 1697) (by decide +kernel), List.mem_of_getElem? (i := 1698) (by decide +kernel)⟩
theorem lw_p67 : lw_okq (⟨"AccentHouseModel", "readsMove", "()V"⟩, 26) := ⟨⟨by decide +kernel, by decide +kernel⟩, List.mem_of_getElem? (i := 1429) (by decide +kernel), List.mem_of_getElem? (i := 1701) (by decide +kernel), List.mem_of_getElem? (i := 1702) (by decide +kernel)⟩
theorem lw_p68 : lw_okq (⟨"AccentHouseModel", "passes", "(I)V"⟩, 26) := ⟨⟨by decide +kernel, by decide +kernel⟩, List.mem_of_getElem? (i := 1429) (by decide +kernel), List.mem_of_getElem? (i := 1705) (by decide +kernel), List.mem_of_getElem? (i := 1706) (by decide +kernel)⟩
theorem lw_p69 : lw_okq (⟨"AccentHouseModel", "putsBack", "()V"⟩, 26) := ⟨⟨by decide +kernel, by decide +kernel⟩, List.mem_of_getElem? (i := 1429) (by decide +kernel), List.mem_of_getElem? (i := 1709) (by decide +kernel), List.mem_of_getElem? (i := 1710) (by decide +kernel)⟩
theorem lw_p70 : lw_okq (⟨"AccentHouseModel", "daysLeft", "()I"⟩, 26) := ⟨⟨by decide +kernel, by decide +kernel⟩, List.mem_of_getElem? (i := 1429) (by decide +kernel), List.mem_of_getElem? (i := 1755) (by decide +kernel), List.mem_of_getElem? (i := 1756) (by decide +kernel)⟩
theorem lw_p71 : lw_okq (⟨"AccentHouseModel", "ofLodger", "(II)I"⟩, 26) := ⟨⟨by decide +kernel, by decide +kernel⟩, List.mem_of_getElem? (i := 1429) (by decide +kernel), List.mem_of_getElem? (i := 1771) (by decide +kernel), List.mem_of_getElem? (i := 1772) (by decide +kernel)⟩
theorem lw_p72 : lw_okq (⟨"AccentHouseModel", "isLodger", "(I)Z"⟩, 26) := ⟨⟨by decide +kernel, by decide +kernel⟩, List.mem_of_getElem? (i := 1429) (by decide +kernel), List.mem_of_getElem? (i := 1775) (by decide +kernel), List.mem_of_getElem? (i := 1776) (by decide +kernel)⟩
theorem lw_p73 : lw_okq (⟨"AccentHouseModel", "lettersOf", "(I)I"⟩, 26) := ⟨⟨by decide +kernel, by decide +kernel⟩, List.mem_of_getElem? (i := 1429) (by decide +kernel), List.mem_of_getElem? (i := 1803) (by decide +kernel), List.mem_of_getElem? (i := 1804) (by decide +kernel)⟩
theorem lw_p74 : lw_okq (⟨"AccentHouseModel", "between", "(II)I"⟩, 26) := ⟨⟨by decide +kernel, by decide +kernel⟩, List.mem_of_getElem? (i := 1429) (by decide +kernel), List.mem_of_getElem? (i := 1835) (by decide +kernel), List.mem_of_getElem? (i := 1836) (by decide +kernel)⟩
theorem lw_p75 : lw_okq (⟨"AccentHouseModel", "rhyme", "(II)Z"⟩, 26) := ⟨⟨by decide +kernel, by decide +kernel⟩, List.mem_of_getElem? (i := 1429) (by decide +kernel), List.mem_of_getElem? (i := 1843) (by decide +kernel), List.mem_of_getElem? (i := 1844) (by decide +kernel)⟩
theorem lw_p76 : lw_okq (⟨"AccentHouseModel", "says", "(Z)Z"⟩, 26) := ⟨⟨by decide +kernel, by decide +kernel⟩, List.mem_of_getElem? (i := 1429) (by decide +kernel), List.mem_of_getElem? (i := 1847) (by decide +kernel), List.mem_of_getElem? (i := 1848) (by decide +kernel)⟩
theorem lw_p77 : lw_okq (⟨"AccentHouseModel", "refuses", "()Z"⟩, 26) := ⟨⟨by decide +kernel, by decide +kernel⟩, List.mem_of_getElem? (i := 1429) (by decide +kernel), List.mem_of_getElem? (i := 1851) (by decide +kernel), List.mem_of_getElem? (i := 1852) (by decide +kernel)⟩
theorem lw_p78 : lw_okq (⟨"AccentHouseModel", "tracks", "(I)V"⟩, 26) := ⟨⟨by decide +kernel, by decide +kernel⟩, List.mem_of_getElem? (i := 1429) (by decide +kernel), List.mem_of_getElem? (i := 1891) (by decide +kernel), List.mem_of_getElem? (i := 1892) (by decide +kernel)⟩
theorem lw_p79 : lw_okq (⟨"AccentHouseModel", "staysWith", "(II)Z"⟩, 26) := ⟨⟨by decide +kernel, by decide +kernel⟩, List.mem_of_getElem? (i := 1429) (by decide +kernel), List.mem_of_getElem? (i := 1907) (by decide +kernel), List.mem_of_getElem? (i := 1908) (by decide +kernel)⟩
def lw_privs_5 : List (MethodName × Nat) := [(⟨"AccentHouseModel", "readsPay", "()V"⟩, 26), (⟨"AccentHouseModel", "takesLodger", "()I"⟩, 26), (⟨"AccentHouseModel", "pays", "(II)V"⟩, 26), (⟨"AccentHouseModel", "readsMove", "()V"⟩, 26), (⟨"AccentHouseModel", "passes", "(I)V"⟩, 26), (⟨"AccentHouseModel", "putsBack", "()V"⟩, 26), (⟨"AccentHouseModel", "daysLeft", "()I"⟩, 26), (⟨"AccentHouseModel", "ofLodger", "(II)I"⟩, 26), (⟨"AccentHouseModel", "isLodger", "(I)Z"⟩, 26), (⟨"AccentHouseModel", "lettersOf", "(I)I"⟩, 26), (⟨"AccentHouseModel", "between", "(II)I"⟩, 26), (⟨"AccentHouseModel", "rhyme", "(II)Z"⟩, 26), (⟨"AccentHouseModel", "says", "(Z)Z"⟩, 26), (⟨"AccentHouseModel", "refuses", "()Z"⟩, 26), (⟨"AccentHouseModel", "tracks", "(I)V"⟩, 26), (⟨"AccentHouseModel", "staysWith", "(II)Z"⟩, 26)]
theorem lw_r5 : ∀ q ∈ lw_privs_5, lw_okq q := List.forall_mem_cons.mpr ⟨lw_p64, List.forall_mem_cons.mpr ⟨lw_p65, List.forall_mem_cons.mpr ⟨lw_p66, List.forall_mem_cons.mpr ⟨lw_p67, List.forall_mem_cons.mpr ⟨lw_p68, List.forall_mem_cons.mpr ⟨lw_p69, List.forall_mem_cons.mpr ⟨lw_p70, List.forall_mem_cons.mpr ⟨lw_p71, List.forall_mem_cons.mpr ⟨lw_p72, List.forall_mem_cons.mpr ⟨lw_p73, List.forall_mem_cons.mpr ⟨lw_p74, List.forall_mem_cons.mpr ⟨lw_p75, List.forall_mem_cons.mpr ⟨lw_p76, List.forall_mem_cons.mpr ⟨lw_p77, List.forall_mem_cons.mpr ⟨lw_p78, List.forall_mem_cons.mpr ⟨lw_p79, fun _ h => absurd h List.not_mem_nil⟩⟩⟩⟩⟩⟩⟩⟩⟩⟩⟩⟩⟩⟩⟩⟩
theorem lw_p80 : lw_okq (⟨"AccentHouseModel", "remembers", "()V"⟩, 26) := ⟨⟨by decide +kernel, by decide +kernel⟩, List.mem_of_getElem? (i := 1429) (by decide +kernel), List.mem_of_getElem? (i := 1931) (by decide +kernel), List.mem_of_getElem? (i := 1932) (by decide +kernel)⟩
theorem lw_p81 : lw_okq (⟨"AccentHouseModel", "isTakenLetter", "(I)Z"⟩, 26) := ⟨⟨by decide +kernel, by decide +kernel⟩, List.mem_of_getElem? (i := 1429) (by decide +kernel), List.mem_of_getElem? (i := 1940) (by decide +kernel), List.mem_of_getElem? (i := 1941) (by decide +kernel)⟩
theorem lw_p82 : lw_okq (⟨"AccentHouseModel", "sets", "(II)I"⟩, 26) := ⟨⟨by decide +kernel, by decide +kernel⟩, List.mem_of_getElem? (i := 1429) (by decide +kernel), List.mem_of_getElem? (i := 1952) (by decide +kernel), List.mem_of_getElem? (i := 1953) (by decide +kernel)⟩
theorem lw_p83 : lw_okq (⟨"AccentHouseModel", "writesName", "(I)V"⟩, 26) := ⟨⟨by decide +kernel, by decide +kernel⟩, List.mem_of_getElem? (i := 1429) (by decide +kernel), List.mem_of_getElem? (i := 1988) (by decide +kernel), List.mem_of_getElem? (i := 1989) (by decide +kernel)⟩
theorem lw_p84 : lw_okq (⟨"AccentHouseModel", "writes", "(I)V"⟩, 26) := ⟨⟨by decide +kernel, by decide +kernel⟩, List.mem_of_getElem? (i := 1429) (by decide +kernel), List.mem_of_getElem? (i := 1992) (by decide +kernel), List.mem_of_getElem? (i := 1993) (by decide +kernel)⟩
theorem lw_p85 : lw_okq (⟨"AccentHouseModel", "writesNumber", "(I)V"⟩, 26) := ⟨⟨by decide +kernel, by decide +kernel⟩, List.mem_of_getElem? (i := 1429) (by decide +kernel), List.mem_of_getElem? (i := 1996) (by decide +kernel), List.mem_of_getElem? (i := 1997) (by decide +kernel)⟩
def lw_privs_6 : List (MethodName × Nat) := [(⟨"AccentHouseModel", "remembers", "()V"⟩, 26), (⟨"AccentHouseModel", "isTakenLetter", "(I)Z"⟩, 26), (⟨"AccentHouseModel", "sets", "(II)I"⟩, 26), (⟨"AccentHouseModel", "writesName", "(I)V"⟩, 26), (⟨"AccentHouseModel", "writes", "(I)V"⟩, 26), (⟨"AccentHouseModel", "writesNumber", "(I)V"⟩, 26)]
theorem lw_r6 : ∀ q ∈ lw_privs_6, lw_okq q := List.forall_mem_cons.mpr ⟨lw_p80, List.forall_mem_cons.mpr ⟨lw_p81, List.forall_mem_cons.mpr ⟨lw_p82, List.forall_mem_cons.mpr ⟨lw_p83, List.forall_mem_cons.mpr ⟨lw_p84, List.forall_mem_cons.mpr ⟨lw_p85, fun _ h => absurd h List.not_mem_nil⟩⟩⟩⟩⟩⟩
def lw_privs : List (MethodName × Nat) := lw_privs_1 ++ (lw_privs_2 ++ (lw_privs_3 ++ (lw_privs_4 ++ (lw_privs_5 ++ (lw_privs_6)))))
def lw_tbl : List Cond := k2_sels lw_privs ++ tables_1
theorem lw_privs_ok : ∀ q ∈ lw_privs, lw_okq q := by
  show ∀ q ∈ lw_privs_1 ++ (lw_privs_2 ++ (lw_privs_3 ++ (lw_privs_4 ++ (lw_privs_5 ++ (lw_privs_6))))), lw_okq q
  exact List.forall_mem_append.mpr ⟨lw_r1, List.forall_mem_append.mpr ⟨lw_r2, List.forall_mem_append.mpr ⟨lw_r3, List.forall_mem_append.mpr ⟨lw_r4, List.forall_mem_append.mpr ⟨lw_r5, lw_r6⟩⟩⟩⟩⟩
/-- the streams that the claim lets the run draw from -/
abbrev lw_cs : List Choice := [Jvm.Choice.named "NaN.bits"]
theorem lw_bits : nanBits ∈ lw_cs := by first | decide | exact List.mem_cons_self | simp [lw_cs, nanBits]
end
section
/-! ===== BEGIN words of one list among another's, by their places ===== -/
theorem goodIn_r {big : List Cond} (ws : List Cond) (ps : List Nat) (hp : ws = ps.filterMap (fun i => big[i]?)) (h : ws.all goodWord = true) : GoodIn big ws := by
  intro w hw
  have h1 := List.all_eq_true.mp h w hw
  rw [hp] at hw
  obtain ⟨i, -, hi⟩ := List.mem_filterMap.mp hw
  have hm : w ∈ big := by first | exact List.mem_of_getElem? hi | exact List.getElem?_mem hi
  exact ⟨hm, good_of_word h1⟩
theorem goodIn_app {big a b : List Cond} (ha : GoodIn big a) (hb : GoodIn big b) : GoodIn big (a ++ b) := fun w h => (List.mem_append.mp h).elim (ha w) (hb w)
theorem goodIn_ca {big a b : List Cond} {c : Cond} (ha : GoodIn big (c :: a)) (hb : GoodIn big b) : GoodIn big (c :: (a ++ b)) := fun w h => (List.mem_cons.mp h).elim (fun e => ha w (List.mem_cons.mpr (Or.inl e))) (fun h => (List.mem_append.mp h).elim (fun h => ha w (List.mem_cons.mpr (Or.inr h))) (hb w))
theorem goodIn_sub {big ws : List Cond} (hm : ∀ w ∈ ws, w ∈ big) (h : ws.all goodWord = true) : GoodIn big ws := fun w hw => ⟨hm w hw, good_of_word (List.all_eq_true.mp h w hw)⟩
/-! ===== END ===== -/

/-! ===== BEGIN exceptions that leave a method, and their catching by the caller (launches without stack traces) ===== -/
section VXA
/-! The laws vx_back, vx_callV, vx_callS, vx_callSW, vx_throw0, vx_throwS follow proofs of the library, with one case more: JvmDerived/Free/Laws.lean (Back.of_free), Shelf42/LK1.lean (callV, callS), Shelf/KitTraced.lean (throwNew0V, throwNewS). -/
/-- where a method has thrown q: the class by its name, the cell, what was written, the world -/
def vx_T (XC : String → State → State → Prop) (st : State) (q : Addr) (t : State) (mc ms : Nat) (free : Addr → Prop) : Prop :=
  ∃ (E : String) (ce : Cell) (L : List Loc), XC E st t ∧ t.heap[q]? = some ce ∧ ce.vm = .none ∧ st.vm.findClass E = some ce.cls ∧ st.WarmedH t.vm ∧ st.sameButNew ({ t with vm := st.vm } : State) L mc ms ∧ ∀ z ∈ L, free z.base
def vx_Q (Qc : Array Value → State → Outcome → State → Prop) (XC : String → State → State → Prop) (mc ms : Nat) (free : Addr → Prop) : Array Value → State → Outcome → State → Prop := fun a st o t =>
  (Qc a st o t ∧ ∃ L, FrameEnd st o t L mc ms ∧ ∀ q ∈ L, free q.base) ∨ ∃ q, o = .threw q ∧ vx_T XC st q t mc ms free
/-- a callee that returns or throws -/
def vx_Met (l : Launch) (y : MethodName) (ws : List Cond) (rm : Room) (Pc : Array Value → State → Prop) (Qc : Array Value → State → Outcome → State → Prop) (XC : String → State → State → Prop) (mc ms : Nat) (free : Addr → Prop) : Prop :=
  MetFree l y (headSpec ws rm) Pc (fun _ _ _ _ _ => True) (vx_Q Qc XC mc ms free)
def vx_Post (XC : String → State → State → Prop) (mc ms : Nat) (free : Addr → Prop) : Pt → Array Value → Addr → Pt → Prop := fun A a q B =>
  ∃ (g : JFrame) (mk : MethodId) (t : State) (L : List Loc) (E : String) (ce : Cell), B.U.heap = t.heap ∧ B.U.vm = t.vm ∧ XC E (A.U.calling g mk a) t ∧ t.heap[q]? = some ce ∧ ce.vm = .none ∧ A.U.vm.findClass E = some ce.cls ∧ B.locs = A.locs ++ L ∧ (∀ z ∈ L, free z.base) ∧ B.cells = A.cells + mc ∧ B.slots = A.slots + ms
def vx_Back (l : Launch) (R : Room) (p : Program) (e : Env) (below : List Frame) (s : State) (sargs : Array Value) (y : MethodName) (len W9 : Nat)
    (Pre : Pt → Array Value → Prop) (Post : Pt → Array Value → Option Value → Pt → Prop) (PostX : Pt → Array Value → Addr → Pt → Prop) : Prop :=
  ∀ (m : MethodId) (meth : Method) (c : Code) (A : Pt) (g : JFrame) (ig : Instr) (mk : MethodId) (a : Array Value),
    Stand p l e R s m sargs below meth c A.U A.locs A.cells A.slots → g.method = m → g.locals.size = c.maxLocals → decode c.code g.pc = .ok (ig, len) →
    2 * g.monitorRoom + (g.stack.map fun v => v.category).sum ≤ W9 → A.U.methodNamed? y = some mk → Pre A a →
    (∃ (v : Option Value) (B : Pt), Stand p l e R s m sargs below meth c B.U B.locs B.cells B.slots ∧ Post A a v B ∧
      Steps p.tables e below (doInvoke e (A.U.setTop g) [] mk a).1 (B.U.setTop { g with pc := g.pc + len, stack := v.toList ++ g.stack })) ∨
    (∃ (q : Addr) (B : Pt), Stand p l e R s m sargs below meth c B.U B.locs B.cells B.slots ∧ PostX A a q B ∧
      Steps p.tables e below (doInvoke e (A.U.setTop g) [] mk a).1 ((B.U.setTop g).pushFrame (.throwing q)))
section Payer
variable {l : Launch} {R : Room} {p : Program} {e : Env} {below : List Frame} {s : State} {sargs : Array Value} {y : MethodName} {len W9 : Nat}
theorem vx_back {ws : List Cond} {rm : Room} {Pc : Array Value → State → Prop} {Qc : Array Value → State → Outcome → State → Prop} {XC : String → State → State → Prop} {mc ms : Nat} {free : Addr → Prop} {bytes : ByteArray} {maxL : Nat} {ret : Option FieldType}
    (hM : vx_Met l y ws rm Pc Qc XC mc ms free) (hblind : FrameBlind Pc) (hrc : rm.cells = mc) (hrs : rm.slots = ms)
    (hframes : rm.frames + 1 ≤ R.frames) (hlocals : W9 + (maxL + 11) + rm.locals ≤ R.locals)
    (hws : ∀ w ∈ ws, ∀ a' U, s.WarmedH U.vm → w.before a' U = true) (hcode : Cond.code y bytes maxL ret ∈ ws) (hinit : ∀ a' U, s.WarmedH U.vm → (Cond.initialized y.cls).before a' U = true) :
    vx_Back l R p e below s sargs y len W9 (PreOf R mc ms Pc) (PostOf Qc mc ms free) (vx_Post XC mc ms free) := by
  intro m meth c A g ig mk a X hg hsize hdg hW hn hp
  have h1 : (headSpec ws rm).pre.before a A.U = true := atoms_intro fun w hw => hws w hw _ _ X.warmed
  have h2 : (Cond.code y bytes maxL ret).before a A.U = true := hws _ hcode _ _ X.warmed
  have h3 : (Cond.initialized y.cls).before a A.U = true := hinit _ _ X.warmed
  have h4 : A.cells + (headSpec ws rm).room.cells ≤ R.cells := by rw [show (headSpec ws rm).room.cells = mc from hrc]; exact hp.1
  have h5 : A.slots + (headSpec ws rm).room.slots ≤ R.slots := by rw [show (headSpec ws rm).room.slots = ms from hrs]; exact hp.2.1
  have hPc : Pc a (A.U.calling g mk a) := hblind _ _ _ _ hp.2.2
  obtain ⟨U, Ls, c0, s0⟩ := A
  dsimp only [Pt.U, Pt.locs, Pt.cells, Pt.slots] at h1 h2 h3 h4 h5 X hn hPc ⊢
  obtain ⟨methY, cY, hmY, hcY, -, hlY, -, -, -, -⟩ := Cond.code_spec hn h2
  obtain ⟨kY, hkY, -⟩ := className_of_methodNamed hn
  have hinitY : kY.init = .initialized := Cond.initialized_spec (findClass_of_methodNamed hn) hkY h3
  have h : At U g.method c below := by rw [hg]; exact X.here
  have hlocals9 : W9 + (maxL + 11) + (headSpec ws rm).room.locals ≤ R.locals := hlocals
  have happ : (headSpec ws rm).appliesLoose y e.platform (U.calling g mk a) = true :=
    Spec.appliesLoose_calling (g := g) h hdg hn hkY hinitY
      (X.room_calling (g := g) (R' := (headSpec ws rm).room) hsize hmY hcY hframes (by rw [hlY]; omega) h4 h5) h1
  obtain ⟨mid, hmid⟩ := h.above
  have hfr : (U.setTop g).frames = (.java g :: mid) ++ below := by rw [State.frames_setTop' g h.top, hmid]; rfl
  obtain ⟨o, s₂, hsteps, -, hend, hq⟩ := Steps.callFree hM p X.admits X.cas X.clock (acts := []) hfr happ hPc trivial
  have hq' : vx_Q Qc XC mc ms free a (U.calling g mk a) o s₂ := hq
  rw [State.frames_setTop' g h.top] at hend
  obtain ⟨g₀, hg0⟩ := Option.isSome_iff_exists.mp h.top
  obtain ⟨r, hr⟩ := State.topJava?_eq_some.mp hg0
  have hr' : (({ U with heap := s₂.heap, slotsUsed := s₂.slotsUsed } : State).setVm s₂.vm).frames = .java g₀ :: r := hr
  rcases hq' with ⟨hqc, L, hfe, hL⟩ | ⟨q, rfl, E, ce, L, hx, hce, hcv, hcl, hW₂, hsm, hL⟩
  · obtain ⟨⟨v, rfl⟩, hW₂, e2, q2, q3, q4, q5, q6⟩ := id hfe
    have e3 : s₂ = ({ (U.calling g mk a).setFrames s₂.frames with heap := s₂.heap, slotsUsed := s₂.slotsUsed } : State).setVm s₂.vm := by
      have : s₂ = ({ s₂ with vm := (U.calling g mk a).vm } : State).setVm s₂.vm := rfl
      rw [e2] at this
      exact this
    obtain ⟨c₂, i₂, len₂, hc₂, hd₂, hf₂⟩ := hend
    have hW' : U.WarmedH s₂.vm := hW₂
    have hcc : c₂ = c := by
      have h1 : s₂.code? g.method = U.code? g.method := by
        rw [State.code?_eq, State.code?_eq, hW'.alike.method?]
      exact Option.some.inj (hc₂.symm.trans (h1.trans h.code))
    subst hcc
    have hlen : len₂ = len := by rw [hdg] at hd₂; cases hd₂; rfl
    subst hlen
    have hs₂ : s₂ = (({ U with heap := s₂.heap, slotsUsed := s₂.slotsUsed } : State).setVm s₂.vm).setTop { g with pc := g.pc + len₂, stack := v.toList ++ g.stack } := by
      refine e3.trans ?_
      rw [hf₂, State.calling_eq h.top, State.setFrames_setFrames, State.setTop_of_frames _ hr', hr]
      rfl
    have hsame : U.sameButNew ({ U with heap := s₂.heap, slotsUsed := s₂.slotsUsed } : State) L mc ms := by
      refine ⟨?_, q2, q3, q4, q5, q6⟩
      obtain ⟨t, ht, -⟩ := State.frames_cons hr
      show ({ U with heap := s₂.heap, slotsUsed := s₂.slotsUsed } : State) = { U.setFrames U.frames with heap := s₂.heap, slotsUsed := s₂.slotsUsed }
      rw [State.setFrames_self ht]
    subst hg
    refine Or.inl ⟨v, ⟨(({ U with heap := s₂.heap, slotsUsed := s₂.slotsUsed } : State).setVm s₂.vm), Ls ++ L, c0 + mc, s0 + ms⟩,
      ⟨X.admits, X.cas, X.clock, X.frames, X.room, X.hears, X.method, X.code, (X.here.setHeapUsed s₂.heap s₂.slotsUsed).setVm hW'.alike, X.tail, State.WarmedH.trans X.warmed hW', X.limits, X.bytes, X.same.trans (hsame.setVm s.vm)⟩,
      ⟨g, mk, s₂, L, rfl, rfl, hqc, rfl, hL, rfl, rfl⟩, ?_⟩
    show Steps p.tables e below _ ((({ U with heap := s₂.heap, slotsUsed := s₂.slotsUsed } : State).setVm s₂.vm).setTop { g with pc := g.pc + len₂, stack := v.toList ++ g.stack })
    rw [← hs₂]
    exact hsteps
  · obtain ⟨e2, q2, q3, q4, q5, q6⟩ := id hsm
    have e3 : s₂ = ({ (U.calling g mk a).setFrames s₂.frames with heap := s₂.heap, slotsUsed := s₂.slotsUsed } : State).setVm s₂.vm := by
      have : s₂ = ({ s₂ with vm := (U.calling g mk a).vm } : State).setVm s₂.vm := rfl
      rw [e2] at this
      exact this
    have hf₂ : s₂.frames = .throwing q :: .java g :: U.frames.tail := hend
    have hW' : U.WarmedH s₂.vm := hW₂
    have hs₂ : s₂ = ((({ U with heap := s₂.heap, slotsUsed := s₂.slotsUsed } : State).setVm s₂.vm).setTop g).pushFrame (.throwing q) := by
      refine e3.trans ?_
      rw [hf₂, State.calling_eq h.top, State.setFrames_setFrames, State.pushFrame, State.frames_setTop _ hr', State.setTop_of_frames _ hr', State.setFrames_setFrames, hr]
      rfl
    have hsame : U.sameButNew ({ U with heap := s₂.heap, slotsUsed := s₂.slotsUsed } : State) L mc ms := by
      refine ⟨?_, q2, q3, q4, q5, q6⟩
      obtain ⟨t, ht, -⟩ := State.frames_cons hr
      show ({ U with heap := s₂.heap, slotsUsed := s₂.slotsUsed } : State) = { U.setFrames U.frames with heap := s₂.heap, slotsUsed := s₂.slotsUsed }
      rw [State.setFrames_self ht]
    subst hg
    refine Or.inr ⟨q, ⟨(({ U with heap := s₂.heap, slotsUsed := s₂.slotsUsed } : State).setVm s₂.vm), Ls ++ L, c0 + mc, s0 + ms⟩,
      ⟨X.admits, X.cas, X.clock, X.frames, X.room, X.hears, X.method, X.code, (X.here.setHeapUsed s₂.heap s₂.slotsUsed).setVm hW'.alike, X.tail, State.WarmedH.trans X.warmed hW', X.limits, X.bytes, X.same.trans (hsame.setVm s.vm)⟩,
      ⟨g, mk, s₂, L, E, ce, rfl, rfl, hx, hce, hcv, hcl, rfl, hL, rfl, rfl⟩, ?_⟩
    show Steps p.tables e below _ (((({ U with heap := s₂.heap, slotsUsed := s₂.slotsUsed } : State).setVm s₂.vm).setTop g).pushFrame (.throwing q))
    rw [← hs₂]
    exact hsteps
end Payer
section Calls
variable {p : Program} {l : Launch} {e : Env} {R : Room} {s : State} {m : MethodId} {args : Array Value} {below : List Frame} {meth : Method} {c : Code} {T : State} {locs : List Loc} {cells slots : Nat}
theorem vx_callV (X : Stand p l e R s m args below meth c T locs cells slots) (hexec : p.tables.exec = Jvm.exec) {own C : String} {index : Nat} {y : MethodName} {bytes : ByteArray} {maxL : Nat} {ret : Option FieldType}
    (hown : s.vm.findClass own = some m.cls) (hlink : (Cond.methodLink own index y).before args s = true) (hinst : (Cond.instanceMethod y).before args s = true) (hsel : (Cond.selects C y y).before args s = true)
    (hcode : (Cond.code y bytes maxL ret).before args s = true) (hy : y.cls ≠ "java/lang/invoke/MethodHandle" ∧ y.cls ≠ "java/lang/invoke/VarHandle")
    {W9 : Nat} {Pre : Pt → Array Value → Prop} {Post : Pt → Array Value → Option Value → Pt → Prop} {PostX : Pt → Array Value → Addr → Pt → Prop} (hK : vx_Back l R p e below s args y 3 W9 Pre Post PostX)
    {b : Addr} {cellB : Cell} (hcell : T.heap[b]? = some cellB) (hobj : cellB.vm.isStatics = false) (hcls : s.vm.findClass C = some cellB.cls)
    {g : JFrame} (hg : g.method = m) (hsize : g.locals.size = c.maxLocals) {argsL rest : List Value} (hlen : ∀ sig, parseMethodDescriptor y.desc = some sig → argsL.length = sig.parameters.length)
    (hstack : g.stack = argsL.reverse ++ .ref b :: rest) (hW : 2 * g.monitorRoom + (rest.map fun v => v.category).sum ≤ W9) (hdg : decode c.code g.pc = .ok (.invokevirtual index, 3))
    (hpre : ∀ vm₁, s.WarmedH vm₁ → Pre ⟨T.setVm vm₁, locs, cells, slots⟩ (Value.ref b :: argsL).toArray) :
    (∃ (v : Option Value) (vm₁ : Vm) (B : Pt), s.WarmedH vm₁ ∧ Stand p l e R s m args below meth c B.U B.locs B.cells B.slots ∧ Post ⟨T.setVm vm₁, locs, cells, slots⟩ (Value.ref b :: argsL).toArray v B ∧
      ∀ target, Steps p.tables e below (B.U.setTop { g with pc := g.pc + 3, stack := v.toList ++ rest }) target → Steps p.tables e below (T.setTop g) target) ∨
    (∃ (q : Addr) (vm₁ : Vm) (B : Pt), s.WarmedH vm₁ ∧ Stand p l e R s m args below meth c B.U B.locs B.cells B.slots ∧ PostX ⟨T.setVm vm₁, locs, cells, slots⟩ (Value.ref b :: argsL).toArray q B ∧
      Steps p.tables e below (T.setTop g) ((B.U.setTop { g with stack := rest }).pushFrame (.throwing q))) := by
  obtain ⟨mk, methM, hnamed, hmethM, hstM, habM⟩ := Cond.instanceMethod_spec hinst
  obtain ⟨methM', cM, hmethM', -, -, -, -, -, -, hsigM⟩ := Cond.code_spec hnamed hcode
  cases hmethM.symm.trans hmethM'
  obtain ⟨c2, r2, m2, q1, q2, q3, q4, kP, hkP, hkPi⟩ := Cond.selects_spec hsel
  cases hcls.symm.trans q1
  cases (State.methodFound?_of_named hnamed hy).symm.trans q2
  cases hnamed.symm.trans q3
  have hselP : selectMethod e.platform s.vm cellB.cls mk = .method mk := by rw [Launch.admits_selectMethod X.admits]; exact q4
  obtain ⟨vm₁, X₁, hstep₁⟩ := X.invokevirtual hexec hown hlink hnamed hmethM hstM hkP hkPi hy (a := b) (cell := cellB) hcell
    (fun z h => by rw [h] at hobj; cases hobj) hselP hmethM habM hkP hkPi (g := g) hg (argsL := argsL) (rest := rest) (hlen _ hsigM) hstack hdg
  rcases hK m meth c ⟨T.setVm vm₁, locs, cells, slots⟩ { g with stack := rest } (.invokevirtual index) mk (Value.ref b :: argsL).toArray X₁ hg hsize hdg hW (X₁.named hnamed) (hpre vm₁ X₁.warmed) with ⟨v, B, X', hpost, hsteps⟩ | ⟨q, B, X', hpost, hsteps⟩
  · exact Or.inl ⟨v, vm₁, B, X₁.warmed, X', hpost, fun target h => hstep₁ _ fun acts => by rw [doInvoke_state]; exact hsteps.trans h⟩
  · exact Or.inr ⟨q, vm₁, B, X₁.warmed, X', hpost, hstep₁ _ fun acts => by rw [doInvoke_state]; exact hsteps⟩
theorem vx_callS (X : Stand p l e R s m args below meth c T locs cells slots) (hexec : p.tables.exec = Jvm.exec) {own : String} {index : Nat} {y : MethodName} {bytes : ByteArray} {maxL : Nat} {ret : Option FieldType}
    (hown : s.vm.findClass own = some m.cls) (hlink : (Cond.methodLink own index y).before args s = true) (hstat : (Cond.static y).before args s = true) (hinit : (Cond.initialized y.cls).before args s = true)
    (hcode : (Cond.code y bytes maxL ret).before args s = true) (hy : y.cls ≠ "java/lang/invoke/MethodHandle" ∧ y.cls ≠ "java/lang/invoke/VarHandle")
    {W9 : Nat} {Pre : Pt → Array Value → Prop} {Post : Pt → Array Value → Option Value → Pt → Prop} {PostX : Pt → Array Value → Addr → Pt → Prop} (hK : vx_Back l R p e below s args y 3 W9 Pre Post PostX)
    {g : JFrame} (hg : g.method = m) (hsize : g.locals.size = c.maxLocals) {argsL rest : List Value} (hlen : ∀ sig, parseMethodDescriptor y.desc = some sig → argsL.length = sig.parameters.length)
    (hstack : g.stack = argsL.reverse ++ rest) (hW : 2 * g.monitorRoom + (rest.map fun v => v.category).sum ≤ W9) (hdg : decode c.code g.pc = .ok (.invokestatic index, 3))
    (hpre : ∀ vm₁, s.WarmedH vm₁ → Pre ⟨T.setVm vm₁, locs, cells, slots⟩ argsL.toArray) :
    (∃ (v : Option Value) (vm₁ : Vm) (B : Pt), s.WarmedH vm₁ ∧ Stand p l e R s m args below meth c B.U B.locs B.cells B.slots ∧ Post ⟨T.setVm vm₁, locs, cells, slots⟩ argsL.toArray v B ∧
      ∀ target, Steps p.tables e below (B.U.setTop { g with pc := g.pc + 3, stack := v.toList ++ rest }) target → Steps p.tables e below (T.setTop g) target) ∨
    (∃ (q : Addr) (vm₁ : Vm) (B : Pt), s.WarmedH vm₁ ∧ Stand p l e R s m args below meth c B.U B.locs B.cells B.slots ∧ PostX ⟨T.setVm vm₁, locs, cells, slots⟩ argsL.toArray q B ∧
      Steps p.tables e below (T.setTop g) ((B.U.setTop { g with stack := rest }).pushFrame (.throwing q))) := by
  obtain ⟨mk, hnamed⟩ := Cond.code_named hcode
  obtain ⟨methM, cM, hmethM, -, -, -, -, -, -, hsigM⟩ := Cond.code_spec hnamed hcode
  have hstatic : methM.isStatic = true := Cond.static_spec hnamed hmethM hstat
  obtain ⟨kP, hkP, -⟩ := className_of_methodNamed hnamed
  have hinitP : kP.init = .initialized := Cond.initialized_spec (findClass_of_methodNamed hnamed) hkP hinit
  obtain ⟨vm₁, X₁, hstep₁⟩ := X.invokestatic hexec hown hlink hnamed hmethM hstatic hkP hinitP hy (g := g) hg (argsL := argsL) (rest := rest) (hlen _ hsigM) hstack hdg
  rcases hK m meth c ⟨T.setVm vm₁, locs, cells, slots⟩ { g with stack := rest } (.invokestatic index) mk argsL.toArray X₁ hg hsize hdg hW (X₁.named hnamed) (hpre vm₁ X₁.warmed) with ⟨v, B, X', hpost, hsteps⟩ | ⟨q, B, X', hpost, hsteps⟩
  · exact Or.inl ⟨v, vm₁, B, X₁.warmed, X', hpost, fun target h => hstep₁ _ fun acts => by rw [doInvoke_state]; exact hsteps.trans h⟩
  · exact Or.inr ⟨q, vm₁, B, X₁.warmed, X', hpost, hstep₁ _ fun acts => by rw [doInvoke_state]; exact hsteps⟩
end Calls
theorem vx_cls {s : State} {T : State} {vm₁ : Vm} {E : String} {k : ClassId} (hW : s.WarmedH vm₁) (h : (T.setVm vm₁).vm.findClass E = some k) : s.vm.findClass E = some k := by
  have h1 : vm₁.findClass E = some k := h
  rw [hW.alike.findClass] at h1
  exact h1
/-- the method's frame g, with q thrown over it -/
def vx_W (p : Program) (l : Launch) (e : Env) (R : Room) (s : State) (m : MethodId) (args : Array Value) (below : List Frame) (meth : Method) (c : Code) (H : Heap) (locs : List Loc) (cells slots : Nat) (Q : State → Prop) (g : JFrame) (q : Addr) : Prop :=
  ∀ T : State, T.heap = H → Stand p l e R s m args below meth c T locs cells slots → ∃ t, Steps p.tables e below ((T.setTop g).pushFrame (.throwing q)) t ∧ Q t
def vx_Run (p : Program) (l : Launch) (e : Env) (R : Room) (s : State) (m : MethodId) (args : Array Value) (below : List Frame) (meth : Method) (c : Code) (H : Heap) (locs : List Loc) (cells slots mc ms : Nat) (g : JFrame) (rest : List Value) (Qa : State → Outcome → State → Prop) (XC : String → State → State → Prop) (free : Addr → Prop) : Prop :=
  ∀ T : State, T.heap = H → Stand p l e R s m args below meth c T locs cells slots →
    (∃ (v : Option Value) (st₀ t T' : State) (L : List Loc), st₀.heap = H ∧ Stand p l e R s m args below meth c T' (locs ++ L) (cells + mc) (slots + ms) ∧ (∀ q ∈ L, free q.base) ∧ T'.heap = t.heap ∧ T'.vm = t.vm ∧ Qa st₀ (.returned v) t ∧
      Goes p e below T g T' { g with pc := g.pc + 3, stack := v.toList ++ rest }) ∨
    (∃ (q : Addr) (st₀ t T' : State) (L : List Loc) (E : String) (ce : Cell), st₀.heap = H ∧ Stand p l e R s m args below meth c T' (locs ++ L) (cells + mc) (slots + ms) ∧ (∀ z ∈ L, free z.base) ∧ T'.heap = t.heap ∧ T'.vm = t.vm ∧ XC E st₀ t ∧ t.heap[q]? = some ce ∧ ce.vm = .none ∧ s.vm.findClass E = some ce.cls ∧
      Steps p.tables e below (T.setTop g) ((T'.setTop { g with stack := rest }).pushFrame (.throwing q)))
def vx_X {S : Type} (px : S → Prop) (B : String → S → State → Prop) (A : Nat → Prop) : String → State → State → Prop := fun E st t => ∃ u : S, px u ∧ B E u t ∧ va_F A st t
section Runs
variable {p : Program} {l : Launch} {e : Env} {R : Room} {s : State} {m : MethodId} {args : Array Value} {below : List Frame} {meth : Method} {c : Code} {H : Heap} {locs : List Loc} {cells slots : Nat}
variable {y : MethodName} {bytes cc : ByteArray} {maxL nL mc ms n index : Nat} {ret : Option FieldType} {ws : List Cond} {rm : Room} {Pc : Array Value → State → Prop} {Qc : Array Value → State → Outcome → State → Prop} {XC : String → State → State → Prop} {free : Addr → Prop} {Ts : List Cond} {own C : String} {b : Addr} {As rest : List Value} {g : JFrame}
theorem vx_callBack (cb : CallB R s args own index y bytes maxL ret ws rm mc ms n) (hM : vx_Met l y ws rm Pc Qc XC mc ms free) (hbl : FrameBlind Pc) : vx_Back l R p e below s args y 3 8 (PreOf R mc ms Pc) (PostOf Qc mc ms free) (vx_Post XC mc ms free) := by
  obtain ⟨hrc, hrs, hfr, hlo, hws, hcw, -, hini, -⟩ := cb
  exact vx_back (bytes := bytes) (maxL := maxL) (ret := ret) hM hbl hrc hrs hfr hlo hws hcw (fun a' U hW => word_at hW (Or.inl (by first | rfl | simp [Cond.onTables, Cond.keeps, Cond.steady])) hini)
theorem vx_runV (S : CallFix p m c cc nL s args Ts own) (hM : vx_Met l y ws rm Pc Qc XC mc ms free) (cw : CallW R s args own C index y bytes maxL ret ws rm mc ms n) (hp : PreV s H C b Pc As)
    (hg : g.method = m) (hn : As.length = n) (hsize : g.locals.size = nL) (hstack : g.stack = As.reverse ++ .ref b :: rest) (hW : 2 * g.monitorRoom + (rest.map fun v => v.category).sum ≤ 8) (hdg : decode cc g.pc = .ok (.invokevirtual index, 3)) (hf : cells + mc ≤ R.cells ∧ slots + ms ≤ R.slots) :
    vx_Run p l e R s m args below meth c H locs cells slots mc ms g rest (Qc (Value.ref b :: As).toArray) XC free := by
  have hK : vx_Back l R p e below s args y 3 8 (PreOf R mc ms Pc) (PostOf Qc mc ms free) (vx_Post XC mc ms free) := vx_callBack cw.1 hM hp.1
  obtain ⟨⟨-, -, -, -, -, -, hcode, -, hy, hlen, hl⟩, hin, hse⟩ := cw
  obtain ⟨hx, hb, hml, ho, -⟩ := S
  obtain ⟨-, ⟨cellB, hcB, hoB, hclB⟩, hPc⟩ := hp
  intro T hT X
  rcases vx_callV X hx (C := C) (bytes := bytes) (maxL := maxL) (ret := ret) ho hl hin hse hcode hy hK (by rw [hT]; exact hcB) hoB hclB hg (hsize.trans hml.symm) (argsL := As) (rest := rest) (fun sig h => hn.trans (hlen sig h)) hstack hW (by rw [hb]; exact hdg)
    (fun vm₁ hW₁ => ⟨hf.1, hf.2, hPc (T.setVm vm₁) hT hW₁⟩) with ⟨v, vm₁, ⟨U', l2, c2, s2⟩, hW₁, X', ⟨g', mk, t, L, e1, e2, hq, h1, hL, h2, h3⟩, st⟩ | ⟨q, vm₁, ⟨U', l2, c2, s2⟩, hW₁, X', ⟨g', mk, t, L, E, ce, e1, e2, hq, hce, hcv, hcl, h1, hL, h2, h3⟩, st⟩
  · dsimp only [Pt.U, Pt.locs, Pt.cells, Pt.slots] at X' e1 e2 h1 h2 h3 st
    subst h1; subst h2; subst h3
    exact Or.inl ⟨v, (T.setVm vm₁).calling g' mk (Value.ref b :: As).toArray, t, U', L, hT, X', hL, e1, e2, hq, st⟩
  · dsimp only [Pt.U, Pt.locs, Pt.cells, Pt.slots] at X' e1 e2 h1 h2 h3 st hcl
    subst h1; subst h2; subst h3
    exact Or.inr ⟨q, (T.setVm vm₁).calling g' mk (Value.ref b :: As).toArray, t, U', L, E, ce, hT, X', hL, e1, e2, hq, hce, hcv, vx_cls hW₁ hcl, st⟩
theorem vx_runS (S : CallFix p m c cc nL s args Ts own) (hM : vx_Met l y ws rm Pc Qc XC mc ms free) (cw : CallB R s args own index y bytes maxL ret ws rm mc ms n ∧ (Cond.static y).before args s = true) (hp : PreS s H Pc As)
    (hg : g.method = m) (hn : As.length = n) (hsize : g.locals.size = nL) (hstack : g.stack = As.reverse ++ rest) (hW : 2 * g.monitorRoom + (rest.map fun v => v.category).sum ≤ 8) (hdg : decode cc g.pc = .ok (.invokestatic index, 3)) (hf : cells + mc ≤ R.cells ∧ slots + ms ≤ R.slots) :
    vx_Run p l e R s m args below meth c H locs cells slots mc ms g rest (Qc As.toArray) XC free := by
  have hK : vx_Back l R p e below s args y 3 8 (PreOf R mc ms Pc) (PostOf Qc mc ms free) (vx_Post XC mc ms free) := vx_callBack cw.1 hM hp.1
  obtain ⟨⟨-, -, -, -, -, -, hcode, hini, hy, hlen, hl⟩, hstt⟩ := cw
  obtain ⟨hx, hb, hml, ho, -⟩ := S
  intro T hT X
  rcases vx_callS X hx (bytes := bytes) (maxL := maxL) (ret := ret) ho hl hstt hini hcode hy hK hg (hsize.trans hml.symm) (argsL := As) (rest := rest) (fun sig h => hn.trans (hlen sig h)) hstack hW (by rw [hb]; exact hdg)
    (fun vm₁ hW₁ => ⟨hf.1, hf.2, hp.2 (T.setVm vm₁) hT hW₁⟩) with ⟨v, vm₁, ⟨U', l2, c2, s2⟩, hW₁, X', ⟨g', mk, t, L, e1, e2, hq, h1, hL, h2, h3⟩, st⟩ | ⟨q, vm₁, ⟨U', l2, c2, s2⟩, hW₁, X', ⟨g', mk, t, L, E, ce, e1, e2, hq, hce, hcv, hcl, h1, hL, h2, h3⟩, st⟩
  · dsimp only [Pt.U, Pt.locs, Pt.cells, Pt.slots] at X' e1 e2 h1 h2 h3 st
    subst h1; subst h2; subst h3
    exact Or.inl ⟨v, (T.setVm vm₁).calling g' mk As.toArray, t, U', L, hT, X', hL, e1, e2, hq, st⟩
  · dsimp only [Pt.U, Pt.locs, Pt.cells, Pt.slots] at X' e1 e2 h1 h2 h3 st hcl
    subst h1; subst h2; subst h3
    exact Or.inr ⟨q, (T.setVm vm₁).calling g' mk As.toArray, t, U', L, E, ce, hT, X', hL, e1, e2, hq, hce, hcv, vx_cls hW₁ hcl, st⟩
end Runs
section Rows
variable {p : Program} {l : Launch} {e : Env} {R : Room} {s : State} {m : MethodId} {args : Array Value} {below : List Frame} {meth : Method} {c : Code} {H : Heap} {locs : List Loc} {cells slots : Nat} {Q : State → Prop}
variable {mc ms : Nat} {free : Addr → Prop} {A0 A1 : Nat → Prop} {H0 : Heap} {a : Array Value} {pc : Nat} {ls : Array Slot} {st0 rest : List Value}
theorem vx_keep {st₀ t T' : State} {L : List Loc} (h0 : st₀.heap = H) (e1 : T'.heap = t.heap) (hS : va_S A0 H0 H locs) (hA : ∀ q, q < H.size → A1 q → A0 q) (hf : ∀ q, free q → A0 q) (hL : ∀ q ∈ L, free q.base) (hF : va_F A1 st₀ t) :
    H.size ≤ T'.heap.size ∧ (∀ q : Nat, q < H.size → ¬ A1 q → T'.heap[q]? = H[q]?) ∧ va_S A0 H0 T'.heap (locs ++ L) := by
  obtain ⟨hz, hk⟩ := hF
  rw [h0] at hz hk
  exact ⟨by rw [e1]; exact hz, fun q h1 h2 => by rw [e1]; exact hk q h1 h2,
    ⟨Nat.le_trans hS.1 (by rw [e1]; exact hz), fun q h1 h2 => by rw [e1, hk q (Nat.lt_of_lt_of_le h1 hS.1) (fun z => h2 (hA q (Nat.lt_of_lt_of_le h1 hS.1) z))]; exact hS.2.1 q h1 h2, fun q hq => by
      rcases List.mem_append.mp hq with h | h
      · exact hS.2.2 q h
      · exact hf _ (hL q h)⟩⟩
theorem vx_calli {S SX : Type} {post : Int32 → S → Prop} {px : SX → Prop} {B : S → State → Prop} {BX : String → SX → State → Prop} {AX : Nat → Prop} (hr : vx_Run p l e R s m args below meth c H locs cells slots mc ms (F0 m pc ls st0) rest (va_Qi post B A1 a) (vx_X px BX AX) free) (hS : va_S A0 H0 H locs) (hA : ∀ q, q < H.size → A1 q → A0 q) (hf : ∀ q, free q → A0 q) (hAX : ∀ q, q < H.size → AX q → A0 q)
    (kx : ∀ (E : String) (ce : Cell) (q9 : Addr) (u : SX) (t : State) (H1 : Heap) (locs1 : List Loc), t.heap = H1 → s.vm.Alike t.vm → px u → BX E u t → H.size ≤ H1.size → (∀ q : Nat, q < H.size → ¬ AX q → H1[q]? = H[q]?) → va_S A0 H0 H1 locs1 → H1[q9]? = some ce → ce.vm = .none → s.vm.findClass E = some ce.cls → vx_W p l e R s m args below meth c H1 locs1 (cells + mc) (slots + ms) Q (F0 m pc ls rest) q9)
    (kk : ∀ (r : Int32) (u : S) (t : State) (H1 : Heap) (locs1 : List Loc), t.heap = H1 → s.vm.Alike t.vm → post r u → B u t → H.size ≤ H1.size → (∀ q : Nat, q < H.size → ¬ A1 q → H1[q]? = H[q]?) → va_S A0 H0 H1 locs1 → W p l e R s m args below meth c H1 locs1 (cells + mc) (slots + ms) Q (F0 m (pc + 3) ls (.int r :: rest))) : W p l e R s m args below meth c H locs cells slots Q (F0 m pc ls st0) := by
  intro T hT X
  rcases hr T hT X with ⟨v, st₀, t, T', L, h0, X', hL, e1, e2, ⟨⟨r, u, hv, hp, hb⟩, hF⟩, st⟩ | ⟨q, st₀, t, T', L, E, ce, h0, X', hL, e1, e2, ⟨u, hp, hb, hF⟩, hce, hcv, hcl, st⟩
  · cases hv
    obtain ⟨k1, k2, k3⟩ := vx_keep h0 e1 hS hA hf hL hF
    obtain ⟨t2, a1, b1⟩ := kk r u t T'.heap (locs ++ L) e1.symm (by rw [← e2]; exact X'.warmed.alike) hp hb k1 k2 k3 T' rfl X'
    exact ⟨t2, st t2 a1, b1⟩
  · obtain ⟨k1, k2, k3⟩ := vx_keep h0 e1 hS hAX hf hL hF
    obtain ⟨t2, a1, b1⟩ := kx E ce q u t T'.heap (locs ++ L) e1.symm (by rw [← e2]; exact X'.warmed.alike) hp hb k1 k2 k3 (by rw [e1]; exact hce) hcv hcl T' rfl X'
    exact ⟨t2, st.trans a1, b1⟩
theorem vx_calll {S SX : Type} {post : Int64 → S → Prop} {px : SX → Prop} {B : S → State → Prop} {BX : String → SX → State → Prop} {AX : Nat → Prop} (hr : vx_Run p l e R s m args below meth c H locs cells slots mc ms (F0 m pc ls st0) rest (va_Ql post B A1 a) (vx_X px BX AX) free) (hS : va_S A0 H0 H locs) (hA : ∀ q, q < H.size → A1 q → A0 q) (hf : ∀ q, free q → A0 q) (hAX : ∀ q, q < H.size → AX q → A0 q)
    (kx : ∀ (E : String) (ce : Cell) (q9 : Addr) (u : SX) (t : State) (H1 : Heap) (locs1 : List Loc), t.heap = H1 → s.vm.Alike t.vm → px u → BX E u t → H.size ≤ H1.size → (∀ q : Nat, q < H.size → ¬ AX q → H1[q]? = H[q]?) → va_S A0 H0 H1 locs1 → H1[q9]? = some ce → ce.vm = .none → s.vm.findClass E = some ce.cls → vx_W p l e R s m args below meth c H1 locs1 (cells + mc) (slots + ms) Q (F0 m pc ls rest) q9)
    (kk : ∀ (r : Int64) (u : S) (t : State) (H1 : Heap) (locs1 : List Loc), t.heap = H1 → s.vm.Alike t.vm → post r u → B u t → H.size ≤ H1.size → (∀ q : Nat, q < H.size → ¬ A1 q → H1[q]? = H[q]?) → va_S A0 H0 H1 locs1 → W p l e R s m args below meth c H1 locs1 (cells + mc) (slots + ms) Q (F0 m (pc + 3) ls (.long r :: rest))) : W p l e R s m args below meth c H locs cells slots Q (F0 m pc ls st0) := by
  intro T hT X
  rcases hr T hT X with ⟨v, st₀, t, T', L, h0, X', hL, e1, e2, ⟨⟨r, u, hv, hp, hb⟩, hF⟩, st⟩ | ⟨q, st₀, t, T', L, E, ce, h0, X', hL, e1, e2, ⟨u, hp, hb, hF⟩, hce, hcv, hcl, st⟩
  · cases hv
    obtain ⟨k1, k2, k3⟩ := vx_keep h0 e1 hS hA hf hL hF
    obtain ⟨t2, a1, b1⟩ := kk r u t T'.heap (locs ++ L) e1.symm (by rw [← e2]; exact X'.warmed.alike) hp hb k1 k2 k3 T' rfl X'
    exact ⟨t2, st t2 a1, b1⟩
  · obtain ⟨k1, k2, k3⟩ := vx_keep h0 e1 hS hAX hf hL hF
    obtain ⟨t2, a1, b1⟩ := kx E ce q u t T'.heap (locs ++ L) e1.symm (by rw [← e2]; exact X'.warmed.alike) hp hb k1 k2 k3 (by rw [e1]; exact hce) hcv hcl T' rfl X'
    exact ⟨t2, st.trans a1, b1⟩
theorem vx_callf {S SX : Type} {post : UInt32 → S → Prop} {px : SX → Prop} {B : S → State → Prop} {BX : String → SX → State → Prop} {AX : Nat → Prop} (hr : vx_Run p l e R s m args below meth c H locs cells slots mc ms (F0 m pc ls st0) rest (va_Qf post B A1 a) (vx_X px BX AX) free) (hS : va_S A0 H0 H locs) (hA : ∀ q, q < H.size → A1 q → A0 q) (hf : ∀ q, free q → A0 q) (hAX : ∀ q, q < H.size → AX q → A0 q)
    (kx : ∀ (E : String) (ce : Cell) (q9 : Addr) (u : SX) (t : State) (H1 : Heap) (locs1 : List Loc), t.heap = H1 → s.vm.Alike t.vm → px u → BX E u t → H.size ≤ H1.size → (∀ q : Nat, q < H.size → ¬ AX q → H1[q]? = H[q]?) → va_S A0 H0 H1 locs1 → H1[q9]? = some ce → ce.vm = .none → s.vm.findClass E = some ce.cls → vx_W p l e R s m args below meth c H1 locs1 (cells + mc) (slots + ms) Q (F0 m pc ls rest) q9)
    (kk : ∀ (r : UInt32) (u : S) (t : State) (H1 : Heap) (locs1 : List Loc), t.heap = H1 → s.vm.Alike t.vm → post r u → B u t → H.size ≤ H1.size → (∀ q : Nat, q < H.size → ¬ A1 q → H1[q]? = H[q]?) → va_S A0 H0 H1 locs1 → W p l e R s m args below meth c H1 locs1 (cells + mc) (slots + ms) Q (F0 m (pc + 3) ls (.float r :: rest))) : W p l e R s m args below meth c H locs cells slots Q (F0 m pc ls st0) := by
  intro T hT X
  rcases hr T hT X with ⟨v, st₀, t, T', L, h0, X', hL, e1, e2, ⟨⟨r, u, hv, hp, hb⟩, hF⟩, st⟩ | ⟨q, st₀, t, T', L, E, ce, h0, X', hL, e1, e2, ⟨u, hp, hb, hF⟩, hce, hcv, hcl, st⟩
  · cases hv
    obtain ⟨k1, k2, k3⟩ := vx_keep h0 e1 hS hA hf hL hF
    obtain ⟨t2, a1, b1⟩ := kk r u t T'.heap (locs ++ L) e1.symm (by rw [← e2]; exact X'.warmed.alike) hp hb k1 k2 k3 T' rfl X'
    exact ⟨t2, st t2 a1, b1⟩
  · obtain ⟨k1, k2, k3⟩ := vx_keep h0 e1 hS hAX hf hL hF
    obtain ⟨t2, a1, b1⟩ := kx E ce q u t T'.heap (locs ++ L) e1.symm (by rw [← e2]; exact X'.warmed.alike) hp hb k1 k2 k3 (by rw [e1]; exact hce) hcv hcl T' rfl X'
    exact ⟨t2, st.trans a1, b1⟩
theorem vx_calld {S SX : Type} {post : UInt64 → S → Prop} {px : SX → Prop} {B : S → State → Prop} {BX : String → SX → State → Prop} {AX : Nat → Prop} (hr : vx_Run p l e R s m args below meth c H locs cells slots mc ms (F0 m pc ls st0) rest (va_Qd post B A1 a) (vx_X px BX AX) free) (hS : va_S A0 H0 H locs) (hA : ∀ q, q < H.size → A1 q → A0 q) (hf : ∀ q, free q → A0 q) (hAX : ∀ q, q < H.size → AX q → A0 q)
    (kx : ∀ (E : String) (ce : Cell) (q9 : Addr) (u : SX) (t : State) (H1 : Heap) (locs1 : List Loc), t.heap = H1 → s.vm.Alike t.vm → px u → BX E u t → H.size ≤ H1.size → (∀ q : Nat, q < H.size → ¬ AX q → H1[q]? = H[q]?) → va_S A0 H0 H1 locs1 → H1[q9]? = some ce → ce.vm = .none → s.vm.findClass E = some ce.cls → vx_W p l e R s m args below meth c H1 locs1 (cells + mc) (slots + ms) Q (F0 m pc ls rest) q9)
    (kk : ∀ (r : UInt64) (u : S) (t : State) (H1 : Heap) (locs1 : List Loc), t.heap = H1 → s.vm.Alike t.vm → post r u → B u t → H.size ≤ H1.size → (∀ q : Nat, q < H.size → ¬ A1 q → H1[q]? = H[q]?) → va_S A0 H0 H1 locs1 → W p l e R s m args below meth c H1 locs1 (cells + mc) (slots + ms) Q (F0 m (pc + 3) ls (.double r :: rest))) : W p l e R s m args below meth c H locs cells slots Q (F0 m pc ls st0) := by
  intro T hT X
  rcases hr T hT X with ⟨v, st₀, t, T', L, h0, X', hL, e1, e2, ⟨⟨r, u, hv, hp, hb⟩, hF⟩, st⟩ | ⟨q, st₀, t, T', L, E, ce, h0, X', hL, e1, e2, ⟨u, hp, hb, hF⟩, hce, hcv, hcl, st⟩
  · cases hv
    obtain ⟨k1, k2, k3⟩ := vx_keep h0 e1 hS hA hf hL hF
    obtain ⟨t2, a1, b1⟩ := kk r u t T'.heap (locs ++ L) e1.symm (by rw [← e2]; exact X'.warmed.alike) hp hb k1 k2 k3 T' rfl X'
    exact ⟨t2, st t2 a1, b1⟩
  · obtain ⟨k1, k2, k3⟩ := vx_keep h0 e1 hS hAX hf hL hF
    obtain ⟨t2, a1, b1⟩ := kx E ce q u t T'.heap (locs ++ L) e1.symm (by rw [← e2]; exact X'.warmed.alike) hp hb k1 k2 k3 (by rw [e1]; exact hce) hcv hcl T' rfl X'
    exact ⟨t2, st.trans a1, b1⟩
theorem vx_callv {S SX : Type} {post : S → Prop} {px : SX → Prop} {B : S → State → Prop} {BX : String → SX → State → Prop} {AX : Nat → Prop} (hr : vx_Run p l e R s m args below meth c H locs cells slots mc ms (F0 m pc ls st0) rest (va_Qv post B A1 a) (vx_X px BX AX) free) (hS : va_S A0 H0 H locs) (hA : ∀ q, q < H.size → A1 q → A0 q) (hf : ∀ q, free q → A0 q) (hAX : ∀ q, q < H.size → AX q → A0 q)
    (kx : ∀ (E : String) (ce : Cell) (q9 : Addr) (u : SX) (t : State) (H1 : Heap) (locs1 : List Loc), t.heap = H1 → s.vm.Alike t.vm → px u → BX E u t → H.size ≤ H1.size → (∀ q : Nat, q < H.size → ¬ AX q → H1[q]? = H[q]?) → va_S A0 H0 H1 locs1 → H1[q9]? = some ce → ce.vm = .none → s.vm.findClass E = some ce.cls → vx_W p l e R s m args below meth c H1 locs1 (cells + mc) (slots + ms) Q (F0 m pc ls rest) q9)
    (kk : ∀ (u : S) (t : State) (H1 : Heap) (locs1 : List Loc), t.heap = H1 → s.vm.Alike t.vm → post u → B u t → H.size ≤ H1.size → (∀ q : Nat, q < H.size → ¬ A1 q → H1[q]? = H[q]?) → va_S A0 H0 H1 locs1 → W p l e R s m args below meth c H1 locs1 (cells + mc) (slots + ms) Q (F0 m (pc + 3) ls (rest))) : W p l e R s m args below meth c H locs cells slots Q (F0 m pc ls st0) := by
  intro T hT X
  rcases hr T hT X with ⟨v, st₀, t, T', L, h0, X', hL, e1, e2, ⟨⟨u, hv, hp, hb⟩, hF⟩, st⟩ | ⟨q, st₀, t, T', L, E, ce, h0, X', hL, e1, e2, ⟨u, hp, hb, hF⟩, hce, hcv, hcl, st⟩
  · cases hv
    obtain ⟨k1, k2, k3⟩ := vx_keep h0 e1 hS hA hf hL hF
    obtain ⟨t2, a1, b1⟩ := kk u t T'.heap (locs ++ L) e1.symm (by rw [← e2]; exact X'.warmed.alike) hp hb k1 k2 k3 T' rfl X'
    exact ⟨t2, st t2 a1, b1⟩
  · obtain ⟨k1, k2, k3⟩ := vx_keep h0 e1 hS hAX hf hL hF
    obtain ⟨t2, a1, b1⟩ := kx E ce q u t T'.heap (locs ++ L) e1.symm (by rw [← e2]; exact X'.warmed.alike) hp hb k1 k2 k3 (by rw [e1]; exact hce) hcv hcl T' rfl X'
    exact ⟨t2, st.trans a1, b1⟩
/-- caught by the row x of this method's table; the rows ahead don't take it -/
theorem vx_catch {own name : String} {E : String} {ce : Cell} {q : Addr} (hown : s.vm.findClass own = some m.cls) (pre : List ExceptionTableEntry) (x : ExceptionTableEntry) (suf : List ExceptionTableEntry) (hsplit : c.exceptionTable.toList = pre ++ x :: suf)
    (hpass : ∀ z ∈ pre, covers z pc = false ∨ (z.catchType ≠ 0 ∧ ∃ nm : String, (Cond.classLink own z.catchType nm).before args s = true ∧ va_Nc E nm s)) (hx : covers x pc = true) (h0 : x.catchType ≠ 0)
    (hlink : (Cond.classLink own x.catchType name).before args s = true) (hcast : (Cond.castable E name).before args s = true) (hcell : H[q]? = some ce) (hv : ce.vm = .none) (hcl : s.vm.findClass E = some ce.cls)
    (kk : W p l e R s m args below meth c H locs cells slots Q (F0 m x.handlerPc ls [.ref q])) : vx_W p l e R s m args below meth c H locs cells slots Q (F0 m pc ls rest) q := by
  intro T hT X
  have hpl : e.platform.magicAccessors = ({} : Platform).magicAccessors := by rw [X.admits.platform]
  obtain ⟨c3, c4, hc3, hc4, hasg⟩ := Cond.castable_spec hcast
  cases Option.some.inj (hc3.symm.trans hcl)
  obtain ⟨c5, hc5, hcl5⟩ := Cond.classLink_spec hown hlink e.platform hpl
  cases Option.some.inj (hc4.symm.trans hc5)
  obtain ⟨vm', X', st⟩ := X.thenCaughtThrough q (g := F0 m pc ls rest) rfl (Steps.refl _) (by rw [hT]; exact hcell) (by rw [hv]; rfl) (by obtain ⟨k9, h9, -⟩ := Vm.findClass_spec hcl; exact ⟨k9, h9⟩) pre x suf hsplit
    (fun z hz => by
      rcases hpass z hz with h | ⟨hz0, nm, hl1, hn1⟩
      · exact Or.inl h
      · obtain ⟨c6, hc6, hcl6⟩ := Cond.classLink_spec hown hl1 e.platform hpl
        obtain ⟨a8, b8, h1, h2, h3⟩ := hn1
        cases Option.some.inj (h1.symm.trans hcl)
        cases Option.some.inj (h2.symm.trans hc6)
        exact Or.inr ⟨hz0, _, hcl6, h3⟩) hx (Or.inr ⟨h0, c4, hcl5, hasg⟩)
  obtain ⟨t, a1, b1⟩ := kk (T.setVm vm') hT X'
  exact ⟨t, st.trans a1, b1⟩
end Rows
section Ends
variable {p : Program} {l : Launch} {e : Env} {R : Room} {s : State} {m : MethodId} {args : Array Value} {below : List Frame} {meth : Method} {c : Code} {H : Heap} {locs : List Loc} {cells slots : Nat} {Q : State → Prop}
variable {mc ms : Nat} {free : Addr → Prop} {A0 A1 : Nat → Prop} {H0 : Heap} {a : Array Value} {ls : Array Slot} {st0 rest : List Value}
variable {Qc : Array Value → State → Outcome → State → Prop} {XC : String → State → State → Prop}
/-- what a body that may throw owes at its end -/
def vx_MQ (below : List Frame) (Qc : Array Value → State → Outcome → State → Prop) (XC : String → State → State → Prop) (a : Array Value) (s : State) (mc ms : Nat) (free : Addr → Prop) : State → Prop := fun t =>
  ∃ o, t.status = .running ∧ Ended t below o ∧ vx_Q Qc XC mc ms free a s o t
theorem vx_ret {g : JFrame} {mc ms : Nat} (k : W p l e R s m args below meth c H locs cells slots (MQ below Qc args s mc ms free) g) : W p l e R s m args below meth c H locs cells slots (vx_MQ below Qc XC args s mc ms free) g := by
  intro T hT X
  obtain ⟨t, a1, o, b1, b2, b3, b4⟩ := k T hT X
  exact ⟨t, a1, o, b1, b2, Or.inl ⟨b3, b4⟩⟩
/-- not caught here: it goes on to the caller -/
theorem vx_widen {g : JFrame} {q : Addr} {k n : Nat} (h1 : cells ≤ k) (h2 : slots ≤ n) (kk : vx_W p l e R s m args below meth c H locs k n Q g q) : vx_W p l e R s m args below meth c H locs cells slots Q g q := fun T hT X => kk T hT (stand_widen X h1 h2)
theorem vx_out {pc : Nat} {E : String} {ce : Cell} {q : Addr} {mc ms : Nat} (hout : ∀ x ∈ c.exceptionTable.toList, covers x pc = false) (hlocks : meth.locks = false) (hcell : H[q]? = some ce) (hv : ce.vm = .none) (hcl : s.vm.findClass E = some ce.cls)
    (hx : ∀ t : State, t.heap = H → s.vm.Alike t.vm → XC E s t) (hf : ∀ z ∈ locs, free z.base) (hc : cells ≤ mc) (hs : slots ≤ ms) :
    vx_W p l e R s m args below meth c H locs cells slots (vx_MQ below Qc XC args s mc ms free) (F0 m pc ls rest) q := by
  intro T hT X
  obtain ⟨st1, hrun, hend, hW, hsm⟩ := X.leaveThrown q (g := F0 m pc ls rest) rfl rfl rfl hout hlocks
  have hcell9 : (T.setFrames (.throwing q :: below)).heap[q]? = some ce := by
    show T.heap[q]? = some ce
    rw [hT]; exact hcell
  exact ⟨_, st1, .threw q, hrun, hend, Or.inr ⟨q, rfl, E, ce, locs, hx _ hT hW.alike, hcell9, hv, hcl, hW, hsm.mono hc hs, hf⟩⟩
theorem vx_frame {U : State} {k n : Nat} (h : s.sameButNew ({ U with vm := s.vm } : State) locs k n) : s.heap.size ≤ U.heap.size ∧ ∀ q : Nat, q < s.heap.size → (∀ z ∈ locs, z.base ≠ q) → U.heap[q]? = s.heap[q]? := by
  obtain ⟨-, h2, -, -, -, h6⟩ := h
  refine ⟨h2, fun q hq hz => ?_⟩
  obtain ⟨c9, e1, e2, e3, e4⟩ := h6 q _ (Array.getElem?_eq_getElem hq)
  have hs : c9.slots = (s.heap[q]).slots := Array.ext_getElem? fun i => e4 i fun hm => hz _ hm rfl
  have h9 : c9 = s.heap[q] := by
    rw [hs] at e2
    exact e2
  have e5 : U.heap[q]? = some c9 := e1
  rw [e5, h9, Array.getElem?_eq_getElem hq]
/-- the words of a throw but the four that speak of the heap -/
def vx_no (w : Cond) : Bool := decide (w ≠ .isRef (.static Bundle.tN "UNASSIGNED_STACK" Bundle.steD)) && decide (w ≠ .isRef (.static Bundle.tN "SUPPRESSED_SENTINEL" Bundle.listD)) && decide (w ≠ .laysStatic Bundle.tN "UNASSIGNED_STACK" Bundle.steD) && decide (w ≠ .laysStatic Bundle.tN "SUPPRESSED_SENTINEL" Bundle.listD)
def vx_at0 (own : String) (ic : Nat) (X : String) (names : List String) : List Cond := (Bundle.ownAtoms0 own ic X names).filter vx_no
def vx_atS (own : String) (ic : Nat) (X : String) (names : List String) : List Cond := (Bundle.ownAtoms own ic X names).filter vx_no
/-- a word that the tables alone decide, or a good one -/
def vx_ot (w : Cond) : Bool := w.onTables || goodWord w
theorem vx_ot_at {args a' : Array Value} {s U : State} {w : Cond} (hW : s.WarmedH U.vm) (hvm : s.vm = U.vm) (hg : vx_ot w = true) (h : w.before args s = true) : w.before a' U = true := by
  simp only [vx_ot, Bool.or_eq_true] at hg
  rcases hg with hg | hg
  · exact va_tabs hg hvm h
  · exact word_at hW (good_of_word hg) h
/-- a list's words: the good ones out of the method's own list, the others by premises of their own -/
theorem vx_hat {args : Array Value} {s : State} {L B : List Cond} (h1 : ∀ w ∈ L.filter goodWord, w.before args s = true) (h2 : ∀ w ∈ L.filter (fun w => !goodWord w), w ∈ B) (h3 : ∀ w ∈ B, w.before args s = true) : ∀ w ∈ L, w.before args s = true := by
  intro w hw
  by_cases g : goodWord w = true
  · exact h1 w (List.mem_filter.mpr ⟨hw, g⟩)
  · refine h3 w (h2 w (List.mem_filter.mpr ⟨hw, ?_⟩))
    show (!goodWord w) = true
    cases hgw : goodWord w
    · rfl
    · exact absurd hgw g
theorem vx_c {args : Array Value} {s : State} {w : Cond} {B : List Cond} (h : w.before args s = true) (t : ∀ w ∈ B, w.before args s = true) : ∀ w' ∈ w :: B, w'.before args s = true := fun w' h' => (List.mem_cons.mp h').elim (fun e => by rw [e]; exact h) (t w')
theorem vx_n {args : Array Value} {s : State} : ∀ w ∈ ([] : List Cond), w.before args s = true := fun _ h => nomatch h
theorem vx_own {args : Array Value} {s : State} {L : List Cond} (h1 : ∀ w ∈ L.filter vx_no, w.before args s = true)
    (hU : (Cond.isRef (.static Bundle.tN "UNASSIGNED_STACK" Bundle.steD)).before args s = true) (hN : (Cond.isRef (.static Bundle.tN "SUPPRESSED_SENTINEL" Bundle.listD)).before args s = true)
    (lU : (Cond.laysStatic Bundle.tN "UNASSIGNED_STACK" Bundle.steD).before args s = true) (lN : (Cond.laysStatic Bundle.tN "SUPPRESSED_SENTINEL" Bundle.listD).before args s = true) : ∀ w ∈ L, w.before args s = true := by
  intro w hw
  by_cases e1 : w = .isRef (.static Bundle.tN "UNASSIGNED_STACK" Bundle.steD)
  · rw [e1]; exact hU
  · by_cases e2 : w = .isRef (.static Bundle.tN "SUPPRESSED_SENTINEL" Bundle.listD)
    · rw [e2]; exact hN
    · by_cases e3 : w = .laysStatic Bundle.tN "UNASSIGNED_STACK" Bundle.steD
      · rw [e3]; exact lU
      · by_cases e4 : w = .laysStatic Bundle.tN "SUPPRESSED_SENTINEL" Bundle.listD
        · rw [e4]; exact lN
        · exact h1 w (List.mem_filter.mpr ⟨hw, by unfold vx_no; rw [decide_eq_true e1, decide_eq_true e2, decide_eq_true e3, decide_eq_true e4]; rfl⟩)
/-- where a static field lies, its class's statics cell in H -/
def vx_L (C n d : String) (A : Nat → Prop) (U : State) (H : Heap) : Prop := ∃ (c : ClassId) (k : Class) (i : Nat) (f : Field) (a : Nat) (cell : Cell), U.vm.findClass C = some c ∧ U.fieldFound? C n d = some (c, k, i, f) ∧ f.isStatic = true ∧ k.statics = some a ∧ H[a]? = some cell ∧ cell.vm.isStatics = true ∧ cell.cls = c ∧ f.slot < cell.slots.size ∧ k.staticTypes[f.slot]? = some f.type ∧ ¬ A a
theorem vx_L.moved {C n d : String} {A : Nat → Prop} {u U : State} {H : Heap} (hvm : u.vm.Alike U.vm) (h : vx_L C n d A u H) : vx_L C n d A U H := by
  obtain ⟨c, k, i, f, a, cell, h1, h2, h3, h4, h5, h6, h7, h8, h9, h10⟩ := h
  obtain ⟨k', hi', he⟩ := State.fieldFound?_setVm hvm h2
  exact ⟨c, k', i, f, a, cell, by rw [hvm.findClass]; exact h1, hi', h3, by rw [he]; exact h4, h5, h6, h7, h8, by rw [he]; exact h9, h10⟩
theorem vx_L.kept {C n d : String} {A : Nat → Prop} {U : State} {H H1 : Heap} (h : vx_L C n d A U H) (hq : ∀ a : Nat, a < H.size → ¬ A a → H1[a]? = H[a]?) : vx_L C n d A U H1 := by
  obtain ⟨c, k, i, f, a, cell, h1, h2, h3, h4, h5, h6, h7, h8, h9, h10⟩ := h
  exact ⟨c, k, i, f, a, cell, h1, h2, h3, h4, by rw [hq a (Array.getElem?_eq_some_iff.mp h5).1 h10]; exact h5, h6, h7, h8, h9, h10⟩
theorem vx_L.narrow {C n d : String} {A B : Nat → Prop} {U : State} {H : Heap} (h : vx_L C n d A U H) (hAB : ∀ q, B q → A q) : vx_L C n d B U H := by
  obtain ⟨c, k, i, f, a, cell, h1, h2, h3, h4, h5, h6, h7, h8, h9, h10⟩ := h
  exact ⟨c, k, i, f, a, cell, h1, h2, h3, h4, h5, h6, h7, h8, h9, fun z => h10 (hAB _ z)⟩
theorem vx_L.word {C n d : String} {A : Nat → Prop} {s : State} {args : Array Value} (h : vx_L C n d A s s.heap) : (Cond.laysStatic C n d).before args s = true := by
  obtain ⟨c, k, i, f, a, cell, h1, h2, h3, h4, h5, h6, h7, h8, h9, -⟩ := h
  show (Cond.laysStatic C n d).holds args s none s [] = true
  exact Cond.laysStatic_of h1 h2 h3 h4 h5 h6 h7 h8 h9
/-- .. and what it holds: null or some reference -/
def vx_Zq (C n d : String) (A : Nat → Prop) (U : State) (H : Heap) : Prop := va_Zq C n d A U H ∧ vx_L C n d A U H
theorem vx_Zq.moved {C n d : String} {A : Nat → Prop} {u U : State} {H : Heap} (hvm : u.vm.Alike U.vm) (h : vx_Zq C n d A u H) : vx_Zq C n d A U H := ⟨va_Zq.moved hvm h.1, vx_L.moved hvm h.2⟩
theorem vx_Zq.kept {C n d : String} {A : Nat → Prop} {U : State} {H H1 : Heap} (h : vx_Zq C n d A U H) (hq : ∀ a : Nat, a < H.size → ¬ A a → H1[a]? = H[a]?) : vx_Zq C n d A U H1 := ⟨va_Zq.kept h.1 hq, vx_L.kept h.2 hq⟩
theorem vx_Zq.narrow {C n d : String} {A B : Nat → Prop} {U : State} {H : Heap} (h : vx_Zq C n d A U H) (hAB : ∀ q, B q → A q) : vx_Zq C n d B U H := ⟨va_Zq.narrow h.1 hAB, vx_L.narrow h.2 hAB⟩
theorem vx_Zqof {args : Array Value} {s : State} {C n d : String} {A : Nat → Prop} (hl : (Cond.laysStatic C n d).before args s = true) (hini : (Cond.initialized C).before args s = true) (h : (Cond.isRef (.static C n d)).before args s = true) (hA : ∀ a : Nat, a < s.heap.size → ¬ A a) : vx_Zq C n d A s s.heap := by
  refine ⟨va_Zqof hl hini h hA, ?_⟩
  obtain ⟨c, k, i, f, a, cell, h1, h2, h3, h4, h5, h6, h7, h8, h9⟩ := Cond.laysStatic_spec hl
  exact ⟨c, k, i, f, a, cell, h1, h2, h3, h4, h5, h6, h7, h8, h9, hA a (Array.getElem?_eq_some_iff.mp h5).1⟩
theorem vx_isRef {C n d : String} {v : Value} {A : Nat → Prop} {s : State} {args : Array Value} (h : va_Z C n d v A s s.heap) (hv : v.isRef = true) : (Cond.isRef (.static C n d)).before args s = true := by
  obtain ⟨cf, kf, fi, f, a, cell, h1, h2, h3, h4, h5, h6, h7, -⟩ := h
  have he : (Term.static C n d).eval args s none [] s = some v := by
    simp [Term.eval, State.fieldNamed?, h1, h2, h4, h5, h6, h7]
  simp only [Cond.before, Cond.holds, Cond.value, he]
  cases v <;> simp_all [Value.isRef]
theorem vx_isRefq {C n d : String} {A : Nat → Prop} {s : State} {args : Array Value} (h : va_Zq C n d A s s.heap) : (Cond.isRef (.static C n d)).before args s = true := by
  rcases h with h | ⟨t, h⟩
  · exact vx_isRef h rfl
  · exact vx_isRef h rfl
/-- the same frame, seen from here: as if the method were called anew in this heap -/
theorem vx_rebase {T : State} (X : Stand p l e R s m args below meth c T locs cells slots) {R' : Room} (hf : R'.frames ≤ R.frames) (hl : R'.locals ≤ R.locals) (hc : cells + R'.cells ≤ R.cells) (hs : slots + R'.slots ≤ R.slots) :
    Stand p l e R' ((T.setVm s.vm).setFrames (.invoking m args :: below)) m args below meth c T [] 0 0 := by
  have htop : (T.setVm s.vm).topJava?.isSome := X.here.top
  have hF : ((T.setVm s.vm).setFrames (.invoking m args :: below)).frames = .invoking m args :: below := State.frames_setFrames _ (State.cur_lt_of_top htop)
  obtain ⟨g₀, hg0⟩ := Option.isSome_iff_exists.mp htop
  obtain ⟨r, hr⟩ := State.topJava?_eq_some.mp hg0
  have hl9 : e.platform.stackLimits (T.setVm s.vm).me = e.platform.stackLimits s.me := X.limits
  have hb9 : (T.setVm s.vm).me.stackBytes = s.me.stackBytes := X.bytes
  refine ⟨X.admits, X.cas, X.clock, hF, ?_, X.hears, X.method, X.code, X.here, X.tail, X.warmed, ?_, ?_, ?_⟩
  · have h := X.room
    have hU : ((T.setVm s.vm).setFrames (.invoking m args :: below)).localsInUse = s.localsInUse := by
      rw [State.localsInUse_invoking hF (meth := meth) (c := c) X.method X.code, State.localsInUse_invoking X.frames X.method X.code]
    simp only [State.hasRoom, Bool.and_eq_true, decide_eq_true_eq] at h ⊢
    obtain ⟨⟨⟨⟨h1, h2, h3, h4, h5, h6⟩, h7⟩, h8⟩, h9⟩ := h
    rw [X.frames, List.length_cons] at h2 h3
    have q1 := X.heapSize
    have q2 := X.used
    simp only [hF, hU, List.length_cons, State.stackLimits_setFrames, State.stackBytes_setFrames, hl9, hb9]
    refine ⟨⟨⟨⟨by omega, by omega, by omega, by omega, by omega, h6⟩, ?_⟩, ?_⟩, X.book⟩
    · show T.heap.size + R'.cells ≤ e.platform.maxCells
      omega
    · show T.slotsUsed + R'.slots ≤ e.platform.maxSlots
      omega
  · rw [State.stackLimits_setFrames]; rfl
  · rw [State.stackBytes_setFrames]; rfl
  · refine ⟨?_, Nat.le_refl _, Nat.le_refl _, ?_, ?_, fun a c9 h9 => ⟨c9, h9, rfl, rfl, fun _ _ => rfl⟩⟩
    · obtain ⟨t, ht, -⟩ := State.frames_cons hr
      show T.setVm s.vm = { ((T.setVm s.vm).setFrames (.invoking m args :: below)).setFrames (T.setVm s.vm).frames with heap := T.heap, slotsUsed := T.slotsUsed }
      rw [State.setFrames_setFrames, State.setFrames_self ht]
      rfl
    · show T.slotsUsed = T.slotsUsed + ((T.heap.toList.drop T.heap.size).map (·.slots.size)).sum
      rw [List.drop_eq_nil_of_le (Nat.le_of_eq Array.length_toList)]
      rfl
    · show ((T.heap.toList.drop T.heap.size).map (·.slots.size)).sum ≤ 0
      rw [List.drop_eq_nil_of_le (Nat.le_of_eq Array.length_toList)]
      exact Nat.le_refl _
/-- 'throw new E()': new; dup; invokespecial; athrow -/
theorem vx_throw0 {cc : ByteArray} {pc : Nat} (hexec : p.tables.exec = Jvm.exec) (hb : c.code = cc) (hl : l.stackTraces = false) {own cls : String} {names : List String} {ik ic mc ms : Nat} {A : Nat → Prop}
    (hown : s.vm.findClass own = some m.cls) (hcls : Bundle.fit cls = true) (hnames : ∀ n ∈ names, Bundle.fit n = true)
    (hk : (Cond.classLink own ik cls).before args s = true) (hini : (Cond.initialized cls).before args s = true) (hat : ∀ w ∈ vx_at0 own ic cls names, w.before args s = true)
    (hgood : ∀ w ∈ Cond.classLink own ik cls :: Cond.initialized cls :: vx_at0 own ic cls names, vx_ot w = true)
    (hU : vx_Zq Bundle.tN "UNASSIGNED_STACK" Bundle.steD A s s.heap) (hN : vx_Zq Bundle.tN "SUPPRESSED_SENTINEL" Bundle.listD A s s.heap) (hS : va_S A s.heap H locs) (hsize : ls.size = c.maxLocals)
    (d0 : decode cc pc = .ok (.new ik, 3)) (d3 : decode cc (pc + 3) = .ok (.dup, 1)) (d4 : decode cc (pc + 4) = .ok (.invokespecial ic, 3)) (d7 : decode cc (pc + 7) = .ok (.athrow, 1))
    (hout : ∀ x ∈ c.exceptionTable.toList, covers x (pc + 7) = false)
    (hRframes : names.length + 3 < R.frames) (hRlocals : (rest.map fun v => v.category).sum + (13 * (names.length + 1) + 42) ≤ R.locals) (hRcells : cells + 1 ≤ R.cells) (hRslots : slots + 6 ≤ R.slots) (hlocks : meth.locks = false)
    (hx : ∀ t : State, s.vm.Alike t.vm → H.size ≤ t.heap.size → (∀ q : Nat, q < H.size → t.heap[q]? = H[q]?) → XC cls s t)
    (hf : ∀ z ∈ locs, free z.base) (hc : cells + 1 ≤ mc) (hs : slots + 6 ≤ ms) :
    W p l e R s m args below meth c H locs cells slots (vx_MQ below Qc XC args s mc ms free) (F0 m pc ls rest) := by
  intro T hT X
  have htr : e.platform.stackTraces = false := (show e.platform.stackTraces = l.stackTraces by rw [X.admits.platform]).trans hl
  have Y := vx_rebase X (R' := { frames := R.frames, locals := R.locals, cells := 1, slots := 6 }) (Nat.le_refl _) (Nat.le_refl _) hRcells hRslots
  obtain ⟨s', hA⟩ : ∃ z, z = (T.setVm s.vm).setFrames (.invoking m args :: below) := ⟨_, rfl⟩
  rw [← hA] at Y
  have hvm : s'.vm = s.vm := by rw [hA]; rfl
  have hhp : s'.heap = H := by rw [hA]; exact hT
  have hW0 : s.WarmedH s'.vm := by rw [hvm]; exact State.WarmedH.refl s
  have hat' : ∀ w ∈ vx_at0 own ic cls names, w.before args s' = true := fun w hw => vx_ot_at hW0 hvm.symm (hgood w (List.mem_cons_of_mem _ (List.mem_cons_of_mem _ hw))) (hat w hw)
  have hk' : (Cond.classLink own ik cls).before args s' = true := vx_ot_at hW0 hvm.symm (hgood _ List.mem_cons_self) hk
  have hini' : (Cond.initialized cls).before args s' = true := vx_ot_at hW0 hvm.symm (hgood _ (List.mem_cons_of_mem _ List.mem_cons_self)) hini
  have hU' : vx_Zq Bundle.tN "UNASSIGNED_STACK" Bundle.steD A s' s'.heap := by rw [hhp]; exact vx_Zq.moved hW0.alike (hU.kept hS.2.1)
  have hN' : vx_Zq Bundle.tN "SUPPRESSED_SENTINEL" Bundle.listD A s' s'.heap := by rw [hhp]; exact vx_Zq.moved hW0.alike (hN.kept hS.2.1)
  have h : ∀ w ∈ Bundle.ownAtoms0 own ic cls names, w.before args s' = true := vx_own hat' (vx_isRefq hU'.1) (vx_isRefq hN'.1) hU'.2.word hN'.2.word
  have hown' : s'.vm.findClass own = some m.cls := by rw [hvm]; exact hown
  have hins : (Cond.instantiable cls 6).before args s' = true := h _ (by simp [Bundle.ownAtoms0])
  obtain ⟨vm₁, cX, kX, hfX, hkX, -, -, X₁, st1⟩ := Y.newCold hexec (own := own) (C := cls) (index := ik) (n := 6) hown' hk' hins hini'
    (g := F0 m pc ls rest) rfl (by rw [hb]; exact d0) (Nat.le_refl _) (Nat.le_refl _)
  generalize hT1 : (T.setVm vm₁).pushCell { cls := cX, slots := kX.instanceTypes.map defaultValue, vm := .none } = T1 at X₁ st1
  have hcat : (Value.ref T.heap.size).category = 1 := rfl
  have hcellA : T1.heap[T.heap.size]? = some (freshCell cX kX) := by rw [← hT1]; exact State.heap_pushCell_size _ _
  have d3' : decode c.code (pc + 3) = .ok (.dup, 1) := by rw [hb]; exact d3
  obtain ⟨U, hsteps, hrun, hend, hW, hsame, ce, hce, hO⟩ := X₁.ctorThrow0 hexec htr (own := own) (cls := cls) (names := names) (ic := ic) hown' hcls hnames h (fun x hx => nomatch hx) hfX hkX hcellA (by rw [hhp, hT]; exact Nat.le_refl _)
    (g := { method := m, pc := pc + 4, locals := ls, stack := .ref T.heap.size :: .ref T.heap.size :: rest, locked := none }) rfl hsize rfl rfl (rest := rest) rfl
    (by rw [hb]; exact d4) (by rw [hb]; exact d7) hout hRframes (by simp only [List.map_cons, List.sum_cons, hcat]; omega) hlocks
  obtain ⟨f1, f2⟩ := vx_frame hsame
  rw [hhp] at f1 f2
  have hWs : s.WarmedH U.vm := State.WarmedH.trans hW0 hW
  have hcl : s.vm.findClass cls = some ce.cls := by
    have h9 := hO.cls
    rw [hvm] at h9
    exact h9
  have hall : s.sameButNew ({ U with vm := s.vm } : State) locs mc ms := by
    subst hA
    obtain ⟨e1, e2⟩ := hsame
    rw [State.setFrames_setFrames] at e1
    have h2 : (T.setVm s.vm).sameButNew ({ U with vm := s.vm } : State) [] (0 + 1) (0 + 6) := ⟨e1, e2⟩
    have h3 := X.same.trans h2
    rw [List.append_nil] at h3
    exact h3.mono hc hs
  refine ⟨U, ?_, .threw T.heap.size, hrun, hend, Or.inr ⟨T.heap.size, rfl, cls, ce, locs, hx U hWs.alike f1 (fun q hq => f2 q hq (fun z hz => nomatch hz)), hce, hO.vm, hcl, hWs, hall, hf⟩⟩
  refine st1 _ ?_
  show Steps p.tables e below (T1.setTop { method := m, pc := pc + 3, locals := ls, stack := .ref T.heap.size :: rest, locked := none }) _
  jvm_step X₁.here [X₁.here.top, hexec, d3', Value.category]
  exact hsteps
/-- 'throw new E("text")': new; dup; ldc; invokespecial; athrow -/
theorem vx_throwS {cc : ByteArray} {pc : Nat} (hexec : p.tables.exec = Jvm.exec) (hb : c.code = cc) (hl : l.stackTraces = false) {own cls text : String} {names : List String} {ik is ic mc ms sa : Nat} {A : Nat → Prop}
    (hown : s.vm.findClass own = some m.cls) (hcls : Bundle.fit cls = true) (hnames : ∀ n ∈ names, Bundle.fit n = true)
    (hk : (Cond.classLink own ik cls).before args s = true) (hini : (Cond.initialized cls).before args s = true) (hstr : vk_R own is text sa s) (hat : ∀ w ∈ vx_atS own ic cls names, w.before args s = true)
    (hgood : ∀ w ∈ Cond.classLink own ik cls :: Cond.initialized cls :: vx_atS own ic cls names, vx_ot w = true)
    (hU : vx_Zq Bundle.tN "UNASSIGNED_STACK" Bundle.steD A s s.heap) (hN : vx_Zq Bundle.tN "SUPPRESSED_SENTINEL" Bundle.listD A s s.heap) (hS : va_S A s.heap H locs) (hsize : ls.size = c.maxLocals)
    (d0 : decode cc pc = .ok (.new ik, 3)) (d3 : decode cc (pc + 3) = .ok (.dup, 1)) (d4 : decode cc (pc + 4) = .ok (.ldc is, 2)) (d6 : decode cc (pc + 6) = .ok (.invokespecial ic, 3)) (d9 : decode cc (pc + 9) = .ok (.athrow, 1))
    (hout : ∀ x ∈ c.exceptionTable.toList, covers x (pc + 9) = false)
    (hRframes : names.length + 3 < R.frames) (hRlocals : (rest.map fun v => v.category).sum + (13 * (names.length + 1) + 43) ≤ R.locals) (hRcells : cells + 1 ≤ R.cells) (hRslots : slots + 6 ≤ R.slots) (hlocks : meth.locks = false)
    (hx : ∀ t : State, s.vm.Alike t.vm → H.size ≤ t.heap.size → (∀ q : Nat, q < H.size → t.heap[q]? = H[q]?) → XC cls s t)
    (hf : ∀ z ∈ locs, free z.base) (hc : cells + 1 ≤ mc) (hs : slots + 6 ≤ ms) :
    W p l e R s m args below meth c H locs cells slots (vx_MQ below Qc XC args s mc ms free) (F0 m pc ls rest) := by
  intro T hT X
  have htr : e.platform.stackTraces = false := (show e.platform.stackTraces = l.stackTraces by rw [X.admits.platform]).trans hl
  have Y := vx_rebase X (R' := { frames := R.frames, locals := R.locals, cells := 1, slots := 6 }) (Nat.le_refl _) (Nat.le_refl _) hRcells hRslots
  obtain ⟨s', hA⟩ : ∃ z, z = (T.setVm s.vm).setFrames (.invoking m args :: below) := ⟨_, rfl⟩
  rw [← hA] at Y
  have hvm : s'.vm = s.vm := by rw [hA]; rfl
  have hhp : s'.heap = H := by rw [hA]; exact hT
  have hW0 : s.WarmedH s'.vm := by rw [hvm]; exact State.WarmedH.refl s
  have hat' : ∀ w ∈ vx_atS own ic cls names, w.before args s' = true := fun w hw => vx_ot_at hW0 hvm.symm (hgood w (List.mem_cons_of_mem _ (List.mem_cons_of_mem _ hw))) (hat w hw)
  have hk' : (Cond.classLink own ik cls).before args s' = true := vx_ot_at hW0 hvm.symm (hgood _ List.mem_cons_self) hk
  have hini' : (Cond.initialized cls).before args s' = true := vx_ot_at hW0 hvm.symm (hgood _ (List.mem_cons_of_mem _ List.mem_cons_self)) hini
  have hU' : vx_Zq Bundle.tN "UNASSIGNED_STACK" Bundle.steD A s' s'.heap := by rw [hhp]; exact vx_Zq.moved hW0.alike (hU.kept hS.2.1)
  have hN' : vx_Zq Bundle.tN "SUPPRESSED_SENTINEL" Bundle.listD A s' s'.heap := by rw [hhp]; exact vx_Zq.moved hW0.alike (hN.kept hS.2.1)
  have h : ∀ w ∈ Bundle.ownAtoms own ic cls names, w.before args s' = true := vx_own hat' (vx_isRefq hU'.1) (vx_isRefq hN'.1) hU'.2.word hN'.2.word
  have hown' : s'.vm.findClass own = some m.cls := by rw [hvm]; exact hown
  have hins : (Cond.instantiable cls 6).before args s' = true := h _ (by simp [Bundle.ownAtoms])
  obtain ⟨vm₁, cX, kX, hfX, hkX, -, -, X₁, st1⟩ := Y.newCold hexec (own := own) (C := cls) (index := ik) (n := 6) hown' hk' hins hini'
    (g := F0 m pc ls rest) rfl (by rw [hb]; exact d0) (Nat.le_refl _) (Nat.le_refl _)
  generalize hT1 : (T.setVm vm₁).pushCell { cls := cX, slots := kX.instanceTypes.map defaultValue, vm := .none } = T1 at X₁ st1
  have hcat : (Value.ref T.heap.size).category = 1 := rfl
  have hcellA : T1.heap[T.heap.size]? = some (freshCell cX kX) := by rw [← hT1]; exact State.heap_pushCell_size _ _
  have d3' : decode c.code (pc + 3) = .ok (.dup, 1) := by rw [hb]; exact d3
  have d4' : decode c.code (pc + 4) = .ok (.ldc is, 2) := by rw [hb]; exact d4
  have hstr' : vk_R own is text sa s' := vk_R.warm hW0 hstr
  obtain ⟨U, hsteps, hrun, hend, hW, hsame, ce, hce, hO⟩ := X₁.ctorThrowS hexec htr (own := own) (cls := cls) (names := names) (ic := ic) hown' hcls hnames h (fun x hx => nomatch hx) hfX hkX hcellA (by rw [hhp, hT]; exact Nat.le_refl _) (msg := .ref sa) rfl
    (g := { method := m, pc := pc + 6, locals := ls, stack := .ref sa :: .ref T.heap.size :: .ref T.heap.size :: rest, locked := none }) rfl hsize rfl rfl (rest := rest) rfl
    (by rw [hb]; exact d6) (by rw [hb]; exact d9) hout hRframes (by simp only [List.map_cons, List.sum_cons, hcat]; omega) hlocks
  obtain ⟨f1, f2⟩ := vx_frame hsame
  rw [hhp] at f1 f2
  have hWs : s.WarmedH U.vm := State.WarmedH.trans hW0 hW
  have hcl : s.vm.findClass cls = some ce.cls := by
    have h9 := hO.cls
    rw [hvm] at h9
    exact h9
  have hall : s.sameButNew ({ U with vm := s.vm } : State) locs mc ms := by
    subst hA
    obtain ⟨e1, e2⟩ := hsame
    rw [State.setFrames_setFrames] at e1
    have h2 : (T.setVm s.vm).sameButNew ({ U with vm := s.vm } : State) [] (0 + 1) (0 + 6) := ⟨e1, e2⟩
    have h3 := X.same.trans h2
    rw [List.append_nil] at h3
    exact h3.mono hc hs
  refine ⟨U, ?_, .threw T.heap.size, hrun, hend, Or.inr ⟨T.heap.size, rfl, cls, ce, locs, hx U hWs.alike f1 (fun q hq => f2 q hq (fun z hz => nomatch hz)), hce, hO.vm, hcl, hWs, hall, hf⟩⟩
  refine st1 _ ?_
  show Steps p.tables e below (T1.setTop { method := m, pc := pc + 3, locals := ls, stack := .ref T.heap.size :: rest, locked := none }) _
  jvm_step X₁.here [X₁.here.top, hexec, d3', Value.category]
  exact X₁.ldcString hexec (own := own) (text := text) (index := is) (a := sa) hown' hstr'.1 hstr'.2
    (g := { method := m, pc := pc + 4, locals := ls, stack := .ref T.heap.size :: .ref T.heap.size :: rest, locked := none }) rfl d4' _ hsteps
/-- 'throw new E("text")', the text by a wide index -/
theorem vx_throwSW {cc : ByteArray} {pc : Nat} (hexec : p.tables.exec = Jvm.exec) (hb : c.code = cc) (hl : l.stackTraces = false) {own cls text : String} {names : List String} {ik is ic mc ms sa : Nat} {A : Nat → Prop}
    (hown : s.vm.findClass own = some m.cls) (hcls : Bundle.fit cls = true) (hnames : ∀ n ∈ names, Bundle.fit n = true)
    (hk : (Cond.classLink own ik cls).before args s = true) (hini : (Cond.initialized cls).before args s = true) (hstr : vk_R own is text sa s) (hat : ∀ w ∈ vx_atS own ic cls names, w.before args s = true)
    (hgood : ∀ w ∈ Cond.classLink own ik cls :: Cond.initialized cls :: vx_atS own ic cls names, vx_ot w = true)
    (hU : vx_Zq Bundle.tN "UNASSIGNED_STACK" Bundle.steD A s s.heap) (hN : vx_Zq Bundle.tN "SUPPRESSED_SENTINEL" Bundle.listD A s s.heap) (hS : va_S A s.heap H locs) (hsize : ls.size = c.maxLocals)
    (d0 : decode cc pc = .ok (.new ik, 3)) (d3 : decode cc (pc + 3) = .ok (.dup, 1)) (d4 : decode cc (pc + 4) = .ok (.ldc_w is, 3)) (d7 : decode cc (pc + 7) = .ok (.invokespecial ic, 3)) (d10 : decode cc (pc + 10) = .ok (.athrow, 1))
    (hout : ∀ x ∈ c.exceptionTable.toList, covers x (pc + 10) = false)
    (hRframes : names.length + 3 < R.frames) (hRlocals : (rest.map fun v => v.category).sum + (13 * (names.length + 1) + 43) ≤ R.locals) (hRcells : cells + 1 ≤ R.cells) (hRslots : slots + 6 ≤ R.slots) (hlocks : meth.locks = false)
    (hx : ∀ t : State, s.vm.Alike t.vm → H.size ≤ t.heap.size → (∀ q : Nat, q < H.size → t.heap[q]? = H[q]?) → XC cls s t)
    (hf : ∀ z ∈ locs, free z.base) (hc : cells + 1 ≤ mc) (hs : slots + 6 ≤ ms) :
    W p l e R s m args below meth c H locs cells slots (vx_MQ below Qc XC args s mc ms free) (F0 m pc ls rest) := by
  intro T hT X
  have htr : e.platform.stackTraces = false := (show e.platform.stackTraces = l.stackTraces by rw [X.admits.platform]).trans hl
  have Y := vx_rebase X (R' := { frames := R.frames, locals := R.locals, cells := 1, slots := 6 }) (Nat.le_refl _) (Nat.le_refl _) hRcells hRslots
  obtain ⟨s', hA⟩ : ∃ z, z = (T.setVm s.vm).setFrames (.invoking m args :: below) := ⟨_, rfl⟩
  rw [← hA] at Y
  have hvm : s'.vm = s.vm := by rw [hA]; rfl
  have hhp : s'.heap = H := by rw [hA]; exact hT
  have hW0 : s.WarmedH s'.vm := by rw [hvm]; exact State.WarmedH.refl s
  have hat' : ∀ w ∈ vx_atS own ic cls names, w.before args s' = true := fun w hw => vx_ot_at hW0 hvm.symm (hgood w (List.mem_cons_of_mem _ (List.mem_cons_of_mem _ hw))) (hat w hw)
  have hk' : (Cond.classLink own ik cls).before args s' = true := vx_ot_at hW0 hvm.symm (hgood _ List.mem_cons_self) hk
  have hini' : (Cond.initialized cls).before args s' = true := vx_ot_at hW0 hvm.symm (hgood _ (List.mem_cons_of_mem _ List.mem_cons_self)) hini
  have hU' : vx_Zq Bundle.tN "UNASSIGNED_STACK" Bundle.steD A s' s'.heap := by rw [hhp]; exact vx_Zq.moved hW0.alike (hU.kept hS.2.1)
  have hN' : vx_Zq Bundle.tN "SUPPRESSED_SENTINEL" Bundle.listD A s' s'.heap := by rw [hhp]; exact vx_Zq.moved hW0.alike (hN.kept hS.2.1)
  have h : ∀ w ∈ Bundle.ownAtoms own ic cls names, w.before args s' = true := vx_own hat' (vx_isRefq hU'.1) (vx_isRefq hN'.1) hU'.2.word hN'.2.word
  have hown' : s'.vm.findClass own = some m.cls := by rw [hvm]; exact hown
  have hins : (Cond.instantiable cls 6).before args s' = true := h _ (by simp [Bundle.ownAtoms])
  obtain ⟨vm₁, cX, kX, hfX, hkX, -, -, X₁, st1⟩ := Y.newCold hexec (own := own) (C := cls) (index := ik) (n := 6) hown' hk' hins hini'
    (g := F0 m pc ls rest) rfl (by rw [hb]; exact d0) (Nat.le_refl _) (Nat.le_refl _)
  generalize hT1 : (T.setVm vm₁).pushCell { cls := cX, slots := kX.instanceTypes.map defaultValue, vm := .none } = T1 at X₁ st1
  have hcat : (Value.ref T.heap.size).category = 1 := rfl
  have hcellA : T1.heap[T.heap.size]? = some (freshCell cX kX) := by rw [← hT1]; exact State.heap_pushCell_size _ _
  have d3' : decode c.code (pc + 3) = .ok (.dup, 1) := by rw [hb]; exact d3
  have d4' : decode c.code (pc + 4) = .ok (.ldc_w is, 3) := by rw [hb]; exact d4
  have hstr' : vk_R own is text sa s' := vk_R.warm hW0 hstr
  obtain ⟨U, hsteps, hrun, hend, hW, hsame, ce, hce, hO⟩ := X₁.ctorThrowS hexec htr (own := own) (cls := cls) (names := names) (ic := ic) hown' hcls hnames h (fun x hx => nomatch hx) hfX hkX hcellA (by rw [hhp, hT]; exact Nat.le_refl _) (msg := .ref sa) rfl
    (g := { method := m, pc := pc + 7, locals := ls, stack := .ref sa :: .ref T.heap.size :: .ref T.heap.size :: rest, locked := none }) rfl hsize rfl rfl (rest := rest) rfl
    (by rw [hb]; exact d7) (by rw [hb]; exact d10) hout hRframes (by simp only [List.map_cons, List.sum_cons, hcat]; omega) hlocks
  obtain ⟨f1, f2⟩ := vx_frame hsame
  rw [hhp] at f1 f2
  have hWs : s.WarmedH U.vm := State.WarmedH.trans hW0 hW
  have hcl : s.vm.findClass cls = some ce.cls := by
    have h9 := hO.cls
    rw [hvm] at h9
    exact h9
  have hall : s.sameButNew ({ U with vm := s.vm } : State) locs mc ms := by
    subst hA
    obtain ⟨e1, e2⟩ := hsame
    rw [State.setFrames_setFrames] at e1
    have h2 : (T.setVm s.vm).sameButNew ({ U with vm := s.vm } : State) [] (0 + 1) (0 + 6) := ⟨e1, e2⟩
    have h3 := X.same.trans h2
    rw [List.append_nil] at h3
    exact h3.mono hc hs
  refine ⟨U, ?_, .threw T.heap.size, hrun, hend, Or.inr ⟨T.heap.size, rfl, cls, ce, locs, hx U hWs.alike f1 (fun q hq => f2 q hq (fun z hz => nomatch hz)), hce, hO.vm, hcl, hWs, hall, hf⟩⟩
  refine st1 _ ?_
  show Steps p.tables e below (T1.setTop { method := m, pc := pc + 3, locals := ls, stack := .ref T.heap.size :: rest, locked := none }) _
  jvm_step X₁.here [X₁.here.top, hexec, d3', Value.category]
  exact X₁.ldcStringW hexec (own := own) (text := text) (index := is) (a := sa) hown' hstr'.1 hstr'.2
    (g := { method := m, pc := pc + 4, locals := ls, stack := .ref T.heap.size :: .ref T.heap.size :: rest, locked := none }) rfl d4' _ hsteps
end Ends
section Bodies
variable {l : Launch}
theorem vx_ofW {y : MethodName} {ws ws' : List Cond} {rm : Room} {Pc : Array Value → State → Prop} {Qc : Array Value → State → Outcome → State → Prop} {XC : String → State → State → Prop} {mc ms : Nat} {free : Addr → Prop} {cc : ByteArray} {maxL : Nat} {ret : Option FieldType}
    (hy : plainName y.cls = true) (hw : ws = Cond.code y cc maxL ret :: ws')
    (body : ∀ p e s m args below meth c s₁, BodyLoose p l y (headSpec ws rm) cc maxL ret e s m args below meth c s₁ → c.maxLocals = maxL → (∀ x ∈ c.exceptionTable.toList, False) → Pc args s →
      W p l e (headSpec ws rm).room s m args below meth c s.heap [] 0 0 (vx_MQ below Qc XC args s mc ms free) (entryFrame m args maxL)) : vx_Met l y ws rm Pc Qc XC mc ms free := by
  refine MetFree.of_bodyS (code := cc) (maxLocals := maxL) (ret := ret) hy ?_ ?_
  · intro args s m h hn
    obtain ⟨meth, c, h1, h2, h3, h4, h5, h6, -, -⟩ := Cond.code_spec hn (atoms_spec (ws := ws) h _ (by rw [hw]; exact List.mem_cons_self))
    exact ⟨meth, c, h1, h2, h3, h4, h5, h6⟩
  · intro p e s m args below meth c s₁ B hml hP _
    have hh0 : s₁.heap = s.heap := by rw [B.state]; rfl
    have ht : ∀ x ∈ c.exceptionTable.toList, False := by
      obtain ⟨meth9, c9, h1, h2, -, -, -, -, h7, -⟩ := Cond.code_spec B.named (atoms_spec (ws := ws) B.pre _ (by rw [hw]; exact List.mem_cons_self))
      cases Option.some.inj (h1.symm.trans B.method)
      cases Option.some.inj (h2.symm.trans (Stand.of_body B).code)
      intro x hx
      rw [Array.isEmpty_iff.mp h7] at hx
      cases hx
    obtain ⟨t, a1, o, b1, b2, b3⟩ := body p e s m args below meth c s₁ B hml ht hP s₁ hh0 (Stand.of_body B)
    exact ⟨t, o, a1, b1, b2, b3⟩
/-- the table of a body with handlers -/
theorem vx_table {p : Program} {x y : MethodName} {S : Spec} {cc bytes : ByteArray} {maxL maxL' : Nat} {ret ret' : Option FieldType} {e : Env} {s s₁ : State} {m : MethodId} {args : Array Value} {below : List Frame} {meth : Method} {c : Code} {hh : List (Nat × Nat × Nat × Nat)}
    (B : BodyLoose p l y S cc maxL ret e s m args below meth c s₁) (h : (Cond.codeWith y bytes maxL' ret' hh).before args s = true) : c.exceptionTable.toList = tableOf hh := by
  obtain ⟨m9, meth9, c9, hn9, h1, h2, -, -, h6, -⟩ := Cond.codeWith_spec h
  cases Option.some.inj (hn9.symm.trans B.named)
  cases Option.some.inj (h1.symm.trans B.method)
  cases Option.some.inj (h2.symm.trans (Stand.of_body B).code)
  rw [← h6, table_eq]
end Bodies
end VXA
/-! ===== END ===== -/
/-! ===== BEGIN a static call of a method with an exception table ===== -/
section VXS
variable {p : Program} {l : Launch} {e : Env} {R : Room} {s : State} {m : MethodId} {args : Array Value} {below : List Frame} {meth : Method} {c : Code} {T : State} {H : Heap} {locs : List Loc} {cells slots : Nat}
abbrev vx_CSW (R : Room) (s : State) (args : Array Value) (own : String) (index : Nat) (y : MethodName) (bytes : ByteArray) (maxL : Nat) (ret : Option FieldType) (hh : List (Nat × Nat × Nat × Nat)) (ws : List Cond) (rm : Room) (mc ms n : Nat) : Prop :=
  (rm.cells = mc ∧ rm.slots = ms ∧ rm.frames + 1 ≤ R.frames ∧ 8 + (maxL + 11) + rm.locals ≤ R.locals ∧ (∀ w ∈ ws, ∀ (a' : Array Value) (U : State), s.WarmedH U.vm → w.before a' U = true) ∧ Cond.codeWith y bytes maxL ret hh ∈ ws) ∧
  (Cond.codeWith y bytes maxL ret hh).before args s = true ∧ (Cond.initialized y.cls).before args s = true ∧ (y.cls ≠ "java/lang/invoke/MethodHandle" ∧ y.cls ≠ "java/lang/invoke/VarHandle") ∧
  (∀ sig, parseMethodDescriptor y.desc = some sig → n = sig.parameters.length) ∧ (Cond.methodLink own index y).before args s = true ∧ (Cond.static y).before args s = true
theorem vx_cwSW {own : String} {index maxL mc ms : Nat} {y : MethodName} {bytes : ByteArray} {ret : Option FieldType} {hh : List (Nat × Nat × Nat × Nat)} {Ts ws ws' : List Cond} {rm : Room} (n : Nat) (ht : ∀ w ∈ Ts, w.before args s = true) (hT : GoodIn Ts (va_wsS own index y ws)) (hw : ws = Cond.codeWith y bytes maxL ret hh :: ws') (hrc : rm.cells = mc) (hrs : rm.slots = ms)
    (hd : y.cls ≠ "java/lang/invoke/MethodHandle" ∧ y.cls ≠ "java/lang/invoke/VarHandle" ∧ (parseMethodDescriptor y.desc).map (fun d => d.parameters.length) = some n) (hR : rm.frames + 1 ≤ R.frames ∧ 8 + (maxL + 11) + rm.locals ≤ R.locals) :
    vx_CSW R s args own index y bytes maxL ret hh ws rm mc ms n := by
  have ok : ∀ w ∈ va_wsS own index y ws, w.before args s = true := fun w h => ht w (hT w h).1
  have hG : GoodIn Ts ws := fun w h => hT w (by unfold va_wsS; exact List.mem_append_right _ h)
  have hc : Cond.codeWith y bytes maxL ret hh ∈ ws := by rw [hw]; exact List.mem_cons_self
  refine ⟨⟨hrc, hrs, hR.1, hR.2, pay_in ht hG, hc⟩, ht _ (hG _ hc).1, ok _ (by simp [va_wsS]), ⟨hd.1, hd.2.1⟩, fun sig h => ?_, ok _ (by simp [va_wsS]), ok _ (by simp [va_wsS])⟩
  have h2 := hd.2.2
  rw [h] at h2
  exact (Option.some.inj h2).symm
theorem vx_callSW (X : Stand p l e R s m args below meth c T locs cells slots) (hexec : p.tables.exec = Jvm.exec) {own : String} {index : Nat} {y : MethodName} {bytes : ByteArray} {maxL : Nat} {ret : Option FieldType} {hh : List (Nat × Nat × Nat × Nat)}
    (hown : s.vm.findClass own = some m.cls) (hlink : (Cond.methodLink own index y).before args s = true) (hstat : (Cond.static y).before args s = true) (hinit : (Cond.initialized y.cls).before args s = true)
    (hcode : (Cond.codeWith y bytes maxL ret hh).before args s = true) (hy : y.cls ≠ "java/lang/invoke/MethodHandle" ∧ y.cls ≠ "java/lang/invoke/VarHandle")
    {W9 : Nat} {Pre : Pt → Array Value → Prop} {Post : Pt → Array Value → Option Value → Pt → Prop} (hK : Back l R p e below s args y 3 W9 Pre Post)
    {g : JFrame} (hg : g.method = m) (hsize : g.locals.size = c.maxLocals) {argsL rest : List Value} (hlen : ∀ sig, parseMethodDescriptor y.desc = some sig → argsL.length = sig.parameters.length)
    (hstack : g.stack = argsL.reverse ++ rest) (hW : 2 * g.monitorRoom + (rest.map fun v => v.category).sum ≤ W9) (hdg : decode c.code g.pc = .ok (.invokestatic index, 3))
    (hpre : ∀ vm₁, s.WarmedH vm₁ → Pre ⟨T.setVm vm₁, locs, cells, slots⟩ argsL.toArray) :
    ∃ (v : Option Value) (vm₁ : Vm) (B : Pt), s.WarmedH vm₁ ∧ Stand p l e R s m args below meth c B.U B.locs B.cells B.slots ∧ Post ⟨T.setVm vm₁, locs, cells, slots⟩ argsL.toArray v B ∧
      ∀ target, Steps p.tables e below (B.U.setTop { g with pc := g.pc + 3, stack := v.toList ++ rest }) target → Steps p.tables e below (T.setTop g) target := by
  obtain ⟨mk, methM, cM, hnamed, hmethM, -, -, -, -, -, -, hsigM⟩ := Cond.codeWith_spec hcode
  have hstatic : methM.isStatic = true := Cond.static_spec hnamed hmethM hstat
  obtain ⟨kP, hkP, -⟩ := className_of_methodNamed hnamed
  have hinitP : kP.init = .initialized := Cond.initialized_spec (findClass_of_methodNamed hnamed) hkP hinit
  obtain ⟨vm₁, X₁, hstep₁⟩ := X.invokestatic hexec hown hlink hnamed hmethM hstatic hkP hinitP hy (g := g) hg (argsL := argsL) (rest := rest) (hlen _ hsigM) hstack hdg
  obtain ⟨v, B, X', hpost, hsteps⟩ := hK m meth c ⟨T.setVm vm₁, locs, cells, slots⟩ { g with stack := rest } (.invokestatic index) mk argsL.toArray X₁ hg hsize hdg hW (X₁.named hnamed) (hpre vm₁ X₁.warmed)
  exact ⟨v, vm₁, B, X₁.warmed, X', hpost, fun target h => hstep₁ _ fun acts => by rw [doInvoke_state]; exact hsteps.trans h⟩
theorem vx_runSW {y : MethodName} {bytes cc : ByteArray} {maxL nL mc ms n index : Nat} {ret : Option FieldType} {hh : List (Nat × Nat × Nat × Nat)} {ws : List Cond} {rm : Room} {Pc : Array Value → State → Prop} {Qc : Array Value → State → Outcome → State → Prop} {free : Addr → Prop} {Ts : List Cond} {own : String} {As rest : List Value} {g : JFrame}
    (S : CallFix p m c cc nL s args Ts own) (hM : Met l y ws rm Pc Qc mc ms free) (cw : vx_CSW R s args own index y bytes maxL ret hh ws rm mc ms n) (hp : PreS s H Pc As)
    (hg : g.method = m) (hn : As.length = n) (hsize : g.locals.size = nL) (hstack : g.stack = As.reverse ++ rest) (hW : 2 * g.monitorRoom + (rest.map fun v => v.category).sum ≤ 8) (hdg : decode cc g.pc = .ok (.invokestatic index, 3)) (hf : cells + mc ≤ R.cells ∧ slots + ms ≤ R.slots) :
    va_Run p l e R s m args below meth c H locs cells slots mc ms g rest (Qc As.toArray) (free) := by
  obtain ⟨⟨hrc, hrs, hfr, hlo, hws, hcw⟩, hcode, hini, hy, hlen, hl, hstt⟩ := cw
  have hK : Back l R p e below s args y 3 8 (PreOf R mc ms Pc) (PostOf Qc mc ms free) := va_backW (hh := hh) (bytes := bytes) (maxL := maxL) (ret := ret) hM hp.1 hrc hrs hfr hlo hws hcw (fun a' U hW => word_at hW (Or.inl (by first | rfl | simp [Cond.onTables, Cond.keeps, Cond.steady])) hini)
  obtain ⟨hx, hb, hml, ho, -⟩ := S
  intro T hT X
  obtain ⟨v, vm₁, ⟨U', l2, c2, s2⟩, hW₁, X', ⟨g', mk, t, L, e1, e2, hq, h1, hL, h2, h3⟩, st⟩ := vx_callSW X hx (hh := hh) (bytes := bytes) (maxL := maxL) (ret := ret) ho hl hstt hini hcode hy hK hg (hsize.trans hml.symm) (argsL := As) (rest := rest) (fun sig h => hn.trans (hlen sig h)) hstack hW (by rw [hb]; exact hdg)
    (fun vm₁ hW₁ => ⟨hf.1, hf.2, hp.2 (T.setVm vm₁) hT hW₁⟩)
  dsimp only [Pt.U, Pt.locs, Pt.cells, Pt.slots] at X' e1 e2 h1 h2 h3 st
  subst h1; subst h2; subst h3
  exact ⟨v, (T.setVm vm₁).calling g' mk As.toArray, t, U', L, hT, X', hL, e1, e2, hq, st⟩
/-- not caught here, past rows that name other classes: it goes on to the caller -/
theorem vx_outP {p : Program} {l : Launch} {e : Env} {R : Room} {s : State} {m : MethodId} {args : Array Value} {below : List Frame} {meth : Method} {c : Code} {H : Heap} {locs : List Loc} {cells slots : Nat} {free : Addr → Prop} {ls : Array Slot} {rest : List Value} {Qc : Array Value → State → Outcome → State → Prop} {XC : String → State → State → Prop}
    {pc : Nat} {own E : String} {ce : Cell} {q : Addr} {mc ms : Nat} (hown : s.vm.findClass own = some m.cls) (hlocks : meth.locks = false)
    (hpass : ∀ z ∈ c.exceptionTable.toList, covers z pc = false ∨ (z.catchType ≠ 0 ∧ ∃ nm : String, (Cond.classLink own z.catchType nm).before args s = true ∧ va_Nc E nm s)) (hcell : H[q]? = some ce) (hv : ce.vm = .none) (hcl : s.vm.findClass E = some ce.cls)
    (hx : ∀ t : State, t.heap = H → s.vm.Alike t.vm → XC E s t) (hf : ∀ z ∈ locs, free z.base) (hc : cells ≤ mc) (hs : slots ≤ ms) :
    vx_W p l e R s m args below meth c H locs cells slots (vx_MQ below Qc XC args s mc ms free) (F0 m pc ls rest) q := by
  intro T hT X
  have hpl : e.platform.magicAccessors = ({} : Platform).magicAccessors := by rw [X.admits.platform]
  obtain ⟨vm', hW', X', st⟩ := X.outThrough hlocks q (g := F0 m pc ls rest) rfl rfl rfl (cell := ce) (by rw [hT]; exact hcell) (by rw [hv]; rfl)
    (by obtain ⟨k9, h9, -⟩ := Vm.findClass_spec hcl; exact ⟨k9, h9⟩) (fun z hz => by
      rcases hpass z hz with h | ⟨hz0, nm, hl1, hn1⟩
      · exact Or.inl h
      · obtain ⟨c6, hc6, hcl6⟩ := Cond.classLink_spec hown hl1 e.platform hpl
        obtain ⟨a8, b8, h1, h2, h3⟩ := hn1
        cases Option.some.inj (h1.symm.trans hcl)
        cases Option.some.inj (h2.symm.trans hc6)
        exact Or.inr ⟨hz0, _, hcl6, h3⟩)
  obtain ⟨g₀, hfr⟩ := X'.frames_eq
  have hcell9 : ((T.setVm vm').setFrames (.throwing q :: below)).heap[q]? = some ce := by
    show T.heap[q]? = some ce
    rw [hT]; exact hcell
  have hend : Ended ((T.setVm vm').setFrames (.throwing q :: below)) below (.threw q) := State.frames_setFrames _ (State.cur_lt_of_frames hfr)
  refine ⟨(T.setVm vm').setFrames (.throwing q :: below), ?_, .threw q, X'.here.running, hend, Or.inr ⟨q, rfl, E, ce, locs, hx _ hT (X'.ends _).1.alike, hcell9, hv, hcl, (X'.ends _).1, (X'.ends _).2.mono hc hs, hf⟩⟩
  rw [X.pushThrowing_eq]
  exact st
/-- a thing of a world lies in the heap -/
theorem vx_lt {D : va_G} {cl : List vw_C} {ws : va_W} {H1 : Heap} (h : va_P D cl ws H1) {k : Nat} {q : Nat × va_E} (hk : ws[k]? = some q) : q.1 < H1.size := (h k q hk).lt
end VXS
/-! ===== END ===== -/
/-! ===== BEGIN methods with a table of their own: called by a name, returning or throwing ===== -/
section VXH
/-! vx_backW, vx_callVX, vx_callSX, vx_callVW, vx_runVW, vx_runVX, vx_runSX, vx_ofWH follow the same proofs as their sisters above (Free/Laws.lean, Shelf42/LK1.lean); vx_outP calls Shelf42/NT130.lean (outThrough). -/
section
variable {l : Launch} {R : Room} {p : Program} {e : Env} {below : List Frame} {s : State} {sargs : Array Value} {y : MethodName} {len W9 : Nat}
theorem vx_backW {ws : List Cond} {rm : Room} {Pc : Array Value → State → Prop} {Qc : Array Value → State → Outcome → State → Prop} {XC : String → State → State → Prop} {mc ms : Nat} {free : Addr → Prop} {bytes : ByteArray} {maxL : Nat} {ret : Option FieldType} {hh : List (Nat × Nat × Nat × Nat)}
    (hM : vx_Met l y ws rm Pc Qc XC mc ms free) (hblind : FrameBlind Pc) (hrc : rm.cells = mc) (hrs : rm.slots = ms)
    (hframes : rm.frames + 1 ≤ R.frames) (hlocals : W9 + (maxL + 11) + rm.locals ≤ R.locals)
    (hws : ∀ w ∈ ws, ∀ a' U, s.WarmedH U.vm → w.before a' U = true) (hcode : Cond.codeWith y bytes maxL ret hh ∈ ws) (hinit : ∀ a' U, s.WarmedH U.vm → (Cond.initialized y.cls).before a' U = true) :
    vx_Back l R p e below s sargs y len W9 (PreOf R mc ms Pc) (PostOf Qc mc ms free) (vx_Post XC mc ms free) := by
  intro m meth c A g ig mk a X hg hsize hdg hW hn hp
  have h1 : (headSpec ws rm).pre.before a A.U = true := atoms_intro fun w hw => hws w hw _ _ X.warmed
  have h2 : (Cond.codeWith y bytes maxL ret hh).before a A.U = true := hws _ hcode _ _ X.warmed
  have h3 : (Cond.initialized y.cls).before a A.U = true := hinit _ _ X.warmed
  have h4 : A.cells + (headSpec ws rm).room.cells ≤ R.cells := by rw [show (headSpec ws rm).room.cells = mc from hrc]; exact hp.1
  have h5 : A.slots + (headSpec ws rm).room.slots ≤ R.slots := by rw [show (headSpec ws rm).room.slots = ms from hrs]; exact hp.2.1
  have hPc : Pc a (A.U.calling g mk a) := hblind _ _ _ _ hp.2.2
  obtain ⟨U, Ls, c0, s0⟩ := A
  dsimp only [Pt.U, Pt.locs, Pt.cells, Pt.slots] at h1 h2 h3 h4 h5 X hn hPc ⊢
  obtain ⟨m9, methY, cY, hn9, hmY, hcY, -, hlY, -⟩ := Cond.codeWith_spec h2
  cases Option.some.inj (hn9.symm.trans hn)
  obtain ⟨kY, hkY, -⟩ := className_of_methodNamed hn
  have hinitY : kY.init = .initialized := Cond.initialized_spec (findClass_of_methodNamed hn) hkY h3
  have h : At U g.method c below := by rw [hg]; exact X.here
  have hlocals9 : W9 + (maxL + 11) + (headSpec ws rm).room.locals ≤ R.locals := hlocals
  have happ : (headSpec ws rm).appliesLoose y e.platform (U.calling g mk a) = true :=
    Spec.appliesLoose_calling (g := g) h hdg hn hkY hinitY
      (X.room_calling (g := g) (R' := (headSpec ws rm).room) hsize hmY hcY hframes (by rw [hlY]; omega) h4 h5) h1
  obtain ⟨mid, hmid⟩ := h.above
  have hfr : (U.setTop g).frames = (.java g :: mid) ++ below := by rw [State.frames_setTop' g h.top, hmid]; rfl
  obtain ⟨o, s₂, hsteps, -, hend, hq⟩ := Steps.callFree hM p X.admits X.cas X.clock (acts := []) hfr happ hPc trivial
  have hq' : vx_Q Qc XC mc ms free a (U.calling g mk a) o s₂ := hq
  rw [State.frames_setTop' g h.top] at hend
  obtain ⟨g₀, hg0⟩ := Option.isSome_iff_exists.mp h.top
  obtain ⟨r, hr⟩ := State.topJava?_eq_some.mp hg0
  have hr' : (({ U with heap := s₂.heap, slotsUsed := s₂.slotsUsed } : State).setVm s₂.vm).frames = .java g₀ :: r := hr
  rcases hq' with ⟨hqc, L, hfe, hL⟩ | ⟨q, rfl, E, ce, L, hx, hce, hcv, hcl, hW₂, hsm, hL⟩
  · obtain ⟨⟨v, rfl⟩, hW₂, e2, q2, q3, q4, q5, q6⟩ := id hfe
    have e3 : s₂ = ({ (U.calling g mk a).setFrames s₂.frames with heap := s₂.heap, slotsUsed := s₂.slotsUsed } : State).setVm s₂.vm := by
      have : s₂ = ({ s₂ with vm := (U.calling g mk a).vm } : State).setVm s₂.vm := rfl
      rw [e2] at this
      exact this
    obtain ⟨c₂, i₂, len₂, hc₂, hd₂, hf₂⟩ := hend
    have hW' : U.WarmedH s₂.vm := hW₂
    have hcc : c₂ = c := by
      have h1 : s₂.code? g.method = U.code? g.method := by
        rw [State.code?_eq, State.code?_eq, hW'.alike.method?]
      exact Option.some.inj (hc₂.symm.trans (h1.trans h.code))
    subst hcc
    have hlen : len₂ = len := by rw [hdg] at hd₂; cases hd₂; rfl
    subst hlen
    have hs₂ : s₂ = (({ U with heap := s₂.heap, slotsUsed := s₂.slotsUsed } : State).setVm s₂.vm).setTop { g with pc := g.pc + len₂, stack := v.toList ++ g.stack } := by
      refine e3.trans ?_
      rw [hf₂, State.calling_eq h.top, State.setFrames_setFrames, State.setTop_of_frames _ hr', hr]
      rfl
    have hsame : U.sameButNew ({ U with heap := s₂.heap, slotsUsed := s₂.slotsUsed } : State) L mc ms := by
      refine ⟨?_, q2, q3, q4, q5, q6⟩
      obtain ⟨t, ht, -⟩ := State.frames_cons hr
      show ({ U with heap := s₂.heap, slotsUsed := s₂.slotsUsed } : State) = { U.setFrames U.frames with heap := s₂.heap, slotsUsed := s₂.slotsUsed }
      rw [State.setFrames_self ht]
    subst hg
    refine Or.inl ⟨v, ⟨(({ U with heap := s₂.heap, slotsUsed := s₂.slotsUsed } : State).setVm s₂.vm), Ls ++ L, c0 + mc, s0 + ms⟩,
      ⟨X.admits, X.cas, X.clock, X.frames, X.room, X.hears, X.method, X.code, (X.here.setHeapUsed s₂.heap s₂.slotsUsed).setVm hW'.alike, X.tail, State.WarmedH.trans X.warmed hW', X.limits, X.bytes, X.same.trans (hsame.setVm s.vm)⟩,
      ⟨g, mk, s₂, L, rfl, rfl, hqc, rfl, hL, rfl, rfl⟩, ?_⟩
    show Steps p.tables e below _ ((({ U with heap := s₂.heap, slotsUsed := s₂.slotsUsed } : State).setVm s₂.vm).setTop { g with pc := g.pc + len₂, stack := v.toList ++ g.stack })
    rw [← hs₂]
    exact hsteps
  · obtain ⟨e2, q2, q3, q4, q5, q6⟩ := id hsm
    have e3 : s₂ = ({ (U.calling g mk a).setFrames s₂.frames with heap := s₂.heap, slotsUsed := s₂.slotsUsed } : State).setVm s₂.vm := by
      have : s₂ = ({ s₂ with vm := (U.calling g mk a).vm } : State).setVm s₂.vm := rfl
      rw [e2] at this
      exact this
    have hf₂ : s₂.frames = .throwing q :: .java g :: U.frames.tail := hend
    have hW' : U.WarmedH s₂.vm := hW₂
    have hs₂ : s₂ = ((({ U with heap := s₂.heap, slotsUsed := s₂.slotsUsed } : State).setVm s₂.vm).setTop g).pushFrame (.throwing q) := by
      refine e3.trans ?_
      rw [hf₂, State.calling_eq h.top, State.setFrames_setFrames, State.pushFrame, State.frames_setTop _ hr', State.setTop_of_frames _ hr', State.setFrames_setFrames, hr]
      rfl
    have hsame : U.sameButNew ({ U with heap := s₂.heap, slotsUsed := s₂.slotsUsed } : State) L mc ms := by
      refine ⟨?_, q2, q3, q4, q5, q6⟩
      obtain ⟨t, ht, -⟩ := State.frames_cons hr
      show ({ U with heap := s₂.heap, slotsUsed := s₂.slotsUsed } : State) = { U.setFrames U.frames with heap := s₂.heap, slotsUsed := s₂.slotsUsed }
      rw [State.setFrames_self ht]
    subst hg
    refine Or.inr ⟨q, ⟨(({ U with heap := s₂.heap, slotsUsed := s₂.slotsUsed } : State).setVm s₂.vm), Ls ++ L, c0 + mc, s0 + ms⟩,
      ⟨X.admits, X.cas, X.clock, X.frames, X.room, X.hears, X.method, X.code, (X.here.setHeapUsed s₂.heap s₂.slotsUsed).setVm hW'.alike, X.tail, State.WarmedH.trans X.warmed hW', X.limits, X.bytes, X.same.trans (hsame.setVm s.vm)⟩,
      ⟨g, mk, s₂, L, E, ce, rfl, rfl, hx, hce, hcv, hcl, rfl, hL, rfl, rfl⟩, ?_⟩
    show Steps p.tables e below _ (((({ U with heap := s₂.heap, slotsUsed := s₂.slotsUsed } : State).setVm s₂.vm).setTop g).pushFrame (.throwing q))
    rw [← hs₂]
    exact hsteps
end
variable {p : Program} {l : Launch} {e : Env} {R : Room} {s : State} {m : MethodId} {args : Array Value} {below : List Frame} {meth : Method} {c : Code} {T : State} {H : Heap} {locs : List Loc} {cells slots : Nat}
theorem vx_callVX (X : Stand p l e R s m args below meth c T locs cells slots) (hexec : p.tables.exec = Jvm.exec) {own C : String} {index : Nat} {y : MethodName} {bytes : ByteArray} {maxL : Nat} {ret : Option FieldType} {hh : List (Nat × Nat × Nat × Nat)}
    (hown : s.vm.findClass own = some m.cls) (hlink : (Cond.methodLink own index y).before args s = true) (hinst : (Cond.instanceMethod y).before args s = true) (hsel : (Cond.selects C y y).before args s = true)
    (hcode : (Cond.codeWith y bytes maxL ret hh).before args s = true) (hy : y.cls ≠ "java/lang/invoke/MethodHandle" ∧ y.cls ≠ "java/lang/invoke/VarHandle")
    {W9 : Nat} {Pre : Pt → Array Value → Prop} {Post : Pt → Array Value → Option Value → Pt → Prop} {PostX : Pt → Array Value → Addr → Pt → Prop} (hK : vx_Back l R p e below s args y 3 W9 Pre Post PostX)
    {b : Addr} {cellB : Cell} (hcell : T.heap[b]? = some cellB) (hobj : cellB.vm.isStatics = false) (hcls : s.vm.findClass C = some cellB.cls)
    {g : JFrame} (hg : g.method = m) (hsize : g.locals.size = c.maxLocals) {argsL rest : List Value} (hlen : ∀ sig, parseMethodDescriptor y.desc = some sig → argsL.length = sig.parameters.length)
    (hstack : g.stack = argsL.reverse ++ .ref b :: rest) (hW : 2 * g.monitorRoom + (rest.map fun v => v.category).sum ≤ W9) (hdg : decode c.code g.pc = .ok (.invokevirtual index, 3))
    (hpre : ∀ vm₁, s.WarmedH vm₁ → Pre ⟨T.setVm vm₁, locs, cells, slots⟩ (Value.ref b :: argsL).toArray) :
    (∃ (v : Option Value) (vm₁ : Vm) (B : Pt), s.WarmedH vm₁ ∧ Stand p l e R s m args below meth c B.U B.locs B.cells B.slots ∧ Post ⟨T.setVm vm₁, locs, cells, slots⟩ (Value.ref b :: argsL).toArray v B ∧
      ∀ target, Steps p.tables e below (B.U.setTop { g with pc := g.pc + 3, stack := v.toList ++ rest }) target → Steps p.tables e below (T.setTop g) target) ∨
    (∃ (q : Addr) (vm₁ : Vm) (B : Pt), s.WarmedH vm₁ ∧ Stand p l e R s m args below meth c B.U B.locs B.cells B.slots ∧ PostX ⟨T.setVm vm₁, locs, cells, slots⟩ (Value.ref b :: argsL).toArray q B ∧
      Steps p.tables e below (T.setTop g) ((B.U.setTop { g with stack := rest }).pushFrame (.throwing q))) := by
  obtain ⟨mk, methM, hnamed, hmethM, hstM, habM⟩ := Cond.instanceMethod_spec hinst
  obtain ⟨m8, methM', cM, hn8, hmethM', -, -, -, -, -, -, hsigM⟩ := Cond.codeWith_spec hcode
  cases Option.some.inj (hn8.symm.trans hnamed)
  cases hmethM.symm.trans hmethM'
  obtain ⟨c2, r2, m2, q1, q2, q3, q4, kP, hkP, hkPi⟩ := Cond.selects_spec hsel
  cases hcls.symm.trans q1
  cases (State.methodFound?_of_named hnamed hy).symm.trans q2
  cases hnamed.symm.trans q3
  have hselP : selectMethod e.platform s.vm cellB.cls mk = .method mk := by rw [Launch.admits_selectMethod X.admits]; exact q4
  obtain ⟨vm₁, X₁, hstep₁⟩ := X.invokevirtual hexec hown hlink hnamed hmethM hstM hkP hkPi hy (a := b) (cell := cellB) hcell
    (fun z h => by rw [h] at hobj; cases hobj) hselP hmethM habM hkP hkPi (g := g) hg (argsL := argsL) (rest := rest) (hlen _ hsigM) hstack hdg
  rcases hK m meth c ⟨T.setVm vm₁, locs, cells, slots⟩ { g with stack := rest } (.invokevirtual index) mk (Value.ref b :: argsL).toArray X₁ hg hsize hdg hW (X₁.named hnamed) (hpre vm₁ X₁.warmed) with ⟨v, B, X', hpost, hsteps⟩ | ⟨q, B, X', hpost, hsteps⟩
  · exact Or.inl ⟨v, vm₁, B, X₁.warmed, X', hpost, fun target h => hstep₁ _ fun acts => by rw [doInvoke_state]; exact hsteps.trans h⟩
  · exact Or.inr ⟨q, vm₁, B, X₁.warmed, X', hpost, hstep₁ _ fun acts => by rw [doInvoke_state]; exact hsteps⟩
theorem vx_callSX (X : Stand p l e R s m args below meth c T locs cells slots) (hexec : p.tables.exec = Jvm.exec) {own : String} {index : Nat} {y : MethodName} {bytes : ByteArray} {maxL : Nat} {ret : Option FieldType} {hh : List (Nat × Nat × Nat × Nat)}
    (hown : s.vm.findClass own = some m.cls) (hlink : (Cond.methodLink own index y).before args s = true) (hstat : (Cond.static y).before args s = true) (hinit : (Cond.initialized y.cls).before args s = true)
    (hcode : (Cond.codeWith y bytes maxL ret hh).before args s = true) (hy : y.cls ≠ "java/lang/invoke/MethodHandle" ∧ y.cls ≠ "java/lang/invoke/VarHandle")
    {W9 : Nat} {Pre : Pt → Array Value → Prop} {Post : Pt → Array Value → Option Value → Pt → Prop} {PostX : Pt → Array Value → Addr → Pt → Prop} (hK : vx_Back l R p e below s args y 3 W9 Pre Post PostX)
    {g : JFrame} (hg : g.method = m) (hsize : g.locals.size = c.maxLocals) {argsL rest : List Value} (hlen : ∀ sig, parseMethodDescriptor y.desc = some sig → argsL.length = sig.parameters.length)
    (hstack : g.stack = argsL.reverse ++ rest) (hW : 2 * g.monitorRoom + (rest.map fun v => v.category).sum ≤ W9) (hdg : decode c.code g.pc = .ok (.invokestatic index, 3))
    (hpre : ∀ vm₁, s.WarmedH vm₁ → Pre ⟨T.setVm vm₁, locs, cells, slots⟩ argsL.toArray) :
    (∃ (v : Option Value) (vm₁ : Vm) (B : Pt), s.WarmedH vm₁ ∧ Stand p l e R s m args below meth c B.U B.locs B.cells B.slots ∧ Post ⟨T.setVm vm₁, locs, cells, slots⟩ argsL.toArray v B ∧
      ∀ target, Steps p.tables e below (B.U.setTop { g with pc := g.pc + 3, stack := v.toList ++ rest }) target → Steps p.tables e below (T.setTop g) target) ∨
    (∃ (q : Addr) (vm₁ : Vm) (B : Pt), s.WarmedH vm₁ ∧ Stand p l e R s m args below meth c B.U B.locs B.cells B.slots ∧ PostX ⟨T.setVm vm₁, locs, cells, slots⟩ argsL.toArray q B ∧
      Steps p.tables e below (T.setTop g) ((B.U.setTop { g with stack := rest }).pushFrame (.throwing q))) := by
  obtain ⟨mk, methM, cM, hnamed, hmethM, -, -, -, -, -, -, hsigM⟩ := Cond.codeWith_spec hcode
  have hstatic : methM.isStatic = true := Cond.static_spec hnamed hmethM hstat
  obtain ⟨kP, hkP, -⟩ := className_of_methodNamed hnamed
  have hinitP : kP.init = .initialized := Cond.initialized_spec (findClass_of_methodNamed hnamed) hkP hinit
  obtain ⟨vm₁, X₁, hstep₁⟩ := X.invokestatic hexec hown hlink hnamed hmethM hstatic hkP hinitP hy (g := g) hg (argsL := argsL) (rest := rest) (hlen _ hsigM) hstack hdg
  rcases hK m meth c ⟨T.setVm vm₁, locs, cells, slots⟩ { g with stack := rest } (.invokestatic index) mk argsL.toArray X₁ hg hsize hdg hW (X₁.named hnamed) (hpre vm₁ X₁.warmed) with ⟨v, B, X', hpost, hsteps⟩ | ⟨q, B, X', hpost, hsteps⟩
  · exact Or.inl ⟨v, vm₁, B, X₁.warmed, X', hpost, fun target h => hstep₁ _ fun acts => by rw [doInvoke_state]; exact hsteps.trans h⟩
  · exact Or.inr ⟨q, vm₁, B, X₁.warmed, X', hpost, hstep₁ _ fun acts => by rw [doInvoke_state]; exact hsteps⟩
theorem vx_callVW (X : Stand p l e R s m args below meth c T locs cells slots) (hexec : p.tables.exec = Jvm.exec) {own C : String} {index : Nat} {y : MethodName} {bytes : ByteArray} {maxL : Nat} {ret : Option FieldType} {hh : List (Nat × Nat × Nat × Nat)}
    (hown : s.vm.findClass own = some m.cls) (hlink : (Cond.methodLink own index y).before args s = true) (hinst : (Cond.instanceMethod y).before args s = true) (hsel : (Cond.selects C y y).before args s = true)
    (hcode : (Cond.codeWith y bytes maxL ret hh).before args s = true) (hy : y.cls ≠ "java/lang/invoke/MethodHandle" ∧ y.cls ≠ "java/lang/invoke/VarHandle")
    {W9 : Nat} {Pre : Pt → Array Value → Prop} {Post : Pt → Array Value → Option Value → Pt → Prop} (hK : Back l R p e below s args y 3 W9 Pre Post)
    {b : Addr} {cellB : Cell} (hcell : T.heap[b]? = some cellB) (hobj : cellB.vm.isStatics = false) (hcls : s.vm.findClass C = some cellB.cls)
    {g : JFrame} (hg : g.method = m) (hsize : g.locals.size = c.maxLocals) {argsL rest : List Value} (hlen : ∀ sig, parseMethodDescriptor y.desc = some sig → argsL.length = sig.parameters.length)
    (hstack : g.stack = argsL.reverse ++ .ref b :: rest) (hW : 2 * g.monitorRoom + (rest.map fun v => v.category).sum ≤ W9) (hdg : decode c.code g.pc = .ok (.invokevirtual index, 3))
    (hpre : ∀ vm₁, s.WarmedH vm₁ → Pre ⟨T.setVm vm₁, locs, cells, slots⟩ (Value.ref b :: argsL).toArray) :
    ∃ (v : Option Value) (vm₁ : Vm) (B : Pt), s.WarmedH vm₁ ∧ Stand p l e R s m args below meth c B.U B.locs B.cells B.slots ∧ Post ⟨T.setVm vm₁, locs, cells, slots⟩ (Value.ref b :: argsL).toArray v B ∧
      ∀ target, Steps p.tables e below (B.U.setTop { g with pc := g.pc + 3, stack := v.toList ++ rest }) target → Steps p.tables e below (T.setTop g) target := by
  obtain ⟨mk, methM, hnamed, hmethM, hstM, habM⟩ := Cond.instanceMethod_spec hinst
  obtain ⟨m8, methM', cM, hn8, hmethM', -, -, -, -, -, -, hsigM⟩ := Cond.codeWith_spec hcode
  cases Option.some.inj (hn8.symm.trans hnamed)
  cases hmethM.symm.trans hmethM'
  obtain ⟨c2, r2, m2, q1, q2, q3, q4, kP, hkP, hkPi⟩ := Cond.selects_spec hsel
  cases hcls.symm.trans q1
  cases (State.methodFound?_of_named hnamed hy).symm.trans q2
  cases hnamed.symm.trans q3
  have hselP : selectMethod e.platform s.vm cellB.cls mk = .method mk := by rw [Launch.admits_selectMethod X.admits]; exact q4
  obtain ⟨vm₁, X₁, hstep₁⟩ := X.invokevirtual hexec hown hlink hnamed hmethM hstM hkP hkPi hy (a := b) (cell := cellB) hcell
    (fun z h => by rw [h] at hobj; cases hobj) hselP hmethM habM hkP hkPi (g := g) hg (argsL := argsL) (rest := rest) (hlen _ hsigM) hstack hdg
  obtain ⟨v, B, X', hpost, hsteps⟩ := hK m meth c ⟨T.setVm vm₁, locs, cells, slots⟩ { g with stack := rest } (.invokevirtual index) mk (Value.ref b :: argsL).toArray X₁ hg hsize hdg hW (X₁.named hnamed) (hpre vm₁ X₁.warmed)
  exact ⟨v, vm₁, B, X₁.warmed, X', hpost, fun target h => hstep₁ _ fun acts => by rw [doInvoke_state]; exact hsteps.trans h⟩
abbrev vx_CVW (R : Room) (s : State) (args : Array Value) (own C : String) (index : Nat) (y : MethodName) (bytes : ByteArray) (maxL : Nat) (ret : Option FieldType) (hh : List (Nat × Nat × Nat × Nat)) (ws : List Cond) (rm : Room) (mc ms n : Nat) : Prop :=
  (rm.cells = mc ∧ rm.slots = ms ∧ rm.frames + 1 ≤ R.frames ∧ 8 + (maxL + 11) + rm.locals ≤ R.locals ∧ (∀ w ∈ ws, ∀ (a' : Array Value) (U : State), s.WarmedH U.vm → w.before a' U = true) ∧ Cond.codeWith y bytes maxL ret hh ∈ ws) ∧
  (Cond.codeWith y bytes maxL ret hh).before args s = true ∧ (Cond.initialized y.cls).before args s = true ∧ (y.cls ≠ "java/lang/invoke/MethodHandle" ∧ y.cls ≠ "java/lang/invoke/VarHandle") ∧
  (∀ sig, parseMethodDescriptor y.desc = some sig → n = sig.parameters.length) ∧ (Cond.methodLink own index y).before args s = true ∧ (Cond.instanceMethod y).before args s = true ∧ (Cond.selects C y y).before args s = true
theorem vx_cwVW {own C : String} {index maxL mc ms : Nat} {y : MethodName} {bytes : ByteArray} {ret : Option FieldType} {hh : List (Nat × Nat × Nat × Nat)} {Ts ws ws' : List Cond} {rm : Room} (n : Nat) (ht : ∀ w ∈ Ts, w.before args s = true) (hT : GoodIn Ts (wsV own index C y ws)) (hw : ws = Cond.codeWith y bytes maxL ret hh :: ws') (hrc : rm.cells = mc) (hrs : rm.slots = ms)
    (hd : y.cls = C ∧ y.cls ≠ "java/lang/invoke/MethodHandle" ∧ y.cls ≠ "java/lang/invoke/VarHandle" ∧ (parseMethodDescriptor y.desc).map (fun d => d.parameters.length) = some n) (hR : rm.frames + 1 ≤ R.frames ∧ 8 + (maxL + 11) + rm.locals ≤ R.locals) :
    vx_CVW R s args own C index y bytes maxL ret hh ws rm mc ms n := by
  obtain ⟨hC, hd⟩ := hd
  subst hC
  have ok : ∀ w ∈ wsV own index y.cls y ws, w.before args s = true := fun w h => ht w (hT w h).1
  have hG : GoodIn Ts ws := fun w h => hT w (by unfold wsV; exact List.mem_append_right _ h)
  have hc : Cond.codeWith y bytes maxL ret hh ∈ ws := by rw [hw]; exact List.mem_cons_self
  refine ⟨⟨hrc, hrs, hR.1, hR.2, pay_in ht hG, hc⟩, ht _ (hG _ hc).1, ok _ (by simp [wsV]), ⟨hd.1, hd.2.1⟩, fun sig h => ?_, ok _ (by simp [wsV]), ok _ (by simp [wsV]), ok _ (by simp [wsV])⟩
  have h2 := hd.2.2
  rw [h] at h2
  exact (Option.some.inj h2).symm
theorem vx_runVW {y : MethodName} {bytes cc : ByteArray} {maxL nL mc ms n index : Nat} {ret : Option FieldType} {hh : List (Nat × Nat × Nat × Nat)} {ws : List Cond} {rm : Room} {Pc : Array Value → State → Prop} {Qc : Array Value → State → Outcome → State → Prop} {free : Addr → Prop} {Ts : List Cond} {own C : String} {b : Addr} {As rest : List Value} {g : JFrame}
    (S : CallFix p m c cc nL s args Ts own) (hM : Met l y ws rm Pc Qc mc ms free) (cw : vx_CVW R s args own C index y bytes maxL ret hh ws rm mc ms n) (hp : PreV s H C b Pc As)
    (hg : g.method = m) (hn : As.length = n) (hsize : g.locals.size = nL) (hstack : g.stack = As.reverse ++ .ref b :: rest) (hW : 2 * g.monitorRoom + (rest.map fun v => v.category).sum ≤ 8) (hdg : decode cc g.pc = .ok (.invokevirtual index, 3)) (hf : cells + mc ≤ R.cells ∧ slots + ms ≤ R.slots) :
    va_Run p l e R s m args below meth c H locs cells slots mc ms g rest (Qc (Value.ref b :: As).toArray) free := by
  obtain ⟨⟨hrc, hrs, hfr, hlo, hws, hcw⟩, hcode, hini, hy, hlen, hl, hin, hse⟩ := cw
  have hK : Back l R p e below s args y 3 8 (PreOf R mc ms Pc) (PostOf Qc mc ms free) := va_backW (hh := hh) (bytes := bytes) (maxL := maxL) (ret := ret) hM hp.1 hrc hrs hfr hlo hws hcw (fun a' U hW => word_at hW (Or.inl (by first | rfl | simp [Cond.onTables, Cond.keeps, Cond.steady])) hini)
  obtain ⟨hx, hb, hml, ho, -⟩ := S
  obtain ⟨-, ⟨cellB, hcB, hoB, hclB⟩, hPc⟩ := hp
  intro T hT X
  obtain ⟨v, vm₁, ⟨U', l2, c2, s2⟩, hW₁, X', ⟨g', mk, t, L, e1, e2, hq, h1, hL, h2, h3⟩, st⟩ := vx_callVW X hx (C := C) (hh := hh) (bytes := bytes) (maxL := maxL) (ret := ret) ho hl hin hse hcode hy hK (by rw [hT]; exact hcB) hoB hclB hg (hsize.trans hml.symm) (argsL := As) (rest := rest) (fun sig h => hn.trans (hlen sig h)) hstack hW (by rw [hb]; exact hdg)
    (fun vm₁ hW₁ => ⟨hf.1, hf.2, hPc (T.setVm vm₁) hT hW₁⟩)
  dsimp only [Pt.U, Pt.locs, Pt.cells, Pt.slots] at X' e1 e2 h1 h2 h3 st
  subst h1; subst h2; subst h3
  exact ⟨v, (T.setVm vm₁).calling g' mk (Value.ref b :: As).toArray, t, U', L, hT, X', hL, e1, e2, hq, st⟩
section
variable {y : MethodName} {bytes cc : ByteArray} {maxL nL mc ms n index : Nat} {ret : Option FieldType} {ws : List Cond} {rm : Room} {Pc : Array Value → State → Prop} {Qc : Array Value → State → Outcome → State → Prop} {XC : String → State → State → Prop} {free : Addr → Prop} {Ts : List Cond} {own C : String} {b : Addr} {As rest : List Value} {g : JFrame}
theorem vx_runVX {hh : List (Nat × Nat × Nat × Nat)} (S : CallFix p m c cc nL s args Ts own) (hM : vx_Met l y ws rm Pc Qc XC mc ms free) (cw : vx_CVW R s args own C index y bytes maxL ret hh ws rm mc ms n) (hp : PreV s H C b Pc As)
    (hg : g.method = m) (hn : As.length = n) (hsize : g.locals.size = nL) (hstack : g.stack = As.reverse ++ .ref b :: rest) (hW : 2 * g.monitorRoom + (rest.map fun v => v.category).sum ≤ 8) (hdg : decode cc g.pc = .ok (.invokevirtual index, 3)) (hf : cells + mc ≤ R.cells ∧ slots + ms ≤ R.slots) :
    vx_Run p l e R s m args below meth c H locs cells slots mc ms g rest (Qc (Value.ref b :: As).toArray) XC free := by
  obtain ⟨⟨hrc, hrs, hfr, hlo, hws, hcw⟩, hcode, hini, hy, hlen, hl, hin, hse⟩ := cw
  have hK : vx_Back l R p e below s args y 3 8 (PreOf R mc ms Pc) (PostOf Qc mc ms free) (vx_Post XC mc ms free) := vx_backW (hh := hh) (bytes := bytes) (maxL := maxL) (ret := ret) hM hp.1 hrc hrs hfr hlo hws hcw (fun a' U hW => word_at hW (Or.inl (by first | rfl | simp [Cond.onTables, Cond.keeps, Cond.steady])) hini)
  obtain ⟨hx, hb, hml, ho, -⟩ := S
  obtain ⟨-, ⟨cellB, hcB, hoB, hclB⟩, hPc⟩ := hp
  intro T hT X
  rcases vx_callVX X hx (C := C) (hh := hh) (bytes := bytes) (maxL := maxL) (ret := ret) ho hl hin hse hcode hy hK (by rw [hT]; exact hcB) hoB hclB hg (hsize.trans hml.symm) (argsL := As) (rest := rest) (fun sig h => hn.trans (hlen sig h)) hstack hW (by rw [hb]; exact hdg)
    (fun vm₁ hW₁ => ⟨hf.1, hf.2, hPc (T.setVm vm₁) hT hW₁⟩) with ⟨v, vm₁, ⟨U', l2, c2, s2⟩, hW₁, X', ⟨g', mk, t, L, e1, e2, hq, h1, hL, h2, h3⟩, st⟩ | ⟨q, vm₁, ⟨U', l2, c2, s2⟩, hW₁, X', ⟨g', mk, t, L, E, ce, e1, e2, hq, hce, hcv, hcl, h1, hL, h2, h3⟩, st⟩
  · dsimp only [Pt.U, Pt.locs, Pt.cells, Pt.slots] at X' e1 e2 h1 h2 h3 st
    subst h1; subst h2; subst h3
    exact Or.inl ⟨v, (T.setVm vm₁).calling g' mk (Value.ref b :: As).toArray, t, U', L, hT, X', hL, e1, e2, hq, st⟩
  · dsimp only [Pt.U, Pt.locs, Pt.cells, Pt.slots] at X' e1 e2 h1 h2 h3 st hcl
    subst h1; subst h2; subst h3
    exact Or.inr ⟨q, (T.setVm vm₁).calling g' mk (Value.ref b :: As).toArray, t, U', L, E, ce, hT, X', hL, e1, e2, hq, hce, hcv, vx_cls hW₁ hcl, st⟩
theorem vx_runSX {hh : List (Nat × Nat × Nat × Nat)} (S : CallFix p m c cc nL s args Ts own) (hM : vx_Met l y ws rm Pc Qc XC mc ms free) (cw : vx_CSW R s args own index y bytes maxL ret hh ws rm mc ms n) (hp : PreS s H Pc As)
    (hg : g.method = m) (hn : As.length = n) (hsize : g.locals.size = nL) (hstack : g.stack = As.reverse ++ rest) (hW : 2 * g.monitorRoom + (rest.map fun v => v.category).sum ≤ 8) (hdg : decode cc g.pc = .ok (.invokestatic index, 3)) (hf : cells + mc ≤ R.cells ∧ slots + ms ≤ R.slots) :
    vx_Run p l e R s m args below meth c H locs cells slots mc ms g rest (Qc As.toArray) XC free := by
  obtain ⟨⟨hrc, hrs, hfr, hlo, hws, hcw⟩, hcode, hini, hy, hlen, hl, hstt⟩ := cw
  have hK : vx_Back l R p e below s args y 3 8 (PreOf R mc ms Pc) (PostOf Qc mc ms free) (vx_Post XC mc ms free) := vx_backW (hh := hh) (bytes := bytes) (maxL := maxL) (ret := ret) hM hp.1 hrc hrs hfr hlo hws hcw (fun a' U hW => word_at hW (Or.inl (by first | rfl | simp [Cond.onTables, Cond.keeps, Cond.steady])) hini)
  obtain ⟨hx, hb, hml, ho, -⟩ := S
  intro T hT X
  rcases vx_callSX X hx (hh := hh) (bytes := bytes) (maxL := maxL) (ret := ret) ho hl hstt hini hcode hy hK hg (hsize.trans hml.symm) (argsL := As) (rest := rest) (fun sig h => hn.trans (hlen sig h)) hstack hW (by rw [hb]; exact hdg)
    (fun vm₁ hW₁ => ⟨hf.1, hf.2, hp.2 (T.setVm vm₁) hT hW₁⟩) with ⟨v, vm₁, ⟨U', l2, c2, s2⟩, hW₁, X', ⟨g', mk, t, L, e1, e2, hq, h1, hL, h2, h3⟩, st⟩ | ⟨q, vm₁, ⟨U', l2, c2, s2⟩, hW₁, X', ⟨g', mk, t, L, E, ce, e1, e2, hq, hce, hcv, hcl, h1, hL, h2, h3⟩, st⟩
  · dsimp only [Pt.U, Pt.locs, Pt.cells, Pt.slots] at X' e1 e2 h1 h2 h3 st
    subst h1; subst h2; subst h3
    exact Or.inl ⟨v, (T.setVm vm₁).calling g' mk As.toArray, t, U', L, hT, X', hL, e1, e2, hq, st⟩
  · dsimp only [Pt.U, Pt.locs, Pt.cells, Pt.slots] at X' e1 e2 h1 h2 h3 st hcl
    subst h1; subst h2; subst h3
    exact Or.inr ⟨q, (T.setVm vm₁).calling g' mk As.toArray, t, U', L, E, ce, hT, X', hL, e1, e2, hq, hce, hcv, vx_cls hW₁ hcl, st⟩
end
end VXH
theorem vx_ofWH {l : Launch} {y : MethodName} {ws ws' : List Cond} {rm : Room} {Pc : Array Value → State → Prop} {Qc : Array Value → State → Outcome → State → Prop} {XC : String → State → State → Prop} {mc ms : Nat} {free : Addr → Prop} {cc : ByteArray} {maxL : Nat} {ret : Option FieldType} {hh : List (Nat × Nat × Nat × Nat)}
    (hy : plainName y.cls = true) (hw : ws = Cond.codeWith y cc maxL ret hh :: ws')
    (body : ∀ p e s m args below meth c s₁, BodyLoose p l y (headSpec ws rm) cc maxL ret e s m args below meth c s₁ → c.maxLocals = maxL → Pc args s →
      W p l e (headSpec ws rm).room s m args below meth c s.heap [] 0 0 (vx_MQ below Qc XC args s mc ms free) (entryFrame m args maxL)) : vx_Met l y ws rm Pc Qc XC mc ms free := by
  refine MetFree.of_bodyS (code := cc) (maxLocals := maxL) (ret := ret) hy ?_ ?_
  · intro args s m h hn
    obtain ⟨m9, meth, c, hn9, h1, h2, h3, h4, -, h5, h6, -⟩ := Cond.codeWith_spec (atoms_spec (ws := ws) h _ (by rw [hw]; exact List.mem_cons_self))
    cases hn.symm.trans hn9
    exact ⟨meth, c, h1, h2, h3, h4, h5, h6⟩
  · intro p e s m args below meth c s₁ B hml hP _
    have hh0 : s₁.heap = s.heap := by rw [B.state]; rfl
    obtain ⟨t, a1, o, b1, b2, b3⟩ := body p e s m args below meth c s₁ B hml hP s₁ hh0 (Stand.of_body B)
    exact ⟨t, o, a1, b1, b2, b3⟩
/-! ===== END ===== -/
end
section
/-! ===== BEGIN a constructor that throws (launches without stack traces) ===== -/
section VXIA
variable {p : Program} {l : Launch} {e : Env} {R : Room} {s : State} {m : MethodId} {args : Array Value} {below : List Frame} {meth : Method} {c : Code} {T : State} {locs : List Loc} {cells slots : Nat}
theorem vx_callI (X : Stand p l e R s m args below meth c T locs cells slots) (hexec : p.tables.exec = Jvm.exec) {own : String} {index : Nat} {y : MethodName} {bytes : ByteArray} {maxL : Nat}
    (hown : s.vm.findClass own = some m.cls) (hy1 : y.name = "<init>") (hlink : (Cond.methodLink own index y).before args s = true) (hinst : (Cond.instanceMethod y).before args s = true)
    (hcode : (Cond.code y bytes maxL none).before args s = true) (hy : y.cls ≠ "java/lang/invoke/MethodHandle" ∧ y.cls ≠ "java/lang/invoke/VarHandle")
    {W9 : Nat} {Pre : Pt → Array Value → Prop} {Post : Pt → Array Value → Option Value → Pt → Prop} {PostX : Pt → Array Value → Addr → Pt → Prop} (hK : vx_Back l R p e below s args y 3 W9 Pre Post PostX)
    {g : JFrame} (hg : g.method = m) (hsize : g.locals.size = c.maxLocals) {a : Addr} {argsL rest : List Value} (hlen : ∀ sig, parseMethodDescriptor y.desc = some sig → argsL.length = sig.parameters.length)
    (hstack : g.stack = argsL.reverse ++ .ref a :: rest) (hW : 2 * g.monitorRoom + (rest.map fun v => v.category).sum ≤ W9) (hdg : decode c.code g.pc = .ok (.invokespecial index, 3))
    (hpre : ∀ vm₁, s.WarmedH vm₁ → Pre ⟨T.setVm vm₁, locs, cells, slots⟩ (Value.ref a :: argsL).toArray) :
    (∃ (v : Option Value) (vm₁ : Vm) (B : Pt), s.WarmedH vm₁ ∧ Stand p l e R s m args below meth c B.U B.locs B.cells B.slots ∧ Post ⟨T.setVm vm₁, locs, cells, slots⟩ (Value.ref a :: argsL).toArray v B ∧
      ∀ target, Steps p.tables e below (B.U.setTop { g with pc := g.pc + 3, stack := v.toList ++ rest }) target → Steps p.tables e below (T.setTop g) target) ∨
    (∃ (q : Addr) (vm₁ : Vm) (B : Pt), s.WarmedH vm₁ ∧ Stand p l e R s m args below meth c B.U B.locs B.cells B.slots ∧ PostX ⟨T.setVm vm₁, locs, cells, slots⟩ (Value.ref a :: argsL).toArray q B ∧
      Steps p.tables e below (T.setTop g) ((B.U.setTop { g with stack := rest }).pushFrame (.throwing q))) := by
  subst hg
  have hpl : e.platform.magicAccessors = ({} : Platform).magicAccessors := by rw [X.admits.platform]
  obtain ⟨mk, methM, cM, kP, vm₁, hnamed, hmethM, hcodeM, -, hlocalsM, -, hkP, -, hW₁, hstep₁⟩ := Steps.initColdArgs (e := e) X.here hexec X.warmed hpl hown hy1 hy hlink hinst hcode (f := g) rfl hlen hstack hdg
  have X₁ := X.noted hW₁
  rcases hK g.method meth c ⟨T.setVm vm₁, locs, cells, slots⟩ { g with stack := rest } (.invokespecial index) mk (Value.ref a :: argsL).toArray X₁ rfl hsize hdg hW (X₁.named hnamed) (hpre vm₁ X₁.warmed) with ⟨v, B, X', hpost, hsteps⟩ | ⟨q, B, X', hpost, hsteps⟩
  · exact Or.inl ⟨v, vm₁, B, X₁.warmed, X', hpost, fun target h => hstep₁ _ fun acts => by rw [doInvoke_state]; exact hsteps.trans h⟩
  · exact Or.inr ⟨q, vm₁, B, X₁.warmed, X', hpost, hstep₁ _ fun acts => by rw [doInvoke_state]; exact hsteps⟩
end VXIA
section VXIB
variable {p : Program} {l : Launch} {e : Env} {R : Room} {s : State} {m : MethodId} {args : Array Value} {below : List Frame} {meth : Method} {c : Code} {H : Heap} {locs : List Loc} {cells slots : Nat}
variable {y : MethodName} {bytes cc : ByteArray} {maxL nL mc ms n index : Nat} {ret : Option FieldType} {ws : List Cond} {rm : Room} {Pc : Array Value → State → Prop} {Qc : Array Value → State → Outcome → State → Prop} {XC : String → State → State → Prop} {free : Addr → Prop} {Ts : List Cond} {own C : String} {b : Addr} {As rest : List Value} {g : JFrame}
theorem vx_runI (S : CallFix p m c cc nL s args Ts own) (hM : vx_Met l y ws rm Pc Qc XC mc ms free) (cw : CallB R s args own index y bytes maxL none ws rm mc ms n ∧ y.name = "<init>" ∧ (Cond.instanceMethod y).before args s = true) (hp : PreS s H Pc (.ref b :: As))
    (hg : g.method = m) (hn : As.length = n) (hsize : g.locals.size = nL) (hstack : g.stack = As.reverse ++ .ref b :: rest) (hW : 2 * g.monitorRoom + (rest.map fun v => v.category).sum ≤ 8) (hdg : decode cc g.pc = .ok (.invokespecial index, 3)) (hf : cells + mc ≤ R.cells ∧ slots + ms ≤ R.slots) :
    vx_Run p l e R s m args below meth c H locs cells slots mc ms g rest (Qc (Value.ref b :: As).toArray) XC free := by
  have hK : vx_Back l R p e below s args y 3 8 (PreOf R mc ms Pc) (PostOf Qc mc ms free) (vx_Post XC mc ms free) := vx_callBack cw.1 hM hp.1
  obtain ⟨⟨-, -, -, -, -, -, hcode, -, hy, hlen, hl⟩, hy1, hin⟩ := cw
  obtain ⟨hx, hb, hml, ho, -⟩ := S
  have hPc := hp.2
  intro T hT X
  rcases vx_callI X hx (bytes := bytes) (maxL := maxL) ho hy1 hl hin hcode hy hK hg (hsize.trans hml.symm) (a := b) (argsL := As) (rest := rest) (fun sig h => hn.trans (hlen sig h)) hstack hW (by rw [hb]; exact hdg)
    (fun vm₁ hW₁ => ⟨hf.1, hf.2, hPc (T.setVm vm₁) hT hW₁⟩) with ⟨v, vm₁, ⟨U', l2, c2, s2⟩, hW₁, X', ⟨g', mk, t, L, e1, e2, hq, h1, hL, h2, h3⟩, st⟩ | ⟨q, vm₁, ⟨U', l2, c2, s2⟩, hW₁, X', ⟨g', mk, t, L, E, ce, e1, e2, hq, hce, hcv, hcl, h1, hL, h2, h3⟩, st⟩
  · dsimp only [Pt.U, Pt.locs, Pt.cells, Pt.slots] at X' e1 e2 h1 h2 h3 st
    subst h1; subst h2; subst h3
    exact Or.inl ⟨v, (T.setVm vm₁).calling g' mk (Value.ref b :: As).toArray, t, U', L, hT, X', hL, e1, e2, hq, st⟩
  · dsimp only [Pt.U, Pt.locs, Pt.cells, Pt.slots] at X' e1 e2 h1 h2 h3 st hcl
    subst h1; subst h2; subst h3
    exact Or.inr ⟨q, (T.setVm vm₁).calling g' mk (Value.ref b :: As).toArray, t, U', L, E, ce, hT, X', hL, e1, e2, hq, hce, hcv, vx_cls hW₁ hcl, st⟩
end VXIB
/-! ===== END ===== -/
/-! ===== BEGIN a private constructor of a nest mate that throws ===== -/
section VXIC
variable {p : Program} {l : Launch} {e : Env} {R : Room} {s : State} {m : MethodId} {args : Array Value} {below : List Frame} {meth : Method} {c : Code} {T : State} {locs : List Loc} {cells slots : Nat}
theorem vx_callIN (X : Stand p l e R s m args below meth c T locs cells slots) (hexec : p.tables.exec = Jvm.exec) {own : String} {index : Nat} {host : String} {y : MethodName} {bytes : ByteArray} {maxL : Nat}
    (hown : s.vm.findClass own = some m.cls) (hy1 : y.name = "<init>") (hlink : (Cond.methodLinkNest own index y host).before args s = true) (hinst : (Cond.instanceMethod y).before args s = true)
    (hcode : (Cond.code y bytes maxL none).before args s = true) (hy : y.cls ≠ "java/lang/invoke/MethodHandle" ∧ y.cls ≠ "java/lang/invoke/VarHandle")
    {W9 : Nat} {Pre : Pt → Array Value → Prop} {Post : Pt → Array Value → Option Value → Pt → Prop} {PostX : Pt → Array Value → Addr → Pt → Prop} (hK : vx_Back l R p e below s args y 3 W9 Pre Post PostX)
    {g : JFrame} (hg : g.method = m) (hsize : g.locals.size = c.maxLocals) {a : Addr} {argsL rest : List Value} (hlen : ∀ sig, parseMethodDescriptor y.desc = some sig → argsL.length = sig.parameters.length)
    (hstack : g.stack = argsL.reverse ++ .ref a :: rest) (hW : 2 * g.monitorRoom + (rest.map fun v => v.category).sum ≤ W9) (hdg : decode c.code g.pc = .ok (.invokespecial index, 3))
    (hpre : ∀ vm₁, s.WarmedH vm₁ → Pre ⟨T.setVm vm₁, locs, cells, slots⟩ (Value.ref a :: argsL).toArray) :
    (∃ (v : Option Value) (vm₁ : Vm) (B : Pt), s.WarmedH vm₁ ∧ Stand p l e R s m args below meth c B.U B.locs B.cells B.slots ∧ Post ⟨T.setVm vm₁, locs, cells, slots⟩ (Value.ref a :: argsL).toArray v B ∧
      ∀ target, Steps p.tables e below (B.U.setTop { g with pc := g.pc + 3, stack := v.toList ++ rest }) target → Steps p.tables e below (T.setTop g) target) ∨
    (∃ (q : Addr) (vm₁ : Vm) (B : Pt), s.WarmedH vm₁ ∧ Stand p l e R s m args below meth c B.U B.locs B.cells B.slots ∧ PostX ⟨T.setVm vm₁, locs, cells, slots⟩ (Value.ref a :: argsL).toArray q B ∧
      Steps p.tables e below (T.setTop g) ((B.U.setTop { g with stack := rest }).pushFrame (.throwing q))) := by
  subst hg
  have hpl : e.platform.magicAccessors = ({} : Platform).magicAccessors := by rw [X.admits.platform]
  obtain ⟨mk, methM, cM, kP, vm₁, hnamed, hmethM, hcodeM, -, hlocalsM, -, hkP, -, hW₁, hstep₁⟩ := Steps.initColdArgsNest (e := e) X.here hexec X.warmed hpl hown hy1 hy hlink hinst hcode (f := g) rfl hlen hstack hdg
  have X₁ := X.noted hW₁
  rcases hK g.method meth c ⟨T.setVm vm₁, locs, cells, slots⟩ { g with stack := rest } (.invokespecial index) mk (Value.ref a :: argsL).toArray X₁ rfl hsize hdg hW (X₁.named hnamed) (hpre vm₁ X₁.warmed) with ⟨v, B, X', hpost, hsteps⟩ | ⟨q, B, X', hpost, hsteps⟩
  · exact Or.inl ⟨v, vm₁, B, X₁.warmed, X', hpost, fun target h => hstep₁ _ fun acts => by rw [doInvoke_state]; exact hsteps.trans h⟩
  · exact Or.inr ⟨q, vm₁, B, X₁.warmed, X', hpost, hstep₁ _ fun acts => by rw [doInvoke_state]; exact hsteps⟩
end VXIC
section VXID
variable {p : Program} {l : Launch} {e : Env} {R : Room} {s : State} {m : MethodId} {args : Array Value} {below : List Frame} {meth : Method} {c : Code} {H : Heap} {locs : List Loc} {cells slots : Nat}
theorem vx_runIN {y : MethodName} {bytes cc : ByteArray} {maxL nL mc ms n index : Nat} {ws : List Cond} {rm : Room} {Pc : Array Value → State → Prop} {Qc : Array Value → State → Outcome → State → Prop} {XC : String → State → State → Prop} {free : Addr → Prop} {Ts : List Cond} {own host : String} {b : Addr} {As rest : List Value} {g : JFrame}
    (S : CallFix p m c cc nL s args Ts own) (hM : vx_Met l y ws rm Pc Qc XC mc ms free) (cw : va_CN R s args own index y host bytes maxL none ws rm mc ms n ∧ y.name = "<init>" ∧ (Cond.instanceMethod y).before args s = true) (hp : PreS s H Pc (.ref b :: As))
    (hg : g.method = m) (hn : As.length = n) (hsize : g.locals.size = nL) (hstack : g.stack = As.reverse ++ .ref b :: rest) (hW : 2 * g.monitorRoom + (rest.map fun v => v.category).sum ≤ 8) (hdg : decode cc g.pc = .ok (.invokespecial index, 3)) (hf : cells + mc ≤ R.cells ∧ slots + ms ≤ R.slots) :
    vx_Run p l e R s m args below meth c H locs cells slots mc ms g rest (Qc (Value.ref b :: As).toArray) XC free := by
  obtain ⟨⟨⟨hrc, hrs, hfr, hlo, hws, hcw⟩, hcode, hini, hy, hlen, hl⟩, hx1, hx2⟩ := cw
  have hK : vx_Back l R p e below s args y 3 8 (PreOf R mc ms Pc) (PostOf Qc mc ms free) (vx_Post XC mc ms free) := vx_back (bytes := bytes) (maxL := maxL) (ret := none) hM hp.1 hrc hrs hfr hlo hws hcw (fun a' U hW => word_at hW (Or.inl (by first | rfl | simp [Cond.onTables, Cond.keeps, Cond.steady])) hini)
  obtain ⟨hx, hb, hml, ho, -⟩ := S
  have hPc := hp.2
  intro T hT X
  rcases vx_callIN X hx (bytes := bytes) (maxL := maxL) ho hx1 hl hx2 hcode hy hK hg (hsize.trans hml.symm) (a := b) (argsL := As) (rest := rest) (fun sig h => hn.trans (hlen sig h)) hstack hW (by rw [hb]; exact hdg)
    (fun vm₁ hW₁ => ⟨hf.1, hf.2, hPc (T.setVm vm₁) hT hW₁⟩) with ⟨v, vm₁, ⟨U', l2, c2, s2⟩, hW₁, X', ⟨g', mk, t, L, e1, e2, hq, h1, hL, h2, h3⟩, st⟩ | ⟨q, vm₁, ⟨U', l2, c2, s2⟩, hW₁, X', ⟨g', mk, t, L, E, ce, e1, e2, hq, hce, hcv, hcl, h1, hL, h2, h3⟩, st⟩
  · dsimp only [Pt.U, Pt.locs, Pt.cells, Pt.slots] at X' e1 e2 h1 h2 h3 st
    subst h1; subst h2; subst h3
    exact Or.inl ⟨v, (T.setVm vm₁).calling g' mk (Value.ref b :: As).toArray, t, U', L, hT, X', hL, e1, e2, hq, st⟩
  · dsimp only [Pt.U, Pt.locs, Pt.cells, Pt.slots] at X' e1 e2 h1 h2 h3 st hcl
    subst h1; subst h2; subst h3
    exact Or.inr ⟨q, (T.setVm vm₁).calling g' mk (Value.ref b :: As).toArray, t, U', L, E, ce, hT, X', hL, e1, e2, hq, hce, hcv, vx_cls hW₁ hcl, st⟩
end VXID
/-! ===== END ===== -/
/-! ===== BEGIN a method of a class above, found by the receiver, that may throw (follows va_callVU, va_runU of this kit) ===== -/
section
variable {p : Program} {l : Launch} {e : Env} {R : Room} {s : State} {m : MethodId} {args : Array Value} {below : List Frame} {meth : Method} {c : Code} {H : Heap} {locs : List Loc} {cells slots : Nat}
theorem vx_callVU {T : State} {locs : List Loc} {cells slots : Nat} (X : Stand p l e R s m args below meth c T locs cells slots) (hexec : p.tables.exec = Jvm.exec) {own C owner : String} {index : Nat} {x y : MethodName} {bytes : ByteArray} {maxL : Nat} {ret : Option FieldType}
    (hown : s.vm.findClass own = some m.cls) (hlink : (Cond.methodLink own index x).before args s = true) (hsame : (Cond.sameMethod x.cls owner x.name x.desc).before args s = true)
    (hd0 : va_Decl s ⟨owner, x.name, x.desc⟩) (howner : owner ≠ "java/lang/invoke/MethodHandle" ∧ owner ≠ "java/lang/invoke/VarHandle")
    (hsel : (Cond.selects C x y).before args s = true) (hinst : (Cond.instanceMethod y).before args s = true) (hcode : (Cond.code y bytes maxL ret).before args s = true)
    {W : Nat} {Pre : Pt → Array Value → Prop} {Post : Pt → Array Value → Option Value → Pt → Prop} {PostX : Pt → Array Value → Addr → Pt → Prop} (hK : vx_Back l R p e below s args y 3 W Pre Post PostX)
    {b : Addr} {cellB : Cell} (hcell : T.heap[b]? = some cellB) (hobj : cellB.vm.isStatics = false) (hcls : s.vm.findClass C = some cellB.cls)
    {g : JFrame} (hg : g.method = m) (hsize : g.locals.size = c.maxLocals) {argsL rest : List Value} (hlen : ∀ sig, parseMethodDescriptor x.desc = some sig → argsL.length = sig.parameters.length)
    (hstack : g.stack = argsL.reverse ++ .ref b :: rest) (hW : 2 * g.monitorRoom + (rest.map fun v => v.category).sum ≤ W) (hdg : decode c.code g.pc = .ok (.invokevirtual index, 3))
    (hpre : ∀ vm₁, s.WarmedH vm₁ → Pre ⟨T.setVm vm₁, locs, cells, slots⟩ (Value.ref b :: argsL).toArray) :
    (∃ (v : Option Value) (vm₁ : Vm) (B : Pt), s.WarmedH vm₁ ∧ Stand p l e R s m args below meth c B.U B.locs B.cells B.slots ∧ Post ⟨T.setVm vm₁, locs, cells, slots⟩ (Value.ref b :: argsL).toArray v B ∧
      ∀ target, Steps p.tables e below (B.U.setTop { g with pc := g.pc + 3, stack := v.toList ++ rest }) target → Steps p.tables e below (T.setTop g) target) ∨
    (∃ (q : Addr) (vm₁ : Vm) (B : Pt), s.WarmedH vm₁ ∧ Stand p l e R s m args below meth c B.U B.locs B.cells B.slots ∧ PostX ⟨T.setVm vm₁, locs, cells, slots⟩ (Value.ref b :: argsL).toArray q B ∧
      Steps p.tables e below (T.setTop g) ((B.U.setTop { g with stack := rest }).pushFrame (.throwing q))) := by
  obtain ⟨r0, r, hn, hrm, hstR, hsigR⟩ := hd0
  obtain ⟨cn, ck, r1, hcn, hck, hni, hf, hn1⟩ := Cond.sameMethod_found hsame
  cases hn.symm.trans hn1
  obtain ⟨mk, methM, hnamed, hmethM, -, habM⟩ := Cond.instanceMethod_spec hinst
  obtain ⟨c2, r2, m2, q1, q2, q3, q4, kP, hkP, hkPi⟩ := Cond.selects_spec hsel
  cases hcls.symm.trans q1
  cases hf.symm.trans q2
  cases hnamed.symm.trans q3
  have hselP : selectMethod e.platform s.vm cellB.cls r0 = .method mk := by rw [Launch.admits_selectMethod X.admits]; exact q4
  obtain ⟨vm₁, X₁, hstep₁⟩ := X.invokevirtualUp hexec hown hlink hsame howner hn hrm hstR (a := b) (cell := cellB) hcell
    (fun z h => by rw [h] at hobj; cases hobj) hselP hmethM habM hkP hkPi (g := g) hg (argsL := argsL) (rest := rest) (hlen _ hsigR) hstack hdg
  rcases hK m meth c ⟨T.setVm vm₁, locs, cells, slots⟩ { g with stack := rest } (.invokevirtual index) mk (Value.ref b :: argsL).toArray X₁ hg hsize hdg hW (X₁.named hnamed) (hpre vm₁ X₁.warmed) with ⟨v, B, X', hpost, hsteps⟩ | ⟨q, B, X', hpost, hsteps⟩
  · exact Or.inl ⟨v, vm₁, B, X₁.warmed, X', hpost, fun target h => hstep₁ _ fun acts => by rw [doInvoke_state]; exact hsteps.trans h⟩
  · exact Or.inr ⟨q, vm₁, B, X₁.warmed, X', hpost, hstep₁ _ fun acts => by rw [doInvoke_state]; exact hsteps⟩
theorem vx_runU {x y : MethodName} {bytes cc : ByteArray} {maxL nL mc ms n index : Nat} {ret : Option FieldType} {ws : List Cond} {rm : Room} {Pc : Array Value → State → Prop} {Qc : Array Value → State → Outcome → State → Prop} {XC : String → State → State → Prop} {free : Addr → Prop} {Ts : List Cond} {own C owner : String} {b : Addr} {As rest : List Value} {g : JFrame}
    (S : CallFix p m c cc nL s args Ts own) (hM : vx_Met l y ws rm Pc Qc XC mc ms free) (cw : va_CU R s args own C owner index x y bytes maxL ret ws rm mc ms n) (hp : PreV s H C b Pc As)
    (hg : g.method = m) (hn : As.length = n) (hsize : g.locals.size = nL) (hstack : g.stack = As.reverse ++ .ref b :: rest) (hW : 2 * g.monitorRoom + (rest.map fun v => v.category).sum ≤ 8) (hdg : decode cc g.pc = .ok (.invokevirtual index, 3)) (hf : cells + mc ≤ R.cells ∧ slots + ms ≤ R.slots) :
    vx_Run p l e R s m args below meth c H locs cells slots mc ms g rest (Qc (Value.ref b :: As).toArray) XC free := by
  obtain ⟨hrc, hrs, hfr, hlo, hws, hcw⟩ := cw.back
  have hini := cw.init
  have hK : vx_Back l R p e below s args y 3 8 (PreOf R mc ms Pc) (PostOf Qc mc ms free) (vx_Post XC mc ms free) := vx_back (bytes := bytes) (maxL := maxL) (ret := ret) hM hp.1 hrc hrs hfr hlo hws hcw (fun a' U hW => word_at hW (Or.inl (by first | rfl | simp [Cond.onTables, Cond.keeps, Cond.steady])) hini)
  obtain ⟨hx, hb, hml, ho, -⟩ := S
  obtain ⟨-, ⟨cellB, hcB, hoB, hclB⟩, hPc⟩ := hp
  intro T hT X
  rcases vx_callVU X hx (C := C) (owner := owner) (bytes := bytes) (maxL := maxL) (ret := ret) ho cw.link cw.same cw.decl cw.notMH cw.sel cw.inst cw.code hK (by rw [hT]; exact hcB) hoB hclB hg (hsize.trans hml.symm) (argsL := As) (rest := rest) (fun sig h => hn.trans (cw.len sig h)) hstack hW (by rw [hb]; exact hdg)
    (fun vm₁ hW₁ => ⟨hf.1, hf.2, hPc (T.setVm vm₁) hT hW₁⟩) with ⟨v, vm₁, ⟨U', l2, c2, s2⟩, hW₁, X', ⟨g', mk, t, L, e1, e2, hq, h1, hL, h2, h3⟩, st⟩ | ⟨q, vm₁, ⟨U', l2, c2, s2⟩, hW₁, X', ⟨g', mk, t, L, E, ce, e1, e2, hq, hce, hcv, hcl, h1, hL, h2, h3⟩, st⟩
  · dsimp only [Pt.U, Pt.locs, Pt.cells, Pt.slots] at X' e1 e2 h1 h2 h3 st
    subst h1; subst h2; subst h3
    exact Or.inl ⟨v, (T.setVm vm₁).calling g' mk (Value.ref b :: As).toArray, t, U', L, hT, X', hL, e1, e2, hq, st⟩
  · dsimp only [Pt.U, Pt.locs, Pt.cells, Pt.slots] at X' e1 e2 h1 h2 h3 st hcl
    subst h1; subst h2; subst h3
    exact Or.inr ⟨q, (T.setVm vm₁).calling g' mk (Value.ref b :: As).toArray, t, U', L, E, ce, hT, X', hL, e1, e2, hq, hce, hcv, vx_cls hW₁ hcl, st⟩
end
/-! ===== END ===== -/
/-! ===== BEGIN super.m(..) that may throw (follows va_callSU, va_runSU) ===== -/
section
variable {p : Program} {l : Launch} {e : Env} {R : Room} {s : State} {m : MethodId} {args : Array Value} {below : List Frame} {meth : Method} {c : Code} {H : Heap} {locs : List Loc} {cells slots : Nat}
theorem vx_callSU {T : State} {locs : List Loc} {cells slots : Nat} (X : Stand p l e R s m args below meth c T locs cells slots) (hexec : p.tables.exec = Jvm.exec) {own : String} {index : Nat} {y : MethodName} {bytes : ByteArray} {maxL : Nat} {ret : Option FieldType}
    (hown : s.vm.findClass own = some m.cls) (hlink : (Cond.methodLink own index y).before args s = true) (hsame : (Cond.sameMethod y.cls y.cls y.name y.desc).before args s = true) (hsup : (Cond.superclass own y.cls).before args s = true)
    (hinst : (Cond.instanceMethod y).before args s = true) (hcode : (Cond.code y bytes maxL ret).before args s = true) (hno : y.name ≠ "<init>")
    {W : Nat} {Pre : Pt → Array Value → Prop} {Post : Pt → Array Value → Option Value → Pt → Prop} {PostX : Pt → Array Value → Addr → Pt → Prop} (hK : vx_Back l R p e below s args y 3 W Pre Post PostX)
    {b : Addr} {cellB : Cell} {kB : Class} (hcell : T.heap[b]? = some cellB) (hobj : cellB.vm.isStatics = false) (hkB : s.vm.classes[cellB.cls]? = some kB)
    {g : JFrame} (hg : g.method = m) (hsize : g.locals.size = c.maxLocals) {argsL rest : List Value} (hlen : ∀ sig, parseMethodDescriptor y.desc = some sig → argsL.length = sig.parameters.length)
    (hstack : g.stack = argsL.reverse ++ .ref b :: rest) (hW : 2 * g.monitorRoom + (rest.map fun v => v.category).sum ≤ W) (hdg : decode c.code g.pc = .ok (.invokespecial index, 3))
    (hpre : ∀ vm₁, s.WarmedH vm₁ → Pre ⟨T.setVm vm₁, locs, cells, slots⟩ (Value.ref b :: argsL).toArray) :
    (∃ (v : Option Value) (vm₁ : Vm) (B : Pt), s.WarmedH vm₁ ∧ Stand p l e R s m args below meth c B.U B.locs B.cells B.slots ∧ Post ⟨T.setVm vm₁, locs, cells, slots⟩ (Value.ref b :: argsL).toArray v B ∧
      ∀ target, Steps p.tables e below (B.U.setTop { g with pc := g.pc + 3, stack := v.toList ++ rest }) target → Steps p.tables e below (T.setTop g) target) ∨
    (∃ (q : Addr) (vm₁ : Vm) (B : Pt), s.WarmedH vm₁ ∧ Stand p l e R s m args below meth c B.U B.locs B.cells B.slots ∧ PostX ⟨T.setVm vm₁, locs, cells, slots⟩ (Value.ref b :: argsL).toArray q B ∧
      Steps p.tables e below (T.setTop g) ((B.U.setTop { g with stack := rest }).pushFrame (.throwing q))) := by
  obtain ⟨mk, methM, hnamed, hmethM, hstM, habM⟩ := Cond.instanceMethod_spec hinst
  obtain ⟨methM', cM, hmethM', -, -, -, -, -, -, hsigM⟩ := Cond.code_spec hnamed hcode
  cases hmethM.symm.trans hmethM'
  obtain ⟨ps, dk, kp, hps, hdk, hkp, hsuper, -, -, hnid⟩ := Cond.superclass_spec hown hsup
  have hn : s.methodNamed? ⟨y.cls, y.name, y.desc⟩ = some mk := hnamed
  have hpm : ps = mk.cls := Option.some.inj (hps.symm.trans (findClass_of_methodNamed hnamed))
  have hsub : s.vm.isSubclass ps mk.cls = true := by rw [hpm]; simp [Vm.isSubclass, Vm.isSubclassAux]
  obtain ⟨vm₁, X₁, hstep₁⟩ := X.invokespecialUp hexec hown hlink hsame hn hmethM hstM habM hno hdk hnid hps hsuper hsub (a := b) (cell := cellB) hcell
    (fun z h => by rw [h] at hobj; cases hobj) hkB (g := g) hg (argsL := argsL) (rest := rest) (hlen _ hsigM) hstack hdg
  rcases hK m meth c ⟨T.setVm vm₁, locs, cells, slots⟩ { g with stack := rest } (.invokespecial index) mk (Value.ref b :: argsL).toArray X₁ hg hsize hdg hW (X₁.named hnamed) (hpre vm₁ X₁.warmed) with ⟨v, B, X', hpost, hsteps⟩ | ⟨q, B, X', hpost, hsteps⟩
  · exact Or.inl ⟨v, vm₁, B, X₁.warmed, X', hpost, fun target h => hstep₁ _ (by rw [doInvoke_state]; exact hsteps.trans h)⟩
  · exact Or.inr ⟨q, vm₁, B, X₁.warmed, X', hpost, hstep₁ _ (by rw [doInvoke_state]; exact hsteps)⟩
theorem vx_runSU {y : MethodName} {bytes cc : ByteArray} {maxL nL mc ms n index : Nat} {ret : Option FieldType} {ws : List Cond} {rm : Room} {Pc : Array Value → State → Prop} {Qc : Array Value → State → Outcome → State → Prop} {XC : String → State → State → Prop} {free : Addr → Prop} {Ts : List Cond} {own C : String} {cC : ClassId} {b : Addr} {As rest : List Value} {g : JFrame}
    (hat : ClassAt s C cC) (S : CallFix p m c cc nL s args Ts own) (hM : vx_Met l y ws rm Pc Qc XC mc ms free) (cw : va_CS R s args own index y bytes maxL ret ws rm mc ms n) (hp : PreV s H C b Pc As)
    (hg : g.method = m) (hn : As.length = n) (hsize : g.locals.size = nL) (hstack : g.stack = As.reverse ++ .ref b :: rest) (hW : 2 * g.monitorRoom + (rest.map fun v => v.category).sum ≤ 8) (hdg : decode cc g.pc = .ok (.invokespecial index, 3)) (hf : cells + mc ≤ R.cells ∧ slots + ms ≤ R.slots) :
    vx_Run p l e R s m args below meth c H locs cells slots mc ms g rest (Qc (Value.ref b :: As).toArray) XC free := by
  obtain ⟨⟨hrc, hrs, hfr, hlo, hws, hcw⟩, hl1, hl2, hl3, hl4, hini, hcode, hno, hlen⟩ := cw
  have hK : vx_Back l R p e below s args y 3 8 (PreOf R mc ms Pc) (PostOf Qc mc ms free) (vx_Post XC mc ms free) := vx_back (bytes := bytes) (maxL := maxL) (ret := ret) hM hp.1 hrc hrs hfr hlo hws hcw (fun a' U hW => word_at hW (Or.inl (by first | rfl | simp [Cond.onTables, Cond.keeps, Cond.steady])) hini)
  obtain ⟨hx, hb, hml, ho, -⟩ := S
  obtain ⟨-, ⟨cellB, hcB, hoB, hclB⟩, hPc⟩ := hp
  obtain ⟨hfc, kB, hkB, -⟩ := hat
  cases hfc.symm.trans hclB
  intro T hT X
  rcases vx_callSU X hx (bytes := bytes) (maxL := maxL) (ret := ret) ho hl1 hl2 hl3 hl4 hcode hno hK (by rw [hT]; exact hcB) hoB hkB hg (hsize.trans hml.symm) (argsL := As) (rest := rest) (fun sig h => hn.trans (hlen sig h)) hstack hW (by rw [hb]; exact hdg)
    (fun vm₁ hW₁ => ⟨hf.1, hf.2, hPc (T.setVm vm₁) hT hW₁⟩) with ⟨v, vm₁, ⟨U', l2, c2, s2⟩, hW₁, X', ⟨g', mk, t, L, e1, e2, hq, h1, hL, h2, h3⟩, st⟩ | ⟨q, vm₁, ⟨U', l2, c2, s2⟩, hW₁, X', ⟨g', mk, t, L, E, ce, e1, e2, hq, hce, hcv, hcl, h1, hL, h2, h3⟩, st⟩
  · dsimp only [Pt.U, Pt.locs, Pt.cells, Pt.slots] at X' e1 e2 h1 h2 h3 st
    subst h1; subst h2; subst h3
    exact Or.inl ⟨v, (T.setVm vm₁).calling g' mk (Value.ref b :: As).toArray, t, U', L, hT, X', hL, e1, e2, hq, st⟩
  · dsimp only [Pt.U, Pt.locs, Pt.cells, Pt.slots] at X' e1 e2 h1 h2 h3 st hcl
    subst h1; subst h2; subst h3
    exact Or.inr ⟨q, (T.setVm vm₁).calling g' mk (Value.ref b :: As).toArray, t, U', L, E, ce, hT, X', hL, e1, e2, hq, hce, hcv, vx_cls hW₁ hcl, st⟩
end
/-! ===== END ===== -/
end
section
def RX0 : String := "AccentHouse$Accent"
def TX0 : u_T := fun k => match k with
  | _ => ("AccentHouse$Accent", "positions", "[I", true)
def tyX0 : Nat → FieldType := fun k => match k with
  | _ => .array .int
abbrev wsX00 : List Cond := u_ws RX0 TX0 1
theorem nmX0 : ∀ a, a < 1 → ∀ b, b < 1 → a ≠ b → (TX0 a).2.1 ≠ (TX0 b).2.1 := by decide +kernel
theorem tyX0_ok : ∀ k, k < 1 → parseFieldDescriptor (TX0 k).2.2.1 = some (tyX0 k) := by decide +kernel
abbrev cX0_init : ByteArray := prog_2_method_1_code
def yX0_init : MethodName := ⟨RX0, "<init>", "()V"⟩
abbrev cX0_copyFrom : ByteArray := prog_2_method_2_code
def yX0_copyFrom : MethodName := ⟨RX0, "copyFrom", "(LAccentHouse$Accent;)V"⟩
abbrev cX0_setDigits : ByteArray := prog_2_method_3_code
def yX0_setDigits : MethodName := ⟨RX0, "setDigits", "(I)V"⟩
abbrev cX0_distanceTo : ByteArray := prog_2_method_4_code
def yX0_distanceTo : MethodName := ⟨RX0, "distanceTo", "(LAccentHouse$Accent;)I"⟩
abbrev cX0_rhymesWith : ByteArray := prog_2_method_5_code
def yX0_rhymesWith : MethodName := ⟨RX0, "rhymesWith", "(LAccentHouse$Accent;)Z"⟩
abbrev cX0_farthestVowel : ByteArray := prog_2_method_6_code
def yX0_farthestVowel : MethodName := ⟨RX0, "farthestVowel", "(LAccentHouse$Accent;)I"⟩
abbrev cX0_approach : ByteArray := prog_2_method_7_code
def yX0_approach : MethodName := ⟨RX0, "approach", "(LAccentHouse$Accent;)Z"⟩
def RX1 : String := "AccentHouse$History"
def TX1 : u_T := fun k => match k with
  | 0 => ("AccentHouse$History", "past", "[LAccentHouse$House;", true)
  | 1 => ("AccentHouse$History", "oldest", "I", false)
  | _ => ("AccentHouse$History", "kept", "I", false)
def tyX1 : Nat → FieldType := fun k => match k with
  | 0 => .array (.object "AccentHouse$House")
  | 1 => .int
  | _ => .int
abbrev wsX10 : List Cond := u_ws RX1 TX1 3
theorem nmX1 : ∀ a, a < 3 → ∀ b, b < 3 → a ≠ b → (TX1 a).2.1 ≠ (TX1 b).2.1 := by decide +kernel
theorem tyX1_ok : ∀ k, k < 3 → parseFieldDescriptor (TX1 k).2.2.1 = some (tyX1 k) := by decide +kernel
abbrev cX1_init : ByteArray := prog_3_method_1_code
def yX1_init : MethodName := ⟨RX1, "<init>", "()V"⟩
abbrev cX1_clear : ByteArray := prog_3_method_2_code
def yX1_clear : MethodName := ⟨RX1, "clear", "()V"⟩
abbrev cX1_remember : ByteArray := prog_3_method_3_code
def yX1_remember : MethodName := ⟨RX1, "remember", "(LAccentHouse$House;)V"⟩
abbrev cX1_takeBack : ByteArray := prog_3_method_4_code
def yX1_takeBack : MethodName := ⟨RX1, "takeBack", "(LAccentHouse$House;)V"⟩
def RX2 : String := "AccentHouse$House"
def TX2 : u_T := fun k => match k with
  | 0 => ("AccentHouse$House", "day", "I", false)
  | 1 => ("AccentHouse$House", "baseRent", "I", false)
  | 2 => ("AccentHouse$House", "tolerance", "I", false)
  | 3 => ("AccentHouse$House", "evicted", "I", false)
  | 4 => ("AccentHouse$House", "paid", "I", false)
  | 5 => ("AccentHouse$House", "charged", "I", false)
  | 6 => ("AccentHouse$House", "settledAmount", "I", false)
  | 7 => ("AccentHouse$House", "count", "I", false)
  | 8 => ("AccentHouse$House", "landlady", "LAccentHouse$Accent;", true)
  | 9 => ("AccentHouse$House", "lodgers", "[LAccentHouse$Lodger;", true)
  | _ => ("AccentHouse$House", "average", "LAccentHouse$Accent;", true)
def tyX2 : Nat → FieldType := fun k => match k with
  | 0 => .int
  | 1 => .int
  | 2 => .int
  | 3 => .int
  | 4 => .int
  | 5 => .int
  | 6 => .int
  | 7 => .int
  | 8 => .object "AccentHouse$Accent"
  | 9 => .array (.object "AccentHouse$Lodger")
  | _ => .object "AccentHouse$Accent"
abbrev wsX20 : List Cond := u_ws RX2 TX2 11
theorem nmX2 : ∀ a, a < 11 → ∀ b, b < 11 → a ≠ b → (TX2 a).2.1 ≠ (TX2 b).2.1 := by decide +kernel
theorem tyX2_ok : ∀ k, k < 11 → parseFieldDescriptor (TX2 k).2.2.1 = some (tyX2 k) := by decide +kernel
abbrev cX2_init : ByteArray := prog_4_method_1_code
def yX2_init : MethodName := ⟨RX2, "<init>", "()V"⟩
abbrev cX2_open : ByteArray := prog_4_method_2_code
def yX2_open : MethodName := ⟨RX2, "open", "(II)V"⟩
abbrev cX2_copyFrom : ByteArray := prog_4_method_3_code
def yX2_copyFrom : MethodName := ⟨RX2, "copyFrom", "(LAccentHouse$House;)V"⟩
abbrev cX2_dailyRent : ByteArray := prog_4_method_4_code
def yX2_dailyRent : MethodName := ⟨RX2, "dailyRent", "(I)I"⟩
abbrev cX2_crowdOn : ByteArray := prog_4_method_5_code
def yX2_crowdOn : MethodName := ⟨RX2, "crowdOn", "(I)I"⟩
abbrev cX2_isFullFor : ByteArray := prog_4_method_6_code
def yX2_isFullFor : MethodName := ⟨RX2, "isFullFor", "(ILAccentHouse$Lodger;)Z"⟩
abbrev cX2_numberAt : ByteArray := prog_4_method_7_code
def yX2_numberAt : MethodName := ⟨RX2, "numberAt", "(II)I"⟩
abbrev cX2_numberOf : ByteArray := prog_4_method_8_code
def yX2_numberOf : MethodName := ⟨RX2, "numberOf", "([BII)I"⟩
abbrev cX2_houses : ByteArray := prog_4_method_9_code
def yX2_houses : MethodName := ⟨RX2, "houses", "(LAccentHouse$Lodger;)Z"⟩
abbrev cX2_unusedLetter : ByteArray := prog_4_method_10_code
def yX2_unusedLetter : MethodName := ⟨RX2, "unusedLetter", "()Ljava/lang/String;"⟩
abbrev cX2_hasLetterName : ByteArray := prog_4_method_11_code
def yX2_hasLetterName : MethodName := ⟨RX2, "hasLetterName", "(C)Z"⟩
abbrev cX2_averagePosition : ByteArray := prog_4_method_12_code
def yX2_averagePosition : MethodName := ⟨RX2, "averagePosition", "(II)I"⟩
abbrev cX2_computeAverage : ByteArray := prog_4_method_13_code
def yX2_computeAverage : MethodName := ⟨RX2, "computeAverage", "(I)V"⟩
abbrev cX2_mustLeave : ByteArray := prog_4_method_14_code
def yX2_mustLeave : MethodName := ⟨RX2, "mustLeave", "(LAccentHouse$Lodger;)Z"⟩
abbrev cX2_receive : ByteArray := prog_4_method_15_code
def yX2_receive : MethodName := ⟨RX2, "receive", "(Ljava/lang/String;III)I"⟩
abbrev cX2_dismiss : ByteArray := prog_4_method_16_code
def yX2_dismiss : MethodName := ⟨RX2, "dismiss", "(I)V"⟩
abbrev cX2_takePayment : ByteArray := prog_4_method_17_code
def yX2_takePayment : MethodName := ⟨RX2, "takePayment", "(LAccentHouse$Lodger;I)V"⟩
abbrev cX2_passDay : ByteArray := prog_4_method_18_code
def yX2_passDay : MethodName := ⟨RX2, "passDay", "()V"⟩
abbrev cX2_collectRent : ByteArray := prog_4_method_19_code
def yX2_collectRent : MethodName := ⟨RX2, "collectRent", "()V"⟩
abbrev cX2_giveLessons : ByteArray := prog_4_method_20_code
def yX2_giveLessons : MethodName := ⟨RX2, "giveLessons", "()V"⟩
abbrev cX2_serveDinner : ByteArray := prog_4_method_21_code
def yX2_serveDinner : MethodName := ⟨RX2, "serveDinner", "(I)V"⟩
abbrev cX2_inspect : ByteArray := prog_4_method_22_code
def yX2_inspect : MethodName := ⟨RX2, "inspect", "()V"⟩
def RX3 : String := "AccentHouse$Lodger"
def TX3 : u_T := fun k => match k with
  | 0 => ("AccentHouse$Lodger", "name", "Ljava/lang/String;", false)
  | 1 => ("AccentHouse$Lodger", "floor", "I", false)
  | 2 => ("AccentHouse$Lodger", "balance", "I", false)
  | 3 => ("AccentHouse$Lodger", "lessons", "I", false)
  | 4 => ("AccentHouse$Lodger", "slips", "I", false)
  | 5 => ("AccentHouse$Lodger", "arrivalDay", "I", false)
  | _ => ("AccentHouse$Lodger", "accent", "LAccentHouse$Accent;", true)
def tyX3 : Nat → FieldType := fun k => match k with
  | 0 => .object "java/lang/String"
  | 1 => .int
  | 2 => .int
  | 3 => .int
  | 4 => .int
  | 5 => .int
  | _ => .object "AccentHouse$Accent"
abbrev wsX30 : List Cond := u_ws RX3 TX3 7
theorem nmX3 : ∀ a, a < 7 → ∀ b, b < 7 → a ≠ b → (TX3 a).2.1 ≠ (TX3 b).2.1 := by decide +kernel
theorem tyX3_ok : ∀ k, k < 7 → parseFieldDescriptor (TX3 k).2.2.1 = some (tyX3 k) := by decide +kernel
abbrev cX3_init : ByteArray := prog_5_method_1_code
def yX3_init : MethodName := ⟨RX3, "<init>", "()V"⟩
abbrev cX3_copyFrom : ByteArray := prog_5_method_2_code
def yX3_copyFrom : MethodName := ⟨RX3, "copyFrom", "(LAccentHouse$Lodger;)V"⟩
abbrev cX3_isNamed : ByteArray := prog_5_method_3_code
def yX3_isNamed : MethodName := ⟨RX3, "isNamed", "([BII)Z"⟩
def RX4 : String := "AccentHouse$Parser"
def TX4 : u_T := fun k => match k with
  | 0 => ("AccentHouse$Parser", "text", "[B", true)
  | 1 => ("AccentHouse$Parser", "tokens", "LAccentHouse$Tokens;", true)
  | 2 => ("AccentHouse$Parser", "house", "LAccentHouse$House;", true)
  | 3 => ("AccentHouse$Parser", "errorKind", "I", false)
  | _ => ("AccentHouse$Parser", "errorOffset", "I", false)
def tyX4 : Nat → FieldType := fun k => match k with
  | 0 => .array .byte
  | 1 => .object "AccentHouse$Tokens"
  | 2 => .object "AccentHouse$House"
  | 3 => .int
  | _ => .int
abbrev wsX40 : List Cond := u_ws RX4 TX4 5
theorem nmX4 : ∀ a, a < 5 → ∀ b, b < 5 → a ≠ b → (TX4 a).2.1 ≠ (TX4 b).2.1 := by decide +kernel
theorem tyX4_ok : ∀ k, k < 5 → parseFieldDescriptor (TX4 k).2.2.1 = some (tyX4 k) := by decide +kernel
abbrev cX4_init : ByteArray := prog_6_method_1_code
def yX4_init : MethodName := ⟨RX4, "<init>", "([B)V"⟩
abbrev cX4_read : ByteArray := prog_6_method_2_code
def yX4_read : MethodName := ⟨RX4, "read", "(I)V"⟩
abbrev cX4_readHeader : ByteArray := prog_6_method_3_code
def yX4_readHeader : MethodName := ⟨RX4, "readHeader", "()V"⟩
abbrev cX4_readLodger : ByteArray := prog_6_method_4_code
def yX4_readLodger : MethodName := ⟨RX4, "readLodger", "()V"⟩
abbrev cX4_readPay : ByteArray := prog_6_method_5_code
def yX4_readPay : MethodName := ⟨RX4, "readPay", "()V"⟩
abbrev cX4_readMove : ByteArray := prog_6_method_6_code
def yX4_readMove : MethodName := ⟨RX4, "readMove", "()V"⟩
abbrev cX4_readDays : ByteArray := prog_6_method_7_code
def yX4_readDays : MethodName := ⟨RX4, "readDays", "()V"⟩
abbrev cX4_expectWord : ByteArray := prog_6_method_8_code
def yX4_expectWord : MethodName := ⟨RX4, "expectWord", "(Ljava/lang/String;)V"⟩
abbrev cX4_isAtName : ByteArray := prog_6_method_9_code
def yX4_isAtName : MethodName := ⟨RX4, "isAtName", "()Z"⟩
abbrev cX4_readKnownName : ByteArray := prog_6_method_10_code
def yX4_readKnownName : MethodName := ⟨RX4, "readKnownName", "()LAccentHouse$Lodger;"⟩
abbrev cX4_readNumber : ByteArray := prog_6_method_11_code
def yX4_readNumber : MethodName := ⟨RX4, "readNumber", "(II)I"⟩
abbrev cX4_readFloor : ByteArray := prog_6_method_12_code
def yX4_readFloor : MethodName := ⟨RX4, "readFloor", "(LAccentHouse$Lodger;)I"⟩
abbrev cX4_readAccent : ByteArray := prog_6_method_13_code
def yX4_readAccent : MethodName := ⟨RX4, "readAccent", "()I"⟩
abbrev cX4_fail : ByteArray := prog_6_method_14_code
def yX4_fail : MethodName := ⟨RX4, "fail", "(II)V"⟩
def RX5 : String := "AccentHouse$Token"
def TX5 : u_T := fun k => match k with
  | _ => ("", "", "", false)
def tyX5 : Nat → FieldType := fun k => match k with
  | _ => .int
abbrev wsX50 : List Cond := u_ws RX5 TX5 0
theorem nmX5 : ∀ a, a < 0 → ∀ b, b < 0 → a ≠ b → (TX5 a).2.1 ≠ (TX5 b).2.1 := by decide +kernel
theorem tyX5_ok : ∀ k, k < 0 → parseFieldDescriptor (TX5 k).2.2.1 = some (tyX5 k) := by decide +kernel
def RX6 : String := "AccentHouse$Tokens"
def TX6 : u_T := fun k => match k with
  | 0 => ("AccentHouse$Tokens", "text", "[B", true)
  | 1 => ("AccentHouse$Tokens", "letters", "Ljava/lang/StringBuilder;", true)
  | 2 => ("AccentHouse$Tokens", "length", "I", false)
  | 3 => ("AccentHouse$Tokens", "kind", "LAccentHouse$Token;", false)
  | 4 => ("AccentHouse$Tokens", "start", "I", false)
  | _ => ("AccentHouse$Tokens", "end", "I", false)
def tyX6 : Nat → FieldType := fun k => match k with
  | 0 => .array .byte
  | 1 => .object "java/lang/StringBuilder"
  | 2 => .int
  | 3 => .object "AccentHouse$Token"
  | 4 => .int
  | _ => .int
abbrev wsX60 : List Cond := u_ws RX6 TX6 6
theorem nmX6 : ∀ a, a < 6 → ∀ b, b < 6 → a ≠ b → (TX6 a).2.1 ≠ (TX6 b).2.1 := by decide +kernel
theorem tyX6_ok : ∀ k, k < 6 → parseFieldDescriptor (TX6 k).2.2.1 = some (tyX6 k) := by decide +kernel
abbrev cX6_init : ByteArray := prog_8_method_1_code
def yX6_init : MethodName := ⟨RX6, "<init>", "([B)V"⟩
abbrev cX6_restart : ByteArray := prog_8_method_2_code
def yX6_restart : MethodName := ⟨RX6, "restart", "(I)V"⟩
abbrev cX6_step : ByteArray := prog_8_method_3_code
def yX6_step : MethodName := ⟨RX6, "step", "()V"⟩
abbrev cX6_isLetter : ByteArray := prog_8_method_4_code
def yX6_isLetter : MethodName := ⟨RX6, "isLetter", "(B)Z"⟩
abbrev cX6_isDigit : ByteArray := prog_8_method_5_code
def yX6_isDigit : MethodName := ⟨RX6, "isDigit", "(B)Z"⟩
abbrev cX6_size : ByteArray := prog_8_method_6_code
def yX6_size : MethodName := ⟨RX6, "size", "()I"⟩
abbrev cX6_isWord : ByteArray := prog_8_method_7_code
def yX6_isWord : MethodName := ⟨RX6, "isWord", "(Ljava/lang/String;)Z"⟩
abbrev cX6_value : ByteArray := prog_8_method_8_code
def yX6_value : MethodName := ⟨RX6, "value", "()I"⟩
abbrev cX6_word : ByteArray := prog_8_method_9_code
def yX6_word : MethodName := ⟨RX6, "word", "()Ljava/lang/String;"⟩
def RX7 : String := "AccentHouse"
def TX7 : u_T := fun k => match k with
  | 0 => ("AccentHouse", "input", "[B", true)
  | 1 => ("AccentHouse", "inputLength", "I", false)
  | 2 => ("AccentHouse", "output", "Ljava/lang/StringBuilder;", true)
  | 3 => ("AccentHouse", "parser", "LAccentHouse$Parser;", true)
  | 4 => ("AccentHouse", "reportedKind", "I", false)
  | 5 => ("AccentHouse", "reportedOffset", "I", false)
  | 6 => ("AccentHouse", "house", "LAccentHouse$House;", true)
  | 7 => ("AccentHouse", "trial", "LAccentHouse$House;", true)
  | 8 => ("AccentHouse", "history", "LAccentHouse$History;", true)
  | 9 => ("AccentHouse", "saved", "[LAccentHouse$House;", true)
  | _ => ("AccentHouse", "isSaved", "[Z", true)
def tyX7 : Nat → FieldType := fun k => match k with
  | 0 => .array .byte
  | 1 => .int
  | 2 => .object "java/lang/StringBuilder"
  | 3 => .object "AccentHouse$Parser"
  | 4 => .int
  | 5 => .int
  | 6 => .object "AccentHouse$House"
  | 7 => .object "AccentHouse$House"
  | 8 => .object "AccentHouse$History"
  | 9 => .array (.object "AccentHouse$House")
  | _ => .array .boolean
abbrev wsX70 : List Cond := u_ws RX7 TX7 11
theorem nmX7 : ∀ a, a < 11 → ∀ b, b < 11 → a ≠ b → (TX7 a).2.1 ≠ (TX7 b).2.1 := by decide +kernel
theorem tyX7_ok : ∀ k, k < 11 → parseFieldDescriptor (TX7 k).2.2.1 = some (tyX7 k) := by decide +kernel
abbrev cX7_init : ByteArray := prog_1_method_1_code
def yX7_init : MethodName := ⟨RX7, "<init>", "()V"⟩
abbrev cX7_append : ByteArray := prog_1_method_2_code
def yX7_append : MethodName := ⟨RX7, "append", "(IIIII)I"⟩
abbrev cX7_appendWord : ByteArray := prog_1_method_3_code
def yX7_appendWord : MethodName := ⟨RX7, "appendWord", "(I)V"⟩
abbrev cX7_load : ByteArray := prog_1_method_4_code
def yX7_load : MethodName := ⟨RX7, "load", "(I)I"⟩
abbrev cX7_errorKind : ByteArray := prog_1_method_5_code
def yX7_errorKind : MethodName := ⟨RX7, "errorKind", "()I"⟩
abbrev cX7_errorOffset : ByteArray := prog_1_method_6_code
def yX7_errorOffset : MethodName := ⟨RX7, "errorOffset", "()I"⟩
abbrev cX7_day : ByteArray := prog_1_method_7_code
def yX7_day : MethodName := ⟨RX7, "day", "()I"⟩
abbrev cX7_lodgerCount : ByteArray := prog_1_method_8_code
def yX7_lodgerCount : MethodName := ⟨RX7, "lodgerCount", "()I"⟩
abbrev cX7_baseRent : ByteArray := prog_1_method_9_code
def yX7_baseRent : MethodName := ⟨RX7, "baseRent", "()I"⟩
abbrev cX7_tolerance : ByteArray := prog_1_method_10_code
def yX7_tolerance : MethodName := ⟨RX7, "tolerance", "()I"⟩
abbrev cX7_rentOf : ByteArray := prog_1_method_11_code
def yX7_rentOf : MethodName := ⟨RX7, "rentOf", "(I)I"⟩
abbrev cX7_landladyVowel : ByteArray := prog_1_method_12_code
def yX7_landladyVowel : MethodName := ⟨RX7, "landladyVowel", "(I)I"⟩
abbrev cX7_daysToInspection : ByteArray := prog_1_method_13_code
def yX7_daysToInspection : MethodName := ⟨RX7, "daysToInspection", "()I"⟩
abbrev cX7_evictions : ByteArray := prog_1_method_14_code
def yX7_evictions : MethodName := ⟨RX7, "evictions", "()I"⟩
abbrev cX7_undoCount : ByteArray := prog_1_method_15_code
def yX7_undoCount : MethodName := ⟨RX7, "undoCount", "()I"⟩
abbrev cX7_floorOf : ByteArray := prog_1_method_16_code
def yX7_floorOf : MethodName := ⟨RX7, "floorOf", "(I)I"⟩
abbrev cX7_balanceOf : ByteArray := prog_1_method_17_code
def yX7_balanceOf : MethodName := ⟨RX7, "balanceOf", "(I)I"⟩
abbrev cX7_vowelOf : ByteArray := prog_1_method_18_code
def yX7_vowelOf : MethodName := ⟨RX7, "vowelOf", "(II)I"⟩
abbrev cX7_lessonsOf : ByteArray := prog_1_method_19_code
def yX7_lessonsOf : MethodName := ⟨RX7, "lessonsOf", "(I)I"⟩
abbrev cX7_slipsOf : ByteArray := prog_1_method_20_code
def yX7_slipsOf : MethodName := ⟨RX7, "slipsOf", "(I)I"⟩
abbrev cX7_daysStayed : ByteArray := prog_1_method_21_code
def yX7_daysStayed : MethodName := ⟨RX7, "daysStayed", "(I)I"⟩
abbrev cX7_nameLength : ByteArray := prog_1_method_22_code
def yX7_nameLength : MethodName := ⟨RX7, "nameLength", "(I)I"⟩
abbrev cX7_nameLetter : ByteArray := prog_1_method_23_code
def yX7_nameLetter : MethodName := ⟨RX7, "nameLetter", "(II)C"⟩
abbrev cX7_findByName : ByteArray := prog_1_method_24_code
def yX7_findByName : MethodName := ⟨RX7, "findByName", "()I"⟩
abbrev cX7_lodgersOn : ByteArray := prog_1_method_25_code
def yX7_lodgersOn : MethodName := ⟨RX7, "lodgersOn", "(I)I"⟩
abbrev cX7_lodgerOn : ByteArray := prog_1_method_26_code
def yX7_lodgerOn : MethodName := ⟨RX7, "lodgerOn", "(II)I"⟩
abbrev cX7_averageVowel : ByteArray := prog_1_method_27_code
def yX7_averageVowel : MethodName := ⟨RX7, "averageVowel", "(II)I"⟩
abbrev cX7_distanceToLandlady : ByteArray := prog_1_method_28_code
def yX7_distanceToLandlady : MethodName := ⟨RX7, "distanceToLandlady", "(I)I"⟩
abbrev cX7_distance : ByteArray := prog_1_method_29_code
def yX7_distance : MethodName := ⟨RX7, "distance", "(II)I"⟩
abbrev cX7_rhymes : ByteArray := prog_1_method_30_code
def yX7_rhymes : MethodName := ⟨RX7, "rhymes", "(II)Z"⟩
abbrev cX7_rhymesWithLandlady : ByteArray := prog_1_method_31_code
def yX7_rhymesWithLandlady : MethodName := ⟨RX7, "rhymesWithLandlady", "(I)Z"⟩
abbrev cX7_rhymeCount : ByteArray := prog_1_method_32_code
def yX7_rhymeCount : MethodName := ⟨RX7, "rhymeCount", "(I)I"⟩
abbrev cX7_closestTo : ByteArray := prog_1_method_33_code
def yX7_closestTo : MethodName := ⟨RX7, "closestTo", "(I)I"⟩
abbrev cX7_lessonVowel : ByteArray := prog_1_method_34_code
def yX7_lessonVowel : MethodName := ⟨RX7, "lessonVowel", "(I)I"⟩
abbrev cX7_slipVowel : ByteArray := prog_1_method_35_code
def yX7_slipVowel : MethodName := ⟨RX7, "slipVowel", "(I)I"⟩
abbrev cX7_mustGo : ByteArray := prog_1_method_36_code
def yX7_mustGo : MethodName := ⟨RX7, "mustGo", "(I)Z"⟩
abbrev cX7_meanDistance : ByteArray := prog_1_method_37_code
def yX7_meanDistance : MethodName := ⟨RX7, "meanDistance", "()D"⟩
abbrev cX7_rhymingShare : ByteArray := prog_1_method_38_code
def yX7_rhymingShare : MethodName := ⟨RX7, "rhymingShare", "()F"⟩
abbrev cX7_balanceAfter : ByteArray := prog_1_method_39_code
def yX7_balanceAfter : MethodName := ⟨RX7, "balanceAfter", "(II)I"⟩
abbrev cX7_distanceAfter : ByteArray := prog_1_method_40_code
def yX7_distanceAfter : MethodName := ⟨RX7, "distanceAfter", "(II)I"⟩
abbrev cX7_daysToEviction : ByteArray := prog_1_method_41_code
def yX7_daysToEviction : MethodName := ⟨RX7, "daysToEviction", "(I)I"⟩
abbrev cX7_paymentToStay : ByteArray := prog_1_method_42_code
def yX7_paymentToStay : MethodName := ⟨RX7, "paymentToStay", "(I)I"⟩
abbrev cX7_staysWith : ByteArray := prog_1_method_43_code
def yX7_staysWith : MethodName := ⟨RX7, "staysWith", "(II)Z"⟩
abbrev cX7_startTrial : ByteArray := prog_1_method_44_code
def yX7_startTrial : MethodName := ⟨RX7, "startTrial", "(I)LAccentHouse$Lodger;"⟩
abbrev cX7_runTrial : ByteArray := prog_1_method_45_code
def yX7_runTrial : MethodName := ⟨RX7, "runTrial", "(LAccentHouse$Lodger;I)I"⟩
abbrev cX7_totalPaid : ByteArray := prog_1_method_46_code
def yX7_totalPaid : MethodName := ⟨RX7, "totalPaid", "()I"⟩
abbrev cX7_totalCharged : ByteArray := prog_1_method_47_code
def yX7_totalCharged : MethodName := ⟨RX7, "totalCharged", "()I"⟩
abbrev cX7_settled : ByteArray := prog_1_method_48_code
def yX7_settled : MethodName := ⟨RX7, "settled", "()I"⟩
abbrev cX7_ledgerDifference : ByteArray := prog_1_method_49_code
def yX7_ledgerDifference : MethodName := ⟨RX7, "ledgerDifference", "()I"⟩
abbrev cX7_advance : ByteArray := prog_1_method_50_code
def yX7_advance : MethodName := ⟨RX7, "advance", "(I)I"⟩
abbrev cX7_moveIn : ByteArray := prog_1_method_51_code
def yX7_moveIn : MethodName := ⟨RX7, "moveIn", "(III)I"⟩
abbrev cX7_moveOut : ByteArray := prog_1_method_52_code
def yX7_moveOut : MethodName := ⟨RX7, "moveOut", "(I)I"⟩
abbrev cX7_moveTo : ByteArray := prog_1_method_53_code
def yX7_moveTo : MethodName := ⟨RX7, "moveTo", "(II)I"⟩
abbrev cX7_pay : ByteArray := prog_1_method_54_code
def yX7_pay : MethodName := ⟨RX7, "pay", "(II)I"⟩
abbrev cX7_setLandladyVowel : ByteArray := prog_1_method_55_code
def yX7_setLandladyVowel : MethodName := ⟨RX7, "setLandladyVowel", "(II)I"⟩
abbrev cX7_setTolerance : ByteArray := prog_1_method_56_code
def yX7_setTolerance : MethodName := ⟨RX7, "setTolerance", "(I)I"⟩
abbrev cX7_setBaseRent : ByteArray := prog_1_method_57_code
def yX7_setBaseRent : MethodName := ⟨RX7, "setBaseRent", "(I)I"⟩
abbrev cX7_restore : ByteArray := prog_1_method_58_code
def yX7_restore : MethodName := ⟨RX7, "restore", "(I)I"⟩
abbrev cX7_undo : ByteArray := prog_1_method_59_code
def yX7_undo : MethodName := ⟨RX7, "undo", "()I"⟩
abbrev cX7_save : ByteArray := prog_1_method_60_code
def yX7_save : MethodName := ⟨RX7, "save", "(I)I"⟩
abbrev cX7_writeLodger : ByteArray := prog_1_method_61_code
def yX7_writeLodger : MethodName := ⟨RX7, "writeLodger", "(I)I"⟩
abbrev cX7_writeFloor : ByteArray := prog_1_method_62_code
def yX7_writeFloor : MethodName := ⟨RX7, "writeFloor", "(I)I"⟩
abbrev cX7_outputCharacter : ByteArray := prog_1_method_63_code
def yX7_outputCharacter : MethodName := ⟨RX7, "outputCharacter", "(I)C"⟩
abbrev cX7_requireLodger : ByteArray := prog_1_method_64_code
def yX7_requireLodger : MethodName := ⟨RX7, "requireLodger", "(I)LAccentHouse$Lodger;"⟩
abbrev cX7_requireFloor : ByteArray := prog_1_method_65_code
def yX7_requireFloor : MethodName := ⟨RX7, "requireFloor", "(I)V"⟩
abbrev cX7_requireVowel : ByteArray := prog_1_method_66_code
def yX7_requireVowel : MethodName := ⟨RX7, "requireVowel", "(I)V"⟩
abbrev cX7_requireSlot : ByteArray := prog_1_method_67_code
def yX7_requireSlot : MethodName := ⟨RX7, "requireSlot", "(I)V"⟩
abbrev cX7_requireRange : ByteArray := prog_1_method_68_code
def yX7_requireRange : MethodName := ⟨RX7, "requireRange", "(III)V"⟩
abbrev cX7_requirePlace : ByteArray := prog_1_method_69_code
def yX7_requirePlace : MethodName := ⟨RX7, "requirePlace", "(ILAccentHouse$Lodger;)V"⟩
def RX8 : String := "AccentHouseModel"
def TX8 : u_T := fun k => match k with
  | 0 => ("AccentHouseModel", "keys", "[I", true)
  | 1 => ("AccentHouseModel", "firsts", "[I", true)
  | 2 => ("AccentHouseModel", "thrown", "I", false)
  | 3 => ("AccentHouseModel", "now", "[I", true)
  | 4 => ("AccentHouseModel", "aside", "[I", true)
  | 5 => ("AccentHouseModel", "old", "[I", true)
  | 6 => ("AccentHouseModel", "oldMany", "I", false)
  | 7 => ("AccentHouseModel", "saved", "[I", true)
  | 8 => ("AccentHouseModel", "savedSet", "I", false)
  | 9 => ("AccentHouseModel", "averages", "[I", true)
  | 10 => ("AccentHouseModel", "on", "[I", true)
  | 11 => ("AccentHouseModel", "tracked", "I", false)
  | 12 => ("AccentHouseModel", "trackedBalance", "I", false)
  | 13 => ("AccentHouseModel", "input", "[B", true)
  | 14 => ("AccentHouseModel", "inputMany", "I", false)
  | 15 => ("AccentHouseModel", "output", "[C", true)
  | 16 => ("AccentHouseModel", "outputMany", "I", false)
  | 17 => ("AccentHouseModel", "errorKind", "I", false)
  | 18 => ("AccentHouseModel", "errorOffset", "I", false)
  | 19 => ("AccentHouseModel", "textEnd", "I", false)
  | 20 => ("AccentHouseModel", "kind", "I", false)
  | 21 => ("AccentHouseModel", "from", "I", false)
  | 22 => ("AccentHouseModel", "to", "I", false)
  | 23 => ("AccentHouseModel", "value", "I", false)
  | 24 => ("AccentHouseModel", "fault", "I", false)
  | _ => ("AccentHouseModel", "faultAt", "I", false)
def tyX8 : Nat → FieldType := fun k => match k with
  | 0 => .array .int
  | 1 => .array .int
  | 2 => .int
  | 3 => .array .int
  | 4 => .array .int
  | 5 => .array .int
  | 6 => .int
  | 7 => .array .int
  | 8 => .int
  | 9 => .array .int
  | 10 => .array .int
  | 11 => .int
  | 12 => .int
  | 13 => .array .byte
  | 14 => .int
  | 15 => .array .char
  | 16 => .int
  | 17 => .int
  | 18 => .int
  | 19 => .int
  | 20 => .int
  | 21 => .int
  | 22 => .int
  | 23 => .int
  | 24 => .int
  | _ => .int
abbrev wsX80 : List Cond := u_ws RX8 TX8 26
theorem nmX8 : ∀ a, a < 26 → ∀ b, b < 26 → a ≠ b → (TX8 a).2.1 ≠ (TX8 b).2.1 := by decide +kernel
theorem tyX8_ok : ∀ k, k < 26 → parseFieldDescriptor (TX8 k).2.2.1 = some (tyX8 k) := by decide +kernel
abbrev cX8_init : ByteArray := prog_10_method_1_code
def yX8_init : MethodName := ⟨RX8, "<init>", "()V"⟩
abbrev cX8_thrown : ByteArray := prog_10_method_2_code
def yX8_thrown : MethodName := ⟨RX8, "thrown", "()I"⟩
abbrev cX8_refuse : ByteArray := prog_10_method_3_code
def yX8_refuse : MethodName := ⟨RX8, "refuse", "(I)I"⟩
abbrev cX8_told : ByteArray := prog_10_method_4_code
def yX8_told : MethodName := ⟨RX8, "told", "(I)I"⟩
abbrev cX8_says : ByteArray := prog_10_method_5_code
def yX8_says : MethodName := ⟨RX8, "says", "(Z)Z"⟩
abbrev cX8_in : ByteArray := prog_10_method_6_code
def yX8_in : MethodName := ⟨RX8, "in", "(III)Z"⟩
abbrev cX8_without : ByteArray := prog_10_method_7_code
def yX8_without : MethodName := ⟨RX8, "without", "(I)I"⟩
abbrev cX8_l : ByteArray := prog_10_method_8_code
def yX8_l : MethodName := ⟨RX8, "l", "(I)I"⟩
abbrev cX8_isLodger : ByteArray := prog_10_method_9_code
def yX8_isLodger : MethodName := ⟨RX8, "isLodger", "(I)Z"⟩
abbrev cX8_isFloor : ByteArray := prog_10_method_10_code
def yX8_isFloor : MethodName := ⟨RX8, "isFloor", "(I)Z"⟩
abbrev cX8_isVowel : ByteArray := prog_10_method_11_code
def yX8_isVowel : MethodName := ⟨RX8, "isVowel", "(I)Z"⟩
abbrev cX8_at : ByteArray := prog_10_method_12_code
def yX8_at : MethodName := ⟨RX8, "at", "(II)I"⟩
abbrev cX8_comes : ByteArray := prog_10_method_13_code
def yX8_comes : MethodName := ⟨RX8, "comes", "(III)V"⟩
abbrev cX8_goes : ByteArray := prog_10_method_14_code
def yX8_goes : MethodName := ⟨RX8, "goes", "(I)V"⟩
abbrev cX8_livingOn : ByteArray := prog_10_method_15_code
def yX8_livingOn : MethodName := ⟨RX8, "livingOn", "(II)I"⟩
abbrev cX8_rentAt : ByteArray := prog_10_method_16_code
def yX8_rentAt : MethodName := ⟨RX8, "rentAt", "(I)I"⟩
abbrev cX8_averageAt : ByteArray := prog_10_method_17_code
def yX8_averageAt : MethodName := ⟨RX8, "averageAt", "(II)I"⟩
abbrev cX8_toLandlady : ByteArray := prog_10_method_18_code
def yX8_toLandlady : MethodName := ⟨RX8, "toLandlady", "(I)I"⟩
abbrev cX8_rhymesHer : ByteArray := prog_10_method_19_code
def yX8_rhymesHer : MethodName := ⟨RX8, "rhymesHer", "(I)Z"⟩
abbrev cX8_between : ByteArray := prog_10_method_20_code
def yX8_between : MethodName := ⟨RX8, "between", "(II)I"⟩
abbrev cX8_rhyme : ByteArray := prog_10_method_21_code
def yX8_rhyme : MethodName := ⟨RX8, "rhyme", "(II)Z"⟩
abbrev cX8_lessonFor : ByteArray := prog_10_method_22_code
def yX8_lessonFor : MethodName := ⟨RX8, "lessonFor", "(I)I"⟩
abbrev cX8_averagesNow : ByteArray := prog_10_method_23_code
def yX8_averagesNow : MethodName := ⟨RX8, "averagesNow", "()V"⟩
abbrev cX8_slipFor : ByteArray := prog_10_method_24_code
def yX8_slipFor : MethodName := ⟨RX8, "slipFor", "(I)I"⟩
abbrev cX8_hasToGo : ByteArray := prog_10_method_25_code
def yX8_hasToGo : MethodName := ⟨RX8, "hasToGo", "(I)Z"⟩
abbrev cX8_moves : ByteArray := prog_10_method_26_code
def yX8_moves : MethodName := ⟨RX8, "moves", "(III)V"⟩
abbrev cX8_charges : ByteArray := prog_10_method_27_code
def yX8_charges : MethodName := ⟨RX8, "charges", "(I)V"⟩
abbrev cX8_teaches : ByteArray := prog_10_method_28_code
def yX8_teaches : MethodName := ⟨RX8, "teaches", "(I)V"⟩
abbrev cX8_dines : ByteArray := prog_10_method_29_code
def yX8_dines : MethodName := ⟨RX8, "dines", "(I)V"⟩
abbrev cX8_inspects : ByteArray := prog_10_method_30_code
def yX8_inspects : MethodName := ⟨RX8, "inspects", "()V"⟩
abbrev cX8_passesDay : ByteArray := prog_10_method_31_code
def yX8_passesDay : MethodName := ⟨RX8, "passesDay", "()V"⟩
abbrev cX8_passes : ByteArray := prog_10_method_32_code
def yX8_passes : MethodName := ⟨RX8, "passes", "(I)V"⟩
abbrev cX8_remembers : ByteArray := prog_10_method_33_code
def yX8_remembers : MethodName := ⟨RX8, "remembers", "()V"⟩
abbrev cX8_putsAside : ByteArray := prog_10_method_34_code
def yX8_putsAside : MethodName := ⟨RX8, "putsAside", "()V"⟩
abbrev cX8_putsBack : ByteArray := prog_10_method_35_code
def yX8_putsBack : MethodName := ⟨RX8, "putsBack", "()V"⟩
abbrev cX8_isLetter : ByteArray := prog_10_method_36_code
def yX8_isLetter : MethodName := ⟨RX8, "isLetter", "(I)Z"⟩
abbrev cX8_isDigit : ByteArray := prog_10_method_37_code
def yX8_isDigit : MethodName := ⟨RX8, "isDigit", "(I)Z"⟩
abbrev cX8_next : ByteArray := prog_10_method_38_code
def yX8_next : MethodName := ⟨RX8, "next", "()V"⟩
abbrev cX8_errs : ByteArray := prog_10_method_39_code
def yX8_errs : MethodName := ⟨RX8, "errs", "(I)V"⟩
abbrev cX8_isKey : ByteArray := prog_10_method_40_code
def yX8_isKey : MethodName := ⟨RX8, "isKey", "(I)Z"⟩
abbrev cX8_goesOn : ByteArray := prog_10_method_41_code
def yX8_goesOn : MethodName := ⟨RX8, "goesOn", "()V"⟩
abbrev cX8_here : ByteArray := prog_10_method_42_code
def yX8_here : MethodName := ⟨RX8, "here", "(II)I"⟩
abbrev cX8_takesNumber : ByteArray := prog_10_method_43_code
def yX8_takesNumber : MethodName := ⟨RX8, "takesNumber", "(II)I"⟩
abbrev cX8_takesWord : ByteArray := prog_10_method_44_code
def yX8_takesWord : MethodName := ⟨RX8, "takesWord", "(I)V"⟩
abbrev cX8_lodgerNamed : ByteArray := prog_10_method_45_code
def yX8_lodgerNamed : MethodName := ⟨RX8, "lodgerNamed", "(II)I"⟩
abbrev cX8_isName : ByteArray := prog_10_method_46_code
def yX8_isName : MethodName := ⟨RX8, "isName", "()V"⟩
abbrev cX8_takesAccent : ByteArray := prog_10_method_47_code
def yX8_takesAccent : MethodName := ⟨RX8, "takesAccent", "()I"⟩
abbrev cX8_readsLodger : ByteArray := prog_10_method_48_code
def yX8_readsLodger : MethodName := ⟨RX8, "readsLodger", "()V"⟩
abbrev cX8_takesLodger : ByteArray := prog_10_method_49_code
def yX8_takesLodger : MethodName := ⟨RX8, "takesLodger", "()I"⟩
abbrev cX8_pays : ByteArray := prog_10_method_50_code
def yX8_pays : MethodName := ⟨RX8, "pays", "(II)V"⟩
abbrev cX8_readsPay : ByteArray := prog_10_method_51_code
def yX8_readsPay : MethodName := ⟨RX8, "readsPay", "()V"⟩
abbrev cX8_readsMove : ByteArray := prog_10_method_52_code
def yX8_readsMove : MethodName := ⟨RX8, "readsMove", "()V"⟩
abbrev cX8_readsLine : ByteArray := prog_10_method_53_code
def yX8_readsLine : MethodName := ⟨RX8, "readsLine", "()V"⟩
abbrev cX8_takesSemicolon : ByteArray := prog_10_method_54_code
def yX8_takesSemicolon : MethodName := ⟨RX8, "takesSemicolon", "()V"⟩
abbrev cX8_readsText : ByteArray := prog_10_method_55_code
def yX8_readsText : MethodName := ⟨RX8, "readsText", "(I)V"⟩
abbrev cX8_feeds : ByteArray := prog_10_method_56_code
def yX8_feeds : MethodName := ⟨RX8, "feeds", "(I)V"⟩
abbrev cX8_append : ByteArray := prog_10_method_57_code
def yX8_append : MethodName := ⟨RX8, "append", "(IIIII)I"⟩
abbrev cX8_load : ByteArray := prog_10_method_58_code
def yX8_load : MethodName := ⟨RX8, "load", "(I)I"⟩
abbrev cX8_errorKind : ByteArray := prog_10_method_59_code
def yX8_errorKind : MethodName := ⟨RX8, "errorKind", "()I"⟩
abbrev cX8_errorOffset : ByteArray := prog_10_method_60_code
def yX8_errorOffset : MethodName := ⟨RX8, "errorOffset", "()I"⟩
abbrev cX8_day : ByteArray := prog_10_method_61_code
def yX8_day : MethodName := ⟨RX8, "day", "()I"⟩
abbrev cX8_lodgerCount : ByteArray := prog_10_method_62_code
def yX8_lodgerCount : MethodName := ⟨RX8, "lodgerCount", "()I"⟩
abbrev cX8_baseRent : ByteArray := prog_10_method_63_code
def yX8_baseRent : MethodName := ⟨RX8, "baseRent", "()I"⟩
abbrev cX8_tolerance : ByteArray := prog_10_method_64_code
def yX8_tolerance : MethodName := ⟨RX8, "tolerance", "()I"⟩
abbrev cX8_rentOf : ByteArray := prog_10_method_65_code
def yX8_rentOf : MethodName := ⟨RX8, "rentOf", "(I)I"⟩
abbrev cX8_landladyVowel : ByteArray := prog_10_method_66_code
def yX8_landladyVowel : MethodName := ⟨RX8, "landladyVowel", "(I)I"⟩
abbrev cX8_daysLeft : ByteArray := prog_10_method_67_code
def yX8_daysLeft : MethodName := ⟨RX8, "daysLeft", "()I"⟩
abbrev cX8_daysToInspection : ByteArray := prog_10_method_68_code
def yX8_daysToInspection : MethodName := ⟨RX8, "daysToInspection", "()I"⟩
abbrev cX8_evictions : ByteArray := prog_10_method_69_code
def yX8_evictions : MethodName := ⟨RX8, "evictions", "()I"⟩
abbrev cX8_undoCount : ByteArray := prog_10_method_70_code
def yX8_undoCount : MethodName := ⟨RX8, "undoCount", "()I"⟩
abbrev cX8_ofLodger : ByteArray := prog_10_method_71_code
def yX8_ofLodger : MethodName := ⟨RX8, "ofLodger", "(II)I"⟩
abbrev cX8_floorOf : ByteArray := prog_10_method_72_code
def yX8_floorOf : MethodName := ⟨RX8, "floorOf", "(I)I"⟩
abbrev cX8_balanceOf : ByteArray := prog_10_method_73_code
def yX8_balanceOf : MethodName := ⟨RX8, "balanceOf", "(I)I"⟩
abbrev cX8_vowelOf : ByteArray := prog_10_method_74_code
def yX8_vowelOf : MethodName := ⟨RX8, "vowelOf", "(II)I"⟩
abbrev cX8_lessonsOf : ByteArray := prog_10_method_75_code
def yX8_lessonsOf : MethodName := ⟨RX8, "lessonsOf", "(I)I"⟩
abbrev cX8_slipsOf : ByteArray := prog_10_method_76_code
def yX8_slipsOf : MethodName := ⟨RX8, "slipsOf", "(I)I"⟩
abbrev cX8_daysStayed : ByteArray := prog_10_method_77_code
def yX8_daysStayed : MethodName := ⟨RX8, "daysStayed", "(I)I"⟩
abbrev cX8_lettersOf : ByteArray := prog_10_method_78_code
def yX8_lettersOf : MethodName := ⟨RX8, "lettersOf", "(I)I"⟩
abbrev cX8_nameLength : ByteArray := prog_10_method_79_code
def yX8_nameLength : MethodName := ⟨RX8, "nameLength", "(I)I"⟩
abbrev cX8_nameLetter : ByteArray := prog_10_method_80_code
def yX8_nameLetter : MethodName := ⟨RX8, "nameLetter", "(II)C"⟩
abbrev cX8_findByName : ByteArray := prog_10_method_81_code
def yX8_findByName : MethodName := ⟨RX8, "findByName", "()I"⟩
abbrev cX8_lodgersOn : ByteArray := prog_10_method_82_code
def yX8_lodgersOn : MethodName := ⟨RX8, "lodgersOn", "(I)I"⟩
abbrev cX8_lodgerOn : ByteArray := prog_10_method_83_code
def yX8_lodgerOn : MethodName := ⟨RX8, "lodgerOn", "(II)I"⟩
abbrev cX8_averageVowel : ByteArray := prog_10_method_84_code
def yX8_averageVowel : MethodName := ⟨RX8, "averageVowel", "(II)I"⟩
abbrev cX8_distanceToLandlady : ByteArray := prog_10_method_85_code
def yX8_distanceToLandlady : MethodName := ⟨RX8, "distanceToLandlady", "(I)I"⟩
abbrev cX8_distance : ByteArray := prog_10_method_86_code
def yX8_distance : MethodName := ⟨RX8, "distance", "(II)I"⟩
abbrev cX8_refuses : ByteArray := prog_10_method_87_code
def yX8_refuses : MethodName := ⟨RX8, "refuses", "()Z"⟩
abbrev cX8_rhymes : ByteArray := prog_10_method_88_code
def yX8_rhymes : MethodName := ⟨RX8, "rhymes", "(II)Z"⟩
abbrev cX8_rhymesWithLandlady : ByteArray := prog_10_method_89_code
def yX8_rhymesWithLandlady : MethodName := ⟨RX8, "rhymesWithLandlady", "(I)Z"⟩
abbrev cX8_rhymeCount : ByteArray := prog_10_method_90_code
def yX8_rhymeCount : MethodName := ⟨RX8, "rhymeCount", "(I)I"⟩
abbrev cX8_closestTo : ByteArray := prog_10_method_91_code
def yX8_closestTo : MethodName := ⟨RX8, "closestTo", "(I)I"⟩
abbrev cX8_lessonVowel : ByteArray := prog_10_method_92_code
def yX8_lessonVowel : MethodName := ⟨RX8, "lessonVowel", "(I)I"⟩
abbrev cX8_slipVowel : ByteArray := prog_10_method_93_code
def yX8_slipVowel : MethodName := ⟨RX8, "slipVowel", "(I)I"⟩
abbrev cX8_mustGo : ByteArray := prog_10_method_94_code
def yX8_mustGo : MethodName := ⟨RX8, "mustGo", "(I)Z"⟩
abbrev cX8_meanDistance : ByteArray := prog_10_method_95_code
def yX8_meanDistance : MethodName := ⟨RX8, "meanDistance", "()D"⟩
abbrev cX8_rhymingShare : ByteArray := prog_10_method_96_code
def yX8_rhymingShare : MethodName := ⟨RX8, "rhymingShare", "()F"⟩
abbrev cX8_tracks : ByteArray := prog_10_method_97_code
def yX8_tracks : MethodName := ⟨RX8, "tracks", "(I)V"⟩
abbrev cX8_balanceAfter : ByteArray := prog_10_method_98_code
def yX8_balanceAfter : MethodName := ⟨RX8, "balanceAfter", "(II)I"⟩
abbrev cX8_distanceAfter : ByteArray := prog_10_method_99_code
def yX8_distanceAfter : MethodName := ⟨RX8, "distanceAfter", "(II)I"⟩
abbrev cX8_daysToEviction : ByteArray := prog_10_method_100_code
def yX8_daysToEviction : MethodName := ⟨RX8, "daysToEviction", "(I)I"⟩
abbrev cX8_staysWith : ByteArray := prog_10_method_101_code
def yX8_staysWith : MethodName := ⟨RX8, "staysWith", "(II)Z"⟩
abbrev cX8_paymentToStay : ByteArray := prog_10_method_102_code
def yX8_paymentToStay : MethodName := ⟨RX8, "paymentToStay", "(I)I"⟩
abbrev cX8_totalPaid : ByteArray := prog_10_method_103_code
def yX8_totalPaid : MethodName := ⟨RX8, "totalPaid", "()I"⟩
abbrev cX8_totalCharged : ByteArray := prog_10_method_104_code
def yX8_totalCharged : MethodName := ⟨RX8, "totalCharged", "()I"⟩
abbrev cX8_settled : ByteArray := prog_10_method_105_code
def yX8_settled : MethodName := ⟨RX8, "settled", "()I"⟩
abbrev cX8_ledgerDifference : ByteArray := prog_10_method_106_code
def yX8_ledgerDifference : MethodName := ⟨RX8, "ledgerDifference", "()I"⟩
abbrev cX8_advance : ByteArray := prog_10_method_107_code
def yX8_advance : MethodName := ⟨RX8, "advance", "(I)I"⟩
abbrev cX8_isTakenLetter : ByteArray := prog_10_method_108_code
def yX8_isTakenLetter : MethodName := ⟨RX8, "isTakenLetter", "(I)Z"⟩
abbrev cX8_moveIn : ByteArray := prog_10_method_109_code
def yX8_moveIn : MethodName := ⟨RX8, "moveIn", "(III)I"⟩
abbrev cX8_moveOut : ByteArray := prog_10_method_110_code
def yX8_moveOut : MethodName := ⟨RX8, "moveOut", "(I)I"⟩
abbrev cX8_sets : ByteArray := prog_10_method_111_code
def yX8_sets : MethodName := ⟨RX8, "sets", "(II)I"⟩
abbrev cX8_moveTo : ByteArray := prog_10_method_112_code
def yX8_moveTo : MethodName := ⟨RX8, "moveTo", "(II)I"⟩
abbrev cX8_pay : ByteArray := prog_10_method_113_code
def yX8_pay : MethodName := ⟨RX8, "pay", "(II)I"⟩
abbrev cX8_setLandladyVowel : ByteArray := prog_10_method_114_code
def yX8_setLandladyVowel : MethodName := ⟨RX8, "setLandladyVowel", "(II)I"⟩
abbrev cX8_setTolerance : ByteArray := prog_10_method_115_code
def yX8_setTolerance : MethodName := ⟨RX8, "setTolerance", "(I)I"⟩
abbrev cX8_setBaseRent : ByteArray := prog_10_method_116_code
def yX8_setBaseRent : MethodName := ⟨RX8, "setBaseRent", "(I)I"⟩
abbrev cX8_restore : ByteArray := prog_10_method_117_code
def yX8_restore : MethodName := ⟨RX8, "restore", "(I)I"⟩
abbrev cX8_undo : ByteArray := prog_10_method_118_code
def yX8_undo : MethodName := ⟨RX8, "undo", "()I"⟩
abbrev cX8_save : ByteArray := prog_10_method_119_code
def yX8_save : MethodName := ⟨RX8, "save", "(I)I"⟩
abbrev cX8_writes : ByteArray := prog_10_method_120_code
def yX8_writes : MethodName := ⟨RX8, "writes", "(I)V"⟩
abbrev cX8_writesName : ByteArray := prog_10_method_121_code
def yX8_writesName : MethodName := ⟨RX8, "writesName", "(I)V"⟩
abbrev cX8_writesNumber : ByteArray := prog_10_method_122_code
def yX8_writesNumber : MethodName := ⟨RX8, "writesNumber", "(I)V"⟩
abbrev cX8_writeLodger : ByteArray := prog_10_method_123_code
def yX8_writeLodger : MethodName := ⟨RX8, "writeLodger", "(I)I"⟩
abbrev cX8_writeFloor : ByteArray := prog_10_method_124_code
def yX8_writeFloor : MethodName := ⟨RX8, "writeFloor", "(I)I"⟩
abbrev cX8_outputCharacter : ByteArray := prog_10_method_125_code
def yX8_outputCharacter : MethodName := ⟨RX8, "outputCharacter", "(I)C"⟩
def RJ5 : String := "java/lang/AbstractStringBuilder"
def TJ5 : u_T := fun k => match k with
  | _ => ("", "", "", false)
def tyJ5 : Nat → FieldType := fun k => match k with
  | _ => .int
abbrev wsJ50 : List Cond := u_ws RJ5 TJ5 0
theorem nmJ5 : ∀ a, a < 0 → ∀ b, b < 0 → a ≠ b → (TJ5 a).2.1 ≠ (TJ5 b).2.1 := by decide +kernel
theorem tyJ5_ok : ∀ k, k < 0 → parseFieldDescriptor (TJ5 k).2.2.1 = some (tyJ5 k) := by decide +kernel
abbrev cJ5_init_d00df : ByteArray := prog_11_method_2_code
def yJ5_init_d00df : MethodName := ⟨RJ5, "<init>", "(I)V"⟩
abbrev cJ5_length_8abf5 : ByteArray := prog_11_method_6_code
def yJ5_length_8abf5 : MethodName := ⟨RJ5, "length", "()I"⟩
abbrev cJ5_ensureCapacityInternal_d00df : ByteArray := prog_11_method_9_code
def yJ5_ensureCapacityInternal_d00df : MethodName := ⟨RJ5, "ensureCapacityInternal", "(I)V"⟩
abbrev cJ5_newCapacity_0f7a4 : ByteArray := prog_11_method_10_code
def yJ5_newCapacity_0f7a4 : MethodName := ⟨RJ5, "newCapacity", "(I)I"⟩
abbrev cJ5_inflate_da8c8 : ByteArray := prog_11_method_11_code
def yJ5_inflate_da8c8 : MethodName := ⟨RJ5, "inflate", "()V"⟩
abbrev cJ5_setLength_d00df : ByteArray := prog_11_method_13_code
def yJ5_setLength_d00df : MethodName := ⟨RJ5, "setLength", "(I)V"⟩
abbrev cJ5_charAt_5068e : ByteArray := prog_11_method_14_code
def yJ5_charAt_5068e : MethodName := ⟨RJ5, "charAt", "(I)C"⟩
abbrev cJ5_append_cf1ce : ByteArray := prog_11_method_22_code
def yJ5_append_cf1ce : MethodName := ⟨RJ5, "append", "(Ljava/lang/String;)Ljava/lang/AbstractStringBuilder;"⟩
abbrev cJ5_appendNull_278bc : ByteArray := prog_11_method_26_code
def yJ5_appendNull_278bc : MethodName := ⟨RJ5, "appendNull", "()Ljava/lang/AbstractStringBuilder;"⟩
abbrev cJ5_append_3fe6f : ByteArray := prog_11_method_31_code
def yJ5_append_3fe6f : MethodName := ⟨RJ5, "append", "(C)Ljava/lang/AbstractStringBuilder;"⟩
abbrev cJ5_append_c97b9 : ByteArray := prog_11_method_32_code
def yJ5_append_c97b9 : MethodName := ⟨RJ5, "append", "(I)Ljava/lang/AbstractStringBuilder;"⟩
abbrev cJ5_getValue_6d5f1 : ByteArray := prog_11_method_64_code
def yJ5_getValue_6d5f1 : MethodName := ⟨RJ5, "getValue", "()[B"⟩
abbrev cJ5_isLatin1_aae02 : ByteArray := prog_11_method_68_code
def yJ5_isLatin1_aae02 : MethodName := ⟨RJ5, "isLatin1", "()Z"⟩
abbrev cJ5_inflateIfNeededFor_a7421 : ByteArray := prog_11_method_71_code
def yJ5_inflateIfNeededFor_a7421 : MethodName := ⟨RJ5, "inflateIfNeededFor", "(Ljava/lang/String;)V"⟩
abbrev cJ5_putStringAt_47b60 : ByteArray := prog_11_method_73_code
def yJ5_putStringAt_47b60 : MethodName := ⟨RJ5, "putStringAt", "(ILjava/lang/String;)V"⟩
def RJx00060 : String := "java/lang/ArrayIndexOutOfBoundsException"
def TJx00060 : u_T := fun k => match k with
  | 0 => ("java/lang/Throwable", "cause", "Ljava/lang/Throwable;", false)
  | 1 => ("java/lang/Throwable", "stackTrace", "[Ljava/lang/StackTraceElement;", false)
  | 2 => ("java/lang/Throwable", "suppressedExceptions", "Ljava/util/List;", false)
  | 3 => ("java/lang/Throwable", "detailMessage", "Ljava/lang/String;", false)
  | 4 => ("java/lang/Throwable", "backtrace", "Ljava/lang/Object;", false)
  | _ => ("java/lang/Throwable", "depth", "I", false)
def tyJx00060 : Nat → FieldType := fun k => match k with
  | 0 => .object "java/lang/Throwable"
  | 1 => .array (.object "java/lang/StackTraceElement")
  | 2 => .object "java/util/List"
  | 3 => .object "java/lang/String"
  | 4 => .object "java/lang/Object"
  | _ => .int
abbrev wsJx000600 : List Cond := u_ws RJx00060 TJx00060 6
theorem nmJx00060 : ∀ a, a < 6 → ∀ b, b < 6 → a ≠ b → (TJx00060 a).2.1 ≠ (TJx00060 b).2.1 := by decide +kernel
theorem tyJx00060_ok : ∀ k, k < 6 → parseFieldDescriptor (TJx00060 k).2.2.1 = some (tyJx00060 k) := by decide +kernel
abbrev cJx00060_init_d00df : ByteArray := prog_12_method_3_code
def yJx00060_init_d00df : MethodName := ⟨RJx00060, "<init>", "(I)V"⟩
def RJx8e188 : String := "java/lang/Cloneable"
def TJx8e188 : u_T := fun k => match k with
  | _ => ("", "", "", false)
def tyJx8e188 : Nat → FieldType := fun k => match k with
  | _ => .int
abbrev wsJx8e1880 : List Cond := u_ws RJx8e188 TJx8e188 0
theorem nmJx8e188 : ∀ a, a < 0 → ∀ b, b < 0 → a ≠ b → (TJx8e188 a).2.1 ≠ (TJx8e188 b).2.1 := by decide +kernel
theorem tyJx8e188_ok : ∀ k, k < 0 → parseFieldDescriptor (TJx8e188 k).2.2.1 = some (tyJx8e188 k) := by decide +kernel
def RJx29ce0 : String := "java/lang/Enum"
def TJx29ce0 : u_T := fun k => match k with
  | _ => ("", "", "", false)
def tyJx29ce0 : Nat → FieldType := fun k => match k with
  | _ => .int
abbrev wsJx29ce00 : List Cond := u_ws RJx29ce0 TJx29ce0 0
theorem nmJx29ce0 : ∀ a, a < 0 → ∀ b, b < 0 → a ≠ b → (TJx29ce0 a).2.1 ≠ (TJx29ce0 b).2.1 := by decide +kernel
theorem tyJx29ce0_ok : ∀ k, k < 0 → parseFieldDescriptor (TJx29ce0 k).2.2.1 = some (tyJx29ce0 k) := by decide +kernel
def RJ6 : String := "java/lang/Integer"
def TJ6 : u_T := fun k => match k with
  | _ => ("", "", "", false)
def tyJ6 : Nat → FieldType := fun k => match k with
  | _ => .int
abbrev wsJ60 : List Cond := u_ws RJ6 TJ6 0
theorem nmJ6 : ∀ a, a < 0 → ∀ b, b < 0 → a ≠ b → (TJ6 a).2.1 ≠ (TJ6 b).2.1 := by decide +kernel
theorem tyJ6_ok : ∀ k, k < 0 → parseFieldDescriptor (TJ6 k).2.2.1 = some (tyJ6 k) := by decide +kernel
abbrev cJ6_getChars_ba4f3 : ByteArray := prog_19_method_12_code
def yJ6_getChars_ba4f3 : MethodName := ⟨RJ6, "getChars", "(II[B)I"⟩
abbrev cJ6_stringSize_0f7a4 : ByteArray := prog_19_method_13_code
def yJ6_stringSize_0f7a4 : MethodName := ⟨RJ6, "stringSize", "(I)I"⟩
def RJ9 : String := "java/lang/Math"
def TJ9 : u_T := fun k => match k with
  | _ => ("", "", "", false)
def tyJ9 : Nat → FieldType := fun k => match k with
  | _ => .int
abbrev wsJ90 : List Cond := u_ws RJ9 TJ9 0
theorem nmJ9 : ∀ a, a < 0 → ∀ b, b < 0 → a ≠ b → (TJ9 a).2.1 ≠ (TJ9 b).2.1 := by decide +kernel
theorem tyJ9_ok : ∀ k, k < 0 → parseFieldDescriptor (TJ9 k).2.2.1 = some (tyJ9 k) := by decide +kernel
abbrev cJ9_max_7cf53 : ByteArray := prog_20_method_65_code
def yJ9_max_7cf53 : MethodName := ⟨RJ9, "max", "(II)I"⟩
abbrev cJ9_min_7cf53 : ByteArray := prog_20_method_69_code
def yJ9_min_7cf53 : MethodName := ⟨RJ9, "min", "(II)I"⟩
def RJ0 : String := "java/lang/String"
def TJ0 : u_T := fun k => match k with
  | 0 => ("java/lang/String", "value", "[B", true)
  | 1 => ("java/lang/String", "coder", "B", true)
  | 2 => ("java/lang/String", "hash", "I", false)
  | _ => ("java/lang/String", "hashIsZero", "Z", false)
def tyJ0 : Nat → FieldType := fun k => match k with
  | 0 => .array .byte
  | 1 => .byte
  | 2 => .int
  | _ => .boolean
abbrev wsJ00 : List Cond := u_ws RJ0 TJ0 4
theorem nmJ0 : ∀ a, a < 4 → ∀ b, b < 4 → a ≠ b → (TJ0 a).2.1 ≠ (TJ0 b).2.1 := by decide +kernel
theorem tyJ0_ok : ∀ k, k < 4 → parseFieldDescriptor (TJ0 k).2.2.1 = some (tyJ0 k) := by decide +kernel
abbrev cJ0_init_81219 : ByteArray := prog_22_method_53_code
def yJ0_init_81219 : MethodName := ⟨RJ0, "<init>", "(Ljava/lang/StringBuilder;)V"⟩
abbrev cJ0_length_8abf5 : ByteArray := prog_22_method_54_code
def yJ0_length_8abf5 : MethodName := ⟨RJ0, "length", "()I"⟩
abbrev cJ0_charAt_5068e : ByteArray := prog_22_method_56_code
def yJ0_charAt_5068e : MethodName := ⟨RJ0, "charAt", "(I)C"⟩
abbrev cJ0_substring_37a41 : ByteArray := prog_22_method_92_code
def yJ0_substring_37a41 : MethodName := ⟨RJ0, "substring", "(II)Ljava/lang/String;"⟩
abbrev cJ0_getBytes_840e7 : ByteArray := prog_22_method_147_code
def yJ0_getBytes_840e7 : MethodName := ⟨RJ0, "getBytes", "([BIB)V"⟩
abbrev cJ0_init_db425 : ByteArray := prog_22_method_150_code
def yJ0_init_db425 : MethodName := ⟨RJ0, "<init>", "(Ljava/lang/AbstractStringBuilder;Ljava/lang/Void;)V"⟩
abbrev cJ0_init_031fb : ByteArray := prog_22_method_151_code
def yJ0_init_031fb : MethodName := ⟨RJ0, "<init>", "([BB)V"⟩
abbrev cJ0_coder_7d493 : ByteArray := prog_22_method_152_code
def yJ0_coder_7d493 : MethodName := ⟨RJ0, "coder", "()B"⟩
abbrev cJ0_isLatin1_aae02 : ByteArray := prog_22_method_154_code
def yJ0_isLatin1_aae02 : MethodName := ⟨RJ0, "isLatin1", "()Z"⟩
abbrev cJ0_checkIndex_df160 : ByteArray := prog_22_method_155_code
def yJ0_checkIndex_df160 : MethodName := ⟨RJ0, "checkIndex", "(II)V"⟩
abbrev cJ0_checkBoundsOffCount_cabcc : ByteArray := prog_22_method_157_code
def yJ0_checkBoundsOffCount_cabcc : MethodName := ⟨RJ0, "checkBoundsOffCount", "(III)I"⟩
abbrev cJ0_checkBoundsBeginEnd_23922 : ByteArray := prog_22_method_158_code
def yJ0_checkBoundsBeginEnd_23922 : MethodName := ⟨RJ0, "checkBoundsBeginEnd", "(III)V"⟩
def RJ4 : String := "java/lang/StringBuilder"
def TJ4 : u_T := fun k => match k with
  | 0 => ("java/lang/AbstractStringBuilder", "value", "[B", false)
  | 1 => ("java/lang/AbstractStringBuilder", "coder", "B", false)
  | 2 => ("java/lang/AbstractStringBuilder", "maybeLatin1", "Z", false)
  | _ => ("java/lang/AbstractStringBuilder", "count", "I", false)
def tyJ4 : Nat → FieldType := fun k => match k with
  | 0 => .array .byte
  | 1 => .byte
  | 2 => .boolean
  | _ => .int
abbrev wsJ40 : List Cond := u_ws RJ4 TJ4 4
theorem nmJ4 : ∀ a, a < 4 → ∀ b, b < 4 → a ≠ b → (TJ4 a).2.1 ≠ (TJ4 b).2.1 := by decide +kernel
theorem tyJ4_ok : ∀ k, k < 4 → parseFieldDescriptor (TJ4 k).2.2.1 = some (tyJ4 k) := by decide +kernel
abbrev cJ4_init_da8c8 : ByteArray := prog_23_method_1_code
def yJ4_init_da8c8 : MethodName := ⟨RJ4, "<init>", "()V"⟩
abbrev cJ4_append_15ec4 : ByteArray := prog_23_method_7_code
def yJ4_append_15ec4 : MethodName := ⟨RJ4, "append", "(Ljava/lang/String;)Ljava/lang/StringBuilder;"⟩
abbrev cJ4_append_cf468 : ByteArray := prog_23_method_14_code
def yJ4_append_cf468 : MethodName := ⟨RJ4, "append", "(C)Ljava/lang/StringBuilder;"⟩
abbrev cJ4_append_bf812 : ByteArray := prog_23_method_15_code
def yJ4_append_bf812 : MethodName := ⟨RJ4, "append", "(I)Ljava/lang/StringBuilder;"⟩
abbrev cJ4_toString_0e30d : ByteArray := prog_23_method_42_code
def yJ4_toString_0e30d : MethodName := ⟨RJ4, "toString", "()Ljava/lang/String;"⟩
abbrev cJ4_charAt_5068e : ByteArray := prog_23_method_88_code
def yJ4_charAt_5068e : MethodName := ⟨RJ4, "charAt", "(I)C"⟩
abbrev cJ4_setLength_d00df : ByteArray := prog_23_method_89_code
def yJ4_setLength_d00df : MethodName := ⟨RJ4, "setLength", "(I)V"⟩
abbrev cJ4_length_8abf5 : ByteArray := prog_23_method_93_code
def yJ4_length_8abf5 : MethodName := ⟨RJ4, "length", "()I"⟩
def RJx7c733 : String := "java/lang/StringIndexOutOfBoundsException"
def TJx7c733 : u_T := fun k => match k with
  | 0 => ("java/lang/Throwable", "backtrace", "Ljava/lang/Object;", false)
  | 1 => ("java/lang/Throwable", "detailMessage", "Ljava/lang/String;", false)
  | 2 => ("java/lang/Throwable", "cause", "Ljava/lang/Throwable;", false)
  | 3 => ("java/lang/Throwable", "stackTrace", "[Ljava/lang/StackTraceElement;", false)
  | 4 => ("java/lang/Throwable", "depth", "I", false)
  | _ => ("java/lang/Throwable", "suppressedExceptions", "Ljava/util/List;", false)
def tyJx7c733 : Nat → FieldType := fun k => match k with
  | 0 => .object "java/lang/Object"
  | 1 => .object "java/lang/String"
  | 2 => .object "java/lang/Throwable"
  | 3 => .array (.object "java/lang/StackTraceElement")
  | 4 => .int
  | _ => .object "java/util/List"
abbrev wsJx7c7330 : List Cond := u_ws RJx7c733 TJx7c733 6
theorem nmJx7c733 : ∀ a, a < 6 → ∀ b, b < 6 → a ≠ b → (TJx7c733 a).2.1 ≠ (TJx7c733 b).2.1 := by decide +kernel
theorem tyJx7c733_ok : ∀ k, k < 6 → parseFieldDescriptor (TJx7c733 k).2.2.1 = some (tyJx7c733 k) := by decide +kernel
abbrev cJx7c733_init_d00df : ByteArray := prog_24_method_3_code
def yJx7c733_init_d00df : MethodName := ⟨RJx7c733, "<init>", "(I)V"⟩
def RJ1 : String := "java/lang/StringLatin1"
def TJ1 : u_T := fun k => match k with
  | _ => ("", "", "", false)
def tyJ1 : Nat → FieldType := fun k => match k with
  | _ => .int
abbrev wsJ10 : List Cond := u_ws RJ1 TJ1 0
theorem nmJ1 : ∀ a, a < 0 → ∀ b, b < 0 → a ≠ b → (TJ1 a).2.1 ≠ (TJ1 b).2.1 := by decide +kernel
theorem tyJ1_ok : ∀ k, k < 0 → parseFieldDescriptor (TJ1 k).2.2.1 = some (tyJ1 k) := by decide +kernel
abbrev cJ1_charAt_3b067 : ByteArray := prog_25_method_2_code
def yJ1_charAt_3b067 : MethodName := ⟨RJ1, "charAt", "([BI)C"⟩
abbrev cJ1_canEncode_fc78d : ByteArray := prog_25_method_3_code
def yJ1_canEncode_fc78d : MethodName := ⟨RJ1, "canEncode", "(C)Z"⟩
abbrev cJ1_newString_b4f7a : ByteArray := prog_25_method_47_code
def yJ1_newString_b4f7a : MethodName := ⟨RJ1, "newString", "([BII)Ljava/lang/String;"⟩
abbrev cJ1_fillNull_b72d1 : ByteArray := prog_25_method_48_code
def yJ1_fillNull_b72d1 : MethodName := ⟨RJ1, "fillNull", "([BII)V"⟩
abbrev cJ1_inflate_0e8fd : ByteArray := prog_25_method_50_code
def yJ1_inflate_0e8fd : MethodName := ⟨RJ1, "inflate", "([BI[BII)V"⟩
def RJ2 : String := "java/lang/StringUTF16"
def TJ2 : u_T := fun k => match k with
  | _ => ("", "", "", false)
def tyJ2 : Nat → FieldType := fun k => match k with
  | _ => .int
abbrev wsJ20 : List Cond := u_ws RJ2 TJ2 0
theorem nmJ2 : ∀ a, a < 0 → ∀ b, b < 0 → a ≠ b → (TJ2 a).2.1 ≠ (TJ2 b).2.1 := by decide +kernel
theorem tyJ2_ok : ∀ k, k < 0 → parseFieldDescriptor (TJ2 k).2.2.1 = some (tyJ2 k) := by decide +kernel
abbrev cJ2_newBytesFor_77867 : ByteArray := prog_26_method_2_code
def yJ2_newBytesFor_77867 : MethodName := ⟨RJ2, "newBytesFor", "(I)[B"⟩
abbrev cJ2_newBytesLength_0f7a4 : ByteArray := prog_26_method_3_code
def yJ2_newBytesLength_0f7a4 : MethodName := ⟨RJ2, "newBytesLength", "(I)I"⟩
abbrev cJ2_putChar_b72d1 : ByteArray := prog_26_method_4_code
def yJ2_putChar_b72d1 : MethodName := ⟨RJ2, "putChar", "([BII)V"⟩
abbrev cJ2_getChar_3b067 : ByteArray := prog_26_method_5_code
def yJ2_getChar_3b067 : MethodName := ⟨RJ2, "getChar", "([BI)C"⟩
abbrev cJ2_length_9d52b : ByteArray := prog_26_method_6_code
def yJ2_length_9d52b : MethodName := ⟨RJ2, "length", "([B)I"⟩
abbrev cJ2_coderFromArrayLen_85cad : ByteArray := prog_26_method_15_code
def yJ2_coderFromArrayLen_85cad : MethodName := ⟨RJ2, "coderFromArrayLen", "([BI)B"⟩
abbrev cJ2_compress_39247 : ByteArray := prog_26_method_17_code
def yJ2_compress_39247 : MethodName := ⟨RJ2, "compress", "([BII)[B"⟩
abbrev cJ2_compress_5af95 : ByteArray := prog_26_method_22_code
def yJ2_compress_5af95 : MethodName := ⟨RJ2, "compress", "([BI[BII)I"⟩
abbrev cJ2_newString_b4f7a : ByteArray := prog_26_method_69_code
def yJ2_newString_b4f7a : MethodName := ⟨RJ2, "newString", "([BII)Ljava/lang/String;"⟩
abbrev cJ2_fillNull_b72d1 : ByteArray := prog_26_method_70_code
def yJ2_fillNull_b72d1 : MethodName := ⟨RJ2, "fillNull", "([BII)V"⟩
abbrev cJ2_putCharSB_b72d1 : ByteArray := prog_26_method_71_code
def yJ2_putCharSB_b72d1 : MethodName := ⟨RJ2, "putCharSB", "([BII)V"⟩
abbrev cJ2_getChars_46870 : ByteArray := prog_26_method_77_code
def yJ2_getChars_46870 : MethodName := ⟨RJ2, "getChars", "(III[B)I"⟩
abbrev cJ2_putCharsAt_cd4e5 : ByteArray := prog_26_method_81_code
def yJ2_putCharsAt_cd4e5 : MethodName := ⟨RJ2, "putCharsAt", "([BICCCC)I"⟩
abbrev cJ2_charAt_3b067 : ByteArray := prog_26_method_83_code
def yJ2_charAt_3b067 : MethodName := ⟨RJ2, "charAt", "([BI)C"⟩
abbrev cJ2_inflate_0e8fd : ByteArray := prog_26_method_86_code
def yJ2_inflate_0e8fd : MethodName := ⟨RJ2, "inflate", "([BI[BII)V"⟩
abbrev cJ2_getChars_ba4f3 : ByteArray := prog_26_method_89_code
def yJ2_getChars_ba4f3 : MethodName := ⟨RJ2, "getChars", "(II[B)I"⟩
abbrev cJ2_checkIndex_2214a : ByteArray := prog_26_method_91_code
def yJ2_checkIndex_2214a : MethodName := ⟨RJ2, "checkIndex", "(I[B)V"⟩
abbrev cJ2_checkBoundsBeginEnd_d044e : ByteArray := prog_26_method_93_code
def yJ2_checkBoundsBeginEnd_d044e : MethodName := ⟨RJ2, "checkBoundsBeginEnd", "(II[B)V"⟩
abbrev cJ2_checkBoundsOffCount_d044e : ByteArray := prog_26_method_94_code
def yJ2_checkBoundsOffCount_d044e : MethodName := ⟨RJ2, "checkBoundsOffCount", "(II[B)V"⟩
def RJ10 : String := "java/lang/System"
def TJ10 : u_T := fun k => match k with
  | _ => ("", "", "", false)
def tyJ10 : Nat → FieldType := fun k => match k with
  | _ => .int
abbrev wsJ100 : List Cond := u_ws RJ10 TJ10 0
theorem nmJ10 : ∀ a, a < 0 → ∀ b, b < 0 → a ≠ b → (TJ10 a).2.1 ≠ (TJ10 b).2.1 := by decide +kernel
theorem tyJ10_ok : ∀ k, k < 0 → parseFieldDescriptor (TJ10 k).2.2.1 = some (tyJ10 k) := by decide +kernel
def RJ7 : String := "java/util/Arrays"
def TJ7 : u_T := fun k => match k with
  | _ => ("", "", "", false)
def tyJ7 : Nat → FieldType := fun k => match k with
  | _ => .int
abbrev wsJ70 : List Cond := u_ws RJ7 TJ7 0
theorem nmJ7 : ∀ a, a < 0 → ∀ b, b < 0 → a ≠ b → (TJ7 a).2.1 ≠ (TJ7 b).2.1 := by decide +kernel
theorem tyJ7_ok : ∀ k, k < 0 → parseFieldDescriptor (TJ7 k).2.2.1 = some (tyJ7 k) := by decide +kernel
abbrev cJ7_rangeCheck_23922 : ByteArray := prog_29_method_30_code
def yJ7_rangeCheck_23922 : MethodName := ⟨RJ7, "rangeCheck", "(III)V"⟩
abbrev cJ7_fill_eb02e : ByteArray := prog_29_method_110_code
def yJ7_fill_eb02e : MethodName := ⟨RJ7, "fill", "([BIIB)V"⟩
abbrev cJ7_copyOf_9075b : ByteArray := prog_29_method_121_code
def yJ7_copyOf_9075b : MethodName := ⟨RJ7, "copyOf", "([BI)[B"⟩
abbrev cJ7_checkLength_df160 : ByteArray := prog_29_method_131_code
def yJ7_checkLength_df160 : MethodName := ⟨RJ7, "checkLength", "(II)V"⟩
abbrev cJ7_copyOfRange_39247 : ByteArray := prog_29_method_132_code
def yJ7_copyOfRange_39247 : MethodName := ⟨RJ7, "copyOfRange", "([BII)[B"⟩
abbrev cJ7_copyOfRangeByte_39247 : ByteArray := prog_29_method_133_code
def yJ7_copyOfRangeByte_39247 : MethodName := ⟨RJ7, "copyOfRangeByte", "([BII)[B"⟩
def RJ8 : String := "jdk/internal/util/ArraysSupport"
def TJ8 : u_T := fun k => match k with
  | _ => ("", "", "", false)
def tyJ8 : Nat → FieldType := fun k => match k with
  | _ => .int
abbrev wsJ80 : List Cond := u_ws RJ8 TJ8 0
theorem nmJ8 : ∀ a, a < 0 → ∀ b, b < 0 → a ≠ b → (TJ8 a).2.1 ≠ (TJ8 b).2.1 := by decide +kernel
theorem tyJ8_ok : ∀ k, k < 0 → parseFieldDescriptor (TJ8 k).2.2.1 = some (tyJ8 k) := by decide +kernel
abbrev cJ8_newLength_cabcc : ByteArray := prog_30_method_27_code
def yJ8_newLength_cabcc : MethodName := ⟨RJ8, "newLength", "(III)I"⟩
abbrev cJ8_hugeLength_7cf53 : ByteArray := prog_30_method_28_code
def yJ8_hugeLength_7cf53 : MethodName := ⟨RJ8, "hugeLength", "(II)I"⟩
def RJ3 : String := "jdk/internal/util/Preconditions"
def TJ3 : u_T := fun k => match k with
  | _ => ("", "", "", false)
def tyJ3 : Nat → FieldType := fun k => match k with
  | _ => .int
abbrev wsJ30 : List Cond := u_ws RJ3 TJ3 0
theorem nmJ3 : ∀ a, a < 0 → ∀ b, b < 0 → a ≠ b → (TJ3 a).2.1 ≠ (TJ3 b).2.1 := by decide +kernel
theorem tyJ3_ok : ∀ k, k < 0 → parseFieldDescriptor (TJ3 k).2.2.1 = some (tyJ3 k) := by decide +kernel
abbrev cJ3_checkIndex_8e157 : ByteArray := prog_31_method_11_code
def yJ3_checkIndex_8e157 : MethodName := ⟨RJ3, "checkIndex", "(IILjava/util/function/BiFunction;)I"⟩
abbrev cJ3_checkFromToIndex_8c36e : ByteArray := prog_31_method_12_code
def yJ3_checkFromToIndex_8c36e : MethodName := ⟨RJ3, "checkFromToIndex", "(IIILjava/util/function/BiFunction;)I"⟩
abbrev cJ3_checkFromIndexSize_8c36e : ByteArray := prog_31_method_13_code
def yJ3_checkFromIndexSize_8c36e : MethodName := ⟨RJ3, "checkFromIndexSize", "(IIILjava/util/function/BiFunction;)I"⟩
def RL : String := "AccentHouseLaw"
abbrev cL_append : ByteArray := method_3_code
def yL_append : MethodName := ⟨RL, "append", "(LAccentHouse;IIIII[J)I"⟩
abbrev cL_load : ByteArray := method_4_code
def yL_load : MethodName := ⟨RL, "load", "(LAccentHouse;I[J)I"⟩
abbrev cL_rentOf : ByteArray := method_5_code
def yL_rentOf : MethodName := ⟨RL, "rentOf", "(LAccentHouse;I[J)I"⟩
abbrev cL_landladyVowel : ByteArray := method_6_code
def yL_landladyVowel : MethodName := ⟨RL, "landladyVowel", "(LAccentHouse;I[J)I"⟩
abbrev cL_floorOf : ByteArray := method_7_code
def yL_floorOf : MethodName := ⟨RL, "floorOf", "(LAccentHouse;I[J)I"⟩
abbrev cL_balanceOf : ByteArray := method_8_code
def yL_balanceOf : MethodName := ⟨RL, "balanceOf", "(LAccentHouse;I[J)I"⟩
abbrev cL_vowelOf : ByteArray := method_9_code
def yL_vowelOf : MethodName := ⟨RL, "vowelOf", "(LAccentHouse;II[J)I"⟩
abbrev cL_lessonsOf : ByteArray := method_10_code
def yL_lessonsOf : MethodName := ⟨RL, "lessonsOf", "(LAccentHouse;I[J)I"⟩
abbrev cL_slipsOf : ByteArray := method_11_code
def yL_slipsOf : MethodName := ⟨RL, "slipsOf", "(LAccentHouse;I[J)I"⟩
abbrev cL_daysStayed : ByteArray := method_12_code
def yL_daysStayed : MethodName := ⟨RL, "daysStayed", "(LAccentHouse;I[J)I"⟩
abbrev cL_nameLength : ByteArray := method_13_code
def yL_nameLength : MethodName := ⟨RL, "nameLength", "(LAccentHouse;I[J)I"⟩
abbrev cL_nameLetter : ByteArray := method_14_code
def yL_nameLetter : MethodName := ⟨RL, "nameLetter", "(LAccentHouse;II[J)I"⟩
abbrev cL_lodgersOn : ByteArray := method_15_code
def yL_lodgersOn : MethodName := ⟨RL, "lodgersOn", "(LAccentHouse;I[J)I"⟩
abbrev cL_lodgerOn : ByteArray := method_16_code
def yL_lodgerOn : MethodName := ⟨RL, "lodgerOn", "(LAccentHouse;II[J)I"⟩
abbrev cL_averageVowel : ByteArray := method_17_code
def yL_averageVowel : MethodName := ⟨RL, "averageVowel", "(LAccentHouse;II[J)I"⟩
abbrev cL_distanceToLandlady : ByteArray := method_18_code
def yL_distanceToLandlady : MethodName := ⟨RL, "distanceToLandlady", "(LAccentHouse;I[J)I"⟩
abbrev cL_distance : ByteArray := method_19_code
def yL_distance : MethodName := ⟨RL, "distance", "(LAccentHouse;II[J)I"⟩
abbrev cL_rhymes : ByteArray := method_20_code
def yL_rhymes : MethodName := ⟨RL, "rhymes", "(LAccentHouse;II[J)I"⟩
abbrev cL_rhymesWithLandlady : ByteArray := method_21_code
def yL_rhymesWithLandlady : MethodName := ⟨RL, "rhymesWithLandlady", "(LAccentHouse;I[J)I"⟩
abbrev cL_rhymeCount : ByteArray := method_22_code
def yL_rhymeCount : MethodName := ⟨RL, "rhymeCount", "(LAccentHouse;I[J)I"⟩
abbrev cL_closestTo : ByteArray := method_23_code
def yL_closestTo : MethodName := ⟨RL, "closestTo", "(LAccentHouse;I[J)I"⟩
abbrev cL_lessonVowel : ByteArray := method_24_code
def yL_lessonVowel : MethodName := ⟨RL, "lessonVowel", "(LAccentHouse;I[J)I"⟩
abbrev cL_slipVowel : ByteArray := method_25_code
def yL_slipVowel : MethodName := ⟨RL, "slipVowel", "(LAccentHouse;I[J)I"⟩
abbrev cL_mustGo : ByteArray := method_26_code
def yL_mustGo : MethodName := ⟨RL, "mustGo", "(LAccentHouse;I[J)I"⟩
abbrev cL_balanceAfter : ByteArray := method_27_code
def yL_balanceAfter : MethodName := ⟨RL, "balanceAfter", "(LAccentHouse;II[J)I"⟩
abbrev cL_distanceAfter : ByteArray := method_28_code
def yL_distanceAfter : MethodName := ⟨RL, "distanceAfter", "(LAccentHouse;II[J)I"⟩
abbrev cL_daysToEviction : ByteArray := method_29_code
def yL_daysToEviction : MethodName := ⟨RL, "daysToEviction", "(LAccentHouse;I[J)I"⟩
abbrev cL_paymentToStay : ByteArray := method_30_code
def yL_paymentToStay : MethodName := ⟨RL, "paymentToStay", "(LAccentHouse;I[J)I"⟩
abbrev cL_advance : ByteArray := method_31_code
def yL_advance : MethodName := ⟨RL, "advance", "(LAccentHouse;I[J)I"⟩
abbrev cL_moveIn : ByteArray := method_32_code
def yL_moveIn : MethodName := ⟨RL, "moveIn", "(LAccentHouse;III[J)I"⟩
abbrev cL_moveOut : ByteArray := method_33_code
def yL_moveOut : MethodName := ⟨RL, "moveOut", "(LAccentHouse;I[J)I"⟩
abbrev cL_moveTo : ByteArray := method_34_code
def yL_moveTo : MethodName := ⟨RL, "moveTo", "(LAccentHouse;II[J)I"⟩
abbrev cL_pay : ByteArray := method_35_code
def yL_pay : MethodName := ⟨RL, "pay", "(LAccentHouse;II[J)I"⟩
abbrev cL_setLandladyVowel : ByteArray := method_36_code
def yL_setLandladyVowel : MethodName := ⟨RL, "setLandladyVowel", "(LAccentHouse;II[J)I"⟩
abbrev cL_setTolerance : ByteArray := method_37_code
def yL_setTolerance : MethodName := ⟨RL, "setTolerance", "(LAccentHouse;I[J)I"⟩
abbrev cL_setBaseRent : ByteArray := method_38_code
def yL_setBaseRent : MethodName := ⟨RL, "setBaseRent", "(LAccentHouse;I[J)I"⟩
abbrev cL_restore : ByteArray := method_39_code
def yL_restore : MethodName := ⟨RL, "restore", "(LAccentHouse;I[J)I"⟩
abbrev cL_undo : ByteArray := method_40_code
def yL_undo : MethodName := ⟨RL, "undo", "(LAccentHouse;[J)I"⟩
abbrev cL_save : ByteArray := method_41_code
def yL_save : MethodName := ⟨RL, "save", "(LAccentHouse;I[J)I"⟩
abbrev cL_writeLodger : ByteArray := method_42_code
def yL_writeLodger : MethodName := ⟨RL, "writeLodger", "(LAccentHouse;I[J)I"⟩
abbrev cL_writeFloor : ByteArray := method_43_code
def yL_writeFloor : MethodName := ⟨RL, "writeFloor", "(LAccentHouse;I[J)I"⟩
abbrev cL_outputCharacter : ByteArray := method_44_code
def yL_outputCharacter : MethodName := ⟨RL, "outputCharacter", "(LAccentHouse;I[J)I"⟩
abbrev cL_law : ByteArray := code
def yL_law : MethodName := ⟨RL, "law", "([I)Z"⟩
abbrev vwCl : List vw_C := [(RJ0, TJ0, 4), (RJ4, TJ4, 4), (RJx00060, TJx00060, 6), (RJx7c733, TJx7c733, 6), (RX0, TX0, 1), (RX1, TX1, 3), (RX2, TX2, 11), (RX3, TX3, 7), (RX4, TX4, 5), (RX6, TX6, 6), (RX7, TX7, 11), (RX8, TX8, 26)]
end
section
theorem dX8_init_0 : decode cX8_init 0 = .ok (.aload_n 0, 1) := by decide +kernel
theorem dX8_init_1 : decode cX8_init 1 = .ok (.invokespecial 1, 3) := by decide +kernel
theorem dX8_init_4 : decode cX8_init 4 = .ok (.aload_n 0, 1) := by decide +kernel
theorem dX8_init_5 : decode cX8_init 5 = .ok (.bipush 48, 2) := by decide +kernel
theorem dX8_init_7 : decode cX8_init 7 = .ok (.newarray .int, 2) := by decide +kernel
theorem dX8_init_9 : decode cX8_init 9 = .ok (.dup, 1) := by decide +kernel
theorem dX8_init_10 : decode cX8_init 10 = .ok (.iconst 0, 1) := by decide +kernel
theorem dX8_init_11 : decode cX8_init 11 = .ok (.bipush 104, 2) := by decide +kernel
theorem dX8_init_13 : decode cX8_init 13 = .ok (.iastore, 1) := by decide +kernel
theorem dX8_init_14 : decode cX8_init 14 = .ok (.dup, 1) := by decide +kernel
theorem dX8_init_15 : decode cX8_init 15 = .ok (.iconst 1, 1) := by decide +kernel
theorem dX8_init_16 : decode cX8_init 16 = .ok (.bipush 111, 2) := by decide +kernel
theorem dX8_init_18 : decode cX8_init 18 = .ok (.iastore, 1) := by decide +kernel
theorem dX8_init_19 : decode cX8_init 19 = .ok (.dup, 1) := by decide +kernel
theorem dX8_init_20 : decode cX8_init 20 = .ok (.iconst 2, 1) := by decide +kernel
theorem dX8_init_21 : decode cX8_init 21 = .ok (.bipush 117, 2) := by decide +kernel
theorem dX8_init_23 : decode cX8_init 23 = .ok (.iastore, 1) := by decide +kernel
theorem dX8_init_24 : decode cX8_init 24 = .ok (.dup, 1) := by decide +kernel
theorem dX8_init_25 : decode cX8_init 25 = .ok (.iconst 3, 1) := by decide +kernel
theorem dX8_init_26 : decode cX8_init 26 = .ok (.bipush 115, 2) := by decide +kernel
theorem dX8_init_28 : decode cX8_init 28 = .ok (.iastore, 1) := by decide +kernel
theorem dX8_init_29 : decode cX8_init 29 = .ok (.dup, 1) := by decide +kernel
theorem dX8_init_30 : decode cX8_init 30 = .ok (.iconst 4, 1) := by decide +kernel
theorem dX8_init_31 : decode cX8_init 31 = .ok (.bipush 101, 2) := by decide +kernel
theorem dX8_init_33 : decode cX8_init 33 = .ok (.iastore, 1) := by decide +kernel
theorem dX8_init_34 : decode cX8_init 34 = .ok (.dup, 1) := by decide +kernel
theorem dX8_init_35 : decode cX8_init 35 = .ok (.iconst 5, 1) := by decide +kernel
theorem dX8_init_36 : decode cX8_init 36 = .ok (.iconst 0, 1) := by decide +kernel
theorem dX8_init_37 : decode cX8_init 37 = .ok (.iastore, 1) := by decide +kernel
theorem dX8_init_38 : decode cX8_init 38 = .ok (.dup, 1) := by decide +kernel
theorem dX8_init_39 : decode cX8_init 39 = .ok (.bipush 6, 2) := by decide +kernel
theorem dX8_init_41 : decode cX8_init 41 = .ok (.iconst 0, 1) := by decide +kernel
theorem dX8_init_42 : decode cX8_init 42 = .ok (.iastore, 1) := by decide +kernel
theorem dX8_init_43 : decode cX8_init 43 = .ok (.dup, 1) := by decide +kernel
theorem dX8_init_44 : decode cX8_init 44 = .ok (.bipush 7, 2) := by decide +kernel
theorem dX8_init_46 : decode cX8_init 46 = .ok (.iconst 0, 1) := by decide +kernel
theorem dX8_init_47 : decode cX8_init 47 = .ok (.iastore, 1) := by decide +kernel
theorem dX8_init_48 : decode cX8_init 48 = .ok (.dup, 1) := by decide +kernel
theorem dX8_init_49 : decode cX8_init 49 = .ok (.bipush 8, 2) := by decide +kernel
theorem dX8_init_51 : decode cX8_init 51 = .ok (.bipush 108, 2) := by decide +kernel
theorem dX8_init_53 : decode cX8_init 53 = .ok (.iastore, 1) := by decide +kernel
theorem dX8_init_54 : decode cX8_init 54 = .ok (.dup, 1) := by decide +kernel
theorem dX8_init_55 : decode cX8_init 55 = .ok (.bipush 9, 2) := by decide +kernel
theorem dX8_init_57 : decode cX8_init 57 = .ok (.bipush 97, 2) := by decide +kernel
theorem dX8_init_59 : decode cX8_init 59 = .ok (.iastore, 1) := by decide +kernel
theorem dX8_init_60 : decode cX8_init 60 = .ok (.dup, 1) := by decide +kernel
theorem dX8_init_61 : decode cX8_init 61 = .ok (.bipush 10, 2) := by decide +kernel
theorem dX8_init_63 : decode cX8_init 63 = .ok (.bipush 110, 2) := by decide +kernel
theorem dX8_init_65 : decode cX8_init 65 = .ok (.iastore, 1) := by decide +kernel
theorem dX8_init_66 : decode cX8_init 66 = .ok (.dup, 1) := by decide +kernel
theorem dX8_init_67 : decode cX8_init 67 = .ok (.bipush 11, 2) := by decide +kernel
theorem dX8_init_69 : decode cX8_init 69 = .ok (.bipush 100, 2) := by decide +kernel
theorem dX8_init_71 : decode cX8_init 71 = .ok (.iastore, 1) := by decide +kernel
theorem dX8_init_72 : decode cX8_init 72 = .ok (.dup, 1) := by decide +kernel
theorem dX8_init_73 : decode cX8_init 73 = .ok (.bipush 12, 2) := by decide +kernel
theorem dX8_init_75 : decode cX8_init 75 = .ok (.bipush 108, 2) := by decide +kernel
theorem dX8_init_77 : decode cX8_init 77 = .ok (.iastore, 1) := by decide +kernel
theorem dX8_init_78 : decode cX8_init 78 = .ok (.dup, 1) := by decide +kernel
theorem dX8_init_79 : decode cX8_init 79 = .ok (.bipush 13, 2) := by decide +kernel
theorem dX8_init_81 : decode cX8_init 81 = .ok (.bipush 97, 2) := by decide +kernel
theorem dX8_init_83 : decode cX8_init 83 = .ok (.iastore, 1) := by decide +kernel
theorem dX8_init_84 : decode cX8_init 84 = .ok (.dup, 1) := by decide +kernel
theorem dX8_init_85 : decode cX8_init 85 = .ok (.bipush 14, 2) := by decide +kernel
theorem dX8_init_87 : decode cX8_init 87 = .ok (.bipush 100, 2) := by decide +kernel
theorem dX8_init_89 : decode cX8_init 89 = .ok (.iastore, 1) := by decide +kernel
theorem dX8_init_90 : decode cX8_init 90 = .ok (.dup, 1) := by decide +kernel
theorem dX8_init_91 : decode cX8_init 91 = .ok (.bipush 15, 2) := by decide +kernel
theorem dX8_init_93 : decode cX8_init 93 = .ok (.bipush 121, 2) := by decide +kernel
theorem dX8_init_95 : decode cX8_init 95 = .ok (.iastore, 1) := by decide +kernel
theorem dX8_init_96 : decode cX8_init 96 = .ok (.dup, 1) := by decide +kernel
theorem dX8_init_97 : decode cX8_init 97 = .ok (.bipush 16, 2) := by decide +kernel
theorem dX8_init_99 : decode cX8_init 99 = .ok (.bipush 108, 2) := by decide +kernel
theorem dX8_init_101 : decode cX8_init 101 = .ok (.iastore, 1) := by decide +kernel
theorem dX8_init_102 : decode cX8_init 102 = .ok (.dup, 1) := by decide +kernel
theorem dX8_init_103 : decode cX8_init 103 = .ok (.bipush 17, 2) := by decide +kernel
theorem dX8_init_105 : decode cX8_init 105 = .ok (.bipush 111, 2) := by decide +kernel
theorem dX8_init_107 : decode cX8_init 107 = .ok (.iastore, 1) := by decide +kernel
theorem dX8_init_108 : decode cX8_init 108 = .ok (.dup, 1) := by decide +kernel
theorem dX8_init_109 : decode cX8_init 109 = .ok (.bipush 18, 2) := by decide +kernel
theorem dX8_init_111 : decode cX8_init 111 = .ok (.bipush 100, 2) := by decide +kernel
theorem dX8_init_113 : decode cX8_init 113 = .ok (.iastore, 1) := by decide +kernel
theorem dX8_init_114 : decode cX8_init 114 = .ok (.dup, 1) := by decide +kernel
theorem dX8_init_115 : decode cX8_init 115 = .ok (.bipush 19, 2) := by decide +kernel
theorem dX8_init_117 : decode cX8_init 117 = .ok (.bipush 103, 2) := by decide +kernel
theorem dX8_init_119 : decode cX8_init 119 = .ok (.iastore, 1) := by decide +kernel
theorem dX8_init_120 : decode cX8_init 120 = .ok (.dup, 1) := by decide +kernel
theorem dX8_init_121 : decode cX8_init 121 = .ok (.bipush 20, 2) := by decide +kernel
theorem dX8_init_123 : decode cX8_init 123 = .ok (.bipush 101, 2) := by decide +kernel
theorem dX8_init_125 : decode cX8_init 125 = .ok (.iastore, 1) := by decide +kernel
theorem dX8_init_126 : decode cX8_init 126 = .ok (.dup, 1) := by decide +kernel
theorem dX8_init_127 : decode cX8_init 127 = .ok (.bipush 21, 2) := by decide +kernel
theorem dX8_init_129 : decode cX8_init 129 = .ok (.bipush 114, 2) := by decide +kernel
theorem dX8_init_131 : decode cX8_init 131 = .ok (.iastore, 1) := by decide +kernel
theorem dX8_init_132 : decode cX8_init 132 = .ok (.dup, 1) := by decide +kernel
theorem dX8_init_133 : decode cX8_init 133 = .ok (.bipush 22, 2) := by decide +kernel
theorem dX8_init_135 : decode cX8_init 135 = .ok (.iconst 0, 1) := by decide +kernel
theorem dX8_init_136 : decode cX8_init 136 = .ok (.iastore, 1) := by decide +kernel
theorem dX8_init_137 : decode cX8_init 137 = .ok (.dup, 1) := by decide +kernel
theorem dX8_init_138 : decode cX8_init 138 = .ok (.bipush 23, 2) := by decide +kernel
theorem dX8_init_140 : decode cX8_init 140 = .ok (.iconst 0, 1) := by decide +kernel
theorem dX8_init_141 : decode cX8_init 141 = .ok (.iastore, 1) := by decide +kernel
theorem dX8_init_142 : decode cX8_init 142 = .ok (.dup, 1) := by decide +kernel
theorem dX8_init_143 : decode cX8_init 143 = .ok (.bipush 24, 2) := by decide +kernel
theorem dX8_init_145 : decode cX8_init 145 = .ok (.bipush 112, 2) := by decide +kernel
theorem dX8_init_147 : decode cX8_init 147 = .ok (.iastore, 1) := by decide +kernel
theorem dX8_init_148 : decode cX8_init 148 = .ok (.dup, 1) := by decide +kernel
theorem dX8_init_149 : decode cX8_init 149 = .ok (.bipush 25, 2) := by decide +kernel
theorem dX8_init_151 : decode cX8_init 151 = .ok (.bipush 97, 2) := by decide +kernel
theorem dX8_init_153 : decode cX8_init 153 = .ok (.iastore, 1) := by decide +kernel
theorem dX8_init_154 : decode cX8_init 154 = .ok (.dup, 1) := by decide +kernel
theorem dX8_init_155 : decode cX8_init 155 = .ok (.bipush 26, 2) := by decide +kernel
theorem dX8_init_157 : decode cX8_init 157 = .ok (.bipush 121, 2) := by decide +kernel
theorem dX8_init_159 : decode cX8_init 159 = .ok (.iastore, 1) := by decide +kernel
theorem dX8_init_160 : decode cX8_init 160 = .ok (.dup, 1) := by decide +kernel
theorem dX8_init_161 : decode cX8_init 161 = .ok (.bipush 27, 2) := by decide +kernel
theorem dX8_init_163 : decode cX8_init 163 = .ok (.iconst 0, 1) := by decide +kernel
theorem dX8_init_164 : decode cX8_init 164 = .ok (.iastore, 1) := by decide +kernel
theorem dX8_init_165 : decode cX8_init 165 = .ok (.dup, 1) := by decide +kernel
theorem dX8_init_166 : decode cX8_init 166 = .ok (.bipush 28, 2) := by decide +kernel
theorem dX8_init_168 : decode cX8_init 168 = .ok (.iconst 0, 1) := by decide +kernel
theorem dX8_init_169 : decode cX8_init 169 = .ok (.iastore, 1) := by decide +kernel
theorem dX8_init_170 : decode cX8_init 170 = .ok (.dup, 1) := by decide +kernel
theorem dX8_init_171 : decode cX8_init 171 = .ok (.bipush 29, 2) := by decide +kernel
theorem dX8_init_173 : decode cX8_init 173 = .ok (.iconst 0, 1) := by decide +kernel
theorem dX8_init_174 : decode cX8_init 174 = .ok (.iastore, 1) := by decide +kernel
theorem dX8_init_175 : decode cX8_init 175 = .ok (.dup, 1) := by decide +kernel
theorem dX8_init_176 : decode cX8_init 176 = .ok (.bipush 30, 2) := by decide +kernel
theorem dX8_init_178 : decode cX8_init 178 = .ok (.iconst 0, 1) := by decide +kernel
theorem dX8_init_179 : decode cX8_init 179 = .ok (.iastore, 1) := by decide +kernel
theorem dX8_init_180 : decode cX8_init 180 = .ok (.dup, 1) := by decide +kernel
theorem dX8_init_181 : decode cX8_init 181 = .ok (.bipush 31, 2) := by decide +kernel
theorem dX8_init_183 : decode cX8_init 183 = .ok (.iconst 0, 1) := by decide +kernel
theorem dX8_init_184 : decode cX8_init 184 = .ok (.iastore, 1) := by decide +kernel
theorem dX8_init_185 : decode cX8_init 185 = .ok (.dup, 1) := by decide +kernel
theorem dX8_init_186 : decode cX8_init 186 = .ok (.bipush 32, 2) := by decide +kernel
theorem dX8_init_188 : decode cX8_init 188 = .ok (.bipush 109, 2) := by decide +kernel
theorem dX8_init_190 : decode cX8_init 190 = .ok (.iastore, 1) := by decide +kernel
theorem dX8_init_191 : decode cX8_init 191 = .ok (.dup, 1) := by decide +kernel
theorem dX8_init_192 : decode cX8_init 192 = .ok (.bipush 33, 2) := by decide +kernel
theorem dX8_init_194 : decode cX8_init 194 = .ok (.bipush 111, 2) := by decide +kernel
theorem dX8_init_196 : decode cX8_init 196 = .ok (.iastore, 1) := by decide +kernel
theorem dX8_init_197 : decode cX8_init 197 = .ok (.dup, 1) := by decide +kernel
theorem dX8_init_198 : decode cX8_init 198 = .ok (.bipush 34, 2) := by decide +kernel
theorem dX8_init_200 : decode cX8_init 200 = .ok (.bipush 118, 2) := by decide +kernel
theorem dX8_init_202 : decode cX8_init 202 = .ok (.iastore, 1) := by decide +kernel
theorem dX8_init_203 : decode cX8_init 203 = .ok (.dup, 1) := by decide +kernel
theorem dX8_init_204 : decode cX8_init 204 = .ok (.bipush 35, 2) := by decide +kernel
theorem dX8_init_206 : decode cX8_init 206 = .ok (.bipush 101, 2) := by decide +kernel
theorem dX8_init_208 : decode cX8_init 208 = .ok (.iastore, 1) := by decide +kernel
theorem dX8_init_209 : decode cX8_init 209 = .ok (.dup, 1) := by decide +kernel
theorem dX8_init_210 : decode cX8_init 210 = .ok (.bipush 36, 2) := by decide +kernel
theorem dX8_init_212 : decode cX8_init 212 = .ok (.iconst 0, 1) := by decide +kernel
theorem dX8_init_213 : decode cX8_init 213 = .ok (.iastore, 1) := by decide +kernel
theorem dX8_init_214 : decode cX8_init 214 = .ok (.dup, 1) := by decide +kernel
theorem dX8_init_215 : decode cX8_init 215 = .ok (.bipush 37, 2) := by decide +kernel
theorem dX8_init_217 : decode cX8_init 217 = .ok (.iconst 0, 1) := by decide +kernel
theorem dX8_init_218 : decode cX8_init 218 = .ok (.iastore, 1) := by decide +kernel
theorem dX8_init_219 : decode cX8_init 219 = .ok (.dup, 1) := by decide +kernel
theorem dX8_init_220 : decode cX8_init 220 = .ok (.bipush 38, 2) := by decide +kernel
theorem dX8_init_222 : decode cX8_init 222 = .ok (.iconst 0, 1) := by decide +kernel
theorem dX8_init_223 : decode cX8_init 223 = .ok (.iastore, 1) := by decide +kernel
theorem dX8_init_224 : decode cX8_init 224 = .ok (.dup, 1) := by decide +kernel
theorem dX8_init_225 : decode cX8_init 225 = .ok (.bipush 39, 2) := by decide +kernel
theorem dX8_init_227 : decode cX8_init 227 = .ok (.iconst 0, 1) := by decide +kernel
theorem dX8_init_228 : decode cX8_init 228 = .ok (.iastore, 1) := by decide +kernel
theorem dX8_init_229 : decode cX8_init 229 = .ok (.dup, 1) := by decide +kernel
theorem dX8_init_230 : decode cX8_init 230 = .ok (.bipush 40, 2) := by decide +kernel
theorem dX8_init_232 : decode cX8_init 232 = .ok (.bipush 100, 2) := by decide +kernel
theorem dX8_init_234 : decode cX8_init 234 = .ok (.iastore, 1) := by decide +kernel
theorem dX8_init_235 : decode cX8_init 235 = .ok (.dup, 1) := by decide +kernel
theorem dX8_init_236 : decode cX8_init 236 = .ok (.bipush 41, 2) := by decide +kernel
theorem dX8_init_238 : decode cX8_init 238 = .ok (.bipush 97, 2) := by decide +kernel
theorem dX8_init_240 : decode cX8_init 240 = .ok (.iastore, 1) := by decide +kernel
theorem dX8_init_241 : decode cX8_init 241 = .ok (.dup, 1) := by decide +kernel
theorem dX8_init_242 : decode cX8_init 242 = .ok (.bipush 42, 2) := by decide +kernel
theorem dX8_init_244 : decode cX8_init 244 = .ok (.bipush 121, 2) := by decide +kernel
theorem dX8_init_246 : decode cX8_init 246 = .ok (.iastore, 1) := by decide +kernel
theorem dX8_init_247 : decode cX8_init 247 = .ok (.dup, 1) := by decide +kernel
theorem dX8_init_248 : decode cX8_init 248 = .ok (.bipush 43, 2) := by decide +kernel
theorem dX8_init_250 : decode cX8_init 250 = .ok (.bipush 115, 2) := by decide +kernel
theorem dX8_init_252 : decode cX8_init 252 = .ok (.iastore, 1) := by decide +kernel
theorem dX8_init_253 : decode cX8_init 253 = .ok (.dup, 1) := by decide +kernel
theorem dX8_init_254 : decode cX8_init 254 = .ok (.bipush 44, 2) := by decide +kernel
theorem dX8_init_256 : decode cX8_init 256 = .ok (.iconst 0, 1) := by decide +kernel
theorem dX8_init_257 : decode cX8_init 257 = .ok (.iastore, 1) := by decide +kernel
theorem dX8_init_258 : decode cX8_init 258 = .ok (.dup, 1) := by decide +kernel
theorem dX8_init_259 : decode cX8_init 259 = .ok (.bipush 45, 2) := by decide +kernel
theorem dX8_init_261 : decode cX8_init 261 = .ok (.iconst 0, 1) := by decide +kernel
theorem dX8_init_262 : decode cX8_init 262 = .ok (.iastore, 1) := by decide +kernel
theorem dX8_init_263 : decode cX8_init 263 = .ok (.dup, 1) := by decide +kernel
theorem dX8_init_264 : decode cX8_init 264 = .ok (.bipush 46, 2) := by decide +kernel
theorem dX8_init_266 : decode cX8_init 266 = .ok (.iconst 0, 1) := by decide +kernel
theorem dX8_init_267 : decode cX8_init 267 = .ok (.iastore, 1) := by decide +kernel
theorem dX8_init_268 : decode cX8_init 268 = .ok (.dup, 1) := by decide +kernel
theorem dX8_init_269 : decode cX8_init 269 = .ok (.bipush 47, 2) := by decide +kernel
theorem dX8_init_271 : decode cX8_init 271 = .ok (.iconst 0, 1) := by decide +kernel
theorem dX8_init_272 : decode cX8_init 272 = .ok (.iastore, 1) := by decide +kernel
theorem dX8_init_273 : decode cX8_init 273 = .ok (.putfield 7, 3) := by decide +kernel
theorem dX8_init_276 : decode cX8_init 276 = .ok (.aload_n 0, 1) := by decide +kernel
theorem dX8_init_277 : decode cX8_init 277 = .ok (.bipush 24, 2) := by decide +kernel
theorem dX8_init_279 : decode cX8_init 279 = .ok (.newarray .int, 2) := by decide +kernel
theorem dX8_init_281 : decode cX8_init 281 = .ok (.dup, 1) := by decide +kernel
theorem dX8_init_282 : decode cX8_init 282 = .ok (.iconst 0, 1) := by decide +kernel
theorem dX8_init_283 : decode cX8_init 283 = .ok (.bipush 97, 2) := by decide +kernel
theorem dX8_init_285 : decode cX8_init 285 = .ok (.iastore, 1) := by decide +kernel
theorem dX8_init_286 : decode cX8_init 286 = .ok (.dup, 1) := by decide +kernel
theorem dX8_init_287 : decode cX8_init 287 = .ok (.iconst 1, 1) := by decide +kernel
theorem dX8_init_288 : decode cX8_init 288 = .ok (.bipush 110, 2) := by decide +kernel
theorem dX8_init_290 : decode cX8_init 290 = .ok (.iastore, 1) := by decide +kernel
theorem dX8_init_291 : decode cX8_init 291 = .ok (.dup, 1) := by decide +kernel
theorem dX8_init_292 : decode cX8_init 292 = .ok (.iconst 2, 1) := by decide +kernel
theorem dX8_init_293 : decode cX8_init 293 = .ok (.bipush 110, 2) := by decide +kernel
theorem dX8_init_295 : decode cX8_init 295 = .ok (.iastore, 1) := by decide +kernel
theorem dX8_init_296 : decode cX8_init 296 = .ok (.dup, 1) := by decide +kernel
theorem dX8_init_297 : decode cX8_init 297 = .ok (.iconst 3, 1) := by decide +kernel
theorem dX8_init_298 : decode cX8_init 298 = .ok (.iconst 0, 1) := by decide +kernel
theorem dX8_init_299 : decode cX8_init 299 = .ok (.iastore, 1) := by decide +kernel
theorem dX8_init_300 : decode cX8_init 300 = .ok (.dup, 1) := by decide +kernel
theorem dX8_init_301 : decode cX8_init 301 = .ok (.iconst 4, 1) := by decide +kernel
theorem dX8_init_302 : decode cX8_init 302 = .ok (.bipush 20, 2) := by decide +kernel
theorem dX8_init_304 : decode cX8_init 304 = .ok (.iastore, 1) := by decide +kernel
theorem dX8_init_305 : decode cX8_init 305 = .ok (.dup, 1) := by decide +kernel
theorem dX8_init_306 : decode cX8_init 306 = .ok (.iconst 5, 1) := by decide +kernel
theorem dX8_init_307 : decode cX8_init 307 = .ok (.ldc 13, 2) := by decide +kernel
theorem dX8_init_309 : decode cX8_init 309 = .ok (.iastore, 1) := by decide +kernel
theorem dX8_init_310 : decode cX8_init 310 = .ok (.dup, 1) := by decide +kernel
theorem dX8_init_311 : decode cX8_init 311 = .ok (.bipush 6, 2) := by decide +kernel
theorem dX8_init_313 : decode cX8_init 313 = .ok (.bipush 98, 2) := by decide +kernel
theorem dX8_init_315 : decode cX8_init 315 = .ok (.iastore, 1) := by decide +kernel
theorem dX8_init_316 : decode cX8_init 316 = .ok (.dup, 1) := by decide +kernel
theorem dX8_init_317 : decode cX8_init 317 = .ok (.bipush 7, 2) := by decide +kernel
theorem dX8_init_319 : decode cX8_init 319 = .ok (.bipush 111, 2) := by decide +kernel
theorem dX8_init_321 : decode cX8_init 321 = .ok (.iastore, 1) := by decide +kernel
theorem dX8_init_322 : decode cX8_init 322 = .ok (.dup, 1) := by decide +kernel
theorem dX8_init_323 : decode cX8_init 323 = .ok (.bipush 8, 2) := by decide +kernel
theorem dX8_init_325 : decode cX8_init 325 = .ok (.bipush 98, 2) := by decide +kernel
theorem dX8_init_327 : decode cX8_init 327 = .ok (.iastore, 1) := by decide +kernel
theorem dX8_init_328 : decode cX8_init 328 = .ok (.dup, 1) := by decide +kernel
theorem dX8_init_329 : decode cX8_init 329 = .ok (.bipush 9, 2) := by decide +kernel
theorem dX8_init_331 : decode cX8_init 331 = .ok (.iconst 0, 1) := by decide +kernel
theorem dX8_init_332 : decode cX8_init 332 = .ok (.iastore, 1) := by decide +kernel
theorem dX8_init_333 : decode cX8_init 333 = .ok (.dup, 1) := by decide +kernel
theorem dX8_init_334 : decode cX8_init 334 = .ok (.bipush 10, 2) := by decide +kernel
theorem dX8_init_336 : decode cX8_init 336 = .ok (.iconst 3, 1) := by decide +kernel
theorem dX8_init_337 : decode cX8_init 337 = .ok (.iastore, 1) := by decide +kernel
theorem dX8_init_338 : decode cX8_init 338 = .ok (.dup, 1) := by decide +kernel
theorem dX8_init_339 : decode cX8_init 339 = .ok (.bipush 11, 2) := by decide +kernel
theorem dX8_init_341 : decode cX8_init 341 = .ok (.sipush 4444, 3) := by decide +kernel
theorem dX8_init_344 : decode cX8_init 344 = .ok (.iastore, 1) := by decide +kernel
theorem dX8_init_345 : decode cX8_init 345 = .ok (.dup, 1) := by decide +kernel
theorem dX8_init_346 : decode cX8_init 346 = .ok (.bipush 12, 2) := by decide +kernel
theorem dX8_init_348 : decode cX8_init 348 = .ok (.bipush 99, 2) := by decide +kernel
theorem dX8_init_350 : decode cX8_init 350 = .ok (.iastore, 1) := by decide +kernel
theorem dX8_init_351 : decode cX8_init 351 = .ok (.dup, 1) := by decide +kernel
theorem dX8_init_352 : decode cX8_init 352 = .ok (.bipush 13, 2) := by decide +kernel
theorem dX8_init_354 : decode cX8_init 354 = .ok (.bipush 105, 2) := by decide +kernel
theorem dX8_init_356 : decode cX8_init 356 = .ok (.iastore, 1) := by decide +kernel
theorem dX8_init_357 : decode cX8_init 357 = .ok (.dup, 1) := by decide +kernel
theorem dX8_init_358 : decode cX8_init 358 = .ok (.bipush 14, 2) := by decide +kernel
theorem dX8_init_360 : decode cX8_init 360 = .ok (.bipush 100, 2) := by decide +kernel
theorem dX8_init_362 : decode cX8_init 362 = .ok (.iastore, 1) := by decide +kernel
theorem dX8_init_363 : decode cX8_init 363 = .ok (.dup, 1) := by decide +kernel
theorem dX8_init_364 : decode cX8_init 364 = .ok (.bipush 15, 2) := by decide +kernel
theorem dX8_init_366 : decode cX8_init 366 = .ok (.iconst 1, 1) := by decide +kernel
theorem dX8_init_367 : decode cX8_init 367 = .ok (.iastore, 1) := by decide +kernel
theorem dX8_init_368 : decode cX8_init 368 = .ok (.dup, 1) := by decide +kernel
theorem dX8_init_369 : decode cX8_init 369 = .ok (.bipush 16, 2) := by decide +kernel
theorem dX8_init_371 : decode cX8_init 371 = .ok (.iconst 0, 1) := by decide +kernel
theorem dX8_init_372 : decode cX8_init 372 = .ok (.iastore, 1) := by decide +kernel
theorem dX8_init_373 : decode cX8_init 373 = .ok (.dup, 1) := by decide +kernel
theorem dX8_init_374 : decode cX8_init 374 = .ok (.bipush 17, 2) := by decide +kernel
theorem dX8_init_376 : decode cX8_init 376 = .ok (.ldc 14, 2) := by decide +kernel
theorem dX8_init_378 : decode cX8_init 378 = .ok (.iastore, 1) := by decide +kernel
theorem dX8_init_379 : decode cX8_init 379 = .ok (.dup, 1) := by decide +kernel
theorem dX8_init_380 : decode cX8_init 380 = .ok (.bipush 18, 2) := by decide +kernel
theorem dX8_init_382 : decode cX8_init 382 = .ok (.bipush 100, 2) := by decide +kernel
theorem dX8_init_384 : decode cX8_init 384 = .ok (.iastore, 1) := by decide +kernel
theorem dX8_init_385 : decode cX8_init 385 = .ok (.dup, 1) := by decide +kernel
theorem dX8_init_386 : decode cX8_init 386 = .ok (.bipush 19, 2) := by decide +kernel
theorem dX8_init_388 : decode cX8_init 388 = .ok (.bipush 111, 2) := by decide +kernel
theorem dX8_init_390 : decode cX8_init 390 = .ok (.iastore, 1) := by decide +kernel
theorem dX8_init_391 : decode cX8_init 391 = .ok (.dup, 1) := by decide +kernel
theorem dX8_init_392 : decode cX8_init 392 = .ok (.bipush 20, 2) := by decide +kernel
theorem dX8_init_394 : decode cX8_init 394 = .ok (.bipush 116, 2) := by decide +kernel
theorem dX8_init_396 : decode cX8_init 396 = .ok (.iastore, 1) := by decide +kernel
theorem dX8_init_397 : decode cX8_init 397 = .ok (.dup, 1) := by decide +kernel
theorem dX8_init_398 : decode cX8_init 398 = .ok (.bipush 21, 2) := by decide +kernel
theorem dX8_init_400 : decode cX8_init 400 = .ok (.iconst 1, 1) := by decide +kernel
theorem dX8_init_401 : decode cX8_init 401 = .ok (.iastore, 1) := by decide +kernel
theorem dX8_init_402 : decode cX8_init 402 = .ok (.dup, 1) := by decide +kernel
theorem dX8_init_403 : decode cX8_init 403 = .ok (.bipush 22, 2) := by decide +kernel
theorem dX8_init_405 : decode cX8_init 405 = .ok (.bipush 40, 2) := by decide +kernel
theorem dX8_init_407 : decode cX8_init 407 = .ok (.iastore, 1) := by decide +kernel
theorem dX8_init_408 : decode cX8_init 408 = .ok (.dup, 1) := by decide +kernel
theorem dX8_init_409 : decode cX8_init 409 = .ok (.bipush 23, 2) := by decide +kernel
theorem dX8_init_411 : decode cX8_init 411 = .ok (.ldc 15, 2) := by decide +kernel
theorem dX8_init_413 : decode cX8_init 413 = .ok (.iastore, 1) := by decide +kernel
theorem dX8_init_414 : decode cX8_init 414 = .ok (.putfield 16, 3) := by decide +kernel
theorem dX8_init_417 : decode cX8_init 417 = .ok (.aload_n 0, 1) := by decide +kernel
theorem dX8_init_418 : decode cX8_init 418 = .ok (.sipush 205, 3) := by decide +kernel
theorem dX8_init_421 : decode cX8_init 421 = .ok (.newarray .int, 2) := by decide +kernel
theorem dX8_init_423 : decode cX8_init 423 = .ok (.putfield 19, 3) := by decide +kernel
theorem dX8_init_426 : decode cX8_init 426 = .ok (.aload_n 0, 1) := by decide +kernel
theorem dX8_init_427 : decode cX8_init 427 = .ok (.sipush 205, 3) := by decide +kernel
theorem dX8_init_430 : decode cX8_init 430 = .ok (.newarray .int, 2) := by decide +kernel
theorem dX8_init_432 : decode cX8_init 432 = .ok (.putfield 22, 3) := by decide +kernel
theorem dX8_init_435 : decode cX8_init 435 = .ok (.aload_n 0, 1) := by decide +kernel
theorem dX8_init_436 : decode cX8_init 436 = .ok (.sipush 2050, 3) := by decide +kernel
theorem dX8_init_439 : decode cX8_init 439 = .ok (.newarray .int, 2) := by decide +kernel
theorem dX8_init_441 : decode cX8_init 441 = .ok (.putfield 25, 3) := by decide +kernel
theorem dX8_init_444 : decode cX8_init 444 = .ok (.aload_n 0, 1) := by decide +kernel
theorem dX8_init_445 : decode cX8_init 445 = .ok (.sipush 410, 3) := by decide +kernel
theorem dX8_init_448 : decode cX8_init 448 = .ok (.newarray .int, 2) := by decide +kernel
theorem dX8_init_450 : decode cX8_init 450 = .ok (.putfield 28, 3) := by decide +kernel
theorem dX8_init_453 : decode cX8_init 453 = .ok (.aload_n 0, 1) := by decide +kernel
theorem dX8_init_454 : decode cX8_init 454 = .ok (.bipush 25, 2) := by decide +kernel
theorem dX8_init_456 : decode cX8_init 456 = .ok (.newarray .int, 2) := by decide +kernel
theorem dX8_init_458 : decode cX8_init 458 = .ok (.putfield 31, 3) := by decide +kernel
theorem dX8_init_461 : decode cX8_init 461 = .ok (.aload_n 0, 1) := by decide +kernel
theorem dX8_init_462 : decode cX8_init 462 = .ok (.iconst 5, 1) := by decide +kernel
theorem dX8_init_463 : decode cX8_init 463 = .ok (.newarray .int, 2) := by decide +kernel
theorem dX8_init_465 : decode cX8_init 465 = .ok (.putfield 34, 3) := by decide +kernel
theorem dX8_init_468 : decode cX8_init 468 = .ok (.aload_n 0, 1) := by decide +kernel
theorem dX8_init_469 : decode cX8_init 469 = .ok (.iconst (-1), 1) := by decide +kernel
theorem dX8_init_470 : decode cX8_init 470 = .ok (.putfield 37, 3) := by decide +kernel
theorem dX8_init_473 : decode cX8_init 473 = .ok (.aload_n 0, 1) := by decide +kernel
theorem dX8_init_474 : decode cX8_init 474 = .ok (.sipush 600, 3) := by decide +kernel
theorem dX8_init_477 : decode cX8_init 477 = .ok (.newarray .byte, 2) := by decide +kernel
theorem dX8_init_479 : decode cX8_init 479 = .ok (.putfield 41, 3) := by decide +kernel
theorem dX8_init_482 : decode cX8_init 482 = .ok (.aload_n 0, 1) := by decide +kernel
theorem dX8_init_483 : decode cX8_init 483 = .ok (.bipush 60, 2) := by decide +kernel
theorem dX8_init_485 : decode cX8_init 485 = .ok (.newarray .char, 2) := by decide +kernel
theorem dX8_init_487 : decode cX8_init 487 = .ok (.putfield 45, 3) := by decide +kernel
theorem dX8_init_490 : decode cX8_init 490 = .ok (.aload_n 0, 1) := by decide +kernel
theorem dX8_init_491 : decode cX8_init 491 = .ok (.iconst (-1), 1) := by decide +kernel
theorem dX8_init_492 : decode cX8_init 492 = .ok (.putfield 49, 3) := by decide +kernel
theorem dX8_init_495 : decode cX8_init 495 = .ok (.aload_n 0, 1) := by decide +kernel
theorem dX8_init_496 : decode cX8_init 496 = .ok (.getfield 19, 3) := by decide +kernel
theorem dX8_init_499 : decode cX8_init 499 = .ok (.iconst 0, 1) := by decide +kernel
theorem dX8_init_500 : decode cX8_init 500 = .ok (.iconst 5, 1) := by decide +kernel
theorem dX8_init_501 : decode cX8_init 501 = .ok (.iastore, 1) := by decide +kernel
theorem dX8_init_502 : decode cX8_init 502 = .ok (.aload_n 0, 1) := by decide +kernel
theorem dX8_init_503 : decode cX8_init 503 = .ok (.getfield 19, 3) := by decide +kernel
theorem dX8_init_506 : decode cX8_init 506 = .ok (.iconst 1, 1) := by decide +kernel
theorem dX8_init_507 : decode cX8_init 507 = .ok (.bipush 6, 2) := by decide +kernel
theorem dX8_init_509 : decode cX8_init 509 = .ok (.iastore, 1) := by decide +kernel
theorem dX8_init_510 : decode cX8_init 510 = .ok (.iconst 0, 1) := by decide +kernel
theorem dX8_init_511 : decode cX8_init 511 = .ok (.istore_n 1, 1) := by decide +kernel
theorem dX8_init_512 : decode cX8_init 512 = .ok (.iload_n 1, 1) := by decide +kernel
theorem dX8_init_513 : decode cX8_init 513 = .ok (.iconst 5, 1) := by decide +kernel
theorem dX8_init_514 : decode cX8_init 514 = .ok (.if_icmp .ge 18, 3) := by decide +kernel
theorem dX8_init_517 : decode cX8_init 517 = .ok (.aload_n 0, 1) := by decide +kernel
theorem dX8_init_518 : decode cX8_init 518 = .ok (.getfield 19, 3) := by decide +kernel
theorem dX8_init_521 : decode cX8_init 521 = .ok (.iconst 2, 1) := by decide +kernel
theorem dX8_init_522 : decode cX8_init 522 = .ok (.iload_n 1, 1) := by decide +kernel
theorem dX8_init_523 : decode cX8_init 523 = .ok (.iadd, 1) := by decide +kernel
theorem dX8_init_524 : decode cX8_init 524 = .ok (.iconst 4, 1) := by decide +kernel
theorem dX8_init_525 : decode cX8_init 525 = .ok (.iastore, 1) := by decide +kernel
theorem dX8_init_526 : decode cX8_init 526 = .ok (.iinc 1 1, 3) := by decide +kernel
theorem dX8_init_529 : decode cX8_init 529 = .ok (.goto (-17), 3) := by decide +kernel
theorem dX8_init_532 : decode cX8_init 532 = .ok (.iconst 0, 1) := by decide +kernel
theorem dX8_init_533 : decode cX8_init 533 = .ok (.istore_n 1, 1) := by decide +kernel
theorem dX8_init_534 : decode cX8_init 534 = .ok (.iload_n 1, 1) := by decide +kernel
theorem dX8_init_535 : decode cX8_init 535 = .ok (.iconst 4, 1) := by decide +kernel
theorem dX8_init_536 : decode cX8_init 536 = .ok (.if_icmp .ge 84, 3) := by decide +kernel
theorem dX8_init_539 : decode cX8_init 539 = .ok (.aload_n 0, 1) := by decide +kernel
theorem dX8_init_540 : decode cX8_init 540 = .ok (.aload_n 0, 1) := by decide +kernel
theorem dX8_init_541 : decode cX8_init 541 = .ok (.getfield 16, 3) := by decide +kernel
theorem dX8_init_544 : decode cX8_init 544 = .ok (.bipush 6, 2) := by decide +kernel
theorem dX8_init_546 : decode cX8_init 546 = .ok (.iload_n 1, 1) := by decide +kernel
theorem dX8_init_547 : decode cX8_init 547 = .ok (.imul, 1) := by decide +kernel
theorem dX8_init_548 : decode cX8_init 548 = .ok (.iconst 3, 1) := by decide +kernel
theorem dX8_init_549 : decode cX8_init 549 = .ok (.iadd, 1) := by decide +kernel
theorem dX8_init_550 : decode cX8_init 550 = .ok (.iaload, 1) := by decide +kernel
theorem dX8_init_551 : decode cX8_init 551 = .ok (.aload_n 0, 1) := by decide +kernel
theorem dX8_init_552 : decode cX8_init 552 = .ok (.getfield 16, 3) := by decide +kernel
theorem dX8_init_555 : decode cX8_init 555 = .ok (.bipush 6, 2) := by decide +kernel
theorem dX8_init_557 : decode cX8_init 557 = .ok (.iload_n 1, 1) := by decide +kernel
theorem dX8_init_558 : decode cX8_init 558 = .ok (.imul, 1) := by decide +kernel
theorem dX8_init_559 : decode cX8_init 559 = .ok (.iconst 4, 1) := by decide +kernel
theorem dX8_init_560 : decode cX8_init 560 = .ok (.iadd, 1) := by decide +kernel
theorem dX8_init_561 : decode cX8_init 561 = .ok (.iaload, 1) := by decide +kernel
theorem dX8_init_562 : decode cX8_init 562 = .ok (.aload_n 0, 1) := by decide +kernel
theorem dX8_init_563 : decode cX8_init 563 = .ok (.getfield 16, 3) := by decide +kernel
theorem dX8_init_566 : decode cX8_init 566 = .ok (.bipush 6, 2) := by decide +kernel
theorem dX8_init_568 : decode cX8_init 568 = .ok (.iload_n 1, 1) := by decide +kernel
theorem dX8_init_569 : decode cX8_init 569 = .ok (.imul, 1) := by decide +kernel
theorem dX8_init_570 : decode cX8_init 570 = .ok (.iconst 5, 1) := by decide +kernel
theorem dX8_init_571 : decode cX8_init 571 = .ok (.iadd, 1) := by decide +kernel
theorem dX8_init_572 : decode cX8_init 572 = .ok (.iaload, 1) := by decide +kernel
theorem dX8_init_573 : decode cX8_init 573 = .ok (.invokevirtual 52, 3) := by decide +kernel
theorem dX8_init_576 : decode cX8_init 576 = .ok (.iconst 0, 1) := by decide +kernel
theorem dX8_init_577 : decode cX8_init 577 = .ok (.istore_n 2, 1) := by decide +kernel
theorem dX8_init_578 : decode cX8_init 578 = .ok (.iload_n 2, 1) := by decide +kernel
theorem dX8_init_579 : decode cX8_init 579 = .ok (.iconst 3, 1) := by decide +kernel
theorem dX8_init_580 : decode cX8_init 580 = .ok (.if_icmp .ge 34, 3) := by decide +kernel
theorem dX8_init_583 : decode cX8_init 583 = .ok (.aload_n 0, 1) := by decide +kernel
theorem dX8_init_584 : decode cX8_init 584 = .ok (.getfield 19, 3) := by decide +kernel
theorem dX8_init_587 : decode cX8_init 587 = .ok (.iload_n 1, 1) := by decide +kernel
theorem dX8_init_588 : decode cX8_init 588 = .ok (.invokestatic 56, 3) := by decide +kernel
theorem dX8_init_591 : decode cX8_init 591 = .ok (.bipush 10, 2) := by decide +kernel
theorem dX8_init_593 : decode cX8_init 593 = .ok (.iadd, 1) := by decide +kernel
theorem dX8_init_594 : decode cX8_init 594 = .ok (.iload_n 2, 1) := by decide +kernel
theorem dX8_init_595 : decode cX8_init 595 = .ok (.iadd, 1) := by decide +kernel
theorem dX8_init_596 : decode cX8_init 596 = .ok (.aload_n 0, 1) := by decide +kernel
theorem dX8_init_597 : decode cX8_init 597 = .ok (.getfield 16, 3) := by decide +kernel
theorem dX8_init_600 : decode cX8_init 600 = .ok (.bipush 6, 2) := by decide +kernel
theorem dX8_init_602 : decode cX8_init 602 = .ok (.iload_n 1, 1) := by decide +kernel
theorem dX8_init_603 : decode cX8_init 603 = .ok (.imul, 1) := by decide +kernel
theorem dX8_init_604 : decode cX8_init 604 = .ok (.iload_n 2, 1) := by decide +kernel
theorem dX8_init_605 : decode cX8_init 605 = .ok (.iadd, 1) := by decide +kernel
theorem dX8_init_606 : decode cX8_init 606 = .ok (.iaload, 1) := by decide +kernel
theorem dX8_init_607 : decode cX8_init 607 = .ok (.iastore, 1) := by decide +kernel
theorem dX8_init_608 : decode cX8_init 608 = .ok (.iinc 2 1, 3) := by decide +kernel
theorem dX8_init_611 : decode cX8_init 611 = .ok (.goto (-33), 3) := by decide +kernel
theorem dX8_init_614 : decode cX8_init 614 = .ok (.iinc 1 1, 3) := by decide +kernel
theorem dX8_init_617 : decode cX8_init 617 = .ok (.goto (-83), 3) := by decide +kernel
theorem dX8_init_620 : decode cX8_init 620 = .ok (.aload_n 0, 1) := by decide +kernel
theorem dX8_init_621 : decode cX8_init 621 = .ok (.invokevirtual 60, 3) := by decide +kernel
theorem dX8_init_624 : decode cX8_init 624 = .ok (.return_, 1) := by decide +kernel
theorem dX8_thrown_0 : decode cX8_thrown 0 = .ok (.aload_n 0, 1) := by decide +kernel
theorem dX8_thrown_1 : decode cX8_thrown 1 = .ok (.getfield 63, 3) := by decide +kernel
theorem dX8_thrown_4 : decode cX8_thrown 4 = .ok (.ireturn, 1) := by decide +kernel
theorem dX8_refuse_0 : decode cX8_refuse 0 = .ok (.aload_n 0, 1) := by decide +kernel
theorem dX8_refuse_1 : decode cX8_refuse 1 = .ok (.iload_n 1, 1) := by decide +kernel
theorem dX8_refuse_2 : decode cX8_refuse 2 = .ok (.putfield 63, 3) := by decide +kernel
theorem dX8_refuse_5 : decode cX8_refuse 5 = .ok (.iconst 0, 1) := by decide +kernel
theorem dX8_refuse_6 : decode cX8_refuse 6 = .ok (.ireturn, 1) := by decide +kernel
theorem dX8_told_0 : decode cX8_told 0 = .ok (.aload_n 0, 1) := by decide +kernel
theorem dX8_told_1 : decode cX8_told 1 = .ok (.iconst 0, 1) := by decide +kernel
theorem dX8_told_2 : decode cX8_told 2 = .ok (.putfield 63, 3) := by decide +kernel
theorem dX8_told_5 : decode cX8_told 5 = .ok (.iload_n 1, 1) := by decide +kernel
theorem dX8_told_6 : decode cX8_told 6 = .ok (.ireturn, 1) := by decide +kernel
theorem dX8_says_0 : decode cX8_says 0 = .ok (.aload_n 0, 1) := by decide +kernel
theorem dX8_says_1 : decode cX8_says 1 = .ok (.iconst 0, 1) := by decide +kernel
theorem dX8_says_2 : decode cX8_says 2 = .ok (.putfield 63, 3) := by decide +kernel
theorem dX8_says_5 : decode cX8_says 5 = .ok (.iload_n 1, 1) := by decide +kernel
theorem dX8_says_6 : decode cX8_says 6 = .ok (.ireturn, 1) := by decide +kernel
theorem dX8_in_0 : decode cX8_in 0 = .ok (.iload_n 0, 1) := by decide +kernel
theorem dX8_in_1 : decode cX8_in 1 = .ok (.iload_n 1, 1) := by decide +kernel
theorem dX8_in_2 : decode cX8_in 2 = .ok (.if_icmp .lt 12, 3) := by decide +kernel
theorem dX8_in_5 : decode cX8_in 5 = .ok (.iload_n 0, 1) := by decide +kernel
theorem dX8_in_6 : decode cX8_in 6 = .ok (.iload_n 2, 1) := by decide +kernel
theorem dX8_in_7 : decode cX8_in 7 = .ok (.if_icmp .gt 7, 3) := by decide +kernel
theorem dX8_in_10 : decode cX8_in 10 = .ok (.iconst 1, 1) := by decide +kernel
theorem dX8_in_11 : decode cX8_in 11 = .ok (.goto 4, 3) := by decide +kernel
theorem dX8_in_14 : decode cX8_in 14 = .ok (.iconst 0, 1) := by decide +kernel
theorem dX8_in_15 : decode cX8_in 15 = .ok (.ireturn, 1) := by decide +kernel
theorem dX8_without_0 : decode cX8_without 0 = .ok (.iload_n 0, 1) := by decide +kernel
theorem dX8_without_1 : decode cX8_without 1 = .ok (.ifCond .ge 8, 3) := by decide +kernel
theorem dX8_without_4 : decode cX8_without 4 = .ok (.iload_n 0, 1) := by decide +kernel
theorem dX8_without_5 : decode cX8_without 5 = .ok (.ineg, 1) := by decide +kernel
theorem dX8_without_6 : decode cX8_without 6 = .ok (.goto 4, 3) := by decide +kernel
theorem dX8_without_9 : decode cX8_without 9 = .ok (.iload_n 0, 1) := by decide +kernel
theorem dX8_without_10 : decode cX8_without 10 = .ok (.ireturn, 1) := by decide +kernel
theorem dX8_l_0 : decode cX8_l 0 = .ok (.bipush 13, 2) := by decide +kernel
theorem dX8_l_2 : decode cX8_l 2 = .ok (.bipush 16, 2) := by decide +kernel
theorem dX8_l_4 : decode cX8_l 4 = .ok (.iload_n 0, 1) := by decide +kernel
theorem dX8_l_5 : decode cX8_l 5 = .ok (.imul, 1) := by decide +kernel
theorem dX8_l_6 : decode cX8_l 6 = .ok (.iadd, 1) := by decide +kernel
theorem dX8_l_7 : decode cX8_l 7 = .ok (.ireturn, 1) := by decide +kernel
theorem dX8_isLodger_0 : decode cX8_isLodger 0 = .ok (.iload_n 1, 1) := by decide +kernel
theorem dX8_isLodger_1 : decode cX8_isLodger 1 = .ok (.iconst 0, 1) := by decide +kernel
theorem dX8_isLodger_2 : decode cX8_isLodger 2 = .ok (.aload_n 0, 1) := by decide +kernel
theorem dX8_isLodger_3 : decode cX8_isLodger 3 = .ok (.getfield 19, 3) := by decide +kernel
theorem dX8_isLodger_6 : decode cX8_isLodger 6 = .ok (.bipush 7, 2) := by decide +kernel
theorem dX8_isLodger_8 : decode cX8_isLodger 8 = .ok (.iaload, 1) := by decide +kernel
theorem dX8_isLodger_9 : decode cX8_isLodger 9 = .ok (.iconst 1, 1) := by decide +kernel
theorem dX8_isLodger_10 : decode cX8_isLodger 10 = .ok (.isub, 1) := by decide +kernel
theorem dX8_isLodger_11 : decode cX8_isLodger 11 = .ok (.invokestatic 66, 3) := by decide +kernel
theorem dX8_isLodger_14 : decode cX8_isLodger 14 = .ok (.ireturn, 1) := by decide +kernel
theorem dX8_isFloor_0 : decode cX8_isFloor 0 = .ok (.iload_n 0, 1) := by decide +kernel
theorem dX8_isFloor_1 : decode cX8_isFloor 1 = .ok (.iconst 0, 1) := by decide +kernel
theorem dX8_isFloor_2 : decode cX8_isFloor 2 = .ok (.iconst 4, 1) := by decide +kernel
theorem dX8_isFloor_3 : decode cX8_isFloor 3 = .ok (.invokestatic 66, 3) := by decide +kernel
theorem dX8_isFloor_6 : decode cX8_isFloor 6 = .ok (.ireturn, 1) := by decide +kernel
theorem dX8_isVowel_0 : decode cX8_isVowel 0 = .ok (.iload_n 0, 1) := by decide +kernel
theorem dX8_isVowel_1 : decode cX8_isVowel 1 = .ok (.iconst 0, 1) := by decide +kernel
theorem dX8_isVowel_2 : decode cX8_isVowel 2 = .ok (.iconst 4, 1) := by decide +kernel
theorem dX8_isVowel_3 : decode cX8_isVowel 3 = .ok (.invokestatic 66, 3) := by decide +kernel
theorem dX8_isVowel_6 : decode cX8_isVowel 6 = .ok (.ireturn, 1) := by decide +kernel
theorem dX8_at_0 : decode cX8_at 0 = .ok (.aload_n 0, 1) := by decide +kernel
theorem dX8_at_1 : decode cX8_at 1 = .ok (.getfield 19, 3) := by decide +kernel
theorem dX8_at_4 : decode cX8_at 4 = .ok (.iload_n 1, 1) := by decide +kernel
theorem dX8_at_5 : decode cX8_at 5 = .ok (.invokestatic 56, 3) := by decide +kernel
theorem dX8_at_8 : decode cX8_at 8 = .ok (.iconst 5, 1) := by decide +kernel
theorem dX8_at_9 : decode cX8_at 9 = .ok (.iadd, 1) := by decide +kernel
theorem dX8_at_10 : decode cX8_at 10 = .ok (.iload_n 2, 1) := by decide +kernel
theorem dX8_at_11 : decode cX8_at 11 = .ok (.iadd, 1) := by decide +kernel
theorem dX8_at_12 : decode cX8_at 12 = .ok (.iaload, 1) := by decide +kernel
theorem dX8_at_13 : decode cX8_at 13 = .ok (.ireturn, 1) := by decide +kernel
theorem dX8_comes_0 : decode cX8_comes 0 = .ok (.aload_n 0, 1) := by decide +kernel
theorem dX8_comes_1 : decode cX8_comes 1 = .ok (.getfield 19, 3) := by decide +kernel
theorem dX8_comes_4 : decode cX8_comes 4 = .ok (.bipush 7, 2) := by decide +kernel
theorem dX8_comes_6 : decode cX8_comes 6 = .ok (.iaload, 1) := by decide +kernel
theorem dX8_comes_7 : decode cX8_comes 7 = .ok (.invokestatic 56, 3) := by decide +kernel
theorem dX8_comes_10 : decode cX8_comes 10 = .ok (.istore 4, 2) := by decide +kernel
theorem dX8_comes_12 : decode cX8_comes 12 = .ok (.iconst 0, 1) := by decide +kernel
theorem dX8_comes_13 : decode cX8_comes 13 = .ok (.istore 5, 2) := by decide +kernel
theorem dX8_comes_15 : decode cX8_comes 15 = .ok (.iload 5, 2) := by decide +kernel
theorem dX8_comes_17 : decode cX8_comes 17 = .ok (.bipush 16, 2) := by decide +kernel
theorem dX8_comes_19 : decode cX8_comes 19 = .ok (.if_icmp .ge 20, 3) := by decide +kernel
theorem dX8_comes_22 : decode cX8_comes 22 = .ok (.aload_n 0, 1) := by decide +kernel
theorem dX8_comes_23 : decode cX8_comes 23 = .ok (.getfield 19, 3) := by decide +kernel
theorem dX8_comes_26 : decode cX8_comes 26 = .ok (.iload 4, 2) := by decide +kernel
theorem dX8_comes_28 : decode cX8_comes 28 = .ok (.iload 5, 2) := by decide +kernel
theorem dX8_comes_30 : decode cX8_comes 30 = .ok (.iadd, 1) := by decide +kernel
theorem dX8_comes_31 : decode cX8_comes 31 = .ok (.iconst 0, 1) := by decide +kernel
theorem dX8_comes_32 : decode cX8_comes 32 = .ok (.iastore, 1) := by decide +kernel
theorem dX8_comes_33 : decode cX8_comes 33 = .ok (.iinc 5 1, 3) := by decide +kernel
theorem dX8_comes_36 : decode cX8_comes 36 = .ok (.goto (-21), 3) := by decide +kernel
theorem dX8_comes_39 : decode cX8_comes 39 = .ok (.aload_n 0, 1) := by decide +kernel
theorem dX8_comes_40 : decode cX8_comes 40 = .ok (.getfield 19, 3) := by decide +kernel
theorem dX8_comes_43 : decode cX8_comes 43 = .ok (.iload 4, 2) := by decide +kernel
theorem dX8_comes_45 : decode cX8_comes 45 = .ok (.iconst 0, 1) := by decide +kernel
theorem dX8_comes_46 : decode cX8_comes 46 = .ok (.iadd, 1) := by decide +kernel
theorem dX8_comes_47 : decode cX8_comes 47 = .ok (.iload_n 1, 1) := by decide +kernel
theorem dX8_comes_48 : decode cX8_comes 48 = .ok (.iastore, 1) := by decide +kernel
theorem dX8_comes_49 : decode cX8_comes 49 = .ok (.aload_n 0, 1) := by decide +kernel
theorem dX8_comes_50 : decode cX8_comes 50 = .ok (.getfield 19, 3) := by decide +kernel
theorem dX8_comes_53 : decode cX8_comes 53 = .ok (.iload 4, 2) := by decide +kernel
theorem dX8_comes_55 : decode cX8_comes 55 = .ok (.iconst 1, 1) := by decide +kernel
theorem dX8_comes_56 : decode cX8_comes 56 = .ok (.iadd, 1) := by decide +kernel
theorem dX8_comes_57 : decode cX8_comes 57 = .ok (.iload_n 2, 1) := by decide +kernel
theorem dX8_comes_58 : decode cX8_comes 58 = .ok (.iastore, 1) := by decide +kernel
theorem dX8_comes_59 : decode cX8_comes 59 = .ok (.aload_n 0, 1) := by decide +kernel
theorem dX8_comes_60 : decode cX8_comes 60 = .ok (.getfield 19, 3) := by decide +kernel
theorem dX8_comes_63 : decode cX8_comes 63 = .ok (.iload 4, 2) := by decide +kernel
theorem dX8_comes_65 : decode cX8_comes 65 = .ok (.iconst 4, 1) := by decide +kernel
theorem dX8_comes_66 : decode cX8_comes 66 = .ok (.iadd, 1) := by decide +kernel
theorem dX8_comes_67 : decode cX8_comes 67 = .ok (.aload_n 0, 1) := by decide +kernel
theorem dX8_comes_68 : decode cX8_comes 68 = .ok (.getfield 19, 3) := by decide +kernel
theorem dX8_comes_71 : decode cX8_comes 71 = .ok (.bipush 8, 2) := by decide +kernel
theorem dX8_comes_73 : decode cX8_comes 73 = .ok (.iaload, 1) := by decide +kernel
theorem dX8_comes_74 : decode cX8_comes 74 = .ok (.iastore, 1) := by decide +kernel
theorem dX8_comes_75 : decode cX8_comes 75 = .ok (.aload_n 0, 1) := by decide +kernel
theorem dX8_comes_76 : decode cX8_comes 76 = .ok (.getfield 19, 3) := by decide +kernel
theorem dX8_comes_79 : decode cX8_comes 79 = .ok (.bipush 10, 2) := by decide +kernel
theorem dX8_comes_81 : decode cX8_comes 81 = .ok (.dup2, 1) := by decide +kernel
theorem dX8_comes_82 : decode cX8_comes 82 = .ok (.iaload, 1) := by decide +kernel
theorem dX8_comes_83 : decode cX8_comes 83 = .ok (.iload_n 2, 1) := by decide +kernel
theorem dX8_comes_84 : decode cX8_comes 84 = .ok (.iadd, 1) := by decide +kernel
theorem dX8_comes_85 : decode cX8_comes 85 = .ok (.iastore, 1) := by decide +kernel
theorem dX8_comes_86 : decode cX8_comes 86 = .ok (.iload_n 3, 1) := by decide +kernel
theorem dX8_comes_87 : decode cX8_comes 87 = .ok (.istore 5, 2) := by decide +kernel
theorem dX8_comes_89 : decode cX8_comes 89 = .ok (.iconst 4, 1) := by decide +kernel
theorem dX8_comes_90 : decode cX8_comes 90 = .ok (.istore 6, 2) := by decide +kernel
theorem dX8_comes_92 : decode cX8_comes 92 = .ok (.iload 6, 2) := by decide +kernel
theorem dX8_comes_94 : decode cX8_comes 94 = .ok (.ifCond .lt 33, 3) := by decide +kernel
theorem dX8_comes_97 : decode cX8_comes 97 = .ok (.aload_n 0, 1) := by decide +kernel
theorem dX8_comes_98 : decode cX8_comes 98 = .ok (.getfield 19, 3) := by decide +kernel
theorem dX8_comes_101 : decode cX8_comes 101 = .ok (.iload 4, 2) := by decide +kernel
theorem dX8_comes_103 : decode cX8_comes 103 = .ok (.iconst 5, 1) := by decide +kernel
theorem dX8_comes_104 : decode cX8_comes 104 = .ok (.iadd, 1) := by decide +kernel
theorem dX8_comes_105 : decode cX8_comes 105 = .ok (.iload 6, 2) := by decide +kernel
theorem dX8_comes_107 : decode cX8_comes 107 = .ok (.iadd, 1) := by decide +kernel
theorem dX8_comes_108 : decode cX8_comes 108 = .ok (.iload 5, 2) := by decide +kernel
theorem dX8_comes_110 : decode cX8_comes 110 = .ok (.bipush 10, 2) := by decide +kernel
theorem dX8_comes_112 : decode cX8_comes 112 = .ok (.irem, 1) := by decide +kernel
theorem dX8_comes_113 : decode cX8_comes 113 = .ok (.iastore, 1) := by decide +kernel
theorem dX8_comes_114 : decode cX8_comes 114 = .ok (.iload 5, 2) := by decide +kernel
theorem dX8_comes_116 : decode cX8_comes 116 = .ok (.bipush 10, 2) := by decide +kernel
theorem dX8_comes_118 : decode cX8_comes 118 = .ok (.idiv, 1) := by decide +kernel
theorem dX8_comes_119 : decode cX8_comes 119 = .ok (.istore 5, 2) := by decide +kernel
theorem dX8_comes_121 : decode cX8_comes 121 = .ok (.iinc 6 (-1), 3) := by decide +kernel
theorem dX8_comes_124 : decode cX8_comes 124 = .ok (.goto (-32), 3) := by decide +kernel
theorem dX8_comes_127 : decode cX8_comes 127 = .ok (.aload_n 0, 1) := by decide +kernel
theorem dX8_comes_128 : decode cX8_comes 128 = .ok (.getfield 19, 3) := by decide +kernel
theorem dX8_comes_131 : decode cX8_comes 131 = .ok (.bipush 7, 2) := by decide +kernel
theorem dX8_comes_133 : decode cX8_comes 133 = .ok (.dup2, 1) := by decide +kernel
theorem dX8_comes_134 : decode cX8_comes 134 = .ok (.iaload, 1) := by decide +kernel
theorem dX8_comes_135 : decode cX8_comes 135 = .ok (.iconst 1, 1) := by decide +kernel
theorem dX8_comes_136 : decode cX8_comes 136 = .ok (.iadd, 1) := by decide +kernel
theorem dX8_comes_137 : decode cX8_comes 137 = .ok (.iastore, 1) := by decide +kernel
theorem dX8_comes_138 : decode cX8_comes 138 = .ok (.return_, 1) := by decide +kernel
theorem dX8_goes_0 : decode cX8_goes 0 = .ok (.aload_n 0, 1) := by decide +kernel
theorem dX8_goes_1 : decode cX8_goes 1 = .ok (.getfield 19, 3) := by decide +kernel
theorem dX8_goes_4 : decode cX8_goes 4 = .ok (.iload_n 1, 1) := by decide +kernel
theorem dX8_goes_5 : decode cX8_goes 5 = .ok (.invokestatic 56, 3) := by decide +kernel
theorem dX8_goes_8 : decode cX8_goes 8 = .ok (.iconst 1, 1) := by decide +kernel
theorem dX8_goes_9 : decode cX8_goes 9 = .ok (.iadd, 1) := by decide +kernel
theorem dX8_goes_10 : decode cX8_goes 10 = .ok (.iaload, 1) := by decide +kernel
theorem dX8_goes_11 : decode cX8_goes 11 = .ok (.istore_n 2, 1) := by decide +kernel
theorem dX8_goes_12 : decode cX8_goes 12 = .ok (.aload_n 0, 1) := by decide +kernel
theorem dX8_goes_13 : decode cX8_goes 13 = .ok (.getfield 19, 3) := by decide +kernel
theorem dX8_goes_16 : decode cX8_goes 16 = .ok (.bipush 12, 2) := by decide +kernel
theorem dX8_goes_18 : decode cX8_goes 18 = .ok (.dup2, 1) := by decide +kernel
theorem dX8_goes_19 : decode cX8_goes 19 = .ok (.iaload, 1) := by decide +kernel
theorem dX8_goes_20 : decode cX8_goes 20 = .ok (.iload_n 2, 1) := by decide +kernel
theorem dX8_goes_21 : decode cX8_goes 21 = .ok (.iadd, 1) := by decide +kernel
theorem dX8_goes_22 : decode cX8_goes 22 = .ok (.iastore, 1) := by decide +kernel
theorem dX8_goes_23 : decode cX8_goes 23 = .ok (.aload_n 0, 1) := by decide +kernel
theorem dX8_goes_24 : decode cX8_goes 24 = .ok (.getfield 19, 3) := by decide +kernel
theorem dX8_goes_27 : decode cX8_goes 27 = .ok (.bipush 7, 2) := by decide +kernel
theorem dX8_goes_29 : decode cX8_goes 29 = .ok (.dup2, 1) := by decide +kernel
theorem dX8_goes_30 : decode cX8_goes 30 = .ok (.iaload, 1) := by decide +kernel
theorem dX8_goes_31 : decode cX8_goes 31 = .ok (.iconst 1, 1) := by decide +kernel
theorem dX8_goes_32 : decode cX8_goes 32 = .ok (.isub, 1) := by decide +kernel
theorem dX8_goes_33 : decode cX8_goes 33 = .ok (.iastore, 1) := by decide +kernel
theorem dX8_goes_34 : decode cX8_goes 34 = .ok (.iload_n 1, 1) := by decide +kernel
theorem dX8_goes_35 : decode cX8_goes 35 = .ok (.invokestatic 56, 3) := by decide +kernel
theorem dX8_goes_38 : decode cX8_goes 38 = .ok (.istore_n 3, 1) := by decide +kernel
theorem dX8_goes_39 : decode cX8_goes 39 = .ok (.iload_n 3, 1) := by decide +kernel
theorem dX8_goes_40 : decode cX8_goes 40 = .ok (.aload_n 0, 1) := by decide +kernel
theorem dX8_goes_41 : decode cX8_goes 41 = .ok (.getfield 19, 3) := by decide +kernel
theorem dX8_goes_44 : decode cX8_goes 44 = .ok (.bipush 7, 2) := by decide +kernel
theorem dX8_goes_46 : decode cX8_goes 46 = .ok (.iaload, 1) := by decide +kernel
theorem dX8_goes_47 : decode cX8_goes 47 = .ok (.invokestatic 56, 3) := by decide +kernel
theorem dX8_goes_50 : decode cX8_goes 50 = .ok (.if_icmp .ge 24, 3) := by decide +kernel
theorem dX8_goes_53 : decode cX8_goes 53 = .ok (.aload_n 0, 1) := by decide +kernel
theorem dX8_goes_54 : decode cX8_goes 54 = .ok (.getfield 19, 3) := by decide +kernel
theorem dX8_goes_57 : decode cX8_goes 57 = .ok (.iload_n 3, 1) := by decide +kernel
theorem dX8_goes_58 : decode cX8_goes 58 = .ok (.aload_n 0, 1) := by decide +kernel
theorem dX8_goes_59 : decode cX8_goes 59 = .ok (.getfield 19, 3) := by decide +kernel
theorem dX8_goes_62 : decode cX8_goes 62 = .ok (.iload_n 3, 1) := by decide +kernel
theorem dX8_goes_63 : decode cX8_goes 63 = .ok (.bipush 16, 2) := by decide +kernel
theorem dX8_goes_65 : decode cX8_goes 65 = .ok (.iadd, 1) := by decide +kernel
theorem dX8_goes_66 : decode cX8_goes 66 = .ok (.iaload, 1) := by decide +kernel
theorem dX8_goes_67 : decode cX8_goes 67 = .ok (.iastore, 1) := by decide +kernel
theorem dX8_goes_68 : decode cX8_goes 68 = .ok (.iinc 3 1, 3) := by decide +kernel
theorem dX8_goes_71 : decode cX8_goes 71 = .ok (.goto (-32), 3) := by decide +kernel
theorem dX8_goes_74 : decode cX8_goes 74 = .ok (.aload_n 0, 1) := by decide +kernel
theorem dX8_goes_75 : decode cX8_goes 75 = .ok (.getfield 37, 3) := by decide +kernel
theorem dX8_goes_78 : decode cX8_goes 78 = .ok (.iload_n 1, 1) := by decide +kernel
theorem dX8_goes_79 : decode cX8_goes 79 = .ok (.if_icmp .ne 16, 3) := by decide +kernel
theorem dX8_goes_82 : decode cX8_goes 82 = .ok (.aload_n 0, 1) := by decide +kernel
theorem dX8_goes_83 : decode cX8_goes 83 = .ok (.iconst (-1), 1) := by decide +kernel
theorem dX8_goes_84 : decode cX8_goes 84 = .ok (.putfield 37, 3) := by decide +kernel
theorem dX8_goes_87 : decode cX8_goes 87 = .ok (.aload_n 0, 1) := by decide +kernel
theorem dX8_goes_88 : decode cX8_goes 88 = .ok (.iload_n 2, 1) := by decide +kernel
theorem dX8_goes_89 : decode cX8_goes 89 = .ok (.putfield 70, 3) := by decide +kernel
theorem dX8_goes_92 : decode cX8_goes 92 = .ok (.goto 21, 3) := by decide +kernel
theorem dX8_goes_95 : decode cX8_goes 95 = .ok (.aload_n 0, 1) := by decide +kernel
theorem dX8_goes_96 : decode cX8_goes 96 = .ok (.getfield 37, 3) := by decide +kernel
theorem dX8_goes_99 : decode cX8_goes 99 = .ok (.iload_n 1, 1) := by decide +kernel
theorem dX8_goes_100 : decode cX8_goes 100 = .ok (.if_icmp .le 13, 3) := by decide +kernel
theorem dX8_goes_103 : decode cX8_goes 103 = .ok (.aload_n 0, 1) := by decide +kernel
theorem dX8_goes_104 : decode cX8_goes 104 = .ok (.dup, 1) := by decide +kernel
theorem dX8_goes_105 : decode cX8_goes 105 = .ok (.getfield 37, 3) := by decide +kernel
theorem dX8_goes_108 : decode cX8_goes 108 = .ok (.iconst 1, 1) := by decide +kernel
theorem dX8_goes_109 : decode cX8_goes 109 = .ok (.isub, 1) := by decide +kernel
theorem dX8_goes_110 : decode cX8_goes 110 = .ok (.putfield 37, 3) := by decide +kernel
theorem dX8_goes_113 : decode cX8_goes 113 = .ok (.return_, 1) := by decide +kernel
theorem dX8_livingOn_0 : decode cX8_livingOn 0 = .ok (.iconst 0, 1) := by decide +kernel
theorem dX8_livingOn_1 : decode cX8_livingOn 1 = .ok (.istore_n 3, 1) := by decide +kernel
theorem dX8_livingOn_2 : decode cX8_livingOn 2 = .ok (.iconst 0, 1) := by decide +kernel
theorem dX8_livingOn_3 : decode cX8_livingOn 3 = .ok (.istore 4, 2) := by decide +kernel
theorem dX8_livingOn_5 : decode cX8_livingOn 5 = .ok (.iload 4, 2) := by decide +kernel
theorem dX8_livingOn_7 : decode cX8_livingOn 7 = .ok (.aload_n 0, 1) := by decide +kernel
theorem dX8_livingOn_8 : decode cX8_livingOn 8 = .ok (.getfield 19, 3) := by decide +kernel
theorem dX8_livingOn_11 : decode cX8_livingOn 11 = .ok (.bipush 7, 2) := by decide +kernel
theorem dX8_livingOn_13 : decode cX8_livingOn 13 = .ok (.iaload, 1) := by decide +kernel
theorem dX8_livingOn_14 : decode cX8_livingOn 14 = .ok (.if_icmp .ge 39, 3) := by decide +kernel
theorem dX8_livingOn_17 : decode cX8_livingOn 17 = .ok (.iload_n 3, 1) := by decide +kernel
theorem dX8_livingOn_18 : decode cX8_livingOn 18 = .ok (.iload 4, 2) := by decide +kernel
theorem dX8_livingOn_20 : decode cX8_livingOn 20 = .ok (.iload_n 2, 1) := by decide +kernel
theorem dX8_livingOn_21 : decode cX8_livingOn 21 = .ok (.if_icmp .eq 23, 3) := by decide +kernel
theorem dX8_livingOn_24 : decode cX8_livingOn 24 = .ok (.aload_n 0, 1) := by decide +kernel
theorem dX8_livingOn_25 : decode cX8_livingOn 25 = .ok (.getfield 19, 3) := by decide +kernel
theorem dX8_livingOn_28 : decode cX8_livingOn 28 = .ok (.iload 4, 2) := by decide +kernel
theorem dX8_livingOn_30 : decode cX8_livingOn 30 = .ok (.invokestatic 56, 3) := by decide +kernel
theorem dX8_livingOn_33 : decode cX8_livingOn 33 = .ok (.iconst 0, 1) := by decide +kernel
theorem dX8_livingOn_34 : decode cX8_livingOn 34 = .ok (.iadd, 1) := by decide +kernel
theorem dX8_livingOn_35 : decode cX8_livingOn 35 = .ok (.iaload, 1) := by decide +kernel
theorem dX8_livingOn_36 : decode cX8_livingOn 36 = .ok (.iload_n 1, 1) := by decide +kernel
theorem dX8_livingOn_37 : decode cX8_livingOn 37 = .ok (.if_icmp .ne 7, 3) := by decide +kernel
theorem dX8_livingOn_40 : decode cX8_livingOn 40 = .ok (.iconst 1, 1) := by decide +kernel
theorem dX8_livingOn_41 : decode cX8_livingOn 41 = .ok (.goto 4, 3) := by decide +kernel
theorem dX8_livingOn_44 : decode cX8_livingOn 44 = .ok (.iconst 0, 1) := by decide +kernel
theorem dX8_livingOn_45 : decode cX8_livingOn 45 = .ok (.iadd, 1) := by decide +kernel
theorem dX8_livingOn_46 : decode cX8_livingOn 46 = .ok (.istore_n 3, 1) := by decide +kernel
theorem dX8_livingOn_47 : decode cX8_livingOn 47 = .ok (.iinc 4 1, 3) := by decide +kernel
theorem dX8_livingOn_50 : decode cX8_livingOn 50 = .ok (.goto (-45), 3) := by decide +kernel
theorem dX8_livingOn_53 : decode cX8_livingOn 53 = .ok (.iload_n 3, 1) := by decide +kernel
theorem dX8_livingOn_54 : decode cX8_livingOn 54 = .ok (.ireturn, 1) := by decide +kernel
theorem dX8_rentAt_0 : decode cX8_rentAt 0 = .ok (.aload_n 0, 1) := by decide +kernel
theorem dX8_rentAt_1 : decode cX8_rentAt 1 = .ok (.getfield 19, 3) := by decide +kernel
theorem dX8_rentAt_4 : decode cX8_rentAt 4 = .ok (.iconst 0, 1) := by decide +kernel
theorem dX8_rentAt_5 : decode cX8_rentAt 5 = .ok (.iaload, 1) := by decide +kernel
theorem dX8_rentAt_6 : decode cX8_rentAt 6 = .ok (.iconst 5, 1) := by decide +kernel
theorem dX8_rentAt_7 : decode cX8_rentAt 7 = .ok (.iload_n 1, 1) := by decide +kernel
theorem dX8_rentAt_8 : decode cX8_rentAt 8 = .ok (.imul, 1) := by decide +kernel
theorem dX8_rentAt_9 : decode cX8_rentAt 9 = .ok (.iadd, 1) := by decide +kernel
theorem dX8_rentAt_10 : decode cX8_rentAt 10 = .ok (.ireturn, 1) := by decide +kernel
theorem dX8_averageAt_0 : decode cX8_averageAt 0 = .ok (.iconst 0, 1) := by decide +kernel
theorem dX8_averageAt_1 : decode cX8_averageAt 1 = .ok (.istore_n 3, 1) := by decide +kernel
theorem dX8_averageAt_2 : decode cX8_averageAt 2 = .ok (.iconst 0, 1) := by decide +kernel
theorem dX8_averageAt_3 : decode cX8_averageAt 3 = .ok (.istore 4, 2) := by decide +kernel
theorem dX8_averageAt_5 : decode cX8_averageAt 5 = .ok (.iconst 0, 1) := by decide +kernel
theorem dX8_averageAt_6 : decode cX8_averageAt 6 = .ok (.istore 5, 2) := by decide +kernel
theorem dX8_averageAt_8 : decode cX8_averageAt 8 = .ok (.iload 5, 2) := by decide +kernel
theorem dX8_averageAt_10 : decode cX8_averageAt 10 = .ok (.aload_n 0, 1) := by decide +kernel
theorem dX8_averageAt_11 : decode cX8_averageAt 11 = .ok (.getfield 19, 3) := by decide +kernel
theorem dX8_averageAt_14 : decode cX8_averageAt 14 = .ok (.bipush 7, 2) := by decide +kernel
theorem dX8_averageAt_16 : decode cX8_averageAt 16 = .ok (.iaload, 1) := by decide +kernel
theorem dX8_averageAt_17 : decode cX8_averageAt 17 = .ok (.if_icmp .ge 66, 3) := by decide +kernel
theorem dX8_averageAt_20 : decode cX8_averageAt 20 = .ok (.aload_n 0, 1) := by decide +kernel
theorem dX8_averageAt_21 : decode cX8_averageAt 21 = .ok (.getfield 19, 3) := by decide +kernel
theorem dX8_averageAt_24 : decode cX8_averageAt 24 = .ok (.iload 5, 2) := by decide +kernel
theorem dX8_averageAt_26 : decode cX8_averageAt 26 = .ok (.invokestatic 56, 3) := by decide +kernel
theorem dX8_averageAt_29 : decode cX8_averageAt 29 = .ok (.iconst 0, 1) := by decide +kernel
theorem dX8_averageAt_30 : decode cX8_averageAt 30 = .ok (.iadd, 1) := by decide +kernel
theorem dX8_averageAt_31 : decode cX8_averageAt 31 = .ok (.iaload, 1) := by decide +kernel
theorem dX8_averageAt_32 : decode cX8_averageAt 32 = .ok (.iload_n 1, 1) := by decide +kernel
theorem dX8_averageAt_33 : decode cX8_averageAt 33 = .ok (.if_icmp .ne 7, 3) := by decide +kernel
theorem dX8_averageAt_36 : decode cX8_averageAt 36 = .ok (.iconst 1, 1) := by decide +kernel
theorem dX8_averageAt_37 : decode cX8_averageAt 37 = .ok (.goto 4, 3) := by decide +kernel
theorem dX8_averageAt_40 : decode cX8_averageAt 40 = .ok (.iconst 0, 1) := by decide +kernel
theorem dX8_averageAt_41 : decode cX8_averageAt 41 = .ok (.istore 6, 2) := by decide +kernel
theorem dX8_averageAt_43 : decode cX8_averageAt 43 = .ok (.iload_n 3, 1) := by decide +kernel
theorem dX8_averageAt_44 : decode cX8_averageAt 44 = .ok (.iload 6, 2) := by decide +kernel
theorem dX8_averageAt_46 : decode cX8_averageAt 46 = .ok (.ifCond .eq 13, 3) := by decide +kernel
theorem dX8_averageAt_49 : decode cX8_averageAt 49 = .ok (.aload_n 0, 1) := by decide +kernel
theorem dX8_averageAt_50 : decode cX8_averageAt 50 = .ok (.iload 5, 2) := by decide +kernel
theorem dX8_averageAt_52 : decode cX8_averageAt 52 = .ok (.iload_n 2, 1) := by decide +kernel
theorem dX8_averageAt_53 : decode cX8_averageAt 53 = .ok (.invokevirtual 73, 3) := by decide +kernel
theorem dX8_averageAt_56 : decode cX8_averageAt 56 = .ok (.goto 4, 3) := by decide +kernel
theorem dX8_averageAt_59 : decode cX8_averageAt 59 = .ok (.iconst 0, 1) := by decide +kernel
theorem dX8_averageAt_60 : decode cX8_averageAt 60 = .ok (.iadd, 1) := by decide +kernel
theorem dX8_averageAt_61 : decode cX8_averageAt 61 = .ok (.istore_n 3, 1) := by decide +kernel
theorem dX8_averageAt_62 : decode cX8_averageAt 62 = .ok (.iload 4, 2) := by decide +kernel
theorem dX8_averageAt_64 : decode cX8_averageAt 64 = .ok (.iload 6, 2) := by decide +kernel
theorem dX8_averageAt_66 : decode cX8_averageAt 66 = .ok (.ifCond .eq 7, 3) := by decide +kernel
theorem dX8_averageAt_69 : decode cX8_averageAt 69 = .ok (.iconst 1, 1) := by decide +kernel
theorem dX8_averageAt_70 : decode cX8_averageAt 70 = .ok (.goto 4, 3) := by decide +kernel
theorem dX8_averageAt_73 : decode cX8_averageAt 73 = .ok (.iconst 0, 1) := by decide +kernel
theorem dX8_averageAt_74 : decode cX8_averageAt 74 = .ok (.iadd, 1) := by decide +kernel
theorem dX8_averageAt_75 : decode cX8_averageAt 75 = .ok (.istore 4, 2) := by decide +kernel
theorem dX8_averageAt_77 : decode cX8_averageAt 77 = .ok (.iinc 5 1, 3) := by decide +kernel
theorem dX8_averageAt_80 : decode cX8_averageAt 80 = .ok (.goto (-72), 3) := by decide +kernel
theorem dX8_averageAt_83 : decode cX8_averageAt 83 = .ok (.iload 4, 2) := by decide +kernel
theorem dX8_averageAt_85 : decode cX8_averageAt 85 = .ok (.ifCond .ne 7, 3) := by decide +kernel
theorem dX8_averageAt_88 : decode cX8_averageAt 88 = .ok (.iconst 0, 1) := by decide +kernel
theorem dX8_averageAt_89 : decode cX8_averageAt 89 = .ok (.goto 7, 3) := by decide +kernel
theorem dX8_averageAt_92 : decode cX8_averageAt 92 = .ok (.iload_n 3, 1) := by decide +kernel
theorem dX8_averageAt_93 : decode cX8_averageAt 93 = .ok (.iload 4, 2) := by decide +kernel
theorem dX8_averageAt_95 : decode cX8_averageAt 95 = .ok (.idiv, 1) := by decide +kernel
theorem dX8_averageAt_96 : decode cX8_averageAt 96 = .ok (.ireturn, 1) := by decide +kernel
theorem dX8_toLandlady_0 : decode cX8_toLandlady 0 = .ok (.iconst 0, 1) := by decide +kernel
theorem dX8_toLandlady_1 : decode cX8_toLandlady 1 = .ok (.istore_n 2, 1) := by decide +kernel
theorem dX8_toLandlady_2 : decode cX8_toLandlady 2 = .ok (.iconst 0, 1) := by decide +kernel
theorem dX8_toLandlady_3 : decode cX8_toLandlady 3 = .ok (.istore_n 3, 1) := by decide +kernel
theorem dX8_toLandlady_4 : decode cX8_toLandlady 4 = .ok (.iload_n 3, 1) := by decide +kernel
theorem dX8_toLandlady_5 : decode cX8_toLandlady 5 = .ok (.iconst 5, 1) := by decide +kernel
theorem dX8_toLandlady_6 : decode cX8_toLandlady 6 = .ok (.if_icmp .ge 30, 3) := by decide +kernel
theorem dX8_toLandlady_9 : decode cX8_toLandlady 9 = .ok (.iload_n 2, 1) := by decide +kernel
theorem dX8_toLandlady_10 : decode cX8_toLandlady 10 = .ok (.aload_n 0, 1) := by decide +kernel
theorem dX8_toLandlady_11 : decode cX8_toLandlady 11 = .ok (.iload_n 1, 1) := by decide +kernel
theorem dX8_toLandlady_12 : decode cX8_toLandlady 12 = .ok (.iload_n 3, 1) := by decide +kernel
theorem dX8_toLandlady_13 : decode cX8_toLandlady 13 = .ok (.invokevirtual 73, 3) := by decide +kernel
theorem dX8_toLandlady_16 : decode cX8_toLandlady 16 = .ok (.aload_n 0, 1) := by decide +kernel
theorem dX8_toLandlady_17 : decode cX8_toLandlady 17 = .ok (.getfield 19, 3) := by decide +kernel
theorem dX8_toLandlady_20 : decode cX8_toLandlady 20 = .ok (.iconst 2, 1) := by decide +kernel
theorem dX8_toLandlady_21 : decode cX8_toLandlady 21 = .ok (.iload_n 3, 1) := by decide +kernel
theorem dX8_toLandlady_22 : decode cX8_toLandlady 22 = .ok (.iadd, 1) := by decide +kernel
theorem dX8_toLandlady_23 : decode cX8_toLandlady 23 = .ok (.iaload, 1) := by decide +kernel
theorem dX8_toLandlady_24 : decode cX8_toLandlady 24 = .ok (.isub, 1) := by decide +kernel
theorem dX8_toLandlady_25 : decode cX8_toLandlady 25 = .ok (.invokestatic 77, 3) := by decide +kernel
theorem dX8_toLandlady_28 : decode cX8_toLandlady 28 = .ok (.iadd, 1) := by decide +kernel
theorem dX8_toLandlady_29 : decode cX8_toLandlady 29 = .ok (.istore_n 2, 1) := by decide +kernel
theorem dX8_toLandlady_30 : decode cX8_toLandlady 30 = .ok (.iinc 3 1, 3) := by decide +kernel
theorem dX8_toLandlady_33 : decode cX8_toLandlady 33 = .ok (.goto (-29), 3) := by decide +kernel
theorem dX8_toLandlady_36 : decode cX8_toLandlady 36 = .ok (.iload_n 2, 1) := by decide +kernel
theorem dX8_toLandlady_37 : decode cX8_toLandlady 37 = .ok (.ireturn, 1) := by decide +kernel
theorem dX8_rhymesHer_0 : decode cX8_rhymesHer 0 = .ok (.iconst 0, 1) := by decide +kernel
theorem dX8_rhymesHer_1 : decode cX8_rhymesHer 1 = .ok (.istore_n 2, 1) := by decide +kernel
theorem dX8_rhymesHer_2 : decode cX8_rhymesHer 2 = .ok (.iconst 0, 1) := by decide +kernel
theorem dX8_rhymesHer_3 : decode cX8_rhymesHer 3 = .ok (.istore_n 3, 1) := by decide +kernel
theorem dX8_rhymesHer_4 : decode cX8_rhymesHer 4 = .ok (.iload_n 3, 1) := by decide +kernel
theorem dX8_rhymesHer_5 : decode cX8_rhymesHer 5 = .ok (.iconst 5, 1) := by decide +kernel
theorem dX8_rhymesHer_6 : decode cX8_rhymesHer 6 = .ok (.if_icmp .ge 34, 3) := by decide +kernel
theorem dX8_rhymesHer_9 : decode cX8_rhymesHer 9 = .ok (.iload_n 2, 1) := by decide +kernel
theorem dX8_rhymesHer_10 : decode cX8_rhymesHer 10 = .ok (.aload_n 0, 1) := by decide +kernel
theorem dX8_rhymesHer_11 : decode cX8_rhymesHer 11 = .ok (.iload_n 1, 1) := by decide +kernel
theorem dX8_rhymesHer_12 : decode cX8_rhymesHer 12 = .ok (.iload_n 3, 1) := by decide +kernel
theorem dX8_rhymesHer_13 : decode cX8_rhymesHer 13 = .ok (.invokevirtual 73, 3) := by decide +kernel
theorem dX8_rhymesHer_16 : decode cX8_rhymesHer 16 = .ok (.aload_n 0, 1) := by decide +kernel
theorem dX8_rhymesHer_17 : decode cX8_rhymesHer 17 = .ok (.getfield 19, 3) := by decide +kernel
theorem dX8_rhymesHer_20 : decode cX8_rhymesHer 20 = .ok (.iconst 2, 1) := by decide +kernel
theorem dX8_rhymesHer_21 : decode cX8_rhymesHer 21 = .ok (.iload_n 3, 1) := by decide +kernel
theorem dX8_rhymesHer_22 : decode cX8_rhymesHer 22 = .ok (.iadd, 1) := by decide +kernel
theorem dX8_rhymesHer_23 : decode cX8_rhymesHer 23 = .ok (.iaload, 1) := by decide +kernel
theorem dX8_rhymesHer_24 : decode cX8_rhymesHer 24 = .ok (.if_icmp .ne 7, 3) := by decide +kernel
theorem dX8_rhymesHer_27 : decode cX8_rhymesHer 27 = .ok (.iconst 0, 1) := by decide +kernel
theorem dX8_rhymesHer_28 : decode cX8_rhymesHer 28 = .ok (.goto 4, 3) := by decide +kernel
theorem dX8_rhymesHer_31 : decode cX8_rhymesHer 31 = .ok (.iconst 1, 1) := by decide +kernel
theorem dX8_rhymesHer_32 : decode cX8_rhymesHer 32 = .ok (.iadd, 1) := by decide +kernel
theorem dX8_rhymesHer_33 : decode cX8_rhymesHer 33 = .ok (.istore_n 2, 1) := by decide +kernel
theorem dX8_rhymesHer_34 : decode cX8_rhymesHer 34 = .ok (.iinc 3 1, 3) := by decide +kernel
theorem dX8_rhymesHer_37 : decode cX8_rhymesHer 37 = .ok (.goto (-33), 3) := by decide +kernel
theorem dX8_rhymesHer_40 : decode cX8_rhymesHer 40 = .ok (.iload_n 2, 1) := by decide +kernel
theorem dX8_rhymesHer_41 : decode cX8_rhymesHer 41 = .ok (.iconst 1, 1) := by decide +kernel
theorem dX8_rhymesHer_42 : decode cX8_rhymesHer 42 = .ok (.if_icmp .gt 7, 3) := by decide +kernel
theorem dX8_rhymesHer_45 : decode cX8_rhymesHer 45 = .ok (.iconst 1, 1) := by decide +kernel
theorem dX8_rhymesHer_46 : decode cX8_rhymesHer 46 = .ok (.goto 4, 3) := by decide +kernel
theorem dX8_rhymesHer_49 : decode cX8_rhymesHer 49 = .ok (.iconst 0, 1) := by decide +kernel
theorem dX8_rhymesHer_50 : decode cX8_rhymesHer 50 = .ok (.ireturn, 1) := by decide +kernel
theorem dX8_between_0 : decode cX8_between 0 = .ok (.iconst 0, 1) := by decide +kernel
theorem dX8_between_1 : decode cX8_between 1 = .ok (.istore_n 3, 1) := by decide +kernel
theorem dX8_between_2 : decode cX8_between 2 = .ok (.iconst 0, 1) := by decide +kernel
theorem dX8_between_3 : decode cX8_between 3 = .ok (.istore 4, 2) := by decide +kernel
theorem dX8_between_5 : decode cX8_between 5 = .ok (.iload 4, 2) := by decide +kernel
theorem dX8_between_7 : decode cX8_between 7 = .ok (.iconst 5, 1) := by decide +kernel
theorem dX8_between_8 : decode cX8_between 8 = .ok (.if_icmp .ge 30, 3) := by decide +kernel
theorem dX8_between_11 : decode cX8_between 11 = .ok (.iload_n 3, 1) := by decide +kernel
theorem dX8_between_12 : decode cX8_between 12 = .ok (.aload_n 0, 1) := by decide +kernel
theorem dX8_between_13 : decode cX8_between 13 = .ok (.iload_n 1, 1) := by decide +kernel
theorem dX8_between_14 : decode cX8_between 14 = .ok (.iload 4, 2) := by decide +kernel
theorem dX8_between_16 : decode cX8_between 16 = .ok (.invokevirtual 73, 3) := by decide +kernel
theorem dX8_between_19 : decode cX8_between 19 = .ok (.aload_n 0, 1) := by decide +kernel
theorem dX8_between_20 : decode cX8_between 20 = .ok (.iload_n 2, 1) := by decide +kernel
theorem dX8_between_21 : decode cX8_between 21 = .ok (.iload 4, 2) := by decide +kernel
theorem dX8_between_23 : decode cX8_between 23 = .ok (.invokevirtual 73, 3) := by decide +kernel
theorem dX8_between_26 : decode cX8_between 26 = .ok (.isub, 1) := by decide +kernel
theorem dX8_between_27 : decode cX8_between 27 = .ok (.invokestatic 77, 3) := by decide +kernel
theorem dX8_between_30 : decode cX8_between 30 = .ok (.iadd, 1) := by decide +kernel
theorem dX8_between_31 : decode cX8_between 31 = .ok (.istore_n 3, 1) := by decide +kernel
theorem dX8_between_32 : decode cX8_between 32 = .ok (.iinc 4 1, 3) := by decide +kernel
theorem dX8_between_35 : decode cX8_between 35 = .ok (.goto (-30), 3) := by decide +kernel
theorem dX8_between_38 : decode cX8_between 38 = .ok (.iload_n 3, 1) := by decide +kernel
theorem dX8_between_39 : decode cX8_between 39 = .ok (.ireturn, 1) := by decide +kernel
theorem dX8_rhyme_0 : decode cX8_rhyme 0 = .ok (.iconst 0, 1) := by decide +kernel
theorem dX8_rhyme_1 : decode cX8_rhyme 1 = .ok (.istore_n 3, 1) := by decide +kernel
theorem dX8_rhyme_2 : decode cX8_rhyme 2 = .ok (.iconst 0, 1) := by decide +kernel
theorem dX8_rhyme_3 : decode cX8_rhyme 3 = .ok (.istore 4, 2) := by decide +kernel
theorem dX8_rhyme_5 : decode cX8_rhyme 5 = .ok (.iload 4, 2) := by decide +kernel
theorem dX8_rhyme_7 : decode cX8_rhyme 7 = .ok (.iconst 5, 1) := by decide +kernel
theorem dX8_rhyme_8 : decode cX8_rhyme 8 = .ok (.if_icmp .ge 34, 3) := by decide +kernel
theorem dX8_rhyme_11 : decode cX8_rhyme 11 = .ok (.iload_n 3, 1) := by decide +kernel
theorem dX8_rhyme_12 : decode cX8_rhyme 12 = .ok (.aload_n 0, 1) := by decide +kernel
theorem dX8_rhyme_13 : decode cX8_rhyme 13 = .ok (.iload_n 1, 1) := by decide +kernel
theorem dX8_rhyme_14 : decode cX8_rhyme 14 = .ok (.iload 4, 2) := by decide +kernel
theorem dX8_rhyme_16 : decode cX8_rhyme 16 = .ok (.invokevirtual 73, 3) := by decide +kernel
theorem dX8_rhyme_19 : decode cX8_rhyme 19 = .ok (.aload_n 0, 1) := by decide +kernel
theorem dX8_rhyme_20 : decode cX8_rhyme 20 = .ok (.iload_n 2, 1) := by decide +kernel
theorem dX8_rhyme_21 : decode cX8_rhyme 21 = .ok (.iload 4, 2) := by decide +kernel
theorem dX8_rhyme_23 : decode cX8_rhyme 23 = .ok (.invokevirtual 73, 3) := by decide +kernel
theorem dX8_rhyme_26 : decode cX8_rhyme 26 = .ok (.if_icmp .ne 7, 3) := by decide +kernel
theorem dX8_rhyme_29 : decode cX8_rhyme 29 = .ok (.iconst 0, 1) := by decide +kernel
theorem dX8_rhyme_30 : decode cX8_rhyme 30 = .ok (.goto 4, 3) := by decide +kernel
theorem dX8_rhyme_33 : decode cX8_rhyme 33 = .ok (.iconst 1, 1) := by decide +kernel
theorem dX8_rhyme_34 : decode cX8_rhyme 34 = .ok (.iadd, 1) := by decide +kernel
theorem dX8_rhyme_35 : decode cX8_rhyme 35 = .ok (.istore_n 3, 1) := by decide +kernel
theorem dX8_rhyme_36 : decode cX8_rhyme 36 = .ok (.iinc 4 1, 3) := by decide +kernel
theorem dX8_rhyme_39 : decode cX8_rhyme 39 = .ok (.goto (-34), 3) := by decide +kernel
theorem dX8_rhyme_42 : decode cX8_rhyme 42 = .ok (.iload_n 3, 1) := by decide +kernel
theorem dX8_rhyme_43 : decode cX8_rhyme 43 = .ok (.iconst 1, 1) := by decide +kernel
theorem dX8_rhyme_44 : decode cX8_rhyme 44 = .ok (.if_icmp .gt 7, 3) := by decide +kernel
theorem dX8_rhyme_47 : decode cX8_rhyme 47 = .ok (.iconst 1, 1) := by decide +kernel
theorem dX8_rhyme_48 : decode cX8_rhyme 48 = .ok (.goto 4, 3) := by decide +kernel
theorem dX8_rhyme_51 : decode cX8_rhyme 51 = .ok (.iconst 0, 1) := by decide +kernel
theorem dX8_rhyme_52 : decode cX8_rhyme 52 = .ok (.ireturn, 1) := by decide +kernel
theorem dX8_lessonFor_0 : decode cX8_lessonFor 0 = .ok (.iconst (-1), 1) := by decide +kernel
theorem dX8_lessonFor_1 : decode cX8_lessonFor 1 = .ok (.istore_n 2, 1) := by decide +kernel
theorem dX8_lessonFor_2 : decode cX8_lessonFor 2 = .ok (.iconst 0, 1) := by decide +kernel
theorem dX8_lessonFor_3 : decode cX8_lessonFor 3 = .ok (.istore_n 3, 1) := by decide +kernel
theorem dX8_lessonFor_4 : decode cX8_lessonFor 4 = .ok (.iconst 0, 1) := by decide +kernel
theorem dX8_lessonFor_5 : decode cX8_lessonFor 5 = .ok (.istore 4, 2) := by decide +kernel
theorem dX8_lessonFor_7 : decode cX8_lessonFor 7 = .ok (.iload 4, 2) := by decide +kernel
theorem dX8_lessonFor_9 : decode cX8_lessonFor 9 = .ok (.iconst 5, 1) := by decide +kernel
theorem dX8_lessonFor_10 : decode cX8_lessonFor 10 = .ok (.if_icmp .ge 57, 3) := by decide +kernel
theorem dX8_lessonFor_13 : decode cX8_lessonFor 13 = .ok (.aload_n 0, 1) := by decide +kernel
theorem dX8_lessonFor_14 : decode cX8_lessonFor 14 = .ok (.iload_n 1, 1) := by decide +kernel
theorem dX8_lessonFor_15 : decode cX8_lessonFor 15 = .ok (.iload 4, 2) := by decide +kernel
theorem dX8_lessonFor_17 : decode cX8_lessonFor 17 = .ok (.invokevirtual 73, 3) := by decide +kernel
theorem dX8_lessonFor_20 : decode cX8_lessonFor 20 = .ok (.aload_n 0, 1) := by decide +kernel
theorem dX8_lessonFor_21 : decode cX8_lessonFor 21 = .ok (.getfield 19, 3) := by decide +kernel
theorem dX8_lessonFor_24 : decode cX8_lessonFor 24 = .ok (.iconst 2, 1) := by decide +kernel
theorem dX8_lessonFor_25 : decode cX8_lessonFor 25 = .ok (.iload 4, 2) := by decide +kernel
theorem dX8_lessonFor_27 : decode cX8_lessonFor 27 = .ok (.iadd, 1) := by decide +kernel
theorem dX8_lessonFor_28 : decode cX8_lessonFor 28 = .ok (.iaload, 1) := by decide +kernel
theorem dX8_lessonFor_29 : decode cX8_lessonFor 29 = .ok (.isub, 1) := by decide +kernel
theorem dX8_lessonFor_30 : decode cX8_lessonFor 30 = .ok (.invokestatic 77, 3) := by decide +kernel
theorem dX8_lessonFor_33 : decode cX8_lessonFor 33 = .ok (.istore 5, 2) := by decide +kernel
theorem dX8_lessonFor_35 : decode cX8_lessonFor 35 = .ok (.iload 5, 2) := by decide +kernel
theorem dX8_lessonFor_37 : decode cX8_lessonFor 37 = .ok (.iload_n 3, 1) := by decide +kernel
theorem dX8_lessonFor_38 : decode cX8_lessonFor 38 = .ok (.if_icmp .le 8, 3) := by decide +kernel
theorem dX8_lessonFor_41 : decode cX8_lessonFor 41 = .ok (.iload 4, 2) := by decide +kernel
theorem dX8_lessonFor_43 : decode cX8_lessonFor 43 = .ok (.goto 4, 3) := by decide +kernel
theorem dX8_lessonFor_46 : decode cX8_lessonFor 46 = .ok (.iload_n 2, 1) := by decide +kernel
theorem dX8_lessonFor_47 : decode cX8_lessonFor 47 = .ok (.istore_n 2, 1) := by decide +kernel
theorem dX8_lessonFor_48 : decode cX8_lessonFor 48 = .ok (.iload 5, 2) := by decide +kernel
theorem dX8_lessonFor_50 : decode cX8_lessonFor 50 = .ok (.iload_n 3, 1) := by decide +kernel
theorem dX8_lessonFor_51 : decode cX8_lessonFor 51 = .ok (.if_icmp .le 8, 3) := by decide +kernel
theorem dX8_lessonFor_54 : decode cX8_lessonFor 54 = .ok (.iload 5, 2) := by decide +kernel
theorem dX8_lessonFor_56 : decode cX8_lessonFor 56 = .ok (.goto 4, 3) := by decide +kernel
theorem dX8_lessonFor_59 : decode cX8_lessonFor 59 = .ok (.iload_n 3, 1) := by decide +kernel
theorem dX8_lessonFor_60 : decode cX8_lessonFor 60 = .ok (.istore_n 3, 1) := by decide +kernel
theorem dX8_lessonFor_61 : decode cX8_lessonFor 61 = .ok (.iinc 4 1, 3) := by decide +kernel
theorem dX8_lessonFor_64 : decode cX8_lessonFor 64 = .ok (.goto (-57), 3) := by decide +kernel
theorem dX8_lessonFor_67 : decode cX8_lessonFor 67 = .ok (.iload_n 2, 1) := by decide +kernel
theorem dX8_lessonFor_68 : decode cX8_lessonFor 68 = .ok (.ireturn, 1) := by decide +kernel
theorem dX8_averagesNow_0 : decode cX8_averagesNow 0 = .ok (.iconst 0, 1) := by decide +kernel
theorem dX8_averagesNow_1 : decode cX8_averagesNow 1 = .ok (.istore_n 1, 1) := by decide +kernel
theorem dX8_averagesNow_2 : decode cX8_averagesNow 2 = .ok (.iload_n 1, 1) := by decide +kernel
theorem dX8_averagesNow_3 : decode cX8_averagesNow 3 = .ok (.iconst 5, 1) := by decide +kernel
theorem dX8_averagesNow_4 : decode cX8_averagesNow 4 = .ok (.if_icmp .ge 50, 3) := by decide +kernel
theorem dX8_averagesNow_7 : decode cX8_averagesNow 7 = .ok (.aload_n 0, 1) := by decide +kernel
theorem dX8_averagesNow_8 : decode cX8_averagesNow 8 = .ok (.getfield 34, 3) := by decide +kernel
theorem dX8_averagesNow_11 : decode cX8_averagesNow 11 = .ok (.iload_n 1, 1) := by decide +kernel
theorem dX8_averagesNow_12 : decode cX8_averagesNow 12 = .ok (.aload_n 0, 1) := by decide +kernel
theorem dX8_averagesNow_13 : decode cX8_averagesNow 13 = .ok (.iload_n 1, 1) := by decide +kernel
theorem dX8_averagesNow_14 : decode cX8_averagesNow 14 = .ok (.iconst (-1), 1) := by decide +kernel
theorem dX8_averagesNow_15 : decode cX8_averagesNow 15 = .ok (.invokevirtual 80, 3) := by decide +kernel
theorem dX8_averagesNow_18 : decode cX8_averagesNow 18 = .ok (.iastore, 1) := by decide +kernel
theorem dX8_averagesNow_19 : decode cX8_averagesNow 19 = .ok (.iconst 0, 1) := by decide +kernel
theorem dX8_averagesNow_20 : decode cX8_averagesNow 20 = .ok (.istore_n 2, 1) := by decide +kernel
theorem dX8_averagesNow_21 : decode cX8_averagesNow 21 = .ok (.iload_n 2, 1) := by decide +kernel
theorem dX8_averagesNow_22 : decode cX8_averagesNow 22 = .ok (.iconst 5, 1) := by decide +kernel
theorem dX8_averagesNow_23 : decode cX8_averagesNow 23 = .ok (.if_icmp .ge 25, 3) := by decide +kernel
theorem dX8_averagesNow_26 : decode cX8_averagesNow 26 = .ok (.aload_n 0, 1) := by decide +kernel
theorem dX8_averagesNow_27 : decode cX8_averagesNow 27 = .ok (.getfield 31, 3) := by decide +kernel
theorem dX8_averagesNow_30 : decode cX8_averagesNow 30 = .ok (.iconst 5, 1) := by decide +kernel
theorem dX8_averagesNow_31 : decode cX8_averagesNow 31 = .ok (.iload_n 1, 1) := by decide +kernel
theorem dX8_averagesNow_32 : decode cX8_averagesNow 32 = .ok (.imul, 1) := by decide +kernel
theorem dX8_averagesNow_33 : decode cX8_averagesNow 33 = .ok (.iload_n 2, 1) := by decide +kernel
theorem dX8_averagesNow_34 : decode cX8_averagesNow 34 = .ok (.iadd, 1) := by decide +kernel
theorem dX8_averagesNow_35 : decode cX8_averagesNow 35 = .ok (.aload_n 0, 1) := by decide +kernel
theorem dX8_averagesNow_36 : decode cX8_averagesNow 36 = .ok (.iload_n 1, 1) := by decide +kernel
theorem dX8_averagesNow_37 : decode cX8_averagesNow 37 = .ok (.iload_n 2, 1) := by decide +kernel
theorem dX8_averagesNow_38 : decode cX8_averagesNow 38 = .ok (.invokevirtual 83, 3) := by decide +kernel
theorem dX8_averagesNow_41 : decode cX8_averagesNow 41 = .ok (.iastore, 1) := by decide +kernel
theorem dX8_averagesNow_42 : decode cX8_averagesNow 42 = .ok (.iinc 2 1, 3) := by decide +kernel
theorem dX8_averagesNow_45 : decode cX8_averagesNow 45 = .ok (.goto (-24), 3) := by decide +kernel
theorem dX8_averagesNow_48 : decode cX8_averagesNow 48 = .ok (.iinc 1 1, 3) := by decide +kernel
theorem dX8_averagesNow_51 : decode cX8_averagesNow 51 = .ok (.goto (-49), 3) := by decide +kernel
theorem dX8_averagesNow_54 : decode cX8_averagesNow 54 = .ok (.return_, 1) := by decide +kernel
theorem dX8_slipFor_0 : decode cX8_slipFor 0 = .ok (.aload_n 0, 1) := by decide +kernel
theorem dX8_slipFor_1 : decode cX8_slipFor 1 = .ok (.getfield 19, 3) := by decide +kernel
theorem dX8_slipFor_4 : decode cX8_slipFor 4 = .ok (.iload_n 1, 1) := by decide +kernel
theorem dX8_slipFor_5 : decode cX8_slipFor 5 = .ok (.invokestatic 56, 3) := by decide +kernel
theorem dX8_slipFor_8 : decode cX8_slipFor 8 = .ok (.iconst 0, 1) := by decide +kernel
theorem dX8_slipFor_9 : decode cX8_slipFor 9 = .ok (.iadd, 1) := by decide +kernel
theorem dX8_slipFor_10 : decode cX8_slipFor 10 = .ok (.iaload, 1) := by decide +kernel
theorem dX8_slipFor_11 : decode cX8_slipFor 11 = .ok (.istore_n 2, 1) := by decide +kernel
theorem dX8_slipFor_12 : decode cX8_slipFor 12 = .ok (.aload_n 0, 1) := by decide +kernel
theorem dX8_slipFor_13 : decode cX8_slipFor 13 = .ok (.getfield 34, 3) := by decide +kernel
theorem dX8_slipFor_16 : decode cX8_slipFor 16 = .ok (.iload_n 2, 1) := by decide +kernel
theorem dX8_slipFor_17 : decode cX8_slipFor 17 = .ok (.iaload, 1) := by decide +kernel
theorem dX8_slipFor_18 : decode cX8_slipFor 18 = .ok (.iconst 2, 1) := by decide +kernel
theorem dX8_slipFor_19 : decode cX8_slipFor 19 = .ok (.if_icmp .ge 5, 3) := by decide +kernel
theorem dX8_slipFor_22 : decode cX8_slipFor 22 = .ok (.iconst (-1), 1) := by decide +kernel
theorem dX8_slipFor_23 : decode cX8_slipFor 23 = .ok (.ireturn, 1) := by decide +kernel
theorem dX8_slipFor_24 : decode cX8_slipFor 24 = .ok (.iconst (-1), 1) := by decide +kernel
theorem dX8_slipFor_25 : decode cX8_slipFor 25 = .ok (.istore_n 3, 1) := by decide +kernel
theorem dX8_slipFor_26 : decode cX8_slipFor 26 = .ok (.iconst 0, 1) := by decide +kernel
theorem dX8_slipFor_27 : decode cX8_slipFor 27 = .ok (.istore 4, 2) := by decide +kernel
theorem dX8_slipFor_29 : decode cX8_slipFor 29 = .ok (.iconst 0, 1) := by decide +kernel
theorem dX8_slipFor_30 : decode cX8_slipFor 30 = .ok (.istore 5, 2) := by decide +kernel
theorem dX8_slipFor_32 : decode cX8_slipFor 32 = .ok (.iload 5, 2) := by decide +kernel
theorem dX8_slipFor_34 : decode cX8_slipFor 34 = .ok (.iconst 5, 1) := by decide +kernel
theorem dX8_slipFor_35 : decode cX8_slipFor 35 = .ok (.if_icmp .ge 63, 3) := by decide +kernel
theorem dX8_slipFor_38 : decode cX8_slipFor 38 = .ok (.aload_n 0, 1) := by decide +kernel
theorem dX8_slipFor_39 : decode cX8_slipFor 39 = .ok (.iload_n 1, 1) := by decide +kernel
theorem dX8_slipFor_40 : decode cX8_slipFor 40 = .ok (.iload 5, 2) := by decide +kernel
theorem dX8_slipFor_42 : decode cX8_slipFor 42 = .ok (.invokevirtual 73, 3) := by decide +kernel
theorem dX8_slipFor_45 : decode cX8_slipFor 45 = .ok (.aload_n 0, 1) := by decide +kernel
theorem dX8_slipFor_46 : decode cX8_slipFor 46 = .ok (.getfield 31, 3) := by decide +kernel
theorem dX8_slipFor_49 : decode cX8_slipFor 49 = .ok (.iconst 5, 1) := by decide +kernel
theorem dX8_slipFor_50 : decode cX8_slipFor 50 = .ok (.iload_n 2, 1) := by decide +kernel
theorem dX8_slipFor_51 : decode cX8_slipFor 51 = .ok (.imul, 1) := by decide +kernel
theorem dX8_slipFor_52 : decode cX8_slipFor 52 = .ok (.iload 5, 2) := by decide +kernel
theorem dX8_slipFor_54 : decode cX8_slipFor 54 = .ok (.iadd, 1) := by decide +kernel
theorem dX8_slipFor_55 : decode cX8_slipFor 55 = .ok (.iaload, 1) := by decide +kernel
theorem dX8_slipFor_56 : decode cX8_slipFor 56 = .ok (.isub, 1) := by decide +kernel
theorem dX8_slipFor_57 : decode cX8_slipFor 57 = .ok (.invokestatic 77, 3) := by decide +kernel
theorem dX8_slipFor_60 : decode cX8_slipFor 60 = .ok (.istore 6, 2) := by decide +kernel
theorem dX8_slipFor_62 : decode cX8_slipFor 62 = .ok (.iload 6, 2) := by decide +kernel
theorem dX8_slipFor_64 : decode cX8_slipFor 64 = .ok (.iload 4, 2) := by decide +kernel
theorem dX8_slipFor_66 : decode cX8_slipFor 66 = .ok (.if_icmp .le 8, 3) := by decide +kernel
theorem dX8_slipFor_69 : decode cX8_slipFor 69 = .ok (.iload 5, 2) := by decide +kernel
theorem dX8_slipFor_71 : decode cX8_slipFor 71 = .ok (.goto 4, 3) := by decide +kernel
theorem dX8_slipFor_74 : decode cX8_slipFor 74 = .ok (.iload_n 3, 1) := by decide +kernel
theorem dX8_slipFor_75 : decode cX8_slipFor 75 = .ok (.istore_n 3, 1) := by decide +kernel
theorem dX8_slipFor_76 : decode cX8_slipFor 76 = .ok (.iload 6, 2) := by decide +kernel
theorem dX8_slipFor_78 : decode cX8_slipFor 78 = .ok (.iload 4, 2) := by decide +kernel
theorem dX8_slipFor_80 : decode cX8_slipFor 80 = .ok (.if_icmp .le 8, 3) := by decide +kernel
theorem dX8_slipFor_83 : decode cX8_slipFor 83 = .ok (.iload 6, 2) := by decide +kernel
theorem dX8_slipFor_85 : decode cX8_slipFor 85 = .ok (.goto 5, 3) := by decide +kernel
theorem dX8_slipFor_88 : decode cX8_slipFor 88 = .ok (.iload 4, 2) := by decide +kernel
theorem dX8_slipFor_90 : decode cX8_slipFor 90 = .ok (.istore 4, 2) := by decide +kernel
theorem dX8_slipFor_92 : decode cX8_slipFor 92 = .ok (.iinc 5 1, 3) := by decide +kernel
theorem dX8_slipFor_95 : decode cX8_slipFor 95 = .ok (.goto (-63), 3) := by decide +kernel
theorem dX8_slipFor_98 : decode cX8_slipFor 98 = .ok (.iload_n 3, 1) := by decide +kernel
theorem dX8_slipFor_99 : decode cX8_slipFor 99 = .ok (.ireturn, 1) := by decide +kernel
theorem dX8_hasToGo_0 : decode cX8_hasToGo 0 = .ok (.aload_n 0, 1) := by decide +kernel
theorem dX8_hasToGo_1 : decode cX8_hasToGo 1 = .ok (.getfield 19, 3) := by decide +kernel
theorem dX8_hasToGo_4 : decode cX8_hasToGo 4 = .ok (.iload_n 1, 1) := by decide +kernel
theorem dX8_hasToGo_5 : decode cX8_hasToGo 5 = .ok (.invokestatic 56, 3) := by decide +kernel
theorem dX8_hasToGo_8 : decode cX8_hasToGo 8 = .ok (.iconst 1, 1) := by decide +kernel
theorem dX8_hasToGo_9 : decode cX8_hasToGo 9 = .ok (.iadd, 1) := by decide +kernel
theorem dX8_hasToGo_10 : decode cX8_hasToGo 10 = .ok (.iaload, 1) := by decide +kernel
theorem dX8_hasToGo_11 : decode cX8_hasToGo 11 = .ok (.ifCond .ge 29, 3) := by decide +kernel
theorem dX8_hasToGo_14 : decode cX8_hasToGo 14 = .ok (.aload_n 0, 1) := by decide +kernel
theorem dX8_hasToGo_15 : decode cX8_hasToGo 15 = .ok (.iload_n 1, 1) := by decide +kernel
theorem dX8_hasToGo_16 : decode cX8_hasToGo 16 = .ok (.invokevirtual 86, 3) := by decide +kernel
theorem dX8_hasToGo_19 : decode cX8_hasToGo 19 = .ok (.aload_n 0, 1) := by decide +kernel
theorem dX8_hasToGo_20 : decode cX8_hasToGo 20 = .ok (.getfield 19, 3) := by decide +kernel
theorem dX8_hasToGo_23 : decode cX8_hasToGo 23 = .ok (.iconst 1, 1) := by decide +kernel
theorem dX8_hasToGo_24 : decode cX8_hasToGo 24 = .ok (.iaload, 1) := by decide +kernel
theorem dX8_hasToGo_25 : decode cX8_hasToGo 25 = .ok (.if_icmp .le 15, 3) := by decide +kernel
theorem dX8_hasToGo_28 : decode cX8_hasToGo 28 = .ok (.aload_n 0, 1) := by decide +kernel
theorem dX8_hasToGo_29 : decode cX8_hasToGo 29 = .ok (.iload_n 1, 1) := by decide +kernel
theorem dX8_hasToGo_30 : decode cX8_hasToGo 30 = .ok (.invokevirtual 89, 3) := by decide +kernel
theorem dX8_hasToGo_33 : decode cX8_hasToGo 33 = .ok (.ifCond .ne 7, 3) := by decide +kernel
theorem dX8_hasToGo_36 : decode cX8_hasToGo 36 = .ok (.iconst 1, 1) := by decide +kernel
theorem dX8_hasToGo_37 : decode cX8_hasToGo 37 = .ok (.goto 4, 3) := by decide +kernel
theorem dX8_hasToGo_40 : decode cX8_hasToGo 40 = .ok (.iconst 0, 1) := by decide +kernel
theorem dX8_hasToGo_41 : decode cX8_hasToGo 41 = .ok (.ireturn, 1) := by decide +kernel
theorem dX8_moves_0 : decode cX8_moves 0 = .ok (.iload_n 1, 1) := by decide +kernel
theorem dX8_moves_1 : decode cX8_moves 1 = .ok (.invokestatic 56, 3) := by decide +kernel
theorem dX8_moves_4 : decode cX8_moves 4 = .ok (.iconst 5, 1) := by decide +kernel
theorem dX8_moves_5 : decode cX8_moves 5 = .ok (.iadd, 1) := by decide +kernel
theorem dX8_moves_6 : decode cX8_moves 6 = .ok (.iload_n 2, 1) := by decide +kernel
theorem dX8_moves_7 : decode cX8_moves 7 = .ok (.iadd, 1) := by decide +kernel
theorem dX8_moves_8 : decode cX8_moves 8 = .ok (.istore 4, 2) := by decide +kernel
theorem dX8_moves_10 : decode cX8_moves 10 = .ok (.aload_n 0, 1) := by decide +kernel
theorem dX8_moves_11 : decode cX8_moves 11 = .ok (.getfield 19, 3) := by decide +kernel
theorem dX8_moves_14 : decode cX8_moves 14 = .ok (.iload 4, 2) := by decide +kernel
theorem dX8_moves_16 : decode cX8_moves 16 = .ok (.dup2, 1) := by decide +kernel
theorem dX8_moves_17 : decode cX8_moves 17 = .ok (.iaload, 1) := by decide +kernel
theorem dX8_moves_18 : decode cX8_moves 18 = .ok (.aload_n 0, 1) := by decide +kernel
theorem dX8_moves_19 : decode cX8_moves 19 = .ok (.getfield 19, 3) := by decide +kernel
theorem dX8_moves_22 : decode cX8_moves 22 = .ok (.iload 4, 2) := by decide +kernel
theorem dX8_moves_24 : decode cX8_moves 24 = .ok (.iaload, 1) := by decide +kernel
theorem dX8_moves_25 : decode cX8_moves 25 = .ok (.iload_n 3, 1) := by decide +kernel
theorem dX8_moves_26 : decode cX8_moves 26 = .ok (.if_icmp .ge 7, 3) := by decide +kernel
theorem dX8_moves_29 : decode cX8_moves 29 = .ok (.iconst 1, 1) := by decide +kernel
theorem dX8_moves_30 : decode cX8_moves 30 = .ok (.goto 4, 3) := by decide +kernel
theorem dX8_moves_33 : decode cX8_moves 33 = .ok (.iconst (-1), 1) := by decide +kernel
theorem dX8_moves_34 : decode cX8_moves 34 = .ok (.iadd, 1) := by decide +kernel
theorem dX8_moves_35 : decode cX8_moves 35 = .ok (.iastore, 1) := by decide +kernel
theorem dX8_moves_36 : decode cX8_moves 36 = .ok (.return_, 1) := by decide +kernel
theorem dX8_charges_0 : decode cX8_charges 0 = .ok (.aload_n 0, 1) := by decide +kernel
theorem dX8_charges_1 : decode cX8_charges 1 = .ok (.aload_n 0, 1) := by decide +kernel
theorem dX8_charges_2 : decode cX8_charges 2 = .ok (.getfield 19, 3) := by decide +kernel
theorem dX8_charges_5 : decode cX8_charges 5 = .ok (.iload_n 1, 1) := by decide +kernel
theorem dX8_charges_6 : decode cX8_charges 6 = .ok (.invokestatic 56, 3) := by decide +kernel
theorem dX8_charges_9 : decode cX8_charges 9 = .ok (.iconst 0, 1) := by decide +kernel
theorem dX8_charges_10 : decode cX8_charges 10 = .ok (.iadd, 1) := by decide +kernel
theorem dX8_charges_11 : decode cX8_charges 11 = .ok (.iaload, 1) := by decide +kernel
theorem dX8_charges_12 : decode cX8_charges 12 = .ok (.invokevirtual 93, 3) := by decide +kernel
theorem dX8_charges_15 : decode cX8_charges 15 = .ok (.istore_n 2, 1) := by decide +kernel
theorem dX8_charges_16 : decode cX8_charges 16 = .ok (.aload_n 0, 1) := by decide +kernel
theorem dX8_charges_17 : decode cX8_charges 17 = .ok (.getfield 19, 3) := by decide +kernel
theorem dX8_charges_20 : decode cX8_charges 20 = .ok (.iload_n 1, 1) := by decide +kernel
theorem dX8_charges_21 : decode cX8_charges 21 = .ok (.invokestatic 56, 3) := by decide +kernel
theorem dX8_charges_24 : decode cX8_charges 24 = .ok (.iconst 1, 1) := by decide +kernel
theorem dX8_charges_25 : decode cX8_charges 25 = .ok (.iadd, 1) := by decide +kernel
theorem dX8_charges_26 : decode cX8_charges 26 = .ok (.dup2, 1) := by decide +kernel
theorem dX8_charges_27 : decode cX8_charges 27 = .ok (.iaload, 1) := by decide +kernel
theorem dX8_charges_28 : decode cX8_charges 28 = .ok (.iload_n 2, 1) := by decide +kernel
theorem dX8_charges_29 : decode cX8_charges 29 = .ok (.isub, 1) := by decide +kernel
theorem dX8_charges_30 : decode cX8_charges 30 = .ok (.iastore, 1) := by decide +kernel
theorem dX8_charges_31 : decode cX8_charges 31 = .ok (.aload_n 0, 1) := by decide +kernel
theorem dX8_charges_32 : decode cX8_charges 32 = .ok (.getfield 19, 3) := by decide +kernel
theorem dX8_charges_35 : decode cX8_charges 35 = .ok (.bipush 11, 2) := by decide +kernel
theorem dX8_charges_37 : decode cX8_charges 37 = .ok (.dup2, 1) := by decide +kernel
theorem dX8_charges_38 : decode cX8_charges 38 = .ok (.iaload, 1) := by decide +kernel
theorem dX8_charges_39 : decode cX8_charges 39 = .ok (.iload_n 2, 1) := by decide +kernel
theorem dX8_charges_40 : decode cX8_charges 40 = .ok (.iadd, 1) := by decide +kernel
theorem dX8_charges_41 : decode cX8_charges 41 = .ok (.iastore, 1) := by decide +kernel
theorem dX8_charges_42 : decode cX8_charges 42 = .ok (.return_, 1) := by decide +kernel
theorem dX8_teaches_0 : decode cX8_teaches 0 = .ok (.aload_n 0, 1) := by decide +kernel
theorem dX8_teaches_1 : decode cX8_teaches 1 = .ok (.iload_n 1, 1) := by decide +kernel
theorem dX8_teaches_2 : decode cX8_teaches 2 = .ok (.invokevirtual 96, 3) := by decide +kernel
theorem dX8_teaches_5 : decode cX8_teaches 5 = .ok (.istore_n 2, 1) := by decide +kernel
theorem dX8_teaches_6 : decode cX8_teaches 6 = .ok (.aload_n 0, 1) := by decide +kernel
theorem dX8_teaches_7 : decode cX8_teaches 7 = .ok (.getfield 19, 3) := by decide +kernel
theorem dX8_teaches_10 : decode cX8_teaches 10 = .ok (.iload_n 1, 1) := by decide +kernel
theorem dX8_teaches_11 : decode cX8_teaches 11 = .ok (.invokestatic 56, 3) := by decide +kernel
theorem dX8_teaches_14 : decode cX8_teaches 14 = .ok (.iconst 1, 1) := by decide +kernel
theorem dX8_teaches_15 : decode cX8_teaches 15 = .ok (.iadd, 1) := by decide +kernel
theorem dX8_teaches_16 : decode cX8_teaches 16 = .ok (.iaload, 1) := by decide +kernel
theorem dX8_teaches_17 : decode cX8_teaches 17 = .ok (.ifCond .lt 37, 3) := by decide +kernel
theorem dX8_teaches_20 : decode cX8_teaches 20 = .ok (.iload_n 2, 1) := by decide +kernel
theorem dX8_teaches_21 : decode cX8_teaches 21 = .ok (.iconst (-1), 1) := by decide +kernel
theorem dX8_teaches_22 : decode cX8_teaches 22 = .ok (.if_icmp .eq 32, 3) := by decide +kernel
theorem dX8_teaches_25 : decode cX8_teaches 25 = .ok (.aload_n 0, 1) := by decide +kernel
theorem dX8_teaches_26 : decode cX8_teaches 26 = .ok (.iload_n 1, 1) := by decide +kernel
theorem dX8_teaches_27 : decode cX8_teaches 27 = .ok (.iload_n 2, 1) := by decide +kernel
theorem dX8_teaches_28 : decode cX8_teaches 28 = .ok (.aload_n 0, 1) := by decide +kernel
theorem dX8_teaches_29 : decode cX8_teaches 29 = .ok (.getfield 19, 3) := by decide +kernel
theorem dX8_teaches_32 : decode cX8_teaches 32 = .ok (.iconst 2, 1) := by decide +kernel
theorem dX8_teaches_33 : decode cX8_teaches 33 = .ok (.iload_n 2, 1) := by decide +kernel
theorem dX8_teaches_34 : decode cX8_teaches 34 = .ok (.iadd, 1) := by decide +kernel
theorem dX8_teaches_35 : decode cX8_teaches 35 = .ok (.iaload, 1) := by decide +kernel
theorem dX8_teaches_36 : decode cX8_teaches 36 = .ok (.invokevirtual 99, 3) := by decide +kernel
theorem dX8_teaches_39 : decode cX8_teaches 39 = .ok (.aload_n 0, 1) := by decide +kernel
theorem dX8_teaches_40 : decode cX8_teaches 40 = .ok (.getfield 19, 3) := by decide +kernel
theorem dX8_teaches_43 : decode cX8_teaches 43 = .ok (.iload_n 1, 1) := by decide +kernel
theorem dX8_teaches_44 : decode cX8_teaches 44 = .ok (.invokestatic 56, 3) := by decide +kernel
theorem dX8_teaches_47 : decode cX8_teaches 47 = .ok (.iconst 2, 1) := by decide +kernel
theorem dX8_teaches_48 : decode cX8_teaches 48 = .ok (.iadd, 1) := by decide +kernel
theorem dX8_teaches_49 : decode cX8_teaches 49 = .ok (.dup2, 1) := by decide +kernel
theorem dX8_teaches_50 : decode cX8_teaches 50 = .ok (.iaload, 1) := by decide +kernel
theorem dX8_teaches_51 : decode cX8_teaches 51 = .ok (.iconst 1, 1) := by decide +kernel
theorem dX8_teaches_52 : decode cX8_teaches 52 = .ok (.iadd, 1) := by decide +kernel
theorem dX8_teaches_53 : decode cX8_teaches 53 = .ok (.iastore, 1) := by decide +kernel
theorem dX8_teaches_54 : decode cX8_teaches 54 = .ok (.return_, 1) := by decide +kernel
theorem dX8_dines_0 : decode cX8_dines 0 = .ok (.aload_n 0, 1) := by decide +kernel
theorem dX8_dines_1 : decode cX8_dines 1 = .ok (.iload_n 1, 1) := by decide +kernel
theorem dX8_dines_2 : decode cX8_dines 2 = .ok (.invokevirtual 102, 3) := by decide +kernel
theorem dX8_dines_5 : decode cX8_dines 5 = .ok (.istore_n 2, 1) := by decide +kernel
theorem dX8_dines_6 : decode cX8_dines 6 = .ok (.iload_n 2, 1) := by decide +kernel
theorem dX8_dines_7 : decode cX8_dines 7 = .ok (.iconst (-1), 1) := by decide +kernel
theorem dX8_dines_8 : decode cX8_dines 8 = .ok (.if_icmp .eq 44, 3) := by decide +kernel
theorem dX8_dines_11 : decode cX8_dines 11 = .ok (.aload_n 0, 1) := by decide +kernel
theorem dX8_dines_12 : decode cX8_dines 12 = .ok (.iload_n 1, 1) := by decide +kernel
theorem dX8_dines_13 : decode cX8_dines 13 = .ok (.iload_n 2, 1) := by decide +kernel
theorem dX8_dines_14 : decode cX8_dines 14 = .ok (.aload_n 0, 1) := by decide +kernel
theorem dX8_dines_15 : decode cX8_dines 15 = .ok (.getfield 31, 3) := by decide +kernel
theorem dX8_dines_18 : decode cX8_dines 18 = .ok (.iconst 5, 1) := by decide +kernel
theorem dX8_dines_19 : decode cX8_dines 19 = .ok (.aload_n 0, 1) := by decide +kernel
theorem dX8_dines_20 : decode cX8_dines 20 = .ok (.getfield 19, 3) := by decide +kernel
theorem dX8_dines_23 : decode cX8_dines 23 = .ok (.iload_n 1, 1) := by decide +kernel
theorem dX8_dines_24 : decode cX8_dines 24 = .ok (.invokestatic 56, 3) := by decide +kernel
theorem dX8_dines_27 : decode cX8_dines 27 = .ok (.iconst 0, 1) := by decide +kernel
theorem dX8_dines_28 : decode cX8_dines 28 = .ok (.iadd, 1) := by decide +kernel
theorem dX8_dines_29 : decode cX8_dines 29 = .ok (.iaload, 1) := by decide +kernel
theorem dX8_dines_30 : decode cX8_dines 30 = .ok (.imul, 1) := by decide +kernel
theorem dX8_dines_31 : decode cX8_dines 31 = .ok (.iload_n 2, 1) := by decide +kernel
theorem dX8_dines_32 : decode cX8_dines 32 = .ok (.iadd, 1) := by decide +kernel
theorem dX8_dines_33 : decode cX8_dines 33 = .ok (.iaload, 1) := by decide +kernel
theorem dX8_dines_34 : decode cX8_dines 34 = .ok (.invokevirtual 99, 3) := by decide +kernel
theorem dX8_dines_37 : decode cX8_dines 37 = .ok (.aload_n 0, 1) := by decide +kernel
theorem dX8_dines_38 : decode cX8_dines 38 = .ok (.getfield 19, 3) := by decide +kernel
theorem dX8_dines_41 : decode cX8_dines 41 = .ok (.iload_n 1, 1) := by decide +kernel
theorem dX8_dines_42 : decode cX8_dines 42 = .ok (.invokestatic 56, 3) := by decide +kernel
theorem dX8_dines_45 : decode cX8_dines 45 = .ok (.iconst 3, 1) := by decide +kernel
theorem dX8_dines_46 : decode cX8_dines 46 = .ok (.iadd, 1) := by decide +kernel
theorem dX8_dines_47 : decode cX8_dines 47 = .ok (.dup2, 1) := by decide +kernel
theorem dX8_dines_48 : decode cX8_dines 48 = .ok (.iaload, 1) := by decide +kernel
theorem dX8_dines_49 : decode cX8_dines 49 = .ok (.iconst 1, 1) := by decide +kernel
theorem dX8_dines_50 : decode cX8_dines 50 = .ok (.iadd, 1) := by decide +kernel
theorem dX8_dines_51 : decode cX8_dines 51 = .ok (.iastore, 1) := by decide +kernel
theorem dX8_dines_52 : decode cX8_dines 52 = .ok (.return_, 1) := by decide +kernel
theorem dX8_inspects_0 : decode cX8_inspects 0 = .ok (.iconst 0, 1) := by decide +kernel
theorem dX8_inspects_1 : decode cX8_inspects 1 = .ok (.istore_n 1, 1) := by decide +kernel
theorem dX8_inspects_2 : decode cX8_inspects 2 = .ok (.iload_n 1, 1) := by decide +kernel
theorem dX8_inspects_3 : decode cX8_inspects 3 = .ok (.aload_n 0, 1) := by decide +kernel
theorem dX8_inspects_4 : decode cX8_inspects 4 = .ok (.getfield 19, 3) := by decide +kernel
theorem dX8_inspects_7 : decode cX8_inspects 7 = .ok (.bipush 7, 2) := by decide +kernel
theorem dX8_inspects_9 : decode cX8_inspects 9 = .ok (.iaload, 1) := by decide +kernel
theorem dX8_inspects_10 : decode cX8_inspects 10 = .ok (.if_icmp .ge 36, 3) := by decide +kernel
theorem dX8_inspects_13 : decode cX8_inspects 13 = .ok (.aload_n 0, 1) := by decide +kernel
theorem dX8_inspects_14 : decode cX8_inspects 14 = .ok (.iload_n 1, 1) := by decide +kernel
theorem dX8_inspects_15 : decode cX8_inspects 15 = .ok (.invokevirtual 105, 3) := by decide +kernel
theorem dX8_inspects_18 : decode cX8_inspects 18 = .ok (.ifCond .eq 22, 3) := by decide +kernel
theorem dX8_inspects_21 : decode cX8_inspects 21 = .ok (.aload_n 0, 1) := by decide +kernel
theorem dX8_inspects_22 : decode cX8_inspects 22 = .ok (.iload_n 1, 1) := by decide +kernel
theorem dX8_inspects_23 : decode cX8_inspects 23 = .ok (.invokevirtual 108, 3) := by decide +kernel
theorem dX8_inspects_26 : decode cX8_inspects 26 = .ok (.aload_n 0, 1) := by decide +kernel
theorem dX8_inspects_27 : decode cX8_inspects 27 = .ok (.getfield 19, 3) := by decide +kernel
theorem dX8_inspects_30 : decode cX8_inspects 30 = .ok (.bipush 9, 2) := by decide +kernel
theorem dX8_inspects_32 : decode cX8_inspects 32 = .ok (.dup2, 1) := by decide +kernel
theorem dX8_inspects_33 : decode cX8_inspects 33 = .ok (.iaload, 1) := by decide +kernel
theorem dX8_inspects_34 : decode cX8_inspects 34 = .ok (.iconst 1, 1) := by decide +kernel
theorem dX8_inspects_35 : decode cX8_inspects 35 = .ok (.iadd, 1) := by decide +kernel
theorem dX8_inspects_36 : decode cX8_inspects 36 = .ok (.iastore, 1) := by decide +kernel
theorem dX8_inspects_37 : decode cX8_inspects 37 = .ok (.goto (-35), 3) := by decide +kernel
theorem dX8_inspects_40 : decode cX8_inspects 40 = .ok (.iinc 1 1, 3) := by decide +kernel
theorem dX8_inspects_43 : decode cX8_inspects 43 = .ok (.goto (-41), 3) := by decide +kernel
theorem dX8_inspects_46 : decode cX8_inspects 46 = .ok (.return_, 1) := by decide +kernel
theorem dX8_passesDay_0 : decode cX8_passesDay 0 = .ok (.iconst 0, 1) := by decide +kernel
theorem dX8_passesDay_1 : decode cX8_passesDay 1 = .ok (.istore_n 1, 1) := by decide +kernel
theorem dX8_passesDay_2 : decode cX8_passesDay 2 = .ok (.iload_n 1, 1) := by decide +kernel
theorem dX8_passesDay_3 : decode cX8_passesDay 3 = .ok (.aload_n 0, 1) := by decide +kernel
theorem dX8_passesDay_4 : decode cX8_passesDay 4 = .ok (.getfield 19, 3) := by decide +kernel
theorem dX8_passesDay_7 : decode cX8_passesDay 7 = .ok (.bipush 7, 2) := by decide +kernel
theorem dX8_passesDay_9 : decode cX8_passesDay 9 = .ok (.iaload, 1) := by decide +kernel
theorem dX8_passesDay_10 : decode cX8_passesDay 10 = .ok (.if_icmp .ge 14, 3) := by decide +kernel
theorem dX8_passesDay_13 : decode cX8_passesDay 13 = .ok (.aload_n 0, 1) := by decide +kernel
theorem dX8_passesDay_14 : decode cX8_passesDay 14 = .ok (.iload_n 1, 1) := by decide +kernel
theorem dX8_passesDay_15 : decode cX8_passesDay 15 = .ok (.invokevirtual 112, 3) := by decide +kernel
theorem dX8_passesDay_18 : decode cX8_passesDay 18 = .ok (.iinc 1 1, 3) := by decide +kernel
theorem dX8_passesDay_21 : decode cX8_passesDay 21 = .ok (.goto (-19), 3) := by decide +kernel
theorem dX8_passesDay_24 : decode cX8_passesDay 24 = .ok (.iconst 0, 1) := by decide +kernel
theorem dX8_passesDay_25 : decode cX8_passesDay 25 = .ok (.istore_n 1, 1) := by decide +kernel
theorem dX8_passesDay_26 : decode cX8_passesDay 26 = .ok (.iload_n 1, 1) := by decide +kernel
theorem dX8_passesDay_27 : decode cX8_passesDay 27 = .ok (.aload_n 0, 1) := by decide +kernel
theorem dX8_passesDay_28 : decode cX8_passesDay 28 = .ok (.getfield 19, 3) := by decide +kernel
theorem dX8_passesDay_31 : decode cX8_passesDay 31 = .ok (.bipush 7, 2) := by decide +kernel
theorem dX8_passesDay_33 : decode cX8_passesDay 33 = .ok (.iaload, 1) := by decide +kernel
theorem dX8_passesDay_34 : decode cX8_passesDay 34 = .ok (.if_icmp .ge 14, 3) := by decide +kernel
theorem dX8_passesDay_37 : decode cX8_passesDay 37 = .ok (.aload_n 0, 1) := by decide +kernel
theorem dX8_passesDay_38 : decode cX8_passesDay 38 = .ok (.iload_n 1, 1) := by decide +kernel
theorem dX8_passesDay_39 : decode cX8_passesDay 39 = .ok (.invokevirtual 115, 3) := by decide +kernel
theorem dX8_passesDay_42 : decode cX8_passesDay 42 = .ok (.iinc 1 1, 3) := by decide +kernel
theorem dX8_passesDay_45 : decode cX8_passesDay 45 = .ok (.goto (-19), 3) := by decide +kernel
theorem dX8_passesDay_48 : decode cX8_passesDay 48 = .ok (.aload_n 0, 1) := by decide +kernel
theorem dX8_passesDay_49 : decode cX8_passesDay 49 = .ok (.invokevirtual 118, 3) := by decide +kernel
theorem dX8_passesDay_52 : decode cX8_passesDay 52 = .ok (.iconst 0, 1) := by decide +kernel
theorem dX8_passesDay_53 : decode cX8_passesDay 53 = .ok (.istore_n 1, 1) := by decide +kernel
theorem dX8_passesDay_54 : decode cX8_passesDay 54 = .ok (.iload_n 1, 1) := by decide +kernel
theorem dX8_passesDay_55 : decode cX8_passesDay 55 = .ok (.aload_n 0, 1) := by decide +kernel
theorem dX8_passesDay_56 : decode cX8_passesDay 56 = .ok (.getfield 19, 3) := by decide +kernel
theorem dX8_passesDay_59 : decode cX8_passesDay 59 = .ok (.bipush 7, 2) := by decide +kernel
theorem dX8_passesDay_61 : decode cX8_passesDay 61 = .ok (.iaload, 1) := by decide +kernel
theorem dX8_passesDay_62 : decode cX8_passesDay 62 = .ok (.if_icmp .ge 14, 3) := by decide +kernel
theorem dX8_passesDay_65 : decode cX8_passesDay 65 = .ok (.aload_n 0, 1) := by decide +kernel
theorem dX8_passesDay_66 : decode cX8_passesDay 66 = .ok (.iload_n 1, 1) := by decide +kernel
theorem dX8_passesDay_67 : decode cX8_passesDay 67 = .ok (.invokevirtual 121, 3) := by decide +kernel
theorem dX8_passesDay_70 : decode cX8_passesDay 70 = .ok (.iinc 1 1, 3) := by decide +kernel
theorem dX8_passesDay_73 : decode cX8_passesDay 73 = .ok (.goto (-19), 3) := by decide +kernel
theorem dX8_passesDay_76 : decode cX8_passesDay 76 = .ok (.aload_n 0, 1) := by decide +kernel
theorem dX8_passesDay_77 : decode cX8_passesDay 77 = .ok (.getfield 19, 3) := by decide +kernel
theorem dX8_passesDay_80 : decode cX8_passesDay 80 = .ok (.bipush 8, 2) := by decide +kernel
theorem dX8_passesDay_82 : decode cX8_passesDay 82 = .ok (.dup2, 1) := by decide +kernel
theorem dX8_passesDay_83 : decode cX8_passesDay 83 = .ok (.iaload, 1) := by decide +kernel
theorem dX8_passesDay_84 : decode cX8_passesDay 84 = .ok (.iconst 1, 1) := by decide +kernel
theorem dX8_passesDay_85 : decode cX8_passesDay 85 = .ok (.iadd, 1) := by decide +kernel
theorem dX8_passesDay_86 : decode cX8_passesDay 86 = .ok (.iastore, 1) := by decide +kernel
theorem dX8_passesDay_87 : decode cX8_passesDay 87 = .ok (.aload_n 0, 1) := by decide +kernel
theorem dX8_passesDay_88 : decode cX8_passesDay 88 = .ok (.getfield 19, 3) := by decide +kernel
theorem dX8_passesDay_91 : decode cX8_passesDay 91 = .ok (.bipush 8, 2) := by decide +kernel
theorem dX8_passesDay_93 : decode cX8_passesDay 93 = .ok (.iaload, 1) := by decide +kernel
theorem dX8_passesDay_94 : decode cX8_passesDay 94 = .ok (.bipush 7, 2) := by decide +kernel
theorem dX8_passesDay_96 : decode cX8_passesDay 96 = .ok (.irem, 1) := by decide +kernel
theorem dX8_passesDay_97 : decode cX8_passesDay 97 = .ok (.ifCond .ne 7, 3) := by decide +kernel
theorem dX8_passesDay_100 : decode cX8_passesDay 100 = .ok (.aload_n 0, 1) := by decide +kernel
theorem dX8_passesDay_101 : decode cX8_passesDay 101 = .ok (.invokevirtual 124, 3) := by decide +kernel
theorem dX8_passesDay_104 : decode cX8_passesDay 104 = .ok (.return_, 1) := by decide +kernel
theorem dX8_passes_0 : decode cX8_passes 0 = .ok (.iconst 0, 1) := by decide +kernel
theorem dX8_passes_1 : decode cX8_passes 1 = .ok (.istore_n 2, 1) := by decide +kernel
theorem dX8_passes_2 : decode cX8_passes 2 = .ok (.iload_n 2, 1) := by decide +kernel
theorem dX8_passes_3 : decode cX8_passes 3 = .ok (.iload_n 1, 1) := by decide +kernel
theorem dX8_passes_4 : decode cX8_passes 4 = .ok (.if_icmp .ge 13, 3) := by decide +kernel
theorem dX8_passes_7 : decode cX8_passes 7 = .ok (.aload_n 0, 1) := by decide +kernel
theorem dX8_passes_8 : decode cX8_passes 8 = .ok (.invokevirtual 60, 3) := by decide +kernel
theorem dX8_passes_11 : decode cX8_passes 11 = .ok (.iinc 2 1, 3) := by decide +kernel
theorem dX8_passes_14 : decode cX8_passes 14 = .ok (.goto (-12), 3) := by decide +kernel
theorem dX8_passes_17 : decode cX8_passes 17 = .ok (.return_, 1) := by decide +kernel
theorem dX8_remembers_0 : decode cX8_remembers 0 = .ok (.aload_n 0, 1) := by decide +kernel
theorem dX8_remembers_1 : decode cX8_remembers 1 = .ok (.getfield 127, 3) := by decide +kernel
theorem dX8_remembers_4 : decode cX8_remembers 4 = .ok (.bipush 10, 2) := by decide +kernel
theorem dX8_remembers_6 : decode cX8_remembers 6 = .ok (.if_icmp .ne 46, 3) := by decide +kernel
theorem dX8_remembers_9 : decode cX8_remembers 9 = .ok (.sipush 205, 3) := by decide +kernel
theorem dX8_remembers_12 : decode cX8_remembers 12 = .ok (.istore_n 1, 1) := by decide +kernel
theorem dX8_remembers_13 : decode cX8_remembers 13 = .ok (.iload_n 1, 1) := by decide +kernel
theorem dX8_remembers_14 : decode cX8_remembers 14 = .ok (.sipush 2050, 3) := by decide +kernel
theorem dX8_remembers_17 : decode cX8_remembers 17 = .ok (.if_icmp .ge 25, 3) := by decide +kernel
theorem dX8_remembers_20 : decode cX8_remembers 20 = .ok (.aload_n 0, 1) := by decide +kernel
theorem dX8_remembers_21 : decode cX8_remembers 21 = .ok (.getfield 25, 3) := by decide +kernel
theorem dX8_remembers_24 : decode cX8_remembers 24 = .ok (.iload_n 1, 1) := by decide +kernel
theorem dX8_remembers_25 : decode cX8_remembers 25 = .ok (.sipush 205, 3) := by decide +kernel
theorem dX8_remembers_28 : decode cX8_remembers 28 = .ok (.isub, 1) := by decide +kernel
theorem dX8_remembers_29 : decode cX8_remembers 29 = .ok (.aload_n 0, 1) := by decide +kernel
theorem dX8_remembers_30 : decode cX8_remembers 30 = .ok (.getfield 25, 3) := by decide +kernel
theorem dX8_remembers_33 : decode cX8_remembers 33 = .ok (.iload_n 1, 1) := by decide +kernel
theorem dX8_remembers_34 : decode cX8_remembers 34 = .ok (.iaload, 1) := by decide +kernel
theorem dX8_remembers_35 : decode cX8_remembers 35 = .ok (.iastore, 1) := by decide +kernel
theorem dX8_remembers_36 : decode cX8_remembers 36 = .ok (.iinc 1 1, 3) := by decide +kernel
theorem dX8_remembers_39 : decode cX8_remembers 39 = .ok (.goto (-26), 3) := by decide +kernel
theorem dX8_remembers_42 : decode cX8_remembers 42 = .ok (.aload_n 0, 1) := by decide +kernel
theorem dX8_remembers_43 : decode cX8_remembers 43 = .ok (.dup, 1) := by decide +kernel
theorem dX8_remembers_44 : decode cX8_remembers 44 = .ok (.getfield 127, 3) := by decide +kernel
theorem dX8_remembers_47 : decode cX8_remembers 47 = .ok (.iconst 1, 1) := by decide +kernel
theorem dX8_remembers_48 : decode cX8_remembers 48 = .ok (.isub, 1) := by decide +kernel
theorem dX8_remembers_49 : decode cX8_remembers 49 = .ok (.putfield 127, 3) := by decide +kernel
theorem dX8_remembers_52 : decode cX8_remembers 52 = .ok (.iconst 0, 1) := by decide +kernel
theorem dX8_remembers_53 : decode cX8_remembers 53 = .ok (.istore_n 1, 1) := by decide +kernel
theorem dX8_remembers_54 : decode cX8_remembers 54 = .ok (.iload_n 1, 1) := by decide +kernel
theorem dX8_remembers_55 : decode cX8_remembers 55 = .ok (.sipush 205, 3) := by decide +kernel
theorem dX8_remembers_58 : decode cX8_remembers 58 = .ok (.if_icmp .ge 30, 3) := by decide +kernel
theorem dX8_remembers_61 : decode cX8_remembers 61 = .ok (.aload_n 0, 1) := by decide +kernel
theorem dX8_remembers_62 : decode cX8_remembers 62 = .ok (.getfield 25, 3) := by decide +kernel
theorem dX8_remembers_65 : decode cX8_remembers 65 = .ok (.aload_n 0, 1) := by decide +kernel
theorem dX8_remembers_66 : decode cX8_remembers 66 = .ok (.getfield 127, 3) := by decide +kernel
theorem dX8_remembers_69 : decode cX8_remembers 69 = .ok (.sipush 205, 3) := by decide +kernel
theorem dX8_remembers_72 : decode cX8_remembers 72 = .ok (.imul, 1) := by decide +kernel
theorem dX8_remembers_73 : decode cX8_remembers 73 = .ok (.iload_n 1, 1) := by decide +kernel
theorem dX8_remembers_74 : decode cX8_remembers 74 = .ok (.iadd, 1) := by decide +kernel
theorem dX8_remembers_75 : decode cX8_remembers 75 = .ok (.aload_n 0, 1) := by decide +kernel
theorem dX8_remembers_76 : decode cX8_remembers 76 = .ok (.getfield 19, 3) := by decide +kernel
theorem dX8_remembers_79 : decode cX8_remembers 79 = .ok (.iload_n 1, 1) := by decide +kernel
theorem dX8_remembers_80 : decode cX8_remembers 80 = .ok (.iaload, 1) := by decide +kernel
theorem dX8_remembers_81 : decode cX8_remembers 81 = .ok (.iastore, 1) := by decide +kernel
theorem dX8_remembers_82 : decode cX8_remembers 82 = .ok (.iinc 1 1, 3) := by decide +kernel
theorem dX8_remembers_85 : decode cX8_remembers 85 = .ok (.goto (-31), 3) := by decide +kernel
theorem dX8_remembers_88 : decode cX8_remembers 88 = .ok (.aload_n 0, 1) := by decide +kernel
theorem dX8_remembers_89 : decode cX8_remembers 89 = .ok (.dup, 1) := by decide +kernel
theorem dX8_remembers_90 : decode cX8_remembers 90 = .ok (.getfield 127, 3) := by decide +kernel
theorem dX8_remembers_93 : decode cX8_remembers 93 = .ok (.iconst 1, 1) := by decide +kernel
theorem dX8_remembers_94 : decode cX8_remembers 94 = .ok (.iadd, 1) := by decide +kernel
theorem dX8_remembers_95 : decode cX8_remembers 95 = .ok (.putfield 127, 3) := by decide +kernel
theorem dX8_remembers_98 : decode cX8_remembers 98 = .ok (.return_, 1) := by decide +kernel
theorem dX8_putsAside_0 : decode cX8_putsAside 0 = .ok (.iconst 0, 1) := by decide +kernel
theorem dX8_putsAside_1 : decode cX8_putsAside 1 = .ok (.istore_n 1, 1) := by decide +kernel
theorem dX8_putsAside_2 : decode cX8_putsAside 2 = .ok (.iload_n 1, 1) := by decide +kernel
theorem dX8_putsAside_3 : decode cX8_putsAside 3 = .ok (.sipush 205, 3) := by decide +kernel
theorem dX8_putsAside_6 : decode cX8_putsAside 6 = .ok (.if_icmp .ge 21, 3) := by decide +kernel
theorem dX8_putsAside_9 : decode cX8_putsAside 9 = .ok (.aload_n 0, 1) := by decide +kernel
theorem dX8_putsAside_10 : decode cX8_putsAside 10 = .ok (.getfield 22, 3) := by decide +kernel
theorem dX8_putsAside_13 : decode cX8_putsAside 13 = .ok (.iload_n 1, 1) := by decide +kernel
theorem dX8_putsAside_14 : decode cX8_putsAside 14 = .ok (.aload_n 0, 1) := by decide +kernel
theorem dX8_putsAside_15 : decode cX8_putsAside 15 = .ok (.getfield 19, 3) := by decide +kernel
theorem dX8_putsAside_18 : decode cX8_putsAside 18 = .ok (.iload_n 1, 1) := by decide +kernel
theorem dX8_putsAside_19 : decode cX8_putsAside 19 = .ok (.iaload, 1) := by decide +kernel
theorem dX8_putsAside_20 : decode cX8_putsAside 20 = .ok (.iastore, 1) := by decide +kernel
theorem dX8_putsAside_21 : decode cX8_putsAside 21 = .ok (.iinc 1 1, 3) := by decide +kernel
theorem dX8_putsAside_24 : decode cX8_putsAside 24 = .ok (.goto (-22), 3) := by decide +kernel
theorem dX8_putsAside_27 : decode cX8_putsAside 27 = .ok (.return_, 1) := by decide +kernel
theorem dX8_putsBack_0 : decode cX8_putsBack 0 = .ok (.iconst 0, 1) := by decide +kernel
theorem dX8_putsBack_1 : decode cX8_putsBack 1 = .ok (.istore_n 1, 1) := by decide +kernel
theorem dX8_putsBack_2 : decode cX8_putsBack 2 = .ok (.iload_n 1, 1) := by decide +kernel
theorem dX8_putsBack_3 : decode cX8_putsBack 3 = .ok (.sipush 205, 3) := by decide +kernel
theorem dX8_putsBack_6 : decode cX8_putsBack 6 = .ok (.if_icmp .ge 21, 3) := by decide +kernel
theorem dX8_putsBack_9 : decode cX8_putsBack 9 = .ok (.aload_n 0, 1) := by decide +kernel
theorem dX8_putsBack_10 : decode cX8_putsBack 10 = .ok (.getfield 19, 3) := by decide +kernel
theorem dX8_putsBack_13 : decode cX8_putsBack 13 = .ok (.iload_n 1, 1) := by decide +kernel
theorem dX8_putsBack_14 : decode cX8_putsBack 14 = .ok (.aload_n 0, 1) := by decide +kernel
theorem dX8_putsBack_15 : decode cX8_putsBack 15 = .ok (.getfield 22, 3) := by decide +kernel
theorem dX8_putsBack_18 : decode cX8_putsBack 18 = .ok (.iload_n 1, 1) := by decide +kernel
theorem dX8_putsBack_19 : decode cX8_putsBack 19 = .ok (.iaload, 1) := by decide +kernel
theorem dX8_putsBack_20 : decode cX8_putsBack 20 = .ok (.iastore, 1) := by decide +kernel
theorem dX8_putsBack_21 : decode cX8_putsBack 21 = .ok (.iinc 1 1, 3) := by decide +kernel
theorem dX8_putsBack_24 : decode cX8_putsBack 24 = .ok (.goto (-22), 3) := by decide +kernel
theorem dX8_putsBack_27 : decode cX8_putsBack 27 = .ok (.aload_n 0, 1) := by decide +kernel
theorem dX8_putsBack_28 : decode cX8_putsBack 28 = .ok (.iconst (-1), 1) := by decide +kernel
theorem dX8_putsBack_29 : decode cX8_putsBack 29 = .ok (.putfield 37, 3) := by decide +kernel
theorem dX8_putsBack_32 : decode cX8_putsBack 32 = .ok (.return_, 1) := by decide +kernel
theorem dX8_isLetter_0 : decode cX8_isLetter 0 = .ok (.iload_n 0, 1) := by decide +kernel
theorem dX8_isLetter_1 : decode cX8_isLetter 1 = .ok (.bipush 97, 2) := by decide +kernel
theorem dX8_isLetter_3 : decode cX8_isLetter 3 = .ok (.if_icmp .lt 13, 3) := by decide +kernel
theorem dX8_isLetter_6 : decode cX8_isLetter 6 = .ok (.iload_n 0, 1) := by decide +kernel
theorem dX8_isLetter_7 : decode cX8_isLetter 7 = .ok (.bipush 122, 2) := by decide +kernel
theorem dX8_isLetter_9 : decode cX8_isLetter 9 = .ok (.if_icmp .gt 7, 3) := by decide +kernel
theorem dX8_isLetter_12 : decode cX8_isLetter 12 = .ok (.iconst 1, 1) := by decide +kernel
theorem dX8_isLetter_13 : decode cX8_isLetter 13 = .ok (.goto 4, 3) := by decide +kernel
theorem dX8_isLetter_16 : decode cX8_isLetter 16 = .ok (.iconst 0, 1) := by decide +kernel
theorem dX8_isLetter_17 : decode cX8_isLetter 17 = .ok (.ireturn, 1) := by decide +kernel
theorem dX8_isDigit_0 : decode cX8_isDigit 0 = .ok (.iload_n 0, 1) := by decide +kernel
theorem dX8_isDigit_1 : decode cX8_isDigit 1 = .ok (.bipush 48, 2) := by decide +kernel
theorem dX8_isDigit_3 : decode cX8_isDigit 3 = .ok (.if_icmp .lt 13, 3) := by decide +kernel
theorem dX8_isDigit_6 : decode cX8_isDigit 6 = .ok (.iload_n 0, 1) := by decide +kernel
theorem dX8_isDigit_7 : decode cX8_isDigit 7 = .ok (.bipush 57, 2) := by decide +kernel
theorem dX8_isDigit_9 : decode cX8_isDigit 9 = .ok (.if_icmp .gt 7, 3) := by decide +kernel
theorem dX8_isDigit_12 : decode cX8_isDigit 12 = .ok (.iconst 1, 1) := by decide +kernel
theorem dX8_isDigit_13 : decode cX8_isDigit 13 = .ok (.goto 4, 3) := by decide +kernel
theorem dX8_isDigit_16 : decode cX8_isDigit 16 = .ok (.iconst 0, 1) := by decide +kernel
theorem dX8_isDigit_17 : decode cX8_isDigit 17 = .ok (.ireturn, 1) := by decide +kernel
theorem dX8_next_0 : decode cX8_next 0 = .ok (.aload_n 0, 1) := by decide +kernel
theorem dX8_next_1 : decode cX8_next 1 = .ok (.getfield 130, 3) := by decide +kernel
theorem dX8_next_4 : decode cX8_next 4 = .ok (.iconst 1, 1) := by decide +kernel
theorem dX8_next_5 : decode cX8_next 5 = .ok (.if_icmp .eq 11, 3) := by decide +kernel
theorem dX8_next_8 : decode cX8_next 8 = .ok (.aload_n 0, 1) := by decide +kernel
theorem dX8_next_9 : decode cX8_next 9 = .ok (.getfield 130, 3) := by decide +kernel
theorem dX8_next_12 : decode cX8_next 12 = .ok (.iconst 2, 1) := by decide +kernel
theorem dX8_next_13 : decode cX8_next 13 = .ok (.if_icmp .ne 7, 3) := by decide +kernel
theorem dX8_next_16 : decode cX8_next 16 = .ok (.iconst 1, 1) := by decide +kernel
theorem dX8_next_17 : decode cX8_next 17 = .ok (.goto 4, 3) := by decide +kernel
theorem dX8_next_20 : decode cX8_next 20 = .ok (.iconst 0, 1) := by decide +kernel
theorem dX8_next_21 : decode cX8_next 21 = .ok (.istore_n 1, 1) := by decide +kernel
theorem dX8_next_22 : decode cX8_next 22 = .ok (.aload_n 0, 1) := by decide +kernel
theorem dX8_next_23 : decode cX8_next 23 = .ok (.aload_n 0, 1) := by decide +kernel
theorem dX8_next_24 : decode cX8_next 24 = .ok (.getfield 133, 3) := by decide +kernel
theorem dX8_next_27 : decode cX8_next 27 = .ok (.putfield 136, 3) := by decide +kernel
theorem dX8_next_30 : decode cX8_next 30 = .ok (.aload_n 0, 1) := by decide +kernel
theorem dX8_next_31 : decode cX8_next 31 = .ok (.getfield 136, 3) := by decide +kernel
theorem dX8_next_34 : decode cX8_next 34 = .ok (.aload_n 0, 1) := by decide +kernel
theorem dX8_next_35 : decode cX8_next 35 = .ok (.getfield 139, 3) := by decide +kernel
theorem dX8_next_38 : decode cX8_next 38 = .ok (.if_icmp .ge 44, 3) := by decide +kernel
theorem dX8_next_41 : decode cX8_next 41 = .ok (.aload_n 0, 1) := by decide +kernel
theorem dX8_next_42 : decode cX8_next 42 = .ok (.getfield 41, 3) := by decide +kernel
theorem dX8_next_45 : decode cX8_next 45 = .ok (.aload_n 0, 1) := by decide +kernel
theorem dX8_next_46 : decode cX8_next 46 = .ok (.getfield 136, 3) := by decide +kernel
theorem dX8_next_49 : decode cX8_next 49 = .ok (.baload, 1) := by decide +kernel
theorem dX8_next_50 : decode cX8_next 50 = .ok (.bipush 32, 2) := by decide +kernel
theorem dX8_next_52 : decode cX8_next 52 = .ok (.if_icmp .eq 17, 3) := by decide +kernel
theorem dX8_next_55 : decode cX8_next 55 = .ok (.aload_n 0, 1) := by decide +kernel
theorem dX8_next_56 : decode cX8_next 56 = .ok (.getfield 41, 3) := by decide +kernel
theorem dX8_next_59 : decode cX8_next 59 = .ok (.aload_n 0, 1) := by decide +kernel
theorem dX8_next_60 : decode cX8_next 60 = .ok (.getfield 136, 3) := by decide +kernel
theorem dX8_next_63 : decode cX8_next 63 = .ok (.baload, 1) := by decide +kernel
theorem dX8_next_64 : decode cX8_next 64 = .ok (.bipush 10, 2) := by decide +kernel
theorem dX8_next_66 : decode cX8_next 66 = .ok (.if_icmp .ne 16, 3) := by decide +kernel
theorem dX8_next_69 : decode cX8_next 69 = .ok (.aload_n 0, 1) := by decide +kernel
theorem dX8_next_70 : decode cX8_next 70 = .ok (.dup, 1) := by decide +kernel
theorem dX8_next_71 : decode cX8_next 71 = .ok (.getfield 136, 3) := by decide +kernel
theorem dX8_next_74 : decode cX8_next 74 = .ok (.iconst 1, 1) := by decide +kernel
theorem dX8_next_75 : decode cX8_next 75 = .ok (.iadd, 1) := by decide +kernel
theorem dX8_next_76 : decode cX8_next 76 = .ok (.putfield 136, 3) := by decide +kernel
theorem dX8_next_79 : decode cX8_next 79 = .ok (.goto (-49), 3) := by decide +kernel
theorem dX8_next_82 : decode cX8_next 82 = .ok (.iload_n 1, 1) := by decide +kernel
theorem dX8_next_83 : decode cX8_next 83 = .ok (.ifCond .eq 18, 3) := by decide +kernel
theorem dX8_next_86 : decode cX8_next 86 = .ok (.aload_n 0, 1) := by decide +kernel
theorem dX8_next_87 : decode cX8_next 87 = .ok (.getfield 136, 3) := by decide +kernel
theorem dX8_next_90 : decode cX8_next 90 = .ok (.aload_n 0, 1) := by decide +kernel
theorem dX8_next_91 : decode cX8_next 91 = .ok (.getfield 133, 3) := by decide +kernel
theorem dX8_next_94 : decode cX8_next 94 = .ok (.if_icmp .ne 7, 3) := by decide +kernel
theorem dX8_next_97 : decode cX8_next 97 = .ok (.iconst 1, 1) := by decide +kernel
theorem dX8_next_98 : decode cX8_next 98 = .ok (.goto 4, 3) := by decide +kernel
theorem dX8_next_101 : decode cX8_next 101 = .ok (.iconst 0, 1) := by decide +kernel
theorem dX8_next_102 : decode cX8_next 102 = .ok (.istore_n 2, 1) := by decide +kernel
theorem dX8_next_103 : decode cX8_next 103 = .ok (.aload_n 0, 1) := by decide +kernel
theorem dX8_next_104 : decode cX8_next 104 = .ok (.aload_n 0, 1) := by decide +kernel
theorem dX8_next_105 : decode cX8_next 105 = .ok (.getfield 136, 3) := by decide +kernel
theorem dX8_next_108 : decode cX8_next 108 = .ok (.putfield 133, 3) := by decide +kernel
theorem dX8_next_111 : decode cX8_next 111 = .ok (.aload_n 0, 1) := by decide +kernel
theorem dX8_next_112 : decode cX8_next 112 = .ok (.getfield 136, 3) := by decide +kernel
theorem dX8_next_115 : decode cX8_next 115 = .ok (.aload_n 0, 1) := by decide +kernel
theorem dX8_next_116 : decode cX8_next 116 = .ok (.getfield 139, 3) := by decide +kernel
theorem dX8_next_119 : decode cX8_next 119 = .ok (.if_icmp .ne 11, 3) := by decide +kernel
theorem dX8_next_122 : decode cX8_next 122 = .ok (.aload_n 0, 1) := by decide +kernel
theorem dX8_next_123 : decode cX8_next 123 = .ok (.iconst 0, 1) := by decide +kernel
theorem dX8_next_124 : decode cX8_next 124 = .ok (.putfield 130, 3) := by decide +kernel
theorem dX8_next_127 : decode cX8_next 127 = .ok (.goto 231, 3) := by decide +kernel
theorem dX8_next_130 : decode cX8_next 130 = .ok (.aload_n 0, 1) := by decide +kernel
theorem dX8_next_131 : decode cX8_next 131 = .ok (.getfield 41, 3) := by decide +kernel
theorem dX8_next_134 : decode cX8_next 134 = .ok (.aload_n 0, 1) := by decide +kernel
theorem dX8_next_135 : decode cX8_next 135 = .ok (.getfield 136, 3) := by decide +kernel
theorem dX8_next_138 : decode cX8_next 138 = .ok (.baload, 1) := by decide +kernel
theorem dX8_next_139 : decode cX8_next 139 = .ok (.invokestatic 142, 3) := by decide +kernel
theorem dX8_next_142 : decode cX8_next 142 = .ok (.ifCond .eq 58, 3) := by decide +kernel
theorem dX8_next_145 : decode cX8_next 145 = .ok (.aload_n 0, 1) := by decide +kernel
theorem dX8_next_146 : decode cX8_next 146 = .ok (.getfield 133, 3) := by decide +kernel
theorem dX8_next_149 : decode cX8_next 149 = .ok (.aload_n 0, 1) := by decide +kernel
theorem dX8_next_150 : decode cX8_next 150 = .ok (.getfield 139, 3) := by decide +kernel
theorem dX8_next_153 : decode cX8_next 153 = .ok (.if_icmp .ge 31, 3) := by decide +kernel
theorem dX8_next_156 : decode cX8_next 156 = .ok (.aload_n 0, 1) := by decide +kernel
theorem dX8_next_157 : decode cX8_next 157 = .ok (.getfield 41, 3) := by decide +kernel
theorem dX8_next_160 : decode cX8_next 160 = .ok (.aload_n 0, 1) := by decide +kernel
theorem dX8_next_161 : decode cX8_next 161 = .ok (.getfield 133, 3) := by decide +kernel
theorem dX8_next_164 : decode cX8_next 164 = .ok (.baload, 1) := by decide +kernel
theorem dX8_next_165 : decode cX8_next 165 = .ok (.invokestatic 142, 3) := by decide +kernel
theorem dX8_next_168 : decode cX8_next 168 = .ok (.ifCond .eq 16, 3) := by decide +kernel
theorem dX8_next_171 : decode cX8_next 171 = .ok (.aload_n 0, 1) := by decide +kernel
theorem dX8_next_172 : decode cX8_next 172 = .ok (.dup, 1) := by decide +kernel
theorem dX8_next_173 : decode cX8_next 173 = .ok (.getfield 133, 3) := by decide +kernel
theorem dX8_next_176 : decode cX8_next 176 = .ok (.iconst 1, 1) := by decide +kernel
theorem dX8_next_177 : decode cX8_next 177 = .ok (.iadd, 1) := by decide +kernel
theorem dX8_next_178 : decode cX8_next 178 = .ok (.putfield 133, 3) := by decide +kernel
theorem dX8_next_181 : decode cX8_next 181 = .ok (.goto (-36), 3) := by decide +kernel
theorem dX8_next_184 : decode cX8_next 184 = .ok (.aload_n 0, 1) := by decide +kernel
theorem dX8_next_185 : decode cX8_next 185 = .ok (.iload_n 2, 1) := by decide +kernel
theorem dX8_next_186 : decode cX8_next 186 = .ok (.ifCond .eq 7, 3) := by decide +kernel
theorem dX8_next_189 : decode cX8_next 189 = .ok (.iconst 4, 1) := by decide +kernel
theorem dX8_next_190 : decode cX8_next 190 = .ok (.goto 4, 3) := by decide +kernel
theorem dX8_next_193 : decode cX8_next 193 = .ok (.iconst 1, 1) := by decide +kernel
theorem dX8_next_194 : decode cX8_next 194 = .ok (.putfield 130, 3) := by decide +kernel
theorem dX8_next_197 : decode cX8_next 197 = .ok (.goto 161, 3) := by decide +kernel
theorem dX8_next_200 : decode cX8_next 200 = .ok (.aload_n 0, 1) := by decide +kernel
theorem dX8_next_201 : decode cX8_next 201 = .ok (.getfield 41, 3) := by decide +kernel
theorem dX8_next_204 : decode cX8_next 204 = .ok (.aload_n 0, 1) := by decide +kernel
theorem dX8_next_205 : decode cX8_next 205 = .ok (.getfield 136, 3) := by decide +kernel
theorem dX8_next_208 : decode cX8_next 208 = .ok (.baload, 1) := by decide +kernel
theorem dX8_next_209 : decode cX8_next 209 = .ok (.invokestatic 145, 3) := by decide +kernel
theorem dX8_next_212 : decode cX8_next 212 = .ok (.ifCond .eq 113, 3) := by decide +kernel
theorem dX8_next_215 : decode cX8_next 215 = .ok (.aload_n 0, 1) := by decide +kernel
theorem dX8_next_216 : decode cX8_next 216 = .ok (.iconst 0, 1) := by decide +kernel
theorem dX8_next_217 : decode cX8_next 217 = .ok (.putfield 148, 3) := by decide +kernel
theorem dX8_next_220 : decode cX8_next 220 = .ok (.aload_n 0, 1) := by decide +kernel
theorem dX8_next_221 : decode cX8_next 221 = .ok (.getfield 133, 3) := by decide +kernel
theorem dX8_next_224 : decode cX8_next 224 = .ok (.aload_n 0, 1) := by decide +kernel
theorem dX8_next_225 : decode cX8_next 225 = .ok (.getfield 139, 3) := by decide +kernel
theorem dX8_next_228 : decode cX8_next 228 = .ok (.if_icmp .ge 68, 3) := by decide +kernel
theorem dX8_next_231 : decode cX8_next 231 = .ok (.aload_n 0, 1) := by decide +kernel
theorem dX8_next_232 : decode cX8_next 232 = .ok (.getfield 41, 3) := by decide +kernel
theorem dX8_next_235 : decode cX8_next 235 = .ok (.aload_n 0, 1) := by decide +kernel
theorem dX8_next_236 : decode cX8_next 236 = .ok (.getfield 133, 3) := by decide +kernel
theorem dX8_next_239 : decode cX8_next 239 = .ok (.baload, 1) := by decide +kernel
theorem dX8_next_240 : decode cX8_next 240 = .ok (.invokestatic 145, 3) := by decide +kernel
theorem dX8_next_243 : decode cX8_next 243 = .ok (.ifCond .eq 53, 3) := by decide +kernel
theorem dX8_next_246 : decode cX8_next 246 = .ok (.aload_n 0, 1) := by decide +kernel
theorem dX8_next_247 : decode cX8_next 247 = .ok (.getfield 133, 3) := by decide +kernel
theorem dX8_next_250 : decode cX8_next 250 = .ok (.aload_n 0, 1) := by decide +kernel
theorem dX8_next_251 : decode cX8_next 251 = .ok (.getfield 136, 3) := by decide +kernel
theorem dX8_next_254 : decode cX8_next 254 = .ok (.isub, 1) := by decide +kernel
theorem dX8_next_255 : decode cX8_next 255 = .ok (.iconst 3, 1) := by decide +kernel
theorem dX8_next_256 : decode cX8_next 256 = .ok (.if_icmp .ge 27, 3) := by decide +kernel
theorem dX8_next_259 : decode cX8_next 259 = .ok (.aload_n 0, 1) := by decide +kernel
theorem dX8_next_260 : decode cX8_next 260 = .ok (.bipush 10, 2) := by decide +kernel
theorem dX8_next_262 : decode cX8_next 262 = .ok (.aload_n 0, 1) := by decide +kernel
theorem dX8_next_263 : decode cX8_next 263 = .ok (.getfield 148, 3) := by decide +kernel
theorem dX8_next_266 : decode cX8_next 266 = .ok (.imul, 1) := by decide +kernel
theorem dX8_next_267 : decode cX8_next 267 = .ok (.aload_n 0, 1) := by decide +kernel
theorem dX8_next_268 : decode cX8_next 268 = .ok (.getfield 41, 3) := by decide +kernel
theorem dX8_next_271 : decode cX8_next 271 = .ok (.aload_n 0, 1) := by decide +kernel
theorem dX8_next_272 : decode cX8_next 272 = .ok (.getfield 133, 3) := by decide +kernel
theorem dX8_next_275 : decode cX8_next 275 = .ok (.baload, 1) := by decide +kernel
theorem dX8_next_276 : decode cX8_next 276 = .ok (.iadd, 1) := by decide +kernel
theorem dX8_next_277 : decode cX8_next 277 = .ok (.bipush 48, 2) := by decide +kernel
theorem dX8_next_279 : decode cX8_next 279 = .ok (.isub, 1) := by decide +kernel
theorem dX8_next_280 : decode cX8_next 280 = .ok (.putfield 148, 3) := by decide +kernel
theorem dX8_next_283 : decode cX8_next 283 = .ok (.aload_n 0, 1) := by decide +kernel
theorem dX8_next_284 : decode cX8_next 284 = .ok (.dup, 1) := by decide +kernel
theorem dX8_next_285 : decode cX8_next 285 = .ok (.getfield 133, 3) := by decide +kernel
theorem dX8_next_288 : decode cX8_next 288 = .ok (.iconst 1, 1) := by decide +kernel
theorem dX8_next_289 : decode cX8_next 289 = .ok (.iadd, 1) := by decide +kernel
theorem dX8_next_290 : decode cX8_next 290 = .ok (.putfield 133, 3) := by decide +kernel
theorem dX8_next_293 : decode cX8_next 293 = .ok (.goto (-73), 3) := by decide +kernel
theorem dX8_next_296 : decode cX8_next 296 = .ok (.aload_n 0, 1) := by decide +kernel
theorem dX8_next_297 : decode cX8_next 297 = .ok (.iload_n 2, 1) := by decide +kernel
theorem dX8_next_298 : decode cX8_next 298 = .ok (.ifCond .ne 16, 3) := by decide +kernel
theorem dX8_next_301 : decode cX8_next 301 = .ok (.aload_n 0, 1) := by decide +kernel
theorem dX8_next_302 : decode cX8_next 302 = .ok (.getfield 133, 3) := by decide +kernel
theorem dX8_next_305 : decode cX8_next 305 = .ok (.aload_n 0, 1) := by decide +kernel
theorem dX8_next_306 : decode cX8_next 306 = .ok (.getfield 136, 3) := by decide +kernel
theorem dX8_next_309 : decode cX8_next 309 = .ok (.isub, 1) := by decide +kernel
theorem dX8_next_310 : decode cX8_next 310 = .ok (.iconst 3, 1) := by decide +kernel
theorem dX8_next_311 : decode cX8_next 311 = .ok (.if_icmp .le 7, 3) := by decide +kernel
theorem dX8_next_314 : decode cX8_next 314 = .ok (.iconst 4, 1) := by decide +kernel
theorem dX8_next_315 : decode cX8_next 315 = .ok (.goto 4, 3) := by decide +kernel
theorem dX8_next_318 : decode cX8_next 318 = .ok (.iconst 2, 1) := by decide +kernel
theorem dX8_next_319 : decode cX8_next 319 = .ok (.putfield 130, 3) := by decide +kernel
theorem dX8_next_322 : decode cX8_next 322 = .ok (.goto 36, 3) := by decide +kernel
theorem dX8_next_325 : decode cX8_next 325 = .ok (.aload_n 0, 1) := by decide +kernel
theorem dX8_next_326 : decode cX8_next 326 = .ok (.aload_n 0, 1) := by decide +kernel
theorem dX8_next_327 : decode cX8_next 327 = .ok (.getfield 136, 3) := by decide +kernel
theorem dX8_next_330 : decode cX8_next 330 = .ok (.iconst 1, 1) := by decide +kernel
theorem dX8_next_331 : decode cX8_next 331 = .ok (.iadd, 1) := by decide +kernel
theorem dX8_next_332 : decode cX8_next 332 = .ok (.putfield 133, 3) := by decide +kernel
theorem dX8_next_335 : decode cX8_next 335 = .ok (.aload_n 0, 1) := by decide +kernel
theorem dX8_next_336 : decode cX8_next 336 = .ok (.aload_n 0, 1) := by decide +kernel
theorem dX8_next_337 : decode cX8_next 337 = .ok (.getfield 41, 3) := by decide +kernel
theorem dX8_next_340 : decode cX8_next 340 = .ok (.aload_n 0, 1) := by decide +kernel
theorem dX8_next_341 : decode cX8_next 341 = .ok (.getfield 136, 3) := by decide +kernel
theorem dX8_next_344 : decode cX8_next 344 = .ok (.baload, 1) := by decide +kernel
theorem dX8_next_345 : decode cX8_next 345 = .ok (.bipush 59, 2) := by decide +kernel
theorem dX8_next_347 : decode cX8_next 347 = .ok (.if_icmp .ne 7, 3) := by decide +kernel
theorem dX8_next_350 : decode cX8_next 350 = .ok (.iconst 3, 1) := by decide +kernel
theorem dX8_next_351 : decode cX8_next 351 = .ok (.goto 4, 3) := by decide +kernel
theorem dX8_next_354 : decode cX8_next 354 = .ok (.iconst 4, 1) := by decide +kernel
theorem dX8_next_355 : decode cX8_next 355 = .ok (.putfield 130, 3) := by decide +kernel
theorem dX8_next_358 : decode cX8_next 358 = .ok (.return_, 1) := by decide +kernel
theorem dX8_errs_0 : decode cX8_errs 0 = .ok (.aload_n 0, 1) := by decide +kernel
theorem dX8_errs_1 : decode cX8_errs 1 = .ok (.getfield 151, 3) := by decide +kernel
theorem dX8_errs_4 : decode cX8_errs 4 = .ok (.ifCond .ne 16, 3) := by decide +kernel
theorem dX8_errs_7 : decode cX8_errs 7 = .ok (.aload_n 0, 1) := by decide +kernel
theorem dX8_errs_8 : decode cX8_errs 8 = .ok (.iload_n 1, 1) := by decide +kernel
theorem dX8_errs_9 : decode cX8_errs 9 = .ok (.putfield 151, 3) := by decide +kernel
theorem dX8_errs_12 : decode cX8_errs 12 = .ok (.aload_n 0, 1) := by decide +kernel
theorem dX8_errs_13 : decode cX8_errs 13 = .ok (.aload_n 0, 1) := by decide +kernel
theorem dX8_errs_14 : decode cX8_errs 14 = .ok (.getfield 136, 3) := by decide +kernel
theorem dX8_errs_17 : decode cX8_errs 17 = .ok (.putfield 154, 3) := by decide +kernel
theorem dX8_errs_20 : decode cX8_errs 20 = .ok (.return_, 1) := by decide +kernel
theorem dX8_isKey_0 : decode cX8_isKey 0 = .ok (.aload_n 0, 1) := by decide +kernel
theorem dX8_isKey_1 : decode cX8_isKey 1 = .ok (.getfield 130, 3) := by decide +kernel
theorem dX8_isKey_4 : decode cX8_isKey 4 = .ok (.iconst 1, 1) := by decide +kernel
theorem dX8_isKey_5 : decode cX8_isKey 5 = .ok (.if_icmp .ne 17, 3) := by decide +kernel
theorem dX8_isKey_8 : decode cX8_isKey 8 = .ok (.aload_n 0, 1) := by decide +kernel
theorem dX8_isKey_9 : decode cX8_isKey 9 = .ok (.getfield 133, 3) := by decide +kernel
theorem dX8_isKey_12 : decode cX8_isKey 12 = .ok (.aload_n 0, 1) := by decide +kernel
theorem dX8_isKey_13 : decode cX8_isKey 13 = .ok (.getfield 136, 3) := by decide +kernel
theorem dX8_isKey_16 : decode cX8_isKey 16 = .ok (.isub, 1) := by decide +kernel
theorem dX8_isKey_17 : decode cX8_isKey 17 = .ok (.bipush 8, 2) := by decide +kernel
theorem dX8_isKey_19 : decode cX8_isKey 19 = .ok (.if_icmp .le 5, 3) := by decide +kernel
theorem dX8_isKey_22 : decode cX8_isKey 22 = .ok (.iconst 0, 1) := by decide +kernel
theorem dX8_isKey_23 : decode cX8_isKey 23 = .ok (.ireturn, 1) := by decide +kernel
theorem dX8_isKey_24 : decode cX8_isKey 24 = .ok (.iconst 0, 1) := by decide +kernel
theorem dX8_isKey_25 : decode cX8_isKey 25 = .ok (.istore_n 2, 1) := by decide +kernel
theorem dX8_isKey_26 : decode cX8_isKey 26 = .ok (.iload_n 2, 1) := by decide +kernel
theorem dX8_isKey_27 : decode cX8_isKey 27 = .ok (.bipush 8, 2) := by decide +kernel
theorem dX8_isKey_29 : decode cX8_isKey 29 = .ok (.if_icmp .ge 55, 3) := by decide +kernel
theorem dX8_isKey_32 : decode cX8_isKey 32 = .ok (.iload_n 2, 1) := by decide +kernel
theorem dX8_isKey_33 : decode cX8_isKey 33 = .ok (.aload_n 0, 1) := by decide +kernel
theorem dX8_isKey_34 : decode cX8_isKey 34 = .ok (.getfield 133, 3) := by decide +kernel
theorem dX8_isKey_37 : decode cX8_isKey 37 = .ok (.aload_n 0, 1) := by decide +kernel
theorem dX8_isKey_38 : decode cX8_isKey 38 = .ok (.getfield 136, 3) := by decide +kernel
theorem dX8_isKey_41 : decode cX8_isKey 41 = .ok (.isub, 1) := by decide +kernel
theorem dX8_isKey_42 : decode cX8_isKey 42 = .ok (.if_icmp .ge 17, 3) := by decide +kernel
theorem dX8_isKey_45 : decode cX8_isKey 45 = .ok (.aload_n 0, 1) := by decide +kernel
theorem dX8_isKey_46 : decode cX8_isKey 46 = .ok (.getfield 41, 3) := by decide +kernel
theorem dX8_isKey_49 : decode cX8_isKey 49 = .ok (.aload_n 0, 1) := by decide +kernel
theorem dX8_isKey_50 : decode cX8_isKey 50 = .ok (.getfield 136, 3) := by decide +kernel
theorem dX8_isKey_53 : decode cX8_isKey 53 = .ok (.iload_n 2, 1) := by decide +kernel
theorem dX8_isKey_54 : decode cX8_isKey 54 = .ok (.iadd, 1) := by decide +kernel
theorem dX8_isKey_55 : decode cX8_isKey 55 = .ok (.baload, 1) := by decide +kernel
theorem dX8_isKey_56 : decode cX8_isKey 56 = .ok (.goto 4, 3) := by decide +kernel
theorem dX8_isKey_59 : decode cX8_isKey 59 = .ok (.iconst 0, 1) := by decide +kernel
theorem dX8_isKey_60 : decode cX8_isKey 60 = .ok (.istore_n 3, 1) := by decide +kernel
theorem dX8_isKey_61 : decode cX8_isKey 61 = .ok (.iload_n 3, 1) := by decide +kernel
theorem dX8_isKey_62 : decode cX8_isKey 62 = .ok (.aload_n 0, 1) := by decide +kernel
theorem dX8_isKey_63 : decode cX8_isKey 63 = .ok (.getfield 7, 3) := by decide +kernel
theorem dX8_isKey_66 : decode cX8_isKey 66 = .ok (.bipush 8, 2) := by decide +kernel
theorem dX8_isKey_68 : decode cX8_isKey 68 = .ok (.iload_n 1, 1) := by decide +kernel
theorem dX8_isKey_69 : decode cX8_isKey 69 = .ok (.imul, 1) := by decide +kernel
theorem dX8_isKey_70 : decode cX8_isKey 70 = .ok (.iload_n 2, 1) := by decide +kernel
theorem dX8_isKey_71 : decode cX8_isKey 71 = .ok (.iadd, 1) := by decide +kernel
theorem dX8_isKey_72 : decode cX8_isKey 72 = .ok (.iaload, 1) := by decide +kernel
theorem dX8_isKey_73 : decode cX8_isKey 73 = .ok (.if_icmp .eq 5, 3) := by decide +kernel
theorem dX8_isKey_76 : decode cX8_isKey 76 = .ok (.iconst 0, 1) := by decide +kernel
theorem dX8_isKey_77 : decode cX8_isKey 77 = .ok (.ireturn, 1) := by decide +kernel
theorem dX8_isKey_78 : decode cX8_isKey 78 = .ok (.iinc 2 1, 3) := by decide +kernel
theorem dX8_isKey_81 : decode cX8_isKey 81 = .ok (.goto (-55), 3) := by decide +kernel
theorem dX8_isKey_84 : decode cX8_isKey 84 = .ok (.iconst 1, 1) := by decide +kernel
theorem dX8_isKey_85 : decode cX8_isKey 85 = .ok (.ireturn, 1) := by decide +kernel
theorem dX8_goesOn_0 : decode cX8_goesOn 0 = .ok (.aload_n 0, 1) := by decide +kernel
theorem dX8_goesOn_1 : decode cX8_goesOn 1 = .ok (.getfield 151, 3) := by decide +kernel
theorem dX8_goesOn_4 : decode cX8_goesOn 4 = .ok (.ifCond .ne 7, 3) := by decide +kernel
theorem dX8_goesOn_7 : decode cX8_goesOn 7 = .ok (.aload_n 0, 1) := by decide +kernel
theorem dX8_goesOn_8 : decode cX8_goesOn 8 = .ok (.invokevirtual 157, 3) := by decide +kernel
theorem dX8_goesOn_11 : decode cX8_goesOn 11 = .ok (.return_, 1) := by decide +kernel
theorem dX8_here_0 : decode cX8_here 0 = .ok (.aload_n 0, 1) := by decide +kernel
theorem dX8_here_1 : decode cX8_here 1 = .ok (.getfield 151, 3) := by decide +kernel
theorem dX8_here_4 : decode cX8_here 4 = .ok (.ifCond .ne 16, 3) := by decide +kernel
theorem dX8_here_7 : decode cX8_here 7 = .ok (.aload_n 0, 1) := by decide +kernel
theorem dX8_here_8 : decode cX8_here 8 = .ok (.getfield 130, 3) := by decide +kernel
theorem dX8_here_11 : decode cX8_here 11 = .ok (.iconst 2, 1) := by decide +kernel
theorem dX8_here_12 : decode cX8_here 12 = .ok (.if_icmp .eq 8, 3) := by decide +kernel
theorem dX8_here_15 : decode cX8_here 15 = .ok (.aload_n 0, 1) := by decide +kernel
theorem dX8_here_16 : decode cX8_here 16 = .ok (.iconst 1, 1) := by decide +kernel
theorem dX8_here_17 : decode cX8_here 17 = .ok (.invokevirtual 160, 3) := by decide +kernel
theorem dX8_here_20 : decode cX8_here 20 = .ok (.aload_n 0, 1) := by decide +kernel
theorem dX8_here_21 : decode cX8_here 21 = .ok (.getfield 151, 3) := by decide +kernel
theorem dX8_here_24 : decode cX8_here 24 = .ok (.ifCond .ne 20, 3) := by decide +kernel
theorem dX8_here_27 : decode cX8_here 27 = .ok (.aload_n 0, 1) := by decide +kernel
theorem dX8_here_28 : decode cX8_here 28 = .ok (.getfield 148, 3) := by decide +kernel
theorem dX8_here_31 : decode cX8_here 31 = .ok (.iload_n 1, 1) := by decide +kernel
theorem dX8_here_32 : decode cX8_here 32 = .ok (.iload_n 2, 1) := by decide +kernel
theorem dX8_here_33 : decode cX8_here 33 = .ok (.invokestatic 66, 3) := by decide +kernel
theorem dX8_here_36 : decode cX8_here 36 = .ok (.ifCond .ne 8, 3) := by decide +kernel
theorem dX8_here_39 : decode cX8_here 39 = .ok (.aload_n 0, 1) := by decide +kernel
theorem dX8_here_40 : decode cX8_here 40 = .ok (.iconst 2, 1) := by decide +kernel
theorem dX8_here_41 : decode cX8_here 41 = .ok (.invokevirtual 160, 3) := by decide +kernel
theorem dX8_here_44 : decode cX8_here 44 = .ok (.aload_n 0, 1) := by decide +kernel
theorem dX8_here_45 : decode cX8_here 45 = .ok (.getfield 151, 3) := by decide +kernel
theorem dX8_here_48 : decode cX8_here 48 = .ok (.ifCond .ne 10, 3) := by decide +kernel
theorem dX8_here_51 : decode cX8_here 51 = .ok (.aload_n 0, 1) := by decide +kernel
theorem dX8_here_52 : decode cX8_here 52 = .ok (.getfield 148, 3) := by decide +kernel
theorem dX8_here_55 : decode cX8_here 55 = .ok (.goto 4, 3) := by decide +kernel
theorem dX8_here_58 : decode cX8_here 58 = .ok (.iload_n 1, 1) := by decide +kernel
theorem dX8_here_59 : decode cX8_here 59 = .ok (.ireturn, 1) := by decide +kernel
theorem dX8_takesNumber_0 : decode cX8_takesNumber 0 = .ok (.aload_n 0, 1) := by decide +kernel
theorem dX8_takesNumber_1 : decode cX8_takesNumber 1 = .ok (.iload_n 1, 1) := by decide +kernel
theorem dX8_takesNumber_2 : decode cX8_takesNumber 2 = .ok (.iload_n 2, 1) := by decide +kernel
theorem dX8_takesNumber_3 : decode cX8_takesNumber 3 = .ok (.invokevirtual 163, 3) := by decide +kernel
theorem dX8_takesNumber_6 : decode cX8_takesNumber 6 = .ok (.istore_n 3, 1) := by decide +kernel
theorem dX8_takesNumber_7 : decode cX8_takesNumber 7 = .ok (.aload_n 0, 1) := by decide +kernel
theorem dX8_takesNumber_8 : decode cX8_takesNumber 8 = .ok (.invokevirtual 166, 3) := by decide +kernel
theorem dX8_takesNumber_11 : decode cX8_takesNumber 11 = .ok (.iload_n 3, 1) := by decide +kernel
theorem dX8_takesNumber_12 : decode cX8_takesNumber 12 = .ok (.ireturn, 1) := by decide +kernel
theorem dX8_takesWord_0 : decode cX8_takesWord 0 = .ok (.aload_n 0, 1) := by decide +kernel
theorem dX8_takesWord_1 : decode cX8_takesWord 1 = .ok (.getfield 151, 3) := by decide +kernel
theorem dX8_takesWord_4 : decode cX8_takesWord 4 = .ok (.ifCond .ne 16, 3) := by decide +kernel
theorem dX8_takesWord_7 : decode cX8_takesWord 7 = .ok (.aload_n 0, 1) := by decide +kernel
theorem dX8_takesWord_8 : decode cX8_takesWord 8 = .ok (.iload_n 1, 1) := by decide +kernel
theorem dX8_takesWord_9 : decode cX8_takesWord 9 = .ok (.invokevirtual 169, 3) := by decide +kernel
theorem dX8_takesWord_12 : decode cX8_takesWord 12 = .ok (.ifCond .ne 8, 3) := by decide +kernel
theorem dX8_takesWord_15 : decode cX8_takesWord 15 = .ok (.aload_n 0, 1) := by decide +kernel
theorem dX8_takesWord_16 : decode cX8_takesWord 16 = .ok (.iconst 1, 1) := by decide +kernel
theorem dX8_takesWord_17 : decode cX8_takesWord 17 = .ok (.invokevirtual 160, 3) := by decide +kernel
theorem dX8_takesWord_20 : decode cX8_takesWord 20 = .ok (.aload_n 0, 1) := by decide +kernel
theorem dX8_takesWord_21 : decode cX8_takesWord 21 = .ok (.invokevirtual 166, 3) := by decide +kernel
theorem dX8_takesWord_24 : decode cX8_takesWord 24 = .ok (.return_, 1) := by decide +kernel
theorem dX8_lodgerNamed_0 : decode cX8_lodgerNamed 0 = .ok (.iconst 0, 1) := by decide +kernel
theorem dX8_lodgerNamed_1 : decode cX8_lodgerNamed 1 = .ok (.istore_n 3, 1) := by decide +kernel
theorem dX8_lodgerNamed_2 : decode cX8_lodgerNamed 2 = .ok (.iload_n 3, 1) := by decide +kernel
theorem dX8_lodgerNamed_3 : decode cX8_lodgerNamed 3 = .ok (.aload_n 0, 1) := by decide +kernel
theorem dX8_lodgerNamed_4 : decode cX8_lodgerNamed 4 = .ok (.getfield 19, 3) := by decide +kernel
theorem dX8_lodgerNamed_7 : decode cX8_lodgerNamed 7 = .ok (.bipush 7, 2) := by decide +kernel
theorem dX8_lodgerNamed_9 : decode cX8_lodgerNamed 9 = .ok (.iaload, 1) := by decide +kernel
theorem dX8_lodgerNamed_10 : decode cX8_lodgerNamed 10 = .ok (.if_icmp .ge 123, 3) := by decide +kernel
theorem dX8_lodgerNamed_13 : decode cX8_lodgerNamed 13 = .ok (.iload_n 2, 1) := by decide +kernel
theorem dX8_lodgerNamed_14 : decode cX8_lodgerNamed 14 = .ok (.iload_n 1, 1) := by decide +kernel
theorem dX8_lodgerNamed_15 : decode cX8_lodgerNamed 15 = .ok (.isub, 1) := by decide +kernel
theorem dX8_lodgerNamed_16 : decode cX8_lodgerNamed 16 = .ok (.bipush 6, 2) := by decide +kernel
theorem dX8_lodgerNamed_18 : decode cX8_lodgerNamed 18 = .ok (.if_icmp .gt 12, 3) := by decide +kernel
theorem dX8_lodgerNamed_21 : decode cX8_lodgerNamed 21 = .ok (.iload_n 2, 1) := by decide +kernel
theorem dX8_lodgerNamed_22 : decode cX8_lodgerNamed 22 = .ok (.iload_n 1, 1) := by decide +kernel
theorem dX8_lodgerNamed_23 : decode cX8_lodgerNamed 23 = .ok (.if_icmp .le 7, 3) := by decide +kernel
theorem dX8_lodgerNamed_26 : decode cX8_lodgerNamed 26 = .ok (.iconst 1, 1) := by decide +kernel
theorem dX8_lodgerNamed_27 : decode cX8_lodgerNamed 27 = .ok (.goto 4, 3) := by decide +kernel
theorem dX8_lodgerNamed_30 : decode cX8_lodgerNamed 30 = .ok (.iconst 0, 1) := by decide +kernel
theorem dX8_lodgerNamed_31 : decode cX8_lodgerNamed 31 = .ok (.istore 4, 2) := by decide +kernel
theorem dX8_lodgerNamed_33 : decode cX8_lodgerNamed 33 = .ok (.iconst 0, 1) := by decide +kernel
theorem dX8_lodgerNamed_34 : decode cX8_lodgerNamed 34 = .ok (.istore 5, 2) := by decide +kernel
theorem dX8_lodgerNamed_36 : decode cX8_lodgerNamed 36 = .ok (.iload 5, 2) := by decide +kernel
theorem dX8_lodgerNamed_38 : decode cX8_lodgerNamed 38 = .ok (.bipush 6, 2) := by decide +kernel
theorem dX8_lodgerNamed_40 : decode cX8_lodgerNamed 40 = .ok (.if_icmp .ge 80, 3) := by decide +kernel
theorem dX8_lodgerNamed_43 : decode cX8_lodgerNamed 43 = .ok (.iload 4, 2) := by decide +kernel
theorem dX8_lodgerNamed_45 : decode cX8_lodgerNamed 45 = .ok (.ifCond .eq 75, 3) := by decide +kernel
theorem dX8_lodgerNamed_48 : decode cX8_lodgerNamed 48 = .ok (.aload_n 0, 1) := by decide +kernel
theorem dX8_lodgerNamed_49 : decode cX8_lodgerNamed 49 = .ok (.getfield 19, 3) := by decide +kernel
theorem dX8_lodgerNamed_52 : decode cX8_lodgerNamed 52 = .ok (.iload_n 3, 1) := by decide +kernel
theorem dX8_lodgerNamed_53 : decode cX8_lodgerNamed 53 = .ok (.invokestatic 56, 3) := by decide +kernel
theorem dX8_lodgerNamed_56 : decode cX8_lodgerNamed 56 = .ok (.bipush 10, 2) := by decide +kernel
theorem dX8_lodgerNamed_58 : decode cX8_lodgerNamed 58 = .ok (.iadd, 1) := by decide +kernel
theorem dX8_lodgerNamed_59 : decode cX8_lodgerNamed 59 = .ok (.iload 5, 2) := by decide +kernel
theorem dX8_lodgerNamed_61 : decode cX8_lodgerNamed 61 = .ok (.iadd, 1) := by decide +kernel
theorem dX8_lodgerNamed_62 : decode cX8_lodgerNamed 62 = .ok (.iaload, 1) := by decide +kernel
theorem dX8_lodgerNamed_63 : decode cX8_lodgerNamed 63 = .ok (.iload 5, 2) := by decide +kernel
theorem dX8_lodgerNamed_65 : decode cX8_lodgerNamed 65 = .ok (.iload_n 2, 1) := by decide +kernel
theorem dX8_lodgerNamed_66 : decode cX8_lodgerNamed 66 = .ok (.iload_n 1, 1) := by decide +kernel
theorem dX8_lodgerNamed_67 : decode cX8_lodgerNamed 67 = .ok (.isub, 1) := by decide +kernel
theorem dX8_lodgerNamed_68 : decode cX8_lodgerNamed 68 = .ok (.if_icmp .ge 15, 3) := by decide +kernel
theorem dX8_lodgerNamed_71 : decode cX8_lodgerNamed 71 = .ok (.aload_n 0, 1) := by decide +kernel
theorem dX8_lodgerNamed_72 : decode cX8_lodgerNamed 72 = .ok (.getfield 41, 3) := by decide +kernel
theorem dX8_lodgerNamed_75 : decode cX8_lodgerNamed 75 = .ok (.iload_n 1, 1) := by decide +kernel
theorem dX8_lodgerNamed_76 : decode cX8_lodgerNamed 76 = .ok (.iload 5, 2) := by decide +kernel
theorem dX8_lodgerNamed_78 : decode cX8_lodgerNamed 78 = .ok (.iadd, 1) := by decide +kernel
theorem dX8_lodgerNamed_79 : decode cX8_lodgerNamed 79 = .ok (.baload, 1) := by decide +kernel
theorem dX8_lodgerNamed_80 : decode cX8_lodgerNamed 80 = .ok (.goto 4, 3) := by decide +kernel
theorem dX8_lodgerNamed_83 : decode cX8_lodgerNamed 83 = .ok (.iconst 0, 1) := by decide +kernel
theorem dX8_lodgerNamed_84 : decode cX8_lodgerNamed 84 = .ok (.if_icmp .ne 27, 3) := by decide +kernel
theorem dX8_lodgerNamed_87 : decode cX8_lodgerNamed 87 = .ok (.iload 5, 2) := by decide +kernel
theorem dX8_lodgerNamed_89 : decode cX8_lodgerNamed 89 = .ok (.iload_n 2, 1) := by decide +kernel
theorem dX8_lodgerNamed_90 : decode cX8_lodgerNamed 90 = .ok (.iload_n 1, 1) := by decide +kernel
theorem dX8_lodgerNamed_91 : decode cX8_lodgerNamed 91 = .ok (.isub, 1) := by decide +kernel
theorem dX8_lodgerNamed_92 : decode cX8_lodgerNamed 92 = .ok (.if_icmp .ge 15, 3) := by decide +kernel
theorem dX8_lodgerNamed_95 : decode cX8_lodgerNamed 95 = .ok (.aload_n 0, 1) := by decide +kernel
theorem dX8_lodgerNamed_96 : decode cX8_lodgerNamed 96 = .ok (.getfield 41, 3) := by decide +kernel
theorem dX8_lodgerNamed_99 : decode cX8_lodgerNamed 99 = .ok (.iload_n 1, 1) := by decide +kernel
theorem dX8_lodgerNamed_100 : decode cX8_lodgerNamed 100 = .ok (.iload 5, 2) := by decide +kernel
theorem dX8_lodgerNamed_102 : decode cX8_lodgerNamed 102 = .ok (.iadd, 1) := by decide +kernel
theorem dX8_lodgerNamed_103 : decode cX8_lodgerNamed 103 = .ok (.baload, 1) := by decide +kernel
theorem dX8_lodgerNamed_104 : decode cX8_lodgerNamed 104 = .ok (.ifCond .eq 7, 3) := by decide +kernel
theorem dX8_lodgerNamed_107 : decode cX8_lodgerNamed 107 = .ok (.iconst 1, 1) := by decide +kernel
theorem dX8_lodgerNamed_108 : decode cX8_lodgerNamed 108 = .ok (.goto 4, 3) := by decide +kernel
theorem dX8_lodgerNamed_111 : decode cX8_lodgerNamed 111 = .ok (.iconst 0, 1) := by decide +kernel
theorem dX8_lodgerNamed_112 : decode cX8_lodgerNamed 112 = .ok (.istore 4, 2) := by decide +kernel
theorem dX8_lodgerNamed_114 : decode cX8_lodgerNamed 114 = .ok (.iinc 5 1, 3) := by decide +kernel
theorem dX8_lodgerNamed_117 : decode cX8_lodgerNamed 117 = .ok (.goto (-81), 3) := by decide +kernel
theorem dX8_lodgerNamed_120 : decode cX8_lodgerNamed 120 = .ok (.iload 4, 2) := by decide +kernel
theorem dX8_lodgerNamed_122 : decode cX8_lodgerNamed 122 = .ok (.ifCond .eq 5, 3) := by decide +kernel
theorem dX8_lodgerNamed_125 : decode cX8_lodgerNamed 125 = .ok (.iload_n 3, 1) := by decide +kernel
theorem dX8_lodgerNamed_126 : decode cX8_lodgerNamed 126 = .ok (.ireturn, 1) := by decide +kernel
theorem dX8_lodgerNamed_127 : decode cX8_lodgerNamed 127 = .ok (.iinc 3 1, 3) := by decide +kernel
theorem dX8_lodgerNamed_130 : decode cX8_lodgerNamed 130 = .ok (.goto (-128), 3) := by decide +kernel
theorem dX8_lodgerNamed_133 : decode cX8_lodgerNamed 133 = .ok (.iconst (-1), 1) := by decide +kernel
theorem dX8_lodgerNamed_134 : decode cX8_lodgerNamed 134 = .ok (.ireturn, 1) := by decide +kernel
theorem dX8_isName_0 : decode cX8_isName 0 = .ok (.aload_n 0, 1) := by decide +kernel
theorem dX8_isName_1 : decode cX8_isName 1 = .ok (.getfield 151, 3) := by decide +kernel
theorem dX8_isName_4 : decode cX8_isName 4 = .ok (.ifCond .ne 30, 3) := by decide +kernel
theorem dX8_isName_7 : decode cX8_isName 7 = .ok (.aload_n 0, 1) := by decide +kernel
theorem dX8_isName_8 : decode cX8_isName 8 = .ok (.getfield 130, 3) := by decide +kernel
theorem dX8_isName_11 : decode cX8_isName 11 = .ok (.iconst 1, 1) := by decide +kernel
theorem dX8_isName_12 : decode cX8_isName 12 = .ok (.if_icmp .ne 17, 3) := by decide +kernel
theorem dX8_isName_15 : decode cX8_isName 15 = .ok (.aload_n 0, 1) := by decide +kernel
theorem dX8_isName_16 : decode cX8_isName 16 = .ok (.getfield 133, 3) := by decide +kernel
theorem dX8_isName_19 : decode cX8_isName 19 = .ok (.aload_n 0, 1) := by decide +kernel
theorem dX8_isName_20 : decode cX8_isName 20 = .ok (.getfield 136, 3) := by decide +kernel
theorem dX8_isName_23 : decode cX8_isName 23 = .ok (.isub, 1) := by decide +kernel
theorem dX8_isName_24 : decode cX8_isName 24 = .ok (.bipush 6, 2) := by decide +kernel
theorem dX8_isName_26 : decode cX8_isName 26 = .ok (.if_icmp .le 8, 3) := by decide +kernel
theorem dX8_isName_29 : decode cX8_isName 29 = .ok (.aload_n 0, 1) := by decide +kernel
theorem dX8_isName_30 : decode cX8_isName 30 = .ok (.iconst 1, 1) := by decide +kernel
theorem dX8_isName_31 : decode cX8_isName 31 = .ok (.invokevirtual 160, 3) := by decide +kernel
theorem dX8_isName_34 : decode cX8_isName 34 = .ok (.return_, 1) := by decide +kernel
theorem dX8_takesAccent_0 : decode cX8_takesAccent 0 = .ok (.iconst 0, 1) := by decide +kernel
theorem dX8_takesAccent_1 : decode cX8_takesAccent 1 = .ok (.istore_n 1, 1) := by decide +kernel
theorem dX8_takesAccent_2 : decode cX8_takesAccent 2 = .ok (.iconst 0, 1) := by decide +kernel
theorem dX8_takesAccent_3 : decode cX8_takesAccent 3 = .ok (.istore_n 2, 1) := by decide +kernel
theorem dX8_takesAccent_4 : decode cX8_takesAccent 4 = .ok (.iload_n 2, 1) := by decide +kernel
theorem dX8_takesAccent_5 : decode cX8_takesAccent 5 = .ok (.iconst 5, 1) := by decide +kernel
theorem dX8_takesAccent_6 : decode cX8_takesAccent 6 = .ok (.if_icmp .ge 22, 3) := by decide +kernel
theorem dX8_takesAccent_9 : decode cX8_takesAccent 9 = .ok (.bipush 10, 2) := by decide +kernel
theorem dX8_takesAccent_11 : decode cX8_takesAccent 11 = .ok (.iload_n 1, 1) := by decide +kernel
theorem dX8_takesAccent_12 : decode cX8_takesAccent 12 = .ok (.imul, 1) := by decide +kernel
theorem dX8_takesAccent_13 : decode cX8_takesAccent 13 = .ok (.aload_n 0, 1) := by decide +kernel
theorem dX8_takesAccent_14 : decode cX8_takesAccent 14 = .ok (.iconst 0, 1) := by decide +kernel
theorem dX8_takesAccent_15 : decode cX8_takesAccent 15 = .ok (.bipush 9, 2) := by decide +kernel
theorem dX8_takesAccent_17 : decode cX8_takesAccent 17 = .ok (.invokevirtual 172, 3) := by decide +kernel
theorem dX8_takesAccent_20 : decode cX8_takesAccent 20 = .ok (.iadd, 1) := by decide +kernel
theorem dX8_takesAccent_21 : decode cX8_takesAccent 21 = .ok (.istore_n 1, 1) := by decide +kernel
theorem dX8_takesAccent_22 : decode cX8_takesAccent 22 = .ok (.iinc 2 1, 3) := by decide +kernel
theorem dX8_takesAccent_25 : decode cX8_takesAccent 25 = .ok (.goto (-21), 3) := by decide +kernel
theorem dX8_takesAccent_28 : decode cX8_takesAccent 28 = .ok (.iload_n 1, 1) := by decide +kernel
theorem dX8_takesAccent_29 : decode cX8_takesAccent 29 = .ok (.ireturn, 1) := by decide +kernel
theorem dX8_readsLodger_0 : decode cX8_readsLodger 0 = .ok (.aload_n 0, 1) := by decide +kernel
theorem dX8_readsLodger_1 : decode cX8_readsLodger 1 = .ok (.getfield 19, 3) := by decide +kernel
theorem dX8_readsLodger_4 : decode cX8_readsLodger 4 = .ok (.bipush 7, 2) := by decide +kernel
theorem dX8_readsLodger_6 : decode cX8_readsLodger 6 = .ok (.iaload, 1) := by decide +kernel
theorem dX8_readsLodger_7 : decode cX8_readsLodger 7 = .ok (.bipush 12, 2) := by decide +kernel
theorem dX8_readsLodger_9 : decode cX8_readsLodger 9 = .ok (.if_icmp .ne 9, 3) := by decide +kernel
theorem dX8_readsLodger_12 : decode cX8_readsLodger 12 = .ok (.aload_n 0, 1) := by decide +kernel
theorem dX8_readsLodger_13 : decode cX8_readsLodger 13 = .ok (.iconst 5, 1) := by decide +kernel
theorem dX8_readsLodger_14 : decode cX8_readsLodger 14 = .ok (.invokevirtual 160, 3) := by decide +kernel
theorem dX8_readsLodger_17 : decode cX8_readsLodger 17 = .ok (.return_, 1) := by decide +kernel
theorem dX8_readsLodger_18 : decode cX8_readsLodger 18 = .ok (.aload_n 0, 1) := by decide +kernel
theorem dX8_readsLodger_19 : decode cX8_readsLodger 19 = .ok (.invokevirtual 157, 3) := by decide +kernel
theorem dX8_readsLodger_22 : decode cX8_readsLodger 22 = .ok (.aload_n 0, 1) := by decide +kernel
theorem dX8_readsLodger_23 : decode cX8_readsLodger 23 = .ok (.invokevirtual 175, 3) := by decide +kernel
theorem dX8_readsLodger_26 : decode cX8_readsLodger 26 = .ok (.aload_n 0, 1) := by decide +kernel
theorem dX8_readsLodger_27 : decode cX8_readsLodger 27 = .ok (.getfield 151, 3) := by decide +kernel
theorem dX8_readsLodger_30 : decode cX8_readsLodger 30 = .ok (.ifCond .ne 24, 3) := by decide +kernel
theorem dX8_readsLodger_33 : decode cX8_readsLodger 33 = .ok (.aload_n 0, 1) := by decide +kernel
theorem dX8_readsLodger_34 : decode cX8_readsLodger 34 = .ok (.aload_n 0, 1) := by decide +kernel
theorem dX8_readsLodger_35 : decode cX8_readsLodger 35 = .ok (.getfield 136, 3) := by decide +kernel
theorem dX8_readsLodger_38 : decode cX8_readsLodger 38 = .ok (.aload_n 0, 1) := by decide +kernel
theorem dX8_readsLodger_39 : decode cX8_readsLodger 39 = .ok (.getfield 133, 3) := by decide +kernel
theorem dX8_readsLodger_42 : decode cX8_readsLodger 42 = .ok (.invokevirtual 178, 3) := by decide +kernel
theorem dX8_readsLodger_45 : decode cX8_readsLodger 45 = .ok (.iconst (-1), 1) := by decide +kernel
theorem dX8_readsLodger_46 : decode cX8_readsLodger 46 = .ok (.if_icmp .eq 8, 3) := by decide +kernel
theorem dX8_readsLodger_49 : decode cX8_readsLodger 49 = .ok (.aload_n 0, 1) := by decide +kernel
theorem dX8_readsLodger_50 : decode cX8_readsLodger 50 = .ok (.iconst 4, 1) := by decide +kernel
theorem dX8_readsLodger_51 : decode cX8_readsLodger 51 = .ok (.invokevirtual 160, 3) := by decide +kernel
theorem dX8_readsLodger_54 : decode cX8_readsLodger 54 = .ok (.aload_n 0, 1) := by decide +kernel
theorem dX8_readsLodger_55 : decode cX8_readsLodger 55 = .ok (.getfield 136, 3) := by decide +kernel
theorem dX8_readsLodger_58 : decode cX8_readsLodger 58 = .ok (.istore_n 1, 1) := by decide +kernel
theorem dX8_readsLodger_59 : decode cX8_readsLodger 59 = .ok (.aload_n 0, 1) := by decide +kernel
theorem dX8_readsLodger_60 : decode cX8_readsLodger 60 = .ok (.getfield 133, 3) := by decide +kernel
theorem dX8_readsLodger_63 : decode cX8_readsLodger 63 = .ok (.aload_n 0, 1) := by decide +kernel
theorem dX8_readsLodger_64 : decode cX8_readsLodger 64 = .ok (.getfield 136, 3) := by decide +kernel
theorem dX8_readsLodger_67 : decode cX8_readsLodger 67 = .ok (.isub, 1) := by decide +kernel
theorem dX8_readsLodger_68 : decode cX8_readsLodger 68 = .ok (.istore_n 2, 1) := by decide +kernel
theorem dX8_readsLodger_69 : decode cX8_readsLodger 69 = .ok (.aload_n 0, 1) := by decide +kernel
theorem dX8_readsLodger_70 : decode cX8_readsLodger 70 = .ok (.invokevirtual 166, 3) := by decide +kernel
theorem dX8_readsLodger_73 : decode cX8_readsLodger 73 = .ok (.aload_n 0, 1) := by decide +kernel
theorem dX8_readsLodger_74 : decode cX8_readsLodger 74 = .ok (.iconst 0, 1) := by decide +kernel
theorem dX8_readsLodger_75 : decode cX8_readsLodger 75 = .ok (.iconst 4, 1) := by decide +kernel
theorem dX8_readsLodger_76 : decode cX8_readsLodger 76 = .ok (.invokevirtual 163, 3) := by decide +kernel
theorem dX8_readsLodger_79 : decode cX8_readsLodger 79 = .ok (.istore_n 3, 1) := by decide +kernel
theorem dX8_readsLodger_80 : decode cX8_readsLodger 80 = .ok (.aload_n 0, 1) := by decide +kernel
theorem dX8_readsLodger_81 : decode cX8_readsLodger 81 = .ok (.getfield 151, 3) := by decide +kernel
theorem dX8_readsLodger_84 : decode cX8_readsLodger 84 = .ok (.ifCond .ne 19, 3) := by decide +kernel
theorem dX8_readsLodger_87 : decode cX8_readsLodger 87 = .ok (.aload_n 0, 1) := by decide +kernel
theorem dX8_readsLodger_88 : decode cX8_readsLodger 88 = .ok (.iload_n 3, 1) := by decide +kernel
theorem dX8_readsLodger_89 : decode cX8_readsLodger 89 = .ok (.iconst (-1), 1) := by decide +kernel
theorem dX8_readsLodger_90 : decode cX8_readsLodger 90 = .ok (.invokevirtual 80, 3) := by decide +kernel
theorem dX8_readsLodger_93 : decode cX8_readsLodger 93 = .ok (.iconst 4, 1) := by decide +kernel
theorem dX8_readsLodger_94 : decode cX8_readsLodger 94 = .ok (.if_icmp .ne 9, 3) := by decide +kernel
theorem dX8_readsLodger_97 : decode cX8_readsLodger 97 = .ok (.aload_n 0, 1) := by decide +kernel
theorem dX8_readsLodger_98 : decode cX8_readsLodger 98 = .ok (.bipush 6, 2) := by decide +kernel
theorem dX8_readsLodger_100 : decode cX8_readsLodger 100 = .ok (.invokevirtual 160, 3) := by decide +kernel
theorem dX8_readsLodger_103 : decode cX8_readsLodger 103 = .ok (.aload_n 0, 1) := by decide +kernel
theorem dX8_readsLodger_104 : decode cX8_readsLodger 104 = .ok (.invokevirtual 166, 3) := by decide +kernel
theorem dX8_readsLodger_107 : decode cX8_readsLodger 107 = .ok (.aload_n 0, 1) := by decide +kernel
theorem dX8_readsLodger_108 : decode cX8_readsLodger 108 = .ok (.iconst 0, 1) := by decide +kernel
theorem dX8_readsLodger_109 : decode cX8_readsLodger 109 = .ok (.sipush 999, 3) := by decide +kernel
theorem dX8_readsLodger_112 : decode cX8_readsLodger 112 = .ok (.invokevirtual 172, 3) := by decide +kernel
theorem dX8_readsLodger_115 : decode cX8_readsLodger 115 = .ok (.istore 4, 2) := by decide +kernel
theorem dX8_readsLodger_117 : decode cX8_readsLodger 117 = .ok (.aload_n 0, 1) := by decide +kernel
theorem dX8_readsLodger_118 : decode cX8_readsLodger 118 = .ok (.invokevirtual 181, 3) := by decide +kernel
theorem dX8_readsLodger_121 : decode cX8_readsLodger 121 = .ok (.istore 5, 2) := by decide +kernel
theorem dX8_readsLodger_123 : decode cX8_readsLodger 123 = .ok (.aload_n 0, 1) := by decide +kernel
theorem dX8_readsLodger_124 : decode cX8_readsLodger 124 = .ok (.getfield 151, 3) := by decide +kernel
theorem dX8_readsLodger_127 : decode cX8_readsLodger 127 = .ok (.ifCond .ne 59, 3) := by decide +kernel
theorem dX8_readsLodger_130 : decode cX8_readsLodger 130 = .ok (.aload_n 0, 1) := by decide +kernel
theorem dX8_readsLodger_131 : decode cX8_readsLodger 131 = .ok (.iload_n 3, 1) := by decide +kernel
theorem dX8_readsLodger_132 : decode cX8_readsLodger 132 = .ok (.iload 4, 2) := by decide +kernel
theorem dX8_readsLodger_134 : decode cX8_readsLodger 134 = .ok (.iload 5, 2) := by decide +kernel
theorem dX8_readsLodger_136 : decode cX8_readsLodger 136 = .ok (.invokevirtual 52, 3) := by decide +kernel
theorem dX8_readsLodger_139 : decode cX8_readsLodger 139 = .ok (.iconst 0, 1) := by decide +kernel
theorem dX8_readsLodger_140 : decode cX8_readsLodger 140 = .ok (.istore 6, 2) := by decide +kernel
theorem dX8_readsLodger_142 : decode cX8_readsLodger 142 = .ok (.iload 6, 2) := by decide +kernel
theorem dX8_readsLodger_144 : decode cX8_readsLodger 144 = .ok (.iload_n 2, 1) := by decide +kernel
theorem dX8_readsLodger_145 : decode cX8_readsLodger 145 = .ok (.if_icmp .ge 41, 3) := by decide +kernel
theorem dX8_readsLodger_148 : decode cX8_readsLodger 148 = .ok (.aload_n 0, 1) := by decide +kernel
theorem dX8_readsLodger_149 : decode cX8_readsLodger 149 = .ok (.getfield 19, 3) := by decide +kernel
theorem dX8_readsLodger_152 : decode cX8_readsLodger 152 = .ok (.aload_n 0, 1) := by decide +kernel
theorem dX8_readsLodger_153 : decode cX8_readsLodger 153 = .ok (.getfield 19, 3) := by decide +kernel
theorem dX8_readsLodger_156 : decode cX8_readsLodger 156 = .ok (.bipush 7, 2) := by decide +kernel
theorem dX8_readsLodger_158 : decode cX8_readsLodger 158 = .ok (.iaload, 1) := by decide +kernel
theorem dX8_readsLodger_159 : decode cX8_readsLodger 159 = .ok (.iconst 1, 1) := by decide +kernel
theorem dX8_readsLodger_160 : decode cX8_readsLodger 160 = .ok (.isub, 1) := by decide +kernel
theorem dX8_readsLodger_161 : decode cX8_readsLodger 161 = .ok (.invokestatic 56, 3) := by decide +kernel
theorem dX8_readsLodger_164 : decode cX8_readsLodger 164 = .ok (.bipush 10, 2) := by decide +kernel
theorem dX8_readsLodger_166 : decode cX8_readsLodger 166 = .ok (.iadd, 1) := by decide +kernel
theorem dX8_readsLodger_167 : decode cX8_readsLodger 167 = .ok (.iload 6, 2) := by decide +kernel
theorem dX8_readsLodger_169 : decode cX8_readsLodger 169 = .ok (.iadd, 1) := by decide +kernel
theorem dX8_readsLodger_170 : decode cX8_readsLodger 170 = .ok (.aload_n 0, 1) := by decide +kernel
theorem dX8_readsLodger_171 : decode cX8_readsLodger 171 = .ok (.getfield 41, 3) := by decide +kernel
theorem dX8_readsLodger_174 : decode cX8_readsLodger 174 = .ok (.iload_n 1, 1) := by decide +kernel
theorem dX8_readsLodger_175 : decode cX8_readsLodger 175 = .ok (.iload 6, 2) := by decide +kernel
theorem dX8_readsLodger_177 : decode cX8_readsLodger 177 = .ok (.iadd, 1) := by decide +kernel
theorem dX8_readsLodger_178 : decode cX8_readsLodger 178 = .ok (.baload, 1) := by decide +kernel
theorem dX8_readsLodger_179 : decode cX8_readsLodger 179 = .ok (.iastore, 1) := by decide +kernel
theorem dX8_readsLodger_180 : decode cX8_readsLodger 180 = .ok (.iinc 6 1, 3) := by decide +kernel
theorem dX8_readsLodger_183 : decode cX8_readsLodger 183 = .ok (.goto (-41), 3) := by decide +kernel
theorem dX8_readsLodger_186 : decode cX8_readsLodger 186 = .ok (.return_, 1) := by decide +kernel
theorem dX8_takesLodger_0 : decode cX8_takesLodger 0 = .ok (.aload_n 0, 1) := by decide +kernel
theorem dX8_takesLodger_1 : decode cX8_takesLodger 1 = .ok (.invokevirtual 175, 3) := by decide +kernel
theorem dX8_takesLodger_4 : decode cX8_takesLodger 4 = .ok (.aload_n 0, 1) := by decide +kernel
theorem dX8_takesLodger_5 : decode cX8_takesLodger 5 = .ok (.getfield 151, 3) := by decide +kernel
theorem dX8_takesLodger_8 : decode cX8_takesLodger 8 = .ok (.ifCond .ne 18, 3) := by decide +kernel
theorem dX8_takesLodger_11 : decode cX8_takesLodger 11 = .ok (.aload_n 0, 1) := by decide +kernel
theorem dX8_takesLodger_12 : decode cX8_takesLodger 12 = .ok (.aload_n 0, 1) := by decide +kernel
theorem dX8_takesLodger_13 : decode cX8_takesLodger 13 = .ok (.getfield 136, 3) := by decide +kernel
theorem dX8_takesLodger_16 : decode cX8_takesLodger 16 = .ok (.aload_n 0, 1) := by decide +kernel
theorem dX8_takesLodger_17 : decode cX8_takesLodger 17 = .ok (.getfield 133, 3) := by decide +kernel
theorem dX8_takesLodger_20 : decode cX8_takesLodger 20 = .ok (.invokevirtual 178, 3) := by decide +kernel
theorem dX8_takesLodger_23 : decode cX8_takesLodger 23 = .ok (.goto 4, 3) := by decide +kernel
theorem dX8_takesLodger_26 : decode cX8_takesLodger 26 = .ok (.iconst 0, 1) := by decide +kernel
theorem dX8_takesLodger_27 : decode cX8_takesLodger 27 = .ok (.istore_n 1, 1) := by decide +kernel
theorem dX8_takesLodger_28 : decode cX8_takesLodger 28 = .ok (.iload_n 1, 1) := by decide +kernel
theorem dX8_takesLodger_29 : decode cX8_takesLodger 29 = .ok (.iconst (-1), 1) := by decide +kernel
theorem dX8_takesLodger_30 : decode cX8_takesLodger 30 = .ok (.if_icmp .ne 8, 3) := by decide +kernel
theorem dX8_takesLodger_33 : decode cX8_takesLodger 33 = .ok (.aload_n 0, 1) := by decide +kernel
theorem dX8_takesLodger_34 : decode cX8_takesLodger 34 = .ok (.iconst 3, 1) := by decide +kernel
theorem dX8_takesLodger_35 : decode cX8_takesLodger 35 = .ok (.invokevirtual 160, 3) := by decide +kernel
theorem dX8_takesLodger_38 : decode cX8_takesLodger 38 = .ok (.aload_n 0, 1) := by decide +kernel
theorem dX8_takesLodger_39 : decode cX8_takesLodger 39 = .ok (.invokevirtual 166, 3) := by decide +kernel
theorem dX8_takesLodger_42 : decode cX8_takesLodger 42 = .ok (.aload_n 0, 1) := by decide +kernel
theorem dX8_takesLodger_43 : decode cX8_takesLodger 43 = .ok (.getfield 151, 3) := by decide +kernel
theorem dX8_takesLodger_46 : decode cX8_takesLodger 46 = .ok (.ifCond .ne 7, 3) := by decide +kernel
theorem dX8_takesLodger_49 : decode cX8_takesLodger 49 = .ok (.iload_n 1, 1) := by decide +kernel
theorem dX8_takesLodger_50 : decode cX8_takesLodger 50 = .ok (.goto 4, 3) := by decide +kernel
theorem dX8_takesLodger_53 : decode cX8_takesLodger 53 = .ok (.iconst 0, 1) := by decide +kernel
theorem dX8_takesLodger_54 : decode cX8_takesLodger 54 = .ok (.ireturn, 1) := by decide +kernel
theorem dX8_pays_0 : decode cX8_pays 0 = .ok (.aload_n 0, 1) := by decide +kernel
theorem dX8_pays_1 : decode cX8_pays 1 = .ok (.getfield 19, 3) := by decide +kernel
theorem dX8_pays_4 : decode cX8_pays 4 = .ok (.iload_n 1, 1) := by decide +kernel
theorem dX8_pays_5 : decode cX8_pays 5 = .ok (.invokestatic 56, 3) := by decide +kernel
theorem dX8_pays_8 : decode cX8_pays 8 = .ok (.iconst 1, 1) := by decide +kernel
theorem dX8_pays_9 : decode cX8_pays 9 = .ok (.iadd, 1) := by decide +kernel
theorem dX8_pays_10 : decode cX8_pays 10 = .ok (.dup2, 1) := by decide +kernel
theorem dX8_pays_11 : decode cX8_pays 11 = .ok (.iaload, 1) := by decide +kernel
theorem dX8_pays_12 : decode cX8_pays 12 = .ok (.iload_n 2, 1) := by decide +kernel
theorem dX8_pays_13 : decode cX8_pays 13 = .ok (.iadd, 1) := by decide +kernel
theorem dX8_pays_14 : decode cX8_pays 14 = .ok (.iastore, 1) := by decide +kernel
theorem dX8_pays_15 : decode cX8_pays 15 = .ok (.aload_n 0, 1) := by decide +kernel
theorem dX8_pays_16 : decode cX8_pays 16 = .ok (.getfield 19, 3) := by decide +kernel
theorem dX8_pays_19 : decode cX8_pays 19 = .ok (.bipush 10, 2) := by decide +kernel
theorem dX8_pays_21 : decode cX8_pays 21 = .ok (.dup2, 1) := by decide +kernel
theorem dX8_pays_22 : decode cX8_pays 22 = .ok (.iaload, 1) := by decide +kernel
theorem dX8_pays_23 : decode cX8_pays 23 = .ok (.iload_n 2, 1) := by decide +kernel
theorem dX8_pays_24 : decode cX8_pays 24 = .ok (.iadd, 1) := by decide +kernel
theorem dX8_pays_25 : decode cX8_pays 25 = .ok (.iastore, 1) := by decide +kernel
theorem dX8_pays_26 : decode cX8_pays 26 = .ok (.return_, 1) := by decide +kernel
theorem dX8_readsPay_0 : decode cX8_readsPay 0 = .ok (.aload_n 0, 1) := by decide +kernel
theorem dX8_readsPay_1 : decode cX8_readsPay 1 = .ok (.invokevirtual 157, 3) := by decide +kernel
theorem dX8_readsPay_4 : decode cX8_readsPay 4 = .ok (.aload_n 0, 1) := by decide +kernel
theorem dX8_readsPay_5 : decode cX8_readsPay 5 = .ok (.invokevirtual 185, 3) := by decide +kernel
theorem dX8_readsPay_8 : decode cX8_readsPay 8 = .ok (.istore_n 1, 1) := by decide +kernel
theorem dX8_readsPay_9 : decode cX8_readsPay 9 = .ok (.aload_n 0, 1) := by decide +kernel
theorem dX8_readsPay_10 : decode cX8_readsPay 10 = .ok (.iconst 1, 1) := by decide +kernel
theorem dX8_readsPay_11 : decode cX8_readsPay 11 = .ok (.sipush 999, 3) := by decide +kernel
theorem dX8_readsPay_14 : decode cX8_readsPay 14 = .ok (.invokevirtual 172, 3) := by decide +kernel
theorem dX8_readsPay_17 : decode cX8_readsPay 17 = .ok (.istore_n 2, 1) := by decide +kernel
theorem dX8_readsPay_18 : decode cX8_readsPay 18 = .ok (.aload_n 0, 1) := by decide +kernel
theorem dX8_readsPay_19 : decode cX8_readsPay 19 = .ok (.getfield 151, 3) := by decide +kernel
theorem dX8_readsPay_22 : decode cX8_readsPay 22 = .ok (.ifCond .ne 9, 3) := by decide +kernel
theorem dX8_readsPay_25 : decode cX8_readsPay 25 = .ok (.aload_n 0, 1) := by decide +kernel
theorem dX8_readsPay_26 : decode cX8_readsPay 26 = .ok (.iload_n 1, 1) := by decide +kernel
theorem dX8_readsPay_27 : decode cX8_readsPay 27 = .ok (.iload_n 2, 1) := by decide +kernel
theorem dX8_readsPay_28 : decode cX8_readsPay 28 = .ok (.invokevirtual 188, 3) := by decide +kernel
theorem dX8_readsPay_31 : decode cX8_readsPay 31 = .ok (.return_, 1) := by decide +kernel
theorem dX8_readsMove_0 : decode cX8_readsMove 0 = .ok (.aload_n 0, 1) := by decide +kernel
theorem dX8_readsMove_1 : decode cX8_readsMove 1 = .ok (.invokevirtual 157, 3) := by decide +kernel
theorem dX8_readsMove_4 : decode cX8_readsMove 4 = .ok (.aload_n 0, 1) := by decide +kernel
theorem dX8_readsMove_5 : decode cX8_readsMove 5 = .ok (.invokevirtual 185, 3) := by decide +kernel
theorem dX8_readsMove_8 : decode cX8_readsMove 8 = .ok (.istore_n 1, 1) := by decide +kernel
theorem dX8_readsMove_9 : decode cX8_readsMove 9 = .ok (.aload_n 0, 1) := by decide +kernel
theorem dX8_readsMove_10 : decode cX8_readsMove 10 = .ok (.iconst 0, 1) := by decide +kernel
theorem dX8_readsMove_11 : decode cX8_readsMove 11 = .ok (.iconst 4, 1) := by decide +kernel
theorem dX8_readsMove_12 : decode cX8_readsMove 12 = .ok (.invokevirtual 163, 3) := by decide +kernel
theorem dX8_readsMove_15 : decode cX8_readsMove 15 = .ok (.istore_n 2, 1) := by decide +kernel
theorem dX8_readsMove_16 : decode cX8_readsMove 16 = .ok (.aload_n 0, 1) := by decide +kernel
theorem dX8_readsMove_17 : decode cX8_readsMove 17 = .ok (.getfield 151, 3) := by decide +kernel
theorem dX8_readsMove_20 : decode cX8_readsMove 20 = .ok (.ifCond .ne 19, 3) := by decide +kernel
theorem dX8_readsMove_23 : decode cX8_readsMove 23 = .ok (.aload_n 0, 1) := by decide +kernel
theorem dX8_readsMove_24 : decode cX8_readsMove 24 = .ok (.iload_n 2, 1) := by decide +kernel
theorem dX8_readsMove_25 : decode cX8_readsMove 25 = .ok (.iload_n 1, 1) := by decide +kernel
theorem dX8_readsMove_26 : decode cX8_readsMove 26 = .ok (.invokevirtual 80, 3) := by decide +kernel
theorem dX8_readsMove_29 : decode cX8_readsMove 29 = .ok (.iconst 4, 1) := by decide +kernel
theorem dX8_readsMove_30 : decode cX8_readsMove 30 = .ok (.if_icmp .ne 9, 3) := by decide +kernel
theorem dX8_readsMove_33 : decode cX8_readsMove 33 = .ok (.aload_n 0, 1) := by decide +kernel
theorem dX8_readsMove_34 : decode cX8_readsMove 34 = .ok (.bipush 6, 2) := by decide +kernel
theorem dX8_readsMove_36 : decode cX8_readsMove 36 = .ok (.invokevirtual 160, 3) := by decide +kernel
theorem dX8_readsMove_39 : decode cX8_readsMove 39 = .ok (.aload_n 0, 1) := by decide +kernel
theorem dX8_readsMove_40 : decode cX8_readsMove 40 = .ok (.invokevirtual 166, 3) := by decide +kernel
theorem dX8_readsMove_43 : decode cX8_readsMove 43 = .ok (.aload_n 0, 1) := by decide +kernel
theorem dX8_readsMove_44 : decode cX8_readsMove 44 = .ok (.getfield 151, 3) := by decide +kernel
theorem dX8_readsMove_47 : decode cX8_readsMove 47 = .ok (.ifCond .ne 15, 3) := by decide +kernel
theorem dX8_readsMove_50 : decode cX8_readsMove 50 = .ok (.aload_n 0, 1) := by decide +kernel
theorem dX8_readsMove_51 : decode cX8_readsMove 51 = .ok (.getfield 19, 3) := by decide +kernel
theorem dX8_readsMove_54 : decode cX8_readsMove 54 = .ok (.iload_n 1, 1) := by decide +kernel
theorem dX8_readsMove_55 : decode cX8_readsMove 55 = .ok (.invokestatic 56, 3) := by decide +kernel
theorem dX8_readsMove_58 : decode cX8_readsMove 58 = .ok (.iconst 0, 1) := by decide +kernel
theorem dX8_readsMove_59 : decode cX8_readsMove 59 = .ok (.iadd, 1) := by decide +kernel
theorem dX8_readsMove_60 : decode cX8_readsMove 60 = .ok (.iload_n 2, 1) := by decide +kernel
theorem dX8_readsMove_61 : decode cX8_readsMove 61 = .ok (.iastore, 1) := by decide +kernel
theorem dX8_readsMove_62 : decode cX8_readsMove 62 = .ok (.return_, 1) := by decide +kernel
theorem dX8_readsLine_0 : decode cX8_readsLine 0 = .ok (.aload_n 0, 1) := by decide +kernel
theorem dX8_readsLine_1 : decode cX8_readsLine 1 = .ok (.iconst 2, 1) := by decide +kernel
theorem dX8_readsLine_2 : decode cX8_readsLine 2 = .ok (.invokevirtual 169, 3) := by decide +kernel
theorem dX8_readsLine_5 : decode cX8_readsLine 5 = .ok (.ifCond .eq 10, 3) := by decide +kernel
theorem dX8_readsLine_8 : decode cX8_readsLine 8 = .ok (.aload_n 0, 1) := by decide +kernel
theorem dX8_readsLine_9 : decode cX8_readsLine 9 = .ok (.invokevirtual 192, 3) := by decide +kernel
theorem dX8_readsLine_12 : decode cX8_readsLine 12 = .ok (.goto 77, 3) := by decide +kernel
theorem dX8_readsLine_15 : decode cX8_readsLine 15 = .ok (.aload_n 0, 1) := by decide +kernel
theorem dX8_readsLine_16 : decode cX8_readsLine 16 = .ok (.iconst 3, 1) := by decide +kernel
theorem dX8_readsLine_17 : decode cX8_readsLine 17 = .ok (.invokevirtual 169, 3) := by decide +kernel
theorem dX8_readsLine_20 : decode cX8_readsLine 20 = .ok (.ifCond .eq 10, 3) := by decide +kernel
theorem dX8_readsLine_23 : decode cX8_readsLine 23 = .ok (.aload_n 0, 1) := by decide +kernel
theorem dX8_readsLine_24 : decode cX8_readsLine 24 = .ok (.invokevirtual 195, 3) := by decide +kernel
theorem dX8_readsLine_27 : decode cX8_readsLine 27 = .ok (.goto 62, 3) := by decide +kernel
theorem dX8_readsLine_30 : decode cX8_readsLine 30 = .ok (.aload_n 0, 1) := by decide +kernel
theorem dX8_readsLine_31 : decode cX8_readsLine 31 = .ok (.iconst 4, 1) := by decide +kernel
theorem dX8_readsLine_32 : decode cX8_readsLine 32 = .ok (.invokevirtual 169, 3) := by decide +kernel
theorem dX8_readsLine_35 : decode cX8_readsLine 35 = .ok (.ifCond .eq 10, 3) := by decide +kernel
theorem dX8_readsLine_38 : decode cX8_readsLine 38 = .ok (.aload_n 0, 1) := by decide +kernel
theorem dX8_readsLine_39 : decode cX8_readsLine 39 = .ok (.invokevirtual 198, 3) := by decide +kernel
theorem dX8_readsLine_42 : decode cX8_readsLine 42 = .ok (.goto 47, 3) := by decide +kernel
theorem dX8_readsLine_45 : decode cX8_readsLine 45 = .ok (.aload_n 0, 1) := by decide +kernel
theorem dX8_readsLine_46 : decode cX8_readsLine 46 = .ok (.iconst 5, 1) := by decide +kernel
theorem dX8_readsLine_47 : decode cX8_readsLine 47 = .ok (.invokevirtual 169, 3) := by decide +kernel
theorem dX8_readsLine_50 : decode cX8_readsLine 50 = .ok (.ifCond .eq 34, 3) := by decide +kernel
theorem dX8_readsLine_53 : decode cX8_readsLine 53 = .ok (.aload_n 0, 1) := by decide +kernel
theorem dX8_readsLine_54 : decode cX8_readsLine 54 = .ok (.invokevirtual 157, 3) := by decide +kernel
theorem dX8_readsLine_57 : decode cX8_readsLine 57 = .ok (.aload_n 0, 1) := by decide +kernel
theorem dX8_readsLine_58 : decode cX8_readsLine 58 = .ok (.iconst 1, 1) := by decide +kernel
theorem dX8_readsLine_59 : decode cX8_readsLine 59 = .ok (.bipush 100, 2) := by decide +kernel
theorem dX8_readsLine_61 : decode cX8_readsLine 61 = .ok (.invokevirtual 172, 3) := by decide +kernel
theorem dX8_readsLine_64 : decode cX8_readsLine 64 = .ok (.istore_n 1, 1) := by decide +kernel
theorem dX8_readsLine_65 : decode cX8_readsLine 65 = .ok (.aload_n 0, 1) := by decide +kernel
theorem dX8_readsLine_66 : decode cX8_readsLine 66 = .ok (.aload_n 0, 1) := by decide +kernel
theorem dX8_readsLine_67 : decode cX8_readsLine 67 = .ok (.getfield 151, 3) := by decide +kernel
theorem dX8_readsLine_70 : decode cX8_readsLine 70 = .ok (.ifCond .ne 7, 3) := by decide +kernel
theorem dX8_readsLine_73 : decode cX8_readsLine 73 = .ok (.iload_n 1, 1) := by decide +kernel
theorem dX8_readsLine_74 : decode cX8_readsLine 74 = .ok (.goto 4, 3) := by decide +kernel
theorem dX8_readsLine_77 : decode cX8_readsLine 77 = .ok (.iconst 0, 1) := by decide +kernel
theorem dX8_readsLine_78 : decode cX8_readsLine 78 = .ok (.invokevirtual 201, 3) := by decide +kernel
theorem dX8_readsLine_81 : decode cX8_readsLine 81 = .ok (.goto 8, 3) := by decide +kernel
theorem dX8_readsLine_84 : decode cX8_readsLine 84 = .ok (.aload_n 0, 1) := by decide +kernel
theorem dX8_readsLine_85 : decode cX8_readsLine 85 = .ok (.iconst 1, 1) := by decide +kernel
theorem dX8_readsLine_86 : decode cX8_readsLine 86 = .ok (.invokevirtual 160, 3) := by decide +kernel
theorem dX8_readsLine_89 : decode cX8_readsLine 89 = .ok (.return_, 1) := by decide +kernel
theorem dX8_takesSemicolon_0 : decode cX8_takesSemicolon 0 = .ok (.aload_n 0, 1) := by decide +kernel
theorem dX8_takesSemicolon_1 : decode cX8_takesSemicolon 1 = .ok (.getfield 151, 3) := by decide +kernel
theorem dX8_takesSemicolon_4 : decode cX8_takesSemicolon 4 = .ok (.ifCond .ne 16, 3) := by decide +kernel
theorem dX8_takesSemicolon_7 : decode cX8_takesSemicolon 7 = .ok (.aload_n 0, 1) := by decide +kernel
theorem dX8_takesSemicolon_8 : decode cX8_takesSemicolon 8 = .ok (.getfield 130, 3) := by decide +kernel
theorem dX8_takesSemicolon_11 : decode cX8_takesSemicolon 11 = .ok (.iconst 3, 1) := by decide +kernel
theorem dX8_takesSemicolon_12 : decode cX8_takesSemicolon 12 = .ok (.if_icmp .eq 8, 3) := by decide +kernel
theorem dX8_takesSemicolon_15 : decode cX8_takesSemicolon 15 = .ok (.aload_n 0, 1) := by decide +kernel
theorem dX8_takesSemicolon_16 : decode cX8_takesSemicolon 16 = .ok (.iconst 1, 1) := by decide +kernel
theorem dX8_takesSemicolon_17 : decode cX8_takesSemicolon 17 = .ok (.invokevirtual 160, 3) := by decide +kernel
theorem dX8_takesSemicolon_20 : decode cX8_takesSemicolon 20 = .ok (.aload_n 0, 1) := by decide +kernel
theorem dX8_takesSemicolon_21 : decode cX8_takesSemicolon 21 = .ok (.invokevirtual 166, 3) := by decide +kernel
theorem dX8_takesSemicolon_24 : decode cX8_takesSemicolon 24 = .ok (.return_, 1) := by decide +kernel
theorem dX8_readsText_0 : decode cX8_readsText 0 = .ok (.iconst 0, 1) := by decide +kernel
theorem dX8_readsText_1 : decode cX8_readsText 1 = .ok (.istore_n 2, 1) := by decide +kernel
theorem dX8_readsText_2 : decode cX8_readsText 2 = .ok (.iload_n 2, 1) := by decide +kernel
theorem dX8_readsText_3 : decode cX8_readsText 3 = .ok (.sipush 205, 3) := by decide +kernel
theorem dX8_readsText_6 : decode cX8_readsText 6 = .ok (.if_icmp .ge 16, 3) := by decide +kernel
theorem dX8_readsText_9 : decode cX8_readsText 9 = .ok (.aload_n 0, 1) := by decide +kernel
theorem dX8_readsText_10 : decode cX8_readsText 10 = .ok (.getfield 19, 3) := by decide +kernel
theorem dX8_readsText_13 : decode cX8_readsText 13 = .ok (.iload_n 2, 1) := by decide +kernel
theorem dX8_readsText_14 : decode cX8_readsText 14 = .ok (.iconst 0, 1) := by decide +kernel
theorem dX8_readsText_15 : decode cX8_readsText 15 = .ok (.iastore, 1) := by decide +kernel
theorem dX8_readsText_16 : decode cX8_readsText 16 = .ok (.iinc 2 1, 3) := by decide +kernel
theorem dX8_readsText_19 : decode cX8_readsText 19 = .ok (.goto (-17), 3) := by decide +kernel
theorem dX8_readsText_22 : decode cX8_readsText 22 = .ok (.aload_n 0, 1) := by decide +kernel
theorem dX8_readsText_23 : decode cX8_readsText 23 = .ok (.iload_n 1, 1) := by decide +kernel
theorem dX8_readsText_24 : decode cX8_readsText 24 = .ok (.putfield 139, 3) := by decide +kernel
theorem dX8_readsText_27 : decode cX8_readsText 27 = .ok (.aload_n 0, 1) := by decide +kernel
theorem dX8_readsText_28 : decode cX8_readsText 28 = .ok (.iconst 0, 1) := by decide +kernel
theorem dX8_readsText_29 : decode cX8_readsText 29 = .ok (.putfield 151, 3) := by decide +kernel
theorem dX8_readsText_32 : decode cX8_readsText 32 = .ok (.aload_n 0, 1) := by decide +kernel
theorem dX8_readsText_33 : decode cX8_readsText 33 = .ok (.iconst 0, 1) := by decide +kernel
theorem dX8_readsText_34 : decode cX8_readsText 34 = .ok (.putfield 130, 3) := by decide +kernel
theorem dX8_readsText_37 : decode cX8_readsText 37 = .ok (.aload_n 0, 1) := by decide +kernel
theorem dX8_readsText_38 : decode cX8_readsText 38 = .ok (.iconst 0, 1) := by decide +kernel
theorem dX8_readsText_39 : decode cX8_readsText 39 = .ok (.putfield 133, 3) := by decide +kernel
theorem dX8_readsText_42 : decode cX8_readsText 42 = .ok (.aload_n 0, 1) := by decide +kernel
theorem dX8_readsText_43 : decode cX8_readsText 43 = .ok (.invokevirtual 157, 3) := by decide +kernel
theorem dX8_readsText_46 : decode cX8_readsText 46 = .ok (.aload_n 0, 1) := by decide +kernel
theorem dX8_readsText_47 : decode cX8_readsText 47 = .ok (.iconst 0, 1) := by decide +kernel
theorem dX8_readsText_48 : decode cX8_readsText 48 = .ok (.invokevirtual 204, 3) := by decide +kernel
theorem dX8_readsText_51 : decode cX8_readsText 51 = .ok (.aload_n 0, 1) := by decide +kernel
theorem dX8_readsText_52 : decode cX8_readsText 52 = .ok (.getfield 19, 3) := by decide +kernel
theorem dX8_readsText_55 : decode cX8_readsText 55 = .ok (.iconst 0, 1) := by decide +kernel
theorem dX8_readsText_56 : decode cX8_readsText 56 = .ok (.aload_n 0, 1) := by decide +kernel
theorem dX8_readsText_57 : decode cX8_readsText 57 = .ok (.iconst 0, 1) := by decide +kernel
theorem dX8_readsText_58 : decode cX8_readsText 58 = .ok (.bipush 50, 2) := by decide +kernel
theorem dX8_readsText_60 : decode cX8_readsText 60 = .ok (.invokevirtual 172, 3) := by decide +kernel
theorem dX8_readsText_63 : decode cX8_readsText 63 = .ok (.iastore, 1) := by decide +kernel
theorem dX8_readsText_64 : decode cX8_readsText 64 = .ok (.aload_n 0, 1) := by decide +kernel
theorem dX8_readsText_65 : decode cX8_readsText 65 = .ok (.getfield 19, 3) := by decide +kernel
theorem dX8_readsText_68 : decode cX8_readsText 68 = .ok (.iconst 1, 1) := by decide +kernel
theorem dX8_readsText_69 : decode cX8_readsText 69 = .ok (.aload_n 0, 1) := by decide +kernel
theorem dX8_readsText_70 : decode cX8_readsText 70 = .ok (.iconst 0, 1) := by decide +kernel
theorem dX8_readsText_71 : decode cX8_readsText 71 = .ok (.bipush 45, 2) := by decide +kernel
theorem dX8_readsText_73 : decode cX8_readsText 73 = .ok (.invokevirtual 172, 3) := by decide +kernel
theorem dX8_readsText_76 : decode cX8_readsText 76 = .ok (.iastore, 1) := by decide +kernel
theorem dX8_readsText_77 : decode cX8_readsText 77 = .ok (.aload_n 0, 1) := by decide +kernel
theorem dX8_readsText_78 : decode cX8_readsText 78 = .ok (.invokevirtual 207, 3) := by decide +kernel
theorem dX8_readsText_81 : decode cX8_readsText 81 = .ok (.aload_n 0, 1) := by decide +kernel
theorem dX8_readsText_82 : decode cX8_readsText 82 = .ok (.iconst 1, 1) := by decide +kernel
theorem dX8_readsText_83 : decode cX8_readsText 83 = .ok (.invokevirtual 204, 3) := by decide +kernel
theorem dX8_readsText_86 : decode cX8_readsText 86 = .ok (.iconst 0, 1) := by decide +kernel
theorem dX8_readsText_87 : decode cX8_readsText 87 = .ok (.istore_n 2, 1) := by decide +kernel
theorem dX8_readsText_88 : decode cX8_readsText 88 = .ok (.iload_n 2, 1) := by decide +kernel
theorem dX8_readsText_89 : decode cX8_readsText 89 = .ok (.iconst 5, 1) := by decide +kernel
theorem dX8_readsText_90 : decode cX8_readsText 90 = .ok (.if_icmp .ge 24, 3) := by decide +kernel
theorem dX8_readsText_93 : decode cX8_readsText 93 = .ok (.aload_n 0, 1) := by decide +kernel
theorem dX8_readsText_94 : decode cX8_readsText 94 = .ok (.getfield 19, 3) := by decide +kernel
theorem dX8_readsText_97 : decode cX8_readsText 97 = .ok (.iconst 2, 1) := by decide +kernel
theorem dX8_readsText_98 : decode cX8_readsText 98 = .ok (.iload_n 2, 1) := by decide +kernel
theorem dX8_readsText_99 : decode cX8_readsText 99 = .ok (.iadd, 1) := by decide +kernel
theorem dX8_readsText_100 : decode cX8_readsText 100 = .ok (.aload_n 0, 1) := by decide +kernel
theorem dX8_readsText_101 : decode cX8_readsText 101 = .ok (.iconst 0, 1) := by decide +kernel
theorem dX8_readsText_102 : decode cX8_readsText 102 = .ok (.bipush 9, 2) := by decide +kernel
theorem dX8_readsText_104 : decode cX8_readsText 104 = .ok (.invokevirtual 172, 3) := by decide +kernel
theorem dX8_readsText_107 : decode cX8_readsText 107 = .ok (.iastore, 1) := by decide +kernel
theorem dX8_readsText_108 : decode cX8_readsText 108 = .ok (.iinc 2 1, 3) := by decide +kernel
theorem dX8_readsText_111 : decode cX8_readsText 111 = .ok (.goto (-23), 3) := by decide +kernel
theorem dX8_readsText_114 : decode cX8_readsText 114 = .ok (.aload_n 0, 1) := by decide +kernel
theorem dX8_readsText_115 : decode cX8_readsText 115 = .ok (.getfield 151, 3) := by decide +kernel
theorem dX8_readsText_118 : decode cX8_readsText 118 = .ok (.ifCond .ne 28, 3) := by decide +kernel
theorem dX8_readsText_121 : decode cX8_readsText 121 = .ok (.aload_n 0, 1) := by decide +kernel
theorem dX8_readsText_122 : decode cX8_readsText 122 = .ok (.getfield 130, 3) := by decide +kernel
theorem dX8_readsText_125 : decode cX8_readsText 125 = .ok (.ifCond .eq 21, 3) := by decide +kernel
theorem dX8_readsText_128 : decode cX8_readsText 128 = .ok (.aload_n 0, 1) := by decide +kernel
theorem dX8_readsText_129 : decode cX8_readsText 129 = .ok (.invokevirtual 207, 3) := by decide +kernel
theorem dX8_readsText_132 : decode cX8_readsText 132 = .ok (.aload_n 0, 1) := by decide +kernel
theorem dX8_readsText_133 : decode cX8_readsText 133 = .ok (.getfield 151, 3) := by decide +kernel
theorem dX8_readsText_136 : decode cX8_readsText 136 = .ok (.ifCond .ne (-22), 3) := by decide +kernel
theorem dX8_readsText_139 : decode cX8_readsText 139 = .ok (.aload_n 0, 1) := by decide +kernel
theorem dX8_readsText_140 : decode cX8_readsText 140 = .ok (.invokevirtual 210, 3) := by decide +kernel
theorem dX8_readsText_143 : decode cX8_readsText 143 = .ok (.goto (-29), 3) := by decide +kernel
theorem dX8_readsText_146 : decode cX8_readsText 146 = .ok (.return_, 1) := by decide +kernel
theorem dX8_feeds_0 : decode cX8_feeds 0 = .ok (.aload_n 0, 1) := by decide +kernel
theorem dX8_feeds_1 : decode cX8_feeds 1 = .ok (.getfield 41, 3) := by decide +kernel
theorem dX8_feeds_4 : decode cX8_feeds 4 = .ok (.aload_n 0, 1) := by decide +kernel
theorem dX8_feeds_5 : decode cX8_feeds 5 = .ok (.getfield 213, 3) := by decide +kernel
theorem dX8_feeds_8 : decode cX8_feeds 8 = .ok (.iload_n 1, 1) := by decide +kernel
theorem dX8_feeds_9 : decode cX8_feeds 9 = .ok (.bipush 24, 2) := by decide +kernel
theorem dX8_feeds_11 : decode cX8_feeds 11 = .ok (.ishr, 1) := by decide +kernel
theorem dX8_feeds_12 : decode cX8_feeds 12 = .ok (.i2b, 1) := by decide +kernel
theorem dX8_feeds_13 : decode cX8_feeds 13 = .ok (.bastore, 1) := by decide +kernel
theorem dX8_feeds_14 : decode cX8_feeds 14 = .ok (.aload_n 0, 1) := by decide +kernel
theorem dX8_feeds_15 : decode cX8_feeds 15 = .ok (.getfield 41, 3) := by decide +kernel
theorem dX8_feeds_18 : decode cX8_feeds 18 = .ok (.aload_n 0, 1) := by decide +kernel
theorem dX8_feeds_19 : decode cX8_feeds 19 = .ok (.getfield 213, 3) := by decide +kernel
theorem dX8_feeds_22 : decode cX8_feeds 22 = .ok (.iconst 1, 1) := by decide +kernel
theorem dX8_feeds_23 : decode cX8_feeds 23 = .ok (.iadd, 1) := by decide +kernel
theorem dX8_feeds_24 : decode cX8_feeds 24 = .ok (.iload_n 1, 1) := by decide +kernel
theorem dX8_feeds_25 : decode cX8_feeds 25 = .ok (.bipush 16, 2) := by decide +kernel
theorem dX8_feeds_27 : decode cX8_feeds 27 = .ok (.ishr, 1) := by decide +kernel
theorem dX8_feeds_28 : decode cX8_feeds 28 = .ok (.i2b, 1) := by decide +kernel
theorem dX8_feeds_29 : decode cX8_feeds 29 = .ok (.bastore, 1) := by decide +kernel
theorem dX8_feeds_30 : decode cX8_feeds 30 = .ok (.aload_n 0, 1) := by decide +kernel
theorem dX8_feeds_31 : decode cX8_feeds 31 = .ok (.getfield 41, 3) := by decide +kernel
theorem dX8_feeds_34 : decode cX8_feeds 34 = .ok (.aload_n 0, 1) := by decide +kernel
theorem dX8_feeds_35 : decode cX8_feeds 35 = .ok (.getfield 213, 3) := by decide +kernel
theorem dX8_feeds_38 : decode cX8_feeds 38 = .ok (.iconst 2, 1) := by decide +kernel
theorem dX8_feeds_39 : decode cX8_feeds 39 = .ok (.iadd, 1) := by decide +kernel
theorem dX8_feeds_40 : decode cX8_feeds 40 = .ok (.iload_n 1, 1) := by decide +kernel
theorem dX8_feeds_41 : decode cX8_feeds 41 = .ok (.bipush 8, 2) := by decide +kernel
theorem dX8_feeds_43 : decode cX8_feeds 43 = .ok (.ishr, 1) := by decide +kernel
theorem dX8_feeds_44 : decode cX8_feeds 44 = .ok (.i2b, 1) := by decide +kernel
theorem dX8_feeds_45 : decode cX8_feeds 45 = .ok (.bastore, 1) := by decide +kernel
theorem dX8_feeds_46 : decode cX8_feeds 46 = .ok (.aload_n 0, 1) := by decide +kernel
theorem dX8_feeds_47 : decode cX8_feeds 47 = .ok (.getfield 41, 3) := by decide +kernel
theorem dX8_feeds_50 : decode cX8_feeds 50 = .ok (.aload_n 0, 1) := by decide +kernel
theorem dX8_feeds_51 : decode cX8_feeds 51 = .ok (.getfield 213, 3) := by decide +kernel
theorem dX8_feeds_54 : decode cX8_feeds 54 = .ok (.iconst 3, 1) := by decide +kernel
theorem dX8_feeds_55 : decode cX8_feeds 55 = .ok (.iadd, 1) := by decide +kernel
theorem dX8_feeds_56 : decode cX8_feeds 56 = .ok (.iload_n 1, 1) := by decide +kernel
theorem dX8_feeds_57 : decode cX8_feeds 57 = .ok (.i2b, 1) := by decide +kernel
theorem dX8_feeds_58 : decode cX8_feeds 58 = .ok (.bastore, 1) := by decide +kernel
theorem dX8_feeds_59 : decode cX8_feeds 59 = .ok (.aload_n 0, 1) := by decide +kernel
theorem dX8_feeds_60 : decode cX8_feeds 60 = .ok (.dup, 1) := by decide +kernel
theorem dX8_feeds_61 : decode cX8_feeds 61 = .ok (.getfield 213, 3) := by decide +kernel
theorem dX8_feeds_64 : decode cX8_feeds 64 = .ok (.iconst 4, 1) := by decide +kernel
theorem dX8_feeds_65 : decode cX8_feeds 65 = .ok (.iadd, 1) := by decide +kernel
theorem dX8_feeds_66 : decode cX8_feeds 66 = .ok (.putfield 213, 3) := by decide +kernel
theorem dX8_feeds_69 : decode cX8_feeds 69 = .ok (.return_, 1) := by decide +kernel
theorem dX8_append_0 : decode cX8_append 0 = .ok (.aload_n 0, 1) := by decide +kernel
theorem dX8_append_1 : decode cX8_append 1 = .ok (.getfield 213, 3) := by decide +kernel
theorem dX8_append_4 : decode cX8_append 4 = .ok (.sipush 580, 3) := by decide +kernel
theorem dX8_append_7 : decode cX8_append 7 = .ok (.if_icmp .le 9, 3) := by decide +kernel
theorem dX8_append_10 : decode cX8_append 10 = .ok (.aload_n 0, 1) := by decide +kernel
theorem dX8_append_11 : decode cX8_append 11 = .ok (.iconst 1, 1) := by decide +kernel
theorem dX8_append_12 : decode cX8_append 12 = .ok (.invokevirtual 216, 3) := by decide +kernel
theorem dX8_append_15 : decode cX8_append 15 = .ok (.ireturn, 1) := by decide +kernel
theorem dX8_append_16 : decode cX8_append 16 = .ok (.aload_n 0, 1) := by decide +kernel
theorem dX8_append_17 : decode cX8_append 17 = .ok (.iload_n 1, 1) := by decide +kernel
theorem dX8_append_18 : decode cX8_append 18 = .ok (.invokevirtual 219, 3) := by decide +kernel
theorem dX8_append_21 : decode cX8_append 21 = .ok (.aload_n 0, 1) := by decide +kernel
theorem dX8_append_22 : decode cX8_append 22 = .ok (.iload_n 2, 1) := by decide +kernel
theorem dX8_append_23 : decode cX8_append 23 = .ok (.invokevirtual 219, 3) := by decide +kernel
theorem dX8_append_26 : decode cX8_append 26 = .ok (.aload_n 0, 1) := by decide +kernel
theorem dX8_append_27 : decode cX8_append 27 = .ok (.iload_n 3, 1) := by decide +kernel
theorem dX8_append_28 : decode cX8_append 28 = .ok (.invokevirtual 219, 3) := by decide +kernel
theorem dX8_append_31 : decode cX8_append 31 = .ok (.aload_n 0, 1) := by decide +kernel
theorem dX8_append_32 : decode cX8_append 32 = .ok (.iload 4, 2) := by decide +kernel
theorem dX8_append_34 : decode cX8_append 34 = .ok (.invokevirtual 219, 3) := by decide +kernel
theorem dX8_append_37 : decode cX8_append 37 = .ok (.aload_n 0, 1) := by decide +kernel
theorem dX8_append_38 : decode cX8_append 38 = .ok (.iload 5, 2) := by decide +kernel
theorem dX8_append_40 : decode cX8_append 40 = .ok (.invokevirtual 219, 3) := by decide +kernel
theorem dX8_append_43 : decode cX8_append 43 = .ok (.aload_n 0, 1) := by decide +kernel
theorem dX8_append_44 : decode cX8_append 44 = .ok (.aload_n 0, 1) := by decide +kernel
theorem dX8_append_45 : decode cX8_append 45 = .ok (.getfield 213, 3) := by decide +kernel
theorem dX8_append_48 : decode cX8_append 48 = .ok (.invokevirtual 222, 3) := by decide +kernel
theorem dX8_append_51 : decode cX8_append 51 = .ok (.ireturn, 1) := by decide +kernel
theorem dX8_load_0 : decode cX8_load 0 = .ok (.iload_n 1, 1) := by decide +kernel
theorem dX8_load_1 : decode cX8_load 1 = .ok (.iconst 0, 1) := by decide +kernel
theorem dX8_load_2 : decode cX8_load 2 = .ok (.aload_n 0, 1) := by decide +kernel
theorem dX8_load_3 : decode cX8_load 3 = .ok (.getfield 213, 3) := by decide +kernel
theorem dX8_load_6 : decode cX8_load 6 = .ok (.invokestatic 66, 3) := by decide +kernel
theorem dX8_load_9 : decode cX8_load 9 = .ok (.ifCond .ne 9, 3) := by decide +kernel
theorem dX8_load_12 : decode cX8_load 12 = .ok (.aload_n 0, 1) := by decide +kernel
theorem dX8_load_13 : decode cX8_load 13 = .ok (.iconst 1, 1) := by decide +kernel
theorem dX8_load_14 : decode cX8_load 14 = .ok (.invokevirtual 216, 3) := by decide +kernel
theorem dX8_load_17 : decode cX8_load 17 = .ok (.ireturn, 1) := by decide +kernel
theorem dX8_load_18 : decode cX8_load 18 = .ok (.aload_n 0, 1) := by decide +kernel
theorem dX8_load_19 : decode cX8_load 19 = .ok (.invokevirtual 225, 3) := by decide +kernel
theorem dX8_load_22 : decode cX8_load 22 = .ok (.aload_n 0, 1) := by decide +kernel
theorem dX8_load_23 : decode cX8_load 23 = .ok (.iload_n 1, 1) := by decide +kernel
theorem dX8_load_24 : decode cX8_load 24 = .ok (.invokevirtual 228, 3) := by decide +kernel
theorem dX8_load_27 : decode cX8_load 27 = .ok (.aload_n 0, 1) := by decide +kernel
theorem dX8_load_28 : decode cX8_load 28 = .ok (.iconst 0, 1) := by decide +kernel
theorem dX8_load_29 : decode cX8_load 29 = .ok (.putfield 213, 3) := by decide +kernel
theorem dX8_load_32 : decode cX8_load 32 = .ok (.aload_n 0, 1) := by decide +kernel
theorem dX8_load_33 : decode cX8_load 33 = .ok (.aload_n 0, 1) := by decide +kernel
theorem dX8_load_34 : decode cX8_load 34 = .ok (.getfield 151, 3) := by decide +kernel
theorem dX8_load_37 : decode cX8_load 37 = .ok (.putfield 231, 3) := by decide +kernel
theorem dX8_load_40 : decode cX8_load 40 = .ok (.aload_n 0, 1) := by decide +kernel
theorem dX8_load_41 : decode cX8_load 41 = .ok (.aload_n 0, 1) := by decide +kernel
theorem dX8_load_42 : decode cX8_load 42 = .ok (.getfield 151, 3) := by decide +kernel
theorem dX8_load_45 : decode cX8_load 45 = .ok (.ifCond .ne 7, 3) := by decide +kernel
theorem dX8_load_48 : decode cX8_load 48 = .ok (.iconst (-1), 1) := by decide +kernel
theorem dX8_load_49 : decode cX8_load 49 = .ok (.goto 7, 3) := by decide +kernel
theorem dX8_load_52 : decode cX8_load 52 = .ok (.aload_n 0, 1) := by decide +kernel
theorem dX8_load_53 : decode cX8_load 53 = .ok (.getfield 154, 3) := by decide +kernel
theorem dX8_load_56 : decode cX8_load 56 = .ok (.putfield 49, 3) := by decide +kernel
theorem dX8_load_59 : decode cX8_load 59 = .ok (.aload_n 0, 1) := by decide +kernel
theorem dX8_load_60 : decode cX8_load 60 = .ok (.getfield 151, 3) := by decide +kernel
theorem dX8_load_63 : decode cX8_load 63 = .ok (.ifCond .eq 13, 3) := by decide +kernel
theorem dX8_load_66 : decode cX8_load 66 = .ok (.aload_n 0, 1) := by decide +kernel
theorem dX8_load_67 : decode cX8_load 67 = .ok (.invokevirtual 234, 3) := by decide +kernel
theorem dX8_load_70 : decode cX8_load 70 = .ok (.aload_n 0, 1) := by decide +kernel
theorem dX8_load_71 : decode cX8_load 71 = .ok (.iconst 2, 1) := by decide +kernel
theorem dX8_load_72 : decode cX8_load 72 = .ok (.invokevirtual 216, 3) := by decide +kernel
theorem dX8_load_75 : decode cX8_load 75 = .ok (.ireturn, 1) := by decide +kernel
theorem dX8_load_76 : decode cX8_load 76 = .ok (.aload_n 0, 1) := by decide +kernel
theorem dX8_load_77 : decode cX8_load 77 = .ok (.iconst 0, 1) := by decide +kernel
theorem dX8_load_78 : decode cX8_load 78 = .ok (.putfield 127, 3) := by decide +kernel
theorem dX8_load_81 : decode cX8_load 81 = .ok (.aload_n 0, 1) := by decide +kernel
theorem dX8_load_82 : decode cX8_load 82 = .ok (.iconst 0, 1) := by decide +kernel
theorem dX8_load_83 : decode cX8_load 83 = .ok (.putfield 237, 3) := by decide +kernel
theorem dX8_load_86 : decode cX8_load 86 = .ok (.aload_n 0, 1) := by decide +kernel
theorem dX8_load_87 : decode cX8_load 87 = .ok (.aload_n 0, 1) := by decide +kernel
theorem dX8_load_88 : decode cX8_load 88 = .ok (.getfield 19, 3) := by decide +kernel
theorem dX8_load_91 : decode cX8_load 91 = .ok (.bipush 7, 2) := by decide +kernel
theorem dX8_load_93 : decode cX8_load 93 = .ok (.iaload, 1) := by decide +kernel
theorem dX8_load_94 : decode cX8_load 94 = .ok (.invokevirtual 222, 3) := by decide +kernel
theorem dX8_load_97 : decode cX8_load 97 = .ok (.ireturn, 1) := by decide +kernel
theorem dX8_errorKind_0 : decode cX8_errorKind 0 = .ok (.aload_n 0, 1) := by decide +kernel
theorem dX8_errorKind_1 : decode cX8_errorKind 1 = .ok (.aload_n 0, 1) := by decide +kernel
theorem dX8_errorKind_2 : decode cX8_errorKind 2 = .ok (.getfield 231, 3) := by decide +kernel
theorem dX8_errorKind_5 : decode cX8_errorKind 5 = .ok (.invokevirtual 222, 3) := by decide +kernel
theorem dX8_errorKind_8 : decode cX8_errorKind 8 = .ok (.ireturn, 1) := by decide +kernel
theorem dX8_errorOffset_0 : decode cX8_errorOffset 0 = .ok (.aload_n 0, 1) := by decide +kernel
theorem dX8_errorOffset_1 : decode cX8_errorOffset 1 = .ok (.aload_n 0, 1) := by decide +kernel
theorem dX8_errorOffset_2 : decode cX8_errorOffset 2 = .ok (.getfield 49, 3) := by decide +kernel
theorem dX8_errorOffset_5 : decode cX8_errorOffset 5 = .ok (.invokevirtual 222, 3) := by decide +kernel
theorem dX8_errorOffset_8 : decode cX8_errorOffset 8 = .ok (.ireturn, 1) := by decide +kernel
theorem dX8_day_0 : decode cX8_day 0 = .ok (.aload_n 0, 1) := by decide +kernel
theorem dX8_day_1 : decode cX8_day 1 = .ok (.aload_n 0, 1) := by decide +kernel
theorem dX8_day_2 : decode cX8_day 2 = .ok (.getfield 19, 3) := by decide +kernel
theorem dX8_day_5 : decode cX8_day 5 = .ok (.bipush 8, 2) := by decide +kernel
theorem dX8_day_7 : decode cX8_day 7 = .ok (.iaload, 1) := by decide +kernel
theorem dX8_day_8 : decode cX8_day 8 = .ok (.invokevirtual 222, 3) := by decide +kernel
theorem dX8_day_11 : decode cX8_day 11 = .ok (.ireturn, 1) := by decide +kernel
theorem dX8_lodgerCount_0 : decode cX8_lodgerCount 0 = .ok (.aload_n 0, 1) := by decide +kernel
theorem dX8_lodgerCount_1 : decode cX8_lodgerCount 1 = .ok (.aload_n 0, 1) := by decide +kernel
theorem dX8_lodgerCount_2 : decode cX8_lodgerCount 2 = .ok (.getfield 19, 3) := by decide +kernel
theorem dX8_lodgerCount_5 : decode cX8_lodgerCount 5 = .ok (.bipush 7, 2) := by decide +kernel
theorem dX8_lodgerCount_7 : decode cX8_lodgerCount 7 = .ok (.iaload, 1) := by decide +kernel
theorem dX8_lodgerCount_8 : decode cX8_lodgerCount 8 = .ok (.invokevirtual 222, 3) := by decide +kernel
theorem dX8_lodgerCount_11 : decode cX8_lodgerCount 11 = .ok (.ireturn, 1) := by decide +kernel
theorem dX8_baseRent_0 : decode cX8_baseRent 0 = .ok (.aload_n 0, 1) := by decide +kernel
theorem dX8_baseRent_1 : decode cX8_baseRent 1 = .ok (.aload_n 0, 1) := by decide +kernel
theorem dX8_baseRent_2 : decode cX8_baseRent 2 = .ok (.getfield 19, 3) := by decide +kernel
theorem dX8_baseRent_5 : decode cX8_baseRent 5 = .ok (.iconst 0, 1) := by decide +kernel
theorem dX8_baseRent_6 : decode cX8_baseRent 6 = .ok (.iaload, 1) := by decide +kernel
theorem dX8_baseRent_7 : decode cX8_baseRent 7 = .ok (.invokevirtual 222, 3) := by decide +kernel
theorem dX8_baseRent_10 : decode cX8_baseRent 10 = .ok (.ireturn, 1) := by decide +kernel
theorem dX8_tolerance_0 : decode cX8_tolerance 0 = .ok (.aload_n 0, 1) := by decide +kernel
theorem dX8_tolerance_1 : decode cX8_tolerance 1 = .ok (.aload_n 0, 1) := by decide +kernel
theorem dX8_tolerance_2 : decode cX8_tolerance 2 = .ok (.getfield 19, 3) := by decide +kernel
theorem dX8_tolerance_5 : decode cX8_tolerance 5 = .ok (.iconst 1, 1) := by decide +kernel
theorem dX8_tolerance_6 : decode cX8_tolerance 6 = .ok (.iaload, 1) := by decide +kernel
theorem dX8_tolerance_7 : decode cX8_tolerance 7 = .ok (.invokevirtual 222, 3) := by decide +kernel
theorem dX8_tolerance_10 : decode cX8_tolerance 10 = .ok (.ireturn, 1) := by decide +kernel
theorem dX8_rentOf_0 : decode cX8_rentOf 0 = .ok (.iload_n 1, 1) := by decide +kernel
theorem dX8_rentOf_1 : decode cX8_rentOf 1 = .ok (.invokestatic 240, 3) := by decide +kernel
theorem dX8_rentOf_4 : decode cX8_rentOf 4 = .ok (.ifCond .eq 15, 3) := by decide +kernel
theorem dX8_rentOf_7 : decode cX8_rentOf 7 = .ok (.aload_n 0, 1) := by decide +kernel
theorem dX8_rentOf_8 : decode cX8_rentOf 8 = .ok (.aload_n 0, 1) := by decide +kernel
theorem dX8_rentOf_9 : decode cX8_rentOf 9 = .ok (.iload_n 1, 1) := by decide +kernel
theorem dX8_rentOf_10 : decode cX8_rentOf 10 = .ok (.invokevirtual 93, 3) := by decide +kernel
theorem dX8_rentOf_13 : decode cX8_rentOf 13 = .ok (.invokevirtual 222, 3) := by decide +kernel
theorem dX8_rentOf_16 : decode cX8_rentOf 16 = .ok (.goto 8, 3) := by decide +kernel
theorem dX8_rentOf_19 : decode cX8_rentOf 19 = .ok (.aload_n 0, 1) := by decide +kernel
theorem dX8_rentOf_20 : decode cX8_rentOf 20 = .ok (.iconst 1, 1) := by decide +kernel
theorem dX8_rentOf_21 : decode cX8_rentOf 21 = .ok (.invokevirtual 216, 3) := by decide +kernel
theorem dX8_rentOf_24 : decode cX8_rentOf 24 = .ok (.ireturn, 1) := by decide +kernel
theorem dX8_landladyVowel_0 : decode cX8_landladyVowel 0 = .ok (.iload_n 1, 1) := by decide +kernel
theorem dX8_landladyVowel_1 : decode cX8_landladyVowel 1 = .ok (.invokestatic 243, 3) := by decide +kernel
theorem dX8_landladyVowel_4 : decode cX8_landladyVowel 4 = .ok (.ifCond .eq 18, 3) := by decide +kernel
theorem dX8_landladyVowel_7 : decode cX8_landladyVowel 7 = .ok (.aload_n 0, 1) := by decide +kernel
theorem dX8_landladyVowel_8 : decode cX8_landladyVowel 8 = .ok (.aload_n 0, 1) := by decide +kernel
theorem dX8_landladyVowel_9 : decode cX8_landladyVowel 9 = .ok (.getfield 19, 3) := by decide +kernel
theorem dX8_landladyVowel_12 : decode cX8_landladyVowel 12 = .ok (.iconst 2, 1) := by decide +kernel
theorem dX8_landladyVowel_13 : decode cX8_landladyVowel 13 = .ok (.iload_n 1, 1) := by decide +kernel
theorem dX8_landladyVowel_14 : decode cX8_landladyVowel 14 = .ok (.iadd, 1) := by decide +kernel
theorem dX8_landladyVowel_15 : decode cX8_landladyVowel 15 = .ok (.iaload, 1) := by decide +kernel
theorem dX8_landladyVowel_16 : decode cX8_landladyVowel 16 = .ok (.invokevirtual 222, 3) := by decide +kernel
theorem dX8_landladyVowel_19 : decode cX8_landladyVowel 19 = .ok (.goto 8, 3) := by decide +kernel
theorem dX8_landladyVowel_22 : decode cX8_landladyVowel 22 = .ok (.aload_n 0, 1) := by decide +kernel
theorem dX8_landladyVowel_23 : decode cX8_landladyVowel 23 = .ok (.iconst 1, 1) := by decide +kernel
theorem dX8_landladyVowel_24 : decode cX8_landladyVowel 24 = .ok (.invokevirtual 216, 3) := by decide +kernel
theorem dX8_landladyVowel_27 : decode cX8_landladyVowel 27 = .ok (.ireturn, 1) := by decide +kernel
theorem dX8_daysLeft_0 : decode cX8_daysLeft 0 = .ok (.bipush 7, 2) := by decide +kernel
theorem dX8_daysLeft_2 : decode cX8_daysLeft 2 = .ok (.aload_n 0, 1) := by decide +kernel
theorem dX8_daysLeft_3 : decode cX8_daysLeft 3 = .ok (.getfield 19, 3) := by decide +kernel
theorem dX8_daysLeft_6 : decode cX8_daysLeft 6 = .ok (.bipush 8, 2) := by decide +kernel
theorem dX8_daysLeft_8 : decode cX8_daysLeft 8 = .ok (.iaload, 1) := by decide +kernel
theorem dX8_daysLeft_9 : decode cX8_daysLeft 9 = .ok (.bipush 7, 2) := by decide +kernel
theorem dX8_daysLeft_11 : decode cX8_daysLeft 11 = .ok (.irem, 1) := by decide +kernel
theorem dX8_daysLeft_12 : decode cX8_daysLeft 12 = .ok (.isub, 1) := by decide +kernel
theorem dX8_daysLeft_13 : decode cX8_daysLeft 13 = .ok (.ireturn, 1) := by decide +kernel
theorem dX8_daysToInspection_0 : decode cX8_daysToInspection 0 = .ok (.aload_n 0, 1) := by decide +kernel
theorem dX8_daysToInspection_1 : decode cX8_daysToInspection 1 = .ok (.aload_n 0, 1) := by decide +kernel
theorem dX8_daysToInspection_2 : decode cX8_daysToInspection 2 = .ok (.invokevirtual 246, 3) := by decide +kernel
theorem dX8_daysToInspection_5 : decode cX8_daysToInspection 5 = .ok (.invokevirtual 222, 3) := by decide +kernel
theorem dX8_daysToInspection_8 : decode cX8_daysToInspection 8 = .ok (.ireturn, 1) := by decide +kernel
theorem dX8_evictions_0 : decode cX8_evictions 0 = .ok (.aload_n 0, 1) := by decide +kernel
theorem dX8_evictions_1 : decode cX8_evictions 1 = .ok (.aload_n 0, 1) := by decide +kernel
theorem dX8_evictions_2 : decode cX8_evictions 2 = .ok (.getfield 19, 3) := by decide +kernel
theorem dX8_evictions_5 : decode cX8_evictions 5 = .ok (.bipush 9, 2) := by decide +kernel
theorem dX8_evictions_7 : decode cX8_evictions 7 = .ok (.iaload, 1) := by decide +kernel
theorem dX8_evictions_8 : decode cX8_evictions 8 = .ok (.invokevirtual 222, 3) := by decide +kernel
theorem dX8_evictions_11 : decode cX8_evictions 11 = .ok (.ireturn, 1) := by decide +kernel
theorem dX8_undoCount_0 : decode cX8_undoCount 0 = .ok (.aload_n 0, 1) := by decide +kernel
theorem dX8_undoCount_1 : decode cX8_undoCount 1 = .ok (.aload_n 0, 1) := by decide +kernel
theorem dX8_undoCount_2 : decode cX8_undoCount 2 = .ok (.getfield 127, 3) := by decide +kernel
theorem dX8_undoCount_5 : decode cX8_undoCount 5 = .ok (.invokevirtual 222, 3) := by decide +kernel
theorem dX8_undoCount_8 : decode cX8_undoCount 8 = .ok (.ireturn, 1) := by decide +kernel
theorem dX8_ofLodger_0 : decode cX8_ofLodger 0 = .ok (.aload_n 0, 1) := by decide +kernel
theorem dX8_ofLodger_1 : decode cX8_ofLodger 1 = .ok (.iload_n 1, 1) := by decide +kernel
theorem dX8_ofLodger_2 : decode cX8_ofLodger 2 = .ok (.invokevirtual 249, 3) := by decide +kernel
theorem dX8_ofLodger_5 : decode cX8_ofLodger 5 = .ok (.ifCond .eq 21, 3) := by decide +kernel
theorem dX8_ofLodger_8 : decode cX8_ofLodger 8 = .ok (.aload_n 0, 1) := by decide +kernel
theorem dX8_ofLodger_9 : decode cX8_ofLodger 9 = .ok (.aload_n 0, 1) := by decide +kernel
theorem dX8_ofLodger_10 : decode cX8_ofLodger 10 = .ok (.getfield 19, 3) := by decide +kernel
theorem dX8_ofLodger_13 : decode cX8_ofLodger 13 = .ok (.iload_n 1, 1) := by decide +kernel
theorem dX8_ofLodger_14 : decode cX8_ofLodger 14 = .ok (.invokestatic 56, 3) := by decide +kernel
theorem dX8_ofLodger_17 : decode cX8_ofLodger 17 = .ok (.iload_n 2, 1) := by decide +kernel
theorem dX8_ofLodger_18 : decode cX8_ofLodger 18 = .ok (.iadd, 1) := by decide +kernel
theorem dX8_ofLodger_19 : decode cX8_ofLodger 19 = .ok (.iaload, 1) := by decide +kernel
theorem dX8_ofLodger_20 : decode cX8_ofLodger 20 = .ok (.invokevirtual 222, 3) := by decide +kernel
theorem dX8_ofLodger_23 : decode cX8_ofLodger 23 = .ok (.goto 8, 3) := by decide +kernel
theorem dX8_ofLodger_26 : decode cX8_ofLodger 26 = .ok (.aload_n 0, 1) := by decide +kernel
theorem dX8_ofLodger_27 : decode cX8_ofLodger 27 = .ok (.iconst 1, 1) := by decide +kernel
theorem dX8_ofLodger_28 : decode cX8_ofLodger 28 = .ok (.invokevirtual 216, 3) := by decide +kernel
theorem dX8_ofLodger_31 : decode cX8_ofLodger 31 = .ok (.ireturn, 1) := by decide +kernel
theorem dX8_floorOf_0 : decode cX8_floorOf 0 = .ok (.aload_n 0, 1) := by decide +kernel
theorem dX8_floorOf_1 : decode cX8_floorOf 1 = .ok (.iload_n 1, 1) := by decide +kernel
theorem dX8_floorOf_2 : decode cX8_floorOf 2 = .ok (.iconst 0, 1) := by decide +kernel
theorem dX8_floorOf_3 : decode cX8_floorOf 3 = .ok (.invokevirtual 252, 3) := by decide +kernel
theorem dX8_floorOf_6 : decode cX8_floorOf 6 = .ok (.ireturn, 1) := by decide +kernel
theorem dX8_balanceOf_0 : decode cX8_balanceOf 0 = .ok (.aload_n 0, 1) := by decide +kernel
theorem dX8_balanceOf_1 : decode cX8_balanceOf 1 = .ok (.iload_n 1, 1) := by decide +kernel
theorem dX8_balanceOf_2 : decode cX8_balanceOf 2 = .ok (.iconst 1, 1) := by decide +kernel
theorem dX8_balanceOf_3 : decode cX8_balanceOf 3 = .ok (.invokevirtual 252, 3) := by decide +kernel
theorem dX8_balanceOf_6 : decode cX8_balanceOf 6 = .ok (.ireturn, 1) := by decide +kernel
theorem dX8_vowelOf_0 : decode cX8_vowelOf 0 = .ok (.iload_n 2, 1) := by decide +kernel
theorem dX8_vowelOf_1 : decode cX8_vowelOf 1 = .ok (.invokestatic 243, 3) := by decide +kernel
theorem dX8_vowelOf_4 : decode cX8_vowelOf 4 = .ok (.ifCond .eq 14, 3) := by decide +kernel
theorem dX8_vowelOf_7 : decode cX8_vowelOf 7 = .ok (.aload_n 0, 1) := by decide +kernel
theorem dX8_vowelOf_8 : decode cX8_vowelOf 8 = .ok (.iload_n 1, 1) := by decide +kernel
theorem dX8_vowelOf_9 : decode cX8_vowelOf 9 = .ok (.iconst 5, 1) := by decide +kernel
theorem dX8_vowelOf_10 : decode cX8_vowelOf 10 = .ok (.iload_n 2, 1) := by decide +kernel
theorem dX8_vowelOf_11 : decode cX8_vowelOf 11 = .ok (.iadd, 1) := by decide +kernel
theorem dX8_vowelOf_12 : decode cX8_vowelOf 12 = .ok (.invokevirtual 252, 3) := by decide +kernel
theorem dX8_vowelOf_15 : decode cX8_vowelOf 15 = .ok (.goto 8, 3) := by decide +kernel
theorem dX8_vowelOf_18 : decode cX8_vowelOf 18 = .ok (.aload_n 0, 1) := by decide +kernel
theorem dX8_vowelOf_19 : decode cX8_vowelOf 19 = .ok (.iconst 1, 1) := by decide +kernel
theorem dX8_vowelOf_20 : decode cX8_vowelOf 20 = .ok (.invokevirtual 216, 3) := by decide +kernel
theorem dX8_vowelOf_23 : decode cX8_vowelOf 23 = .ok (.ireturn, 1) := by decide +kernel
theorem dX8_lessonsOf_0 : decode cX8_lessonsOf 0 = .ok (.aload_n 0, 1) := by decide +kernel
theorem dX8_lessonsOf_1 : decode cX8_lessonsOf 1 = .ok (.iload_n 1, 1) := by decide +kernel
theorem dX8_lessonsOf_2 : decode cX8_lessonsOf 2 = .ok (.iconst 2, 1) := by decide +kernel
theorem dX8_lessonsOf_3 : decode cX8_lessonsOf 3 = .ok (.invokevirtual 252, 3) := by decide +kernel
theorem dX8_lessonsOf_6 : decode cX8_lessonsOf 6 = .ok (.ireturn, 1) := by decide +kernel
theorem dX8_slipsOf_0 : decode cX8_slipsOf 0 = .ok (.aload_n 0, 1) := by decide +kernel
theorem dX8_slipsOf_1 : decode cX8_slipsOf 1 = .ok (.iload_n 1, 1) := by decide +kernel
theorem dX8_slipsOf_2 : decode cX8_slipsOf 2 = .ok (.iconst 3, 1) := by decide +kernel
theorem dX8_slipsOf_3 : decode cX8_slipsOf 3 = .ok (.invokevirtual 252, 3) := by decide +kernel
theorem dX8_slipsOf_6 : decode cX8_slipsOf 6 = .ok (.ireturn, 1) := by decide +kernel
theorem dX8_daysStayed_0 : decode cX8_daysStayed 0 = .ok (.aload_n 0, 1) := by decide +kernel
theorem dX8_daysStayed_1 : decode cX8_daysStayed 1 = .ok (.iload_n 1, 1) := by decide +kernel
theorem dX8_daysStayed_2 : decode cX8_daysStayed 2 = .ok (.invokevirtual 249, 3) := by decide +kernel
theorem dX8_daysStayed_5 : decode cX8_daysStayed 5 = .ok (.ifCond .eq 29, 3) := by decide +kernel
theorem dX8_daysStayed_8 : decode cX8_daysStayed 8 = .ok (.aload_n 0, 1) := by decide +kernel
theorem dX8_daysStayed_9 : decode cX8_daysStayed 9 = .ok (.aload_n 0, 1) := by decide +kernel
theorem dX8_daysStayed_10 : decode cX8_daysStayed 10 = .ok (.getfield 19, 3) := by decide +kernel
theorem dX8_daysStayed_13 : decode cX8_daysStayed 13 = .ok (.bipush 8, 2) := by decide +kernel
theorem dX8_daysStayed_15 : decode cX8_daysStayed 15 = .ok (.iaload, 1) := by decide +kernel
theorem dX8_daysStayed_16 : decode cX8_daysStayed 16 = .ok (.aload_n 0, 1) := by decide +kernel
theorem dX8_daysStayed_17 : decode cX8_daysStayed 17 = .ok (.getfield 19, 3) := by decide +kernel
theorem dX8_daysStayed_20 : decode cX8_daysStayed 20 = .ok (.iload_n 1, 1) := by decide +kernel
theorem dX8_daysStayed_21 : decode cX8_daysStayed 21 = .ok (.invokestatic 56, 3) := by decide +kernel
theorem dX8_daysStayed_24 : decode cX8_daysStayed 24 = .ok (.iconst 4, 1) := by decide +kernel
theorem dX8_daysStayed_25 : decode cX8_daysStayed 25 = .ok (.iadd, 1) := by decide +kernel
theorem dX8_daysStayed_26 : decode cX8_daysStayed 26 = .ok (.iaload, 1) := by decide +kernel
theorem dX8_daysStayed_27 : decode cX8_daysStayed 27 = .ok (.isub, 1) := by decide +kernel
theorem dX8_daysStayed_28 : decode cX8_daysStayed 28 = .ok (.invokevirtual 222, 3) := by decide +kernel
theorem dX8_daysStayed_31 : decode cX8_daysStayed 31 = .ok (.goto 8, 3) := by decide +kernel
theorem dX8_daysStayed_34 : decode cX8_daysStayed 34 = .ok (.aload_n 0, 1) := by decide +kernel
theorem dX8_daysStayed_35 : decode cX8_daysStayed 35 = .ok (.iconst 1, 1) := by decide +kernel
theorem dX8_daysStayed_36 : decode cX8_daysStayed 36 = .ok (.invokevirtual 216, 3) := by decide +kernel
theorem dX8_daysStayed_39 : decode cX8_daysStayed 39 = .ok (.ireturn, 1) := by decide +kernel
theorem dX8_lettersOf_0 : decode cX8_lettersOf 0 = .ok (.iconst 0, 1) := by decide +kernel
theorem dX8_lettersOf_1 : decode cX8_lettersOf 1 = .ok (.istore_n 2, 1) := by decide +kernel
theorem dX8_lettersOf_2 : decode cX8_lettersOf 2 = .ok (.iload_n 2, 1) := by decide +kernel
theorem dX8_lettersOf_3 : decode cX8_lettersOf 3 = .ok (.bipush 6, 2) := by decide +kernel
theorem dX8_lettersOf_5 : decode cX8_lettersOf 5 = .ok (.if_icmp .ge 26, 3) := by decide +kernel
theorem dX8_lettersOf_8 : decode cX8_lettersOf 8 = .ok (.aload_n 0, 1) := by decide +kernel
theorem dX8_lettersOf_9 : decode cX8_lettersOf 9 = .ok (.getfield 19, 3) := by decide +kernel
theorem dX8_lettersOf_12 : decode cX8_lettersOf 12 = .ok (.iload_n 1, 1) := by decide +kernel
theorem dX8_lettersOf_13 : decode cX8_lettersOf 13 = .ok (.invokestatic 56, 3) := by decide +kernel
theorem dX8_lettersOf_16 : decode cX8_lettersOf 16 = .ok (.bipush 10, 2) := by decide +kernel
theorem dX8_lettersOf_18 : decode cX8_lettersOf 18 = .ok (.iadd, 1) := by decide +kernel
theorem dX8_lettersOf_19 : decode cX8_lettersOf 19 = .ok (.iload_n 2, 1) := by decide +kernel
theorem dX8_lettersOf_20 : decode cX8_lettersOf 20 = .ok (.iadd, 1) := by decide +kernel
theorem dX8_lettersOf_21 : decode cX8_lettersOf 21 = .ok (.iaload, 1) := by decide +kernel
theorem dX8_lettersOf_22 : decode cX8_lettersOf 22 = .ok (.ifCond .eq 9, 3) := by decide +kernel
theorem dX8_lettersOf_25 : decode cX8_lettersOf 25 = .ok (.iinc 2 1, 3) := by decide +kernel
theorem dX8_lettersOf_28 : decode cX8_lettersOf 28 = .ok (.goto (-26), 3) := by decide +kernel
theorem dX8_lettersOf_31 : decode cX8_lettersOf 31 = .ok (.iload_n 2, 1) := by decide +kernel
theorem dX8_lettersOf_32 : decode cX8_lettersOf 32 = .ok (.ireturn, 1) := by decide +kernel
theorem dX8_nameLength_0 : decode cX8_nameLength 0 = .ok (.aload_n 0, 1) := by decide +kernel
theorem dX8_nameLength_1 : decode cX8_nameLength 1 = .ok (.iload_n 1, 1) := by decide +kernel
theorem dX8_nameLength_2 : decode cX8_nameLength 2 = .ok (.invokevirtual 249, 3) := by decide +kernel
theorem dX8_nameLength_5 : decode cX8_nameLength 5 = .ok (.ifCond .eq 15, 3) := by decide +kernel
theorem dX8_nameLength_8 : decode cX8_nameLength 8 = .ok (.aload_n 0, 1) := by decide +kernel
theorem dX8_nameLength_9 : decode cX8_nameLength 9 = .ok (.aload_n 0, 1) := by decide +kernel
theorem dX8_nameLength_10 : decode cX8_nameLength 10 = .ok (.iload_n 1, 1) := by decide +kernel
theorem dX8_nameLength_11 : decode cX8_nameLength 11 = .ok (.invokevirtual 255, 3) := by decide +kernel
theorem dX8_nameLength_14 : decode cX8_nameLength 14 = .ok (.invokevirtual 222, 3) := by decide +kernel
theorem dX8_nameLength_17 : decode cX8_nameLength 17 = .ok (.goto 8, 3) := by decide +kernel
theorem dX8_nameLength_20 : decode cX8_nameLength 20 = .ok (.aload_n 0, 1) := by decide +kernel
theorem dX8_nameLength_21 : decode cX8_nameLength 21 = .ok (.iconst 1, 1) := by decide +kernel
theorem dX8_nameLength_22 : decode cX8_nameLength 22 = .ok (.invokevirtual 216, 3) := by decide +kernel
theorem dX8_nameLength_25 : decode cX8_nameLength 25 = .ok (.ireturn, 1) := by decide +kernel
theorem dX8_nameLetter_0 : decode cX8_nameLetter 0 = .ok (.aload_n 0, 1) := by decide +kernel
theorem dX8_nameLetter_1 : decode cX8_nameLetter 1 = .ok (.iload_n 1, 1) := by decide +kernel
theorem dX8_nameLetter_2 : decode cX8_nameLetter 2 = .ok (.invokevirtual 249, 3) := by decide +kernel
theorem dX8_nameLetter_5 : decode cX8_nameLetter 5 = .ok (.ifCond .eq 18, 3) := by decide +kernel
theorem dX8_nameLetter_8 : decode cX8_nameLetter 8 = .ok (.iload_n 2, 1) := by decide +kernel
theorem dX8_nameLetter_9 : decode cX8_nameLetter 9 = .ok (.iconst 0, 1) := by decide +kernel
theorem dX8_nameLetter_10 : decode cX8_nameLetter 10 = .ok (.aload_n 0, 1) := by decide +kernel
theorem dX8_nameLetter_11 : decode cX8_nameLetter 11 = .ok (.iload_n 1, 1) := by decide +kernel
theorem dX8_nameLetter_12 : decode cX8_nameLetter 12 = .ok (.invokevirtual 255, 3) := by decide +kernel
theorem dX8_nameLetter_15 : decode cX8_nameLetter 15 = .ok (.iconst 1, 1) := by decide +kernel
theorem dX8_nameLetter_16 : decode cX8_nameLetter 16 = .ok (.isub, 1) := by decide +kernel
theorem dX8_nameLetter_17 : decode cX8_nameLetter 17 = .ok (.invokestatic 66, 3) := by decide +kernel
theorem dX8_nameLetter_20 : decode cX8_nameLetter 20 = .ok (.ifCond .ne 10, 3) := by decide +kernel
theorem dX8_nameLetter_23 : decode cX8_nameLetter 23 = .ok (.aload_n 0, 1) := by decide +kernel
theorem dX8_nameLetter_24 : decode cX8_nameLetter 24 = .ok (.iconst 1, 1) := by decide +kernel
theorem dX8_nameLetter_25 : decode cX8_nameLetter 25 = .ok (.putfield 63, 3) := by decide +kernel
theorem dX8_nameLetter_28 : decode cX8_nameLetter 28 = .ok (.iconst 0, 1) := by decide +kernel
theorem dX8_nameLetter_29 : decode cX8_nameLetter 29 = .ok (.ireturn, 1) := by decide +kernel
theorem dX8_nameLetter_30 : decode cX8_nameLetter 30 = .ok (.aload_n 0, 1) := by decide +kernel
theorem dX8_nameLetter_31 : decode cX8_nameLetter 31 = .ok (.iconst 0, 1) := by decide +kernel
theorem dX8_nameLetter_32 : decode cX8_nameLetter 32 = .ok (.putfield 63, 3) := by decide +kernel
theorem dX8_nameLetter_35 : decode cX8_nameLetter 35 = .ok (.aload_n 0, 1) := by decide +kernel
theorem dX8_nameLetter_36 : decode cX8_nameLetter 36 = .ok (.getfield 19, 3) := by decide +kernel
theorem dX8_nameLetter_39 : decode cX8_nameLetter 39 = .ok (.iload_n 1, 1) := by decide +kernel
theorem dX8_nameLetter_40 : decode cX8_nameLetter 40 = .ok (.invokestatic 56, 3) := by decide +kernel
theorem dX8_nameLetter_43 : decode cX8_nameLetter 43 = .ok (.bipush 10, 2) := by decide +kernel
theorem dX8_nameLetter_45 : decode cX8_nameLetter 45 = .ok (.iadd, 1) := by decide +kernel
theorem dX8_nameLetter_46 : decode cX8_nameLetter 46 = .ok (.iload_n 2, 1) := by decide +kernel
theorem dX8_nameLetter_47 : decode cX8_nameLetter 47 = .ok (.iadd, 1) := by decide +kernel
theorem dX8_nameLetter_48 : decode cX8_nameLetter 48 = .ok (.iaload, 1) := by decide +kernel
theorem dX8_nameLetter_49 : decode cX8_nameLetter 49 = .ok (.i2c, 1) := by decide +kernel
theorem dX8_nameLetter_50 : decode cX8_nameLetter 50 = .ok (.ireturn, 1) := by decide +kernel
theorem dX8_findByName_0 : decode cX8_findByName 0 = .ok (.iconst 0, 1) := by decide +kernel
theorem dX8_findByName_1 : decode cX8_findByName 1 = .ok (.istore_n 1, 1) := by decide +kernel
theorem dX8_findByName_2 : decode cX8_findByName 2 = .ok (.aload_n 0, 1) := by decide +kernel
theorem dX8_findByName_3 : decode cX8_findByName 3 = .ok (.getfield 213, 3) := by decide +kernel
theorem dX8_findByName_6 : decode cX8_findByName 6 = .ok (.istore_n 2, 1) := by decide +kernel
theorem dX8_findByName_7 : decode cX8_findByName 7 = .ok (.iload_n 1, 1) := by decide +kernel
theorem dX8_findByName_8 : decode cX8_findByName 8 = .ok (.iload_n 2, 1) := by decide +kernel
theorem dX8_findByName_9 : decode cX8_findByName 9 = .ok (.if_icmp .ge 20, 3) := by decide +kernel
theorem dX8_findByName_12 : decode cX8_findByName 12 = .ok (.aload_n 0, 1) := by decide +kernel
theorem dX8_findByName_13 : decode cX8_findByName 13 = .ok (.getfield 41, 3) := by decide +kernel
theorem dX8_findByName_16 : decode cX8_findByName 16 = .ok (.iload_n 1, 1) := by decide +kernel
theorem dX8_findByName_17 : decode cX8_findByName 17 = .ok (.baload, 1) := by decide +kernel
theorem dX8_findByName_18 : decode cX8_findByName 18 = .ok (.bipush 32, 2) := by decide +kernel
theorem dX8_findByName_20 : decode cX8_findByName 20 = .ok (.if_icmp .ne 9, 3) := by decide +kernel
theorem dX8_findByName_23 : decode cX8_findByName 23 = .ok (.iinc 1 1, 3) := by decide +kernel
theorem dX8_findByName_26 : decode cX8_findByName 26 = .ok (.goto (-19), 3) := by decide +kernel
theorem dX8_findByName_29 : decode cX8_findByName 29 = .ok (.iload_n 2, 1) := by decide +kernel
theorem dX8_findByName_30 : decode cX8_findByName 30 = .ok (.iload_n 1, 1) := by decide +kernel
theorem dX8_findByName_31 : decode cX8_findByName 31 = .ok (.if_icmp .le 22, 3) := by decide +kernel
theorem dX8_findByName_34 : decode cX8_findByName 34 = .ok (.aload_n 0, 1) := by decide +kernel
theorem dX8_findByName_35 : decode cX8_findByName 35 = .ok (.getfield 41, 3) := by decide +kernel
theorem dX8_findByName_38 : decode cX8_findByName 38 = .ok (.iload_n 2, 1) := by decide +kernel
theorem dX8_findByName_39 : decode cX8_findByName 39 = .ok (.iconst 1, 1) := by decide +kernel
theorem dX8_findByName_40 : decode cX8_findByName 40 = .ok (.isub, 1) := by decide +kernel
theorem dX8_findByName_41 : decode cX8_findByName 41 = .ok (.baload, 1) := by decide +kernel
theorem dX8_findByName_42 : decode cX8_findByName 42 = .ok (.bipush 32, 2) := by decide +kernel
theorem dX8_findByName_44 : decode cX8_findByName 44 = .ok (.if_icmp .ne 9, 3) := by decide +kernel
theorem dX8_findByName_47 : decode cX8_findByName 47 = .ok (.iinc 2 (-1), 3) := by decide +kernel
theorem dX8_findByName_50 : decode cX8_findByName 50 = .ok (.goto (-21), 3) := by decide +kernel
theorem dX8_findByName_53 : decode cX8_findByName 53 = .ok (.aload_n 0, 1) := by decide +kernel
theorem dX8_findByName_54 : decode cX8_findByName 54 = .ok (.aload_n 0, 1) := by decide +kernel
theorem dX8_findByName_55 : decode cX8_findByName 55 = .ok (.iload_n 1, 1) := by decide +kernel
theorem dX8_findByName_56 : decode cX8_findByName 56 = .ok (.iload_n 2, 1) := by decide +kernel
theorem dX8_findByName_57 : decode cX8_findByName 57 = .ok (.invokevirtual 178, 3) := by decide +kernel
theorem dX8_findByName_60 : decode cX8_findByName 60 = .ok (.invokevirtual 222, 3) := by decide +kernel
theorem dX8_findByName_63 : decode cX8_findByName 63 = .ok (.ireturn, 1) := by decide +kernel
theorem dX8_lodgersOn_0 : decode cX8_lodgersOn 0 = .ok (.iload_n 1, 1) := by decide +kernel
theorem dX8_lodgersOn_1 : decode cX8_lodgersOn 1 = .ok (.invokestatic 240, 3) := by decide +kernel
theorem dX8_lodgersOn_4 : decode cX8_lodgersOn 4 = .ok (.ifCond .eq 16, 3) := by decide +kernel
theorem dX8_lodgersOn_7 : decode cX8_lodgersOn 7 = .ok (.aload_n 0, 1) := by decide +kernel
theorem dX8_lodgersOn_8 : decode cX8_lodgersOn 8 = .ok (.aload_n 0, 1) := by decide +kernel
theorem dX8_lodgersOn_9 : decode cX8_lodgersOn 9 = .ok (.iload_n 1, 1) := by decide +kernel
theorem dX8_lodgersOn_10 : decode cX8_lodgersOn 10 = .ok (.iconst (-1), 1) := by decide +kernel
theorem dX8_lodgersOn_11 : decode cX8_lodgersOn 11 = .ok (.invokevirtual 80, 3) := by decide +kernel
theorem dX8_lodgersOn_14 : decode cX8_lodgersOn 14 = .ok (.invokevirtual 222, 3) := by decide +kernel
theorem dX8_lodgersOn_17 : decode cX8_lodgersOn 17 = .ok (.goto 8, 3) := by decide +kernel
theorem dX8_lodgersOn_20 : decode cX8_lodgersOn 20 = .ok (.aload_n 0, 1) := by decide +kernel
theorem dX8_lodgersOn_21 : decode cX8_lodgersOn 21 = .ok (.iconst 1, 1) := by decide +kernel
theorem dX8_lodgersOn_22 : decode cX8_lodgersOn 22 = .ok (.invokevirtual 216, 3) := by decide +kernel
theorem dX8_lodgersOn_25 : decode cX8_lodgersOn 25 = .ok (.ireturn, 1) := by decide +kernel
theorem dX8_lodgerOn_0 : decode cX8_lodgerOn 0 = .ok (.iload_n 1, 1) := by decide +kernel
theorem dX8_lodgerOn_1 : decode cX8_lodgerOn 1 = .ok (.invokestatic 240, 3) := by decide +kernel
theorem dX8_lodgerOn_4 : decode cX8_lodgerOn 4 = .ok (.ifCond .eq 7, 3) := by decide +kernel
theorem dX8_lodgerOn_7 : decode cX8_lodgerOn 7 = .ok (.iload_n 2, 1) := by decide +kernel
theorem dX8_lodgerOn_8 : decode cX8_lodgerOn 8 = .ok (.ifCond .ge 9, 3) := by decide +kernel
theorem dX8_lodgerOn_11 : decode cX8_lodgerOn 11 = .ok (.aload_n 0, 1) := by decide +kernel
theorem dX8_lodgerOn_12 : decode cX8_lodgerOn 12 = .ok (.iconst 1, 1) := by decide +kernel
theorem dX8_lodgerOn_13 : decode cX8_lodgerOn 13 = .ok (.invokevirtual 216, 3) := by decide +kernel
theorem dX8_lodgerOn_16 : decode cX8_lodgerOn 16 = .ok (.ireturn, 1) := by decide +kernel
theorem dX8_lodgerOn_17 : decode cX8_lodgerOn 17 = .ok (.iload_n 2, 1) := by decide +kernel
theorem dX8_lodgerOn_18 : decode cX8_lodgerOn 18 = .ok (.istore_n 3, 1) := by decide +kernel
theorem dX8_lodgerOn_19 : decode cX8_lodgerOn 19 = .ok (.iconst 0, 1) := by decide +kernel
theorem dX8_lodgerOn_20 : decode cX8_lodgerOn 20 = .ok (.istore 4, 2) := by decide +kernel
theorem dX8_lodgerOn_22 : decode cX8_lodgerOn 22 = .ok (.iload 4, 2) := by decide +kernel
theorem dX8_lodgerOn_24 : decode cX8_lodgerOn 24 = .ok (.aload_n 0, 1) := by decide +kernel
theorem dX8_lodgerOn_25 : decode cX8_lodgerOn 25 = .ok (.getfield 19, 3) := by decide +kernel
theorem dX8_lodgerOn_28 : decode cX8_lodgerOn 28 = .ok (.bipush 7, 2) := by decide +kernel
theorem dX8_lodgerOn_30 : decode cX8_lodgerOn 30 = .ok (.iaload, 1) := by decide +kernel
theorem dX8_lodgerOn_31 : decode cX8_lodgerOn 31 = .ok (.if_icmp .ge 39, 3) := by decide +kernel
theorem dX8_lodgerOn_34 : decode cX8_lodgerOn 34 = .ok (.aload_n 0, 1) := by decide +kernel
theorem dX8_lodgerOn_35 : decode cX8_lodgerOn 35 = .ok (.getfield 19, 3) := by decide +kernel
theorem dX8_lodgerOn_38 : decode cX8_lodgerOn 38 = .ok (.iload 4, 2) := by decide +kernel
theorem dX8_lodgerOn_40 : decode cX8_lodgerOn 40 = .ok (.invokestatic 56, 3) := by decide +kernel
theorem dX8_lodgerOn_43 : decode cX8_lodgerOn 43 = .ok (.iconst 0, 1) := by decide +kernel
theorem dX8_lodgerOn_44 : decode cX8_lodgerOn 44 = .ok (.iadd, 1) := by decide +kernel
theorem dX8_lodgerOn_45 : decode cX8_lodgerOn 45 = .ok (.iaload, 1) := by decide +kernel
theorem dX8_lodgerOn_46 : decode cX8_lodgerOn 46 = .ok (.iload_n 1, 1) := by decide +kernel
theorem dX8_lodgerOn_47 : decode cX8_lodgerOn 47 = .ok (.if_icmp .ne 17, 3) := by decide +kernel
theorem dX8_lodgerOn_50 : decode cX8_lodgerOn 50 = .ok (.iload_n 3, 1) := by decide +kernel
theorem dX8_lodgerOn_51 : decode cX8_lodgerOn 51 = .ok (.ifCond .ne 10, 3) := by decide +kernel
theorem dX8_lodgerOn_54 : decode cX8_lodgerOn 54 = .ok (.aload_n 0, 1) := by decide +kernel
theorem dX8_lodgerOn_55 : decode cX8_lodgerOn 55 = .ok (.iload 4, 2) := by decide +kernel
theorem dX8_lodgerOn_57 : decode cX8_lodgerOn 57 = .ok (.invokevirtual 222, 3) := by decide +kernel
theorem dX8_lodgerOn_60 : decode cX8_lodgerOn 60 = .ok (.ireturn, 1) := by decide +kernel
theorem dX8_lodgerOn_61 : decode cX8_lodgerOn 61 = .ok (.iinc 3 (-1), 3) := by decide +kernel
theorem dX8_lodgerOn_64 : decode cX8_lodgerOn 64 = .ok (.iinc 4 1, 3) := by decide +kernel
theorem dX8_lodgerOn_67 : decode cX8_lodgerOn 67 = .ok (.goto (-45), 3) := by decide +kernel
theorem dX8_lodgerOn_70 : decode cX8_lodgerOn 70 = .ok (.aload_n 0, 1) := by decide +kernel
theorem dX8_lodgerOn_71 : decode cX8_lodgerOn 71 = .ok (.iconst 1, 1) := by decide +kernel
theorem dX8_lodgerOn_72 : decode cX8_lodgerOn 72 = .ok (.invokevirtual 216, 3) := by decide +kernel
theorem dX8_lodgerOn_75 : decode cX8_lodgerOn 75 = .ok (.ireturn, 1) := by decide +kernel
theorem dX8_averageVowel_0 : decode cX8_averageVowel 0 = .ok (.iload_n 1, 1) := by decide +kernel
theorem dX8_averageVowel_1 : decode cX8_averageVowel 1 = .ok (.invokestatic 240, 3) := by decide +kernel
theorem dX8_averageVowel_4 : decode cX8_averageVowel 4 = .ok (.ifCond .eq 10, 3) := by decide +kernel
theorem dX8_averageVowel_7 : decode cX8_averageVowel 7 = .ok (.iload_n 2, 1) := by decide +kernel
theorem dX8_averageVowel_8 : decode cX8_averageVowel 8 = .ok (.invokestatic 243, 3) := by decide +kernel
theorem dX8_averageVowel_11 : decode cX8_averageVowel 11 = .ok (.ifCond .ne 9, 3) := by decide +kernel
theorem dX8_averageVowel_14 : decode cX8_averageVowel 14 = .ok (.aload_n 0, 1) := by decide +kernel
theorem dX8_averageVowel_15 : decode cX8_averageVowel 15 = .ok (.iconst 1, 1) := by decide +kernel
theorem dX8_averageVowel_16 : decode cX8_averageVowel 16 = .ok (.invokevirtual 216, 3) := by decide +kernel
theorem dX8_averageVowel_19 : decode cX8_averageVowel 19 = .ok (.ireturn, 1) := by decide +kernel
theorem dX8_averageVowel_20 : decode cX8_averageVowel 20 = .ok (.aload_n 0, 1) := by decide +kernel
theorem dX8_averageVowel_21 : decode cX8_averageVowel 21 = .ok (.iload_n 1, 1) := by decide +kernel
theorem dX8_averageVowel_22 : decode cX8_averageVowel 22 = .ok (.iconst (-1), 1) := by decide +kernel
theorem dX8_averageVowel_23 : decode cX8_averageVowel 23 = .ok (.invokevirtual 80, 3) := by decide +kernel
theorem dX8_averageVowel_26 : decode cX8_averageVowel 26 = .ok (.ifCond .ne 9, 3) := by decide +kernel
theorem dX8_averageVowel_29 : decode cX8_averageVowel 29 = .ok (.aload_n 0, 1) := by decide +kernel
theorem dX8_averageVowel_30 : decode cX8_averageVowel 30 = .ok (.iconst 2, 1) := by decide +kernel
theorem dX8_averageVowel_31 : decode cX8_averageVowel 31 = .ok (.invokevirtual 216, 3) := by decide +kernel
theorem dX8_averageVowel_34 : decode cX8_averageVowel 34 = .ok (.ireturn, 1) := by decide +kernel
theorem dX8_averageVowel_35 : decode cX8_averageVowel 35 = .ok (.aload_n 0, 1) := by decide +kernel
theorem dX8_averageVowel_36 : decode cX8_averageVowel 36 = .ok (.aload_n 0, 1) := by decide +kernel
theorem dX8_averageVowel_37 : decode cX8_averageVowel 37 = .ok (.iload_n 1, 1) := by decide +kernel
theorem dX8_averageVowel_38 : decode cX8_averageVowel 38 = .ok (.iload_n 2, 1) := by decide +kernel
theorem dX8_averageVowel_39 : decode cX8_averageVowel 39 = .ok (.invokevirtual 83, 3) := by decide +kernel
theorem dX8_averageVowel_42 : decode cX8_averageVowel 42 = .ok (.invokevirtual 222, 3) := by decide +kernel
theorem dX8_averageVowel_45 : decode cX8_averageVowel 45 = .ok (.ireturn, 1) := by decide +kernel
theorem dX8_distanceToLandlady_0 : decode cX8_distanceToLandlady 0 = .ok (.aload_n 0, 1) := by decide +kernel
theorem dX8_distanceToLandlady_1 : decode cX8_distanceToLandlady 1 = .ok (.iload_n 1, 1) := by decide +kernel
theorem dX8_distanceToLandlady_2 : decode cX8_distanceToLandlady 2 = .ok (.invokevirtual 249, 3) := by decide +kernel
theorem dX8_distanceToLandlady_5 : decode cX8_distanceToLandlady 5 = .ok (.ifCond .eq 15, 3) := by decide +kernel
theorem dX8_distanceToLandlady_8 : decode cX8_distanceToLandlady 8 = .ok (.aload_n 0, 1) := by decide +kernel
theorem dX8_distanceToLandlady_9 : decode cX8_distanceToLandlady 9 = .ok (.aload_n 0, 1) := by decide +kernel
theorem dX8_distanceToLandlady_10 : decode cX8_distanceToLandlady 10 = .ok (.iload_n 1, 1) := by decide +kernel
theorem dX8_distanceToLandlady_11 : decode cX8_distanceToLandlady 11 = .ok (.invokevirtual 86, 3) := by decide +kernel
theorem dX8_distanceToLandlady_14 : decode cX8_distanceToLandlady 14 = .ok (.invokevirtual 222, 3) := by decide +kernel
theorem dX8_distanceToLandlady_17 : decode cX8_distanceToLandlady 17 = .ok (.goto 8, 3) := by decide +kernel
theorem dX8_distanceToLandlady_20 : decode cX8_distanceToLandlady 20 = .ok (.aload_n 0, 1) := by decide +kernel
theorem dX8_distanceToLandlady_21 : decode cX8_distanceToLandlady 21 = .ok (.iconst 1, 1) := by decide +kernel
theorem dX8_distanceToLandlady_22 : decode cX8_distanceToLandlady 22 = .ok (.invokevirtual 216, 3) := by decide +kernel
theorem dX8_distanceToLandlady_25 : decode cX8_distanceToLandlady 25 = .ok (.ireturn, 1) := by decide +kernel
theorem dX8_distance_0 : decode cX8_distance 0 = .ok (.aload_n 0, 1) := by decide +kernel
theorem dX8_distance_1 : decode cX8_distance 1 = .ok (.iload_n 1, 1) := by decide +kernel
theorem dX8_distance_2 : decode cX8_distance 2 = .ok (.invokevirtual 249, 3) := by decide +kernel
theorem dX8_distance_5 : decode cX8_distance 5 = .ok (.ifCond .eq 24, 3) := by decide +kernel
theorem dX8_distance_8 : decode cX8_distance 8 = .ok (.aload_n 0, 1) := by decide +kernel
theorem dX8_distance_9 : decode cX8_distance 9 = .ok (.iload_n 2, 1) := by decide +kernel
theorem dX8_distance_10 : decode cX8_distance 10 = .ok (.invokevirtual 249, 3) := by decide +kernel
theorem dX8_distance_13 : decode cX8_distance 13 = .ok (.ifCond .eq 16, 3) := by decide +kernel
theorem dX8_distance_16 : decode cX8_distance 16 = .ok (.aload_n 0, 1) := by decide +kernel
theorem dX8_distance_17 : decode cX8_distance 17 = .ok (.aload_n 0, 1) := by decide +kernel
theorem dX8_distance_18 : decode cX8_distance 18 = .ok (.iload_n 1, 1) := by decide +kernel
theorem dX8_distance_19 : decode cX8_distance 19 = .ok (.iload_n 2, 1) := by decide +kernel
theorem dX8_distance_20 : decode cX8_distance 20 = .ok (.invokevirtual 258, 3) := by decide +kernel
theorem dX8_distance_23 : decode cX8_distance 23 = .ok (.invokevirtual 222, 3) := by decide +kernel
theorem dX8_distance_26 : decode cX8_distance 26 = .ok (.goto 8, 3) := by decide +kernel
theorem dX8_distance_29 : decode cX8_distance 29 = .ok (.aload_n 0, 1) := by decide +kernel
theorem dX8_distance_30 : decode cX8_distance 30 = .ok (.iconst 1, 1) := by decide +kernel
theorem dX8_distance_31 : decode cX8_distance 31 = .ok (.invokevirtual 216, 3) := by decide +kernel
theorem dX8_distance_34 : decode cX8_distance 34 = .ok (.ireturn, 1) := by decide +kernel
theorem dX8_refuses_0 : decode cX8_refuses 0 = .ok (.aload_n 0, 1) := by decide +kernel
theorem dX8_refuses_1 : decode cX8_refuses 1 = .ok (.iconst 1, 1) := by decide +kernel
theorem dX8_refuses_2 : decode cX8_refuses 2 = .ok (.putfield 63, 3) := by decide +kernel
theorem dX8_refuses_5 : decode cX8_refuses 5 = .ok (.iconst 0, 1) := by decide +kernel
theorem dX8_refuses_6 : decode cX8_refuses 6 = .ok (.ireturn, 1) := by decide +kernel
theorem dX8_rhymes_0 : decode cX8_rhymes 0 = .ok (.aload_n 0, 1) := by decide +kernel
theorem dX8_rhymes_1 : decode cX8_rhymes 1 = .ok (.iload_n 1, 1) := by decide +kernel
theorem dX8_rhymes_2 : decode cX8_rhymes 2 = .ok (.invokevirtual 249, 3) := by decide +kernel
theorem dX8_rhymes_5 : decode cX8_rhymes 5 = .ok (.ifCond .eq 24, 3) := by decide +kernel
theorem dX8_rhymes_8 : decode cX8_rhymes 8 = .ok (.aload_n 0, 1) := by decide +kernel
theorem dX8_rhymes_9 : decode cX8_rhymes 9 = .ok (.iload_n 2, 1) := by decide +kernel
theorem dX8_rhymes_10 : decode cX8_rhymes 10 = .ok (.invokevirtual 249, 3) := by decide +kernel
theorem dX8_rhymes_13 : decode cX8_rhymes 13 = .ok (.ifCond .eq 16, 3) := by decide +kernel
theorem dX8_rhymes_16 : decode cX8_rhymes 16 = .ok (.aload_n 0, 1) := by decide +kernel
theorem dX8_rhymes_17 : decode cX8_rhymes 17 = .ok (.aload_n 0, 1) := by decide +kernel
theorem dX8_rhymes_18 : decode cX8_rhymes 18 = .ok (.iload_n 1, 1) := by decide +kernel
theorem dX8_rhymes_19 : decode cX8_rhymes 19 = .ok (.iload_n 2, 1) := by decide +kernel
theorem dX8_rhymes_20 : decode cX8_rhymes 20 = .ok (.invokevirtual 261, 3) := by decide +kernel
theorem dX8_rhymes_23 : decode cX8_rhymes 23 = .ok (.invokevirtual 265, 3) := by decide +kernel
theorem dX8_rhymes_26 : decode cX8_rhymes 26 = .ok (.goto 7, 3) := by decide +kernel
theorem dX8_rhymes_29 : decode cX8_rhymes 29 = .ok (.aload_n 0, 1) := by decide +kernel
theorem dX8_rhymes_30 : decode cX8_rhymes 30 = .ok (.invokevirtual 269, 3) := by decide +kernel
theorem dX8_rhymes_33 : decode cX8_rhymes 33 = .ok (.ireturn, 1) := by decide +kernel
theorem dX8_rhymesWithLandlady_0 : decode cX8_rhymesWithLandlady 0 = .ok (.aload_n 0, 1) := by decide +kernel
theorem dX8_rhymesWithLandlady_1 : decode cX8_rhymesWithLandlady 1 = .ok (.iload_n 1, 1) := by decide +kernel
theorem dX8_rhymesWithLandlady_2 : decode cX8_rhymesWithLandlady 2 = .ok (.invokevirtual 249, 3) := by decide +kernel
theorem dX8_rhymesWithLandlady_5 : decode cX8_rhymesWithLandlady 5 = .ok (.ifCond .eq 15, 3) := by decide +kernel
theorem dX8_rhymesWithLandlady_8 : decode cX8_rhymesWithLandlady 8 = .ok (.aload_n 0, 1) := by decide +kernel
theorem dX8_rhymesWithLandlady_9 : decode cX8_rhymesWithLandlady 9 = .ok (.aload_n 0, 1) := by decide +kernel
theorem dX8_rhymesWithLandlady_10 : decode cX8_rhymesWithLandlady 10 = .ok (.iload_n 1, 1) := by decide +kernel
theorem dX8_rhymesWithLandlady_11 : decode cX8_rhymesWithLandlady 11 = .ok (.invokevirtual 89, 3) := by decide +kernel
theorem dX8_rhymesWithLandlady_14 : decode cX8_rhymesWithLandlady 14 = .ok (.invokevirtual 265, 3) := by decide +kernel
theorem dX8_rhymesWithLandlady_17 : decode cX8_rhymesWithLandlady 17 = .ok (.goto 7, 3) := by decide +kernel
theorem dX8_rhymesWithLandlady_20 : decode cX8_rhymesWithLandlady 20 = .ok (.aload_n 0, 1) := by decide +kernel
theorem dX8_rhymesWithLandlady_21 : decode cX8_rhymesWithLandlady 21 = .ok (.invokevirtual 269, 3) := by decide +kernel
theorem dX8_rhymesWithLandlady_24 : decode cX8_rhymesWithLandlady 24 = .ok (.ireturn, 1) := by decide +kernel
theorem dX8_rhymeCount_0 : decode cX8_rhymeCount 0 = .ok (.aload_n 0, 1) := by decide +kernel
theorem dX8_rhymeCount_1 : decode cX8_rhymeCount 1 = .ok (.iload_n 1, 1) := by decide +kernel
theorem dX8_rhymeCount_2 : decode cX8_rhymeCount 2 = .ok (.invokevirtual 249, 3) := by decide +kernel
theorem dX8_rhymeCount_5 : decode cX8_rhymeCount 5 = .ok (.ifCond .ne 9, 3) := by decide +kernel
theorem dX8_rhymeCount_8 : decode cX8_rhymeCount 8 = .ok (.aload_n 0, 1) := by decide +kernel
theorem dX8_rhymeCount_9 : decode cX8_rhymeCount 9 = .ok (.iconst 1, 1) := by decide +kernel
theorem dX8_rhymeCount_10 : decode cX8_rhymeCount 10 = .ok (.invokevirtual 216, 3) := by decide +kernel
theorem dX8_rhymeCount_13 : decode cX8_rhymeCount 13 = .ok (.ireturn, 1) := by decide +kernel
theorem dX8_rhymeCount_14 : decode cX8_rhymeCount 14 = .ok (.iconst 0, 1) := by decide +kernel
theorem dX8_rhymeCount_15 : decode cX8_rhymeCount 15 = .ok (.istore_n 2, 1) := by decide +kernel
theorem dX8_rhymeCount_16 : decode cX8_rhymeCount 16 = .ok (.iconst 0, 1) := by decide +kernel
theorem dX8_rhymeCount_17 : decode cX8_rhymeCount 17 = .ok (.istore_n 3, 1) := by decide +kernel
theorem dX8_rhymeCount_18 : decode cX8_rhymeCount 18 = .ok (.iload_n 3, 1) := by decide +kernel
theorem dX8_rhymeCount_19 : decode cX8_rhymeCount 19 = .ok (.aload_n 0, 1) := by decide +kernel
theorem dX8_rhymeCount_20 : decode cX8_rhymeCount 20 = .ok (.getfield 19, 3) := by decide +kernel
theorem dX8_rhymeCount_23 : decode cX8_rhymeCount 23 = .ok (.bipush 7, 2) := by decide +kernel
theorem dX8_rhymeCount_25 : decode cX8_rhymeCount 25 = .ok (.iaload, 1) := by decide +kernel
theorem dX8_rhymeCount_26 : decode cX8_rhymeCount 26 = .ok (.if_icmp .ge 31, 3) := by decide +kernel
theorem dX8_rhymeCount_29 : decode cX8_rhymeCount 29 = .ok (.iload_n 2, 1) := by decide +kernel
theorem dX8_rhymeCount_30 : decode cX8_rhymeCount 30 = .ok (.iload_n 3, 1) := by decide +kernel
theorem dX8_rhymeCount_31 : decode cX8_rhymeCount 31 = .ok (.iload_n 1, 1) := by decide +kernel
theorem dX8_rhymeCount_32 : decode cX8_rhymeCount 32 = .ok (.if_icmp .eq 16, 3) := by decide +kernel
theorem dX8_rhymeCount_35 : decode cX8_rhymeCount 35 = .ok (.aload_n 0, 1) := by decide +kernel
theorem dX8_rhymeCount_36 : decode cX8_rhymeCount 36 = .ok (.iload_n 3, 1) := by decide +kernel
theorem dX8_rhymeCount_37 : decode cX8_rhymeCount 37 = .ok (.iload_n 1, 1) := by decide +kernel
theorem dX8_rhymeCount_38 : decode cX8_rhymeCount 38 = .ok (.invokevirtual 261, 3) := by decide +kernel
theorem dX8_rhymeCount_41 : decode cX8_rhymeCount 41 = .ok (.ifCond .eq 7, 3) := by decide +kernel
theorem dX8_rhymeCount_44 : decode cX8_rhymeCount 44 = .ok (.iconst 1, 1) := by decide +kernel
theorem dX8_rhymeCount_45 : decode cX8_rhymeCount 45 = .ok (.goto 4, 3) := by decide +kernel
theorem dX8_rhymeCount_48 : decode cX8_rhymeCount 48 = .ok (.iconst 0, 1) := by decide +kernel
theorem dX8_rhymeCount_49 : decode cX8_rhymeCount 49 = .ok (.iadd, 1) := by decide +kernel
theorem dX8_rhymeCount_50 : decode cX8_rhymeCount 50 = .ok (.istore_n 2, 1) := by decide +kernel
theorem dX8_rhymeCount_51 : decode cX8_rhymeCount 51 = .ok (.iinc 3 1, 3) := by decide +kernel
theorem dX8_rhymeCount_54 : decode cX8_rhymeCount 54 = .ok (.goto (-36), 3) := by decide +kernel
theorem dX8_rhymeCount_57 : decode cX8_rhymeCount 57 = .ok (.aload_n 0, 1) := by decide +kernel
theorem dX8_rhymeCount_58 : decode cX8_rhymeCount 58 = .ok (.iload_n 2, 1) := by decide +kernel
theorem dX8_rhymeCount_59 : decode cX8_rhymeCount 59 = .ok (.invokevirtual 222, 3) := by decide +kernel
theorem dX8_rhymeCount_62 : decode cX8_rhymeCount 62 = .ok (.ireturn, 1) := by decide +kernel
theorem dX8_closestTo_0 : decode cX8_closestTo 0 = .ok (.aload_n 0, 1) := by decide +kernel
theorem dX8_closestTo_1 : decode cX8_closestTo 1 = .ok (.iload_n 1, 1) := by decide +kernel
theorem dX8_closestTo_2 : decode cX8_closestTo 2 = .ok (.invokevirtual 249, 3) := by decide +kernel
theorem dX8_closestTo_5 : decode cX8_closestTo 5 = .ok (.ifCond .ne 9, 3) := by decide +kernel
theorem dX8_closestTo_8 : decode cX8_closestTo 8 = .ok (.aload_n 0, 1) := by decide +kernel
theorem dX8_closestTo_9 : decode cX8_closestTo 9 = .ok (.iconst 1, 1) := by decide +kernel
theorem dX8_closestTo_10 : decode cX8_closestTo 10 = .ok (.invokevirtual 216, 3) := by decide +kernel
theorem dX8_closestTo_13 : decode cX8_closestTo 13 = .ok (.ireturn, 1) := by decide +kernel
theorem dX8_closestTo_14 : decode cX8_closestTo 14 = .ok (.iconst (-1), 1) := by decide +kernel
theorem dX8_closestTo_15 : decode cX8_closestTo 15 = .ok (.istore_n 2, 1) := by decide +kernel
theorem dX8_closestTo_16 : decode cX8_closestTo 16 = .ok (.iconst 0, 1) := by decide +kernel
theorem dX8_closestTo_17 : decode cX8_closestTo 17 = .ok (.istore_n 3, 1) := by decide +kernel
theorem dX8_closestTo_18 : decode cX8_closestTo 18 = .ok (.iload_n 3, 1) := by decide +kernel
theorem dX8_closestTo_19 : decode cX8_closestTo 19 = .ok (.aload_n 0, 1) := by decide +kernel
theorem dX8_closestTo_20 : decode cX8_closestTo 20 = .ok (.getfield 19, 3) := by decide +kernel
theorem dX8_closestTo_23 : decode cX8_closestTo 23 = .ok (.bipush 7, 2) := by decide +kernel
theorem dX8_closestTo_25 : decode cX8_closestTo 25 = .ok (.iaload, 1) := by decide +kernel
theorem dX8_closestTo_26 : decode cX8_closestTo 26 = .ok (.if_icmp .ge 36, 3) := by decide +kernel
theorem dX8_closestTo_29 : decode cX8_closestTo 29 = .ok (.iload_n 3, 1) := by decide +kernel
theorem dX8_closestTo_30 : decode cX8_closestTo 30 = .ok (.iload_n 1, 1) := by decide +kernel
theorem dX8_closestTo_31 : decode cX8_closestTo 31 = .ok (.if_icmp .eq 25, 3) := by decide +kernel
theorem dX8_closestTo_34 : decode cX8_closestTo 34 = .ok (.iload_n 2, 1) := by decide +kernel
theorem dX8_closestTo_35 : decode cX8_closestTo 35 = .ok (.iconst (-1), 1) := by decide +kernel
theorem dX8_closestTo_36 : decode cX8_closestTo 36 = .ok (.if_icmp .eq 18, 3) := by decide +kernel
theorem dX8_closestTo_39 : decode cX8_closestTo 39 = .ok (.aload_n 0, 1) := by decide +kernel
theorem dX8_closestTo_40 : decode cX8_closestTo 40 = .ok (.iload_n 3, 1) := by decide +kernel
theorem dX8_closestTo_41 : decode cX8_closestTo 41 = .ok (.iload_n 1, 1) := by decide +kernel
theorem dX8_closestTo_42 : decode cX8_closestTo 42 = .ok (.invokevirtual 258, 3) := by decide +kernel
theorem dX8_closestTo_45 : decode cX8_closestTo 45 = .ok (.aload_n 0, 1) := by decide +kernel
theorem dX8_closestTo_46 : decode cX8_closestTo 46 = .ok (.iload_n 2, 1) := by decide +kernel
theorem dX8_closestTo_47 : decode cX8_closestTo 47 = .ok (.iload_n 1, 1) := by decide +kernel
theorem dX8_closestTo_48 : decode cX8_closestTo 48 = .ok (.invokevirtual 258, 3) := by decide +kernel
theorem dX8_closestTo_51 : decode cX8_closestTo 51 = .ok (.if_icmp .ge 5, 3) := by decide +kernel
theorem dX8_closestTo_54 : decode cX8_closestTo 54 = .ok (.iload_n 3, 1) := by decide +kernel
theorem dX8_closestTo_55 : decode cX8_closestTo 55 = .ok (.istore_n 2, 1) := by decide +kernel
theorem dX8_closestTo_56 : decode cX8_closestTo 56 = .ok (.iinc 3 1, 3) := by decide +kernel
theorem dX8_closestTo_59 : decode cX8_closestTo 59 = .ok (.goto (-41), 3) := by decide +kernel
theorem dX8_closestTo_62 : decode cX8_closestTo 62 = .ok (.aload_n 0, 1) := by decide +kernel
theorem dX8_closestTo_63 : decode cX8_closestTo 63 = .ok (.iload_n 2, 1) := by decide +kernel
theorem dX8_closestTo_64 : decode cX8_closestTo 64 = .ok (.invokevirtual 222, 3) := by decide +kernel
theorem dX8_closestTo_67 : decode cX8_closestTo 67 = .ok (.ireturn, 1) := by decide +kernel
theorem dX8_lessonVowel_0 : decode cX8_lessonVowel 0 = .ok (.aload_n 0, 1) := by decide +kernel
theorem dX8_lessonVowel_1 : decode cX8_lessonVowel 1 = .ok (.iload_n 1, 1) := by decide +kernel
theorem dX8_lessonVowel_2 : decode cX8_lessonVowel 2 = .ok (.invokevirtual 249, 3) := by decide +kernel
theorem dX8_lessonVowel_5 : decode cX8_lessonVowel 5 = .ok (.ifCond .eq 15, 3) := by decide +kernel
theorem dX8_lessonVowel_8 : decode cX8_lessonVowel 8 = .ok (.aload_n 0, 1) := by decide +kernel
theorem dX8_lessonVowel_9 : decode cX8_lessonVowel 9 = .ok (.aload_n 0, 1) := by decide +kernel
theorem dX8_lessonVowel_10 : decode cX8_lessonVowel 10 = .ok (.iload_n 1, 1) := by decide +kernel
theorem dX8_lessonVowel_11 : decode cX8_lessonVowel 11 = .ok (.invokevirtual 96, 3) := by decide +kernel
theorem dX8_lessonVowel_14 : decode cX8_lessonVowel 14 = .ok (.invokevirtual 222, 3) := by decide +kernel
theorem dX8_lessonVowel_17 : decode cX8_lessonVowel 17 = .ok (.goto 8, 3) := by decide +kernel
theorem dX8_lessonVowel_20 : decode cX8_lessonVowel 20 = .ok (.aload_n 0, 1) := by decide +kernel
theorem dX8_lessonVowel_21 : decode cX8_lessonVowel 21 = .ok (.iconst 1, 1) := by decide +kernel
theorem dX8_lessonVowel_22 : decode cX8_lessonVowel 22 = .ok (.invokevirtual 216, 3) := by decide +kernel
theorem dX8_lessonVowel_25 : decode cX8_lessonVowel 25 = .ok (.ireturn, 1) := by decide +kernel
theorem dX8_slipVowel_0 : decode cX8_slipVowel 0 = .ok (.aload_n 0, 1) := by decide +kernel
theorem dX8_slipVowel_1 : decode cX8_slipVowel 1 = .ok (.iload_n 1, 1) := by decide +kernel
theorem dX8_slipVowel_2 : decode cX8_slipVowel 2 = .ok (.invokevirtual 249, 3) := by decide +kernel
theorem dX8_slipVowel_5 : decode cX8_slipVowel 5 = .ok (.ifCond .ne 9, 3) := by decide +kernel
theorem dX8_slipVowel_8 : decode cX8_slipVowel 8 = .ok (.aload_n 0, 1) := by decide +kernel
theorem dX8_slipVowel_9 : decode cX8_slipVowel 9 = .ok (.iconst 1, 1) := by decide +kernel
theorem dX8_slipVowel_10 : decode cX8_slipVowel 10 = .ok (.invokevirtual 216, 3) := by decide +kernel
theorem dX8_slipVowel_13 : decode cX8_slipVowel 13 = .ok (.ireturn, 1) := by decide +kernel
theorem dX8_slipVowel_14 : decode cX8_slipVowel 14 = .ok (.aload_n 0, 1) := by decide +kernel
theorem dX8_slipVowel_15 : decode cX8_slipVowel 15 = .ok (.invokevirtual 118, 3) := by decide +kernel
theorem dX8_slipVowel_18 : decode cX8_slipVowel 18 = .ok (.aload_n 0, 1) := by decide +kernel
theorem dX8_slipVowel_19 : decode cX8_slipVowel 19 = .ok (.aload_n 0, 1) := by decide +kernel
theorem dX8_slipVowel_20 : decode cX8_slipVowel 20 = .ok (.iload_n 1, 1) := by decide +kernel
theorem dX8_slipVowel_21 : decode cX8_slipVowel 21 = .ok (.invokevirtual 102, 3) := by decide +kernel
theorem dX8_slipVowel_24 : decode cX8_slipVowel 24 = .ok (.invokevirtual 222, 3) := by decide +kernel
theorem dX8_slipVowel_27 : decode cX8_slipVowel 27 = .ok (.ireturn, 1) := by decide +kernel
theorem dX8_mustGo_0 : decode cX8_mustGo 0 = .ok (.aload_n 0, 1) := by decide +kernel
theorem dX8_mustGo_1 : decode cX8_mustGo 1 = .ok (.iload_n 1, 1) := by decide +kernel
theorem dX8_mustGo_2 : decode cX8_mustGo 2 = .ok (.invokevirtual 249, 3) := by decide +kernel
theorem dX8_mustGo_5 : decode cX8_mustGo 5 = .ok (.ifCond .eq 15, 3) := by decide +kernel
theorem dX8_mustGo_8 : decode cX8_mustGo 8 = .ok (.aload_n 0, 1) := by decide +kernel
theorem dX8_mustGo_9 : decode cX8_mustGo 9 = .ok (.aload_n 0, 1) := by decide +kernel
theorem dX8_mustGo_10 : decode cX8_mustGo 10 = .ok (.iload_n 1, 1) := by decide +kernel
theorem dX8_mustGo_11 : decode cX8_mustGo 11 = .ok (.invokevirtual 105, 3) := by decide +kernel
theorem dX8_mustGo_14 : decode cX8_mustGo 14 = .ok (.invokevirtual 265, 3) := by decide +kernel
theorem dX8_mustGo_17 : decode cX8_mustGo 17 = .ok (.goto 7, 3) := by decide +kernel
theorem dX8_mustGo_20 : decode cX8_mustGo 20 = .ok (.aload_n 0, 1) := by decide +kernel
theorem dX8_mustGo_21 : decode cX8_mustGo 21 = .ok (.invokevirtual 269, 3) := by decide +kernel
theorem dX8_mustGo_24 : decode cX8_mustGo 24 = .ok (.ireturn, 1) := by decide +kernel
theorem dX8_meanDistance_0 : decode cX8_meanDistance 0 = .ok (.aload_n 0, 1) := by decide +kernel
theorem dX8_meanDistance_1 : decode cX8_meanDistance 1 = .ok (.iconst 0, 1) := by decide +kernel
theorem dX8_meanDistance_2 : decode cX8_meanDistance 2 = .ok (.putfield 63, 3) := by decide +kernel
theorem dX8_meanDistance_5 : decode cX8_meanDistance 5 = .ok (.iconst 0, 1) := by decide +kernel
theorem dX8_meanDistance_6 : decode cX8_meanDistance 6 = .ok (.istore_n 1, 1) := by decide +kernel
theorem dX8_meanDistance_7 : decode cX8_meanDistance 7 = .ok (.iconst 0, 1) := by decide +kernel
theorem dX8_meanDistance_8 : decode cX8_meanDistance 8 = .ok (.istore_n 2, 1) := by decide +kernel
theorem dX8_meanDistance_9 : decode cX8_meanDistance 9 = .ok (.iload_n 2, 1) := by decide +kernel
theorem dX8_meanDistance_10 : decode cX8_meanDistance 10 = .ok (.aload_n 0, 1) := by decide +kernel
theorem dX8_meanDistance_11 : decode cX8_meanDistance 11 = .ok (.getfield 19, 3) := by decide +kernel
theorem dX8_meanDistance_14 : decode cX8_meanDistance 14 = .ok (.bipush 7, 2) := by decide +kernel
theorem dX8_meanDistance_16 : decode cX8_meanDistance 16 = .ok (.iaload, 1) := by decide +kernel
theorem dX8_meanDistance_17 : decode cX8_meanDistance 17 = .ok (.if_icmp .ge 17, 3) := by decide +kernel
theorem dX8_meanDistance_20 : decode cX8_meanDistance 20 = .ok (.iload_n 1, 1) := by decide +kernel
theorem dX8_meanDistance_21 : decode cX8_meanDistance 21 = .ok (.aload_n 0, 1) := by decide +kernel
theorem dX8_meanDistance_22 : decode cX8_meanDistance 22 = .ok (.iload_n 2, 1) := by decide +kernel
theorem dX8_meanDistance_23 : decode cX8_meanDistance 23 = .ok (.invokevirtual 86, 3) := by decide +kernel
theorem dX8_meanDistance_26 : decode cX8_meanDistance 26 = .ok (.iadd, 1) := by decide +kernel
theorem dX8_meanDistance_27 : decode cX8_meanDistance 27 = .ok (.istore_n 1, 1) := by decide +kernel
theorem dX8_meanDistance_28 : decode cX8_meanDistance 28 = .ok (.iinc 2 1, 3) := by decide +kernel
theorem dX8_meanDistance_31 : decode cX8_meanDistance 31 = .ok (.goto (-22), 3) := by decide +kernel
theorem dX8_meanDistance_34 : decode cX8_meanDistance 34 = .ok (.aload_n 0, 1) := by decide +kernel
theorem dX8_meanDistance_35 : decode cX8_meanDistance 35 = .ok (.getfield 19, 3) := by decide +kernel
theorem dX8_meanDistance_38 : decode cX8_meanDistance 38 = .ok (.bipush 7, 2) := by decide +kernel
theorem dX8_meanDistance_40 : decode cX8_meanDistance 40 = .ok (.iaload, 1) := by decide +kernel
theorem dX8_meanDistance_41 : decode cX8_meanDistance 41 = .ok (.ifCond .ne 7, 3) := by decide +kernel
theorem dX8_meanDistance_44 : decode cX8_meanDistance 44 = .ok (.dconst 0, 1) := by decide +kernel
theorem dX8_meanDistance_45 : decode cX8_meanDistance 45 = .ok (.goto 14, 3) := by decide +kernel
theorem dX8_meanDistance_48 : decode cX8_meanDistance 48 = .ok (.iload_n 1, 1) := by decide +kernel
theorem dX8_meanDistance_49 : decode cX8_meanDistance 49 = .ok (.i2d, 1) := by decide +kernel
theorem dX8_meanDistance_50 : decode cX8_meanDistance 50 = .ok (.aload_n 0, 1) := by decide +kernel
theorem dX8_meanDistance_51 : decode cX8_meanDistance 51 = .ok (.getfield 19, 3) := by decide +kernel
theorem dX8_meanDistance_54 : decode cX8_meanDistance 54 = .ok (.bipush 7, 2) := by decide +kernel
theorem dX8_meanDistance_56 : decode cX8_meanDistance 56 = .ok (.iaload, 1) := by decide +kernel
theorem dX8_meanDistance_57 : decode cX8_meanDistance 57 = .ok (.i2d, 1) := by decide +kernel
theorem dX8_meanDistance_58 : decode cX8_meanDistance 58 = .ok (.ddiv, 1) := by decide +kernel
theorem dX8_meanDistance_59 : decode cX8_meanDistance 59 = .ok (.dreturn, 1) := by decide +kernel
theorem dX8_rhymingShare_0 : decode cX8_rhymingShare 0 = .ok (.aload_n 0, 1) := by decide +kernel
theorem dX8_rhymingShare_1 : decode cX8_rhymingShare 1 = .ok (.iconst 0, 1) := by decide +kernel
theorem dX8_rhymingShare_2 : decode cX8_rhymingShare 2 = .ok (.putfield 63, 3) := by decide +kernel
theorem dX8_rhymingShare_5 : decode cX8_rhymingShare 5 = .ok (.iconst 0, 1) := by decide +kernel
theorem dX8_rhymingShare_6 : decode cX8_rhymingShare 6 = .ok (.istore_n 1, 1) := by decide +kernel
theorem dX8_rhymingShare_7 : decode cX8_rhymingShare 7 = .ok (.iconst 0, 1) := by decide +kernel
theorem dX8_rhymingShare_8 : decode cX8_rhymingShare 8 = .ok (.istore_n 2, 1) := by decide +kernel
theorem dX8_rhymingShare_9 : decode cX8_rhymingShare 9 = .ok (.iload_n 2, 1) := by decide +kernel
theorem dX8_rhymingShare_10 : decode cX8_rhymingShare 10 = .ok (.aload_n 0, 1) := by decide +kernel
theorem dX8_rhymingShare_11 : decode cX8_rhymingShare 11 = .ok (.getfield 19, 3) := by decide +kernel
theorem dX8_rhymingShare_14 : decode cX8_rhymingShare 14 = .ok (.bipush 7, 2) := by decide +kernel
theorem dX8_rhymingShare_16 : decode cX8_rhymingShare 16 = .ok (.iaload, 1) := by decide +kernel
theorem dX8_rhymingShare_17 : decode cX8_rhymingShare 17 = .ok (.if_icmp .ge 25, 3) := by decide +kernel
theorem dX8_rhymingShare_20 : decode cX8_rhymingShare 20 = .ok (.iload_n 1, 1) := by decide +kernel
theorem dX8_rhymingShare_21 : decode cX8_rhymingShare 21 = .ok (.aload_n 0, 1) := by decide +kernel
theorem dX8_rhymingShare_22 : decode cX8_rhymingShare 22 = .ok (.iload_n 2, 1) := by decide +kernel
theorem dX8_rhymingShare_23 : decode cX8_rhymingShare 23 = .ok (.invokevirtual 89, 3) := by decide +kernel
theorem dX8_rhymingShare_26 : decode cX8_rhymingShare 26 = .ok (.ifCond .eq 7, 3) := by decide +kernel
theorem dX8_rhymingShare_29 : decode cX8_rhymingShare 29 = .ok (.iconst 1, 1) := by decide +kernel
theorem dX8_rhymingShare_30 : decode cX8_rhymingShare 30 = .ok (.goto 4, 3) := by decide +kernel
theorem dX8_rhymingShare_33 : decode cX8_rhymingShare 33 = .ok (.iconst 0, 1) := by decide +kernel
theorem dX8_rhymingShare_34 : decode cX8_rhymingShare 34 = .ok (.iadd, 1) := by decide +kernel
theorem dX8_rhymingShare_35 : decode cX8_rhymingShare 35 = .ok (.istore_n 1, 1) := by decide +kernel
theorem dX8_rhymingShare_36 : decode cX8_rhymingShare 36 = .ok (.iinc 2 1, 3) := by decide +kernel
theorem dX8_rhymingShare_39 : decode cX8_rhymingShare 39 = .ok (.goto (-30), 3) := by decide +kernel
theorem dX8_rhymingShare_42 : decode cX8_rhymingShare 42 = .ok (.aload_n 0, 1) := by decide +kernel
theorem dX8_rhymingShare_43 : decode cX8_rhymingShare 43 = .ok (.getfield 19, 3) := by decide +kernel
theorem dX8_rhymingShare_46 : decode cX8_rhymingShare 46 = .ok (.bipush 7, 2) := by decide +kernel
theorem dX8_rhymingShare_48 : decode cX8_rhymingShare 48 = .ok (.iaload, 1) := by decide +kernel
theorem dX8_rhymingShare_49 : decode cX8_rhymingShare 49 = .ok (.ifCond .ne 7, 3) := by decide +kernel
theorem dX8_rhymingShare_52 : decode cX8_rhymingShare 52 = .ok (.fconst 0, 1) := by decide +kernel
theorem dX8_rhymingShare_53 : decode cX8_rhymingShare 53 = .ok (.goto 14, 3) := by decide +kernel
theorem dX8_rhymingShare_56 : decode cX8_rhymingShare 56 = .ok (.iload_n 1, 1) := by decide +kernel
theorem dX8_rhymingShare_57 : decode cX8_rhymingShare 57 = .ok (.i2f, 1) := by decide +kernel
theorem dX8_rhymingShare_58 : decode cX8_rhymingShare 58 = .ok (.aload_n 0, 1) := by decide +kernel
theorem dX8_rhymingShare_59 : decode cX8_rhymingShare 59 = .ok (.getfield 19, 3) := by decide +kernel
theorem dX8_rhymingShare_62 : decode cX8_rhymingShare 62 = .ok (.bipush 7, 2) := by decide +kernel
theorem dX8_rhymingShare_64 : decode cX8_rhymingShare 64 = .ok (.iaload, 1) := by decide +kernel
theorem dX8_rhymingShare_65 : decode cX8_rhymingShare 65 = .ok (.i2f, 1) := by decide +kernel
theorem dX8_rhymingShare_66 : decode cX8_rhymingShare 66 = .ok (.fdiv, 1) := by decide +kernel
theorem dX8_rhymingShare_67 : decode cX8_rhymingShare 67 = .ok (.freturn, 1) := by decide +kernel
theorem dX8_tracks_0 : decode cX8_tracks 0 = .ok (.aload_n 0, 1) := by decide +kernel
theorem dX8_tracks_1 : decode cX8_tracks 1 = .ok (.invokevirtual 225, 3) := by decide +kernel
theorem dX8_tracks_4 : decode cX8_tracks 4 = .ok (.aload_n 0, 1) := by decide +kernel
theorem dX8_tracks_5 : decode cX8_tracks 5 = .ok (.iload_n 1, 1) := by decide +kernel
theorem dX8_tracks_6 : decode cX8_tracks 6 = .ok (.putfield 37, 3) := by decide +kernel
theorem dX8_tracks_9 : decode cX8_tracks 9 = .ok (.return_, 1) := by decide +kernel
theorem dX8_balanceAfter_0 : decode cX8_balanceAfter 0 = .ok (.aload_n 0, 1) := by decide +kernel
theorem dX8_balanceAfter_1 : decode cX8_balanceAfter 1 = .ok (.iload_n 1, 1) := by decide +kernel
theorem dX8_balanceAfter_2 : decode cX8_balanceAfter 2 = .ok (.invokevirtual 249, 3) := by decide +kernel
theorem dX8_balanceAfter_5 : decode cX8_balanceAfter 5 = .ok (.ifCond .ne 9, 3) := by decide +kernel
theorem dX8_balanceAfter_8 : decode cX8_balanceAfter 8 = .ok (.aload_n 0, 1) := by decide +kernel
theorem dX8_balanceAfter_9 : decode cX8_balanceAfter 9 = .ok (.iconst 1, 1) := by decide +kernel
theorem dX8_balanceAfter_10 : decode cX8_balanceAfter 10 = .ok (.invokevirtual 216, 3) := by decide +kernel
theorem dX8_balanceAfter_13 : decode cX8_balanceAfter 13 = .ok (.ireturn, 1) := by decide +kernel
theorem dX8_balanceAfter_14 : decode cX8_balanceAfter 14 = .ok (.iload_n 2, 1) := by decide +kernel
theorem dX8_balanceAfter_15 : decode cX8_balanceAfter 15 = .ok (.iconst 0, 1) := by decide +kernel
theorem dX8_balanceAfter_16 : decode cX8_balanceAfter 16 = .ok (.bipush 100, 2) := by decide +kernel
theorem dX8_balanceAfter_18 : decode cX8_balanceAfter 18 = .ok (.invokestatic 66, 3) := by decide +kernel
theorem dX8_balanceAfter_21 : decode cX8_balanceAfter 21 = .ok (.ifCond .ne 9, 3) := by decide +kernel
theorem dX8_balanceAfter_24 : decode cX8_balanceAfter 24 = .ok (.aload_n 0, 1) := by decide +kernel
theorem dX8_balanceAfter_25 : decode cX8_balanceAfter 25 = .ok (.iconst 2, 1) := by decide +kernel
theorem dX8_balanceAfter_26 : decode cX8_balanceAfter 26 = .ok (.invokevirtual 216, 3) := by decide +kernel
theorem dX8_balanceAfter_29 : decode cX8_balanceAfter 29 = .ok (.ireturn, 1) := by decide +kernel
theorem dX8_balanceAfter_30 : decode cX8_balanceAfter 30 = .ok (.aload_n 0, 1) := by decide +kernel
theorem dX8_balanceAfter_31 : decode cX8_balanceAfter 31 = .ok (.iload_n 1, 1) := by decide +kernel
theorem dX8_balanceAfter_32 : decode cX8_balanceAfter 32 = .ok (.invokevirtual 273, 3) := by decide +kernel
theorem dX8_balanceAfter_35 : decode cX8_balanceAfter 35 = .ok (.aload_n 0, 1) := by decide +kernel
theorem dX8_balanceAfter_36 : decode cX8_balanceAfter 36 = .ok (.iload_n 2, 1) := by decide +kernel
theorem dX8_balanceAfter_37 : decode cX8_balanceAfter 37 = .ok (.invokevirtual 201, 3) := by decide +kernel
theorem dX8_balanceAfter_40 : decode cX8_balanceAfter 40 = .ok (.aload_n 0, 1) := by decide +kernel
theorem dX8_balanceAfter_41 : decode cX8_balanceAfter 41 = .ok (.getfield 37, 3) := by decide +kernel
theorem dX8_balanceAfter_44 : decode cX8_balanceAfter 44 = .ok (.iconst (-1), 1) := by decide +kernel
theorem dX8_balanceAfter_45 : decode cX8_balanceAfter 45 = .ok (.if_icmp .ne 10, 3) := by decide +kernel
theorem dX8_balanceAfter_48 : decode cX8_balanceAfter 48 = .ok (.aload_n 0, 1) := by decide +kernel
theorem dX8_balanceAfter_49 : decode cX8_balanceAfter 49 = .ok (.getfield 70, 3) := by decide +kernel
theorem dX8_balanceAfter_52 : decode cX8_balanceAfter 52 = .ok (.goto 17, 3) := by decide +kernel
theorem dX8_balanceAfter_55 : decode cX8_balanceAfter 55 = .ok (.aload_n 0, 1) := by decide +kernel
theorem dX8_balanceAfter_56 : decode cX8_balanceAfter 56 = .ok (.getfield 19, 3) := by decide +kernel
theorem dX8_balanceAfter_59 : decode cX8_balanceAfter 59 = .ok (.aload_n 0, 1) := by decide +kernel
theorem dX8_balanceAfter_60 : decode cX8_balanceAfter 60 = .ok (.getfield 37, 3) := by decide +kernel
theorem dX8_balanceAfter_63 : decode cX8_balanceAfter 63 = .ok (.invokestatic 56, 3) := by decide +kernel
theorem dX8_balanceAfter_66 : decode cX8_balanceAfter 66 = .ok (.iconst 1, 1) := by decide +kernel
theorem dX8_balanceAfter_67 : decode cX8_balanceAfter 67 = .ok (.iadd, 1) := by decide +kernel
theorem dX8_balanceAfter_68 : decode cX8_balanceAfter 68 = .ok (.iaload, 1) := by decide +kernel
theorem dX8_balanceAfter_69 : decode cX8_balanceAfter 69 = .ok (.istore_n 3, 1) := by decide +kernel
theorem dX8_balanceAfter_70 : decode cX8_balanceAfter 70 = .ok (.aload_n 0, 1) := by decide +kernel
theorem dX8_balanceAfter_71 : decode cX8_balanceAfter 71 = .ok (.invokevirtual 234, 3) := by decide +kernel
theorem dX8_balanceAfter_74 : decode cX8_balanceAfter 74 = .ok (.aload_n 0, 1) := by decide +kernel
theorem dX8_balanceAfter_75 : decode cX8_balanceAfter 75 = .ok (.iload_n 3, 1) := by decide +kernel
theorem dX8_balanceAfter_76 : decode cX8_balanceAfter 76 = .ok (.invokevirtual 222, 3) := by decide +kernel
theorem dX8_balanceAfter_79 : decode cX8_balanceAfter 79 = .ok (.ireturn, 1) := by decide +kernel
theorem dX8_distanceAfter_0 : decode cX8_distanceAfter 0 = .ok (.aload_n 0, 1) := by decide +kernel
theorem dX8_distanceAfter_1 : decode cX8_distanceAfter 1 = .ok (.iload_n 1, 1) := by decide +kernel
theorem dX8_distanceAfter_2 : decode cX8_distanceAfter 2 = .ok (.invokevirtual 249, 3) := by decide +kernel
theorem dX8_distanceAfter_5 : decode cX8_distanceAfter 5 = .ok (.ifCond .ne 9, 3) := by decide +kernel
theorem dX8_distanceAfter_8 : decode cX8_distanceAfter 8 = .ok (.aload_n 0, 1) := by decide +kernel
theorem dX8_distanceAfter_9 : decode cX8_distanceAfter 9 = .ok (.iconst 1, 1) := by decide +kernel
theorem dX8_distanceAfter_10 : decode cX8_distanceAfter 10 = .ok (.invokevirtual 216, 3) := by decide +kernel
theorem dX8_distanceAfter_13 : decode cX8_distanceAfter 13 = .ok (.ireturn, 1) := by decide +kernel
theorem dX8_distanceAfter_14 : decode cX8_distanceAfter 14 = .ok (.iload_n 2, 1) := by decide +kernel
theorem dX8_distanceAfter_15 : decode cX8_distanceAfter 15 = .ok (.iconst 0, 1) := by decide +kernel
theorem dX8_distanceAfter_16 : decode cX8_distanceAfter 16 = .ok (.bipush 100, 2) := by decide +kernel
theorem dX8_distanceAfter_18 : decode cX8_distanceAfter 18 = .ok (.invokestatic 66, 3) := by decide +kernel
theorem dX8_distanceAfter_21 : decode cX8_distanceAfter 21 = .ok (.ifCond .ne 9, 3) := by decide +kernel
theorem dX8_distanceAfter_24 : decode cX8_distanceAfter 24 = .ok (.aload_n 0, 1) := by decide +kernel
theorem dX8_distanceAfter_25 : decode cX8_distanceAfter 25 = .ok (.iconst 2, 1) := by decide +kernel
theorem dX8_distanceAfter_26 : decode cX8_distanceAfter 26 = .ok (.invokevirtual 216, 3) := by decide +kernel
theorem dX8_distanceAfter_29 : decode cX8_distanceAfter 29 = .ok (.ireturn, 1) := by decide +kernel
theorem dX8_distanceAfter_30 : decode cX8_distanceAfter 30 = .ok (.aload_n 0, 1) := by decide +kernel
theorem dX8_distanceAfter_31 : decode cX8_distanceAfter 31 = .ok (.iload_n 1, 1) := by decide +kernel
theorem dX8_distanceAfter_32 : decode cX8_distanceAfter 32 = .ok (.invokevirtual 273, 3) := by decide +kernel
theorem dX8_distanceAfter_35 : decode cX8_distanceAfter 35 = .ok (.aload_n 0, 1) := by decide +kernel
theorem dX8_distanceAfter_36 : decode cX8_distanceAfter 36 = .ok (.iload_n 2, 1) := by decide +kernel
theorem dX8_distanceAfter_37 : decode cX8_distanceAfter 37 = .ok (.invokevirtual 201, 3) := by decide +kernel
theorem dX8_distanceAfter_40 : decode cX8_distanceAfter 40 = .ok (.aload_n 0, 1) := by decide +kernel
theorem dX8_distanceAfter_41 : decode cX8_distanceAfter 41 = .ok (.getfield 37, 3) := by decide +kernel
theorem dX8_distanceAfter_44 : decode cX8_distanceAfter 44 = .ok (.iconst (-1), 1) := by decide +kernel
theorem dX8_distanceAfter_45 : decode cX8_distanceAfter 45 = .ok (.if_icmp .ne 7, 3) := by decide +kernel
theorem dX8_distanceAfter_48 : decode cX8_distanceAfter 48 = .ok (.iconst (-1), 1) := by decide +kernel
theorem dX8_distanceAfter_49 : decode cX8_distanceAfter 49 = .ok (.goto 11, 3) := by decide +kernel
theorem dX8_distanceAfter_52 : decode cX8_distanceAfter 52 = .ok (.aload_n 0, 1) := by decide +kernel
theorem dX8_distanceAfter_53 : decode cX8_distanceAfter 53 = .ok (.aload_n 0, 1) := by decide +kernel
theorem dX8_distanceAfter_54 : decode cX8_distanceAfter 54 = .ok (.getfield 37, 3) := by decide +kernel
theorem dX8_distanceAfter_57 : decode cX8_distanceAfter 57 = .ok (.invokevirtual 86, 3) := by decide +kernel
theorem dX8_distanceAfter_60 : decode cX8_distanceAfter 60 = .ok (.istore_n 3, 1) := by decide +kernel
theorem dX8_distanceAfter_61 : decode cX8_distanceAfter 61 = .ok (.aload_n 0, 1) := by decide +kernel
theorem dX8_distanceAfter_62 : decode cX8_distanceAfter 62 = .ok (.invokevirtual 234, 3) := by decide +kernel
theorem dX8_distanceAfter_65 : decode cX8_distanceAfter 65 = .ok (.aload_n 0, 1) := by decide +kernel
theorem dX8_distanceAfter_66 : decode cX8_distanceAfter 66 = .ok (.iload_n 3, 1) := by decide +kernel
theorem dX8_distanceAfter_67 : decode cX8_distanceAfter 67 = .ok (.invokevirtual 222, 3) := by decide +kernel
theorem dX8_distanceAfter_70 : decode cX8_distanceAfter 70 = .ok (.ireturn, 1) := by decide +kernel
theorem dX8_daysToEviction_0 : decode cX8_daysToEviction 0 = .ok (.aload_n 0, 1) := by decide +kernel
theorem dX8_daysToEviction_1 : decode cX8_daysToEviction 1 = .ok (.iload_n 1, 1) := by decide +kernel
theorem dX8_daysToEviction_2 : decode cX8_daysToEviction 2 = .ok (.invokevirtual 249, 3) := by decide +kernel
theorem dX8_daysToEviction_5 : decode cX8_daysToEviction 5 = .ok (.ifCond .ne 9, 3) := by decide +kernel
theorem dX8_daysToEviction_8 : decode cX8_daysToEviction 8 = .ok (.aload_n 0, 1) := by decide +kernel
theorem dX8_daysToEviction_9 : decode cX8_daysToEviction 9 = .ok (.iconst 1, 1) := by decide +kernel
theorem dX8_daysToEviction_10 : decode cX8_daysToEviction 10 = .ok (.invokevirtual 216, 3) := by decide +kernel
theorem dX8_daysToEviction_13 : decode cX8_daysToEviction 13 = .ok (.ireturn, 1) := by decide +kernel
theorem dX8_daysToEviction_14 : decode cX8_daysToEviction 14 = .ok (.aload_n 0, 1) := by decide +kernel
theorem dX8_daysToEviction_15 : decode cX8_daysToEviction 15 = .ok (.iload_n 1, 1) := by decide +kernel
theorem dX8_daysToEviction_16 : decode cX8_daysToEviction 16 = .ok (.invokevirtual 273, 3) := by decide +kernel
theorem dX8_daysToEviction_19 : decode cX8_daysToEviction 19 = .ok (.iconst 0, 1) := by decide +kernel
theorem dX8_daysToEviction_20 : decode cX8_daysToEviction 20 = .ok (.istore_n 2, 1) := by decide +kernel
theorem dX8_daysToEviction_21 : decode cX8_daysToEviction 21 = .ok (.aload_n 0, 1) := by decide +kernel
theorem dX8_daysToEviction_22 : decode cX8_daysToEviction 22 = .ok (.getfield 37, 3) := by decide +kernel
theorem dX8_daysToEviction_25 : decode cX8_daysToEviction 25 = .ok (.iconst (-1), 1) := by decide +kernel
theorem dX8_daysToEviction_26 : decode cX8_daysToEviction 26 = .ok (.if_icmp .eq 19, 3) := by decide +kernel
theorem dX8_daysToEviction_29 : decode cX8_daysToEviction 29 = .ok (.iload_n 2, 1) := by decide +kernel
theorem dX8_daysToEviction_30 : decode cX8_daysToEviction 30 = .ok (.bipush 100, 2) := by decide +kernel
theorem dX8_daysToEviction_32 : decode cX8_daysToEviction 32 = .ok (.if_icmp .ge 13, 3) := by decide +kernel
theorem dX8_daysToEviction_35 : decode cX8_daysToEviction 35 = .ok (.aload_n 0, 1) := by decide +kernel
theorem dX8_daysToEviction_36 : decode cX8_daysToEviction 36 = .ok (.invokevirtual 60, 3) := by decide +kernel
theorem dX8_daysToEviction_39 : decode cX8_daysToEviction 39 = .ok (.iinc 2 1, 3) := by decide +kernel
theorem dX8_daysToEviction_42 : decode cX8_daysToEviction 42 = .ok (.goto (-21), 3) := by decide +kernel
theorem dX8_daysToEviction_45 : decode cX8_daysToEviction 45 = .ok (.aload_n 0, 1) := by decide +kernel
theorem dX8_daysToEviction_46 : decode cX8_daysToEviction 46 = .ok (.getfield 37, 3) := by decide +kernel
theorem dX8_daysToEviction_49 : decode cX8_daysToEviction 49 = .ok (.iconst (-1), 1) := by decide +kernel
theorem dX8_daysToEviction_50 : decode cX8_daysToEviction 50 = .ok (.if_icmp .ne 7, 3) := by decide +kernel
theorem dX8_daysToEviction_53 : decode cX8_daysToEviction 53 = .ok (.iconst 1, 1) := by decide +kernel
theorem dX8_daysToEviction_54 : decode cX8_daysToEviction 54 = .ok (.goto 4, 3) := by decide +kernel
theorem dX8_daysToEviction_57 : decode cX8_daysToEviction 57 = .ok (.iconst 0, 1) := by decide +kernel
theorem dX8_daysToEviction_58 : decode cX8_daysToEviction 58 = .ok (.istore_n 3, 1) := by decide +kernel
theorem dX8_daysToEviction_59 : decode cX8_daysToEviction 59 = .ok (.aload_n 0, 1) := by decide +kernel
theorem dX8_daysToEviction_60 : decode cX8_daysToEviction 60 = .ok (.invokevirtual 234, 3) := by decide +kernel
theorem dX8_daysToEviction_63 : decode cX8_daysToEviction 63 = .ok (.aload_n 0, 1) := by decide +kernel
theorem dX8_daysToEviction_64 : decode cX8_daysToEviction 64 = .ok (.iload_n 3, 1) := by decide +kernel
theorem dX8_daysToEviction_65 : decode cX8_daysToEviction 65 = .ok (.ifCond .eq 7, 3) := by decide +kernel
theorem dX8_daysToEviction_68 : decode cX8_daysToEviction 68 = .ok (.iload_n 2, 1) := by decide +kernel
theorem dX8_daysToEviction_69 : decode cX8_daysToEviction 69 = .ok (.goto 4, 3) := by decide +kernel
theorem dX8_daysToEviction_72 : decode cX8_daysToEviction 72 = .ok (.iconst (-1), 1) := by decide +kernel
theorem dX8_daysToEviction_73 : decode cX8_daysToEviction 73 = .ok (.invokevirtual 222, 3) := by decide +kernel
theorem dX8_daysToEviction_76 : decode cX8_daysToEviction 76 = .ok (.ireturn, 1) := by decide +kernel
theorem dX8_staysWith_0 : decode cX8_staysWith 0 = .ok (.aload_n 0, 1) := by decide +kernel
theorem dX8_staysWith_1 : decode cX8_staysWith 1 = .ok (.invokevirtual 246, 3) := by decide +kernel
theorem dX8_staysWith_4 : decode cX8_staysWith 4 = .ok (.istore_n 3, 1) := by decide +kernel
theorem dX8_staysWith_5 : decode cX8_staysWith 5 = .ok (.aload_n 0, 1) := by decide +kernel
theorem dX8_staysWith_6 : decode cX8_staysWith 6 = .ok (.iload_n 1, 1) := by decide +kernel
theorem dX8_staysWith_7 : decode cX8_staysWith 7 = .ok (.invokevirtual 273, 3) := by decide +kernel
theorem dX8_staysWith_10 : decode cX8_staysWith 10 = .ok (.aload_n 0, 1) := by decide +kernel
theorem dX8_staysWith_11 : decode cX8_staysWith 11 = .ok (.getfield 19, 3) := by decide +kernel
theorem dX8_staysWith_14 : decode cX8_staysWith 14 = .ok (.iload_n 1, 1) := by decide +kernel
theorem dX8_staysWith_15 : decode cX8_staysWith 15 = .ok (.invokestatic 56, 3) := by decide +kernel
theorem dX8_staysWith_18 : decode cX8_staysWith 18 = .ok (.iconst 1, 1) := by decide +kernel
theorem dX8_staysWith_19 : decode cX8_staysWith 19 = .ok (.iadd, 1) := by decide +kernel
theorem dX8_staysWith_20 : decode cX8_staysWith 20 = .ok (.dup2, 1) := by decide +kernel
theorem dX8_staysWith_21 : decode cX8_staysWith 21 = .ok (.iaload, 1) := by decide +kernel
theorem dX8_staysWith_22 : decode cX8_staysWith 22 = .ok (.iload_n 2, 1) := by decide +kernel
theorem dX8_staysWith_23 : decode cX8_staysWith 23 = .ok (.iadd, 1) := by decide +kernel
theorem dX8_staysWith_24 : decode cX8_staysWith 24 = .ok (.iastore, 1) := by decide +kernel
theorem dX8_staysWith_25 : decode cX8_staysWith 25 = .ok (.aload_n 0, 1) := by decide +kernel
theorem dX8_staysWith_26 : decode cX8_staysWith 26 = .ok (.iload_n 3, 1) := by decide +kernel
theorem dX8_staysWith_27 : decode cX8_staysWith 27 = .ok (.invokevirtual 201, 3) := by decide +kernel
theorem dX8_staysWith_30 : decode cX8_staysWith 30 = .ok (.aload_n 0, 1) := by decide +kernel
theorem dX8_staysWith_31 : decode cX8_staysWith 31 = .ok (.getfield 37, 3) := by decide +kernel
theorem dX8_staysWith_34 : decode cX8_staysWith 34 = .ok (.iconst (-1), 1) := by decide +kernel
theorem dX8_staysWith_35 : decode cX8_staysWith 35 = .ok (.if_icmp .eq 7, 3) := by decide +kernel
theorem dX8_staysWith_38 : decode cX8_staysWith 38 = .ok (.iconst 1, 1) := by decide +kernel
theorem dX8_staysWith_39 : decode cX8_staysWith 39 = .ok (.goto 4, 3) := by decide +kernel
theorem dX8_staysWith_42 : decode cX8_staysWith 42 = .ok (.iconst 0, 1) := by decide +kernel
theorem dX8_staysWith_43 : decode cX8_staysWith 43 = .ok (.istore 4, 2) := by decide +kernel
theorem dX8_staysWith_45 : decode cX8_staysWith 45 = .ok (.aload_n 0, 1) := by decide +kernel
theorem dX8_staysWith_46 : decode cX8_staysWith 46 = .ok (.invokevirtual 234, 3) := by decide +kernel
theorem dX8_staysWith_49 : decode cX8_staysWith 49 = .ok (.iload 4, 2) := by decide +kernel
theorem dX8_staysWith_51 : decode cX8_staysWith 51 = .ok (.ireturn, 1) := by decide +kernel
theorem dX8_paymentToStay_0 : decode cX8_paymentToStay 0 = .ok (.aload_n 0, 1) := by decide +kernel
theorem dX8_paymentToStay_1 : decode cX8_paymentToStay 1 = .ok (.iload_n 1, 1) := by decide +kernel
theorem dX8_paymentToStay_2 : decode cX8_paymentToStay 2 = .ok (.invokevirtual 249, 3) := by decide +kernel
theorem dX8_paymentToStay_5 : decode cX8_paymentToStay 5 = .ok (.ifCond .ne 9, 3) := by decide +kernel
theorem dX8_paymentToStay_8 : decode cX8_paymentToStay 8 = .ok (.aload_n 0, 1) := by decide +kernel
theorem dX8_paymentToStay_9 : decode cX8_paymentToStay 9 = .ok (.iconst 1, 1) := by decide +kernel
theorem dX8_paymentToStay_10 : decode cX8_paymentToStay 10 = .ok (.invokevirtual 216, 3) := by decide +kernel
theorem dX8_paymentToStay_13 : decode cX8_paymentToStay 13 = .ok (.ireturn, 1) := by decide +kernel
theorem dX8_paymentToStay_14 : decode cX8_paymentToStay 14 = .ok (.aload_n 0, 1) := by decide +kernel
theorem dX8_paymentToStay_15 : decode cX8_paymentToStay 15 = .ok (.iload_n 1, 1) := by decide +kernel
theorem dX8_paymentToStay_16 : decode cX8_paymentToStay 16 = .ok (.iconst 0, 1) := by decide +kernel
theorem dX8_paymentToStay_17 : decode cX8_paymentToStay 17 = .ok (.invokevirtual 276, 3) := by decide +kernel
theorem dX8_paymentToStay_20 : decode cX8_paymentToStay 20 = .ok (.ifCond .eq 9, 3) := by decide +kernel
theorem dX8_paymentToStay_23 : decode cX8_paymentToStay 23 = .ok (.aload_n 0, 1) := by decide +kernel
theorem dX8_paymentToStay_24 : decode cX8_paymentToStay 24 = .ok (.iconst 0, 1) := by decide +kernel
theorem dX8_paymentToStay_25 : decode cX8_paymentToStay 25 = .ok (.invokevirtual 222, 3) := by decide +kernel
theorem dX8_paymentToStay_28 : decode cX8_paymentToStay 28 = .ok (.ireturn, 1) := by decide +kernel
theorem dX8_paymentToStay_29 : decode cX8_paymentToStay 29 = .ok (.aload_n 0, 1) := by decide +kernel
theorem dX8_paymentToStay_30 : decode cX8_paymentToStay 30 = .ok (.getfield 19, 3) := by decide +kernel
theorem dX8_paymentToStay_33 : decode cX8_paymentToStay 33 = .ok (.iload_n 1, 1) := by decide +kernel
theorem dX8_paymentToStay_34 : decode cX8_paymentToStay 34 = .ok (.invokestatic 56, 3) := by decide +kernel
theorem dX8_paymentToStay_37 : decode cX8_paymentToStay 37 = .ok (.iconst 1, 1) := by decide +kernel
theorem dX8_paymentToStay_38 : decode cX8_paymentToStay 38 = .ok (.iadd, 1) := by decide +kernel
theorem dX8_paymentToStay_39 : decode cX8_paymentToStay 39 = .ok (.iaload, 1) := by decide +kernel
theorem dX8_paymentToStay_40 : decode cX8_paymentToStay 40 = .ok (.istore_n 2, 1) := by decide +kernel
theorem dX8_paymentToStay_41 : decode cX8_paymentToStay 41 = .ok (.aload_n 0, 1) := by decide +kernel
theorem dX8_paymentToStay_42 : decode cX8_paymentToStay 42 = .ok (.aload_n 0, 1) := by decide +kernel
theorem dX8_paymentToStay_43 : decode cX8_paymentToStay 43 = .ok (.getfield 19, 3) := by decide +kernel
theorem dX8_paymentToStay_46 : decode cX8_paymentToStay 46 = .ok (.iload_n 1, 1) := by decide +kernel
theorem dX8_paymentToStay_47 : decode cX8_paymentToStay 47 = .ok (.invokestatic 56, 3) := by decide +kernel
theorem dX8_paymentToStay_50 : decode cX8_paymentToStay 50 = .ok (.iconst 0, 1) := by decide +kernel
theorem dX8_paymentToStay_51 : decode cX8_paymentToStay 51 = .ok (.iadd, 1) := by decide +kernel
theorem dX8_paymentToStay_52 : decode cX8_paymentToStay 52 = .ok (.iaload, 1) := by decide +kernel
theorem dX8_paymentToStay_53 : decode cX8_paymentToStay 53 = .ok (.invokevirtual 93, 3) := by decide +kernel
theorem dX8_paymentToStay_56 : decode cX8_paymentToStay 56 = .ok (.istore_n 3, 1) := by decide +kernel
theorem dX8_paymentToStay_57 : decode cX8_paymentToStay 57 = .ok (.iconst 1, 1) := by decide +kernel
theorem dX8_paymentToStay_58 : decode cX8_paymentToStay 58 = .ok (.istore 4, 2) := by decide +kernel
theorem dX8_paymentToStay_60 : decode cX8_paymentToStay 60 = .ok (.iload 4, 2) := by decide +kernel
theorem dX8_paymentToStay_62 : decode cX8_paymentToStay 62 = .ok (.aload_n 0, 1) := by decide +kernel
theorem dX8_paymentToStay_63 : decode cX8_paymentToStay 63 = .ok (.invokevirtual 246, 3) := by decide +kernel
theorem dX8_paymentToStay_66 : decode cX8_paymentToStay 66 = .ok (.if_icmp .gt 46, 3) := by decide +kernel
theorem dX8_paymentToStay_69 : decode cX8_paymentToStay 69 = .ok (.iload_n 3, 1) := by decide +kernel
theorem dX8_paymentToStay_70 : decode cX8_paymentToStay 70 = .ok (.iload 4, 2) := by decide +kernel
theorem dX8_paymentToStay_72 : decode cX8_paymentToStay 72 = .ok (.imul, 1) := by decide +kernel
theorem dX8_paymentToStay_73 : decode cX8_paymentToStay 73 = .ok (.iload_n 2, 1) := by decide +kernel
theorem dX8_paymentToStay_74 : decode cX8_paymentToStay 74 = .ok (.isub, 1) := by decide +kernel
theorem dX8_paymentToStay_75 : decode cX8_paymentToStay 75 = .ok (.istore 5, 2) := by decide +kernel
theorem dX8_paymentToStay_77 : decode cX8_paymentToStay 77 = .ok (.iload 5, 2) := by decide +kernel
theorem dX8_paymentToStay_79 : decode cX8_paymentToStay 79 = .ok (.iconst 1, 1) := by decide +kernel
theorem dX8_paymentToStay_80 : decode cX8_paymentToStay 80 = .ok (.sipush 999, 3) := by decide +kernel
theorem dX8_paymentToStay_83 : decode cX8_paymentToStay 83 = .ok (.invokestatic 66, 3) := by decide +kernel
theorem dX8_paymentToStay_86 : decode cX8_paymentToStay 86 = .ok (.ifCond .eq 20, 3) := by decide +kernel
theorem dX8_paymentToStay_89 : decode cX8_paymentToStay 89 = .ok (.aload_n 0, 1) := by decide +kernel
theorem dX8_paymentToStay_90 : decode cX8_paymentToStay 90 = .ok (.iload_n 1, 1) := by decide +kernel
theorem dX8_paymentToStay_91 : decode cX8_paymentToStay 91 = .ok (.iload 5, 2) := by decide +kernel
theorem dX8_paymentToStay_93 : decode cX8_paymentToStay 93 = .ok (.invokevirtual 276, 3) := by decide +kernel
theorem dX8_paymentToStay_96 : decode cX8_paymentToStay 96 = .ok (.ifCond .eq 10, 3) := by decide +kernel
theorem dX8_paymentToStay_99 : decode cX8_paymentToStay 99 = .ok (.aload_n 0, 1) := by decide +kernel
theorem dX8_paymentToStay_100 : decode cX8_paymentToStay 100 = .ok (.iload 5, 2) := by decide +kernel
theorem dX8_paymentToStay_102 : decode cX8_paymentToStay 102 = .ok (.invokevirtual 222, 3) := by decide +kernel
theorem dX8_paymentToStay_105 : decode cX8_paymentToStay 105 = .ok (.ireturn, 1) := by decide +kernel
theorem dX8_paymentToStay_106 : decode cX8_paymentToStay 106 = .ok (.iinc 4 1, 3) := by decide +kernel
theorem dX8_paymentToStay_109 : decode cX8_paymentToStay 109 = .ok (.goto (-49), 3) := by decide +kernel
theorem dX8_paymentToStay_112 : decode cX8_paymentToStay 112 = .ok (.aload_n 0, 1) := by decide +kernel
theorem dX8_paymentToStay_113 : decode cX8_paymentToStay 113 = .ok (.iconst (-1), 1) := by decide +kernel
theorem dX8_paymentToStay_114 : decode cX8_paymentToStay 114 = .ok (.invokevirtual 222, 3) := by decide +kernel
theorem dX8_paymentToStay_117 : decode cX8_paymentToStay 117 = .ok (.ireturn, 1) := by decide +kernel
theorem dX8_totalPaid_0 : decode cX8_totalPaid 0 = .ok (.aload_n 0, 1) := by decide +kernel
theorem dX8_totalPaid_1 : decode cX8_totalPaid 1 = .ok (.aload_n 0, 1) := by decide +kernel
theorem dX8_totalPaid_2 : decode cX8_totalPaid 2 = .ok (.getfield 19, 3) := by decide +kernel
theorem dX8_totalPaid_5 : decode cX8_totalPaid 5 = .ok (.bipush 10, 2) := by decide +kernel
theorem dX8_totalPaid_7 : decode cX8_totalPaid 7 = .ok (.iaload, 1) := by decide +kernel
theorem dX8_totalPaid_8 : decode cX8_totalPaid 8 = .ok (.invokevirtual 222, 3) := by decide +kernel
theorem dX8_totalPaid_11 : decode cX8_totalPaid 11 = .ok (.ireturn, 1) := by decide +kernel
theorem dX8_totalCharged_0 : decode cX8_totalCharged 0 = .ok (.aload_n 0, 1) := by decide +kernel
theorem dX8_totalCharged_1 : decode cX8_totalCharged 1 = .ok (.aload_n 0, 1) := by decide +kernel
theorem dX8_totalCharged_2 : decode cX8_totalCharged 2 = .ok (.getfield 19, 3) := by decide +kernel
theorem dX8_totalCharged_5 : decode cX8_totalCharged 5 = .ok (.bipush 11, 2) := by decide +kernel
theorem dX8_totalCharged_7 : decode cX8_totalCharged 7 = .ok (.iaload, 1) := by decide +kernel
theorem dX8_totalCharged_8 : decode cX8_totalCharged 8 = .ok (.invokevirtual 222, 3) := by decide +kernel
theorem dX8_totalCharged_11 : decode cX8_totalCharged 11 = .ok (.ireturn, 1) := by decide +kernel
theorem dX8_settled_0 : decode cX8_settled 0 = .ok (.aload_n 0, 1) := by decide +kernel
theorem dX8_settled_1 : decode cX8_settled 1 = .ok (.aload_n 0, 1) := by decide +kernel
theorem dX8_settled_2 : decode cX8_settled 2 = .ok (.getfield 19, 3) := by decide +kernel
theorem dX8_settled_5 : decode cX8_settled 5 = .ok (.bipush 12, 2) := by decide +kernel
theorem dX8_settled_7 : decode cX8_settled 7 = .ok (.iaload, 1) := by decide +kernel
theorem dX8_settled_8 : decode cX8_settled 8 = .ok (.invokevirtual 222, 3) := by decide +kernel
theorem dX8_settled_11 : decode cX8_settled 11 = .ok (.ireturn, 1) := by decide +kernel
theorem dX8_ledgerDifference_0 : decode cX8_ledgerDifference 0 = .ok (.aload_n 0, 1) := by decide +kernel
theorem dX8_ledgerDifference_1 : decode cX8_ledgerDifference 1 = .ok (.getfield 19, 3) := by decide +kernel
theorem dX8_ledgerDifference_4 : decode cX8_ledgerDifference 4 = .ok (.bipush 12, 2) := by decide +kernel
theorem dX8_ledgerDifference_6 : decode cX8_ledgerDifference 6 = .ok (.iaload, 1) := by decide +kernel
theorem dX8_ledgerDifference_7 : decode cX8_ledgerDifference 7 = .ok (.aload_n 0, 1) := by decide +kernel
theorem dX8_ledgerDifference_8 : decode cX8_ledgerDifference 8 = .ok (.getfield 19, 3) := by decide +kernel
theorem dX8_ledgerDifference_11 : decode cX8_ledgerDifference 11 = .ok (.bipush 10, 2) := by decide +kernel
theorem dX8_ledgerDifference_13 : decode cX8_ledgerDifference 13 = .ok (.iaload, 1) := by decide +kernel
theorem dX8_ledgerDifference_14 : decode cX8_ledgerDifference 14 = .ok (.isub, 1) := by decide +kernel
theorem dX8_ledgerDifference_15 : decode cX8_ledgerDifference 15 = .ok (.aload_n 0, 1) := by decide +kernel
theorem dX8_ledgerDifference_16 : decode cX8_ledgerDifference 16 = .ok (.getfield 19, 3) := by decide +kernel
theorem dX8_ledgerDifference_19 : decode cX8_ledgerDifference 19 = .ok (.bipush 11, 2) := by decide +kernel
theorem dX8_ledgerDifference_21 : decode cX8_ledgerDifference 21 = .ok (.iaload, 1) := by decide +kernel
theorem dX8_ledgerDifference_22 : decode cX8_ledgerDifference 22 = .ok (.iadd, 1) := by decide +kernel
theorem dX8_ledgerDifference_23 : decode cX8_ledgerDifference 23 = .ok (.istore_n 1, 1) := by decide +kernel
theorem dX8_ledgerDifference_24 : decode cX8_ledgerDifference 24 = .ok (.iconst 0, 1) := by decide +kernel
theorem dX8_ledgerDifference_25 : decode cX8_ledgerDifference 25 = .ok (.istore_n 2, 1) := by decide +kernel
theorem dX8_ledgerDifference_26 : decode cX8_ledgerDifference 26 = .ok (.iload_n 2, 1) := by decide +kernel
theorem dX8_ledgerDifference_27 : decode cX8_ledgerDifference 27 = .ok (.aload_n 0, 1) := by decide +kernel
theorem dX8_ledgerDifference_28 : decode cX8_ledgerDifference 28 = .ok (.getfield 19, 3) := by decide +kernel
theorem dX8_ledgerDifference_31 : decode cX8_ledgerDifference 31 = .ok (.bipush 7, 2) := by decide +kernel
theorem dX8_ledgerDifference_33 : decode cX8_ledgerDifference 33 = .ok (.iaload, 1) := by decide +kernel
theorem dX8_ledgerDifference_34 : decode cX8_ledgerDifference 34 = .ok (.if_icmp .ge 23, 3) := by decide +kernel
theorem dX8_ledgerDifference_37 : decode cX8_ledgerDifference 37 = .ok (.iload_n 1, 1) := by decide +kernel
theorem dX8_ledgerDifference_38 : decode cX8_ledgerDifference 38 = .ok (.aload_n 0, 1) := by decide +kernel
theorem dX8_ledgerDifference_39 : decode cX8_ledgerDifference 39 = .ok (.getfield 19, 3) := by decide +kernel
theorem dX8_ledgerDifference_42 : decode cX8_ledgerDifference 42 = .ok (.iload_n 2, 1) := by decide +kernel
theorem dX8_ledgerDifference_43 : decode cX8_ledgerDifference 43 = .ok (.invokestatic 56, 3) := by decide +kernel
theorem dX8_ledgerDifference_46 : decode cX8_ledgerDifference 46 = .ok (.iconst 1, 1) := by decide +kernel
theorem dX8_ledgerDifference_47 : decode cX8_ledgerDifference 47 = .ok (.iadd, 1) := by decide +kernel
theorem dX8_ledgerDifference_48 : decode cX8_ledgerDifference 48 = .ok (.iaload, 1) := by decide +kernel
theorem dX8_ledgerDifference_49 : decode cX8_ledgerDifference 49 = .ok (.iadd, 1) := by decide +kernel
theorem dX8_ledgerDifference_50 : decode cX8_ledgerDifference 50 = .ok (.istore_n 1, 1) := by decide +kernel
theorem dX8_ledgerDifference_51 : decode cX8_ledgerDifference 51 = .ok (.iinc 2 1, 3) := by decide +kernel
theorem dX8_ledgerDifference_54 : decode cX8_ledgerDifference 54 = .ok (.goto (-28), 3) := by decide +kernel
theorem dX8_ledgerDifference_57 : decode cX8_ledgerDifference 57 = .ok (.aload_n 0, 1) := by decide +kernel
theorem dX8_ledgerDifference_58 : decode cX8_ledgerDifference 58 = .ok (.iload_n 1, 1) := by decide +kernel
theorem dX8_ledgerDifference_59 : decode cX8_ledgerDifference 59 = .ok (.invokevirtual 222, 3) := by decide +kernel
theorem dX8_ledgerDifference_62 : decode cX8_ledgerDifference 62 = .ok (.ireturn, 1) := by decide +kernel
theorem dX8_advance_0 : decode cX8_advance 0 = .ok (.iload_n 1, 1) := by decide +kernel
theorem dX8_advance_1 : decode cX8_advance 1 = .ok (.iconst 1, 1) := by decide +kernel
theorem dX8_advance_2 : decode cX8_advance 2 = .ok (.bipush 100, 2) := by decide +kernel
theorem dX8_advance_4 : decode cX8_advance 4 = .ok (.invokestatic 66, 3) := by decide +kernel
theorem dX8_advance_7 : decode cX8_advance 7 = .ok (.ifCond .ne 9, 3) := by decide +kernel
theorem dX8_advance_10 : decode cX8_advance 10 = .ok (.aload_n 0, 1) := by decide +kernel
theorem dX8_advance_11 : decode cX8_advance 11 = .ok (.iconst 1, 1) := by decide +kernel
theorem dX8_advance_12 : decode cX8_advance 12 = .ok (.invokevirtual 216, 3) := by decide +kernel
theorem dX8_advance_15 : decode cX8_advance 15 = .ok (.ireturn, 1) := by decide +kernel
theorem dX8_advance_16 : decode cX8_advance 16 = .ok (.aload_n 0, 1) := by decide +kernel
theorem dX8_advance_17 : decode cX8_advance 17 = .ok (.getfield 19, 3) := by decide +kernel
theorem dX8_advance_20 : decode cX8_advance 20 = .ok (.bipush 8, 2) := by decide +kernel
theorem dX8_advance_22 : decode cX8_advance 22 = .ok (.iaload, 1) := by decide +kernel
theorem dX8_advance_23 : decode cX8_advance 23 = .ok (.iload_n 1, 1) := by decide +kernel
theorem dX8_advance_24 : decode cX8_advance 24 = .ok (.iadd, 1) := by decide +kernel
theorem dX8_advance_25 : decode cX8_advance 25 = .ok (.sipush 9999, 3) := by decide +kernel
theorem dX8_advance_28 : decode cX8_advance 28 = .ok (.if_icmp .le 9, 3) := by decide +kernel
theorem dX8_advance_31 : decode cX8_advance 31 = .ok (.aload_n 0, 1) := by decide +kernel
theorem dX8_advance_32 : decode cX8_advance 32 = .ok (.iconst 2, 1) := by decide +kernel
theorem dX8_advance_33 : decode cX8_advance 33 = .ok (.invokevirtual 216, 3) := by decide +kernel
theorem dX8_advance_36 : decode cX8_advance 36 = .ok (.ireturn, 1) := by decide +kernel
theorem dX8_advance_37 : decode cX8_advance 37 = .ok (.aload_n 0, 1) := by decide +kernel
theorem dX8_advance_38 : decode cX8_advance 38 = .ok (.invokevirtual 279, 3) := by decide +kernel
theorem dX8_advance_41 : decode cX8_advance 41 = .ok (.aload_n 0, 1) := by decide +kernel
theorem dX8_advance_42 : decode cX8_advance 42 = .ok (.getfield 19, 3) := by decide +kernel
theorem dX8_advance_45 : decode cX8_advance 45 = .ok (.bipush 9, 2) := by decide +kernel
theorem dX8_advance_47 : decode cX8_advance 47 = .ok (.iaload, 1) := by decide +kernel
theorem dX8_advance_48 : decode cX8_advance 48 = .ok (.istore_n 2, 1) := by decide +kernel
theorem dX8_advance_49 : decode cX8_advance 49 = .ok (.aload_n 0, 1) := by decide +kernel
theorem dX8_advance_50 : decode cX8_advance 50 = .ok (.iload_n 1, 1) := by decide +kernel
theorem dX8_advance_51 : decode cX8_advance 51 = .ok (.invokevirtual 201, 3) := by decide +kernel
theorem dX8_advance_54 : decode cX8_advance 54 = .ok (.aload_n 0, 1) := by decide +kernel
theorem dX8_advance_55 : decode cX8_advance 55 = .ok (.aload_n 0, 1) := by decide +kernel
theorem dX8_advance_56 : decode cX8_advance 56 = .ok (.getfield 19, 3) := by decide +kernel
theorem dX8_advance_59 : decode cX8_advance 59 = .ok (.bipush 9, 2) := by decide +kernel
theorem dX8_advance_61 : decode cX8_advance 61 = .ok (.iaload, 1) := by decide +kernel
theorem dX8_advance_62 : decode cX8_advance 62 = .ok (.iload_n 2, 1) := by decide +kernel
theorem dX8_advance_63 : decode cX8_advance 63 = .ok (.isub, 1) := by decide +kernel
theorem dX8_advance_64 : decode cX8_advance 64 = .ok (.invokevirtual 222, 3) := by decide +kernel
theorem dX8_advance_67 : decode cX8_advance 67 = .ok (.ireturn, 1) := by decide +kernel
theorem dX8_isTakenLetter_0 : decode cX8_isTakenLetter 0 = .ok (.iconst 0, 1) := by decide +kernel
theorem dX8_isTakenLetter_1 : decode cX8_isTakenLetter 1 = .ok (.istore_n 2, 1) := by decide +kernel
theorem dX8_isTakenLetter_2 : decode cX8_isTakenLetter 2 = .ok (.iload_n 2, 1) := by decide +kernel
theorem dX8_isTakenLetter_3 : decode cX8_isTakenLetter 3 = .ok (.aload_n 0, 1) := by decide +kernel
theorem dX8_isTakenLetter_4 : decode cX8_isTakenLetter 4 = .ok (.getfield 19, 3) := by decide +kernel
theorem dX8_isTakenLetter_7 : decode cX8_isTakenLetter 7 = .ok (.bipush 7, 2) := by decide +kernel
theorem dX8_isTakenLetter_9 : decode cX8_isTakenLetter 9 = .ok (.iaload, 1) := by decide +kernel
theorem dX8_isTakenLetter_10 : decode cX8_isTakenLetter 10 = .ok (.if_icmp .ge 36, 3) := by decide +kernel
theorem dX8_isTakenLetter_13 : decode cX8_isTakenLetter 13 = .ok (.aload_n 0, 1) := by decide +kernel
theorem dX8_isTakenLetter_14 : decode cX8_isTakenLetter 14 = .ok (.getfield 19, 3) := by decide +kernel
theorem dX8_isTakenLetter_17 : decode cX8_isTakenLetter 17 = .ok (.iload_n 2, 1) := by decide +kernel
theorem dX8_isTakenLetter_18 : decode cX8_isTakenLetter 18 = .ok (.invokestatic 56, 3) := by decide +kernel
theorem dX8_isTakenLetter_21 : decode cX8_isTakenLetter 21 = .ok (.bipush 10, 2) := by decide +kernel
theorem dX8_isTakenLetter_23 : decode cX8_isTakenLetter 23 = .ok (.iadd, 1) := by decide +kernel
theorem dX8_isTakenLetter_24 : decode cX8_isTakenLetter 24 = .ok (.iaload, 1) := by decide +kernel
theorem dX8_isTakenLetter_25 : decode cX8_isTakenLetter 25 = .ok (.iload_n 1, 1) := by decide +kernel
theorem dX8_isTakenLetter_26 : decode cX8_isTakenLetter 26 = .ok (.if_icmp .ne 14, 3) := by decide +kernel
theorem dX8_isTakenLetter_29 : decode cX8_isTakenLetter 29 = .ok (.aload_n 0, 1) := by decide +kernel
theorem dX8_isTakenLetter_30 : decode cX8_isTakenLetter 30 = .ok (.iload_n 2, 1) := by decide +kernel
theorem dX8_isTakenLetter_31 : decode cX8_isTakenLetter 31 = .ok (.invokevirtual 255, 3) := by decide +kernel
theorem dX8_isTakenLetter_34 : decode cX8_isTakenLetter 34 = .ok (.iconst 1, 1) := by decide +kernel
theorem dX8_isTakenLetter_35 : decode cX8_isTakenLetter 35 = .ok (.if_icmp .ne 5, 3) := by decide +kernel
theorem dX8_isTakenLetter_38 : decode cX8_isTakenLetter 38 = .ok (.iconst 1, 1) := by decide +kernel
theorem dX8_isTakenLetter_39 : decode cX8_isTakenLetter 39 = .ok (.ireturn, 1) := by decide +kernel
theorem dX8_isTakenLetter_40 : decode cX8_isTakenLetter 40 = .ok (.iinc 2 1, 3) := by decide +kernel
theorem dX8_isTakenLetter_43 : decode cX8_isTakenLetter 43 = .ok (.goto (-41), 3) := by decide +kernel
theorem dX8_isTakenLetter_46 : decode cX8_isTakenLetter 46 = .ok (.iconst 0, 1) := by decide +kernel
theorem dX8_isTakenLetter_47 : decode cX8_isTakenLetter 47 = .ok (.ireturn, 1) := by decide +kernel
theorem dX8_moveIn_0 : decode cX8_moveIn 0 = .ok (.iload_n 1, 1) := by decide +kernel
theorem dX8_moveIn_1 : decode cX8_moveIn 1 = .ok (.invokestatic 240, 3) := by decide +kernel
theorem dX8_moveIn_4 : decode cX8_moveIn 4 = .ok (.ifCond .eq 25, 3) := by decide +kernel
theorem dX8_moveIn_7 : decode cX8_moveIn 7 = .ok (.iload_n 2, 1) := by decide +kernel
theorem dX8_moveIn_8 : decode cX8_moveIn 8 = .ok (.iconst 0, 1) := by decide +kernel
theorem dX8_moveIn_9 : decode cX8_moveIn 9 = .ok (.sipush 999, 3) := by decide +kernel
theorem dX8_moveIn_12 : decode cX8_moveIn 12 = .ok (.invokestatic 66, 3) := by decide +kernel
theorem dX8_moveIn_15 : decode cX8_moveIn 15 = .ok (.ifCond .eq 14, 3) := by decide +kernel
theorem dX8_moveIn_18 : decode cX8_moveIn 18 = .ok (.iload_n 3, 1) := by decide +kernel
theorem dX8_moveIn_19 : decode cX8_moveIn 19 = .ok (.iconst 0, 1) := by decide +kernel
theorem dX8_moveIn_20 : decode cX8_moveIn 20 = .ok (.ldc_w 282, 3) := by decide +kernel
theorem dX8_moveIn_23 : decode cX8_moveIn 23 = .ok (.invokestatic 66, 3) := by decide +kernel
theorem dX8_moveIn_26 : decode cX8_moveIn 26 = .ok (.ifCond .ne 9, 3) := by decide +kernel
theorem dX8_moveIn_29 : decode cX8_moveIn 29 = .ok (.aload_n 0, 1) := by decide +kernel
theorem dX8_moveIn_30 : decode cX8_moveIn 30 = .ok (.iconst 1, 1) := by decide +kernel
theorem dX8_moveIn_31 : decode cX8_moveIn 31 = .ok (.invokevirtual 216, 3) := by decide +kernel
theorem dX8_moveIn_34 : decode cX8_moveIn 34 = .ok (.ireturn, 1) := by decide +kernel
theorem dX8_moveIn_35 : decode cX8_moveIn 35 = .ok (.aload_n 0, 1) := by decide +kernel
theorem dX8_moveIn_36 : decode cX8_moveIn 36 = .ok (.getfield 19, 3) := by decide +kernel
theorem dX8_moveIn_39 : decode cX8_moveIn 39 = .ok (.bipush 7, 2) := by decide +kernel
theorem dX8_moveIn_41 : decode cX8_moveIn 41 = .ok (.iaload, 1) := by decide +kernel
theorem dX8_moveIn_42 : decode cX8_moveIn 42 = .ok (.bipush 12, 2) := by decide +kernel
theorem dX8_moveIn_44 : decode cX8_moveIn 44 = .ok (.if_icmp .eq 13, 3) := by decide +kernel
theorem dX8_moveIn_47 : decode cX8_moveIn 47 = .ok (.aload_n 0, 1) := by decide +kernel
theorem dX8_moveIn_48 : decode cX8_moveIn 48 = .ok (.iload_n 1, 1) := by decide +kernel
theorem dX8_moveIn_49 : decode cX8_moveIn 49 = .ok (.iconst (-1), 1) := by decide +kernel
theorem dX8_moveIn_50 : decode cX8_moveIn 50 = .ok (.invokevirtual 80, 3) := by decide +kernel
theorem dX8_moveIn_53 : decode cX8_moveIn 53 = .ok (.iconst 4, 1) := by decide +kernel
theorem dX8_moveIn_54 : decode cX8_moveIn 54 = .ok (.if_icmp .ne 9, 3) := by decide +kernel
theorem dX8_moveIn_57 : decode cX8_moveIn 57 = .ok (.aload_n 0, 1) := by decide +kernel
theorem dX8_moveIn_58 : decode cX8_moveIn 58 = .ok (.iconst 2, 1) := by decide +kernel
theorem dX8_moveIn_59 : decode cX8_moveIn 59 = .ok (.invokevirtual 216, 3) := by decide +kernel
theorem dX8_moveIn_62 : decode cX8_moveIn 62 = .ok (.ireturn, 1) := by decide +kernel
theorem dX8_moveIn_63 : decode cX8_moveIn 63 = .ok (.aload_n 0, 1) := by decide +kernel
theorem dX8_moveIn_64 : decode cX8_moveIn 64 = .ok (.invokevirtual 279, 3) := by decide +kernel
theorem dX8_moveIn_67 : decode cX8_moveIn 67 = .ok (.bipush 97, 2) := by decide +kernel
theorem dX8_moveIn_69 : decode cX8_moveIn 69 = .ok (.istore 4, 2) := by decide +kernel
theorem dX8_moveIn_71 : decode cX8_moveIn 71 = .ok (.aload_n 0, 1) := by decide +kernel
theorem dX8_moveIn_72 : decode cX8_moveIn 72 = .ok (.iload 4, 2) := by decide +kernel
theorem dX8_moveIn_74 : decode cX8_moveIn 74 = .ok (.invokevirtual 283, 3) := by decide +kernel
theorem dX8_moveIn_77 : decode cX8_moveIn 77 = .ok (.ifCond .eq 9, 3) := by decide +kernel
theorem dX8_moveIn_80 : decode cX8_moveIn 80 = .ok (.iinc 4 1, 3) := by decide +kernel
theorem dX8_moveIn_83 : decode cX8_moveIn 83 = .ok (.goto (-12), 3) := by decide +kernel
theorem dX8_moveIn_86 : decode cX8_moveIn 86 = .ok (.aload_n 0, 1) := by decide +kernel
theorem dX8_moveIn_87 : decode cX8_moveIn 87 = .ok (.iload_n 1, 1) := by decide +kernel
theorem dX8_moveIn_88 : decode cX8_moveIn 88 = .ok (.iload_n 2, 1) := by decide +kernel
theorem dX8_moveIn_89 : decode cX8_moveIn 89 = .ok (.iload_n 3, 1) := by decide +kernel
theorem dX8_moveIn_90 : decode cX8_moveIn 90 = .ok (.invokevirtual 52, 3) := by decide +kernel
theorem dX8_moveIn_93 : decode cX8_moveIn 93 = .ok (.aload_n 0, 1) := by decide +kernel
theorem dX8_moveIn_94 : decode cX8_moveIn 94 = .ok (.getfield 19, 3) := by decide +kernel
theorem dX8_moveIn_97 : decode cX8_moveIn 97 = .ok (.aload_n 0, 1) := by decide +kernel
theorem dX8_moveIn_98 : decode cX8_moveIn 98 = .ok (.getfield 19, 3) := by decide +kernel
theorem dX8_moveIn_101 : decode cX8_moveIn 101 = .ok (.bipush 7, 2) := by decide +kernel
theorem dX8_moveIn_103 : decode cX8_moveIn 103 = .ok (.iaload, 1) := by decide +kernel
theorem dX8_moveIn_104 : decode cX8_moveIn 104 = .ok (.iconst 1, 1) := by decide +kernel
theorem dX8_moveIn_105 : decode cX8_moveIn 105 = .ok (.isub, 1) := by decide +kernel
theorem dX8_moveIn_106 : decode cX8_moveIn 106 = .ok (.invokestatic 56, 3) := by decide +kernel
theorem dX8_moveIn_109 : decode cX8_moveIn 109 = .ok (.bipush 10, 2) := by decide +kernel
theorem dX8_moveIn_111 : decode cX8_moveIn 111 = .ok (.iadd, 1) := by decide +kernel
theorem dX8_moveIn_112 : decode cX8_moveIn 112 = .ok (.iload 4, 2) := by decide +kernel
theorem dX8_moveIn_114 : decode cX8_moveIn 114 = .ok (.iastore, 1) := by decide +kernel
theorem dX8_moveIn_115 : decode cX8_moveIn 115 = .ok (.aload_n 0, 1) := by decide +kernel
theorem dX8_moveIn_116 : decode cX8_moveIn 116 = .ok (.aload_n 0, 1) := by decide +kernel
theorem dX8_moveIn_117 : decode cX8_moveIn 117 = .ok (.getfield 19, 3) := by decide +kernel
theorem dX8_moveIn_120 : decode cX8_moveIn 120 = .ok (.bipush 7, 2) := by decide +kernel
theorem dX8_moveIn_122 : decode cX8_moveIn 122 = .ok (.iaload, 1) := by decide +kernel
theorem dX8_moveIn_123 : decode cX8_moveIn 123 = .ok (.iconst 1, 1) := by decide +kernel
theorem dX8_moveIn_124 : decode cX8_moveIn 124 = .ok (.isub, 1) := by decide +kernel
theorem dX8_moveIn_125 : decode cX8_moveIn 125 = .ok (.invokevirtual 222, 3) := by decide +kernel
theorem dX8_moveIn_128 : decode cX8_moveIn 128 = .ok (.ireturn, 1) := by decide +kernel
theorem dX8_moveOut_0 : decode cX8_moveOut 0 = .ok (.aload_n 0, 1) := by decide +kernel
theorem dX8_moveOut_1 : decode cX8_moveOut 1 = .ok (.iload_n 1, 1) := by decide +kernel
theorem dX8_moveOut_2 : decode cX8_moveOut 2 = .ok (.invokevirtual 249, 3) := by decide +kernel
theorem dX8_moveOut_5 : decode cX8_moveOut 5 = .ok (.ifCond .ne 9, 3) := by decide +kernel
theorem dX8_moveOut_8 : decode cX8_moveOut 8 = .ok (.aload_n 0, 1) := by decide +kernel
theorem dX8_moveOut_9 : decode cX8_moveOut 9 = .ok (.iconst 1, 1) := by decide +kernel
theorem dX8_moveOut_10 : decode cX8_moveOut 10 = .ok (.invokevirtual 216, 3) := by decide +kernel
theorem dX8_moveOut_13 : decode cX8_moveOut 13 = .ok (.ireturn, 1) := by decide +kernel
theorem dX8_moveOut_14 : decode cX8_moveOut 14 = .ok (.aload_n 0, 1) := by decide +kernel
theorem dX8_moveOut_15 : decode cX8_moveOut 15 = .ok (.invokevirtual 279, 3) := by decide +kernel
theorem dX8_moveOut_18 : decode cX8_moveOut 18 = .ok (.aload_n 0, 1) := by decide +kernel
theorem dX8_moveOut_19 : decode cX8_moveOut 19 = .ok (.getfield 19, 3) := by decide +kernel
theorem dX8_moveOut_22 : decode cX8_moveOut 22 = .ok (.iload_n 1, 1) := by decide +kernel
theorem dX8_moveOut_23 : decode cX8_moveOut 23 = .ok (.invokestatic 56, 3) := by decide +kernel
theorem dX8_moveOut_26 : decode cX8_moveOut 26 = .ok (.iconst 1, 1) := by decide +kernel
theorem dX8_moveOut_27 : decode cX8_moveOut 27 = .ok (.iadd, 1) := by decide +kernel
theorem dX8_moveOut_28 : decode cX8_moveOut 28 = .ok (.iaload, 1) := by decide +kernel
theorem dX8_moveOut_29 : decode cX8_moveOut 29 = .ok (.istore_n 2, 1) := by decide +kernel
theorem dX8_moveOut_30 : decode cX8_moveOut 30 = .ok (.aload_n 0, 1) := by decide +kernel
theorem dX8_moveOut_31 : decode cX8_moveOut 31 = .ok (.iload_n 1, 1) := by decide +kernel
theorem dX8_moveOut_32 : decode cX8_moveOut 32 = .ok (.invokevirtual 108, 3) := by decide +kernel
theorem dX8_moveOut_35 : decode cX8_moveOut 35 = .ok (.aload_n 0, 1) := by decide +kernel
theorem dX8_moveOut_36 : decode cX8_moveOut 36 = .ok (.iload_n 2, 1) := by decide +kernel
theorem dX8_moveOut_37 : decode cX8_moveOut 37 = .ok (.invokevirtual 222, 3) := by decide +kernel
theorem dX8_moveOut_40 : decode cX8_moveOut 40 = .ok (.ireturn, 1) := by decide +kernel
theorem dX8_sets_0 : decode cX8_sets 0 = .ok (.aload_n 0, 1) := by decide +kernel
theorem dX8_sets_1 : decode cX8_sets 1 = .ok (.invokevirtual 279, 3) := by decide +kernel
theorem dX8_sets_4 : decode cX8_sets 4 = .ok (.aload_n 0, 1) := by decide +kernel
theorem dX8_sets_5 : decode cX8_sets 5 = .ok (.getfield 19, 3) := by decide +kernel
theorem dX8_sets_8 : decode cX8_sets 8 = .ok (.iload_n 1, 1) := by decide +kernel
theorem dX8_sets_9 : decode cX8_sets 9 = .ok (.iaload, 1) := by decide +kernel
theorem dX8_sets_10 : decode cX8_sets 10 = .ok (.istore_n 3, 1) := by decide +kernel
theorem dX8_sets_11 : decode cX8_sets 11 = .ok (.aload_n 0, 1) := by decide +kernel
theorem dX8_sets_12 : decode cX8_sets 12 = .ok (.getfield 19, 3) := by decide +kernel
theorem dX8_sets_15 : decode cX8_sets 15 = .ok (.iload_n 1, 1) := by decide +kernel
theorem dX8_sets_16 : decode cX8_sets 16 = .ok (.iload_n 2, 1) := by decide +kernel
theorem dX8_sets_17 : decode cX8_sets 17 = .ok (.iastore, 1) := by decide +kernel
theorem dX8_sets_18 : decode cX8_sets 18 = .ok (.iload_n 3, 1) := by decide +kernel
theorem dX8_sets_19 : decode cX8_sets 19 = .ok (.ireturn, 1) := by decide +kernel
theorem dX8_moveTo_0 : decode cX8_moveTo 0 = .ok (.aload_n 0, 1) := by decide +kernel
theorem dX8_moveTo_1 : decode cX8_moveTo 1 = .ok (.iload_n 1, 1) := by decide +kernel
theorem dX8_moveTo_2 : decode cX8_moveTo 2 = .ok (.invokevirtual 249, 3) := by decide +kernel
theorem dX8_moveTo_5 : decode cX8_moveTo 5 = .ok (.ifCond .ne 9, 3) := by decide +kernel
theorem dX8_moveTo_8 : decode cX8_moveTo 8 = .ok (.aload_n 0, 1) := by decide +kernel
theorem dX8_moveTo_9 : decode cX8_moveTo 9 = .ok (.iconst 1, 1) := by decide +kernel
theorem dX8_moveTo_10 : decode cX8_moveTo 10 = .ok (.invokevirtual 216, 3) := by decide +kernel
theorem dX8_moveTo_13 : decode cX8_moveTo 13 = .ok (.ireturn, 1) := by decide +kernel
theorem dX8_moveTo_14 : decode cX8_moveTo 14 = .ok (.iload_n 2, 1) := by decide +kernel
theorem dX8_moveTo_15 : decode cX8_moveTo 15 = .ok (.invokestatic 240, 3) := by decide +kernel
theorem dX8_moveTo_18 : decode cX8_moveTo 18 = .ok (.ifCond .ne 9, 3) := by decide +kernel
theorem dX8_moveTo_21 : decode cX8_moveTo 21 = .ok (.aload_n 0, 1) := by decide +kernel
theorem dX8_moveTo_22 : decode cX8_moveTo 22 = .ok (.iconst 2, 1) := by decide +kernel
theorem dX8_moveTo_23 : decode cX8_moveTo 23 = .ok (.invokevirtual 216, 3) := by decide +kernel
theorem dX8_moveTo_26 : decode cX8_moveTo 26 = .ok (.ireturn, 1) := by decide +kernel
theorem dX8_moveTo_27 : decode cX8_moveTo 27 = .ok (.aload_n 0, 1) := by decide +kernel
theorem dX8_moveTo_28 : decode cX8_moveTo 28 = .ok (.iload_n 2, 1) := by decide +kernel
theorem dX8_moveTo_29 : decode cX8_moveTo 29 = .ok (.iload_n 1, 1) := by decide +kernel
theorem dX8_moveTo_30 : decode cX8_moveTo 30 = .ok (.invokevirtual 80, 3) := by decide +kernel
theorem dX8_moveTo_33 : decode cX8_moveTo 33 = .ok (.iconst 4, 1) := by decide +kernel
theorem dX8_moveTo_34 : decode cX8_moveTo 34 = .ok (.if_icmp .ne 9, 3) := by decide +kernel
theorem dX8_moveTo_37 : decode cX8_moveTo 37 = .ok (.aload_n 0, 1) := by decide +kernel
theorem dX8_moveTo_38 : decode cX8_moveTo 38 = .ok (.iconst 3, 1) := by decide +kernel
theorem dX8_moveTo_39 : decode cX8_moveTo 39 = .ok (.invokevirtual 216, 3) := by decide +kernel
theorem dX8_moveTo_42 : decode cX8_moveTo 42 = .ok (.ireturn, 1) := by decide +kernel
theorem dX8_moveTo_43 : decode cX8_moveTo 43 = .ok (.aload_n 0, 1) := by decide +kernel
theorem dX8_moveTo_44 : decode cX8_moveTo 44 = .ok (.aload_n 0, 1) := by decide +kernel
theorem dX8_moveTo_45 : decode cX8_moveTo 45 = .ok (.iload_n 1, 1) := by decide +kernel
theorem dX8_moveTo_46 : decode cX8_moveTo 46 = .ok (.invokestatic 56, 3) := by decide +kernel
theorem dX8_moveTo_49 : decode cX8_moveTo 49 = .ok (.iconst 0, 1) := by decide +kernel
theorem dX8_moveTo_50 : decode cX8_moveTo 50 = .ok (.iadd, 1) := by decide +kernel
theorem dX8_moveTo_51 : decode cX8_moveTo 51 = .ok (.iload_n 2, 1) := by decide +kernel
theorem dX8_moveTo_52 : decode cX8_moveTo 52 = .ok (.invokevirtual 286, 3) := by decide +kernel
theorem dX8_moveTo_55 : decode cX8_moveTo 55 = .ok (.invokevirtual 222, 3) := by decide +kernel
theorem dX8_moveTo_58 : decode cX8_moveTo 58 = .ok (.ireturn, 1) := by decide +kernel
theorem dX8_pay_0 : decode cX8_pay 0 = .ok (.aload_n 0, 1) := by decide +kernel
theorem dX8_pay_1 : decode cX8_pay 1 = .ok (.iload_n 1, 1) := by decide +kernel
theorem dX8_pay_2 : decode cX8_pay 2 = .ok (.invokevirtual 249, 3) := by decide +kernel
theorem dX8_pay_5 : decode cX8_pay 5 = .ok (.ifCond .ne 9, 3) := by decide +kernel
theorem dX8_pay_8 : decode cX8_pay 8 = .ok (.aload_n 0, 1) := by decide +kernel
theorem dX8_pay_9 : decode cX8_pay 9 = .ok (.iconst 1, 1) := by decide +kernel
theorem dX8_pay_10 : decode cX8_pay 10 = .ok (.invokevirtual 216, 3) := by decide +kernel
theorem dX8_pay_13 : decode cX8_pay 13 = .ok (.ireturn, 1) := by decide +kernel
theorem dX8_pay_14 : decode cX8_pay 14 = .ok (.iload_n 2, 1) := by decide +kernel
theorem dX8_pay_15 : decode cX8_pay 15 = .ok (.iconst 1, 1) := by decide +kernel
theorem dX8_pay_16 : decode cX8_pay 16 = .ok (.sipush 999, 3) := by decide +kernel
theorem dX8_pay_19 : decode cX8_pay 19 = .ok (.invokestatic 66, 3) := by decide +kernel
theorem dX8_pay_22 : decode cX8_pay 22 = .ok (.ifCond .ne 9, 3) := by decide +kernel
theorem dX8_pay_25 : decode cX8_pay 25 = .ok (.aload_n 0, 1) := by decide +kernel
theorem dX8_pay_26 : decode cX8_pay 26 = .ok (.iconst 2, 1) := by decide +kernel
theorem dX8_pay_27 : decode cX8_pay 27 = .ok (.invokevirtual 216, 3) := by decide +kernel
theorem dX8_pay_30 : decode cX8_pay 30 = .ok (.ireturn, 1) := by decide +kernel
theorem dX8_pay_31 : decode cX8_pay 31 = .ok (.aload_n 0, 1) := by decide +kernel
theorem dX8_pay_32 : decode cX8_pay 32 = .ok (.invokevirtual 279, 3) := by decide +kernel
theorem dX8_pay_35 : decode cX8_pay 35 = .ok (.aload_n 0, 1) := by decide +kernel
theorem dX8_pay_36 : decode cX8_pay 36 = .ok (.iload_n 1, 1) := by decide +kernel
theorem dX8_pay_37 : decode cX8_pay 37 = .ok (.iload_n 2, 1) := by decide +kernel
theorem dX8_pay_38 : decode cX8_pay 38 = .ok (.invokevirtual 188, 3) := by decide +kernel
theorem dX8_pay_41 : decode cX8_pay 41 = .ok (.aload_n 0, 1) := by decide +kernel
theorem dX8_pay_42 : decode cX8_pay 42 = .ok (.aload_n 0, 1) := by decide +kernel
theorem dX8_pay_43 : decode cX8_pay 43 = .ok (.getfield 19, 3) := by decide +kernel
theorem dX8_pay_46 : decode cX8_pay 46 = .ok (.iload_n 1, 1) := by decide +kernel
theorem dX8_pay_47 : decode cX8_pay 47 = .ok (.invokestatic 56, 3) := by decide +kernel
theorem dX8_pay_50 : decode cX8_pay 50 = .ok (.iconst 1, 1) := by decide +kernel
theorem dX8_pay_51 : decode cX8_pay 51 = .ok (.iadd, 1) := by decide +kernel
theorem dX8_pay_52 : decode cX8_pay 52 = .ok (.iaload, 1) := by decide +kernel
theorem dX8_pay_53 : decode cX8_pay 53 = .ok (.invokevirtual 222, 3) := by decide +kernel
theorem dX8_pay_56 : decode cX8_pay 56 = .ok (.ireturn, 1) := by decide +kernel
theorem dX8_setLandladyVowel_0 : decode cX8_setLandladyVowel 0 = .ok (.iload_n 1, 1) := by decide +kernel
theorem dX8_setLandladyVowel_1 : decode cX8_setLandladyVowel 1 = .ok (.invokestatic 243, 3) := by decide +kernel
theorem dX8_setLandladyVowel_4 : decode cX8_setLandladyVowel 4 = .ok (.ifCond .ne 9, 3) := by decide +kernel
theorem dX8_setLandladyVowel_7 : decode cX8_setLandladyVowel 7 = .ok (.aload_n 0, 1) := by decide +kernel
theorem dX8_setLandladyVowel_8 : decode cX8_setLandladyVowel 8 = .ok (.iconst 1, 1) := by decide +kernel
theorem dX8_setLandladyVowel_9 : decode cX8_setLandladyVowel 9 = .ok (.invokevirtual 216, 3) := by decide +kernel
theorem dX8_setLandladyVowel_12 : decode cX8_setLandladyVowel 12 = .ok (.ireturn, 1) := by decide +kernel
theorem dX8_setLandladyVowel_13 : decode cX8_setLandladyVowel 13 = .ok (.iload_n 2, 1) := by decide +kernel
theorem dX8_setLandladyVowel_14 : decode cX8_setLandladyVowel 14 = .ok (.iconst 0, 1) := by decide +kernel
theorem dX8_setLandladyVowel_15 : decode cX8_setLandladyVowel 15 = .ok (.bipush 9, 2) := by decide +kernel
theorem dX8_setLandladyVowel_17 : decode cX8_setLandladyVowel 17 = .ok (.invokestatic 66, 3) := by decide +kernel
theorem dX8_setLandladyVowel_20 : decode cX8_setLandladyVowel 20 = .ok (.ifCond .ne 9, 3) := by decide +kernel
theorem dX8_setLandladyVowel_23 : decode cX8_setLandladyVowel 23 = .ok (.aload_n 0, 1) := by decide +kernel
theorem dX8_setLandladyVowel_24 : decode cX8_setLandladyVowel 24 = .ok (.iconst 2, 1) := by decide +kernel
theorem dX8_setLandladyVowel_25 : decode cX8_setLandladyVowel 25 = .ok (.invokevirtual 216, 3) := by decide +kernel
theorem dX8_setLandladyVowel_28 : decode cX8_setLandladyVowel 28 = .ok (.ireturn, 1) := by decide +kernel
theorem dX8_setLandladyVowel_29 : decode cX8_setLandladyVowel 29 = .ok (.aload_n 0, 1) := by decide +kernel
theorem dX8_setLandladyVowel_30 : decode cX8_setLandladyVowel 30 = .ok (.aload_n 0, 1) := by decide +kernel
theorem dX8_setLandladyVowel_31 : decode cX8_setLandladyVowel 31 = .ok (.iconst 2, 1) := by decide +kernel
theorem dX8_setLandladyVowel_32 : decode cX8_setLandladyVowel 32 = .ok (.iload_n 1, 1) := by decide +kernel
theorem dX8_setLandladyVowel_33 : decode cX8_setLandladyVowel 33 = .ok (.iadd, 1) := by decide +kernel
theorem dX8_setLandladyVowel_34 : decode cX8_setLandladyVowel 34 = .ok (.iload_n 2, 1) := by decide +kernel
theorem dX8_setLandladyVowel_35 : decode cX8_setLandladyVowel 35 = .ok (.invokevirtual 286, 3) := by decide +kernel
theorem dX8_setLandladyVowel_38 : decode cX8_setLandladyVowel 38 = .ok (.invokevirtual 222, 3) := by decide +kernel
theorem dX8_setLandladyVowel_41 : decode cX8_setLandladyVowel 41 = .ok (.ireturn, 1) := by decide +kernel
theorem dX8_setTolerance_0 : decode cX8_setTolerance 0 = .ok (.iload_n 1, 1) := by decide +kernel
theorem dX8_setTolerance_1 : decode cX8_setTolerance 1 = .ok (.iconst 0, 1) := by decide +kernel
theorem dX8_setTolerance_2 : decode cX8_setTolerance 2 = .ok (.bipush 45, 2) := by decide +kernel
theorem dX8_setTolerance_4 : decode cX8_setTolerance 4 = .ok (.invokestatic 66, 3) := by decide +kernel
theorem dX8_setTolerance_7 : decode cX8_setTolerance 7 = .ok (.ifCond .eq 16, 3) := by decide +kernel
theorem dX8_setTolerance_10 : decode cX8_setTolerance 10 = .ok (.aload_n 0, 1) := by decide +kernel
theorem dX8_setTolerance_11 : decode cX8_setTolerance 11 = .ok (.aload_n 0, 1) := by decide +kernel
theorem dX8_setTolerance_12 : decode cX8_setTolerance 12 = .ok (.iconst 1, 1) := by decide +kernel
theorem dX8_setTolerance_13 : decode cX8_setTolerance 13 = .ok (.iload_n 1, 1) := by decide +kernel
theorem dX8_setTolerance_14 : decode cX8_setTolerance 14 = .ok (.invokevirtual 286, 3) := by decide +kernel
theorem dX8_setTolerance_17 : decode cX8_setTolerance 17 = .ok (.invokevirtual 222, 3) := by decide +kernel
theorem dX8_setTolerance_20 : decode cX8_setTolerance 20 = .ok (.goto 8, 3) := by decide +kernel
theorem dX8_setTolerance_23 : decode cX8_setTolerance 23 = .ok (.aload_n 0, 1) := by decide +kernel
theorem dX8_setTolerance_24 : decode cX8_setTolerance 24 = .ok (.iconst 1, 1) := by decide +kernel
theorem dX8_setTolerance_25 : decode cX8_setTolerance 25 = .ok (.invokevirtual 216, 3) := by decide +kernel
theorem dX8_setTolerance_28 : decode cX8_setTolerance 28 = .ok (.ireturn, 1) := by decide +kernel
theorem dX8_setBaseRent_0 : decode cX8_setBaseRent 0 = .ok (.iload_n 1, 1) := by decide +kernel
theorem dX8_setBaseRent_1 : decode cX8_setBaseRent 1 = .ok (.iconst 0, 1) := by decide +kernel
theorem dX8_setBaseRent_2 : decode cX8_setBaseRent 2 = .ok (.bipush 50, 2) := by decide +kernel
theorem dX8_setBaseRent_4 : decode cX8_setBaseRent 4 = .ok (.invokestatic 66, 3) := by decide +kernel
theorem dX8_setBaseRent_7 : decode cX8_setBaseRent 7 = .ok (.ifCond .eq 16, 3) := by decide +kernel
theorem dX8_setBaseRent_10 : decode cX8_setBaseRent 10 = .ok (.aload_n 0, 1) := by decide +kernel
theorem dX8_setBaseRent_11 : decode cX8_setBaseRent 11 = .ok (.aload_n 0, 1) := by decide +kernel
theorem dX8_setBaseRent_12 : decode cX8_setBaseRent 12 = .ok (.iconst 0, 1) := by decide +kernel
theorem dX8_setBaseRent_13 : decode cX8_setBaseRent 13 = .ok (.iload_n 1, 1) := by decide +kernel
theorem dX8_setBaseRent_14 : decode cX8_setBaseRent 14 = .ok (.invokevirtual 286, 3) := by decide +kernel
theorem dX8_setBaseRent_17 : decode cX8_setBaseRent 17 = .ok (.invokevirtual 222, 3) := by decide +kernel
theorem dX8_setBaseRent_20 : decode cX8_setBaseRent 20 = .ok (.goto 8, 3) := by decide +kernel
theorem dX8_setBaseRent_23 : decode cX8_setBaseRent 23 = .ok (.aload_n 0, 1) := by decide +kernel
theorem dX8_setBaseRent_24 : decode cX8_setBaseRent 24 = .ok (.iconst 1, 1) := by decide +kernel
theorem dX8_setBaseRent_25 : decode cX8_setBaseRent 25 = .ok (.invokevirtual 216, 3) := by decide +kernel
theorem dX8_setBaseRent_28 : decode cX8_setBaseRent 28 = .ok (.ireturn, 1) := by decide +kernel
theorem dX8_restore_0 : decode cX8_restore 0 = .ok (.iload_n 1, 1) := by decide +kernel
theorem dX8_restore_1 : decode cX8_restore 1 = .ok (.iconst 0, 1) := by decide +kernel
theorem dX8_restore_2 : decode cX8_restore 2 = .ok (.iconst 1, 1) := by decide +kernel
theorem dX8_restore_3 : decode cX8_restore 3 = .ok (.invokestatic 66, 3) := by decide +kernel
theorem dX8_restore_6 : decode cX8_restore 6 = .ok (.ifCond .ne 9, 3) := by decide +kernel
theorem dX8_restore_9 : decode cX8_restore 9 = .ok (.aload_n 0, 1) := by decide +kernel
theorem dX8_restore_10 : decode cX8_restore 10 = .ok (.iconst 1, 1) := by decide +kernel
theorem dX8_restore_11 : decode cX8_restore 11 = .ok (.invokevirtual 216, 3) := by decide +kernel
theorem dX8_restore_14 : decode cX8_restore 14 = .ok (.ireturn, 1) := by decide +kernel
theorem dX8_restore_15 : decode cX8_restore 15 = .ok (.aload_n 0, 1) := by decide +kernel
theorem dX8_restore_16 : decode cX8_restore 16 = .ok (.getfield 237, 3) := by decide +kernel
theorem dX8_restore_19 : decode cX8_restore 19 = .ok (.iload_n 1, 1) := by decide +kernel
theorem dX8_restore_20 : decode cX8_restore 20 = .ok (.ishr, 1) := by decide +kernel
theorem dX8_restore_21 : decode cX8_restore 21 = .ok (.iconst 1, 1) := by decide +kernel
theorem dX8_restore_22 : decode cX8_restore 22 = .ok (.iand, 1) := by decide +kernel
theorem dX8_restore_23 : decode cX8_restore 23 = .ok (.ifCond .ne 9, 3) := by decide +kernel
theorem dX8_restore_26 : decode cX8_restore 26 = .ok (.aload_n 0, 1) := by decide +kernel
theorem dX8_restore_27 : decode cX8_restore 27 = .ok (.iconst 2, 1) := by decide +kernel
theorem dX8_restore_28 : decode cX8_restore 28 = .ok (.invokevirtual 216, 3) := by decide +kernel
theorem dX8_restore_31 : decode cX8_restore 31 = .ok (.ireturn, 1) := by decide +kernel
theorem dX8_restore_32 : decode cX8_restore 32 = .ok (.aload_n 0, 1) := by decide +kernel
theorem dX8_restore_33 : decode cX8_restore 33 = .ok (.invokevirtual 279, 3) := by decide +kernel
theorem dX8_restore_36 : decode cX8_restore 36 = .ok (.iconst 0, 1) := by decide +kernel
theorem dX8_restore_37 : decode cX8_restore 37 = .ok (.istore_n 2, 1) := by decide +kernel
theorem dX8_restore_38 : decode cX8_restore 38 = .ok (.iload_n 2, 1) := by decide +kernel
theorem dX8_restore_39 : decode cX8_restore 39 = .ok (.sipush 205, 3) := by decide +kernel
theorem dX8_restore_42 : decode cX8_restore 42 = .ok (.if_icmp .ge 27, 3) := by decide +kernel
theorem dX8_restore_45 : decode cX8_restore 45 = .ok (.aload_n 0, 1) := by decide +kernel
theorem dX8_restore_46 : decode cX8_restore 46 = .ok (.getfield 19, 3) := by decide +kernel
theorem dX8_restore_49 : decode cX8_restore 49 = .ok (.iload_n 2, 1) := by decide +kernel
theorem dX8_restore_50 : decode cX8_restore 50 = .ok (.aload_n 0, 1) := by decide +kernel
theorem dX8_restore_51 : decode cX8_restore 51 = .ok (.getfield 28, 3) := by decide +kernel
theorem dX8_restore_54 : decode cX8_restore 54 = .ok (.iload_n 1, 1) := by decide +kernel
theorem dX8_restore_55 : decode cX8_restore 55 = .ok (.sipush 205, 3) := by decide +kernel
theorem dX8_restore_58 : decode cX8_restore 58 = .ok (.imul, 1) := by decide +kernel
theorem dX8_restore_59 : decode cX8_restore 59 = .ok (.iload_n 2, 1) := by decide +kernel
theorem dX8_restore_60 : decode cX8_restore 60 = .ok (.iadd, 1) := by decide +kernel
theorem dX8_restore_61 : decode cX8_restore 61 = .ok (.iaload, 1) := by decide +kernel
theorem dX8_restore_62 : decode cX8_restore 62 = .ok (.iastore, 1) := by decide +kernel
theorem dX8_restore_63 : decode cX8_restore 63 = .ok (.iinc 2 1, 3) := by decide +kernel
theorem dX8_restore_66 : decode cX8_restore 66 = .ok (.goto (-28), 3) := by decide +kernel
theorem dX8_restore_69 : decode cX8_restore 69 = .ok (.aload_n 0, 1) := by decide +kernel
theorem dX8_restore_70 : decode cX8_restore 70 = .ok (.aload_n 0, 1) := by decide +kernel
theorem dX8_restore_71 : decode cX8_restore 71 = .ok (.getfield 19, 3) := by decide +kernel
theorem dX8_restore_74 : decode cX8_restore 74 = .ok (.bipush 8, 2) := by decide +kernel
theorem dX8_restore_76 : decode cX8_restore 76 = .ok (.iaload, 1) := by decide +kernel
theorem dX8_restore_77 : decode cX8_restore 77 = .ok (.invokevirtual 222, 3) := by decide +kernel
theorem dX8_restore_80 : decode cX8_restore 80 = .ok (.ireturn, 1) := by decide +kernel
theorem dX8_undo_0 : decode cX8_undo 0 = .ok (.aload_n 0, 1) := by decide +kernel
theorem dX8_undo_1 : decode cX8_undo 1 = .ok (.getfield 127, 3) := by decide +kernel
theorem dX8_undo_4 : decode cX8_undo 4 = .ok (.ifCond .ne 9, 3) := by decide +kernel
theorem dX8_undo_7 : decode cX8_undo 7 = .ok (.aload_n 0, 1) := by decide +kernel
theorem dX8_undo_8 : decode cX8_undo 8 = .ok (.iconst 1, 1) := by decide +kernel
theorem dX8_undo_9 : decode cX8_undo 9 = .ok (.invokevirtual 216, 3) := by decide +kernel
theorem dX8_undo_12 : decode cX8_undo 12 = .ok (.ireturn, 1) := by decide +kernel
theorem dX8_undo_13 : decode cX8_undo 13 = .ok (.aload_n 0, 1) := by decide +kernel
theorem dX8_undo_14 : decode cX8_undo 14 = .ok (.dup, 1) := by decide +kernel
theorem dX8_undo_15 : decode cX8_undo 15 = .ok (.getfield 127, 3) := by decide +kernel
theorem dX8_undo_18 : decode cX8_undo 18 = .ok (.iconst 1, 1) := by decide +kernel
theorem dX8_undo_19 : decode cX8_undo 19 = .ok (.isub, 1) := by decide +kernel
theorem dX8_undo_20 : decode cX8_undo 20 = .ok (.putfield 127, 3) := by decide +kernel
theorem dX8_undo_23 : decode cX8_undo 23 = .ok (.iconst 0, 1) := by decide +kernel
theorem dX8_undo_24 : decode cX8_undo 24 = .ok (.istore_n 1, 1) := by decide +kernel
theorem dX8_undo_25 : decode cX8_undo 25 = .ok (.iload_n 1, 1) := by decide +kernel
theorem dX8_undo_26 : decode cX8_undo 26 = .ok (.sipush 205, 3) := by decide +kernel
theorem dX8_undo_29 : decode cX8_undo 29 = .ok (.if_icmp .ge 30, 3) := by decide +kernel
theorem dX8_undo_32 : decode cX8_undo 32 = .ok (.aload_n 0, 1) := by decide +kernel
theorem dX8_undo_33 : decode cX8_undo 33 = .ok (.getfield 19, 3) := by decide +kernel
theorem dX8_undo_36 : decode cX8_undo 36 = .ok (.iload_n 1, 1) := by decide +kernel
theorem dX8_undo_37 : decode cX8_undo 37 = .ok (.aload_n 0, 1) := by decide +kernel
theorem dX8_undo_38 : decode cX8_undo 38 = .ok (.getfield 25, 3) := by decide +kernel
theorem dX8_undo_41 : decode cX8_undo 41 = .ok (.aload_n 0, 1) := by decide +kernel
theorem dX8_undo_42 : decode cX8_undo 42 = .ok (.getfield 127, 3) := by decide +kernel
theorem dX8_undo_45 : decode cX8_undo 45 = .ok (.sipush 205, 3) := by decide +kernel
theorem dX8_undo_48 : decode cX8_undo 48 = .ok (.imul, 1) := by decide +kernel
theorem dX8_undo_49 : decode cX8_undo 49 = .ok (.iload_n 1, 1) := by decide +kernel
theorem dX8_undo_50 : decode cX8_undo 50 = .ok (.iadd, 1) := by decide +kernel
theorem dX8_undo_51 : decode cX8_undo 51 = .ok (.iaload, 1) := by decide +kernel
theorem dX8_undo_52 : decode cX8_undo 52 = .ok (.iastore, 1) := by decide +kernel
theorem dX8_undo_53 : decode cX8_undo 53 = .ok (.iinc 1 1, 3) := by decide +kernel
theorem dX8_undo_56 : decode cX8_undo 56 = .ok (.goto (-31), 3) := by decide +kernel
theorem dX8_undo_59 : decode cX8_undo 59 = .ok (.aload_n 0, 1) := by decide +kernel
theorem dX8_undo_60 : decode cX8_undo 60 = .ok (.aload_n 0, 1) := by decide +kernel
theorem dX8_undo_61 : decode cX8_undo 61 = .ok (.getfield 127, 3) := by decide +kernel
theorem dX8_undo_64 : decode cX8_undo 64 = .ok (.invokevirtual 222, 3) := by decide +kernel
theorem dX8_undo_67 : decode cX8_undo 67 = .ok (.ireturn, 1) := by decide +kernel
theorem dX8_save_0 : decode cX8_save 0 = .ok (.iload_n 1, 1) := by decide +kernel
theorem dX8_save_1 : decode cX8_save 1 = .ok (.iconst 0, 1) := by decide +kernel
theorem dX8_save_2 : decode cX8_save 2 = .ok (.iconst 1, 1) := by decide +kernel
theorem dX8_save_3 : decode cX8_save 3 = .ok (.invokestatic 66, 3) := by decide +kernel
theorem dX8_save_6 : decode cX8_save 6 = .ok (.ifCond .ne 9, 3) := by decide +kernel
theorem dX8_save_9 : decode cX8_save 9 = .ok (.aload_n 0, 1) := by decide +kernel
theorem dX8_save_10 : decode cX8_save 10 = .ok (.iconst 1, 1) := by decide +kernel
theorem dX8_save_11 : decode cX8_save 11 = .ok (.invokevirtual 216, 3) := by decide +kernel
theorem dX8_save_14 : decode cX8_save 14 = .ok (.ireturn, 1) := by decide +kernel
theorem dX8_save_15 : decode cX8_save 15 = .ok (.iconst 0, 1) := by decide +kernel
theorem dX8_save_16 : decode cX8_save 16 = .ok (.istore_n 2, 1) := by decide +kernel
theorem dX8_save_17 : decode cX8_save 17 = .ok (.iload_n 2, 1) := by decide +kernel
theorem dX8_save_18 : decode cX8_save 18 = .ok (.sipush 205, 3) := by decide +kernel
theorem dX8_save_21 : decode cX8_save 21 = .ok (.if_icmp .ge 27, 3) := by decide +kernel
theorem dX8_save_24 : decode cX8_save 24 = .ok (.aload_n 0, 1) := by decide +kernel
theorem dX8_save_25 : decode cX8_save 25 = .ok (.getfield 28, 3) := by decide +kernel
theorem dX8_save_28 : decode cX8_save 28 = .ok (.iload_n 1, 1) := by decide +kernel
theorem dX8_save_29 : decode cX8_save 29 = .ok (.sipush 205, 3) := by decide +kernel
theorem dX8_save_32 : decode cX8_save 32 = .ok (.imul, 1) := by decide +kernel
theorem dX8_save_33 : decode cX8_save 33 = .ok (.iload_n 2, 1) := by decide +kernel
theorem dX8_save_34 : decode cX8_save 34 = .ok (.iadd, 1) := by decide +kernel
theorem dX8_save_35 : decode cX8_save 35 = .ok (.aload_n 0, 1) := by decide +kernel
theorem dX8_save_36 : decode cX8_save 36 = .ok (.getfield 19, 3) := by decide +kernel
theorem dX8_save_39 : decode cX8_save 39 = .ok (.iload_n 2, 1) := by decide +kernel
theorem dX8_save_40 : decode cX8_save 40 = .ok (.iaload, 1) := by decide +kernel
theorem dX8_save_41 : decode cX8_save 41 = .ok (.iastore, 1) := by decide +kernel
theorem dX8_save_42 : decode cX8_save 42 = .ok (.iinc 2 1, 3) := by decide +kernel
theorem dX8_save_45 : decode cX8_save 45 = .ok (.goto (-28), 3) := by decide +kernel
theorem dX8_save_48 : decode cX8_save 48 = .ok (.aload_n 0, 1) := by decide +kernel
theorem dX8_save_49 : decode cX8_save 49 = .ok (.dup, 1) := by decide +kernel
theorem dX8_save_50 : decode cX8_save 50 = .ok (.getfield 237, 3) := by decide +kernel
theorem dX8_save_53 : decode cX8_save 53 = .ok (.iconst 1, 1) := by decide +kernel
theorem dX8_save_54 : decode cX8_save 54 = .ok (.iload_n 1, 1) := by decide +kernel
theorem dX8_save_55 : decode cX8_save 55 = .ok (.ishl, 1) := by decide +kernel
theorem dX8_save_56 : decode cX8_save 56 = .ok (.ior, 1) := by decide +kernel
theorem dX8_save_57 : decode cX8_save 57 = .ok (.putfield 237, 3) := by decide +kernel
theorem dX8_save_60 : decode cX8_save 60 = .ok (.aload_n 0, 1) := by decide +kernel
theorem dX8_save_61 : decode cX8_save 61 = .ok (.aload_n 0, 1) := by decide +kernel
theorem dX8_save_62 : decode cX8_save 62 = .ok (.getfield 19, 3) := by decide +kernel
theorem dX8_save_65 : decode cX8_save 65 = .ok (.bipush 8, 2) := by decide +kernel
theorem dX8_save_67 : decode cX8_save 67 = .ok (.iaload, 1) := by decide +kernel
theorem dX8_save_68 : decode cX8_save 68 = .ok (.invokevirtual 222, 3) := by decide +kernel
theorem dX8_save_71 : decode cX8_save 71 = .ok (.ireturn, 1) := by decide +kernel
theorem dX8_writes_0 : decode cX8_writes 0 = .ok (.aload_n 0, 1) := by decide +kernel
theorem dX8_writes_1 : decode cX8_writes 1 = .ok (.getfield 45, 3) := by decide +kernel
theorem dX8_writes_4 : decode cX8_writes 4 = .ok (.aload_n 0, 1) := by decide +kernel
theorem dX8_writes_5 : decode cX8_writes 5 = .ok (.getfield 289, 3) := by decide +kernel
theorem dX8_writes_8 : decode cX8_writes 8 = .ok (.iload_n 1, 1) := by decide +kernel
theorem dX8_writes_9 : decode cX8_writes 9 = .ok (.i2c, 1) := by decide +kernel
theorem dX8_writes_10 : decode cX8_writes 10 = .ok (.castore, 1) := by decide +kernel
theorem dX8_writes_11 : decode cX8_writes 11 = .ok (.aload_n 0, 1) := by decide +kernel
theorem dX8_writes_12 : decode cX8_writes 12 = .ok (.dup, 1) := by decide +kernel
theorem dX8_writes_13 : decode cX8_writes 13 = .ok (.getfield 289, 3) := by decide +kernel
theorem dX8_writes_16 : decode cX8_writes 16 = .ok (.iconst 1, 1) := by decide +kernel
theorem dX8_writes_17 : decode cX8_writes 17 = .ok (.iadd, 1) := by decide +kernel
theorem dX8_writes_18 : decode cX8_writes 18 = .ok (.putfield 289, 3) := by decide +kernel
theorem dX8_writes_21 : decode cX8_writes 21 = .ok (.return_, 1) := by decide +kernel
theorem dX8_writesName_0 : decode cX8_writesName 0 = .ok (.iconst 0, 1) := by decide +kernel
theorem dX8_writesName_1 : decode cX8_writesName 1 = .ok (.istore_n 2, 1) := by decide +kernel
theorem dX8_writesName_2 : decode cX8_writesName 2 = .ok (.iload_n 2, 1) := by decide +kernel
theorem dX8_writesName_3 : decode cX8_writesName 3 = .ok (.aload_n 0, 1) := by decide +kernel
theorem dX8_writesName_4 : decode cX8_writesName 4 = .ok (.iload_n 1, 1) := by decide +kernel
theorem dX8_writesName_5 : decode cX8_writesName 5 = .ok (.invokevirtual 255, 3) := by decide +kernel
theorem dX8_writesName_8 : decode cX8_writesName 8 = .ok (.if_icmp .ge 27, 3) := by decide +kernel
theorem dX8_writesName_11 : decode cX8_writesName 11 = .ok (.aload_n 0, 1) := by decide +kernel
theorem dX8_writesName_12 : decode cX8_writesName 12 = .ok (.aload_n 0, 1) := by decide +kernel
theorem dX8_writesName_13 : decode cX8_writesName 13 = .ok (.getfield 19, 3) := by decide +kernel
theorem dX8_writesName_16 : decode cX8_writesName 16 = .ok (.iload_n 1, 1) := by decide +kernel
theorem dX8_writesName_17 : decode cX8_writesName 17 = .ok (.invokestatic 56, 3) := by decide +kernel
theorem dX8_writesName_20 : decode cX8_writesName 20 = .ok (.bipush 10, 2) := by decide +kernel
theorem dX8_writesName_22 : decode cX8_writesName 22 = .ok (.iadd, 1) := by decide +kernel
theorem dX8_writesName_23 : decode cX8_writesName 23 = .ok (.iload_n 2, 1) := by decide +kernel
theorem dX8_writesName_24 : decode cX8_writesName 24 = .ok (.iadd, 1) := by decide +kernel
theorem dX8_writesName_25 : decode cX8_writesName 25 = .ok (.iaload, 1) := by decide +kernel
theorem dX8_writesName_26 : decode cX8_writesName 26 = .ok (.invokevirtual 292, 3) := by decide +kernel
theorem dX8_writesName_29 : decode cX8_writesName 29 = .ok (.iinc 2 1, 3) := by decide +kernel
theorem dX8_writesName_32 : decode cX8_writesName 32 = .ok (.goto (-30), 3) := by decide +kernel
theorem dX8_writesName_35 : decode cX8_writesName 35 = .ok (.return_, 1) := by decide +kernel
theorem dX8_writesNumber_0 : decode cX8_writesNumber 0 = .ok (.iload_n 1, 1) := by decide +kernel
theorem dX8_writesNumber_1 : decode cX8_writesNumber 1 = .ok (.ifCond .ge 9, 3) := by decide +kernel
theorem dX8_writesNumber_4 : decode cX8_writesNumber 4 = .ok (.aload_n 0, 1) := by decide +kernel
theorem dX8_writesNumber_5 : decode cX8_writesNumber 5 = .ok (.bipush 45, 2) := by decide +kernel
theorem dX8_writesNumber_7 : decode cX8_writesNumber 7 = .ok (.invokevirtual 292, 3) := by decide +kernel
theorem dX8_writesNumber_10 : decode cX8_writesNumber 10 = .ok (.iload_n 1, 1) := by decide +kernel
theorem dX8_writesNumber_11 : decode cX8_writesNumber 11 = .ok (.invokestatic 77, 3) := by decide +kernel
theorem dX8_writesNumber_14 : decode cX8_writesNumber 14 = .ok (.istore_n 2, 1) := by decide +kernel
theorem dX8_writesNumber_15 : decode cX8_writesNumber 15 = .ok (.iconst 1, 1) := by decide +kernel
theorem dX8_writesNumber_16 : decode cX8_writesNumber 16 = .ok (.istore_n 3, 1) := by decide +kernel
theorem dX8_writesNumber_17 : decode cX8_writesNumber 17 = .ok (.iload_n 2, 1) := by decide +kernel
theorem dX8_writesNumber_18 : decode cX8_writesNumber 18 = .ok (.iload_n 3, 1) := by decide +kernel
theorem dX8_writesNumber_19 : decode cX8_writesNumber 19 = .ok (.idiv, 1) := by decide +kernel
theorem dX8_writesNumber_20 : decode cX8_writesNumber 20 = .ok (.bipush 9, 2) := by decide +kernel
theorem dX8_writesNumber_22 : decode cX8_writesNumber 22 = .ok (.if_icmp .le 11, 3) := by decide +kernel
theorem dX8_writesNumber_25 : decode cX8_writesNumber 25 = .ok (.iload_n 3, 1) := by decide +kernel
theorem dX8_writesNumber_26 : decode cX8_writesNumber 26 = .ok (.bipush 10, 2) := by decide +kernel
theorem dX8_writesNumber_28 : decode cX8_writesNumber 28 = .ok (.imul, 1) := by decide +kernel
theorem dX8_writesNumber_29 : decode cX8_writesNumber 29 = .ok (.istore_n 3, 1) := by decide +kernel
theorem dX8_writesNumber_30 : decode cX8_writesNumber 30 = .ok (.goto (-13), 3) := by decide +kernel
theorem dX8_writesNumber_33 : decode cX8_writesNumber 33 = .ok (.iload_n 3, 1) := by decide +kernel
theorem dX8_writesNumber_34 : decode cX8_writesNumber 34 = .ok (.ifCond .le 24, 3) := by decide +kernel
theorem dX8_writesNumber_37 : decode cX8_writesNumber 37 = .ok (.aload_n 0, 1) := by decide +kernel
theorem dX8_writesNumber_38 : decode cX8_writesNumber 38 = .ok (.bipush 48, 2) := by decide +kernel
theorem dX8_writesNumber_40 : decode cX8_writesNumber 40 = .ok (.iload_n 2, 1) := by decide +kernel
theorem dX8_writesNumber_41 : decode cX8_writesNumber 41 = .ok (.iload_n 3, 1) := by decide +kernel
theorem dX8_writesNumber_42 : decode cX8_writesNumber 42 = .ok (.idiv, 1) := by decide +kernel
theorem dX8_writesNumber_43 : decode cX8_writesNumber 43 = .ok (.bipush 10, 2) := by decide +kernel
theorem dX8_writesNumber_45 : decode cX8_writesNumber 45 = .ok (.irem, 1) := by decide +kernel
theorem dX8_writesNumber_46 : decode cX8_writesNumber 46 = .ok (.iadd, 1) := by decide +kernel
theorem dX8_writesNumber_47 : decode cX8_writesNumber 47 = .ok (.invokevirtual 292, 3) := by decide +kernel
theorem dX8_writesNumber_50 : decode cX8_writesNumber 50 = .ok (.iload_n 3, 1) := by decide +kernel
theorem dX8_writesNumber_51 : decode cX8_writesNumber 51 = .ok (.bipush 10, 2) := by decide +kernel
theorem dX8_writesNumber_53 : decode cX8_writesNumber 53 = .ok (.idiv, 1) := by decide +kernel
theorem dX8_writesNumber_54 : decode cX8_writesNumber 54 = .ok (.istore_n 3, 1) := by decide +kernel
theorem dX8_writesNumber_55 : decode cX8_writesNumber 55 = .ok (.goto (-22), 3) := by decide +kernel
theorem dX8_writesNumber_58 : decode cX8_writesNumber 58 = .ok (.return_, 1) := by decide +kernel
theorem dX8_writeLodger_0 : decode cX8_writeLodger 0 = .ok (.aload_n 0, 1) := by decide +kernel
theorem dX8_writeLodger_1 : decode cX8_writeLodger 1 = .ok (.iload_n 1, 1) := by decide +kernel
theorem dX8_writeLodger_2 : decode cX8_writeLodger 2 = .ok (.invokevirtual 249, 3) := by decide +kernel
theorem dX8_writeLodger_5 : decode cX8_writeLodger 5 = .ok (.ifCond .ne 9, 3) := by decide +kernel
theorem dX8_writeLodger_8 : decode cX8_writeLodger 8 = .ok (.aload_n 0, 1) := by decide +kernel
theorem dX8_writeLodger_9 : decode cX8_writeLodger 9 = .ok (.iconst 1, 1) := by decide +kernel
theorem dX8_writeLodger_10 : decode cX8_writeLodger 10 = .ok (.invokevirtual 216, 3) := by decide +kernel
theorem dX8_writeLodger_13 : decode cX8_writeLodger 13 = .ok (.ireturn, 1) := by decide +kernel
theorem dX8_writeLodger_14 : decode cX8_writeLodger 14 = .ok (.aload_n 0, 1) := by decide +kernel
theorem dX8_writeLodger_15 : decode cX8_writeLodger 15 = .ok (.iconst 0, 1) := by decide +kernel
theorem dX8_writeLodger_16 : decode cX8_writeLodger 16 = .ok (.putfield 289, 3) := by decide +kernel
theorem dX8_writeLodger_19 : decode cX8_writeLodger 19 = .ok (.aload_n 0, 1) := by decide +kernel
theorem dX8_writeLodger_20 : decode cX8_writeLodger 20 = .ok (.iload_n 1, 1) := by decide +kernel
theorem dX8_writeLodger_21 : decode cX8_writeLodger 21 = .ok (.invokevirtual 295, 3) := by decide +kernel
theorem dX8_writeLodger_24 : decode cX8_writeLodger 24 = .ok (.aload_n 0, 1) := by decide +kernel
theorem dX8_writeLodger_25 : decode cX8_writeLodger 25 = .ok (.bipush 32, 2) := by decide +kernel
theorem dX8_writeLodger_27 : decode cX8_writeLodger 27 = .ok (.invokevirtual 292, 3) := by decide +kernel
theorem dX8_writeLodger_30 : decode cX8_writeLodger 30 = .ok (.iconst 0, 1) := by decide +kernel
theorem dX8_writeLodger_31 : decode cX8_writeLodger 31 = .ok (.istore_n 2, 1) := by decide +kernel
theorem dX8_writeLodger_32 : decode cX8_writeLodger 32 = .ok (.iload_n 2, 1) := by decide +kernel
theorem dX8_writeLodger_33 : decode cX8_writeLodger 33 = .ok (.iconst 5, 1) := by decide +kernel
theorem dX8_writeLodger_34 : decode cX8_writeLodger 34 = .ok (.if_icmp .ge 22, 3) := by decide +kernel
theorem dX8_writeLodger_37 : decode cX8_writeLodger 37 = .ok (.aload_n 0, 1) := by decide +kernel
theorem dX8_writeLodger_38 : decode cX8_writeLodger 38 = .ok (.bipush 48, 2) := by decide +kernel
theorem dX8_writeLodger_40 : decode cX8_writeLodger 40 = .ok (.aload_n 0, 1) := by decide +kernel
theorem dX8_writeLodger_41 : decode cX8_writeLodger 41 = .ok (.iload_n 1, 1) := by decide +kernel
theorem dX8_writeLodger_42 : decode cX8_writeLodger 42 = .ok (.iload_n 2, 1) := by decide +kernel
theorem dX8_writeLodger_43 : decode cX8_writeLodger 43 = .ok (.invokevirtual 73, 3) := by decide +kernel
theorem dX8_writeLodger_46 : decode cX8_writeLodger 46 = .ok (.iadd, 1) := by decide +kernel
theorem dX8_writeLodger_47 : decode cX8_writeLodger 47 = .ok (.invokevirtual 292, 3) := by decide +kernel
theorem dX8_writeLodger_50 : decode cX8_writeLodger 50 = .ok (.iinc 2 1, 3) := by decide +kernel
theorem dX8_writeLodger_53 : decode cX8_writeLodger 53 = .ok (.goto (-21), 3) := by decide +kernel
theorem dX8_writeLodger_56 : decode cX8_writeLodger 56 = .ok (.aload_n 0, 1) := by decide +kernel
theorem dX8_writeLodger_57 : decode cX8_writeLodger 57 = .ok (.bipush 32, 2) := by decide +kernel
theorem dX8_writeLodger_59 : decode cX8_writeLodger 59 = .ok (.invokevirtual 292, 3) := by decide +kernel
theorem dX8_writeLodger_62 : decode cX8_writeLodger 62 = .ok (.aload_n 0, 1) := by decide +kernel
theorem dX8_writeLodger_63 : decode cX8_writeLodger 63 = .ok (.aload_n 0, 1) := by decide +kernel
theorem dX8_writeLodger_64 : decode cX8_writeLodger 64 = .ok (.getfield 19, 3) := by decide +kernel
theorem dX8_writeLodger_67 : decode cX8_writeLodger 67 = .ok (.iload_n 1, 1) := by decide +kernel
theorem dX8_writeLodger_68 : decode cX8_writeLodger 68 = .ok (.invokestatic 56, 3) := by decide +kernel
theorem dX8_writeLodger_71 : decode cX8_writeLodger 71 = .ok (.iconst 1, 1) := by decide +kernel
theorem dX8_writeLodger_72 : decode cX8_writeLodger 72 = .ok (.iadd, 1) := by decide +kernel
theorem dX8_writeLodger_73 : decode cX8_writeLodger 73 = .ok (.iaload, 1) := by decide +kernel
theorem dX8_writeLodger_74 : decode cX8_writeLodger 74 = .ok (.invokevirtual 298, 3) := by decide +kernel
theorem dX8_writeLodger_77 : decode cX8_writeLodger 77 = .ok (.aload_n 0, 1) := by decide +kernel
theorem dX8_writeLodger_78 : decode cX8_writeLodger 78 = .ok (.aload_n 0, 1) := by decide +kernel
theorem dX8_writeLodger_79 : decode cX8_writeLodger 79 = .ok (.getfield 289, 3) := by decide +kernel
theorem dX8_writeLodger_82 : decode cX8_writeLodger 82 = .ok (.invokevirtual 222, 3) := by decide +kernel
theorem dX8_writeLodger_85 : decode cX8_writeLodger 85 = .ok (.ireturn, 1) := by decide +kernel
theorem dX8_writeFloor_0 : decode cX8_writeFloor 0 = .ok (.iload_n 1, 1) := by decide +kernel
theorem dX8_writeFloor_1 : decode cX8_writeFloor 1 = .ok (.invokestatic 240, 3) := by decide +kernel
theorem dX8_writeFloor_4 : decode cX8_writeFloor 4 = .ok (.ifCond .ne 9, 3) := by decide +kernel
theorem dX8_writeFloor_7 : decode cX8_writeFloor 7 = .ok (.aload_n 0, 1) := by decide +kernel
theorem dX8_writeFloor_8 : decode cX8_writeFloor 8 = .ok (.iconst 1, 1) := by decide +kernel
theorem dX8_writeFloor_9 : decode cX8_writeFloor 9 = .ok (.invokevirtual 216, 3) := by decide +kernel
theorem dX8_writeFloor_12 : decode cX8_writeFloor 12 = .ok (.ireturn, 1) := by decide +kernel
theorem dX8_writeFloor_13 : decode cX8_writeFloor 13 = .ok (.aload_n 0, 1) := by decide +kernel
theorem dX8_writeFloor_14 : decode cX8_writeFloor 14 = .ok (.iconst 0, 1) := by decide +kernel
theorem dX8_writeFloor_15 : decode cX8_writeFloor 15 = .ok (.putfield 289, 3) := by decide +kernel
theorem dX8_writeFloor_18 : decode cX8_writeFloor 18 = .ok (.iconst 0, 1) := by decide +kernel
theorem dX8_writeFloor_19 : decode cX8_writeFloor 19 = .ok (.istore_n 2, 1) := by decide +kernel
theorem dX8_writeFloor_20 : decode cX8_writeFloor 20 = .ok (.iload_n 2, 1) := by decide +kernel
theorem dX8_writeFloor_21 : decode cX8_writeFloor 21 = .ok (.aload_n 0, 1) := by decide +kernel
theorem dX8_writeFloor_22 : decode cX8_writeFloor 22 = .ok (.getfield 19, 3) := by decide +kernel
theorem dX8_writeFloor_25 : decode cX8_writeFloor 25 = .ok (.bipush 7, 2) := by decide +kernel
theorem dX8_writeFloor_27 : decode cX8_writeFloor 27 = .ok (.iaload, 1) := by decide +kernel
theorem dX8_writeFloor_28 : decode cX8_writeFloor 28 = .ok (.if_icmp .ge 42, 3) := by decide +kernel
theorem dX8_writeFloor_31 : decode cX8_writeFloor 31 = .ok (.aload_n 0, 1) := by decide +kernel
theorem dX8_writeFloor_32 : decode cX8_writeFloor 32 = .ok (.getfield 19, 3) := by decide +kernel
theorem dX8_writeFloor_35 : decode cX8_writeFloor 35 = .ok (.iload_n 2, 1) := by decide +kernel
theorem dX8_writeFloor_36 : decode cX8_writeFloor 36 = .ok (.invokestatic 56, 3) := by decide +kernel
theorem dX8_writeFloor_39 : decode cX8_writeFloor 39 = .ok (.iconst 0, 1) := by decide +kernel
theorem dX8_writeFloor_40 : decode cX8_writeFloor 40 = .ok (.iadd, 1) := by decide +kernel
theorem dX8_writeFloor_41 : decode cX8_writeFloor 41 = .ok (.iaload, 1) := by decide +kernel
theorem dX8_writeFloor_42 : decode cX8_writeFloor 42 = .ok (.iload_n 1, 1) := by decide +kernel
theorem dX8_writeFloor_43 : decode cX8_writeFloor 43 = .ok (.if_icmp .ne 21, 3) := by decide +kernel
theorem dX8_writeFloor_46 : decode cX8_writeFloor 46 = .ok (.aload_n 0, 1) := by decide +kernel
theorem dX8_writeFloor_47 : decode cX8_writeFloor 47 = .ok (.getfield 289, 3) := by decide +kernel
theorem dX8_writeFloor_50 : decode cX8_writeFloor 50 = .ok (.ifCond .le 9, 3) := by decide +kernel
theorem dX8_writeFloor_53 : decode cX8_writeFloor 53 = .ok (.aload_n 0, 1) := by decide +kernel
theorem dX8_writeFloor_54 : decode cX8_writeFloor 54 = .ok (.bipush 44, 2) := by decide +kernel
theorem dX8_writeFloor_56 : decode cX8_writeFloor 56 = .ok (.invokevirtual 292, 3) := by decide +kernel
theorem dX8_writeFloor_59 : decode cX8_writeFloor 59 = .ok (.aload_n 0, 1) := by decide +kernel
theorem dX8_writeFloor_60 : decode cX8_writeFloor 60 = .ok (.iload_n 2, 1) := by decide +kernel
theorem dX8_writeFloor_61 : decode cX8_writeFloor 61 = .ok (.invokevirtual 295, 3) := by decide +kernel
theorem dX8_writeFloor_64 : decode cX8_writeFloor 64 = .ok (.iinc 2 1, 3) := by decide +kernel
theorem dX8_writeFloor_67 : decode cX8_writeFloor 67 = .ok (.goto (-47), 3) := by decide +kernel
theorem dX8_writeFloor_70 : decode cX8_writeFloor 70 = .ok (.aload_n 0, 1) := by decide +kernel
theorem dX8_writeFloor_71 : decode cX8_writeFloor 71 = .ok (.aload_n 0, 1) := by decide +kernel
theorem dX8_writeFloor_72 : decode cX8_writeFloor 72 = .ok (.getfield 289, 3) := by decide +kernel
theorem dX8_writeFloor_75 : decode cX8_writeFloor 75 = .ok (.invokevirtual 222, 3) := by decide +kernel
theorem dX8_writeFloor_78 : decode cX8_writeFloor 78 = .ok (.ireturn, 1) := by decide +kernel
theorem dX8_outputCharacter_0 : decode cX8_outputCharacter 0 = .ok (.iload_n 1, 1) := by decide +kernel
theorem dX8_outputCharacter_1 : decode cX8_outputCharacter 1 = .ok (.iconst 0, 1) := by decide +kernel
theorem dX8_outputCharacter_2 : decode cX8_outputCharacter 2 = .ok (.aload_n 0, 1) := by decide +kernel
theorem dX8_outputCharacter_3 : decode cX8_outputCharacter 3 = .ok (.getfield 289, 3) := by decide +kernel
theorem dX8_outputCharacter_6 : decode cX8_outputCharacter 6 = .ok (.iconst 1, 1) := by decide +kernel
theorem dX8_outputCharacter_7 : decode cX8_outputCharacter 7 = .ok (.isub, 1) := by decide +kernel
theorem dX8_outputCharacter_8 : decode cX8_outputCharacter 8 = .ok (.invokestatic 66, 3) := by decide +kernel
theorem dX8_outputCharacter_11 : decode cX8_outputCharacter 11 = .ok (.ifCond .ne 10, 3) := by decide +kernel
theorem dX8_outputCharacter_14 : decode cX8_outputCharacter 14 = .ok (.aload_n 0, 1) := by decide +kernel
theorem dX8_outputCharacter_15 : decode cX8_outputCharacter 15 = .ok (.iconst 1, 1) := by decide +kernel
theorem dX8_outputCharacter_16 : decode cX8_outputCharacter 16 = .ok (.putfield 63, 3) := by decide +kernel
theorem dX8_outputCharacter_19 : decode cX8_outputCharacter 19 = .ok (.iconst 0, 1) := by decide +kernel
theorem dX8_outputCharacter_20 : decode cX8_outputCharacter 20 = .ok (.ireturn, 1) := by decide +kernel
theorem dX8_outputCharacter_21 : decode cX8_outputCharacter 21 = .ok (.aload_n 0, 1) := by decide +kernel
theorem dX8_outputCharacter_22 : decode cX8_outputCharacter 22 = .ok (.iconst 0, 1) := by decide +kernel
theorem dX8_outputCharacter_23 : decode cX8_outputCharacter 23 = .ok (.putfield 63, 3) := by decide +kernel
theorem dX8_outputCharacter_26 : decode cX8_outputCharacter 26 = .ok (.aload_n 0, 1) := by decide +kernel
theorem dX8_outputCharacter_27 : decode cX8_outputCharacter 27 = .ok (.getfield 45, 3) := by decide +kernel
theorem dX8_outputCharacter_30 : decode cX8_outputCharacter 30 = .ok (.iload_n 1, 1) := by decide +kernel
theorem dX8_outputCharacter_31 : decode cX8_outputCharacter 31 = .ok (.caload, 1) := by decide +kernel
theorem dX8_outputCharacter_32 : decode cX8_outputCharacter 32 = .ok (.ireturn, 1) := by decide +kernel
end
section
/-! THE PROVER'S OWN LAYER: a judgement that hides the machine's context. A world is a partial map from addresses to entries (Hp) and the heap's size. -/
section GCORE
abbrev Hp : Type := Nat → Option va_E
/-- launch, tables, first own address, array classes, fixed addresses, String constants' addresses, their byte arrays -/
abbrev Gm : Type := Launch × va_G × Nat × (Nat → ClassId) × (Nat → Nat) × (Nat → Nat) × (Nat → Nat)
abbrev gD (Γ : Gm) : va_G := Γ.2.1
abbrev gB (Γ : Gm) : Nat := Γ.2.2.1
abbrev gA (Γ : Gm) : Nat → ClassId := Γ.2.2.2.1
abbrev gF (Γ : Gm) : Nat → Nat := Γ.2.2.2.2.1
abbrev gK (Γ : Gm) : Nat → Nat := Γ.2.2.2.2.2.1
abbrev gV (Γ : Gm) : Nat → Nat := Γ.2.2.2.2.2.2
def AB (Γ : Gm) : Nat → Prop := fun q => gB Γ ≤ q
/-- the words that every method may use -/
def wl : List Cond := lw_tbl.filter goodWord
theorem wl_in {w : Cond} (i : Nat) (h : tables_1[i]? = some w) (hg : goodWord w = true) : w ∈ wl := List.mem_filter.mpr ⟨List.mem_append_right _ (List.mem_of_getElem? h), hg⟩
theorem wl_1 {w : Cond} (i : Nat) (h : tables_1_1[i]? = some w) (hg : goodWord w = true) : w ∈ wl := List.mem_filter.mpr ⟨List.mem_append_right _ (List.mem_append_left _ (List.mem_of_getElem? h)), hg⟩
theorem wl_2 {w : Cond} (i : Nat) (h : tables_1_2[i]? = some w) (hg : goodWord w = true) : w ∈ wl := List.mem_filter.mpr ⟨List.mem_append_right _ (List.mem_append_right _ (List.mem_append_left _ (List.mem_of_getElem? h))), hg⟩
theorem wl_3 {w : Cond} (i : Nat) (h : tables_1_3[i]? = some w) (hg : goodWord w = true) : w ∈ wl := List.mem_filter.mpr ⟨List.mem_append_right _ (List.mem_append_right _ (List.mem_append_right _ (List.mem_append_left _ (List.mem_of_getElem? h)))), hg⟩
theorem wl_4 {w : Cond} (i : Nat) (h : tables_1_4[i]? = some w) (hg : goodWord w = true) : w ∈ wl := List.mem_filter.mpr ⟨List.mem_append_right _ (List.mem_append_right _ (List.mem_append_right _ (List.mem_append_right _ (List.mem_append_left _ (List.mem_of_getElem? h))))), hg⟩
theorem wl_5 {w : Cond} (i : Nat) (h : tables_1_5[i]? = some w) (hg : goodWord w = true) : w ∈ wl := List.mem_filter.mpr ⟨List.mem_append_right _ (List.mem_append_right _ (List.mem_append_right _ (List.mem_append_right _ (List.mem_append_right _ (List.mem_append_left _ (List.mem_of_getElem? h)))))), hg⟩
theorem wl_6 {w : Cond} (i : Nat) (h : tables_1_6[i]? = some w) (hg : goodWord w = true) : w ∈ wl := List.mem_filter.mpr ⟨List.mem_append_right _ (List.mem_append_right _ (List.mem_append_right _ (List.mem_append_right _ (List.mem_append_right _ (List.mem_append_right _ (List.mem_append_left _ (List.mem_of_getElem? h))))))), hg⟩
theorem wl_7 {w : Cond} (i : Nat) (h : tables_1_7[i]? = some w) (hg : goodWord w = true) : w ∈ wl := List.mem_filter.mpr ⟨List.mem_append_right _ (List.mem_append_right _ (List.mem_append_right _ (List.mem_append_right _ (List.mem_append_right _ (List.mem_append_right _ (List.mem_append_right _ (List.mem_append_left _ (List.mem_of_getElem? h)))))))), hg⟩
theorem wl_8 {w : Cond} (i : Nat) (h : tables_1_8[i]? = some w) (hg : goodWord w = true) : w ∈ wl := List.mem_filter.mpr ⟨List.mem_append_right _ (List.mem_append_right _ (List.mem_append_right _ (List.mem_append_right _ (List.mem_append_right _ (List.mem_append_right _ (List.mem_append_right _ (List.mem_append_right _ (List.mem_append_left _ (List.mem_of_getElem? h))))))))), hg⟩
theorem wl_9 {w : Cond} (i : Nat) (h : tables_1_9[i]? = some w) (hg : goodWord w = true) : w ∈ wl := List.mem_filter.mpr ⟨List.mem_append_right _ (List.mem_append_right _ (List.mem_append_right _ (List.mem_append_right _ (List.mem_append_right _ (List.mem_append_right _ (List.mem_append_right _ (List.mem_append_right _ (List.mem_append_right _ (List.mem_of_getElem? h))))))))), hg⟩
theorem wl_inp {w : Cond} (i : Nat) (h : (k2_sels lw_privs)[i]? = some w) (hg : goodWord w = true) : w ∈ wl := List.mem_filter.mpr ⟨List.mem_append_left _ (List.mem_of_getElem? h), hg⟩
theorem wl_good : GoodIn wl wl := fun w h => ⟨h, good_of_word (List.mem_filter.mp h).2⟩
theorem wl_cons {w : Cond} (h : w ∈ wl) : GoodIn wl (w :: wl) := fun z hz => by
  rcases List.mem_cons.mp hz with rfl | hz
  · exact wl_good _ h
  · exact wl_good _ hz
def gtys (Γ : Gm) : List (ClassId × FieldType) := [(gA Γ 0, .int), (gA Γ 1, .byte), (gA Γ 2, .boolean), (gA Γ 3, .long), (gA Γ 4, .char), (gA Γ 5, .object "AccentHouse$Lodger"), (gA Γ 6, .object "AccentHouse$House")]
/-- statics -/
def gzs (Γ : Gm) : List (String × String × String × Value) := [("AccentHouse$Token", "END", "LAccentHouse$Token;", .ref (gF Γ 0)), ("AccentHouse$Token", "WORD", "LAccentHouse$Token;", .ref (gF Γ 1)), ("AccentHouse$Token", "NUMBER", "LAccentHouse$Token;", .ref (gF Γ 2)), ("AccentHouse$Token", "SEMICOLON", "LAccentHouse$Token;", .ref (gF Γ 3)), ("AccentHouse$Token", "WRONG", "LAccentHouse$Token;", .ref (gF Γ 4)), ("java/lang/String", "COMPACT_STRINGS", "Z", .int 1), ("java/lang/Integer", "DigitOnes", "[B", .ref (gF Γ 5)), ("java/lang/Integer", "DigitTens", "[B", .ref (gF Γ 6))]
def gOnes (j : Nat) : Value := .int (nI (48 + j % 10))
def gTens (j : Nat) : Value := .int (nI (48 + j / 10))
/-- String constants: class, entry, text, bytes -/
def gstrs : List (String × Nat × String × List Int32) := [
  ("AccentHouse$Lodger", 7, "", []),
  ("AccentHouse", 58, "house 5 6; landlady 4 4 4 4 4; lodger ann 0 20 4 4 4 4 6; lodger bob 0 3 0 4 4 4 4; lodger cid 1 0 9 9 0 0 4; lodger dot 1 40 9 8 0 1 4; days 1", [104, 111, 117, 115, 101, 32, 53, 32, 54, 59, 32, 108, 97, 110, 100, 108, 97, 100, 121, 32, 52, 32, 52, 32, 52, 32, 52, 32, 52, 59, 32, 108, 111, 100, 103, 101, 114, 32, 97, 110, 110, 32, 48, 32, 50, 48, 32, 52, 32, 52, 32, 52, 32, 52, 32, 54, 59, 32, 108, 111, 100, 103, 101, 114, 32, 98, 111, 98, 32, 48, 32, 51, 32, 48, 32, 52, 32, 52, 32, 52, 32, 52, 59, 32, 108, 111, 100, 103, 101, 114, 32, 99, 105, 100, 32, 49, 32, 48, 32, 57, 32, 57, 32, 48, 32, 48, 32, 52, 59, 32, 108, 111, 100, 103, 101, 114, 32, 100, 111, 116, 32, 49, 32, 52, 48, 32, 57, 32, 56, 32, 48, 32, 49, 32, 52, 59, 32, 100, 97, 121, 115, 32, 49]),
  ("AccentHouse$Parser", 91, "house", [104, 111, 117, 115, 101]),
  ("AccentHouse$Parser", 100, "landlady", [108, 97, 110, 100, 108, 97, 100, 121]),
  ("AccentHouse$Parser", 57, "lodger", [108, 111, 100, 103, 101, 114]),
  ("java/lang/StringIndexOutOfBoundsException", 13, "String index out of range: ", [83, 116, 114, 105, 110, 103, 32, 105, 110, 100, 101, 120, 32, 111, 117, 116, 32, 111, 102, 32, 114, 97, 110, 103, 101, 58, 32]),
  ("java/util/Arrays", 337, " > ", [32, 62, 32]),
  ("java/util/Arrays", 48, "fromIndex(", [102, 114, 111, 109, 73, 110, 100, 101, 120, 40]),
  ("java/util/Arrays", 57, ") > toIndex(", [41, 32, 62, 32, 116, 111, 73, 110, 100, 101, 120, 40]),
  ("java/util/Arrays", 59, ")", [41]),
  ("java/lang/ArrayIndexOutOfBoundsException", 13, "Array index out of range: ", [65, 114, 114, 97, 121, 32, 105, 110, 100, 101, 120, 32, 111, 117, 116, 32, 111, 102, 32, 114, 97, 110, 103, 101, 58, 32]),
  ("AccentHouse$Parser", 66, "pay", [112, 97, 121]),
  ("AccentHouse$Parser", 71, "move", [109, 111, 118, 101]),
  ("AccentHouse$Parser", 76, "days", [100, 97, 121, 115]),
  ("AccentHouse", 84, "the input buffer is full", [116, 104, 101, 32, 105, 110, 112, 117, 116, 32, 98, 117, 102, 102, 101, 114, 32, 105, 115, 32, 102, 117, 108, 108]),
  ("AccentHouse", 94, "the buffer has no such length", [116, 104, 101, 32, 98, 117, 102, 102, 101, 114, 32, 104, 97, 115, 32, 110, 111, 32, 115, 117, 99, 104, 32, 108, 101, 110, 103, 116, 104]),
  ("AccentHouse", 108, "the text has an error", [116, 104, 101, 32, 116, 101, 120, 116, 32, 104, 97, 115, 32, 97, 110, 32, 101, 114, 114, 111, 114]),
  ("AccentHouse", 314, "there is no such floor", [116, 104, 101, 114, 101, 32, 105, 115, 32, 110, 111, 32, 115, 117, 99, 104, 32, 102, 108, 111, 111, 114]),
  ("AccentHouse", 316, "there is no such vowel", [116, 104, 101, 114, 101, 32, 105, 115, 32, 110, 111, 32, 115, 117, 99, 104, 32, 118, 111, 119, 101, 108]),
  ("AccentHouse", 312, "there is no such lodger", [116, 104, 101, 114, 101, 32, 105, 115, 32, 110, 111, 32, 115, 117, 99, 104, 32, 108, 111, 100, 103, 101, 114]),
  ("AccentHouse", 180, "the name has no such letter", [116, 104, 101, 32, 110, 97, 109, 101, 32, 104, 97, 115, 32, 110, 111, 32, 115, 117, 99, 104, 32, 108, 101, 116, 116, 101, 114]),
  ("AccentHouse", 193, "the floor has no such place", [116, 104, 101, 32, 102, 108, 111, 111, 114, 32, 104, 97, 115, 32, 110, 111, 32, 115, 117, 99, 104, 32, 112, 108, 97, 99, 101]),
  ("AccentHouse", 195, "no lodger lives on the floor", [110, 111, 32, 108, 111, 100, 103, 101, 114, 32, 108, 105, 118, 101, 115, 32, 111, 110, 32, 116, 104, 101, 32, 102, 108, 111, 111, 114]),
  ("AccentHouse", 320, "an argument is out of range", [97, 110, 32, 97, 114, 103, 117, 109, 101, 110, 116, 32, 105, 115, 32, 111, 117, 116, 32, 111, 102, 32, 114, 97, 110, 103, 101]),
  ("AccentHouse", 258, "the day counter would exceed 9999", [116, 104, 101, 32, 100, 97, 121, 32, 99, 111, 117, 110, 116, 101, 114, 32, 119, 111, 117, 108, 100, 32, 101, 120, 99, 101, 101, 100, 32, 57, 57, 57, 57]),
  ("AccentHouse", 264, "the house has 12 lodgers", [116, 104, 101, 32, 104, 111, 117, 115, 101, 32, 104, 97, 115, 32, 49, 50, 32, 108, 111, 100, 103, 101, 114, 115]),
  ("AccentHouse", 326, "the floor is full", [116, 104, 101, 32, 102, 108, 111, 111, 114, 32, 105, 115, 32, 102, 117, 108, 108]),
  ("AccentHouse$House", 67, "abcdefghijklmnopqrstuvwxyz", [97, 98, 99, 100, 101, 102, 103, 104, 105, 106, 107, 108, 109, 110, 111, 112, 113, 114, 115, 116, 117, 118, 119, 120, 121, 122]),
  ("java/lang/StringLatin1", 151, "", []),
  ("java/lang/StringUTF16", 295, "", []),
  ("AccentHouse$House", 87, "", []),
  ("AccentHouse", 318, "there is no such slot", [116, 104, 101, 114, 101, 32, 105, 115, 32, 110, 111, 32, 115, 117, 99, 104, 32, 115, 108, 111, 116]),
  ("AccentHouse", 288, "nothing is saved in the slot", [110, 111, 116, 104, 105, 110, 103, 32, 105, 115, 32, 115, 97, 118, 101, 100, 32, 105, 110, 32, 116, 104, 101, 32, 115, 108, 111, 116]),
  ("AccentHouse", 290, "there is no change to undo", [116, 104, 101, 114, 101, 32, 105, 115, 32, 110, 111, 32, 99, 104, 97, 110, 103, 101, 32, 116, 111, 32, 117, 110, 100, 111]),
  ("AccentHouse", 309, "the output has no such character", [116, 104, 101, 32, 111, 117, 116, 112, 117, 116, 32, 104, 97, 115, 32, 110, 111, 32, 115, 117, 99, 104, 32, 99, 104, 97, 114, 97, 99, 116, 101, 114])]
def gSc (Γ : Gm) (i : Nat) (q : String × Nat × String × List Int32) (U : State) (H : Heap) : Prop :=
  va_O "java/lang/String" (gK Γ i) (AB Γ) U H ∧ va_OF "java/lang/String" "coder" "B" (.int 0) (gK Γ i) (AB Γ) U H ∧ va_OF "java/lang/String" "value" "[B" (.ref (gV Γ i)) (gK Γ i) (AB Γ) U H ∧ va_T .byte (gV Γ i) q.2.2.2.length (fun j => .int (q.2.2.2.getD j 0)) (AB Γ) U H
theorem gSc.moved {Γ : Gm} {i : Nat} {q : String × Nat × String × List Int32} {u U : State} {H : Heap} (hvm : u.vm.Alike U.vm) (h : gSc Γ i q u H) : gSc Γ i q U H := ⟨va_O.moved hvm h.1, va_OF.moved hvm h.2.1, va_OF.moved hvm h.2.2.1, va_T.moved hvm h.2.2.2⟩
theorem gSc.kept {Γ : Gm} {i : Nat} {q : String × Nat × String × List Int32} {U : State} {H H1 : Heap} (h : gSc Γ i q U H) (hq : ∀ a : Nat, a < H.size → ¬ AB Γ a → H1[a]? = H[a]?) : gSc Γ i q U H1 := ⟨h.1.kept hq, h.2.1.kept hq, h.2.2.1.kept hq, h.2.2.2.kept hq⟩
def gNl : List (String × Nat × MethodName × String) := [("AccentHouse$House", 11, ⟨"AccentHouse$Accent", "<init>", "()V"⟩, "AccentHouse"), ("AccentHouse$House", 27, ⟨"AccentHouse$Lodger", "<init>", "()V"⟩, "AccentHouse"), ("AccentHouse$Lodger", 17, ⟨"AccentHouse$Accent", "<init>", "()V"⟩, "AccentHouse")]
/-- what of the environment holds everywhere: tables, statics, constants -/
def Ev (Γ : Gm) (U : State) (H : Heap) : Prop :=
  Γ.1.stackTraces = false ∧ va_K (gD Γ) vwCl (gtys Γ) U ∧ (∀ z ∈ gzs Γ, va_Z z.1 z.2.1 z.2.2.1 z.2.2.2 (AB Γ) U H) ∧
  (vx_Zq Bundle.tN "UNASSIGNED_STACK" Bundle.steD (AB Γ) U H ∧ vx_Zq Bundle.tN "SUPPRESSED_SENTINEL" Bundle.listD (AB Γ) U H) ∧
  (∀ (i : Nat) (q : String × Nat × String × List Int32), gstrs[i]? = some q → vk_R q.1 q.2.1 q.2.2.1 (gK Γ i) U ∧ gSc Γ i q U H) ∧
  (∀ q ∈ gNl, va_Nw (.methodLinkNest q.1 q.2.1 q.2.2.1 q.2.2.2) U) ∧
  (va_T .byte (gF Γ 5) 100 gOnes (AB Γ) U H ∧ va_T .byte (gF Γ 6) 100 gTens (AB Γ) U H) ∧
  (va_AO "AccentHouse$Lodger" U ∧ va_AO "AccentHouse$House" U) ∧ gB Γ ≤ H.size ∧ (∀ i j : Nat, i < 5 → j < 5 → gF Γ i = gF Γ j → i = j)
theorem Ev.warm {Γ : Gm} {s U : State} {H : Heap} (hW : s.WarmedH U.vm) (h : Ev Γ s H) : Ev Γ U H := by
  obtain ⟨h0, h1, h2, h3, h4, h5, h6, h7, h8, h9⟩ := h
  exact ⟨h0, va_K.moved hW.alike h1, fun z hz => va_Z.moved hW.alike (h2 z hz), ⟨vx_Zq.moved hW.alike h3.1, vx_Zq.moved hW.alike h3.2⟩, fun i q hq => ⟨vk_R.warm hW (h4 i q hq).1, (h4 i q hq).2.moved hW.alike⟩, fun q hq => va_Nw.warmM hW (h5 q hq), ⟨va_T.moved hW.alike h6.1, va_T.moved hW.alike h6.2⟩, ⟨va_AO.moved hW.alike h7.1, va_AO.moved hW.alike h7.2⟩, h8, h9⟩
theorem Ev.same {Γ : Gm} {u U : State} {H : Heap} (hv : U.vm = u.vm) (h : Ev Γ u H) : Ev Γ U H := by
  have ha : u.vm.Alike U.vm := by rw [hv]; exact Vm.Alike.refl _
  obtain ⟨h0, h1, h2, h3, h4, h5, h6, h7, h8, h9⟩ := h
  exact ⟨h0, va_K.moved ha h1, fun z hz => va_Z.moved ha (h2 z hz), ⟨vx_Zq.moved ha h3.1, vx_Zq.moved ha h3.2⟩, fun i q hq => ⟨vk_R.same hv (h4 i q hq).1, (h4 i q hq).2.moved ha⟩, fun q hq => va_Nw.same rfl hv.symm (h5 q hq), ⟨va_T.moved ha h6.1, va_T.moved ha h6.2⟩, ⟨va_AO.moved ha h7.1, va_AO.moved ha h7.2⟩, h8, h9⟩
theorem Ev.kept {Γ : Gm} {U : State} {H H1 : Heap} (h : Ev Γ U H) (hz : H.size ≤ H1.size) (hq : ∀ a : Nat, a < H.size → ¬ AB Γ a → H1[a]? = H[a]?) : Ev Γ U H1 := by
  obtain ⟨h0, h1, h2, h3, h4, h5, h6, h7, h8, h9⟩ := h
  exact ⟨h0, h1, fun z hz => (h2 z hz).kept hq, ⟨h3.1.kept hq, h3.2.kept hq⟩, fun i q hi => ⟨(h4 i q hi).1, (h4 i q hi).2.kept hq⟩, h5, ⟨h6.1.kept hq, h6.2.kept hq⟩, h7, Nat.le_trans h8 hz, h9⟩
/-- the heap holds the world -/
def HS (Γ : Gm) (E : Hp) (H : Heap) : Prop := ∀ (a : Nat) (e : va_E), E a = some e → va_at (gD Γ) vwCl (a, e) H ∧ gB Γ ≤ a
def hset (E : Hp) (a : Nat) (e : va_E) : Hp := fun q => if q = a then some e else E q
theorem hset_s {E : Hp} {a : Nat} {e : va_E} : hset E a e a = some e := if_pos rfl
theorem hset_n {E : Hp} {a q : Nat} {e : va_E} (h : q ≠ a) : hset E a e q = E q := if_neg h
theorem HS.set {Γ : Gm} {E : Hp} {H H1 : Heap} {a : Nat} {e0 e : va_E} (h : HS Γ E H) (h0 : E a = some e0) (he : va_at (gD Γ) vwCl (a, e) H1) (oq : ∀ q : Nat, q ≠ a → H1[q]? = H[q]?) : HS Γ (hset E a e) H1 := by
  intro b x hb
  by_cases hab : b = a
  · subst hab
    rw [hset_s] at hb
    cases hb
    exact ⟨he, (h b e0 h0).2⟩
  · rw [hset_n hab] at hb
    exact ⟨(h b x hb).1.kept (oq b hab), (h b x hb).2⟩
theorem HS.new {Γ : Gm} {E : Hp} {H H1 : Heap} {e : va_E} (h : HS Γ E H) (hB : gB Γ ≤ H.size) (he : va_at (gD Γ) vwCl (H.size, e) H1) (oq : ∀ q : Nat, q < H.size → H1[q]? = H[q]?) : HS Γ (hset E H.size e) H1 := by
  intro b x hb
  by_cases hab : b = H.size
  · subst hab
    rw [hset_s] at hb
    cases hb
    exact ⟨he, hB⟩
  · rw [hset_n hab] at hb
    exact ⟨(h b x hb).1.kept (oq b (h b x hb).1.lt), (h b x hb).2⟩
theorem HS.lt {Γ : Gm} {E : Hp} {H : Heap} {a : Nat} {e : va_E} (h : HS Γ E H) (he : E a = some e) : a < H.size := (h a e he).1.lt
/-- a method: class, name, code, locals, result -/
abbrev Mr : Type := String × MethodName × ByteArray × Nat × Option FieldType
abbrev Po : Type := Option Value → Hp → Nat → Prop
abbrev Px : Type := String → Hp → Nat → Prop
def Fr (Γ : Gm) (d : Nat) (M : Mr) (p : Program) (R : Room) (s : State) (m : MethodId) (args : Array Value) (meth : Method) (c : Code) : Prop :=
  p.tables.exec = Jvm.exec ∧ c.code = M.2.2.1 ∧ c.maxLocals = M.2.2.2.1 ∧ s.vm.findClass M.1 = some m.cls ∧ (∀ w ∈ wl, w.before args s = true) ∧ Ev Γ s s.heap ∧ d ≤ R.frames ∧ 64 * d ≤ R.locals ∧ (M.2.1.name = "<init>" → meth.name = "<init>")
def RetOp (M : Mr) (pc : Nat) : Option Value → Prop
  | none => decode M.2.2.1 pc = .ok (.return_, 1) ∧ M.2.2.2.2 = none
  | some (.int x) => decode M.2.2.1 pc = .ok (.ireturn, 1) ∧ ∃ ty, M.2.2.2.2 = some ty ∧ narrow ty (.int x) = .int x
  | some (.ref _) => decode M.2.2.1 pc = .ok (.areturn, 1) ∧ ∃ n, M.2.2.2.2 = some (.object n)
  | some .null => decode M.2.2.1 pc = .ok (.areturn, 1) ∧ ∃ n, M.2.2.2.2 = some (.object n)
  | some (.float _) => decode M.2.2.1 pc = .ok (.freturn, 1) ∧ M.2.2.2.2 = some .float
  | some (.double _) => decode M.2.2.1 pc = .ok (.dreturn, 1) ∧ M.2.2.2.2 = some .double
  | _ => False
def ThrOp (d : Nat) (M : Mr) (pc : Nat) (x : String) : Prop :=
  ∃ (ik is ic i : Nat) (text : String) (names : List String) (bs : List Int32), Bundle.fit x = true ∧ (∀ n ∈ names, Bundle.fit n = true) ∧ Cond.classLink M.1 ik x ∈ wl ∧ Cond.initialized x ∈ wl ∧ (∀ w ∈ vx_atS M.1 ic x names, w ∈ wl) ∧ (∀ w ∈ Cond.classLink M.1 ik x :: Cond.initialized x :: vx_atS M.1 ic x names, vx_ot w = true) ∧ gstrs[i]? = some (M.1, is, text, bs) ∧
    decode M.2.2.1 pc = .ok (.new ik, 3) ∧ decode M.2.2.1 (pc + 3) = .ok (.dup, 1) ∧ decode M.2.2.1 (pc + 4) = .ok (.ldc is, 2) ∧ decode M.2.2.1 (pc + 6) = .ok (.invokespecial ic, 3) ∧ decode M.2.2.1 (pc + 9) = .ok (.athrow, 1) ∧ names.length ≤ 3 ∧ 7 ≤ d
/-- how a frame may end -/
def En (Γ : Gm) (d : Nat) (M : Mr) (P : Po) (X : Px) (p : Program) (e : Env) (R : Room) (s : State) (m : MethodId) (args : Array Value) (below : List Frame) (meth : Method) (c : Code) (Q : State → Prop) : Prop :=
  (∀ (v : Option Value) (E : Hp) (n : Nat) (H : Heap) (locs : List Loc) (cells slots pc : Nat) (ls : Array Slot), P v E n → HS Γ E H → H.size = n → va_S (AB Γ) s.heap H locs → cells ≤ R.cells → slots ≤ R.slots → RetOp M pc v → W p Γ.1 e R s m args below meth c H locs cells slots Q (F0 m pc ls v.toList)) ∧
  (∀ (x : String) (E : Hp) (n : Nat) (H : Heap) (locs : List Loc) (cells slots pc : Nat) (ls : Array Slot) (st : List Value), X x E n → HS Γ E H → H.size = n → va_S (AB Γ) s.heap H locs → cells + 1 ≤ R.cells → slots + 6 ≤ R.slots → ThrOp d M pc x → ls.size = M.2.2.2.1 → (st.map fun v => v.category).sum ≤ 8 → W p Γ.1 e R s m args below meth c H locs cells slots Q (F0 m pc ls st)) ∧
  (∀ (x : String) (E : Hp) (n : Nat) (H : Heap) (locs : List Loc) (cells slots pc : Nat) (ls : Array Slot) (st : List Value) (q : Addr) (ce : Cell), X x E n → HS Γ E H → n ≤ H.size → va_S (AB Γ) s.heap H locs → cells ≤ R.cells → slots ≤ R.slots → H[q]? = some ce → ce.vm = .none → s.vm.findClass x = some ce.cls → vx_W p Γ.1 e R s m args below meth c H locs cells slots Q (F0 m pc ls st) q)
/-- from this place on, with this world and this much room left, the frame comes to an end with P, or X -/
def G (Γ : Gm) (d : Nat) (M : Mr) (P : Po) (X : Px) (pc : Nat) (lv : List (Nat × Value)) (st : List Value) (E : Hp) (n kc ks : Nat) : Prop :=
  ∀ (p : Program) (e : Env) (R : Room) (s : State) (m : MethodId) (args : Array Value) (below : List Frame) (meth : Method) (c : Code) (Q : State → Prop), Fr Γ d M p R s m args meth c → En Γ d M P X p e R s m args below meth c Q →
    ∀ (H : Heap) (locs : List Loc) (cells slots : Nat) (ls : Array Slot), HS Γ E H → H.size = n → va_S (AB Γ) s.heap H locs → lv_has ls M.2.2.2.1 lv → cells + kc ≤ R.cells → slots + ks ≤ R.slots → W p Γ.1 e R s m args below meth c H locs cells slots Q (F0 m pc ls st)
def Qg (Γ : Gm) (P : Po) : Array Value → State → Outcome → State → Prop := fun _ st o t => (∃ (v : Option Value) (E : Hp) (n : Nat), o = .returned v ∧ P v E n ∧ HS Γ E t.heap ∧ t.heap.size = n) ∧ va_F (AB Γ) st t
def Xg (Γ : Gm) (X : Px) : String → State → State → Prop := fun x st t => (∃ (E : Hp) (n : Nat), X x E n ∧ HS Γ E t.heap ∧ n ≤ t.heap.size) ∧ va_F (AB Γ) st t
def Pg (Γ : Gm) (av : List Value) (E : Hp) (n : Nat) : Array Value → State → Prop := va_Pc av (fun U => HS Γ E U.heap ∧ U.heap.size = n ∧ Ev Γ U U.heap)
def rmG (d mc ms : Nat) : Room := { frames := d, cells := mc, slots := ms, locals := 64 * d }
/-- a method's contract at one start -/
def Ct (Γ : Gm) (d : Nat) (M : Mr) (mc ms : Nat) (av : List Value) (E : Hp) (n : Nat) (P : Po) (X : Px) : Prop :=
  vx_Met Γ.1 M.2.1 (Cond.code M.2.1 M.2.2.1 M.2.2.2.1 M.2.2.2.2 :: wl) (rmG d mc ms) (Pg Γ av E n) (Qg Γ P) (Xg Γ X) mc ms (AB Γ)
theorem Pg.blind {Γ : Gm} {av : List Value} {E : Hp} {n : Nat} : FrameBlind (Pg Γ av E n) := fun a U g mk h => ⟨h.1, h.2.1, h.2.2.1, Ev.same (u := U) (U := U.calling g mk a) rfl h.2.2.2⟩
theorem va_S.toF {Γ : Gm} {s t : State} {H : Heap} {locs : List Loc} (h : va_S (AB Γ) s.heap H locs) (ht : t.heap = H) : va_F (AB Γ) s t := h.F ht
end GCORE
end
section
section GROWS
variable {Γ : Gm} {d : Nat} {M : Mr} {P : Po} {X : Px} {pc : Nat} {lv : List (Nat × Value)} {st rest : List Value} {E : Hp} {n kc ks : Nat}
/-- an instruction that reads locals and stack alone -/
theorem G.go {pc2 : Nat} {st2 : List Value} (h : ∀ {p : Program} {e : Env} {R : Room} {s : State} {m : MethodId} {args : Array Value} {below : List Frame} {meth : Method} {c : Code} {Q : State → Prop} {H : Heap} {locs : List Loc} {cells slots : Nat} {ls : Array Slot}, p.tables.exec = Jvm.exec → c.code = M.2.2.1 → lv_has ls M.2.2.2.1 lv → W p Γ.1 e R s m args below meth c H locs cells slots Q (F0 m pc2 ls st2) → W p Γ.1 e R s m args below meth c H locs cells slots Q (F0 m pc ls st))
    (k : G Γ d M P X pc2 lv st2 E n kc ks) : G Γ d M P X pc lv st E n kc ks := fun p e R s m args below meth c Q hF hE H locs cells slots ls h1 h2 h3 h4 h5 h6 => h hF.1 hF.2.1 h4 (k p e R s m args below meth c Q hF hE H locs cells slots ls h1 h2 h3 h4 h5 h6)
/-- .. that reads the tables too -/
theorem G.goF {pc2 : Nat} {st2 : List Value} (h : ∀ {p : Program} {e : Env} {R : Room} {s : State} {m : MethodId} {args : Array Value} {below : List Frame} {meth : Method} {c : Code} {Q : State → Prop} {H : Heap} {locs : List Loc} {cells slots : Nat} {ls : Array Slot}, Fr Γ d M p R s m args meth c → HS Γ E H → H.size = n → va_S (AB Γ) s.heap H locs → lv_has ls M.2.2.2.1 lv → W p Γ.1 e R s m args below meth c H locs cells slots Q (F0 m pc2 ls st2) → W p Γ.1 e R s m args below meth c H locs cells slots Q (F0 m pc ls st))
    (k : G Γ d M P X pc2 lv st2 E n kc ks) : G Γ d M P X pc lv st E n kc ks := fun p e R s m args below meth c Q hF hE H locs cells slots ls h1 h2 h3 h4 h5 h6 => h hF h1 h2 h3 h4 (k p e R s m args below meth c Q hF hE H locs cells slots ls h1 h2 h3 h4 h5 h6)
/-- .. that writes a local -/
theorem G.goL {pc2 : Nat} {st2 : List Value} {lv2 : List (Nat × Value)} (h : ∀ {p : Program} {e : Env} {R : Room} {s : State} {m : MethodId} {args : Array Value} {below : List Frame} {meth : Method} {c : Code} {Q : State → Prop} {H : Heap} {locs : List Loc} {cells slots : Nat} {ls : Array Slot}, p.tables.exec = Jvm.exec → c.code = M.2.2.1 → lv_has ls M.2.2.2.1 lv → (∀ ls2 : Array Slot, lv_has ls2 M.2.2.2.1 lv2 → W p Γ.1 e R s m args below meth c H locs cells slots Q (F0 m pc2 ls2 st2)) → W p Γ.1 e R s m args below meth c H locs cells slots Q (F0 m pc ls st))
    (k : G Γ d M P X pc2 lv2 st2 E n kc ks) : G Γ d M P X pc lv st E n kc ks := fun p e R s m args below meth c Q hF hE H locs cells slots ls h1 h2 h3 h4 h5 h6 => h hF.1 hF.2.1 h4 (fun ls2 hl2 => k p e R s m args below meth c Q hF hE H locs cells slots ls2 h1 h2 h3 hl2 h5 h6)
/-- .. that branches -/
theorem G.br {c1 c2 : Prop} {pa pb : Nat} {sa sb : List Value} (h : ∀ {p : Program} {e : Env} {R : Room} {s : State} {m : MethodId} {args : Array Value} {below : List Frame} {meth : Method} {c : Code} {Q : State → Prop} {H : Heap} {locs : List Loc} {cells slots : Nat} {ls : Array Slot}, p.tables.exec = Jvm.exec → c.code = M.2.2.1 → (c1 → W p Γ.1 e R s m args below meth c H locs cells slots Q (F0 m pa ls sa)) → (c2 → W p Γ.1 e R s m args below meth c H locs cells slots Q (F0 m pb ls sb)) → W p Γ.1 e R s m args below meth c H locs cells slots Q (F0 m pc ls st))
    (ka : c1 → G Γ d M P X pa lv sa E n kc ks) (kb : c2 → G Γ d M P X pb lv sb E n kc ks) : G Γ d M P X pc lv st E n kc ks := fun p e R s m args below meth c Q hF hE H locs cells slots ls h1 h2 h3 h4 h5 h6 => h hF.1 hF.2.1 (fun z => ka z p e R s m args below meth c Q hF hE H locs cells slots ls h1 h2 h3 h4 h5 h6) (fun z => kb z p e R s m args below meth c Q hF hE H locs cells slots ls h1 h2 h3 h4 h5 h6)
theorem G.mono {kc2 ks2 : Nat} (h1 : kc2 ≤ kc) (h2 : ks2 ≤ ks) (k : G Γ d M P X pc lv st E n kc2 ks2) : G Γ d M P X pc lv st E n kc ks := fun p e R s m args below meth c Q hF hE H locs cells slots ls a1 a2 a3 a4 a5 a6 => k p e R s m args below meth c Q hF hE H locs cells slots ls a1 a2 a3 a4 (by omega) (by omega)
theorem G.sub {lv2 : List (Nat × Value)} (is : List Nat) (h : lv_pick lv is = lv2) (k : G Γ d M P X pc lv2 st E n kc ks) : G Γ d M P X pc lv st E n kc ks := fun p e R s m args below meth c Q hF hE H locs cells slots ls a1 a2 a3 a4 a5 a6 => k p e R s m args below meth c Q hF hE H locs cells slots ls a1 a2 a3 (lv_sub a4 is h) a5 a6
-- constants
theorem g_iconst {i : Int} {v : Int32} (dg : decode M.2.2.1 pc = .ok (.iconst i, 1)) (hv : Int32.ofInt i = v) (k : G Γ d M P X (pc + 1) lv (.int v :: st) E n kc ks) : G Γ d M P X pc lv st E n kc ks := G.go (fun hx hb _ k => lv_iconst hx hb dg hv k) k
theorem g_bipush {i : Int} {v : Int32} (dg : decode M.2.2.1 pc = .ok (.bipush i, 2)) (hv : (Int8.ofInt i).toInt32 = v) (k : G Γ d M P X (pc + 2) lv (.int v :: st) E n kc ks) : G Γ d M P X pc lv st E n kc ks := G.go (fun hx hb _ k => lv_bipush hx hb dg hv k) k
theorem g_sipush {i : Int} {v : Int32} (dg : decode M.2.2.1 pc = .ok (.sipush i, 3)) (hv : (Int16.ofInt i).toInt32 = v) (k : G Γ d M P X (pc + 3) lv (.int v :: st) E n kc ks) : G Γ d M P X pc lv st E n kc ks := G.go (fun hx hb _ k => lv_sipush hx hb dg hv k) k
theorem g_lconst {i : Fin 2} {v : Int64} (dg : decode M.2.2.1 pc = .ok (.lconst i, 1)) (hv : Int64.ofNat (i : Nat) = v) (k : G Γ d M P X (pc + 1) lv (.long v :: st) E n kc ks) : G Γ d M P X pc lv st E n kc ks := G.go (fun hx hb _ k => lv_lconst hx hb dg hv k) k
theorem g_null (dg : decode M.2.2.1 pc = .ok (.aconst_null, 1)) (k : G Γ d M P X (pc + 1) lv (.null :: st) E n kc ks) : G Γ d M P X pc lv st E n kc ks := G.go (fun hx hb _ k => lv_null hx hb dg k) k
theorem g_ldcI {ix : Nat} {v : Int32} (hw : Cond.constant M.1 ix v ∈ wl) (dg : decode M.2.2.1 pc = .ok (.ldc ix, 2)) (k : G Γ d M P X (pc + 2) lv (.int v :: st) E n kc ks) : G Γ d M P X pc lv st E n kc ks := G.goF (fun hF _ _ _ _ k => lv_ldc hF.1 hF.2.1 hF.2.2.2.1 (hF.2.2.2.2.1 _ hw) dg k) k
theorem g_ldcS {ix i : Nat} {tx : String} {bs : List Int32} (hi : gstrs[i]? = some (M.1, ix, tx, bs)) (dg : decode M.2.2.1 pc = .ok (.ldc ix, 2)) (k : G Γ d M P X (pc + 2) lv (.ref (gK Γ i) :: st) E n kc ks) : G Γ d M P X pc lv st E n kc ks := G.goF (fun hF _ _ _ _ k => va_ldcS hF.1 hF.2.1 hF.2.2.2.1 (hF.2.2.2.2.2.1.2.2.2.2.1 _ _ hi).1 dg k) k
-- loads
theorem g_iload_n {j : Fin 4} {x : Int32} (q : Nat) (hl : lv[q]? = some ((j : Nat), .int x)) (dg : decode M.2.2.1 pc = .ok (.iload_n j, 1)) (k : G Γ d M P X (pc + 1) lv (.int x :: st) E n kc ks) : G Γ d M P X pc lv st E n kc ks := G.go (fun hx hb h k => lv_iload_n hx hb dg rfl (lv_at h q hl) k) k
theorem g_iload {j : Nat} {x : Int32} (q : Nat) (hl : lv[q]? = some (j, .int x)) (dg : decode M.2.2.1 pc = .ok (.iload j, 2)) (k : G Γ d M P X (pc + 2) lv (.int x :: st) E n kc ks) : G Γ d M P X pc lv st E n kc ks := G.go (fun hx hb h k => lv_iload hx hb dg (lv_at h q hl) k) k
theorem g_aload_n {j : Fin 4} {x : Nat} (q : Nat) (hl : lv[q]? = some ((j : Nat), .ref x)) (dg : decode M.2.2.1 pc = .ok (.aload_n j, 1)) (k : G Γ d M P X (pc + 1) lv (.ref x :: st) E n kc ks) : G Γ d M P X pc lv st E n kc ks := G.go (fun hx hb h k => lv_aload_n hx hb dg rfl (lv_at h q hl) k) k
theorem g_aload {j : Nat} {x : Nat} (q : Nat) (hl : lv[q]? = some (j, .ref x)) (dg : decode M.2.2.1 pc = .ok (.aload j, 2)) (k : G Γ d M P X (pc + 2) lv (.ref x :: st) E n kc ks) : G Γ d M P X pc lv st E n kc ks := G.go (fun hx hb h k => lv_aload hx hb dg (lv_at h q hl) k) k
theorem g_aload_nN {j : Fin 4} (q : Nat) (hl : lv[q]? = some ((j : Nat), .null)) (dg : decode M.2.2.1 pc = .ok (.aload_n j, 1)) (k : G Γ d M P X (pc + 1) lv (.null :: st) E n kc ks) : G Γ d M P X pc lv st E n kc ks := G.go (fun hx hb h k => lv_aload_nN hx hb dg rfl (lv_at h q hl) k) k
theorem g_dload {j : Nat} {x : UInt64} (q : Nat) (hl : lv[q]? = some (j, .double x)) (dg : decode M.2.2.1 pc = .ok (.dload j, 2)) (k : G Γ d M P X (pc + 2) lv (.double x :: st) E n kc ks) : G Γ d M P X pc lv st E n kc ks := G.go (fun hx hb h k => lv_dload hx hb dg (lv_at h q hl) k) k
-- stores: the local's row goes first, the others stay in their order
theorem g_istore_n {j : Fin 4} {x : Int32} {lv2 : List (Nat × Value)} (hn : (j : Nat) < M.2.2.2.1) (hl : ((j : Nat), Value.int x) :: lv.filter (fun q => !(q.1 == (j : Nat)) && !(q.1 + 1 == (j : Nat) && q.2.category == 2)) = lv2) (dg : decode M.2.2.1 pc = .ok (.istore_n j, 1)) (k : G Γ d M P X (pc + 1) lv2 st E n kc ks) : G Γ d M P X pc lv (.int x :: st) E n kc ks := G.goL (fun hx hb h k => lv_istore_n hx hb dg rfl h hn hl k) k
theorem g_istore {j : Nat} {x : Int32} {lv2 : List (Nat × Value)} (hn : j < M.2.2.2.1) (hl : (j, Value.int x) :: lv.filter (fun q => !(q.1 == j) && !(q.1 + 1 == j && q.2.category == 2)) = lv2) (dg : decode M.2.2.1 pc = .ok (.istore j, 2)) (k : G Γ d M P X (pc + 2) lv2 st E n kc ks) : G Γ d M P X pc lv (.int x :: st) E n kc ks := G.goL (fun hx hb h k => lv_istore hx hb dg h hn hl k) k
theorem g_astore_n {j : Fin 4} {x : Nat} {lv2 : List (Nat × Value)} (hn : (j : Nat) < M.2.2.2.1) (hl : ((j : Nat), Value.ref x) :: lv.filter (fun q => !(q.1 == (j : Nat)) && !(q.1 + 1 == (j : Nat) && q.2.category == 2)) = lv2) (dg : decode M.2.2.1 pc = .ok (.astore_n j, 1)) (k : G Γ d M P X (pc + 1) lv2 st E n kc ks) : G Γ d M P X pc lv (.ref x :: st) E n kc ks := G.goL (fun hx hb h k => lv_astore_n hx hb dg rfl h hn hl k) k
theorem g_astore {j : Nat} {x : Nat} {lv2 : List (Nat × Value)} (hn : j < M.2.2.2.1) (hl : (j, Value.ref x) :: lv.filter (fun q => !(q.1 == j) && !(q.1 + 1 == j && q.2.category == 2)) = lv2) (dg : decode M.2.2.1 pc = .ok (.astore j, 2)) (k : G Γ d M P X (pc + 2) lv2 st E n kc ks) : G Γ d M P X pc lv (.ref x :: st) E n kc ks := G.goL (fun hx hb h k => lv_astore hx hb dg h hn hl k) k
theorem g_dstore {j : Nat} {x : UInt64} {lv2 : List (Nat × Value)} (hn : j + 1 < M.2.2.2.1) (hl : (j, Value.double x) :: lv.filter (fun q => !(q.1 == j) && (!(q.1 == j + 1) && !(q.1 + 1 == j && q.2.category == 2))) = lv2) (dg : decode M.2.2.1 pc = .ok (.dstore j, 2)) (k : G Γ d M P X (pc + 2) lv2 st E n kc ks) : G Γ d M P X pc lv (.double x :: st) E n kc ks := G.goL (fun hx hb h k => lv_dstore hx hb dg h hn hl k) k
theorem g_iinc {j : Nat} {i : Int} {x v : Int32} {lv2 : List (Nat × Value)} (q : Nat) (hq : lv[q]? = some (j, .int x)) (hv : x + Int32.ofInt i = v) (hn : j < M.2.2.2.1) (hl : (j, Value.int v) :: lv.filter (fun q => !(q.1 == j) && !(q.1 + 1 == j && q.2.category == 2)) = lv2) (dg : decode M.2.2.1 pc = .ok (.iinc j i, 3)) (k : G Γ d M P X (pc + 3) lv2 st E n kc ks) : G Γ d M P X pc lv st E n kc ks := G.goL (fun hx hb h k => lv_iinc hx hb dg h hq hv hn hl k) k
-- arithmetic
theorem g_iadd {x y : Int32} (dg : decode M.2.2.1 pc = .ok (.iadd, 1)) (k : G Γ d M P X (pc + 1) lv (.int (x + y) :: st) E n kc ks) : G Γ d M P X pc lv (.int y :: .int x :: st) E n kc ks := G.go (fun hx hb _ k => lv_iadd hx hb dg k) k
theorem g_isub {x y : Int32} (dg : decode M.2.2.1 pc = .ok (.isub, 1)) (k : G Γ d M P X (pc + 1) lv (.int (x - y) :: st) E n kc ks) : G Γ d M P X pc lv (.int y :: .int x :: st) E n kc ks := G.go (fun hx hb _ k => lv_isub hx hb dg k) k
theorem g_imul {x y : Int32} (dg : decode M.2.2.1 pc = .ok (.imul, 1)) (k : G Γ d M P X (pc + 1) lv (.int (x * y) :: st) E n kc ks) : G Γ d M P X pc lv (.int y :: .int x :: st) E n kc ks := G.go (fun hx hb _ k => lv_imul hx hb dg k) k
theorem g_idiv {x y : Int32} (hne : ¬ y = 0) (dg : decode M.2.2.1 pc = .ok (.idiv, 1)) (k : G Γ d M P X (pc + 1) lv (.int (x / y) :: st) E n kc ks) : G Γ d M P X pc lv (.int y :: .int x :: st) E n kc ks := G.go (fun hx hb _ k => lv_idiv hx hb dg hne k) k
theorem g_irem {x y : Int32} (hne : ¬ y = 0) (dg : decode M.2.2.1 pc = .ok (.irem, 1)) (k : G Γ d M P X (pc + 1) lv (.int (x - x / y * y) :: st) E n kc ks) : G Γ d M P X pc lv (.int y :: .int x :: st) E n kc ks := G.go (fun hx hb _ k => lv_irem hx hb dg hne k) k
theorem g_ineg {x : Int32} (dg : decode M.2.2.1 pc = .ok (.ineg, 1)) (k : G Γ d M P X (pc + 1) lv (.int (-x) :: st) E n kc ks) : G Γ d M P X pc lv (.int x :: st) E n kc ks := G.go (fun hx hb _ k => lv_ineg hx hb dg k) k
theorem g_iand {x y : Int32} (dg : decode M.2.2.1 pc = .ok (.iand, 1)) (k : G Γ d M P X (pc + 1) lv (.int (x &&& y) :: st) E n kc ks) : G Γ d M P X pc lv (.int y :: .int x :: st) E n kc ks := G.go (fun hx hb _ k => lv_iand hx hb dg k) k
theorem g_ior {x y : Int32} (dg : decode M.2.2.1 pc = .ok (.ior, 1)) (k : G Γ d M P X (pc + 1) lv (.int (x ||| y) :: st) E n kc ks) : G Γ d M P X pc lv (.int y :: .int x :: st) E n kc ks := G.go (fun hx hb _ k => lv_ior hx hb dg k) k
theorem g_ishl {x y : Int32} (dg : decode M.2.2.1 pc = .ok (.ishl, 1)) (k : G Γ d M P X (pc + 1) lv (.int (x <<< (y &&& 31)) :: st) E n kc ks) : G Γ d M P X pc lv (.int y :: .int x :: st) E n kc ks := G.go (fun hx hb _ k => lv_ishl hx hb dg k) k
theorem g_ishr {x y : Int32} (dg : decode M.2.2.1 pc = .ok (.ishr, 1)) (k : G Γ d M P X (pc + 1) lv (.int (x >>> (y &&& 31)) :: st) E n kc ks) : G Γ d M P X pc lv (.int y :: .int x :: st) E n kc ks := G.go (fun hx hb _ k => lv_ishr hx hb dg k) k
theorem g_iushr {x y v : Int32} (hv : (x.toUInt32 >>> (y.toUInt32 &&& Int32.toUInt32 31)).toInt32 = v) (dg : decode M.2.2.1 pc = .ok (.iushr, 1)) (k : G Γ d M P X (pc + 1) lv (.int v :: st) E n kc ks) : G Γ d M P X pc lv (.int y :: .int x :: st) E n kc ks := G.go (fun hx hb _ k => lv_iushr hx hb dg hv k) k
theorem g_i2l {x : Int32} (dg : decode M.2.2.1 pc = .ok (.i2l, 1)) (k : G Γ d M P X (pc + 1) lv (.long x.toInt64 :: st) E n kc ks) : G Γ d M P X pc lv (.int x :: st) E n kc ks := G.go (fun hx hb _ k => lv_i2l hx hb dg rfl k) k
theorem g_i2b {x : Int32} (dg : decode M.2.2.1 pc = .ok (.i2b, 1)) (k : G Γ d M P X (pc + 1) lv (.int x.toInt8.toInt32 :: st) E n kc ks) : G Γ d M P X pc lv (.int x :: st) E n kc ks := G.go (fun hx hb _ k => lv_i2b hx hb dg rfl k) k
theorem g_i2c {x : Int32} (dg : decode M.2.2.1 pc = .ok (.i2c, 1)) (k : G Γ d M P X (pc + 1) lv (.int (x.toUInt32 % 65536).toInt32 :: st) E n kc ks) : G Γ d M P X pc lv (.int x :: st) E n kc ks := G.go (fun hx hb _ k => lv_i2c hx hb dg rfl k) k
theorem g_i2d {x : Int32} (dg : decode M.2.2.1 pc = .ok (.i2d, 1)) (k : G Γ d M P X (pc + 1) lv (.double (FP.i2d x) :: st) E n kc ks) : G Γ d M P X pc lv (.int x :: st) E n kc ks := G.go (fun hx hb _ k => lv_i2d hx hb dg k) k
theorem g_i2f {x : Int32} (dg : decode M.2.2.1 pc = .ok (.i2f, 1)) (k : G Γ d M P X (pc + 1) lv (.float (FP.i2f x) :: st) E n kc ks) : G Γ d M P X pc lv (.int x :: st) E n kc ks := G.go (fun hx hb _ k => lv_i2f hx hb dg k) k
theorem g_fconst0 (dg : decode M.2.2.1 pc = .ok (.fconst 0, 1)) (k : G Γ d M P X (pc + 1) lv (.float FP.fconst0 :: st) E n kc ks) : G Γ d M P X pc lv st E n kc ks := G.go (fun hx hb _ k => lv_fconst0 hx hb dg k) k
theorem g_dconst0 (dg : decode M.2.2.1 pc = .ok (.dconst 0, 1)) (k : G Γ d M P X (pc + 1) lv (.double FP.dconst0 :: st) E n kc ks) : G Γ d M P X pc lv st E n kc ks := G.go (fun hx hb _ k => lv_dconst0 hx hb dg k) k
theorem g_fdiv {x y : UInt32} (hne : vf_n32 (FP.fdiv x y)) (dg : decode M.2.2.1 pc = .ok (.fdiv, 1)) (k : G Γ d M P X (pc + 1) lv (.float (FP.fdiv x y) :: st) E n kc ks) : G Γ d M P X pc lv (.float y :: .float x :: st) E n kc ks := G.go (fun hx hb _ k => lv_fdiv hx hb dg hne k) k
theorem g_ddiv {x y : UInt64} (hne : vf_n64 (FP.ddiv x y)) (dg : decode M.2.2.1 pc = .ok (.ddiv, 1)) (k : G Γ d M P X (pc + 1) lv (.double (FP.ddiv x y) :: st) E n kc ks) : G Γ d M P X pc lv (.double y :: .double x :: st) E n kc ks := G.go (fun hx hb _ k => lv_ddiv hx hb dg hne k) k
theorem g_f2d {x : UInt32} (hne : vf_n64 (FP.f2d x)) (dg : decode M.2.2.1 pc = .ok (.f2d, 1)) (k : G Γ d M P X (pc + 1) lv (.double (FP.f2d x) :: st) E n kc ks) : G Γ d M P X pc lv (.float x :: st) E n kc ks := G.go (fun hx hb _ k => lv_f2d hx hb dg hne k) k
theorem g_dcmp {x y : UInt64} {op : CmpOp} (dg : decode M.2.2.1 pc = .ok (.dcmp op, 1)) (k : G Γ d M P X (pc + 1) lv (.int (Op.cmpValue (FP.dcmp x y) op) :: st) E n kc ks) : G Γ d M P X pc lv (.double y :: .double x :: st) E n kc ks := G.go (fun hx hb _ k => lv_dcmp hx hb dg k) k
-- stack
theorem g_dup {v : Value} (hv : v.category = 1) (dg : decode M.2.2.1 pc = .ok (.dup, 1)) (k : G Γ d M P X (pc + 1) lv (v :: v :: st) E n kc ks) : G Γ d M P X pc lv (v :: st) E n kc ks := G.go (fun hx hb _ k => lv_dup hx hb dg hv k) k
theorem g_dup_x1 {v w : Value} (hv : v.category = 1) (hw : w.category = 1) (dg : decode M.2.2.1 pc = .ok (.dup_x1, 1)) (k : G Γ d M P X (pc + 1) lv (v :: w :: v :: st) E n kc ks) : G Γ d M P X pc lv (v :: w :: st) E n kc ks := G.go (fun hx hb _ k => lv_dup_x1 hx hb dg hv hw k) k
theorem g_pop {v : Value} (hv : v.category = 1) (dg : decode M.2.2.1 pc = .ok (.pop, 1)) (k : G Γ d M P X (pc + 1) lv st E n kc ks) : G Γ d M P X pc lv (v :: st) E n kc ks := G.go (fun hx hb _ k => lv_pop hx hb dg hv k) k
theorem g_dup2 {v w : Value} (hv : v.category = 1) (hw : w.category = 1) (dg : decode M.2.2.1 pc = .ok (.dup2, 1)) (k : G Γ d M P X (pc + 1) lv (v :: w :: v :: w :: st) E n kc ks) : G Γ d M P X pc lv (v :: w :: st) E n kc ks := G.go (fun hx hb _ k => lv_dup2_11 hx hb dg hv hw k) k
theorem g_topi {x : Int32} (k : ∀ y : Int32, y = x → G Γ d M P X pc lv (.int y :: st) E n kc ks) : G Γ d M P X pc lv (.int x :: st) E n kc ks := k x rfl
-- branches
theorem g_goto {off : Int} {tgt : Nat} (ht : (pc : Int) + off = (tgt : Int)) (dg : decode M.2.2.1 pc = .ok (.goto off, 3)) (k : G Γ d M P X tgt lv st E n kc ks) : G Γ d M P X pc lv st E n kc ks := G.go (fun hx hb _ k => lv_goto hx hb dg ht k) k
theorem g_if_eq {x : Int32} {off : Int} {tgt : Nat} (ht : (pc : Int) + off = (tgt : Int)) (dg : decode M.2.2.1 pc = .ok (.ifCond .eq off, 3)) (ka : x = 0 → G Γ d M P X tgt lv st E n kc ks) (kb : ¬ x = 0 → G Γ d M P X (pc + 3) lv st E n kc ks) : G Γ d M P X pc lv (.int x :: st) E n kc ks := G.br (fun hx hb ka kb => lv_if_eq hx hb dg ht ka kb) ka kb
theorem g_if_ne {x : Int32} {off : Int} {tgt : Nat} (ht : (pc : Int) + off = (tgt : Int)) (dg : decode M.2.2.1 pc = .ok (.ifCond .ne off, 3)) (ka : ¬ x = 0 → G Γ d M P X tgt lv st E n kc ks) (kb : x = 0 → G Γ d M P X (pc + 3) lv st E n kc ks) : G Γ d M P X pc lv (.int x :: st) E n kc ks := G.br (fun hx hb ka kb => lv_if_ne hx hb dg ht ka kb) ka kb
theorem g_if_lt {x : Int32} {off : Int} {tgt : Nat} (ht : (pc : Int) + off = (tgt : Int)) (dg : decode M.2.2.1 pc = .ok (.ifCond .lt off, 3)) (ka : x < 0 → G Γ d M P X tgt lv st E n kc ks) (kb : ¬ x < 0 → G Γ d M P X (pc + 3) lv st E n kc ks) : G Γ d M P X pc lv (.int x :: st) E n kc ks := G.br (fun hx hb ka kb => lv_if_lt hx hb dg ht ka kb) ka kb
theorem g_if_ge {x : Int32} {off : Int} {tgt : Nat} (ht : (pc : Int) + off = (tgt : Int)) (dg : decode M.2.2.1 pc = .ok (.ifCond .ge off, 3)) (ka : 0 ≤ x → G Γ d M P X tgt lv st E n kc ks) (kb : ¬ 0 ≤ x → G Γ d M P X (pc + 3) lv st E n kc ks) : G Γ d M P X pc lv (.int x :: st) E n kc ks := G.br (fun hx hb ka kb => lv_if_ge hx hb dg ht ka kb) ka kb
theorem g_if_gt {x : Int32} {off : Int} {tgt : Nat} (ht : (pc : Int) + off = (tgt : Int)) (dg : decode M.2.2.1 pc = .ok (.ifCond .gt off, 3)) (ka : 0 < x → G Γ d M P X tgt lv st E n kc ks) (kb : ¬ 0 < x → G Γ d M P X (pc + 3) lv st E n kc ks) : G Γ d M P X pc lv (.int x :: st) E n kc ks := G.br (fun hx hb ka kb => lv_if_gt hx hb dg ht ka kb) ka kb
theorem g_if_le {x : Int32} {off : Int} {tgt : Nat} (ht : (pc : Int) + off = (tgt : Int)) (dg : decode M.2.2.1 pc = .ok (.ifCond .le off, 3)) (ka : x ≤ 0 → G Γ d M P X tgt lv st E n kc ks) (kb : ¬ x ≤ 0 → G Γ d M P X (pc + 3) lv st E n kc ks) : G Γ d M P X pc lv (.int x :: st) E n kc ks := G.br (fun hx hb ka kb => lv_if_le hx hb dg ht ka kb) ka kb
theorem g_icmp_eq {x y : Int32} {off : Int} {tgt : Nat} (ht : (pc : Int) + off = (tgt : Int)) (dg : decode M.2.2.1 pc = .ok (.if_icmp .eq off, 3)) (ka : x = y → G Γ d M P X tgt lv st E n kc ks) (kb : ¬ x = y → G Γ d M P X (pc + 3) lv st E n kc ks) : G Γ d M P X pc lv (.int y :: .int x :: st) E n kc ks := G.br (fun hx hb ka kb => lv_icmp_eq hx hb dg ht ka kb) ka kb
theorem g_icmp_ne {x y : Int32} {off : Int} {tgt : Nat} (ht : (pc : Int) + off = (tgt : Int)) (dg : decode M.2.2.1 pc = .ok (.if_icmp .ne off, 3)) (ka : ¬ x = y → G Γ d M P X tgt lv st E n kc ks) (kb : x = y → G Γ d M P X (pc + 3) lv st E n kc ks) : G Γ d M P X pc lv (.int y :: .int x :: st) E n kc ks := G.br (fun hx hb ka kb => lv_icmp_ne hx hb dg ht ka kb) ka kb
theorem g_icmp_lt {x y : Int32} {off : Int} {tgt : Nat} (ht : (pc : Int) + off = (tgt : Int)) (dg : decode M.2.2.1 pc = .ok (.if_icmp .lt off, 3)) (ka : x < y → G Γ d M P X tgt lv st E n kc ks) (kb : ¬ x < y → G Γ d M P X (pc + 3) lv st E n kc ks) : G Γ d M P X pc lv (.int y :: .int x :: st) E n kc ks := G.br (fun hx hb ka kb => lv_icmp_lt hx hb dg ht ka kb) ka kb
theorem g_icmp_ge {x y : Int32} {off : Int} {tgt : Nat} (ht : (pc : Int) + off = (tgt : Int)) (dg : decode M.2.2.1 pc = .ok (.if_icmp .ge off, 3)) (ka : y ≤ x → G Γ d M P X tgt lv st E n kc ks) (kb : ¬ y ≤ x → G Γ d M P X (pc + 3) lv st E n kc ks) : G Γ d M P X pc lv (.int y :: .int x :: st) E n kc ks := G.br (fun hx hb ka kb => lv_icmp_ge hx hb dg ht ka kb) ka kb
theorem g_icmp_gt {x y : Int32} {off : Int} {tgt : Nat} (ht : (pc : Int) + off = (tgt : Int)) (dg : decode M.2.2.1 pc = .ok (.if_icmp .gt off, 3)) (ka : y < x → G Γ d M P X tgt lv st E n kc ks) (kb : ¬ y < x → G Γ d M P X (pc + 3) lv st E n kc ks) : G Γ d M P X pc lv (.int y :: .int x :: st) E n kc ks := G.br (fun hx hb ka kb => lv_icmp_gt hx hb dg ht ka kb) ka kb
theorem g_icmp_le {x y : Int32} {off : Int} {tgt : Nat} (ht : (pc : Int) + off = (tgt : Int)) (dg : decode M.2.2.1 pc = .ok (.if_icmp .le off, 3)) (ka : x ≤ y → G Γ d M P X tgt lv st E n kc ks) (kb : ¬ x ≤ y → G Γ d M P X (pc + 3) lv st E n kc ks) : G Γ d M P X pc lv (.int y :: .int x :: st) E n kc ks := G.br (fun hx hb ka kb => lv_icmp_le hx hb dg ht ka kb) ka kb
theorem g_ifnull {x : Nat} {off : Int} (dg : decode M.2.2.1 pc = .ok (.ifnull off, 3)) (k : G Γ d M P X (pc + 3) lv st E n kc ks) : G Γ d M P X pc lv (.ref x :: st) E n kc ks := G.go (fun hx hb _ k => lv_ifnull hx hb dg k) k
theorem g_ifnonnull {x : Nat} {off : Int} {tgt : Nat} (ht : (pc : Int) + off = (tgt : Int)) (dg : decode M.2.2.1 pc = .ok (.ifnonnull off, 3)) (k : G Γ d M P X tgt lv st E n kc ks) : G Γ d M P X pc lv (.ref x :: st) E n kc ks := G.go (fun hx hb _ k => lv_ifnonnull hx hb dg ht k) k
theorem g_ifnullN {off : Int} {tgt : Nat} (ht : (pc : Int) + off = (tgt : Int)) (dg : decode M.2.2.1 pc = .ok (.ifnull off, 3)) (k : G Γ d M P X tgt lv st E n kc ks) : G Γ d M P X pc lv (.null :: st) E n kc ks := G.go (fun hx hb _ k => lv_ifnullN hx hb dg ht k) k
theorem g_acmp_eq {rx ry : Option Nat} {off : Int} {tgt : Nat} (ht : (pc : Int) + off = (tgt : Int)) (dg : decode M.2.2.1 pc = .ok (.if_acmp .eq off, 3)) (ka : rx = ry → G Γ d M P X tgt lv st E n kc ks) (kb : ¬ rx = ry → G Γ d M P X (pc + 3) lv st E n kc ks) : G Γ d M P X pc lv (va_rf ry :: va_rf rx :: st) E n kc ks := G.br (fun hx hb ka kb => lv_acmp_eq hx hb dg ht ka kb) ka kb
theorem g_acmp_ne {rx ry : Option Nat} {off : Int} {tgt : Nat} (ht : (pc : Int) + off = (tgt : Int)) (dg : decode M.2.2.1 pc = .ok (.if_acmp .ne off, 3)) (ka : ¬ rx = ry → G Γ d M P X tgt lv st E n kc ks) (kb : rx = ry → G Γ d M P X (pc + 3) lv st E n kc ks) : G Γ d M P X pc lv (va_rf ry :: va_rf rx :: st) E n kc ks := G.br (fun hx hb ka kb => lv_acmp_ne hx hb dg ht ka kb) ka kb
end GROWS
end
section
section GHEAP
variable {Γ : Gm} {d : Nat} {M : Mr} {P : Po} {X : Px} {pc : Nat} {lv : List (Nat × Value)} {st rest : List Value} {E : Hp} {n kc ks : Nat}
/-- a field by an entry of a class's pool: class ci of vwCl, its place k -/
def Fl (own : String) (ix ci k : Nat) : Prop := ∃ (C ref : String) (T : u_T) (N : Nat), vwCl[ci]? = some (C, T, N) ∧ k < N ∧ Cond.fieldLink own ix ref (T k).2.1 (T k).2.2.1 ∈ wl ∧ (∀ w ∈ u_ws C T N, w ∈ wl) ∧ (∀ (args : Array Value) (s : State), (∀ w ∈ wl, w.before args s = true) → ∀ x, s.fieldFound? (T k).1 (T k).2.1 (T k).2.2.1 = some x → s.fieldFound? ref (T k).2.1 (T k).2.2.1 = some x)
/-- what a store of it asks: its type, whether it's final -/
def Fw (ci k : Nat) (ty : FieldType) (fin : Bool) : Prop := ∃ (C : String) (T : u_T) (N : Nat), vwCl[ci]? = some (C, T, N) ∧ (T k).2.2.2 = fin ∧ (T k).1 = C ∧ parseFieldDescriptor (T k).2.2.1 = some ty ∧ (∃ ty0 : Nat → FieldType, ∀ j, j < N → parseFieldDescriptor (T j).2.2.1 = some (ty0 j)) ∧ ∀ a, a < N → ∀ b, b < N → a ≠ b → (T a).2.1 ≠ (T b).2.1
theorem Fl.of {own C ref : String} {ix ci k N : Nat} {T : u_T} (hc : vwCl[ci]? = some (C, T, N)) (hk : k < N) (hl : Cond.fieldLink own ix ref (T k).2.1 (T k).2.2.1 ∈ wl) (hin : ∀ w ∈ u_ws C T N, w ∈ wl) (he : (T k).1 = ref) : Fl own ix ci k := ⟨C, ref, T, N, hc, hk, hl, hin, fun _ _ _ x hx => by rw [← he]; exact hx⟩
theorem g_get {ix ci k a : Nat} {fs : List Value} {v : Value} (hf : Fl M.1 ix ci k) (he : E a = some (.inr (ci, fs))) (hv : fs[k]? = some v) (dg : decode M.2.2.1 pc = .ok (.getfield ix, 3)) (kk : G Γ d M P X (pc + 3) lv (v :: st) E n kc ks) : G Γ d M P X pc lv (.ref a :: st) E n kc ks := by
  obtain ⟨C, ref, T, N, hc, hk, hl, hin, hsame⟩ := hf
  refine G.goF (fun {p e R s m args below meth c Q H locs cells slots ls} hF hH _ hS _ kk9 => ?_) kk
  obtain ⟨hx, hb, -, hown, hts, hev, -⟩ := hF
  exact va_get (D := gD Γ) (ws := [(a, .inr (ci, fs))]) hx hb hts hin hown hev.2.1 (fun j q hj => by
    cases j with
    | zero => cases hj; exact (hH a _ he).1
    | succ j => simp at hj) 0 rfl hc k hk (hts _ hl) (hsame args s hts) hv dg kk9
/-- a store's two sides: the machine's row, and the world behind it -/
theorem va_at.one {D : va_G} {cl : List vw_C} {a : Nat} {e : va_E} {H : Heap} (h : va_at D cl (a, e) H) : va_P D cl [(a, e)] H := fun j q hj => by
  cases j with
  | zero => cases hj; exact h
  | succ j => simp at hj
theorem va_P.one {D : va_G} {cl : List vw_C} {a : Nat} {e : va_E} {H : Heap} (h : va_P D cl [(a, e)] H) : va_at D cl (a, e) H := h 0 _ rfl
theorem g_put {ix ci k a : Nat} {fs fs2 : List Value} {v : Value} {ty : FieldType} (hf : Fl M.1 ix ci k) (hw : Fw ci k ty false) (he : E a = some (.inr (ci, fs))) (hl9 : k < fs.length) (hn : narrow ty v = v) (hfit : fits ty v = true) (hfs2 : fs.set k v = fs2) (dg : decode M.2.2.1 pc = .ok (.putfield ix, 3))
    (kk : G Γ d M P X (pc + 3) lv st (hset E a (.inr (ci, fs2))) n kc ks) : G Γ d M P X pc lv (v :: .ref a :: st) E n kc ks := by
  subst hfs2
  obtain ⟨C, ref, T, N, hc, hk, hl, hin, hsame⟩ := hf
  obtain ⟨C', T', N', hc', hfin, -, hd, ⟨ty0, hty⟩, hnm⟩ := hw
  cases hc.symm.trans hc'
  intro p e R s m args below meth c Q hF hE H locs cells slots ls h1 h2 h3 h4 h5 h6
  obtain ⟨hx, hb, -, hown, hts, hev, -⟩ := id hF
  have hK := hev.2.1
  have hap := va_apart (own := M.1) hts hin ty0 hty hnm hK hc
  have hB := (h1 a _ he).2
  obtain ⟨r, g1, cell, q1, q2, q3, q4⟩ := (h1 a _ he).1
  have hr : r = (C, T, N) := Option.some.inj (g1.symm.trans hc)
  subst hr
  obtain ⟨hS, hfc, kC, hkC, hkind⟩ := hK.1 ci _ hc
  obtain ⟨cf, kf, fi, f, hi, hsl⟩ := hS k hk
  have hlay := hts _ (hin _ (u_in_lay hk))
  unfold u_lay at hlay
  rw [if_neg (by rw [hfin]; decide)] at hlay
  have hst := (u_facts hfc hkC (u_lays hts hin hk) hi).1
  have h9 := u_store hfc hkC hkind hlay hi hd hn hfit
  refine W.putK hx hb (f := f) ⟨hown, hts _ hl, ⟨_, _, _, hsame args s hts _ hi⟩, hst⟩ (by rw [q2]; exact h9) q1 q3 (by rw [hsl]; exact k2_hasslot (q4 k hk)) rfl rfl dg fun H' e1 e2 e3 => ?_
  rw [hsl] at e1 ⊢
  exact kk p e R s m args below meth c Q hF hE H' _ cells slots ls (h1.set (e := .inr (ci, fs.set k v)) he ⟨_, hc, t_OB.to (V := updV (vp_V fs) k v) ⟨_, e1, q2, q3, t_set q4 hap hk v⟩ (fun j _ => vp_updV_set hl9 v j)⟩ e3) (e2.trans h2) (h3.put e2 e3 hB) h4 h5 h6
theorem g_putF {ix ci k a : Nat} {fs fs2 : List Value} {v : Value} {ty : FieldType} (hf : Fl M.1 ix ci k) (hw : Fw ci k ty true) (hown9 : ∃ T N, vwCl[ci]? = some (M.1, T, N)) (hin9 : M.2.1.name = "<init>") (he : E a = some (.inr (ci, fs))) (hl9 : k < fs.length) (hn : narrow ty v = v) (hfit : fits ty v = true) (hfs2 : fs.set k v = fs2) (dg : decode M.2.2.1 pc = .ok (.putfield ix, 3))
    (kk : G Γ d M P X (pc + 3) lv st (hset E a (.inr (ci, fs2))) n kc ks) : G Γ d M P X pc lv (v :: .ref a :: st) E n kc ks := by
  subst hfs2
  obtain ⟨C, ref, T, N, hc, hk, hl, hin, hsame⟩ := hf
  obtain ⟨C', T', N', hc', hfin, hCC, hd, ⟨ty0, hty⟩, hnm⟩ := hw
  obtain ⟨T9, N9, hc9⟩ := hown9
  cases hc.symm.trans hc'
  have hCM : C = M.1 := by have := hc.symm.trans hc9; simp at this; exact this.1
  intro p e R s m args below meth c Q hF hE H locs cells slots ls h1 h2 h3 h4 h5 h6
  obtain ⟨hx, hb, -, hown, hts, hev, -, -, hnam⟩ := id hF
  have hK := hev.2.1
  have hap := va_apart (own := M.1) hts hin ty0 hty hnm hK hc
  have hB := (h1 a _ he).2
  obtain ⟨r, g1, cell, q1, q2, q3, q4⟩ := (h1 a _ he).1
  have hr : r = (C, T, N) := Option.some.inj (g1.symm.trans hc)
  subst hr
  obtain ⟨hS, hfc, kC, hkC, hkind⟩ := hK.1 ci _ hc
  obtain ⟨cf, kf, fi, f, hi, hsl⟩ := hS k hk
  have hlay := hts _ (hin _ (u_in_lay hk))
  unfold u_lay at hlay
  rw [if_pos hfin] at hlay
  have hst := (u_facts hfc hkC (u_lays hts hin hk) hi).1
  have hcf : m.cls = cf := by
    obtain ⟨_, _, c', _, _, _, -, -, hf', -, -, -, hown2, -⟩ := Cond.laysFinal_spec hlay
    have e1 : c' = cf := by have := hi.symm.trans hf'; simp at this; exact this.1.symm
    rw [hCC, hCM] at hown2
    rw [← e1]; exact Option.some.inj (hown.symm.trans hown2)
  have h9 := u_fits hfc hkC hkind (Or.inr hlay) hi hd hn hfit
  refine W.putFinK hx hb hown (hts _ hl) (hsame args s hts _ hi) hst hcf (hnam hin9) (by rw [q2]; exact h9) q1 q3 (by rw [hsl]; exact k2_hasslot (q4 k hk)) rfl rfl dg fun H' e1 e2 e3 => ?_
  rw [hsl] at e1 ⊢
  exact kk p e R s m args below meth c Q hF hE H' _ cells slots ls (h1.set (e := .inr (ci, fs.set k v)) he ⟨_, hc, t_OB.to (V := updV (vp_V fs) k v) ⟨_, e1, q2, q3, t_set q4 hap hk v⟩ (fun j _ => vp_updV_set hl9 v j)⟩ e3) (e2.trans h2) (h3.put e2 e3 hB) h4 h5 h6
/-- a static of the environment -/
theorem g_gets {C nm dd : String} {v : Value} {ix : Nat} (j : Nat) (hz : (gzs Γ)[j]? = some (C, nm, dd, v)) (hl : Cond.fieldLink M.1 ix C nm dd ∈ wl) (dg : decode M.2.2.1 pc = .ok (.getstatic ix, 3)) (kk : G Γ d M P X (pc + 3) lv (v :: st) E n kc ks) : G Γ d M P X pc lv st E n kc ks :=
  G.goF (fun hF _ _ hS _ k => va_gets hF.1 hF.2.1 (hF.2.2.2.2.2.1.2.2.1 _ (List.mem_of_getElem? hz)) hS hF.2.2.2.1 (hF.2.2.2.2.1 _ hl) (fun _ h => h) dg k) kk
-- arrays
theorem g_len {a : Nat} {t : Nat} {ty : FieldType} {x : vp_A} {v : Int32} (he : E a = some (.inl (gA Γ t, x))) (ht : (gtys Γ)[t]? = some (gA Γ t, ty)) (hv : Int32.ofNat x.1 = v) (dg : decode M.2.2.1 pc = .ok (.arraylength, 1)) (kk : G Γ d M P X (pc + 1) lv (.int v :: st) E n kc ks) : G Γ d M P X pc lv (.ref a :: st) E n kc ks :=
  G.goF (fun hF hH _ _ _ k => va_alen (D := gD Γ) (cl := vwCl) hF.1 hF.2.1 hF.2.2.2.2.2.1.2.1 (hH a _ he).1.one 0 t rfl ht hv dg k) kk
theorem g_iald {a N : Nat} {f : Nat → Int32} {i : Int32} (he : E a = some (.inl (gA Γ 0, N, .inl f))) (hin : vp_in i N) (dg : decode M.2.2.1 pc = .ok (.iaload, 1)) (kk : G Γ d M P X (pc + 1) lv (.int (f i.toNatClampNeg) :: st) E n kc ks) : G Γ d M P X pc lv (.int i :: .ref a :: st) E n kc ks :=
  G.goF (fun hF hH _ _ _ k => va_iald (D := gD Γ) (cl := vwCl) hF.1 hF.2.1 hF.2.2.2.2.2.1.2.1 (hH a _ he).1.one 0 0 rfl rfl hin dg k) kk
theorem g_bald {a N : Nat} {f : Nat → Int32} {i : Int32} (he : E a = some (.inl (gA Γ 1, N, .inl f))) (hin : vp_in i N) (dg : decode M.2.2.1 pc = .ok (.baload, 1)) (kk : G Γ d M P X (pc + 1) lv (.int (f i.toNatClampNeg) :: st) E n kc ks) : G Γ d M P X pc lv (.int i :: .ref a :: st) E n kc ks :=
  G.goF (fun hF hH _ _ _ k => va_bald (D := gD Γ) (cl := vwCl) hF.1 hF.2.1 hF.2.2.2.2.2.1.2.1 (hH a _ he).1.one 0 1 rfl rfl hin dg k) kk
theorem g_zald {a N : Nat} {f : Nat → Int32} {i : Int32} (he : E a = some (.inl (gA Γ 2, N, .inl f))) (hin : vp_in i N) (dg : decode M.2.2.1 pc = .ok (.baload, 1)) (kk : G Γ d M P X (pc + 1) lv (.int (f i.toNatClampNeg) :: st) E n kc ks) : G Γ d M P X pc lv (.int i :: .ref a :: st) E n kc ks :=
  G.goF (fun hF hH _ _ _ k => va_zald (D := gD Γ) (cl := vwCl) hF.1 hF.2.1 hF.2.2.2.2.2.1.2.1 (hH a _ he).1.one 0 2 rfl rfl hin dg k) kk
theorem g_cald {a N : Nat} {f : Nat → Int32} {i : Int32} (he : E a = some (.inl (gA Γ 4, N, .inl f))) (hin : vp_in i N) (dg : decode M.2.2.1 pc = .ok (.caload, 1)) (kk : G Γ d M P X (pc + 1) lv (.int (f i.toNatClampNeg) :: st) E n kc ks) : G Γ d M P X pc lv (.int i :: .ref a :: st) E n kc ks :=
  G.goF (fun hF hH _ _ _ k => va_cald (D := gD Γ) (cl := vwCl) hF.1 hF.2.1 hF.2.2.2.2.2.1.2.1 (hH a _ he).1.one 0 4 rfl rfl hin dg k) kk
theorem g_lald {a N : Nat} {f : Nat → Int64} {i : Int32} (he : E a = some (.inl (gA Γ 3, N, .inr (.inl f)))) (hin : vp_in i N) (dg : decode M.2.2.1 pc = .ok (.laload, 1)) (kk : G Γ d M P X (pc + 1) lv (.long (f i.toNatClampNeg) :: st) E n kc ks) : G Γ d M P X pc lv (.int i :: .ref a :: st) E n kc ks :=
  G.goF (fun hF hH _ _ _ k => va_lald (D := gD Γ) (cl := vwCl) hF.1 hF.2.1 hF.2.2.2.2.2.1.2.1 (hH a _ he).1.one 0 3 rfl rfl hin dg k) kk
theorem g_aald {a N t : Nat} {C : String} {f : Nat → Option Nat} {i : Int32} (he : E a = some (.inl (gA Γ t, N, .inr (.inr (.inr (.inr f)))))) (ht : (gtys Γ)[t]? = some (gA Γ t, .object C)) (hin : vp_in i N) (dg : decode M.2.2.1 pc = .ok (.aaload, 1)) (kk : G Γ d M P X (pc + 1) lv (va_rf (f i.toNatClampNeg) :: st) E n kc ks) : G Γ d M P X pc lv (.int i :: .ref a :: st) E n kc ks :=
  G.goF (fun hF hH _ _ _ k => va_aldq (D := gD Γ) (cl := vwCl) hF.1 hF.2.1 hF.2.2.2.2.2.1.2.1 (hH a _ he).1.one 0 t rfl ht hin dg k) kk
theorem g_iast {a N : Nat} {f : Nat → Int32} {i x : Int32} (he : E a = some (.inl (gA Γ 0, N, .inl f))) (hin : vp_in i N) (dg : decode M.2.2.1 pc = .ok (.iastore, 1)) (kk : G Γ d M P X (pc + 1) lv st (hset E a (.inl (gA Γ 0, N, .inl (upd f i.toNatClampNeg x)))) n kc ks) : G Γ d M P X pc lv (.int x :: .int i :: .ref a :: st) E n kc ks := by
  intro p e R s m args below meth c Q hF hE H locs cells slots ls h1 h2 h3 h4 h5 h6
  obtain ⟨hx, hb, -, hown, hts, hev, -⟩ := id hF
  have ht : (gtys Γ)[0]? = some (gA Γ 0, .int) := rfl
  refine W.iast hx hb (h1 a _ he).1 ((hev.2.1.2 0 _ ht).1 N (fun j => .int (f j))) (fun q => by cases q) (by show ¬ (i < 0 ∨ (arrV _ _ _).slots.size ≤ _); rw [arrV_size]; exact hin) rfl rfl dg fun H1 e1 z oq => ?_
  refine kk p e R s m args below meth c Q hF hE H1 _ cells slots ls (h1.set he ?_ oq) (z.trans h2) (h3.put z oq (h1 a _ he).2) h4 h5 h6
  show H1[a]? = some (vp_cell _ _)
  rw [e1]
  rw [vp_cell_i, vp_cell_i, arrV_store]
  congr 2
  funext q
  by_cases hq : q = i.toNatClampNeg
  · subst hq
    simp [updV, upd]
  · simp [updV, upd, hq]
theorem g_bast {a N : Nat} {f : Nat → Int32} {i x : Int32} (he : E a = some (.inl (gA Γ 1, N, .inl f))) (hin : vp_in i N) (dg : decode M.2.2.1 pc = .ok (.bastore, 1)) (kk : G Γ d M P X (pc + 1) lv st (hset E a (.inl (gA Γ 1, N, .inl (upd f i.toNatClampNeg (vp_nar .byte x))))) n kc ks) : G Γ d M P X pc lv (.int x :: .int i :: .ref a :: st) E n kc ks := by
  intro p e R s m args below meth c Q hF hE H locs cells slots ls h1 h2 h3 h4 h5 h6
  obtain ⟨hx, hb, -, hown, hts, hev, -⟩ := id hF
  have ht : (gtys Γ)[1]? = some (gA Γ 1, .byte) := rfl
  refine W.bast hx hb (h1 a _ he).1 ((hev.2.1.2 1 _ ht).1 N (fun j => .int (f j))) (fun q => by cases q) (by show ¬ (i < 0 ∨ (arrV _ _ _).slots.size ≤ _); rw [arrV_size]; exact hin) rfl rfl dg fun H1 e1 z oq => ?_
  refine kk p e R s m args below meth c Q hF hE H1 _ cells slots ls (h1.set he ?_ oq) (z.trans h2) (h3.put z oq (h1 a _ he).2) h4 h5 h6
  show H1[a]? = some (vp_cell _ _)
  rw [e1]
  rw [vp_cell_i, vp_cell_i, arrV_store]
  congr 2
  funext q
  by_cases hq : q = i.toNatClampNeg
  · subst hq
    simp [updV, upd, vp_nar]
    try rfl
  · simp [updV, upd, hq]
theorem g_zast {a N : Nat} {f : Nat → Int32} {i x : Int32} (he : E a = some (.inl (gA Γ 2, N, .inl f))) (hin : vp_in i N) (dg : decode M.2.2.1 pc = .ok (.bastore, 1)) (kk : G Γ d M P X (pc + 1) lv st (hset E a (.inl (gA Γ 2, N, .inl (upd f i.toNatClampNeg (vp_nar .boolean x))))) n kc ks) : G Γ d M P X pc lv (.int x :: .int i :: .ref a :: st) E n kc ks := by
  intro p e R s m args below meth c Q hF hE H locs cells slots ls h1 h2 h3 h4 h5 h6
  obtain ⟨hx, hb, -, hown, hts, hev, -⟩ := id hF
  have ht : (gtys Γ)[2]? = some (gA Γ 2, .boolean) := rfl
  refine W.zast hx hb (h1 a _ he).1 ((hev.2.1.2 2 _ ht).1 N (fun j => .int (f j))) (fun q => by cases q) (by show ¬ (i < 0 ∨ (arrV _ _ _).slots.size ≤ _); rw [arrV_size]; exact hin) rfl rfl dg fun H1 e1 z oq => ?_
  refine kk p e R s m args below meth c Q hF hE H1 _ cells slots ls (h1.set he ?_ oq) (z.trans h2) (h3.put z oq (h1 a _ he).2) h4 h5 h6
  show H1[a]? = some (vp_cell _ _)
  rw [e1]
  rw [vp_cell_i, vp_cell_i, arrV_store]
  congr 2
  funext q
  by_cases hq : q = i.toNatClampNeg
  · subst hq
    simp [updV, upd, vp_nar]
    try rfl
  · simp [updV, upd, hq]
theorem g_cast {a N : Nat} {f : Nat → Int32} {i x : Int32} (he : E a = some (.inl (gA Γ 4, N, .inl f))) (hin : vp_in i N) (dg : decode M.2.2.1 pc = .ok (.castore, 1)) (kk : G Γ d M P X (pc + 1) lv st (hset E a (.inl (gA Γ 4, N, .inl (upd f i.toNatClampNeg (vp_nar .char x))))) n kc ks) : G Γ d M P X pc lv (.int x :: .int i :: .ref a :: st) E n kc ks := by
  intro p e R s m args below meth c Q hF hE H locs cells slots ls h1 h2 h3 h4 h5 h6
  obtain ⟨hx, hb, -, hown, hts, hev, -⟩ := id hF
  have ht : (gtys Γ)[4]? = some (gA Γ 4, .char) := rfl
  refine W.cast hx hb (h1 a _ he).1 ((hev.2.1.2 4 _ ht).1 N (fun j => .int (f j))) (fun q => by cases q) (by show ¬ (i < 0 ∨ (arrV _ _ _).slots.size ≤ _); rw [arrV_size]; exact hin) rfl rfl dg fun H1 e1 z oq => ?_
  refine kk p e R s m args below meth c Q hF hE H1 _ cells slots ls (h1.set he ?_ oq) (z.trans h2) (h3.put z oq (h1 a _ he).2) h4 h5 h6
  show H1[a]? = some (vp_cell _ _)
  rw [e1]
  rw [vp_cell_i, vp_cell_i, arrV_store]
  congr 2
  funext q
  by_cases hq : q = i.toNatClampNeg
  · subst hq
    simp [updV, upd, vp_nar]
    try rfl
  · simp [updV, upd, hq]
theorem g_last {a N : Nat} {f : Nat → Int64} {i : Int32} {x : Int64} (he : E a = some (.inl (gA Γ 3, N, .inr (.inl f)))) (hin : vp_in i N) (dg : decode M.2.2.1 pc = .ok (.lastore, 1)) (kk : G Γ d M P X (pc + 1) lv st (hset E a (.inl (gA Γ 3, N, .inr (.inl (vp_updL f i.toNatClampNeg x))))) n kc ks) : G Γ d M P X pc lv (.long x :: .int i :: .ref a :: st) E n kc ks := by
  intro p e R s m args below meth c Q hF hE H locs cells slots ls h1 h2 h3 h4 h5 h6
  obtain ⟨hx, hb, -, hown, hts, hev, -⟩ := id hF
  have ht : (gtys Γ)[3]? = some (gA Γ 3, .long) := rfl
  refine W.last hx hb (h1 a _ he).1 ((hev.2.1.2 3 _ ht).1 N (fun j => .long (f j))) (fun q => by cases q) (by show ¬ (i < 0 ∨ (arrV _ _ _).slots.size ≤ _); rw [arrV_size]; exact hin) rfl rfl dg fun H1 e1 z oq => ?_
  refine kk p e R s m args below meth c Q hF hE H1 _ cells slots ls (h1.set he ?_ oq) (z.trans h2) (h3.put z oq (h1 a _ he).2) h4 h5 h6
  show H1[a]? = some (vp_cell _ _)
  rw [e1]
  rw [vp_cell_l, vp_cell_l, arrV_store]
  congr 2
  funext q
  by_cases hq : q = i.toNatClampNeg
  · subst hq
    simp [updV, vp_updL]
  · simp [updV, vp_updL, hq]
theorem g_aast {a N t v ci : Nat} {r : vw_C} {vs : List Value} {f : Nat → Option Nat} {i : Int32} (he : E a = some (.inl (gA Γ t, N, .inr (.inr (.inr (.inr f)))))) (ht : (gtys Γ)[t]? = some (gA Γ t, .object r.1)) (hv : E v = some (.inr (ci, vs))) (hc : vwCl[ci]? = some r) (hin : vp_in i N) (dg : decode M.2.2.1 pc = .ok (.aastore, 1)) (kk : G Γ d M P X (pc + 1) lv st (hset E a (.inl (gA Γ t, N, .inr (.inr (.inr (.inr (va_up f i.toNatClampNeg (some v)))))))) n kc ks) : G Γ d M P X pc lv (.ref v :: .int i :: .ref a :: st) E n kc ks := by
  intro p e R s m args below meth c Q hF hE H locs cells slots ls h1 h2 h3 h4 h5 h6
  obtain ⟨hx, hb, -, hown, hts, hev, -⟩ := id hF
  have hK := hev.2.1
  have hlt : i.toNatClampNeg < N := Nat.not_le.mp fun q => hin (Or.inr q)
  have h0 : ¬ i < 0 := fun q => hin (Or.inl q)
  obtain ⟨r', hr', cellV, g1, g2, g3, -⟩ := (h1 v _ hv).1
  have hcls := (hK.1 ci r hc).2
  obtain ⟨kA, comp, k1, k2, k3, -⟩ := (hK.2 t _ ht).2
  have hcomp : comp = (gD Γ).1 ci := Option.some.inj (k3.symm.trans hcls.1)
  subst hcomp
  obtain ⟨kC, hkC, -⟩ := hcls.2
  refine W.aast hx hb (h1 a _ he).1 (fun q h => by cases h) (fun h => by cases h) k1 k2 rfl hkC ⟨h0, by show _ < (arrV _ _ _).slots.size; rw [arrV_size]; exact hlt⟩ g1 (fun q h => by rw [g3] at h; cases h) (by rw [g2]; exact hkC) (by rw [g2]; exact va_assign hcls) rfl rfl dg fun H1 e1 z oq => ?_
  refine kk p e R s m args below meth c Q hF hE H1 _ cells slots ls (h1.set he ?_ oq) (z.trans h2) (h3.put z oq (h1 a _ he).2) h4 h5 h6
  show H1[a]? = some (vp_cell _ _)
  rw [e1]
  rw [vp_cell_q, vp_cell_q, arrV_store]
  congr 2
  funext q
  by_cases hq : q = i.toNatClampNeg
  · subst hq
    simp [updV, va_up, va_rf]
  · simp [updV, va_up, hq]
-- making
theorem g_new {ix ci N : Nat} {C : String} {T : u_T} {fs : List Value} {ty : Nat → FieldType} (hc : vwCl[ci]? = some (C, T, N)) (hin : ∀ w ∈ u_ws C T N, w ∈ wl) (hty : ∀ k, k < N → parseFieldDescriptor (T k).2.2.1 = some (ty k)) (hl : Cond.classLink M.1 ix C ∈ wl) (hi : Cond.instantiable C N ∈ wl) (hini : Cond.initialized C ∈ wl) (hfs : ∀ j, j < N → defaultValue (ty j) = vp_V fs j) (dg : decode M.2.2.1 pc = .ok (.new ix, 3))
    (kk : gB Γ ≤ n → (∀ a e, E a = some e → a < n) → G Γ d M P X (pc + 3) lv (.ref n :: st) (hset E n (.inr (ci, fs))) (n + 1) kc ks) : G Γ d M P X pc lv st E n (kc + 1) (ks + N) := by
  intro p e R s m args below meth c Q hF hE H locs cells slots ls h1 h2 h3 h4 h5 h6
  obtain ⟨hx, hb, -, hown, hts, hev, -⟩ := id hF
  have hKn := hev.2.1.1 ci _ hc
  have hBn : gB Γ ≤ H.size := Nat.le_trans hev.2.2.2.2.2.2.2.2.1 h3.1
  refine W.newcK hx hb hown (hts _ hl) (hts _ hi) (hts _ hini) rfl dg (by omega) (by omega) hKn.2.1 rfl fun H1 kC hkC e1 z1 o1 => ?_
  subst h2
  refine kk hBn (fun a e ha => h1.lt ha) p e R s m args below meth c Q hF hE H1 locs (cells + 1) (slots + N) ls (h1.new hBn ⟨_, hc, (u_born ty hts (fun w hw => hin w hw) hKn hkC e1 hty).to hfs⟩ o1) z1 ⟨Nat.le_trans h3.1 (by omega), fun q g1 g2 => (o1 q (Nat.lt_of_lt_of_le g1 h3.1)).trans (h3.2.1 q g1 g2), h3.2.2⟩ h4 (by omega) (by omega)
theorem g_newa {t N : Nat} {atype : ArrayType} {ty : FieldType} {i : Int32} {a0 : vp_A} (ht : (gtys Γ)[t]? = some (gA Γ t, ty)) (hty : newarray.typeOf atype = ty) (hw : Cond.arrayClass ty ∈ wl) (ha : ∀ cA : ClassId, vp_cell cA a0 = arrV cA N (fun _ => defaultValue ty)) (hi0 : ¬ i < 0) (hiN : i.toNatClampNeg = N) (hbytes : N * componentBytes ty ≤ 536870912) (hra : ∀ (U : State) (cA : ClassId), va_RA U cA ty → U.vm.findClass ("[" ++ ty.toString) = some cA) (dg : decode M.2.2.1 pc = .ok (.newarray atype, 2))
    (kk : gB Γ ≤ n → (∀ a e, E a = some e → a < n) → G Γ d M P X (pc + 2) lv (.ref n :: st) (hset E n (.inl (gA Γ t, a0))) (n + 1) kc ks) : G Γ d M P X pc lv (.int i :: st) E n (kc + 1) (ks + N) := by
  subst hty
  intro p e R s m args below meth c Q hF hE H locs cells slots ls h1 h2 h3 h4 h5 h6
  obtain ⟨hx, hb, -, hown, hts, hev, -⟩ := id hF
  have hBn : gB Γ ≤ H.size := Nat.le_trans hev.2.2.2.2.2.2.2.2.1 h3.1
  refine va_newaK hx hb (hts _ hw) rfl dg rfl hi0 hiN hbytes (by omega) (by omega) rfl fun H1 cA e1 z1 o1 hAr hNm => ?_
  have hcA : cA = gA Γ t := Option.some.inj (hNm.symm.trans (hra s _ (hev.2.1.2 t _ ht).2))
  subst hcA
  subst h2
  refine kk hBn (fun a e ha => h1.lt ha) p e R s m args below meth c Q hF hE H1 locs (cells + 1) (slots + N) ls (h1.new hBn (by show H1[H.size]? = some (vp_cell _ _); rw [ha]; exact e1) o1) z1 ⟨Nat.le_trans h3.1 (by omega), fun q g1 g2 => (o1 q (Nat.lt_of_lt_of_le g1 h3.1)).trans (h3.2.1 q g1 g2), h3.2.2⟩ h4 (by omega) (by omega)
theorem g_anew {ix t N : Nat} {C : String} {i : Int32} (ht : (gtys Γ)[t]? = some (gA Γ t, .object C)) (hl : Cond.classLink M.1 ix C ∈ wl) (hao : ∀ (U : State) (H : Heap), Ev Γ U H → va_AO C U) (hi0 : ¬ i < 0) (hiN : i.toNatClampNeg = N) (hbytes : N * 4 ≤ 536870912) (dg : decode M.2.2.1 pc = .ok (.anewarray ix, 3))
    (kk : gB Γ ≤ n → (∀ a e, E a = some e → a < n) → G Γ d M P X (pc + 3) lv (.ref n :: st) (hset E n (.inl (gA Γ t, N, .inr (.inr (.inr (.inr (fun _ => none))))))) (n + 1) kc ks) : G Γ d M P X pc lv (.int i :: st) E n (kc + 1) (ks + N) := by
  subst hiN
  intro p e R s m args below meth c Q hF hE H locs cells slots ls h1 h2 h3 h4 h5 h6
  obtain ⟨hx, hb, -, hown, hts, hev, -⟩ := id hF
  have hBn : gB Γ ≤ H.size := Nat.le_trans hev.2.2.2.2.2.2.2.2.1 h3.1
  refine W.anew hx hb hown (hts _ hl) (va_AO.use (hao s _ hev)) rfl dg rfl hi0 hbytes (by omega) (by omega) fun cA kA comp f1 f2 f3 f4 => ?_
  generalize hH1 : H.push ({ cls := cA, slots := Array.replicate i.toNatClampNeg .null, vm := .none } : Cell) = H1
  have z1 : H1.size = H.size + 1 := by rw [← hH1, Array.size_push]
  have e1 : H1[H.size]? = some (arrV cA i.toNatClampNeg (fun _ => .null)) := by rw [← hH1, Array.getElem?_push_size, ← arrV_new]
  have o1 : ∀ q : Nat, q < H.size → H1[q]? = H[q]? := fun q hq => by rw [← hH1, Array.getElem?_push, if_neg (Nat.ne_of_lt hq)]
  have hcA : cA = gA Γ t := by
    obtain ⟨kA2, comp2, -, -, -, g4⟩ := (hev.2.1.2 t _ ht).2
    exact Option.some.inj (f1.symm.trans g4)
  subst hcA
  subst h2
  refine kk hBn (fun a e ha => h1.lt ha) p e R s m args below meth c Q hF hE H1 locs (cells + 1) (slots + i.toNatClampNeg) ls (h1.new hBn (by show H1[H.size]? = some (vp_cell _ _); rw [vp_cell_q]; exact e1) o1) z1 ⟨Nat.le_trans h3.1 (by omega), fun q g1 g2 => (o1 q (Nat.lt_of_lt_of_le g1 h3.1)).trans (h3.2.1 q g1 g2), h3.2.2⟩ h4 (by omega) (by omega)
end GHEAP
end
section
section GCALL
variable {Γ : Gm} {d : Nat} {M : Mr} {P : Po} {X : Px} {pc : Nat} {lv : List (Nat × Value)} {st rest : List Value} {E : Hp} {n kc ks : Nat}
theorem g_run {p : Program} {e : Env} {R : Room} {s : State} {m : MethodId} {args : Array Value} {below : List Frame} {meth : Method} {c : Code} {H : Heap} {locs : List Loc} {cells slots mc ms : Nat} {Q : State → Prop} {ls : Array Slot} {a : Array Value} {P1 : Po} {X1 : Px}
    (hr : vx_Run p Γ.1 e R s m args below meth c H locs cells slots mc ms (F0 m pc ls st) rest (Qg Γ P1 a) (Xg Γ X1) (AB Γ)) (hS : va_S (AB Γ) s.heap H locs)
    (kx : ∀ (x : String) (E1 : Hp) (n1 : Nat) (H1 : Heap) (locs1 : List Loc) (q : Addr) (ce : Cell), X1 x E1 n1 → HS Γ E1 H1 → n1 ≤ H1.size → va_S (AB Γ) s.heap H1 locs1 → H1[q]? = some ce → ce.vm = .none → s.vm.findClass x = some ce.cls → vx_W p Γ.1 e R s m args below meth c H1 locs1 (cells + mc) (slots + ms) Q (F0 m pc ls rest) q)
    (kk : ∀ (v : Option Value) (E1 : Hp) (n1 : Nat) (H1 : Heap) (locs1 : List Loc), P1 v E1 n1 → HS Γ E1 H1 → H1.size = n1 → va_S (AB Γ) s.heap H1 locs1 → W p Γ.1 e R s m args below meth c H1 locs1 (cells + mc) (slots + ms) Q (F0 m (pc + 3) ls (v.toList ++ rest))) :
    W p Γ.1 e R s m args below meth c H locs cells slots Q (F0 m pc ls st) := by
  intro T hT X9
  rcases hr T hT X9 with ⟨v, st₀, t, T', L, h0, X', hL, e1, e2, ⟨⟨v2, E1, n1, hv, hp, hh, hz⟩, hF⟩, sp⟩ | ⟨q, st₀, t, T', L, x, ce, h0, X', hL, e1, e2, ⟨⟨E1, n1, hp, hh, hz⟩, hF⟩, hce, hcv, hcl, sp⟩
  · cases hv
    obtain ⟨k1, k2, k3⟩ := vx_keep h0 e1 hS (fun q _ h => h) (fun q h => h) hL hF
    obtain ⟨t2, a1, b1⟩ := kk v E1 n1 T'.heap (locs ++ L) hp (by rw [e1]; exact hh) (by rw [e1]; exact hz) k3 T' rfl X'
    exact ⟨t2, sp t2 a1, b1⟩
  · obtain ⟨k1, k2, k3⟩ := vx_keep h0 e1 hS (fun q _ h => h) (fun q h => h) hL hF
    obtain ⟨t2, a1, b1⟩ := kx x E1 n1 T'.heap (locs ++ L) q ce hp (by rw [e1]; exact hh) (by rw [e1]; exact hz) k3 (by rw [e1]; exact hce) hcv hcl T' rfl X'
    exact ⟨t2, sp.trans a1, b1⟩
/-- the receiver is an object of class C: of the world, or a String constant -/
def Rcv (Γ : Gm) (E : Hp) (b : Nat) (C : String) : Prop := (∃ (ci : Nat) (fs : List Value) (T : u_T) (N : Nat), E b = some (.inr (ci, fs)) ∧ vwCl[ci]? = some (C, T, N)) ∨ (C = "java/lang/String" ∧ ∃ i q, gstrs[i]? = some q ∧ b = gK Γ i)
theorem Rcv.of {b ci N : Nat} {fs : List Value} {C : String} {T : u_T} (h : E b = some (.inr (ci, fs))) (hc : vwCl[ci]? = some (C, T, N)) : Rcv Γ E b C := Or.inl ⟨ci, fs, T, N, h, hc⟩
theorem Rcv.use {b : Nat} {C : String} {s : State} {H : Heap} {locs : List Loc} (h : Rcv Γ E b C) (hE : HS Γ E H) (hv : Ev Γ s s.heap) (hS : va_S (AB Γ) s.heap H locs) : ∃ cellB : Cell, H[b]? = some cellB ∧ cellB.vm.isStatics = false ∧ s.vm.findClass C = some cellB.cls := by
  rcases h with ⟨ci, fs, T, N, h1, h2⟩ | ⟨rfl, i, q, h1, rfl⟩
  · exact va_recv hv.2.1 (hE _ _ h1).1.one h2 (q0 := 0) rfl
  · obtain ⟨cell, g1, g2, g3, -⟩ := ((hv.2.2.2.2.1 i q h1).2.1).kept hS.2.1
    exact ⟨cell, g1, g2, g3⟩
def nMH (M1 : Mr) (k : Nat) : Prop := (M1.2.1.cls ≠ "java/lang/invoke/MethodHandle" ∧ M1.2.1.cls ≠ "java/lang/invoke/VarHandle") ∧ (parseMethodDescriptor M1.2.1.desc).map (fun d => d.parameters.length) = some k ∧ M1.2.2.2.1 ≤ 45
def Cd (M1 : Mr) : Cond := Cond.code M1.2.1 M1.2.2.1 M1.2.2.2.1 M1.2.2.2.2
def LkV (own : String) (ix : Nat) (M1 : Mr) (k : Nat) : Prop := Cond.methodLink own ix M1.2.1 ∈ wl ∧ Cond.instanceMethod M1.2.1 ∈ wl ∧ Cond.selects M1.1 M1.2.1 M1.2.1 ∈ wl ∧ Cond.initialized M1.2.1.cls ∈ wl ∧ Cd M1 ∈ wl ∧ nMH M1 k
def LkS (own : String) (ix : Nat) (M1 : Mr) (k : Nat) : Prop := Cond.methodLink own ix M1.2.1 ∈ wl ∧ Cond.static M1.2.1 ∈ wl ∧ Cond.initialized M1.2.1.cls ∈ wl ∧ Cd M1 ∈ wl ∧ nMH M1 k
def LkI (own : String) (ix : Nat) (M1 : Mr) (k : Nat) : Prop := Cond.methodLink own ix M1.2.1 ∈ wl ∧ Cond.instanceMethod M1.2.1 ∈ wl ∧ M1.2.1.name = "<init>" ∧ Cond.initialized M1.2.1.cls ∈ wl ∧ Cd M1 ∈ wl ∧ nMH M1 k ∧ M1.2.2.2.2 = none
def LkIN (own : String) (ix : Nat) (M1 : Mr) (k : Nat) : Prop := (own, ix, M1.2.1, "AccentHouse") ∈ gNl ∧ Cond.instanceMethod M1.2.1 ∈ wl ∧ M1.2.1.name = "<init>" ∧ Cond.initialized M1.2.1.cls ∈ wl ∧ Cd M1 ∈ wl ∧ nMH M1 k ∧ M1.2.2.2.2 = none
/-- a super class's method, by invokespecial -/
def LkU (own : String) (ix : Nat) (M1 : Mr) (k : Nat) : Prop := Cond.methodLink own ix M1.2.1 ∈ wl ∧ Cond.sameMethod M1.2.1.cls M1.2.1.cls M1.2.1.name M1.2.1.desc ∈ wl ∧ Cond.superclass own M1.2.1.cls ∈ wl ∧ Cond.instanceMethod M1.2.1 ∈ wl ∧ Cond.initialized M1.2.1.cls ∈ wl ∧ Cd M1 ∈ wl ∧ M1.2.1.name ≠ "<init>" ∧ nMH M1 k
/-- an inherited method by another class's name: x is named, M1's code runs for an object of class C -/
def LkX (own : String) (ix : Nat) (C owner : String) (x : MethodName) (M1 : Mr) (k : Nat) : Prop := Cond.methodLink own ix x ∈ wl ∧ Cond.sameMethod x.cls owner x.name x.desc ∈ wl ∧ Cond.selects C x M1.2.1 ∈ wl ∧ Cond.instanceMethod M1.2.1 ∈ wl ∧ Cond.initialized M1.2.1.cls ∈ wl ∧ Cd M1 ∈ wl ∧ M1.2.1 = ⟨owner, x.name, x.desc⟩ ∧ (owner ≠ "java/lang/invoke/MethodHandle" ∧ owner ≠ "java/lang/invoke/VarHandle") ∧ (parseMethodDescriptor x.desc).map (fun d => d.parameters.length) = some k ∧ M1.2.2.2.1 ≤ 45
theorem nMH.len {M1 : Mr} {k : Nat} (h : (parseMethodDescriptor M1.2.1.desc).map (fun d => d.parameters.length) = some k) : ∀ sig, parseMethodDescriptor M1.2.1.desc = some sig → k = sig.parameters.length := fun sig hs => by
  rw [hs] at h
  exact (Option.some.inj h).symm
theorem g_pre {s : State} {H : Heap} {locs : List Loc} {av : List Value} (h1 : HS Γ E H) (h2 : H.size = n) (hv : Ev Γ s s.heap) (h3 : va_S (AB Γ) s.heap H locs) : ∀ U : State, U.heap = H → s.WarmedH U.vm → Pg Γ av E n av.toArray U := fun U hU hW => ⟨rfl, by rw [hU]; exact h1, by rw [hU]; exact h2, by rw [hU]; exact (hv.kept h3.1 h3.2.1).warm hW⟩
variable {M1 : Mr} {d1 mc ms ix k : Nat} {b : Nat} {As : List Value} {P1 : Po} {X1 : Px}
theorem g_invV (hC : Ct Γ d1 M1 mc ms (.ref b :: As) E n P1 X1) (lk : LkV M.1 ix M1 k) (hk : As.length = k) (hr : Rcv Γ E b M1.1) (hd : d1 + 1 ≤ d) (hrest : (rest.map fun v => v.category).sum ≤ 8) (hst : st = As.reverse ++ .ref b :: rest) (dg : decode M.2.2.1 pc = .ok (.invokevirtual ix, 3)) (hX : ∀ x E1 n1, X1 x E1 n1 → X x E1 n1)
    (kk : ∀ v E1 n1, P1 v E1 n1 → G Γ d M P X (pc + 3) lv (v.toList ++ rest) E1 n1 kc ks) : G Γ d M P X pc lv st E n (kc + mc) (ks + ms) := by
  intro p e R s m args below meth c Q hF hE H locs cells slots ls h1 h2 h3 h4 h5 h6
  obtain ⟨hx, hb, hml, hown, hts, hev, hdR, hlR, -⟩ := id hF
  obtain ⟨w1, w2, w3, w4, w5, ⟨m1, m2, m3⟩⟩ := lk
  refine g_run (vx_runV (n := k) ⟨hx, hb, hml, hown, hts⟩ hC ⟨⟨rfl, rfl, by show d1 + 1 ≤ R.frames; omega, by show 8 + (M1.2.2.2.1 + 11) + 64 * d1 ≤ R.locals; omega, pay_in hts (wl_cons w5), List.mem_cons_self, hts _ w5, hts _ w4, m1, nMH.len m2, hts _ w1⟩, hts _ w2, hts _ w3⟩ ⟨Pg.blind, hr.use h1 hev h3, g_pre h1 h2 hev h3⟩ rfl hk h4.1 hst (by show 2 * 0 + _ ≤ 8; omega) dg ⟨by omega, by omega⟩) h3 (fun x E1 n1 H1 locs1 q ce a1 a2 a3 a4 a5 a6 a7 => hE.2.2 x E1 n1 H1 locs1 _ _ pc ls rest q ce (hX _ _ _ a1) a2 a3 a4 (by omega) (by omega) a5 a6 a7) (fun v E1 n1 H1 locs1 a1 a2 a3 a4 => kk v E1 n1 a1 p e R s m args below meth c Q hF hE H1 locs1 _ _ ls a2 a3 a4 h4 (by omega) (by omega))
theorem g_invS (hC : Ct Γ d1 M1 mc ms As E n P1 X1) (lk : LkS M.1 ix M1 k) (hk : As.length = k) (hd : d1 + 1 ≤ d) (hrest : (rest.map fun v => v.category).sum ≤ 8) (hst : st = As.reverse ++ rest) (dg : decode M.2.2.1 pc = .ok (.invokestatic ix, 3)) (hX : ∀ x E1 n1, X1 x E1 n1 → X x E1 n1)
    (kk : ∀ v E1 n1, P1 v E1 n1 → G Γ d M P X (pc + 3) lv (v.toList ++ rest) E1 n1 kc ks) : G Γ d M P X pc lv st E n (kc + mc) (ks + ms) := by
  intro p e R s m args below meth c Q hF hE H locs cells slots ls h1 h2 h3 h4 h5 h6
  obtain ⟨hx, hb, hml, hown, hts, hev, hdR, hlR, -⟩ := id hF
  obtain ⟨w1, w2, w4, w5, ⟨m1, m2, m3⟩⟩ := lk
  refine g_run (vx_runS (n := k) ⟨hx, hb, hml, hown, hts⟩ hC ⟨⟨rfl, rfl, by show d1 + 1 ≤ R.frames; omega, by show 8 + (M1.2.2.2.1 + 11) + 64 * d1 ≤ R.locals; omega, pay_in hts (wl_cons w5), List.mem_cons_self, hts _ w5, hts _ w4, m1, nMH.len m2, hts _ w1⟩, hts _ w2⟩ ⟨Pg.blind, g_pre h1 h2 hev h3⟩ rfl hk h4.1 hst (by show 2 * 0 + _ ≤ 8; omega) dg ⟨by omega, by omega⟩) h3 (fun x E1 n1 H1 locs1 q ce a1 a2 a3 a4 a5 a6 a7 => hE.2.2 x E1 n1 H1 locs1 _ _ pc ls rest q ce (hX _ _ _ a1) a2 a3 a4 (by omega) (by omega) a5 a6 a7) (fun v E1 n1 H1 locs1 a1 a2 a3 a4 => kk v E1 n1 a1 p e R s m args below meth c Q hF hE H1 locs1 _ _ ls a2 a3 a4 h4 (by omega) (by omega))
theorem g_invI (hC : Ct Γ d1 M1 mc ms (.ref b :: As) E n P1 X1) (lk : LkI M.1 ix M1 k) (hk : As.length = k) (hd : d1 + 1 ≤ d) (hrest : (rest.map fun v => v.category).sum ≤ 8) (hst : st = As.reverse ++ .ref b :: rest) (dg : decode M.2.2.1 pc = .ok (.invokespecial ix, 3)) (hX : ∀ x E1 n1, X1 x E1 n1 → X x E1 n1)
    (kk : ∀ v E1 n1, P1 v E1 n1 → G Γ d M P X (pc + 3) lv (v.toList ++ rest) E1 n1 kc ks) : G Γ d M P X pc lv st E n (kc + mc) (ks + ms) := by
  intro p e R s m args below meth c Q hF hE H locs cells slots ls h1 h2 h3 h4 h5 h6
  obtain ⟨hx, hb, hml, hown, hts, hev, hdR, hlR, -⟩ := id hF
  obtain ⟨w1, w2, w3, w4, w5, ⟨m1, m2, m3⟩, m4⟩ := lk
  have hC2 := hC
  unfold Ct at hC2
  unfold Cd at w5
  rw [m4] at hC2 w5
  refine g_run (vx_runI (n := k) ⟨hx, hb, hml, hown, hts⟩ hC2 ⟨⟨rfl, rfl, by show d1 + 1 ≤ R.frames; omega, by show 8 + (M1.2.2.2.1 + 11) + 64 * d1 ≤ R.locals; omega, pay_in hts (wl_cons w5), List.mem_cons_self, hts _ w5, hts _ w4, m1, nMH.len m2, hts _ w1⟩, w3, hts _ w2⟩ ⟨Pg.blind, g_pre h1 h2 hev h3⟩ rfl hk h4.1 hst (by show 2 * 0 + _ ≤ 8; omega) dg ⟨by omega, by omega⟩) h3 (fun x E1 n1 H1 locs1 q ce a1 a2 a3 a4 a5 a6 a7 => hE.2.2 x E1 n1 H1 locs1 _ _ pc ls rest q ce (hX _ _ _ a1) a2 a3 a4 (by omega) (by omega) a5 a6 a7) (fun v E1 n1 H1 locs1 a1 a2 a3 a4 => kk v E1 n1 a1 p e R s m args below meth c Q hF hE H1 locs1 _ _ ls a2 a3 a4 h4 (by omega) (by omega))
theorem g_invIN (hC : Ct Γ d1 M1 mc ms (.ref b :: As) E n P1 X1) (lk : LkIN M.1 ix M1 k) (hk : As.length = k) (hd : d1 + 1 ≤ d) (hrest : (rest.map fun v => v.category).sum ≤ 8) (hst : st = As.reverse ++ .ref b :: rest) (dg : decode M.2.2.1 pc = .ok (.invokespecial ix, 3)) (hX : ∀ x E1 n1, X1 x E1 n1 → X x E1 n1)
    (kk : ∀ v E1 n1, P1 v E1 n1 → G Γ d M P X (pc + 3) lv (v.toList ++ rest) E1 n1 kc ks) : G Γ d M P X pc lv st E n (kc + mc) (ks + ms) := by
  intro p e R s m args below meth c Q hF hE H locs cells slots ls h1 h2 h3 h4 h5 h6
  obtain ⟨hx, hb, hml, hown, hts, hev, hdR, hlR, -⟩ := id hF
  obtain ⟨w1, w2, w3, w4, w5, ⟨m1, m2, m3⟩, m4⟩ := lk
  have hC2 := hC
  unfold Ct at hC2
  unfold Cd at w5
  rw [m4] at hC2 w5
  refine g_run (vx_runIN (n := k) (host := "AccentHouse") ⟨hx, hb, hml, hown, hts⟩ hC2 ⟨⟨⟨rfl, rfl, by show d1 + 1 ≤ R.frames; omega, by show 8 + (M1.2.2.2.1 + 11) + 64 * d1 ≤ R.locals; omega, pay_in hts (wl_cons w5), List.mem_cons_self⟩, hts _ w5, hts _ w4, m1, nMH.len m2, va_Nw.use rfl (hev.2.2.2.2.2.1 _ w1)⟩, w3, hts _ w2⟩ ⟨Pg.blind, g_pre h1 h2 hev h3⟩ rfl hk h4.1 hst (by show 2 * 0 + _ ≤ 8; omega) dg ⟨by omega, by omega⟩) h3 (fun x E1 n1 H1 locs1 q ce a1 a2 a3 a4 a5 a6 a7 => hE.2.2 x E1 n1 H1 locs1 _ _ pc ls rest q ce (hX _ _ _ a1) a2 a3 a4 (by omega) (by omega) a5 a6 a7) (fun v E1 n1 H1 locs1 a1 a2 a3 a4 => kk v E1 n1 a1 p e R s m args below meth c Q hF hE H1 locs1 _ _ ls a2 a3 a4 h4 (by omega) (by omega))
/-- Object.<init> -/
theorem g_objInit {a : Nat} (hl : Cond.methodLink M.1 ix objectInit ∈ wl) (hi : Cond.instanceMethod objectInit ∈ wl) (hc : Cond.code objectInit ⟨#[0xb1]⟩ 1 none ∈ wl) (hd : 1 ≤ d) (hrest : (rest.map fun v => v.category).sum ≤ 8) (dg : decode M.2.2.1 pc = .ok (.invokespecial ix, 3)) (kk : G Γ d M P X (pc + 3) lv rest E n kc ks) : G Γ d M P X pc lv (.ref a :: rest) E n kc ks :=
  G.goF (fun hF _ _ _ h k => W.objInit hF.1 hF.2.1 hF.2.2.2.1 (hF.2.2.2.2.1 _ hl) (hF.2.2.2.2.1 _ hi) (hF.2.2.2.2.1 _ hc) rfl (by rw [hF.2.2.1]; exact h.1) rfl dg (Nat.le_trans hd hF.2.2.2.2.2.2.1) (by have := hF.2.2.2.2.2.2.2.1; show 2 * 0 + _ + 12 ≤ _; omega) k) kk
/-- the end with a value -/
theorem g_ret {v : Option Value} (hp : P v E n) (hr : RetOp M pc v) (hst : st = v.toList) : G Γ d M P X pc lv st E n kc ks := by
  subst hst
  intro p e R s m args below meth c Q hF hE H locs cells slots ls h1 h2 h3 h4 h5 h6
  exact hE.1 v E n H locs cells slots pc ls hp h1 h2 h3 (by omega) (by omega) hr
/-- throw new x("..") -/
theorem g_throw {x : String} (hp : X x E n) (hr : ThrOp d M pc x) (hst : (st.map fun v => v.category).sum ≤ 8) (hc : 1 ≤ kc) (hs : 6 ≤ ks) : G Γ d M P X pc lv st E n kc ks := by
  intro p e R s m args below meth c Q hF hE H locs cells slots ls h1 h2 h3 h4 h5 h6
  exact hE.2.1 x E n H locs cells slots pc ls st hp h1 h2 h3 (by omega) (by omega) hr h4.1 hst
set_option maxHeartbeats 1000000 in
/-- a body's walk gives its contract -/
theorem Ct.of {av : List Value} (hy : plainName M.2.1.cls = true) (hM : M.1 = M.2.1.cls) (hlen : (lg_sl av).length ≤ M.2.2.2.1) (h : G Γ d M P X 0 (lv_args 0 av) [] E n mc ms) : Ct Γ d M mc ms av E n P X := by
  refine vx_ofW hy rfl ?_
  intro p e s m args below meth c s₁ B hml ht hv
  obtain ⟨rfl, h1, h2, hev⟩ := hv
  have hts0 := atoms_spec (ws := Cond.code M.2.1 M.2.2.1 M.2.2.2.1 M.2.2.2.2 :: wl) B.pre
  have hts : ∀ w ∈ wl, w.before av.toArray s = true := fun w hw => hts0 w (List.mem_cons_of_mem _ hw)
  have hown : s.vm.findClass M.1 = some m.cls := by rw [hM]; exact findClass_of_methodNamed B.named
  have hlocks := B.notSynchronized
  have hname : meth.name = M.2.1.name := (name_of_methodNamed B.named B.method).1
  have hl := lv_entry av (n := M.2.2.2.1) hlen
  rw [lg_entry_eq]
  have hF : Fr Γ d M p (headSpec (Cond.code M.2.1 M.2.2.1 M.2.2.2.1 M.2.2.2.2 :: wl) (rmG d mc ms)).room s m av.toArray meth c := ⟨B.exec, B.bytes, hml, hown, hts, hev, Nat.le_refl _, Nat.le_refl _, fun h9 => hname.trans h9⟩
  refine h p e _ s m av.toArray below meth c _ hF ⟨?_, ?_, ?_⟩ s.heap [] 0 0 _ h1 h2 va_S.rf hl (Nat.le_of_eq (Nat.zero_add _)) (Nat.le_of_eq (Nat.zero_add _))
  · intro v E1 n1 H locs cells slots pc1 ls hp g1 g2 g3 g4 g5 hr
    have hq : ∀ t : State, t.heap = H → s.WarmedH t.vm → Qg Γ P av.toArray s (.returned v) t := fun t ht _ => ⟨⟨v, E1, n1, rfl, hp, by rw [ht]; exact g1, by rw [ht]; exact g2⟩, g3.toF ht⟩
    refine vx_ret ?_
    refine W.widen (k := mc) (n := ms) g4 g5 ?_
    rcases v with _ | v
    · exact W.vret B.exec B.bytes (B.returns.trans hr.2) hq g3.2.2 hr.1
    · cases v with
      | int x => obtain ⟨r1, ty, r2, r3⟩ := hr; exact W.zret B.exec B.bytes (B.returns.trans r2) r3 hq g3.2.2 r1
      | ref a => obtain ⟨r1, nm, r2⟩ := hr; exact W.aret B.exec B.bytes (B.returns.trans r2) (Or.inl ⟨nm, rfl⟩) (Or.inr ⟨a, rfl⟩) hq g3.2.2 r1
      | null => obtain ⟨r1, nm, r2⟩ := hr; exact W.aret B.exec B.bytes (B.returns.trans r2) (Or.inl ⟨nm, rfl⟩) (Or.inl rfl) hq g3.2.2 r1
      | float x => exact W.fret B.exec B.bytes (B.returns.trans hr.2) hq g3.2.2 hr.1
      | double x => exact W.dret B.exec B.bytes (B.returns.trans hr.2) hq g3.2.2 hr.1
      | _ => exact hr.elim
  · intro x E1 n1 H locs cells slots pc1 ls st1 hp g1 g2 g3 g4 g5 hr hsz hst
    obtain ⟨ik, is, ic, i, text, names, bs, r1, r2, r3, r4, r5, r6, r7, d0, d3, d4, d6, d9, hn3, hd7⟩ := hr
    have hstr := (hev.2.2.2.2.1 i _ r7).1
    refine vx_throwS (sa := gK Γ i) (text := text) (names := names) B.exec B.bytes hev.1 hown r1 r2 (hts _ r3) (hts _ r4) hstr (fun w hw => hts w (r5 w hw)) r6 hev.2.2.2.1.1 hev.2.2.2.1.2 g3 (hsz.trans hml.symm) d0 d3 d4 d6 d9 (fun x hx => (ht x hx).elim) (by show names.length + 3 < d; omega) (by show _ ≤ 64 * d; omega) g4 g5 hlocks ?_ g3.2.2 g4 g5
    intro t hvm hz hk
    refine ⟨⟨E1, n1, hp, fun a e9 he => ⟨(g1 a e9 he).1.kept (hk a (g1.lt he)), (g1 a e9 he).2⟩, by omega⟩, ⟨Nat.le_trans g3.1 hz, fun q q1 q2 => (hk q (Nat.lt_of_lt_of_le q1 g3.1)).trans (g3.2.1 q q1 q2)⟩⟩
  · intro x E1 n1 H locs cells slots pc1 ls st1 q ce hp g1 g2 g3 g4 g5 h9 h10 h11
    exact vx_out (fun x hx => (ht x hx).elim) hlocks h9 h10 h11 (fun t ht9 _ => ⟨⟨E1, n1, hp, by rw [ht9]; exact g1, by rw [ht9]; exact g2⟩, g3.toF ht9⟩) g3.2.2 g4 g5
theorem g_invU (hC : Ct Γ d1 M1 mc ms (.ref b :: As) E n P1 X1) (lk : LkU M.1 ix M1 k) (hk : As.length = k) {ci N : Nat} {C : String} {T : u_T} {fs : List Value} (hb9 : E b = some (.inr (ci, fs))) (hc9 : vwCl[ci]? = some (C, T, N)) (hd : d1 + 1 ≤ d) (hrest : (rest.map fun v => v.category).sum ≤ 8) (hst : st = As.reverse ++ .ref b :: rest) (dg : decode M.2.2.1 pc = .ok (.invokespecial ix, 3)) (hX : ∀ x E1 n1, X1 x E1 n1 → X x E1 n1)
    (kk : ∀ v E1 n1, P1 v E1 n1 → G Γ d M P X (pc + 3) lv (v.toList ++ rest) E1 n1 kc ks) : G Γ d M P X pc lv st E n (kc + mc) (ks + ms) := by
  intro p e R s m args below meth c Q hF hE H locs cells slots ls h1 h2 h3 h4 h5 h6
  obtain ⟨hx, hb, hml, hown, hts, hev, hdR, hlR, -⟩ := id hF
  obtain ⟨w1, w2, w3, w6, w4, w5, m4, ⟨m1, m2, m3⟩⟩ := lk
  have hr : Rcv Γ E b C := Or.inl ⟨ci, fs, T, N, hb9, hc9⟩
  refine g_run (vx_runSU (n := k) (C := C) (cC := (gD Γ).1 ci) (hev.2.1.1 ci _ hc9).2 ⟨hx, hb, hml, hown, hts⟩ hC ⟨⟨rfl, rfl, by show d1 + 1 ≤ R.frames; omega, by show 8 + (M1.2.2.2.1 + 11) + 64 * d1 ≤ R.locals; omega, pay_in hts (wl_cons w5), List.mem_cons_self⟩, hts _ w1, hts _ w2, hts _ w3, hts _ w6, hts _ w4, hts _ w5, m4, nMH.len m2⟩ ⟨Pg.blind, hr.use h1 hev h3, g_pre h1 h2 hev h3⟩ rfl hk h4.1 hst (by show 2 * 0 + _ ≤ 8; omega) dg ⟨by omega, by omega⟩) h3 (fun x E1 n1 H1 locs1 q ce a1 a2 a3 a4 a5 a6 a7 => hE.2.2 x E1 n1 H1 locs1 _ _ pc ls rest q ce (hX _ _ _ a1) a2 a3 a4 (by omega) (by omega) a5 a6 a7) (fun v E1 n1 H1 locs1 a1 a2 a3 a4 => kk v E1 n1 a1 p e R s m args below meth c Q hF hE H1 locs1 _ _ ls a2 a3 a4 h4 (by omega) (by omega))
theorem g_invX {C owner : String} {x : MethodName} (hC : Ct Γ d1 M1 mc ms (.ref b :: As) E n P1 X1) (lk : LkX M.1 ix C owner x M1 k) (hk : As.length = k) (hr : Rcv Γ E b C) (hd : d1 + 1 ≤ d) (hrest : (rest.map fun v => v.category).sum ≤ 8) (hst : st = As.reverse ++ .ref b :: rest) (dg : decode M.2.2.1 pc = .ok (.invokevirtual ix, 3)) (hX : ∀ x E1 n1, X1 x E1 n1 → X x E1 n1)
    (kk : ∀ v E1 n1, P1 v E1 n1 → G Γ d M P X (pc + 3) lv (v.toList ++ rest) E1 n1 kc ks) : G Γ d M P X pc lv st E n (kc + mc) (ks + ms) := by
  intro p e R s m args below meth c Q hF hE H locs cells slots ls h1 h2 h3 h4 h5 h6
  obtain ⟨hx, hb, hml, hown, hts, hev, hdR, hlR, -⟩ := id hF
  obtain ⟨w1, w2, w3, w6, w4, w5, m4, m1, m2, m3⟩ := lk
  refine g_run (vx_runU (n := k) (C := C) (owner := owner) (x := x) ⟨hx, hb, hml, hown, hts⟩ hC ⟨⟨rfl, rfl, by show d1 + 1 ≤ R.frames; omega, by show 8 + (M1.2.2.2.1 + 11) + 64 * d1 ≤ R.locals; omega, pay_in hts (wl_cons w5), List.mem_cons_self⟩, hts _ w5, hts _ w4, m1, (fun sig hs => by rw [hs] at m2; exact (Option.some.inj m2).symm), hts _ w1, hts _ w2, by rw [← m4]; exact va_Decl.of (hts _ w6) (hts _ w5), hts _ w3, hts _ w6⟩ ⟨Pg.blind, hr.use h1 hev h3, g_pre h1 h2 hev h3⟩ rfl hk h4.1 hst (by show 2 * 0 + _ ≤ 8; omega) dg ⟨by omega, by omega⟩) h3 (fun x E1 n1 H1 locs1 q ce a1 a2 a3 a4 a5 a6 a7 => hE.2.2 x E1 n1 H1 locs1 _ _ pc ls rest q ce (hX _ _ _ a1) a2 a3 a4 (by omega) (by omega) a5 a6 a7) (fun v E1 n1 H1 locs1 a1 a2 a3 a4 => kk v E1 n1 a1 p e R s m args below meth c Q hF hE H1 locs1 _ _ ls a2 a3 a4 h4 (by omega) (by omega))
theorem G.weak {P2 : Po} {X2 : Px} (h : G Γ d M P X pc lv st E n kc ks) (hP : ∀ v E1 n1, P v E1 n1 → P2 v E1 n1) (hX : ∀ x E1 n1, X x E1 n1 → X2 x E1 n1) : G Γ d M P2 X2 pc lv st E n kc ks := fun p e R s m args below meth c Q hF hE => h p e R s m args below meth c Q hF ⟨fun v E1 n1 H locs cells slots pc ls a => hE.1 v E1 n1 H locs cells slots pc ls (hP _ _ _ a), fun x E1 n1 H locs cells slots pc ls st a => hE.2.1 x E1 n1 H locs cells slots pc ls st (hX _ _ _ a), fun x E1 n1 H locs cells slots pc ls st q ce a => hE.2.2 x E1 n1 H locs cells slots pc ls st q ce (hX _ _ _ a)⟩
end GCALL
end
section
section GLINK
theorem uws_of {C : String} {T : u_T} {N : Nat} (h : ∀ k, k < N → u_lay C T k ∈ wl) : ∀ w ∈ u_ws C T N, w ∈ wl := fun w hw => by
  obtain ⟨k, hk, rfl⟩ := List.mem_map.mp hw
  exact h k (List.mem_range.mp hk)
theorem u_J0 : ∀ w ∈ u_ws RJ0 TJ0 4, w ∈ wl := uws_of (lt_s (lt_s (lt_s (lt_s lt_0 (wl_3 195 rfl rfl)) (wl_3 197 rfl rfl)) (wl_3 199 rfl rfl)) (wl_3 201 rfl rfl))
theorem w_J0_0 : Fw 0 0 (.array .byte) true := ⟨RJ0, TJ0, 4, rfl, rfl, rfl, by decide +kernel, ⟨tyJ0, tyJ0_ok⟩, nmJ0⟩
theorem w_J0_1 : Fw 0 1 .byte true := ⟨RJ0, TJ0, 4, rfl, rfl, rfl, by decide +kernel, ⟨tyJ0, tyJ0_ok⟩, nmJ0⟩
theorem w_J0_2 : Fw 0 2 .int false := ⟨RJ0, TJ0, 4, rfl, rfl, rfl, by decide +kernel, ⟨tyJ0, tyJ0_ok⟩, nmJ0⟩
theorem w_J0_3 : Fw 0 3 .boolean false := ⟨RJ0, TJ0, 4, rfl, rfl, rfl, by decide +kernel, ⟨tyJ0, tyJ0_ok⟩, nmJ0⟩
theorem u_J4 : ∀ w ∈ u_ws RJ4 TJ4 4, w ∈ wl := uws_of (lt_s (lt_s (lt_s (lt_s lt_0 (wl_1 61 rfl rfl)) (wl_1 63 rfl rfl)) (wl_1 65 rfl rfl)) (wl_1 67 rfl rfl))
-- w_J4_0: inherited
-- w_J4_1: inherited
-- w_J4_2: inherited
-- w_J4_3: inherited
theorem u_Jx00060 : ∀ w ∈ u_ws RJx00060 TJx00060 6, w ∈ wl := uws_of (lt_s (lt_s (lt_s (lt_s (lt_s (lt_s lt_0 (wl_3 233 rfl rfl)) (wl_3 234 rfl rfl)) (wl_3 235 rfl rfl)) (wl_3 236 rfl rfl)) (wl_3 237 rfl rfl)) (wl_4 8 rfl rfl))
-- w_Jx00060_0: inherited
-- w_Jx00060_1: inherited
-- w_Jx00060_2: inherited
-- w_Jx00060_3: inherited
-- w_Jx00060_4: inherited
-- w_Jx00060_5: inherited
theorem u_Jx7c733 : ∀ w ∈ u_ws RJx7c733 TJx7c733 6, w ∈ wl := uws_of (lt_s (lt_s (lt_s (lt_s (lt_s (lt_s lt_0 (wl_3 208 rfl rfl)) (wl_3 209 rfl rfl)) (wl_3 210 rfl rfl)) (wl_3 211 rfl rfl)) (wl_3 212 rfl rfl)) (wl_3 213 rfl rfl))
-- w_Jx7c733_0: inherited
-- w_Jx7c733_1: inherited
-- w_Jx7c733_2: inherited
-- w_Jx7c733_3: inherited
-- w_Jx7c733_4: inherited
-- w_Jx7c733_5: inherited
theorem u_X0 : ∀ w ∈ u_ws RX0 TX0 1, w ∈ wl := uws_of (lt_s lt_0 (wl_1 92 rfl rfl))
theorem w_X0_0 : Fw 4 0 (.array .int) true := ⟨RX0, TX0, 1, rfl, rfl, rfl, by decide +kernel, ⟨tyX0, tyX0_ok⟩, nmX0⟩
theorem u_X1 : ∀ w ∈ u_ws RX1 TX1 3, w ∈ wl := uws_of (lt_s (lt_s (lt_s lt_0 (wl_2 17 rfl rfl)) (wl_2 19 rfl rfl)) (wl_2 21 rfl rfl))
theorem w_X1_0 : Fw 5 0 (.array (.object "AccentHouse$House")) true := ⟨RX1, TX1, 3, rfl, rfl, rfl, by decide +kernel, ⟨tyX1, tyX1_ok⟩, nmX1⟩
theorem w_X1_1 : Fw 5 1 .int false := ⟨RX1, TX1, 3, rfl, rfl, rfl, by decide +kernel, ⟨tyX1, tyX1_ok⟩, nmX1⟩
theorem w_X1_2 : Fw 5 2 .int false := ⟨RX1, TX1, 3, rfl, rfl, rfl, by decide +kernel, ⟨tyX1, tyX1_ok⟩, nmX1⟩
theorem u_X2 : ∀ w ∈ u_ws RX2 TX2 11, w ∈ wl := uws_of (lt_s (lt_s (lt_s (lt_s (lt_s (lt_s (lt_s (lt_s (lt_s (lt_s (lt_s lt_0 (wl_1 168 rfl rfl)) (wl_1 170 rfl rfl)) (wl_1 172 rfl rfl)) (wl_1 174 rfl rfl)) (wl_1 176 rfl rfl)) (wl_1 178 rfl rfl)) (wl_1 180 rfl rfl)) (wl_1 182 rfl rfl)) (wl_1 184 rfl rfl)) (wl_1 186 rfl rfl)) (wl_1 188 rfl rfl))
theorem w_X2_0 : Fw 6 0 .int false := ⟨RX2, TX2, 11, rfl, rfl, rfl, by decide +kernel, ⟨tyX2, tyX2_ok⟩, nmX2⟩
theorem w_X2_1 : Fw 6 1 .int false := ⟨RX2, TX2, 11, rfl, rfl, rfl, by decide +kernel, ⟨tyX2, tyX2_ok⟩, nmX2⟩
theorem w_X2_2 : Fw 6 2 .int false := ⟨RX2, TX2, 11, rfl, rfl, rfl, by decide +kernel, ⟨tyX2, tyX2_ok⟩, nmX2⟩
theorem w_X2_3 : Fw 6 3 .int false := ⟨RX2, TX2, 11, rfl, rfl, rfl, by decide +kernel, ⟨tyX2, tyX2_ok⟩, nmX2⟩
theorem w_X2_4 : Fw 6 4 .int false := ⟨RX2, TX2, 11, rfl, rfl, rfl, by decide +kernel, ⟨tyX2, tyX2_ok⟩, nmX2⟩
theorem w_X2_5 : Fw 6 5 .int false := ⟨RX2, TX2, 11, rfl, rfl, rfl, by decide +kernel, ⟨tyX2, tyX2_ok⟩, nmX2⟩
theorem w_X2_6 : Fw 6 6 .int false := ⟨RX2, TX2, 11, rfl, rfl, rfl, by decide +kernel, ⟨tyX2, tyX2_ok⟩, nmX2⟩
theorem w_X2_7 : Fw 6 7 .int false := ⟨RX2, TX2, 11, rfl, rfl, rfl, by decide +kernel, ⟨tyX2, tyX2_ok⟩, nmX2⟩
theorem w_X2_8 : Fw 6 8 (.object "AccentHouse$Accent") true := ⟨RX2, TX2, 11, rfl, rfl, rfl, by decide +kernel, ⟨tyX2, tyX2_ok⟩, nmX2⟩
theorem w_X2_9 : Fw 6 9 (.array (.object "AccentHouse$Lodger")) true := ⟨RX2, TX2, 11, rfl, rfl, rfl, by decide +kernel, ⟨tyX2, tyX2_ok⟩, nmX2⟩
theorem w_X2_10 : Fw 6 10 (.object "AccentHouse$Accent") true := ⟨RX2, TX2, 11, rfl, rfl, rfl, by decide +kernel, ⟨tyX2, tyX2_ok⟩, nmX2⟩
theorem u_X3 : ∀ w ∈ u_ws RX3 TX3 7, w ∈ wl := uws_of (lt_s (lt_s (lt_s (lt_s (lt_s (lt_s (lt_s lt_0 (wl_1 128 rfl rfl)) (wl_1 130 rfl rfl)) (wl_1 132 rfl rfl)) (wl_1 134 rfl rfl)) (wl_1 136 rfl rfl)) (wl_1 138 rfl rfl)) (wl_1 140 rfl rfl))
theorem w_X3_0 : Fw 7 0 (.object "java/lang/String") false := ⟨RX3, TX3, 7, rfl, rfl, rfl, by decide +kernel, ⟨tyX3, tyX3_ok⟩, nmX3⟩
theorem w_X3_1 : Fw 7 1 .int false := ⟨RX3, TX3, 7, rfl, rfl, rfl, by decide +kernel, ⟨tyX3, tyX3_ok⟩, nmX3⟩
theorem w_X3_2 : Fw 7 2 .int false := ⟨RX3, TX3, 7, rfl, rfl, rfl, by decide +kernel, ⟨tyX3, tyX3_ok⟩, nmX3⟩
theorem w_X3_3 : Fw 7 3 .int false := ⟨RX3, TX3, 7, rfl, rfl, rfl, by decide +kernel, ⟨tyX3, tyX3_ok⟩, nmX3⟩
theorem w_X3_4 : Fw 7 4 .int false := ⟨RX3, TX3, 7, rfl, rfl, rfl, by decide +kernel, ⟨tyX3, tyX3_ok⟩, nmX3⟩
theorem w_X3_5 : Fw 7 5 .int false := ⟨RX3, TX3, 7, rfl, rfl, rfl, by decide +kernel, ⟨tyX3, tyX3_ok⟩, nmX3⟩
theorem w_X3_6 : Fw 7 6 (.object "AccentHouse$Accent") true := ⟨RX3, TX3, 7, rfl, rfl, rfl, by decide +kernel, ⟨tyX3, tyX3_ok⟩, nmX3⟩
theorem u_X4 : ∀ w ∈ u_ws RX4 TX4 5, w ∈ wl := uws_of (lt_s (lt_s (lt_s (lt_s (lt_s lt_0 (wl_1 231 rfl rfl)) (wl_1 233 rfl rfl)) (wl_1 235 rfl rfl)) (wl_1 237 rfl rfl)) (wl_1 239 rfl rfl))
theorem w_X4_0 : Fw 8 0 (.array .byte) true := ⟨RX4, TX4, 5, rfl, rfl, rfl, by decide +kernel, ⟨tyX4, tyX4_ok⟩, nmX4⟩
theorem w_X4_1 : Fw 8 1 (.object "AccentHouse$Tokens") true := ⟨RX4, TX4, 5, rfl, rfl, rfl, by decide +kernel, ⟨tyX4, tyX4_ok⟩, nmX4⟩
theorem w_X4_2 : Fw 8 2 (.object "AccentHouse$House") true := ⟨RX4, TX4, 5, rfl, rfl, rfl, by decide +kernel, ⟨tyX4, tyX4_ok⟩, nmX4⟩
theorem w_X4_3 : Fw 8 3 .int false := ⟨RX4, TX4, 5, rfl, rfl, rfl, by decide +kernel, ⟨tyX4, tyX4_ok⟩, nmX4⟩
theorem w_X4_4 : Fw 8 4 .int false := ⟨RX4, TX4, 5, rfl, rfl, rfl, by decide +kernel, ⟨tyX4, tyX4_ok⟩, nmX4⟩
theorem u_X6 : ∀ w ∈ u_ws RX6 TX6 6, w ∈ wl := uws_of (lt_s (lt_s (lt_s (lt_s (lt_s (lt_s lt_0 (wl_1 210 rfl rfl)) (wl_1 212 rfl rfl)) (wl_1 214 rfl rfl)) (wl_1 216 rfl rfl)) (wl_1 218 rfl rfl)) (wl_1 220 rfl rfl))
theorem w_X6_0 : Fw 9 0 (.array .byte) true := ⟨RX6, TX6, 6, rfl, rfl, rfl, by decide +kernel, ⟨tyX6, tyX6_ok⟩, nmX6⟩
theorem w_X6_1 : Fw 9 1 (.object "java/lang/StringBuilder") true := ⟨RX6, TX6, 6, rfl, rfl, rfl, by decide +kernel, ⟨tyX6, tyX6_ok⟩, nmX6⟩
theorem w_X6_2 : Fw 9 2 .int false := ⟨RX6, TX6, 6, rfl, rfl, rfl, by decide +kernel, ⟨tyX6, tyX6_ok⟩, nmX6⟩
theorem w_X6_3 : Fw 9 3 (.object "AccentHouse$Token") false := ⟨RX6, TX6, 6, rfl, rfl, rfl, by decide +kernel, ⟨tyX6, tyX6_ok⟩, nmX6⟩
theorem w_X6_4 : Fw 9 4 .int false := ⟨RX6, TX6, 6, rfl, rfl, rfl, by decide +kernel, ⟨tyX6, tyX6_ok⟩, nmX6⟩
theorem w_X6_5 : Fw 9 5 .int false := ⟨RX6, TX6, 6, rfl, rfl, rfl, by decide +kernel, ⟨tyX6, tyX6_ok⟩, nmX6⟩
theorem u_X7 : ∀ w ∈ u_ws RX7 TX7 11, w ∈ wl := uws_of (lt_s (lt_s (lt_s (lt_s (lt_s (lt_s (lt_s (lt_s (lt_s (lt_s (lt_s lt_0 (wl_4 150 rfl rfl)) (wl_4 152 rfl rfl)) (wl_4 154 rfl rfl)) (wl_4 156 rfl rfl)) (wl_4 158 rfl rfl)) (wl_4 160 rfl rfl)) (wl_4 162 rfl rfl)) (wl_4 164 rfl rfl)) (wl_4 166 rfl rfl)) (wl_4 168 rfl rfl)) (wl_4 170 rfl rfl))
theorem w_X7_0 : Fw 10 0 (.array .byte) true := ⟨RX7, TX7, 11, rfl, rfl, rfl, by decide +kernel, ⟨tyX7, tyX7_ok⟩, nmX7⟩
theorem w_X7_1 : Fw 10 1 .int false := ⟨RX7, TX7, 11, rfl, rfl, rfl, by decide +kernel, ⟨tyX7, tyX7_ok⟩, nmX7⟩
theorem w_X7_2 : Fw 10 2 (.object "java/lang/StringBuilder") true := ⟨RX7, TX7, 11, rfl, rfl, rfl, by decide +kernel, ⟨tyX7, tyX7_ok⟩, nmX7⟩
theorem w_X7_3 : Fw 10 3 (.object "AccentHouse$Parser") true := ⟨RX7, TX7, 11, rfl, rfl, rfl, by decide +kernel, ⟨tyX7, tyX7_ok⟩, nmX7⟩
theorem w_X7_4 : Fw 10 4 .int false := ⟨RX7, TX7, 11, rfl, rfl, rfl, by decide +kernel, ⟨tyX7, tyX7_ok⟩, nmX7⟩
theorem w_X7_5 : Fw 10 5 .int false := ⟨RX7, TX7, 11, rfl, rfl, rfl, by decide +kernel, ⟨tyX7, tyX7_ok⟩, nmX7⟩
theorem w_X7_6 : Fw 10 6 (.object "AccentHouse$House") true := ⟨RX7, TX7, 11, rfl, rfl, rfl, by decide +kernel, ⟨tyX7, tyX7_ok⟩, nmX7⟩
theorem w_X7_7 : Fw 10 7 (.object "AccentHouse$House") true := ⟨RX7, TX7, 11, rfl, rfl, rfl, by decide +kernel, ⟨tyX7, tyX7_ok⟩, nmX7⟩
theorem w_X7_8 : Fw 10 8 (.object "AccentHouse$History") true := ⟨RX7, TX7, 11, rfl, rfl, rfl, by decide +kernel, ⟨tyX7, tyX7_ok⟩, nmX7⟩
theorem w_X7_9 : Fw 10 9 (.array (.object "AccentHouse$House")) true := ⟨RX7, TX7, 11, rfl, rfl, rfl, by decide +kernel, ⟨tyX7, tyX7_ok⟩, nmX7⟩
theorem w_X7_10 : Fw 10 10 (.array .boolean) true := ⟨RX7, TX7, 11, rfl, rfl, rfl, by decide +kernel, ⟨tyX7, tyX7_ok⟩, nmX7⟩
theorem u_X8 : ∀ w ∈ u_ws RX8 TX8 26, w ∈ wl := uws_of (lt_s (lt_s (lt_s (lt_s (lt_s (lt_s (lt_s (lt_s (lt_s (lt_s (lt_s (lt_s (lt_s (lt_s (lt_s (lt_s (lt_s (lt_s (lt_s (lt_s (lt_s (lt_s (lt_s (lt_s (lt_s (lt_s lt_0 (wl_7 101 rfl rfl)) (wl_7 103 rfl rfl)) (wl_7 105 rfl rfl)) (wl_7 107 rfl rfl)) (wl_7 109 rfl rfl)) (wl_7 111 rfl rfl)) (wl_7 113 rfl rfl)) (wl_7 115 rfl rfl)) (wl_7 117 rfl rfl)) (wl_7 119 rfl rfl)) (wl_7 121 rfl rfl)) (wl_7 123 rfl rfl)) (wl_7 125 rfl rfl)) (wl_7 127 rfl rfl)) (wl_7 129 rfl rfl)) (wl_7 131 rfl rfl)) (wl_7 133 rfl rfl)) (wl_7 135 rfl rfl)) (wl_7 137 rfl rfl)) (wl_7 139 rfl rfl)) (wl_7 141 rfl rfl)) (wl_7 143 rfl rfl)) (wl_7 145 rfl rfl)) (wl_7 147 rfl rfl)) (wl_7 149 rfl rfl)) (wl_7 151 rfl rfl))
theorem w_X8_0 : Fw 11 0 (.array .int) true := ⟨RX8, TX8, 26, rfl, rfl, rfl, by decide +kernel, ⟨tyX8, tyX8_ok⟩, nmX8⟩
theorem w_X8_1 : Fw 11 1 (.array .int) true := ⟨RX8, TX8, 26, rfl, rfl, rfl, by decide +kernel, ⟨tyX8, tyX8_ok⟩, nmX8⟩
theorem w_X8_2 : Fw 11 2 .int false := ⟨RX8, TX8, 26, rfl, rfl, rfl, by decide +kernel, ⟨tyX8, tyX8_ok⟩, nmX8⟩
theorem w_X8_3 : Fw 11 3 (.array .int) true := ⟨RX8, TX8, 26, rfl, rfl, rfl, by decide +kernel, ⟨tyX8, tyX8_ok⟩, nmX8⟩
theorem w_X8_4 : Fw 11 4 (.array .int) true := ⟨RX8, TX8, 26, rfl, rfl, rfl, by decide +kernel, ⟨tyX8, tyX8_ok⟩, nmX8⟩
theorem w_X8_5 : Fw 11 5 (.array .int) true := ⟨RX8, TX8, 26, rfl, rfl, rfl, by decide +kernel, ⟨tyX8, tyX8_ok⟩, nmX8⟩
theorem w_X8_6 : Fw 11 6 .int false := ⟨RX8, TX8, 26, rfl, rfl, rfl, by decide +kernel, ⟨tyX8, tyX8_ok⟩, nmX8⟩
theorem w_X8_7 : Fw 11 7 (.array .int) true := ⟨RX8, TX8, 26, rfl, rfl, rfl, by decide +kernel, ⟨tyX8, tyX8_ok⟩, nmX8⟩
theorem w_X8_8 : Fw 11 8 .int false := ⟨RX8, TX8, 26, rfl, rfl, rfl, by decide +kernel, ⟨tyX8, tyX8_ok⟩, nmX8⟩
theorem w_X8_9 : Fw 11 9 (.array .int) true := ⟨RX8, TX8, 26, rfl, rfl, rfl, by decide +kernel, ⟨tyX8, tyX8_ok⟩, nmX8⟩
theorem w_X8_10 : Fw 11 10 (.array .int) true := ⟨RX8, TX8, 26, rfl, rfl, rfl, by decide +kernel, ⟨tyX8, tyX8_ok⟩, nmX8⟩
theorem w_X8_11 : Fw 11 11 .int false := ⟨RX8, TX8, 26, rfl, rfl, rfl, by decide +kernel, ⟨tyX8, tyX8_ok⟩, nmX8⟩
theorem w_X8_12 : Fw 11 12 .int false := ⟨RX8, TX8, 26, rfl, rfl, rfl, by decide +kernel, ⟨tyX8, tyX8_ok⟩, nmX8⟩
theorem w_X8_13 : Fw 11 13 (.array .byte) true := ⟨RX8, TX8, 26, rfl, rfl, rfl, by decide +kernel, ⟨tyX8, tyX8_ok⟩, nmX8⟩
theorem w_X8_14 : Fw 11 14 .int false := ⟨RX8, TX8, 26, rfl, rfl, rfl, by decide +kernel, ⟨tyX8, tyX8_ok⟩, nmX8⟩
theorem w_X8_15 : Fw 11 15 (.array .char) true := ⟨RX8, TX8, 26, rfl, rfl, rfl, by decide +kernel, ⟨tyX8, tyX8_ok⟩, nmX8⟩
theorem w_X8_16 : Fw 11 16 .int false := ⟨RX8, TX8, 26, rfl, rfl, rfl, by decide +kernel, ⟨tyX8, tyX8_ok⟩, nmX8⟩
theorem w_X8_17 : Fw 11 17 .int false := ⟨RX8, TX8, 26, rfl, rfl, rfl, by decide +kernel, ⟨tyX8, tyX8_ok⟩, nmX8⟩
theorem w_X8_18 : Fw 11 18 .int false := ⟨RX8, TX8, 26, rfl, rfl, rfl, by decide +kernel, ⟨tyX8, tyX8_ok⟩, nmX8⟩
theorem w_X8_19 : Fw 11 19 .int false := ⟨RX8, TX8, 26, rfl, rfl, rfl, by decide +kernel, ⟨tyX8, tyX8_ok⟩, nmX8⟩
theorem w_X8_20 : Fw 11 20 .int false := ⟨RX8, TX8, 26, rfl, rfl, rfl, by decide +kernel, ⟨tyX8, tyX8_ok⟩, nmX8⟩
theorem w_X8_21 : Fw 11 21 .int false := ⟨RX8, TX8, 26, rfl, rfl, rfl, by decide +kernel, ⟨tyX8, tyX8_ok⟩, nmX8⟩
theorem w_X8_22 : Fw 11 22 .int false := ⟨RX8, TX8, 26, rfl, rfl, rfl, by decide +kernel, ⟨tyX8, tyX8_ok⟩, nmX8⟩
theorem w_X8_23 : Fw 11 23 .int false := ⟨RX8, TX8, 26, rfl, rfl, rfl, by decide +kernel, ⟨tyX8, tyX8_ok⟩, nmX8⟩
theorem w_X8_24 : Fw 11 24 .int false := ⟨RX8, TX8, 26, rfl, rfl, rfl, by decide +kernel, ⟨tyX8, tyX8_ok⟩, nmX8⟩
theorem w_X8_25 : Fw 11 25 .int false := ⟨RX8, TX8, 26, rfl, rfl, rfl, by decide +kernel, ⟨tyX8, tyX8_ok⟩, nmX8⟩
theorem f_X7_9 : Fl RX7 9 10 0 := Fl.of (ref := "AccentHouse") (C := RX7) (T := TX7) (N := 11) rfl (by decide) (wl_4 139 rfl rfl) u_X7 rfl
theorem f_X7_16 : Fl RX7 16 10 2 := Fl.of (ref := "AccentHouse") (C := RX7) (T := TX7) (N := 11) rfl (by decide) (wl_4 141 rfl rfl) u_X7 rfl
theorem f_X7_25 : Fl RX7 25 10 3 := Fl.of (ref := "AccentHouse") (C := RX7) (T := TX7) (N := 11) rfl (by decide) (wl_4 142 rfl rfl) u_X7 rfl
theorem f_X7_29 : Fl RX7 29 10 5 := Fl.of (ref := "AccentHouse") (C := RX7) (T := TX7) (N := 11) rfl (by decide) (wl_4 144 rfl rfl) u_X7 rfl
theorem f_X7_36 : Fl RX7 36 10 6 := Fl.of (ref := "AccentHouse") (C := RX7) (T := TX7) (N := 11) rfl (by decide) (wl_4 145 rfl rfl) u_X7 rfl
theorem f_X7_40 : Fl RX7 40 10 7 := Fl.of (ref := "AccentHouse") (C := RX7) (T := TX7) (N := 11) rfl (by decide) (wl_4 146 rfl rfl) u_X7 rfl
theorem f_X7_46 : Fl RX7 46 10 8 := Fl.of (ref := "AccentHouse") (C := RX7) (T := TX7) (N := 11) rfl (by decide) (wl_4 147 rfl rfl) u_X7 rfl
theorem f_X7_50 : Fl RX7 50 10 9 := Fl.of (ref := "AccentHouse") (C := RX7) (T := TX7) (N := 11) rfl (by decide) (wl_4 148 rfl rfl) u_X7 rfl
theorem f_X7_54 : Fl RX7 54 10 10 := Fl.of (ref := "AccentHouse") (C := RX7) (T := TX7) (N := 11) rfl (by decide) (wl_4 149 rfl rfl) u_X7 rfl
theorem f_X7_74 : Fl RX7 74 8 2 := Fl.of (ref := "AccentHouse$Parser") (C := RX4) (T := TX4) (N := 5) rfl (by decide) (wl_1 226 rfl rfl) u_X4 rfl
theorem f_X7_79 : Fl RX7 79 10 1 := Fl.of (ref := "AccentHouse") (C := RX7) (T := TX7) (N := 11) rfl (by decide) (wl_4 140 rfl rfl) u_X7 rfl
theorem f_X7_97 : Fl RX7 97 8 3 := Fl.of (ref := "AccentHouse$Parser") (C := RX4) (T := TX4) (N := 5) rfl (by decide) (wl_1 228 rfl rfl) u_X4 rfl
theorem f_X7_100 : Fl RX7 100 10 4 := Fl.of (ref := "AccentHouse") (C := RX7) (T := TX7) (N := 11) rfl (by decide) (wl_4 143 rfl rfl) u_X7 rfl
theorem f_X7_103 : Fl RX7 103 8 4 := Fl.of (ref := "AccentHouse$Parser") (C := RX4) (T := TX4) (N := 5) rfl (by decide) (wl_1 230 rfl rfl) u_X4 rfl
theorem f_X7_114 : Fl RX7 114 6 7 := Fl.of (ref := "AccentHouse$House") (C := RX2) (T := TX2) (N := 11) rfl (by decide) (wl_1 159 rfl rfl) u_X2 rfl
theorem f_X7_117 : Fl RX7 117 6 0 := Fl.of (ref := "AccentHouse$House") (C := RX2) (T := TX2) (N := 11) rfl (by decide) (wl_1 144 rfl rfl) u_X2 rfl
theorem f_X7_120 : Fl RX7 120 6 1 := Fl.of (ref := "AccentHouse$House") (C := RX2) (T := TX2) (N := 11) rfl (by decide) (wl_1 146 rfl rfl) u_X2 rfl
theorem f_X7_123 : Fl RX7 123 6 2 := Fl.of (ref := "AccentHouse$House") (C := RX2) (T := TX2) (N := 11) rfl (by decide) (wl_1 148 rfl rfl) u_X2 rfl
theorem f_X7_136 : Fl RX7 136 6 8 := Fl.of (ref := "AccentHouse$House") (C := RX2) (T := TX2) (N := 11) rfl (by decide) (wl_1 162 rfl rfl) u_X2 rfl
theorem f_X7_140 : Fl RX7 140 4 0 := Fl.of (ref := "AccentHouse$Accent") (C := RX0) (T := TX0) (N := 1) rfl (by decide) (wl_1 90 rfl rfl) u_X0 rfl
theorem f_X7_146 : Fl RX7 146 6 3 := Fl.of (ref := "AccentHouse$House") (C := RX2) (T := TX2) (N := 11) rfl (by decide) (wl_1 150 rfl rfl) u_X2 rfl
theorem f_X7_149 : Fl RX7 149 5 2 := Fl.of (ref := "AccentHouse$History") (C := RX1) (T := TX1) (N := 3) rfl (by decide) (wl_2 16 rfl rfl) u_X1 rfl
theorem f_X7_156 : Fl RX7 156 7 1 := Fl.of (ref := "AccentHouse$Lodger") (C := RX3) (T := TX3) (N := 7) rfl (by decide) (wl_1 112 rfl rfl) u_X3 rfl
theorem f_X7_161 : Fl RX7 161 7 2 := Fl.of (ref := "AccentHouse$Lodger") (C := RX3) (T := TX3) (N := 7) rfl (by decide) (wl_1 115 rfl rfl) u_X3 rfl
theorem f_X7_164 : Fl RX7 164 7 6 := Fl.of (ref := "AccentHouse$Lodger") (C := RX3) (T := TX3) (N := 7) rfl (by decide) (wl_1 127 rfl rfl) u_X3 rfl
theorem f_X7_167 : Fl RX7 167 7 3 := Fl.of (ref := "AccentHouse$Lodger") (C := RX3) (T := TX3) (N := 7) rfl (by decide) (wl_1 118 rfl rfl) u_X3 rfl
theorem f_X7_170 : Fl RX7 170 7 4 := Fl.of (ref := "AccentHouse$Lodger") (C := RX3) (T := TX3) (N := 7) rfl (by decide) (wl_1 121 rfl rfl) u_X3 rfl
theorem f_X7_173 : Fl RX7 173 7 5 := Fl.of (ref := "AccentHouse$Lodger") (C := RX3) (T := TX3) (N := 7) rfl (by decide) (wl_1 124 rfl rfl) u_X3 rfl
theorem f_X7_176 : Fl RX7 176 7 0 := Fl.of (ref := "AccentHouse$Lodger") (C := RX3) (T := TX3) (N := 7) rfl (by decide) (wl_1 108 rfl rfl) u_X3 rfl
theorem f_X7_208 : Fl RX7 208 6 9 := Fl.of (ref := "AccentHouse$House") (C := RX2) (T := TX2) (N := 11) rfl (by decide) (wl_1 165 rfl rfl) u_X2 rfl
theorem f_X7_218 : Fl RX7 218 6 10 := Fl.of (ref := "AccentHouse$House") (C := RX2) (T := TX2) (N := 11) rfl (by decide) (wl_1 167 rfl rfl) u_X2 rfl
theorem f_X7_249 : Fl RX7 249 6 4 := Fl.of (ref := "AccentHouse$House") (C := RX2) (T := TX2) (N := 11) rfl (by decide) (wl_1 152 rfl rfl) u_X2 rfl
theorem f_X7_252 : Fl RX7 252 6 5 := Fl.of (ref := "AccentHouse$House") (C := RX2) (T := TX2) (N := 11) rfl (by decide) (wl_1 154 rfl rfl) u_X2 rfl
theorem f_X7_255 : Fl RX7 255 6 6 := Fl.of (ref := "AccentHouse$House") (C := RX2) (T := TX2) (N := 11) rfl (by decide) (wl_1 156 rfl rfl) u_X2 rfl
theorem f_X0_9 : Fl RX0 9 4 0 := Fl.of (ref := "AccentHouse$Accent") (C := RX0) (T := TX0) (N := 1) rfl (by decide) (wl_1 89 rfl rfl) u_X0 rfl
theorem f_X1_11 : Fl RX1 11 5 0 := Fl.of (ref := "AccentHouse$History") (C := RX1) (T := TX1) (N := 3) rfl (by decide) (wl_2 13 rfl rfl) u_X1 rfl
theorem f_X1_18 : Fl RX1 18 5 1 := Fl.of (ref := "AccentHouse$History") (C := RX1) (T := TX1) (N := 3) rfl (by decide) (wl_2 14 rfl rfl) u_X1 rfl
theorem f_X1_22 : Fl RX1 22 5 2 := Fl.of (ref := "AccentHouse$History") (C := RX1) (T := TX1) (N := 3) rfl (by decide) (wl_2 15 rfl rfl) u_X1 rfl
theorem f_X2_12 : Fl RX2 12 6 8 := Fl.of (ref := "AccentHouse$House") (C := RX2) (T := TX2) (N := 11) rfl (by decide) (wl_1 160 rfl rfl) u_X2 rfl
theorem f_X2_20 : Fl RX2 20 6 9 := Fl.of (ref := "AccentHouse$House") (C := RX2) (T := TX2) (N := 11) rfl (by decide) (wl_1 163 rfl rfl) u_X2 rfl
theorem f_X2_24 : Fl RX2 24 6 10 := Fl.of (ref := "AccentHouse$House") (C := RX2) (T := TX2) (N := 11) rfl (by decide) (wl_1 166 rfl rfl) u_X2 rfl
theorem f_X2_28 : Fl RX2 28 6 0 := Fl.of (ref := "AccentHouse$House") (C := RX2) (T := TX2) (N := 11) rfl (by decide) (wl_1 143 rfl rfl) u_X2 rfl
theorem f_X2_32 : Fl RX2 32 6 1 := Fl.of (ref := "AccentHouse$House") (C := RX2) (T := TX2) (N := 11) rfl (by decide) (wl_1 145 rfl rfl) u_X2 rfl
theorem f_X2_35 : Fl RX2 35 6 2 := Fl.of (ref := "AccentHouse$House") (C := RX2) (T := TX2) (N := 11) rfl (by decide) (wl_1 147 rfl rfl) u_X2 rfl
theorem f_X2_38 : Fl RX2 38 6 3 := Fl.of (ref := "AccentHouse$House") (C := RX2) (T := TX2) (N := 11) rfl (by decide) (wl_1 149 rfl rfl) u_X2 rfl
theorem f_X2_41 : Fl RX2 41 6 4 := Fl.of (ref := "AccentHouse$House") (C := RX2) (T := TX2) (N := 11) rfl (by decide) (wl_1 151 rfl rfl) u_X2 rfl
theorem f_X2_44 : Fl RX2 44 6 5 := Fl.of (ref := "AccentHouse$House") (C := RX2) (T := TX2) (N := 11) rfl (by decide) (wl_1 153 rfl rfl) u_X2 rfl
theorem f_X2_47 : Fl RX2 47 6 6 := Fl.of (ref := "AccentHouse$House") (C := RX2) (T := TX2) (N := 11) rfl (by decide) (wl_1 155 rfl rfl) u_X2 rfl
theorem f_X2_50 : Fl RX2 50 6 7 := Fl.of (ref := "AccentHouse$House") (C := RX2) (T := TX2) (N := 11) rfl (by decide) (wl_1 157 rfl rfl) u_X2 rfl
theorem f_X2_60 : Fl RX2 60 7 1 := Fl.of (ref := "AccentHouse$Lodger") (C := RX3) (T := TX3) (N := 7) rfl (by decide) (wl_1 110 rfl rfl) u_X3 rfl
theorem f_X2_89 : Fl RX2 89 7 0 := Fl.of (ref := "AccentHouse$Lodger") (C := RX3) (T := TX3) (N := 7) rfl (by decide) (wl_1 107 rfl rfl) u_X3 rfl
theorem f_X2_93 : Fl RX2 93 7 6 := Fl.of (ref := "AccentHouse$Lodger") (C := RX3) (T := TX3) (N := 7) rfl (by decide) (wl_1 126 rfl rfl) u_X3 rfl
theorem f_X2_96 : Fl RX2 96 4 0 := Fl.of (ref := "AccentHouse$Accent") (C := RX0) (T := TX0) (N := 1) rfl (by decide) (wl_1 91 rfl rfl) u_X0 rfl
theorem f_X2_104 : Fl RX2 104 7 2 := Fl.of (ref := "AccentHouse$Lodger") (C := RX3) (T := TX3) (N := 7) rfl (by decide) (wl_1 114 rfl rfl) u_X3 rfl
theorem f_X2_115 : Fl RX2 115 7 3 := Fl.of (ref := "AccentHouse$Lodger") (C := RX3) (T := TX3) (N := 7) rfl (by decide) (wl_1 117 rfl rfl) u_X3 rfl
theorem f_X2_118 : Fl RX2 118 7 4 := Fl.of (ref := "AccentHouse$Lodger") (C := RX3) (T := TX3) (N := 7) rfl (by decide) (wl_1 120 rfl rfl) u_X3 rfl
theorem f_X2_121 : Fl RX2 121 7 5 := Fl.of (ref := "AccentHouse$Lodger") (C := RX3) (T := TX3) (N := 7) rfl (by decide) (wl_1 123 rfl rfl) u_X3 rfl
theorem f_X3_9 : Fl RX3 9 7 0 := Fl.of (ref := "AccentHouse$Lodger") (C := RX3) (T := TX3) (N := 7) rfl (by decide) (wl_1 106 rfl rfl) u_X3 rfl
theorem f_X3_18 : Fl RX3 18 7 6 := Fl.of (ref := "AccentHouse$Lodger") (C := RX3) (T := TX3) (N := 7) rfl (by decide) (wl_1 125 rfl rfl) u_X3 rfl
theorem f_X3_22 : Fl RX3 22 7 1 := Fl.of (ref := "AccentHouse$Lodger") (C := RX3) (T := TX3) (N := 7) rfl (by decide) (wl_1 109 rfl rfl) u_X3 rfl
theorem f_X3_26 : Fl RX3 26 7 2 := Fl.of (ref := "AccentHouse$Lodger") (C := RX3) (T := TX3) (N := 7) rfl (by decide) (wl_1 113 rfl rfl) u_X3 rfl
theorem f_X3_29 : Fl RX3 29 7 3 := Fl.of (ref := "AccentHouse$Lodger") (C := RX3) (T := TX3) (N := 7) rfl (by decide) (wl_1 116 rfl rfl) u_X3 rfl
theorem f_X3_32 : Fl RX3 32 7 4 := Fl.of (ref := "AccentHouse$Lodger") (C := RX3) (T := TX3) (N := 7) rfl (by decide) (wl_1 119 rfl rfl) u_X3 rfl
theorem f_X3_35 : Fl RX3 35 7 5 := Fl.of (ref := "AccentHouse$Lodger") (C := RX3) (T := TX3) (N := 7) rfl (by decide) (wl_1 122 rfl rfl) u_X3 rfl
theorem f_X4_12 : Fl RX4 12 8 2 := Fl.of (ref := "AccentHouse$Parser") (C := RX4) (T := TX4) (N := 5) rfl (by decide) (wl_1 225 rfl rfl) u_X4 rfl
theorem f_X4_18 : Fl RX4 18 8 4 := Fl.of (ref := "AccentHouse$Parser") (C := RX4) (T := TX4) (N := 5) rfl (by decide) (wl_1 229 rfl rfl) u_X4 rfl
theorem f_X4_22 : Fl RX4 22 8 0 := Fl.of (ref := "AccentHouse$Parser") (C := RX4) (T := TX4) (N := 5) rfl (by decide) (wl_1 223 rfl rfl) u_X4 rfl
theorem f_X4_31 : Fl RX4 31 8 1 := Fl.of (ref := "AccentHouse$Parser") (C := RX4) (T := TX4) (N := 5) rfl (by decide) (wl_1 224 rfl rfl) u_X4 rfl
theorem f_X4_35 : Fl RX4 35 8 3 := Fl.of (ref := "AccentHouse$Parser") (C := RX4) (T := TX4) (N := 5) rfl (by decide) (wl_1 227 rfl rfl) u_X4 rfl
theorem f_X4_45 : Fl RX4 45 9 3 := Fl.of (ref := "AccentHouse$Tokens") (C := RX6) (T := TX6) (N := 6) rfl (by decide) (wl_1 205 rfl rfl) u_X6 rfl
theorem f_X4_81 : Fl RX4 81 9 4 := Fl.of (ref := "AccentHouse$Tokens") (C := RX6) (T := TX6) (N := 6) rfl (by decide) (wl_1 206 rfl rfl) u_X6 rfl
theorem f_X4_105 : Fl RX4 105 6 8 := Fl.of (ref := "AccentHouse$House") (C := RX2) (T := TX2) (N := 11) rfl (by decide) (wl_1 161 rfl rfl) u_X2 rfl
theorem f_X4_117 : Fl RX4 117 6 7 := Fl.of (ref := "AccentHouse$House") (C := RX2) (T := TX2) (N := 11) rfl (by decide) (wl_1 158 rfl rfl) u_X2 rfl
theorem f_X4_124 : Fl RX4 124 9 5 := Fl.of (ref := "AccentHouse$Tokens") (C := RX6) (T := TX6) (N := 6) rfl (by decide) (wl_1 209 rfl rfl) u_X6 rfl
theorem f_X4_151 : Fl RX4 151 7 1 := Fl.of (ref := "AccentHouse$Lodger") (C := RX3) (T := TX3) (N := 7) rfl (by decide) (wl_1 111 rfl rfl) u_X3 rfl
theorem f_X4_165 : Fl RX4 165 6 9 := Fl.of (ref := "AccentHouse$House") (C := RX2) (T := TX2) (N := 11) rfl (by decide) (wl_1 164 rfl rfl) u_X2 rfl
theorem f_X6_10 : Fl RX6 10 9 1 := Fl.of (ref := "AccentHouse$Tokens") (C := RX6) (T := TX6) (N := 6) rfl (by decide) (wl_1 202 rfl rfl) u_X6 rfl
theorem f_X6_22 : Fl RX6 22 9 3 := Fl.of (ref := "AccentHouse$Tokens") (C := RX6) (T := TX6) (N := 6) rfl (by decide) (wl_1 204 rfl rfl) u_X6 rfl
theorem f_X6_25 : Fl RX6 25 9 0 := Fl.of (ref := "AccentHouse$Tokens") (C := RX6) (T := TX6) (N := 6) rfl (by decide) (wl_1 201 rfl rfl) u_X6 rfl
theorem f_X6_35 : Fl RX6 35 9 2 := Fl.of (ref := "AccentHouse$Tokens") (C := RX6) (T := TX6) (N := 6) rfl (by decide) (wl_1 203 rfl rfl) u_X6 rfl
theorem f_X6_42 : Fl RX6 42 9 5 := Fl.of (ref := "AccentHouse$Tokens") (C := RX6) (T := TX6) (N := 6) rfl (by decide) (wl_1 208 rfl rfl) u_X6 rfl
theorem f_X6_54 : Fl RX6 54 9 4 := Fl.of (ref := "AccentHouse$Tokens") (C := RX6) (T := TX6) (N := 6) rfl (by decide) (wl_1 207 rfl rfl) u_X6 rfl
theorem f_X8_7 : Fl RX8 7 11 0 := Fl.of (ref := "AccentHouseModel") (C := RX8) (T := TX8) (N := 26) rfl (by decide) (wl_7 75 rfl rfl) u_X8 rfl
theorem f_X8_16 : Fl RX8 16 11 1 := Fl.of (ref := "AccentHouseModel") (C := RX8) (T := TX8) (N := 26) rfl (by decide) (wl_7 76 rfl rfl) u_X8 rfl
theorem f_X8_19 : Fl RX8 19 11 3 := Fl.of (ref := "AccentHouseModel") (C := RX8) (T := TX8) (N := 26) rfl (by decide) (wl_7 78 rfl rfl) u_X8 rfl
theorem f_X8_22 : Fl RX8 22 11 4 := Fl.of (ref := "AccentHouseModel") (C := RX8) (T := TX8) (N := 26) rfl (by decide) (wl_7 79 rfl rfl) u_X8 rfl
theorem f_X8_25 : Fl RX8 25 11 5 := Fl.of (ref := "AccentHouseModel") (C := RX8) (T := TX8) (N := 26) rfl (by decide) (wl_7 80 rfl rfl) u_X8 rfl
theorem f_X8_28 : Fl RX8 28 11 7 := Fl.of (ref := "AccentHouseModel") (C := RX8) (T := TX8) (N := 26) rfl (by decide) (wl_7 82 rfl rfl) u_X8 rfl
theorem f_X8_31 : Fl RX8 31 11 9 := Fl.of (ref := "AccentHouseModel") (C := RX8) (T := TX8) (N := 26) rfl (by decide) (wl_7 84 rfl rfl) u_X8 rfl
theorem f_X8_34 : Fl RX8 34 11 10 := Fl.of (ref := "AccentHouseModel") (C := RX8) (T := TX8) (N := 26) rfl (by decide) (wl_7 85 rfl rfl) u_X8 rfl
theorem f_X8_37 : Fl RX8 37 11 11 := Fl.of (ref := "AccentHouseModel") (C := RX8) (T := TX8) (N := 26) rfl (by decide) (wl_7 86 rfl rfl) u_X8 rfl
theorem f_X8_41 : Fl RX8 41 11 13 := Fl.of (ref := "AccentHouseModel") (C := RX8) (T := TX8) (N := 26) rfl (by decide) (wl_7 88 rfl rfl) u_X8 rfl
theorem f_X8_45 : Fl RX8 45 11 15 := Fl.of (ref := "AccentHouseModel") (C := RX8) (T := TX8) (N := 26) rfl (by decide) (wl_7 90 rfl rfl) u_X8 rfl
theorem f_X8_49 : Fl RX8 49 11 18 := Fl.of (ref := "AccentHouseModel") (C := RX8) (T := TX8) (N := 26) rfl (by decide) (wl_7 93 rfl rfl) u_X8 rfl
theorem f_X8_63 : Fl RX8 63 11 2 := Fl.of (ref := "AccentHouseModel") (C := RX8) (T := TX8) (N := 26) rfl (by decide) (wl_7 77 rfl rfl) u_X8 rfl
theorem f_X8_70 : Fl RX8 70 11 12 := Fl.of (ref := "AccentHouseModel") (C := RX8) (T := TX8) (N := 26) rfl (by decide) (wl_7 87 rfl rfl) u_X8 rfl
theorem f_X8_127 : Fl RX8 127 11 6 := Fl.of (ref := "AccentHouseModel") (C := RX8) (T := TX8) (N := 26) rfl (by decide) (wl_7 81 rfl rfl) u_X8 rfl
theorem f_X8_130 : Fl RX8 130 11 20 := Fl.of (ref := "AccentHouseModel") (C := RX8) (T := TX8) (N := 26) rfl (by decide) (wl_7 95 rfl rfl) u_X8 rfl
theorem f_X8_133 : Fl RX8 133 11 22 := Fl.of (ref := "AccentHouseModel") (C := RX8) (T := TX8) (N := 26) rfl (by decide) (wl_7 97 rfl rfl) u_X8 rfl
theorem f_X8_136 : Fl RX8 136 11 21 := Fl.of (ref := "AccentHouseModel") (C := RX8) (T := TX8) (N := 26) rfl (by decide) (wl_7 96 rfl rfl) u_X8 rfl
theorem f_X8_139 : Fl RX8 139 11 19 := Fl.of (ref := "AccentHouseModel") (C := RX8) (T := TX8) (N := 26) rfl (by decide) (wl_7 94 rfl rfl) u_X8 rfl
theorem f_X8_148 : Fl RX8 148 11 23 := Fl.of (ref := "AccentHouseModel") (C := RX8) (T := TX8) (N := 26) rfl (by decide) (wl_7 98 rfl rfl) u_X8 rfl
theorem f_X8_151 : Fl RX8 151 11 24 := Fl.of (ref := "AccentHouseModel") (C := RX8) (T := TX8) (N := 26) rfl (by decide) (wl_7 99 rfl rfl) u_X8 rfl
theorem f_X8_154 : Fl RX8 154 11 25 := Fl.of (ref := "AccentHouseModel") (C := RX8) (T := TX8) (N := 26) rfl (by decide) (wl_7 100 rfl rfl) u_X8 rfl
theorem f_X8_213 : Fl RX8 213 11 14 := Fl.of (ref := "AccentHouseModel") (C := RX8) (T := TX8) (N := 26) rfl (by decide) (wl_7 89 rfl rfl) u_X8 rfl
theorem f_X8_231 : Fl RX8 231 11 17 := Fl.of (ref := "AccentHouseModel") (C := RX8) (T := TX8) (N := 26) rfl (by decide) (wl_7 92 rfl rfl) u_X8 rfl
theorem f_X8_237 : Fl RX8 237 11 8 := Fl.of (ref := "AccentHouseModel") (C := RX8) (T := TX8) (N := 26) rfl (by decide) (wl_7 83 rfl rfl) u_X8 rfl
theorem f_X8_289 : Fl RX8 289 11 16 := Fl.of (ref := "AccentHouseModel") (C := RX8) (T := TX8) (N := 26) rfl (by decide) (wl_7 91 rfl rfl) u_X8 rfl
theorem f_J0_9 : Fl RJ0 9 0 0 := Fl.of (ref := "java/lang/String") (C := RJ0) (T := TJ0) (N := 4) rfl (by decide) (wl_3 193 rfl rfl) u_J0 rfl
theorem f_J0_15 : Fl RJ0 15 0 1 := Fl.of (ref := "java/lang/String") (C := RJ0) (T := TJ0) (N := 4) rfl (by decide) (wl_3 194 rfl rfl) u_J0 rfl
abbrev MX7_init : Mr := (RX7, yX7_init, cX7_init, 2, none)
theorem k_X7_init : Cd MX7_init ∈ wl := wl_1 34 rfl rfl
theorem n_X7_init : nMH MX7_init 0 := ⟨⟨by decide +kernel, by decide +kernel⟩, by decide +kernel, by decide⟩
abbrev MJ4_init_da8c8 : Mr := (RJ4, yJ4_init_da8c8, cJ4_init_da8c8, 1, none)
theorem k_J4_init_da8c8 : Cd MJ4_init_da8c8 ∈ wl := wl_1 42 rfl rfl
theorem n_J4_init_da8c8 : nMH MJ4_init_da8c8 0 := ⟨⟨by decide +kernel, by decide +kernel⟩, by decide +kernel, by decide⟩
abbrev MJ5_init_d00df : Mr := (RJ5, yJ5_init_d00df, cJ5_init_d00df, 2, none)
theorem k_J5_init_d00df : Cd MJ5_init_d00df ∈ wl := wl_1 45 rfl rfl
theorem n_J5_init_d00df : nMH MJ5_init_d00df 1 := ⟨⟨by decide +kernel, by decide +kernel⟩, by decide +kernel, by decide⟩
abbrev MJ2_newBytesFor_77867 : Mr := (RJ2, yJ2_newBytesFor_77867, cJ2_newBytesFor_77867, 1, some (.array .byte))
theorem k_J2_newBytesFor_77867 : Cd MJ2_newBytesFor_77867 ∈ wl := wl_1 51 rfl rfl
theorem n_J2_newBytesFor_77867 : nMH MJ2_newBytesFor_77867 1 := ⟨⟨by decide +kernel, by decide +kernel⟩, by decide +kernel, by decide⟩
abbrev MJ2_newBytesLength_0f7a4 : Mr := (RJ2, yJ2_newBytesLength_0f7a4, cJ2_newBytesLength_0f7a4, 1, some .int)
theorem k_J2_newBytesLength_0f7a4 : Cd MJ2_newBytesLength_0f7a4 ∈ wl := wl_1 54 rfl rfl
theorem n_J2_newBytesLength_0f7a4 : nMH MJ2_newBytesLength_0f7a4 1 := ⟨⟨by decide +kernel, by decide +kernel⟩, by decide +kernel, by decide⟩
abbrev MX4_init : Mr := (RX4, yX4_init, cX4_init, 2, none)
theorem k_X4_init : Cd MX4_init ∈ wl := wl_1 75 rfl rfl
theorem n_X4_init : nMH MX4_init 1 := ⟨⟨by decide +kernel, by decide +kernel⟩, by decide +kernel, by decide⟩
abbrev MX2_init : Mr := (RX2, yX2_init, cX2_init, 2, none)
theorem k_X2_init : Cd MX2_init ∈ wl := wl_1 81 rfl rfl
theorem n_X2_init : nMH MX2_init 0 := ⟨⟨by decide +kernel, by decide +kernel⟩, by decide +kernel, by decide⟩
abbrev MX0_init : Mr := (RX0, yX0_init, cX0_init, 1, none)
theorem k_X0_init : Cd MX0_init ∈ wl := wl_1 87 rfl rfl
theorem n_X0_init : nMH MX0_init 0 := ⟨⟨by decide +kernel, by decide +kernel⟩, by decide +kernel, by decide⟩
abbrev MX3_init : Mr := (RX3, yX3_init, cX3_init, 1, none)
theorem k_X3_init : Cd MX3_init ∈ wl := wl_1 101 rfl rfl
theorem n_X3_init : nMH MX3_init 0 := ⟨⟨by decide +kernel, by decide +kernel⟩, by decide +kernel, by decide⟩
abbrev MX6_init : Mr := (RX6, yX6_init, cX6_init, 2, none)
theorem k_X6_init : Cd MX6_init ∈ wl := wl_1 195 rfl rfl
theorem n_X6_init : nMH MX6_init 1 := ⟨⟨by decide +kernel, by decide +kernel⟩, by decide +kernel, by decide⟩
abbrev MX1_init : Mr := (RX1, yX1_init, cX1_init, 2, none)
theorem k_X1_init : Cd MX1_init ∈ wl := wl_2 8 rfl rfl
theorem n_X1_init : nMH MX1_init 0 := ⟨⟨by decide +kernel, by decide +kernel⟩, by decide +kernel, by decide⟩
abbrev MJ0_length_8abf5 : Mr := (RJ0, yJ0_length_8abf5, cJ0_length_8abf5, 1, some .int)
theorem k_J0_length_8abf5 : Cd MJ0_length_8abf5 ∈ wl := wl_2 28 rfl rfl
theorem n_J0_length_8abf5 : nMH MJ0_length_8abf5 0 := ⟨⟨by decide +kernel, by decide +kernel⟩, by decide +kernel, by decide⟩
abbrev MJ0_coder_7d493 : Mr := (RJ0, yJ0_coder_7d493, cJ0_coder_7d493, 1, some .byte)
theorem k_J0_coder_7d493 : Cd MJ0_coder_7d493 ∈ wl := wl_2 32 rfl rfl
theorem n_J0_coder_7d493 : nMH MJ0_coder_7d493 0 := ⟨⟨by decide +kernel, by decide +kernel⟩, by decide +kernel, by decide⟩
abbrev MJ0_charAt_5068e : Mr := (RJ0, yJ0_charAt_5068e, cJ0_charAt_5068e, 2, some .char)
theorem k_J0_charAt_5068e : Cd MJ0_charAt_5068e ∈ wl := wl_2 37 rfl rfl
theorem n_J0_charAt_5068e : nMH MJ0_charAt_5068e 1 := ⟨⟨by decide +kernel, by decide +kernel⟩, by decide +kernel, by decide⟩
abbrev MJ0_isLatin1_aae02 : Mr := (RJ0, yJ0_isLatin1_aae02, cJ0_isLatin1_aae02, 1, some .boolean)
theorem k_J0_isLatin1_aae02 : Cd MJ0_isLatin1_aae02 ∈ wl := wl_2 41 rfl rfl
theorem n_J0_isLatin1_aae02 : nMH MJ0_isLatin1_aae02 0 := ⟨⟨by decide +kernel, by decide +kernel⟩, by decide +kernel, by decide⟩
abbrev MJ1_charAt_3b067 : Mr := (RJ1, yJ1_charAt_3b067, cJ1_charAt_3b067, 2, some .char)
theorem k_J1_charAt_3b067 : Cd MJ1_charAt_3b067 ∈ wl := wl_2 44 rfl rfl
theorem n_J1_charAt_3b067 : nMH MJ1_charAt_3b067 2 := ⟨⟨by decide +kernel, by decide +kernel⟩, by decide +kernel, by decide⟩
abbrev MJ0_checkIndex_df160 : Mr := (RJ0, yJ0_checkIndex_df160, cJ0_checkIndex_df160, 2, none)
theorem k_J0_checkIndex_df160 : Cd MJ0_checkIndex_df160 ∈ wl := wl_2 47 rfl rfl
theorem n_J0_checkIndex_df160 : nMH MJ0_checkIndex_df160 2 := ⟨⟨by decide +kernel, by decide +kernel⟩, by decide +kernel, by decide⟩
abbrev MJ3_checkIndex_8e157 : Mr := (RJ3, yJ3_checkIndex_8e157, cJ3_checkIndex_8e157, 3, some .int)
theorem k_J3_checkIndex_8e157 : Cd MJ3_checkIndex_8e157 ∈ wl := wl_2 52 rfl rfl
theorem n_J3_checkIndex_8e157 : nMH MJ3_checkIndex_8e157 3 := ⟨⟨by decide +kernel, by decide +kernel⟩, by decide +kernel, by decide⟩
abbrev MJ2_charAt_3b067 : Mr := (RJ2, yJ2_charAt_3b067, cJ2_charAt_3b067, 2, some .char)
theorem k_J2_charAt_3b067 : Cd MJ2_charAt_3b067 ∈ wl := wl_2 55 rfl rfl
theorem n_J2_charAt_3b067 : nMH MJ2_charAt_3b067 2 := ⟨⟨by decide +kernel, by decide +kernel⟩, by decide +kernel, by decide⟩
abbrev MJ2_checkIndex_2214a : Mr := (RJ2, yJ2_checkIndex_2214a, cJ2_checkIndex_2214a, 2, none)
theorem k_J2_checkIndex_2214a : Cd MJ2_checkIndex_2214a ∈ wl := wl_2 58 rfl rfl
theorem n_J2_checkIndex_2214a : nMH MJ2_checkIndex_2214a 2 := ⟨⟨by decide +kernel, by decide +kernel⟩, by decide +kernel, by decide⟩
abbrev MJ2_length_9d52b : Mr := (RJ2, yJ2_length_9d52b, cJ2_length_9d52b, 1, some .int)
theorem k_J2_length_9d52b : Cd MJ2_length_9d52b ∈ wl := wl_2 61 rfl rfl
theorem n_J2_length_9d52b : nMH MJ2_length_9d52b 1 := ⟨⟨by decide +kernel, by decide +kernel⟩, by decide +kernel, by decide⟩
abbrev MJ2_getChar_3b067 : Mr := (RJ2, yJ2_getChar_3b067, cJ2_getChar_3b067, 2, some .char)
theorem k_J2_getChar_3b067 : Cd MJ2_getChar_3b067 ∈ wl := wl_2 65 rfl rfl
theorem n_J2_getChar_3b067 : nMH MJ2_getChar_3b067 2 := ⟨⟨by decide +kernel, by decide +kernel⟩, by decide +kernel, by decide⟩
abbrev MX4_read : Mr := (RX4, yX4_read, cX4_read, 3, none)
theorem k_X4_read : Cd MX4_read ∈ wl := wl_2 75 rfl rfl
theorem n_X4_read : nMH MX4_read 1 := ⟨⟨by decide +kernel, by decide +kernel⟩, by decide +kernel, by decide⟩
abbrev MX6_restart : Mr := (RX6, yX6_restart, cX6_restart, 2, none)
theorem k_X6_restart : Cd MX6_restart ∈ wl := wl_2 79 rfl rfl
theorem n_X6_restart : nMH MX6_restart 1 := ⟨⟨by decide +kernel, by decide +kernel⟩, by decide +kernel, by decide⟩
abbrev MJ9_min_7cf53 : Mr := (RJ9, yJ9_min_7cf53, cJ9_min_7cf53, 2, some .int)
theorem k_J9_min_7cf53 : Cd MJ9_min_7cf53 ∈ wl := wl_2 82 rfl rfl
theorem n_J9_min_7cf53 : nMH MJ9_min_7cf53 2 := ⟨⟨by decide +kernel, by decide +kernel⟩, by decide +kernel, by decide⟩
abbrev MX6_step : Mr := (RX6, yX6_step, cX6_step, 3, none)
theorem k_X6_step : Cd MX6_step ∈ wl := wl_2 88 rfl rfl
theorem n_X6_step : nMH MX6_step 0 := ⟨⟨by decide +kernel, by decide +kernel⟩, by decide +kernel, by decide⟩
abbrev MX6_isLetter : Mr := (RX6, yX6_isLetter, cX6_isLetter, 1, some .boolean)
theorem k_X6_isLetter : Cd MX6_isLetter ∈ wl := wl_2 95 rfl rfl
theorem n_X6_isLetter : nMH MX6_isLetter 1 := ⟨⟨by decide +kernel, by decide +kernel⟩, by decide +kernel, by decide⟩
abbrev MX6_isDigit : Mr := (RX6, yX6_isDigit, cX6_isDigit, 1, some .boolean)
theorem k_X6_isDigit : Cd MX6_isDigit ∈ wl := wl_2 100 rfl rfl
theorem n_X6_isDigit : nMH MX6_isDigit 1 := ⟨⟨by decide +kernel, by decide +kernel⟩, by decide +kernel, by decide⟩
abbrev MX4_readHeader : Mr := (RX4, yX4_readHeader, cX4_readHeader, 3, none)
theorem k_X4_readHeader : Cd MX4_readHeader ∈ wl := wl_2 104 rfl rfl
theorem n_X4_readHeader : nMH MX4_readHeader 0 := ⟨⟨by decide +kernel, by decide +kernel⟩, by decide +kernel, by decide⟩
abbrev MX4_expectWord : Mr := (RX4, yX4_expectWord, cX4_expectWord, 2, none)
theorem k_X4_expectWord : Cd MX4_expectWord ∈ wl := wl_2 109 rfl rfl
theorem n_X4_expectWord : nMH MX4_expectWord 1 := ⟨⟨by decide +kernel, by decide +kernel⟩, by decide +kernel, by decide⟩
abbrev MX6_isWord : Mr := (RX6, yX6_isWord, cX6_isWord, 3, some .boolean)
theorem k_X6_isWord : Cd MX6_isWord ∈ wl := wl_2 113 rfl rfl
theorem n_X6_isWord : nMH MX6_isWord 1 := ⟨⟨by decide +kernel, by decide +kernel⟩, by decide +kernel, by decide⟩
abbrev MX6_size : Mr := (RX6, yX6_size, cX6_size, 1, some .int)
theorem k_X6_size : Cd MX6_size ∈ wl := wl_2 117 rfl rfl
theorem n_X6_size : nMH MX6_size 0 := ⟨⟨by decide +kernel, by decide +kernel⟩, by decide +kernel, by decide⟩
abbrev MX4_fail : Mr := (RX4, yX4_fail, cX4_fail, 3, none)
theorem k_X4_fail : Cd MX4_fail ∈ wl := wl_2 124 rfl rfl
theorem n_X4_fail : nMH MX4_fail 2 := ⟨⟨by decide +kernel, by decide +kernel⟩, by decide +kernel, by decide⟩
abbrev MX4_readNumber : Mr := (RX4, yX4_readNumber, cX4_readNumber, 4, some .int)
theorem k_X4_readNumber : Cd MX4_readNumber ∈ wl := wl_2 128 rfl rfl
theorem n_X4_readNumber : nMH MX4_readNumber 2 := ⟨⟨by decide +kernel, by decide +kernel⟩, by decide +kernel, by decide⟩
abbrev MX6_value : Mr := (RX6, yX6_value, cX6_value, 3, some .int)
theorem k_X6_value : Cd MX6_value ∈ wl := wl_2 134 rfl rfl
theorem n_X6_value : nMH MX6_value 0 := ⟨⟨by decide +kernel, by decide +kernel⟩, by decide +kernel, by decide⟩
abbrev MX2_open : Mr := (RX2, yX2_open, cX2_open, 3, none)
theorem k_X2_open : Cd MX2_open ∈ wl := wl_2 140 rfl rfl
theorem n_X2_open : nMH MX2_open 2 := ⟨⟨by decide +kernel, by decide +kernel⟩, by decide +kernel, by decide⟩
abbrev MX4_readAccent : Mr := (RX4, yX4_readAccent, cX4_readAccent, 3, some .int)
theorem k_X4_readAccent : Cd MX4_readAccent ∈ wl := wl_2 144 rfl rfl
theorem n_X4_readAccent : nMH MX4_readAccent 0 := ⟨⟨by decide +kernel, by decide +kernel⟩, by decide +kernel, by decide⟩
abbrev MX0_setDigits : Mr := (RX0, yX0_setDigits, cX0_setDigits, 4, none)
theorem k_X0_setDigits : Cd MX0_setDigits ∈ wl := wl_2 148 rfl rfl
theorem n_X0_setDigits : nMH MX0_setDigits 1 := ⟨⟨by decide +kernel, by decide +kernel⟩, by decide +kernel, by decide⟩
abbrev MX4_readLodger : Mr := (RX4, yX4_readLodger, cX4_readLodger, 5, none)
theorem k_X4_readLodger : Cd MX4_readLodger ∈ wl := wl_2 153 rfl rfl
theorem n_X4_readLodger : nMH MX4_readLodger 0 := ⟨⟨by decide +kernel, by decide +kernel⟩, by decide +kernel, by decide⟩
abbrev MX4_isAtName : Mr := (RX4, yX4_isAtName, cX4_isAtName, 1, some .boolean)
theorem k_X4_isAtName : Cd MX4_isAtName ∈ wl := wl_2 157 rfl rfl
theorem n_X4_isAtName : nMH MX4_isAtName 0 := ⟨⟨by decide +kernel, by decide +kernel⟩, by decide +kernel, by decide⟩
abbrev MX2_numberOf : Mr := (RX2, yX2_numberOf, cX2_numberOf, 5, some .int)
theorem k_X2_numberOf : Cd MX2_numberOf ∈ wl := wl_2 162 rfl rfl
theorem n_X2_numberOf : nMH MX2_numberOf 3 := ⟨⟨by decide +kernel, by decide +kernel⟩, by decide +kernel, by decide⟩
abbrev MX3_isNamed : Mr := (RX3, yX3_isNamed, cX3_isNamed, 5, some .boolean)
theorem k_X3_isNamed : Cd MX3_isNamed ∈ wl := wl_2 166 rfl rfl
theorem n_X3_isNamed : nMH MX3_isNamed 3 := ⟨⟨by decide +kernel, by decide +kernel⟩, by decide +kernel, by decide⟩
abbrev MX6_word : Mr := (RX6, yX6_word, cX6_word, 2, some (.object "java/lang/String"))
theorem k_X6_word : Cd MX6_word ∈ wl := wl_2 172 rfl rfl
theorem n_X6_word : nMH MX6_word 0 := ⟨⟨by decide +kernel, by decide +kernel⟩, by decide +kernel, by decide⟩
abbrev MJ4_setLength_d00df : Mr := (RJ4, yJ4_setLength_d00df, cJ4_setLength_d00df, 2, none)
theorem k_J4_setLength_d00df : Cd MJ4_setLength_d00df ∈ wl := wl_2 176 rfl rfl
theorem n_J4_setLength_d00df : nMH MJ4_setLength_d00df 1 := ⟨⟨by decide +kernel, by decide +kernel⟩, by decide +kernel, by decide⟩
abbrev MJ5_setLength_d00df : Mr := (RJ5, yJ5_setLength_d00df, cJ5_setLength_d00df, 2, none)
theorem k_J5_setLength_d00df : Cd MJ5_setLength_d00df ∈ wl := wl_2 179 rfl rfl
theorem n_J5_setLength_d00df : nMH MJ5_setLength_d00df 1 := ⟨⟨by decide +kernel, by decide +kernel⟩, by decide +kernel, by decide⟩
abbrev MJx7c733_init_d00df : Mr := (RJx7c733, yJx7c733_init_d00df, cJx7c733_init_d00df, 2, none)
theorem k_Jx7c733_init_d00df : Cd MJx7c733_init_d00df ∈ wl := wl_2 184 rfl rfl
theorem n_Jx7c733_init_d00df : nMH MJx7c733_init_d00df 1 := ⟨⟨by decide +kernel, by decide +kernel⟩, by decide +kernel, by decide⟩
abbrev MJ4_append_15ec4 : Mr := (RJ4, yJ4_append_15ec4, cJ4_append_15ec4, 2, some (.object "java/lang/StringBuilder"))
theorem k_J4_append_15ec4 : Cd MJ4_append_15ec4 ∈ wl := wl_2 191 rfl rfl
theorem n_J4_append_15ec4 : nMH MJ4_append_15ec4 1 := ⟨⟨by decide +kernel, by decide +kernel⟩, by decide +kernel, by decide⟩
abbrev MJ5_append_cf1ce : Mr := (RJ5, yJ5_append_cf1ce, cJ5_append_cf1ce, 3, some (.object "java/lang/AbstractStringBuilder"))
theorem k_J5_append_cf1ce : Cd MJ5_append_cf1ce ∈ wl := wl_2 194 rfl rfl
theorem n_J5_append_cf1ce : nMH MJ5_append_cf1ce 1 := ⟨⟨by decide +kernel, by decide +kernel⟩, by decide +kernel, by decide⟩
abbrev MJ5_appendNull_278bc : Mr := (RJ5, yJ5_appendNull_278bc, cJ5_appendNull_278bc, 3, some (.object "java/lang/AbstractStringBuilder"))
theorem k_J5_appendNull_278bc : Cd MJ5_appendNull_278bc ∈ wl := wl_2 198 rfl rfl
theorem n_J5_appendNull_278bc : nMH MJ5_appendNull_278bc 0 := ⟨⟨by decide +kernel, by decide +kernel⟩, by decide +kernel, by decide⟩
abbrev MJ5_ensureCapacityInternal_d00df : Mr := (RJ5, yJ5_ensureCapacityInternal_d00df, cJ5_ensureCapacityInternal_d00df, 3, none)
theorem k_J5_ensureCapacityInternal_d00df : Cd MJ5_ensureCapacityInternal_d00df ∈ wl := wl_2 202 rfl rfl
theorem n_J5_ensureCapacityInternal_d00df : nMH MJ5_ensureCapacityInternal_d00df 1 := ⟨⟨by decide +kernel, by decide +kernel⟩, by decide +kernel, by decide⟩
abbrev MJ5_newCapacity_0f7a4 : Mr := (RJ5, yJ5_newCapacity_0f7a4, cJ5_newCapacity_0f7a4, 6, some .int)
theorem k_J5_newCapacity_0f7a4 : Cd MJ5_newCapacity_0f7a4 ∈ wl := wl_2 206 rfl rfl
theorem n_J5_newCapacity_0f7a4 : nMH MJ5_newCapacity_0f7a4 1 := ⟨⟨by decide +kernel, by decide +kernel⟩, by decide +kernel, by decide⟩
abbrev MJ8_newLength_cabcc : Mr := (RJ8, yJ8_newLength_cabcc, cJ8_newLength_cabcc, 4, some .int)
theorem k_J8_newLength_cabcc : Cd MJ8_newLength_cabcc ∈ wl := wl_2 209 rfl rfl
theorem n_J8_newLength_cabcc : nMH MJ8_newLength_cabcc 3 := ⟨⟨by decide +kernel, by decide +kernel⟩, by decide +kernel, by decide⟩
abbrev MJ9_max_7cf53 : Mr := (RJ9, yJ9_max_7cf53, cJ9_max_7cf53, 2, some .int)
theorem k_J9_max_7cf53 : Cd MJ9_max_7cf53 ∈ wl := wl_2 212 rfl rfl
theorem n_J9_max_7cf53 : nMH MJ9_max_7cf53 2 := ⟨⟨by decide +kernel, by decide +kernel⟩, by decide +kernel, by decide⟩
abbrev MJ8_hugeLength_7cf53 : Mr := (RJ8, yJ8_hugeLength_7cf53, cJ8_hugeLength_7cf53, 3, some .int)
theorem k_J8_hugeLength_7cf53 : Cd MJ8_hugeLength_7cf53 ∈ wl := wl_2 216 rfl rfl
theorem n_J8_hugeLength_7cf53 : nMH MJ8_hugeLength_7cf53 2 := ⟨⟨by decide +kernel, by decide +kernel⟩, by decide +kernel, by decide⟩
abbrev MJ7_copyOf_9075b : Mr := (RJ7, yJ7_copyOf_9075b, cJ7_copyOf_9075b, 3, some (.array .byte))
theorem k_J7_copyOf_9075b : Cd MJ7_copyOf_9075b ∈ wl := wl_2 220 rfl rfl
theorem n_J7_copyOf_9075b : nMH MJ7_copyOf_9075b 2 := ⟨⟨by decide +kernel, by decide +kernel⟩, by decide +kernel, by decide⟩
abbrev MJ5_isLatin1_aae02 : Mr := (RJ5, yJ5_isLatin1_aae02, cJ5_isLatin1_aae02, 1, some .boolean)
theorem k_J5_isLatin1_aae02 : Cd MJ5_isLatin1_aae02 ∈ wl := wl_2 236 rfl rfl
theorem n_J5_isLatin1_aae02 : nMH MJ5_isLatin1_aae02 0 := ⟨⟨by decide +kernel, by decide +kernel⟩, by decide +kernel, by decide⟩
abbrev MJ2_putCharsAt_cd4e5 : Mr := (RJ2, yJ2_putCharsAt_cd4e5, cJ2_putCharsAt_cd4e5, 7, some .int)
theorem k_J2_putCharsAt_cd4e5 : Cd MJ2_putCharsAt_cd4e5 ∈ wl := wl_2 239 rfl rfl
theorem n_J2_putCharsAt_cd4e5 : nMH MJ2_putCharsAt_cd4e5 6 := ⟨⟨by decide +kernel, by decide +kernel⟩, by decide +kernel, by decide⟩
abbrev MJ2_checkBoundsBeginEnd_d044e : Mr := (RJ2, yJ2_checkBoundsBeginEnd_d044e, cJ2_checkBoundsBeginEnd_d044e, 3, none)
theorem k_J2_checkBoundsBeginEnd_d044e : Cd MJ2_checkBoundsBeginEnd_d044e ∈ wl := wl_3 2 rfl rfl
theorem n_J2_checkBoundsBeginEnd_d044e : nMH MJ2_checkBoundsBeginEnd_d044e 3 := ⟨⟨by decide +kernel, by decide +kernel⟩, by decide +kernel, by decide⟩
abbrev MJ0_checkBoundsBeginEnd_23922 : Mr := (RJ0, yJ0_checkBoundsBeginEnd_23922, cJ0_checkBoundsBeginEnd_23922, 3, none)
theorem k_J0_checkBoundsBeginEnd_23922 : Cd MJ0_checkBoundsBeginEnd_23922 ∈ wl := wl_3 5 rfl rfl
theorem n_J0_checkBoundsBeginEnd_23922 : nMH MJ0_checkBoundsBeginEnd_23922 3 := ⟨⟨by decide +kernel, by decide +kernel⟩, by decide +kernel, by decide⟩
abbrev MJ3_checkFromToIndex_8c36e : Mr := (RJ3, yJ3_checkFromToIndex_8c36e, cJ3_checkFromToIndex_8c36e, 4, some .int)
theorem k_J3_checkFromToIndex_8c36e : Cd MJ3_checkFromToIndex_8c36e ∈ wl := wl_3 8 rfl rfl
theorem n_J3_checkFromToIndex_8c36e : nMH MJ3_checkFromToIndex_8c36e 4 := ⟨⟨by decide +kernel, by decide +kernel⟩, by decide +kernel, by decide⟩
abbrev MJ2_putChar_b72d1 : Mr := (RJ2, yJ2_putChar_b72d1, cJ2_putChar_b72d1, 3, none)
theorem k_J2_putChar_b72d1 : Cd MJ2_putChar_b72d1 ∈ wl := wl_3 11 rfl rfl
theorem n_J2_putChar_b72d1 : nMH MJ2_putChar_b72d1 3 := ⟨⟨by decide +kernel, by decide +kernel⟩, by decide +kernel, by decide⟩
abbrev MJ5_putStringAt_47b60 : Mr := (RJ5, yJ5_putStringAt_47b60, cJ5_putStringAt_47b60, 3, none)
theorem k_J5_putStringAt_47b60 : Cd MJ5_putStringAt_47b60 ∈ wl := wl_3 16 rfl rfl
theorem n_J5_putStringAt_47b60 : nMH MJ5_putStringAt_47b60 2 := ⟨⟨by decide +kernel, by decide +kernel⟩, by decide +kernel, by decide⟩
abbrev MJ5_inflateIfNeededFor_a7421 : Mr := (RJ5, yJ5_inflateIfNeededFor_a7421, cJ5_inflateIfNeededFor_a7421, 2, none)
theorem k_J5_inflateIfNeededFor_a7421 : Cd MJ5_inflateIfNeededFor_a7421 ∈ wl := wl_3 20 rfl rfl
theorem n_J5_inflateIfNeededFor_a7421 : nMH MJ5_inflateIfNeededFor_a7421 1 := ⟨⟨by decide +kernel, by decide +kernel⟩, by decide +kernel, by decide⟩
abbrev MJ5_inflate_da8c8 : Mr := (RJ5, yJ5_inflate_da8c8, cJ5_inflate_da8c8, 2, none)
theorem k_J5_inflate_da8c8 : Cd MJ5_inflate_da8c8 ∈ wl := wl_3 25 rfl rfl
theorem n_J5_inflate_da8c8 : nMH MJ5_inflate_da8c8 0 := ⟨⟨by decide +kernel, by decide +kernel⟩, by decide +kernel, by decide⟩
abbrev MJ1_inflate_0e8fd : Mr := (RJ1, yJ1_inflate_0e8fd, cJ1_inflate_0e8fd, 5, none)
theorem k_J1_inflate_0e8fd : Cd MJ1_inflate_0e8fd ∈ wl := wl_3 28 rfl rfl
theorem n_J1_inflate_0e8fd : nMH MJ1_inflate_0e8fd 5 := ⟨⟨by decide +kernel, by decide +kernel⟩, by decide +kernel, by decide⟩
abbrev MJ2_inflate_0e8fd : Mr := (RJ2, yJ2_inflate_0e8fd, cJ2_inflate_0e8fd, 6, none)
theorem k_J2_inflate_0e8fd : Cd MJ2_inflate_0e8fd ∈ wl := wl_3 31 rfl rfl
theorem n_J2_inflate_0e8fd : nMH MJ2_inflate_0e8fd 5 := ⟨⟨by decide +kernel, by decide +kernel⟩, by decide +kernel, by decide⟩
abbrev MJ2_checkBoundsOffCount_d044e : Mr := (RJ2, yJ2_checkBoundsOffCount_d044e, cJ2_checkBoundsOffCount_d044e, 3, none)
theorem k_J2_checkBoundsOffCount_d044e : Cd MJ2_checkBoundsOffCount_d044e ∈ wl := wl_3 34 rfl rfl
theorem n_J2_checkBoundsOffCount_d044e : nMH MJ2_checkBoundsOffCount_d044e 3 := ⟨⟨by decide +kernel, by decide +kernel⟩, by decide +kernel, by decide⟩
abbrev MJ0_checkBoundsOffCount_cabcc : Mr := (RJ0, yJ0_checkBoundsOffCount_cabcc, cJ0_checkBoundsOffCount_cabcc, 3, some .int)
theorem k_J0_checkBoundsOffCount_cabcc : Cd MJ0_checkBoundsOffCount_cabcc ∈ wl := wl_3 37 rfl rfl
theorem n_J0_checkBoundsOffCount_cabcc : nMH MJ0_checkBoundsOffCount_cabcc 3 := ⟨⟨by decide +kernel, by decide +kernel⟩, by decide +kernel, by decide⟩
abbrev MJ3_checkFromIndexSize_8c36e : Mr := (RJ3, yJ3_checkFromIndexSize_8c36e, cJ3_checkFromIndexSize_8c36e, 4, some .int)
theorem k_J3_checkFromIndexSize_8c36e : Cd MJ3_checkFromIndexSize_8c36e ∈ wl := wl_3 40 rfl rfl
theorem n_J3_checkFromIndexSize_8c36e : nMH MJ3_checkFromIndexSize_8c36e 4 := ⟨⟨by decide +kernel, by decide +kernel⟩, by decide +kernel, by decide⟩
abbrev MJ0_getBytes_840e7 : Mr := (RJ0, yJ0_getBytes_840e7, cJ0_getBytes_840e7, 4, none)
theorem k_J0_getBytes_840e7 : Cd MJ0_getBytes_840e7 ∈ wl := wl_3 44 rfl rfl
theorem n_J0_getBytes_840e7 : nMH MJ0_getBytes_840e7 3 := ⟨⟨by decide +kernel, by decide +kernel⟩, by decide +kernel, by decide⟩
abbrev MJ4_append_bf812 : Mr := (RJ4, yJ4_append_bf812, cJ4_append_bf812, 2, some (.object "java/lang/StringBuilder"))
theorem k_J4_append_bf812 : Cd MJ4_append_bf812 ∈ wl := wl_3 50 rfl rfl
theorem n_J4_append_bf812 : nMH MJ4_append_bf812 1 := ⟨⟨by decide +kernel, by decide +kernel⟩, by decide +kernel, by decide⟩
abbrev MJ5_append_c97b9 : Mr := (RJ5, yJ5_append_c97b9, cJ5_append_c97b9, 4, some (.object "java/lang/AbstractStringBuilder"))
theorem k_J5_append_c97b9 : Cd MJ5_append_c97b9 ∈ wl := wl_3 53 rfl rfl
theorem n_J5_append_c97b9 : nMH MJ5_append_c97b9 1 := ⟨⟨by decide +kernel, by decide +kernel⟩, by decide +kernel, by decide⟩
abbrev MJ6_stringSize_0f7a4 : Mr := (RJ6, yJ6_stringSize_0f7a4, cJ6_stringSize_0f7a4, 4, some .int)
theorem k_J6_stringSize_0f7a4 : Cd MJ6_stringSize_0f7a4 ∈ wl := wl_3 56 rfl rfl
theorem n_J6_stringSize_0f7a4 : nMH MJ6_stringSize_0f7a4 1 := ⟨⟨by decide +kernel, by decide +kernel⟩, by decide +kernel, by decide⟩
abbrev MJ6_getChars_ba4f3 : Mr := (RJ6, yJ6_getChars_ba4f3, cJ6_getChars_ba4f3, 7, some .int)
theorem k_J6_getChars_ba4f3 : Cd MJ6_getChars_ba4f3 ∈ wl := wl_3 59 rfl rfl
theorem n_J6_getChars_ba4f3 : nMH MJ6_getChars_ba4f3 3 := ⟨⟨by decide +kernel, by decide +kernel⟩, by decide +kernel, by decide⟩
abbrev MJ2_getChars_46870 : Mr := (RJ2, yJ2_getChars_46870, cJ2_getChars_46870, 5, some .int)
theorem k_J2_getChars_46870 : Cd MJ2_getChars_46870 ∈ wl := wl_3 66 rfl rfl
theorem n_J2_getChars_46870 : nMH MJ2_getChars_46870 4 := ⟨⟨by decide +kernel, by decide +kernel⟩, by decide +kernel, by decide⟩
abbrev MJ2_getChars_ba4f3 : Mr := (RJ2, yJ2_getChars_ba4f3, cJ2_getChars_ba4f3, 7, some .int)
theorem k_J2_getChars_ba4f3 : Cd MJ2_getChars_ba4f3 ∈ wl := wl_3 69 rfl rfl
theorem n_J2_getChars_ba4f3 : nMH MJ2_getChars_ba4f3 3 := ⟨⟨by decide +kernel, by decide +kernel⟩, by decide +kernel, by decide⟩
abbrev MJ4_toString_0e30d : Mr := (RJ4, yJ4_toString_0e30d, cJ4_toString_0e30d, 1, some (.object "java/lang/String"))
theorem k_J4_toString_0e30d : Cd MJ4_toString_0e30d ∈ wl := wl_3 75 rfl rfl
theorem n_J4_toString_0e30d : nMH MJ4_toString_0e30d 0 := ⟨⟨by decide +kernel, by decide +kernel⟩, by decide +kernel, by decide⟩
abbrev MJ0_init_81219 : Mr := (RJ0, yJ0_init_81219, cJ0_init_81219, 2, none)
theorem k_J0_init_81219 : Cd MJ0_init_81219 ∈ wl := wl_3 80 rfl rfl
theorem n_J0_init_81219 : nMH MJ0_init_81219 1 := ⟨⟨by decide +kernel, by decide +kernel⟩, by decide +kernel, by decide⟩
abbrev MJ0_init_db425 : Mr := (RJ0, yJ0_init_db425, cJ0_init_db425, 5, none)
theorem k_J0_init_db425 : Cd MJ0_init_db425 ∈ wl := wl_3 83 rfl rfl
theorem n_J0_init_db425 : nMH MJ0_init_db425 2 := ⟨⟨by decide +kernel, by decide +kernel⟩, by decide +kernel, by decide⟩
abbrev MJ5_getValue_6d5f1 : Mr := (RJ5, yJ5_getValue_6d5f1, cJ5_getValue_6d5f1, 1, some (.array .byte))
theorem k_J5_getValue_6d5f1 : Cd MJ5_getValue_6d5f1 ∈ wl := wl_3 89 rfl rfl
theorem n_J5_getValue_6d5f1 : nMH MJ5_getValue_6d5f1 0 := ⟨⟨by decide +kernel, by decide +kernel⟩, by decide +kernel, by decide⟩
abbrev MJ4_length_8abf5 : Mr := (RJ4, yJ4_length_8abf5, cJ4_length_8abf5, 1, some .int)
theorem k_J4_length_8abf5 : Cd MJ4_length_8abf5 ∈ wl := wl_3 95 rfl rfl
theorem n_J4_length_8abf5 : nMH MJ4_length_8abf5 0 := ⟨⟨by decide +kernel, by decide +kernel⟩, by decide +kernel, by decide⟩
abbrev MJ5_length_8abf5 : Mr := (RJ5, yJ5_length_8abf5, cJ5_length_8abf5, 1, some .int)
theorem k_J5_length_8abf5 : Cd MJ5_length_8abf5 ∈ wl := wl_3 97 rfl rfl
theorem n_J5_length_8abf5 : nMH MJ5_length_8abf5 0 := ⟨⟨by decide +kernel, by decide +kernel⟩, by decide +kernel, by decide⟩
abbrev MJ7_copyOfRange_39247 : Mr := (RJ7, yJ7_copyOfRange_39247, cJ7_copyOfRange_39247, 3, some (.array .byte))
theorem k_J7_copyOfRange_39247 : Cd MJ7_copyOfRange_39247 ∈ wl := wl_3 101 rfl rfl
theorem n_J7_copyOfRange_39247 : nMH MJ7_copyOfRange_39247 3 := ⟨⟨by decide +kernel, by decide +kernel⟩, by decide +kernel, by decide⟩
abbrev MJ7_copyOfRangeByte_39247 : Mr := (RJ7, yJ7_copyOfRangeByte_39247, cJ7_copyOfRangeByte_39247, 5, some (.array .byte))
theorem k_J7_copyOfRangeByte_39247 : Cd MJ7_copyOfRangeByte_39247 ∈ wl := wl_3 104 rfl rfl
theorem n_J7_copyOfRangeByte_39247 : nMH MJ7_copyOfRangeByte_39247 3 := ⟨⟨by decide +kernel, by decide +kernel⟩, by decide +kernel, by decide⟩
abbrev MJ7_checkLength_df160 : Mr := (RJ7, yJ7_checkLength_df160, cJ7_checkLength_df160, 2, none)
theorem k_J7_checkLength_df160 : Cd MJ7_checkLength_df160 ∈ wl := wl_3 107 rfl rfl
theorem n_J7_checkLength_df160 : nMH MJ7_checkLength_df160 2 := ⟨⟨by decide +kernel, by decide +kernel⟩, by decide +kernel, by decide⟩
abbrev MJ2_compress_39247 : Mr := (RJ2, yJ2_compress_39247, cJ2_compress_39247, 6, some (.array .byte))
theorem k_J2_compress_39247 : Cd MJ2_compress_39247 ∈ wl := wl_3 185 rfl rfl
theorem n_J2_compress_39247 : nMH MJ2_compress_39247 3 := ⟨⟨by decide +kernel, by decide +kernel⟩, by decide +kernel, by decide⟩
abbrev MJ2_compress_5af95 : Mr := (RJ2, yJ2_compress_5af95, cJ2_compress_5af95, 7, some .int)
theorem k_J2_compress_5af95 : Cd MJ2_compress_5af95 ∈ wl := wl_3 188 rfl rfl
theorem n_J2_compress_5af95 : nMH MJ2_compress_5af95 5 := ⟨⟨by decide +kernel, by decide +kernel⟩, by decide +kernel, by decide⟩
abbrev MJ2_coderFromArrayLen_85cad : Mr := (RJ2, yJ2_coderFromArrayLen_85cad, cJ2_coderFromArrayLen_85cad, 2, some .byte)
theorem k_J2_coderFromArrayLen_85cad : Cd MJ2_coderFromArrayLen_85cad ∈ wl := wl_3 192 rfl rfl
theorem n_J2_coderFromArrayLen_85cad : nMH MJ2_coderFromArrayLen_85cad 2 := ⟨⟨by decide +kernel, by decide +kernel⟩, by decide +kernel, by decide⟩
abbrev MJ1_fillNull_b72d1 : Mr := (RJ1, yJ1_fillNull_b72d1, cJ1_fillNull_b72d1, 3, none)
theorem k_J1_fillNull_b72d1 : Cd MJ1_fillNull_b72d1 ∈ wl := wl_3 217 rfl rfl
theorem n_J1_fillNull_b72d1 : nMH MJ1_fillNull_b72d1 3 := ⟨⟨by decide +kernel, by decide +kernel⟩, by decide +kernel, by decide⟩
abbrev MJ7_fill_eb02e : Mr := (RJ7, yJ7_fill_eb02e, cJ7_fill_eb02e, 5, none)
theorem k_J7_fill_eb02e : Cd MJ7_fill_eb02e ∈ wl := wl_3 220 rfl rfl
theorem n_J7_fill_eb02e : nMH MJ7_fill_eb02e 4 := ⟨⟨by decide +kernel, by decide +kernel⟩, by decide +kernel, by decide⟩
abbrev MJ7_rangeCheck_23922 : Mr := (RJ7, yJ7_rangeCheck_23922, cJ7_rangeCheck_23922, 3, none)
theorem k_J7_rangeCheck_23922 : Cd MJ7_rangeCheck_23922 ∈ wl := wl_3 223 rfl rfl
theorem n_J7_rangeCheck_23922 : nMH MJ7_rangeCheck_23922 3 := ⟨⟨by decide +kernel, by decide +kernel⟩, by decide +kernel, by decide⟩
abbrev MJx00060_init_d00df : Mr := (RJx00060, yJx00060_init_d00df, cJx00060_init_d00df, 2, none)
theorem k_Jx00060_init_d00df : Cd MJx00060_init_d00df ∈ wl := wl_4 0 rfl rfl
theorem n_Jx00060_init_d00df : nMH MJx00060_init_d00df 1 := ⟨⟨by decide +kernel, by decide +kernel⟩, by decide +kernel, by decide⟩
abbrev MJ2_fillNull_b72d1 : Mr := (RJ2, yJ2_fillNull_b72d1, cJ2_fillNull_b72d1, 3, none)
theorem k_J2_fillNull_b72d1 : Cd MJ2_fillNull_b72d1 ∈ wl := wl_4 12 rfl rfl
theorem n_J2_fillNull_b72d1 : nMH MJ2_fillNull_b72d1 3 := ⟨⟨by decide +kernel, by decide +kernel⟩, by decide +kernel, by decide⟩
abbrev MJ4_append_cf468 : Mr := (RJ4, yJ4_append_cf468, cJ4_append_cf468, 2, some (.object "java/lang/StringBuilder"))
theorem k_J4_append_cf468 : Cd MJ4_append_cf468 ∈ wl := wl_4 17 rfl rfl
theorem n_J4_append_cf468 : nMH MJ4_append_cf468 1 := ⟨⟨by decide +kernel, by decide +kernel⟩, by decide +kernel, by decide⟩
abbrev MJ5_append_3fe6f : Mr := (RJ5, yJ5_append_3fe6f, cJ5_append_3fe6f, 2, some (.object "java/lang/AbstractStringBuilder"))
theorem k_J5_append_3fe6f : Cd MJ5_append_3fe6f ∈ wl := wl_4 20 rfl rfl
theorem n_J5_append_3fe6f : nMH MJ5_append_3fe6f 1 := ⟨⟨by decide +kernel, by decide +kernel⟩, by decide +kernel, by decide⟩
abbrev MJ1_canEncode_fc78d : Mr := (RJ1, yJ1_canEncode_fc78d, cJ1_canEncode_fc78d, 1, some .boolean)
theorem k_J1_canEncode_fc78d : Cd MJ1_canEncode_fc78d ∈ wl := wl_4 23 rfl rfl
theorem n_J1_canEncode_fc78d : nMH MJ1_canEncode_fc78d 1 := ⟨⟨by decide +kernel, by decide +kernel⟩, by decide +kernel, by decide⟩
abbrev MJ2_putCharSB_b72d1 : Mr := (RJ2, yJ2_putCharSB_b72d1, cJ2_putCharSB_b72d1, 3, none)
theorem k_J2_putCharSB_b72d1 : Cd MJ2_putCharSB_b72d1 ∈ wl := wl_4 26 rfl rfl
theorem n_J2_putCharSB_b72d1 : nMH MJ2_putCharSB_b72d1 3 := ⟨⟨by decide +kernel, by decide +kernel⟩, by decide +kernel, by decide⟩
abbrev MX4_readFloor : Mr := (RX4, yX4_readFloor, cX4_readFloor, 4, some .int)
theorem k_X4_readFloor : Cd MX4_readFloor ∈ wl := wl_4 31 rfl rfl
theorem n_X4_readFloor : nMH MX4_readFloor 1 := ⟨⟨by decide +kernel, by decide +kernel⟩, by decide +kernel, by decide⟩
abbrev MX2_isFullFor : Mr := (RX2, yX2_isFullFor, cX2_isFullFor, 5, some .boolean)
theorem k_X2_isFullFor : Cd MX2_isFullFor ∈ wl := wl_4 35 rfl rfl
theorem n_X2_isFullFor : nMH MX2_isFullFor 2 := ⟨⟨by decide +kernel, by decide +kernel⟩, by decide +kernel, by decide⟩
abbrev MX2_receive : Mr := (RX2, yX2_receive, cX2_receive, 6, some .int)
theorem k_X2_receive : Cd MX2_receive ∈ wl := wl_4 39 rfl rfl
theorem n_X2_receive : nMH MX2_receive 4 := ⟨⟨by decide +kernel, by decide +kernel⟩, by decide +kernel, by decide⟩
abbrev MX4_readPay : Mr := (RX4, yX4_readPay, cX4_readPay, 3, none)
theorem k_X4_readPay : Cd MX4_readPay ∈ wl := wl_4 45 rfl rfl
theorem n_X4_readPay : nMH MX4_readPay 0 := ⟨⟨by decide +kernel, by decide +kernel⟩, by decide +kernel, by decide⟩
abbrev MX4_readKnownName : Mr := (RX4, yX4_readKnownName, cX4_readKnownName, 2, some (.object "AccentHouse$Lodger"))
theorem k_X4_readKnownName : Cd MX4_readKnownName ∈ wl := wl_4 49 rfl rfl
theorem n_X4_readKnownName : nMH MX4_readKnownName 0 := ⟨⟨by decide +kernel, by decide +kernel⟩, by decide +kernel, by decide⟩
abbrev MX2_takePayment : Mr := (RX2, yX2_takePayment, cX2_takePayment, 3, none)
theorem k_X2_takePayment : Cd MX2_takePayment ∈ wl := wl_4 53 rfl rfl
theorem n_X2_takePayment : nMH MX2_takePayment 2 := ⟨⟨by decide +kernel, by decide +kernel⟩, by decide +kernel, by decide⟩
abbrev MX4_readMove : Mr := (RX4, yX4_readMove, cX4_readMove, 3, none)
theorem k_X4_readMove : Cd MX4_readMove ∈ wl := wl_4 58 rfl rfl
theorem n_X4_readMove : nMH MX4_readMove 0 := ⟨⟨by decide +kernel, by decide +kernel⟩, by decide +kernel, by decide⟩
abbrev MX4_readDays : Mr := (RX4, yX4_readDays, cX4_readDays, 3, none)
theorem k_X4_readDays : Cd MX4_readDays ∈ wl := wl_4 63 rfl rfl
theorem n_X4_readDays : nMH MX4_readDays 0 := ⟨⟨by decide +kernel, by decide +kernel⟩, by decide +kernel, by decide⟩
abbrev MX2_passDay : Mr := (RX2, yX2_passDay, cX2_passDay, 2, none)
theorem k_X2_passDay : Cd MX2_passDay ∈ wl := wl_4 67 rfl rfl
theorem n_X2_passDay : nMH MX2_passDay 0 := ⟨⟨by decide +kernel, by decide +kernel⟩, by decide +kernel, by decide⟩
abbrev MX2_collectRent : Mr := (RX2, yX2_collectRent, cX2_collectRent, 3, none)
theorem k_X2_collectRent : Cd MX2_collectRent ∈ wl := wl_4 71 rfl rfl
theorem n_X2_collectRent : nMH MX2_collectRent 0 := ⟨⟨by decide +kernel, by decide +kernel⟩, by decide +kernel, by decide⟩
abbrev MX2_dailyRent : Mr := (RX2, yX2_dailyRent, cX2_dailyRent, 2, some .int)
theorem k_X2_dailyRent : Cd MX2_dailyRent ∈ wl := wl_4 75 rfl rfl
theorem n_X2_dailyRent : nMH MX2_dailyRent 1 := ⟨⟨by decide +kernel, by decide +kernel⟩, by decide +kernel, by decide⟩
abbrev MX2_giveLessons : Mr := (RX2, yX2_giveLessons, cX2_giveLessons, 2, none)
theorem k_X2_giveLessons : Cd MX2_giveLessons ∈ wl := wl_4 79 rfl rfl
theorem n_X2_giveLessons : nMH MX2_giveLessons 0 := ⟨⟨by decide +kernel, by decide +kernel⟩, by decide +kernel, by decide⟩
abbrev MX0_approach : Mr := (RX0, yX0_approach, cX0_approach, 3, some .boolean)
theorem k_X0_approach : Cd MX0_approach ∈ wl := wl_4 83 rfl rfl
theorem n_X0_approach : nMH MX0_approach 1 := ⟨⟨by decide +kernel, by decide +kernel⟩, by decide +kernel, by decide⟩
abbrev MX0_farthestVowel : Mr := (RX0, yX0_farthestVowel, cX0_farthestVowel, 7, some .int)
theorem k_X0_farthestVowel : Cd MX0_farthestVowel ∈ wl := wl_4 87 rfl rfl
theorem n_X0_farthestVowel : nMH MX0_farthestVowel 1 := ⟨⟨by decide +kernel, by decide +kernel⟩, by decide +kernel, by decide⟩
abbrev MX2_serveDinner : Mr := (RX2, yX2_serveDinner, cX2_serveDinner, 3, none)
theorem k_X2_serveDinner : Cd MX2_serveDinner ∈ wl := wl_4 91 rfl rfl
theorem n_X2_serveDinner : nMH MX2_serveDinner 1 := ⟨⟨by decide +kernel, by decide +kernel⟩, by decide +kernel, by decide⟩
abbrev MX2_crowdOn : Mr := (RX2, yX2_crowdOn, cX2_crowdOn, 4, some .int)
theorem k_X2_crowdOn : Cd MX2_crowdOn ∈ wl := wl_4 95 rfl rfl
theorem n_X2_crowdOn : nMH MX2_crowdOn 1 := ⟨⟨by decide +kernel, by decide +kernel⟩, by decide +kernel, by decide⟩
abbrev MX2_computeAverage : Mr := (RX2, yX2_computeAverage, cX2_computeAverage, 3, none)
theorem k_X2_computeAverage : Cd MX2_computeAverage ∈ wl := wl_4 99 rfl rfl
theorem n_X2_computeAverage : nMH MX2_computeAverage 1 := ⟨⟨by decide +kernel, by decide +kernel⟩, by decide +kernel, by decide⟩
abbrev MX2_averagePosition : Mr := (RX2, yX2_averagePosition, cX2_averagePosition, 6, some .int)
theorem k_X2_averagePosition : Cd MX2_averagePosition ∈ wl := wl_4 103 rfl rfl
theorem n_X2_averagePosition : nMH MX2_averagePosition 2 := ⟨⟨by decide +kernel, by decide +kernel⟩, by decide +kernel, by decide⟩
abbrev MX2_inspect : Mr := (RX2, yX2_inspect, cX2_inspect, 2, none)
theorem k_X2_inspect : Cd MX2_inspect ∈ wl := wl_4 107 rfl rfl
theorem n_X2_inspect : nMH MX2_inspect 0 := ⟨⟨by decide +kernel, by decide +kernel⟩, by decide +kernel, by decide⟩
abbrev MX2_mustLeave : Mr := (RX2, yX2_mustLeave, cX2_mustLeave, 2, some .boolean)
theorem k_X2_mustLeave : Cd MX2_mustLeave ∈ wl := wl_4 111 rfl rfl
theorem n_X2_mustLeave : nMH MX2_mustLeave 1 := ⟨⟨by decide +kernel, by decide +kernel⟩, by decide +kernel, by decide⟩
abbrev MX0_distanceTo : Mr := (RX0, yX0_distanceTo, cX0_distanceTo, 5, some .int)
theorem k_X0_distanceTo : Cd MX0_distanceTo ∈ wl := wl_4 115 rfl rfl
theorem n_X0_distanceTo : nMH MX0_distanceTo 1 := ⟨⟨by decide +kernel, by decide +kernel⟩, by decide +kernel, by decide⟩
abbrev MX0_rhymesWith : Mr := (RX0, yX0_rhymesWith, cX0_rhymesWith, 4, some .boolean)
theorem k_X0_rhymesWith : Cd MX0_rhymesWith ∈ wl := wl_4 119 rfl rfl
theorem n_X0_rhymesWith : nMH MX0_rhymesWith 1 := ⟨⟨by decide +kernel, by decide +kernel⟩, by decide +kernel, by decide⟩
abbrev MX2_dismiss : Mr := (RX2, yX2_dismiss, cX2_dismiss, 4, none)
theorem k_X2_dismiss : Cd MX2_dismiss ∈ wl := wl_4 123 rfl rfl
theorem n_X2_dismiss : nMH MX2_dismiss 1 := ⟨⟨by decide +kernel, by decide +kernel⟩, by decide +kernel, by decide⟩
abbrev MX2_copyFrom : Mr := (RX2, yX2_copyFrom, cX2_copyFrom, 3, none)
theorem k_X2_copyFrom : Cd MX2_copyFrom ∈ wl := wl_4 128 rfl rfl
theorem n_X2_copyFrom : nMH MX2_copyFrom 1 := ⟨⟨by decide +kernel, by decide +kernel⟩, by decide +kernel, by decide⟩
abbrev MX0_copyFrom : Mr := (RX0, yX0_copyFrom, cX0_copyFrom, 2, none)
theorem k_X0_copyFrom : Cd MX0_copyFrom ∈ wl := wl_4 132 rfl rfl
theorem n_X0_copyFrom : nMH MX0_copyFrom 1 := ⟨⟨by decide +kernel, by decide +kernel⟩, by decide +kernel, by decide⟩
abbrev MX3_copyFrom : Mr := (RX3, yX3_copyFrom, cX3_copyFrom, 2, none)
theorem k_X3_copyFrom : Cd MX3_copyFrom ∈ wl := wl_4 137 rfl rfl
theorem n_X3_copyFrom : nMH MX3_copyFrom 1 := ⟨⟨by decide +kernel, by decide +kernel⟩, by decide +kernel, by decide⟩
abbrev MX7_errorKind : Mr := (RX7, yX7_errorKind, cX7_errorKind, 1, some .int)
theorem k_X7_errorKind : Cd MX7_errorKind ∈ wl := wl_4 176 rfl rfl
theorem n_X7_errorKind : nMH MX7_errorKind 0 := ⟨⟨by decide +kernel, by decide +kernel⟩, by decide +kernel, by decide⟩
abbrev MX7_errorOffset : Mr := (RX7, yX7_errorOffset, cX7_errorOffset, 1, some .int)
theorem k_X7_errorOffset : Cd MX7_errorOffset ∈ wl := wl_4 180 rfl rfl
theorem n_X7_errorOffset : nMH MX7_errorOffset 0 := ⟨⟨by decide +kernel, by decide +kernel⟩, by decide +kernel, by decide⟩
abbrev MX7_day : Mr := (RX7, yX7_day, cX7_day, 1, some .int)
theorem k_X7_day : Cd MX7_day ∈ wl := wl_4 184 rfl rfl
theorem n_X7_day : nMH MX7_day 0 := ⟨⟨by decide +kernel, by decide +kernel⟩, by decide +kernel, by decide⟩
abbrev MX7_lodgerCount : Mr := (RX7, yX7_lodgerCount, cX7_lodgerCount, 1, some .int)
theorem k_X7_lodgerCount : Cd MX7_lodgerCount ∈ wl := wl_4 188 rfl rfl
theorem n_X7_lodgerCount : nMH MX7_lodgerCount 0 := ⟨⟨by decide +kernel, by decide +kernel⟩, by decide +kernel, by decide⟩
abbrev MX7_baseRent : Mr := (RX7, yX7_baseRent, cX7_baseRent, 1, some .int)
theorem k_X7_baseRent : Cd MX7_baseRent ∈ wl := wl_4 192 rfl rfl
theorem n_X7_baseRent : nMH MX7_baseRent 0 := ⟨⟨by decide +kernel, by decide +kernel⟩, by decide +kernel, by decide⟩
abbrev MX7_tolerance : Mr := (RX7, yX7_tolerance, cX7_tolerance, 1, some .int)
theorem k_X7_tolerance : Cd MX7_tolerance ∈ wl := wl_4 196 rfl rfl
theorem n_X7_tolerance : nMH MX7_tolerance 0 := ⟨⟨by decide +kernel, by decide +kernel⟩, by decide +kernel, by decide⟩
abbrev MX7_daysToInspection : Mr := (RX7, yX7_daysToInspection, cX7_daysToInspection, 1, some .int)
theorem k_X7_daysToInspection : Cd MX7_daysToInspection ∈ wl := wl_4 200 rfl rfl
theorem n_X7_daysToInspection : nMH MX7_daysToInspection 0 := ⟨⟨by decide +kernel, by decide +kernel⟩, by decide +kernel, by decide⟩
abbrev MX7_evictions : Mr := (RX7, yX7_evictions, cX7_evictions, 1, some .int)
theorem k_X7_evictions : Cd MX7_evictions ∈ wl := wl_4 204 rfl rfl
theorem n_X7_evictions : nMH MX7_evictions 0 := ⟨⟨by decide +kernel, by decide +kernel⟩, by decide +kernel, by decide⟩
abbrev MX7_undoCount : Mr := (RX7, yX7_undoCount, cX7_undoCount, 1, some .int)
theorem k_X7_undoCount : Cd MX7_undoCount ∈ wl := wl_4 208 rfl rfl
theorem n_X7_undoCount : nMH MX7_undoCount 0 := ⟨⟨by decide +kernel, by decide +kernel⟩, by decide +kernel, by decide⟩
abbrev MX7_findByName : Mr := (RX7, yX7_findByName, cX7_findByName, 3, some .int)
theorem k_X7_findByName : Cd MX7_findByName ∈ wl := wl_4 212 rfl rfl
theorem n_X7_findByName : nMH MX7_findByName 0 := ⟨⟨by decide +kernel, by decide +kernel⟩, by decide +kernel, by decide⟩
abbrev MX7_meanDistance : Mr := (RX7, yX7_meanDistance, cX7_meanDistance, 3, some .double)
theorem k_X7_meanDistance : Cd MX7_meanDistance ∈ wl := wl_4 217 rfl rfl
theorem n_X7_meanDistance : nMH MX7_meanDistance 0 := ⟨⟨by decide +kernel, by decide +kernel⟩, by decide +kernel, by decide⟩
abbrev MX7_rhymingShare : Mr := (RX7, yX7_rhymingShare, cX7_rhymingShare, 3, some .float)
theorem k_X7_rhymingShare : Cd MX7_rhymingShare ∈ wl := wl_4 222 rfl rfl
theorem n_X7_rhymingShare : nMH MX7_rhymingShare 0 := ⟨⟨by decide +kernel, by decide +kernel⟩, by decide +kernel, by decide⟩
abbrev MX7_totalPaid : Mr := (RX7, yX7_totalPaid, cX7_totalPaid, 1, some .int)
theorem k_X7_totalPaid : Cd MX7_totalPaid ∈ wl := wl_4 227 rfl rfl
theorem n_X7_totalPaid : nMH MX7_totalPaid 0 := ⟨⟨by decide +kernel, by decide +kernel⟩, by decide +kernel, by decide⟩
abbrev MX7_totalCharged : Mr := (RX7, yX7_totalCharged, cX7_totalCharged, 1, some .int)
theorem k_X7_totalCharged : Cd MX7_totalCharged ∈ wl := wl_4 231 rfl rfl
theorem n_X7_totalCharged : nMH MX7_totalCharged 0 := ⟨⟨by decide +kernel, by decide +kernel⟩, by decide +kernel, by decide⟩
abbrev MX7_settled : Mr := (RX7, yX7_settled, cX7_settled, 1, some .int)
theorem k_X7_settled : Cd MX7_settled ∈ wl := wl_4 235 rfl rfl
theorem n_X7_settled : nMH MX7_settled 0 := ⟨⟨by decide +kernel, by decide +kernel⟩, by decide +kernel, by decide⟩
abbrev MX7_ledgerDifference : Mr := (RX7, yX7_ledgerDifference, cX7_ledgerDifference, 3, some .int)
theorem k_X7_ledgerDifference : Cd MX7_ledgerDifference ∈ wl := wl_4 239 rfl rfl
theorem n_X7_ledgerDifference : nMH MX7_ledgerDifference 0 := ⟨⟨by decide +kernel, by decide +kernel⟩, by decide +kernel, by decide⟩
abbrev MX7_append : Mr := (RX7, yX7_append, cX7_append, 6, some .int)
theorem k_X7_append : Cd MX7_append ∈ wl := wl_5 7 rfl rfl
theorem n_X7_append : nMH MX7_append 5 := ⟨⟨by decide +kernel, by decide +kernel⟩, by decide +kernel, by decide⟩
abbrev MX7_appendWord : Mr := (RX7, yX7_appendWord, cX7_appendWord, 3, none)
theorem k_X7_appendWord : Cd MX7_appendWord ∈ wl := wl_5 27 rfl rfl
theorem n_X7_appendWord : nMH MX7_appendWord 1 := ⟨⟨by decide +kernel, by decide +kernel⟩, by decide +kernel, by decide⟩
abbrev MX7_load : Mr := (RX7, yX7_load, cX7_load, 3, some .int)
theorem k_X7_load : Cd MX7_load ∈ wl := wl_5 36 rfl rfl
theorem n_X7_load : nMH MX7_load 1 := ⟨⟨by decide +kernel, by decide +kernel⟩, by decide +kernel, by decide⟩
abbrev MX1_clear : Mr := (RX1, yX1_clear, cX1_clear, 1, none)
theorem k_X1_clear : Cd MX1_clear ∈ wl := wl_5 56 rfl rfl
theorem n_X1_clear : nMH MX1_clear 0 := ⟨⟨by decide +kernel, by decide +kernel⟩, by decide +kernel, by decide⟩
abbrev MX7_rentOf : Mr := (RX7, yX7_rentOf, cX7_rentOf, 2, some .int)
theorem k_X7_rentOf : Cd MX7_rentOf ∈ wl := wl_5 63 rfl rfl
theorem n_X7_rentOf : nMH MX7_rentOf 1 := ⟨⟨by decide +kernel, by decide +kernel⟩, by decide +kernel, by decide⟩
abbrev MX7_requireFloor : Mr := (RX7, yX7_requireFloor, cX7_requireFloor, 2, none)
theorem k_X7_requireFloor : Cd MX7_requireFloor ∈ wl := wl_5 67 rfl rfl
theorem n_X7_requireFloor : nMH MX7_requireFloor 1 := ⟨⟨by decide +kernel, by decide +kernel⟩, by decide +kernel, by decide⟩
abbrev MX7_landladyVowel : Mr := (RX7, yX7_landladyVowel, cX7_landladyVowel, 2, some .int)
theorem k_X7_landladyVowel : Cd MX7_landladyVowel ∈ wl := wl_5 76 rfl rfl
theorem n_X7_landladyVowel : nMH MX7_landladyVowel 1 := ⟨⟨by decide +kernel, by decide +kernel⟩, by decide +kernel, by decide⟩
abbrev MX7_requireVowel : Mr := (RX7, yX7_requireVowel, cX7_requireVowel, 2, none)
theorem k_X7_requireVowel : Cd MX7_requireVowel ∈ wl := wl_5 80 rfl rfl
theorem n_X7_requireVowel : nMH MX7_requireVowel 1 := ⟨⟨by decide +kernel, by decide +kernel⟩, by decide +kernel, by decide⟩
abbrev MX7_floorOf : Mr := (RX7, yX7_floorOf, cX7_floorOf, 2, some .int)
theorem k_X7_floorOf : Cd MX7_floorOf ∈ wl := wl_5 88 rfl rfl
theorem n_X7_floorOf : nMH MX7_floorOf 1 := ⟨⟨by decide +kernel, by decide +kernel⟩, by decide +kernel, by decide⟩
abbrev MX7_requireLodger : Mr := (RX7, yX7_requireLodger, cX7_requireLodger, 2, some (.object "AccentHouse$Lodger"))
theorem k_X7_requireLodger : Cd MX7_requireLodger ∈ wl := wl_5 92 rfl rfl
theorem n_X7_requireLodger : nMH MX7_requireLodger 1 := ⟨⟨by decide +kernel, by decide +kernel⟩, by decide +kernel, by decide⟩
abbrev MX7_balanceOf : Mr := (RX7, yX7_balanceOf, cX7_balanceOf, 2, some .int)
theorem k_X7_balanceOf : Cd MX7_balanceOf ∈ wl := wl_5 100 rfl rfl
theorem n_X7_balanceOf : nMH MX7_balanceOf 1 := ⟨⟨by decide +kernel, by decide +kernel⟩, by decide +kernel, by decide⟩
abbrev MX7_vowelOf : Mr := (RX7, yX7_vowelOf, cX7_vowelOf, 4, some .int)
theorem k_X7_vowelOf : Cd MX7_vowelOf ∈ wl := wl_5 107 rfl rfl
theorem n_X7_vowelOf : nMH MX7_vowelOf 2 := ⟨⟨by decide +kernel, by decide +kernel⟩, by decide +kernel, by decide⟩
abbrev MX7_lessonsOf : Mr := (RX7, yX7_lessonsOf, cX7_lessonsOf, 2, some .int)
theorem k_X7_lessonsOf : Cd MX7_lessonsOf ∈ wl := wl_5 114 rfl rfl
theorem n_X7_lessonsOf : nMH MX7_lessonsOf 1 := ⟨⟨by decide +kernel, by decide +kernel⟩, by decide +kernel, by decide⟩
abbrev MX7_slipsOf : Mr := (RX7, yX7_slipsOf, cX7_slipsOf, 2, some .int)
theorem k_X7_slipsOf : Cd MX7_slipsOf ∈ wl := wl_5 121 rfl rfl
theorem n_X7_slipsOf : nMH MX7_slipsOf 1 := ⟨⟨by decide +kernel, by decide +kernel⟩, by decide +kernel, by decide⟩
abbrev MX7_daysStayed : Mr := (RX7, yX7_daysStayed, cX7_daysStayed, 2, some .int)
theorem k_X7_daysStayed : Cd MX7_daysStayed ∈ wl := wl_5 128 rfl rfl
theorem n_X7_daysStayed : nMH MX7_daysStayed 1 := ⟨⟨by decide +kernel, by decide +kernel⟩, by decide +kernel, by decide⟩
abbrev MX7_nameLength : Mr := (RX7, yX7_nameLength, cX7_nameLength, 2, some .int)
theorem k_X7_nameLength : Cd MX7_nameLength ∈ wl := wl_5 135 rfl rfl
theorem n_X7_nameLength : nMH MX7_nameLength 1 := ⟨⟨by decide +kernel, by decide +kernel⟩, by decide +kernel, by decide⟩
abbrev MX7_nameLetter : Mr := (RX7, yX7_nameLetter, cX7_nameLetter, 4, some .char)
theorem k_X7_nameLetter : Cd MX7_nameLetter ∈ wl := wl_5 142 rfl rfl
theorem n_X7_nameLetter : nMH MX7_nameLetter 2 := ⟨⟨by decide +kernel, by decide +kernel⟩, by decide +kernel, by decide⟩
abbrev MX7_lodgersOn : Mr := (RX7, yX7_lodgersOn, cX7_lodgersOn, 2, some .int)
theorem k_X7_lodgersOn : Cd MX7_lodgersOn ∈ wl := wl_5 150 rfl rfl
theorem n_X7_lodgersOn : nMH MX7_lodgersOn 1 := ⟨⟨by decide +kernel, by decide +kernel⟩, by decide +kernel, by decide⟩
abbrev MX7_lodgerOn : Mr := (RX7, yX7_lodgerOn, cX7_lodgerOn, 4, some .int)
theorem k_X7_lodgerOn : Cd MX7_lodgerOn ∈ wl := wl_5 158 rfl rfl
theorem n_X7_lodgerOn : nMH MX7_lodgerOn 2 := ⟨⟨by decide +kernel, by decide +kernel⟩, by decide +kernel, by decide⟩
abbrev MX2_numberAt : Mr := (RX2, yX2_numberAt, cX2_numberAt, 5, some .int)
theorem k_X2_numberAt : Cd MX2_numberAt ∈ wl := wl_5 162 rfl rfl
theorem n_X2_numberAt : nMH MX2_numberAt 2 := ⟨⟨by decide +kernel, by decide +kernel⟩, by decide +kernel, by decide⟩
abbrev MX7_averageVowel : Mr := (RX7, yX7_averageVowel, cX7_averageVowel, 3, some .int)
theorem k_X7_averageVowel : Cd MX7_averageVowel ∈ wl := wl_5 170 rfl rfl
theorem n_X7_averageVowel : nMH MX7_averageVowel 2 := ⟨⟨by decide +kernel, by decide +kernel⟩, by decide +kernel, by decide⟩
abbrev MX7_distanceToLandlady : Mr := (RX7, yX7_distanceToLandlady, cX7_distanceToLandlady, 2, some .int)
theorem k_X7_distanceToLandlady : Cd MX7_distanceToLandlady ∈ wl := wl_5 179 rfl rfl
theorem n_X7_distanceToLandlady : nMH MX7_distanceToLandlady 1 := ⟨⟨by decide +kernel, by decide +kernel⟩, by decide +kernel, by decide⟩
abbrev MX7_distance : Mr := (RX7, yX7_distance, cX7_distance, 5, some .int)
theorem k_X7_distance : Cd MX7_distance ∈ wl := wl_5 186 rfl rfl
theorem n_X7_distance : nMH MX7_distance 2 := ⟨⟨by decide +kernel, by decide +kernel⟩, by decide +kernel, by decide⟩
abbrev MX7_rhymes : Mr := (RX7, yX7_rhymes, cX7_rhymes, 5, some .boolean)
theorem k_X7_rhymes : Cd MX7_rhymes ∈ wl := wl_5 193 rfl rfl
theorem n_X7_rhymes : nMH MX7_rhymes 2 := ⟨⟨by decide +kernel, by decide +kernel⟩, by decide +kernel, by decide⟩
abbrev MX7_rhymesWithLandlady : Mr := (RX7, yX7_rhymesWithLandlady, cX7_rhymesWithLandlady, 2, some .boolean)
theorem k_X7_rhymesWithLandlady : Cd MX7_rhymesWithLandlady ∈ wl := wl_5 200 rfl rfl
theorem n_X7_rhymesWithLandlady : nMH MX7_rhymesWithLandlady 1 := ⟨⟨by decide +kernel, by decide +kernel⟩, by decide +kernel, by decide⟩
abbrev MX7_rhymeCount : Mr := (RX7, yX7_rhymeCount, cX7_rhymeCount, 5, some .int)
theorem k_X7_rhymeCount : Cd MX7_rhymeCount ∈ wl := wl_5 207 rfl rfl
theorem n_X7_rhymeCount : nMH MX7_rhymeCount 1 := ⟨⟨by decide +kernel, by decide +kernel⟩, by decide +kernel, by decide⟩
abbrev MX7_closestTo : Mr := (RX7, yX7_closestTo, cX7_closestTo, 7, some .int)
theorem k_X7_closestTo : Cd MX7_closestTo ∈ wl := wl_5 214 rfl rfl
theorem n_X7_closestTo : nMH MX7_closestTo 1 := ⟨⟨by decide +kernel, by decide +kernel⟩, by decide +kernel, by decide⟩
abbrev MX7_lessonVowel : Mr := (RX7, yX7_lessonVowel, cX7_lessonVowel, 2, some .int)
theorem k_X7_lessonVowel : Cd MX7_lessonVowel ∈ wl := wl_5 221 rfl rfl
theorem n_X7_lessonVowel : nMH MX7_lessonVowel 1 := ⟨⟨by decide +kernel, by decide +kernel⟩, by decide +kernel, by decide⟩
abbrev MX7_slipVowel : Mr := (RX7, yX7_slipVowel, cX7_slipVowel, 3, some .int)
theorem k_X7_slipVowel : Cd MX7_slipVowel ∈ wl := wl_5 229 rfl rfl
theorem n_X7_slipVowel : nMH MX7_slipVowel 1 := ⟨⟨by decide +kernel, by decide +kernel⟩, by decide +kernel, by decide⟩
abbrev MX7_mustGo : Mr := (RX7, yX7_mustGo, cX7_mustGo, 2, some .boolean)
theorem k_X7_mustGo : Cd MX7_mustGo ∈ wl := wl_5 237 rfl rfl
theorem n_X7_mustGo : nMH MX7_mustGo 1 := ⟨⟨by decide +kernel, by decide +kernel⟩, by decide +kernel, by decide⟩
abbrev MX7_balanceAfter : Mr := (RX7, yX7_balanceAfter, cX7_balanceAfter, 4, some .int)
theorem k_X7_balanceAfter : Cd MX7_balanceAfter ∈ wl := wl_6 5 rfl rfl
theorem n_X7_balanceAfter : nMH MX7_balanceAfter 2 := ⟨⟨by decide +kernel, by decide +kernel⟩, by decide +kernel, by decide⟩
abbrev MX7_requireRange : Mr := (RX7, yX7_requireRange, cX7_requireRange, 4, none)
theorem k_X7_requireRange : Cd MX7_requireRange ∈ wl := wl_6 9 rfl rfl
theorem n_X7_requireRange : nMH MX7_requireRange 3 := ⟨⟨by decide +kernel, by decide +kernel⟩, by decide +kernel, by decide⟩
abbrev MX7_startTrial : Mr := (RX7, yX7_startTrial, cX7_startTrial, 2, some (.object "AccentHouse$Lodger"))
theorem k_X7_startTrial : Cd MX7_startTrial ∈ wl := wl_6 14 rfl rfl
theorem n_X7_startTrial : nMH MX7_startTrial 1 := ⟨⟨by decide +kernel, by decide +kernel⟩, by decide +kernel, by decide⟩
abbrev MX7_runTrial : Mr := (RX7, yX7_runTrial, cX7_runTrial, 4, some .int)
theorem k_X7_runTrial : Cd MX7_runTrial ∈ wl := wl_6 18 rfl rfl
theorem n_X7_runTrial : nMH MX7_runTrial 2 := ⟨⟨by decide +kernel, by decide +kernel⟩, by decide +kernel, by decide⟩
abbrev MX2_houses : Mr := (RX2, yX2_houses, cX2_houses, 3, some .boolean)
theorem k_X2_houses : Cd MX2_houses ∈ wl := wl_6 23 rfl rfl
theorem n_X2_houses : nMH MX2_houses 1 := ⟨⟨by decide +kernel, by decide +kernel⟩, by decide +kernel, by decide⟩
abbrev MX7_distanceAfter : Mr := (RX7, yX7_distanceAfter, cX7_distanceAfter, 5, some .int)
theorem k_X7_distanceAfter : Cd MX7_distanceAfter ∈ wl := wl_6 30 rfl rfl
theorem n_X7_distanceAfter : nMH MX7_distanceAfter 2 := ⟨⟨by decide +kernel, by decide +kernel⟩, by decide +kernel, by decide⟩
abbrev MX7_daysToEviction : Mr := (RX7, yX7_daysToEviction, cX7_daysToEviction, 2, some .int)
theorem k_X7_daysToEviction : Cd MX7_daysToEviction ∈ wl := wl_6 37 rfl rfl
theorem n_X7_daysToEviction : nMH MX7_daysToEviction 1 := ⟨⟨by decide +kernel, by decide +kernel⟩, by decide +kernel, by decide⟩
abbrev MX7_paymentToStay : Mr := (RX7, yX7_paymentToStay, cX7_paymentToStay, 6, some .int)
theorem k_X7_paymentToStay : Cd MX7_paymentToStay ∈ wl := wl_6 44 rfl rfl
theorem n_X7_paymentToStay : nMH MX7_paymentToStay 1 := ⟨⟨by decide +kernel, by decide +kernel⟩, by decide +kernel, by decide⟩
abbrev MX7_staysWith : Mr := (RX7, yX7_staysWith, cX7_staysWith, 4, some .boolean)
theorem k_X7_staysWith : Cd MX7_staysWith ∈ wl := wl_6 48 rfl rfl
theorem n_X7_staysWith : nMH MX7_staysWith 2 := ⟨⟨by decide +kernel, by decide +kernel⟩, by decide +kernel, by decide⟩
abbrev MX7_advance : Mr := (RX7, yX7_advance, cX7_advance, 4, some .int)
theorem k_X7_advance : Cd MX7_advance ∈ wl := wl_6 56 rfl rfl
theorem n_X7_advance : nMH MX7_advance 1 := ⟨⟨by decide +kernel, by decide +kernel⟩, by decide +kernel, by decide⟩
abbrev MX1_remember : Mr := (RX1, yX1_remember, cX1_remember, 2, none)
theorem k_X1_remember : Cd MX1_remember ∈ wl := wl_6 61 rfl rfl
theorem n_X1_remember : nMH MX1_remember 1 := ⟨⟨by decide +kernel, by decide +kernel⟩, by decide +kernel, by decide⟩
abbrev MX7_moveIn : Mr := (RX7, yX7_moveIn, cX7_moveIn, 4, some .int)
theorem k_X7_moveIn : Cd MX7_moveIn ∈ wl := wl_6 69 rfl rfl
theorem n_X7_moveIn : nMH MX7_moveIn 3 := ⟨⟨by decide +kernel, by decide +kernel⟩, by decide +kernel, by decide⟩
abbrev MX7_requirePlace : Mr := (RX7, yX7_requirePlace, cX7_requirePlace, 3, none)
theorem k_X7_requirePlace : Cd MX7_requirePlace ∈ wl := wl_6 75 rfl rfl
theorem n_X7_requirePlace : nMH MX7_requirePlace 2 := ⟨⟨by decide +kernel, by decide +kernel⟩, by decide +kernel, by decide⟩
abbrev MX2_unusedLetter : Mr := (RX2, yX2_unusedLetter, cX2_unusedLetter, 2, some (.object "java/lang/String"))
theorem k_X2_unusedLetter : Cd MX2_unusedLetter ∈ wl := wl_6 81 rfl rfl
theorem n_X2_unusedLetter : nMH MX2_unusedLetter 0 := ⟨⟨by decide +kernel, by decide +kernel⟩, by decide +kernel, by decide⟩
abbrev MX2_hasLetterName : Mr := (RX2, yX2_hasLetterName, cX2_hasLetterName, 4, some .boolean)
theorem k_X2_hasLetterName : Cd MX2_hasLetterName ∈ wl := wl_6 88 rfl rfl
theorem n_X2_hasLetterName : nMH MX2_hasLetterName 1 := ⟨⟨by decide +kernel, by decide +kernel⟩, by decide +kernel, by decide⟩
abbrev MJ0_substring_37a41 : Mr := (RJ0, yJ0_substring_37a41, cJ0_substring_37a41, 5, some (.object "java/lang/String"))
theorem k_J0_substring_37a41 : Cd MJ0_substring_37a41 ∈ wl := wl_6 92 rfl rfl
theorem n_J0_substring_37a41 : nMH MJ0_substring_37a41 2 := ⟨⟨by decide +kernel, by decide +kernel⟩, by decide +kernel, by decide⟩
abbrev MJ1_newString_b4f7a : Mr := (RJ1, yJ1_newString_b4f7a, cJ1_newString_b4f7a, 3, some (.object "java/lang/String"))
theorem k_J1_newString_b4f7a : Cd MJ1_newString_b4f7a ∈ wl := wl_6 97 rfl rfl
theorem n_J1_newString_b4f7a : nMH MJ1_newString_b4f7a 3 := ⟨⟨by decide +kernel, by decide +kernel⟩, by decide +kernel, by decide⟩
abbrev MJ0_init_031fb : Mr := (RJ0, yJ0_init_031fb, cJ0_init_031fb, 3, none)
theorem k_J0_init_031fb : Cd MJ0_init_031fb ∈ wl := wl_6 103 rfl rfl
theorem n_J0_init_031fb : nMH MJ0_init_031fb 2 := ⟨⟨by decide +kernel, by decide +kernel⟩, by decide +kernel, by decide⟩
abbrev MJ2_newString_b4f7a : Mr := (RJ2, yJ2_newString_b4f7a, cJ2_newString_b4f7a, 5, some (.object "java/lang/String"))
theorem k_J2_newString_b4f7a : Cd MJ2_newString_b4f7a ∈ wl := wl_6 106 rfl rfl
theorem n_J2_newString_b4f7a : nMH MJ2_newString_b4f7a 3 := ⟨⟨by decide +kernel, by decide +kernel⟩, by decide +kernel, by decide⟩
abbrev MX7_moveOut : Mr := (RX7, yX7_moveOut, cX7_moveOut, 3, some .int)
theorem k_X7_moveOut : Cd MX7_moveOut ∈ wl := wl_6 121 rfl rfl
theorem n_X7_moveOut : nMH MX7_moveOut 1 := ⟨⟨by decide +kernel, by decide +kernel⟩, by decide +kernel, by decide⟩
abbrev MX7_moveTo : Mr := (RX7, yX7_moveTo, cX7_moveTo, 5, some .int)
theorem k_X7_moveTo : Cd MX7_moveTo ∈ wl := wl_6 129 rfl rfl
theorem n_X7_moveTo : nMH MX7_moveTo 2 := ⟨⟨by decide +kernel, by decide +kernel⟩, by decide +kernel, by decide⟩
abbrev MX7_pay : Mr := (RX7, yX7_pay, cX7_pay, 4, some .int)
theorem k_X7_pay : Cd MX7_pay ∈ wl := wl_6 136 rfl rfl
theorem n_X7_pay : nMH MX7_pay 2 := ⟨⟨by decide +kernel, by decide +kernel⟩, by decide +kernel, by decide⟩
abbrev MX7_setLandladyVowel : Mr := (RX7, yX7_setLandladyVowel, cX7_setLandladyVowel, 4, some .int)
theorem k_X7_setLandladyVowel : Cd MX7_setLandladyVowel ∈ wl := wl_6 144 rfl rfl
theorem n_X7_setLandladyVowel : nMH MX7_setLandladyVowel 2 := ⟨⟨by decide +kernel, by decide +kernel⟩, by decide +kernel, by decide⟩
abbrev MX7_setTolerance : Mr := (RX7, yX7_setTolerance, cX7_setTolerance, 3, some .int)
theorem k_X7_setTolerance : Cd MX7_setTolerance ∈ wl := wl_6 151 rfl rfl
theorem n_X7_setTolerance : nMH MX7_setTolerance 1 := ⟨⟨by decide +kernel, by decide +kernel⟩, by decide +kernel, by decide⟩
abbrev MX7_setBaseRent : Mr := (RX7, yX7_setBaseRent, cX7_setBaseRent, 3, some .int)
theorem k_X7_setBaseRent : Cd MX7_setBaseRent ∈ wl := wl_6 158 rfl rfl
theorem n_X7_setBaseRent : nMH MX7_setBaseRent 1 := ⟨⟨by decide +kernel, by decide +kernel⟩, by decide +kernel, by decide⟩
abbrev MX7_restore : Mr := (RX7, yX7_restore, cX7_restore, 2, some .int)
theorem k_X7_restore : Cd MX7_restore ∈ wl := wl_6 165 rfl rfl
theorem n_X7_restore : nMH MX7_restore 1 := ⟨⟨by decide +kernel, by decide +kernel⟩, by decide +kernel, by decide⟩
abbrev MX7_requireSlot : Mr := (RX7, yX7_requireSlot, cX7_requireSlot, 2, none)
theorem k_X7_requireSlot : Cd MX7_requireSlot ∈ wl := wl_6 169 rfl rfl
theorem n_X7_requireSlot : nMH MX7_requireSlot 1 := ⟨⟨by decide +kernel, by decide +kernel⟩, by decide +kernel, by decide⟩
abbrev MX7_undo : Mr := (RX7, yX7_undo, cX7_undo, 1, some .int)
theorem k_X7_undo : Cd MX7_undo ∈ wl := wl_6 178 rfl rfl
theorem n_X7_undo : nMH MX7_undo 0 := ⟨⟨by decide +kernel, by decide +kernel⟩, by decide +kernel, by decide⟩
abbrev MX1_takeBack : Mr := (RX1, yX1_takeBack, cX1_takeBack, 2, none)
theorem k_X1_takeBack : Cd MX1_takeBack ∈ wl := wl_6 183 rfl rfl
theorem n_X1_takeBack : nMH MX1_takeBack 1 := ⟨⟨by decide +kernel, by decide +kernel⟩, by decide +kernel, by decide⟩
abbrev MX7_save : Mr := (RX7, yX7_save, cX7_save, 2, some .int)
theorem k_X7_save : Cd MX7_save ∈ wl := wl_6 190 rfl rfl
theorem n_X7_save : nMH MX7_save 1 := ⟨⟨by decide +kernel, by decide +kernel⟩, by decide +kernel, by decide⟩
abbrev MX7_writeLodger : Mr := (RX7, yX7_writeLodger, cX7_writeLodger, 4, some .int)
theorem k_X7_writeLodger : Cd MX7_writeLodger ∈ wl := wl_6 197 rfl rfl
theorem n_X7_writeLodger : nMH MX7_writeLodger 1 := ⟨⟨by decide +kernel, by decide +kernel⟩, by decide +kernel, by decide⟩
abbrev MX7_writeFloor : Mr := (RX7, yX7_writeFloor, cX7_writeFloor, 3, some .int)
theorem k_X7_writeFloor : Cd MX7_writeFloor ∈ wl := wl_6 209 rfl rfl
theorem n_X7_writeFloor : nMH MX7_writeFloor 1 := ⟨⟨by decide +kernel, by decide +kernel⟩, by decide +kernel, by decide⟩
abbrev MX7_outputCharacter : Mr := (RX7, yX7_outputCharacter, cX7_outputCharacter, 2, some .char)
theorem k_X7_outputCharacter : Cd MX7_outputCharacter ∈ wl := wl_6 216 rfl rfl
theorem n_X7_outputCharacter : nMH MX7_outputCharacter 1 := ⟨⟨by decide +kernel, by decide +kernel⟩, by decide +kernel, by decide⟩
abbrev MJ4_charAt_5068e : Mr := (RJ4, yJ4_charAt_5068e, cJ4_charAt_5068e, 2, some .char)
theorem k_J4_charAt_5068e : Cd MJ4_charAt_5068e ∈ wl := wl_6 221 rfl rfl
theorem n_J4_charAt_5068e : nMH MJ4_charAt_5068e 1 := ⟨⟨by decide +kernel, by decide +kernel⟩, by decide +kernel, by decide⟩
abbrev MJ5_charAt_5068e : Mr := (RJ5, yJ5_charAt_5068e, cJ5_charAt_5068e, 5, some .char)
theorem k_J5_charAt_5068e : Cd MJ5_charAt_5068e ∈ wl := wl_6 224 rfl rfl
theorem n_J5_charAt_5068e : nMH MJ5_charAt_5068e 1 := ⟨⟨by decide +kernel, by decide +kernel⟩, by decide +kernel, by decide⟩
abbrev MX8_init : Mr := (RX8, yX8_init, cX8_init, 3, none)
theorem k_X8_init : Cd MX8_init ∈ wl := wl_6 232 rfl rfl
theorem n_X8_init : nMH MX8_init 0 := ⟨⟨by decide +kernel, by decide +kernel⟩, by decide +kernel, by decide⟩
abbrev MX8_comes : Mr := (RX8, yX8_comes, cX8_comes, 7, none)
theorem k_X8_comes : Cd MX8_comes ∈ wl := wl_7 0 rfl rfl
theorem n_X8_comes : nMH MX8_comes 3 := ⟨⟨by decide +kernel, by decide +kernel⟩, by decide +kernel, by decide⟩
abbrev MX8_l : Mr := (RX8, yX8_l, cX8_l, 1, some .int)
theorem k_X8_l : Cd MX8_l ∈ wl := wl_7 3 rfl rfl
theorem n_X8_l : nMH MX8_l 1 := ⟨⟨by decide +kernel, by decide +kernel⟩, by decide +kernel, by decide⟩
abbrev MX8_passesDay : Mr := (RX8, yX8_passesDay, cX8_passesDay, 2, none)
theorem k_X8_passesDay : Cd MX8_passesDay ∈ wl := wl_7 7 rfl rfl
theorem n_X8_passesDay : nMH MX8_passesDay 0 := ⟨⟨by decide +kernel, by decide +kernel⟩, by decide +kernel, by decide⟩
abbrev MX8_charges : Mr := (RX8, yX8_charges, cX8_charges, 3, none)
theorem k_X8_charges : Cd MX8_charges ∈ wl := wl_7 11 rfl rfl
theorem n_X8_charges : nMH MX8_charges 1 := ⟨⟨by decide +kernel, by decide +kernel⟩, by decide +kernel, by decide⟩
abbrev MX8_rentAt : Mr := (RX8, yX8_rentAt, cX8_rentAt, 2, some .int)
theorem k_X8_rentAt : Cd MX8_rentAt ∈ wl := wl_7 15 rfl rfl
theorem n_X8_rentAt : nMH MX8_rentAt 1 := ⟨⟨by decide +kernel, by decide +kernel⟩, by decide +kernel, by decide⟩
abbrev MX8_teaches : Mr := (RX8, yX8_teaches, cX8_teaches, 3, none)
theorem k_X8_teaches : Cd MX8_teaches ∈ wl := wl_7 19 rfl rfl
theorem n_X8_teaches : nMH MX8_teaches 1 := ⟨⟨by decide +kernel, by decide +kernel⟩, by decide +kernel, by decide⟩
abbrev MX8_lessonFor : Mr := (RX8, yX8_lessonFor, cX8_lessonFor, 6, some .int)
theorem k_X8_lessonFor : Cd MX8_lessonFor ∈ wl := wl_7 23 rfl rfl
theorem n_X8_lessonFor : nMH MX8_lessonFor 1 := ⟨⟨by decide +kernel, by decide +kernel⟩, by decide +kernel, by decide⟩
abbrev MX8_at : Mr := (RX8, yX8_at, cX8_at, 3, some .int)
theorem k_X8_at : Cd MX8_at ∈ wl := wl_7 27 rfl rfl
theorem n_X8_at : nMH MX8_at 2 := ⟨⟨by decide +kernel, by decide +kernel⟩, by decide +kernel, by decide⟩
abbrev MX8_without : Mr := (RX8, yX8_without, cX8_without, 1, some .int)
theorem k_X8_without : Cd MX8_without ∈ wl := wl_7 30 rfl rfl
theorem n_X8_without : nMH MX8_without 1 := ⟨⟨by decide +kernel, by decide +kernel⟩, by decide +kernel, by decide⟩
abbrev MX8_moves : Mr := (RX8, yX8_moves, cX8_moves, 5, none)
theorem k_X8_moves : Cd MX8_moves ∈ wl := wl_7 34 rfl rfl
theorem n_X8_moves : nMH MX8_moves 3 := ⟨⟨by decide +kernel, by decide +kernel⟩, by decide +kernel, by decide⟩
abbrev MX8_averagesNow : Mr := (RX8, yX8_averagesNow, cX8_averagesNow, 3, none)
theorem k_X8_averagesNow : Cd MX8_averagesNow ∈ wl := wl_7 38 rfl rfl
theorem n_X8_averagesNow : nMH MX8_averagesNow 0 := ⟨⟨by decide +kernel, by decide +kernel⟩, by decide +kernel, by decide⟩
abbrev MX8_livingOn : Mr := (RX8, yX8_livingOn, cX8_livingOn, 5, some .int)
theorem k_X8_livingOn : Cd MX8_livingOn ∈ wl := wl_7 42 rfl rfl
theorem n_X8_livingOn : nMH MX8_livingOn 2 := ⟨⟨by decide +kernel, by decide +kernel⟩, by decide +kernel, by decide⟩
abbrev MX8_averageAt : Mr := (RX8, yX8_averageAt, cX8_averageAt, 7, some .int)
theorem k_X8_averageAt : Cd MX8_averageAt ∈ wl := wl_7 46 rfl rfl
theorem n_X8_averageAt : nMH MX8_averageAt 2 := ⟨⟨by decide +kernel, by decide +kernel⟩, by decide +kernel, by decide⟩
abbrev MX8_dines : Mr := (RX8, yX8_dines, cX8_dines, 3, none)
theorem k_X8_dines : Cd MX8_dines ∈ wl := wl_7 50 rfl rfl
theorem n_X8_dines : nMH MX8_dines 1 := ⟨⟨by decide +kernel, by decide +kernel⟩, by decide +kernel, by decide⟩
abbrev MX8_slipFor : Mr := (RX8, yX8_slipFor, cX8_slipFor, 7, some .int)
theorem k_X8_slipFor : Cd MX8_slipFor ∈ wl := wl_7 54 rfl rfl
theorem n_X8_slipFor : nMH MX8_slipFor 1 := ⟨⟨by decide +kernel, by decide +kernel⟩, by decide +kernel, by decide⟩
abbrev MX8_inspects : Mr := (RX8, yX8_inspects, cX8_inspects, 2, none)
theorem k_X8_inspects : Cd MX8_inspects ∈ wl := wl_7 58 rfl rfl
theorem n_X8_inspects : nMH MX8_inspects 0 := ⟨⟨by decide +kernel, by decide +kernel⟩, by decide +kernel, by decide⟩
abbrev MX8_hasToGo : Mr := (RX8, yX8_hasToGo, cX8_hasToGo, 2, some .boolean)
theorem k_X8_hasToGo : Cd MX8_hasToGo ∈ wl := wl_7 62 rfl rfl
theorem n_X8_hasToGo : nMH MX8_hasToGo 1 := ⟨⟨by decide +kernel, by decide +kernel⟩, by decide +kernel, by decide⟩
abbrev MX8_toLandlady : Mr := (RX8, yX8_toLandlady, cX8_toLandlady, 4, some .int)
theorem k_X8_toLandlady : Cd MX8_toLandlady ∈ wl := wl_7 66 rfl rfl
theorem n_X8_toLandlady : nMH MX8_toLandlady 1 := ⟨⟨by decide +kernel, by decide +kernel⟩, by decide +kernel, by decide⟩
abbrev MX8_rhymesHer : Mr := (RX8, yX8_rhymesHer, cX8_rhymesHer, 4, some .boolean)
theorem k_X8_rhymesHer : Cd MX8_rhymesHer ∈ wl := wl_7 70 rfl rfl
theorem n_X8_rhymesHer : nMH MX8_rhymesHer 1 := ⟨⟨by decide +kernel, by decide +kernel⟩, by decide +kernel, by decide⟩
abbrev MX8_goes : Mr := (RX8, yX8_goes, cX8_goes, 4, none)
theorem k_X8_goes : Cd MX8_goes ∈ wl := wl_7 74 rfl rfl
theorem n_X8_goes : nMH MX8_goes 1 := ⟨⟨by decide +kernel, by decide +kernel⟩, by decide +kernel, by decide⟩
abbrev MX8_thrown : Mr := (RX8, yX8_thrown, cX8_thrown, 1, some .int)
theorem k_X8_thrown : Cd MX8_thrown ∈ wl := wl_7 158 rfl rfl
theorem n_X8_thrown : nMH MX8_thrown 0 := ⟨⟨by decide +kernel, by decide +kernel⟩, by decide +kernel, by decide⟩
abbrev MX8_append : Mr := (RX8, yX8_append, cX8_append, 6, some .int)
theorem k_X8_append : Cd MX8_append ∈ wl := wl_7 162 rfl rfl
theorem n_X8_append : nMH MX8_append 5 := ⟨⟨by decide +kernel, by decide +kernel⟩, by decide +kernel, by decide⟩
abbrev MX8_refuse : Mr := (RX8, yX8_refuse, cX8_refuse, 2, some .int)
theorem k_X8_refuse : Cd MX8_refuse ∈ wl := wl_7 166 rfl rfl
theorem n_X8_refuse : nMH MX8_refuse 1 := ⟨⟨by decide +kernel, by decide +kernel⟩, by decide +kernel, by decide⟩
abbrev MX8_feeds : Mr := (RX8, yX8_feeds, cX8_feeds, 2, none)
theorem k_X8_feeds : Cd MX8_feeds ∈ wl := wl_7 170 rfl rfl
theorem n_X8_feeds : nMH MX8_feeds 1 := ⟨⟨by decide +kernel, by decide +kernel⟩, by decide +kernel, by decide⟩
abbrev MX8_told : Mr := (RX8, yX8_told, cX8_told, 2, some .int)
theorem k_X8_told : Cd MX8_told ∈ wl := wl_7 174 rfl rfl
theorem n_X8_told : nMH MX8_told 1 := ⟨⟨by decide +kernel, by decide +kernel⟩, by decide +kernel, by decide⟩
abbrev MX8_load : Mr := (RX8, yX8_load, cX8_load, 2, some .int)
theorem k_X8_load : Cd MX8_load ∈ wl := wl_7 178 rfl rfl
theorem n_X8_load : nMH MX8_load 1 := ⟨⟨by decide +kernel, by decide +kernel⟩, by decide +kernel, by decide⟩
abbrev MX8_in : Mr := (RX8, yX8_in, cX8_in, 3, some .boolean)
theorem k_X8_in : Cd MX8_in ∈ wl := wl_7 181 rfl rfl
theorem n_X8_in : nMH MX8_in 3 := ⟨⟨by decide +kernel, by decide +kernel⟩, by decide +kernel, by decide⟩
abbrev MX8_putsAside : Mr := (RX8, yX8_putsAside, cX8_putsAside, 2, none)
theorem k_X8_putsAside : Cd MX8_putsAside ∈ wl := wl_7 185 rfl rfl
theorem n_X8_putsAside : nMH MX8_putsAside 0 := ⟨⟨by decide +kernel, by decide +kernel⟩, by decide +kernel, by decide⟩
abbrev MX8_readsText : Mr := (RX8, yX8_readsText, cX8_readsText, 3, none)
theorem k_X8_readsText : Cd MX8_readsText ∈ wl := wl_7 189 rfl rfl
theorem n_X8_readsText : nMH MX8_readsText 1 := ⟨⟨by decide +kernel, by decide +kernel⟩, by decide +kernel, by decide⟩
abbrev MX8_next : Mr := (RX8, yX8_next, cX8_next, 3, none)
theorem k_X8_next : Cd MX8_next ∈ wl := wl_7 193 rfl rfl
theorem n_X8_next : nMH MX8_next 0 := ⟨⟨by decide +kernel, by decide +kernel⟩, by decide +kernel, by decide⟩
abbrev MX8_isLetter : Mr := (RX8, yX8_isLetter, cX8_isLetter, 1, some .boolean)
theorem k_X8_isLetter : Cd MX8_isLetter ∈ wl := wl_7 196 rfl rfl
theorem n_X8_isLetter : nMH MX8_isLetter 1 := ⟨⟨by decide +kernel, by decide +kernel⟩, by decide +kernel, by decide⟩
abbrev MX8_isDigit : Mr := (RX8, yX8_isDigit, cX8_isDigit, 1, some .boolean)
theorem k_X8_isDigit : Cd MX8_isDigit ∈ wl := wl_7 199 rfl rfl
theorem n_X8_isDigit : nMH MX8_isDigit 1 := ⟨⟨by decide +kernel, by decide +kernel⟩, by decide +kernel, by decide⟩
abbrev MX8_takesWord : Mr := (RX8, yX8_takesWord, cX8_takesWord, 2, none)
theorem k_X8_takesWord : Cd MX8_takesWord ∈ wl := wl_7 203 rfl rfl
theorem n_X8_takesWord : nMH MX8_takesWord 1 := ⟨⟨by decide +kernel, by decide +kernel⟩, by decide +kernel, by decide⟩
abbrev MX8_isKey : Mr := (RX8, yX8_isKey, cX8_isKey, 4, some .boolean)
theorem k_X8_isKey : Cd MX8_isKey ∈ wl := wl_7 207 rfl rfl
theorem n_X8_isKey : nMH MX8_isKey 1 := ⟨⟨by decide +kernel, by decide +kernel⟩, by decide +kernel, by decide⟩
abbrev MX8_errs : Mr := (RX8, yX8_errs, cX8_errs, 2, none)
theorem k_X8_errs : Cd MX8_errs ∈ wl := wl_7 211 rfl rfl
theorem n_X8_errs : nMH MX8_errs 1 := ⟨⟨by decide +kernel, by decide +kernel⟩, by decide +kernel, by decide⟩
abbrev MX8_goesOn : Mr := (RX8, yX8_goesOn, cX8_goesOn, 1, none)
theorem k_X8_goesOn : Cd MX8_goesOn ∈ wl := wl_7 215 rfl rfl
theorem n_X8_goesOn : nMH MX8_goesOn 0 := ⟨⟨by decide +kernel, by decide +kernel⟩, by decide +kernel, by decide⟩
abbrev MX8_takesNumber : Mr := (RX8, yX8_takesNumber, cX8_takesNumber, 4, some .int)
theorem k_X8_takesNumber : Cd MX8_takesNumber ∈ wl := wl_7 219 rfl rfl
theorem n_X8_takesNumber : nMH MX8_takesNumber 2 := ⟨⟨by decide +kernel, by decide +kernel⟩, by decide +kernel, by decide⟩
abbrev MX8_here : Mr := (RX8, yX8_here, cX8_here, 3, some .int)
theorem k_X8_here : Cd MX8_here ∈ wl := wl_7 223 rfl rfl
theorem n_X8_here : nMH MX8_here 2 := ⟨⟨by decide +kernel, by decide +kernel⟩, by decide +kernel, by decide⟩
abbrev MX8_takesSemicolon : Mr := (RX8, yX8_takesSemicolon, cX8_takesSemicolon, 1, none)
theorem k_X8_takesSemicolon : Cd MX8_takesSemicolon ∈ wl := wl_7 227 rfl rfl
theorem n_X8_takesSemicolon : nMH MX8_takesSemicolon 0 := ⟨⟨by decide +kernel, by decide +kernel⟩, by decide +kernel, by decide⟩
abbrev MX8_readsLine : Mr := (RX8, yX8_readsLine, cX8_readsLine, 2, none)
theorem k_X8_readsLine : Cd MX8_readsLine ∈ wl := wl_7 231 rfl rfl
theorem n_X8_readsLine : nMH MX8_readsLine 0 := ⟨⟨by decide +kernel, by decide +kernel⟩, by decide +kernel, by decide⟩
abbrev MX8_readsLodger : Mr := (RX8, yX8_readsLodger, cX8_readsLodger, 7, none)
theorem k_X8_readsLodger : Cd MX8_readsLodger ∈ wl := wl_7 235 rfl rfl
theorem n_X8_readsLodger : nMH MX8_readsLodger 0 := ⟨⟨by decide +kernel, by decide +kernel⟩, by decide +kernel, by decide⟩
abbrev MX8_isName : Mr := (RX8, yX8_isName, cX8_isName, 1, none)
theorem k_X8_isName : Cd MX8_isName ∈ wl := wl_7 239 rfl rfl
theorem n_X8_isName : nMH MX8_isName 0 := ⟨⟨by decide +kernel, by decide +kernel⟩, by decide +kernel, by decide⟩
abbrev MX8_lodgerNamed : Mr := (RX8, yX8_lodgerNamed, cX8_lodgerNamed, 6, some .int)
theorem k_X8_lodgerNamed : Cd MX8_lodgerNamed ∈ wl := wl_8 3 rfl rfl
theorem n_X8_lodgerNamed : nMH MX8_lodgerNamed 2 := ⟨⟨by decide +kernel, by decide +kernel⟩, by decide +kernel, by decide⟩
abbrev MX8_takesAccent : Mr := (RX8, yX8_takesAccent, cX8_takesAccent, 3, some .int)
theorem k_X8_takesAccent : Cd MX8_takesAccent ∈ wl := wl_8 7 rfl rfl
theorem n_X8_takesAccent : nMH MX8_takesAccent 0 := ⟨⟨by decide +kernel, by decide +kernel⟩, by decide +kernel, by decide⟩
abbrev MX8_readsPay : Mr := (RX8, yX8_readsPay, cX8_readsPay, 3, none)
theorem k_X8_readsPay : Cd MX8_readsPay ∈ wl := wl_8 11 rfl rfl
theorem n_X8_readsPay : nMH MX8_readsPay 0 := ⟨⟨by decide +kernel, by decide +kernel⟩, by decide +kernel, by decide⟩
abbrev MX8_takesLodger : Mr := (RX8, yX8_takesLodger, cX8_takesLodger, 2, some .int)
theorem k_X8_takesLodger : Cd MX8_takesLodger ∈ wl := wl_8 15 rfl rfl
theorem n_X8_takesLodger : nMH MX8_takesLodger 0 := ⟨⟨by decide +kernel, by decide +kernel⟩, by decide +kernel, by decide⟩
abbrev MX8_pays : Mr := (RX8, yX8_pays, cX8_pays, 3, none)
theorem k_X8_pays : Cd MX8_pays ∈ wl := wl_8 19 rfl rfl
theorem n_X8_pays : nMH MX8_pays 2 := ⟨⟨by decide +kernel, by decide +kernel⟩, by decide +kernel, by decide⟩
abbrev MX8_readsMove : Mr := (RX8, yX8_readsMove, cX8_readsMove, 3, none)
theorem k_X8_readsMove : Cd MX8_readsMove ∈ wl := wl_8 23 rfl rfl
theorem n_X8_readsMove : nMH MX8_readsMove 0 := ⟨⟨by decide +kernel, by decide +kernel⟩, by decide +kernel, by decide⟩
abbrev MX8_passes : Mr := (RX8, yX8_passes, cX8_passes, 3, none)
theorem k_X8_passes : Cd MX8_passes ∈ wl := wl_8 27 rfl rfl
theorem n_X8_passes : nMH MX8_passes 1 := ⟨⟨by decide +kernel, by decide +kernel⟩, by decide +kernel, by decide⟩
abbrev MX8_putsBack : Mr := (RX8, yX8_putsBack, cX8_putsBack, 2, none)
theorem k_X8_putsBack : Cd MX8_putsBack ∈ wl := wl_8 31 rfl rfl
theorem n_X8_putsBack : nMH MX8_putsBack 0 := ⟨⟨by decide +kernel, by decide +kernel⟩, by decide +kernel, by decide⟩
abbrev MX8_errorKind : Mr := (RX8, yX8_errorKind, cX8_errorKind, 1, some .int)
theorem k_X8_errorKind : Cd MX8_errorKind ∈ wl := wl_8 35 rfl rfl
theorem n_X8_errorKind : nMH MX8_errorKind 0 := ⟨⟨by decide +kernel, by decide +kernel⟩, by decide +kernel, by decide⟩
abbrev MX8_errorOffset : Mr := (RX8, yX8_errorOffset, cX8_errorOffset, 1, some .int)
theorem k_X8_errorOffset : Cd MX8_errorOffset ∈ wl := wl_8 39 rfl rfl
theorem n_X8_errorOffset : nMH MX8_errorOffset 0 := ⟨⟨by decide +kernel, by decide +kernel⟩, by decide +kernel, by decide⟩
abbrev MX8_day : Mr := (RX8, yX8_day, cX8_day, 1, some .int)
theorem k_X8_day : Cd MX8_day ∈ wl := wl_8 43 rfl rfl
theorem n_X8_day : nMH MX8_day 0 := ⟨⟨by decide +kernel, by decide +kernel⟩, by decide +kernel, by decide⟩
abbrev MX8_lodgerCount : Mr := (RX8, yX8_lodgerCount, cX8_lodgerCount, 1, some .int)
theorem k_X8_lodgerCount : Cd MX8_lodgerCount ∈ wl := wl_8 47 rfl rfl
theorem n_X8_lodgerCount : nMH MX8_lodgerCount 0 := ⟨⟨by decide +kernel, by decide +kernel⟩, by decide +kernel, by decide⟩
abbrev MX8_baseRent : Mr := (RX8, yX8_baseRent, cX8_baseRent, 1, some .int)
theorem k_X8_baseRent : Cd MX8_baseRent ∈ wl := wl_8 51 rfl rfl
theorem n_X8_baseRent : nMH MX8_baseRent 0 := ⟨⟨by decide +kernel, by decide +kernel⟩, by decide +kernel, by decide⟩
abbrev MX8_tolerance : Mr := (RX8, yX8_tolerance, cX8_tolerance, 1, some .int)
theorem k_X8_tolerance : Cd MX8_tolerance ∈ wl := wl_8 55 rfl rfl
theorem n_X8_tolerance : nMH MX8_tolerance 0 := ⟨⟨by decide +kernel, by decide +kernel⟩, by decide +kernel, by decide⟩
abbrev MX8_rentOf : Mr := (RX8, yX8_rentOf, cX8_rentOf, 2, some .int)
theorem k_X8_rentOf : Cd MX8_rentOf ∈ wl := wl_8 59 rfl rfl
theorem n_X8_rentOf : nMH MX8_rentOf 1 := ⟨⟨by decide +kernel, by decide +kernel⟩, by decide +kernel, by decide⟩
abbrev MX8_isFloor : Mr := (RX8, yX8_isFloor, cX8_isFloor, 1, some .boolean)
theorem k_X8_isFloor : Cd MX8_isFloor ∈ wl := wl_8 62 rfl rfl
theorem n_X8_isFloor : nMH MX8_isFloor 1 := ⟨⟨by decide +kernel, by decide +kernel⟩, by decide +kernel, by decide⟩
abbrev MX8_landladyVowel : Mr := (RX8, yX8_landladyVowel, cX8_landladyVowel, 2, some .int)
theorem k_X8_landladyVowel : Cd MX8_landladyVowel ∈ wl := wl_8 66 rfl rfl
theorem n_X8_landladyVowel : nMH MX8_landladyVowel 1 := ⟨⟨by decide +kernel, by decide +kernel⟩, by decide +kernel, by decide⟩
abbrev MX8_isVowel : Mr := (RX8, yX8_isVowel, cX8_isVowel, 1, some .boolean)
theorem k_X8_isVowel : Cd MX8_isVowel ∈ wl := wl_8 69 rfl rfl
theorem n_X8_isVowel : nMH MX8_isVowel 1 := ⟨⟨by decide +kernel, by decide +kernel⟩, by decide +kernel, by decide⟩
abbrev MX8_daysToInspection : Mr := (RX8, yX8_daysToInspection, cX8_daysToInspection, 1, some .int)
theorem k_X8_daysToInspection : Cd MX8_daysToInspection ∈ wl := wl_8 73 rfl rfl
theorem n_X8_daysToInspection : nMH MX8_daysToInspection 0 := ⟨⟨by decide +kernel, by decide +kernel⟩, by decide +kernel, by decide⟩
abbrev MX8_daysLeft : Mr := (RX8, yX8_daysLeft, cX8_daysLeft, 1, some .int)
theorem k_X8_daysLeft : Cd MX8_daysLeft ∈ wl := wl_8 77 rfl rfl
theorem n_X8_daysLeft : nMH MX8_daysLeft 0 := ⟨⟨by decide +kernel, by decide +kernel⟩, by decide +kernel, by decide⟩
abbrev MX8_evictions : Mr := (RX8, yX8_evictions, cX8_evictions, 1, some .int)
theorem k_X8_evictions : Cd MX8_evictions ∈ wl := wl_8 81 rfl rfl
theorem n_X8_evictions : nMH MX8_evictions 0 := ⟨⟨by decide +kernel, by decide +kernel⟩, by decide +kernel, by decide⟩
abbrev MX8_undoCount : Mr := (RX8, yX8_undoCount, cX8_undoCount, 1, some .int)
theorem k_X8_undoCount : Cd MX8_undoCount ∈ wl := wl_8 85 rfl rfl
theorem n_X8_undoCount : nMH MX8_undoCount 0 := ⟨⟨by decide +kernel, by decide +kernel⟩, by decide +kernel, by decide⟩
abbrev MX8_floorOf : Mr := (RX8, yX8_floorOf, cX8_floorOf, 2, some .int)
theorem k_X8_floorOf : Cd MX8_floorOf ∈ wl := wl_8 89 rfl rfl
theorem n_X8_floorOf : nMH MX8_floorOf 1 := ⟨⟨by decide +kernel, by decide +kernel⟩, by decide +kernel, by decide⟩
abbrev MX8_ofLodger : Mr := (RX8, yX8_ofLodger, cX8_ofLodger, 3, some .int)
theorem k_X8_ofLodger : Cd MX8_ofLodger ∈ wl := wl_8 93 rfl rfl
theorem n_X8_ofLodger : nMH MX8_ofLodger 2 := ⟨⟨by decide +kernel, by decide +kernel⟩, by decide +kernel, by decide⟩
abbrev MX8_isLodger : Mr := (RX8, yX8_isLodger, cX8_isLodger, 2, some .boolean)
theorem k_X8_isLodger : Cd MX8_isLodger ∈ wl := wl_8 97 rfl rfl
theorem n_X8_isLodger : nMH MX8_isLodger 1 := ⟨⟨by decide +kernel, by decide +kernel⟩, by decide +kernel, by decide⟩
abbrev MX8_balanceOf : Mr := (RX8, yX8_balanceOf, cX8_balanceOf, 2, some .int)
theorem k_X8_balanceOf : Cd MX8_balanceOf ∈ wl := wl_8 101 rfl rfl
theorem n_X8_balanceOf : nMH MX8_balanceOf 1 := ⟨⟨by decide +kernel, by decide +kernel⟩, by decide +kernel, by decide⟩
abbrev MX8_vowelOf : Mr := (RX8, yX8_vowelOf, cX8_vowelOf, 3, some .int)
theorem k_X8_vowelOf : Cd MX8_vowelOf ∈ wl := wl_8 105 rfl rfl
theorem n_X8_vowelOf : nMH MX8_vowelOf 2 := ⟨⟨by decide +kernel, by decide +kernel⟩, by decide +kernel, by decide⟩
abbrev MX8_lessonsOf : Mr := (RX8, yX8_lessonsOf, cX8_lessonsOf, 2, some .int)
theorem k_X8_lessonsOf : Cd MX8_lessonsOf ∈ wl := wl_8 109 rfl rfl
theorem n_X8_lessonsOf : nMH MX8_lessonsOf 1 := ⟨⟨by decide +kernel, by decide +kernel⟩, by decide +kernel, by decide⟩
abbrev MX8_slipsOf : Mr := (RX8, yX8_slipsOf, cX8_slipsOf, 2, some .int)
theorem k_X8_slipsOf : Cd MX8_slipsOf ∈ wl := wl_8 113 rfl rfl
theorem n_X8_slipsOf : nMH MX8_slipsOf 1 := ⟨⟨by decide +kernel, by decide +kernel⟩, by decide +kernel, by decide⟩
abbrev MX8_daysStayed : Mr := (RX8, yX8_daysStayed, cX8_daysStayed, 2, some .int)
theorem k_X8_daysStayed : Cd MX8_daysStayed ∈ wl := wl_8 117 rfl rfl
theorem n_X8_daysStayed : nMH MX8_daysStayed 1 := ⟨⟨by decide +kernel, by decide +kernel⟩, by decide +kernel, by decide⟩
abbrev MX8_nameLength : Mr := (RX8, yX8_nameLength, cX8_nameLength, 2, some .int)
theorem k_X8_nameLength : Cd MX8_nameLength ∈ wl := wl_8 121 rfl rfl
theorem n_X8_nameLength : nMH MX8_nameLength 1 := ⟨⟨by decide +kernel, by decide +kernel⟩, by decide +kernel, by decide⟩
abbrev MX8_lettersOf : Mr := (RX8, yX8_lettersOf, cX8_lettersOf, 3, some .int)
theorem k_X8_lettersOf : Cd MX8_lettersOf ∈ wl := wl_8 125 rfl rfl
theorem n_X8_lettersOf : nMH MX8_lettersOf 1 := ⟨⟨by decide +kernel, by decide +kernel⟩, by decide +kernel, by decide⟩
abbrev MX8_nameLetter : Mr := (RX8, yX8_nameLetter, cX8_nameLetter, 3, some .char)
theorem k_X8_nameLetter : Cd MX8_nameLetter ∈ wl := wl_8 129 rfl rfl
theorem n_X8_nameLetter : nMH MX8_nameLetter 2 := ⟨⟨by decide +kernel, by decide +kernel⟩, by decide +kernel, by decide⟩
abbrev MX8_findByName : Mr := (RX8, yX8_findByName, cX8_findByName, 3, some .int)
theorem k_X8_findByName : Cd MX8_findByName ∈ wl := wl_8 133 rfl rfl
theorem n_X8_findByName : nMH MX8_findByName 0 := ⟨⟨by decide +kernel, by decide +kernel⟩, by decide +kernel, by decide⟩
abbrev MX8_lodgersOn : Mr := (RX8, yX8_lodgersOn, cX8_lodgersOn, 2, some .int)
theorem k_X8_lodgersOn : Cd MX8_lodgersOn ∈ wl := wl_8 137 rfl rfl
theorem n_X8_lodgersOn : nMH MX8_lodgersOn 1 := ⟨⟨by decide +kernel, by decide +kernel⟩, by decide +kernel, by decide⟩
abbrev MX8_lodgerOn : Mr := (RX8, yX8_lodgerOn, cX8_lodgerOn, 5, some .int)
theorem k_X8_lodgerOn : Cd MX8_lodgerOn ∈ wl := wl_8 141 rfl rfl
theorem n_X8_lodgerOn : nMH MX8_lodgerOn 2 := ⟨⟨by decide +kernel, by decide +kernel⟩, by decide +kernel, by decide⟩
abbrev MX8_averageVowel : Mr := (RX8, yX8_averageVowel, cX8_averageVowel, 3, some .int)
theorem k_X8_averageVowel : Cd MX8_averageVowel ∈ wl := wl_8 145 rfl rfl
theorem n_X8_averageVowel : nMH MX8_averageVowel 2 := ⟨⟨by decide +kernel, by decide +kernel⟩, by decide +kernel, by decide⟩
abbrev MX8_distanceToLandlady : Mr := (RX8, yX8_distanceToLandlady, cX8_distanceToLandlady, 2, some .int)
theorem k_X8_distanceToLandlady : Cd MX8_distanceToLandlady ∈ wl := wl_8 149 rfl rfl
theorem n_X8_distanceToLandlady : nMH MX8_distanceToLandlady 1 := ⟨⟨by decide +kernel, by decide +kernel⟩, by decide +kernel, by decide⟩
abbrev MX8_distance : Mr := (RX8, yX8_distance, cX8_distance, 3, some .int)
theorem k_X8_distance : Cd MX8_distance ∈ wl := wl_8 153 rfl rfl
theorem n_X8_distance : nMH MX8_distance 2 := ⟨⟨by decide +kernel, by decide +kernel⟩, by decide +kernel, by decide⟩
abbrev MX8_between : Mr := (RX8, yX8_between, cX8_between, 5, some .int)
theorem k_X8_between : Cd MX8_between ∈ wl := wl_8 157 rfl rfl
theorem n_X8_between : nMH MX8_between 2 := ⟨⟨by decide +kernel, by decide +kernel⟩, by decide +kernel, by decide⟩
abbrev MX8_rhymes : Mr := (RX8, yX8_rhymes, cX8_rhymes, 3, some .boolean)
theorem k_X8_rhymes : Cd MX8_rhymes ∈ wl := wl_8 161 rfl rfl
theorem n_X8_rhymes : nMH MX8_rhymes 2 := ⟨⟨by decide +kernel, by decide +kernel⟩, by decide +kernel, by decide⟩
abbrev MX8_rhyme : Mr := (RX8, yX8_rhyme, cX8_rhyme, 5, some .boolean)
theorem k_X8_rhyme : Cd MX8_rhyme ∈ wl := wl_8 165 rfl rfl
theorem n_X8_rhyme : nMH MX8_rhyme 2 := ⟨⟨by decide +kernel, by decide +kernel⟩, by decide +kernel, by decide⟩
abbrev MX8_says : Mr := (RX8, yX8_says, cX8_says, 2, some .boolean)
theorem k_X8_says : Cd MX8_says ∈ wl := wl_8 169 rfl rfl
theorem n_X8_says : nMH MX8_says 1 := ⟨⟨by decide +kernel, by decide +kernel⟩, by decide +kernel, by decide⟩
abbrev MX8_refuses : Mr := (RX8, yX8_refuses, cX8_refuses, 1, some .boolean)
theorem k_X8_refuses : Cd MX8_refuses ∈ wl := wl_8 173 rfl rfl
theorem n_X8_refuses : nMH MX8_refuses 0 := ⟨⟨by decide +kernel, by decide +kernel⟩, by decide +kernel, by decide⟩
abbrev MX8_rhymesWithLandlady : Mr := (RX8, yX8_rhymesWithLandlady, cX8_rhymesWithLandlady, 2, some .boolean)
theorem k_X8_rhymesWithLandlady : Cd MX8_rhymesWithLandlady ∈ wl := wl_8 177 rfl rfl
theorem n_X8_rhymesWithLandlady : nMH MX8_rhymesWithLandlady 1 := ⟨⟨by decide +kernel, by decide +kernel⟩, by decide +kernel, by decide⟩
abbrev MX8_rhymeCount : Mr := (RX8, yX8_rhymeCount, cX8_rhymeCount, 4, some .int)
theorem k_X8_rhymeCount : Cd MX8_rhymeCount ∈ wl := wl_8 181 rfl rfl
theorem n_X8_rhymeCount : nMH MX8_rhymeCount 1 := ⟨⟨by decide +kernel, by decide +kernel⟩, by decide +kernel, by decide⟩
abbrev MX8_closestTo : Mr := (RX8, yX8_closestTo, cX8_closestTo, 4, some .int)
theorem k_X8_closestTo : Cd MX8_closestTo ∈ wl := wl_8 185 rfl rfl
theorem n_X8_closestTo : nMH MX8_closestTo 1 := ⟨⟨by decide +kernel, by decide +kernel⟩, by decide +kernel, by decide⟩
abbrev MX8_lessonVowel : Mr := (RX8, yX8_lessonVowel, cX8_lessonVowel, 2, some .int)
theorem k_X8_lessonVowel : Cd MX8_lessonVowel ∈ wl := wl_8 189 rfl rfl
theorem n_X8_lessonVowel : nMH MX8_lessonVowel 1 := ⟨⟨by decide +kernel, by decide +kernel⟩, by decide +kernel, by decide⟩
abbrev MX8_slipVowel : Mr := (RX8, yX8_slipVowel, cX8_slipVowel, 2, some .int)
theorem k_X8_slipVowel : Cd MX8_slipVowel ∈ wl := wl_8 193 rfl rfl
theorem n_X8_slipVowel : nMH MX8_slipVowel 1 := ⟨⟨by decide +kernel, by decide +kernel⟩, by decide +kernel, by decide⟩
abbrev MX8_mustGo : Mr := (RX8, yX8_mustGo, cX8_mustGo, 2, some .boolean)
theorem k_X8_mustGo : Cd MX8_mustGo ∈ wl := wl_8 197 rfl rfl
theorem n_X8_mustGo : nMH MX8_mustGo 1 := ⟨⟨by decide +kernel, by decide +kernel⟩, by decide +kernel, by decide⟩
abbrev MX8_meanDistance : Mr := (RX8, yX8_meanDistance, cX8_meanDistance, 3, some .double)
theorem k_X8_meanDistance : Cd MX8_meanDistance ∈ wl := wl_8 201 rfl rfl
theorem n_X8_meanDistance : nMH MX8_meanDistance 0 := ⟨⟨by decide +kernel, by decide +kernel⟩, by decide +kernel, by decide⟩
abbrev MX8_rhymingShare : Mr := (RX8, yX8_rhymingShare, cX8_rhymingShare, 3, some .float)
theorem k_X8_rhymingShare : Cd MX8_rhymingShare ∈ wl := wl_8 205 rfl rfl
theorem n_X8_rhymingShare : nMH MX8_rhymingShare 0 := ⟨⟨by decide +kernel, by decide +kernel⟩, by decide +kernel, by decide⟩
abbrev MX8_balanceAfter : Mr := (RX8, yX8_balanceAfter, cX8_balanceAfter, 4, some .int)
theorem k_X8_balanceAfter : Cd MX8_balanceAfter ∈ wl := wl_8 209 rfl rfl
theorem n_X8_balanceAfter : nMH MX8_balanceAfter 2 := ⟨⟨by decide +kernel, by decide +kernel⟩, by decide +kernel, by decide⟩
abbrev MX8_tracks : Mr := (RX8, yX8_tracks, cX8_tracks, 2, none)
theorem k_X8_tracks : Cd MX8_tracks ∈ wl := wl_8 213 rfl rfl
theorem n_X8_tracks : nMH MX8_tracks 1 := ⟨⟨by decide +kernel, by decide +kernel⟩, by decide +kernel, by decide⟩
abbrev MX8_distanceAfter : Mr := (RX8, yX8_distanceAfter, cX8_distanceAfter, 4, some .int)
theorem k_X8_distanceAfter : Cd MX8_distanceAfter ∈ wl := wl_8 217 rfl rfl
theorem n_X8_distanceAfter : nMH MX8_distanceAfter 2 := ⟨⟨by decide +kernel, by decide +kernel⟩, by decide +kernel, by decide⟩
abbrev MX8_daysToEviction : Mr := (RX8, yX8_daysToEviction, cX8_daysToEviction, 4, some .int)
theorem k_X8_daysToEviction : Cd MX8_daysToEviction ∈ wl := wl_8 221 rfl rfl
theorem n_X8_daysToEviction : nMH MX8_daysToEviction 1 := ⟨⟨by decide +kernel, by decide +kernel⟩, by decide +kernel, by decide⟩
abbrev MX8_paymentToStay : Mr := (RX8, yX8_paymentToStay, cX8_paymentToStay, 6, some .int)
theorem k_X8_paymentToStay : Cd MX8_paymentToStay ∈ wl := wl_8 225 rfl rfl
theorem n_X8_paymentToStay : nMH MX8_paymentToStay 1 := ⟨⟨by decide +kernel, by decide +kernel⟩, by decide +kernel, by decide⟩
abbrev MX8_staysWith : Mr := (RX8, yX8_staysWith, cX8_staysWith, 5, some .boolean)
theorem k_X8_staysWith : Cd MX8_staysWith ∈ wl := wl_8 229 rfl rfl
theorem n_X8_staysWith : nMH MX8_staysWith 2 := ⟨⟨by decide +kernel, by decide +kernel⟩, by decide +kernel, by decide⟩
abbrev MX8_totalPaid : Mr := (RX8, yX8_totalPaid, cX8_totalPaid, 1, some .int)
theorem k_X8_totalPaid : Cd MX8_totalPaid ∈ wl := wl_8 233 rfl rfl
theorem n_X8_totalPaid : nMH MX8_totalPaid 0 := ⟨⟨by decide +kernel, by decide +kernel⟩, by decide +kernel, by decide⟩
abbrev MX8_totalCharged : Mr := (RX8, yX8_totalCharged, cX8_totalCharged, 1, some .int)
theorem k_X8_totalCharged : Cd MX8_totalCharged ∈ wl := wl_8 237 rfl rfl
theorem n_X8_totalCharged : nMH MX8_totalCharged 0 := ⟨⟨by decide +kernel, by decide +kernel⟩, by decide +kernel, by decide⟩
abbrev MX8_settled : Mr := (RX8, yX8_settled, cX8_settled, 1, some .int)
theorem k_X8_settled : Cd MX8_settled ∈ wl := wl_9 1 rfl rfl
theorem n_X8_settled : nMH MX8_settled 0 := ⟨⟨by decide +kernel, by decide +kernel⟩, by decide +kernel, by decide⟩
abbrev MX8_ledgerDifference : Mr := (RX8, yX8_ledgerDifference, cX8_ledgerDifference, 3, some .int)
theorem k_X8_ledgerDifference : Cd MX8_ledgerDifference ∈ wl := wl_9 5 rfl rfl
theorem n_X8_ledgerDifference : nMH MX8_ledgerDifference 0 := ⟨⟨by decide +kernel, by decide +kernel⟩, by decide +kernel, by decide⟩
abbrev MX8_advance : Mr := (RX8, yX8_advance, cX8_advance, 3, some .int)
theorem k_X8_advance : Cd MX8_advance ∈ wl := wl_9 9 rfl rfl
theorem n_X8_advance : nMH MX8_advance 1 := ⟨⟨by decide +kernel, by decide +kernel⟩, by decide +kernel, by decide⟩
abbrev MX8_remembers : Mr := (RX8, yX8_remembers, cX8_remembers, 2, none)
theorem k_X8_remembers : Cd MX8_remembers ∈ wl := wl_9 13 rfl rfl
theorem n_X8_remembers : nMH MX8_remembers 0 := ⟨⟨by decide +kernel, by decide +kernel⟩, by decide +kernel, by decide⟩
abbrev MX8_moveIn : Mr := (RX8, yX8_moveIn, cX8_moveIn, 5, some .int)
theorem k_X8_moveIn : Cd MX8_moveIn ∈ wl := wl_9 17 rfl rfl
theorem n_X8_moveIn : nMH MX8_moveIn 3 := ⟨⟨by decide +kernel, by decide +kernel⟩, by decide +kernel, by decide⟩
abbrev MX8_isTakenLetter : Mr := (RX8, yX8_isTakenLetter, cX8_isTakenLetter, 3, some .boolean)
theorem k_X8_isTakenLetter : Cd MX8_isTakenLetter ∈ wl := wl_9 22 rfl rfl
theorem n_X8_isTakenLetter : nMH MX8_isTakenLetter 1 := ⟨⟨by decide +kernel, by decide +kernel⟩, by decide +kernel, by decide⟩
abbrev MX8_moveOut : Mr := (RX8, yX8_moveOut, cX8_moveOut, 3, some .int)
theorem k_X8_moveOut : Cd MX8_moveOut ∈ wl := wl_9 26 rfl rfl
theorem n_X8_moveOut : nMH MX8_moveOut 1 := ⟨⟨by decide +kernel, by decide +kernel⟩, by decide +kernel, by decide⟩
abbrev MX8_moveTo : Mr := (RX8, yX8_moveTo, cX8_moveTo, 3, some .int)
theorem k_X8_moveTo : Cd MX8_moveTo ∈ wl := wl_9 30 rfl rfl
theorem n_X8_moveTo : nMH MX8_moveTo 2 := ⟨⟨by decide +kernel, by decide +kernel⟩, by decide +kernel, by decide⟩
abbrev MX8_sets : Mr := (RX8, yX8_sets, cX8_sets, 4, some .int)
theorem k_X8_sets : Cd MX8_sets ∈ wl := wl_9 34 rfl rfl
theorem n_X8_sets : nMH MX8_sets 2 := ⟨⟨by decide +kernel, by decide +kernel⟩, by decide +kernel, by decide⟩
abbrev MX8_pay : Mr := (RX8, yX8_pay, cX8_pay, 3, some .int)
theorem k_X8_pay : Cd MX8_pay ∈ wl := wl_9 38 rfl rfl
theorem n_X8_pay : nMH MX8_pay 2 := ⟨⟨by decide +kernel, by decide +kernel⟩, by decide +kernel, by decide⟩
abbrev MX8_setLandladyVowel : Mr := (RX8, yX8_setLandladyVowel, cX8_setLandladyVowel, 3, some .int)
theorem k_X8_setLandladyVowel : Cd MX8_setLandladyVowel ∈ wl := wl_9 42 rfl rfl
theorem n_X8_setLandladyVowel : nMH MX8_setLandladyVowel 2 := ⟨⟨by decide +kernel, by decide +kernel⟩, by decide +kernel, by decide⟩
abbrev MX8_setTolerance : Mr := (RX8, yX8_setTolerance, cX8_setTolerance, 2, some .int)
theorem k_X8_setTolerance : Cd MX8_setTolerance ∈ wl := wl_9 46 rfl rfl
theorem n_X8_setTolerance : nMH MX8_setTolerance 1 := ⟨⟨by decide +kernel, by decide +kernel⟩, by decide +kernel, by decide⟩
abbrev MX8_setBaseRent : Mr := (RX8, yX8_setBaseRent, cX8_setBaseRent, 2, some .int)
theorem k_X8_setBaseRent : Cd MX8_setBaseRent ∈ wl := wl_9 50 rfl rfl
theorem n_X8_setBaseRent : nMH MX8_setBaseRent 1 := ⟨⟨by decide +kernel, by decide +kernel⟩, by decide +kernel, by decide⟩
abbrev MX8_restore : Mr := (RX8, yX8_restore, cX8_restore, 3, some .int)
theorem k_X8_restore : Cd MX8_restore ∈ wl := wl_9 54 rfl rfl
theorem n_X8_restore : nMH MX8_restore 1 := ⟨⟨by decide +kernel, by decide +kernel⟩, by decide +kernel, by decide⟩
abbrev MX8_undo : Mr := (RX8, yX8_undo, cX8_undo, 2, some .int)
theorem k_X8_undo : Cd MX8_undo ∈ wl := wl_9 58 rfl rfl
theorem n_X8_undo : nMH MX8_undo 0 := ⟨⟨by decide +kernel, by decide +kernel⟩, by decide +kernel, by decide⟩
abbrev MX8_save : Mr := (RX8, yX8_save, cX8_save, 3, some .int)
theorem k_X8_save : Cd MX8_save ∈ wl := wl_9 62 rfl rfl
theorem n_X8_save : nMH MX8_save 1 := ⟨⟨by decide +kernel, by decide +kernel⟩, by decide +kernel, by decide⟩
abbrev MX8_writeLodger : Mr := (RX8, yX8_writeLodger, cX8_writeLodger, 3, some .int)
theorem k_X8_writeLodger : Cd MX8_writeLodger ∈ wl := wl_9 66 rfl rfl
theorem n_X8_writeLodger : nMH MX8_writeLodger 1 := ⟨⟨by decide +kernel, by decide +kernel⟩, by decide +kernel, by decide⟩
abbrev MX8_writesName : Mr := (RX8, yX8_writesName, cX8_writesName, 3, none)
theorem k_X8_writesName : Cd MX8_writesName ∈ wl := wl_9 70 rfl rfl
theorem n_X8_writesName : nMH MX8_writesName 1 := ⟨⟨by decide +kernel, by decide +kernel⟩, by decide +kernel, by decide⟩
abbrev MX8_writes : Mr := (RX8, yX8_writes, cX8_writes, 2, none)
theorem k_X8_writes : Cd MX8_writes ∈ wl := wl_9 74 rfl rfl
theorem n_X8_writes : nMH MX8_writes 1 := ⟨⟨by decide +kernel, by decide +kernel⟩, by decide +kernel, by decide⟩
abbrev MX8_writesNumber : Mr := (RX8, yX8_writesNumber, cX8_writesNumber, 4, none)
theorem k_X8_writesNumber : Cd MX8_writesNumber ∈ wl := wl_9 78 rfl rfl
theorem n_X8_writesNumber : nMH MX8_writesNumber 1 := ⟨⟨by decide +kernel, by decide +kernel⟩, by decide +kernel, by decide⟩
abbrev MX8_writeFloor : Mr := (RX8, yX8_writeFloor, cX8_writeFloor, 3, some .int)
theorem k_X8_writeFloor : Cd MX8_writeFloor ∈ wl := wl_9 82 rfl rfl
theorem n_X8_writeFloor : nMH MX8_writeFloor 1 := ⟨⟨by decide +kernel, by decide +kernel⟩, by decide +kernel, by decide⟩
abbrev MX8_outputCharacter : Mr := (RX8, yX8_outputCharacter, cX8_outputCharacter, 2, some .char)
theorem k_X8_outputCharacter : Cd MX8_outputCharacter ∈ wl := wl_9 86 rfl rfl
theorem n_X8_outputCharacter : nMH MX8_outputCharacter 1 := ⟨⟨by decide +kernel, by decide +kernel⟩, by decide +kernel, by decide⟩
theorem l_X7_15 : LkI RX7 15 MJ4_init_da8c8 0 := ⟨wl_1 40 rfl rfl, wl_1 41 rfl rfl, rfl, wl_1 3 rfl rfl, k_J4_init_da8c8, n_J4_init_da8c8, rfl⟩
theorem l_X7_22 : LkI RX7 22 MX4_init 1 := ⟨wl_1 73 rfl rfl, wl_1 74 rfl rfl, rfl, wl_1 6 rfl rfl, k_X4_init, n_X4_init, rfl⟩
theorem l_X7_35 : LkI RX7 35 MX2_init 0 := ⟨wl_2 3 rfl rfl, wl_1 80 rfl rfl, rfl, wl_1 7 rfl rfl, k_X2_init, n_X2_init, rfl⟩
theorem l_X7_45 : LkI RX7 45 MX1_init 0 := ⟨wl_2 6 rfl rfl, wl_2 7 rfl rfl, rfl, wl_1 13 rfl rfl, k_X1_init, n_X1_init, rfl⟩
theorem l_X7_60 : LkV RX7 60 MJ0_length_8abf5 0 := ⟨wl_2 25 rfl rfl, wl_2 26 rfl rfl, wl_2 27 rfl rfl, wl_1 4 rfl rfl, k_J0_length_8abf5, n_J0_length_8abf5⟩
theorem l_X7_66 : LkV RX7 66 MJ0_charAt_5068e 1 := ⟨wl_2 34 rfl rfl, wl_2 35 rfl rfl, wl_2 36 rfl rfl, wl_1 4 rfl rfl, k_J0_charAt_5068e, n_J0_charAt_5068e⟩
theorem l_X7_70 : LkV RX7 70 MX4_read 1 := ⟨wl_2 72 rfl rfl, wl_2 73 rfl rfl, wl_2 74 rfl rfl, wl_1 6 rfl rfl, k_X4_read, n_X4_read⟩
theorem l_X7_75 : LkV RX7 75 MX2_copyFrom 1 := ⟨wl_4 125 rfl rfl, wl_4 126 rfl rfl, wl_4 127 rfl rfl, wl_1 7 rfl rfl, k_X2_copyFrom, n_X2_copyFrom⟩
theorem l_X7_89 : LkV RX7 89 MX7_appendWord 1 := ⟨wl_5 24 rfl rfl, wl_5 26 rfl rfl, wl_inp 17 (by decide +kernel) rfl, wl_1 1 rfl rfl, k_X7_appendWord, n_X7_appendWord⟩
theorem l_X7_111 : LkV RX7 111 MX1_clear 0 := ⟨wl_5 53 rfl rfl, wl_5 54 rfl rfl, wl_5 55 rfl rfl, wl_1 13 rfl rfl, k_X1_clear, n_X1_clear⟩
theorem l_X7_126 : LkV RX7 126 MX7_requireFloor 1 := ⟨wl_5 64 rfl rfl, wl_5 66 rfl rfl, wl_inp 18 (by decide +kernel) rfl, wl_1 1 rfl rfl, k_X7_requireFloor, n_X7_requireFloor⟩
theorem l_X7_129 : LkV RX7 129 MX2_dailyRent 1 := ⟨wl_5 69 rfl rfl, wl_4 73 rfl rfl, wl_4 74 rfl rfl, wl_1 7 rfl rfl, k_X2_dailyRent, n_X2_dailyRent⟩
theorem l_X7_133 : LkV RX7 133 MX7_requireVowel 1 := ⟨wl_5 77 rfl rfl, wl_5 79 rfl rfl, wl_inp 19 (by decide +kernel) rfl, wl_1 1 rfl rfl, k_X7_requireVowel, n_X7_requireVowel⟩
theorem l_X7_152 : LkV RX7 152 MX7_requireLodger 1 := ⟨wl_5 89 rfl rfl, wl_5 91 rfl rfl, wl_inp 20 (by decide +kernel) rfl, wl_1 1 rfl rfl, k_X7_requireLodger, n_X7_requireLodger⟩
theorem l_X7_182 : LkV RX7 182 MX2_numberOf 3 := ⟨wl_4 213 rfl rfl, wl_2 160 rfl rfl, wl_2 161 rfl rfl, wl_1 7 rfl rfl, k_X2_numberOf, n_X2_numberOf⟩
theorem l_X7_186 : LkV RX7 186 MX2_crowdOn 1 := ⟨wl_5 151 rfl rfl, wl_4 93 rfl rfl, wl_4 94 rfl rfl, wl_1 7 rfl rfl, k_X2_crowdOn, n_X2_crowdOn⟩
theorem l_X7_189 : LkV RX7 189 MX2_numberAt 2 := ⟨wl_5 159 rfl rfl, wl_5 160 rfl rfl, wl_5 161 rfl rfl, wl_1 7 rfl rfl, k_X2_numberAt, n_X2_numberAt⟩
theorem l_X7_197 : LkV RX7 197 MX2_averagePosition 2 := ⟨wl_5 172 rfl rfl, wl_4 101 rfl rfl, wl_4 102 rfl rfl, wl_1 7 rfl rfl, k_X2_averagePosition, n_X2_averagePosition⟩
theorem l_X7_200 : LkV RX7 200 MX0_distanceTo 1 := ⟨wl_4 218 rfl rfl, wl_4 113 rfl rfl, wl_4 114 rfl rfl, wl_1 8 rfl rfl, k_X0_distanceTo, n_X0_distanceTo⟩
theorem l_X7_204 : LkV RX7 204 MX0_rhymesWith 1 := ⟨wl_4 223 rfl rfl, wl_4 117 rfl rfl, wl_4 118 rfl rfl, wl_1 8 rfl rfl, k_X0_rhymesWith, n_X0_rhymesWith⟩
theorem l_X7_212 : LkV RX7 212 MX0_farthestVowel 1 := ⟨wl_5 222 rfl rfl, wl_4 85 rfl rfl, wl_4 86 rfl rfl, wl_1 8 rfl rfl, k_X0_farthestVowel, n_X0_farthestVowel⟩
theorem l_X7_215 : LkV RX7 215 MX2_computeAverage 1 := ⟨wl_5 230 rfl rfl, wl_4 97 rfl rfl, wl_4 98 rfl rfl, wl_1 7 rfl rfl, k_X2_computeAverage, n_X2_computeAverage⟩
theorem l_X7_221 : LkV RX7 221 MX2_mustLeave 1 := ⟨wl_5 238 rfl rfl, wl_4 109 rfl rfl, wl_4 110 rfl rfl, wl_1 7 rfl rfl, k_X2_mustLeave, n_X2_mustLeave⟩
theorem l_X7_225 : LkV RX7 225 MX7_requireRange 3 := ⟨wl_6 6 rfl rfl, wl_6 8 rfl rfl, wl_inp 21 (by decide +kernel) rfl, wl_1 1 rfl rfl, k_X7_requireRange, n_X7_requireRange⟩
theorem l_X7_229 : LkV RX7 229 MX7_startTrial 1 := ⟨wl_6 11 rfl rfl, wl_6 13 rfl rfl, wl_inp 22 (by decide +kernel) rfl, wl_1 1 rfl rfl, k_X7_startTrial, n_X7_startTrial⟩
theorem l_X7_232 : LkV RX7 232 MX7_runTrial 2 := ⟨wl_6 15 rfl rfl, wl_6 17 rfl rfl, wl_inp 23 (by decide +kernel) rfl, wl_1 1 rfl rfl, k_X7_runTrial, n_X7_runTrial⟩
theorem l_X7_236 : LkV RX7 236 MX7_staysWith 2 := ⟨wl_6 45 rfl rfl, wl_6 47 rfl rfl, wl_inp 24 (by decide +kernel) rfl, wl_1 1 rfl rfl, k_X7_staysWith, n_X7_staysWith⟩
theorem l_X7_240 : LkV RX7 240 MX7_daysToInspection 0 := ⟨wl_6 49 rfl rfl, wl_4 198 rfl rfl, wl_4 199 rfl rfl, wl_1 1 rfl rfl, k_X7_daysToInspection, n_X7_daysToInspection⟩
theorem l_X7_243 : LkV RX7 243 MX2_passDay 0 := ⟨wl_6 19 rfl rfl, wl_4 65 rfl rfl, wl_4 66 rfl rfl, wl_1 7 rfl rfl, k_X2_passDay, n_X2_passDay⟩
theorem l_X7_246 : LkV RX7 246 MX2_houses 1 := ⟨wl_6 20 rfl rfl, wl_6 21 rfl rfl, wl_6 22 rfl rfl, wl_1 7 rfl rfl, k_X2_houses, n_X2_houses⟩
theorem l_X7_260 : LkV RX7 260 MX1_remember 1 := ⟨wl_6 58 rfl rfl, wl_6 59 rfl rfl, wl_6 60 rfl rfl, wl_1 13 rfl rfl, k_X1_remember, n_X1_remember⟩
theorem l_X7_266 : LkV RX7 266 MX7_requirePlace 2 := ⟨wl_6 72 rfl rfl, wl_6 74 rfl rfl, wl_inp 25 (by decide +kernel) rfl, wl_1 1 rfl rfl, k_X7_requirePlace, n_X7_requirePlace⟩
theorem l_X7_270 : LkV RX7 270 MX2_unusedLetter 0 := ⟨wl_6 78 rfl rfl, wl_6 79 rfl rfl, wl_6 80 rfl rfl, wl_1 7 rfl rfl, k_X2_unusedLetter, n_X2_unusedLetter⟩
theorem l_X7_274 : LkV RX7 274 MX2_receive 4 := ⟨wl_6 114 rfl rfl, wl_4 37 rfl rfl, wl_4 38 rfl rfl, wl_1 7 rfl rfl, k_X2_receive, n_X2_receive⟩
theorem l_X7_278 : LkV RX7 278 MX2_dismiss 1 := ⟨wl_6 122 rfl rfl, wl_4 121 rfl rfl, wl_4 122 rfl rfl, wl_1 7 rfl rfl, k_X2_dismiss, n_X2_dismiss⟩
theorem l_X7_281 : LkV RX7 281 MX2_takePayment 2 := ⟨wl_6 137 rfl rfl, wl_4 51 rfl rfl, wl_4 52 rfl rfl, wl_1 7 rfl rfl, k_X2_takePayment, n_X2_takePayment⟩
theorem l_X7_285 : LkV RX7 285 MX7_requireSlot 1 := ⟨wl_6 166 rfl rfl, wl_6 168 rfl rfl, wl_inp 27 (by decide +kernel) rfl, wl_1 1 rfl rfl, k_X7_requireSlot, n_X7_requireSlot⟩
theorem l_X7_292 : LkV RX7 292 MX1_takeBack 1 := ⟨wl_6 180 rfl rfl, wl_6 181 rfl rfl, wl_6 182 rfl rfl, wl_1 13 rfl rfl, k_X1_takeBack, n_X1_takeBack⟩
theorem l_X7_295 : LkV RX7 295 MJ4_setLength_d00df 1 := ⟨wl_6 198 rfl rfl, wl_2 174 rfl rfl, wl_2 175 rfl rfl, wl_1 3 rfl rfl, k_J4_setLength_d00df, n_J4_setLength_d00df⟩
theorem l_X7_298 : LkV RX7 298 MJ4_append_15ec4 1 := ⟨wl_6 199 rfl rfl, wl_2 189 rfl rfl, wl_2 190 rfl rfl, wl_1 3 rfl rfl, k_J4_append_15ec4, n_J4_append_15ec4⟩
theorem l_X7_302 : LkV RX7 302 MJ4_append_cf468 1 := ⟨wl_6 200 rfl rfl, wl_4 15 rfl rfl, wl_4 16 rfl rfl, wl_1 3 rfl rfl, k_J4_append_cf468, n_J4_append_cf468⟩
theorem l_X7_305 : LkV RX7 305 MJ4_append_bf812 1 := ⟨wl_6 201 rfl rfl, wl_3 48 rfl rfl, wl_3 49 rfl rfl, wl_1 3 rfl rfl, k_J4_append_bf812, n_J4_append_bf812⟩
theorem l_X7_308 : LkV RX7 308 MJ4_length_8abf5 0 := ⟨wl_6 202 rfl rfl, wl_3 94 rfl rfl, wl_9 99 rfl rfl, wl_1 3 rfl rfl, k_J4_length_8abf5, n_J4_length_8abf5⟩
theorem l_X7_311 : LkV RX7 311 MJ4_charAt_5068e 1 := ⟨wl_6 218 rfl rfl, wl_6 219 rfl rfl, wl_6 220 rfl rfl, wl_1 3 rfl rfl, k_J4_charAt_5068e, n_J4_charAt_5068e⟩
theorem l_X7_322 : LkV RX7 322 MX2_isFullFor 2 := ⟨wl_6 76 rfl rfl, wl_4 33 rfl rfl, wl_4 34 rfl rfl, wl_1 7 rfl rfl, k_X2_isFullFor, n_X2_isFullFor⟩
theorem l_X0_21 : LkV RX0 21 MX0_farthestVowel 1 := ⟨wl_4 84 rfl rfl, wl_4 85 rfl rfl, wl_4 86 rfl rfl, wl_1 8 rfl rfl, k_X0_farthestVowel, n_X0_farthestVowel⟩
theorem l_X1_17 : LkI RX1 17 MX2_init 0 := ⟨wl_2 12 rfl rfl, wl_1 80 rfl rfl, rfl, wl_1 7 rfl rfl, k_X2_init, n_X2_init, rfl⟩
theorem l_X1_25 : LkV RX1 25 MX2_copyFrom 1 := ⟨wl_6 62 rfl rfl, wl_4 126 rfl rfl, wl_4 127 rfl rfl, wl_1 7 rfl rfl, k_X2_copyFrom, n_X2_copyFrom⟩
theorem l_X2_53 : LkV RX2 53 MX0_copyFrom 1 := ⟨wl_4 129 rfl rfl, wl_4 130 rfl rfl, wl_4 131 rfl rfl, wl_1 8 rfl rfl, k_X0_copyFrom, n_X0_copyFrom⟩
theorem l_X2_57 : LkV RX2 57 MX3_copyFrom 1 := ⟨wl_4 134 rfl rfl, wl_4 135 rfl rfl, wl_4 136 rfl rfl, wl_1 9 rfl rfl, k_X3_copyFrom, n_X3_copyFrom⟩
theorem l_X2_63 : LkV RX2 63 MX3_isNamed 3 := ⟨wl_2 163 rfl rfl, wl_2 164 rfl rfl, wl_2 165 rfl rfl, wl_1 9 rfl rfl, k_X3_isNamed, n_X3_isNamed⟩
theorem l_X2_69 : LkV RX2 69 MJ0_length_8abf5 0 := ⟨wl_6 83 rfl rfl, wl_2 26 rfl rfl, wl_2 27 rfl rfl, wl_1 4 rfl rfl, k_J0_length_8abf5, n_J0_length_8abf5⟩
theorem l_X2_75 : LkV RX2 75 MJ0_charAt_5068e 1 := ⟨wl_6 84 rfl rfl, wl_2 35 rfl rfl, wl_2 36 rfl rfl, wl_1 4 rfl rfl, k_J0_charAt_5068e, n_J0_charAt_5068e⟩
theorem l_X2_79 : LkV RX2 79 MX2_hasLetterName 1 := ⟨wl_6 85 rfl rfl, wl_6 87 rfl rfl, wl_inp 26 (by decide +kernel) rfl, wl_1 7 rfl rfl, k_X2_hasLetterName, n_X2_hasLetterName⟩
theorem l_X2_83 : LkV RX2 83 MJ0_substring_37a41 2 := ⟨wl_6 89 rfl rfl, wl_6 90 rfl rfl, wl_6 91 rfl rfl, wl_1 4 rfl rfl, k_J0_substring_37a41, n_J0_substring_37a41⟩
theorem l_X2_100 : LkV RX2 100 MX2_averagePosition 2 := ⟨wl_4 100 rfl rfl, wl_4 101 rfl rfl, wl_4 102 rfl rfl, wl_1 7 rfl rfl, k_X2_averagePosition, n_X2_averagePosition⟩
theorem l_X2_107 : LkV RX2 107 MX0_distanceTo 1 := ⟨wl_4 112 rfl rfl, wl_4 113 rfl rfl, wl_4 114 rfl rfl, wl_1 8 rfl rfl, k_X0_distanceTo, n_X0_distanceTo⟩
theorem l_X2_111 : LkV RX2 111 MX0_rhymesWith 1 := ⟨wl_4 116 rfl rfl, wl_4 117 rfl rfl, wl_4 118 rfl rfl, wl_1 8 rfl rfl, k_X0_rhymesWith, n_X0_rhymesWith⟩
theorem l_X2_124 : LkV RX2 124 MX0_setDigits 1 := ⟨wl_4 40 rfl rfl, wl_2 146 rfl rfl, wl_2 147 rfl rfl, wl_1 8 rfl rfl, k_X0_setDigits, n_X0_setDigits⟩
theorem l_X2_128 : LkV RX2 128 MX2_collectRent 0 := ⟨wl_4 68 rfl rfl, wl_4 70 rfl rfl, wl_inp 13 (by decide +kernel) rfl, wl_1 7 rfl rfl, k_X2_collectRent, n_X2_collectRent⟩
theorem l_X2_131 : LkV RX2 131 MX2_giveLessons 0 := ⟨wl_4 76 rfl rfl, wl_4 78 rfl rfl, wl_inp 14 (by decide +kernel) rfl, wl_1 7 rfl rfl, k_X2_giveLessons, n_X2_giveLessons⟩
theorem l_X2_134 : LkV RX2 134 MX2_serveDinner 1 := ⟨wl_4 88 rfl rfl, wl_4 90 rfl rfl, wl_inp 15 (by decide +kernel) rfl, wl_1 7 rfl rfl, k_X2_serveDinner, n_X2_serveDinner⟩
theorem l_X2_137 : LkV RX2 137 MX2_inspect 0 := ⟨wl_4 104 rfl rfl, wl_4 106 rfl rfl, wl_inp 16 (by decide +kernel) rfl, wl_1 7 rfl rfl, k_X2_inspect, n_X2_inspect⟩
theorem l_X2_140 : LkV RX2 140 MX2_dailyRent 1 := ⟨wl_4 72 rfl rfl, wl_4 73 rfl rfl, wl_4 74 rfl rfl, wl_1 7 rfl rfl, k_X2_dailyRent, n_X2_dailyRent⟩
theorem l_X2_144 : LkV RX2 144 MX0_approach 1 := ⟨wl_4 80 rfl rfl, wl_4 81 rfl rfl, wl_4 82 rfl rfl, wl_1 8 rfl rfl, k_X0_approach, n_X0_approach⟩
theorem l_X2_147 : LkV RX2 147 MX2_crowdOn 1 := ⟨wl_4 92 rfl rfl, wl_4 93 rfl rfl, wl_4 94 rfl rfl, wl_1 7 rfl rfl, k_X2_crowdOn, n_X2_crowdOn⟩
theorem l_X2_150 : LkV RX2 150 MX2_computeAverage 1 := ⟨wl_4 96 rfl rfl, wl_4 97 rfl rfl, wl_4 98 rfl rfl, wl_1 7 rfl rfl, k_X2_computeAverage, n_X2_computeAverage⟩
theorem l_X2_153 : LkV RX2 153 MX2_mustLeave 1 := ⟨wl_4 108 rfl rfl, wl_4 109 rfl rfl, wl_4 110 rfl rfl, wl_1 7 rfl rfl, k_X2_mustLeave, n_X2_mustLeave⟩
theorem l_X2_157 : LkV RX2 157 MX2_dismiss 1 := ⟨wl_4 120 rfl rfl, wl_4 121 rfl rfl, wl_4 122 rfl rfl, wl_1 7 rfl rfl, k_X2_dismiss, n_X2_dismiss⟩
theorem l_X3_38 : LkV RX3 38 MX0_copyFrom 1 := ⟨wl_4 138 rfl rfl, wl_4 130 rfl rfl, wl_4 131 rfl rfl, wl_1 8 rfl rfl, k_X0_copyFrom, n_X0_copyFrom⟩
theorem l_X3_42 : LkV RX3 42 MJ0_length_8abf5 0 := ⟨wl_2 167 rfl rfl, wl_2 26 rfl rfl, wl_2 27 rfl rfl, wl_1 4 rfl rfl, k_J0_length_8abf5, n_J0_length_8abf5⟩
theorem l_X3_48 : LkV RX3 48 MJ0_charAt_5068e 1 := ⟨wl_2 168 rfl rfl, wl_2 35 rfl rfl, wl_2 36 rfl rfl, wl_1 4 rfl rfl, k_J0_charAt_5068e, n_J0_charAt_5068e⟩
theorem l_X4_11 : LkI RX4 11 MX2_init 0 := ⟨wl_1 79 rfl rfl, wl_1 80 rfl rfl, rfl, wl_1 7 rfl rfl, k_X2_init, n_X2_init, rfl⟩
theorem l_X4_28 : LkI RX4 28 MX6_init 1 := ⟨wl_1 193 rfl rfl, wl_1 194 rfl rfl, rfl, wl_1 10 rfl rfl, k_X6_init, n_X6_init, rfl⟩
theorem l_X4_38 : LkV RX4 38 MX6_restart 1 := ⟨wl_2 76 rfl rfl, wl_2 77 rfl rfl, wl_2 78 rfl rfl, wl_1 10 rfl rfl, k_X6_restart, n_X6_restart⟩
theorem l_X4_42 : LkV RX4 42 MX4_readHeader 0 := ⟨wl_2 101 rfl rfl, wl_2 103 rfl rfl, wl_inp 0 (by decide +kernel) rfl, wl_1 6 rfl rfl, k_X4_readHeader, n_X4_readHeader⟩
theorem l_X4_54 : LkV RX4 54 MX6_step 0 := ⟨wl_2 120 rfl rfl, wl_2 86 rfl rfl, wl_2 87 rfl rfl, wl_1 10 rfl rfl, k_X6_step, n_X6_step⟩
theorem l_X4_59 : LkV RX4 59 MX6_isWord 1 := ⟨wl_2 110 rfl rfl, wl_2 111 rfl rfl, wl_2 112 rfl rfl, wl_1 10 rfl rfl, k_X6_isWord, n_X6_isWord⟩
theorem l_X4_63 : LkV RX4 63 MX4_readLodger 0 := ⟨wl_2 150 rfl rfl, wl_2 152 rfl rfl, wl_inp 5 (by decide +kernel) rfl, wl_1 6 rfl rfl, k_X4_readLodger, n_X4_readLodger⟩
theorem l_X4_68 : LkV RX4 68 MX4_readPay 0 := ⟨wl_4 42 rfl rfl, wl_4 44 rfl rfl, wl_inp 9 (by decide +kernel) rfl, wl_1 6 rfl rfl, k_X4_readPay, n_X4_readPay⟩
theorem l_X4_73 : LkV RX4 73 MX4_readMove 0 := ⟨wl_4 55 rfl rfl, wl_4 57 rfl rfl, wl_inp 11 (by decide +kernel) rfl, wl_1 6 rfl rfl, k_X4_readMove, n_X4_readMove⟩
theorem l_X4_78 : LkV RX4 78 MX4_readDays 0 := ⟨wl_4 60 rfl rfl, wl_4 62 rfl rfl, wl_inp 12 (by decide +kernel) rfl, wl_1 6 rfl rfl, k_X4_readDays, n_X4_readDays⟩
theorem l_X4_84 : LkV RX4 84 MX4_fail 2 := ⟨wl_2 121 rfl rfl, wl_2 123 rfl rfl, wl_inp 2 (by decide +kernel) rfl, wl_1 6 rfl rfl, k_X4_fail, n_X4_fail⟩
theorem l_X4_92 : LkV RX4 92 MX4_expectWord 1 := ⟨wl_2 106 rfl rfl, wl_2 108 rfl rfl, wl_inp 1 (by decide +kernel) rfl, wl_1 6 rfl rfl, k_X4_expectWord, n_X4_expectWord⟩
theorem l_X4_96 : LkV RX4 96 MX4_readNumber 2 := ⟨wl_2 125 rfl rfl, wl_2 127 rfl rfl, wl_inp 3 (by decide +kernel) rfl, wl_1 6 rfl rfl, k_X4_readNumber, n_X4_readNumber⟩
theorem l_X4_102 : LkV RX4 102 MX2_open 2 := ⟨wl_2 137 rfl rfl, wl_2 138 rfl rfl, wl_2 139 rfl rfl, wl_1 7 rfl rfl, k_X2_open, n_X2_open⟩
theorem l_X4_108 : LkV RX4 108 MX4_readAccent 0 := ⟨wl_2 141 rfl rfl, wl_2 143 rfl rfl, wl_inp 4 (by decide +kernel) rfl, wl_1 6 rfl rfl, k_X4_readAccent, n_X4_readAccent⟩
theorem l_X4_112 : LkV RX4 112 MX0_setDigits 1 := ⟨wl_2 145 rfl rfl, wl_2 146 rfl rfl, wl_2 147 rfl rfl, wl_1 8 rfl rfl, k_X0_setDigits, n_X0_setDigits⟩
theorem l_X4_120 : LkV RX4 120 MX4_isAtName 0 := ⟨wl_2 154 rfl rfl, wl_2 156 rfl rfl, wl_inp 6 (by decide +kernel) rfl, wl_1 6 rfl rfl, k_X4_isAtName, n_X4_isAtName⟩
theorem l_X4_127 : LkV RX4 127 MX2_numberOf 3 := ⟨wl_2 159 rfl rfl, wl_2 160 rfl rfl, wl_2 161 rfl rfl, wl_1 7 rfl rfl, k_X2_numberOf, n_X2_numberOf⟩
theorem l_X4_131 : LkV RX4 131 MX6_word 0 := ⟨wl_2 169 rfl rfl, wl_2 170 rfl rfl, wl_2 171 rfl rfl, wl_1 10 rfl rfl, k_X6_word, n_X6_word⟩
theorem l_X4_135 : LkV RX4 135 MX4_readFloor 1 := ⟨wl_4 28 rfl rfl, wl_4 30 rfl rfl, wl_inp 8 (by decide +kernel) rfl, wl_1 6 rfl rfl, k_X4_readFloor, n_X4_readFloor⟩
theorem l_X4_139 : LkV RX4 139 MX2_receive 4 := ⟨wl_4 36 rfl rfl, wl_4 37 rfl rfl, wl_4 38 rfl rfl, wl_1 7 rfl rfl, k_X2_receive, n_X2_receive⟩
theorem l_X4_143 : LkV RX4 143 MX4_readKnownName 0 := ⟨wl_4 46 rfl rfl, wl_4 48 rfl rfl, wl_inp 10 (by decide +kernel) rfl, wl_1 6 rfl rfl, k_X4_readKnownName, n_X4_readKnownName⟩
theorem l_X4_147 : LkV RX4 147 MX2_takePayment 2 := ⟨wl_4 50 rfl rfl, wl_4 51 rfl rfl, wl_4 52 rfl rfl, wl_1 7 rfl rfl, k_X2_takePayment, n_X2_takePayment⟩
theorem l_X4_156 : LkV RX4 156 MX2_passDay 0 := ⟨wl_4 64 rfl rfl, wl_4 65 rfl rfl, wl_4 66 rfl rfl, wl_1 7 rfl rfl, k_X2_passDay, n_X2_passDay⟩
theorem l_X4_162 : LkV RX4 162 MX6_size 0 := ⟨wl_2 130 rfl rfl, wl_2 115 rfl rfl, wl_2 116 rfl rfl, wl_1 10 rfl rfl, k_X6_size, n_X6_size⟩
theorem l_X4_172 : LkV RX4 172 MX6_value 0 := ⟨wl_2 131 rfl rfl, wl_2 132 rfl rfl, wl_2 133 rfl rfl, wl_1 10 rfl rfl, k_X6_value, n_X6_value⟩
theorem l_X4_175 : LkV RX4 175 MX2_isFullFor 2 := ⟨wl_4 32 rfl rfl, wl_4 33 rfl rfl, wl_4 34 rfl rfl, wl_1 7 rfl rfl, k_X2_isFullFor, n_X2_isFullFor⟩
theorem l_X6_9 : LkI RX6 9 MJ4_init_da8c8 0 := ⟨wl_1 198 rfl rfl, wl_1 41 rfl rfl, rfl, wl_1 3 rfl rfl, k_J4_init_da8c8, n_J4_init_da8c8, rfl⟩
theorem l_X6_29 : LkS RX6 29 MJ9_min_7cf53 2 := ⟨wl_2 80 rfl rfl, wl_2 81 rfl rfl, wl_1 16 rfl rfl, k_J9_min_7cf53, n_J9_min_7cf53⟩
theorem l_X6_45 : LkV RX6 45 MX6_step 0 := ⟨wl_2 85 rfl rfl, wl_2 86 rfl rfl, wl_2 87 rfl rfl, wl_1 10 rfl rfl, k_X6_step, n_X6_step⟩
theorem l_X6_57 : LkS RX6 57 MX6_isLetter 1 := ⟨wl_2 93 rfl rfl, wl_2 94 rfl rfl, wl_1 10 rfl rfl, k_X6_isLetter, n_X6_isLetter⟩
theorem l_X6_64 : LkS RX6 64 MX6_isDigit 1 := ⟨wl_2 98 rfl rfl, wl_2 99 rfl rfl, wl_1 10 rfl rfl, k_X6_isDigit, n_X6_isDigit⟩
theorem l_X6_67 : LkV RX6 67 MX6_size 0 := ⟨wl_2 114 rfl rfl, wl_2 115 rfl rfl, wl_2 116 rfl rfl, wl_1 10 rfl rfl, k_X6_size, n_X6_size⟩
theorem l_X6_71 : LkV RX6 71 MJ0_length_8abf5 0 := ⟨wl_2 118 rfl rfl, wl_2 26 rfl rfl, wl_2 27 rfl rfl, wl_1 4 rfl rfl, k_J0_length_8abf5, n_J0_length_8abf5⟩
theorem l_X6_75 : LkV RX6 75 MJ0_charAt_5068e 1 := ⟨wl_2 119 rfl rfl, wl_2 35 rfl rfl, wl_2 36 rfl rfl, wl_1 4 rfl rfl, k_J0_charAt_5068e, n_J0_charAt_5068e⟩
theorem l_X6_79 : LkV RX6 79 MJ4_setLength_d00df 1 := ⟨wl_2 173 rfl rfl, wl_2 174 rfl rfl, wl_2 175 rfl rfl, wl_1 3 rfl rfl, k_J4_setLength_d00df, n_J4_setLength_d00df⟩
theorem l_X6_83 : LkV RX6 83 MJ4_append_cf468 1 := ⟨wl_4 14 rfl rfl, wl_4 15 rfl rfl, wl_4 16 rfl rfl, wl_1 3 rfl rfl, k_J4_append_cf468, n_J4_append_cf468⟩
theorem l_X6_87 : LkV RX6 87 MJ4_toString_0e30d 0 := ⟨wl_4 27 rfl rfl, wl_3 73 rfl rfl, wl_3 74 rfl rfl, wl_1 3 rfl rfl, k_J4_toString_0e30d, n_J4_toString_0e30d⟩
theorem l_L_7 : LkV RL 7 MX7_append 5 := ⟨wl_5 4 rfl rfl, wl_5 5 rfl rfl, wl_5 6 rfl rfl, wl_1 1 rfl rfl, k_X7_append, n_X7_append⟩
theorem l_L_15 : LkV RL 15 MX7_load 1 := ⟨wl_5 33 rfl rfl, wl_5 34 rfl rfl, wl_5 35 rfl rfl, wl_1 1 rfl rfl, k_X7_load, n_X7_load⟩
theorem l_L_23 : LkV RL 23 MX7_rentOf 1 := ⟨wl_5 60 rfl rfl, wl_5 61 rfl rfl, wl_5 62 rfl rfl, wl_1 1 rfl rfl, k_X7_rentOf, n_X7_rentOf⟩
theorem l_L_26 : LkV RL 26 MX7_landladyVowel 1 := ⟨wl_5 73 rfl rfl, wl_5 74 rfl rfl, wl_5 75 rfl rfl, wl_1 1 rfl rfl, k_X7_landladyVowel, n_X7_landladyVowel⟩
theorem l_L_29 : LkV RL 29 MX7_floorOf 1 := ⟨wl_5 85 rfl rfl, wl_5 86 rfl rfl, wl_5 87 rfl rfl, wl_1 1 rfl rfl, k_X7_floorOf, n_X7_floorOf⟩
theorem l_L_32 : LkV RL 32 MX7_balanceOf 1 := ⟨wl_5 97 rfl rfl, wl_5 98 rfl rfl, wl_5 99 rfl rfl, wl_1 1 rfl rfl, k_X7_balanceOf, n_X7_balanceOf⟩
theorem l_L_35 : LkV RL 35 MX7_vowelOf 2 := ⟨wl_5 104 rfl rfl, wl_5 105 rfl rfl, wl_5 106 rfl rfl, wl_1 1 rfl rfl, k_X7_vowelOf, n_X7_vowelOf⟩
theorem l_L_39 : LkV RL 39 MX7_lessonsOf 1 := ⟨wl_5 111 rfl rfl, wl_5 112 rfl rfl, wl_5 113 rfl rfl, wl_1 1 rfl rfl, k_X7_lessonsOf, n_X7_lessonsOf⟩
theorem l_L_42 : LkV RL 42 MX7_slipsOf 1 := ⟨wl_5 118 rfl rfl, wl_5 119 rfl rfl, wl_5 120 rfl rfl, wl_1 1 rfl rfl, k_X7_slipsOf, n_X7_slipsOf⟩
theorem l_L_45 : LkV RL 45 MX7_daysStayed 1 := ⟨wl_5 125 rfl rfl, wl_5 126 rfl rfl, wl_5 127 rfl rfl, wl_1 1 rfl rfl, k_X7_daysStayed, n_X7_daysStayed⟩
theorem l_L_48 : LkV RL 48 MX7_nameLength 1 := ⟨wl_5 132 rfl rfl, wl_5 133 rfl rfl, wl_5 134 rfl rfl, wl_1 1 rfl rfl, k_X7_nameLength, n_X7_nameLength⟩
theorem l_L_51 : LkV RL 51 MX7_nameLetter 2 := ⟨wl_5 139 rfl rfl, wl_5 140 rfl rfl, wl_5 141 rfl rfl, wl_1 1 rfl rfl, k_X7_nameLetter, n_X7_nameLetter⟩
theorem l_L_55 : LkV RL 55 MX7_lodgersOn 1 := ⟨wl_5 147 rfl rfl, wl_5 148 rfl rfl, wl_5 149 rfl rfl, wl_1 1 rfl rfl, k_X7_lodgersOn, n_X7_lodgersOn⟩
theorem l_L_58 : LkV RL 58 MX7_lodgerOn 2 := ⟨wl_5 155 rfl rfl, wl_5 156 rfl rfl, wl_5 157 rfl rfl, wl_1 1 rfl rfl, k_X7_lodgerOn, n_X7_lodgerOn⟩
theorem l_L_61 : LkV RL 61 MX7_averageVowel 2 := ⟨wl_5 167 rfl rfl, wl_5 168 rfl rfl, wl_5 169 rfl rfl, wl_1 1 rfl rfl, k_X7_averageVowel, n_X7_averageVowel⟩
theorem l_L_64 : LkV RL 64 MX7_distanceToLandlady 1 := ⟨wl_5 176 rfl rfl, wl_5 177 rfl rfl, wl_5 178 rfl rfl, wl_1 1 rfl rfl, k_X7_distanceToLandlady, n_X7_distanceToLandlady⟩
theorem l_L_67 : LkV RL 67 MX7_distance 2 := ⟨wl_5 183 rfl rfl, wl_5 184 rfl rfl, wl_5 185 rfl rfl, wl_1 1 rfl rfl, k_X7_distance, n_X7_distance⟩
theorem l_L_70 : LkV RL 70 MX7_rhymes 2 := ⟨wl_5 190 rfl rfl, wl_5 191 rfl rfl, wl_5 192 rfl rfl, wl_1 1 rfl rfl, k_X7_rhymes, n_X7_rhymes⟩
theorem l_L_74 : LkV RL 74 MX7_rhymesWithLandlady 1 := ⟨wl_5 197 rfl rfl, wl_5 198 rfl rfl, wl_5 199 rfl rfl, wl_1 1 rfl rfl, k_X7_rhymesWithLandlady, n_X7_rhymesWithLandlady⟩
theorem l_L_78 : LkV RL 78 MX7_rhymeCount 1 := ⟨wl_5 204 rfl rfl, wl_5 205 rfl rfl, wl_5 206 rfl rfl, wl_1 1 rfl rfl, k_X7_rhymeCount, n_X7_rhymeCount⟩
theorem l_L_81 : LkV RL 81 MX7_closestTo 1 := ⟨wl_5 211 rfl rfl, wl_5 212 rfl rfl, wl_5 213 rfl rfl, wl_1 1 rfl rfl, k_X7_closestTo, n_X7_closestTo⟩
theorem l_L_84 : LkV RL 84 MX7_lessonVowel 1 := ⟨wl_5 218 rfl rfl, wl_5 219 rfl rfl, wl_5 220 rfl rfl, wl_1 1 rfl rfl, k_X7_lessonVowel, n_X7_lessonVowel⟩
theorem l_L_87 : LkV RL 87 MX7_slipVowel 1 := ⟨wl_5 226 rfl rfl, wl_5 227 rfl rfl, wl_5 228 rfl rfl, wl_1 1 rfl rfl, k_X7_slipVowel, n_X7_slipVowel⟩
theorem l_L_90 : LkV RL 90 MX7_mustGo 1 := ⟨wl_5 234 rfl rfl, wl_5 235 rfl rfl, wl_5 236 rfl rfl, wl_1 1 rfl rfl, k_X7_mustGo, n_X7_mustGo⟩
theorem l_L_93 : LkV RL 93 MX7_balanceAfter 2 := ⟨wl_6 2 rfl rfl, wl_6 3 rfl rfl, wl_6 4 rfl rfl, wl_1 1 rfl rfl, k_X7_balanceAfter, n_X7_balanceAfter⟩
theorem l_L_96 : LkV RL 96 MX7_distanceAfter 2 := ⟨wl_6 27 rfl rfl, wl_6 28 rfl rfl, wl_6 29 rfl rfl, wl_1 1 rfl rfl, k_X7_distanceAfter, n_X7_distanceAfter⟩
theorem l_L_99 : LkV RL 99 MX7_daysToEviction 1 := ⟨wl_6 34 rfl rfl, wl_6 35 rfl rfl, wl_6 36 rfl rfl, wl_1 1 rfl rfl, k_X7_daysToEviction, n_X7_daysToEviction⟩
theorem l_L_102 : LkV RL 102 MX7_paymentToStay 1 := ⟨wl_6 41 rfl rfl, wl_6 42 rfl rfl, wl_6 43 rfl rfl, wl_1 1 rfl rfl, k_X7_paymentToStay, n_X7_paymentToStay⟩
theorem l_L_105 : LkV RL 105 MX7_advance 1 := ⟨wl_6 53 rfl rfl, wl_6 54 rfl rfl, wl_6 55 rfl rfl, wl_1 1 rfl rfl, k_X7_advance, n_X7_advance⟩
theorem l_L_108 : LkV RL 108 MX7_moveIn 3 := ⟨wl_6 66 rfl rfl, wl_6 67 rfl rfl, wl_6 68 rfl rfl, wl_1 1 rfl rfl, k_X7_moveIn, n_X7_moveIn⟩
theorem l_L_112 : LkV RL 112 MX7_moveOut 1 := ⟨wl_6 118 rfl rfl, wl_6 119 rfl rfl, wl_6 120 rfl rfl, wl_1 1 rfl rfl, k_X7_moveOut, n_X7_moveOut⟩
theorem l_L_115 : LkV RL 115 MX7_moveTo 2 := ⟨wl_6 126 rfl rfl, wl_6 127 rfl rfl, wl_6 128 rfl rfl, wl_1 1 rfl rfl, k_X7_moveTo, n_X7_moveTo⟩
theorem l_L_118 : LkV RL 118 MX7_pay 2 := ⟨wl_6 133 rfl rfl, wl_6 134 rfl rfl, wl_6 135 rfl rfl, wl_1 1 rfl rfl, k_X7_pay, n_X7_pay⟩
theorem l_L_121 : LkV RL 121 MX7_setLandladyVowel 2 := ⟨wl_6 141 rfl rfl, wl_6 142 rfl rfl, wl_6 143 rfl rfl, wl_1 1 rfl rfl, k_X7_setLandladyVowel, n_X7_setLandladyVowel⟩
theorem l_L_124 : LkV RL 124 MX7_setTolerance 1 := ⟨wl_6 148 rfl rfl, wl_6 149 rfl rfl, wl_6 150 rfl rfl, wl_1 1 rfl rfl, k_X7_setTolerance, n_X7_setTolerance⟩
theorem l_L_127 : LkV RL 127 MX7_setBaseRent 1 := ⟨wl_6 155 rfl rfl, wl_6 156 rfl rfl, wl_6 157 rfl rfl, wl_1 1 rfl rfl, k_X7_setBaseRent, n_X7_setBaseRent⟩
theorem l_L_130 : LkV RL 130 MX7_restore 1 := ⟨wl_6 162 rfl rfl, wl_6 163 rfl rfl, wl_6 164 rfl rfl, wl_1 1 rfl rfl, k_X7_restore, n_X7_restore⟩
theorem l_L_133 : LkV RL 133 MX7_undo 0 := ⟨wl_6 175 rfl rfl, wl_6 176 rfl rfl, wl_6 177 rfl rfl, wl_1 1 rfl rfl, k_X7_undo, n_X7_undo⟩
theorem l_L_137 : LkV RL 137 MX7_save 1 := ⟨wl_6 187 rfl rfl, wl_6 188 rfl rfl, wl_6 189 rfl rfl, wl_1 1 rfl rfl, k_X7_save, n_X7_save⟩
theorem l_L_140 : LkV RL 140 MX7_writeLodger 1 := ⟨wl_6 194 rfl rfl, wl_6 195 rfl rfl, wl_6 196 rfl rfl, wl_1 1 rfl rfl, k_X7_writeLodger, n_X7_writeLodger⟩
theorem l_L_143 : LkV RL 143 MX7_writeFloor 1 := ⟨wl_6 206 rfl rfl, wl_6 207 rfl rfl, wl_6 208 rfl rfl, wl_1 1 rfl rfl, k_X7_writeFloor, n_X7_writeFloor⟩
theorem l_L_146 : LkV RL 146 MX7_outputCharacter 1 := ⟨wl_6 213 rfl rfl, wl_6 214 rfl rfl, wl_6 215 rfl rfl, wl_1 1 rfl rfl, k_X7_outputCharacter, n_X7_outputCharacter⟩
theorem l_L_150 : LkI RL 150 MX7_init 0 := ⟨wl_1 32 rfl rfl, wl_1 33 rfl rfl, rfl, wl_1 1 rfl rfl, k_X7_init, n_X7_init, rfl⟩
theorem l_L_153 : LkI RL 153 MX8_init 0 := ⟨wl_6 230 rfl rfl, wl_6 231 rfl rfl, rfl, wl_1 28 rfl rfl, k_X8_init, n_X8_init, rfl⟩
theorem l_L_159 : LkV RL 159 MX8_append 5 := ⟨wl_7 159 rfl rfl, wl_7 160 rfl rfl, wl_7 161 rfl rfl, wl_1 28 rfl rfl, k_X8_append, n_X8_append⟩
theorem l_L_160 : LkV RL 160 MX8_thrown 0 := ⟨wl_7 155 rfl rfl, wl_7 156 rfl rfl, wl_7 157 rfl rfl, wl_1 28 rfl rfl, k_X8_thrown, n_X8_thrown⟩
theorem l_L_166 : LkV RL 166 MX8_load 1 := ⟨wl_7 175 rfl rfl, wl_7 176 rfl rfl, wl_7 177 rfl rfl, wl_1 28 rfl rfl, k_X8_load, n_X8_load⟩
theorem l_L_167 : LkV RL 167 MX7_errorKind 0 := ⟨wl_4 173 rfl rfl, wl_4 174 rfl rfl, wl_4 175 rfl rfl, wl_1 1 rfl rfl, k_X7_errorKind, n_X7_errorKind⟩
theorem l_L_170 : LkV RL 170 MX8_errorKind 0 := ⟨wl_8 32 rfl rfl, wl_8 33 rfl rfl, wl_8 34 rfl rfl, wl_1 28 rfl rfl, k_X8_errorKind, n_X8_errorKind⟩
theorem l_L_171 : LkV RL 171 MX7_errorOffset 0 := ⟨wl_4 177 rfl rfl, wl_4 178 rfl rfl, wl_4 179 rfl rfl, wl_1 1 rfl rfl, k_X7_errorOffset, n_X7_errorOffset⟩
theorem l_L_174 : LkV RL 174 MX8_errorOffset 0 := ⟨wl_8 36 rfl rfl, wl_8 37 rfl rfl, wl_8 38 rfl rfl, wl_1 28 rfl rfl, k_X8_errorOffset, n_X8_errorOffset⟩
theorem l_L_175 : LkV RL 175 MX7_day 0 := ⟨wl_4 181 rfl rfl, wl_4 182 rfl rfl, wl_4 183 rfl rfl, wl_1 1 rfl rfl, k_X7_day, n_X7_day⟩
theorem l_L_178 : LkV RL 178 MX8_day 0 := ⟨wl_8 40 rfl rfl, wl_8 41 rfl rfl, wl_8 42 rfl rfl, wl_1 28 rfl rfl, k_X8_day, n_X8_day⟩
theorem l_L_179 : LkV RL 179 MX7_lodgerCount 0 := ⟨wl_4 185 rfl rfl, wl_4 186 rfl rfl, wl_4 187 rfl rfl, wl_1 1 rfl rfl, k_X7_lodgerCount, n_X7_lodgerCount⟩
theorem l_L_182 : LkV RL 182 MX8_lodgerCount 0 := ⟨wl_8 44 rfl rfl, wl_8 45 rfl rfl, wl_8 46 rfl rfl, wl_1 28 rfl rfl, k_X8_lodgerCount, n_X8_lodgerCount⟩
theorem l_L_183 : LkV RL 183 MX7_baseRent 0 := ⟨wl_4 189 rfl rfl, wl_4 190 rfl rfl, wl_4 191 rfl rfl, wl_1 1 rfl rfl, k_X7_baseRent, n_X7_baseRent⟩
theorem l_L_186 : LkV RL 186 MX8_baseRent 0 := ⟨wl_8 48 rfl rfl, wl_8 49 rfl rfl, wl_8 50 rfl rfl, wl_1 28 rfl rfl, k_X8_baseRent, n_X8_baseRent⟩
theorem l_L_187 : LkV RL 187 MX7_tolerance 0 := ⟨wl_4 193 rfl rfl, wl_4 194 rfl rfl, wl_4 195 rfl rfl, wl_1 1 rfl rfl, k_X7_tolerance, n_X7_tolerance⟩
theorem l_L_190 : LkV RL 190 MX8_tolerance 0 := ⟨wl_8 52 rfl rfl, wl_8 53 rfl rfl, wl_8 54 rfl rfl, wl_1 28 rfl rfl, k_X8_tolerance, n_X8_tolerance⟩
theorem l_L_193 : LkV RL 193 MX8_rentOf 1 := ⟨wl_8 56 rfl rfl, wl_8 57 rfl rfl, wl_8 58 rfl rfl, wl_1 28 rfl rfl, k_X8_rentOf, n_X8_rentOf⟩
theorem l_L_196 : LkV RL 196 MX8_landladyVowel 1 := ⟨wl_8 63 rfl rfl, wl_8 64 rfl rfl, wl_8 65 rfl rfl, wl_1 28 rfl rfl, k_X8_landladyVowel, n_X8_landladyVowel⟩
theorem l_L_197 : LkV RL 197 MX7_daysToInspection 0 := ⟨wl_4 197 rfl rfl, wl_4 198 rfl rfl, wl_4 199 rfl rfl, wl_1 1 rfl rfl, k_X7_daysToInspection, n_X7_daysToInspection⟩
theorem l_L_200 : LkV RL 200 MX8_daysToInspection 0 := ⟨wl_8 70 rfl rfl, wl_8 71 rfl rfl, wl_8 72 rfl rfl, wl_1 28 rfl rfl, k_X8_daysToInspection, n_X8_daysToInspection⟩
theorem l_L_201 : LkV RL 201 MX7_evictions 0 := ⟨wl_4 201 rfl rfl, wl_4 202 rfl rfl, wl_4 203 rfl rfl, wl_1 1 rfl rfl, k_X7_evictions, n_X7_evictions⟩
theorem l_L_204 : LkV RL 204 MX8_evictions 0 := ⟨wl_8 78 rfl rfl, wl_8 79 rfl rfl, wl_8 80 rfl rfl, wl_1 28 rfl rfl, k_X8_evictions, n_X8_evictions⟩
theorem l_L_205 : LkV RL 205 MX7_undoCount 0 := ⟨wl_4 205 rfl rfl, wl_4 206 rfl rfl, wl_4 207 rfl rfl, wl_1 1 rfl rfl, k_X7_undoCount, n_X7_undoCount⟩
theorem l_L_208 : LkV RL 208 MX8_undoCount 0 := ⟨wl_8 82 rfl rfl, wl_8 83 rfl rfl, wl_8 84 rfl rfl, wl_1 28 rfl rfl, k_X8_undoCount, n_X8_undoCount⟩
theorem l_L_211 : LkV RL 211 MX8_floorOf 1 := ⟨wl_8 86 rfl rfl, wl_8 87 rfl rfl, wl_8 88 rfl rfl, wl_1 28 rfl rfl, k_X8_floorOf, n_X8_floorOf⟩
theorem l_L_214 : LkV RL 214 MX8_balanceOf 1 := ⟨wl_8 98 rfl rfl, wl_8 99 rfl rfl, wl_8 100 rfl rfl, wl_1 28 rfl rfl, k_X8_balanceOf, n_X8_balanceOf⟩
theorem l_L_218 : LkV RL 218 MX8_vowelOf 2 := ⟨wl_8 102 rfl rfl, wl_8 103 rfl rfl, wl_8 104 rfl rfl, wl_1 28 rfl rfl, k_X8_vowelOf, n_X8_vowelOf⟩
theorem l_L_221 : LkV RL 221 MX8_lessonsOf 1 := ⟨wl_8 106 rfl rfl, wl_8 107 rfl rfl, wl_8 108 rfl rfl, wl_1 28 rfl rfl, k_X8_lessonsOf, n_X8_lessonsOf⟩
theorem l_L_224 : LkV RL 224 MX8_slipsOf 1 := ⟨wl_8 110 rfl rfl, wl_8 111 rfl rfl, wl_8 112 rfl rfl, wl_1 28 rfl rfl, k_X8_slipsOf, n_X8_slipsOf⟩
theorem l_L_227 : LkV RL 227 MX8_daysStayed 1 := ⟨wl_8 114 rfl rfl, wl_8 115 rfl rfl, wl_8 116 rfl rfl, wl_1 28 rfl rfl, k_X8_daysStayed, n_X8_daysStayed⟩
theorem l_L_230 : LkV RL 230 MX8_nameLength 1 := ⟨wl_8 118 rfl rfl, wl_8 119 rfl rfl, wl_8 120 rfl rfl, wl_1 28 rfl rfl, k_X8_nameLength, n_X8_nameLength⟩
theorem l_L_233 : LkV RL 233 MX8_nameLetter 2 := ⟨wl_8 126 rfl rfl, wl_8 127 rfl rfl, wl_8 128 rfl rfl, wl_1 28 rfl rfl, k_X8_nameLetter, n_X8_nameLetter⟩
theorem l_L_234 : LkV RL 234 MX7_findByName 0 := ⟨wl_4 209 rfl rfl, wl_4 210 rfl rfl, wl_4 211 rfl rfl, wl_1 1 rfl rfl, k_X7_findByName, n_X7_findByName⟩
theorem l_L_237 : LkV RL 237 MX8_findByName 0 := ⟨wl_8 130 rfl rfl, wl_8 131 rfl rfl, wl_8 132 rfl rfl, wl_1 28 rfl rfl, k_X8_findByName, n_X8_findByName⟩
theorem l_L_240 : LkV RL 240 MX8_lodgersOn 1 := ⟨wl_8 134 rfl rfl, wl_8 135 rfl rfl, wl_8 136 rfl rfl, wl_1 28 rfl rfl, k_X8_lodgersOn, n_X8_lodgersOn⟩
theorem l_L_243 : LkV RL 243 MX8_lodgerOn 2 := ⟨wl_8 138 rfl rfl, wl_8 139 rfl rfl, wl_8 140 rfl rfl, wl_1 28 rfl rfl, k_X8_lodgerOn, n_X8_lodgerOn⟩
theorem l_L_246 : LkV RL 246 MX8_averageVowel 2 := ⟨wl_8 142 rfl rfl, wl_8 143 rfl rfl, wl_8 144 rfl rfl, wl_1 28 rfl rfl, k_X8_averageVowel, n_X8_averageVowel⟩
theorem l_L_249 : LkV RL 249 MX8_distanceToLandlady 1 := ⟨wl_8 146 rfl rfl, wl_8 147 rfl rfl, wl_8 148 rfl rfl, wl_1 28 rfl rfl, k_X8_distanceToLandlady, n_X8_distanceToLandlady⟩
theorem l_L_252 : LkV RL 252 MX8_distance 2 := ⟨wl_8 150 rfl rfl, wl_8 151 rfl rfl, wl_8 152 rfl rfl, wl_1 28 rfl rfl, k_X8_distance, n_X8_distance⟩
theorem l_L_255 : LkV RL 255 MX8_rhymes 2 := ⟨wl_8 158 rfl rfl, wl_8 159 rfl rfl, wl_8 160 rfl rfl, wl_1 28 rfl rfl, k_X8_rhymes, n_X8_rhymes⟩
theorem l_L_258 : LkV RL 258 MX8_rhymesWithLandlady 1 := ⟨wl_8 174 rfl rfl, wl_8 175 rfl rfl, wl_8 176 rfl rfl, wl_1 28 rfl rfl, k_X8_rhymesWithLandlady, n_X8_rhymesWithLandlady⟩
theorem l_L_261 : LkV RL 261 MX8_rhymeCount 1 := ⟨wl_8 178 rfl rfl, wl_8 179 rfl rfl, wl_8 180 rfl rfl, wl_1 28 rfl rfl, k_X8_rhymeCount, n_X8_rhymeCount⟩
theorem l_L_264 : LkV RL 264 MX8_closestTo 1 := ⟨wl_8 182 rfl rfl, wl_8 183 rfl rfl, wl_8 184 rfl rfl, wl_1 28 rfl rfl, k_X8_closestTo, n_X8_closestTo⟩
theorem l_L_267 : LkV RL 267 MX8_lessonVowel 1 := ⟨wl_8 186 rfl rfl, wl_8 187 rfl rfl, wl_8 188 rfl rfl, wl_1 28 rfl rfl, k_X8_lessonVowel, n_X8_lessonVowel⟩
theorem l_L_270 : LkV RL 270 MX8_slipVowel 1 := ⟨wl_8 190 rfl rfl, wl_8 191 rfl rfl, wl_8 192 rfl rfl, wl_1 28 rfl rfl, k_X8_slipVowel, n_X8_slipVowel⟩
theorem l_L_273 : LkV RL 273 MX8_mustGo 1 := ⟨wl_8 194 rfl rfl, wl_8 195 rfl rfl, wl_8 196 rfl rfl, wl_1 28 rfl rfl, k_X8_mustGo, n_X8_mustGo⟩
theorem l_L_274 : LkV RL 274 MX7_meanDistance 0 := ⟨wl_4 214 rfl rfl, wl_4 215 rfl rfl, wl_4 216 rfl rfl, wl_1 1 rfl rfl, k_X7_meanDistance, n_X7_meanDistance⟩
theorem l_L_278 : LkV RL 278 MX8_meanDistance 0 := ⟨wl_8 198 rfl rfl, wl_8 199 rfl rfl, wl_8 200 rfl rfl, wl_1 28 rfl rfl, k_X8_meanDistance, n_X8_meanDistance⟩
theorem l_L_279 : LkV RL 279 MX7_rhymingShare 0 := ⟨wl_4 219 rfl rfl, wl_4 220 rfl rfl, wl_4 221 rfl rfl, wl_1 1 rfl rfl, k_X7_rhymingShare, n_X7_rhymingShare⟩
theorem l_L_283 : LkV RL 283 MX8_rhymingShare 0 := ⟨wl_8 202 rfl rfl, wl_8 203 rfl rfl, wl_8 204 rfl rfl, wl_1 28 rfl rfl, k_X8_rhymingShare, n_X8_rhymingShare⟩
theorem l_L_286 : LkV RL 286 MX8_balanceAfter 2 := ⟨wl_8 206 rfl rfl, wl_8 207 rfl rfl, wl_8 208 rfl rfl, wl_1 28 rfl rfl, k_X8_balanceAfter, n_X8_balanceAfter⟩
theorem l_L_289 : LkV RL 289 MX8_distanceAfter 2 := ⟨wl_8 214 rfl rfl, wl_8 215 rfl rfl, wl_8 216 rfl rfl, wl_1 28 rfl rfl, k_X8_distanceAfter, n_X8_distanceAfter⟩
theorem l_L_292 : LkV RL 292 MX8_daysToEviction 1 := ⟨wl_8 218 rfl rfl, wl_8 219 rfl rfl, wl_8 220 rfl rfl, wl_1 28 rfl rfl, k_X8_daysToEviction, n_X8_daysToEviction⟩
theorem l_L_295 : LkV RL 295 MX8_paymentToStay 1 := ⟨wl_8 222 rfl rfl, wl_8 223 rfl rfl, wl_8 224 rfl rfl, wl_1 28 rfl rfl, k_X8_paymentToStay, n_X8_paymentToStay⟩
theorem l_L_296 : LkV RL 296 MX7_totalPaid 0 := ⟨wl_4 224 rfl rfl, wl_4 225 rfl rfl, wl_4 226 rfl rfl, wl_1 1 rfl rfl, k_X7_totalPaid, n_X7_totalPaid⟩
theorem l_L_299 : LkV RL 299 MX8_totalPaid 0 := ⟨wl_8 230 rfl rfl, wl_8 231 rfl rfl, wl_8 232 rfl rfl, wl_1 28 rfl rfl, k_X8_totalPaid, n_X8_totalPaid⟩
theorem l_L_300 : LkV RL 300 MX7_totalCharged 0 := ⟨wl_4 228 rfl rfl, wl_4 229 rfl rfl, wl_4 230 rfl rfl, wl_1 1 rfl rfl, k_X7_totalCharged, n_X7_totalCharged⟩
theorem l_L_303 : LkV RL 303 MX8_totalCharged 0 := ⟨wl_8 234 rfl rfl, wl_8 235 rfl rfl, wl_8 236 rfl rfl, wl_1 28 rfl rfl, k_X8_totalCharged, n_X8_totalCharged⟩
theorem l_L_304 : LkV RL 304 MX7_settled 0 := ⟨wl_4 232 rfl rfl, wl_4 233 rfl rfl, wl_4 234 rfl rfl, wl_1 1 rfl rfl, k_X7_settled, n_X7_settled⟩
theorem l_L_307 : LkV RL 307 MX8_settled 0 := ⟨wl_8 238 rfl rfl, wl_8 239 rfl rfl, wl_9 0 rfl rfl, wl_1 28 rfl rfl, k_X8_settled, n_X8_settled⟩
theorem l_L_308 : LkV RL 308 MX7_ledgerDifference 0 := ⟨wl_4 236 rfl rfl, wl_4 237 rfl rfl, wl_4 238 rfl rfl, wl_1 1 rfl rfl, k_X7_ledgerDifference, n_X7_ledgerDifference⟩
theorem l_L_311 : LkV RL 311 MX8_ledgerDifference 0 := ⟨wl_9 2 rfl rfl, wl_9 3 rfl rfl, wl_9 4 rfl rfl, wl_1 28 rfl rfl, k_X8_ledgerDifference, n_X8_ledgerDifference⟩
theorem l_L_314 : LkV RL 314 MX8_advance 1 := ⟨wl_9 6 rfl rfl, wl_9 7 rfl rfl, wl_9 8 rfl rfl, wl_1 28 rfl rfl, k_X8_advance, n_X8_advance⟩
theorem l_L_318 : LkV RL 318 MX8_moveIn 3 := ⟨wl_9 14 rfl rfl, wl_9 15 rfl rfl, wl_9 16 rfl rfl, wl_1 28 rfl rfl, k_X8_moveIn, n_X8_moveIn⟩
theorem l_L_321 : LkV RL 321 MX8_moveOut 1 := ⟨wl_9 23 rfl rfl, wl_9 24 rfl rfl, wl_9 25 rfl rfl, wl_1 28 rfl rfl, k_X8_moveOut, n_X8_moveOut⟩
theorem l_L_324 : LkV RL 324 MX8_moveTo 2 := ⟨wl_9 27 rfl rfl, wl_9 28 rfl rfl, wl_9 29 rfl rfl, wl_1 28 rfl rfl, k_X8_moveTo, n_X8_moveTo⟩
theorem l_L_327 : LkV RL 327 MX8_pay 2 := ⟨wl_9 35 rfl rfl, wl_9 36 rfl rfl, wl_9 37 rfl rfl, wl_1 28 rfl rfl, k_X8_pay, n_X8_pay⟩
theorem l_L_330 : LkV RL 330 MX8_setLandladyVowel 2 := ⟨wl_9 39 rfl rfl, wl_9 40 rfl rfl, wl_9 41 rfl rfl, wl_1 28 rfl rfl, k_X8_setLandladyVowel, n_X8_setLandladyVowel⟩
theorem l_L_333 : LkV RL 333 MX8_setTolerance 1 := ⟨wl_9 43 rfl rfl, wl_9 44 rfl rfl, wl_9 45 rfl rfl, wl_1 28 rfl rfl, k_X8_setTolerance, n_X8_setTolerance⟩
theorem l_L_336 : LkV RL 336 MX8_setBaseRent 1 := ⟨wl_9 47 rfl rfl, wl_9 48 rfl rfl, wl_9 49 rfl rfl, wl_1 28 rfl rfl, k_X8_setBaseRent, n_X8_setBaseRent⟩
theorem l_L_339 : LkV RL 339 MX8_restore 1 := ⟨wl_9 51 rfl rfl, wl_9 52 rfl rfl, wl_9 53 rfl rfl, wl_1 28 rfl rfl, k_X8_restore, n_X8_restore⟩
theorem l_L_343 : LkV RL 343 MX8_undo 0 := ⟨wl_9 55 rfl rfl, wl_9 56 rfl rfl, wl_9 57 rfl rfl, wl_1 28 rfl rfl, k_X8_undo, n_X8_undo⟩
theorem l_L_346 : LkV RL 346 MX8_save 1 := ⟨wl_9 59 rfl rfl, wl_9 60 rfl rfl, wl_9 61 rfl rfl, wl_1 28 rfl rfl, k_X8_save, n_X8_save⟩
theorem l_L_349 : LkV RL 349 MX8_writeLodger 1 := ⟨wl_9 63 rfl rfl, wl_9 64 rfl rfl, wl_9 65 rfl rfl, wl_1 28 rfl rfl, k_X8_writeLodger, n_X8_writeLodger⟩
theorem l_L_352 : LkV RL 352 MX8_writeFloor 1 := ⟨wl_9 79 rfl rfl, wl_9 80 rfl rfl, wl_9 81 rfl rfl, wl_1 28 rfl rfl, k_X8_writeFloor, n_X8_writeFloor⟩
theorem l_L_355 : LkV RL 355 MX8_outputCharacter 1 := ⟨wl_9 83 rfl rfl, wl_9 84 rfl rfl, wl_9 85 rfl rfl, wl_1 28 rfl rfl, k_X8_outputCharacter, n_X8_outputCharacter⟩
theorem l_X8_52 : LkV RX8 52 MX8_comes 3 := ⟨wl_6 237 rfl rfl, wl_6 239 rfl rfl, wl_inp 28 (by decide +kernel) rfl, wl_1 28 rfl rfl, k_X8_comes, n_X8_comes⟩
theorem l_X8_56 : LkS RX8 56 MX8_l 1 := ⟨wl_7 1 rfl rfl, wl_7 2 rfl rfl, wl_1 28 rfl rfl, k_X8_l, n_X8_l⟩
theorem l_X8_60 : LkV RX8 60 MX8_passesDay 0 := ⟨wl_7 4 rfl rfl, wl_7 6 rfl rfl, wl_inp 29 (by decide +kernel) rfl, wl_1 28 rfl rfl, k_X8_passesDay, n_X8_passesDay⟩
theorem l_X8_66 : LkS RX8 66 MX8_in 3 := ⟨wl_7 179 rfl rfl, wl_7 180 rfl rfl, wl_1 28 rfl rfl, k_X8_in, n_X8_in⟩
theorem l_X8_73 : LkV RX8 73 MX8_at 2 := ⟨wl_7 24 rfl rfl, wl_7 26 rfl rfl, wl_inp 34 (by decide +kernel) rfl, wl_1 28 rfl rfl, k_X8_at, n_X8_at⟩
theorem l_X8_77 : LkS RX8 77 MX8_without 1 := ⟨wl_7 28 rfl rfl, wl_7 29 rfl rfl, wl_1 28 rfl rfl, k_X8_without, n_X8_without⟩
theorem l_X8_80 : LkV RX8 80 MX8_livingOn 2 := ⟨wl_7 39 rfl rfl, wl_7 41 rfl rfl, wl_inp 37 (by decide +kernel) rfl, wl_1 28 rfl rfl, k_X8_livingOn, n_X8_livingOn⟩
theorem l_X8_83 : LkV RX8 83 MX8_averageAt 2 := ⟨wl_7 43 rfl rfl, wl_7 45 rfl rfl, wl_inp 38 (by decide +kernel) rfl, wl_1 28 rfl rfl, k_X8_averageAt, n_X8_averageAt⟩
theorem l_X8_86 : LkV RX8 86 MX8_toLandlady 1 := ⟨wl_7 63 rfl rfl, wl_7 65 rfl rfl, wl_inp 43 (by decide +kernel) rfl, wl_1 28 rfl rfl, k_X8_toLandlady, n_X8_toLandlady⟩
theorem l_X8_89 : LkV RX8 89 MX8_rhymesHer 1 := ⟨wl_7 67 rfl rfl, wl_7 69 rfl rfl, wl_inp 44 (by decide +kernel) rfl, wl_1 28 rfl rfl, k_X8_rhymesHer, n_X8_rhymesHer⟩
theorem l_X8_93 : LkV RX8 93 MX8_rentAt 1 := ⟨wl_7 12 rfl rfl, wl_7 14 rfl rfl, wl_inp 31 (by decide +kernel) rfl, wl_1 28 rfl rfl, k_X8_rentAt, n_X8_rentAt⟩
theorem l_X8_96 : LkV RX8 96 MX8_lessonFor 1 := ⟨wl_7 20 rfl rfl, wl_7 22 rfl rfl, wl_inp 33 (by decide +kernel) rfl, wl_1 28 rfl rfl, k_X8_lessonFor, n_X8_lessonFor⟩
theorem l_X8_99 : LkV RX8 99 MX8_moves 3 := ⟨wl_7 31 rfl rfl, wl_7 33 rfl rfl, wl_inp 35 (by decide +kernel) rfl, wl_1 28 rfl rfl, k_X8_moves, n_X8_moves⟩
theorem l_X8_102 : LkV RX8 102 MX8_slipFor 1 := ⟨wl_7 51 rfl rfl, wl_7 53 rfl rfl, wl_inp 40 (by decide +kernel) rfl, wl_1 28 rfl rfl, k_X8_slipFor, n_X8_slipFor⟩
theorem l_X8_105 : LkV RX8 105 MX8_hasToGo 1 := ⟨wl_7 59 rfl rfl, wl_7 61 rfl rfl, wl_inp 42 (by decide +kernel) rfl, wl_1 28 rfl rfl, k_X8_hasToGo, n_X8_hasToGo⟩
theorem l_X8_108 : LkV RX8 108 MX8_goes 1 := ⟨wl_7 71 rfl rfl, wl_7 73 rfl rfl, wl_inp 45 (by decide +kernel) rfl, wl_1 28 rfl rfl, k_X8_goes, n_X8_goes⟩
theorem l_X8_112 : LkV RX8 112 MX8_charges 1 := ⟨wl_7 8 rfl rfl, wl_7 10 rfl rfl, wl_inp 30 (by decide +kernel) rfl, wl_1 28 rfl rfl, k_X8_charges, n_X8_charges⟩
theorem l_X8_115 : LkV RX8 115 MX8_teaches 1 := ⟨wl_7 16 rfl rfl, wl_7 18 rfl rfl, wl_inp 32 (by decide +kernel) rfl, wl_1 28 rfl rfl, k_X8_teaches, n_X8_teaches⟩
theorem l_X8_118 : LkV RX8 118 MX8_averagesNow 0 := ⟨wl_7 35 rfl rfl, wl_7 37 rfl rfl, wl_inp 36 (by decide +kernel) rfl, wl_1 28 rfl rfl, k_X8_averagesNow, n_X8_averagesNow⟩
theorem l_X8_121 : LkV RX8 121 MX8_dines 1 := ⟨wl_7 47 rfl rfl, wl_7 49 rfl rfl, wl_inp 39 (by decide +kernel) rfl, wl_1 28 rfl rfl, k_X8_dines, n_X8_dines⟩
theorem l_X8_124 : LkV RX8 124 MX8_inspects 0 := ⟨wl_7 55 rfl rfl, wl_7 57 rfl rfl, wl_inp 41 (by decide +kernel) rfl, wl_1 28 rfl rfl, k_X8_inspects, n_X8_inspects⟩
theorem l_X8_142 : LkS RX8 142 MX8_isLetter 1 := ⟨wl_7 194 rfl rfl, wl_7 195 rfl rfl, wl_1 28 rfl rfl, k_X8_isLetter, n_X8_isLetter⟩
theorem l_X8_145 : LkS RX8 145 MX8_isDigit 1 := ⟨wl_7 197 rfl rfl, wl_7 198 rfl rfl, wl_1 28 rfl rfl, k_X8_isDigit, n_X8_isDigit⟩
theorem l_X8_157 : LkV RX8 157 MX8_next 0 := ⟨wl_7 190 rfl rfl, wl_7 192 rfl rfl, wl_inp 51 (by decide +kernel) rfl, wl_1 28 rfl rfl, k_X8_next, n_X8_next⟩
theorem l_X8_160 : LkV RX8 160 MX8_errs 1 := ⟨wl_7 208 rfl rfl, wl_7 210 rfl rfl, wl_inp 54 (by decide +kernel) rfl, wl_1 28 rfl rfl, k_X8_errs, n_X8_errs⟩
theorem l_X8_163 : LkV RX8 163 MX8_here 2 := ⟨wl_7 220 rfl rfl, wl_7 222 rfl rfl, wl_inp 57 (by decide +kernel) rfl, wl_1 28 rfl rfl, k_X8_here, n_X8_here⟩
theorem l_X8_166 : LkV RX8 166 MX8_goesOn 0 := ⟨wl_7 212 rfl rfl, wl_7 214 rfl rfl, wl_inp 55 (by decide +kernel) rfl, wl_1 28 rfl rfl, k_X8_goesOn, n_X8_goesOn⟩
theorem l_X8_169 : LkV RX8 169 MX8_isKey 1 := ⟨wl_7 204 rfl rfl, wl_7 206 rfl rfl, wl_inp 53 (by decide +kernel) rfl, wl_1 28 rfl rfl, k_X8_isKey, n_X8_isKey⟩
theorem l_X8_172 : LkV RX8 172 MX8_takesNumber 2 := ⟨wl_7 216 rfl rfl, wl_7 218 rfl rfl, wl_inp 56 (by decide +kernel) rfl, wl_1 28 rfl rfl, k_X8_takesNumber, n_X8_takesNumber⟩
theorem l_X8_175 : LkV RX8 175 MX8_isName 0 := ⟨wl_7 236 rfl rfl, wl_7 238 rfl rfl, wl_inp 61 (by decide +kernel) rfl, wl_1 28 rfl rfl, k_X8_isName, n_X8_isName⟩
theorem l_X8_178 : LkV RX8 178 MX8_lodgerNamed 2 := ⟨wl_8 0 rfl rfl, wl_8 2 rfl rfl, wl_inp 62 (by decide +kernel) rfl, wl_1 28 rfl rfl, k_X8_lodgerNamed, n_X8_lodgerNamed⟩
theorem l_X8_181 : LkV RX8 181 MX8_takesAccent 0 := ⟨wl_8 4 rfl rfl, wl_8 6 rfl rfl, wl_inp 63 (by decide +kernel) rfl, wl_1 28 rfl rfl, k_X8_takesAccent, n_X8_takesAccent⟩
theorem l_X8_185 : LkV RX8 185 MX8_takesLodger 0 := ⟨wl_8 12 rfl rfl, wl_8 14 rfl rfl, wl_inp 65 (by decide +kernel) rfl, wl_1 28 rfl rfl, k_X8_takesLodger, n_X8_takesLodger⟩
theorem l_X8_188 : LkV RX8 188 MX8_pays 2 := ⟨wl_8 16 rfl rfl, wl_8 18 rfl rfl, wl_inp 66 (by decide +kernel) rfl, wl_1 28 rfl rfl, k_X8_pays, n_X8_pays⟩
theorem l_X8_192 : LkV RX8 192 MX8_readsLodger 0 := ⟨wl_7 232 rfl rfl, wl_7 234 rfl rfl, wl_inp 60 (by decide +kernel) rfl, wl_1 28 rfl rfl, k_X8_readsLodger, n_X8_readsLodger⟩
theorem l_X8_195 : LkV RX8 195 MX8_readsPay 0 := ⟨wl_8 8 rfl rfl, wl_8 10 rfl rfl, wl_inp 64 (by decide +kernel) rfl, wl_1 28 rfl rfl, k_X8_readsPay, n_X8_readsPay⟩
theorem l_X8_198 : LkV RX8 198 MX8_readsMove 0 := ⟨wl_8 20 rfl rfl, wl_8 22 rfl rfl, wl_inp 67 (by decide +kernel) rfl, wl_1 28 rfl rfl, k_X8_readsMove, n_X8_readsMove⟩
theorem l_X8_201 : LkV RX8 201 MX8_passes 1 := ⟨wl_8 24 rfl rfl, wl_8 26 rfl rfl, wl_inp 68 (by decide +kernel) rfl, wl_1 28 rfl rfl, k_X8_passes, n_X8_passes⟩
theorem l_X8_204 : LkV RX8 204 MX8_takesWord 1 := ⟨wl_7 200 rfl rfl, wl_7 202 rfl rfl, wl_inp 52 (by decide +kernel) rfl, wl_1 28 rfl rfl, k_X8_takesWord, n_X8_takesWord⟩
theorem l_X8_207 : LkV RX8 207 MX8_takesSemicolon 0 := ⟨wl_7 224 rfl rfl, wl_7 226 rfl rfl, wl_inp 58 (by decide +kernel) rfl, wl_1 28 rfl rfl, k_X8_takesSemicolon, n_X8_takesSemicolon⟩
theorem l_X8_210 : LkV RX8 210 MX8_readsLine 0 := ⟨wl_7 228 rfl rfl, wl_7 230 rfl rfl, wl_inp 59 (by decide +kernel) rfl, wl_1 28 rfl rfl, k_X8_readsLine, n_X8_readsLine⟩
theorem l_X8_216 : LkV RX8 216 MX8_refuse 1 := ⟨wl_7 163 rfl rfl, wl_7 165 rfl rfl, wl_inp 46 (by decide +kernel) rfl, wl_1 28 rfl rfl, k_X8_refuse, n_X8_refuse⟩
theorem l_X8_219 : LkV RX8 219 MX8_feeds 1 := ⟨wl_7 167 rfl rfl, wl_7 169 rfl rfl, wl_inp 47 (by decide +kernel) rfl, wl_1 28 rfl rfl, k_X8_feeds, n_X8_feeds⟩
theorem l_X8_222 : LkV RX8 222 MX8_told 1 := ⟨wl_7 171 rfl rfl, wl_7 173 rfl rfl, wl_inp 48 (by decide +kernel) rfl, wl_1 28 rfl rfl, k_X8_told, n_X8_told⟩
theorem l_X8_225 : LkV RX8 225 MX8_putsAside 0 := ⟨wl_7 182 rfl rfl, wl_7 184 rfl rfl, wl_inp 49 (by decide +kernel) rfl, wl_1 28 rfl rfl, k_X8_putsAside, n_X8_putsAside⟩
theorem l_X8_228 : LkV RX8 228 MX8_readsText 1 := ⟨wl_7 186 rfl rfl, wl_7 188 rfl rfl, wl_inp 50 (by decide +kernel) rfl, wl_1 28 rfl rfl, k_X8_readsText, n_X8_readsText⟩
theorem l_X8_234 : LkV RX8 234 MX8_putsBack 0 := ⟨wl_8 28 rfl rfl, wl_8 30 rfl rfl, wl_inp 69 (by decide +kernel) rfl, wl_1 28 rfl rfl, k_X8_putsBack, n_X8_putsBack⟩
theorem l_X8_240 : LkS RX8 240 MX8_isFloor 1 := ⟨wl_8 60 rfl rfl, wl_8 61 rfl rfl, wl_1 28 rfl rfl, k_X8_isFloor, n_X8_isFloor⟩
theorem l_X8_243 : LkS RX8 243 MX8_isVowel 1 := ⟨wl_8 67 rfl rfl, wl_8 68 rfl rfl, wl_1 28 rfl rfl, k_X8_isVowel, n_X8_isVowel⟩
theorem l_X8_246 : LkV RX8 246 MX8_daysLeft 0 := ⟨wl_8 74 rfl rfl, wl_8 76 rfl rfl, wl_inp 70 (by decide +kernel) rfl, wl_1 28 rfl rfl, k_X8_daysLeft, n_X8_daysLeft⟩
theorem l_X8_249 : LkV RX8 249 MX8_isLodger 1 := ⟨wl_8 94 rfl rfl, wl_8 96 rfl rfl, wl_inp 72 (by decide +kernel) rfl, wl_1 28 rfl rfl, k_X8_isLodger, n_X8_isLodger⟩
theorem l_X8_252 : LkV RX8 252 MX8_ofLodger 2 := ⟨wl_8 90 rfl rfl, wl_8 92 rfl rfl, wl_inp 71 (by decide +kernel) rfl, wl_1 28 rfl rfl, k_X8_ofLodger, n_X8_ofLodger⟩
theorem l_X8_255 : LkV RX8 255 MX8_lettersOf 1 := ⟨wl_8 122 rfl rfl, wl_8 124 rfl rfl, wl_inp 73 (by decide +kernel) rfl, wl_1 28 rfl rfl, k_X8_lettersOf, n_X8_lettersOf⟩
theorem l_X8_258 : LkV RX8 258 MX8_between 2 := ⟨wl_8 154 rfl rfl, wl_8 156 rfl rfl, wl_inp 74 (by decide +kernel) rfl, wl_1 28 rfl rfl, k_X8_between, n_X8_between⟩
theorem l_X8_261 : LkV RX8 261 MX8_rhyme 2 := ⟨wl_8 162 rfl rfl, wl_8 164 rfl rfl, wl_inp 75 (by decide +kernel) rfl, wl_1 28 rfl rfl, k_X8_rhyme, n_X8_rhyme⟩
theorem l_X8_265 : LkV RX8 265 MX8_says 1 := ⟨wl_8 166 rfl rfl, wl_8 168 rfl rfl, wl_inp 76 (by decide +kernel) rfl, wl_1 28 rfl rfl, k_X8_says, n_X8_says⟩
theorem l_X8_269 : LkV RX8 269 MX8_refuses 0 := ⟨wl_8 170 rfl rfl, wl_8 172 rfl rfl, wl_inp 77 (by decide +kernel) rfl, wl_1 28 rfl rfl, k_X8_refuses, n_X8_refuses⟩
theorem l_X8_273 : LkV RX8 273 MX8_tracks 1 := ⟨wl_8 210 rfl rfl, wl_8 212 rfl rfl, wl_inp 78 (by decide +kernel) rfl, wl_1 28 rfl rfl, k_X8_tracks, n_X8_tracks⟩
theorem l_X8_276 : LkV RX8 276 MX8_staysWith 2 := ⟨wl_8 226 rfl rfl, wl_8 228 rfl rfl, wl_inp 79 (by decide +kernel) rfl, wl_1 28 rfl rfl, k_X8_staysWith, n_X8_staysWith⟩
theorem l_X8_279 : LkV RX8 279 MX8_remembers 0 := ⟨wl_9 10 rfl rfl, wl_9 12 rfl rfl, wl_inp 80 (by decide +kernel) rfl, wl_1 28 rfl rfl, k_X8_remembers, n_X8_remembers⟩
theorem l_X8_283 : LkV RX8 283 MX8_isTakenLetter 1 := ⟨wl_9 19 rfl rfl, wl_9 21 rfl rfl, wl_inp 81 (by decide +kernel) rfl, wl_1 28 rfl rfl, k_X8_isTakenLetter, n_X8_isTakenLetter⟩
theorem l_X8_286 : LkV RX8 286 MX8_sets 2 := ⟨wl_9 31 rfl rfl, wl_9 33 rfl rfl, wl_inp 82 (by decide +kernel) rfl, wl_1 28 rfl rfl, k_X8_sets, n_X8_sets⟩
theorem l_X8_292 : LkV RX8 292 MX8_writes 1 := ⟨wl_9 71 rfl rfl, wl_9 73 rfl rfl, wl_inp 84 (by decide +kernel) rfl, wl_1 28 rfl rfl, k_X8_writes, n_X8_writes⟩
theorem l_X8_295 : LkV RX8 295 MX8_writesName 1 := ⟨wl_9 67 rfl rfl, wl_9 69 rfl rfl, wl_inp 83 (by decide +kernel) rfl, wl_1 28 rfl rfl, k_X8_writesName, n_X8_writesName⟩
theorem l_X8_298 : LkV RX8 298 MX8_writesNumber 1 := ⟨wl_9 75 rfl rfl, wl_9 77 rfl rfl, wl_inp 85 (by decide +kernel) rfl, wl_1 28 rfl rfl, k_X8_writesNumber, n_X8_writesNumber⟩
theorem l_J5_26 : LkS RJ5 26 MJ2_newBytesFor_77867 1 := ⟨wl_1 49 rfl rfl, wl_1 50 rfl rfl, wl_1 5 rfl rfl, k_J2_newBytesFor_77867, n_J2_newBytesFor_77867⟩
theorem l_J5_32 : LkV RJ5 32 MJ0_length_8abf5 0 := ⟨wl_3 12 rfl rfl, wl_2 26 rfl rfl, wl_2 27 rfl rfl, wl_1 4 rfl rfl, k_J0_length_8abf5, n_J0_length_8abf5⟩
theorem l_J5_40 : LkV RJ5 40 MJ0_coder_7d493 0 := ⟨wl_3 21 rfl rfl, wl_2 30 rfl rfl, wl_2 31 rfl rfl, wl_1 4 rfl rfl, k_J0_coder_7d493, n_J0_coder_7d493⟩
theorem l_J5_108 : LkS RJ5 108 MJ7_copyOf_9075b 2 := ⟨wl_2 218 rfl rfl, wl_2 219 rfl rfl, wl_1 23 rfl rfl, k_J7_copyOf_9075b, n_J7_copyOf_9075b⟩
theorem l_J5_114 : LkS RJ5 114 MJ8_newLength_cabcc 3 := ⟨wl_2 207 rfl rfl, wl_2 208 rfl rfl, wl_1 22 rfl rfl, k_J8_newLength_cabcc, n_J8_newLength_cabcc⟩
theorem l_J5_125 : LkS RJ5 125 MJ1_inflate_0e8fd 5 := ⟨wl_3 26 rfl rfl, wl_3 27 rfl rfl, wl_1 14 rfl rfl, k_J1_inflate_0e8fd, n_J1_inflate_0e8fd⟩
theorem l_J5_131 : LkI RJ5 131 MJx7c733_init_d00df 1 := ⟨wl_2 182 rfl rfl, wl_2 183 rfl rfl, rfl, wl_1 21 rfl rfl, k_Jx7c733_init_d00df, n_Jx7c733_init_d00df, rfl⟩
theorem l_J5_133 : LkS RJ5 133 MJ1_fillNull_b72d1 3 := ⟨wl_3 215 rfl rfl, wl_3 216 rfl rfl, wl_1 14 rfl rfl, k_J1_fillNull_b72d1, n_J1_fillNull_b72d1⟩
theorem l_J5_137 : LkS RJ5 137 MJ2_fillNull_b72d1 3 := ⟨wl_4 10 rfl rfl, wl_4 11 rfl rfl, wl_1 5 rfl rfl, k_J2_fillNull_b72d1, n_J2_fillNull_b72d1⟩
theorem l_J5_138 : LkS RJ5 138 MJ9_min_7cf53 2 := ⟨wl_6 225 rfl rfl, wl_2 81 rfl rfl, wl_1 16 rfl rfl, k_J9_min_7cf53, n_J9_min_7cf53⟩
theorem l_J5_144 : LkS RJ5 144 MJ0_checkIndex_df160 2 := ⟨wl_6 226 rfl rfl, wl_2 46 rfl rfl, wl_1 4 rfl rfl, k_J0_checkIndex_df160, n_J0_checkIndex_df160⟩
theorem l_J5_148 : LkS RJ5 148 MJ2_getChar_3b067 2 := ⟨wl_6 227 rfl rfl, wl_2 64 rfl rfl, wl_1 5 rfl rfl, k_J2_getChar_3b067, n_J2_getChar_3b067⟩
theorem l_J5_191 : LkS RJ5 191 MJ1_canEncode_fc78d 1 := ⟨wl_4 21 rfl rfl, wl_4 22 rfl rfl, wl_1 14 rfl rfl, k_J1_canEncode_fc78d, n_J1_canEncode_fc78d⟩
theorem l_J5_197 : LkS RJ5 197 MJ2_putCharSB_b72d1 3 := ⟨wl_4 24 rfl rfl, wl_4 25 rfl rfl, wl_1 5 rfl rfl, k_J2_putCharSB_b72d1, n_J2_putCharSB_b72d1⟩
theorem l_J5_226 : LkS RJ5 226 MJ2_putCharsAt_cd4e5 6 := ⟨wl_2 237 rfl rfl, wl_2 238 rfl rfl, wl_1 5 rfl rfl, k_J2_putCharsAt_cd4e5, n_J2_putCharsAt_cd4e5⟩
theorem l_J5_245 : LkS RJ5 245 MJ6_stringSize_0f7a4 1 := ⟨wl_3 54 rfl rfl, wl_3 55 rfl rfl, wl_1 25 rfl rfl, k_J6_stringSize_0f7a4, n_J6_stringSize_0f7a4⟩
theorem l_J5_248 : LkS RJ5 248 MJ6_getChars_ba4f3 3 := ⟨wl_3 57 rfl rfl, wl_3 58 rfl rfl, wl_1 25 rfl rfl, k_J6_getChars_ba4f3, n_J6_getChars_ba4f3⟩
theorem l_J5_251 : LkS RJ5 251 MJ2_getChars_46870 4 := ⟨wl_3 64 rfl rfl, wl_3 65 rfl rfl, wl_1 5 rfl rfl, k_J2_getChars_46870, n_J2_getChars_46870⟩
theorem l_J5_399 : LkV RJ5 399 MJ0_getBytes_840e7 3 := ⟨wl_3 41 rfl rfl, wl_3 42 rfl rfl, wl_3 43 rfl rfl, wl_1 4 rfl rfl, k_J0_getBytes_840e7, n_J0_getBytes_840e7⟩
theorem l_Jx00060_12 : LkI RJx00060 12 MJ4_init_da8c8 0 := ⟨wl_4 2 rfl rfl, wl_1 41 rfl rfl, rfl, wl_1 3 rfl rfl, k_J4_init_da8c8, n_J4_init_da8c8, rfl⟩
theorem l_Jx00060_15 : LkV RJx00060 15 MJ4_append_15ec4 1 := ⟨wl_4 4 rfl rfl, wl_2 189 rfl rfl, wl_2 190 rfl rfl, wl_1 3 rfl rfl, k_J4_append_15ec4, n_J4_append_15ec4⟩
theorem l_Jx00060_19 : LkV RJx00060 19 MJ4_append_bf812 1 := ⟨wl_4 5 rfl rfl, wl_3 48 rfl rfl, wl_3 49 rfl rfl, wl_1 3 rfl rfl, k_J4_append_bf812, n_J4_append_bf812⟩
theorem l_Jx00060_22 : LkV RJx00060 22 MJ4_toString_0e30d 0 := ⟨wl_4 6 rfl rfl, wl_3 73 rfl rfl, wl_3 74 rfl rfl, wl_1 3 rfl rfl, k_J4_toString_0e30d, n_J4_toString_0e30d⟩
theorem l_J0_47 : LkS RJ0 47 MJ2_coderFromArrayLen_85cad 2 := ⟨wl_3 190 rfl rfl, wl_3 191 rfl rfl, wl_1 5 rfl rfl, k_J2_coderFromArrayLen_85cad, n_J2_coderFromArrayLen_85cad⟩
theorem l_J0_54 : LkS RJ0 54 MJ7_copyOfRange_39247 3 := ⟨wl_3 99 rfl rfl, wl_3 100 rfl rfl, wl_1 23 rfl rfl, k_J7_copyOfRange_39247, n_J7_copyOfRange_39247⟩
theorem l_J0_106 : LkS RJ0 106 MJ1_inflate_0e8fd 5 := ⟨wl_3 46 rfl rfl, wl_3 27 rfl rfl, wl_1 14 rfl rfl, k_J1_inflate_0e8fd, n_J1_inflate_0e8fd⟩
theorem l_J0_335 : LkV RJ0 335 MJ0_coder_7d493 0 := ⟨wl_2 29 rfl rfl, wl_2 30 rfl rfl, wl_2 31 rfl rfl, wl_1 4 rfl rfl, k_J0_coder_7d493, n_J0_coder_7d493⟩
theorem l_J0_489 : LkI RJ0 489 MJ0_init_db425 2 := ⟨wl_3 81 rfl rfl, wl_3 82 rfl rfl, rfl, wl_1 4 rfl rfl, k_J0_init_db425, n_J0_init_db425, rfl⟩
theorem l_J0_492 : LkV RJ0 492 MJ0_isLatin1_aae02 0 := ⟨wl_2 38 rfl rfl, wl_2 39 rfl rfl, wl_2 40 rfl rfl, wl_1 4 rfl rfl, k_J0_isLatin1_aae02, n_J0_isLatin1_aae02⟩
theorem l_J0_495 : LkS RJ0 495 MJ1_charAt_3b067 2 := ⟨wl_2 42 rfl rfl, wl_2 43 rfl rfl, wl_1 14 rfl rfl, k_J1_charAt_3b067, n_J1_charAt_3b067⟩
theorem l_J0_498 : LkS RJ0 498 MJ2_charAt_3b067 2 := ⟨wl_2 53 rfl rfl, wl_2 54 rfl rfl, wl_1 5 rfl rfl, k_J2_charAt_3b067, n_J2_charAt_3b067⟩
theorem l_J0_505 : LkV RJ0 505 MJ0_length_8abf5 0 := ⟨wl_6 93 rfl rfl, wl_2 26 rfl rfl, wl_2 27 rfl rfl, wl_1 4 rfl rfl, k_J0_length_8abf5, n_J0_length_8abf5⟩
theorem l_J0_521 : LkS RJ0 521 MJ0_checkBoundsBeginEnd_23922 3 := ⟨wl_6 94 rfl rfl, wl_3 4 rfl rfl, wl_1 4 rfl rfl, k_J0_checkBoundsBeginEnd_23922, n_J0_checkBoundsBeginEnd_23922⟩
theorem l_J0_685 : LkS RJ0 685 MJ1_newString_b4f7a 3 := ⟨wl_6 95 rfl rfl, wl_6 96 rfl rfl, wl_1 14 rfl rfl, k_J1_newString_b4f7a, n_J1_newString_b4f7a⟩
theorem l_J0_689 : LkS RJ0 689 MJ2_newString_b4f7a 3 := ⟨wl_6 104 rfl rfl, wl_6 105 rfl rfl, wl_1 5 rfl rfl, k_J2_newString_b4f7a, n_J2_newString_b4f7a⟩
theorem l_J0_1051 : LkS RJ0 1051 MJ2_compress_39247 3 := ⟨wl_3 183 rfl rfl, wl_3 184 rfl rfl, wl_1 5 rfl rfl, k_J2_compress_39247, n_J2_compress_39247⟩
theorem l_J0_1059 : LkS RJ0 1059 MJ3_checkIndex_8e157 3 := ⟨wl_2 50 rfl rfl, wl_2 51 rfl rfl, wl_1 15 rfl rfl, k_J3_checkIndex_8e157, n_J3_checkIndex_8e157⟩
theorem l_J0_1062 : LkS RJ0 1062 MJ3_checkFromToIndex_8c36e 4 := ⟨wl_3 6 rfl rfl, wl_3 7 rfl rfl, wl_1 15 rfl rfl, k_J3_checkFromToIndex_8c36e, n_J3_checkFromToIndex_8c36e⟩
theorem l_J0_1065 : LkS RJ0 1065 MJ3_checkFromIndexSize_8c36e 4 := ⟨wl_3 38 rfl rfl, wl_3 39 rfl rfl, wl_1 15 rfl rfl, k_J3_checkFromIndexSize_8c36e, n_J3_checkFromIndexSize_8c36e⟩
theorem l_J4_1 : LkI RJ4 1 MJ5_init_d00df 1 := ⟨wl_1 43 rfl rfl, wl_1 44 rfl rfl, rfl, wl_1 2 rfl rfl, k_J5_init_d00df, n_J5_init_d00df, rfl⟩
theorem l_J4_137 : LkI RJ4 137 MJ0_init_81219 1 := ⟨wl_3 78 rfl rfl, wl_3 79 rfl rfl, rfl, wl_1 4 rfl rfl, k_J0_init_81219, n_J0_init_81219, rfl⟩
theorem l_Jx7c733_12 : LkI RJx7c733 12 MJ4_init_da8c8 0 := ⟨wl_2 186 rfl rfl, wl_1 41 rfl rfl, rfl, wl_1 3 rfl rfl, k_J4_init_da8c8, n_J4_init_da8c8, rfl⟩
theorem l_Jx7c733_15 : LkV RJx7c733 15 MJ4_append_15ec4 1 := ⟨wl_2 188 rfl rfl, wl_2 189 rfl rfl, wl_2 190 rfl rfl, wl_1 3 rfl rfl, k_J4_append_15ec4, n_J4_append_15ec4⟩
theorem l_Jx7c733_19 : LkV RJx7c733 19 MJ4_append_bf812 1 := ⟨wl_3 47 rfl rfl, wl_3 48 rfl rfl, wl_3 49 rfl rfl, wl_1 3 rfl rfl, k_J4_append_bf812, n_J4_append_bf812⟩
theorem l_Jx7c733_22 : LkV RJx7c733 22 MJ4_toString_0e30d 0 := ⟨wl_3 72 rfl rfl, wl_3 73 rfl rfl, wl_3 74 rfl rfl, wl_1 3 rfl rfl, k_J4_toString_0e30d, n_J4_toString_0e30d⟩
theorem l_J1_9 : LkS RJ1 9 MJ0_checkIndex_df160 2 := ⟨wl_2 45 rfl rfl, wl_2 46 rfl rfl, wl_1 4 rfl rfl, k_J0_checkIndex_df160, n_J0_checkIndex_df160⟩
theorem l_J1_112 : LkI RJ1 112 MJ0_init_031fb 2 := ⟨wl_6 101 rfl rfl, wl_6 102 rfl rfl, rfl, wl_1 4 rfl rfl, k_J0_init_031fb, n_J0_init_031fb, rfl⟩
theorem l_J1_232 : LkS RJ1 232 MJ7_copyOfRange_39247 3 := ⟨wl_6 100 rfl rfl, wl_3 100 rfl rfl, wl_1 23 rfl rfl, k_J7_copyOfRange_39247, n_J7_copyOfRange_39247⟩
theorem l_J1_236 : LkS RJ1 236 MJ7_fill_eb02e 4 := ⟨wl_3 218 rfl rfl, wl_3 219 rfl rfl, wl_1 23 rfl rfl, k_J7_fill_eb02e, n_J7_fill_eb02e⟩
theorem l_J1_240 : LkS RJ1 240 MJ2_inflate_0e8fd 5 := ⟨wl_3 29 rfl rfl, wl_3 30 rfl rfl, wl_1 5 rfl rfl, k_J2_inflate_0e8fd, n_J2_inflate_0e8fd⟩
theorem l_J2_11 : LkS RJ2 11 MJ2_newBytesLength_0f7a4 1 := ⟨wl_1 52 rfl rfl, wl_1 53 rfl rfl, wl_1 5 rfl rfl, k_J2_newBytesLength_0f7a4, n_J2_newBytesLength_0f7a4⟩
theorem l_J2_48 : LkS RJ2 48 MJ2_length_9d52b 1 := ⟨wl_2 59 rfl rfl, wl_2 60 rfl rfl, wl_1 5 rfl rfl, k_J2_length_9d52b, n_J2_length_9d52b⟩
theorem l_J2_67 : LkS RJ2 67 MJ2_checkIndex_2214a 2 := ⟨wl_2 56 rfl rfl, wl_2 57 rfl rfl, wl_1 5 rfl rfl, k_J2_checkIndex_2214a, n_J2_checkIndex_2214a⟩
theorem l_J2_71 : LkS RJ2 71 MJ2_getChar_3b067 2 := ⟨wl_2 63 rfl rfl, wl_2 64 rfl rfl, wl_1 5 rfl rfl, k_J2_getChar_3b067, n_J2_getChar_3b067⟩
theorem l_J2_96 : LkS RJ2 96 MJ2_checkBoundsBeginEnd_d044e 3 := ⟨wl_3 0 rfl rfl, wl_3 1 rfl rfl, wl_1 5 rfl rfl, k_J2_checkBoundsBeginEnd_d044e, n_J2_checkBoundsBeginEnd_d044e⟩
theorem l_J2_111 : LkS RJ2 111 MJ2_putChar_b72d1 3 := ⟨wl_3 9 rfl rfl, wl_3 10 rfl rfl, wl_1 5 rfl rfl, k_J2_putChar_b72d1, n_J2_putChar_b72d1⟩
theorem l_J2_123 : LkS RJ2 123 MJ2_compress_5af95 5 := ⟨wl_3 186 rfl rfl, wl_3 187 rfl rfl, wl_1 5 rfl rfl, k_J2_compress_5af95, n_J2_compress_5af95⟩
theorem l_J2_126 : LkS RJ2 126 MJ7_copyOfRange_39247 3 := ⟨wl_3 189 rfl rfl, wl_3 100 rfl rfl, wl_1 23 rfl rfl, k_J7_copyOfRange_39247, n_J7_copyOfRange_39247⟩
theorem l_J2_173 : LkS RJ2 173 MJ2_checkBoundsOffCount_d044e 3 := ⟨wl_3 32 rfl rfl, wl_3 33 rfl rfl, wl_1 5 rfl rfl, k_J2_checkBoundsOffCount_d044e, n_J2_checkBoundsOffCount_d044e⟩
theorem l_J2_241 : LkS RJ2 241 MJ0_checkBoundsBeginEnd_23922 3 := ⟨wl_3 3 rfl rfl, wl_3 4 rfl rfl, wl_1 4 rfl rfl, k_J0_checkBoundsBeginEnd_23922, n_J0_checkBoundsBeginEnd_23922⟩
theorem l_J2_257 : LkS RJ2 257 MJ2_compress_39247 3 := ⟨wl_6 109 rfl rfl, wl_3 184 rfl rfl, wl_1 5 rfl rfl, k_J2_compress_39247, n_J2_compress_39247⟩
theorem l_J2_259 : LkS RJ2 259 MJ2_coderFromArrayLen_85cad 2 := ⟨wl_6 110 rfl rfl, wl_3 191 rfl rfl, wl_1 5 rfl rfl, k_J2_coderFromArrayLen_85cad, n_J2_coderFromArrayLen_85cad⟩
theorem l_J2_263 : LkI RJ2 263 MJ0_init_031fb 2 := ⟨wl_6 112 rfl rfl, wl_6 102 rfl rfl, rfl, wl_1 4 rfl rfl, k_J0_init_031fb, n_J0_init_031fb, rfl⟩
theorem l_J2_380 : LkS RJ2 380 MJ7_fill_eb02e 4 := ⟨wl_4 13 rfl rfl, wl_3 219 rfl rfl, wl_1 23 rfl rfl, k_J7_fill_eb02e, n_J7_fill_eb02e⟩
theorem l_J2_393 : LkS RJ2 393 MJ2_getChars_ba4f3 3 := ⟨wl_3 67 rfl rfl, wl_3 68 rfl rfl, wl_1 5 rfl rfl, k_J2_getChars_ba4f3, n_J2_getChars_ba4f3⟩
theorem l_J2_414 : LkS RJ2 414 MJ0_checkIndex_df160 2 := ⟨wl_2 62 rfl rfl, wl_2 46 rfl rfl, wl_1 4 rfl rfl, k_J0_checkIndex_df160, n_J0_checkIndex_df160⟩
theorem l_J2_419 : LkS RJ2 419 MJ0_checkBoundsOffCount_cabcc 3 := ⟨wl_3 35 rfl rfl, wl_3 36 rfl rfl, wl_1 4 rfl rfl, k_J0_checkBoundsOffCount_cabcc, n_J0_checkBoundsOffCount_cabcc⟩
theorem l_J7_13 : LkS RJ7 13 MJ7_rangeCheck_23922 3 := ⟨wl_3 221 rfl rfl, wl_3 222 rfl rfl, wl_1 23 rfl rfl, k_J7_rangeCheck_23922, n_J7_rangeCheck_23922⟩
theorem l_J7_47 : LkI RJ7 47 MJ4_init_da8c8 0 := ⟨wl_3 152 rfl rfl, wl_1 41 rfl rfl, rfl, wl_1 3 rfl rfl, k_J4_init_da8c8, n_J4_init_da8c8, rfl⟩
theorem l_J7_50 : LkV RJ7 50 MJ4_append_15ec4 1 := ⟨wl_3 155 rfl rfl, wl_2 189 rfl rfl, wl_2 190 rfl rfl, wl_1 3 rfl rfl, k_J4_append_15ec4, n_J4_append_15ec4⟩
theorem l_J7_54 : LkV RJ7 54 MJ4_append_bf812 1 := ⟨wl_3 153 rfl rfl, wl_3 48 rfl rfl, wl_3 49 rfl rfl, wl_1 3 rfl rfl, k_J4_append_bf812, n_J4_append_bf812⟩
theorem l_J7_61 : LkV RJ7 61 MJ4_toString_0e30d 0 := ⟨wl_3 156 rfl rfl, wl_3 73 rfl rfl, wl_3 74 rfl rfl, wl_1 3 rfl rfl, k_J4_toString_0e30d, n_J4_toString_0e30d⟩
theorem l_J7_70 : LkI RJ7 70 MJx00060_init_d00df 1 := ⟨wl_3 238 rfl rfl, wl_3 239 rfl rfl, rfl, wl_1 27 rfl rfl, k_Jx00060_init_d00df, n_Jx00060_init_d00df, rfl⟩
theorem l_J7_304 : LkS RJ7 304 MJ9_min_7cf53 2 := ⟨wl_2 228 rfl rfl, wl_2 81 rfl rfl, wl_1 16 rfl rfl, k_J9_min_7cf53, n_J9_min_7cf53⟩
theorem l_J7_339 : LkS RJ7 339 MJ7_copyOfRangeByte_39247 3 := ⟨wl_3 102 rfl rfl, wl_3 103 rfl rfl, wl_1 23 rfl rfl, k_J7_copyOfRangeByte_39247, n_J7_copyOfRangeByte_39247⟩
theorem l_J7_343 : LkS RJ7 343 MJ7_checkLength_df160 2 := ⟨wl_3 105 rfl rfl, wl_3 106 rfl rfl, wl_1 23 rfl rfl, k_J7_checkLength_df160, n_J7_checkLength_df160⟩
theorem l_J8_194 : LkS RJ8 194 MJ9_max_7cf53 2 := ⟨wl_2 210 rfl rfl, wl_2 211 rfl rfl, wl_1 16 rfl rfl, k_J9_max_7cf53, n_J9_max_7cf53⟩
theorem l_J8_201 : LkS RJ8 201 MJ8_hugeLength_7cf53 2 := ⟨wl_2 214 rfl rfl, wl_2 215 rfl rfl, wl_1 22 rfl rfl, k_J8_hugeLength_7cf53, n_J8_hugeLength_7cf53⟩
end GLINK
end
section
section GMOD
/-- natural numbers as ints: the rows' other forms -/
theorem nI_mul (a b : Nat) : nI a * nI b = nI (a * b) := pk_mul a b
variable {Γ : Gm} {d : Nat} {M : Mr} {P : Po} {X : Px} {pc : Nat} {lv : List (Nat × Value)} {st rest : List Value} {E : Hp} {n kc ks : Nat}
abbrev Rt (r : Option Value) (E2 : Hp) (n2 : Nat) : Po := fun v E1 n1 => v = r ∧ E1 = E2 ∧ n1 = n2
abbrev X0 : Px := fun _ _ _ => False
theorem gn_iadd {a b : Nat} (dg : decode M.2.2.1 pc = .ok (.iadd, 1)) (k : G Γ d M P X (pc + 1) lv (.int (nI (a + b)) :: st) E n kc ks) : G Γ d M P X pc lv (.int (nI b) :: .int (nI a) :: st) E n kc ks := g_iadd dg (by rw [nI_add]; exact k)
theorem gn_iadd0 {a : Nat} (dg : decode M.2.2.1 pc = .ok (.iadd, 1)) (k : G Γ d M P X (pc + 1) lv (.int (nI a) :: st) E n kc ks) : G Γ d M P X pc lv (.int (nI 0) :: .int (nI a) :: st) E n kc ks := gn_iadd dg k
theorem gn_isub {a b : Nat} (h : b ≤ a) (dg : decode M.2.2.1 pc = .ok (.isub, 1)) (k : G Γ d M P X (pc + 1) lv (.int (nI (a - b)) :: st) E n kc ks) : G Γ d M P X pc lv (.int (nI b) :: .int (nI a) :: st) E n kc ks := g_isub dg (by rw [pk_sub h]; exact k)
theorem gn_imul {a b : Nat} (dg : decode M.2.2.1 pc = .ok (.imul, 1)) (k : G Γ d M P X (pc + 1) lv (.int (nI (a * b)) :: st) E n kc ks) : G Γ d M P X pc lv (.int (nI b) :: .int (nI a) :: st) E n kc ks := g_imul dg (by rw [nI_mul]; exact k)
theorem gn_idiv {a b : Nat} (ha : a < 2 ^ 31) (h0 : 0 < b) (hb : b < 2 ^ 31) (dg : decode M.2.2.1 pc = .ok (.idiv, 1)) (k : G Γ d M P X (pc + 1) lv (.int (nI (a / b)) :: st) E n kc ks) : G Γ d M P X pc lv (.int (nI b) :: .int (nI a) :: st) E n kc ks := g_idiv (nI_ne0 h0 hb) dg (by rw [pk_div ha h0 hb]; exact k)
theorem gn_irem {a b : Nat} (ha : a < 2 ^ 31) (h0 : 0 < b) (hb : b < 2 ^ 31) (dg : decode M.2.2.1 pc = .ok (.irem, 1)) (k : G Γ d M P X (pc + 1) lv (.int (nI (a % b)) :: st) E n kc ks) : G Γ d M P X pc lv (.int (nI b) :: .int (nI a) :: st) E n kc ks := g_irem (nI_ne0 h0 hb) dg (by rw [pk_rem ha h0 hb]; exact k)
theorem gn_inc {j a : Nat} {lv2 : List (Nat × Value)} (q : Nat) (hq : lv[q]? = some (j, .int (nI a))) (hn : j < M.2.2.2.1) (hl : (j, Value.int (nI (a + 1))) :: lv.filter (fun q => !(q.1 == j) && !(q.1 + 1 == j && q.2.category == 2)) = lv2) (dg : decode M.2.2.1 pc = .ok (.iinc j 1, 3)) (k : G Γ d M P X (pc + 3) lv2 st E n kc ks) : G Γ d M P X pc lv st E n kc ks := g_iinc q hq (show nI a + Int32.ofInt 1 = nI (a + 1) from nI_1 a) hn hl dg k
theorem gn_ic {i : Int} (a : Nat) (hv : Int32.ofInt i = nI a) (dg : decode M.2.2.1 pc = .ok (.iconst i, 1)) (k : G Γ d M P X (pc + 1) lv (.int (nI a) :: st) E n kc ks) : G Γ d M P X pc lv st E n kc ks := g_iconst dg hv k
theorem gn_bp {i : Int} (a : Nat) (hv : (Int8.ofInt i).toInt32 = nI a) (dg : decode M.2.2.1 pc = .ok (.bipush i, 2)) (k : G Γ d M P X (pc + 2) lv (.int (nI a) :: st) E n kc ks) : G Γ d M P X pc lv st E n kc ks := g_bipush dg hv k
theorem gn_sp {i : Int} (a : Nat) (hv : (Int16.ofInt i).toInt32 = nI a) (dg : decode M.2.2.1 pc = .ok (.sipush i, 3)) (k : G Γ d M P X (pc + 3) lv (.int (nI a) :: st) E n kc ks) : G Γ d M P X pc lv st E n kc ks := g_sipush dg hv k
theorem gn_iald {a N j : Nat} {f : Nat → Int32} (he : E a = some (.inl (gA Γ 0, N, .inl f))) (hj : j < N) (hN : N < 2 ^ 31) (dg : decode M.2.2.1 pc = .ok (.iaload, 1)) (kk : G Γ d M P X (pc + 1) lv (.int (f j) :: st) E n kc ks) : G Γ d M P X pc lv (.int (nI j) :: .ref a :: st) E n kc ks := g_iald he (vp_in_nI hj hN) dg (by rw [nI_clamp (by omega)]; exact kk)
theorem gn_bald {a N j : Nat} {f : Nat → Int32} (he : E a = some (.inl (gA Γ 1, N, .inl f))) (hj : j < N) (hN : N < 2 ^ 31) (dg : decode M.2.2.1 pc = .ok (.baload, 1)) (kk : G Γ d M P X (pc + 1) lv (.int (f j) :: st) E n kc ks) : G Γ d M P X pc lv (.int (nI j) :: .ref a :: st) E n kc ks := g_bald he (vp_in_nI hj hN) dg (by rw [nI_clamp (by omega)]; exact kk)
theorem gn_zald {a N j : Nat} {f : Nat → Int32} (he : E a = some (.inl (gA Γ 2, N, .inl f))) (hj : j < N) (hN : N < 2 ^ 31) (dg : decode M.2.2.1 pc = .ok (.baload, 1)) (kk : G Γ d M P X (pc + 1) lv (.int (f j) :: st) E n kc ks) : G Γ d M P X pc lv (.int (nI j) :: .ref a :: st) E n kc ks := g_zald he (vp_in_nI hj hN) dg (by rw [nI_clamp (by omega)]; exact kk)
theorem gn_cald {a N j : Nat} {f : Nat → Int32} (he : E a = some (.inl (gA Γ 4, N, .inl f))) (hj : j < N) (hN : N < 2 ^ 31) (dg : decode M.2.2.1 pc = .ok (.caload, 1)) (kk : G Γ d M P X (pc + 1) lv (.int (f j) :: st) E n kc ks) : G Γ d M P X pc lv (.int (nI j) :: .ref a :: st) E n kc ks := g_cald he (vp_in_nI hj hN) dg (by rw [nI_clamp (by omega)]; exact kk)
theorem gn_iast {a N j : Nat} {f : Nat → Int32} {x : Int32} {E2 : Hp} (he : E a = some (.inl (gA Γ 0, N, .inl f))) (hj : j < N) (hN : N < 2 ^ 31) (hE : hset E a (.inl (gA Γ 0, N, .inl (upd f j x))) = E2) (dg : decode M.2.2.1 pc = .ok (.iastore, 1)) (kk : G Γ d M P X (pc + 1) lv st E2 n kc ks) : G Γ d M P X pc lv (.int x :: .int (nI j) :: .ref a :: st) E n kc ks := g_iast he (vp_in_nI hj hN) dg (by rw [nI_clamp (by omega), hE]; exact kk)
theorem gn_bast {a N j : Nat} {f : Nat → Int32} {x : Int32} {E2 : Hp} (he : E a = some (.inl (gA Γ 1, N, .inl f))) (hj : j < N) (hN : N < 2 ^ 31) (hE : hset E a (.inl (gA Γ 1, N, .inl (upd f j x.toInt8.toInt32))) = E2) (dg : decode M.2.2.1 pc = .ok (.bastore, 1)) (kk : G Γ d M P X (pc + 1) lv st E2 n kc ks) : G Γ d M P X pc lv (.int x :: .int (nI j) :: .ref a :: st) E n kc ks := g_bast he (vp_in_nI hj hN) dg (by rw [nI_clamp (by omega), vp_nar_byte, hE]; exact kk)
theorem gn_zast {a N j : Nat} {f : Nat → Int32} {x : Int32} {E2 : Hp} (he : E a = some (.inl (gA Γ 2, N, .inl f))) (hj : j < N) (hN : N < 2 ^ 31) (hE : hset E a (.inl (gA Γ 2, N, .inl (upd f j (vp_nar .boolean x)))) = E2) (dg : decode M.2.2.1 pc = .ok (.bastore, 1)) (kk : G Γ d M P X (pc + 1) lv st E2 n kc ks) : G Γ d M P X pc lv (.int x :: .int (nI j) :: .ref a :: st) E n kc ks := g_zast he (vp_in_nI hj hN) dg (by rw [nI_clamp (by omega), hE]; exact kk)
theorem gn_cast {a N j : Nat} {f : Nat → Int32} {x : Int32} {E2 : Hp} (he : E a = some (.inl (gA Γ 4, N, .inl f))) (hj : j < N) (hN : N < 2 ^ 31) (hE : hset E a (.inl (gA Γ 4, N, .inl (upd f j (vp_nar .char x)))) = E2) (dg : decode M.2.2.1 pc = .ok (.castore, 1)) (kk : G Γ d M P X (pc + 1) lv st E2 n kc ks) : G Γ d M P X pc lv (.int x :: .int (nI j) :: .ref a :: st) E n kc ks := g_cast he (vp_in_nI hj hN) dg (by rw [nI_clamp (by omega), hE]; exact kk)
theorem gn_icmp_eq {a b : Nat} {off : Int} {tgt : Nat} (ha : a < 2 ^ 31) (hb : b < 2 ^ 31) (ht : (pc : Int) + off = (tgt : Int)) (dg : decode M.2.2.1 pc = .ok (.if_icmp .eq off, 3)) (ka : a = b → G Γ d M P X tgt lv st E n kc ks) (kb : ¬ a = b → G Γ d M P X (pc + 3) lv st E n kc ks) : G Γ d M P X pc lv (.int (nI b) :: .int (nI a) :: st) E n kc ks := g_icmp_eq ht dg (fun z => ka ((nI_eq ha hb).mp z)) (fun z => kb (fun y => z ((nI_eq ha hb).mpr y)))
theorem gn_icmp_ne {a b : Nat} {off : Int} {tgt : Nat} (ha : a < 2 ^ 31) (hb : b < 2 ^ 31) (ht : (pc : Int) + off = (tgt : Int)) (dg : decode M.2.2.1 pc = .ok (.if_icmp .ne off, 3)) (ka : ¬ a = b → G Γ d M P X tgt lv st E n kc ks) (kb : a = b → G Γ d M P X (pc + 3) lv st E n kc ks) : G Γ d M P X pc lv (.int (nI b) :: .int (nI a) :: st) E n kc ks := g_icmp_ne ht dg (fun z => ka (fun y => z ((nI_eq ha hb).mpr y))) (fun z => kb ((nI_eq ha hb).mp z))
theorem gn_icmp_lt {a b : Nat} {off : Int} {tgt : Nat} (ha : a < 2 ^ 31) (hb : b < 2 ^ 31) (ht : (pc : Int) + off = (tgt : Int)) (dg : decode M.2.2.1 pc = .ok (.if_icmp .lt off, 3)) (ka : a < b → G Γ d M P X tgt lv st E n kc ks) (kb : ¬ a < b → G Γ d M P X (pc + 3) lv st E n kc ks) : G Γ d M P X pc lv (.int (nI b) :: .int (nI a) :: st) E n kc ks := g_icmp_lt ht dg (fun z => ka ((nI_ltI ha hb).mp z)) (fun z => kb (fun y => z ((nI_ltI ha hb).mpr y)))
theorem gn_icmp_ge {a b : Nat} {off : Int} {tgt : Nat} (ha : a < 2 ^ 31) (hb : b < 2 ^ 31) (ht : (pc : Int) + off = (tgt : Int)) (dg : decode M.2.2.1 pc = .ok (.if_icmp .ge off, 3)) (ka : b ≤ a → G Γ d M P X tgt lv st E n kc ks) (kb : ¬ b ≤ a → G Γ d M P X (pc + 3) lv st E n kc ks) : G Γ d M P X pc lv (.int (nI b) :: .int (nI a) :: st) E n kc ks := g_icmp_ge ht dg (fun z => ka ((nI_leI hb ha).mp z)) (fun z => kb (fun y => z ((nI_leI hb ha).mpr y)))
theorem gn_icmp_gt {a b : Nat} {off : Int} {tgt : Nat} (ha : a < 2 ^ 31) (hb : b < 2 ^ 31) (ht : (pc : Int) + off = (tgt : Int)) (dg : decode M.2.2.1 pc = .ok (.if_icmp .gt off, 3)) (ka : b < a → G Γ d M P X tgt lv st E n kc ks) (kb : ¬ b < a → G Γ d M P X (pc + 3) lv st E n kc ks) : G Γ d M P X pc lv (.int (nI b) :: .int (nI a) :: st) E n kc ks := g_icmp_gt ht dg (fun z => ka ((nI_ltI hb ha).mp z)) (fun z => kb (fun y => z ((nI_ltI hb ha).mpr y)))
theorem gn_icmp_le {a b : Nat} {off : Int} {tgt : Nat} (ha : a < 2 ^ 31) (hb : b < 2 ^ 31) (ht : (pc : Int) + off = (tgt : Int)) (dg : decode M.2.2.1 pc = .ok (.if_icmp .le off, 3)) (ka : a ≤ b → G Γ d M P X tgt lv st E n kc ks) (kb : ¬ a ≤ b → G Γ d M P X (pc + 3) lv st E n kc ks) : G Γ d M P X pc lv (.int (nI b) :: .int (nI a) :: st) E n kc ks := g_icmp_le ht dg (fun z => ka ((nI_leI ha hb).mp z)) (fun z => kb (fun y => z ((nI_leI ha hb).mpr y)))
theorem gn_if_eq {a : Nat} {off : Int} {tgt : Nat} (ha : a < 2 ^ 31) (ht : (pc : Int) + off = (tgt : Int)) (dg : decode M.2.2.1 pc = .ok (.ifCond .eq off, 3)) (ka : a = 0 → G Γ d M P X tgt lv st E n kc ks) (kb : ¬ a = 0 → G Γ d M P X (pc + 3) lv st E n kc ks) : G Γ d M P X pc lv (.int (nI a) :: st) E n kc ks := g_if_eq ht dg (fun z => ka ((nI_eq ha (by omega : 0 < 2 ^ 31)).mp z)) (fun z => kb (fun y => z (by rw [y]; rfl)))
theorem gn_if_ne {a : Nat} {off : Int} {tgt : Nat} (ha : a < 2 ^ 31) (ht : (pc : Int) + off = (tgt : Int)) (dg : decode M.2.2.1 pc = .ok (.ifCond .ne off, 3)) (ka : ¬ a = 0 → G Γ d M P X tgt lv st E n kc ks) (kb : a = 0 → G Γ d M P X (pc + 3) lv st E n kc ks) : G Γ d M P X pc lv (.int (nI a) :: st) E n kc ks := g_if_ne ht dg (fun z => ka (fun y => z (by rw [y]; rfl))) (fun z => kb ((nI_eq ha (by omega : 0 < 2 ^ 31)).mp z))
theorem g_iret {x : Int32} {ty : FieldType} (hp : P (some (.int x)) E n) (hn : narrow ty (.int x) = .int x) (hr : M.2.2.2.2 = some ty) (dg : decode M.2.2.1 pc = .ok (.ireturn, 1)) : G Γ d M P X pc lv [.int x] E n kc ks := g_ret hp ⟨dg, ty, hr, hn⟩ rfl
theorem g_vret (hp : P none E n) (hr : M.2.2.2.2 = none) (dg : decode M.2.2.1 pc = .ok (.return_, 1)) : G Γ d M P X pc lv [] E n kc ks := g_ret hp ⟨dg, hr⟩ rfl
theorem g_aret {x : Nat} {c : String} (hp : P (some (.ref x)) E n) (hr : M.2.2.2.2 = some (.object c)) (dg : decode M.2.2.1 pc = .ok (.areturn, 1)) : G Γ d M P X pc lv [.ref x] E n kc ks := g_ret hp ⟨dg, c, hr⟩ rfl
theorem g_aretN {c : String} (hp : P (some .null) E n) (hr : M.2.2.2.2 = some (.object c)) (dg : decode M.2.2.1 pc = .ok (.areturn, 1)) : G Γ d M P X pc lv [.null] E n kc ks := g_ret hp ⟨dg, c, hr⟩ rfl
theorem g_dret {x : UInt64} (hp : P (some (.double x)) E n) (hr : M.2.2.2.2 = some .double) (dg : decode M.2.2.1 pc = .ok (.dreturn, 1)) : G Γ d M P X pc lv [.double x] E n kc ks := g_ret hp ⟨dg, hr⟩ rfl
theorem g_fret {x : UInt32} (hp : P (some (.float x)) E n) (hr : M.2.2.2.2 = some .float) (dg : decode M.2.2.1 pc = .ok (.freturn, 1)) : G Γ d M P X pc lv [.float x] E n kc ks := g_ret hp ⟨dg, hr⟩ rfl
/-- a rewritten top -/
theorem g_top {x y : Int32} (h : x = y) (k : G Γ d M P X pc lv (.int y :: st) E n kc ks) : G Γ d M P X pc lv (.int x :: st) E n kc ks := h ▸ k
theorem g_world {E2 : Hp} (h : E = E2) (k : G Γ d M P X pc lv st E2 n kc ks) : G Γ d M P X pc lv st E n kc ks := h ▸ k
-- calls whose answer is one value
section
variable {M1 : Mr} {d1 mc ms ix k b : Nat} {As : List Value} {v : Value} {E2 : Hp} {n2 : Nat} {X1 : Px}
theorem gv_V (hC : Ct Γ d1 M1 mc ms (.ref b :: As) E n (Rt (some v) E2 n2) X0) (lk : LkV M.1 ix M1 k) (hk : As.length = k) (hr : Rcv Γ E b M1.1) (hd : d1 + 1 ≤ d) (hrest : (rest.map fun v => v.category).sum ≤ 8) (hst : st = As.reverse ++ .ref b :: rest) (dg : decode M.2.2.1 pc = .ok (.invokevirtual ix, 3))
    (kk : G Γ d M P X (pc + 3) lv (v :: rest) E2 n2 kc ks) : G Γ d M P X pc lv st E n (kc + mc) (ks + ms) := g_invV hC lk hk hr hd hrest hst dg (fun _ _ _ h => h.elim) (fun v E1 n1 h => by obtain ⟨rfl, rfl, rfl⟩ := h; exact kk)
theorem gv_S (hC : Ct Γ d1 M1 mc ms As E n (Rt (some v) E2 n2) X0) (lk : LkS M.1 ix M1 k) (hk : As.length = k) (hd : d1 + 1 ≤ d) (hrest : (rest.map fun v => v.category).sum ≤ 8) (hst : st = As.reverse ++ rest) (dg : decode M.2.2.1 pc = .ok (.invokestatic ix, 3))
    (kk : G Γ d M P X (pc + 3) lv (v :: rest) E2 n2 kc ks) : G Γ d M P X pc lv st E n (kc + mc) (ks + ms) := g_invS hC lk hk hd hrest hst dg (fun _ _ _ h => h.elim) (fun v E1 n1 h => by obtain ⟨rfl, rfl, rfl⟩ := h; exact kk)
theorem gu_V (hC : Ct Γ d1 M1 mc ms (.ref b :: As) E n (Rt none E2 n2) X0) (lk : LkV M.1 ix M1 k) (hk : As.length = k) (hr : Rcv Γ E b M1.1) (hd : d1 + 1 ≤ d) (hrest : (rest.map fun v => v.category).sum ≤ 8) (hst : st = As.reverse ++ .ref b :: rest) (dg : decode M.2.2.1 pc = .ok (.invokevirtual ix, 3))
    (kk : G Γ d M P X (pc + 3) lv rest E2 n2 kc ks) : G Γ d M P X pc lv st E n (kc + mc) (ks + ms) := g_invV hC lk hk hr hd hrest hst dg (fun _ _ _ h => h.elim) (fun v E1 n1 h => by obtain ⟨rfl, rfl, rfl⟩ := h; exact kk)
end
end GMOD
/-! the reference's world: one object at mo, its ten arrays behind it -/
section GMW
/-- the object's fields, out of its whole numbers -/
def moObj (mo : Nat) (I : Nat → Int32) : List Value := [.ref (mo + 1), .ref (mo + 2), .int (I 2), .ref (mo + 3), .ref (mo + 4), .ref (mo + 5), .int (I 6), .ref (mo + 6), .int (I 8), .ref (mo + 7), .ref (mo + 8), .int (I 11), .int (I 12), .ref (mo + 9), .int (I 14), .ref (mo + 10), .int (I 16), .int (I 17), .int (I 18), .int (I 19), .int (I 20), .int (I 21), .int (I 22), .int (I 23), .int (I 24), .int (I 25)]
/-- the world: whole numbers I, arrays A (by their place; A 2 isn't asked), the row f that is 'now', all else F -/
def MW (Γ : Gm) (mo : Nat) (F : Hp) (I : Nat → Int32) (A : Nat → Nat → Int32) (f : Nat → Int32) : Hp := fun a =>
  if a = mo then some (.inr (11, moObj mo I)) else if a = mo + 1 then some (.inl (gA Γ 0, 48, .inl (A 0))) else if a = mo + 2 then some (.inl (gA Γ 0, 24, .inl (A 1))) else if a = mo + 3 then some (.inl (gA Γ 0, 205, .inl f)) else if a = mo + 4 then some (.inl (gA Γ 0, 205, .inl (A 3))) else if a = mo + 5 then some (.inl (gA Γ 0, 2050, .inl (A 4))) else if a = mo + 6 then some (.inl (gA Γ 0, 410, .inl (A 5))) else if a = mo + 7 then some (.inl (gA Γ 0, 25, .inl (A 6))) else if a = mo + 8 then some (.inl (gA Γ 0, 5, .inl (A 7))) else if a = mo + 9 then some (.inl (gA Γ 1, 600, .inl (A 8))) else if a = mo + 10 then some (.inl (gA Γ 4, 60, .inl (A 9))) else F a
variable {Γ : Gm} {mo : Nat} {F : Hp} {I : Nat → Int32} {A : Nat → Nat → Int32} {f : Nat → Int32}
theorem MW_0 : MW Γ mo F I A f mo = some (.inr (11, moObj mo I)) := by simp [MW]
theorem MW_1 : MW Γ mo F I A f (mo + 1) = some (.inl (gA Γ 0, 48, .inl (A 0))) := by simp [MW]
theorem MW_2 : MW Γ mo F I A f (mo + 2) = some (.inl (gA Γ 0, 24, .inl (A 1))) := by simp [MW]
theorem MW_3 : MW Γ mo F I A f (mo + 3) = some (.inl (gA Γ 0, 205, .inl f)) := by simp [MW]
theorem MW_4 : MW Γ mo F I A f (mo + 4) = some (.inl (gA Γ 0, 205, .inl (A 3))) := by simp [MW]
theorem MW_5 : MW Γ mo F I A f (mo + 5) = some (.inl (gA Γ 0, 2050, .inl (A 4))) := by simp [MW]
theorem MW_6 : MW Γ mo F I A f (mo + 6) = some (.inl (gA Γ 0, 410, .inl (A 5))) := by simp [MW]
theorem MW_7 : MW Γ mo F I A f (mo + 7) = some (.inl (gA Γ 0, 25, .inl (A 6))) := by simp [MW]
theorem MW_8 : MW Γ mo F I A f (mo + 8) = some (.inl (gA Γ 0, 5, .inl (A 7))) := by simp [MW]
theorem MW_9 : MW Γ mo F I A f (mo + 9) = some (.inl (gA Γ 1, 600, .inl (A 8))) := by simp [MW]
theorem MW_10 : MW Γ mo F I A f (mo + 10) = some (.inl (gA Γ 4, 60, .inl (A 9))) := by simp [MW]
def updA (A : Nat → Nat → Int32) (j : Nat) (g : Nat → Int32) : Nat → Nat → Int32 := fun i => if i = j then g else A i
theorem MW_s3 {g : Nat → Int32} : hset (MW Γ mo F I A f) (mo + 3) (.inl (gA Γ 0, 205, .inl g)) = MW Γ mo F I A g := by
  funext a
  by_cases h : a = mo + 3
  · subst h; simp [hset, MW]
  · simp only [hset, MW, if_neg h]
theorem MW_s4 {g : Nat → Int32} : hset (MW Γ mo F I A f) (mo + 4) (.inl (gA Γ 0, 205, .inl g)) = MW Γ mo F I (updA A 3 g) f := by
  funext a
  by_cases h : a = mo + 4
  · subst h; simp [hset, MW, updA]
  · simp only [hset, MW, if_neg h]
    simp [updA]
theorem MW_s5 {g : Nat → Int32} : hset (MW Γ mo F I A f) (mo + 5) (.inl (gA Γ 0, 2050, .inl g)) = MW Γ mo F I (updA A 4 g) f := by
  funext a
  by_cases h : a = mo + 5
  · subst h; simp [hset, MW, updA]
  · simp only [hset, MW, if_neg h]
    simp [updA]
theorem MW_s6 {g : Nat → Int32} : hset (MW Γ mo F I A f) (mo + 6) (.inl (gA Γ 0, 410, .inl g)) = MW Γ mo F I (updA A 5 g) f := by
  funext a
  by_cases h : a = mo + 6
  · subst h; simp [hset, MW, updA]
  · simp only [hset, MW, if_neg h]
    simp [updA]
theorem MW_s7 {g : Nat → Int32} : hset (MW Γ mo F I A f) (mo + 7) (.inl (gA Γ 0, 25, .inl g)) = MW Γ mo F I (updA A 6 g) f := by
  funext a
  by_cases h : a = mo + 7
  · subst h; simp [hset, MW, updA]
  · simp only [hset, MW, if_neg h]
    simp [updA]
theorem MW_s8 {g : Nat → Int32} : hset (MW Γ mo F I A f) (mo + 8) (.inl (gA Γ 0, 5, .inl g)) = MW Γ mo F I (updA A 7 g) f := by
  funext a
  by_cases h : a = mo + 8
  · subst h; simp [hset, MW, updA]
  · simp only [hset, MW, if_neg h]
    simp [updA]
theorem MW_s9 {g : Nat → Int32} : hset (MW Γ mo F I A f) (mo + 9) (.inl (gA Γ 1, 600, .inl g)) = MW Γ mo F I (updA A 8 g) f := by
  funext a
  by_cases h : a = mo + 9
  · subst h; simp [hset, MW, updA]
  · simp only [hset, MW, if_neg h]
    simp [updA]
theorem MW_s10 {g : Nat → Int32} : hset (MW Γ mo F I A f) (mo + 10) (.inl (gA Γ 4, 60, .inl g)) = MW Γ mo F I (updA A 9 g) f := by
  funext a
  by_cases h : a = mo + 10
  · subst h; simp [hset, MW, updA]
  · simp only [hset, MW, if_neg h]
    simp [updA]
theorem MW_sI {J : Nat → Int32} {l : List Value} (h : l = moObj mo J) : hset (MW Γ mo F I A f) mo (.inr (11, l)) = MW Γ mo F J A f := by
  subst h; funext a
  by_cases h : a = mo
  · subst h; simp [hset, MW]
  · simp only [hset, MW, if_neg h]
variable {d : Nat} {M : Mr} {P : Po} {X : Px} {pc : Nat} {lv : List (Nat × Value)} {st rest : List Value} {n kc ks : Nat}
/-- 'this.field': aload_0; getfield -/
theorem m_get {ix k : Nat} {v : Value} (q : Nat) (hl : lv[q]? = some (0, .ref mo)) (hf : Fl M.1 ix 11 k) (hv : (moObj mo I)[k]? = some v) (d0 : decode M.2.2.1 pc = .ok (.aload_n 0, 1)) (d1 : decode M.2.2.1 (pc + 1) = .ok (.getfield ix, 3)) (kk : G Γ d M P X (pc + 4) lv (v :: st) (MW Γ mo F I A f) n kc ks) : G Γ d M P X pc lv st (MW Γ mo F I A f) n kc ks := g_aload_n q hl d0 (g_get hf MW_0 hv d1 kk)
/-- getfield of this on the stack -/
theorem m_getS {ix k : Nat} {v : Value} (hf : Fl M.1 ix 11 k) (hv : (moObj mo I)[k]? = some v) (d1 : decode M.2.2.1 pc = .ok (.getfield ix, 3)) (kk : G Γ d M P X (pc + 3) lv (v :: st) (MW Γ mo F I A f) n kc ks) : G Γ d M P X pc lv (.ref mo :: st) (MW Γ mo F I A f) n kc ks := g_get hf MW_0 hv d1 kk
theorem m_put {ix k : Nat} {x : Int32} (hf : Fl M.1 ix 11 k) (hw : Fw 11 k .int false) (hk : k < 26) (hs : (moObj mo I).set k (.int x) = moObj mo (upd I k x)) (d1 : decode M.2.2.1 pc = .ok (.putfield ix, 3)) (kk : G Γ d M P X (pc + 3) lv st (MW Γ mo F (upd I k x) A f) n kc ks) : G Γ d M P X pc lv (.int x :: .ref mo :: st) (MW Γ mo F I A f) n kc ks := g_put hf hw MW_0 hk rfl rfl hs d1 (g_world (MW_sI rfl) kk)
theorem m_rcv : Rcv Γ (MW Γ mo F I A f) mo RX8 := Rcv.of MW_0 (show vwCl[11]? = some (RX8, TX8, 26) from rfl)
end GMW
end
section
section GPURE
/-- a truth value as the machine has it -/
def bi (p : Prop) [Decidable p] : Int32 := if p then nI 1 else nI 0
theorem bi_t {p : Prop} [Decidable p] (h : p) : bi p = nI 1 := if_pos h
theorem bi_f {p : Prop} [Decidable p] (h : ¬ p) : bi p = nI 0 := if_neg h
theorem bi_nar {p : Prop} [Decidable p] : narrow .boolean (.int (bi p)) = .int (bi p) := by
  by_cases h : p
  · rw [bi_t h]; decide +kernel
  · rw [bi_f h]; decide +kernel
theorem bi_0 {p : Prop} [Decidable p] (h : bi p = 0) : ¬ p := fun z => by rw [bi_t z] at h; exact absurd h (by decide +kernel)
theorem bi_n0 {p : Prop} [Decidable p] (h : ¬ bi p = 0) : p := Classical.byContradiction fun z => h (by rw [bi_f z]; rfl)
def iabs (v : Int32) : Int32 := if v < 0 then -v else v
/-- how many of the first k lodgers of the row f live on a floor, but for one -/
def cntOn (f : Nat → Int32) (fl but : Int32) : Nat → Nat
  | 0 => 0
  | k + 1 => cntOn f fl but k + (if ¬ nI k = but ∧ f (13 + 16 * k) = fl then 1 else 0)
theorem cntOn_le (f : Nat → Int32) (fl but : Int32) : ∀ k, cntOn f fl but k ≤ k
  | 0 => Nat.le_refl 0
  | k + 1 => by have := cntOn_le f fl but k; rw [cntOn]; split <;> omega
def cntA (f : Nat → Int32) (fl : Int32) : Nat → Nat
  | 0 => 0
  | k + 1 => cntA f fl k + (if f (13 + 16 * k) = fl then 1 else 0)
theorem cntA_le (f : Nat → Int32) (fl : Int32) : ∀ k, cntA f fl k ≤ k
  | 0 => Nat.le_refl 0
  | k + 1 => by have := cntA_le f fl k; rw [cntA]; split <;> omega
def sumA (f : Nat → Int32) (fl : Int32) (v : Nat) : Nat → Int32
  | 0 => nI 0
  | k + 1 => sumA f fl v k + (if f (13 + 16 * k) = fl then f (13 + 16 * k + 5 + v) else nI 0)
def avgF (f : Nat → Int32) (fl : Int32) (v c : Nat) : Int32 := if cntA f fl c = 0 then nI 0 else sumA f fl v c / nI (cntA f fl c)
/-- the distance of the first n places -/
def dst (g h : Nat → Int32) : Nat → Int32
  | 0 => nI 0
  | v + 1 => dst g h v + iabs (g v - h v)
/-- how many of the first n places differ -/
def dif (g h : Nat → Int32) : Nat → Nat
  | 0 => 0
  | v + 1 => dif g h v + (if g v = h v then 0 else 1)
theorem dif_le (g h : Nat → Int32) : ∀ k, dif g h k ≤ k
  | 0 => Nat.le_refl 0
  | k + 1 => by have := dif_le g h k; rw [dif]; split <;> omega
/-- the place that differs most, and by how much -/
def far (g h : Nat → Int32) : Nat → Int32 × Int32
  | 0 => (-1, nI 0)
  | v + 1 => (if iabs (g v - h v) ≤ (far g h v).2 then (far g h v).1 else nI v, if iabs (g v - h v) ≤ (far g h v).2 then (far g h v).2 else iabs (g v - h v))
theorem far_p {g h : Nat → Int32} {v : Nat} (hc : iabs (g v - h v) ≤ (far g h v).2) : far g h (v + 1) = far g h v := by rw [far, if_pos hc, if_pos hc]
theorem far_n {g h : Nat → Int32} {v : Nat} (hc : ¬ iabs (g v - h v) ≤ (far g h v).2) : far g h (v + 1) = (nI v, iabs (g v - h v)) := by rw [far, if_neg hc, if_neg hc]
theorem far_or (g h : Nat → Int32) : ∀ n, (far g h n).1 = -1 ∨ ∃ v, v < n ∧ (far g h n).1 = nI v
  | 0 => Or.inl rfl
  | n + 1 => by
    rw [far]
    by_cases hc : iabs (g n - h n) ≤ (far g h n).2
    · rcases far_or g h n with z | ⟨v, hv, z⟩
      · exact Or.inl (by simp only [if_pos hc]; exact z)
      · exact Or.inr ⟨v, by omega, by simp only [if_pos hc]; exact z⟩
    · exact Or.inr ⟨n, by omega, if_neg hc⟩
abbrev rw5 (f : Nat → Int32) (k : Nat) : Nat → Int32 := fun v => f (13 + 16 * k + 5 + v)
abbrev la5 (f : Nat → Int32) : Nat → Int32 := fun v => f (2 + v)
/-- who must go -/
def Must (f : Nat → Int32) (k : Nat) : Prop := f (13 + 16 * k + 1) < 0 ∧ f 1 < dst (rw5 f k) (la5 f) 5 ∧ ¬ dif (rw5 f k) (la5 f) 5 ≤ 1
def MustB (f : Nat → Int32) (k : Nat) : Bool := decide (f (13 + 16 * k + 1) < 0) && decide (f 1 < dst (rw5 f k) (la5 f) 5) && !decide (dif (rw5 f k) (la5 f) 5 ≤ 1)
/-- one place moves by one towards a goal -/
def mvF (f : Nat → Int32) (p : Nat) (t : Int32) : Nat → Int32 := upd f p (f p + (if f p < t then nI 1 else -1))
/-- rent of lodger k -/
def chg1 (f : Nat → Int32) (k : Nat) : Nat → Int32 := upd f (13 + 16 * k + 1) (f (13 + 16 * k + 1) - (f 0 + nI 5 * f (13 + 16 * k)))
def chgF (f : Nat → Int32) (k : Nat) : Nat → Int32 := upd (chg1 f k) 11 (chg1 f k 11 + (f 0 + nI 5 * f (13 + 16 * k)))
/-- the lesson of lodger k -/
def tchF (f : Nat → Int32) (k : Nat) : Nat → Int32 :=
  if f (13 + 16 * k + 1) < 0 ∨ (far (rw5 f k) (la5 f) 5).1 = -1 then f
  else upd (mvF f (13 + 16 * k + 5 + (far (rw5 f k) (la5 f) 5).1.toNatClampNeg) (f (2 + (far (rw5 f k) (la5 f) 5).1.toNatClampNeg))) (13 + 16 * k + 2) (mvF f (13 + 16 * k + 5 + (far (rw5 f k) (la5 f) 5).1.toNatClampNeg) (f (2 + (far (rw5 f k) (la5 f) 5).1.toNatClampNeg)) (13 + 16 * k + 2) + nI 1)
/-- in which place lodger k slips, with the averages a and the crowds o -/
def slpF (f a o : Nat → Int32) (k : Nat) : Int32 := if o (f (13 + 16 * k)).toNatClampNeg < nI 2 then -1 else (far (rw5 f k) (fun v => a (5 * (f (13 + 16 * k)).toNatClampNeg + v)) 5).1
def dinF (f a o : Nat → Int32) (k : Nat) : Nat → Int32 :=
  if slpF f a o k = -1 then f
  else upd (mvF f (13 + 16 * k + 5 + (slpF f a o k).toNatClampNeg) (a (5 * (f (13 + 16 * k)).toNatClampNeg + (slpF f a o k).toNatClampNeg))) (13 + 16 * k + 3) (mvF f (13 + 16 * k + 5 + (slpF f a o k).toNatClampNeg) (a (5 * (f (13 + 16 * k)).toNatClampNeg + (slpF f a o k).toNatClampNeg)) (13 + 16 * k + 3) + nI 1)
theorem slp_or (f a o : Nat → Int32) (k : Nat) : slpF f a o k = -1 ∨ ∃ v, v < 5 ∧ slpF f a o k = nI v := by
  unfold slpF
  split
  · exact Or.inl rfl
  · exact far_or _ _ 5
/-- crowds and averages, as far as m -/
def onU (f : Nat → Int32) (o : Nat → Int32) (c m : Nat) : Nat → Int32 := fun j => if j < m then nI (cntOn f (nI j) (-1) c) else o j
def avU (f : Nat → Int32) (a : Nat → Int32) (c m : Nat) : Nat → Int32 := fun j => if j < m then avgF f (nI (j / 5)) (j % 5) c else a j
theorem onU_s {f o : Nat → Int32} {c m : Nat} : upd (onU f o c m) m (nI (cntOn f (nI m) (-1) c)) = onU f o c (m + 1) := by
  funext j; unfold upd onU
  by_cases h : j = m
  · subst h; simp
  · by_cases h2 : j < m
    · rw [if_neg h, if_pos h2, if_pos (by omega)]
    · rw [if_neg h, if_neg h2, if_neg (by omega)]
theorem avU_s {f a : Nat → Int32} {c i v : Nat} (hv : v < 5) : upd (avU f a c (5 * i + v)) (5 * i + v) (avgF f (nI i) v c) = avU f a c (5 * i + v + 1) := by
  funext j; unfold upd avU
  by_cases h : j = 5 * i + v
  · subst h
    rw [if_pos rfl, if_pos (by omega), show (5 * i + v) / 5 = i by omega, show (5 * i + v) % 5 = v by omega]
  · by_cases h2 : j < 5 * i + v
    · rw [if_neg h, if_pos h2, if_pos (by omega)]
    · rw [if_neg h, if_neg h2, if_neg (by omega)]
/-- lodger k is gone, of c: rows above move down -/
def shf (f : Nat → Int32) (a m : Nat) : Nat → Int32 := fun j => if a ≤ j ∧ j < a + m then f (j + 16) else f j
theorem shf_0 {f : Nat → Int32} {a : Nat} : shf f a 0 = f := by funext j; unfold shf; rw [if_neg (by omega)]
theorem shf_s {f : Nat → Int32} {a m : Nat} : upd (shf f a m) (a + m) (shf f a m (a + m + 16)) = shf f a (m + 1) := by
  funext j; unfold upd shf
  by_cases h : j = a + m
  · subst h; rw [if_pos rfl, if_neg (by omega), if_pos (by omega)]
  · by_cases h2 : a ≤ j ∧ j < a + m
    · rw [if_neg h, if_pos h2, if_pos (by omega)]
    · rw [if_neg h, if_neg h2, if_neg (by omega)]
def gon1 (f : Nat → Int32) (k : Nat) : Nat → Int32 := upd f 12 (f 12 + f (13 + 16 * k + 1))
def gon2 (f : Nat → Int32) (k : Nat) : Nat → Int32 := upd (gon1 f k) 7 (gon1 f k 7 - nI 1)
def gonF (f : Nat → Int32) (k c : Nat) : Nat → Int32 := shf (gon2 f k) (13 + 16 * k) (16 * (c - 1 - k))
/-- who is watched, and with which balance he left: behind the leaving of lodger k -/
def trkF (I f : Nat → Int32) (k : Nat) : Nat → Int32 := if I 11 = nI k then upd (upd I 11 (-1)) 12 (f (13 + 16 * k + 1)) else if nI k < I 11 then upd I 11 (I 11 - nI 1) else I
end GPURE
end
section
section GM1
set_option maxRecDepth 100000 in
set_option maxHeartbeats 4000000 in
theorem c_X8_thrown {Γ : Gm} {mo n : Nat} {F : Hp} {I : Nat → Int32} {A : Nat → Nat → Int32} {f : Nat → Int32}   : Ct Γ 1 MX8_thrown 0 0 [.ref mo] (MW Γ mo F I A f) n (Rt (some (.int (I 2))) (MW Γ mo F I A f) n) X0 := by
  refine Ct.of (by decide +kernel) rfl (Nat.le_of_ble_eq_true rfl) ?_
  refine G.sub (lv2 := [(0, _)]) [0] rfl ?_
  refine m_get 0 rfl f_X8_63 rfl dX8_thrown_0 dX8_thrown_1 ?_
  exact g_iret ⟨rfl, rfl, rfl⟩ rfl rfl dX8_thrown_4
set_option maxRecDepth 100000 in
set_option maxHeartbeats 4000000 in
theorem c_X8_refuse {Γ : Gm} {mo n : Nat} {F : Hp} {I : Nat → Int32} {A : Nat → Nat → Int32} {f : Nat → Int32} {w : Int32}  : Ct Γ 1 MX8_refuse 0 0 [.ref mo, .int w] (MW Γ mo F I A f) n (Rt (some (.int (nI 0))) (MW Γ mo F (upd I 2 w) A f) n) X0 := by
  refine Ct.of (by decide +kernel) rfl (Nat.le_of_ble_eq_true rfl) ?_
  refine G.sub (lv2 := [(0, _), (1, _)]) [0, 1] rfl ?_
  refine g_aload_n 0 rfl dX8_refuse_0 ?_
  refine g_iload_n 1 rfl dX8_refuse_1 ?_
  refine m_put f_X8_63 w_X8_2 (by decide) rfl dX8_refuse_2 ?_
  refine gn_ic 0 (by decide) dX8_refuse_5 ?_
  exact g_iret ⟨rfl, rfl, rfl⟩ rfl rfl dX8_refuse_6
set_option maxRecDepth 100000 in
set_option maxHeartbeats 4000000 in
theorem c_X8_told {Γ : Gm} {mo n : Nat} {F : Hp} {I : Nat → Int32} {A : Nat → Nat → Int32} {f : Nat → Int32} {w : Int32}  : Ct Γ 1 MX8_told 0 0 [.ref mo, .int w] (MW Γ mo F I A f) n (Rt (some (.int (w))) (MW Γ mo F (upd I 2 (nI 0)) A f) n) X0 := by
  refine Ct.of (by decide +kernel) rfl (Nat.le_of_ble_eq_true rfl) ?_
  refine G.sub (lv2 := [(0, _), (1, _)]) [0, 1] rfl ?_
  refine g_aload_n 0 rfl dX8_told_0 ?_
  refine gn_ic 0 (by decide) dX8_told_1 ?_
  refine m_put f_X8_63 w_X8_2 (by decide) rfl dX8_told_2 ?_
  refine g_iload_n 1 rfl dX8_told_5 ?_
  exact g_iret ⟨rfl, rfl, rfl⟩ rfl rfl dX8_told_6
set_option maxRecDepth 100000 in
set_option maxHeartbeats 4000000 in
theorem c_X8_says {Γ : Gm} {mo n : Nat} {F : Hp} {I : Nat → Int32} {A : Nat → Nat → Int32} {f : Nat → Int32} {p : Prop} [Decidable p]  : Ct Γ 1 MX8_says 0 0 [.ref mo, .int (bi p)] (MW Γ mo F I A f) n (Rt (some (.int (bi p))) (MW Γ mo F (upd I 2 (nI 0)) A f) n) X0 := by
  refine Ct.of (by decide +kernel) rfl (Nat.le_of_ble_eq_true rfl) ?_
  refine G.sub (lv2 := [(0, _), (1, _)]) [0, 1] rfl ?_
  refine g_aload_n 0 rfl dX8_says_0 ?_
  refine gn_ic 0 (by decide) dX8_says_1 ?_
  refine m_put f_X8_63 w_X8_2 (by decide) rfl dX8_says_2 ?_
  refine g_iload_n 1 rfl dX8_says_5 ?_
  exact g_iret ⟨rfl, rfl, rfl⟩ bi_nar rfl dX8_says_6
set_option maxRecDepth 100000 in
set_option maxHeartbeats 4000000 in
theorem c_X8_in {Γ : Gm} {n : Nat} {E : Hp} {v a b : Int32}  : Ct Γ 1 MX8_in 0 0 [.int v, .int a, .int b] (E) n (Rt (some (.int (bi (a ≤ v ∧ v ≤ b)))) (E) n) X0 := by
  refine Ct.of (by decide +kernel) rfl (Nat.le_of_ble_eq_true rfl) ?_
  refine G.sub (lv2 := [(0, _), (1, _), (2, _)]) [0, 1, 2] rfl ?_
  refine g_iload_n 0 rfl dX8_in_0 ?_
  refine g_iload_n 1 rfl dX8_in_1 ?_
  refine g_icmp_lt (tgt := 14) (by decide) dX8_in_2 (fun h1 => ?_) (fun h1 => ?_)
  · -- t 14
    refine gn_ic 0 (by decide) dX8_in_14 ?_
    exact g_iret ⟨by unfold bi; split <;> first | rfl | grind | simp_all, rfl, rfl⟩ rfl rfl dX8_in_15
  · -- f 5
    refine g_iload_n 0 rfl dX8_in_5 ?_
    refine g_iload_n 2 rfl dX8_in_6 ?_
    refine g_icmp_gt (tgt := 14) (by decide) dX8_in_7 (fun h2 => ?_) (fun h2 => ?_)
    · -- t 14
      refine gn_ic 0 (by decide) dX8_in_14 ?_
      exact g_iret ⟨by unfold bi; split <;> first | rfl | grind | simp_all, rfl, rfl⟩ rfl rfl dX8_in_15
    · -- f 10
      refine gn_ic 1 (by decide) dX8_in_10 ?_
      refine g_goto (tgt := 15) (by decide) dX8_in_11 ?_
      exact g_iret ⟨by unfold bi; split <;> first | rfl | grind | simp_all, rfl, rfl⟩ rfl rfl dX8_in_15
set_option maxRecDepth 100000 in
set_option maxHeartbeats 4000000 in
theorem c_X8_without {Γ : Gm} {n : Nat} {E : Hp} {v : Int32}  : Ct Γ 1 MX8_without 0 0 [.int v] (E) n (Rt (some (.int (iabs v))) (E) n) X0 := by
  refine Ct.of (by decide +kernel) rfl (Nat.le_of_ble_eq_true rfl) ?_
  refine G.sub (lv2 := [(0, _)]) [0] rfl ?_
  refine g_iload_n 0 rfl dX8_without_0 ?_
  refine g_if_ge (tgt := 9) (by decide) dX8_without_1 (fun cc1 => ?_) (fun cc1 => ?_)
  · -- t 9
    refine g_iload_n 0 rfl dX8_without_9 ?_
    exact g_iret ⟨by unfold iabs; split <;> first | rfl | grind | simp_all, rfl, rfl⟩ rfl rfl dX8_without_10
  · -- f 4
    refine g_iload_n 0 rfl dX8_without_4 ?_
    refine g_ineg dX8_without_5 ?_
    refine g_goto (tgt := 10) (by decide) dX8_without_6 ?_
    exact g_iret ⟨by unfold iabs; split <;> first | rfl | grind | simp_all, rfl, rfl⟩ rfl rfl dX8_without_10
set_option maxRecDepth 100000 in
set_option maxHeartbeats 4000000 in
theorem c_X8_l {Γ : Gm} {n : Nat} {E : Hp} {k : Nat}  : Ct Γ 1 MX8_l 0 0 [.int (nI k)] (E) n (Rt (some (.int (nI (13 + 16 * k)))) (E) n) X0 := by
  refine Ct.of (by decide +kernel) rfl (Nat.le_of_ble_eq_true rfl) ?_
  refine G.sub (lv2 := [(0, _)]) [0] rfl ?_
  refine gn_bp 13 (by decide) dX8_l_0 ?_
  refine gn_bp 16 (by decide) dX8_l_2 ?_
  refine g_iload_n 0 rfl dX8_l_4 ?_
  refine gn_imul dX8_l_5 ?_
  refine gn_iadd dX8_l_6 ?_
  exact g_iret ⟨rfl, rfl, rfl⟩ rfl rfl dX8_l_7
set_option maxRecDepth 100000 in
set_option maxHeartbeats 4000000 in
theorem c_X8_isLodger {Γ : Gm} {mo n : Nat} {F : Hp} {I : Nat → Int32} {A : Nat → Nat → Int32} {f : Nat → Int32} {v : Int32} {c : Nat} (hc : f 7 = nI c) : Ct Γ 2 MX8_isLodger 0 0 [.ref mo, .int v] (MW Γ mo F I A f) n (Rt (some (.int (bi (nI 0 ≤ v ∧ v ≤ nI c - nI 1)))) (MW Γ mo F I A f) n) X0 := by
  refine Ct.of (by decide +kernel) rfl (Nat.le_of_ble_eq_true rfl) ?_
  refine G.sub (lv2 := [(0, _), (1, _)]) [0, 1] rfl ?_
  refine g_iload_n 1 rfl dX8_isLodger_0 ?_
  refine gn_ic 0 (by decide) dX8_isLodger_1 ?_
  refine m_get 0 rfl f_X8_19 rfl dX8_isLodger_2 dX8_isLodger_3 ?_
  refine gn_bp 7 (by decide) dX8_isLodger_6 ?_
  refine gn_iald MW_3 (by omega) (by decide) dX8_isLodger_8 ?_
  refine g_top (y := nI c) hc ?_
  refine gn_ic 1 (by decide) dX8_isLodger_9 ?_
  refine g_isub dX8_isLodger_10 ?_
  refine gv_S (c_X8_in ) l_X8_66 rfl (Nat.le_of_ble_eq_true rfl) (Nat.le_of_ble_eq_true rfl) rfl dX8_isLodger_11 ?_
  exact g_iret ⟨rfl, rfl, rfl⟩ bi_nar rfl dX8_isLodger_14
set_option maxRecDepth 100000 in
set_option maxHeartbeats 4000000 in
theorem c_X8_isFloor {Γ : Gm} {n : Nat} {E : Hp} {v : Int32}  : Ct Γ 2 MX8_isFloor 0 0 [.int v] (E) n (Rt (some (.int (bi (nI 0 ≤ v ∧ v ≤ nI 4)))) (E) n) X0 := by
  refine Ct.of (by decide +kernel) rfl (Nat.le_of_ble_eq_true rfl) ?_
  refine G.sub (lv2 := [(0, _)]) [0] rfl ?_
  refine g_iload_n 0 rfl dX8_isFloor_0 ?_
  refine gn_ic 0 (by decide) dX8_isFloor_1 ?_
  refine gn_ic 4 (by decide) dX8_isFloor_2 ?_
  refine gv_S (c_X8_in ) l_X8_66 rfl (Nat.le_of_ble_eq_true rfl) (Nat.le_of_ble_eq_true rfl) rfl dX8_isFloor_3 ?_
  exact g_iret ⟨rfl, rfl, rfl⟩ bi_nar rfl dX8_isFloor_6
set_option maxRecDepth 100000 in
set_option maxHeartbeats 4000000 in
theorem c_X8_isVowel {Γ : Gm} {n : Nat} {E : Hp} {v : Int32}  : Ct Γ 2 MX8_isVowel 0 0 [.int v] (E) n (Rt (some (.int (bi (nI 0 ≤ v ∧ v ≤ nI 4)))) (E) n) X0 := by
  refine Ct.of (by decide +kernel) rfl (Nat.le_of_ble_eq_true rfl) ?_
  refine G.sub (lv2 := [(0, _)]) [0] rfl ?_
  refine g_iload_n 0 rfl dX8_isVowel_0 ?_
  refine gn_ic 0 (by decide) dX8_isVowel_1 ?_
  refine gn_ic 4 (by decide) dX8_isVowel_2 ?_
  refine gv_S (c_X8_in ) l_X8_66 rfl (Nat.le_of_ble_eq_true rfl) (Nat.le_of_ble_eq_true rfl) rfl dX8_isVowel_3 ?_
  exact g_iret ⟨rfl, rfl, rfl⟩ bi_nar rfl dX8_isVowel_6
set_option maxRecDepth 100000 in
set_option maxHeartbeats 4000000 in
theorem c_X8_at {Γ : Gm} {mo n : Nat} {F : Hp} {I : Nat → Int32} {A : Nat → Nat → Int32} {f : Nat → Int32} {k v : Nat} (hk : k < 12) (hv : v < 5) : Ct Γ 2 MX8_at 0 0 [.ref mo, .int (nI k), .int (nI v)] (MW Γ mo F I A f) n (Rt (some (.int (f (13 + 16 * k + 5 + v)))) (MW Γ mo F I A f) n) X0 := by
  refine Ct.of (by decide +kernel) rfl (Nat.le_of_ble_eq_true rfl) ?_
  refine G.sub (lv2 := [(0, _), (1, _), (2, _)]) [0, 1, 2] rfl ?_
  refine m_get 0 rfl f_X8_19 rfl dX8_at_0 dX8_at_1 ?_
  refine g_iload_n 1 rfl dX8_at_4 ?_
  refine gv_S (c_X8_l ) l_X8_56 rfl (Nat.le_of_ble_eq_true rfl) (Nat.le_of_ble_eq_true rfl) rfl dX8_at_5 ?_
  refine gn_ic 5 (by decide) dX8_at_8 ?_
  refine gn_iadd dX8_at_9 ?_
  refine g_iload_n 2 rfl dX8_at_10 ?_
  refine gn_iadd dX8_at_11 ?_
  refine gn_iald MW_3 (by omega) (by decide) dX8_at_12 ?_
  exact g_iret ⟨rfl, rfl, rfl⟩ rfl rfl dX8_at_13
set_option maxRecDepth 100000 in
set_option maxHeartbeats 4000000 in
theorem c_X8_livingOn {Γ : Gm} {mo n : Nat} {F : Hp} {I : Nat → Int32} {A : Nat → Nat → Int32} {f : Nat → Int32} {fl but : Int32} {c : Nat} (hc : f 7 = nI c) (hc12 : c ≤ 12) : Ct Γ 2 MX8_livingOn 0 0 [.ref mo, .int fl, .int but] (MW Γ mo F I A f) n (Rt (some (.int (nI (cntOn f fl but c)))) (MW Γ mo F I A f) n) X0 := by
  refine Ct.of (by decide +kernel) rfl (Nat.le_of_ble_eq_true rfl) ?_
  refine G.sub (lv2 := [(0, _), (1, _), (2, _)]) [0, 1, 2] rfl ?_
  refine gn_ic 0 (by decide) dX8_livingOn_0 ?_
  refine g_istore_n (lv2 := [(3, _), (0, _), (1, _), (2, _)]) (by decide) rfl dX8_livingOn_1 ?_
  refine gn_ic 0 (by decide) dX8_livingOn_2 ?_
  refine g_istore (lv2 := [(4, _), (3, _), (0, _), (1, _), (2, _)]) (by decide) rfl dX8_livingOn_3 ?_
  have L5 : ∀ (m5 i5 : Nat), i5 + m5 = c → G Γ 2 MX8_livingOn (Rt (some (.int (nI (cntOn f fl but c)))) (MW Γ mo F I A f) n) X0 5 [(0, .ref mo), (1, .int fl), (2, .int but), (3, .int (nI (cntOn f fl but i5))), (4, .int (nI i5))] [] (MW Γ mo F I A f) n 0 0 := by
    intro m5
    induction m5 with
    | zero =>
      intro i5 hi5
      refine g_iload 4 rfl dX8_livingOn_5 ?_
      refine m_get 0 rfl f_X8_19 rfl dX8_livingOn_7 dX8_livingOn_8 ?_
      refine gn_bp 7 (by decide) dX8_livingOn_11 ?_
      refine gn_iald MW_3 (by omega) (by decide) dX8_livingOn_13 ?_
      refine g_top (y := nI c) hc ?_
      refine gn_icmp_ge (by omega) (by omega) (tgt := 53) (by decide) dX8_livingOn_14 (fun cc1 => ?_) (fun cc1 => ?_)
      · -- t 53
        refine g_iload_n 3 rfl dX8_livingOn_53 ?_
        exact g_iret ⟨by rw [show i5 = c by omega], rfl, rfl⟩ rfl rfl dX8_livingOn_54
      · -- f 17
        exfalso; omega
    | succ m5 ih5 =>
      intro i5 hi5
      refine g_iload 4 rfl dX8_livingOn_5 ?_
      refine m_get 0 rfl f_X8_19 rfl dX8_livingOn_7 dX8_livingOn_8 ?_
      refine gn_bp 7 (by decide) dX8_livingOn_11 ?_
      refine gn_iald MW_3 (by omega) (by decide) dX8_livingOn_13 ?_
      refine g_top (y := nI c) hc ?_
      refine gn_icmp_ge (by omega) (by omega) (tgt := 53) (by decide) dX8_livingOn_14 (fun cc2 => ?_) (fun cc2 => ?_)
      · -- t 53
        exfalso; omega
      · -- f 17
        refine g_iload_n 3 rfl dX8_livingOn_17 ?_
        refine g_iload 4 rfl dX8_livingOn_18 ?_
        refine g_iload_n 2 rfl dX8_livingOn_20 ?_
        refine g_icmp_eq (tgt := 44) (by decide) dX8_livingOn_21 (fun cc3 => ?_) (fun cc3 => ?_)
        · -- t 44
          refine gn_ic 0 (by decide) dX8_livingOn_44 ?_
          refine gn_iadd0 dX8_livingOn_45 ?_
          refine g_istore_n (lv2 := [(3, _), (0, _), (1, _), (2, _), (4, _)]) (by decide) rfl dX8_livingOn_46 ?_
          refine gn_inc (lv2 := [(4, _), (3, _), (0, _), (1, _), (2, _)]) 4 rfl (by decide) rfl dX8_livingOn_47 ?_
          refine g_goto (tgt := 5) (by decide) dX8_livingOn_50 ?_
          refine G.sub [2, 3, 4, 1, 0] rfl ?_
          (have h := ih5 (i5 + 1) (by omega); first | (rw [show cntOn f fl but (i5 + 1) = cntOn f fl but i5 + 1 from by simp [cntOn, *]] at h; exact h) | (rw [show cntOn f fl but (i5 + 1) = cntOn f fl but i5 from by simp [cntOn, *]] at h; exact h))
        · -- f 24
          refine m_get 0 rfl f_X8_19 rfl dX8_livingOn_24 dX8_livingOn_25 ?_
          refine g_iload 4 rfl dX8_livingOn_28 ?_
          refine gv_S (c_X8_l ) l_X8_56 rfl (Nat.le_of_ble_eq_true rfl) (Nat.le_of_ble_eq_true rfl) rfl dX8_livingOn_30 ?_
          refine gn_ic 0 (by decide) dX8_livingOn_33 ?_
          refine gn_iadd0 dX8_livingOn_34 ?_
          refine gn_iald MW_3 (by omega) (by decide) dX8_livingOn_35 ?_
          refine g_iload_n 1 rfl dX8_livingOn_36 ?_
          refine g_icmp_ne (tgt := 44) (by decide) dX8_livingOn_37 (fun cc4 => ?_) (fun cc4 => ?_)
          · -- t 44
            refine gn_ic 0 (by decide) dX8_livingOn_44 ?_
            refine gn_iadd0 dX8_livingOn_45 ?_
            refine g_istore_n (lv2 := [(3, _), (0, _), (1, _), (2, _), (4, _)]) (by decide) rfl dX8_livingOn_46 ?_
            refine gn_inc (lv2 := [(4, _), (3, _), (0, _), (1, _), (2, _)]) 4 rfl (by decide) rfl dX8_livingOn_47 ?_
            refine g_goto (tgt := 5) (by decide) dX8_livingOn_50 ?_
            refine G.sub [2, 3, 4, 1, 0] rfl ?_
            (have h := ih5 (i5 + 1) (by omega); first | (rw [show cntOn f fl but (i5 + 1) = cntOn f fl but i5 + 1 from by simp [cntOn, *]] at h; exact h) | (rw [show cntOn f fl but (i5 + 1) = cntOn f fl but i5 from by simp [cntOn, *]] at h; exact h))
          · -- f 40
            refine gn_ic 1 (by decide) dX8_livingOn_40 ?_
            refine g_goto (tgt := 45) (by decide) dX8_livingOn_41 ?_
            refine gn_iadd dX8_livingOn_45 ?_
            refine g_istore_n (lv2 := [(3, _), (0, _), (1, _), (2, _), (4, _)]) (by decide) rfl dX8_livingOn_46 ?_
            refine gn_inc (lv2 := [(4, _), (3, _), (0, _), (1, _), (2, _)]) 4 rfl (by decide) rfl dX8_livingOn_47 ?_
            refine g_goto (tgt := 5) (by decide) dX8_livingOn_50 ?_
            refine G.sub [2, 3, 4, 1, 0] rfl ?_
            (have h := ih5 (i5 + 1) (by omega); first | (rw [show cntOn f fl but (i5 + 1) = cntOn f fl but i5 + 1 from by simp [cntOn, *]] at h; exact h) | (rw [show cntOn f fl but (i5 + 1) = cntOn f fl but i5 from by simp [cntOn, *]] at h; exact h))
  refine G.sub [2, 3, 4, 1, 0] rfl ?_
  exact L5 _ 0 (Nat.zero_add _)
set_option maxRecDepth 100000 in
set_option maxHeartbeats 4000000 in
theorem c_X8_rentAt {Γ : Gm} {mo n : Nat} {F : Hp} {I : Nat → Int32} {A : Nat → Nat → Int32} {f : Nat → Int32} {fl : Int32}  : Ct Γ 1 MX8_rentAt 0 0 [.ref mo, .int fl] (MW Γ mo F I A f) n (Rt (some (.int (f 0 + nI 5 * fl))) (MW Γ mo F I A f) n) X0 := by
  refine Ct.of (by decide +kernel) rfl (Nat.le_of_ble_eq_true rfl) ?_
  refine G.sub (lv2 := [(0, _), (1, _)]) [0, 1] rfl ?_
  refine m_get 0 rfl f_X8_19 rfl dX8_rentAt_0 dX8_rentAt_1 ?_
  refine gn_ic 0 (by decide) dX8_rentAt_4 ?_
  refine gn_iald MW_3 (by omega) (by decide) dX8_rentAt_5 ?_
  refine gn_ic 5 (by decide) dX8_rentAt_6 ?_
  refine g_iload_n 1 rfl dX8_rentAt_7 ?_
  refine g_imul dX8_rentAt_8 ?_
  refine g_iadd dX8_rentAt_9 ?_
  exact g_iret ⟨rfl, rfl, rfl⟩ rfl rfl dX8_rentAt_10
set_option maxRecDepth 100000 in
set_option maxHeartbeats 4000000 in
theorem c_X8_averageAt {Γ : Gm} {mo n : Nat} {F : Hp} {I : Nat → Int32} {A : Nat → Nat → Int32} {f : Nat → Int32} {fl : Int32} {v c : Nat} (hc : f 7 = nI c) (hc12 : c ≤ 12) (hv : v < 5) : Ct Γ 3 MX8_averageAt 0 0 [.ref mo, .int fl, .int (nI v)] (MW Γ mo F I A f) n (Rt (some (.int (avgF f fl v c))) (MW Γ mo F I A f) n) X0 := by
  refine Ct.of (by decide +kernel) rfl (Nat.le_of_ble_eq_true rfl) ?_
  refine G.sub (lv2 := [(0, _), (1, _), (2, _)]) [0, 1, 2] rfl ?_
  refine gn_ic 0 (by decide) dX8_averageAt_0 ?_
  refine g_istore_n (lv2 := [(3, _), (0, _), (1, _), (2, _)]) (by decide) rfl dX8_averageAt_1 ?_
  refine gn_ic 0 (by decide) dX8_averageAt_2 ?_
  refine g_istore (lv2 := [(4, _), (3, _), (0, _), (1, _), (2, _)]) (by decide) rfl dX8_averageAt_3 ?_
  refine gn_ic 0 (by decide) dX8_averageAt_5 ?_
  refine g_istore (lv2 := [(5, _), (4, _), (3, _), (0, _), (1, _), (2, _)]) (by decide) rfl dX8_averageAt_6 ?_
  have L8 : ∀ (m8 i8 : Nat), i8 + m8 = c → G Γ 3 MX8_averageAt (Rt (some (.int (avgF f fl v c))) (MW Γ mo F I A f) n) X0 8 [(0, .ref mo), (1, .int fl), (2, .int (nI v)), (3, .int (sumA f fl v i8)), (4, .int (nI (cntA f fl i8))), (5, .int (nI i8))] [] (MW Γ mo F I A f) n 0 0 := by
    intro m8
    induction m8 with
    | zero =>
      intro i8 hi8
      refine g_iload 5 rfl dX8_averageAt_8 ?_
      refine m_get 0 rfl f_X8_19 rfl dX8_averageAt_10 dX8_averageAt_11 ?_
      refine gn_bp 7 (by decide) dX8_averageAt_14 ?_
      refine gn_iald MW_3 (by omega) (by decide) dX8_averageAt_16 ?_
      refine g_top (y := nI c) hc ?_
      refine gn_icmp_ge (by omega) (by omega) (tgt := 83) (by decide) dX8_averageAt_17 (fun cc1 => ?_) (fun cc1 => ?_)
      · -- t 83
        obtain rfl : i8 = c := by omega
        have hle := cntA_le f fl i8
        refine g_iload 4 rfl dX8_averageAt_83 ?_
        refine gn_if_ne (by omega) (tgt := 92) (by decide) dX8_averageAt_85 (fun cc2 => ?_) (fun cc2 => ?_)
        · -- t 92
          refine g_iload_n 3 rfl dX8_averageAt_92 ?_
          refine g_iload 4 rfl dX8_averageAt_93 ?_
          refine g_idiv (nI_ne0 (by omega) (by omega)) dX8_averageAt_95 ?_
          exact g_iret ⟨by simp [avgF, *], rfl, rfl⟩ rfl rfl dX8_averageAt_96
        · -- f 88
          refine gn_ic 0 (by decide) dX8_averageAt_88 ?_
          refine g_goto (tgt := 96) (by decide) dX8_averageAt_89 ?_
          exact g_iret ⟨by simp [avgF, *], rfl, rfl⟩ rfl rfl dX8_averageAt_96
      · -- f 20
        exfalso; omega
    | succ m8 ih8 =>
      intro i8 hi8
      refine g_iload 5 rfl dX8_averageAt_8 ?_
      refine m_get 0 rfl f_X8_19 rfl dX8_averageAt_10 dX8_averageAt_11 ?_
      refine gn_bp 7 (by decide) dX8_averageAt_14 ?_
      refine gn_iald MW_3 (by omega) (by decide) dX8_averageAt_16 ?_
      refine g_top (y := nI c) hc ?_
      refine gn_icmp_ge (by omega) (by omega) (tgt := 83) (by decide) dX8_averageAt_17 (fun cc3 => ?_) (fun cc3 => ?_)
      · -- t 83
        exfalso; omega
      · -- f 20
        refine m_get 0 rfl f_X8_19 rfl dX8_averageAt_20 dX8_averageAt_21 ?_
        refine g_iload 5 rfl dX8_averageAt_24 ?_
        refine gv_S (c_X8_l ) l_X8_56 rfl (Nat.le_of_ble_eq_true rfl) (Nat.le_of_ble_eq_true rfl) rfl dX8_averageAt_26 ?_
        refine gn_ic 0 (by decide) dX8_averageAt_29 ?_
        refine gn_iadd0 dX8_averageAt_30 ?_
        refine gn_iald MW_3 (by omega) (by decide) dX8_averageAt_31 ?_
        refine g_iload_n 1 rfl dX8_averageAt_32 ?_
        refine g_icmp_ne (tgt := 40) (by decide) dX8_averageAt_33 (fun cc4 => ?_) (fun cc4 => ?_)
        · -- t 40
          refine gn_ic 0 (by decide) dX8_averageAt_40 ?_
          refine g_istore (lv2 := [(6, _), (0, _), (1, _), (2, _), (3, _), (4, _), (5, _)]) (by decide) rfl dX8_averageAt_41 ?_
          refine g_iload_n 4 rfl dX8_averageAt_43 ?_
          refine g_iload 0 rfl dX8_averageAt_44 ?_
          refine gn_if_eq (by omega) (tgt := 59) (by decide) dX8_averageAt_46 (fun cc5 => ?_) (fun cc5 => ?_)
          · -- t 59
            refine gn_ic 0 (by decide) dX8_averageAt_59 ?_
            refine g_iadd dX8_averageAt_60 ?_
            refine g_istore_n (lv2 := [(3, _), (6, _), (0, _), (1, _), (2, _), (4, _), (5, _)]) (by decide) rfl dX8_averageAt_61 ?_
            refine g_iload 5 rfl dX8_averageAt_62 ?_
            refine g_iload 1 rfl dX8_averageAt_64 ?_
            refine gn_if_eq (by omega) (tgt := 73) (by decide) dX8_averageAt_66 (fun cc6 => ?_) (fun cc6 => ?_)
            · -- t 73
              refine gn_ic 0 (by decide) dX8_averageAt_73 ?_
              refine gn_iadd0 dX8_averageAt_74 ?_
              refine g_istore (lv2 := [(4, _), (3, _), (6, _), (0, _), (1, _), (2, _), (5, _)]) (by decide) rfl dX8_averageAt_75 ?_
              refine gn_inc (lv2 := [(5, _), (4, _), (3, _), (6, _), (0, _), (1, _), (2, _)]) 6 rfl (by decide) rfl dX8_averageAt_77 ?_
              refine g_goto (tgt := 8) (by decide) dX8_averageAt_80 ?_
              refine G.sub [4, 5, 6, 2, 1, 0] rfl ?_
              (have h := ih8 (i8 + 1) (by omega); first | (rw [show sumA f fl v (i8 + 1) = sumA f fl v i8 + f (13 + 16 * i8 + 5 + v) from by simp [sumA, *], show cntA f fl (i8 + 1) = cntA f fl i8 + 1 from by simp [cntA, *]] at h; exact h) | (rw [show sumA f fl v (i8 + 1) = sumA f fl v i8 + nI 0 from by simp [sumA, *], show cntA f fl (i8 + 1) = cntA f fl i8 from by simp [cntA, *]] at h; exact h))
            · -- f 69
              exact absurd cc6 (by decide)
          · -- f 49
            exact absurd cc5 (by decide)
        · -- f 36
          refine gn_ic 1 (by decide) dX8_averageAt_36 ?_
          refine g_goto (tgt := 41) (by decide) dX8_averageAt_37 ?_
          refine g_istore (lv2 := [(6, _), (0, _), (1, _), (2, _), (3, _), (4, _), (5, _)]) (by decide) rfl dX8_averageAt_41 ?_
          refine g_iload_n 4 rfl dX8_averageAt_43 ?_
          refine g_iload 0 rfl dX8_averageAt_44 ?_
          refine gn_if_eq (by omega) (tgt := 59) (by decide) dX8_averageAt_46 (fun cc7 => ?_) (fun cc7 => ?_)
          · -- t 59
            exact absurd cc7 (by decide)
          · -- f 49
            refine g_aload_n 1 rfl dX8_averageAt_49 ?_
            refine g_iload 6 rfl dX8_averageAt_50 ?_
            refine g_iload_n 3 rfl dX8_averageAt_52 ?_
            refine gv_V (c_X8_at (by omega) (by omega)) l_X8_73 rfl m_rcv (Nat.le_of_ble_eq_true rfl) (Nat.le_of_ble_eq_true rfl) rfl dX8_averageAt_53 ?_
            refine g_goto (tgt := 60) (by decide) dX8_averageAt_56 ?_
            refine g_iadd dX8_averageAt_60 ?_
            refine g_istore_n (lv2 := [(3, _), (6, _), (0, _), (1, _), (2, _), (4, _), (5, _)]) (by decide) rfl dX8_averageAt_61 ?_
            refine g_iload 5 rfl dX8_averageAt_62 ?_
            refine g_iload 1 rfl dX8_averageAt_64 ?_
            refine gn_if_eq (by omega) (tgt := 73) (by decide) dX8_averageAt_66 (fun cc8 => ?_) (fun cc8 => ?_)
            · -- t 73
              exact absurd cc8 (by decide)
            · -- f 69
              refine gn_ic 1 (by decide) dX8_averageAt_69 ?_
              refine g_goto (tgt := 74) (by decide) dX8_averageAt_70 ?_
              refine gn_iadd dX8_averageAt_74 ?_
              refine g_istore (lv2 := [(4, _), (3, _), (6, _), (0, _), (1, _), (2, _), (5, _)]) (by decide) rfl dX8_averageAt_75 ?_
              refine gn_inc (lv2 := [(5, _), (4, _), (3, _), (6, _), (0, _), (1, _), (2, _)]) 6 rfl (by decide) rfl dX8_averageAt_77 ?_
              refine g_goto (tgt := 8) (by decide) dX8_averageAt_80 ?_
              refine G.sub [4, 5, 6, 2, 1, 0] rfl ?_
              (have h := ih8 (i8 + 1) (by omega); first | (rw [show sumA f fl v (i8 + 1) = sumA f fl v i8 + f (13 + 16 * i8 + 5 + v) from by simp [sumA, *], show cntA f fl (i8 + 1) = cntA f fl i8 + 1 from by simp [cntA, *]] at h; exact h) | (rw [show sumA f fl v (i8 + 1) = sumA f fl v i8 + nI 0 from by simp [sumA, *], show cntA f fl (i8 + 1) = cntA f fl i8 from by simp [cntA, *]] at h; exact h))
  refine G.sub [3, 4, 5, 2, 1, 0] rfl ?_
  exact L8 _ 0 (Nat.zero_add _)
set_option maxRecDepth 100000 in
set_option maxHeartbeats 4000000 in
theorem c_X8_toLandlady {Γ : Gm} {mo n : Nat} {F : Hp} {I : Nat → Int32} {A : Nat → Nat → Int32} {f : Nat → Int32} {k : Nat} (hk : k < 12) : Ct Γ 3 MX8_toLandlady 0 0 [.ref mo, .int (nI k)] (MW Γ mo F I A f) n (Rt (some (.int (dst (rw5 f k) (la5 f) 5))) (MW Γ mo F I A f) n) X0 := by
  refine Ct.of (by decide +kernel) rfl (Nat.le_of_ble_eq_true rfl) ?_
  refine G.sub (lv2 := [(0, _), (1, _)]) [0, 1] rfl ?_
  refine gn_ic 0 (by decide) dX8_toLandlady_0 ?_
  refine g_istore_n (lv2 := [(2, _), (0, _), (1, _)]) (by decide) rfl dX8_toLandlady_1 ?_
  refine gn_ic 0 (by decide) dX8_toLandlady_2 ?_
  refine g_istore_n (lv2 := [(3, _), (2, _), (0, _), (1, _)]) (by decide) rfl dX8_toLandlady_3 ?_
  have L4 : ∀ (m4 i4 : Nat), i4 + m4 = 5 → G Γ 3 MX8_toLandlady (Rt (some (.int (dst (rw5 f k) (la5 f) 5))) (MW Γ mo F I A f) n) X0 4 [(0, .ref mo), (1, .int (nI k)), (2, .int (dst (rw5 f k) (la5 f) i4)), (3, .int (nI i4))] [] (MW Γ mo F I A f) n 0 0 := by
    intro m4
    induction m4 with
    | zero =>
      intro i4 hi4
      refine g_iload_n 3 rfl dX8_toLandlady_4 ?_
      refine gn_ic 5 (by decide) dX8_toLandlady_5 ?_
      refine gn_icmp_ge (by omega) (by omega) (tgt := 36) (by decide) dX8_toLandlady_6 (fun cc1 => ?_) (fun cc1 => ?_)
      · -- t 36
        refine g_iload_n 2 rfl dX8_toLandlady_36 ?_
        exact g_iret ⟨by rw [show i4 = 5 by omega], rfl, rfl⟩ rfl rfl dX8_toLandlady_37
      · -- f 9
        exfalso; omega
    | succ m4 ih4 =>
      intro i4 hi4
      refine g_iload_n 3 rfl dX8_toLandlady_4 ?_
      refine gn_ic 5 (by decide) dX8_toLandlady_5 ?_
      refine gn_icmp_ge (by omega) (by omega) (tgt := 36) (by decide) dX8_toLandlady_6 (fun cc2 => ?_) (fun cc2 => ?_)
      · -- t 36
        exfalso; omega
      · -- f 9
        refine g_iload_n 2 rfl dX8_toLandlady_9 ?_
        refine g_aload_n 0 rfl dX8_toLandlady_10 ?_
        refine g_iload_n 1 rfl dX8_toLandlady_11 ?_
        refine g_iload_n 3 rfl dX8_toLandlady_12 ?_
        refine gv_V (c_X8_at (by omega) (by omega)) l_X8_73 rfl m_rcv (Nat.le_of_ble_eq_true rfl) (Nat.le_of_ble_eq_true rfl) rfl dX8_toLandlady_13 ?_
        refine m_get 0 rfl f_X8_19 rfl dX8_toLandlady_16 dX8_toLandlady_17 ?_
        refine gn_ic 2 (by decide) dX8_toLandlady_20 ?_
        refine g_iload_n 3 rfl dX8_toLandlady_21 ?_
        refine gn_iadd dX8_toLandlady_22 ?_
        refine gn_iald MW_3 (by omega) (by decide) dX8_toLandlady_23 ?_
        refine g_isub dX8_toLandlady_24 ?_
        refine gv_S (c_X8_without ) l_X8_77 rfl (Nat.le_of_ble_eq_true rfl) (Nat.le_of_ble_eq_true rfl) rfl dX8_toLandlady_25 ?_
        refine g_iadd dX8_toLandlady_28 ?_
        refine g_istore_n (lv2 := [(2, _), (0, _), (1, _), (3, _)]) (by decide) rfl dX8_toLandlady_29 ?_
        refine gn_inc (lv2 := [(3, _), (2, _), (0, _), (1, _)]) 3 rfl (by decide) rfl dX8_toLandlady_30 ?_
        refine g_goto (tgt := 4) (by decide) dX8_toLandlady_33 ?_
        refine G.sub [2, 3, 1, 0] rfl ?_
        exact ih4 (i4 + 1) (by omega)
  refine G.sub [2, 3, 1, 0] rfl ?_
  exact L4 _ 0 (Nat.zero_add _)
set_option maxRecDepth 100000 in
set_option maxHeartbeats 4000000 in
theorem c_X8_rhymesHer {Γ : Gm} {mo n : Nat} {F : Hp} {I : Nat → Int32} {A : Nat → Nat → Int32} {f : Nat → Int32} {k : Nat} (hk : k < 12) : Ct Γ 3 MX8_rhymesHer 0 0 [.ref mo, .int (nI k)] (MW Γ mo F I A f) n (Rt (some (.int (bi (dif (rw5 f k) (la5 f) 5 ≤ 1)))) (MW Γ mo F I A f) n) X0 := by
  refine Ct.of (by decide +kernel) rfl (Nat.le_of_ble_eq_true rfl) ?_
  refine G.sub (lv2 := [(0, _), (1, _)]) [0, 1] rfl ?_
  refine gn_ic 0 (by decide) dX8_rhymesHer_0 ?_
  refine g_istore_n (lv2 := [(2, _), (0, _), (1, _)]) (by decide) rfl dX8_rhymesHer_1 ?_
  refine gn_ic 0 (by decide) dX8_rhymesHer_2 ?_
  refine g_istore_n (lv2 := [(3, _), (2, _), (0, _), (1, _)]) (by decide) rfl dX8_rhymesHer_3 ?_
  have L4 : ∀ (m4 i4 : Nat), i4 + m4 = 5 → G Γ 3 MX8_rhymesHer (Rt (some (.int (bi (dif (rw5 f k) (la5 f) 5 ≤ 1)))) (MW Γ mo F I A f) n) X0 4 [(0, .ref mo), (1, .int (nI k)), (2, .int (nI (dif (rw5 f k) (la5 f) i4))), (3, .int (nI i4))] [] (MW Γ mo F I A f) n 0 0 := by
    intro m4
    induction m4 with
    | zero =>
      intro i4 hi4
      refine g_iload_n 3 rfl dX8_rhymesHer_4 ?_
      refine gn_ic 5 (by decide) dX8_rhymesHer_5 ?_
      refine gn_icmp_ge (by omega) (by omega) (tgt := 40) (by decide) dX8_rhymesHer_6 (fun cc1 => ?_) (fun cc1 => ?_)
      · -- t 40
        obtain rfl : i4 = 5 := by omega
        have hle := dif_le (rw5 f k) (la5 f) 5
        refine g_iload_n 2 rfl dX8_rhymesHer_40 ?_
        refine gn_ic 1 (by decide) dX8_rhymesHer_41 ?_
        refine gn_icmp_gt (by omega) (by omega) (tgt := 49) (by decide) dX8_rhymesHer_42 (fun cc2 => ?_) (fun cc2 => ?_)
        · -- t 49
          refine gn_ic 0 (by decide) dX8_rhymesHer_49 ?_
          exact g_iret ⟨by unfold bi; split <;> first | rfl | (exfalso; omega), rfl, rfl⟩ (by decide +kernel) rfl dX8_rhymesHer_50
        · -- f 45
          refine gn_ic 1 (by decide) dX8_rhymesHer_45 ?_
          refine g_goto (tgt := 50) (by decide) dX8_rhymesHer_46 ?_
          exact g_iret ⟨by unfold bi; split <;> first | rfl | (exfalso; omega), rfl, rfl⟩ (by decide +kernel) rfl dX8_rhymesHer_50
      · -- f 9
        exfalso; omega
    | succ m4 ih4 =>
      intro i4 hi4
      refine g_iload_n 3 rfl dX8_rhymesHer_4 ?_
      refine gn_ic 5 (by decide) dX8_rhymesHer_5 ?_
      refine gn_icmp_ge (by omega) (by omega) (tgt := 40) (by decide) dX8_rhymesHer_6 (fun cc3 => ?_) (fun cc3 => ?_)
      · -- t 40
        exfalso; omega
      · -- f 9
        refine g_iload_n 2 rfl dX8_rhymesHer_9 ?_
        refine g_aload_n 0 rfl dX8_rhymesHer_10 ?_
        refine g_iload_n 1 rfl dX8_rhymesHer_11 ?_
        refine g_iload_n 3 rfl dX8_rhymesHer_12 ?_
        refine gv_V (c_X8_at (by omega) (by omega)) l_X8_73 rfl m_rcv (Nat.le_of_ble_eq_true rfl) (Nat.le_of_ble_eq_true rfl) rfl dX8_rhymesHer_13 ?_
        refine m_get 0 rfl f_X8_19 rfl dX8_rhymesHer_16 dX8_rhymesHer_17 ?_
        refine gn_ic 2 (by decide) dX8_rhymesHer_20 ?_
        refine g_iload_n 3 rfl dX8_rhymesHer_21 ?_
        refine gn_iadd dX8_rhymesHer_22 ?_
        refine gn_iald MW_3 (by omega) (by decide) dX8_rhymesHer_23 ?_
        refine g_icmp_ne (tgt := 31) (by decide) dX8_rhymesHer_24 (fun cc4 => ?_) (fun cc4 => ?_)
        · -- t 31
          refine gn_ic 1 (by decide) dX8_rhymesHer_31 ?_
          refine gn_iadd dX8_rhymesHer_32 ?_
          refine g_istore_n (lv2 := [(2, _), (0, _), (1, _), (3, _)]) (by decide) rfl dX8_rhymesHer_33 ?_
          refine gn_inc (lv2 := [(3, _), (2, _), (0, _), (1, _)]) 3 rfl (by decide) rfl dX8_rhymesHer_34 ?_
          refine g_goto (tgt := 4) (by decide) dX8_rhymesHer_37 ?_
          refine G.sub [2, 3, 1, 0] rfl ?_
          (have h := ih4 (i4 + 1) (by omega); first | (rw [show dif (rw5 f k) (la5 f) (i4 + 1) = dif (rw5 f k) (la5 f) i4 + 1 from by simp [dif, *]] at h; exact h) | (rw [show dif (rw5 f k) (la5 f) (i4 + 1) = dif (rw5 f k) (la5 f) i4 from by simp [dif, *]] at h; exact h))
        · -- f 27
          refine gn_ic 0 (by decide) dX8_rhymesHer_27 ?_
          refine g_goto (tgt := 32) (by decide) dX8_rhymesHer_28 ?_
          refine gn_iadd0 dX8_rhymesHer_32 ?_
          refine g_istore_n (lv2 := [(2, _), (0, _), (1, _), (3, _)]) (by decide) rfl dX8_rhymesHer_33 ?_
          refine gn_inc (lv2 := [(3, _), (2, _), (0, _), (1, _)]) 3 rfl (by decide) rfl dX8_rhymesHer_34 ?_
          refine g_goto (tgt := 4) (by decide) dX8_rhymesHer_37 ?_
          refine G.sub [2, 3, 1, 0] rfl ?_
          (have h := ih4 (i4 + 1) (by omega); first | (rw [show dif (rw5 f k) (la5 f) (i4 + 1) = dif (rw5 f k) (la5 f) i4 + 1 from by simp [dif, *]] at h; exact h) | (rw [show dif (rw5 f k) (la5 f) (i4 + 1) = dif (rw5 f k) (la5 f) i4 from by simp [dif, *]] at h; exact h))
  refine G.sub [2, 3, 1, 0] rfl ?_
  exact L4 _ 0 (Nat.zero_add _)
set_option maxRecDepth 100000 in
set_option maxHeartbeats 4000000 in
theorem c_X8_between {Γ : Gm} {mo n : Nat} {F : Hp} {I : Nat → Int32} {A : Nat → Nat → Int32} {f : Nat → Int32} {k j : Nat} (hk : k < 12) (hj : j < 12) : Ct Γ 3 MX8_between 0 0 [.ref mo, .int (nI k), .int (nI j)] (MW Γ mo F I A f) n (Rt (some (.int (dst (rw5 f k) (rw5 f j) 5))) (MW Γ mo F I A f) n) X0 := by
  refine Ct.of (by decide +kernel) rfl (Nat.le_of_ble_eq_true rfl) ?_
  refine G.sub (lv2 := [(0, _), (1, _), (2, _)]) [0, 1, 2] rfl ?_
  refine gn_ic 0 (by decide) dX8_between_0 ?_
  refine g_istore_n (lv2 := [(3, _), (0, _), (1, _), (2, _)]) (by decide) rfl dX8_between_1 ?_
  refine gn_ic 0 (by decide) dX8_between_2 ?_
  refine g_istore (lv2 := [(4, _), (3, _), (0, _), (1, _), (2, _)]) (by decide) rfl dX8_between_3 ?_
  have L5 : ∀ (m5 i5 : Nat), i5 + m5 = 5 → G Γ 3 MX8_between (Rt (some (.int (dst (rw5 f k) (rw5 f j) 5))) (MW Γ mo F I A f) n) X0 5 [(0, .ref mo), (1, .int (nI k)), (2, .int (nI j)), (3, .int (dst (rw5 f k) (rw5 f j) i5)), (4, .int (nI i5))] [] (MW Γ mo F I A f) n 0 0 := by
    intro m5
    induction m5 with
    | zero =>
      intro i5 hi5
      refine g_iload 4 rfl dX8_between_5 ?_
      refine gn_ic 5 (by decide) dX8_between_7 ?_
      refine gn_icmp_ge (by omega) (by omega) (tgt := 38) (by decide) dX8_between_8 (fun cc1 => ?_) (fun cc1 => ?_)
      · -- t 38
        refine g_iload_n 3 rfl dX8_between_38 ?_
        exact g_iret ⟨by rw [show i5 = 5 by omega], rfl, rfl⟩ rfl rfl dX8_between_39
      · -- f 11
        exfalso; omega
    | succ m5 ih5 =>
      intro i5 hi5
      refine g_iload 4 rfl dX8_between_5 ?_
      refine gn_ic 5 (by decide) dX8_between_7 ?_
      refine gn_icmp_ge (by omega) (by omega) (tgt := 38) (by decide) dX8_between_8 (fun cc2 => ?_) (fun cc2 => ?_)
      · -- t 38
        exfalso; omega
      · -- f 11
        refine g_iload_n 3 rfl dX8_between_11 ?_
        refine g_aload_n 0 rfl dX8_between_12 ?_
        refine g_iload_n 1 rfl dX8_between_13 ?_
        refine g_iload 4 rfl dX8_between_14 ?_
        refine gv_V (c_X8_at (by omega) (by omega)) l_X8_73 rfl m_rcv (Nat.le_of_ble_eq_true rfl) (Nat.le_of_ble_eq_true rfl) rfl dX8_between_16 ?_
        refine g_aload_n 0 rfl dX8_between_19 ?_
        refine g_iload_n 2 rfl dX8_between_20 ?_
        refine g_iload 4 rfl dX8_between_21 ?_
        refine gv_V (c_X8_at (by omega) (by omega)) l_X8_73 rfl m_rcv (Nat.le_of_ble_eq_true rfl) (Nat.le_of_ble_eq_true rfl) rfl dX8_between_23 ?_
        refine g_isub dX8_between_26 ?_
        refine gv_S (c_X8_without ) l_X8_77 rfl (Nat.le_of_ble_eq_true rfl) (Nat.le_of_ble_eq_true rfl) rfl dX8_between_27 ?_
        refine g_iadd dX8_between_30 ?_
        refine g_istore_n (lv2 := [(3, _), (0, _), (1, _), (2, _), (4, _)]) (by decide) rfl dX8_between_31 ?_
        refine gn_inc (lv2 := [(4, _), (3, _), (0, _), (1, _), (2, _)]) 4 rfl (by decide) rfl dX8_between_32 ?_
        refine g_goto (tgt := 5) (by decide) dX8_between_35 ?_
        refine G.sub [2, 3, 4, 1, 0] rfl ?_
        exact ih5 (i5 + 1) (by omega)
  refine G.sub [2, 3, 4, 1, 0] rfl ?_
  exact L5 _ 0 (Nat.zero_add _)
set_option maxRecDepth 100000 in
set_option maxHeartbeats 4000000 in
theorem c_X8_rhyme {Γ : Gm} {mo n : Nat} {F : Hp} {I : Nat → Int32} {A : Nat → Nat → Int32} {f : Nat → Int32} {k j : Nat} (hk : k < 12) (hj : j < 12) : Ct Γ 3 MX8_rhyme 0 0 [.ref mo, .int (nI k), .int (nI j)] (MW Γ mo F I A f) n (Rt (some (.int (bi (dif (rw5 f k) (rw5 f j) 5 ≤ 1)))) (MW Γ mo F I A f) n) X0 := by
  refine Ct.of (by decide +kernel) rfl (Nat.le_of_ble_eq_true rfl) ?_
  refine G.sub (lv2 := [(0, _), (1, _), (2, _)]) [0, 1, 2] rfl ?_
  refine gn_ic 0 (by decide) dX8_rhyme_0 ?_
  refine g_istore_n (lv2 := [(3, _), (0, _), (1, _), (2, _)]) (by decide) rfl dX8_rhyme_1 ?_
  refine gn_ic 0 (by decide) dX8_rhyme_2 ?_
  refine g_istore (lv2 := [(4, _), (3, _), (0, _), (1, _), (2, _)]) (by decide) rfl dX8_rhyme_3 ?_
  have L5 : ∀ (m5 i5 : Nat), i5 + m5 = 5 → G Γ 3 MX8_rhyme (Rt (some (.int (bi (dif (rw5 f k) (rw5 f j) 5 ≤ 1)))) (MW Γ mo F I A f) n) X0 5 [(0, .ref mo), (1, .int (nI k)), (2, .int (nI j)), (3, .int (nI (dif (rw5 f k) (rw5 f j) i5))), (4, .int (nI i5))] [] (MW Γ mo F I A f) n 0 0 := by
    intro m5
    induction m5 with
    | zero =>
      intro i5 hi5
      refine g_iload 4 rfl dX8_rhyme_5 ?_
      refine gn_ic 5 (by decide) dX8_rhyme_7 ?_
      refine gn_icmp_ge (by omega) (by omega) (tgt := 42) (by decide) dX8_rhyme_8 (fun cc1 => ?_) (fun cc1 => ?_)
      · -- t 42
        obtain rfl : i5 = 5 := by omega
        have hle := dif_le (rw5 f k) (rw5 f j) 5
        refine g_iload_n 3 rfl dX8_rhyme_42 ?_
        refine gn_ic 1 (by decide) dX8_rhyme_43 ?_
        refine gn_icmp_gt (by omega) (by omega) (tgt := 51) (by decide) dX8_rhyme_44 (fun cc2 => ?_) (fun cc2 => ?_)
        · -- t 51
          refine gn_ic 0 (by decide) dX8_rhyme_51 ?_
          exact g_iret ⟨by unfold bi; split <;> first | rfl | (exfalso; omega), rfl, rfl⟩ (by decide +kernel) rfl dX8_rhyme_52
        · -- f 47
          refine gn_ic 1 (by decide) dX8_rhyme_47 ?_
          refine g_goto (tgt := 52) (by decide) dX8_rhyme_48 ?_
          exact g_iret ⟨by unfold bi; split <;> first | rfl | (exfalso; omega), rfl, rfl⟩ (by decide +kernel) rfl dX8_rhyme_52
      · -- f 11
        exfalso; omega
    | succ m5 ih5 =>
      intro i5 hi5
      refine g_iload 4 rfl dX8_rhyme_5 ?_
      refine gn_ic 5 (by decide) dX8_rhyme_7 ?_
      refine gn_icmp_ge (by omega) (by omega) (tgt := 42) (by decide) dX8_rhyme_8 (fun cc3 => ?_) (fun cc3 => ?_)
      · -- t 42
        exfalso; omega
      · -- f 11
        refine g_iload_n 3 rfl dX8_rhyme_11 ?_
        refine g_aload_n 0 rfl dX8_rhyme_12 ?_
        refine g_iload_n 1 rfl dX8_rhyme_13 ?_
        refine g_iload 4 rfl dX8_rhyme_14 ?_
        refine gv_V (c_X8_at (by omega) (by omega)) l_X8_73 rfl m_rcv (Nat.le_of_ble_eq_true rfl) (Nat.le_of_ble_eq_true rfl) rfl dX8_rhyme_16 ?_
        refine g_aload_n 0 rfl dX8_rhyme_19 ?_
        refine g_iload_n 2 rfl dX8_rhyme_20 ?_
        refine g_iload 4 rfl dX8_rhyme_21 ?_
        refine gv_V (c_X8_at (by omega) (by omega)) l_X8_73 rfl m_rcv (Nat.le_of_ble_eq_true rfl) (Nat.le_of_ble_eq_true rfl) rfl dX8_rhyme_23 ?_
        refine g_icmp_ne (tgt := 33) (by decide) dX8_rhyme_26 (fun cc4 => ?_) (fun cc4 => ?_)
        · -- t 33
          refine gn_ic 1 (by decide) dX8_rhyme_33 ?_
          refine gn_iadd dX8_rhyme_34 ?_
          refine g_istore_n (lv2 := [(3, _), (0, _), (1, _), (2, _), (4, _)]) (by decide) rfl dX8_rhyme_35 ?_
          refine gn_inc (lv2 := [(4, _), (3, _), (0, _), (1, _), (2, _)]) 4 rfl (by decide) rfl dX8_rhyme_36 ?_
          refine g_goto (tgt := 5) (by decide) dX8_rhyme_39 ?_
          refine G.sub [2, 3, 4, 1, 0] rfl ?_
          (have h := ih5 (i5 + 1) (by omega); first | (rw [show dif (rw5 f k) (rw5 f j) (i5 + 1) = dif (rw5 f k) (rw5 f j) i5 + 1 from by simp [dif, *]] at h; exact h) | (rw [show dif (rw5 f k) (rw5 f j) (i5 + 1) = dif (rw5 f k) (rw5 f j) i5 from by simp [dif, *]] at h; exact h))
        · -- f 29
          refine gn_ic 0 (by decide) dX8_rhyme_29 ?_
          refine g_goto (tgt := 34) (by decide) dX8_rhyme_30 ?_
          refine gn_iadd0 dX8_rhyme_34 ?_
          refine g_istore_n (lv2 := [(3, _), (0, _), (1, _), (2, _), (4, _)]) (by decide) rfl dX8_rhyme_35 ?_
          refine gn_inc (lv2 := [(4, _), (3, _), (0, _), (1, _), (2, _)]) 4 rfl (by decide) rfl dX8_rhyme_36 ?_
          refine g_goto (tgt := 5) (by decide) dX8_rhyme_39 ?_
          refine G.sub [2, 3, 4, 1, 0] rfl ?_
          (have h := ih5 (i5 + 1) (by omega); first | (rw [show dif (rw5 f k) (rw5 f j) (i5 + 1) = dif (rw5 f k) (rw5 f j) i5 + 1 from by simp [dif, *]] at h; exact h) | (rw [show dif (rw5 f k) (rw5 f j) (i5 + 1) = dif (rw5 f k) (rw5 f j) i5 from by simp [dif, *]] at h; exact h))
  refine G.sub [2, 3, 4, 1, 0] rfl ?_
  exact L5 _ 0 (Nat.zero_add _)
set_option maxRecDepth 100000 in
set_option maxHeartbeats 4000000 in
theorem c_X8_lessonFor {Γ : Gm} {mo n : Nat} {F : Hp} {I : Nat → Int32} {A : Nat → Nat → Int32} {f : Nat → Int32} {k : Nat} (hk : k < 12) : Ct Γ 3 MX8_lessonFor 0 0 [.ref mo, .int (nI k)] (MW Γ mo F I A f) n (Rt (some (.int ((far (rw5 f k) (la5 f) 5).1))) (MW Γ mo F I A f) n) X0 := by
  refine Ct.of (by decide +kernel) rfl (Nat.le_of_ble_eq_true rfl) ?_
  refine G.sub (lv2 := [(0, _), (1, _)]) [0, 1] rfl ?_
  refine g_iconst (v := -1) dX8_lessonFor_0 (by decide) ?_
  refine g_istore_n (lv2 := [(2, _), (0, _), (1, _)]) (by decide) rfl dX8_lessonFor_1 ?_
  refine gn_ic 0 (by decide) dX8_lessonFor_2 ?_
  refine g_istore_n (lv2 := [(3, _), (2, _), (0, _), (1, _)]) (by decide) rfl dX8_lessonFor_3 ?_
  refine gn_ic 0 (by decide) dX8_lessonFor_4 ?_
  refine g_istore (lv2 := [(4, _), (3, _), (2, _), (0, _), (1, _)]) (by decide) rfl dX8_lessonFor_5 ?_
  have L7 : ∀ (m7 i7 : Nat), i7 + m7 = 5 → G Γ 3 MX8_lessonFor (Rt (some (.int ((far (rw5 f k) (la5 f) 5).1))) (MW Γ mo F I A f) n) X0 7 [(0, .ref mo), (1, .int (nI k)), (2, .int (far (rw5 f k) (la5 f) i7).1), (3, .int (far (rw5 f k) (la5 f) i7).2), (4, .int (nI i7))] [] (MW Γ mo F I A f) n 0 0 := by
    intro m7
    induction m7 with
    | zero =>
      intro i7 hi7
      refine g_iload 4 rfl dX8_lessonFor_7 ?_
      refine gn_ic 5 (by decide) dX8_lessonFor_9 ?_
      refine gn_icmp_ge (by omega) (by omega) (tgt := 67) (by decide) dX8_lessonFor_10 (fun cc1 => ?_) (fun cc1 => ?_)
      · -- t 67
        refine g_iload_n 2 rfl dX8_lessonFor_67 ?_
        exact g_iret ⟨by rw [show i7 = 5 by omega], rfl, rfl⟩ rfl rfl dX8_lessonFor_68
      · -- f 13
        exfalso; omega
    | succ m7 ih7 =>
      intro i7 hi7
      refine g_iload 4 rfl dX8_lessonFor_7 ?_
      refine gn_ic 5 (by decide) dX8_lessonFor_9 ?_
      refine gn_icmp_ge (by omega) (by omega) (tgt := 67) (by decide) dX8_lessonFor_10 (fun cc2 => ?_) (fun cc2 => ?_)
      · -- t 67
        exfalso; omega
      · -- f 13
        refine g_aload_n 0 rfl dX8_lessonFor_13 ?_
        refine g_iload_n 1 rfl dX8_lessonFor_14 ?_
        refine g_iload 4 rfl dX8_lessonFor_15 ?_
        refine gv_V (c_X8_at (by omega) (by omega)) l_X8_73 rfl m_rcv (Nat.le_of_ble_eq_true rfl) (Nat.le_of_ble_eq_true rfl) rfl dX8_lessonFor_17 ?_
        refine m_get 0 rfl f_X8_19 rfl dX8_lessonFor_20 dX8_lessonFor_21 ?_
        refine gn_ic 2 (by decide) dX8_lessonFor_24 ?_
        refine g_iload 4 rfl dX8_lessonFor_25 ?_
        refine gn_iadd dX8_lessonFor_27 ?_
        refine gn_iald MW_3 (by omega) (by decide) dX8_lessonFor_28 ?_
        refine g_isub dX8_lessonFor_29 ?_
        refine gv_S (c_X8_without ) l_X8_77 rfl (Nat.le_of_ble_eq_true rfl) (Nat.le_of_ble_eq_true rfl) rfl dX8_lessonFor_30 ?_
        refine g_istore (lv2 := [(5, _), (0, _), (1, _), (2, _), (3, _), (4, _)]) (by decide) rfl dX8_lessonFor_33 ?_
        refine g_iload 0 rfl dX8_lessonFor_35 ?_
        refine g_iload_n 4 rfl dX8_lessonFor_37 ?_
        refine g_icmp_le (tgt := 46) (by decide) dX8_lessonFor_38 (fun h1 => ?_) (fun h1 => ?_)
        · -- t 46
          refine g_iload_n 3 rfl dX8_lessonFor_46 ?_
          refine g_istore_n (lv2 := [(2, _), (5, _), (0, _), (1, _), (3, _), (4, _)]) (by decide) rfl dX8_lessonFor_47 ?_
          refine g_iload 1 rfl dX8_lessonFor_48 ?_
          refine g_iload_n 4 rfl dX8_lessonFor_50 ?_
          refine g_icmp_le (tgt := 59) (by decide) dX8_lessonFor_51 (fun h2 => ?_) (fun h2 => ?_)
          · -- t 59
            refine g_iload_n 4 rfl dX8_lessonFor_59 ?_
            refine g_istore_n (lv2 := [(3, _), (2, _), (5, _), (0, _), (1, _), (4, _)]) (by decide) rfl dX8_lessonFor_60 ?_
            refine gn_inc (lv2 := [(4, _), (3, _), (2, _), (5, _), (0, _), (1, _)]) 5 rfl (by decide) rfl dX8_lessonFor_61 ?_
            refine g_goto (tgt := 7) (by decide) dX8_lessonFor_64 ?_
            refine G.sub [4, 5, 2, 1, 0] rfl ?_
            (have h := ih7 (i7 + 1) (by omega); rw [far_p (g := rw5 f k) (h := la5 f) (v := i7) h1] at h; exact h)
          · -- f 54
            exact absurd h1 h2
        · -- f 41
          refine g_iload 5 rfl dX8_lessonFor_41 ?_
          refine g_goto (tgt := 47) (by decide) dX8_lessonFor_43 ?_
          refine g_istore_n (lv2 := [(2, _), (5, _), (0, _), (1, _), (3, _), (4, _)]) (by decide) rfl dX8_lessonFor_47 ?_
          refine g_iload 1 rfl dX8_lessonFor_48 ?_
          refine g_iload_n 4 rfl dX8_lessonFor_50 ?_
          refine g_icmp_le (tgt := 59) (by decide) dX8_lessonFor_51 (fun h2 => ?_) (fun h2 => ?_)
          · -- t 59
            exact absurd h2 h1
          · -- f 54
            refine g_iload 1 rfl dX8_lessonFor_54 ?_
            refine g_goto (tgt := 60) (by decide) dX8_lessonFor_56 ?_
            refine g_istore_n (lv2 := [(3, _), (2, _), (5, _), (0, _), (1, _), (4, _)]) (by decide) rfl dX8_lessonFor_60 ?_
            refine gn_inc (lv2 := [(4, _), (3, _), (2, _), (5, _), (0, _), (1, _)]) 5 rfl (by decide) rfl dX8_lessonFor_61 ?_
            refine g_goto (tgt := 7) (by decide) dX8_lessonFor_64 ?_
            refine G.sub [4, 5, 2, 1, 0] rfl ?_
            (have h := ih7 (i7 + 1) (by omega); rw [far_n (g := rw5 f k) (h := la5 f) (v := i7) h1] at h; exact h)
  refine G.sub [3, 4, 2, 1, 0] rfl ?_
  exact L7 _ 0 (Nat.zero_add _)
end GM1
end
section
section GPURE2
def avA (A : Nat → Nat → Int32) (o a : Nat → Int32) : Nat → Nat → Int32 := fun j => if j = 7 then o else if j = 6 then a else A j
theorem avA_0 {A : Nat → Nat → Int32} {f : Nat → Int32} {c : Nat} : avA A (onU f (A 7) c 0) (avU f (A 6) c 0) = A := by
  funext j; unfold avA
  by_cases h : j = 7
  · subst h; rw [if_pos rfl]; funext q; unfold onU; rw [if_neg (by omega)]
  · by_cases h2 : j = 6
    · subst h2; rw [if_neg h, if_pos rfl]; funext q; unfold avU; rw [if_neg (by omega)]
    · rw [if_neg h, if_neg h2]
theorem avA_id {A : Nat → Nat → Int32} : avA A (A 7) (A 6) = A := by
  funext j; unfold avA; split
  · subst_vars; rfl
  · split
    · subst_vars; rfl
    · rfl
theorem avA_av {A : Nat → Nat → Int32} {o a o2 a2 : Nat → Int32} : avA (avA A o a) o2 a2 = avA A o2 a2 := by
  funext j; unfold avA; split
  · rfl
  · split <;> rfl
theorem updA_7 {A : Nat → Nat → Int32} {o a g : Nat → Int32} : updA (avA A o a) 7 g = avA A g a := by
  funext j; unfold avA updA
  by_cases h : j = 7
  · subst h; simp
  · simp [h]
theorem updA_6 {A : Nat → Nat → Int32} {o a g : Nat → Int32} : updA (avA A o a) 6 g = avA A o g := by
  funext j; unfold avA updA
  by_cases h : j = 6
  · subst h; simp
  · simp [h]
theorem slpF_eq {f a o : Nat → Int32} {k φ : Nat} (h : f (13 + 16 * k) = nI φ) (h5 : φ < 5) : slpF f a o k = if o φ < nI 2 then -1 else (far (rw5 f k) (fun v => a (5 * φ + v)) 5).1 := by
  unfold slpF; rw [h, nI_clamp (by omega)]
theorem gon_7 {f : Nat → Int32} {k c m : Nat} (hc : f 7 = nI c) (h0 : 0 < c) : shf (gon2 f k) (13 + 16 * k) m 7 = nI (c - 1) := by
  unfold shf; rw [if_neg (by omega)]
  unfold gon2; rw [pk_us]
  unfold gon1; rw [pk_un (by omega), hc]
  exact pk_sub h0
theorem must_t {f : Nat → Int32} {k : Nat} : MustB f k = true ↔ (f (13 + 16 * k + 1) < 0 ∧ f 1 < dst (rw5 f k) (la5 f) 5 ∧ ¬ dif (rw5 f k) (la5 f) 5 ≤ 1) := by
  unfold MustB; simp [and_assoc]
theorem tch_f {f : Nat → Int32} {k : Nat} (h : f (13 + 16 * k + 1) < 0 ∨ (far (rw5 f k) (la5 f) 5).1 = -1) : tchF f k = f := by unfold tchF; rw [if_pos h]
theorem nI_nm1 {v : Nat} (h : v < 5) : ¬ nI v = -1 := by
  have : v = 0 ∨ v = 1 ∨ v = 2 ∨ v = 3 ∨ v = 4 := by omega
  rcases this with rfl | rfl | rfl | rfl | rfl <;> decide +kernel
theorem tch_t {f : Nat → Int32} {k v : Nat} (h0 : ¬ f (13 + 16 * k + 1) < 0) (hv : v < 5) (h : (far (rw5 f k) (la5 f) 5).1 = nI v) : tchF f k = upd (mvF f (13 + 16 * k + 5 + v) (f (2 + v))) (13 + 16 * k + 2) (mvF f (13 + 16 * k + 5 + v) (f (2 + v)) (13 + 16 * k + 2) + nI 1) := by
  unfold tchF; rw [h, if_neg (fun z => z.elim h0 (nI_nm1 hv)), nI_clamp (by omega)]
theorem din_f {f a o : Nat → Int32} {k : Nat} (h : slpF f a o k = -1) : dinF f a o k = f := by unfold dinF; rw [if_pos h]
theorem din_t {f a o : Nat → Int32} {k v φ : Nat} (hf : f (13 + 16 * k) = nI φ) (hφ : φ < 5) (hv : v < 5) (h : slpF f a o k = nI v) : dinF f a o k = upd (mvF f (13 + 16 * k + 5 + v) (a (5 * φ + v))) (13 + 16 * k + 3) (mvF f (13 + 16 * k + 5 + v) (a (5 * φ + v)) (13 + 16 * k + 3) + nI 1) := by
  unfold dinF; rw [h, if_neg (nI_nm1 hv), nI_clamp (by omega), hf, nI_clamp (by omega)]
end GPURE2
end
section
section GM2
set_option maxRecDepth 100000 in
set_option maxHeartbeats 4000000 in
theorem c_X8_averagesNow {Γ : Gm} {mo n : Nat} {F : Hp} {I : Nat → Int32} {A : Nat → Nat → Int32} {f : Nat → Int32} {c : Nat} (hc : f 7 = nI c) (hc12 : c ≤ 12) : Ct Γ 4 MX8_averagesNow 0 0 [.ref mo] (MW Γ mo F I A f) n (Rt none (MW Γ mo F I (avA A (onU f (A 7) c 5) (avU f (A 6) c 25)) f) n) X0 := by
  refine Ct.of (by decide +kernel) rfl (Nat.le_of_ble_eq_true rfl) ?_
  rw [show MW Γ mo F I A f = MW Γ mo F I (avA A (onU f (A 7) c 0) (avU f (A 6) c 0)) f from by rw [avA_0]]
  refine G.sub (lv2 := [(0, _)]) [0] rfl ?_
  refine gn_ic 0 (by decide) dX8_averagesNow_0 ?_
  refine g_istore_n (lv2 := [(1, _), (0, _)]) (by decide) rfl dX8_averagesNow_1 ?_
  have L2 : ∀ (m2 i2 : Nat), i2 + m2 = 5 → G Γ 4 MX8_averagesNow (Rt none (MW Γ mo F I (avA A (onU f (A 7) c 5) (avU f (A 6) c 25)) f) n) X0 2 [(0, .ref mo), (1, .int (nI i2))] [] (MW Γ mo F I (avA A (onU f (A 7) c i2) (avU f (A 6) c (5 * i2))) f) n 0 0 := by
    intro m2
    induction m2 with
    | zero =>
      intro i2 hi2
      refine g_iload_n 1 rfl dX8_averagesNow_2 ?_
      refine gn_ic 5 (by decide) dX8_averagesNow_3 ?_
      refine gn_icmp_ge (by omega) (by omega) (tgt := 54) (by decide) dX8_averagesNow_4 (fun cc1 => ?_) (fun cc1 => ?_)
      · -- t 54
        obtain rfl : i2 = 5 := by omega
        exact g_vret ⟨rfl, rfl, rfl⟩ rfl dX8_averagesNow_54
      · -- f 7
        exfalso; omega
    | succ m2 ih2 =>
      intro i2 hi2
      refine g_iload_n 1 rfl dX8_averagesNow_2 ?_
      refine gn_ic 5 (by decide) dX8_averagesNow_3 ?_
      refine gn_icmp_ge (by omega) (by omega) (tgt := 54) (by decide) dX8_averagesNow_4 (fun cc2 => ?_) (fun cc2 => ?_)
      · -- t 54
        exfalso; omega
      · -- f 7
        refine m_get 0 rfl f_X8_34 rfl dX8_averagesNow_7 dX8_averagesNow_8 ?_
        refine g_iload_n 1 rfl dX8_averagesNow_11 ?_
        refine g_aload_n 0 rfl dX8_averagesNow_12 ?_
        refine g_iload_n 1 rfl dX8_averagesNow_13 ?_
        refine g_iconst (v := -1) dX8_averagesNow_14 (by decide) ?_
        refine gv_V (c_X8_livingOn hc hc12) l_X8_80 rfl m_rcv (Nat.le_of_ble_eq_true rfl) (Nat.le_of_ble_eq_true rfl) rfl dX8_averagesNow_15 ?_
        refine gn_iast (E2 := MW Γ mo F I (avA A (onU f (A 7) c (i2 + 1)) (avU f (A 6) c (5 * i2))) f) MW_8 (by omega) (by decide) (by rw [MW_s8, updA_7]; exact congrArg (fun z => MW Γ mo F I (avA A z _) f) onU_s) dX8_averagesNow_18 ?_
        refine gn_ic 0 (by decide) dX8_averagesNow_19 ?_
        refine g_istore_n (lv2 := [(2, _), (0, _), (1, _)]) (by decide) rfl dX8_averagesNow_20 ?_
        have L21 : ∀ (m21 i21 : Nat), i21 + m21 = 5 → G Γ 4 MX8_averagesNow (Rt none (MW Γ mo F I (avA A (onU f (A 7) c 5) (avU f (A 6) c 25)) f) n) X0 21 [(0, .ref mo), (1, .int (nI i2)), (2, .int (nI i21))] [] (MW Γ mo F I (avA A (onU f (A 7) c (i2 + 1)) (avU f (A 6) c (5 * i2 + i21))) f) n 0 0 := by
          intro m21
          induction m21 with
          | zero =>
            intro i21 hi21
            refine g_iload_n 2 rfl dX8_averagesNow_21 ?_
            refine gn_ic 5 (by decide) dX8_averagesNow_22 ?_
            refine gn_icmp_ge (by omega) (by omega) (tgt := 48) (by decide) dX8_averagesNow_23 (fun cc3 => ?_) (fun cc3 => ?_)
            · -- t 48
              obtain rfl : i21 = 5 := by omega
              refine gn_inc (lv2 := [(1, _), (0, _), (2, _)]) 1 rfl (by decide) rfl dX8_averagesNow_48 ?_
              refine g_goto (tgt := 2) (by decide) dX8_averagesNow_51 ?_
              refine G.sub [1, 0] rfl ?_
              exact ih2 (i2 + 1) (by omega)
            · -- f 26
              exfalso; omega
          | succ m21 ih21 =>
            intro i21 hi21
            refine g_iload_n 2 rfl dX8_averagesNow_21 ?_
            refine gn_ic 5 (by decide) dX8_averagesNow_22 ?_
            refine gn_icmp_ge (by omega) (by omega) (tgt := 48) (by decide) dX8_averagesNow_23 (fun cc4 => ?_) (fun cc4 => ?_)
            · -- t 48
              exfalso; omega
            · -- f 26
              refine m_get 0 rfl f_X8_31 rfl dX8_averagesNow_26 dX8_averagesNow_27 ?_
              refine gn_ic 5 (by decide) dX8_averagesNow_30 ?_
              refine g_iload_n 1 rfl dX8_averagesNow_31 ?_
              refine gn_imul dX8_averagesNow_32 ?_
              refine g_iload_n 2 rfl dX8_averagesNow_33 ?_
              refine gn_iadd dX8_averagesNow_34 ?_
              refine g_aload_n 0 rfl dX8_averagesNow_35 ?_
              refine g_iload_n 1 rfl dX8_averagesNow_36 ?_
              refine g_iload_n 2 rfl dX8_averagesNow_37 ?_
              refine gv_V (c_X8_averageAt hc hc12 (by omega)) l_X8_83 rfl m_rcv (Nat.le_of_ble_eq_true rfl) (Nat.le_of_ble_eq_true rfl) rfl dX8_averagesNow_38 ?_
              refine gn_iast (E2 := MW Γ mo F I (avA A (onU f (A 7) c (i2 + 1)) (avU f (A 6) c (5 * i2 + i21 + 1))) f) MW_7 (by omega) (by decide) (by rw [MW_s7, updA_6]; exact congrArg (fun z => MW Γ mo F I (avA A _ z) f) (avU_s (by omega))) dX8_averagesNow_41 ?_
              refine gn_inc (lv2 := [(2, _), (0, _), (1, _)]) 2 rfl (by decide) rfl dX8_averagesNow_42 ?_
              refine g_goto (tgt := 21) (by decide) dX8_averagesNow_45 ?_
              refine G.sub [1, 2, 0] rfl ?_
              exact ih21 (i21 + 1) (by omega)
        refine G.sub [1, 2, 0] rfl ?_
        exact L21 _ 0 (Nat.zero_add _)
  refine G.sub [1, 0] rfl ?_
  exact L2 _ 0 (Nat.zero_add _)
set_option maxRecDepth 100000 in
set_option maxHeartbeats 4000000 in
theorem c_X8_slipFor {Γ : Gm} {mo n : Nat} {F : Hp} {I : Nat → Int32} {A : Nat → Nat → Int32} {f : Nat → Int32} {k φ : Nat} (hk : k < 12) (hφ : f (13 + 16 * k) = nI φ) (hφ5 : φ < 5) : Ct Γ 3 MX8_slipFor 0 0 [.ref mo, .int (nI k)] (MW Γ mo F I A f) n (Rt (some (.int (slpF f (A 6) (A 7) k))) (MW Γ mo F I A f) n) X0 := by
  refine Ct.of (by decide +kernel) rfl (Nat.le_of_ble_eq_true rfl) ?_
  refine G.sub (lv2 := [(0, _), (1, _)]) [0, 1] rfl ?_
  refine m_get 0 rfl f_X8_19 rfl dX8_slipFor_0 dX8_slipFor_1 ?_
  refine g_iload_n 1 rfl dX8_slipFor_4 ?_
  refine gv_S (c_X8_l ) l_X8_56 rfl (Nat.le_of_ble_eq_true rfl) (Nat.le_of_ble_eq_true rfl) rfl dX8_slipFor_5 ?_
  refine gn_ic 0 (by decide) dX8_slipFor_8 ?_
  refine gn_iadd0 dX8_slipFor_9 ?_
  refine gn_iald MW_3 (by omega) (by decide) dX8_slipFor_10 ?_
  refine g_top (y := nI φ) hφ ?_
  refine g_istore_n (lv2 := [(2, _), (0, _), (1, _)]) (by decide) rfl dX8_slipFor_11 ?_
  refine m_get 1 rfl f_X8_34 rfl dX8_slipFor_12 dX8_slipFor_13 ?_
  refine g_iload_n 0 rfl dX8_slipFor_16 ?_
  refine gn_iald MW_8 (by omega) (by decide) dX8_slipFor_17 ?_
  refine gn_ic 2 (by decide) dX8_slipFor_18 ?_
  refine g_icmp_ge (tgt := 24) (by decide) dX8_slipFor_19 (fun h9 => ?_) (fun h9 => ?_)
  · -- t 24
    refine g_iconst (v := -1) dX8_slipFor_24 (by decide) ?_
    refine g_istore_n (lv2 := [(3, _), (2, _), (0, _), (1, _)]) (by decide) rfl dX8_slipFor_25 ?_
    refine gn_ic 0 (by decide) dX8_slipFor_26 ?_
    refine g_istore (lv2 := [(4, _), (3, _), (2, _), (0, _), (1, _)]) (by decide) rfl dX8_slipFor_27 ?_
    refine gn_ic 0 (by decide) dX8_slipFor_29 ?_
    refine g_istore (lv2 := [(5, _), (4, _), (3, _), (2, _), (0, _), (1, _)]) (by decide) rfl dX8_slipFor_30 ?_
    have L32 : ∀ (m32 i32 : Nat), i32 + m32 = 5 → G Γ 3 MX8_slipFor (Rt (some (.int (slpF f (A 6) (A 7) k))) (MW Γ mo F I A f) n) X0 32 [(0, .ref mo), (1, .int (nI k)), (2, .int (nI φ)), (3, .int (far (rw5 f k) (fun v => A 6 (5 * φ + v)) i32).1), (4, .int (far (rw5 f k) (fun v => A 6 (5 * φ + v)) i32).2), (5, .int (nI i32))] [] (MW Γ mo F I A f) n 0 0 := by
      intro m32
      induction m32 with
      | zero =>
        intro i32 hi32
        refine g_iload 5 rfl dX8_slipFor_32 ?_
        refine gn_ic 5 (by decide) dX8_slipFor_34 ?_
        refine gn_icmp_ge (by omega) (by omega) (tgt := 98) (by decide) dX8_slipFor_35 (fun cc1 => ?_) (fun cc1 => ?_)
        · -- t 98
          refine g_iload_n 3 rfl dX8_slipFor_98 ?_
          exact g_iret ⟨by rw [slpF_eq hφ hφ5, if_neg (Int32.not_lt.mpr h9), show i32 = 5 by omega], rfl, rfl⟩ rfl rfl dX8_slipFor_99
        · -- f 38
          exfalso; omega
      | succ m32 ih32 =>
        intro i32 hi32
        refine g_iload 5 rfl dX8_slipFor_32 ?_
        refine gn_ic 5 (by decide) dX8_slipFor_34 ?_
        refine gn_icmp_ge (by omega) (by omega) (tgt := 98) (by decide) dX8_slipFor_35 (fun cc2 => ?_) (fun cc2 => ?_)
        · -- t 98
          exfalso; omega
        · -- f 38
          refine g_aload_n 0 rfl dX8_slipFor_38 ?_
          refine g_iload_n 1 rfl dX8_slipFor_39 ?_
          refine g_iload 5 rfl dX8_slipFor_40 ?_
          refine gv_V (c_X8_at (by omega) (by omega)) l_X8_73 rfl m_rcv (Nat.le_of_ble_eq_true rfl) (Nat.le_of_ble_eq_true rfl) rfl dX8_slipFor_42 ?_
          refine m_get 0 rfl f_X8_31 rfl dX8_slipFor_45 dX8_slipFor_46 ?_
          refine gn_ic 5 (by decide) dX8_slipFor_49 ?_
          refine g_iload_n 2 rfl dX8_slipFor_50 ?_
          refine gn_imul dX8_slipFor_51 ?_
          refine g_iload 5 rfl dX8_slipFor_52 ?_
          refine gn_iadd dX8_slipFor_54 ?_
          refine gn_iald MW_7 (by omega) (by decide) dX8_slipFor_55 ?_
          refine g_isub dX8_slipFor_56 ?_
          refine gv_S (c_X8_without ) l_X8_77 rfl (Nat.le_of_ble_eq_true rfl) (Nat.le_of_ble_eq_true rfl) rfl dX8_slipFor_57 ?_
          refine g_istore (lv2 := [(6, _), (0, _), (1, _), (2, _), (3, _), (4, _), (5, _)]) (by decide) rfl dX8_slipFor_60 ?_
          refine g_iload 0 rfl dX8_slipFor_62 ?_
          refine g_iload 5 rfl dX8_slipFor_64 ?_
          refine g_icmp_le (tgt := 74) (by decide) dX8_slipFor_66 (fun h1 => ?_) (fun h1 => ?_)
          · -- t 74
            refine g_iload_n 4 rfl dX8_slipFor_74 ?_
            refine g_istore_n (lv2 := [(3, _), (6, _), (0, _), (1, _), (2, _), (4, _), (5, _)]) (by decide) rfl dX8_slipFor_75 ?_
            refine g_iload 1 rfl dX8_slipFor_76 ?_
            refine g_iload 5 rfl dX8_slipFor_78 ?_
            refine g_icmp_le (tgt := 88) (by decide) dX8_slipFor_80 (fun h2 => ?_) (fun h2 => ?_)
            · -- t 88
              refine g_iload 5 rfl dX8_slipFor_88 ?_
              refine g_istore (lv2 := [(4, _), (3, _), (6, _), (0, _), (1, _), (2, _), (5, _)]) (by decide) rfl dX8_slipFor_90 ?_
              refine gn_inc (lv2 := [(5, _), (4, _), (3, _), (6, _), (0, _), (1, _), (2, _)]) 6 rfl (by decide) rfl dX8_slipFor_92 ?_
              refine g_goto (tgt := 32) (by decide) dX8_slipFor_95 ?_
              refine G.sub [4, 5, 6, 2, 1, 0] rfl ?_
              (have h := ih32 (i32 + 1) (by omega); rw [far_p (g := rw5 f k) (h := fun v => A 6 (5 * φ + v)) (v := i32) h1] at h; exact h)
            · -- f 83
              exact absurd h1 h2
          · -- f 69
            refine g_iload 6 rfl dX8_slipFor_69 ?_
            refine g_goto (tgt := 75) (by decide) dX8_slipFor_71 ?_
            refine g_istore_n (lv2 := [(3, _), (6, _), (0, _), (1, _), (2, _), (4, _), (5, _)]) (by decide) rfl dX8_slipFor_75 ?_
            refine g_iload 1 rfl dX8_slipFor_76 ?_
            refine g_iload 5 rfl dX8_slipFor_78 ?_
            refine g_icmp_le (tgt := 88) (by decide) dX8_slipFor_80 (fun h2 => ?_) (fun h2 => ?_)
            · -- t 88
              exact absurd h2 h1
            · -- f 83
              refine g_iload 1 rfl dX8_slipFor_83 ?_
              refine g_goto (tgt := 90) (by decide) dX8_slipFor_85 ?_
              refine g_istore (lv2 := [(4, _), (3, _), (6, _), (0, _), (1, _), (2, _), (5, _)]) (by decide) rfl dX8_slipFor_90 ?_
              refine gn_inc (lv2 := [(5, _), (4, _), (3, _), (6, _), (0, _), (1, _), (2, _)]) 6 rfl (by decide) rfl dX8_slipFor_92 ?_
              refine g_goto (tgt := 32) (by decide) dX8_slipFor_95 ?_
              refine G.sub [4, 5, 6, 2, 1, 0] rfl ?_
              (have h := ih32 (i32 + 1) (by omega); rw [far_n (g := rw5 f k) (h := fun v => A 6 (5 * φ + v)) (v := i32) h1] at h; exact h)
    refine G.sub [4, 5, 3, 2, 1, 0] rfl ?_
    exact L32 _ 0 (Nat.zero_add _)
  · -- f 22
    refine g_iconst (v := -1) dX8_slipFor_22 (by decide) ?_
    exact g_iret ⟨by rw [slpF_eq hφ hφ5, if_pos (Int32.not_le.mp h9)], rfl, rfl⟩ rfl rfl dX8_slipFor_23
set_option maxRecDepth 100000 in
set_option maxHeartbeats 4000000 in
theorem c_X8_hasToGo {Γ : Gm} {mo n : Nat} {F : Hp} {I : Nat → Int32} {A : Nat → Nat → Int32} {f : Nat → Int32} {k : Nat} (hk : k < 12) : Ct Γ 4 MX8_hasToGo 0 0 [.ref mo, .int (nI k)] (MW Γ mo F I A f) n (Rt (some (.int (bi (MustB f k = true)))) (MW Γ mo F I A f) n) X0 := by
  refine Ct.of (by decide +kernel) rfl (Nat.le_of_ble_eq_true rfl) ?_
  refine G.sub (lv2 := [(0, _), (1, _)]) [0, 1] rfl ?_
  refine m_get 0 rfl f_X8_19 rfl dX8_hasToGo_0 dX8_hasToGo_1 ?_
  refine g_iload_n 1 rfl dX8_hasToGo_4 ?_
  refine gv_S (c_X8_l ) l_X8_56 rfl (Nat.le_of_ble_eq_true rfl) (Nat.le_of_ble_eq_true rfl) rfl dX8_hasToGo_5 ?_
  refine gn_ic 1 (by decide) dX8_hasToGo_8 ?_
  refine gn_iadd dX8_hasToGo_9 ?_
  refine gn_iald MW_3 (by omega) (by decide) dX8_hasToGo_10 ?_
  refine g_if_ge (tgt := 40) (by decide) dX8_hasToGo_11 (fun h1 => ?_) (fun h1 => ?_)
  · -- t 40
    refine gn_ic 0 (by decide) dX8_hasToGo_40 ?_
    exact g_iret ⟨by rw [bi_f (fun z => absurd (must_t.mp z).1 (Int32.not_lt.mpr h1))], rfl, rfl⟩ (by decide +kernel) rfl dX8_hasToGo_41
  · -- f 14
    refine g_aload_n 0 rfl dX8_hasToGo_14 ?_
    refine g_iload_n 1 rfl dX8_hasToGo_15 ?_
    refine gv_V (c_X8_toLandlady (by omega)) l_X8_86 rfl m_rcv (Nat.le_of_ble_eq_true rfl) (Nat.le_of_ble_eq_true rfl) rfl dX8_hasToGo_16 ?_
    refine m_get 0 rfl f_X8_19 rfl dX8_hasToGo_19 dX8_hasToGo_20 ?_
    refine gn_ic 1 (by decide) dX8_hasToGo_23 ?_
    refine gn_iald MW_3 (by omega) (by decide) dX8_hasToGo_24 ?_
    refine g_icmp_le (tgt := 40) (by decide) dX8_hasToGo_25 (fun h2 => ?_) (fun h2 => ?_)
    · -- t 40
      refine gn_ic 0 (by decide) dX8_hasToGo_40 ?_
      exact g_iret ⟨by rw [bi_f (fun z => absurd (must_t.mp z).2.1 (Int32.not_lt.mpr h2))], rfl, rfl⟩ (by decide +kernel) rfl dX8_hasToGo_41
    · -- f 28
      refine g_aload_n 0 rfl dX8_hasToGo_28 ?_
      refine g_iload_n 1 rfl dX8_hasToGo_29 ?_
      refine gv_V (c_X8_rhymesHer (by omega)) l_X8_89 rfl m_rcv (Nat.le_of_ble_eq_true rfl) (Nat.le_of_ble_eq_true rfl) rfl dX8_hasToGo_30 ?_
      refine g_if_ne (tgt := 40) (by decide) dX8_hasToGo_33 (fun h3 => ?_) (fun h3 => ?_)
      · -- t 40
        refine gn_ic 0 (by decide) dX8_hasToGo_40 ?_
        exact g_iret ⟨by rw [bi_f (fun z => (must_t.mp z).2.2 (bi_n0 h3))], rfl, rfl⟩ (by decide +kernel) rfl dX8_hasToGo_41
      · -- f 36
        refine gn_ic 1 (by decide) dX8_hasToGo_36 ?_
        refine g_goto (tgt := 41) (by decide) dX8_hasToGo_37 ?_
        exact g_iret ⟨by rw [bi_t (must_t.mpr ⟨Int32.not_le.mp h1, Int32.not_le.mp h2, bi_0 h3⟩)], rfl, rfl⟩ (by decide +kernel) rfl dX8_hasToGo_41
set_option maxRecDepth 100000 in
set_option maxHeartbeats 4000000 in
theorem c_X8_moves {Γ : Gm} {mo n : Nat} {F : Hp} {I : Nat → Int32} {A : Nat → Nat → Int32} {f : Nat → Int32} {k v : Nat} {t : Int32} (hk : k < 12) (hv : v < 5) : Ct Γ 2 MX8_moves 0 0 [.ref mo, .int (nI k), .int (nI v), .int t] (MW Γ mo F I A f) n (Rt none (MW Γ mo F I A (mvF f (13 + 16 * k + 5 + v) t)) n) X0 := by
  refine Ct.of (by decide +kernel) rfl (Nat.le_of_ble_eq_true rfl) ?_
  refine G.sub (lv2 := [(0, _), (1, _), (2, _), (3, _)]) [0, 1, 2, 3] rfl ?_
  refine g_iload_n 1 rfl dX8_moves_0 ?_
  refine gv_S (c_X8_l ) l_X8_56 rfl (Nat.le_of_ble_eq_true rfl) (Nat.le_of_ble_eq_true rfl) rfl dX8_moves_1 ?_
  refine gn_ic 5 (by decide) dX8_moves_4 ?_
  refine gn_iadd dX8_moves_5 ?_
  refine g_iload_n 2 rfl dX8_moves_6 ?_
  refine gn_iadd dX8_moves_7 ?_
  refine g_istore (lv2 := [(4, _), (0, _), (1, _), (2, _), (3, _)]) (by decide) rfl dX8_moves_8 ?_
  refine m_get 1 rfl f_X8_19 rfl dX8_moves_10 dX8_moves_11 ?_
  refine g_iload 0 rfl dX8_moves_14 ?_
  refine g_dup2 rfl rfl dX8_moves_16 ?_
  refine gn_iald MW_3 (by omega) (by decide) dX8_moves_17 ?_
  refine m_get 1 rfl f_X8_19 rfl dX8_moves_18 dX8_moves_19 ?_
  refine g_iload 0 rfl dX8_moves_22 ?_
  refine gn_iald MW_3 (by omega) (by decide) dX8_moves_24 ?_
  refine g_iload_n 4 rfl dX8_moves_25 ?_
  refine g_icmp_ge (tgt := 33) (by decide) dX8_moves_26 (fun h1 => ?_) (fun h1 => ?_)
  · -- t 33
    refine g_iconst (v := -1) dX8_moves_33 (by decide) ?_
    refine g_iadd dX8_moves_34 ?_
    refine gn_iast MW_3 (by omega) (by decide) MW_s3 dX8_moves_35 ?_
    exact g_vret ⟨rfl, by unfold mvF; rw [if_neg (Int32.not_lt.mpr h1)], rfl⟩ rfl dX8_moves_36
  · -- f 29
    refine gn_ic 1 (by decide) dX8_moves_29 ?_
    refine g_goto (tgt := 34) (by decide) dX8_moves_30 ?_
    refine g_iadd dX8_moves_34 ?_
    refine gn_iast MW_3 (by omega) (by decide) MW_s3 dX8_moves_35 ?_
    exact g_vret ⟨rfl, by unfold mvF; rw [if_pos (Int32.not_le.mp h1)], rfl⟩ rfl dX8_moves_36
set_option maxRecDepth 100000 in
set_option maxHeartbeats 4000000 in
theorem c_X8_charges {Γ : Gm} {mo n : Nat} {F : Hp} {I : Nat → Int32} {A : Nat → Nat → Int32} {f : Nat → Int32} {k : Nat} (hk : k < 12) : Ct Γ 2 MX8_charges 0 0 [.ref mo, .int (nI k)] (MW Γ mo F I A f) n (Rt none (MW Γ mo F I A (chgF f k)) n) X0 := by
  refine Ct.of (by decide +kernel) rfl (Nat.le_of_ble_eq_true rfl) ?_
  refine G.sub (lv2 := [(0, _), (1, _)]) [0, 1] rfl ?_
  refine g_aload_n 0 rfl dX8_charges_0 ?_
  refine m_get 0 rfl f_X8_19 rfl dX8_charges_1 dX8_charges_2 ?_
  refine g_iload_n 1 rfl dX8_charges_5 ?_
  refine gv_S (c_X8_l ) l_X8_56 rfl (Nat.le_of_ble_eq_true rfl) (Nat.le_of_ble_eq_true rfl) rfl dX8_charges_6 ?_
  refine gn_ic 0 (by decide) dX8_charges_9 ?_
  refine gn_iadd0 dX8_charges_10 ?_
  refine gn_iald MW_3 (by omega) (by decide) dX8_charges_11 ?_
  refine gv_V (c_X8_rentAt ) l_X8_93 rfl m_rcv (Nat.le_of_ble_eq_true rfl) (Nat.le_of_ble_eq_true rfl) rfl dX8_charges_12 ?_
  refine g_istore_n (lv2 := [(2, _), (0, _), (1, _)]) (by decide) rfl dX8_charges_15 ?_
  refine m_get 1 rfl f_X8_19 rfl dX8_charges_16 dX8_charges_17 ?_
  refine g_iload_n 2 rfl dX8_charges_20 ?_
  refine gv_S (c_X8_l ) l_X8_56 rfl (Nat.le_of_ble_eq_true rfl) (Nat.le_of_ble_eq_true rfl) rfl dX8_charges_21 ?_
  refine gn_ic 1 (by decide) dX8_charges_24 ?_
  refine gn_iadd dX8_charges_25 ?_
  refine g_dup2 rfl rfl dX8_charges_26 ?_
  refine gn_iald MW_3 (by omega) (by decide) dX8_charges_27 ?_
  refine g_iload_n 0 rfl dX8_charges_28 ?_
  refine g_isub dX8_charges_29 ?_
  refine gn_iast MW_3 (by omega) (by decide) MW_s3 dX8_charges_30 ?_
  refine m_get 1 rfl f_X8_19 rfl dX8_charges_31 dX8_charges_32 ?_
  refine gn_bp 11 (by decide) dX8_charges_35 ?_
  refine g_dup2 rfl rfl dX8_charges_37 ?_
  refine gn_iald MW_3 (by omega) (by decide) dX8_charges_38 ?_
  refine g_iload_n 0 rfl dX8_charges_39 ?_
  refine g_iadd dX8_charges_40 ?_
  refine gn_iast MW_3 (by omega) (by decide) MW_s3 dX8_charges_41 ?_
  exact g_vret ⟨rfl, rfl, rfl⟩ rfl dX8_charges_42
set_option maxRecDepth 100000 in
set_option maxHeartbeats 4000000 in
theorem c_X8_teaches {Γ : Gm} {mo n : Nat} {F : Hp} {I : Nat → Int32} {A : Nat → Nat → Int32} {f : Nat → Int32} {k : Nat} (hk : k < 12) : Ct Γ 4 MX8_teaches 0 0 [.ref mo, .int (nI k)] (MW Γ mo F I A f) n (Rt none (MW Γ mo F I A (tchF f k)) n) X0 := by
  refine Ct.of (by decide +kernel) rfl (Nat.le_of_ble_eq_true rfl) ?_
  refine G.sub (lv2 := [(0, _), (1, _)]) [0, 1] rfl ?_
  refine g_aload_n 0 rfl dX8_teaches_0 ?_
  refine g_iload_n 1 rfl dX8_teaches_1 ?_
  refine gv_V (c_X8_lessonFor (by omega)) l_X8_96 rfl m_rcv (Nat.le_of_ble_eq_true rfl) (Nat.le_of_ble_eq_true rfl) rfl dX8_teaches_2 ?_
  refine g_istore_n (lv2 := [(2, _), (0, _), (1, _)]) (by decide) rfl dX8_teaches_5 ?_
  refine m_get 1 rfl f_X8_19 rfl dX8_teaches_6 dX8_teaches_7 ?_
  refine g_iload_n 2 rfl dX8_teaches_10 ?_
  refine gv_S (c_X8_l ) l_X8_56 rfl (Nat.le_of_ble_eq_true rfl) (Nat.le_of_ble_eq_true rfl) rfl dX8_teaches_11 ?_
  refine gn_ic 1 (by decide) dX8_teaches_14 ?_
  refine gn_iadd dX8_teaches_15 ?_
  refine gn_iald MW_3 (by omega) (by decide) dX8_teaches_16 ?_
  refine g_if_lt (tgt := 54) (by decide) dX8_teaches_17 (fun h1 => ?_) (fun h1 => ?_)
  · -- t 54
    exact g_vret ⟨rfl, by rw [tch_f (Or.inl h1)], rfl⟩ rfl dX8_teaches_54
  · -- f 20
    refine g_iload_n 0 rfl dX8_teaches_20 ?_
    refine g_iconst (v := -1) dX8_teaches_21 (by decide) ?_
    refine g_icmp_eq (tgt := 54) (by decide) dX8_teaches_22 (fun h2 => ?_) (fun h2 => ?_)
    · -- t 54
      exact g_vret ⟨rfl, by rw [tch_f (Or.inr h2)], rfl⟩ rfl dX8_teaches_54
    · -- f 25
      obtain ⟨v, hv, ev⟩ := (far_or (rw5 f k) (la5 f) 5).resolve_left h2
      rw [ev]
      refine g_aload_n 1 rfl dX8_teaches_25 ?_
      refine g_iload_n 2 rfl dX8_teaches_26 ?_
      refine g_iload_n 0 rfl dX8_teaches_27 ?_
      refine m_get 1 rfl f_X8_19 rfl dX8_teaches_28 dX8_teaches_29 ?_
      refine gn_ic 2 (by decide) dX8_teaches_32 ?_
      refine g_iload_n 0 rfl dX8_teaches_33 ?_
      refine gn_iadd dX8_teaches_34 ?_
      refine gn_iald MW_3 (by omega) (by decide) dX8_teaches_35 ?_
      refine gu_V (c_X8_moves hk hv) l_X8_99 rfl m_rcv (Nat.le_of_ble_eq_true rfl) (Nat.le_of_ble_eq_true rfl) rfl dX8_teaches_36 ?_
      refine m_get 1 rfl f_X8_19 rfl dX8_teaches_39 dX8_teaches_40 ?_
      refine g_iload_n 2 rfl dX8_teaches_43 ?_
      refine gv_S (c_X8_l ) l_X8_56 rfl (Nat.le_of_ble_eq_true rfl) (Nat.le_of_ble_eq_true rfl) rfl dX8_teaches_44 ?_
      refine gn_ic 2 (by decide) dX8_teaches_47 ?_
      refine gn_iadd dX8_teaches_48 ?_
      refine g_dup2 rfl rfl dX8_teaches_49 ?_
      refine gn_iald MW_3 (by omega) (by decide) dX8_teaches_50 ?_
      refine gn_ic 1 (by decide) dX8_teaches_51 ?_
      refine g_iadd dX8_teaches_52 ?_
      refine gn_iast MW_3 (by omega) (by decide) MW_s3 dX8_teaches_53 ?_
      exact g_vret ⟨rfl, by rw [tch_t h1 hv ev], rfl⟩ rfl dX8_teaches_54
set_option maxRecDepth 100000 in
set_option maxHeartbeats 4000000 in
theorem c_X8_dines {Γ : Gm} {mo n : Nat} {F : Hp} {I : Nat → Int32} {A : Nat → Nat → Int32} {f : Nat → Int32} {k φ : Nat} (hk : k < 12) (hφ : f (13 + 16 * k) = nI φ) (hφ5 : φ < 5) : Ct Γ 4 MX8_dines 0 0 [.ref mo, .int (nI k)] (MW Γ mo F I A f) n (Rt none (MW Γ mo F I A (dinF f (A 6) (A 7) k)) n) X0 := by
  refine Ct.of (by decide +kernel) rfl (Nat.le_of_ble_eq_true rfl) ?_
  refine G.sub (lv2 := [(0, _), (1, _)]) [0, 1] rfl ?_
  refine g_aload_n 0 rfl dX8_dines_0 ?_
  refine g_iload_n 1 rfl dX8_dines_1 ?_
  refine gv_V (c_X8_slipFor hk hφ hφ5) l_X8_102 rfl m_rcv (Nat.le_of_ble_eq_true rfl) (Nat.le_of_ble_eq_true rfl) rfl dX8_dines_2 ?_
  refine g_istore_n (lv2 := [(2, _), (0, _), (1, _)]) (by decide) rfl dX8_dines_5 ?_
  refine g_iload_n 0 rfl dX8_dines_6 ?_
  refine g_iconst (v := -1) dX8_dines_7 (by decide) ?_
  refine g_icmp_eq (tgt := 52) (by decide) dX8_dines_8 (fun h2 => ?_) (fun h2 => ?_)
  · -- t 52
    exact g_vret ⟨rfl, by rw [din_f h2], rfl⟩ rfl dX8_dines_52
  · -- f 11
    obtain ⟨v, hv, ev⟩ := (slp_or f (A 6) (A 7) k).resolve_left h2
    rw [ev]
    refine g_aload_n 1 rfl dX8_dines_11 ?_
    refine g_iload_n 2 rfl dX8_dines_12 ?_
    refine g_iload_n 0 rfl dX8_dines_13 ?_
    refine m_get 1 rfl f_X8_31 rfl dX8_dines_14 dX8_dines_15 ?_
    refine gn_ic 5 (by decide) dX8_dines_18 ?_
    refine m_get 1 rfl f_X8_19 rfl dX8_dines_19 dX8_dines_20 ?_
    refine g_iload_n 2 rfl dX8_dines_23 ?_
    refine gv_S (c_X8_l ) l_X8_56 rfl (Nat.le_of_ble_eq_true rfl) (Nat.le_of_ble_eq_true rfl) rfl dX8_dines_24 ?_
    refine gn_ic 0 (by decide) dX8_dines_27 ?_
    refine gn_iadd0 dX8_dines_28 ?_
    refine gn_iald MW_3 (by omega) (by decide) dX8_dines_29 ?_
    refine g_top (y := nI φ) hφ ?_
    refine gn_imul dX8_dines_30 ?_
    refine g_iload_n 0 rfl dX8_dines_31 ?_
    refine gn_iadd dX8_dines_32 ?_
    refine gn_iald MW_7 (by omega) (by decide) dX8_dines_33 ?_
    refine gu_V (c_X8_moves hk hv) l_X8_99 rfl m_rcv (Nat.le_of_ble_eq_true rfl) (Nat.le_of_ble_eq_true rfl) rfl dX8_dines_34 ?_
    refine m_get 1 rfl f_X8_19 rfl dX8_dines_37 dX8_dines_38 ?_
    refine g_iload_n 2 rfl dX8_dines_41 ?_
    refine gv_S (c_X8_l ) l_X8_56 rfl (Nat.le_of_ble_eq_true rfl) (Nat.le_of_ble_eq_true rfl) rfl dX8_dines_42 ?_
    refine gn_ic 3 (by decide) dX8_dines_45 ?_
    refine gn_iadd dX8_dines_46 ?_
    refine g_dup2 rfl rfl dX8_dines_47 ?_
    refine gn_iald MW_3 (by omega) (by decide) dX8_dines_48 ?_
    refine gn_ic 1 (by decide) dX8_dines_49 ?_
    refine g_iadd dX8_dines_50 ?_
    refine gn_iast MW_3 (by omega) (by decide) MW_s3 dX8_dines_51 ?_
    exact g_vret ⟨rfl, by rw [din_t hφ hφ5 hv ev], rfl⟩ rfl dX8_dines_52
set_option maxRecDepth 100000 in
set_option maxHeartbeats 4000000 in
theorem c_X8_goes {Γ : Gm} {mo n : Nat} {F : Hp} {I : Nat → Int32} {A : Nat → Nat → Int32} {f : Nat → Int32} {k c : Nat} (hc : f 7 = nI c) (hc12 : c ≤ 12) (hkc : k < c) : Ct Γ 2 MX8_goes 0 0 [.ref mo, .int (nI k)] (MW Γ mo F I A f) n (Rt none (MW Γ mo F (trkF I f k) A (gonF f k c)) n) X0 := by
  refine Ct.of (by decide +kernel) rfl (Nat.le_of_ble_eq_true rfl) ?_
  refine G.sub (lv2 := [(0, _), (1, _)]) [0, 1] rfl ?_
  refine m_get 0 rfl f_X8_19 rfl dX8_goes_0 dX8_goes_1 ?_
  refine g_iload_n 1 rfl dX8_goes_4 ?_
  refine gv_S (c_X8_l ) l_X8_56 rfl (Nat.le_of_ble_eq_true rfl) (Nat.le_of_ble_eq_true rfl) rfl dX8_goes_5 ?_
  refine gn_ic 1 (by decide) dX8_goes_8 ?_
  refine gn_iadd dX8_goes_9 ?_
  refine gn_iald MW_3 (by omega) (by decide) dX8_goes_10 ?_
  refine g_istore_n (lv2 := [(2, _), (0, _), (1, _)]) (by decide) rfl dX8_goes_11 ?_
  refine m_get 1 rfl f_X8_19 rfl dX8_goes_12 dX8_goes_13 ?_
  refine gn_bp 12 (by decide) dX8_goes_16 ?_
  refine g_dup2 rfl rfl dX8_goes_18 ?_
  refine gn_iald MW_3 (by omega) (by decide) dX8_goes_19 ?_
  refine g_iload_n 0 rfl dX8_goes_20 ?_
  refine g_iadd dX8_goes_21 ?_
  refine gn_iast MW_3 (by omega) (by decide) MW_s3 dX8_goes_22 ?_
  refine m_get 1 rfl f_X8_19 rfl dX8_goes_23 dX8_goes_24 ?_
  refine gn_bp 7 (by decide) dX8_goes_27 ?_
  refine g_dup2 rfl rfl dX8_goes_29 ?_
  refine gn_iald MW_3 (by omega) (by decide) dX8_goes_30 ?_
  refine gn_ic 1 (by decide) dX8_goes_31 ?_
  refine g_isub dX8_goes_32 ?_
  refine gn_iast MW_3 (by omega) (by decide) MW_s3 dX8_goes_33 ?_
  refine g_iload_n 2 rfl dX8_goes_34 ?_
  refine gv_S (c_X8_l ) l_X8_56 rfl (Nat.le_of_ble_eq_true rfl) (Nat.le_of_ble_eq_true rfl) rfl dX8_goes_35 ?_
  refine g_istore_n (lv2 := [(3, _), (2, _), (0, _), (1, _)]) (by decide) rfl dX8_goes_38 ?_
  have L39 : ∀ (m39 i39 : Nat), i39 + m39 = 16 * (c - 1 - k) → G Γ 2 MX8_goes (Rt none (MW Γ mo F (trkF I f k) A (gonF f k c)) n) X0 39 [(0, .ref mo), (1, .int (nI k)), (2, .int (f (13 + 16 * k + 1))), (3, .int (nI (13 + 16 * k + i39)))] [] (MW Γ mo F I A (shf (gon2 f k) (13 + 16 * k) i39)) n 0 0 := by
    intro m39
    induction m39 with
    | zero =>
      intro i39 hi39
      refine g_iload_n 3 rfl dX8_goes_39 ?_
      refine m_get 0 rfl f_X8_19 rfl dX8_goes_40 dX8_goes_41 ?_
      refine gn_bp 7 (by decide) dX8_goes_44 ?_
      refine gn_iald MW_3 (by omega) (by decide) dX8_goes_46 ?_
      refine g_top (y := nI (c - 1)) (gon_7 hc (by omega)) ?_
      refine gv_S (c_X8_l ) l_X8_56 rfl (Nat.le_of_ble_eq_true rfl) (Nat.le_of_ble_eq_true rfl) rfl dX8_goes_47 ?_
      refine gn_icmp_ge (by omega) (by omega) (tgt := 74) (by decide) dX8_goes_50 (fun cc1 => ?_) (fun cc1 => ?_)
      · -- t 74
        obtain rfl : i39 = 16 * (c - 1 - k) := by omega
        refine m_get 0 rfl f_X8_37 rfl dX8_goes_74 dX8_goes_75 ?_
        refine g_iload_n 1 rfl dX8_goes_78 ?_
        refine g_icmp_ne (tgt := 95) (by decide) dX8_goes_79 (fun h1 => ?_) (fun h1 => ?_)
        · -- t 95
          refine m_get 0 rfl f_X8_37 rfl dX8_goes_95 dX8_goes_96 ?_
          refine g_iload_n 1 rfl dX8_goes_99 ?_
          refine g_icmp_le (tgt := 113) (by decide) dX8_goes_100 (fun h2 => ?_) (fun h2 => ?_)
          · -- t 113
            exact g_vret ⟨rfl, by unfold gonF trkF; rw [if_neg h1, if_neg (Int32.not_lt.mpr h2)], rfl⟩ rfl dX8_goes_113
          · -- f 103
            refine g_aload_n 0 rfl dX8_goes_103 ?_
            refine g_dup rfl dX8_goes_104 ?_
            refine m_getS f_X8_37 rfl dX8_goes_105 ?_
            refine gn_ic 1 (by decide) dX8_goes_108 ?_
            refine g_isub dX8_goes_109 ?_
            refine m_put f_X8_37 w_X8_11 (by decide) rfl dX8_goes_110 ?_
            exact g_vret ⟨rfl, by unfold gonF trkF; rw [if_neg h1, if_pos (Int32.not_le.mp h2)], rfl⟩ rfl dX8_goes_113
        · -- f 82
          refine g_aload_n 0 rfl dX8_goes_82 ?_
          refine g_iconst (v := -1) dX8_goes_83 (by decide) ?_
          refine m_put f_X8_37 w_X8_11 (by decide) rfl dX8_goes_84 ?_
          refine g_aload_n 0 rfl dX8_goes_87 ?_
          refine g_iload_n 2 rfl dX8_goes_88 ?_
          refine m_put f_X8_70 w_X8_12 (by decide) rfl dX8_goes_89 ?_
          refine g_goto (tgt := 113) (by decide) dX8_goes_92 ?_
          exact g_vret ⟨rfl, by unfold gonF trkF; rw [if_pos h1], rfl⟩ rfl dX8_goes_113
      · -- f 53
        exfalso; omega
    | succ m39 ih39 =>
      intro i39 hi39
      refine g_iload_n 3 rfl dX8_goes_39 ?_
      refine m_get 0 rfl f_X8_19 rfl dX8_goes_40 dX8_goes_41 ?_
      refine gn_bp 7 (by decide) dX8_goes_44 ?_
      refine gn_iald MW_3 (by omega) (by decide) dX8_goes_46 ?_
      refine g_top (y := nI (c - 1)) (gon_7 hc (by omega)) ?_
      refine gv_S (c_X8_l ) l_X8_56 rfl (Nat.le_of_ble_eq_true rfl) (Nat.le_of_ble_eq_true rfl) rfl dX8_goes_47 ?_
      refine gn_icmp_ge (by omega) (by omega) (tgt := 74) (by decide) dX8_goes_50 (fun cc2 => ?_) (fun cc2 => ?_)
      · -- t 74
        exfalso; omega
      · -- f 53
        refine m_get 0 rfl f_X8_19 rfl dX8_goes_53 dX8_goes_54 ?_
        refine g_iload_n 3 rfl dX8_goes_57 ?_
        refine m_get 0 rfl f_X8_19 rfl dX8_goes_58 dX8_goes_59 ?_
        refine g_iload_n 3 rfl dX8_goes_62 ?_
        refine gn_bp 16 (by decide) dX8_goes_63 ?_
        refine gn_iadd dX8_goes_65 ?_
        refine gn_iald MW_3 (by omega) (by decide) dX8_goes_66 ?_
        refine gn_iast (E2 := MW Γ mo F I A (shf (gon2 f k) (13 + 16 * k) (i39 + 1))) MW_3 (by omega) (by decide) (by rw [MW_s3]; exact congrArg (fun z => MW Γ mo F I A z) shf_s) dX8_goes_67 ?_
        refine gn_inc (lv2 := [(3, _), (0, _), (1, _), (2, _)]) 3 rfl (by decide) rfl dX8_goes_68 ?_
        refine g_goto (tgt := 39) (by decide) dX8_goes_71 ?_
        refine G.sub [1, 2, 3, 0] rfl ?_
        exact ih39 (i39 + 1) (by omega)
  refine G.sub [2, 3, 1, 0] rfl ?_
  refine g_world (E2 := MW Γ mo F I A (shf (gon2 f k) (13 + 16 * k) 0)) (by rw [shf_0]; rfl) ?_
  exact L39 _ 0 (Nat.zero_add _)
end GM2
end
section
section GPURE3
/-- the inspection, from lodger p on, m lodgers left to look at -/
def insM : Nat → Nat → (Nat → Int32) → (Nat → Int32) → (Nat → Int32) × (Nat → Int32)
  | 0, _, f, I => (f, I)
  | m + 1, p, f, I => if MustB f p = true then insM m p (upd (gonF f p (p + m + 1)) 9 (gonF f p (p + m + 1) 9 + nI 1)) (trkF I f p) else insM m (p + 1) f I
theorem insM_t {m p : Nat} {f I : Nat → Int32} (h : MustB f p = true) : insM (m + 1) p f I = insM m p (upd (gonF f p (p + m + 1)) 9 (gonF f p (p + m + 1) 9 + nI 1)) (trkF I f p) := by rw [insM, if_pos h]
theorem insM_f {m p : Nat} {f I : Nat → Int32} (h : ¬ MustB f p = true) : insM (m + 1) p f I = insM m (p + 1) f I := by rw [insM, if_neg h]
theorem gonF_7 {f : Nat → Int32} {k c : Nat} (hc : f 7 = nI c) (h0 : 0 < c) : gonF f k c 7 = nI (c - 1) := gon_7 hc h0
theorem upd9_7 {g : Nat → Int32} {x : Int32} : upd g 9 x 7 = g 7 := pk_un (by decide)
def chgN (f : Nat → Int32) : Nat → Nat → Int32
  | 0 => f
  | k + 1 => chgF (chgN f k) k
def tchN (f : Nat → Int32) : Nat → Nat → Int32
  | 0 => f
  | k + 1 => tchF (tchN f k) k
def dinN (f a o : Nat → Int32) : Nat → Nat → Int32
  | 0 => f
  | k + 1 => dinF (dinN f a o k) a o k
theorem chgF_7 {f : Nat → Int32} {k : Nat} : chgF f k 7 = f 7 := by unfold chgF chg1; rw [pk_un (by decide), pk_un (by omega)]
theorem chgN_7 {f : Nat → Int32} : ∀ k, chgN f k 7 = f 7
  | 0 => rfl
  | k + 1 => by rw [chgN, chgF_7, chgN_7 k]
theorem mvF_n {f : Nat → Int32} {p j : Nat} {t : Int32} (h : j ≠ p) : mvF f p t j = f j := pk_un h
theorem tchF_off {f : Nat → Int32} {k j : Nat} (h : ∀ v, v < 5 → j ≠ 13 + 16 * k + 5 + v) (h2 : j ≠ 13 + 16 * k + 2) : tchF f k j = f j := by
  by_cases h0 : f (13 + 16 * k + 1) < 0
  · rw [tch_f (Or.inl h0)]
  · rcases far_or (rw5 f k) (la5 f) 5 with e | ⟨v, hv, e⟩
    · rw [tch_f (Or.inr e)]
    · rw [tch_t h0 hv e, pk_un h2, mvF_n (h v hv)]
theorem tchF_7 {f : Nat → Int32} {k : Nat} : tchF f k 7 = f 7 := tchF_off (fun v _ => by omega) (by omega)
theorem tchN_7 {f : Nat → Int32} : ∀ k, tchN f k 7 = f 7
  | 0 => rfl
  | k + 1 => by rw [tchN, tchF_7, tchN_7 k]
theorem dinF_off {f a o : Nat → Int32} {k j φ : Nat} (hφ : f (13 + 16 * k) = nI φ) (h5 : φ < 5) (h : ∀ v, v < 5 → j ≠ 13 + 16 * k + 5 + v) (h2 : j ≠ 13 + 16 * k + 3) : dinF f a o k j = f j := by
  rcases slp_or f a o k with e | ⟨v, hv, e⟩
  · rw [din_f e]
  · rw [din_t hφ h5 hv e, pk_un h2, mvF_n (h v hv)]
/-- floors of the first c lodgers are floors -/
def Flo (f : Nat → Int32) (c : Nat) : Prop := ∀ k, k < c → ∃ φ, φ < 5 ∧ f (13 + 16 * k) = nI φ
theorem Flo.of {f g : Nat → Int32} {c : Nat} (h : Flo f c) (e : ∀ k, k < c → g (13 + 16 * k) = f (13 + 16 * k)) : Flo g c := fun k hk => by rw [e k hk]; exact h k hk
theorem chgN_fl {f : Nat → Int32} {j : Nat} : ∀ k, chgN f k (13 + 16 * j) = f (13 + 16 * j)
  | 0 => rfl
  | k + 1 => by rw [chgN, chgF, pk_un (by omega), chg1, pk_un (by omega), chgN_fl k]
theorem tchN_fl {f : Nat → Int32} {j : Nat} : ∀ k, tchN f k (13 + 16 * j) = f (13 + 16 * j)
  | 0 => rfl
  | k + 1 => by rw [tchN, tchF_off (fun v hv => by omega) (by omega), tchN_fl k]
theorem dinN_fl {f a o : Nat → Int32} {c j : Nat} (h : Flo f c) : ∀ k, k ≤ c → dinN f a o k (13 + 16 * j) = f (13 + 16 * j)
  | 0, _ => rfl
  | k + 1, hk => by
    obtain ⟨φ, h1, h2⟩ := h k (by omega)
    rw [dinN, dinF_off (φ := φ) (by rw [dinN_fl h k (by omega)]; exact h2) h1 (fun v hv => by omega) (by omega), dinN_fl h k (by omega)]
theorem dinN_7 {f a o : Nat → Int32} {c : Nat} (h : Flo f c) : ∀ k, k ≤ c → dinN f a o k 7 = f 7
  | 0, _ => rfl
  | k + 1, hk => by
    obtain ⟨φ, h1, h2⟩ := h k (by omega)
    rw [dinN, dinF_off (φ := φ) (by rw [dinN_fl h k (by omega)]; exact h2) h1 (fun v hv => by omega) (by omega), dinN_7 h k (by omega)]
/-- a day up to the inspection -/
def dayA (f : Nat → Int32) (c : Nat) : Nat → Int32 := tchN (chgN f c) c
def dayB (f : Nat → Int32) (c : Nat) : Nat → Int32 := dinN (dayA f c) (avU (dayA f c) (fun _ => 0) c 25) (onU (dayA f c) (fun _ => 0) c 5) c
def dayC (f : Nat → Int32) (c : Nat) : Nat → Int32 := upd (dayB f c) 8 (dayB f c 8 + nI 1)
/-- is there an inspection now -/
def InsB (f : Nat → Int32) : Bool := decide (f 8 - f 8 / nI 7 * nI 7 = 0)
def dayM (f I : Nat → Int32) (c : Nat) : (Nat → Int32) × (Nat → Int32) := if InsB (dayC f c) = true then insM c 0 (dayC f c) I else (dayC f c, I)
/-- scratch arrays apart -/
def Sc (A B : Nat → Nat → Int32) : Prop := ∀ j, j ≠ 6 → j ≠ 7 → B j = A j
theorem Sc.rf {A : Nat → Nat → Int32} : Sc A A := fun _ _ _ => rfl
theorem Sc.tr {A B C : Nat → Nat → Int32} (h : Sc A B) (h2 : Sc B C) : Sc A C := fun j a b => (h2 j a b).trans (h j a b)
theorem Sc.av {A : Nat → Nat → Int32} {o a : Nat → Int32} : Sc A (avA A o a) := fun j a b => by unfold avA; rw [if_neg b, if_neg a]
theorem slpF_c {f a a2 o o2 : Nat → Int32} {k φ : Nat} (hφ : f (13 + 16 * k) = nI φ) (h5 : φ < 5) (ha : ∀ j, j < 25 → a j = a2 j) (ho : ∀ j, j < 5 → o j = o2 j) : slpF f a o k = slpF f a2 o2 k := by
  rw [slpF_eq hφ h5, slpF_eq hφ h5, ho φ h5]
  have : ∀ n, n ≤ 5 → far (rw5 f k) (fun v => a (5 * φ + v)) n = far (rw5 f k) (fun v => a2 (5 * φ + v)) n := by
    intro n
    induction n with
    | zero => intro _; rfl
    | succ n ih => intro hn; rw [far, far, ih (by omega), ha (5 * φ + n) (by omega)]
  rw [this 5 (Nat.le_refl 5)]
theorem dinF_c {f a a2 o o2 : Nat → Int32} {k φ : Nat} (hφ : f (13 + 16 * k) = nI φ) (h5 : φ < 5) (ha : ∀ j, j < 25 → a j = a2 j) (ho : ∀ j, j < 5 → o j = o2 j) : dinF f a o k = dinF f a2 o2 k := by
  have e := slpF_c (f := f) (k := k) hφ h5 ha ho
  rcases slp_or f a2 o2 k with z | ⟨v, hv, z⟩
  · rw [din_f (e.trans z), din_f z]
  · rw [din_t hφ h5 hv (e.trans z), din_t hφ h5 hv z, ha (5 * φ + v) (by omega)]
theorem dinN_c {f a a2 o o2 : Nat → Int32} {c : Nat} (h : Flo f c) (ha : ∀ j, j < 25 → a j = a2 j) (ho : ∀ j, j < 5 → o j = o2 j) : ∀ k, k ≤ c → dinN f a o k = dinN f a2 o2 k
  | 0, _ => rfl
  | k + 1, hk => by
    obtain ⟨φ, h1, h2⟩ := h k (by omega)
    rw [dinN, dinN, dinN_c h ha ho k (by omega)]
    exact dinF_c (by rw [dinN_fl h k (by omega)]; exact h2) h1 ha ho
/-- what of a row a day and its callees need -/
def Okr (f : Nat → Int32) (c : Nat) : Prop := f 7 = nI c ∧ c ≤ 12 ∧ Flo f c
theorem shf_fl {f : Nat → Int32} {k c j : Nat} (hkc : k < c) (hj : j < c - 1) : shf f (13 + 16 * k) (16 * (c - 1 - k)) (13 + 16 * j) = if k ≤ j then f (13 + 16 * (j + 1)) else f (13 + 16 * j) := by
  unfold shf
  by_cases h : k ≤ j
  · rw [if_pos (by omega), if_pos h]; congr 1
  · rw [if_neg (by omega), if_neg h]
theorem gonF_fl {f : Nat → Int32} {k c j : Nat} (hkc : k < c) (hj : j < c - 1) : gonF f k c (13 + 16 * j) = if k ≤ j then f (13 + 16 * (j + 1)) else f (13 + 16 * j) := by
  unfold gonF
  rw [shf_fl hkc hj]
  split <;> (unfold gon2 gon1; rw [pk_un (by omega), pk_un (by omega)])
theorem Okr.gone {f : Nat → Int32} {k c : Nat} (h : Okr f c) (hkc : k < c) : Okr (upd (gonF f k c) 9 (gonF f k c 9 + nI 1)) (c - 1) := by
  obtain ⟨h1, h2, h3⟩ := h
  refine ⟨by rw [upd9_7, gonF_7 h1 (by omega)], by omega, fun j hj => ?_⟩
  rw [pk_un (by omega), gonF_fl hkc hj]
  split
  · exact h3 _ (by omega)
  · exact h3 _ (by omega)
theorem insM_ok : ∀ (m p : Nat) (f I : Nat → Int32), Okr f (p + m) → ∃ c, c ≤ p + m ∧ Okr (insM m p f I).1 c
  | 0, p, f, I, h => ⟨p, Nat.le_refl _, h⟩
  | m + 1, p, f, I, h => by
    by_cases hM : MustB f p = true
    · rw [insM_t hM]
      obtain ⟨c, h1, h2⟩ := insM_ok m p _ (trkF I f p) (show Okr _ (p + m) from h.gone (k := p) (by omega))
      exact ⟨c, by omega, h2⟩
    · rw [insM_f hM]
      obtain ⟨c, h1, h2⟩ := insM_ok m (p + 1) f I (by rw [show p + 1 + m = p + (m + 1) by omega]; exact h)
      exact ⟨c, by omega, h2⟩
theorem dayA_ok {f : Nat → Int32} {c : Nat} (h : Okr f c) : Okr (dayA f c) c := ⟨by unfold dayA; rw [tchN_7, chgN_7]; exact h.1, h.2.1, h.2.2.of fun k _ => by unfold dayA; rw [tchN_fl, chgN_fl]⟩
theorem dayC_ok {f : Nat → Int32} {c : Nat} (h : Okr f c) : Okr (dayC f c) c := by
  have ha := dayA_ok h
  refine ⟨by unfold dayC; rw [pk_un (by decide)]; unfold dayB; rw [dinN_7 ha.2.2 c (Nat.le_refl c)]; exact ha.1, h.2.1, ha.2.2.of fun k _ => ?_⟩
  unfold dayC; rw [pk_un (by omega)]; unfold dayB; rw [dinN_fl ha.2.2 c (Nat.le_refl c)]
theorem dayM_t {f I : Nat → Int32} {c : Nat} (h : InsB (dayC f c) = true) : dayM f I c = insM c 0 (dayC f c) I := if_pos h
theorem dayM_f {f I : Nat → Int32} {c : Nat} (h : ¬ InsB (dayC f c) = true) : dayM f I c = (dayC f c, I) := if_neg h
theorem dayM_ok {f I : Nat → Int32} {c : Nat} (h : Okr f c) : ∃ c2, c2 ≤ c ∧ Okr (dayM f I c).1 c2 := by
  have hc := dayC_ok h
  unfold dayM
  split
  · obtain ⟨c2, h1, h2⟩ := insM_ok c 0 (dayC f c) I (by rw [Nat.zero_add]; exact hc)
    exact ⟨c2, by omega, h2⟩
  · exact ⟨c, Nat.le_refl c, hc⟩
/-- as many lodgers as the row says -/
def mny (f : Nat → Int32) : Nat := (f 7).toNatClampNeg
theorem mny_eq {f : Nat → Int32} {c : Nat} (h : Okr f c) : mny f = c := by unfold mny; rw [h.1, nI_clamp (by have := h.2.1; omega)]
/-- n days -/
def dysM (f I : Nat → Int32) : Nat → (Nat → Int32) × (Nat → Int32)
  | 0 => (f, I)
  | n + 1 => dayM (dysM f I n).1 (dysM f I n).2 (mny (dysM f I n).1)
theorem dysM_ok {f I : Nat → Int32} {c : Nat} (h : Okr f c) : ∀ n, ∃ c2, c2 ≤ c ∧ Okr (dysM f I n).1 c2
  | 0 => ⟨c, Nat.le_refl c, h⟩
  | n + 1 => by
    obtain ⟨c2, h1, h2⟩ := dysM_ok h n
    obtain ⟨c3, h3, h4⟩ := dayM_ok (I := (dysM f I n).2) h2
    refine ⟨c3, by omega, ?_⟩
    rw [dysM, mny_eq h2]
    exact h4
theorem InsB_t {f : Nat → Int32} : InsB f = true ↔ f 8 - f 8 / nI 7 * nI 7 = 0 := by unfold InsB; simp
section
variable {Γ : Gm} {d : Nat} {M : Mr} {P : Po} {X : Px} {pc : Nat} {lv : List (Nat × Value)} {st rest : List Value} {E : Hp} {n kc ks : Nat} {M1 : Mr} {d1 mc ms ix k b : Nat} {As : List Value} {P1 : Po}
/-- a call whose answer the post tells -/
theorem gx_V0 (hC : Ct Γ d1 M1 mc ms (.ref b :: As) E n P1 X0) (lk : LkV M.1 ix M1 k) (hk : As.length = k) (hr : Rcv Γ E b M1.1) (hd : d1 + 1 ≤ d) (hrest : (rest.map fun v => v.category).sum ≤ 8) (hst : st = As.reverse ++ .ref b :: rest) (dg : decode M.2.2.1 pc = .ok (.invokevirtual ix, 3)) (hv : ∀ v E1 n1, P1 v E1 n1 → v = none)
    (kk : ∀ E1 n1, P1 none E1 n1 → G Γ d M P X (pc + 3) lv rest E1 n1 kc ks) : G Γ d M P X pc lv st E n (kc + mc) (ks + ms) := g_invV hC lk hk hr hd hrest hst dg (fun _ _ _ h => h.elim) (fun v E1 n1 h => by have e := hv v E1 n1 h; subst e; exact kk E1 n1 h)
theorem gx_Vi (hC : Ct Γ d1 M1 mc ms (.ref b :: As) E n P1 X0) (lk : LkV M.1 ix M1 k) (hk : As.length = k) (hr : Rcv Γ E b M1.1) (hd : d1 + 1 ≤ d) (hrest : (rest.map fun v => v.category).sum ≤ 8) (hst : st = As.reverse ++ .ref b :: rest) (dg : decode M.2.2.1 pc = .ok (.invokevirtual ix, 3)) (hv : ∀ v E1 n1, P1 v E1 n1 → ∃ x, v = some (.int x))
    (kk : ∀ x E1 n1, P1 (some (.int x)) E1 n1 → G Γ d M P X (pc + 3) lv (.int x :: rest) E1 n1 kc ks) : G Γ d M P X pc lv st E n (kc + mc) (ks + ms) := g_invV hC lk hk hr hd hrest hst dg (fun _ _ _ h => h.elim) (fun v E1 n1 h => by obtain ⟨x, e⟩ := hv v E1 n1 h; subst e; exact kk x E1 n1 h)
end
end GPURE3
end
section
section GM3
set_option maxRecDepth 100000 in
set_option maxHeartbeats 4000000 in
theorem c_X8_inspects {Γ : Gm} {mo n : Nat} {F : Hp} {I : Nat → Int32} {A : Nat → Nat → Int32} {f : Nat → Int32} {c : Nat} (h : Okr f c) : Ct Γ 5 MX8_inspects 0 0 [.ref mo] (MW Γ mo F I A f) n (Rt none (MW Γ mo F (insM c 0 f I).2 A (insM c 0 f I).1) n) X0 := by
  refine Ct.of (by decide +kernel) rfl (Nat.le_of_ble_eq_true rfl) ?_
  refine G.sub (lv2 := [(0, _)]) [0] rfl ?_
  refine gn_ic 0 (by decide) dX8_inspects_0 ?_
  refine g_istore_n (lv2 := [(1, _), (0, _)]) (by decide) rfl dX8_inspects_1 ?_
  have L2 : ∀ (m2 : Nat) (p : Nat) (f1 I1 : Nat → Int32), Okr f1 (p + m2) → insM m2 p f1 I1 = insM c 0 f I → G Γ 5 MX8_inspects (Rt none (MW Γ mo F (insM c 0 f I).2 A (insM c 0 f I).1) n) X0 2 [(0, .ref mo), (1, .int (nI p))] [] (MW Γ mo F I1 A f1) n 0 0 := by
    intro m2
    induction m2 with
    | zero =>
      intro p f1 I1 h7 hE
      have h12 := h7.2.1
      refine g_iload_n 1 rfl dX8_inspects_2 ?_
      refine m_get 0 rfl f_X8_19 rfl dX8_inspects_3 dX8_inspects_4 ?_
      refine gn_bp 7 (by decide) dX8_inspects_7 ?_
      refine gn_iald MW_3 (by omega) (by decide) dX8_inspects_9 ?_
      refine g_top (y := _) h7.1 ?_
      refine gn_icmp_ge (by omega) (by omega) (tgt := 46) (by decide) dX8_inspects_10 (fun cc1 => ?_) (fun cc1 => ?_)
      · -- t 46
        exact g_vret ⟨rfl, by rw [← hE]; rfl, rfl⟩ rfl dX8_inspects_46
      · -- f 13
        exfalso; omega
    | succ m2 ih2 =>
      intro p f1 I1 h7 hE
      have h12 := h7.2.1
      refine g_iload_n 1 rfl dX8_inspects_2 ?_
      refine m_get 0 rfl f_X8_19 rfl dX8_inspects_3 dX8_inspects_4 ?_
      refine gn_bp 7 (by decide) dX8_inspects_7 ?_
      refine gn_iald MW_3 (by omega) (by decide) dX8_inspects_9 ?_
      refine g_top (y := _) h7.1 ?_
      refine gn_icmp_ge (by omega) (by omega) (tgt := 46) (by decide) dX8_inspects_10 (fun cc2 => ?_) (fun cc2 => ?_)
      · -- t 46
        exfalso; omega
      · -- f 13
        refine g_aload_n 0 rfl dX8_inspects_13 ?_
        refine g_iload_n 1 rfl dX8_inspects_14 ?_
        refine gv_V (c_X8_hasToGo (by omega)) l_X8_105 rfl m_rcv (Nat.le_of_ble_eq_true rfl) (Nat.le_of_ble_eq_true rfl) rfl dX8_inspects_15 ?_
        refine g_if_eq (tgt := 40) (by decide) dX8_inspects_18 (fun h1 => ?_) (fun h1 => ?_)
        · -- t 40
          refine gn_inc (lv2 := [(1, _), (0, _)]) 1 rfl (by decide) rfl dX8_inspects_40 ?_
          refine g_goto (tgt := 2) (by decide) dX8_inspects_43 ?_
          refine G.sub [1, 0] rfl ?_
          exact ih2 (p + 1) f1 I1 (by rw [show p + 1 + m2 = p + (m2 + 1) by omega]; exact h7) ((insM_f (bi_0 h1)).symm.trans hE)
        · -- f 21
          refine g_aload_n 0 rfl dX8_inspects_21 ?_
          refine g_iload_n 1 rfl dX8_inspects_22 ?_
          refine gu_V (c_X8_goes (c := p + (m2 + 1)) h7.1 h12 (by omega)) l_X8_108 rfl m_rcv (Nat.le_of_ble_eq_true rfl) (Nat.le_of_ble_eq_true rfl) rfl dX8_inspects_23 ?_
          refine m_get 0 rfl f_X8_19 rfl dX8_inspects_26 dX8_inspects_27 ?_
          refine gn_bp 9 (by decide) dX8_inspects_30 ?_
          refine g_dup2 rfl rfl dX8_inspects_32 ?_
          refine gn_iald MW_3 (by omega) (by decide) dX8_inspects_33 ?_
          refine gn_ic 1 (by decide) dX8_inspects_34 ?_
          refine g_iadd dX8_inspects_35 ?_
          refine gn_iast MW_3 (by omega) (by decide) MW_s3 dX8_inspects_36 ?_
          refine g_goto (tgt := 2) (by decide) dX8_inspects_37 ?_
          refine G.sub [0, 1] rfl ?_
          exact ih2 p _ _ (h7.gone (k := p) (by omega)) ((insM_t (bi_n0 h1)).symm.trans hE)
  refine G.sub [1, 0] rfl ?_
  exact L2 c 0 f I (by rw [Nat.zero_add]; exact h) rfl
set_option maxRecDepth 100000 in
set_option maxHeartbeats 4000000 in
theorem c_X8_passesDay {Γ : Gm} {mo n : Nat} {F : Hp} {I : Nat → Int32} {A : Nat → Nat → Int32} {f : Nat → Int32} {c : Nat} (h : Okr f c) : Ct Γ 6 MX8_passesDay 0 0 [.ref mo] (MW Γ mo F I A f) n (fun v E1 n1 => v = none ∧ n1 = n ∧ ∃ A2, Sc A A2 ∧ E1 = MW Γ mo F (dayM f I c).2 A2 (dayM f I c).1) X0 := by
  refine Ct.of (by decide +kernel) rfl (Nat.le_of_ble_eq_true rfl) ?_
  have hA := dayA_ok h
  have h12 := h.2.1
  have hB : dinN (tchN (chgN f c) c) (avU (tchN (chgN f c) c) (A 6) c 25) (onU (tchN (chgN f c) c) (A 7) c 5) c = dayB f c := dinN_c hA.2.2 (fun j hj => by unfold avU; rw [if_pos hj, if_pos hj]; rfl) (fun j hj => by unfold onU; rw [if_pos hj, if_pos hj]; rfl) c (Nat.le_refl c)
  refine G.sub (lv2 := [(0, _)]) [0] rfl ?_
  refine gn_ic 0 (by decide) dX8_passesDay_0 ?_
  refine g_istore_n (lv2 := [(1, _), (0, _)]) (by decide) rfl dX8_passesDay_1 ?_
  have L2 : ∀ (m2 i2 : Nat), i2 + m2 = c → G Γ 6 MX8_passesDay (fun v E1 n1 => v = none ∧ n1 = n ∧ ∃ A2, Sc A A2 ∧ E1 = MW Γ mo F (dayM f I c).2 A2 (dayM f I c).1) X0 2 [(0, .ref mo), (1, .int (nI i2))] [] (MW Γ mo F I A (chgN f i2)) n 0 0 := by
    intro m2
    induction m2 with
    | zero =>
      intro i2 hi2
      refine g_iload_n 1 rfl dX8_passesDay_2 ?_
      refine m_get 0 rfl f_X8_19 rfl dX8_passesDay_3 dX8_passesDay_4 ?_
      refine gn_bp 7 (by decide) dX8_passesDay_7 ?_
      refine gn_iald MW_3 (by omega) (by decide) dX8_passesDay_9 ?_
      refine g_top (y := nI c) (by rw [chgN_7]; exact h.1) ?_
      refine gn_icmp_ge (by omega) (by omega) (tgt := 24) (by decide) dX8_passesDay_10 (fun cc1 => ?_) (fun cc1 => ?_)
      · -- t 24
        obtain rfl : c = i2 := by omega
        refine gn_ic 0 (by decide) dX8_passesDay_24 ?_
        refine g_istore_n (lv2 := [(1, _), (0, _)]) (by decide) rfl dX8_passesDay_25 ?_
        have L26 : ∀ (m26 i26 : Nat), i26 + m26 = c → G Γ 6 MX8_passesDay (fun v E1 n1 => v = none ∧ n1 = n ∧ ∃ A2, Sc A A2 ∧ E1 = MW Γ mo F (dayM f I c).2 A2 (dayM f I c).1) X0 26 [(0, .ref mo), (1, .int (nI i26))] [] (MW Γ mo F I A (tchN (chgN f c) i26)) n 0 0 := by
          intro m26
          induction m26 with
          | zero =>
            intro i26 hi26
            refine g_iload_n 1 rfl dX8_passesDay_26 ?_
            refine m_get 0 rfl f_X8_19 rfl dX8_passesDay_27 dX8_passesDay_28 ?_
            refine gn_bp 7 (by decide) dX8_passesDay_31 ?_
            refine gn_iald MW_3 (by omega) (by decide) dX8_passesDay_33 ?_
            refine g_top (y := nI c) (by rw [tchN_7, chgN_7]; exact h.1) ?_
            refine gn_icmp_ge (by omega) (by omega) (tgt := 48) (by decide) dX8_passesDay_34 (fun cc2 => ?_) (fun cc2 => ?_)
            · -- t 48
              obtain rfl : c = i26 := by omega
              refine g_aload_n 0 rfl dX8_passesDay_48 ?_
              refine gu_V (c_X8_averagesNow (c := c) (by rw [tchN_7, chgN_7]; exact h.1) h12) l_X8_118 rfl m_rcv (Nat.le_of_ble_eq_true rfl) (Nat.le_of_ble_eq_true rfl) rfl dX8_passesDay_49 ?_
              refine gn_ic 0 (by decide) dX8_passesDay_52 ?_
              refine g_istore_n (lv2 := [(1, _), (0, _)]) (by decide) rfl dX8_passesDay_53 ?_
              have L54 : ∀ (m54 i54 : Nat), i54 + m54 = c → G Γ 6 MX8_passesDay (fun v E1 n1 => v = none ∧ n1 = n ∧ ∃ A2, Sc A A2 ∧ E1 = MW Γ mo F (dayM f I c).2 A2 (dayM f I c).1) X0 54 [(0, .ref mo), (1, .int (nI i54))] [] (MW Γ mo F I (avA A (onU (tchN (chgN f c) c) (A 7) c 5) (avU (tchN (chgN f c) c) (A 6) c 25)) (dinN (tchN (chgN f c) c) (avU (tchN (chgN f c) c) (A 6) c 25) (onU (tchN (chgN f c) c) (A 7) c 5) i54)) n 0 0 := by
                intro m54
                induction m54 with
                | zero =>
                  intro i54 hi54
                  refine g_iload_n 1 rfl dX8_passesDay_54 ?_
                  refine m_get 0 rfl f_X8_19 rfl dX8_passesDay_55 dX8_passesDay_56 ?_
                  refine gn_bp 7 (by decide) dX8_passesDay_59 ?_
                  refine gn_iald MW_3 (by omega) (by decide) dX8_passesDay_61 ?_
                  refine g_top (y := nI c) ((dinN_7 hA.2.2 i54 (by omega)).trans hA.1) ?_
                  refine gn_icmp_ge (by omega) (by omega) (tgt := 76) (by decide) dX8_passesDay_62 (fun cc3 => ?_) (fun cc3 => ?_)
                  · -- t 76
                    obtain rfl : c = i54 := by omega
                    rw [hB]
                    refine m_get 0 rfl f_X8_19 rfl dX8_passesDay_76 dX8_passesDay_77 ?_
                    refine gn_bp 8 (by decide) dX8_passesDay_80 ?_
                    refine g_dup2 rfl rfl dX8_passesDay_82 ?_
                    refine gn_iald MW_3 (by omega) (by decide) dX8_passesDay_83 ?_
                    refine gn_ic 1 (by decide) dX8_passesDay_84 ?_
                    refine g_iadd dX8_passesDay_85 ?_
                    refine gn_iast MW_3 (by omega) (by decide) MW_s3 dX8_passesDay_86 ?_
                    refine m_get 0 rfl f_X8_19 rfl dX8_passesDay_87 dX8_passesDay_88 ?_
                    refine gn_bp 8 (by decide) dX8_passesDay_91 ?_
                    refine gn_iald MW_3 (by omega) (by decide) dX8_passesDay_93 ?_
                    refine gn_bp 7 (by decide) dX8_passesDay_94 ?_
                    refine g_irem (by decide) dX8_passesDay_96 ?_
                    refine g_if_ne (tgt := 104) (by decide) dX8_passesDay_97 (fun h1 => ?_) (fun h1 => ?_)
                    · -- t 104
                      exact g_vret ⟨rfl, rfl, _, Sc.av, by rw [dayM_f (f := f) (c := c) (fun z => h1 (InsB_t.mp z))] <;> rfl⟩ rfl dX8_passesDay_104
                    · -- f 100
                      refine g_aload_n 0 rfl dX8_passesDay_100 ?_
                      refine gu_V (c_X8_inspects (c := c) (dayC_ok h)) l_X8_124 rfl m_rcv (Nat.le_of_ble_eq_true rfl) (Nat.le_of_ble_eq_true rfl) rfl dX8_passesDay_101 ?_
                      exact g_vret ⟨rfl, rfl, _, Sc.av, by rw [dayM_t (f := f) (c := c) (InsB_t.mpr h1)] <;> rfl⟩ rfl dX8_passesDay_104
                  · -- f 65
                    exfalso; omega
                | succ m54 ih54 =>
                  intro i54 hi54
                  refine g_iload_n 1 rfl dX8_passesDay_54 ?_
                  refine m_get 0 rfl f_X8_19 rfl dX8_passesDay_55 dX8_passesDay_56 ?_
                  refine gn_bp 7 (by decide) dX8_passesDay_59 ?_
                  refine gn_iald MW_3 (by omega) (by decide) dX8_passesDay_61 ?_
                  refine g_top (y := nI c) ((dinN_7 hA.2.2 i54 (by omega)).trans hA.1) ?_
                  refine gn_icmp_ge (by omega) (by omega) (tgt := 76) (by decide) dX8_passesDay_62 (fun cc4 => ?_) (fun cc4 => ?_)
                  · -- t 76
                    exfalso; omega
                  · -- f 65
                    refine g_aload_n 0 rfl dX8_passesDay_65 ?_
                    refine g_iload_n 1 rfl dX8_passesDay_66 ?_
                    obtain ⟨φ, hφ5, hφ⟩ := hA.2.2 i54 (by omega)
                    refine gu_V (c_X8_dines (φ := φ) (by omega) ((dinN_fl hA.2.2 i54 (by omega)).trans hφ) hφ5) l_X8_121 rfl m_rcv (Nat.le_of_ble_eq_true rfl) (Nat.le_of_ble_eq_true rfl) rfl dX8_passesDay_67 ?_
                    refine gn_inc (lv2 := [(1, _), (0, _)]) 1 rfl (by decide) rfl dX8_passesDay_70 ?_
                    refine g_goto (tgt := 54) (by decide) dX8_passesDay_73 ?_
                    refine G.sub [1, 0] rfl ?_
                    exact ih54 (i54 + 1) (by omega)
              refine G.sub [1, 0] rfl ?_
              exact L54 _ 0 (Nat.zero_add _)
            · -- f 37
              exfalso; omega
          | succ m26 ih26 =>
            intro i26 hi26
            refine g_iload_n 1 rfl dX8_passesDay_26 ?_
            refine m_get 0 rfl f_X8_19 rfl dX8_passesDay_27 dX8_passesDay_28 ?_
            refine gn_bp 7 (by decide) dX8_passesDay_31 ?_
            refine gn_iald MW_3 (by omega) (by decide) dX8_passesDay_33 ?_
            refine g_top (y := nI c) (by rw [tchN_7, chgN_7]; exact h.1) ?_
            refine gn_icmp_ge (by omega) (by omega) (tgt := 48) (by decide) dX8_passesDay_34 (fun cc5 => ?_) (fun cc5 => ?_)
            · -- t 48
              exfalso; omega
            · -- f 37
              refine g_aload_n 0 rfl dX8_passesDay_37 ?_
              refine g_iload_n 1 rfl dX8_passesDay_38 ?_
              refine gu_V (c_X8_teaches (by omega)) l_X8_115 rfl m_rcv (Nat.le_of_ble_eq_true rfl) (Nat.le_of_ble_eq_true rfl) rfl dX8_passesDay_39 ?_
              refine gn_inc (lv2 := [(1, _), (0, _)]) 1 rfl (by decide) rfl dX8_passesDay_42 ?_
              refine g_goto (tgt := 26) (by decide) dX8_passesDay_45 ?_
              refine G.sub [1, 0] rfl ?_
              exact ih26 (i26 + 1) (by omega)
        refine G.sub [1, 0] rfl ?_
        exact L26 _ 0 (Nat.zero_add _)
      · -- f 13
        exfalso; omega
    | succ m2 ih2 =>
      intro i2 hi2
      refine g_iload_n 1 rfl dX8_passesDay_2 ?_
      refine m_get 0 rfl f_X8_19 rfl dX8_passesDay_3 dX8_passesDay_4 ?_
      refine gn_bp 7 (by decide) dX8_passesDay_7 ?_
      refine gn_iald MW_3 (by omega) (by decide) dX8_passesDay_9 ?_
      refine g_top (y := nI c) (by rw [chgN_7]; exact h.1) ?_
      refine gn_icmp_ge (by omega) (by omega) (tgt := 24) (by decide) dX8_passesDay_10 (fun cc6 => ?_) (fun cc6 => ?_)
      · -- t 24
        exfalso; omega
      · -- f 13
        refine g_aload_n 0 rfl dX8_passesDay_13 ?_
        refine g_iload_n 1 rfl dX8_passesDay_14 ?_
        refine gu_V (c_X8_charges (by omega)) l_X8_112 rfl m_rcv (Nat.le_of_ble_eq_true rfl) (Nat.le_of_ble_eq_true rfl) rfl dX8_passesDay_15 ?_
        refine gn_inc (lv2 := [(1, _), (0, _)]) 1 rfl (by decide) rfl dX8_passesDay_18 ?_
        refine g_goto (tgt := 2) (by decide) dX8_passesDay_21 ?_
        refine G.sub [1, 0] rfl ?_
        exact ih2 (i2 + 1) (by omega)
  refine G.sub [1, 0] rfl ?_
  exact L2 _ 0 (Nat.zero_add _)
set_option maxRecDepth 100000 in
set_option maxHeartbeats 4000000 in
theorem c_X8_passes {Γ : Gm} {mo n : Nat} {F : Hp} {I : Nat → Int32} {A : Nat → Nat → Int32} {f : Nat → Int32} {c t : Nat} (h : Okr f c) (ht : t < 2 ^ 31) : Ct Γ 7 MX8_passes 0 0 [.ref mo, .int (nI t)] (MW Γ mo F I A f) n (fun v E1 n1 => v = none ∧ n1 = n ∧ ∃ A2, Sc A A2 ∧ E1 = MW Γ mo F (dysM f I t).2 A2 (dysM f I t).1) X0 := by
  refine Ct.of (by decide +kernel) rfl (Nat.le_of_ble_eq_true rfl) ?_
  refine G.sub (lv2 := [(0, _), (1, _)]) [0, 1] rfl ?_
  refine gn_ic 0 (by decide) dX8_passes_0 ?_
  refine g_istore_n (lv2 := [(2, _), (0, _), (1, _)]) (by decide) rfl dX8_passes_1 ?_
  have L2 : ∀ (m2 : Nat) (i : Nat) (A1 : Nat → Nat → Int32), i + m2 = t → Sc A A1 → G Γ 7 MX8_passes (fun v E1 n1 => v = none ∧ n1 = n ∧ ∃ A2, Sc A A2 ∧ E1 = MW Γ mo F (dysM f I t).2 A2 (dysM f I t).1) X0 2 [(0, .ref mo), (1, .int (nI t)), (2, .int (nI i))] [] (MW Γ mo F (dysM f I i).2 A1 (dysM f I i).1) n 0 0 := by
    intro m2
    induction m2 with
    | zero =>
      intro i A1 hi hS
      obtain rfl : t = i := by omega
      refine g_iload_n 2 rfl dX8_passes_2 ?_
      refine g_iload_n 1 rfl dX8_passes_3 ?_
      refine gn_icmp_ge (by omega) (by omega) (tgt := 17) (by decide) dX8_passes_4 (fun cc1 => ?_) (fun cc1 => ?_)
      · -- t 17
        exact g_vret ⟨rfl, rfl, A1, hS, rfl⟩ rfl dX8_passes_17
      · -- f 7
        exfalso; omega
    | succ m2 ih2 =>
      intro i A1 hi hS
      obtain ⟨c2, hc2, h2⟩ := dysM_ok (I := I) h i
      refine g_iload_n 2 rfl dX8_passes_2 ?_
      refine g_iload_n 1 rfl dX8_passes_3 ?_
      refine gn_icmp_ge (by omega) (by omega) (tgt := 17) (by decide) dX8_passes_4 (fun cc2 => ?_) (fun cc2 => ?_)
      · -- t 17
        exfalso; omega
      · -- f 7
        refine g_aload_n 0 rfl dX8_passes_7 ?_
        refine gx_V0 (c_X8_passesDay h2) l_X8_60 rfl m_rcv (Nat.le_of_ble_eq_true rfl) (Nat.le_of_ble_eq_true rfl) rfl dX8_passes_8 (fun _ _ _ z => z.1) (fun E1 n1 z => ?_)
        obtain ⟨-, rfl, A2, hS2, rfl⟩ := z
        rw [show (dayM (dysM f I i).1 (dysM f I i).2 c2) = dysM f I (i + 1) from by rw [dysM, mny_eq h2]]
        refine gn_inc (lv2 := [(2, _), (0, _), (1, _)]) 2 rfl (by decide) rfl dX8_passes_11 ?_
        refine g_goto (tgt := 2) (by decide) dX8_passes_14 ?_
        refine G.sub [1, 2, 0] rfl ?_
        exact ih2 (i + 1) A2 (by omega) (hS.tr hS2)
  refine G.sub [1, 2, 0] rfl ?_
  exact L2 t 0 A (by omega) Sc.rf
end GM3
end
section
section GPURE4
theorem upd_upd {f : Nat → Int32} {k : Nat} {x y : Int32} : upd (upd f k x) k y = upd f k y := by
  funext j; unfold upd; by_cases h : j = k <;> simp [h]
theorem updA_updA {A : Nat → Nat → Int32} {j : Nat} {g h : Nat → Int32} : updA (updA A j g) j h = updA A j h := by
  funext i; unfold updA; by_cases e : i = j <;> simp [e]
theorem updA_s {A : Nat → Nat → Int32} {j : Nat} {g : Nat → Int32} : updA A j g j = g := if_pos rfl
theorem updA_id {A : Nat → Nat → Int32} {j : Nat} : updA A j (A j) = A := by
  funext i; unfold updA; by_cases e : i = j <;> simp [e]
/-- i places moved down by 205 -/
def dnO (o : Nat → Int32) (i : Nat) : Nat → Int32 := fun j => if j < i then o (j + 205) else o j
theorem dnO_0 {o : Nat → Int32} : dnO o 0 = o := by funext j; unfold dnO; rw [if_neg (by omega)]
theorem dnO_s {o : Nat → Int32} {i : Nat} : upd (dnO o i) (205 + i - 205) (dnO o i (205 + i)) = dnO o (i + 1) := by
  rw [show 205 + i - 205 = i by omega]
  funext j; unfold upd dnO
  by_cases h : j = i
  · subst h; rw [if_pos rfl, if_neg (by omega), if_pos (by omega), Nat.add_comm]
  · by_cases h2 : j < i
    · rw [if_neg h, if_pos h2, if_pos (by omega)]
    · rw [if_neg h, if_neg h2, if_neg (by omega)]
/-- i places of f laid from b on -/
def cpO (o f : Nat → Int32) (b i : Nat) : Nat → Int32 := fun j => if b ≤ j ∧ j < b + i then f (j - b) else o j
theorem cpO_0 {o f : Nat → Int32} {b : Nat} : cpO o f b 0 = o := by funext j; unfold cpO; rw [if_neg (by omega)]
theorem cpO_s {o f : Nat → Int32} {b i : Nat} : upd (cpO o f b i) (b + i) (f i) = cpO o f b (i + 1) := by
  funext j; unfold upd cpO
  by_cases h : j = b + i
  · subst h; rw [if_pos rfl, if_pos (by omega), show b + i - b = i by omega]
  · by_cases h2 : b ≤ j ∧ j < b + i
    · rw [if_neg h, if_pos h2, if_pos (by omega)]
    · rw [if_neg h, if_neg h2, if_neg (by omega)]
/-- i places of o, from b on, laid to the front -/
def tkO (o f : Nat → Int32) (b i : Nat) : Nat → Int32 := fun j => if j < i then o (b + j) else f j
theorem tkO_0 {o f : Nat → Int32} {b : Nat} : tkO o f b 0 = f := by funext j; unfold tkO; rw [if_neg (by omega)]
theorem tkO_s {o f : Nat → Int32} {b i : Nat} : upd (tkO o f b i) i (o (b + i)) = tkO o f b (i + 1) := by
  funext j; unfold upd tkO
  by_cases h : j = i
  · subst h; rw [if_pos rfl, if_pos (by omega)]
  · by_cases h2 : j < i
    · rw [if_neg h, if_pos h2, if_pos (by omega)]
    · rw [if_neg h, if_neg h2, if_neg (by omega)]
theorem cpO_00 {o f : Nat → Int32} {i : Nat} : upd (cpO o f 0 i) i (f i) = cpO o f 0 (i + 1) := by have := cpO_s (o := o) (f := f) (b := 0) (i := i); rw [Nat.zero_add] at this; exact this
theorem tkO_00 {o f : Nat → Int32} {i : Nat} : upd (tkO o f 0 i) i (o i) = tkO o f 0 (i + 1) := by have := tkO_s (o := o) (f := f) (b := 0) (i := i); rw [Nat.zero_add] at this; exact this
/-- the rows kept, behind a change of a house with m kept -/
def remO (o f : Nat → Int32) (m : Nat) : Nat → Int32 := if m = 10 then cpO (dnO o 1845) f (9 * 205) 205 else cpO o f (m * 205) 205
def remM (m : Nat) : Nat := if m = 10 then 10 else m + 1
/-- i places from r on zero -/
def zro (f : Nat → Int32) (r i : Nat) : Nat → Int32 := fun j => if r ≤ j ∧ j < r + i then nI 0 else f j
theorem zro_0 {f : Nat → Int32} {r : Nat} : zro f r 0 = f := by funext j; unfold zro; rw [if_neg (by omega)]
theorem zro_s {f : Nat → Int32} {r i : Nat} : upd (zro f r i) (r + i) (nI 0) = zro f r (i + 1) := by
  funext j; unfold upd zro
  by_cases h : j = r + i
  · subst h; rw [if_pos rfl, if_pos (by omega)]
  · by_cases h2 : r ≤ j ∧ j < r + i
    · rw [if_neg h, if_pos h2, if_pos (by omega)]
    · rw [if_neg h, if_neg h2, if_neg (by omega)]
/-- a lodger comes: c lodgers before, floor fl, payment pay, accent a -/
def cm1 (f : Nat → Int32) (fl : Int32) (c : Nat) : Nat → Int32 := upd (zro f (13 + 16 * c) 16) (13 + 16 * c) fl
def cm2 (f : Nat → Int32) (fl pay : Int32) (c : Nat) : Nat → Int32 := upd (cm1 f fl c) (13 + 16 * c + 1) pay
def cm3 (f : Nat → Int32) (fl pay : Int32) (c : Nat) : Nat → Int32 := upd (cm2 f fl pay c) (13 + 16 * c + 4) (cm2 f fl pay c 8)
def cm4 (f : Nat → Int32) (fl pay : Int32) (c : Nat) : Nat → Int32 := upd (cm3 f fl pay c) 10 (cm3 f fl pay c 10 + pay)
def cm5 (f : Nat → Int32) (fl pay : Int32) (a c : Nat) : Nat → Int32 := upd (upd (upd (upd (upd (cm4 f fl pay c) (13 + 16 * c + 5 + 4) (nI (a % 10))) (13 + 16 * c + 5 + 3) (nI (a / 10 % 10))) (13 + 16 * c + 5 + 2) (nI (a / 10 / 10 % 10))) (13 + 16 * c + 5 + 1) (nI (a / 10 / 10 / 10 % 10))) (13 + 16 * c + 5) (nI (a / 10 / 10 / 10 / 10 % 10))
def comF (f : Nat → Int32) (fl pay : Int32) (a c : Nat) : Nat → Int32 := upd (cm5 f fl pay a c) 7 (cm5 f fl pay a c 7 + nI 1)
def payF (f : Nat → Int32) (k : Nat) (x : Int32) : Nat → Int32 := upd (upd f (13 + 16 * k + 1) (f (13 + 16 * k + 1) + x)) 10 (upd f (13 + 16 * k + 1) (f (13 + 16 * k + 1) + x) 10 + x)
end GPURE4
end
section
section GM4
set_option maxRecDepth 100000 in
set_option maxHeartbeats 4000000 in
theorem c_X8_putsAside {Γ : Gm} {mo n : Nat} {F : Hp} {I : Nat → Int32} {A : Nat → Nat → Int32} {f : Nat → Int32}   : Ct Γ 1 MX8_putsAside 0 0 [.ref mo] (MW Γ mo F I A f) n (Rt none (MW Γ mo F I (updA A 3 (cpO (A 3) f 0 205)) f) n) X0 := by
  refine Ct.of (by decide +kernel) rfl (Nat.le_of_ble_eq_true rfl) ?_
  rw [show MW Γ mo F I A f = MW Γ mo F I (updA A 3 (cpO (A 3) f 0 0)) f from by rw [cpO_0, updA_id]]
  refine G.sub (lv2 := [(0, _)]) [0] rfl ?_
  refine gn_ic 0 (by decide) dX8_putsAside_0 ?_
  refine g_istore_n (lv2 := [(1, _), (0, _)]) (by decide) rfl dX8_putsAside_1 ?_
  have L2 : ∀ (m2 i2 : Nat), i2 + m2 = 205 → G Γ 1 MX8_putsAside (Rt none (MW Γ mo F I (updA A 3 (cpO (A 3) f 0 205)) f) n) X0 2 [(0, .ref mo), (1, .int (nI i2))] [] (MW Γ mo F I (updA A 3 (cpO (A 3) f 0 i2)) f) n 0 0 := by
    intro m2
    induction m2 with
    | zero =>
      intro i2 hi2
      refine g_iload_n 1 rfl dX8_putsAside_2 ?_
      refine gn_sp 205 (by decide) dX8_putsAside_3 ?_
      refine gn_icmp_ge (by omega) (by omega) (tgt := 27) (by decide) dX8_putsAside_6 (fun cc1 => ?_) (fun cc1 => ?_)
      · -- t 27
        obtain rfl : i2 = 205 := by omega
        exact g_vret ⟨rfl, rfl, rfl⟩ rfl dX8_putsAside_27
      · -- f 9
        exfalso; omega
    | succ m2 ih2 =>
      intro i2 hi2
      refine g_iload_n 1 rfl dX8_putsAside_2 ?_
      refine gn_sp 205 (by decide) dX8_putsAside_3 ?_
      refine gn_icmp_ge (by omega) (by omega) (tgt := 27) (by decide) dX8_putsAside_6 (fun cc2 => ?_) (fun cc2 => ?_)
      · -- t 27
        exfalso; omega
      · -- f 9
        refine m_get 0 rfl f_X8_22 rfl dX8_putsAside_9 dX8_putsAside_10 ?_
        refine g_iload_n 1 rfl dX8_putsAside_13 ?_
        refine m_get 0 rfl f_X8_19 rfl dX8_putsAside_14 dX8_putsAside_15 ?_
        refine g_iload_n 1 rfl dX8_putsAside_18 ?_
        refine gn_iald MW_3 (by omega) (by decide) dX8_putsAside_19 ?_
        refine gn_iast (E2 := MW Γ mo F I (updA A 3 (cpO (A 3) f 0 (i2 + 1))) f) MW_4 (by omega) (by decide) (by rw [MW_s4, updA_updA, updA_s, cpO_00]) dX8_putsAside_20 ?_
        refine gn_inc (lv2 := [(1, _), (0, _)]) 1 rfl (by decide) rfl dX8_putsAside_21 ?_
        refine g_goto (tgt := 2) (by decide) dX8_putsAside_24 ?_
        refine G.sub [1, 0] rfl ?_
        exact ih2 (i2 + 1) (by omega)
  refine G.sub [1, 0] rfl ?_
  exact L2 _ 0 (Nat.zero_add _)
set_option maxRecDepth 100000 in
set_option maxHeartbeats 4000000 in
theorem c_X8_putsBack {Γ : Gm} {mo n : Nat} {F : Hp} {I : Nat → Int32} {A : Nat → Nat → Int32} {f : Nat → Int32}   : Ct Γ 1 MX8_putsBack 0 0 [.ref mo] (MW Γ mo F I A f) n (Rt none (MW Γ mo F (upd I 11 (-1)) A (tkO (A 3) f 0 205)) n) X0 := by
  refine Ct.of (by decide +kernel) rfl (Nat.le_of_ble_eq_true rfl) ?_
  rw [show MW Γ mo F I A f = MW Γ mo F I A (tkO (A 3) f 0 0) from by rw [tkO_0]]
  refine G.sub (lv2 := [(0, _)]) [0] rfl ?_
  refine gn_ic 0 (by decide) dX8_putsBack_0 ?_
  refine g_istore_n (lv2 := [(1, _), (0, _)]) (by decide) rfl dX8_putsBack_1 ?_
  have L2 : ∀ (m2 i2 : Nat), i2 + m2 = 205 → G Γ 1 MX8_putsBack (Rt none (MW Γ mo F (upd I 11 (-1)) A (tkO (A 3) f 0 205)) n) X0 2 [(0, .ref mo), (1, .int (nI i2))] [] (MW Γ mo F I A (tkO (A 3) f 0 i2)) n 0 0 := by
    intro m2
    induction m2 with
    | zero =>
      intro i2 hi2
      refine g_iload_n 1 rfl dX8_putsBack_2 ?_
      refine gn_sp 205 (by decide) dX8_putsBack_3 ?_
      refine gn_icmp_ge (by omega) (by omega) (tgt := 27) (by decide) dX8_putsBack_6 (fun cc1 => ?_) (fun cc1 => ?_)
      · -- t 27
        obtain rfl : i2 = 205 := by omega
        refine g_aload_n 0 rfl dX8_putsBack_27 ?_
        refine g_iconst (v := -1) dX8_putsBack_28 (by decide) ?_
        refine m_put f_X8_37 w_X8_11 (by decide) rfl dX8_putsBack_29 ?_
        exact g_vret ⟨rfl, rfl, rfl⟩ rfl dX8_putsBack_32
      · -- f 9
        exfalso; omega
    | succ m2 ih2 =>
      intro i2 hi2
      refine g_iload_n 1 rfl dX8_putsBack_2 ?_
      refine gn_sp 205 (by decide) dX8_putsBack_3 ?_
      refine gn_icmp_ge (by omega) (by omega) (tgt := 27) (by decide) dX8_putsBack_6 (fun cc2 => ?_) (fun cc2 => ?_)
      · -- t 27
        exfalso; omega
      · -- f 9
        refine m_get 0 rfl f_X8_19 rfl dX8_putsBack_9 dX8_putsBack_10 ?_
        refine g_iload_n 1 rfl dX8_putsBack_13 ?_
        refine m_get 0 rfl f_X8_22 rfl dX8_putsBack_14 dX8_putsBack_15 ?_
        refine g_iload_n 1 rfl dX8_putsBack_18 ?_
        refine gn_iald MW_4 (by omega) (by decide) dX8_putsBack_19 ?_
        refine gn_iast (E2 := MW Γ mo F I A (tkO (A 3) f 0 (i2 + 1))) MW_3 (by omega) (by decide) (by rw [MW_s3, tkO_00]) dX8_putsBack_20 ?_
        refine gn_inc (lv2 := [(1, _), (0, _)]) 1 rfl (by decide) rfl dX8_putsBack_21 ?_
        refine g_goto (tgt := 2) (by decide) dX8_putsBack_24 ?_
        refine G.sub [1, 0] rfl ?_
        exact ih2 (i2 + 1) (by omega)
  refine G.sub [1, 0] rfl ?_
  exact L2 _ 0 (Nat.zero_add _)
set_option maxRecDepth 100000 in
set_option maxHeartbeats 4000000 in
theorem r_remembers {Γ : Gm} {mo n : Nat} {F : Hp} {I : Nat → Int32} {A : Nat → Nat → Int32} {f : Nat → Int32} {q : Nat} {o : Nat → Int32} {J : Nat → Int32} (hq : J 6 = nI q) (hq10 : q < 10) (hJ : ∀ x, upd J 6 x = upd I 6 x) : G Γ 1 MX8_remembers (Rt none (MW Γ mo F (upd I 6 (nI (q + 1))) (updA A 4 (cpO o f (q * 205) 205)) f) n) X0 52 [(0, .ref mo)] [] (MW Γ mo F J (updA A 4 o) f) n 0 0 := by
  refine G.sub (lv2 := [(0, _)]) [0] rfl ?_
  refine gn_ic 0 (by decide) dX8_remembers_52 ?_
  refine g_istore_n (lv2 := [(1, _), (0, _)]) (by decide) rfl dX8_remembers_53 ?_
  have L54 : ∀ (m54 i54 : Nat), i54 + m54 = 205 → G Γ 1 MX8_remembers (Rt none (MW Γ mo F (upd I 6 (nI (q + 1))) (updA A 4 (cpO o f (q * 205) 205)) f) n) X0 54 [(0, .ref mo), (1, .int (nI i54))] [] (MW Γ mo F J (updA A 4 (cpO o f (q * 205) i54)) f) n 0 0 := by
    intro m54
    induction m54 with
    | zero =>
      intro i54 hi54
      refine g_iload_n 1 rfl dX8_remembers_54 ?_
      refine gn_sp 205 (by decide) dX8_remembers_55 ?_
      refine gn_icmp_ge (by omega) (by omega) (tgt := 88) (by decide) dX8_remembers_58 (fun cc1 => ?_) (fun cc1 => ?_)
      · -- t 88
        obtain rfl : i54 = 205 := by omega
        refine g_aload_n 0 rfl dX8_remembers_88 ?_
        refine g_dup rfl dX8_remembers_89 ?_
        refine m_getS f_X8_127 rfl dX8_remembers_90 ?_
        refine g_top (y := nI q) hq ?_
        refine gn_ic 1 (by decide) dX8_remembers_93 ?_
        refine gn_iadd dX8_remembers_94 ?_
        refine m_put f_X8_127 w_X8_6 (by decide) rfl dX8_remembers_95 ?_
        exact g_vret ⟨rfl, by rw [hJ], rfl⟩ rfl dX8_remembers_98
      · -- f 61
        exfalso; omega
    | succ m54 ih54 =>
      intro i54 hi54
      refine g_iload_n 1 rfl dX8_remembers_54 ?_
      refine gn_sp 205 (by decide) dX8_remembers_55 ?_
      refine gn_icmp_ge (by omega) (by omega) (tgt := 88) (by decide) dX8_remembers_58 (fun cc2 => ?_) (fun cc2 => ?_)
      · -- t 88
        exfalso; omega
      · -- f 61
        refine m_get 0 rfl f_X8_25 rfl dX8_remembers_61 dX8_remembers_62 ?_
        refine m_get 0 rfl f_X8_127 rfl dX8_remembers_65 dX8_remembers_66 ?_
        refine g_top (y := nI q) hq ?_
        refine gn_sp 205 (by decide) dX8_remembers_69 ?_
        refine gn_imul dX8_remembers_72 ?_
        refine g_iload_n 1 rfl dX8_remembers_73 ?_
        refine gn_iadd dX8_remembers_74 ?_
        refine m_get 0 rfl f_X8_19 rfl dX8_remembers_75 dX8_remembers_76 ?_
        refine g_iload_n 1 rfl dX8_remembers_79 ?_
        refine gn_iald MW_3 (by omega) (by decide) dX8_remembers_80 ?_
        refine gn_iast (E2 := MW Γ mo F J (updA A 4 (cpO o f (q * 205) (i54 + 1))) f) MW_5 (by omega) (by decide) (by rw [MW_s5, updA_updA, updA_s, cpO_s]) dX8_remembers_81 ?_
        refine gn_inc (lv2 := [(1, _), (0, _)]) 1 rfl (by decide) rfl dX8_remembers_82 ?_
        refine g_goto (tgt := 54) (by decide) dX8_remembers_85 ?_
        refine G.sub [1, 0] rfl ?_
        exact ih54 (i54 + 1) (by omega)
  refine G.sub [1, 0] rfl ?_
  refine g_world (E2 := MW Γ mo F J (updA A 4 (cpO o f (q * 205) 0)) f) (by rw [cpO_0]) ?_
  exact L54 _ 0 (Nat.zero_add _)
set_option maxRecDepth 100000 in
set_option maxHeartbeats 4000000 in
theorem c_X8_remembers {Γ : Gm} {mo n : Nat} {F : Hp} {I : Nat → Int32} {A : Nat → Nat → Int32} {f : Nat → Int32} {m : Nat} (hm : I 6 = nI m) (hm10 : m ≤ 10) : Ct Γ 1 MX8_remembers 0 0 [.ref mo] (MW Γ mo F I A f) n (Rt none (MW Γ mo F (upd I 6 (nI (remM m))) (updA A 4 (remO (A 4) f m)) f) n) X0 := by
  refine Ct.of (by decide +kernel) rfl (Nat.le_of_ble_eq_true rfl) ?_
  refine G.sub (lv2 := [(0, _)]) [0] rfl ?_
  refine m_get 0 rfl f_X8_127 rfl dX8_remembers_0 dX8_remembers_1 ?_
  refine g_top (y := nI m) hm ?_
  refine gn_bp 10 (by decide) dX8_remembers_4 ?_
  refine gn_icmp_ne (by omega) (by omega) (tgt := 52) (by decide) dX8_remembers_6 (fun h1 => ?_) (fun h1 => ?_)
  · -- t 52
    refine G.weak (P := Rt none (MW Γ mo F (upd I 6 (nI (m + 1))) (updA A 4 (cpO (A 4) f (m * 205) 205)) f) n) (X := X0) ?_ (fun v E1 n1 z => by unfold remO remM; rw [if_neg h1, if_neg h1]; exact z) (fun _ _ _ z => z)
    refine g_world (E2 := MW Γ mo F I (updA A 4 (A 4)) f) (by rw [updA_id]) ?_
    exact r_remembers (J := I) hm (by omega) (fun _ => rfl)
  · -- f 9
    refine gn_sp 205 (by decide) dX8_remembers_9 ?_
    refine g_istore_n (lv2 := [(1, _), (0, _)]) (by decide) rfl dX8_remembers_12 ?_
    have L13 : ∀ (m13 i13 : Nat), i13 + m13 = 1845 → G Γ 1 MX8_remembers (Rt none (MW Γ mo F (upd I 6 (nI (remM m))) (updA A 4 (remO (A 4) f m)) f) n) X0 13 [(0, .ref mo), (1, .int (nI (205 + i13)))] [] (MW Γ mo F I (updA A 4 (dnO (A 4) i13)) f) n 0 0 := by
      intro m13
      induction m13 with
      | zero =>
        intro i13 hi13
        refine g_iload_n 1 rfl dX8_remembers_13 ?_
        refine gn_sp 2050 (by decide) dX8_remembers_14 ?_
        refine gn_icmp_ge (by omega) (by omega) (tgt := 42) (by decide) dX8_remembers_17 (fun cc1 => ?_) (fun cc1 => ?_)
        · -- t 42
          obtain rfl : i13 = 1845 := by omega
          refine g_aload_n 0 rfl dX8_remembers_42 ?_
          refine g_dup rfl dX8_remembers_43 ?_
          refine m_getS f_X8_127 rfl dX8_remembers_44 ?_
          refine g_top (y := nI 10) (by rw [hm, h1]) ?_
          refine gn_ic 1 (by decide) dX8_remembers_47 ?_
          refine gn_isub (by omega) dX8_remembers_48 ?_
          refine m_put f_X8_127 w_X8_6 (by decide) rfl dX8_remembers_49 ?_
          exact G.weak (P := Rt none (MW Γ mo F (upd I 6 (nI (9 + 1))) (updA A 4 (cpO (dnO (A 4) 1845) f (9 * 205) 205)) f) n) (X := X0) (r_remembers (I := I) (J := upd I 6 (nI 9)) (q := 9) (o := dnO (A 4) 1845) rfl (by omega) (fun _ => upd_upd)) (fun v E1 n1 z => by unfold remO remM; rw [if_pos h1, if_pos h1]; exact z) (fun _ _ _ z => z)
        · -- f 20
          exfalso; omega
      | succ m13 ih13 =>
        intro i13 hi13
        refine g_iload_n 1 rfl dX8_remembers_13 ?_
        refine gn_sp 2050 (by decide) dX8_remembers_14 ?_
        refine gn_icmp_ge (by omega) (by omega) (tgt := 42) (by decide) dX8_remembers_17 (fun cc2 => ?_) (fun cc2 => ?_)
        · -- t 42
          exfalso; omega
        · -- f 20
          refine m_get 0 rfl f_X8_25 rfl dX8_remembers_20 dX8_remembers_21 ?_
          refine g_iload_n 1 rfl dX8_remembers_24 ?_
          refine gn_sp 205 (by decide) dX8_remembers_25 ?_
          refine gn_isub (by omega) dX8_remembers_28 ?_
          refine m_get 0 rfl f_X8_25 rfl dX8_remembers_29 dX8_remembers_30 ?_
          refine g_iload_n 1 rfl dX8_remembers_33 ?_
          refine gn_iald MW_5 (by omega) (by decide) dX8_remembers_34 ?_
          refine gn_iast (E2 := MW Γ mo F I (updA A 4 (dnO (A 4) (i13 + 1))) f) MW_5 (by omega) (by decide) (by rw [MW_s5, updA_updA, updA_s, dnO_s]) dX8_remembers_35 ?_
          refine gn_inc (lv2 := [(1, _), (0, _)]) 1 rfl (by decide) rfl dX8_remembers_36 ?_
          refine g_goto (tgt := 13) (by decide) dX8_remembers_39 ?_
          refine G.sub [1, 0] rfl ?_
          exact ih13 (i13 + 1) (by omega)
    refine G.sub [1, 0] rfl ?_
    refine g_world (E2 := MW Γ mo F I (updA A 4 (dnO (A 4) 0)) f) (by rw [dnO_0, updA_id]) ?_
    exact L13 _ 0 (Nat.zero_add _)
set_option maxRecDepth 100000 in
set_option maxHeartbeats 4000000 in
theorem c_X8_comes {Γ : Gm} {mo n : Nat} {F : Hp} {I : Nat → Int32} {A : Nat → Nat → Int32} {f : Nat → Int32} {fl pay : Int32} {a c : Nat} (hc : f 7 = nI c) (hc12 : c < 12) (ha : a < 2 ^ 31) : Ct Γ 2 MX8_comes 0 0 [.ref mo, .int fl, .int pay, .int (nI a)] (MW Γ mo F I A f) n (Rt none (MW Γ mo F I A (comF f fl pay a c)) n) X0 := by
  refine Ct.of (by decide +kernel) rfl (Nat.le_of_ble_eq_true rfl) ?_
  refine G.sub (lv2 := [(0, _), (1, _), (2, _), (3, _)]) [0, 1, 2, 3] rfl ?_
  refine m_get 0 rfl f_X8_19 rfl dX8_comes_0 dX8_comes_1 ?_
  refine gn_bp 7 (by decide) dX8_comes_4 ?_
  refine gn_iald MW_3 (by omega) (by decide) dX8_comes_6 ?_
  refine g_top (y := nI c) hc ?_
  refine gv_S (c_X8_l ) l_X8_56 rfl (Nat.le_of_ble_eq_true rfl) (Nat.le_of_ble_eq_true rfl) rfl dX8_comes_7 ?_
  refine g_istore (lv2 := [(4, _), (0, _), (1, _), (2, _), (3, _)]) (by decide) rfl dX8_comes_10 ?_
  refine gn_ic 0 (by decide) dX8_comes_12 ?_
  refine g_istore (lv2 := [(5, _), (4, _), (0, _), (1, _), (2, _), (3, _)]) (by decide) rfl dX8_comes_13 ?_
  have L15 : ∀ (m15 i15 : Nat), i15 + m15 = 16 → G Γ 2 MX8_comes (Rt none (MW Γ mo F I A (comF f fl pay a c)) n) X0 15 [(0, .ref mo), (1, .int fl), (2, .int pay), (3, .int (nI a)), (4, .int (nI (13 + 16 * c))), (5, .int (nI i15))] [] (MW Γ mo F I A (zro f (13 + 16 * c) i15)) n 0 0 := by
    intro m15
    induction m15 with
    | zero =>
      intro i15 hi15
      refine g_iload 5 rfl dX8_comes_15 ?_
      refine gn_bp 16 (by decide) dX8_comes_17 ?_
      refine gn_icmp_ge (by omega) (by omega) (tgt := 39) (by decide) dX8_comes_19 (fun cc1 => ?_) (fun cc1 => ?_)
      · -- t 39
        obtain rfl : i15 = 16 := by omega
        refine m_get 0 rfl f_X8_19 rfl dX8_comes_39 dX8_comes_40 ?_
        refine g_iload 4 rfl dX8_comes_43 ?_
        refine gn_ic 0 (by decide) dX8_comes_45 ?_
        refine gn_iadd0 dX8_comes_46 ?_
        refine g_iload_n 1 rfl dX8_comes_47 ?_
        refine gn_iast MW_3 (by omega) (by decide) MW_s3 dX8_comes_48 ?_
        refine m_get 0 rfl f_X8_19 rfl dX8_comes_49 dX8_comes_50 ?_
        refine g_iload 4 rfl dX8_comes_53 ?_
        refine gn_ic 1 (by decide) dX8_comes_55 ?_
        refine gn_iadd dX8_comes_56 ?_
        refine g_iload_n 2 rfl dX8_comes_57 ?_
        refine gn_iast MW_3 (by omega) (by decide) MW_s3 dX8_comes_58 ?_
        refine m_get 0 rfl f_X8_19 rfl dX8_comes_59 dX8_comes_60 ?_
        refine g_iload 4 rfl dX8_comes_63 ?_
        refine gn_ic 4 (by decide) dX8_comes_65 ?_
        refine gn_iadd dX8_comes_66 ?_
        refine m_get 0 rfl f_X8_19 rfl dX8_comes_67 dX8_comes_68 ?_
        refine gn_bp 8 (by decide) dX8_comes_71 ?_
        refine gn_iald MW_3 (by omega) (by decide) dX8_comes_73 ?_
        refine gn_iast MW_3 (by omega) (by decide) MW_s3 dX8_comes_74 ?_
        refine m_get 0 rfl f_X8_19 rfl dX8_comes_75 dX8_comes_76 ?_
        refine gn_bp 10 (by decide) dX8_comes_79 ?_
        refine g_dup2 rfl rfl dX8_comes_81 ?_
        refine gn_iald MW_3 (by omega) (by decide) dX8_comes_82 ?_
        refine g_iload_n 2 rfl dX8_comes_83 ?_
        refine g_iadd dX8_comes_84 ?_
        refine gn_iast MW_3 (by omega) (by decide) MW_s3 dX8_comes_85 ?_
        refine g_iload_n 3 rfl dX8_comes_86 ?_
        refine g_istore (lv2 := [(5, _), (0, _), (1, _), (2, _), (3, _), (4, _)]) (by decide) rfl dX8_comes_87 ?_
        refine gn_ic 4 (by decide) dX8_comes_89 ?_
        refine g_istore (lv2 := [(6, _), (5, _), (0, _), (1, _), (2, _), (3, _), (4, _)]) (by decide) rfl dX8_comes_90 ?_
        refine g_iload 0 rfl dX8_comes_92 ?_
        refine g_if_lt (tgt := 127) (by decide) dX8_comes_94 (fun cc2 => ?_) (fun cc2 => ?_)
        · -- t 127
          exact absurd cc2 (by decide)
        · -- f 97
          refine m_get 2 rfl f_X8_19 rfl dX8_comes_97 dX8_comes_98 ?_
          refine g_iload 6 rfl dX8_comes_101 ?_
          refine gn_ic 5 (by decide) dX8_comes_103 ?_
          refine gn_iadd dX8_comes_104 ?_
          refine g_iload 0 rfl dX8_comes_105 ?_
          refine gn_iadd dX8_comes_107 ?_
          refine g_iload 1 rfl dX8_comes_108 ?_
          refine gn_bp 10 (by decide) dX8_comes_110 ?_
          refine gn_irem (by omega) (by omega) (by omega) dX8_comes_112 ?_
          refine gn_iast MW_3 (by omega) (by decide) MW_s3 dX8_comes_113 ?_
          refine g_iload 1 rfl dX8_comes_114 ?_
          refine gn_bp 10 (by decide) dX8_comes_116 ?_
          refine gn_idiv (by omega) (by omega) (by omega) dX8_comes_118 ?_
          refine g_istore (lv2 := [(5, _), (6, _), (0, _), (1, _), (2, _), (3, _), (4, _)]) (by decide) rfl dX8_comes_119 ?_
          refine g_iinc (v := nI 3) (lv2 := [(6, _), (5, _), (0, _), (1, _), (2, _), (3, _), (4, _)]) 1 rfl (by decide) (by decide) rfl dX8_comes_121 ?_
          refine g_goto (tgt := 92) (by decide) dX8_comes_124 ?_
          refine g_iload 0 rfl dX8_comes_92 ?_
          refine g_if_lt (tgt := 127) (by decide) dX8_comes_94 (fun cc3 => ?_) (fun cc3 => ?_)
          · -- t 127
            exact absurd cc3 (by decide)
          · -- f 97
            refine m_get 2 rfl f_X8_19 rfl dX8_comes_97 dX8_comes_98 ?_
            refine g_iload 6 rfl dX8_comes_101 ?_
            refine gn_ic 5 (by decide) dX8_comes_103 ?_
            refine gn_iadd dX8_comes_104 ?_
            refine g_iload 0 rfl dX8_comes_105 ?_
            refine gn_iadd dX8_comes_107 ?_
            refine g_iload 1 rfl dX8_comes_108 ?_
            refine gn_bp 10 (by decide) dX8_comes_110 ?_
            refine gn_irem (by omega) (by omega) (by omega) dX8_comes_112 ?_
            refine gn_iast MW_3 (by omega) (by decide) MW_s3 dX8_comes_113 ?_
            refine g_iload 1 rfl dX8_comes_114 ?_
            refine gn_bp 10 (by decide) dX8_comes_116 ?_
            refine gn_idiv (by omega) (by omega) (by omega) dX8_comes_118 ?_
            refine g_istore (lv2 := [(5, _), (6, _), (0, _), (1, _), (2, _), (3, _), (4, _)]) (by decide) rfl dX8_comes_119 ?_
            refine g_iinc (v := nI 2) (lv2 := [(6, _), (5, _), (0, _), (1, _), (2, _), (3, _), (4, _)]) 1 rfl (by decide) (by decide) rfl dX8_comes_121 ?_
            refine g_goto (tgt := 92) (by decide) dX8_comes_124 ?_
            refine g_iload 0 rfl dX8_comes_92 ?_
            refine g_if_lt (tgt := 127) (by decide) dX8_comes_94 (fun cc4 => ?_) (fun cc4 => ?_)
            · -- t 127
              exact absurd cc4 (by decide)
            · -- f 97
              refine m_get 2 rfl f_X8_19 rfl dX8_comes_97 dX8_comes_98 ?_
              refine g_iload 6 rfl dX8_comes_101 ?_
              refine gn_ic 5 (by decide) dX8_comes_103 ?_
              refine gn_iadd dX8_comes_104 ?_
              refine g_iload 0 rfl dX8_comes_105 ?_
              refine gn_iadd dX8_comes_107 ?_
              refine g_iload 1 rfl dX8_comes_108 ?_
              refine gn_bp 10 (by decide) dX8_comes_110 ?_
              refine gn_irem (by omega) (by omega) (by omega) dX8_comes_112 ?_
              refine gn_iast MW_3 (by omega) (by decide) MW_s3 dX8_comes_113 ?_
              refine g_iload 1 rfl dX8_comes_114 ?_
              refine gn_bp 10 (by decide) dX8_comes_116 ?_
              refine gn_idiv (by omega) (by omega) (by omega) dX8_comes_118 ?_
              refine g_istore (lv2 := [(5, _), (6, _), (0, _), (1, _), (2, _), (3, _), (4, _)]) (by decide) rfl dX8_comes_119 ?_
              refine g_iinc (v := nI 1) (lv2 := [(6, _), (5, _), (0, _), (1, _), (2, _), (3, _), (4, _)]) 1 rfl (by decide) (by decide) rfl dX8_comes_121 ?_
              refine g_goto (tgt := 92) (by decide) dX8_comes_124 ?_
              refine g_iload 0 rfl dX8_comes_92 ?_
              refine g_if_lt (tgt := 127) (by decide) dX8_comes_94 (fun cc5 => ?_) (fun cc5 => ?_)
              · -- t 127
                exact absurd cc5 (by decide)
              · -- f 97
                refine m_get 2 rfl f_X8_19 rfl dX8_comes_97 dX8_comes_98 ?_
                refine g_iload 6 rfl dX8_comes_101 ?_
                refine gn_ic 5 (by decide) dX8_comes_103 ?_
                refine gn_iadd dX8_comes_104 ?_
                refine g_iload 0 rfl dX8_comes_105 ?_
                refine gn_iadd dX8_comes_107 ?_
                refine g_iload 1 rfl dX8_comes_108 ?_
                refine gn_bp 10 (by decide) dX8_comes_110 ?_
                refine gn_irem (by omega) (by omega) (by omega) dX8_comes_112 ?_
                refine gn_iast MW_3 (by omega) (by decide) MW_s3 dX8_comes_113 ?_
                refine g_iload 1 rfl dX8_comes_114 ?_
                refine gn_bp 10 (by decide) dX8_comes_116 ?_
                refine gn_idiv (by omega) (by omega) (by omega) dX8_comes_118 ?_
                refine g_istore (lv2 := [(5, _), (6, _), (0, _), (1, _), (2, _), (3, _), (4, _)]) (by decide) rfl dX8_comes_119 ?_
                refine g_iinc (v := nI 0) (lv2 := [(6, _), (5, _), (0, _), (1, _), (2, _), (3, _), (4, _)]) 1 rfl (by decide) (by decide) rfl dX8_comes_121 ?_
                refine g_goto (tgt := 92) (by decide) dX8_comes_124 ?_
                refine g_iload 0 rfl dX8_comes_92 ?_
                refine g_if_lt (tgt := 127) (by decide) dX8_comes_94 (fun cc6 => ?_) (fun cc6 => ?_)
                · -- t 127
                  exact absurd cc6 (by decide)
                · -- f 97
                  refine m_get 2 rfl f_X8_19 rfl dX8_comes_97 dX8_comes_98 ?_
                  refine g_iload 6 rfl dX8_comes_101 ?_
                  refine gn_ic 5 (by decide) dX8_comes_103 ?_
                  refine gn_iadd dX8_comes_104 ?_
                  refine g_iload 0 rfl dX8_comes_105 ?_
                  refine gn_iadd0 dX8_comes_107 ?_
                  refine g_iload 1 rfl dX8_comes_108 ?_
                  refine gn_bp 10 (by decide) dX8_comes_110 ?_
                  refine gn_irem (by omega) (by omega) (by omega) dX8_comes_112 ?_
                  refine gn_iast MW_3 (by omega) (by decide) MW_s3 dX8_comes_113 ?_
                  refine g_iload 1 rfl dX8_comes_114 ?_
                  refine gn_bp 10 (by decide) dX8_comes_116 ?_
                  refine gn_idiv (by omega) (by omega) (by omega) dX8_comes_118 ?_
                  refine g_istore (lv2 := [(5, _), (6, _), (0, _), (1, _), (2, _), (3, _), (4, _)]) (by decide) rfl dX8_comes_119 ?_
                  refine g_iinc (v := -1) (lv2 := [(6, _), (5, _), (0, _), (1, _), (2, _), (3, _), (4, _)]) 1 rfl (by decide) (by decide) rfl dX8_comes_121 ?_
                  refine g_goto (tgt := 92) (by decide) dX8_comes_124 ?_
                  refine g_iload 0 rfl dX8_comes_92 ?_
                  refine g_if_lt (tgt := 127) (by decide) dX8_comes_94 (fun cc7 => ?_) (fun cc7 => ?_)
                  · -- t 127
                    refine m_get 2 rfl f_X8_19 rfl dX8_comes_127 dX8_comes_128 ?_
                    refine gn_bp 7 (by decide) dX8_comes_131 ?_
                    refine g_dup2 rfl rfl dX8_comes_133 ?_
                    refine gn_iald MW_3 (by omega) (by decide) dX8_comes_134 ?_
                    refine gn_ic 1 (by decide) dX8_comes_135 ?_
                    refine g_iadd dX8_comes_136 ?_
                    refine gn_iast MW_3 (by omega) (by decide) MW_s3 dX8_comes_137 ?_
                    exact g_vret ⟨rfl, rfl, rfl⟩ rfl dX8_comes_138
                  · -- f 97
                    exact absurd cc7 (by decide)
      · -- f 22
        exfalso; omega
    | succ m15 ih15 =>
      intro i15 hi15
      refine g_iload 5 rfl dX8_comes_15 ?_
      refine gn_bp 16 (by decide) dX8_comes_17 ?_
      refine gn_icmp_ge (by omega) (by omega) (tgt := 39) (by decide) dX8_comes_19 (fun cc8 => ?_) (fun cc8 => ?_)
      · -- t 39
        exfalso; omega
      · -- f 22
        refine m_get 0 rfl f_X8_19 rfl dX8_comes_22 dX8_comes_23 ?_
        refine g_iload 4 rfl dX8_comes_26 ?_
        refine g_iload 5 rfl dX8_comes_28 ?_
        refine gn_iadd dX8_comes_30 ?_
        refine gn_ic 0 (by decide) dX8_comes_31 ?_
        refine gn_iast (E2 := MW Γ mo F I A (zro f (13 + 16 * c) (i15 + 1))) MW_3 (by omega) (by decide) (by rw [MW_s3, zro_s]) dX8_comes_32 ?_
        refine gn_inc (lv2 := [(5, _), (0, _), (1, _), (2, _), (3, _), (4, _)]) 5 rfl (by decide) rfl dX8_comes_33 ?_
        refine g_goto (tgt := 15) (by decide) dX8_comes_36 ?_
        refine G.sub [1, 2, 3, 4, 5, 0] rfl ?_
        exact ih15 (i15 + 1) (by omega)
  refine G.sub [2, 3, 4, 5, 1, 0] rfl ?_
  refine g_world (E2 := MW Γ mo F I A (zro f (13 + 16 * c) 0)) (by rw [zro_0]) ?_
  exact L15 _ 0 (Nat.zero_add _)
set_option maxRecDepth 100000 in
set_option maxHeartbeats 4000000 in
theorem c_X8_pays {Γ : Gm} {mo n : Nat} {F : Hp} {I : Nat → Int32} {A : Nat → Nat → Int32} {f : Nat → Int32} {k : Nat} {x : Int32} (hk : k < 12) : Ct Γ 2 MX8_pays 0 0 [.ref mo, .int (nI k), .int x] (MW Γ mo F I A f) n (Rt none (MW Γ mo F I A (payF f k x)) n) X0 := by
  refine Ct.of (by decide +kernel) rfl (Nat.le_of_ble_eq_true rfl) ?_
  refine G.sub (lv2 := [(0, _), (1, _), (2, _)]) [0, 1, 2] rfl ?_
  refine m_get 0 rfl f_X8_19 rfl dX8_pays_0 dX8_pays_1 ?_
  refine g_iload_n 1 rfl dX8_pays_4 ?_
  refine gv_S (c_X8_l ) l_X8_56 rfl (Nat.le_of_ble_eq_true rfl) (Nat.le_of_ble_eq_true rfl) rfl dX8_pays_5 ?_
  refine gn_ic 1 (by decide) dX8_pays_8 ?_
  refine gn_iadd dX8_pays_9 ?_
  refine g_dup2 rfl rfl dX8_pays_10 ?_
  refine gn_iald MW_3 (by omega) (by decide) dX8_pays_11 ?_
  refine g_iload_n 2 rfl dX8_pays_12 ?_
  refine g_iadd dX8_pays_13 ?_
  refine gn_iast MW_3 (by omega) (by decide) MW_s3 dX8_pays_14 ?_
  refine m_get 0 rfl f_X8_19 rfl dX8_pays_15 dX8_pays_16 ?_
  refine gn_bp 10 (by decide) dX8_pays_19 ?_
  refine g_dup2 rfl rfl dX8_pays_21 ?_
  refine gn_iald MW_3 (by omega) (by decide) dX8_pays_22 ?_
  refine g_iload_n 2 rfl dX8_pays_23 ?_
  refine g_iadd dX8_pays_24 ?_
  refine gn_iast MW_3 (by omega) (by decide) MW_s3 dX8_pays_25 ?_
  exact g_vret ⟨rfl, rfl, rfl⟩ rfl dX8_pays_26
set_option maxRecDepth 100000 in
set_option maxHeartbeats 4000000 in
theorem c_X8_sets {Γ : Gm} {mo n : Nat} {F : Hp} {I : Nat → Int32} {A : Nat → Nat → Int32} {f : Nat → Int32} {p m : Nat} {x : Int32} (hm : I 6 = nI m) (hm10 : m ≤ 10) (hp : p < 205) : Ct Γ 2 MX8_sets 0 0 [.ref mo, .int (nI p), .int x] (MW Γ mo F I A f) n (Rt (some (.int (f p))) (MW Γ mo F (upd I 6 (nI (remM m))) (updA A 4 (remO (A 4) f m)) (upd f p x)) n) X0 := by
  refine Ct.of (by decide +kernel) rfl (Nat.le_of_ble_eq_true rfl) ?_
  refine G.sub (lv2 := [(0, _), (1, _), (2, _)]) [0, 1, 2] rfl ?_
  refine g_aload_n 0 rfl dX8_sets_0 ?_
  refine gu_V (c_X8_remembers (by assumption) (by assumption)) l_X8_279 rfl m_rcv (Nat.le_of_ble_eq_true rfl) (Nat.le_of_ble_eq_true rfl) rfl dX8_sets_1 ?_
  refine m_get 0 rfl f_X8_19 rfl dX8_sets_4 dX8_sets_5 ?_
  refine g_iload_n 1 rfl dX8_sets_8 ?_
  refine gn_iald MW_3 (by omega) (by decide) dX8_sets_9 ?_
  refine g_istore_n (lv2 := [(3, _), (0, _), (1, _), (2, _)]) (by decide) rfl dX8_sets_10 ?_
  refine m_get 1 rfl f_X8_19 rfl dX8_sets_11 dX8_sets_12 ?_
  refine g_iload_n 2 rfl dX8_sets_15 ?_
  refine g_iload_n 3 rfl dX8_sets_16 ?_
  refine gn_iast MW_3 (by omega) (by decide) MW_s3 dX8_sets_17 ?_
  refine g_iload_n 0 rfl dX8_sets_18 ?_
  exact g_iret ⟨rfl, rfl, rfl⟩ rfl rfl dX8_sets_19
end GM4
end
