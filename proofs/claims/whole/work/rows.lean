section
-- ===== PART A: goes FIRST, ahead of the names: the tables' words, and 'selects' of the private methods out of them =====
/-- a private method of a class that the tables say can be made, by its rows of tables_1 -/
def lw_okq (q : MethodName × Nat) : Prop := (q.1.cls ≠ "java/lang/invoke/MethodHandle" ∧ q.1.cls ≠ "java/lang/invoke/VarHandle") ∧ Cond.instantiable q.1.cls q.2 ∈ tables_1 ∧ Cond.privateMethod q.1 ∈ tables_1 ∧ Cond.instanceMethod q.1 ∈ tables_1
theorem lw_p0 : lw_okq (⟨"AccentHouse$Parser", "readHeader", "()V"⟩, 5) := ⟨⟨by decide +kernel, by decide +kernel⟩, List.mem_of_getElem? (i := 72) (by decide +kernel), List.mem_of_getElem? (i := 342) (by decide +kernel), List.mem_of_getElem? (i := 343) (by decide +kernel)⟩
theorem lw_p1 : lw_okq (⟨"AccentHouse$Parser", "expectWord", "(Ljava/lang/String;)V"⟩, 5) := ⟨⟨by decide +kernel, by decide +kernel⟩, List.mem_of_getElem? (i := 72) (by decide +kernel), List.mem_of_getElem? (i := 347) (by decide +kernel), List.mem_of_getElem? (i := 348) (by decide +kernel)⟩
theorem lw_p2 : lw_okq (⟨"AccentHouse$Parser", "fail", "(II)V"⟩, 5) := ⟨⟨by decide +kernel, by decide +kernel⟩, List.mem_of_getElem? (i := 72) (by decide +kernel), List.mem_of_getElem? (i := 362) (by decide +kernel), List.mem_of_getElem? (i := 363) (by decide +kernel)⟩
theorem lw_p3 : lw_okq (⟨"AccentHouse$Parser", "readNumber", "(II)I"⟩, 5) := ⟨⟨by decide +kernel, by decide +kernel⟩, List.mem_of_getElem? (i := 72) (by decide +kernel), List.mem_of_getElem? (i := 366) (by decide +kernel), List.mem_of_getElem? (i := 367) (by decide +kernel)⟩
theorem lw_p4 : lw_okq (⟨"AccentHouse$Parser", "readAccent", "()I"⟩, 5) := ⟨⟨by decide +kernel, by decide +kernel⟩, List.mem_of_getElem? (i := 72) (by decide +kernel), List.mem_of_getElem? (i := 382) (by decide +kernel), List.mem_of_getElem? (i := 383) (by decide +kernel)⟩
theorem lw_p5 : lw_okq (⟨"AccentHouse$Parser", "readLodger", "()V"⟩, 5) := ⟨⟨by decide +kernel, by decide +kernel⟩, List.mem_of_getElem? (i := 72) (by decide +kernel), List.mem_of_getElem? (i := 391) (by decide +kernel), List.mem_of_getElem? (i := 392) (by decide +kernel)⟩
theorem lw_p6 : lw_okq (⟨"AccentHouse$Parser", "isAtName", "()Z"⟩, 5) := ⟨⟨by decide +kernel, by decide +kernel⟩, List.mem_of_getElem? (i := 72) (by decide +kernel), List.mem_of_getElem? (i := 395) (by decide +kernel), List.mem_of_getElem? (i := 396) (by decide +kernel)⟩
theorem lw_p7 : lw_okq (⟨"java/lang/Throwable", "fillInStackTrace", "(I)Ljava/lang/Throwable;"⟩, 6) := ⟨⟨by decide +kernel, by decide +kernel⟩, List.mem_of_getElem? (i := 629) (by decide +kernel), List.mem_of_getElem? (i := 627) (by decide +kernel), List.mem_of_getElem? (i := 628) (by decide +kernel)⟩
theorem lw_p8 : lw_okq (⟨"AccentHouse$Parser", "readFloor", "(LAccentHouse$Lodger;)I"⟩, 5) := ⟨⟨by decide +kernel, by decide +kernel⟩, List.mem_of_getElem? (i := 72) (by decide +kernel), List.mem_of_getElem? (i := 749) (by decide +kernel), List.mem_of_getElem? (i := 750) (by decide +kernel)⟩
theorem lw_p9 : lw_okq (⟨"AccentHouse$Parser", "readPay", "()V"⟩, 5) := ⟨⟨by decide +kernel, by decide +kernel⟩, List.mem_of_getElem? (i := 72) (by decide +kernel), List.mem_of_getElem? (i := 763) (by decide +kernel), List.mem_of_getElem? (i := 764) (by decide +kernel)⟩
theorem lw_p10 : lw_okq (⟨"AccentHouse$Parser", "readKnownName", "()LAccentHouse$Lodger;"⟩, 5) := ⟨⟨by decide +kernel, by decide +kernel⟩, List.mem_of_getElem? (i := 72) (by decide +kernel), List.mem_of_getElem? (i := 767) (by decide +kernel), List.mem_of_getElem? (i := 768) (by decide +kernel)⟩
theorem lw_p11 : lw_okq (⟨"AccentHouse$Parser", "readMove", "()V"⟩, 5) := ⟨⟨by decide +kernel, by decide +kernel⟩, List.mem_of_getElem? (i := 72) (by decide +kernel), List.mem_of_getElem? (i := 776) (by decide +kernel), List.mem_of_getElem? (i := 777) (by decide +kernel)⟩
theorem lw_p12 : lw_okq (⟨"AccentHouse$Parser", "readDays", "()V"⟩, 5) := ⟨⟨by decide +kernel, by decide +kernel⟩, List.mem_of_getElem? (i := 72) (by decide +kernel), List.mem_of_getElem? (i := 781) (by decide +kernel), List.mem_of_getElem? (i := 782) (by decide +kernel)⟩
theorem lw_p13 : lw_okq (⟨"AccentHouse$House", "collectRent", "()V"⟩, 11) := ⟨⟨by decide +kernel, by decide +kernel⟩, List.mem_of_getElem? (i := 78) (by decide +kernel), List.mem_of_getElem? (i := 789) (by decide +kernel), List.mem_of_getElem? (i := 790) (by decide +kernel)⟩
theorem lw_p14 : lw_okq (⟨"AccentHouse$House", "giveLessons", "()V"⟩, 11) := ⟨⟨by decide +kernel, by decide +kernel⟩, List.mem_of_getElem? (i := 78) (by decide +kernel), List.mem_of_getElem? (i := 797) (by decide +kernel), List.mem_of_getElem? (i := 798) (by decide +kernel)⟩
theorem lw_p15 : lw_okq (⟨"AccentHouse$House", "serveDinner", "(I)V"⟩, 11) := ⟨⟨by decide +kernel, by decide +kernel⟩, List.mem_of_getElem? (i := 78) (by decide +kernel), List.mem_of_getElem? (i := 809) (by decide +kernel), List.mem_of_getElem? (i := 810) (by decide +kernel)⟩
def lw_privs_1 : List (MethodName × Nat) := [(⟨"AccentHouse$Parser", "readHeader", "()V"⟩, 5), (⟨"AccentHouse$Parser", "expectWord", "(Ljava/lang/String;)V"⟩, 5), (⟨"AccentHouse$Parser", "fail", "(II)V"⟩, 5), (⟨"AccentHouse$Parser", "readNumber", "(II)I"⟩, 5), (⟨"AccentHouse$Parser", "readAccent", "()I"⟩, 5), (⟨"AccentHouse$Parser", "readLodger", "()V"⟩, 5), (⟨"AccentHouse$Parser", "isAtName", "()Z"⟩, 5), (⟨"java/lang/Throwable", "fillInStackTrace", "(I)Ljava/lang/Throwable;"⟩, 6), (⟨"AccentHouse$Parser", "readFloor", "(LAccentHouse$Lodger;)I"⟩, 5), (⟨"AccentHouse$Parser", "readPay", "()V"⟩, 5), (⟨"AccentHouse$Parser", "readKnownName", "()LAccentHouse$Lodger;"⟩, 5), (⟨"AccentHouse$Parser", "readMove", "()V"⟩, 5), (⟨"AccentHouse$Parser", "readDays", "()V"⟩, 5), (⟨"AccentHouse$House", "collectRent", "()V"⟩, 11), (⟨"AccentHouse$House", "giveLessons", "()V"⟩, 11), (⟨"AccentHouse$House", "serveDinner", "(I)V"⟩, 11)]
theorem lw_r1 : ∀ q ∈ lw_privs_1, lw_okq q := List.forall_mem_cons.mpr ⟨lw_p0, List.forall_mem_cons.mpr ⟨lw_p1, List.forall_mem_cons.mpr ⟨lw_p2, List.forall_mem_cons.mpr ⟨lw_p3, List.forall_mem_cons.mpr ⟨lw_p4, List.forall_mem_cons.mpr ⟨lw_p5, List.forall_mem_cons.mpr ⟨lw_p6, List.forall_mem_cons.mpr ⟨lw_p7, List.forall_mem_cons.mpr ⟨lw_p8, List.forall_mem_cons.mpr ⟨lw_p9, List.forall_mem_cons.mpr ⟨lw_p10, List.forall_mem_cons.mpr ⟨lw_p11, List.forall_mem_cons.mpr ⟨lw_p12, List.forall_mem_cons.mpr ⟨lw_p13, List.forall_mem_cons.mpr ⟨lw_p14, List.forall_mem_cons.mpr ⟨lw_p15, fun _ h => absurd h List.not_mem_nil⟩⟩⟩⟩⟩⟩⟩⟩⟩⟩⟩⟩⟩⟩⟩⟩
theorem lw_p16 : lw_okq (⟨"AccentHouse$House", "inspect", "()V"⟩, 11) := ⟨⟨by decide +kernel, by decide +kernel⟩, List.mem_of_getElem? (i := 78) (by decide +kernel), List.mem_of_getElem? (i := 825) (by decide +kernel), List.mem_of_getElem? (i := 826) (by decide +kernel)⟩
theorem lw_p17 : lw_okq (⟨"AccentHouse", "appendWord", "(I)V"⟩, 11) := ⟨⟨by decide +kernel, by decide +kernel⟩, List.mem_of_getElem? (i := 31) (by decide +kernel), List.mem_of_getElem? (i := 985) (by decide +kernel), List.mem_of_getElem? (i := 986) (by decide +kernel)⟩
theorem lw_p18 : lw_okq (⟨"AccentHouse", "requireFloor", "(I)V"⟩, 11) := ⟨⟨by decide +kernel, by decide +kernel⟩, List.mem_of_getElem? (i := 31) (by decide +kernel), List.mem_of_getElem? (i := 1025) (by decide +kernel), List.mem_of_getElem? (i := 1026) (by decide +kernel)⟩
theorem lw_p19 : lw_okq (⟨"AccentHouse", "requireVowel", "(I)V"⟩, 11) := ⟨⟨by decide +kernel, by decide +kernel⟩, List.mem_of_getElem? (i := 31) (by decide +kernel), List.mem_of_getElem? (i := 1038) (by decide +kernel), List.mem_of_getElem? (i := 1039) (by decide +kernel)⟩
theorem lw_p20 : lw_okq (⟨"AccentHouse", "requireLodger", "(I)LAccentHouse$Lodger;"⟩, 11) := ⟨⟨by decide +kernel, by decide +kernel⟩, List.mem_of_getElem? (i := 31) (by decide +kernel), List.mem_of_getElem? (i := 1050) (by decide +kernel), List.mem_of_getElem? (i := 1051) (by decide +kernel)⟩
theorem lw_p21 : lw_okq (⟨"AccentHouse", "requireRange", "(III)V"⟩, 11) := ⟨⟨by decide +kernel, by decide +kernel⟩, List.mem_of_getElem? (i := 31) (by decide +kernel), List.mem_of_getElem? (i := 1207) (by decide +kernel), List.mem_of_getElem? (i := 1208) (by decide +kernel)⟩
theorem lw_p22 : lw_okq (⟨"AccentHouse", "startTrial", "(I)LAccentHouse$Lodger;"⟩, 11) := ⟨⟨by decide +kernel, by decide +kernel⟩, List.mem_of_getElem? (i := 31) (by decide +kernel), List.mem_of_getElem? (i := 1212) (by decide +kernel), List.mem_of_getElem? (i := 1213) (by decide +kernel)⟩
theorem lw_p23 : lw_okq (⟨"AccentHouse", "runTrial", "(LAccentHouse$Lodger;I)I"⟩, 11) := ⟨⟨by decide +kernel, by decide +kernel⟩, List.mem_of_getElem? (i := 31) (by decide +kernel), List.mem_of_getElem? (i := 1216) (by decide +kernel), List.mem_of_getElem? (i := 1217) (by decide +kernel)⟩
theorem lw_p24 : lw_okq (⟨"AccentHouse", "staysWith", "(II)Z"⟩, 11) := ⟨⟨by decide +kernel, by decide +kernel⟩, List.mem_of_getElem? (i := 31) (by decide +kernel), List.mem_of_getElem? (i := 1246) (by decide +kernel), List.mem_of_getElem? (i := 1247) (by decide +kernel)⟩
theorem lw_p25 : lw_okq (⟨"AccentHouse", "requirePlace", "(ILAccentHouse$Lodger;)V"⟩, 11) := ⟨⟨by decide +kernel, by decide +kernel⟩, List.mem_of_getElem? (i := 31) (by decide +kernel), List.mem_of_getElem? (i := 1273) (by decide +kernel), List.mem_of_getElem? (i := 1274) (by decide +kernel)⟩
theorem lw_p26 : lw_okq (⟨"AccentHouse$House", "hasLetterName", "(C)Z"⟩, 11) := ⟨⟨by decide +kernel, by decide +kernel⟩, List.mem_of_getElem? (i := 78) (by decide +kernel), List.mem_of_getElem? (i := 1286) (by decide +kernel), List.mem_of_getElem? (i := 1287) (by decide +kernel)⟩
theorem lw_p27 : lw_okq (⟨"AccentHouse", "requireSlot", "(I)V"⟩, 11) := ⟨⟨by decide +kernel, by decide +kernel⟩, List.mem_of_getElem? (i := 31) (by decide +kernel), List.mem_of_getElem? (i := 1367) (by decide +kernel), List.mem_of_getElem? (i := 1368) (by decide +kernel)⟩
theorem lw_p28 : lw_okq (⟨"AccentHouseModel", "comes", "(III)V"⟩, 26) := ⟨⟨by decide +kernel, by decide +kernel⟩, List.mem_of_getElem? (i := 1429) (by decide +kernel), List.mem_of_getElem? (i := 1438) (by decide +kernel), List.mem_of_getElem? (i := 1439) (by decide +kernel)⟩
theorem lw_p29 : lw_okq (⟨"AccentHouseModel", "passesDay", "()V"⟩, 26) := ⟨⟨by decide +kernel, by decide +kernel⟩, List.mem_of_getElem? (i := 1429) (by decide +kernel), List.mem_of_getElem? (i := 1445) (by decide +kernel), List.mem_of_getElem? (i := 1446) (by decide +kernel)⟩
theorem lw_p30 : lw_okq (⟨"AccentHouseModel", "charges", "(I)V"⟩, 26) := ⟨⟨by decide +kernel, by decide +kernel⟩, List.mem_of_getElem? (i := 1429) (by decide +kernel), List.mem_of_getElem? (i := 1449) (by decide +kernel), List.mem_of_getElem? (i := 1450) (by decide +kernel)⟩
theorem lw_p31 : lw_okq (⟨"AccentHouseModel", "rentAt", "(I)I"⟩, 26) := ⟨⟨by decide +kernel, by decide +kernel⟩, List.mem_of_getElem? (i := 1429) (by decide +kernel), List.mem_of_getElem? (i := 1453) (by decide +kernel), List.mem_of_getElem? (i := 1454) (by decide +kernel)⟩
def lw_privs_2 : List (MethodName × Nat) := [(⟨"AccentHouse$House", "inspect", "()V"⟩, 11), (⟨"AccentHouse", "appendWord", "(I)V"⟩, 11), (⟨"AccentHouse", "requireFloor", "(I)V"⟩, 11), (⟨"AccentHouse", "requireVowel", "(I)V"⟩, 11), (⟨"AccentHouse", "requireLodger", "(I)LAccentHouse$Lodger;"⟩, 11), (⟨"AccentHouse", "requireRange", "(III)V"⟩, 11), (⟨"AccentHouse", "startTrial", "(I)LAccentHouse$Lodger;"⟩, 11), (⟨"AccentHouse", "runTrial", "(LAccentHouse$Lodger;I)I"⟩, 11), (⟨"AccentHouse", "staysWith", "(II)Z"⟩, 11), (⟨"AccentHouse", "requirePlace", "(ILAccentHouse$Lodger;)V"⟩, 11), (⟨"AccentHouse$House", "hasLetterName", "(C)Z"⟩, 11), (⟨"AccentHouse", "requireSlot", "(I)V"⟩, 11), (⟨"AccentHouseModel", "comes", "(III)V"⟩, 26), (⟨"AccentHouseModel", "passesDay", "()V"⟩, 26), (⟨"AccentHouseModel", "charges", "(I)V"⟩, 26), (⟨"AccentHouseModel", "rentAt", "(I)I"⟩, 26)]
theorem lw_r2 : ∀ q ∈ lw_privs_2, lw_okq q := List.forall_mem_cons.mpr ⟨lw_p16, List.forall_mem_cons.mpr ⟨lw_p17, List.forall_mem_cons.mpr ⟨lw_p18, List.forall_mem_cons.mpr ⟨lw_p19, List.forall_mem_cons.mpr ⟨lw_p20, List.forall_mem_cons.mpr ⟨lw_p21, List.forall_mem_cons.mpr ⟨lw_p22, List.forall_mem_cons.mpr ⟨lw_p23, List.forall_mem_cons.mpr ⟨lw_p24, List.forall_mem_cons.mpr ⟨lw_p25, List.forall_mem_cons.mpr ⟨lw_p26, List.forall_mem_cons.mpr ⟨lw_p27, List.forall_mem_cons.mpr ⟨lw_p28, List.forall_mem_cons.mpr ⟨lw_p29, List.forall_mem_cons.mpr ⟨lw_p30, List.forall_mem_cons.mpr ⟨lw_p31, fun _ h => absurd h List.not_mem_nil⟩⟩⟩⟩⟩⟩⟩⟩⟩⟩⟩⟩⟩⟩⟩⟩
theorem lw_p32 : lw_okq (⟨"AccentHouseModel", "teaches", "(I)V"⟩, 26) := ⟨⟨by decide +kernel, by decide +kernel⟩, List.mem_of_getElem? (i := 1429) (by decide +kernel), List.mem_of_getElem? (i := 1457) (by decide +kernel), List.mem_of_getElem? (i := 1458) (by decide +kernel)⟩
theorem lw_p33 : lw_okq (⟨"AccentHouseModel", "lessonFor", "(I)I"⟩, 26) := ⟨⟨by decide +kernel, by decide +kernel⟩, List.mem_of_getElem? (i := 1429) (by decide +kernel), List.mem_of_getElem? (i := 1461) (by decide +kernel), List.mem_of_getElem? (i := 1462) (by decide +kernel)⟩
theorem lw_p34 : lw_okq (⟨"AccentHouseModel", "at", "(II)I"⟩, 26) := ⟨⟨by decide +kernel, by decide +kernel⟩, List.mem_of_getElem? (i := 1429) (by decide +kernel), List.mem_of_getElem? (i := 1465) (by decide +kernel), List.mem_of_getElem? (i := 1466) (by decide +kernel)⟩
theorem lw_p35 : lw_okq (⟨"AccentHouseModel", "moves", "(III)V"⟩, 26) := ⟨⟨by decide +kernel, by decide +kernel⟩, List.mem_of_getElem? (i := 1429) (by decide +kernel), List.mem_of_getElem? (i := 1472) (by decide +kernel), List.mem_of_getElem? (i := 1473) (by decide +kernel)⟩
theorem lw_p36 : lw_okq (⟨"AccentHouseModel", "averagesNow", "()V"⟩, 26) := ⟨⟨by decide +kernel, by decide +kernel⟩, List.mem_of_getElem? (i := 1429) (by decide +kernel), List.mem_of_getElem? (i := 1476) (by decide +kernel), List.mem_of_getElem? (i := 1477) (by decide +kernel)⟩
theorem lw_p37 : lw_okq (⟨"AccentHouseModel", "livingOn", "(II)I"⟩, 26) := ⟨⟨by decide +kernel, by decide +kernel⟩, List.mem_of_getElem? (i := 1429) (by decide +kernel), List.mem_of_getElem? (i := 1480) (by decide +kernel), List.mem_of_getElem? (i := 1481) (by decide +kernel)⟩
theorem lw_p38 : lw_okq (⟨"AccentHouseModel", "averageAt", "(II)I"⟩, 26) := ⟨⟨by decide +kernel, by decide +kernel⟩, List.mem_of_getElem? (i := 1429) (by decide +kernel), List.mem_of_getElem? (i := 1484) (by decide +kernel), List.mem_of_getElem? (i := 1485) (by decide +kernel)⟩
theorem lw_p39 : lw_okq (⟨"AccentHouseModel", "dines", "(I)V"⟩, 26) := ⟨⟨by decide +kernel, by decide +kernel⟩, List.mem_of_getElem? (i := 1429) (by decide +kernel), List.mem_of_getElem? (i := 1488) (by decide +kernel), List.mem_of_getElem? (i := 1489) (by decide +kernel)⟩
theorem lw_p40 : lw_okq (⟨"AccentHouseModel", "slipFor", "(I)I"⟩, 26) := ⟨⟨by decide +kernel, by decide +kernel⟩, List.mem_of_getElem? (i := 1429) (by decide +kernel), List.mem_of_getElem? (i := 1492) (by decide +kernel), List.mem_of_getElem? (i := 1493) (by decide +kernel)⟩
theorem lw_p41 : lw_okq (⟨"AccentHouseModel", "inspects", "()V"⟩, 26) := ⟨⟨by decide +kernel, by decide +kernel⟩, List.mem_of_getElem? (i := 1429) (by decide +kernel), List.mem_of_getElem? (i := 1496) (by decide +kernel), List.mem_of_getElem? (i := 1497) (by decide +kernel)⟩
theorem lw_p42 : lw_okq (⟨"AccentHouseModel", "hasToGo", "(I)Z"⟩, 26) := ⟨⟨by decide +kernel, by decide +kernel⟩, List.mem_of_getElem? (i := 1429) (by decide +kernel), List.mem_of_getElem? (i := 1500) (by decide +kernel), List.mem_of_getElem? (i := 1501) (by decide +kernel)⟩
theorem lw_p43 : lw_okq (⟨"AccentHouseModel", "toLandlady", "(I)I"⟩, 26) := ⟨⟨by decide +kernel, by decide +kernel⟩, List.mem_of_getElem? (i := 1429) (by decide +kernel), List.mem_of_getElem? (i := 1504) (by decide +kernel), List.mem_of_getElem? (i := 1505) (by decide +kernel)⟩
theorem lw_p44 : lw_okq (⟨"AccentHouseModel", "rhymesHer", "(I)Z"⟩, 26) := ⟨⟨by decide +kernel, by decide +kernel⟩, List.mem_of_getElem? (i := 1429) (by decide +kernel), List.mem_of_getElem? (i := 1508) (by decide +kernel), List.mem_of_getElem? (i := 1509) (by decide +kernel)⟩
theorem lw_p45 : lw_okq (⟨"AccentHouseModel", "goes", "(I)V"⟩, 26) := ⟨⟨by decide +kernel, by decide +kernel⟩, List.mem_of_getElem? (i := 1429) (by decide +kernel), List.mem_of_getElem? (i := 1512) (by decide +kernel), List.mem_of_getElem? (i := 1513) (by decide +kernel)⟩
theorem lw_p46 : lw_okq (⟨"AccentHouseModel", "refuse", "(I)I"⟩, 26) := ⟨⟨by decide +kernel, by decide +kernel⟩, List.mem_of_getElem? (i := 1429) (by decide +kernel), List.mem_of_getElem? (i := 1604) (by decide +kernel), List.mem_of_getElem? (i := 1605) (by decide +kernel)⟩
theorem lw_p47 : lw_okq (⟨"AccentHouseModel", "feeds", "(I)V"⟩, 26) := ⟨⟨by decide +kernel, by decide +kernel⟩, List.mem_of_getElem? (i := 1429) (by decide +kernel), List.mem_of_getElem? (i := 1608) (by decide +kernel), List.mem_of_getElem? (i := 1609) (by decide +kernel)⟩
def lw_privs_3 : List (MethodName × Nat) := [(⟨"AccentHouseModel", "teaches", "(I)V"⟩, 26), (⟨"AccentHouseModel", "lessonFor", "(I)I"⟩, 26), (⟨"AccentHouseModel", "at", "(II)I"⟩, 26), (⟨"AccentHouseModel", "moves", "(III)V"⟩, 26), (⟨"AccentHouseModel", "averagesNow", "()V"⟩, 26), (⟨"AccentHouseModel", "livingOn", "(II)I"⟩, 26), (⟨"AccentHouseModel", "averageAt", "(II)I"⟩, 26), (⟨"AccentHouseModel", "dines", "(I)V"⟩, 26), (⟨"AccentHouseModel", "slipFor", "(I)I"⟩, 26), (⟨"AccentHouseModel", "inspects", "()V"⟩, 26), (⟨"AccentHouseModel", "hasToGo", "(I)Z"⟩, 26), (⟨"AccentHouseModel", "toLandlady", "(I)I"⟩, 26), (⟨"AccentHouseModel", "rhymesHer", "(I)Z"⟩, 26), (⟨"AccentHouseModel", "goes", "(I)V"⟩, 26), (⟨"AccentHouseModel", "refuse", "(I)I"⟩, 26), (⟨"AccentHouseModel", "feeds", "(I)V"⟩, 26)]
theorem lw_r3 : ∀ q ∈ lw_privs_3, lw_okq q := List.forall_mem_cons.mpr ⟨lw_p32, List.forall_mem_cons.mpr ⟨lw_p33, List.forall_mem_cons.mpr ⟨lw_p34, List.forall_mem_cons.mpr ⟨lw_p35, List.forall_mem_cons.mpr ⟨lw_p36, List.forall_mem_cons.mpr ⟨lw_p37, List.forall_mem_cons.mpr ⟨lw_p38, List.forall_mem_cons.mpr ⟨lw_p39, List.forall_mem_cons.mpr ⟨lw_p40, List.forall_mem_cons.mpr ⟨lw_p41, List.forall_mem_cons.mpr ⟨lw_p42, List.forall_mem_cons.mpr ⟨lw_p43, List.forall_mem_cons.mpr ⟨lw_p44, List.forall_mem_cons.mpr ⟨lw_p45, List.forall_mem_cons.mpr ⟨lw_p46, List.forall_mem_cons.mpr ⟨lw_p47, fun _ h => absurd h List.not_mem_nil⟩⟩⟩⟩⟩⟩⟩⟩⟩⟩⟩⟩⟩⟩⟩⟩
theorem lw_p48 : lw_okq (⟨"AccentHouseModel", "told", "(I)I"⟩, 26) := ⟨⟨by decide +kernel, by decide +kernel⟩, List.mem_of_getElem? (i := 1429) (by decide +kernel), List.mem_of_getElem? (i := 1612) (by decide +kernel), List.mem_of_getElem? (i := 1613) (by decide +kernel)⟩
theorem lw_p49 : lw_okq (⟨"AccentHouseModel", "putsAside", "()V"⟩, 26) := ⟨⟨by decide +kernel, by decide +kernel⟩, List.mem_of_getElem? (i := 1429) (by decide +kernel), List.mem_of_getElem? (i := 1623) (by decide +kernel), List.mem_of_getElem? (i := 1624) (by decide +kernel)⟩
theorem lw_p50 : lw_okq (⟨"AccentHouseModel", "readsText", "(I)V"⟩, 26) := ⟨⟨by decide +kernel, by decide +kernel⟩, List.mem_of_getElem? (i := 1429) (by decide +kernel), List.mem_of_getElem? (i := 1627) (by decide +kernel), List.mem_of_getElem? (i := 1628) (by decide +kernel)⟩
theorem lw_p51 : lw_okq (⟨"AccentHouseModel", "next", "()V"⟩, 26) := ⟨⟨by decide +kernel, by decide +kernel⟩, List.mem_of_getElem? (i := 1429) (by decide +kernel), List.mem_of_getElem? (i := 1631) (by decide +kernel), List.mem_of_getElem? (i := 1632) (by decide +kernel)⟩
theorem lw_p52 : lw_okq (⟨"AccentHouseModel", "takesWord", "(I)V"⟩, 26) := ⟨⟨by decide +kernel, by decide +kernel⟩, List.mem_of_getElem? (i := 1429) (by decide +kernel), List.mem_of_getElem? (i := 1641) (by decide +kernel), List.mem_of_getElem? (i := 1642) (by decide +kernel)⟩
theorem lw_p53 : lw_okq (⟨"AccentHouseModel", "isKey", "(I)Z"⟩, 26) := ⟨⟨by decide +kernel, by decide +kernel⟩, List.mem_of_getElem? (i := 1429) (by decide +kernel), List.mem_of_getElem? (i := 1645) (by decide +kernel), List.mem_of_getElem? (i := 1646) (by decide +kernel)⟩
theorem lw_p54 : lw_okq (⟨"AccentHouseModel", "errs", "(I)V"⟩, 26) := ⟨⟨by decide +kernel, by decide +kernel⟩, List.mem_of_getElem? (i := 1429) (by decide +kernel), List.mem_of_getElem? (i := 1649) (by decide +kernel), List.mem_of_getElem? (i := 1650) (by decide +kernel)⟩
theorem lw_p55 : lw_okq (⟨"AccentHouseModel", "goesOn", "()V"⟩, 26) := ⟨⟨by decide +kernel, by decide +kernel⟩, List.mem_of_getElem? (i := 1429) (by decide +kernel), List.mem_of_getElem? (i := 1653) (by decide +kernel), List.mem_of_getElem? (i := 1654) (by decide +kernel)⟩
theorem lw_p56 : lw_okq (⟨"AccentHouseModel", "takesNumber", "(II)I"⟩, 26) := ⟨⟨by decide +kernel, by decide +kernel⟩, List.mem_of_getElem? (i := 1429) (by decide +kernel), List.mem_of_getElem? (i := 1657) (by decide +kernel), List.mem_of_getElem? (i := 1658) (by decide +kernel)⟩
theorem lw_p57 : lw_okq (⟨"AccentHouseModel", "here", "(II)I"⟩, 26) := ⟨⟨by decide +kernel, by decide +kernel⟩, List.mem_of_getElem? (i := 1429) (by decide +kernel), List.mem_of_getElem? (i := 1661) (by decide +kernel), List.mem_of_getElem? (i := 1662) (by decide +kernel)⟩
theorem lw_p58 : lw_okq (⟨"AccentHouseModel", "takesSemicolon", "()V"⟩, 26) := ⟨⟨by decide +kernel, by decide +kernel⟩, List.mem_of_getElem? (i := 1429) (by decide +kernel), List.mem_of_getElem? (i := 1665) (by decide +kernel), List.mem_of_getElem? (i := 1666) (by decide +kernel)⟩
theorem lw_p59 : lw_okq (⟨"AccentHouseModel", "readsLine", "()V"⟩, 26) := ⟨⟨by decide +kernel, by decide +kernel⟩, List.mem_of_getElem? (i := 1429) (by decide +kernel), List.mem_of_getElem? (i := 1669) (by decide +kernel), List.mem_of_getElem? (i := 1670) (by decide +kernel)⟩
theorem lw_p60 : lw_okq (⟨"AccentHouseModel", "readsLodger", "()V"⟩, 26) := ⟨⟨by decide +kernel, by decide +kernel⟩, List.mem_of_getElem? (i := 1429) (by decide +kernel), List.mem_of_getElem? (i := 1673) (by decide +kernel), List.mem_of_getElem? (i := 1674) (by decide +kernel)⟩
theorem lw_p61 : lw_okq (⟨"AccentHouseModel", "isName", "()V"⟩, 26) := ⟨⟨by decide +kernel, by decide +kernel⟩, List.mem_of_getElem? (i := 1429) (by decide +kernel), List.mem_of_getElem? (i := 1677) (by decide +kernel), List.mem_of_getElem? (i := 1678) (by decide +kernel)⟩
theorem lw_p62 : lw_okq (⟨"AccentHouseModel", "lodgerNamed", "(II)I"⟩, 26) := ⟨⟨by decide +kernel, by decide +kernel⟩, List.mem_of_getElem? (i := 1429) (by decide +kernel), List.mem_of_getElem? (i := 1681) (by decide +kernel), List.mem_of_getElem? (i := 1682) (by decide +kernel)⟩
theorem lw_p63 : lw_okq (⟨"AccentHouseModel", "takesAccent", "()I"⟩, 26) := ⟨⟨by decide +kernel, by decide +kernel⟩, List.mem_of_getElem? (i := 1429) (by decide +kernel), List.mem_of_getElem? (i := 1685) (by decide +kernel), List.mem_of_getElem? (i := 1686) (by decide +kernel)⟩
def lw_privs_4 : List (MethodName × Nat) := [(⟨"AccentHouseModel", "told", "(I)I"⟩, 26), (⟨"AccentHouseModel", "putsAside", "()V"⟩, 26), (⟨"AccentHouseModel", "readsText", "(I)V"⟩, 26), (⟨"AccentHouseModel", "next", "()V"⟩, 26), (⟨"AccentHouseModel", "takesWord", "(I)V"⟩, 26), (⟨"AccentHouseModel", "isKey", "(I)Z"⟩, 26), (⟨"AccentHouseModel", "errs", "(I)V"⟩, 26), (⟨"AccentHouseModel", "goesOn", "()V"⟩, 26), (⟨"AccentHouseModel", "takesNumber", "(II)I"⟩, 26), (⟨"AccentHouseModel", "here", "(II)I"⟩, 26), (⟨"AccentHouseModel", "takesSemicolon", "()V"⟩, 26), (⟨"AccentHouseModel", "readsLine", "()V"⟩, 26), (⟨"AccentHouseModel", "readsLodger", "()V"⟩, 26), (⟨"AccentHouseModel", "isName", "()V"⟩, 26), (⟨"AccentHouseModel", "lodgerNamed", "(II)I"⟩, 26), (⟨"AccentHouseModel", "takesAccent", "()I"⟩, 26)]
theorem lw_r4 : ∀ q ∈ lw_privs_4, lw_okq q := List.forall_mem_cons.mpr ⟨lw_p48, List.forall_mem_cons.mpr ⟨lw_p49, List.forall_mem_cons.mpr ⟨lw_p50, List.forall_mem_cons.mpr ⟨lw_p51, List.forall_mem_cons.mpr ⟨lw_p52, List.forall_mem_cons.mpr ⟨lw_p53, List.forall_mem_cons.mpr ⟨lw_p54, List.forall_mem_cons.mpr ⟨lw_p55, List.forall_mem_cons.mpr ⟨lw_p56, List.forall_mem_cons.mpr ⟨lw_p57, List.forall_mem_cons.mpr ⟨lw_p58, List.forall_mem_cons.mpr ⟨lw_p59, List.forall_mem_cons.mpr ⟨lw_p60, List.forall_mem_cons.mpr ⟨lw_p61, List.forall_mem_cons.mpr ⟨lw_p62, List.forall_mem_cons.mpr ⟨lw_p63, fun _ h => absurd h List.not_mem_nil⟩⟩⟩⟩⟩⟩⟩⟩⟩⟩⟩⟩⟩⟩⟩⟩
theorem lw_p64 : lw_okq (⟨"AccentHouseModel", "readsPay", "()V"⟩, 26) := ⟨⟨by decide +kernel, by decide +kernel⟩, List.mem_of_getElem? (i := 1429) (by decide +kernel), List.mem_of_getElem? (i := 1689) (by decide +kernel), List.mem_of_getElem? (i := 1690) (by decide +kernel)⟩
theorem lw_p65 : lw_okq (⟨"AccentHouseModel", "takesLodger", "()I"⟩, 26) := ⟨⟨by decide +kernel, by decide +kernel⟩, List.mem_of_getElem? (i := 1429) (by decide +kernel), List.mem_of_getElem? (i := 1693) (by decide +kernel), List.mem_of_getElem? (i := 1694) (by decide +kernel)⟩
theorem lw_p66 : lw_okq (⟨"AccentHouseModel", "pays", "(II)V"⟩, 26) := ⟨⟨by decide +kernel, by decide +kernel⟩, List.mem_of_getElem? (i := 1429) (by decide +kernel), List.mem_of_getElem? (i := 1697) (by decide +kernel), List.mem_of_getElem? (i := 1698) (by decide +kernel)⟩
theorem lw_p67 : lw_okq (⟨"AccentHouseModel", "readsMove", "()V"⟩, 26) := ⟨⟨by decide +kernel, by decide +kernel⟩, List.mem_of_getElem? (i := 1429) (by decide +kernel), List.mem_of_getElem? (i := 1701) (by decide +kernel), List.mem_of_getElem? (i := 1702) (by decide +kernel)⟩
theorem lw_p68 : lw_okq (⟨"AccentHouseModel", "passes", "(I)V"⟩, 26) := ⟨⟨by decide +kernel, by decide +kernel⟩, List.mem_of_getElem? (i := 1429) (by decide +kernel), List.mem_of_getElem? (i := 1705) (by decide +kernel), List.mem_of_getElem? (i := 1706) (by decide +kernel)⟩
theorem lw_p69 : lw_okq (⟨"AccentHouseModel", "putsBack", "()V"⟩, 26) := ⟨⟨by decide +kernel, by decide +kernel⟩, List.mem_of_getElem? (i := 1429) (by decide +kernel), List.mem_of_getElem? (i := 1709) (by decide +kernel), List.mem_of_getElem? (i := 1710) (by decide +kernel)⟩
theorem lw_p70 : lw_okq (⟨"AccentHouseModel", "daysLeft", "()I"⟩, 26) := ⟨⟨by decide +kernel, by decide +kernel⟩, List.mem_of_getElem? (i := 1429) (by decide +kernel), List.mem_of_getElem? (i := 1755) (by decide +kernel), List.mem_of_getElem? (i := 1756) (by decide +kernel)⟩
theorem lw_p71 : lw_okq (⟨"AccentHouseModel", "ofLodger", "(II)I"⟩, 26) := ⟨⟨by decide +kernel, by decide +kernel⟩, List.mem_of_getElem? (i := 1429) (by decide +kernel), List.mem_of_getElem? (i := 1771) (by decide +kernel), List.mem_of_getElem? (i := 1772) (by decide +kernel)⟩
theorem lw_p72 : lw_okq (⟨"AccentHouseModel", "isLodger", "(I)Z"⟩, 26) := ⟨⟨by decide +kernel, by decide +kernel⟩, List.mem_of_getElem? (i := 1429) (by decide +kernel), List.mem_of_getElem? (i := 1775) (by decide +kernel), List.mem_of_getElem? (i := 1776) (by decide +kernel)⟩
theorem lw_p73 : lw_okq (⟨"AccentHouseModel", "lettersOf", "(I)I"⟩, 26) := ⟨⟨by decide +kernel, by decide +kernel⟩, List.mem_of_getElem? (i := 1429) (by decide +kernel), List.mem_of_getElem? (i := 1803) (by decide +kernel), List.mem_of_getElem? (i := 1804) (by decide +kernel)⟩
theorem lw_p74 : lw_okq (⟨"AccentHouseModel", "between", "(II)I"⟩, 26) := ⟨⟨by decide +kernel, by decide +kernel⟩, List.mem_of_getElem? (i := 1429) (by decide +kernel), List.mem_of_getElem? (i := 1835) (by decide +kernel), List.mem_of_getElem? (i := 1836) (by decide +kernel)⟩
theorem lw_p75 : lw_okq (⟨"AccentHouseModel", "rhyme", "(II)Z"⟩, 26) := ⟨⟨by decide +kernel, by decide +kernel⟩, List.mem_of_getElem? (i := 1429) (by decide +kernel), List.mem_of_getElem? (i := 1843) (by decide +kernel), List.mem_of_getElem? (i := 1844) (by decide +kernel)⟩
theorem lw_p76 : lw_okq (⟨"AccentHouseModel", "says", "(Z)Z"⟩, 26) := ⟨⟨by decide +kernel, by decide +kernel⟩, List.mem_of_getElem? (i := 1429) (by decide +kernel), List.mem_of_getElem? (i := 1847) (by decide +kernel), List.mem_of_getElem? (i := 1848) (by decide +kernel)⟩
theorem lw_p77 : lw_okq (⟨"AccentHouseModel", "refuses", "()Z"⟩, 26) := ⟨⟨by decide +kernel, by decide +kernel⟩, List.mem_of_getElem? (i := 1429) (by decide +kernel), List.mem_of_getElem? (i := 1851) (by decide +kernel), List.mem_of_getElem? (i := 1852) (by decide +kernel)⟩
theorem lw_p78 : lw_okq (⟨"AccentHouseModel", "tracks", "(I)V"⟩, 26) := ⟨⟨by decide +kernel, by decide +kernel⟩, List.mem_of_getElem? (i := 1429) (by decide +kernel), List.mem_of_getElem? (i := 1891) (by decide +kernel), List.mem_of_getElem? (i := 1892) (by decide +kernel)⟩
theorem lw_p79 : lw_okq (⟨"AccentHouseModel", "staysWith", "(II)Z"⟩, 26) := ⟨⟨by decide +kernel, by decide +kernel⟩, List.mem_of_getElem? (i := 1429) (by decide +kernel), List.mem_of_getElem? (i := 1907) (by decide +kernel), List.mem_of_getElem? (i := 1908) (by decide +kernel)⟩
def lw_privs_5 : List (MethodName × Nat) := [(⟨"AccentHouseModel", "readsPay", "()V"⟩, 26), (⟨"AccentHouseModel", "takesLodger", "()I"⟩, 26), (⟨"AccentHouseModel", "pays", "(II)V"⟩, 26), (⟨"AccentHouseModel", "readsMove", "()V"⟩, 26), (⟨"AccentHouseModel", "passes", "(I)V"⟩, 26), (⟨"AccentHouseModel", "putsBack", "()V"⟩, 26), (⟨"AccentHouseModel", "daysLeft", "()I"⟩, 26), (⟨"AccentHouseModel", "ofLodger", "(II)I"⟩, 26), (⟨"AccentHouseModel", "isLodger", "(I)Z"⟩, 26), (⟨"AccentHouseModel", "lettersOf", "(I)I"⟩, 26), (⟨"AccentHouseModel", "between", "(II)I"⟩, 26), (⟨"AccentHouseModel", "rhyme", "(II)Z"⟩, 26), (⟨"AccentHouseModel", "says", "(Z)Z"⟩, 26), (⟨"AccentHouseModel", "refuses", "()Z"⟩, 26), (⟨"AccentHouseModel", "tracks", "(I)V"⟩, 26), (⟨"AccentHouseModel", "staysWith", "(II)Z"⟩, 26)]
theorem lw_r5 : ∀ q ∈ lw_privs_5, lw_okq q := List.forall_mem_cons.mpr ⟨lw_p64, List.forall_mem_cons.mpr ⟨lw_p65, List.forall_mem_cons.mpr ⟨lw_p66, List.forall_mem_cons.mpr ⟨lw_p67, List.forall_mem_cons.mpr ⟨lw_p68, List.forall_mem_cons.mpr ⟨lw_p69, List.forall_mem_cons.mpr ⟨lw_p70, List.forall_mem_cons.mpr ⟨lw_p71, List.forall_mem_cons.mpr ⟨lw_p72, List.forall_mem_cons.mpr ⟨lw_p73, List.forall_mem_cons.mpr ⟨lw_p74, List.forall_mem_cons.mpr ⟨lw_p75, List.forall_mem_cons.mpr ⟨lw_p76, List.forall_mem_cons.mpr ⟨lw_p77, List.forall_mem_cons.mpr ⟨lw_p78, List.forall_mem_cons.mpr ⟨lw_p79, fun _ h => absurd h List.not_mem_nil⟩⟩⟩⟩⟩⟩⟩⟩⟩⟩⟩⟩⟩⟩⟩⟩
theorem lw_p80 : lw_okq (⟨"AccentHouseModel", "remembers", "()V"⟩, 26) := ⟨⟨by decide +kernel, by decide +kernel⟩, List.mem_of_getElem? (i := 1429) (by decide +kernel), List.mem_of_getElem? (i := 1931) (by decide +kernel), List.mem_of_getElem? (i := 1932) (by decide +kernel)⟩
theorem lw_p81 : lw_okq (⟨"AccentHouseModel", "isTakenLetter", "(I)Z"⟩, 26) := ⟨⟨by decide +kernel, by decide +kernel⟩, List.mem_of_getElem? (i := 1429) (by decide +kernel), List.mem_of_getElem? (i := 1940) (by decide +kernel), List.mem_of_getElem? (i := 1941) (by decide +kernel)⟩
theorem lw_p82 : lw_okq (⟨"AccentHouseModel", "sets", "(II)I"⟩, 26) := ⟨⟨by decide +kernel, by decide +kernel⟩, List.mem_of_getElem? (i := 1429) (by decide +kernel), List.mem_of_getElem? (i := 1952) (by decide +kernel), List.mem_of_getElem? (i := 1953) (by decide +kernel)⟩
theorem lw_p83 : lw_okq (⟨"AccentHouseModel", "writesName", "(I)V"⟩, 26) := ⟨⟨by decide +kernel, by decide +kernel⟩, List.mem_of_getElem? (i := 1429) (by decide +kernel), List.mem_of_getElem? (i := 1988) (by decide +kernel), List.mem_of_getElem? (i := 1989) (by decide +kernel)⟩
theorem lw_p84 : lw_okq (⟨"AccentHouseModel", "writes", "(I)V"⟩, 26) := ⟨⟨by decide +kernel, by decide +kernel⟩, List.mem_of_getElem? (i := 1429) (by decide +kernel), List.mem_of_getElem? (i := 1992) (by decide +kernel), List.mem_of_getElem? (i := 1993) (by decide +kernel)⟩
theorem lw_p85 : lw_okq (⟨"AccentHouseModel", "writesNumber", "(I)V"⟩, 26) := ⟨⟨by decide +kernel, by decide +kernel⟩, List.mem_of_getElem? (i := 1429) (by decide +kernel), List.mem_of_getElem? (i := 1996) (by decide +kernel), List.mem_of_getElem? (i := 1997) (by decide +kernel)⟩
def lw_privs_6 : List (MethodName × Nat) := [(⟨"AccentHouseModel", "remembers", "()V"⟩, 26), (⟨"AccentHouseModel", "isTakenLetter", "(I)Z"⟩, 26), (⟨"AccentHouseModel", "sets", "(II)I"⟩, 26), (⟨"AccentHouseModel", "writesName", "(I)V"⟩, 26), (⟨"AccentHouseModel", "writes", "(I)V"⟩, 26), (⟨"AccentHouseModel", "writesNumber", "(I)V"⟩, 26)]
theorem lw_r6 : ∀ q ∈ lw_privs_6, lw_okq q := List.forall_mem_cons.mpr ⟨lw_p80, List.forall_mem_cons.mpr ⟨lw_p81, List.forall_mem_cons.mpr ⟨lw_p82, List.forall_mem_cons.mpr ⟨lw_p83, List.forall_mem_cons.mpr ⟨lw_p84, List.forall_mem_cons.mpr ⟨lw_p85, fun _ h => absurd h List.not_mem_nil⟩⟩⟩⟩⟩⟩
def lw_privs : List (MethodName × Nat) := lw_privs_1 ++ (lw_privs_2 ++ (lw_privs_3 ++ (lw_privs_4 ++ (lw_privs_5 ++ (lw_privs_6)))))
def lw_tbl : List Cond := k2_sels lw_privs ++ tables_1
theorem lw_privs_ok : ∀ q ∈ lw_privs, lw_okq q := by
  show ∀ q ∈ lw_privs_1 ++ (lw_privs_2 ++ (lw_privs_3 ++ (lw_privs_4 ++ (lw_privs_5 ++ (lw_privs_6))))), lw_okq q
  exact List.forall_mem_append.mpr ⟨lw_r1, List.forall_mem_append.mpr ⟨lw_r2, List.forall_mem_append.mpr ⟨lw_r3, List.forall_mem_append.mpr ⟨lw_r4, List.forall_mem_append.mpr ⟨lw_r5, lw_r6⟩⟩⟩⟩⟩
/-- the streams that the claim lets the run draw from -/
abbrev lw_cs : List Choice := [Jvm.Choice.named "NaN.bits"]
theorem lw_bits : nanBits ∈ lw_cs := by first | decide | exact List.mem_cons_self | simp [lw_cs, nanBits]
end
section
/-! ===== BEGIN words of one list among another's, by their places ===== -/
theorem goodIn_r {big : List Cond} (ws : List Cond) (ps : List Nat) (hp : ws = ps.filterMap (fun i => big[i]?)) (h : ws.all goodWord = true) : GoodIn big ws := by
  intro w hw
  have h1 := List.all_eq_true.mp h w hw
  rw [hp] at hw
  obtain ⟨i, -, hi⟩ := List.mem_filterMap.mp hw
  have hm : w ∈ big := by first | exact List.mem_of_getElem? hi | exact List.getElem?_mem hi
  exact ⟨hm, good_of_word h1⟩
theorem goodIn_app {big a b : List Cond} (ha : GoodIn big a) (hb : GoodIn big b) : GoodIn big (a ++ b) := fun w h => (List.mem_append.mp h).elim (ha w) (hb w)
theorem goodIn_ca {big a b : List Cond} {c : Cond} (ha : GoodIn big (c :: a)) (hb : GoodIn big b) : GoodIn big (c :: (a ++ b)) := fun w h => (List.mem_cons.mp h).elim (fun e => ha w (List.mem_cons.mpr (Or.inl e))) (fun h => (List.mem_append.mp h).elim (fun h => ha w (List.mem_cons.mpr (Or.inr h))) (hb w))
theorem goodIn_sub {big ws : List Cond} (hm : ∀ w ∈ ws, w ∈ big) (h : ws.all goodWord = true) : GoodIn big ws := fun w hw => ⟨hm w hw, good_of_word (List.all_eq_true.mp h w hw)⟩
/-! ===== END ===== -/

/-! ===== BEGIN exceptions that leave a method, and their catching by the caller (launches without stack traces) ===== -/
section VXA
/-! The laws vx_back, vx_callV, vx_callS, vx_callSW, vx_throw0, vx_throwS follow proofs of the library, with one case more: JvmDerived/Free/Laws.lean (Back.of_free), Shelf42/LK1.lean (callV, callS), Shelf/KitTraced.lean (throwNew0V, throwNewS). -/
/-- where a method has thrown q: the class by its name, the cell, what was written, the world -/
def vx_T (XC : String → State → State → Prop) (st : State) (q : Addr) (t : State) (mc ms : Nat) (free : Addr → Prop) : Prop :=
  ∃ (E : String) (ce : Cell) (L : List Loc), XC E st t ∧ t.heap[q]? = some ce ∧ ce.vm = .none ∧ st.vm.findClass E = some ce.cls ∧ st.WarmedH t.vm ∧ st.sameButNew ({ t with vm := st.vm } : State) L mc ms ∧ ∀ z ∈ L, free z.base
def vx_Q (Qc : Array Value → State → Outcome → State → Prop) (XC : String → State → State → Prop) (mc ms : Nat) (free : Addr → Prop) : Array Value → State → Outcome → State → Prop := fun a st o t =>
  (Qc a st o t ∧ ∃ L, FrameEnd st o t L mc ms ∧ ∀ q ∈ L, free q.base) ∨ ∃ q, o = .threw q ∧ vx_T XC st q t mc ms free
/-- a callee that returns or throws -/
def vx_Met (l : Launch) (y : MethodName) (ws : List Cond) (rm : Room) (Pc : Array Value → State → Prop) (Qc : Array Value → State → Outcome → State → Prop) (XC : String → State → State → Prop) (mc ms : Nat) (free : Addr → Prop) : Prop :=
  MetFree l y (headSpec ws rm) Pc (fun _ _ _ _ _ => True) (vx_Q Qc XC mc ms free)
def vx_Post (XC : String → State → State → Prop) (mc ms : Nat) (free : Addr → Prop) : Pt → Array Value → Addr → Pt → Prop := fun A a q B =>
  ∃ (g : JFrame) (mk : MethodId) (t : State) (L : List Loc) (E : String) (ce : Cell), B.U.heap = t.heap ∧ B.U.vm = t.vm ∧ XC E (A.U.calling g mk a) t ∧ t.heap[q]? = some ce ∧ ce.vm = .none ∧ A.U.vm.findClass E = some ce.cls ∧ B.locs = A.locs ++ L ∧ (∀ z ∈ L, free z.base) ∧ B.cells = A.cells + mc ∧ B.slots = A.slots + ms
def vx_Back (l : Launch) (R : Room) (p : Program) (e : Env) (below : List Frame) (s : State) (sargs : Array Value) (y : MethodName) (len W9 : Nat)
    (Pre : Pt → Array Value → Prop) (Post : Pt → Array Value → Option Value → Pt → Prop) (PostX : Pt → Array Value → Addr → Pt → Prop) : Prop :=
  ∀ (m : MethodId) (meth : Method) (c : Code) (A : Pt) (g : JFrame) (ig : Instr) (mk : MethodId) (a : Array Value),
    Stand p l e R s m sargs below meth c A.U A.locs A.cells A.slots → g.method = m → g.locals.size = c.maxLocals → decode c.code g.pc = .ok (ig, len) →
    2 * g.monitorRoom + (g.stack.map fun v => v.category).sum ≤ W9 → A.U.methodNamed? y = some mk → Pre A a →
    (∃ (v : Option Value) (B : Pt), Stand p l e R s m sargs below meth c B.U B.locs B.cells B.slots ∧ Post A a v B ∧
      Steps p.tables e below (doInvoke e (A.U.setTop g) [] mk a).1 (B.U.setTop { g with pc := g.pc + len, stack := v.toList ++ g.stack })) ∨
    (∃ (q : Addr) (B : Pt), Stand p l e R s m sargs below meth c B.U B.locs B.cells B.slots ∧ PostX A a q B ∧
      Steps p.tables e below (doInvoke e (A.U.setTop g) [] mk a).1 ((B.U.setTop g).pushFrame (.throwing q)))
section Payer
variable {l : Launch} {R : Room} {p : Program} {e : Env} {below : List Frame} {s : State} {sargs : Array Value} {y : MethodName} {len W9 : Nat}
theorem vx_back {ws : List Cond} {rm : Room} {Pc : Array Value → State → Prop} {Qc : Array Value → State → Outcome → State → Prop} {XC : String → State → State → Prop} {mc ms : Nat} {free : Addr → Prop} {bytes : ByteArray} {maxL : Nat} {ret : Option FieldType}
    (hM : vx_Met l y ws rm Pc Qc XC mc ms free) (hblind : FrameBlind Pc) (hrc : rm.cells = mc) (hrs : rm.slots = ms)
    (hframes : rm.frames + 1 ≤ R.frames) (hlocals : W9 + (maxL + 11) + rm.locals ≤ R.locals)
    (hws : ∀ w ∈ ws, ∀ a' U, s.WarmedH U.vm → w.before a' U = true) (hcode : Cond.code y bytes maxL ret ∈ ws) (hinit : ∀ a' U, s.WarmedH U.vm → (Cond.initialized y.cls).before a' U = true) :
    vx_Back l R p e below s sargs y len W9 (PreOf R mc ms Pc) (PostOf Qc mc ms free) (vx_Post XC mc ms free) := by
  intro m meth c A g ig mk a X hg hsize hdg hW hn hp
  have h1 : (headSpec ws rm).pre.before a A.U = true := atoms_intro fun w hw => hws w hw _ _ X.warmed
  have h2 : (Cond.code y bytes maxL ret).before a A.U = true := hws _ hcode _ _ X.warmed
  have h3 : (Cond.initialized y.cls).before a A.U = true := hinit _ _ X.warmed
  have h4 : A.cells + (headSpec ws rm).room.cells ≤ R.cells := by rw [show (headSpec ws rm).room.cells = mc from hrc]; exact hp.1
  have h5 : A.slots + (headSpec ws rm).room.slots ≤ R.slots := by rw [show (headSpec ws rm).room.slots = ms from hrs]; exact hp.2.1
  have hPc : Pc a (A.U.calling g mk a) := hblind _ _ _ _ hp.2.2
  obtain ⟨U, Ls, c0, s0⟩ := A
  dsimp only [Pt.U, Pt.locs, Pt.cells, Pt.slots] at h1 h2 h3 h4 h5 X hn hPc ⊢
  obtain ⟨methY, cY, hmY, hcY, -, hlY, -, -, -, -⟩ := Cond.code_spec hn h2
  obtain ⟨kY, hkY, -⟩ := className_of_methodNamed hn
  have hinitY : kY.init = .initialized := Cond.initialized_spec (findClass_of_methodNamed hn) hkY h3
  have h : At U g.method c below := by rw [hg]; exact X.here
  have hlocals9 : W9 + (maxL + 11) + (headSpec ws rm).room.locals ≤ R.locals := hlocals
  have happ : (headSpec ws rm).appliesLoose y e.platform (U.calling g mk a) = true :=
    Spec.appliesLoose_calling (g := g) h hdg hn hkY hinitY
      (X.room_calling (g := g) (R' := (headSpec ws rm).room) hsize hmY hcY hframes (by rw [hlY]; omega) h4 h5) h1
  obtain ⟨mid, hmid⟩ := h.above
  have hfr : (U.setTop g).frames = (.java g :: mid) ++ below := by rw [State.frames_setTop' g h.top, hmid]; rfl
  obtain ⟨o, s₂, hsteps, -, hend, hq⟩ := Steps.callFree hM p X.admits X.cas X.clock (acts := []) hfr happ hPc trivial
  have hq' : vx_Q Qc XC mc ms free a (U.calling g mk a) o s₂ := hq
  rw [State.frames_setTop' g h.top] at hend
  obtain ⟨g₀, hg0⟩ := Option.isSome_iff_exists.mp h.top
  obtain ⟨r, hr⟩ := State.topJava?_eq_some.mp hg0
  have hr' : (({ U with heap := s₂.heap, slotsUsed := s₂.slotsUsed } : State).setVm s₂.vm).frames = .java g₀ :: r := hr
  rcases hq' with ⟨hqc, L, hfe, hL⟩ | ⟨q, rfl, E, ce, L, hx, hce, hcv, hcl, hW₂, hsm, hL⟩
  · obtain ⟨⟨v, rfl⟩, hW₂, e2, q2, q3, q4, q5, q6⟩ := id hfe
    have e3 : s₂ = ({ (U.calling g mk a).setFrames s₂.frames with heap := s₂.heap, slotsUsed := s₂.slotsUsed } : State).setVm s₂.vm := by
      have : s₂ = ({ s₂ with vm := (U.calling g mk a).vm } : State).setVm s₂.vm := rfl
      rw [e2] at this
      exact this
    obtain ⟨c₂, i₂, len₂, hc₂, hd₂, hf₂⟩ := hend
    have hW' : U.WarmedH s₂.vm := hW₂
    have hcc : c₂ = c := by
      have h1 : s₂.code? g.method = U.code? g.method := by
        rw [State.code?_eq, State.code?_eq, hW'.alike.method?]
      exact Option.some.inj (hc₂.symm.trans (h1.trans h.code))
    subst hcc
    have hlen : len₂ = len := by rw [hdg] at hd₂; cases hd₂; rfl
    subst hlen
    have hs₂ : s₂ = (({ U with heap := s₂.heap, slotsUsed := s₂.slotsUsed } : State).setVm s₂.vm).setTop { g with pc := g.pc + len₂, stack := v.toList ++ g.stack } := by
      refine e3.trans ?_
      rw [hf₂, State.calling_eq h.top, State.setFrames_setFrames, State.setTop_of_frames _ hr', hr]
      rfl
    have hsame : U.sameButNew ({ U with heap := s₂.heap, slotsUsed := s₂.slotsUsed } : State) L mc ms := by
      refine ⟨?_, q2, q3, q4, q5, q6⟩
      obtain ⟨t, ht, -⟩ := State.frames_cons hr
      show ({ U with heap := s₂.heap, slotsUsed := s₂.slotsUsed } : State) = { U.setFrames U.frames with heap := s₂.heap, slotsUsed := s₂.slotsUsed }
      rw [State.setFrames_self ht]
    subst hg
    refine Or.inl ⟨v, ⟨(({ U with heap := s₂.heap, slotsUsed := s₂.slotsUsed } : State).setVm s₂.vm), Ls ++ L, c0 + mc, s0 + ms⟩,
      ⟨X.admits, X.cas, X.clock, X.frames, X.room, X.hears, X.method, X.code, (X.here.setHeapUsed s₂.heap s₂.slotsUsed).setVm hW'.alike, X.tail, State.WarmedH.trans X.warmed hW', X.limits, X.bytes, X.same.trans (hsame.setVm s.vm)⟩,
      ⟨g, mk, s₂, L, rfl, rfl, hqc, rfl, hL, rfl, rfl⟩, ?_⟩
    show Steps p.tables e below _ ((({ U with heap := s₂.heap, slotsUsed := s₂.slotsUsed } : State).setVm s₂.vm).setTop { g with pc := g.pc + len₂, stack := v.toList ++ g.stack })
    rw [← hs₂]
    exact hsteps
  · obtain ⟨e2, q2, q3, q4, q5, q6⟩ := id hsm
    have e3 : s₂ = ({ (U.calling g mk a).setFrames s₂.frames with heap := s₂.heap, slotsUsed := s₂.slotsUsed } : State).setVm s₂.vm := by
      have : s₂ = ({ s₂ with vm := (U.calling g mk a).vm } : State).setVm s₂.vm := rfl
      rw [e2] at this
      exact this
    have hf₂ : s₂.frames = .throwing q :: .java g :: U.frames.tail := hend
    have hW' : U.WarmedH s₂.vm := hW₂
    have hs₂ : s₂ = ((({ U with heap := s₂.heap, slotsUsed := s₂.slotsUsed } : State).setVm s₂.vm).setTop g).pushFrame (.throwing q) := by
      refine e3.trans ?_
      rw [hf₂, State.calling_eq h.top, State.setFrames_setFrames, State.pushFrame, State.frames_setTop _ hr', State.setTop_of_frames _ hr', State.setFrames_setFrames, hr]
      rfl
    have hsame : U.sameButNew ({ U with heap := s₂.heap, slotsUsed := s₂.slotsUsed } : State) L mc ms := by
      refine ⟨?_, q2, q3, q4, q5, q6⟩
      obtain ⟨t, ht, -⟩ := State.frames_cons hr
      show ({ U with heap := s₂.heap, slotsUsed := s₂.slotsUsed } : State) = { U.setFrames U.frames with heap := s₂.heap, slotsUsed := s₂.slotsUsed }
      rw [State.setFrames_self ht]
    subst hg
    refine Or.inr ⟨q, ⟨(({ U with heap := s₂.heap, slotsUsed := s₂.slotsUsed } : State).setVm s₂.vm), Ls ++ L, c0 + mc, s0 + ms⟩,
      ⟨X.admits, X.cas, X.clock, X.frames, X.room, X.hears, X.method, X.code, (X.here.setHeapUsed s₂.heap s₂.slotsUsed).setVm hW'.alike, X.tail, State.WarmedH.trans X.warmed hW', X.limits, X.bytes, X.same.trans (hsame.setVm s.vm)⟩,
      ⟨g, mk, s₂, L, E, ce, rfl, rfl, hx, hce, hcv, hcl, rfl, hL, rfl, rfl⟩, ?_⟩
    show Steps p.tables e below _ (((({ U with heap := s₂.heap, slotsUsed := s₂.slotsUsed } : State).setVm s₂.vm).setTop g).pushFrame (.throwing q))
    rw [← hs₂]
    exact hsteps
end Payer
section Calls
variable {p : Program} {l : Launch} {e : Env} {R : Room} {s : State} {m : MethodId} {args : Array Value} {below : List Frame} {meth : Method} {c : Code} {T : State} {locs : List Loc} {cells slots : Nat}
theorem vx_callV (X : Stand p l e R s m args below meth c T locs cells slots) (hexec : p.tables.exec = Jvm.exec) {own C : String} {index : Nat} {y : MethodName} {bytes : ByteArray} {maxL : Nat} {ret : Option FieldType}
    (hown : s.vm.findClass own = some m.cls) (hlink : (Cond.methodLink own index y).before args s = true) (hinst : (Cond.instanceMethod y).before args s = true) (hsel : (Cond.selects C y y).before args s = true)
    (hcode : (Cond.code y bytes maxL ret).before args s = true) (hy : y.cls ≠ "java/lang/invoke/MethodHandle" ∧ y.cls ≠ "java/lang/invoke/VarHandle")
    {W9 : Nat} {Pre : Pt → Array Value → Prop} {Post : Pt → Array Value → Option Value → Pt → Prop} {PostX : Pt → Array Value → Addr → Pt → Prop} (hK : vx_Back l R p e below s args y 3 W9 Pre Post PostX)
    {b : Addr} {cellB : Cell} (hcell : T.heap[b]? = some cellB) (hobj : cellB.vm.isStatics = false) (hcls : s.vm.findClass C = some cellB.cls)
    {g : JFrame} (hg : g.method = m) (hsize : g.locals.size = c.maxLocals) {argsL rest : List Value} (hlen : ∀ sig, parseMethodDescriptor y.desc = some sig → argsL.length = sig.parameters.length)
    (hstack : g.stack = argsL.reverse ++ .ref b :: rest) (hW : 2 * g.monitorRoom + (rest.map fun v => v.category).sum ≤ W9) (hdg : decode c.code g.pc = .ok (.invokevirtual index, 3))
    (hpre : ∀ vm₁, s.WarmedH vm₁ → Pre ⟨T.setVm vm₁, locs, cells, slots⟩ (Value.ref b :: argsL).toArray) :
    (∃ (v : Option Value) (vm₁ : Vm) (B : Pt), s.WarmedH vm₁ ∧ Stand p l e R s m args below meth c B.U B.locs B.cells B.slots ∧ Post ⟨T.setVm vm₁, locs, cells, slots⟩ (Value.ref b :: argsL).toArray v B ∧
      ∀ target, Steps p.tables e below (B.U.setTop { g with pc := g.pc + 3, stack := v.toList ++ rest }) target → Steps p.tables e below (T.setTop g) target) ∨
    (∃ (q : Addr) (vm₁ : Vm) (B : Pt), s.WarmedH vm₁ ∧ Stand p l e R s m args below meth c B.U B.locs B.cells B.slots ∧ PostX ⟨T.setVm vm₁, locs, cells, slots⟩ (Value.ref b :: argsL).toArray q B ∧
      Steps p.tables e below (T.setTop g) ((B.U.setTop { g with stack := rest }).pushFrame (.throwing q))) := by
  obtain ⟨mk, methM, hnamed, hmethM, hstM, habM⟩ := Cond.instanceMethod_spec hinst
  obtain ⟨methM', cM, hmethM', -, -, -, -, -, -, hsigM⟩ := Cond.code_spec hnamed hcode
  cases hmethM.symm.trans hmethM'
  obtain ⟨c2, r2, m2, q1, q2, q3, q4, kP, hkP, hkPi⟩ := Cond.selects_spec hsel
  cases hcls.symm.trans q1
  cases (State.methodFound?_of_named hnamed hy).symm.trans q2
  cases hnamed.symm.trans q3
  have hselP : selectMethod e.platform s.vm cellB.cls mk = .method mk := by rw [Launch.admits_selectMethod X.admits]; exact q4
  obtain ⟨vm₁, X₁, hstep₁⟩ := X.invokevirtual hexec hown hlink hnamed hmethM hstM hkP hkPi hy (a := b) (cell := cellB) hcell
    (fun z h => by rw [h] at hobj; cases hobj) hselP hmethM habM hkP hkPi (g := g) hg (argsL := argsL) (rest := rest) (hlen _ hsigM) hstack hdg
  rcases hK m meth c ⟨T.setVm vm₁, locs, cells, slots⟩ { g with stack := rest } (.invokevirtual index) mk (Value.ref b :: argsL).toArray X₁ hg hsize hdg hW (X₁.named hnamed) (hpre vm₁ X₁.warmed) with ⟨v, B, X', hpost, hsteps⟩ | ⟨q, B, X', hpost, hsteps⟩
  · exact Or.inl ⟨v, vm₁, B, X₁.warmed, X', hpost, fun target h => hstep₁ _ fun acts => by rw [doInvoke_state]; exact hsteps.trans h⟩
  · exact Or.inr ⟨q, vm₁, B, X₁.warmed, X', hpost, hstep₁ _ fun acts => by rw [doInvoke_state]; exact hsteps⟩
theorem vx_callS (X : Stand p l e R s m args below meth c T locs cells slots) (hexec : p.tables.exec = Jvm.exec) {own : String} {index : Nat} {y : MethodName} {bytes : ByteArray} {maxL : Nat} {ret : Option FieldType}
    (hown : s.vm.findClass own = some m.cls) (hlink : (Cond.methodLink own index y).before args s = true) (hstat : (Cond.static y).before args s = true) (hinit : (Cond.initialized y.cls).before args s = true)
    (hcode : (Cond.code y bytes maxL ret).before args s = true) (hy : y.cls ≠ "java/lang/invoke/MethodHandle" ∧ y.cls ≠ "java/lang/invoke/VarHandle")
    {W9 : Nat} {Pre : Pt → Array Value → Prop} {Post : Pt → Array Value → Option Value → Pt → Prop} {PostX : Pt → Array Value → Addr → Pt → Prop} (hK : vx_Back l R p e below s args y 3 W9 Pre Post PostX)
    {g : JFrame} (hg : g.method = m) (hsize : g.locals.size = c.maxLocals) {argsL rest : List Value} (hlen : ∀ sig, parseMethodDescriptor y.desc = some sig → argsL.length = sig.parameters.length)
    (hstack : g.stack = argsL.reverse ++ rest) (hW : 2 * g.monitorRoom + (rest.map fun v => v.category).sum ≤ W9) (hdg : decode c.code g.pc = .ok (.invokestatic index, 3))
    (hpre : ∀ vm₁, s.WarmedH vm₁ → Pre ⟨T.setVm vm₁, locs, cells, slots⟩ argsL.toArray) :
    (∃ (v : Option Value) (vm₁ : Vm) (B : Pt), s.WarmedH vm₁ ∧ Stand p l e R s m args below meth c B.U B.locs B.cells B.slots ∧ Post ⟨T.setVm vm₁, locs, cells, slots⟩ argsL.toArray v B ∧
      ∀ target, Steps p.tables e below (B.U.setTop { g with pc := g.pc + 3, stack := v.toList ++ rest }) target → Steps p.tables e below (T.setTop g) target) ∨
    (∃ (q : Addr) (vm₁ : Vm) (B : Pt), s.WarmedH vm₁ ∧ Stand p l e R s m args below meth c B.U B.locs B.cells B.slots ∧ PostX ⟨T.setVm vm₁, locs, cells, slots⟩ argsL.toArray q B ∧
      Steps p.tables e below (T.setTop g) ((B.U.setTop { g with stack := rest }).pushFrame (.throwing q))) := by
  obtain ⟨mk, hnamed⟩ := Cond.code_named hcode
  obtain ⟨methM, cM, hmethM, -, -, -, -, -, -, hsigM⟩ := Cond.code_spec hnamed hcode
  have hstatic : methM.isStatic = true := Cond.static_spec hnamed hmethM hstat
  obtain ⟨kP, hkP, -⟩ := className_of_methodNamed hnamed
  have hinitP : kP.init = .initialized := Cond.initialized_spec (findClass_of_methodNamed hnamed) hkP hinit
  obtain ⟨vm₁, X₁, hstep₁⟩ := X.invokestatic hexec hown hlink hnamed hmethM hstatic hkP hinitP hy (g := g) hg (argsL := argsL) (rest := rest) (hlen _ hsigM) hstack hdg
  rcases hK m meth c ⟨T.setVm vm₁, locs, cells, slots⟩ { g with stack := rest } (.invokestatic index) mk argsL.toArray X₁ hg hsize hdg hW (X₁.named hnamed) (hpre vm₁ X₁.warmed) with ⟨v, B, X', hpost, hsteps⟩ | ⟨q, B, X', hpost, hsteps⟩
  · exact Or.inl ⟨v, vm₁, B, X₁.warmed, X', hpost, fun target h => hstep₁ _ fun acts => by rw [doInvoke_state]; exact hsteps.trans h⟩
  · exact Or.inr ⟨q, vm₁, B, X₁.warmed, X', hpost, hstep₁ _ fun acts => by rw [doInvoke_state]; exact hsteps⟩
end Calls
theorem vx_cls {s : State} {T : State} {vm₁ : Vm} {E : String} {k : ClassId} (hW : s.WarmedH vm₁) (h : (T.setVm vm₁).vm.findClass E = some k) : s.vm.findClass E = some k := by
  have h1 : vm₁.findClass E = some k := h
  rw [hW.alike.findClass] at h1
  exact h1
/-- the method's frame g, with q thrown over it -/
def vx_W (p : Program) (l : Launch) (e : Env) (R : Room) (s : State) (m : MethodId) (args : Array Value) (below : List Frame) (meth : Method) (c : Code) (H : Heap) (locs : List Loc) (cells slots : Nat) (Q : State → Prop) (g : JFrame) (q : Addr) : Prop :=
  ∀ T : State, T.heap = H → Stand p l e R s m args below meth c T locs cells slots → ∃ t, Steps p.tables e below ((T.setTop g).pushFrame (.throwing q)) t ∧ Q t
def vx_Run (p : Program) (l : Launch) (e : Env) (R : Room) (s : State) (m : MethodId) (args : Array Value) (below : List Frame) (meth : Method) (c : Code) (H : Heap) (locs : List Loc) (cells slots mc ms : Nat) (g : JFrame) (rest : List Value) (Qa : State → Outcome → State → Prop) (XC : String → State → State → Prop) (free : Addr → Prop) : Prop :=
  ∀ T : State, T.heap = H → Stand p l e R s m args below meth c T locs cells slots →
    (∃ (v : Option Value) (st₀ t T' : State) (L : List Loc), st₀.heap = H ∧ Stand p l e R s m args below meth c T' (locs ++ L) (cells + mc) (slots + ms) ∧ (∀ q ∈ L, free q.base) ∧ T'.heap = t.heap ∧ T'.vm = t.vm ∧ Qa st₀ (.returned v) t ∧
      Goes p e below T g T' { g with pc := g.pc + 3, stack := v.toList ++ rest }) ∨
    (∃ (q : Addr) (st₀ t T' : State) (L : List Loc) (E : String) (ce : Cell), st₀.heap = H ∧ Stand p l e R s m args below meth c T' (locs ++ L) (cells + mc) (slots + ms) ∧ (∀ z ∈ L, free z.base) ∧ T'.heap = t.heap ∧ T'.vm = t.vm ∧ XC E st₀ t ∧ t.heap[q]? = some ce ∧ ce.vm = .none ∧ s.vm.findClass E = some ce.cls ∧
      Steps p.tables e below (T.setTop g) ((T'.setTop { g with stack := rest }).pushFrame (.throwing q)))
def vx_X {S : Type} (px : S → Prop) (B : String → S → State → Prop) (A : Nat → Prop) : String → State → State → Prop := fun E st t => ∃ u : S, px u ∧ B E u t ∧ va_F A st t
section Runs
variable {p : Program} {l : Launch} {e : Env} {R : Room} {s : State} {m : MethodId} {args : Array Value} {below : List Frame} {meth : Method} {c : Code} {H : Heap} {locs : List Loc} {cells slots : Nat}
variable {y : MethodName} {bytes cc : ByteArray} {maxL nL mc ms n index : Nat} {ret : Option FieldType} {ws : List Cond} {rm : Room} {Pc : Array Value → State → Prop} {Qc : Array Value → State → Outcome → State → Prop} {XC : String → State → State → Prop} {free : Addr → Prop} {Ts : List Cond} {own C : String} {b : Addr} {As rest : List Value} {g : JFrame}
theorem vx_callBack (cb : CallB R s args own index y bytes maxL ret ws rm mc ms n) (hM : vx_Met l y ws rm Pc Qc XC mc ms free) (hbl : FrameBlind Pc) : vx_Back l R p e below s args y 3 8 (PreOf R mc ms Pc) (PostOf Qc mc ms free) (vx_Post XC mc ms free) := by
  obtain ⟨hrc, hrs, hfr, hlo, hws, hcw, -, hini, -⟩ := cb
  exact vx_back (bytes := bytes) (maxL := maxL) (ret := ret) hM hbl hrc hrs hfr hlo hws hcw (fun a' U hW => word_at hW (Or.inl (by first | rfl | simp [Cond.onTables, Cond.keeps, Cond.steady])) hini)
theorem vx_runV (S : CallFix p m c cc nL s args Ts own) (hM : vx_Met l y ws rm Pc Qc XC mc ms free) (cw : CallW R s args own C index y bytes maxL ret ws rm mc ms n) (hp : PreV s H C b Pc As)
    (hg : g.method = m) (hn : As.length = n) (hsize : g.locals.size = nL) (hstack : g.stack = As.reverse ++ .ref b :: rest) (hW : 2 * g.monitorRoom + (rest.map fun v => v.category).sum ≤ 8) (hdg : decode cc g.pc = .ok (.invokevirtual index, 3)) (hf : cells + mc ≤ R.cells ∧ slots + ms ≤ R.slots) :
    vx_Run p l e R s m args below meth c H locs cells slots mc ms g rest (Qc (Value.ref b :: As).toArray) XC free := by
  have hK : vx_Back l R p e below s args y 3 8 (PreOf R mc ms Pc) (PostOf Qc mc ms free) (vx_Post XC mc ms free) := vx_callBack cw.1 hM hp.1
  obtain ⟨⟨-, -, -, -, -, -, hcode, -, hy, hlen, hl⟩, hin, hse⟩ := cw
  obtain ⟨hx, hb, hml, ho, -⟩ := S
  obtain ⟨-, ⟨cellB, hcB, hoB, hclB⟩, hPc⟩ := hp
  intro T hT X
  rcases vx_callV X hx (C := C) (bytes := bytes) (maxL := maxL) (ret := ret) ho hl hin hse hcode hy hK (by rw [hT]; exact hcB) hoB hclB hg (hsize.trans hml.symm) (argsL := As) (rest := rest) (fun sig h => hn.trans (hlen sig h)) hstack hW (by rw [hb]; exact hdg)
    (fun vm₁ hW₁ => ⟨hf.1, hf.2, hPc (T.setVm vm₁) hT hW₁⟩) with ⟨v, vm₁, ⟨U', l2, c2, s2⟩, hW₁, X', ⟨g', mk, t, L, e1, e2, hq, h1, hL, h2, h3⟩, st⟩ | ⟨q, vm₁, ⟨U', l2, c2, s2⟩, hW₁, X', ⟨g', mk, t, L, E, ce, e1, e2, hq, hce, hcv, hcl, h1, hL, h2, h3⟩, st⟩
  · dsimp only [Pt.U, Pt.locs, Pt.cells, Pt.slots] at X' e1 e2 h1 h2 h3 st
    subst h1; subst h2; subst h3
    exact Or.inl ⟨v, (T.setVm vm₁).calling g' mk (Value.ref b :: As).toArray, t, U', L, hT, X', hL, e1, e2, hq, st⟩
  · dsimp only [Pt.U, Pt.locs, Pt.cells, Pt.slots] at X' e1 e2 h1 h2 h3 st hcl
    subst h1; subst h2; subst h3
    exact Or.inr ⟨q, (T.setVm vm₁).calling g' mk (Value.ref b :: As).toArray, t, U', L, E, ce, hT, X', hL, e1, e2, hq, hce, hcv, vx_cls hW₁ hcl, st⟩
theorem vx_runS (S : CallFix p m c cc nL s args Ts own) (hM : vx_Met l y ws rm Pc Qc XC mc ms free) (cw : CallB R s args own index y bytes maxL ret ws rm mc ms n ∧ (Cond.static y).before args s = true) (hp : PreS s H Pc As)
    (hg : g.method = m) (hn : As.length = n) (hsize : g.locals.size = nL) (hstack : g.stack = As.reverse ++ rest) (hW : 2 * g.monitorRoom + (rest.map fun v => v.category).sum ≤ 8) (hdg : decode cc g.pc = .ok (.invokestatic index, 3)) (hf : cells + mc ≤ R.cells ∧ slots + ms ≤ R.slots) :
    vx_Run p l e R s m args below meth c H locs cells slots mc ms g rest (Qc As.toArray) XC free := by
  have hK : vx_Back l R p e below s args y 3 8 (PreOf R mc ms Pc) (PostOf Qc mc ms free) (vx_Post XC mc ms free) := vx_callBack cw.1 hM hp.1
  obtain ⟨⟨-, -, -, -, -, -, hcode, hini, hy, hlen, hl⟩, hstt⟩ := cw
  obtain ⟨hx, hb, hml, ho, -⟩ := S
  intro T hT X
  rcases vx_callS X hx (bytes := bytes) (maxL := maxL) (ret := ret) ho hl hstt hini hcode hy hK hg (hsize.trans hml.symm) (argsL := As) (rest := rest) (fun sig h => hn.trans (hlen sig h)) hstack hW (by rw [hb]; exact hdg)
    (fun vm₁ hW₁ => ⟨hf.1, hf.2, hp.2 (T.setVm vm₁) hT hW₁⟩) with ⟨v, vm₁, ⟨U', l2, c2, s2⟩, hW₁, X', ⟨g', mk, t, L, e1, e2, hq, h1, hL, h2, h3⟩, st⟩ | ⟨q, vm₁, ⟨U', l2, c2, s2⟩, hW₁, X', ⟨g', mk, t, L, E, ce, e1, e2, hq, hce, hcv, hcl, h1, hL, h2, h3⟩, st⟩
  · dsimp only [Pt.U, Pt.locs, Pt.cells, Pt.slots] at X' e1 e2 h1 h2 h3 st
    subst h1; subst h2; subst h3
    exact Or.inl ⟨v, (T.setVm vm₁).calling g' mk As.toArray, t, U', L, hT, X', hL, e1, e2, hq, st⟩
  · dsimp only [Pt.U, Pt.locs, Pt.cells, Pt.slots] at X' e1 e2 h1 h2 h3 st hcl
    subst h1; subst h2; subst h3
    exact Or.inr ⟨q, (T.setVm vm₁).calling g' mk As.toArray, t, U', L, E, ce, hT, X', hL, e1, e2, hq, hce, hcv, vx_cls hW₁ hcl, st⟩
end Runs
section Rows
variable {p : Program} {l : Launch} {e : Env} {R : Room} {s : State} {m : MethodId} {args : Array Value} {below : List Frame} {meth : Method} {c : Code} {H : Heap} {locs : List Loc} {cells slots : Nat} {Q : State → Prop}
variable {mc ms : Nat} {free : Addr → Prop} {A0 A1 : Nat → Prop} {H0 : Heap} {a : Array Value} {pc : Nat} {ls : Array Slot} {st0 rest : List Value}
theorem vx_keep {st₀ t T' : State} {L : List Loc} (h0 : st₀.heap = H) (e1 : T'.heap = t.heap) (hS : va_S A0 H0 H locs) (hA : ∀ q, q < H.size → A1 q → A0 q) (hf : ∀ q, free q → A0 q) (hL : ∀ q ∈ L, free q.base) (hF : va_F A1 st₀ t) :
    H.size ≤ T'.heap.size ∧ (∀ q : Nat, q < H.size → ¬ A1 q → T'.heap[q]? = H[q]?) ∧ va_S A0 H0 T'.heap (locs ++ L) := by
  obtain ⟨hz, hk⟩ := hF
  rw [h0] at hz hk
  exact ⟨by rw [e1]; exact hz, fun q h1 h2 => by rw [e1]; exact hk q h1 h2,
    ⟨Nat.le_trans hS.1 (by rw [e1]; exact hz), fun q h1 h2 => by rw [e1, hk q (Nat.lt_of_lt_of_le h1 hS.1) (fun z => h2 (hA q (Nat.lt_of_lt_of_le h1 hS.1) z))]; exact hS.2.1 q h1 h2, fun q hq => by
      rcases List.mem_append.mp hq with h | h
      · exact hS.2.2 q h
      · exact hf _ (hL q h)⟩⟩
theorem vx_calli {S SX : Type} {post : Int32 → S → Prop} {px : SX → Prop} {B : S → State → Prop} {BX : String → SX → State → Prop} {AX : Nat → Prop} (hr : vx_Run p l e R s m args below meth c H locs cells slots mc ms (F0 m pc ls st0) rest (va_Qi post B A1 a) (vx_X px BX AX) free) (hS : va_S A0 H0 H locs) (hA : ∀ q, q < H.size → A1 q → A0 q) (hf : ∀ q, free q → A0 q) (hAX : ∀ q, q < H.size → AX q → A0 q)
    (kx : ∀ (E : String) (ce : Cell) (q9 : Addr) (u : SX) (t : State) (H1 : Heap) (locs1 : List Loc), t.heap = H1 → s.vm.Alike t.vm → px u → BX E u t → H.size ≤ H1.size → (∀ q : Nat, q < H.size → ¬ AX q → H1[q]? = H[q]?) → va_S A0 H0 H1 locs1 → H1[q9]? = some ce → ce.vm = .none → s.vm.findClass E = some ce.cls → vx_W p l e R s m args below meth c H1 locs1 (cells + mc) (slots + ms) Q (F0 m pc ls rest) q9)
    (kk : ∀ (r : Int32) (u : S) (t : State) (H1 : Heap) (locs1 : List Loc), t.heap = H1 → s.vm.Alike t.vm → post r u → B u t → H.size ≤ H1.size → (∀ q : Nat, q < H.size → ¬ A1 q → H1[q]? = H[q]?) → va_S A0 H0 H1 locs1 → W p l e R s m args below meth c H1 locs1 (cells + mc) (slots + ms) Q (F0 m (pc + 3) ls (.int r :: rest))) : W p l e R s m args below meth c H locs cells slots Q (F0 m pc ls st0) := by
  intro T hT X
  rcases hr T hT X with ⟨v, st₀, t, T', L, h0, X', hL, e1, e2, ⟨⟨r, u, hv, hp, hb⟩, hF⟩, st⟩ | ⟨q, st₀, t, T', L, E, ce, h0, X', hL, e1, e2, ⟨u, hp, hb, hF⟩, hce, hcv, hcl, st⟩
  · cases hv
    obtain ⟨k1, k2, k3⟩ := vx_keep h0 e1 hS hA hf hL hF
    obtain ⟨t2, a1, b1⟩ := kk r u t T'.heap (locs ++ L) e1.symm (by rw [← e2]; exact X'.warmed.alike) hp hb k1 k2 k3 T' rfl X'
    exact ⟨t2, st t2 a1, b1⟩
  · obtain ⟨k1, k2, k3⟩ := vx_keep h0 e1 hS hAX hf hL hF
    obtain ⟨t2, a1, b1⟩ := kx E ce q u t T'.heap (locs ++ L) e1.symm (by rw [← e2]; exact X'.warmed.alike) hp hb k1 k2 k3 (by rw [e1]; exact hce) hcv hcl T' rfl X'
    exact ⟨t2, st.trans a1, b1⟩
theorem vx_calll {S SX : Type} {post : Int64 → S → Prop} {px : SX → Prop} {B : S → State → Prop} {BX : String → SX → State → Prop} {AX : Nat → Prop} (hr : vx_Run p l e R s m args below meth c H locs cells slots mc ms (F0 m pc ls st0) rest (va_Ql post B A1 a) (vx_X px BX AX) free) (hS : va_S A0 H0 H locs) (hA : ∀ q, q < H.size → A1 q → A0 q) (hf : ∀ q, free q → A0 q) (hAX : ∀ q, q < H.size → AX q → A0 q)
    (kx : ∀ (E : String) (ce : Cell) (q9 : Addr) (u : SX) (t : State) (H1 : Heap) (locs1 : List Loc), t.heap = H1 → s.vm.Alike t.vm → px u → BX E u t → H.size ≤ H1.size → (∀ q : Nat, q < H.size → ¬ AX q → H1[q]? = H[q]?) → va_S A0 H0 H1 locs1 → H1[q9]? = some ce → ce.vm = .none → s.vm.findClass E = some ce.cls → vx_W p l e R s m args below meth c H1 locs1 (cells + mc) (slots + ms) Q (F0 m pc ls rest) q9)
    (kk : ∀ (r : Int64) (u : S) (t : State) (H1 : Heap) (locs1 : List Loc), t.heap = H1 → s.vm.Alike t.vm → post r u → B u t → H.size ≤ H1.size → (∀ q : Nat, q < H.size → ¬ A1 q → H1[q]? = H[q]?) → va_S A0 H0 H1 locs1 → W p l e R s m args below meth c H1 locs1 (cells + mc) (slots + ms) Q (F0 m (pc + 3) ls (.long r :: rest))) : W p l e R s m args below meth c H locs cells slots Q (F0 m pc ls st0) := by
  intro T hT X
  rcases hr T hT X with ⟨v, st₀, t, T', L, h0, X', hL, e1, e2, ⟨⟨r, u, hv, hp, hb⟩, hF⟩, st⟩ | ⟨q, st₀, t, T', L, E, ce, h0, X', hL, e1, e2, ⟨u, hp, hb, hF⟩, hce, hcv, hcl, st⟩
  · cases hv
    obtain ⟨k1, k2, k3⟩ := vx_keep h0 e1 hS hA hf hL hF
    obtain ⟨t2, a1, b1⟩ := kk r u t T'.heap (locs ++ L) e1.symm (by rw [← e2]; exact X'.warmed.alike) hp hb k1 k2 k3 T' rfl X'
    exact ⟨t2, st t2 a1, b1⟩
  · obtain ⟨k1, k2, k3⟩ := vx_keep h0 e1 hS hAX hf hL hF
    obtain ⟨t2, a1, b1⟩ := kx E ce q u t T'.heap (locs ++ L) e1.symm (by rw [← e2]; exact X'.warmed.alike) hp hb k1 k2 k3 (by rw [e1]; exact hce) hcv hcl T' rfl X'
    exact ⟨t2, st.trans a1, b1⟩
theorem vx_callf {S SX : Type} {post : UInt32 → S → Prop} {px : SX → Prop} {B : S → State → Prop} {BX : String → SX → State → Prop} {AX : Nat → Prop} (hr : vx_Run p l e R s m args below meth c H locs cells slots mc ms (F0 m pc ls st0) rest (va_Qf post B A1 a) (vx_X px BX AX) free) (hS : va_S A0 H0 H locs) (hA : ∀ q, q < H.size → A1 q → A0 q) (hf : ∀ q, free q → A0 q) (hAX : ∀ q, q < H.size → AX q → A0 q)
    (kx : ∀ (E : String) (ce : Cell) (q9 : Addr) (u : SX) (t : State) (H1 : Heap) (locs1 : List Loc), t.heap = H1 → s.vm.Alike t.vm → px u → BX E u t → H.size ≤ H1.size → (∀ q : Nat, q < H.size → ¬ AX q → H1[q]? = H[q]?) → va_S A0 H0 H1 locs1 → H1[q9]? = some ce → ce.vm = .none → s.vm.findClass E = some ce.cls → vx_W p l e R s m args below meth c H1 locs1 (cells + mc) (slots + ms) Q (F0 m pc ls rest) q9)
    (kk : ∀ (r : UInt32) (u : S) (t : State) (H1 : Heap) (locs1 : List Loc), t.heap = H1 → s.vm.Alike t.vm → post r u → B u t → H.size ≤ H1.size → (∀ q : Nat, q < H.size → ¬ A1 q → H1[q]? = H[q]?) → va_S A0 H0 H1 locs1 → W p l e R s m args below meth c H1 locs1 (cells + mc) (slots + ms) Q (F0 m (pc + 3) ls (.float r :: rest))) : W p l e R s m args below meth c H locs cells slots Q (F0 m pc ls st0) := by
  intro T hT X
  rcases hr T hT X with ⟨v, st₀, t, T', L, h0, X', hL, e1, e2, ⟨⟨r, u, hv, hp, hb⟩, hF⟩, st⟩ | ⟨q, st₀, t, T', L, E, ce, h0, X', hL, e1, e2, ⟨u, hp, hb, hF⟩, hce, hcv, hcl, st⟩
  · cases hv
    obtain ⟨k1, k2, k3⟩ := vx_keep h0 e1 hS hA hf hL hF
    obtain ⟨t2, a1, b1⟩ := kk r u t T'.heap (locs ++ L) e1.symm (by rw [← e2]; exact X'.warmed.alike) hp hb k1 k2 k3 T' rfl X'
    exact ⟨t2, st t2 a1, b1⟩
  · obtain ⟨k1, k2, k3⟩ := vx_keep h0 e1 hS hAX hf hL hF
    obtain ⟨t2, a1, b1⟩ := kx E ce q u t T'.heap (locs ++ L) e1.symm (by rw [← e2]; exact X'.warmed.alike) hp hb k1 k2 k3 (by rw [e1]; exact hce) hcv hcl T' rfl X'
    exact ⟨t2, st.trans a1, b1⟩
theorem vx_calld {S SX : Type} {post : UInt64 → S → Prop} {px : SX → Prop} {B : S → State → Prop} {BX : String → SX → State → Prop} {AX : Nat → Prop} (hr : vx_Run p l e R s m args below meth c H locs cells slots mc ms (F0 m pc ls st0) rest (va_Qd post B A1 a) (vx_X px BX AX) free) (hS : va_S A0 H0 H locs) (hA : ∀ q, q < H.size → A1 q → A0 q) (hf : ∀ q, free q → A0 q) (hAX : ∀ q, q < H.size → AX q → A0 q)
    (kx : ∀ (E : String) (ce : Cell) (q9 : Addr) (u : SX) (t : State) (H1 : Heap) (locs1 : List Loc), t.heap = H1 → s.vm.Alike t.vm → px u → BX E u t → H.size ≤ H1.size → (∀ q : Nat, q < H.size → ¬ AX q → H1[q]? = H[q]?) → va_S A0 H0 H1 locs1 → H1[q9]? = some ce → ce.vm = .none → s.vm.findClass E = some ce.cls → vx_W p l e R s m args below meth c H1 locs1 (cells + mc) (slots + ms) Q (F0 m pc ls rest) q9)
    (kk : ∀ (r : UInt64) (u : S) (t : State) (H1 : Heap) (locs1 : List Loc), t.heap = H1 → s.vm.Alike t.vm → post r u → B u t → H.size ≤ H1.size → (∀ q : Nat, q < H.size → ¬ A1 q → H1[q]? = H[q]?) → va_S A0 H0 H1 locs1 → W p l e R s m args below meth c H1 locs1 (cells + mc) (slots + ms) Q (F0 m (pc + 3) ls (.double r :: rest))) : W p l e R s m args below meth c H locs cells slots Q (F0 m pc ls st0) := by
  intro T hT X
  rcases hr T hT X with ⟨v, st₀, t, T', L, h0, X', hL, e1, e2, ⟨⟨r, u, hv, hp, hb⟩, hF⟩, st⟩ | ⟨q, st₀, t, T', L, E, ce, h0, X', hL, e1, e2, ⟨u, hp, hb, hF⟩, hce, hcv, hcl, st⟩
  · cases hv
    obtain ⟨k1, k2, k3⟩ := vx_keep h0 e1 hS hA hf hL hF
    obtain ⟨t2, a1, b1⟩ := kk r u t T'.heap (locs ++ L) e1.symm (by rw [← e2]; exact X'.warmed.alike) hp hb k1 k2 k3 T' rfl X'
    exact ⟨t2, st t2 a1, b1⟩
  · obtain ⟨k1, k2, k3⟩ := vx_keep h0 e1 hS hAX hf hL hF
    obtain ⟨t2, a1, b1⟩ := kx E ce q u t T'.heap (locs ++ L) e1.symm (by rw [← e2]; exact X'.warmed.alike) hp hb k1 k2 k3 (by rw [e1]; exact hce) hcv hcl T' rfl X'
    exact ⟨t2, st.trans a1, b1⟩
theorem vx_callv {S SX : Type} {post : S → Prop} {px : SX → Prop} {B : S → State → Prop} {BX : String → SX → State → Prop} {AX : Nat → Prop} (hr : vx_Run p l e R s m args below meth c H locs cells slots mc ms (F0 m pc ls st0) rest (va_Qv post B A1 a) (vx_X px BX AX) free) (hS : va_S A0 H0 H locs) (hA : ∀ q, q < H.size → A1 q → A0 q) (hf : ∀ q, free q → A0 q) (hAX : ∀ q, q < H.size → AX q → A0 q)
    (kx : ∀ (E : String) (ce : Cell) (q9 : Addr) (u : SX) (t : State) (H1 : Heap) (locs1 : List Loc), t.heap = H1 → s.vm.Alike t.vm → px u → BX E u t → H.size ≤ H1.size → (∀ q : Nat, q < H.size → ¬ AX q → H1[q]? = H[q]?) → va_S A0 H0 H1 locs1 → H1[q9]? = some ce → ce.vm = .none → s.vm.findClass E = some ce.cls → vx_W p l e R s m args below meth c H1 locs1 (cells + mc) (slots + ms) Q (F0 m pc ls rest) q9)
    (kk : ∀ (u : S) (t : State) (H1 : Heap) (locs1 : List Loc), t.heap = H1 → s.vm.Alike t.vm → post u → B u t → H.size ≤ H1.size → (∀ q : Nat, q < H.size → ¬ A1 q → H1[q]? = H[q]?) → va_S A0 H0 H1 locs1 → W p l e R s m args below meth c H1 locs1 (cells + mc) (slots + ms) Q (F0 m (pc + 3) ls (rest))) : W p l e R s m args below meth c H locs cells slots Q (F0 m pc ls st0) := by
  intro T hT X
  rcases hr T hT X with ⟨v, st₀, t, T', L, h0, X', hL, e1, e2, ⟨⟨u, hv, hp, hb⟩, hF⟩, st⟩ | ⟨q, st₀, t, T', L, E, ce, h0, X', hL, e1, e2, ⟨u, hp, hb, hF⟩, hce, hcv, hcl, st⟩
  · cases hv
    obtain ⟨k1, k2, k3⟩ := vx_keep h0 e1 hS hA hf hL hF
    obtain ⟨t2, a1, b1⟩ := kk u t T'.heap (locs ++ L) e1.symm (by rw [← e2]; exact X'.warmed.alike) hp hb k1 k2 k3 T' rfl X'
    exact ⟨t2, st t2 a1, b1⟩
  · obtain ⟨k1, k2, k3⟩ := vx_keep h0 e1 hS hAX hf hL hF
    obtain ⟨t2, a1, b1⟩ := kx E ce q u t T'.heap (locs ++ L) e1.symm (by rw [← e2]; exact X'.warmed.alike) hp hb k1 k2 k3 (by rw [e1]; exact hce) hcv hcl T' rfl X'
    exact ⟨t2, st.trans a1, b1⟩
/-- caught by the row x of this method's table; the rows ahead don't take it -/
theorem vx_catch {own name : String} {E : String} {ce : Cell} {q : Addr} (hown : s.vm.findClass own = some m.cls) (pre : List ExceptionTableEntry) (x : ExceptionTableEntry) (suf : List ExceptionTableEntry) (hsplit : c.exceptionTable.toList = pre ++ x :: suf)
    (hpass : ∀ z ∈ pre, covers z pc = false ∨ (z.catchType ≠ 0 ∧ ∃ nm : String, (Cond.classLink own z.catchType nm).before args s = true ∧ va_Nc E nm s)) (hx : covers x pc = true) (h0 : x.catchType ≠ 0)
    (hlink : (Cond.classLink own x.catchType name).before args s = true) (hcast : (Cond.castable E name).before args s = true) (hcell : H[q]? = some ce) (hv : ce.vm = .none) (hcl : s.vm.findClass E = some ce.cls)
    (kk : W p l e R s m args below meth c H locs cells slots Q (F0 m x.handlerPc ls [.ref q])) : vx_W p l e R s m args below meth c H locs cells slots Q (F0 m pc ls rest) q := by
  intro T hT X
  have hpl : e.platform.magicAccessors = ({} : Platform).magicAccessors := by rw [X.admits.platform]
  obtain ⟨c3, c4, hc3, hc4, hasg⟩ := Cond.castable_spec hcast
  cases Option.some.inj (hc3.symm.trans hcl)
  obtain ⟨c5, hc5, hcl5⟩ := Cond.classLink_spec hown hlink e.platform hpl
  cases Option.some.inj (hc4.symm.trans hc5)
  obtain ⟨vm', X', st⟩ := X.thenCaughtThrough q (g := F0 m pc ls rest) rfl (Steps.refl _) (by rw [hT]; exact hcell) (by rw [hv]; rfl) (by obtain ⟨k9, h9, -⟩ := Vm.findClass_spec hcl; exact ⟨k9, h9⟩) pre x suf hsplit
    (fun z hz => by
      rcases hpass z hz with h | ⟨hz0, nm, hl1, hn1⟩
      · exact Or.inl h
      · obtain ⟨c6, hc6, hcl6⟩ := Cond.classLink_spec hown hl1 e.platform hpl
        obtain ⟨a8, b8, h1, h2, h3⟩ := hn1
        cases Option.some.inj (h1.symm.trans hcl)
        cases Option.some.inj (h2.symm.trans hc6)
        exact Or.inr ⟨hz0, _, hcl6, h3⟩) hx (Or.inr ⟨h0, c4, hcl5, hasg⟩)
  obtain ⟨t, a1, b1⟩ := kk (T.setVm vm') hT X'
  exact ⟨t, st.trans a1, b1⟩
end Rows
section Ends
variable {p : Program} {l : Launch} {e : Env} {R : Room} {s : State} {m : MethodId} {args : Array Value} {below : List Frame} {meth : Method} {c : Code} {H : Heap} {locs : List Loc} {cells slots : Nat} {Q : State → Prop}
variable {mc ms : Nat} {free : Addr → Prop} {A0 A1 : Nat → Prop} {H0 : Heap} {a : Array Value} {ls : Array Slot} {st0 rest : List Value}
variable {Qc : Array Value → State → Outcome → State → Prop} {XC : String → State → State → Prop}
/-- what a body that may throw owes at its end -/
def vx_MQ (below : List Frame) (Qc : Array Value → State → Outcome → State → Prop) (XC : String → State → State → Prop) (a : Array Value) (s : State) (mc ms : Nat) (free : Addr → Prop) : State → Prop := fun t =>
  ∃ o, t.status = .running ∧ Ended t below o ∧ vx_Q Qc XC mc ms free a s o t
theorem vx_ret {g : JFrame} {mc ms : Nat} (k : W p l e R s m args below meth c H locs cells slots (MQ below Qc args s mc ms free) g) : W p l e R s m args below meth c H locs cells slots (vx_MQ below Qc XC args s mc ms free) g := by
  intro T hT X
  obtain ⟨t, a1, o, b1, b2, b3, b4⟩ := k T hT X
  exact ⟨t, a1, o, b1, b2, Or.inl ⟨b3, b4⟩⟩
/-- not caught here: it goes on to the caller -/
theorem vx_widen {g : JFrame} {q : Addr} {k n : Nat} (h1 : cells ≤ k) (h2 : slots ≤ n) (kk : vx_W p l e R s m args below meth c H locs k n Q g q) : vx_W p l e R s m args below meth c H locs cells slots Q g q := fun T hT X => kk T hT (stand_widen X h1 h2)
theorem vx_out {pc : Nat} {E : String} {ce : Cell} {q : Addr} {mc ms : Nat} (hout : ∀ x ∈ c.exceptionTable.toList, covers x pc = false) (hlocks : meth.locks = false) (hcell : H[q]? = some ce) (hv : ce.vm = .none) (hcl : s.vm.findClass E = some ce.cls)
    (hx : ∀ t : State, t.heap = H → s.vm.Alike t.vm → XC E s t) (hf : ∀ z ∈ locs, free z.base) (hc : cells ≤ mc) (hs : slots ≤ ms) :
    vx_W p l e R s m args below meth c H locs cells slots (vx_MQ below Qc XC args s mc ms free) (F0 m pc ls rest) q := by
  intro T hT X
  obtain ⟨st1, hrun, hend, hW, hsm⟩ := X.leaveThrown q (g := F0 m pc ls rest) rfl rfl rfl hout hlocks
  have hcell9 : (T.setFrames (.throwing q :: below)).heap[q]? = some ce := by
    show T.heap[q]? = some ce
    rw [hT]; exact hcell
  exact ⟨_, st1, .threw q, hrun, hend, Or.inr ⟨q, rfl, E, ce, locs, hx _ hT hW.alike, hcell9, hv, hcl, hW, hsm.mono hc hs, hf⟩⟩
theorem vx_frame {U : State} {k n : Nat} (h : s.sameButNew ({ U with vm := s.vm } : State) locs k n) : s.heap.size ≤ U.heap.size ∧ ∀ q : Nat, q < s.heap.size → (∀ z ∈ locs, z.base ≠ q) → U.heap[q]? = s.heap[q]? := by
  obtain ⟨-, h2, -, -, -, h6⟩ := h
  refine ⟨h2, fun q hq hz => ?_⟩
  obtain ⟨c9, e1, e2, e3, e4⟩ := h6 q _ (Array.getElem?_eq_getElem hq)
  have hs : c9.slots = (s.heap[q]).slots := Array.ext_getElem? fun i => e4 i fun hm => hz _ hm rfl
  have h9 : c9 = s.heap[q] := by
    rw [hs] at e2
    exact e2
  have e5 : U.heap[q]? = some c9 := e1
  rw [e5, h9, Array.getElem?_eq_getElem hq]
/-- the words of a throw but the four that speak of the heap -/
def vx_no (w : Cond) : Bool := decide (w ≠ .isRef (.static Bundle.tN "UNASSIGNED_STACK" Bundle.steD)) && decide (w ≠ .isRef (.static Bundle.tN "SUPPRESSED_SENTINEL" Bundle.listD)) && decide (w ≠ .laysStatic Bundle.tN "UNASSIGNED_STACK" Bundle.steD) && decide (w ≠ .laysStatic Bundle.tN "SUPPRESSED_SENTINEL" Bundle.listD)
def vx_at0 (own : String) (ic : Nat) (X : String) (names : List String) : List Cond := (Bundle.ownAtoms0 own ic X names).filter vx_no
def vx_atS (own : String) (ic : Nat) (X : String) (names : List String) : List Cond := (Bundle.ownAtoms own ic X names).filter vx_no
/-- a word that the tables alone decide, or a good one -/
def vx_ot (w : Cond) : Bool := w.onTables || goodWord w
theorem vx_ot_at {args a' : Array Value} {s U : State} {w : Cond} (hW : s.WarmedH U.vm) (hvm : s.vm = U.vm) (hg : vx_ot w = true) (h : w.before args s = true) : w.before a' U = true := by
  simp only [vx_ot, Bool.or_eq_true] at hg
  rcases hg with hg | hg
  · exact va_tabs hg hvm h
  · exact word_at hW (good_of_word hg) h
/-- a list's words: the good ones out of the method's own list, the others by premises of their own -/
theorem vx_hat {args : Array Value} {s : State} {L B : List Cond} (h1 : ∀ w ∈ L.filter goodWord, w.before args s = true) (h2 : ∀ w ∈ L.filter (fun w => !goodWord w), w ∈ B) (h3 : ∀ w ∈ B, w.before args s = true) : ∀ w ∈ L, w.before args s = true := by
  intro w hw
  by_cases g : goodWord w = true
  · exact h1 w (List.mem_filter.mpr ⟨hw, g⟩)
  · refine h3 w (h2 w (List.mem_filter.mpr ⟨hw, ?_⟩))
    show (!goodWord w) = true
    cases hgw : goodWord w
    · rfl
    · exact absurd hgw g
theorem vx_c {args : Array Value} {s : State} {w : Cond} {B : List Cond} (h : w.before args s = true) (t : ∀ w ∈ B, w.before args s = true) : ∀ w' ∈ w :: B, w'.before args s = true := fun w' h' => (List.mem_cons.mp h').elim (fun e => by rw [e]; exact h) (t w')
theorem vx_n {args : Array Value} {s : State} : ∀ w ∈ ([] : List Cond), w.before args s = true := fun _ h => nomatch h
theorem vx_own {args : Array Value} {s : State} {L : List Cond} (h1 : ∀ w ∈ L.filter vx_no, w.before args s = true)
    (hU : (Cond.isRef (.static Bundle.tN "UNASSIGNED_STACK" Bundle.steD)).before args s = true) (hN : (Cond.isRef (.static Bundle.tN "SUPPRESSED_SENTINEL" Bundle.listD)).before args s = true)
    (lU : (Cond.laysStatic Bundle.tN "UNASSIGNED_STACK" Bundle.steD).before args s = true) (lN : (Cond.laysStatic Bundle.tN "SUPPRESSED_SENTINEL" Bundle.listD).before args s = true) : ∀ w ∈ L, w.before args s = true := by
  intro w hw
  by_cases e1 : w = .isRef (.static Bundle.tN "UNASSIGNED_STACK" Bundle.steD)
  · rw [e1]; exact hU
  · by_cases e2 : w = .isRef (.static Bundle.tN "SUPPRESSED_SENTINEL" Bundle.listD)
    · rw [e2]; exact hN
    · by_cases e3 : w = .laysStatic Bundle.tN "UNASSIGNED_STACK" Bundle.steD
      · rw [e3]; exact lU
      · by_cases e4 : w = .laysStatic Bundle.tN "SUPPRESSED_SENTINEL" Bundle.listD
        · rw [e4]; exact lN
        · exact h1 w (List.mem_filter.mpr ⟨hw, by unfold vx_no; rw [decide_eq_true e1, decide_eq_true e2, decide_eq_true e3, decide_eq_true e4]; rfl⟩)
/-- where a static field lies, its class's statics cell in H -/
def vx_L (C n d : String) (A : Nat → Prop) (U : State) (H : Heap) : Prop := ∃ (c : ClassId) (k : Class) (i : Nat) (f : Field) (a : Nat) (cell : Cell), U.vm.findClass C = some c ∧ U.fieldFound? C n d = some (c, k, i, f) ∧ f.isStatic = true ∧ k.statics = some a ∧ H[a]? = some cell ∧ cell.vm.isStatics = true ∧ cell.cls = c ∧ f.slot < cell.slots.size ∧ k.staticTypes[f.slot]? = some f.type ∧ ¬ A a
theorem vx_L.moved {C n d : String} {A : Nat → Prop} {u U : State} {H : Heap} (hvm : u.vm.Alike U.vm) (h : vx_L C n d A u H) : vx_L C n d A U H := by
  obtain ⟨c, k, i, f, a, cell, h1, h2, h3, h4, h5, h6, h7, h8, h9, h10⟩ := h
  obtain ⟨k', hi', he⟩ := State.fieldFound?_setVm hvm h2
  exact ⟨c, k', i, f, a, cell, by rw [hvm.findClass]; exact h1, hi', h3, by rw [he]; exact h4, h5, h6, h7, h8, by rw [he]; exact h9, h10⟩
theorem vx_L.kept {C n d : String} {A : Nat → Prop} {U : State} {H H1 : Heap} (h : vx_L C n d A U H) (hq : ∀ a : Nat, a < H.size → ¬ A a → H1[a]? = H[a]?) : vx_L C n d A U H1 := by
  obtain ⟨c, k, i, f, a, cell, h1, h2, h3, h4, h5, h6, h7, h8, h9, h10⟩ := h
  exact ⟨c, k, i, f, a, cell, h1, h2, h3, h4, by rw [hq a (Array.getElem?_eq_some_iff.mp h5).1 h10]; exact h5, h6, h7, h8, h9, h10⟩
theorem vx_L.narrow {C n d : String} {A B : Nat → Prop} {U : State} {H : Heap} (h : vx_L C n d A U H) (hAB : ∀ q, B q → A q) : vx_L C n d B U H := by
  obtain ⟨c, k, i, f, a, cell, h1, h2, h3, h4, h5, h6, h7, h8, h9, h10⟩ := h
  exact ⟨c, k, i, f, a, cell, h1, h2, h3, h4, h5, h6, h7, h8, h9, fun z => h10 (hAB _ z)⟩
theorem vx_L.word {C n d : String} {A : Nat → Prop} {s : State} {args : Array Value} (h : vx_L C n d A s s.heap) : (Cond.laysStatic C n d).before args s = true := by
  obtain ⟨c, k, i, f, a, cell, h1, h2, h3, h4, h5, h6, h7, h8, h9, -⟩ := h
  show (Cond.laysStatic C n d).holds args s none s [] = true
  exact Cond.laysStatic_of h1 h2 h3 h4 h5 h6 h7 h8 h9
/-- .. and what it holds: null or some reference -/
def vx_Zq (C n d : String) (A : Nat → Prop) (U : State) (H : Heap) : Prop := va_Zq C n d A U H ∧ vx_L C n d A U H
theorem vx_Zq.moved {C n d : String} {A : Nat → Prop} {u U : State} {H : Heap} (hvm : u.vm.Alike U.vm) (h : vx_Zq C n d A u H) : vx_Zq C n d A U H := ⟨va_Zq.moved hvm h.1, vx_L.moved hvm h.2⟩
theorem vx_Zq.kept {C n d : String} {A : Nat → Prop} {U : State} {H H1 : Heap} (h : vx_Zq C n d A U H) (hq : ∀ a : Nat, a < H.size → ¬ A a → H1[a]? = H[a]?) : vx_Zq C n d A U H1 := ⟨va_Zq.kept h.1 hq, vx_L.kept h.2 hq⟩
theorem vx_Zq.narrow {C n d : String} {A B : Nat → Prop} {U : State} {H : Heap} (h : vx_Zq C n d A U H) (hAB : ∀ q, B q → A q) : vx_Zq C n d B U H := ⟨va_Zq.narrow h.1 hAB, vx_L.narrow h.2 hAB⟩
theorem vx_Zqof {args : Array Value} {s : State} {C n d : String} {A : Nat → Prop} (hl : (Cond.laysStatic C n d).before args s = true) (hini : (Cond.initialized C).before args s = true) (h : (Cond.isRef (.static C n d)).before args s = true) (hA : ∀ a : Nat, a < s.heap.size → ¬ A a) : vx_Zq C n d A s s.heap := by
  refine ⟨va_Zqof hl hini h hA, ?_⟩
  obtain ⟨c, k, i, f, a, cell, h1, h2, h3, h4, h5, h6, h7, h8, h9⟩ := Cond.laysStatic_spec hl
  exact ⟨c, k, i, f, a, cell, h1, h2, h3, h4, h5, h6, h7, h8, h9, hA a (Array.getElem?_eq_some_iff.mp h5).1⟩
theorem vx_isRef {C n d : String} {v : Value} {A : Nat → Prop} {s : State} {args : Array Value} (h : va_Z C n d v A s s.heap) (hv : v.isRef = true) : (Cond.isRef (.static C n d)).before args s = true := by
  obtain ⟨cf, kf, fi, f, a, cell, h1, h2, h3, h4, h5, h6, h7, -⟩ := h
  have he : (Term.static C n d).eval args s none [] s = some v := by
    simp [Term.eval, State.fieldNamed?, h1, h2, h4, h5, h6, h7]
  simp only [Cond.before, Cond.holds, Cond.value, he]
  cases v <;> simp_all [Value.isRef]
theorem vx_isRefq {C n d : String} {A : Nat → Prop} {s : State} {args : Array Value} (h : va_Zq C n d A s s.heap) : (Cond.isRef (.static C n d)).before args s = true := by
  rcases h with h | ⟨t, h⟩
  · exact vx_isRef h rfl
  · exact vx_isRef h rfl
/-- the same frame, seen from here: as if the method were called anew in this heap -/
theorem vx_rebase {T : State} (X : Stand p l e R s m args below meth c T locs cells slots) {R' : Room} (hf : R'.frames ≤ R.frames) (hl : R'.locals ≤ R.locals) (hc : cells + R'.cells ≤ R.cells) (hs : slots + R'.slots ≤ R.slots) :
    Stand p l e R' ((T.setVm s.vm).setFrames (.invoking m args :: below)) m args below meth c T [] 0 0 := by
  have htop : (T.setVm s.vm).topJava?.isSome := X.here.top
  have hF : ((T.setVm s.vm).setFrames (.invoking m args :: below)).frames = .invoking m args :: below := State.frames_setFrames _ (State.cur_lt_of_top htop)
  obtain ⟨g₀, hg0⟩ := Option.isSome_iff_exists.mp htop
  obtain ⟨r, hr⟩ := State.topJava?_eq_some.mp hg0
  have hl9 : e.platform.stackLimits (T.setVm s.vm).me = e.platform.stackLimits s.me := X.limits
  have hb9 : (T.setVm s.vm).me.stackBytes = s.me.stackBytes := X.bytes
  refine ⟨X.admits, X.cas, X.clock, hF, ?_, X.hears, X.method, X.code, X.here, X.tail, X.warmed, ?_, ?_, ?_⟩
  · have h := X.room
    have hU : ((T.setVm s.vm).setFrames (.invoking m args :: below)).localsInUse = s.localsInUse := by
      rw [State.localsInUse_invoking hF (meth := meth) (c := c) X.method X.code, State.localsInUse_invoking X.frames X.method X.code]
    simp only [State.hasRoom, Bool.and_eq_true, decide_eq_true_eq] at h ⊢
    obtain ⟨⟨⟨⟨h1, h2, h3, h4, h5, h6⟩, h7⟩, h8⟩, h9⟩ := h
    rw [X.frames, List.length_cons] at h2 h3
    have q1 := X.heapSize
    have q2 := X.used
    simp only [hF, hU, List.length_cons, State.stackLimits_setFrames, State.stackBytes_setFrames, hl9, hb9]
    refine ⟨⟨⟨⟨by omega, by omega, by omega, by omega, by omega, h6⟩, ?_⟩, ?_⟩, X.book⟩
    · show T.heap.size + R'.cells ≤ e.platform.maxCells
      omega
    · show T.slotsUsed + R'.slots ≤ e.platform.maxSlots
      omega
  · rw [State.stackLimits_setFrames]; rfl
  · rw [State.stackBytes_setFrames]; rfl
  · refine ⟨?_, Nat.le_refl _, Nat.le_refl _, ?_, ?_, fun a c9 h9 => ⟨c9, h9, rfl, rfl, fun _ _ => rfl⟩⟩
    · obtain ⟨t, ht, -⟩ := State.frames_cons hr
      show T.setVm s.vm = { ((T.setVm s.vm).setFrames (.invoking m args :: below)).setFrames (T.setVm s.vm).frames with heap := T.heap, slotsUsed := T.slotsUsed }
      rw [State.setFrames_setFrames, State.setFrames_self ht]
      rfl
    · show T.slotsUsed = T.slotsUsed + ((T.heap.toList.drop T.heap.size).map (·.slots.size)).sum
      rw [List.drop_eq_nil_of_le (Nat.le_of_eq Array.length_toList)]
      rfl
    · show ((T.heap.toList.drop T.heap.size).map (·.slots.size)).sum ≤ 0
      rw [List.drop_eq_nil_of_le (Nat.le_of_eq Array.length_toList)]
      exact Nat.le_refl _
/-- 'throw new E()': new; dup; invokespecial; athrow -/
theorem vx_throw0 {cc : ByteArray} {pc : Nat} (hexec : p.tables.exec = Jvm.exec) (hb : c.code = cc) (hl : l.stackTraces = false) {own cls : String} {names : List String} {ik ic mc ms : Nat} {A : Nat → Prop}
    (hown : s.vm.findClass own = some m.cls) (hcls : Bundle.fit cls = true) (hnames : ∀ n ∈ names, Bundle.fit n = true)
    (hk : (Cond.classLink own ik cls).before args s = true) (hini : (Cond.initialized cls).before args s = true) (hat : ∀ w ∈ vx_at0 own ic cls names, w.before args s = true)
    (hgood : ∀ w ∈ Cond.classLink own ik cls :: Cond.initialized cls :: vx_at0 own ic cls names, vx_ot w = true)
    (hU : vx_Zq Bundle.tN "UNASSIGNED_STACK" Bundle.steD A s s.heap) (hN : vx_Zq Bundle.tN "SUPPRESSED_SENTINEL" Bundle.listD A s s.heap) (hS : va_S A s.heap H locs) (hsize : ls.size = c.maxLocals)
    (d0 : decode cc pc = .ok (.new ik, 3)) (d3 : decode cc (pc + 3) = .ok (.dup, 1)) (d4 : decode cc (pc + 4) = .ok (.invokespecial ic, 3)) (d7 : decode cc (pc + 7) = .ok (.athrow, 1))
    (hout : ∀ x ∈ c.exceptionTable.toList, covers x (pc + 7) = false)
    (hRframes : names.length + 3 < R.frames) (hRlocals : (rest.map fun v => v.category).sum + (13 * (names.length + 1) + 42) ≤ R.locals) (hRcells : cells + 1 ≤ R.cells) (hRslots : slots + 6 ≤ R.slots) (hlocks : meth.locks = false)
    (hx : ∀ t : State, s.vm.Alike t.vm → H.size ≤ t.heap.size → (∀ q : Nat, q < H.size → t.heap[q]? = H[q]?) → XC cls s t)
    (hf : ∀ z ∈ locs, free z.base) (hc : cells + 1 ≤ mc) (hs : slots + 6 ≤ ms) :
    W p l e R s m args below meth c H locs cells slots (vx_MQ below Qc XC args s mc ms free) (F0 m pc ls rest) := by
  intro T hT X
  have htr : e.platform.stackTraces = false := (show e.platform.stackTraces = l.stackTraces by rw [X.admits.platform]).trans hl
  have Y := vx_rebase X (R' := { frames := R.frames, locals := R.locals, cells := 1, slots := 6 }) (Nat.le_refl _) (Nat.le_refl _) hRcells hRslots
  obtain ⟨s', hA⟩ : ∃ z, z = (T.setVm s.vm).setFrames (.invoking m args :: below) := ⟨_, rfl⟩
  rw [← hA] at Y
  have hvm : s'.vm = s.vm := by rw [hA]; rfl
  have hhp : s'.heap = H := by rw [hA]; exact hT
  have hW0 : s.WarmedH s'.vm := by rw [hvm]; exact State.WarmedH.refl s
  have hat' : ∀ w ∈ vx_at0 own ic cls names, w.before args s' = true := fun w hw => vx_ot_at hW0 hvm.symm (hgood w (List.mem_cons_of_mem _ (List.mem_cons_of_mem _ hw))) (hat w hw)
  have hk' : (Cond.classLink own ik cls).before args s' = true := vx_ot_at hW0 hvm.symm (hgood _ List.mem_cons_self) hk
  have hini' : (Cond.initialized cls).before args s' = true := vx_ot_at hW0 hvm.symm (hgood _ (List.mem_cons_of_mem _ List.mem_cons_self)) hini
  have hU' : vx_Zq Bundle.tN "UNASSIGNED_STACK" Bundle.steD A s' s'.heap := by rw [hhp]; exact vx_Zq.moved hW0.alike (hU.kept hS.2.1)
  have hN' : vx_Zq Bundle.tN "SUPPRESSED_SENTINEL" Bundle.listD A s' s'.heap := by rw [hhp]; exact vx_Zq.moved hW0.alike (hN.kept hS.2.1)
  have h : ∀ w ∈ Bundle.ownAtoms0 own ic cls names, w.before args s' = true := vx_own hat' (vx_isRefq hU'.1) (vx_isRefq hN'.1) hU'.2.word hN'.2.word
  have hown' : s'.vm.findClass own = some m.cls := by rw [hvm]; exact hown
  have hins : (Cond.instantiable cls 6).before args s' = true := h _ (by simp [Bundle.ownAtoms0])
  obtain ⟨vm₁, cX, kX, hfX, hkX, -, -, X₁, st1⟩ := Y.newCold hexec (own := own) (C := cls) (index := ik) (n := 6) hown' hk' hins hini'
    (g := F0 m pc ls rest) rfl (by rw [hb]; exact d0) (Nat.le_refl _) (Nat.le_refl _)
  generalize hT1 : (T.setVm vm₁).pushCell { cls := cX, slots := kX.instanceTypes.map defaultValue, vm := .none } = T1 at X₁ st1
  have hcat : (Value.ref T.heap.size).category = 1 := rfl
  have hcellA : T1.heap[T.heap.size]? = some (freshCell cX kX) := by rw [← hT1]; exact State.heap_pushCell_size _ _
  have d3' : decode c.code (pc + 3) = .ok (.dup, 1) := by rw [hb]; exact d3
  obtain ⟨U, hsteps, hrun, hend, hW, hsame, ce, hce, hO⟩ := X₁.ctorThrow0 hexec htr (own := own) (cls := cls) (names := names) (ic := ic) hown' hcls hnames h (fun x hx => nomatch hx) hfX hkX hcellA (by rw [hhp, hT]; exact Nat.le_refl _)
    (g := { method := m, pc := pc + 4, locals := ls, stack := .ref T.heap.size :: .ref T.heap.size :: rest, locked := none }) rfl hsize rfl rfl (rest := rest) rfl
    (by rw [hb]; exact d4) (by rw [hb]; exact d7) hout hRframes (by simp only [List.map_cons, List.sum_cons, hcat]; omega) hlocks
  obtain ⟨f1, f2⟩ := vx_frame hsame
  rw [hhp] at f1 f2
  have hWs : s.WarmedH U.vm := State.WarmedH.trans hW0 hW
  have hcl : s.vm.findClass cls = some ce.cls := by
    have h9 := hO.cls
    rw [hvm] at h9
    exact h9
  have hall : s.sameButNew ({ U with vm := s.vm } : State) locs mc ms := by
    subst hA
    obtain ⟨e1, e2⟩ := hsame
    rw [State.setFrames_setFrames] at e1
    have h2 : (T.setVm s.vm).sameButNew ({ U with vm := s.vm } : State) [] (0 + 1) (0 + 6) := ⟨e1, e2⟩
    have h3 := X.same.trans h2
    rw [List.append_nil] at h3
    exact h3.mono hc hs
  refine ⟨U, ?_, .threw T.heap.size, hrun, hend, Or.inr ⟨T.heap.size, rfl, cls, ce, locs, hx U hWs.alike f1 (fun q hq => f2 q hq (fun z hz => nomatch hz)), hce, hO.vm, hcl, hWs, hall, hf⟩⟩
  refine st1 _ ?_
  show Steps p.tables e below (T1.setTop { method := m, pc := pc + 3, locals := ls, stack := .ref T.heap.size :: rest, locked := none }) _
  jvm_step X₁.here [X₁.here.top, hexec, d3', Value.category]
  exact hsteps
/-- 'throw new E("text")': new; dup; ldc; invokespecial; athrow -/
theorem vx_throwS {cc : ByteArray} {pc : Nat} (hexec : p.tables.exec = Jvm.exec) (hb : c.code = cc) (hl : l.stackTraces = false) {own cls text : String} {names : List String} {ik is ic mc ms sa : Nat} {A : Nat → Prop}
    (hown : s.vm.findClass own = some m.cls) (hcls : Bundle.fit cls = true) (hnames : ∀ n ∈ names, Bundle.fit n = true)
    (hk : (Cond.classLink own ik cls).before args s = true) (hini : (Cond.initialized cls).before args s = true) (hstr : vk_R own is text sa s) (hat : ∀ w ∈ vx_atS own ic cls names, w.before args s = true)
    (hgood : ∀ w ∈ Cond.classLink own ik cls :: Cond.initialized cls :: vx_atS own ic cls names, vx_ot w = true)
    (hU : vx_Zq Bundle.tN "UNASSIGNED_STACK" Bundle.steD A s s.heap) (hN : vx_Zq Bundle.tN "SUPPRESSED_SENTINEL" Bundle.listD A s s.heap) (hS : va_S A s.heap H locs) (hsize : ls.size = c.maxLocals)
    (d0 : decode cc pc = .ok (.new ik, 3)) (d3 : decode cc (pc + 3) = .ok (.dup, 1)) (d4 : decode cc (pc + 4) = .ok (.ldc is, 2)) (d6 : decode cc (pc + 6) = .ok (.invokespecial ic, 3)) (d9 : decode cc (pc + 9) = .ok (.athrow, 1))
    (hout : ∀ x ∈ c.exceptionTable.toList, covers x (pc + 9) = false)
    (hRframes : names.length + 3 < R.frames) (hRlocals : (rest.map fun v => v.category).sum + (13 * (names.length + 1) + 43) ≤ R.locals) (hRcells : cells + 1 ≤ R.cells) (hRslots : slots + 6 ≤ R.slots) (hlocks : meth.locks = false)
    (hx : ∀ t : State, s.vm.Alike t.vm → H.size ≤ t.heap.size → (∀ q : Nat, q < H.size → t.heap[q]? = H[q]?) → XC cls s t)
    (hf : ∀ z ∈ locs, free z.base) (hc : cells + 1 ≤ mc) (hs : slots + 6 ≤ ms) :
    W p l e R s m args below meth c H locs cells slots (vx_MQ below Qc XC args s mc ms free) (F0 m pc ls rest) := by
  intro T hT X
  have htr : e.platform.stackTraces = false := (show e.platform.stackTraces = l.stackTraces by rw [X.admits.platform]).trans hl
  have Y := vx_rebase X (R' := { frames := R.frames, locals := R.locals, cells := 1, slots := 6 }) (Nat.le_refl _) (Nat.le_refl _) hRcells hRslots
  obtain ⟨s', hA⟩ : ∃ z, z = (T.setVm s.vm).setFrames (.invoking m args :: below) := ⟨_, rfl⟩
  rw [← hA] at Y
  have hvm : s'.vm = s.vm := by rw [hA]; rfl
  have hhp : s'.heap = H := by rw [hA]; exact hT
  have hW0 : s.WarmedH s'.vm := by rw [hvm]; exact State.WarmedH.refl s
  have hat' : ∀ w ∈ vx_atS own ic cls names, w.before args s' = true := fun w hw => vx_ot_at hW0 hvm.symm (hgood w (List.mem_cons_of_mem _ (List.mem_cons_of_mem _ hw))) (hat w hw)
  have hk' : (Cond.classLink own ik cls).before args s' = true := vx_ot_at hW0 hvm.symm (hgood _ List.mem_cons_self) hk
  have hini' : (Cond.initialized cls).before args s' = true := vx_ot_at hW0 hvm.symm (hgood _ (List.mem_cons_of_mem _ List.mem_cons_self)) hini
  have hU' : vx_Zq Bundle.tN "UNASSIGNED_STACK" Bundle.steD A s' s'.heap := by rw [hhp]; exact vx_Zq.moved hW0.alike (hU.kept hS.2.1)
  have hN' : vx_Zq Bundle.tN "SUPPRESSED_SENTINEL" Bundle.listD A s' s'.heap := by rw [hhp]; exact vx_Zq.moved hW0.alike (hN.kept hS.2.1)
  have h : ∀ w ∈ Bundle.ownAtoms own ic cls names, w.before args s' = true := vx_own hat' (vx_isRefq hU'.1) (vx_isRefq hN'.1) hU'.2.word hN'.2.word
  have hown' : s'.vm.findClass own = some m.cls := by rw [hvm]; exact hown
  have hins : (Cond.instantiable cls 6).before args s' = true := h _ (by simp [Bundle.ownAtoms])
  obtain ⟨vm₁, cX, kX, hfX, hkX, -, -, X₁, st1⟩ := Y.newCold hexec (own := own) (C := cls) (index := ik) (n := 6) hown' hk' hins hini'
    (g := F0 m pc ls rest) rfl (by rw [hb]; exact d0) (Nat.le_refl _) (Nat.le_refl _)
  generalize hT1 : (T.setVm vm₁).pushCell { cls := cX, slots := kX.instanceTypes.map defaultValue, vm := .none } = T1 at X₁ st1
  have hcat : (Value.ref T.heap.size).category = 1 := rfl
  have hcellA : T1.heap[T.heap.size]? = some (freshCell cX kX) := by rw [← hT1]; exact State.heap_pushCell_size _ _
  have d3' : decode c.code (pc + 3) = .ok (.dup, 1) := by rw [hb]; exact d3
  have d4' : decode c.code (pc + 4) = .ok (.ldc is, 2) := by rw [hb]; exact d4
  have hstr' : vk_R own is text sa s' := vk_R.warm hW0 hstr
  obtain ⟨U, hsteps, hrun, hend, hW, hsame, ce, hce, hO⟩ := X₁.ctorThrowS hexec htr (own := own) (cls := cls) (names := names) (ic := ic) hown' hcls hnames h (fun x hx => nomatch hx) hfX hkX hcellA (by rw [hhp, hT]; exact Nat.le_refl _) (msg := .ref sa) rfl
    (g := { method := m, pc := pc + 6, locals := ls, stack := .ref sa :: .ref T.heap.size :: .ref T.heap.size :: rest, locked := none }) rfl hsize rfl rfl (rest := rest) rfl
    (by rw [hb]; exact d6) (by rw [hb]; exact d9) hout hRframes (by simp only [List.map_cons, List.sum_cons, hcat]; omega) hlocks
  obtain ⟨f1, f2⟩ := vx_frame hsame
  rw [hhp] at f1 f2
  have hWs : s.WarmedH U.vm := State.WarmedH.trans hW0 hW
  have hcl : s.vm.findClass cls = some ce.cls := by
    have h9 := hO.cls
    rw [hvm] at h9
    exact h9
  have hall : s.sameButNew ({ U with vm := s.vm } : State) locs mc ms := by
    subst hA
    obtain ⟨e1, e2⟩ := hsame
    rw [State.setFrames_setFrames] at e1
    have h2 : (T.setVm s.vm).sameButNew ({ U with vm := s.vm } : State) [] (0 + 1) (0 + 6) := ⟨e1, e2⟩
    have h3 := X.same.trans h2
    rw [List.append_nil] at h3
    exact h3.mono hc hs
  refine ⟨U, ?_, .threw T.heap.size, hrun, hend, Or.inr ⟨T.heap.size, rfl, cls, ce, locs, hx U hWs.alike f1 (fun q hq => f2 q hq (fun z hz => nomatch hz)), hce, hO.vm, hcl, hWs, hall, hf⟩⟩
  refine st1 _ ?_
  show Steps p.tables e below (T1.setTop { method := m, pc := pc + 3, locals := ls, stack := .ref T.heap.size :: rest, locked := none }) _
  jvm_step X₁.here [X₁.here.top, hexec, d3', Value.category]
  exact X₁.ldcString hexec (own := own) (text := text) (index := is) (a := sa) hown' hstr'.1 hstr'.2
    (g := { method := m, pc := pc + 4, locals := ls, stack := .ref T.heap.size :: .ref T.heap.size :: rest, locked := none }) rfl d4' _ hsteps
/-- 'throw new E("text")', the text by a wide index -/
theorem vx_throwSW {cc : ByteArray} {pc : Nat} (hexec : p.tables.exec = Jvm.exec) (hb : c.code = cc) (hl : l.stackTraces = false) {own cls text : String} {names : List String} {ik is ic mc ms sa : Nat} {A : Nat → Prop}
    (hown : s.vm.findClass own = some m.cls) (hcls : Bundle.fit cls = true) (hnames : ∀ n ∈ names, Bundle.fit n = true)
    (hk : (Cond.classLink own ik cls).before args s = true) (hini : (Cond.initialized cls).before args s = true) (hstr : vk_R own is text sa s) (hat : ∀ w ∈ vx_atS own ic cls names, w.before args s = true)
    (hgood : ∀ w ∈ Cond.classLink own ik cls :: Cond.initialized cls :: vx_atS own ic cls names, vx_ot w = true)
    (hU : vx_Zq Bundle.tN "UNASSIGNED_STACK" Bundle.steD A s s.heap) (hN : vx_Zq Bundle.tN "SUPPRESSED_SENTINEL" Bundle.listD A s s.heap) (hS : va_S A s.heap H locs) (hsize : ls.size = c.maxLocals)
    (d0 : decode cc pc = .ok (.new ik, 3)) (d3 : decode cc (pc + 3) = .ok (.dup, 1)) (d4 : decode cc (pc + 4) = .ok (.ldc_w is, 3)) (d7 : decode cc (pc + 7) = .ok (.invokespecial ic, 3)) (d10 : decode cc (pc + 10) = .ok (.athrow, 1))
    (hout : ∀ x ∈ c.exceptionTable.toList, covers x (pc + 10) = false)
    (hRframes : names.length + 3 < R.frames) (hRlocals : (rest.map fun v => v.category).sum + (13 * (names.length + 1) + 43) ≤ R.locals) (hRcells : cells + 1 ≤ R.cells) (hRslots : slots + 6 ≤ R.slots) (hlocks : meth.locks = false)
    (hx : ∀ t : State, s.vm.Alike t.vm → H.size ≤ t.heap.size → (∀ q : Nat, q < H.size → t.heap[q]? = H[q]?) → XC cls s t)
    (hf : ∀ z ∈ locs, free z.base) (hc : cells + 1 ≤ mc) (hs : slots + 6 ≤ ms) :
    W p l e R s m args below meth c H locs cells slots (vx_MQ below Qc XC args s mc ms free) (F0 m pc ls rest) := by
  intro T hT X
  have htr : e.platform.stackTraces = false := (show e.platform.stackTraces = l.stackTraces by rw [X.admits.platform]).trans hl
  have Y := vx_rebase X (R' := { frames := R.frames, locals := R.locals, cells := 1, slots := 6 }) (Nat.le_refl _) (Nat.le_refl _) hRcells hRslots
  obtain ⟨s', hA⟩ : ∃ z, z = (T.setVm s.vm).setFrames (.invoking m args :: below) := ⟨_, rfl⟩
  rw [← hA] at Y
  have hvm : s'.vm = s.vm := by rw [hA]; rfl
  have hhp : s'.heap = H := by rw [hA]; exact hT
  have hW0 : s.WarmedH s'.vm := by rw [hvm]; exact State.WarmedH.refl s
  have hat' : ∀ w ∈ vx_atS own ic cls names, w.before args s' = true := fun w hw => vx_ot_at hW0 hvm.symm (hgood w (List.mem_cons_of_mem _ (List.mem_cons_of_mem _ hw))) (hat w hw)
  have hk' : (Cond.classLink own ik cls).before args s' = true := vx_ot_at hW0 hvm.symm (hgood _ List.mem_cons_self) hk
  have hini' : (Cond.initialized cls).before args s' = true := vx_ot_at hW0 hvm.symm (hgood _ (List.mem_cons_of_mem _ List.mem_cons_self)) hini
  have hU' : vx_Zq Bundle.tN "UNASSIGNED_STACK" Bundle.steD A s' s'.heap := by rw [hhp]; exact vx_Zq.moved hW0.alike (hU.kept hS.2.1)
  have hN' : vx_Zq Bundle.tN "SUPPRESSED_SENTINEL" Bundle.listD A s' s'.heap := by rw [hhp]; exact vx_Zq.moved hW0.alike (hN.kept hS.2.1)
  have h : ∀ w ∈ Bundle.ownAtoms own ic cls names, w.before args s' = true := vx_own hat' (vx_isRefq hU'.1) (vx_isRefq hN'.1) hU'.2.word hN'.2.word
  have hown' : s'.vm.findClass own = some m.cls := by rw [hvm]; exact hown
  have hins : (Cond.instantiable cls 6).before args s' = true := h _ (by simp [Bundle.ownAtoms])
  obtain ⟨vm₁, cX, kX, hfX, hkX, -, -, X₁, st1⟩ := Y.newCold hexec (own := own) (C := cls) (index := ik) (n := 6) hown' hk' hins hini'
    (g := F0 m pc ls rest) rfl (by rw [hb]; exact d0) (Nat.le_refl _) (Nat.le_refl _)
  generalize hT1 : (T.setVm vm₁).pushCell { cls := cX, slots := kX.instanceTypes.map defaultValue, vm := .none } = T1 at X₁ st1
  have hcat : (Value.ref T.heap.size).category = 1 := rfl
  have hcellA : T1.heap[T.heap.size]? = some (freshCell cX kX) := by rw [← hT1]; exact State.heap_pushCell_size _ _
  have d3' : decode c.code (pc + 3) = .ok (.dup, 1) := by rw [hb]; exact d3
  have d4' : decode c.code (pc + 4) = .ok (.ldc_w is, 3) := by rw [hb]; exact d4
  have hstr' : vk_R own is text sa s' := vk_R.warm hW0 hstr
  obtain ⟨U, hsteps, hrun, hend, hW, hsame, ce, hce, hO⟩ := X₁.ctorThrowS hexec htr (own := own) (cls := cls) (names := names) (ic := ic) hown' hcls hnames h (fun x hx => nomatch hx) hfX hkX hcellA (by rw [hhp, hT]; exact Nat.le_refl _) (msg := .ref sa) rfl
    (g := { method := m, pc := pc + 7, locals := ls, stack := .ref sa :: .ref T.heap.size :: .ref T.heap.size :: rest, locked := none }) rfl hsize rfl rfl (rest := rest) rfl
    (by rw [hb]; exact d7) (by rw [hb]; exact d10) hout hRframes (by simp only [List.map_cons, List.sum_cons, hcat]; omega) hlocks
  obtain ⟨f1, f2⟩ := vx_frame hsame
  rw [hhp] at f1 f2
  have hWs : s.WarmedH U.vm := State.WarmedH.trans hW0 hW
  have hcl : s.vm.findClass cls = some ce.cls := by
    have h9 := hO.cls
    rw [hvm] at h9
    exact h9
  have hall : s.sameButNew ({ U with vm := s.vm } : State) locs mc ms := by
    subst hA
    obtain ⟨e1, e2⟩ := hsame
    rw [State.setFrames_setFrames] at e1
    have h2 : (T.setVm s.vm).sameButNew ({ U with vm := s.vm } : State) [] (0 + 1) (0 + 6) := ⟨e1, e2⟩
    have h3 := X.same.trans h2
    rw [List.append_nil] at h3
    exact h3.mono hc hs
  refine ⟨U, ?_, .threw T.heap.size, hrun, hend, Or.inr ⟨T.heap.size, rfl, cls, ce, locs, hx U hWs.alike f1 (fun q hq => f2 q hq (fun z hz => nomatch hz)), hce, hO.vm, hcl, hWs, hall, hf⟩⟩
  refine st1 _ ?_
  show Steps p.tables e below (T1.setTop { method := m, pc := pc + 3, locals := ls, stack := .ref T.heap.size :: rest, locked := none }) _
  jvm_step X₁.here [X₁.here.top, hexec, d3', Value.category]
  exact X₁.ldcStringW hexec (own := own) (text := text) (index := is) (a := sa) hown' hstr'.1 hstr'.2
    (g := { method := m, pc := pc + 4, locals := ls, stack := .ref T.heap.size :: .ref T.heap.size :: rest, locked := none }) rfl d4' _ hsteps
end Ends
section Bodies
variable {l : Launch}
theorem vx_ofW {y : MethodName} {ws ws' : List Cond} {rm : Room} {Pc : Array Value → State → Prop} {Qc : Array Value → State → Outcome → State → Prop} {XC : String → State → State → Prop} {mc ms : Nat} {free : Addr → Prop} {cc : ByteArray} {maxL : Nat} {ret : Option FieldType}
    (hy : plainName y.cls = true) (hw : ws = Cond.code y cc maxL ret :: ws')
    (body : ∀ p e s m args below meth c s₁, BodyLoose p l y (headSpec ws rm) cc maxL ret e s m args below meth c s₁ → c.maxLocals = maxL → (∀ x ∈ c.exceptionTable.toList, False) → Pc args s →
      W p l e (headSpec ws rm).room s m args below meth c s.heap [] 0 0 (vx_MQ below Qc XC args s mc ms free) (entryFrame m args maxL)) : vx_Met l y ws rm Pc Qc XC mc ms free := by
  refine MetFree.of_bodyS (code := cc) (maxLocals := maxL) (ret := ret) hy ?_ ?_
  · intro args s m h hn
    obtain ⟨meth, c, h1, h2, h3, h4, h5, h6, -, -⟩ := Cond.code_spec hn (atoms_spec (ws := ws) h _ (by rw [hw]; exact List.mem_cons_self))
    exact ⟨meth, c, h1, h2, h3, h4, h5, h6⟩
  · intro p e s m args below meth c s₁ B hml hP _
    have hh0 : s₁.heap = s.heap := by rw [B.state]; rfl
    have ht : ∀ x ∈ c.exceptionTable.toList, False := by
      obtain ⟨meth9, c9, h1, h2, -, -, -, -, h7, -⟩ := Cond.code_spec B.named (atoms_spec (ws := ws) B.pre _ (by rw [hw]; exact List.mem_cons_self))
      cases Option.some.inj (h1.symm.trans B.method)
      cases Option.some.inj (h2.symm.trans (Stand.of_body B).code)
      intro x hx
      rw [Array.isEmpty_iff.mp h7] at hx
      cases hx
    obtain ⟨t, a1, o, b1, b2, b3⟩ := body p e s m args below meth c s₁ B hml ht hP s₁ hh0 (Stand.of_body B)
    exact ⟨t, o, a1, b1, b2, b3⟩
/-- the table of a body with handlers -/
theorem vx_table {p : Program} {x y : MethodName} {S : Spec} {cc bytes : ByteArray} {maxL maxL' : Nat} {ret ret' : Option FieldType} {e : Env} {s s₁ : State} {m : MethodId} {args : Array Value} {below : List Frame} {meth : Method} {c : Code} {hh : List (Nat × Nat × Nat × Nat)}
    (B : BodyLoose p l y S cc maxL ret e s m args below meth c s₁) (h : (Cond.codeWith y bytes maxL' ret' hh).before args s = true) : c.exceptionTable.toList = tableOf hh := by
  obtain ⟨m9, meth9, c9, hn9, h1, h2, -, -, h6, -⟩ := Cond.codeWith_spec h
  cases Option.some.inj (hn9.symm.trans B.named)
  cases Option.some.inj (h1.symm.trans B.method)
  cases Option.some.inj (h2.symm.trans (Stand.of_body B).code)
  rw [← h6, table_eq]
end Bodies
end VXA
/-! ===== END ===== -/
/-! ===== BEGIN a static call of a method with an exception table ===== -/
section VXS
variable {p : Program} {l : Launch} {e : Env} {R : Room} {s : State} {m : MethodId} {args : Array Value} {below : List Frame} {meth : Method} {c : Code} {T : State} {H : Heap} {locs : List Loc} {cells slots : Nat}
abbrev vx_CSW (R : Room) (s : State) (args : Array Value) (own : String) (index : Nat) (y : MethodName) (bytes : ByteArray) (maxL : Nat) (ret : Option FieldType) (hh : List (Nat × Nat × Nat × Nat)) (ws : List Cond) (rm : Room) (mc ms n : Nat) : Prop :=
  (rm.cells = mc ∧ rm.slots = ms ∧ rm.frames + 1 ≤ R.frames ∧ 8 + (maxL + 11) + rm.locals ≤ R.locals ∧ (∀ w ∈ ws, ∀ (a' : Array Value) (U : State), s.WarmedH U.vm → w.before a' U = true) ∧ Cond.codeWith y bytes maxL ret hh ∈ ws) ∧
  (Cond.codeWith y bytes maxL ret hh).before args s = true ∧ (Cond.initialized y.cls).before args s = true ∧ (y.cls ≠ "java/lang/invoke/MethodHandle" ∧ y.cls ≠ "java/lang/invoke/VarHandle") ∧
  (∀ sig, parseMethodDescriptor y.desc = some sig → n = sig.parameters.length) ∧ (Cond.methodLink own index y).before args s = true ∧ (Cond.static y).before args s = true
theorem vx_cwSW {own : String} {index maxL mc ms : Nat} {y : MethodName} {bytes : ByteArray} {ret : Option FieldType} {hh : List (Nat × Nat × Nat × Nat)} {Ts ws ws' : List Cond} {rm : Room} (n : Nat) (ht : ∀ w ∈ Ts, w.before args s = true) (hT : GoodIn Ts (va_wsS own index y ws)) (hw : ws = Cond.codeWith y bytes maxL ret hh :: ws') (hrc : rm.cells = mc) (hrs : rm.slots = ms)
    (hd : y.cls ≠ "java/lang/invoke/MethodHandle" ∧ y.cls ≠ "java/lang/invoke/VarHandle" ∧ (parseMethodDescriptor y.desc).map (fun d => d.parameters.length) = some n) (hR : rm.frames + 1 ≤ R.frames ∧ 8 + (maxL + 11) + rm.locals ≤ R.locals) :
    vx_CSW R s args own index y bytes maxL ret hh ws rm mc ms n := by
  have ok : ∀ w ∈ va_wsS own index y ws, w.before args s = true := fun w h => ht w (hT w h).1
  have hG : GoodIn Ts ws := fun w h => hT w (by unfold va_wsS; exact List.mem_append_right _ h)
  have hc : Cond.codeWith y bytes maxL ret hh ∈ ws := by rw [hw]; exact List.mem_cons_self
  refine ⟨⟨hrc, hrs, hR.1, hR.2, pay_in ht hG, hc⟩, ht _ (hG _ hc).1, ok _ (by simp [va_wsS]), ⟨hd.1, hd.2.1⟩, fun sig h => ?_, ok _ (by simp [va_wsS]), ok _ (by simp [va_wsS])⟩
  have h2 := hd.2.2
  rw [h] at h2
  exact (Option.some.inj h2).symm
theorem vx_callSW (X : Stand p l e R s m args below meth c T locs cells slots) (hexec : p.tables.exec = Jvm.exec) {own : String} {index : Nat} {y : MethodName} {bytes : ByteArray} {maxL : Nat} {ret : Option FieldType} {hh : List (Nat × Nat × Nat × Nat)}
    (hown : s.vm.findClass own = some m.cls) (hlink : (Cond.methodLink own index y).before args s = true) (hstat : (Cond.static y).before args s = true) (hinit : (Cond.initialized y.cls).before args s = true)
    (hcode : (Cond.codeWith y bytes maxL ret hh).before args s = true) (hy : y.cls ≠ "java/lang/invoke/MethodHandle" ∧ y.cls ≠ "java/lang/invoke/VarHandle")
    {W9 : Nat} {Pre : Pt → Array Value → Prop} {Post : Pt → Array Value → Option Value → Pt → Prop} (hK : Back l R p e below s args y 3 W9 Pre Post)
    {g : JFrame} (hg : g.method = m) (hsize : g.locals.size = c.maxLocals) {argsL rest : List Value} (hlen : ∀ sig, parseMethodDescriptor y.desc = some sig → argsL.length = sig.parameters.length)
    (hstack : g.stack = argsL.reverse ++ rest) (hW : 2 * g.monitorRoom + (rest.map fun v => v.category).sum ≤ W9) (hdg : decode c.code g.pc = .ok (.invokestatic index, 3))
    (hpre : ∀ vm₁, s.WarmedH vm₁ → Pre ⟨T.setVm vm₁, locs, cells, slots⟩ argsL.toArray) :
    ∃ (v : Option Value) (vm₁ : Vm) (B : Pt), s.WarmedH vm₁ ∧ Stand p l e R s m args below meth c B.U B.locs B.cells B.slots ∧ Post ⟨T.setVm vm₁, locs, cells, slots⟩ argsL.toArray v B ∧
      ∀ target, Steps p.tables e below (B.U.setTop { g with pc := g.pc + 3, stack := v.toList ++ rest }) target → Steps p.tables e below (T.setTop g) target := by
  obtain ⟨mk, methM, cM, hnamed, hmethM, -, -, -, -, -, -, hsigM⟩ := Cond.codeWith_spec hcode
  have hstatic : methM.isStatic = true := Cond.static_spec hnamed hmethM hstat
  obtain ⟨kP, hkP, -⟩ := className_of_methodNamed hnamed
  have hinitP : kP.init = .initialized := Cond.initialized_spec (findClass_of_methodNamed hnamed) hkP hinit
  obtain ⟨vm₁, X₁, hstep₁⟩ := X.invokestatic hexec hown hlink hnamed hmethM hstatic hkP hinitP hy (g := g) hg (argsL := argsL) (rest := rest) (hlen _ hsigM) hstack hdg
  obtain ⟨v, B, X', hpost, hsteps⟩ := hK m meth c ⟨T.setVm vm₁, locs, cells, slots⟩ { g with stack := rest } (.invokestatic index) mk argsL.toArray X₁ hg hsize hdg hW (X₁.named hnamed) (hpre vm₁ X₁.warmed)
  exact ⟨v, vm₁, B, X₁.warmed, X', hpost, fun target h => hstep₁ _ fun acts => by rw [doInvoke_state]; exact hsteps.trans h⟩
theorem vx_runSW {y : MethodName} {bytes cc : ByteArray} {maxL nL mc ms n index : Nat} {ret : Option FieldType} {hh : List (Nat × Nat × Nat × Nat)} {ws : List Cond} {rm : Room} {Pc : Array Value → State → Prop} {Qc : Array Value → State → Outcome → State → Prop} {free : Addr → Prop} {Ts : List Cond} {own : String} {As rest : List Value} {g : JFrame}
    (S : CallFix p m c cc nL s args Ts own) (hM : Met l y ws rm Pc Qc mc ms free) (cw : vx_CSW R s args own index y bytes maxL ret hh ws rm mc ms n) (hp : PreS s H Pc As)
    (hg : g.method = m) (hn : As.length = n) (hsize : g.locals.size = nL) (hstack : g.stack = As.reverse ++ rest) (hW : 2 * g.monitorRoom + (rest.map fun v => v.category).sum ≤ 8) (hdg : decode cc g.pc = .ok (.invokestatic index, 3)) (hf : cells + mc ≤ R.cells ∧ slots + ms ≤ R.slots) :
    va_Run p l e R s m args below meth c H locs cells slots mc ms g rest (Qc As.toArray) (free) := by
  obtain ⟨⟨hrc, hrs, hfr, hlo, hws, hcw⟩, hcode, hini, hy, hlen, hl, hstt⟩ := cw
  have hK : Back l R p e below s args y 3 8 (PreOf R mc ms Pc) (PostOf Qc mc ms free) := va_backW (hh := hh) (bytes := bytes) (maxL := maxL) (ret := ret) hM hp.1 hrc hrs hfr hlo hws hcw (fun a' U hW => word_at hW (Or.inl (by first | rfl | simp [Cond.onTables, Cond.keeps, Cond.steady])) hini)
  obtain ⟨hx, hb, hml, ho, -⟩ := S
  intro T hT X
  obtain ⟨v, vm₁, ⟨U', l2, c2, s2⟩, hW₁, X', ⟨g', mk, t, L, e1, e2, hq, h1, hL, h2, h3⟩, st⟩ := vx_callSW X hx (hh := hh) (bytes := bytes) (maxL := maxL) (ret := ret) ho hl hstt hini hcode hy hK hg (hsize.trans hml.symm) (argsL := As) (rest := rest) (fun sig h => hn.trans (hlen sig h)) hstack hW (by rw [hb]; exact hdg)
    (fun vm₁ hW₁ => ⟨hf.1, hf.2, hp.2 (T.setVm vm₁) hT hW₁⟩)
  dsimp only [Pt.U, Pt.locs, Pt.cells, Pt.slots] at X' e1 e2 h1 h2 h3 st
  subst h1; subst h2; subst h3
  exact ⟨v, (T.setVm vm₁).calling g' mk As.toArray, t, U', L, hT, X', hL, e1, e2, hq, st⟩
/-- not caught here, past rows that name other classes: it goes on to the caller -/
theorem vx_outP {p : Program} {l : Launch} {e : Env} {R : Room} {s : State} {m : MethodId} {args : Array Value} {below : List Frame} {meth : Method} {c : Code} {H : Heap} {locs : List Loc} {cells slots : Nat} {free : Addr → Prop} {ls : Array Slot} {rest : List Value} {Qc : Array Value → State → Outcome → State → Prop} {XC : String → State → State → Prop}
    {pc : Nat} {own E : String} {ce : Cell} {q : Addr} {mc ms : Nat} (hown : s.vm.findClass own = some m.cls) (hlocks : meth.locks = false)
    (hpass : ∀ z ∈ c.exceptionTable.toList, covers z pc = false ∨ (z.catchType ≠ 0 ∧ ∃ nm : String, (Cond.classLink own z.catchType nm).before args s = true ∧ va_Nc E nm s)) (hcell : H[q]? = some ce) (hv : ce.vm = .none) (hcl : s.vm.findClass E = some ce.cls)
    (hx : ∀ t : State, t.heap = H → s.vm.Alike t.vm → XC E s t) (hf : ∀ z ∈ locs, free z.base) (hc : cells ≤ mc) (hs : slots ≤ ms) :
    vx_W p l e R s m args below meth c H locs cells slots (vx_MQ below Qc XC args s mc ms free) (F0 m pc ls rest) q := by
  intro T hT X
  have hpl : e.platform.magicAccessors = ({} : Platform).magicAccessors := by rw [X.admits.platform]
  obtain ⟨vm', hW', X', st⟩ := X.outThrough hlocks q (g := F0 m pc ls rest) rfl rfl rfl (cell := ce) (by rw [hT]; exact hcell) (by rw [hv]; rfl)
    (by obtain ⟨k9, h9, -⟩ := Vm.findClass_spec hcl; exact ⟨k9, h9⟩) (fun z hz => by
      rcases hpass z hz with h | ⟨hz0, nm, hl1, hn1⟩
      · exact Or.inl h
      · obtain ⟨c6, hc6, hcl6⟩ := Cond.classLink_spec hown hl1 e.platform hpl
        obtain ⟨a8, b8, h1, h2, h3⟩ := hn1
        cases Option.some.inj (h1.symm.trans hcl)
        cases Option.some.inj (h2.symm.trans hc6)
        exact Or.inr ⟨hz0, _, hcl6, h3⟩)
  obtain ⟨g₀, hfr⟩ := X'.frames_eq
  have hcell9 : ((T.setVm vm').setFrames (.throwing q :: below)).heap[q]? = some ce := by
    show T.heap[q]? = some ce
    rw [hT]; exact hcell
  have hend : Ended ((T.setVm vm').setFrames (.throwing q :: below)) below (.threw q) := State.frames_setFrames _ (State.cur_lt_of_frames hfr)
  refine ⟨(T.setVm vm').setFrames (.throwing q :: below), ?_, .threw q, X'.here.running, hend, Or.inr ⟨q, rfl, E, ce, locs, hx _ hT (X'.ends _).1.alike, hcell9, hv, hcl, (X'.ends _).1, (X'.ends _).2.mono hc hs, hf⟩⟩
  rw [X.pushThrowing_eq]
  exact st
/-- a thing of a world lies in the heap -/
theorem vx_lt {D : va_G} {cl : List vw_C} {ws : va_W} {H1 : Heap} (h : va_P D cl ws H1) {k : Nat} {q : Nat × va_E} (hk : ws[k]? = some q) : q.1 < H1.size := (h k q hk).lt
end VXS
/-! ===== END ===== -/
/-! ===== BEGIN methods with a table of their own: called by a name, returning or throwing ===== -/
section VXH
/-! vx_backW, vx_callVX, vx_callSX, vx_callVW, vx_runVW, vx_runVX, vx_runSX, vx_ofWH follow the same proofs as their sisters above (Free/Laws.lean, Shelf42/LK1.lean); vx_outP calls Shelf42/NT130.lean (outThrough). -/
section
variable {l : Launch} {R : Room} {p : Program} {e : Env} {below : List Frame} {s : State} {sargs : Array Value} {y : MethodName} {len W9 : Nat}
theorem vx_backW {ws : List Cond} {rm : Room} {Pc : Array Value → State → Prop} {Qc : Array Value → State → Outcome → State → Prop} {XC : String → State → State → Prop} {mc ms : Nat} {free : Addr → Prop} {bytes : ByteArray} {maxL : Nat} {ret : Option FieldType} {hh : List (Nat × Nat × Nat × Nat)}
    (hM : vx_Met l y ws rm Pc Qc XC mc ms free) (hblind : FrameBlind Pc) (hrc : rm.cells = mc) (hrs : rm.slots = ms)
    (hframes : rm.frames + 1 ≤ R.frames) (hlocals : W9 + (maxL + 11) + rm.locals ≤ R.locals)
    (hws : ∀ w ∈ ws, ∀ a' U, s.WarmedH U.vm → w.before a' U = true) (hcode : Cond.codeWith y bytes maxL ret hh ∈ ws) (hinit : ∀ a' U, s.WarmedH U.vm → (Cond.initialized y.cls).before a' U = true) :
    vx_Back l R p e below s sargs y len W9 (PreOf R mc ms Pc) (PostOf Qc mc ms free) (vx_Post XC mc ms free) := by
  intro m meth c A g ig mk a X hg hsize hdg hW hn hp
  have h1 : (headSpec ws rm).pre.before a A.U = true := atoms_intro fun w hw => hws w hw _ _ X.warmed
  have h2 : (Cond.codeWith y bytes maxL ret hh).before a A.U = true := hws _ hcode _ _ X.warmed
  have h3 : (Cond.initialized y.cls).before a A.U = true := hinit _ _ X.warmed
  have h4 : A.cells + (headSpec ws rm).room.cells ≤ R.cells := by rw [show (headSpec ws rm).room.cells = mc from hrc]; exact hp.1
  have h5 : A.slots + (headSpec ws rm).room.slots ≤ R.slots := by rw [show (headSpec ws rm).room.slots = ms from hrs]; exact hp.2.1
  have hPc : Pc a (A.U.calling g mk a) := hblind _ _ _ _ hp.2.2
  obtain ⟨U, Ls, c0, s0⟩ := A
  dsimp only [Pt.U, Pt.locs, Pt.cells, Pt.slots] at h1 h2 h3 h4 h5 X hn hPc ⊢
  obtain ⟨m9, methY, cY, hn9, hmY, hcY, -, hlY, -⟩ := Cond.codeWith_spec h2
  cases Option.some.inj (hn9.symm.trans hn)
  obtain ⟨kY, hkY, -⟩ := className_of_methodNamed hn
  have hinitY : kY.init = .initialized := Cond.initialized_spec (findClass_of_methodNamed hn) hkY h3
  have h : At U g.method c below := by rw [hg]; exact X.here
  have hlocals9 : W9 + (maxL + 11) + (headSpec ws rm).room.locals ≤ R.locals := hlocals
  have happ : (headSpec ws rm).appliesLoose y e.platform (U.calling g mk a) = true :=
    Spec.appliesLoose_calling (g := g) h hdg hn hkY hinitY
      (X.room_calling (g := g) (R' := (headSpec ws rm).room) hsize hmY hcY hframes (by rw [hlY]; omega) h4 h5) h1
  obtain ⟨mid, hmid⟩ := h.above
  have hfr : (U.setTop g).frames = (.java g :: mid) ++ below := by rw [State.frames_setTop' g h.top, hmid]; rfl
  obtain ⟨o, s₂, hsteps, -, hend, hq⟩ := Steps.callFree hM p X.admits X.cas X.clock (acts := []) hfr happ hPc trivial
  have hq' : vx_Q Qc XC mc ms free a (U.calling g mk a) o s₂ := hq
  rw [State.frames_setTop' g h.top] at hend
  obtain ⟨g₀, hg0⟩ := Option.isSome_iff_exists.mp h.top
  obtain ⟨r, hr⟩ := State.topJava?_eq_some.mp hg0
  have hr' : (({ U with heap := s₂.heap, slotsUsed := s₂.slotsUsed } : State).setVm s₂.vm).frames = .java g₀ :: r := hr
  rcases hq' with ⟨hqc, L, hfe, hL⟩ | ⟨q, rfl, E, ce, L, hx, hce, hcv, hcl, hW₂, hsm, hL⟩
  · obtain ⟨⟨v, rfl⟩, hW₂, e2, q2, q3, q4, q5, q6⟩ := id hfe
    have e3 : s₂ = ({ (U.calling g mk a).setFrames s₂.frames with heap := s₂.heap, slotsUsed := s₂.slotsUsed } : State).setVm s₂.vm := by
      have : s₂ = ({ s₂ with vm := (U.calling g mk a).vm } : State).setVm s₂.vm := rfl
      rw [e2] at this
      exact this
    obtain ⟨c₂, i₂, len₂, hc₂, hd₂, hf₂⟩ := hend
    have hW' : U.WarmedH s₂.vm := hW₂
    have hcc : c₂ = c := by
      have h1 : s₂.code? g.method = U.code? g.method := by
        rw [State.code?_eq, State.code?_eq, hW'.alike.method?]
      exact Option.some.inj (hc₂.symm.trans (h1.trans h.code))
    subst hcc
    have hlen : len₂ = len := by rw [hdg] at hd₂; cases hd₂; rfl
    subst hlen
    have hs₂ : s₂ = (({ U with heap := s₂.heap, slotsUsed := s₂.slotsUsed } : State).setVm s₂.vm).setTop { g with pc := g.pc + len₂, stack := v.toList ++ g.stack } := by
      refine e3.trans ?_
      rw [hf₂, State.calling_eq h.top, State.setFrames_setFrames, State.setTop_of_frames _ hr', hr]
      rfl
    have hsame : U.sameButNew ({ U with heap := s₂.heap, slotsUsed := s₂.slotsUsed } : State) L mc ms := by
      refine ⟨?_, q2, q3, q4, q5, q6⟩
      obtain ⟨t, ht, -⟩ := State.frames_cons hr
      show ({ U with heap := s₂.heap, slotsUsed := s₂.slotsUsed } : State) = { U.setFrames U.frames with heap := s₂.heap, slotsUsed := s₂.slotsUsed }
      rw [State.setFrames_self ht]
    subst hg
    refine Or.inl ⟨v, ⟨(({ U with heap := s₂.heap, slotsUsed := s₂.slotsUsed } : State).setVm s₂.vm), Ls ++ L, c0 + mc, s0 + ms⟩,
      ⟨X.admits, X.cas, X.clock, X.frames, X.room, X.hears, X.method, X.code, (X.here.setHeapUsed s₂.heap s₂.slotsUsed).setVm hW'.alike, X.tail, State.WarmedH.trans X.warmed hW', X.limits, X.bytes, X.same.trans (hsame.setVm s.vm)⟩,
      ⟨g, mk, s₂, L, rfl, rfl, hqc, rfl, hL, rfl, rfl⟩, ?_⟩
    show Steps p.tables e below _ ((({ U with heap := s₂.heap, slotsUsed := s₂.slotsUsed } : State).setVm s₂.vm).setTop { g with pc := g.pc + len₂, stack := v.toList ++ g.stack })
    rw [← hs₂]
    exact hsteps
  · obtain ⟨e2, q2, q3, q4, q5, q6⟩ := id hsm
    have e3 : s₂ = ({ (U.calling g mk a).setFrames s₂.frames with heap := s₂.heap, slotsUsed := s₂.slotsUsed } : State).setVm s₂.vm := by
      have : s₂ = ({ s₂ with vm := (U.calling g mk a).vm } : State).setVm s₂.vm := rfl
      rw [e2] at this
      exact this
    have hf₂ : s₂.frames = .throwing q :: .java g :: U.frames.tail := hend
    have hW' : U.WarmedH s₂.vm := hW₂
    have hs₂ : s₂ = ((({ U with heap := s₂.heap, slotsUsed := s₂.slotsUsed } : State).setVm s₂.vm).setTop g).pushFrame (.throwing q) := by
      refine e3.trans ?_
      rw [hf₂, State.calling_eq h.top, State.setFrames_setFrames, State.pushFrame, State.frames_setTop _ hr', State.setTop_of_frames _ hr', State.setFrames_setFrames, hr]
      rfl
    have hsame : U.sameButNew ({ U with heap := s₂.heap, slotsUsed := s₂.slotsUsed } : State) L mc ms := by
      refine ⟨?_, q2, q3, q4, q5, q6⟩
      obtain ⟨t, ht, -⟩ := State.frames_cons hr
      show ({ U with heap := s₂.heap, slotsUsed := s₂.slotsUsed } : State) = { U.setFrames U.frames with heap := s₂.heap, slotsUsed := s₂.slotsUsed }
      rw [State.setFrames_self ht]
    subst hg
    refine Or.inr ⟨q, ⟨(({ U with heap := s₂.heap, slotsUsed := s₂.slotsUsed } : State).setVm s₂.vm), Ls ++ L, c0 + mc, s0 + ms⟩,
      ⟨X.admits, X.cas, X.clock, X.frames, X.room, X.hears, X.method, X.code, (X.here.setHeapUsed s₂.heap s₂.slotsUsed).setVm hW'.alike, X.tail, State.WarmedH.trans X.warmed hW', X.limits, X.bytes, X.same.trans (hsame.setVm s.vm)⟩,
      ⟨g, mk, s₂, L, E, ce, rfl, rfl, hx, hce, hcv, hcl, rfl, hL, rfl, rfl⟩, ?_⟩
    show Steps p.tables e below _ (((({ U with heap := s₂.heap, slotsUsed := s₂.slotsUsed } : State).setVm s₂.vm).setTop g).pushFrame (.throwing q))
    rw [← hs₂]
    exact hsteps
end
variable {p : Program} {l : Launch} {e : Env} {R : Room} {s : State} {m : MethodId} {args : Array Value} {below : List Frame} {meth : Method} {c : Code} {T : State} {H : Heap} {locs : List Loc} {cells slots : Nat}
theorem vx_callVX (X : Stand p l e R s m args below meth c T locs cells slots) (hexec : p.tables.exec = Jvm.exec) {own C : String} {index : Nat} {y : MethodName} {bytes : ByteArray} {maxL : Nat} {ret : Option FieldType} {hh : List (Nat × Nat × Nat × Nat)}
    (hown : s.vm.findClass own = some m.cls) (hlink : (Cond.methodLink own index y).before args s = true) (hinst : (Cond.instanceMethod y).before args s = true) (hsel : (Cond.selects C y y).before args s = true)
    (hcode : (Cond.codeWith y bytes maxL ret hh).before args s = true) (hy : y.cls ≠ "java/lang/invoke/MethodHandle" ∧ y.cls ≠ "java/lang/invoke/VarHandle")
    {W9 : Nat} {Pre : Pt → Array Value → Prop} {Post : Pt → Array Value → Option Value → Pt → Prop} {PostX : Pt → Array Value → Addr → Pt → Prop} (hK : vx_Back l R p e below s args y 3 W9 Pre Post PostX)
    {b : Addr} {cellB : Cell} (hcell : T.heap[b]? = some cellB) (hobj : cellB.vm.isStatics = false) (hcls : s.vm.findClass C = some cellB.cls)
    {g : JFrame} (hg : g.method = m) (hsize : g.locals.size = c.maxLocals) {argsL rest : List Value} (hlen : ∀ sig, parseMethodDescriptor y.desc = some sig → argsL.length = sig.parameters.length)
    (hstack : g.stack = argsL.reverse ++ .ref b :: rest) (hW : 2 * g.monitorRoom + (rest.map fun v => v.category).sum ≤ W9) (hdg : decode c.code g.pc = .ok (.invokevirtual index, 3))
    (hpre : ∀ vm₁, s.WarmedH vm₁ → Pre ⟨T.setVm vm₁, locs, cells, slots⟩ (Value.ref b :: argsL).toArray) :
    (∃ (v : Option Value) (vm₁ : Vm) (B : Pt), s.WarmedH vm₁ ∧ Stand p l e R s m args below meth c B.U B.locs B.cells B.slots ∧ Post ⟨T.setVm vm₁, locs, cells, slots⟩ (Value.ref b :: argsL).toArray v B ∧
      ∀ target, Steps p.tables e below (B.U.setTop { g with pc := g.pc + 3, stack := v.toList ++ rest }) target → Steps p.tables e below (T.setTop g) target) ∨
    (∃ (q : Addr) (vm₁ : Vm) (B : Pt), s.WarmedH vm₁ ∧ Stand p l e R s m args below meth c B.U B.locs B.cells B.slots ∧ PostX ⟨T.setVm vm₁, locs, cells, slots⟩ (Value.ref b :: argsL).toArray q B ∧
      Steps p.tables e below (T.setTop g) ((B.U.setTop { g with stack := rest }).pushFrame (.throwing q))) := by
  obtain ⟨mk, methM, hnamed, hmethM, hstM, habM⟩ := Cond.instanceMethod_spec hinst
  obtain ⟨m8, methM', cM, hn8, hmethM', -, -, -, -, -, -, hsigM⟩ := Cond.codeWith_spec hcode
  cases Option.some.inj (hn8.symm.trans hnamed)
  cases hmethM.symm.trans hmethM'
  obtain ⟨c2, r2, m2, q1, q2, q3, q4, kP, hkP, hkPi⟩ := Cond.selects_spec hsel
  cases hcls.symm.trans q1
  cases (State.methodFound?_of_named hnamed hy).symm.trans q2
  cases hnamed.symm.trans q3
  have hselP : selectMethod e.platform s.vm cellB.cls mk = .method mk := by rw [Launch.admits_selectMethod X.admits]; exact q4
  obtain ⟨vm₁, X₁, hstep₁⟩ := X.invokevirtual hexec hown hlink hnamed hmethM hstM hkP hkPi hy (a := b) (cell := cellB) hcell
    (fun z h => by rw [h] at hobj; cases hobj) hselP hmethM habM hkP hkPi (g := g) hg (argsL := argsL) (rest := rest) (hlen _ hsigM) hstack hdg
  rcases hK m meth c ⟨T.setVm vm₁, locs, cells, slots⟩ { g with stack := rest } (.invokevirtual index) mk (Value.ref b :: argsL).toArray X₁ hg hsize hdg hW (X₁.named hnamed) (hpre vm₁ X₁.warmed) with ⟨v, B, X', hpost, hsteps⟩ | ⟨q, B, X', hpost, hsteps⟩
  · exact Or.inl ⟨v, vm₁, B, X₁.warmed, X', hpost, fun target h => hstep₁ _ fun acts => by rw [doInvoke_state]; exact hsteps.trans h⟩
  · exact Or.inr ⟨q, vm₁, B, X₁.warmed, X', hpost, hstep₁ _ fun acts => by rw [doInvoke_state]; exact hsteps⟩
theorem vx_callSX (X : Stand p l e R s m args below meth c T locs cells slots) (hexec : p.tables.exec = Jvm.exec) {own : String} {index : Nat} {y : MethodName} {bytes : ByteArray} {maxL : Nat} {ret : Option FieldType} {hh : List (Nat × Nat × Nat × Nat)}
    (hown : s.vm.findClass own = some m.cls) (hlink : (Cond.methodLink own index y).before args s = true) (hstat : (Cond.static y).before args s = true) (hinit : (Cond.initialized y.cls).before args s = true)
    (hcode : (Cond.codeWith y bytes maxL ret hh).before args s = true) (hy : y.cls ≠ "java/lang/invoke/MethodHandle" ∧ y.cls ≠ "java/lang/invoke/VarHandle")
    {W9 : Nat} {Pre : Pt → Array Value → Prop} {Post : Pt → Array Value → Option Value → Pt → Prop} {PostX : Pt → Array Value → Addr → Pt → Prop} (hK : vx_Back l R p e below s args y 3 W9 Pre Post PostX)
    {g : JFrame} (hg : g.method = m) (hsize : g.locals.size = c.maxLocals) {argsL rest : List Value} (hlen : ∀ sig, parseMethodDescriptor y.desc = some sig → argsL.length = sig.parameters.length)
    (hstack : g.stack = argsL.reverse ++ rest) (hW : 2 * g.monitorRoom + (rest.map fun v => v.category).sum ≤ W9) (hdg : decode c.code g.pc = .ok (.invokestatic index, 3))
    (hpre : ∀ vm₁, s.WarmedH vm₁ → Pre ⟨T.setVm vm₁, locs, cells, slots⟩ argsL.toArray) :
    (∃ (v : Option Value) (vm₁ : Vm) (B : Pt), s.WarmedH vm₁ ∧ Stand p l e R s m args below meth c B.U B.locs B.cells B.slots ∧ Post ⟨T.setVm vm₁, locs, cells, slots⟩ argsL.toArray v B ∧
      ∀ target, Steps p.tables e below (B.U.setTop { g with pc := g.pc + 3, stack := v.toList ++ rest }) target → Steps p.tables e below (T.setTop g) target) ∨
    (∃ (q : Addr) (vm₁ : Vm) (B : Pt), s.WarmedH vm₁ ∧ Stand p l e R s m args below meth c B.U B.locs B.cells B.slots ∧ PostX ⟨T.setVm vm₁, locs, cells, slots⟩ argsL.toArray q B ∧
      Steps p.tables e below (T.setTop g) ((B.U.setTop { g with stack := rest }).pushFrame (.throwing q))) := by
  obtain ⟨mk, methM, cM, hnamed, hmethM, -, -, -, -, -, -, hsigM⟩ := Cond.codeWith_spec hcode
  have hstatic : methM.isStatic = true := Cond.static_spec hnamed hmethM hstat
  obtain ⟨kP, hkP, -⟩ := className_of_methodNamed hnamed
  have hinitP : kP.init = .initialized := Cond.initialized_spec (findClass_of_methodNamed hnamed) hkP hinit
  obtain ⟨vm₁, X₁, hstep₁⟩ := X.invokestatic hexec hown hlink hnamed hmethM hstatic hkP hinitP hy (g := g) hg (argsL := argsL) (rest := rest) (hlen _ hsigM) hstack hdg
  rcases hK m meth c ⟨T.setVm vm₁, locs, cells, slots⟩ { g with stack := rest } (.invokestatic index) mk argsL.toArray X₁ hg hsize hdg hW (X₁.named hnamed) (hpre vm₁ X₁.warmed) with ⟨v, B, X', hpost, hsteps⟩ | ⟨q, B, X', hpost, hsteps⟩
  · exact Or.inl ⟨v, vm₁, B, X₁.warmed, X', hpost, fun target h => hstep₁ _ fun acts => by rw [doInvoke_state]; exact hsteps.trans h⟩
  · exact Or.inr ⟨q, vm₁, B, X₁.warmed, X', hpost, hstep₁ _ fun acts => by rw [doInvoke_state]; exact hsteps⟩
theorem vx_callVW (X : Stand p l e R s m args below meth c T locs cells slots) (hexec : p.tables.exec = Jvm.exec) {own C : String} {index : Nat} {y : MethodName} {bytes : ByteArray} {maxL : Nat} {ret : Option FieldType} {hh : List (Nat × Nat × Nat × Nat)}
    (hown : s.vm.findClass own = some m.cls) (hlink : (Cond.methodLink own index y).before args s = true) (hinst : (Cond.instanceMethod y).before args s = true) (hsel : (Cond.selects C y y).before args s = true)
    (hcode : (Cond.codeWith y bytes maxL ret hh).before args s = true) (hy : y.cls ≠ "java/lang/invoke/MethodHandle" ∧ y.cls ≠ "java/lang/invoke/VarHandle")
    {W9 : Nat} {Pre : Pt → Array Value → Prop} {Post : Pt → Array Value → Option Value → Pt → Prop} (hK : Back l R p e below s args y 3 W9 Pre Post)
    {b : Addr} {cellB : Cell} (hcell : T.heap[b]? = some cellB) (hobj : cellB.vm.isStatics = false) (hcls : s.vm.findClass C = some cellB.cls)
    {g : JFrame} (hg : g.method = m) (hsize : g.locals.size = c.maxLocals) {argsL rest : List Value} (hlen : ∀ sig, parseMethodDescriptor y.desc = some sig → argsL.length = sig.parameters.length)
    (hstack : g.stack = argsL.reverse ++ .ref b :: rest) (hW : 2 * g.monitorRoom + (rest.map fun v => v.category).sum ≤ W9) (hdg : decode c.code g.pc = .ok (.invokevirtual index, 3))
    (hpre : ∀ vm₁, s.WarmedH vm₁ → Pre ⟨T.setVm vm₁, locs, cells, slots⟩ (Value.ref b :: argsL).toArray) :
    ∃ (v : Option Value) (vm₁ : Vm) (B : Pt), s.WarmedH vm₁ ∧ Stand p l e R s m args below meth c B.U B.locs B.cells B.slots ∧ Post ⟨T.setVm vm₁, locs, cells, slots⟩ (Value.ref b :: argsL).toArray v B ∧
      ∀ target, Steps p.tables e below (B.U.setTop { g with pc := g.pc + 3, stack := v.toList ++ rest }) target → Steps p.tables e below (T.setTop g) target := by
  obtain ⟨mk, methM, hnamed, hmethM, hstM, habM⟩ := Cond.instanceMethod_spec hinst
  obtain ⟨m8, methM', cM, hn8, hmethM', -, -, -, -, -, -, hsigM⟩ := Cond.codeWith_spec hcode
  cases Option.some.inj (hn8.symm.trans hnamed)
  cases hmethM.symm.trans hmethM'
  obtain ⟨c2, r2, m2, q1, q2, q3, q4, kP, hkP, hkPi⟩ := Cond.selects_spec hsel
  cases hcls.symm.trans q1
  cases (State.methodFound?_of_named hnamed hy).symm.trans q2
  cases hnamed.symm.trans q3
  have hselP : selectMethod e.platform s.vm cellB.cls mk = .method mk := by rw [Launch.admits_selectMethod X.admits]; exact q4
  obtain ⟨vm₁, X₁, hstep₁⟩ := X.invokevirtual hexec hown hlink hnamed hmethM hstM hkP hkPi hy (a := b) (cell := cellB) hcell
    (fun z h => by rw [h] at hobj; cases hobj) hselP hmethM habM hkP hkPi (g := g) hg (argsL := argsL) (rest := rest) (hlen _ hsigM) hstack hdg
  obtain ⟨v, B, X', hpost, hsteps⟩ := hK m meth c ⟨T.setVm vm₁, locs, cells, slots⟩ { g with stack := rest } (.invokevirtual index) mk (Value.ref b :: argsL).toArray X₁ hg hsize hdg hW (X₁.named hnamed) (hpre vm₁ X₁.warmed)
  exact ⟨v, vm₁, B, X₁.warmed, X', hpost, fun target h => hstep₁ _ fun acts => by rw [doInvoke_state]; exact hsteps.trans h⟩
abbrev vx_CVW (R : Room) (s : State) (args : Array Value) (own C : String) (index : Nat) (y : MethodName) (bytes : ByteArray) (maxL : Nat) (ret : Option FieldType) (hh : List (Nat × Nat × Nat × Nat)) (ws : List Cond) (rm : Room) (mc ms n : Nat) : Prop :=
  (rm.cells = mc ∧ rm.slots = ms ∧ rm.frames + 1 ≤ R.frames ∧ 8 + (maxL + 11) + rm.locals ≤ R.locals ∧ (∀ w ∈ ws, ∀ (a' : Array Value) (U : State), s.WarmedH U.vm → w.before a' U = true) ∧ Cond.codeWith y bytes maxL ret hh ∈ ws) ∧
  (Cond.codeWith y bytes maxL ret hh).before args s = true ∧ (Cond.initialized y.cls).before args s = true ∧ (y.cls ≠ "java/lang/invoke/MethodHandle" ∧ y.cls ≠ "java/lang/invoke/VarHandle") ∧
  (∀ sig, parseMethodDescriptor y.desc = some sig → n = sig.parameters.length) ∧ (Cond.methodLink own index y).before args s = true ∧ (Cond.instanceMethod y).before args s = true ∧ (Cond.selects C y y).before args s = true
theorem vx_cwVW {own C : String} {index maxL mc ms : Nat} {y : MethodName} {bytes : ByteArray} {ret : Option FieldType} {hh : List (Nat × Nat × Nat × Nat)} {Ts ws ws' : List Cond} {rm : Room} (n : Nat) (ht : ∀ w ∈ Ts, w.before args s = true) (hT : GoodIn Ts (wsV own index C y ws)) (hw : ws = Cond.codeWith y bytes maxL ret hh :: ws') (hrc : rm.cells = mc) (hrs : rm.slots = ms)
    (hd : y.cls = C ∧ y.cls ≠ "java/lang/invoke/MethodHandle" ∧ y.cls ≠ "java/lang/invoke/VarHandle" ∧ (parseMethodDescriptor y.desc).map (fun d => d.parameters.length) = some n) (hR : rm.frames + 1 ≤ R.frames ∧ 8 + (maxL + 11) + rm.locals ≤ R.locals) :
    vx_CVW R s args own C index y bytes maxL ret hh ws rm mc ms n := by
  obtain ⟨hC, hd⟩ := hd
  subst hC
  have ok : ∀ w ∈ wsV own index y.cls y ws, w.before args s = true := fun w h => ht w (hT w h).1
  have hG : GoodIn Ts ws := fun w h => hT w (by unfold wsV; exact List.mem_append_right _ h)
  have hc : Cond.codeWith y bytes maxL ret hh ∈ ws := by rw [hw]; exact List.mem_cons_self
  refine ⟨⟨hrc, hrs, hR.1, hR.2, pay_in ht hG, hc⟩, ht _ (hG _ hc).1, ok _ (by simp [wsV]), ⟨hd.1, hd.2.1⟩, fun sig h => ?_, ok _ (by simp [wsV]), ok _ (by simp [wsV]), ok _ (by simp [wsV])⟩
  have h2 := hd.2.2
  rw [h] at h2
  exact (Option.some.inj h2).symm
theorem vx_runVW {y : MethodName} {bytes cc : ByteArray} {maxL nL mc ms n index : Nat} {ret : Option FieldType} {hh : List (Nat × Nat × Nat × Nat)} {ws : List Cond} {rm : Room} {Pc : Array Value → State → Prop} {Qc : Array Value → State → Outcome → State → Prop} {free : Addr → Prop} {Ts : List Cond} {own C : String} {b : Addr} {As rest : List Value} {g : JFrame}
    (S : CallFix p m c cc nL s args Ts own) (hM : Met l y ws rm Pc Qc mc ms free) (cw : vx_CVW R s args own C index y bytes maxL ret hh ws rm mc ms n) (hp : PreV s H C b Pc As)
    (hg : g.method = m) (hn : As.length = n) (hsize : g.locals.size = nL) (hstack : g.stack = As.reverse ++ .ref b :: rest) (hW : 2 * g.monitorRoom + (rest.map fun v => v.category).sum ≤ 8) (hdg : decode cc g.pc = .ok (.invokevirtual index, 3)) (hf : cells + mc ≤ R.cells ∧ slots + ms ≤ R.slots) :
    va_Run p l e R s m args below meth c H locs cells slots mc ms g rest (Qc (Value.ref b :: As).toArray) free := by
  obtain ⟨⟨hrc, hrs, hfr, hlo, hws, hcw⟩, hcode, hini, hy, hlen, hl, hin, hse⟩ := cw
  have hK : Back l R p e below s args y 3 8 (PreOf R mc ms Pc) (PostOf Qc mc ms free) := va_backW (hh := hh) (bytes := bytes) (maxL := maxL) (ret := ret) hM hp.1 hrc hrs hfr hlo hws hcw (fun a' U hW => word_at hW (Or.inl (by first | rfl | simp [Cond.onTables, Cond.keeps, Cond.steady])) hini)
  obtain ⟨hx, hb, hml, ho, -⟩ := S
  obtain ⟨-, ⟨cellB, hcB, hoB, hclB⟩, hPc⟩ := hp
  intro T hT X
  obtain ⟨v, vm₁, ⟨U', l2, c2, s2⟩, hW₁, X', ⟨g', mk, t, L, e1, e2, hq, h1, hL, h2, h3⟩, st⟩ := vx_callVW X hx (C := C) (hh := hh) (bytes := bytes) (maxL := maxL) (ret := ret) ho hl hin hse hcode hy hK (by rw [hT]; exact hcB) hoB hclB hg (hsize.trans hml.symm) (argsL := As) (rest := rest) (fun sig h => hn.trans (hlen sig h)) hstack hW (by rw [hb]; exact hdg)
    (fun vm₁ hW₁ => ⟨hf.1, hf.2, hPc (T.setVm vm₁) hT hW₁⟩)
  dsimp only [Pt.U, Pt.locs, Pt.cells, Pt.slots] at X' e1 e2 h1 h2 h3 st
  subst h1; subst h2; subst h3
  exact ⟨v, (T.setVm vm₁).calling g' mk (Value.ref b :: As).toArray, t, U', L, hT, X', hL, e1, e2, hq, st⟩
section
variable {y : MethodName} {bytes cc : ByteArray} {maxL nL mc ms n index : Nat} {ret : Option FieldType} {ws : List Cond} {rm : Room} {Pc : Array Value → State → Prop} {Qc : Array Value → State → Outcome → State → Prop} {XC : String → State → State → Prop} {free : Addr → Prop} {Ts : List Cond} {own C : String} {b : Addr} {As rest : List Value} {g : JFrame}
theorem vx_runVX {hh : List (Nat × Nat × Nat × Nat)} (S : CallFix p m c cc nL s args Ts own) (hM : vx_Met l y ws rm Pc Qc XC mc ms free) (cw : vx_CVW R s args own C index y bytes maxL ret hh ws rm mc ms n) (hp : PreV s H C b Pc As)
    (hg : g.method = m) (hn : As.length = n) (hsize : g.locals.size = nL) (hstack : g.stack = As.reverse ++ .ref b :: rest) (hW : 2 * g.monitorRoom + (rest.map fun v => v.category).sum ≤ 8) (hdg : decode cc g.pc = .ok (.invokevirtual index, 3)) (hf : cells + mc ≤ R.cells ∧ slots + ms ≤ R.slots) :
    vx_Run p l e R s m args below meth c H locs cells slots mc ms g rest (Qc (Value.ref b :: As).toArray) XC free := by
  obtain ⟨⟨hrc, hrs, hfr, hlo, hws, hcw⟩, hcode, hini, hy, hlen, hl, hin, hse⟩ := cw
  have hK : vx_Back l R p e below s args y 3 8 (PreOf R mc ms Pc) (PostOf Qc mc ms free) (vx_Post XC mc ms free) := vx_backW (hh := hh) (bytes := bytes) (maxL := maxL) (ret := ret) hM hp.1 hrc hrs hfr hlo hws hcw (fun a' U hW => word_at hW (Or.inl (by first | rfl | simp [Cond.onTables, Cond.keeps, Cond.steady])) hini)
  obtain ⟨hx, hb, hml, ho, -⟩ := S
  obtain ⟨-, ⟨cellB, hcB, hoB, hclB⟩, hPc⟩ := hp
  intro T hT X
  rcases vx_callVX X hx (C := C) (hh := hh) (bytes := bytes) (maxL := maxL) (ret := ret) ho hl hin hse hcode hy hK (by rw [hT]; exact hcB) hoB hclB hg (hsize.trans hml.symm) (argsL := As) (rest := rest) (fun sig h => hn.trans (hlen sig h)) hstack hW (by rw [hb]; exact hdg)
    (fun vm₁ hW₁ => ⟨hf.1, hf.2, hPc (T.setVm vm₁) hT hW₁⟩) with ⟨v, vm₁, ⟨U', l2, c2, s2⟩, hW₁, X', ⟨g', mk, t, L, e1, e2, hq, h1, hL, h2, h3⟩, st⟩ | ⟨q, vm₁, ⟨U', l2, c2, s2⟩, hW₁, X', ⟨g', mk, t, L, E, ce, e1, e2, hq, hce, hcv, hcl, h1, hL, h2, h3⟩, st⟩
  · dsimp only [Pt.U, Pt.locs, Pt.cells, Pt.slots] at X' e1 e2 h1 h2 h3 st
    subst h1; subst h2; subst h3
    exact Or.inl ⟨v, (T.setVm vm₁).calling g' mk (Value.ref b :: As).toArray, t, U', L, hT, X', hL, e1, e2, hq, st⟩
  · dsimp only [Pt.U, Pt.locs, Pt.cells, Pt.slots] at X' e1 e2 h1 h2 h3 st hcl
    subst h1; subst h2; subst h3
    exact Or.inr ⟨q, (T.setVm vm₁).calling g' mk (Value.ref b :: As).toArray, t, U', L, E, ce, hT, X', hL, e1, e2, hq, hce, hcv, vx_cls hW₁ hcl, st⟩
theorem vx_runSX {hh : List (Nat × Nat × Nat × Nat)} (S : CallFix p m c cc nL s args Ts own) (hM : vx_Met l y ws rm Pc Qc XC mc ms free) (cw : vx_CSW R s args own index y bytes maxL ret hh ws rm mc ms n) (hp : PreS s H Pc As)
    (hg : g.method = m) (hn : As.length = n) (hsize : g.locals.size = nL) (hstack : g.stack = As.reverse ++ rest) (hW : 2 * g.monitorRoom + (rest.map fun v => v.category).sum ≤ 8) (hdg : decode cc g.pc = .ok (.invokestatic index, 3)) (hf : cells + mc ≤ R.cells ∧ slots + ms ≤ R.slots) :
    vx_Run p l e R s m args below meth c H locs cells slots mc ms g rest (Qc As.toArray) XC free := by
  obtain ⟨⟨hrc, hrs, hfr, hlo, hws, hcw⟩, hcode, hini, hy, hlen, hl, hstt⟩ := cw
  have hK : vx_Back l R p e below s args y 3 8 (PreOf R mc ms Pc) (PostOf Qc mc ms free) (vx_Post XC mc ms free) := vx_backW (hh := hh) (bytes := bytes) (maxL := maxL) (ret := ret) hM hp.1 hrc hrs hfr hlo hws hcw (fun a' U hW => word_at hW (Or.inl (by first | rfl | simp [Cond.onTables, Cond.keeps, Cond.steady])) hini)
  obtain ⟨hx, hb, hml, ho, -⟩ := S
  intro T hT X
  rcases vx_callSX X hx (hh := hh) (bytes := bytes) (maxL := maxL) (ret := ret) ho hl hstt hini hcode hy hK hg (hsize.trans hml.symm) (argsL := As) (rest := rest) (fun sig h => hn.trans (hlen sig h)) hstack hW (by rw [hb]; exact hdg)
    (fun vm₁ hW₁ => ⟨hf.1, hf.2, hp.2 (T.setVm vm₁) hT hW₁⟩) with ⟨v, vm₁, ⟨U', l2, c2, s2⟩, hW₁, X', ⟨g', mk, t, L, e1, e2, hq, h1, hL, h2, h3⟩, st⟩ | ⟨q, vm₁, ⟨U', l2, c2, s2⟩, hW₁, X', ⟨g', mk, t, L, E, ce, e1, e2, hq, hce, hcv, hcl, h1, hL, h2, h3⟩, st⟩
  · dsimp only [Pt.U, Pt.locs, Pt.cells, Pt.slots] at X' e1 e2 h1 h2 h3 st
    subst h1; subst h2; subst h3
    exact Or.inl ⟨v, (T.setVm vm₁).calling g' mk As.toArray, t, U', L, hT, X', hL, e1, e2, hq, st⟩
  · dsimp only [Pt.U, Pt.locs, Pt.cells, Pt.slots] at X' e1 e2 h1 h2 h3 st hcl
    subst h1; subst h2; subst h3
    exact Or.inr ⟨q, (T.setVm vm₁).calling g' mk As.toArray, t, U', L, E, ce, hT, X', hL, e1, e2, hq, hce, hcv, vx_cls hW₁ hcl, st⟩
end
end VXH
theorem vx_ofWH {l : Launch} {y : MethodName} {ws ws' : List Cond} {rm : Room} {Pc : Array Value → State → Prop} {Qc : Array Value → State → Outcome → State → Prop} {XC : String → State → State → Prop} {mc ms : Nat} {free : Addr → Prop} {cc : ByteArray} {maxL : Nat} {ret : Option FieldType} {hh : List (Nat × Nat × Nat × Nat)}
    (hy : plainName y.cls = true) (hw : ws = Cond.codeWith y cc maxL ret hh :: ws')
    (body : ∀ p e s m args below meth c s₁, BodyLoose p l y (headSpec ws rm) cc maxL ret e s m args below meth c s₁ → c.maxLocals = maxL → Pc args s →
      W p l e (headSpec ws rm).room s m args below meth c s.heap [] 0 0 (vx_MQ below Qc XC args s mc ms free) (entryFrame m args maxL)) : vx_Met l y ws rm Pc Qc XC mc ms free := by
  refine MetFree.of_bodyS (code := cc) (maxLocals := maxL) (ret := ret) hy ?_ ?_
  · intro args s m h hn
    obtain ⟨m9, meth, c, hn9, h1, h2, h3, h4, -, h5, h6, -⟩ := Cond.codeWith_spec (atoms_spec (ws := ws) h _ (by rw [hw]; exact List.mem_cons_self))
    cases hn.symm.trans hn9
    exact ⟨meth, c, h1, h2, h3, h4, h5, h6⟩
  · intro p e s m args below meth c s₁ B hml hP _
    have hh0 : s₁.heap = s.heap := by rw [B.state]; rfl
    obtain ⟨t, a1, o, b1, b2, b3⟩ := body p e s m args below meth c s₁ B hml hP s₁ hh0 (Stand.of_body B)
    exact ⟨t, o, a1, b1, b2, b3⟩
/-! ===== END ===== -/
end
section
/-! ===== BEGIN a constructor that throws (launches without stack traces) ===== -/
section VXIA
variable {p : Program} {l : Launch} {e : Env} {R : Room} {s : State} {m : MethodId} {args : Array Value} {below : List Frame} {meth : Method} {c : Code} {T : State} {locs : List Loc} {cells slots : Nat}
theorem vx_callI (X : Stand p l e R s m args below meth c T locs cells slots) (hexec : p.tables.exec = Jvm.exec) {own : String} {index : Nat} {y : MethodName} {bytes : ByteArray} {maxL : Nat}
    (hown : s.vm.findClass own = some m.cls) (hy1 : y.name = "<init>") (hlink : (Cond.methodLink own index y).before args s = true) (hinst : (Cond.instanceMethod y).before args s = true)
    (hcode : (Cond.code y bytes maxL none).before args s = true) (hy : y.cls ≠ "java/lang/invoke/MethodHandle" ∧ y.cls ≠ "java/lang/invoke/VarHandle")
    {W9 : Nat} {Pre : Pt → Array Value → Prop} {Post : Pt → Array Value → Option Value → Pt → Prop} {PostX : Pt → Array Value → Addr → Pt → Prop} (hK : vx_Back l R p e below s args y 3 W9 Pre Post PostX)
    {g : JFrame} (hg : g.method = m) (hsize : g.locals.size = c.maxLocals) {a : Addr} {argsL rest : List Value} (hlen : ∀ sig, parseMethodDescriptor y.desc = some sig → argsL.length = sig.parameters.length)
    (hstack : g.stack = argsL.reverse ++ .ref a :: rest) (hW : 2 * g.monitorRoom + (rest.map fun v => v.category).sum ≤ W9) (hdg : decode c.code g.pc = .ok (.invokespecial index, 3))
    (hpre : ∀ vm₁, s.WarmedH vm₁ → Pre ⟨T.setVm vm₁, locs, cells, slots⟩ (Value.ref a :: argsL).toArray) :
    (∃ (v : Option Value) (vm₁ : Vm) (B : Pt), s.WarmedH vm₁ ∧ Stand p l e R s m args below meth c B.U B.locs B.cells B.slots ∧ Post ⟨T.setVm vm₁, locs, cells, slots⟩ (Value.ref a :: argsL).toArray v B ∧
      ∀ target, Steps p.tables e below (B.U.setTop { g with pc := g.pc + 3, stack := v.toList ++ rest }) target → Steps p.tables e below (T.setTop g) target) ∨
    (∃ (q : Addr) (vm₁ : Vm) (B : Pt), s.WarmedH vm₁ ∧ Stand p l e R s m args below meth c B.U B.locs B.cells B.slots ∧ PostX ⟨T.setVm vm₁, locs, cells, slots⟩ (Value.ref a :: argsL).toArray q B ∧
      Steps p.tables e below (T.setTop g) ((B.U.setTop { g with stack := rest }).pushFrame (.throwing q))) := by
  subst hg
  have hpl : e.platform.magicAccessors = ({} : Platform).magicAccessors := by rw [X.admits.platform]
  obtain ⟨mk, methM, cM, kP, vm₁, hnamed, hmethM, hcodeM, -, hlocalsM, -, hkP, -, hW₁, hstep₁⟩ := Steps.initColdArgs (e := e) X.here hexec X.warmed hpl hown hy1 hy hlink hinst hcode (f := g) rfl hlen hstack hdg
  have X₁ := X.noted hW₁
  rcases hK g.method meth c ⟨T.setVm vm₁, locs, cells, slots⟩ { g with stack := rest } (.invokespecial index) mk (Value.ref a :: argsL).toArray X₁ rfl hsize hdg hW (X₁.named hnamed) (hpre vm₁ X₁.warmed) with ⟨v, B, X', hpost, hsteps⟩ | ⟨q, B, X', hpost, hsteps⟩
  · exact Or.inl ⟨v, vm₁, B, X₁.warmed, X', hpost, fun target h => hstep₁ _ fun acts => by rw [doInvoke_state]; exact hsteps.trans h⟩
  · exact Or.inr ⟨q, vm₁, B, X₁.warmed, X', hpost, hstep₁ _ fun acts => by rw [doInvoke_state]; exact hsteps⟩
end VXIA
section VXIB
variable {p : Program} {l : Launch} {e : Env} {R : Room} {s : State} {m : MethodId} {args : Array Value} {below : List Frame} {meth : Method} {c : Code} {H : Heap} {locs : List Loc} {cells slots : Nat}
variable {y : MethodName} {bytes cc : ByteArray} {maxL nL mc ms n index : Nat} {ret : Option FieldType} {ws : List Cond} {rm : Room} {Pc : Array Value → State → Prop} {Qc : Array Value → State → Outcome → State → Prop} {XC : String → State → State → Prop} {free : Addr → Prop} {Ts : List Cond} {own C : String} {b : Addr} {As rest : List Value} {g : JFrame}
theorem vx_runI (S : CallFix p m c cc nL s args Ts own) (hM : vx_Met l y ws rm Pc Qc XC mc ms free) (cw : CallB R s args own index y bytes maxL none ws rm mc ms n ∧ y.name = "<init>" ∧ (Cond.instanceMethod y).before args s = true) (hp : PreS s H Pc (.ref b :: As))
    (hg : g.method = m) (hn : As.length = n) (hsize : g.locals.size = nL) (hstack : g.stack = As.reverse ++ .ref b :: rest) (hW : 2 * g.monitorRoom + (rest.map fun v => v.category).sum ≤ 8) (hdg : decode cc g.pc = .ok (.invokespecial index, 3)) (hf : cells + mc ≤ R.cells ∧ slots + ms ≤ R.slots) :
    vx_Run p l e R s m args below meth c H locs cells slots mc ms g rest (Qc (Value.ref b :: As).toArray) XC free := by
  have hK : vx_Back l R p e below s args y 3 8 (PreOf R mc ms Pc) (PostOf Qc mc ms free) (vx_Post XC mc ms free) := vx_callBack cw.1 hM hp.1
  obtain ⟨⟨-, -, -, -, -, -, hcode, -, hy, hlen, hl⟩, hy1, hin⟩ := cw
  obtain ⟨hx, hb, hml, ho, -⟩ := S
  have hPc := hp.2
  intro T hT X
  rcases vx_callI X hx (bytes := bytes) (maxL := maxL) ho hy1 hl hin hcode hy hK hg (hsize.trans hml.symm) (a := b) (argsL := As) (rest := rest) (fun sig h => hn.trans (hlen sig h)) hstack hW (by rw [hb]; exact hdg)
    (fun vm₁ hW₁ => ⟨hf.1, hf.2, hPc (T.setVm vm₁) hT hW₁⟩) with ⟨v, vm₁, ⟨U', l2, c2, s2⟩, hW₁, X', ⟨g', mk, t, L, e1, e2, hq, h1, hL, h2, h3⟩, st⟩ | ⟨q, vm₁, ⟨U', l2, c2, s2⟩, hW₁, X', ⟨g', mk, t, L, E, ce, e1, e2, hq, hce, hcv, hcl, h1, hL, h2, h3⟩, st⟩
  · dsimp only [Pt.U, Pt.locs, Pt.cells, Pt.slots] at X' e1 e2 h1 h2 h3 st
    subst h1; subst h2; subst h3
    exact Or.inl ⟨v, (T.setVm vm₁).calling g' mk (Value.ref b :: As).toArray, t, U', L, hT, X', hL, e1, e2, hq, st⟩
  · dsimp only [Pt.U, Pt.locs, Pt.cells, Pt.slots] at X' e1 e2 h1 h2 h3 st hcl
    subst h1; subst h2; subst h3
    exact Or.inr ⟨q, (T.setVm vm₁).calling g' mk (Value.ref b :: As).toArray, t, U', L, E, ce, hT, X', hL, e1, e2, hq, hce, hcv, vx_cls hW₁ hcl, st⟩
end VXIB
/-! ===== END ===== -/
/-! ===== BEGIN a private constructor of a nest mate that throws ===== -/
section VXIC
variable {p : Program} {l : Launch} {e : Env} {R : Room} {s : State} {m : MethodId} {args : Array Value} {below : List Frame} {meth : Method} {c : Code} {T : State} {locs : List Loc} {cells slots : Nat}
theorem vx_callIN (X : Stand p l e R s m args below meth c T locs cells slots) (hexec : p.tables.exec = Jvm.exec) {own : String} {index : Nat} {host : String} {y : MethodName} {bytes : ByteArray} {maxL : Nat}
    (hown : s.vm.findClass own = some m.cls) (hy1 : y.name = "<init>") (hlink : (Cond.methodLinkNest own index y host).before args s = true) (hinst : (Cond.instanceMethod y).before args s = true)
    (hcode : (Cond.code y bytes maxL none).before args s = true) (hy : y.cls ≠ "java/lang/invoke/MethodHandle" ∧ y.cls ≠ "java/lang/invoke/VarHandle")
    {W9 : Nat} {Pre : Pt → Array Value → Prop} {Post : Pt → Array Value → Option Value → Pt → Prop} {PostX : Pt → Array Value → Addr → Pt → Prop} (hK : vx_Back l R p e below s args y 3 W9 Pre Post PostX)
    {g : JFrame} (hg : g.method = m) (hsize : g.locals.size = c.maxLocals) {a : Addr} {argsL rest : List Value} (hlen : ∀ sig, parseMethodDescriptor y.desc = some sig → argsL.length = sig.parameters.length)
    (hstack : g.stack = argsL.reverse ++ .ref a :: rest) (hW : 2 * g.monitorRoom + (rest.map fun v => v.category).sum ≤ W9) (hdg : decode c.code g.pc = .ok (.invokespecial index, 3))
    (hpre : ∀ vm₁, s.WarmedH vm₁ → Pre ⟨T.setVm vm₁, locs, cells, slots⟩ (Value.ref a :: argsL).toArray) :
    (∃ (v : Option Value) (vm₁ : Vm) (B : Pt), s.WarmedH vm₁ ∧ Stand p l e R s m args below meth c B.U B.locs B.cells B.slots ∧ Post ⟨T.setVm vm₁, locs, cells, slots⟩ (Value.ref a :: argsL).toArray v B ∧
      ∀ target, Steps p.tables e below (B.U.setTop { g with pc := g.pc + 3, stack := v.toList ++ rest }) target → Steps p.tables e below (T.setTop g) target) ∨
    (∃ (q : Addr) (vm₁ : Vm) (B : Pt), s.WarmedH vm₁ ∧ Stand p l e R s m args below meth c B.U B.locs B.cells B.slots ∧ PostX ⟨T.setVm vm₁, locs, cells, slots⟩ (Value.ref a :: argsL).toArray q B ∧
      Steps p.tables e below (T.setTop g) ((B.U.setTop { g with stack := rest }).pushFrame (.throwing q))) := by
  subst hg
  have hpl : e.platform.magicAccessors = ({} : Platform).magicAccessors := by rw [X.admits.platform]
  obtain ⟨mk, methM, cM, kP, vm₁, hnamed, hmethM, hcodeM, -, hlocalsM, -, hkP, -, hW₁, hstep₁⟩ := Steps.initColdArgsNest (e := e) X.here hexec X.warmed hpl hown hy1 hy hlink hinst hcode (f := g) rfl hlen hstack hdg
  have X₁ := X.noted hW₁
  rcases hK g.method meth c ⟨T.setVm vm₁, locs, cells, slots⟩ { g with stack := rest } (.invokespecial index) mk (Value.ref a :: argsL).toArray X₁ rfl hsize hdg hW (X₁.named hnamed) (hpre vm₁ X₁.warmed) with ⟨v, B, X', hpost, hsteps⟩ | ⟨q, B, X', hpost, hsteps⟩
  · exact Or.inl ⟨v, vm₁, B, X₁.warmed, X', hpost, fun target h => hstep₁ _ fun acts => by rw [doInvoke_state]; exact hsteps.trans h⟩
  · exact Or.inr ⟨q, vm₁, B, X₁.warmed, X', hpost, hstep₁ _ fun acts => by rw [doInvoke_state]; exact hsteps⟩
end VXIC
section VXID
variable {p : Program} {l : Launch} {e : Env} {R : Room} {s : State} {m : MethodId} {args : Array Value} {below : List Frame} {meth : Method} {c : Code} {H : Heap} {locs : List Loc} {cells slots : Nat}
theorem vx_runIN {y : MethodName} {bytes cc : ByteArray} {maxL nL mc ms n index : Nat} {ws : List Cond} {rm : Room} {Pc : Array Value → State → Prop} {Qc : Array Value → State → Outcome → State → Prop} {XC : String → State → State → Prop} {free : Addr → Prop} {Ts : List Cond} {own host : String} {b : Addr} {As rest : List Value} {g : JFrame}
    (S : CallFix p m c cc nL s args Ts own) (hM : vx_Met l y ws rm Pc Qc XC mc ms free) (cw : va_CN R s args own index y host bytes maxL none ws rm mc ms n ∧ y.name = "<init>" ∧ (Cond.instanceMethod y).before args s = true) (hp : PreS s H Pc (.ref b :: As))
    (hg : g.method = m) (hn : As.length = n) (hsize : g.locals.size = nL) (hstack : g.stack = As.reverse ++ .ref b :: rest) (hW : 2 * g.monitorRoom + (rest.map fun v => v.category).sum ≤ 8) (hdg : decode cc g.pc = .ok (.invokespecial index, 3)) (hf : cells + mc ≤ R.cells ∧ slots + ms ≤ R.slots) :
    vx_Run p l e R s m args below meth c H locs cells slots mc ms g rest (Qc (Value.ref b :: As).toArray) XC free := by
  obtain ⟨⟨⟨hrc, hrs, hfr, hlo, hws, hcw⟩, hcode, hini, hy, hlen, hl⟩, hx1, hx2⟩ := cw
  have hK : vx_Back l R p e below s args y 3 8 (PreOf R mc ms Pc) (PostOf Qc mc ms free) (vx_Post XC mc ms free) := vx_back (bytes := bytes) (maxL := maxL) (ret := none) hM hp.1 hrc hrs hfr hlo hws hcw (fun a' U hW => word_at hW (Or.inl (by first | rfl | simp [Cond.onTables, Cond.keeps, Cond.steady])) hini)
  obtain ⟨hx, hb, hml, ho, -⟩ := S
  have hPc := hp.2
  intro T hT X
  rcases vx_callIN X hx (bytes := bytes) (maxL := maxL) ho hx1 hl hx2 hcode hy hK hg (hsize.trans hml.symm) (a := b) (argsL := As) (rest := rest) (fun sig h => hn.trans (hlen sig h)) hstack hW (by rw [hb]; exact hdg)
    (fun vm₁ hW₁ => ⟨hf.1, hf.2, hPc (T.setVm vm₁) hT hW₁⟩) with ⟨v, vm₁, ⟨U', l2, c2, s2⟩, hW₁, X', ⟨g', mk, t, L, e1, e2, hq, h1, hL, h2, h3⟩, st⟩ | ⟨q, vm₁, ⟨U', l2, c2, s2⟩, hW₁, X', ⟨g', mk, t, L, E, ce, e1, e2, hq, hce, hcv, hcl, h1, hL, h2, h3⟩, st⟩
  · dsimp only [Pt.U, Pt.locs, Pt.cells, Pt.slots] at X' e1 e2 h1 h2 h3 st
    subst h1; subst h2; subst h3
    exact Or.inl ⟨v, (T.setVm vm₁).calling g' mk (Value.ref b :: As).toArray, t, U', L, hT, X', hL, e1, e2, hq, st⟩
  · dsimp only [Pt.U, Pt.locs, Pt.cells, Pt.slots] at X' e1 e2 h1 h2 h3 st hcl
    subst h1; subst h2; subst h3
    exact Or.inr ⟨q, (T.setVm vm₁).calling g' mk (Value.ref b :: As).toArray, t, U', L, E, ce, hT, X', hL, e1, e2, hq, hce, hcv, vx_cls hW₁ hcl, st⟩
end VXID
/-! ===== END ===== -/
/-! ===== BEGIN a method of a class above, found by the receiver, that may throw (follows va_callVU, va_runU of this kit) ===== -/
section
variable {p : Program} {l : Launch} {e : Env} {R : Room} {s : State} {m : MethodId} {args : Array Value} {below : List Frame} {meth : Method} {c : Code} {H : Heap} {locs : List Loc} {cells slots : Nat}
theorem vx_callVU {T : State} {locs : List Loc} {cells slots : Nat} (X : Stand p l e R s m args below meth c T locs cells slots) (hexec : p.tables.exec = Jvm.exec) {own C owner : String} {index : Nat} {x y : MethodName} {bytes : ByteArray} {maxL : Nat} {ret : Option FieldType}
    (hown : s.vm.findClass own = some m.cls) (hlink : (Cond.methodLink own index x).before args s = true) (hsame : (Cond.sameMethod x.cls owner x.name x.desc).before args s = true)
    (hd0 : va_Decl s ⟨owner, x.name, x.desc⟩) (howner : owner ≠ "java/lang/invoke/MethodHandle" ∧ owner ≠ "java/lang/invoke/VarHandle")
    (hsel : (Cond.selects C x y).before args s = true) (hinst : (Cond.instanceMethod y).before args s = true) (hcode : (Cond.code y bytes maxL ret).before args s = true)
    {W : Nat} {Pre : Pt → Array Value → Prop} {Post : Pt → Array Value → Option Value → Pt → Prop} {PostX : Pt → Array Value → Addr → Pt → Prop} (hK : vx_Back l R p e below s args y 3 W Pre Post PostX)
    {b : Addr} {cellB : Cell} (hcell : T.heap[b]? = some cellB) (hobj : cellB.vm.isStatics = false) (hcls : s.vm.findClass C = some cellB.cls)
    {g : JFrame} (hg : g.method = m) (hsize : g.locals.size = c.maxLocals) {argsL rest : List Value} (hlen : ∀ sig, parseMethodDescriptor x.desc = some sig → argsL.length = sig.parameters.length)
    (hstack : g.stack = argsL.reverse ++ .ref b :: rest) (hW : 2 * g.monitorRoom + (rest.map fun v => v.category).sum ≤ W) (hdg : decode c.code g.pc = .ok (.invokevirtual index, 3))
    (hpre : ∀ vm₁, s.WarmedH vm₁ → Pre ⟨T.setVm vm₁, locs, cells, slots⟩ (Value.ref b :: argsL).toArray) :
    (∃ (v : Option Value) (vm₁ : Vm) (B : Pt), s.WarmedH vm₁ ∧ Stand p l e R s m args below meth c B.U B.locs B.cells B.slots ∧ Post ⟨T.setVm vm₁, locs, cells, slots⟩ (Value.ref b :: argsL).toArray v B ∧
      ∀ target, Steps p.tables e below (B.U.setTop { g with pc := g.pc + 3, stack := v.toList ++ rest }) target → Steps p.tables e below (T.setTop g) target) ∨
    (∃ (q : Addr) (vm₁ : Vm) (B : Pt), s.WarmedH vm₁ ∧ Stand p l e R s m args below meth c B.U B.locs B.cells B.slots ∧ PostX ⟨T.setVm vm₁, locs, cells, slots⟩ (Value.ref b :: argsL).toArray q B ∧
      Steps p.tables e below (T.setTop g) ((B.U.setTop { g with stack := rest }).pushFrame (.throwing q))) := by
  obtain ⟨r0, r, hn, hrm, hstR, hsigR⟩ := hd0
  obtain ⟨cn, ck, r1, hcn, hck, hni, hf, hn1⟩ := Cond.sameMethod_found hsame
  cases hn.symm.trans hn1
  obtain ⟨mk, methM, hnamed, hmethM, -, habM⟩ := Cond.instanceMethod_spec hinst
  obtain ⟨c2, r2, m2, q1, q2, q3, q4, kP, hkP, hkPi⟩ := Cond.selects_spec hsel
  cases hcls.symm.trans q1
  cases hf.symm.trans q2
  cases hnamed.symm.trans q3
  have hselP : selectMethod e.platform s.vm cellB.cls r0 = .method mk := by rw [Launch.admits_selectMethod X.admits]; exact q4
  obtain ⟨vm₁, X₁, hstep₁⟩ := X.invokevirtualUp hexec hown hlink hsame howner hn hrm hstR (a := b) (cell := cellB) hcell
    (fun z h => by rw [h] at hobj; cases hobj) hselP hmethM habM hkP hkPi (g := g) hg (argsL := argsL) (rest := rest) (hlen _ hsigR) hstack hdg
  rcases hK m meth c ⟨T.setVm vm₁, locs, cells, slots⟩ { g with stack := rest } (.invokevirtual index) mk (Value.ref b :: argsL).toArray X₁ hg hsize hdg hW (X₁.named hnamed) (hpre vm₁ X₁.warmed) with ⟨v, B, X', hpost, hsteps⟩ | ⟨q, B, X', hpost, hsteps⟩
  · exact Or.inl ⟨v, vm₁, B, X₁.warmed, X', hpost, fun target h => hstep₁ _ fun acts => by rw [doInvoke_state]; exact hsteps.trans h⟩
  · exact Or.inr ⟨q, vm₁, B, X₁.warmed, X', hpost, hstep₁ _ fun acts => by rw [doInvoke_state]; exact hsteps⟩
theorem vx_runU {x y : MethodName} {bytes cc : ByteArray} {maxL nL mc ms n index : Nat} {ret : Option FieldType} {ws : List Cond} {rm : Room} {Pc : Array Value → State → Prop} {Qc : Array Value → State → Outcome → State → Prop} {XC : String → State → State → Prop} {free : Addr → Prop} {Ts : List Cond} {own C owner : String} {b : Addr} {As rest : List Value} {g : JFrame}
    (S : CallFix p m c cc nL s args Ts own) (hM : vx_Met l y ws rm Pc Qc XC mc ms free) (cw : va_CU R s args own C owner index x y bytes maxL ret ws rm mc ms n) (hp : PreV s H C b Pc As)
    (hg : g.method = m) (hn : As.length = n) (hsize : g.locals.size = nL) (hstack : g.stack = As.reverse ++ .ref b :: rest) (hW : 2 * g.monitorRoom + (rest.map fun v => v.category).sum ≤ 8) (hdg : decode cc g.pc = .ok (.invokevirtual index, 3)) (hf : cells + mc ≤ R.cells ∧ slots + ms ≤ R.slots) :
    vx_Run p l e R s m args below meth c H locs cells slots mc ms g rest (Qc (Value.ref b :: As).toArray) XC free := by
  obtain ⟨hrc, hrs, hfr, hlo, hws, hcw⟩ := cw.back
  have hini := cw.init
  have hK : vx_Back l R p e below s args y 3 8 (PreOf R mc ms Pc) (PostOf Qc mc ms free) (vx_Post XC mc ms free) := vx_back (bytes := bytes) (maxL := maxL) (ret := ret) hM hp.1 hrc hrs hfr hlo hws hcw (fun a' U hW => word_at hW (Or.inl (by first | rfl | simp [Cond.onTables, Cond.keeps, Cond.steady])) hini)
  obtain ⟨hx, hb, hml, ho, -⟩ := S
  obtain ⟨-, ⟨cellB, hcB, hoB, hclB⟩, hPc⟩ := hp
  intro T hT X
  rcases vx_callVU X hx (C := C) (owner := owner) (bytes := bytes) (maxL := maxL) (ret := ret) ho cw.link cw.same cw.decl cw.notMH cw.sel cw.inst cw.code hK (by rw [hT]; exact hcB) hoB hclB hg (hsize.trans hml.symm) (argsL := As) (rest := rest) (fun sig h => hn.trans (cw.len sig h)) hstack hW (by rw [hb]; exact hdg)
    (fun vm₁ hW₁ => ⟨hf.1, hf.2, hPc (T.setVm vm₁) hT hW₁⟩) with ⟨v, vm₁, ⟨U', l2, c2, s2⟩, hW₁, X', ⟨g', mk, t, L, e1, e2, hq, h1, hL, h2, h3⟩, st⟩ | ⟨q, vm₁, ⟨U', l2, c2, s2⟩, hW₁, X', ⟨g', mk, t, L, E, ce, e1, e2, hq, hce, hcv, hcl, h1, hL, h2, h3⟩, st⟩
  · dsimp only [Pt.U, Pt.locs, Pt.cells, Pt.slots] at X' e1 e2 h1 h2 h3 st
    subst h1; subst h2; subst h3
    exact Or.inl ⟨v, (T.setVm vm₁).calling g' mk (Value.ref b :: As).toArray, t, U', L, hT, X', hL, e1, e2, hq, st⟩
  · dsimp only [Pt.U, Pt.locs, Pt.cells, Pt.slots] at X' e1 e2 h1 h2 h3 st hcl
    subst h1; subst h2; subst h3
    exact Or.inr ⟨q, (T.setVm vm₁).calling g' mk (Value.ref b :: As).toArray, t, U', L, E, ce, hT, X', hL, e1, e2, hq, hce, hcv, vx_cls hW₁ hcl, st⟩
end
/-! ===== END ===== -/
/-! ===== BEGIN super.m(..) that may throw (follows va_callSU, va_runSU) ===== -/
section
variable {p : Program} {l : Launch} {e : Env} {R : Room} {s : State} {m : MethodId} {args : Array Value} {below : List Frame} {meth : Method} {c : Code} {H : Heap} {locs : List Loc} {cells slots : Nat}
theorem vx_callSU {T : State} {locs : List Loc} {cells slots : Nat} (X : Stand p l e R s m args below meth c T locs cells slots) (hexec : p.tables.exec = Jvm.exec) {own : String} {index : Nat} {y : MethodName} {bytes : ByteArray} {maxL : Nat} {ret : Option FieldType}
    (hown : s.vm.findClass own = some m.cls) (hlink : (Cond.methodLink own index y).before args s = true) (hsame : (Cond.sameMethod y.cls y.cls y.name y.desc).before args s = true) (hsup : (Cond.superclass own y.cls).before args s = true)
    (hinst : (Cond.instanceMethod y).before args s = true) (hcode : (Cond.code y bytes maxL ret).before args s = true) (hno : y.name ≠ "<init>")
    {W : Nat} {Pre : Pt → Array Value → Prop} {Post : Pt → Array Value → Option Value → Pt → Prop} {PostX : Pt → Array Value → Addr → Pt → Prop} (hK : vx_Back l R p e below s args y 3 W Pre Post PostX)
    {b : Addr} {cellB : Cell} {kB : Class} (hcell : T.heap[b]? = some cellB) (hobj : cellB.vm.isStatics = false) (hkB : s.vm.classes[cellB.cls]? = some kB)
    {g : JFrame} (hg : g.method = m) (hsize : g.locals.size = c.maxLocals) {argsL rest : List Value} (hlen : ∀ sig, parseMethodDescriptor y.desc = some sig → argsL.length = sig.parameters.length)
    (hstack : g.stack = argsL.reverse ++ .ref b :: rest) (hW : 2 * g.monitorRoom + (rest.map fun v => v.category).sum ≤ W) (hdg : decode c.code g.pc = .ok (.invokespecial index, 3))
    (hpre : ∀ vm₁, s.WarmedH vm₁ → Pre ⟨T.setVm vm₁, locs, cells, slots⟩ (Value.ref b :: argsL).toArray) :
    (∃ (v : Option Value) (vm₁ : Vm) (B : Pt), s.WarmedH vm₁ ∧ Stand p l e R s m args below meth c B.U B.locs B.cells B.slots ∧ Post ⟨T.setVm vm₁, locs, cells, slots⟩ (Value.ref b :: argsL).toArray v B ∧
      ∀ target, Steps p.tables e below (B.U.setTop { g with pc := g.pc + 3, stack := v.toList ++ rest }) target → Steps p.tables e below (T.setTop g) target) ∨
    (∃ (q : Addr) (vm₁ : Vm) (B : Pt), s.WarmedH vm₁ ∧ Stand p l e R s m args below meth c B.U B.locs B.cells B.slots ∧ PostX ⟨T.setVm vm₁, locs, cells, slots⟩ (Value.ref b :: argsL).toArray q B ∧
      Steps p.tables e below (T.setTop g) ((B.U.setTop { g with stack := rest }).pushFrame (.throwing q))) := by
  obtain ⟨mk, methM, hnamed, hmethM, hstM, habM⟩ := Cond.instanceMethod_spec hinst
  obtain ⟨methM', cM, hmethM', -, -, -, -, -, -, hsigM⟩ := Cond.code_spec hnamed hcode
  cases hmethM.symm.trans hmethM'
  obtain ⟨ps, dk, kp, hps, hdk, hkp, hsuper, -, -, hnid⟩ := Cond.superclass_spec hown hsup
  have hn : s.methodNamed? ⟨y.cls, y.name, y.desc⟩ = some mk := hnamed
  have hpm : ps = mk.cls := Option.some.inj (hps.symm.trans (findClass_of_methodNamed hnamed))
  have hsub : s.vm.isSubclass ps mk.cls = true := by rw [hpm]; simp [Vm.isSubclass, Vm.isSubclassAux]
  obtain ⟨vm₁, X₁, hstep₁⟩ := X.invokespecialUp hexec hown hlink hsame hn hmethM hstM habM hno hdk hnid hps hsuper hsub (a := b) (cell := cellB) hcell
    (fun z h => by rw [h] at hobj; cases hobj) hkB (g := g) hg (argsL := argsL) (rest := rest) (hlen _ hsigM) hstack hdg
  rcases hK m meth c ⟨T.setVm vm₁, locs, cells, slots⟩ { g with stack := rest } (.invokespecial index) mk (Value.ref b :: argsL).toArray X₁ hg hsize hdg hW (X₁.named hnamed) (hpre vm₁ X₁.warmed) with ⟨v, B, X', hpost, hsteps⟩ | ⟨q, B, X', hpost, hsteps⟩
  · exact Or.inl ⟨v, vm₁, B, X₁.warmed, X', hpost, fun target h => hstep₁ _ (by rw [doInvoke_state]; exact hsteps.trans h)⟩
  · exact Or.inr ⟨q, vm₁, B, X₁.warmed, X', hpost, hstep₁ _ (by rw [doInvoke_state]; exact hsteps)⟩
theorem vx_runSU {y : MethodName} {bytes cc : ByteArray} {maxL nL mc ms n index : Nat} {ret : Option FieldType} {ws : List Cond} {rm : Room} {Pc : Array Value → State → Prop} {Qc : Array Value → State → Outcome → State → Prop} {XC : String → State → State → Prop} {free : Addr → Prop} {Ts : List Cond} {own C : String} {cC : ClassId} {b : Addr} {As rest : List Value} {g : JFrame}
    (hat : ClassAt s C cC) (S : CallFix p m c cc nL s args Ts own) (hM : vx_Met l y ws rm Pc Qc XC mc ms free) (cw : va_CS R s args own index y bytes maxL ret ws rm mc ms n) (hp : PreV s H C b Pc As)
    (hg : g.method = m) (hn : As.length = n) (hsize : g.locals.size = nL) (hstack : g.stack = As.reverse ++ .ref b :: rest) (hW : 2 * g.monitorRoom + (rest.map fun v => v.category).sum ≤ 8) (hdg : decode cc g.pc = .ok (.invokespecial index, 3)) (hf : cells + mc ≤ R.cells ∧ slots + ms ≤ R.slots) :
    vx_Run p l e R s m args below meth c H locs cells slots mc ms g rest (Qc (Value.ref b :: As).toArray) XC free := by
  obtain ⟨⟨hrc, hrs, hfr, hlo, hws, hcw⟩, hl1, hl2, hl3, hl4, hini, hcode, hno, hlen⟩ := cw
  have hK : vx_Back l R p e below s args y 3 8 (PreOf R mc ms Pc) (PostOf Qc mc ms free) (vx_Post XC mc ms free) := vx_back (bytes := bytes) (maxL := maxL) (ret := ret) hM hp.1 hrc hrs hfr hlo hws hcw (fun a' U hW => word_at hW (Or.inl (by first | rfl | simp [Cond.onTables, Cond.keeps, Cond.steady])) hini)
  obtain ⟨hx, hb, hml, ho, -⟩ := S
  obtain ⟨-, ⟨cellB, hcB, hoB, hclB⟩, hPc⟩ := hp
  obtain ⟨hfc, kB, hkB, -⟩ := hat
  cases hfc.symm.trans hclB
  intro T hT X
  rcases vx_callSU X hx (bytes := bytes) (maxL := maxL) (ret := ret) ho hl1 hl2 hl3 hl4 hcode hno hK (by rw [hT]; exact hcB) hoB hkB hg (hsize.trans hml.symm) (argsL := As) (rest := rest) (fun sig h => hn.trans (hlen sig h)) hstack hW (by rw [hb]; exact hdg)
    (fun vm₁ hW₁ => ⟨hf.1, hf.2, hPc (T.setVm vm₁) hT hW₁⟩) with ⟨v, vm₁, ⟨U', l2, c2, s2⟩, hW₁, X', ⟨g', mk, t, L, e1, e2, hq, h1, hL, h2, h3⟩, st⟩ | ⟨q, vm₁, ⟨U', l2, c2, s2⟩, hW₁, X', ⟨g', mk, t, L, E, ce, e1, e2, hq, hce, hcv, hcl, h1, hL, h2, h3⟩, st⟩
  · dsimp only [Pt.U, Pt.locs, Pt.cells, Pt.slots] at X' e1 e2 h1 h2 h3 st
    subst h1; subst h2; subst h3
    exact Or.inl ⟨v, (T.setVm vm₁).calling g' mk (Value.ref b :: As).toArray, t, U', L, hT, X', hL, e1, e2, hq, st⟩
  · dsimp only [Pt.U, Pt.locs, Pt.cells, Pt.slots] at X' e1 e2 h1 h2 h3 st hcl
    subst h1; subst h2; subst h3
    exact Or.inr ⟨q, (T.setVm vm₁).calling g' mk (Value.ref b :: As).toArray, t, U', L, E, ce, hT, X', hL, e1, e2, hq, hce, hcv, vx_cls hW₁ hcl, st⟩
end
/-! ===== END ===== -/
end
section
def RX0 : String := "AccentHouse$Accent"
def TX0 : u_T := fun k => match k with
  | _ => ("AccentHouse$Accent", "positions", "[I", true)
def tyX0 : Nat → FieldType := fun k => match k with
  | _ => .array .int
abbrev wsX00 : List Cond := u_ws RX0 TX0 1
theorem nmX0 : ∀ a, a < 1 → ∀ b, b < 1 → a ≠ b → (TX0 a).2.1 ≠ (TX0 b).2.1 := by decide +kernel
theorem tyX0_ok : ∀ k, k < 1 → parseFieldDescriptor (TX0 k).2.2.1 = some (tyX0 k) := by decide +kernel
abbrev cX0_init : ByteArray := prog_2_method_1_code
def yX0_init : MethodName := ⟨RX0, "<init>", "()V"⟩
abbrev cX0_copyFrom : ByteArray := prog_2_method_2_code
def yX0_copyFrom : MethodName := ⟨RX0, "copyFrom", "(LAccentHouse$Accent;)V"⟩
abbrev cX0_setDigits : ByteArray := prog_2_method_3_code
def yX0_setDigits : MethodName := ⟨RX0, "setDigits", "(I)V"⟩
abbrev cX0_distanceTo : ByteArray := prog_2_method_4_code
def yX0_distanceTo : MethodName := ⟨RX0, "distanceTo", "(LAccentHouse$Accent;)I"⟩
abbrev cX0_rhymesWith : ByteArray := prog_2_method_5_code
def yX0_rhymesWith : MethodName := ⟨RX0, "rhymesWith", "(LAccentHouse$Accent;)Z"⟩
abbrev cX0_farthestVowel : ByteArray := prog_2_method_6_code
def yX0_farthestVowel : MethodName := ⟨RX0, "farthestVowel", "(LAccentHouse$Accent;)I"⟩
abbrev cX0_approach : ByteArray := prog_2_method_7_code
def yX0_approach : MethodName := ⟨RX0, "approach", "(LAccentHouse$Accent;)Z"⟩
def RX1 : String := "AccentHouse$History"
def TX1 : u_T := fun k => match k with
  | 0 => ("AccentHouse$History", "past", "[LAccentHouse$House;", true)
  | 1 => ("AccentHouse$History", "oldest", "I", false)
  | _ => ("AccentHouse$History", "kept", "I", false)
def tyX1 : Nat → FieldType := fun k => match k with
  | 0 => .array (.object "AccentHouse$House")
  | 1 => .int
  | _ => .int
abbrev wsX10 : List Cond := u_ws RX1 TX1 3
theorem nmX1 : ∀ a, a < 3 → ∀ b, b < 3 → a ≠ b → (TX1 a).2.1 ≠ (TX1 b).2.1 := by decide +kernel
theorem tyX1_ok : ∀ k, k < 3 → parseFieldDescriptor (TX1 k).2.2.1 = some (tyX1 k) := by decide +kernel
abbrev cX1_init : ByteArray := prog_3_method_1_code
def yX1_init : MethodName := ⟨RX1, "<init>", "()V"⟩
abbrev cX1_clear : ByteArray := prog_3_method_2_code
def yX1_clear : MethodName := ⟨RX1, "clear", "()V"⟩
abbrev cX1_remember : ByteArray := prog_3_method_3_code
def yX1_remember : MethodName := ⟨RX1, "remember", "(LAccentHouse$House;)V"⟩
abbrev cX1_takeBack : ByteArray := prog_3_method_4_code
def yX1_takeBack : MethodName := ⟨RX1, "takeBack", "(LAccentHouse$House;)V"⟩
def RX2 : String := "AccentHouse$House"
def TX2 : u_T := fun k => match k with
  | 0 => ("AccentHouse$House", "day", "I", false)
  | 1 => ("AccentHouse$House", "baseRent", "I", false)
  | 2 => ("AccentHouse$House", "tolerance", "I", false)
  | 3 => ("AccentHouse$House", "evicted", "I", false)
  | 4 => ("AccentHouse$House", "paid", "I", false)
  | 5 => ("AccentHouse$House", "charged", "I", false)
  | 6 => ("AccentHouse$House", "settledAmount", "I", false)
  | 7 => ("AccentHouse$House", "count", "I", false)
  | 8 => ("AccentHouse$House", "landlady", "LAccentHouse$Accent;", true)
  | 9 => ("AccentHouse$House", "lodgers", "[LAccentHouse$Lodger;", true)
  | _ => ("AccentHouse$House", "average", "LAccentHouse$Accent;", true)
def tyX2 : Nat → FieldType := fun k => match k with
  | 0 => .int
  | 1 => .int
  | 2 => .int
  | 3 => .int
  | 4 => .int
  | 5 => .int
  | 6 => .int
  | 7 => .int
  | 8 => .object "AccentHouse$Accent"
  | 9 => .array (.object "AccentHouse$Lodger")
  | _ => .object "AccentHouse$Accent"
abbrev wsX20 : List Cond := u_ws RX2 TX2 11
theorem nmX2 : ∀ a, a < 11 → ∀ b, b < 11 → a ≠ b → (TX2 a).2.1 ≠ (TX2 b).2.1 := by decide +kernel
theorem tyX2_ok : ∀ k, k < 11 → parseFieldDescriptor (TX2 k).2.2.1 = some (tyX2 k) := by decide +kernel
abbrev cX2_init : ByteArray := prog_4_method_1_code
def yX2_init : MethodName := ⟨RX2, "<init>", "()V"⟩
abbrev cX2_open : ByteArray := prog_4_method_2_code
def yX2_open : MethodName := ⟨RX2, "open", "(II)V"⟩
abbrev cX2_copyFrom : ByteArray := prog_4_method_3_code
def yX2_copyFrom : MethodName := ⟨RX2, "copyFrom", "(LAccentHouse$House;)V"⟩
abbrev cX2_dailyRent : ByteArray := prog_4_method_4_code
def yX2_dailyRent : MethodName := ⟨RX2, "dailyRent", "(I)I"⟩
abbrev cX2_crowdOn : ByteArray := prog_4_method_5_code
def yX2_crowdOn : MethodName := ⟨RX2, "crowdOn", "(I)I"⟩
abbrev cX2_isFullFor : ByteArray := prog_4_method_6_code
def yX2_isFullFor : MethodName := ⟨RX2, "isFullFor", "(ILAccentHouse$Lodger;)Z"⟩
abbrev cX2_numberAt : ByteArray := prog_4_method_7_code
def yX2_numberAt : MethodName := ⟨RX2, "numberAt", "(II)I"⟩
abbrev cX2_numberOf : ByteArray := prog_4_method_8_code
def yX2_numberOf : MethodName := ⟨RX2, "numberOf", "([BII)I"⟩
abbrev cX2_houses : ByteArray := prog_4_method_9_code
def yX2_houses : MethodName := ⟨RX2, "houses", "(LAccentHouse$Lodger;)Z"⟩
abbrev cX2_unusedLetter : ByteArray := prog_4_method_10_code
def yX2_unusedLetter : MethodName := ⟨RX2, "unusedLetter", "()Ljava/lang/String;"⟩
abbrev cX2_hasLetterName : ByteArray := prog_4_method_11_code
def yX2_hasLetterName : MethodName := ⟨RX2, "hasLetterName", "(C)Z"⟩
abbrev cX2_averagePosition : ByteArray := prog_4_method_12_code
def yX2_averagePosition : MethodName := ⟨RX2, "averagePosition", "(II)I"⟩
abbrev cX2_computeAverage : ByteArray := prog_4_method_13_code
def yX2_computeAverage : MethodName := ⟨RX2, "computeAverage", "(I)V"⟩
abbrev cX2_mustLeave : ByteArray := prog_4_method_14_code
def yX2_mustLeave : MethodName := ⟨RX2, "mustLeave", "(LAccentHouse$Lodger;)Z"⟩
abbrev cX2_receive : ByteArray := prog_4_method_15_code
def yX2_receive : MethodName := ⟨RX2, "receive", "(Ljava/lang/String;III)I"⟩
abbrev cX2_dismiss : ByteArray := prog_4_method_16_code
def yX2_dismiss : MethodName := ⟨RX2, "dismiss", "(I)V"⟩
abbrev cX2_takePayment : ByteArray := prog_4_method_17_code
def yX2_takePayment : MethodName := ⟨RX2, "takePayment", "(LAccentHouse$Lodger;I)V"⟩
abbrev cX2_passDay : ByteArray := prog_4_method_18_code
def yX2_passDay : MethodName := ⟨RX2, "passDay", "()V"⟩
abbrev cX2_collectRent : ByteArray := prog_4_method_19_code
def yX2_collectRent : MethodName := ⟨RX2, "collectRent", "()V"⟩
abbrev cX2_giveLessons : ByteArray := prog_4_method_20_code
def yX2_giveLessons : MethodName := ⟨RX2, "giveLessons", "()V"⟩
abbrev cX2_serveDinner : ByteArray := prog_4_method_21_code
def yX2_serveDinner : MethodName := ⟨RX2, "serveDinner", "(I)V"⟩
abbrev cX2_inspect : ByteArray := prog_4_method_22_code
def yX2_inspect : MethodName := ⟨RX2, "inspect", "()V"⟩
def RX3 : String := "AccentHouse$Lodger"
def TX3 : u_T := fun k => match k with
  | 0 => ("AccentHouse$Lodger", "name", "Ljava/lang/String;", false)
  | 1 => ("AccentHouse$Lodger", "floor", "I", false)
  | 2 => ("AccentHouse$Lodger", "balance", "I", false)
  | 3 => ("AccentHouse$Lodger", "lessons", "I", false)
  | 4 => ("AccentHouse$Lodger", "slips", "I", false)
  | 5 => ("AccentHouse$Lodger", "arrivalDay", "I", false)
  | _ => ("AccentHouse$Lodger", "accent", "LAccentHouse$Accent;", true)
def tyX3 : Nat → FieldType := fun k => match k with
  | 0 => .object "java/lang/String"
  | 1 => .int
  | 2 => .int
  | 3 => .int
  | 4 => .int
  | 5 => .int
  | _ => .object "AccentHouse$Accent"
abbrev wsX30 : List Cond := u_ws RX3 TX3 7
theorem nmX3 : ∀ a, a < 7 → ∀ b, b < 7 → a ≠ b → (TX3 a).2.1 ≠ (TX3 b).2.1 := by decide +kernel
theorem tyX3_ok : ∀ k, k < 7 → parseFieldDescriptor (TX3 k).2.2.1 = some (tyX3 k) := by decide +kernel
abbrev cX3_init : ByteArray := prog_5_method_1_code
def yX3_init : MethodName := ⟨RX3, "<init>", "()V"⟩
abbrev cX3_copyFrom : ByteArray := prog_5_method_2_code
def yX3_copyFrom : MethodName := ⟨RX3, "copyFrom", "(LAccentHouse$Lodger;)V"⟩
abbrev cX3_isNamed : ByteArray := prog_5_method_3_code
def yX3_isNamed : MethodName := ⟨RX3, "isNamed", "([BII)Z"⟩
def RX4 : String := "AccentHouse$Parser"
def TX4 : u_T := fun k => match k with
  | 0 => ("AccentHouse$Parser", "text", "[B", true)
  | 1 => ("AccentHouse$Parser", "tokens", "LAccentHouse$Tokens;", true)
  | 2 => ("AccentHouse$Parser", "house", "LAccentHouse$House;", true)
  | 3 => ("AccentHouse$Parser", "errorKind", "I", false)
  | _ => ("AccentHouse$Parser", "errorOffset", "I", false)
def tyX4 : Nat → FieldType := fun k => match k with
  | 0 => .array .byte
  | 1 => .object "AccentHouse$Tokens"
  | 2 => .object "AccentHouse$House"
  | 3 => .int
  | _ => .int
abbrev wsX40 : List Cond := u_ws RX4 TX4 5
theorem nmX4 : ∀ a, a < 5 → ∀ b, b < 5 → a ≠ b → (TX4 a).2.1 ≠ (TX4 b).2.1 := by decide +kernel
theorem tyX4_ok : ∀ k, k < 5 → parseFieldDescriptor (TX4 k).2.2.1 = some (tyX4 k) := by decide +kernel
abbrev cX4_init : ByteArray := prog_6_method_1_code
def yX4_init : MethodName := ⟨RX4, "<init>", "([B)V"⟩
abbrev cX4_read : ByteArray := prog_6_method_2_code
def yX4_read : MethodName := ⟨RX4, "read", "(I)V"⟩
abbrev cX4_readHeader : ByteArray := prog_6_method_3_code
def yX4_readHeader : MethodName := ⟨RX4, "readHeader", "()V"⟩
abbrev cX4_readLodger : ByteArray := prog_6_method_4_code
def yX4_readLodger : MethodName := ⟨RX4, "readLodger", "()V"⟩
abbrev cX4_readPay : ByteArray := prog_6_method_5_code
def yX4_readPay : MethodName := ⟨RX4, "readPay", "()V"⟩
abbrev cX4_readMove : ByteArray := prog_6_method_6_code
def yX4_readMove : MethodName := ⟨RX4, "readMove", "()V"⟩
abbrev cX4_readDays : ByteArray := prog_6_method_7_code
def yX4_readDays : MethodName := ⟨RX4, "readDays", "()V"⟩
abbrev cX4_expectWord : ByteArray := prog_6_method_8_code
def yX4_expectWord : MethodName := ⟨RX4, "expectWord", "(Ljava/lang/String;)V"⟩
abbrev cX4_isAtName : ByteArray := prog_6_method_9_code
def yX4_isAtName : MethodName := ⟨RX4, "isAtName", "()Z"⟩
abbrev cX4_readKnownName : ByteArray := prog_6_method_10_code
def yX4_readKnownName : MethodName := ⟨RX4, "readKnownName", "()LAccentHouse$Lodger;"⟩
abbrev cX4_readNumber : ByteArray := prog_6_method_11_code
def yX4_readNumber : MethodName := ⟨RX4, "readNumber", "(II)I"⟩
abbrev cX4_readFloor : ByteArray := prog_6_method_12_code
def yX4_readFloor : MethodName := ⟨RX4, "readFloor", "(LAccentHouse$Lodger;)I"⟩
abbrev cX4_readAccent : ByteArray := prog_6_method_13_code
def yX4_readAccent : MethodName := ⟨RX4, "readAccent", "()I"⟩
abbrev cX4_fail : ByteArray := prog_6_method_14_code
def yX4_fail : MethodName := ⟨RX4, "fail", "(II)V"⟩
def RX5 : String := "AccentHouse$Token"
def TX5 : u_T := fun k => match k with
  | _ => ("", "", "", false)
def tyX5 : Nat → FieldType := fun k => match k with
  | _ => .int
abbrev wsX50 : List Cond := u_ws RX5 TX5 0
theorem nmX5 : ∀ a, a < 0 → ∀ b, b < 0 → a ≠ b → (TX5 a).2.1 ≠ (TX5 b).2.1 := by decide +kernel
theorem tyX5_ok : ∀ k, k < 0 → parseFieldDescriptor (TX5 k).2.2.1 = some (tyX5 k) := by decide +kernel
def RX6 : String := "AccentHouse$Tokens"
def TX6 : u_T := fun k => match k with
  | 0 => ("AccentHouse$Tokens", "text", "[B", true)
  | 1 => ("AccentHouse$Tokens", "letters", "Ljava/lang/StringBuilder;", true)
  | 2 => ("AccentHouse$Tokens", "length", "I", false)
  | 3 => ("AccentHouse$Tokens", "kind", "LAccentHouse$Token;", false)
  | 4 => ("AccentHouse$Tokens", "start", "I", false)
  | _ => ("AccentHouse$Tokens", "end", "I", false)
def tyX6 : Nat → FieldType := fun k => match k with
  | 0 => .array .byte
  | 1 => .object "java/lang/StringBuilder"
  | 2 => .int
  | 3 => .object "AccentHouse$Token"
  | 4 => .int
  | _ => .int
abbrev wsX60 : List Cond := u_ws RX6 TX6 6
theorem nmX6 : ∀ a, a < 6 → ∀ b, b < 6 → a ≠ b → (TX6 a).2.1 ≠ (TX6 b).2.1 := by decide +kernel
theorem tyX6_ok : ∀ k, k < 6 → parseFieldDescriptor (TX6 k).2.2.1 = some (tyX6 k) := by decide +kernel
abbrev cX6_init : ByteArray := prog_8_method_1_code
def yX6_init : MethodName := ⟨RX6, "<init>", "([B)V"⟩
abbrev cX6_restart : ByteArray := prog_8_method_2_code
def yX6_restart : MethodName := ⟨RX6, "restart", "(I)V"⟩
abbrev cX6_step : ByteArray := prog_8_method_3_code
def yX6_step : MethodName := ⟨RX6, "step", "()V"⟩
abbrev cX6_isLetter : ByteArray := prog_8_method_4_code
def yX6_isLetter : MethodName := ⟨RX6, "isLetter", "(B)Z"⟩
abbrev cX6_isDigit : ByteArray := prog_8_method_5_code
def yX6_isDigit : MethodName := ⟨RX6, "isDigit", "(B)Z"⟩
abbrev cX6_size : ByteArray := prog_8_method_6_code
def yX6_size : MethodName := ⟨RX6, "size", "()I"⟩
abbrev cX6_isWord : ByteArray := prog_8_method_7_code
def yX6_isWord : MethodName := ⟨RX6, "isWord", "(Ljava/lang/String;)Z"⟩
abbrev cX6_value : ByteArray := prog_8_method_8_code
def yX6_value : MethodName := ⟨RX6, "value", "()I"⟩
abbrev cX6_word : ByteArray := prog_8_method_9_code
def yX6_word : MethodName := ⟨RX6, "word", "()Ljava/lang/String;"⟩
def RX7 : String := "AccentHouse"
def TX7 : u_T := fun k => match k with
  | 0 => ("AccentHouse", "input", "[B", true)
  | 1 => ("AccentHouse", "inputLength", "I", false)
  | 2 => ("AccentHouse", "output", "Ljava/lang/StringBuilder;", true)
  | 3 => ("AccentHouse", "parser", "LAccentHouse$Parser;", true)
  | 4 => ("AccentHouse", "reportedKind", "I", false)
  | 5 => ("AccentHouse", "reportedOffset", "I", false)
  | 6 => ("AccentHouse", "house", "LAccentHouse$House;", true)
  | 7 => ("AccentHouse", "trial", "LAccentHouse$House;", true)
  | 8 => ("AccentHouse", "history", "LAccentHouse$History;", true)
  | 9 => ("AccentHouse", "saved", "[LAccentHouse$House;", true)
  | _ => ("AccentHouse", "isSaved", "[Z", true)
def tyX7 : Nat → FieldType := fun k => match k with
  | 0 => .array .byte
  | 1 => .int
  | 2 => .object "java/lang/StringBuilder"
  | 3 => .object "AccentHouse$Parser"
  | 4 => .int
  | 5 => .int
  | 6 => .object "AccentHouse$House"
  | 7 => .object "AccentHouse$House"
  | 8 => .object "AccentHouse$History"
  | 9 => .array (.object "AccentHouse$House")
  | _ => .array .boolean
abbrev wsX70 : List Cond := u_ws RX7 TX7 11
theorem nmX7 : ∀ a, a < 11 → ∀ b, b < 11 → a ≠ b → (TX7 a).2.1 ≠ (TX7 b).2.1 := by decide +kernel
theorem tyX7_ok : ∀ k, k < 11 → parseFieldDescriptor (TX7 k).2.2.1 = some (tyX7 k) := by decide +kernel
abbrev cX7_init : ByteArray := prog_1_method_1_code
def yX7_init : MethodName := ⟨RX7, "<init>", "()V"⟩
abbrev cX7_append : ByteArray := prog_1_method_2_code
def yX7_append : MethodName := ⟨RX7, "append", "(IIIII)I"⟩
abbrev cX7_appendWord : ByteArray := prog_1_method_3_code
def yX7_appendWord : MethodName := ⟨RX7, "appendWord", "(I)V"⟩
abbrev cX7_load : ByteArray := prog_1_method_4_code
def yX7_load : MethodName := ⟨RX7, "load", "(I)I"⟩
abbrev cX7_errorKind : ByteArray := prog_1_method_5_code
def yX7_errorKind : MethodName := ⟨RX7, "errorKind", "()I"⟩
abbrev cX7_errorOffset : ByteArray := prog_1_method_6_code
def yX7_errorOffset : MethodName := ⟨RX7, "errorOffset", "()I"⟩
abbrev cX7_day : ByteArray := prog_1_method_7_code
def yX7_day : MethodName := ⟨RX7, "day", "()I"⟩
abbrev cX7_lodgerCount : ByteArray := prog_1_method_8_code
def yX7_lodgerCount : MethodName := ⟨RX7, "lodgerCount", "()I"⟩
abbrev cX7_baseRent : ByteArray := prog_1_method_9_code
def yX7_baseRent : MethodName := ⟨RX7, "baseRent", "()I"⟩
abbrev cX7_tolerance : ByteArray := prog_1_method_10_code
def yX7_tolerance : MethodName := ⟨RX7, "tolerance", "()I"⟩
abbrev cX7_rentOf : ByteArray := prog_1_method_11_code
def yX7_rentOf : MethodName := ⟨RX7, "rentOf", "(I)I"⟩
abbrev cX7_landladyVowel : ByteArray := prog_1_method_12_code
def yX7_landladyVowel : MethodName := ⟨RX7, "landladyVowel", "(I)I"⟩
abbrev cX7_daysToInspection : ByteArray := prog_1_method_13_code
def yX7_daysToInspection : MethodName := ⟨RX7, "daysToInspection", "()I"⟩
abbrev cX7_evictions : ByteArray := prog_1_method_14_code
def yX7_evictions : MethodName := ⟨RX7, "evictions", "()I"⟩
abbrev cX7_undoCount : ByteArray := prog_1_method_15_code
def yX7_undoCount : MethodName := ⟨RX7, "undoCount", "()I"⟩
abbrev cX7_floorOf : ByteArray := prog_1_method_16_code
def yX7_floorOf : MethodName := ⟨RX7, "floorOf", "(I)I"⟩
abbrev cX7_balanceOf : ByteArray := prog_1_method_17_code
def yX7_balanceOf : MethodName := ⟨RX7, "balanceOf", "(I)I"⟩
abbrev cX7_vowelOf : ByteArray := prog_1_method_18_code
def yX7_vowelOf : MethodName := ⟨RX7, "vowelOf", "(II)I"⟩
abbrev cX7_lessonsOf : ByteArray := prog_1_method_19_code
def yX7_lessonsOf : MethodName := ⟨RX7, "lessonsOf", "(I)I"⟩
abbrev cX7_slipsOf : ByteArray := prog_1_method_20_code
def yX7_slipsOf : MethodName := ⟨RX7, "slipsOf", "(I)I"⟩
abbrev cX7_daysStayed : ByteArray := prog_1_method_21_code
def yX7_daysStayed : MethodName := ⟨RX7, "daysStayed", "(I)I"⟩
abbrev cX7_nameLength : ByteArray := prog_1_method_22_code
def yX7_nameLength : MethodName := ⟨RX7, "nameLength", "(I)I"⟩
abbrev cX7_nameLetter : ByteArray := prog_1_method_23_code
def yX7_nameLetter : MethodName := ⟨RX7, "nameLetter", "(II)C"⟩
abbrev cX7_findByName : ByteArray := prog_1_method_24_code
def yX7_findByName : MethodName := ⟨RX7, "findByName", "()I"⟩
abbrev cX7_lodgersOn : ByteArray := prog_1_method_25_code
def yX7_lodgersOn : MethodName := ⟨RX7, "lodgersOn", "(I)I"⟩
abbrev cX7_lodgerOn : ByteArray := prog_1_method_26_code
def yX7_lodgerOn : MethodName := ⟨RX7, "lodgerOn", "(II)I"⟩
abbrev cX7_averageVowel : ByteArray := prog_1_method_27_code
def yX7_averageVowel : MethodName := ⟨RX7, "averageVowel", "(II)I"⟩
abbrev cX7_distanceToLandlady : ByteArray := prog_1_method_28_code
def yX7_distanceToLandlady : MethodName := ⟨RX7, "distanceToLandlady", "(I)I"⟩
abbrev cX7_distance : ByteArray := prog_1_method_29_code
def yX7_distance : MethodName := ⟨RX7, "distance", "(II)I"⟩
abbrev cX7_rhymes : ByteArray := prog_1_method_30_code
def yX7_rhymes : MethodName := ⟨RX7, "rhymes", "(II)Z"⟩
abbrev cX7_rhymesWithLandlady : ByteArray := prog_1_method_31_code
def yX7_rhymesWithLandlady : MethodName := ⟨RX7, "rhymesWithLandlady", "(I)Z"⟩
abbrev cX7_rhymeCount : ByteArray := prog_1_method_32_code
def yX7_rhymeCount : MethodName := ⟨RX7, "rhymeCount", "(I)I"⟩
abbrev cX7_closestTo : ByteArray := prog_1_method_33_code
def yX7_closestTo : MethodName := ⟨RX7, "closestTo", "(I)I"⟩
abbrev cX7_lessonVowel : ByteArray := prog_1_method_34_code
def yX7_lessonVowel : MethodName := ⟨RX7, "lessonVowel", "(I)I"⟩
abbrev cX7_slipVowel : ByteArray := prog_1_method_35_code
def yX7_slipVowel : MethodName := ⟨RX7, "slipVowel", "(I)I"⟩
abbrev cX7_mustGo : ByteArray := prog_1_method_36_code
def yX7_mustGo : MethodName := ⟨RX7, "mustGo", "(I)Z"⟩
abbrev cX7_meanDistance : ByteArray := prog_1_method_37_code
def yX7_meanDistance : MethodName := ⟨RX7, "meanDistance", "()D"⟩
abbrev cX7_rhymingShare : ByteArray := prog_1_method_38_code
def yX7_rhymingShare : MethodName := ⟨RX7, "rhymingShare", "()F"⟩
abbrev cX7_balanceAfter : ByteArray := prog_1_method_39_code
def yX7_balanceAfter : MethodName := ⟨RX7, "balanceAfter", "(II)I"⟩
abbrev cX7_distanceAfter : ByteArray := prog_1_method_40_code
def yX7_distanceAfter : MethodName := ⟨RX7, "distanceAfter", "(II)I"⟩
abbrev cX7_daysToEviction : ByteArray := prog_1_method_41_code
def yX7_daysToEviction : MethodName := ⟨RX7, "daysToEviction", "(I)I"⟩
abbrev cX7_paymentToStay : ByteArray := prog_1_method_42_code
def yX7_paymentToStay : MethodName := ⟨RX7, "paymentToStay", "(I)I"⟩
abbrev cX7_staysWith : ByteArray := prog_1_method_43_code
def yX7_staysWith : MethodName := ⟨RX7, "staysWith", "(II)Z"⟩
abbrev cX7_startTrial : ByteArray := prog_1_method_44_code
def yX7_startTrial : MethodName := ⟨RX7, "startTrial", "(I)LAccentHouse$Lodger;"⟩
abbrev cX7_runTrial : ByteArray := prog_1_method_45_code
def yX7_runTrial : MethodName := ⟨RX7, "runTrial", "(LAccentHouse$Lodger;I)I"⟩
abbrev cX7_totalPaid : ByteArray := prog_1_method_46_code
def yX7_totalPaid : MethodName := ⟨RX7, "totalPaid", "()I"⟩
abbrev cX7_totalCharged : ByteArray := prog_1_method_47_code
def yX7_totalCharged : MethodName := ⟨RX7, "totalCharged", "()I"⟩
abbrev cX7_settled : ByteArray := prog_1_method_48_code
def yX7_settled : MethodName := ⟨RX7, "settled", "()I"⟩
abbrev cX7_ledgerDifference : ByteArray := prog_1_method_49_code
def yX7_ledgerDifference : MethodName := ⟨RX7, "ledgerDifference", "()I"⟩
abbrev cX7_advance : ByteArray := prog_1_method_50_code
def yX7_advance : MethodName := ⟨RX7, "advance", "(I)I"⟩
abbrev cX7_moveIn : ByteArray := prog_1_method_51_code
def yX7_moveIn : MethodName := ⟨RX7, "moveIn", "(III)I"⟩
abbrev cX7_moveOut : ByteArray := prog_1_method_52_code
def yX7_moveOut : MethodName := ⟨RX7, "moveOut", "(I)I"⟩
abbrev cX7_moveTo : ByteArray := prog_1_method_53_code
def yX7_moveTo : MethodName := ⟨RX7, "moveTo", "(II)I"⟩
abbrev cX7_pay : ByteArray := prog_1_method_54_code
def yX7_pay : MethodName := ⟨RX7, "pay", "(II)I"⟩
abbrev cX7_setLandladyVowel : ByteArray := prog_1_method_55_code
def yX7_setLandladyVowel : MethodName := ⟨RX7, "setLandladyVowel", "(II)I"⟩
abbrev cX7_setTolerance : ByteArray := prog_1_method_56_code
def yX7_setTolerance : MethodName := ⟨RX7, "setTolerance", "(I)I"⟩
abbrev cX7_setBaseRent : ByteArray := prog_1_method_57_code
def yX7_setBaseRent : MethodName := ⟨RX7, "setBaseRent", "(I)I"⟩
abbrev cX7_restore : ByteArray := prog_1_method_58_code
def yX7_restore : MethodName := ⟨RX7, "restore", "(I)I"⟩
abbrev cX7_undo : ByteArray := prog_1_method_59_code
def yX7_undo : MethodName := ⟨RX7, "undo", "()I"⟩
abbrev cX7_save : ByteArray := prog_1_method_60_code
def yX7_save : MethodName := ⟨RX7, "save", "(I)I"⟩
abbrev cX7_writeLodger : ByteArray := prog_1_method_61_code
def yX7_writeLodger : MethodName := ⟨RX7, "writeLodger", "(I)I"⟩
abbrev cX7_writeFloor : ByteArray := prog_1_method_62_code
def yX7_writeFloor : MethodName := ⟨RX7, "writeFloor", "(I)I"⟩
abbrev cX7_outputCharacter : ByteArray := prog_1_method_63_code
def yX7_outputCharacter : MethodName := ⟨RX7, "outputCharacter", "(I)C"⟩
abbrev cX7_requireLodger : ByteArray := prog_1_method_64_code
def yX7_requireLodger : MethodName := ⟨RX7, "requireLodger", "(I)LAccentHouse$Lodger;"⟩
abbrev cX7_requireFloor : ByteArray := prog_1_method_65_code
def yX7_requireFloor : MethodName := ⟨RX7, "requireFloor", "(I)V"⟩
abbrev cX7_requireVowel : ByteArray := prog_1_method_66_code
def yX7_requireVowel : MethodName := ⟨RX7, "requireVowel", "(I)V"⟩
abbrev cX7_requireSlot : ByteArray := prog_1_method_67_code
def yX7_requireSlot : MethodName := ⟨RX7, "requireSlot", "(I)V"⟩
abbrev cX7_requireRange : ByteArray := prog_1_method_68_code
def yX7_requireRange : MethodName := ⟨RX7, "requireRange", "(III)V"⟩
abbrev cX7_requirePlace : ByteArray := prog_1_method_69_code
def yX7_requirePlace : MethodName := ⟨RX7, "requirePlace", "(ILAccentHouse$Lodger;)V"⟩
def RX8 : String := "AccentHouseModel"
def TX8 : u_T := fun k => match k with
  | 0 => ("AccentHouseModel", "keys", "[I", true)
  | 1 => ("AccentHouseModel", "firsts", "[I", true)
  | 2 => ("AccentHouseModel", "thrown", "I", false)
  | 3 => ("AccentHouseModel", "now", "[I", true)
  | 4 => ("AccentHouseModel", "aside", "[I", true)
  | 5 => ("AccentHouseModel", "old", "[I", true)
  | 6 => ("AccentHouseModel", "oldMany", "I", false)
  | 7 => ("AccentHouseModel", "saved", "[I", true)
  | 8 => ("AccentHouseModel", "savedSet", "I", false)
  | 9 => ("AccentHouseModel", "averages", "[I", true)
  | 10 => ("AccentHouseModel", "on", "[I", true)
  | 11 => ("AccentHouseModel", "tracked", "I", false)
  | 12 => ("AccentHouseModel", "trackedBalance", "I", false)
  | 13 => ("AccentHouseModel", "input", "[B", true)
  | 14 => ("AccentHouseModel", "inputMany", "I", false)
  | 15 => ("AccentHouseModel", "output", "[C", true)
  | 16 => ("AccentHouseModel", "outputMany", "I", false)
  | 17 => ("AccentHouseModel", "errorKind", "I", false)
  | 18 => ("AccentHouseModel", "errorOffset", "I", false)
  | 19 => ("AccentHouseModel", "textEnd", "I", false)
  | 20 => ("AccentHouseModel", "kind", "I", false)
  | 21 => ("AccentHouseModel", "from", "I", false)
  | 22 => ("AccentHouseModel", "to", "I", false)
  | 23 => ("AccentHouseModel", "value", "I", false)
  | 24 => ("AccentHouseModel", "fault", "I", false)
  | _ => ("AccentHouseModel", "faultAt", "I", false)
def tyX8 : Nat → FieldType := fun k => match k with
  | 0 => .array .int
  | 1 => .array .int
  | 2 => .int
  | 3 => .array .int
  | 4 => .array .int
  | 5 => .array .int
  | 6 => .int
  | 7 => .array .int
  | 8 => .int
  | 9 => .array .int
  | 10 => .array .int
  | 11 => .int
  | 12 => .int
  | 13 => .array .byte
  | 14 => .int
  | 15 => .array .char
  | 16 => .int
  | 17 => .int
  | 18 => .int
  | 19 => .int
  | 20 => .int
  | 21 => .int
  | 22 => .int
  | 23 => .int
  | 24 => .int
  | _ => .int
abbrev wsX80 : List Cond := u_ws RX8 TX8 26
theorem nmX8 : ∀ a, a < 26 → ∀ b, b < 26 → a ≠ b → (TX8 a).2.1 ≠ (TX8 b).2.1 := by decide +kernel
theorem tyX8_ok : ∀ k, k < 26 → parseFieldDescriptor (TX8 k).2.2.1 = some (tyX8 k) := by decide +kernel
abbrev cX8_init : ByteArray := prog_10_method_1_code
def yX8_init : MethodName := ⟨RX8, "<init>", "()V"⟩
abbrev cX8_thrown : ByteArray := prog_10_method_2_code
def yX8_thrown : MethodName := ⟨RX8, "thrown", "()I"⟩
abbrev cX8_refuse : ByteArray := prog_10_method_3_code
def yX8_refuse : MethodName := ⟨RX8, "refuse", "(I)I"⟩
abbrev cX8_told : ByteArray := prog_10_method_4_code
def yX8_told : MethodName := ⟨RX8, "told", "(I)I"⟩
abbrev cX8_says : ByteArray := prog_10_method_5_code
def yX8_says : MethodName := ⟨RX8, "says", "(Z)Z"⟩
abbrev cX8_in : ByteArray := prog_10_method_6_code
def yX8_in : MethodName := ⟨RX8, "in", "(III)Z"⟩
abbrev cX8_without : ByteArray := prog_10_method_7_code
def yX8_without : MethodName := ⟨RX8, "without", "(I)I"⟩
abbrev cX8_l : ByteArray := prog_10_method_8_code
def yX8_l : MethodName := ⟨RX8, "l", "(I)I"⟩
abbrev cX8_isLodger : ByteArray := prog_10_method_9_code
def yX8_isLodger : MethodName := ⟨RX8, "isLodger", "(I)Z"⟩
abbrev cX8_isFloor : ByteArray := prog_10_method_10_code
def yX8_isFloor : MethodName := ⟨RX8, "isFloor", "(I)Z"⟩
abbrev cX8_isVowel : ByteArray := prog_10_method_11_code
def yX8_isVowel : MethodName := ⟨RX8, "isVowel", "(I)Z"⟩
abbrev cX8_at : ByteArray := prog_10_method_12_code
def yX8_at : MethodName := ⟨RX8, "at", "(II)I"⟩
abbrev cX8_comes : ByteArray := prog_10_method_13_code
def yX8_comes : MethodName := ⟨RX8, "comes", "(III)V"⟩
abbrev cX8_goes : ByteArray := prog_10_method_14_code
def yX8_goes : MethodName := ⟨RX8, "goes", "(I)V"⟩
abbrev cX8_livingOn : ByteArray := prog_10_method_15_code
def yX8_livingOn : MethodName := ⟨RX8, "livingOn", "(II)I"⟩
abbrev cX8_rentAt : ByteArray := prog_10_method_16_code
def yX8_rentAt : MethodName := ⟨RX8, "rentAt", "(I)I"⟩
abbrev cX8_averageAt : ByteArray := prog_10_method_17_code
def yX8_averageAt : MethodName := ⟨RX8, "averageAt", "(II)I"⟩
abbrev cX8_toLandlady : ByteArray := prog_10_method_18_code
def yX8_toLandlady : MethodName := ⟨RX8, "toLandlady", "(I)I"⟩
abbrev cX8_rhymesHer : ByteArray := prog_10_method_19_code
def yX8_rhymesHer : MethodName := ⟨RX8, "rhymesHer", "(I)Z"⟩
abbrev cX8_between : ByteArray := prog_10_method_20_code
def yX8_between : MethodName := ⟨RX8, "between", "(II)I"⟩
abbrev cX8_rhyme : ByteArray := prog_10_method_21_code
def yX8_rhyme : MethodName := ⟨RX8, "rhyme", "(II)Z"⟩
abbrev cX8_lessonFor : ByteArray := prog_10_method_22_code
def yX8_lessonFor : MethodName := ⟨RX8, "lessonFor", "(I)I"⟩
abbrev cX8_averagesNow : ByteArray := prog_10_method_23_code
def yX8_averagesNow : MethodName := ⟨RX8, "averagesNow", "()V"⟩
abbrev cX8_slipFor : ByteArray := prog_10_method_24_code
def yX8_slipFor : MethodName := ⟨RX8, "slipFor", "(I)I"⟩
abbrev cX8_hasToGo : ByteArray := prog_10_method_25_code
def yX8_hasToGo : MethodName := ⟨RX8, "hasToGo", "(I)Z"⟩
abbrev cX8_moves : ByteArray := prog_10_method_26_code
def yX8_moves : MethodName := ⟨RX8, "moves", "(III)V"⟩
abbrev cX8_charges : ByteArray := prog_10_method_27_code
def yX8_charges : MethodName := ⟨RX8, "charges", "(I)V"⟩
abbrev cX8_teaches : ByteArray := prog_10_method_28_code
def yX8_teaches : MethodName := ⟨RX8, "teaches", "(I)V"⟩
abbrev cX8_dines : ByteArray := prog_10_method_29_code
def yX8_dines : MethodName := ⟨RX8, "dines", "(I)V"⟩
abbrev cX8_inspects : ByteArray := prog_10_method_30_code
def yX8_inspects : MethodName := ⟨RX8, "inspects", "()V"⟩
abbrev cX8_passesDay : ByteArray := prog_10_method_31_code
def yX8_passesDay : MethodName := ⟨RX8, "passesDay", "()V"⟩
abbrev cX8_passes : ByteArray := prog_10_method_32_code
def yX8_passes : MethodName := ⟨RX8, "passes", "(I)V"⟩
abbrev cX8_remembers : ByteArray := prog_10_method_33_code
def yX8_remembers : MethodName := ⟨RX8, "remembers", "()V"⟩
abbrev cX8_putsAside : ByteArray := prog_10_method_34_code
def yX8_putsAside : MethodName := ⟨RX8, "putsAside", "()V"⟩
abbrev cX8_putsBack : ByteArray := prog_10_method_35_code
def yX8_putsBack : MethodName := ⟨RX8, "putsBack", "()V"⟩
abbrev cX8_isLetter : ByteArray := prog_10_method_36_code
def yX8_isLetter : MethodName := ⟨RX8, "isLetter", "(I)Z"⟩
abbrev cX8_isDigit : ByteArray := prog_10_method_37_code
def yX8_isDigit : MethodName := ⟨RX8, "isDigit", "(I)Z"⟩
abbrev cX8_next : ByteArray := prog_10_method_38_code
def yX8_next : MethodName := ⟨RX8, "next", "()V"⟩
abbrev cX8_errs : ByteArray := prog_10_method_39_code
def yX8_errs : MethodName := ⟨RX8, "errs", "(I)V"⟩
abbrev cX8_isKey : ByteArray := prog_10_method_40_code
def yX8_isKey : MethodName := ⟨RX8, "isKey", "(I)Z"⟩
abbrev cX8_goesOn : ByteArray := prog_10_method_41_code
def yX8_goesOn : MethodName := ⟨RX8, "goesOn", "()V"⟩
abbrev cX8_here : ByteArray := prog_10_method_42_code
def yX8_here : MethodName := ⟨RX8, "here", "(II)I"⟩
abbrev cX8_takesNumber : ByteArray := prog_10_method_43_code
def yX8_takesNumber : MethodName := ⟨RX8, "takesNumber", "(II)I"⟩
abbrev cX8_takesWord : ByteArray := prog_10_method_44_code
def yX8_takesWord : MethodName := ⟨RX8, "takesWord", "(I)V"⟩
abbrev cX8_lodgerNamed : ByteArray := prog_10_method_45_code
def yX8_lodgerNamed : MethodName := ⟨RX8, "lodgerNamed", "(II)I"⟩
abbrev cX8_isName : ByteArray := prog_10_method_46_code
def yX8_isName : MethodName := ⟨RX8, "isName", "()V"⟩
abbrev cX8_takesAccent : ByteArray := prog_10_method_47_code
def yX8_takesAccent : MethodName := ⟨RX8, "takesAccent", "()I"⟩
abbrev cX8_readsLodger : ByteArray := prog_10_method_48_code
def yX8_readsLodger : MethodName := ⟨RX8, "readsLodger", "()V"⟩
abbrev cX8_takesLodger : ByteArray := prog_10_method_49_code
def yX8_takesLodger : MethodName := ⟨RX8, "takesLodger", "()I"⟩
abbrev cX8_pays : ByteArray := prog_10_method_50_code
def yX8_pays : MethodName := ⟨RX8, "pays", "(II)V"⟩
abbrev cX8_readsPay : ByteArray := prog_10_method_51_code
def yX8_readsPay : MethodName := ⟨RX8, "readsPay", "()V"⟩
abbrev cX8_readsMove : ByteArray := prog_10_method_52_code
def yX8_readsMove : MethodName := ⟨RX8, "readsMove", "()V"⟩
abbrev cX8_readsLine : ByteArray := prog_10_method_53_code
def yX8_readsLine : MethodName := ⟨RX8, "readsLine", "()V"⟩
abbrev cX8_takesSemicolon : ByteArray := prog_10_method_54_code
def yX8_takesSemicolon : MethodName := ⟨RX8, "takesSemicolon", "()V"⟩
abbrev cX8_readsText : ByteArray := prog_10_method_55_code
def yX8_readsText : MethodName := ⟨RX8, "readsText", "(I)V"⟩
abbrev cX8_feeds : ByteArray := prog_10_method_56_code
def yX8_feeds : MethodName := ⟨RX8, "feeds", "(I)V"⟩
abbrev cX8_append : ByteArray := prog_10_method_57_code
def yX8_append : MethodName := ⟨RX8, "append", "(IIIII)I"⟩
abbrev cX8_load : ByteArray := prog_10_method_58_code
def yX8_load : MethodName := ⟨RX8, "load", "(I)I"⟩
abbrev cX8_errorKind : ByteArray := prog_10_method_59_code
def yX8_errorKind : MethodName := ⟨RX8, "errorKind", "()I"⟩
abbrev cX8_errorOffset : ByteArray := prog_10_method_60_code
def yX8_errorOffset : MethodName := ⟨RX8, "errorOffset", "()I"⟩
abbrev cX8_day : ByteArray := prog_10_method_61_code
def yX8_day : MethodName := ⟨RX8, "day", "()I"⟩
abbrev cX8_lodgerCount : ByteArray := prog_10_method_62_code
def yX8_lodgerCount : MethodName := ⟨RX8, "lodgerCount", "()I"⟩
abbrev cX8_baseRent : ByteArray := prog_10_method_63_code
def yX8_baseRent : MethodName := ⟨RX8, "baseRent", "()I"⟩
abbrev cX8_tolerance : ByteArray := prog_10_method_64_code
def yX8_tolerance : MethodName := ⟨RX8, "tolerance", "()I"⟩
abbrev cX8_rentOf : ByteArray := prog_10_method_65_code
def yX8_rentOf : MethodName := ⟨RX8, "rentOf", "(I)I"⟩
abbrev cX8_landladyVowel : ByteArray := prog_10_method_66_code
def yX8_landladyVowel : MethodName := ⟨RX8, "landladyVowel", "(I)I"⟩
abbrev cX8_daysLeft : ByteArray := prog_10_method_67_code
def yX8_daysLeft : MethodName := ⟨RX8, "daysLeft", "()I"⟩
abbrev cX8_daysToInspection : ByteArray := prog_10_method_68_code
def yX8_daysToInspection : MethodName := ⟨RX8, "daysToInspection", "()I"⟩
abbrev cX8_evictions : ByteArray := prog_10_method_69_code
def yX8_evictions : MethodName := ⟨RX8, "evictions", "()I"⟩
abbrev cX8_undoCount : ByteArray := prog_10_method_70_code
def yX8_undoCount : MethodName := ⟨RX8, "undoCount", "()I"⟩
abbrev cX8_ofLodger : ByteArray := prog_10_method_71_code
def yX8_ofLodger : MethodName := ⟨RX8, "ofLodger", "(II)I"⟩
abbrev cX8_floorOf : ByteArray := prog_10_method_72_code
def yX8_floorOf : MethodName := ⟨RX8, "floorOf", "(I)I"⟩
abbrev cX8_balanceOf : ByteArray := prog_10_method_73_code
def yX8_balanceOf : MethodName := ⟨RX8, "balanceOf", "(I)I"⟩
abbrev cX8_vowelOf : ByteArray := prog_10_method_74_code
def yX8_vowelOf : MethodName := ⟨RX8, "vowelOf", "(II)I"⟩
abbrev cX8_lessonsOf : ByteArray := prog_10_method_75_code
def yX8_lessonsOf : MethodName := ⟨RX8, "lessonsOf", "(I)I"⟩
abbrev cX8_slipsOf : ByteArray := prog_10_method_76_code
def yX8_slipsOf : MethodName := ⟨RX8, "slipsOf", "(I)I"⟩
abbrev cX8_daysStayed : ByteArray := prog_10_method_77_code
def yX8_daysStayed : MethodName := ⟨RX8, "daysStayed", "(I)I"⟩
abbrev cX8_lettersOf : ByteArray := prog_10_method_78_code
def yX8_lettersOf : MethodName := ⟨RX8, "lettersOf", "(I)I"⟩
abbrev cX8_nameLength : ByteArray := prog_10_method_79_code
def yX8_nameLength : MethodName := ⟨RX8, "nameLength", "(I)I"⟩
abbrev cX8_nameLetter : ByteArray := prog_10_method_80_code
def yX8_nameLetter : MethodName := ⟨RX8, "nameLetter", "(II)C"⟩
abbrev cX8_findByName : ByteArray := prog_10_method_81_code
def yX8_findByName : MethodName := ⟨RX8, "findByName", "()I"⟩
abbrev cX8_lodgersOn : ByteArray := prog_10_method_82_code
def yX8_lodgersOn : MethodName := ⟨RX8, "lodgersOn", "(I)I"⟩
abbrev cX8_lodgerOn : ByteArray := prog_10_method_83_code
def yX8_lodgerOn : MethodName := ⟨RX8, "lodgerOn", "(II)I"⟩
abbrev cX8_averageVowel : ByteArray := prog_10_method_84_code
def yX8_averageVowel : MethodName := ⟨RX8, "averageVowel", "(II)I"⟩
abbrev cX8_distanceToLandlady : ByteArray := prog_10_method_85_code
def yX8_distanceToLandlady : MethodName := ⟨RX8, "distanceToLandlady", "(I)I"⟩
abbrev cX8_distance : ByteArray := prog_10_method_86_code
def yX8_distance : MethodName := ⟨RX8, "distance", "(II)I"⟩
abbrev cX8_refuses : ByteArray := prog_10_method_87_code
def yX8_refuses : MethodName := ⟨RX8, "refuses", "()Z"⟩
abbrev cX8_rhymes : ByteArray := prog_10_method_88_code
def yX8_rhymes : MethodName := ⟨RX8, "rhymes", "(II)Z"⟩
abbrev cX8_rhymesWithLandlady : ByteArray := prog_10_method_89_code
def yX8_rhymesWithLandlady : MethodName := ⟨RX8, "rhymesWithLandlady", "(I)Z"⟩
abbrev cX8_rhymeCount : ByteArray := prog_10_method_90_code
def yX8_rhymeCount : MethodName := ⟨RX8, "rhymeCount", "(I)I"⟩
abbrev cX8_closestTo : ByteArray := prog_10_method_91_code
def yX8_closestTo : MethodName := ⟨RX8, "closestTo", "(I)I"⟩
abbrev cX8_lessonVowel : ByteArray := prog_10_method_92_code
def yX8_lessonVowel : MethodName := ⟨RX8, "lessonVowel", "(I)I"⟩
abbrev cX8_slipVowel : ByteArray := prog_10_method_93_code
def yX8_slipVowel : MethodName := ⟨RX8, "slipVowel", "(I)I"⟩
abbrev cX8_mustGo : ByteArray := prog_10_method_94_code
def yX8_mustGo : MethodName := ⟨RX8, "mustGo", "(I)Z"⟩
abbrev cX8_meanDistance : ByteArray := prog_10_method_95_code
def yX8_meanDistance : MethodName := ⟨RX8, "meanDistance", "()D"⟩
abbrev cX8_rhymingShare : ByteArray := prog_10_method_96_code
def yX8_rhymingShare : MethodName := ⟨RX8, "rhymingShare", "()F"⟩
abbrev cX8_tracks : ByteArray := prog_10_method_97_code
def yX8_tracks : MethodName := ⟨RX8, "tracks", "(I)V"⟩
abbrev cX8_balanceAfter : ByteArray := prog_10_method_98_code
def yX8_balanceAfter : MethodName := ⟨RX8, "balanceAfter", "(II)I"⟩
abbrev cX8_distanceAfter : ByteArray := prog_10_method_99_code
def yX8_distanceAfter : MethodName := ⟨RX8, "distanceAfter", "(II)I"⟩
abbrev cX8_daysToEviction : ByteArray := prog_10_method_100_code
def yX8_daysToEviction : MethodName := ⟨RX8, "daysToEviction", "(I)I"⟩
abbrev cX8_staysWith : ByteArray := prog_10_method_101_code
def yX8_staysWith : MethodName := ⟨RX8, "staysWith", "(II)Z"⟩
abbrev cX8_paymentToStay : ByteArray := prog_10_method_102_code
def yX8_paymentToStay : MethodName := ⟨RX8, "paymentToStay", "(I)I"⟩
abbrev cX8_totalPaid : ByteArray := prog_10_method_103_code
def yX8_totalPaid : MethodName := ⟨RX8, "totalPaid", "()I"⟩
abbrev cX8_totalCharged : ByteArray := prog_10_method_104_code
def yX8_totalCharged : MethodName := ⟨RX8, "totalCharged", "()I"⟩
abbrev cX8_settled : ByteArray := prog_10_method_105_code
def yX8_settled : MethodName := ⟨RX8, "settled", "()I"⟩
abbrev cX8_ledgerDifference : ByteArray := prog_10_method_106_code
def yX8_ledgerDifference : MethodName := ⟨RX8, "ledgerDifference", "()I"⟩
abbrev cX8_advance : ByteArray := prog_10_method_107_code
def yX8_advance : MethodName := ⟨RX8, "advance", "(I)I"⟩
abbrev cX8_isTakenLetter : ByteArray := prog_10_method_108_code
def yX8_isTakenLetter : MethodName := ⟨RX8, "isTakenLetter", "(I)Z"⟩
abbrev cX8_moveIn : ByteArray := prog_10_method_109_code
def yX8_moveIn : MethodName := ⟨RX8, "moveIn", "(III)I"⟩
abbrev cX8_moveOut : ByteArray := prog_10_method_110_code
def yX8_moveOut : MethodName := ⟨RX8, "moveOut", "(I)I"⟩
abbrev cX8_sets : ByteArray := prog_10_method_111_code
def yX8_sets : MethodName := ⟨RX8, "sets", "(II)I"⟩
abbrev cX8_moveTo : ByteArray := prog_10_method_112_code
def yX8_moveTo : MethodName := ⟨RX8, "moveTo", "(II)I"⟩
abbrev cX8_pay : ByteArray := prog_10_method_113_code
def yX8_pay : MethodName := ⟨RX8, "pay", "(II)I"⟩
abbrev cX8_setLandladyVowel : ByteArray := prog_10_method_114_code
def yX8_setLandladyVowel : MethodName := ⟨RX8, "setLandladyVowel", "(II)I"⟩
abbrev cX8_setTolerance : ByteArray := prog_10_method_115_code
def yX8_setTolerance : MethodName := ⟨RX8, "setTolerance", "(I)I"⟩
abbrev cX8_setBaseRent : ByteArray := prog_10_method_116_code
def yX8_setBaseRent : MethodName := ⟨RX8, "setBaseRent", "(I)I"⟩
abbrev cX8_restore : ByteArray := prog_10_method_117_code
def yX8_restore : MethodName := ⟨RX8, "restore", "(I)I"⟩
abbrev cX8_undo : ByteArray := prog_10_method_118_code
def yX8_undo : MethodName := ⟨RX8, "undo", "()I"⟩
abbrev cX8_save : ByteArray := prog_10_method_119_code
def yX8_save : MethodName := ⟨RX8, "save", "(I)I"⟩
abbrev cX8_writes : ByteArray := prog_10_method_120_code
def yX8_writes : MethodName := ⟨RX8, "writes", "(I)V"⟩
abbrev cX8_writesName : ByteArray := prog_10_method_121_code
def yX8_writesName : MethodName := ⟨RX8, "writesName", "(I)V"⟩
abbrev cX8_writesNumber : ByteArray := prog_10_method_122_code
def yX8_writesNumber : MethodName := ⟨RX8, "writesNumber", "(I)V"⟩
abbrev cX8_writeLodger : ByteArray := prog_10_method_123_code
def yX8_writeLodger : MethodName := ⟨RX8, "writeLodger", "(I)I"⟩
abbrev cX8_writeFloor : ByteArray := prog_10_method_124_code
def yX8_writeFloor : MethodName := ⟨RX8, "writeFloor", "(I)I"⟩
abbrev cX8_outputCharacter : ByteArray := prog_10_method_125_code
def yX8_outputCharacter : MethodName := ⟨RX8, "outputCharacter", "(I)C"⟩
def RJ5 : String := "java/lang/AbstractStringBuilder"
def TJ5 : u_T := fun k => match k with
  | _ => ("", "", "", false)
def tyJ5 : Nat → FieldType := fun k => match k with
  | _ => .int
abbrev wsJ50 : List Cond := u_ws RJ5 TJ5 0
theorem nmJ5 : ∀ a, a < 0 → ∀ b, b < 0 → a ≠ b → (TJ5 a).2.1 ≠ (TJ5 b).2.1 := by decide +kernel
theorem tyJ5_ok : ∀ k, k < 0 → parseFieldDescriptor (TJ5 k).2.2.1 = some (tyJ5 k) := by decide +kernel
abbrev cJ5_init_d00df : ByteArray := prog_11_method_2_code
def yJ5_init_d00df : MethodName := ⟨RJ5, "<init>", "(I)V"⟩
abbrev cJ5_length_8abf5 : ByteArray := prog_11_method_6_code
def yJ5_length_8abf5 : MethodName := ⟨RJ5, "length", "()I"⟩
abbrev cJ5_ensureCapacityInternal_d00df : ByteArray := prog_11_method_9_code
def yJ5_ensureCapacityInternal_d00df : MethodName := ⟨RJ5, "ensureCapacityInternal", "(I)V"⟩
abbrev cJ5_newCapacity_0f7a4 : ByteArray := prog_11_method_10_code
def yJ5_newCapacity_0f7a4 : MethodName := ⟨RJ5, "newCapacity", "(I)I"⟩
abbrev cJ5_inflate_da8c8 : ByteArray := prog_11_method_11_code
def yJ5_inflate_da8c8 : MethodName := ⟨RJ5, "inflate", "()V"⟩
abbrev cJ5_setLength_d00df : ByteArray := prog_11_method_13_code
def yJ5_setLength_d00df : MethodName := ⟨RJ5, "setLength", "(I)V"⟩
abbrev cJ5_charAt_5068e : ByteArray := prog_11_method_14_code
def yJ5_charAt_5068e : MethodName := ⟨RJ5, "charAt", "(I)C"⟩
abbrev cJ5_append_cf1ce : ByteArray := prog_11_method_22_code
def yJ5_append_cf1ce : MethodName := ⟨RJ5, "append", "(Ljava/lang/String;)Ljava/lang/AbstractStringBuilder;"⟩
abbrev cJ5_appendNull_278bc : ByteArray := prog_11_method_26_code
def yJ5_appendNull_278bc : MethodName := ⟨RJ5, "appendNull", "()Ljava/lang/AbstractStringBuilder;"⟩
abbrev cJ5_append_3fe6f : ByteArray := prog_11_method_31_code
def yJ5_append_3fe6f : MethodName := ⟨RJ5, "append", "(C)Ljava/lang/AbstractStringBuilder;"⟩
abbrev cJ5_append_c97b9 : ByteArray := prog_11_method_32_code
def yJ5_append_c97b9 : MethodName := ⟨RJ5, "append", "(I)Ljava/lang/AbstractStringBuilder;"⟩
abbrev cJ5_getValue_6d5f1 : ByteArray := prog_11_method_64_code
def yJ5_getValue_6d5f1 : MethodName := ⟨RJ5, "getValue", "()[B"⟩
abbrev cJ5_isLatin1_aae02 : ByteArray := prog_11_method_68_code
def yJ5_isLatin1_aae02 : MethodName := ⟨RJ5, "isLatin1", "()Z"⟩
abbrev cJ5_inflateIfNeededFor_a7421 : ByteArray := prog_11_method_71_code
def yJ5_inflateIfNeededFor_a7421 : MethodName := ⟨RJ5, "inflateIfNeededFor", "(Ljava/lang/String;)V"⟩
abbrev cJ5_putStringAt_47b60 : ByteArray := prog_11_method_73_code
def yJ5_putStringAt_47b60 : MethodName := ⟨RJ5, "putStringAt", "(ILjava/lang/String;)V"⟩
def RJx00060 : String := "java/lang/ArrayIndexOutOfBoundsException"
def TJx00060 : u_T := fun k => match k with
  | 0 => ("java/lang/Throwable", "cause", "Ljava/lang/Throwable;", false)
  | 1 => ("java/lang/Throwable", "stackTrace", "[Ljava/lang/StackTraceElement;", false)
  | 2 => ("java/lang/Throwable", "suppressedExceptions", "Ljava/util/List;", false)
  | 3 => ("java/lang/Throwable", "detailMessage", "Ljava/lang/String;", false)
  | 4 => ("java/lang/Throwable", "backtrace", "Ljava/lang/Object;", false)
  | _ => ("java/lang/Throwable", "depth", "I", false)
def tyJx00060 : Nat → FieldType := fun k => match k with
  | 0 => .object "java/lang/Throwable"
  | 1 => .array (.object "java/lang/StackTraceElement")
  | 2 => .object "java/util/List"
  | 3 => .object "java/lang/String"
  | 4 => .object "java/lang/Object"
  | _ => .int
abbrev wsJx000600 : List Cond := u_ws RJx00060 TJx00060 6
theorem nmJx00060 : ∀ a, a < 6 → ∀ b, b < 6 → a ≠ b → (TJx00060 a).2.1 ≠ (TJx00060 b).2.1 := by decide +kernel
theorem tyJx00060_ok : ∀ k, k < 6 → parseFieldDescriptor (TJx00060 k).2.2.1 = some (tyJx00060 k) := by decide +kernel
abbrev cJx00060_init_d00df : ByteArray := prog_12_method_3_code
def yJx00060_init_d00df : MethodName := ⟨RJx00060, "<init>", "(I)V"⟩
def RJx8e188 : String := "java/lang/Cloneable"
def TJx8e188 : u_T := fun k => match k with
  | _ => ("", "", "", false)
def tyJx8e188 : Nat → FieldType := fun k => match k with
  | _ => .int
abbrev wsJx8e1880 : List Cond := u_ws RJx8e188 TJx8e188 0
theorem nmJx8e188 : ∀ a, a < 0 → ∀ b, b < 0 → a ≠ b → (TJx8e188 a).2.1 ≠ (TJx8e188 b).2.1 := by decide +kernel
theorem tyJx8e188_ok : ∀ k, k < 0 → parseFieldDescriptor (TJx8e188 k).2.2.1 = some (tyJx8e188 k) := by decide +kernel
def RJx29ce0 : String := "java/lang/Enum"
def TJx29ce0 : u_T := fun k => match k with
  | _ => ("", "", "", false)
def tyJx29ce0 : Nat → FieldType := fun k => match k with
  | _ => .int
abbrev wsJx29ce00 : List Cond := u_ws RJx29ce0 TJx29ce0 0
theorem nmJx29ce0 : ∀ a, a < 0 → ∀ b, b < 0 → a ≠ b → (TJx29ce0 a).2.1 ≠ (TJx29ce0 b).2.1 := by decide +kernel
theorem tyJx29ce0_ok : ∀ k, k < 0 → parseFieldDescriptor (TJx29ce0 k).2.2.1 = some (tyJx29ce0 k) := by decide +kernel
def RJ6 : String := "java/lang/Integer"
def TJ6 : u_T := fun k => match k with
  | _ => ("", "", "", false)
def tyJ6 : Nat → FieldType := fun k => match k with
  | _ => .int
abbrev wsJ60 : List Cond := u_ws RJ6 TJ6 0
theorem nmJ6 : ∀ a, a < 0 → ∀ b, b < 0 → a ≠ b → (TJ6 a).2.1 ≠ (TJ6 b).2.1 := by decide +kernel
theorem tyJ6_ok : ∀ k, k < 0 → parseFieldDescriptor (TJ6 k).2.2.1 = some (tyJ6 k) := by decide +kernel
abbrev cJ6_getChars_ba4f3 : ByteArray := prog_19_method_12_code
def yJ6_getChars_ba4f3 : MethodName := ⟨RJ6, "getChars", "(II[B)I"⟩
abbrev cJ6_stringSize_0f7a4 : ByteArray := prog_19_method_13_code
def yJ6_stringSize_0f7a4 : MethodName := ⟨RJ6, "stringSize", "(I)I"⟩
def RJ9 : String := "java/lang/Math"
def TJ9 : u_T := fun k => match k with
  | _ => ("", "", "", false)
def tyJ9 : Nat → FieldType := fun k => match k with
  | _ => .int
abbrev wsJ90 : List Cond := u_ws RJ9 TJ9 0
theorem nmJ9 : ∀ a, a < 0 → ∀ b, b < 0 → a ≠ b → (TJ9 a).2.1 ≠ (TJ9 b).2.1 := by decide +kernel
theorem tyJ9_ok : ∀ k, k < 0 → parseFieldDescriptor (TJ9 k).2.2.1 = some (tyJ9 k) := by decide +kernel
abbrev cJ9_max_7cf53 : ByteArray := prog_20_method_65_code
def yJ9_max_7cf53 : MethodName := ⟨RJ9, "max", "(II)I"⟩
abbrev cJ9_min_7cf53 : ByteArray := prog_20_method_69_code
def yJ9_min_7cf53 : MethodName := ⟨RJ9, "min", "(II)I"⟩
def RJ0 : String := "java/lang/String"
def TJ0 : u_T := fun k => match k with
  | 0 => ("java/lang/String", "value", "[B", true)
  | 1 => ("java/lang/String", "coder", "B", true)
  | 2 => ("java/lang/String", "hash", "I", false)
  | _ => ("java/lang/String", "hashIsZero", "Z", false)
def tyJ0 : Nat → FieldType := fun k => match k with
  | 0 => .array .byte
  | 1 => .byte
  | 2 => .int
  | _ => .boolean
abbrev wsJ00 : List Cond := u_ws RJ0 TJ0 4
theorem nmJ0 : ∀ a, a < 4 → ∀ b, b < 4 → a ≠ b → (TJ0 a).2.1 ≠ (TJ0 b).2.1 := by decide +kernel
theorem tyJ0_ok : ∀ k, k < 4 → parseFieldDescriptor (TJ0 k).2.2.1 = some (tyJ0 k) := by decide +kernel
abbrev cJ0_init_81219 : ByteArray := prog_22_method_53_code
def yJ0_init_81219 : MethodName := ⟨RJ0, "<init>", "(Ljava/lang/StringBuilder;)V"⟩
abbrev cJ0_length_8abf5 : ByteArray := prog_22_method_54_code
def yJ0_length_8abf5 : MethodName := ⟨RJ0, "length", "()I"⟩
abbrev cJ0_charAt_5068e : ByteArray := prog_22_method_56_code
def yJ0_charAt_5068e : MethodName := ⟨RJ0, "charAt", "(I)C"⟩
abbrev cJ0_substring_37a41 : ByteArray := prog_22_method_92_code
def yJ0_substring_37a41 : MethodName := ⟨RJ0, "substring", "(II)Ljava/lang/String;"⟩
abbrev cJ0_getBytes_840e7 : ByteArray := prog_22_method_147_code
def yJ0_getBytes_840e7 : MethodName := ⟨RJ0, "getBytes", "([BIB)V"⟩
abbrev cJ0_init_db425 : ByteArray := prog_22_method_150_code
def yJ0_init_db425 : MethodName := ⟨RJ0, "<init>", "(Ljava/lang/AbstractStringBuilder;Ljava/lang/Void;)V"⟩
abbrev cJ0_init_031fb : ByteArray := prog_22_method_151_code
def yJ0_init_031fb : MethodName := ⟨RJ0, "<init>", "([BB)V"⟩
abbrev cJ0_coder_7d493 : ByteArray := prog_22_method_152_code
def yJ0_coder_7d493 : MethodName := ⟨RJ0, "coder", "()B"⟩
abbrev cJ0_isLatin1_aae02 : ByteArray := prog_22_method_154_code
def yJ0_isLatin1_aae02 : MethodName := ⟨RJ0, "isLatin1", "()Z"⟩
abbrev cJ0_checkIndex_df160 : ByteArray := prog_22_method_155_code
def yJ0_checkIndex_df160 : MethodName := ⟨RJ0, "checkIndex", "(II)V"⟩
abbrev cJ0_checkBoundsOffCount_cabcc : ByteArray := prog_22_method_157_code
def yJ0_checkBoundsOffCount_cabcc : MethodName := ⟨RJ0, "checkBoundsOffCount", "(III)I"⟩
abbrev cJ0_checkBoundsBeginEnd_23922 : ByteArray := prog_22_method_158_code
def yJ0_checkBoundsBeginEnd_23922 : MethodName := ⟨RJ0, "checkBoundsBeginEnd", "(III)V"⟩
def RJ4 : String := "java/lang/StringBuilder"
def TJ4 : u_T := fun k => match k with
  | 0 => ("java/lang/AbstractStringBuilder", "value", "[B", false)
  | 1 => ("java/lang/AbstractStringBuilder", "coder", "B", false)
  | 2 => ("java/lang/AbstractStringBuilder", "maybeLatin1", "Z", false)
  | _ => ("java/lang/AbstractStringBuilder", "count", "I", false)
def tyJ4 : Nat → FieldType := fun k => match k with
  | 0 => .array .byte
  | 1 => .byte
  | 2 => .boolean
  | _ => .int
abbrev wsJ40 : List Cond := u_ws RJ4 TJ4 4
theorem nmJ4 : ∀ a, a < 4 → ∀ b, b < 4 → a ≠ b → (TJ4 a).2.1 ≠ (TJ4 b).2.1 := by decide +kernel
theorem tyJ4_ok : ∀ k, k < 4 → parseFieldDescriptor (TJ4 k).2.2.1 = some (tyJ4 k) := by decide +kernel
abbrev cJ4_init_da8c8 : ByteArray := prog_23_method_1_code
def yJ4_init_da8c8 : MethodName := ⟨RJ4, "<init>", "()V"⟩
abbrev cJ4_append_15ec4 : ByteArray := prog_23_method_7_code
def yJ4_append_15ec4 : MethodName := ⟨RJ4, "append", "(Ljava/lang/String;)Ljava/lang/StringBuilder;"⟩
abbrev cJ4_append_cf468 : ByteArray := prog_23_method_14_code
def yJ4_append_cf468 : MethodName := ⟨RJ4, "append", "(C)Ljava/lang/StringBuilder;"⟩
abbrev cJ4_append_bf812 : ByteArray := prog_23_method_15_code
def yJ4_append_bf812 : MethodName := ⟨RJ4, "append", "(I)Ljava/lang/StringBuilder;"⟩
abbrev cJ4_toString_0e30d : ByteArray := prog_23_method_42_code
def yJ4_toString_0e30d : MethodName := ⟨RJ4, "toString", "()Ljava/lang/String;"⟩
abbrev cJ4_charAt_5068e : ByteArray := prog_23_method_88_code
def yJ4_charAt_5068e : MethodName := ⟨RJ4, "charAt", "(I)C"⟩
abbrev cJ4_setLength_d00df : ByteArray := prog_23_method_89_code
def yJ4_setLength_d00df : MethodName := ⟨RJ4, "setLength", "(I)V"⟩
abbrev cJ4_length_8abf5 : ByteArray := prog_23_method_93_code
def yJ4_length_8abf5 : MethodName := ⟨RJ4, "length", "()I"⟩
def RJx7c733 : String := "java/lang/StringIndexOutOfBoundsException"
def TJx7c733 : u_T := fun k => match k with
  | 0 => ("java/lang/Throwable", "backtrace", "Ljava/lang/Object;", false)
  | 1 => ("java/lang/Throwable", "detailMessage", "Ljava/lang/String;", false)
  | 2 => ("java/lang/Throwable", "cause", "Ljava/lang/Throwable;", false)
  | 3 => ("java/lang/Throwable", "stackTrace", "[Ljava/lang/StackTraceElement;", false)
  | 4 => ("java/lang/Throwable", "depth", "I", false)
  | _ => ("java/lang/Throwable", "suppressedExceptions", "Ljava/util/List;", false)
def tyJx7c733 : Nat → FieldType := fun k => match k with
  | 0 => .object "java/lang/Object"
  | 1 => .object "java/lang/String"
  | 2 => .object "java/lang/Throwable"
  | 3 => .array (.object "java/lang/StackTraceElement")
  | 4 => .int
  | _ => .object "java/util/List"
abbrev wsJx7c7330 : List Cond := u_ws RJx7c733 TJx7c733 6
theorem nmJx7c733 : ∀ a, a < 6 → ∀ b, b < 6 → a ≠ b → (TJx7c733 a).2.1 ≠ (TJx7c733 b).2.1 := by decide +kernel
theorem tyJx7c733_ok : ∀ k, k < 6 → parseFieldDescriptor (TJx7c733 k).2.2.1 = some (tyJx7c733 k) := by decide +kernel
abbrev cJx7c733_init_d00df : ByteArray := prog_24_method_3_code
def yJx7c733_init_d00df : MethodName := ⟨RJx7c733, "<init>", "(I)V"⟩
def RJ1 : String := "java/lang/StringLatin1"
def TJ1 : u_T := fun k => match k with
  | _ => ("", "", "", false)
def tyJ1 : Nat → FieldType := fun k => match k with
  | _ => .int
abbrev wsJ10 : List Cond := u_ws RJ1 TJ1 0
theorem nmJ1 : ∀ a, a < 0 → ∀ b, b < 0 → a ≠ b → (TJ1 a).2.1 ≠ (TJ1 b).2.1 := by decide +kernel
theorem tyJ1_ok : ∀ k, k < 0 → parseFieldDescriptor (TJ1 k).2.2.1 = some (tyJ1 k) := by decide +kernel
abbrev cJ1_charAt_3b067 : ByteArray := prog_25_method_2_code
def yJ1_charAt_3b067 : MethodName := ⟨RJ1, "charAt", "([BI)C"⟩
abbrev cJ1_canEncode_fc78d : ByteArray := prog_25_method_3_code
def yJ1_canEncode_fc78d : MethodName := ⟨RJ1, "canEncode", "(C)Z"⟩
abbrev cJ1_newString_b4f7a : ByteArray := prog_25_method_47_code
def yJ1_newString_b4f7a : MethodName := ⟨RJ1, "newString", "([BII)Ljava/lang/String;"⟩
abbrev cJ1_fillNull_b72d1 : ByteArray := prog_25_method_48_code
def yJ1_fillNull_b72d1 : MethodName := ⟨RJ1, "fillNull", "([BII)V"⟩
abbrev cJ1_inflate_0e8fd : ByteArray := prog_25_method_50_code
def yJ1_inflate_0e8fd : MethodName := ⟨RJ1, "inflate", "([BI[BII)V"⟩
def RJ2 : String := "java/lang/StringUTF16"
def TJ2 : u_T := fun k => match k with
  | _ => ("", "", "", false)
def tyJ2 : Nat → FieldType := fun k => match k with
  | _ => .int
abbrev wsJ20 : List Cond := u_ws RJ2 TJ2 0
theorem nmJ2 : ∀ a, a < 0 → ∀ b, b < 0 → a ≠ b → (TJ2 a).2.1 ≠ (TJ2 b).2.1 := by decide +kernel
theorem tyJ2_ok : ∀ k, k < 0 → parseFieldDescriptor (TJ2 k).2.2.1 = some (tyJ2 k) := by decide +kernel
abbrev cJ2_newBytesFor_77867 : ByteArray := prog_26_method_2_code
def yJ2_newBytesFor_77867 : MethodName := ⟨RJ2, "newBytesFor", "(I)[B"⟩
abbrev cJ2_newBytesLength_0f7a4 : ByteArray := prog_26_method_3_code
def yJ2_newBytesLength_0f7a4 : MethodName := ⟨RJ2, "newBytesLength", "(I)I"⟩
abbrev cJ2_putChar_b72d1 : ByteArray := prog_26_method_4_code
def yJ2_putChar_b72d1 : MethodName := ⟨RJ2, "putChar", "([BII)V"⟩
abbrev cJ2_getChar_3b067 : ByteArray := prog_26_method_5_code
def yJ2_getChar_3b067 : MethodName := ⟨RJ2, "getChar", "([BI)C"⟩
abbrev cJ2_length_9d52b : ByteArray := prog_26_method_6_code
def yJ2_length_9d52b : MethodName := ⟨RJ2, "length", "([B)I"⟩
abbrev cJ2_coderFromArrayLen_85cad : ByteArray := prog_26_method_15_code
def yJ2_coderFromArrayLen_85cad : MethodName := ⟨RJ2, "coderFromArrayLen", "([BI)B"⟩
abbrev cJ2_compress_39247 : ByteArray := prog_26_method_17_code
def yJ2_compress_39247 : MethodName := ⟨RJ2, "compress", "([BII)[B"⟩
abbrev cJ2_compress_5af95 : ByteArray := prog_26_method_22_code
def yJ2_compress_5af95 : MethodName := ⟨RJ2, "compress", "([BI[BII)I"⟩
abbrev cJ2_newString_b4f7a : ByteArray := prog_26_method_69_code
def yJ2_newString_b4f7a : MethodName := ⟨RJ2, "newString", "([BII)Ljava/lang/String;"⟩
abbrev cJ2_fillNull_b72d1 : ByteArray := prog_26_method_70_code
def yJ2_fillNull_b72d1 : MethodName := ⟨RJ2, "fillNull", "([BII)V"⟩
abbrev cJ2_putCharSB_b72d1 : ByteArray := prog_26_method_71_code
def yJ2_putCharSB_b72d1 : MethodName := ⟨RJ2, "putCharSB", "([BII)V"⟩
abbrev cJ2_getChars_46870 : ByteArray := prog_26_method_77_code
def yJ2_getChars_46870 : MethodName := ⟨RJ2, "getChars", "(III[B)I"⟩
abbrev cJ2_putCharsAt_cd4e5 : ByteArray := prog_26_method_81_code
def yJ2_putCharsAt_cd4e5 : MethodName := ⟨RJ2, "putCharsAt", "([BICCCC)I"⟩
abbrev cJ2_charAt_3b067 : ByteArray := prog_26_method_83_code
def yJ2_charAt_3b067 : MethodName := ⟨RJ2, "charAt", "([BI)C"⟩
abbrev cJ2_inflate_0e8fd : ByteArray := prog_26_method_86_code
def yJ2_inflate_0e8fd : MethodName := ⟨RJ2, "inflate", "([BI[BII)V"⟩
abbrev cJ2_getChars_ba4f3 : ByteArray := prog_26_method_89_code
def yJ2_getChars_ba4f3 : MethodName := ⟨RJ2, "getChars", "(II[B)I"⟩
abbrev cJ2_checkIndex_2214a : ByteArray := prog_26_method_91_code
def yJ2_checkIndex_2214a : MethodName := ⟨RJ2, "checkIndex", "(I[B)V"⟩
abbrev cJ2_checkBoundsBeginEnd_d044e : ByteArray := prog_26_method_93_code
def yJ2_checkBoundsBeginEnd_d044e : MethodName := ⟨RJ2, "checkBoundsBeginEnd", "(II[B)V"⟩
abbrev cJ2_checkBoundsOffCount_d044e : ByteArray := prog_26_method_94_code
def yJ2_checkBoundsOffCount_d044e : MethodName := ⟨RJ2, "checkBoundsOffCount", "(II[B)V"⟩
def RJ10 : String := "java/lang/System"
def TJ10 : u_T := fun k => match k with
  | _ => ("", "", "", false)
def tyJ10 : Nat → FieldType := fun k => match k with
  | _ => .int
abbrev wsJ100 : List Cond := u_ws RJ10 TJ10 0
theorem nmJ10 : ∀ a, a < 0 → ∀ b, b < 0 → a ≠ b → (TJ10 a).2.1 ≠ (TJ10 b).2.1 := by decide +kernel
theorem tyJ10_ok : ∀ k, k < 0 → parseFieldDescriptor (TJ10 k).2.2.1 = some (tyJ10 k) := by decide +kernel
def RJ7 : String := "java/util/Arrays"
def TJ7 : u_T := fun k => match k with
  | _ => ("", "", "", false)
def tyJ7 : Nat → FieldType := fun k => match k with
  | _ => .int
abbrev wsJ70 : List Cond := u_ws RJ7 TJ7 0
theorem nmJ7 : ∀ a, a < 0 → ∀ b, b < 0 → a ≠ b → (TJ7 a).2.1 ≠ (TJ7 b).2.1 := by decide +kernel
theorem tyJ7_ok : ∀ k, k < 0 → parseFieldDescriptor (TJ7 k).2.2.1 = some (tyJ7 k) := by decide +kernel
abbrev cJ7_rangeCheck_23922 : ByteArray := prog_29_method_30_code
def yJ7_rangeCheck_23922 : MethodName := ⟨RJ7, "rangeCheck", "(III)V"⟩
abbrev cJ7_fill_eb02e : ByteArray := prog_29_method_110_code
def yJ7_fill_eb02e : MethodName := ⟨RJ7, "fill", "([BIIB)V"⟩
abbrev cJ7_copyOf_9075b : ByteArray := prog_29_method_121_code
def yJ7_copyOf_9075b : MethodName := ⟨RJ7, "copyOf", "([BI)[B"⟩
abbrev cJ7_checkLength_df160 : ByteArray := prog_29_method_131_code
def yJ7_checkLength_df160 : MethodName := ⟨RJ7, "checkLength", "(II)V"⟩
abbrev cJ7_copyOfRange_39247 : ByteArray := prog_29_method_132_code
def yJ7_copyOfRange_39247 : MethodName := ⟨RJ7, "copyOfRange", "([BII)[B"⟩
abbrev cJ7_copyOfRangeByte_39247 : ByteArray := prog_29_method_133_code
def yJ7_copyOfRangeByte_39247 : MethodName := ⟨RJ7, "copyOfRangeByte", "([BII)[B"⟩
def RJ8 : String := "jdk/internal/util/ArraysSupport"
def TJ8 : u_T := fun k => match k with
  | _ => ("", "", "", false)
def tyJ8 : Nat → FieldType := fun k => match k with
  | _ => .int
abbrev wsJ80 : List Cond := u_ws RJ8 TJ8 0
theorem nmJ8 : ∀ a, a < 0 → ∀ b, b < 0 → a ≠ b → (TJ8 a).2.1 ≠ (TJ8 b).2.1 := by decide +kernel
theorem tyJ8_ok : ∀ k, k < 0 → parseFieldDescriptor (TJ8 k).2.2.1 = some (tyJ8 k) := by decide +kernel
abbrev cJ8_newLength_cabcc : ByteArray := prog_30_method_27_code
def yJ8_newLength_cabcc : MethodName := ⟨RJ8, "newLength", "(III)I"⟩
abbrev cJ8_hugeLength_7cf53 : ByteArray := prog_30_method_28_code
def yJ8_hugeLength_7cf53 : MethodName := ⟨RJ8, "hugeLength", "(II)I"⟩
def RJ3 : String := "jdk/internal/util/Preconditions"
def TJ3 : u_T := fun k => match k with
  | _ => ("", "", "", false)
def tyJ3 : Nat → FieldType := fun k => match k with
  | _ => .int
abbrev wsJ30 : List Cond := u_ws RJ3 TJ3 0
theorem nmJ3 : ∀ a, a < 0 → ∀ b, b < 0 → a ≠ b → (TJ3 a).2.1 ≠ (TJ3 b).2.1 := by decide +kernel
theorem tyJ3_ok : ∀ k, k < 0 → parseFieldDescriptor (TJ3 k).2.2.1 = some (tyJ3 k) := by decide +kernel
abbrev cJ3_checkIndex_8e157 : ByteArray := prog_31_method_11_code
def yJ3_checkIndex_8e157 : MethodName := ⟨RJ3, "checkIndex", "(IILjava/util/function/BiFunction;)I"⟩
abbrev cJ3_checkFromToIndex_8c36e : ByteArray := prog_31_method_12_code
def yJ3_checkFromToIndex_8c36e : MethodName := ⟨RJ3, "checkFromToIndex", "(IIILjava/util/function/BiFunction;)I"⟩
abbrev cJ3_checkFromIndexSize_8c36e : ByteArray := prog_31_method_13_code
def yJ3_checkFromIndexSize_8c36e : MethodName := ⟨RJ3, "checkFromIndexSize", "(IIILjava/util/function/BiFunction;)I"⟩
def RL : String := "AccentHouseLaw"
abbrev cL_append : ByteArray := method_3_code
def yL_append : MethodName := ⟨RL, "append", "(LAccentHouse;IIIII[J)I"⟩
abbrev cL_load : ByteArray := method_4_code
def yL_load : MethodName := ⟨RL, "load", "(LAccentHouse;I[J)I"⟩
abbrev cL_rentOf : ByteArray := method_5_code
def yL_rentOf : MethodName := ⟨RL, "rentOf", "(LAccentHouse;I[J)I"⟩
abbrev cL_landladyVowel : ByteArray := method_6_code
def yL_landladyVowel : MethodName := ⟨RL, "landladyVowel", "(LAccentHouse;I[J)I"⟩
abbrev cL_floorOf : ByteArray := method_7_code
def yL_floorOf : MethodName := ⟨RL, "floorOf", "(LAccentHouse;I[J)I"⟩
abbrev cL_balanceOf : ByteArray := method_8_code
def yL_balanceOf : MethodName := ⟨RL, "balanceOf", "(LAccentHouse;I[J)I"⟩
abbrev cL_vowelOf : ByteArray := method_9_code
def yL_vowelOf : MethodName := ⟨RL, "vowelOf", "(LAccentHouse;II[J)I"⟩
abbrev cL_lessonsOf : ByteArray := method_10_code
def yL_lessonsOf : MethodName := ⟨RL, "lessonsOf", "(LAccentHouse;I[J)I"⟩
abbrev cL_slipsOf : ByteArray := method_11_code
def yL_slipsOf : MethodName := ⟨RL, "slipsOf", "(LAccentHouse;I[J)I"⟩
abbrev cL_daysStayed : ByteArray := method_12_code
def yL_daysStayed : MethodName := ⟨RL, "daysStayed", "(LAccentHouse;I[J)I"⟩
abbrev cL_nameLength : ByteArray := method_13_code
def yL_nameLength : MethodName := ⟨RL, "nameLength", "(LAccentHouse;I[J)I"⟩
abbrev cL_nameLetter : ByteArray := method_14_code
def yL_nameLetter : MethodName := ⟨RL, "nameLetter", "(LAccentHouse;II[J)I"⟩
abbrev cL_lodgersOn : ByteArray := method_15_code
def yL_lodgersOn : MethodName := ⟨RL, "lodgersOn", "(LAccentHouse;I[J)I"⟩
abbrev cL_lodgerOn : ByteArray := method_16_code
def yL_lodgerOn : MethodName := ⟨RL, "lodgerOn", "(LAccentHouse;II[J)I"⟩
abbrev cL_averageVowel : ByteArray := method_17_code
def yL_averageVowel : MethodName := ⟨RL, "averageVowel", "(LAccentHouse;II[J)I"⟩
abbrev cL_distanceToLandlady : ByteArray := method_18_code
def yL_distanceToLandlady : MethodName := ⟨RL, "distanceToLandlady", "(LAccentHouse;I[J)I"⟩
abbrev cL_distance : ByteArray := method_19_code
def yL_distance : MethodName := ⟨RL, "distance", "(LAccentHouse;II[J)I"⟩
abbrev cL_rhymes : ByteArray := method_20_code
def yL_rhymes : MethodName := ⟨RL, "rhymes", "(LAccentHouse;II[J)I"⟩
abbrev cL_rhymesWithLandlady : ByteArray := method_21_code
def yL_rhymesWithLandlady : MethodName := ⟨RL, "rhymesWithLandlady", "(LAccentHouse;I[J)I"⟩
abbrev cL_rhymeCount : ByteArray := method_22_code
def yL_rhymeCount : MethodName := ⟨RL, "rhymeCount", "(LAccentHouse;I[J)I"⟩
abbrev cL_closestTo : ByteArray := method_23_code
def yL_closestTo : MethodName := ⟨RL, "closestTo", "(LAccentHouse;I[J)I"⟩
abbrev cL_lessonVowel : ByteArray := method_24_code
def yL_lessonVowel : MethodName := ⟨RL, "lessonVowel", "(LAccentHouse;I[J)I"⟩
abbrev cL_slipVowel : ByteArray := method_25_code
def yL_slipVowel : MethodName := ⟨RL, "slipVowel", "(LAccentHouse;I[J)I"⟩
abbrev cL_mustGo : ByteArray := method_26_code
def yL_mustGo : MethodName := ⟨RL, "mustGo", "(LAccentHouse;I[J)I"⟩
abbrev cL_balanceAfter : ByteArray := method_27_code
def yL_balanceAfter : MethodName := ⟨RL, "balanceAfter", "(LAccentHouse;II[J)I"⟩
abbrev cL_distanceAfter : ByteArray := method_28_code
def yL_distanceAfter : MethodName := ⟨RL, "distanceAfter", "(LAccentHouse;II[J)I"⟩
abbrev cL_daysToEviction : ByteArray := method_29_code
def yL_daysToEviction : MethodName := ⟨RL, "daysToEviction", "(LAccentHouse;I[J)I"⟩
abbrev cL_paymentToStay : ByteArray := method_30_code
def yL_paymentToStay : MethodName := ⟨RL, "paymentToStay", "(LAccentHouse;I[J)I"⟩
abbrev cL_advance : ByteArray := method_31_code
def yL_advance : MethodName := ⟨RL, "advance", "(LAccentHouse;I[J)I"⟩
abbrev cL_moveIn : ByteArray := method_32_code
def yL_moveIn : MethodName := ⟨RL, "moveIn", "(LAccentHouse;III[J)I"⟩
abbrev cL_moveOut : ByteArray := method_33_code
def yL_moveOut : MethodName := ⟨RL, "moveOut", "(LAccentHouse;I[J)I"⟩
abbrev cL_moveTo : ByteArray := method_34_code
def yL_moveTo : MethodName := ⟨RL, "moveTo", "(LAccentHouse;II[J)I"⟩
abbrev cL_pay : ByteArray := method_35_code
def yL_pay : MethodName := ⟨RL, "pay", "(LAccentHouse;II[J)I"⟩
abbrev cL_setLandladyVowel : ByteArray := method_36_code
def yL_setLandladyVowel : MethodName := ⟨RL, "setLandladyVowel", "(LAccentHouse;II[J)I"⟩
abbrev cL_setTolerance : ByteArray := method_37_code
def yL_setTolerance : MethodName := ⟨RL, "setTolerance", "(LAccentHouse;I[J)I"⟩
abbrev cL_setBaseRent : ByteArray := method_38_code
def yL_setBaseRent : MethodName := ⟨RL, "setBaseRent", "(LAccentHouse;I[J)I"⟩
abbrev cL_restore : ByteArray := method_39_code
def yL_restore : MethodName := ⟨RL, "restore", "(LAccentHouse;I[J)I"⟩
abbrev cL_undo : ByteArray := method_40_code
def yL_undo : MethodName := ⟨RL, "undo", "(LAccentHouse;[J)I"⟩
abbrev cL_save : ByteArray := method_41_code
def yL_save : MethodName := ⟨RL, "save", "(LAccentHouse;I[J)I"⟩
abbrev cL_writeLodger : ByteArray := method_42_code
def yL_writeLodger : MethodName := ⟨RL, "writeLodger", "(LAccentHouse;I[J)I"⟩
abbrev cL_writeFloor : ByteArray := method_43_code
def yL_writeFloor : MethodName := ⟨RL, "writeFloor", "(LAccentHouse;I[J)I"⟩
abbrev cL_outputCharacter : ByteArray := method_44_code
def yL_outputCharacter : MethodName := ⟨RL, "outputCharacter", "(LAccentHouse;I[J)I"⟩
abbrev cL_law : ByteArray := code
def yL_law : MethodName := ⟨RL, "law", "([I)Z"⟩
abbrev vwCl : List vw_C := [(RJ0, TJ0, 4), (RJ4, TJ4, 4), (RJx00060, TJx00060, 6), (RJx7c733, TJx7c733, 6), (RX0, TX0, 1), (RX1, TX1, 3), (RX2, TX2, 11), (RX3, TX3, 7), (RX4, TX4, 5), (RX6, TX6, 6), (RX7, TX7, 11), (RX8, TX8, 26)]
end
section
/-! THE PROVER'S OWN LAYER: a judgement that hides the machine's context. A world is a partial map from addresses to entries (Hp) and the heap's size. -/
section GCORE
abbrev Hp : Type := Nat → Option va_E
/-- launch, tables, first own address, array classes, fixed addresses, String constants' addresses, their byte arrays -/
abbrev Gm : Type := Launch × va_G × Nat × (Nat → ClassId) × (Nat → Nat) × (Nat → Nat) × (Nat → Nat)
abbrev gD (Γ : Gm) : va_G := Γ.2.1
abbrev gB (Γ : Gm) : Nat := Γ.2.2.1
abbrev gA (Γ : Gm) : Nat → ClassId := Γ.2.2.2.1
abbrev gF (Γ : Gm) : Nat → Nat := Γ.2.2.2.2.1
abbrev gK (Γ : Gm) : Nat → Nat := Γ.2.2.2.2.2.1
abbrev gV (Γ : Gm) : Nat → Nat := Γ.2.2.2.2.2.2
def AB (Γ : Gm) : Nat → Prop := fun q => gB Γ ≤ q
/-- the words that every method may use -/
def wl : List Cond := lw_tbl.filter goodWord
theorem wl_in {w : Cond} (i : Nat) (h : tables_1[i]? = some w) (hg : goodWord w = true) : w ∈ wl := List.mem_filter.mpr ⟨List.mem_append_right _ (List.mem_of_getElem? h), hg⟩
theorem wl_inp {w : Cond} (i : Nat) (h : (k2_sels lw_privs)[i]? = some w) (hg : goodWord w = true) : w ∈ wl := List.mem_filter.mpr ⟨List.mem_append_left _ (List.mem_of_getElem? h), hg⟩
theorem wl_good : GoodIn wl wl := fun w h => ⟨h, good_of_word (List.mem_filter.mp h).2⟩
theorem wl_cons {w : Cond} (h : w ∈ wl) : GoodIn wl (w :: wl) := fun z hz => by
  rcases List.mem_cons.mp hz with rfl | hz
  · exact wl_good _ h
  · exact wl_good _ hz
def gtys (Γ : Gm) : List (ClassId × FieldType) := [(gA Γ 0, .int), (gA Γ 1, .byte), (gA Γ 2, .boolean), (gA Γ 3, .long), (gA Γ 4, .char), (gA Γ 5, .object "AccentHouse$Lodger"), (gA Γ 6, .object "AccentHouse$House")]
/-- statics -/
def gzs (Γ : Gm) : List (String × String × String × Value) := [("AccentHouse$Token", "END", "LAccentHouse$Token;", .ref (gF Γ 0)), ("AccentHouse$Token", "WORD", "LAccentHouse$Token;", .ref (gF Γ 1)), ("AccentHouse$Token", "NUMBER", "LAccentHouse$Token;", .ref (gF Γ 2)), ("AccentHouse$Token", "SEMICOLON", "LAccentHouse$Token;", .ref (gF Γ 3)), ("AccentHouse$Token", "WRONG", "LAccentHouse$Token;", .ref (gF Γ 4)), ("java/lang/String", "COMPACT_STRINGS", "Z", .int 1), ("java/lang/Integer", "DigitOnes", "[B", .ref (gF Γ 5)), ("java/lang/Integer", "DigitTens", "[B", .ref (gF Γ 6))]
def gOnes (j : Nat) : Value := .int (nI (48 + j % 10))
def gTens (j : Nat) : Value := .int (nI (48 + j / 10))
/-- String constants: class, entry, text, bytes -/
def gstrs : List (String × Nat × String × List Int32) := [
  ("AccentHouse$Lodger", 7, "", []),
  ("AccentHouse", 58, "house 5 6; landlady 4 4 4 4 4; lodger ann 0 20 4 4 4 4 6; lodger bob 0 3 0 4 4 4 4; lodger cid 1 0 9 9 0 0 4; lodger dot 1 40 9 8 0 1 4; days 1", [104, 111, 117, 115, 101, 32, 53, 32, 54, 59, 32, 108, 97, 110, 100, 108, 97, 100, 121, 32, 52, 32, 52, 32, 52, 32, 52, 32, 52, 59, 32, 108, 111, 100, 103, 101, 114, 32, 97, 110, 110, 32, 48, 32, 50, 48, 32, 52, 32, 52, 32, 52, 32, 52, 32, 54, 59, 32, 108, 111, 100, 103, 101, 114, 32, 98, 111, 98, 32, 48, 32, 51, 32, 48, 32, 52, 32, 52, 32, 52, 32, 52, 59, 32, 108, 111, 100, 103, 101, 114, 32, 99, 105, 100, 32, 49, 32, 48, 32, 57, 32, 57, 32, 48, 32, 48, 32, 52, 59, 32, 108, 111, 100, 103, 101, 114, 32, 100, 111, 116, 32, 49, 32, 52, 48, 32, 57, 32, 56, 32, 48, 32, 49, 32, 52, 59, 32, 100, 97, 121, 115, 32, 49]),
  ("AccentHouse$Parser", 91, "house", [104, 111, 117, 115, 101]),
  ("AccentHouse$Parser", 100, "landlady", [108, 97, 110, 100, 108, 97, 100, 121]),
  ("AccentHouse$Parser", 57, "lodger", [108, 111, 100, 103, 101, 114]),
  ("java/lang/StringIndexOutOfBoundsException", 13, "String index out of range: ", [83, 116, 114, 105, 110, 103, 32, 105, 110, 100, 101, 120, 32, 111, 117, 116, 32, 111, 102, 32, 114, 97, 110, 103, 101, 58, 32]),
  ("java/util/Arrays", 337, " > ", [32, 62, 32]),
  ("java/util/Arrays", 48, "fromIndex(", [102, 114, 111, 109, 73, 110, 100, 101, 120, 40]),
  ("java/util/Arrays", 57, ") > toIndex(", [41, 32, 62, 32, 116, 111, 73, 110, 100, 101, 120, 40]),
  ("java/util/Arrays", 59, ")", [41]),
  ("java/lang/ArrayIndexOutOfBoundsException", 13, "Array index out of range: ", [65, 114, 114, 97, 121, 32, 105, 110, 100, 101, 120, 32, 111, 117, 116, 32, 111, 102, 32, 114, 97, 110, 103, 101, 58, 32]),
  ("AccentHouse$Parser", 66, "pay", [112, 97, 121]),
  ("AccentHouse$Parser", 71, "move", [109, 111, 118, 101]),
  ("AccentHouse$Parser", 76, "days", [100, 97, 121, 115]),
  ("AccentHouse", 84, "the input buffer is full", [116, 104, 101, 32, 105, 110, 112, 117, 116, 32, 98, 117, 102, 102, 101, 114, 32, 105, 115, 32, 102, 117, 108, 108]),
  ("AccentHouse", 94, "the buffer has no such length", [116, 104, 101, 32, 98, 117, 102, 102, 101, 114, 32, 104, 97, 115, 32, 110, 111, 32, 115, 117, 99, 104, 32, 108, 101, 110, 103, 116, 104]),
  ("AccentHouse", 108, "the text has an error", [116, 104, 101, 32, 116, 101, 120, 116, 32, 104, 97, 115, 32, 97, 110, 32, 101, 114, 114, 111, 114]),
  ("AccentHouse", 314, "there is no such floor", [116, 104, 101, 114, 101, 32, 105, 115, 32, 110, 111, 32, 115, 117, 99, 104, 32, 102, 108, 111, 111, 114]),
  ("AccentHouse", 316, "there is no such vowel", [116, 104, 101, 114, 101, 32, 105, 115, 32, 110, 111, 32, 115, 117, 99, 104, 32, 118, 111, 119, 101, 108]),
  ("AccentHouse", 312, "there is no such lodger", [116, 104, 101, 114, 101, 32, 105, 115, 32, 110, 111, 32, 115, 117, 99, 104, 32, 108, 111, 100, 103, 101, 114]),
  ("AccentHouse", 180, "the name has no such letter", [116, 104, 101, 32, 110, 97, 109, 101, 32, 104, 97, 115, 32, 110, 111, 32, 115, 117, 99, 104, 32, 108, 101, 116, 116, 101, 114]),
  ("AccentHouse", 193, "the floor has no such place", [116, 104, 101, 32, 102, 108, 111, 111, 114, 32, 104, 97, 115, 32, 110, 111, 32, 115, 117, 99, 104, 32, 112, 108, 97, 99, 101]),
  ("AccentHouse", 195, "no lodger lives on the floor", [110, 111, 32, 108, 111, 100, 103, 101, 114, 32, 108, 105, 118, 101, 115, 32, 111, 110, 32, 116, 104, 101, 32, 102, 108, 111, 111, 114]),
  ("AccentHouse", 320, "an argument is out of range", [97, 110, 32, 97, 114, 103, 117, 109, 101, 110, 116, 32, 105, 115, 32, 111, 117, 116, 32, 111, 102, 32, 114, 97, 110, 103, 101]),
  ("AccentHouse", 258, "the day counter would exceed 9999", [116, 104, 101, 32, 100, 97, 121, 32, 99, 111, 117, 110, 116, 101, 114, 32, 119, 111, 117, 108, 100, 32, 101, 120, 99, 101, 101, 100, 32, 57, 57, 57, 57]),
  ("AccentHouse", 264, "the house has 12 lodgers", [116, 104, 101, 32, 104, 111, 117, 115, 101, 32, 104, 97, 115, 32, 49, 50, 32, 108, 111, 100, 103, 101, 114, 115]),
  ("AccentHouse", 326, "the floor is full", [116, 104, 101, 32, 102, 108, 111, 111, 114, 32, 105, 115, 32, 102, 117, 108, 108]),
  ("AccentHouse$House", 67, "abcdefghijklmnopqrstuvwxyz", [97, 98, 99, 100, 101, 102, 103, 104, 105, 106, 107, 108, 109, 110, 111, 112, 113, 114, 115, 116, 117, 118, 119, 120, 121, 122]),
  ("java/lang/StringLatin1", 151, "", []),
  ("java/lang/StringUTF16", 295, "", []),
  ("AccentHouse$House", 87, "", []),
  ("AccentHouse", 318, "there is no such slot", [116, 104, 101, 114, 101, 32, 105, 115, 32, 110, 111, 32, 115, 117, 99, 104, 32, 115, 108, 111, 116]),
  ("AccentHouse", 288, "nothing is saved in the slot", [110, 111, 116, 104, 105, 110, 103, 32, 105, 115, 32, 115, 97, 118, 101, 100, 32, 105, 110, 32, 116, 104, 101, 32, 115, 108, 111, 116]),
  ("AccentHouse", 290, "there is no change to undo", [116, 104, 101, 114, 101, 32, 105, 115, 32, 110, 111, 32, 99, 104, 97, 110, 103, 101, 32, 116, 111, 32, 117, 110, 100, 111]),
  ("AccentHouse", 309, "the output has no such character", [116, 104, 101, 32, 111, 117, 116, 112, 117, 116, 32, 104, 97, 115, 32, 110, 111, 32, 115, 117, 99, 104, 32, 99, 104, 97, 114, 97, 99, 116, 101, 114])]
def gSc (Γ : Gm) (i : Nat) (q : String × Nat × String × List Int32) (U : State) (H : Heap) : Prop :=
  va_O "java/lang/String" (gK Γ i) (AB Γ) U H ∧ va_OF "java/lang/String" "coder" "B" (.int 0) (gK Γ i) (AB Γ) U H ∧ va_OF "java/lang/String" "value" "[B" (.ref (gV Γ i)) (gK Γ i) (AB Γ) U H ∧ va_T .byte (gV Γ i) q.2.2.2.length (fun j => .int (q.2.2.2.getD j 0)) (AB Γ) U H
theorem gSc.moved {Γ : Gm} {i : Nat} {q : String × Nat × String × List Int32} {u U : State} {H : Heap} (hvm : u.vm.Alike U.vm) (h : gSc Γ i q u H) : gSc Γ i q U H := ⟨va_O.moved hvm h.1, va_OF.moved hvm h.2.1, va_OF.moved hvm h.2.2.1, va_T.moved hvm h.2.2.2⟩
theorem gSc.kept {Γ : Gm} {i : Nat} {q : String × Nat × String × List Int32} {U : State} {H H1 : Heap} (h : gSc Γ i q U H) (hq : ∀ a : Nat, a < H.size → ¬ AB Γ a → H1[a]? = H[a]?) : gSc Γ i q U H1 := ⟨h.1.kept hq, h.2.1.kept hq, h.2.2.1.kept hq, h.2.2.2.kept hq⟩
def gNl : List (String × Nat × MethodName × String) := [("AccentHouse$House", 11, ⟨"AccentHouse$Accent", "<init>", "()V"⟩, "AccentHouse"), ("AccentHouse$House", 27, ⟨"AccentHouse$Lodger", "<init>", "()V"⟩, "AccentHouse"), ("AccentHouse$Lodger", 17, ⟨"AccentHouse$Accent", "<init>", "()V"⟩, "AccentHouse")]
/-- what of the environment holds everywhere: tables, statics, constants -/
def Ev (Γ : Gm) (U : State) (H : Heap) : Prop :=
  Γ.1.stackTraces = false ∧ va_K (gD Γ) vwCl (gtys Γ) U ∧ (∀ z ∈ gzs Γ, va_Z z.1 z.2.1 z.2.2.1 z.2.2.2 (AB Γ) U H) ∧
  (vx_Zq Bundle.tN "UNASSIGNED_STACK" Bundle.steD (AB Γ) U H ∧ vx_Zq Bundle.tN "SUPPRESSED_SENTINEL" Bundle.listD (AB Γ) U H) ∧
  (∀ (i : Nat) (q : String × Nat × String × List Int32), gstrs[i]? = some q → vk_R q.1 q.2.1 q.2.2.1 (gK Γ i) U ∧ gSc Γ i q U H) ∧
  (∀ q ∈ gNl, va_Nw (.methodLinkNest q.1 q.2.1 q.2.2.1 q.2.2.2) U) ∧
  (va_T .byte (gF Γ 5) 100 gOnes (AB Γ) U H ∧ va_T .byte (gF Γ 6) 100 gTens (AB Γ) U H) ∧
  (va_AO "AccentHouse$Lodger" U ∧ va_AO "AccentHouse$House" U) ∧ gB Γ ≤ H.size ∧ (∀ i j : Nat, i < 5 → j < 5 → gF Γ i = gF Γ j → i = j)
theorem Ev.warm {Γ : Gm} {s U : State} {H : Heap} (hW : s.WarmedH U.vm) (h : Ev Γ s H) : Ev Γ U H := by
  obtain ⟨h0, h1, h2, h3, h4, h5, h6, h7, h8, h9⟩ := h
  exact ⟨h0, va_K.moved hW.alike h1, fun z hz => va_Z.moved hW.alike (h2 z hz), ⟨vx_Zq.moved hW.alike h3.1, vx_Zq.moved hW.alike h3.2⟩, fun i q hq => ⟨vk_R.warm hW (h4 i q hq).1, (h4 i q hq).2.moved hW.alike⟩, fun q hq => va_Nw.warmM hW (h5 q hq), ⟨va_T.moved hW.alike h6.1, va_T.moved hW.alike h6.2⟩, ⟨va_AO.moved hW.alike h7.1, va_AO.moved hW.alike h7.2⟩, h8, h9⟩
theorem Ev.same {Γ : Gm} {u U : State} {H : Heap} (hv : U.vm = u.vm) (h : Ev Γ u H) : Ev Γ U H := by
  have ha : u.vm.Alike U.vm := by rw [hv]; exact Vm.Alike.refl _
  obtain ⟨h0, h1, h2, h3, h4, h5, h6, h7, h8, h9⟩ := h
  exact ⟨h0, va_K.moved ha h1, fun z hz => va_Z.moved ha (h2 z hz), ⟨vx_Zq.moved ha h3.1, vx_Zq.moved ha h3.2⟩, fun i q hq => ⟨vk_R.same hv (h4 i q hq).1, (h4 i q hq).2.moved ha⟩, fun q hq => va_Nw.same rfl hv.symm (h5 q hq), ⟨va_T.moved ha h6.1, va_T.moved ha h6.2⟩, ⟨va_AO.moved ha h7.1, va_AO.moved ha h7.2⟩, h8, h9⟩
theorem Ev.kept {Γ : Gm} {U : State} {H H1 : Heap} (h : Ev Γ U H) (hz : H.size ≤ H1.size) (hq : ∀ a : Nat, a < H.size → ¬ AB Γ a → H1[a]? = H[a]?) : Ev Γ U H1 := by
  obtain ⟨h0, h1, h2, h3, h4, h5, h6, h7, h8, h9⟩ := h
  exact ⟨h0, h1, fun z hz => (h2 z hz).kept hq, ⟨h3.1.kept hq, h3.2.kept hq⟩, fun i q hi => ⟨(h4 i q hi).1, (h4 i q hi).2.kept hq⟩, h5, ⟨h6.1.kept hq, h6.2.kept hq⟩, h7, Nat.le_trans h8 hz, h9⟩
/-- the heap holds the world -/
def HS (Γ : Gm) (E : Hp) (H : Heap) : Prop := ∀ (a : Nat) (e : va_E), E a = some e → va_at (gD Γ) vwCl (a, e) H ∧ gB Γ ≤ a
def hset (E : Hp) (a : Nat) (e : va_E) : Hp := fun q => if q = a then some e else E q
theorem hset_s {E : Hp} {a : Nat} {e : va_E} : hset E a e a = some e := if_pos rfl
theorem hset_n {E : Hp} {a q : Nat} {e : va_E} (h : q ≠ a) : hset E a e q = E q := if_neg h
theorem HS.set {Γ : Gm} {E : Hp} {H H1 : Heap} {a : Nat} {e0 e : va_E} (h : HS Γ E H) (h0 : E a = some e0) (he : va_at (gD Γ) vwCl (a, e) H1) (oq : ∀ q : Nat, q ≠ a → H1[q]? = H[q]?) : HS Γ (hset E a e) H1 := by
  intro b x hb
  by_cases hab : b = a
  · subst hab
    rw [hset_s] at hb
    cases hb
    exact ⟨he, (h b e0 h0).2⟩
  · rw [hset_n hab] at hb
    exact ⟨(h b x hb).1.kept (oq b hab), (h b x hb).2⟩
theorem HS.new {Γ : Gm} {E : Hp} {H H1 : Heap} {e : va_E} (h : HS Γ E H) (hB : gB Γ ≤ H.size) (he : va_at (gD Γ) vwCl (H.size, e) H1) (oq : ∀ q : Nat, q < H.size → H1[q]? = H[q]?) : HS Γ (hset E H.size e) H1 := by
  intro b x hb
  by_cases hab : b = H.size
  · subst hab
    rw [hset_s] at hb
    cases hb
    exact ⟨he, hB⟩
  · rw [hset_n hab] at hb
    exact ⟨(h b x hb).1.kept (oq b (h b x hb).1.lt), (h b x hb).2⟩
theorem HS.lt {Γ : Gm} {E : Hp} {H : Heap} {a : Nat} {e : va_E} (h : HS Γ E H) (he : E a = some e) : a < H.size := (h a e he).1.lt
/-- a method: class, name, code, locals, result -/
abbrev Mr : Type := String × MethodName × ByteArray × Nat × Option FieldType
abbrev Po : Type := Option Value → Hp → Nat → Prop
abbrev Px : Type := String → Hp → Nat → Prop
def Fr (Γ : Gm) (d : Nat) (M : Mr) (p : Program) (R : Room) (s : State) (m : MethodId) (args : Array Value) (meth : Method) (c : Code) : Prop :=
  p.tables.exec = Jvm.exec ∧ c.code = M.2.2.1 ∧ c.maxLocals = M.2.2.2.1 ∧ s.vm.findClass M.1 = some m.cls ∧ (∀ w ∈ wl, w.before args s = true) ∧ Ev Γ s s.heap ∧ d ≤ R.frames ∧ 64 * d ≤ R.locals ∧ (M.2.1.name = "<init>" → meth.name = "<init>")
def RetOp (M : Mr) (pc : Nat) : Option Value → Prop
  | none => decode M.2.2.1 pc = .ok (.return_, 1) ∧ M.2.2.2.2 = none
  | some (.int x) => decode M.2.2.1 pc = .ok (.ireturn, 1) ∧ ∃ ty, M.2.2.2.2 = some ty ∧ narrow ty (.int x) = .int x
  | some (.ref _) => decode M.2.2.1 pc = .ok (.areturn, 1) ∧ ∃ n, M.2.2.2.2 = some (.object n)
  | some .null => decode M.2.2.1 pc = .ok (.areturn, 1) ∧ ∃ n, M.2.2.2.2 = some (.object n)
  | some (.float _) => decode M.2.2.1 pc = .ok (.freturn, 1) ∧ M.2.2.2.2 = some .float
  | some (.double _) => decode M.2.2.1 pc = .ok (.dreturn, 1) ∧ M.2.2.2.2 = some .double
  | _ => False
def ThrOp (d : Nat) (M : Mr) (pc : Nat) (x : String) : Prop :=
  ∃ (ik is ic i : Nat) (text : String) (names : List String) (bs : List Int32), Bundle.fit x = true ∧ (∀ n ∈ names, Bundle.fit n = true) ∧ Cond.classLink M.1 ik x ∈ wl ∧ Cond.initialized x ∈ wl ∧ (∀ w ∈ vx_atS M.1 ic x names, w ∈ wl) ∧ (∀ w ∈ Cond.classLink M.1 ik x :: Cond.initialized x :: vx_atS M.1 ic x names, vx_ot w = true) ∧ gstrs[i]? = some (M.1, is, text, bs) ∧
    decode M.2.2.1 pc = .ok (.new ik, 3) ∧ decode M.2.2.1 (pc + 3) = .ok (.dup, 1) ∧ decode M.2.2.1 (pc + 4) = .ok (.ldc is, 2) ∧ decode M.2.2.1 (pc + 6) = .ok (.invokespecial ic, 3) ∧ decode M.2.2.1 (pc + 9) = .ok (.athrow, 1) ∧ names.length ≤ 3 ∧ 7 ≤ d
/-- how a frame may end -/
def En (Γ : Gm) (d : Nat) (M : Mr) (P : Po) (X : Px) (p : Program) (e : Env) (R : Room) (s : State) (m : MethodId) (args : Array Value) (below : List Frame) (meth : Method) (c : Code) (Q : State → Prop) : Prop :=
  (∀ (v : Option Value) (E : Hp) (n : Nat) (H : Heap) (locs : List Loc) (cells slots pc : Nat) (ls : Array Slot), P v E n → HS Γ E H → H.size = n → va_S (AB Γ) s.heap H locs → cells ≤ R.cells → slots ≤ R.slots → RetOp M pc v → W p Γ.1 e R s m args below meth c H locs cells slots Q (F0 m pc ls v.toList)) ∧
  (∀ (x : String) (E : Hp) (n : Nat) (H : Heap) (locs : List Loc) (cells slots pc : Nat) (ls : Array Slot) (st : List Value), X x E n → HS Γ E H → H.size = n → va_S (AB Γ) s.heap H locs → cells + 1 ≤ R.cells → slots + 6 ≤ R.slots → ThrOp d M pc x → ls.size = M.2.2.2.1 → (st.map fun v => v.category).sum ≤ 8 → W p Γ.1 e R s m args below meth c H locs cells slots Q (F0 m pc ls st)) ∧
  (∀ (x : String) (E : Hp) (n : Nat) (H : Heap) (locs : List Loc) (cells slots pc : Nat) (ls : Array Slot) (st : List Value) (q : Addr) (ce : Cell), X x E n → HS Γ E H → n ≤ H.size → va_S (AB Γ) s.heap H locs → cells ≤ R.cells → slots ≤ R.slots → H[q]? = some ce → ce.vm = .none → s.vm.findClass x = some ce.cls → vx_W p Γ.1 e R s m args below meth c H locs cells slots Q (F0 m pc ls st) q)
/-- from this place on, with this world and this much room left, the frame comes to an end with P, or X -/
def G (Γ : Gm) (d : Nat) (M : Mr) (P : Po) (X : Px) (pc : Nat) (lv : List (Nat × Value)) (st : List Value) (E : Hp) (n kc ks : Nat) : Prop :=
  ∀ (p : Program) (e : Env) (R : Room) (s : State) (m : MethodId) (args : Array Value) (below : List Frame) (meth : Method) (c : Code) (Q : State → Prop), Fr Γ d M p R s m args meth c → En Γ d M P X p e R s m args below meth c Q →
    ∀ (H : Heap) (locs : List Loc) (cells slots : Nat) (ls : Array Slot), HS Γ E H → H.size = n → va_S (AB Γ) s.heap H locs → lv_has ls M.2.2.2.1 lv → cells + kc ≤ R.cells → slots + ks ≤ R.slots → W p Γ.1 e R s m args below meth c H locs cells slots Q (F0 m pc ls st)
def Qg (Γ : Gm) (P : Po) : Array Value → State → Outcome → State → Prop := fun _ st o t => (∃ (v : Option Value) (E : Hp) (n : Nat), o = .returned v ∧ P v E n ∧ HS Γ E t.heap ∧ t.heap.size = n) ∧ va_F (AB Γ) st t
def Xg (Γ : Gm) (X : Px) : String → State → State → Prop := fun x st t => (∃ (E : Hp) (n : Nat), X x E n ∧ HS Γ E t.heap ∧ n ≤ t.heap.size) ∧ va_F (AB Γ) st t
def Pg (Γ : Gm) (av : List Value) (E : Hp) (n : Nat) : Array Value → State → Prop := va_Pc av (fun U => HS Γ E U.heap ∧ U.heap.size = n ∧ Ev Γ U U.heap)
def rmG (d mc ms : Nat) : Room := { frames := d, cells := mc, slots := ms, locals := 64 * d }
/-- a method's contract at one start -/
def Ct (Γ : Gm) (d : Nat) (M : Mr) (mc ms : Nat) (av : List Value) (E : Hp) (n : Nat) (P : Po) (X : Px) : Prop :=
  vx_Met Γ.1 M.2.1 (Cond.code M.2.1 M.2.2.1 M.2.2.2.1 M.2.2.2.2 :: wl) (rmG d mc ms) (Pg Γ av E n) (Qg Γ P) (Xg Γ X) mc ms (AB Γ)
theorem Pg.blind {Γ : Gm} {av : List Value} {E : Hp} {n : Nat} : FrameBlind (Pg Γ av E n) := fun a U g mk h => ⟨h.1, h.2.1, h.2.2.1, Ev.same (u := U) (U := U.calling g mk a) rfl h.2.2.2⟩
theorem va_S.toF {Γ : Gm} {s t : State} {H : Heap} {locs : List Loc} (h : va_S (AB Γ) s.heap H locs) (ht : t.heap = H) : va_F (AB Γ) s t := h.F ht
end GCORE
end
section
section GROWS
variable {Γ : Gm} {d : Nat} {M : Mr} {P : Po} {X : Px} {pc : Nat} {lv : List (Nat × Value)} {st rest : List Value} {E : Hp} {n kc ks : Nat}
/-- an instruction that reads locals and stack alone -/
theorem G.go {pc2 : Nat} {st2 : List Value} (h : ∀ {p : Program} {e : Env} {R : Room} {s : State} {m : MethodId} {args : Array Value} {below : List Frame} {meth : Method} {c : Code} {Q : State → Prop} {H : Heap} {locs : List Loc} {cells slots : Nat} {ls : Array Slot}, p.tables.exec = Jvm.exec → c.code = M.2.2.1 → lv_has ls M.2.2.2.1 lv → W p Γ.1 e R s m args below meth c H locs cells slots Q (F0 m pc2 ls st2) → W p Γ.1 e R s m args below meth c H locs cells slots Q (F0 m pc ls st))
    (k : G Γ d M P X pc2 lv st2 E n kc ks) : G Γ d M P X pc lv st E n kc ks := fun p e R s m args below meth c Q hF hE H locs cells slots ls h1 h2 h3 h4 h5 h6 => h hF.1 hF.2.1 h4 (k p e R s m args below meth c Q hF hE H locs cells slots ls h1 h2 h3 h4 h5 h6)
/-- .. that reads the tables too -/
theorem G.goF {pc2 : Nat} {st2 : List Value} (h : ∀ {p : Program} {e : Env} {R : Room} {s : State} {m : MethodId} {args : Array Value} {below : List Frame} {meth : Method} {c : Code} {Q : State → Prop} {H : Heap} {locs : List Loc} {cells slots : Nat} {ls : Array Slot}, Fr Γ d M p R s m args meth c → HS Γ E H → H.size = n → va_S (AB Γ) s.heap H locs → lv_has ls M.2.2.2.1 lv → W p Γ.1 e R s m args below meth c H locs cells slots Q (F0 m pc2 ls st2) → W p Γ.1 e R s m args below meth c H locs cells slots Q (F0 m pc ls st))
    (k : G Γ d M P X pc2 lv st2 E n kc ks) : G Γ d M P X pc lv st E n kc ks := fun p e R s m args below meth c Q hF hE H locs cells slots ls h1 h2 h3 h4 h5 h6 => h hF h1 h2 h3 h4 (k p e R s m args below meth c Q hF hE H locs cells slots ls h1 h2 h3 h4 h5 h6)
/-- .. that writes a local -/
theorem G.goL {pc2 : Nat} {st2 : List Value} {lv2 : List (Nat × Value)} (h : ∀ {p : Program} {e : Env} {R : Room} {s : State} {m : MethodId} {args : Array Value} {below : List Frame} {meth : Method} {c : Code} {Q : State → Prop} {H : Heap} {locs : List Loc} {cells slots : Nat} {ls : Array Slot}, p.tables.exec = Jvm.exec → c.code = M.2.2.1 → lv_has ls M.2.2.2.1 lv → (∀ ls2 : Array Slot, lv_has ls2 M.2.2.2.1 lv2 → W p Γ.1 e R s m args below meth c H locs cells slots Q (F0 m pc2 ls2 st2)) → W p Γ.1 e R s m args below meth c H locs cells slots Q (F0 m pc ls st))
    (k : G Γ d M P X pc2 lv2 st2 E n kc ks) : G Γ d M P X pc lv st E n kc ks := fun p e R s m args below meth c Q hF hE H locs cells slots ls h1 h2 h3 h4 h5 h6 => h hF.1 hF.2.1 h4 (fun ls2 hl2 => k p e R s m args below meth c Q hF hE H locs cells slots ls2 h1 h2 h3 hl2 h5 h6)
/-- .. that branches -/
theorem G.br {c1 c2 : Prop} {pa pb : Nat} {sa sb : List Value} (h : ∀ {p : Program} {e : Env} {R : Room} {s : State} {m : MethodId} {args : Array Value} {below : List Frame} {meth : Method} {c : Code} {Q : State → Prop} {H : Heap} {locs : List Loc} {cells slots : Nat} {ls : Array Slot}, p.tables.exec = Jvm.exec → c.code = M.2.2.1 → (c1 → W p Γ.1 e R s m args below meth c H locs cells slots Q (F0 m pa ls sa)) → (c2 → W p Γ.1 e R s m args below meth c H locs cells slots Q (F0 m pb ls sb)) → W p Γ.1 e R s m args below meth c H locs cells slots Q (F0 m pc ls st))
    (ka : c1 → G Γ d M P X pa lv sa E n kc ks) (kb : c2 → G Γ d M P X pb lv sb E n kc ks) : G Γ d M P X pc lv st E n kc ks := fun p e R s m args below meth c Q hF hE H locs cells slots ls h1 h2 h3 h4 h5 h6 => h hF.1 hF.2.1 (fun z => ka z p e R s m args below meth c Q hF hE H locs cells slots ls h1 h2 h3 h4 h5 h6) (fun z => kb z p e R s m args below meth c Q hF hE H locs cells slots ls h1 h2 h3 h4 h5 h6)
theorem G.mono {kc2 ks2 : Nat} (h1 : kc2 ≤ kc) (h2 : ks2 ≤ ks) (k : G Γ d M P X pc lv st E n kc2 ks2) : G Γ d M P X pc lv st E n kc ks := fun p e R s m args below meth c Q hF hE H locs cells slots ls a1 a2 a3 a4 a5 a6 => k p e R s m args below meth c Q hF hE H locs cells slots ls a1 a2 a3 a4 (by omega) (by omega)
theorem G.sub {lv2 : List (Nat × Value)} (is : List Nat) (h : lv_pick lv is = lv2) (k : G Γ d M P X pc lv2 st E n kc ks) : G Γ d M P X pc lv st E n kc ks := fun p e R s m args below meth c Q hF hE H locs cells slots ls a1 a2 a3 a4 a5 a6 => k p e R s m args below meth c Q hF hE H locs cells slots ls a1 a2 a3 (lv_sub a4 is h) a5 a6
-- constants
theorem g_iconst {i : Int} {v : Int32} (dg : decode M.2.2.1 pc = .ok (.iconst i, 1)) (hv : Int32.ofInt i = v) (k : G Γ d M P X (pc + 1) lv (.int v :: st) E n kc ks) : G Γ d M P X pc lv st E n kc ks := G.go (fun hx hb _ k => lv_iconst hx hb dg hv k) k
theorem g_bipush {i : Int} {v : Int32} (dg : decode M.2.2.1 pc = .ok (.bipush i, 2)) (hv : (Int8.ofInt i).toInt32 = v) (k : G Γ d M P X (pc + 2) lv (.int v :: st) E n kc ks) : G Γ d M P X pc lv st E n kc ks := G.go (fun hx hb _ k => lv_bipush hx hb dg hv k) k
theorem g_sipush {i : Int} {v : Int32} (dg : decode M.2.2.1 pc = .ok (.sipush i, 3)) (hv : (Int16.ofInt i).toInt32 = v) (k : G Γ d M P X (pc + 3) lv (.int v :: st) E n kc ks) : G Γ d M P X pc lv st E n kc ks := G.go (fun hx hb _ k => lv_sipush hx hb dg hv k) k
theorem g_lconst {i : Fin 2} {v : Int64} (dg : decode M.2.2.1 pc = .ok (.lconst i, 1)) (hv : Int64.ofNat (i : Nat) = v) (k : G Γ d M P X (pc + 1) lv (.long v :: st) E n kc ks) : G Γ d M P X pc lv st E n kc ks := G.go (fun hx hb _ k => lv_lconst hx hb dg hv k) k
theorem g_null (dg : decode M.2.2.1 pc = .ok (.aconst_null, 1)) (k : G Γ d M P X (pc + 1) lv (.null :: st) E n kc ks) : G Γ d M P X pc lv st E n kc ks := G.go (fun hx hb _ k => lv_null hx hb dg k) k
theorem g_ldcI {ix : Nat} {v : Int32} (hw : Cond.constant M.1 ix v ∈ wl) (dg : decode M.2.2.1 pc = .ok (.ldc ix, 2)) (k : G Γ d M P X (pc + 2) lv (.int v :: st) E n kc ks) : G Γ d M P X pc lv st E n kc ks := G.goF (fun hF _ _ _ _ k => lv_ldc hF.1 hF.2.1 hF.2.2.2.1 (hF.2.2.2.2.1 _ hw) dg k) k
theorem g_ldcS {ix i : Nat} {tx : String} {bs : List Int32} (hi : gstrs[i]? = some (M.1, ix, tx, bs)) (dg : decode M.2.2.1 pc = .ok (.ldc ix, 2)) (k : G Γ d M P X (pc + 2) lv (.ref (gK Γ i) :: st) E n kc ks) : G Γ d M P X pc lv st E n kc ks := G.goF (fun hF _ _ _ _ k => va_ldcS hF.1 hF.2.1 hF.2.2.2.1 (hF.2.2.2.2.2.1.2.2.2.2.1 _ _ hi).1 dg k) k
-- loads
theorem g_iload_n {j : Fin 4} {x : Int32} (q : Nat) (hl : lv[q]? = some ((j : Nat), .int x)) (dg : decode M.2.2.1 pc = .ok (.iload_n j, 1)) (k : G Γ d M P X (pc + 1) lv (.int x :: st) E n kc ks) : G Γ d M P X pc lv st E n kc ks := G.go (fun hx hb h k => lv_iload_n hx hb dg rfl (lv_at h q hl) k) k
theorem g_iload {j : Nat} {x : Int32} (q : Nat) (hl : lv[q]? = some (j, .int x)) (dg : decode M.2.2.1 pc = .ok (.iload j, 2)) (k : G Γ d M P X (pc + 2) lv (.int x :: st) E n kc ks) : G Γ d M P X pc lv st E n kc ks := G.go (fun hx hb h k => lv_iload hx hb dg (lv_at h q hl) k) k
theorem g_aload_n {j : Fin 4} {x : Nat} (q : Nat) (hl : lv[q]? = some ((j : Nat), .ref x)) (dg : decode M.2.2.1 pc = .ok (.aload_n j, 1)) (k : G Γ d M P X (pc + 1) lv (.ref x :: st) E n kc ks) : G Γ d M P X pc lv st E n kc ks := G.go (fun hx hb h k => lv_aload_n hx hb dg rfl (lv_at h q hl) k) k
theorem g_aload {j : Nat} {x : Nat} (q : Nat) (hl : lv[q]? = some (j, .ref x)) (dg : decode M.2.2.1 pc = .ok (.aload j, 2)) (k : G Γ d M P X (pc + 2) lv (.ref x :: st) E n kc ks) : G Γ d M P X pc lv st E n kc ks := G.go (fun hx hb h k => lv_aload hx hb dg (lv_at h q hl) k) k
theorem g_aload_nN {j : Fin 4} (q : Nat) (hl : lv[q]? = some ((j : Nat), .null)) (dg : decode M.2.2.1 pc = .ok (.aload_n j, 1)) (k : G Γ d M P X (pc + 1) lv (.null :: st) E n kc ks) : G Γ d M P X pc lv st E n kc ks := G.go (fun hx hb h k => lv_aload_nN hx hb dg rfl (lv_at h q hl) k) k
theorem g_dload {j : Nat} {x : UInt64} (q : Nat) (hl : lv[q]? = some (j, .double x)) (dg : decode M.2.2.1 pc = .ok (.dload j, 2)) (k : G Γ d M P X (pc + 2) lv (.double x :: st) E n kc ks) : G Γ d M P X pc lv st E n kc ks := G.go (fun hx hb h k => lv_dload hx hb dg (lv_at h q hl) k) k
-- stores: the local's row goes first, the others stay in their order
theorem g_istore_n {j : Fin 4} {x : Int32} {lv2 : List (Nat × Value)} (hn : (j : Nat) < M.2.2.2.1) (hl : ((j : Nat), Value.int x) :: lv.filter (fun q => !(q.1 == (j : Nat)) && !(q.1 + 1 == (j : Nat) && q.2.category == 2)) = lv2) (dg : decode M.2.2.1 pc = .ok (.istore_n j, 1)) (k : G Γ d M P X (pc + 1) lv2 st E n kc ks) : G Γ d M P X pc lv (.int x :: st) E n kc ks := G.goL (fun hx hb h k => lv_istore_n hx hb dg rfl h hn hl k) k
theorem g_istore {j : Nat} {x : Int32} {lv2 : List (Nat × Value)} (hn : j < M.2.2.2.1) (hl : (j, Value.int x) :: lv.filter (fun q => !(q.1 == j) && !(q.1 + 1 == j && q.2.category == 2)) = lv2) (dg : decode M.2.2.1 pc = .ok (.istore j, 2)) (k : G Γ d M P X (pc + 2) lv2 st E n kc ks) : G Γ d M P X pc lv (.int x :: st) E n kc ks := G.goL (fun hx hb h k => lv_istore hx hb dg h hn hl k) k
theorem g_astore_n {j : Fin 4} {x : Nat} {lv2 : List (Nat × Value)} (hn : (j : Nat) < M.2.2.2.1) (hl : ((j : Nat), Value.ref x) :: lv.filter (fun q => !(q.1 == (j : Nat)) && !(q.1 + 1 == (j : Nat) && q.2.category == 2)) = lv2) (dg : decode M.2.2.1 pc = .ok (.astore_n j, 1)) (k : G Γ d M P X (pc + 1) lv2 st E n kc ks) : G Γ d M P X pc lv (.ref x :: st) E n kc ks := G.goL (fun hx hb h k => lv_astore_n hx hb dg rfl h hn hl k) k
theorem g_astore {j : Nat} {x : Nat} {lv2 : List (Nat × Value)} (hn : j < M.2.2.2.1) (hl : (j, Value.ref x) :: lv.filter (fun q => !(q.1 == j) && !(q.1 + 1 == j && q.2.category == 2)) = lv2) (dg : decode M.2.2.1 pc = .ok (.astore j, 2)) (k : G Γ d M P X (pc + 2) lv2 st E n kc ks) : G Γ d M P X pc lv (.ref x :: st) E n kc ks := G.goL (fun hx hb h k => lv_astore hx hb dg h hn hl k) k
theorem g_dstore {j : Nat} {x : UInt64} {lv2 : List (Nat × Value)} (hn : j + 1 < M.2.2.2.1) (hl : (j, Value.double x) :: lv.filter (fun q => !(q.1 == j) && (!(q.1 == j + 1) && !(q.1 + 1 == j && q.2.category == 2))) = lv2) (dg : decode M.2.2.1 pc = .ok (.dstore j, 2)) (k : G Γ d M P X (pc + 2) lv2 st E n kc ks) : G Γ d M P X pc lv (.double x :: st) E n kc ks := G.goL (fun hx hb h k => lv_dstore hx hb dg h hn hl k) k
theorem g_iinc {j : Nat} {i : Int} {x v : Int32} {lv2 : List (Nat × Value)} (q : Nat) (hq : lv[q]? = some (j, .int x)) (hv : x + Int32.ofInt i = v) (hn : j < M.2.2.2.1) (hl : (j, Value.int v) :: lv.filter (fun q => !(q.1 == j) && !(q.1 + 1 == j && q.2.category == 2)) = lv2) (dg : decode M.2.2.1 pc = .ok (.iinc j i, 3)) (k : G Γ d M P X (pc + 3) lv2 st E n kc ks) : G Γ d M P X pc lv st E n kc ks := G.goL (fun hx hb h k => lv_iinc hx hb dg h hq hv hn hl k) k
-- arithmetic
theorem g_iadd {x y : Int32} (dg : decode M.2.2.1 pc = .ok (.iadd, 1)) (k : G Γ d M P X (pc + 1) lv (.int (x + y) :: st) E n kc ks) : G Γ d M P X pc lv (.int y :: .int x :: st) E n kc ks := G.go (fun hx hb _ k => lv_iadd hx hb dg k) k
theorem g_isub {x y : Int32} (dg : decode M.2.2.1 pc = .ok (.isub, 1)) (k : G Γ d M P X (pc + 1) lv (.int (x - y) :: st) E n kc ks) : G Γ d M P X pc lv (.int y :: .int x :: st) E n kc ks := G.go (fun hx hb _ k => lv_isub hx hb dg k) k
theorem g_imul {x y : Int32} (dg : decode M.2.2.1 pc = .ok (.imul, 1)) (k : G Γ d M P X (pc + 1) lv (.int (x * y) :: st) E n kc ks) : G Γ d M P X pc lv (.int y :: .int x :: st) E n kc ks := G.go (fun hx hb _ k => lv_imul hx hb dg k) k
theorem g_idiv {x y : Int32} (hne : ¬ y = 0) (dg : decode M.2.2.1 pc = .ok (.idiv, 1)) (k : G Γ d M P X (pc + 1) lv (.int (x / y) :: st) E n kc ks) : G Γ d M P X pc lv (.int y :: .int x :: st) E n kc ks := G.go (fun hx hb _ k => lv_idiv hx hb dg hne k) k
theorem g_irem {x y : Int32} (hne : ¬ y = 0) (dg : decode M.2.2.1 pc = .ok (.irem, 1)) (k : G Γ d M P X (pc + 1) lv (.int (x - x / y * y) :: st) E n kc ks) : G Γ d M P X pc lv (.int y :: .int x :: st) E n kc ks := G.go (fun hx hb _ k => lv_irem hx hb dg hne k) k
theorem g_ineg {x : Int32} (dg : decode M.2.2.1 pc = .ok (.ineg, 1)) (k : G Γ d M P X (pc + 1) lv (.int (-x) :: st) E n kc ks) : G Γ d M P X pc lv (.int x :: st) E n kc ks := G.go (fun hx hb _ k => lv_ineg hx hb dg k) k
theorem g_iand {x y : Int32} (dg : decode M.2.2.1 pc = .ok (.iand, 1)) (k : G Γ d M P X (pc + 1) lv (.int (x &&& y) :: st) E n kc ks) : G Γ d M P X pc lv (.int y :: .int x :: st) E n kc ks := G.go (fun hx hb _ k => lv_iand hx hb dg k) k
theorem g_ior {x y : Int32} (dg : decode M.2.2.1 pc = .ok (.ior, 1)) (k : G Γ d M P X (pc + 1) lv (.int (x ||| y) :: st) E n kc ks) : G Γ d M P X pc lv (.int y :: .int x :: st) E n kc ks := G.go (fun hx hb _ k => lv_ior hx hb dg k) k
theorem g_ishl {x y : Int32} (dg : decode M.2.2.1 pc = .ok (.ishl, 1)) (k : G Γ d M P X (pc + 1) lv (.int (x <<< (y &&& 31)) :: st) E n kc ks) : G Γ d M P X pc lv (.int y :: .int x :: st) E n kc ks := G.go (fun hx hb _ k => lv_ishl hx hb dg k) k
theorem g_ishr {x y : Int32} (dg : decode M.2.2.1 pc = .ok (.ishr, 1)) (k : G Γ d M P X (pc + 1) lv (.int (x >>> (y &&& 31)) :: st) E n kc ks) : G Γ d M P X pc lv (.int y :: .int x :: st) E n kc ks := G.go (fun hx hb _ k => lv_ishr hx hb dg k) k
theorem g_iushr {x y v : Int32} (hv : (x.toUInt32 >>> (y.toUInt32 &&& Int32.toUInt32 31)).toInt32 = v) (dg : decode M.2.2.1 pc = .ok (.iushr, 1)) (k : G Γ d M P X (pc + 1) lv (.int v :: st) E n kc ks) : G Γ d M P X pc lv (.int y :: .int x :: st) E n kc ks := G.go (fun hx hb _ k => lv_iushr hx hb dg hv k) k
theorem g_i2l {x : Int32} (dg : decode M.2.2.1 pc = .ok (.i2l, 1)) (k : G Γ d M P X (pc + 1) lv (.long x.toInt64 :: st) E n kc ks) : G Γ d M P X pc lv (.int x :: st) E n kc ks := G.go (fun hx hb _ k => lv_i2l hx hb dg rfl k) k
theorem g_i2b {x : Int32} (dg : decode M.2.2.1 pc = .ok (.i2b, 1)) (k : G Γ d M P X (pc + 1) lv (.int x.toInt8.toInt32 :: st) E n kc ks) : G Γ d M P X pc lv (.int x :: st) E n kc ks := G.go (fun hx hb _ k => lv_i2b hx hb dg rfl k) k
theorem g_i2c {x : Int32} (dg : decode M.2.2.1 pc = .ok (.i2c, 1)) (k : G Γ d M P X (pc + 1) lv (.int (x.toUInt32 % 65536).toInt32 :: st) E n kc ks) : G Γ d M P X pc lv (.int x :: st) E n kc ks := G.go (fun hx hb _ k => lv_i2c hx hb dg rfl k) k
theorem g_i2d {x : Int32} (dg : decode M.2.2.1 pc = .ok (.i2d, 1)) (k : G Γ d M P X (pc + 1) lv (.double (FP.i2d x) :: st) E n kc ks) : G Γ d M P X pc lv (.int x :: st) E n kc ks := G.go (fun hx hb _ k => lv_i2d hx hb dg k) k
theorem g_i2f {x : Int32} (dg : decode M.2.2.1 pc = .ok (.i2f, 1)) (k : G Γ d M P X (pc + 1) lv (.float (FP.i2f x) :: st) E n kc ks) : G Γ d M P X pc lv (.int x :: st) E n kc ks := G.go (fun hx hb _ k => lv_i2f hx hb dg k) k
theorem g_fconst0 (dg : decode M.2.2.1 pc = .ok (.fconst 0, 1)) (k : G Γ d M P X (pc + 1) lv (.float FP.fconst0 :: st) E n kc ks) : G Γ d M P X pc lv st E n kc ks := G.go (fun hx hb _ k => lv_fconst0 hx hb dg k) k
theorem g_dconst0 (dg : decode M.2.2.1 pc = .ok (.dconst 0, 1)) (k : G Γ d M P X (pc + 1) lv (.double FP.dconst0 :: st) E n kc ks) : G Γ d M P X pc lv st E n kc ks := G.go (fun hx hb _ k => lv_dconst0 hx hb dg k) k
theorem g_fdiv {x y : UInt32} (hne : vf_n32 (FP.fdiv x y)) (dg : decode M.2.2.1 pc = .ok (.fdiv, 1)) (k : G Γ d M P X (pc + 1) lv (.float (FP.fdiv x y) :: st) E n kc ks) : G Γ d M P X pc lv (.float y :: .float x :: st) E n kc ks := G.go (fun hx hb _ k => lv_fdiv hx hb dg hne k) k
theorem g_ddiv {x y : UInt64} (hne : vf_n64 (FP.ddiv x y)) (dg : decode M.2.2.1 pc = .ok (.ddiv, 1)) (k : G Γ d M P X (pc + 1) lv (.double (FP.ddiv x y) :: st) E n kc ks) : G Γ d M P X pc lv (.double y :: .double x :: st) E n kc ks := G.go (fun hx hb _ k => lv_ddiv hx hb dg hne k) k
theorem g_f2d {x : UInt32} (hne : vf_n64 (FP.f2d x)) (dg : decode M.2.2.1 pc = .ok (.f2d, 1)) (k : G Γ d M P X (pc + 1) lv (.double (FP.f2d x) :: st) E n kc ks) : G Γ d M P X pc lv (.float x :: st) E n kc ks := G.go (fun hx hb _ k => lv_f2d hx hb dg hne k) k
theorem g_dcmp {x y : UInt64} {op : CmpOp} (dg : decode M.2.2.1 pc = .ok (.dcmp op, 1)) (k : G Γ d M P X (pc + 1) lv (.int (Op.cmpValue (FP.dcmp x y) op) :: st) E n kc ks) : G Γ d M P X pc lv (.double y :: .double x :: st) E n kc ks := G.go (fun hx hb _ k => lv_dcmp hx hb dg k) k
-- stack
theorem g_dup {v : Value} (hv : v.category = 1) (dg : decode M.2.2.1 pc = .ok (.dup, 1)) (k : G Γ d M P X (pc + 1) lv (v :: v :: st) E n kc ks) : G Γ d M P X pc lv (v :: st) E n kc ks := G.go (fun hx hb _ k => lv_dup hx hb dg hv k) k
theorem g_dup_x1 {v w : Value} (hv : v.category = 1) (hw : w.category = 1) (dg : decode M.2.2.1 pc = .ok (.dup_x1, 1)) (k : G Γ d M P X (pc + 1) lv (v :: w :: v :: st) E n kc ks) : G Γ d M P X pc lv (v :: w :: st) E n kc ks := G.go (fun hx hb _ k => lv_dup_x1 hx hb dg hv hw k) k
theorem g_pop {v : Value} (hv : v.category = 1) (dg : decode M.2.2.1 pc = .ok (.pop, 1)) (k : G Γ d M P X (pc + 1) lv st E n kc ks) : G Γ d M P X pc lv (v :: st) E n kc ks := G.go (fun hx hb _ k => lv_pop hx hb dg hv k) k
theorem g_dup2 {v w : Value} (hv : v.category = 1) (hw : w.category = 1) (dg : decode M.2.2.1 pc = .ok (.dup2, 1)) (k : G Γ d M P X (pc + 1) lv (v :: w :: v :: w :: st) E n kc ks) : G Γ d M P X pc lv (v :: w :: st) E n kc ks := G.go (fun hx hb _ k => lv_dup2_11 hx hb dg hv hw k) k
theorem g_topi {x : Int32} (k : ∀ y : Int32, y = x → G Γ d M P X pc lv (.int y :: st) E n kc ks) : G Γ d M P X pc lv (.int x :: st) E n kc ks := k x rfl
-- branches
theorem g_goto {off : Int} {tgt : Nat} (ht : (pc : Int) + off = (tgt : Int)) (dg : decode M.2.2.1 pc = .ok (.goto off, 3)) (k : G Γ d M P X tgt lv st E n kc ks) : G Γ d M P X pc lv st E n kc ks := G.go (fun hx hb _ k => lv_goto hx hb dg ht k) k
theorem g_if_eq {x : Int32} {off : Int} {tgt : Nat} (ht : (pc : Int) + off = (tgt : Int)) (dg : decode M.2.2.1 pc = .ok (.ifCond .eq off, 3)) (ka : x = 0 → G Γ d M P X tgt lv st E n kc ks) (kb : ¬ x = 0 → G Γ d M P X (pc + 3) lv st E n kc ks) : G Γ d M P X pc lv (.int x :: st) E n kc ks := G.br (fun hx hb ka kb => lv_if_eq hx hb dg ht ka kb) ka kb
theorem g_if_ne {x : Int32} {off : Int} {tgt : Nat} (ht : (pc : Int) + off = (tgt : Int)) (dg : decode M.2.2.1 pc = .ok (.ifCond .ne off, 3)) (ka : ¬ x = 0 → G Γ d M P X tgt lv st E n kc ks) (kb : x = 0 → G Γ d M P X (pc + 3) lv st E n kc ks) : G Γ d M P X pc lv (.int x :: st) E n kc ks := G.br (fun hx hb ka kb => lv_if_ne hx hb dg ht ka kb) ka kb
theorem g_if_lt {x : Int32} {off : Int} {tgt : Nat} (ht : (pc : Int) + off = (tgt : Int)) (dg : decode M.2.2.1 pc = .ok (.ifCond .lt off, 3)) (ka : x < 0 → G Γ d M P X tgt lv st E n kc ks) (kb : ¬ x < 0 → G Γ d M P X (pc + 3) lv st E n kc ks) : G Γ d M P X pc lv (.int x :: st) E n kc ks := G.br (fun hx hb ka kb => lv_if_lt hx hb dg ht ka kb) ka kb
theorem g_if_ge {x : Int32} {off : Int} {tgt : Nat} (ht : (pc : Int) + off = (tgt : Int)) (dg : decode M.2.2.1 pc = .ok (.ifCond .ge off, 3)) (ka : 0 ≤ x → G Γ d M P X tgt lv st E n kc ks) (kb : ¬ 0 ≤ x → G Γ d M P X (pc + 3) lv st E n kc ks) : G Γ d M P X pc lv (.int x :: st) E n kc ks := G.br (fun hx hb ka kb => lv_if_ge hx hb dg ht ka kb) ka kb
theorem g_if_gt {x : Int32} {off : Int} {tgt : Nat} (ht : (pc : Int) + off = (tgt : Int)) (dg : decode M.2.2.1 pc = .ok (.ifCond .gt off, 3)) (ka : 0 < x → G Γ d M P X tgt lv st E n kc ks) (kb : ¬ 0 < x → G Γ d M P X (pc + 3) lv st E n kc ks) : G Γ d M P X pc lv (.int x :: st) E n kc ks := G.br (fun hx hb ka kb => lv_if_gt hx hb dg ht ka kb) ka kb
theorem g_if_le {x : Int32} {off : Int} {tgt : Nat} (ht : (pc : Int) + off = (tgt : Int)) (dg : decode M.2.2.1 pc = .ok (.ifCond .le off, 3)) (ka : x ≤ 0 → G Γ d M P X tgt lv st E n kc ks) (kb : ¬ x ≤ 0 → G Γ d M P X (pc + 3) lv st E n kc ks) : G Γ d M P X pc lv (.int x :: st) E n kc ks := G.br (fun hx hb ka kb => lv_if_le hx hb dg ht ka kb) ka kb
theorem g_icmp_eq {x y : Int32} {off : Int} {tgt : Nat} (ht : (pc : Int) + off = (tgt : Int)) (dg : decode M.2.2.1 pc = .ok (.if_icmp .eq off, 3)) (ka : x = y → G Γ d M P X tgt lv st E n kc ks) (kb : ¬ x = y → G Γ d M P X (pc + 3) lv st E n kc ks) : G Γ d M P X pc lv (.int y :: .int x :: st) E n kc ks := G.br (fun hx hb ka kb => lv_icmp_eq hx hb dg ht ka kb) ka kb
theorem g_icmp_ne {x y : Int32} {off : Int} {tgt : Nat} (ht : (pc : Int) + off = (tgt : Int)) (dg : decode M.2.2.1 pc = .ok (.if_icmp .ne off, 3)) (ka : ¬ x = y → G Γ d M P X tgt lv st E n kc ks) (kb : x = y → G Γ d M P X (pc + 3) lv st E n kc ks) : G Γ d M P X pc lv (.int y :: .int x :: st) E n kc ks := G.br (fun hx hb ka kb => lv_icmp_ne hx hb dg ht ka kb) ka kb
theorem g_icmp_lt {x y : Int32} {off : Int} {tgt : Nat} (ht : (pc : Int) + off = (tgt : Int)) (dg : decode M.2.2.1 pc = .ok (.if_icmp .lt off, 3)) (ka : x < y → G Γ d M P X tgt lv st E n kc ks) (kb : ¬ x < y → G Γ d M P X (pc + 3) lv st E n kc ks) : G Γ d M P X pc lv (.int y :: .int x :: st) E n kc ks := G.br (fun hx hb ka kb => lv_icmp_lt hx hb dg ht ka kb) ka kb
theorem g_icmp_ge {x y : Int32} {off : Int} {tgt : Nat} (ht : (pc : Int) + off = (tgt : Int)) (dg : decode M.2.2.1 pc = .ok (.if_icmp .ge off, 3)) (ka : y ≤ x → G Γ d M P X tgt lv st E n kc ks) (kb : ¬ y ≤ x → G Γ d M P X (pc + 3) lv st E n kc ks) : G Γ d M P X pc lv (.int y :: .int x :: st) E n kc ks := G.br (fun hx hb ka kb => lv_icmp_ge hx hb dg ht ka kb) ka kb
theorem g_icmp_gt {x y : Int32} {off : Int} {tgt : Nat} (ht : (pc : Int) + off = (tgt : Int)) (dg : decode M.2.2.1 pc = .ok (.if_icmp .gt off, 3)) (ka : y < x → G Γ d M P X tgt lv st E n kc ks) (kb : ¬ y < x → G Γ d M P X (pc + 3) lv st E n kc ks) : G Γ d M P X pc lv (.int y :: .int x :: st) E n kc ks := G.br (fun hx hb ka kb => lv_icmp_gt hx hb dg ht ka kb) ka kb
theorem g_icmp_le {x y : Int32} {off : Int} {tgt : Nat} (ht : (pc : Int) + off = (tgt : Int)) (dg : decode M.2.2.1 pc = .ok (.if_icmp .le off, 3)) (ka : x ≤ y → G Γ d M P X tgt lv st E n kc ks) (kb : ¬ x ≤ y → G Γ d M P X (pc + 3) lv st E n kc ks) : G Γ d M P X pc lv (.int y :: .int x :: st) E n kc ks := G.br (fun hx hb ka kb => lv_icmp_le hx hb dg ht ka kb) ka kb
theorem g_ifnull {x : Nat} {off : Int} (dg : decode M.2.2.1 pc = .ok (.ifnull off, 3)) (k : G Γ d M P X (pc + 3) lv st E n kc ks) : G Γ d M P X pc lv (.ref x :: st) E n kc ks := G.go (fun hx hb _ k => lv_ifnull hx hb dg k) k
theorem g_ifnonnull {x : Nat} {off : Int} {tgt : Nat} (ht : (pc : Int) + off = (tgt : Int)) (dg : decode M.2.2.1 pc = .ok (.ifnonnull off, 3)) (k : G Γ d M P X tgt lv st E n kc ks) : G Γ d M P X pc lv (.ref x :: st) E n kc ks := G.go (fun hx hb _ k => lv_ifnonnull hx hb dg ht k) k
theorem g_ifnullN {off : Int} {tgt : Nat} (ht : (pc : Int) + off = (tgt : Int)) (dg : decode M.2.2.1 pc = .ok (.ifnull off, 3)) (k : G Γ d M P X tgt lv st E n kc ks) : G Γ d M P X pc lv (.null :: st) E n kc ks := G.go (fun hx hb _ k => lv_ifnullN hx hb dg ht k) k
theorem g_acmp_eq {rx ry : Option Nat} {off : Int} {tgt : Nat} (ht : (pc : Int) + off = (tgt : Int)) (dg : decode M.2.2.1 pc = .ok (.if_acmp .eq off, 3)) (ka : rx = ry → G Γ d M P X tgt lv st E n kc ks) (kb : ¬ rx = ry → G Γ d M P X (pc + 3) lv st E n kc ks) : G Γ d M P X pc lv (va_rf ry :: va_rf rx :: st) E n kc ks := G.br (fun hx hb ka kb => lv_acmp_eq hx hb dg ht ka kb) ka kb
theorem g_acmp_ne {rx ry : Option Nat} {off : Int} {tgt : Nat} (ht : (pc : Int) + off = (tgt : Int)) (dg : decode M.2.2.1 pc = .ok (.if_acmp .ne off, 3)) (ka : ¬ rx = ry → G Γ d M P X tgt lv st E n kc ks) (kb : rx = ry → G Γ d M P X (pc + 3) lv st E n kc ks) : G Γ d M P X pc lv (va_rf ry :: va_rf rx :: st) E n kc ks := G.br (fun hx hb ka kb => lv_acmp_ne hx hb dg ht ka kb) ka kb
end GROWS
end
section
section GHEAP
variable {Γ : Gm} {d : Nat} {M : Mr} {P : Po} {X : Px} {pc : Nat} {lv : List (Nat × Value)} {st rest : List Value} {E : Hp} {n kc ks : Nat}
/-- a field by an entry of a class's pool: class ci of vwCl, its place k -/
def Fl (own : String) (ix ci k : Nat) : Prop := ∃ (C ref : String) (T : u_T) (N : Nat), vwCl[ci]? = some (C, T, N) ∧ k < N ∧ Cond.fieldLink own ix ref (T k).2.1 (T k).2.2.1 ∈ wl ∧ (∀ w ∈ u_ws C T N, w ∈ wl) ∧ (∀ (args : Array Value) (s : State), (∀ w ∈ wl, w.before args s = true) → ∀ x, s.fieldFound? (T k).1 (T k).2.1 (T k).2.2.1 = some x → s.fieldFound? ref (T k).2.1 (T k).2.2.1 = some x)
/-- what a store of it asks: its type, whether it's final -/
def Fw (ci k : Nat) (ty : FieldType) (fin : Bool) : Prop := ∃ (C : String) (T : u_T) (N : Nat), vwCl[ci]? = some (C, T, N) ∧ (T k).2.2.2 = fin ∧ (T k).1 = C ∧ parseFieldDescriptor (T k).2.2.1 = some ty ∧ (∃ ty0 : Nat → FieldType, ∀ j, j < N → parseFieldDescriptor (T j).2.2.1 = some (ty0 j)) ∧ ∀ a, a < N → ∀ b, b < N → a ≠ b → (T a).2.1 ≠ (T b).2.1
theorem Fl.of {own C ref : String} {ix ci k N : Nat} {T : u_T} (hc : vwCl[ci]? = some (C, T, N)) (hk : k < N) (hl : Cond.fieldLink own ix ref (T k).2.1 (T k).2.2.1 ∈ wl) (hin : ∀ w ∈ u_ws C T N, w ∈ wl) (he : (T k).1 = ref) : Fl own ix ci k := ⟨C, ref, T, N, hc, hk, hl, hin, fun _ _ _ x hx => by rw [← he]; exact hx⟩
theorem g_get {ix ci k a : Nat} {fs : List Value} {v : Value} (hf : Fl M.1 ix ci k) (he : E a = some (.inr (ci, fs))) (hv : fs[k]? = some v) (dg : decode M.2.2.1 pc = .ok (.getfield ix, 3)) (kk : G Γ d M P X (pc + 3) lv (v :: st) E n kc ks) : G Γ d M P X pc lv (.ref a :: st) E n kc ks := by
  obtain ⟨C, ref, T, N, hc, hk, hl, hin, hsame⟩ := hf
  refine G.goF (fun {p e R s m args below meth c Q H locs cells slots ls} hF hH _ hS _ kk9 => ?_) kk
  obtain ⟨hx, hb, -, hown, hts, hev, -⟩ := hF
  exact va_get (D := gD Γ) (ws := [(a, .inr (ci, fs))]) hx hb hts hin hown hev.2.1 (fun j q hj => by
    cases j with
    | zero => cases hj; exact (hH a _ he).1
    | succ j => simp at hj) 0 rfl hc k hk (hts _ hl) (hsame args s hts) hv dg kk9
/-- a store's two sides: the machine's row, and the world behind it -/
theorem va_at.one {D : va_G} {cl : List vw_C} {a : Nat} {e : va_E} {H : Heap} (h : va_at D cl (a, e) H) : va_P D cl [(a, e)] H := fun j q hj => by
  cases j with
  | zero => cases hj; exact h
  | succ j => simp at hj
theorem va_P.one {D : va_G} {cl : List vw_C} {a : Nat} {e : va_E} {H : Heap} (h : va_P D cl [(a, e)] H) : va_at D cl (a, e) H := h 0 _ rfl
theorem g_put {ix ci k a : Nat} {fs fs2 : List Value} {v : Value} {ty : FieldType} (hf : Fl M.1 ix ci k) (hw : Fw ci k ty false) (he : E a = some (.inr (ci, fs))) (hl9 : k < fs.length) (hn : narrow ty v = v) (hfit : fits ty v = true) (hfs2 : fs.set k v = fs2) (dg : decode M.2.2.1 pc = .ok (.putfield ix, 3))
    (kk : G Γ d M P X (pc + 3) lv st (hset E a (.inr (ci, fs2))) n kc ks) : G Γ d M P X pc lv (v :: .ref a :: st) E n kc ks := by
  subst hfs2
  obtain ⟨C, ref, T, N, hc, hk, hl, hin, hsame⟩ := hf
  obtain ⟨C', T', N', hc', hfin, -, hd, ⟨ty0, hty⟩, hnm⟩ := hw
  cases hc.symm.trans hc'
  intro p e R s m args below meth c Q hF hE H locs cells slots ls h1 h2 h3 h4 h5 h6
  obtain ⟨hx, hb, -, hown, hts, hev, -⟩ := id hF
  have hK := hev.2.1
  have hap := va_apart (own := M.1) hts hin ty0 hty hnm hK hc
  have hB := (h1 a _ he).2
  obtain ⟨r, g1, cell, q1, q2, q3, q4⟩ := (h1 a _ he).1
  have hr : r = (C, T, N) := Option.some.inj (g1.symm.trans hc)
  subst hr
  obtain ⟨hS, hfc, kC, hkC, hkind⟩ := hK.1 ci _ hc
  obtain ⟨cf, kf, fi, f, hi, hsl⟩ := hS k hk
  have hlay := hts _ (hin _ (u_in_lay hk))
  unfold u_lay at hlay
  rw [if_neg (by rw [hfin]; decide)] at hlay
  have hst := (u_facts hfc hkC (u_lays hts hin hk) hi).1
  have h9 := u_store hfc hkC hkind hlay hi hd hn hfit
  refine W.putK hx hb (f := f) ⟨hown, hts _ hl, ⟨_, _, _, hsame args s hts _ hi⟩, hst⟩ (by rw [q2]; exact h9) q1 q3 (by rw [hsl]; exact k2_hasslot (q4 k hk)) rfl rfl dg fun H' e1 e2 e3 => ?_
  rw [hsl] at e1 ⊢
  exact kk p e R s m args below meth c Q hF hE H' _ cells slots ls (h1.set (e := .inr (ci, fs.set k v)) he ⟨_, hc, t_OB.to (V := updV (vp_V fs) k v) ⟨_, e1, q2, q3, t_set q4 hap hk v⟩ (fun j _ => vp_updV_set hl9 v j)⟩ e3) (e2.trans h2) (h3.put e2 e3 hB) h4 h5 h6
theorem g_putF {ix ci k a : Nat} {fs fs2 : List Value} {v : Value} {ty : FieldType} (hf : Fl M.1 ix ci k) (hw : Fw ci k ty true) (hown9 : ∃ T N, vwCl[ci]? = some (M.1, T, N)) (hin9 : M.2.1.name = "<init>") (he : E a = some (.inr (ci, fs))) (hl9 : k < fs.length) (hn : narrow ty v = v) (hfit : fits ty v = true) (hfs2 : fs.set k v = fs2) (dg : decode M.2.2.1 pc = .ok (.putfield ix, 3))
    (kk : G Γ d M P X (pc + 3) lv st (hset E a (.inr (ci, fs2))) n kc ks) : G Γ d M P X pc lv (v :: .ref a :: st) E n kc ks := by
  subst hfs2
  obtain ⟨C, ref, T, N, hc, hk, hl, hin, hsame⟩ := hf
  obtain ⟨C', T', N', hc', hfin, hCC, hd, ⟨ty0, hty⟩, hnm⟩ := hw
  obtain ⟨T9, N9, hc9⟩ := hown9
  cases hc.symm.trans hc'
  have hCM : C = M.1 := by have := hc.symm.trans hc9; simp at this; exact this.1
  intro p e R s m args below meth c Q hF hE H locs cells slots ls h1 h2 h3 h4 h5 h6
  obtain ⟨hx, hb, -, hown, hts, hev, -, -, hnam⟩ := id hF
  have hK := hev.2.1
  have hap := va_apart (own := M.1) hts hin ty0 hty hnm hK hc
  have hB := (h1 a _ he).2
  obtain ⟨r, g1, cell, q1, q2, q3, q4⟩ := (h1 a _ he).1
  have hr : r = (C, T, N) := Option.some.inj (g1.symm.trans hc)
  subst hr
  obtain ⟨hS, hfc, kC, hkC, hkind⟩ := hK.1 ci _ hc
  obtain ⟨cf, kf, fi, f, hi, hsl⟩ := hS k hk
  have hlay := hts _ (hin _ (u_in_lay hk))
  unfold u_lay at hlay
  rw [if_pos hfin] at hlay
  have hst := (u_facts hfc hkC (u_lays hts hin hk) hi).1
  have hcf : m.cls = cf := by
    obtain ⟨_, _, c', _, _, _, -, -, hf', -, -, -, hown2, -⟩ := Cond.laysFinal_spec hlay
    have e1 : c' = cf := by have := hi.symm.trans hf'; simp at this; exact this.1.symm
    rw [hCC, hCM] at hown2
    rw [← e1]; exact Option.some.inj (hown.symm.trans hown2)
  have h9 := u_fits hfc hkC hkind (Or.inr hlay) hi hd hn hfit
  refine W.putFinK hx hb hown (hts _ hl) (hsame args s hts _ hi) hst hcf (hnam hin9) (by rw [q2]; exact h9) q1 q3 (by rw [hsl]; exact k2_hasslot (q4 k hk)) rfl rfl dg fun H' e1 e2 e3 => ?_
  rw [hsl] at e1 ⊢
  exact kk p e R s m args below meth c Q hF hE H' _ cells slots ls (h1.set (e := .inr (ci, fs.set k v)) he ⟨_, hc, t_OB.to (V := updV (vp_V fs) k v) ⟨_, e1, q2, q3, t_set q4 hap hk v⟩ (fun j _ => vp_updV_set hl9 v j)⟩ e3) (e2.trans h2) (h3.put e2 e3 hB) h4 h5 h6
/-- a static of the environment -/
theorem g_gets {C nm dd : String} {v : Value} {ix : Nat} (j : Nat) (hz : (gzs Γ)[j]? = some (C, nm, dd, v)) (hl : Cond.fieldLink M.1 ix C nm dd ∈ wl) (dg : decode M.2.2.1 pc = .ok (.getstatic ix, 3)) (kk : G Γ d M P X (pc + 3) lv (v :: st) E n kc ks) : G Γ d M P X pc lv st E n kc ks :=
  G.goF (fun hF _ _ hS _ k => va_gets hF.1 hF.2.1 (hF.2.2.2.2.2.1.2.2.1 _ (List.mem_of_getElem? hz)) hS hF.2.2.2.1 (hF.2.2.2.2.1 _ hl) (fun _ h => h) dg k) kk
-- arrays
theorem g_len {a : Nat} {t : Nat} {ty : FieldType} {x : vp_A} {v : Int32} (he : E a = some (.inl (gA Γ t, x))) (ht : (gtys Γ)[t]? = some (gA Γ t, ty)) (hv : Int32.ofNat x.1 = v) (dg : decode M.2.2.1 pc = .ok (.arraylength, 1)) (kk : G Γ d M P X (pc + 1) lv (.int v :: st) E n kc ks) : G Γ d M P X pc lv (.ref a :: st) E n kc ks :=
  G.goF (fun hF hH _ _ _ k => va_alen (D := gD Γ) (cl := vwCl) hF.1 hF.2.1 hF.2.2.2.2.2.1.2.1 (hH a _ he).1.one 0 t rfl ht hv dg k) kk
theorem g_iald {a N : Nat} {f : Nat → Int32} {i : Int32} (he : E a = some (.inl (gA Γ 0, N, .inl f))) (hin : vp_in i N) (dg : decode M.2.2.1 pc = .ok (.iaload, 1)) (kk : G Γ d M P X (pc + 1) lv (.int (f i.toNatClampNeg) :: st) E n kc ks) : G Γ d M P X pc lv (.int i :: .ref a :: st) E n kc ks :=
  G.goF (fun hF hH _ _ _ k => va_iald (D := gD Γ) (cl := vwCl) hF.1 hF.2.1 hF.2.2.2.2.2.1.2.1 (hH a _ he).1.one 0 0 rfl rfl hin dg k) kk
theorem g_bald {a N : Nat} {f : Nat → Int32} {i : Int32} (he : E a = some (.inl (gA Γ 1, N, .inl f))) (hin : vp_in i N) (dg : decode M.2.2.1 pc = .ok (.baload, 1)) (kk : G Γ d M P X (pc + 1) lv (.int (f i.toNatClampNeg) :: st) E n kc ks) : G Γ d M P X pc lv (.int i :: .ref a :: st) E n kc ks :=
  G.goF (fun hF hH _ _ _ k => va_bald (D := gD Γ) (cl := vwCl) hF.1 hF.2.1 hF.2.2.2.2.2.1.2.1 (hH a _ he).1.one 0 1 rfl rfl hin dg k) kk
theorem g_zald {a N : Nat} {f : Nat → Int32} {i : Int32} (he : E a = some (.inl (gA Γ 2, N, .inl f))) (hin : vp_in i N) (dg : decode M.2.2.1 pc = .ok (.baload, 1)) (kk : G Γ d M P X (pc + 1) lv (.int (f i.toNatClampNeg) :: st) E n kc ks) : G Γ d M P X pc lv (.int i :: .ref a :: st) E n kc ks :=
  G.goF (fun hF hH _ _ _ k => va_zald (D := gD Γ) (cl := vwCl) hF.1 hF.2.1 hF.2.2.2.2.2.1.2.1 (hH a _ he).1.one 0 2 rfl rfl hin dg k) kk
theorem g_cald {a N : Nat} {f : Nat → Int32} {i : Int32} (he : E a = some (.inl (gA Γ 4, N, .inl f))) (hin : vp_in i N) (dg : decode M.2.2.1 pc = .ok (.caload, 1)) (kk : G Γ d M P X (pc + 1) lv (.int (f i.toNatClampNeg) :: st) E n kc ks) : G Γ d M P X pc lv (.int i :: .ref a :: st) E n kc ks :=
  G.goF (fun hF hH _ _ _ k => va_cald (D := gD Γ) (cl := vwCl) hF.1 hF.2.1 hF.2.2.2.2.2.1.2.1 (hH a _ he).1.one 0 4 rfl rfl hin dg k) kk
theorem g_lald {a N : Nat} {f : Nat → Int64} {i : Int32} (he : E a = some (.inl (gA Γ 3, N, .inr (.inl f)))) (hin : vp_in i N) (dg : decode M.2.2.1 pc = .ok (.laload, 1)) (kk : G Γ d M P X (pc + 1) lv (.long (f i.toNatClampNeg) :: st) E n kc ks) : G Γ d M P X pc lv (.int i :: .ref a :: st) E n kc ks :=
  G.goF (fun hF hH _ _ _ k => va_lald (D := gD Γ) (cl := vwCl) hF.1 hF.2.1 hF.2.2.2.2.2.1.2.1 (hH a _ he).1.one 0 3 rfl rfl hin dg k) kk
theorem g_aald {a N t : Nat} {C : String} {f : Nat → Option Nat} {i : Int32} (he : E a = some (.inl (gA Γ t, N, .inr (.inr (.inr (.inr f)))))) (ht : (gtys Γ)[t]? = some (gA Γ t, .object C)) (hin : vp_in i N) (dg : decode M.2.2.1 pc = .ok (.aaload, 1)) (kk : G Γ d M P X (pc + 1) lv (va_rf (f i.toNatClampNeg) :: st) E n kc ks) : G Γ d M P X pc lv (.int i :: .ref a :: st) E n kc ks :=
  G.goF (fun hF hH _ _ _ k => va_aldq (D := gD Γ) (cl := vwCl) hF.1 hF.2.1 hF.2.2.2.2.2.1.2.1 (hH a _ he).1.one 0 t rfl ht hin dg k) kk
theorem g_iast {a N : Nat} {f : Nat → Int32} {i x : Int32} (he : E a = some (.inl (gA Γ 0, N, .inl f))) (hin : vp_in i N) (dg : decode M.2.2.1 pc = .ok (.iastore, 1)) (kk : G Γ d M P X (pc + 1) lv st (hset E a (.inl (gA Γ 0, N, .inl (upd f i.toNatClampNeg x)))) n kc ks) : G Γ d M P X pc lv (.int x :: .int i :: .ref a :: st) E n kc ks := by
  intro p e R s m args below meth c Q hF hE H locs cells slots ls h1 h2 h3 h4 h5 h6
  obtain ⟨hx, hb, -, hown, hts, hev, -⟩ := id hF
  have ht : (gtys Γ)[0]? = some (gA Γ 0, .int) := rfl
  refine W.iast hx hb (h1 a _ he).1 ((hev.2.1.2 0 _ ht).1 N (fun j => .int (f j))) (fun q => by cases q) (by show ¬ (i < 0 ∨ (arrV _ _ _).slots.size ≤ _); rw [arrV_size]; exact hin) rfl rfl dg fun H1 e1 z oq => ?_
  refine kk p e R s m args below meth c Q hF hE H1 _ cells slots ls (h1.set he ?_ oq) (z.trans h2) (h3.put z oq (h1 a _ he).2) h4 h5 h6
  show H1[a]? = some (vp_cell _ _)
  rw [e1]
  rw [vp_cell_i, vp_cell_i, arrV_store]
  congr 2
  funext q
  by_cases hq : q = i.toNatClampNeg
  · subst hq
    simp [updV, upd]
  · simp [updV, upd, hq]
theorem g_bast {a N : Nat} {f : Nat → Int32} {i x : Int32} (he : E a = some (.inl (gA Γ 1, N, .inl f))) (hin : vp_in i N) (dg : decode M.2.2.1 pc = .ok (.bastore, 1)) (kk : G Γ d M P X (pc + 1) lv st (hset E a (.inl (gA Γ 1, N, .inl (upd f i.toNatClampNeg (vp_nar .byte x))))) n kc ks) : G Γ d M P X pc lv (.int x :: .int i :: .ref a :: st) E n kc ks := by
  intro p e R s m args below meth c Q hF hE H locs cells slots ls h1 h2 h3 h4 h5 h6
  obtain ⟨hx, hb, -, hown, hts, hev, -⟩ := id hF
  have ht : (gtys Γ)[1]? = some (gA Γ 1, .byte) := rfl
  refine W.bast hx hb (h1 a _ he).1 ((hev.2.1.2 1 _ ht).1 N (fun j => .int (f j))) (fun q => by cases q) (by show ¬ (i < 0 ∨ (arrV _ _ _).slots.size ≤ _); rw [arrV_size]; exact hin) rfl rfl dg fun H1 e1 z oq => ?_
  refine kk p e R s m args below meth c Q hF hE H1 _ cells slots ls (h1.set he ?_ oq) (z.trans h2) (h3.put z oq (h1 a _ he).2) h4 h5 h6
  show H1[a]? = some (vp_cell _ _)
  rw [e1]
  rw [vp_cell_i, vp_cell_i, arrV_store]
  congr 2
  funext q
  by_cases hq : q = i.toNatClampNeg
  · subst hq
    simp [updV, upd, vp_nar]
    try rfl
  · simp [updV, upd, hq]
theorem g_zast {a N : Nat} {f : Nat → Int32} {i x : Int32} (he : E a = some (.inl (gA Γ 2, N, .inl f))) (hin : vp_in i N) (dg : decode M.2.2.1 pc = .ok (.bastore, 1)) (kk : G Γ d M P X (pc + 1) lv st (hset E a (.inl (gA Γ 2, N, .inl (upd f i.toNatClampNeg (vp_nar .boolean x))))) n kc ks) : G Γ d M P X pc lv (.int x :: .int i :: .ref a :: st) E n kc ks := by
  intro p e R s m args below meth c Q hF hE H locs cells slots ls h1 h2 h3 h4 h5 h6
  obtain ⟨hx, hb, -, hown, hts, hev, -⟩ := id hF
  have ht : (gtys Γ)[2]? = some (gA Γ 2, .boolean) := rfl
  refine W.zast hx hb (h1 a _ he).1 ((hev.2.1.2 2 _ ht).1 N (fun j => .int (f j))) (fun q => by cases q) (by show ¬ (i < 0 ∨ (arrV _ _ _).slots.size ≤ _); rw [arrV_size]; exact hin) rfl rfl dg fun H1 e1 z oq => ?_
  refine kk p e R s m args below meth c Q hF hE H1 _ cells slots ls (h1.set he ?_ oq) (z.trans h2) (h3.put z oq (h1 a _ he).2) h4 h5 h6
  show H1[a]? = some (vp_cell _ _)
  rw [e1]
  rw [vp_cell_i, vp_cell_i, arrV_store]
  congr 2
  funext q
  by_cases hq : q = i.toNatClampNeg
  · subst hq
    simp [updV, upd, vp_nar]
    try rfl
  · simp [updV, upd, hq]
theorem g_cast {a N : Nat} {f : Nat → Int32} {i x : Int32} (he : E a = some (.inl (gA Γ 4, N, .inl f))) (hin : vp_in i N) (dg : decode M.2.2.1 pc = .ok (.castore, 1)) (kk : G Γ d M P X (pc + 1) lv st (hset E a (.inl (gA Γ 4, N, .inl (upd f i.toNatClampNeg (vp_nar .char x))))) n kc ks) : G Γ d M P X pc lv (.int x :: .int i :: .ref a :: st) E n kc ks := by
  intro p e R s m args below meth c Q hF hE H locs cells slots ls h1 h2 h3 h4 h5 h6
  obtain ⟨hx, hb, -, hown, hts, hev, -⟩ := id hF
  have ht : (gtys Γ)[4]? = some (gA Γ 4, .char) := rfl
  refine W.cast hx hb (h1 a _ he).1 ((hev.2.1.2 4 _ ht).1 N (fun j => .int (f j))) (fun q => by cases q) (by show ¬ (i < 0 ∨ (arrV _ _ _).slots.size ≤ _); rw [arrV_size]; exact hin) rfl rfl dg fun H1 e1 z oq => ?_
  refine kk p e R s m args below meth c Q hF hE H1 _ cells slots ls (h1.set he ?_ oq) (z.trans h2) (h3.put z oq (h1 a _ he).2) h4 h5 h6
  show H1[a]? = some (vp_cell _ _)
  rw [e1]
  rw [vp_cell_i, vp_cell_i, arrV_store]
  congr 2
  funext q
  by_cases hq : q = i.toNatClampNeg
  · subst hq
    simp [updV, upd, vp_nar]
    try rfl
  · simp [updV, upd, hq]
theorem g_last {a N : Nat} {f : Nat → Int64} {i : Int32} {x : Int64} (he : E a = some (.inl (gA Γ 3, N, .inr (.inl f)))) (hin : vp_in i N) (dg : decode M.2.2.1 pc = .ok (.lastore, 1)) (kk : G Γ d M P X (pc + 1) lv st (hset E a (.inl (gA Γ 3, N, .inr (.inl (vp_updL f i.toNatClampNeg x))))) n kc ks) : G Γ d M P X pc lv (.long x :: .int i :: .ref a :: st) E n kc ks := by
  intro p e R s m args below meth c Q hF hE H locs cells slots ls h1 h2 h3 h4 h5 h6
  obtain ⟨hx, hb, -, hown, hts, hev, -⟩ := id hF
  have ht : (gtys Γ)[3]? = some (gA Γ 3, .long) := rfl
  refine W.last hx hb (h1 a _ he).1 ((hev.2.1.2 3 _ ht).1 N (fun j => .long (f j))) (fun q => by cases q) (by show ¬ (i < 0 ∨ (arrV _ _ _).slots.size ≤ _); rw [arrV_size]; exact hin) rfl rfl dg fun H1 e1 z oq => ?_
  refine kk p e R s m args below meth c Q hF hE H1 _ cells slots ls (h1.set he ?_ oq) (z.trans h2) (h3.put z oq (h1 a _ he).2) h4 h5 h6
  show H1[a]? = some (vp_cell _ _)
  rw [e1]
  rw [vp_cell_l, vp_cell_l, arrV_store]
  congr 2
  funext q
  by_cases hq : q = i.toNatClampNeg
  · subst hq
    simp [updV, vp_updL]
  · simp [updV, vp_updL, hq]
theorem g_aast {a N t v ci : Nat} {r : vw_C} {vs : List Value} {f : Nat → Option Nat} {i : Int32} (he : E a = some (.inl (gA Γ t, N, .inr (.inr (.inr (.inr f)))))) (ht : (gtys Γ)[t]? = some (gA Γ t, .object r.1)) (hv : E v = some (.inr (ci, vs))) (hc : vwCl[ci]? = some r) (hin : vp_in i N) (dg : decode M.2.2.1 pc = .ok (.aastore, 1)) (kk : G Γ d M P X (pc + 1) lv st (hset E a (.inl (gA Γ t, N, .inr (.inr (.inr (.inr (va_up f i.toNatClampNeg (some v)))))))) n kc ks) : G Γ d M P X pc lv (.ref v :: .int i :: .ref a :: st) E n kc ks := by
  intro p e R s m args below meth c Q hF hE H locs cells slots ls h1 h2 h3 h4 h5 h6
  obtain ⟨hx, hb, -, hown, hts, hev, -⟩ := id hF
  have hK := hev.2.1
  have hlt : i.toNatClampNeg < N := Nat.not_le.mp fun q => hin (Or.inr q)
  have h0 : ¬ i < 0 := fun q => hin (Or.inl q)
  obtain ⟨r', hr', cellV, g1, g2, g3, -⟩ := (h1 v _ hv).1
  have hcls := (hK.1 ci r hc).2
  obtain ⟨kA, comp, k1, k2, k3, -⟩ := (hK.2 t _ ht).2
  have hcomp : comp = (gD Γ).1 ci := Option.some.inj (k3.symm.trans hcls.1)
  subst hcomp
  obtain ⟨kC, hkC, -⟩ := hcls.2
  refine W.aast hx hb (h1 a _ he).1 (fun q h => by cases h) (fun h => by cases h) k1 k2 rfl hkC ⟨h0, by show _ < (arrV _ _ _).slots.size; rw [arrV_size]; exact hlt⟩ g1 (fun q h => by rw [g3] at h; cases h) (by rw [g2]; exact hkC) (by rw [g2]; exact va_assign hcls) rfl rfl dg fun H1 e1 z oq => ?_
  refine kk p e R s m args below meth c Q hF hE H1 _ cells slots ls (h1.set he ?_ oq) (z.trans h2) (h3.put z oq (h1 a _ he).2) h4 h5 h6
  show H1[a]? = some (vp_cell _ _)
  rw [e1]
  rw [vp_cell_q, vp_cell_q, arrV_store]
  congr 2
  funext q
  by_cases hq : q = i.toNatClampNeg
  · subst hq
    simp [updV, va_up, va_rf]
  · simp [updV, va_up, hq]
-- making
theorem g_new {ix ci N : Nat} {C : String} {T : u_T} {fs : List Value} {ty : Nat → FieldType} (hc : vwCl[ci]? = some (C, T, N)) (hin : ∀ w ∈ u_ws C T N, w ∈ wl) (hty : ∀ k, k < N → parseFieldDescriptor (T k).2.2.1 = some (ty k)) (hl : Cond.classLink M.1 ix C ∈ wl) (hi : Cond.instantiable C N ∈ wl) (hini : Cond.initialized C ∈ wl) (hfs : ∀ j, j < N → defaultValue (ty j) = vp_V fs j) (dg : decode M.2.2.1 pc = .ok (.new ix, 3))
    (kk : gB Γ ≤ n → (∀ a e, E a = some e → a < n) → G Γ d M P X (pc + 3) lv (.ref n :: st) (hset E n (.inr (ci, fs))) (n + 1) kc ks) : G Γ d M P X pc lv st E n (kc + 1) (ks + N) := by
  intro p e R s m args below meth c Q hF hE H locs cells slots ls h1 h2 h3 h4 h5 h6
  obtain ⟨hx, hb, -, hown, hts, hev, -⟩ := id hF
  have hKn := hev.2.1.1 ci _ hc
  have hBn : gB Γ ≤ H.size := Nat.le_trans hev.2.2.2.2.2.2.2.2.1 h3.1
  refine W.newcK hx hb hown (hts _ hl) (hts _ hi) (hts _ hini) rfl dg (by omega) (by omega) hKn.2.1 rfl fun H1 kC hkC e1 z1 o1 => ?_
  subst h2
  refine kk hBn (fun a e ha => h1.lt ha) p e R s m args below meth c Q hF hE H1 locs (cells + 1) (slots + N) ls (h1.new hBn ⟨_, hc, (u_born ty hts (fun w hw => hin w hw) hKn hkC e1 hty).to hfs⟩ o1) z1 ⟨Nat.le_trans h3.1 (by omega), fun q g1 g2 => (o1 q (Nat.lt_of_lt_of_le g1 h3.1)).trans (h3.2.1 q g1 g2), h3.2.2⟩ h4 (by omega) (by omega)
theorem g_newa {t N : Nat} {atype : ArrayType} {ty : FieldType} {i : Int32} {a0 : vp_A} (ht : (gtys Γ)[t]? = some (gA Γ t, ty)) (hty : newarray.typeOf atype = ty) (hw : Cond.arrayClass ty ∈ wl) (ha : ∀ cA : ClassId, vp_cell cA a0 = arrV cA N (fun _ => defaultValue ty)) (hi0 : ¬ i < 0) (hiN : i.toNatClampNeg = N) (hbytes : N * componentBytes ty ≤ 536870912) (hra : ∀ (U : State) (cA : ClassId), va_RA U cA ty → U.vm.findClass ("[" ++ ty.toString) = some cA) (dg : decode M.2.2.1 pc = .ok (.newarray atype, 2))
    (kk : gB Γ ≤ n → (∀ a e, E a = some e → a < n) → G Γ d M P X (pc + 2) lv (.ref n :: st) (hset E n (.inl (gA Γ t, a0))) (n + 1) kc ks) : G Γ d M P X pc lv (.int i :: st) E n (kc + 1) (ks + N) := by
  subst hty
  intro p e R s m args below meth c Q hF hE H locs cells slots ls h1 h2 h3 h4 h5 h6
  obtain ⟨hx, hb, -, hown, hts, hev, -⟩ := id hF
  have hBn : gB Γ ≤ H.size := Nat.le_trans hev.2.2.2.2.2.2.2.2.1 h3.1
  refine va_newaK hx hb (hts _ hw) rfl dg rfl hi0 hiN hbytes (by omega) (by omega) rfl fun H1 cA e1 z1 o1 hAr hNm => ?_
  have hcA : cA = gA Γ t := Option.some.inj (hNm.symm.trans (hra s _ (hev.2.1.2 t _ ht).2))
  subst hcA
  subst h2
  refine kk hBn (fun a e ha => h1.lt ha) p e R s m args below meth c Q hF hE H1 locs (cells + 1) (slots + N) ls (h1.new hBn (by show H1[H.size]? = some (vp_cell _ _); rw [ha]; exact e1) o1) z1 ⟨Nat.le_trans h3.1 (by omega), fun q g1 g2 => (o1 q (Nat.lt_of_lt_of_le g1 h3.1)).trans (h3.2.1 q g1 g2), h3.2.2⟩ h4 (by omega) (by omega)
theorem g_anew {ix t N : Nat} {C : String} {i : Int32} (ht : (gtys Γ)[t]? = some (gA Γ t, .object C)) (hl : Cond.classLink M.1 ix C ∈ wl) (hao : ∀ (U : State) (H : Heap), Ev Γ U H → va_AO C U) (hi0 : ¬ i < 0) (hiN : i.toNatClampNeg = N) (hbytes : N * 4 ≤ 536870912) (dg : decode M.2.2.1 pc = .ok (.anewarray ix, 3))
    (kk : gB Γ ≤ n → (∀ a e, E a = some e → a < n) → G Γ d M P X (pc + 3) lv (.ref n :: st) (hset E n (.inl (gA Γ t, N, .inr (.inr (.inr (.inr (fun _ => none))))))) (n + 1) kc ks) : G Γ d M P X pc lv (.int i :: st) E n (kc + 1) (ks + N) := by
  subst hiN
  intro p e R s m args below meth c Q hF hE H locs cells slots ls h1 h2 h3 h4 h5 h6
  obtain ⟨hx, hb, -, hown, hts, hev, -⟩ := id hF
  have hBn : gB Γ ≤ H.size := Nat.le_trans hev.2.2.2.2.2.2.2.2.1 h3.1
  refine W.anew hx hb hown (hts _ hl) (va_AO.use (hao s _ hev)) rfl dg rfl hi0 hbytes (by omega) (by omega) fun cA kA comp f1 f2 f3 f4 => ?_
  generalize hH1 : H.push ({ cls := cA, slots := Array.replicate i.toNatClampNeg .null, vm := .none } : Cell) = H1
  have z1 : H1.size = H.size + 1 := by rw [← hH1, Array.size_push]
  have e1 : H1[H.size]? = some (arrV cA i.toNatClampNeg (fun _ => .null)) := by rw [← hH1, Array.getElem?_push_size, ← arrV_new]
  have o1 : ∀ q : Nat, q < H.size → H1[q]? = H[q]? := fun q hq => by rw [← hH1, Array.getElem?_push, if_neg (Nat.ne_of_lt hq)]
  have hcA : cA = gA Γ t := by
    obtain ⟨kA2, comp2, -, -, -, g4⟩ := (hev.2.1.2 t _ ht).2
    exact Option.some.inj (f1.symm.trans g4)
  subst hcA
  subst h2
  refine kk hBn (fun a e ha => h1.lt ha) p e R s m args below meth c Q hF hE H1 locs (cells + 1) (slots + i.toNatClampNeg) ls (h1.new hBn (by show H1[H.size]? = some (vp_cell _ _); rw [vp_cell_q]; exact e1) o1) z1 ⟨Nat.le_trans h3.1 (by omega), fun q g1 g2 => (o1 q (Nat.lt_of_lt_of_le g1 h3.1)).trans (h3.2.1 q g1 g2), h3.2.2⟩ h4 (by omega) (by omega)
end GHEAP
end
section
section GCALL
variable {Γ : Gm} {d : Nat} {M : Mr} {P : Po} {X : Px} {pc : Nat} {lv : List (Nat × Value)} {st rest : List Value} {E : Hp} {n kc ks : Nat}
theorem g_run {p : Program} {e : Env} {R : Room} {s : State} {m : MethodId} {args : Array Value} {below : List Frame} {meth : Method} {c : Code} {H : Heap} {locs : List Loc} {cells slots mc ms : Nat} {Q : State → Prop} {ls : Array Slot} {a : Array Value} {P1 : Po} {X1 : Px}
    (hr : vx_Run p Γ.1 e R s m args below meth c H locs cells slots mc ms (F0 m pc ls st) rest (Qg Γ P1 a) (Xg Γ X1) (AB Γ)) (hS : va_S (AB Γ) s.heap H locs)
    (kx : ∀ (x : String) (E1 : Hp) (n1 : Nat) (H1 : Heap) (locs1 : List Loc) (q : Addr) (ce : Cell), X1 x E1 n1 → HS Γ E1 H1 → n1 ≤ H1.size → va_S (AB Γ) s.heap H1 locs1 → H1[q]? = some ce → ce.vm = .none → s.vm.findClass x = some ce.cls → vx_W p Γ.1 e R s m args below meth c H1 locs1 (cells + mc) (slots + ms) Q (F0 m pc ls rest) q)
    (kk : ∀ (v : Option Value) (E1 : Hp) (n1 : Nat) (H1 : Heap) (locs1 : List Loc), P1 v E1 n1 → HS Γ E1 H1 → H1.size = n1 → va_S (AB Γ) s.heap H1 locs1 → W p Γ.1 e R s m args below meth c H1 locs1 (cells + mc) (slots + ms) Q (F0 m (pc + 3) ls (v.toList ++ rest))) :
    W p Γ.1 e R s m args below meth c H locs cells slots Q (F0 m pc ls st) := by
  intro T hT X9
  rcases hr T hT X9 with ⟨v, st₀, t, T', L, h0, X', hL, e1, e2, ⟨⟨v2, E1, n1, hv, hp, hh, hz⟩, hF⟩, sp⟩ | ⟨q, st₀, t, T', L, x, ce, h0, X', hL, e1, e2, ⟨⟨E1, n1, hp, hh, hz⟩, hF⟩, hce, hcv, hcl, sp⟩
  · cases hv
    obtain ⟨k1, k2, k3⟩ := vx_keep h0 e1 hS (fun q _ h => h) (fun q h => h) hL hF
    obtain ⟨t2, a1, b1⟩ := kk v E1 n1 T'.heap (locs ++ L) hp (by rw [e1]; exact hh) (by rw [e1]; exact hz) k3 T' rfl X'
    exact ⟨t2, sp t2 a1, b1⟩
  · obtain ⟨k1, k2, k3⟩ := vx_keep h0 e1 hS (fun q _ h => h) (fun q h => h) hL hF
    obtain ⟨t2, a1, b1⟩ := kx x E1 n1 T'.heap (locs ++ L) q ce hp (by rw [e1]; exact hh) (by rw [e1]; exact hz) k3 (by rw [e1]; exact hce) hcv hcl T' rfl X'
    exact ⟨t2, sp.trans a1, b1⟩
/-- the receiver is an object of class C: of the world, or a String constant -/
def Rcv (Γ : Gm) (E : Hp) (b : Nat) (C : String) : Prop := (∃ (ci : Nat) (fs : List Value) (T : u_T) (N : Nat), E b = some (.inr (ci, fs)) ∧ vwCl[ci]? = some (C, T, N)) ∨ (C = "java/lang/String" ∧ ∃ i q, gstrs[i]? = some q ∧ b = gK Γ i)
theorem Rcv.of {b ci N : Nat} {fs : List Value} {C : String} {T : u_T} (h : E b = some (.inr (ci, fs))) (hc : vwCl[ci]? = some (C, T, N)) : Rcv Γ E b C := Or.inl ⟨ci, fs, T, N, h, hc⟩
theorem Rcv.use {b : Nat} {C : String} {s : State} {H : Heap} {locs : List Loc} (h : Rcv Γ E b C) (hE : HS Γ E H) (hv : Ev Γ s s.heap) (hS : va_S (AB Γ) s.heap H locs) : ∃ cellB : Cell, H[b]? = some cellB ∧ cellB.vm.isStatics = false ∧ s.vm.findClass C = some cellB.cls := by
  rcases h with ⟨ci, fs, T, N, h1, h2⟩ | ⟨rfl, i, q, h1, rfl⟩
  · exact va_recv hv.2.1 (hE _ _ h1).1.one h2 (q0 := 0) rfl
  · obtain ⟨cell, g1, g2, g3, -⟩ := ((hv.2.2.2.2.1 i q h1).2.1).kept hS.2.1
    exact ⟨cell, g1, g2, g3⟩
def nMH (M1 : Mr) (k : Nat) : Prop := (M1.2.1.cls ≠ "java/lang/invoke/MethodHandle" ∧ M1.2.1.cls ≠ "java/lang/invoke/VarHandle") ∧ (parseMethodDescriptor M1.2.1.desc).map (fun d => d.parameters.length) = some k ∧ M1.2.2.2.1 ≤ 45
def Cd (M1 : Mr) : Cond := Cond.code M1.2.1 M1.2.2.1 M1.2.2.2.1 M1.2.2.2.2
def LkV (own : String) (ix : Nat) (M1 : Mr) (k : Nat) : Prop := Cond.methodLink own ix M1.2.1 ∈ wl ∧ Cond.instanceMethod M1.2.1 ∈ wl ∧ Cond.selects M1.1 M1.2.1 M1.2.1 ∈ wl ∧ Cond.initialized M1.2.1.cls ∈ wl ∧ Cd M1 ∈ wl ∧ nMH M1 k
def LkS (own : String) (ix : Nat) (M1 : Mr) (k : Nat) : Prop := Cond.methodLink own ix M1.2.1 ∈ wl ∧ Cond.static M1.2.1 ∈ wl ∧ Cond.initialized M1.2.1.cls ∈ wl ∧ Cd M1 ∈ wl ∧ nMH M1 k
def LkI (own : String) (ix : Nat) (M1 : Mr) (k : Nat) : Prop := Cond.methodLink own ix M1.2.1 ∈ wl ∧ Cond.instanceMethod M1.2.1 ∈ wl ∧ M1.2.1.name = "<init>" ∧ Cond.initialized M1.2.1.cls ∈ wl ∧ Cd M1 ∈ wl ∧ nMH M1 k ∧ M1.2.2.2.2 = none
def LkIN (own : String) (ix : Nat) (M1 : Mr) (k : Nat) : Prop := (own, ix, M1.2.1, "AccentHouse") ∈ gNl ∧ Cond.instanceMethod M1.2.1 ∈ wl ∧ M1.2.1.name = "<init>" ∧ Cond.initialized M1.2.1.cls ∈ wl ∧ Cd M1 ∈ wl ∧ nMH M1 k ∧ M1.2.2.2.2 = none
/-- a super class's method, by invokespecial -/
def LkU (own : String) (ix : Nat) (M1 : Mr) (k : Nat) : Prop := Cond.methodLink own ix M1.2.1 ∈ wl ∧ Cond.sameMethod M1.2.1.cls M1.2.1.cls M1.2.1.name M1.2.1.desc ∈ wl ∧ Cond.superclass own M1.2.1.cls ∈ wl ∧ Cond.instanceMethod M1.2.1 ∈ wl ∧ Cond.initialized M1.2.1.cls ∈ wl ∧ Cd M1 ∈ wl ∧ M1.2.1.name ≠ "<init>" ∧ nMH M1 k
/-- an inherited method by another class's name: x is named, M1's code runs for an object of class C -/
def LkX (own : String) (ix : Nat) (C owner : String) (x : MethodName) (M1 : Mr) (k : Nat) : Prop := Cond.methodLink own ix x ∈ wl ∧ Cond.sameMethod x.cls owner x.name x.desc ∈ wl ∧ Cond.selects C x M1.2.1 ∈ wl ∧ Cond.instanceMethod M1.2.1 ∈ wl ∧ Cond.initialized M1.2.1.cls ∈ wl ∧ Cd M1 ∈ wl ∧ M1.2.1 = ⟨owner, x.name, x.desc⟩ ∧ (owner ≠ "java/lang/invoke/MethodHandle" ∧ owner ≠ "java/lang/invoke/VarHandle") ∧ (parseMethodDescriptor x.desc).map (fun d => d.parameters.length) = some k ∧ M1.2.2.2.1 ≤ 45
theorem nMH.len {M1 : Mr} {k : Nat} (h : (parseMethodDescriptor M1.2.1.desc).map (fun d => d.parameters.length) = some k) : ∀ sig, parseMethodDescriptor M1.2.1.desc = some sig → k = sig.parameters.length := fun sig hs => by
  rw [hs] at h
  exact (Option.some.inj h).symm
theorem g_pre {s : State} {H : Heap} {locs : List Loc} {av : List Value} (h1 : HS Γ E H) (h2 : H.size = n) (hv : Ev Γ s s.heap) (h3 : va_S (AB Γ) s.heap H locs) : ∀ U : State, U.heap = H → s.WarmedH U.vm → Pg Γ av E n av.toArray U := fun U hU hW => ⟨rfl, by rw [hU]; exact h1, by rw [hU]; exact h2, by rw [hU]; exact (hv.kept h3.1 h3.2.1).warm hW⟩
variable {M1 : Mr} {d1 mc ms ix k : Nat} {b : Nat} {As : List Value} {P1 : Po} {X1 : Px}
theorem g_invV (hC : Ct Γ d1 M1 mc ms (.ref b :: As) E n P1 X1) (lk : LkV M.1 ix M1 k) (hk : As.length = k) (hr : Rcv Γ E b M1.1) (hd : d1 + 1 ≤ d) (hrest : (rest.map fun v => v.category).sum ≤ 8) (hst : st = As.reverse ++ .ref b :: rest) (dg : decode M.2.2.1 pc = .ok (.invokevirtual ix, 3)) (hX : ∀ x E1 n1, X1 x E1 n1 → X x E1 n1)
    (kk : ∀ v E1 n1, P1 v E1 n1 → G Γ d M P X (pc + 3) lv (v.toList ++ rest) E1 n1 kc ks) : G Γ d M P X pc lv st E n (kc + mc) (ks + ms) := by
  intro p e R s m args below meth c Q hF hE H locs cells slots ls h1 h2 h3 h4 h5 h6
  obtain ⟨hx, hb, hml, hown, hts, hev, hdR, hlR, -⟩ := id hF
  obtain ⟨w1, w2, w3, w4, w5, ⟨m1, m2, m3⟩⟩ := lk
  refine g_run (vx_runV (n := k) ⟨hx, hb, hml, hown, hts⟩ hC ⟨⟨rfl, rfl, by show d1 + 1 ≤ R.frames; omega, by show 8 + (M1.2.2.2.1 + 11) + 64 * d1 ≤ R.locals; omega, pay_in hts (wl_cons w5), List.mem_cons_self, hts _ w5, hts _ w4, m1, nMH.len m2, hts _ w1⟩, hts _ w2, hts _ w3⟩ ⟨Pg.blind, hr.use h1 hev h3, g_pre h1 h2 hev h3⟩ rfl hk h4.1 hst (by show 2 * 0 + _ ≤ 8; omega) dg ⟨by omega, by omega⟩) h3 (fun x E1 n1 H1 locs1 q ce a1 a2 a3 a4 a5 a6 a7 => hE.2.2 x E1 n1 H1 locs1 _ _ pc ls rest q ce (hX _ _ _ a1) a2 a3 a4 (by omega) (by omega) a5 a6 a7) (fun v E1 n1 H1 locs1 a1 a2 a3 a4 => kk v E1 n1 a1 p e R s m args below meth c Q hF hE H1 locs1 _ _ ls a2 a3 a4 h4 (by omega) (by omega))
theorem g_invS (hC : Ct Γ d1 M1 mc ms As E n P1 X1) (lk : LkS M.1 ix M1 k) (hk : As.length = k) (hd : d1 + 1 ≤ d) (hrest : (rest.map fun v => v.category).sum ≤ 8) (hst : st = As.reverse ++ rest) (dg : decode M.2.2.1 pc = .ok (.invokestatic ix, 3)) (hX : ∀ x E1 n1, X1 x E1 n1 → X x E1 n1)
    (kk : ∀ v E1 n1, P1 v E1 n1 → G Γ d M P X (pc + 3) lv (v.toList ++ rest) E1 n1 kc ks) : G Γ d M P X pc lv st E n (kc + mc) (ks + ms) := by
  intro p e R s m args below meth c Q hF hE H locs cells slots ls h1 h2 h3 h4 h5 h6
  obtain ⟨hx, hb, hml, hown, hts, hev, hdR, hlR, -⟩ := id hF
  obtain ⟨w1, w2, w4, w5, ⟨m1, m2, m3⟩⟩ := lk
  refine g_run (vx_runS (n := k) ⟨hx, hb, hml, hown, hts⟩ hC ⟨⟨rfl, rfl, by show d1 + 1 ≤ R.frames; omega, by show 8 + (M1.2.2.2.1 + 11) + 64 * d1 ≤ R.locals; omega, pay_in hts (wl_cons w5), List.mem_cons_self, hts _ w5, hts _ w4, m1, nMH.len m2, hts _ w1⟩, hts _ w2⟩ ⟨Pg.blind, g_pre h1 h2 hev h3⟩ rfl hk h4.1 hst (by show 2 * 0 + _ ≤ 8; omega) dg ⟨by omega, by omega⟩) h3 (fun x E1 n1 H1 locs1 q ce a1 a2 a3 a4 a5 a6 a7 => hE.2.2 x E1 n1 H1 locs1 _ _ pc ls rest q ce (hX _ _ _ a1) a2 a3 a4 (by omega) (by omega) a5 a6 a7) (fun v E1 n1 H1 locs1 a1 a2 a3 a4 => kk v E1 n1 a1 p e R s m args below meth c Q hF hE H1 locs1 _ _ ls a2 a3 a4 h4 (by omega) (by omega))
theorem g_invI (hC : Ct Γ d1 M1 mc ms (.ref b :: As) E n P1 X1) (lk : LkI M.1 ix M1 k) (hk : As.length = k) (hd : d1 + 1 ≤ d) (hrest : (rest.map fun v => v.category).sum ≤ 8) (hst : st = As.reverse ++ .ref b :: rest) (dg : decode M.2.2.1 pc = .ok (.invokespecial ix, 3)) (hX : ∀ x E1 n1, X1 x E1 n1 → X x E1 n1)
    (kk : ∀ v E1 n1, P1 v E1 n1 → G Γ d M P X (pc + 3) lv (v.toList ++ rest) E1 n1 kc ks) : G Γ d M P X pc lv st E n (kc + mc) (ks + ms) := by
  intro p e R s m args below meth c Q hF hE H locs cells slots ls h1 h2 h3 h4 h5 h6
  obtain ⟨hx, hb, hml, hown, hts, hev, hdR, hlR, -⟩ := id hF
  obtain ⟨w1, w2, w3, w4, w5, ⟨m1, m2, m3⟩, m4⟩ := lk
  have hC2 := hC
  unfold Ct at hC2
  unfold Cd at w5
  rw [m4] at hC2 w5
  refine g_run (vx_runI (n := k) ⟨hx, hb, hml, hown, hts⟩ hC2 ⟨⟨rfl, rfl, by show d1 + 1 ≤ R.frames; omega, by show 8 + (M1.2.2.2.1 + 11) + 64 * d1 ≤ R.locals; omega, pay_in hts (wl_cons w5), List.mem_cons_self, hts _ w5, hts _ w4, m1, nMH.len m2, hts _ w1⟩, w3, hts _ w2⟩ ⟨Pg.blind, g_pre h1 h2 hev h3⟩ rfl hk h4.1 hst (by show 2 * 0 + _ ≤ 8; omega) dg ⟨by omega, by omega⟩) h3 (fun x E1 n1 H1 locs1 q ce a1 a2 a3 a4 a5 a6 a7 => hE.2.2 x E1 n1 H1 locs1 _ _ pc ls rest q ce (hX _ _ _ a1) a2 a3 a4 (by omega) (by omega) a5 a6 a7) (fun v E1 n1 H1 locs1 a1 a2 a3 a4 => kk v E1 n1 a1 p e R s m args below meth c Q hF hE H1 locs1 _ _ ls a2 a3 a4 h4 (by omega) (by omega))
theorem g_invIN (hC : Ct Γ d1 M1 mc ms (.ref b :: As) E n P1 X1) (lk : LkIN M.1 ix M1 k) (hk : As.length = k) (hd : d1 + 1 ≤ d) (hrest : (rest.map fun v => v.category).sum ≤ 8) (hst : st = As.reverse ++ .ref b :: rest) (dg : decode M.2.2.1 pc = .ok (.invokespecial ix, 3)) (hX : ∀ x E1 n1, X1 x E1 n1 → X x E1 n1)
    (kk : ∀ v E1 n1, P1 v E1 n1 → G Γ d M P X (pc + 3) lv (v.toList ++ rest) E1 n1 kc ks) : G Γ d M P X pc lv st E n (kc + mc) (ks + ms) := by
  intro p e R s m args below meth c Q hF hE H locs cells slots ls h1 h2 h3 h4 h5 h6
  obtain ⟨hx, hb, hml, hown, hts, hev, hdR, hlR, -⟩ := id hF
  obtain ⟨w1, w2, w3, w4, w5, ⟨m1, m2, m3⟩, m4⟩ := lk
  have hC2 := hC
  unfold Ct at hC2
  unfold Cd at w5
  rw [m4] at hC2 w5
  refine g_run (vx_runIN (n := k) (host := "AccentHouse") ⟨hx, hb, hml, hown, hts⟩ hC2 ⟨⟨⟨rfl, rfl, by show d1 + 1 ≤ R.frames; omega, by show 8 + (M1.2.2.2.1 + 11) + 64 * d1 ≤ R.locals; omega, pay_in hts (wl_cons w5), List.mem_cons_self⟩, hts _ w5, hts _ w4, m1, nMH.len m2, va_Nw.use rfl (hev.2.2.2.2.2.1 _ w1)⟩, w3, hts _ w2⟩ ⟨Pg.blind, g_pre h1 h2 hev h3⟩ rfl hk h4.1 hst (by show 2 * 0 + _ ≤ 8; omega) dg ⟨by omega, by omega⟩) h3 (fun x E1 n1 H1 locs1 q ce a1 a2 a3 a4 a5 a6 a7 => hE.2.2 x E1 n1 H1 locs1 _ _ pc ls rest q ce (hX _ _ _ a1) a2 a3 a4 (by omega) (by omega) a5 a6 a7) (fun v E1 n1 H1 locs1 a1 a2 a3 a4 => kk v E1 n1 a1 p e R s m args below meth c Q hF hE H1 locs1 _ _ ls a2 a3 a4 h4 (by omega) (by omega))
/-- Object.<init> -/
theorem g_objInit {a : Nat} (hl : Cond.methodLink M.1 ix objectInit ∈ wl) (hi : Cond.instanceMethod objectInit ∈ wl) (hc : Cond.code objectInit ⟨#[0xb1]⟩ 1 none ∈ wl) (hd : 1 ≤ d) (hrest : (rest.map fun v => v.category).sum ≤ 8) (dg : decode M.2.2.1 pc = .ok (.invokespecial ix, 3)) (kk : G Γ d M P X (pc + 3) lv rest E n kc ks) : G Γ d M P X pc lv (.ref a :: rest) E n kc ks :=
  G.goF (fun hF _ _ _ h k => W.objInit hF.1 hF.2.1 hF.2.2.2.1 (hF.2.2.2.2.1 _ hl) (hF.2.2.2.2.1 _ hi) (hF.2.2.2.2.1 _ hc) rfl (by rw [hF.2.2.1]; exact h.1) rfl dg (Nat.le_trans hd hF.2.2.2.2.2.2.1) (by have := hF.2.2.2.2.2.2.2.1; show 2 * 0 + _ + 12 ≤ _; omega) k) kk
/-- the end with a value -/
theorem g_ret {v : Option Value} (hp : P v E n) (hr : RetOp M pc v) (hst : st = v.toList) : G Γ d M P X pc lv st E n kc ks := by
  subst hst
  intro p e R s m args below meth c Q hF hE H locs cells slots ls h1 h2 h3 h4 h5 h6
  exact hE.1 v E n H locs cells slots pc ls hp h1 h2 h3 (by omega) (by omega) hr
/-- throw new x("..") -/
theorem g_throw {x : String} (hp : X x E n) (hr : ThrOp d M pc x) (hst : (st.map fun v => v.category).sum ≤ 8) (hc : 1 ≤ kc) (hs : 6 ≤ ks) : G Γ d M P X pc lv st E n kc ks := by
  intro p e R s m args below meth c Q hF hE H locs cells slots ls h1 h2 h3 h4 h5 h6
  exact hE.2.1 x E n H locs cells slots pc ls st hp h1 h2 h3 (by omega) (by omega) hr h4.1 hst
set_option maxHeartbeats 1000000 in
/-- a body's walk gives its contract -/
theorem Ct.of {av : List Value} (hy : plainName M.2.1.cls = true) (hM : M.1 = M.2.1.cls) (hlen : (lg_sl av).length ≤ M.2.2.2.1) (h : G Γ d M P X 0 (lv_args 0 av) [] E n mc ms) : Ct Γ d M mc ms av E n P X := by
  refine vx_ofW hy rfl ?_
  intro p e s m args below meth c s₁ B hml ht hv
  obtain ⟨rfl, h1, h2, hev⟩ := hv
  have hts0 := atoms_spec (ws := Cond.code M.2.1 M.2.2.1 M.2.2.2.1 M.2.2.2.2 :: wl) B.pre
  have hts : ∀ w ∈ wl, w.before av.toArray s = true := fun w hw => hts0 w (List.mem_cons_of_mem _ hw)
  have hown : s.vm.findClass M.1 = some m.cls := by rw [hM]; exact findClass_of_methodNamed B.named
  have hlocks := B.notSynchronized
  have hname : meth.name = M.2.1.name := (name_of_methodNamed B.named B.method).1
  have hl := lv_entry av (n := M.2.2.2.1) hlen
  rw [lg_entry_eq]
  have hF : Fr Γ d M p (headSpec (Cond.code M.2.1 M.2.2.1 M.2.2.2.1 M.2.2.2.2 :: wl) (rmG d mc ms)).room s m av.toArray meth c := ⟨B.exec, B.bytes, hml, hown, hts, hev, Nat.le_refl _, Nat.le_refl _, fun h9 => hname.trans h9⟩
  refine h p e _ s m av.toArray below meth c _ hF ⟨?_, ?_, ?_⟩ s.heap [] 0 0 _ h1 h2 va_S.rf hl (Nat.le_of_eq (Nat.zero_add _)) (Nat.le_of_eq (Nat.zero_add _))
  · intro v E1 n1 H locs cells slots pc1 ls hp g1 g2 g3 g4 g5 hr
    have hq : ∀ t : State, t.heap = H → s.WarmedH t.vm → Qg Γ P av.toArray s (.returned v) t := fun t ht _ => ⟨⟨v, E1, n1, rfl, hp, by rw [ht]; exact g1, by rw [ht]; exact g2⟩, g3.toF ht⟩
    refine vx_ret ?_
    refine W.widen (k := mc) (n := ms) g4 g5 ?_
    rcases v with _ | v
    · exact W.vret B.exec B.bytes (B.returns.trans hr.2) hq g3.2.2 hr.1
    · cases v with
      | int x => obtain ⟨r1, ty, r2, r3⟩ := hr; exact W.zret B.exec B.bytes (B.returns.trans r2) r3 hq g3.2.2 r1
      | ref a => obtain ⟨r1, nm, r2⟩ := hr; exact W.aret B.exec B.bytes (B.returns.trans r2) (Or.inl ⟨nm, rfl⟩) (Or.inr ⟨a, rfl⟩) hq g3.2.2 r1
      | null => obtain ⟨r1, nm, r2⟩ := hr; exact W.aret B.exec B.bytes (B.returns.trans r2) (Or.inl ⟨nm, rfl⟩) (Or.inl rfl) hq g3.2.2 r1
      | float x => exact W.fret B.exec B.bytes (B.returns.trans hr.2) hq g3.2.2 hr.1
      | double x => exact W.dret B.exec B.bytes (B.returns.trans hr.2) hq g3.2.2 hr.1
      | _ => exact hr.elim
  · intro x E1 n1 H locs cells slots pc1 ls st1 hp g1 g2 g3 g4 g5 hr hsz hst
    obtain ⟨ik, is, ic, i, text, names, bs, r1, r2, r3, r4, r5, r6, r7, d0, d3, d4, d6, d9, hn3, hd7⟩ := hr
    have hstr := (hev.2.2.2.2.1 i _ r7).1
    refine vx_throwS (sa := gK Γ i) (text := text) (names := names) B.exec B.bytes hev.1 hown r1 r2 (hts _ r3) (hts _ r4) hstr (fun w hw => hts w (r5 w hw)) r6 hev.2.2.2.1.1 hev.2.2.2.1.2 g3 (hsz.trans hml.symm) d0 d3 d4 d6 d9 (fun x hx => (ht x hx).elim) (by show names.length + 3 < d; omega) (by show _ ≤ 64 * d; omega) g4 g5 hlocks ?_ g3.2.2 g4 g5
    intro t hvm hz hk
    refine ⟨⟨E1, n1, hp, fun a e9 he => ⟨(g1 a e9 he).1.kept (hk a (g1.lt he)), (g1 a e9 he).2⟩, by omega⟩, ⟨Nat.le_trans g3.1 hz, fun q q1 q2 => (hk q (Nat.lt_of_lt_of_le q1 g3.1)).trans (g3.2.1 q q1 q2)⟩⟩
  · intro x E1 n1 H locs cells slots pc1 ls st1 q ce hp g1 g2 g3 g4 g5 h9 h10 h11
    exact vx_out (fun x hx => (ht x hx).elim) hlocks h9 h10 h11 (fun t ht9 _ => ⟨⟨E1, n1, hp, by rw [ht9]; exact g1, by rw [ht9]; exact g2⟩, g3.toF ht9⟩) g3.2.2 g4 g5
theorem g_invU (hC : Ct Γ d1 M1 mc ms (.ref b :: As) E n P1 X1) (lk : LkU M.1 ix M1 k) (hk : As.length = k) {ci N : Nat} {C : String} {T : u_T} {fs : List Value} (hb9 : E b = some (.inr (ci, fs))) (hc9 : vwCl[ci]? = some (C, T, N)) (hd : d1 + 1 ≤ d) (hrest : (rest.map fun v => v.category).sum ≤ 8) (hst : st = As.reverse ++ .ref b :: rest) (dg : decode M.2.2.1 pc = .ok (.invokespecial ix, 3)) (hX : ∀ x E1 n1, X1 x E1 n1 → X x E1 n1)
    (kk : ∀ v E1 n1, P1 v E1 n1 → G Γ d M P X (pc + 3) lv (v.toList ++ rest) E1 n1 kc ks) : G Γ d M P X pc lv st E n (kc + mc) (ks + ms) := by
  intro p e R s m args below meth c Q hF hE H locs cells slots ls h1 h2 h3 h4 h5 h6
  obtain ⟨hx, hb, hml, hown, hts, hev, hdR, hlR, -⟩ := id hF
  obtain ⟨w1, w2, w3, w6, w4, w5, m4, ⟨m1, m2, m3⟩⟩ := lk
  have hr : Rcv Γ E b C := Or.inl ⟨ci, fs, T, N, hb9, hc9⟩
  refine g_run (vx_runSU (n := k) (C := C) (cC := (gD Γ).1 ci) (hev.2.1.1 ci _ hc9).2 ⟨hx, hb, hml, hown, hts⟩ hC ⟨⟨rfl, rfl, by show d1 + 1 ≤ R.frames; omega, by show 8 + (M1.2.2.2.1 + 11) + 64 * d1 ≤ R.locals; omega, pay_in hts (wl_cons w5), List.mem_cons_self⟩, hts _ w1, hts _ w2, hts _ w3, hts _ w6, hts _ w4, hts _ w5, m4, nMH.len m2⟩ ⟨Pg.blind, hr.use h1 hev h3, g_pre h1 h2 hev h3⟩ rfl hk h4.1 hst (by show 2 * 0 + _ ≤ 8; omega) dg ⟨by omega, by omega⟩) h3 (fun x E1 n1 H1 locs1 q ce a1 a2 a3 a4 a5 a6 a7 => hE.2.2 x E1 n1 H1 locs1 _ _ pc ls rest q ce (hX _ _ _ a1) a2 a3 a4 (by omega) (by omega) a5 a6 a7) (fun v E1 n1 H1 locs1 a1 a2 a3 a4 => kk v E1 n1 a1 p e R s m args below meth c Q hF hE H1 locs1 _ _ ls a2 a3 a4 h4 (by omega) (by omega))
theorem g_invX {C owner : String} {x : MethodName} (hC : Ct Γ d1 M1 mc ms (.ref b :: As) E n P1 X1) (lk : LkX M.1 ix C owner x M1 k) (hk : As.length = k) (hr : Rcv Γ E b C) (hd : d1 + 1 ≤ d) (hrest : (rest.map fun v => v.category).sum ≤ 8) (hst : st = As.reverse ++ .ref b :: rest) (dg : decode M.2.2.1 pc = .ok (.invokevirtual ix, 3)) (hX : ∀ x E1 n1, X1 x E1 n1 → X x E1 n1)
    (kk : ∀ v E1 n1, P1 v E1 n1 → G Γ d M P X (pc + 3) lv (v.toList ++ rest) E1 n1 kc ks) : G Γ d M P X pc lv st E n (kc + mc) (ks + ms) := by
  intro p e R s m args below meth c Q hF hE H locs cells slots ls h1 h2 h3 h4 h5 h6
  obtain ⟨hx, hb, hml, hown, hts, hev, hdR, hlR, -⟩ := id hF
  obtain ⟨w1, w2, w3, w6, w4, w5, m4, m1, m2, m3⟩ := lk
  refine g_run (vx_runU (n := k) (C := C) (owner := owner) (x := x) ⟨hx, hb, hml, hown, hts⟩ hC ⟨⟨rfl, rfl, by show d1 + 1 ≤ R.frames; omega, by show 8 + (M1.2.2.2.1 + 11) + 64 * d1 ≤ R.locals; omega, pay_in hts (wl_cons w5), List.mem_cons_self⟩, hts _ w5, hts _ w4, m1, (fun sig hs => by rw [hs] at m2; exact (Option.some.inj m2).symm), hts _ w1, hts _ w2, by rw [← m4]; exact va_Decl.of (hts _ w6) (hts _ w5), hts _ w3, hts _ w6⟩ ⟨Pg.blind, hr.use h1 hev h3, g_pre h1 h2 hev h3⟩ rfl hk h4.1 hst (by show 2 * 0 + _ ≤ 8; omega) dg ⟨by omega, by omega⟩) h3 (fun x E1 n1 H1 locs1 q ce a1 a2 a3 a4 a5 a6 a7 => hE.2.2 x E1 n1 H1 locs1 _ _ pc ls rest q ce (hX _ _ _ a1) a2 a3 a4 (by omega) (by omega) a5 a6 a7) (fun v E1 n1 H1 locs1 a1 a2 a3 a4 => kk v E1 n1 a1 p e R s m args below meth c Q hF hE H1 locs1 _ _ ls a2 a3 a4 h4 (by omega) (by omega))
theorem G.weak {P2 : Po} {X2 : Px} (h : G Γ d M P X pc lv st E n kc ks) (hP : ∀ v E1 n1, P v E1 n1 → P2 v E1 n1) (hX : ∀ x E1 n1, X x E1 n1 → X2 x E1 n1) : G Γ d M P2 X2 pc lv st E n kc ks := fun p e R s m args below meth c Q hF hE => h p e R s m args below meth c Q hF ⟨fun v E1 n1 H locs cells slots pc ls a => hE.1 v E1 n1 H locs cells slots pc ls (hP _ _ _ a), fun x E1 n1 H locs cells slots pc ls st a => hE.2.1 x E1 n1 H locs cells slots pc ls st (hX _ _ _ a), fun x E1 n1 H locs cells slots pc ls st q ce a => hE.2.2 x E1 n1 H locs cells slots pc ls st q ce (hX _ _ _ a)⟩
end GCALL
end
section
section GLINK
theorem uws_of {C : String} {T : u_T} {N : Nat} (h : ∀ k, k < N → u_lay C T k ∈ wl) : ∀ w ∈ u_ws C T N, w ∈ wl := fun w hw => by
  obtain ⟨k, hk, rfl⟩ := List.mem_map.mp hw
  exact h k (List.mem_range.mp hk)
theorem u_J0 : ∀ w ∈ u_ws RJ0 TJ0 4, w ∈ wl := uws_of (lt_s (lt_s (lt_s (lt_s lt_0 (wl_in 675 (by decide +kernel) rfl)) (wl_in 677 (by decide +kernel) rfl)) (wl_in 679 (by decide +kernel) rfl)) (wl_in 681 (by decide +kernel) rfl))
theorem w_J0_0 : Fw 0 0 (.array .byte) true := ⟨RJ0, TJ0, 4, rfl, rfl, rfl, by decide +kernel, ⟨tyJ0, tyJ0_ok⟩, nmJ0⟩
theorem w_J0_1 : Fw 0 1 .byte true := ⟨RJ0, TJ0, 4, rfl, rfl, rfl, by decide +kernel, ⟨tyJ0, tyJ0_ok⟩, nmJ0⟩
theorem w_J0_2 : Fw 0 2 .int false := ⟨RJ0, TJ0, 4, rfl, rfl, rfl, by decide +kernel, ⟨tyJ0, tyJ0_ok⟩, nmJ0⟩
theorem w_J0_3 : Fw 0 3 .boolean false := ⟨RJ0, TJ0, 4, rfl, rfl, rfl, by decide +kernel, ⟨tyJ0, tyJ0_ok⟩, nmJ0⟩
theorem u_J4 : ∀ w ∈ u_ws RJ4 TJ4 4, w ∈ wl := uws_of (lt_s (lt_s (lt_s (lt_s lt_0 (wl_in 61 (by decide +kernel) rfl)) (wl_in 63 (by decide +kernel) rfl)) (wl_in 65 (by decide +kernel) rfl)) (wl_in 67 (by decide +kernel) rfl))
-- w_J4_0: inherited
-- w_J4_1: inherited
-- w_J4_2: inherited
-- w_J4_3: inherited
theorem u_Jx00060 : ∀ w ∈ u_ws RJx00060 TJx00060 6, w ∈ wl := uws_of (lt_s (lt_s (lt_s (lt_s (lt_s (lt_s lt_0 (wl_in 713 (by decide +kernel) rfl)) (wl_in 714 (by decide +kernel) rfl)) (wl_in 715 (by decide +kernel) rfl)) (wl_in 716 (by decide +kernel) rfl)) (wl_in 717 (by decide +kernel) rfl)) (wl_in 728 (by decide +kernel) rfl))
-- w_Jx00060_0: inherited
-- w_Jx00060_1: inherited
-- w_Jx00060_2: inherited
-- w_Jx00060_3: inherited
-- w_Jx00060_4: inherited
-- w_Jx00060_5: inherited
theorem u_Jx7c733 : ∀ w ∈ u_ws RJx7c733 TJx7c733 6, w ∈ wl := uws_of (lt_s (lt_s (lt_s (lt_s (lt_s (lt_s lt_0 (wl_in 688 (by decide +kernel) rfl)) (wl_in 689 (by decide +kernel) rfl)) (wl_in 690 (by decide +kernel) rfl)) (wl_in 691 (by decide +kernel) rfl)) (wl_in 692 (by decide +kernel) rfl)) (wl_in 693 (by decide +kernel) rfl))
-- w_Jx7c733_0: inherited
-- w_Jx7c733_1: inherited
-- w_Jx7c733_2: inherited
-- w_Jx7c733_3: inherited
-- w_Jx7c733_4: inherited
-- w_Jx7c733_5: inherited
theorem u_X0 : ∀ w ∈ u_ws RX0 TX0 1, w ∈ wl := uws_of (lt_s lt_0 (wl_in 92 (by decide +kernel) rfl))
theorem w_X0_0 : Fw 4 0 (.array .int) true := ⟨RX0, TX0, 1, rfl, rfl, rfl, by decide +kernel, ⟨tyX0, tyX0_ok⟩, nmX0⟩
theorem u_X1 : ∀ w ∈ u_ws RX1 TX1 3, w ∈ wl := uws_of (lt_s (lt_s (lt_s lt_0 (wl_in 257 (by decide +kernel) rfl)) (wl_in 259 (by decide +kernel) rfl)) (wl_in 261 (by decide +kernel) rfl))
theorem w_X1_0 : Fw 5 0 (.array (.object "AccentHouse$House")) true := ⟨RX1, TX1, 3, rfl, rfl, rfl, by decide +kernel, ⟨tyX1, tyX1_ok⟩, nmX1⟩
theorem w_X1_1 : Fw 5 1 .int false := ⟨RX1, TX1, 3, rfl, rfl, rfl, by decide +kernel, ⟨tyX1, tyX1_ok⟩, nmX1⟩
theorem w_X1_2 : Fw 5 2 .int false := ⟨RX1, TX1, 3, rfl, rfl, rfl, by decide +kernel, ⟨tyX1, tyX1_ok⟩, nmX1⟩
theorem u_X2 : ∀ w ∈ u_ws RX2 TX2 11, w ∈ wl := uws_of (lt_s (lt_s (lt_s (lt_s (lt_s (lt_s (lt_s (lt_s (lt_s (lt_s (lt_s lt_0 (wl_in 168 (by decide +kernel) rfl)) (wl_in 170 (by decide +kernel) rfl)) (wl_in 172 (by decide +kernel) rfl)) (wl_in 174 (by decide +kernel) rfl)) (wl_in 176 (by decide +kernel) rfl)) (wl_in 178 (by decide +kernel) rfl)) (wl_in 180 (by decide +kernel) rfl)) (wl_in 182 (by decide +kernel) rfl)) (wl_in 184 (by decide +kernel) rfl)) (wl_in 186 (by decide +kernel) rfl)) (wl_in 188 (by decide +kernel) rfl))
theorem w_X2_0 : Fw 6 0 .int false := ⟨RX2, TX2, 11, rfl, rfl, rfl, by decide +kernel, ⟨tyX2, tyX2_ok⟩, nmX2⟩
theorem w_X2_1 : Fw 6 1 .int false := ⟨RX2, TX2, 11, rfl, rfl, rfl, by decide +kernel, ⟨tyX2, tyX2_ok⟩, nmX2⟩
theorem w_X2_2 : Fw 6 2 .int false := ⟨RX2, TX2, 11, rfl, rfl, rfl, by decide +kernel, ⟨tyX2, tyX2_ok⟩, nmX2⟩
theorem w_X2_3 : Fw 6 3 .int false := ⟨RX2, TX2, 11, rfl, rfl, rfl, by decide +kernel, ⟨tyX2, tyX2_ok⟩, nmX2⟩
theorem w_X2_4 : Fw 6 4 .int false := ⟨RX2, TX2, 11, rfl, rfl, rfl, by decide +kernel, ⟨tyX2, tyX2_ok⟩, nmX2⟩
theorem w_X2_5 : Fw 6 5 .int false := ⟨RX2, TX2, 11, rfl, rfl, rfl, by decide +kernel, ⟨tyX2, tyX2_ok⟩, nmX2⟩
theorem w_X2_6 : Fw 6 6 .int false := ⟨RX2, TX2, 11, rfl, rfl, rfl, by decide +kernel, ⟨tyX2, tyX2_ok⟩, nmX2⟩
theorem w_X2_7 : Fw 6 7 .int false := ⟨RX2, TX2, 11, rfl, rfl, rfl, by decide +kernel, ⟨tyX2, tyX2_ok⟩, nmX2⟩
theorem w_X2_8 : Fw 6 8 (.object "AccentHouse$Accent") true := ⟨RX2, TX2, 11, rfl, rfl, rfl, by decide +kernel, ⟨tyX2, tyX2_ok⟩, nmX2⟩
theorem w_X2_9 : Fw 6 9 (.array (.object "AccentHouse$Lodger")) true := ⟨RX2, TX2, 11, rfl, rfl, rfl, by decide +kernel, ⟨tyX2, tyX2_ok⟩, nmX2⟩
theorem w_X2_10 : Fw 6 10 (.object "AccentHouse$Accent") true := ⟨RX2, TX2, 11, rfl, rfl, rfl, by decide +kernel, ⟨tyX2, tyX2_ok⟩, nmX2⟩
theorem u_X3 : ∀ w ∈ u_ws RX3 TX3 7, w ∈ wl := uws_of (lt_s (lt_s (lt_s (lt_s (lt_s (lt_s (lt_s lt_0 (wl_in 128 (by decide +kernel) rfl)) (wl_in 130 (by decide +kernel) rfl)) (wl_in 132 (by decide +kernel) rfl)) (wl_in 134 (by decide +kernel) rfl)) (wl_in 136 (by decide +kernel) rfl)) (wl_in 138 (by decide +kernel) rfl)) (wl_in 140 (by decide +kernel) rfl))
theorem w_X3_0 : Fw 7 0 (.object "java/lang/String") false := ⟨RX3, TX3, 7, rfl, rfl, rfl, by decide +kernel, ⟨tyX3, tyX3_ok⟩, nmX3⟩
theorem w_X3_1 : Fw 7 1 .int false := ⟨RX3, TX3, 7, rfl, rfl, rfl, by decide +kernel, ⟨tyX3, tyX3_ok⟩, nmX3⟩
theorem w_X3_2 : Fw 7 2 .int false := ⟨RX3, TX3, 7, rfl, rfl, rfl, by decide +kernel, ⟨tyX3, tyX3_ok⟩, nmX3⟩
theorem w_X3_3 : Fw 7 3 .int false := ⟨RX3, TX3, 7, rfl, rfl, rfl, by decide +kernel, ⟨tyX3, tyX3_ok⟩, nmX3⟩
theorem w_X3_4 : Fw 7 4 .int false := ⟨RX3, TX3, 7, rfl, rfl, rfl, by decide +kernel, ⟨tyX3, tyX3_ok⟩, nmX3⟩
theorem w_X3_5 : Fw 7 5 .int false := ⟨RX3, TX3, 7, rfl, rfl, rfl, by decide +kernel, ⟨tyX3, tyX3_ok⟩, nmX3⟩
theorem w_X3_6 : Fw 7 6 (.object "AccentHouse$Accent") true := ⟨RX3, TX3, 7, rfl, rfl, rfl, by decide +kernel, ⟨tyX3, tyX3_ok⟩, nmX3⟩
theorem u_X4 : ∀ w ∈ u_ws RX4 TX4 5, w ∈ wl := uws_of (lt_s (lt_s (lt_s (lt_s (lt_s lt_0 (wl_in 231 (by decide +kernel) rfl)) (wl_in 233 (by decide +kernel) rfl)) (wl_in 235 (by decide +kernel) rfl)) (wl_in 237 (by decide +kernel) rfl)) (wl_in 239 (by decide +kernel) rfl))
theorem w_X4_0 : Fw 8 0 (.array .byte) true := ⟨RX4, TX4, 5, rfl, rfl, rfl, by decide +kernel, ⟨tyX4, tyX4_ok⟩, nmX4⟩
theorem w_X4_1 : Fw 8 1 (.object "AccentHouse$Tokens") true := ⟨RX4, TX4, 5, rfl, rfl, rfl, by decide +kernel, ⟨tyX4, tyX4_ok⟩, nmX4⟩
theorem w_X4_2 : Fw 8 2 (.object "AccentHouse$House") true := ⟨RX4, TX4, 5, rfl, rfl, rfl, by decide +kernel, ⟨tyX4, tyX4_ok⟩, nmX4⟩
theorem w_X4_3 : Fw 8 3 .int false := ⟨RX4, TX4, 5, rfl, rfl, rfl, by decide +kernel, ⟨tyX4, tyX4_ok⟩, nmX4⟩
theorem w_X4_4 : Fw 8 4 .int false := ⟨RX4, TX4, 5, rfl, rfl, rfl, by decide +kernel, ⟨tyX4, tyX4_ok⟩, nmX4⟩
theorem u_X6 : ∀ w ∈ u_ws RX6 TX6 6, w ∈ wl := uws_of (lt_s (lt_s (lt_s (lt_s (lt_s (lt_s lt_0 (wl_in 210 (by decide +kernel) rfl)) (wl_in 212 (by decide +kernel) rfl)) (wl_in 214 (by decide +kernel) rfl)) (wl_in 216 (by decide +kernel) rfl)) (wl_in 218 (by decide +kernel) rfl)) (wl_in 220 (by decide +kernel) rfl))
theorem w_X6_0 : Fw 9 0 (.array .byte) true := ⟨RX6, TX6, 6, rfl, rfl, rfl, by decide +kernel, ⟨tyX6, tyX6_ok⟩, nmX6⟩
theorem w_X6_1 : Fw 9 1 (.object "java/lang/StringBuilder") true := ⟨RX6, TX6, 6, rfl, rfl, rfl, by decide +kernel, ⟨tyX6, tyX6_ok⟩, nmX6⟩
theorem w_X6_2 : Fw 9 2 .int false := ⟨RX6, TX6, 6, rfl, rfl, rfl, by decide +kernel, ⟨tyX6, tyX6_ok⟩, nmX6⟩
theorem w_X6_3 : Fw 9 3 (.object "AccentHouse$Token") false := ⟨RX6, TX6, 6, rfl, rfl, rfl, by decide +kernel, ⟨tyX6, tyX6_ok⟩, nmX6⟩
theorem w_X6_4 : Fw 9 4 .int false := ⟨RX6, TX6, 6, rfl, rfl, rfl, by decide +kernel, ⟨tyX6, tyX6_ok⟩, nmX6⟩
theorem w_X6_5 : Fw 9 5 .int false := ⟨RX6, TX6, 6, rfl, rfl, rfl, by decide +kernel, ⟨tyX6, tyX6_ok⟩, nmX6⟩
theorem u_X7 : ∀ w ∈ u_ws RX7 TX7 11, w ∈ wl := uws_of (lt_s (lt_s (lt_s (lt_s (lt_s (lt_s (lt_s (lt_s (lt_s (lt_s (lt_s lt_0 (wl_in 870 (by decide +kernel) rfl)) (wl_in 872 (by decide +kernel) rfl)) (wl_in 874 (by decide +kernel) rfl)) (wl_in 876 (by decide +kernel) rfl)) (wl_in 878 (by decide +kernel) rfl)) (wl_in 880 (by decide +kernel) rfl)) (wl_in 882 (by decide +kernel) rfl)) (wl_in 884 (by decide +kernel) rfl)) (wl_in 886 (by decide +kernel) rfl)) (wl_in 888 (by decide +kernel) rfl)) (wl_in 890 (by decide +kernel) rfl))
theorem w_X7_0 : Fw 10 0 (.array .byte) true := ⟨RX7, TX7, 11, rfl, rfl, rfl, by decide +kernel, ⟨tyX7, tyX7_ok⟩, nmX7⟩
theorem w_X7_1 : Fw 10 1 .int false := ⟨RX7, TX7, 11, rfl, rfl, rfl, by decide +kernel, ⟨tyX7, tyX7_ok⟩, nmX7⟩
theorem w_X7_2 : Fw 10 2 (.object "java/lang/StringBuilder") true := ⟨RX7, TX7, 11, rfl, rfl, rfl, by decide +kernel, ⟨tyX7, tyX7_ok⟩, nmX7⟩
theorem w_X7_3 : Fw 10 3 (.object "AccentHouse$Parser") true := ⟨RX7, TX7, 11, rfl, rfl, rfl, by decide +kernel, ⟨tyX7, tyX7_ok⟩, nmX7⟩
theorem w_X7_4 : Fw 10 4 .int false := ⟨RX7, TX7, 11, rfl, rfl, rfl, by decide +kernel, ⟨tyX7, tyX7_ok⟩, nmX7⟩
theorem w_X7_5 : Fw 10 5 .int false := ⟨RX7, TX7, 11, rfl, rfl, rfl, by decide +kernel, ⟨tyX7, tyX7_ok⟩, nmX7⟩
theorem w_X7_6 : Fw 10 6 (.object "AccentHouse$House") true := ⟨RX7, TX7, 11, rfl, rfl, rfl, by decide +kernel, ⟨tyX7, tyX7_ok⟩, nmX7⟩
theorem w_X7_7 : Fw 10 7 (.object "AccentHouse$House") true := ⟨RX7, TX7, 11, rfl, rfl, rfl, by decide +kernel, ⟨tyX7, tyX7_ok⟩, nmX7⟩
theorem w_X7_8 : Fw 10 8 (.object "AccentHouse$History") true := ⟨RX7, TX7, 11, rfl, rfl, rfl, by decide +kernel, ⟨tyX7, tyX7_ok⟩, nmX7⟩
theorem w_X7_9 : Fw 10 9 (.array (.object "AccentHouse$House")) true := ⟨RX7, TX7, 11, rfl, rfl, rfl, by decide +kernel, ⟨tyX7, tyX7_ok⟩, nmX7⟩
theorem w_X7_10 : Fw 10 10 (.array .boolean) true := ⟨RX7, TX7, 11, rfl, rfl, rfl, by decide +kernel, ⟨tyX7, tyX7_ok⟩, nmX7⟩
theorem u_X8 : ∀ w ∈ u_ws RX8 TX8 26, w ∈ wl := uws_of (lt_s (lt_s (lt_s (lt_s (lt_s (lt_s (lt_s (lt_s (lt_s (lt_s (lt_s (lt_s (lt_s (lt_s (lt_s (lt_s (lt_s (lt_s (lt_s (lt_s (lt_s (lt_s (lt_s (lt_s (lt_s (lt_s lt_0 (wl_in 1541 (by decide +kernel) rfl)) (wl_in 1543 (by decide +kernel) rfl)) (wl_in 1545 (by decide +kernel) rfl)) (wl_in 1547 (by decide +kernel) rfl)) (wl_in 1549 (by decide +kernel) rfl)) (wl_in 1551 (by decide +kernel) rfl)) (wl_in 1553 (by decide +kernel) rfl)) (wl_in 1555 (by decide +kernel) rfl)) (wl_in 1557 (by decide +kernel) rfl)) (wl_in 1559 (by decide +kernel) rfl)) (wl_in 1561 (by decide +kernel) rfl)) (wl_in 1563 (by decide +kernel) rfl)) (wl_in 1565 (by decide +kernel) rfl)) (wl_in 1567 (by decide +kernel) rfl)) (wl_in 1569 (by decide +kernel) rfl)) (wl_in 1571 (by decide +kernel) rfl)) (wl_in 1573 (by decide +kernel) rfl)) (wl_in 1575 (by decide +kernel) rfl)) (wl_in 1577 (by decide +kernel) rfl)) (wl_in 1579 (by decide +kernel) rfl)) (wl_in 1581 (by decide +kernel) rfl)) (wl_in 1583 (by decide +kernel) rfl)) (wl_in 1585 (by decide +kernel) rfl)) (wl_in 1587 (by decide +kernel) rfl)) (wl_in 1589 (by decide +kernel) rfl)) (wl_in 1591 (by decide +kernel) rfl))
theorem w_X8_0 : Fw 11 0 (.array .int) true := ⟨RX8, TX8, 26, rfl, rfl, rfl, by decide +kernel, ⟨tyX8, tyX8_ok⟩, nmX8⟩
theorem w_X8_1 : Fw 11 1 (.array .int) true := ⟨RX8, TX8, 26, rfl, rfl, rfl, by decide +kernel, ⟨tyX8, tyX8_ok⟩, nmX8⟩
theorem w_X8_2 : Fw 11 2 .int false := ⟨RX8, TX8, 26, rfl, rfl, rfl, by decide +kernel, ⟨tyX8, tyX8_ok⟩, nmX8⟩
theorem w_X8_3 : Fw 11 3 (.array .int) true := ⟨RX8, TX8, 26, rfl, rfl, rfl, by decide +kernel, ⟨tyX8, tyX8_ok⟩, nmX8⟩
theorem w_X8_4 : Fw 11 4 (.array .int) true := ⟨RX8, TX8, 26, rfl, rfl, rfl, by decide +kernel, ⟨tyX8, tyX8_ok⟩, nmX8⟩
theorem w_X8_5 : Fw 11 5 (.array .int) true := ⟨RX8, TX8, 26, rfl, rfl, rfl, by decide +kernel, ⟨tyX8, tyX8_ok⟩, nmX8⟩
theorem w_X8_6 : Fw 11 6 .int false := ⟨RX8, TX8, 26, rfl, rfl, rfl, by decide +kernel, ⟨tyX8, tyX8_ok⟩, nmX8⟩
theorem w_X8_7 : Fw 11 7 (.array .int) true := ⟨RX8, TX8, 26, rfl, rfl, rfl, by decide +kernel, ⟨tyX8, tyX8_ok⟩, nmX8⟩
theorem w_X8_8 : Fw 11 8 .int false := ⟨RX8, TX8, 26, rfl, rfl, rfl, by decide +kernel, ⟨tyX8, tyX8_ok⟩, nmX8⟩
theorem w_X8_9 : Fw 11 9 (.array .int) true := ⟨RX8, TX8, 26, rfl, rfl, rfl, by decide +kernel, ⟨tyX8, tyX8_ok⟩, nmX8⟩
theorem w_X8_10 : Fw 11 10 (.array .int) true := ⟨RX8, TX8, 26, rfl, rfl, rfl, by decide +kernel, ⟨tyX8, tyX8_ok⟩, nmX8⟩
theorem w_X8_11 : Fw 11 11 .int false := ⟨RX8, TX8, 26, rfl, rfl, rfl, by decide +kernel, ⟨tyX8, tyX8_ok⟩, nmX8⟩
theorem w_X8_12 : Fw 11 12 .int false := ⟨RX8, TX8, 26, rfl, rfl, rfl, by decide +kernel, ⟨tyX8, tyX8_ok⟩, nmX8⟩
theorem w_X8_13 : Fw 11 13 (.array .byte) true := ⟨RX8, TX8, 26, rfl, rfl, rfl, by decide +kernel, ⟨tyX8, tyX8_ok⟩, nmX8⟩
theorem w_X8_14 : Fw 11 14 .int false := ⟨RX8, TX8, 26, rfl, rfl, rfl, by decide +kernel, ⟨tyX8, tyX8_ok⟩, nmX8⟩
theorem w_X8_15 : Fw 11 15 (.array .char) true := ⟨RX8, TX8, 26, rfl, rfl, rfl, by decide +kernel, ⟨tyX8, tyX8_ok⟩, nmX8⟩
theorem w_X8_16 : Fw 11 16 .int false := ⟨RX8, TX8, 26, rfl, rfl, rfl, by decide +kernel, ⟨tyX8, tyX8_ok⟩, nmX8⟩
theorem w_X8_17 : Fw 11 17 .int false := ⟨RX8, TX8, 26, rfl, rfl, rfl, by decide +kernel, ⟨tyX8, tyX8_ok⟩, nmX8⟩
theorem w_X8_18 : Fw 11 18 .int false := ⟨RX8, TX8, 26, rfl, rfl, rfl, by decide +kernel, ⟨tyX8, tyX8_ok⟩, nmX8⟩
theorem w_X8_19 : Fw 11 19 .int false := ⟨RX8, TX8, 26, rfl, rfl, rfl, by decide +kernel, ⟨tyX8, tyX8_ok⟩, nmX8⟩
theorem w_X8_20 : Fw 11 20 .int false := ⟨RX8, TX8, 26, rfl, rfl, rfl, by decide +kernel, ⟨tyX8, tyX8_ok⟩, nmX8⟩
theorem w_X8_21 : Fw 11 21 .int false := ⟨RX8, TX8, 26, rfl, rfl, rfl, by decide +kernel, ⟨tyX8, tyX8_ok⟩, nmX8⟩
theorem w_X8_22 : Fw 11 22 .int false := ⟨RX8, TX8, 26, rfl, rfl, rfl, by decide +kernel, ⟨tyX8, tyX8_ok⟩, nmX8⟩
theorem w_X8_23 : Fw 11 23 .int false := ⟨RX8, TX8, 26, rfl, rfl, rfl, by decide +kernel, ⟨tyX8, tyX8_ok⟩, nmX8⟩
theorem w_X8_24 : Fw 11 24 .int false := ⟨RX8, TX8, 26, rfl, rfl, rfl, by decide +kernel, ⟨tyX8, tyX8_ok⟩, nmX8⟩
theorem w_X8_25 : Fw 11 25 .int false := ⟨RX8, TX8, 26, rfl, rfl, rfl, by decide +kernel, ⟨tyX8, tyX8_ok⟩, nmX8⟩
theorem f_X7_9 : Fl RX7 9 10 0 := Fl.of (ref := "AccentHouse") (C := RX7) (T := TX7) (N := 11) rfl (by decide) (wl_in 859 (by decide +kernel) rfl) u_X7 rfl
theorem f_X7_16 : Fl RX7 16 10 2 := Fl.of (ref := "AccentHouse") (C := RX7) (T := TX7) (N := 11) rfl (by decide) (wl_in 861 (by decide +kernel) rfl) u_X7 rfl
theorem f_X7_25 : Fl RX7 25 10 3 := Fl.of (ref := "AccentHouse") (C := RX7) (T := TX7) (N := 11) rfl (by decide) (wl_in 862 (by decide +kernel) rfl) u_X7 rfl
theorem f_X7_29 : Fl RX7 29 10 5 := Fl.of (ref := "AccentHouse") (C := RX7) (T := TX7) (N := 11) rfl (by decide) (wl_in 864 (by decide +kernel) rfl) u_X7 rfl
theorem f_X7_36 : Fl RX7 36 10 6 := Fl.of (ref := "AccentHouse") (C := RX7) (T := TX7) (N := 11) rfl (by decide) (wl_in 865 (by decide +kernel) rfl) u_X7 rfl
theorem f_X7_40 : Fl RX7 40 10 7 := Fl.of (ref := "AccentHouse") (C := RX7) (T := TX7) (N := 11) rfl (by decide) (wl_in 866 (by decide +kernel) rfl) u_X7 rfl
theorem f_X7_46 : Fl RX7 46 10 8 := Fl.of (ref := "AccentHouse") (C := RX7) (T := TX7) (N := 11) rfl (by decide) (wl_in 867 (by decide +kernel) rfl) u_X7 rfl
theorem f_X7_50 : Fl RX7 50 10 9 := Fl.of (ref := "AccentHouse") (C := RX7) (T := TX7) (N := 11) rfl (by decide) (wl_in 868 (by decide +kernel) rfl) u_X7 rfl
theorem f_X7_54 : Fl RX7 54 10 10 := Fl.of (ref := "AccentHouse") (C := RX7) (T := TX7) (N := 11) rfl (by decide) (wl_in 869 (by decide +kernel) rfl) u_X7 rfl
theorem f_X7_74 : Fl RX7 74 8 2 := Fl.of (ref := "AccentHouse$Parser") (C := RX4) (T := TX4) (N := 5) rfl (by decide) (wl_in 226 (by decide +kernel) rfl) u_X4 rfl
theorem f_X7_79 : Fl RX7 79 10 1 := Fl.of (ref := "AccentHouse") (C := RX7) (T := TX7) (N := 11) rfl (by decide) (wl_in 860 (by decide +kernel) rfl) u_X7 rfl
theorem f_X7_97 : Fl RX7 97 8 3 := Fl.of (ref := "AccentHouse$Parser") (C := RX4) (T := TX4) (N := 5) rfl (by decide) (wl_in 228 (by decide +kernel) rfl) u_X4 rfl
theorem f_X7_100 : Fl RX7 100 10 4 := Fl.of (ref := "AccentHouse") (C := RX7) (T := TX7) (N := 11) rfl (by decide) (wl_in 863 (by decide +kernel) rfl) u_X7 rfl
theorem f_X7_103 : Fl RX7 103 8 4 := Fl.of (ref := "AccentHouse$Parser") (C := RX4) (T := TX4) (N := 5) rfl (by decide) (wl_in 230 (by decide +kernel) rfl) u_X4 rfl
theorem f_X7_114 : Fl RX7 114 6 7 := Fl.of (ref := "AccentHouse$House") (C := RX2) (T := TX2) (N := 11) rfl (by decide) (wl_in 159 (by decide +kernel) rfl) u_X2 rfl
theorem f_X7_117 : Fl RX7 117 6 0 := Fl.of (ref := "AccentHouse$House") (C := RX2) (T := TX2) (N := 11) rfl (by decide) (wl_in 144 (by decide +kernel) rfl) u_X2 rfl
theorem f_X7_120 : Fl RX7 120 6 1 := Fl.of (ref := "AccentHouse$House") (C := RX2) (T := TX2) (N := 11) rfl (by decide) (wl_in 146 (by decide +kernel) rfl) u_X2 rfl
theorem f_X7_123 : Fl RX7 123 6 2 := Fl.of (ref := "AccentHouse$House") (C := RX2) (T := TX2) (N := 11) rfl (by decide) (wl_in 148 (by decide +kernel) rfl) u_X2 rfl
theorem f_X7_136 : Fl RX7 136 6 8 := Fl.of (ref := "AccentHouse$House") (C := RX2) (T := TX2) (N := 11) rfl (by decide) (wl_in 162 (by decide +kernel) rfl) u_X2 rfl
theorem f_X7_140 : Fl RX7 140 4 0 := Fl.of (ref := "AccentHouse$Accent") (C := RX0) (T := TX0) (N := 1) rfl (by decide) (wl_in 90 (by decide +kernel) rfl) u_X0 rfl
theorem f_X7_146 : Fl RX7 146 6 3 := Fl.of (ref := "AccentHouse$House") (C := RX2) (T := TX2) (N := 11) rfl (by decide) (wl_in 150 (by decide +kernel) rfl) u_X2 rfl
theorem f_X7_149 : Fl RX7 149 5 2 := Fl.of (ref := "AccentHouse$History") (C := RX1) (T := TX1) (N := 3) rfl (by decide) (wl_in 256 (by decide +kernel) rfl) u_X1 rfl
theorem f_X7_156 : Fl RX7 156 7 1 := Fl.of (ref := "AccentHouse$Lodger") (C := RX3) (T := TX3) (N := 7) rfl (by decide) (wl_in 112 (by decide +kernel) rfl) u_X3 rfl
theorem f_X7_161 : Fl RX7 161 7 2 := Fl.of (ref := "AccentHouse$Lodger") (C := RX3) (T := TX3) (N := 7) rfl (by decide) (wl_in 115 (by decide +kernel) rfl) u_X3 rfl
theorem f_X7_164 : Fl RX7 164 7 6 := Fl.of (ref := "AccentHouse$Lodger") (C := RX3) (T := TX3) (N := 7) rfl (by decide) (wl_in 127 (by decide +kernel) rfl) u_X3 rfl
theorem f_X7_167 : Fl RX7 167 7 3 := Fl.of (ref := "AccentHouse$Lodger") (C := RX3) (T := TX3) (N := 7) rfl (by decide) (wl_in 118 (by decide +kernel) rfl) u_X3 rfl
theorem f_X7_170 : Fl RX7 170 7 4 := Fl.of (ref := "AccentHouse$Lodger") (C := RX3) (T := TX3) (N := 7) rfl (by decide) (wl_in 121 (by decide +kernel) rfl) u_X3 rfl
theorem f_X7_173 : Fl RX7 173 7 5 := Fl.of (ref := "AccentHouse$Lodger") (C := RX3) (T := TX3) (N := 7) rfl (by decide) (wl_in 124 (by decide +kernel) rfl) u_X3 rfl
theorem f_X7_176 : Fl RX7 176 7 0 := Fl.of (ref := "AccentHouse$Lodger") (C := RX3) (T := TX3) (N := 7) rfl (by decide) (wl_in 108 (by decide +kernel) rfl) u_X3 rfl
theorem f_X7_208 : Fl RX7 208 6 9 := Fl.of (ref := "AccentHouse$House") (C := RX2) (T := TX2) (N := 11) rfl (by decide) (wl_in 165 (by decide +kernel) rfl) u_X2 rfl
theorem f_X7_218 : Fl RX7 218 6 10 := Fl.of (ref := "AccentHouse$House") (C := RX2) (T := TX2) (N := 11) rfl (by decide) (wl_in 167 (by decide +kernel) rfl) u_X2 rfl
theorem f_X7_249 : Fl RX7 249 6 4 := Fl.of (ref := "AccentHouse$House") (C := RX2) (T := TX2) (N := 11) rfl (by decide) (wl_in 152 (by decide +kernel) rfl) u_X2 rfl
theorem f_X7_252 : Fl RX7 252 6 5 := Fl.of (ref := "AccentHouse$House") (C := RX2) (T := TX2) (N := 11) rfl (by decide) (wl_in 154 (by decide +kernel) rfl) u_X2 rfl
theorem f_X7_255 : Fl RX7 255 6 6 := Fl.of (ref := "AccentHouse$House") (C := RX2) (T := TX2) (N := 11) rfl (by decide) (wl_in 156 (by decide +kernel) rfl) u_X2 rfl
theorem f_X0_9 : Fl RX0 9 4 0 := Fl.of (ref := "AccentHouse$Accent") (C := RX0) (T := TX0) (N := 1) rfl (by decide) (wl_in 89 (by decide +kernel) rfl) u_X0 rfl
theorem f_X1_11 : Fl RX1 11 5 0 := Fl.of (ref := "AccentHouse$History") (C := RX1) (T := TX1) (N := 3) rfl (by decide) (wl_in 253 (by decide +kernel) rfl) u_X1 rfl
theorem f_X1_18 : Fl RX1 18 5 1 := Fl.of (ref := "AccentHouse$History") (C := RX1) (T := TX1) (N := 3) rfl (by decide) (wl_in 254 (by decide +kernel) rfl) u_X1 rfl
theorem f_X1_22 : Fl RX1 22 5 2 := Fl.of (ref := "AccentHouse$History") (C := RX1) (T := TX1) (N := 3) rfl (by decide) (wl_in 255 (by decide +kernel) rfl) u_X1 rfl
theorem f_X2_12 : Fl RX2 12 6 8 := Fl.of (ref := "AccentHouse$House") (C := RX2) (T := TX2) (N := 11) rfl (by decide) (wl_in 160 (by decide +kernel) rfl) u_X2 rfl
theorem f_X2_20 : Fl RX2 20 6 9 := Fl.of (ref := "AccentHouse$House") (C := RX2) (T := TX2) (N := 11) rfl (by decide) (wl_in 163 (by decide +kernel) rfl) u_X2 rfl
theorem f_X2_24 : Fl RX2 24 6 10 := Fl.of (ref := "AccentHouse$House") (C := RX2) (T := TX2) (N := 11) rfl (by decide) (wl_in 166 (by decide +kernel) rfl) u_X2 rfl
theorem f_X2_28 : Fl RX2 28 6 0 := Fl.of (ref := "AccentHouse$House") (C := RX2) (T := TX2) (N := 11) rfl (by decide) (wl_in 143 (by decide +kernel) rfl) u_X2 rfl
theorem f_X2_32 : Fl RX2 32 6 1 := Fl.of (ref := "AccentHouse$House") (C := RX2) (T := TX2) (N := 11) rfl (by decide) (wl_in 145 (by decide +kernel) rfl) u_X2 rfl
theorem f_X2_35 : Fl RX2 35 6 2 := Fl.of (ref := "AccentHouse$House") (C := RX2) (T := TX2) (N := 11) rfl (by decide) (wl_in 147 (by decide +kernel) rfl) u_X2 rfl
theorem f_X2_38 : Fl RX2 38 6 3 := Fl.of (ref := "AccentHouse$House") (C := RX2) (T := TX2) (N := 11) rfl (by decide) (wl_in 149 (by decide +kernel) rfl) u_X2 rfl
theorem f_X2_41 : Fl RX2 41 6 4 := Fl.of (ref := "AccentHouse$House") (C := RX2) (T := TX2) (N := 11) rfl (by decide) (wl_in 151 (by decide +kernel) rfl) u_X2 rfl
theorem f_X2_44 : Fl RX2 44 6 5 := Fl.of (ref := "AccentHouse$House") (C := RX2) (T := TX2) (N := 11) rfl (by decide) (wl_in 153 (by decide +kernel) rfl) u_X2 rfl
theorem f_X2_47 : Fl RX2 47 6 6 := Fl.of (ref := "AccentHouse$House") (C := RX2) (T := TX2) (N := 11) rfl (by decide) (wl_in 155 (by decide +kernel) rfl) u_X2 rfl
theorem f_X2_50 : Fl RX2 50 6 7 := Fl.of (ref := "AccentHouse$House") (C := RX2) (T := TX2) (N := 11) rfl (by decide) (wl_in 157 (by decide +kernel) rfl) u_X2 rfl
theorem f_X2_60 : Fl RX2 60 7 1 := Fl.of (ref := "AccentHouse$Lodger") (C := RX3) (T := TX3) (N := 7) rfl (by decide) (wl_in 110 (by decide +kernel) rfl) u_X3 rfl
theorem f_X2_89 : Fl RX2 89 7 0 := Fl.of (ref := "AccentHouse$Lodger") (C := RX3) (T := TX3) (N := 7) rfl (by decide) (wl_in 107 (by decide +kernel) rfl) u_X3 rfl
theorem f_X2_93 : Fl RX2 93 7 6 := Fl.of (ref := "AccentHouse$Lodger") (C := RX3) (T := TX3) (N := 7) rfl (by decide) (wl_in 126 (by decide +kernel) rfl) u_X3 rfl
theorem f_X2_96 : Fl RX2 96 4 0 := Fl.of (ref := "AccentHouse$Accent") (C := RX0) (T := TX0) (N := 1) rfl (by decide) (wl_in 91 (by decide +kernel) rfl) u_X0 rfl
theorem f_X2_104 : Fl RX2 104 7 2 := Fl.of (ref := "AccentHouse$Lodger") (C := RX3) (T := TX3) (N := 7) rfl (by decide) (wl_in 114 (by decide +kernel) rfl) u_X3 rfl
theorem f_X2_115 : Fl RX2 115 7 3 := Fl.of (ref := "AccentHouse$Lodger") (C := RX3) (T := TX3) (N := 7) rfl (by decide) (wl_in 117 (by decide +kernel) rfl) u_X3 rfl
theorem f_X2_118 : Fl RX2 118 7 4 := Fl.of (ref := "AccentHouse$Lodger") (C := RX3) (T := TX3) (N := 7) rfl (by decide) (wl_in 120 (by decide +kernel) rfl) u_X3 rfl
theorem f_X2_121 : Fl RX2 121 7 5 := Fl.of (ref := "AccentHouse$Lodger") (C := RX3) (T := TX3) (N := 7) rfl (by decide) (wl_in 123 (by decide +kernel) rfl) u_X3 rfl
theorem f_X3_9 : Fl RX3 9 7 0 := Fl.of (ref := "AccentHouse$Lodger") (C := RX3) (T := TX3) (N := 7) rfl (by decide) (wl_in 106 (by decide +kernel) rfl) u_X3 rfl
theorem f_X3_18 : Fl RX3 18 7 6 := Fl.of (ref := "AccentHouse$Lodger") (C := RX3) (T := TX3) (N := 7) rfl (by decide) (wl_in 125 (by decide +kernel) rfl) u_X3 rfl
theorem f_X3_22 : Fl RX3 22 7 1 := Fl.of (ref := "AccentHouse$Lodger") (C := RX3) (T := TX3) (N := 7) rfl (by decide) (wl_in 109 (by decide +kernel) rfl) u_X3 rfl
theorem f_X3_26 : Fl RX3 26 7 2 := Fl.of (ref := "AccentHouse$Lodger") (C := RX3) (T := TX3) (N := 7) rfl (by decide) (wl_in 113 (by decide +kernel) rfl) u_X3 rfl
theorem f_X3_29 : Fl RX3 29 7 3 := Fl.of (ref := "AccentHouse$Lodger") (C := RX3) (T := TX3) (N := 7) rfl (by decide) (wl_in 116 (by decide +kernel) rfl) u_X3 rfl
theorem f_X3_32 : Fl RX3 32 7 4 := Fl.of (ref := "AccentHouse$Lodger") (C := RX3) (T := TX3) (N := 7) rfl (by decide) (wl_in 119 (by decide +kernel) rfl) u_X3 rfl
theorem f_X3_35 : Fl RX3 35 7 5 := Fl.of (ref := "AccentHouse$Lodger") (C := RX3) (T := TX3) (N := 7) rfl (by decide) (wl_in 122 (by decide +kernel) rfl) u_X3 rfl
theorem f_X4_12 : Fl RX4 12 8 2 := Fl.of (ref := "AccentHouse$Parser") (C := RX4) (T := TX4) (N := 5) rfl (by decide) (wl_in 225 (by decide +kernel) rfl) u_X4 rfl
theorem f_X4_18 : Fl RX4 18 8 4 := Fl.of (ref := "AccentHouse$Parser") (C := RX4) (T := TX4) (N := 5) rfl (by decide) (wl_in 229 (by decide +kernel) rfl) u_X4 rfl
theorem f_X4_22 : Fl RX4 22 8 0 := Fl.of (ref := "AccentHouse$Parser") (C := RX4) (T := TX4) (N := 5) rfl (by decide) (wl_in 223 (by decide +kernel) rfl) u_X4 rfl
theorem f_X4_31 : Fl RX4 31 8 1 := Fl.of (ref := "AccentHouse$Parser") (C := RX4) (T := TX4) (N := 5) rfl (by decide) (wl_in 224 (by decide +kernel) rfl) u_X4 rfl
theorem f_X4_35 : Fl RX4 35 8 3 := Fl.of (ref := "AccentHouse$Parser") (C := RX4) (T := TX4) (N := 5) rfl (by decide) (wl_in 227 (by decide +kernel) rfl) u_X4 rfl
theorem f_X4_45 : Fl RX4 45 9 3 := Fl.of (ref := "AccentHouse$Tokens") (C := RX6) (T := TX6) (N := 6) rfl (by decide) (wl_in 205 (by decide +kernel) rfl) u_X6 rfl
theorem f_X4_81 : Fl RX4 81 9 4 := Fl.of (ref := "AccentHouse$Tokens") (C := RX6) (T := TX6) (N := 6) rfl (by decide) (wl_in 206 (by decide +kernel) rfl) u_X6 rfl
theorem f_X4_105 : Fl RX4 105 6 8 := Fl.of (ref := "AccentHouse$House") (C := RX2) (T := TX2) (N := 11) rfl (by decide) (wl_in 161 (by decide +kernel) rfl) u_X2 rfl
theorem f_X4_117 : Fl RX4 117 6 7 := Fl.of (ref := "AccentHouse$House") (C := RX2) (T := TX2) (N := 11) rfl (by decide) (wl_in 158 (by decide +kernel) rfl) u_X2 rfl
theorem f_X4_124 : Fl RX4 124 9 5 := Fl.of (ref := "AccentHouse$Tokens") (C := RX6) (T := TX6) (N := 6) rfl (by decide) (wl_in 209 (by decide +kernel) rfl) u_X6 rfl
theorem f_X4_151 : Fl RX4 151 7 1 := Fl.of (ref := "AccentHouse$Lodger") (C := RX3) (T := TX3) (N := 7) rfl (by decide) (wl_in 111 (by decide +kernel) rfl) u_X3 rfl
theorem f_X4_165 : Fl RX4 165 6 9 := Fl.of (ref := "AccentHouse$House") (C := RX2) (T := TX2) (N := 11) rfl (by decide) (wl_in 164 (by decide +kernel) rfl) u_X2 rfl
theorem f_X6_10 : Fl RX6 10 9 1 := Fl.of (ref := "AccentHouse$Tokens") (C := RX6) (T := TX6) (N := 6) rfl (by decide) (wl_in 202 (by decide +kernel) rfl) u_X6 rfl
theorem f_X6_22 : Fl RX6 22 9 3 := Fl.of (ref := "AccentHouse$Tokens") (C := RX6) (T := TX6) (N := 6) rfl (by decide) (wl_in 204 (by decide +kernel) rfl) u_X6 rfl
theorem f_X6_25 : Fl RX6 25 9 0 := Fl.of (ref := "AccentHouse$Tokens") (C := RX6) (T := TX6) (N := 6) rfl (by decide) (wl_in 201 (by decide +kernel) rfl) u_X6 rfl
theorem f_X6_35 : Fl RX6 35 9 2 := Fl.of (ref := "AccentHouse$Tokens") (C := RX6) (T := TX6) (N := 6) rfl (by decide) (wl_in 203 (by decide +kernel) rfl) u_X6 rfl
theorem f_X6_42 : Fl RX6 42 9 5 := Fl.of (ref := "AccentHouse$Tokens") (C := RX6) (T := TX6) (N := 6) rfl (by decide) (wl_in 208 (by decide +kernel) rfl) u_X6 rfl
theorem f_X6_54 : Fl RX6 54 9 4 := Fl.of (ref := "AccentHouse$Tokens") (C := RX6) (T := TX6) (N := 6) rfl (by decide) (wl_in 207 (by decide +kernel) rfl) u_X6 rfl
theorem f_X8_7 : Fl RX8 7 11 0 := Fl.of (ref := "AccentHouseModel") (C := RX8) (T := TX8) (N := 26) rfl (by decide) (wl_in 1515 (by decide +kernel) rfl) u_X8 rfl
theorem f_X8_16 : Fl RX8 16 11 1 := Fl.of (ref := "AccentHouseModel") (C := RX8) (T := TX8) (N := 26) rfl (by decide) (wl_in 1516 (by decide +kernel) rfl) u_X8 rfl
theorem f_X8_19 : Fl RX8 19 11 3 := Fl.of (ref := "AccentHouseModel") (C := RX8) (T := TX8) (N := 26) rfl (by decide) (wl_in 1518 (by decide +kernel) rfl) u_X8 rfl
theorem f_X8_22 : Fl RX8 22 11 4 := Fl.of (ref := "AccentHouseModel") (C := RX8) (T := TX8) (N := 26) rfl (by decide) (wl_in 1519 (by decide +kernel) rfl) u_X8 rfl
theorem f_X8_25 : Fl RX8 25 11 5 := Fl.of (ref := "AccentHouseModel") (C := RX8) (T := TX8) (N := 26) rfl (by decide) (wl_in 1520 (by decide +kernel) rfl) u_X8 rfl
theorem f_X8_28 : Fl RX8 28 11 7 := Fl.of (ref := "AccentHouseModel") (C := RX8) (T := TX8) (N := 26) rfl (by decide) (wl_in 1522 (by decide +kernel) rfl) u_X8 rfl
theorem f_X8_31 : Fl RX8 31 11 9 := Fl.of (ref := "AccentHouseModel") (C := RX8) (T := TX8) (N := 26) rfl (by decide) (wl_in 1524 (by decide +kernel) rfl) u_X8 rfl
theorem f_X8_34 : Fl RX8 34 11 10 := Fl.of (ref := "AccentHouseModel") (C := RX8) (T := TX8) (N := 26) rfl (by decide) (wl_in 1525 (by decide +kernel) rfl) u_X8 rfl
theorem f_X8_37 : Fl RX8 37 11 11 := Fl.of (ref := "AccentHouseModel") (C := RX8) (T := TX8) (N := 26) rfl (by decide) (wl_in 1526 (by decide +kernel) rfl) u_X8 rfl
theorem f_X8_41 : Fl RX8 41 11 13 := Fl.of (ref := "AccentHouseModel") (C := RX8) (T := TX8) (N := 26) rfl (by decide) (wl_in 1528 (by decide +kernel) rfl) u_X8 rfl
theorem f_X8_45 : Fl RX8 45 11 15 := Fl.of (ref := "AccentHouseModel") (C := RX8) (T := TX8) (N := 26) rfl (by decide) (wl_in 1530 (by decide +kernel) rfl) u_X8 rfl
theorem f_X8_49 : Fl RX8 49 11 18 := Fl.of (ref := "AccentHouseModel") (C := RX8) (T := TX8) (N := 26) rfl (by decide) (wl_in 1533 (by decide +kernel) rfl) u_X8 rfl
theorem f_X8_63 : Fl RX8 63 11 2 := Fl.of (ref := "AccentHouseModel") (C := RX8) (T := TX8) (N := 26) rfl (by decide) (wl_in 1517 (by decide +kernel) rfl) u_X8 rfl
theorem f_X8_70 : Fl RX8 70 11 12 := Fl.of (ref := "AccentHouseModel") (C := RX8) (T := TX8) (N := 26) rfl (by decide) (wl_in 1527 (by decide +kernel) rfl) u_X8 rfl
theorem f_X8_127 : Fl RX8 127 11 6 := Fl.of (ref := "AccentHouseModel") (C := RX8) (T := TX8) (N := 26) rfl (by decide) (wl_in 1521 (by decide +kernel) rfl) u_X8 rfl
theorem f_X8_130 : Fl RX8 130 11 20 := Fl.of (ref := "AccentHouseModel") (C := RX8) (T := TX8) (N := 26) rfl (by decide) (wl_in 1535 (by decide +kernel) rfl) u_X8 rfl
theorem f_X8_133 : Fl RX8 133 11 22 := Fl.of (ref := "AccentHouseModel") (C := RX8) (T := TX8) (N := 26) rfl (by decide) (wl_in 1537 (by decide +kernel) rfl) u_X8 rfl
theorem f_X8_136 : Fl RX8 136 11 21 := Fl.of (ref := "AccentHouseModel") (C := RX8) (T := TX8) (N := 26) rfl (by decide) (wl_in 1536 (by decide +kernel) rfl) u_X8 rfl
theorem f_X8_139 : Fl RX8 139 11 19 := Fl.of (ref := "AccentHouseModel") (C := RX8) (T := TX8) (N := 26) rfl (by decide) (wl_in 1534 (by decide +kernel) rfl) u_X8 rfl
theorem f_X8_148 : Fl RX8 148 11 23 := Fl.of (ref := "AccentHouseModel") (C := RX8) (T := TX8) (N := 26) rfl (by decide) (wl_in 1538 (by decide +kernel) rfl) u_X8 rfl
theorem f_X8_151 : Fl RX8 151 11 24 := Fl.of (ref := "AccentHouseModel") (C := RX8) (T := TX8) (N := 26) rfl (by decide) (wl_in 1539 (by decide +kernel) rfl) u_X8 rfl
theorem f_X8_154 : Fl RX8 154 11 25 := Fl.of (ref := "AccentHouseModel") (C := RX8) (T := TX8) (N := 26) rfl (by decide) (wl_in 1540 (by decide +kernel) rfl) u_X8 rfl
theorem f_X8_213 : Fl RX8 213 11 14 := Fl.of (ref := "AccentHouseModel") (C := RX8) (T := TX8) (N := 26) rfl (by decide) (wl_in 1529 (by decide +kernel) rfl) u_X8 rfl
theorem f_X8_231 : Fl RX8 231 11 17 := Fl.of (ref := "AccentHouseModel") (C := RX8) (T := TX8) (N := 26) rfl (by decide) (wl_in 1532 (by decide +kernel) rfl) u_X8 rfl
theorem f_X8_237 : Fl RX8 237 11 8 := Fl.of (ref := "AccentHouseModel") (C := RX8) (T := TX8) (N := 26) rfl (by decide) (wl_in 1523 (by decide +kernel) rfl) u_X8 rfl
theorem f_X8_289 : Fl RX8 289 11 16 := Fl.of (ref := "AccentHouseModel") (C := RX8) (T := TX8) (N := 26) rfl (by decide) (wl_in 1531 (by decide +kernel) rfl) u_X8 rfl
theorem f_J0_9 : Fl RJ0 9 0 0 := Fl.of (ref := "java/lang/String") (C := RJ0) (T := TJ0) (N := 4) rfl (by decide) (wl_in 673 (by decide +kernel) rfl) u_J0 rfl
theorem f_J0_15 : Fl RJ0 15 0 1 := Fl.of (ref := "java/lang/String") (C := RJ0) (T := TJ0) (N := 4) rfl (by decide) (wl_in 674 (by decide +kernel) rfl) u_J0 rfl
abbrev MX7_init : Mr := (RX7, yX7_init, cX7_init, 2, none)
theorem k_X7_init : Cd MX7_init ∈ wl := wl_in 34 (by decide +kernel) rfl
abbrev MJ4_init_da8c8 : Mr := (RJ4, yJ4_init_da8c8, cJ4_init_da8c8, 1, none)
theorem k_J4_init_da8c8 : Cd MJ4_init_da8c8 ∈ wl := wl_in 42 (by decide +kernel) rfl
abbrev MJ5_init_d00df : Mr := (RJ5, yJ5_init_d00df, cJ5_init_d00df, 2, none)
theorem k_J5_init_d00df : Cd MJ5_init_d00df ∈ wl := wl_in 45 (by decide +kernel) rfl
abbrev MJ2_newBytesFor_77867 : Mr := (RJ2, yJ2_newBytesFor_77867, cJ2_newBytesFor_77867, 1, some (.array .byte))
theorem k_J2_newBytesFor_77867 : Cd MJ2_newBytesFor_77867 ∈ wl := wl_in 51 (by decide +kernel) rfl
abbrev MJ2_newBytesLength_0f7a4 : Mr := (RJ2, yJ2_newBytesLength_0f7a4, cJ2_newBytesLength_0f7a4, 1, some .int)
theorem k_J2_newBytesLength_0f7a4 : Cd MJ2_newBytesLength_0f7a4 ∈ wl := wl_in 54 (by decide +kernel) rfl
abbrev MX4_init : Mr := (RX4, yX4_init, cX4_init, 2, none)
theorem k_X4_init : Cd MX4_init ∈ wl := wl_in 75 (by decide +kernel) rfl
abbrev MX2_init : Mr := (RX2, yX2_init, cX2_init, 2, none)
theorem k_X2_init : Cd MX2_init ∈ wl := wl_in 81 (by decide +kernel) rfl
abbrev MX0_init : Mr := (RX0, yX0_init, cX0_init, 1, none)
theorem k_X0_init : Cd MX0_init ∈ wl := wl_in 87 (by decide +kernel) rfl
abbrev MX3_init : Mr := (RX3, yX3_init, cX3_init, 1, none)
theorem k_X3_init : Cd MX3_init ∈ wl := wl_in 101 (by decide +kernel) rfl
abbrev MX6_init : Mr := (RX6, yX6_init, cX6_init, 2, none)
theorem k_X6_init : Cd MX6_init ∈ wl := wl_in 195 (by decide +kernel) rfl
abbrev MX1_init : Mr := (RX1, yX1_init, cX1_init, 2, none)
theorem k_X1_init : Cd MX1_init ∈ wl := wl_in 248 (by decide +kernel) rfl
abbrev MJ0_length_8abf5 : Mr := (RJ0, yJ0_length_8abf5, cJ0_length_8abf5, 1, some .int)
theorem k_J0_length_8abf5 : Cd MJ0_length_8abf5 ∈ wl := wl_in 268 (by decide +kernel) rfl
abbrev MJ0_coder_7d493 : Mr := (RJ0, yJ0_coder_7d493, cJ0_coder_7d493, 1, some .byte)
theorem k_J0_coder_7d493 : Cd MJ0_coder_7d493 ∈ wl := wl_in 272 (by decide +kernel) rfl
abbrev MJ0_charAt_5068e : Mr := (RJ0, yJ0_charAt_5068e, cJ0_charAt_5068e, 2, some .char)
theorem k_J0_charAt_5068e : Cd MJ0_charAt_5068e ∈ wl := wl_in 277 (by decide +kernel) rfl
abbrev MJ0_isLatin1_aae02 : Mr := (RJ0, yJ0_isLatin1_aae02, cJ0_isLatin1_aae02, 1, some .boolean)
theorem k_J0_isLatin1_aae02 : Cd MJ0_isLatin1_aae02 ∈ wl := wl_in 281 (by decide +kernel) rfl
abbrev MJ1_charAt_3b067 : Mr := (RJ1, yJ1_charAt_3b067, cJ1_charAt_3b067, 2, some .char)
theorem k_J1_charAt_3b067 : Cd MJ1_charAt_3b067 ∈ wl := wl_in 284 (by decide +kernel) rfl
abbrev MJ0_checkIndex_df160 : Mr := (RJ0, yJ0_checkIndex_df160, cJ0_checkIndex_df160, 2, none)
theorem k_J0_checkIndex_df160 : Cd MJ0_checkIndex_df160 ∈ wl := wl_in 287 (by decide +kernel) rfl
abbrev MJ3_checkIndex_8e157 : Mr := (RJ3, yJ3_checkIndex_8e157, cJ3_checkIndex_8e157, 3, some .int)
theorem k_J3_checkIndex_8e157 : Cd MJ3_checkIndex_8e157 ∈ wl := wl_in 292 (by decide +kernel) rfl
abbrev MJ2_charAt_3b067 : Mr := (RJ2, yJ2_charAt_3b067, cJ2_charAt_3b067, 2, some .char)
theorem k_J2_charAt_3b067 : Cd MJ2_charAt_3b067 ∈ wl := wl_in 295 (by decide +kernel) rfl
abbrev MJ2_checkIndex_2214a : Mr := (RJ2, yJ2_checkIndex_2214a, cJ2_checkIndex_2214a, 2, none)
theorem k_J2_checkIndex_2214a : Cd MJ2_checkIndex_2214a ∈ wl := wl_in 298 (by decide +kernel) rfl
abbrev MJ2_length_9d52b : Mr := (RJ2, yJ2_length_9d52b, cJ2_length_9d52b, 1, some .int)
theorem k_J2_length_9d52b : Cd MJ2_length_9d52b ∈ wl := wl_in 301 (by decide +kernel) rfl
abbrev MJ2_getChar_3b067 : Mr := (RJ2, yJ2_getChar_3b067, cJ2_getChar_3b067, 2, some .char)
theorem k_J2_getChar_3b067 : Cd MJ2_getChar_3b067 ∈ wl := wl_in 305 (by decide +kernel) rfl
abbrev MX4_read : Mr := (RX4, yX4_read, cX4_read, 3, none)
theorem k_X4_read : Cd MX4_read ∈ wl := wl_in 315 (by decide +kernel) rfl
abbrev MX6_restart : Mr := (RX6, yX6_restart, cX6_restart, 2, none)
theorem k_X6_restart : Cd MX6_restart ∈ wl := wl_in 319 (by decide +kernel) rfl
abbrev MJ9_min_7cf53 : Mr := (RJ9, yJ9_min_7cf53, cJ9_min_7cf53, 2, some .int)
theorem k_J9_min_7cf53 : Cd MJ9_min_7cf53 ∈ wl := wl_in 322 (by decide +kernel) rfl
abbrev MX6_step : Mr := (RX6, yX6_step, cX6_step, 3, none)
theorem k_X6_step : Cd MX6_step ∈ wl := wl_in 328 (by decide +kernel) rfl
abbrev MX6_isLetter : Mr := (RX6, yX6_isLetter, cX6_isLetter, 1, some .boolean)
theorem k_X6_isLetter : Cd MX6_isLetter ∈ wl := wl_in 335 (by decide +kernel) rfl
abbrev MX6_isDigit : Mr := (RX6, yX6_isDigit, cX6_isDigit, 1, some .boolean)
theorem k_X6_isDigit : Cd MX6_isDigit ∈ wl := wl_in 340 (by decide +kernel) rfl
abbrev MX4_readHeader : Mr := (RX4, yX4_readHeader, cX4_readHeader, 3, none)
theorem k_X4_readHeader : Cd MX4_readHeader ∈ wl := wl_in 344 (by decide +kernel) rfl
abbrev MX4_expectWord : Mr := (RX4, yX4_expectWord, cX4_expectWord, 2, none)
theorem k_X4_expectWord : Cd MX4_expectWord ∈ wl := wl_in 349 (by decide +kernel) rfl
abbrev MX6_isWord : Mr := (RX6, yX6_isWord, cX6_isWord, 3, some .boolean)
theorem k_X6_isWord : Cd MX6_isWord ∈ wl := wl_in 353 (by decide +kernel) rfl
abbrev MX6_size : Mr := (RX6, yX6_size, cX6_size, 1, some .int)
theorem k_X6_size : Cd MX6_size ∈ wl := wl_in 357 (by decide +kernel) rfl
abbrev MX4_fail : Mr := (RX4, yX4_fail, cX4_fail, 3, none)
theorem k_X4_fail : Cd MX4_fail ∈ wl := wl_in 364 (by decide +kernel) rfl
abbrev MX4_readNumber : Mr := (RX4, yX4_readNumber, cX4_readNumber, 4, some .int)
theorem k_X4_readNumber : Cd MX4_readNumber ∈ wl := wl_in 368 (by decide +kernel) rfl
abbrev MX6_value : Mr := (RX6, yX6_value, cX6_value, 3, some .int)
theorem k_X6_value : Cd MX6_value ∈ wl := wl_in 374 (by decide +kernel) rfl
abbrev MX2_open : Mr := (RX2, yX2_open, cX2_open, 3, none)
theorem k_X2_open : Cd MX2_open ∈ wl := wl_in 380 (by decide +kernel) rfl
abbrev MX4_readAccent : Mr := (RX4, yX4_readAccent, cX4_readAccent, 3, some .int)
theorem k_X4_readAccent : Cd MX4_readAccent ∈ wl := wl_in 384 (by decide +kernel) rfl
abbrev MX0_setDigits : Mr := (RX0, yX0_setDigits, cX0_setDigits, 4, none)
theorem k_X0_setDigits : Cd MX0_setDigits ∈ wl := wl_in 388 (by decide +kernel) rfl
abbrev MX4_readLodger : Mr := (RX4, yX4_readLodger, cX4_readLodger, 5, none)
theorem k_X4_readLodger : Cd MX4_readLodger ∈ wl := wl_in 393 (by decide +kernel) rfl
abbrev MX4_isAtName : Mr := (RX4, yX4_isAtName, cX4_isAtName, 1, some .boolean)
theorem k_X4_isAtName : Cd MX4_isAtName ∈ wl := wl_in 397 (by decide +kernel) rfl
abbrev MX2_numberOf : Mr := (RX2, yX2_numberOf, cX2_numberOf, 5, some .int)
theorem k_X2_numberOf : Cd MX2_numberOf ∈ wl := wl_in 402 (by decide +kernel) rfl
abbrev MX3_isNamed : Mr := (RX3, yX3_isNamed, cX3_isNamed, 5, some .boolean)
theorem k_X3_isNamed : Cd MX3_isNamed ∈ wl := wl_in 406 (by decide +kernel) rfl
abbrev MX6_word : Mr := (RX6, yX6_word, cX6_word, 2, some (.object "java/lang/String"))
theorem k_X6_word : Cd MX6_word ∈ wl := wl_in 412 (by decide +kernel) rfl
abbrev MJ4_setLength_d00df : Mr := (RJ4, yJ4_setLength_d00df, cJ4_setLength_d00df, 2, none)
theorem k_J4_setLength_d00df : Cd MJ4_setLength_d00df ∈ wl := wl_in 416 (by decide +kernel) rfl
abbrev MJ5_setLength_d00df : Mr := (RJ5, yJ5_setLength_d00df, cJ5_setLength_d00df, 2, none)
theorem k_J5_setLength_d00df : Cd MJ5_setLength_d00df ∈ wl := wl_in 419 (by decide +kernel) rfl
abbrev MJx7c733_init_d00df : Mr := (RJx7c733, yJx7c733_init_d00df, cJx7c733_init_d00df, 2, none)
theorem k_Jx7c733_init_d00df : Cd MJx7c733_init_d00df ∈ wl := wl_in 424 (by decide +kernel) rfl
abbrev MJ4_append_15ec4 : Mr := (RJ4, yJ4_append_15ec4, cJ4_append_15ec4, 2, some (.object "java/lang/StringBuilder"))
theorem k_J4_append_15ec4 : Cd MJ4_append_15ec4 ∈ wl := wl_in 431 (by decide +kernel) rfl
abbrev MJ5_append_cf1ce : Mr := (RJ5, yJ5_append_cf1ce, cJ5_append_cf1ce, 3, some (.object "java/lang/AbstractStringBuilder"))
theorem k_J5_append_cf1ce : Cd MJ5_append_cf1ce ∈ wl := wl_in 434 (by decide +kernel) rfl
abbrev MJ5_appendNull_278bc : Mr := (RJ5, yJ5_appendNull_278bc, cJ5_appendNull_278bc, 3, some (.object "java/lang/AbstractStringBuilder"))
theorem k_J5_appendNull_278bc : Cd MJ5_appendNull_278bc ∈ wl := wl_in 438 (by decide +kernel) rfl
abbrev MJ5_ensureCapacityInternal_d00df : Mr := (RJ5, yJ5_ensureCapacityInternal_d00df, cJ5_ensureCapacityInternal_d00df, 3, none)
theorem k_J5_ensureCapacityInternal_d00df : Cd MJ5_ensureCapacityInternal_d00df ∈ wl := wl_in 442 (by decide +kernel) rfl
abbrev MJ5_newCapacity_0f7a4 : Mr := (RJ5, yJ5_newCapacity_0f7a4, cJ5_newCapacity_0f7a4, 6, some .int)
theorem k_J5_newCapacity_0f7a4 : Cd MJ5_newCapacity_0f7a4 ∈ wl := wl_in 446 (by decide +kernel) rfl
abbrev MJ8_newLength_cabcc : Mr := (RJ8, yJ8_newLength_cabcc, cJ8_newLength_cabcc, 4, some .int)
theorem k_J8_newLength_cabcc : Cd MJ8_newLength_cabcc ∈ wl := wl_in 449 (by decide +kernel) rfl
abbrev MJ9_max_7cf53 : Mr := (RJ9, yJ9_max_7cf53, cJ9_max_7cf53, 2, some .int)
theorem k_J9_max_7cf53 : Cd MJ9_max_7cf53 ∈ wl := wl_in 452 (by decide +kernel) rfl
abbrev MJ8_hugeLength_7cf53 : Mr := (RJ8, yJ8_hugeLength_7cf53, cJ8_hugeLength_7cf53, 3, some .int)
theorem k_J8_hugeLength_7cf53 : Cd MJ8_hugeLength_7cf53 ∈ wl := wl_in 456 (by decide +kernel) rfl
abbrev MJ7_copyOf_9075b : Mr := (RJ7, yJ7_copyOf_9075b, cJ7_copyOf_9075b, 3, some (.array .byte))
theorem k_J7_copyOf_9075b : Cd MJ7_copyOf_9075b ∈ wl := wl_in 460 (by decide +kernel) rfl
abbrev MJ5_isLatin1_aae02 : Mr := (RJ5, yJ5_isLatin1_aae02, cJ5_isLatin1_aae02, 1, some .boolean)
theorem k_J5_isLatin1_aae02 : Cd MJ5_isLatin1_aae02 ∈ wl := wl_in 476 (by decide +kernel) rfl
abbrev MJ2_putCharsAt_cd4e5 : Mr := (RJ2, yJ2_putCharsAt_cd4e5, cJ2_putCharsAt_cd4e5, 7, some .int)
theorem k_J2_putCharsAt_cd4e5 : Cd MJ2_putCharsAt_cd4e5 ∈ wl := wl_in 479 (by decide +kernel) rfl
abbrev MJ2_checkBoundsBeginEnd_d044e : Mr := (RJ2, yJ2_checkBoundsBeginEnd_d044e, cJ2_checkBoundsBeginEnd_d044e, 3, none)
theorem k_J2_checkBoundsBeginEnd_d044e : Cd MJ2_checkBoundsBeginEnd_d044e ∈ wl := wl_in 482 (by decide +kernel) rfl
abbrev MJ0_checkBoundsBeginEnd_23922 : Mr := (RJ0, yJ0_checkBoundsBeginEnd_23922, cJ0_checkBoundsBeginEnd_23922, 3, none)
theorem k_J0_checkBoundsBeginEnd_23922 : Cd MJ0_checkBoundsBeginEnd_23922 ∈ wl := wl_in 485 (by decide +kernel) rfl
abbrev MJ3_checkFromToIndex_8c36e : Mr := (RJ3, yJ3_checkFromToIndex_8c36e, cJ3_checkFromToIndex_8c36e, 4, some .int)
theorem k_J3_checkFromToIndex_8c36e : Cd MJ3_checkFromToIndex_8c36e ∈ wl := wl_in 488 (by decide +kernel) rfl
abbrev MJ2_putChar_b72d1 : Mr := (RJ2, yJ2_putChar_b72d1, cJ2_putChar_b72d1, 3, none)
theorem k_J2_putChar_b72d1 : Cd MJ2_putChar_b72d1 ∈ wl := wl_in 491 (by decide +kernel) rfl
abbrev MJ5_putStringAt_47b60 : Mr := (RJ5, yJ5_putStringAt_47b60, cJ5_putStringAt_47b60, 3, none)
theorem k_J5_putStringAt_47b60 : Cd MJ5_putStringAt_47b60 ∈ wl := wl_in 496 (by decide +kernel) rfl
abbrev MJ5_inflateIfNeededFor_a7421 : Mr := (RJ5, yJ5_inflateIfNeededFor_a7421, cJ5_inflateIfNeededFor_a7421, 2, none)
theorem k_J5_inflateIfNeededFor_a7421 : Cd MJ5_inflateIfNeededFor_a7421 ∈ wl := wl_in 500 (by decide +kernel) rfl
abbrev MJ5_inflate_da8c8 : Mr := (RJ5, yJ5_inflate_da8c8, cJ5_inflate_da8c8, 2, none)
theorem k_J5_inflate_da8c8 : Cd MJ5_inflate_da8c8 ∈ wl := wl_in 505 (by decide +kernel) rfl
abbrev MJ1_inflate_0e8fd : Mr := (RJ1, yJ1_inflate_0e8fd, cJ1_inflate_0e8fd, 5, none)
theorem k_J1_inflate_0e8fd : Cd MJ1_inflate_0e8fd ∈ wl := wl_in 508 (by decide +kernel) rfl
abbrev MJ2_inflate_0e8fd : Mr := (RJ2, yJ2_inflate_0e8fd, cJ2_inflate_0e8fd, 6, none)
theorem k_J2_inflate_0e8fd : Cd MJ2_inflate_0e8fd ∈ wl := wl_in 511 (by decide +kernel) rfl
abbrev MJ2_checkBoundsOffCount_d044e : Mr := (RJ2, yJ2_checkBoundsOffCount_d044e, cJ2_checkBoundsOffCount_d044e, 3, none)
theorem k_J2_checkBoundsOffCount_d044e : Cd MJ2_checkBoundsOffCount_d044e ∈ wl := wl_in 514 (by decide +kernel) rfl
abbrev MJ0_checkBoundsOffCount_cabcc : Mr := (RJ0, yJ0_checkBoundsOffCount_cabcc, cJ0_checkBoundsOffCount_cabcc, 3, some .int)
theorem k_J0_checkBoundsOffCount_cabcc : Cd MJ0_checkBoundsOffCount_cabcc ∈ wl := wl_in 517 (by decide +kernel) rfl
abbrev MJ3_checkFromIndexSize_8c36e : Mr := (RJ3, yJ3_checkFromIndexSize_8c36e, cJ3_checkFromIndexSize_8c36e, 4, some .int)
theorem k_J3_checkFromIndexSize_8c36e : Cd MJ3_checkFromIndexSize_8c36e ∈ wl := wl_in 520 (by decide +kernel) rfl
abbrev MJ0_getBytes_840e7 : Mr := (RJ0, yJ0_getBytes_840e7, cJ0_getBytes_840e7, 4, none)
theorem k_J0_getBytes_840e7 : Cd MJ0_getBytes_840e7 ∈ wl := wl_in 524 (by decide +kernel) rfl
abbrev MJ4_append_bf812 : Mr := (RJ4, yJ4_append_bf812, cJ4_append_bf812, 2, some (.object "java/lang/StringBuilder"))
theorem k_J4_append_bf812 : Cd MJ4_append_bf812 ∈ wl := wl_in 530 (by decide +kernel) rfl
abbrev MJ5_append_c97b9 : Mr := (RJ5, yJ5_append_c97b9, cJ5_append_c97b9, 4, some (.object "java/lang/AbstractStringBuilder"))
theorem k_J5_append_c97b9 : Cd MJ5_append_c97b9 ∈ wl := wl_in 533 (by decide +kernel) rfl
abbrev MJ6_stringSize_0f7a4 : Mr := (RJ6, yJ6_stringSize_0f7a4, cJ6_stringSize_0f7a4, 4, some .int)
theorem k_J6_stringSize_0f7a4 : Cd MJ6_stringSize_0f7a4 ∈ wl := wl_in 536 (by decide +kernel) rfl
abbrev MJ6_getChars_ba4f3 : Mr := (RJ6, yJ6_getChars_ba4f3, cJ6_getChars_ba4f3, 7, some .int)
theorem k_J6_getChars_ba4f3 : Cd MJ6_getChars_ba4f3 ∈ wl := wl_in 539 (by decide +kernel) rfl
abbrev MJ2_getChars_46870 : Mr := (RJ2, yJ2_getChars_46870, cJ2_getChars_46870, 5, some .int)
theorem k_J2_getChars_46870 : Cd MJ2_getChars_46870 ∈ wl := wl_in 546 (by decide +kernel) rfl
abbrev MJ2_getChars_ba4f3 : Mr := (RJ2, yJ2_getChars_ba4f3, cJ2_getChars_ba4f3, 7, some .int)
theorem k_J2_getChars_ba4f3 : Cd MJ2_getChars_ba4f3 ∈ wl := wl_in 549 (by decide +kernel) rfl
abbrev MJ4_toString_0e30d : Mr := (RJ4, yJ4_toString_0e30d, cJ4_toString_0e30d, 1, some (.object "java/lang/String"))
theorem k_J4_toString_0e30d : Cd MJ4_toString_0e30d ∈ wl := wl_in 555 (by decide +kernel) rfl
abbrev MJ0_init_81219 : Mr := (RJ0, yJ0_init_81219, cJ0_init_81219, 2, none)
theorem k_J0_init_81219 : Cd MJ0_init_81219 ∈ wl := wl_in 560 (by decide +kernel) rfl
abbrev MJ0_init_db425 : Mr := (RJ0, yJ0_init_db425, cJ0_init_db425, 5, none)
theorem k_J0_init_db425 : Cd MJ0_init_db425 ∈ wl := wl_in 563 (by decide +kernel) rfl
abbrev MJ5_getValue_6d5f1 : Mr := (RJ5, yJ5_getValue_6d5f1, cJ5_getValue_6d5f1, 1, some (.array .byte))
theorem k_J5_getValue_6d5f1 : Cd MJ5_getValue_6d5f1 ∈ wl := wl_in 569 (by decide +kernel) rfl
abbrev MJ4_length_8abf5 : Mr := (RJ4, yJ4_length_8abf5, cJ4_length_8abf5, 1, some .int)
theorem k_J4_length_8abf5 : Cd MJ4_length_8abf5 ∈ wl := wl_in 575 (by decide +kernel) rfl
abbrev MJ5_length_8abf5 : Mr := (RJ5, yJ5_length_8abf5, cJ5_length_8abf5, 1, some .int)
theorem k_J5_length_8abf5 : Cd MJ5_length_8abf5 ∈ wl := wl_in 577 (by decide +kernel) rfl
abbrev MJ7_copyOfRange_39247 : Mr := (RJ7, yJ7_copyOfRange_39247, cJ7_copyOfRange_39247, 3, some (.array .byte))
theorem k_J7_copyOfRange_39247 : Cd MJ7_copyOfRange_39247 ∈ wl := wl_in 581 (by decide +kernel) rfl
abbrev MJ7_copyOfRangeByte_39247 : Mr := (RJ7, yJ7_copyOfRangeByte_39247, cJ7_copyOfRangeByte_39247, 5, some (.array .byte))
theorem k_J7_copyOfRangeByte_39247 : Cd MJ7_copyOfRangeByte_39247 ∈ wl := wl_in 584 (by decide +kernel) rfl
abbrev MJ7_checkLength_df160 : Mr := (RJ7, yJ7_checkLength_df160, cJ7_checkLength_df160, 2, none)
theorem k_J7_checkLength_df160 : Cd MJ7_checkLength_df160 ∈ wl := wl_in 587 (by decide +kernel) rfl
abbrev MJ2_compress_39247 : Mr := (RJ2, yJ2_compress_39247, cJ2_compress_39247, 6, some (.array .byte))
theorem k_J2_compress_39247 : Cd MJ2_compress_39247 ∈ wl := wl_in 665 (by decide +kernel) rfl
abbrev MJ2_compress_5af95 : Mr := (RJ2, yJ2_compress_5af95, cJ2_compress_5af95, 7, some .int)
theorem k_J2_compress_5af95 : Cd MJ2_compress_5af95 ∈ wl := wl_in 668 (by decide +kernel) rfl
abbrev MJ2_coderFromArrayLen_85cad : Mr := (RJ2, yJ2_coderFromArrayLen_85cad, cJ2_coderFromArrayLen_85cad, 2, some .byte)
theorem k_J2_coderFromArrayLen_85cad : Cd MJ2_coderFromArrayLen_85cad ∈ wl := wl_in 672 (by decide +kernel) rfl
abbrev MJ1_fillNull_b72d1 : Mr := (RJ1, yJ1_fillNull_b72d1, cJ1_fillNull_b72d1, 3, none)
theorem k_J1_fillNull_b72d1 : Cd MJ1_fillNull_b72d1 ∈ wl := wl_in 697 (by decide +kernel) rfl
abbrev MJ7_fill_eb02e : Mr := (RJ7, yJ7_fill_eb02e, cJ7_fill_eb02e, 5, none)
theorem k_J7_fill_eb02e : Cd MJ7_fill_eb02e ∈ wl := wl_in 700 (by decide +kernel) rfl
abbrev MJ7_rangeCheck_23922 : Mr := (RJ7, yJ7_rangeCheck_23922, cJ7_rangeCheck_23922, 3, none)
theorem k_J7_rangeCheck_23922 : Cd MJ7_rangeCheck_23922 ∈ wl := wl_in 703 (by decide +kernel) rfl
abbrev MJx00060_init_d00df : Mr := (RJx00060, yJx00060_init_d00df, cJx00060_init_d00df, 2, none)
theorem k_Jx00060_init_d00df : Cd MJx00060_init_d00df ∈ wl := wl_in 720 (by decide +kernel) rfl
abbrev MJ2_fillNull_b72d1 : Mr := (RJ2, yJ2_fillNull_b72d1, cJ2_fillNull_b72d1, 3, none)
theorem k_J2_fillNull_b72d1 : Cd MJ2_fillNull_b72d1 ∈ wl := wl_in 732 (by decide +kernel) rfl
abbrev MJ4_append_cf468 : Mr := (RJ4, yJ4_append_cf468, cJ4_append_cf468, 2, some (.object "java/lang/StringBuilder"))
theorem k_J4_append_cf468 : Cd MJ4_append_cf468 ∈ wl := wl_in 737 (by decide +kernel) rfl
abbrev MJ5_append_3fe6f : Mr := (RJ5, yJ5_append_3fe6f, cJ5_append_3fe6f, 2, some (.object "java/lang/AbstractStringBuilder"))
theorem k_J5_append_3fe6f : Cd MJ5_append_3fe6f ∈ wl := wl_in 740 (by decide +kernel) rfl
abbrev MJ1_canEncode_fc78d : Mr := (RJ1, yJ1_canEncode_fc78d, cJ1_canEncode_fc78d, 1, some .boolean)
theorem k_J1_canEncode_fc78d : Cd MJ1_canEncode_fc78d ∈ wl := wl_in 743 (by decide +kernel) rfl
abbrev MJ2_putCharSB_b72d1 : Mr := (RJ2, yJ2_putCharSB_b72d1, cJ2_putCharSB_b72d1, 3, none)
theorem k_J2_putCharSB_b72d1 : Cd MJ2_putCharSB_b72d1 ∈ wl := wl_in 746 (by decide +kernel) rfl
abbrev MX4_readFloor : Mr := (RX4, yX4_readFloor, cX4_readFloor, 4, some .int)
theorem k_X4_readFloor : Cd MX4_readFloor ∈ wl := wl_in 751 (by decide +kernel) rfl
abbrev MX2_isFullFor : Mr := (RX2, yX2_isFullFor, cX2_isFullFor, 5, some .boolean)
theorem k_X2_isFullFor : Cd MX2_isFullFor ∈ wl := wl_in 755 (by decide +kernel) rfl
abbrev MX2_receive : Mr := (RX2, yX2_receive, cX2_receive, 6, some .int)
theorem k_X2_receive : Cd MX2_receive ∈ wl := wl_in 759 (by decide +kernel) rfl
abbrev MX4_readPay : Mr := (RX4, yX4_readPay, cX4_readPay, 3, none)
theorem k_X4_readPay : Cd MX4_readPay ∈ wl := wl_in 765 (by decide +kernel) rfl
abbrev MX4_readKnownName : Mr := (RX4, yX4_readKnownName, cX4_readKnownName, 2, some (.object "AccentHouse$Lodger"))
theorem k_X4_readKnownName : Cd MX4_readKnownName ∈ wl := wl_in 769 (by decide +kernel) rfl
abbrev MX2_takePayment : Mr := (RX2, yX2_takePayment, cX2_takePayment, 3, none)
theorem k_X2_takePayment : Cd MX2_takePayment ∈ wl := wl_in 773 (by decide +kernel) rfl
abbrev MX4_readMove : Mr := (RX4, yX4_readMove, cX4_readMove, 3, none)
theorem k_X4_readMove : Cd MX4_readMove ∈ wl := wl_in 778 (by decide +kernel) rfl
abbrev MX4_readDays : Mr := (RX4, yX4_readDays, cX4_readDays, 3, none)
theorem k_X4_readDays : Cd MX4_readDays ∈ wl := wl_in 783 (by decide +kernel) rfl
abbrev MX2_passDay : Mr := (RX2, yX2_passDay, cX2_passDay, 2, none)
theorem k_X2_passDay : Cd MX2_passDay ∈ wl := wl_in 787 (by decide +kernel) rfl
abbrev MX2_collectRent : Mr := (RX2, yX2_collectRent, cX2_collectRent, 3, none)
theorem k_X2_collectRent : Cd MX2_collectRent ∈ wl := wl_in 791 (by decide +kernel) rfl
abbrev MX2_dailyRent : Mr := (RX2, yX2_dailyRent, cX2_dailyRent, 2, some .int)
theorem k_X2_dailyRent : Cd MX2_dailyRent ∈ wl := wl_in 795 (by decide +kernel) rfl
abbrev MX2_giveLessons : Mr := (RX2, yX2_giveLessons, cX2_giveLessons, 2, none)
theorem k_X2_giveLessons : Cd MX2_giveLessons ∈ wl := wl_in 799 (by decide +kernel) rfl
abbrev MX0_approach : Mr := (RX0, yX0_approach, cX0_approach, 3, some .boolean)
theorem k_X0_approach : Cd MX0_approach ∈ wl := wl_in 803 (by decide +kernel) rfl
abbrev MX0_farthestVowel : Mr := (RX0, yX0_farthestVowel, cX0_farthestVowel, 7, some .int)
theorem k_X0_farthestVowel : Cd MX0_farthestVowel ∈ wl := wl_in 807 (by decide +kernel) rfl
abbrev MX2_serveDinner : Mr := (RX2, yX2_serveDinner, cX2_serveDinner, 3, none)
theorem k_X2_serveDinner : Cd MX2_serveDinner ∈ wl := wl_in 811 (by decide +kernel) rfl
abbrev MX2_crowdOn : Mr := (RX2, yX2_crowdOn, cX2_crowdOn, 4, some .int)
theorem k_X2_crowdOn : Cd MX2_crowdOn ∈ wl := wl_in 815 (by decide +kernel) rfl
abbrev MX2_computeAverage : Mr := (RX2, yX2_computeAverage, cX2_computeAverage, 3, none)
theorem k_X2_computeAverage : Cd MX2_computeAverage ∈ wl := wl_in 819 (by decide +kernel) rfl
abbrev MX2_averagePosition : Mr := (RX2, yX2_averagePosition, cX2_averagePosition, 6, some .int)
theorem k_X2_averagePosition : Cd MX2_averagePosition ∈ wl := wl_in 823 (by decide +kernel) rfl
abbrev MX2_inspect : Mr := (RX2, yX2_inspect, cX2_inspect, 2, none)
theorem k_X2_inspect : Cd MX2_inspect ∈ wl := wl_in 827 (by decide +kernel) rfl
abbrev MX2_mustLeave : Mr := (RX2, yX2_mustLeave, cX2_mustLeave, 2, some .boolean)
theorem k_X2_mustLeave : Cd MX2_mustLeave ∈ wl := wl_in 831 (by decide +kernel) rfl
abbrev MX0_distanceTo : Mr := (RX0, yX0_distanceTo, cX0_distanceTo, 5, some .int)
theorem k_X0_distanceTo : Cd MX0_distanceTo ∈ wl := wl_in 835 (by decide +kernel) rfl
abbrev MX0_rhymesWith : Mr := (RX0, yX0_rhymesWith, cX0_rhymesWith, 4, some .boolean)
theorem k_X0_rhymesWith : Cd MX0_rhymesWith ∈ wl := wl_in 839 (by decide +kernel) rfl
abbrev MX2_dismiss : Mr := (RX2, yX2_dismiss, cX2_dismiss, 4, none)
theorem k_X2_dismiss : Cd MX2_dismiss ∈ wl := wl_in 843 (by decide +kernel) rfl
abbrev MX2_copyFrom : Mr := (RX2, yX2_copyFrom, cX2_copyFrom, 3, none)
theorem k_X2_copyFrom : Cd MX2_copyFrom ∈ wl := wl_in 848 (by decide +kernel) rfl
abbrev MX0_copyFrom : Mr := (RX0, yX0_copyFrom, cX0_copyFrom, 2, none)
theorem k_X0_copyFrom : Cd MX0_copyFrom ∈ wl := wl_in 852 (by decide +kernel) rfl
abbrev MX3_copyFrom : Mr := (RX3, yX3_copyFrom, cX3_copyFrom, 2, none)
theorem k_X3_copyFrom : Cd MX3_copyFrom ∈ wl := wl_in 857 (by decide +kernel) rfl
abbrev MX7_errorKind : Mr := (RX7, yX7_errorKind, cX7_errorKind, 1, some .int)
theorem k_X7_errorKind : Cd MX7_errorKind ∈ wl := wl_in 896 (by decide +kernel) rfl
abbrev MX7_errorOffset : Mr := (RX7, yX7_errorOffset, cX7_errorOffset, 1, some .int)
theorem k_X7_errorOffset : Cd MX7_errorOffset ∈ wl := wl_in 900 (by decide +kernel) rfl
abbrev MX7_day : Mr := (RX7, yX7_day, cX7_day, 1, some .int)
theorem k_X7_day : Cd MX7_day ∈ wl := wl_in 904 (by decide +kernel) rfl
abbrev MX7_lodgerCount : Mr := (RX7, yX7_lodgerCount, cX7_lodgerCount, 1, some .int)
theorem k_X7_lodgerCount : Cd MX7_lodgerCount ∈ wl := wl_in 908 (by decide +kernel) rfl
abbrev MX7_baseRent : Mr := (RX7, yX7_baseRent, cX7_baseRent, 1, some .int)
theorem k_X7_baseRent : Cd MX7_baseRent ∈ wl := wl_in 912 (by decide +kernel) rfl
abbrev MX7_tolerance : Mr := (RX7, yX7_tolerance, cX7_tolerance, 1, some .int)
theorem k_X7_tolerance : Cd MX7_tolerance ∈ wl := wl_in 916 (by decide +kernel) rfl
abbrev MX7_daysToInspection : Mr := (RX7, yX7_daysToInspection, cX7_daysToInspection, 1, some .int)
theorem k_X7_daysToInspection : Cd MX7_daysToInspection ∈ wl := wl_in 920 (by decide +kernel) rfl
abbrev MX7_evictions : Mr := (RX7, yX7_evictions, cX7_evictions, 1, some .int)
theorem k_X7_evictions : Cd MX7_evictions ∈ wl := wl_in 924 (by decide +kernel) rfl
abbrev MX7_undoCount : Mr := (RX7, yX7_undoCount, cX7_undoCount, 1, some .int)
theorem k_X7_undoCount : Cd MX7_undoCount ∈ wl := wl_in 928 (by decide +kernel) rfl
abbrev MX7_findByName : Mr := (RX7, yX7_findByName, cX7_findByName, 3, some .int)
theorem k_X7_findByName : Cd MX7_findByName ∈ wl := wl_in 932 (by decide +kernel) rfl
abbrev MX7_meanDistance : Mr := (RX7, yX7_meanDistance, cX7_meanDistance, 3, some .double)
theorem k_X7_meanDistance : Cd MX7_meanDistance ∈ wl := wl_in 937 (by decide +kernel) rfl
abbrev MX7_rhymingShare : Mr := (RX7, yX7_rhymingShare, cX7_rhymingShare, 3, some .float)
theorem k_X7_rhymingShare : Cd MX7_rhymingShare ∈ wl := wl_in 942 (by decide +kernel) rfl
abbrev MX7_totalPaid : Mr := (RX7, yX7_totalPaid, cX7_totalPaid, 1, some .int)
theorem k_X7_totalPaid : Cd MX7_totalPaid ∈ wl := wl_in 947 (by decide +kernel) rfl
abbrev MX7_totalCharged : Mr := (RX7, yX7_totalCharged, cX7_totalCharged, 1, some .int)
theorem k_X7_totalCharged : Cd MX7_totalCharged ∈ wl := wl_in 951 (by decide +kernel) rfl
abbrev MX7_settled : Mr := (RX7, yX7_settled, cX7_settled, 1, some .int)
theorem k_X7_settled : Cd MX7_settled ∈ wl := wl_in 955 (by decide +kernel) rfl
abbrev MX7_ledgerDifference : Mr := (RX7, yX7_ledgerDifference, cX7_ledgerDifference, 3, some .int)
theorem k_X7_ledgerDifference : Cd MX7_ledgerDifference ∈ wl := wl_in 959 (by decide +kernel) rfl
abbrev MX7_append : Mr := (RX7, yX7_append, cX7_append, 6, some .int)
theorem k_X7_append : Cd MX7_append ∈ wl := wl_in 967 (by decide +kernel) rfl
abbrev MX7_appendWord : Mr := (RX7, yX7_appendWord, cX7_appendWord, 3, none)
theorem k_X7_appendWord : Cd MX7_appendWord ∈ wl := wl_in 987 (by decide +kernel) rfl
abbrev MX7_load : Mr := (RX7, yX7_load, cX7_load, 3, some .int)
theorem k_X7_load : Cd MX7_load ∈ wl := wl_in 996 (by decide +kernel) rfl
abbrev MX1_clear : Mr := (RX1, yX1_clear, cX1_clear, 1, none)
theorem k_X1_clear : Cd MX1_clear ∈ wl := wl_in 1016 (by decide +kernel) rfl
abbrev MX7_rentOf : Mr := (RX7, yX7_rentOf, cX7_rentOf, 2, some .int)
theorem k_X7_rentOf : Cd MX7_rentOf ∈ wl := wl_in 1023 (by decide +kernel) rfl
abbrev MX7_requireFloor : Mr := (RX7, yX7_requireFloor, cX7_requireFloor, 2, none)
theorem k_X7_requireFloor : Cd MX7_requireFloor ∈ wl := wl_in 1027 (by decide +kernel) rfl
abbrev MX7_landladyVowel : Mr := (RX7, yX7_landladyVowel, cX7_landladyVowel, 2, some .int)
theorem k_X7_landladyVowel : Cd MX7_landladyVowel ∈ wl := wl_in 1036 (by decide +kernel) rfl
abbrev MX7_requireVowel : Mr := (RX7, yX7_requireVowel, cX7_requireVowel, 2, none)
theorem k_X7_requireVowel : Cd MX7_requireVowel ∈ wl := wl_in 1040 (by decide +kernel) rfl
abbrev MX7_floorOf : Mr := (RX7, yX7_floorOf, cX7_floorOf, 2, some .int)
theorem k_X7_floorOf : Cd MX7_floorOf ∈ wl := wl_in 1048 (by decide +kernel) rfl
abbrev MX7_requireLodger : Mr := (RX7, yX7_requireLodger, cX7_requireLodger, 2, some (.object "AccentHouse$Lodger"))
theorem k_X7_requireLodger : Cd MX7_requireLodger ∈ wl := wl_in 1052 (by decide +kernel) rfl
abbrev MX7_balanceOf : Mr := (RX7, yX7_balanceOf, cX7_balanceOf, 2, some .int)
theorem k_X7_balanceOf : Cd MX7_balanceOf ∈ wl := wl_in 1060 (by decide +kernel) rfl
abbrev MX7_vowelOf : Mr := (RX7, yX7_vowelOf, cX7_vowelOf, 4, some .int)
theorem k_X7_vowelOf : Cd MX7_vowelOf ∈ wl := wl_in 1067 (by decide +kernel) rfl
abbrev MX7_lessonsOf : Mr := (RX7, yX7_lessonsOf, cX7_lessonsOf, 2, some .int)
theorem k_X7_lessonsOf : Cd MX7_lessonsOf ∈ wl := wl_in 1074 (by decide +kernel) rfl
abbrev MX7_slipsOf : Mr := (RX7, yX7_slipsOf, cX7_slipsOf, 2, some .int)
theorem k_X7_slipsOf : Cd MX7_slipsOf ∈ wl := wl_in 1081 (by decide +kernel) rfl
abbrev MX7_daysStayed : Mr := (RX7, yX7_daysStayed, cX7_daysStayed, 2, some .int)
theorem k_X7_daysStayed : Cd MX7_daysStayed ∈ wl := wl_in 1088 (by decide +kernel) rfl
abbrev MX7_nameLength : Mr := (RX7, yX7_nameLength, cX7_nameLength, 2, some .int)
theorem k_X7_nameLength : Cd MX7_nameLength ∈ wl := wl_in 1095 (by decide +kernel) rfl
abbrev MX7_nameLetter : Mr := (RX7, yX7_nameLetter, cX7_nameLetter, 4, some .char)
theorem k_X7_nameLetter : Cd MX7_nameLetter ∈ wl := wl_in 1102 (by decide +kernel) rfl
abbrev MX7_lodgersOn : Mr := (RX7, yX7_lodgersOn, cX7_lodgersOn, 2, some .int)
theorem k_X7_lodgersOn : Cd MX7_lodgersOn ∈ wl := wl_in 1110 (by decide +kernel) rfl
abbrev MX7_lodgerOn : Mr := (RX7, yX7_lodgerOn, cX7_lodgerOn, 4, some .int)
theorem k_X7_lodgerOn : Cd MX7_lodgerOn ∈ wl := wl_in 1118 (by decide +kernel) rfl
abbrev MX2_numberAt : Mr := (RX2, yX2_numberAt, cX2_numberAt, 5, some .int)
theorem k_X2_numberAt : Cd MX2_numberAt ∈ wl := wl_in 1122 (by decide +kernel) rfl
abbrev MX7_averageVowel : Mr := (RX7, yX7_averageVowel, cX7_averageVowel, 3, some .int)
theorem k_X7_averageVowel : Cd MX7_averageVowel ∈ wl := wl_in 1130 (by decide +kernel) rfl
abbrev MX7_distanceToLandlady : Mr := (RX7, yX7_distanceToLandlady, cX7_distanceToLandlady, 2, some .int)
theorem k_X7_distanceToLandlady : Cd MX7_distanceToLandlady ∈ wl := wl_in 1139 (by decide +kernel) rfl
abbrev MX7_distance : Mr := (RX7, yX7_distance, cX7_distance, 5, some .int)
theorem k_X7_distance : Cd MX7_distance ∈ wl := wl_in 1146 (by decide +kernel) rfl
abbrev MX7_rhymes : Mr := (RX7, yX7_rhymes, cX7_rhymes, 5, some .boolean)
theorem k_X7_rhymes : Cd MX7_rhymes ∈ wl := wl_in 1153 (by decide +kernel) rfl
abbrev MX7_rhymesWithLandlady : Mr := (RX7, yX7_rhymesWithLandlady, cX7_rhymesWithLandlady, 2, some .boolean)
theorem k_X7_rhymesWithLandlady : Cd MX7_rhymesWithLandlady ∈ wl := wl_in 1160 (by decide +kernel) rfl
abbrev MX7_rhymeCount : Mr := (RX7, yX7_rhymeCount, cX7_rhymeCount, 5, some .int)
theorem k_X7_rhymeCount : Cd MX7_rhymeCount ∈ wl := wl_in 1167 (by decide +kernel) rfl
abbrev MX7_closestTo : Mr := (RX7, yX7_closestTo, cX7_closestTo, 7, some .int)
theorem k_X7_closestTo : Cd MX7_closestTo ∈ wl := wl_in 1174 (by decide +kernel) rfl
abbrev MX7_lessonVowel : Mr := (RX7, yX7_lessonVowel, cX7_lessonVowel, 2, some .int)
theorem k_X7_lessonVowel : Cd MX7_lessonVowel ∈ wl := wl_in 1181 (by decide +kernel) rfl
abbrev MX7_slipVowel : Mr := (RX7, yX7_slipVowel, cX7_slipVowel, 3, some .int)
theorem k_X7_slipVowel : Cd MX7_slipVowel ∈ wl := wl_in 1189 (by decide +kernel) rfl
abbrev MX7_mustGo : Mr := (RX7, yX7_mustGo, cX7_mustGo, 2, some .boolean)
theorem k_X7_mustGo : Cd MX7_mustGo ∈ wl := wl_in 1197 (by decide +kernel) rfl
abbrev MX7_balanceAfter : Mr := (RX7, yX7_balanceAfter, cX7_balanceAfter, 4, some .int)
theorem k_X7_balanceAfter : Cd MX7_balanceAfter ∈ wl := wl_in 1205 (by decide +kernel) rfl
abbrev MX7_requireRange : Mr := (RX7, yX7_requireRange, cX7_requireRange, 4, none)
theorem k_X7_requireRange : Cd MX7_requireRange ∈ wl := wl_in 1209 (by decide +kernel) rfl
abbrev MX7_startTrial : Mr := (RX7, yX7_startTrial, cX7_startTrial, 2, some (.object "AccentHouse$Lodger"))
theorem k_X7_startTrial : Cd MX7_startTrial ∈ wl := wl_in 1214 (by decide +kernel) rfl
abbrev MX7_runTrial : Mr := (RX7, yX7_runTrial, cX7_runTrial, 4, some .int)
theorem k_X7_runTrial : Cd MX7_runTrial ∈ wl := wl_in 1218 (by decide +kernel) rfl
abbrev MX2_houses : Mr := (RX2, yX2_houses, cX2_houses, 3, some .boolean)
theorem k_X2_houses : Cd MX2_houses ∈ wl := wl_in 1223 (by decide +kernel) rfl
abbrev MX7_distanceAfter : Mr := (RX7, yX7_distanceAfter, cX7_distanceAfter, 5, some .int)
theorem k_X7_distanceAfter : Cd MX7_distanceAfter ∈ wl := wl_in 1230 (by decide +kernel) rfl
abbrev MX7_daysToEviction : Mr := (RX7, yX7_daysToEviction, cX7_daysToEviction, 2, some .int)
theorem k_X7_daysToEviction : Cd MX7_daysToEviction ∈ wl := wl_in 1237 (by decide +kernel) rfl
abbrev MX7_paymentToStay : Mr := (RX7, yX7_paymentToStay, cX7_paymentToStay, 6, some .int)
theorem k_X7_paymentToStay : Cd MX7_paymentToStay ∈ wl := wl_in 1244 (by decide +kernel) rfl
abbrev MX7_staysWith : Mr := (RX7, yX7_staysWith, cX7_staysWith, 4, some .boolean)
theorem k_X7_staysWith : Cd MX7_staysWith ∈ wl := wl_in 1248 (by decide +kernel) rfl
abbrev MX7_advance : Mr := (RX7, yX7_advance, cX7_advance, 4, some .int)
theorem k_X7_advance : Cd MX7_advance ∈ wl := wl_in 1256 (by decide +kernel) rfl
abbrev MX1_remember : Mr := (RX1, yX1_remember, cX1_remember, 2, none)
theorem k_X1_remember : Cd MX1_remember ∈ wl := wl_in 1261 (by decide +kernel) rfl
abbrev MX7_moveIn : Mr := (RX7, yX7_moveIn, cX7_moveIn, 4, some .int)
theorem k_X7_moveIn : Cd MX7_moveIn ∈ wl := wl_in 1269 (by decide +kernel) rfl
abbrev MX7_requirePlace : Mr := (RX7, yX7_requirePlace, cX7_requirePlace, 3, none)
theorem k_X7_requirePlace : Cd MX7_requirePlace ∈ wl := wl_in 1275 (by decide +kernel) rfl
abbrev MX2_unusedLetter : Mr := (RX2, yX2_unusedLetter, cX2_unusedLetter, 2, some (.object "java/lang/String"))
theorem k_X2_unusedLetter : Cd MX2_unusedLetter ∈ wl := wl_in 1281 (by decide +kernel) rfl
abbrev MX2_hasLetterName : Mr := (RX2, yX2_hasLetterName, cX2_hasLetterName, 4, some .boolean)
theorem k_X2_hasLetterName : Cd MX2_hasLetterName ∈ wl := wl_in 1288 (by decide +kernel) rfl
abbrev MJ0_substring_37a41 : Mr := (RJ0, yJ0_substring_37a41, cJ0_substring_37a41, 5, some (.object "java/lang/String"))
theorem k_J0_substring_37a41 : Cd MJ0_substring_37a41 ∈ wl := wl_in 1292 (by decide +kernel) rfl
abbrev MJ1_newString_b4f7a : Mr := (RJ1, yJ1_newString_b4f7a, cJ1_newString_b4f7a, 3, some (.object "java/lang/String"))
theorem k_J1_newString_b4f7a : Cd MJ1_newString_b4f7a ∈ wl := wl_in 1297 (by decide +kernel) rfl
abbrev MJ0_init_031fb : Mr := (RJ0, yJ0_init_031fb, cJ0_init_031fb, 3, none)
theorem k_J0_init_031fb : Cd MJ0_init_031fb ∈ wl := wl_in 1303 (by decide +kernel) rfl
abbrev MJ2_newString_b4f7a : Mr := (RJ2, yJ2_newString_b4f7a, cJ2_newString_b4f7a, 5, some (.object "java/lang/String"))
theorem k_J2_newString_b4f7a : Cd MJ2_newString_b4f7a ∈ wl := wl_in 1306 (by decide +kernel) rfl
abbrev MX7_moveOut : Mr := (RX7, yX7_moveOut, cX7_moveOut, 3, some .int)
theorem k_X7_moveOut : Cd MX7_moveOut ∈ wl := wl_in 1321 (by decide +kernel) rfl
abbrev MX7_moveTo : Mr := (RX7, yX7_moveTo, cX7_moveTo, 5, some .int)
theorem k_X7_moveTo : Cd MX7_moveTo ∈ wl := wl_in 1329 (by decide +kernel) rfl
abbrev MX7_pay : Mr := (RX7, yX7_pay, cX7_pay, 4, some .int)
theorem k_X7_pay : Cd MX7_pay ∈ wl := wl_in 1336 (by decide +kernel) rfl
abbrev MX7_setLandladyVowel : Mr := (RX7, yX7_setLandladyVowel, cX7_setLandladyVowel, 4, some .int)
theorem k_X7_setLandladyVowel : Cd MX7_setLandladyVowel ∈ wl := wl_in 1344 (by decide +kernel) rfl
abbrev MX7_setTolerance : Mr := (RX7, yX7_setTolerance, cX7_setTolerance, 3, some .int)
theorem k_X7_setTolerance : Cd MX7_setTolerance ∈ wl := wl_in 1351 (by decide +kernel) rfl
abbrev MX7_setBaseRent : Mr := (RX7, yX7_setBaseRent, cX7_setBaseRent, 3, some .int)
theorem k_X7_setBaseRent : Cd MX7_setBaseRent ∈ wl := wl_in 1358 (by decide +kernel) rfl
abbrev MX7_restore : Mr := (RX7, yX7_restore, cX7_restore, 2, some .int)
theorem k_X7_restore : Cd MX7_restore ∈ wl := wl_in 1365 (by decide +kernel) rfl
abbrev MX7_requireSlot : Mr := (RX7, yX7_requireSlot, cX7_requireSlot, 2, none)
theorem k_X7_requireSlot : Cd MX7_requireSlot ∈ wl := wl_in 1369 (by decide +kernel) rfl
abbrev MX7_undo : Mr := (RX7, yX7_undo, cX7_undo, 1, some .int)
theorem k_X7_undo : Cd MX7_undo ∈ wl := wl_in 1378 (by decide +kernel) rfl
abbrev MX1_takeBack : Mr := (RX1, yX1_takeBack, cX1_takeBack, 2, none)
theorem k_X1_takeBack : Cd MX1_takeBack ∈ wl := wl_in 1383 (by decide +kernel) rfl
abbrev MX7_save : Mr := (RX7, yX7_save, cX7_save, 2, some .int)
theorem k_X7_save : Cd MX7_save ∈ wl := wl_in 1390 (by decide +kernel) rfl
abbrev MX7_writeLodger : Mr := (RX7, yX7_writeLodger, cX7_writeLodger, 4, some .int)
theorem k_X7_writeLodger : Cd MX7_writeLodger ∈ wl := wl_in 1397 (by decide +kernel) rfl
abbrev MX7_writeFloor : Mr := (RX7, yX7_writeFloor, cX7_writeFloor, 3, some .int)
theorem k_X7_writeFloor : Cd MX7_writeFloor ∈ wl := wl_in 1409 (by decide +kernel) rfl
abbrev MX7_outputCharacter : Mr := (RX7, yX7_outputCharacter, cX7_outputCharacter, 2, some .char)
theorem k_X7_outputCharacter : Cd MX7_outputCharacter ∈ wl := wl_in 1416 (by decide +kernel) rfl
abbrev MJ4_charAt_5068e : Mr := (RJ4, yJ4_charAt_5068e, cJ4_charAt_5068e, 2, some .char)
theorem k_J4_charAt_5068e : Cd MJ4_charAt_5068e ∈ wl := wl_in 1421 (by decide +kernel) rfl
abbrev MJ5_charAt_5068e : Mr := (RJ5, yJ5_charAt_5068e, cJ5_charAt_5068e, 5, some .char)
theorem k_J5_charAt_5068e : Cd MJ5_charAt_5068e ∈ wl := wl_in 1424 (by decide +kernel) rfl
abbrev MX8_init : Mr := (RX8, yX8_init, cX8_init, 3, none)
theorem k_X8_init : Cd MX8_init ∈ wl := wl_in 1432 (by decide +kernel) rfl
abbrev MX8_comes : Mr := (RX8, yX8_comes, cX8_comes, 7, none)
theorem k_X8_comes : Cd MX8_comes ∈ wl := wl_in 1440 (by decide +kernel) rfl
abbrev MX8_l : Mr := (RX8, yX8_l, cX8_l, 1, some .int)
theorem k_X8_l : Cd MX8_l ∈ wl := wl_in 1443 (by decide +kernel) rfl
abbrev MX8_passesDay : Mr := (RX8, yX8_passesDay, cX8_passesDay, 2, none)
theorem k_X8_passesDay : Cd MX8_passesDay ∈ wl := wl_in 1447 (by decide +kernel) rfl
abbrev MX8_charges : Mr := (RX8, yX8_charges, cX8_charges, 3, none)
theorem k_X8_charges : Cd MX8_charges ∈ wl := wl_in 1451 (by decide +kernel) rfl
abbrev MX8_rentAt : Mr := (RX8, yX8_rentAt, cX8_rentAt, 2, some .int)
theorem k_X8_rentAt : Cd MX8_rentAt ∈ wl := wl_in 1455 (by decide +kernel) rfl
abbrev MX8_teaches : Mr := (RX8, yX8_teaches, cX8_teaches, 3, none)
theorem k_X8_teaches : Cd MX8_teaches ∈ wl := wl_in 1459 (by decide +kernel) rfl
abbrev MX8_lessonFor : Mr := (RX8, yX8_lessonFor, cX8_lessonFor, 6, some .int)
theorem k_X8_lessonFor : Cd MX8_lessonFor ∈ wl := wl_in 1463 (by decide +kernel) rfl
abbrev MX8_at : Mr := (RX8, yX8_at, cX8_at, 3, some .int)
theorem k_X8_at : Cd MX8_at ∈ wl := wl_in 1467 (by decide +kernel) rfl
abbrev MX8_without : Mr := (RX8, yX8_without, cX8_without, 1, some .int)
theorem k_X8_without : Cd MX8_without ∈ wl := wl_in 1470 (by decide +kernel) rfl
abbrev MX8_moves : Mr := (RX8, yX8_moves, cX8_moves, 5, none)
theorem k_X8_moves : Cd MX8_moves ∈ wl := wl_in 1474 (by decide +kernel) rfl
abbrev MX8_averagesNow : Mr := (RX8, yX8_averagesNow, cX8_averagesNow, 3, none)
theorem k_X8_averagesNow : Cd MX8_averagesNow ∈ wl := wl_in 1478 (by decide +kernel) rfl
abbrev MX8_livingOn : Mr := (RX8, yX8_livingOn, cX8_livingOn, 5, some .int)
theorem k_X8_livingOn : Cd MX8_livingOn ∈ wl := wl_in 1482 (by decide +kernel) rfl
abbrev MX8_averageAt : Mr := (RX8, yX8_averageAt, cX8_averageAt, 7, some .int)
theorem k_X8_averageAt : Cd MX8_averageAt ∈ wl := wl_in 1486 (by decide +kernel) rfl
abbrev MX8_dines : Mr := (RX8, yX8_dines, cX8_dines, 3, none)
theorem k_X8_dines : Cd MX8_dines ∈ wl := wl_in 1490 (by decide +kernel) rfl
abbrev MX8_slipFor : Mr := (RX8, yX8_slipFor, cX8_slipFor, 7, some .int)
theorem k_X8_slipFor : Cd MX8_slipFor ∈ wl := wl_in 1494 (by decide +kernel) rfl
abbrev MX8_inspects : Mr := (RX8, yX8_inspects, cX8_inspects, 2, none)
theorem k_X8_inspects : Cd MX8_inspects ∈ wl := wl_in 1498 (by decide +kernel) rfl
abbrev MX8_hasToGo : Mr := (RX8, yX8_hasToGo, cX8_hasToGo, 2, some .boolean)
theorem k_X8_hasToGo : Cd MX8_hasToGo ∈ wl := wl_in 1502 (by decide +kernel) rfl
abbrev MX8_toLandlady : Mr := (RX8, yX8_toLandlady, cX8_toLandlady, 4, some .int)
theorem k_X8_toLandlady : Cd MX8_toLandlady ∈ wl := wl_in 1506 (by decide +kernel) rfl
abbrev MX8_rhymesHer : Mr := (RX8, yX8_rhymesHer, cX8_rhymesHer, 4, some .boolean)
theorem k_X8_rhymesHer : Cd MX8_rhymesHer ∈ wl := wl_in 1510 (by decide +kernel) rfl
abbrev MX8_goes : Mr := (RX8, yX8_goes, cX8_goes, 4, none)
theorem k_X8_goes : Cd MX8_goes ∈ wl := wl_in 1514 (by decide +kernel) rfl
abbrev MX8_thrown : Mr := (RX8, yX8_thrown, cX8_thrown, 1, some .int)
theorem k_X8_thrown : Cd MX8_thrown ∈ wl := wl_in 1598 (by decide +kernel) rfl
abbrev MX8_append : Mr := (RX8, yX8_append, cX8_append, 6, some .int)
theorem k_X8_append : Cd MX8_append ∈ wl := wl_in 1602 (by decide +kernel) rfl
abbrev MX8_refuse : Mr := (RX8, yX8_refuse, cX8_refuse, 2, some .int)
theorem k_X8_refuse : Cd MX8_refuse ∈ wl := wl_in 1606 (by decide +kernel) rfl
abbrev MX8_feeds : Mr := (RX8, yX8_feeds, cX8_feeds, 2, none)
theorem k_X8_feeds : Cd MX8_feeds ∈ wl := wl_in 1610 (by decide +kernel) rfl
abbrev MX8_told : Mr := (RX8, yX8_told, cX8_told, 2, some .int)
theorem k_X8_told : Cd MX8_told ∈ wl := wl_in 1614 (by decide +kernel) rfl
abbrev MX8_load : Mr := (RX8, yX8_load, cX8_load, 2, some .int)
theorem k_X8_load : Cd MX8_load ∈ wl := wl_in 1618 (by decide +kernel) rfl
abbrev MX8_in : Mr := (RX8, yX8_in, cX8_in, 3, some .boolean)
theorem k_X8_in : Cd MX8_in ∈ wl := wl_in 1621 (by decide +kernel) rfl
abbrev MX8_putsAside : Mr := (RX8, yX8_putsAside, cX8_putsAside, 2, none)
theorem k_X8_putsAside : Cd MX8_putsAside ∈ wl := wl_in 1625 (by decide +kernel) rfl
abbrev MX8_readsText : Mr := (RX8, yX8_readsText, cX8_readsText, 3, none)
theorem k_X8_readsText : Cd MX8_readsText ∈ wl := wl_in 1629 (by decide +kernel) rfl
abbrev MX8_next : Mr := (RX8, yX8_next, cX8_next, 3, none)
theorem k_X8_next : Cd MX8_next ∈ wl := wl_in 1633 (by decide +kernel) rfl
abbrev MX8_isLetter : Mr := (RX8, yX8_isLetter, cX8_isLetter, 1, some .boolean)
theorem k_X8_isLetter : Cd MX8_isLetter ∈ wl := wl_in 1636 (by decide +kernel) rfl
abbrev MX8_isDigit : Mr := (RX8, yX8_isDigit, cX8_isDigit, 1, some .boolean)
theorem k_X8_isDigit : Cd MX8_isDigit ∈ wl := wl_in 1639 (by decide +kernel) rfl
abbrev MX8_takesWord : Mr := (RX8, yX8_takesWord, cX8_takesWord, 2, none)
theorem k_X8_takesWord : Cd MX8_takesWord ∈ wl := wl_in 1643 (by decide +kernel) rfl
abbrev MX8_isKey : Mr := (RX8, yX8_isKey, cX8_isKey, 4, some .boolean)
theorem k_X8_isKey : Cd MX8_isKey ∈ wl := wl_in 1647 (by decide +kernel) rfl
abbrev MX8_errs : Mr := (RX8, yX8_errs, cX8_errs, 2, none)
theorem k_X8_errs : Cd MX8_errs ∈ wl := wl_in 1651 (by decide +kernel) rfl
abbrev MX8_goesOn : Mr := (RX8, yX8_goesOn, cX8_goesOn, 1, none)
theorem k_X8_goesOn : Cd MX8_goesOn ∈ wl := wl_in 1655 (by decide +kernel) rfl
abbrev MX8_takesNumber : Mr := (RX8, yX8_takesNumber, cX8_takesNumber, 4, some .int)
theorem k_X8_takesNumber : Cd MX8_takesNumber ∈ wl := wl_in 1659 (by decide +kernel) rfl
abbrev MX8_here : Mr := (RX8, yX8_here, cX8_here, 3, some .int)
theorem k_X8_here : Cd MX8_here ∈ wl := wl_in 1663 (by decide +kernel) rfl
abbrev MX8_takesSemicolon : Mr := (RX8, yX8_takesSemicolon, cX8_takesSemicolon, 1, none)
theorem k_X8_takesSemicolon : Cd MX8_takesSemicolon ∈ wl := wl_in 1667 (by decide +kernel) rfl
abbrev MX8_readsLine : Mr := (RX8, yX8_readsLine, cX8_readsLine, 2, none)
theorem k_X8_readsLine : Cd MX8_readsLine ∈ wl := wl_in 1671 (by decide +kernel) rfl
abbrev MX8_readsLodger : Mr := (RX8, yX8_readsLodger, cX8_readsLodger, 7, none)
theorem k_X8_readsLodger : Cd MX8_readsLodger ∈ wl := wl_in 1675 (by decide +kernel) rfl
abbrev MX8_isName : Mr := (RX8, yX8_isName, cX8_isName, 1, none)
theorem k_X8_isName : Cd MX8_isName ∈ wl := wl_in 1679 (by decide +kernel) rfl
abbrev MX8_lodgerNamed : Mr := (RX8, yX8_lodgerNamed, cX8_lodgerNamed, 6, some .int)
theorem k_X8_lodgerNamed : Cd MX8_lodgerNamed ∈ wl := wl_in 1683 (by decide +kernel) rfl
abbrev MX8_takesAccent : Mr := (RX8, yX8_takesAccent, cX8_takesAccent, 3, some .int)
theorem k_X8_takesAccent : Cd MX8_takesAccent ∈ wl := wl_in 1687 (by decide +kernel) rfl
abbrev MX8_readsPay : Mr := (RX8, yX8_readsPay, cX8_readsPay, 3, none)
theorem k_X8_readsPay : Cd MX8_readsPay ∈ wl := wl_in 1691 (by decide +kernel) rfl
abbrev MX8_takesLodger : Mr := (RX8, yX8_takesLodger, cX8_takesLodger, 2, some .int)
theorem k_X8_takesLodger : Cd MX8_takesLodger ∈ wl := wl_in 1695 (by decide +kernel) rfl
abbrev MX8_pays : Mr := (RX8, yX8_pays, cX8_pays, 3, none)
theorem k_X8_pays : Cd MX8_pays ∈ wl := wl_in 1699 (by decide +kernel) rfl
abbrev MX8_readsMove : Mr := (RX8, yX8_readsMove, cX8_readsMove, 3, none)
theorem k_X8_readsMove : Cd MX8_readsMove ∈ wl := wl_in 1703 (by decide +kernel) rfl
abbrev MX8_passes : Mr := (RX8, yX8_passes, cX8_passes, 3, none)
theorem k_X8_passes : Cd MX8_passes ∈ wl := wl_in 1707 (by decide +kernel) rfl
abbrev MX8_putsBack : Mr := (RX8, yX8_putsBack, cX8_putsBack, 2, none)
theorem k_X8_putsBack : Cd MX8_putsBack ∈ wl := wl_in 1711 (by decide +kernel) rfl
abbrev MX8_errorKind : Mr := (RX8, yX8_errorKind, cX8_errorKind, 1, some .int)
theorem k_X8_errorKind : Cd MX8_errorKind ∈ wl := wl_in 1715 (by decide +kernel) rfl
abbrev MX8_errorOffset : Mr := (RX8, yX8_errorOffset, cX8_errorOffset, 1, some .int)
theorem k_X8_errorOffset : Cd MX8_errorOffset ∈ wl := wl_in 1719 (by decide +kernel) rfl
abbrev MX8_day : Mr := (RX8, yX8_day, cX8_day, 1, some .int)
theorem k_X8_day : Cd MX8_day ∈ wl := wl_in 1723 (by decide +kernel) rfl
abbrev MX8_lodgerCount : Mr := (RX8, yX8_lodgerCount, cX8_lodgerCount, 1, some .int)
theorem k_X8_lodgerCount : Cd MX8_lodgerCount ∈ wl := wl_in 1727 (by decide +kernel) rfl
abbrev MX8_baseRent : Mr := (RX8, yX8_baseRent, cX8_baseRent, 1, some .int)
theorem k_X8_baseRent : Cd MX8_baseRent ∈ wl := wl_in 1731 (by decide +kernel) rfl
abbrev MX8_tolerance : Mr := (RX8, yX8_tolerance, cX8_tolerance, 1, some .int)
theorem k_X8_tolerance : Cd MX8_tolerance ∈ wl := wl_in 1735 (by decide +kernel) rfl
abbrev MX8_rentOf : Mr := (RX8, yX8_rentOf, cX8_rentOf, 2, some .int)
theorem k_X8_rentOf : Cd MX8_rentOf ∈ wl := wl_in 1739 (by decide +kernel) rfl
abbrev MX8_isFloor : Mr := (RX8, yX8_isFloor, cX8_isFloor, 1, some .boolean)
theorem k_X8_isFloor : Cd MX8_isFloor ∈ wl := wl_in 1742 (by decide +kernel) rfl
abbrev MX8_landladyVowel : Mr := (RX8, yX8_landladyVowel, cX8_landladyVowel, 2, some .int)
theorem k_X8_landladyVowel : Cd MX8_landladyVowel ∈ wl := wl_in 1746 (by decide +kernel) rfl
abbrev MX8_isVowel : Mr := (RX8, yX8_isVowel, cX8_isVowel, 1, some .boolean)
theorem k_X8_isVowel : Cd MX8_isVowel ∈ wl := wl_in 1749 (by decide +kernel) rfl
abbrev MX8_daysToInspection : Mr := (RX8, yX8_daysToInspection, cX8_daysToInspection, 1, some .int)
theorem k_X8_daysToInspection : Cd MX8_daysToInspection ∈ wl := wl_in 1753 (by decide +kernel) rfl
abbrev MX8_daysLeft : Mr := (RX8, yX8_daysLeft, cX8_daysLeft, 1, some .int)
theorem k_X8_daysLeft : Cd MX8_daysLeft ∈ wl := wl_in 1757 (by decide +kernel) rfl
abbrev MX8_evictions : Mr := (RX8, yX8_evictions, cX8_evictions, 1, some .int)
theorem k_X8_evictions : Cd MX8_evictions ∈ wl := wl_in 1761 (by decide +kernel) rfl
abbrev MX8_undoCount : Mr := (RX8, yX8_undoCount, cX8_undoCount, 1, some .int)
theorem k_X8_undoCount : Cd MX8_undoCount ∈ wl := wl_in 1765 (by decide +kernel) rfl
abbrev MX8_floorOf : Mr := (RX8, yX8_floorOf, cX8_floorOf, 2, some .int)
theorem k_X8_floorOf : Cd MX8_floorOf ∈ wl := wl_in 1769 (by decide +kernel) rfl
abbrev MX8_ofLodger : Mr := (RX8, yX8_ofLodger, cX8_ofLodger, 3, some .int)
theorem k_X8_ofLodger : Cd MX8_ofLodger ∈ wl := wl_in 1773 (by decide +kernel) rfl
abbrev MX8_isLodger : Mr := (RX8, yX8_isLodger, cX8_isLodger, 2, some .boolean)
theorem k_X8_isLodger : Cd MX8_isLodger ∈ wl := wl_in 1777 (by decide +kernel) rfl
abbrev MX8_balanceOf : Mr := (RX8, yX8_balanceOf, cX8_balanceOf, 2, some .int)
theorem k_X8_balanceOf : Cd MX8_balanceOf ∈ wl := wl_in 1781 (by decide +kernel) rfl
abbrev MX8_vowelOf : Mr := (RX8, yX8_vowelOf, cX8_vowelOf, 3, some .int)
theorem k_X8_vowelOf : Cd MX8_vowelOf ∈ wl := wl_in 1785 (by decide +kernel) rfl
abbrev MX8_lessonsOf : Mr := (RX8, yX8_lessonsOf, cX8_lessonsOf, 2, some .int)
theorem k_X8_lessonsOf : Cd MX8_lessonsOf ∈ wl := wl_in 1789 (by decide +kernel) rfl
abbrev MX8_slipsOf : Mr := (RX8, yX8_slipsOf, cX8_slipsOf, 2, some .int)
theorem k_X8_slipsOf : Cd MX8_slipsOf ∈ wl := wl_in 1793 (by decide +kernel) rfl
abbrev MX8_daysStayed : Mr := (RX8, yX8_daysStayed, cX8_daysStayed, 2, some .int)
theorem k_X8_daysStayed : Cd MX8_daysStayed ∈ wl := wl_in 1797 (by decide +kernel) rfl
abbrev MX8_nameLength : Mr := (RX8, yX8_nameLength, cX8_nameLength, 2, some .int)
theorem k_X8_nameLength : Cd MX8_nameLength ∈ wl := wl_in 1801 (by decide +kernel) rfl
abbrev MX8_lettersOf : Mr := (RX8, yX8_lettersOf, cX8_lettersOf, 3, some .int)
theorem k_X8_lettersOf : Cd MX8_lettersOf ∈ wl := wl_in 1805 (by decide +kernel) rfl
abbrev MX8_nameLetter : Mr := (RX8, yX8_nameLetter, cX8_nameLetter, 3, some .char)
theorem k_X8_nameLetter : Cd MX8_nameLetter ∈ wl := wl_in 1809 (by decide +kernel) rfl
abbrev MX8_findByName : Mr := (RX8, yX8_findByName, cX8_findByName, 3, some .int)
theorem k_X8_findByName : Cd MX8_findByName ∈ wl := wl_in 1813 (by decide +kernel) rfl
abbrev MX8_lodgersOn : Mr := (RX8, yX8_lodgersOn, cX8_lodgersOn, 2, some .int)
theorem k_X8_lodgersOn : Cd MX8_lodgersOn ∈ wl := wl_in 1817 (by decide +kernel) rfl
abbrev MX8_lodgerOn : Mr := (RX8, yX8_lodgerOn, cX8_lodgerOn, 5, some .int)
theorem k_X8_lodgerOn : Cd MX8_lodgerOn ∈ wl := wl_in 1821 (by decide +kernel) rfl
abbrev MX8_averageVowel : Mr := (RX8, yX8_averageVowel, cX8_averageVowel, 3, some .int)
theorem k_X8_averageVowel : Cd MX8_averageVowel ∈ wl := wl_in 1825 (by decide +kernel) rfl
abbrev MX8_distanceToLandlady : Mr := (RX8, yX8_distanceToLandlady, cX8_distanceToLandlady, 2, some .int)
theorem k_X8_distanceToLandlady : Cd MX8_distanceToLandlady ∈ wl := wl_in 1829 (by decide +kernel) rfl
abbrev MX8_distance : Mr := (RX8, yX8_distance, cX8_distance, 3, some .int)
theorem k_X8_distance : Cd MX8_distance ∈ wl := wl_in 1833 (by decide +kernel) rfl
abbrev MX8_between : Mr := (RX8, yX8_between, cX8_between, 5, some .int)
theorem k_X8_between : Cd MX8_between ∈ wl := wl_in 1837 (by decide +kernel) rfl
abbrev MX8_rhymes : Mr := (RX8, yX8_rhymes, cX8_rhymes, 3, some .boolean)
theorem k_X8_rhymes : Cd MX8_rhymes ∈ wl := wl_in 1841 (by decide +kernel) rfl
abbrev MX8_rhyme : Mr := (RX8, yX8_rhyme, cX8_rhyme, 5, some .boolean)
theorem k_X8_rhyme : Cd MX8_rhyme ∈ wl := wl_in 1845 (by decide +kernel) rfl
abbrev MX8_says : Mr := (RX8, yX8_says, cX8_says, 2, some .boolean)
theorem k_X8_says : Cd MX8_says ∈ wl := wl_in 1849 (by decide +kernel) rfl
abbrev MX8_refuses : Mr := (RX8, yX8_refuses, cX8_refuses, 1, some .boolean)
theorem k_X8_refuses : Cd MX8_refuses ∈ wl := wl_in 1853 (by decide +kernel) rfl
abbrev MX8_rhymesWithLandlady : Mr := (RX8, yX8_rhymesWithLandlady, cX8_rhymesWithLandlady, 2, some .boolean)
theorem k_X8_rhymesWithLandlady : Cd MX8_rhymesWithLandlady ∈ wl := wl_in 1857 (by decide +kernel) rfl
abbrev MX8_rhymeCount : Mr := (RX8, yX8_rhymeCount, cX8_rhymeCount, 4, some .int)
theorem k_X8_rhymeCount : Cd MX8_rhymeCount ∈ wl := wl_in 1861 (by decide +kernel) rfl
abbrev MX8_closestTo : Mr := (RX8, yX8_closestTo, cX8_closestTo, 4, some .int)
theorem k_X8_closestTo : Cd MX8_closestTo ∈ wl := wl_in 1865 (by decide +kernel) rfl
abbrev MX8_lessonVowel : Mr := (RX8, yX8_lessonVowel, cX8_lessonVowel, 2, some .int)
theorem k_X8_lessonVowel : Cd MX8_lessonVowel ∈ wl := wl_in 1869 (by decide +kernel) rfl
abbrev MX8_slipVowel : Mr := (RX8, yX8_slipVowel, cX8_slipVowel, 2, some .int)
theorem k_X8_slipVowel : Cd MX8_slipVowel ∈ wl := wl_in 1873 (by decide +kernel) rfl
abbrev MX8_mustGo : Mr := (RX8, yX8_mustGo, cX8_mustGo, 2, some .boolean)
theorem k_X8_mustGo : Cd MX8_mustGo ∈ wl := wl_in 1877 (by decide +kernel) rfl
abbrev MX8_meanDistance : Mr := (RX8, yX8_meanDistance, cX8_meanDistance, 3, some .double)
theorem k_X8_meanDistance : Cd MX8_meanDistance ∈ wl := wl_in 1881 (by decide +kernel) rfl
abbrev MX8_rhymingShare : Mr := (RX8, yX8_rhymingShare, cX8_rhymingShare, 3, some .float)
theorem k_X8_rhymingShare : Cd MX8_rhymingShare ∈ wl := wl_in 1885 (by decide +kernel) rfl
abbrev MX8_balanceAfter : Mr := (RX8, yX8_balanceAfter, cX8_balanceAfter, 4, some .int)
theorem k_X8_balanceAfter : Cd MX8_balanceAfter ∈ wl := wl_in 1889 (by decide +kernel) rfl
abbrev MX8_tracks : Mr := (RX8, yX8_tracks, cX8_tracks, 2, none)
theorem k_X8_tracks : Cd MX8_tracks ∈ wl := wl_in 1893 (by decide +kernel) rfl
abbrev MX8_distanceAfter : Mr := (RX8, yX8_distanceAfter, cX8_distanceAfter, 4, some .int)
theorem k_X8_distanceAfter : Cd MX8_distanceAfter ∈ wl := wl_in 1897 (by decide +kernel) rfl
abbrev MX8_daysToEviction : Mr := (RX8, yX8_daysToEviction, cX8_daysToEviction, 4, some .int)
theorem k_X8_daysToEviction : Cd MX8_daysToEviction ∈ wl := wl_in 1901 (by decide +kernel) rfl
abbrev MX8_paymentToStay : Mr := (RX8, yX8_paymentToStay, cX8_paymentToStay, 6, some .int)
theorem k_X8_paymentToStay : Cd MX8_paymentToStay ∈ wl := wl_in 1905 (by decide +kernel) rfl
abbrev MX8_staysWith : Mr := (RX8, yX8_staysWith, cX8_staysWith, 5, some .boolean)
theorem k_X8_staysWith : Cd MX8_staysWith ∈ wl := wl_in 1909 (by decide +kernel) rfl
abbrev MX8_totalPaid : Mr := (RX8, yX8_totalPaid, cX8_totalPaid, 1, some .int)
theorem k_X8_totalPaid : Cd MX8_totalPaid ∈ wl := wl_in 1913 (by decide +kernel) rfl
abbrev MX8_totalCharged : Mr := (RX8, yX8_totalCharged, cX8_totalCharged, 1, some .int)
theorem k_X8_totalCharged : Cd MX8_totalCharged ∈ wl := wl_in 1917 (by decide +kernel) rfl
abbrev MX8_settled : Mr := (RX8, yX8_settled, cX8_settled, 1, some .int)
theorem k_X8_settled : Cd MX8_settled ∈ wl := wl_in 1921 (by decide +kernel) rfl
abbrev MX8_ledgerDifference : Mr := (RX8, yX8_ledgerDifference, cX8_ledgerDifference, 3, some .int)
theorem k_X8_ledgerDifference : Cd MX8_ledgerDifference ∈ wl := wl_in 1925 (by decide +kernel) rfl
abbrev MX8_advance : Mr := (RX8, yX8_advance, cX8_advance, 3, some .int)
theorem k_X8_advance : Cd MX8_advance ∈ wl := wl_in 1929 (by decide +kernel) rfl
abbrev MX8_remembers : Mr := (RX8, yX8_remembers, cX8_remembers, 2, none)
theorem k_X8_remembers : Cd MX8_remembers ∈ wl := wl_in 1933 (by decide +kernel) rfl
abbrev MX8_moveIn : Mr := (RX8, yX8_moveIn, cX8_moveIn, 5, some .int)
theorem k_X8_moveIn : Cd MX8_moveIn ∈ wl := wl_in 1937 (by decide +kernel) rfl
abbrev MX8_isTakenLetter : Mr := (RX8, yX8_isTakenLetter, cX8_isTakenLetter, 3, some .boolean)
theorem k_X8_isTakenLetter : Cd MX8_isTakenLetter ∈ wl := wl_in 1942 (by decide +kernel) rfl
abbrev MX8_moveOut : Mr := (RX8, yX8_moveOut, cX8_moveOut, 3, some .int)
theorem k_X8_moveOut : Cd MX8_moveOut ∈ wl := wl_in 1946 (by decide +kernel) rfl
abbrev MX8_moveTo : Mr := (RX8, yX8_moveTo, cX8_moveTo, 3, some .int)
theorem k_X8_moveTo : Cd MX8_moveTo ∈ wl := wl_in 1950 (by decide +kernel) rfl
abbrev MX8_sets : Mr := (RX8, yX8_sets, cX8_sets, 4, some .int)
theorem k_X8_sets : Cd MX8_sets ∈ wl := wl_in 1954 (by decide +kernel) rfl
abbrev MX8_pay : Mr := (RX8, yX8_pay, cX8_pay, 3, some .int)
theorem k_X8_pay : Cd MX8_pay ∈ wl := wl_in 1958 (by decide +kernel) rfl
abbrev MX8_setLandladyVowel : Mr := (RX8, yX8_setLandladyVowel, cX8_setLandladyVowel, 3, some .int)
theorem k_X8_setLandladyVowel : Cd MX8_setLandladyVowel ∈ wl := wl_in 1962 (by decide +kernel) rfl
abbrev MX8_setTolerance : Mr := (RX8, yX8_setTolerance, cX8_setTolerance, 2, some .int)
theorem k_X8_setTolerance : Cd MX8_setTolerance ∈ wl := wl_in 1966 (by decide +kernel) rfl
abbrev MX8_setBaseRent : Mr := (RX8, yX8_setBaseRent, cX8_setBaseRent, 2, some .int)
theorem k_X8_setBaseRent : Cd MX8_setBaseRent ∈ wl := wl_in 1970 (by decide +kernel) rfl
abbrev MX8_restore : Mr := (RX8, yX8_restore, cX8_restore, 3, some .int)
theorem k_X8_restore : Cd MX8_restore ∈ wl := wl_in 1974 (by decide +kernel) rfl
abbrev MX8_undo : Mr := (RX8, yX8_undo, cX8_undo, 2, some .int)
theorem k_X8_undo : Cd MX8_undo ∈ wl := wl_in 1978 (by decide +kernel) rfl
abbrev MX8_save : Mr := (RX8, yX8_save, cX8_save, 3, some .int)
theorem k_X8_save : Cd MX8_save ∈ wl := wl_in 1982 (by decide +kernel) rfl
abbrev MX8_writeLodger : Mr := (RX8, yX8_writeLodger, cX8_writeLodger, 3, some .int)
theorem k_X8_writeLodger : Cd MX8_writeLodger ∈ wl := wl_in 1986 (by decide +kernel) rfl
abbrev MX8_writesName : Mr := (RX8, yX8_writesName, cX8_writesName, 3, none)
theorem k_X8_writesName : Cd MX8_writesName ∈ wl := wl_in 1990 (by decide +kernel) rfl
abbrev MX8_writes : Mr := (RX8, yX8_writes, cX8_writes, 2, none)
theorem k_X8_writes : Cd MX8_writes ∈ wl := wl_in 1994 (by decide +kernel) rfl
abbrev MX8_writesNumber : Mr := (RX8, yX8_writesNumber, cX8_writesNumber, 4, none)
theorem k_X8_writesNumber : Cd MX8_writesNumber ∈ wl := wl_in 1998 (by decide +kernel) rfl
abbrev MX8_writeFloor : Mr := (RX8, yX8_writeFloor, cX8_writeFloor, 3, some .int)
theorem k_X8_writeFloor : Cd MX8_writeFloor ∈ wl := wl_in 2002 (by decide +kernel) rfl
abbrev MX8_outputCharacter : Mr := (RX8, yX8_outputCharacter, cX8_outputCharacter, 2, some .char)
theorem k_X8_outputCharacter : Cd MX8_outputCharacter ∈ wl := wl_in 2006 (by decide +kernel) rfl
theorem l_X7_15 : LkI RX7 15 MJ4_init_da8c8 0 := ⟨wl_in 40 (by decide +kernel) rfl, wl_in 41 (by decide +kernel) rfl, rfl, wl_in 3 (by decide +kernel) rfl, k_J4_init_da8c8, ⟨⟨by decide +kernel, by decide +kernel⟩, by decide +kernel, by decide⟩, rfl⟩
theorem l_X7_22 : LkI RX7 22 MX4_init 1 := ⟨wl_in 73 (by decide +kernel) rfl, wl_in 74 (by decide +kernel) rfl, rfl, wl_in 6 (by decide +kernel) rfl, k_X4_init, ⟨⟨by decide +kernel, by decide +kernel⟩, by decide +kernel, by decide⟩, rfl⟩
theorem l_X7_35 : LkI RX7 35 MX2_init 0 := ⟨wl_in 243 (by decide +kernel) rfl, wl_in 80 (by decide +kernel) rfl, rfl, wl_in 7 (by decide +kernel) rfl, k_X2_init, ⟨⟨by decide +kernel, by decide +kernel⟩, by decide +kernel, by decide⟩, rfl⟩
theorem l_X7_45 : LkI RX7 45 MX1_init 0 := ⟨wl_in 246 (by decide +kernel) rfl, wl_in 247 (by decide +kernel) rfl, rfl, wl_in 13 (by decide +kernel) rfl, k_X1_init, ⟨⟨by decide +kernel, by decide +kernel⟩, by decide +kernel, by decide⟩, rfl⟩
theorem l_X7_60 : LkV RX7 60 MJ0_length_8abf5 0 := ⟨wl_in 265 (by decide +kernel) rfl, wl_in 266 (by decide +kernel) rfl, wl_in 267 (by decide +kernel) rfl, wl_in 4 (by decide +kernel) rfl, k_J0_length_8abf5, ⟨⟨by decide +kernel, by decide +kernel⟩, by decide +kernel, by decide⟩⟩
theorem l_X7_66 : LkV RX7 66 MJ0_charAt_5068e 1 := ⟨wl_in 274 (by decide +kernel) rfl, wl_in 275 (by decide +kernel) rfl, wl_in 276 (by decide +kernel) rfl, wl_in 4 (by decide +kernel) rfl, k_J0_charAt_5068e, ⟨⟨by decide +kernel, by decide +kernel⟩, by decide +kernel, by decide⟩⟩
theorem l_X7_70 : LkV RX7 70 MX4_read 1 := ⟨wl_in 312 (by decide +kernel) rfl, wl_in 313 (by decide +kernel) rfl, wl_in 314 (by decide +kernel) rfl, wl_in 6 (by decide +kernel) rfl, k_X4_read, ⟨⟨by decide +kernel, by decide +kernel⟩, by decide +kernel, by decide⟩⟩
theorem l_X7_75 : LkV RX7 75 MX2_copyFrom 1 := ⟨wl_in 845 (by decide +kernel) rfl, wl_in 846 (by decide +kernel) rfl, wl_in 847 (by decide +kernel) rfl, wl_in 7 (by decide +kernel) rfl, k_X2_copyFrom, ⟨⟨by decide +kernel, by decide +kernel⟩, by decide +kernel, by decide⟩⟩
theorem l_X7_89 : LkV RX7 89 MX7_appendWord 1 := ⟨wl_in 984 (by decide +kernel) rfl, wl_in 986 (by decide +kernel) rfl, wl_inp 17 (by decide +kernel) rfl, wl_in 1 (by decide +kernel) rfl, k_X7_appendWord, ⟨⟨by decide +kernel, by decide +kernel⟩, by decide +kernel, by decide⟩⟩
theorem l_X7_111 : LkV RX7 111 MX1_clear 0 := ⟨wl_in 1013 (by decide +kernel) rfl, wl_in 1014 (by decide +kernel) rfl, wl_in 1015 (by decide +kernel) rfl, wl_in 13 (by decide +kernel) rfl, k_X1_clear, ⟨⟨by decide +kernel, by decide +kernel⟩, by decide +kernel, by decide⟩⟩
theorem l_X7_126 : LkV RX7 126 MX7_requireFloor 1 := ⟨wl_in 1024 (by decide +kernel) rfl, wl_in 1026 (by decide +kernel) rfl, wl_inp 18 (by decide +kernel) rfl, wl_in 1 (by decide +kernel) rfl, k_X7_requireFloor, ⟨⟨by decide +kernel, by decide +kernel⟩, by decide +kernel, by decide⟩⟩
theorem l_X7_129 : LkV RX7 129 MX2_dailyRent 1 := ⟨wl_in 1029 (by decide +kernel) rfl, wl_in 793 (by decide +kernel) rfl, wl_in 794 (by decide +kernel) rfl, wl_in 7 (by decide +kernel) rfl, k_X2_dailyRent, ⟨⟨by decide +kernel, by decide +kernel⟩, by decide +kernel, by decide⟩⟩
theorem l_X7_133 : LkV RX7 133 MX7_requireVowel 1 := ⟨wl_in 1037 (by decide +kernel) rfl, wl_in 1039 (by decide +kernel) rfl, wl_inp 19 (by decide +kernel) rfl, wl_in 1 (by decide +kernel) rfl, k_X7_requireVowel, ⟨⟨by decide +kernel, by decide +kernel⟩, by decide +kernel, by decide⟩⟩
theorem l_X7_152 : LkV RX7 152 MX7_requireLodger 1 := ⟨wl_in 1049 (by decide +kernel) rfl, wl_in 1051 (by decide +kernel) rfl, wl_inp 20 (by decide +kernel) rfl, wl_in 1 (by decide +kernel) rfl, k_X7_requireLodger, ⟨⟨by decide +kernel, by decide +kernel⟩, by decide +kernel, by decide⟩⟩
theorem l_X7_182 : LkV RX7 182 MX2_numberOf 3 := ⟨wl_in 933 (by decide +kernel) rfl, wl_in 400 (by decide +kernel) rfl, wl_in 401 (by decide +kernel) rfl, wl_in 7 (by decide +kernel) rfl, k_X2_numberOf, ⟨⟨by decide +kernel, by decide +kernel⟩, by decide +kernel, by decide⟩⟩
theorem l_X7_186 : LkV RX7 186 MX2_crowdOn 1 := ⟨wl_in 1111 (by decide +kernel) rfl, wl_in 813 (by decide +kernel) rfl, wl_in 814 (by decide +kernel) rfl, wl_in 7 (by decide +kernel) rfl, k_X2_crowdOn, ⟨⟨by decide +kernel, by decide +kernel⟩, by decide +kernel, by decide⟩⟩
theorem l_X7_189 : LkV RX7 189 MX2_numberAt 2 := ⟨wl_in 1119 (by decide +kernel) rfl, wl_in 1120 (by decide +kernel) rfl, wl_in 1121 (by decide +kernel) rfl, wl_in 7 (by decide +kernel) rfl, k_X2_numberAt, ⟨⟨by decide +kernel, by decide +kernel⟩, by decide +kernel, by decide⟩⟩
theorem l_X7_197 : LkV RX7 197 MX2_averagePosition 2 := ⟨wl_in 1132 (by decide +kernel) rfl, wl_in 821 (by decide +kernel) rfl, wl_in 822 (by decide +kernel) rfl, wl_in 7 (by decide +kernel) rfl, k_X2_averagePosition, ⟨⟨by decide +kernel, by decide +kernel⟩, by decide +kernel, by decide⟩⟩
theorem l_X7_200 : LkV RX7 200 MX0_distanceTo 1 := ⟨wl_in 938 (by decide +kernel) rfl, wl_in 833 (by decide +kernel) rfl, wl_in 834 (by decide +kernel) rfl, wl_in 8 (by decide +kernel) rfl, k_X0_distanceTo, ⟨⟨by decide +kernel, by decide +kernel⟩, by decide +kernel, by decide⟩⟩
theorem l_X7_204 : LkV RX7 204 MX0_rhymesWith 1 := ⟨wl_in 943 (by decide +kernel) rfl, wl_in 837 (by decide +kernel) rfl, wl_in 838 (by decide +kernel) rfl, wl_in 8 (by decide +kernel) rfl, k_X0_rhymesWith, ⟨⟨by decide +kernel, by decide +kernel⟩, by decide +kernel, by decide⟩⟩
theorem l_X7_212 : LkV RX7 212 MX0_farthestVowel 1 := ⟨wl_in 1182 (by decide +kernel) rfl, wl_in 805 (by decide +kernel) rfl, wl_in 806 (by decide +kernel) rfl, wl_in 8 (by decide +kernel) rfl, k_X0_farthestVowel, ⟨⟨by decide +kernel, by decide +kernel⟩, by decide +kernel, by decide⟩⟩
theorem l_X7_215 : LkV RX7 215 MX2_computeAverage 1 := ⟨wl_in 1190 (by decide +kernel) rfl, wl_in 817 (by decide +kernel) rfl, wl_in 818 (by decide +kernel) rfl, wl_in 7 (by decide +kernel) rfl, k_X2_computeAverage, ⟨⟨by decide +kernel, by decide +kernel⟩, by decide +kernel, by decide⟩⟩
theorem l_X7_221 : LkV RX7 221 MX2_mustLeave 1 := ⟨wl_in 1198 (by decide +kernel) rfl, wl_in 829 (by decide +kernel) rfl, wl_in 830 (by decide +kernel) rfl, wl_in 7 (by decide +kernel) rfl, k_X2_mustLeave, ⟨⟨by decide +kernel, by decide +kernel⟩, by decide +kernel, by decide⟩⟩
theorem l_X7_225 : LkV RX7 225 MX7_requireRange 3 := ⟨wl_in 1206 (by decide +kernel) rfl, wl_in 1208 (by decide +kernel) rfl, wl_inp 21 (by decide +kernel) rfl, wl_in 1 (by decide +kernel) rfl, k_X7_requireRange, ⟨⟨by decide +kernel, by decide +kernel⟩, by decide +kernel, by decide⟩⟩
theorem l_X7_229 : LkV RX7 229 MX7_startTrial 1 := ⟨wl_in 1211 (by decide +kernel) rfl, wl_in 1213 (by decide +kernel) rfl, wl_inp 22 (by decide +kernel) rfl, wl_in 1 (by decide +kernel) rfl, k_X7_startTrial, ⟨⟨by decide +kernel, by decide +kernel⟩, by decide +kernel, by decide⟩⟩
theorem l_X7_232 : LkV RX7 232 MX7_runTrial 2 := ⟨wl_in 1215 (by decide +kernel) rfl, wl_in 1217 (by decide +kernel) rfl, wl_inp 23 (by decide +kernel) rfl, wl_in 1 (by decide +kernel) rfl, k_X7_runTrial, ⟨⟨by decide +kernel, by decide +kernel⟩, by decide +kernel, by decide⟩⟩
theorem l_X7_236 : LkV RX7 236 MX7_staysWith 2 := ⟨wl_in 1245 (by decide +kernel) rfl, wl_in 1247 (by decide +kernel) rfl, wl_inp 24 (by decide +kernel) rfl, wl_in 1 (by decide +kernel) rfl, k_X7_staysWith, ⟨⟨by decide +kernel, by decide +kernel⟩, by decide +kernel, by decide⟩⟩
theorem l_X7_240 : LkV RX7 240 MX7_daysToInspection 0 := ⟨wl_in 1249 (by decide +kernel) rfl, wl_in 918 (by decide +kernel) rfl, wl_in 919 (by decide +kernel) rfl, wl_in 1 (by decide +kernel) rfl, k_X7_daysToInspection, ⟨⟨by decide +kernel, by decide +kernel⟩, by decide +kernel, by decide⟩⟩
theorem l_X7_243 : LkV RX7 243 MX2_passDay 0 := ⟨wl_in 1219 (by decide +kernel) rfl, wl_in 785 (by decide +kernel) rfl, wl_in 786 (by decide +kernel) rfl, wl_in 7 (by decide +kernel) rfl, k_X2_passDay, ⟨⟨by decide +kernel, by decide +kernel⟩, by decide +kernel, by decide⟩⟩
theorem l_X7_246 : LkV RX7 246 MX2_houses 1 := ⟨wl_in 1220 (by decide +kernel) rfl, wl_in 1221 (by decide +kernel) rfl, wl_in 1222 (by decide +kernel) rfl, wl_in 7 (by decide +kernel) rfl, k_X2_houses, ⟨⟨by decide +kernel, by decide +kernel⟩, by decide +kernel, by decide⟩⟩
theorem l_X7_260 : LkV RX7 260 MX1_remember 1 := ⟨wl_in 1258 (by decide +kernel) rfl, wl_in 1259 (by decide +kernel) rfl, wl_in 1260 (by decide +kernel) rfl, wl_in 13 (by decide +kernel) rfl, k_X1_remember, ⟨⟨by decide +kernel, by decide +kernel⟩, by decide +kernel, by decide⟩⟩
theorem l_X7_266 : LkV RX7 266 MX7_requirePlace 2 := ⟨wl_in 1272 (by decide +kernel) rfl, wl_in 1274 (by decide +kernel) rfl, wl_inp 25 (by decide +kernel) rfl, wl_in 1 (by decide +kernel) rfl, k_X7_requirePlace, ⟨⟨by decide +kernel, by decide +kernel⟩, by decide +kernel, by decide⟩⟩
theorem l_X7_270 : LkV RX7 270 MX2_unusedLetter 0 := ⟨wl_in 1278 (by decide +kernel) rfl, wl_in 1279 (by decide +kernel) rfl, wl_in 1280 (by decide +kernel) rfl, wl_in 7 (by decide +kernel) rfl, k_X2_unusedLetter, ⟨⟨by decide +kernel, by decide +kernel⟩, by decide +kernel, by decide⟩⟩
theorem l_X7_274 : LkV RX7 274 MX2_receive 4 := ⟨wl_in 1314 (by decide +kernel) rfl, wl_in 757 (by decide +kernel) rfl, wl_in 758 (by decide +kernel) rfl, wl_in 7 (by decide +kernel) rfl, k_X2_receive, ⟨⟨by decide +kernel, by decide +kernel⟩, by decide +kernel, by decide⟩⟩
theorem l_X7_278 : LkV RX7 278 MX2_dismiss 1 := ⟨wl_in 1322 (by decide +kernel) rfl, wl_in 841 (by decide +kernel) rfl, wl_in 842 (by decide +kernel) rfl, wl_in 7 (by decide +kernel) rfl, k_X2_dismiss, ⟨⟨by decide +kernel, by decide +kernel⟩, by decide +kernel, by decide⟩⟩
theorem l_X7_281 : LkV RX7 281 MX2_takePayment 2 := ⟨wl_in 1337 (by decide +kernel) rfl, wl_in 771 (by decide +kernel) rfl, wl_in 772 (by decide +kernel) rfl, wl_in 7 (by decide +kernel) rfl, k_X2_takePayment, ⟨⟨by decide +kernel, by decide +kernel⟩, by decide +kernel, by decide⟩⟩
theorem l_X7_285 : LkV RX7 285 MX7_requireSlot 1 := ⟨wl_in 1366 (by decide +kernel) rfl, wl_in 1368 (by decide +kernel) rfl, wl_inp 27 (by decide +kernel) rfl, wl_in 1 (by decide +kernel) rfl, k_X7_requireSlot, ⟨⟨by decide +kernel, by decide +kernel⟩, by decide +kernel, by decide⟩⟩
theorem l_X7_292 : LkV RX7 292 MX1_takeBack 1 := ⟨wl_in 1380 (by decide +kernel) rfl, wl_in 1381 (by decide +kernel) rfl, wl_in 1382 (by decide +kernel) rfl, wl_in 13 (by decide +kernel) rfl, k_X1_takeBack, ⟨⟨by decide +kernel, by decide +kernel⟩, by decide +kernel, by decide⟩⟩
theorem l_X7_295 : LkV RX7 295 MJ4_setLength_d00df 1 := ⟨wl_in 1398 (by decide +kernel) rfl, wl_in 414 (by decide +kernel) rfl, wl_in 415 (by decide +kernel) rfl, wl_in 3 (by decide +kernel) rfl, k_J4_setLength_d00df, ⟨⟨by decide +kernel, by decide +kernel⟩, by decide +kernel, by decide⟩⟩
theorem l_X7_298 : LkV RX7 298 MJ4_append_15ec4 1 := ⟨wl_in 1399 (by decide +kernel) rfl, wl_in 429 (by decide +kernel) rfl, wl_in 430 (by decide +kernel) rfl, wl_in 3 (by decide +kernel) rfl, k_J4_append_15ec4, ⟨⟨by decide +kernel, by decide +kernel⟩, by decide +kernel, by decide⟩⟩
theorem l_X7_302 : LkV RX7 302 MJ4_append_cf468 1 := ⟨wl_in 1400 (by decide +kernel) rfl, wl_in 735 (by decide +kernel) rfl, wl_in 736 (by decide +kernel) rfl, wl_in 3 (by decide +kernel) rfl, k_J4_append_cf468, ⟨⟨by decide +kernel, by decide +kernel⟩, by decide +kernel, by decide⟩⟩
theorem l_X7_305 : LkV RX7 305 MJ4_append_bf812 1 := ⟨wl_in 1401 (by decide +kernel) rfl, wl_in 528 (by decide +kernel) rfl, wl_in 529 (by decide +kernel) rfl, wl_in 3 (by decide +kernel) rfl, k_J4_append_bf812, ⟨⟨by decide +kernel, by decide +kernel⟩, by decide +kernel, by decide⟩⟩
theorem l_X7_308 : LkV RX7 308 MJ4_length_8abf5 0 := ⟨wl_in 1402 (by decide +kernel) rfl, wl_in 574 (by decide +kernel) rfl, wl_in 2019 (by decide +kernel) rfl, wl_in 3 (by decide +kernel) rfl, k_J4_length_8abf5, ⟨⟨by decide +kernel, by decide +kernel⟩, by decide +kernel, by decide⟩⟩
theorem l_X7_311 : LkV RX7 311 MJ4_charAt_5068e 1 := ⟨wl_in 1418 (by decide +kernel) rfl, wl_in 1419 (by decide +kernel) rfl, wl_in 1420 (by decide +kernel) rfl, wl_in 3 (by decide +kernel) rfl, k_J4_charAt_5068e, ⟨⟨by decide +kernel, by decide +kernel⟩, by decide +kernel, by decide⟩⟩
theorem l_X7_322 : LkV RX7 322 MX2_isFullFor 2 := ⟨wl_in 1276 (by decide +kernel) rfl, wl_in 753 (by decide +kernel) rfl, wl_in 754 (by decide +kernel) rfl, wl_in 7 (by decide +kernel) rfl, k_X2_isFullFor, ⟨⟨by decide +kernel, by decide +kernel⟩, by decide +kernel, by decide⟩⟩
theorem l_X0_21 : LkV RX0 21 MX0_farthestVowel 1 := ⟨wl_in 804 (by decide +kernel) rfl, wl_in 805 (by decide +kernel) rfl, wl_in 806 (by decide +kernel) rfl, wl_in 8 (by decide +kernel) rfl, k_X0_farthestVowel, ⟨⟨by decide +kernel, by decide +kernel⟩, by decide +kernel, by decide⟩⟩
theorem l_X1_17 : LkI RX1 17 MX2_init 0 := ⟨wl_in 252 (by decide +kernel) rfl, wl_in 80 (by decide +kernel) rfl, rfl, wl_in 7 (by decide +kernel) rfl, k_X2_init, ⟨⟨by decide +kernel, by decide +kernel⟩, by decide +kernel, by decide⟩, rfl⟩
theorem l_X1_25 : LkV RX1 25 MX2_copyFrom 1 := ⟨wl_in 1262 (by decide +kernel) rfl, wl_in 846 (by decide +kernel) rfl, wl_in 847 (by decide +kernel) rfl, wl_in 7 (by decide +kernel) rfl, k_X2_copyFrom, ⟨⟨by decide +kernel, by decide +kernel⟩, by decide +kernel, by decide⟩⟩
theorem l_X2_53 : LkV RX2 53 MX0_copyFrom 1 := ⟨wl_in 849 (by decide +kernel) rfl, wl_in 850 (by decide +kernel) rfl, wl_in 851 (by decide +kernel) rfl, wl_in 8 (by decide +kernel) rfl, k_X0_copyFrom, ⟨⟨by decide +kernel, by decide +kernel⟩, by decide +kernel, by decide⟩⟩
theorem l_X2_57 : LkV RX2 57 MX3_copyFrom 1 := ⟨wl_in 854 (by decide +kernel) rfl, wl_in 855 (by decide +kernel) rfl, wl_in 856 (by decide +kernel) rfl, wl_in 9 (by decide +kernel) rfl, k_X3_copyFrom, ⟨⟨by decide +kernel, by decide +kernel⟩, by decide +kernel, by decide⟩⟩
theorem l_X2_63 : LkV RX2 63 MX3_isNamed 3 := ⟨wl_in 403 (by decide +kernel) rfl, wl_in 404 (by decide +kernel) rfl, wl_in 405 (by decide +kernel) rfl, wl_in 9 (by decide +kernel) rfl, k_X3_isNamed, ⟨⟨by decide +kernel, by decide +kernel⟩, by decide +kernel, by decide⟩⟩
theorem l_X2_69 : LkV RX2 69 MJ0_length_8abf5 0 := ⟨wl_in 1283 (by decide +kernel) rfl, wl_in 266 (by decide +kernel) rfl, wl_in 267 (by decide +kernel) rfl, wl_in 4 (by decide +kernel) rfl, k_J0_length_8abf5, ⟨⟨by decide +kernel, by decide +kernel⟩, by decide +kernel, by decide⟩⟩
theorem l_X2_75 : LkV RX2 75 MJ0_charAt_5068e 1 := ⟨wl_in 1284 (by decide +kernel) rfl, wl_in 275 (by decide +kernel) rfl, wl_in 276 (by decide +kernel) rfl, wl_in 4 (by decide +kernel) rfl, k_J0_charAt_5068e, ⟨⟨by decide +kernel, by decide +kernel⟩, by decide +kernel, by decide⟩⟩
theorem l_X2_79 : LkV RX2 79 MX2_hasLetterName 1 := ⟨wl_in 1285 (by decide +kernel) rfl, wl_in 1287 (by decide +kernel) rfl, wl_inp 26 (by decide +kernel) rfl, wl_in 7 (by decide +kernel) rfl, k_X2_hasLetterName, ⟨⟨by decide +kernel, by decide +kernel⟩, by decide +kernel, by decide⟩⟩
theorem l_X2_83 : LkV RX2 83 MJ0_substring_37a41 2 := ⟨wl_in 1289 (by decide +kernel) rfl, wl_in 1290 (by decide +kernel) rfl, wl_in 1291 (by decide +kernel) rfl, wl_in 4 (by decide +kernel) rfl, k_J0_substring_37a41, ⟨⟨by decide +kernel, by decide +kernel⟩, by decide +kernel, by decide⟩⟩
theorem l_X2_100 : LkV RX2 100 MX2_averagePosition 2 := ⟨wl_in 820 (by decide +kernel) rfl, wl_in 821 (by decide +kernel) rfl, wl_in 822 (by decide +kernel) rfl, wl_in 7 (by decide +kernel) rfl, k_X2_averagePosition, ⟨⟨by decide +kernel, by decide +kernel⟩, by decide +kernel, by decide⟩⟩
theorem l_X2_107 : LkV RX2 107 MX0_distanceTo 1 := ⟨wl_in 832 (by decide +kernel) rfl, wl_in 833 (by decide +kernel) rfl, wl_in 834 (by decide +kernel) rfl, wl_in 8 (by decide +kernel) rfl, k_X0_distanceTo, ⟨⟨by decide +kernel, by decide +kernel⟩, by decide +kernel, by decide⟩⟩
theorem l_X2_111 : LkV RX2 111 MX0_rhymesWith 1 := ⟨wl_in 836 (by decide +kernel) rfl, wl_in 837 (by decide +kernel) rfl, wl_in 838 (by decide +kernel) rfl, wl_in 8 (by decide +kernel) rfl, k_X0_rhymesWith, ⟨⟨by decide +kernel, by decide +kernel⟩, by decide +kernel, by decide⟩⟩
theorem l_X2_124 : LkV RX2 124 MX0_setDigits 1 := ⟨wl_in 760 (by decide +kernel) rfl, wl_in 386 (by decide +kernel) rfl, wl_in 387 (by decide +kernel) rfl, wl_in 8 (by decide +kernel) rfl, k_X0_setDigits, ⟨⟨by decide +kernel, by decide +kernel⟩, by decide +kernel, by decide⟩⟩
theorem l_X2_128 : LkV RX2 128 MX2_collectRent 0 := ⟨wl_in 788 (by decide +kernel) rfl, wl_in 790 (by decide +kernel) rfl, wl_inp 13 (by decide +kernel) rfl, wl_in 7 (by decide +kernel) rfl, k_X2_collectRent, ⟨⟨by decide +kernel, by decide +kernel⟩, by decide +kernel, by decide⟩⟩
theorem l_X2_131 : LkV RX2 131 MX2_giveLessons 0 := ⟨wl_in 796 (by decide +kernel) rfl, wl_in 798 (by decide +kernel) rfl, wl_inp 14 (by decide +kernel) rfl, wl_in 7 (by decide +kernel) rfl, k_X2_giveLessons, ⟨⟨by decide +kernel, by decide +kernel⟩, by decide +kernel, by decide⟩⟩
theorem l_X2_134 : LkV RX2 134 MX2_serveDinner 1 := ⟨wl_in 808 (by decide +kernel) rfl, wl_in 810 (by decide +kernel) rfl, wl_inp 15 (by decide +kernel) rfl, wl_in 7 (by decide +kernel) rfl, k_X2_serveDinner, ⟨⟨by decide +kernel, by decide +kernel⟩, by decide +kernel, by decide⟩⟩
theorem l_X2_137 : LkV RX2 137 MX2_inspect 0 := ⟨wl_in 824 (by decide +kernel) rfl, wl_in 826 (by decide +kernel) rfl, wl_inp 16 (by decide +kernel) rfl, wl_in 7 (by decide +kernel) rfl, k_X2_inspect, ⟨⟨by decide +kernel, by decide +kernel⟩, by decide +kernel, by decide⟩⟩
theorem l_X2_140 : LkV RX2 140 MX2_dailyRent 1 := ⟨wl_in 792 (by decide +kernel) rfl, wl_in 793 (by decide +kernel) rfl, wl_in 794 (by decide +kernel) rfl, wl_in 7 (by decide +kernel) rfl, k_X2_dailyRent, ⟨⟨by decide +kernel, by decide +kernel⟩, by decide +kernel, by decide⟩⟩
theorem l_X2_144 : LkV RX2 144 MX0_approach 1 := ⟨wl_in 800 (by decide +kernel) rfl, wl_in 801 (by decide +kernel) rfl, wl_in 802 (by decide +kernel) rfl, wl_in 8 (by decide +kernel) rfl, k_X0_approach, ⟨⟨by decide +kernel, by decide +kernel⟩, by decide +kernel, by decide⟩⟩
theorem l_X2_147 : LkV RX2 147 MX2_crowdOn 1 := ⟨wl_in 812 (by decide +kernel) rfl, wl_in 813 (by decide +kernel) rfl, wl_in 814 (by decide +kernel) rfl, wl_in 7 (by decide +kernel) rfl, k_X2_crowdOn, ⟨⟨by decide +kernel, by decide +kernel⟩, by decide +kernel, by decide⟩⟩
theorem l_X2_150 : LkV RX2 150 MX2_computeAverage 1 := ⟨wl_in 816 (by decide +kernel) rfl, wl_in 817 (by decide +kernel) rfl, wl_in 818 (by decide +kernel) rfl, wl_in 7 (by decide +kernel) rfl, k_X2_computeAverage, ⟨⟨by decide +kernel, by decide +kernel⟩, by decide +kernel, by decide⟩⟩
theorem l_X2_153 : LkV RX2 153 MX2_mustLeave 1 := ⟨wl_in 828 (by decide +kernel) rfl, wl_in 829 (by decide +kernel) rfl, wl_in 830 (by decide +kernel) rfl, wl_in 7 (by decide +kernel) rfl, k_X2_mustLeave, ⟨⟨by decide +kernel, by decide +kernel⟩, by decide +kernel, by decide⟩⟩
theorem l_X2_157 : LkV RX2 157 MX2_dismiss 1 := ⟨wl_in 840 (by decide +kernel) rfl, wl_in 841 (by decide +kernel) rfl, wl_in 842 (by decide +kernel) rfl, wl_in 7 (by decide +kernel) rfl, k_X2_dismiss, ⟨⟨by decide +kernel, by decide +kernel⟩, by decide +kernel, by decide⟩⟩
theorem l_X3_38 : LkV RX3 38 MX0_copyFrom 1 := ⟨wl_in 858 (by decide +kernel) rfl, wl_in 850 (by decide +kernel) rfl, wl_in 851 (by decide +kernel) rfl, wl_in 8 (by decide +kernel) rfl, k_X0_copyFrom, ⟨⟨by decide +kernel, by decide +kernel⟩, by decide +kernel, by decide⟩⟩
theorem l_X3_42 : LkV RX3 42 MJ0_length_8abf5 0 := ⟨wl_in 407 (by decide +kernel) rfl, wl_in 266 (by decide +kernel) rfl, wl_in 267 (by decide +kernel) rfl, wl_in 4 (by decide +kernel) rfl, k_J0_length_8abf5, ⟨⟨by decide +kernel, by decide +kernel⟩, by decide +kernel, by decide⟩⟩
theorem l_X3_48 : LkV RX3 48 MJ0_charAt_5068e 1 := ⟨wl_in 408 (by decide +kernel) rfl, wl_in 275 (by decide +kernel) rfl, wl_in 276 (by decide +kernel) rfl, wl_in 4 (by decide +kernel) rfl, k_J0_charAt_5068e, ⟨⟨by decide +kernel, by decide +kernel⟩, by decide +kernel, by decide⟩⟩
theorem l_X4_11 : LkI RX4 11 MX2_init 0 := ⟨wl_in 79 (by decide +kernel) rfl, wl_in 80 (by decide +kernel) rfl, rfl, wl_in 7 (by decide +kernel) rfl, k_X2_init, ⟨⟨by decide +kernel, by decide +kernel⟩, by decide +kernel, by decide⟩, rfl⟩
theorem l_X4_28 : LkI RX4 28 MX6_init 1 := ⟨wl_in 193 (by decide +kernel) rfl, wl_in 194 (by decide +kernel) rfl, rfl, wl_in 10 (by decide +kernel) rfl, k_X6_init, ⟨⟨by decide +kernel, by decide +kernel⟩, by decide +kernel, by decide⟩, rfl⟩
theorem l_X4_38 : LkV RX4 38 MX6_restart 1 := ⟨wl_in 316 (by decide +kernel) rfl, wl_in 317 (by decide +kernel) rfl, wl_in 318 (by decide +kernel) rfl, wl_in 10 (by decide +kernel) rfl, k_X6_restart, ⟨⟨by decide +kernel, by decide +kernel⟩, by decide +kernel, by decide⟩⟩
theorem l_X4_42 : LkV RX4 42 MX4_readHeader 0 := ⟨wl_in 341 (by decide +kernel) rfl, wl_in 343 (by decide +kernel) rfl, wl_inp 0 (by decide +kernel) rfl, wl_in 6 (by decide +kernel) rfl, k_X4_readHeader, ⟨⟨by decide +kernel, by decide +kernel⟩, by decide +kernel, by decide⟩⟩
theorem l_X4_54 : LkV RX4 54 MX6_step 0 := ⟨wl_in 360 (by decide +kernel) rfl, wl_in 326 (by decide +kernel) rfl, wl_in 327 (by decide +kernel) rfl, wl_in 10 (by decide +kernel) rfl, k_X6_step, ⟨⟨by decide +kernel, by decide +kernel⟩, by decide +kernel, by decide⟩⟩
theorem l_X4_59 : LkV RX4 59 MX6_isWord 1 := ⟨wl_in 350 (by decide +kernel) rfl, wl_in 351 (by decide +kernel) rfl, wl_in 352 (by decide +kernel) rfl, wl_in 10 (by decide +kernel) rfl, k_X6_isWord, ⟨⟨by decide +kernel, by decide +kernel⟩, by decide +kernel, by decide⟩⟩
theorem l_X4_63 : LkV RX4 63 MX4_readLodger 0 := ⟨wl_in 390 (by decide +kernel) rfl, wl_in 392 (by decide +kernel) rfl, wl_inp 5 (by decide +kernel) rfl, wl_in 6 (by decide +kernel) rfl, k_X4_readLodger, ⟨⟨by decide +kernel, by decide +kernel⟩, by decide +kernel, by decide⟩⟩
theorem l_X4_68 : LkV RX4 68 MX4_readPay 0 := ⟨wl_in 762 (by decide +kernel) rfl, wl_in 764 (by decide +kernel) rfl, wl_inp 9 (by decide +kernel) rfl, wl_in 6 (by decide +kernel) rfl, k_X4_readPay, ⟨⟨by decide +kernel, by decide +kernel⟩, by decide +kernel, by decide⟩⟩
theorem l_X4_73 : LkV RX4 73 MX4_readMove 0 := ⟨wl_in 775 (by decide +kernel) rfl, wl_in 777 (by decide +kernel) rfl, wl_inp 11 (by decide +kernel) rfl, wl_in 6 (by decide +kernel) rfl, k_X4_readMove, ⟨⟨by decide +kernel, by decide +kernel⟩, by decide +kernel, by decide⟩⟩
theorem l_X4_78 : LkV RX4 78 MX4_readDays 0 := ⟨wl_in 780 (by decide +kernel) rfl, wl_in 782 (by decide +kernel) rfl, wl_inp 12 (by decide +kernel) rfl, wl_in 6 (by decide +kernel) rfl, k_X4_readDays, ⟨⟨by decide +kernel, by decide +kernel⟩, by decide +kernel, by decide⟩⟩
theorem l_X4_84 : LkV RX4 84 MX4_fail 2 := ⟨wl_in 361 (by decide +kernel) rfl, wl_in 363 (by decide +kernel) rfl, wl_inp 2 (by decide +kernel) rfl, wl_in 6 (by decide +kernel) rfl, k_X4_fail, ⟨⟨by decide +kernel, by decide +kernel⟩, by decide +kernel, by decide⟩⟩
theorem l_X4_92 : LkV RX4 92 MX4_expectWord 1 := ⟨wl_in 346 (by decide +kernel) rfl, wl_in 348 (by decide +kernel) rfl, wl_inp 1 (by decide +kernel) rfl, wl_in 6 (by decide +kernel) rfl, k_X4_expectWord, ⟨⟨by decide +kernel, by decide +kernel⟩, by decide +kernel, by decide⟩⟩
theorem l_X4_96 : LkV RX4 96 MX4_readNumber 2 := ⟨wl_in 365 (by decide +kernel) rfl, wl_in 367 (by decide +kernel) rfl, wl_inp 3 (by decide +kernel) rfl, wl_in 6 (by decide +kernel) rfl, k_X4_readNumber, ⟨⟨by decide +kernel, by decide +kernel⟩, by decide +kernel, by decide⟩⟩
theorem l_X4_102 : LkV RX4 102 MX2_open 2 := ⟨wl_in 377 (by decide +kernel) rfl, wl_in 378 (by decide +kernel) rfl, wl_in 379 (by decide +kernel) rfl, wl_in 7 (by decide +kernel) rfl, k_X2_open, ⟨⟨by decide +kernel, by decide +kernel⟩, by decide +kernel, by decide⟩⟩
theorem l_X4_108 : LkV RX4 108 MX4_readAccent 0 := ⟨wl_in 381 (by decide +kernel) rfl, wl_in 383 (by decide +kernel) rfl, wl_inp 4 (by decide +kernel) rfl, wl_in 6 (by decide +kernel) rfl, k_X4_readAccent, ⟨⟨by decide +kernel, by decide +kernel⟩, by decide +kernel, by decide⟩⟩
theorem l_X4_112 : LkV RX4 112 MX0_setDigits 1 := ⟨wl_in 385 (by decide +kernel) rfl, wl_in 386 (by decide +kernel) rfl, wl_in 387 (by decide +kernel) rfl, wl_in 8 (by decide +kernel) rfl, k_X0_setDigits, ⟨⟨by decide +kernel, by decide +kernel⟩, by decide +kernel, by decide⟩⟩
theorem l_X4_120 : LkV RX4 120 MX4_isAtName 0 := ⟨wl_in 394 (by decide +kernel) rfl, wl_in 396 (by decide +kernel) rfl, wl_inp 6 (by decide +kernel) rfl, wl_in 6 (by decide +kernel) rfl, k_X4_isAtName, ⟨⟨by decide +kernel, by decide +kernel⟩, by decide +kernel, by decide⟩⟩
theorem l_X4_127 : LkV RX4 127 MX2_numberOf 3 := ⟨wl_in 399 (by decide +kernel) rfl, wl_in 400 (by decide +kernel) rfl, wl_in 401 (by decide +kernel) rfl, wl_in 7 (by decide +kernel) rfl, k_X2_numberOf, ⟨⟨by decide +kernel, by decide +kernel⟩, by decide +kernel, by decide⟩⟩
theorem l_X4_131 : LkV RX4 131 MX6_word 0 := ⟨wl_in 409 (by decide +kernel) rfl, wl_in 410 (by decide +kernel) rfl, wl_in 411 (by decide +kernel) rfl, wl_in 10 (by decide +kernel) rfl, k_X6_word, ⟨⟨by decide +kernel, by decide +kernel⟩, by decide +kernel, by decide⟩⟩
theorem l_X4_135 : LkV RX4 135 MX4_readFloor 1 := ⟨wl_in 748 (by decide +kernel) rfl, wl_in 750 (by decide +kernel) rfl, wl_inp 8 (by decide +kernel) rfl, wl_in 6 (by decide +kernel) rfl, k_X4_readFloor, ⟨⟨by decide +kernel, by decide +kernel⟩, by decide +kernel, by decide⟩⟩
theorem l_X4_139 : LkV RX4 139 MX2_receive 4 := ⟨wl_in 756 (by decide +kernel) rfl, wl_in 757 (by decide +kernel) rfl, wl_in 758 (by decide +kernel) rfl, wl_in 7 (by decide +kernel) rfl, k_X2_receive, ⟨⟨by decide +kernel, by decide +kernel⟩, by decide +kernel, by decide⟩⟩
theorem l_X4_143 : LkV RX4 143 MX4_readKnownName 0 := ⟨wl_in 766 (by decide +kernel) rfl, wl_in 768 (by decide +kernel) rfl, wl_inp 10 (by decide +kernel) rfl, wl_in 6 (by decide +kernel) rfl, k_X4_readKnownName, ⟨⟨by decide +kernel, by decide +kernel⟩, by decide +kernel, by decide⟩⟩
theorem l_X4_147 : LkV RX4 147 MX2_takePayment 2 := ⟨wl_in 770 (by decide +kernel) rfl, wl_in 771 (by decide +kernel) rfl, wl_in 772 (by decide +kernel) rfl, wl_in 7 (by decide +kernel) rfl, k_X2_takePayment, ⟨⟨by decide +kernel, by decide +kernel⟩, by decide +kernel, by decide⟩⟩
theorem l_X4_156 : LkV RX4 156 MX2_passDay 0 := ⟨wl_in 784 (by decide +kernel) rfl, wl_in 785 (by decide +kernel) rfl, wl_in 786 (by decide +kernel) rfl, wl_in 7 (by decide +kernel) rfl, k_X2_passDay, ⟨⟨by decide +kernel, by decide +kernel⟩, by decide +kernel, by decide⟩⟩
theorem l_X4_162 : LkV RX4 162 MX6_size 0 := ⟨wl_in 370 (by decide +kernel) rfl, wl_in 355 (by decide +kernel) rfl, wl_in 356 (by decide +kernel) rfl, wl_in 10 (by decide +kernel) rfl, k_X6_size, ⟨⟨by decide +kernel, by decide +kernel⟩, by decide +kernel, by decide⟩⟩
theorem l_X4_172 : LkV RX4 172 MX6_value 0 := ⟨wl_in 371 (by decide +kernel) rfl, wl_in 372 (by decide +kernel) rfl, wl_in 373 (by decide +kernel) rfl, wl_in 10 (by decide +kernel) rfl, k_X6_value, ⟨⟨by decide +kernel, by decide +kernel⟩, by decide +kernel, by decide⟩⟩
theorem l_X4_175 : LkV RX4 175 MX2_isFullFor 2 := ⟨wl_in 752 (by decide +kernel) rfl, wl_in 753 (by decide +kernel) rfl, wl_in 754 (by decide +kernel) rfl, wl_in 7 (by decide +kernel) rfl, k_X2_isFullFor, ⟨⟨by decide +kernel, by decide +kernel⟩, by decide +kernel, by decide⟩⟩
theorem l_X6_9 : LkI RX6 9 MJ4_init_da8c8 0 := ⟨wl_in 198 (by decide +kernel) rfl, wl_in 41 (by decide +kernel) rfl, rfl, wl_in 3 (by decide +kernel) rfl, k_J4_init_da8c8, ⟨⟨by decide +kernel, by decide +kernel⟩, by decide +kernel, by decide⟩, rfl⟩
theorem l_X6_29 : LkS RX6 29 MJ9_min_7cf53 2 := ⟨wl_in 320 (by decide +kernel) rfl, wl_in 321 (by decide +kernel) rfl, wl_in 16 (by decide +kernel) rfl, k_J9_min_7cf53, ⟨⟨by decide +kernel, by decide +kernel⟩, by decide +kernel, by decide⟩⟩
theorem l_X6_45 : LkV RX6 45 MX6_step 0 := ⟨wl_in 325 (by decide +kernel) rfl, wl_in 326 (by decide +kernel) rfl, wl_in 327 (by decide +kernel) rfl, wl_in 10 (by decide +kernel) rfl, k_X6_step, ⟨⟨by decide +kernel, by decide +kernel⟩, by decide +kernel, by decide⟩⟩
theorem l_X6_57 : LkS RX6 57 MX6_isLetter 1 := ⟨wl_in 333 (by decide +kernel) rfl, wl_in 334 (by decide +kernel) rfl, wl_in 10 (by decide +kernel) rfl, k_X6_isLetter, ⟨⟨by decide +kernel, by decide +kernel⟩, by decide +kernel, by decide⟩⟩
theorem l_X6_64 : LkS RX6 64 MX6_isDigit 1 := ⟨wl_in 338 (by decide +kernel) rfl, wl_in 339 (by decide +kernel) rfl, wl_in 10 (by decide +kernel) rfl, k_X6_isDigit, ⟨⟨by decide +kernel, by decide +kernel⟩, by decide +kernel, by decide⟩⟩
theorem l_X6_67 : LkV RX6 67 MX6_size 0 := ⟨wl_in 354 (by decide +kernel) rfl, wl_in 355 (by decide +kernel) rfl, wl_in 356 (by decide +kernel) rfl, wl_in 10 (by decide +kernel) rfl, k_X6_size, ⟨⟨by decide +kernel, by decide +kernel⟩, by decide +kernel, by decide⟩⟩
theorem l_X6_71 : LkV RX6 71 MJ0_length_8abf5 0 := ⟨wl_in 358 (by decide +kernel) rfl, wl_in 266 (by decide +kernel) rfl, wl_in 267 (by decide +kernel) rfl, wl_in 4 (by decide +kernel) rfl, k_J0_length_8abf5, ⟨⟨by decide +kernel, by decide +kernel⟩, by decide +kernel, by decide⟩⟩
theorem l_X6_75 : LkV RX6 75 MJ0_charAt_5068e 1 := ⟨wl_in 359 (by decide +kernel) rfl, wl_in 275 (by decide +kernel) rfl, wl_in 276 (by decide +kernel) rfl, wl_in 4 (by decide +kernel) rfl, k_J0_charAt_5068e, ⟨⟨by decide +kernel, by decide +kernel⟩, by decide +kernel, by decide⟩⟩
theorem l_X6_79 : LkV RX6 79 MJ4_setLength_d00df 1 := ⟨wl_in 413 (by decide +kernel) rfl, wl_in 414 (by decide +kernel) rfl, wl_in 415 (by decide +kernel) rfl, wl_in 3 (by decide +kernel) rfl, k_J4_setLength_d00df, ⟨⟨by decide +kernel, by decide +kernel⟩, by decide +kernel, by decide⟩⟩
theorem l_X6_83 : LkV RX6 83 MJ4_append_cf468 1 := ⟨wl_in 734 (by decide +kernel) rfl, wl_in 735 (by decide +kernel) rfl, wl_in 736 (by decide +kernel) rfl, wl_in 3 (by decide +kernel) rfl, k_J4_append_cf468, ⟨⟨by decide +kernel, by decide +kernel⟩, by decide +kernel, by decide⟩⟩
theorem l_X6_87 : LkV RX6 87 MJ4_toString_0e30d 0 := ⟨wl_in 747 (by decide +kernel) rfl, wl_in 553 (by decide +kernel) rfl, wl_in 554 (by decide +kernel) rfl, wl_in 3 (by decide +kernel) rfl, k_J4_toString_0e30d, ⟨⟨by decide +kernel, by decide +kernel⟩, by decide +kernel, by decide⟩⟩
theorem l_L_7 : LkV RL 7 MX7_append 5 := ⟨wl_in 964 (by decide +kernel) rfl, wl_in 965 (by decide +kernel) rfl, wl_in 966 (by decide +kernel) rfl, wl_in 1 (by decide +kernel) rfl, k_X7_append, ⟨⟨by decide +kernel, by decide +kernel⟩, by decide +kernel, by decide⟩⟩
theorem l_L_15 : LkV RL 15 MX7_load 1 := ⟨wl_in 993 (by decide +kernel) rfl, wl_in 994 (by decide +kernel) rfl, wl_in 995 (by decide +kernel) rfl, wl_in 1 (by decide +kernel) rfl, k_X7_load, ⟨⟨by decide +kernel, by decide +kernel⟩, by decide +kernel, by decide⟩⟩
theorem l_L_23 : LkV RL 23 MX7_rentOf 1 := ⟨wl_in 1020 (by decide +kernel) rfl, wl_in 1021 (by decide +kernel) rfl, wl_in 1022 (by decide +kernel) rfl, wl_in 1 (by decide +kernel) rfl, k_X7_rentOf, ⟨⟨by decide +kernel, by decide +kernel⟩, by decide +kernel, by decide⟩⟩
theorem l_L_26 : LkV RL 26 MX7_landladyVowel 1 := ⟨wl_in 1033 (by decide +kernel) rfl, wl_in 1034 (by decide +kernel) rfl, wl_in 1035 (by decide +kernel) rfl, wl_in 1 (by decide +kernel) rfl, k_X7_landladyVowel, ⟨⟨by decide +kernel, by decide +kernel⟩, by decide +kernel, by decide⟩⟩
theorem l_L_29 : LkV RL 29 MX7_floorOf 1 := ⟨wl_in 1045 (by decide +kernel) rfl, wl_in 1046 (by decide +kernel) rfl, wl_in 1047 (by decide +kernel) rfl, wl_in 1 (by decide +kernel) rfl, k_X7_floorOf, ⟨⟨by decide +kernel, by decide +kernel⟩, by decide +kernel, by decide⟩⟩
theorem l_L_32 : LkV RL 32 MX7_balanceOf 1 := ⟨wl_in 1057 (by decide +kernel) rfl, wl_in 1058 (by decide +kernel) rfl, wl_in 1059 (by decide +kernel) rfl, wl_in 1 (by decide +kernel) rfl, k_X7_balanceOf, ⟨⟨by decide +kernel, by decide +kernel⟩, by decide +kernel, by decide⟩⟩
theorem l_L_35 : LkV RL 35 MX7_vowelOf 2 := ⟨wl_in 1064 (by decide +kernel) rfl, wl_in 1065 (by decide +kernel) rfl, wl_in 1066 (by decide +kernel) rfl, wl_in 1 (by decide +kernel) rfl, k_X7_vowelOf, ⟨⟨by decide +kernel, by decide +kernel⟩, by decide +kernel, by decide⟩⟩
theorem l_L_39 : LkV RL 39 MX7_lessonsOf 1 := ⟨wl_in 1071 (by decide +kernel) rfl, wl_in 1072 (by decide +kernel) rfl, wl_in 1073 (by decide +kernel) rfl, wl_in 1 (by decide +kernel) rfl, k_X7_lessonsOf, ⟨⟨by decide +kernel, by decide +kernel⟩, by decide +kernel, by decide⟩⟩
theorem l_L_42 : LkV RL 42 MX7_slipsOf 1 := ⟨wl_in 1078 (by decide +kernel) rfl, wl_in 1079 (by decide +kernel) rfl, wl_in 1080 (by decide +kernel) rfl, wl_in 1 (by decide +kernel) rfl, k_X7_slipsOf, ⟨⟨by decide +kernel, by decide +kernel⟩, by decide +kernel, by decide⟩⟩
theorem l_L_45 : LkV RL 45 MX7_daysStayed 1 := ⟨wl_in 1085 (by decide +kernel) rfl, wl_in 1086 (by decide +kernel) rfl, wl_in 1087 (by decide +kernel) rfl, wl_in 1 (by decide +kernel) rfl, k_X7_daysStayed, ⟨⟨by decide +kernel, by decide +kernel⟩, by decide +kernel, by decide⟩⟩
theorem l_L_48 : LkV RL 48 MX7_nameLength 1 := ⟨wl_in 1092 (by decide +kernel) rfl, wl_in 1093 (by decide +kernel) rfl, wl_in 1094 (by decide +kernel) rfl, wl_in 1 (by decide +kernel) rfl, k_X7_nameLength, ⟨⟨by decide +kernel, by decide +kernel⟩, by decide +kernel, by decide⟩⟩
theorem l_L_51 : LkV RL 51 MX7_nameLetter 2 := ⟨wl_in 1099 (by decide +kernel) rfl, wl_in 1100 (by decide +kernel) rfl, wl_in 1101 (by decide +kernel) rfl, wl_in 1 (by decide +kernel) rfl, k_X7_nameLetter, ⟨⟨by decide +kernel, by decide +kernel⟩, by decide +kernel, by decide⟩⟩
theorem l_L_55 : LkV RL 55 MX7_lodgersOn 1 := ⟨wl_in 1107 (by decide +kernel) rfl, wl_in 1108 (by decide +kernel) rfl, wl_in 1109 (by decide +kernel) rfl, wl_in 1 (by decide +kernel) rfl, k_X7_lodgersOn, ⟨⟨by decide +kernel, by decide +kernel⟩, by decide +kernel, by decide⟩⟩
theorem l_L_58 : LkV RL 58 MX7_lodgerOn 2 := ⟨wl_in 1115 (by decide +kernel) rfl, wl_in 1116 (by decide +kernel) rfl, wl_in 1117 (by decide +kernel) rfl, wl_in 1 (by decide +kernel) rfl, k_X7_lodgerOn, ⟨⟨by decide +kernel, by decide +kernel⟩, by decide +kernel, by decide⟩⟩
theorem l_L_61 : LkV RL 61 MX7_averageVowel 2 := ⟨wl_in 1127 (by decide +kernel) rfl, wl_in 1128 (by decide +kernel) rfl, wl_in 1129 (by decide +kernel) rfl, wl_in 1 (by decide +kernel) rfl, k_X7_averageVowel, ⟨⟨by decide +kernel, by decide +kernel⟩, by decide +kernel, by decide⟩⟩
theorem l_L_64 : LkV RL 64 MX7_distanceToLandlady 1 := ⟨wl_in 1136 (by decide +kernel) rfl, wl_in 1137 (by decide +kernel) rfl, wl_in 1138 (by decide +kernel) rfl, wl_in 1 (by decide +kernel) rfl, k_X7_distanceToLandlady, ⟨⟨by decide +kernel, by decide +kernel⟩, by decide +kernel, by decide⟩⟩
theorem l_L_67 : LkV RL 67 MX7_distance 2 := ⟨wl_in 1143 (by decide +kernel) rfl, wl_in 1144 (by decide +kernel) rfl, wl_in 1145 (by decide +kernel) rfl, wl_in 1 (by decide +kernel) rfl, k_X7_distance, ⟨⟨by decide +kernel, by decide +kernel⟩, by decide +kernel, by decide⟩⟩
theorem l_L_70 : LkV RL 70 MX7_rhymes 2 := ⟨wl_in 1150 (by decide +kernel) rfl, wl_in 1151 (by decide +kernel) rfl, wl_in 1152 (by decide +kernel) rfl, wl_in 1 (by decide +kernel) rfl, k_X7_rhymes, ⟨⟨by decide +kernel, by decide +kernel⟩, by decide +kernel, by decide⟩⟩
theorem l_L_74 : LkV RL 74 MX7_rhymesWithLandlady 1 := ⟨wl_in 1157 (by decide +kernel) rfl, wl_in 1158 (by decide +kernel) rfl, wl_in 1159 (by decide +kernel) rfl, wl_in 1 (by decide +kernel) rfl, k_X7_rhymesWithLandlady, ⟨⟨by decide +kernel, by decide +kernel⟩, by decide +kernel, by decide⟩⟩
theorem l_L_78 : LkV RL 78 MX7_rhymeCount 1 := ⟨wl_in 1164 (by decide +kernel) rfl, wl_in 1165 (by decide +kernel) rfl, wl_in 1166 (by decide +kernel) rfl, wl_in 1 (by decide +kernel) rfl, k_X7_rhymeCount, ⟨⟨by decide +kernel, by decide +kernel⟩, by decide +kernel, by decide⟩⟩
theorem l_L_81 : LkV RL 81 MX7_closestTo 1 := ⟨wl_in 1171 (by decide +kernel) rfl, wl_in 1172 (by decide +kernel) rfl, wl_in 1173 (by decide +kernel) rfl, wl_in 1 (by decide +kernel) rfl, k_X7_closestTo, ⟨⟨by decide +kernel, by decide +kernel⟩, by decide +kernel, by decide⟩⟩
theorem l_L_84 : LkV RL 84 MX7_lessonVowel 1 := ⟨wl_in 1178 (by decide +kernel) rfl, wl_in 1179 (by decide +kernel) rfl, wl_in 1180 (by decide +kernel) rfl, wl_in 1 (by decide +kernel) rfl, k_X7_lessonVowel, ⟨⟨by decide +kernel, by decide +kernel⟩, by decide +kernel, by decide⟩⟩
theorem l_L_87 : LkV RL 87 MX7_slipVowel 1 := ⟨wl_in 1186 (by decide +kernel) rfl, wl_in 1187 (by decide +kernel) rfl, wl_in 1188 (by decide +kernel) rfl, wl_in 1 (by decide +kernel) rfl, k_X7_slipVowel, ⟨⟨by decide +kernel, by decide +kernel⟩, by decide +kernel, by decide⟩⟩
theorem l_L_90 : LkV RL 90 MX7_mustGo 1 := ⟨wl_in 1194 (by decide +kernel) rfl, wl_in 1195 (by decide +kernel) rfl, wl_in 1196 (by decide +kernel) rfl, wl_in 1 (by decide +kernel) rfl, k_X7_mustGo, ⟨⟨by decide +kernel, by decide +kernel⟩, by decide +kernel, by decide⟩⟩
theorem l_L_93 : LkV RL 93 MX7_balanceAfter 2 := ⟨wl_in 1202 (by decide +kernel) rfl, wl_in 1203 (by decide +kernel) rfl, wl_in 1204 (by decide +kernel) rfl, wl_in 1 (by decide +kernel) rfl, k_X7_balanceAfter, ⟨⟨by decide +kernel, by decide +kernel⟩, by decide +kernel, by decide⟩⟩
theorem l_L_96 : LkV RL 96 MX7_distanceAfter 2 := ⟨wl_in 1227 (by decide +kernel) rfl, wl_in 1228 (by decide +kernel) rfl, wl_in 1229 (by decide +kernel) rfl, wl_in 1 (by decide +kernel) rfl, k_X7_distanceAfter, ⟨⟨by decide +kernel, by decide +kernel⟩, by decide +kernel, by decide⟩⟩
theorem l_L_99 : LkV RL 99 MX7_daysToEviction 1 := ⟨wl_in 1234 (by decide +kernel) rfl, wl_in 1235 (by decide +kernel) rfl, wl_in 1236 (by decide +kernel) rfl, wl_in 1 (by decide +kernel) rfl, k_X7_daysToEviction, ⟨⟨by decide +kernel, by decide +kernel⟩, by decide +kernel, by decide⟩⟩
theorem l_L_102 : LkV RL 102 MX7_paymentToStay 1 := ⟨wl_in 1241 (by decide +kernel) rfl, wl_in 1242 (by decide +kernel) rfl, wl_in 1243 (by decide +kernel) rfl, wl_in 1 (by decide +kernel) rfl, k_X7_paymentToStay, ⟨⟨by decide +kernel, by decide +kernel⟩, by decide +kernel, by decide⟩⟩
theorem l_L_105 : LkV RL 105 MX7_advance 1 := ⟨wl_in 1253 (by decide +kernel) rfl, wl_in 1254 (by decide +kernel) rfl, wl_in 1255 (by decide +kernel) rfl, wl_in 1 (by decide +kernel) rfl, k_X7_advance, ⟨⟨by decide +kernel, by decide +kernel⟩, by decide +kernel, by decide⟩⟩
theorem l_L_108 : LkV RL 108 MX7_moveIn 3 := ⟨wl_in 1266 (by decide +kernel) rfl, wl_in 1267 (by decide +kernel) rfl, wl_in 1268 (by decide +kernel) rfl, wl_in 1 (by decide +kernel) rfl, k_X7_moveIn, ⟨⟨by decide +kernel, by decide +kernel⟩, by decide +kernel, by decide⟩⟩
theorem l_L_112 : LkV RL 112 MX7_moveOut 1 := ⟨wl_in 1318 (by decide +kernel) rfl, wl_in 1319 (by decide +kernel) rfl, wl_in 1320 (by decide +kernel) rfl, wl_in 1 (by decide +kernel) rfl, k_X7_moveOut, ⟨⟨by decide +kernel, by decide +kernel⟩, by decide +kernel, by decide⟩⟩
theorem l_L_115 : LkV RL 115 MX7_moveTo 2 := ⟨wl_in 1326 (by decide +kernel) rfl, wl_in 1327 (by decide +kernel) rfl, wl_in 1328 (by decide +kernel) rfl, wl_in 1 (by decide +kernel) rfl, k_X7_moveTo, ⟨⟨by decide +kernel, by decide +kernel⟩, by decide +kernel, by decide⟩⟩
theorem l_L_118 : LkV RL 118 MX7_pay 2 := ⟨wl_in 1333 (by decide +kernel) rfl, wl_in 1334 (by decide +kernel) rfl, wl_in 1335 (by decide +kernel) rfl, wl_in 1 (by decide +kernel) rfl, k_X7_pay, ⟨⟨by decide +kernel, by decide +kernel⟩, by decide +kernel, by decide⟩⟩
theorem l_L_121 : LkV RL 121 MX7_setLandladyVowel 2 := ⟨wl_in 1341 (by decide +kernel) rfl, wl_in 1342 (by decide +kernel) rfl, wl_in 1343 (by decide +kernel) rfl, wl_in 1 (by decide +kernel) rfl, k_X7_setLandladyVowel, ⟨⟨by decide +kernel, by decide +kernel⟩, by decide +kernel, by decide⟩⟩
theorem l_L_124 : LkV RL 124 MX7_setTolerance 1 := ⟨wl_in 1348 (by decide +kernel) rfl, wl_in 1349 (by decide +kernel) rfl, wl_in 1350 (by decide +kernel) rfl, wl_in 1 (by decide +kernel) rfl, k_X7_setTolerance, ⟨⟨by decide +kernel, by decide +kernel⟩, by decide +kernel, by decide⟩⟩
theorem l_L_127 : LkV RL 127 MX7_setBaseRent 1 := ⟨wl_in 1355 (by decide +kernel) rfl, wl_in 1356 (by decide +kernel) rfl, wl_in 1357 (by decide +kernel) rfl, wl_in 1 (by decide +kernel) rfl, k_X7_setBaseRent, ⟨⟨by decide +kernel, by decide +kernel⟩, by decide +kernel, by decide⟩⟩
theorem l_L_130 : LkV RL 130 MX7_restore 1 := ⟨wl_in 1362 (by decide +kernel) rfl, wl_in 1363 (by decide +kernel) rfl, wl_in 1364 (by decide +kernel) rfl, wl_in 1 (by decide +kernel) rfl, k_X7_restore, ⟨⟨by decide +kernel, by decide +kernel⟩, by decide +kernel, by decide⟩⟩
theorem l_L_133 : LkV RL 133 MX7_undo 0 := ⟨wl_in 1375 (by decide +kernel) rfl, wl_in 1376 (by decide +kernel) rfl, wl_in 1377 (by decide +kernel) rfl, wl_in 1 (by decide +kernel) rfl, k_X7_undo, ⟨⟨by decide +kernel, by decide +kernel⟩, by decide +kernel, by decide⟩⟩
theorem l_L_137 : LkV RL 137 MX7_save 1 := ⟨wl_in 1387 (by decide +kernel) rfl, wl_in 1388 (by decide +kernel) rfl, wl_in 1389 (by decide +kernel) rfl, wl_in 1 (by decide +kernel) rfl, k_X7_save, ⟨⟨by decide +kernel, by decide +kernel⟩, by decide +kernel, by decide⟩⟩
theorem l_L_140 : LkV RL 140 MX7_writeLodger 1 := ⟨wl_in 1394 (by decide +kernel) rfl, wl_in 1395 (by decide +kernel) rfl, wl_in 1396 (by decide +kernel) rfl, wl_in 1 (by decide +kernel) rfl, k_X7_writeLodger, ⟨⟨by decide +kernel, by decide +kernel⟩, by decide +kernel, by decide⟩⟩
theorem l_L_143 : LkV RL 143 MX7_writeFloor 1 := ⟨wl_in 1406 (by decide +kernel) rfl, wl_in 1407 (by decide +kernel) rfl, wl_in 1408 (by decide +kernel) rfl, wl_in 1 (by decide +kernel) rfl, k_X7_writeFloor, ⟨⟨by decide +kernel, by decide +kernel⟩, by decide +kernel, by decide⟩⟩
theorem l_L_146 : LkV RL 146 MX7_outputCharacter 1 := ⟨wl_in 1413 (by decide +kernel) rfl, wl_in 1414 (by decide +kernel) rfl, wl_in 1415 (by decide +kernel) rfl, wl_in 1 (by decide +kernel) rfl, k_X7_outputCharacter, ⟨⟨by decide +kernel, by decide +kernel⟩, by decide +kernel, by decide⟩⟩
theorem l_L_150 : LkI RL 150 MX7_init 0 := ⟨wl_in 32 (by decide +kernel) rfl, wl_in 33 (by decide +kernel) rfl, rfl, wl_in 1 (by decide +kernel) rfl, k_X7_init, ⟨⟨by decide +kernel, by decide +kernel⟩, by decide +kernel, by decide⟩, rfl⟩
theorem l_L_153 : LkI RL 153 MX8_init 0 := ⟨wl_in 1430 (by decide +kernel) rfl, wl_in 1431 (by decide +kernel) rfl, rfl, wl_in 28 (by decide +kernel) rfl, k_X8_init, ⟨⟨by decide +kernel, by decide +kernel⟩, by decide +kernel, by decide⟩, rfl⟩
theorem l_L_159 : LkV RL 159 MX8_append 5 := ⟨wl_in 1599 (by decide +kernel) rfl, wl_in 1600 (by decide +kernel) rfl, wl_in 1601 (by decide +kernel) rfl, wl_in 28 (by decide +kernel) rfl, k_X8_append, ⟨⟨by decide +kernel, by decide +kernel⟩, by decide +kernel, by decide⟩⟩
theorem l_L_160 : LkV RL 160 MX8_thrown 0 := ⟨wl_in 1595 (by decide +kernel) rfl, wl_in 1596 (by decide +kernel) rfl, wl_in 1597 (by decide +kernel) rfl, wl_in 28 (by decide +kernel) rfl, k_X8_thrown, ⟨⟨by decide +kernel, by decide +kernel⟩, by decide +kernel, by decide⟩⟩
theorem l_L_166 : LkV RL 166 MX8_load 1 := ⟨wl_in 1615 (by decide +kernel) rfl, wl_in 1616 (by decide +kernel) rfl, wl_in 1617 (by decide +kernel) rfl, wl_in 28 (by decide +kernel) rfl, k_X8_load, ⟨⟨by decide +kernel, by decide +kernel⟩, by decide +kernel, by decide⟩⟩
theorem l_L_167 : LkV RL 167 MX7_errorKind 0 := ⟨wl_in 893 (by decide +kernel) rfl, wl_in 894 (by decide +kernel) rfl, wl_in 895 (by decide +kernel) rfl, wl_in 1 (by decide +kernel) rfl, k_X7_errorKind, ⟨⟨by decide +kernel, by decide +kernel⟩, by decide +kernel, by decide⟩⟩
theorem l_L_170 : LkV RL 170 MX8_errorKind 0 := ⟨wl_in 1712 (by decide +kernel) rfl, wl_in 1713 (by decide +kernel) rfl, wl_in 1714 (by decide +kernel) rfl, wl_in 28 (by decide +kernel) rfl, k_X8_errorKind, ⟨⟨by decide +kernel, by decide +kernel⟩, by decide +kernel, by decide⟩⟩
theorem l_L_171 : LkV RL 171 MX7_errorOffset 0 := ⟨wl_in 897 (by decide +kernel) rfl, wl_in 898 (by decide +kernel) rfl, wl_in 899 (by decide +kernel) rfl, wl_in 1 (by decide +kernel) rfl, k_X7_errorOffset, ⟨⟨by decide +kernel, by decide +kernel⟩, by decide +kernel, by decide⟩⟩
theorem l_L_174 : LkV RL 174 MX8_errorOffset 0 := ⟨wl_in 1716 (by decide +kernel) rfl, wl_in 1717 (by decide +kernel) rfl, wl_in 1718 (by decide +kernel) rfl, wl_in 28 (by decide +kernel) rfl, k_X8_errorOffset, ⟨⟨by decide +kernel, by decide +kernel⟩, by decide +kernel, by decide⟩⟩
theorem l_L_175 : LkV RL 175 MX7_day 0 := ⟨wl_in 901 (by decide +kernel) rfl, wl_in 902 (by decide +kernel) rfl, wl_in 903 (by decide +kernel) rfl, wl_in 1 (by decide +kernel) rfl, k_X7_day, ⟨⟨by decide +kernel, by decide +kernel⟩, by decide +kernel, by decide⟩⟩
theorem l_L_178 : LkV RL 178 MX8_day 0 := ⟨wl_in 1720 (by decide +kernel) rfl, wl_in 1721 (by decide +kernel) rfl, wl_in 1722 (by decide +kernel) rfl, wl_in 28 (by decide +kernel) rfl, k_X8_day, ⟨⟨by decide +kernel, by decide +kernel⟩, by decide +kernel, by decide⟩⟩
theorem l_L_179 : LkV RL 179 MX7_lodgerCount 0 := ⟨wl_in 905 (by decide +kernel) rfl, wl_in 906 (by decide +kernel) rfl, wl_in 907 (by decide +kernel) rfl, wl_in 1 (by decide +kernel) rfl, k_X7_lodgerCount, ⟨⟨by decide +kernel, by decide +kernel⟩, by decide +kernel, by decide⟩⟩
theorem l_L_182 : LkV RL 182 MX8_lodgerCount 0 := ⟨wl_in 1724 (by decide +kernel) rfl, wl_in 1725 (by decide +kernel) rfl, wl_in 1726 (by decide +kernel) rfl, wl_in 28 (by decide +kernel) rfl, k_X8_lodgerCount, ⟨⟨by decide +kernel, by decide +kernel⟩, by decide +kernel, by decide⟩⟩
theorem l_L_183 : LkV RL 183 MX7_baseRent 0 := ⟨wl_in 909 (by decide +kernel) rfl, wl_in 910 (by decide +kernel) rfl, wl_in 911 (by decide +kernel) rfl, wl_in 1 (by decide +kernel) rfl, k_X7_baseRent, ⟨⟨by decide +kernel, by decide +kernel⟩, by decide +kernel, by decide⟩⟩
theorem l_L_186 : LkV RL 186 MX8_baseRent 0 := ⟨wl_in 1728 (by decide +kernel) rfl, wl_in 1729 (by decide +kernel) rfl, wl_in 1730 (by decide +kernel) rfl, wl_in 28 (by decide +kernel) rfl, k_X8_baseRent, ⟨⟨by decide +kernel, by decide +kernel⟩, by decide +kernel, by decide⟩⟩
theorem l_L_187 : LkV RL 187 MX7_tolerance 0 := ⟨wl_in 913 (by decide +kernel) rfl, wl_in 914 (by decide +kernel) rfl, wl_in 915 (by decide +kernel) rfl, wl_in 1 (by decide +kernel) rfl, k_X7_tolerance, ⟨⟨by decide +kernel, by decide +kernel⟩, by decide +kernel, by decide⟩⟩
theorem l_L_190 : LkV RL 190 MX8_tolerance 0 := ⟨wl_in 1732 (by decide +kernel) rfl, wl_in 1733 (by decide +kernel) rfl, wl_in 1734 (by decide +kernel) rfl, wl_in 28 (by decide +kernel) rfl, k_X8_tolerance, ⟨⟨by decide +kernel, by decide +kernel⟩, by decide +kernel, by decide⟩⟩
theorem l_L_193 : LkV RL 193 MX8_rentOf 1 := ⟨wl_in 1736 (by decide +kernel) rfl, wl_in 1737 (by decide +kernel) rfl, wl_in 1738 (by decide +kernel) rfl, wl_in 28 (by decide +kernel) rfl, k_X8_rentOf, ⟨⟨by decide +kernel, by decide +kernel⟩, by decide +kernel, by decide⟩⟩
theorem l_L_196 : LkV RL 196 MX8_landladyVowel 1 := ⟨wl_in 1743 (by decide +kernel) rfl, wl_in 1744 (by decide +kernel) rfl, wl_in 1745 (by decide +kernel) rfl, wl_in 28 (by decide +kernel) rfl, k_X8_landladyVowel, ⟨⟨by decide +kernel, by decide +kernel⟩, by decide +kernel, by decide⟩⟩
theorem l_L_197 : LkV RL 197 MX7_daysToInspection 0 := ⟨wl_in 917 (by decide +kernel) rfl, wl_in 918 (by decide +kernel) rfl, wl_in 919 (by decide +kernel) rfl, wl_in 1 (by decide +kernel) rfl, k_X7_daysToInspection, ⟨⟨by decide +kernel, by decide +kernel⟩, by decide +kernel, by decide⟩⟩
theorem l_L_200 : LkV RL 200 MX8_daysToInspection 0 := ⟨wl_in 1750 (by decide +kernel) rfl, wl_in 1751 (by decide +kernel) rfl, wl_in 1752 (by decide +kernel) rfl, wl_in 28 (by decide +kernel) rfl, k_X8_daysToInspection, ⟨⟨by decide +kernel, by decide +kernel⟩, by decide +kernel, by decide⟩⟩
theorem l_L_201 : LkV RL 201 MX7_evictions 0 := ⟨wl_in 921 (by decide +kernel) rfl, wl_in 922 (by decide +kernel) rfl, wl_in 923 (by decide +kernel) rfl, wl_in 1 (by decide +kernel) rfl, k_X7_evictions, ⟨⟨by decide +kernel, by decide +kernel⟩, by decide +kernel, by decide⟩⟩
theorem l_L_204 : LkV RL 204 MX8_evictions 0 := ⟨wl_in 1758 (by decide +kernel) rfl, wl_in 1759 (by decide +kernel) rfl, wl_in 1760 (by decide +kernel) rfl, wl_in 28 (by decide +kernel) rfl, k_X8_evictions, ⟨⟨by decide +kernel, by decide +kernel⟩, by decide +kernel, by decide⟩⟩
theorem l_L_205 : LkV RL 205 MX7_undoCount 0 := ⟨wl_in 925 (by decide +kernel) rfl, wl_in 926 (by decide +kernel) rfl, wl_in 927 (by decide +kernel) rfl, wl_in 1 (by decide +kernel) rfl, k_X7_undoCount, ⟨⟨by decide +kernel, by decide +kernel⟩, by decide +kernel, by decide⟩⟩
theorem l_L_208 : LkV RL 208 MX8_undoCount 0 := ⟨wl_in 1762 (by decide +kernel) rfl, wl_in 1763 (by decide +kernel) rfl, wl_in 1764 (by decide +kernel) rfl, wl_in 28 (by decide +kernel) rfl, k_X8_undoCount, ⟨⟨by decide +kernel, by decide +kernel⟩, by decide +kernel, by decide⟩⟩
theorem l_L_211 : LkV RL 211 MX8_floorOf 1 := ⟨wl_in 1766 (by decide +kernel) rfl, wl_in 1767 (by decide +kernel) rfl, wl_in 1768 (by decide +kernel) rfl, wl_in 28 (by decide +kernel) rfl, k_X8_floorOf, ⟨⟨by decide +kernel, by decide +kernel⟩, by decide +kernel, by decide⟩⟩
theorem l_L_214 : LkV RL 214 MX8_balanceOf 1 := ⟨wl_in 1778 (by decide +kernel) rfl, wl_in 1779 (by decide +kernel) rfl, wl_in 1780 (by decide +kernel) rfl, wl_in 28 (by decide +kernel) rfl, k_X8_balanceOf, ⟨⟨by decide +kernel, by decide +kernel⟩, by decide +kernel, by decide⟩⟩
theorem l_L_218 : LkV RL 218 MX8_vowelOf 2 := ⟨wl_in 1782 (by decide +kernel) rfl, wl_in 1783 (by decide +kernel) rfl, wl_in 1784 (by decide +kernel) rfl, wl_in 28 (by decide +kernel) rfl, k_X8_vowelOf, ⟨⟨by decide +kernel, by decide +kernel⟩, by decide +kernel, by decide⟩⟩
theorem l_L_221 : LkV RL 221 MX8_lessonsOf 1 := ⟨wl_in 1786 (by decide +kernel) rfl, wl_in 1787 (by decide +kernel) rfl, wl_in 1788 (by decide +kernel) rfl, wl_in 28 (by decide +kernel) rfl, k_X8_lessonsOf, ⟨⟨by decide +kernel, by decide +kernel⟩, by decide +kernel, by decide⟩⟩
theorem l_L_224 : LkV RL 224 MX8_slipsOf 1 := ⟨wl_in 1790 (by decide +kernel) rfl, wl_in 1791 (by decide +kernel) rfl, wl_in 1792 (by decide +kernel) rfl, wl_in 28 (by decide +kernel) rfl, k_X8_slipsOf, ⟨⟨by decide +kernel, by decide +kernel⟩, by decide +kernel, by decide⟩⟩
theorem l_L_227 : LkV RL 227 MX8_daysStayed 1 := ⟨wl_in 1794 (by decide +kernel) rfl, wl_in 1795 (by decide +kernel) rfl, wl_in 1796 (by decide +kernel) rfl, wl_in 28 (by decide +kernel) rfl, k_X8_daysStayed, ⟨⟨by decide +kernel, by decide +kernel⟩, by decide +kernel, by decide⟩⟩
theorem l_L_230 : LkV RL 230 MX8_nameLength 1 := ⟨wl_in 1798 (by decide +kernel) rfl, wl_in 1799 (by decide +kernel) rfl, wl_in 1800 (by decide +kernel) rfl, wl_in 28 (by decide +kernel) rfl, k_X8_nameLength, ⟨⟨by decide +kernel, by decide +kernel⟩, by decide +kernel, by decide⟩⟩
theorem l_L_233 : LkV RL 233 MX8_nameLetter 2 := ⟨wl_in 1806 (by decide +kernel) rfl, wl_in 1807 (by decide +kernel) rfl, wl_in 1808 (by decide +kernel) rfl, wl_in 28 (by decide +kernel) rfl, k_X8_nameLetter, ⟨⟨by decide +kernel, by decide +kernel⟩, by decide +kernel, by decide⟩⟩
theorem l_L_234 : LkV RL 234 MX7_findByName 0 := ⟨wl_in 929 (by decide +kernel) rfl, wl_in 930 (by decide +kernel) rfl, wl_in 931 (by decide +kernel) rfl, wl_in 1 (by decide +kernel) rfl, k_X7_findByName, ⟨⟨by decide +kernel, by decide +kernel⟩, by decide +kernel, by decide⟩⟩
theorem l_L_237 : LkV RL 237 MX8_findByName 0 := ⟨wl_in 1810 (by decide +kernel) rfl, wl_in 1811 (by decide +kernel) rfl, wl_in 1812 (by decide +kernel) rfl, wl_in 28 (by decide +kernel) rfl, k_X8_findByName, ⟨⟨by decide +kernel, by decide +kernel⟩, by decide +kernel, by decide⟩⟩
theorem l_L_240 : LkV RL 240 MX8_lodgersOn 1 := ⟨wl_in 1814 (by decide +kernel) rfl, wl_in 1815 (by decide +kernel) rfl, wl_in 1816 (by decide +kernel) rfl, wl_in 28 (by decide +kernel) rfl, k_X8_lodgersOn, ⟨⟨by decide +kernel, by decide +kernel⟩, by decide +kernel, by decide⟩⟩
theorem l_L_243 : LkV RL 243 MX8_lodgerOn 2 := ⟨wl_in 1818 (by decide +kernel) rfl, wl_in 1819 (by decide +kernel) rfl, wl_in 1820 (by decide +kernel) rfl, wl_in 28 (by decide +kernel) rfl, k_X8_lodgerOn, ⟨⟨by decide +kernel, by decide +kernel⟩, by decide +kernel, by decide⟩⟩
theorem l_L_246 : LkV RL 246 MX8_averageVowel 2 := ⟨wl_in 1822 (by decide +kernel) rfl, wl_in 1823 (by decide +kernel) rfl, wl_in 1824 (by decide +kernel) rfl, wl_in 28 (by decide +kernel) rfl, k_X8_averageVowel, ⟨⟨by decide +kernel, by decide +kernel⟩, by decide +kernel, by decide⟩⟩
theorem l_L_249 : LkV RL 249 MX8_distanceToLandlady 1 := ⟨wl_in 1826 (by decide +kernel) rfl, wl_in 1827 (by decide +kernel) rfl, wl_in 1828 (by decide +kernel) rfl, wl_in 28 (by decide +kernel) rfl, k_X8_distanceToLandlady, ⟨⟨by decide +kernel, by decide +kernel⟩, by decide +kernel, by decide⟩⟩
theorem l_L_252 : LkV RL 252 MX8_distance 2 := ⟨wl_in 1830 (by decide +kernel) rfl, wl_in 1831 (by decide +kernel) rfl, wl_in 1832 (by decide +kernel) rfl, wl_in 28 (by decide +kernel) rfl, k_X8_distance, ⟨⟨by decide +kernel, by decide +kernel⟩, by decide +kernel, by decide⟩⟩
theorem l_L_255 : LkV RL 255 MX8_rhymes 2 := ⟨wl_in 1838 (by decide +kernel) rfl, wl_in 1839 (by decide +kernel) rfl, wl_in 1840 (by decide +kernel) rfl, wl_in 28 (by decide +kernel) rfl, k_X8_rhymes, ⟨⟨by decide +kernel, by decide +kernel⟩, by decide +kernel, by decide⟩⟩
theorem l_L_258 : LkV RL 258 MX8_rhymesWithLandlady 1 := ⟨wl_in 1854 (by decide +kernel) rfl, wl_in 1855 (by decide +kernel) rfl, wl_in 1856 (by decide +kernel) rfl, wl_in 28 (by decide +kernel) rfl, k_X8_rhymesWithLandlady, ⟨⟨by decide +kernel, by decide +kernel⟩, by decide +kernel, by decide⟩⟩
theorem l_L_261 : LkV RL 261 MX8_rhymeCount 1 := ⟨wl_in 1858 (by decide +kernel) rfl, wl_in 1859 (by decide +kernel) rfl, wl_in 1860 (by decide +kernel) rfl, wl_in 28 (by decide +kernel) rfl, k_X8_rhymeCount, ⟨⟨by decide +kernel, by decide +kernel⟩, by decide +kernel, by decide⟩⟩
theorem l_L_264 : LkV RL 264 MX8_closestTo 1 := ⟨wl_in 1862 (by decide +kernel) rfl, wl_in 1863 (by decide +kernel) rfl, wl_in 1864 (by decide +kernel) rfl, wl_in 28 (by decide +kernel) rfl, k_X8_closestTo, ⟨⟨by decide +kernel, by decide +kernel⟩, by decide +kernel, by decide⟩⟩
theorem l_L_267 : LkV RL 267 MX8_lessonVowel 1 := ⟨wl_in 1866 (by decide +kernel) rfl, wl_in 1867 (by decide +kernel) rfl, wl_in 1868 (by decide +kernel) rfl, wl_in 28 (by decide +kernel) rfl, k_X8_lessonVowel, ⟨⟨by decide +kernel, by decide +kernel⟩, by decide +kernel, by decide⟩⟩
theorem l_L_270 : LkV RL 270 MX8_slipVowel 1 := ⟨wl_in 1870 (by decide +kernel) rfl, wl_in 1871 (by decide +kernel) rfl, wl_in 1872 (by decide +kernel) rfl, wl_in 28 (by decide +kernel) rfl, k_X8_slipVowel, ⟨⟨by decide +kernel, by decide +kernel⟩, by decide +kernel, by decide⟩⟩
theorem l_L_273 : LkV RL 273 MX8_mustGo 1 := ⟨wl_in 1874 (by decide +kernel) rfl, wl_in 1875 (by decide +kernel) rfl, wl_in 1876 (by decide +kernel) rfl, wl_in 28 (by decide +kernel) rfl, k_X8_mustGo, ⟨⟨by decide +kernel, by decide +kernel⟩, by decide +kernel, by decide⟩⟩
theorem l_L_274 : LkV RL 274 MX7_meanDistance 0 := ⟨wl_in 934 (by decide +kernel) rfl, wl_in 935 (by decide +kernel) rfl, wl_in 936 (by decide +kernel) rfl, wl_in 1 (by decide +kernel) rfl, k_X7_meanDistance, ⟨⟨by decide +kernel, by decide +kernel⟩, by decide +kernel, by decide⟩⟩
theorem l_L_278 : LkV RL 278 MX8_meanDistance 0 := ⟨wl_in 1878 (by decide +kernel) rfl, wl_in 1879 (by decide +kernel) rfl, wl_in 1880 (by decide +kernel) rfl, wl_in 28 (by decide +kernel) rfl, k_X8_meanDistance, ⟨⟨by decide +kernel, by decide +kernel⟩, by decide +kernel, by decide⟩⟩
theorem l_L_279 : LkV RL 279 MX7_rhymingShare 0 := ⟨wl_in 939 (by decide +kernel) rfl, wl_in 940 (by decide +kernel) rfl, wl_in 941 (by decide +kernel) rfl, wl_in 1 (by decide +kernel) rfl, k_X7_rhymingShare, ⟨⟨by decide +kernel, by decide +kernel⟩, by decide +kernel, by decide⟩⟩
theorem l_L_283 : LkV RL 283 MX8_rhymingShare 0 := ⟨wl_in 1882 (by decide +kernel) rfl, wl_in 1883 (by decide +kernel) rfl, wl_in 1884 (by decide +kernel) rfl, wl_in 28 (by decide +kernel) rfl, k_X8_rhymingShare, ⟨⟨by decide +kernel, by decide +kernel⟩, by decide +kernel, by decide⟩⟩
theorem l_L_286 : LkV RL 286 MX8_balanceAfter 2 := ⟨wl_in 1886 (by decide +kernel) rfl, wl_in 1887 (by decide +kernel) rfl, wl_in 1888 (by decide +kernel) rfl, wl_in 28 (by decide +kernel) rfl, k_X8_balanceAfter, ⟨⟨by decide +kernel, by decide +kernel⟩, by decide +kernel, by decide⟩⟩
theorem l_L_289 : LkV RL 289 MX8_distanceAfter 2 := ⟨wl_in 1894 (by decide +kernel) rfl, wl_in 1895 (by decide +kernel) rfl, wl_in 1896 (by decide +kernel) rfl, wl_in 28 (by decide +kernel) rfl, k_X8_distanceAfter, ⟨⟨by decide +kernel, by decide +kernel⟩, by decide +kernel, by decide⟩⟩
theorem l_L_292 : LkV RL 292 MX8_daysToEviction 1 := ⟨wl_in 1898 (by decide +kernel) rfl, wl_in 1899 (by decide +kernel) rfl, wl_in 1900 (by decide +kernel) rfl, wl_in 28 (by decide +kernel) rfl, k_X8_daysToEviction, ⟨⟨by decide +kernel, by decide +kernel⟩, by decide +kernel, by decide⟩⟩
theorem l_L_295 : LkV RL 295 MX8_paymentToStay 1 := ⟨wl_in 1902 (by decide +kernel) rfl, wl_in 1903 (by decide +kernel) rfl, wl_in 1904 (by decide +kernel) rfl, wl_in 28 (by decide +kernel) rfl, k_X8_paymentToStay, ⟨⟨by decide +kernel, by decide +kernel⟩, by decide +kernel, by decide⟩⟩
theorem l_L_296 : LkV RL 296 MX7_totalPaid 0 := ⟨wl_in 944 (by decide +kernel) rfl, wl_in 945 (by decide +kernel) rfl, wl_in 946 (by decide +kernel) rfl, wl_in 1 (by decide +kernel) rfl, k_X7_totalPaid, ⟨⟨by decide +kernel, by decide +kernel⟩, by decide +kernel, by decide⟩⟩
theorem l_L_299 : LkV RL 299 MX8_totalPaid 0 := ⟨wl_in 1910 (by decide +kernel) rfl, wl_in 1911 (by decide +kernel) rfl, wl_in 1912 (by decide +kernel) rfl, wl_in 28 (by decide +kernel) rfl, k_X8_totalPaid, ⟨⟨by decide +kernel, by decide +kernel⟩, by decide +kernel, by decide⟩⟩
theorem l_L_300 : LkV RL 300 MX7_totalCharged 0 := ⟨wl_in 948 (by decide +kernel) rfl, wl_in 949 (by decide +kernel) rfl, wl_in 950 (by decide +kernel) rfl, wl_in 1 (by decide +kernel) rfl, k_X7_totalCharged, ⟨⟨by decide +kernel, by decide +kernel⟩, by decide +kernel, by decide⟩⟩
theorem l_L_303 : LkV RL 303 MX8_totalCharged 0 := ⟨wl_in 1914 (by decide +kernel) rfl, wl_in 1915 (by decide +kernel) rfl, wl_in 1916 (by decide +kernel) rfl, wl_in 28 (by decide +kernel) rfl, k_X8_totalCharged, ⟨⟨by decide +kernel, by decide +kernel⟩, by decide +kernel, by decide⟩⟩
theorem l_L_304 : LkV RL 304 MX7_settled 0 := ⟨wl_in 952 (by decide +kernel) rfl, wl_in 953 (by decide +kernel) rfl, wl_in 954 (by decide +kernel) rfl, wl_in 1 (by decide +kernel) rfl, k_X7_settled, ⟨⟨by decide +kernel, by decide +kernel⟩, by decide +kernel, by decide⟩⟩
theorem l_L_307 : LkV RL 307 MX8_settled 0 := ⟨wl_in 1918 (by decide +kernel) rfl, wl_in 1919 (by decide +kernel) rfl, wl_in 1920 (by decide +kernel) rfl, wl_in 28 (by decide +kernel) rfl, k_X8_settled, ⟨⟨by decide +kernel, by decide +kernel⟩, by decide +kernel, by decide⟩⟩
theorem l_L_308 : LkV RL 308 MX7_ledgerDifference 0 := ⟨wl_in 956 (by decide +kernel) rfl, wl_in 957 (by decide +kernel) rfl, wl_in 958 (by decide +kernel) rfl, wl_in 1 (by decide +kernel) rfl, k_X7_ledgerDifference, ⟨⟨by decide +kernel, by decide +kernel⟩, by decide +kernel, by decide⟩⟩
theorem l_L_311 : LkV RL 311 MX8_ledgerDifference 0 := ⟨wl_in 1922 (by decide +kernel) rfl, wl_in 1923 (by decide +kernel) rfl, wl_in 1924 (by decide +kernel) rfl, wl_in 28 (by decide +kernel) rfl, k_X8_ledgerDifference, ⟨⟨by decide +kernel, by decide +kernel⟩, by decide +kernel, by decide⟩⟩
theorem l_L_314 : LkV RL 314 MX8_advance 1 := ⟨wl_in 1926 (by decide +kernel) rfl, wl_in 1927 (by decide +kernel) rfl, wl_in 1928 (by decide +kernel) rfl, wl_in 28 (by decide +kernel) rfl, k_X8_advance, ⟨⟨by decide +kernel, by decide +kernel⟩, by decide +kernel, by decide⟩⟩
theorem l_L_318 : LkV RL 318 MX8_moveIn 3 := ⟨wl_in 1934 (by decide +kernel) rfl, wl_in 1935 (by decide +kernel) rfl, wl_in 1936 (by decide +kernel) rfl, wl_in 28 (by decide +kernel) rfl, k_X8_moveIn, ⟨⟨by decide +kernel, by decide +kernel⟩, by decide +kernel, by decide⟩⟩
theorem l_L_321 : LkV RL 321 MX8_moveOut 1 := ⟨wl_in 1943 (by decide +kernel) rfl, wl_in 1944 (by decide +kernel) rfl, wl_in 1945 (by decide +kernel) rfl, wl_in 28 (by decide +kernel) rfl, k_X8_moveOut, ⟨⟨by decide +kernel, by decide +kernel⟩, by decide +kernel, by decide⟩⟩
theorem l_L_324 : LkV RL 324 MX8_moveTo 2 := ⟨wl_in 1947 (by decide +kernel) rfl, wl_in 1948 (by decide +kernel) rfl, wl_in 1949 (by decide +kernel) rfl, wl_in 28 (by decide +kernel) rfl, k_X8_moveTo, ⟨⟨by decide +kernel, by decide +kernel⟩, by decide +kernel, by decide⟩⟩
theorem l_L_327 : LkV RL 327 MX8_pay 2 := ⟨wl_in 1955 (by decide +kernel) rfl, wl_in 1956 (by decide +kernel) rfl, wl_in 1957 (by decide +kernel) rfl, wl_in 28 (by decide +kernel) rfl, k_X8_pay, ⟨⟨by decide +kernel, by decide +kernel⟩, by decide +kernel, by decide⟩⟩
theorem l_L_330 : LkV RL 330 MX8_setLandladyVowel 2 := ⟨wl_in 1959 (by decide +kernel) rfl, wl_in 1960 (by decide +kernel) rfl, wl_in 1961 (by decide +kernel) rfl, wl_in 28 (by decide +kernel) rfl, k_X8_setLandladyVowel, ⟨⟨by decide +kernel, by decide +kernel⟩, by decide +kernel, by decide⟩⟩
theorem l_L_333 : LkV RL 333 MX8_setTolerance 1 := ⟨wl_in 1963 (by decide +kernel) rfl, wl_in 1964 (by decide +kernel) rfl, wl_in 1965 (by decide +kernel) rfl, wl_in 28 (by decide +kernel) rfl, k_X8_setTolerance, ⟨⟨by decide +kernel, by decide +kernel⟩, by decide +kernel, by decide⟩⟩
theorem l_L_336 : LkV RL 336 MX8_setBaseRent 1 := ⟨wl_in 1967 (by decide +kernel) rfl, wl_in 1968 (by decide +kernel) rfl, wl_in 1969 (by decide +kernel) rfl, wl_in 28 (by decide +kernel) rfl, k_X8_setBaseRent, ⟨⟨by decide +kernel, by decide +kernel⟩, by decide +kernel, by decide⟩⟩
theorem l_L_339 : LkV RL 339 MX8_restore 1 := ⟨wl_in 1971 (by decide +kernel) rfl, wl_in 1972 (by decide +kernel) rfl, wl_in 1973 (by decide +kernel) rfl, wl_in 28 (by decide +kernel) rfl, k_X8_restore, ⟨⟨by decide +kernel, by decide +kernel⟩, by decide +kernel, by decide⟩⟩
theorem l_L_343 : LkV RL 343 MX8_undo 0 := ⟨wl_in 1975 (by decide +kernel) rfl, wl_in 1976 (by decide +kernel) rfl, wl_in 1977 (by decide +kernel) rfl, wl_in 28 (by decide +kernel) rfl, k_X8_undo, ⟨⟨by decide +kernel, by decide +kernel⟩, by decide +kernel, by decide⟩⟩
theorem l_L_346 : LkV RL 346 MX8_save 1 := ⟨wl_in 1979 (by decide +kernel) rfl, wl_in 1980 (by decide +kernel) rfl, wl_in 1981 (by decide +kernel) rfl, wl_in 28 (by decide +kernel) rfl, k_X8_save, ⟨⟨by decide +kernel, by decide +kernel⟩, by decide +kernel, by decide⟩⟩
theorem l_L_349 : LkV RL 349 MX8_writeLodger 1 := ⟨wl_in 1983 (by decide +kernel) rfl, wl_in 1984 (by decide +kernel) rfl, wl_in 1985 (by decide +kernel) rfl, wl_in 28 (by decide +kernel) rfl, k_X8_writeLodger, ⟨⟨by decide +kernel, by decide +kernel⟩, by decide +kernel, by decide⟩⟩
theorem l_L_352 : LkV RL 352 MX8_writeFloor 1 := ⟨wl_in 1999 (by decide +kernel) rfl, wl_in 2000 (by decide +kernel) rfl, wl_in 2001 (by decide +kernel) rfl, wl_in 28 (by decide +kernel) rfl, k_X8_writeFloor, ⟨⟨by decide +kernel, by decide +kernel⟩, by decide +kernel, by decide⟩⟩
theorem l_L_355 : LkV RL 355 MX8_outputCharacter 1 := ⟨wl_in 2003 (by decide +kernel) rfl, wl_in 2004 (by decide +kernel) rfl, wl_in 2005 (by decide +kernel) rfl, wl_in 28 (by decide +kernel) rfl, k_X8_outputCharacter, ⟨⟨by decide +kernel, by decide +kernel⟩, by decide +kernel, by decide⟩⟩
theorem l_X8_52 : LkV RX8 52 MX8_comes 3 := ⟨wl_in 1437 (by decide +kernel) rfl, wl_in 1439 (by decide +kernel) rfl, wl_inp 28 (by decide +kernel) rfl, wl_in 28 (by decide +kernel) rfl, k_X8_comes, ⟨⟨by decide +kernel, by decide +kernel⟩, by decide +kernel, by decide⟩⟩
theorem l_X8_56 : LkS RX8 56 MX8_l 1 := ⟨wl_in 1441 (by decide +kernel) rfl, wl_in 1442 (by decide +kernel) rfl, wl_in 28 (by decide +kernel) rfl, k_X8_l, ⟨⟨by decide +kernel, by decide +kernel⟩, by decide +kernel, by decide⟩⟩
theorem l_X8_60 : LkV RX8 60 MX8_passesDay 0 := ⟨wl_in 1444 (by decide +kernel) rfl, wl_in 1446 (by decide +kernel) rfl, wl_inp 29 (by decide +kernel) rfl, wl_in 28 (by decide +kernel) rfl, k_X8_passesDay, ⟨⟨by decide +kernel, by decide +kernel⟩, by decide +kernel, by decide⟩⟩
theorem l_X8_66 : LkS RX8 66 MX8_in 3 := ⟨wl_in 1619 (by decide +kernel) rfl, wl_in 1620 (by decide +kernel) rfl, wl_in 28 (by decide +kernel) rfl, k_X8_in, ⟨⟨by decide +kernel, by decide +kernel⟩, by decide +kernel, by decide⟩⟩
theorem l_X8_73 : LkV RX8 73 MX8_at 2 := ⟨wl_in 1464 (by decide +kernel) rfl, wl_in 1466 (by decide +kernel) rfl, wl_inp 34 (by decide +kernel) rfl, wl_in 28 (by decide +kernel) rfl, k_X8_at, ⟨⟨by decide +kernel, by decide +kernel⟩, by decide +kernel, by decide⟩⟩
theorem l_X8_77 : LkS RX8 77 MX8_without 1 := ⟨wl_in 1468 (by decide +kernel) rfl, wl_in 1469 (by decide +kernel) rfl, wl_in 28 (by decide +kernel) rfl, k_X8_without, ⟨⟨by decide +kernel, by decide +kernel⟩, by decide +kernel, by decide⟩⟩
theorem l_X8_80 : LkV RX8 80 MX8_livingOn 2 := ⟨wl_in 1479 (by decide +kernel) rfl, wl_in 1481 (by decide +kernel) rfl, wl_inp 37 (by decide +kernel) rfl, wl_in 28 (by decide +kernel) rfl, k_X8_livingOn, ⟨⟨by decide +kernel, by decide +kernel⟩, by decide +kernel, by decide⟩⟩
theorem l_X8_83 : LkV RX8 83 MX8_averageAt 2 := ⟨wl_in 1483 (by decide +kernel) rfl, wl_in 1485 (by decide +kernel) rfl, wl_inp 38 (by decide +kernel) rfl, wl_in 28 (by decide +kernel) rfl, k_X8_averageAt, ⟨⟨by decide +kernel, by decide +kernel⟩, by decide +kernel, by decide⟩⟩
theorem l_X8_86 : LkV RX8 86 MX8_toLandlady 1 := ⟨wl_in 1503 (by decide +kernel) rfl, wl_in 1505 (by decide +kernel) rfl, wl_inp 43 (by decide +kernel) rfl, wl_in 28 (by decide +kernel) rfl, k_X8_toLandlady, ⟨⟨by decide +kernel, by decide +kernel⟩, by decide +kernel, by decide⟩⟩
theorem l_X8_89 : LkV RX8 89 MX8_rhymesHer 1 := ⟨wl_in 1507 (by decide +kernel) rfl, wl_in 1509 (by decide +kernel) rfl, wl_inp 44 (by decide +kernel) rfl, wl_in 28 (by decide +kernel) rfl, k_X8_rhymesHer, ⟨⟨by decide +kernel, by decide +kernel⟩, by decide +kernel, by decide⟩⟩
theorem l_X8_93 : LkV RX8 93 MX8_rentAt 1 := ⟨wl_in 1452 (by decide +kernel) rfl, wl_in 1454 (by decide +kernel) rfl, wl_inp 31 (by decide +kernel) rfl, wl_in 28 (by decide +kernel) rfl, k_X8_rentAt, ⟨⟨by decide +kernel, by decide +kernel⟩, by decide +kernel, by decide⟩⟩
theorem l_X8_96 : LkV RX8 96 MX8_lessonFor 1 := ⟨wl_in 1460 (by decide +kernel) rfl, wl_in 1462 (by decide +kernel) rfl, wl_inp 33 (by decide +kernel) rfl, wl_in 28 (by decide +kernel) rfl, k_X8_lessonFor, ⟨⟨by decide +kernel, by decide +kernel⟩, by decide +kernel, by decide⟩⟩
theorem l_X8_99 : LkV RX8 99 MX8_moves 3 := ⟨wl_in 1471 (by decide +kernel) rfl, wl_in 1473 (by decide +kernel) rfl, wl_inp 35 (by decide +kernel) rfl, wl_in 28 (by decide +kernel) rfl, k_X8_moves, ⟨⟨by decide +kernel, by decide +kernel⟩, by decide +kernel, by decide⟩⟩
theorem l_X8_102 : LkV RX8 102 MX8_slipFor 1 := ⟨wl_in 1491 (by decide +kernel) rfl, wl_in 1493 (by decide +kernel) rfl, wl_inp 40 (by decide +kernel) rfl, wl_in 28 (by decide +kernel) rfl, k_X8_slipFor, ⟨⟨by decide +kernel, by decide +kernel⟩, by decide +kernel, by decide⟩⟩
theorem l_X8_105 : LkV RX8 105 MX8_hasToGo 1 := ⟨wl_in 1499 (by decide +kernel) rfl, wl_in 1501 (by decide +kernel) rfl, wl_inp 42 (by decide +kernel) rfl, wl_in 28 (by decide +kernel) rfl, k_X8_hasToGo, ⟨⟨by decide +kernel, by decide +kernel⟩, by decide +kernel, by decide⟩⟩
theorem l_X8_108 : LkV RX8 108 MX8_goes 1 := ⟨wl_in 1511 (by decide +kernel) rfl, wl_in 1513 (by decide +kernel) rfl, wl_inp 45 (by decide +kernel) rfl, wl_in 28 (by decide +kernel) rfl, k_X8_goes, ⟨⟨by decide +kernel, by decide +kernel⟩, by decide +kernel, by decide⟩⟩
theorem l_X8_112 : LkV RX8 112 MX8_charges 1 := ⟨wl_in 1448 (by decide +kernel) rfl, wl_in 1450 (by decide +kernel) rfl, wl_inp 30 (by decide +kernel) rfl, wl_in 28 (by decide +kernel) rfl, k_X8_charges, ⟨⟨by decide +kernel, by decide +kernel⟩, by decide +kernel, by decide⟩⟩
theorem l_X8_115 : LkV RX8 115 MX8_teaches 1 := ⟨wl_in 1456 (by decide +kernel) rfl, wl_in 1458 (by decide +kernel) rfl, wl_inp 32 (by decide +kernel) rfl, wl_in 28 (by decide +kernel) rfl, k_X8_teaches, ⟨⟨by decide +kernel, by decide +kernel⟩, by decide +kernel, by decide⟩⟩
theorem l_X8_118 : LkV RX8 118 MX8_averagesNow 0 := ⟨wl_in 1475 (by decide +kernel) rfl, wl_in 1477 (by decide +kernel) rfl, wl_inp 36 (by decide +kernel) rfl, wl_in 28 (by decide +kernel) rfl, k_X8_averagesNow, ⟨⟨by decide +kernel, by decide +kernel⟩, by decide +kernel, by decide⟩⟩
theorem l_X8_121 : LkV RX8 121 MX8_dines 1 := ⟨wl_in 1487 (by decide +kernel) rfl, wl_in 1489 (by decide +kernel) rfl, wl_inp 39 (by decide +kernel) rfl, wl_in 28 (by decide +kernel) rfl, k_X8_dines, ⟨⟨by decide +kernel, by decide +kernel⟩, by decide +kernel, by decide⟩⟩
theorem l_X8_124 : LkV RX8 124 MX8_inspects 0 := ⟨wl_in 1495 (by decide +kernel) rfl, wl_in 1497 (by decide +kernel) rfl, wl_inp 41 (by decide +kernel) rfl, wl_in 28 (by decide +kernel) rfl, k_X8_inspects, ⟨⟨by decide +kernel, by decide +kernel⟩, by decide +kernel, by decide⟩⟩
theorem l_X8_142 : LkS RX8 142 MX8_isLetter 1 := ⟨wl_in 1634 (by decide +kernel) rfl, wl_in 1635 (by decide +kernel) rfl, wl_in 28 (by decide +kernel) rfl, k_X8_isLetter, ⟨⟨by decide +kernel, by decide +kernel⟩, by decide +kernel, by decide⟩⟩
theorem l_X8_145 : LkS RX8 145 MX8_isDigit 1 := ⟨wl_in 1637 (by decide +kernel) rfl, wl_in 1638 (by decide +kernel) rfl, wl_in 28 (by decide +kernel) rfl, k_X8_isDigit, ⟨⟨by decide +kernel, by decide +kernel⟩, by decide +kernel, by decide⟩⟩
theorem l_X8_157 : LkV RX8 157 MX8_next 0 := ⟨wl_in 1630 (by decide +kernel) rfl, wl_in 1632 (by decide +kernel) rfl, wl_inp 51 (by decide +kernel) rfl, wl_in 28 (by decide +kernel) rfl, k_X8_next, ⟨⟨by decide +kernel, by decide +kernel⟩, by decide +kernel, by decide⟩⟩
theorem l_X8_160 : LkV RX8 160 MX8_errs 1 := ⟨wl_in 1648 (by decide +kernel) rfl, wl_in 1650 (by decide +kernel) rfl, wl_inp 54 (by decide +kernel) rfl, wl_in 28 (by decide +kernel) rfl, k_X8_errs, ⟨⟨by decide +kernel, by decide +kernel⟩, by decide +kernel, by decide⟩⟩
theorem l_X8_163 : LkV RX8 163 MX8_here 2 := ⟨wl_in 1660 (by decide +kernel) rfl, wl_in 1662 (by decide +kernel) rfl, wl_inp 57 (by decide +kernel) rfl, wl_in 28 (by decide +kernel) rfl, k_X8_here, ⟨⟨by decide +kernel, by decide +kernel⟩, by decide +kernel, by decide⟩⟩
theorem l_X8_166 : LkV RX8 166 MX8_goesOn 0 := ⟨wl_in 1652 (by decide +kernel) rfl, wl_in 1654 (by decide +kernel) rfl, wl_inp 55 (by decide +kernel) rfl, wl_in 28 (by decide +kernel) rfl, k_X8_goesOn, ⟨⟨by decide +kernel, by decide +kernel⟩, by decide +kernel, by decide⟩⟩
theorem l_X8_169 : LkV RX8 169 MX8_isKey 1 := ⟨wl_in 1644 (by decide +kernel) rfl, wl_in 1646 (by decide +kernel) rfl, wl_inp 53 (by decide +kernel) rfl, wl_in 28 (by decide +kernel) rfl, k_X8_isKey, ⟨⟨by decide +kernel, by decide +kernel⟩, by decide +kernel, by decide⟩⟩
theorem l_X8_172 : LkV RX8 172 MX8_takesNumber 2 := ⟨wl_in 1656 (by decide +kernel) rfl, wl_in 1658 (by decide +kernel) rfl, wl_inp 56 (by decide +kernel) rfl, wl_in 28 (by decide +kernel) rfl, k_X8_takesNumber, ⟨⟨by decide +kernel, by decide +kernel⟩, by decide +kernel, by decide⟩⟩
theorem l_X8_175 : LkV RX8 175 MX8_isName 0 := ⟨wl_in 1676 (by decide +kernel) rfl, wl_in 1678 (by decide +kernel) rfl, wl_inp 61 (by decide +kernel) rfl, wl_in 28 (by decide +kernel) rfl, k_X8_isName, ⟨⟨by decide +kernel, by decide +kernel⟩, by decide +kernel, by decide⟩⟩
theorem l_X8_178 : LkV RX8 178 MX8_lodgerNamed 2 := ⟨wl_in 1680 (by decide +kernel) rfl, wl_in 1682 (by decide +kernel) rfl, wl_inp 62 (by decide +kernel) rfl, wl_in 28 (by decide +kernel) rfl, k_X8_lodgerNamed, ⟨⟨by decide +kernel, by decide +kernel⟩, by decide +kernel, by decide⟩⟩
theorem l_X8_181 : LkV RX8 181 MX8_takesAccent 0 := ⟨wl_in 1684 (by decide +kernel) rfl, wl_in 1686 (by decide +kernel) rfl, wl_inp 63 (by decide +kernel) rfl, wl_in 28 (by decide +kernel) rfl, k_X8_takesAccent, ⟨⟨by decide +kernel, by decide +kernel⟩, by decide +kernel, by decide⟩⟩
theorem l_X8_185 : LkV RX8 185 MX8_takesLodger 0 := ⟨wl_in 1692 (by decide +kernel) rfl, wl_in 1694 (by decide +kernel) rfl, wl_inp 65 (by decide +kernel) rfl, wl_in 28 (by decide +kernel) rfl, k_X8_takesLodger, ⟨⟨by decide +kernel, by decide +kernel⟩, by decide +kernel, by decide⟩⟩
theorem l_X8_188 : LkV RX8 188 MX8_pays 2 := ⟨wl_in 1696 (by decide +kernel) rfl, wl_in 1698 (by decide +kernel) rfl, wl_inp 66 (by decide +kernel) rfl, wl_in 28 (by decide +kernel) rfl, k_X8_pays, ⟨⟨by decide +kernel, by decide +kernel⟩, by decide +kernel, by decide⟩⟩
theorem l_X8_192 : LkV RX8 192 MX8_readsLodger 0 := ⟨wl_in 1672 (by decide +kernel) rfl, wl_in 1674 (by decide +kernel) rfl, wl_inp 60 (by decide +kernel) rfl, wl_in 28 (by decide +kernel) rfl, k_X8_readsLodger, ⟨⟨by decide +kernel, by decide +kernel⟩, by decide +kernel, by decide⟩⟩
theorem l_X8_195 : LkV RX8 195 MX8_readsPay 0 := ⟨wl_in 1688 (by decide +kernel) rfl, wl_in 1690 (by decide +kernel) rfl, wl_inp 64 (by decide +kernel) rfl, wl_in 28 (by decide +kernel) rfl, k_X8_readsPay, ⟨⟨by decide +kernel, by decide +kernel⟩, by decide +kernel, by decide⟩⟩
theorem l_X8_198 : LkV RX8 198 MX8_readsMove 0 := ⟨wl_in 1700 (by decide +kernel) rfl, wl_in 1702 (by decide +kernel) rfl, wl_inp 67 (by decide +kernel) rfl, wl_in 28 (by decide +kernel) rfl, k_X8_readsMove, ⟨⟨by decide +kernel, by decide +kernel⟩, by decide +kernel, by decide⟩⟩
theorem l_X8_201 : LkV RX8 201 MX8_passes 1 := ⟨wl_in 1704 (by decide +kernel) rfl, wl_in 1706 (by decide +kernel) rfl, wl_inp 68 (by decide +kernel) rfl, wl_in 28 (by decide +kernel) rfl, k_X8_passes, ⟨⟨by decide +kernel, by decide +kernel⟩, by decide +kernel, by decide⟩⟩
theorem l_X8_204 : LkV RX8 204 MX8_takesWord 1 := ⟨wl_in 1640 (by decide +kernel) rfl, wl_in 1642 (by decide +kernel) rfl, wl_inp 52 (by decide +kernel) rfl, wl_in 28 (by decide +kernel) rfl, k_X8_takesWord, ⟨⟨by decide +kernel, by decide +kernel⟩, by decide +kernel, by decide⟩⟩
theorem l_X8_207 : LkV RX8 207 MX8_takesSemicolon 0 := ⟨wl_in 1664 (by decide +kernel) rfl, wl_in 1666 (by decide +kernel) rfl, wl_inp 58 (by decide +kernel) rfl, wl_in 28 (by decide +kernel) rfl, k_X8_takesSemicolon, ⟨⟨by decide +kernel, by decide +kernel⟩, by decide +kernel, by decide⟩⟩
theorem l_X8_210 : LkV RX8 210 MX8_readsLine 0 := ⟨wl_in 1668 (by decide +kernel) rfl, wl_in 1670 (by decide +kernel) rfl, wl_inp 59 (by decide +kernel) rfl, wl_in 28 (by decide +kernel) rfl, k_X8_readsLine, ⟨⟨by decide +kernel, by decide +kernel⟩, by decide +kernel, by decide⟩⟩
theorem l_X8_216 : LkV RX8 216 MX8_refuse 1 := ⟨wl_in 1603 (by decide +kernel) rfl, wl_in 1605 (by decide +kernel) rfl, wl_inp 46 (by decide +kernel) rfl, wl_in 28 (by decide +kernel) rfl, k_X8_refuse, ⟨⟨by decide +kernel, by decide +kernel⟩, by decide +kernel, by decide⟩⟩
theorem l_X8_219 : LkV RX8 219 MX8_feeds 1 := ⟨wl_in 1607 (by decide +kernel) rfl, wl_in 1609 (by decide +kernel) rfl, wl_inp 47 (by decide +kernel) rfl, wl_in 28 (by decide +kernel) rfl, k_X8_feeds, ⟨⟨by decide +kernel, by decide +kernel⟩, by decide +kernel, by decide⟩⟩
theorem l_X8_222 : LkV RX8 222 MX8_told 1 := ⟨wl_in 1611 (by decide +kernel) rfl, wl_in 1613 (by decide +kernel) rfl, wl_inp 48 (by decide +kernel) rfl, wl_in 28 (by decide +kernel) rfl, k_X8_told, ⟨⟨by decide +kernel, by decide +kernel⟩, by decide +kernel, by decide⟩⟩
theorem l_X8_225 : LkV RX8 225 MX8_putsAside 0 := ⟨wl_in 1622 (by decide +kernel) rfl, wl_in 1624 (by decide +kernel) rfl, wl_inp 49 (by decide +kernel) rfl, wl_in 28 (by decide +kernel) rfl, k_X8_putsAside, ⟨⟨by decide +kernel, by decide +kernel⟩, by decide +kernel, by decide⟩⟩
theorem l_X8_228 : LkV RX8 228 MX8_readsText 1 := ⟨wl_in 1626 (by decide +kernel) rfl, wl_in 1628 (by decide +kernel) rfl, wl_inp 50 (by decide +kernel) rfl, wl_in 28 (by decide +kernel) rfl, k_X8_readsText, ⟨⟨by decide +kernel, by decide +kernel⟩, by decide +kernel, by decide⟩⟩
theorem l_X8_234 : LkV RX8 234 MX8_putsBack 0 := ⟨wl_in 1708 (by decide +kernel) rfl, wl_in 1710 (by decide +kernel) rfl, wl_inp 69 (by decide +kernel) rfl, wl_in 28 (by decide +kernel) rfl, k_X8_putsBack, ⟨⟨by decide +kernel, by decide +kernel⟩, by decide +kernel, by decide⟩⟩
theorem l_X8_240 : LkS RX8 240 MX8_isFloor 1 := ⟨wl_in 1740 (by decide +kernel) rfl, wl_in 1741 (by decide +kernel) rfl, wl_in 28 (by decide +kernel) rfl, k_X8_isFloor, ⟨⟨by decide +kernel, by decide +kernel⟩, by decide +kernel, by decide⟩⟩
theorem l_X8_243 : LkS RX8 243 MX8_isVowel 1 := ⟨wl_in 1747 (by decide +kernel) rfl, wl_in 1748 (by decide +kernel) rfl, wl_in 28 (by decide +kernel) rfl, k_X8_isVowel, ⟨⟨by decide +kernel, by decide +kernel⟩, by decide +kernel, by decide⟩⟩
theorem l_X8_246 : LkV RX8 246 MX8_daysLeft 0 := ⟨wl_in 1754 (by decide +kernel) rfl, wl_in 1756 (by decide +kernel) rfl, wl_inp 70 (by decide +kernel) rfl, wl_in 28 (by decide +kernel) rfl, k_X8_daysLeft, ⟨⟨by decide +kernel, by decide +kernel⟩, by decide +kernel, by decide⟩⟩
theorem l_X8_249 : LkV RX8 249 MX8_isLodger 1 := ⟨wl_in 1774 (by decide +kernel) rfl, wl_in 1776 (by decide +kernel) rfl, wl_inp 72 (by decide +kernel) rfl, wl_in 28 (by decide +kernel) rfl, k_X8_isLodger, ⟨⟨by decide +kernel, by decide +kernel⟩, by decide +kernel, by decide⟩⟩
theorem l_X8_252 : LkV RX8 252 MX8_ofLodger 2 := ⟨wl_in 1770 (by decide +kernel) rfl, wl_in 1772 (by decide +kernel) rfl, wl_inp 71 (by decide +kernel) rfl, wl_in 28 (by decide +kernel) rfl, k_X8_ofLodger, ⟨⟨by decide +kernel, by decide +kernel⟩, by decide +kernel, by decide⟩⟩
theorem l_X8_255 : LkV RX8 255 MX8_lettersOf 1 := ⟨wl_in 1802 (by decide +kernel) rfl, wl_in 1804 (by decide +kernel) rfl, wl_inp 73 (by decide +kernel) rfl, wl_in 28 (by decide +kernel) rfl, k_X8_lettersOf, ⟨⟨by decide +kernel, by decide +kernel⟩, by decide +kernel, by decide⟩⟩
theorem l_X8_258 : LkV RX8 258 MX8_between 2 := ⟨wl_in 1834 (by decide +kernel) rfl, wl_in 1836 (by decide +kernel) rfl, wl_inp 74 (by decide +kernel) rfl, wl_in 28 (by decide +kernel) rfl, k_X8_between, ⟨⟨by decide +kernel, by decide +kernel⟩, by decide +kernel, by decide⟩⟩
theorem l_X8_261 : LkV RX8 261 MX8_rhyme 2 := ⟨wl_in 1842 (by decide +kernel) rfl, wl_in 1844 (by decide +kernel) rfl, wl_inp 75 (by decide +kernel) rfl, wl_in 28 (by decide +kernel) rfl, k_X8_rhyme, ⟨⟨by decide +kernel, by decide +kernel⟩, by decide +kernel, by decide⟩⟩
theorem l_X8_265 : LkV RX8 265 MX8_says 1 := ⟨wl_in 1846 (by decide +kernel) rfl, wl_in 1848 (by decide +kernel) rfl, wl_inp 76 (by decide +kernel) rfl, wl_in 28 (by decide +kernel) rfl, k_X8_says, ⟨⟨by decide +kernel, by decide +kernel⟩, by decide +kernel, by decide⟩⟩
theorem l_X8_269 : LkV RX8 269 MX8_refuses 0 := ⟨wl_in 1850 (by decide +kernel) rfl, wl_in 1852 (by decide +kernel) rfl, wl_inp 77 (by decide +kernel) rfl, wl_in 28 (by decide +kernel) rfl, k_X8_refuses, ⟨⟨by decide +kernel, by decide +kernel⟩, by decide +kernel, by decide⟩⟩
theorem l_X8_273 : LkV RX8 273 MX8_tracks 1 := ⟨wl_in 1890 (by decide +kernel) rfl, wl_in 1892 (by decide +kernel) rfl, wl_inp 78 (by decide +kernel) rfl, wl_in 28 (by decide +kernel) rfl, k_X8_tracks, ⟨⟨by decide +kernel, by decide +kernel⟩, by decide +kernel, by decide⟩⟩
theorem l_X8_276 : LkV RX8 276 MX8_staysWith 2 := ⟨wl_in 1906 (by decide +kernel) rfl, wl_in 1908 (by decide +kernel) rfl, wl_inp 79 (by decide +kernel) rfl, wl_in 28 (by decide +kernel) rfl, k_X8_staysWith, ⟨⟨by decide +kernel, by decide +kernel⟩, by decide +kernel, by decide⟩⟩
theorem l_X8_279 : LkV RX8 279 MX8_remembers 0 := ⟨wl_in 1930 (by decide +kernel) rfl, wl_in 1932 (by decide +kernel) rfl, wl_inp 80 (by decide +kernel) rfl, wl_in 28 (by decide +kernel) rfl, k_X8_remembers, ⟨⟨by decide +kernel, by decide +kernel⟩, by decide +kernel, by decide⟩⟩
theorem l_X8_283 : LkV RX8 283 MX8_isTakenLetter 1 := ⟨wl_in 1939 (by decide +kernel) rfl, wl_in 1941 (by decide +kernel) rfl, wl_inp 81 (by decide +kernel) rfl, wl_in 28 (by decide +kernel) rfl, k_X8_isTakenLetter, ⟨⟨by decide +kernel, by decide +kernel⟩, by decide +kernel, by decide⟩⟩
theorem l_X8_286 : LkV RX8 286 MX8_sets 2 := ⟨wl_in 1951 (by decide +kernel) rfl, wl_in 1953 (by decide +kernel) rfl, wl_inp 82 (by decide +kernel) rfl, wl_in 28 (by decide +kernel) rfl, k_X8_sets, ⟨⟨by decide +kernel, by decide +kernel⟩, by decide +kernel, by decide⟩⟩
theorem l_X8_292 : LkV RX8 292 MX8_writes 1 := ⟨wl_in 1991 (by decide +kernel) rfl, wl_in 1993 (by decide +kernel) rfl, wl_inp 84 (by decide +kernel) rfl, wl_in 28 (by decide +kernel) rfl, k_X8_writes, ⟨⟨by decide +kernel, by decide +kernel⟩, by decide +kernel, by decide⟩⟩
theorem l_X8_295 : LkV RX8 295 MX8_writesName 1 := ⟨wl_in 1987 (by decide +kernel) rfl, wl_in 1989 (by decide +kernel) rfl, wl_inp 83 (by decide +kernel) rfl, wl_in 28 (by decide +kernel) rfl, k_X8_writesName, ⟨⟨by decide +kernel, by decide +kernel⟩, by decide +kernel, by decide⟩⟩
theorem l_X8_298 : LkV RX8 298 MX8_writesNumber 1 := ⟨wl_in 1995 (by decide +kernel) rfl, wl_in 1997 (by decide +kernel) rfl, wl_inp 85 (by decide +kernel) rfl, wl_in 28 (by decide +kernel) rfl, k_X8_writesNumber, ⟨⟨by decide +kernel, by decide +kernel⟩, by decide +kernel, by decide⟩⟩
theorem l_J5_26 : LkS RJ5 26 MJ2_newBytesFor_77867 1 := ⟨wl_in 49 (by decide +kernel) rfl, wl_in 50 (by decide +kernel) rfl, wl_in 5 (by decide +kernel) rfl, k_J2_newBytesFor_77867, ⟨⟨by decide +kernel, by decide +kernel⟩, by decide +kernel, by decide⟩⟩
theorem l_J5_32 : LkV RJ5 32 MJ0_length_8abf5 0 := ⟨wl_in 492 (by decide +kernel) rfl, wl_in 266 (by decide +kernel) rfl, wl_in 267 (by decide +kernel) rfl, wl_in 4 (by decide +kernel) rfl, k_J0_length_8abf5, ⟨⟨by decide +kernel, by decide +kernel⟩, by decide +kernel, by decide⟩⟩
theorem l_J5_40 : LkV RJ5 40 MJ0_coder_7d493 0 := ⟨wl_in 501 (by decide +kernel) rfl, wl_in 270 (by decide +kernel) rfl, wl_in 271 (by decide +kernel) rfl, wl_in 4 (by decide +kernel) rfl, k_J0_coder_7d493, ⟨⟨by decide +kernel, by decide +kernel⟩, by decide +kernel, by decide⟩⟩
theorem l_J5_108 : LkS RJ5 108 MJ7_copyOf_9075b 2 := ⟨wl_in 458 (by decide +kernel) rfl, wl_in 459 (by decide +kernel) rfl, wl_in 23 (by decide +kernel) rfl, k_J7_copyOf_9075b, ⟨⟨by decide +kernel, by decide +kernel⟩, by decide +kernel, by decide⟩⟩
theorem l_J5_114 : LkS RJ5 114 MJ8_newLength_cabcc 3 := ⟨wl_in 447 (by decide +kernel) rfl, wl_in 448 (by decide +kernel) rfl, wl_in 22 (by decide +kernel) rfl, k_J8_newLength_cabcc, ⟨⟨by decide +kernel, by decide +kernel⟩, by decide +kernel, by decide⟩⟩
theorem l_J5_125 : LkS RJ5 125 MJ1_inflate_0e8fd 5 := ⟨wl_in 506 (by decide +kernel) rfl, wl_in 507 (by decide +kernel) rfl, wl_in 14 (by decide +kernel) rfl, k_J1_inflate_0e8fd, ⟨⟨by decide +kernel, by decide +kernel⟩, by decide +kernel, by decide⟩⟩
theorem l_J5_131 : LkI RJ5 131 MJx7c733_init_d00df 1 := ⟨wl_in 422 (by decide +kernel) rfl, wl_in 423 (by decide +kernel) rfl, rfl, wl_in 21 (by decide +kernel) rfl, k_Jx7c733_init_d00df, ⟨⟨by decide +kernel, by decide +kernel⟩, by decide +kernel, by decide⟩, rfl⟩
theorem l_J5_133 : LkS RJ5 133 MJ1_fillNull_b72d1 3 := ⟨wl_in 695 (by decide +kernel) rfl, wl_in 696 (by decide +kernel) rfl, wl_in 14 (by decide +kernel) rfl, k_J1_fillNull_b72d1, ⟨⟨by decide +kernel, by decide +kernel⟩, by decide +kernel, by decide⟩⟩
theorem l_J5_137 : LkS RJ5 137 MJ2_fillNull_b72d1 3 := ⟨wl_in 730 (by decide +kernel) rfl, wl_in 731 (by decide +kernel) rfl, wl_in 5 (by decide +kernel) rfl, k_J2_fillNull_b72d1, ⟨⟨by decide +kernel, by decide +kernel⟩, by decide +kernel, by decide⟩⟩
theorem l_J5_138 : LkS RJ5 138 MJ9_min_7cf53 2 := ⟨wl_in 1425 (by decide +kernel) rfl, wl_in 321 (by decide +kernel) rfl, wl_in 16 (by decide +kernel) rfl, k_J9_min_7cf53, ⟨⟨by decide +kernel, by decide +kernel⟩, by decide +kernel, by decide⟩⟩
theorem l_J5_144 : LkS RJ5 144 MJ0_checkIndex_df160 2 := ⟨wl_in 1426 (by decide +kernel) rfl, wl_in 286 (by decide +kernel) rfl, wl_in 4 (by decide +kernel) rfl, k_J0_checkIndex_df160, ⟨⟨by decide +kernel, by decide +kernel⟩, by decide +kernel, by decide⟩⟩
theorem l_J5_148 : LkS RJ5 148 MJ2_getChar_3b067 2 := ⟨wl_in 1427 (by decide +kernel) rfl, wl_in 304 (by decide +kernel) rfl, wl_in 5 (by decide +kernel) rfl, k_J2_getChar_3b067, ⟨⟨by decide +kernel, by decide +kernel⟩, by decide +kernel, by decide⟩⟩
theorem l_J5_191 : LkS RJ5 191 MJ1_canEncode_fc78d 1 := ⟨wl_in 741 (by decide +kernel) rfl, wl_in 742 (by decide +kernel) rfl, wl_in 14 (by decide +kernel) rfl, k_J1_canEncode_fc78d, ⟨⟨by decide +kernel, by decide +kernel⟩, by decide +kernel, by decide⟩⟩
theorem l_J5_197 : LkS RJ5 197 MJ2_putCharSB_b72d1 3 := ⟨wl_in 744 (by decide +kernel) rfl, wl_in 745 (by decide +kernel) rfl, wl_in 5 (by decide +kernel) rfl, k_J2_putCharSB_b72d1, ⟨⟨by decide +kernel, by decide +kernel⟩, by decide +kernel, by decide⟩⟩
theorem l_J5_226 : LkS RJ5 226 MJ2_putCharsAt_cd4e5 6 := ⟨wl_in 477 (by decide +kernel) rfl, wl_in 478 (by decide +kernel) rfl, wl_in 5 (by decide +kernel) rfl, k_J2_putCharsAt_cd4e5, ⟨⟨by decide +kernel, by decide +kernel⟩, by decide +kernel, by decide⟩⟩
theorem l_J5_245 : LkS RJ5 245 MJ6_stringSize_0f7a4 1 := ⟨wl_in 534 (by decide +kernel) rfl, wl_in 535 (by decide +kernel) rfl, wl_in 25 (by decide +kernel) rfl, k_J6_stringSize_0f7a4, ⟨⟨by decide +kernel, by decide +kernel⟩, by decide +kernel, by decide⟩⟩
theorem l_J5_248 : LkS RJ5 248 MJ6_getChars_ba4f3 3 := ⟨wl_in 537 (by decide +kernel) rfl, wl_in 538 (by decide +kernel) rfl, wl_in 25 (by decide +kernel) rfl, k_J6_getChars_ba4f3, ⟨⟨by decide +kernel, by decide +kernel⟩, by decide +kernel, by decide⟩⟩
theorem l_J5_251 : LkS RJ5 251 MJ2_getChars_46870 4 := ⟨wl_in 544 (by decide +kernel) rfl, wl_in 545 (by decide +kernel) rfl, wl_in 5 (by decide +kernel) rfl, k_J2_getChars_46870, ⟨⟨by decide +kernel, by decide +kernel⟩, by decide +kernel, by decide⟩⟩
theorem l_J5_399 : LkV RJ5 399 MJ0_getBytes_840e7 3 := ⟨wl_in 521 (by decide +kernel) rfl, wl_in 522 (by decide +kernel) rfl, wl_in 523 (by decide +kernel) rfl, wl_in 4 (by decide +kernel) rfl, k_J0_getBytes_840e7, ⟨⟨by decide +kernel, by decide +kernel⟩, by decide +kernel, by decide⟩⟩
theorem l_Jx00060_12 : LkI RJx00060 12 MJ4_init_da8c8 0 := ⟨wl_in 722 (by decide +kernel) rfl, wl_in 41 (by decide +kernel) rfl, rfl, wl_in 3 (by decide +kernel) rfl, k_J4_init_da8c8, ⟨⟨by decide +kernel, by decide +kernel⟩, by decide +kernel, by decide⟩, rfl⟩
theorem l_Jx00060_15 : LkV RJx00060 15 MJ4_append_15ec4 1 := ⟨wl_in 724 (by decide +kernel) rfl, wl_in 429 (by decide +kernel) rfl, wl_in 430 (by decide +kernel) rfl, wl_in 3 (by decide +kernel) rfl, k_J4_append_15ec4, ⟨⟨by decide +kernel, by decide +kernel⟩, by decide +kernel, by decide⟩⟩
theorem l_Jx00060_19 : LkV RJx00060 19 MJ4_append_bf812 1 := ⟨wl_in 725 (by decide +kernel) rfl, wl_in 528 (by decide +kernel) rfl, wl_in 529 (by decide +kernel) rfl, wl_in 3 (by decide +kernel) rfl, k_J4_append_bf812, ⟨⟨by decide +kernel, by decide +kernel⟩, by decide +kernel, by decide⟩⟩
theorem l_Jx00060_22 : LkV RJx00060 22 MJ4_toString_0e30d 0 := ⟨wl_in 726 (by decide +kernel) rfl, wl_in 553 (by decide +kernel) rfl, wl_in 554 (by decide +kernel) rfl, wl_in 3 (by decide +kernel) rfl, k_J4_toString_0e30d, ⟨⟨by decide +kernel, by decide +kernel⟩, by decide +kernel, by decide⟩⟩
theorem l_J0_47 : LkS RJ0 47 MJ2_coderFromArrayLen_85cad 2 := ⟨wl_in 670 (by decide +kernel) rfl, wl_in 671 (by decide +kernel) rfl, wl_in 5 (by decide +kernel) rfl, k_J2_coderFromArrayLen_85cad, ⟨⟨by decide +kernel, by decide +kernel⟩, by decide +kernel, by decide⟩⟩
theorem l_J0_54 : LkS RJ0 54 MJ7_copyOfRange_39247 3 := ⟨wl_in 579 (by decide +kernel) rfl, wl_in 580 (by decide +kernel) rfl, wl_in 23 (by decide +kernel) rfl, k_J7_copyOfRange_39247, ⟨⟨by decide +kernel, by decide +kernel⟩, by decide +kernel, by decide⟩⟩
theorem l_J0_106 : LkS RJ0 106 MJ1_inflate_0e8fd 5 := ⟨wl_in 526 (by decide +kernel) rfl, wl_in 507 (by decide +kernel) rfl, wl_in 14 (by decide +kernel) rfl, k_J1_inflate_0e8fd, ⟨⟨by decide +kernel, by decide +kernel⟩, by decide +kernel, by decide⟩⟩
theorem l_J0_335 : LkV RJ0 335 MJ0_coder_7d493 0 := ⟨wl_in 269 (by decide +kernel) rfl, wl_in 270 (by decide +kernel) rfl, wl_in 271 (by decide +kernel) rfl, wl_in 4 (by decide +kernel) rfl, k_J0_coder_7d493, ⟨⟨by decide +kernel, by decide +kernel⟩, by decide +kernel, by decide⟩⟩
theorem l_J0_489 : LkI RJ0 489 MJ0_init_db425 2 := ⟨wl_in 561 (by decide +kernel) rfl, wl_in 562 (by decide +kernel) rfl, rfl, wl_in 4 (by decide +kernel) rfl, k_J0_init_db425, ⟨⟨by decide +kernel, by decide +kernel⟩, by decide +kernel, by decide⟩, rfl⟩
theorem l_J0_492 : LkV RJ0 492 MJ0_isLatin1_aae02 0 := ⟨wl_in 278 (by decide +kernel) rfl, wl_in 279 (by decide +kernel) rfl, wl_in 280 (by decide +kernel) rfl, wl_in 4 (by decide +kernel) rfl, k_J0_isLatin1_aae02, ⟨⟨by decide +kernel, by decide +kernel⟩, by decide +kernel, by decide⟩⟩
theorem l_J0_495 : LkS RJ0 495 MJ1_charAt_3b067 2 := ⟨wl_in 282 (by decide +kernel) rfl, wl_in 283 (by decide +kernel) rfl, wl_in 14 (by decide +kernel) rfl, k_J1_charAt_3b067, ⟨⟨by decide +kernel, by decide +kernel⟩, by decide +kernel, by decide⟩⟩
theorem l_J0_498 : LkS RJ0 498 MJ2_charAt_3b067 2 := ⟨wl_in 293 (by decide +kernel) rfl, wl_in 294 (by decide +kernel) rfl, wl_in 5 (by decide +kernel) rfl, k_J2_charAt_3b067, ⟨⟨by decide +kernel, by decide +kernel⟩, by decide +kernel, by decide⟩⟩
theorem l_J0_505 : LkV RJ0 505 MJ0_length_8abf5 0 := ⟨wl_in 1293 (by decide +kernel) rfl, wl_in 266 (by decide +kernel) rfl, wl_in 267 (by decide +kernel) rfl, wl_in 4 (by decide +kernel) rfl, k_J0_length_8abf5, ⟨⟨by decide +kernel, by decide +kernel⟩, by decide +kernel, by decide⟩⟩
theorem l_J0_521 : LkS RJ0 521 MJ0_checkBoundsBeginEnd_23922 3 := ⟨wl_in 1294 (by decide +kernel) rfl, wl_in 484 (by decide +kernel) rfl, wl_in 4 (by decide +kernel) rfl, k_J0_checkBoundsBeginEnd_23922, ⟨⟨by decide +kernel, by decide +kernel⟩, by decide +kernel, by decide⟩⟩
theorem l_J0_685 : LkS RJ0 685 MJ1_newString_b4f7a 3 := ⟨wl_in 1295 (by decide +kernel) rfl, wl_in 1296 (by decide +kernel) rfl, wl_in 14 (by decide +kernel) rfl, k_J1_newString_b4f7a, ⟨⟨by decide +kernel, by decide +kernel⟩, by decide +kernel, by decide⟩⟩
theorem l_J0_689 : LkS RJ0 689 MJ2_newString_b4f7a 3 := ⟨wl_in 1304 (by decide +kernel) rfl, wl_in 1305 (by decide +kernel) rfl, wl_in 5 (by decide +kernel) rfl, k_J2_newString_b4f7a, ⟨⟨by decide +kernel, by decide +kernel⟩, by decide +kernel, by decide⟩⟩
theorem l_J0_1051 : LkS RJ0 1051 MJ2_compress_39247 3 := ⟨wl_in 663 (by decide +kernel) rfl, wl_in 664 (by decide +kernel) rfl, wl_in 5 (by decide +kernel) rfl, k_J2_compress_39247, ⟨⟨by decide +kernel, by decide +kernel⟩, by decide +kernel, by decide⟩⟩
theorem l_J0_1059 : LkS RJ0 1059 MJ3_checkIndex_8e157 3 := ⟨wl_in 290 (by decide +kernel) rfl, wl_in 291 (by decide +kernel) rfl, wl_in 15 (by decide +kernel) rfl, k_J3_checkIndex_8e157, ⟨⟨by decide +kernel, by decide +kernel⟩, by decide +kernel, by decide⟩⟩
theorem l_J0_1062 : LkS RJ0 1062 MJ3_checkFromToIndex_8c36e 4 := ⟨wl_in 486 (by decide +kernel) rfl, wl_in 487 (by decide +kernel) rfl, wl_in 15 (by decide +kernel) rfl, k_J3_checkFromToIndex_8c36e, ⟨⟨by decide +kernel, by decide +kernel⟩, by decide +kernel, by decide⟩⟩
theorem l_J0_1065 : LkS RJ0 1065 MJ3_checkFromIndexSize_8c36e 4 := ⟨wl_in 518 (by decide +kernel) rfl, wl_in 519 (by decide +kernel) rfl, wl_in 15 (by decide +kernel) rfl, k_J3_checkFromIndexSize_8c36e, ⟨⟨by decide +kernel, by decide +kernel⟩, by decide +kernel, by decide⟩⟩
theorem l_J4_1 : LkI RJ4 1 MJ5_init_d00df 1 := ⟨wl_in 43 (by decide +kernel) rfl, wl_in 44 (by decide +kernel) rfl, rfl, wl_in 2 (by decide +kernel) rfl, k_J5_init_d00df, ⟨⟨by decide +kernel, by decide +kernel⟩, by decide +kernel, by decide⟩, rfl⟩
theorem l_J4_137 : LkI RJ4 137 MJ0_init_81219 1 := ⟨wl_in 558 (by decide +kernel) rfl, wl_in 559 (by decide +kernel) rfl, rfl, wl_in 4 (by decide +kernel) rfl, k_J0_init_81219, ⟨⟨by decide +kernel, by decide +kernel⟩, by decide +kernel, by decide⟩, rfl⟩
theorem l_Jx7c733_12 : LkI RJx7c733 12 MJ4_init_da8c8 0 := ⟨wl_in 426 (by decide +kernel) rfl, wl_in 41 (by decide +kernel) rfl, rfl, wl_in 3 (by decide +kernel) rfl, k_J4_init_da8c8, ⟨⟨by decide +kernel, by decide +kernel⟩, by decide +kernel, by decide⟩, rfl⟩
theorem l_Jx7c733_15 : LkV RJx7c733 15 MJ4_append_15ec4 1 := ⟨wl_in 428 (by decide +kernel) rfl, wl_in 429 (by decide +kernel) rfl, wl_in 430 (by decide +kernel) rfl, wl_in 3 (by decide +kernel) rfl, k_J4_append_15ec4, ⟨⟨by decide +kernel, by decide +kernel⟩, by decide +kernel, by decide⟩⟩
theorem l_Jx7c733_19 : LkV RJx7c733 19 MJ4_append_bf812 1 := ⟨wl_in 527 (by decide +kernel) rfl, wl_in 528 (by decide +kernel) rfl, wl_in 529 (by decide +kernel) rfl, wl_in 3 (by decide +kernel) rfl, k_J4_append_bf812, ⟨⟨by decide +kernel, by decide +kernel⟩, by decide +kernel, by decide⟩⟩
theorem l_Jx7c733_22 : LkV RJx7c733 22 MJ4_toString_0e30d 0 := ⟨wl_in 552 (by decide +kernel) rfl, wl_in 553 (by decide +kernel) rfl, wl_in 554 (by decide +kernel) rfl, wl_in 3 (by decide +kernel) rfl, k_J4_toString_0e30d, ⟨⟨by decide +kernel, by decide +kernel⟩, by decide +kernel, by decide⟩⟩
theorem l_J1_9 : LkS RJ1 9 MJ0_checkIndex_df160 2 := ⟨wl_in 285 (by decide +kernel) rfl, wl_in 286 (by decide +kernel) rfl, wl_in 4 (by decide +kernel) rfl, k_J0_checkIndex_df160, ⟨⟨by decide +kernel, by decide +kernel⟩, by decide +kernel, by decide⟩⟩
theorem l_J1_112 : LkI RJ1 112 MJ0_init_031fb 2 := ⟨wl_in 1301 (by decide +kernel) rfl, wl_in 1302 (by decide +kernel) rfl, rfl, wl_in 4 (by decide +kernel) rfl, k_J0_init_031fb, ⟨⟨by decide +kernel, by decide +kernel⟩, by decide +kernel, by decide⟩, rfl⟩
theorem l_J1_232 : LkS RJ1 232 MJ7_copyOfRange_39247 3 := ⟨wl_in 1300 (by decide +kernel) rfl, wl_in 580 (by decide +kernel) rfl, wl_in 23 (by decide +kernel) rfl, k_J7_copyOfRange_39247, ⟨⟨by decide +kernel, by decide +kernel⟩, by decide +kernel, by decide⟩⟩
theorem l_J1_236 : LkS RJ1 236 MJ7_fill_eb02e 4 := ⟨wl_in 698 (by decide +kernel) rfl, wl_in 699 (by decide +kernel) rfl, wl_in 23 (by decide +kernel) rfl, k_J7_fill_eb02e, ⟨⟨by decide +kernel, by decide +kernel⟩, by decide +kernel, by decide⟩⟩
theorem l_J1_240 : LkS RJ1 240 MJ2_inflate_0e8fd 5 := ⟨wl_in 509 (by decide +kernel) rfl, wl_in 510 (by decide +kernel) rfl, wl_in 5 (by decide +kernel) rfl, k_J2_inflate_0e8fd, ⟨⟨by decide +kernel, by decide +kernel⟩, by decide +kernel, by decide⟩⟩
theorem l_J2_11 : LkS RJ2 11 MJ2_newBytesLength_0f7a4 1 := ⟨wl_in 52 (by decide +kernel) rfl, wl_in 53 (by decide +kernel) rfl, wl_in 5 (by decide +kernel) rfl, k_J2_newBytesLength_0f7a4, ⟨⟨by decide +kernel, by decide +kernel⟩, by decide +kernel, by decide⟩⟩
theorem l_J2_48 : LkS RJ2 48 MJ2_length_9d52b 1 := ⟨wl_in 299 (by decide +kernel) rfl, wl_in 300 (by decide +kernel) rfl, wl_in 5 (by decide +kernel) rfl, k_J2_length_9d52b, ⟨⟨by decide +kernel, by decide +kernel⟩, by decide +kernel, by decide⟩⟩
theorem l_J2_67 : LkS RJ2 67 MJ2_checkIndex_2214a 2 := ⟨wl_in 296 (by decide +kernel) rfl, wl_in 297 (by decide +kernel) rfl, wl_in 5 (by decide +kernel) rfl, k_J2_checkIndex_2214a, ⟨⟨by decide +kernel, by decide +kernel⟩, by decide +kernel, by decide⟩⟩
theorem l_J2_71 : LkS RJ2 71 MJ2_getChar_3b067 2 := ⟨wl_in 303 (by decide +kernel) rfl, wl_in 304 (by decide +kernel) rfl, wl_in 5 (by decide +kernel) rfl, k_J2_getChar_3b067, ⟨⟨by decide +kernel, by decide +kernel⟩, by decide +kernel, by decide⟩⟩
theorem l_J2_96 : LkS RJ2 96 MJ2_checkBoundsBeginEnd_d044e 3 := ⟨wl_in 480 (by decide +kernel) rfl, wl_in 481 (by decide +kernel) rfl, wl_in 5 (by decide +kernel) rfl, k_J2_checkBoundsBeginEnd_d044e, ⟨⟨by decide +kernel, by decide +kernel⟩, by decide +kernel, by decide⟩⟩
theorem l_J2_111 : LkS RJ2 111 MJ2_putChar_b72d1 3 := ⟨wl_in 489 (by decide +kernel) rfl, wl_in 490 (by decide +kernel) rfl, wl_in 5 (by decide +kernel) rfl, k_J2_putChar_b72d1, ⟨⟨by decide +kernel, by decide +kernel⟩, by decide +kernel, by decide⟩⟩
theorem l_J2_123 : LkS RJ2 123 MJ2_compress_5af95 5 := ⟨wl_in 666 (by decide +kernel) rfl, wl_in 667 (by decide +kernel) rfl, wl_in 5 (by decide +kernel) rfl, k_J2_compress_5af95, ⟨⟨by decide +kernel, by decide +kernel⟩, by decide +kernel, by decide⟩⟩
theorem l_J2_126 : LkS RJ2 126 MJ7_copyOfRange_39247 3 := ⟨wl_in 669 (by decide +kernel) rfl, wl_in 580 (by decide +kernel) rfl, wl_in 23 (by decide +kernel) rfl, k_J7_copyOfRange_39247, ⟨⟨by decide +kernel, by decide +kernel⟩, by decide +kernel, by decide⟩⟩
theorem l_J2_173 : LkS RJ2 173 MJ2_checkBoundsOffCount_d044e 3 := ⟨wl_in 512 (by decide +kernel) rfl, wl_in 513 (by decide +kernel) rfl, wl_in 5 (by decide +kernel) rfl, k_J2_checkBoundsOffCount_d044e, ⟨⟨by decide +kernel, by decide +kernel⟩, by decide +kernel, by decide⟩⟩
theorem l_J2_241 : LkS RJ2 241 MJ0_checkBoundsBeginEnd_23922 3 := ⟨wl_in 483 (by decide +kernel) rfl, wl_in 484 (by decide +kernel) rfl, wl_in 4 (by decide +kernel) rfl, k_J0_checkBoundsBeginEnd_23922, ⟨⟨by decide +kernel, by decide +kernel⟩, by decide +kernel, by decide⟩⟩
theorem l_J2_257 : LkS RJ2 257 MJ2_compress_39247 3 := ⟨wl_in 1309 (by decide +kernel) rfl, wl_in 664 (by decide +kernel) rfl, wl_in 5 (by decide +kernel) rfl, k_J2_compress_39247, ⟨⟨by decide +kernel, by decide +kernel⟩, by decide +kernel, by decide⟩⟩
theorem l_J2_259 : LkS RJ2 259 MJ2_coderFromArrayLen_85cad 2 := ⟨wl_in 1310 (by decide +kernel) rfl, wl_in 671 (by decide +kernel) rfl, wl_in 5 (by decide +kernel) rfl, k_J2_coderFromArrayLen_85cad, ⟨⟨by decide +kernel, by decide +kernel⟩, by decide +kernel, by decide⟩⟩
theorem l_J2_263 : LkI RJ2 263 MJ0_init_031fb 2 := ⟨wl_in 1312 (by decide +kernel) rfl, wl_in 1302 (by decide +kernel) rfl, rfl, wl_in 4 (by decide +kernel) rfl, k_J0_init_031fb, ⟨⟨by decide +kernel, by decide +kernel⟩, by decide +kernel, by decide⟩, rfl⟩
theorem l_J2_380 : LkS RJ2 380 MJ7_fill_eb02e 4 := ⟨wl_in 733 (by decide +kernel) rfl, wl_in 699 (by decide +kernel) rfl, wl_in 23 (by decide +kernel) rfl, k_J7_fill_eb02e, ⟨⟨by decide +kernel, by decide +kernel⟩, by decide +kernel, by decide⟩⟩
theorem l_J2_393 : LkS RJ2 393 MJ2_getChars_ba4f3 3 := ⟨wl_in 547 (by decide +kernel) rfl, wl_in 548 (by decide +kernel) rfl, wl_in 5 (by decide +kernel) rfl, k_J2_getChars_ba4f3, ⟨⟨by decide +kernel, by decide +kernel⟩, by decide +kernel, by decide⟩⟩
theorem l_J2_414 : LkS RJ2 414 MJ0_checkIndex_df160 2 := ⟨wl_in 302 (by decide +kernel) rfl, wl_in 286 (by decide +kernel) rfl, wl_in 4 (by decide +kernel) rfl, k_J0_checkIndex_df160, ⟨⟨by decide +kernel, by decide +kernel⟩, by decide +kernel, by decide⟩⟩
theorem l_J2_419 : LkS RJ2 419 MJ0_checkBoundsOffCount_cabcc 3 := ⟨wl_in 515 (by decide +kernel) rfl, wl_in 516 (by decide +kernel) rfl, wl_in 4 (by decide +kernel) rfl, k_J0_checkBoundsOffCount_cabcc, ⟨⟨by decide +kernel, by decide +kernel⟩, by decide +kernel, by decide⟩⟩
theorem l_J7_13 : LkS RJ7 13 MJ7_rangeCheck_23922 3 := ⟨wl_in 701 (by decide +kernel) rfl, wl_in 702 (by decide +kernel) rfl, wl_in 23 (by decide +kernel) rfl, k_J7_rangeCheck_23922, ⟨⟨by decide +kernel, by decide +kernel⟩, by decide +kernel, by decide⟩⟩
theorem l_J7_47 : LkI RJ7 47 MJ4_init_da8c8 0 := ⟨wl_in 632 (by decide +kernel) rfl, wl_in 41 (by decide +kernel) rfl, rfl, wl_in 3 (by decide +kernel) rfl, k_J4_init_da8c8, ⟨⟨by decide +kernel, by decide +kernel⟩, by decide +kernel, by decide⟩, rfl⟩
theorem l_J7_50 : LkV RJ7 50 MJ4_append_15ec4 1 := ⟨wl_in 635 (by decide +kernel) rfl, wl_in 429 (by decide +kernel) rfl, wl_in 430 (by decide +kernel) rfl, wl_in 3 (by decide +kernel) rfl, k_J4_append_15ec4, ⟨⟨by decide +kernel, by decide +kernel⟩, by decide +kernel, by decide⟩⟩
theorem l_J7_54 : LkV RJ7 54 MJ4_append_bf812 1 := ⟨wl_in 633 (by decide +kernel) rfl, wl_in 528 (by decide +kernel) rfl, wl_in 529 (by decide +kernel) rfl, wl_in 3 (by decide +kernel) rfl, k_J4_append_bf812, ⟨⟨by decide +kernel, by decide +kernel⟩, by decide +kernel, by decide⟩⟩
theorem l_J7_61 : LkV RJ7 61 MJ4_toString_0e30d 0 := ⟨wl_in 636 (by decide +kernel) rfl, wl_in 553 (by decide +kernel) rfl, wl_in 554 (by decide +kernel) rfl, wl_in 3 (by decide +kernel) rfl, k_J4_toString_0e30d, ⟨⟨by decide +kernel, by decide +kernel⟩, by decide +kernel, by decide⟩⟩
theorem l_J7_70 : LkI RJ7 70 MJx00060_init_d00df 1 := ⟨wl_in 718 (by decide +kernel) rfl, wl_in 719 (by decide +kernel) rfl, rfl, wl_in 27 (by decide +kernel) rfl, k_Jx00060_init_d00df, ⟨⟨by decide +kernel, by decide +kernel⟩, by decide +kernel, by decide⟩, rfl⟩
theorem l_J7_304 : LkS RJ7 304 MJ9_min_7cf53 2 := ⟨wl_in 468 (by decide +kernel) rfl, wl_in 321 (by decide +kernel) rfl, wl_in 16 (by decide +kernel) rfl, k_J9_min_7cf53, ⟨⟨by decide +kernel, by decide +kernel⟩, by decide +kernel, by decide⟩⟩
theorem l_J7_339 : LkS RJ7 339 MJ7_copyOfRangeByte_39247 3 := ⟨wl_in 582 (by decide +kernel) rfl, wl_in 583 (by decide +kernel) rfl, wl_in 23 (by decide +kernel) rfl, k_J7_copyOfRangeByte_39247, ⟨⟨by decide +kernel, by decide +kernel⟩, by decide +kernel, by decide⟩⟩
theorem l_J7_343 : LkS RJ7 343 MJ7_checkLength_df160 2 := ⟨wl_in 585 (by decide +kernel) rfl, wl_in 586 (by decide +kernel) rfl, wl_in 23 (by decide +kernel) rfl, k_J7_checkLength_df160, ⟨⟨by decide +kernel, by decide +kernel⟩, by decide +kernel, by decide⟩⟩
theorem l_J8_194 : LkS RJ8 194 MJ9_max_7cf53 2 := ⟨wl_in 450 (by decide +kernel) rfl, wl_in 451 (by decide +kernel) rfl, wl_in 16 (by decide +kernel) rfl, k_J9_max_7cf53, ⟨⟨by decide +kernel, by decide +kernel⟩, by decide +kernel, by decide⟩⟩
theorem l_J8_201 : LkS RJ8 201 MJ8_hugeLength_7cf53 2 := ⟨wl_in 454 (by decide +kernel) rfl, wl_in 455 (by decide +kernel) rfl, wl_in 22 (by decide +kernel) rfl, k_J8_hugeLength_7cf53, ⟨⟨by decide +kernel, by decide +kernel⟩, by decide +kernel, by decide⟩⟩
end GLINK
end
