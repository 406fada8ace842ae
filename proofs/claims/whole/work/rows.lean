section
-- ===== PART A: goes FIRST, ahead of the names: the tables' words, and 'selects' of the private methods out of them =====
/-- a private method of a class that the tables say can be made, by its rows of tables_1 -/
def lw_okq (q : MethodName × Nat) : Prop := (q.1.cls ≠ "java/lang/invoke/MethodHandle" ∧ q.1.cls ≠ "java/lang/invoke/VarHandle") ∧ Cond.instantiable q.1.cls q.2 ∈ tables_1 ∧ Cond.privateMethod q.1 ∈ tables_1 ∧ Cond.instanceMethod q.1 ∈ tables_1
theorem lw_p0 : lw_okq (⟨"RumourHives$Net", "pieceOf", "(I)I"⟩, 5) := ⟨⟨by decide +kernel, by decide +kernel⟩, List.mem_of_getElem? (i := 45) (by decide +kernel), List.mem_of_getElem? (i := 294) (by decide +kernel), List.mem_of_getElem? (i := 295) (by decide +kernel)⟩
theorem lw_p1 : lw_okq (⟨"RumourHives$Net", "around", "(I)I"⟩, 5) := ⟨⟨by decide +kernel, by decide +kernel⟩, List.mem_of_getElem? (i := 45) (by decide +kernel), List.mem_of_getElem? (i := 298) (by decide +kernel), List.mem_of_getElem? (i := 299) (by decide +kernel)⟩
theorem lw_p2 : lw_okq (⟨"RumourHives$Net", "unite", "(II)Z"⟩, 5) := ⟨⟨by decide +kernel, by decide +kernel⟩, List.mem_of_getElem? (i := 45) (by decide +kernel), List.mem_of_getElem? (i := 314) (by decide +kernel), List.mem_of_getElem? (i := 315) (by decide +kernel)⟩
theorem lw_p3 : lw_okq (⟨"RumourHives$Net", "rootOf", "(I)I"⟩, 5) := ⟨⟨by decide +kernel, by decide +kernel⟩, List.mem_of_getElem? (i := 45) (by decide +kernel), List.mem_of_getElem? (i := 318) (by decide +kernel), List.mem_of_getElem? (i := 319) (by decide +kernel)⟩
theorem lw_p4 : lw_okq (⟨"RumourHives$Net", "relaxLinks", "()V"⟩, 5) := ⟨⟨by decide +kernel, by decide +kernel⟩, List.mem_of_getElem? (i := 45) (by decide +kernel), List.mem_of_getElem? (i := 354) (by decide +kernel), List.mem_of_getElem? (i := 355) (by decide +kernel)⟩
theorem lw_p5 : lw_okq (⟨"RumourHives", "change", "(III)I"⟩, 10) := ⟨⟨by decide +kernel, by decide +kernel⟩, List.mem_of_getElem? (i := 31) (by decide +kernel), List.mem_of_getElem? (i := 409) (by decide +kernel), List.mem_of_getElem? (i := 410) (by decide +kernel)⟩
theorem lw_p6 : lw_okq (⟨"RumourHives", "refusalOf", "(III)I"⟩, 10) := ⟨⟨by decide +kernel, by decide +kernel⟩, List.mem_of_getElem? (i := 31) (by decide +kernel), List.mem_of_getElem? (i := 413) (by decide +kernel), List.mem_of_getElem? (i := 414) (by decide +kernel)⟩
theorem lw_p7 : lw_okq (⟨"java/lang/Throwable", "fillInStackTrace", "(I)Ljava/lang/Throwable;"⟩, 6) := ⟨⟨by decide +kernel, by decide +kernel⟩, List.mem_of_getElem? (i := 510) (by decide +kernel), List.mem_of_getElem? (i := 508) (by decide +kernel), List.mem_of_getElem? (i := 509) (by decide +kernel)⟩
theorem lw_p8 : lw_okq (⟨"RumourHives", "perform", "(III)I"⟩, 10) := ⟨⟨by decide +kernel, by decide +kernel⟩, List.mem_of_getElem? (i := 31) (by decide +kernel), List.mem_of_getElem? (i := 593) (by decide +kernel), List.mem_of_getElem? (i := 594) (by decide +kernel)⟩
theorem lw_p9 : lw_okq (⟨"RumourHives$Scene", "hears", "(LRumourHives$Rumour;I)Z"⟩, 8) := ⟨⟨by decide +kernel, by decide +kernel⟩, List.mem_of_getElem? (i := 39) (by decide +kernel), List.mem_of_getElem? (i := 646) (by decide +kernel), List.mem_of_getElem? (i := 647) (by decide +kernel)⟩
theorem lw_p10 : lw_okq (⟨"RumourHives$Scene", "believes", "(LRumourHives$Rumour;I)Z"⟩, 8) := ⟨⟨by decide +kernel, by decide +kernel⟩, List.mem_of_getElem? (i := 39) (by decide +kernel), List.mem_of_getElem? (i := 650) (by decide +kernel), List.mem_of_getElem? (i := 651) (by decide +kernel)⟩
theorem lw_p11 : lw_okq (⟨"RumourHives", "needListener", "(I)V"⟩, 10) := ⟨⟨by decide +kernel, by decide +kernel⟩, List.mem_of_getElem? (i := 31) (by decide +kernel), List.mem_of_getElem? (i := 746) (by decide +kernel), List.mem_of_getElem? (i := 747) (by decide +kernel)⟩
theorem lw_p12 : lw_okq (⟨"RumourHives", "needRumour", "(I)V"⟩, 10) := ⟨⟨by decide +kernel, by decide +kernel⟩, List.mem_of_getElem? (i := 31) (by decide +kernel), List.mem_of_getElem? (i := 795) (by decide +kernel), List.mem_of_getElem? (i := 796) (by decide +kernel)⟩
theorem lw_p13 : lw_okq (⟨"RumourHives", "foreseenHearing", "(LRumourHives$Rumour;I)I"⟩, 10) := ⟨⟨by decide +kernel, by decide +kernel⟩, List.mem_of_getElem? (i := 31) (by decide +kernel), List.mem_of_getElem? (i := 910) (by decide +kernel), List.mem_of_getElem? (i := 911) (by decide +kernel)⟩
theorem lw_p14 : lw_okq (⟨"RumourHives$Scene", "spreadsAhead", "(II)Z"⟩, 8) := ⟨⟨by decide +kernel, by decide +kernel⟩, List.mem_of_getElem? (i := 39) (by decide +kernel), List.mem_of_getElem? (i := 935) (by decide +kernel), List.mem_of_getElem? (i := 936) (by decide +kernel)⟩
theorem lw_p15 : lw_okq (⟨"RumourHives$Scene", "gossipsAhead", "(II)Z"⟩, 8) := ⟨⟨by decide +kernel, by decide +kernel⟩, List.mem_of_getElem? (i := 39) (by decide +kernel), List.mem_of_getElem? (i := 950) (by decide +kernel), List.mem_of_getElem? (i := 951) (by decide +kernel)⟩
def lw_privs_1 : List (MethodName × Nat) := [(⟨"RumourHives$Net", "pieceOf", "(I)I"⟩, 5), (⟨"RumourHives$Net", "around", "(I)I"⟩, 5), (⟨"RumourHives$Net", "unite", "(II)Z"⟩, 5), (⟨"RumourHives$Net", "rootOf", "(I)I"⟩, 5), (⟨"RumourHives$Net", "relaxLinks", "()V"⟩, 5), (⟨"RumourHives", "change", "(III)I"⟩, 10), (⟨"RumourHives", "refusalOf", "(III)I"⟩, 10), (⟨"java/lang/Throwable", "fillInStackTrace", "(I)Ljava/lang/Throwable;"⟩, 6), (⟨"RumourHives", "perform", "(III)I"⟩, 10), (⟨"RumourHives$Scene", "hears", "(LRumourHives$Rumour;I)Z"⟩, 8), (⟨"RumourHives$Scene", "believes", "(LRumourHives$Rumour;I)Z"⟩, 8), (⟨"RumourHives", "needListener", "(I)V"⟩, 10), (⟨"RumourHives", "needRumour", "(I)V"⟩, 10), (⟨"RumourHives", "foreseenHearing", "(LRumourHives$Rumour;I)I"⟩, 10), (⟨"RumourHives$Scene", "spreadsAhead", "(II)Z"⟩, 8), (⟨"RumourHives$Scene", "gossipsAhead", "(II)Z"⟩, 8)]
theorem lw_r1 : ∀ q ∈ lw_privs_1, lw_okq q := List.forall_mem_cons.mpr ⟨lw_p0, List.forall_mem_cons.mpr ⟨lw_p1, List.forall_mem_cons.mpr ⟨lw_p2, List.forall_mem_cons.mpr ⟨lw_p3, List.forall_mem_cons.mpr ⟨lw_p4, List.forall_mem_cons.mpr ⟨lw_p5, List.forall_mem_cons.mpr ⟨lw_p6, List.forall_mem_cons.mpr ⟨lw_p7, List.forall_mem_cons.mpr ⟨lw_p8, List.forall_mem_cons.mpr ⟨lw_p9, List.forall_mem_cons.mpr ⟨lw_p10, List.forall_mem_cons.mpr ⟨lw_p11, List.forall_mem_cons.mpr ⟨lw_p12, List.forall_mem_cons.mpr ⟨lw_p13, List.forall_mem_cons.mpr ⟨lw_p14, List.forall_mem_cons.mpr ⟨lw_p15, fun _ h => absurd h List.not_mem_nil⟩⟩⟩⟩⟩⟩⟩⟩⟩⟩⟩⟩⟩⟩⟩⟩
theorem lw_p16 : lw_okq (⟨"RumourHives$Scene", "spreadBy", "(I)I"⟩, 8) := ⟨⟨by decide +kernel, by decide +kernel⟩, List.mem_of_getElem? (i := 39) (by decide +kernel), List.mem_of_getElem? (i := 954) (by decide +kernel), List.mem_of_getElem? (i := 955) (by decide +kernel)⟩
theorem lw_p17 : lw_okq (⟨"RumourHives$Script", "furthestKind", "(I)I"⟩, 11) := ⟨⟨by decide +kernel, by decide +kernel⟩, List.mem_of_getElem? (i := 165) (by decide +kernel), List.mem_of_getElem? (i := 1333) (by decide +kernel), List.mem_of_getElem? (i := 1334) (by decide +kernel)⟩
theorem lw_p18 : lw_okq (⟨"RumourHives$Script", "match", "(II)V"⟩, 11) := ⟨⟨by decide +kernel, by decide +kernel⟩, List.mem_of_getElem? (i := 165) (by decide +kernel), List.mem_of_getElem? (i := 1337) (by decide +kernel), List.mem_of_getElem? (i := 1338) (by decide +kernel)⟩
theorem lw_p19 : lw_okq (⟨"RumourHives$Script", "takes", "(C)Z"⟩, 11) := ⟨⟨by decide +kernel, by decide +kernel⟩, List.mem_of_getElem? (i := 165) (by decide +kernel), List.mem_of_getElem? (i := 1370) (by decide +kernel), List.mem_of_getElem? (i := 1371) (by decide +kernel)⟩
theorem lw_p20 : lw_okq (⟨"RumourHives$Script", "takesNumber", "(I)Z"⟩, 11) := ⟨⟨by decide +kernel, by decide +kernel⟩, List.mem_of_getElem? (i := 165) (by decide +kernel), List.mem_of_getElem? (i := 1374) (by decide +kernel), List.mem_of_getElem? (i := 1375) (by decide +kernel)⟩
theorem lw_p21 : lw_okq (⟨"RumourHives$Script", "digitFollows", "()Z"⟩, 11) := ⟨⟨by decide +kernel, by decide +kernel⟩, List.mem_of_getElem? (i := 165) (by decide +kernel), List.mem_of_getElem? (i := 1378) (by decide +kernel), List.mem_of_getElem? (i := 1379) (by decide +kernel)⟩
theorem lw_p22 : lw_okq (⟨"RumourHives$Script", "keepCommand", "(I)V"⟩, 11) := ⟨⟨by decide +kernel, by decide +kernel⟩, List.mem_of_getElem? (i := 165) (by decide +kernel), List.mem_of_getElem? (i := 1382) (by decide +kernel), List.mem_of_getElem? (i := 1383) (by decide +kernel)⟩
theorem lw_p23 : lw_okq (⟨"RumourHives", "runCommands", "()I"⟩, 10) := ⟨⟨by decide +kernel, by decide +kernel⟩, List.mem_of_getElem? (i := 31) (by decide +kernel), List.mem_of_getElem? (i := 1387) (by decide +kernel), List.mem_of_getElem? (i := 1388) (by decide +kernel)⟩
theorem lw_p24 : lw_okq (⟨"RumourHivesModel", "begins", "()V"⟩, 21) := ⟨⟨by decide +kernel, by decide +kernel⟩, List.mem_of_getElem? (i := 1426) (by decide +kernel), List.mem_of_getElem? (i := 1504) (by decide +kernel), List.mem_of_getElem? (i := 1505) (by decide +kernel)⟩
theorem lw_p25 : lw_okq (⟨"RumourHivesModel", "adds", "(II)I"⟩, 21) := ⟨⟨by decide +kernel, by decide +kernel⟩, List.mem_of_getElem? (i := 1426) (by decide +kernel), List.mem_of_getElem? (i := 1511) (by decide +kernel), List.mem_of_getElem? (i := 1512) (by decide +kernel)⟩
theorem lw_p26 : lw_okq (⟨"RumourHivesModel", "fail", "(I)I"⟩, 21) := ⟨⟨by decide +kernel, by decide +kernel⟩, List.mem_of_getElem? (i := 1426) (by decide +kernel), List.mem_of_getElem? (i := 1524) (by decide +kernel), List.mem_of_getElem? (i := 1525) (by decide +kernel)⟩
theorem lw_p27 : lw_okq (⟨"RumourHivesModel", "ends", "(I)I"⟩, 21) := ⟨⟨by decide +kernel, by decide +kernel⟩, List.mem_of_getElem? (i := 1426) (by decide +kernel), List.mem_of_getElem? (i := 1528) (by decide +kernel), List.mem_of_getElem? (i := 1529) (by decide +kernel)⟩
theorem lw_p28 : lw_okq (⟨"RumourHivesModel", "joins", "(II)I"⟩, 21) := ⟨⟨by decide +kernel, by decide +kernel⟩, List.mem_of_getElem? (i := 1426) (by decide +kernel), List.mem_of_getElem? (i := 1536) (by decide +kernel), List.mem_of_getElem? (i := 1537) (by decide +kernel)⟩
theorem lw_p29 : lw_okq (⟨"RumourHivesModel", "isEar", "(I)Z"⟩, 21) := ⟨⟨by decide +kernel, by decide +kernel⟩, List.mem_of_getElem? (i := 1426) (by decide +kernel), List.mem_of_getElem? (i := 1540) (by decide +kernel), List.mem_of_getElem? (i := 1541) (by decide +kernel)⟩
theorem lw_p30 : lw_okq (⟨"RumourHivesModel", "turnsLink", "(II)V"⟩, 21) := ⟨⟨by decide +kernel, by decide +kernel⟩, List.mem_of_getElem? (i := 1426) (by decide +kernel), List.mem_of_getElem? (i := 1547) (by decide +kernel), List.mem_of_getElem? (i := 1548) (by decide +kernel)⟩
theorem lw_p31 : lw_okq (⟨"RumourHivesModel", "links", "()I"⟩, 21) := ⟨⟨by decide +kernel, by decide +kernel⟩, List.mem_of_getElem? (i := 1426) (by decide +kernel), List.mem_of_getElem? (i := 1551) (by decide +kernel), List.mem_of_getElem? (i := 1552) (by decide +kernel)⟩
def lw_privs_2 : List (MethodName × Nat) := [(⟨"RumourHives$Scene", "spreadBy", "(I)I"⟩, 8), (⟨"RumourHives$Script", "furthestKind", "(I)I"⟩, 11), (⟨"RumourHives$Script", "match", "(II)V"⟩, 11), (⟨"RumourHives$Script", "takes", "(C)Z"⟩, 11), (⟨"RumourHives$Script", "takesNumber", "(I)Z"⟩, 11), (⟨"RumourHives$Script", "digitFollows", "()Z"⟩, 11), (⟨"RumourHives$Script", "keepCommand", "(I)V"⟩, 11), (⟨"RumourHives", "runCommands", "()I"⟩, 10), (⟨"RumourHivesModel", "begins", "()V"⟩, 21), (⟨"RumourHivesModel", "adds", "(II)I"⟩, 21), (⟨"RumourHivesModel", "fail", "(I)I"⟩, 21), (⟨"RumourHivesModel", "ends", "(I)I"⟩, 21), (⟨"RumourHivesModel", "joins", "(II)I"⟩, 21), (⟨"RumourHivesModel", "isEar", "(I)Z"⟩, 21), (⟨"RumourHivesModel", "turnsLink", "(II)V"⟩, 21), (⟨"RumourHivesModel", "links", "()I"⟩, 21)]
theorem lw_r2 : ∀ q ∈ lw_privs_2, lw_okq q := List.forall_mem_cons.mpr ⟨lw_p16, List.forall_mem_cons.mpr ⟨lw_p17, List.forall_mem_cons.mpr ⟨lw_p18, List.forall_mem_cons.mpr ⟨lw_p19, List.forall_mem_cons.mpr ⟨lw_p20, List.forall_mem_cons.mpr ⟨lw_p21, List.forall_mem_cons.mpr ⟨lw_p22, List.forall_mem_cons.mpr ⟨lw_p23, List.forall_mem_cons.mpr ⟨lw_p24, List.forall_mem_cons.mpr ⟨lw_p25, List.forall_mem_cons.mpr ⟨lw_p26, List.forall_mem_cons.mpr ⟨lw_p27, List.forall_mem_cons.mpr ⟨lw_p28, List.forall_mem_cons.mpr ⟨lw_p29, List.forall_mem_cons.mpr ⟨lw_p30, List.forall_mem_cons.mpr ⟨lw_p31, fun _ h => absurd h List.not_mem_nil⟩⟩⟩⟩⟩⟩⟩⟩⟩⟩⟩⟩⟩⟩⟩⟩
theorem lw_p32 : lw_okq (⟨"RumourHivesModel", "cuts", "(II)I"⟩, 21) := ⟨⟨by decide +kernel, by decide +kernel⟩, List.mem_of_getElem? (i := 1426) (by decide +kernel), List.mem_of_getElem? (i := 1562) (by decide +kernel), List.mem_of_getElem? (i := 1563) (by decide +kernel)⟩
theorem lw_p33 : lw_okq (⟨"RumourHivesModel", "moves", "(II)I"⟩, 21) := ⟨⟨by decide +kernel, by decide +kernel⟩, List.mem_of_getElem? (i := 1426) (by decide +kernel), List.mem_of_getElem? (i := 1570) (by decide +kernel), List.mem_of_getElem? (i := 1571) (by decide +kernel)⟩
theorem lw_p34 : lw_okq (⟨"RumourHivesModel", "starts", "(II)I"⟩, 21) := ⟨⟨by decide +kernel, by decide +kernel⟩, List.mem_of_getElem? (i := 1426) (by decide +kernel), List.mem_of_getElem? (i := 1578) (by decide +kernel), List.mem_of_getElem? (i := 1579) (by decide +kernel)⟩
theorem lw_p35 : lw_okq (⟨"RumourHivesModel", "checks", "(II)I"⟩, 21) := ⟨⟨by decide +kernel, by decide +kernel⟩, List.mem_of_getElem? (i := 1426) (by decide +kernel), List.mem_of_getElem? (i := 1589) (by decide +kernel), List.mem_of_getElem? (i := 1590) (by decide +kernel)⟩
theorem lw_p36 : lw_okq (⟨"RumourHivesModel", "isRumour", "(I)Z"⟩, 21) := ⟨⟨by decide +kernel, by decide +kernel⟩, List.mem_of_getElem? (i := 1426) (by decide +kernel), List.mem_of_getElem? (i := 1593) (by decide +kernel), List.mem_of_getElem? (i := 1594) (by decide +kernel)⟩
theorem lw_p37 : lw_okq (⟨"RumourHivesModel", "denies", "(I)I"⟩, 21) := ⟨⟨by decide +kernel, by decide +kernel⟩, List.mem_of_getElem? (i := 1426) (by decide +kernel), List.mem_of_getElem? (i := 1601) (by decide +kernel), List.mem_of_getElem? (i := 1602) (by decide +kernel)⟩
theorem lw_p38 : lw_okq (⟨"RumourHivesModel", "answers", "(II)I"⟩, 21) := ⟨⟨by decide +kernel, by decide +kernel⟩, List.mem_of_getElem? (i := 1426) (by decide +kernel), List.mem_of_getElem? (i := 1609) (by decide +kernel), List.mem_of_getElem? (i := 1610) (by decide +kernel)⟩
theorem lw_p39 : lw_okq (⟨"RumourHivesModel", "passes", "(I)I"⟩, 21) := ⟨⟨by decide +kernel, by decide +kernel⟩, List.mem_of_getElem? (i := 1426) (by decide +kernel), List.mem_of_getElem? (i := 1617) (by decide +kernel), List.mem_of_getElem? (i := 1618) (by decide +kernel)⟩
theorem lw_p40 : lw_okq (⟨"RumourHivesModel", "rounds", "(I)I"⟩, 21) := ⟨⟨by decide +kernel, by decide +kernel⟩, List.mem_of_getElem? (i := 1426) (by decide +kernel), List.mem_of_getElem? (i := 1621) (by decide +kernel), List.mem_of_getElem? (i := 1622) (by decide +kernel)⟩
theorem lw_p41 : lw_okq (⟨"RumourHivesModel", "spreads", "(I)I"⟩, 21) := ⟨⟨by decide +kernel, by decide +kernel⟩, List.mem_of_getElem? (i := 1426) (by decide +kernel), List.mem_of_getElem? (i := 1625) (by decide +kernel), List.mem_of_getElem? (i := 1626) (by decide +kernel)⟩
theorem lw_p42 : lw_okq (⟨"RumourHivesModel", "hears", "(I)I"⟩, 21) := ⟨⟨by decide +kernel, by decide +kernel⟩, List.mem_of_getElem? (i := 1426) (by decide +kernel), List.mem_of_getElem? (i := 1629) (by decide +kernel), List.mem_of_getElem? (i := 1630) (by decide +kernel)⟩
theorem lw_p43 : lw_okq (⟨"RumourHivesModel", "aware", "(I)I"⟩, 21) := ⟨⟨by decide +kernel, by decide +kernel⟩, List.mem_of_getElem? (i := 1426) (by decide +kernel), List.mem_of_getElem? (i := 1633) (by decide +kernel), List.mem_of_getElem? (i := 1634) (by decide +kernel)⟩
theorem lw_p44 : lw_okq (⟨"RumourHivesModel", "believes", "(I)I"⟩, 21) := ⟨⟨by decide +kernel, by decide +kernel⟩, List.mem_of_getElem? (i := 1426) (by decide +kernel), List.mem_of_getElem? (i := 1637) (by decide +kernel), List.mem_of_getElem? (i := 1638) (by decide +kernel)⟩
theorem lw_p45 : lw_okq (⟨"RumourHivesModel", "reached", "(I)I"⟩, 21) := ⟨⟨by decide +kernel, by decide +kernel⟩, List.mem_of_getElem? (i := 1426) (by decide +kernel), List.mem_of_getElem? (i := 1673) (by decide +kernel), List.mem_of_getElem? (i := 1674) (by decide +kernel)⟩
theorem lw_p46 : lw_okq (⟨"RumourHivesModel", "tells", "(II)I"⟩, 21) := ⟨⟨by decide +kernel, by decide +kernel⟩, List.mem_of_getElem? (i := 1426) (by decide +kernel), List.mem_of_getElem? (i := 1690) (by decide +kernel), List.mem_of_getElem? (i := 1691) (by decide +kernel)⟩
theorem lw_p47 : lw_okq (⟨"RumourHivesModel", "isOf", "(III)Z"⟩, 21) := ⟨⟨by decide +kernel, by decide +kernel⟩, List.mem_of_getElem? (i := 1426) (by decide +kernel), List.mem_of_getElem? (i := 1706) (by decide +kernel), List.mem_of_getElem? (i := 1707) (by decide +kernel)⟩
def lw_privs_3 : List (MethodName × Nat) := [(⟨"RumourHivesModel", "cuts", "(II)I"⟩, 21), (⟨"RumourHivesModel", "moves", "(II)I"⟩, 21), (⟨"RumourHivesModel", "starts", "(II)I"⟩, 21), (⟨"RumourHivesModel", "checks", "(II)I"⟩, 21), (⟨"RumourHivesModel", "isRumour", "(I)Z"⟩, 21), (⟨"RumourHivesModel", "denies", "(I)I"⟩, 21), (⟨"RumourHivesModel", "answers", "(II)I"⟩, 21), (⟨"RumourHivesModel", "passes", "(I)I"⟩, 21), (⟨"RumourHivesModel", "rounds", "(I)I"⟩, 21), (⟨"RumourHivesModel", "spreads", "(I)I"⟩, 21), (⟨"RumourHivesModel", "hears", "(I)I"⟩, 21), (⟨"RumourHivesModel", "aware", "(I)I"⟩, 21), (⟨"RumourHivesModel", "believes", "(I)I"⟩, 21), (⟨"RumourHivesModel", "reached", "(I)I"⟩, 21), (⟨"RumourHivesModel", "tells", "(II)I"⟩, 21), (⟨"RumourHivesModel", "isOf", "(III)Z"⟩, 21)]
theorem lw_r3 : ∀ q ∈ lw_privs_3, lw_okq q := List.forall_mem_cons.mpr ⟨lw_p32, List.forall_mem_cons.mpr ⟨lw_p33, List.forall_mem_cons.mpr ⟨lw_p34, List.forall_mem_cons.mpr ⟨lw_p35, List.forall_mem_cons.mpr ⟨lw_p36, List.forall_mem_cons.mpr ⟨lw_p37, List.forall_mem_cons.mpr ⟨lw_p38, List.forall_mem_cons.mpr ⟨lw_p39, List.forall_mem_cons.mpr ⟨lw_p40, List.forall_mem_cons.mpr ⟨lw_p41, List.forall_mem_cons.mpr ⟨lw_p42, List.forall_mem_cons.mpr ⟨lw_p43, List.forall_mem_cons.mpr ⟨lw_p44, List.forall_mem_cons.mpr ⟨lw_p45, List.forall_mem_cons.mpr ⟨lw_p46, List.forall_mem_cons.mpr ⟨lw_p47, fun _ h => absurd h List.not_mem_nil⟩⟩⟩⟩⟩⟩⟩⟩⟩⟩⟩⟩⟩⟩⟩⟩
theorem lw_p48 : lw_okq (⟨"RumourHivesModel", "inHive", "(II)I"⟩, 21) := ⟨⟨by decide +kernel, by decide +kernel⟩, List.mem_of_getElem? (i := 1426) (by decide +kernel), List.mem_of_getElem? (i := 1730) (by decide +kernel), List.mem_of_getElem? (i := 1731) (by decide +kernel)⟩
theorem lw_p49 : lw_okq (⟨"RumourHivesModel", "gossip", "(I)I"⟩, 21) := ⟨⟨by decide +kernel, by decide +kernel⟩, List.mem_of_getElem? (i := 1426) (by decide +kernel), List.mem_of_getElem? (i := 1767) (by decide +kernel), List.mem_of_getElem? (i := 1768) (by decide +kernel)⟩
theorem lw_p50 : lw_okq (⟨"RumourHivesModel", "writes", "(I)V"⟩, 21) := ⟨⟨by decide +kernel, by decide +kernel⟩, List.mem_of_getElem? (i := 1426) (by decide +kernel), List.mem_of_getElem? (i := 1799) (by decide +kernel), List.mem_of_getElem? (i := 1800) (by decide +kernel)⟩
theorem lw_p51 : lw_okq (⟨"RumourHivesModel", "writesNumber", "(I)V"⟩, 21) := ⟨⟨by decide +kernel, by decide +kernel⟩, List.mem_of_getElem? (i := 1426) (by decide +kernel), List.mem_of_getElem? (i := 1803) (by decide +kernel), List.mem_of_getElem? (i := 1804) (by decide +kernel)⟩
theorem lw_p52 : lw_okq (⟨"RumourHivesModel", "commands", "()I"⟩, 21) := ⟨⟨by decide +kernel, by decide +kernel⟩, List.mem_of_getElem? (i := 1426) (by decide +kernel), List.mem_of_getElem? (i := 1823) (by decide +kernel), List.mem_of_getElem? (i := 1824) (by decide +kernel)⟩
theorem lw_p53 : lw_okq (⟨"RumourHivesModel", "command", "()V"⟩, 21) := ⟨⟨by decide +kernel, by decide +kernel⟩, List.mem_of_getElem? (i := 1426) (by decide +kernel), List.mem_of_getElem? (i := 1827) (by decide +kernel), List.mem_of_getElem? (i := 1828) (by decide +kernel)⟩
theorem lw_p54 : lw_okq (⟨"RumourHivesModel", "word", "()I"⟩, 21) := ⟨⟨by decide +kernel, by decide +kernel⟩, List.mem_of_getElem? (i := 1426) (by decide +kernel), List.mem_of_getElem? (i := 1831) (by decide +kernel), List.mem_of_getElem? (i := 1832) (by decide +kernel)⟩
theorem lw_p55 : lw_okq (⟨"RumourHivesModel", "sign", "()I"⟩, 21) := ⟨⟨by decide +kernel, by decide +kernel⟩, List.mem_of_getElem? (i := 1426) (by decide +kernel), List.mem_of_getElem? (i := 1835) (by decide +kernel), List.mem_of_getElem? (i := 1836) (by decide +kernel)⟩
theorem lw_p56 : lw_okq (⟨"RumourHivesModel", "behind", "(I)I"⟩, 21) := ⟨⟨by decide +kernel, by decide +kernel⟩, List.mem_of_getElem? (i := 1426) (by decide +kernel), List.mem_of_getElem? (i := 1839) (by decide +kernel), List.mem_of_getElem? (i := 1840) (by decide +kernel)⟩
theorem lw_p57 : lw_okq (⟨"RumourHivesModel", "mark", "(I)V"⟩, 21) := ⟨⟨by decide +kernel, by decide +kernel⟩, List.mem_of_getElem? (i := 1426) (by decide +kernel), List.mem_of_getElem? (i := 1843) (by decide +kernel), List.mem_of_getElem? (i := 1844) (by decide +kernel)⟩
theorem lw_p58 : lw_okq (⟨"RumourHivesModel", "digits", "(I)I"⟩, 21) := ⟨⟨by decide +kernel, by decide +kernel⟩, List.mem_of_getElem? (i := 1426) (by decide +kernel), List.mem_of_getElem? (i := 1847) (by decide +kernel), List.mem_of_getElem? (i := 1848) (by decide +kernel)⟩
theorem lw_p59 : lw_okq (⟨"RumourHivesModel", "does", "(III)I"⟩, 21) := ⟨⟨by decide +kernel, by decide +kernel⟩, List.mem_of_getElem? (i := 1426) (by decide +kernel), List.mem_of_getElem? (i := 1851) (by decide +kernel), List.mem_of_getElem? (i := 1852) (by decide +kernel)⟩
def lw_privs_4 : List (MethodName × Nat) := [(⟨"RumourHivesModel", "inHive", "(II)I"⟩, 21), (⟨"RumourHivesModel", "gossip", "(I)I"⟩, 21), (⟨"RumourHivesModel", "writes", "(I)V"⟩, 21), (⟨"RumourHivesModel", "writesNumber", "(I)V"⟩, 21), (⟨"RumourHivesModel", "commands", "()I"⟩, 21), (⟨"RumourHivesModel", "command", "()V"⟩, 21), (⟨"RumourHivesModel", "word", "()I"⟩, 21), (⟨"RumourHivesModel", "sign", "()I"⟩, 21), (⟨"RumourHivesModel", "behind", "(I)I"⟩, 21), (⟨"RumourHivesModel", "mark", "(I)V"⟩, 21), (⟨"RumourHivesModel", "digits", "(I)I"⟩, 21), (⟨"RumourHivesModel", "does", "(III)I"⟩, 21)]
theorem lw_r4 : ∀ q ∈ lw_privs_4, lw_okq q := List.forall_mem_cons.mpr ⟨lw_p48, List.forall_mem_cons.mpr ⟨lw_p49, List.forall_mem_cons.mpr ⟨lw_p50, List.forall_mem_cons.mpr ⟨lw_p51, List.forall_mem_cons.mpr ⟨lw_p52, List.forall_mem_cons.mpr ⟨lw_p53, List.forall_mem_cons.mpr ⟨lw_p54, List.forall_mem_cons.mpr ⟨lw_p55, List.forall_mem_cons.mpr ⟨lw_p56, List.forall_mem_cons.mpr ⟨lw_p57, List.forall_mem_cons.mpr ⟨lw_p58, List.forall_mem_cons.mpr ⟨lw_p59, fun _ h => absurd h List.not_mem_nil⟩⟩⟩⟩⟩⟩⟩⟩⟩⟩⟩⟩
def lw_privs : List (MethodName × Nat) := lw_privs_1 ++ (lw_privs_2 ++ (lw_privs_3 ++ (lw_privs_4)))
def lw_tbl : List Cond := k2_sels lw_privs ++ tables_1
theorem lw_privs_ok : ∀ q ∈ lw_privs, lw_okq q := by
  show ∀ q ∈ lw_privs_1 ++ (lw_privs_2 ++ (lw_privs_3 ++ (lw_privs_4))), lw_okq q
  exact List.forall_mem_append.mpr ⟨lw_r1, List.forall_mem_append.mpr ⟨lw_r2, List.forall_mem_append.mpr ⟨lw_r3, lw_r4⟩⟩⟩
/-- the streams that the claim lets the run draw from -/
abbrev lw_cs : List Choice := [Jvm.Choice.named "NaN.bits"]
theorem lw_bits : nanBits ∈ lw_cs := by first | decide | exact List.mem_cons_self | simp [lw_cs, nanBits]
-- ===== end of PART A; then your names; then what follows =====
end
section
/-! ===== BEGIN words of one list among another's, by their places ===== -/
theorem goodIn_r {big : List Cond} (ws : List Cond) (ps : List Nat) (hp : ws = ps.filterMap (fun i => big[i]?)) (h : ws.all goodWord = true) : GoodIn big ws := by
  intro w hw
  have h1 := List.all_eq_true.mp h w hw
  rw [hp] at hw
  obtain ⟨i, -, hi⟩ := List.mem_filterMap.mp hw
  have hm : w ∈ big := by first | exact List.mem_of_getElem? hi | exact List.getElem?_mem hi
  exact ⟨hm, good_of_word h1⟩
theorem goodIn_app {big a b : List Cond} (ha : GoodIn big a) (hb : GoodIn big b) : GoodIn big (a ++ b) := fun w h => (List.mem_append.mp h).elim (ha w) (hb w)
theorem goodIn_ca {big a b : List Cond} {c : Cond} (ha : GoodIn big (c :: a)) (hb : GoodIn big b) : GoodIn big (c :: (a ++ b)) := fun w h => (List.mem_cons.mp h).elim (fun e => ha w (List.mem_cons.mpr (Or.inl e))) (fun h => (List.mem_append.mp h).elim (fun h => ha w (List.mem_cons.mpr (Or.inr h))) (hb w))
theorem goodIn_sub {big ws : List Cond} (hm : ∀ w ∈ ws, w ∈ big) (h : ws.all goodWord = true) : GoodIn big ws := fun w hw => ⟨hm w hw, good_of_word (List.all_eq_true.mp h w hw)⟩
/-! ===== END ===== -/

/-! ===== BEGIN exceptions that leave a method, and their catching by the caller (launches without stack traces) ===== -/
section VXA
/-! The laws vx_back, vx_callV, vx_callS, vx_callSW, vx_throw0, vx_throwS follow proofs of the library, with one case more: JvmDerived/Free/Laws.lean (Back.of_free), Shelf42/LK1.lean (callV, callS), Shelf/KitTraced.lean (throwNew0V, throwNewS). -/
/-- where a method has thrown q: the class by its name, the cell, what was written, the world -/
def vx_T (XC : String → State → State → Prop) (st : State) (q : Addr) (t : State) (mc ms : Nat) (free : Addr → Prop) : Prop :=
  ∃ (E : String) (ce : Cell) (L : List Loc), XC E st t ∧ t.heap[q]? = some ce ∧ ce.vm = .none ∧ st.vm.findClass E = some ce.cls ∧ st.WarmedH t.vm ∧ st.sameButNew ({ t with vm := st.vm } : State) L mc ms ∧ ∀ z ∈ L, free z.base
def vx_Q (Qc : Array Value → State → Outcome → State → Prop) (XC : String → State → State → Prop) (mc ms : Nat) (free : Addr → Prop) : Array Value → State → Outcome → State → Prop := fun a st o t =>
  (Qc a st o t ∧ ∃ L, FrameEnd st o t L mc ms ∧ ∀ q ∈ L, free q.base) ∨ ∃ q, o = .threw q ∧ vx_T XC st q t mc ms free
/-- a callee that returns or throws -/
def vx_Met (l : Launch) (y : MethodName) (ws : List Cond) (rm : Room) (Pc : Array Value → State → Prop) (Qc : Array Value → State → Outcome → State → Prop) (XC : String → State → State → Prop) (mc ms : Nat) (free : Addr → Prop) : Prop :=
  MetFree l y (headSpec ws rm) Pc (fun _ _ _ _ _ => True) (vx_Q Qc XC mc ms free)
def vx_Post (XC : String → State → State → Prop) (mc ms : Nat) (free : Addr → Prop) : Pt → Array Value → Addr → Pt → Prop := fun A a q B =>
  ∃ (g : JFrame) (mk : MethodId) (t : State) (L : List Loc) (E : String) (ce : Cell), B.U.heap = t.heap ∧ B.U.vm = t.vm ∧ XC E (A.U.calling g mk a) t ∧ t.heap[q]? = some ce ∧ ce.vm = .none ∧ A.U.vm.findClass E = some ce.cls ∧ B.locs = A.locs ++ L ∧ (∀ z ∈ L, free z.base) ∧ B.cells = A.cells + mc ∧ B.slots = A.slots + ms
def vx_Back (l : Launch) (R : Room) (p : Program) (e : Env) (below : List Frame) (s : State) (sargs : Array Value) (y : MethodName) (len W9 : Nat)
    (Pre : Pt → Array Value → Prop) (Post : Pt → Array Value → Option Value → Pt → Prop) (PostX : Pt → Array Value → Addr → Pt → Prop) : Prop :=
  ∀ (m : MethodId) (meth : Method) (c : Code) (A : Pt) (g : JFrame) (ig : Instr) (mk : MethodId) (a : Array Value),
    Stand p l e R s m sargs below meth c A.U A.locs A.cells A.slots → g.method = m → g.locals.size = c.maxLocals → decode c.code g.pc = .ok (ig, len) →
    2 * g.monitorRoom + (g.stack.map fun v => v.category).sum ≤ W9 → A.U.methodNamed? y = some mk → Pre A a →
    (∃ (v : Option Value) (B : Pt), Stand p l e R s m sargs below meth c B.U B.locs B.cells B.slots ∧ Post A a v B ∧
      Steps p.tables e below (doInvoke e (A.U.setTop g) [] mk a).1 (B.U.setTop { g with pc := g.pc + len, stack := v.toList ++ g.stack })) ∨
    (∃ (q : Addr) (B : Pt), Stand p l e R s m sargs below meth c B.U B.locs B.cells B.slots ∧ PostX A a q B ∧
      Steps p.tables e below (doInvoke e (A.U.setTop g) [] mk a).1 ((B.U.setTop g).pushFrame (.throwing q)))
section Payer
variable {l : Launch} {R : Room} {p : Program} {e : Env} {below : List Frame} {s : State} {sargs : Array Value} {y : MethodName} {len W9 : Nat}
theorem vx_back {ws : List Cond} {rm : Room} {Pc : Array Value → State → Prop} {Qc : Array Value → State → Outcome → State → Prop} {XC : String → State → State → Prop} {mc ms : Nat} {free : Addr → Prop} {bytes : ByteArray} {maxL : Nat} {ret : Option FieldType}
    (hM : vx_Met l y ws rm Pc Qc XC mc ms free) (hblind : FrameBlind Pc) (hrc : rm.cells = mc) (hrs : rm.slots = ms)
    (hframes : rm.frames + 1 ≤ R.frames) (hlocals : W9 + (maxL + 11) + rm.locals ≤ R.locals)
    (hws : ∀ w ∈ ws, ∀ a' U, s.WarmedH U.vm → w.before a' U = true) (hcode : Cond.code y bytes maxL ret ∈ ws) (hinit : ∀ a' U, s.WarmedH U.vm → (Cond.initialized y.cls).before a' U = true) :
    vx_Back l R p e below s sargs y len W9 (PreOf R mc ms Pc) (PostOf Qc mc ms free) (vx_Post XC mc ms free) := by
  intro m meth c A g ig mk a X hg hsize hdg hW hn hp
  have h1 : (headSpec ws rm).pre.before a A.U = true := atoms_intro fun w hw => hws w hw _ _ X.warmed
  have h2 : (Cond.code y bytes maxL ret).before a A.U = true := hws _ hcode _ _ X.warmed
  have h3 : (Cond.initialized y.cls).before a A.U = true := hinit _ _ X.warmed
  have h4 : A.cells + (headSpec ws rm).room.cells ≤ R.cells := by rw [show (headSpec ws rm).room.cells = mc from hrc]; exact hp.1
  have h5 : A.slots + (headSpec ws rm).room.slots ≤ R.slots := by rw [show (headSpec ws rm).room.slots = ms from hrs]; exact hp.2.1
  have hPc : Pc a (A.U.calling g mk a) := hblind _ _ _ _ hp.2.2
  obtain ⟨U, Ls, c0, s0⟩ := A
  dsimp only [Pt.U, Pt.locs, Pt.cells, Pt.slots] at h1 h2 h3 h4 h5 X hn hPc ⊢
  obtain ⟨methY, cY, hmY, hcY, -, hlY, -, -, -, -⟩ := Cond.code_spec hn h2
  obtain ⟨kY, hkY, -⟩ := className_of_methodNamed hn
  have hinitY : kY.init = .initialized := Cond.initialized_spec (findClass_of_methodNamed hn) hkY h3
  have h : At U g.method c below := by rw [hg]; exact X.here
  have hlocals9 : W9 + (maxL + 11) + (headSpec ws rm).room.locals ≤ R.locals := hlocals
  have happ : (headSpec ws rm).appliesLoose y e.platform (U.calling g mk a) = true :=
    Spec.appliesLoose_calling (g := g) h hdg hn hkY hinitY
      (X.room_calling (g := g) (R' := (headSpec ws rm).room) hsize hmY hcY hframes (by rw [hlY]; omega) h4 h5) h1
  obtain ⟨mid, hmid⟩ := h.above
  have hfr : (U.setTop g).frames = (.java g :: mid) ++ below := by rw [State.frames_setTop' g h.top, hmid]; rfl
  obtain ⟨o, s₂, hsteps, -, hend, hq⟩ := Steps.callFree hM p X.admits X.cas X.clock (acts := []) hfr happ hPc trivial
  have hq' : vx_Q Qc XC mc ms free a (U.calling g mk a) o s₂ := hq
  rw [State.frames_setTop' g h.top] at hend
  obtain ⟨g₀, hg0⟩ := Option.isSome_iff_exists.mp h.top
  obtain ⟨r, hr⟩ := State.topJava?_eq_some.mp hg0
  have hr' : (({ U with heap := s₂.heap, slotsUsed := s₂.slotsUsed } : State).setVm s₂.vm).frames = .java g₀ :: r := hr
  rcases hq' with ⟨hqc, L, hfe, hL⟩ | ⟨q, rfl, E, ce, L, hx, hce, hcv, hcl, hW₂, hsm, hL⟩
  · obtain ⟨⟨v, rfl⟩, hW₂, e2, q2, q3, q4, q5, q6⟩ := id hfe
    have e3 : s₂ = ({ (U.calling g mk a).setFrames s₂.frames with heap := s₂.heap, slotsUsed := s₂.slotsUsed } : State).setVm s₂.vm := by
      have : s₂ = ({ s₂ with vm := (U.calling g mk a).vm } : State).setVm s₂.vm := rfl
      rw [e2] at this
      exact this
    obtain ⟨c₂, i₂, len₂, hc₂, hd₂, hf₂⟩ := hend
    have hW' : U.WarmedH s₂.vm := hW₂
    have hcc : c₂ = c := by
      have h1 : s₂.code? g.method = U.code? g.method := by
        rw [State.code?_eq, State.code?_eq, hW'.alike.method?]
      exact Option.some.inj (hc₂.symm.trans (h1.trans h.code))
    subst hcc
    have hlen : len₂ = len := by rw [hdg] at hd₂; cases hd₂; rfl
    subst hlen
    have hs₂ : s₂ = (({ U with heap := s₂.heap, slotsUsed := s₂.slotsUsed } : State).setVm s₂.vm).setTop { g with pc := g.pc + len₂, stack := v.toList ++ g.stack } := by
      refine e3.trans ?_
      rw [hf₂, State.calling_eq h.top, State.setFrames_setFrames, State.setTop_of_frames _ hr', hr]
      rfl
    have hsame : U.sameButNew ({ U with heap := s₂.heap, slotsUsed := s₂.slotsUsed } : State) L mc ms := by
      refine ⟨?_, q2, q3, q4, q5, q6⟩
      obtain ⟨t, ht, -⟩ := State.frames_cons hr
      show ({ U with heap := s₂.heap, slotsUsed := s₂.slotsUsed } : State) = { U.setFrames U.frames with heap := s₂.heap, slotsUsed := s₂.slotsUsed }
      rw [State.setFrames_self ht]
    subst hg
    refine Or.inl ⟨v, ⟨(({ U with heap := s₂.heap, slotsUsed := s₂.slotsUsed } : State).setVm s₂.vm), Ls ++ L, c0 + mc, s0 + ms⟩,
      ⟨X.admits, X.cas, X.clock, X.frames, X.room, X.hears, X.method, X.code, (X.here.setHeapUsed s₂.heap s₂.slotsUsed).setVm hW'.alike, X.tail, State.WarmedH.trans X.warmed hW', X.limits, X.bytes, X.same.trans (hsame.setVm s.vm)⟩,
      ⟨g, mk, s₂, L, rfl, rfl, hqc, rfl, hL, rfl, rfl⟩, ?_⟩
    show Steps p.tables e below _ ((({ U with heap := s₂.heap, slotsUsed := s₂.slotsUsed } : State).setVm s₂.vm).setTop { g with pc := g.pc + len₂, stack := v.toList ++ g.stack })
    rw [← hs₂]
    exact hsteps
  · obtain ⟨e2, q2, q3, q4, q5, q6⟩ := id hsm
    have e3 : s₂ = ({ (U.calling g mk a).setFrames s₂.frames with heap := s₂.heap, slotsUsed := s₂.slotsUsed } : State).setVm s₂.vm := by
      have : s₂ = ({ s₂ with vm := (U.calling g mk a).vm } : State).setVm s₂.vm := rfl
      rw [e2] at this
      exact this
    have hf₂ : s₂.frames = .throwing q :: .java g :: U.frames.tail := hend
    have hW' : U.WarmedH s₂.vm := hW₂
    have hs₂ : s₂ = ((({ U with heap := s₂.heap, slotsUsed := s₂.slotsUsed } : State).setVm s₂.vm).setTop g).pushFrame (.throwing q) := by
      refine e3.trans ?_
      rw [hf₂, State.calling_eq h.top, State.setFrames_setFrames, State.pushFrame, State.frames_setTop _ hr', State.setTop_of_frames _ hr', State.setFrames_setFrames, hr]
      rfl
    have hsame : U.sameButNew ({ U with heap := s₂.heap, slotsUsed := s₂.slotsUsed } : State) L mc ms := by
      refine ⟨?_, q2, q3, q4, q5, q6⟩
      obtain ⟨t, ht, -⟩ := State.frames_cons hr
      show ({ U with heap := s₂.heap, slotsUsed := s₂.slotsUsed } : State) = { U.setFrames U.frames with heap := s₂.heap, slotsUsed := s₂.slotsUsed }
      rw [State.setFrames_self ht]
    subst hg
    refine Or.inr ⟨q, ⟨(({ U with heap := s₂.heap, slotsUsed := s₂.slotsUsed } : State).setVm s₂.vm), Ls ++ L, c0 + mc, s0 + ms⟩,
      ⟨X.admits, X.cas, X.clock, X.frames, X.room, X.hears, X.method, X.code, (X.here.setHeapUsed s₂.heap s₂.slotsUsed).setVm hW'.alike, X.tail, State.WarmedH.trans X.warmed hW', X.limits, X.bytes, X.same.trans (hsame.setVm s.vm)⟩,
      ⟨g, mk, s₂, L, E, ce, rfl, rfl, hx, hce, hcv, hcl, rfl, hL, rfl, rfl⟩, ?_⟩
    show Steps p.tables e below _ (((({ U with heap := s₂.heap, slotsUsed := s₂.slotsUsed } : State).setVm s₂.vm).setTop g).pushFrame (.throwing q))
    rw [← hs₂]
    exact hsteps
end Payer
section Calls
variable {p : Program} {l : Launch} {e : Env} {R : Room} {s : State} {m : MethodId} {args : Array Value} {below : List Frame} {meth : Method} {c : Code} {T : State} {locs : List Loc} {cells slots : Nat}
theorem vx_callV (X : Stand p l e R s m args below meth c T locs cells slots) (hexec : p.tables.exec = Jvm.exec) {own C : String} {index : Nat} {y : MethodName} {bytes : ByteArray} {maxL : Nat} {ret : Option FieldType}
    (hown : s.vm.findClass own = some m.cls) (hlink : (Cond.methodLink own index y).before args s = true) (hinst : (Cond.instanceMethod y).before args s = true) (hsel : (Cond.selects C y y).before args s = true)
    (hcode : (Cond.code y bytes maxL ret).before args s = true) (hy : y.cls ≠ "java/lang/invoke/MethodHandle" ∧ y.cls ≠ "java/lang/invoke/VarHandle")
    {W9 : Nat} {Pre : Pt → Array Value → Prop} {Post : Pt → Array Value → Option Value → Pt → Prop} {PostX : Pt → Array Value → Addr → Pt → Prop} (hK : vx_Back l R p e below s args y 3 W9 Pre Post PostX)
    {b : Addr} {cellB : Cell} (hcell : T.heap[b]? = some cellB) (hobj : cellB.vm.isStatics = false) (hcls : s.vm.findClass C = some cellB.cls)
    {g : JFrame} (hg : g.method = m) (hsize : g.locals.size = c.maxLocals) {argsL rest : List Value} (hlen : ∀ sig, parseMethodDescriptor y.desc = some sig → argsL.length = sig.parameters.length)
    (hstack : g.stack = argsL.reverse ++ .ref b :: rest) (hW : 2 * g.monitorRoom + (rest.map fun v => v.category).sum ≤ W9) (hdg : decode c.code g.pc = .ok (.invokevirtual index, 3))
    (hpre : ∀ vm₁, s.WarmedH vm₁ → Pre ⟨T.setVm vm₁, locs, cells, slots⟩ (Value.ref b :: argsL).toArray) :
    (∃ (v : Option Value) (vm₁ : Vm) (B : Pt), s.WarmedH vm₁ ∧ Stand p l e R s m args below meth c B.U B.locs B.cells B.slots ∧ Post ⟨T.setVm vm₁, locs, cells, slots⟩ (Value.ref b :: argsL).toArray v B ∧
      ∀ target, Steps p.tables e below (B.U.setTop { g with pc := g.pc + 3, stack := v.toList ++ rest }) target → Steps p.tables e below (T.setTop g) target) ∨
    (∃ (q : Addr) (vm₁ : Vm) (B : Pt), s.WarmedH vm₁ ∧ Stand p l e R s m args below meth c B.U B.locs B.cells B.slots ∧ PostX ⟨T.setVm vm₁, locs, cells, slots⟩ (Value.ref b :: argsL).toArray q B ∧
      Steps p.tables e below (T.setTop g) ((B.U.setTop { g with stack := rest }).pushFrame (.throwing q))) := by
  obtain ⟨mk, methM, hnamed, hmethM, hstM, habM⟩ := Cond.instanceMethod_spec hinst
  obtain ⟨methM', cM, hmethM', -, -, -, -, -, -, hsigM⟩ := Cond.code_spec hnamed hcode
  cases hmethM.symm.trans hmethM'
  obtain ⟨c2, r2, m2, q1, q2, q3, q4, kP, hkP, hkPi⟩ := Cond.selects_spec hsel
  cases hcls.symm.trans q1
  cases (State.methodFound?_of_named hnamed hy).symm.trans q2
  cases hnamed.symm.trans q3
  have hselP : selectMethod e.platform s.vm cellB.cls mk = .method mk := by rw [Launch.admits_selectMethod X.admits]; exact q4
  obtain ⟨vm₁, X₁, hstep₁⟩ := X.invokevirtual hexec hown hlink hnamed hmethM hstM hkP hkPi hy (a := b) (cell := cellB) hcell
    (fun z h => by rw [h] at hobj; cases hobj) hselP hmethM habM hkP hkPi (g := g) hg (argsL := argsL) (rest := rest) (hlen _ hsigM) hstack hdg
  rcases hK m meth c ⟨T.setVm vm₁, locs, cells, slots⟩ { g with stack := rest } (.invokevirtual index) mk (Value.ref b :: argsL).toArray X₁ hg hsize hdg hW (X₁.named hnamed) (hpre vm₁ X₁.warmed) with ⟨v, B, X', hpost, hsteps⟩ | ⟨q, B, X', hpost, hsteps⟩
  · exact Or.inl ⟨v, vm₁, B, X₁.warmed, X', hpost, fun target h => hstep₁ _ fun acts => by rw [doInvoke_state]; exact hsteps.trans h⟩
  · exact Or.inr ⟨q, vm₁, B, X₁.warmed, X', hpost, hstep₁ _ fun acts => by rw [doInvoke_state]; exact hsteps⟩
theorem vx_callS (X : Stand p l e R s m args below meth c T locs cells slots) (hexec : p.tables.exec = Jvm.exec) {own : String} {index : Nat} {y : MethodName} {bytes : ByteArray} {maxL : Nat} {ret : Option FieldType}
    (hown : s.vm.findClass own = some m.cls) (hlink : (Cond.methodLink own index y).before args s = true) (hstat : (Cond.static y).before args s = true) (hinit : (Cond.initialized y.cls).before args s = true)
    (hcode : (Cond.code y bytes maxL ret).before args s = true) (hy : y.cls ≠ "java/lang/invoke/MethodHandle" ∧ y.cls ≠ "java/lang/invoke/VarHandle")
    {W9 : Nat} {Pre : Pt → Array Value → Prop} {Post : Pt → Array Value → Option Value → Pt → Prop} {PostX : Pt → Array Value → Addr → Pt → Prop} (hK : vx_Back l R p e below s args y 3 W9 Pre Post PostX)
    {g : JFrame} (hg : g.method = m) (hsize : g.locals.size = c.maxLocals) {argsL rest : List Value} (hlen : ∀ sig, parseMethodDescriptor y.desc = some sig → argsL.length = sig.parameters.length)
    (hstack : g.stack = argsL.reverse ++ rest) (hW : 2 * g.monitorRoom + (rest.map fun v => v.category).sum ≤ W9) (hdg : decode c.code g.pc = .ok (.invokestatic index, 3))
    (hpre : ∀ vm₁, s.WarmedH vm₁ → Pre ⟨T.setVm vm₁, locs, cells, slots⟩ argsL.toArray) :
    (∃ (v : Option Value) (vm₁ : Vm) (B : Pt), s.WarmedH vm₁ ∧ Stand p l e R s m args below meth c B.U B.locs B.cells B.slots ∧ Post ⟨T.setVm vm₁, locs, cells, slots⟩ argsL.toArray v B ∧
      ∀ target, Steps p.tables e below (B.U.setTop { g with pc := g.pc + 3, stack := v.toList ++ rest }) target → Steps p.tables e below (T.setTop g) target) ∨
    (∃ (q : Addr) (vm₁ : Vm) (B : Pt), s.WarmedH vm₁ ∧ Stand p l e R s m args below meth c B.U B.locs B.cells B.slots ∧ PostX ⟨T.setVm vm₁, locs, cells, slots⟩ argsL.toArray q B ∧
      Steps p.tables e below (T.setTop g) ((B.U.setTop { g with stack := rest }).pushFrame (.throwing q))) := by
  obtain ⟨mk, hnamed⟩ := Cond.code_named hcode
  obtain ⟨methM, cM, hmethM, -, -, -, -, -, -, hsigM⟩ := Cond.code_spec hnamed hcode
  have hstatic : methM.isStatic = true := Cond.static_spec hnamed hmethM hstat
  obtain ⟨kP, hkP, -⟩ := className_of_methodNamed hnamed
  have hinitP : kP.init = .initialized := Cond.initialized_spec (findClass_of_methodNamed hnamed) hkP hinit
  obtain ⟨vm₁, X₁, hstep₁⟩ := X.invokestatic hexec hown hlink hnamed hmethM hstatic hkP hinitP hy (g := g) hg (argsL := argsL) (rest := rest) (hlen _ hsigM) hstack hdg
  rcases hK m meth c ⟨T.setVm vm₁, locs, cells, slots⟩ { g with stack := rest } (.invokestatic index) mk argsL.toArray X₁ hg hsize hdg hW (X₁.named hnamed) (hpre vm₁ X₁.warmed) with ⟨v, B, X', hpost, hsteps⟩ | ⟨q, B, X', hpost, hsteps⟩
  · exact Or.inl ⟨v, vm₁, B, X₁.warmed, X', hpost, fun target h => hstep₁ _ fun acts => by rw [doInvoke_state]; exact hsteps.trans h⟩
  · exact Or.inr ⟨q, vm₁, B, X₁.warmed, X', hpost, hstep₁ _ fun acts => by rw [doInvoke_state]; exact hsteps⟩
end Calls
theorem vx_cls {s : State} {T : State} {vm₁ : Vm} {E : String} {k : ClassId} (hW : s.WarmedH vm₁) (h : (T.setVm vm₁).vm.findClass E = some k) : s.vm.findClass E = some k := by
  have h1 : vm₁.findClass E = some k := h
  rw [hW.alike.findClass] at h1
  exact h1
/-- the method's frame g, with q thrown over it -/
def vx_W (p : Program) (l : Launch) (e : Env) (R : Room) (s : State) (m : MethodId) (args : Array Value) (below : List Frame) (meth : Method) (c : Code) (H : Heap) (locs : List Loc) (cells slots : Nat) (Q : State → Prop) (g : JFrame) (q : Addr) : Prop :=
  ∀ T : State, T.heap = H → Stand p l e R s m args below meth c T locs cells slots → ∃ t, Steps p.tables e below ((T.setTop g).pushFrame (.throwing q)) t ∧ Q t
def vx_Run (p : Program) (l : Launch) (e : Env) (R : Room) (s : State) (m : MethodId) (args : Array Value) (below : List Frame) (meth : Method) (c : Code) (H : Heap) (locs : List Loc) (cells slots mc ms : Nat) (g : JFrame) (rest : List Value) (Qa : State → Outcome → State → Prop) (XC : String → State → State → Prop) (free : Addr → Prop) : Prop :=
  ∀ T : State, T.heap = H → Stand p l e R s m args below meth c T locs cells slots →
    (∃ (v : Option Value) (st₀ t T' : State) (L : List Loc), st₀.heap = H ∧ Stand p l e R s m args below meth c T' (locs ++ L) (cells + mc) (slots + ms) ∧ (∀ q ∈ L, free q.base) ∧ T'.heap = t.heap ∧ T'.vm = t.vm ∧ Qa st₀ (.returned v) t ∧
      Goes p e below T g T' { g with pc := g.pc + 3, stack := v.toList ++ rest }) ∨
    (∃ (q : Addr) (st₀ t T' : State) (L : List Loc) (E : String) (ce : Cell), st₀.heap = H ∧ Stand p l e R s m args below meth c T' (locs ++ L) (cells + mc) (slots + ms) ∧ (∀ z ∈ L, free z.base) ∧ T'.heap = t.heap ∧ T'.vm = t.vm ∧ XC E st₀ t ∧ t.heap[q]? = some ce ∧ ce.vm = .none ∧ s.vm.findClass E = some ce.cls ∧
      Steps p.tables e below (T.setTop g) ((T'.setTop { g with stack := rest }).pushFrame (.throwing q)))
def vx_X {S : Type} (px : S → Prop) (B : String → S → State → Prop) (A : Nat → Prop) : String → State → State → Prop := fun E st t => ∃ u : S, px u ∧ B E u t ∧ va_F A st t
section Runs
variable {p : Program} {l : Launch} {e : Env} {R : Room} {s : State} {m : MethodId} {args : Array Value} {below : List Frame} {meth : Method} {c : Code} {H : Heap} {locs : List Loc} {cells slots : Nat}
variable {y : MethodName} {bytes cc : ByteArray} {maxL nL mc ms n index : Nat} {ret : Option FieldType} {ws : List Cond} {rm : Room} {Pc : Array Value → State → Prop} {Qc : Array Value → State → Outcome → State → Prop} {XC : String → State → State → Prop} {free : Addr → Prop} {Ts : List Cond} {own C : String} {b : Addr} {As rest : List Value} {g : JFrame}
theorem vx_callBack (cb : CallB R s args own index y bytes maxL ret ws rm mc ms n) (hM : vx_Met l y ws rm Pc Qc XC mc ms free) (hbl : FrameBlind Pc) : vx_Back l R p e below s args y 3 8 (PreOf R mc ms Pc) (PostOf Qc mc ms free) (vx_Post XC mc ms free) := by
  obtain ⟨hrc, hrs, hfr, hlo, hws, hcw, -, hini, -⟩ := cb
  exact vx_back (bytes := bytes) (maxL := maxL) (ret := ret) hM hbl hrc hrs hfr hlo hws hcw (fun a' U hW => word_at hW (Or.inl (by first | rfl | simp [Cond.onTables, Cond.keeps, Cond.steady])) hini)
theorem vx_runV (S : CallFix p m c cc nL s args Ts own) (hM : vx_Met l y ws rm Pc Qc XC mc ms free) (cw : CallW R s args own C index y bytes maxL ret ws rm mc ms n) (hp : PreV s H C b Pc As)
    (hg : g.method = m) (hn : As.length = n) (hsize : g.locals.size = nL) (hstack : g.stack = As.reverse ++ .ref b :: rest) (hW : 2 * g.monitorRoom + (rest.map fun v => v.category).sum ≤ 8) (hdg : decode cc g.pc = .ok (.invokevirtual index, 3)) (hf : cells + mc ≤ R.cells ∧ slots + ms ≤ R.slots) :
    vx_Run p l e R s m args below meth c H locs cells slots mc ms g rest (Qc (Value.ref b :: As).toArray) XC free := by
  have hK : vx_Back l R p e below s args y 3 8 (PreOf R mc ms Pc) (PostOf Qc mc ms free) (vx_Post XC mc ms free) := vx_callBack cw.1 hM hp.1
  obtain ⟨⟨-, -, -, -, -, -, hcode, -, hy, hlen, hl⟩, hin, hse⟩ := cw
  obtain ⟨hx, hb, hml, ho, -⟩ := S
  obtain ⟨-, ⟨cellB, hcB, hoB, hclB⟩, hPc⟩ := hp
  intro T hT X
  rcases vx_callV X hx (C := C) (bytes := bytes) (maxL := maxL) (ret := ret) ho hl hin hse hcode hy hK (by rw [hT]; exact hcB) hoB hclB hg (hsize.trans hml.symm) (argsL := As) (rest := rest) (fun sig h => hn.trans (hlen sig h)) hstack hW (by rw [hb]; exact hdg)
    (fun vm₁ hW₁ => ⟨hf.1, hf.2, hPc (T.setVm vm₁) hT hW₁⟩) with ⟨v, vm₁, ⟨U', l2, c2, s2⟩, hW₁, X', ⟨g', mk, t, L, e1, e2, hq, h1, hL, h2, h3⟩, st⟩ | ⟨q, vm₁, ⟨U', l2, c2, s2⟩, hW₁, X', ⟨g', mk, t, L, E, ce, e1, e2, hq, hce, hcv, hcl, h1, hL, h2, h3⟩, st⟩
  · dsimp only [Pt.U, Pt.locs, Pt.cells, Pt.slots] at X' e1 e2 h1 h2 h3 st
    subst h1; subst h2; subst h3
    exact Or.inl ⟨v, (T.setVm vm₁).calling g' mk (Value.ref b :: As).toArray, t, U', L, hT, X', hL, e1, e2, hq, st⟩
  · dsimp only [Pt.U, Pt.locs, Pt.cells, Pt.slots] at X' e1 e2 h1 h2 h3 st hcl
    subst h1; subst h2; subst h3
    exact Or.inr ⟨q, (T.setVm vm₁).calling g' mk (Value.ref b :: As).toArray, t, U', L, E, ce, hT, X', hL, e1, e2, hq, hce, hcv, vx_cls hW₁ hcl, st⟩
theorem vx_runS (S : CallFix p m c cc nL s args Ts own) (hM : vx_Met l y ws rm Pc Qc XC mc ms free) (cw : CallB R s args own index y bytes maxL ret ws rm mc ms n ∧ (Cond.static y).before args s = true) (hp : PreS s H Pc As)
    (hg : g.method = m) (hn : As.length = n) (hsize : g.locals.size = nL) (hstack : g.stack = As.reverse ++ rest) (hW : 2 * g.monitorRoom + (rest.map fun v => v.category).sum ≤ 8) (hdg : decode cc g.pc = .ok (.invokestatic index, 3)) (hf : cells + mc ≤ R.cells ∧ slots + ms ≤ R.slots) :
    vx_Run p l e R s m args below meth c H locs cells slots mc ms g rest (Qc As.toArray) XC free := by
  have hK : vx_Back l R p e below s args y 3 8 (PreOf R mc ms Pc) (PostOf Qc mc ms free) (vx_Post XC mc ms free) := vx_callBack cw.1 hM hp.1
  obtain ⟨⟨-, -, -, -, -, -, hcode, hini, hy, hlen, hl⟩, hstt⟩ := cw
  obtain ⟨hx, hb, hml, ho, -⟩ := S
  intro T hT X
  rcases vx_callS X hx (bytes := bytes) (maxL := maxL) (ret := ret) ho hl hstt hini hcode hy hK hg (hsize.trans hml.symm) (argsL := As) (rest := rest) (fun sig h => hn.trans (hlen sig h)) hstack hW (by rw [hb]; exact hdg)
    (fun vm₁ hW₁ => ⟨hf.1, hf.2, hp.2 (T.setVm vm₁) hT hW₁⟩) with ⟨v, vm₁, ⟨U', l2, c2, s2⟩, hW₁, X', ⟨g', mk, t, L, e1, e2, hq, h1, hL, h2, h3⟩, st⟩ | ⟨q, vm₁, ⟨U', l2, c2, s2⟩, hW₁, X', ⟨g', mk, t, L, E, ce, e1, e2, hq, hce, hcv, hcl, h1, hL, h2, h3⟩, st⟩
  · dsimp only [Pt.U, Pt.locs, Pt.cells, Pt.slots] at X' e1 e2 h1 h2 h3 st
    subst h1; subst h2; subst h3
    exact Or.inl ⟨v, (T.setVm vm₁).calling g' mk As.toArray, t, U', L, hT, X', hL, e1, e2, hq, st⟩
  · dsimp only [Pt.U, Pt.locs, Pt.cells, Pt.slots] at X' e1 e2 h1 h2 h3 st hcl
    subst h1; subst h2; subst h3
    exact Or.inr ⟨q, (T.setVm vm₁).calling g' mk As.toArray, t, U', L, E, ce, hT, X', hL, e1, e2, hq, hce, hcv, vx_cls hW₁ hcl, st⟩
end Runs
section Rows
variable {p : Program} {l : Launch} {e : Env} {R : Room} {s : State} {m : MethodId} {args : Array Value} {below : List Frame} {meth : Method} {c : Code} {H : Heap} {locs : List Loc} {cells slots : Nat} {Q : State → Prop}
variable {mc ms : Nat} {free : Addr → Prop} {A0 A1 : Nat → Prop} {H0 : Heap} {a : Array Value} {pc : Nat} {ls : Array Slot} {st0 rest : List Value}
theorem vx_keep {st₀ t T' : State} {L : List Loc} (h0 : st₀.heap = H) (e1 : T'.heap = t.heap) (hS : va_S A0 H0 H locs) (hA : ∀ q, q < H.size → A1 q → A0 q) (hf : ∀ q, free q → A0 q) (hL : ∀ q ∈ L, free q.base) (hF : va_F A1 st₀ t) :
    H.size ≤ T'.heap.size ∧ (∀ q : Nat, q < H.size → ¬ A1 q → T'.heap[q]? = H[q]?) ∧ va_S A0 H0 T'.heap (locs ++ L) := by
  obtain ⟨hz, hk⟩ := hF
  rw [h0] at hz hk
  exact ⟨by rw [e1]; exact hz, fun q h1 h2 => by rw [e1]; exact hk q h1 h2,
    ⟨Nat.le_trans hS.1 (by rw [e1]; exact hz), fun q h1 h2 => by rw [e1, hk q (Nat.lt_of_lt_of_le h1 hS.1) (fun z => h2 (hA q (Nat.lt_of_lt_of_le h1 hS.1) z))]; exact hS.2.1 q h1 h2, fun q hq => by
      rcases List.mem_append.mp hq with h | h
      · exact hS.2.2 q h
      · exact hf _ (hL q h)⟩⟩
theorem vx_calli {S SX : Type} {post : Int32 → S → Prop} {px : SX → Prop} {B : S → State → Prop} {BX : String → SX → State → Prop} {AX : Nat → Prop} (hr : vx_Run p l e R s m args below meth c H locs cells slots mc ms (F0 m pc ls st0) rest (va_Qi post B A1 a) (vx_X px BX AX) free) (hS : va_S A0 H0 H locs) (hA : ∀ q, q < H.size → A1 q → A0 q) (hf : ∀ q, free q → A0 q) (hAX : ∀ q, q < H.size → AX q → A0 q)
    (kx : ∀ (E : String) (ce : Cell) (q9 : Addr) (u : SX) (t : State) (H1 : Heap) (locs1 : List Loc), t.heap = H1 → s.vm.Alike t.vm → px u → BX E u t → H.size ≤ H1.size → (∀ q : Nat, q < H.size → ¬ AX q → H1[q]? = H[q]?) → va_S A0 H0 H1 locs1 → H1[q9]? = some ce → ce.vm = .none → s.vm.findClass E = some ce.cls → vx_W p l e R s m args below meth c H1 locs1 (cells + mc) (slots + ms) Q (F0 m pc ls rest) q9)
    (kk : ∀ (r : Int32) (u : S) (t : State) (H1 : Heap) (locs1 : List Loc), t.heap = H1 → s.vm.Alike t.vm → post r u → B u t → H.size ≤ H1.size → (∀ q : Nat, q < H.size → ¬ A1 q → H1[q]? = H[q]?) → va_S A0 H0 H1 locs1 → W p l e R s m args below meth c H1 locs1 (cells + mc) (slots + ms) Q (F0 m (pc + 3) ls (.int r :: rest))) : W p l e R s m args below meth c H locs cells slots Q (F0 m pc ls st0) := by
  intro T hT X
  rcases hr T hT X with ⟨v, st₀, t, T', L, h0, X', hL, e1, e2, ⟨⟨r, u, hv, hp, hb⟩, hF⟩, st⟩ | ⟨q, st₀, t, T', L, E, ce, h0, X', hL, e1, e2, ⟨u, hp, hb, hF⟩, hce, hcv, hcl, st⟩
  · cases hv
    obtain ⟨k1, k2, k3⟩ := vx_keep h0 e1 hS hA hf hL hF
    obtain ⟨t2, a1, b1⟩ := kk r u t T'.heap (locs ++ L) e1.symm (by rw [← e2]; exact X'.warmed.alike) hp hb k1 k2 k3 T' rfl X'
    exact ⟨t2, st t2 a1, b1⟩
  · obtain ⟨k1, k2, k3⟩ := vx_keep h0 e1 hS hAX hf hL hF
    obtain ⟨t2, a1, b1⟩ := kx E ce q u t T'.heap (locs ++ L) e1.symm (by rw [← e2]; exact X'.warmed.alike) hp hb k1 k2 k3 (by rw [e1]; exact hce) hcv hcl T' rfl X'
    exact ⟨t2, st.trans a1, b1⟩
theorem vx_calll {S SX : Type} {post : Int64 → S → Prop} {px : SX → Prop} {B : S → State → Prop} {BX : String → SX → State → Prop} {AX : Nat → Prop} (hr : vx_Run p l e R s m args below meth c H locs cells slots mc ms (F0 m pc ls st0) rest (va_Ql post B A1 a) (vx_X px BX AX) free) (hS : va_S A0 H0 H locs) (hA : ∀ q, q < H.size → A1 q → A0 q) (hf : ∀ q, free q → A0 q) (hAX : ∀ q, q < H.size → AX q → A0 q)
    (kx : ∀ (E : String) (ce : Cell) (q9 : Addr) (u : SX) (t : State) (H1 : Heap) (locs1 : List Loc), t.heap = H1 → s.vm.Alike t.vm → px u → BX E u t → H.size ≤ H1.size → (∀ q : Nat, q < H.size → ¬ AX q → H1[q]? = H[q]?) → va_S A0 H0 H1 locs1 → H1[q9]? = some ce → ce.vm = .none → s.vm.findClass E = some ce.cls → vx_W p l e R s m args below meth c H1 locs1 (cells + mc) (slots + ms) Q (F0 m pc ls rest) q9)
    (kk : ∀ (r : Int64) (u : S) (t : State) (H1 : Heap) (locs1 : List Loc), t.heap = H1 → s.vm.Alike t.vm → post r u → B u t → H.size ≤ H1.size → (∀ q : Nat, q < H.size → ¬ A1 q → H1[q]? = H[q]?) → va_S A0 H0 H1 locs1 → W p l e R s m args below meth c H1 locs1 (cells + mc) (slots + ms) Q (F0 m (pc + 3) ls (.long r :: rest))) : W p l e R s m args below meth c H locs cells slots Q (F0 m pc ls st0) := by
  intro T hT X
  rcases hr T hT X with ⟨v, st₀, t, T', L, h0, X', hL, e1, e2, ⟨⟨r, u, hv, hp, hb⟩, hF⟩, st⟩ | ⟨q, st₀, t, T', L, E, ce, h0, X', hL, e1, e2, ⟨u, hp, hb, hF⟩, hce, hcv, hcl, st⟩
  · cases hv
    obtain ⟨k1, k2, k3⟩ := vx_keep h0 e1 hS hA hf hL hF
    obtain ⟨t2, a1, b1⟩ := kk r u t T'.heap (locs ++ L) e1.symm (by rw [← e2]; exact X'.warmed.alike) hp hb k1 k2 k3 T' rfl X'
    exact ⟨t2, st t2 a1, b1⟩
  · obtain ⟨k1, k2, k3⟩ := vx_keep h0 e1 hS hAX hf hL hF
    obtain ⟨t2, a1, b1⟩ := kx E ce q u t T'.heap (locs ++ L) e1.symm (by rw [← e2]; exact X'.warmed.alike) hp hb k1 k2 k3 (by rw [e1]; exact hce) hcv hcl T' rfl X'
    exact ⟨t2, st.trans a1, b1⟩
theorem vx_callf {S SX : Type} {post : UInt32 → S → Prop} {px : SX → Prop} {B : S → State → Prop} {BX : String → SX → State → Prop} {AX : Nat → Prop} (hr : vx_Run p l e R s m args below meth c H locs cells slots mc ms (F0 m pc ls st0) rest (va_Qf post B A1 a) (vx_X px BX AX) free) (hS : va_S A0 H0 H locs) (hA : ∀ q, q < H.size → A1 q → A0 q) (hf : ∀ q, free q → A0 q) (hAX : ∀ q, q < H.size → AX q → A0 q)
    (kx : ∀ (E : String) (ce : Cell) (q9 : Addr) (u : SX) (t : State) (H1 : Heap) (locs1 : List Loc), t.heap = H1 → s.vm.Alike t.vm → px u → BX E u t → H.size ≤ H1.size → (∀ q : Nat, q < H.size → ¬ AX q → H1[q]? = H[q]?) → va_S A0 H0 H1 locs1 → H1[q9]? = some ce → ce.vm = .none → s.vm.findClass E = some ce.cls → vx_W p l e R s m args below meth c H1 locs1 (cells + mc) (slots + ms) Q (F0 m pc ls rest) q9)
    (kk : ∀ (r : UInt32) (u : S) (t : State) (H1 : Heap) (locs1 : List Loc), t.heap = H1 → s.vm.Alike t.vm → post r u → B u t → H.size ≤ H1.size → (∀ q : Nat, q < H.size → ¬ A1 q → H1[q]? = H[q]?) → va_S A0 H0 H1 locs1 → W p l e R s m args below meth c H1 locs1 (cells + mc) (slots + ms) Q (F0 m (pc + 3) ls (.float r :: rest))) : W p l e R s m args below meth c H locs cells slots Q (F0 m pc ls st0) := by
  intro T hT X
  rcases hr T hT X with ⟨v, st₀, t, T', L, h0, X', hL, e1, e2, ⟨⟨r, u, hv, hp, hb⟩, hF⟩, st⟩ | ⟨q, st₀, t, T', L, E, ce, h0, X', hL, e1, e2, ⟨u, hp, hb, hF⟩, hce, hcv, hcl, st⟩
  · cases hv
    obtain ⟨k1, k2, k3⟩ := vx_keep h0 e1 hS hA hf hL hF
    obtain ⟨t2, a1, b1⟩ := kk r u t T'.heap (locs ++ L) e1.symm (by rw [← e2]; exact X'.warmed.alike) hp hb k1 k2 k3 T' rfl X'
    exact ⟨t2, st t2 a1, b1⟩
  · obtain ⟨k1, k2, k3⟩ := vx_keep h0 e1 hS hAX hf hL hF
    obtain ⟨t2, a1, b1⟩ := kx E ce q u t T'.heap (locs ++ L) e1.symm (by rw [← e2]; exact X'.warmed.alike) hp hb k1 k2 k3 (by rw [e1]; exact hce) hcv hcl T' rfl X'
    exact ⟨t2, st.trans a1, b1⟩
theorem vx_calld {S SX : Type} {post : UInt64 → S → Prop} {px : SX → Prop} {B : S → State → Prop} {BX : String → SX → State → Prop} {AX : Nat → Prop} (hr : vx_Run p l e R s m args below meth c H locs cells slots mc ms (F0 m pc ls st0) rest (va_Qd post B A1 a) (vx_X px BX AX) free) (hS : va_S A0 H0 H locs) (hA : ∀ q, q < H.size → A1 q → A0 q) (hf : ∀ q, free q → A0 q) (hAX : ∀ q, q < H.size → AX q → A0 q)
    (kx : ∀ (E : String) (ce : Cell) (q9 : Addr) (u : SX) (t : State) (H1 : Heap) (locs1 : List Loc), t.heap = H1 → s.vm.Alike t.vm → px u → BX E u t → H.size ≤ H1.size → (∀ q : Nat, q < H.size → ¬ AX q → H1[q]? = H[q]?) → va_S A0 H0 H1 locs1 → H1[q9]? = some ce → ce.vm = .none → s.vm.findClass E = some ce.cls → vx_W p l e R s m args below meth c H1 locs1 (cells + mc) (slots + ms) Q (F0 m pc ls rest) q9)
    (kk : ∀ (r : UInt64) (u : S) (t : State) (H1 : Heap) (locs1 : List Loc), t.heap = H1 → s.vm.Alike t.vm → post r u → B u t → H.size ≤ H1.size → (∀ q : Nat, q < H.size → ¬ A1 q → H1[q]? = H[q]?) → va_S A0 H0 H1 locs1 → W p l e R s m args below meth c H1 locs1 (cells + mc) (slots + ms) Q (F0 m (pc + 3) ls (.double r :: rest))) : W p l e R s m args below meth c H locs cells slots Q (F0 m pc ls st0) := by
  intro T hT X
  rcases hr T hT X with ⟨v, st₀, t, T', L, h0, X', hL, e1, e2, ⟨⟨r, u, hv, hp, hb⟩, hF⟩, st⟩ | ⟨q, st₀, t, T', L, E, ce, h0, X', hL, e1, e2, ⟨u, hp, hb, hF⟩, hce, hcv, hcl, st⟩
  · cases hv
    obtain ⟨k1, k2, k3⟩ := vx_keep h0 e1 hS hA hf hL hF
    obtain ⟨t2, a1, b1⟩ := kk r u t T'.heap (locs ++ L) e1.symm (by rw [← e2]; exact X'.warmed.alike) hp hb k1 k2 k3 T' rfl X'
    exact ⟨t2, st t2 a1, b1⟩
  · obtain ⟨k1, k2, k3⟩ := vx_keep h0 e1 hS hAX hf hL hF
    obtain ⟨t2, a1, b1⟩ := kx E ce q u t T'.heap (locs ++ L) e1.symm (by rw [← e2]; exact X'.warmed.alike) hp hb k1 k2 k3 (by rw [e1]; exact hce) hcv hcl T' rfl X'
    exact ⟨t2, st.trans a1, b1⟩
theorem vx_callv {S SX : Type} {post : S → Prop} {px : SX → Prop} {B : S → State → Prop} {BX : String → SX → State → Prop} {AX : Nat → Prop} (hr : vx_Run p l e R s m args below meth c H locs cells slots mc ms (F0 m pc ls st0) rest (va_Qv post B A1 a) (vx_X px BX AX) free) (hS : va_S A0 H0 H locs) (hA : ∀ q, q < H.size → A1 q → A0 q) (hf : ∀ q, free q → A0 q) (hAX : ∀ q, q < H.size → AX q → A0 q)
    (kx : ∀ (E : String) (ce : Cell) (q9 : Addr) (u : SX) (t : State) (H1 : Heap) (locs1 : List Loc), t.heap = H1 → s.vm.Alike t.vm → px u → BX E u t → H.size ≤ H1.size → (∀ q : Nat, q < H.size → ¬ AX q → H1[q]? = H[q]?) → va_S A0 H0 H1 locs1 → H1[q9]? = some ce → ce.vm = .none → s.vm.findClass E = some ce.cls → vx_W p l e R s m args below meth c H1 locs1 (cells + mc) (slots + ms) Q (F0 m pc ls rest) q9)
    (kk : ∀ (u : S) (t : State) (H1 : Heap) (locs1 : List Loc), t.heap = H1 → s.vm.Alike t.vm → post u → B u t → H.size ≤ H1.size → (∀ q : Nat, q < H.size → ¬ A1 q → H1[q]? = H[q]?) → va_S A0 H0 H1 locs1 → W p l e R s m args below meth c H1 locs1 (cells + mc) (slots + ms) Q (F0 m (pc + 3) ls (rest))) : W p l e R s m args below meth c H locs cells slots Q (F0 m pc ls st0) := by
  intro T hT X
  rcases hr T hT X with ⟨v, st₀, t, T', L, h0, X', hL, e1, e2, ⟨⟨u, hv, hp, hb⟩, hF⟩, st⟩ | ⟨q, st₀, t, T', L, E, ce, h0, X', hL, e1, e2, ⟨u, hp, hb, hF⟩, hce, hcv, hcl, st⟩
  · cases hv
    obtain ⟨k1, k2, k3⟩ := vx_keep h0 e1 hS hA hf hL hF
    obtain ⟨t2, a1, b1⟩ := kk u t T'.heap (locs ++ L) e1.symm (by rw [← e2]; exact X'.warmed.alike) hp hb k1 k2 k3 T' rfl X'
    exact ⟨t2, st t2 a1, b1⟩
  · obtain ⟨k1, k2, k3⟩ := vx_keep h0 e1 hS hAX hf hL hF
    obtain ⟨t2, a1, b1⟩ := kx E ce q u t T'.heap (locs ++ L) e1.symm (by rw [← e2]; exact X'.warmed.alike) hp hb k1 k2 k3 (by rw [e1]; exact hce) hcv hcl T' rfl X'
    exact ⟨t2, st.trans a1, b1⟩
/-- caught by the row x of this method's table; the rows ahead don't take it -/
theorem vx_catch {own name : String} {E : String} {ce : Cell} {q : Addr} (hown : s.vm.findClass own = some m.cls) (pre : List ExceptionTableEntry) (x : ExceptionTableEntry) (suf : List ExceptionTableEntry) (hsplit : c.exceptionTable.toList = pre ++ x :: suf)
    (hpass : ∀ z ∈ pre, covers z pc = false ∨ (z.catchType ≠ 0 ∧ ∃ nm : String, (Cond.classLink own z.catchType nm).before args s = true ∧ va_Nc E nm s)) (hx : covers x pc = true) (h0 : x.catchType ≠ 0)
    (hlink : (Cond.classLink own x.catchType name).before args s = true) (hcast : (Cond.castable E name).before args s = true) (hcell : H[q]? = some ce) (hv : ce.vm = .none) (hcl : s.vm.findClass E = some ce.cls)
    (kk : W p l e R s m args below meth c H locs cells slots Q (F0 m x.handlerPc ls [.ref q])) : vx_W p l e R s m args below meth c H locs cells slots Q (F0 m pc ls rest) q := by
  intro T hT X
  have hpl : e.platform.magicAccessors = ({} : Platform).magicAccessors := by rw [X.admits.platform]
  obtain ⟨c3, c4, hc3, hc4, hasg⟩ := Cond.castable_spec hcast
  cases Option.some.inj (hc3.symm.trans hcl)
  obtain ⟨c5, hc5, hcl5⟩ := Cond.classLink_spec hown hlink e.platform hpl
  cases Option.some.inj (hc4.symm.trans hc5)
  obtain ⟨vm', X', st⟩ := X.thenCaughtThrough q (g := F0 m pc ls rest) rfl (Steps.refl _) (by rw [hT]; exact hcell) (by rw [hv]; rfl) (by obtain ⟨k9, h9, -⟩ := Vm.findClass_spec hcl; exact ⟨k9, h9⟩) pre x suf hsplit
    (fun z hz => by
      rcases hpass z hz with h | ⟨hz0, nm, hl1, hn1⟩
      · exact Or.inl h
      · obtain ⟨c6, hc6, hcl6⟩ := Cond.classLink_spec hown hl1 e.platform hpl
        obtain ⟨a8, b8, h1, h2, h3⟩ := hn1
        cases Option.some.inj (h1.symm.trans hcl)
        cases Option.some.inj (h2.symm.trans hc6)
        exact Or.inr ⟨hz0, _, hcl6, h3⟩) hx (Or.inr ⟨h0, c4, hcl5, hasg⟩)
  obtain ⟨t, a1, b1⟩ := kk (T.setVm vm') hT X'
  exact ⟨t, st.trans a1, b1⟩
end Rows
section Ends
variable {p : Program} {l : Launch} {e : Env} {R : Room} {s : State} {m : MethodId} {args : Array Value} {below : List Frame} {meth : Method} {c : Code} {H : Heap} {locs : List Loc} {cells slots : Nat} {Q : State → Prop}
variable {mc ms : Nat} {free : Addr → Prop} {A0 A1 : Nat → Prop} {H0 : Heap} {a : Array Value} {ls : Array Slot} {st0 rest : List Value}
variable {Qc : Array Value → State → Outcome → State → Prop} {XC : String → State → State → Prop}
/-- what a body that may throw owes at its end -/
def vx_MQ (below : List Frame) (Qc : Array Value → State → Outcome → State → Prop) (XC : String → State → State → Prop) (a : Array Value) (s : State) (mc ms : Nat) (free : Addr → Prop) : State → Prop := fun t =>
  ∃ o, t.status = .running ∧ Ended t below o ∧ vx_Q Qc XC mc ms free a s o t
theorem vx_ret {g : JFrame} {mc ms : Nat} (k : W p l e R s m args below meth c H locs cells slots (MQ below Qc args s mc ms free) g) : W p l e R s m args below meth c H locs cells slots (vx_MQ below Qc XC args s mc ms free) g := by
  intro T hT X
  obtain ⟨t, a1, o, b1, b2, b3, b4⟩ := k T hT X
  exact ⟨t, a1, o, b1, b2, Or.inl ⟨b3, b4⟩⟩
/-- not caught here: it goes on to the caller -/
theorem vx_widen {g : JFrame} {q : Addr} {k n : Nat} (h1 : cells ≤ k) (h2 : slots ≤ n) (kk : vx_W p l e R s m args below meth c H locs k n Q g q) : vx_W p l e R s m args below meth c H locs cells slots Q g q := fun T hT X => kk T hT (stand_widen X h1 h2)
theorem vx_out {pc : Nat} {E : String} {ce : Cell} {q : Addr} {mc ms : Nat} (hout : ∀ x ∈ c.exceptionTable.toList, covers x pc = false) (hlocks : meth.locks = false) (hcell : H[q]? = some ce) (hv : ce.vm = .none) (hcl : s.vm.findClass E = some ce.cls)
    (hx : ∀ t : State, t.heap = H → s.vm.Alike t.vm → XC E s t) (hf : ∀ z ∈ locs, free z.base) (hc : cells ≤ mc) (hs : slots ≤ ms) :
    vx_W p l e R s m args below meth c H locs cells slots (vx_MQ below Qc XC args s mc ms free) (F0 m pc ls rest) q := by
  intro T hT X
  obtain ⟨st1, hrun, hend, hW, hsm⟩ := X.leaveThrown q (g := F0 m pc ls rest) rfl rfl rfl hout hlocks
  have hcell9 : (T.setFrames (.throwing q :: below)).heap[q]? = some ce := by
    show T.heap[q]? = some ce
    rw [hT]; exact hcell
  exact ⟨_, st1, .threw q, hrun, hend, Or.inr ⟨q, rfl, E, ce, locs, hx _ hT hW.alike, hcell9, hv, hcl, hW, hsm.mono hc hs, hf⟩⟩
theorem vx_frame {U : State} {k n : Nat} (h : s.sameButNew ({ U with vm := s.vm } : State) locs k n) : s.heap.size ≤ U.heap.size ∧ ∀ q : Nat, q < s.heap.size → (∀ z ∈ locs, z.base ≠ q) → U.heap[q]? = s.heap[q]? := by
  obtain ⟨-, h2, -, -, -, h6⟩ := h
  refine ⟨h2, fun q hq hz => ?_⟩
  obtain ⟨c9, e1, e2, e3, e4⟩ := h6 q _ (Array.getElem?_eq_getElem hq)
  have hs : c9.slots = (s.heap[q]).slots := Array.ext_getElem? fun i => e4 i fun hm => hz _ hm rfl
  have h9 : c9 = s.heap[q] := by
    rw [hs] at e2
    exact e2
  have e5 : U.heap[q]? = some c9 := e1
  rw [e5, h9, Array.getElem?_eq_getElem hq]
/-- the words of a throw but the four that speak of the heap -/
def vx_no (w : Cond) : Bool := decide (w ≠ .isRef (.static Bundle.tN "UNASSIGNED_STACK" Bundle.steD)) && decide (w ≠ .isRef (.static Bundle.tN "SUPPRESSED_SENTINEL" Bundle.listD)) && decide (w ≠ .laysStatic Bundle.tN "UNASSIGNED_STACK" Bundle.steD) && decide (w ≠ .laysStatic Bundle.tN "SUPPRESSED_SENTINEL" Bundle.listD)
def vx_at0 (own : String) (ic : Nat) (X : String) (names : List String) : List Cond := (Bundle.ownAtoms0 own ic X names).filter vx_no
def vx_atS (own : String) (ic : Nat) (X : String) (names : List String) : List Cond := (Bundle.ownAtoms own ic X names).filter vx_no
/-- a word that the tables alone decide, or a good one -/
def vx_ot (w : Cond) : Bool := w.onTables || goodWord w
theorem vx_ot_at {args a' : Array Value} {s U : State} {w : Cond} (hW : s.WarmedH U.vm) (hvm : s.vm = U.vm) (hg : vx_ot w = true) (h : w.before args s = true) : w.before a' U = true := by
  simp only [vx_ot, Bool.or_eq_true] at hg
  rcases hg with hg | hg
  · exact va_tabs hg hvm h
  · exact word_at hW (good_of_word hg) h
/-- a list's words: the good ones out of the method's own list, the others by premises of their own -/
theorem vx_hat {args : Array Value} {s : State} {L B : List Cond} (h1 : ∀ w ∈ L.filter goodWord, w.before args s = true) (h2 : ∀ w ∈ L.filter (fun w => !goodWord w), w ∈ B) (h3 : ∀ w ∈ B, w.before args s = true) : ∀ w ∈ L, w.before args s = true := by
  intro w hw
  by_cases g : goodWord w = true
  · exact h1 w (List.mem_filter.mpr ⟨hw, g⟩)
  · refine h3 w (h2 w (List.mem_filter.mpr ⟨hw, ?_⟩))
    show (!goodWord w) = true
    cases hgw : goodWord w
    · rfl
    · exact absurd hgw g
theorem vx_c {args : Array Value} {s : State} {w : Cond} {B : List Cond} (h : w.before args s = true) (t : ∀ w ∈ B, w.before args s = true) : ∀ w' ∈ w :: B, w'.before args s = true := fun w' h' => (List.mem_cons.mp h').elim (fun e => by rw [e]; exact h) (t w')
theorem vx_n {args : Array Value} {s : State} : ∀ w ∈ ([] : List Cond), w.before args s = true := fun _ h => nomatch h
theorem vx_own {args : Array Value} {s : State} {L : List Cond} (h1 : ∀ w ∈ L.filter vx_no, w.before args s = true)
    (hU : (Cond.isRef (.static Bundle.tN "UNASSIGNED_STACK" Bundle.steD)).before args s = true) (hN : (Cond.isRef (.static Bundle.tN "SUPPRESSED_SENTINEL" Bundle.listD)).before args s = true)
    (lU : (Cond.laysStatic Bundle.tN "UNASSIGNED_STACK" Bundle.steD).before args s = true) (lN : (Cond.laysStatic Bundle.tN "SUPPRESSED_SENTINEL" Bundle.listD).before args s = true) : ∀ w ∈ L, w.before args s = true := by
  intro w hw
  by_cases e1 : w = .isRef (.static Bundle.tN "UNASSIGNED_STACK" Bundle.steD)
  · rw [e1]; exact hU
  · by_cases e2 : w = .isRef (.static Bundle.tN "SUPPRESSED_SENTINEL" Bundle.listD)
    · rw [e2]; exact hN
    · by_cases e3 : w = .laysStatic Bundle.tN "UNASSIGNED_STACK" Bundle.steD
      · rw [e3]; exact lU
      · by_cases e4 : w = .laysStatic Bundle.tN "SUPPRESSED_SENTINEL" Bundle.listD
        · rw [e4]; exact lN
        · exact h1 w (List.mem_filter.mpr ⟨hw, by unfold vx_no; rw [decide_eq_true e1, decide_eq_true e2, decide_eq_true e3, decide_eq_true e4]; rfl⟩)
/-- where a static field lies, its class's statics cell in H -/
def vx_L (C n d : String) (A : Nat → Prop) (U : State) (H : Heap) : Prop := ∃ (c : ClassId) (k : Class) (i : Nat) (f : Field) (a : Nat) (cell : Cell), U.vm.findClass C = some c ∧ U.fieldFound? C n d = some (c, k, i, f) ∧ f.isStatic = true ∧ k.statics = some a ∧ H[a]? = some cell ∧ cell.vm.isStatics = true ∧ cell.cls = c ∧ f.slot < cell.slots.size ∧ k.staticTypes[f.slot]? = some f.type ∧ ¬ A a
theorem vx_L.moved {C n d : String} {A : Nat → Prop} {u U : State} {H : Heap} (hvm : u.vm.Alike U.vm) (h : vx_L C n d A u H) : vx_L C n d A U H := by
  obtain ⟨c, k, i, f, a, cell, h1, h2, h3, h4, h5, h6, h7, h8, h9, h10⟩ := h
  obtain ⟨k', hi', he⟩ := State.fieldFound?_setVm hvm h2
  exact ⟨c, k', i, f, a, cell, by rw [hvm.findClass]; exact h1, hi', h3, by rw [he]; exact h4, h5, h6, h7, h8, by rw [he]; exact h9, h10⟩
theorem vx_L.kept {C n d : String} {A : Nat → Prop} {U : State} {H H1 : Heap} (h : vx_L C n d A U H) (hq : ∀ a : Nat, a < H.size → ¬ A a → H1[a]? = H[a]?) : vx_L C n d A U H1 := by
  obtain ⟨c, k, i, f, a, cell, h1, h2, h3, h4, h5, h6, h7, h8, h9, h10⟩ := h
  exact ⟨c, k, i, f, a, cell, h1, h2, h3, h4, by rw [hq a (Array.getElem?_eq_some_iff.mp h5).1 h10]; exact h5, h6, h7, h8, h9, h10⟩
theorem vx_L.narrow {C n d : String} {A B : Nat → Prop} {U : State} {H : Heap} (h : vx_L C n d A U H) (hAB : ∀ q, B q → A q) : vx_L C n d B U H := by
  obtain ⟨c, k, i, f, a, cell, h1, h2, h3, h4, h5, h6, h7, h8, h9, h10⟩ := h
  exact ⟨c, k, i, f, a, cell, h1, h2, h3, h4, h5, h6, h7, h8, h9, fun z => h10 (hAB _ z)⟩
theorem vx_L.word {C n d : String} {A : Nat → Prop} {s : State} {args : Array Value} (h : vx_L C n d A s s.heap) : (Cond.laysStatic C n d).before args s = true := by
  obtain ⟨c, k, i, f, a, cell, h1, h2, h3, h4, h5, h6, h7, h8, h9, -⟩ := h
  show (Cond.laysStatic C n d).holds args s none s [] = true
  exact Cond.laysStatic_of h1 h2 h3 h4 h5 h6 h7 h8 h9
/-- .. and what it holds: null or some reference -/
def vx_Zq (C n d : String) (A : Nat → Prop) (U : State) (H : Heap) : Prop := va_Zq C n d A U H ∧ vx_L C n d A U H
theorem vx_Zq.moved {C n d : String} {A : Nat → Prop} {u U : State} {H : Heap} (hvm : u.vm.Alike U.vm) (h : vx_Zq C n d A u H) : vx_Zq C n d A U H := ⟨va_Zq.moved hvm h.1, vx_L.moved hvm h.2⟩
theorem vx_Zq.kept {C n d : String} {A : Nat → Prop} {U : State} {H H1 : Heap} (h : vx_Zq C n d A U H) (hq : ∀ a : Nat, a < H.size → ¬ A a → H1[a]? = H[a]?) : vx_Zq C n d A U H1 := ⟨va_Zq.kept h.1 hq, vx_L.kept h.2 hq⟩
theorem vx_Zq.narrow {C n d : String} {A B : Nat → Prop} {U : State} {H : Heap} (h : vx_Zq C n d A U H) (hAB : ∀ q, B q → A q) : vx_Zq C n d B U H := ⟨va_Zq.narrow h.1 hAB, vx_L.narrow h.2 hAB⟩
theorem vx_Zqof {args : Array Value} {s : State} {C n d : String} {A : Nat → Prop} (hl : (Cond.laysStatic C n d).before args s = true) (hini : (Cond.initialized C).before args s = true) (h : (Cond.isRef (.static C n d)).before args s = true) (hA : ∀ a : Nat, a < s.heap.size → ¬ A a) : vx_Zq C n d A s s.heap := by
  refine ⟨va_Zqof hl hini h hA, ?_⟩
  obtain ⟨c, k, i, f, a, cell, h1, h2, h3, h4, h5, h6, h7, h8, h9⟩ := Cond.laysStatic_spec hl
  exact ⟨c, k, i, f, a, cell, h1, h2, h3, h4, h5, h6, h7, h8, h9, hA a (Array.getElem?_eq_some_iff.mp h5).1⟩
theorem vx_isRef {C n d : String} {v : Value} {A : Nat → Prop} {s : State} {args : Array Value} (h : va_Z C n d v A s s.heap) (hv : v.isRef = true) : (Cond.isRef (.static C n d)).before args s = true := by
  obtain ⟨cf, kf, fi, f, a, cell, h1, h2, h3, h4, h5, h6, h7, -⟩ := h
  have he : (Term.static C n d).eval args s none [] s = some v := by
    simp [Term.eval, State.fieldNamed?, h1, h2, h4, h5, h6, h7]
  simp only [Cond.before, Cond.holds, Cond.value, he]
  cases v <;> simp_all [Value.isRef]
theorem vx_isRefq {C n d : String} {A : Nat → Prop} {s : State} {args : Array Value} (h : va_Zq C n d A s s.heap) : (Cond.isRef (.static C n d)).before args s = true := by
  rcases h with h | ⟨t, h⟩
  · exact vx_isRef h rfl
  · exact vx_isRef h rfl
/-- the same frame, seen from here: as if the method were called anew in this heap -/
theorem vx_rebase {T : State} (X : Stand p l e R s m args below meth c T locs cells slots) {R' : Room} (hf : R'.frames ≤ R.frames) (hl : R'.locals ≤ R.locals) (hc : cells + R'.cells ≤ R.cells) (hs : slots + R'.slots ≤ R.slots) :
    Stand p l e R' ((T.setVm s.vm).setFrames (.invoking m args :: below)) m args below meth c T [] 0 0 := by
  have htop : (T.setVm s.vm).topJava?.isSome := X.here.top
  have hF : ((T.setVm s.vm).setFrames (.invoking m args :: below)).frames = .invoking m args :: below := State.frames_setFrames _ (State.cur_lt_of_top htop)
  obtain ⟨g₀, hg0⟩ := Option.isSome_iff_exists.mp htop
  obtain ⟨r, hr⟩ := State.topJava?_eq_some.mp hg0
  have hl9 : e.platform.stackLimits (T.setVm s.vm).me = e.platform.stackLimits s.me := X.limits
  have hb9 : (T.setVm s.vm).me.stackBytes = s.me.stackBytes := X.bytes
  refine ⟨X.admits, X.cas, X.clock, hF, ?_, X.hears, X.method, X.code, X.here, X.tail, X.warmed, ?_, ?_, ?_⟩
  · have h := X.room
    have hU : ((T.setVm s.vm).setFrames (.invoking m args :: below)).localsInUse = s.localsInUse := by
      rw [State.localsInUse_invoking hF (meth := meth) (c := c) X.method X.code, State.localsInUse_invoking X.frames X.method X.code]
    simp only [State.hasRoom, Bool.and_eq_true, decide_eq_true_eq] at h ⊢
    obtain ⟨⟨⟨⟨h1, h2, h3, h4, h5, h6⟩, h7⟩, h8⟩, h9⟩ := h
    rw [X.frames, List.length_cons] at h2 h3
    have q1 := X.heapSize
    have q2 := X.used
    simp only [hF, hU, List.length_cons, State.stackLimits_setFrames, State.stackBytes_setFrames, hl9, hb9]
    refine ⟨⟨⟨⟨by omega, by omega, by omega, by omega, by omega, h6⟩, ?_⟩, ?_⟩, X.book⟩
    · show T.heap.size + R'.cells ≤ e.platform.maxCells
      omega
    · show T.slotsUsed + R'.slots ≤ e.platform.maxSlots
      omega
  · rw [State.stackLimits_setFrames]; rfl
  · rw [State.stackBytes_setFrames]; rfl
  · refine ⟨?_, Nat.le_refl _, Nat.le_refl _, ?_, ?_, fun a c9 h9 => ⟨c9, h9, rfl, rfl, fun _ _ => rfl⟩⟩
    · obtain ⟨t, ht, -⟩ := State.frames_cons hr
      show T.setVm s.vm = { ((T.setVm s.vm).setFrames (.invoking m args :: below)).setFrames (T.setVm s.vm).frames with heap := T.heap, slotsUsed := T.slotsUsed }
      rw [State.setFrames_setFrames, State.setFrames_self ht]
      rfl
    · show T.slotsUsed = T.slotsUsed + ((T.heap.toList.drop T.heap.size).map (·.slots.size)).sum
      rw [List.drop_eq_nil_of_le (Nat.le_of_eq Array.length_toList)]
      rfl
    · show ((T.heap.toList.drop T.heap.size).map (·.slots.size)).sum ≤ 0
      rw [List.drop_eq_nil_of_le (Nat.le_of_eq Array.length_toList)]
      exact Nat.le_refl _
/-- 'throw new E()': new; dup; invokespecial; athrow -/
theorem vx_throw0 {cc : ByteArray} {pc : Nat} (hexec : p.tables.exec = Jvm.exec) (hb : c.code = cc) (hl : l.stackTraces = false) {own cls : String} {names : List String} {ik ic mc ms : Nat} {A : Nat → Prop}
    (hown : s.vm.findClass own = some m.cls) (hcls : Bundle.fit cls = true) (hnames : ∀ n ∈ names, Bundle.fit n = true)
    (hk : (Cond.classLink own ik cls).before args s = true) (hini : (Cond.initialized cls).before args s = true) (hat : ∀ w ∈ vx_at0 own ic cls names, w.before args s = true)
    (hgood : ∀ w ∈ Cond.classLink own ik cls :: Cond.initialized cls :: vx_at0 own ic cls names, vx_ot w = true)
    (hU : vx_Zq Bundle.tN "UNASSIGNED_STACK" Bundle.steD A s s.heap) (hN : vx_Zq Bundle.tN "SUPPRESSED_SENTINEL" Bundle.listD A s s.heap) (hS : va_S A s.heap H locs) (hsize : ls.size = c.maxLocals)
    (d0 : decode cc pc = .ok (.new ik, 3)) (d3 : decode cc (pc + 3) = .ok (.dup, 1)) (d4 : decode cc (pc + 4) = .ok (.invokespecial ic, 3)) (d7 : decode cc (pc + 7) = .ok (.athrow, 1))
    (hout : ∀ x ∈ c.exceptionTable.toList, covers x (pc + 7) = false)
    (hRframes : names.length + 3 < R.frames) (hRlocals : (rest.map fun v => v.category).sum + (13 * (names.length + 1) + 42) ≤ R.locals) (hRcells : cells + 1 ≤ R.cells) (hRslots : slots + 6 ≤ R.slots) (hlocks : meth.locks = false)
    (hx : ∀ t : State, s.vm.Alike t.vm → H.size ≤ t.heap.size → (∀ q : Nat, q < H.size → t.heap[q]? = H[q]?) → XC cls s t)
    (hf : ∀ z ∈ locs, free z.base) (hc : cells + 1 ≤ mc) (hs : slots + 6 ≤ ms) :
    W p l e R s m args below meth c H locs cells slots (vx_MQ below Qc XC args s mc ms free) (F0 m pc ls rest) := by
  intro T hT X
  have htr : e.platform.stackTraces = false := (show e.platform.stackTraces = l.stackTraces by rw [X.admits.platform]).trans hl
  have Y := vx_rebase X (R' := { frames := R.frames, locals := R.locals, cells := 1, slots := 6 }) (Nat.le_refl _) (Nat.le_refl _) hRcells hRslots
  obtain ⟨s', hA⟩ : ∃ z, z = (T.setVm s.vm).setFrames (.invoking m args :: below) := ⟨_, rfl⟩
  rw [← hA] at Y
  have hvm : s'.vm = s.vm := by rw [hA]; rfl
  have hhp : s'.heap = H := by rw [hA]; exact hT
  have hW0 : s.WarmedH s'.vm := by rw [hvm]; exact State.WarmedH.refl s
  have hat' : ∀ w ∈ vx_at0 own ic cls names, w.before args s' = true := fun w hw => vx_ot_at hW0 hvm.symm (hgood w (List.mem_cons_of_mem _ (List.mem_cons_of_mem _ hw))) (hat w hw)
  have hk' : (Cond.classLink own ik cls).before args s' = true := vx_ot_at hW0 hvm.symm (hgood _ List.mem_cons_self) hk
  have hini' : (Cond.initialized cls).before args s' = true := vx_ot_at hW0 hvm.symm (hgood _ (List.mem_cons_of_mem _ List.mem_cons_self)) hini
  have hU' : vx_Zq Bundle.tN "UNASSIGNED_STACK" Bundle.steD A s' s'.heap := by rw [hhp]; exact vx_Zq.moved hW0.alike (hU.kept hS.2.1)
  have hN' : vx_Zq Bundle.tN "SUPPRESSED_SENTINEL" Bundle.listD A s' s'.heap := by rw [hhp]; exact vx_Zq.moved hW0.alike (hN.kept hS.2.1)
  have h : ∀ w ∈ Bundle.ownAtoms0 own ic cls names, w.before args s' = true := vx_own hat' (vx_isRefq hU'.1) (vx_isRefq hN'.1) hU'.2.word hN'.2.word
  have hown' : s'.vm.findClass own = some m.cls := by rw [hvm]; exact hown
  have hins : (Cond.instantiable cls 6).before args s' = true := h _ (by simp [Bundle.ownAtoms0])
  obtain ⟨vm₁, cX, kX, hfX, hkX, -, -, X₁, st1⟩ := Y.newCold hexec (own := own) (C := cls) (index := ik) (n := 6) hown' hk' hins hini'
    (g := F0 m pc ls rest) rfl (by rw [hb]; exact d0) (Nat.le_refl _) (Nat.le_refl _)
  generalize hT1 : (T.setVm vm₁).pushCell { cls := cX, slots := kX.instanceTypes.map defaultValue, vm := .none } = T1 at X₁ st1
  have hcat : (Value.ref T.heap.size).category = 1 := rfl
  have hcellA : T1.heap[T.heap.size]? = some (freshCell cX kX) := by rw [← hT1]; exact State.heap_pushCell_size _ _
  have d3' : decode c.code (pc + 3) = .ok (.dup, 1) := by rw [hb]; exact d3
  obtain ⟨U, hsteps, hrun, hend, hW, hsame, ce, hce, hO⟩ := X₁.ctorThrow0 hexec htr (own := own) (cls := cls) (names := names) (ic := ic) hown' hcls hnames h (fun x hx => nomatch hx) hfX hkX hcellA (by rw [hhp, hT]; exact Nat.le_refl _)
    (g := { method := m, pc := pc + 4, locals := ls, stack := .ref T.heap.size :: .ref T.heap.size :: rest, locked := none }) rfl hsize rfl rfl (rest := rest) rfl
    (by rw [hb]; exact d4) (by rw [hb]; exact d7) hout hRframes (by simp only [List.map_cons, List.sum_cons, hcat]; omega) hlocks
  obtain ⟨f1, f2⟩ := vx_frame hsame
  rw [hhp] at f1 f2
  have hWs : s.WarmedH U.vm := State.WarmedH.trans hW0 hW
  have hcl : s.vm.findClass cls = some ce.cls := by
    have h9 := hO.cls
    rw [hvm] at h9
    exact h9
  have hall : s.sameButNew ({ U with vm := s.vm } : State) locs mc ms := by
    subst hA
    obtain ⟨e1, e2⟩ := hsame
    rw [State.setFrames_setFrames] at e1
    have h2 : (T.setVm s.vm).sameButNew ({ U with vm := s.vm } : State) [] (0 + 1) (0 + 6) := ⟨e1, e2⟩
    have h3 := X.same.trans h2
    rw [List.append_nil] at h3
    exact h3.mono hc hs
  refine ⟨U, ?_, .threw T.heap.size, hrun, hend, Or.inr ⟨T.heap.size, rfl, cls, ce, locs, hx U hWs.alike f1 (fun q hq => f2 q hq (fun z hz => nomatch hz)), hce, hO.vm, hcl, hWs, hall, hf⟩⟩
  refine st1 _ ?_
  show Steps p.tables e below (T1.setTop { method := m, pc := pc + 3, locals := ls, stack := .ref T.heap.size :: rest, locked := none }) _
  jvm_step X₁.here [X₁.here.top, hexec, d3', Value.category]
  exact hsteps
/-- 'throw new E("text")': new; dup; ldc; invokespecial; athrow -/
theorem vx_throwS {cc : ByteArray} {pc : Nat} (hexec : p.tables.exec = Jvm.exec) (hb : c.code = cc) (hl : l.stackTraces = false) {own cls text : String} {names : List String} {ik is ic mc ms sa : Nat} {A : Nat → Prop}
    (hown : s.vm.findClass own = some m.cls) (hcls : Bundle.fit cls = true) (hnames : ∀ n ∈ names, Bundle.fit n = true)
    (hk : (Cond.classLink own ik cls).before args s = true) (hini : (Cond.initialized cls).before args s = true) (hstr : vk_R own is text sa s) (hat : ∀ w ∈ vx_atS own ic cls names, w.before args s = true)
    (hgood : ∀ w ∈ Cond.classLink own ik cls :: Cond.initialized cls :: vx_atS own ic cls names, vx_ot w = true)
    (hU : vx_Zq Bundle.tN "UNASSIGNED_STACK" Bundle.steD A s s.heap) (hN : vx_Zq Bundle.tN "SUPPRESSED_SENTINEL" Bundle.listD A s s.heap) (hS : va_S A s.heap H locs) (hsize : ls.size = c.maxLocals)
    (d0 : decode cc pc = .ok (.new ik, 3)) (d3 : decode cc (pc + 3) = .ok (.dup, 1)) (d4 : decode cc (pc + 4) = .ok (.ldc is, 2)) (d6 : decode cc (pc + 6) = .ok (.invokespecial ic, 3)) (d9 : decode cc (pc + 9) = .ok (.athrow, 1))
    (hout : ∀ x ∈ c.exceptionTable.toList, covers x (pc + 9) = false)
    (hRframes : names.length + 3 < R.frames) (hRlocals : (rest.map fun v => v.category).sum + (13 * (names.length + 1) + 43) ≤ R.locals) (hRcells : cells + 1 ≤ R.cells) (hRslots : slots + 6 ≤ R.slots) (hlocks : meth.locks = false)
    (hx : ∀ t : State, s.vm.Alike t.vm → H.size ≤ t.heap.size → (∀ q : Nat, q < H.size → t.heap[q]? = H[q]?) → XC cls s t)
    (hf : ∀ z ∈ locs, free z.base) (hc : cells + 1 ≤ mc) (hs : slots + 6 ≤ ms) :
    W p l e R s m args below meth c H locs cells slots (vx_MQ below Qc XC args s mc ms free) (F0 m pc ls rest) := by
  intro T hT X
  have htr : e.platform.stackTraces = false := (show e.platform.stackTraces = l.stackTraces by rw [X.admits.platform]).trans hl
  have Y := vx_rebase X (R' := { frames := R.frames, locals := R.locals, cells := 1, slots := 6 }) (Nat.le_refl _) (Nat.le_refl _) hRcells hRslots
  obtain ⟨s', hA⟩ : ∃ z, z = (T.setVm s.vm).setFrames (.invoking m args :: below) := ⟨_, rfl⟩
  rw [← hA] at Y
  have hvm : s'.vm = s.vm := by rw [hA]; rfl
  have hhp : s'.heap = H := by rw [hA]; exact hT
  have hW0 : s.WarmedH s'.vm := by rw [hvm]; exact State.WarmedH.refl s
  have hat' : ∀ w ∈ vx_atS own ic cls names, w.before args s' = true := fun w hw => vx_ot_at hW0 hvm.symm (hgood w (List.mem_cons_of_mem _ (List.mem_cons_of_mem _ hw))) (hat w hw)
  have hk' : (Cond.classLink own ik cls).before args s' = true := vx_ot_at hW0 hvm.symm (hgood _ List.mem_cons_self) hk
  have hini' : (Cond.initialized cls).before args s' = true := vx_ot_at hW0 hvm.symm (hgood _ (List.mem_cons_of_mem _ List.mem_cons_self)) hini
  have hU' : vx_Zq Bundle.tN "UNASSIGNED_STACK" Bundle.steD A s' s'.heap := by rw [hhp]; exact vx_Zq.moved hW0.alike (hU.kept hS.2.1)
  have hN' : vx_Zq Bundle.tN "SUPPRESSED_SENTINEL" Bundle.listD A s' s'.heap := by rw [hhp]; exact vx_Zq.moved hW0.alike (hN.kept hS.2.1)
  have h : ∀ w ∈ Bundle.ownAtoms own ic cls names, w.before args s' = true := vx_own hat' (vx_isRefq hU'.1) (vx_isRefq hN'.1) hU'.2.word hN'.2.word
  have hown' : s'.vm.findClass own = some m.cls := by rw [hvm]; exact hown
  have hins : (Cond.instantiable cls 6).before args s' = true := h _ (by simp [Bundle.ownAtoms])
  obtain ⟨vm₁, cX, kX, hfX, hkX, -, -, X₁, st1⟩ := Y.newCold hexec (own := own) (C := cls) (index := ik) (n := 6) hown' hk' hins hini'
    (g := F0 m pc ls rest) rfl (by rw [hb]; exact d0) (Nat.le_refl _) (Nat.le_refl _)
  generalize hT1 : (T.setVm vm₁).pushCell { cls := cX, slots := kX.instanceTypes.map defaultValue, vm := .none } = T1 at X₁ st1
  have hcat : (Value.ref T.heap.size).category = 1 := rfl
  have hcellA : T1.heap[T.heap.size]? = some (freshCell cX kX) := by rw [← hT1]; exact State.heap_pushCell_size _ _
  have d3' : decode c.code (pc + 3) = .ok (.dup, 1) := by rw [hb]; exact d3
  have d4' : decode c.code (pc + 4) = .ok (.ldc is, 2) := by rw [hb]; exact d4
  have hstr' : vk_R own is text sa s' := vk_R.warm hW0 hstr
  obtain ⟨U, hsteps, hrun, hend, hW, hsame, ce, hce, hO⟩ := X₁.ctorThrowS hexec htr (own := own) (cls := cls) (names := names) (ic := ic) hown' hcls hnames h (fun x hx => nomatch hx) hfX hkX hcellA (by rw [hhp, hT]; exact Nat.le_refl _) (msg := .ref sa) rfl
    (g := { method := m, pc := pc + 6, locals := ls, stack := .ref sa :: .ref T.heap.size :: .ref T.heap.size :: rest, locked := none }) rfl hsize rfl rfl (rest := rest) rfl
    (by rw [hb]; exact d6) (by rw [hb]; exact d9) hout hRframes (by simp only [List.map_cons, List.sum_cons, hcat]; omega) hlocks
  obtain ⟨f1, f2⟩ := vx_frame hsame
  rw [hhp] at f1 f2
  have hWs : s.WarmedH U.vm := State.WarmedH.trans hW0 hW
  have hcl : s.vm.findClass cls = some ce.cls := by
    have h9 := hO.cls
    rw [hvm] at h9
    exact h9
  have hall : s.sameButNew ({ U with vm := s.vm } : State) locs mc ms := by
    subst hA
    obtain ⟨e1, e2⟩ := hsame
    rw [State.setFrames_setFrames] at e1
    have h2 : (T.setVm s.vm).sameButNew ({ U with vm := s.vm } : State) [] (0 + 1) (0 + 6) := ⟨e1, e2⟩
    have h3 := X.same.trans h2
    rw [List.append_nil] at h3
    exact h3.mono hc hs
  refine ⟨U, ?_, .threw T.heap.size, hrun, hend, Or.inr ⟨T.heap.size, rfl, cls, ce, locs, hx U hWs.alike f1 (fun q hq => f2 q hq (fun z hz => nomatch hz)), hce, hO.vm, hcl, hWs, hall, hf⟩⟩
  refine st1 _ ?_
  show Steps p.tables e below (T1.setTop { method := m, pc := pc + 3, locals := ls, stack := .ref T.heap.size :: rest, locked := none }) _
  jvm_step X₁.here [X₁.here.top, hexec, d3', Value.category]
  exact X₁.ldcString hexec (own := own) (text := text) (index := is) (a := sa) hown' hstr'.1 hstr'.2
    (g := { method := m, pc := pc + 4, locals := ls, stack := .ref T.heap.size :: .ref T.heap.size :: rest, locked := none }) rfl d4' _ hsteps
/-- 'throw new E("text")', the text by a wide index -/
theorem vx_throwSW {cc : ByteArray} {pc : Nat} (hexec : p.tables.exec = Jvm.exec) (hb : c.code = cc) (hl : l.stackTraces = false) {own cls text : String} {names : List String} {ik is ic mc ms sa : Nat} {A : Nat → Prop}
    (hown : s.vm.findClass own = some m.cls) (hcls : Bundle.fit cls = true) (hnames : ∀ n ∈ names, Bundle.fit n = true)
    (hk : (Cond.classLink own ik cls).before args s = true) (hini : (Cond.initialized cls).before args s = true) (hstr : vk_R own is text sa s) (hat : ∀ w ∈ vx_atS own ic cls names, w.before args s = true)
    (hgood : ∀ w ∈ Cond.classLink own ik cls :: Cond.initialized cls :: vx_atS own ic cls names, vx_ot w = true)
    (hU : vx_Zq Bundle.tN "UNASSIGNED_STACK" Bundle.steD A s s.heap) (hN : vx_Zq Bundle.tN "SUPPRESSED_SENTINEL" Bundle.listD A s s.heap) (hS : va_S A s.heap H locs) (hsize : ls.size = c.maxLocals)
    (d0 : decode cc pc = .ok (.new ik, 3)) (d3 : decode cc (pc + 3) = .ok (.dup, 1)) (d4 : decode cc (pc + 4) = .ok (.ldc_w is, 3)) (d7 : decode cc (pc + 7) = .ok (.invokespecial ic, 3)) (d10 : decode cc (pc + 10) = .ok (.athrow, 1))
    (hout : ∀ x ∈ c.exceptionTable.toList, covers x (pc + 10) = false)
    (hRframes : names.length + 3 < R.frames) (hRlocals : (rest.map fun v => v.category).sum + (13 * (names.length + 1) + 43) ≤ R.locals) (hRcells : cells + 1 ≤ R.cells) (hRslots : slots + 6 ≤ R.slots) (hlocks : meth.locks = false)
    (hx : ∀ t : State, s.vm.Alike t.vm → H.size ≤ t.heap.size → (∀ q : Nat, q < H.size → t.heap[q]? = H[q]?) → XC cls s t)
    (hf : ∀ z ∈ locs, free z.base) (hc : cells + 1 ≤ mc) (hs : slots + 6 ≤ ms) :
    W p l e R s m args below meth c H locs cells slots (vx_MQ below Qc XC args s mc ms free) (F0 m pc ls rest) := by
  intro T hT X
  have htr : e.platform.stackTraces = false := (show e.platform.stackTraces = l.stackTraces by rw [X.admits.platform]).trans hl
  have Y := vx_rebase X (R' := { frames := R.frames, locals := R.locals, cells := 1, slots := 6 }) (Nat.le_refl _) (Nat.le_refl _) hRcells hRslots
  obtain ⟨s', hA⟩ : ∃ z, z = (T.setVm s.vm).setFrames (.invoking m args :: below) := ⟨_, rfl⟩
  rw [← hA] at Y
  have hvm : s'.vm = s.vm := by rw [hA]; rfl
  have hhp : s'.heap = H := by rw [hA]; exact hT
  have hW0 : s.WarmedH s'.vm := by rw [hvm]; exact State.WarmedH.refl s
  have hat' : ∀ w ∈ vx_atS own ic cls names, w.before args s' = true := fun w hw => vx_ot_at hW0 hvm.symm (hgood w (List.mem_cons_of_mem _ (List.mem_cons_of_mem _ hw))) (hat w hw)
  have hk' : (Cond.classLink own ik cls).before args s' = true := vx_ot_at hW0 hvm.symm (hgood _ List.mem_cons_self) hk
  have hini' : (Cond.initialized cls).before args s' = true := vx_ot_at hW0 hvm.symm (hgood _ (List.mem_cons_of_mem _ List.mem_cons_self)) hini
  have hU' : vx_Zq Bundle.tN "UNASSIGNED_STACK" Bundle.steD A s' s'.heap := by rw [hhp]; exact vx_Zq.moved hW0.alike (hU.kept hS.2.1)
  have hN' : vx_Zq Bundle.tN "SUPPRESSED_SENTINEL" Bundle.listD A s' s'.heap := by rw [hhp]; exact vx_Zq.moved hW0.alike (hN.kept hS.2.1)
  have h : ∀ w ∈ Bundle.ownAtoms own ic cls names, w.before args s' = true := vx_own hat' (vx_isRefq hU'.1) (vx_isRefq hN'.1) hU'.2.word hN'.2.word
  have hown' : s'.vm.findClass own = some m.cls := by rw [hvm]; exact hown
  have hins : (Cond.instantiable cls 6).before args s' = true := h _ (by simp [Bundle.ownAtoms])
  obtain ⟨vm₁, cX, kX, hfX, hkX, -, -, X₁, st1⟩ := Y.newCold hexec (own := own) (C := cls) (index := ik) (n := 6) hown' hk' hins hini'
    (g := F0 m pc ls rest) rfl (by rw [hb]; exact d0) (Nat.le_refl _) (Nat.le_refl _)
  generalize hT1 : (T.setVm vm₁).pushCell { cls := cX, slots := kX.instanceTypes.map defaultValue, vm := .none } = T1 at X₁ st1
  have hcat : (Value.ref T.heap.size).category = 1 := rfl
  have hcellA : T1.heap[T.heap.size]? = some (freshCell cX kX) := by rw [← hT1]; exact State.heap_pushCell_size _ _
  have d3' : decode c.code (pc + 3) = .ok (.dup, 1) := by rw [hb]; exact d3
  have d4' : decode c.code (pc + 4) = .ok (.ldc_w is, 3) := by rw [hb]; exact d4
  have hstr' : vk_R own is text sa s' := vk_R.warm hW0 hstr
  obtain ⟨U, hsteps, hrun, hend, hW, hsame, ce, hce, hO⟩ := X₁.ctorThrowS hexec htr (own := own) (cls := cls) (names := names) (ic := ic) hown' hcls hnames h (fun x hx => nomatch hx) hfX hkX hcellA (by rw [hhp, hT]; exact Nat.le_refl _) (msg := .ref sa) rfl
    (g := { method := m, pc := pc + 7, locals := ls, stack := .ref sa :: .ref T.heap.size :: .ref T.heap.size :: rest, locked := none }) rfl hsize rfl rfl (rest := rest) rfl
    (by rw [hb]; exact d7) (by rw [hb]; exact d10) hout hRframes (by simp only [List.map_cons, List.sum_cons, hcat]; omega) hlocks
  obtain ⟨f1, f2⟩ := vx_frame hsame
  rw [hhp] at f1 f2
  have hWs : s.WarmedH U.vm := State.WarmedH.trans hW0 hW
  have hcl : s.vm.findClass cls = some ce.cls := by
    have h9 := hO.cls
    rw [hvm] at h9
    exact h9
  have hall : s.sameButNew ({ U with vm := s.vm } : State) locs mc ms := by
    subst hA
    obtain ⟨e1, e2⟩ := hsame
    rw [State.setFrames_setFrames] at e1
    have h2 : (T.setVm s.vm).sameButNew ({ U with vm := s.vm } : State) [] (0 + 1) (0 + 6) := ⟨e1, e2⟩
    have h3 := X.same.trans h2
    rw [List.append_nil] at h3
    exact h3.mono hc hs
  refine ⟨U, ?_, .threw T.heap.size, hrun, hend, Or.inr ⟨T.heap.size, rfl, cls, ce, locs, hx U hWs.alike f1 (fun q hq => f2 q hq (fun z hz => nomatch hz)), hce, hO.vm, hcl, hWs, hall, hf⟩⟩
  refine st1 _ ?_
  show Steps p.tables e below (T1.setTop { method := m, pc := pc + 3, locals := ls, stack := .ref T.heap.size :: rest, locked := none }) _
  jvm_step X₁.here [X₁.here.top, hexec, d3', Value.category]
  exact X₁.ldcStringW hexec (own := own) (text := text) (index := is) (a := sa) hown' hstr'.1 hstr'.2
    (g := { method := m, pc := pc + 4, locals := ls, stack := .ref T.heap.size :: .ref T.heap.size :: rest, locked := none }) rfl d4' _ hsteps
end Ends
section Bodies
variable {l : Launch}
theorem vx_ofW {y : MethodName} {ws ws' : List Cond} {rm : Room} {Pc : Array Value → State → Prop} {Qc : Array Value → State → Outcome → State → Prop} {XC : String → State → State → Prop} {mc ms : Nat} {free : Addr → Prop} {cc : ByteArray} {maxL : Nat} {ret : Option FieldType}
    (hy : plainName y.cls = true) (hw : ws = Cond.code y cc maxL ret :: ws')
    (body : ∀ p e s m args below meth c s₁, BodyLoose p l y (headSpec ws rm) cc maxL ret e s m args below meth c s₁ → c.maxLocals = maxL → (∀ x ∈ c.exceptionTable.toList, False) → Pc args s →
      W p l e (headSpec ws rm).room s m args below meth c s.heap [] 0 0 (vx_MQ below Qc XC args s mc ms free) (entryFrame m args maxL)) : vx_Met l y ws rm Pc Qc XC mc ms free := by
  refine MetFree.of_bodyS (code := cc) (maxLocals := maxL) (ret := ret) hy ?_ ?_
  · intro args s m h hn
    obtain ⟨meth, c, h1, h2, h3, h4, h5, h6, -, -⟩ := Cond.code_spec hn (atoms_spec (ws := ws) h _ (by rw [hw]; exact List.mem_cons_self))
    exact ⟨meth, c, h1, h2, h3, h4, h5, h6⟩
  · intro p e s m args below meth c s₁ B hml hP _
    have hh0 : s₁.heap = s.heap := by rw [B.state]; rfl
    have ht : ∀ x ∈ c.exceptionTable.toList, False := by
      obtain ⟨meth9, c9, h1, h2, -, -, -, -, h7, -⟩ := Cond.code_spec B.named (atoms_spec (ws := ws) B.pre _ (by rw [hw]; exact List.mem_cons_self))
      cases Option.some.inj (h1.symm.trans B.method)
      cases Option.some.inj (h2.symm.trans (Stand.of_body B).code)
      intro x hx
      rw [Array.isEmpty_iff.mp h7] at hx
      cases hx
    obtain ⟨t, a1, o, b1, b2, b3⟩ := body p e s m args below meth c s₁ B hml ht hP s₁ hh0 (Stand.of_body B)
    exact ⟨t, o, a1, b1, b2, b3⟩
/-- the table of a body with handlers -/
theorem vx_table {p : Program} {x y : MethodName} {S : Spec} {cc bytes : ByteArray} {maxL maxL' : Nat} {ret ret' : Option FieldType} {e : Env} {s s₁ : State} {m : MethodId} {args : Array Value} {below : List Frame} {meth : Method} {c : Code} {hh : List (Nat × Nat × Nat × Nat)}
    (B : BodyLoose p l y S cc maxL ret e s m args below meth c s₁) (h : (Cond.codeWith y bytes maxL' ret' hh).before args s = true) : c.exceptionTable.toList = tableOf hh := by
  obtain ⟨m9, meth9, c9, hn9, h1, h2, -, -, h6, -⟩ := Cond.codeWith_spec h
  cases Option.some.inj (hn9.symm.trans B.named)
  cases Option.some.inj (h1.symm.trans B.method)
  cases Option.some.inj (h2.symm.trans (Stand.of_body B).code)
  rw [← h6, table_eq]
end Bodies
end VXA
/-! ===== END ===== -/
/-! ===== BEGIN a static call of a method with an exception table ===== -/
section VXS
variable {p : Program} {l : Launch} {e : Env} {R : Room} {s : State} {m : MethodId} {args : Array Value} {below : List Frame} {meth : Method} {c : Code} {T : State} {H : Heap} {locs : List Loc} {cells slots : Nat}
abbrev vx_CSW (R : Room) (s : State) (args : Array Value) (own : String) (index : Nat) (y : MethodName) (bytes : ByteArray) (maxL : Nat) (ret : Option FieldType) (hh : List (Nat × Nat × Nat × Nat)) (ws : List Cond) (rm : Room) (mc ms n : Nat) : Prop :=
  (rm.cells = mc ∧ rm.slots = ms ∧ rm.frames + 1 ≤ R.frames ∧ 8 + (maxL + 11) + rm.locals ≤ R.locals ∧ (∀ w ∈ ws, ∀ (a' : Array Value) (U : State), s.WarmedH U.vm → w.before a' U = true) ∧ Cond.codeWith y bytes maxL ret hh ∈ ws) ∧
  (Cond.codeWith y bytes maxL ret hh).before args s = true ∧ (Cond.initialized y.cls).before args s = true ∧ (y.cls ≠ "java/lang/invoke/MethodHandle" ∧ y.cls ≠ "java/lang/invoke/VarHandle") ∧
  (∀ sig, parseMethodDescriptor y.desc = some sig → n = sig.parameters.length) ∧ (Cond.methodLink own index y).before args s = true ∧ (Cond.static y).before args s = true
theorem vx_cwSW {own : String} {index maxL mc ms : Nat} {y : MethodName} {bytes : ByteArray} {ret : Option FieldType} {hh : List (Nat × Nat × Nat × Nat)} {Ts ws ws' : List Cond} {rm : Room} (n : Nat) (ht : ∀ w ∈ Ts, w.before args s = true) (hT : GoodIn Ts (va_wsS own index y ws)) (hw : ws = Cond.codeWith y bytes maxL ret hh :: ws') (hrc : rm.cells = mc) (hrs : rm.slots = ms)
    (hd : y.cls ≠ "java/lang/invoke/MethodHandle" ∧ y.cls ≠ "java/lang/invoke/VarHandle" ∧ (parseMethodDescriptor y.desc).map (fun d => d.parameters.length) = some n) (hR : rm.frames + 1 ≤ R.frames ∧ 8 + (maxL + 11) + rm.locals ≤ R.locals) :
    vx_CSW R s args own index y bytes maxL ret hh ws rm mc ms n := by
  have ok : ∀ w ∈ va_wsS own index y ws, w.before args s = true := fun w h => ht w (hT w h).1
  have hG : GoodIn Ts ws := fun w h => hT w (by unfold va_wsS; exact List.mem_append_right _ h)
  have hc : Cond.codeWith y bytes maxL ret hh ∈ ws := by rw [hw]; exact List.mem_cons_self
  refine ⟨⟨hrc, hrs, hR.1, hR.2, pay_in ht hG, hc⟩, ht _ (hG _ hc).1, ok _ (by simp [va_wsS]), ⟨hd.1, hd.2.1⟩, fun sig h => ?_, ok _ (by simp [va_wsS]), ok _ (by simp [va_wsS])⟩
  have h2 := hd.2.2
  rw [h] at h2
  exact (Option.some.inj h2).symm
theorem vx_callSW (X : Stand p l e R s m args below meth c T locs cells slots) (hexec : p.tables.exec = Jvm.exec) {own : String} {index : Nat} {y : MethodName} {bytes : ByteArray} {maxL : Nat} {ret : Option FieldType} {hh : List (Nat × Nat × Nat × Nat)}
    (hown : s.vm.findClass own = some m.cls) (hlink : (Cond.methodLink own index y).before args s = true) (hstat : (Cond.static y).before args s = true) (hinit : (Cond.initialized y.cls).before args s = true)
    (hcode : (Cond.codeWith y bytes maxL ret hh).before args s = true) (hy : y.cls ≠ "java/lang/invoke/MethodHandle" ∧ y.cls ≠ "java/lang/invoke/VarHandle")
    {W9 : Nat} {Pre : Pt → Array Value → Prop} {Post : Pt → Array Value → Option Value → Pt → Prop} (hK : Back l R p e below s args y 3 W9 Pre Post)
    {g : JFrame} (hg : g.method = m) (hsize : g.locals.size = c.maxLocals) {argsL rest : List Value} (hlen : ∀ sig, parseMethodDescriptor y.desc = some sig → argsL.length = sig.parameters.length)
    (hstack : g.stack = argsL.reverse ++ rest) (hW : 2 * g.monitorRoom + (rest.map fun v => v.category).sum ≤ W9) (hdg : decode c.code g.pc = .ok (.invokestatic index, 3))
    (hpre : ∀ vm₁, s.WarmedH vm₁ → Pre ⟨T.setVm vm₁, locs, cells, slots⟩ argsL.toArray) :
    ∃ (v : Option Value) (vm₁ : Vm) (B : Pt), s.WarmedH vm₁ ∧ Stand p l e R s m args below meth c B.U B.locs B.cells B.slots ∧ Post ⟨T.setVm vm₁, locs, cells, slots⟩ argsL.toArray v B ∧
      ∀ target, Steps p.tables e below (B.U.setTop { g with pc := g.pc + 3, stack := v.toList ++ rest }) target → Steps p.tables e below (T.setTop g) target := by
  obtain ⟨mk, methM, cM, hnamed, hmethM, -, -, -, -, -, -, hsigM⟩ := Cond.codeWith_spec hcode
  have hstatic : methM.isStatic = true := Cond.static_spec hnamed hmethM hstat
  obtain ⟨kP, hkP, -⟩ := className_of_methodNamed hnamed
  have hinitP : kP.init = .initialized := Cond.initialized_spec (findClass_of_methodNamed hnamed) hkP hinit
  obtain ⟨vm₁, X₁, hstep₁⟩ := X.invokestatic hexec hown hlink hnamed hmethM hstatic hkP hinitP hy (g := g) hg (argsL := argsL) (rest := rest) (hlen _ hsigM) hstack hdg
  obtain ⟨v, B, X', hpost, hsteps⟩ := hK m meth c ⟨T.setVm vm₁, locs, cells, slots⟩ { g with stack := rest } (.invokestatic index) mk argsL.toArray X₁ hg hsize hdg hW (X₁.named hnamed) (hpre vm₁ X₁.warmed)
  exact ⟨v, vm₁, B, X₁.warmed, X', hpost, fun target h => hstep₁ _ fun acts => by rw [doInvoke_state]; exact hsteps.trans h⟩
theorem vx_runSW {y : MethodName} {bytes cc : ByteArray} {maxL nL mc ms n index : Nat} {ret : Option FieldType} {hh : List (Nat × Nat × Nat × Nat)} {ws : List Cond} {rm : Room} {Pc : Array Value → State → Prop} {Qc : Array Value → State → Outcome → State → Prop} {free : Addr → Prop} {Ts : List Cond} {own : String} {As rest : List Value} {g : JFrame}
    (S : CallFix p m c cc nL s args Ts own) (hM : Met l y ws rm Pc Qc mc ms free) (cw : vx_CSW R s args own index y bytes maxL ret hh ws rm mc ms n) (hp : PreS s H Pc As)
    (hg : g.method = m) (hn : As.length = n) (hsize : g.locals.size = nL) (hstack : g.stack = As.reverse ++ rest) (hW : 2 * g.monitorRoom + (rest.map fun v => v.category).sum ≤ 8) (hdg : decode cc g.pc = .ok (.invokestatic index, 3)) (hf : cells + mc ≤ R.cells ∧ slots + ms ≤ R.slots) :
    va_Run p l e R s m args below meth c H locs cells slots mc ms g rest (Qc As.toArray) (free) := by
  obtain ⟨⟨hrc, hrs, hfr, hlo, hws, hcw⟩, hcode, hini, hy, hlen, hl, hstt⟩ := cw
  have hK : Back l R p e below s args y 3 8 (PreOf R mc ms Pc) (PostOf Qc mc ms free) := va_backW (hh := hh) (bytes := bytes) (maxL := maxL) (ret := ret) hM hp.1 hrc hrs hfr hlo hws hcw (fun a' U hW => word_at hW (Or.inl (by first | rfl | simp [Cond.onTables, Cond.keeps, Cond.steady])) hini)
  obtain ⟨hx, hb, hml, ho, -⟩ := S
  intro T hT X
  obtain ⟨v, vm₁, ⟨U', l2, c2, s2⟩, hW₁, X', ⟨g', mk, t, L, e1, e2, hq, h1, hL, h2, h3⟩, st⟩ := vx_callSW X hx (hh := hh) (bytes := bytes) (maxL := maxL) (ret := ret) ho hl hstt hini hcode hy hK hg (hsize.trans hml.symm) (argsL := As) (rest := rest) (fun sig h => hn.trans (hlen sig h)) hstack hW (by rw [hb]; exact hdg)
    (fun vm₁ hW₁ => ⟨hf.1, hf.2, hp.2 (T.setVm vm₁) hT hW₁⟩)
  dsimp only [Pt.U, Pt.locs, Pt.cells, Pt.slots] at X' e1 e2 h1 h2 h3 st
  subst h1; subst h2; subst h3
  exact ⟨v, (T.setVm vm₁).calling g' mk As.toArray, t, U', L, hT, X', hL, e1, e2, hq, st⟩
/-- not caught here, past rows that name other classes: it goes on to the caller -/
theorem vx_outP {p : Program} {l : Launch} {e : Env} {R : Room} {s : State} {m : MethodId} {args : Array Value} {below : List Frame} {meth : Method} {c : Code} {H : Heap} {locs : List Loc} {cells slots : Nat} {free : Addr → Prop} {ls : Array Slot} {rest : List Value} {Qc : Array Value → State → Outcome → State → Prop} {XC : String → State → State → Prop}
    {pc : Nat} {own E : String} {ce : Cell} {q : Addr} {mc ms : Nat} (hown : s.vm.findClass own = some m.cls) (hlocks : meth.locks = false)
    (hpass : ∀ z ∈ c.exceptionTable.toList, covers z pc = false ∨ (z.catchType ≠ 0 ∧ ∃ nm : String, (Cond.classLink own z.catchType nm).before args s = true ∧ va_Nc E nm s)) (hcell : H[q]? = some ce) (hv : ce.vm = .none) (hcl : s.vm.findClass E = some ce.cls)
    (hx : ∀ t : State, t.heap = H → s.vm.Alike t.vm → XC E s t) (hf : ∀ z ∈ locs, free z.base) (hc : cells ≤ mc) (hs : slots ≤ ms) :
    vx_W p l e R s m args below meth c H locs cells slots (vx_MQ below Qc XC args s mc ms free) (F0 m pc ls rest) q := by
  intro T hT X
  have hpl : e.platform.magicAccessors = ({} : Platform).magicAccessors := by rw [X.admits.platform]
  obtain ⟨vm', hW', X', st⟩ := X.outThrough hlocks q (g := F0 m pc ls rest) rfl rfl rfl (cell := ce) (by rw [hT]; exact hcell) (by rw [hv]; rfl)
    (by obtain ⟨k9, h9, -⟩ := Vm.findClass_spec hcl; exact ⟨k9, h9⟩) (fun z hz => by
      rcases hpass z hz with h | ⟨hz0, nm, hl1, hn1⟩
      · exact Or.inl h
      · obtain ⟨c6, hc6, hcl6⟩ := Cond.classLink_spec hown hl1 e.platform hpl
        obtain ⟨a8, b8, h1, h2, h3⟩ := hn1
        cases Option.some.inj (h1.symm.trans hcl)
        cases Option.some.inj (h2.symm.trans hc6)
        exact Or.inr ⟨hz0, _, hcl6, h3⟩)
  obtain ⟨g₀, hfr⟩ := X'.frames_eq
  have hcell9 : ((T.setVm vm').setFrames (.throwing q :: below)).heap[q]? = some ce := by
    show T.heap[q]? = some ce
    rw [hT]; exact hcell
  have hend : Ended ((T.setVm vm').setFrames (.throwing q :: below)) below (.threw q) := State.frames_setFrames _ (State.cur_lt_of_frames hfr)
  refine ⟨(T.setVm vm').setFrames (.throwing q :: below), ?_, .threw q, X'.here.running, hend, Or.inr ⟨q, rfl, E, ce, locs, hx _ hT (X'.ends _).1.alike, hcell9, hv, hcl, (X'.ends _).1, (X'.ends _).2.mono hc hs, hf⟩⟩
  rw [X.pushThrowing_eq]
  exact st
/-- a thing of a world lies in the heap -/
theorem vx_lt {D : va_G} {cl : List vw_C} {ws : va_W} {H1 : Heap} (h : va_P D cl ws H1) {k : Nat} {q : Nat × va_E} (hk : ws[k]? = some q) : q.1 < H1.size := (h k q hk).lt
end VXS
/-! ===== END ===== -/
/-! ===== BEGIN methods with a table of their own: called by a name, returning or throwing ===== -/
section VXH
/-! vx_backW, vx_callVX, vx_callSX, vx_callVW, vx_runVW, vx_runVX, vx_runSX, vx_ofWH follow the same proofs as their sisters above (Free/Laws.lean, Shelf42/LK1.lean); vx_outP calls Shelf42/NT130.lean (outThrough). -/
section
variable {l : Launch} {R : Room} {p : Program} {e : Env} {below : List Frame} {s : State} {sargs : Array Value} {y : MethodName} {len W9 : Nat}
theorem vx_backW {ws : List Cond} {rm : Room} {Pc : Array Value → State → Prop} {Qc : Array Value → State → Outcome → State → Prop} {XC : String → State → State → Prop} {mc ms : Nat} {free : Addr → Prop} {bytes : ByteArray} {maxL : Nat} {ret : Option FieldType} {hh : List (Nat × Nat × Nat × Nat)}
    (hM : vx_Met l y ws rm Pc Qc XC mc ms free) (hblind : FrameBlind Pc) (hrc : rm.cells = mc) (hrs : rm.slots = ms)
    (hframes : rm.frames + 1 ≤ R.frames) (hlocals : W9 + (maxL + 11) + rm.locals ≤ R.locals)
    (hws : ∀ w ∈ ws, ∀ a' U, s.WarmedH U.vm → w.before a' U = true) (hcode : Cond.codeWith y bytes maxL ret hh ∈ ws) (hinit : ∀ a' U, s.WarmedH U.vm → (Cond.initialized y.cls).before a' U = true) :
    vx_Back l R p e below s sargs y len W9 (PreOf R mc ms Pc) (PostOf Qc mc ms free) (vx_Post XC mc ms free) := by
  intro m meth c A g ig mk a X hg hsize hdg hW hn hp
  have h1 : (headSpec ws rm).pre.before a A.U = true := atoms_intro fun w hw => hws w hw _ _ X.warmed
  have h2 : (Cond.codeWith y bytes maxL ret hh).before a A.U = true := hws _ hcode _ _ X.warmed
  have h3 : (Cond.initialized y.cls).before a A.U = true := hinit _ _ X.warmed
  have h4 : A.cells + (headSpec ws rm).room.cells ≤ R.cells := by rw [show (headSpec ws rm).room.cells = mc from hrc]; exact hp.1
  have h5 : A.slots + (headSpec ws rm).room.slots ≤ R.slots := by rw [show (headSpec ws rm).room.slots = ms from hrs]; exact hp.2.1
  have hPc : Pc a (A.U.calling g mk a) := hblind _ _ _ _ hp.2.2
  obtain ⟨U, Ls, c0, s0⟩ := A
  dsimp only [Pt.U, Pt.locs, Pt.cells, Pt.slots] at h1 h2 h3 h4 h5 X hn hPc ⊢
  obtain ⟨m9, methY, cY, hn9, hmY, hcY, -, hlY, -⟩ := Cond.codeWith_spec h2
  cases Option.some.inj (hn9.symm.trans hn)
  obtain ⟨kY, hkY, -⟩ := className_of_methodNamed hn
  have hinitY : kY.init = .initialized := Cond.initialized_spec (findClass_of_methodNamed hn) hkY h3
  have h : At U g.method c below := by rw [hg]; exact X.here
  have hlocals9 : W9 + (maxL + 11) + (headSpec ws rm).room.locals ≤ R.locals := hlocals
  have happ : (headSpec ws rm).appliesLoose y e.platform (U.calling g mk a) = true :=
    Spec.appliesLoose_calling (g := g) h hdg hn hkY hinitY
      (X.room_calling (g := g) (R' := (headSpec ws rm).room) hsize hmY hcY hframes (by rw [hlY]; omega) h4 h5) h1
  obtain ⟨mid, hmid⟩ := h.above
  have hfr : (U.setTop g).frames = (.java g :: mid) ++ below := by rw [State.frames_setTop' g h.top, hmid]; rfl
  obtain ⟨o, s₂, hsteps, -, hend, hq⟩ := Steps.callFree hM p X.admits X.cas X.clock (acts := []) hfr happ hPc trivial
  have hq' : vx_Q Qc XC mc ms free a (U.calling g mk a) o s₂ := hq
  rw [State.frames_setTop' g h.top] at hend
  obtain ⟨g₀, hg0⟩ := Option.isSome_iff_exists.mp h.top
  obtain ⟨r, hr⟩ := State.topJava?_eq_some.mp hg0
  have hr' : (({ U with heap := s₂.heap, slotsUsed := s₂.slotsUsed } : State).setVm s₂.vm).frames = .java g₀ :: r := hr
  rcases hq' with ⟨hqc, L, hfe, hL⟩ | ⟨q, rfl, E, ce, L, hx, hce, hcv, hcl, hW₂, hsm, hL⟩
  · obtain ⟨⟨v, rfl⟩, hW₂, e2, q2, q3, q4, q5, q6⟩ := id hfe
    have e3 : s₂ = ({ (U.calling g mk a).setFrames s₂.frames with heap := s₂.heap, slotsUsed := s₂.slotsUsed } : State).setVm s₂.vm := by
      have : s₂ = ({ s₂ with vm := (U.calling g mk a).vm } : State).setVm s₂.vm := rfl
      rw [e2] at this
      exact this
    obtain ⟨c₂, i₂, len₂, hc₂, hd₂, hf₂⟩ := hend
    have hW' : U.WarmedH s₂.vm := hW₂
    have hcc : c₂ = c := by
      have h1 : s₂.code? g.method = U.code? g.method := by
        rw [State.code?_eq, State.code?_eq, hW'.alike.method?]
      exact Option.some.inj (hc₂.symm.trans (h1.trans h.code))
    subst hcc
    have hlen : len₂ = len := by rw [hdg] at hd₂; cases hd₂; rfl
    subst hlen
    have hs₂ : s₂ = (({ U with heap := s₂.heap, slotsUsed := s₂.slotsUsed } : State).setVm s₂.vm).setTop { g with pc := g.pc + len₂, stack := v.toList ++ g.stack } := by
      refine e3.trans ?_
      rw [hf₂, State.calling_eq h.top, State.setFrames_setFrames, State.setTop_of_frames _ hr', hr]
      rfl
    have hsame : U.sameButNew ({ U with heap := s₂.heap, slotsUsed := s₂.slotsUsed } : State) L mc ms := by
      refine ⟨?_, q2, q3, q4, q5, q6⟩
      obtain ⟨t, ht, -⟩ := State.frames_cons hr
      show ({ U with heap := s₂.heap, slotsUsed := s₂.slotsUsed } : State) = { U.setFrames U.frames with heap := s₂.heap, slotsUsed := s₂.slotsUsed }
      rw [State.setFrames_self ht]
    subst hg
    refine Or.inl ⟨v, ⟨(({ U with heap := s₂.heap, slotsUsed := s₂.slotsUsed } : State).setVm s₂.vm), Ls ++ L, c0 + mc, s0 + ms⟩,
      ⟨X.admits, X.cas, X.clock, X.frames, X.room, X.hears, X.method, X.code, (X.here.setHeapUsed s₂.heap s₂.slotsUsed).setVm hW'.alike, X.tail, State.WarmedH.trans X.warmed hW', X.limits, X.bytes, X.same.trans (hsame.setVm s.vm)⟩,
      ⟨g, mk, s₂, L, rfl, rfl, hqc, rfl, hL, rfl, rfl⟩, ?_⟩
    show Steps p.tables e below _ ((({ U with heap := s₂.heap, slotsUsed := s₂.slotsUsed } : State).setVm s₂.vm).setTop { g with pc := g.pc + len₂, stack := v.toList ++ g.stack })
    rw [← hs₂]
    exact hsteps
  · obtain ⟨e2, q2, q3, q4, q5, q6⟩ := id hsm
    have e3 : s₂ = ({ (U.calling g mk a).setFrames s₂.frames with heap := s₂.heap, slotsUsed := s₂.slotsUsed } : State).setVm s₂.vm := by
      have : s₂ = ({ s₂ with vm := (U.calling g mk a).vm } : State).setVm s₂.vm := rfl
      rw [e2] at this
      exact this
    have hf₂ : s₂.frames = .throwing q :: .java g :: U.frames.tail := hend
    have hW' : U.WarmedH s₂.vm := hW₂
    have hs₂ : s₂ = ((({ U with heap := s₂.heap, slotsUsed := s₂.slotsUsed } : State).setVm s₂.vm).setTop g).pushFrame (.throwing q) := by
      refine e3.trans ?_
      rw [hf₂, State.calling_eq h.top, State.setFrames_setFrames, State.pushFrame, State.frames_setTop _ hr', State.setTop_of_frames _ hr', State.setFrames_setFrames, hr]
      rfl
    have hsame : U.sameButNew ({ U with heap := s₂.heap, slotsUsed := s₂.slotsUsed } : State) L mc ms := by
      refine ⟨?_, q2, q3, q4, q5, q6⟩
      obtain ⟨t, ht, -⟩ := State.frames_cons hr
      show ({ U with heap := s₂.heap, slotsUsed := s₂.slotsUsed } : State) = { U.setFrames U.frames with heap := s₂.heap, slotsUsed := s₂.slotsUsed }
      rw [State.setFrames_self ht]
    subst hg
    refine Or.inr ⟨q, ⟨(({ U with heap := s₂.heap, slotsUsed := s₂.slotsUsed } : State).setVm s₂.vm), Ls ++ L, c0 + mc, s0 + ms⟩,
      ⟨X.admits, X.cas, X.clock, X.frames, X.room, X.hears, X.method, X.code, (X.here.setHeapUsed s₂.heap s₂.slotsUsed).setVm hW'.alike, X.tail, State.WarmedH.trans X.warmed hW', X.limits, X.bytes, X.same.trans (hsame.setVm s.vm)⟩,
      ⟨g, mk, s₂, L, E, ce, rfl, rfl, hx, hce, hcv, hcl, rfl, hL, rfl, rfl⟩, ?_⟩
    show Steps p.tables e below _ (((({ U with heap := s₂.heap, slotsUsed := s₂.slotsUsed } : State).setVm s₂.vm).setTop g).pushFrame (.throwing q))
    rw [← hs₂]
    exact hsteps
end
variable {p : Program} {l : Launch} {e : Env} {R : Room} {s : State} {m : MethodId} {args : Array Value} {below : List Frame} {meth : Method} {c : Code} {T : State} {H : Heap} {locs : List Loc} {cells slots : Nat}
theorem vx_callVX (X : Stand p l e R s m args below meth c T locs cells slots) (hexec : p.tables.exec = Jvm.exec) {own C : String} {index : Nat} {y : MethodName} {bytes : ByteArray} {maxL : Nat} {ret : Option FieldType} {hh : List (Nat × Nat × Nat × Nat)}
    (hown : s.vm.findClass own = some m.cls) (hlink : (Cond.methodLink own index y).before args s = true) (hinst : (Cond.instanceMethod y).before args s = true) (hsel : (Cond.selects C y y).before args s = true)
    (hcode : (Cond.codeWith y bytes maxL ret hh).before args s = true) (hy : y.cls ≠ "java/lang/invoke/MethodHandle" ∧ y.cls ≠ "java/lang/invoke/VarHandle")
    {W9 : Nat} {Pre : Pt → Array Value → Prop} {Post : Pt → Array Value → Option Value → Pt → Prop} {PostX : Pt → Array Value → Addr → Pt → Prop} (hK : vx_Back l R p e below s args y 3 W9 Pre Post PostX)
    {b : Addr} {cellB : Cell} (hcell : T.heap[b]? = some cellB) (hobj : cellB.vm.isStatics = false) (hcls : s.vm.findClass C = some cellB.cls)
    {g : JFrame} (hg : g.method = m) (hsize : g.locals.size = c.maxLocals) {argsL rest : List Value} (hlen : ∀ sig, parseMethodDescriptor y.desc = some sig → argsL.length = sig.parameters.length)
    (hstack : g.stack = argsL.reverse ++ .ref b :: rest) (hW : 2 * g.monitorRoom + (rest.map fun v => v.category).sum ≤ W9) (hdg : decode c.code g.pc = .ok (.invokevirtual index, 3))
    (hpre : ∀ vm₁, s.WarmedH vm₁ → Pre ⟨T.setVm vm₁, locs, cells, slots⟩ (Value.ref b :: argsL).toArray) :
    (∃ (v : Option Value) (vm₁ : Vm) (B : Pt), s.WarmedH vm₁ ∧ Stand p l e R s m args below meth c B.U B.locs B.cells B.slots ∧ Post ⟨T.setVm vm₁, locs, cells, slots⟩ (Value.ref b :: argsL).toArray v B ∧
      ∀ target, Steps p.tables e below (B.U.setTop { g with pc := g.pc + 3, stack := v.toList ++ rest }) target → Steps p.tables e below (T.setTop g) target) ∨
    (∃ (q : Addr) (vm₁ : Vm) (B : Pt), s.WarmedH vm₁ ∧ Stand p l e R s m args below meth c B.U B.locs B.cells B.slots ∧ PostX ⟨T.setVm vm₁, locs, cells, slots⟩ (Value.ref b :: argsL).toArray q B ∧
      Steps p.tables e below (T.setTop g) ((B.U.setTop { g with stack := rest }).pushFrame (.throwing q))) := by
  obtain ⟨mk, methM, hnamed, hmethM, hstM, habM⟩ := Cond.instanceMethod_spec hinst
  obtain ⟨m8, methM', cM, hn8, hmethM', -, -, -, -, -, -, hsigM⟩ := Cond.codeWith_spec hcode
  cases Option.some.inj (hn8.symm.trans hnamed)
  cases hmethM.symm.trans hmethM'
  obtain ⟨c2, r2, m2, q1, q2, q3, q4, kP, hkP, hkPi⟩ := Cond.selects_spec hsel
  cases hcls.symm.trans q1
  cases (State.methodFound?_of_named hnamed hy).symm.trans q2
  cases hnamed.symm.trans q3
  have hselP : selectMethod e.platform s.vm cellB.cls mk = .method mk := by rw [Launch.admits_selectMethod X.admits]; exact q4
  obtain ⟨vm₁, X₁, hstep₁⟩ := X.invokevirtual hexec hown hlink hnamed hmethM hstM hkP hkPi hy (a := b) (cell := cellB) hcell
    (fun z h => by rw [h] at hobj; cases hobj) hselP hmethM habM hkP hkPi (g := g) hg (argsL := argsL) (rest := rest) (hlen _ hsigM) hstack hdg
  rcases hK m meth c ⟨T.setVm vm₁, locs, cells, slots⟩ { g with stack := rest } (.invokevirtual index) mk (Value.ref b :: argsL).toArray X₁ hg hsize hdg hW (X₁.named hnamed) (hpre vm₁ X₁.warmed) with ⟨v, B, X', hpost, hsteps⟩ | ⟨q, B, X', hpost, hsteps⟩
  · exact Or.inl ⟨v, vm₁, B, X₁.warmed, X', hpost, fun target h => hstep₁ _ fun acts => by rw [doInvoke_state]; exact hsteps.trans h⟩
  · exact Or.inr ⟨q, vm₁, B, X₁.warmed, X', hpost, hstep₁ _ fun acts => by rw [doInvoke_state]; exact hsteps⟩
theorem vx_callSX (X : Stand p l e R s m args below meth c T locs cells slots) (hexec : p.tables.exec = Jvm.exec) {own : String} {index : Nat} {y : MethodName} {bytes : ByteArray} {maxL : Nat} {ret : Option FieldType} {hh : List (Nat × Nat × Nat × Nat)}
    (hown : s.vm.findClass own = some m.cls) (hlink : (Cond.methodLink own index y).before args s = true) (hstat : (Cond.static y).before args s = true) (hinit : (Cond.initialized y.cls).before args s = true)
    (hcode : (Cond.codeWith y bytes maxL ret hh).before args s = true) (hy : y.cls ≠ "java/lang/invoke/MethodHandle" ∧ y.cls ≠ "java/lang/invoke/VarHandle")
    {W9 : Nat} {Pre : Pt → Array Value → Prop} {Post : Pt → Array Value → Option Value → Pt → Prop} {PostX : Pt → Array Value → Addr → Pt → Prop} (hK : vx_Back l R p e below s args y 3 W9 Pre Post PostX)
    {g : JFrame} (hg : g.method = m) (hsize : g.locals.size = c.maxLocals) {argsL rest : List Value} (hlen : ∀ sig, parseMethodDescriptor y.desc = some sig → argsL.length = sig.parameters.length)
    (hstack : g.stack = argsL.reverse ++ rest) (hW : 2 * g.monitorRoom + (rest.map fun v => v.category).sum ≤ W9) (hdg : decode c.code g.pc = .ok (.invokestatic index, 3))
    (hpre : ∀ vm₁, s.WarmedH vm₁ → Pre ⟨T.setVm vm₁, locs, cells, slots⟩ argsL.toArray) :
    (∃ (v : Option Value) (vm₁ : Vm) (B : Pt), s.WarmedH vm₁ ∧ Stand p l e R s m args below meth c B.U B.locs B.cells B.slots ∧ Post ⟨T.setVm vm₁, locs, cells, slots⟩ argsL.toArray v B ∧
      ∀ target, Steps p.tables e below (B.U.setTop { g with pc := g.pc + 3, stack := v.toList ++ rest }) target → Steps p.tables e below (T.setTop g) target) ∨
    (∃ (q : Addr) (vm₁ : Vm) (B : Pt), s.WarmedH vm₁ ∧ Stand p l e R s m args below meth c B.U B.locs B.cells B.slots ∧ PostX ⟨T.setVm vm₁, locs, cells, slots⟩ argsL.toArray q B ∧
      Steps p.tables e below (T.setTop g) ((B.U.setTop { g with stack := rest }).pushFrame (.throwing q))) := by
  obtain ⟨mk, methM, cM, hnamed, hmethM, -, -, -, -, -, -, hsigM⟩ := Cond.codeWith_spec hcode
  have hstatic : methM.isStatic = true := Cond.static_spec hnamed hmethM hstat
  obtain ⟨kP, hkP, -⟩ := className_of_methodNamed hnamed
  have hinitP : kP.init = .initialized := Cond.initialized_spec (findClass_of_methodNamed hnamed) hkP hinit
  obtain ⟨vm₁, X₁, hstep₁⟩ := X.invokestatic hexec hown hlink hnamed hmethM hstatic hkP hinitP hy (g := g) hg (argsL := argsL) (rest := rest) (hlen _ hsigM) hstack hdg
  rcases hK m meth c ⟨T.setVm vm₁, locs, cells, slots⟩ { g with stack := rest } (.invokestatic index) mk argsL.toArray X₁ hg hsize hdg hW (X₁.named hnamed) (hpre vm₁ X₁.warmed) with ⟨v, B, X', hpost, hsteps⟩ | ⟨q, B, X', hpost, hsteps⟩
  · exact Or.inl ⟨v, vm₁, B, X₁.warmed, X', hpost, fun target h => hstep₁ _ fun acts => by rw [doInvoke_state]; exact hsteps.trans h⟩
  · exact Or.inr ⟨q, vm₁, B, X₁.warmed, X', hpost, hstep₁ _ fun acts => by rw [doInvoke_state]; exact hsteps⟩
theorem vx_callVW (X : Stand p l e R s m args below meth c T locs cells slots) (hexec : p.tables.exec = Jvm.exec) {own C : String} {index : Nat} {y : MethodName} {bytes : ByteArray} {maxL : Nat} {ret : Option FieldType} {hh : List (Nat × Nat × Nat × Nat)}
    (hown : s.vm.findClass own = some m.cls) (hlink : (Cond.methodLink own index y).before args s = true) (hinst : (Cond.instanceMethod y).before args s = true) (hsel : (Cond.selects C y y).before args s = true)
    (hcode : (Cond.codeWith y bytes maxL ret hh).before args s = true) (hy : y.cls ≠ "java/lang/invoke/MethodHandle" ∧ y.cls ≠ "java/lang/invoke/VarHandle")
    {W9 : Nat} {Pre : Pt → Array Value → Prop} {Post : Pt → Array Value → Option Value → Pt → Prop} (hK : Back l R p e below s args y 3 W9 Pre Post)
    {b : Addr} {cellB : Cell} (hcell : T.heap[b]? = some cellB) (hobj : cellB.vm.isStatics = false) (hcls : s.vm.findClass C = some cellB.cls)
    {g : JFrame} (hg : g.method = m) (hsize : g.locals.size = c.maxLocals) {argsL rest : List Value} (hlen : ∀ sig, parseMethodDescriptor y.desc = some sig → argsL.length = sig.parameters.length)
    (hstack : g.stack = argsL.reverse ++ .ref b :: rest) (hW : 2 * g.monitorRoom + (rest.map fun v => v.category).sum ≤ W9) (hdg : decode c.code g.pc = .ok (.invokevirtual index, 3))
    (hpre : ∀ vm₁, s.WarmedH vm₁ → Pre ⟨T.setVm vm₁, locs, cells, slots⟩ (Value.ref b :: argsL).toArray) :
    ∃ (v : Option Value) (vm₁ : Vm) (B : Pt), s.WarmedH vm₁ ∧ Stand p l e R s m args below meth c B.U B.locs B.cells B.slots ∧ Post ⟨T.setVm vm₁, locs, cells, slots⟩ (Value.ref b :: argsL).toArray v B ∧
      ∀ target, Steps p.tables e below (B.U.setTop { g with pc := g.pc + 3, stack := v.toList ++ rest }) target → Steps p.tables e below (T.setTop g) target := by
  obtain ⟨mk, methM, hnamed, hmethM, hstM, habM⟩ := Cond.instanceMethod_spec hinst
  obtain ⟨m8, methM', cM, hn8, hmethM', -, -, -, -, -, -, hsigM⟩ := Cond.codeWith_spec hcode
  cases Option.some.inj (hn8.symm.trans hnamed)
  cases hmethM.symm.trans hmethM'
  obtain ⟨c2, r2, m2, q1, q2, q3, q4, kP, hkP, hkPi⟩ := Cond.selects_spec hsel
  cases hcls.symm.trans q1
  cases (State.methodFound?_of_named hnamed hy).symm.trans q2
  cases hnamed.symm.trans q3
  have hselP : selectMethod e.platform s.vm cellB.cls mk = .method mk := by rw [Launch.admits_selectMethod X.admits]; exact q4
  obtain ⟨vm₁, X₁, hstep₁⟩ := X.invokevirtual hexec hown hlink hnamed hmethM hstM hkP hkPi hy (a := b) (cell := cellB) hcell
    (fun z h => by rw [h] at hobj; cases hobj) hselP hmethM habM hkP hkPi (g := g) hg (argsL := argsL) (rest := rest) (hlen _ hsigM) hstack hdg
  obtain ⟨v, B, X', hpost, hsteps⟩ := hK m meth c ⟨T.setVm vm₁, locs, cells, slots⟩ { g with stack := rest } (.invokevirtual index) mk (Value.ref b :: argsL).toArray X₁ hg hsize hdg hW (X₁.named hnamed) (hpre vm₁ X₁.warmed)
  exact ⟨v, vm₁, B, X₁.warmed, X', hpost, fun target h => hstep₁ _ fun acts => by rw [doInvoke_state]; exact hsteps.trans h⟩
abbrev vx_CVW (R : Room) (s : State) (args : Array Value) (own C : String) (index : Nat) (y : MethodName) (bytes : ByteArray) (maxL : Nat) (ret : Option FieldType) (hh : List (Nat × Nat × Nat × Nat)) (ws : List Cond) (rm : Room) (mc ms n : Nat) : Prop :=
  (rm.cells = mc ∧ rm.slots = ms ∧ rm.frames + 1 ≤ R.frames ∧ 8 + (maxL + 11) + rm.locals ≤ R.locals ∧ (∀ w ∈ ws, ∀ (a' : Array Value) (U : State), s.WarmedH U.vm → w.before a' U = true) ∧ Cond.codeWith y bytes maxL ret hh ∈ ws) ∧
  (Cond.codeWith y bytes maxL ret hh).before args s = true ∧ (Cond.initialized y.cls).before args s = true ∧ (y.cls ≠ "java/lang/invoke/MethodHandle" ∧ y.cls ≠ "java/lang/invoke/VarHandle") ∧
  (∀ sig, parseMethodDescriptor y.desc = some sig → n = sig.parameters.length) ∧ (Cond.methodLink own index y).before args s = true ∧ (Cond.instanceMethod y).before args s = true ∧ (Cond.selects C y y).before args s = true
theorem vx_cwVW {own C : String} {index maxL mc ms : Nat} {y : MethodName} {bytes : ByteArray} {ret : Option FieldType} {hh : List (Nat × Nat × Nat × Nat)} {Ts ws ws' : List Cond} {rm : Room} (n : Nat) (ht : ∀ w ∈ Ts, w.before args s = true) (hT : GoodIn Ts (wsV own index C y ws)) (hw : ws = Cond.codeWith y bytes maxL ret hh :: ws') (hrc : rm.cells = mc) (hrs : rm.slots = ms)
    (hd : y.cls = C ∧ y.cls ≠ "java/lang/invoke/MethodHandle" ∧ y.cls ≠ "java/lang/invoke/VarHandle" ∧ (parseMethodDescriptor y.desc).map (fun d => d.parameters.length) = some n) (hR : rm.frames + 1 ≤ R.frames ∧ 8 + (maxL + 11) + rm.locals ≤ R.locals) :
    vx_CVW R s args own C index y bytes maxL ret hh ws rm mc ms n := by
  obtain ⟨hC, hd⟩ := hd
  subst hC
  have ok : ∀ w ∈ wsV own index y.cls y ws, w.before args s = true := fun w h => ht w (hT w h).1
  have hG : GoodIn Ts ws := fun w h => hT w (by unfold wsV; exact List.mem_append_right _ h)
  have hc : Cond.codeWith y bytes maxL ret hh ∈ ws := by rw [hw]; exact List.mem_cons_self
  refine ⟨⟨hrc, hrs, hR.1, hR.2, pay_in ht hG, hc⟩, ht _ (hG _ hc).1, ok _ (by simp [wsV]), ⟨hd.1, hd.2.1⟩, fun sig h => ?_, ok _ (by simp [wsV]), ok _ (by simp [wsV]), ok _ (by simp [wsV])⟩
  have h2 := hd.2.2
  rw [h] at h2
  exact (Option.some.inj h2).symm
theorem vx_runVW {y : MethodName} {bytes cc : ByteArray} {maxL nL mc ms n index : Nat} {ret : Option FieldType} {hh : List (Nat × Nat × Nat × Nat)} {ws : List Cond} {rm : Room} {Pc : Array Value → State → Prop} {Qc : Array Value → State → Outcome → State → Prop} {free : Addr → Prop} {Ts : List Cond} {own C : String} {b : Addr} {As rest : List Value} {g : JFrame}
    (S : CallFix p m c cc nL s args Ts own) (hM : Met l y ws rm Pc Qc mc ms free) (cw : vx_CVW R s args own C index y bytes maxL ret hh ws rm mc ms n) (hp : PreV s H C b Pc As)
    (hg : g.method = m) (hn : As.length = n) (hsize : g.locals.size = nL) (hstack : g.stack = As.reverse ++ .ref b :: rest) (hW : 2 * g.monitorRoom + (rest.map fun v => v.category).sum ≤ 8) (hdg : decode cc g.pc = .ok (.invokevirtual index, 3)) (hf : cells + mc ≤ R.cells ∧ slots + ms ≤ R.slots) :
    va_Run p l e R s m args below meth c H locs cells slots mc ms g rest (Qc (Value.ref b :: As).toArray) free := by
  obtain ⟨⟨hrc, hrs, hfr, hlo, hws, hcw⟩, hcode, hini, hy, hlen, hl, hin, hse⟩ := cw
  have hK : Back l R p e below s args y 3 8 (PreOf R mc ms Pc) (PostOf Qc mc ms free) := va_backW (hh := hh) (bytes := bytes) (maxL := maxL) (ret := ret) hM hp.1 hrc hrs hfr hlo hws hcw (fun a' U hW => word_at hW (Or.inl (by first | rfl | simp [Cond.onTables, Cond.keeps, Cond.steady])) hini)
  obtain ⟨hx, hb, hml, ho, -⟩ := S
  obtain ⟨-, ⟨cellB, hcB, hoB, hclB⟩, hPc⟩ := hp
  intro T hT X
  obtain ⟨v, vm₁, ⟨U', l2, c2, s2⟩, hW₁, X', ⟨g', mk, t, L, e1, e2, hq, h1, hL, h2, h3⟩, st⟩ := vx_callVW X hx (C := C) (hh := hh) (bytes := bytes) (maxL := maxL) (ret := ret) ho hl hin hse hcode hy hK (by rw [hT]; exact hcB) hoB hclB hg (hsize.trans hml.symm) (argsL := As) (rest := rest) (fun sig h => hn.trans (hlen sig h)) hstack hW (by rw [hb]; exact hdg)
    (fun vm₁ hW₁ => ⟨hf.1, hf.2, hPc (T.setVm vm₁) hT hW₁⟩)
  dsimp only [Pt.U, Pt.locs, Pt.cells, Pt.slots] at X' e1 e2 h1 h2 h3 st
  subst h1; subst h2; subst h3
  exact ⟨v, (T.setVm vm₁).calling g' mk (Value.ref b :: As).toArray, t, U', L, hT, X', hL, e1, e2, hq, st⟩
section
variable {y : MethodName} {bytes cc : ByteArray} {maxL nL mc ms n index : Nat} {ret : Option FieldType} {ws : List Cond} {rm : Room} {Pc : Array Value → State → Prop} {Qc : Array Value → State → Outcome → State → Prop} {XC : String → State → State → Prop} {free : Addr → Prop} {Ts : List Cond} {own C : String} {b : Addr} {As rest : List Value} {g : JFrame}
theorem vx_runVX {hh : List (Nat × Nat × Nat × Nat)} (S : CallFix p m c cc nL s args Ts own) (hM : vx_Met l y ws rm Pc Qc XC mc ms free) (cw : vx_CVW R s args own C index y bytes maxL ret hh ws rm mc ms n) (hp : PreV s H C b Pc As)
    (hg : g.method = m) (hn : As.length = n) (hsize : g.locals.size = nL) (hstack : g.stack = As.reverse ++ .ref b :: rest) (hW : 2 * g.monitorRoom + (rest.map fun v => v.category).sum ≤ 8) (hdg : decode cc g.pc = .ok (.invokevirtual index, 3)) (hf : cells + mc ≤ R.cells ∧ slots + ms ≤ R.slots) :
    vx_Run p l e R s m args below meth c H locs cells slots mc ms g rest (Qc (Value.ref b :: As).toArray) XC free := by
  obtain ⟨⟨hrc, hrs, hfr, hlo, hws, hcw⟩, hcode, hini, hy, hlen, hl, hin, hse⟩ := cw
  have hK : vx_Back l R p e below s args y 3 8 (PreOf R mc ms Pc) (PostOf Qc mc ms free) (vx_Post XC mc ms free) := vx_backW (hh := hh) (bytes := bytes) (maxL := maxL) (ret := ret) hM hp.1 hrc hrs hfr hlo hws hcw (fun a' U hW => word_at hW (Or.inl (by first | rfl | simp [Cond.onTables, Cond.keeps, Cond.steady])) hini)
  obtain ⟨hx, hb, hml, ho, -⟩ := S
  obtain ⟨-, ⟨cellB, hcB, hoB, hclB⟩, hPc⟩ := hp
  intro T hT X
  rcases vx_callVX X hx (C := C) (hh := hh) (bytes := bytes) (maxL := maxL) (ret := ret) ho hl hin hse hcode hy hK (by rw [hT]; exact hcB) hoB hclB hg (hsize.trans hml.symm) (argsL := As) (rest := rest) (fun sig h => hn.trans (hlen sig h)) hstack hW (by rw [hb]; exact hdg)
    (fun vm₁ hW₁ => ⟨hf.1, hf.2, hPc (T.setVm vm₁) hT hW₁⟩) with ⟨v, vm₁, ⟨U', l2, c2, s2⟩, hW₁, X', ⟨g', mk, t, L, e1, e2, hq, h1, hL, h2, h3⟩, st⟩ | ⟨q, vm₁, ⟨U', l2, c2, s2⟩, hW₁, X', ⟨g', mk, t, L, E, ce, e1, e2, hq, hce, hcv, hcl, h1, hL, h2, h3⟩, st⟩
  · dsimp only [Pt.U, Pt.locs, Pt.cells, Pt.slots] at X' e1 e2 h1 h2 h3 st
    subst h1; subst h2; subst h3
    exact Or.inl ⟨v, (T.setVm vm₁).calling g' mk (Value.ref b :: As).toArray, t, U', L, hT, X', hL, e1, e2, hq, st⟩
  · dsimp only [Pt.U, Pt.locs, Pt.cells, Pt.slots] at X' e1 e2 h1 h2 h3 st hcl
    subst h1; subst h2; subst h3
    exact Or.inr ⟨q, (T.setVm vm₁).calling g' mk (Value.ref b :: As).toArray, t, U', L, E, ce, hT, X', hL, e1, e2, hq, hce, hcv, vx_cls hW₁ hcl, st⟩
theorem vx_runSX {hh : List (Nat × Nat × Nat × Nat)} (S : CallFix p m c cc nL s args Ts own) (hM : vx_Met l y ws rm Pc Qc XC mc ms free) (cw : vx_CSW R s args own index y bytes maxL ret hh ws rm mc ms n) (hp : PreS s H Pc As)
    (hg : g.method = m) (hn : As.length = n) (hsize : g.locals.size = nL) (hstack : g.stack = As.reverse ++ rest) (hW : 2 * g.monitorRoom + (rest.map fun v => v.category).sum ≤ 8) (hdg : decode cc g.pc = .ok (.invokestatic index, 3)) (hf : cells + mc ≤ R.cells ∧ slots + ms ≤ R.slots) :
    vx_Run p l e R s m args below meth c H locs cells slots mc ms g rest (Qc As.toArray) XC free := by
  obtain ⟨⟨hrc, hrs, hfr, hlo, hws, hcw⟩, hcode, hini, hy, hlen, hl, hstt⟩ := cw
  have hK : vx_Back l R p e below s args y 3 8 (PreOf R mc ms Pc) (PostOf Qc mc ms free) (vx_Post XC mc ms free) := vx_backW (hh := hh) (bytes := bytes) (maxL := maxL) (ret := ret) hM hp.1 hrc hrs hfr hlo hws hcw (fun a' U hW => word_at hW (Or.inl (by first | rfl | simp [Cond.onTables, Cond.keeps, Cond.steady])) hini)
  obtain ⟨hx, hb, hml, ho, -⟩ := S
  intro T hT X
  rcases vx_callSX X hx (hh := hh) (bytes := bytes) (maxL := maxL) (ret := ret) ho hl hstt hini hcode hy hK hg (hsize.trans hml.symm) (argsL := As) (rest := rest) (fun sig h => hn.trans (hlen sig h)) hstack hW (by rw [hb]; exact hdg)
    (fun vm₁ hW₁ => ⟨hf.1, hf.2, hp.2 (T.setVm vm₁) hT hW₁⟩) with ⟨v, vm₁, ⟨U', l2, c2, s2⟩, hW₁, X', ⟨g', mk, t, L, e1, e2, hq, h1, hL, h2, h3⟩, st⟩ | ⟨q, vm₁, ⟨U', l2, c2, s2⟩, hW₁, X', ⟨g', mk, t, L, E, ce, e1, e2, hq, hce, hcv, hcl, h1, hL, h2, h3⟩, st⟩
  · dsimp only [Pt.U, Pt.locs, Pt.cells, Pt.slots] at X' e1 e2 h1 h2 h3 st
    subst h1; subst h2; subst h3
    exact Or.inl ⟨v, (T.setVm vm₁).calling g' mk As.toArray, t, U', L, hT, X', hL, e1, e2, hq, st⟩
  · dsimp only [Pt.U, Pt.locs, Pt.cells, Pt.slots] at X' e1 e2 h1 h2 h3 st hcl
    subst h1; subst h2; subst h3
    exact Or.inr ⟨q, (T.setVm vm₁).calling g' mk As.toArray, t, U', L, E, ce, hT, X', hL, e1, e2, hq, hce, hcv, vx_cls hW₁ hcl, st⟩
end
end VXH
theorem vx_ofWH {l : Launch} {y : MethodName} {ws ws' : List Cond} {rm : Room} {Pc : Array Value → State → Prop} {Qc : Array Value → State → Outcome → State → Prop} {XC : String → State → State → Prop} {mc ms : Nat} {free : Addr → Prop} {cc : ByteArray} {maxL : Nat} {ret : Option FieldType} {hh : List (Nat × Nat × Nat × Nat)}
    (hy : plainName y.cls = true) (hw : ws = Cond.codeWith y cc maxL ret hh :: ws')
    (body : ∀ p e s m args below meth c s₁, BodyLoose p l y (headSpec ws rm) cc maxL ret e s m args below meth c s₁ → c.maxLocals = maxL → Pc args s →
      W p l e (headSpec ws rm).room s m args below meth c s.heap [] 0 0 (vx_MQ below Qc XC args s mc ms free) (entryFrame m args maxL)) : vx_Met l y ws rm Pc Qc XC mc ms free := by
  refine MetFree.of_bodyS (code := cc) (maxLocals := maxL) (ret := ret) hy ?_ ?_
  · intro args s m h hn
    obtain ⟨m9, meth, c, hn9, h1, h2, h3, h4, -, h5, h6, -⟩ := Cond.codeWith_spec (atoms_spec (ws := ws) h _ (by rw [hw]; exact List.mem_cons_self))
    cases hn.symm.trans hn9
    exact ⟨meth, c, h1, h2, h3, h4, h5, h6⟩
  · intro p e s m args below meth c s₁ B hml hP _
    have hh0 : s₁.heap = s.heap := by rw [B.state]; rfl
    obtain ⟨t, a1, o, b1, b2, b3⟩ := body p e s m args below meth c s₁ B hml hP s₁ hh0 (Stand.of_body B)
    exact ⟨t, o, a1, b1, b2, b3⟩
/-! ===== END ===== -/

/-! ===== BEGIN what the machine throws by itself, no traces kept ===== -/
section VXM
set_option maxHeartbeats 1000000 in
/-- the machine throws cls with the message text, no traces kept: from its note over the frame g to 'throwing' over the same frame (follows the proofs of Stand.vmThrowsMessage, Shelf/KitTracedVmS.lean, and Stand.throwsMessageColdBareV, StandMessageColdV.lean, without the step out of the frame) -/
theorem vx_vmAt {p : Program} {l : Launch} {e : Env} {R : Room} {s : State} {m₀ : MethodId} {args : Array Value} {below : List Frame} {meth : Method} {c : Code} {W : State} {locs : List Loc} {cells slots : Nat}
    (X : Stand p l e R s m₀ args below meth c W locs cells slots) (hexec : p.tables.exec = Jvm.exec) (htr : e.platform.stackTraces = false) {cls : String} {names : List String} {text : String}
    (hcls : Bundle.fit cls = true) (hnames : ∀ n ∈ names, Bundle.fit n = true) (hsoe : (cls == "java/lang/StackOverflowError") = false) (hoom : (cls == "java/lang/OutOfMemoryError") = false)
    (h : ∀ a ∈ Bundle.messageArmAtoms cls names, a.before args s = true)
    (hlocs : ∀ x ∈ locs, ∀ cell, s.heap[x.base]? = some cell → cell.vm.isStatics = false)
    (htext : (text == notModelled) = false) (hlimit : ¬ (stringBytes (stringToUtf16 text)).size > e.platform.arrayLengthLimit) (hheap : ¬ (stringBytes (stringToUtf16 text)).size * componentBytes .byte > e.platform.maxHeapBytes)
    {g : JFrame} (hg : g.method = m₀) (hsize : g.locals.size = c.maxLocals)
    (hRframes : names.length + 4 < R.frames) (hRlocals : 2 * g.monitorRoom + (g.stack.map fun v => v.category).sum + 10240 ≤ R.locals) (hshort : 13 * names.length + 55 ≤ 10240)
    (hRcells : cells + 3 ≤ R.cells) (hRslots : slots + ((stringBytes (stringToUtf16 text)).size + 4 + 6) ≤ R.slots) (hlocks : meth.locks = false) :
    ∃ (S : State) (q : Addr) (ce : Cell), (∀ target, Steps p.tables e below ((S.setTop g).pushFrame (.throwing q)) target → Steps p.tables e below ((W.setTop g).pushFrame (.throwNew cls (some text) none)) target) ∧
      Stand p l e R s m₀ args below meth c S locs (cells + 3) (slots + ((stringBytes (stringToUtf16 text)).size + 4 + 6)) ∧ S.heap[q]? = some ce ∧ s.vm.findClass cls = some ce.cls ∧ ce.vm = .none := by
  have howns : e.platform.frameOwnsMonitors = true := by rw [X.admits.platform]
  have hfin : e.platform.finalization = false := by rw [X.admits.platform]
  have hpl : e.platform.magicAccessors = ({} : Platform).magicAccessors := by rw [X.admits.platform]
  have a : ∀ x, x ∈ Bundle.messageArmAtoms cls names → x.holds args s none s [] = true := fun x hx => h x hx
  obtain ⟨T, Z0, L, -, Y⟩ := ThrowableC.of_atoms (args := args) howns hfin hpl (fun x hx => h x (by simp [Bundle.messageArmAtoms, hx]))
  obtain ⟨Z, M, LZ, LM, hnZ⟩ := Init0T.ofS_atoms (args := args) hpl L Y (fun x hx => h x (by simp [Bundle.messageArmAtoms, hx]))
  obtain ⟨P1, Ps, hlen, L1, hL, hP1m, hlink1, hlink⟩ := Bundle.chainS (args := args) hpl hnZ names cls hcls hnames (fun x hx => h x (by simp [Bundle.messageArmAtoms, hx]))
  obtain ⟨Zs, LZs, hn4, hfitv, hfitc⟩ := StringT.of_atoms (args := args) (fun x hx => h x (by simp [Bundle.messageArmAtoms, hx]))
  have hfound : s.vm.findClass cls = some P1.m.cls := findClass_of_methodNamed hP1m
  obtain ⟨c1, kX, hc1, hk, hord, -, -, hn6⟩ := Cond.instantiable_spec (a (.instantiable cls 6) (by simp [Bundle.messageArmAtoms]))
  cases Option.some.inj (hc1.symm.trans hfound)
  have hinit := Cond.initialized_spec hfound hk (a (.initialized cls) (by simp [Bundle.messageArmAtoms]))
  have hctor : kX.findMethod "<init>" "(Ljava/lang/String;)V" = some P1.m.idx := findMethod_of_methodNamed hP1m hk
  have hsel0 : selectMethod e.platform s.vm P1.m.cls T.fill0 = .method T.fill0 := by
    obtain ⟨c2, r2, m2, q1, q2, q3, q4, -⟩ := Cond.selects_spec (a (.selects cls Bundle.tFill0 Bundle.tFill0) (by simp [Bundle.messageArmAtoms]))
    cases Option.some.inj (q1.symm.trans hfound)
    cases Option.some.inj (q2.symm.trans (State.methodFound?_of_named Y.fill0 (by decide)))
    cases Option.some.inj (q3.symm.trans Y.fill0)
    rw [Launch.admits_selectMethod X.admits]; exact q4
  have hselF : selectMethod e.platform s.vm P1.m.cls T.fill = .method T.fill := by
    obtain ⟨c2, r2, m2, q1, q2, q3, q4, -⟩ := Cond.selects_spec (a (.selects cls Bundle.tFill Bundle.tFill) (by simp [Bundle.messageArmAtoms]))
    cases Option.some.inj (q1.symm.trans hfound)
    cases Option.some.inj (q2.symm.trans (State.methodFound?_of_named Y.fill (by decide)))
    cases Option.some.inj (q3.symm.trans Y.fill)
    rw [Launch.admits_selectMethod X.admits]; exact q4
  obtain ⟨cellS0, hcS0, hiss⟩ := Y.statics
  obtain ⟨u0, hu0⟩ := Cond.staticRefV Y.unassigned L.unassignedStatic L.statics hcS0 hiss (a (.isRef (.static Bundle.tN "UNASSIGNED_STACK" Bundle.steD)) (by simp [Bundle.messageArmAtoms]))
  obtain ⟨sen, hsen⟩ := Cond.staticRefV Y.sentinel L.sentinelStatic L.statics hcS0 hiss (a (.isRef (.static Bundle.tN "SUPPRESSED_SENTINEL" Bundle.listD)) (by simp [Bundle.messageArmAtoms]))
  obtain ⟨ci198, i198, fB, hk198, hg198, ha198, hsB, -, hnB, htB, hffB⟩ := Cond.ownField (t := .object "java/lang/Object") Y.found L.cls (by decide +kernel) (a (.fieldLink Bundle.tN 198 Bundle.tN "backtrace" "Ljava/lang/Object;") (by simp [Bundle.messageArmAtoms])) (a (.lays Bundle.tN Bundle.tN "backtrace" "Ljava/lang/Object;") (by simp [Bundle.messageArmAtoms])) e.platform hpl
  obtain ⟨cellS, hcS', heS, -, hkeep⟩ := X.same.2.2.2.2.2 T.aS cellS0 hcS0
  have hcellS : W.heap[T.aS]? = some cellS := hcS'
  have hout' : ∀ i, (⟨T.aS, i⟩ : Loc) ∉ locs := fun i hmem => by
    have := hlocs _ hmem cellS0 hcS0
    rw [hiss] at this; cases this
  have hknownS : cellS.vm ≠ .unknown := by
    rw [heS]; intro hu
    rw [show cellS0.vm = .unknown from hu] at hiss
    cases hiss
  have hvU : cellS.slots[T.fUnassigned.slot]? = some u0.v := by rw [hkeep _ (hout' _)]; exact hu0
  have hvSen : cellS.slots[T.fSentinel.slot]? = some sen.v := by rw [hkeep _ (hout' _)]; exact hsen
  obtain ⟨iM, hffM⟩ := Y.msg
  obtain ⟨tyC, dC, hdC, hdnC⟩ := Cond.laysAt hfound hk Y.cause (a (.lays cls Bundle.tN "cause" "Ljava/lang/Throwable;") (by simp [Bundle.messageArmAtoms]))
  obtain ⟨tyS, dS, hdS, hdnS⟩ := Cond.laysAt hfound hk Y.stack (a (.lays cls Bundle.tN "stackTrace" Bundle.steD) (by simp [Bundle.messageArmAtoms]))
  obtain ⟨tyP, dP, hdP, hdnP⟩ := Cond.laysAt hfound hk Y.supp (a (.lays cls Bundle.tN "suppressedExceptions" Bundle.listD) (by simp [Bundle.messageArmAtoms]))
  obtain ⟨tyM, dM, hdM, hdnM⟩ := Cond.laysAt hfound hk hffM (a (.lays cls Bundle.tN "detailMessage" "Ljava/lang/String;") (by simp [Bundle.messageArmAtoms]))
  obtain ⟨tyB, dB, hdB, hdnB⟩ := Cond.laysAt hfound hk hffB (a (.lays cls Bundle.tN "backtrace" "Ljava/lang/Object;") (by simp [Bundle.messageArmAtoms]))
  have bC := Cond.laysApart hdB hdC hdnB hdnC (by rw [hnB, Y.causeName]; decide)
  have bS := Cond.laysApart hdB hdS hdnB hdnS (by rw [hnB, Y.stackName]; decide)
  have bP := Cond.laysApart hdB hdP hdnB hdnP (by rw [hnB, Y.suppName]; decide)
  have hbk : ((preparedCellV T.toThrowableT (freshCell P1.m.cls kX) (W.heap.size + 2) u0 sen).withEntry W.cur).slots[fB.slot]? = some .null := by
    have := fresh_default (c := P1.m.cls) tyB
    rw [htB] at this
    simpa [preparedCellV, Cell.setSlot, Cell.withEntry, Array.getElem?_setIfInBounds, bC, bS, bP, bC.symm, bS.symm, bP.symm, defaultValue] using this
  have tkC := Takes.of_laid (v := .ref (W.heap.size + 2)) hk hord tyC (by rw [Y.causeType]; rfl)
  have tkS := Takes.of_laid (v := u0.v) hk hord tyS (by rw [Y.stackType]; exact fits_refV_array _ u0)
  have tkP := Takes.of_laid (v := sen.v) hk hord tyP (by rw [Y.suppType]; exact fits_refV_object _ sen)
  have tkM := Takes.of_laid (v := .ref (W.heap.size + 1)) hk hord tyM (by rw [Y.msgType]; rfl)
  have hskip : SkipFacts T e.platform s (fun u => u) u0 ((preparedCellV T.toThrowableT (freshCell P1.m.cls kX) (W.heap.size + 2) u0 sen).withEntry W.cur) := ⟨{ ci198 := ci198, i198 := i198, fBack := fB }, ⟨hk198, hg198, ha198, hsB⟩, hbk, fun _ _ => rfl⟩
  have h0 : At W g.method c below := by rw [hg]; exact X.here
  obtain ⟨hbeyond, hfreeW⟩ := X.vmMayThrow hsize (.throwNew cls (some text) none) (fun f hf => by cases hf) rfl hRlocals
  have hfr' : W.frames.length + Ps.length + 4 < (e.platform.stackLimits W.me).1 := by have := X.framesAbove hRframes; omega
  have hwd' : (stackUse (.java g :: W.frames.tail)).2 + 13 * Ps.length + 55 ≤ (e.platform.stackLimits W.me).2 := by have := X.stackAbove hsize (K := 13 * Ps.length + 55) (by omega); omega
  have hslots : W.slotsUsed + (stringBytes (stringToUtf16 text)).size + Zs.kS.instanceTypes.size + kX.instanceTypes.size ≤ e.platform.maxSlots := by
    have := X.slotsAbove hRslots
    rw [hn4, hn6]
    omega
  obtain ⟨vm', hW', st⟩ := Steps.vmThrowsMessageColdByV p (s₀ := s) (S := W) (g := g) h0 hexec T L Z LZ M LM X.warmed (t := W.cur) rfl Zs LZs P1 L1 Ps hL hlink1 hlink hsoe hoom hfound hk hinit hord hctor
    (Launch.admits_hotImplicitExceptions X.admits) hbeyond hfreeW htext hlimit hheap (X.cellsAbove hRcells) hslots (hfitv _) (hfitc _)
    (Nn := fun u => u) heapOnly_id (fun _ _ => rfl) (fun _ => rfl) (fun u x y => setCell_twice _ _ _ _) (fun _ => Nat.le_refl _) (cN := ((preparedCellV T.toThrowableT (freshCell P1.m.cls kX) (W.heap.size + 2) u0 sen).withEntry W.cur))
    hsel0 hcellS hknownS hvU tkS (fun _ hu => hu) (fun _ hu => hu) rfl rfl rfl (by simp [preparedCellV, Cell.setSlot, Cell.withEntry]) hskip (fun _ _ hA hW _ hroom _ hrest => L.nativeOff p htr hA hW hroom hrest) hselF hvSen tkC tkP tkM Y.objLocals rfl hfr' hwd'
  rw [plainBareV_eq T.toThrowableT (W.heap.size + 2) u0 sen (.ref (W.heap.size + 1)) W.cur rfl rfl] at st
  obtain ⟨-, -, w3, w4, -, -, -⟩ := withThrown_facts e.platform W Zs text P1.m.cls kX
  have X3 := ((X.pushed (bytesOf Zs.cB (stringToUtf16 text))).pushed (stringAt Zs.cS Zs.kS Zs.fv Zs.fc (stringToUtf16 text) W.heap.size)).pushed (freshCell P1.m.cls kX)
  rw [← withString_eq] at X3
  have X4 := X3.noted hW'
  have ha : (W.heap.size + 2) < ((withThrown W Zs text P1.m.cls kX).setVm vm').heap.size := by show _ < (withThrown W Zs text P1.m.cls kX).heap.size; rw [w3]; omega
  have hcell : ((withThrown W Zs text P1.m.cls kX).setVm vm').heap[(W.heap.size + 2)]? = some (freshCell P1.m.cls kX) := w4
  have X5 := ((((X4.stored hcell T.fCause.slot (.ref (W.heap.size + 2))).storedAgain ha T.fStack.slot u0.v).storedAgain ha T.fSupp.slot sen.v).storedAgain ha T.fStack.slot u0.v).storedAgain ha T.fMsg.slot (.ref (W.heap.size + 1))
  obtain ⟨g₁, hfrM⟩ := X5.frames_eq
  have hU : ((((withThrown W Zs text P1.m.cls kX).setVm vm').setCell (W.heap.size + 2) (plainBareV T.toThrowableT (freshCell P1.m.cls kX) (W.heap.size + 2) u0 sen (.ref (W.heap.size + 1)))).setTop g).pushFrame (.throwing (W.heap.size + 2)) = (((withThrown W Zs text P1.m.cls kX).setVm vm').setCell (W.heap.size + 2) (plainBareV T.toThrowableT (freshCell P1.m.cls kX) (W.heap.size + 2) u0 sen (.ref (W.heap.size + 1)))).setFrames (.throwing (W.heap.size + 2) :: .java g :: below) := by
    rw [State.pushFrame, State.frames_setTop _ hfrM, State.setTop_of_frames _ hfrM, State.setFrames_setFrames]
  have b1 : (bytesOf Zs.cB (stringToUtf16 text)).slots.size = (stringBytes (stringToUtf16 text)).size := by
    rw [(Cell.writeAll_facts _ _).2.2]; simp [bytes0]
  have b2 : (stringAt Zs.cS Zs.kS Zs.fv Zs.fc (stringToUtf16 text) W.heap.size).slots.size = 4 := by simp [string0, Cell.setSlot, hn4]
  have b3 : (freshCell P1.m.cls kX).slots.size = 6 := by simp [hn6]
  rw [b1, b2, b3] at X5
  have e9 : slots + (stringBytes (stringToUtf16 text)).size + 4 + 6 = slots + ((stringBytes (stringToUtf16 text)).size + 4 + 6) := by omega
  rw [e9] at X5
  simp only [List.append_assoc, List.cons_append, List.nil_append] at X5
  refine ⟨((withThrown W Zs text P1.m.cls kX).setVm vm').setCell (W.heap.size + 2) (plainBareV T.toThrowableT (freshCell P1.m.cls kX) (W.heap.size + 2) u0 sen (.ref (W.heap.size + 1))), W.heap.size + 2, _, fun target ht => st _ (by rw [X.tail, ← hU]; exact ht),
    X5.forget (fun y hy => ?_), heapAt_setCell_self _ ha, hfound, rfl⟩
  simp only [List.mem_cons, List.not_mem_nil, or_false] at hy
  have hge : s.heap.size ≤ W.heap.size := X.same.2.1
  rcases hy with rfl | rfl | rfl | rfl | rfl <;> exact Nat.le_trans hge (Nat.le_add_right _ 2)
set_option maxHeartbeats 1000000 in
/-- the machine throws NullPointerException, no traces kept: from its note over the frame g to 'throwing' over the same frame (follows the proof of Stand.vmThrowsNpe, Shelf42/KT2.lean; throwsNpeColdBareVAt, Shelf42/NT91.lean, called) -/
theorem vx_npeAt {p : Program} {l : Launch} {e : Env} {R : Room} {s : State} {m₀ : MethodId} {args : Array Value} {below : List Frame} {meth : Method} {c : Code} {W : State} {locs : List Loc} {cells slots : Nat}
    (X : Stand p l e R s m₀ args below meth c W locs cells slots) (hexec : p.tables.exec = Jvm.exec) (htr : e.platform.stackTraces = false) {n : Nat}
    (h : ∀ a ∈ Bundle.npeArmAtoms n, a.before args s = true)
    (hlocs : ∀ x ∈ locs, ∀ cell, s.heap[x.base]? = some cell → cell.vm.isStatics = false)
    {g : JFrame} (hg : g.method = m₀) (hsize : g.locals.size = c.maxLocals)
    (hRframes : 7 < R.frames) (hRlocals : 2 * g.monitorRoom + (g.stack.map fun v => v.category).sum + 10240 ≤ R.locals)
    (hRcells : cells + 1 ≤ R.cells) (hRslots : slots + n ≤ R.slots) (hlocks : meth.locks = false) :
    ∃ (S : State) (q : Addr) (ce : Cell), (∀ target, Steps p.tables e below ((S.setTop g).pushFrame (.throwing q)) target → Steps p.tables e below ((W.setTop g).pushFrame (.throwNew "java/lang/NullPointerException" none none)) target) ∧
      Stand p l e R s m₀ args below meth c S locs (cells + 1) (slots + n) ∧ S.heap[q]? = some ce ∧ s.vm.findClass "java/lang/NullPointerException" = some ce.cls ∧ ce.vm = .none := by
  have howns : e.platform.frameOwnsMonitors = true := by rw [X.admits.platform]
  have hfin : e.platform.finalization = false := by rw [X.admits.platform]
  have hpl : e.platform.magicAccessors = ({} : Platform).magicAccessors := by rw [X.admits.platform]
  have hpl2 : e.platform.arrayCloneIsPublic = true := by rw [X.admits.platform]
  have a' : ∀ x, x ∈ Bundle.npeArmAtoms n → x.holds args s none s [] = true := fun x hx => h x hx
  obtain ⟨T, Z, L, LZ, Y⟩ := ThrowableC.of_atoms (args := args) howns hfin hpl (fun x hx => h x (by simp [Bundle.npeArmAtoms, hx]))
  obtain ⟨N, LN, hcN, hnNF, hordN, hffS⟩ := NpeC.of_atoms (args := args) hpl hpl2 L Y (fun x hx => h x (by simp [Bundle.npeArmAtoms, hx]))
  obtain ⟨P1, L1, hP1m, hP1s⟩ := PassC.of_atoms (args := args) (s := s) hpl (X := Bundle.nN) (Y := Bundle.rN) (by decide) (by decide) LibCode.NullPointerException.Init0.at_0 LibCode.NullPointerException.Init0.at_1 LibCode.NullPointerException.Init0.at_4 (fun x hx => h x (by simp [Bundle.npeArmAtoms, hx]))
  obtain ⟨PR, LR, hPRm, hPRs⟩ := PassC.of_atoms (args := args) (s := s) hpl (X := Bundle.rN) (Y := Bundle.eN) (by decide) (by decide) LibCode.RuntimeException.Init0.at_0 LibCode.RuntimeException.Init0.at_1 LibCode.RuntimeException.Init0.at_4 (fun x hx => h x (by simp [Bundle.npeArmAtoms, hx]))
  obtain ⟨PE, LEx, hPEm, hPEs⟩ := PassC.of_atoms (args := args) (s := s) hpl (X := Bundle.eN) (Y := Bundle.tN) (by decide) (by decide) LibCode.Exception.Init0.at_0 LibCode.Exception.Init0.at_1 LibCode.Exception.Init0.at_4 (fun x hx => h x (by simp [Bundle.npeArmAtoms, hx]))
  have hfound : s.vm.findClass Bundle.nN = some P1.m.cls := findClass_of_methodNamed hP1m
  have ecls : N.cN = P1.m.cls := Option.some.inj (hcN.symm.trans hfound)
  have hk : s.vm.classes[P1.m.cls]? = some N.kN := by rw [← ecls]; exact LN.cls
  have hinit := Cond.initialized_spec hfound hk (a' (.initialized Bundle.nN) (by simp [Bundle.npeArmAtoms]))
  have hctor : N.kN.findMethod "<init>" "()V" = some P1.m.idx := findMethod_of_methodNamed hP1m hk
  obtain ⟨c1, k1, hc1, hk1, -, -, -, hn⟩ := Cond.instantiable_spec (a' (.instantiable Bundle.nN n) (by simp [Bundle.npeArmAtoms]))
  cases Option.some.inj (hc1.symm.trans hfound)
  cases Option.some.inj (hk1.symm.trans hk)
  have hfsz : (freshCell P1.m.cls N.kN).slots.size = n := by simp [hn]
  have hlink1 : P1.sup = PR.m := Option.some.inj (hP1s.symm.trans hPRm)
  have hlinkR : PR.sup = PE.m := Option.some.inj (hPRs.symm.trans hPEm)
  have hlinkE : PE.sup = Z.m T.toThrowableT := Option.some.inj (hPEs.symm.trans Y.init0)
  have hLs : ∀ P, P ∈ [PR, PE] → P.Links0 e.platform s := fun P hP => by
    simp only [List.mem_cons, List.not_mem_nil, or_false] at hP
    rcases hP with rfl | rfl
    · exact LR
    · exact LEx
  have hsel0 : selectMethod e.platform s.vm P1.m.cls T.fill0 = .method T.fill0 := by
    obtain ⟨c2, r2, m2, q1, q2, q3, q4, -⟩ := Cond.selects_spec (a' (.selects Bundle.nN Bundle.tFill0 Bundle.tFill0) (by simp [Bundle.npeArmAtoms]))
    cases Option.some.inj (q1.symm.trans hfound)
    cases Option.some.inj (q2.symm.trans (State.methodFound?_of_named Y.fill0 (by decide)))
    cases Option.some.inj (q3.symm.trans Y.fill0)
    rw [Launch.admits_selectMethod X.admits]; exact q4
  have hselF : selectMethod e.platform s.vm P1.m.cls T.fill = .method N.fill := by
    obtain ⟨c2, r2, m2, q1, q2, q3, q4, -⟩ := Cond.selects_spec (a' (.selects Bundle.nN Bundle.tFill Bundle.nFill) (by simp [Bundle.npeArmAtoms]))
    cases Option.some.inj (q1.symm.trans hfound)
    cases Option.some.inj (q2.symm.trans (State.methodFound?_of_named Y.fill (by decide)))
    cases Option.some.inj (q3.symm.trans hnNF)
    rw [Launch.admits_selectMethod X.admits]; exact q4
  obtain ⟨cellS0, hcS0, hiss⟩ := Y.statics
  obtain ⟨u0, hu0⟩ := Cond.staticRefV Y.unassigned L.unassignedStatic L.statics hcS0 hiss (a' (.isRef (.static Bundle.tN "UNASSIGNED_STACK" Bundle.steD)) (by simp [Bundle.npeArmAtoms]))
  obtain ⟨sen, hsen⟩ := Cond.staticRefV Y.sentinel L.sentinelStatic L.statics hcS0 hiss (a' (.isRef (.static Bundle.tN "SUPPRESSED_SENTINEL" Bundle.listD)) (by simp [Bundle.npeArmAtoms]))
  obtain ⟨ci198, i198, fB, hk198, hg198, ha198, hsB, -, hnB, htB, hffB⟩ := Cond.ownField (t := .object "java/lang/Object") Y.found L.cls (by decide +kernel) (a' (.fieldLink Bundle.tN 198 Bundle.tN "backtrace" Bundle.objD) (by simp [Bundle.npeArmAtoms])) (a' (.lays Bundle.tN Bundle.tN "backtrace" Bundle.objD) (by simp [Bundle.npeArmAtoms])) e.platform hpl
  obtain ⟨cellS, hcS', heS, -, hkeep⟩ := X.same.2.2.2.2.2 T.aS cellS0 hcS0
  have hcellS : W.heap[T.aS]? = some cellS := hcS'
  have hout' : ∀ i, (⟨T.aS, i⟩ : Loc) ∉ locs := fun i hmem => by
    have := hlocs _ hmem cellS0 hcS0
    rw [hiss] at this; cases this
  have hknownS : cellS.vm ≠ .unknown := by
    rw [heS]; intro hu
    rw [show cellS0.vm = .unknown from hu] at hiss
    cases hiss
  have hvU : cellS.slots[T.fUnassigned.slot]? = some u0.v := by rw [hkeep _ (hout' _)]; exact hu0
  have hvSen : cellS.slots[T.fSentinel.slot]? = some sen.v := by rw [hkeep _ (hout' _)]; exact hsen
  obtain ⟨tyC, dC, hdC, hdnC⟩ := Cond.laysAt hfound hk Y.cause (a' (.lays Bundle.nN Bundle.tN "cause" "Ljava/lang/Throwable;") (by simp [Bundle.npeArmAtoms]))
  obtain ⟨tyS, dS, hdS, hdnS⟩ := Cond.laysAt hfound hk Y.stack (a' (.lays Bundle.nN Bundle.tN "stackTrace" Bundle.steD) (by simp [Bundle.npeArmAtoms]))
  obtain ⟨tyP, dP, hdP, hdnP⟩ := Cond.laysAt hfound hk Y.supp (a' (.lays Bundle.nN Bundle.tN "suppressedExceptions" Bundle.listD) (by simp [Bundle.npeArmAtoms]))
  obtain ⟨tyX, dX, hdX, hdnX⟩ := Cond.laysAt hfound hk hffS (a' (.lays Bundle.nN Bundle.nN "extendedMessageState" "I") (by simp [Bundle.npeArmAtoms, Bundle.npeAtoms]))
  obtain ⟨hnX, htX⟩ := State.fieldFound?_type hffS (t := .int) (by decide +kernel)
  have xC := Cond.laysApart hdC hdX hdnC hdnX (by rw [hnX, Y.causeName]; decide)
  have xS := Cond.laysApart hdS hdX hdnS hdnX (by rw [hnX, Y.stackName]; decide)
  have xP := Cond.laysApart hdP hdX hdnP hdnX (by rw [hnX, Y.suppName]; decide)
  have hv0 : (freshCell P1.m.cls N.kN).slots[N.fState.slot]? = some (.int 0) := by
    have := fresh_default (c := P1.m.cls) tyX
    rw [htX] at this; exact this
  obtain ⟨tyB, dB, hdB, hdnB⟩ := Cond.laysAt hfound hk hffB (a' (.lays Bundle.nN Bundle.tN "backtrace" Bundle.objD) (by simp [Bundle.npeArmAtoms]))
  have bC := Cond.laysApart hdB hdC hdnB hdnC (by rw [hnB, Y.causeName]; decide)
  have bS := Cond.laysApart hdB hdS hdnB hdnS (by rw [hnB, Y.stackName]; decide)
  have bP := Cond.laysApart hdB hdP hdnB hdnP (by rw [hnB, Y.suppName]; decide)
  have bX := Cond.laysApart hdB hdX hdnB hdnX (by rw [hnB, hnX]; decide)
  have hbk : ((npeCell N.toNpeT (preparedCellV T.toThrowableT (freshCell P1.m.cls N.kN) W.heap.size u0 sen) W.cur).withEntry W.cur).slots[fB.slot]? = some .null := by
    have := fresh_default (c := P1.m.cls) tyB
    rw [htB] at this
    simpa [npeCell, preparedCellV, Cell.setSlot, Cell.withEntry, Array.getElem?_setIfInBounds, bC, bS, bP, bX, bC.symm, bS.symm, bP.symm, bX.symm, defaultValue] using this
  have tkC := Takes.of_laid (v := .ref W.heap.size) hk hordN tyC (by rw [Y.causeType]; rfl)
  have tkS := Takes.of_laid (v := u0.v) hk hordN tyS (by rw [Y.stackType]; exact fits_refV_array _ u0)
  have tkP := Takes.of_laid (v := sen.v) hk hordN tyP (by rw [Y.suppType]; exact fits_refV_object _ sen)
  have tkX := Takes.of_laid (v := .int 1) hk hordN tyX (by rw [htX]; rfl)
  have hskip : SkipFacts T e.platform s (fun u => u) u0 ((npeCell N.toNpeT (preparedCellV T.toThrowableT (freshCell P1.m.cls N.kN) W.heap.size u0 sen) W.cur).withEntry W.cur) := ⟨{ ci198 := ci198, i198 := i198, fBack := fB }, ⟨hk198, hg198, ha198, hsB⟩, hbk, fun _ _ => rfl⟩
  obtain ⟨vm', X3, st, -⟩ := X.throwsNpeColdBareVAt hexec hg hsize T L Z LZ N LN P1 L1 [PR, PE] hLs hlink1 ⟨hlinkR, hlinkE, trivial⟩ hfound hk hinit hordN hctor hsel0 hselF hcellS hknownS hvU hvSen
    hv0 xC xS xP tkC tkS tkP tkX Y.objLocals hskip (fun _ _ hA hW _ hroom _ hrest => L.nativeOff p htr hA hW hroom hrest) (by simpa using hRframes) hRlocals (by simp) hRcells (by rw [hn]; exact hRslots)
  have hlt : W.heap.size < ((W.pushCell (freshCell P1.m.cls N.kN)).setVm vm').heap.size := by
    show W.heap.size < (W.pushCell (freshCell P1.m.cls N.kN)).heap.size
    rw [State.heap_size_pushCell]; omega
  rw [hfsz] at X3
  obtain ⟨g₁, hfrM⟩ := X3.frames_eq
  have hU : ((((W.pushCell (freshCell P1.m.cls N.kN)).setVm vm').setCell W.heap.size (npeBareV T.toThrowableT N.toNpeT (freshCell P1.m.cls N.kN) W.heap.size u0 sen)).setTop g).pushFrame (.throwing W.heap.size) = (((W.pushCell (freshCell P1.m.cls N.kN)).setVm vm').setCell W.heap.size (npeBareV T.toThrowableT N.toNpeT (freshCell P1.m.cls N.kN) W.heap.size u0 sen)).setFrames (.throwing W.heap.size :: .java g :: below) := by
    rw [State.pushFrame, State.frames_setTop _ hfrM, State.setTop_of_frames _ hfrM, State.setFrames_setFrames]
  refine ⟨_, W.heap.size, _, fun target ht => st.trans (by rw [← hU]; exact ht), X3.forget (fun y hy => ?_), heapAt_setCell_self _ hlt, hfound, rfl⟩
  simp only [List.mem_cons, List.not_mem_nil, or_false] at hy
  have hge : s.heap.size ≤ W.heap.size := X.same.2.1
  rcases hy with rfl | rfl | rfl | rfl | rfl <;> exact hge
/-- the words of a machine's NullPointerException, but the four that speak of the heap -/
def vx_atN (n : Nat) : List Cond := (Bundle.npeArmAtoms n).filter vx_no
/-- the words of a machine's throw with a message, but the four that speak of the heap -/
def vx_atM (X : String) (names : List String) : List Cond := (Bundle.messageArmAtoms X names).filter vx_no
section
variable {p : Program} {l : Launch} {e : Env} {R : Room} {s : State} {m : MethodId} {args : Array Value} {below : List Frame} {meth : Method} {c : Code} {H : Heap} {locs : List Loc} {cells slots : Nat}
/-- a frame seen from a rebased start, seen from the first start again -/
theorem vx_back9 {T S : State} {R' : Room} {k n : Nat} (X : Stand p l e R s m args below meth c T locs cells slots) (Y : Stand p l e R' ((T.setVm s.vm).setFrames (.invoking m args :: below)) m args below meth c T [] 0 0) (Z : Stand p l e R' ((T.setVm s.vm).setFrames (.invoking m args :: below)) m args below meth c S [] k n) :
    Stand p l e R s m args below meth c S locs (cells + k) (slots + n) := by
  have hW0 : s.WarmedH ((T.setVm s.vm).setFrames (.invoking m args :: below)).vm := State.WarmedH.refl s
  refine { admits := X.admits, cas := X.cas, clock := X.clock, frames := X.frames, room := X.room, hears := X.hears, method := X.method, code := X.code, here := Z.here, tail := Z.tail, warmed := State.WarmedH.trans hW0 Z.warmed, limits := Z.limits.trans (Y.limits.symm.trans X.limits), bytes := Z.bytes.trans (Y.bytes.symm.trans X.bytes), same := ?_ }
  obtain ⟨e1, e2⟩ := Z.same
  rw [State.setFrames_setFrames] at e1
  have h2 : (T.setVm s.vm).sameButNew (S.setVm s.vm) [] k n := ⟨e1, e2⟩
  have h3 := X.same.trans h2
  rw [List.append_nil] at h3
  exact h3
/-- from the machine's note that E is thrown here with this text -/
def vx_Note (p : Program) (l : Launch) (e : Env) (R : Room) (s : State) (m : MethodId) (args : Array Value) (below : List Frame) (meth : Method) (c : Code) (H : Heap) (locs : List Loc) (cells slots : Nat) (Q : State → Prop) (g : JFrame) (E text : String) : Prop :=
  ∀ T : State, T.heap = H → Stand p l e R s m args below meth c T locs cells slots → ∃ t, Steps p.tables e below ((T.setTop g).pushFrame (.throwNew E (some text) none)) t ∧ Q t
theorem vx_vm {pc : Nat} {ls : Array Slot} {rest : List Value} {Q : State → Prop} (hexec : p.tables.exec = Jvm.exec) (hl : l.stackTraces = false) {cls text : String} {names : List String} {nb : Nat} {A : Nat → Prop}
    (hcls : Bundle.fit cls = true) (hnames : ∀ n ∈ names, Bundle.fit n = true) (hsoe : (cls == "java/lang/StackOverflowError") = false) (hoom : (cls == "java/lang/OutOfMemoryError") = false)
    (hat : ∀ w ∈ vx_atM cls names, w.before args s = true) (hgood : ∀ w ∈ vx_atM cls names, vx_ot w = true)
    (hU : vx_Zq Bundle.tN "UNASSIGNED_STACK" Bundle.steD A s s.heap) (hN : vx_Zq Bundle.tN "SUPPRESSED_SENTINEL" Bundle.listD A s s.heap) (hS : va_S A s.heap H locs) (hsize : ls.size = c.maxLocals)
    (htext : (text == notModelled) = false) (hnb : (stringBytes (stringToUtf16 text)).size ≤ nb) (hnb1 : nb ≤ 1000)
    (hRframes : names.length + 4 < R.frames) (hRlocals : (rest.map fun v => v.category).sum + 10240 ≤ R.locals) (hshort : 13 * names.length + 55 ≤ 10240) (hRcells : cells + 3 ≤ R.cells) (hRslots : slots + (nb + 10) ≤ R.slots) (hlocks : meth.locks = false)
    (k : ∀ (H1 : Heap) (q9 : Addr) (ce : Cell), H.size ≤ H1.size → (∀ q : Nat, q < H.size → H1[q]? = H[q]?) → va_S A s.heap H1 locs → H1[q9]? = some ce → ce.vm = .none → s.vm.findClass cls = some ce.cls → vx_W p l e R s m args below meth c H1 locs (cells + 3) (slots + (nb + 10)) Q (F0 m pc ls rest) q9) :
    vx_Note p l e R s m args below meth c H locs cells slots Q (F0 m pc ls rest) cls text := by
  intro T hT X
  have htr : e.platform.stackTraces = false := (show e.platform.stackTraces = l.stackTraces by rw [X.admits.platform]).trans hl
  have Y := vx_rebase X (R' := { frames := R.frames, locals := R.locals, cells := 3, slots := nb + 10 }) (Nat.le_refl _) (Nat.le_refl _) hRcells hRslots
  have hhp : ((T.setVm s.vm).setFrames (.invoking m args :: below)).heap = H := hT
  have hW0 : s.WarmedH ((T.setVm s.vm).setFrames (.invoking m args :: below)).vm := State.WarmedH.refl s
  have hat' : ∀ w ∈ vx_atM cls names, w.before args ((T.setVm s.vm).setFrames (.invoking m args :: below)) = true := fun w hw => vx_ot_at hW0 rfl (hgood w hw) (hat w hw)
  have hU' : vx_Zq Bundle.tN "UNASSIGNED_STACK" Bundle.steD A ((T.setVm s.vm).setFrames (.invoking m args :: below)) ((T.setVm s.vm).setFrames (.invoking m args :: below)).heap := by rw [hhp]; exact vx_Zq.moved hW0.alike (hU.kept hS.2.1)
  have hN' : vx_Zq Bundle.tN "SUPPRESSED_SENTINEL" Bundle.listD A ((T.setVm s.vm).setFrames (.invoking m args :: below)) ((T.setVm s.vm).setFrames (.invoking m args :: below)).heap := by rw [hhp]; exact vx_Zq.moved hW0.alike (hN.kept hS.2.1)
  obtain ⟨S, q, ce, st, Z, hce, hcl', hv⟩ := vx_vmAt Y hexec htr (cls := cls) (names := names) (text := text) hcls hnames hsoe hoom (vx_own hat' (vx_isRefq hU'.1) (vx_isRefq hN'.1) hU'.2.word hN'.2.word) (fun x hx => nomatch hx) htext
    (by rw [Launch.admits_arrayLengthLimit X.admits]; omega) (by rw [Launch.admits_maxHeapBytes X.admits]; simp only [componentBytes]; omega)
    (g := F0 m pc ls rest) rfl hsize hRframes (by show 2 * 0 + (rest.map fun v => v.category).sum + 10240 ≤ R.locals; omega) hshort (by show 0 + 3 ≤ 3; omega) (by show 0 + (_ + 4 + 6) ≤ nb + 10; omega) hlocks
  obtain ⟨f1, f2⟩ := vx_frame Z.same
  have f1' : H.size ≤ S.heap.size := by rw [← hT]; exact f1
  have f2' : ∀ q : Nat, q < H.size → S.heap[q]? = H[q]? := fun q hq => by
    rw [← hT]
    exact f2 q (by rw [← hT] at hq; exact hq) (fun z hz => nomatch hz)
  have X5 := vx_back9 X Y Z
  have X6 : Stand p l e R s m args below meth c S locs (cells + 3) (slots + (nb + 10)) := { X5 with same := X5.same.mono (by omega) (by omega) }
  obtain ⟨t, a1, b1⟩ := k S.heap q ce f1' f2' ⟨Nat.le_trans hS.1 f1', fun q h1 h2 => (f2' q (Nat.lt_of_lt_of_le h1 hS.1)).trans (hS.2.1 q h1 h2), hS.2.2⟩ hce hv hcl' S rfl X6
  exact ⟨t, st t a1, b1⟩
/-- from the machine's note that NullPointerException is thrown here -/
def vx_NoteN (p : Program) (l : Launch) (e : Env) (R : Room) (s : State) (m : MethodId) (args : Array Value) (below : List Frame) (meth : Method) (c : Code) (H : Heap) (locs : List Loc) (cells slots : Nat) (Q : State → Prop) (g : JFrame) : Prop :=
  ∀ T : State, T.heap = H → Stand p l e R s m args below meth c T locs cells slots → ∃ t, Steps p.tables e below ((T.setTop g).pushFrame (.throwNew "java/lang/NullPointerException" none none)) t ∧ Q t
theorem vx_npe {pc : Nat} {ls : Array Slot} {rest : List Value} {Q : State → Prop} (hexec : p.tables.exec = Jvm.exec) (hl : l.stackTraces = false) {nb : Nat} {A : Nat → Prop}
    (hat : ∀ w ∈ vx_atN nb, w.before args s = true) (hgood : ∀ w ∈ vx_atN nb, vx_ot w = true)
    (hU : vx_Zq Bundle.tN "UNASSIGNED_STACK" Bundle.steD A s s.heap) (hN : vx_Zq Bundle.tN "SUPPRESSED_SENTINEL" Bundle.listD A s s.heap) (hS : va_S A s.heap H locs) (hsize : ls.size = c.maxLocals)
    (hRframes : 7 < R.frames) (hRlocals : (rest.map fun v => v.category).sum + 10240 ≤ R.locals) (hRcells : cells + 1 ≤ R.cells) (hRslots : slots + nb ≤ R.slots) (hlocks : meth.locks = false)
    (k : ∀ (H1 : Heap) (q9 : Addr) (ce : Cell), H.size ≤ H1.size → (∀ q : Nat, q < H.size → H1[q]? = H[q]?) → va_S A s.heap H1 locs → H1[q9]? = some ce → ce.vm = .none → s.vm.findClass "java/lang/NullPointerException" = some ce.cls → vx_W p l e R s m args below meth c H1 locs (cells + 1) (slots + nb) Q (F0 m pc ls rest) q9) :
    vx_NoteN p l e R s m args below meth c H locs cells slots Q (F0 m pc ls rest) := by
  intro T hT X
  have htr : e.platform.stackTraces = false := (show e.platform.stackTraces = l.stackTraces by rw [X.admits.platform]).trans hl
  have Y := vx_rebase X (R' := { frames := R.frames, locals := R.locals, cells := 1, slots := nb }) (Nat.le_refl _) (Nat.le_refl _) hRcells hRslots
  have hhp : ((T.setVm s.vm).setFrames (.invoking m args :: below)).heap = H := hT
  have hW0 : s.WarmedH ((T.setVm s.vm).setFrames (.invoking m args :: below)).vm := State.WarmedH.refl s
  have hat' : ∀ w ∈ vx_atN nb, w.before args ((T.setVm s.vm).setFrames (.invoking m args :: below)) = true := fun w hw => vx_ot_at hW0 rfl (hgood w hw) (hat w hw)
  have hU' : vx_Zq Bundle.tN "UNASSIGNED_STACK" Bundle.steD A ((T.setVm s.vm).setFrames (.invoking m args :: below)) ((T.setVm s.vm).setFrames (.invoking m args :: below)).heap := by rw [hhp]; exact vx_Zq.moved hW0.alike (hU.kept hS.2.1)
  have hN' : vx_Zq Bundle.tN "SUPPRESSED_SENTINEL" Bundle.listD A ((T.setVm s.vm).setFrames (.invoking m args :: below)) ((T.setVm s.vm).setFrames (.invoking m args :: below)).heap := by rw [hhp]; exact vx_Zq.moved hW0.alike (hN.kept hS.2.1)
  obtain ⟨S, q, ce, st, Z, hce, hcl', hv⟩ := vx_npeAt Y hexec htr (n := nb) (vx_own hat' (vx_isRefq hU'.1) (vx_isRefq hN'.1) hU'.2.word hN'.2.word) (fun x hx => nomatch hx)
    (g := F0 m pc ls rest) rfl hsize hRframes (by show 2 * 0 + (rest.map fun v => v.category).sum + 10240 ≤ R.locals; omega) (by show 0 + 1 ≤ 1; omega) (by show 0 + nb ≤ nb; omega) hlocks
  obtain ⟨f1, f2⟩ := vx_frame Z.same
  have f1' : H.size ≤ S.heap.size := by rw [← hT]; exact f1
  have f2' : ∀ q : Nat, q < H.size → S.heap[q]? = H[q]? := fun q hq => by
    rw [← hT]
    exact f2 q (by rw [← hT] at hq; exact hq) (fun z hz => nomatch hz)
  have X5 := vx_back9 X Y Z
  have X6 : Stand p l e R s m args below meth c S locs (cells + 1) (slots + nb) := { X5 with same := X5.same.mono (by omega) (by omega) }
  obtain ⟨t, a1, b1⟩ := k S.heap q ce f1' f2' ⟨Nat.le_trans hS.1 f1', fun q h1 h2 => (f2' q (Nat.lt_of_lt_of_le h1 hS.1)).trans (hS.2.1 q h1 h2), hS.2.2⟩ hce hv hcl' S rfl X6
  exact ⟨t, st t a1, b1⟩
variable {Q : State → Prop} {cc : ByteArray} {pc : Nat} {ls : Array Slot} {rest : List Value}
theorem vx_idivZ (hexec : p.tables.exec = Jvm.exec) (hb : c.code = cc) {a b : Int32} (h0 : b = 0) (d : decode cc pc = .ok (.idiv, 1)) (k : vx_Note p l e R s m args below meth c H locs cells slots Q (F0 m pc ls rest) "java/lang/ArithmeticException" "/ by zero") :
    W p l e R s m args below meth c H locs cells slots Q (F0 m pc ls (.int b :: .int a :: rest)) := by
  intro T hT X
  obtain ⟨t, st, q⟩ := k T hT X
  exact ⟨t, X.idivZero hexec (g := F0 m pc ls (.int b :: .int a :: rest)) rfl (a := a) (rest := rest) (by rw [h0]) (by rw [hb]; exact d) t st, q⟩
theorem vx_iremZ (hexec : p.tables.exec = Jvm.exec) (hb : c.code = cc) {a b : Int32} (h0 : b = 0) (d : decode cc pc = .ok (.irem, 1)) (k : vx_Note p l e R s m args below meth c H locs cells slots Q (F0 m pc ls rest) "java/lang/ArithmeticException" "/ by zero") :
    W p l e R s m args below meth c H locs cells slots Q (F0 m pc ls (.int b :: .int a :: rest)) := by
  intro T hT X
  obtain ⟨t, st, q⟩ := k T hT X
  exact ⟨t, X.iremZero hexec (g := F0 m pc ls (.int b :: .int a :: rest)) rfl (a := a) (rest := rest) (by rw [h0]) (by rw [hb]; exact d) t st, q⟩
theorem vx_ldivZ (hexec : p.tables.exec = Jvm.exec) (hb : c.code = cc) {a b : Int64} (h0 : b = 0) (d : decode cc pc = .ok (.ldiv, 1)) (k : vx_Note p l e R s m args below meth c H locs cells slots Q (F0 m pc ls rest) "java/lang/ArithmeticException" "/ by zero") :
    W p l e R s m args below meth c H locs cells slots Q (F0 m pc ls (.long b :: .long a :: rest)) := by
  intro T hT X
  obtain ⟨t, st, q⟩ := k T hT X
  exact ⟨t, X.ldivZero hexec (g := F0 m pc ls (.long b :: .long a :: rest)) rfl (a := a) (rest := rest) (by rw [h0]) (by rw [hb]; exact d) t st, q⟩
theorem vx_lremZ (hexec : p.tables.exec = Jvm.exec) (hb : c.code = cc) {a b : Int64} (h0 : b = 0) (d : decode cc pc = .ok (.lrem, 1)) (k : vx_Note p l e R s m args below meth c H locs cells slots Q (F0 m pc ls rest) "java/lang/ArithmeticException" "/ by zero") :
    W p l e R s m args below meth c H locs cells slots Q (F0 m pc ls (.long b :: .long a :: rest)) := by
  intro T hT X
  obtain ⟨t, st, q⟩ := k T hT X
  exact ⟨t, X.lremZero hexec (g := F0 m pc ls (.long b :: .long a :: rest)) rfl (a := a) (rest := rest) (by rw [h0]) (by rw [hb]; exact d) t st, q⟩
theorem vx_ialdZ {D : va_G} {cl : List vw_C} {ws : va_W} {tys : List (ClassId × FieldType)} {a : Nat} (hexec : p.tables.exec = Jvm.exec) (hb : c.code = cc) (hK : va_K D cl tys s) (hP : va_P D cl ws H) (q0 t0 : Nat) {cA : ClassId} {n : Nat} {f : Nat → Int32} (ha : ws[q0]? = some (a, .inl (cA, n, .inl f))) (ht : tys[t0]? = some (cA, .int)) {i : Int32} (hout : ¬ vp_in i n) (hdg : decode cc pc = .ok (.iaload, 1))
    (k : ∀ tx : String, tx = (toString "Index " ++ toString i ++ toString " out of bounds for length " ++ toString n : String) → vx_Note p l e R s m args below meth c H locs cells slots Q (F0 m pc ls rest) "java/lang/ArrayIndexOutOfBoundsException" tx) : W p l e R s m args below meth c H locs cells slots Q (F0 m pc ls (.int i :: .ref a :: rest)) := by
  intro T hT X
  obtain ⟨t, st, q⟩ := k _ rfl T hT X
  refine ⟨t, ?_, q⟩
  have h1 := X.ialoadOut hexec (by rw [hT]; exact hP q0 _ ha) ((hK.2 t0 _ ht).1 n (fun j => .int (f j))) (j := i) (by show (i < 0 ∨ (arrV _ _ _).slots.size ≤ _); rw [arrV_size]; exact Classical.byContradiction hout) (g := F0 m pc ls (.int i :: .ref a :: rest)) rfl (rest := rest) rfl (by rw [hb]; exact hdg) t
  simp only [arrV_size] at h1
  exact h1 st
theorem vx_iastZ {D : va_G} {cl : List vw_C} {ws : va_W} {tys : List (ClassId × FieldType)} {a : Nat} (hexec : p.tables.exec = Jvm.exec) (hb : c.code = cc) (hK : va_K D cl tys s) (hP : va_P D cl ws H) (q0 t0 : Nat) {cA : ClassId} {n : Nat} {f : Nat → Int32} (ha : ws[q0]? = some (a, .inl (cA, n, .inl f))) (ht : tys[t0]? = some (cA, .int)) {i : Int32} {x : Int32} (hout : ¬ vp_in i n) (hdg : decode cc pc = .ok (.iastore, 1))
    (k : ∀ tx : String, tx = (toString "Index " ++ toString i ++ toString " out of bounds for length " ++ toString n : String) → vx_Note p l e R s m args below meth c H locs cells slots Q (F0 m pc ls rest) "java/lang/ArrayIndexOutOfBoundsException" tx) : W p l e R s m args below meth c H locs cells slots Q (F0 m pc ls (.int x :: .int i :: .ref a :: rest)) := by
  intro T hT X
  obtain ⟨t, st, q⟩ := k _ rfl T hT X
  refine ⟨t, ?_, q⟩
  have h1 := X.iastoreOut hexec (by rw [hT]; exact hP q0 _ ha) ((hK.2 t0 _ ht).1 n (fun j => .int (f j))) (j := i) (by show (i < 0 ∨ (arrV _ _ _).slots.size ≤ _); rw [arrV_size]; exact Classical.byContradiction hout) (g := F0 m pc ls (.int x :: .int i :: .ref a :: rest)) rfl (rest := rest) rfl (by rw [hb]; exact hdg) t
  simp only [arrV_size] at h1
  exact h1 st
theorem vx_baldZ {D : va_G} {cl : List vw_C} {ws : va_W} {tys : List (ClassId × FieldType)} {a : Nat} (hexec : p.tables.exec = Jvm.exec) (hb : c.code = cc) (hK : va_K D cl tys s) (hP : va_P D cl ws H) (q0 t0 : Nat) {cA : ClassId} {n : Nat} {f : Nat → Int32} (ha : ws[q0]? = some (a, .inl (cA, n, .inl f))) (ht : tys[t0]? = some (cA, .byte)) {i : Int32} (hout : ¬ vp_in i n) (hdg : decode cc pc = .ok (.baload, 1))
    (k : ∀ tx : String, tx = (toString "Index " ++ toString i ++ toString " out of bounds for length " ++ toString n : String) → vx_Note p l e R s m args below meth c H locs cells slots Q (F0 m pc ls rest) "java/lang/ArrayIndexOutOfBoundsException" tx) : W p l e R s m args below meth c H locs cells slots Q (F0 m pc ls (.int i :: .ref a :: rest)) := by
  intro T hT X
  obtain ⟨t, st, q⟩ := k _ rfl T hT X
  refine ⟨t, ?_, q⟩
  have h1 := X.baloadOut hexec (by rw [hT]; exact hP q0 _ ha) ((hK.2 t0 _ ht).1 n (fun j => .int (f j))) (j := i) (by show (i < 0 ∨ (arrV _ _ _).slots.size ≤ _); rw [arrV_size]; exact Classical.byContradiction hout) (g := F0 m pc ls (.int i :: .ref a :: rest)) rfl (rest := rest) rfl (by rw [hb]; exact hdg) t
  simp only [arrV_size] at h1
  exact h1 st
theorem vx_bastZ {D : va_G} {cl : List vw_C} {ws : va_W} {tys : List (ClassId × FieldType)} {a : Nat} (hexec : p.tables.exec = Jvm.exec) (hb : c.code = cc) (hK : va_K D cl tys s) (hP : va_P D cl ws H) (q0 t0 : Nat) {cA : ClassId} {n : Nat} {f : Nat → Int32} (ha : ws[q0]? = some (a, .inl (cA, n, .inl f))) (ht : tys[t0]? = some (cA, .byte)) {i : Int32} {x : Int32} (hout : ¬ vp_in i n) (hdg : decode cc pc = .ok (.bastore, 1))
    (k : ∀ tx : String, tx = (toString "Index " ++ toString i ++ toString " out of bounds for length " ++ toString n : String) → vx_Note p l e R s m args below meth c H locs cells slots Q (F0 m pc ls rest) "java/lang/ArrayIndexOutOfBoundsException" tx) : W p l e R s m args below meth c H locs cells slots Q (F0 m pc ls (.int x :: .int i :: .ref a :: rest)) := by
  intro T hT X
  obtain ⟨t, st, q⟩ := k _ rfl T hT X
  refine ⟨t, ?_, q⟩
  have h1 := X.bastoreOut hexec (by rw [hT]; exact hP q0 _ ha) ((hK.2 t0 _ ht).1 n (fun j => .int (f j))) (j := i) (by show (i < 0 ∨ (arrV _ _ _).slots.size ≤ _); rw [arrV_size]; exact Classical.byContradiction hout) (g := F0 m pc ls (.int x :: .int i :: .ref a :: rest)) rfl (rest := rest) rfl (by rw [hb]; exact hdg) t
  simp only [arrV_size] at h1
  exact h1 st
theorem vx_zaldZ {D : va_G} {cl : List vw_C} {ws : va_W} {tys : List (ClassId × FieldType)} {a : Nat} (hexec : p.tables.exec = Jvm.exec) (hb : c.code = cc) (hK : va_K D cl tys s) (hP : va_P D cl ws H) (q0 t0 : Nat) {cA : ClassId} {n : Nat} {f : Nat → Int32} (ha : ws[q0]? = some (a, .inl (cA, n, .inl f))) (ht : tys[t0]? = some (cA, .boolean)) {i : Int32} (hout : ¬ vp_in i n) (hdg : decode cc pc = .ok (.baload, 1))
    (k : ∀ tx : String, tx = (toString "Index " ++ toString i ++ toString " out of bounds for length " ++ toString n : String) → vx_Note p l e R s m args below meth c H locs cells slots Q (F0 m pc ls rest) "java/lang/ArrayIndexOutOfBoundsException" tx) : W p l e R s m args below meth c H locs cells slots Q (F0 m pc ls (.int i :: .ref a :: rest)) := by
  intro T hT X
  obtain ⟨t, st, q⟩ := k _ rfl T hT X
  refine ⟨t, ?_, q⟩
  have h1 := X.baloadOut hexec (by rw [hT]; exact hP q0 _ ha) ((hK.2 t0 _ ht).1 n (fun j => .int (f j))) (j := i) (by show (i < 0 ∨ (arrV _ _ _).slots.size ≤ _); rw [arrV_size]; exact Classical.byContradiction hout) (g := F0 m pc ls (.int i :: .ref a :: rest)) rfl (rest := rest) rfl (by rw [hb]; exact hdg) t
  simp only [arrV_size] at h1
  exact h1 st
theorem vx_zastZ {D : va_G} {cl : List vw_C} {ws : va_W} {tys : List (ClassId × FieldType)} {a : Nat} (hexec : p.tables.exec = Jvm.exec) (hb : c.code = cc) (hK : va_K D cl tys s) (hP : va_P D cl ws H) (q0 t0 : Nat) {cA : ClassId} {n : Nat} {f : Nat → Int32} (ha : ws[q0]? = some (a, .inl (cA, n, .inl f))) (ht : tys[t0]? = some (cA, .boolean)) {i : Int32} {x : Int32} (hout : ¬ vp_in i n) (hdg : decode cc pc = .ok (.bastore, 1))
    (k : ∀ tx : String, tx = (toString "Index " ++ toString i ++ toString " out of bounds for length " ++ toString n : String) → vx_Note p l e R s m args below meth c H locs cells slots Q (F0 m pc ls rest) "java/lang/ArrayIndexOutOfBoundsException" tx) : W p l e R s m args below meth c H locs cells slots Q (F0 m pc ls (.int x :: .int i :: .ref a :: rest)) := by
  intro T hT X
  obtain ⟨t, st, q⟩ := k _ rfl T hT X
  refine ⟨t, ?_, q⟩
  have h1 := X.bastoreOut hexec (by rw [hT]; exact hP q0 _ ha) ((hK.2 t0 _ ht).1 n (fun j => .int (f j))) (j := i) (by show (i < 0 ∨ (arrV _ _ _).slots.size ≤ _); rw [arrV_size]; exact Classical.byContradiction hout) (g := F0 m pc ls (.int x :: .int i :: .ref a :: rest)) rfl (rest := rest) rfl (by rw [hb]; exact hdg) t
  simp only [arrV_size] at h1
  exact h1 st
theorem vx_caldZ {D : va_G} {cl : List vw_C} {ws : va_W} {tys : List (ClassId × FieldType)} {a : Nat} (hexec : p.tables.exec = Jvm.exec) (hb : c.code = cc) (hK : va_K D cl tys s) (hP : va_P D cl ws H) (q0 t0 : Nat) {cA : ClassId} {n : Nat} {f : Nat → Int32} (ha : ws[q0]? = some (a, .inl (cA, n, .inl f))) (ht : tys[t0]? = some (cA, .char)) {i : Int32} (hout : ¬ vp_in i n) (hdg : decode cc pc = .ok (.caload, 1))
    (k : ∀ tx : String, tx = (toString "Index " ++ toString i ++ toString " out of bounds for length " ++ toString n : String) → vx_Note p l e R s m args below meth c H locs cells slots Q (F0 m pc ls rest) "java/lang/ArrayIndexOutOfBoundsException" tx) : W p l e R s m args below meth c H locs cells slots Q (F0 m pc ls (.int i :: .ref a :: rest)) := by
  intro T hT X
  obtain ⟨t, st, q⟩ := k _ rfl T hT X
  refine ⟨t, ?_, q⟩
  have h1 := X.caloadOut hexec (by rw [hT]; exact hP q0 _ ha) ((hK.2 t0 _ ht).1 n (fun j => .int (f j))) (j := i) (by show (i < 0 ∨ (arrV _ _ _).slots.size ≤ _); rw [arrV_size]; exact Classical.byContradiction hout) (g := F0 m pc ls (.int i :: .ref a :: rest)) rfl (rest := rest) rfl (by rw [hb]; exact hdg) t
  simp only [arrV_size] at h1
  exact h1 st
theorem vx_castZ {D : va_G} {cl : List vw_C} {ws : va_W} {tys : List (ClassId × FieldType)} {a : Nat} (hexec : p.tables.exec = Jvm.exec) (hb : c.code = cc) (hK : va_K D cl tys s) (hP : va_P D cl ws H) (q0 t0 : Nat) {cA : ClassId} {n : Nat} {f : Nat → Int32} (ha : ws[q0]? = some (a, .inl (cA, n, .inl f))) (ht : tys[t0]? = some (cA, .char)) {i : Int32} {x : Int32} (hout : ¬ vp_in i n) (hdg : decode cc pc = .ok (.castore, 1))
    (k : ∀ tx : String, tx = (toString "Index " ++ toString i ++ toString " out of bounds for length " ++ toString n : String) → vx_Note p l e R s m args below meth c H locs cells slots Q (F0 m pc ls rest) "java/lang/ArrayIndexOutOfBoundsException" tx) : W p l e R s m args below meth c H locs cells slots Q (F0 m pc ls (.int x :: .int i :: .ref a :: rest)) := by
  intro T hT X
  obtain ⟨t, st, q⟩ := k _ rfl T hT X
  refine ⟨t, ?_, q⟩
  have h1 := X.castoreOut hexec (by rw [hT]; exact hP q0 _ ha) ((hK.2 t0 _ ht).1 n (fun j => .int (f j))) (j := i) (by show (i < 0 ∨ (arrV _ _ _).slots.size ≤ _); rw [arrV_size]; exact Classical.byContradiction hout) (g := F0 m pc ls (.int x :: .int i :: .ref a :: rest)) rfl (rest := rest) rfl (by rw [hb]; exact hdg) t
  simp only [arrV_size] at h1
  exact h1 st
theorem vx_saldZ {D : va_G} {cl : List vw_C} {ws : va_W} {tys : List (ClassId × FieldType)} {a : Nat} (hexec : p.tables.exec = Jvm.exec) (hb : c.code = cc) (hK : va_K D cl tys s) (hP : va_P D cl ws H) (q0 t0 : Nat) {cA : ClassId} {n : Nat} {f : Nat → Int32} (ha : ws[q0]? = some (a, .inl (cA, n, .inl f))) (ht : tys[t0]? = some (cA, .short)) {i : Int32} (hout : ¬ vp_in i n) (hdg : decode cc pc = .ok (.saload, 1))
    (k : ∀ tx : String, tx = (toString "Index " ++ toString i ++ toString " out of bounds for length " ++ toString n : String) → vx_Note p l e R s m args below meth c H locs cells slots Q (F0 m pc ls rest) "java/lang/ArrayIndexOutOfBoundsException" tx) : W p l e R s m args below meth c H locs cells slots Q (F0 m pc ls (.int i :: .ref a :: rest)) := by
  intro T hT X
  obtain ⟨t, st, q⟩ := k _ rfl T hT X
  refine ⟨t, ?_, q⟩
  have h1 := X.saloadOut hexec (by rw [hT]; exact hP q0 _ ha) ((hK.2 t0 _ ht).1 n (fun j => .int (f j))) (j := i) (by show (i < 0 ∨ (arrV _ _ _).slots.size ≤ _); rw [arrV_size]; exact Classical.byContradiction hout) (g := F0 m pc ls (.int i :: .ref a :: rest)) rfl (rest := rest) rfl (by rw [hb]; exact hdg) t
  simp only [arrV_size] at h1
  exact h1 st
theorem vx_sastZ {D : va_G} {cl : List vw_C} {ws : va_W} {tys : List (ClassId × FieldType)} {a : Nat} (hexec : p.tables.exec = Jvm.exec) (hb : c.code = cc) (hK : va_K D cl tys s) (hP : va_P D cl ws H) (q0 t0 : Nat) {cA : ClassId} {n : Nat} {f : Nat → Int32} (ha : ws[q0]? = some (a, .inl (cA, n, .inl f))) (ht : tys[t0]? = some (cA, .short)) {i : Int32} {x : Int32} (hout : ¬ vp_in i n) (hdg : decode cc pc = .ok (.sastore, 1))
    (k : ∀ tx : String, tx = (toString "Index " ++ toString i ++ toString " out of bounds for length " ++ toString n : String) → vx_Note p l e R s m args below meth c H locs cells slots Q (F0 m pc ls rest) "java/lang/ArrayIndexOutOfBoundsException" tx) : W p l e R s m args below meth c H locs cells slots Q (F0 m pc ls (.int x :: .int i :: .ref a :: rest)) := by
  intro T hT X
  obtain ⟨t, st, q⟩ := k _ rfl T hT X
  refine ⟨t, ?_, q⟩
  have h1 := X.sastoreOut hexec (by rw [hT]; exact hP q0 _ ha) ((hK.2 t0 _ ht).1 n (fun j => .int (f j))) (j := i) (by show (i < 0 ∨ (arrV _ _ _).slots.size ≤ _); rw [arrV_size]; exact Classical.byContradiction hout) (g := F0 m pc ls (.int x :: .int i :: .ref a :: rest)) rfl (rest := rest) rfl (by rw [hb]; exact hdg) t
  simp only [arrV_size] at h1
  exact h1 st
theorem vx_laldZ {D : va_G} {cl : List vw_C} {ws : va_W} {tys : List (ClassId × FieldType)} {a : Nat} (hexec : p.tables.exec = Jvm.exec) (hb : c.code = cc) (hK : va_K D cl tys s) (hP : va_P D cl ws H) (q0 t0 : Nat) {cA : ClassId} {n : Nat} {f : Nat → Int64} (ha : ws[q0]? = some (a, .inl (cA, n, .inr (.inl f)))) (ht : tys[t0]? = some (cA, .long)) {i : Int32} (hout : ¬ vp_in i n) (hdg : decode cc pc = .ok (.laload, 1))
    (k : ∀ tx : String, tx = (toString "Index " ++ toString i ++ toString " out of bounds for length " ++ toString n : String) → vx_Note p l e R s m args below meth c H locs cells slots Q (F0 m pc ls rest) "java/lang/ArrayIndexOutOfBoundsException" tx) : W p l e R s m args below meth c H locs cells slots Q (F0 m pc ls (.int i :: .ref a :: rest)) := by
  intro T hT X
  obtain ⟨t, st, q⟩ := k _ rfl T hT X
  refine ⟨t, ?_, q⟩
  have h1 := X.laloadOut hexec (by rw [hT]; exact hP q0 _ ha) ((hK.2 t0 _ ht).1 n (fun j => .long (f j))) (j := i) (by show (i < 0 ∨ (arrV _ _ _).slots.size ≤ _); rw [arrV_size]; exact Classical.byContradiction hout) (g := F0 m pc ls (.int i :: .ref a :: rest)) rfl (rest := rest) rfl (by rw [hb]; exact hdg) t
  simp only [arrV_size] at h1
  exact h1 st
theorem vx_lastZ {D : va_G} {cl : List vw_C} {ws : va_W} {tys : List (ClassId × FieldType)} {a : Nat} (hexec : p.tables.exec = Jvm.exec) (hb : c.code = cc) (hK : va_K D cl tys s) (hP : va_P D cl ws H) (q0 t0 : Nat) {cA : ClassId} {n : Nat} {f : Nat → Int64} (ha : ws[q0]? = some (a, .inl (cA, n, .inr (.inl f)))) (ht : tys[t0]? = some (cA, .long)) {i : Int32} {x : Int64} (hout : ¬ vp_in i n) (hdg : decode cc pc = .ok (.lastore, 1))
    (k : ∀ tx : String, tx = (toString "Index " ++ toString i ++ toString " out of bounds for length " ++ toString n : String) → vx_Note p l e R s m args below meth c H locs cells slots Q (F0 m pc ls rest) "java/lang/ArrayIndexOutOfBoundsException" tx) : W p l e R s m args below meth c H locs cells slots Q (F0 m pc ls (.long x :: .int i :: .ref a :: rest)) := by
  intro T hT X
  obtain ⟨t, st, q⟩ := k _ rfl T hT X
  refine ⟨t, ?_, q⟩
  have h1 := X.lastoreOut hexec (by rw [hT]; exact hP q0 _ ha) ((hK.2 t0 _ ht).1 n (fun j => .long (f j))) (j := i) (by show (i < 0 ∨ (arrV _ _ _).slots.size ≤ _); rw [arrV_size]; exact Classical.byContradiction hout) (g := F0 m pc ls (.long x :: .int i :: .ref a :: rest)) rfl (rest := rest) rfl (by rw [hb]; exact hdg) t
  simp only [arrV_size] at h1
  exact h1 st
theorem vx_faldZ {D : va_G} {cl : List vw_C} {ws : va_W} {tys : List (ClassId × FieldType)} {a : Nat} (hexec : p.tables.exec = Jvm.exec) (hb : c.code = cc) (hK : va_K D cl tys s) (hP : va_P D cl ws H) (q0 t0 : Nat) {cA : ClassId} {n : Nat} {f : Nat → UInt32} (ha : ws[q0]? = some (a, .inl (cA, n, .inr (.inr (.inl f))))) (ht : tys[t0]? = some (cA, .float)) {i : Int32} (hout : ¬ vp_in i n) (hdg : decode cc pc = .ok (.faload, 1))
    (k : ∀ tx : String, tx = (toString "Index " ++ toString i ++ toString " out of bounds for length " ++ toString n : String) → vx_Note p l e R s m args below meth c H locs cells slots Q (F0 m pc ls rest) "java/lang/ArrayIndexOutOfBoundsException" tx) : W p l e R s m args below meth c H locs cells slots Q (F0 m pc ls (.int i :: .ref a :: rest)) := by
  intro T hT X
  obtain ⟨t, st, q⟩ := k _ rfl T hT X
  refine ⟨t, ?_, q⟩
  have h1 := X.faloadOut hexec (by rw [hT]; exact hP q0 _ ha) ((hK.2 t0 _ ht).1 n (fun j => .float (f j))) (j := i) (by show (i < 0 ∨ (arrV _ _ _).slots.size ≤ _); rw [arrV_size]; exact Classical.byContradiction hout) (g := F0 m pc ls (.int i :: .ref a :: rest)) rfl (rest := rest) rfl (by rw [hb]; exact hdg) t
  simp only [arrV_size] at h1
  exact h1 st
theorem vx_fastZ {D : va_G} {cl : List vw_C} {ws : va_W} {tys : List (ClassId × FieldType)} {a : Nat} (hexec : p.tables.exec = Jvm.exec) (hb : c.code = cc) (hK : va_K D cl tys s) (hP : va_P D cl ws H) (q0 t0 : Nat) {cA : ClassId} {n : Nat} {f : Nat → UInt32} (ha : ws[q0]? = some (a, .inl (cA, n, .inr (.inr (.inl f))))) (ht : tys[t0]? = some (cA, .float)) {i : Int32} {x : UInt32} (hout : ¬ vp_in i n) (hdg : decode cc pc = .ok (.fastore, 1))
    (k : ∀ tx : String, tx = (toString "Index " ++ toString i ++ toString " out of bounds for length " ++ toString n : String) → vx_Note p l e R s m args below meth c H locs cells slots Q (F0 m pc ls rest) "java/lang/ArrayIndexOutOfBoundsException" tx) : W p l e R s m args below meth c H locs cells slots Q (F0 m pc ls (.float x :: .int i :: .ref a :: rest)) := by
  intro T hT X
  obtain ⟨t, st, q⟩ := k _ rfl T hT X
  refine ⟨t, ?_, q⟩
  have h1 := X.fastoreOut hexec (by rw [hT]; exact hP q0 _ ha) ((hK.2 t0 _ ht).1 n (fun j => .float (f j))) (j := i) (by show (i < 0 ∨ (arrV _ _ _).slots.size ≤ _); rw [arrV_size]; exact Classical.byContradiction hout) (g := F0 m pc ls (.float x :: .int i :: .ref a :: rest)) rfl (rest := rest) rfl (by rw [hb]; exact hdg) t
  simp only [arrV_size] at h1
  exact h1 st
theorem vx_daldZ {D : va_G} {cl : List vw_C} {ws : va_W} {tys : List (ClassId × FieldType)} {a : Nat} (hexec : p.tables.exec = Jvm.exec) (hb : c.code = cc) (hK : va_K D cl tys s) (hP : va_P D cl ws H) (q0 t0 : Nat) {cA : ClassId} {n : Nat} {f : Nat → UInt64} (ha : ws[q0]? = some (a, .inl (cA, n, .inr (.inr (.inr (.inl f)))))) (ht : tys[t0]? = some (cA, .double)) {i : Int32} (hout : ¬ vp_in i n) (hdg : decode cc pc = .ok (.daload, 1))
    (k : ∀ tx : String, tx = (toString "Index " ++ toString i ++ toString " out of bounds for length " ++ toString n : String) → vx_Note p l e R s m args below meth c H locs cells slots Q (F0 m pc ls rest) "java/lang/ArrayIndexOutOfBoundsException" tx) : W p l e R s m args below meth c H locs cells slots Q (F0 m pc ls (.int i :: .ref a :: rest)) := by
  intro T hT X
  obtain ⟨t, st, q⟩ := k _ rfl T hT X
  refine ⟨t, ?_, q⟩
  have h1 := X.daloadOut hexec (by rw [hT]; exact hP q0 _ ha) ((hK.2 t0 _ ht).1 n (fun j => .double (f j))) (j := i) (by show (i < 0 ∨ (arrV _ _ _).slots.size ≤ _); rw [arrV_size]; exact Classical.byContradiction hout) (g := F0 m pc ls (.int i :: .ref a :: rest)) rfl (rest := rest) rfl (by rw [hb]; exact hdg) t
  simp only [arrV_size] at h1
  exact h1 st
theorem vx_dastZ {D : va_G} {cl : List vw_C} {ws : va_W} {tys : List (ClassId × FieldType)} {a : Nat} (hexec : p.tables.exec = Jvm.exec) (hb : c.code = cc) (hK : va_K D cl tys s) (hP : va_P D cl ws H) (q0 t0 : Nat) {cA : ClassId} {n : Nat} {f : Nat → UInt64} (ha : ws[q0]? = some (a, .inl (cA, n, .inr (.inr (.inr (.inl f)))))) (ht : tys[t0]? = some (cA, .double)) {i : Int32} {x : UInt64} (hout : ¬ vp_in i n) (hdg : decode cc pc = .ok (.dastore, 1))
    (k : ∀ tx : String, tx = (toString "Index " ++ toString i ++ toString " out of bounds for length " ++ toString n : String) → vx_Note p l e R s m args below meth c H locs cells slots Q (F0 m pc ls rest) "java/lang/ArrayIndexOutOfBoundsException" tx) : W p l e R s m args below meth c H locs cells slots Q (F0 m pc ls (.double x :: .int i :: .ref a :: rest)) := by
  intro T hT X
  obtain ⟨t, st, q⟩ := k _ rfl T hT X
  refine ⟨t, ?_, q⟩
  have h1 := X.dastoreOut hexec (by rw [hT]; exact hP q0 _ ha) ((hK.2 t0 _ ht).1 n (fun j => .double (f j))) (j := i) (by show (i < 0 ∨ (arrV _ _ _).slots.size ≤ _); rw [arrV_size]; exact Classical.byContradiction hout) (g := F0 m pc ls (.double x :: .int i :: .ref a :: rest)) rfl (rest := rest) rfl (by rw [hb]; exact hdg) t
  simp only [arrV_size] at h1
  exact h1 st
theorem vx_arraylengthN (hexec : p.tables.exec = Jvm.exec) (hb : c.code = cc) (hdg : decode cc pc = .ok (.arraylength, 1)) (k : vx_NoteN p l e R s m args below meth c H locs cells slots Q (F0 m pc ls rest)) : W p l e R s m args below meth c H locs cells slots Q (F0 m pc ls (.null :: rest)) := by
  intro T hT X
  obtain ⟨t, st, q⟩ := k T hT X
  exact ⟨t, X.arraylengthNull hexec (g := F0 m pc ls (.null :: rest)) rfl (rest := rest) rfl (by rw [hb]; exact hdg) t st, q⟩
theorem vx_ialoadN (hexec : p.tables.exec = Jvm.exec) (hb : c.code = cc) {i : Int32} (hdg : decode cc pc = .ok (.iaload, 1)) (k : vx_NoteN p l e R s m args below meth c H locs cells slots Q (F0 m pc ls rest)) : W p l e R s m args below meth c H locs cells slots Q (F0 m pc ls (.int i :: .null :: rest)) := by
  intro T hT X
  obtain ⟨t, st, q⟩ := k T hT X
  exact ⟨t, X.ialoadNull hexec (g := F0 m pc ls (.int i :: .null :: rest)) rfl (rest := rest) rfl (by rw [hb]; exact hdg) t st, q⟩
theorem vx_laloadN (hexec : p.tables.exec = Jvm.exec) (hb : c.code = cc) {i : Int32} (hdg : decode cc pc = .ok (.laload, 1)) (k : vx_NoteN p l e R s m args below meth c H locs cells slots Q (F0 m pc ls rest)) : W p l e R s m args below meth c H locs cells slots Q (F0 m pc ls (.int i :: .null :: rest)) := by
  intro T hT X
  obtain ⟨t, st, q⟩ := k T hT X
  exact ⟨t, X.laloadNull hexec (g := F0 m pc ls (.int i :: .null :: rest)) rfl (rest := rest) rfl (by rw [hb]; exact hdg) t st, q⟩
theorem vx_faloadN (hexec : p.tables.exec = Jvm.exec) (hb : c.code = cc) {i : Int32} (hdg : decode cc pc = .ok (.faload, 1)) (k : vx_NoteN p l e R s m args below meth c H locs cells slots Q (F0 m pc ls rest)) : W p l e R s m args below meth c H locs cells slots Q (F0 m pc ls (.int i :: .null :: rest)) := by
  intro T hT X
  obtain ⟨t, st, q⟩ := k T hT X
  exact ⟨t, X.faloadNull hexec (g := F0 m pc ls (.int i :: .null :: rest)) rfl (rest := rest) rfl (by rw [hb]; exact hdg) t st, q⟩
theorem vx_daloadN (hexec : p.tables.exec = Jvm.exec) (hb : c.code = cc) {i : Int32} (hdg : decode cc pc = .ok (.daload, 1)) (k : vx_NoteN p l e R s m args below meth c H locs cells slots Q (F0 m pc ls rest)) : W p l e R s m args below meth c H locs cells slots Q (F0 m pc ls (.int i :: .null :: rest)) := by
  intro T hT X
  obtain ⟨t, st, q⟩ := k T hT X
  exact ⟨t, X.daloadNull hexec (g := F0 m pc ls (.int i :: .null :: rest)) rfl (rest := rest) rfl (by rw [hb]; exact hdg) t st, q⟩
theorem vx_aaloadN (hexec : p.tables.exec = Jvm.exec) (hb : c.code = cc) {i : Int32} (hdg : decode cc pc = .ok (.aaload, 1)) (k : vx_NoteN p l e R s m args below meth c H locs cells slots Q (F0 m pc ls rest)) : W p l e R s m args below meth c H locs cells slots Q (F0 m pc ls (.int i :: .null :: rest)) := by
  intro T hT X
  obtain ⟨t, st, q⟩ := k T hT X
  exact ⟨t, X.aaloadNull hexec (g := F0 m pc ls (.int i :: .null :: rest)) rfl (rest := rest) rfl (by rw [hb]; exact hdg) t st, q⟩
theorem vx_baloadN (hexec : p.tables.exec = Jvm.exec) (hb : c.code = cc) {i : Int32} (hdg : decode cc pc = .ok (.baload, 1)) (k : vx_NoteN p l e R s m args below meth c H locs cells slots Q (F0 m pc ls rest)) : W p l e R s m args below meth c H locs cells slots Q (F0 m pc ls (.int i :: .null :: rest)) := by
  intro T hT X
  obtain ⟨t, st, q⟩ := k T hT X
  exact ⟨t, X.baloadNull hexec (g := F0 m pc ls (.int i :: .null :: rest)) rfl (rest := rest) rfl (by rw [hb]; exact hdg) t st, q⟩
theorem vx_caloadN (hexec : p.tables.exec = Jvm.exec) (hb : c.code = cc) {i : Int32} (hdg : decode cc pc = .ok (.caload, 1)) (k : vx_NoteN p l e R s m args below meth c H locs cells slots Q (F0 m pc ls rest)) : W p l e R s m args below meth c H locs cells slots Q (F0 m pc ls (.int i :: .null :: rest)) := by
  intro T hT X
  obtain ⟨t, st, q⟩ := k T hT X
  exact ⟨t, X.caloadNull hexec (g := F0 m pc ls (.int i :: .null :: rest)) rfl (rest := rest) rfl (by rw [hb]; exact hdg) t st, q⟩
theorem vx_saloadN (hexec : p.tables.exec = Jvm.exec) (hb : c.code = cc) {i : Int32} (hdg : decode cc pc = .ok (.saload, 1)) (k : vx_NoteN p l e R s m args below meth c H locs cells slots Q (F0 m pc ls rest)) : W p l e R s m args below meth c H locs cells slots Q (F0 m pc ls (.int i :: .null :: rest)) := by
  intro T hT X
  obtain ⟨t, st, q⟩ := k T hT X
  exact ⟨t, X.saloadNull hexec (g := F0 m pc ls (.int i :: .null :: rest)) rfl (rest := rest) rfl (by rw [hb]; exact hdg) t st, q⟩
theorem vx_iastoreN (hexec : p.tables.exec = Jvm.exec) (hb : c.code = cc) {x : Int32} {i : Int32} (hdg : decode cc pc = .ok (.iastore, 1)) (k : vx_NoteN p l e R s m args below meth c H locs cells slots Q (F0 m pc ls rest)) : W p l e R s m args below meth c H locs cells slots Q (F0 m pc ls (.int x :: .int i :: .null :: rest)) := by
  intro T hT X
  obtain ⟨t, st, q⟩ := k T hT X
  exact ⟨t, X.iastoreNull hexec (g := F0 m pc ls (.int x :: .int i :: .null :: rest)) rfl (rest := rest) rfl (by rw [hb]; exact hdg) t st, q⟩
theorem vx_lastoreN (hexec : p.tables.exec = Jvm.exec) (hb : c.code = cc) {x : Int64} {i : Int32} (hdg : decode cc pc = .ok (.lastore, 1)) (k : vx_NoteN p l e R s m args below meth c H locs cells slots Q (F0 m pc ls rest)) : W p l e R s m args below meth c H locs cells slots Q (F0 m pc ls (.long x :: .int i :: .null :: rest)) := by
  intro T hT X
  obtain ⟨t, st, q⟩ := k T hT X
  exact ⟨t, X.lastoreNull hexec (g := F0 m pc ls (.long x :: .int i :: .null :: rest)) rfl (rest := rest) rfl (by rw [hb]; exact hdg) t st, q⟩
theorem vx_fastoreN (hexec : p.tables.exec = Jvm.exec) (hb : c.code = cc) {x : UInt32} {i : Int32} (hdg : decode cc pc = .ok (.fastore, 1)) (k : vx_NoteN p l e R s m args below meth c H locs cells slots Q (F0 m pc ls rest)) : W p l e R s m args below meth c H locs cells slots Q (F0 m pc ls (.float x :: .int i :: .null :: rest)) := by
  intro T hT X
  obtain ⟨t, st, q⟩ := k T hT X
  exact ⟨t, X.fastoreNull hexec (g := F0 m pc ls (.float x :: .int i :: .null :: rest)) rfl (rest := rest) rfl (by rw [hb]; exact hdg) t st, q⟩
theorem vx_dastoreN (hexec : p.tables.exec = Jvm.exec) (hb : c.code = cc) {x : UInt64} {i : Int32} (hdg : decode cc pc = .ok (.dastore, 1)) (k : vx_NoteN p l e R s m args below meth c H locs cells slots Q (F0 m pc ls rest)) : W p l e R s m args below meth c H locs cells slots Q (F0 m pc ls (.double x :: .int i :: .null :: rest)) := by
  intro T hT X
  obtain ⟨t, st, q⟩ := k T hT X
  exact ⟨t, X.dastoreNull hexec (g := F0 m pc ls (.double x :: .int i :: .null :: rest)) rfl (rest := rest) rfl (by rw [hb]; exact hdg) t st, q⟩
theorem vx_bastoreN (hexec : p.tables.exec = Jvm.exec) (hb : c.code = cc) {x : Int32} {i : Int32} (hdg : decode cc pc = .ok (.bastore, 1)) (k : vx_NoteN p l e R s m args below meth c H locs cells slots Q (F0 m pc ls rest)) : W p l e R s m args below meth c H locs cells slots Q (F0 m pc ls (.int x :: .int i :: .null :: rest)) := by
  intro T hT X
  obtain ⟨t, st, q⟩ := k T hT X
  exact ⟨t, X.bastoreNull hexec (g := F0 m pc ls (.int x :: .int i :: .null :: rest)) rfl (rest := rest) rfl (by rw [hb]; exact hdg) t st, q⟩
theorem vx_castoreN (hexec : p.tables.exec = Jvm.exec) (hb : c.code = cc) {x : Int32} {i : Int32} (hdg : decode cc pc = .ok (.castore, 1)) (k : vx_NoteN p l e R s m args below meth c H locs cells slots Q (F0 m pc ls rest)) : W p l e R s m args below meth c H locs cells slots Q (F0 m pc ls (.int x :: .int i :: .null :: rest)) := by
  intro T hT X
  obtain ⟨t, st, q⟩ := k T hT X
  exact ⟨t, X.castoreNull hexec (g := F0 m pc ls (.int x :: .int i :: .null :: rest)) rfl (rest := rest) rfl (by rw [hb]; exact hdg) t st, q⟩
theorem vx_sastoreN (hexec : p.tables.exec = Jvm.exec) (hb : c.code = cc) {x : Int32} {i : Int32} (hdg : decode cc pc = .ok (.sastore, 1)) (k : vx_NoteN p l e R s m args below meth c H locs cells slots Q (F0 m pc ls rest)) : W p l e R s m args below meth c H locs cells slots Q (F0 m pc ls (.int x :: .int i :: .null :: rest)) := by
  intro T hT X
  obtain ⟨t, st, q⟩ := k T hT X
  exact ⟨t, X.sastoreNull hexec (g := F0 m pc ls (.int x :: .int i :: .null :: rest)) rfl (rest := rest) rfl (by rw [hb]; exact hdg) t st, q⟩
theorem vx_invokeN {own C : String} {index maxL : Nat} {y : MethodName} {bytes : ByteArray} {ret : Option FieldType} (hexec : p.tables.exec = Jvm.exec) (hb : c.code = cc) (hown : s.vm.findClass own = some m.cls) (hlink : (Cond.methodLink own index y).before args s = true) (hinst : (Cond.instanceMethod y).before args s = true) (hcode : (Cond.code y bytes maxL ret).before args s = true) (hsel : (Cond.selects C y y).before args s = true)
    (hx : y.cls ≠ "java/lang/invoke/MethodHandle" ∧ y.cls ≠ "java/lang/invoke/VarHandle") {As : List Value} (hlen : (parseMethodDescriptor y.desc).map (fun d => d.parameters.length) = some As.length) (hdg : decode cc pc = .ok (.invokevirtual index, 3))
    (k : vx_NoteN p l e R s m args below meth c H locs cells slots Q (F0 m pc ls rest)) {st0 : List Value} (hst : st0 = As.reverse ++ .null :: rest) : W p l e R s m args below meth c H locs cells slots Q (F0 m pc ls st0) := by
  intro T hT X
  obtain ⟨r0, r, hn, hrm, hstR, hsigR⟩ := va_Decl.of hinst hcode
  obtain ⟨c2, r2, m2, q1, q2, q3, q4, kP, hkP, hkPi⟩ := Cond.selects_spec hsel
  cases hn.symm.trans q3
  have hl9 : As.length = r.sig.parameters.length := by
    rw [hsigR] at hlen
    exact (Option.some.inj hlen).symm
  obtain ⟨vm', X1, st1⟩ := X.invokevirtualNull hexec hown hlink hn hrm hstR hkP hkPi hx (g := F0 m pc ls st0) rfl (argsL := As) (rest := rest) hl9 hst (by rw [hb]; exact hdg)
  obtain ⟨t, st, q⟩ := k (T.setVm vm') hT X1
  exact ⟨t, st1 t st, q⟩
theorem vx_newarrayZ {atype : ArrayType} (hexec : p.tables.exec = Jvm.exec) (hb : c.code = cc) {n : Int32} (h0 : n < 0) (hdg : decode cc pc = .ok (.newarray atype, 2)) (k : ∀ tx : String, tx = toString n → vx_Note p l e R s m args below meth c H locs cells slots Q (F0 m pc ls rest) "java/lang/NegativeArraySizeException" tx) : W p l e R s m args below meth c H locs cells slots Q (F0 m pc ls (.int n :: rest)) := by
  intro T hT X
  obtain ⟨t, st, q⟩ := k _ rfl T hT X
  exact ⟨t, X.newarrayNegative hexec (g := F0 m pc ls (.int n :: rest)) rfl h0 (rest := rest) rfl (by rw [hb]; exact hdg) t st, q⟩
end
end VXM
/-! ===== END ===== -/
end
section
def RX0 : String := "RumourHives$History"
def TX0 : u_T := fun k => match k with
  | 0 => ("RumourHives$History", "scenes", "[LRumourHives$Scene;", true)
  | 1 => ("RumourHives$History", "kept", "I", false)
  | _ => ("RumourHives$History", "next", "I", false)
def tyX0 : Nat → FieldType := fun k => match k with
  | 0 => .array (.object "RumourHives$Scene")
  | 1 => .int
  | _ => .int
abbrev wsX00 : List Cond := u_ws RX0 TX0 3
theorem nmX0 : ∀ a, a < 3 → ∀ b, b < 3 → a ≠ b → (TX0 a).2.1 ≠ (TX0 b).2.1 := by decide +kernel
theorem tyX0_ok : ∀ k, k < 3 → parseFieldDescriptor (TX0 k).2.2.1 = some (tyX0 k) := by decide +kernel
abbrev cX0_init : ByteArray := prog_2_method_1_code
def yX0_init : MethodName := ⟨RX0, "<init>", "()V"⟩
abbrev cX0_keep : ByteArray := prog_2_method_2_code
def yX0_keep : MethodName := ⟨RX0, "keep", "(LRumourHives$Scene;)V"⟩
abbrev cX0_takeBack : ByteArray := prog_2_method_3_code
def yX0_takeBack : MethodName := ⟨RX0, "takeBack", "(LRumourHives$Scene;)V"⟩
def RX1 : String := "RumourHives$Net"
def TX1 : u_T := fun k => match k with
  | 0 => ("RumourHives$Net", "size", "I", false)
  | 1 => ("RumourHives$Net", "links", "I", false)
  | 2 => ("RumourHives$Net", "neighbours", "[I", true)
  | 3 => ("RumourHives$Net", "parents", "[I", true)
  | _ => ("RumourHives$Net", "steps", "[I", true)
def tyX1 : Nat → FieldType := fun k => match k with
  | 0 => .int
  | 1 => .int
  | 2 => .array .int
  | 3 => .array .int
  | _ => .array .int
abbrev wsX10 : List Cond := u_ws RX1 TX1 5
theorem nmX1 : ∀ a, a < 5 → ∀ b, b < 5 → a ≠ b → (TX1 a).2.1 ≠ (TX1 b).2.1 := by decide +kernel
theorem tyX1_ok : ∀ k, k < 5 → parseFieldDescriptor (TX1 k).2.2.1 = some (tyX1 k) := by decide +kernel
abbrev cX1_init : ByteArray := prog_3_method_1_code
def yX1_init : MethodName := ⟨RX1, "<init>", "()V"⟩
abbrev cX1_copyFrom : ByteArray := prog_3_method_2_code
def yX1_copyFrom : MethodName := ⟨RX1, "copyFrom", "(LRumourHives$Net;)V"⟩
abbrev cX1_joined : ByteArray := prog_3_method_3_code
def yX1_joined : MethodName := ⟨RX1, "joined", "(II)Z"⟩
abbrev cX1_join : ByteArray := prog_3_method_4_code
def yX1_join : MethodName := ⟨RX1, "join", "(II)I"⟩
abbrev cX1_cut : ByteArray := prog_3_method_5_code
def yX1_cut : MethodName := ⟨RX1, "cut", "(II)I"⟩
abbrev cX1_around : ByteArray := prog_3_method_6_code
def yX1_around : MethodName := ⟨RX1, "around", "(I)I"⟩
abbrev cX1_piecesBySearch : ByteArray := prog_3_method_7_code
def yX1_piecesBySearch : MethodName := ⟨RX1, "piecesBySearch", "()I"⟩
abbrev cX1_pieceOf : ByteArray := prog_3_method_8_code
def yX1_pieceOf : MethodName := ⟨RX1, "pieceOf", "(I)I"⟩
abbrev cX1_piecesByUnion : ByteArray := prog_3_method_9_code
def yX1_piecesByUnion : MethodName := ⟨RX1, "piecesByUnion", "()I"⟩
abbrev cX1_unite : ByteArray := prog_3_method_10_code
def yX1_unite : MethodName := ⟨RX1, "unite", "(II)Z"⟩
abbrev cX1_rootOf : ByteArray := prog_3_method_11_code
def yX1_rootOf : MethodName := ⟨RX1, "rootOf", "(I)I"⟩
abbrev cX1_stepsBySearch : ByteArray := prog_3_method_12_code
def yX1_stepsBySearch : MethodName := ⟨RX1, "stepsBySearch", "(II)I"⟩
abbrev cX1_stepsByRelaxing : ByteArray := prog_3_method_13_code
def yX1_stepsByRelaxing : MethodName := ⟨RX1, "stepsByRelaxing", "(II)I"⟩
abbrev cX1_relaxLinks : ByteArray := prog_3_method_14_code
def yX1_relaxLinks : MethodName := ⟨RX1, "relaxLinks", "()V"⟩
def RX2 : String := "RumourHives$Rumour"
def TX2 : u_T := fun k => match k with
  | 0 => ("RumourHives$Rumour", "source", "I", false)
  | 1 => ("RumourHives$Rumour", "force", "I", false)
  | 2 => ("RumourHives$Rumour", "alive", "Z", false)
  | 3 => ("RumourHives$Rumour", "spreaders", "I", false)
  | 4 => ("RumourHives$Rumour", "sceptics", "I", false)
  | _ => ("RumourHives$Rumour", "heardIn", "[I", true)
def tyX2 : Nat → FieldType := fun k => match k with
  | 0 => .int
  | 1 => .int
  | 2 => .boolean
  | 3 => .int
  | 4 => .int
  | _ => .array .int
abbrev wsX20 : List Cond := u_ws RX2 TX2 6
theorem nmX2 : ∀ a, a < 6 → ∀ b, b < 6 → a ≠ b → (TX2 a).2.1 ≠ (TX2 b).2.1 := by decide +kernel
theorem tyX2_ok : ∀ k, k < 6 → parseFieldDescriptor (TX2 k).2.2.1 = some (tyX2 k) := by decide +kernel
abbrev cX2_init : ByteArray := prog_4_method_1_code
def yX2_init : MethodName := ⟨RX2, "<init>", "()V"⟩
abbrev cX2_copyFrom : ByteArray := prog_4_method_2_code
def yX2_copyFrom : MethodName := ⟨RX2, "copyFrom", "(LRumourHives$Rumour;)V"⟩
abbrev cX2_comeUp : ByteArray := prog_4_method_3_code
def yX2_comeUp : MethodName := ⟨RX2, "comeUp", "(III)V"⟩
abbrev cX2_aware : ByteArray := prog_4_method_4_code
def yX2_aware : MethodName := ⟨RX2, "aware", "()I"⟩
abbrev cX2_silence : ByteArray := prog_4_method_5_code
def yX2_silence : MethodName := ⟨RX2, "silence", "()I"⟩
abbrev cX2_revive : ByteArray := prog_4_method_6_code
def yX2_revive : MethodName := ⟨RX2, "revive", "(I)I"⟩
abbrev cX2_weaken : ByteArray := prog_4_method_7_code
def yX2_weaken : MethodName := ⟨RX2, "weaken", "()V"⟩
abbrev cX2_signOf : ByteArray := prog_4_method_8_code
def yX2_signOf : MethodName := ⟨RX2, "signOf", "(I)C"⟩
def RX3 : String := "RumourHives$Scene"
def TX3 : u_T := fun k => match k with
  | 0 => ("RumourHives$Scene", "net", "LRumourHives$Net;", true)
  | 1 => ("RumourHives$Scene", "hiveOf", "[I", true)
  | 2 => ("RumourHives$Scene", "doubtOf", "[I", true)
  | 3 => ("RumourHives$Scene", "rumours", "[LRumourHives$Rumour;", true)
  | 4 => ("RumourHives$Scene", "started", "I", false)
  | 5 => ("RumourHives$Scene", "passedRounds", "I", false)
  | 6 => ("RumourHives$Scene", "hearings", "I", false)
  | _ => ("RumourHives$Scene", "conversions", "I", false)
def tyX3 : Nat → FieldType := fun k => match k with
  | 0 => .object "RumourHives$Net"
  | 1 => .array .int
  | 2 => .array .int
  | 3 => .array (.object "RumourHives$Rumour")
  | 4 => .int
  | 5 => .int
  | 6 => .int
  | _ => .int
abbrev wsX30 : List Cond := u_ws RX3 TX3 8
theorem nmX3 : ∀ a, a < 8 → ∀ b, b < 8 → a ≠ b → (TX3 a).2.1 ≠ (TX3 b).2.1 := by decide +kernel
theorem tyX3_ok : ∀ k, k < 8 → parseFieldDescriptor (TX3 k).2.2.1 = some (tyX3 k) := by decide +kernel
abbrev cX3_init : ByteArray := prog_5_method_1_code
def yX3_init : MethodName := ⟨RX3, "<init>", "()V"⟩
abbrev cX3_copyFrom : ByteArray := prog_5_method_2_code
def yX3_copyFrom : MethodName := ⟨RX3, "copyFrom", "(LRumourHives$Scene;)V"⟩
abbrev cX3_hasListener : ByteArray := prog_5_method_3_code
def yX3_hasListener : MethodName := ⟨RX3, "hasListener", "(I)Z"⟩
abbrev cX3_hasRumour : ByteArray := prog_5_method_4_code
def yX3_hasRumour : MethodName := ⟨RX3, "hasRumour", "(I)Z"⟩
abbrev cX3_refusalToAdd : ByteArray := prog_5_method_5_code
def yX3_refusalToAdd : MethodName := ⟨RX3, "refusalToAdd", "(II)I"⟩
abbrev cX3_add : ByteArray := prog_5_method_6_code
def yX3_add : MethodName := ⟨RX3, "add", "(II)I"⟩
abbrev cX3_refusalToJoin : ByteArray := prog_5_method_7_code
def yX3_refusalToJoin : MethodName := ⟨RX3, "refusalToJoin", "(II)I"⟩
abbrev cX3_refusalToCut : ByteArray := prog_5_method_8_code
def yX3_refusalToCut : MethodName := ⟨RX3, "refusalToCut", "(II)I"⟩
abbrev cX3_refusalToMove : ByteArray := prog_5_method_9_code
def yX3_refusalToMove : MethodName := ⟨RX3, "refusalToMove", "(II)I"⟩
abbrev cX3_move : ByteArray := prog_5_method_10_code
def yX3_move : MethodName := ⟨RX3, "move", "(II)I"⟩
abbrev cX3_refusalToStart : ByteArray := prog_5_method_11_code
def yX3_refusalToStart : MethodName := ⟨RX3, "refusalToStart", "(II)I"⟩
abbrev cX3_begin : ByteArray := prog_5_method_12_code
def yX3_begin : MethodName := ⟨RX3, "begin", "(II)I"⟩
abbrev cX3_refusalToConvert : ByteArray := prog_5_method_13_code
def yX3_refusalToConvert : MethodName := ⟨RX3, "refusalToConvert", "(II)I"⟩
abbrev cX3_convert : ByteArray := prog_5_method_14_code
def yX3_convert : MethodName := ⟨RX3, "convert", "(II)I"⟩
abbrev cX3_refusalToSilence : ByteArray := prog_5_method_15_code
def yX3_refusalToSilence : MethodName := ⟨RX3, "refusalToSilence", "(I)I"⟩
abbrev cX3_refusalToRevive : ByteArray := prog_5_method_16_code
def yX3_refusalToRevive : MethodName := ⟨RX3, "refusalToRevive", "(II)I"⟩
abbrev cX3_passRounds : ByteArray := prog_5_method_17_code
def yX3_passRounds : MethodName := ⟨RX3, "passRounds", "(I)I"⟩
abbrev cX3_spreadOnce : ByteArray := prog_5_method_18_code
def yX3_spreadOnce : MethodName := ⟨RX3, "spreadOnce", "(LRumourHives$Rumour;)I"⟩
abbrev cX3_hears : ByteArray := prog_5_method_19_code
def yX3_hears : MethodName := ⟨RX3, "hears", "(LRumourHives$Rumour;I)Z"⟩
abbrev cX3_believes : ByteArray := prog_5_method_20_code
def yX3_believes : MethodName := ⟨RX3, "believes", "(LRumourHives$Rumour;I)Z"⟩
abbrev cX3_believersToCome : ByteArray := prog_5_method_21_code
def yX3_believersToCome : MethodName := ⟨RX3, "believersToCome", "(LRumourHives$Rumour;)I"⟩
abbrev cX3_membersOf : ByteArray := prog_5_method_22_code
def yX3_membersOf : MethodName := ⟨RX3, "membersOf", "(I)I"⟩
abbrev cX3_hiveWithMost : ByteArray := prog_5_method_23_code
def yX3_hiveWithMost : MethodName := ⟨RX3, "hiveWithMost", "(I)I"⟩
abbrev cX3_rumourAtRank : ByteArray := prog_5_method_24_code
def yX3_rumourAtRank : MethodName := ⟨RX3, "rumourAtRank", "(I)I"⟩
abbrev cX3_spreadsAhead : ByteArray := prog_5_method_25_code
def yX3_spreadsAhead : MethodName := ⟨RX3, "spreadsAhead", "(II)Z"⟩
abbrev cX3_listenerAtRank : ByteArray := prog_5_method_26_code
def yX3_listenerAtRank : MethodName := ⟨RX3, "listenerAtRank", "(I)I"⟩
abbrev cX3_gossipsAhead : ByteArray := prog_5_method_27_code
def yX3_gossipsAhead : MethodName := ⟨RX3, "gossipsAhead", "(II)Z"⟩
abbrev cX3_spreadBy : ByteArray := prog_5_method_28_code
def yX3_spreadBy : MethodName := ⟨RX3, "spreadBy", "(I)I"⟩
abbrev cX3_gossips : ByteArray := prog_5_method_29_code
def yX3_gossips : MethodName := ⟨RX3, "gossips", "()I"⟩
abbrev cX3_sumOfDoubts : ByteArray := prog_5_method_30_code
def yX3_sumOfDoubts : MethodName := ⟨RX3, "sumOfDoubts", "()I"⟩
abbrev cX3_distancesAgree : ByteArray := prog_5_method_31_code
def yX3_distancesAgree : MethodName := ⟨RX3, "distancesAgree", "()Z"⟩
abbrev cX3_standsAreClear : ByteArray := prog_5_method_32_code
def yX3_standsAreClear : MethodName := ⟨RX3, "standsAreClear", "()Z"⟩
abbrev cX3_hivesAddUp : ByteArray := prog_5_method_33_code
def yX3_hivesAddUp : MethodName := ⟨RX3, "hivesAddUp", "()Z"⟩
def RX4 : String := "RumourHives$Script"
def TX4 : u_T := fun k => match k with
  | 0 => ("RumourHives$Script", "text", "[C", true)
  | 1 => ("RumourHives$Script", "length", "I", false)
  | 2 => ("RumourHives$Script", "kinds", "[I", true)
  | 3 => ("RumourHives$Script", "firsts", "[I", true)
  | 4 => ("RumourHives$Script", "seconds", "[I", true)
  | 5 => ("RumourHives$Script", "commands", "I", false)
  | 6 => ("RumourHives$Script", "reached", "I", false)
  | 7 => ("RumourHives$Script", "complete", "Z", false)
  | 8 => ("RumourHives$Script", "numbers", "I", false)
  | 9 => ("RumourHives$Script", "firstNumber", "I", false)
  | _ => ("RumourHives$Script", "secondNumber", "I", false)
def tyX4 : Nat → FieldType := fun k => match k with
  | 0 => .array .char
  | 1 => .int
  | 2 => .array .int
  | 3 => .array .int
  | 4 => .array .int
  | 5 => .int
  | 6 => .int
  | 7 => .boolean
  | 8 => .int
  | 9 => .int
  | _ => .int
abbrev wsX40 : List Cond := u_ws RX4 TX4 11
theorem nmX4 : ∀ a, a < 11 → ∀ b, b < 11 → a ≠ b → (TX4 a).2.1 ≠ (TX4 b).2.1 := by decide +kernel
theorem tyX4_ok : ∀ k, k < 11 → parseFieldDescriptor (TX4 k).2.2.1 = some (tyX4 k) := by decide +kernel
abbrev cX4_init : ByteArray := prog_6_method_1_code
def yX4_init : MethodName := ⟨RX4, "<init>", "()V"⟩
abbrev cX4_put : ByteArray := prog_6_method_2_code
def yX4_put : MethodName := ⟨RX4, "put", "(C)V"⟩
abbrev cX4_readAll : ByteArray := prog_6_method_3_code
def yX4_readAll : MethodName := ⟨RX4, "readAll", "()I"⟩
abbrev cX4_keepCommand : ByteArray := prog_6_method_4_code
def yX4_keepCommand : MethodName := ⟨RX4, "keepCommand", "(I)V"⟩
abbrev cX4_furthestKind : ByteArray := prog_6_method_5_code
def yX4_furthestKind : MethodName := ⟨RX4, "furthestKind", "(I)I"⟩
abbrev cX4_formOf : ByteArray := prog_6_method_6_code
def yX4_formOf : MethodName := ⟨RX4, "formOf", "(I)Ljava/lang/String;"⟩
abbrev cX4_match : ByteArray := prog_6_method_7_code
def yX4_match : MethodName := ⟨RX4, "match", "(II)V"⟩
abbrev cX4_takes : ByteArray := prog_6_method_8_code
def yX4_takes : MethodName := ⟨RX4, "takes", "(C)Z"⟩
abbrev cX4_takesNumber : ByteArray := prog_6_method_9_code
def yX4_takesNumber : MethodName := ⟨RX4, "takesNumber", "(I)Z"⟩
abbrev cX4_digitFollows : ByteArray := prog_6_method_10_code
def yX4_digitFollows : MethodName := ⟨RX4, "digitFollows", "()Z"⟩
def RX5 : String := "RumourHives"
def TX5 : u_T := fun k => match k with
  | 0 => ("RumourHives", "now", "LRumourHives$Scene;", true)
  | 1 => ("RumourHives", "beforeScript", "LRumourHives$Scene;", true)
  | 2 => ("RumourHives", "snapshot", "LRumourHives$Scene;", true)
  | 3 => ("RumourHives", "history", "LRumourHives$History;", true)
  | 4 => ("RumourHives", "forecast", "LRumourHives$Rumour;", true)
  | 5 => ("RumourHives", "script", "LRumourHives$Script;", true)
  | 6 => ("RumourHives", "output", "Ljava/lang/StringBuilder;", true)
  | 7 => ("RumourHives", "hasSnapshot", "Z", false)
  | 8 => ("RumourHives", "latestError", "I", false)
  | _ => ("RumourHives", "latestFailure", "I", false)
def tyX5 : Nat → FieldType := fun k => match k with
  | 0 => .object "RumourHives$Scene"
  | 1 => .object "RumourHives$Scene"
  | 2 => .object "RumourHives$Scene"
  | 3 => .object "RumourHives$History"
  | 4 => .object "RumourHives$Rumour"
  | 5 => .object "RumourHives$Script"
  | 6 => .object "java/lang/StringBuilder"
  | 7 => .boolean
  | 8 => .int
  | _ => .int
abbrev wsX50 : List Cond := u_ws RX5 TX5 10
theorem nmX5 : ∀ a, a < 10 → ∀ b, b < 10 → a ≠ b → (TX5 a).2.1 ≠ (TX5 b).2.1 := by decide +kernel
theorem tyX5_ok : ∀ k, k < 10 → parseFieldDescriptor (TX5 k).2.2.1 = some (tyX5 k) := by decide +kernel
abbrev cX5_init : ByteArray := prog_1_method_1_code
def yX5_init : MethodName := ⟨RX5, "<init>", "()V"⟩
abbrev cX5_addListener : ByteArray := prog_1_method_2_code
def yX5_addListener : MethodName := ⟨RX5, "addListener", "(II)I"⟩
abbrev cX5_link : ByteArray := prog_1_method_3_code
def yX5_link : MethodName := ⟨RX5, "link", "(II)I"⟩
abbrev cX5_unlink : ByteArray := prog_1_method_4_code
def yX5_unlink : MethodName := ⟨RX5, "unlink", "(II)I"⟩
abbrev cX5_moveListener : ByteArray := prog_1_method_5_code
def yX5_moveListener : MethodName := ⟨RX5, "moveListener", "(II)I"⟩
abbrev cX5_startRumour : ByteArray := prog_1_method_6_code
def yX5_startRumour : MethodName := ⟨RX5, "startRumour", "(II)I"⟩
abbrev cX5_check : ByteArray := prog_1_method_7_code
def yX5_check : MethodName := ⟨RX5, "check", "(II)Z"⟩
abbrev cX5_deny : ByteArray := prog_1_method_8_code
def yX5_deny : MethodName := ⟨RX5, "deny", "(I)I"⟩
abbrev cX5_answer : ByteArray := prog_1_method_9_code
def yX5_answer : MethodName := ⟨RX5, "answer", "(II)I"⟩
abbrev cX5_advance : ByteArray := prog_1_method_10_code
def yX5_advance : MethodName := ⟨RX5, "advance", "(I)I"⟩
abbrev cX5_listenerCount : ByteArray := prog_1_method_11_code
def yX5_listenerCount : MethodName := ⟨RX5, "listenerCount", "()I"⟩
abbrev cX5_hive : ByteArray := prog_1_method_12_code
def yX5_hive : MethodName := ⟨RX5, "hive", "(I)I"⟩
abbrev cX5_doubt : ByteArray := prog_1_method_13_code
def yX5_doubt : MethodName := ⟨RX5, "doubt", "(I)I"⟩
abbrev cX5_isLinked : ByteArray := prog_1_method_14_code
def yX5_isLinked : MethodName := ⟨RX5, "isLinked", "(II)Z"⟩
abbrev cX5_neighbourCount : ByteArray := prog_1_method_15_code
def yX5_neighbourCount : MethodName := ⟨RX5, "neighbourCount", "(I)I"⟩
abbrev cX5_linkCount : ByteArray := prog_1_method_16_code
def yX5_linkCount : MethodName := ⟨RX5, "linkCount", "()I"⟩
abbrev cX5_hiveSize : ByteArray := prog_1_method_17_code
def yX5_hiveSize : MethodName := ⟨RX5, "hiveSize", "(I)I"⟩
abbrev cX5_componentCount : ByteArray := prog_1_method_18_code
def yX5_componentCount : MethodName := ⟨RX5, "componentCount", "()I"⟩
abbrev cX5_componentCountByUnion : ByteArray := prog_1_method_19_code
def yX5_componentCountByUnion : MethodName := ⟨RX5, "componentCountByUnion", "()I"⟩
abbrev cX5_rumourCount : ByteArray := prog_1_method_20_code
def yX5_rumourCount : MethodName := ⟨RX5, "rumourCount", "()I"⟩
abbrev cX5_strength : ByteArray := prog_1_method_21_code
def yX5_strength : MethodName := ⟨RX5, "strength", "(I)I"⟩
abbrev cX5_isAlive : ByteArray := prog_1_method_22_code
def yX5_isAlive : MethodName := ⟨RX5, "isAlive", "(I)Z"⟩
abbrev cX5_starter : ByteArray := prog_1_method_23_code
def yX5_starter : MethodName := ⟨RX5, "starter", "(I)I"⟩
abbrev cX5_isSpreader : ByteArray := prog_1_method_24_code
def yX5_isSpreader : MethodName := ⟨RX5, "isSpreader", "(II)Z"⟩
abbrev cX5_isSceptic : ByteArray := prog_1_method_25_code
def yX5_isSceptic : MethodName := ⟨RX5, "isSceptic", "(II)Z"⟩
abbrev cX5_heardRound : ByteArray := prog_1_method_26_code
def yX5_heardRound : MethodName := ⟨RX5, "heardRound", "(II)I"⟩
abbrev cX5_spreaderCount : ByteArray := prog_1_method_27_code
def yX5_spreaderCount : MethodName := ⟨RX5, "spreaderCount", "(I)I"⟩
abbrev cX5_scepticCount : ByteArray := prog_1_method_28_code
def yX5_scepticCount : MethodName := ⟨RX5, "scepticCount", "(I)I"⟩
abbrev cX5_countedHive : ByteArray := prog_1_method_29_code
def yX5_countedHive : MethodName := ⟨RX5, "countedHive", "(I)I"⟩
abbrev cX5_spreadersInHive : ByteArray := prog_1_method_30_code
def yX5_spreadersInHive : MethodName := ⟨RX5, "spreadersInHive", "(II)I"⟩
abbrev cX5_distance : ByteArray := prog_1_method_31_code
def yX5_distance : MethodName := ⟨RX5, "distance", "(II)I"⟩
abbrev cX5_distanceByRelaxation : ByteArray := prog_1_method_32_code
def yX5_distanceByRelaxation : MethodName := ⟨RX5, "distanceByRelaxation", "(II)I"⟩
abbrev cX5_nextSpreaders : ByteArray := prog_1_method_33_code
def yX5_nextSpreaders : MethodName := ⟨RX5, "nextSpreaders", "(I)I"⟩
abbrev cX5_roundsUntilHeard : ByteArray := prog_1_method_34_code
def yX5_roundsUntilHeard : MethodName := ⟨RX5, "roundsUntilHeard", "(II)I"⟩
abbrev cX5_spreadersAfter : ByteArray := prog_1_method_35_code
def yX5_spreadersAfter : MethodName := ⟨RX5, "spreadersAfter", "(II)I"⟩
abbrev cX5_rumourBySpread : ByteArray := prog_1_method_36_code
def yX5_rumourBySpread : MethodName := ⟨RX5, "rumourBySpread", "(I)I"⟩
abbrev cX5_listenerByGossip : ByteArray := prog_1_method_37_code
def yX5_listenerByGossip : MethodName := ⟨RX5, "listenerByGossip", "(I)I"⟩
abbrev cX5_round : ByteArray := prog_1_method_38_code
def yX5_round : MethodName := ⟨RX5, "round", "()I"⟩
abbrev cX5_heardTotal : ByteArray := prog_1_method_39_code
def yX5_heardTotal : MethodName := ⟨RX5, "heardTotal", "()I"⟩
abbrev cX5_successfulChecks : ByteArray := prog_1_method_40_code
def yX5_successfulChecks : MethodName := ⟨RX5, "successfulChecks", "()I"⟩
abbrev cX5_meanDoubt : ByteArray := prog_1_method_41_code
def yX5_meanDoubt : MethodName := ⟨RX5, "meanDoubt", "()D"⟩
abbrev cX5_gossipShare : ByteArray := prog_1_method_42_code
def yX5_gossipShare : MethodName := ⟨RX5, "gossipShare", "()F"⟩
abbrev cX5_isConsistent : ByteArray := prog_1_method_43_code
def yX5_isConsistent : MethodName := ⟨RX5, "isConsistent", "()Z"⟩
abbrev cX5_renderRumour : ByteArray := prog_1_method_44_code
def yX5_renderRumour : MethodName := ⟨RX5, "renderRumour", "(I)I"⟩
abbrev cX5_renderHive : ByteArray := prog_1_method_45_code
def yX5_renderHive : MethodName := ⟨RX5, "renderHive", "(I)I"⟩
abbrev cX5_outputAt : ByteArray := prog_1_method_46_code
def yX5_outputAt : MethodName := ⟨RX5, "outputAt", "(I)C"⟩
abbrev cX5_type : ByteArray := prog_1_method_47_code
def yX5_type : MethodName := ⟨RX5, "type", "(C)I"⟩
abbrev cX5_runScript : ByteArray := prog_1_method_48_code
def yX5_runScript : MethodName := ⟨RX5, "runScript", "()I"⟩
abbrev cX5_errorPosition : ByteArray := prog_1_method_49_code
def yX5_errorPosition : MethodName := ⟨RX5, "errorPosition", "()I"⟩
abbrev cX5_failedCommand : ByteArray := prog_1_method_50_code
def yX5_failedCommand : MethodName := ⟨RX5, "failedCommand", "()I"⟩
abbrev cX5_undo : ByteArray := prog_1_method_51_code
def yX5_undo : MethodName := ⟨RX5, "undo", "()I"⟩
abbrev cX5_save : ByteArray := prog_1_method_52_code
def yX5_save : MethodName := ⟨RX5, "save", "()I"⟩
abbrev cX5_restore : ByteArray := prog_1_method_53_code
def yX5_restore : MethodName := ⟨RX5, "restore", "()I"⟩
abbrev cX5_needListener : ByteArray := prog_1_method_54_code
def yX5_needListener : MethodName := ⟨RX5, "needListener", "(I)V"⟩
abbrev cX5_needRumour : ByteArray := prog_1_method_55_code
def yX5_needRumour : MethodName := ⟨RX5, "needRumour", "(I)V"⟩
abbrev cX5_needHive : ByteArray := prog_1_method_56_code
def yX5_needHive : MethodName := ⟨RX5, "needHive", "(I)V"⟩
abbrev cX5_found : ByteArray := prog_1_method_57_code
def yX5_found : MethodName := ⟨RX5, "found", "(I)I"⟩
abbrev cX5_isHive : ByteArray := prog_1_method_58_code
def yX5_isHive : MethodName := ⟨RX5, "isHive", "(I)Z"⟩
abbrev cX5_isLevel : ByteArray := prog_1_method_59_code
def yX5_isLevel : MethodName := ⟨RX5, "isLevel", "(I)Z"⟩
abbrev cX5_contains : ByteArray := prog_1_method_60_code
def yX5_contains : MethodName := ⟨RX5, "contains", "(II)Z"⟩
abbrev cX5_change : ByteArray := prog_1_method_61_code
def yX5_change : MethodName := ⟨RX5, "change", "(III)I"⟩
abbrev cX5_refuse : ByteArray := prog_1_method_62_code
def yX5_refuse : MethodName := ⟨RX5, "refuse", "(I)V"⟩
abbrev cX5_refusalOf : ByteArray := prog_1_method_63_code
def yX5_refusalOf : MethodName := ⟨RX5, "refusalOf", "(III)I"⟩
abbrev cX5_perform : ByteArray := prog_1_method_64_code
def yX5_perform : MethodName := ⟨RX5, "perform", "(III)I"⟩
abbrev cX5_runCommands : ByteArray := prog_1_method_65_code
def yX5_runCommands : MethodName := ⟨RX5, "runCommands", "()I"⟩
abbrev cX5_foreseenHearing : ByteArray := prog_1_method_66_code
def yX5_foreseenHearing : MethodName := ⟨RX5, "foreseenHearing", "(LRumourHives$Rumour;I)I"⟩
def RX6 : String := "RumourHivesModel"
def TX6 : u_T := fun k => match k with
  | 0 => ("RumourHivesModel", "thrown", "I", false)
  | 1 => ("RumourHivesModel", "changes", "I", false)
  | 2 => ("RumourHivesModel", "errorAt", "I", false)
  | 3 => ("RumourHivesModel", "failedAt", "I", false)
  | 4 => ("RumourHivesModel", "isSaved", "Z", false)
  | 5 => ("RumourHivesModel", "v", "[I", true)
  | 6 => ("RumourHivesModel", "before", "[I", true)
  | 7 => ("RumourHivesModel", "saved", "[I", true)
  | 8 => ("RumourHivesModel", "kept", "[I", true)
  | 9 => ("RumourHivesModel", "past", "[I", true)
  | 10 => ("RumourHivesModel", "text", "[I", true)
  | 11 => ("RumourHivesModel", "line", "[I", true)
  | 12 => ("RumourHivesModel", "isLeft", "[I", true)
  | 13 => ("RumourHivesModel", "words", "[I", true)
  | 14 => ("RumourHivesModel", "wordAt", "[I", true)
  | 15 => ("RumourHivesModel", "textN", "I", false)
  | 16 => ("RumourHivesModel", "here", "I", false)
  | 17 => ("RumourHivesModel", "end", "I", false)
  | 18 => ("RumourHivesModel", "lineN", "I", false)
  | 19 => ("RumourHivesModel", "isWrong", "Z", false)
  | _ => ("RumourHivesModel", "isDoing", "Z", false)
def tyX6 : Nat → FieldType := fun k => match k with
  | 0 => .int
  | 1 => .int
  | 2 => .int
  | 3 => .int
  | 4 => .boolean
  | 5 => .array .int
  | 6 => .array .int
  | 7 => .array .int
  | 8 => .array .int
  | 9 => .array .int
  | 10 => .array .int
  | 11 => .array .int
  | 12 => .array .int
  | 13 => .array .int
  | 14 => .array .int
  | 15 => .int
  | 16 => .int
  | 17 => .int
  | 18 => .int
  | 19 => .boolean
  | _ => .boolean
abbrev wsX60 : List Cond := u_ws RX6 TX6 21
theorem nmX6 : ∀ a, a < 21 → ∀ b, b < 21 → a ≠ b → (TX6 a).2.1 ≠ (TX6 b).2.1 := by decide +kernel
theorem tyX6_ok : ∀ k, k < 21 → parseFieldDescriptor (TX6 k).2.2.1 = some (tyX6 k) := by decide +kernel
abbrev cX6_init : ByteArray := prog_8_method_1_code
def yX6_init : MethodName := ⟨RX6, "<init>", "()V"⟩
abbrev cX6_thrown : ByteArray := prog_8_method_2_code
def yX6_thrown : MethodName := ⟨RX6, "thrown", "()I"⟩
abbrev cX6_fail : ByteArray := prog_8_method_3_code
def yX6_fail : MethodName := ⟨RX6, "fail", "(I)I"⟩
abbrev cX6_isIn : ByteArray := prog_8_method_4_code
def yX6_isIn : MethodName := ⟨RX6, "isIn", "(III)Z"⟩
abbrev cX6_lays : ByteArray := prog_8_method_5_code
def yX6_lays : MethodName := ⟨RX6, "lays", "([I[I)V"⟩
abbrev cX6_begins : ByteArray := prog_8_method_6_code
def yX6_begins : MethodName := ⟨RX6, "begins", "()V"⟩
abbrev cX6_ends : ByteArray := prog_8_method_7_code
def yX6_ends : MethodName := ⟨RX6, "ends", "(I)I"⟩
abbrev cX6_isEar : ByteArray := prog_8_method_8_code
def yX6_isEar : MethodName := ⟨RX6, "isEar", "(I)Z"⟩
abbrev cX6_isRumour : ByteArray := prog_8_method_9_code
def yX6_isRumour : MethodName := ⟨RX6, "isRumour", "(I)Z"⟩
abbrev cX6_isHive : ByteArray := prog_8_method_10_code
def yX6_isHive : MethodName := ⟨RX6, "isHive", "(I)Z"⟩
abbrev cX6_isDigit : ByteArray := prog_8_method_11_code
def yX6_isDigit : MethodName := ⟨RX6, "isDigit", "(I)Z"⟩
abbrev cX6_of : ByteArray := prog_8_method_12_code
def yX6_of : MethodName := ⟨RX6, "of", "(II)I"⟩
abbrev cX6_has : ByteArray := prog_8_method_13_code
def yX6_has : MethodName := ⟨RX6, "has", "(II)Z"⟩
abbrev cX6_bits : ByteArray := prog_8_method_14_code
def yX6_bits : MethodName := ⟨RX6, "bits", "(I)I"⟩
abbrev cX6_aware : ByteArray := prog_8_method_15_code
def yX6_aware : MethodName := ⟨RX6, "aware", "(I)I"⟩
abbrev cX6_adds : ByteArray := prog_8_method_16_code
def yX6_adds : MethodName := ⟨RX6, "adds", "(II)I"⟩
abbrev cX6_addListener : ByteArray := prog_8_method_17_code
def yX6_addListener : MethodName := ⟨RX6, "addListener", "(II)I"⟩
abbrev cX6_links : ByteArray := prog_8_method_18_code
def yX6_links : MethodName := ⟨RX6, "links", "()I"⟩
abbrev cX6_turnsLink : ByteArray := prog_8_method_19_code
def yX6_turnsLink : MethodName := ⟨RX6, "turnsLink", "(II)V"⟩
abbrev cX6_joins : ByteArray := prog_8_method_20_code
def yX6_joins : MethodName := ⟨RX6, "joins", "(II)I"⟩
abbrev cX6_link : ByteArray := prog_8_method_21_code
def yX6_link : MethodName := ⟨RX6, "link", "(II)I"⟩
abbrev cX6_cuts : ByteArray := prog_8_method_22_code
def yX6_cuts : MethodName := ⟨RX6, "cuts", "(II)I"⟩
abbrev cX6_unlink : ByteArray := prog_8_method_23_code
def yX6_unlink : MethodName := ⟨RX6, "unlink", "(II)I"⟩
abbrev cX6_moves : ByteArray := prog_8_method_24_code
def yX6_moves : MethodName := ⟨RX6, "moves", "(II)I"⟩
abbrev cX6_moveListener : ByteArray := prog_8_method_25_code
def yX6_moveListener : MethodName := ⟨RX6, "moveListener", "(II)I"⟩
abbrev cX6_starts : ByteArray := prog_8_method_26_code
def yX6_starts : MethodName := ⟨RX6, "starts", "(II)I"⟩
abbrev cX6_startRumour : ByteArray := prog_8_method_27_code
def yX6_startRumour : MethodName := ⟨RX6, "startRumour", "(II)I"⟩
abbrev cX6_checks : ByteArray := prog_8_method_28_code
def yX6_checks : MethodName := ⟨RX6, "checks", "(II)I"⟩
abbrev cX6_check : ByteArray := prog_8_method_29_code
def yX6_check : MethodName := ⟨RX6, "check", "(II)Z"⟩
abbrev cX6_denies : ByteArray := prog_8_method_30_code
def yX6_denies : MethodName := ⟨RX6, "denies", "(I)I"⟩
abbrev cX6_deny : ByteArray := prog_8_method_31_code
def yX6_deny : MethodName := ⟨RX6, "deny", "(I)I"⟩
abbrev cX6_answers : ByteArray := prog_8_method_32_code
def yX6_answers : MethodName := ⟨RX6, "answers", "(II)I"⟩
abbrev cX6_answer : ByteArray := prog_8_method_33_code
def yX6_answer : MethodName := ⟨RX6, "answer", "(II)I"⟩
abbrev cX6_hears : ByteArray := prog_8_method_34_code
def yX6_hears : MethodName := ⟨RX6, "hears", "(I)I"⟩
abbrev cX6_believes : ByteArray := prog_8_method_35_code
def yX6_believes : MethodName := ⟨RX6, "believes", "(I)I"⟩
abbrev cX6_spreads : ByteArray := prog_8_method_36_code
def yX6_spreads : MethodName := ⟨RX6, "spreads", "(I)I"⟩
abbrev cX6_rounds : ByteArray := prog_8_method_37_code
def yX6_rounds : MethodName := ⟨RX6, "rounds", "(I)I"⟩
abbrev cX6_passes : ByteArray := prog_8_method_38_code
def yX6_passes : MethodName := ⟨RX6, "passes", "(I)I"⟩
abbrev cX6_advance : ByteArray := prog_8_method_39_code
def yX6_advance : MethodName := ⟨RX6, "advance", "(I)I"⟩
abbrev cX6_listenerCount : ByteArray := prog_8_method_40_code
def yX6_listenerCount : MethodName := ⟨RX6, "listenerCount", "()I"⟩
abbrev cX6_hive : ByteArray := prog_8_method_41_code
def yX6_hive : MethodName := ⟨RX6, "hive", "(I)I"⟩
abbrev cX6_doubt : ByteArray := prog_8_method_42_code
def yX6_doubt : MethodName := ⟨RX6, "doubt", "(I)I"⟩
abbrev cX6_isLinked : ByteArray := prog_8_method_43_code
def yX6_isLinked : MethodName := ⟨RX6, "isLinked", "(II)Z"⟩
abbrev cX6_neighbourCount : ByteArray := prog_8_method_44_code
def yX6_neighbourCount : MethodName := ⟨RX6, "neighbourCount", "(I)I"⟩
abbrev cX6_linkCount : ByteArray := prog_8_method_45_code
def yX6_linkCount : MethodName := ⟨RX6, "linkCount", "()I"⟩
abbrev cX6_hiveSize : ByteArray := prog_8_method_46_code
def yX6_hiveSize : MethodName := ⟨RX6, "hiveSize", "(I)I"⟩
abbrev cX6_reached : ByteArray := prog_8_method_47_code
def yX6_reached : MethodName := ⟨RX6, "reached", "(I)I"⟩
abbrev cX6_componentCount : ByteArray := prog_8_method_48_code
def yX6_componentCount : MethodName := ⟨RX6, "componentCount", "()I"⟩
abbrev cX6_componentCountByUnion : ByteArray := prog_8_method_49_code
def yX6_componentCountByUnion : MethodName := ⟨RX6, "componentCountByUnion", "()I"⟩
abbrev cX6_rumourCount : ByteArray := prog_8_method_50_code
def yX6_rumourCount : MethodName := ⟨RX6, "rumourCount", "()I"⟩
abbrev cX6_tells : ByteArray := prog_8_method_51_code
def yX6_tells : MethodName := ⟨RX6, "tells", "(II)I"⟩
abbrev cX6_strength : ByteArray := prog_8_method_52_code
def yX6_strength : MethodName := ⟨RX6, "strength", "(I)I"⟩
abbrev cX6_isAlive : ByteArray := prog_8_method_53_code
def yX6_isAlive : MethodName := ⟨RX6, "isAlive", "(I)Z"⟩
abbrev cX6_starter : ByteArray := prog_8_method_54_code
def yX6_starter : MethodName := ⟨RX6, "starter", "(I)I"⟩
abbrev cX6_isOf : ByteArray := prog_8_method_55_code
def yX6_isOf : MethodName := ⟨RX6, "isOf", "(III)Z"⟩
abbrev cX6_isSpreader : ByteArray := prog_8_method_56_code
def yX6_isSpreader : MethodName := ⟨RX6, "isSpreader", "(II)Z"⟩
abbrev cX6_isSceptic : ByteArray := prog_8_method_57_code
def yX6_isSceptic : MethodName := ⟨RX6, "isSceptic", "(II)Z"⟩
abbrev cX6_heardRound : ByteArray := prog_8_method_58_code
def yX6_heardRound : MethodName := ⟨RX6, "heardRound", "(II)I"⟩
abbrev cX6_spreaderCount : ByteArray := prog_8_method_59_code
def yX6_spreaderCount : MethodName := ⟨RX6, "spreaderCount", "(I)I"⟩
abbrev cX6_scepticCount : ByteArray := prog_8_method_60_code
def yX6_scepticCount : MethodName := ⟨RX6, "scepticCount", "(I)I"⟩
abbrev cX6_inHive : ByteArray := prog_8_method_61_code
def yX6_inHive : MethodName := ⟨RX6, "inHive", "(II)I"⟩
abbrev cX6_countedHive : ByteArray := prog_8_method_62_code
def yX6_countedHive : MethodName := ⟨RX6, "countedHive", "(I)I"⟩
abbrev cX6_spreadersInHive : ByteArray := prog_8_method_63_code
def yX6_spreadersInHive : MethodName := ⟨RX6, "spreadersInHive", "(II)I"⟩
abbrev cX6_distance : ByteArray := prog_8_method_64_code
def yX6_distance : MethodName := ⟨RX6, "distance", "(II)I"⟩
abbrev cX6_distanceByRelaxation : ByteArray := prog_8_method_65_code
def yX6_distanceByRelaxation : MethodName := ⟨RX6, "distanceByRelaxation", "(II)I"⟩
abbrev cX6_nextSpreaders : ByteArray := prog_8_method_66_code
def yX6_nextSpreaders : MethodName := ⟨RX6, "nextSpreaders", "(I)I"⟩
abbrev cX6_roundsUntilHeard : ByteArray := prog_8_method_67_code
def yX6_roundsUntilHeard : MethodName := ⟨RX6, "roundsUntilHeard", "(II)I"⟩
abbrev cX6_spreadersAfter : ByteArray := prog_8_method_68_code
def yX6_spreadersAfter : MethodName := ⟨RX6, "spreadersAfter", "(II)I"⟩
abbrev cX6_rumourBySpread : ByteArray := prog_8_method_69_code
def yX6_rumourBySpread : MethodName := ⟨RX6, "rumourBySpread", "(I)I"⟩
abbrev cX6_gossip : ByteArray := prog_8_method_70_code
def yX6_gossip : MethodName := ⟨RX6, "gossip", "(I)I"⟩
abbrev cX6_listenerByGossip : ByteArray := prog_8_method_71_code
def yX6_listenerByGossip : MethodName := ⟨RX6, "listenerByGossip", "(I)I"⟩
abbrev cX6_round : ByteArray := prog_8_method_72_code
def yX6_round : MethodName := ⟨RX6, "round", "()I"⟩
abbrev cX6_heardTotal : ByteArray := prog_8_method_73_code
def yX6_heardTotal : MethodName := ⟨RX6, "heardTotal", "()I"⟩
abbrev cX6_successfulChecks : ByteArray := prog_8_method_74_code
def yX6_successfulChecks : MethodName := ⟨RX6, "successfulChecks", "()I"⟩
abbrev cX6_meanDoubt : ByteArray := prog_8_method_75_code
def yX6_meanDoubt : MethodName := ⟨RX6, "meanDoubt", "()D"⟩
abbrev cX6_gossipShare : ByteArray := prog_8_method_76_code
def yX6_gossipShare : MethodName := ⟨RX6, "gossipShare", "()F"⟩
abbrev cX6_isConsistent : ByteArray := prog_8_method_77_code
def yX6_isConsistent : MethodName := ⟨RX6, "isConsistent", "()Z"⟩
abbrev cX6_writes : ByteArray := prog_8_method_78_code
def yX6_writes : MethodName := ⟨RX6, "writes", "(I)V"⟩
abbrev cX6_writesNumber : ByteArray := prog_8_method_79_code
def yX6_writesNumber : MethodName := ⟨RX6, "writesNumber", "(I)V"⟩
abbrev cX6_renderRumour : ByteArray := prog_8_method_80_code
def yX6_renderRumour : MethodName := ⟨RX6, "renderRumour", "(I)I"⟩
abbrev cX6_renderHive : ByteArray := prog_8_method_81_code
def yX6_renderHive : MethodName := ⟨RX6, "renderHive", "(I)I"⟩
abbrev cX6_outputAt : ByteArray := prog_8_method_82_code
def yX6_outputAt : MethodName := ⟨RX6, "outputAt", "(I)C"⟩
abbrev cX6_type : ByteArray := prog_8_method_83_code
def yX6_type : MethodName := ⟨RX6, "type", "(C)I"⟩
abbrev cX6_sign : ByteArray := prog_8_method_84_code
def yX6_sign : MethodName := ⟨RX6, "sign", "()I"⟩
abbrev cX6_mark : ByteArray := prog_8_method_85_code
def yX6_mark : MethodName := ⟨RX6, "mark", "(I)V"⟩
abbrev cX6_digits : ByteArray := prog_8_method_86_code
def yX6_digits : MethodName := ⟨RX6, "digits", "(I)I"⟩
abbrev cX6_behind : ByteArray := prog_8_method_87_code
def yX6_behind : MethodName := ⟨RX6, "behind", "(I)I"⟩
abbrev cX6_word : ByteArray := prog_8_method_88_code
def yX6_word : MethodName := ⟨RX6, "word", "()I"⟩
abbrev cX6_does : ByteArray := prog_8_method_89_code
def yX6_does : MethodName := ⟨RX6, "does", "(III)I"⟩
abbrev cX6_command : ByteArray := prog_8_method_90_code
def yX6_command : MethodName := ⟨RX6, "command", "()V"⟩
abbrev cX6_commands : ByteArray := prog_8_method_91_code
def yX6_commands : MethodName := ⟨RX6, "commands", "()I"⟩
abbrev cX6_runScript : ByteArray := prog_8_method_92_code
def yX6_runScript : MethodName := ⟨RX6, "runScript", "()I"⟩
abbrev cX6_errorPosition : ByteArray := prog_8_method_93_code
def yX6_errorPosition : MethodName := ⟨RX6, "errorPosition", "()I"⟩
abbrev cX6_failedCommand : ByteArray := prog_8_method_94_code
def yX6_failedCommand : MethodName := ⟨RX6, "failedCommand", "()I"⟩
abbrev cX6_undo : ByteArray := prog_8_method_95_code
def yX6_undo : MethodName := ⟨RX6, "undo", "()I"⟩
abbrev cX6_save : ByteArray := prog_8_method_96_code
def yX6_save : MethodName := ⟨RX6, "save", "()I"⟩
abbrev cX6_restore : ByteArray := prog_8_method_97_code
def yX6_restore : MethodName := ⟨RX6, "restore", "()I"⟩
def RJx145de : String := "java/io/Serializable"
def TJx145de : u_T := fun k => match k with
  | _ => ("", "", "", false)
def tyJx145de : Nat → FieldType := fun k => match k with
  | _ => .int
abbrev wsJx145de0 : List Cond := u_ws RJx145de TJx145de 0
theorem nmJx145de : ∀ a, a < 0 → ∀ b, b < 0 → a ≠ b → (TJx145de a).2.1 ≠ (TJx145de b).2.1 := by decide +kernel
theorem tyJx145de_ok : ∀ k, k < 0 → parseFieldDescriptor (TJx145de k).2.2.1 = some (tyJx145de k) := by decide +kernel
def RJ5 : String := "java/lang/AbstractStringBuilder"
def TJ5 : u_T := fun k => match k with
  | _ => ("", "", "", false)
def tyJ5 : Nat → FieldType := fun k => match k with
  | _ => .int
abbrev wsJ50 : List Cond := u_ws RJ5 TJ5 0
theorem nmJ5 : ∀ a, a < 0 → ∀ b, b < 0 → a ≠ b → (TJ5 a).2.1 ≠ (TJ5 b).2.1 := by decide +kernel
theorem tyJ5_ok : ∀ k, k < 0 → parseFieldDescriptor (TJ5 k).2.2.1 = some (tyJ5 k) := by decide +kernel
abbrev cJ5_init_d00df : ByteArray := prog_10_method_2_code
def yJ5_init_d00df : MethodName := ⟨RJ5, "<init>", "(I)V"⟩
abbrev cJ5_length_8abf5 : ByteArray := prog_10_method_6_code
def yJ5_length_8abf5 : MethodName := ⟨RJ5, "length", "()I"⟩
abbrev cJ5_ensureCapacityInternal_d00df : ByteArray := prog_10_method_9_code
def yJ5_ensureCapacityInternal_d00df : MethodName := ⟨RJ5, "ensureCapacityInternal", "(I)V"⟩
abbrev cJ5_newCapacity_0f7a4 : ByteArray := prog_10_method_10_code
def yJ5_newCapacity_0f7a4 : MethodName := ⟨RJ5, "newCapacity", "(I)I"⟩
abbrev cJ5_inflate_da8c8 : ByteArray := prog_10_method_11_code
def yJ5_inflate_da8c8 : MethodName := ⟨RJ5, "inflate", "()V"⟩
abbrev cJ5_setLength_d00df : ByteArray := prog_10_method_13_code
def yJ5_setLength_d00df : MethodName := ⟨RJ5, "setLength", "(I)V"⟩
abbrev cJ5_charAt_5068e : ByteArray := prog_10_method_14_code
def yJ5_charAt_5068e : MethodName := ⟨RJ5, "charAt", "(I)C"⟩
abbrev cJ5_append_cf1ce : ByteArray := prog_10_method_22_code
def yJ5_append_cf1ce : MethodName := ⟨RJ5, "append", "(Ljava/lang/String;)Ljava/lang/AbstractStringBuilder;"⟩
abbrev cJ5_appendNull_278bc : ByteArray := prog_10_method_26_code
def yJ5_appendNull_278bc : MethodName := ⟨RJ5, "appendNull", "()Ljava/lang/AbstractStringBuilder;"⟩
abbrev cJ5_append_3fe6f : ByteArray := prog_10_method_31_code
def yJ5_append_3fe6f : MethodName := ⟨RJ5, "append", "(C)Ljava/lang/AbstractStringBuilder;"⟩
abbrev cJ5_append_c97b9 : ByteArray := prog_10_method_32_code
def yJ5_append_c97b9 : MethodName := ⟨RJ5, "append", "(I)Ljava/lang/AbstractStringBuilder;"⟩
abbrev cJ5_getValue_6d5f1 : ByteArray := prog_10_method_64_code
def yJ5_getValue_6d5f1 : MethodName := ⟨RJ5, "getValue", "()[B"⟩
abbrev cJ5_isLatin1_aae02 : ByteArray := prog_10_method_68_code
def yJ5_isLatin1_aae02 : MethodName := ⟨RJ5, "isLatin1", "()Z"⟩
abbrev cJ5_inflateIfNeededFor_a7421 : ByteArray := prog_10_method_71_code
def yJ5_inflateIfNeededFor_a7421 : MethodName := ⟨RJ5, "inflateIfNeededFor", "(Ljava/lang/String;)V"⟩
abbrev cJ5_putStringAt_47b60 : ByteArray := prog_10_method_73_code
def yJ5_putStringAt_47b60 : MethodName := ⟨RJ5, "putStringAt", "(ILjava/lang/String;)V"⟩
def RJx2cfe8 : String := "java/lang/Appendable"
def TJx2cfe8 : u_T := fun k => match k with
  | _ => ("", "", "", false)
def tyJx2cfe8 : Nat → FieldType := fun k => match k with
  | _ => .int
abbrev wsJx2cfe80 : List Cond := u_ws RJx2cfe8 TJx2cfe8 0
theorem nmJx2cfe8 : ∀ a, a < 0 → ∀ b, b < 0 → a ≠ b → (TJx2cfe8 a).2.1 ≠ (TJx2cfe8 b).2.1 := by decide +kernel
theorem tyJx2cfe8_ok : ∀ k, k < 0 → parseFieldDescriptor (TJx2cfe8 k).2.2.1 = some (tyJx2cfe8 k) := by decide +kernel
def RJx00060 : String := "java/lang/ArrayIndexOutOfBoundsException"
def TJx00060 : u_T := fun k => match k with
  | 0 => ("java/lang/Throwable", "backtrace", "Ljava/lang/Object;", false)
  | 1 => ("java/lang/Throwable", "detailMessage", "Ljava/lang/String;", false)
  | 2 => ("java/lang/Throwable", "cause", "Ljava/lang/Throwable;", false)
  | 3 => ("java/lang/Throwable", "stackTrace", "[Ljava/lang/StackTraceElement;", false)
  | 4 => ("java/lang/Throwable", "depth", "I", false)
  | _ => ("java/lang/Throwable", "suppressedExceptions", "Ljava/util/List;", false)
def tyJx00060 : Nat → FieldType := fun k => match k with
  | 0 => .object "java/lang/Object"
  | 1 => .object "java/lang/String"
  | 2 => .object "java/lang/Throwable"
  | 3 => .array (.object "java/lang/StackTraceElement")
  | 4 => .int
  | _ => .object "java/util/List"
abbrev wsJx000600 : List Cond := u_ws RJx00060 TJx00060 6
theorem nmJx00060 : ∀ a, a < 6 → ∀ b, b < 6 → a ≠ b → (TJx00060 a).2.1 ≠ (TJx00060 b).2.1 := by decide +kernel
theorem tyJx00060_ok : ∀ k, k < 6 → parseFieldDescriptor (TJx00060 k).2.2.1 = some (tyJx00060 k) := by decide +kernel
abbrev cJx00060_init_a7421 : ByteArray := prog_13_method_2_code
def yJx00060_init_a7421 : MethodName := ⟨RJx00060, "<init>", "(Ljava/lang/String;)V"⟩
abbrev cJx00060_init_d00df : ByteArray := prog_13_method_3_code
def yJx00060_init_d00df : MethodName := ⟨RJx00060, "<init>", "(I)V"⟩
def RJx9f9b0 : String := "java/lang/CharSequence"
def TJx9f9b0 : u_T := fun k => match k with
  | _ => ("", "", "", false)
def tyJx9f9b0 : Nat → FieldType := fun k => match k with
  | _ => .int
abbrev wsJx9f9b00 : List Cond := u_ws RJx9f9b0 TJx9f9b0 0
theorem nmJx9f9b0 : ∀ a, a < 0 → ∀ b, b < 0 → a ≠ b → (TJx9f9b0 a).2.1 ≠ (TJx9f9b0 b).2.1 := by decide +kernel
theorem tyJx9f9b0_ok : ∀ k, k < 0 → parseFieldDescriptor (TJx9f9b0 k).2.2.1 = some (tyJx9f9b0 k) := by decide +kernel
def RJx8e188 : String := "java/lang/Cloneable"
def TJx8e188 : u_T := fun k => match k with
  | _ => ("", "", "", false)
def tyJx8e188 : Nat → FieldType := fun k => match k with
  | _ => .int
abbrev wsJx8e1880 : List Cond := u_ws RJx8e188 TJx8e188 0
theorem nmJx8e188 : ∀ a, a < 0 → ∀ b, b < 0 → a ≠ b → (TJx8e188 a).2.1 ≠ (TJx8e188 b).2.1 := by decide +kernel
theorem tyJx8e188_ok : ∀ k, k < 0 → parseFieldDescriptor (TJx8e188 k).2.2.1 = some (tyJx8e188 k) := by decide +kernel
def RJxb160c : String := "java/lang/Comparable"
def TJxb160c : u_T := fun k => match k with
  | _ => ("", "", "", false)
def tyJxb160c : Nat → FieldType := fun k => match k with
  | _ => .int
abbrev wsJxb160c0 : List Cond := u_ws RJxb160c TJxb160c 0
theorem nmJxb160c : ∀ a, a < 0 → ∀ b, b < 0 → a ≠ b → (TJxb160c a).2.1 ≠ (TJxb160c b).2.1 := by decide +kernel
theorem tyJxb160c_ok : ∀ k, k < 0 → parseFieldDescriptor (TJxb160c k).2.2.1 = some (tyJxb160c k) := by decide +kernel
def RJ6 : String := "java/lang/Integer"
def TJ6 : u_T := fun k => match k with
  | _ => ("", "", "", false)
def tyJ6 : Nat → FieldType := fun k => match k with
  | _ => .int
abbrev wsJ60 : List Cond := u_ws RJ6 TJ6 0
theorem nmJ6 : ∀ a, a < 0 → ∀ b, b < 0 → a ≠ b → (TJ6 a).2.1 ≠ (TJ6 b).2.1 := by decide +kernel
theorem tyJ6_ok : ∀ k, k < 0 → parseFieldDescriptor (TJ6 k).2.2.1 = some (tyJ6 k) := by decide +kernel
abbrev cJ6_getChars_ba4f3 : ByteArray := prog_21_method_12_code
def yJ6_getChars_ba4f3 : MethodName := ⟨RJ6, "getChars", "(II[B)I"⟩
abbrev cJ6_stringSize_0f7a4 : ByteArray := prog_21_method_13_code
def yJ6_stringSize_0f7a4 : MethodName := ⟨RJ6, "stringSize", "(I)I"⟩
abbrev cJ6_bitCount_0f7a4 : ByteArray := prog_21_method_49_code
def yJ6_bitCount_0f7a4 : MethodName := ⟨RJ6, "bitCount", "(I)I"⟩
def RJ9 : String := "java/lang/Math"
def TJ9 : u_T := fun k => match k with
  | _ => ("", "", "", false)
def tyJ9 : Nat → FieldType := fun k => match k with
  | _ => .int
abbrev wsJ90 : List Cond := u_ws RJ9 TJ9 0
theorem nmJ9 : ∀ a, a < 0 → ∀ b, b < 0 → a ≠ b → (TJ9 a).2.1 ≠ (TJ9 b).2.1 := by decide +kernel
theorem tyJ9_ok : ∀ k, k < 0 → parseFieldDescriptor (TJ9 k).2.2.1 = some (tyJ9 k) := by decide +kernel
abbrev cJ9_max_7cf53 : ByteArray := prog_22_method_65_code
def yJ9_max_7cf53 : MethodName := ⟨RJ9, "max", "(II)I"⟩
abbrev cJ9_min_7cf53 : ByteArray := prog_22_method_69_code
def yJ9_min_7cf53 : MethodName := ⟨RJ9, "min", "(II)I"⟩
def RJxd2413 : String := "java/lang/Number"
def TJxd2413 : u_T := fun k => match k with
  | _ => ("", "", "", false)
def tyJxd2413 : Nat → FieldType := fun k => match k with
  | _ => .int
abbrev wsJxd24130 : List Cond := u_ws RJxd2413 TJxd2413 0
theorem nmJxd2413 : ∀ a, a < 0 → ∀ b, b < 0 → a ≠ b → (TJxd2413 a).2.1 ≠ (TJxd2413 b).2.1 := by decide +kernel
theorem tyJxd2413_ok : ∀ k, k < 0 → parseFieldDescriptor (TJxd2413 k).2.2.1 = some (tyJxd2413 k) := by decide +kernel
def RJ0 : String := "java/lang/String"
def TJ0 : u_T := fun k => match k with
  | 0 => ("java/lang/String", "value", "[B", true)
  | 1 => ("java/lang/String", "coder", "B", true)
  | 2 => ("java/lang/String", "hash", "I", false)
  | _ => ("java/lang/String", "hashIsZero", "Z", false)
def tyJ0 : Nat → FieldType := fun k => match k with
  | 0 => .array .byte
  | 1 => .byte
  | 2 => .int
  | _ => .boolean
abbrev wsJ00 : List Cond := u_ws RJ0 TJ0 4
theorem nmJ0 : ∀ a, a < 4 → ∀ b, b < 4 → a ≠ b → (TJ0 a).2.1 ≠ (TJ0 b).2.1 := by decide +kernel
theorem tyJ0_ok : ∀ k, k < 4 → parseFieldDescriptor (TJ0 k).2.2.1 = some (tyJ0 k) := by decide +kernel
abbrev cJ0_init_81219 : ByteArray := prog_25_method_53_code
def yJ0_init_81219 : MethodName := ⟨RJ0, "<init>", "(Ljava/lang/StringBuilder;)V"⟩
abbrev cJ0_length_8abf5 : ByteArray := prog_25_method_54_code
def yJ0_length_8abf5 : MethodName := ⟨RJ0, "length", "()I"⟩
abbrev cJ0_charAt_5068e : ByteArray := prog_25_method_56_code
def yJ0_charAt_5068e : MethodName := ⟨RJ0, "charAt", "(I)C"⟩
abbrev cJ0_getBytes_840e7 : ByteArray := prog_25_method_147_code
def yJ0_getBytes_840e7 : MethodName := ⟨RJ0, "getBytes", "([BIB)V"⟩
abbrev cJ0_init_db425 : ByteArray := prog_25_method_150_code
def yJ0_init_db425 : MethodName := ⟨RJ0, "<init>", "(Ljava/lang/AbstractStringBuilder;Ljava/lang/Void;)V"⟩
abbrev cJ0_coder_7d493 : ByteArray := prog_25_method_152_code
def yJ0_coder_7d493 : MethodName := ⟨RJ0, "coder", "()B"⟩
abbrev cJ0_isLatin1_aae02 : ByteArray := prog_25_method_154_code
def yJ0_isLatin1_aae02 : MethodName := ⟨RJ0, "isLatin1", "()Z"⟩
abbrev cJ0_checkIndex_df160 : ByteArray := prog_25_method_155_code
def yJ0_checkIndex_df160 : MethodName := ⟨RJ0, "checkIndex", "(II)V"⟩
abbrev cJ0_checkBoundsOffCount_cabcc : ByteArray := prog_25_method_157_code
def yJ0_checkBoundsOffCount_cabcc : MethodName := ⟨RJ0, "checkBoundsOffCount", "(III)I"⟩
abbrev cJ0_checkBoundsBeginEnd_23922 : ByteArray := prog_25_method_158_code
def yJ0_checkBoundsBeginEnd_23922 : MethodName := ⟨RJ0, "checkBoundsBeginEnd", "(III)V"⟩
def RJ4 : String := "java/lang/StringBuilder"
def TJ4 : u_T := fun k => match k with
  | 0 => ("java/lang/AbstractStringBuilder", "value", "[B", false)
  | 1 => ("java/lang/AbstractStringBuilder", "coder", "B", false)
  | 2 => ("java/lang/AbstractStringBuilder", "maybeLatin1", "Z", false)
  | _ => ("java/lang/AbstractStringBuilder", "count", "I", false)
def tyJ4 : Nat → FieldType := fun k => match k with
  | 0 => .array .byte
  | 1 => .byte
  | 2 => .boolean
  | _ => .int
abbrev wsJ40 : List Cond := u_ws RJ4 TJ4 4
theorem nmJ4 : ∀ a, a < 4 → ∀ b, b < 4 → a ≠ b → (TJ4 a).2.1 ≠ (TJ4 b).2.1 := by decide +kernel
theorem tyJ4_ok : ∀ k, k < 4 → parseFieldDescriptor (TJ4 k).2.2.1 = some (tyJ4 k) := by decide +kernel
abbrev cJ4_init_da8c8 : ByteArray := prog_26_method_1_code
def yJ4_init_da8c8 : MethodName := ⟨RJ4, "<init>", "()V"⟩
abbrev cJ4_append_15ec4 : ByteArray := prog_26_method_7_code
def yJ4_append_15ec4 : MethodName := ⟨RJ4, "append", "(Ljava/lang/String;)Ljava/lang/StringBuilder;"⟩
abbrev cJ4_append_cf468 : ByteArray := prog_26_method_14_code
def yJ4_append_cf468 : MethodName := ⟨RJ4, "append", "(C)Ljava/lang/StringBuilder;"⟩
abbrev cJ4_append_bf812 : ByteArray := prog_26_method_15_code
def yJ4_append_bf812 : MethodName := ⟨RJ4, "append", "(I)Ljava/lang/StringBuilder;"⟩
abbrev cJ4_toString_0e30d : ByteArray := prog_26_method_42_code
def yJ4_toString_0e30d : MethodName := ⟨RJ4, "toString", "()Ljava/lang/String;"⟩
abbrev cJ4_charAt_5068e : ByteArray := prog_26_method_88_code
def yJ4_charAt_5068e : MethodName := ⟨RJ4, "charAt", "(I)C"⟩
abbrev cJ4_setLength_d00df : ByteArray := prog_26_method_89_code
def yJ4_setLength_d00df : MethodName := ⟨RJ4, "setLength", "(I)V"⟩
abbrev cJ4_length_8abf5 : ByteArray := prog_26_method_93_code
def yJ4_length_8abf5 : MethodName := ⟨RJ4, "length", "()I"⟩
def RJx7c733 : String := "java/lang/StringIndexOutOfBoundsException"
def TJx7c733 : u_T := fun k => match k with
  | 0 => ("java/lang/Throwable", "backtrace", "Ljava/lang/Object;", false)
  | 1 => ("java/lang/Throwable", "detailMessage", "Ljava/lang/String;", false)
  | 2 => ("java/lang/Throwable", "cause", "Ljava/lang/Throwable;", false)
  | 3 => ("java/lang/Throwable", "stackTrace", "[Ljava/lang/StackTraceElement;", false)
  | 4 => ("java/lang/Throwable", "depth", "I", false)
  | _ => ("java/lang/Throwable", "suppressedExceptions", "Ljava/util/List;", false)
def tyJx7c733 : Nat → FieldType := fun k => match k with
  | 0 => .object "java/lang/Object"
  | 1 => .object "java/lang/String"
  | 2 => .object "java/lang/Throwable"
  | 3 => .array (.object "java/lang/StackTraceElement")
  | 4 => .int
  | _ => .object "java/util/List"
abbrev wsJx7c7330 : List Cond := u_ws RJx7c733 TJx7c733 6
theorem nmJx7c733 : ∀ a, a < 6 → ∀ b, b < 6 → a ≠ b → (TJx7c733 a).2.1 ≠ (TJx7c733 b).2.1 := by decide +kernel
theorem tyJx7c733_ok : ∀ k, k < 6 → parseFieldDescriptor (TJx7c733 k).2.2.1 = some (tyJx7c733 k) := by decide +kernel
abbrev cJx7c733_init_d00df : ByteArray := prog_27_method_3_code
def yJx7c733_init_d00df : MethodName := ⟨RJx7c733, "<init>", "(I)V"⟩
def RJ1 : String := "java/lang/StringLatin1"
def TJ1 : u_T := fun k => match k with
  | _ => ("", "", "", false)
def tyJ1 : Nat → FieldType := fun k => match k with
  | _ => .int
abbrev wsJ10 : List Cond := u_ws RJ1 TJ1 0
theorem nmJ1 : ∀ a, a < 0 → ∀ b, b < 0 → a ≠ b → (TJ1 a).2.1 ≠ (TJ1 b).2.1 := by decide +kernel
theorem tyJ1_ok : ∀ k, k < 0 → parseFieldDescriptor (TJ1 k).2.2.1 = some (tyJ1 k) := by decide +kernel
abbrev cJ1_charAt_3b067 : ByteArray := prog_28_method_2_code
def yJ1_charAt_3b067 : MethodName := ⟨RJ1, "charAt", "([BI)C"⟩
abbrev cJ1_canEncode_fc78d : ByteArray := prog_28_method_3_code
def yJ1_canEncode_fc78d : MethodName := ⟨RJ1, "canEncode", "(C)Z"⟩
abbrev cJ1_fillNull_b72d1 : ByteArray := prog_28_method_48_code
def yJ1_fillNull_b72d1 : MethodName := ⟨RJ1, "fillNull", "([BII)V"⟩
abbrev cJ1_inflate_0e8fd : ByteArray := prog_28_method_50_code
def yJ1_inflate_0e8fd : MethodName := ⟨RJ1, "inflate", "([BI[BII)V"⟩
def RJ2 : String := "java/lang/StringUTF16"
def TJ2 : u_T := fun k => match k with
  | _ => ("", "", "", false)
def tyJ2 : Nat → FieldType := fun k => match k with
  | _ => .int
abbrev wsJ20 : List Cond := u_ws RJ2 TJ2 0
theorem nmJ2 : ∀ a, a < 0 → ∀ b, b < 0 → a ≠ b → (TJ2 a).2.1 ≠ (TJ2 b).2.1 := by decide +kernel
theorem tyJ2_ok : ∀ k, k < 0 → parseFieldDescriptor (TJ2 k).2.2.1 = some (tyJ2 k) := by decide +kernel
abbrev cJ2_newBytesFor_77867 : ByteArray := prog_29_method_2_code
def yJ2_newBytesFor_77867 : MethodName := ⟨RJ2, "newBytesFor", "(I)[B"⟩
abbrev cJ2_newBytesLength_0f7a4 : ByteArray := prog_29_method_3_code
def yJ2_newBytesLength_0f7a4 : MethodName := ⟨RJ2, "newBytesLength", "(I)I"⟩
abbrev cJ2_putChar_b72d1 : ByteArray := prog_29_method_4_code
def yJ2_putChar_b72d1 : MethodName := ⟨RJ2, "putChar", "([BII)V"⟩
abbrev cJ2_getChar_3b067 : ByteArray := prog_29_method_5_code
def yJ2_getChar_3b067 : MethodName := ⟨RJ2, "getChar", "([BI)C"⟩
abbrev cJ2_length_9d52b : ByteArray := prog_29_method_6_code
def yJ2_length_9d52b : MethodName := ⟨RJ2, "length", "([B)I"⟩
abbrev cJ2_coderFromArrayLen_85cad : ByteArray := prog_29_method_15_code
def yJ2_coderFromArrayLen_85cad : MethodName := ⟨RJ2, "coderFromArrayLen", "([BI)B"⟩
abbrev cJ2_compress_39247 : ByteArray := prog_29_method_17_code
def yJ2_compress_39247 : MethodName := ⟨RJ2, "compress", "([BII)[B"⟩
abbrev cJ2_compress_5af95 : ByteArray := prog_29_method_22_code
def yJ2_compress_5af95 : MethodName := ⟨RJ2, "compress", "([BI[BII)I"⟩
abbrev cJ2_fillNull_b72d1 : ByteArray := prog_29_method_70_code
def yJ2_fillNull_b72d1 : MethodName := ⟨RJ2, "fillNull", "([BII)V"⟩
abbrev cJ2_putCharSB_b72d1 : ByteArray := prog_29_method_71_code
def yJ2_putCharSB_b72d1 : MethodName := ⟨RJ2, "putCharSB", "([BII)V"⟩
abbrev cJ2_getChars_46870 : ByteArray := prog_29_method_77_code
def yJ2_getChars_46870 : MethodName := ⟨RJ2, "getChars", "(III[B)I"⟩
abbrev cJ2_putCharsAt_cd4e5 : ByteArray := prog_29_method_81_code
def yJ2_putCharsAt_cd4e5 : MethodName := ⟨RJ2, "putCharsAt", "([BICCCC)I"⟩
abbrev cJ2_charAt_3b067 : ByteArray := prog_29_method_83_code
def yJ2_charAt_3b067 : MethodName := ⟨RJ2, "charAt", "([BI)C"⟩
abbrev cJ2_inflate_0e8fd : ByteArray := prog_29_method_86_code
def yJ2_inflate_0e8fd : MethodName := ⟨RJ2, "inflate", "([BI[BII)V"⟩
abbrev cJ2_getChars_ba4f3 : ByteArray := prog_29_method_89_code
def yJ2_getChars_ba4f3 : MethodName := ⟨RJ2, "getChars", "(II[B)I"⟩
abbrev cJ2_checkIndex_2214a : ByteArray := prog_29_method_91_code
def yJ2_checkIndex_2214a : MethodName := ⟨RJ2, "checkIndex", "(I[B)V"⟩
abbrev cJ2_checkBoundsBeginEnd_d044e : ByteArray := prog_29_method_93_code
def yJ2_checkBoundsBeginEnd_d044e : MethodName := ⟨RJ2, "checkBoundsBeginEnd", "(II[B)V"⟩
abbrev cJ2_checkBoundsOffCount_d044e : ByteArray := prog_29_method_94_code
def yJ2_checkBoundsOffCount_d044e : MethodName := ⟨RJ2, "checkBoundsOffCount", "(II[B)V"⟩
def RJ10 : String := "java/lang/System"
def TJ10 : u_T := fun k => match k with
  | _ => ("", "", "", false)
def tyJ10 : Nat → FieldType := fun k => match k with
  | _ => .int
abbrev wsJ100 : List Cond := u_ws RJ10 TJ10 0
theorem nmJ10 : ∀ a, a < 0 → ∀ b, b < 0 → a ≠ b → (TJ10 a).2.1 ≠ (TJ10 b).2.1 := by decide +kernel
theorem tyJ10_ok : ∀ k, k < 0 → parseFieldDescriptor (TJ10 k).2.2.1 = some (tyJ10 k) := by decide +kernel
def RJxfd54e : String := "java/lang/constant/Constable"
def TJxfd54e : u_T := fun k => match k with
  | _ => ("", "", "", false)
def tyJxfd54e : Nat → FieldType := fun k => match k with
  | _ => .int
abbrev wsJxfd54e0 : List Cond := u_ws RJxfd54e TJxfd54e 0
theorem nmJxfd54e : ∀ a, a < 0 → ∀ b, b < 0 → a ≠ b → (TJxfd54e a).2.1 ≠ (TJxfd54e b).2.1 := by decide +kernel
theorem tyJxfd54e_ok : ∀ k, k < 0 → parseFieldDescriptor (TJxfd54e k).2.2.1 = some (tyJxfd54e k) := by decide +kernel
def RJx3cf43 : String := "java/lang/constant/ConstantDesc"
def TJx3cf43 : u_T := fun k => match k with
  | _ => ("", "", "", false)
def tyJx3cf43 : Nat → FieldType := fun k => match k with
  | _ => .int
abbrev wsJx3cf430 : List Cond := u_ws RJx3cf43 TJx3cf43 0
theorem nmJx3cf43 : ∀ a, a < 0 → ∀ b, b < 0 → a ≠ b → (TJx3cf43 a).2.1 ≠ (TJx3cf43 b).2.1 := by decide +kernel
theorem tyJx3cf43_ok : ∀ k, k < 0 → parseFieldDescriptor (TJx3cf43 k).2.2.1 = some (tyJx3cf43 k) := by decide +kernel
def RJ7 : String := "java/util/Arrays"
def TJ7 : u_T := fun k => match k with
  | _ => ("", "", "", false)
def tyJ7 : Nat → FieldType := fun k => match k with
  | _ => .int
abbrev wsJ70 : List Cond := u_ws RJ7 TJ7 0
theorem nmJ7 : ∀ a, a < 0 → ∀ b, b < 0 → a ≠ b → (TJ7 a).2.1 ≠ (TJ7 b).2.1 := by decide +kernel
theorem tyJ7_ok : ∀ k, k < 0 → parseFieldDescriptor (TJ7 k).2.2.1 = some (tyJ7 k) := by decide +kernel
abbrev cJ7_rangeCheck_23922 : ByteArray := prog_34_method_30_code
def yJ7_rangeCheck_23922 : MethodName := ⟨RJ7, "rangeCheck", "(III)V"⟩
abbrev cJ7_fill_eb02e : ByteArray := prog_34_method_110_code
def yJ7_fill_eb02e : MethodName := ⟨RJ7, "fill", "([BIIB)V"⟩
abbrev cJ7_copyOf_9075b : ByteArray := prog_34_method_121_code
def yJ7_copyOf_9075b : MethodName := ⟨RJ7, "copyOf", "([BI)[B"⟩
abbrev cJ7_checkLength_df160 : ByteArray := prog_34_method_131_code
def yJ7_checkLength_df160 : MethodName := ⟨RJ7, "checkLength", "(II)V"⟩
abbrev cJ7_copyOfRange_39247 : ByteArray := prog_34_method_132_code
def yJ7_copyOfRange_39247 : MethodName := ⟨RJ7, "copyOfRange", "([BII)[B"⟩
abbrev cJ7_copyOfRangeByte_39247 : ByteArray := prog_34_method_133_code
def yJ7_copyOfRangeByte_39247 : MethodName := ⟨RJ7, "copyOfRangeByte", "([BII)[B"⟩
def RJ8 : String := "jdk/internal/util/ArraysSupport"
def TJ8 : u_T := fun k => match k with
  | _ => ("", "", "", false)
def tyJ8 : Nat → FieldType := fun k => match k with
  | _ => .int
abbrev wsJ80 : List Cond := u_ws RJ8 TJ8 0
theorem nmJ8 : ∀ a, a < 0 → ∀ b, b < 0 → a ≠ b → (TJ8 a).2.1 ≠ (TJ8 b).2.1 := by decide +kernel
theorem tyJ8_ok : ∀ k, k < 0 → parseFieldDescriptor (TJ8 k).2.2.1 = some (tyJ8 k) := by decide +kernel
abbrev cJ8_newLength_cabcc : ByteArray := prog_36_method_27_code
def yJ8_newLength_cabcc : MethodName := ⟨RJ8, "newLength", "(III)I"⟩
abbrev cJ8_hugeLength_7cf53 : ByteArray := prog_36_method_28_code
def yJ8_hugeLength_7cf53 : MethodName := ⟨RJ8, "hugeLength", "(II)I"⟩
def RJ3 : String := "jdk/internal/util/Preconditions"
def TJ3 : u_T := fun k => match k with
  | _ => ("", "", "", false)
def tyJ3 : Nat → FieldType := fun k => match k with
  | _ => .int
abbrev wsJ30 : List Cond := u_ws RJ3 TJ3 0
theorem nmJ3 : ∀ a, a < 0 → ∀ b, b < 0 → a ≠ b → (TJ3 a).2.1 ≠ (TJ3 b).2.1 := by decide +kernel
theorem tyJ3_ok : ∀ k, k < 0 → parseFieldDescriptor (TJ3 k).2.2.1 = some (tyJ3 k) := by decide +kernel
abbrev cJ3_checkIndex_8e157 : ByteArray := prog_37_method_11_code
def yJ3_checkIndex_8e157 : MethodName := ⟨RJ3, "checkIndex", "(IILjava/util/function/BiFunction;)I"⟩
abbrev cJ3_checkFromToIndex_8c36e : ByteArray := prog_37_method_12_code
def yJ3_checkFromToIndex_8c36e : MethodName := ⟨RJ3, "checkFromToIndex", "(IIILjava/util/function/BiFunction;)I"⟩
abbrev cJ3_checkFromIndexSize_8c36e : ByteArray := prog_37_method_13_code
def yJ3_checkFromIndexSize_8c36e : MethodName := ⟨RJ3, "checkFromIndexSize", "(IIILjava/util/function/BiFunction;)I"⟩
def RL : String := "RumourHivesLaw"
abbrev cL_addListener : ByteArray := method_3_code
def yL_addListener : MethodName := ⟨RL, "addListener", "(LRumourHives;II[J)I"⟩
abbrev cL_link : ByteArray := method_4_code
def yL_link : MethodName := ⟨RL, "link", "(LRumourHives;II[J)I"⟩
abbrev cL_unlink : ByteArray := method_5_code
def yL_unlink : MethodName := ⟨RL, "unlink", "(LRumourHives;II[J)I"⟩
abbrev cL_moveListener : ByteArray := method_6_code
def yL_moveListener : MethodName := ⟨RL, "moveListener", "(LRumourHives;II[J)I"⟩
abbrev cL_startRumour : ByteArray := method_7_code
def yL_startRumour : MethodName := ⟨RL, "startRumour", "(LRumourHives;II[J)I"⟩
abbrev cL_check : ByteArray := method_8_code
def yL_check : MethodName := ⟨RL, "check", "(LRumourHives;II[J)I"⟩
abbrev cL_deny : ByteArray := method_9_code
def yL_deny : MethodName := ⟨RL, "deny", "(LRumourHives;I[J)I"⟩
abbrev cL_answer : ByteArray := method_10_code
def yL_answer : MethodName := ⟨RL, "answer", "(LRumourHives;II[J)I"⟩
abbrev cL_advance : ByteArray := method_11_code
def yL_advance : MethodName := ⟨RL, "advance", "(LRumourHives;I[J)I"⟩
abbrev cL_hive : ByteArray := method_12_code
def yL_hive : MethodName := ⟨RL, "hive", "(LRumourHives;I[J)I"⟩
abbrev cL_doubt : ByteArray := method_13_code
def yL_doubt : MethodName := ⟨RL, "doubt", "(LRumourHives;I[J)I"⟩
abbrev cL_isLinked : ByteArray := method_14_code
def yL_isLinked : MethodName := ⟨RL, "isLinked", "(LRumourHives;II[J)I"⟩
abbrev cL_neighbourCount : ByteArray := method_15_code
def yL_neighbourCount : MethodName := ⟨RL, "neighbourCount", "(LRumourHives;I[J)I"⟩
abbrev cL_hiveSize : ByteArray := method_16_code
def yL_hiveSize : MethodName := ⟨RL, "hiveSize", "(LRumourHives;I[J)I"⟩
abbrev cL_strength : ByteArray := method_17_code
def yL_strength : MethodName := ⟨RL, "strength", "(LRumourHives;I[J)I"⟩
abbrev cL_isAlive : ByteArray := method_18_code
def yL_isAlive : MethodName := ⟨RL, "isAlive", "(LRumourHives;I[J)I"⟩
abbrev cL_starter : ByteArray := method_19_code
def yL_starter : MethodName := ⟨RL, "starter", "(LRumourHives;I[J)I"⟩
abbrev cL_isSpreader : ByteArray := method_20_code
def yL_isSpreader : MethodName := ⟨RL, "isSpreader", "(LRumourHives;II[J)I"⟩
abbrev cL_isSceptic : ByteArray := method_21_code
def yL_isSceptic : MethodName := ⟨RL, "isSceptic", "(LRumourHives;II[J)I"⟩
abbrev cL_heardRound : ByteArray := method_22_code
def yL_heardRound : MethodName := ⟨RL, "heardRound", "(LRumourHives;II[J)I"⟩
abbrev cL_spreaderCount : ByteArray := method_23_code
def yL_spreaderCount : MethodName := ⟨RL, "spreaderCount", "(LRumourHives;I[J)I"⟩
abbrev cL_scepticCount : ByteArray := method_24_code
def yL_scepticCount : MethodName := ⟨RL, "scepticCount", "(LRumourHives;I[J)I"⟩
abbrev cL_countedHive : ByteArray := method_25_code
def yL_countedHive : MethodName := ⟨RL, "countedHive", "(LRumourHives;I[J)I"⟩
abbrev cL_spreadersInHive : ByteArray := method_26_code
def yL_spreadersInHive : MethodName := ⟨RL, "spreadersInHive", "(LRumourHives;II[J)I"⟩
abbrev cL_distance : ByteArray := method_27_code
def yL_distance : MethodName := ⟨RL, "distance", "(LRumourHives;II[J)I"⟩
abbrev cL_distanceByRelaxation : ByteArray := method_28_code
def yL_distanceByRelaxation : MethodName := ⟨RL, "distanceByRelaxation", "(LRumourHives;II[J)I"⟩
abbrev cL_nextSpreaders : ByteArray := method_29_code
def yL_nextSpreaders : MethodName := ⟨RL, "nextSpreaders", "(LRumourHives;I[J)I"⟩
abbrev cL_roundsUntilHeard : ByteArray := method_30_code
def yL_roundsUntilHeard : MethodName := ⟨RL, "roundsUntilHeard", "(LRumourHives;II[J)I"⟩
abbrev cL_spreadersAfter : ByteArray := method_31_code
def yL_spreadersAfter : MethodName := ⟨RL, "spreadersAfter", "(LRumourHives;II[J)I"⟩
abbrev cL_rumourBySpread : ByteArray := method_32_code
def yL_rumourBySpread : MethodName := ⟨RL, "rumourBySpread", "(LRumourHives;I[J)I"⟩
abbrev cL_listenerByGossip : ByteArray := method_33_code
def yL_listenerByGossip : MethodName := ⟨RL, "listenerByGossip", "(LRumourHives;I[J)I"⟩
abbrev cL_meanDoubt : ByteArray := method_34_code
def yL_meanDoubt : MethodName := ⟨RL, "meanDoubt", "(LRumourHives;[D)I"⟩
abbrev cL_gossipShare : ByteArray := method_35_code
def yL_gossipShare : MethodName := ⟨RL, "gossipShare", "(LRumourHives;[D)I"⟩
abbrev cL_renderRumour : ByteArray := method_36_code
def yL_renderRumour : MethodName := ⟨RL, "renderRumour", "(LRumourHives;I[J)I"⟩
abbrev cL_renderHive : ByteArray := method_37_code
def yL_renderHive : MethodName := ⟨RL, "renderHive", "(LRumourHives;I[J)I"⟩
abbrev cL_outputAt : ByteArray := method_38_code
def yL_outputAt : MethodName := ⟨RL, "outputAt", "(LRumourHives;I[J)I"⟩
abbrev cL_type : ByteArray := method_39_code
def yL_type : MethodName := ⟨RL, "type", "(LRumourHives;C[J)I"⟩
abbrev cL_runScript : ByteArray := method_40_code
def yL_runScript : MethodName := ⟨RL, "runScript", "(LRumourHives;[J)I"⟩
abbrev cL_errorPosition : ByteArray := method_41_code
def yL_errorPosition : MethodName := ⟨RL, "errorPosition", "(LRumourHives;[J)I"⟩
abbrev cL_failedCommand : ByteArray := method_42_code
def yL_failedCommand : MethodName := ⟨RL, "failedCommand", "(LRumourHives;[J)I"⟩
abbrev cL_undo : ByteArray := method_43_code
def yL_undo : MethodName := ⟨RL, "undo", "(LRumourHives;[J)I"⟩
abbrev cL_restore : ByteArray := method_44_code
def yL_restore : MethodName := ⟨RL, "restore", "(LRumourHives;[J)I"⟩
abbrev cL_law : ByteArray := code
def yL_law : MethodName := ⟨RL, "law", "([I)Z"⟩
abbrev vwCl : List vw_C := [(RJ0, TJ0, 4), (RJ4, TJ4, 4), (RJx00060, TJx00060, 6), (RJx7c733, TJx7c733, 6), (RX0, TX0, 3), (RX1, TX1, 5), (RX2, TX2, 6), (RX3, TX3, 8), (RX4, TX4, 11), (RX5, TX5, 10), (RX6, TX6, 21)]
theorem dX0_init_0 : decode cX0_init 0 = .ok (.aload_n 0, 1) := by decide +kernel
theorem dX0_init_1 : decode cX0_init 1 = .ok (.invokespecial 3, 3) := by decide +kernel
theorem dX0_init_4 : decode cX0_init 4 = .ok (.aload_n 0, 1) := by decide +kernel
theorem dX0_init_5 : decode cX0_init 5 = .ok (.bipush 8, 2) := by decide +kernel
theorem dX0_init_7 : decode cX0_init 7 = .ok (.anewarray 9, 3) := by decide +kernel
theorem dX0_init_10 : decode cX0_init 10 = .ok (.putfield 11, 3) := by decide +kernel
theorem dX0_init_13 : decode cX0_init 13 = .ok (.aload_n 0, 1) := by decide +kernel
theorem dX0_init_14 : decode cX0_init 14 = .ok (.iconst 0, 1) := by decide +kernel
theorem dX0_init_15 : decode cX0_init 15 = .ok (.putfield 17, 3) := by decide +kernel
theorem dX0_init_18 : decode cX0_init 18 = .ok (.aload_n 0, 1) := by decide +kernel
theorem dX0_init_19 : decode cX0_init 19 = .ok (.iconst 0, 1) := by decide +kernel
theorem dX0_init_20 : decode cX0_init 20 = .ok (.putfield 21, 3) := by decide +kernel
theorem dX0_init_23 : decode cX0_init 23 = .ok (.iconst 0, 1) := by decide +kernel
theorem dX0_init_24 : decode cX0_init 24 = .ok (.istore_n 1, 1) := by decide +kernel
theorem dX0_init_25 : decode cX0_init 25 = .ok (.iload_n 1, 1) := by decide +kernel
theorem dX0_init_26 : decode cX0_init 26 = .ok (.bipush 8, 2) := by decide +kernel
theorem dX0_init_28 : decode cX0_init 28 = .ok (.if_icmp .ge 22, 3) := by decide +kernel
theorem dX0_init_31 : decode cX0_init 31 = .ok (.aload_n 0, 1) := by decide +kernel
theorem dX0_init_32 : decode cX0_init 32 = .ok (.getfield 11, 3) := by decide +kernel
theorem dX0_init_35 : decode cX0_init 35 = .ok (.iload_n 1, 1) := by decide +kernel
theorem dX0_init_36 : decode cX0_init 36 = .ok (.new 9, 3) := by decide +kernel
theorem dX0_init_39 : decode cX0_init 39 = .ok (.dup, 1) := by decide +kernel
theorem dX0_init_40 : decode cX0_init 40 = .ok (.invokespecial 24, 3) := by decide +kernel
theorem dX0_init_43 : decode cX0_init 43 = .ok (.aastore, 1) := by decide +kernel
theorem dX0_init_44 : decode cX0_init 44 = .ok (.iinc 1 1, 3) := by decide +kernel
theorem dX0_init_47 : decode cX0_init 47 = .ok (.goto (-22), 3) := by decide +kernel
theorem dX0_init_50 : decode cX0_init 50 = .ok (.return_, 1) := by decide +kernel
theorem dX0_keep_0 : decode cX0_keep 0 = .ok (.aload_n 0, 1) := by decide +kernel
theorem dX0_keep_1 : decode cX0_keep 1 = .ok (.getfield 11, 3) := by decide +kernel
theorem dX0_keep_4 : decode cX0_keep 4 = .ok (.aload_n 0, 1) := by decide +kernel
theorem dX0_keep_5 : decode cX0_keep 5 = .ok (.getfield 21, 3) := by decide +kernel
theorem dX0_keep_8 : decode cX0_keep 8 = .ok (.aaload, 1) := by decide +kernel
theorem dX0_keep_9 : decode cX0_keep 9 = .ok (.aload_n 1, 1) := by decide +kernel
theorem dX0_keep_10 : decode cX0_keep 10 = .ok (.invokevirtual 25, 3) := by decide +kernel
theorem dX0_keep_13 : decode cX0_keep 13 = .ok (.aload_n 0, 1) := by decide +kernel
theorem dX0_keep_14 : decode cX0_keep 14 = .ok (.aload_n 0, 1) := by decide +kernel
theorem dX0_keep_15 : decode cX0_keep 15 = .ok (.getfield 21, 3) := by decide +kernel
theorem dX0_keep_18 : decode cX0_keep 18 = .ok (.iconst 1, 1) := by decide +kernel
theorem dX0_keep_19 : decode cX0_keep 19 = .ok (.iadd, 1) := by decide +kernel
theorem dX0_keep_20 : decode cX0_keep 20 = .ok (.bipush 8, 2) := by decide +kernel
theorem dX0_keep_22 : decode cX0_keep 22 = .ok (.irem, 1) := by decide +kernel
theorem dX0_keep_23 : decode cX0_keep 23 = .ok (.putfield 21, 3) := by decide +kernel
theorem dX0_keep_26 : decode cX0_keep 26 = .ok (.aload_n 0, 1) := by decide +kernel
theorem dX0_keep_27 : decode cX0_keep 27 = .ok (.bipush 8, 2) := by decide +kernel
theorem dX0_keep_29 : decode cX0_keep 29 = .ok (.aload_n 0, 1) := by decide +kernel
theorem dX0_keep_30 : decode cX0_keep 30 = .ok (.getfield 17, 3) := by decide +kernel
theorem dX0_keep_33 : decode cX0_keep 33 = .ok (.iconst 1, 1) := by decide +kernel
theorem dX0_keep_34 : decode cX0_keep 34 = .ok (.iadd, 1) := by decide +kernel
theorem dX0_keep_35 : decode cX0_keep 35 = .ok (.invokestatic 29, 3) := by decide +kernel
theorem dX0_keep_38 : decode cX0_keep 38 = .ok (.putfield 17, 3) := by decide +kernel
theorem dX0_keep_41 : decode cX0_keep 41 = .ok (.return_, 1) := by decide +kernel
theorem dX0_takeBack_0 : decode cX0_takeBack 0 = .ok (.aload_n 0, 1) := by decide +kernel
theorem dX0_takeBack_1 : decode cX0_takeBack 1 = .ok (.aload_n 0, 1) := by decide +kernel
theorem dX0_takeBack_2 : decode cX0_takeBack 2 = .ok (.getfield 21, 3) := by decide +kernel
theorem dX0_takeBack_5 : decode cX0_takeBack 5 = .ok (.bipush 8, 2) := by decide +kernel
theorem dX0_takeBack_7 : decode cX0_takeBack 7 = .ok (.iadd, 1) := by decide +kernel
theorem dX0_takeBack_8 : decode cX0_takeBack 8 = .ok (.iconst 1, 1) := by decide +kernel
theorem dX0_takeBack_9 : decode cX0_takeBack 9 = .ok (.isub, 1) := by decide +kernel
theorem dX0_takeBack_10 : decode cX0_takeBack 10 = .ok (.bipush 8, 2) := by decide +kernel
theorem dX0_takeBack_12 : decode cX0_takeBack 12 = .ok (.irem, 1) := by decide +kernel
theorem dX0_takeBack_13 : decode cX0_takeBack 13 = .ok (.putfield 21, 3) := by decide +kernel
theorem dX0_takeBack_16 : decode cX0_takeBack 16 = .ok (.aload_n 0, 1) := by decide +kernel
theorem dX0_takeBack_17 : decode cX0_takeBack 17 = .ok (.dup, 1) := by decide +kernel
theorem dX0_takeBack_18 : decode cX0_takeBack 18 = .ok (.getfield 17, 3) := by decide +kernel
theorem dX0_takeBack_21 : decode cX0_takeBack 21 = .ok (.iconst 1, 1) := by decide +kernel
theorem dX0_takeBack_22 : decode cX0_takeBack 22 = .ok (.isub, 1) := by decide +kernel
theorem dX0_takeBack_23 : decode cX0_takeBack 23 = .ok (.putfield 17, 3) := by decide +kernel
theorem dX0_takeBack_26 : decode cX0_takeBack 26 = .ok (.aload_n 1, 1) := by decide +kernel
theorem dX0_takeBack_27 : decode cX0_takeBack 27 = .ok (.aload_n 0, 1) := by decide +kernel
theorem dX0_takeBack_28 : decode cX0_takeBack 28 = .ok (.getfield 11, 3) := by decide +kernel
theorem dX0_takeBack_31 : decode cX0_takeBack 31 = .ok (.aload_n 0, 1) := by decide +kernel
theorem dX0_takeBack_32 : decode cX0_takeBack 32 = .ok (.getfield 21, 3) := by decide +kernel
theorem dX0_takeBack_35 : decode cX0_takeBack 35 = .ok (.aaload, 1) := by decide +kernel
theorem dX0_takeBack_36 : decode cX0_takeBack 36 = .ok (.invokevirtual 25, 3) := by decide +kernel
theorem dX0_takeBack_39 : decode cX0_takeBack 39 = .ok (.return_, 1) := by decide +kernel
theorem dX1_init_0 : decode cX1_init 0 = .ok (.aload_n 0, 1) := by decide +kernel
theorem dX1_init_1 : decode cX1_init 1 = .ok (.invokespecial 3, 3) := by decide +kernel
theorem dX1_init_4 : decode cX1_init 4 = .ok (.aload_n 0, 1) := by decide +kernel
theorem dX1_init_5 : decode cX1_init 5 = .ok (.iconst 0, 1) := by decide +kernel
theorem dX1_init_6 : decode cX1_init 6 = .ok (.putfield 9, 3) := by decide +kernel
theorem dX1_init_9 : decode cX1_init 9 = .ok (.aload_n 0, 1) := by decide +kernel
theorem dX1_init_10 : decode cX1_init 10 = .ok (.iconst 0, 1) := by decide +kernel
theorem dX1_init_11 : decode cX1_init 11 = .ok (.putfield 15, 3) := by decide +kernel
theorem dX1_init_14 : decode cX1_init 14 = .ok (.aload_n 0, 1) := by decide +kernel
theorem dX1_init_15 : decode cX1_init 15 = .ok (.bipush 12, 2) := by decide +kernel
theorem dX1_init_17 : decode cX1_init 17 = .ok (.newarray .int, 2) := by decide +kernel
theorem dX1_init_19 : decode cX1_init 19 = .ok (.putfield 18, 3) := by decide +kernel
theorem dX1_init_22 : decode cX1_init 22 = .ok (.aload_n 0, 1) := by decide +kernel
theorem dX1_init_23 : decode cX1_init 23 = .ok (.bipush 12, 2) := by decide +kernel
theorem dX1_init_25 : decode cX1_init 25 = .ok (.newarray .int, 2) := by decide +kernel
theorem dX1_init_27 : decode cX1_init 27 = .ok (.putfield 22, 3) := by decide +kernel
theorem dX1_init_30 : decode cX1_init 30 = .ok (.aload_n 0, 1) := by decide +kernel
theorem dX1_init_31 : decode cX1_init 31 = .ok (.bipush 12, 2) := by decide +kernel
theorem dX1_init_33 : decode cX1_init 33 = .ok (.newarray .int, 2) := by decide +kernel
theorem dX1_init_35 : decode cX1_init 35 = .ok (.putfield 25, 3) := by decide +kernel
theorem dX1_init_38 : decode cX1_init 38 = .ok (.return_, 1) := by decide +kernel
theorem dX1_copyFrom_0 : decode cX1_copyFrom 0 = .ok (.aload_n 0, 1) := by decide +kernel
theorem dX1_copyFrom_1 : decode cX1_copyFrom 1 = .ok (.aload_n 1, 1) := by decide +kernel
theorem dX1_copyFrom_2 : decode cX1_copyFrom 2 = .ok (.getfield 9, 3) := by decide +kernel
theorem dX1_copyFrom_5 : decode cX1_copyFrom 5 = .ok (.putfield 9, 3) := by decide +kernel
theorem dX1_copyFrom_8 : decode cX1_copyFrom 8 = .ok (.aload_n 0, 1) := by decide +kernel
theorem dX1_copyFrom_9 : decode cX1_copyFrom 9 = .ok (.aload_n 1, 1) := by decide +kernel
theorem dX1_copyFrom_10 : decode cX1_copyFrom 10 = .ok (.getfield 15, 3) := by decide +kernel
theorem dX1_copyFrom_13 : decode cX1_copyFrom 13 = .ok (.putfield 15, 3) := by decide +kernel
theorem dX1_copyFrom_16 : decode cX1_copyFrom 16 = .ok (.aload_n 1, 1) := by decide +kernel
theorem dX1_copyFrom_17 : decode cX1_copyFrom 17 = .ok (.getfield 18, 3) := by decide +kernel
theorem dX1_copyFrom_20 : decode cX1_copyFrom 20 = .ok (.iconst 0, 1) := by decide +kernel
theorem dX1_copyFrom_21 : decode cX1_copyFrom 21 = .ok (.aload_n 0, 1) := by decide +kernel
theorem dX1_copyFrom_22 : decode cX1_copyFrom 22 = .ok (.getfield 18, 3) := by decide +kernel
theorem dX1_copyFrom_25 : decode cX1_copyFrom 25 = .ok (.iconst 0, 1) := by decide +kernel
theorem dX1_copyFrom_26 : decode cX1_copyFrom 26 = .ok (.bipush 12, 2) := by decide +kernel
theorem dX1_copyFrom_28 : decode cX1_copyFrom 28 = .ok (.invokestatic 28, 3) := by decide +kernel
theorem dX1_copyFrom_31 : decode cX1_copyFrom 31 = .ok (.return_, 1) := by decide +kernel
theorem dX1_joined_0 : decode cX1_joined 0 = .ok (.aload_n 0, 1) := by decide +kernel
theorem dX1_joined_1 : decode cX1_joined 1 = .ok (.getfield 18, 3) := by decide +kernel
theorem dX1_joined_4 : decode cX1_joined 4 = .ok (.iload_n 1, 1) := by decide +kernel
theorem dX1_joined_5 : decode cX1_joined 5 = .ok (.iaload, 1) := by decide +kernel
theorem dX1_joined_6 : decode cX1_joined 6 = .ok (.iload_n 2, 1) := by decide +kernel
theorem dX1_joined_7 : decode cX1_joined 7 = .ok (.invokestatic 34, 3) := by decide +kernel
theorem dX1_joined_10 : decode cX1_joined 10 = .ok (.ireturn, 1) := by decide +kernel
theorem dX1_join_0 : decode cX1_join 0 = .ok (.aload_n 0, 1) := by decide +kernel
theorem dX1_join_1 : decode cX1_join 1 = .ok (.getfield 18, 3) := by decide +kernel
theorem dX1_join_4 : decode cX1_join 4 = .ok (.iload_n 1, 1) := by decide +kernel
theorem dX1_join_5 : decode cX1_join 5 = .ok (.dup2, 1) := by decide +kernel
theorem dX1_join_6 : decode cX1_join 6 = .ok (.iaload, 1) := by decide +kernel
theorem dX1_join_7 : decode cX1_join 7 = .ok (.iconst 1, 1) := by decide +kernel
theorem dX1_join_8 : decode cX1_join 8 = .ok (.iload_n 2, 1) := by decide +kernel
theorem dX1_join_9 : decode cX1_join 9 = .ok (.ishl, 1) := by decide +kernel
theorem dX1_join_10 : decode cX1_join 10 = .ok (.ior, 1) := by decide +kernel
theorem dX1_join_11 : decode cX1_join 11 = .ok (.iastore, 1) := by decide +kernel
theorem dX1_join_12 : decode cX1_join 12 = .ok (.aload_n 0, 1) := by decide +kernel
theorem dX1_join_13 : decode cX1_join 13 = .ok (.getfield 18, 3) := by decide +kernel
theorem dX1_join_16 : decode cX1_join 16 = .ok (.iload_n 2, 1) := by decide +kernel
theorem dX1_join_17 : decode cX1_join 17 = .ok (.dup2, 1) := by decide +kernel
theorem dX1_join_18 : decode cX1_join 18 = .ok (.iaload, 1) := by decide +kernel
theorem dX1_join_19 : decode cX1_join 19 = .ok (.iconst 1, 1) := by decide +kernel
theorem dX1_join_20 : decode cX1_join 20 = .ok (.iload_n 1, 1) := by decide +kernel
theorem dX1_join_21 : decode cX1_join 21 = .ok (.ishl, 1) := by decide +kernel
theorem dX1_join_22 : decode cX1_join 22 = .ok (.ior, 1) := by decide +kernel
theorem dX1_join_23 : decode cX1_join 23 = .ok (.iastore, 1) := by decide +kernel
theorem dX1_join_24 : decode cX1_join 24 = .ok (.aload_n 0, 1) := by decide +kernel
theorem dX1_join_25 : decode cX1_join 25 = .ok (.dup, 1) := by decide +kernel
theorem dX1_join_26 : decode cX1_join 26 = .ok (.getfield 15, 3) := by decide +kernel
theorem dX1_join_29 : decode cX1_join 29 = .ok (.iconst 1, 1) := by decide +kernel
theorem dX1_join_30 : decode cX1_join 30 = .ok (.iadd, 1) := by decide +kernel
theorem dX1_join_31 : decode cX1_join 31 = .ok (.putfield 15, 3) := by decide +kernel
theorem dX1_join_34 : decode cX1_join 34 = .ok (.aload_n 0, 1) := by decide +kernel
theorem dX1_join_35 : decode cX1_join 35 = .ok (.getfield 15, 3) := by decide +kernel
theorem dX1_join_38 : decode cX1_join 38 = .ok (.ireturn, 1) := by decide +kernel
theorem dX1_cut_0 : decode cX1_cut 0 = .ok (.aload_n 0, 1) := by decide +kernel
theorem dX1_cut_1 : decode cX1_cut 1 = .ok (.getfield 18, 3) := by decide +kernel
theorem dX1_cut_4 : decode cX1_cut 4 = .ok (.iload_n 1, 1) := by decide +kernel
theorem dX1_cut_5 : decode cX1_cut 5 = .ok (.dup2, 1) := by decide +kernel
theorem dX1_cut_6 : decode cX1_cut 6 = .ok (.iaload, 1) := by decide +kernel
theorem dX1_cut_7 : decode cX1_cut 7 = .ok (.iconst 1, 1) := by decide +kernel
theorem dX1_cut_8 : decode cX1_cut 8 = .ok (.iload_n 2, 1) := by decide +kernel
theorem dX1_cut_9 : decode cX1_cut 9 = .ok (.ishl, 1) := by decide +kernel
theorem dX1_cut_10 : decode cX1_cut 10 = .ok (.iconst (-1), 1) := by decide +kernel
theorem dX1_cut_11 : decode cX1_cut 11 = .ok (.ixor, 1) := by decide +kernel
theorem dX1_cut_12 : decode cX1_cut 12 = .ok (.iand, 1) := by decide +kernel
theorem dX1_cut_13 : decode cX1_cut 13 = .ok (.iastore, 1) := by decide +kernel
theorem dX1_cut_14 : decode cX1_cut 14 = .ok (.aload_n 0, 1) := by decide +kernel
theorem dX1_cut_15 : decode cX1_cut 15 = .ok (.getfield 18, 3) := by decide +kernel
theorem dX1_cut_18 : decode cX1_cut 18 = .ok (.iload_n 2, 1) := by decide +kernel
theorem dX1_cut_19 : decode cX1_cut 19 = .ok (.dup2, 1) := by decide +kernel
theorem dX1_cut_20 : decode cX1_cut 20 = .ok (.iaload, 1) := by decide +kernel
theorem dX1_cut_21 : decode cX1_cut 21 = .ok (.iconst 1, 1) := by decide +kernel
theorem dX1_cut_22 : decode cX1_cut 22 = .ok (.iload_n 1, 1) := by decide +kernel
theorem dX1_cut_23 : decode cX1_cut 23 = .ok (.ishl, 1) := by decide +kernel
theorem dX1_cut_24 : decode cX1_cut 24 = .ok (.iconst (-1), 1) := by decide +kernel
theorem dX1_cut_25 : decode cX1_cut 25 = .ok (.ixor, 1) := by decide +kernel
theorem dX1_cut_26 : decode cX1_cut 26 = .ok (.iand, 1) := by decide +kernel
theorem dX1_cut_27 : decode cX1_cut 27 = .ok (.iastore, 1) := by decide +kernel
theorem dX1_cut_28 : decode cX1_cut 28 = .ok (.aload_n 0, 1) := by decide +kernel
theorem dX1_cut_29 : decode cX1_cut 29 = .ok (.dup, 1) := by decide +kernel
theorem dX1_cut_30 : decode cX1_cut 30 = .ok (.getfield 15, 3) := by decide +kernel
theorem dX1_cut_33 : decode cX1_cut 33 = .ok (.iconst 1, 1) := by decide +kernel
theorem dX1_cut_34 : decode cX1_cut 34 = .ok (.isub, 1) := by decide +kernel
theorem dX1_cut_35 : decode cX1_cut 35 = .ok (.putfield 15, 3) := by decide +kernel
theorem dX1_cut_38 : decode cX1_cut 38 = .ok (.aload_n 0, 1) := by decide +kernel
theorem dX1_cut_39 : decode cX1_cut 39 = .ok (.getfield 15, 3) := by decide +kernel
theorem dX1_cut_42 : decode cX1_cut 42 = .ok (.ireturn, 1) := by decide +kernel
theorem dX1_around_0 : decode cX1_around 0 = .ok (.iconst 0, 1) := by decide +kernel
theorem dX1_around_1 : decode cX1_around 1 = .ok (.istore_n 2, 1) := by decide +kernel
theorem dX1_around_2 : decode cX1_around 2 = .ok (.iconst 0, 1) := by decide +kernel
theorem dX1_around_3 : decode cX1_around 3 = .ok (.istore_n 3, 1) := by decide +kernel
theorem dX1_around_4 : decode cX1_around 4 = .ok (.iload_n 3, 1) := by decide +kernel
theorem dX1_around_5 : decode cX1_around 5 = .ok (.aload_n 0, 1) := by decide +kernel
theorem dX1_around_6 : decode cX1_around 6 = .ok (.getfield 9, 3) := by decide +kernel
theorem dX1_around_9 : decode cX1_around 9 = .ok (.if_icmp .ge 26, 3) := by decide +kernel
theorem dX1_around_12 : decode cX1_around 12 = .ok (.iload_n 1, 1) := by decide +kernel
theorem dX1_around_13 : decode cX1_around 13 = .ok (.iload_n 3, 1) := by decide +kernel
theorem dX1_around_14 : decode cX1_around 14 = .ok (.invokestatic 34, 3) := by decide +kernel
theorem dX1_around_17 : decode cX1_around 17 = .ok (.ifCond .eq 12, 3) := by decide +kernel
theorem dX1_around_20 : decode cX1_around 20 = .ok (.iload_n 2, 1) := by decide +kernel
theorem dX1_around_21 : decode cX1_around 21 = .ok (.aload_n 0, 1) := by decide +kernel
theorem dX1_around_22 : decode cX1_around 22 = .ok (.getfield 18, 3) := by decide +kernel
theorem dX1_around_25 : decode cX1_around 25 = .ok (.iload_n 3, 1) := by decide +kernel
theorem dX1_around_26 : decode cX1_around 26 = .ok (.iaload, 1) := by decide +kernel
theorem dX1_around_27 : decode cX1_around 27 = .ok (.ior, 1) := by decide +kernel
theorem dX1_around_28 : decode cX1_around 28 = .ok (.istore_n 2, 1) := by decide +kernel
theorem dX1_around_29 : decode cX1_around 29 = .ok (.iinc 3 1, 3) := by decide +kernel
theorem dX1_around_32 : decode cX1_around 32 = .ok (.goto (-28), 3) := by decide +kernel
theorem dX1_around_35 : decode cX1_around 35 = .ok (.iload_n 2, 1) := by decide +kernel
theorem dX1_around_36 : decode cX1_around 36 = .ok (.ireturn, 1) := by decide +kernel
theorem dX1_piecesBySearch_0 : decode cX1_piecesBySearch 0 = .ok (.iconst 0, 1) := by decide +kernel
theorem dX1_piecesBySearch_1 : decode cX1_piecesBySearch 1 = .ok (.istore_n 1, 1) := by decide +kernel
theorem dX1_piecesBySearch_2 : decode cX1_piecesBySearch 2 = .ok (.iconst 0, 1) := by decide +kernel
theorem dX1_piecesBySearch_3 : decode cX1_piecesBySearch 3 = .ok (.istore_n 2, 1) := by decide +kernel
theorem dX1_piecesBySearch_4 : decode cX1_piecesBySearch 4 = .ok (.iconst 0, 1) := by decide +kernel
theorem dX1_piecesBySearch_5 : decode cX1_piecesBySearch 5 = .ok (.istore_n 3, 1) := by decide +kernel
theorem dX1_piecesBySearch_6 : decode cX1_piecesBySearch 6 = .ok (.iload_n 3, 1) := by decide +kernel
theorem dX1_piecesBySearch_7 : decode cX1_piecesBySearch 7 = .ok (.aload_n 0, 1) := by decide +kernel
theorem dX1_piecesBySearch_8 : decode cX1_piecesBySearch 8 = .ok (.getfield 9, 3) := by decide +kernel
theorem dX1_piecesBySearch_11 : decode cX1_piecesBySearch 11 = .ok (.if_icmp .ge 28, 3) := by decide +kernel
theorem dX1_piecesBySearch_14 : decode cX1_piecesBySearch 14 = .ok (.iload_n 2, 1) := by decide +kernel
theorem dX1_piecesBySearch_15 : decode cX1_piecesBySearch 15 = .ok (.iload_n 3, 1) := by decide +kernel
theorem dX1_piecesBySearch_16 : decode cX1_piecesBySearch 16 = .ok (.invokestatic 34, 3) := by decide +kernel
theorem dX1_piecesBySearch_19 : decode cX1_piecesBySearch 19 = .ok (.ifCond .ne 14, 3) := by decide +kernel
theorem dX1_piecesBySearch_22 : decode cX1_piecesBySearch 22 = .ok (.iinc 1 1, 3) := by decide +kernel
theorem dX1_piecesBySearch_25 : decode cX1_piecesBySearch 25 = .ok (.iload_n 2, 1) := by decide +kernel
theorem dX1_piecesBySearch_26 : decode cX1_piecesBySearch 26 = .ok (.aload_n 0, 1) := by decide +kernel
theorem dX1_piecesBySearch_27 : decode cX1_piecesBySearch 27 = .ok (.iload_n 3, 1) := by decide +kernel
theorem dX1_piecesBySearch_28 : decode cX1_piecesBySearch 28 = .ok (.invokevirtual 38, 3) := by decide +kernel
theorem dX1_piecesBySearch_31 : decode cX1_piecesBySearch 31 = .ok (.ior, 1) := by decide +kernel
theorem dX1_piecesBySearch_32 : decode cX1_piecesBySearch 32 = .ok (.istore_n 2, 1) := by decide +kernel
theorem dX1_piecesBySearch_33 : decode cX1_piecesBySearch 33 = .ok (.iinc 3 1, 3) := by decide +kernel
theorem dX1_piecesBySearch_36 : decode cX1_piecesBySearch 36 = .ok (.goto (-30), 3) := by decide +kernel
theorem dX1_piecesBySearch_39 : decode cX1_piecesBySearch 39 = .ok (.iload_n 1, 1) := by decide +kernel
theorem dX1_piecesBySearch_40 : decode cX1_piecesBySearch 40 = .ok (.ireturn, 1) := by decide +kernel
theorem dX1_pieceOf_0 : decode cX1_pieceOf 0 = .ok (.iconst 1, 1) := by decide +kernel
theorem dX1_pieceOf_1 : decode cX1_pieceOf 1 = .ok (.iload_n 1, 1) := by decide +kernel
theorem dX1_pieceOf_2 : decode cX1_pieceOf 2 = .ok (.ishl, 1) := by decide +kernel
theorem dX1_pieceOf_3 : decode cX1_pieceOf 3 = .ok (.istore_n 2, 1) := by decide +kernel
theorem dX1_pieceOf_4 : decode cX1_pieceOf 4 = .ok (.iconst 1, 1) := by decide +kernel
theorem dX1_pieceOf_5 : decode cX1_pieceOf 5 = .ok (.istore_n 3, 1) := by decide +kernel
theorem dX1_pieceOf_6 : decode cX1_pieceOf 6 = .ok (.iload_n 3, 1) := by decide +kernel
theorem dX1_pieceOf_7 : decode cX1_pieceOf 7 = .ok (.aload_n 0, 1) := by decide +kernel
theorem dX1_pieceOf_8 : decode cX1_pieceOf 8 = .ok (.getfield 9, 3) := by decide +kernel
theorem dX1_pieceOf_11 : decode cX1_pieceOf 11 = .ok (.if_icmp .ge 17, 3) := by decide +kernel
theorem dX1_pieceOf_14 : decode cX1_pieceOf 14 = .ok (.iload_n 2, 1) := by decide +kernel
theorem dX1_pieceOf_15 : decode cX1_pieceOf 15 = .ok (.aload_n 0, 1) := by decide +kernel
theorem dX1_pieceOf_16 : decode cX1_pieceOf 16 = .ok (.iload_n 2, 1) := by decide +kernel
theorem dX1_pieceOf_17 : decode cX1_pieceOf 17 = .ok (.invokevirtual 42, 3) := by decide +kernel
theorem dX1_pieceOf_20 : decode cX1_pieceOf 20 = .ok (.ior, 1) := by decide +kernel
theorem dX1_pieceOf_21 : decode cX1_pieceOf 21 = .ok (.istore_n 2, 1) := by decide +kernel
theorem dX1_pieceOf_22 : decode cX1_pieceOf 22 = .ok (.iinc 3 1, 3) := by decide +kernel
theorem dX1_pieceOf_25 : decode cX1_pieceOf 25 = .ok (.goto (-19), 3) := by decide +kernel
theorem dX1_pieceOf_28 : decode cX1_pieceOf 28 = .ok (.iload_n 2, 1) := by decide +kernel
theorem dX1_pieceOf_29 : decode cX1_pieceOf 29 = .ok (.ireturn, 1) := by decide +kernel
theorem dX1_piecesByUnion_0 : decode cX1_piecesByUnion 0 = .ok (.iconst 0, 1) := by decide +kernel
theorem dX1_piecesByUnion_1 : decode cX1_piecesByUnion 1 = .ok (.istore_n 1, 1) := by decide +kernel
theorem dX1_piecesByUnion_2 : decode cX1_piecesByUnion 2 = .ok (.iload_n 1, 1) := by decide +kernel
theorem dX1_piecesByUnion_3 : decode cX1_piecesByUnion 3 = .ok (.aload_n 0, 1) := by decide +kernel
theorem dX1_piecesByUnion_4 : decode cX1_piecesByUnion 4 = .ok (.getfield 9, 3) := by decide +kernel
theorem dX1_piecesByUnion_7 : decode cX1_piecesByUnion 7 = .ok (.if_icmp .ge 16, 3) := by decide +kernel
theorem dX1_piecesByUnion_10 : decode cX1_piecesByUnion 10 = .ok (.aload_n 0, 1) := by decide +kernel
theorem dX1_piecesByUnion_11 : decode cX1_piecesByUnion 11 = .ok (.getfield 22, 3) := by decide +kernel
theorem dX1_piecesByUnion_14 : decode cX1_piecesByUnion 14 = .ok (.iload_n 1, 1) := by decide +kernel
theorem dX1_piecesByUnion_15 : decode cX1_piecesByUnion 15 = .ok (.iload_n 1, 1) := by decide +kernel
theorem dX1_piecesByUnion_16 : decode cX1_piecesByUnion 16 = .ok (.iastore, 1) := by decide +kernel
theorem dX1_piecesByUnion_17 : decode cX1_piecesByUnion 17 = .ok (.iinc 1 1, 3) := by decide +kernel
theorem dX1_piecesByUnion_20 : decode cX1_piecesByUnion 20 = .ok (.goto (-18), 3) := by decide +kernel
theorem dX1_piecesByUnion_23 : decode cX1_piecesByUnion 23 = .ok (.aload_n 0, 1) := by decide +kernel
theorem dX1_piecesByUnion_24 : decode cX1_piecesByUnion 24 = .ok (.getfield 9, 3) := by decide +kernel
theorem dX1_piecesByUnion_27 : decode cX1_piecesByUnion 27 = .ok (.istore_n 1, 1) := by decide +kernel
theorem dX1_piecesByUnion_28 : decode cX1_piecesByUnion 28 = .ok (.iconst 0, 1) := by decide +kernel
theorem dX1_piecesByUnion_29 : decode cX1_piecesByUnion 29 = .ok (.istore_n 2, 1) := by decide +kernel
theorem dX1_piecesByUnion_30 : decode cX1_piecesByUnion 30 = .ok (.iload_n 2, 1) := by decide +kernel
theorem dX1_piecesByUnion_31 : decode cX1_piecesByUnion 31 = .ok (.aload_n 0, 1) := by decide +kernel
theorem dX1_piecesByUnion_32 : decode cX1_piecesByUnion 32 = .ok (.getfield 9, 3) := by decide +kernel
theorem dX1_piecesByUnion_35 : decode cX1_piecesByUnion 35 = .ok (.if_icmp .ge 43, 3) := by decide +kernel
theorem dX1_piecesByUnion_38 : decode cX1_piecesByUnion 38 = .ok (.iconst 0, 1) := by decide +kernel
theorem dX1_piecesByUnion_39 : decode cX1_piecesByUnion 39 = .ok (.istore_n 3, 1) := by decide +kernel
theorem dX1_piecesByUnion_40 : decode cX1_piecesByUnion 40 = .ok (.iload_n 3, 1) := by decide +kernel
theorem dX1_piecesByUnion_41 : decode cX1_piecesByUnion 41 = .ok (.iload_n 2, 1) := by decide +kernel
theorem dX1_piecesByUnion_42 : decode cX1_piecesByUnion 42 = .ok (.if_icmp .ge 30, 3) := by decide +kernel
theorem dX1_piecesByUnion_45 : decode cX1_piecesByUnion 45 = .ok (.aload_n 0, 1) := by decide +kernel
theorem dX1_piecesByUnion_46 : decode cX1_piecesByUnion 46 = .ok (.iload_n 2, 1) := by decide +kernel
theorem dX1_piecesByUnion_47 : decode cX1_piecesByUnion 47 = .ok (.iload_n 3, 1) := by decide +kernel
theorem dX1_piecesByUnion_48 : decode cX1_piecesByUnion 48 = .ok (.invokevirtual 45, 3) := by decide +kernel
theorem dX1_piecesByUnion_51 : decode cX1_piecesByUnion 51 = .ok (.ifCond .eq 15, 3) := by decide +kernel
theorem dX1_piecesByUnion_54 : decode cX1_piecesByUnion 54 = .ok (.aload_n 0, 1) := by decide +kernel
theorem dX1_piecesByUnion_55 : decode cX1_piecesByUnion 55 = .ok (.iload_n 2, 1) := by decide +kernel
theorem dX1_piecesByUnion_56 : decode cX1_piecesByUnion 56 = .ok (.iload_n 3, 1) := by decide +kernel
theorem dX1_piecesByUnion_57 : decode cX1_piecesByUnion 57 = .ok (.invokevirtual 48, 3) := by decide +kernel
theorem dX1_piecesByUnion_60 : decode cX1_piecesByUnion 60 = .ok (.ifCond .eq 6, 3) := by decide +kernel
theorem dX1_piecesByUnion_63 : decode cX1_piecesByUnion 63 = .ok (.iinc 1 (-1), 3) := by decide +kernel
theorem dX1_piecesByUnion_66 : decode cX1_piecesByUnion 66 = .ok (.iinc 3 1, 3) := by decide +kernel
theorem dX1_piecesByUnion_69 : decode cX1_piecesByUnion 69 = .ok (.goto (-29), 3) := by decide +kernel
theorem dX1_piecesByUnion_72 : decode cX1_piecesByUnion 72 = .ok (.iinc 2 1, 3) := by decide +kernel
theorem dX1_piecesByUnion_75 : decode cX1_piecesByUnion 75 = .ok (.goto (-45), 3) := by decide +kernel
theorem dX1_piecesByUnion_78 : decode cX1_piecesByUnion 78 = .ok (.iload_n 1, 1) := by decide +kernel
theorem dX1_piecesByUnion_79 : decode cX1_piecesByUnion 79 = .ok (.ireturn, 1) := by decide +kernel
theorem dX1_unite_0 : decode cX1_unite 0 = .ok (.aload_n 0, 1) := by decide +kernel
theorem dX1_unite_1 : decode cX1_unite 1 = .ok (.iload_n 1, 1) := by decide +kernel
theorem dX1_unite_2 : decode cX1_unite 2 = .ok (.invokevirtual 51, 3) := by decide +kernel
theorem dX1_unite_5 : decode cX1_unite 5 = .ok (.istore_n 3, 1) := by decide +kernel
theorem dX1_unite_6 : decode cX1_unite 6 = .ok (.aload_n 0, 1) := by decide +kernel
theorem dX1_unite_7 : decode cX1_unite 7 = .ok (.iload_n 2, 1) := by decide +kernel
theorem dX1_unite_8 : decode cX1_unite 8 = .ok (.invokevirtual 51, 3) := by decide +kernel
theorem dX1_unite_11 : decode cX1_unite 11 = .ok (.istore 4, 2) := by decide +kernel
theorem dX1_unite_13 : decode cX1_unite 13 = .ok (.aload_n 0, 1) := by decide +kernel
theorem dX1_unite_14 : decode cX1_unite 14 = .ok (.getfield 22, 3) := by decide +kernel
theorem dX1_unite_17 : decode cX1_unite 17 = .ok (.iload_n 3, 1) := by decide +kernel
theorem dX1_unite_18 : decode cX1_unite 18 = .ok (.iload 4, 2) := by decide +kernel
theorem dX1_unite_20 : decode cX1_unite 20 = .ok (.iastore, 1) := by decide +kernel
theorem dX1_unite_21 : decode cX1_unite 21 = .ok (.iload_n 3, 1) := by decide +kernel
theorem dX1_unite_22 : decode cX1_unite 22 = .ok (.iload 4, 2) := by decide +kernel
theorem dX1_unite_24 : decode cX1_unite 24 = .ok (.if_icmp .eq 7, 3) := by decide +kernel
theorem dX1_unite_27 : decode cX1_unite 27 = .ok (.iconst 1, 1) := by decide +kernel
theorem dX1_unite_28 : decode cX1_unite 28 = .ok (.goto 4, 3) := by decide +kernel
theorem dX1_unite_31 : decode cX1_unite 31 = .ok (.iconst 0, 1) := by decide +kernel
theorem dX1_unite_32 : decode cX1_unite 32 = .ok (.ireturn, 1) := by decide +kernel
theorem dX1_rootOf_0 : decode cX1_rootOf 0 = .ok (.iload_n 1, 1) := by decide +kernel
theorem dX1_rootOf_1 : decode cX1_rootOf 1 = .ok (.istore_n 2, 1) := by decide +kernel
theorem dX1_rootOf_2 : decode cX1_rootOf 2 = .ok (.iconst 0, 1) := by decide +kernel
theorem dX1_rootOf_3 : decode cX1_rootOf 3 = .ok (.istore_n 3, 1) := by decide +kernel
theorem dX1_rootOf_4 : decode cX1_rootOf 4 = .ok (.iload_n 3, 1) := by decide +kernel
theorem dX1_rootOf_5 : decode cX1_rootOf 5 = .ok (.aload_n 0, 1) := by decide +kernel
theorem dX1_rootOf_6 : decode cX1_rootOf 6 = .ok (.getfield 9, 3) := by decide +kernel
theorem dX1_rootOf_9 : decode cX1_rootOf 9 = .ok (.if_icmp .ge 26, 3) := by decide +kernel
theorem dX1_rootOf_12 : decode cX1_rootOf 12 = .ok (.aload_n 0, 1) := by decide +kernel
theorem dX1_rootOf_13 : decode cX1_rootOf 13 = .ok (.getfield 22, 3) := by decide +kernel
theorem dX1_rootOf_16 : decode cX1_rootOf 16 = .ok (.iload_n 2, 1) := by decide +kernel
theorem dX1_rootOf_17 : decode cX1_rootOf 17 = .ok (.iaload, 1) := by decide +kernel
theorem dX1_rootOf_18 : decode cX1_rootOf 18 = .ok (.iload_n 2, 1) := by decide +kernel
theorem dX1_rootOf_19 : decode cX1_rootOf 19 = .ok (.if_icmp .eq 16, 3) := by decide +kernel
theorem dX1_rootOf_22 : decode cX1_rootOf 22 = .ok (.aload_n 0, 1) := by decide +kernel
theorem dX1_rootOf_23 : decode cX1_rootOf 23 = .ok (.getfield 22, 3) := by decide +kernel
theorem dX1_rootOf_26 : decode cX1_rootOf 26 = .ok (.iload_n 2, 1) := by decide +kernel
theorem dX1_rootOf_27 : decode cX1_rootOf 27 = .ok (.iaload, 1) := by decide +kernel
theorem dX1_rootOf_28 : decode cX1_rootOf 28 = .ok (.istore_n 2, 1) := by decide +kernel
theorem dX1_rootOf_29 : decode cX1_rootOf 29 = .ok (.iinc 3 1, 3) := by decide +kernel
theorem dX1_rootOf_32 : decode cX1_rootOf 32 = .ok (.goto (-28), 3) := by decide +kernel
theorem dX1_rootOf_35 : decode cX1_rootOf 35 = .ok (.iload_n 2, 1) := by decide +kernel
theorem dX1_rootOf_36 : decode cX1_rootOf 36 = .ok (.ireturn, 1) := by decide +kernel
theorem dX1_stepsBySearch_0 : decode cX1_stepsBySearch 0 = .ok (.iconst 1, 1) := by decide +kernel
theorem dX1_stepsBySearch_1 : decode cX1_stepsBySearch 1 = .ok (.iload_n 1, 1) := by decide +kernel
theorem dX1_stepsBySearch_2 : decode cX1_stepsBySearch 2 = .ok (.ishl, 1) := by decide +kernel
theorem dX1_stepsBySearch_3 : decode cX1_stepsBySearch 3 = .ok (.istore_n 3, 1) := by decide +kernel
theorem dX1_stepsBySearch_4 : decode cX1_stepsBySearch 4 = .ok (.iload_n 3, 1) := by decide +kernel
theorem dX1_stepsBySearch_5 : decode cX1_stepsBySearch 5 = .ok (.istore 4, 2) := by decide +kernel
theorem dX1_stepsBySearch_7 : decode cX1_stepsBySearch 7 = .ok (.iconst 0, 1) := by decide +kernel
theorem dX1_stepsBySearch_8 : decode cX1_stepsBySearch 8 = .ok (.istore 5, 2) := by decide +kernel
theorem dX1_stepsBySearch_10 : decode cX1_stepsBySearch 10 = .ok (.iload 5, 2) := by decide +kernel
theorem dX1_stepsBySearch_12 : decode cX1_stepsBySearch 12 = .ok (.aload_n 0, 1) := by decide +kernel
theorem dX1_stepsBySearch_13 : decode cX1_stepsBySearch 13 = .ok (.getfield 9, 3) := by decide +kernel
theorem dX1_stepsBySearch_16 : decode cX1_stepsBySearch 16 = .ok (.if_icmp .ge 35, 3) := by decide +kernel
theorem dX1_stepsBySearch_19 : decode cX1_stepsBySearch 19 = .ok (.iload_n 3, 1) := by decide +kernel
theorem dX1_stepsBySearch_20 : decode cX1_stepsBySearch 20 = .ok (.iload_n 2, 1) := by decide +kernel
theorem dX1_stepsBySearch_21 : decode cX1_stepsBySearch 21 = .ok (.iand, 1) := by decide +kernel
theorem dX1_stepsBySearch_22 : decode cX1_stepsBySearch 22 = .ok (.ifCond .eq 6, 3) := by decide +kernel
theorem dX1_stepsBySearch_25 : decode cX1_stepsBySearch 25 = .ok (.iload 5, 2) := by decide +kernel
theorem dX1_stepsBySearch_27 : decode cX1_stepsBySearch 27 = .ok (.ireturn, 1) := by decide +kernel
theorem dX1_stepsBySearch_28 : decode cX1_stepsBySearch 28 = .ok (.aload_n 0, 1) := by decide +kernel
theorem dX1_stepsBySearch_29 : decode cX1_stepsBySearch 29 = .ok (.iload_n 3, 1) := by decide +kernel
theorem dX1_stepsBySearch_30 : decode cX1_stepsBySearch 30 = .ok (.invokevirtual 42, 3) := by decide +kernel
theorem dX1_stepsBySearch_33 : decode cX1_stepsBySearch 33 = .ok (.iload 4, 2) := by decide +kernel
theorem dX1_stepsBySearch_35 : decode cX1_stepsBySearch 35 = .ok (.iconst (-1), 1) := by decide +kernel
theorem dX1_stepsBySearch_36 : decode cX1_stepsBySearch 36 = .ok (.ixor, 1) := by decide +kernel
theorem dX1_stepsBySearch_37 : decode cX1_stepsBySearch 37 = .ok (.iand, 1) := by decide +kernel
theorem dX1_stepsBySearch_38 : decode cX1_stepsBySearch 38 = .ok (.istore_n 3, 1) := by decide +kernel
theorem dX1_stepsBySearch_39 : decode cX1_stepsBySearch 39 = .ok (.iload 4, 2) := by decide +kernel
theorem dX1_stepsBySearch_41 : decode cX1_stepsBySearch 41 = .ok (.iload_n 3, 1) := by decide +kernel
theorem dX1_stepsBySearch_42 : decode cX1_stepsBySearch 42 = .ok (.ior, 1) := by decide +kernel
theorem dX1_stepsBySearch_43 : decode cX1_stepsBySearch 43 = .ok (.istore 4, 2) := by decide +kernel
theorem dX1_stepsBySearch_45 : decode cX1_stepsBySearch 45 = .ok (.iinc 5 1, 3) := by decide +kernel
theorem dX1_stepsBySearch_48 : decode cX1_stepsBySearch 48 = .ok (.goto (-38), 3) := by decide +kernel
theorem dX1_stepsBySearch_51 : decode cX1_stepsBySearch 51 = .ok (.iconst (-1), 1) := by decide +kernel
theorem dX1_stepsBySearch_52 : decode cX1_stepsBySearch 52 = .ok (.ireturn, 1) := by decide +kernel
theorem dX1_stepsByRelaxing_0 : decode cX1_stepsByRelaxing 0 = .ok (.iconst 0, 1) := by decide +kernel
theorem dX1_stepsByRelaxing_1 : decode cX1_stepsByRelaxing 1 = .ok (.istore_n 3, 1) := by decide +kernel
theorem dX1_stepsByRelaxing_2 : decode cX1_stepsByRelaxing 2 = .ok (.iload_n 3, 1) := by decide +kernel
theorem dX1_stepsByRelaxing_3 : decode cX1_stepsByRelaxing 3 = .ok (.aload_n 0, 1) := by decide +kernel
theorem dX1_stepsByRelaxing_4 : decode cX1_stepsByRelaxing 4 = .ok (.getfield 9, 3) := by decide +kernel
theorem dX1_stepsByRelaxing_7 : decode cX1_stepsByRelaxing 7 = .ok (.if_icmp .ge 30, 3) := by decide +kernel
theorem dX1_stepsByRelaxing_10 : decode cX1_stepsByRelaxing 10 = .ok (.aload_n 0, 1) := by decide +kernel
theorem dX1_stepsByRelaxing_11 : decode cX1_stepsByRelaxing 11 = .ok (.getfield 25, 3) := by decide +kernel
theorem dX1_stepsByRelaxing_14 : decode cX1_stepsByRelaxing 14 = .ok (.iload_n 3, 1) := by decide +kernel
theorem dX1_stepsByRelaxing_15 : decode cX1_stepsByRelaxing 15 = .ok (.iload_n 2, 1) := by decide +kernel
theorem dX1_stepsByRelaxing_16 : decode cX1_stepsByRelaxing 16 = .ok (.iload_n 3, 1) := by decide +kernel
theorem dX1_stepsByRelaxing_17 : decode cX1_stepsByRelaxing 17 = .ok (.invokestatic 34, 3) := by decide +kernel
theorem dX1_stepsByRelaxing_20 : decode cX1_stepsByRelaxing 20 = .ok (.ifCond .eq 7, 3) := by decide +kernel
theorem dX1_stepsByRelaxing_23 : decode cX1_stepsByRelaxing 23 = .ok (.iconst 0, 1) := by decide +kernel
theorem dX1_stepsByRelaxing_24 : decode cX1_stepsByRelaxing 24 = .ok (.goto 6, 3) := by decide +kernel
theorem dX1_stepsByRelaxing_27 : decode cX1_stepsByRelaxing 27 = .ok (.sipush 1000, 3) := by decide +kernel
theorem dX1_stepsByRelaxing_30 : decode cX1_stepsByRelaxing 30 = .ok (.iastore, 1) := by decide +kernel
theorem dX1_stepsByRelaxing_31 : decode cX1_stepsByRelaxing 31 = .ok (.iinc 3 1, 3) := by decide +kernel
theorem dX1_stepsByRelaxing_34 : decode cX1_stepsByRelaxing 34 = .ok (.goto (-32), 3) := by decide +kernel
theorem dX1_stepsByRelaxing_37 : decode cX1_stepsByRelaxing 37 = .ok (.iconst 1, 1) := by decide +kernel
theorem dX1_stepsByRelaxing_38 : decode cX1_stepsByRelaxing 38 = .ok (.istore_n 3, 1) := by decide +kernel
theorem dX1_stepsByRelaxing_39 : decode cX1_stepsByRelaxing 39 = .ok (.iload_n 3, 1) := by decide +kernel
theorem dX1_stepsByRelaxing_40 : decode cX1_stepsByRelaxing 40 = .ok (.aload_n 0, 1) := by decide +kernel
theorem dX1_stepsByRelaxing_41 : decode cX1_stepsByRelaxing 41 = .ok (.getfield 9, 3) := by decide +kernel
theorem dX1_stepsByRelaxing_44 : decode cX1_stepsByRelaxing 44 = .ok (.if_icmp .ge 13, 3) := by decide +kernel
theorem dX1_stepsByRelaxing_47 : decode cX1_stepsByRelaxing 47 = .ok (.aload_n 0, 1) := by decide +kernel
theorem dX1_stepsByRelaxing_48 : decode cX1_stepsByRelaxing 48 = .ok (.invokevirtual 54, 3) := by decide +kernel
theorem dX1_stepsByRelaxing_51 : decode cX1_stepsByRelaxing 51 = .ok (.iinc 3 1, 3) := by decide +kernel
theorem dX1_stepsByRelaxing_54 : decode cX1_stepsByRelaxing 54 = .ok (.goto (-15), 3) := by decide +kernel
theorem dX1_stepsByRelaxing_57 : decode cX1_stepsByRelaxing 57 = .ok (.aload_n 0, 1) := by decide +kernel
theorem dX1_stepsByRelaxing_58 : decode cX1_stepsByRelaxing 58 = .ok (.getfield 25, 3) := by decide +kernel
theorem dX1_stepsByRelaxing_61 : decode cX1_stepsByRelaxing 61 = .ok (.iload_n 1, 1) := by decide +kernel
theorem dX1_stepsByRelaxing_62 : decode cX1_stepsByRelaxing 62 = .ok (.iaload, 1) := by decide +kernel
theorem dX1_stepsByRelaxing_63 : decode cX1_stepsByRelaxing 63 = .ok (.sipush 1000, 3) := by decide +kernel
theorem dX1_stepsByRelaxing_66 : decode cX1_stepsByRelaxing 66 = .ok (.if_icmp .ne 7, 3) := by decide +kernel
theorem dX1_stepsByRelaxing_69 : decode cX1_stepsByRelaxing 69 = .ok (.iconst (-1), 1) := by decide +kernel
theorem dX1_stepsByRelaxing_70 : decode cX1_stepsByRelaxing 70 = .ok (.goto 9, 3) := by decide +kernel
theorem dX1_stepsByRelaxing_73 : decode cX1_stepsByRelaxing 73 = .ok (.aload_n 0, 1) := by decide +kernel
theorem dX1_stepsByRelaxing_74 : decode cX1_stepsByRelaxing 74 = .ok (.getfield 25, 3) := by decide +kernel
theorem dX1_stepsByRelaxing_77 : decode cX1_stepsByRelaxing 77 = .ok (.iload_n 1, 1) := by decide +kernel
theorem dX1_stepsByRelaxing_78 : decode cX1_stepsByRelaxing 78 = .ok (.iaload, 1) := by decide +kernel
theorem dX1_stepsByRelaxing_79 : decode cX1_stepsByRelaxing 79 = .ok (.ireturn, 1) := by decide +kernel
theorem dX1_relaxLinks_0 : decode cX1_relaxLinks 0 = .ok (.iconst 0, 1) := by decide +kernel
theorem dX1_relaxLinks_1 : decode cX1_relaxLinks 1 = .ok (.istore_n 1, 1) := by decide +kernel
theorem dX1_relaxLinks_2 : decode cX1_relaxLinks 2 = .ok (.iload_n 1, 1) := by decide +kernel
theorem dX1_relaxLinks_3 : decode cX1_relaxLinks 3 = .ok (.aload_n 0, 1) := by decide +kernel
theorem dX1_relaxLinks_4 : decode cX1_relaxLinks 4 = .ok (.getfield 9, 3) := by decide +kernel
theorem dX1_relaxLinks_7 : decode cX1_relaxLinks 7 = .ok (.if_icmp .ge 57, 3) := by decide +kernel
theorem dX1_relaxLinks_10 : decode cX1_relaxLinks 10 = .ok (.iconst 0, 1) := by decide +kernel
theorem dX1_relaxLinks_11 : decode cX1_relaxLinks 11 = .ok (.istore_n 2, 1) := by decide +kernel
theorem dX1_relaxLinks_12 : decode cX1_relaxLinks 12 = .ok (.iload_n 2, 1) := by decide +kernel
theorem dX1_relaxLinks_13 : decode cX1_relaxLinks 13 = .ok (.aload_n 0, 1) := by decide +kernel
theorem dX1_relaxLinks_14 : decode cX1_relaxLinks 14 = .ok (.getfield 9, 3) := by decide +kernel
theorem dX1_relaxLinks_17 : decode cX1_relaxLinks 17 = .ok (.if_icmp .ge 41, 3) := by decide +kernel
theorem dX1_relaxLinks_20 : decode cX1_relaxLinks 20 = .ok (.aload_n 0, 1) := by decide +kernel
theorem dX1_relaxLinks_21 : decode cX1_relaxLinks 21 = .ok (.iload_n 1, 1) := by decide +kernel
theorem dX1_relaxLinks_22 : decode cX1_relaxLinks 22 = .ok (.iload_n 2, 1) := by decide +kernel
theorem dX1_relaxLinks_23 : decode cX1_relaxLinks 23 = .ok (.invokevirtual 45, 3) := by decide +kernel
theorem dX1_relaxLinks_26 : decode cX1_relaxLinks 26 = .ok (.ifCond .eq 26, 3) := by decide +kernel
theorem dX1_relaxLinks_29 : decode cX1_relaxLinks 29 = .ok (.aload_n 0, 1) := by decide +kernel
theorem dX1_relaxLinks_30 : decode cX1_relaxLinks 30 = .ok (.getfield 25, 3) := by decide +kernel
theorem dX1_relaxLinks_33 : decode cX1_relaxLinks 33 = .ok (.iload_n 1, 1) := by decide +kernel
theorem dX1_relaxLinks_34 : decode cX1_relaxLinks 34 = .ok (.aload_n 0, 1) := by decide +kernel
theorem dX1_relaxLinks_35 : decode cX1_relaxLinks 35 = .ok (.getfield 25, 3) := by decide +kernel
theorem dX1_relaxLinks_38 : decode cX1_relaxLinks 38 = .ok (.iload_n 1, 1) := by decide +kernel
theorem dX1_relaxLinks_39 : decode cX1_relaxLinks 39 = .ok (.iaload, 1) := by decide +kernel
theorem dX1_relaxLinks_40 : decode cX1_relaxLinks 40 = .ok (.aload_n 0, 1) := by decide +kernel
theorem dX1_relaxLinks_41 : decode cX1_relaxLinks 41 = .ok (.getfield 25, 3) := by decide +kernel
theorem dX1_relaxLinks_44 : decode cX1_relaxLinks 44 = .ok (.iload_n 2, 1) := by decide +kernel
theorem dX1_relaxLinks_45 : decode cX1_relaxLinks 45 = .ok (.iaload, 1) := by decide +kernel
theorem dX1_relaxLinks_46 : decode cX1_relaxLinks 46 = .ok (.iconst 1, 1) := by decide +kernel
theorem dX1_relaxLinks_47 : decode cX1_relaxLinks 47 = .ok (.iadd, 1) := by decide +kernel
theorem dX1_relaxLinks_48 : decode cX1_relaxLinks 48 = .ok (.invokestatic 57, 3) := by decide +kernel
theorem dX1_relaxLinks_51 : decode cX1_relaxLinks 51 = .ok (.iastore, 1) := by decide +kernel
theorem dX1_relaxLinks_52 : decode cX1_relaxLinks 52 = .ok (.iinc 2 1, 3) := by decide +kernel
theorem dX1_relaxLinks_55 : decode cX1_relaxLinks 55 = .ok (.goto (-43), 3) := by decide +kernel
theorem dX1_relaxLinks_58 : decode cX1_relaxLinks 58 = .ok (.iinc 1 1, 3) := by decide +kernel
theorem dX1_relaxLinks_61 : decode cX1_relaxLinks 61 = .ok (.goto (-59), 3) := by decide +kernel
theorem dX1_relaxLinks_64 : decode cX1_relaxLinks 64 = .ok (.return_, 1) := by decide +kernel
theorem dX2_init_0 : decode cX2_init 0 = .ok (.aload_n 0, 1) := by decide +kernel
theorem dX2_init_1 : decode cX2_init 1 = .ok (.invokespecial 3, 3) := by decide +kernel
theorem dX2_init_4 : decode cX2_init 4 = .ok (.aload_n 0, 1) := by decide +kernel
theorem dX2_init_5 : decode cX2_init 5 = .ok (.iconst 0, 1) := by decide +kernel
theorem dX2_init_6 : decode cX2_init 6 = .ok (.putfield 9, 3) := by decide +kernel
theorem dX2_init_9 : decode cX2_init 9 = .ok (.aload_n 0, 1) := by decide +kernel
theorem dX2_init_10 : decode cX2_init 10 = .ok (.iconst 0, 1) := by decide +kernel
theorem dX2_init_11 : decode cX2_init 11 = .ok (.putfield 15, 3) := by decide +kernel
theorem dX2_init_14 : decode cX2_init 14 = .ok (.aload_n 0, 1) := by decide +kernel
theorem dX2_init_15 : decode cX2_init 15 = .ok (.iconst 0, 1) := by decide +kernel
theorem dX2_init_16 : decode cX2_init 16 = .ok (.putfield 18, 3) := by decide +kernel
theorem dX2_init_19 : decode cX2_init 19 = .ok (.aload_n 0, 1) := by decide +kernel
theorem dX2_init_20 : decode cX2_init 20 = .ok (.iconst 0, 1) := by decide +kernel
theorem dX2_init_21 : decode cX2_init 21 = .ok (.putfield 22, 3) := by decide +kernel
theorem dX2_init_24 : decode cX2_init 24 = .ok (.aload_n 0, 1) := by decide +kernel
theorem dX2_init_25 : decode cX2_init 25 = .ok (.iconst 0, 1) := by decide +kernel
theorem dX2_init_26 : decode cX2_init 26 = .ok (.putfield 25, 3) := by decide +kernel
theorem dX2_init_29 : decode cX2_init 29 = .ok (.aload_n 0, 1) := by decide +kernel
theorem dX2_init_30 : decode cX2_init 30 = .ok (.bipush 12, 2) := by decide +kernel
theorem dX2_init_32 : decode cX2_init 32 = .ok (.newarray .int, 2) := by decide +kernel
theorem dX2_init_34 : decode cX2_init 34 = .ok (.putfield 28, 3) := by decide +kernel
theorem dX2_init_37 : decode cX2_init 37 = .ok (.return_, 1) := by decide +kernel
theorem dX2_copyFrom_0 : decode cX2_copyFrom 0 = .ok (.aload_n 0, 1) := by decide +kernel
theorem dX2_copyFrom_1 : decode cX2_copyFrom 1 = .ok (.aload_n 1, 1) := by decide +kernel
theorem dX2_copyFrom_2 : decode cX2_copyFrom 2 = .ok (.getfield 9, 3) := by decide +kernel
theorem dX2_copyFrom_5 : decode cX2_copyFrom 5 = .ok (.putfield 9, 3) := by decide +kernel
theorem dX2_copyFrom_8 : decode cX2_copyFrom 8 = .ok (.aload_n 0, 1) := by decide +kernel
theorem dX2_copyFrom_9 : decode cX2_copyFrom 9 = .ok (.aload_n 1, 1) := by decide +kernel
theorem dX2_copyFrom_10 : decode cX2_copyFrom 10 = .ok (.getfield 15, 3) := by decide +kernel
theorem dX2_copyFrom_13 : decode cX2_copyFrom 13 = .ok (.putfield 15, 3) := by decide +kernel
theorem dX2_copyFrom_16 : decode cX2_copyFrom 16 = .ok (.aload_n 0, 1) := by decide +kernel
theorem dX2_copyFrom_17 : decode cX2_copyFrom 17 = .ok (.aload_n 1, 1) := by decide +kernel
theorem dX2_copyFrom_18 : decode cX2_copyFrom 18 = .ok (.getfield 18, 3) := by decide +kernel
theorem dX2_copyFrom_21 : decode cX2_copyFrom 21 = .ok (.putfield 18, 3) := by decide +kernel
theorem dX2_copyFrom_24 : decode cX2_copyFrom 24 = .ok (.aload_n 0, 1) := by decide +kernel
theorem dX2_copyFrom_25 : decode cX2_copyFrom 25 = .ok (.aload_n 1, 1) := by decide +kernel
theorem dX2_copyFrom_26 : decode cX2_copyFrom 26 = .ok (.getfield 22, 3) := by decide +kernel
theorem dX2_copyFrom_29 : decode cX2_copyFrom 29 = .ok (.putfield 22, 3) := by decide +kernel
theorem dX2_copyFrom_32 : decode cX2_copyFrom 32 = .ok (.aload_n 0, 1) := by decide +kernel
theorem dX2_copyFrom_33 : decode cX2_copyFrom 33 = .ok (.aload_n 1, 1) := by decide +kernel
theorem dX2_copyFrom_34 : decode cX2_copyFrom 34 = .ok (.getfield 25, 3) := by decide +kernel
theorem dX2_copyFrom_37 : decode cX2_copyFrom 37 = .ok (.putfield 25, 3) := by decide +kernel
theorem dX2_copyFrom_40 : decode cX2_copyFrom 40 = .ok (.aload_n 1, 1) := by decide +kernel
theorem dX2_copyFrom_41 : decode cX2_copyFrom 41 = .ok (.getfield 28, 3) := by decide +kernel
theorem dX2_copyFrom_44 : decode cX2_copyFrom 44 = .ok (.iconst 0, 1) := by decide +kernel
theorem dX2_copyFrom_45 : decode cX2_copyFrom 45 = .ok (.aload_n 0, 1) := by decide +kernel
theorem dX2_copyFrom_46 : decode cX2_copyFrom 46 = .ok (.getfield 28, 3) := by decide +kernel
theorem dX2_copyFrom_49 : decode cX2_copyFrom 49 = .ok (.iconst 0, 1) := by decide +kernel
theorem dX2_copyFrom_50 : decode cX2_copyFrom 50 = .ok (.bipush 12, 2) := by decide +kernel
theorem dX2_copyFrom_52 : decode cX2_copyFrom 52 = .ok (.invokestatic 32, 3) := by decide +kernel
theorem dX2_copyFrom_55 : decode cX2_copyFrom 55 = .ok (.return_, 1) := by decide +kernel
theorem dX2_comeUp_0 : decode cX2_comeUp 0 = .ok (.aload_n 0, 1) := by decide +kernel
theorem dX2_comeUp_1 : decode cX2_comeUp 1 = .ok (.iload_n 1, 1) := by decide +kernel
theorem dX2_comeUp_2 : decode cX2_comeUp 2 = .ok (.putfield 9, 3) := by decide +kernel
theorem dX2_comeUp_5 : decode cX2_comeUp 5 = .ok (.aload_n 0, 1) := by decide +kernel
theorem dX2_comeUp_6 : decode cX2_comeUp 6 = .ok (.iload_n 2, 1) := by decide +kernel
theorem dX2_comeUp_7 : decode cX2_comeUp 7 = .ok (.putfield 15, 3) := by decide +kernel
theorem dX2_comeUp_10 : decode cX2_comeUp 10 = .ok (.aload_n 0, 1) := by decide +kernel
theorem dX2_comeUp_11 : decode cX2_comeUp 11 = .ok (.iconst 1, 1) := by decide +kernel
theorem dX2_comeUp_12 : decode cX2_comeUp 12 = .ok (.putfield 18, 3) := by decide +kernel
theorem dX2_comeUp_15 : decode cX2_comeUp 15 = .ok (.aload_n 0, 1) := by decide +kernel
theorem dX2_comeUp_16 : decode cX2_comeUp 16 = .ok (.iconst 1, 1) := by decide +kernel
theorem dX2_comeUp_17 : decode cX2_comeUp 17 = .ok (.iload_n 1, 1) := by decide +kernel
theorem dX2_comeUp_18 : decode cX2_comeUp 18 = .ok (.ishl, 1) := by decide +kernel
theorem dX2_comeUp_19 : decode cX2_comeUp 19 = .ok (.putfield 22, 3) := by decide +kernel
theorem dX2_comeUp_22 : decode cX2_comeUp 22 = .ok (.aload_n 0, 1) := by decide +kernel
theorem dX2_comeUp_23 : decode cX2_comeUp 23 = .ok (.iconst 0, 1) := by decide +kernel
theorem dX2_comeUp_24 : decode cX2_comeUp 24 = .ok (.putfield 25, 3) := by decide +kernel
theorem dX2_comeUp_27 : decode cX2_comeUp 27 = .ok (.aload_n 0, 1) := by decide +kernel
theorem dX2_comeUp_28 : decode cX2_comeUp 28 = .ok (.getfield 28, 3) := by decide +kernel
theorem dX2_comeUp_31 : decode cX2_comeUp 31 = .ok (.iload_n 1, 1) := by decide +kernel
theorem dX2_comeUp_32 : decode cX2_comeUp 32 = .ok (.iload_n 3, 1) := by decide +kernel
theorem dX2_comeUp_33 : decode cX2_comeUp 33 = .ok (.iastore, 1) := by decide +kernel
theorem dX2_comeUp_34 : decode cX2_comeUp 34 = .ok (.return_, 1) := by decide +kernel
theorem dX2_aware_0 : decode cX2_aware 0 = .ok (.aload_n 0, 1) := by decide +kernel
theorem dX2_aware_1 : decode cX2_aware 1 = .ok (.getfield 22, 3) := by decide +kernel
theorem dX2_aware_4 : decode cX2_aware 4 = .ok (.aload_n 0, 1) := by decide +kernel
theorem dX2_aware_5 : decode cX2_aware 5 = .ok (.getfield 25, 3) := by decide +kernel
theorem dX2_aware_8 : decode cX2_aware 8 = .ok (.ior, 1) := by decide +kernel
theorem dX2_aware_9 : decode cX2_aware 9 = .ok (.ireturn, 1) := by decide +kernel
theorem dX2_silence_0 : decode cX2_silence 0 = .ok (.aload_n 0, 1) := by decide +kernel
theorem dX2_silence_1 : decode cX2_silence 1 = .ok (.iconst 0, 1) := by decide +kernel
theorem dX2_silence_2 : decode cX2_silence 2 = .ok (.putfield 18, 3) := by decide +kernel
theorem dX2_silence_5 : decode cX2_silence 5 = .ok (.aload_n 0, 1) := by decide +kernel
theorem dX2_silence_6 : decode cX2_silence 6 = .ok (.getfield 22, 3) := by decide +kernel
theorem dX2_silence_9 : decode cX2_silence 9 = .ok (.invokestatic 38, 3) := by decide +kernel
theorem dX2_silence_12 : decode cX2_silence 12 = .ok (.ireturn, 1) := by decide +kernel
theorem dX2_revive_0 : decode cX2_revive 0 = .ok (.aload_n 0, 1) := by decide +kernel
theorem dX2_revive_1 : decode cX2_revive 1 = .ok (.getfield 15, 3) := by decide +kernel
theorem dX2_revive_4 : decode cX2_revive 4 = .ok (.istore_n 2, 1) := by decide +kernel
theorem dX2_revive_5 : decode cX2_revive 5 = .ok (.aload_n 0, 1) := by decide +kernel
theorem dX2_revive_6 : decode cX2_revive 6 = .ok (.iconst 1, 1) := by decide +kernel
theorem dX2_revive_7 : decode cX2_revive 7 = .ok (.putfield 18, 3) := by decide +kernel
theorem dX2_revive_10 : decode cX2_revive 10 = .ok (.aload_n 0, 1) := by decide +kernel
theorem dX2_revive_11 : decode cX2_revive 11 = .ok (.iload_n 1, 1) := by decide +kernel
theorem dX2_revive_12 : decode cX2_revive 12 = .ok (.putfield 15, 3) := by decide +kernel
theorem dX2_revive_15 : decode cX2_revive 15 = .ok (.iload_n 2, 1) := by decide +kernel
theorem dX2_revive_16 : decode cX2_revive 16 = .ok (.ireturn, 1) := by decide +kernel
theorem dX2_weaken_0 : decode cX2_weaken 0 = .ok (.aload_n 0, 1) := by decide +kernel
theorem dX2_weaken_1 : decode cX2_weaken 1 = .ok (.iconst 0, 1) := by decide +kernel
theorem dX2_weaken_2 : decode cX2_weaken 2 = .ok (.aload_n 0, 1) := by decide +kernel
theorem dX2_weaken_3 : decode cX2_weaken 3 = .ok (.getfield 15, 3) := by decide +kernel
theorem dX2_weaken_6 : decode cX2_weaken 6 = .ok (.iconst 1, 1) := by decide +kernel
theorem dX2_weaken_7 : decode cX2_weaken 7 = .ok (.isub, 1) := by decide +kernel
theorem dX2_weaken_8 : decode cX2_weaken 8 = .ok (.invokestatic 44, 3) := by decide +kernel
theorem dX2_weaken_11 : decode cX2_weaken 11 = .ok (.putfield 15, 3) := by decide +kernel
theorem dX2_weaken_14 : decode cX2_weaken 14 = .ok (.return_, 1) := by decide +kernel
theorem dX2_signOf_0 : decode cX2_signOf 0 = .ok (.aload_n 0, 1) := by decide +kernel
theorem dX2_signOf_1 : decode cX2_signOf 1 = .ok (.getfield 22, 3) := by decide +kernel
theorem dX2_signOf_4 : decode cX2_signOf 4 = .ok (.iload_n 1, 1) := by decide +kernel
theorem dX2_signOf_5 : decode cX2_signOf 5 = .ok (.invokestatic 50, 3) := by decide +kernel
theorem dX2_signOf_8 : decode cX2_signOf 8 = .ok (.ifCond .eq 6, 3) := by decide +kernel
theorem dX2_signOf_11 : decode cX2_signOf 11 = .ok (.bipush 43, 2) := by decide +kernel
theorem dX2_signOf_13 : decode cX2_signOf 13 = .ok (.ireturn, 1) := by decide +kernel
theorem dX2_signOf_14 : decode cX2_signOf 14 = .ok (.aload_n 0, 1) := by decide +kernel
theorem dX2_signOf_15 : decode cX2_signOf 15 = .ok (.getfield 25, 3) := by decide +kernel
theorem dX2_signOf_18 : decode cX2_signOf 18 = .ok (.iload_n 1, 1) := by decide +kernel
theorem dX2_signOf_19 : decode cX2_signOf 19 = .ok (.invokestatic 50, 3) := by decide +kernel
theorem dX2_signOf_22 : decode cX2_signOf 22 = .ok (.ifCond .eq 8, 3) := by decide +kernel
theorem dX2_signOf_25 : decode cX2_signOf 25 = .ok (.bipush 45, 2) := by decide +kernel
theorem dX2_signOf_27 : decode cX2_signOf 27 = .ok (.goto 5, 3) := by decide +kernel
theorem dX2_signOf_30 : decode cX2_signOf 30 = .ok (.bipush 46, 2) := by decide +kernel
theorem dX2_signOf_32 : decode cX2_signOf 32 = .ok (.ireturn, 1) := by decide +kernel
theorem dX3_init_0 : decode cX3_init 0 = .ok (.aload_n 0, 1) := by decide +kernel
theorem dX3_init_1 : decode cX3_init 1 = .ok (.invokespecial 3, 3) := by decide +kernel
theorem dX3_init_4 : decode cX3_init 4 = .ok (.aload_n 0, 1) := by decide +kernel
theorem dX3_init_5 : decode cX3_init 5 = .ok (.new 9, 3) := by decide +kernel
theorem dX3_init_8 : decode cX3_init 8 = .ok (.dup, 1) := by decide +kernel
theorem dX3_init_9 : decode cX3_init 9 = .ok (.invokespecial 11, 3) := by decide +kernel
theorem dX3_init_12 : decode cX3_init 12 = .ok (.putfield 12, 3) := by decide +kernel
theorem dX3_init_15 : decode cX3_init 15 = .ok (.aload_n 0, 1) := by decide +kernel
theorem dX3_init_16 : decode cX3_init 16 = .ok (.bipush 12, 2) := by decide +kernel
theorem dX3_init_18 : decode cX3_init 18 = .ok (.newarray .int, 2) := by decide +kernel
theorem dX3_init_20 : decode cX3_init 20 = .ok (.putfield 18, 3) := by decide +kernel
theorem dX3_init_23 : decode cX3_init 23 = .ok (.aload_n 0, 1) := by decide +kernel
theorem dX3_init_24 : decode cX3_init 24 = .ok (.bipush 12, 2) := by decide +kernel
theorem dX3_init_26 : decode cX3_init 26 = .ok (.newarray .int, 2) := by decide +kernel
theorem dX3_init_28 : decode cX3_init 28 = .ok (.putfield 22, 3) := by decide +kernel
theorem dX3_init_31 : decode cX3_init 31 = .ok (.aload_n 0, 1) := by decide +kernel
theorem dX3_init_32 : decode cX3_init 32 = .ok (.iconst 4, 1) := by decide +kernel
theorem dX3_init_33 : decode cX3_init 33 = .ok (.anewarray 25, 3) := by decide +kernel
theorem dX3_init_36 : decode cX3_init 36 = .ok (.putfield 27, 3) := by decide +kernel
theorem dX3_init_39 : decode cX3_init 39 = .ok (.aload_n 0, 1) := by decide +kernel
theorem dX3_init_40 : decode cX3_init 40 = .ok (.iconst 0, 1) := by decide +kernel
theorem dX3_init_41 : decode cX3_init 41 = .ok (.putfield 31, 3) := by decide +kernel
theorem dX3_init_44 : decode cX3_init 44 = .ok (.aload_n 0, 1) := by decide +kernel
theorem dX3_init_45 : decode cX3_init 45 = .ok (.iconst 0, 1) := by decide +kernel
theorem dX3_init_46 : decode cX3_init 46 = .ok (.putfield 35, 3) := by decide +kernel
theorem dX3_init_49 : decode cX3_init 49 = .ok (.aload_n 0, 1) := by decide +kernel
theorem dX3_init_50 : decode cX3_init 50 = .ok (.iconst 0, 1) := by decide +kernel
theorem dX3_init_51 : decode cX3_init 51 = .ok (.putfield 38, 3) := by decide +kernel
theorem dX3_init_54 : decode cX3_init 54 = .ok (.aload_n 0, 1) := by decide +kernel
theorem dX3_init_55 : decode cX3_init 55 = .ok (.iconst 0, 1) := by decide +kernel
theorem dX3_init_56 : decode cX3_init 56 = .ok (.putfield 41, 3) := by decide +kernel
theorem dX3_init_59 : decode cX3_init 59 = .ok (.iconst 0, 1) := by decide +kernel
theorem dX3_init_60 : decode cX3_init 60 = .ok (.istore_n 1, 1) := by decide +kernel
theorem dX3_init_61 : decode cX3_init 61 = .ok (.iload_n 1, 1) := by decide +kernel
theorem dX3_init_62 : decode cX3_init 62 = .ok (.iconst 4, 1) := by decide +kernel
theorem dX3_init_63 : decode cX3_init 63 = .ok (.if_icmp .ge 22, 3) := by decide +kernel
theorem dX3_init_66 : decode cX3_init 66 = .ok (.aload_n 0, 1) := by decide +kernel
theorem dX3_init_67 : decode cX3_init 67 = .ok (.getfield 27, 3) := by decide +kernel
theorem dX3_init_70 : decode cX3_init 70 = .ok (.iload_n 1, 1) := by decide +kernel
theorem dX3_init_71 : decode cX3_init 71 = .ok (.new 25, 3) := by decide +kernel
theorem dX3_init_74 : decode cX3_init 74 = .ok (.dup, 1) := by decide +kernel
theorem dX3_init_75 : decode cX3_init 75 = .ok (.invokespecial 44, 3) := by decide +kernel
theorem dX3_init_78 : decode cX3_init 78 = .ok (.aastore, 1) := by decide +kernel
theorem dX3_init_79 : decode cX3_init 79 = .ok (.iinc 1 1, 3) := by decide +kernel
theorem dX3_init_82 : decode cX3_init 82 = .ok (.goto (-21), 3) := by decide +kernel
theorem dX3_init_85 : decode cX3_init 85 = .ok (.return_, 1) := by decide +kernel
theorem dX3_copyFrom_0 : decode cX3_copyFrom 0 = .ok (.aload_n 0, 1) := by decide +kernel
theorem dX3_copyFrom_1 : decode cX3_copyFrom 1 = .ok (.getfield 12, 3) := by decide +kernel
theorem dX3_copyFrom_4 : decode cX3_copyFrom 4 = .ok (.aload_n 1, 1) := by decide +kernel
theorem dX3_copyFrom_5 : decode cX3_copyFrom 5 = .ok (.getfield 12, 3) := by decide +kernel
theorem dX3_copyFrom_8 : decode cX3_copyFrom 8 = .ok (.invokevirtual 45, 3) := by decide +kernel
theorem dX3_copyFrom_11 : decode cX3_copyFrom 11 = .ok (.aload_n 1, 1) := by decide +kernel
theorem dX3_copyFrom_12 : decode cX3_copyFrom 12 = .ok (.getfield 18, 3) := by decide +kernel
theorem dX3_copyFrom_15 : decode cX3_copyFrom 15 = .ok (.iconst 0, 1) := by decide +kernel
theorem dX3_copyFrom_16 : decode cX3_copyFrom 16 = .ok (.aload_n 0, 1) := by decide +kernel
theorem dX3_copyFrom_17 : decode cX3_copyFrom 17 = .ok (.getfield 18, 3) := by decide +kernel
theorem dX3_copyFrom_20 : decode cX3_copyFrom 20 = .ok (.iconst 0, 1) := by decide +kernel
theorem dX3_copyFrom_21 : decode cX3_copyFrom 21 = .ok (.bipush 12, 2) := by decide +kernel
theorem dX3_copyFrom_23 : decode cX3_copyFrom 23 = .ok (.invokestatic 49, 3) := by decide +kernel
theorem dX3_copyFrom_26 : decode cX3_copyFrom 26 = .ok (.aload_n 1, 1) := by decide +kernel
theorem dX3_copyFrom_27 : decode cX3_copyFrom 27 = .ok (.getfield 22, 3) := by decide +kernel
theorem dX3_copyFrom_30 : decode cX3_copyFrom 30 = .ok (.iconst 0, 1) := by decide +kernel
theorem dX3_copyFrom_31 : decode cX3_copyFrom 31 = .ok (.aload_n 0, 1) := by decide +kernel
theorem dX3_copyFrom_32 : decode cX3_copyFrom 32 = .ok (.getfield 22, 3) := by decide +kernel
theorem dX3_copyFrom_35 : decode cX3_copyFrom 35 = .ok (.iconst 0, 1) := by decide +kernel
theorem dX3_copyFrom_36 : decode cX3_copyFrom 36 = .ok (.bipush 12, 2) := by decide +kernel
theorem dX3_copyFrom_38 : decode cX3_copyFrom 38 = .ok (.invokestatic 49, 3) := by decide +kernel
theorem dX3_copyFrom_41 : decode cX3_copyFrom 41 = .ok (.iconst 0, 1) := by decide +kernel
theorem dX3_copyFrom_42 : decode cX3_copyFrom 42 = .ok (.istore_n 2, 1) := by decide +kernel
theorem dX3_copyFrom_43 : decode cX3_copyFrom 43 = .ok (.iload_n 2, 1) := by decide +kernel
theorem dX3_copyFrom_44 : decode cX3_copyFrom 44 = .ok (.iconst 4, 1) := by decide +kernel
theorem dX3_copyFrom_45 : decode cX3_copyFrom 45 = .ok (.if_icmp .ge 24, 3) := by decide +kernel
theorem dX3_copyFrom_48 : decode cX3_copyFrom 48 = .ok (.aload_n 0, 1) := by decide +kernel
theorem dX3_copyFrom_49 : decode cX3_copyFrom 49 = .ok (.getfield 27, 3) := by decide +kernel
theorem dX3_copyFrom_52 : decode cX3_copyFrom 52 = .ok (.iload_n 2, 1) := by decide +kernel
theorem dX3_copyFrom_53 : decode cX3_copyFrom 53 = .ok (.aaload, 1) := by decide +kernel
theorem dX3_copyFrom_54 : decode cX3_copyFrom 54 = .ok (.aload_n 1, 1) := by decide +kernel
theorem dX3_copyFrom_55 : decode cX3_copyFrom 55 = .ok (.getfield 27, 3) := by decide +kernel
theorem dX3_copyFrom_58 : decode cX3_copyFrom 58 = .ok (.iload_n 2, 1) := by decide +kernel
theorem dX3_copyFrom_59 : decode cX3_copyFrom 59 = .ok (.aaload, 1) := by decide +kernel
theorem dX3_copyFrom_60 : decode cX3_copyFrom 60 = .ok (.invokevirtual 55, 3) := by decide +kernel
theorem dX3_copyFrom_63 : decode cX3_copyFrom 63 = .ok (.iinc 2 1, 3) := by decide +kernel
theorem dX3_copyFrom_66 : decode cX3_copyFrom 66 = .ok (.goto (-23), 3) := by decide +kernel
theorem dX3_copyFrom_69 : decode cX3_copyFrom 69 = .ok (.aload_n 0, 1) := by decide +kernel
theorem dX3_copyFrom_70 : decode cX3_copyFrom 70 = .ok (.aload_n 1, 1) := by decide +kernel
theorem dX3_copyFrom_71 : decode cX3_copyFrom 71 = .ok (.getfield 31, 3) := by decide +kernel
theorem dX3_copyFrom_74 : decode cX3_copyFrom 74 = .ok (.putfield 31, 3) := by decide +kernel
theorem dX3_copyFrom_77 : decode cX3_copyFrom 77 = .ok (.aload_n 0, 1) := by decide +kernel
theorem dX3_copyFrom_78 : decode cX3_copyFrom 78 = .ok (.aload_n 1, 1) := by decide +kernel
theorem dX3_copyFrom_79 : decode cX3_copyFrom 79 = .ok (.getfield 35, 3) := by decide +kernel
theorem dX3_copyFrom_82 : decode cX3_copyFrom 82 = .ok (.putfield 35, 3) := by decide +kernel
theorem dX3_copyFrom_85 : decode cX3_copyFrom 85 = .ok (.aload_n 0, 1) := by decide +kernel
theorem dX3_copyFrom_86 : decode cX3_copyFrom 86 = .ok (.aload_n 1, 1) := by decide +kernel
theorem dX3_copyFrom_87 : decode cX3_copyFrom 87 = .ok (.getfield 38, 3) := by decide +kernel
theorem dX3_copyFrom_90 : decode cX3_copyFrom 90 = .ok (.putfield 38, 3) := by decide +kernel
theorem dX3_copyFrom_93 : decode cX3_copyFrom 93 = .ok (.aload_n 0, 1) := by decide +kernel
theorem dX3_copyFrom_94 : decode cX3_copyFrom 94 = .ok (.aload_n 1, 1) := by decide +kernel
theorem dX3_copyFrom_95 : decode cX3_copyFrom 95 = .ok (.getfield 41, 3) := by decide +kernel
theorem dX3_copyFrom_98 : decode cX3_copyFrom 98 = .ok (.putfield 41, 3) := by decide +kernel
theorem dX3_copyFrom_101 : decode cX3_copyFrom 101 = .ok (.return_, 1) := by decide +kernel
theorem dX3_hasListener_0 : decode cX3_hasListener 0 = .ok (.iload_n 1, 1) := by decide +kernel
theorem dX3_hasListener_1 : decode cX3_hasListener 1 = .ok (.ifCond .lt 18, 3) := by decide +kernel
theorem dX3_hasListener_4 : decode cX3_hasListener 4 = .ok (.iload_n 1, 1) := by decide +kernel
theorem dX3_hasListener_5 : decode cX3_hasListener 5 = .ok (.aload_n 0, 1) := by decide +kernel
theorem dX3_hasListener_6 : decode cX3_hasListener 6 = .ok (.getfield 12, 3) := by decide +kernel
theorem dX3_hasListener_9 : decode cX3_hasListener 9 = .ok (.getfield 58, 3) := by decide +kernel
theorem dX3_hasListener_12 : decode cX3_hasListener 12 = .ok (.if_icmp .ge 7, 3) := by decide +kernel
theorem dX3_hasListener_15 : decode cX3_hasListener 15 = .ok (.iconst 1, 1) := by decide +kernel
theorem dX3_hasListener_16 : decode cX3_hasListener 16 = .ok (.goto 4, 3) := by decide +kernel
theorem dX3_hasListener_19 : decode cX3_hasListener 19 = .ok (.iconst 0, 1) := by decide +kernel
theorem dX3_hasListener_20 : decode cX3_hasListener 20 = .ok (.ireturn, 1) := by decide +kernel
theorem dX3_hasRumour_0 : decode cX3_hasRumour 0 = .ok (.iload_n 1, 1) := by decide +kernel
theorem dX3_hasRumour_1 : decode cX3_hasRumour 1 = .ok (.ifCond .lt 15, 3) := by decide +kernel
theorem dX3_hasRumour_4 : decode cX3_hasRumour 4 = .ok (.iload_n 1, 1) := by decide +kernel
theorem dX3_hasRumour_5 : decode cX3_hasRumour 5 = .ok (.aload_n 0, 1) := by decide +kernel
theorem dX3_hasRumour_6 : decode cX3_hasRumour 6 = .ok (.getfield 31, 3) := by decide +kernel
theorem dX3_hasRumour_9 : decode cX3_hasRumour 9 = .ok (.if_icmp .ge 7, 3) := by decide +kernel
theorem dX3_hasRumour_12 : decode cX3_hasRumour 12 = .ok (.iconst 1, 1) := by decide +kernel
theorem dX3_hasRumour_13 : decode cX3_hasRumour 13 = .ok (.goto 4, 3) := by decide +kernel
theorem dX3_hasRumour_16 : decode cX3_hasRumour 16 = .ok (.iconst 0, 1) := by decide +kernel
theorem dX3_hasRumour_17 : decode cX3_hasRumour 17 = .ok (.ireturn, 1) := by decide +kernel
theorem dX3_refusalToAdd_0 : decode cX3_refusalToAdd 0 = .ok (.iload_n 1, 1) := by decide +kernel
theorem dX3_refusalToAdd_1 : decode cX3_refusalToAdd 1 = .ok (.invokestatic 61, 3) := by decide +kernel
theorem dX3_refusalToAdd_4 : decode cX3_refusalToAdd 4 = .ok (.ifCond .eq 10, 3) := by decide +kernel
theorem dX3_refusalToAdd_7 : decode cX3_refusalToAdd 7 = .ok (.iload_n 2, 1) := by decide +kernel
theorem dX3_refusalToAdd_8 : decode cX3_refusalToAdd 8 = .ok (.invokestatic 65, 3) := by decide +kernel
theorem dX3_refusalToAdd_11 : decode cX3_refusalToAdd 11 = .ok (.ifCond .ne 5, 3) := by decide +kernel
theorem dX3_refusalToAdd_14 : decode cX3_refusalToAdd 14 = .ok (.iconst 2, 1) := by decide +kernel
theorem dX3_refusalToAdd_15 : decode cX3_refusalToAdd 15 = .ok (.ireturn, 1) := by decide +kernel
theorem dX3_refusalToAdd_16 : decode cX3_refusalToAdd 16 = .ok (.aload_n 0, 1) := by decide +kernel
theorem dX3_refusalToAdd_17 : decode cX3_refusalToAdd 17 = .ok (.getfield 12, 3) := by decide +kernel
theorem dX3_refusalToAdd_20 : decode cX3_refusalToAdd 20 = .ok (.getfield 58, 3) := by decide +kernel
theorem dX3_refusalToAdd_23 : decode cX3_refusalToAdd 23 = .ok (.bipush 12, 2) := by decide +kernel
theorem dX3_refusalToAdd_25 : decode cX3_refusalToAdd 25 = .ok (.if_icmp .ge 7, 3) := by decide +kernel
theorem dX3_refusalToAdd_28 : decode cX3_refusalToAdd 28 = .ok (.iconst 0, 1) := by decide +kernel
theorem dX3_refusalToAdd_29 : decode cX3_refusalToAdd 29 = .ok (.goto 4, 3) := by decide +kernel
theorem dX3_refusalToAdd_32 : decode cX3_refusalToAdd 32 = .ok (.iconst 3, 1) := by decide +kernel
theorem dX3_refusalToAdd_33 : decode cX3_refusalToAdd 33 = .ok (.ireturn, 1) := by decide +kernel
theorem dX3_add_0 : decode cX3_add 0 = .ok (.aload_n 0, 1) := by decide +kernel
theorem dX3_add_1 : decode cX3_add 1 = .ok (.getfield 12, 3) := by decide +kernel
theorem dX3_add_4 : decode cX3_add 4 = .ok (.getfield 58, 3) := by decide +kernel
theorem dX3_add_7 : decode cX3_add 7 = .ok (.istore_n 3, 1) := by decide +kernel
theorem dX3_add_8 : decode cX3_add 8 = .ok (.aload_n 0, 1) := by decide +kernel
theorem dX3_add_9 : decode cX3_add 9 = .ok (.getfield 18, 3) := by decide +kernel
theorem dX3_add_12 : decode cX3_add 12 = .ok (.iload_n 3, 1) := by decide +kernel
theorem dX3_add_13 : decode cX3_add 13 = .ok (.iload_n 1, 1) := by decide +kernel
theorem dX3_add_14 : decode cX3_add 14 = .ok (.iastore, 1) := by decide +kernel
theorem dX3_add_15 : decode cX3_add 15 = .ok (.aload_n 0, 1) := by decide +kernel
theorem dX3_add_16 : decode cX3_add 16 = .ok (.getfield 22, 3) := by decide +kernel
theorem dX3_add_19 : decode cX3_add 19 = .ok (.iload_n 3, 1) := by decide +kernel
theorem dX3_add_20 : decode cX3_add 20 = .ok (.iload_n 2, 1) := by decide +kernel
theorem dX3_add_21 : decode cX3_add 21 = .ok (.iastore, 1) := by decide +kernel
theorem dX3_add_22 : decode cX3_add 22 = .ok (.aload_n 0, 1) := by decide +kernel
theorem dX3_add_23 : decode cX3_add 23 = .ok (.getfield 12, 3) := by decide +kernel
theorem dX3_add_26 : decode cX3_add 26 = .ok (.dup, 1) := by decide +kernel
theorem dX3_add_27 : decode cX3_add 27 = .ok (.getfield 58, 3) := by decide +kernel
theorem dX3_add_30 : decode cX3_add 30 = .ok (.iconst 1, 1) := by decide +kernel
theorem dX3_add_31 : decode cX3_add 31 = .ok (.iadd, 1) := by decide +kernel
theorem dX3_add_32 : decode cX3_add 32 = .ok (.putfield 58, 3) := by decide +kernel
theorem dX3_add_35 : decode cX3_add 35 = .ok (.iload_n 3, 1) := by decide +kernel
theorem dX3_add_36 : decode cX3_add 36 = .ok (.ireturn, 1) := by decide +kernel
theorem dX3_refusalToJoin_0 : decode cX3_refusalToJoin 0 = .ok (.aload_n 0, 1) := by decide +kernel
theorem dX3_refusalToJoin_1 : decode cX3_refusalToJoin 1 = .ok (.iload_n 1, 1) := by decide +kernel
theorem dX3_refusalToJoin_2 : decode cX3_refusalToJoin 2 = .ok (.invokevirtual 68, 3) := by decide +kernel
theorem dX3_refusalToJoin_5 : decode cX3_refusalToJoin 5 = .ok (.ifCond .eq 11, 3) := by decide +kernel
theorem dX3_refusalToJoin_8 : decode cX3_refusalToJoin 8 = .ok (.aload_n 0, 1) := by decide +kernel
theorem dX3_refusalToJoin_9 : decode cX3_refusalToJoin 9 = .ok (.iload_n 2, 1) := by decide +kernel
theorem dX3_refusalToJoin_10 : decode cX3_refusalToJoin 10 = .ok (.invokevirtual 68, 3) := by decide +kernel
theorem dX3_refusalToJoin_13 : decode cX3_refusalToJoin 13 = .ok (.ifCond .ne 5, 3) := by decide +kernel
theorem dX3_refusalToJoin_16 : decode cX3_refusalToJoin 16 = .ok (.iconst 1, 1) := by decide +kernel
theorem dX3_refusalToJoin_17 : decode cX3_refusalToJoin 17 = .ok (.ireturn, 1) := by decide +kernel
theorem dX3_refusalToJoin_18 : decode cX3_refusalToJoin 18 = .ok (.iload_n 1, 1) := by decide +kernel
theorem dX3_refusalToJoin_19 : decode cX3_refusalToJoin 19 = .ok (.iload_n 2, 1) := by decide +kernel
theorem dX3_refusalToJoin_20 : decode cX3_refusalToJoin 20 = .ok (.if_icmp .ne 5, 3) := by decide +kernel
theorem dX3_refusalToJoin_23 : decode cX3_refusalToJoin 23 = .ok (.iconst 2, 1) := by decide +kernel
theorem dX3_refusalToJoin_24 : decode cX3_refusalToJoin 24 = .ok (.ireturn, 1) := by decide +kernel
theorem dX3_refusalToJoin_25 : decode cX3_refusalToJoin 25 = .ok (.aload_n 0, 1) := by decide +kernel
theorem dX3_refusalToJoin_26 : decode cX3_refusalToJoin 26 = .ok (.getfield 12, 3) := by decide +kernel
theorem dX3_refusalToJoin_29 : decode cX3_refusalToJoin 29 = .ok (.iload_n 1, 1) := by decide +kernel
theorem dX3_refusalToJoin_30 : decode cX3_refusalToJoin 30 = .ok (.iload_n 2, 1) := by decide +kernel
theorem dX3_refusalToJoin_31 : decode cX3_refusalToJoin 31 = .ok (.invokevirtual 71, 3) := by decide +kernel
theorem dX3_refusalToJoin_34 : decode cX3_refusalToJoin 34 = .ok (.ifCond .eq 7, 3) := by decide +kernel
theorem dX3_refusalToJoin_37 : decode cX3_refusalToJoin 37 = .ok (.iconst 3, 1) := by decide +kernel
theorem dX3_refusalToJoin_38 : decode cX3_refusalToJoin 38 = .ok (.goto 4, 3) := by decide +kernel
theorem dX3_refusalToJoin_41 : decode cX3_refusalToJoin 41 = .ok (.iconst 0, 1) := by decide +kernel
theorem dX3_refusalToJoin_42 : decode cX3_refusalToJoin 42 = .ok (.ireturn, 1) := by decide +kernel
theorem dX3_refusalToCut_0 : decode cX3_refusalToCut 0 = .ok (.aload_n 0, 1) := by decide +kernel
theorem dX3_refusalToCut_1 : decode cX3_refusalToCut 1 = .ok (.iload_n 1, 1) := by decide +kernel
theorem dX3_refusalToCut_2 : decode cX3_refusalToCut 2 = .ok (.invokevirtual 68, 3) := by decide +kernel
theorem dX3_refusalToCut_5 : decode cX3_refusalToCut 5 = .ok (.ifCond .eq 11, 3) := by decide +kernel
theorem dX3_refusalToCut_8 : decode cX3_refusalToCut 8 = .ok (.aload_n 0, 1) := by decide +kernel
theorem dX3_refusalToCut_9 : decode cX3_refusalToCut 9 = .ok (.iload_n 2, 1) := by decide +kernel
theorem dX3_refusalToCut_10 : decode cX3_refusalToCut 10 = .ok (.invokevirtual 68, 3) := by decide +kernel
theorem dX3_refusalToCut_13 : decode cX3_refusalToCut 13 = .ok (.ifCond .ne 5, 3) := by decide +kernel
theorem dX3_refusalToCut_16 : decode cX3_refusalToCut 16 = .ok (.iconst 1, 1) := by decide +kernel
theorem dX3_refusalToCut_17 : decode cX3_refusalToCut 17 = .ok (.ireturn, 1) := by decide +kernel
theorem dX3_refusalToCut_18 : decode cX3_refusalToCut 18 = .ok (.aload_n 0, 1) := by decide +kernel
theorem dX3_refusalToCut_19 : decode cX3_refusalToCut 19 = .ok (.getfield 12, 3) := by decide +kernel
theorem dX3_refusalToCut_22 : decode cX3_refusalToCut 22 = .ok (.iload_n 1, 1) := by decide +kernel
theorem dX3_refusalToCut_23 : decode cX3_refusalToCut 23 = .ok (.iload_n 2, 1) := by decide +kernel
theorem dX3_refusalToCut_24 : decode cX3_refusalToCut 24 = .ok (.invokevirtual 71, 3) := by decide +kernel
theorem dX3_refusalToCut_27 : decode cX3_refusalToCut 27 = .ok (.ifCond .eq 7, 3) := by decide +kernel
theorem dX3_refusalToCut_30 : decode cX3_refusalToCut 30 = .ok (.iconst 0, 1) := by decide +kernel
theorem dX3_refusalToCut_31 : decode cX3_refusalToCut 31 = .ok (.goto 4, 3) := by decide +kernel
theorem dX3_refusalToCut_34 : decode cX3_refusalToCut 34 = .ok (.iconst 4, 1) := by decide +kernel
theorem dX3_refusalToCut_35 : decode cX3_refusalToCut 35 = .ok (.ireturn, 1) := by decide +kernel
theorem dX3_refusalToMove_0 : decode cX3_refusalToMove 0 = .ok (.aload_n 0, 1) := by decide +kernel
theorem dX3_refusalToMove_1 : decode cX3_refusalToMove 1 = .ok (.iload_n 1, 1) := by decide +kernel
theorem dX3_refusalToMove_2 : decode cX3_refusalToMove 2 = .ok (.invokevirtual 68, 3) := by decide +kernel
theorem dX3_refusalToMove_5 : decode cX3_refusalToMove 5 = .ok (.ifCond .ne 5, 3) := by decide +kernel
theorem dX3_refusalToMove_8 : decode cX3_refusalToMove 8 = .ok (.iconst 1, 1) := by decide +kernel
theorem dX3_refusalToMove_9 : decode cX3_refusalToMove 9 = .ok (.ireturn, 1) := by decide +kernel
theorem dX3_refusalToMove_10 : decode cX3_refusalToMove 10 = .ok (.iload_n 2, 1) := by decide +kernel
theorem dX3_refusalToMove_11 : decode cX3_refusalToMove 11 = .ok (.invokestatic 61, 3) := by decide +kernel
theorem dX3_refusalToMove_14 : decode cX3_refusalToMove 14 = .ok (.ifCond .ne 5, 3) := by decide +kernel
theorem dX3_refusalToMove_17 : decode cX3_refusalToMove 17 = .ok (.iconst 2, 1) := by decide +kernel
theorem dX3_refusalToMove_18 : decode cX3_refusalToMove 18 = .ok (.ireturn, 1) := by decide +kernel
theorem dX3_refusalToMove_19 : decode cX3_refusalToMove 19 = .ok (.aload_n 0, 1) := by decide +kernel
theorem dX3_refusalToMove_20 : decode cX3_refusalToMove 20 = .ok (.getfield 18, 3) := by decide +kernel
theorem dX3_refusalToMove_23 : decode cX3_refusalToMove 23 = .ok (.iload_n 1, 1) := by decide +kernel
theorem dX3_refusalToMove_24 : decode cX3_refusalToMove 24 = .ok (.iaload, 1) := by decide +kernel
theorem dX3_refusalToMove_25 : decode cX3_refusalToMove 25 = .ok (.iload_n 2, 1) := by decide +kernel
theorem dX3_refusalToMove_26 : decode cX3_refusalToMove 26 = .ok (.if_icmp .ne 7, 3) := by decide +kernel
theorem dX3_refusalToMove_29 : decode cX3_refusalToMove 29 = .ok (.iconst 3, 1) := by decide +kernel
theorem dX3_refusalToMove_30 : decode cX3_refusalToMove 30 = .ok (.goto 4, 3) := by decide +kernel
theorem dX3_refusalToMove_33 : decode cX3_refusalToMove 33 = .ok (.iconst 0, 1) := by decide +kernel
theorem dX3_refusalToMove_34 : decode cX3_refusalToMove 34 = .ok (.ireturn, 1) := by decide +kernel
theorem dX3_move_0 : decode cX3_move 0 = .ok (.aload_n 0, 1) := by decide +kernel
theorem dX3_move_1 : decode cX3_move 1 = .ok (.getfield 18, 3) := by decide +kernel
theorem dX3_move_4 : decode cX3_move 4 = .ok (.iload_n 1, 1) := by decide +kernel
theorem dX3_move_5 : decode cX3_move 5 = .ok (.iaload, 1) := by decide +kernel
theorem dX3_move_6 : decode cX3_move 6 = .ok (.istore_n 3, 1) := by decide +kernel
theorem dX3_move_7 : decode cX3_move 7 = .ok (.aload_n 0, 1) := by decide +kernel
theorem dX3_move_8 : decode cX3_move 8 = .ok (.getfield 18, 3) := by decide +kernel
theorem dX3_move_11 : decode cX3_move 11 = .ok (.iload_n 1, 1) := by decide +kernel
theorem dX3_move_12 : decode cX3_move 12 = .ok (.iload_n 2, 1) := by decide +kernel
theorem dX3_move_13 : decode cX3_move 13 = .ok (.iastore, 1) := by decide +kernel
theorem dX3_move_14 : decode cX3_move 14 = .ok (.iload_n 3, 1) := by decide +kernel
theorem dX3_move_15 : decode cX3_move 15 = .ok (.ireturn, 1) := by decide +kernel
theorem dX3_refusalToStart_0 : decode cX3_refusalToStart 0 = .ok (.aload_n 0, 1) := by decide +kernel
theorem dX3_refusalToStart_1 : decode cX3_refusalToStart 1 = .ok (.iload_n 1, 1) := by decide +kernel
theorem dX3_refusalToStart_2 : decode cX3_refusalToStart 2 = .ok (.invokevirtual 68, 3) := by decide +kernel
theorem dX3_refusalToStart_5 : decode cX3_refusalToStart 5 = .ok (.ifCond .ne 5, 3) := by decide +kernel
theorem dX3_refusalToStart_8 : decode cX3_refusalToStart 8 = .ok (.iconst 1, 1) := by decide +kernel
theorem dX3_refusalToStart_9 : decode cX3_refusalToStart 9 = .ok (.ireturn, 1) := by decide +kernel
theorem dX3_refusalToStart_10 : decode cX3_refusalToStart 10 = .ok (.iload_n 2, 1) := by decide +kernel
theorem dX3_refusalToStart_11 : decode cX3_refusalToStart 11 = .ok (.invokestatic 65, 3) := by decide +kernel
theorem dX3_refusalToStart_14 : decode cX3_refusalToStart 14 = .ok (.ifCond .ne 5, 3) := by decide +kernel
theorem dX3_refusalToStart_17 : decode cX3_refusalToStart 17 = .ok (.iconst 2, 1) := by decide +kernel
theorem dX3_refusalToStart_18 : decode cX3_refusalToStart 18 = .ok (.ireturn, 1) := by decide +kernel
theorem dX3_refusalToStart_19 : decode cX3_refusalToStart 19 = .ok (.aload_n 0, 1) := by decide +kernel
theorem dX3_refusalToStart_20 : decode cX3_refusalToStart 20 = .ok (.getfield 31, 3) := by decide +kernel
theorem dX3_refusalToStart_23 : decode cX3_refusalToStart 23 = .ok (.iconst 4, 1) := by decide +kernel
theorem dX3_refusalToStart_24 : decode cX3_refusalToStart 24 = .ok (.if_icmp .ge 7, 3) := by decide +kernel
theorem dX3_refusalToStart_27 : decode cX3_refusalToStart 27 = .ok (.iconst 0, 1) := by decide +kernel
theorem dX3_refusalToStart_28 : decode cX3_refusalToStart 28 = .ok (.goto 4, 3) := by decide +kernel
theorem dX3_refusalToStart_31 : decode cX3_refusalToStart 31 = .ok (.iconst 3, 1) := by decide +kernel
theorem dX3_refusalToStart_32 : decode cX3_refusalToStart 32 = .ok (.ireturn, 1) := by decide +kernel
theorem dX3_begin_0 : decode cX3_begin 0 = .ok (.aload_n 0, 1) := by decide +kernel
theorem dX3_begin_1 : decode cX3_begin 1 = .ok (.getfield 31, 3) := by decide +kernel
theorem dX3_begin_4 : decode cX3_begin 4 = .ok (.istore_n 3, 1) := by decide +kernel
theorem dX3_begin_5 : decode cX3_begin 5 = .ok (.aload_n 0, 1) := by decide +kernel
theorem dX3_begin_6 : decode cX3_begin 6 = .ok (.getfield 27, 3) := by decide +kernel
theorem dX3_begin_9 : decode cX3_begin 9 = .ok (.iload_n 3, 1) := by decide +kernel
theorem dX3_begin_10 : decode cX3_begin 10 = .ok (.aaload, 1) := by decide +kernel
theorem dX3_begin_11 : decode cX3_begin 11 = .ok (.iload_n 1, 1) := by decide +kernel
theorem dX3_begin_12 : decode cX3_begin 12 = .ok (.iload_n 2, 1) := by decide +kernel
theorem dX3_begin_13 : decode cX3_begin 13 = .ok (.aload_n 0, 1) := by decide +kernel
theorem dX3_begin_14 : decode cX3_begin 14 = .ok (.getfield 35, 3) := by decide +kernel
theorem dX3_begin_17 : decode cX3_begin 17 = .ok (.invokevirtual 75, 3) := by decide +kernel
theorem dX3_begin_20 : decode cX3_begin 20 = .ok (.aload_n 0, 1) := by decide +kernel
theorem dX3_begin_21 : decode cX3_begin 21 = .ok (.dup, 1) := by decide +kernel
theorem dX3_begin_22 : decode cX3_begin 22 = .ok (.getfield 31, 3) := by decide +kernel
theorem dX3_begin_25 : decode cX3_begin 25 = .ok (.iconst 1, 1) := by decide +kernel
theorem dX3_begin_26 : decode cX3_begin 26 = .ok (.iadd, 1) := by decide +kernel
theorem dX3_begin_27 : decode cX3_begin 27 = .ok (.putfield 31, 3) := by decide +kernel
theorem dX3_begin_30 : decode cX3_begin 30 = .ok (.iload_n 3, 1) := by decide +kernel
theorem dX3_begin_31 : decode cX3_begin 31 = .ok (.ireturn, 1) := by decide +kernel
theorem dX3_refusalToConvert_0 : decode cX3_refusalToConvert 0 = .ok (.aload_n 0, 1) := by decide +kernel
theorem dX3_refusalToConvert_1 : decode cX3_refusalToConvert 1 = .ok (.iload_n 1, 1) := by decide +kernel
theorem dX3_refusalToConvert_2 : decode cX3_refusalToConvert 2 = .ok (.invokevirtual 79, 3) := by decide +kernel
theorem dX3_refusalToConvert_5 : decode cX3_refusalToConvert 5 = .ok (.ifCond .eq 11, 3) := by decide +kernel
theorem dX3_refusalToConvert_8 : decode cX3_refusalToConvert 8 = .ok (.aload_n 0, 1) := by decide +kernel
theorem dX3_refusalToConvert_9 : decode cX3_refusalToConvert 9 = .ok (.iload_n 2, 1) := by decide +kernel
theorem dX3_refusalToConvert_10 : decode cX3_refusalToConvert 10 = .ok (.invokevirtual 68, 3) := by decide +kernel
theorem dX3_refusalToConvert_13 : decode cX3_refusalToConvert 13 = .ok (.ifCond .ne 5, 3) := by decide +kernel
theorem dX3_refusalToConvert_16 : decode cX3_refusalToConvert 16 = .ok (.iconst 1, 1) := by decide +kernel
theorem dX3_refusalToConvert_17 : decode cX3_refusalToConvert 17 = .ok (.ireturn, 1) := by decide +kernel
theorem dX3_refusalToConvert_18 : decode cX3_refusalToConvert 18 = .ok (.aload_n 0, 1) := by decide +kernel
theorem dX3_refusalToConvert_19 : decode cX3_refusalToConvert 19 = .ok (.getfield 27, 3) := by decide +kernel
theorem dX3_refusalToConvert_22 : decode cX3_refusalToConvert 22 = .ok (.iload_n 1, 1) := by decide +kernel
theorem dX3_refusalToConvert_23 : decode cX3_refusalToConvert 23 = .ok (.aaload, 1) := by decide +kernel
theorem dX3_refusalToConvert_24 : decode cX3_refusalToConvert 24 = .ok (.getfield 82, 3) := by decide +kernel
theorem dX3_refusalToConvert_27 : decode cX3_refusalToConvert 27 = .ok (.iload_n 2, 1) := by decide +kernel
theorem dX3_refusalToConvert_28 : decode cX3_refusalToConvert 28 = .ok (.invokestatic 85, 3) := by decide +kernel
theorem dX3_refusalToConvert_31 : decode cX3_refusalToConvert 31 = .ok (.ifCond .eq 7, 3) := by decide +kernel
theorem dX3_refusalToConvert_34 : decode cX3_refusalToConvert 34 = .ok (.iconst 0, 1) := by decide +kernel
theorem dX3_refusalToConvert_35 : decode cX3_refusalToConvert 35 = .ok (.goto 4, 3) := by decide +kernel
theorem dX3_refusalToConvert_38 : decode cX3_refusalToConvert 38 = .ok (.iconst 3, 1) := by decide +kernel
theorem dX3_refusalToConvert_39 : decode cX3_refusalToConvert 39 = .ok (.ireturn, 1) := by decide +kernel
theorem dX3_convert_0 : decode cX3_convert 0 = .ok (.aload_n 0, 1) := by decide +kernel
theorem dX3_convert_1 : decode cX3_convert 1 = .ok (.getfield 27, 3) := by decide +kernel
theorem dX3_convert_4 : decode cX3_convert 4 = .ok (.iload_n 1, 1) := by decide +kernel
theorem dX3_convert_5 : decode cX3_convert 5 = .ok (.aaload, 1) := by decide +kernel
theorem dX3_convert_6 : decode cX3_convert 6 = .ok (.astore_n 3, 1) := by decide +kernel
theorem dX3_convert_7 : decode cX3_convert 7 = .ok (.aload_n 0, 1) := by decide +kernel
theorem dX3_convert_8 : decode cX3_convert 8 = .ok (.getfield 22, 3) := by decide +kernel
theorem dX3_convert_11 : decode cX3_convert 11 = .ok (.iload_n 2, 1) := by decide +kernel
theorem dX3_convert_12 : decode cX3_convert 12 = .ok (.iaload, 1) := by decide +kernel
theorem dX3_convert_13 : decode cX3_convert 13 = .ok (.aload_n 3, 1) := by decide +kernel
theorem dX3_convert_14 : decode cX3_convert 14 = .ok (.getfield 88, 3) := by decide +kernel
theorem dX3_convert_17 : decode cX3_convert 17 = .ok (.if_icmp .gt 5, 3) := by decide +kernel
theorem dX3_convert_20 : decode cX3_convert 20 = .ok (.iconst 0, 1) := by decide +kernel
theorem dX3_convert_21 : decode cX3_convert 21 = .ok (.ireturn, 1) := by decide +kernel
theorem dX3_convert_22 : decode cX3_convert 22 = .ok (.aload_n 3, 1) := by decide +kernel
theorem dX3_convert_23 : decode cX3_convert 23 = .ok (.dup, 1) := by decide +kernel
theorem dX3_convert_24 : decode cX3_convert 24 = .ok (.getfield 82, 3) := by decide +kernel
theorem dX3_convert_27 : decode cX3_convert 27 = .ok (.iconst 1, 1) := by decide +kernel
theorem dX3_convert_28 : decode cX3_convert 28 = .ok (.iload_n 2, 1) := by decide +kernel
theorem dX3_convert_29 : decode cX3_convert 29 = .ok (.ishl, 1) := by decide +kernel
theorem dX3_convert_30 : decode cX3_convert 30 = .ok (.iconst (-1), 1) := by decide +kernel
theorem dX3_convert_31 : decode cX3_convert 31 = .ok (.ixor, 1) := by decide +kernel
theorem dX3_convert_32 : decode cX3_convert 32 = .ok (.iand, 1) := by decide +kernel
theorem dX3_convert_33 : decode cX3_convert 33 = .ok (.putfield 82, 3) := by decide +kernel
theorem dX3_convert_36 : decode cX3_convert 36 = .ok (.aload_n 3, 1) := by decide +kernel
theorem dX3_convert_37 : decode cX3_convert 37 = .ok (.dup, 1) := by decide +kernel
theorem dX3_convert_38 : decode cX3_convert 38 = .ok (.getfield 91, 3) := by decide +kernel
theorem dX3_convert_41 : decode cX3_convert 41 = .ok (.iconst 1, 1) := by decide +kernel
theorem dX3_convert_42 : decode cX3_convert 42 = .ok (.iload_n 2, 1) := by decide +kernel
theorem dX3_convert_43 : decode cX3_convert 43 = .ok (.ishl, 1) := by decide +kernel
theorem dX3_convert_44 : decode cX3_convert 44 = .ok (.ior, 1) := by decide +kernel
theorem dX3_convert_45 : decode cX3_convert 45 = .ok (.putfield 91, 3) := by decide +kernel
theorem dX3_convert_48 : decode cX3_convert 48 = .ok (.aload_n 0, 1) := by decide +kernel
theorem dX3_convert_49 : decode cX3_convert 49 = .ok (.dup, 1) := by decide +kernel
theorem dX3_convert_50 : decode cX3_convert 50 = .ok (.getfield 41, 3) := by decide +kernel
theorem dX3_convert_53 : decode cX3_convert 53 = .ok (.iconst 1, 1) := by decide +kernel
theorem dX3_convert_54 : decode cX3_convert 54 = .ok (.iadd, 1) := by decide +kernel
theorem dX3_convert_55 : decode cX3_convert 55 = .ok (.putfield 41, 3) := by decide +kernel
theorem dX3_convert_58 : decode cX3_convert 58 = .ok (.iconst 1, 1) := by decide +kernel
theorem dX3_convert_59 : decode cX3_convert 59 = .ok (.ireturn, 1) := by decide +kernel
theorem dX3_refusalToSilence_0 : decode cX3_refusalToSilence 0 = .ok (.aload_n 0, 1) := by decide +kernel
theorem dX3_refusalToSilence_1 : decode cX3_refusalToSilence 1 = .ok (.iload_n 1, 1) := by decide +kernel
theorem dX3_refusalToSilence_2 : decode cX3_refusalToSilence 2 = .ok (.invokevirtual 79, 3) := by decide +kernel
theorem dX3_refusalToSilence_5 : decode cX3_refusalToSilence 5 = .ok (.ifCond .ne 5, 3) := by decide +kernel
theorem dX3_refusalToSilence_8 : decode cX3_refusalToSilence 8 = .ok (.iconst 1, 1) := by decide +kernel
theorem dX3_refusalToSilence_9 : decode cX3_refusalToSilence 9 = .ok (.ireturn, 1) := by decide +kernel
theorem dX3_refusalToSilence_10 : decode cX3_refusalToSilence 10 = .ok (.aload_n 0, 1) := by decide +kernel
theorem dX3_refusalToSilence_11 : decode cX3_refusalToSilence 11 = .ok (.getfield 27, 3) := by decide +kernel
theorem dX3_refusalToSilence_14 : decode cX3_refusalToSilence 14 = .ok (.iload_n 1, 1) := by decide +kernel
theorem dX3_refusalToSilence_15 : decode cX3_refusalToSilence 15 = .ok (.aaload, 1) := by decide +kernel
theorem dX3_refusalToSilence_16 : decode cX3_refusalToSilence 16 = .ok (.getfield 94, 3) := by decide +kernel
theorem dX3_refusalToSilence_19 : decode cX3_refusalToSilence 19 = .ok (.ifCond .eq 7, 3) := by decide +kernel
theorem dX3_refusalToSilence_22 : decode cX3_refusalToSilence 22 = .ok (.iconst 0, 1) := by decide +kernel
theorem dX3_refusalToSilence_23 : decode cX3_refusalToSilence 23 = .ok (.goto 4, 3) := by decide +kernel
theorem dX3_refusalToSilence_26 : decode cX3_refusalToSilence 26 = .ok (.iconst 3, 1) := by decide +kernel
theorem dX3_refusalToSilence_27 : decode cX3_refusalToSilence 27 = .ok (.ireturn, 1) := by decide +kernel
theorem dX3_refusalToRevive_0 : decode cX3_refusalToRevive 0 = .ok (.aload_n 0, 1) := by decide +kernel
theorem dX3_refusalToRevive_1 : decode cX3_refusalToRevive 1 = .ok (.iload_n 1, 1) := by decide +kernel
theorem dX3_refusalToRevive_2 : decode cX3_refusalToRevive 2 = .ok (.invokevirtual 79, 3) := by decide +kernel
theorem dX3_refusalToRevive_5 : decode cX3_refusalToRevive 5 = .ok (.ifCond .ne 5, 3) := by decide +kernel
theorem dX3_refusalToRevive_8 : decode cX3_refusalToRevive 8 = .ok (.iconst 1, 1) := by decide +kernel
theorem dX3_refusalToRevive_9 : decode cX3_refusalToRevive 9 = .ok (.ireturn, 1) := by decide +kernel
theorem dX3_refusalToRevive_10 : decode cX3_refusalToRevive 10 = .ok (.iload_n 2, 1) := by decide +kernel
theorem dX3_refusalToRevive_11 : decode cX3_refusalToRevive 11 = .ok (.invokestatic 65, 3) := by decide +kernel
theorem dX3_refusalToRevive_14 : decode cX3_refusalToRevive 14 = .ok (.ifCond .ne 5, 3) := by decide +kernel
theorem dX3_refusalToRevive_17 : decode cX3_refusalToRevive 17 = .ok (.iconst 2, 1) := by decide +kernel
theorem dX3_refusalToRevive_18 : decode cX3_refusalToRevive 18 = .ok (.ireturn, 1) := by decide +kernel
theorem dX3_refusalToRevive_19 : decode cX3_refusalToRevive 19 = .ok (.aload_n 0, 1) := by decide +kernel
theorem dX3_refusalToRevive_20 : decode cX3_refusalToRevive 20 = .ok (.getfield 27, 3) := by decide +kernel
theorem dX3_refusalToRevive_23 : decode cX3_refusalToRevive 23 = .ok (.iload_n 1, 1) := by decide +kernel
theorem dX3_refusalToRevive_24 : decode cX3_refusalToRevive 24 = .ok (.aaload, 1) := by decide +kernel
theorem dX3_refusalToRevive_25 : decode cX3_refusalToRevive 25 = .ok (.getfield 94, 3) := by decide +kernel
theorem dX3_refusalToRevive_28 : decode cX3_refusalToRevive 28 = .ok (.ifCond .eq 7, 3) := by decide +kernel
theorem dX3_refusalToRevive_31 : decode cX3_refusalToRevive 31 = .ok (.iconst 3, 1) := by decide +kernel
theorem dX3_refusalToRevive_32 : decode cX3_refusalToRevive 32 = .ok (.goto 4, 3) := by decide +kernel
theorem dX3_refusalToRevive_35 : decode cX3_refusalToRevive 35 = .ok (.iconst 0, 1) := by decide +kernel
theorem dX3_refusalToRevive_36 : decode cX3_refusalToRevive 36 = .ok (.ireturn, 1) := by decide +kernel
theorem dX3_passRounds_0 : decode cX3_passRounds 0 = .ok (.iconst 0, 1) := by decide +kernel
theorem dX3_passRounds_1 : decode cX3_passRounds 1 = .ok (.istore_n 2, 1) := by decide +kernel
theorem dX3_passRounds_2 : decode cX3_passRounds 2 = .ok (.iconst 0, 1) := by decide +kernel
theorem dX3_passRounds_3 : decode cX3_passRounds 3 = .ok (.istore_n 3, 1) := by decide +kernel
theorem dX3_passRounds_4 : decode cX3_passRounds 4 = .ok (.iload_n 3, 1) := by decide +kernel
theorem dX3_passRounds_5 : decode cX3_passRounds 5 = .ok (.iload_n 1, 1) := by decide +kernel
theorem dX3_passRounds_6 : decode cX3_passRounds 6 = .ok (.if_icmp .ge 91, 3) := by decide +kernel
theorem dX3_passRounds_9 : decode cX3_passRounds 9 = .ok (.iconst 0, 1) := by decide +kernel
theorem dX3_passRounds_10 : decode cX3_passRounds 10 = .ok (.istore 4, 2) := by decide +kernel
theorem dX3_passRounds_12 : decode cX3_passRounds 12 = .ok (.iload 4, 2) := by decide +kernel
theorem dX3_passRounds_14 : decode cX3_passRounds 14 = .ok (.aload_n 0, 1) := by decide +kernel
theorem dX3_passRounds_15 : decode cX3_passRounds 15 = .ok (.getfield 31, 3) := by decide +kernel
theorem dX3_passRounds_18 : decode cX3_passRounds 18 = .ok (.if_icmp .ge 63, 3) := by decide +kernel
theorem dX3_passRounds_21 : decode cX3_passRounds 21 = .ok (.aload_n 0, 1) := by decide +kernel
theorem dX3_passRounds_22 : decode cX3_passRounds 22 = .ok (.getfield 27, 3) := by decide +kernel
theorem dX3_passRounds_25 : decode cX3_passRounds 25 = .ok (.iload 4, 2) := by decide +kernel
theorem dX3_passRounds_27 : decode cX3_passRounds 27 = .ok (.aaload, 1) := by decide +kernel
theorem dX3_passRounds_28 : decode cX3_passRounds 28 = .ok (.invokevirtual 98, 3) := by decide +kernel
theorem dX3_passRounds_31 : decode cX3_passRounds 31 = .ok (.invokestatic 102, 3) := by decide +kernel
theorem dX3_passRounds_34 : decode cX3_passRounds 34 = .ok (.istore 5, 2) := by decide +kernel
theorem dX3_passRounds_36 : decode cX3_passRounds 36 = .ok (.iload_n 2, 1) := by decide +kernel
theorem dX3_passRounds_37 : decode cX3_passRounds 37 = .ok (.aload_n 0, 1) := by decide +kernel
theorem dX3_passRounds_38 : decode cX3_passRounds 38 = .ok (.aload_n 0, 1) := by decide +kernel
theorem dX3_passRounds_39 : decode cX3_passRounds 39 = .ok (.getfield 27, 3) := by decide +kernel
theorem dX3_passRounds_42 : decode cX3_passRounds 42 = .ok (.iload 4, 2) := by decide +kernel
theorem dX3_passRounds_44 : decode cX3_passRounds 44 = .ok (.aaload, 1) := by decide +kernel
theorem dX3_passRounds_45 : decode cX3_passRounds 45 = .ok (.invokevirtual 108, 3) := by decide +kernel
theorem dX3_passRounds_48 : decode cX3_passRounds 48 = .ok (.iadd, 1) := by decide +kernel
theorem dX3_passRounds_49 : decode cX3_passRounds 49 = .ok (.istore_n 2, 1) := by decide +kernel
theorem dX3_passRounds_50 : decode cX3_passRounds 50 = .ok (.aload_n 0, 1) := by decide +kernel
theorem dX3_passRounds_51 : decode cX3_passRounds 51 = .ok (.dup, 1) := by decide +kernel
theorem dX3_passRounds_52 : decode cX3_passRounds 52 = .ok (.getfield 38, 3) := by decide +kernel
theorem dX3_passRounds_55 : decode cX3_passRounds 55 = .ok (.aload_n 0, 1) := by decide +kernel
theorem dX3_passRounds_56 : decode cX3_passRounds 56 = .ok (.getfield 27, 3) := by decide +kernel
theorem dX3_passRounds_59 : decode cX3_passRounds 59 = .ok (.iload 4, 2) := by decide +kernel
theorem dX3_passRounds_61 : decode cX3_passRounds 61 = .ok (.aaload, 1) := by decide +kernel
theorem dX3_passRounds_62 : decode cX3_passRounds 62 = .ok (.invokevirtual 98, 3) := by decide +kernel
theorem dX3_passRounds_65 : decode cX3_passRounds 65 = .ok (.invokestatic 102, 3) := by decide +kernel
theorem dX3_passRounds_68 : decode cX3_passRounds 68 = .ok (.iload 5, 2) := by decide +kernel
theorem dX3_passRounds_70 : decode cX3_passRounds 70 = .ok (.isub, 1) := by decide +kernel
theorem dX3_passRounds_71 : decode cX3_passRounds 71 = .ok (.iadd, 1) := by decide +kernel
theorem dX3_passRounds_72 : decode cX3_passRounds 72 = .ok (.putfield 38, 3) := by decide +kernel
theorem dX3_passRounds_75 : decode cX3_passRounds 75 = .ok (.iinc 4 1, 3) := by decide +kernel
theorem dX3_passRounds_78 : decode cX3_passRounds 78 = .ok (.goto (-66), 3) := by decide +kernel
theorem dX3_passRounds_81 : decode cX3_passRounds 81 = .ok (.aload_n 0, 1) := by decide +kernel
theorem dX3_passRounds_82 : decode cX3_passRounds 82 = .ok (.dup, 1) := by decide +kernel
theorem dX3_passRounds_83 : decode cX3_passRounds 83 = .ok (.getfield 35, 3) := by decide +kernel
theorem dX3_passRounds_86 : decode cX3_passRounds 86 = .ok (.iconst 1, 1) := by decide +kernel
theorem dX3_passRounds_87 : decode cX3_passRounds 87 = .ok (.iadd, 1) := by decide +kernel
theorem dX3_passRounds_88 : decode cX3_passRounds 88 = .ok (.putfield 35, 3) := by decide +kernel
theorem dX3_passRounds_91 : decode cX3_passRounds 91 = .ok (.iinc 3 1, 3) := by decide +kernel
theorem dX3_passRounds_94 : decode cX3_passRounds 94 = .ok (.goto (-90), 3) := by decide +kernel
theorem dX3_passRounds_97 : decode cX3_passRounds 97 = .ok (.iload_n 2, 1) := by decide +kernel
theorem dX3_passRounds_98 : decode cX3_passRounds 98 = .ok (.ireturn, 1) := by decide +kernel
theorem dX3_spreadOnce_0 : decode cX3_spreadOnce 0 = .ok (.aload_n 1, 1) := by decide +kernel
theorem dX3_spreadOnce_1 : decode cX3_spreadOnce 1 = .ok (.getfield 94, 3) := by decide +kernel
theorem dX3_spreadOnce_4 : decode cX3_spreadOnce 4 = .ok (.ifCond .ne 5, 3) := by decide +kernel
theorem dX3_spreadOnce_7 : decode cX3_spreadOnce 7 = .ok (.iconst 0, 1) := by decide +kernel
theorem dX3_spreadOnce_8 : decode cX3_spreadOnce 8 = .ok (.ireturn, 1) := by decide +kernel
theorem dX3_spreadOnce_9 : decode cX3_spreadOnce 9 = .ok (.iconst 0, 1) := by decide +kernel
theorem dX3_spreadOnce_10 : decode cX3_spreadOnce 10 = .ok (.istore_n 2, 1) := by decide +kernel
theorem dX3_spreadOnce_11 : decode cX3_spreadOnce 11 = .ok (.iconst 0, 1) := by decide +kernel
theorem dX3_spreadOnce_12 : decode cX3_spreadOnce 12 = .ok (.istore_n 3, 1) := by decide +kernel
theorem dX3_spreadOnce_13 : decode cX3_spreadOnce 13 = .ok (.iconst 0, 1) := by decide +kernel
theorem dX3_spreadOnce_14 : decode cX3_spreadOnce 14 = .ok (.istore 4, 2) := by decide +kernel
theorem dX3_spreadOnce_16 : decode cX3_spreadOnce 16 = .ok (.iload 4, 2) := by decide +kernel
theorem dX3_spreadOnce_18 : decode cX3_spreadOnce 18 = .ok (.aload_n 0, 1) := by decide +kernel
theorem dX3_spreadOnce_19 : decode cX3_spreadOnce 19 = .ok (.getfield 12, 3) := by decide +kernel
theorem dX3_spreadOnce_22 : decode cX3_spreadOnce 22 = .ok (.getfield 58, 3) := by decide +kernel
theorem dX3_spreadOnce_25 : decode cX3_spreadOnce 25 = .ok (.if_icmp .ge 57, 3) := by decide +kernel
theorem dX3_spreadOnce_28 : decode cX3_spreadOnce 28 = .ok (.aload_n 0, 1) := by decide +kernel
theorem dX3_spreadOnce_29 : decode cX3_spreadOnce 29 = .ok (.aload_n 1, 1) := by decide +kernel
theorem dX3_spreadOnce_30 : decode cX3_spreadOnce 30 = .ok (.iload 4, 2) := by decide +kernel
theorem dX3_spreadOnce_32 : decode cX3_spreadOnce 32 = .ok (.invokevirtual 112, 3) := by decide +kernel
theorem dX3_spreadOnce_35 : decode cX3_spreadOnce 35 = .ok (.ifCond .eq 41, 3) := by decide +kernel
theorem dX3_spreadOnce_38 : decode cX3_spreadOnce 38 = .ok (.aload_n 1, 1) := by decide +kernel
theorem dX3_spreadOnce_39 : decode cX3_spreadOnce 39 = .ok (.getfield 116, 3) := by decide +kernel
theorem dX3_spreadOnce_42 : decode cX3_spreadOnce 42 = .ok (.iload 4, 2) := by decide +kernel
theorem dX3_spreadOnce_44 : decode cX3_spreadOnce 44 = .ok (.aload_n 0, 1) := by decide +kernel
theorem dX3_spreadOnce_45 : decode cX3_spreadOnce 45 = .ok (.getfield 35, 3) := by decide +kernel
theorem dX3_spreadOnce_48 : decode cX3_spreadOnce 48 = .ok (.iastore, 1) := by decide +kernel
theorem dX3_spreadOnce_49 : decode cX3_spreadOnce 49 = .ok (.aload_n 0, 1) := by decide +kernel
theorem dX3_spreadOnce_50 : decode cX3_spreadOnce 50 = .ok (.aload_n 1, 1) := by decide +kernel
theorem dX3_spreadOnce_51 : decode cX3_spreadOnce 51 = .ok (.iload 4, 2) := by decide +kernel
theorem dX3_spreadOnce_53 : decode cX3_spreadOnce 53 = .ok (.invokevirtual 119, 3) := by decide +kernel
theorem dX3_spreadOnce_56 : decode cX3_spreadOnce 56 = .ok (.ifCond .eq 13, 3) := by decide +kernel
theorem dX3_spreadOnce_59 : decode cX3_spreadOnce 59 = .ok (.iload_n 2, 1) := by decide +kernel
theorem dX3_spreadOnce_60 : decode cX3_spreadOnce 60 = .ok (.iconst 1, 1) := by decide +kernel
theorem dX3_spreadOnce_61 : decode cX3_spreadOnce 61 = .ok (.iload 4, 2) := by decide +kernel
theorem dX3_spreadOnce_63 : decode cX3_spreadOnce 63 = .ok (.ishl, 1) := by decide +kernel
theorem dX3_spreadOnce_64 : decode cX3_spreadOnce 64 = .ok (.ior, 1) := by decide +kernel
theorem dX3_spreadOnce_65 : decode cX3_spreadOnce 65 = .ok (.istore_n 2, 1) := by decide +kernel
theorem dX3_spreadOnce_66 : decode cX3_spreadOnce 66 = .ok (.goto 10, 3) := by decide +kernel
theorem dX3_spreadOnce_69 : decode cX3_spreadOnce 69 = .ok (.iload_n 3, 1) := by decide +kernel
theorem dX3_spreadOnce_70 : decode cX3_spreadOnce 70 = .ok (.iconst 1, 1) := by decide +kernel
theorem dX3_spreadOnce_71 : decode cX3_spreadOnce 71 = .ok (.iload 4, 2) := by decide +kernel
theorem dX3_spreadOnce_73 : decode cX3_spreadOnce 73 = .ok (.ishl, 1) := by decide +kernel
theorem dX3_spreadOnce_74 : decode cX3_spreadOnce 74 = .ok (.ior, 1) := by decide +kernel
theorem dX3_spreadOnce_75 : decode cX3_spreadOnce 75 = .ok (.istore_n 3, 1) := by decide +kernel
theorem dX3_spreadOnce_76 : decode cX3_spreadOnce 76 = .ok (.iinc 4 1, 3) := by decide +kernel
theorem dX3_spreadOnce_79 : decode cX3_spreadOnce 79 = .ok (.goto (-63), 3) := by decide +kernel
theorem dX3_spreadOnce_82 : decode cX3_spreadOnce 82 = .ok (.aload_n 1, 1) := by decide +kernel
theorem dX3_spreadOnce_83 : decode cX3_spreadOnce 83 = .ok (.dup, 1) := by decide +kernel
theorem dX3_spreadOnce_84 : decode cX3_spreadOnce 84 = .ok (.getfield 82, 3) := by decide +kernel
theorem dX3_spreadOnce_87 : decode cX3_spreadOnce 87 = .ok (.iload_n 2, 1) := by decide +kernel
theorem dX3_spreadOnce_88 : decode cX3_spreadOnce 88 = .ok (.ior, 1) := by decide +kernel
theorem dX3_spreadOnce_89 : decode cX3_spreadOnce 89 = .ok (.putfield 82, 3) := by decide +kernel
theorem dX3_spreadOnce_92 : decode cX3_spreadOnce 92 = .ok (.aload_n 1, 1) := by decide +kernel
theorem dX3_spreadOnce_93 : decode cX3_spreadOnce 93 = .ok (.dup, 1) := by decide +kernel
theorem dX3_spreadOnce_94 : decode cX3_spreadOnce 94 = .ok (.getfield 91, 3) := by decide +kernel
theorem dX3_spreadOnce_97 : decode cX3_spreadOnce 97 = .ok (.iload_n 3, 1) := by decide +kernel
theorem dX3_spreadOnce_98 : decode cX3_spreadOnce 98 = .ok (.ior, 1) := by decide +kernel
theorem dX3_spreadOnce_99 : decode cX3_spreadOnce 99 = .ok (.putfield 91, 3) := by decide +kernel
theorem dX3_spreadOnce_102 : decode cX3_spreadOnce 102 = .ok (.iload_n 2, 1) := by decide +kernel
theorem dX3_spreadOnce_103 : decode cX3_spreadOnce 103 = .ok (.ifCond .ne 7, 3) := by decide +kernel
theorem dX3_spreadOnce_106 : decode cX3_spreadOnce 106 = .ok (.aload_n 1, 1) := by decide +kernel
theorem dX3_spreadOnce_107 : decode cX3_spreadOnce 107 = .ok (.invokevirtual 122, 3) := by decide +kernel
theorem dX3_spreadOnce_110 : decode cX3_spreadOnce 110 = .ok (.iload_n 2, 1) := by decide +kernel
theorem dX3_spreadOnce_111 : decode cX3_spreadOnce 111 = .ok (.invokestatic 102, 3) := by decide +kernel
theorem dX3_spreadOnce_114 : decode cX3_spreadOnce 114 = .ok (.ireturn, 1) := by decide +kernel
theorem dX3_hears_0 : decode cX3_hears 0 = .ok (.aload_n 1, 1) := by decide +kernel
theorem dX3_hears_1 : decode cX3_hears 1 = .ok (.invokevirtual 98, 3) := by decide +kernel
theorem dX3_hears_4 : decode cX3_hears 4 = .ok (.iload_n 2, 1) := by decide +kernel
theorem dX3_hears_5 : decode cX3_hears 5 = .ok (.invokestatic 85, 3) := by decide +kernel
theorem dX3_hears_8 : decode cX3_hears 8 = .ok (.ifCond .ne 24, 3) := by decide +kernel
theorem dX3_hears_11 : decode cX3_hears 11 = .ok (.aload_n 0, 1) := by decide +kernel
theorem dX3_hears_12 : decode cX3_hears 12 = .ok (.getfield 12, 3) := by decide +kernel
theorem dX3_hears_15 : decode cX3_hears 15 = .ok (.getfield 125, 3) := by decide +kernel
theorem dX3_hears_18 : decode cX3_hears 18 = .ok (.iload_n 2, 1) := by decide +kernel
theorem dX3_hears_19 : decode cX3_hears 19 = .ok (.iaload, 1) := by decide +kernel
theorem dX3_hears_20 : decode cX3_hears 20 = .ok (.aload_n 1, 1) := by decide +kernel
theorem dX3_hears_21 : decode cX3_hears 21 = .ok (.getfield 82, 3) := by decide +kernel
theorem dX3_hears_24 : decode cX3_hears 24 = .ok (.iand, 1) := by decide +kernel
theorem dX3_hears_25 : decode cX3_hears 25 = .ok (.ifCond .eq 7, 3) := by decide +kernel
theorem dX3_hears_28 : decode cX3_hears 28 = .ok (.iconst 1, 1) := by decide +kernel
theorem dX3_hears_29 : decode cX3_hears 29 = .ok (.goto 4, 3) := by decide +kernel
theorem dX3_hears_32 : decode cX3_hears 32 = .ok (.iconst 0, 1) := by decide +kernel
theorem dX3_hears_33 : decode cX3_hears 33 = .ok (.ireturn, 1) := by decide +kernel
theorem dX3_believes_0 : decode cX3_believes 0 = .ok (.aload_n 0, 1) := by decide +kernel
theorem dX3_believes_1 : decode cX3_believes 1 = .ok (.getfield 12, 3) := by decide +kernel
theorem dX3_believes_4 : decode cX3_believes 4 = .ok (.getfield 125, 3) := by decide +kernel
theorem dX3_believes_7 : decode cX3_believes 7 = .ok (.iload_n 2, 1) := by decide +kernel
theorem dX3_believes_8 : decode cX3_believes 8 = .ok (.iaload, 1) := by decide +kernel
theorem dX3_believes_9 : decode cX3_believes 9 = .ok (.aload_n 1, 1) := by decide +kernel
theorem dX3_believes_10 : decode cX3_believes 10 = .ok (.getfield 82, 3) := by decide +kernel
theorem dX3_believes_13 : decode cX3_believes 13 = .ok (.iand, 1) := by decide +kernel
theorem dX3_believes_14 : decode cX3_believes 14 = .ok (.invokestatic 102, 3) := by decide +kernel
theorem dX3_believes_17 : decode cX3_believes 17 = .ok (.istore_n 3, 1) := by decide +kernel
theorem dX3_believes_18 : decode cX3_believes 18 = .ok (.aload_n 1, 1) := by decide +kernel
theorem dX3_believes_19 : decode cX3_believes 19 = .ok (.getfield 88, 3) := by decide +kernel
theorem dX3_believes_22 : decode cX3_believes 22 = .ok (.iload_n 3, 1) := by decide +kernel
theorem dX3_believes_23 : decode cX3_believes 23 = .ok (.iadd, 1) := by decide +kernel
theorem dX3_believes_24 : decode cX3_believes 24 = .ok (.aload_n 0, 1) := by decide +kernel
theorem dX3_believes_25 : decode cX3_believes 25 = .ok (.getfield 22, 3) := by decide +kernel
theorem dX3_believes_28 : decode cX3_believes 28 = .ok (.iload_n 2, 1) := by decide +kernel
theorem dX3_believes_29 : decode cX3_believes 29 = .ok (.iaload, 1) := by decide +kernel
theorem dX3_believes_30 : decode cX3_believes 30 = .ok (.if_icmp .le 7, 3) := by decide +kernel
theorem dX3_believes_33 : decode cX3_believes 33 = .ok (.iconst 1, 1) := by decide +kernel
theorem dX3_believes_34 : decode cX3_believes 34 = .ok (.goto 4, 3) := by decide +kernel
theorem dX3_believes_37 : decode cX3_believes 37 = .ok (.iconst 0, 1) := by decide +kernel
theorem dX3_believes_38 : decode cX3_believes 38 = .ok (.ireturn, 1) := by decide +kernel
theorem dX3_believersToCome_0 : decode cX3_believersToCome 0 = .ok (.iconst 0, 1) := by decide +kernel
theorem dX3_believersToCome_1 : decode cX3_believersToCome 1 = .ok (.istore_n 2, 1) := by decide +kernel
theorem dX3_believersToCome_2 : decode cX3_believersToCome 2 = .ok (.iconst 0, 1) := by decide +kernel
theorem dX3_believersToCome_3 : decode cX3_believersToCome 3 = .ok (.istore_n 3, 1) := by decide +kernel
theorem dX3_believersToCome_4 : decode cX3_believersToCome 4 = .ok (.iload_n 3, 1) := by decide +kernel
theorem dX3_believersToCome_5 : decode cX3_believersToCome 5 = .ok (.aload_n 0, 1) := by decide +kernel
theorem dX3_believersToCome_6 : decode cX3_believersToCome 6 = .ok (.getfield 12, 3) := by decide +kernel
theorem dX3_believersToCome_9 : decode cX3_believersToCome 9 = .ok (.getfield 58, 3) := by decide +kernel
theorem dX3_believersToCome_12 : decode cX3_believersToCome 12 = .ok (.if_icmp .ge 37, 3) := by decide +kernel
theorem dX3_believersToCome_15 : decode cX3_believersToCome 15 = .ok (.aload_n 1, 1) := by decide +kernel
theorem dX3_believersToCome_16 : decode cX3_believersToCome 16 = .ok (.getfield 94, 3) := by decide +kernel
theorem dX3_believersToCome_19 : decode cX3_believersToCome 19 = .ok (.ifCond .eq 24, 3) := by decide +kernel
theorem dX3_believersToCome_22 : decode cX3_believersToCome 22 = .ok (.aload_n 0, 1) := by decide +kernel
theorem dX3_believersToCome_23 : decode cX3_believersToCome 23 = .ok (.aload_n 1, 1) := by decide +kernel
theorem dX3_believersToCome_24 : decode cX3_believersToCome 24 = .ok (.iload_n 3, 1) := by decide +kernel
theorem dX3_believersToCome_25 : decode cX3_believersToCome 25 = .ok (.invokevirtual 112, 3) := by decide +kernel
theorem dX3_believersToCome_28 : decode cX3_believersToCome 28 = .ok (.ifCond .eq 15, 3) := by decide +kernel
theorem dX3_believersToCome_31 : decode cX3_believersToCome 31 = .ok (.aload_n 0, 1) := by decide +kernel
theorem dX3_believersToCome_32 : decode cX3_believersToCome 32 = .ok (.aload_n 1, 1) := by decide +kernel
theorem dX3_believersToCome_33 : decode cX3_believersToCome 33 = .ok (.iload_n 3, 1) := by decide +kernel
theorem dX3_believersToCome_34 : decode cX3_believersToCome 34 = .ok (.invokevirtual 119, 3) := by decide +kernel
theorem dX3_believersToCome_37 : decode cX3_believersToCome 37 = .ok (.ifCond .eq 6, 3) := by decide +kernel
theorem dX3_believersToCome_40 : decode cX3_believersToCome 40 = .ok (.iinc 2 1, 3) := by decide +kernel
theorem dX3_believersToCome_43 : decode cX3_believersToCome 43 = .ok (.iinc 3 1, 3) := by decide +kernel
theorem dX3_believersToCome_46 : decode cX3_believersToCome 46 = .ok (.goto (-42), 3) := by decide +kernel
theorem dX3_believersToCome_49 : decode cX3_believersToCome 49 = .ok (.iload_n 2, 1) := by decide +kernel
theorem dX3_believersToCome_50 : decode cX3_believersToCome 50 = .ok (.ireturn, 1) := by decide +kernel
theorem dX3_membersOf_0 : decode cX3_membersOf 0 = .ok (.iconst 0, 1) := by decide +kernel
theorem dX3_membersOf_1 : decode cX3_membersOf 1 = .ok (.istore_n 2, 1) := by decide +kernel
theorem dX3_membersOf_2 : decode cX3_membersOf 2 = .ok (.iconst 0, 1) := by decide +kernel
theorem dX3_membersOf_3 : decode cX3_membersOf 3 = .ok (.istore_n 3, 1) := by decide +kernel
theorem dX3_membersOf_4 : decode cX3_membersOf 4 = .ok (.iload_n 3, 1) := by decide +kernel
theorem dX3_membersOf_5 : decode cX3_membersOf 5 = .ok (.aload_n 0, 1) := by decide +kernel
theorem dX3_membersOf_6 : decode cX3_membersOf 6 = .ok (.getfield 12, 3) := by decide +kernel
theorem dX3_membersOf_9 : decode cX3_membersOf 9 = .ok (.getfield 58, 3) := by decide +kernel
theorem dX3_membersOf_12 : decode cX3_membersOf 12 = .ok (.if_icmp .ge 25, 3) := by decide +kernel
theorem dX3_membersOf_15 : decode cX3_membersOf 15 = .ok (.aload_n 0, 1) := by decide +kernel
theorem dX3_membersOf_16 : decode cX3_membersOf 16 = .ok (.getfield 18, 3) := by decide +kernel
theorem dX3_membersOf_19 : decode cX3_membersOf 19 = .ok (.iload_n 3, 1) := by decide +kernel
theorem dX3_membersOf_20 : decode cX3_membersOf 20 = .ok (.iaload, 1) := by decide +kernel
theorem dX3_membersOf_21 : decode cX3_membersOf 21 = .ok (.iload_n 1, 1) := by decide +kernel
theorem dX3_membersOf_22 : decode cX3_membersOf 22 = .ok (.if_icmp .ne 9, 3) := by decide +kernel
theorem dX3_membersOf_25 : decode cX3_membersOf 25 = .ok (.iload_n 2, 1) := by decide +kernel
theorem dX3_membersOf_26 : decode cX3_membersOf 26 = .ok (.iconst 1, 1) := by decide +kernel
theorem dX3_membersOf_27 : decode cX3_membersOf 27 = .ok (.iload_n 3, 1) := by decide +kernel
theorem dX3_membersOf_28 : decode cX3_membersOf 28 = .ok (.ishl, 1) := by decide +kernel
theorem dX3_membersOf_29 : decode cX3_membersOf 29 = .ok (.ior, 1) := by decide +kernel
theorem dX3_membersOf_30 : decode cX3_membersOf 30 = .ok (.istore_n 2, 1) := by decide +kernel
theorem dX3_membersOf_31 : decode cX3_membersOf 31 = .ok (.iinc 3 1, 3) := by decide +kernel
theorem dX3_membersOf_34 : decode cX3_membersOf 34 = .ok (.goto (-30), 3) := by decide +kernel
theorem dX3_membersOf_37 : decode cX3_membersOf 37 = .ok (.iload_n 2, 1) := by decide +kernel
theorem dX3_membersOf_38 : decode cX3_membersOf 38 = .ok (.ireturn, 1) := by decide +kernel
theorem dX3_hiveWithMost_0 : decode cX3_hiveWithMost 0 = .ok (.iconst 0, 1) := by decide +kernel
theorem dX3_hiveWithMost_1 : decode cX3_hiveWithMost 1 = .ok (.istore_n 2, 1) := by decide +kernel
theorem dX3_hiveWithMost_2 : decode cX3_hiveWithMost 2 = .ok (.iconst 0, 1) := by decide +kernel
theorem dX3_hiveWithMost_3 : decode cX3_hiveWithMost 3 = .ok (.istore_n 3, 1) := by decide +kernel
theorem dX3_hiveWithMost_4 : decode cX3_hiveWithMost 4 = .ok (.iconst 0, 1) := by decide +kernel
theorem dX3_hiveWithMost_5 : decode cX3_hiveWithMost 5 = .ok (.istore 4, 2) := by decide +kernel
theorem dX3_hiveWithMost_7 : decode cX3_hiveWithMost 7 = .ok (.iload 4, 2) := by decide +kernel
theorem dX3_hiveWithMost_9 : decode cX3_hiveWithMost 9 = .ok (.iconst 4, 1) := by decide +kernel
theorem dX3_hiveWithMost_10 : decode cX3_hiveWithMost 10 = .ok (.if_icmp .ge 34, 3) := by decide +kernel
theorem dX3_hiveWithMost_13 : decode cX3_hiveWithMost 13 = .ok (.iload_n 1, 1) := by decide +kernel
theorem dX3_hiveWithMost_14 : decode cX3_hiveWithMost 14 = .ok (.aload_n 0, 1) := by decide +kernel
theorem dX3_hiveWithMost_15 : decode cX3_hiveWithMost 15 = .ok (.iload 4, 2) := by decide +kernel
theorem dX3_hiveWithMost_17 : decode cX3_hiveWithMost 17 = .ok (.invokevirtual 128, 3) := by decide +kernel
theorem dX3_hiveWithMost_20 : decode cX3_hiveWithMost 20 = .ok (.iand, 1) := by decide +kernel
theorem dX3_hiveWithMost_21 : decode cX3_hiveWithMost 21 = .ok (.invokestatic 102, 3) := by decide +kernel
theorem dX3_hiveWithMost_24 : decode cX3_hiveWithMost 24 = .ok (.istore 5, 2) := by decide +kernel
theorem dX3_hiveWithMost_26 : decode cX3_hiveWithMost 26 = .ok (.iload 5, 2) := by decide +kernel
theorem dX3_hiveWithMost_28 : decode cX3_hiveWithMost 28 = .ok (.iload_n 3, 1) := by decide +kernel
theorem dX3_hiveWithMost_29 : decode cX3_hiveWithMost 29 = .ok (.if_icmp .le 9, 3) := by decide +kernel
theorem dX3_hiveWithMost_32 : decode cX3_hiveWithMost 32 = .ok (.iload 4, 2) := by decide +kernel
theorem dX3_hiveWithMost_34 : decode cX3_hiveWithMost 34 = .ok (.istore_n 2, 1) := by decide +kernel
theorem dX3_hiveWithMost_35 : decode cX3_hiveWithMost 35 = .ok (.iload 5, 2) := by decide +kernel
theorem dX3_hiveWithMost_37 : decode cX3_hiveWithMost 37 = .ok (.istore_n 3, 1) := by decide +kernel
theorem dX3_hiveWithMost_38 : decode cX3_hiveWithMost 38 = .ok (.iinc 4 1, 3) := by decide +kernel
theorem dX3_hiveWithMost_41 : decode cX3_hiveWithMost 41 = .ok (.goto (-34), 3) := by decide +kernel
theorem dX3_hiveWithMost_44 : decode cX3_hiveWithMost 44 = .ok (.iload_n 2, 1) := by decide +kernel
theorem dX3_hiveWithMost_45 : decode cX3_hiveWithMost 45 = .ok (.ireturn, 1) := by decide +kernel
theorem dX3_rumourAtRank_0 : decode cX3_rumourAtRank 0 = .ok (.iconst 0, 1) := by decide +kernel
theorem dX3_rumourAtRank_1 : decode cX3_rumourAtRank 1 = .ok (.istore_n 2, 1) := by decide +kernel
theorem dX3_rumourAtRank_2 : decode cX3_rumourAtRank 2 = .ok (.iload_n 2, 1) := by decide +kernel
theorem dX3_rumourAtRank_3 : decode cX3_rumourAtRank 3 = .ok (.aload_n 0, 1) := by decide +kernel
theorem dX3_rumourAtRank_4 : decode cX3_rumourAtRank 4 = .ok (.getfield 31, 3) := by decide +kernel
theorem dX3_rumourAtRank_7 : decode cX3_rumourAtRank 7 = .ok (.if_icmp .ge 55, 3) := by decide +kernel
theorem dX3_rumourAtRank_10 : decode cX3_rumourAtRank 10 = .ok (.iconst 0, 1) := by decide +kernel
theorem dX3_rumourAtRank_11 : decode cX3_rumourAtRank 11 = .ok (.istore_n 3, 1) := by decide +kernel
theorem dX3_rumourAtRank_12 : decode cX3_rumourAtRank 12 = .ok (.iconst 0, 1) := by decide +kernel
theorem dX3_rumourAtRank_13 : decode cX3_rumourAtRank 13 = .ok (.istore 4, 2) := by decide +kernel
theorem dX3_rumourAtRank_15 : decode cX3_rumourAtRank 15 = .ok (.iload 4, 2) := by decide +kernel
theorem dX3_rumourAtRank_17 : decode cX3_rumourAtRank 17 = .ok (.aload_n 0, 1) := by decide +kernel
theorem dX3_rumourAtRank_18 : decode cX3_rumourAtRank 18 = .ok (.getfield 31, 3) := by decide +kernel
theorem dX3_rumourAtRank_21 : decode cX3_rumourAtRank 21 = .ok (.if_icmp .ge 28, 3) := by decide +kernel
theorem dX3_rumourAtRank_24 : decode cX3_rumourAtRank 24 = .ok (.iload 4, 2) := by decide +kernel
theorem dX3_rumourAtRank_26 : decode cX3_rumourAtRank 26 = .ok (.iload_n 2, 1) := by decide +kernel
theorem dX3_rumourAtRank_27 : decode cX3_rumourAtRank 27 = .ok (.if_icmp .eq 16, 3) := by decide +kernel
theorem dX3_rumourAtRank_30 : decode cX3_rumourAtRank 30 = .ok (.aload_n 0, 1) := by decide +kernel
theorem dX3_rumourAtRank_31 : decode cX3_rumourAtRank 31 = .ok (.iload 4, 2) := by decide +kernel
theorem dX3_rumourAtRank_33 : decode cX3_rumourAtRank 33 = .ok (.iload_n 2, 1) := by decide +kernel
theorem dX3_rumourAtRank_34 : decode cX3_rumourAtRank 34 = .ok (.invokevirtual 131, 3) := by decide +kernel
theorem dX3_rumourAtRank_37 : decode cX3_rumourAtRank 37 = .ok (.ifCond .eq 6, 3) := by decide +kernel
theorem dX3_rumourAtRank_40 : decode cX3_rumourAtRank 40 = .ok (.iinc 3 1, 3) := by decide +kernel
theorem dX3_rumourAtRank_43 : decode cX3_rumourAtRank 43 = .ok (.iinc 4 1, 3) := by decide +kernel
theorem dX3_rumourAtRank_46 : decode cX3_rumourAtRank 46 = .ok (.goto (-31), 3) := by decide +kernel
theorem dX3_rumourAtRank_49 : decode cX3_rumourAtRank 49 = .ok (.iload_n 3, 1) := by decide +kernel
theorem dX3_rumourAtRank_50 : decode cX3_rumourAtRank 50 = .ok (.iload_n 1, 1) := by decide +kernel
theorem dX3_rumourAtRank_51 : decode cX3_rumourAtRank 51 = .ok (.if_icmp .ne 5, 3) := by decide +kernel
theorem dX3_rumourAtRank_54 : decode cX3_rumourAtRank 54 = .ok (.iload_n 2, 1) := by decide +kernel
theorem dX3_rumourAtRank_55 : decode cX3_rumourAtRank 55 = .ok (.ireturn, 1) := by decide +kernel
theorem dX3_rumourAtRank_56 : decode cX3_rumourAtRank 56 = .ok (.iinc 2 1, 3) := by decide +kernel
theorem dX3_rumourAtRank_59 : decode cX3_rumourAtRank 59 = .ok (.goto (-57), 3) := by decide +kernel
theorem dX3_rumourAtRank_62 : decode cX3_rumourAtRank 62 = .ok (.iconst (-1), 1) := by decide +kernel
theorem dX3_rumourAtRank_63 : decode cX3_rumourAtRank 63 = .ok (.ireturn, 1) := by decide +kernel
theorem dX3_spreadsAhead_0 : decode cX3_spreadsAhead 0 = .ok (.aload_n 0, 1) := by decide +kernel
theorem dX3_spreadsAhead_1 : decode cX3_spreadsAhead 1 = .ok (.getfield 27, 3) := by decide +kernel
theorem dX3_spreadsAhead_4 : decode cX3_spreadsAhead 4 = .ok (.iload_n 1, 1) := by decide +kernel
theorem dX3_spreadsAhead_5 : decode cX3_spreadsAhead 5 = .ok (.aaload, 1) := by decide +kernel
theorem dX3_spreadsAhead_6 : decode cX3_spreadsAhead 6 = .ok (.getfield 82, 3) := by decide +kernel
theorem dX3_spreadsAhead_9 : decode cX3_spreadsAhead 9 = .ok (.invokestatic 102, 3) := by decide +kernel
theorem dX3_spreadsAhead_12 : decode cX3_spreadsAhead 12 = .ok (.istore_n 3, 1) := by decide +kernel
theorem dX3_spreadsAhead_13 : decode cX3_spreadsAhead 13 = .ok (.aload_n 0, 1) := by decide +kernel
theorem dX3_spreadsAhead_14 : decode cX3_spreadsAhead 14 = .ok (.getfield 27, 3) := by decide +kernel
theorem dX3_spreadsAhead_17 : decode cX3_spreadsAhead 17 = .ok (.iload_n 2, 1) := by decide +kernel
theorem dX3_spreadsAhead_18 : decode cX3_spreadsAhead 18 = .ok (.aaload, 1) := by decide +kernel
theorem dX3_spreadsAhead_19 : decode cX3_spreadsAhead 19 = .ok (.getfield 82, 3) := by decide +kernel
theorem dX3_spreadsAhead_22 : decode cX3_spreadsAhead 22 = .ok (.invokestatic 102, 3) := by decide +kernel
theorem dX3_spreadsAhead_25 : decode cX3_spreadsAhead 25 = .ok (.istore 4, 2) := by decide +kernel
theorem dX3_spreadsAhead_27 : decode cX3_spreadsAhead 27 = .ok (.iload_n 3, 1) := by decide +kernel
theorem dX3_spreadsAhead_28 : decode cX3_spreadsAhead 28 = .ok (.iload 4, 2) := by decide +kernel
theorem dX3_spreadsAhead_30 : decode cX3_spreadsAhead 30 = .ok (.if_icmp .eq 15, 3) := by decide +kernel
theorem dX3_spreadsAhead_33 : decode cX3_spreadsAhead 33 = .ok (.iload_n 3, 1) := by decide +kernel
theorem dX3_spreadsAhead_34 : decode cX3_spreadsAhead 34 = .ok (.iload 4, 2) := by decide +kernel
theorem dX3_spreadsAhead_36 : decode cX3_spreadsAhead 36 = .ok (.if_icmp .le 7, 3) := by decide +kernel
theorem dX3_spreadsAhead_39 : decode cX3_spreadsAhead 39 = .ok (.iconst 1, 1) := by decide +kernel
theorem dX3_spreadsAhead_40 : decode cX3_spreadsAhead 40 = .ok (.goto 4, 3) := by decide +kernel
theorem dX3_spreadsAhead_43 : decode cX3_spreadsAhead 43 = .ok (.iconst 0, 1) := by decide +kernel
theorem dX3_spreadsAhead_44 : decode cX3_spreadsAhead 44 = .ok (.ireturn, 1) := by decide +kernel
theorem dX3_spreadsAhead_45 : decode cX3_spreadsAhead 45 = .ok (.aload_n 0, 1) := by decide +kernel
theorem dX3_spreadsAhead_46 : decode cX3_spreadsAhead 46 = .ok (.getfield 27, 3) := by decide +kernel
theorem dX3_spreadsAhead_49 : decode cX3_spreadsAhead 49 = .ok (.iload_n 1, 1) := by decide +kernel
theorem dX3_spreadsAhead_50 : decode cX3_spreadsAhead 50 = .ok (.aaload, 1) := by decide +kernel
theorem dX3_spreadsAhead_51 : decode cX3_spreadsAhead 51 = .ok (.getfield 94, 3) := by decide +kernel
theorem dX3_spreadsAhead_54 : decode cX3_spreadsAhead 54 = .ok (.aload_n 0, 1) := by decide +kernel
theorem dX3_spreadsAhead_55 : decode cX3_spreadsAhead 55 = .ok (.getfield 27, 3) := by decide +kernel
theorem dX3_spreadsAhead_58 : decode cX3_spreadsAhead 58 = .ok (.iload_n 2, 1) := by decide +kernel
theorem dX3_spreadsAhead_59 : decode cX3_spreadsAhead 59 = .ok (.aaload, 1) := by decide +kernel
theorem dX3_spreadsAhead_60 : decode cX3_spreadsAhead 60 = .ok (.getfield 94, 3) := by decide +kernel
theorem dX3_spreadsAhead_63 : decode cX3_spreadsAhead 63 = .ok (.if_icmp .eq 13, 3) := by decide +kernel
theorem dX3_spreadsAhead_66 : decode cX3_spreadsAhead 66 = .ok (.aload_n 0, 1) := by decide +kernel
theorem dX3_spreadsAhead_67 : decode cX3_spreadsAhead 67 = .ok (.getfield 27, 3) := by decide +kernel
theorem dX3_spreadsAhead_70 : decode cX3_spreadsAhead 70 = .ok (.iload_n 1, 1) := by decide +kernel
theorem dX3_spreadsAhead_71 : decode cX3_spreadsAhead 71 = .ok (.aaload, 1) := by decide +kernel
theorem dX3_spreadsAhead_72 : decode cX3_spreadsAhead 72 = .ok (.getfield 94, 3) := by decide +kernel
theorem dX3_spreadsAhead_75 : decode cX3_spreadsAhead 75 = .ok (.ireturn, 1) := by decide +kernel
theorem dX3_spreadsAhead_76 : decode cX3_spreadsAhead 76 = .ok (.iload_n 1, 1) := by decide +kernel
theorem dX3_spreadsAhead_77 : decode cX3_spreadsAhead 77 = .ok (.iload_n 2, 1) := by decide +kernel
theorem dX3_spreadsAhead_78 : decode cX3_spreadsAhead 78 = .ok (.if_icmp .ge 7, 3) := by decide +kernel
theorem dX3_spreadsAhead_81 : decode cX3_spreadsAhead 81 = .ok (.iconst 1, 1) := by decide +kernel
theorem dX3_spreadsAhead_82 : decode cX3_spreadsAhead 82 = .ok (.goto 4, 3) := by decide +kernel
theorem dX3_spreadsAhead_85 : decode cX3_spreadsAhead 85 = .ok (.iconst 0, 1) := by decide +kernel
theorem dX3_spreadsAhead_86 : decode cX3_spreadsAhead 86 = .ok (.ireturn, 1) := by decide +kernel
theorem dX3_listenerAtRank_0 : decode cX3_listenerAtRank 0 = .ok (.iconst 0, 1) := by decide +kernel
theorem dX3_listenerAtRank_1 : decode cX3_listenerAtRank 1 = .ok (.istore_n 2, 1) := by decide +kernel
theorem dX3_listenerAtRank_2 : decode cX3_listenerAtRank 2 = .ok (.iload_n 2, 1) := by decide +kernel
theorem dX3_listenerAtRank_3 : decode cX3_listenerAtRank 3 = .ok (.aload_n 0, 1) := by decide +kernel
theorem dX3_listenerAtRank_4 : decode cX3_listenerAtRank 4 = .ok (.getfield 12, 3) := by decide +kernel
theorem dX3_listenerAtRank_7 : decode cX3_listenerAtRank 7 = .ok (.getfield 58, 3) := by decide +kernel
theorem dX3_listenerAtRank_10 : decode cX3_listenerAtRank 10 = .ok (.if_icmp .ge 58, 3) := by decide +kernel
theorem dX3_listenerAtRank_13 : decode cX3_listenerAtRank 13 = .ok (.iconst 0, 1) := by decide +kernel
theorem dX3_listenerAtRank_14 : decode cX3_listenerAtRank 14 = .ok (.istore_n 3, 1) := by decide +kernel
theorem dX3_listenerAtRank_15 : decode cX3_listenerAtRank 15 = .ok (.iconst 0, 1) := by decide +kernel
theorem dX3_listenerAtRank_16 : decode cX3_listenerAtRank 16 = .ok (.istore 4, 2) := by decide +kernel
theorem dX3_listenerAtRank_18 : decode cX3_listenerAtRank 18 = .ok (.iload 4, 2) := by decide +kernel
theorem dX3_listenerAtRank_20 : decode cX3_listenerAtRank 20 = .ok (.aload_n 0, 1) := by decide +kernel
theorem dX3_listenerAtRank_21 : decode cX3_listenerAtRank 21 = .ok (.getfield 12, 3) := by decide +kernel
theorem dX3_listenerAtRank_24 : decode cX3_listenerAtRank 24 = .ok (.getfield 58, 3) := by decide +kernel
theorem dX3_listenerAtRank_27 : decode cX3_listenerAtRank 27 = .ok (.if_icmp .ge 28, 3) := by decide +kernel
theorem dX3_listenerAtRank_30 : decode cX3_listenerAtRank 30 = .ok (.iload 4, 2) := by decide +kernel
theorem dX3_listenerAtRank_32 : decode cX3_listenerAtRank 32 = .ok (.iload_n 2, 1) := by decide +kernel
theorem dX3_listenerAtRank_33 : decode cX3_listenerAtRank 33 = .ok (.if_icmp .eq 16, 3) := by decide +kernel
theorem dX3_listenerAtRank_36 : decode cX3_listenerAtRank 36 = .ok (.aload_n 0, 1) := by decide +kernel
theorem dX3_listenerAtRank_37 : decode cX3_listenerAtRank 37 = .ok (.iload 4, 2) := by decide +kernel
theorem dX3_listenerAtRank_39 : decode cX3_listenerAtRank 39 = .ok (.iload_n 2, 1) := by decide +kernel
theorem dX3_listenerAtRank_40 : decode cX3_listenerAtRank 40 = .ok (.invokevirtual 134, 3) := by decide +kernel
theorem dX3_listenerAtRank_43 : decode cX3_listenerAtRank 43 = .ok (.ifCond .eq 6, 3) := by decide +kernel
theorem dX3_listenerAtRank_46 : decode cX3_listenerAtRank 46 = .ok (.iinc 3 1, 3) := by decide +kernel
theorem dX3_listenerAtRank_49 : decode cX3_listenerAtRank 49 = .ok (.iinc 4 1, 3) := by decide +kernel
theorem dX3_listenerAtRank_52 : decode cX3_listenerAtRank 52 = .ok (.goto (-34), 3) := by decide +kernel
theorem dX3_listenerAtRank_55 : decode cX3_listenerAtRank 55 = .ok (.iload_n 3, 1) := by decide +kernel
theorem dX3_listenerAtRank_56 : decode cX3_listenerAtRank 56 = .ok (.iload_n 1, 1) := by decide +kernel
theorem dX3_listenerAtRank_57 : decode cX3_listenerAtRank 57 = .ok (.if_icmp .ne 5, 3) := by decide +kernel
theorem dX3_listenerAtRank_60 : decode cX3_listenerAtRank 60 = .ok (.iload_n 2, 1) := by decide +kernel
theorem dX3_listenerAtRank_61 : decode cX3_listenerAtRank 61 = .ok (.ireturn, 1) := by decide +kernel
theorem dX3_listenerAtRank_62 : decode cX3_listenerAtRank 62 = .ok (.iinc 2 1, 3) := by decide +kernel
theorem dX3_listenerAtRank_65 : decode cX3_listenerAtRank 65 = .ok (.goto (-63), 3) := by decide +kernel
theorem dX3_listenerAtRank_68 : decode cX3_listenerAtRank 68 = .ok (.iconst (-1), 1) := by decide +kernel
theorem dX3_listenerAtRank_69 : decode cX3_listenerAtRank 69 = .ok (.ireturn, 1) := by decide +kernel
theorem dX3_gossipsAhead_0 : decode cX3_gossipsAhead 0 = .ok (.aload_n 0, 1) := by decide +kernel
theorem dX3_gossipsAhead_1 : decode cX3_gossipsAhead 1 = .ok (.iload_n 1, 1) := by decide +kernel
theorem dX3_gossipsAhead_2 : decode cX3_gossipsAhead 2 = .ok (.invokevirtual 137, 3) := by decide +kernel
theorem dX3_gossipsAhead_5 : decode cX3_gossipsAhead 5 = .ok (.istore_n 3, 1) := by decide +kernel
theorem dX3_gossipsAhead_6 : decode cX3_gossipsAhead 6 = .ok (.aload_n 0, 1) := by decide +kernel
theorem dX3_gossipsAhead_7 : decode cX3_gossipsAhead 7 = .ok (.iload_n 2, 1) := by decide +kernel
theorem dX3_gossipsAhead_8 : decode cX3_gossipsAhead 8 = .ok (.invokevirtual 137, 3) := by decide +kernel
theorem dX3_gossipsAhead_11 : decode cX3_gossipsAhead 11 = .ok (.istore 4, 2) := by decide +kernel
theorem dX3_gossipsAhead_13 : decode cX3_gossipsAhead 13 = .ok (.iload_n 3, 1) := by decide +kernel
theorem dX3_gossipsAhead_14 : decode cX3_gossipsAhead 14 = .ok (.iload 4, 2) := by decide +kernel
theorem dX3_gossipsAhead_16 : decode cX3_gossipsAhead 16 = .ok (.if_icmp .eq 15, 3) := by decide +kernel
theorem dX3_gossipsAhead_19 : decode cX3_gossipsAhead 19 = .ok (.iload_n 3, 1) := by decide +kernel
theorem dX3_gossipsAhead_20 : decode cX3_gossipsAhead 20 = .ok (.iload 4, 2) := by decide +kernel
theorem dX3_gossipsAhead_22 : decode cX3_gossipsAhead 22 = .ok (.if_icmp .le 7, 3) := by decide +kernel
theorem dX3_gossipsAhead_25 : decode cX3_gossipsAhead 25 = .ok (.iconst 1, 1) := by decide +kernel
theorem dX3_gossipsAhead_26 : decode cX3_gossipsAhead 26 = .ok (.goto 4, 3) := by decide +kernel
theorem dX3_gossipsAhead_29 : decode cX3_gossipsAhead 29 = .ok (.iconst 0, 1) := by decide +kernel
theorem dX3_gossipsAhead_30 : decode cX3_gossipsAhead 30 = .ok (.ireturn, 1) := by decide +kernel
theorem dX3_gossipsAhead_31 : decode cX3_gossipsAhead 31 = .ok (.aload_n 0, 1) := by decide +kernel
theorem dX3_gossipsAhead_32 : decode cX3_gossipsAhead 32 = .ok (.getfield 22, 3) := by decide +kernel
theorem dX3_gossipsAhead_35 : decode cX3_gossipsAhead 35 = .ok (.iload_n 1, 1) := by decide +kernel
theorem dX3_gossipsAhead_36 : decode cX3_gossipsAhead 36 = .ok (.iaload, 1) := by decide +kernel
theorem dX3_gossipsAhead_37 : decode cX3_gossipsAhead 37 = .ok (.aload_n 0, 1) := by decide +kernel
theorem dX3_gossipsAhead_38 : decode cX3_gossipsAhead 38 = .ok (.getfield 22, 3) := by decide +kernel
theorem dX3_gossipsAhead_41 : decode cX3_gossipsAhead 41 = .ok (.iload_n 2, 1) := by decide +kernel
theorem dX3_gossipsAhead_42 : decode cX3_gossipsAhead 42 = .ok (.iaload, 1) := by decide +kernel
theorem dX3_gossipsAhead_43 : decode cX3_gossipsAhead 43 = .ok (.if_icmp .eq 24, 3) := by decide +kernel
theorem dX3_gossipsAhead_46 : decode cX3_gossipsAhead 46 = .ok (.aload_n 0, 1) := by decide +kernel
theorem dX3_gossipsAhead_47 : decode cX3_gossipsAhead 47 = .ok (.getfield 22, 3) := by decide +kernel
theorem dX3_gossipsAhead_50 : decode cX3_gossipsAhead 50 = .ok (.iload_n 1, 1) := by decide +kernel
theorem dX3_gossipsAhead_51 : decode cX3_gossipsAhead 51 = .ok (.iaload, 1) := by decide +kernel
theorem dX3_gossipsAhead_52 : decode cX3_gossipsAhead 52 = .ok (.aload_n 0, 1) := by decide +kernel
theorem dX3_gossipsAhead_53 : decode cX3_gossipsAhead 53 = .ok (.getfield 22, 3) := by decide +kernel
theorem dX3_gossipsAhead_56 : decode cX3_gossipsAhead 56 = .ok (.iload_n 2, 1) := by decide +kernel
theorem dX3_gossipsAhead_57 : decode cX3_gossipsAhead 57 = .ok (.iaload, 1) := by decide +kernel
theorem dX3_gossipsAhead_58 : decode cX3_gossipsAhead 58 = .ok (.if_icmp .ge 7, 3) := by decide +kernel
theorem dX3_gossipsAhead_61 : decode cX3_gossipsAhead 61 = .ok (.iconst 1, 1) := by decide +kernel
theorem dX3_gossipsAhead_62 : decode cX3_gossipsAhead 62 = .ok (.goto 4, 3) := by decide +kernel
theorem dX3_gossipsAhead_65 : decode cX3_gossipsAhead 65 = .ok (.iconst 0, 1) := by decide +kernel
theorem dX3_gossipsAhead_66 : decode cX3_gossipsAhead 66 = .ok (.ireturn, 1) := by decide +kernel
theorem dX3_gossipsAhead_67 : decode cX3_gossipsAhead 67 = .ok (.iload_n 1, 1) := by decide +kernel
theorem dX3_gossipsAhead_68 : decode cX3_gossipsAhead 68 = .ok (.iload_n 2, 1) := by decide +kernel
theorem dX3_gossipsAhead_69 : decode cX3_gossipsAhead 69 = .ok (.if_icmp .ge 7, 3) := by decide +kernel
theorem dX3_gossipsAhead_72 : decode cX3_gossipsAhead 72 = .ok (.iconst 1, 1) := by decide +kernel
theorem dX3_gossipsAhead_73 : decode cX3_gossipsAhead 73 = .ok (.goto 4, 3) := by decide +kernel
theorem dX3_gossipsAhead_76 : decode cX3_gossipsAhead 76 = .ok (.iconst 0, 1) := by decide +kernel
theorem dX3_gossipsAhead_77 : decode cX3_gossipsAhead 77 = .ok (.ireturn, 1) := by decide +kernel
theorem dX3_spreadBy_0 : decode cX3_spreadBy 0 = .ok (.iconst 0, 1) := by decide +kernel
theorem dX3_spreadBy_1 : decode cX3_spreadBy 1 = .ok (.istore_n 2, 1) := by decide +kernel
theorem dX3_spreadBy_2 : decode cX3_spreadBy 2 = .ok (.iconst 0, 1) := by decide +kernel
theorem dX3_spreadBy_3 : decode cX3_spreadBy 3 = .ok (.istore_n 3, 1) := by decide +kernel
theorem dX3_spreadBy_4 : decode cX3_spreadBy 4 = .ok (.iload_n 3, 1) := by decide +kernel
theorem dX3_spreadBy_5 : decode cX3_spreadBy 5 = .ok (.aload_n 0, 1) := by decide +kernel
theorem dX3_spreadBy_6 : decode cX3_spreadBy 6 = .ok (.getfield 31, 3) := by decide +kernel
theorem dX3_spreadBy_9 : decode cX3_spreadBy 9 = .ok (.if_icmp .ge 28, 3) := by decide +kernel
theorem dX3_spreadBy_12 : decode cX3_spreadBy 12 = .ok (.aload_n 0, 1) := by decide +kernel
theorem dX3_spreadBy_13 : decode cX3_spreadBy 13 = .ok (.getfield 27, 3) := by decide +kernel
theorem dX3_spreadBy_16 : decode cX3_spreadBy 16 = .ok (.iload_n 3, 1) := by decide +kernel
theorem dX3_spreadBy_17 : decode cX3_spreadBy 17 = .ok (.aaload, 1) := by decide +kernel
theorem dX3_spreadBy_18 : decode cX3_spreadBy 18 = .ok (.getfield 82, 3) := by decide +kernel
theorem dX3_spreadBy_21 : decode cX3_spreadBy 21 = .ok (.iload_n 1, 1) := by decide +kernel
theorem dX3_spreadBy_22 : decode cX3_spreadBy 22 = .ok (.invokestatic 85, 3) := by decide +kernel
theorem dX3_spreadBy_25 : decode cX3_spreadBy 25 = .ok (.ifCond .eq 6, 3) := by decide +kernel
theorem dX3_spreadBy_28 : decode cX3_spreadBy 28 = .ok (.iinc 2 1, 3) := by decide +kernel
theorem dX3_spreadBy_31 : decode cX3_spreadBy 31 = .ok (.iinc 3 1, 3) := by decide +kernel
theorem dX3_spreadBy_34 : decode cX3_spreadBy 34 = .ok (.goto (-30), 3) := by decide +kernel
theorem dX3_spreadBy_37 : decode cX3_spreadBy 37 = .ok (.iload_n 2, 1) := by decide +kernel
theorem dX3_spreadBy_38 : decode cX3_spreadBy 38 = .ok (.ireturn, 1) := by decide +kernel
theorem dX3_gossips_0 : decode cX3_gossips 0 = .ok (.iconst 0, 1) := by decide +kernel
theorem dX3_gossips_1 : decode cX3_gossips 1 = .ok (.istore_n 1, 1) := by decide +kernel
theorem dX3_gossips_2 : decode cX3_gossips 2 = .ok (.iconst 0, 1) := by decide +kernel
theorem dX3_gossips_3 : decode cX3_gossips 3 = .ok (.istore_n 2, 1) := by decide +kernel
theorem dX3_gossips_4 : decode cX3_gossips 4 = .ok (.iload_n 2, 1) := by decide +kernel
theorem dX3_gossips_5 : decode cX3_gossips 5 = .ok (.aload_n 0, 1) := by decide +kernel
theorem dX3_gossips_6 : decode cX3_gossips 6 = .ok (.getfield 31, 3) := by decide +kernel
theorem dX3_gossips_9 : decode cX3_gossips 9 = .ok (.if_icmp .ge 21, 3) := by decide +kernel
theorem dX3_gossips_12 : decode cX3_gossips 12 = .ok (.iload_n 1, 1) := by decide +kernel
theorem dX3_gossips_13 : decode cX3_gossips 13 = .ok (.aload_n 0, 1) := by decide +kernel
theorem dX3_gossips_14 : decode cX3_gossips 14 = .ok (.getfield 27, 3) := by decide +kernel
theorem dX3_gossips_17 : decode cX3_gossips 17 = .ok (.iload_n 2, 1) := by decide +kernel
theorem dX3_gossips_18 : decode cX3_gossips 18 = .ok (.aaload, 1) := by decide +kernel
theorem dX3_gossips_19 : decode cX3_gossips 19 = .ok (.getfield 82, 3) := by decide +kernel
theorem dX3_gossips_22 : decode cX3_gossips 22 = .ok (.ior, 1) := by decide +kernel
theorem dX3_gossips_23 : decode cX3_gossips 23 = .ok (.istore_n 1, 1) := by decide +kernel
theorem dX3_gossips_24 : decode cX3_gossips 24 = .ok (.iinc 2 1, 3) := by decide +kernel
theorem dX3_gossips_27 : decode cX3_gossips 27 = .ok (.goto (-23), 3) := by decide +kernel
theorem dX3_gossips_30 : decode cX3_gossips 30 = .ok (.iload_n 1, 1) := by decide +kernel
theorem dX3_gossips_31 : decode cX3_gossips 31 = .ok (.ireturn, 1) := by decide +kernel
theorem dX3_sumOfDoubts_0 : decode cX3_sumOfDoubts 0 = .ok (.iconst 0, 1) := by decide +kernel
theorem dX3_sumOfDoubts_1 : decode cX3_sumOfDoubts 1 = .ok (.istore_n 1, 1) := by decide +kernel
theorem dX3_sumOfDoubts_2 : decode cX3_sumOfDoubts 2 = .ok (.iconst 0, 1) := by decide +kernel
theorem dX3_sumOfDoubts_3 : decode cX3_sumOfDoubts 3 = .ok (.istore_n 2, 1) := by decide +kernel
theorem dX3_sumOfDoubts_4 : decode cX3_sumOfDoubts 4 = .ok (.iload_n 2, 1) := by decide +kernel
theorem dX3_sumOfDoubts_5 : decode cX3_sumOfDoubts 5 = .ok (.aload_n 0, 1) := by decide +kernel
theorem dX3_sumOfDoubts_6 : decode cX3_sumOfDoubts 6 = .ok (.getfield 12, 3) := by decide +kernel
theorem dX3_sumOfDoubts_9 : decode cX3_sumOfDoubts 9 = .ok (.getfield 58, 3) := by decide +kernel
theorem dX3_sumOfDoubts_12 : decode cX3_sumOfDoubts 12 = .ok (.if_icmp .ge 18, 3) := by decide +kernel
theorem dX3_sumOfDoubts_15 : decode cX3_sumOfDoubts 15 = .ok (.iload_n 1, 1) := by decide +kernel
theorem dX3_sumOfDoubts_16 : decode cX3_sumOfDoubts 16 = .ok (.aload_n 0, 1) := by decide +kernel
theorem dX3_sumOfDoubts_17 : decode cX3_sumOfDoubts 17 = .ok (.getfield 22, 3) := by decide +kernel
theorem dX3_sumOfDoubts_20 : decode cX3_sumOfDoubts 20 = .ok (.iload_n 2, 1) := by decide +kernel
theorem dX3_sumOfDoubts_21 : decode cX3_sumOfDoubts 21 = .ok (.iaload, 1) := by decide +kernel
theorem dX3_sumOfDoubts_22 : decode cX3_sumOfDoubts 22 = .ok (.iadd, 1) := by decide +kernel
theorem dX3_sumOfDoubts_23 : decode cX3_sumOfDoubts 23 = .ok (.istore_n 1, 1) := by decide +kernel
theorem dX3_sumOfDoubts_24 : decode cX3_sumOfDoubts 24 = .ok (.iinc 2 1, 3) := by decide +kernel
theorem dX3_sumOfDoubts_27 : decode cX3_sumOfDoubts 27 = .ok (.goto (-23), 3) := by decide +kernel
theorem dX3_sumOfDoubts_30 : decode cX3_sumOfDoubts 30 = .ok (.iload_n 1, 1) := by decide +kernel
theorem dX3_sumOfDoubts_31 : decode cX3_sumOfDoubts 31 = .ok (.ireturn, 1) := by decide +kernel
theorem dX3_distancesAgree_0 : decode cX3_distancesAgree 0 = .ok (.iconst 0, 1) := by decide +kernel
theorem dX3_distancesAgree_1 : decode cX3_distancesAgree 1 = .ok (.istore_n 1, 1) := by decide +kernel
theorem dX3_distancesAgree_2 : decode cX3_distancesAgree 2 = .ok (.iload_n 1, 1) := by decide +kernel
theorem dX3_distancesAgree_3 : decode cX3_distancesAgree 3 = .ok (.aload_n 0, 1) := by decide +kernel
theorem dX3_distancesAgree_4 : decode cX3_distancesAgree 4 = .ok (.getfield 31, 3) := by decide +kernel
theorem dX3_distancesAgree_7 : decode cX3_distancesAgree 7 = .ok (.if_icmp .ge 61, 3) := by decide +kernel
theorem dX3_distancesAgree_10 : decode cX3_distancesAgree 10 = .ok (.aload_n 0, 1) := by decide +kernel
theorem dX3_distancesAgree_11 : decode cX3_distancesAgree 11 = .ok (.getfield 27, 3) := by decide +kernel
theorem dX3_distancesAgree_14 : decode cX3_distancesAgree 14 = .ok (.iload_n 1, 1) := by decide +kernel
theorem dX3_distancesAgree_15 : decode cX3_distancesAgree 15 = .ok (.aaload, 1) := by decide +kernel
theorem dX3_distancesAgree_16 : decode cX3_distancesAgree 16 = .ok (.getfield 82, 3) := by decide +kernel
theorem dX3_distancesAgree_19 : decode cX3_distancesAgree 19 = .ok (.istore_n 2, 1) := by decide +kernel
theorem dX3_distancesAgree_20 : decode cX3_distancesAgree 20 = .ok (.iconst 0, 1) := by decide +kernel
theorem dX3_distancesAgree_21 : decode cX3_distancesAgree 21 = .ok (.istore_n 3, 1) := by decide +kernel
theorem dX3_distancesAgree_22 : decode cX3_distancesAgree 22 = .ok (.iload_n 3, 1) := by decide +kernel
theorem dX3_distancesAgree_23 : decode cX3_distancesAgree 23 = .ok (.aload_n 0, 1) := by decide +kernel
theorem dX3_distancesAgree_24 : decode cX3_distancesAgree 24 = .ok (.getfield 12, 3) := by decide +kernel
theorem dX3_distancesAgree_27 : decode cX3_distancesAgree 27 = .ok (.getfield 58, 3) := by decide +kernel
theorem dX3_distancesAgree_30 : decode cX3_distancesAgree 30 = .ok (.if_icmp .ge 32, 3) := by decide +kernel
theorem dX3_distancesAgree_33 : decode cX3_distancesAgree 33 = .ok (.aload_n 0, 1) := by decide +kernel
theorem dX3_distancesAgree_34 : decode cX3_distancesAgree 34 = .ok (.getfield 12, 3) := by decide +kernel
theorem dX3_distancesAgree_37 : decode cX3_distancesAgree 37 = .ok (.iload_n 3, 1) := by decide +kernel
theorem dX3_distancesAgree_38 : decode cX3_distancesAgree 38 = .ok (.iload_n 2, 1) := by decide +kernel
theorem dX3_distancesAgree_39 : decode cX3_distancesAgree 39 = .ok (.invokevirtual 140, 3) := by decide +kernel
theorem dX3_distancesAgree_42 : decode cX3_distancesAgree 42 = .ok (.aload_n 0, 1) := by decide +kernel
theorem dX3_distancesAgree_43 : decode cX3_distancesAgree 43 = .ok (.getfield 12, 3) := by decide +kernel
theorem dX3_distancesAgree_46 : decode cX3_distancesAgree 46 = .ok (.iload_n 3, 1) := by decide +kernel
theorem dX3_distancesAgree_47 : decode cX3_distancesAgree 47 = .ok (.iload_n 2, 1) := by decide +kernel
theorem dX3_distancesAgree_48 : decode cX3_distancesAgree 48 = .ok (.invokevirtual 144, 3) := by decide +kernel
theorem dX3_distancesAgree_51 : decode cX3_distancesAgree 51 = .ok (.if_icmp .eq 5, 3) := by decide +kernel
theorem dX3_distancesAgree_54 : decode cX3_distancesAgree 54 = .ok (.iconst 0, 1) := by decide +kernel
theorem dX3_distancesAgree_55 : decode cX3_distancesAgree 55 = .ok (.ireturn, 1) := by decide +kernel
theorem dX3_distancesAgree_56 : decode cX3_distancesAgree 56 = .ok (.iinc 3 1, 3) := by decide +kernel
theorem dX3_distancesAgree_59 : decode cX3_distancesAgree 59 = .ok (.goto (-37), 3) := by decide +kernel
theorem dX3_distancesAgree_62 : decode cX3_distancesAgree 62 = .ok (.iinc 1 1, 3) := by decide +kernel
theorem dX3_distancesAgree_65 : decode cX3_distancesAgree 65 = .ok (.goto (-63), 3) := by decide +kernel
theorem dX3_distancesAgree_68 : decode cX3_distancesAgree 68 = .ok (.iconst 1, 1) := by decide +kernel
theorem dX3_distancesAgree_69 : decode cX3_distancesAgree 69 = .ok (.ireturn, 1) := by decide +kernel
theorem dX3_standsAreClear_0 : decode cX3_standsAreClear 0 = .ok (.iconst 0, 1) := by decide +kernel
theorem dX3_standsAreClear_1 : decode cX3_standsAreClear 1 = .ok (.istore_n 1, 1) := by decide +kernel
theorem dX3_standsAreClear_2 : decode cX3_standsAreClear 2 = .ok (.iload_n 1, 1) := by decide +kernel
theorem dX3_standsAreClear_3 : decode cX3_standsAreClear 3 = .ok (.aload_n 0, 1) := by decide +kernel
theorem dX3_standsAreClear_4 : decode cX3_standsAreClear 4 = .ok (.getfield 31, 3) := by decide +kernel
theorem dX3_standsAreClear_7 : decode cX3_standsAreClear 7 = .ok (.if_icmp .ge 33, 3) := by decide +kernel
theorem dX3_standsAreClear_10 : decode cX3_standsAreClear 10 = .ok (.aload_n 0, 1) := by decide +kernel
theorem dX3_standsAreClear_11 : decode cX3_standsAreClear 11 = .ok (.getfield 27, 3) := by decide +kernel
theorem dX3_standsAreClear_14 : decode cX3_standsAreClear 14 = .ok (.iload_n 1, 1) := by decide +kernel
theorem dX3_standsAreClear_15 : decode cX3_standsAreClear 15 = .ok (.aaload, 1) := by decide +kernel
theorem dX3_standsAreClear_16 : decode cX3_standsAreClear 16 = .ok (.getfield 82, 3) := by decide +kernel
theorem dX3_standsAreClear_19 : decode cX3_standsAreClear 19 = .ok (.aload_n 0, 1) := by decide +kernel
theorem dX3_standsAreClear_20 : decode cX3_standsAreClear 20 = .ok (.getfield 27, 3) := by decide +kernel
theorem dX3_standsAreClear_23 : decode cX3_standsAreClear 23 = .ok (.iload_n 1, 1) := by decide +kernel
theorem dX3_standsAreClear_24 : decode cX3_standsAreClear 24 = .ok (.aaload, 1) := by decide +kernel
theorem dX3_standsAreClear_25 : decode cX3_standsAreClear 25 = .ok (.getfield 91, 3) := by decide +kernel
theorem dX3_standsAreClear_28 : decode cX3_standsAreClear 28 = .ok (.iand, 1) := by decide +kernel
theorem dX3_standsAreClear_29 : decode cX3_standsAreClear 29 = .ok (.ifCond .eq 5, 3) := by decide +kernel
theorem dX3_standsAreClear_32 : decode cX3_standsAreClear 32 = .ok (.iconst 0, 1) := by decide +kernel
theorem dX3_standsAreClear_33 : decode cX3_standsAreClear 33 = .ok (.ireturn, 1) := by decide +kernel
theorem dX3_standsAreClear_34 : decode cX3_standsAreClear 34 = .ok (.iinc 1 1, 3) := by decide +kernel
theorem dX3_standsAreClear_37 : decode cX3_standsAreClear 37 = .ok (.goto (-35), 3) := by decide +kernel
theorem dX3_standsAreClear_40 : decode cX3_standsAreClear 40 = .ok (.iconst 1, 1) := by decide +kernel
theorem dX3_standsAreClear_41 : decode cX3_standsAreClear 41 = .ok (.ireturn, 1) := by decide +kernel
theorem dX3_hivesAddUp_0 : decode cX3_hivesAddUp 0 = .ok (.iconst 0, 1) := by decide +kernel
theorem dX3_hivesAddUp_1 : decode cX3_hivesAddUp 1 = .ok (.istore_n 1, 1) := by decide +kernel
theorem dX3_hivesAddUp_2 : decode cX3_hivesAddUp 2 = .ok (.iconst 0, 1) := by decide +kernel
theorem dX3_hivesAddUp_3 : decode cX3_hivesAddUp 3 = .ok (.istore_n 2, 1) := by decide +kernel
theorem dX3_hivesAddUp_4 : decode cX3_hivesAddUp 4 = .ok (.iload_n 2, 1) := by decide +kernel
theorem dX3_hivesAddUp_5 : decode cX3_hivesAddUp 5 = .ok (.iconst 4, 1) := by decide +kernel
theorem dX3_hivesAddUp_6 : decode cX3_hivesAddUp 6 = .ok (.if_icmp .ge 20, 3) := by decide +kernel
theorem dX3_hivesAddUp_9 : decode cX3_hivesAddUp 9 = .ok (.iload_n 1, 1) := by decide +kernel
theorem dX3_hivesAddUp_10 : decode cX3_hivesAddUp 10 = .ok (.aload_n 0, 1) := by decide +kernel
theorem dX3_hivesAddUp_11 : decode cX3_hivesAddUp 11 = .ok (.iload_n 2, 1) := by decide +kernel
theorem dX3_hivesAddUp_12 : decode cX3_hivesAddUp 12 = .ok (.invokevirtual 128, 3) := by decide +kernel
theorem dX3_hivesAddUp_15 : decode cX3_hivesAddUp 15 = .ok (.invokestatic 102, 3) := by decide +kernel
theorem dX3_hivesAddUp_18 : decode cX3_hivesAddUp 18 = .ok (.iadd, 1) := by decide +kernel
theorem dX3_hivesAddUp_19 : decode cX3_hivesAddUp 19 = .ok (.istore_n 1, 1) := by decide +kernel
theorem dX3_hivesAddUp_20 : decode cX3_hivesAddUp 20 = .ok (.iinc 2 1, 3) := by decide +kernel
theorem dX3_hivesAddUp_23 : decode cX3_hivesAddUp 23 = .ok (.goto (-19), 3) := by decide +kernel
theorem dX3_hivesAddUp_26 : decode cX3_hivesAddUp 26 = .ok (.iload_n 1, 1) := by decide +kernel
theorem dX3_hivesAddUp_27 : decode cX3_hivesAddUp 27 = .ok (.aload_n 0, 1) := by decide +kernel
theorem dX3_hivesAddUp_28 : decode cX3_hivesAddUp 28 = .ok (.getfield 12, 3) := by decide +kernel
theorem dX3_hivesAddUp_31 : decode cX3_hivesAddUp 31 = .ok (.getfield 58, 3) := by decide +kernel
theorem dX3_hivesAddUp_34 : decode cX3_hivesAddUp 34 = .ok (.if_icmp .ne 7, 3) := by decide +kernel
theorem dX3_hivesAddUp_37 : decode cX3_hivesAddUp 37 = .ok (.iconst 1, 1) := by decide +kernel
theorem dX3_hivesAddUp_38 : decode cX3_hivesAddUp 38 = .ok (.goto 4, 3) := by decide +kernel
theorem dX3_hivesAddUp_41 : decode cX3_hivesAddUp 41 = .ok (.iconst 0, 1) := by decide +kernel
theorem dX3_hivesAddUp_42 : decode cX3_hivesAddUp 42 = .ok (.ireturn, 1) := by decide +kernel
theorem dX4_init_0 : decode cX4_init 0 = .ok (.aload_n 0, 1) := by decide +kernel
theorem dX4_init_1 : decode cX4_init 1 = .ok (.invokespecial 3, 3) := by decide +kernel
theorem dX4_init_4 : decode cX4_init 4 = .ok (.aload_n 0, 1) := by decide +kernel
theorem dX4_init_5 : decode cX4_init 5 = .ok (.bipush 60, 2) := by decide +kernel
theorem dX4_init_7 : decode cX4_init 7 = .ok (.newarray .char, 2) := by decide +kernel
theorem dX4_init_9 : decode cX4_init 9 = .ok (.putfield 9, 3) := by decide +kernel
theorem dX4_init_12 : decode cX4_init 12 = .ok (.aload_n 0, 1) := by decide +kernel
theorem dX4_init_13 : decode cX4_init 13 = .ok (.iconst 0, 1) := by decide +kernel
theorem dX4_init_14 : decode cX4_init 14 = .ok (.putfield 15, 3) := by decide +kernel
theorem dX4_init_17 : decode cX4_init 17 = .ok (.aload_n 0, 1) := by decide +kernel
theorem dX4_init_18 : decode cX4_init 18 = .ok (.bipush 60, 2) := by decide +kernel
theorem dX4_init_20 : decode cX4_init 20 = .ok (.newarray .int, 2) := by decide +kernel
theorem dX4_init_22 : decode cX4_init 22 = .ok (.putfield 19, 3) := by decide +kernel
theorem dX4_init_25 : decode cX4_init 25 = .ok (.aload_n 0, 1) := by decide +kernel
theorem dX4_init_26 : decode cX4_init 26 = .ok (.bipush 60, 2) := by decide +kernel
theorem dX4_init_28 : decode cX4_init 28 = .ok (.newarray .int, 2) := by decide +kernel
theorem dX4_init_30 : decode cX4_init 30 = .ok (.putfield 23, 3) := by decide +kernel
theorem dX4_init_33 : decode cX4_init 33 = .ok (.aload_n 0, 1) := by decide +kernel
theorem dX4_init_34 : decode cX4_init 34 = .ok (.bipush 60, 2) := by decide +kernel
theorem dX4_init_36 : decode cX4_init 36 = .ok (.newarray .int, 2) := by decide +kernel
theorem dX4_init_38 : decode cX4_init 38 = .ok (.putfield 26, 3) := by decide +kernel
theorem dX4_init_41 : decode cX4_init 41 = .ok (.aload_n 0, 1) := by decide +kernel
theorem dX4_init_42 : decode cX4_init 42 = .ok (.iconst 0, 1) := by decide +kernel
theorem dX4_init_43 : decode cX4_init 43 = .ok (.putfield 29, 3) := by decide +kernel
theorem dX4_init_46 : decode cX4_init 46 = .ok (.aload_n 0, 1) := by decide +kernel
theorem dX4_init_47 : decode cX4_init 47 = .ok (.iconst 0, 1) := by decide +kernel
theorem dX4_init_48 : decode cX4_init 48 = .ok (.putfield 32, 3) := by decide +kernel
theorem dX4_init_51 : decode cX4_init 51 = .ok (.aload_n 0, 1) := by decide +kernel
theorem dX4_init_52 : decode cX4_init 52 = .ok (.iconst 0, 1) := by decide +kernel
theorem dX4_init_53 : decode cX4_init 53 = .ok (.putfield 35, 3) := by decide +kernel
theorem dX4_init_56 : decode cX4_init 56 = .ok (.aload_n 0, 1) := by decide +kernel
theorem dX4_init_57 : decode cX4_init 57 = .ok (.iconst 0, 1) := by decide +kernel
theorem dX4_init_58 : decode cX4_init 58 = .ok (.putfield 39, 3) := by decide +kernel
theorem dX4_init_61 : decode cX4_init 61 = .ok (.aload_n 0, 1) := by decide +kernel
theorem dX4_init_62 : decode cX4_init 62 = .ok (.iconst 0, 1) := by decide +kernel
theorem dX4_init_63 : decode cX4_init 63 = .ok (.putfield 42, 3) := by decide +kernel
theorem dX4_init_66 : decode cX4_init 66 = .ok (.aload_n 0, 1) := by decide +kernel
theorem dX4_init_67 : decode cX4_init 67 = .ok (.iconst 0, 1) := by decide +kernel
theorem dX4_init_68 : decode cX4_init 68 = .ok (.putfield 45, 3) := by decide +kernel
theorem dX4_init_71 : decode cX4_init 71 = .ok (.return_, 1) := by decide +kernel
theorem dX4_put_0 : decode cX4_put 0 = .ok (.aload_n 0, 1) := by decide +kernel
theorem dX4_put_1 : decode cX4_put 1 = .ok (.getfield 9, 3) := by decide +kernel
theorem dX4_put_4 : decode cX4_put 4 = .ok (.aload_n 0, 1) := by decide +kernel
theorem dX4_put_5 : decode cX4_put 5 = .ok (.getfield 15, 3) := by decide +kernel
theorem dX4_put_8 : decode cX4_put 8 = .ok (.iload_n 1, 1) := by decide +kernel
theorem dX4_put_9 : decode cX4_put 9 = .ok (.castore, 1) := by decide +kernel
theorem dX4_put_10 : decode cX4_put 10 = .ok (.aload_n 0, 1) := by decide +kernel
theorem dX4_put_11 : decode cX4_put 11 = .ok (.dup, 1) := by decide +kernel
theorem dX4_put_12 : decode cX4_put 12 = .ok (.getfield 15, 3) := by decide +kernel
theorem dX4_put_15 : decode cX4_put 15 = .ok (.iconst 1, 1) := by decide +kernel
theorem dX4_put_16 : decode cX4_put 16 = .ok (.iadd, 1) := by decide +kernel
theorem dX4_put_17 : decode cX4_put 17 = .ok (.putfield 15, 3) := by decide +kernel
theorem dX4_put_20 : decode cX4_put 20 = .ok (.return_, 1) := by decide +kernel
theorem dX4_readAll_0 : decode cX4_readAll 0 = .ok (.aload_n 0, 1) := by decide +kernel
theorem dX4_readAll_1 : decode cX4_readAll 1 = .ok (.iconst 0, 1) := by decide +kernel
theorem dX4_readAll_2 : decode cX4_readAll 2 = .ok (.putfield 29, 3) := by decide +kernel
theorem dX4_readAll_5 : decode cX4_readAll 5 = .ok (.iconst 0, 1) := by decide +kernel
theorem dX4_readAll_6 : decode cX4_readAll 6 = .ok (.istore_n 1, 1) := by decide +kernel
theorem dX4_readAll_7 : decode cX4_readAll 7 = .ok (.aload_n 0, 1) := by decide +kernel
theorem dX4_readAll_8 : decode cX4_readAll 8 = .ok (.getfield 29, 3) := by decide +kernel
theorem dX4_readAll_11 : decode cX4_readAll 11 = .ok (.bipush 60, 2) := by decide +kernel
theorem dX4_readAll_13 : decode cX4_readAll 13 = .ok (.if_icmp .ge 74, 3) := by decide +kernel
theorem dX4_readAll_16 : decode cX4_readAll 16 = .ok (.aload_n 0, 1) := by decide +kernel
theorem dX4_readAll_17 : decode cX4_readAll 17 = .ok (.iload_n 1, 1) := by decide +kernel
theorem dX4_readAll_18 : decode cX4_readAll 18 = .ok (.invokevirtual 48, 3) := by decide +kernel
theorem dX4_readAll_21 : decode cX4_readAll 21 = .ok (.istore_n 2, 1) := by decide +kernel
theorem dX4_readAll_22 : decode cX4_readAll 22 = .ok (.aload_n 0, 1) := by decide +kernel
theorem dX4_readAll_23 : decode cX4_readAll 23 = .ok (.iload_n 2, 1) := by decide +kernel
theorem dX4_readAll_24 : decode cX4_readAll 24 = .ok (.iload_n 1, 1) := by decide +kernel
theorem dX4_readAll_25 : decode cX4_readAll 25 = .ok (.invokevirtual 52, 3) := by decide +kernel
theorem dX4_readAll_28 : decode cX4_readAll 28 = .ok (.aload_n 0, 1) := by decide +kernel
theorem dX4_readAll_29 : decode cX4_readAll 29 = .ok (.getfield 35, 3) := by decide +kernel
theorem dX4_readAll_32 : decode cX4_readAll 32 = .ok (.ifCond .ne 8, 3) := by decide +kernel
theorem dX4_readAll_35 : decode cX4_readAll 35 = .ok (.aload_n 0, 1) := by decide +kernel
theorem dX4_readAll_36 : decode cX4_readAll 36 = .ok (.getfield 32, 3) := by decide +kernel
theorem dX4_readAll_39 : decode cX4_readAll 39 = .ok (.ireturn, 1) := by decide +kernel
theorem dX4_readAll_40 : decode cX4_readAll 40 = .ok (.aload_n 0, 1) := by decide +kernel
theorem dX4_readAll_41 : decode cX4_readAll 41 = .ok (.iload_n 2, 1) := by decide +kernel
theorem dX4_readAll_42 : decode cX4_readAll 42 = .ok (.invokevirtual 56, 3) := by decide +kernel
theorem dX4_readAll_45 : decode cX4_readAll 45 = .ok (.aload_n 0, 1) := by decide +kernel
theorem dX4_readAll_46 : decode cX4_readAll 46 = .ok (.getfield 32, 3) := by decide +kernel
theorem dX4_readAll_49 : decode cX4_readAll 49 = .ok (.aload_n 0, 1) := by decide +kernel
theorem dX4_readAll_50 : decode cX4_readAll 50 = .ok (.getfield 15, 3) := by decide +kernel
theorem dX4_readAll_53 : decode cX4_readAll 53 = .ok (.if_icmp .ne 5, 3) := by decide +kernel
theorem dX4_readAll_56 : decode cX4_readAll 56 = .ok (.iconst (-1), 1) := by decide +kernel
theorem dX4_readAll_57 : decode cX4_readAll 57 = .ok (.ireturn, 1) := by decide +kernel
theorem dX4_readAll_58 : decode cX4_readAll 58 = .ok (.aload_n 0, 1) := by decide +kernel
theorem dX4_readAll_59 : decode cX4_readAll 59 = .ok (.getfield 9, 3) := by decide +kernel
theorem dX4_readAll_62 : decode cX4_readAll 62 = .ok (.aload_n 0, 1) := by decide +kernel
theorem dX4_readAll_63 : decode cX4_readAll 63 = .ok (.getfield 32, 3) := by decide +kernel
theorem dX4_readAll_66 : decode cX4_readAll 66 = .ok (.caload, 1) := by decide +kernel
theorem dX4_readAll_67 : decode cX4_readAll 67 = .ok (.bipush 59, 2) := by decide +kernel
theorem dX4_readAll_69 : decode cX4_readAll 69 = .ok (.if_icmp .eq 8, 3) := by decide +kernel
theorem dX4_readAll_72 : decode cX4_readAll 72 = .ok (.aload_n 0, 1) := by decide +kernel
theorem dX4_readAll_73 : decode cX4_readAll 73 = .ok (.getfield 32, 3) := by decide +kernel
theorem dX4_readAll_76 : decode cX4_readAll 76 = .ok (.ireturn, 1) := by decide +kernel
theorem dX4_readAll_77 : decode cX4_readAll 77 = .ok (.aload_n 0, 1) := by decide +kernel
theorem dX4_readAll_78 : decode cX4_readAll 78 = .ok (.getfield 32, 3) := by decide +kernel
theorem dX4_readAll_81 : decode cX4_readAll 81 = .ok (.iconst 1, 1) := by decide +kernel
theorem dX4_readAll_82 : decode cX4_readAll 82 = .ok (.iadd, 1) := by decide +kernel
theorem dX4_readAll_83 : decode cX4_readAll 83 = .ok (.istore_n 1, 1) := by decide +kernel
theorem dX4_readAll_84 : decode cX4_readAll 84 = .ok (.goto (-77), 3) := by decide +kernel
theorem dX4_readAll_87 : decode cX4_readAll 87 = .ok (.iload_n 1, 1) := by decide +kernel
theorem dX4_readAll_88 : decode cX4_readAll 88 = .ok (.ireturn, 1) := by decide +kernel
theorem dX4_keepCommand_0 : decode cX4_keepCommand 0 = .ok (.aload_n 0, 1) := by decide +kernel
theorem dX4_keepCommand_1 : decode cX4_keepCommand 1 = .ok (.getfield 19, 3) := by decide +kernel
theorem dX4_keepCommand_4 : decode cX4_keepCommand 4 = .ok (.aload_n 0, 1) := by decide +kernel
theorem dX4_keepCommand_5 : decode cX4_keepCommand 5 = .ok (.getfield 29, 3) := by decide +kernel
theorem dX4_keepCommand_8 : decode cX4_keepCommand 8 = .ok (.iload_n 1, 1) := by decide +kernel
theorem dX4_keepCommand_9 : decode cX4_keepCommand 9 = .ok (.iastore, 1) := by decide +kernel
theorem dX4_keepCommand_10 : decode cX4_keepCommand 10 = .ok (.aload_n 0, 1) := by decide +kernel
theorem dX4_keepCommand_11 : decode cX4_keepCommand 11 = .ok (.getfield 23, 3) := by decide +kernel
theorem dX4_keepCommand_14 : decode cX4_keepCommand 14 = .ok (.aload_n 0, 1) := by decide +kernel
theorem dX4_keepCommand_15 : decode cX4_keepCommand 15 = .ok (.getfield 29, 3) := by decide +kernel
theorem dX4_keepCommand_18 : decode cX4_keepCommand 18 = .ok (.iload_n 1, 1) := by decide +kernel
theorem dX4_keepCommand_19 : decode cX4_keepCommand 19 = .ok (.bipush 8, 2) := by decide +kernel
theorem dX4_keepCommand_21 : decode cX4_keepCommand 21 = .ok (.if_icmp .ne 7, 3) := by decide +kernel
theorem dX4_keepCommand_24 : decode cX4_keepCommand 24 = .ok (.iconst 1, 1) := by decide +kernel
theorem dX4_keepCommand_25 : decode cX4_keepCommand 25 = .ok (.goto 7, 3) := by decide +kernel
theorem dX4_keepCommand_28 : decode cX4_keepCommand 28 = .ok (.aload_n 0, 1) := by decide +kernel
theorem dX4_keepCommand_29 : decode cX4_keepCommand 29 = .ok (.getfield 42, 3) := by decide +kernel
theorem dX4_keepCommand_32 : decode cX4_keepCommand 32 = .ok (.iastore, 1) := by decide +kernel
theorem dX4_keepCommand_33 : decode cX4_keepCommand 33 = .ok (.aload_n 0, 1) := by decide +kernel
theorem dX4_keepCommand_34 : decode cX4_keepCommand 34 = .ok (.getfield 26, 3) := by decide +kernel
theorem dX4_keepCommand_37 : decode cX4_keepCommand 37 = .ok (.aload_n 0, 1) := by decide +kernel
theorem dX4_keepCommand_38 : decode cX4_keepCommand 38 = .ok (.getfield 29, 3) := by decide +kernel
theorem dX4_keepCommand_41 : decode cX4_keepCommand 41 = .ok (.aload_n 0, 1) := by decide +kernel
theorem dX4_keepCommand_42 : decode cX4_keepCommand 42 = .ok (.getfield 45, 3) := by decide +kernel
theorem dX4_keepCommand_45 : decode cX4_keepCommand 45 = .ok (.iastore, 1) := by decide +kernel
theorem dX4_keepCommand_46 : decode cX4_keepCommand 46 = .ok (.aload_n 0, 1) := by decide +kernel
theorem dX4_keepCommand_47 : decode cX4_keepCommand 47 = .ok (.dup, 1) := by decide +kernel
theorem dX4_keepCommand_48 : decode cX4_keepCommand 48 = .ok (.getfield 29, 3) := by decide +kernel
theorem dX4_keepCommand_51 : decode cX4_keepCommand 51 = .ok (.iconst 1, 1) := by decide +kernel
theorem dX4_keepCommand_52 : decode cX4_keepCommand 52 = .ok (.iadd, 1) := by decide +kernel
theorem dX4_keepCommand_53 : decode cX4_keepCommand 53 = .ok (.putfield 29, 3) := by decide +kernel
theorem dX4_keepCommand_56 : decode cX4_keepCommand 56 = .ok (.return_, 1) := by decide +kernel
theorem dX4_furthestKind_0 : decode cX4_furthestKind 0 = .ok (.iconst 0, 1) := by decide +kernel
theorem dX4_furthestKind_1 : decode cX4_furthestKind 1 = .ok (.istore_n 2, 1) := by decide +kernel
theorem dX4_furthestKind_2 : decode cX4_furthestKind 2 = .ok (.iconst (-1), 1) := by decide +kernel
theorem dX4_furthestKind_3 : decode cX4_furthestKind 3 = .ok (.istore_n 3, 1) := by decide +kernel
theorem dX4_furthestKind_4 : decode cX4_furthestKind 4 = .ok (.iconst 0, 1) := by decide +kernel
theorem dX4_furthestKind_5 : decode cX4_furthestKind 5 = .ok (.istore 4, 2) := by decide +kernel
theorem dX4_furthestKind_7 : decode cX4_furthestKind 7 = .ok (.iload 4, 2) := by decide +kernel
theorem dX4_furthestKind_9 : decode cX4_furthestKind 9 = .ok (.bipush 10, 2) := by decide +kernel
theorem dX4_furthestKind_11 : decode cX4_furthestKind 11 = .ok (.if_icmp .ge 32, 3) := by decide +kernel
theorem dX4_furthestKind_14 : decode cX4_furthestKind 14 = .ok (.aload_n 0, 1) := by decide +kernel
theorem dX4_furthestKind_15 : decode cX4_furthestKind 15 = .ok (.iload 4, 2) := by decide +kernel
theorem dX4_furthestKind_17 : decode cX4_furthestKind 17 = .ok (.iload_n 1, 1) := by decide +kernel
theorem dX4_furthestKind_18 : decode cX4_furthestKind 18 = .ok (.invokevirtual 52, 3) := by decide +kernel
theorem dX4_furthestKind_21 : decode cX4_furthestKind 21 = .ok (.aload_n 0, 1) := by decide +kernel
theorem dX4_furthestKind_22 : decode cX4_furthestKind 22 = .ok (.getfield 32, 3) := by decide +kernel
theorem dX4_furthestKind_25 : decode cX4_furthestKind 25 = .ok (.iload_n 3, 1) := by decide +kernel
theorem dX4_furthestKind_26 : decode cX4_furthestKind 26 = .ok (.if_icmp .le 11, 3) := by decide +kernel
theorem dX4_furthestKind_29 : decode cX4_furthestKind 29 = .ok (.iload 4, 2) := by decide +kernel
theorem dX4_furthestKind_31 : decode cX4_furthestKind 31 = .ok (.istore_n 2, 1) := by decide +kernel
theorem dX4_furthestKind_32 : decode cX4_furthestKind 32 = .ok (.aload_n 0, 1) := by decide +kernel
theorem dX4_furthestKind_33 : decode cX4_furthestKind 33 = .ok (.getfield 32, 3) := by decide +kernel
theorem dX4_furthestKind_36 : decode cX4_furthestKind 36 = .ok (.istore_n 3, 1) := by decide +kernel
theorem dX4_furthestKind_37 : decode cX4_furthestKind 37 = .ok (.iinc 4 1, 3) := by decide +kernel
theorem dX4_furthestKind_40 : decode cX4_furthestKind 40 = .ok (.goto (-33), 3) := by decide +kernel
theorem dX4_furthestKind_43 : decode cX4_furthestKind 43 = .ok (.iload_n 2, 1) := by decide +kernel
theorem dX4_furthestKind_44 : decode cX4_furthestKind 44 = .ok (.ireturn, 1) := by decide +kernel
theorem dX4_formOf_0 : decode cX4_formOf 0 = .ok (.iload_n 0, 1) := by decide +kernel
theorem dX4_formOf_1 : decode cX4_formOf 1 = .ok (.tableswitch 78 0 8 #[51, 54, 57, 60, 63, 66, 69, 72, 75], 51) := by decide +kernel
theorem dX4_formOf_52 : decode cX4_formOf 52 = .ok (.ldc 60, 2) := by decide +kernel
theorem dX4_formOf_54 : decode cX4_formOf 54 = .ok (.areturn, 1) := by decide +kernel
theorem dX4_formOf_55 : decode cX4_formOf 55 = .ok (.ldc 62, 2) := by decide +kernel
theorem dX4_formOf_57 : decode cX4_formOf 57 = .ok (.areturn, 1) := by decide +kernel
theorem dX4_formOf_58 : decode cX4_formOf 58 = .ok (.ldc 64, 2) := by decide +kernel
theorem dX4_formOf_60 : decode cX4_formOf 60 = .ok (.areturn, 1) := by decide +kernel
theorem dX4_formOf_61 : decode cX4_formOf 61 = .ok (.ldc 66, 2) := by decide +kernel
theorem dX4_formOf_63 : decode cX4_formOf 63 = .ok (.areturn, 1) := by decide +kernel
theorem dX4_formOf_64 : decode cX4_formOf 64 = .ok (.ldc 68, 2) := by decide +kernel
theorem dX4_formOf_66 : decode cX4_formOf 66 = .ok (.areturn, 1) := by decide +kernel
theorem dX4_formOf_67 : decode cX4_formOf 67 = .ok (.ldc 70, 2) := by decide +kernel
theorem dX4_formOf_69 : decode cX4_formOf 69 = .ok (.areturn, 1) := by decide +kernel
theorem dX4_formOf_70 : decode cX4_formOf 70 = .ok (.ldc 72, 2) := by decide +kernel
theorem dX4_formOf_72 : decode cX4_formOf 72 = .ok (.areturn, 1) := by decide +kernel
theorem dX4_formOf_73 : decode cX4_formOf 73 = .ok (.ldc 74, 2) := by decide +kernel
theorem dX4_formOf_75 : decode cX4_formOf 75 = .ok (.areturn, 1) := by decide +kernel
theorem dX4_formOf_76 : decode cX4_formOf 76 = .ok (.ldc 76, 2) := by decide +kernel
theorem dX4_formOf_78 : decode cX4_formOf 78 = .ok (.areturn, 1) := by decide +kernel
theorem dX4_formOf_79 : decode cX4_formOf 79 = .ok (.ldc 78, 2) := by decide +kernel
theorem dX4_formOf_81 : decode cX4_formOf 81 = .ok (.areturn, 1) := by decide +kernel
theorem dX4_match_0 : decode cX4_match 0 = .ok (.iload_n 1, 1) := by decide +kernel
theorem dX4_match_1 : decode cX4_match 1 = .ok (.invokestatic 80, 3) := by decide +kernel
theorem dX4_match_4 : decode cX4_match 4 = .ok (.astore_n 3, 1) := by decide +kernel
theorem dX4_match_5 : decode cX4_match 5 = .ok (.aload_n 0, 1) := by decide +kernel
theorem dX4_match_6 : decode cX4_match 6 = .ok (.iload_n 2, 1) := by decide +kernel
theorem dX4_match_7 : decode cX4_match 7 = .ok (.putfield 32, 3) := by decide +kernel
theorem dX4_match_10 : decode cX4_match 10 = .ok (.aload_n 0, 1) := by decide +kernel
theorem dX4_match_11 : decode cX4_match 11 = .ok (.iconst 0, 1) := by decide +kernel
theorem dX4_match_12 : decode cX4_match 12 = .ok (.putfield 35, 3) := by decide +kernel
theorem dX4_match_15 : decode cX4_match 15 = .ok (.aload_n 0, 1) := by decide +kernel
theorem dX4_match_16 : decode cX4_match 16 = .ok (.iconst 0, 1) := by decide +kernel
theorem dX4_match_17 : decode cX4_match 17 = .ok (.putfield 39, 3) := by decide +kernel
theorem dX4_match_20 : decode cX4_match 20 = .ok (.aload_n 0, 1) := by decide +kernel
theorem dX4_match_21 : decode cX4_match 21 = .ok (.iconst 0, 1) := by decide +kernel
theorem dX4_match_22 : decode cX4_match 22 = .ok (.putfield 42, 3) := by decide +kernel
theorem dX4_match_25 : decode cX4_match 25 = .ok (.aload_n 0, 1) := by decide +kernel
theorem dX4_match_26 : decode cX4_match 26 = .ok (.iconst 0, 1) := by decide +kernel
theorem dX4_match_27 : decode cX4_match 27 = .ok (.putfield 45, 3) := by decide +kernel
theorem dX4_match_30 : decode cX4_match 30 = .ok (.iconst 0, 1) := by decide +kernel
theorem dX4_match_31 : decode cX4_match 31 = .ok (.istore 4, 2) := by decide +kernel
theorem dX4_match_33 : decode cX4_match 33 = .ok (.iload 4, 2) := by decide +kernel
theorem dX4_match_35 : decode cX4_match 35 = .ok (.aload_n 3, 1) := by decide +kernel
theorem dX4_match_36 : decode cX4_match 36 = .ok (.invokevirtual 84, 3) := by decide +kernel
theorem dX4_match_39 : decode cX4_match 39 = .ok (.if_icmp .ge 23, 3) := by decide +kernel
theorem dX4_match_42 : decode cX4_match 42 = .ok (.aload_n 0, 1) := by decide +kernel
theorem dX4_match_43 : decode cX4_match 43 = .ok (.aload_n 3, 1) := by decide +kernel
theorem dX4_match_44 : decode cX4_match 44 = .ok (.iload 4, 2) := by decide +kernel
theorem dX4_match_46 : decode cX4_match 46 = .ok (.invokevirtual 89, 3) := by decide +kernel
theorem dX4_match_49 : decode cX4_match 49 = .ok (.invokevirtual 93, 3) := by decide +kernel
theorem dX4_match_52 : decode cX4_match 52 = .ok (.ifCond .ne 4, 3) := by decide +kernel
theorem dX4_match_55 : decode cX4_match 55 = .ok (.return_, 1) := by decide +kernel
theorem dX4_match_56 : decode cX4_match 56 = .ok (.iinc 4 1, 3) := by decide +kernel
theorem dX4_match_59 : decode cX4_match 59 = .ok (.goto (-26), 3) := by decide +kernel
theorem dX4_match_62 : decode cX4_match 62 = .ok (.aload_n 0, 1) := by decide +kernel
theorem dX4_match_63 : decode cX4_match 63 = .ok (.iconst 1, 1) := by decide +kernel
theorem dX4_match_64 : decode cX4_match 64 = .ok (.putfield 35, 3) := by decide +kernel
theorem dX4_match_67 : decode cX4_match 67 = .ok (.return_, 1) := by decide +kernel
theorem dX4_takes_0 : decode cX4_takes 0 = .ok (.iload_n 1, 1) := by decide +kernel
theorem dX4_takes_1 : decode cX4_takes 1 = .ok (.bipush 35, 2) := by decide +kernel
theorem dX4_takes_3 : decode cX4_takes 3 = .ok (.if_icmp .eq 9, 3) := by decide +kernel
theorem dX4_takes_6 : decode cX4_takes 6 = .ok (.iload_n 1, 1) := by decide +kernel
theorem dX4_takes_7 : decode cX4_takes 7 = .ok (.bipush 64, 2) := by decide +kernel
theorem dX4_takes_9 : decode cX4_takes 9 = .ok (.if_icmp .ne 19, 3) := by decide +kernel
theorem dX4_takes_12 : decode cX4_takes 12 = .ok (.aload_n 0, 1) := by decide +kernel
theorem dX4_takes_13 : decode cX4_takes 13 = .ok (.iload_n 1, 1) := by decide +kernel
theorem dX4_takes_14 : decode cX4_takes 14 = .ok (.bipush 64, 2) := by decide +kernel
theorem dX4_takes_16 : decode cX4_takes 16 = .ok (.if_icmp .ne 7, 3) := by decide +kernel
theorem dX4_takes_19 : decode cX4_takes 19 = .ok (.iconst 2, 1) := by decide +kernel
theorem dX4_takes_20 : decode cX4_takes 20 = .ok (.goto 4, 3) := by decide +kernel
theorem dX4_takes_23 : decode cX4_takes 23 = .ok (.iconst 1, 1) := by decide +kernel
theorem dX4_takes_24 : decode cX4_takes 24 = .ok (.invokevirtual 97, 3) := by decide +kernel
theorem dX4_takes_27 : decode cX4_takes 27 = .ok (.ireturn, 1) := by decide +kernel
theorem dX4_takes_28 : decode cX4_takes 28 = .ok (.aload_n 0, 1) := by decide +kernel
theorem dX4_takes_29 : decode cX4_takes 29 = .ok (.getfield 32, 3) := by decide +kernel
theorem dX4_takes_32 : decode cX4_takes 32 = .ok (.aload_n 0, 1) := by decide +kernel
theorem dX4_takes_33 : decode cX4_takes 33 = .ok (.getfield 15, 3) := by decide +kernel
theorem dX4_takes_36 : decode cX4_takes 36 = .ok (.if_icmp .ge 16, 3) := by decide +kernel
theorem dX4_takes_39 : decode cX4_takes 39 = .ok (.aload_n 0, 1) := by decide +kernel
theorem dX4_takes_40 : decode cX4_takes 40 = .ok (.getfield 9, 3) := by decide +kernel
theorem dX4_takes_43 : decode cX4_takes 43 = .ok (.aload_n 0, 1) := by decide +kernel
theorem dX4_takes_44 : decode cX4_takes 44 = .ok (.getfield 32, 3) := by decide +kernel
theorem dX4_takes_47 : decode cX4_takes 47 = .ok (.caload, 1) := by decide +kernel
theorem dX4_takes_48 : decode cX4_takes 48 = .ok (.iload_n 1, 1) := by decide +kernel
theorem dX4_takes_49 : decode cX4_takes 49 = .ok (.if_icmp .eq 5, 3) := by decide +kernel
theorem dX4_takes_52 : decode cX4_takes 52 = .ok (.iconst 0, 1) := by decide +kernel
theorem dX4_takes_53 : decode cX4_takes 53 = .ok (.ireturn, 1) := by decide +kernel
theorem dX4_takes_54 : decode cX4_takes 54 = .ok (.aload_n 0, 1) := by decide +kernel
theorem dX4_takes_55 : decode cX4_takes 55 = .ok (.dup, 1) := by decide +kernel
theorem dX4_takes_56 : decode cX4_takes 56 = .ok (.getfield 32, 3) := by decide +kernel
theorem dX4_takes_59 : decode cX4_takes 59 = .ok (.iconst 1, 1) := by decide +kernel
theorem dX4_takes_60 : decode cX4_takes 60 = .ok (.iadd, 1) := by decide +kernel
theorem dX4_takes_61 : decode cX4_takes 61 = .ok (.putfield 32, 3) := by decide +kernel
theorem dX4_takes_64 : decode cX4_takes 64 = .ok (.iconst 1, 1) := by decide +kernel
theorem dX4_takes_65 : decode cX4_takes 65 = .ok (.ireturn, 1) := by decide +kernel
theorem dX4_takesNumber_0 : decode cX4_takesNumber 0 = .ok (.iconst 0, 1) := by decide +kernel
theorem dX4_takesNumber_1 : decode cX4_takesNumber 1 = .ok (.istore_n 2, 1) := by decide +kernel
theorem dX4_takesNumber_2 : decode cX4_takesNumber 2 = .ok (.iconst 0, 1) := by decide +kernel
theorem dX4_takesNumber_3 : decode cX4_takesNumber 3 = .ok (.istore_n 3, 1) := by decide +kernel
theorem dX4_takesNumber_4 : decode cX4_takesNumber 4 = .ok (.iload_n 3, 1) := by decide +kernel
theorem dX4_takesNumber_5 : decode cX4_takesNumber 5 = .ok (.iload_n 1, 1) := by decide +kernel
theorem dX4_takesNumber_6 : decode cX4_takesNumber 6 = .ok (.if_icmp .ge 44, 3) := by decide +kernel
theorem dX4_takesNumber_9 : decode cX4_takesNumber 9 = .ok (.aload_n 0, 1) := by decide +kernel
theorem dX4_takesNumber_10 : decode cX4_takesNumber 10 = .ok (.invokevirtual 101, 3) := by decide +kernel
theorem dX4_takesNumber_13 : decode cX4_takesNumber 13 = .ok (.ifCond .eq 37, 3) := by decide +kernel
theorem dX4_takesNumber_16 : decode cX4_takesNumber 16 = .ok (.iload_n 2, 1) := by decide +kernel
theorem dX4_takesNumber_17 : decode cX4_takesNumber 17 = .ok (.bipush 10, 2) := by decide +kernel
theorem dX4_takesNumber_19 : decode cX4_takesNumber 19 = .ok (.imul, 1) := by decide +kernel
theorem dX4_takesNumber_20 : decode cX4_takesNumber 20 = .ok (.aload_n 0, 1) := by decide +kernel
theorem dX4_takesNumber_21 : decode cX4_takesNumber 21 = .ok (.getfield 9, 3) := by decide +kernel
theorem dX4_takesNumber_24 : decode cX4_takesNumber 24 = .ok (.aload_n 0, 1) := by decide +kernel
theorem dX4_takesNumber_25 : decode cX4_takesNumber 25 = .ok (.getfield 32, 3) := by decide +kernel
theorem dX4_takesNumber_28 : decode cX4_takesNumber 28 = .ok (.caload, 1) := by decide +kernel
theorem dX4_takesNumber_29 : decode cX4_takesNumber 29 = .ok (.bipush 48, 2) := by decide +kernel
theorem dX4_takesNumber_31 : decode cX4_takesNumber 31 = .ok (.isub, 1) := by decide +kernel
theorem dX4_takesNumber_32 : decode cX4_takesNumber 32 = .ok (.iadd, 1) := by decide +kernel
theorem dX4_takesNumber_33 : decode cX4_takesNumber 33 = .ok (.istore_n 2, 1) := by decide +kernel
theorem dX4_takesNumber_34 : decode cX4_takesNumber 34 = .ok (.aload_n 0, 1) := by decide +kernel
theorem dX4_takesNumber_35 : decode cX4_takesNumber 35 = .ok (.dup, 1) := by decide +kernel
theorem dX4_takesNumber_36 : decode cX4_takesNumber 36 = .ok (.getfield 32, 3) := by decide +kernel
theorem dX4_takesNumber_39 : decode cX4_takesNumber 39 = .ok (.iconst 1, 1) := by decide +kernel
theorem dX4_takesNumber_40 : decode cX4_takesNumber 40 = .ok (.iadd, 1) := by decide +kernel
theorem dX4_takesNumber_41 : decode cX4_takesNumber 41 = .ok (.putfield 32, 3) := by decide +kernel
theorem dX4_takesNumber_44 : decode cX4_takesNumber 44 = .ok (.iinc 3 1, 3) := by decide +kernel
theorem dX4_takesNumber_47 : decode cX4_takesNumber 47 = .ok (.goto (-43), 3) := by decide +kernel
theorem dX4_takesNumber_50 : decode cX4_takesNumber 50 = .ok (.aload_n 0, 1) := by decide +kernel
theorem dX4_takesNumber_51 : decode cX4_takesNumber 51 = .ok (.getfield 39, 3) := by decide +kernel
theorem dX4_takesNumber_54 : decode cX4_takesNumber 54 = .ok (.ifCond .ne 11, 3) := by decide +kernel
theorem dX4_takesNumber_57 : decode cX4_takesNumber 57 = .ok (.aload_n 0, 1) := by decide +kernel
theorem dX4_takesNumber_58 : decode cX4_takesNumber 58 = .ok (.iload_n 2, 1) := by decide +kernel
theorem dX4_takesNumber_59 : decode cX4_takesNumber 59 = .ok (.putfield 42, 3) := by decide +kernel
theorem dX4_takesNumber_62 : decode cX4_takesNumber 62 = .ok (.goto 8, 3) := by decide +kernel
theorem dX4_takesNumber_65 : decode cX4_takesNumber 65 = .ok (.aload_n 0, 1) := by decide +kernel
theorem dX4_takesNumber_66 : decode cX4_takesNumber 66 = .ok (.iload_n 2, 1) := by decide +kernel
theorem dX4_takesNumber_67 : decode cX4_takesNumber 67 = .ok (.putfield 45, 3) := by decide +kernel
theorem dX4_takesNumber_70 : decode cX4_takesNumber 70 = .ok (.aload_n 0, 1) := by decide +kernel
theorem dX4_takesNumber_71 : decode cX4_takesNumber 71 = .ok (.dup, 1) := by decide +kernel
theorem dX4_takesNumber_72 : decode cX4_takesNumber 72 = .ok (.getfield 39, 3) := by decide +kernel
theorem dX4_takesNumber_75 : decode cX4_takesNumber 75 = .ok (.iconst 1, 1) := by decide +kernel
theorem dX4_takesNumber_76 : decode cX4_takesNumber 76 = .ok (.iadd, 1) := by decide +kernel
theorem dX4_takesNumber_77 : decode cX4_takesNumber 77 = .ok (.putfield 39, 3) := by decide +kernel
theorem dX4_takesNumber_80 : decode cX4_takesNumber 80 = .ok (.iload_n 3, 1) := by decide +kernel
theorem dX4_takesNumber_81 : decode cX4_takesNumber 81 = .ok (.ifCond .le 7, 3) := by decide +kernel
theorem dX4_takesNumber_84 : decode cX4_takesNumber 84 = .ok (.iconst 1, 1) := by decide +kernel
theorem dX4_takesNumber_85 : decode cX4_takesNumber 85 = .ok (.goto 4, 3) := by decide +kernel
theorem dX4_takesNumber_88 : decode cX4_takesNumber 88 = .ok (.iconst 0, 1) := by decide +kernel
theorem dX4_takesNumber_89 : decode cX4_takesNumber 89 = .ok (.ireturn, 1) := by decide +kernel
theorem dX4_digitFollows_0 : decode cX4_digitFollows 0 = .ok (.aload_n 0, 1) := by decide +kernel
theorem dX4_digitFollows_1 : decode cX4_digitFollows 1 = .ok (.getfield 32, 3) := by decide +kernel
theorem dX4_digitFollows_4 : decode cX4_digitFollows 4 = .ok (.aload_n 0, 1) := by decide +kernel
theorem dX4_digitFollows_5 : decode cX4_digitFollows 5 = .ok (.getfield 15, 3) := by decide +kernel
theorem dX4_digitFollows_8 : decode cX4_digitFollows 8 = .ok (.if_icmp .ge 35, 3) := by decide +kernel
theorem dX4_digitFollows_11 : decode cX4_digitFollows 11 = .ok (.aload_n 0, 1) := by decide +kernel
theorem dX4_digitFollows_12 : decode cX4_digitFollows 12 = .ok (.getfield 9, 3) := by decide +kernel
theorem dX4_digitFollows_15 : decode cX4_digitFollows 15 = .ok (.aload_n 0, 1) := by decide +kernel
theorem dX4_digitFollows_16 : decode cX4_digitFollows 16 = .ok (.getfield 32, 3) := by decide +kernel
theorem dX4_digitFollows_19 : decode cX4_digitFollows 19 = .ok (.caload, 1) := by decide +kernel
theorem dX4_digitFollows_20 : decode cX4_digitFollows 20 = .ok (.bipush 48, 2) := by decide +kernel
theorem dX4_digitFollows_22 : decode cX4_digitFollows 22 = .ok (.if_icmp .lt 21, 3) := by decide +kernel
theorem dX4_digitFollows_25 : decode cX4_digitFollows 25 = .ok (.aload_n 0, 1) := by decide +kernel
theorem dX4_digitFollows_26 : decode cX4_digitFollows 26 = .ok (.getfield 9, 3) := by decide +kernel
theorem dX4_digitFollows_29 : decode cX4_digitFollows 29 = .ok (.aload_n 0, 1) := by decide +kernel
theorem dX4_digitFollows_30 : decode cX4_digitFollows 30 = .ok (.getfield 32, 3) := by decide +kernel
theorem dX4_digitFollows_33 : decode cX4_digitFollows 33 = .ok (.caload, 1) := by decide +kernel
theorem dX4_digitFollows_34 : decode cX4_digitFollows 34 = .ok (.bipush 57, 2) := by decide +kernel
theorem dX4_digitFollows_36 : decode cX4_digitFollows 36 = .ok (.if_icmp .gt 7, 3) := by decide +kernel
theorem dX4_digitFollows_39 : decode cX4_digitFollows 39 = .ok (.iconst 1, 1) := by decide +kernel
theorem dX4_digitFollows_40 : decode cX4_digitFollows 40 = .ok (.goto 4, 3) := by decide +kernel
theorem dX4_digitFollows_43 : decode cX4_digitFollows 43 = .ok (.iconst 0, 1) := by decide +kernel
theorem dX4_digitFollows_44 : decode cX4_digitFollows 44 = .ok (.ireturn, 1) := by decide +kernel
theorem dX5_init_0 : decode cX5_init 0 = .ok (.aload_n 0, 1) := by decide +kernel
theorem dX5_init_1 : decode cX5_init 1 = .ok (.invokespecial 1, 3) := by decide +kernel
theorem dX5_init_4 : decode cX5_init 4 = .ok (.aload_n 0, 1) := by decide +kernel
theorem dX5_init_5 : decode cX5_init 5 = .ok (.new 7, 3) := by decide +kernel
theorem dX5_init_8 : decode cX5_init 8 = .ok (.dup, 1) := by decide +kernel
theorem dX5_init_9 : decode cX5_init 9 = .ok (.invokespecial 9, 3) := by decide +kernel
theorem dX5_init_12 : decode cX5_init 12 = .ok (.putfield 10, 3) := by decide +kernel
theorem dX5_init_15 : decode cX5_init 15 = .ok (.aload_n 0, 1) := by decide +kernel
theorem dX5_init_16 : decode cX5_init 16 = .ok (.new 7, 3) := by decide +kernel
theorem dX5_init_19 : decode cX5_init 19 = .ok (.dup, 1) := by decide +kernel
theorem dX5_init_20 : decode cX5_init 20 = .ok (.invokespecial 9, 3) := by decide +kernel
theorem dX5_init_23 : decode cX5_init 23 = .ok (.putfield 16, 3) := by decide +kernel
theorem dX5_init_26 : decode cX5_init 26 = .ok (.aload_n 0, 1) := by decide +kernel
theorem dX5_init_27 : decode cX5_init 27 = .ok (.new 7, 3) := by decide +kernel
theorem dX5_init_30 : decode cX5_init 30 = .ok (.dup, 1) := by decide +kernel
theorem dX5_init_31 : decode cX5_init 31 = .ok (.invokespecial 9, 3) := by decide +kernel
theorem dX5_init_34 : decode cX5_init 34 = .ok (.putfield 19, 3) := by decide +kernel
theorem dX5_init_37 : decode cX5_init 37 = .ok (.aload_n 0, 1) := by decide +kernel
theorem dX5_init_38 : decode cX5_init 38 = .ok (.new 22, 3) := by decide +kernel
theorem dX5_init_41 : decode cX5_init 41 = .ok (.dup, 1) := by decide +kernel
theorem dX5_init_42 : decode cX5_init 42 = .ok (.invokespecial 24, 3) := by decide +kernel
theorem dX5_init_45 : decode cX5_init 45 = .ok (.putfield 25, 3) := by decide +kernel
theorem dX5_init_48 : decode cX5_init 48 = .ok (.aload_n 0, 1) := by decide +kernel
theorem dX5_init_49 : decode cX5_init 49 = .ok (.new 29, 3) := by decide +kernel
theorem dX5_init_52 : decode cX5_init 52 = .ok (.dup, 1) := by decide +kernel
theorem dX5_init_53 : decode cX5_init 53 = .ok (.invokespecial 31, 3) := by decide +kernel
theorem dX5_init_56 : decode cX5_init 56 = .ok (.putfield 32, 3) := by decide +kernel
theorem dX5_init_59 : decode cX5_init 59 = .ok (.aload_n 0, 1) := by decide +kernel
theorem dX5_init_60 : decode cX5_init 60 = .ok (.new 36, 3) := by decide +kernel
theorem dX5_init_63 : decode cX5_init 63 = .ok (.dup, 1) := by decide +kernel
theorem dX5_init_64 : decode cX5_init 64 = .ok (.invokespecial 38, 3) := by decide +kernel
theorem dX5_init_67 : decode cX5_init 67 = .ok (.putfield 39, 3) := by decide +kernel
theorem dX5_init_70 : decode cX5_init 70 = .ok (.aload_n 0, 1) := by decide +kernel
theorem dX5_init_71 : decode cX5_init 71 = .ok (.new 43, 3) := by decide +kernel
theorem dX5_init_74 : decode cX5_init 74 = .ok (.dup, 1) := by decide +kernel
theorem dX5_init_75 : decode cX5_init 75 = .ok (.invokespecial 45, 3) := by decide +kernel
theorem dX5_init_78 : decode cX5_init 78 = .ok (.putfield 46, 3) := by decide +kernel
theorem dX5_init_81 : decode cX5_init 81 = .ok (.aload_n 0, 1) := by decide +kernel
theorem dX5_init_82 : decode cX5_init 82 = .ok (.iconst 0, 1) := by decide +kernel
theorem dX5_init_83 : decode cX5_init 83 = .ok (.putfield 50, 3) := by decide +kernel
theorem dX5_init_86 : decode cX5_init 86 = .ok (.aload_n 0, 1) := by decide +kernel
theorem dX5_init_87 : decode cX5_init 87 = .ok (.iconst (-1), 1) := by decide +kernel
theorem dX5_init_88 : decode cX5_init 88 = .ok (.putfield 54, 3) := by decide +kernel
theorem dX5_init_91 : decode cX5_init 91 = .ok (.aload_n 0, 1) := by decide +kernel
theorem dX5_init_92 : decode cX5_init 92 = .ok (.iconst (-1), 1) := by decide +kernel
theorem dX5_init_93 : decode cX5_init 93 = .ok (.putfield 58, 3) := by decide +kernel
theorem dX5_init_96 : decode cX5_init 96 = .ok (.return_, 1) := by decide +kernel
theorem dX5_addListener_0 : decode cX5_addListener 0 = .ok (.aload_n 0, 1) := by decide +kernel
theorem dX5_addListener_1 : decode cX5_addListener 1 = .ok (.iconst 0, 1) := by decide +kernel
theorem dX5_addListener_2 : decode cX5_addListener 2 = .ok (.iload_n 1, 1) := by decide +kernel
theorem dX5_addListener_3 : decode cX5_addListener 3 = .ok (.iload_n 2, 1) := by decide +kernel
theorem dX5_addListener_4 : decode cX5_addListener 4 = .ok (.invokevirtual 61, 3) := by decide +kernel
theorem dX5_addListener_7 : decode cX5_addListener 7 = .ok (.ireturn, 1) := by decide +kernel
theorem dX5_link_0 : decode cX5_link 0 = .ok (.aload_n 0, 1) := by decide +kernel
theorem dX5_link_1 : decode cX5_link 1 = .ok (.iconst 1, 1) := by decide +kernel
theorem dX5_link_2 : decode cX5_link 2 = .ok (.iload_n 1, 1) := by decide +kernel
theorem dX5_link_3 : decode cX5_link 3 = .ok (.iload_n 2, 1) := by decide +kernel
theorem dX5_link_4 : decode cX5_link 4 = .ok (.invokevirtual 61, 3) := by decide +kernel
theorem dX5_link_7 : decode cX5_link 7 = .ok (.ireturn, 1) := by decide +kernel
theorem dX5_unlink_0 : decode cX5_unlink 0 = .ok (.aload_n 0, 1) := by decide +kernel
theorem dX5_unlink_1 : decode cX5_unlink 1 = .ok (.iconst 2, 1) := by decide +kernel
theorem dX5_unlink_2 : decode cX5_unlink 2 = .ok (.iload_n 1, 1) := by decide +kernel
theorem dX5_unlink_3 : decode cX5_unlink 3 = .ok (.iload_n 2, 1) := by decide +kernel
theorem dX5_unlink_4 : decode cX5_unlink 4 = .ok (.invokevirtual 61, 3) := by decide +kernel
theorem dX5_unlink_7 : decode cX5_unlink 7 = .ok (.ireturn, 1) := by decide +kernel
theorem dX5_moveListener_0 : decode cX5_moveListener 0 = .ok (.aload_n 0, 1) := by decide +kernel
theorem dX5_moveListener_1 : decode cX5_moveListener 1 = .ok (.bipush 7, 2) := by decide +kernel
theorem dX5_moveListener_3 : decode cX5_moveListener 3 = .ok (.iload_n 1, 1) := by decide +kernel
theorem dX5_moveListener_4 : decode cX5_moveListener 4 = .ok (.iload_n 2, 1) := by decide +kernel
theorem dX5_moveListener_5 : decode cX5_moveListener 5 = .ok (.invokevirtual 61, 3) := by decide +kernel
theorem dX5_moveListener_8 : decode cX5_moveListener 8 = .ok (.ireturn, 1) := by decide +kernel
theorem dX5_startRumour_0 : decode cX5_startRumour 0 = .ok (.aload_n 0, 1) := by decide +kernel
theorem dX5_startRumour_1 : decode cX5_startRumour 1 = .ok (.iconst 3, 1) := by decide +kernel
theorem dX5_startRumour_2 : decode cX5_startRumour 2 = .ok (.iload_n 1, 1) := by decide +kernel
theorem dX5_startRumour_3 : decode cX5_startRumour 3 = .ok (.iload_n 2, 1) := by decide +kernel
theorem dX5_startRumour_4 : decode cX5_startRumour 4 = .ok (.invokevirtual 61, 3) := by decide +kernel
theorem dX5_startRumour_7 : decode cX5_startRumour 7 = .ok (.ireturn, 1) := by decide +kernel
theorem dX5_check_0 : decode cX5_check 0 = .ok (.aload_n 0, 1) := by decide +kernel
theorem dX5_check_1 : decode cX5_check 1 = .ok (.iconst 4, 1) := by decide +kernel
theorem dX5_check_2 : decode cX5_check 2 = .ok (.iload_n 1, 1) := by decide +kernel
theorem dX5_check_3 : decode cX5_check 3 = .ok (.iload_n 2, 1) := by decide +kernel
theorem dX5_check_4 : decode cX5_check 4 = .ok (.invokevirtual 61, 3) := by decide +kernel
theorem dX5_check_7 : decode cX5_check 7 = .ok (.iconst 1, 1) := by decide +kernel
theorem dX5_check_8 : decode cX5_check 8 = .ok (.if_icmp .ne 7, 3) := by decide +kernel
theorem dX5_check_11 : decode cX5_check 11 = .ok (.iconst 1, 1) := by decide +kernel
theorem dX5_check_12 : decode cX5_check 12 = .ok (.goto 4, 3) := by decide +kernel
theorem dX5_check_15 : decode cX5_check 15 = .ok (.iconst 0, 1) := by decide +kernel
theorem dX5_check_16 : decode cX5_check 16 = .ok (.ireturn, 1) := by decide +kernel
theorem dX5_deny_0 : decode cX5_deny 0 = .ok (.aload_n 0, 1) := by decide +kernel
theorem dX5_deny_1 : decode cX5_deny 1 = .ok (.iconst 5, 1) := by decide +kernel
theorem dX5_deny_2 : decode cX5_deny 2 = .ok (.iload_n 1, 1) := by decide +kernel
theorem dX5_deny_3 : decode cX5_deny 3 = .ok (.iconst 0, 1) := by decide +kernel
theorem dX5_deny_4 : decode cX5_deny 4 = .ok (.invokevirtual 61, 3) := by decide +kernel
theorem dX5_deny_7 : decode cX5_deny 7 = .ok (.ireturn, 1) := by decide +kernel
theorem dX5_answer_0 : decode cX5_answer 0 = .ok (.aload_n 0, 1) := by decide +kernel
theorem dX5_answer_1 : decode cX5_answer 1 = .ok (.bipush 6, 2) := by decide +kernel
theorem dX5_answer_3 : decode cX5_answer 3 = .ok (.iload_n 1, 1) := by decide +kernel
theorem dX5_answer_4 : decode cX5_answer 4 = .ok (.iload_n 2, 1) := by decide +kernel
theorem dX5_answer_5 : decode cX5_answer 5 = .ok (.invokevirtual 61, 3) := by decide +kernel
theorem dX5_answer_8 : decode cX5_answer 8 = .ok (.ireturn, 1) := by decide +kernel
theorem dX5_advance_0 : decode cX5_advance 0 = .ok (.aload_n 0, 1) := by decide +kernel
theorem dX5_advance_1 : decode cX5_advance 1 = .ok (.bipush 9, 2) := by decide +kernel
theorem dX5_advance_3 : decode cX5_advance 3 = .ok (.iload_n 1, 1) := by decide +kernel
theorem dX5_advance_4 : decode cX5_advance 4 = .ok (.iconst 0, 1) := by decide +kernel
theorem dX5_advance_5 : decode cX5_advance 5 = .ok (.invokevirtual 61, 3) := by decide +kernel
theorem dX5_advance_8 : decode cX5_advance 8 = .ok (.ireturn, 1) := by decide +kernel
theorem dX5_listenerCount_0 : decode cX5_listenerCount 0 = .ok (.aload_n 0, 1) := by decide +kernel
theorem dX5_listenerCount_1 : decode cX5_listenerCount 1 = .ok (.getfield 10, 3) := by decide +kernel
theorem dX5_listenerCount_4 : decode cX5_listenerCount 4 = .ok (.getfield 65, 3) := by decide +kernel
theorem dX5_listenerCount_7 : decode cX5_listenerCount 7 = .ok (.getfield 69, 3) := by decide +kernel
theorem dX5_listenerCount_10 : decode cX5_listenerCount 10 = .ok (.ireturn, 1) := by decide +kernel
theorem dX5_hive_0 : decode cX5_hive 0 = .ok (.aload_n 0, 1) := by decide +kernel
theorem dX5_hive_1 : decode cX5_hive 1 = .ok (.iload_n 1, 1) := by decide +kernel
theorem dX5_hive_2 : decode cX5_hive 2 = .ok (.invokevirtual 74, 3) := by decide +kernel
theorem dX5_hive_5 : decode cX5_hive 5 = .ok (.aload_n 0, 1) := by decide +kernel
theorem dX5_hive_6 : decode cX5_hive 6 = .ok (.getfield 10, 3) := by decide +kernel
theorem dX5_hive_9 : decode cX5_hive 9 = .ok (.getfield 78, 3) := by decide +kernel
theorem dX5_hive_12 : decode cX5_hive 12 = .ok (.iload_n 1, 1) := by decide +kernel
theorem dX5_hive_13 : decode cX5_hive 13 = .ok (.iaload, 1) := by decide +kernel
theorem dX5_hive_14 : decode cX5_hive 14 = .ok (.ireturn, 1) := by decide +kernel
theorem dX5_doubt_0 : decode cX5_doubt 0 = .ok (.aload_n 0, 1) := by decide +kernel
theorem dX5_doubt_1 : decode cX5_doubt 1 = .ok (.iload_n 1, 1) := by decide +kernel
theorem dX5_doubt_2 : decode cX5_doubt 2 = .ok (.invokevirtual 74, 3) := by decide +kernel
theorem dX5_doubt_5 : decode cX5_doubt 5 = .ok (.aload_n 0, 1) := by decide +kernel
theorem dX5_doubt_6 : decode cX5_doubt 6 = .ok (.getfield 10, 3) := by decide +kernel
theorem dX5_doubt_9 : decode cX5_doubt 9 = .ok (.getfield 82, 3) := by decide +kernel
theorem dX5_doubt_12 : decode cX5_doubt 12 = .ok (.iload_n 1, 1) := by decide +kernel
theorem dX5_doubt_13 : decode cX5_doubt 13 = .ok (.iaload, 1) := by decide +kernel
theorem dX5_doubt_14 : decode cX5_doubt 14 = .ok (.ireturn, 1) := by decide +kernel
theorem dX5_isLinked_0 : decode cX5_isLinked 0 = .ok (.aload_n 0, 1) := by decide +kernel
theorem dX5_isLinked_1 : decode cX5_isLinked 1 = .ok (.iload_n 1, 1) := by decide +kernel
theorem dX5_isLinked_2 : decode cX5_isLinked 2 = .ok (.invokevirtual 74, 3) := by decide +kernel
theorem dX5_isLinked_5 : decode cX5_isLinked 5 = .ok (.aload_n 0, 1) := by decide +kernel
theorem dX5_isLinked_6 : decode cX5_isLinked 6 = .ok (.iload_n 2, 1) := by decide +kernel
theorem dX5_isLinked_7 : decode cX5_isLinked 7 = .ok (.invokevirtual 74, 3) := by decide +kernel
theorem dX5_isLinked_10 : decode cX5_isLinked 10 = .ok (.aload_n 0, 1) := by decide +kernel
theorem dX5_isLinked_11 : decode cX5_isLinked 11 = .ok (.getfield 10, 3) := by decide +kernel
theorem dX5_isLinked_14 : decode cX5_isLinked 14 = .ok (.getfield 65, 3) := by decide +kernel
theorem dX5_isLinked_17 : decode cX5_isLinked 17 = .ok (.iload_n 1, 1) := by decide +kernel
theorem dX5_isLinked_18 : decode cX5_isLinked 18 = .ok (.iload_n 2, 1) := by decide +kernel
theorem dX5_isLinked_19 : decode cX5_isLinked 19 = .ok (.invokevirtual 85, 3) := by decide +kernel
theorem dX5_isLinked_22 : decode cX5_isLinked 22 = .ok (.ireturn, 1) := by decide +kernel
theorem dX5_neighbourCount_0 : decode cX5_neighbourCount 0 = .ok (.aload_n 0, 1) := by decide +kernel
theorem dX5_neighbourCount_1 : decode cX5_neighbourCount 1 = .ok (.iload_n 1, 1) := by decide +kernel
theorem dX5_neighbourCount_2 : decode cX5_neighbourCount 2 = .ok (.invokevirtual 74, 3) := by decide +kernel
theorem dX5_neighbourCount_5 : decode cX5_neighbourCount 5 = .ok (.aload_n 0, 1) := by decide +kernel
theorem dX5_neighbourCount_6 : decode cX5_neighbourCount 6 = .ok (.getfield 10, 3) := by decide +kernel
theorem dX5_neighbourCount_9 : decode cX5_neighbourCount 9 = .ok (.getfield 65, 3) := by decide +kernel
theorem dX5_neighbourCount_12 : decode cX5_neighbourCount 12 = .ok (.getfield 89, 3) := by decide +kernel
theorem dX5_neighbourCount_15 : decode cX5_neighbourCount 15 = .ok (.iload_n 1, 1) := by decide +kernel
theorem dX5_neighbourCount_16 : decode cX5_neighbourCount 16 = .ok (.iaload, 1) := by decide +kernel
theorem dX5_neighbourCount_17 : decode cX5_neighbourCount 17 = .ok (.invokestatic 92, 3) := by decide +kernel
theorem dX5_neighbourCount_20 : decode cX5_neighbourCount 20 = .ok (.ireturn, 1) := by decide +kernel
theorem dX5_linkCount_0 : decode cX5_linkCount 0 = .ok (.aload_n 0, 1) := by decide +kernel
theorem dX5_linkCount_1 : decode cX5_linkCount 1 = .ok (.getfield 10, 3) := by decide +kernel
theorem dX5_linkCount_4 : decode cX5_linkCount 4 = .ok (.getfield 65, 3) := by decide +kernel
theorem dX5_linkCount_7 : decode cX5_linkCount 7 = .ok (.getfield 98, 3) := by decide +kernel
theorem dX5_linkCount_10 : decode cX5_linkCount 10 = .ok (.ireturn, 1) := by decide +kernel
theorem dX5_hiveSize_0 : decode cX5_hiveSize 0 = .ok (.iload_n 1, 1) := by decide +kernel
theorem dX5_hiveSize_1 : decode cX5_hiveSize 1 = .ok (.invokestatic 101, 3) := by decide +kernel
theorem dX5_hiveSize_4 : decode cX5_hiveSize 4 = .ok (.aload_n 0, 1) := by decide +kernel
theorem dX5_hiveSize_5 : decode cX5_hiveSize 5 = .ok (.getfield 10, 3) := by decide +kernel
theorem dX5_hiveSize_8 : decode cX5_hiveSize 8 = .ok (.iload_n 1, 1) := by decide +kernel
theorem dX5_hiveSize_9 : decode cX5_hiveSize 9 = .ok (.invokevirtual 104, 3) := by decide +kernel
theorem dX5_hiveSize_12 : decode cX5_hiveSize 12 = .ok (.invokestatic 92, 3) := by decide +kernel
theorem dX5_hiveSize_15 : decode cX5_hiveSize 15 = .ok (.ireturn, 1) := by decide +kernel
theorem dX5_componentCount_0 : decode cX5_componentCount 0 = .ok (.aload_n 0, 1) := by decide +kernel
theorem dX5_componentCount_1 : decode cX5_componentCount 1 = .ok (.getfield 10, 3) := by decide +kernel
theorem dX5_componentCount_4 : decode cX5_componentCount 4 = .ok (.getfield 65, 3) := by decide +kernel
theorem dX5_componentCount_7 : decode cX5_componentCount 7 = .ok (.invokevirtual 107, 3) := by decide +kernel
theorem dX5_componentCount_10 : decode cX5_componentCount 10 = .ok (.ireturn, 1) := by decide +kernel
theorem dX5_componentCountByUnion_0 : decode cX5_componentCountByUnion 0 = .ok (.aload_n 0, 1) := by decide +kernel
theorem dX5_componentCountByUnion_1 : decode cX5_componentCountByUnion 1 = .ok (.getfield 10, 3) := by decide +kernel
theorem dX5_componentCountByUnion_4 : decode cX5_componentCountByUnion 4 = .ok (.getfield 65, 3) := by decide +kernel
theorem dX5_componentCountByUnion_7 : decode cX5_componentCountByUnion 7 = .ok (.invokevirtual 111, 3) := by decide +kernel
theorem dX5_componentCountByUnion_10 : decode cX5_componentCountByUnion 10 = .ok (.ireturn, 1) := by decide +kernel
theorem dX5_rumourCount_0 : decode cX5_rumourCount 0 = .ok (.aload_n 0, 1) := by decide +kernel
theorem dX5_rumourCount_1 : decode cX5_rumourCount 1 = .ok (.getfield 10, 3) := by decide +kernel
theorem dX5_rumourCount_4 : decode cX5_rumourCount 4 = .ok (.getfield 114, 3) := by decide +kernel
theorem dX5_rumourCount_7 : decode cX5_rumourCount 7 = .ok (.ireturn, 1) := by decide +kernel
theorem dX5_strength_0 : decode cX5_strength 0 = .ok (.aload_n 0, 1) := by decide +kernel
theorem dX5_strength_1 : decode cX5_strength 1 = .ok (.iload_n 1, 1) := by decide +kernel
theorem dX5_strength_2 : decode cX5_strength 2 = .ok (.invokevirtual 117, 3) := by decide +kernel
theorem dX5_strength_5 : decode cX5_strength 5 = .ok (.aload_n 0, 1) := by decide +kernel
theorem dX5_strength_6 : decode cX5_strength 6 = .ok (.getfield 10, 3) := by decide +kernel
theorem dX5_strength_9 : decode cX5_strength 9 = .ok (.getfield 120, 3) := by decide +kernel
theorem dX5_strength_12 : decode cX5_strength 12 = .ok (.iload_n 1, 1) := by decide +kernel
theorem dX5_strength_13 : decode cX5_strength 13 = .ok (.aaload, 1) := by decide +kernel
theorem dX5_strength_14 : decode cX5_strength 14 = .ok (.getfield 124, 3) := by decide +kernel
theorem dX5_strength_17 : decode cX5_strength 17 = .ok (.ireturn, 1) := by decide +kernel
theorem dX5_isAlive_0 : decode cX5_isAlive 0 = .ok (.aload_n 0, 1) := by decide +kernel
theorem dX5_isAlive_1 : decode cX5_isAlive 1 = .ok (.iload_n 1, 1) := by decide +kernel
theorem dX5_isAlive_2 : decode cX5_isAlive 2 = .ok (.invokevirtual 117, 3) := by decide +kernel
theorem dX5_isAlive_5 : decode cX5_isAlive 5 = .ok (.aload_n 0, 1) := by decide +kernel
theorem dX5_isAlive_6 : decode cX5_isAlive 6 = .ok (.getfield 10, 3) := by decide +kernel
theorem dX5_isAlive_9 : decode cX5_isAlive 9 = .ok (.getfield 120, 3) := by decide +kernel
theorem dX5_isAlive_12 : decode cX5_isAlive 12 = .ok (.iload_n 1, 1) := by decide +kernel
theorem dX5_isAlive_13 : decode cX5_isAlive 13 = .ok (.aaload, 1) := by decide +kernel
theorem dX5_isAlive_14 : decode cX5_isAlive 14 = .ok (.getfield 127, 3) := by decide +kernel
theorem dX5_isAlive_17 : decode cX5_isAlive 17 = .ok (.ireturn, 1) := by decide +kernel
theorem dX5_starter_0 : decode cX5_starter 0 = .ok (.aload_n 0, 1) := by decide +kernel
theorem dX5_starter_1 : decode cX5_starter 1 = .ok (.iload_n 1, 1) := by decide +kernel
theorem dX5_starter_2 : decode cX5_starter 2 = .ok (.invokevirtual 117, 3) := by decide +kernel
theorem dX5_starter_5 : decode cX5_starter 5 = .ok (.aload_n 0, 1) := by decide +kernel
theorem dX5_starter_6 : decode cX5_starter 6 = .ok (.getfield 10, 3) := by decide +kernel
theorem dX5_starter_9 : decode cX5_starter 9 = .ok (.getfield 120, 3) := by decide +kernel
theorem dX5_starter_12 : decode cX5_starter 12 = .ok (.iload_n 1, 1) := by decide +kernel
theorem dX5_starter_13 : decode cX5_starter 13 = .ok (.aaload, 1) := by decide +kernel
theorem dX5_starter_14 : decode cX5_starter 14 = .ok (.getfield 130, 3) := by decide +kernel
theorem dX5_starter_17 : decode cX5_starter 17 = .ok (.ireturn, 1) := by decide +kernel
theorem dX5_isSpreader_0 : decode cX5_isSpreader 0 = .ok (.aload_n 0, 1) := by decide +kernel
theorem dX5_isSpreader_1 : decode cX5_isSpreader 1 = .ok (.iload_n 1, 1) := by decide +kernel
theorem dX5_isSpreader_2 : decode cX5_isSpreader 2 = .ok (.invokevirtual 117, 3) := by decide +kernel
theorem dX5_isSpreader_5 : decode cX5_isSpreader 5 = .ok (.aload_n 0, 1) := by decide +kernel
theorem dX5_isSpreader_6 : decode cX5_isSpreader 6 = .ok (.iload_n 2, 1) := by decide +kernel
theorem dX5_isSpreader_7 : decode cX5_isSpreader 7 = .ok (.invokevirtual 74, 3) := by decide +kernel
theorem dX5_isSpreader_10 : decode cX5_isSpreader 10 = .ok (.aload_n 0, 1) := by decide +kernel
theorem dX5_isSpreader_11 : decode cX5_isSpreader 11 = .ok (.getfield 10, 3) := by decide +kernel
theorem dX5_isSpreader_14 : decode cX5_isSpreader 14 = .ok (.getfield 120, 3) := by decide +kernel
theorem dX5_isSpreader_17 : decode cX5_isSpreader 17 = .ok (.iload_n 1, 1) := by decide +kernel
theorem dX5_isSpreader_18 : decode cX5_isSpreader 18 = .ok (.aaload, 1) := by decide +kernel
theorem dX5_isSpreader_19 : decode cX5_isSpreader 19 = .ok (.getfield 133, 3) := by decide +kernel
theorem dX5_isSpreader_22 : decode cX5_isSpreader 22 = .ok (.iload_n 2, 1) := by decide +kernel
theorem dX5_isSpreader_23 : decode cX5_isSpreader 23 = .ok (.invokestatic 136, 3) := by decide +kernel
theorem dX5_isSpreader_26 : decode cX5_isSpreader 26 = .ok (.ireturn, 1) := by decide +kernel
theorem dX5_isSceptic_0 : decode cX5_isSceptic 0 = .ok (.aload_n 0, 1) := by decide +kernel
theorem dX5_isSceptic_1 : decode cX5_isSceptic 1 = .ok (.iload_n 1, 1) := by decide +kernel
theorem dX5_isSceptic_2 : decode cX5_isSceptic 2 = .ok (.invokevirtual 117, 3) := by decide +kernel
theorem dX5_isSceptic_5 : decode cX5_isSceptic 5 = .ok (.aload_n 0, 1) := by decide +kernel
theorem dX5_isSceptic_6 : decode cX5_isSceptic 6 = .ok (.iload_n 2, 1) := by decide +kernel
theorem dX5_isSceptic_7 : decode cX5_isSceptic 7 = .ok (.invokevirtual 74, 3) := by decide +kernel
theorem dX5_isSceptic_10 : decode cX5_isSceptic 10 = .ok (.aload_n 0, 1) := by decide +kernel
theorem dX5_isSceptic_11 : decode cX5_isSceptic 11 = .ok (.getfield 10, 3) := by decide +kernel
theorem dX5_isSceptic_14 : decode cX5_isSceptic 14 = .ok (.getfield 120, 3) := by decide +kernel
theorem dX5_isSceptic_17 : decode cX5_isSceptic 17 = .ok (.iload_n 1, 1) := by decide +kernel
theorem dX5_isSceptic_18 : decode cX5_isSceptic 18 = .ok (.aaload, 1) := by decide +kernel
theorem dX5_isSceptic_19 : decode cX5_isSceptic 19 = .ok (.getfield 139, 3) := by decide +kernel
theorem dX5_isSceptic_22 : decode cX5_isSceptic 22 = .ok (.iload_n 2, 1) := by decide +kernel
theorem dX5_isSceptic_23 : decode cX5_isSceptic 23 = .ok (.invokestatic 136, 3) := by decide +kernel
theorem dX5_isSceptic_26 : decode cX5_isSceptic 26 = .ok (.ireturn, 1) := by decide +kernel
theorem dX5_heardRound_0 : decode cX5_heardRound 0 = .ok (.aload_n 0, 1) := by decide +kernel
theorem dX5_heardRound_1 : decode cX5_heardRound 1 = .ok (.iload_n 1, 1) := by decide +kernel
theorem dX5_heardRound_2 : decode cX5_heardRound 2 = .ok (.invokevirtual 117, 3) := by decide +kernel
theorem dX5_heardRound_5 : decode cX5_heardRound 5 = .ok (.aload_n 0, 1) := by decide +kernel
theorem dX5_heardRound_6 : decode cX5_heardRound 6 = .ok (.iload_n 2, 1) := by decide +kernel
theorem dX5_heardRound_7 : decode cX5_heardRound 7 = .ok (.invokevirtual 74, 3) := by decide +kernel
theorem dX5_heardRound_10 : decode cX5_heardRound 10 = .ok (.aload_n 0, 1) := by decide +kernel
theorem dX5_heardRound_11 : decode cX5_heardRound 11 = .ok (.getfield 10, 3) := by decide +kernel
theorem dX5_heardRound_14 : decode cX5_heardRound 14 = .ok (.getfield 120, 3) := by decide +kernel
theorem dX5_heardRound_17 : decode cX5_heardRound 17 = .ok (.iload_n 1, 1) := by decide +kernel
theorem dX5_heardRound_18 : decode cX5_heardRound 18 = .ok (.aaload, 1) := by decide +kernel
theorem dX5_heardRound_19 : decode cX5_heardRound 19 = .ok (.invokevirtual 142, 3) := by decide +kernel
theorem dX5_heardRound_22 : decode cX5_heardRound 22 = .ok (.iload_n 2, 1) := by decide +kernel
theorem dX5_heardRound_23 : decode cX5_heardRound 23 = .ok (.invokestatic 136, 3) := by decide +kernel
theorem dX5_heardRound_26 : decode cX5_heardRound 26 = .ok (.ifCond .ne 13, 3) := by decide +kernel
theorem dX5_heardRound_29 : decode cX5_heardRound 29 = .ok (.new 145, 3) := by decide +kernel
theorem dX5_heardRound_32 : decode cX5_heardRound 32 = .ok (.dup, 1) := by decide +kernel
theorem dX5_heardRound_33 : decode cX5_heardRound 33 = .ok (.ldc 147, 2) := by decide +kernel
theorem dX5_heardRound_35 : decode cX5_heardRound 35 = .ok (.invokespecial 149, 3) := by decide +kernel
theorem dX5_heardRound_38 : decode cX5_heardRound 38 = .ok (.athrow, 1) := by decide +kernel
theorem dX5_heardRound_39 : decode cX5_heardRound 39 = .ok (.aload_n 0, 1) := by decide +kernel
theorem dX5_heardRound_40 : decode cX5_heardRound 40 = .ok (.getfield 10, 3) := by decide +kernel
theorem dX5_heardRound_43 : decode cX5_heardRound 43 = .ok (.getfield 120, 3) := by decide +kernel
theorem dX5_heardRound_46 : decode cX5_heardRound 46 = .ok (.iload_n 1, 1) := by decide +kernel
theorem dX5_heardRound_47 : decode cX5_heardRound 47 = .ok (.aaload, 1) := by decide +kernel
theorem dX5_heardRound_48 : decode cX5_heardRound 48 = .ok (.getfield 152, 3) := by decide +kernel
theorem dX5_heardRound_51 : decode cX5_heardRound 51 = .ok (.iload_n 2, 1) := by decide +kernel
theorem dX5_heardRound_52 : decode cX5_heardRound 52 = .ok (.iaload, 1) := by decide +kernel
theorem dX5_heardRound_53 : decode cX5_heardRound 53 = .ok (.ireturn, 1) := by decide +kernel
theorem dX5_spreaderCount_0 : decode cX5_spreaderCount 0 = .ok (.aload_n 0, 1) := by decide +kernel
theorem dX5_spreaderCount_1 : decode cX5_spreaderCount 1 = .ok (.iload_n 1, 1) := by decide +kernel
theorem dX5_spreaderCount_2 : decode cX5_spreaderCount 2 = .ok (.invokevirtual 117, 3) := by decide +kernel
theorem dX5_spreaderCount_5 : decode cX5_spreaderCount 5 = .ok (.aload_n 0, 1) := by decide +kernel
theorem dX5_spreaderCount_6 : decode cX5_spreaderCount 6 = .ok (.getfield 10, 3) := by decide +kernel
theorem dX5_spreaderCount_9 : decode cX5_spreaderCount 9 = .ok (.getfield 120, 3) := by decide +kernel
theorem dX5_spreaderCount_12 : decode cX5_spreaderCount 12 = .ok (.iload_n 1, 1) := by decide +kernel
theorem dX5_spreaderCount_13 : decode cX5_spreaderCount 13 = .ok (.aaload, 1) := by decide +kernel
theorem dX5_spreaderCount_14 : decode cX5_spreaderCount 14 = .ok (.getfield 133, 3) := by decide +kernel
theorem dX5_spreaderCount_17 : decode cX5_spreaderCount 17 = .ok (.invokestatic 92, 3) := by decide +kernel
theorem dX5_spreaderCount_20 : decode cX5_spreaderCount 20 = .ok (.ireturn, 1) := by decide +kernel
theorem dX5_scepticCount_0 : decode cX5_scepticCount 0 = .ok (.aload_n 0, 1) := by decide +kernel
theorem dX5_scepticCount_1 : decode cX5_scepticCount 1 = .ok (.iload_n 1, 1) := by decide +kernel
theorem dX5_scepticCount_2 : decode cX5_scepticCount 2 = .ok (.invokevirtual 117, 3) := by decide +kernel
theorem dX5_scepticCount_5 : decode cX5_scepticCount 5 = .ok (.aload_n 0, 1) := by decide +kernel
theorem dX5_scepticCount_6 : decode cX5_scepticCount 6 = .ok (.getfield 10, 3) := by decide +kernel
theorem dX5_scepticCount_9 : decode cX5_scepticCount 9 = .ok (.getfield 120, 3) := by decide +kernel
theorem dX5_scepticCount_12 : decode cX5_scepticCount 12 = .ok (.iload_n 1, 1) := by decide +kernel
theorem dX5_scepticCount_13 : decode cX5_scepticCount 13 = .ok (.aaload, 1) := by decide +kernel
theorem dX5_scepticCount_14 : decode cX5_scepticCount 14 = .ok (.getfield 139, 3) := by decide +kernel
theorem dX5_scepticCount_17 : decode cX5_scepticCount 17 = .ok (.invokestatic 92, 3) := by decide +kernel
theorem dX5_scepticCount_20 : decode cX5_scepticCount 20 = .ok (.ireturn, 1) := by decide +kernel
theorem dX5_countedHive_0 : decode cX5_countedHive 0 = .ok (.aload_n 0, 1) := by decide +kernel
theorem dX5_countedHive_1 : decode cX5_countedHive 1 = .ok (.iload_n 1, 1) := by decide +kernel
theorem dX5_countedHive_2 : decode cX5_countedHive 2 = .ok (.invokevirtual 117, 3) := by decide +kernel
theorem dX5_countedHive_5 : decode cX5_countedHive 5 = .ok (.aload_n 0, 1) := by decide +kernel
theorem dX5_countedHive_6 : decode cX5_countedHive 6 = .ok (.getfield 10, 3) := by decide +kernel
theorem dX5_countedHive_9 : decode cX5_countedHive 9 = .ok (.getfield 120, 3) := by decide +kernel
theorem dX5_countedHive_12 : decode cX5_countedHive 12 = .ok (.iload_n 1, 1) := by decide +kernel
theorem dX5_countedHive_13 : decode cX5_countedHive 13 = .ok (.aaload, 1) := by decide +kernel
theorem dX5_countedHive_14 : decode cX5_countedHive 14 = .ok (.getfield 133, 3) := by decide +kernel
theorem dX5_countedHive_17 : decode cX5_countedHive 17 = .ok (.ifCond .ne 13, 3) := by decide +kernel
theorem dX5_countedHive_20 : decode cX5_countedHive 20 = .ok (.new 145, 3) := by decide +kernel
theorem dX5_countedHive_23 : decode cX5_countedHive 23 = .ok (.dup, 1) := by decide +kernel
theorem dX5_countedHive_24 : decode cX5_countedHive 24 = .ok (.ldc 155, 2) := by decide +kernel
theorem dX5_countedHive_26 : decode cX5_countedHive 26 = .ok (.invokespecial 149, 3) := by decide +kernel
theorem dX5_countedHive_29 : decode cX5_countedHive 29 = .ok (.athrow, 1) := by decide +kernel
theorem dX5_countedHive_30 : decode cX5_countedHive 30 = .ok (.aload_n 0, 1) := by decide +kernel
theorem dX5_countedHive_31 : decode cX5_countedHive 31 = .ok (.getfield 10, 3) := by decide +kernel
theorem dX5_countedHive_34 : decode cX5_countedHive 34 = .ok (.aload_n 0, 1) := by decide +kernel
theorem dX5_countedHive_35 : decode cX5_countedHive 35 = .ok (.getfield 10, 3) := by decide +kernel
theorem dX5_countedHive_38 : decode cX5_countedHive 38 = .ok (.getfield 120, 3) := by decide +kernel
theorem dX5_countedHive_41 : decode cX5_countedHive 41 = .ok (.iload_n 1, 1) := by decide +kernel
theorem dX5_countedHive_42 : decode cX5_countedHive 42 = .ok (.aaload, 1) := by decide +kernel
theorem dX5_countedHive_43 : decode cX5_countedHive 43 = .ok (.getfield 133, 3) := by decide +kernel
theorem dX5_countedHive_46 : decode cX5_countedHive 46 = .ok (.invokevirtual 157, 3) := by decide +kernel
theorem dX5_countedHive_49 : decode cX5_countedHive 49 = .ok (.ireturn, 1) := by decide +kernel
theorem dX5_spreadersInHive_0 : decode cX5_spreadersInHive 0 = .ok (.aload_n 0, 1) := by decide +kernel
theorem dX5_spreadersInHive_1 : decode cX5_spreadersInHive 1 = .ok (.iload_n 1, 1) := by decide +kernel
theorem dX5_spreadersInHive_2 : decode cX5_spreadersInHive 2 = .ok (.invokevirtual 117, 3) := by decide +kernel
theorem dX5_spreadersInHive_5 : decode cX5_spreadersInHive 5 = .ok (.iload_n 2, 1) := by decide +kernel
theorem dX5_spreadersInHive_6 : decode cX5_spreadersInHive 6 = .ok (.invokestatic 101, 3) := by decide +kernel
theorem dX5_spreadersInHive_9 : decode cX5_spreadersInHive 9 = .ok (.aload_n 0, 1) := by decide +kernel
theorem dX5_spreadersInHive_10 : decode cX5_spreadersInHive 10 = .ok (.getfield 10, 3) := by decide +kernel
theorem dX5_spreadersInHive_13 : decode cX5_spreadersInHive 13 = .ok (.getfield 120, 3) := by decide +kernel
theorem dX5_spreadersInHive_16 : decode cX5_spreadersInHive 16 = .ok (.iload_n 1, 1) := by decide +kernel
theorem dX5_spreadersInHive_17 : decode cX5_spreadersInHive 17 = .ok (.aaload, 1) := by decide +kernel
theorem dX5_spreadersInHive_18 : decode cX5_spreadersInHive 18 = .ok (.getfield 133, 3) := by decide +kernel
theorem dX5_spreadersInHive_21 : decode cX5_spreadersInHive 21 = .ok (.aload_n 0, 1) := by decide +kernel
theorem dX5_spreadersInHive_22 : decode cX5_spreadersInHive 22 = .ok (.getfield 10, 3) := by decide +kernel
theorem dX5_spreadersInHive_25 : decode cX5_spreadersInHive 25 = .ok (.iload_n 2, 1) := by decide +kernel
theorem dX5_spreadersInHive_26 : decode cX5_spreadersInHive 26 = .ok (.invokevirtual 104, 3) := by decide +kernel
theorem dX5_spreadersInHive_29 : decode cX5_spreadersInHive 29 = .ok (.iand, 1) := by decide +kernel
theorem dX5_spreadersInHive_30 : decode cX5_spreadersInHive 30 = .ok (.invokestatic 92, 3) := by decide +kernel
theorem dX5_spreadersInHive_33 : decode cX5_spreadersInHive 33 = .ok (.ireturn, 1) := by decide +kernel
theorem dX5_distance_0 : decode cX5_distance 0 = .ok (.aload_n 0, 1) := by decide +kernel
theorem dX5_distance_1 : decode cX5_distance 1 = .ok (.iload_n 1, 1) := by decide +kernel
theorem dX5_distance_2 : decode cX5_distance 2 = .ok (.invokevirtual 117, 3) := by decide +kernel
theorem dX5_distance_5 : decode cX5_distance 5 = .ok (.aload_n 0, 1) := by decide +kernel
theorem dX5_distance_6 : decode cX5_distance 6 = .ok (.iload_n 2, 1) := by decide +kernel
theorem dX5_distance_7 : decode cX5_distance 7 = .ok (.invokevirtual 74, 3) := by decide +kernel
theorem dX5_distance_10 : decode cX5_distance 10 = .ok (.aload_n 0, 1) := by decide +kernel
theorem dX5_distance_11 : decode cX5_distance 11 = .ok (.getfield 10, 3) := by decide +kernel
theorem dX5_distance_14 : decode cX5_distance 14 = .ok (.getfield 65, 3) := by decide +kernel
theorem dX5_distance_17 : decode cX5_distance 17 = .ok (.iload_n 2, 1) := by decide +kernel
theorem dX5_distance_18 : decode cX5_distance 18 = .ok (.aload_n 0, 1) := by decide +kernel
theorem dX5_distance_19 : decode cX5_distance 19 = .ok (.getfield 10, 3) := by decide +kernel
theorem dX5_distance_22 : decode cX5_distance 22 = .ok (.getfield 120, 3) := by decide +kernel
theorem dX5_distance_25 : decode cX5_distance 25 = .ok (.iload_n 1, 1) := by decide +kernel
theorem dX5_distance_26 : decode cX5_distance 26 = .ok (.aaload, 1) := by decide +kernel
theorem dX5_distance_27 : decode cX5_distance 27 = .ok (.getfield 133, 3) := by decide +kernel
theorem dX5_distance_30 : decode cX5_distance 30 = .ok (.invokevirtual 160, 3) := by decide +kernel
theorem dX5_distance_33 : decode cX5_distance 33 = .ok (.invokestatic 164, 3) := by decide +kernel
theorem dX5_distance_36 : decode cX5_distance 36 = .ok (.ireturn, 1) := by decide +kernel
theorem dX5_distanceByRelaxation_0 : decode cX5_distanceByRelaxation 0 = .ok (.aload_n 0, 1) := by decide +kernel
theorem dX5_distanceByRelaxation_1 : decode cX5_distanceByRelaxation 1 = .ok (.iload_n 1, 1) := by decide +kernel
theorem dX5_distanceByRelaxation_2 : decode cX5_distanceByRelaxation 2 = .ok (.invokevirtual 117, 3) := by decide +kernel
theorem dX5_distanceByRelaxation_5 : decode cX5_distanceByRelaxation 5 = .ok (.aload_n 0, 1) := by decide +kernel
theorem dX5_distanceByRelaxation_6 : decode cX5_distanceByRelaxation 6 = .ok (.iload_n 2, 1) := by decide +kernel
theorem dX5_distanceByRelaxation_7 : decode cX5_distanceByRelaxation 7 = .ok (.invokevirtual 74, 3) := by decide +kernel
theorem dX5_distanceByRelaxation_10 : decode cX5_distanceByRelaxation 10 = .ok (.aload_n 0, 1) := by decide +kernel
theorem dX5_distanceByRelaxation_11 : decode cX5_distanceByRelaxation 11 = .ok (.getfield 10, 3) := by decide +kernel
theorem dX5_distanceByRelaxation_14 : decode cX5_distanceByRelaxation 14 = .ok (.getfield 65, 3) := by decide +kernel
theorem dX5_distanceByRelaxation_17 : decode cX5_distanceByRelaxation 17 = .ok (.iload_n 2, 1) := by decide +kernel
theorem dX5_distanceByRelaxation_18 : decode cX5_distanceByRelaxation 18 = .ok (.aload_n 0, 1) := by decide +kernel
theorem dX5_distanceByRelaxation_19 : decode cX5_distanceByRelaxation 19 = .ok (.getfield 10, 3) := by decide +kernel
theorem dX5_distanceByRelaxation_22 : decode cX5_distanceByRelaxation 22 = .ok (.getfield 120, 3) := by decide +kernel
theorem dX5_distanceByRelaxation_25 : decode cX5_distanceByRelaxation 25 = .ok (.iload_n 1, 1) := by decide +kernel
theorem dX5_distanceByRelaxation_26 : decode cX5_distanceByRelaxation 26 = .ok (.aaload, 1) := by decide +kernel
theorem dX5_distanceByRelaxation_27 : decode cX5_distanceByRelaxation 27 = .ok (.getfield 133, 3) := by decide +kernel
theorem dX5_distanceByRelaxation_30 : decode cX5_distanceByRelaxation 30 = .ok (.invokevirtual 167, 3) := by decide +kernel
theorem dX5_distanceByRelaxation_33 : decode cX5_distanceByRelaxation 33 = .ok (.invokestatic 164, 3) := by decide +kernel
theorem dX5_distanceByRelaxation_36 : decode cX5_distanceByRelaxation 36 = .ok (.ireturn, 1) := by decide +kernel
theorem dX5_nextSpreaders_0 : decode cX5_nextSpreaders 0 = .ok (.aload_n 0, 1) := by decide +kernel
theorem dX5_nextSpreaders_1 : decode cX5_nextSpreaders 1 = .ok (.iload_n 1, 1) := by decide +kernel
theorem dX5_nextSpreaders_2 : decode cX5_nextSpreaders 2 = .ok (.invokevirtual 117, 3) := by decide +kernel
theorem dX5_nextSpreaders_5 : decode cX5_nextSpreaders 5 = .ok (.aload_n 0, 1) := by decide +kernel
theorem dX5_nextSpreaders_6 : decode cX5_nextSpreaders 6 = .ok (.getfield 10, 3) := by decide +kernel
theorem dX5_nextSpreaders_9 : decode cX5_nextSpreaders 9 = .ok (.aload_n 0, 1) := by decide +kernel
theorem dX5_nextSpreaders_10 : decode cX5_nextSpreaders 10 = .ok (.getfield 10, 3) := by decide +kernel
theorem dX5_nextSpreaders_13 : decode cX5_nextSpreaders 13 = .ok (.getfield 120, 3) := by decide +kernel
theorem dX5_nextSpreaders_16 : decode cX5_nextSpreaders 16 = .ok (.iload_n 1, 1) := by decide +kernel
theorem dX5_nextSpreaders_17 : decode cX5_nextSpreaders 17 = .ok (.aaload, 1) := by decide +kernel
theorem dX5_nextSpreaders_18 : decode cX5_nextSpreaders 18 = .ok (.invokevirtual 170, 3) := by decide +kernel
theorem dX5_nextSpreaders_21 : decode cX5_nextSpreaders 21 = .ok (.ireturn, 1) := by decide +kernel
theorem dX5_roundsUntilHeard_0 : decode cX5_roundsUntilHeard 0 = .ok (.aload_n 0, 1) := by decide +kernel
theorem dX5_roundsUntilHeard_1 : decode cX5_roundsUntilHeard 1 = .ok (.iload_n 1, 1) := by decide +kernel
theorem dX5_roundsUntilHeard_2 : decode cX5_roundsUntilHeard 2 = .ok (.invokevirtual 117, 3) := by decide +kernel
theorem dX5_roundsUntilHeard_5 : decode cX5_roundsUntilHeard 5 = .ok (.aload_n 0, 1) := by decide +kernel
theorem dX5_roundsUntilHeard_6 : decode cX5_roundsUntilHeard 6 = .ok (.iload_n 2, 1) := by decide +kernel
theorem dX5_roundsUntilHeard_7 : decode cX5_roundsUntilHeard 7 = .ok (.invokevirtual 74, 3) := by decide +kernel
theorem dX5_roundsUntilHeard_10 : decode cX5_roundsUntilHeard 10 = .ok (.aload_n 0, 1) := by decide +kernel
theorem dX5_roundsUntilHeard_11 : decode cX5_roundsUntilHeard 11 = .ok (.getfield 10, 3) := by decide +kernel
theorem dX5_roundsUntilHeard_14 : decode cX5_roundsUntilHeard 14 = .ok (.getfield 120, 3) := by decide +kernel
theorem dX5_roundsUntilHeard_17 : decode cX5_roundsUntilHeard 17 = .ok (.iload_n 1, 1) := by decide +kernel
theorem dX5_roundsUntilHeard_18 : decode cX5_roundsUntilHeard 18 = .ok (.aaload, 1) := by decide +kernel
theorem dX5_roundsUntilHeard_19 : decode cX5_roundsUntilHeard 19 = .ok (.invokevirtual 142, 3) := by decide +kernel
theorem dX5_roundsUntilHeard_22 : decode cX5_roundsUntilHeard 22 = .ok (.iload_n 2, 1) := by decide +kernel
theorem dX5_roundsUntilHeard_23 : decode cX5_roundsUntilHeard 23 = .ok (.invokestatic 136, 3) := by decide +kernel
theorem dX5_roundsUntilHeard_26 : decode cX5_roundsUntilHeard 26 = .ok (.ifCond .eq 13, 3) := by decide +kernel
theorem dX5_roundsUntilHeard_29 : decode cX5_roundsUntilHeard 29 = .ok (.new 174, 3) := by decide +kernel
theorem dX5_roundsUntilHeard_32 : decode cX5_roundsUntilHeard 32 = .ok (.dup, 1) := by decide +kernel
theorem dX5_roundsUntilHeard_33 : decode cX5_roundsUntilHeard 33 = .ok (.ldc 176, 2) := by decide +kernel
theorem dX5_roundsUntilHeard_35 : decode cX5_roundsUntilHeard 35 = .ok (.invokespecial 178, 3) := by decide +kernel
theorem dX5_roundsUntilHeard_38 : decode cX5_roundsUntilHeard 38 = .ok (.athrow, 1) := by decide +kernel
theorem dX5_roundsUntilHeard_39 : decode cX5_roundsUntilHeard 39 = .ok (.aload_n 0, 1) := by decide +kernel
theorem dX5_roundsUntilHeard_40 : decode cX5_roundsUntilHeard 40 = .ok (.aload_n 0, 1) := by decide +kernel
theorem dX5_roundsUntilHeard_41 : decode cX5_roundsUntilHeard 41 = .ok (.getfield 10, 3) := by decide +kernel
theorem dX5_roundsUntilHeard_44 : decode cX5_roundsUntilHeard 44 = .ok (.getfield 120, 3) := by decide +kernel
theorem dX5_roundsUntilHeard_47 : decode cX5_roundsUntilHeard 47 = .ok (.iload_n 1, 1) := by decide +kernel
theorem dX5_roundsUntilHeard_48 : decode cX5_roundsUntilHeard 48 = .ok (.aaload, 1) := by decide +kernel
theorem dX5_roundsUntilHeard_49 : decode cX5_roundsUntilHeard 49 = .ok (.iload_n 2, 1) := by decide +kernel
theorem dX5_roundsUntilHeard_50 : decode cX5_roundsUntilHeard 50 = .ok (.invokevirtual 179, 3) := by decide +kernel
theorem dX5_roundsUntilHeard_53 : decode cX5_roundsUntilHeard 53 = .ok (.invokestatic 164, 3) := by decide +kernel
theorem dX5_roundsUntilHeard_56 : decode cX5_roundsUntilHeard 56 = .ok (.ireturn, 1) := by decide +kernel
theorem dX5_spreadersAfter_0 : decode cX5_spreadersAfter 0 = .ok (.aload_n 0, 1) := by decide +kernel
theorem dX5_spreadersAfter_1 : decode cX5_spreadersAfter 1 = .ok (.iload_n 1, 1) := by decide +kernel
theorem dX5_spreadersAfter_2 : decode cX5_spreadersAfter 2 = .ok (.invokevirtual 117, 3) := by decide +kernel
theorem dX5_spreadersAfter_5 : decode cX5_spreadersAfter 5 = .ok (.iload_n 2, 1) := by decide +kernel
theorem dX5_spreadersAfter_6 : decode cX5_spreadersAfter 6 = .ok (.ifCond .lt 9, 3) := by decide +kernel
theorem dX5_spreadersAfter_9 : decode cX5_spreadersAfter 9 = .ok (.iload_n 2, 1) := by decide +kernel
theorem dX5_spreadersAfter_10 : decode cX5_spreadersAfter 10 = .ok (.bipush 40, 2) := by decide +kernel
theorem dX5_spreadersAfter_12 : decode cX5_spreadersAfter 12 = .ok (.if_icmp .le 13, 3) := by decide +kernel
theorem dX5_spreadersAfter_15 : decode cX5_spreadersAfter 15 = .ok (.new 183, 3) := by decide +kernel
theorem dX5_spreadersAfter_18 : decode cX5_spreadersAfter 18 = .ok (.dup, 1) := by decide +kernel
theorem dX5_spreadersAfter_19 : decode cX5_spreadersAfter 19 = .ok (.ldc 185, 2) := by decide +kernel
theorem dX5_spreadersAfter_21 : decode cX5_spreadersAfter 21 = .ok (.invokespecial 187, 3) := by decide +kernel
theorem dX5_spreadersAfter_24 : decode cX5_spreadersAfter 24 = .ok (.athrow, 1) := by decide +kernel
theorem dX5_spreadersAfter_25 : decode cX5_spreadersAfter 25 = .ok (.aload_n 0, 1) := by decide +kernel
theorem dX5_spreadersAfter_26 : decode cX5_spreadersAfter 26 = .ok (.getfield 32, 3) := by decide +kernel
theorem dX5_spreadersAfter_29 : decode cX5_spreadersAfter 29 = .ok (.aload_n 0, 1) := by decide +kernel
theorem dX5_spreadersAfter_30 : decode cX5_spreadersAfter 30 = .ok (.getfield 10, 3) := by decide +kernel
theorem dX5_spreadersAfter_33 : decode cX5_spreadersAfter 33 = .ok (.getfield 120, 3) := by decide +kernel
theorem dX5_spreadersAfter_36 : decode cX5_spreadersAfter 36 = .ok (.iload_n 1, 1) := by decide +kernel
theorem dX5_spreadersAfter_37 : decode cX5_spreadersAfter 37 = .ok (.aaload, 1) := by decide +kernel
theorem dX5_spreadersAfter_38 : decode cX5_spreadersAfter 38 = .ok (.invokevirtual 188, 3) := by decide +kernel
theorem dX5_spreadersAfter_41 : decode cX5_spreadersAfter 41 = .ok (.iconst 0, 1) := by decide +kernel
theorem dX5_spreadersAfter_42 : decode cX5_spreadersAfter 42 = .ok (.istore_n 3, 1) := by decide +kernel
theorem dX5_spreadersAfter_43 : decode cX5_spreadersAfter 43 = .ok (.iload_n 3, 1) := by decide +kernel
theorem dX5_spreadersAfter_44 : decode cX5_spreadersAfter 44 = .ok (.iload_n 2, 1) := by decide +kernel
theorem dX5_spreadersAfter_45 : decode cX5_spreadersAfter 45 = .ok (.if_icmp .ge 21, 3) := by decide +kernel
theorem dX5_spreadersAfter_48 : decode cX5_spreadersAfter 48 = .ok (.aload_n 0, 1) := by decide +kernel
theorem dX5_spreadersAfter_49 : decode cX5_spreadersAfter 49 = .ok (.getfield 10, 3) := by decide +kernel
theorem dX5_spreadersAfter_52 : decode cX5_spreadersAfter 52 = .ok (.aload_n 0, 1) := by decide +kernel
theorem dX5_spreadersAfter_53 : decode cX5_spreadersAfter 53 = .ok (.getfield 32, 3) := by decide +kernel
theorem dX5_spreadersAfter_56 : decode cX5_spreadersAfter 56 = .ok (.invokevirtual 192, 3) := by decide +kernel
theorem dX5_spreadersAfter_59 : decode cX5_spreadersAfter 59 = .ok (.pop, 1) := by decide +kernel
theorem dX5_spreadersAfter_60 : decode cX5_spreadersAfter 60 = .ok (.iinc 3 1, 3) := by decide +kernel
theorem dX5_spreadersAfter_63 : decode cX5_spreadersAfter 63 = .ok (.goto (-20), 3) := by decide +kernel
theorem dX5_spreadersAfter_66 : decode cX5_spreadersAfter 66 = .ok (.aload_n 0, 1) := by decide +kernel
theorem dX5_spreadersAfter_67 : decode cX5_spreadersAfter 67 = .ok (.getfield 32, 3) := by decide +kernel
theorem dX5_spreadersAfter_70 : decode cX5_spreadersAfter 70 = .ok (.getfield 133, 3) := by decide +kernel
theorem dX5_spreadersAfter_73 : decode cX5_spreadersAfter 73 = .ok (.invokestatic 92, 3) := by decide +kernel
theorem dX5_spreadersAfter_76 : decode cX5_spreadersAfter 76 = .ok (.ireturn, 1) := by decide +kernel
theorem dX5_rumourBySpread_0 : decode cX5_rumourBySpread 0 = .ok (.aload_n 0, 1) := by decide +kernel
theorem dX5_rumourBySpread_1 : decode cX5_rumourBySpread 1 = .ok (.getfield 10, 3) := by decide +kernel
theorem dX5_rumourBySpread_4 : decode cX5_rumourBySpread 4 = .ok (.iload_n 1, 1) := by decide +kernel
theorem dX5_rumourBySpread_5 : decode cX5_rumourBySpread 5 = .ok (.invokevirtual 195, 3) := by decide +kernel
theorem dX5_rumourBySpread_8 : decode cX5_rumourBySpread 8 = .ok (.invokestatic 164, 3) := by decide +kernel
theorem dX5_rumourBySpread_11 : decode cX5_rumourBySpread 11 = .ok (.ireturn, 1) := by decide +kernel
theorem dX5_listenerByGossip_0 : decode cX5_listenerByGossip 0 = .ok (.aload_n 0, 1) := by decide +kernel
theorem dX5_listenerByGossip_1 : decode cX5_listenerByGossip 1 = .ok (.getfield 10, 3) := by decide +kernel
theorem dX5_listenerByGossip_4 : decode cX5_listenerByGossip 4 = .ok (.iload_n 1, 1) := by decide +kernel
theorem dX5_listenerByGossip_5 : decode cX5_listenerByGossip 5 = .ok (.invokevirtual 198, 3) := by decide +kernel
theorem dX5_listenerByGossip_8 : decode cX5_listenerByGossip 8 = .ok (.invokestatic 164, 3) := by decide +kernel
theorem dX5_listenerByGossip_11 : decode cX5_listenerByGossip 11 = .ok (.ireturn, 1) := by decide +kernel
theorem dX5_round_0 : decode cX5_round 0 = .ok (.aload_n 0, 1) := by decide +kernel
theorem dX5_round_1 : decode cX5_round 1 = .ok (.getfield 10, 3) := by decide +kernel
theorem dX5_round_4 : decode cX5_round 4 = .ok (.getfield 201, 3) := by decide +kernel
theorem dX5_round_7 : decode cX5_round 7 = .ok (.ireturn, 1) := by decide +kernel
theorem dX5_heardTotal_0 : decode cX5_heardTotal 0 = .ok (.aload_n 0, 1) := by decide +kernel
theorem dX5_heardTotal_1 : decode cX5_heardTotal 1 = .ok (.getfield 10, 3) := by decide +kernel
theorem dX5_heardTotal_4 : decode cX5_heardTotal 4 = .ok (.getfield 204, 3) := by decide +kernel
theorem dX5_heardTotal_7 : decode cX5_heardTotal 7 = .ok (.ireturn, 1) := by decide +kernel
theorem dX5_successfulChecks_0 : decode cX5_successfulChecks 0 = .ok (.aload_n 0, 1) := by decide +kernel
theorem dX5_successfulChecks_1 : decode cX5_successfulChecks 1 = .ok (.getfield 10, 3) := by decide +kernel
theorem dX5_successfulChecks_4 : decode cX5_successfulChecks 4 = .ok (.getfield 207, 3) := by decide +kernel
theorem dX5_successfulChecks_7 : decode cX5_successfulChecks 7 = .ok (.ireturn, 1) := by decide +kernel
theorem dX5_meanDoubt_0 : decode cX5_meanDoubt 0 = .ok (.aload_n 0, 1) := by decide +kernel
theorem dX5_meanDoubt_1 : decode cX5_meanDoubt 1 = .ok (.getfield 10, 3) := by decide +kernel
theorem dX5_meanDoubt_4 : decode cX5_meanDoubt 4 = .ok (.getfield 65, 3) := by decide +kernel
theorem dX5_meanDoubt_7 : decode cX5_meanDoubt 7 = .ok (.getfield 69, 3) := by decide +kernel
theorem dX5_meanDoubt_10 : decode cX5_meanDoubt 10 = .ok (.ifCond .ne 13, 3) := by decide +kernel
theorem dX5_meanDoubt_13 : decode cX5_meanDoubt 13 = .ok (.new 210, 3) := by decide +kernel
theorem dX5_meanDoubt_16 : decode cX5_meanDoubt 16 = .ok (.dup, 1) := by decide +kernel
theorem dX5_meanDoubt_17 : decode cX5_meanDoubt 17 = .ok (.ldc 212, 2) := by decide +kernel
theorem dX5_meanDoubt_19 : decode cX5_meanDoubt 19 = .ok (.invokespecial 214, 3) := by decide +kernel
theorem dX5_meanDoubt_22 : decode cX5_meanDoubt 22 = .ok (.athrow, 1) := by decide +kernel
theorem dX5_meanDoubt_23 : decode cX5_meanDoubt 23 = .ok (.aload_n 0, 1) := by decide +kernel
theorem dX5_meanDoubt_24 : decode cX5_meanDoubt 24 = .ok (.getfield 10, 3) := by decide +kernel
theorem dX5_meanDoubt_27 : decode cX5_meanDoubt 27 = .ok (.invokevirtual 215, 3) := by decide +kernel
theorem dX5_meanDoubt_30 : decode cX5_meanDoubt 30 = .ok (.i2d, 1) := by decide +kernel
theorem dX5_meanDoubt_31 : decode cX5_meanDoubt 31 = .ok (.aload_n 0, 1) := by decide +kernel
theorem dX5_meanDoubt_32 : decode cX5_meanDoubt 32 = .ok (.getfield 10, 3) := by decide +kernel
theorem dX5_meanDoubt_35 : decode cX5_meanDoubt 35 = .ok (.getfield 65, 3) := by decide +kernel
theorem dX5_meanDoubt_38 : decode cX5_meanDoubt 38 = .ok (.getfield 69, 3) := by decide +kernel
theorem dX5_meanDoubt_41 : decode cX5_meanDoubt 41 = .ok (.i2d, 1) := by decide +kernel
theorem dX5_meanDoubt_42 : decode cX5_meanDoubt 42 = .ok (.ddiv, 1) := by decide +kernel
theorem dX5_meanDoubt_43 : decode cX5_meanDoubt 43 = .ok (.dreturn, 1) := by decide +kernel
theorem dX5_gossipShare_0 : decode cX5_gossipShare 0 = .ok (.aload_n 0, 1) := by decide +kernel
theorem dX5_gossipShare_1 : decode cX5_gossipShare 1 = .ok (.getfield 10, 3) := by decide +kernel
theorem dX5_gossipShare_4 : decode cX5_gossipShare 4 = .ok (.getfield 65, 3) := by decide +kernel
theorem dX5_gossipShare_7 : decode cX5_gossipShare 7 = .ok (.getfield 69, 3) := by decide +kernel
theorem dX5_gossipShare_10 : decode cX5_gossipShare 10 = .ok (.ifCond .ne 13, 3) := by decide +kernel
theorem dX5_gossipShare_13 : decode cX5_gossipShare 13 = .ok (.new 210, 3) := by decide +kernel
theorem dX5_gossipShare_16 : decode cX5_gossipShare 16 = .ok (.dup, 1) := by decide +kernel
theorem dX5_gossipShare_17 : decode cX5_gossipShare 17 = .ok (.ldc 212, 2) := by decide +kernel
theorem dX5_gossipShare_19 : decode cX5_gossipShare 19 = .ok (.invokespecial 214, 3) := by decide +kernel
theorem dX5_gossipShare_22 : decode cX5_gossipShare 22 = .ok (.athrow, 1) := by decide +kernel
theorem dX5_gossipShare_23 : decode cX5_gossipShare 23 = .ok (.aload_n 0, 1) := by decide +kernel
theorem dX5_gossipShare_24 : decode cX5_gossipShare 24 = .ok (.getfield 10, 3) := by decide +kernel
theorem dX5_gossipShare_27 : decode cX5_gossipShare 27 = .ok (.invokevirtual 218, 3) := by decide +kernel
theorem dX5_gossipShare_30 : decode cX5_gossipShare 30 = .ok (.invokestatic 92, 3) := by decide +kernel
theorem dX5_gossipShare_33 : decode cX5_gossipShare 33 = .ok (.i2f, 1) := by decide +kernel
theorem dX5_gossipShare_34 : decode cX5_gossipShare 34 = .ok (.aload_n 0, 1) := by decide +kernel
theorem dX5_gossipShare_35 : decode cX5_gossipShare 35 = .ok (.getfield 10, 3) := by decide +kernel
theorem dX5_gossipShare_38 : decode cX5_gossipShare 38 = .ok (.getfield 65, 3) := by decide +kernel
theorem dX5_gossipShare_41 : decode cX5_gossipShare 41 = .ok (.getfield 69, 3) := by decide +kernel
theorem dX5_gossipShare_44 : decode cX5_gossipShare 44 = .ok (.i2f, 1) := by decide +kernel
theorem dX5_gossipShare_45 : decode cX5_gossipShare 45 = .ok (.fdiv, 1) := by decide +kernel
theorem dX5_gossipShare_46 : decode cX5_gossipShare 46 = .ok (.freturn, 1) := by decide +kernel
theorem dX5_isConsistent_0 : decode cX5_isConsistent 0 = .ok (.aload_n 0, 1) := by decide +kernel
theorem dX5_isConsistent_1 : decode cX5_isConsistent 1 = .ok (.getfield 10, 3) := by decide +kernel
theorem dX5_isConsistent_4 : decode cX5_isConsistent 4 = .ok (.getfield 65, 3) := by decide +kernel
theorem dX5_isConsistent_7 : decode cX5_isConsistent 7 = .ok (.invokevirtual 107, 3) := by decide +kernel
theorem dX5_isConsistent_10 : decode cX5_isConsistent 10 = .ok (.aload_n 0, 1) := by decide +kernel
theorem dX5_isConsistent_11 : decode cX5_isConsistent 11 = .ok (.getfield 10, 3) := by decide +kernel
theorem dX5_isConsistent_14 : decode cX5_isConsistent 14 = .ok (.getfield 65, 3) := by decide +kernel
theorem dX5_isConsistent_17 : decode cX5_isConsistent 17 = .ok (.invokevirtual 111, 3) := by decide +kernel
theorem dX5_isConsistent_20 : decode cX5_isConsistent 20 = .ok (.if_icmp .ne 37, 3) := by decide +kernel
theorem dX5_isConsistent_23 : decode cX5_isConsistent 23 = .ok (.aload_n 0, 1) := by decide +kernel
theorem dX5_isConsistent_24 : decode cX5_isConsistent 24 = .ok (.getfield 10, 3) := by decide +kernel
theorem dX5_isConsistent_27 : decode cX5_isConsistent 27 = .ok (.invokevirtual 221, 3) := by decide +kernel
theorem dX5_isConsistent_30 : decode cX5_isConsistent 30 = .ok (.ifCond .eq 27, 3) := by decide +kernel
theorem dX5_isConsistent_33 : decode cX5_isConsistent 33 = .ok (.aload_n 0, 1) := by decide +kernel
theorem dX5_isConsistent_34 : decode cX5_isConsistent 34 = .ok (.getfield 10, 3) := by decide +kernel
theorem dX5_isConsistent_37 : decode cX5_isConsistent 37 = .ok (.invokevirtual 225, 3) := by decide +kernel
theorem dX5_isConsistent_40 : decode cX5_isConsistent 40 = .ok (.ifCond .eq 17, 3) := by decide +kernel
theorem dX5_isConsistent_43 : decode cX5_isConsistent 43 = .ok (.aload_n 0, 1) := by decide +kernel
theorem dX5_isConsistent_44 : decode cX5_isConsistent 44 = .ok (.getfield 10, 3) := by decide +kernel
theorem dX5_isConsistent_47 : decode cX5_isConsistent 47 = .ok (.invokevirtual 228, 3) := by decide +kernel
theorem dX5_isConsistent_50 : decode cX5_isConsistent 50 = .ok (.ifCond .eq 7, 3) := by decide +kernel
theorem dX5_isConsistent_53 : decode cX5_isConsistent 53 = .ok (.iconst 1, 1) := by decide +kernel
theorem dX5_isConsistent_54 : decode cX5_isConsistent 54 = .ok (.goto 4, 3) := by decide +kernel
theorem dX5_isConsistent_57 : decode cX5_isConsistent 57 = .ok (.iconst 0, 1) := by decide +kernel
theorem dX5_isConsistent_58 : decode cX5_isConsistent 58 = .ok (.ireturn, 1) := by decide +kernel
theorem dX5_renderRumour_0 : decode cX5_renderRumour 0 = .ok (.aload_n 0, 1) := by decide +kernel
theorem dX5_renderRumour_1 : decode cX5_renderRumour 1 = .ok (.iload_n 1, 1) := by decide +kernel
theorem dX5_renderRumour_2 : decode cX5_renderRumour 2 = .ok (.invokevirtual 117, 3) := by decide +kernel
theorem dX5_renderRumour_5 : decode cX5_renderRumour 5 = .ok (.aload_n 0, 1) := by decide +kernel
theorem dX5_renderRumour_6 : decode cX5_renderRumour 6 = .ok (.getfield 10, 3) := by decide +kernel
theorem dX5_renderRumour_9 : decode cX5_renderRumour 9 = .ok (.getfield 120, 3) := by decide +kernel
theorem dX5_renderRumour_12 : decode cX5_renderRumour 12 = .ok (.iload_n 1, 1) := by decide +kernel
theorem dX5_renderRumour_13 : decode cX5_renderRumour 13 = .ok (.aaload, 1) := by decide +kernel
theorem dX5_renderRumour_14 : decode cX5_renderRumour 14 = .ok (.astore_n 2, 1) := by decide +kernel
theorem dX5_renderRumour_15 : decode cX5_renderRumour 15 = .ok (.aload_n 0, 1) := by decide +kernel
theorem dX5_renderRumour_16 : decode cX5_renderRumour 16 = .ok (.getfield 46, 3) := by decide +kernel
theorem dX5_renderRumour_19 : decode cX5_renderRumour 19 = .ok (.iconst 0, 1) := by decide +kernel
theorem dX5_renderRumour_20 : decode cX5_renderRumour 20 = .ok (.invokevirtual 231, 3) := by decide +kernel
theorem dX5_renderRumour_23 : decode cX5_renderRumour 23 = .ok (.aload_n 0, 1) := by decide +kernel
theorem dX5_renderRumour_24 : decode cX5_renderRumour 24 = .ok (.getfield 46, 3) := by decide +kernel
theorem dX5_renderRumour_27 : decode cX5_renderRumour 27 = .ok (.bipush 114, 2) := by decide +kernel
theorem dX5_renderRumour_29 : decode cX5_renderRumour 29 = .ok (.invokevirtual 234, 3) := by decide +kernel
theorem dX5_renderRumour_32 : decode cX5_renderRumour 32 = .ok (.iload_n 1, 1) := by decide +kernel
theorem dX5_renderRumour_33 : decode cX5_renderRumour 33 = .ok (.invokevirtual 238, 3) := by decide +kernel
theorem dX5_renderRumour_36 : decode cX5_renderRumour 36 = .ok (.bipush 58, 2) := by decide +kernel
theorem dX5_renderRumour_38 : decode cX5_renderRumour 38 = .ok (.invokevirtual 234, 3) := by decide +kernel
theorem dX5_renderRumour_41 : decode cX5_renderRumour 41 = .ok (.aload_n 2, 1) := by decide +kernel
theorem dX5_renderRumour_42 : decode cX5_renderRumour 42 = .ok (.getfield 124, 3) := by decide +kernel
theorem dX5_renderRumour_45 : decode cX5_renderRumour 45 = .ok (.invokevirtual 238, 3) := by decide +kernel
theorem dX5_renderRumour_48 : decode cX5_renderRumour 48 = .ok (.pop, 1) := by decide +kernel
theorem dX5_renderRumour_49 : decode cX5_renderRumour 49 = .ok (.aload_n 2, 1) := by decide +kernel
theorem dX5_renderRumour_50 : decode cX5_renderRumour 50 = .ok (.getfield 127, 3) := by decide +kernel
theorem dX5_renderRumour_53 : decode cX5_renderRumour 53 = .ok (.ifCond .ne 13, 3) := by decide +kernel
theorem dX5_renderRumour_56 : decode cX5_renderRumour 56 = .ok (.aload_n 0, 1) := by decide +kernel
theorem dX5_renderRumour_57 : decode cX5_renderRumour 57 = .ok (.getfield 46, 3) := by decide +kernel
theorem dX5_renderRumour_60 : decode cX5_renderRumour 60 = .ok (.bipush 120, 2) := by decide +kernel
theorem dX5_renderRumour_62 : decode cX5_renderRumour 62 = .ok (.invokevirtual 234, 3) := by decide +kernel
theorem dX5_renderRumour_65 : decode cX5_renderRumour 65 = .ok (.pop, 1) := by decide +kernel
theorem dX5_renderRumour_66 : decode cX5_renderRumour 66 = .ok (.iconst 0, 1) := by decide +kernel
theorem dX5_renderRumour_67 : decode cX5_renderRumour 67 = .ok (.istore_n 3, 1) := by decide +kernel
theorem dX5_renderRumour_68 : decode cX5_renderRumour 68 = .ok (.iload_n 3, 1) := by decide +kernel
theorem dX5_renderRumour_69 : decode cX5_renderRumour 69 = .ok (.aload_n 0, 1) := by decide +kernel
theorem dX5_renderRumour_70 : decode cX5_renderRumour 70 = .ok (.getfield 10, 3) := by decide +kernel
theorem dX5_renderRumour_73 : decode cX5_renderRumour 73 = .ok (.getfield 65, 3) := by decide +kernel
theorem dX5_renderRumour_76 : decode cX5_renderRumour 76 = .ok (.getfield 69, 3) := by decide +kernel
theorem dX5_renderRumour_79 : decode cX5_renderRumour 79 = .ok (.if_icmp .ge 22, 3) := by decide +kernel
theorem dX5_renderRumour_82 : decode cX5_renderRumour 82 = .ok (.aload_n 0, 1) := by decide +kernel
theorem dX5_renderRumour_83 : decode cX5_renderRumour 83 = .ok (.getfield 46, 3) := by decide +kernel
theorem dX5_renderRumour_86 : decode cX5_renderRumour 86 = .ok (.aload_n 2, 1) := by decide +kernel
theorem dX5_renderRumour_87 : decode cX5_renderRumour 87 = .ok (.iload_n 3, 1) := by decide +kernel
theorem dX5_renderRumour_88 : decode cX5_renderRumour 88 = .ok (.invokevirtual 241, 3) := by decide +kernel
theorem dX5_renderRumour_91 : decode cX5_renderRumour 91 = .ok (.invokevirtual 234, 3) := by decide +kernel
theorem dX5_renderRumour_94 : decode cX5_renderRumour 94 = .ok (.pop, 1) := by decide +kernel
theorem dX5_renderRumour_95 : decode cX5_renderRumour 95 = .ok (.iinc 3 1, 3) := by decide +kernel
theorem dX5_renderRumour_98 : decode cX5_renderRumour 98 = .ok (.goto (-30), 3) := by decide +kernel
theorem dX5_renderRumour_101 : decode cX5_renderRumour 101 = .ok (.aload_n 0, 1) := by decide +kernel
theorem dX5_renderRumour_102 : decode cX5_renderRumour 102 = .ok (.getfield 46, 3) := by decide +kernel
theorem dX5_renderRumour_105 : decode cX5_renderRumour 105 = .ok (.invokevirtual 245, 3) := by decide +kernel
theorem dX5_renderRumour_108 : decode cX5_renderRumour 108 = .ok (.ireturn, 1) := by decide +kernel
theorem dX5_renderHive_0 : decode cX5_renderHive 0 = .ok (.iload_n 1, 1) := by decide +kernel
theorem dX5_renderHive_1 : decode cX5_renderHive 1 = .ok (.invokestatic 101, 3) := by decide +kernel
theorem dX5_renderHive_4 : decode cX5_renderHive 4 = .ok (.aload_n 0, 1) := by decide +kernel
theorem dX5_renderHive_5 : decode cX5_renderHive 5 = .ok (.getfield 10, 3) := by decide +kernel
theorem dX5_renderHive_8 : decode cX5_renderHive 8 = .ok (.iload_n 1, 1) := by decide +kernel
theorem dX5_renderHive_9 : decode cX5_renderHive 9 = .ok (.invokevirtual 104, 3) := by decide +kernel
theorem dX5_renderHive_12 : decode cX5_renderHive 12 = .ok (.istore_n 2, 1) := by decide +kernel
theorem dX5_renderHive_13 : decode cX5_renderHive 13 = .ok (.aload_n 0, 1) := by decide +kernel
theorem dX5_renderHive_14 : decode cX5_renderHive 14 = .ok (.getfield 46, 3) := by decide +kernel
theorem dX5_renderHive_17 : decode cX5_renderHive 17 = .ok (.iconst 0, 1) := by decide +kernel
theorem dX5_renderHive_18 : decode cX5_renderHive 18 = .ok (.invokevirtual 231, 3) := by decide +kernel
theorem dX5_renderHive_21 : decode cX5_renderHive 21 = .ok (.iconst 0, 1) := by decide +kernel
theorem dX5_renderHive_22 : decode cX5_renderHive 22 = .ok (.istore_n 3, 1) := by decide +kernel
theorem dX5_renderHive_23 : decode cX5_renderHive 23 = .ok (.iload_n 3, 1) := by decide +kernel
theorem dX5_renderHive_24 : decode cX5_renderHive 24 = .ok (.aload_n 0, 1) := by decide +kernel
theorem dX5_renderHive_25 : decode cX5_renderHive 25 = .ok (.getfield 10, 3) := by decide +kernel
theorem dX5_renderHive_28 : decode cX5_renderHive 28 = .ok (.getfield 65, 3) := by decide +kernel
theorem dX5_renderHive_31 : decode cX5_renderHive 31 = .ok (.getfield 69, 3) := by decide +kernel
theorem dX5_renderHive_34 : decode cX5_renderHive 34 = .ok (.if_icmp .ge 46, 3) := by decide +kernel
theorem dX5_renderHive_37 : decode cX5_renderHive 37 = .ok (.iload_n 2, 1) := by decide +kernel
theorem dX5_renderHive_38 : decode cX5_renderHive 38 = .ok (.iload_n 3, 1) := by decide +kernel
theorem dX5_renderHive_39 : decode cX5_renderHive 39 = .ok (.invokestatic 136, 3) := by decide +kernel
theorem dX5_renderHive_42 : decode cX5_renderHive 42 = .ok (.ifCond .eq 32, 3) := by decide +kernel
theorem dX5_renderHive_45 : decode cX5_renderHive 45 = .ok (.aload_n 0, 1) := by decide +kernel
theorem dX5_renderHive_46 : decode cX5_renderHive 46 = .ok (.getfield 46, 3) := by decide +kernel
theorem dX5_renderHive_49 : decode cX5_renderHive 49 = .ok (.invokevirtual 245, 3) := by decide +kernel
theorem dX5_renderHive_52 : decode cX5_renderHive 52 = .ok (.ifCond .le 13, 3) := by decide +kernel
theorem dX5_renderHive_55 : decode cX5_renderHive 55 = .ok (.aload_n 0, 1) := by decide +kernel
theorem dX5_renderHive_56 : decode cX5_renderHive 56 = .ok (.getfield 46, 3) := by decide +kernel
theorem dX5_renderHive_59 : decode cX5_renderHive 59 = .ok (.bipush 44, 2) := by decide +kernel
theorem dX5_renderHive_61 : decode cX5_renderHive 61 = .ok (.invokevirtual 234, 3) := by decide +kernel
theorem dX5_renderHive_64 : decode cX5_renderHive 64 = .ok (.pop, 1) := by decide +kernel
theorem dX5_renderHive_65 : decode cX5_renderHive 65 = .ok (.aload_n 0, 1) := by decide +kernel
theorem dX5_renderHive_66 : decode cX5_renderHive 66 = .ok (.getfield 46, 3) := by decide +kernel
theorem dX5_renderHive_69 : decode cX5_renderHive 69 = .ok (.iload_n 3, 1) := by decide +kernel
theorem dX5_renderHive_70 : decode cX5_renderHive 70 = .ok (.invokevirtual 238, 3) := by decide +kernel
theorem dX5_renderHive_73 : decode cX5_renderHive 73 = .ok (.pop, 1) := by decide +kernel
theorem dX5_renderHive_74 : decode cX5_renderHive 74 = .ok (.iinc 3 1, 3) := by decide +kernel
theorem dX5_renderHive_77 : decode cX5_renderHive 77 = .ok (.goto (-54), 3) := by decide +kernel
theorem dX5_renderHive_80 : decode cX5_renderHive 80 = .ok (.aload_n 0, 1) := by decide +kernel
theorem dX5_renderHive_81 : decode cX5_renderHive 81 = .ok (.getfield 46, 3) := by decide +kernel
theorem dX5_renderHive_84 : decode cX5_renderHive 84 = .ok (.invokevirtual 245, 3) := by decide +kernel
theorem dX5_renderHive_87 : decode cX5_renderHive 87 = .ok (.ireturn, 1) := by decide +kernel
theorem dX5_outputAt_0 : decode cX5_outputAt 0 = .ok (.iload_n 1, 1) := by decide +kernel
theorem dX5_outputAt_1 : decode cX5_outputAt 1 = .ok (.ifCond .lt 14, 3) := by decide +kernel
theorem dX5_outputAt_4 : decode cX5_outputAt 4 = .ok (.iload_n 1, 1) := by decide +kernel
theorem dX5_outputAt_5 : decode cX5_outputAt 5 = .ok (.aload_n 0, 1) := by decide +kernel
theorem dX5_outputAt_6 : decode cX5_outputAt 6 = .ok (.getfield 46, 3) := by decide +kernel
theorem dX5_outputAt_9 : decode cX5_outputAt 9 = .ok (.invokevirtual 245, 3) := by decide +kernel
theorem dX5_outputAt_12 : decode cX5_outputAt 12 = .ok (.if_icmp .lt 13, 3) := by decide +kernel
theorem dX5_outputAt_15 : decode cX5_outputAt 15 = .ok (.new 248, 3) := by decide +kernel
theorem dX5_outputAt_18 : decode cX5_outputAt 18 = .ok (.dup, 1) := by decide +kernel
theorem dX5_outputAt_19 : decode cX5_outputAt 19 = .ok (.ldc 250, 2) := by decide +kernel
theorem dX5_outputAt_21 : decode cX5_outputAt 21 = .ok (.invokespecial 252, 3) := by decide +kernel
theorem dX5_outputAt_24 : decode cX5_outputAt 24 = .ok (.athrow, 1) := by decide +kernel
theorem dX5_outputAt_25 : decode cX5_outputAt 25 = .ok (.aload_n 0, 1) := by decide +kernel
theorem dX5_outputAt_26 : decode cX5_outputAt 26 = .ok (.getfield 46, 3) := by decide +kernel
theorem dX5_outputAt_29 : decode cX5_outputAt 29 = .ok (.iload_n 1, 1) := by decide +kernel
theorem dX5_outputAt_30 : decode cX5_outputAt 30 = .ok (.invokevirtual 253, 3) := by decide +kernel
theorem dX5_outputAt_33 : decode cX5_outputAt 33 = .ok (.ireturn, 1) := by decide +kernel
theorem dX5_type_0 : decode cX5_type 0 = .ok (.iload_n 1, 1) := by decide +kernel
theorem dX5_type_1 : decode cX5_type 1 = .ok (.bipush 32, 2) := by decide +kernel
theorem dX5_type_3 : decode cX5_type 3 = .ok (.if_icmp .lt 9, 3) := by decide +kernel
theorem dX5_type_6 : decode cX5_type 6 = .ok (.iload_n 1, 1) := by decide +kernel
theorem dX5_type_7 : decode cX5_type 7 = .ok (.bipush 126, 2) := by decide +kernel
theorem dX5_type_9 : decode cX5_type 9 = .ok (.if_icmp .le 14, 3) := by decide +kernel
theorem dX5_type_12 : decode cX5_type 12 = .ok (.new 183, 3) := by decide +kernel
theorem dX5_type_15 : decode cX5_type 15 = .ok (.dup, 1) := by decide +kernel
theorem dX5_type_16 : decode cX5_type 16 = .ok (.ldc_w 256, 3) := by decide +kernel
theorem dX5_type_19 : decode cX5_type 19 = .ok (.invokespecial 187, 3) := by decide +kernel
theorem dX5_type_22 : decode cX5_type 22 = .ok (.athrow, 1) := by decide +kernel
theorem dX5_type_23 : decode cX5_type 23 = .ok (.aload_n 0, 1) := by decide +kernel
theorem dX5_type_24 : decode cX5_type 24 = .ok (.getfield 39, 3) := by decide +kernel
theorem dX5_type_27 : decode cX5_type 27 = .ok (.getfield 258, 3) := by decide +kernel
theorem dX5_type_30 : decode cX5_type 30 = .ok (.bipush 60, 2) := by decide +kernel
theorem dX5_type_32 : decode cX5_type 32 = .ok (.if_icmp .lt 14, 3) := by decide +kernel
theorem dX5_type_35 : decode cX5_type 35 = .ok (.new 174, 3) := by decide +kernel
theorem dX5_type_38 : decode cX5_type 38 = .ok (.dup, 1) := by decide +kernel
theorem dX5_type_39 : decode cX5_type 39 = .ok (.ldc_w 260, 3) := by decide +kernel
theorem dX5_type_42 : decode cX5_type 42 = .ok (.invokespecial 178, 3) := by decide +kernel
theorem dX5_type_45 : decode cX5_type 45 = .ok (.athrow, 1) := by decide +kernel
theorem dX5_type_46 : decode cX5_type 46 = .ok (.aload_n 0, 1) := by decide +kernel
theorem dX5_type_47 : decode cX5_type 47 = .ok (.getfield 39, 3) := by decide +kernel
theorem dX5_type_50 : decode cX5_type 50 = .ok (.iload_n 1, 1) := by decide +kernel
theorem dX5_type_51 : decode cX5_type 51 = .ok (.invokevirtual 262, 3) := by decide +kernel
theorem dX5_type_54 : decode cX5_type 54 = .ok (.aload_n 0, 1) := by decide +kernel
theorem dX5_type_55 : decode cX5_type 55 = .ok (.getfield 39, 3) := by decide +kernel
theorem dX5_type_58 : decode cX5_type 58 = .ok (.getfield 258, 3) := by decide +kernel
theorem dX5_type_61 : decode cX5_type 61 = .ok (.ireturn, 1) := by decide +kernel
theorem dX5_runScript_0 : decode cX5_runScript 0 = .ok (.aload_n 0, 1) := by decide +kernel
theorem dX5_runScript_1 : decode cX5_runScript 1 = .ok (.getfield 39, 3) := by decide +kernel
theorem dX5_runScript_4 : decode cX5_runScript 4 = .ok (.invokevirtual 266, 3) := by decide +kernel
theorem dX5_runScript_7 : decode cX5_runScript 7 = .ok (.istore_n 1, 1) := by decide +kernel
theorem dX5_runScript_8 : decode cX5_runScript 8 = .ok (.aload_n 0, 1) := by decide +kernel
theorem dX5_runScript_9 : decode cX5_runScript 9 = .ok (.getfield 39, 3) := by decide +kernel
theorem dX5_runScript_12 : decode cX5_runScript 12 = .ok (.iconst 0, 1) := by decide +kernel
theorem dX5_runScript_13 : decode cX5_runScript 13 = .ok (.putfield 258, 3) := by decide +kernel
theorem dX5_runScript_16 : decode cX5_runScript 16 = .ok (.iload_n 1, 1) := by decide +kernel
theorem dX5_runScript_17 : decode cX5_runScript 17 = .ok (.iconst (-1), 1) := by decide +kernel
theorem dX5_runScript_18 : decode cX5_runScript 18 = .ok (.if_icmp .eq 19, 3) := by decide +kernel
theorem dX5_runScript_21 : decode cX5_runScript 21 = .ok (.aload_n 0, 1) := by decide +kernel
theorem dX5_runScript_22 : decode cX5_runScript 22 = .ok (.iload_n 1, 1) := by decide +kernel
theorem dX5_runScript_23 : decode cX5_runScript 23 = .ok (.putfield 54, 3) := by decide +kernel
theorem dX5_runScript_26 : decode cX5_runScript 26 = .ok (.new 183, 3) := by decide +kernel
theorem dX5_runScript_29 : decode cX5_runScript 29 = .ok (.dup, 1) := by decide +kernel
theorem dX5_runScript_30 : decode cX5_runScript 30 = .ok (.ldc_w 269, 3) := by decide +kernel
theorem dX5_runScript_33 : decode cX5_runScript 33 = .ok (.invokespecial 187, 3) := by decide +kernel
theorem dX5_runScript_36 : decode cX5_runScript 36 = .ok (.athrow, 1) := by decide +kernel
theorem dX5_runScript_37 : decode cX5_runScript 37 = .ok (.aload_n 0, 1) := by decide +kernel
theorem dX5_runScript_38 : decode cX5_runScript 38 = .ok (.invokevirtual 271, 3) := by decide +kernel
theorem dX5_runScript_41 : decode cX5_runScript 41 = .ok (.istore_n 2, 1) := by decide +kernel
theorem dX5_runScript_42 : decode cX5_runScript 42 = .ok (.iload_n 2, 1) := by decide +kernel
theorem dX5_runScript_43 : decode cX5_runScript 43 = .ok (.iconst (-1), 1) := by decide +kernel
theorem dX5_runScript_44 : decode cX5_runScript 44 = .ok (.if_icmp .eq 19, 3) := by decide +kernel
theorem dX5_runScript_47 : decode cX5_runScript 47 = .ok (.aload_n 0, 1) := by decide +kernel
theorem dX5_runScript_48 : decode cX5_runScript 48 = .ok (.iload_n 2, 1) := by decide +kernel
theorem dX5_runScript_49 : decode cX5_runScript 49 = .ok (.putfield 58, 3) := by decide +kernel
theorem dX5_runScript_52 : decode cX5_runScript 52 = .ok (.new 174, 3) := by decide +kernel
theorem dX5_runScript_55 : decode cX5_runScript 55 = .ok (.dup, 1) := by decide +kernel
theorem dX5_runScript_56 : decode cX5_runScript 56 = .ok (.ldc_w 274, 3) := by decide +kernel
theorem dX5_runScript_59 : decode cX5_runScript 59 = .ok (.invokespecial 178, 3) := by decide +kernel
theorem dX5_runScript_62 : decode cX5_runScript 62 = .ok (.athrow, 1) := by decide +kernel
theorem dX5_runScript_63 : decode cX5_runScript 63 = .ok (.aload_n 0, 1) := by decide +kernel
theorem dX5_runScript_64 : decode cX5_runScript 64 = .ok (.getfield 39, 3) := by decide +kernel
theorem dX5_runScript_67 : decode cX5_runScript 67 = .ok (.getfield 276, 3) := by decide +kernel
theorem dX5_runScript_70 : decode cX5_runScript 70 = .ok (.ireturn, 1) := by decide +kernel
theorem dX5_errorPosition_0 : decode cX5_errorPosition 0 = .ok (.aload_n 0, 1) := by decide +kernel
theorem dX5_errorPosition_1 : decode cX5_errorPosition 1 = .ok (.getfield 54, 3) := by decide +kernel
theorem dX5_errorPosition_4 : decode cX5_errorPosition 4 = .ok (.invokestatic 164, 3) := by decide +kernel
theorem dX5_errorPosition_7 : decode cX5_errorPosition 7 = .ok (.ireturn, 1) := by decide +kernel
theorem dX5_failedCommand_0 : decode cX5_failedCommand 0 = .ok (.aload_n 0, 1) := by decide +kernel
theorem dX5_failedCommand_1 : decode cX5_failedCommand 1 = .ok (.getfield 58, 3) := by decide +kernel
theorem dX5_failedCommand_4 : decode cX5_failedCommand 4 = .ok (.invokestatic 164, 3) := by decide +kernel
theorem dX5_failedCommand_7 : decode cX5_failedCommand 7 = .ok (.ireturn, 1) := by decide +kernel
theorem dX5_undo_0 : decode cX5_undo 0 = .ok (.aload_n 0, 1) := by decide +kernel
theorem dX5_undo_1 : decode cX5_undo 1 = .ok (.getfield 25, 3) := by decide +kernel
theorem dX5_undo_4 : decode cX5_undo 4 = .ok (.getfield 279, 3) := by decide +kernel
theorem dX5_undo_7 : decode cX5_undo 7 = .ok (.ifCond .ne 14, 3) := by decide +kernel
theorem dX5_undo_10 : decode cX5_undo 10 = .ok (.new 145, 3) := by decide +kernel
theorem dX5_undo_13 : decode cX5_undo 13 = .ok (.dup, 1) := by decide +kernel
theorem dX5_undo_14 : decode cX5_undo 14 = .ok (.ldc_w 282, 3) := by decide +kernel
theorem dX5_undo_17 : decode cX5_undo 17 = .ok (.invokespecial 149, 3) := by decide +kernel
theorem dX5_undo_20 : decode cX5_undo 20 = .ok (.athrow, 1) := by decide +kernel
theorem dX5_undo_21 : decode cX5_undo 21 = .ok (.aload_n 0, 1) := by decide +kernel
theorem dX5_undo_22 : decode cX5_undo 22 = .ok (.getfield 25, 3) := by decide +kernel
theorem dX5_undo_25 : decode cX5_undo 25 = .ok (.aload_n 0, 1) := by decide +kernel
theorem dX5_undo_26 : decode cX5_undo 26 = .ok (.getfield 10, 3) := by decide +kernel
theorem dX5_undo_29 : decode cX5_undo 29 = .ok (.invokevirtual 284, 3) := by decide +kernel
theorem dX5_undo_32 : decode cX5_undo 32 = .ok (.aload_n 0, 1) := by decide +kernel
theorem dX5_undo_33 : decode cX5_undo 33 = .ok (.getfield 25, 3) := by decide +kernel
theorem dX5_undo_36 : decode cX5_undo 36 = .ok (.getfield 279, 3) := by decide +kernel
theorem dX5_undo_39 : decode cX5_undo 39 = .ok (.ireturn, 1) := by decide +kernel
theorem dX5_save_0 : decode cX5_save 0 = .ok (.aload_n 0, 1) := by decide +kernel
theorem dX5_save_1 : decode cX5_save 1 = .ok (.getfield 19, 3) := by decide +kernel
theorem dX5_save_4 : decode cX5_save 4 = .ok (.aload_n 0, 1) := by decide +kernel
theorem dX5_save_5 : decode cX5_save 5 = .ok (.getfield 10, 3) := by decide +kernel
theorem dX5_save_8 : decode cX5_save 8 = .ok (.invokevirtual 288, 3) := by decide +kernel
theorem dX5_save_11 : decode cX5_save 11 = .ok (.aload_n 0, 1) := by decide +kernel
theorem dX5_save_12 : decode cX5_save 12 = .ok (.iconst 1, 1) := by decide +kernel
theorem dX5_save_13 : decode cX5_save 13 = .ok (.putfield 50, 3) := by decide +kernel
theorem dX5_save_16 : decode cX5_save 16 = .ok (.aload_n 0, 1) := by decide +kernel
theorem dX5_save_17 : decode cX5_save 17 = .ok (.getfield 10, 3) := by decide +kernel
theorem dX5_save_20 : decode cX5_save 20 = .ok (.getfield 65, 3) := by decide +kernel
theorem dX5_save_23 : decode cX5_save 23 = .ok (.getfield 69, 3) := by decide +kernel
theorem dX5_save_26 : decode cX5_save 26 = .ok (.ireturn, 1) := by decide +kernel
theorem dX5_restore_0 : decode cX5_restore 0 = .ok (.aload_n 0, 1) := by decide +kernel
theorem dX5_restore_1 : decode cX5_restore 1 = .ok (.getfield 50, 3) := by decide +kernel
theorem dX5_restore_4 : decode cX5_restore 4 = .ok (.ifCond .ne 14, 3) := by decide +kernel
theorem dX5_restore_7 : decode cX5_restore 7 = .ok (.new 174, 3) := by decide +kernel
theorem dX5_restore_10 : decode cX5_restore 10 = .ok (.dup, 1) := by decide +kernel
theorem dX5_restore_11 : decode cX5_restore 11 = .ok (.ldc_w 290, 3) := by decide +kernel
theorem dX5_restore_14 : decode cX5_restore 14 = .ok (.invokespecial 178, 3) := by decide +kernel
theorem dX5_restore_17 : decode cX5_restore 17 = .ok (.athrow, 1) := by decide +kernel
theorem dX5_restore_18 : decode cX5_restore 18 = .ok (.aload_n 0, 1) := by decide +kernel
theorem dX5_restore_19 : decode cX5_restore 19 = .ok (.getfield 10, 3) := by decide +kernel
theorem dX5_restore_22 : decode cX5_restore 22 = .ok (.aload_n 0, 1) := by decide +kernel
theorem dX5_restore_23 : decode cX5_restore 23 = .ok (.getfield 19, 3) := by decide +kernel
theorem dX5_restore_26 : decode cX5_restore 26 = .ok (.invokevirtual 288, 3) := by decide +kernel
theorem dX5_restore_29 : decode cX5_restore 29 = .ok (.aload_n 0, 1) := by decide +kernel
theorem dX5_restore_30 : decode cX5_restore 30 = .ok (.getfield 25, 3) := by decide +kernel
theorem dX5_restore_33 : decode cX5_restore 33 = .ok (.iconst 0, 1) := by decide +kernel
theorem dX5_restore_34 : decode cX5_restore 34 = .ok (.putfield 279, 3) := by decide +kernel
theorem dX5_restore_37 : decode cX5_restore 37 = .ok (.aload_n 0, 1) := by decide +kernel
theorem dX5_restore_38 : decode cX5_restore 38 = .ok (.getfield 10, 3) := by decide +kernel
theorem dX5_restore_41 : decode cX5_restore 41 = .ok (.getfield 65, 3) := by decide +kernel
theorem dX5_restore_44 : decode cX5_restore 44 = .ok (.getfield 69, 3) := by decide +kernel
theorem dX5_restore_47 : decode cX5_restore 47 = .ok (.ireturn, 1) := by decide +kernel
theorem dX5_needListener_0 : decode cX5_needListener 0 = .ok (.aload_n 0, 1) := by decide +kernel
theorem dX5_needListener_1 : decode cX5_needListener 1 = .ok (.getfield 10, 3) := by decide +kernel
theorem dX5_needListener_4 : decode cX5_needListener 4 = .ok (.iload_n 1, 1) := by decide +kernel
theorem dX5_needListener_5 : decode cX5_needListener 5 = .ok (.invokevirtual 292, 3) := by decide +kernel
theorem dX5_needListener_8 : decode cX5_needListener 8 = .ok (.ifCond .ne 14, 3) := by decide +kernel
theorem dX5_needListener_11 : decode cX5_needListener 11 = .ok (.new 248, 3) := by decide +kernel
theorem dX5_needListener_14 : decode cX5_needListener 14 = .ok (.dup, 1) := by decide +kernel
theorem dX5_needListener_15 : decode cX5_needListener 15 = .ok (.ldc_w 296, 3) := by decide +kernel
theorem dX5_needListener_18 : decode cX5_needListener 18 = .ok (.invokespecial 252, 3) := by decide +kernel
theorem dX5_needListener_21 : decode cX5_needListener 21 = .ok (.athrow, 1) := by decide +kernel
theorem dX5_needListener_22 : decode cX5_needListener 22 = .ok (.return_, 1) := by decide +kernel
theorem dX5_needRumour_0 : decode cX5_needRumour 0 = .ok (.aload_n 0, 1) := by decide +kernel
theorem dX5_needRumour_1 : decode cX5_needRumour 1 = .ok (.getfield 10, 3) := by decide +kernel
theorem dX5_needRumour_4 : decode cX5_needRumour 4 = .ok (.iload_n 1, 1) := by decide +kernel
theorem dX5_needRumour_5 : decode cX5_needRumour 5 = .ok (.invokevirtual 298, 3) := by decide +kernel
theorem dX5_needRumour_8 : decode cX5_needRumour 8 = .ok (.ifCond .ne 14, 3) := by decide +kernel
theorem dX5_needRumour_11 : decode cX5_needRumour 11 = .ok (.new 248, 3) := by decide +kernel
theorem dX5_needRumour_14 : decode cX5_needRumour 14 = .ok (.dup, 1) := by decide +kernel
theorem dX5_needRumour_15 : decode cX5_needRumour 15 = .ok (.ldc_w 301, 3) := by decide +kernel
theorem dX5_needRumour_18 : decode cX5_needRumour 18 = .ok (.invokespecial 252, 3) := by decide +kernel
theorem dX5_needRumour_21 : decode cX5_needRumour 21 = .ok (.athrow, 1) := by decide +kernel
theorem dX5_needRumour_22 : decode cX5_needRumour 22 = .ok (.return_, 1) := by decide +kernel
theorem dX5_needHive_0 : decode cX5_needHive 0 = .ok (.iload_n 0, 1) := by decide +kernel
theorem dX5_needHive_1 : decode cX5_needHive 1 = .ok (.invokestatic 303, 3) := by decide +kernel
theorem dX5_needHive_4 : decode cX5_needHive 4 = .ok (.ifCond .ne 14, 3) := by decide +kernel
theorem dX5_needHive_7 : decode cX5_needHive 7 = .ok (.new 248, 3) := by decide +kernel
theorem dX5_needHive_10 : decode cX5_needHive 10 = .ok (.dup, 1) := by decide +kernel
theorem dX5_needHive_11 : decode cX5_needHive 11 = .ok (.ldc_w 306, 3) := by decide +kernel
theorem dX5_needHive_14 : decode cX5_needHive 14 = .ok (.invokespecial 252, 3) := by decide +kernel
theorem dX5_needHive_17 : decode cX5_needHive 17 = .ok (.athrow, 1) := by decide +kernel
theorem dX5_needHive_18 : decode cX5_needHive 18 = .ok (.return_, 1) := by decide +kernel
theorem dX5_found_0 : decode cX5_found 0 = .ok (.iload_n 0, 1) := by decide +kernel
theorem dX5_found_1 : decode cX5_found 1 = .ok (.iconst (-1), 1) := by decide +kernel
theorem dX5_found_2 : decode cX5_found 2 = .ok (.if_icmp .ne 14, 3) := by decide +kernel
theorem dX5_found_5 : decode cX5_found 5 = .ok (.new 145, 3) := by decide +kernel
theorem dX5_found_8 : decode cX5_found 8 = .ok (.dup, 1) := by decide +kernel
theorem dX5_found_9 : decode cX5_found 9 = .ok (.ldc_w 308, 3) := by decide +kernel
theorem dX5_found_12 : decode cX5_found 12 = .ok (.invokespecial 149, 3) := by decide +kernel
theorem dX5_found_15 : decode cX5_found 15 = .ok (.athrow, 1) := by decide +kernel
theorem dX5_found_16 : decode cX5_found 16 = .ok (.iload_n 0, 1) := by decide +kernel
theorem dX5_found_17 : decode cX5_found 17 = .ok (.ireturn, 1) := by decide +kernel
theorem dX5_isHive_0 : decode cX5_isHive 0 = .ok (.iload_n 0, 1) := by decide +kernel
theorem dX5_isHive_1 : decode cX5_isHive 1 = .ok (.ifCond .lt 12, 3) := by decide +kernel
theorem dX5_isHive_4 : decode cX5_isHive 4 = .ok (.iload_n 0, 1) := by decide +kernel
theorem dX5_isHive_5 : decode cX5_isHive 5 = .ok (.iconst 4, 1) := by decide +kernel
theorem dX5_isHive_6 : decode cX5_isHive 6 = .ok (.if_icmp .ge 7, 3) := by decide +kernel
theorem dX5_isHive_9 : decode cX5_isHive 9 = .ok (.iconst 1, 1) := by decide +kernel
theorem dX5_isHive_10 : decode cX5_isHive 10 = .ok (.goto 4, 3) := by decide +kernel
theorem dX5_isHive_13 : decode cX5_isHive 13 = .ok (.iconst 0, 1) := by decide +kernel
theorem dX5_isHive_14 : decode cX5_isHive 14 = .ok (.ireturn, 1) := by decide +kernel
theorem dX5_isLevel_0 : decode cX5_isLevel 0 = .ok (.iload_n 0, 1) := by decide +kernel
theorem dX5_isLevel_1 : decode cX5_isLevel 1 = .ok (.ifCond .lt 13, 3) := by decide +kernel
theorem dX5_isLevel_4 : decode cX5_isLevel 4 = .ok (.iload_n 0, 1) := by decide +kernel
theorem dX5_isLevel_5 : decode cX5_isLevel 5 = .ok (.bipush 9, 2) := by decide +kernel
theorem dX5_isLevel_7 : decode cX5_isLevel 7 = .ok (.if_icmp .gt 7, 3) := by decide +kernel
theorem dX5_isLevel_10 : decode cX5_isLevel 10 = .ok (.iconst 1, 1) := by decide +kernel
theorem dX5_isLevel_11 : decode cX5_isLevel 11 = .ok (.goto 4, 3) := by decide +kernel
theorem dX5_isLevel_14 : decode cX5_isLevel 14 = .ok (.iconst 0, 1) := by decide +kernel
theorem dX5_isLevel_15 : decode cX5_isLevel 15 = .ok (.ireturn, 1) := by decide +kernel
theorem dX5_contains_0 : decode cX5_contains 0 = .ok (.iload_n 0, 1) := by decide +kernel
theorem dX5_contains_1 : decode cX5_contains 1 = .ok (.iconst 1, 1) := by decide +kernel
theorem dX5_contains_2 : decode cX5_contains 2 = .ok (.iload_n 1, 1) := by decide +kernel
theorem dX5_contains_3 : decode cX5_contains 3 = .ok (.ishl, 1) := by decide +kernel
theorem dX5_contains_4 : decode cX5_contains 4 = .ok (.iand, 1) := by decide +kernel
theorem dX5_contains_5 : decode cX5_contains 5 = .ok (.ifCond .eq 7, 3) := by decide +kernel
theorem dX5_contains_8 : decode cX5_contains 8 = .ok (.iconst 1, 1) := by decide +kernel
theorem dX5_contains_9 : decode cX5_contains 9 = .ok (.goto 4, 3) := by decide +kernel
theorem dX5_contains_12 : decode cX5_contains 12 = .ok (.iconst 0, 1) := by decide +kernel
theorem dX5_contains_13 : decode cX5_contains 13 = .ok (.ireturn, 1) := by decide +kernel
theorem dX5_change_0 : decode cX5_change 0 = .ok (.aload_n 0, 1) := by decide +kernel
theorem dX5_change_1 : decode cX5_change 1 = .ok (.iload_n 1, 1) := by decide +kernel
theorem dX5_change_2 : decode cX5_change 2 = .ok (.iload_n 2, 1) := by decide +kernel
theorem dX5_change_3 : decode cX5_change 3 = .ok (.iload_n 3, 1) := by decide +kernel
theorem dX5_change_4 : decode cX5_change 4 = .ok (.invokevirtual 310, 3) := by decide +kernel
theorem dX5_change_7 : decode cX5_change 7 = .ok (.invokestatic 313, 3) := by decide +kernel
theorem dX5_change_10 : decode cX5_change 10 = .ok (.aload_n 0, 1) := by decide +kernel
theorem dX5_change_11 : decode cX5_change 11 = .ok (.getfield 25, 3) := by decide +kernel
theorem dX5_change_14 : decode cX5_change 14 = .ok (.aload_n 0, 1) := by decide +kernel
theorem dX5_change_15 : decode cX5_change 15 = .ok (.getfield 10, 3) := by decide +kernel
theorem dX5_change_18 : decode cX5_change 18 = .ok (.invokevirtual 316, 3) := by decide +kernel
theorem dX5_change_21 : decode cX5_change 21 = .ok (.aload_n 0, 1) := by decide +kernel
theorem dX5_change_22 : decode cX5_change 22 = .ok (.iload_n 1, 1) := by decide +kernel
theorem dX5_change_23 : decode cX5_change 23 = .ok (.iload_n 2, 1) := by decide +kernel
theorem dX5_change_24 : decode cX5_change 24 = .ok (.iload_n 3, 1) := by decide +kernel
theorem dX5_change_25 : decode cX5_change 25 = .ok (.invokevirtual 319, 3) := by decide +kernel
theorem dX5_change_28 : decode cX5_change 28 = .ok (.ireturn, 1) := by decide +kernel
theorem dX5_refuse_0 : decode cX5_refuse 0 = .ok (.iload_n 0, 1) := by decide +kernel
theorem dX5_refuse_1 : decode cX5_refuse 1 = .ok (.iconst 1, 1) := by decide +kernel
theorem dX5_refuse_2 : decode cX5_refuse 2 = .ok (.if_icmp .ne 14, 3) := by decide +kernel
theorem dX5_refuse_5 : decode cX5_refuse 5 = .ok (.new 248, 3) := by decide +kernel
theorem dX5_refuse_8 : decode cX5_refuse 8 = .ok (.dup, 1) := by decide +kernel
theorem dX5_refuse_9 : decode cX5_refuse 9 = .ok (.ldc_w 322, 3) := by decide +kernel
theorem dX5_refuse_12 : decode cX5_refuse 12 = .ok (.invokespecial 252, 3) := by decide +kernel
theorem dX5_refuse_15 : decode cX5_refuse 15 = .ok (.athrow, 1) := by decide +kernel
theorem dX5_refuse_16 : decode cX5_refuse 16 = .ok (.iload_n 0, 1) := by decide +kernel
theorem dX5_refuse_17 : decode cX5_refuse 17 = .ok (.iconst 2, 1) := by decide +kernel
theorem dX5_refuse_18 : decode cX5_refuse 18 = .ok (.if_icmp .ne 14, 3) := by decide +kernel
theorem dX5_refuse_21 : decode cX5_refuse 21 = .ok (.new 183, 3) := by decide +kernel
theorem dX5_refuse_24 : decode cX5_refuse 24 = .ok (.dup, 1) := by decide +kernel
theorem dX5_refuse_25 : decode cX5_refuse 25 = .ok (.ldc_w 324, 3) := by decide +kernel
theorem dX5_refuse_28 : decode cX5_refuse 28 = .ok (.invokespecial 187, 3) := by decide +kernel
theorem dX5_refuse_31 : decode cX5_refuse 31 = .ok (.athrow, 1) := by decide +kernel
theorem dX5_refuse_32 : decode cX5_refuse 32 = .ok (.iload_n 0, 1) := by decide +kernel
theorem dX5_refuse_33 : decode cX5_refuse 33 = .ok (.iconst 3, 1) := by decide +kernel
theorem dX5_refuse_34 : decode cX5_refuse 34 = .ok (.if_icmp .ne 14, 3) := by decide +kernel
theorem dX5_refuse_37 : decode cX5_refuse 37 = .ok (.new 174, 3) := by decide +kernel
theorem dX5_refuse_40 : decode cX5_refuse 40 = .ok (.dup, 1) := by decide +kernel
theorem dX5_refuse_41 : decode cX5_refuse 41 = .ok (.ldc_w 326, 3) := by decide +kernel
theorem dX5_refuse_44 : decode cX5_refuse 44 = .ok (.invokespecial 178, 3) := by decide +kernel
theorem dX5_refuse_47 : decode cX5_refuse 47 = .ok (.athrow, 1) := by decide +kernel
theorem dX5_refuse_48 : decode cX5_refuse 48 = .ok (.iload_n 0, 1) := by decide +kernel
theorem dX5_refuse_49 : decode cX5_refuse 49 = .ok (.iconst 4, 1) := by decide +kernel
theorem dX5_refuse_50 : decode cX5_refuse 50 = .ok (.if_icmp .ne 14, 3) := by decide +kernel
theorem dX5_refuse_53 : decode cX5_refuse 53 = .ok (.new 145, 3) := by decide +kernel
theorem dX5_refuse_56 : decode cX5_refuse 56 = .ok (.dup, 1) := by decide +kernel
theorem dX5_refuse_57 : decode cX5_refuse 57 = .ok (.ldc_w 308, 3) := by decide +kernel
theorem dX5_refuse_60 : decode cX5_refuse 60 = .ok (.invokespecial 149, 3) := by decide +kernel
theorem dX5_refuse_63 : decode cX5_refuse 63 = .ok (.athrow, 1) := by decide +kernel
theorem dX5_refuse_64 : decode cX5_refuse 64 = .ok (.return_, 1) := by decide +kernel
theorem dX5_refusalOf_0 : decode cX5_refusalOf 0 = .ok (.iload_n 1, 1) := by decide +kernel
theorem dX5_refusalOf_1 : decode cX5_refusalOf 1 = .ok (.tableswitch 126 0 7 #[47, 57, 67, 77, 87, 97, 106, 116], 47) := by decide +kernel
theorem dX5_refusalOf_48 : decode cX5_refusalOf 48 = .ok (.aload_n 0, 1) := by decide +kernel
theorem dX5_refusalOf_49 : decode cX5_refusalOf 49 = .ok (.getfield 10, 3) := by decide +kernel
theorem dX5_refusalOf_52 : decode cX5_refusalOf 52 = .ok (.iload_n 2, 1) := by decide +kernel
theorem dX5_refusalOf_53 : decode cX5_refusalOf 53 = .ok (.iload_n 3, 1) := by decide +kernel
theorem dX5_refusalOf_54 : decode cX5_refusalOf 54 = .ok (.invokevirtual 328, 3) := by decide +kernel
theorem dX5_refusalOf_57 : decode cX5_refusalOf 57 = .ok (.ireturn, 1) := by decide +kernel
theorem dX5_refusalOf_58 : decode cX5_refusalOf 58 = .ok (.aload_n 0, 1) := by decide +kernel
theorem dX5_refusalOf_59 : decode cX5_refusalOf 59 = .ok (.getfield 10, 3) := by decide +kernel
theorem dX5_refusalOf_62 : decode cX5_refusalOf 62 = .ok (.iload_n 2, 1) := by decide +kernel
theorem dX5_refusalOf_63 : decode cX5_refusalOf 63 = .ok (.iload_n 3, 1) := by decide +kernel
theorem dX5_refusalOf_64 : decode cX5_refusalOf 64 = .ok (.invokevirtual 331, 3) := by decide +kernel
theorem dX5_refusalOf_67 : decode cX5_refusalOf 67 = .ok (.ireturn, 1) := by decide +kernel
theorem dX5_refusalOf_68 : decode cX5_refusalOf 68 = .ok (.aload_n 0, 1) := by decide +kernel
theorem dX5_refusalOf_69 : decode cX5_refusalOf 69 = .ok (.getfield 10, 3) := by decide +kernel
theorem dX5_refusalOf_72 : decode cX5_refusalOf 72 = .ok (.iload_n 2, 1) := by decide +kernel
theorem dX5_refusalOf_73 : decode cX5_refusalOf 73 = .ok (.iload_n 3, 1) := by decide +kernel
theorem dX5_refusalOf_74 : decode cX5_refusalOf 74 = .ok (.invokevirtual 334, 3) := by decide +kernel
theorem dX5_refusalOf_77 : decode cX5_refusalOf 77 = .ok (.ireturn, 1) := by decide +kernel
theorem dX5_refusalOf_78 : decode cX5_refusalOf 78 = .ok (.aload_n 0, 1) := by decide +kernel
theorem dX5_refusalOf_79 : decode cX5_refusalOf 79 = .ok (.getfield 10, 3) := by decide +kernel
theorem dX5_refusalOf_82 : decode cX5_refusalOf 82 = .ok (.iload_n 2, 1) := by decide +kernel
theorem dX5_refusalOf_83 : decode cX5_refusalOf 83 = .ok (.iload_n 3, 1) := by decide +kernel
theorem dX5_refusalOf_84 : decode cX5_refusalOf 84 = .ok (.invokevirtual 337, 3) := by decide +kernel
theorem dX5_refusalOf_87 : decode cX5_refusalOf 87 = .ok (.ireturn, 1) := by decide +kernel
theorem dX5_refusalOf_88 : decode cX5_refusalOf 88 = .ok (.aload_n 0, 1) := by decide +kernel
theorem dX5_refusalOf_89 : decode cX5_refusalOf 89 = .ok (.getfield 10, 3) := by decide +kernel
theorem dX5_refusalOf_92 : decode cX5_refusalOf 92 = .ok (.iload_n 2, 1) := by decide +kernel
theorem dX5_refusalOf_93 : decode cX5_refusalOf 93 = .ok (.iload_n 3, 1) := by decide +kernel
theorem dX5_refusalOf_94 : decode cX5_refusalOf 94 = .ok (.invokevirtual 340, 3) := by decide +kernel
theorem dX5_refusalOf_97 : decode cX5_refusalOf 97 = .ok (.ireturn, 1) := by decide +kernel
theorem dX5_refusalOf_98 : decode cX5_refusalOf 98 = .ok (.aload_n 0, 1) := by decide +kernel
theorem dX5_refusalOf_99 : decode cX5_refusalOf 99 = .ok (.getfield 10, 3) := by decide +kernel
theorem dX5_refusalOf_102 : decode cX5_refusalOf 102 = .ok (.iload_n 2, 1) := by decide +kernel
theorem dX5_refusalOf_103 : decode cX5_refusalOf 103 = .ok (.invokevirtual 343, 3) := by decide +kernel
theorem dX5_refusalOf_106 : decode cX5_refusalOf 106 = .ok (.ireturn, 1) := by decide +kernel
theorem dX5_refusalOf_107 : decode cX5_refusalOf 107 = .ok (.aload_n 0, 1) := by decide +kernel
theorem dX5_refusalOf_108 : decode cX5_refusalOf 108 = .ok (.getfield 10, 3) := by decide +kernel
theorem dX5_refusalOf_111 : decode cX5_refusalOf 111 = .ok (.iload_n 2, 1) := by decide +kernel
theorem dX5_refusalOf_112 : decode cX5_refusalOf 112 = .ok (.iload_n 3, 1) := by decide +kernel
theorem dX5_refusalOf_113 : decode cX5_refusalOf 113 = .ok (.invokevirtual 346, 3) := by decide +kernel
theorem dX5_refusalOf_116 : decode cX5_refusalOf 116 = .ok (.ireturn, 1) := by decide +kernel
theorem dX5_refusalOf_117 : decode cX5_refusalOf 117 = .ok (.aload_n 0, 1) := by decide +kernel
theorem dX5_refusalOf_118 : decode cX5_refusalOf 118 = .ok (.getfield 10, 3) := by decide +kernel
theorem dX5_refusalOf_121 : decode cX5_refusalOf 121 = .ok (.iload_n 2, 1) := by decide +kernel
theorem dX5_refusalOf_122 : decode cX5_refusalOf 122 = .ok (.iload_n 3, 1) := by decide +kernel
theorem dX5_refusalOf_123 : decode cX5_refusalOf 123 = .ok (.invokevirtual 349, 3) := by decide +kernel
theorem dX5_refusalOf_126 : decode cX5_refusalOf 126 = .ok (.ireturn, 1) := by decide +kernel
theorem dX5_refusalOf_127 : decode cX5_refusalOf 127 = .ok (.iload_n 2, 1) := by decide +kernel
theorem dX5_refusalOf_128 : decode cX5_refusalOf 128 = .ok (.iconst 1, 1) := by decide +kernel
theorem dX5_refusalOf_129 : decode cX5_refusalOf 129 = .ok (.if_icmp .lt 9, 3) := by decide +kernel
theorem dX5_refusalOf_132 : decode cX5_refusalOf 132 = .ok (.iload_n 2, 1) := by decide +kernel
theorem dX5_refusalOf_133 : decode cX5_refusalOf 133 = .ok (.bipush 20, 2) := by decide +kernel
theorem dX5_refusalOf_135 : decode cX5_refusalOf 135 = .ok (.if_icmp .le 7, 3) := by decide +kernel
theorem dX5_refusalOf_138 : decode cX5_refusalOf 138 = .ok (.iconst 2, 1) := by decide +kernel
theorem dX5_refusalOf_139 : decode cX5_refusalOf 139 = .ok (.goto 4, 3) := by decide +kernel
theorem dX5_refusalOf_142 : decode cX5_refusalOf 142 = .ok (.iconst 0, 1) := by decide +kernel
theorem dX5_refusalOf_143 : decode cX5_refusalOf 143 = .ok (.ireturn, 1) := by decide +kernel
theorem dX5_perform_0 : decode cX5_perform 0 = .ok (.iload_n 1, 1) := by decide +kernel
theorem dX5_perform_1 : decode cX5_perform 1 = .ok (.tableswitch 140 0 7 #[47, 57, 70, 83, 93, 103, 116, 130], 47) := by decide +kernel
theorem dX5_perform_48 : decode cX5_perform 48 = .ok (.aload_n 0, 1) := by decide +kernel
theorem dX5_perform_49 : decode cX5_perform 49 = .ok (.getfield 10, 3) := by decide +kernel
theorem dX5_perform_52 : decode cX5_perform 52 = .ok (.iload_n 2, 1) := by decide +kernel
theorem dX5_perform_53 : decode cX5_perform 53 = .ok (.iload_n 3, 1) := by decide +kernel
theorem dX5_perform_54 : decode cX5_perform 54 = .ok (.invokevirtual 352, 3) := by decide +kernel
theorem dX5_perform_57 : decode cX5_perform 57 = .ok (.ireturn, 1) := by decide +kernel
theorem dX5_perform_58 : decode cX5_perform 58 = .ok (.aload_n 0, 1) := by decide +kernel
theorem dX5_perform_59 : decode cX5_perform 59 = .ok (.getfield 10, 3) := by decide +kernel
theorem dX5_perform_62 : decode cX5_perform 62 = .ok (.getfield 65, 3) := by decide +kernel
theorem dX5_perform_65 : decode cX5_perform 65 = .ok (.iload_n 2, 1) := by decide +kernel
theorem dX5_perform_66 : decode cX5_perform 66 = .ok (.iload_n 3, 1) := by decide +kernel
theorem dX5_perform_67 : decode cX5_perform 67 = .ok (.invokevirtual 355, 3) := by decide +kernel
theorem dX5_perform_70 : decode cX5_perform 70 = .ok (.ireturn, 1) := by decide +kernel
theorem dX5_perform_71 : decode cX5_perform 71 = .ok (.aload_n 0, 1) := by decide +kernel
theorem dX5_perform_72 : decode cX5_perform 72 = .ok (.getfield 10, 3) := by decide +kernel
theorem dX5_perform_75 : decode cX5_perform 75 = .ok (.getfield 65, 3) := by decide +kernel
theorem dX5_perform_78 : decode cX5_perform 78 = .ok (.iload_n 2, 1) := by decide +kernel
theorem dX5_perform_79 : decode cX5_perform 79 = .ok (.iload_n 3, 1) := by decide +kernel
theorem dX5_perform_80 : decode cX5_perform 80 = .ok (.invokevirtual 358, 3) := by decide +kernel
theorem dX5_perform_83 : decode cX5_perform 83 = .ok (.ireturn, 1) := by decide +kernel
theorem dX5_perform_84 : decode cX5_perform 84 = .ok (.aload_n 0, 1) := by decide +kernel
theorem dX5_perform_85 : decode cX5_perform 85 = .ok (.getfield 10, 3) := by decide +kernel
theorem dX5_perform_88 : decode cX5_perform 88 = .ok (.iload_n 2, 1) := by decide +kernel
theorem dX5_perform_89 : decode cX5_perform 89 = .ok (.iload_n 3, 1) := by decide +kernel
theorem dX5_perform_90 : decode cX5_perform 90 = .ok (.invokevirtual 361, 3) := by decide +kernel
theorem dX5_perform_93 : decode cX5_perform 93 = .ok (.ireturn, 1) := by decide +kernel
theorem dX5_perform_94 : decode cX5_perform 94 = .ok (.aload_n 0, 1) := by decide +kernel
theorem dX5_perform_95 : decode cX5_perform 95 = .ok (.getfield 10, 3) := by decide +kernel
theorem dX5_perform_98 : decode cX5_perform 98 = .ok (.iload_n 2, 1) := by decide +kernel
theorem dX5_perform_99 : decode cX5_perform 99 = .ok (.iload_n 3, 1) := by decide +kernel
theorem dX5_perform_100 : decode cX5_perform 100 = .ok (.invokevirtual 364, 3) := by decide +kernel
theorem dX5_perform_103 : decode cX5_perform 103 = .ok (.ireturn, 1) := by decide +kernel
theorem dX5_perform_104 : decode cX5_perform 104 = .ok (.aload_n 0, 1) := by decide +kernel
theorem dX5_perform_105 : decode cX5_perform 105 = .ok (.getfield 10, 3) := by decide +kernel
theorem dX5_perform_108 : decode cX5_perform 108 = .ok (.getfield 120, 3) := by decide +kernel
theorem dX5_perform_111 : decode cX5_perform 111 = .ok (.iload_n 2, 1) := by decide +kernel
theorem dX5_perform_112 : decode cX5_perform 112 = .ok (.aaload, 1) := by decide +kernel
theorem dX5_perform_113 : decode cX5_perform 113 = .ok (.invokevirtual 367, 3) := by decide +kernel
theorem dX5_perform_116 : decode cX5_perform 116 = .ok (.ireturn, 1) := by decide +kernel
theorem dX5_perform_117 : decode cX5_perform 117 = .ok (.aload_n 0, 1) := by decide +kernel
theorem dX5_perform_118 : decode cX5_perform 118 = .ok (.getfield 10, 3) := by decide +kernel
theorem dX5_perform_121 : decode cX5_perform 121 = .ok (.getfield 120, 3) := by decide +kernel
theorem dX5_perform_124 : decode cX5_perform 124 = .ok (.iload_n 2, 1) := by decide +kernel
theorem dX5_perform_125 : decode cX5_perform 125 = .ok (.aaload, 1) := by decide +kernel
theorem dX5_perform_126 : decode cX5_perform 126 = .ok (.iload_n 3, 1) := by decide +kernel
theorem dX5_perform_127 : decode cX5_perform 127 = .ok (.invokevirtual 370, 3) := by decide +kernel
theorem dX5_perform_130 : decode cX5_perform 130 = .ok (.ireturn, 1) := by decide +kernel
theorem dX5_perform_131 : decode cX5_perform 131 = .ok (.aload_n 0, 1) := by decide +kernel
theorem dX5_perform_132 : decode cX5_perform 132 = .ok (.getfield 10, 3) := by decide +kernel
theorem dX5_perform_135 : decode cX5_perform 135 = .ok (.iload_n 2, 1) := by decide +kernel
theorem dX5_perform_136 : decode cX5_perform 136 = .ok (.iload_n 3, 1) := by decide +kernel
theorem dX5_perform_137 : decode cX5_perform 137 = .ok (.invokevirtual 373, 3) := by decide +kernel
theorem dX5_perform_140 : decode cX5_perform 140 = .ok (.ireturn, 1) := by decide +kernel
theorem dX5_perform_141 : decode cX5_perform 141 = .ok (.aload_n 0, 1) := by decide +kernel
theorem dX5_perform_142 : decode cX5_perform 142 = .ok (.getfield 10, 3) := by decide +kernel
theorem dX5_perform_145 : decode cX5_perform 145 = .ok (.iload_n 2, 1) := by decide +kernel
theorem dX5_perform_146 : decode cX5_perform 146 = .ok (.invokevirtual 376, 3) := by decide +kernel
theorem dX5_perform_149 : decode cX5_perform 149 = .ok (.ireturn, 1) := by decide +kernel
theorem dX5_runCommands_0 : decode cX5_runCommands 0 = .ok (.aload_n 0, 1) := by decide +kernel
theorem dX5_runCommands_1 : decode cX5_runCommands 1 = .ok (.getfield 16, 3) := by decide +kernel
theorem dX5_runCommands_4 : decode cX5_runCommands 4 = .ok (.aload_n 0, 1) := by decide +kernel
theorem dX5_runCommands_5 : decode cX5_runCommands 5 = .ok (.getfield 10, 3) := by decide +kernel
theorem dX5_runCommands_8 : decode cX5_runCommands 8 = .ok (.invokevirtual 288, 3) := by decide +kernel
theorem dX5_runCommands_11 : decode cX5_runCommands 11 = .ok (.iconst 0, 1) := by decide +kernel
theorem dX5_runCommands_12 : decode cX5_runCommands 12 = .ok (.istore_n 1, 1) := by decide +kernel
theorem dX5_runCommands_13 : decode cX5_runCommands 13 = .ok (.iload_n 1, 1) := by decide +kernel
theorem dX5_runCommands_14 : decode cX5_runCommands 14 = .ok (.aload_n 0, 1) := by decide +kernel
theorem dX5_runCommands_15 : decode cX5_runCommands 15 = .ok (.getfield 39, 3) := by decide +kernel
theorem dX5_runCommands_18 : decode cX5_runCommands 18 = .ok (.getfield 276, 3) := by decide +kernel
theorem dX5_runCommands_21 : decode cX5_runCommands 21 = .ok (.if_icmp .ge 73, 3) := by decide +kernel
theorem dX5_runCommands_24 : decode cX5_runCommands 24 = .ok (.aload_n 0, 1) := by decide +kernel
theorem dX5_runCommands_25 : decode cX5_runCommands 25 = .ok (.getfield 39, 3) := by decide +kernel
theorem dX5_runCommands_28 : decode cX5_runCommands 28 = .ok (.getfield 379, 3) := by decide +kernel
theorem dX5_runCommands_31 : decode cX5_runCommands 31 = .ok (.iload_n 1, 1) := by decide +kernel
theorem dX5_runCommands_32 : decode cX5_runCommands 32 = .ok (.iaload, 1) := by decide +kernel
theorem dX5_runCommands_33 : decode cX5_runCommands 33 = .ok (.istore_n 2, 1) := by decide +kernel
theorem dX5_runCommands_34 : decode cX5_runCommands 34 = .ok (.aload_n 0, 1) := by decide +kernel
theorem dX5_runCommands_35 : decode cX5_runCommands 35 = .ok (.getfield 39, 3) := by decide +kernel
theorem dX5_runCommands_38 : decode cX5_runCommands 38 = .ok (.getfield 382, 3) := by decide +kernel
theorem dX5_runCommands_41 : decode cX5_runCommands 41 = .ok (.iload_n 1, 1) := by decide +kernel
theorem dX5_runCommands_42 : decode cX5_runCommands 42 = .ok (.iaload, 1) := by decide +kernel
theorem dX5_runCommands_43 : decode cX5_runCommands 43 = .ok (.istore_n 3, 1) := by decide +kernel
theorem dX5_runCommands_44 : decode cX5_runCommands 44 = .ok (.aload_n 0, 1) := by decide +kernel
theorem dX5_runCommands_45 : decode cX5_runCommands 45 = .ok (.getfield 39, 3) := by decide +kernel
theorem dX5_runCommands_48 : decode cX5_runCommands 48 = .ok (.getfield 385, 3) := by decide +kernel
theorem dX5_runCommands_51 : decode cX5_runCommands 51 = .ok (.iload_n 1, 1) := by decide +kernel
theorem dX5_runCommands_52 : decode cX5_runCommands 52 = .ok (.iaload, 1) := by decide +kernel
theorem dX5_runCommands_53 : decode cX5_runCommands 53 = .ok (.istore 4, 2) := by decide +kernel
theorem dX5_runCommands_55 : decode cX5_runCommands 55 = .ok (.aload_n 0, 1) := by decide +kernel
theorem dX5_runCommands_56 : decode cX5_runCommands 56 = .ok (.iload_n 2, 1) := by decide +kernel
theorem dX5_runCommands_57 : decode cX5_runCommands 57 = .ok (.iload_n 3, 1) := by decide +kernel
theorem dX5_runCommands_58 : decode cX5_runCommands 58 = .ok (.iload 4, 2) := by decide +kernel
theorem dX5_runCommands_60 : decode cX5_runCommands 60 = .ok (.invokevirtual 310, 3) := by decide +kernel
theorem dX5_runCommands_63 : decode cX5_runCommands 63 = .ok (.ifCond .eq 16, 3) := by decide +kernel
theorem dX5_runCommands_66 : decode cX5_runCommands 66 = .ok (.aload_n 0, 1) := by decide +kernel
theorem dX5_runCommands_67 : decode cX5_runCommands 67 = .ok (.getfield 10, 3) := by decide +kernel
theorem dX5_runCommands_70 : decode cX5_runCommands 70 = .ok (.aload_n 0, 1) := by decide +kernel
theorem dX5_runCommands_71 : decode cX5_runCommands 71 = .ok (.getfield 16, 3) := by decide +kernel
theorem dX5_runCommands_74 : decode cX5_runCommands 74 = .ok (.invokevirtual 288, 3) := by decide +kernel
theorem dX5_runCommands_77 : decode cX5_runCommands 77 = .ok (.iload_n 1, 1) := by decide +kernel
theorem dX5_runCommands_78 : decode cX5_runCommands 78 = .ok (.ireturn, 1) := by decide +kernel
theorem dX5_runCommands_79 : decode cX5_runCommands 79 = .ok (.aload_n 0, 1) := by decide +kernel
theorem dX5_runCommands_80 : decode cX5_runCommands 80 = .ok (.iload_n 2, 1) := by decide +kernel
theorem dX5_runCommands_81 : decode cX5_runCommands 81 = .ok (.iload_n 3, 1) := by decide +kernel
theorem dX5_runCommands_82 : decode cX5_runCommands 82 = .ok (.iload 4, 2) := by decide +kernel
theorem dX5_runCommands_84 : decode cX5_runCommands 84 = .ok (.invokevirtual 319, 3) := by decide +kernel
theorem dX5_runCommands_87 : decode cX5_runCommands 87 = .ok (.pop, 1) := by decide +kernel
theorem dX5_runCommands_88 : decode cX5_runCommands 88 = .ok (.iinc 1 1, 3) := by decide +kernel
theorem dX5_runCommands_91 : decode cX5_runCommands 91 = .ok (.goto (-78), 3) := by decide +kernel
theorem dX5_runCommands_94 : decode cX5_runCommands 94 = .ok (.aload_n 0, 1) := by decide +kernel
theorem dX5_runCommands_95 : decode cX5_runCommands 95 = .ok (.getfield 25, 3) := by decide +kernel
theorem dX5_runCommands_98 : decode cX5_runCommands 98 = .ok (.aload_n 0, 1) := by decide +kernel
theorem dX5_runCommands_99 : decode cX5_runCommands 99 = .ok (.getfield 16, 3) := by decide +kernel
theorem dX5_runCommands_102 : decode cX5_runCommands 102 = .ok (.invokevirtual 316, 3) := by decide +kernel
theorem dX5_runCommands_105 : decode cX5_runCommands 105 = .ok (.iconst (-1), 1) := by decide +kernel
theorem dX5_runCommands_106 : decode cX5_runCommands 106 = .ok (.ireturn, 1) := by decide +kernel
theorem dX5_foreseenHearing_0 : decode cX5_foreseenHearing 0 = .ok (.aload_n 0, 1) := by decide +kernel
theorem dX5_foreseenHearing_1 : decode cX5_foreseenHearing 1 = .ok (.getfield 32, 3) := by decide +kernel
theorem dX5_foreseenHearing_4 : decode cX5_foreseenHearing 4 = .ok (.aload_n 1, 1) := by decide +kernel
theorem dX5_foreseenHearing_5 : decode cX5_foreseenHearing 5 = .ok (.invokevirtual 188, 3) := by decide +kernel
theorem dX5_foreseenHearing_8 : decode cX5_foreseenHearing 8 = .ok (.iconst 1, 1) := by decide +kernel
theorem dX5_foreseenHearing_9 : decode cX5_foreseenHearing 9 = .ok (.istore_n 3, 1) := by decide +kernel
theorem dX5_foreseenHearing_10 : decode cX5_foreseenHearing 10 = .ok (.iload_n 3, 1) := by decide +kernel
theorem dX5_foreseenHearing_11 : decode cX5_foreseenHearing 11 = .ok (.bipush 40, 2) := by decide +kernel
theorem dX5_foreseenHearing_13 : decode cX5_foreseenHearing 13 = .ok (.if_icmp .gt 37, 3) := by decide +kernel
theorem dX5_foreseenHearing_16 : decode cX5_foreseenHearing 16 = .ok (.aload_n 0, 1) := by decide +kernel
theorem dX5_foreseenHearing_17 : decode cX5_foreseenHearing 17 = .ok (.getfield 10, 3) := by decide +kernel
theorem dX5_foreseenHearing_20 : decode cX5_foreseenHearing 20 = .ok (.aload_n 0, 1) := by decide +kernel
theorem dX5_foreseenHearing_21 : decode cX5_foreseenHearing 21 = .ok (.getfield 32, 3) := by decide +kernel
theorem dX5_foreseenHearing_24 : decode cX5_foreseenHearing 24 = .ok (.invokevirtual 192, 3) := by decide +kernel
theorem dX5_foreseenHearing_27 : decode cX5_foreseenHearing 27 = .ok (.pop, 1) := by decide +kernel
theorem dX5_foreseenHearing_28 : decode cX5_foreseenHearing 28 = .ok (.aload_n 0, 1) := by decide +kernel
theorem dX5_foreseenHearing_29 : decode cX5_foreseenHearing 29 = .ok (.getfield 32, 3) := by decide +kernel
theorem dX5_foreseenHearing_32 : decode cX5_foreseenHearing 32 = .ok (.invokevirtual 142, 3) := by decide +kernel
theorem dX5_foreseenHearing_35 : decode cX5_foreseenHearing 35 = .ok (.iload_n 2, 1) := by decide +kernel
theorem dX5_foreseenHearing_36 : decode cX5_foreseenHearing 36 = .ok (.invokestatic 136, 3) := by decide +kernel
theorem dX5_foreseenHearing_39 : decode cX5_foreseenHearing 39 = .ok (.ifCond .eq 5, 3) := by decide +kernel
theorem dX5_foreseenHearing_42 : decode cX5_foreseenHearing 42 = .ok (.iload_n 3, 1) := by decide +kernel
theorem dX5_foreseenHearing_43 : decode cX5_foreseenHearing 43 = .ok (.ireturn, 1) := by decide +kernel
theorem dX5_foreseenHearing_44 : decode cX5_foreseenHearing 44 = .ok (.iinc 3 1, 3) := by decide +kernel
theorem dX5_foreseenHearing_47 : decode cX5_foreseenHearing 47 = .ok (.goto (-37), 3) := by decide +kernel
theorem dX5_foreseenHearing_50 : decode cX5_foreseenHearing 50 = .ok (.iconst (-1), 1) := by decide +kernel
theorem dX5_foreseenHearing_51 : decode cX5_foreseenHearing 51 = .ok (.ireturn, 1) := by decide +kernel
end
section
/-! the world as a table: objects by number, their shape fixed, their ints a function -/
abbrev zG : Type := va_G × (Nat → ClassId) × (Nat → Nat) × Nat
abbrev zX : Type := Program × Launch × Env × Room × State × MethodId × Array Value × List Frame × Method × Code × (State → Prop)
abbrev zM : Type := MethodName × ByteArray × Nat × Option FieldType
abbrev zI : Type := Nat → Nat → Int32
def zTr (φ : Nat → Nat) (v : Value) : Value := match v with
  | .ref o => .ref (φ o)
  | v => v
abbrev zA (G : zG) : Nat → Prop := fun q => G.2.2.2 ≤ q
/-! words -/
def zNestB : Cond → Bool
  | .fieldLinkNest .. => true
  | .methodLinkNest .. => true
  | .declares _ => true
  | .castable .. => true
  | _ => false
def zGood (w : Cond) : Bool := goodWord w || zNestB w
def zTW (U : State) : Prop := ∀ w ∈ lw_tbl, zGood w = true → ∀ a : Array Value, w.before a U = true
theorem zTW.moved {s U : State} (hW : s.WarmedH U.vm) (h : zTW s) : zTW U := by
  intro w hw hg a
  by_cases hg1 : goodWord w = true
  · exact word_at hW (good_of_word hg1) (h w hw hg #[])
  · have hn : zNestB w = true := by simpa [zGood, hg1] using hg
    cases w <;> first | (exact absurd hn Bool.false_ne_true) | (exact va_Nw.use rfl (va_Nw.warmF hW (va_Nw.of rfl (h _ hw hg #[])))) | (exact va_Nw.use rfl (va_Nw.warmM hW (va_Nw.of rfl (h _ hw hg #[])))) | (exact va_Nw.use rfl (va_Nw.warmD hW (va_Nw.of rfl (h _ hw hg #[])))) | (exact va_Nw.use rfl (va_Nw.warmC hW (va_Nw.of rfl (h _ hw hg #[]))))
/-! shapes -/
def zTy (c : Nat) : Nat → FieldType := match c with
  | 1 => tyJ4 | 4 => tyX0 | 5 => tyX1 | 6 => tyX2 | 7 => tyX3 | 8 => tyX4 | 9 => tyX5 | _ => tyX6
def zNf (c : Nat) : Nat := match c with
  | 1 => 4 | 4 => 3 | 5 => 5 | 6 => 6 | 7 => 8 | 8 => 11 | 9 => 10 | _ => 21
/-- kinds of arrays: 1 int 2 char 3 byte 4 Rumour 5 Scene 6 long 7 double -/
def zAt (k : Nat) : FieldType := match k with
  | 1 => .int | 2 => .char | 3 => .byte | 4 => .object "RumourHives$Rumour" | 5 => .object "RumourHives$Scene" | 6 => .long | _ => .double
/-- one scene's sixteen: scene, net, neighbours, parents, steps, hiveOf, doubtOf, rumours, four rumours and their rounds -/
def zShS (k : Nat) : Nat × Nat := match k with
  | 0 => (0, 7) | 1 => (0, 5) | 2 => (1, 12) | 3 => (1, 12) | 4 => (1, 12) | 5 => (1, 12) | 6 => (1, 12) | 7 => (4, 4)
  | 8 => (0, 6) | 9 => (1, 12) | 10 => (0, 6) | 11 => (1, 12) | 12 => (0, 6) | 13 => (1, 12) | 14 => (0, 6) | _ => (1, 12)
def zShT (o : Nat) : Nat × Nat := match o with
  | 0 => (0, 9) | 1 => (0, 4) | 2 => (5, 8) | 3 => (0, 6) | 4 => (1, 12) | 5 => (0, 8) | 6 => (2, 60) | 7 => (1, 60) | 8 => (1, 60) | 9 => (1, 60)
  | 10 => (0, 1) | 11 => (3, 0) | 12 => (0, 10) | 13 => (1, 109) | 14 => (1, 109) | 15 => (1, 109) | 16 => (1, 109) | 17 => (1, 872) | 18 => (1, 60) | 19 => (1, 40) | 20 => (1, 9) | 21 => (1, 47) | 22 => (1, 10)
  | 23 => (6, 1) | _ => (7, 1)
/-- 0..24: x, history, its scenes, forecast and rounds, script and arrays, output and its bytes, the model and its arrays, out, outD; then eleven scenes from 25 on -/
def zSh (o : Nat) : Nat × Nat := if o < 25 then zShT o else zShS ((o - 25) % 16)
def zN : Nat := 201
def zB : Nat := 11
/-- the references, which never change once made -/
def zPs (b k j : Nat) : Option Nat := match k, j with
  | 0, 0 => some (b + 1) | 0, 1 => some (b + 5) | 0, 2 => some (b + 6) | 0, 3 => some (b + 7)
  | 1, 2 => some (b + 2) | 1, 3 => some (b + 3) | 1, 4 => some (b + 4)
  | 7, j => some (b + 8 + 2 * j)
  | 8, 5 => some (b + 9) | 10, 5 => some (b + 11) | 12, 5 => some (b + 13) | 14, 5 => some (b + 15)
  | _, _ => none
def zPt (o j : Nat) : Option Nat := match o, j with
  | 0, 0 => some 25 | 0, 1 => some 41 | 0, 2 => some 57 | 0, 3 => some 1 | 0, 4 => some 3 | 0, 5 => some 5 | 0, 6 => some 10
  | 1, 0 => some 2
  | 2, j => some (73 + 16 * j)
  | 3, 5 => some 4
  | 5, 0 => some 6 | 5, 2 => some 7 | 5, 3 => some 8 | 5, 4 => some 9
  | 10, 0 => some 11
  | 12, 5 => some 13 | 12, 6 => some 14 | 12, 7 => some 15 | 12, 8 => some 16 | 12, 9 => some 17 | 12, 10 => some 18 | 12, 11 => some 19 | 12, 12 => some 20 | 12, 13 => some 21 | 12, 14 => some 22
  | _, _ => none
def zP (o j : Nat) : Option Nat := if o < 25 then zPt o j else zPs (o - (o - 25) % 16) ((o - 25) % 16) j
def zAd (φ : Nat → Nat) (va : Nat) (o : Nat) : Nat := if o = 11 then va else φ o
def zIsR (t : FieldType) : Bool := match t with
  | .object _ => true
  | .array _ => true
  | _ => false
def zFv (φ : Nat → Nat) (va : Nat) (I : zI) (o c k : Nat) : Value := if zIsR (zTy c k) then va_rf ((zP o k).map (zAd φ va)) else .int (I o k)
def zEnt (G : zG) (va cap : Nat) (I : zI) (J : Int64) (E : UInt64) (o : Nat) : va_E := match (zSh o).1 with
  | 0 => .inr ((zSh o).2, (List.range (zNf (zSh o).2)).map (zFv G.2.2.1 va I o (zSh o).2))
  | 4 => .inl (G.2.1 4, (zSh o).2, .inr (.inr (.inr (.inr (fun k => (zP o k).map (zAd G.2.2.1 va))))))
  | 5 => .inl (G.2.1 5, (zSh o).2, .inr (.inr (.inr (.inr (fun k => (zP o k).map (zAd G.2.2.1 va))))))
  | 6 => .inl (G.2.1 6, (zSh o).2, .inr (.inl (fun _ => J)))
  | 7 => .inl (G.2.1 7, (zSh o).2, .inr (.inr (.inr (.inl (fun _ => E)))))
  | k => .inl (G.2.1 k, if o = 11 then cap else (zSh o).2, .inl (I o))
def zW (G : zG) (va cap : Nat) (I : zI) (J : Int64) (E : UInt64) : va_W := (List.range zN).map (fun o => (zAd G.2.2.1 va o, zEnt G va cap I J E o))
def zRep (G : zG) (I : zI) (J : Int64) (E : UInt64) (H : Heap) : Prop := ∃ va cap : Nat, va_P G.1 vwCl (zW G va cap I J E) H ∧ va_D (zA G) (zW G va cap I J E)
def zTys (cA : Nat → ClassId) : List (ClassId × FieldType) := (List.range 7).map (fun k => (cA (k + 1), zAt (k + 1)))
theorem zW_get {G : zG} {va cap : Nat} {I : zI} {J : Int64} {E : UInt64} {o : Nat} (h : o < zN) : (zW G va cap I J E)[o]? = some (zAd G.2.2.1 va o, zEnt G va cap I J E o) := by
  simp [zW, h]
theorem zTys_get {cA : Nat → ClassId} {k : Nat} (h : k < 7) : (zTys cA)[k]? = some (cA (k + 1), zAt (k + 1)) := by
  simp [zTys, h]
/-! what is known of a state beside the world -/
def zStrs : List (String × Nat × String) := [("RumourHives", 322, "no such index"), ("RumourHives", 324, "an argument is not allowed"), ("RumourHives", 326, "the state does not allow the call"), ("RumourHives", 308, "there is none"), ("RumourHives", 296, "no such listener"), ("RumourHives", 306, "no such hive"), ("RumourHives", 301, "no such rumour"), ("RumourHives", 147, "the listener is unaware of the rumour"), ("RumourHives", 155, "the rumour has no spreaders"), ("RumourHives", 176, "the listener is not unaware of the rumour"), ("RumourHives", 185, "the rounds are not between 0 and 40"), ("RumourHives", 212, "there are no listeners"), ("java/lang/StringIndexOutOfBoundsException", 13, "String index out of range: "), ("java/util/Arrays", 337, " > "), ("java/util/Arrays", 48, "fromIndex("), ("java/util/Arrays", 57, ") > toIndex("), ("java/util/Arrays", 59, ")"), ("java/lang/ArrayIndexOutOfBoundsException", 13, "Array index out of range: "), ("RumourHives", 250, "no such index of the output text"), ("RumourHives", 256, "the character code is not between 32 and 126"), ("RumourHives", 260, "the script buffer is full"), ("RumourHives$Script", 60, "ear # #"), ("RumourHives$Script", 62, "link @ @"), ("RumourHives$Script", 64, "cut @ @"), ("RumourHives$Script", 66, "start @ #"), ("RumourHives$Script", 68, "check # @"), ("RumourHives$Script", 70, "deny #"), ("RumourHives$Script", 72, "answer # #"), ("RumourHives$Script", 74, "move @ #"), ("RumourHives$Script", 76, "round"), ("RumourHives$Script", 78, "round @"), ("RumourHives", 269, "the script does not have the required form"), ("RumourHives", 274, "a command of the script failed"), ("RumourHives", 282, "there is nothing to undo"), ("RumourHives", 290, "there is no snapshot")]
def zStr (U : State) : Prop := ∀ q ∈ zStrs, ∃ a, vk_R q.1 q.2.1 q.2.2 a U
theorem zStr.moved {s U : State} (hW : s.WarmedH U.vm) (h : zStr s) : zStr U := fun q hq => by
  obtain ⟨a, ha⟩ := h q hq
  exact ⟨a, ha.warm hW⟩
def zFacts (G : zG) (U : State) (H : Heap) : Prop := zTW U ∧ va_K G.1 vwCl (zTys G.2.1) U ∧ vx_Zq Bundle.tN "UNASSIGNED_STACK" Bundle.steD (zA G) U H ∧ vx_Zq Bundle.tN "SUPPRESSED_SENTINEL" Bundle.listD (zA G) U H ∧ zStr U ∧ G.2.2.2 ≤ H.size
theorem zFacts.to {G : zG} {s U : State} {H : Heap} {locs : List Loc} (h : zFacts G s s.heap) (hW : s.WarmedH U.vm) (hS : va_S (zA G) s.heap H locs) : zFacts G U H := by
  obtain ⟨h1, h2, h3, h4, h5, h6⟩ := h
  refine ⟨h1.moved hW, va_K.moved hW.alike h2, (h3.moved hW.alike).kept hS.2.1, (h4.moved hW.alike).kept hS.2.1, h5.moved hW, Nat.le_trans h6 hS.1⟩
def zRm (d mc ms : Nat) : Room := { frames := 12 + d, cells := mc, slots := ms, locals := 256 + 64 * d }
def zOK (G : zG) (X : zX) (M : zM) (d mc ms : Nat) : Prop :=
  X.1.tables.exec = Jvm.exec ∧ X.2.2.2.2.2.2.2.2.2.1.code = M.2.1 ∧ X.2.2.2.2.2.2.2.2.2.1.maxLocals = M.2.2.1 ∧ X.2.2.2.2.1.vm.findClass M.1.cls = some X.2.2.2.2.2.1.cls ∧ X.2.2.2.2.2.2.2.2.1.locks = false ∧ X.2.2.2.2.2.2.2.2.1.sig.returnType = M.2.2.2 ∧ zFacts G X.2.2.2.2.1 X.2.2.2.2.1.heap ∧ X.2.2.2.1 = zRm d mc ms ∧ X.2.1.stackTraces = false
/-- a list of locals: known ones -/
def zHas (φ : Nat → Nat) (arr : Array Slot) (ls : List (Option Value)) : Prop := arr.size = ls.length ∧ lv_wf arr ∧ ∀ (i : Nat) (v : Value), ls[i]? = some (some v) → arr[i]? = some (.val (zTr φ v))
def SW (G : zG) (X : zX) (cells slots : Nat) (pc : Nat) (ls : List (Option Value)) (st : List Value) (I : zI) (J : Int64) (E : UInt64) : Prop :=
  match X with
  | (p, l, e, R, s, m, args, below, meth, c, Q) => ∀ (H : Heap) (locs : List Loc) (arr : Array Slot), zHas G.2.2.1 arr ls → ls.length = c.maxLocals → zRep G I J E H → va_S (zA G) s.heap H locs → W p l e R s m args below meth c H locs cells slots Q (F0 m pc arr (st.map (zTr G.2.2.1)))
/-! contracts -/
def zPc (G : zG) (as : List Value) (I : zI) (J : Int64) (E : UInt64) : Array Value → State → Prop := fun v U => v = (as.map (zTr G.2.2.1)).toArray ∧ zRep G I J E U.heap ∧ zFacts G U U.heap
def zQc (G : zG) (r : Option Value) (I : zI) (J : Int64) (E : UInt64) : Array Value → State → Outcome → State → Prop := fun _ st oc t => oc = .returned (r.map (zTr G.2.2.1)) ∧ zRep G I J E t.heap ∧ va_F (zA G) st t
def zXc (G : zG) (C : String) (I : zI) (J : Int64) (E : UInt64) : String → State → State → Prop := fun D st t => D = C ∧ zRep G I J E t.heap ∧ va_F (zA G) st t
def zNo : Array Value → State → Outcome → State → Prop := fun _ _ _ _ => False
/-- returns r, and leaves I' J' E' -/
def zCR (l : Launch) (G : zG) (M : zM) (d mc ms : Nat) (as : List Value) (I : zI) (J : Int64) (E : UInt64) (r : Option Value) (I' : zI) (J' : Int64) (E' : UInt64) : Prop :=
  Met l M.1 [Cond.code M.1 M.2.1 M.2.2.1 M.2.2.2] (zRm d mc ms) (zPc G as I J E) (zQc G r I' J' E') mc ms (zA G)
/-- throws C -/
def zCT (l : Launch) (G : zG) (M : zM) (d mc ms : Nat) (as : List Value) (I : zI) (J : Int64) (E : UInt64) (C : String) (I' : zI) (J' : Int64) (E' : UInt64) : Prop :=
  vx_Met l M.1 [Cond.code M.1 M.2.1 M.2.2.1 M.2.2.2] (zRm d mc ms) (zPc G as I J E) zNo (zXc G C I' J' E') mc ms (zA G)
def zFin (G : zG) (X : zX) (mc ms : Nat) (r : Option Value) (I : zI) (J : Int64) (E : UInt64) : Prop :=
  match X with
  | (_, _, _, _, s, _, args, below, _, _, Q) => Q = MQ below (zQc G r I J E) args s mc ms (zA G)
def zFinT (G : zG) (X : zX) (mc ms : Nat) (C : String) (I : zI) (J : Int64) (E : UInt64) : Prop :=
  match X with
  | (_, _, _, _, s, _, args, below, _, c, Q) => Q = vx_MQ below zNo (zXc G C I J E) args s mc ms (zA G) ∧ ∀ x ∈ c.exceptionTable.toList, False
theorem zTr_cat (φ : Nat → Nat) (v : Value) : (zTr φ v).category = v.category := by cases v <;> rfl
theorem zSl {vs : List Value} (h : ∀ v ∈ vs, v.category = 1) : lg_sl vs = vs.map Slot.val := by
  induction vs with
  | nil => rfl
  | cons a l ih =>
    have h1 := h a List.mem_cons_self
    have h2 := ih (fun v hv => h v (List.mem_cons_of_mem _ hv))
    unfold lg_sl at h2 ⊢
    rw [List.flatMap_cons, h2]
    simp [h1]
theorem zEntry {φ : Nat → Nat} {m : MethodId} {as : List Value} {n : Nat} (h1 : ∀ v ∈ as, v.category = 1) (hn : as.length ≤ n) : ∃ arr : Array Slot, entryFrame m (as.map (zTr φ)).toArray n = F0 m 0 arr [] ∧ zHas φ arr (as.map some ++ List.replicate (n - as.length) none) := by
  have h2 : ∀ v ∈ as.map (zTr φ), v.category = 1 := by
    intro v hv
    obtain ⟨w, hw, rfl⟩ := List.mem_map.mp hv
    rw [zTr_cat]; exact h1 w hw
  have hs := zSl h2
  have hlen : (lg_sl (as.map (zTr φ))).length = as.length := by rw [hs]; simp
  have hl := lv_entry (as.map (zTr φ)) (n := n) (by rw [hlen]; exact hn)
  refine ⟨_, lg_entry_eq m _ n, ?_, hl.2.1, ?_⟩
  · rw [hl.1]; simp; omega
  · intro i v hv
    by_cases hi : i < as.length
    · rw [List.getElem?_append_left (by simpa using hi)] at hv
      rw [List.getElem?_toArray, List.getElem?_append_left (by rw [hlen]; exact hi), hs]
      rw [List.getElem?_map] at hv
      rw [List.getElem?_map, List.getElem?_map]
      cases hq : as[i]? with
      | none => rw [hq] at hv; cases hv
      | some w => rw [hq] at hv; cases hv; rfl
    · rw [List.getElem?_append_right (by simpa using Nat.le_of_not_lt hi), List.getElem?_replicate] at hv
      split at hv <;> cases hv
/-! opening a method -/
theorem zCR.of {l : Launch} {G : zG} {M : zM} {d mc ms : Nat} {as : List Value} {I I' : zI} {J J' : Int64} {E E' : UInt64} {r : Option Value} (hl : l.stackTraces = false) (hy : plainName M.1.cls = true) (h1 : ∀ v ∈ as, v.category = 1) (hn : as.length ≤ M.2.2.1) {ls : List (Option Value)} (hls : as.map some ++ List.replicate (M.2.2.1 - as.length) none = ls)
    (body : ∀ X, zOK G X M d mc ms → zFin G X mc ms r I' J' E' → SW G X 0 0 0 ls [] I J E) : zCR l G M d mc ms as I J E r I' J' E' := by
  refine Met.ofW (cc := M.2.1) (maxL := M.2.2.1) (ret := M.2.2.2) hy rfl ?_
  intro p e s m args below meth c s₁ B hml hv
  obtain ⟨rfl, hR, hF⟩ := hv
  obtain ⟨arr, he, hh⟩ := zEntry (φ := G.2.2.1) (m := m) h1 hn
  rw [he]
  rw [hls] at hh
  refine body (p, l, e, _, s, m, _, below, meth, c, _) ⟨B.exec, B.bytes, hml, findClass_of_methodNamed B.named, B.notSynchronized, B.returns, hF, rfl, hl⟩ rfl s.heap [] arr hh ?_ hR va_S.rf
  rw [hml, ← hls]; simp; omega
theorem zCT.of {l : Launch} {G : zG} {M : zM} {d mc ms : Nat} {as : List Value} {I I' : zI} {J J' : Int64} {E E' : UInt64} {r : String} (hl : l.stackTraces = false) (hy : plainName M.1.cls = true) (h1 : ∀ v ∈ as, v.category = 1) (hn : as.length ≤ M.2.2.1) {ls : List (Option Value)} (hls : as.map some ++ List.replicate (M.2.2.1 - as.length) none = ls)
    (body : ∀ X, zOK G X M d mc ms → zFinT G X mc ms r I' J' E' → SW G X 0 0 0 ls [] I J E) : zCT l G M d mc ms as I J E r I' J' E' := by
  refine vx_ofW (cc := M.2.1) (maxL := M.2.2.1) (ret := M.2.2.2) hy rfl ?_
  intro p e s m args below meth c s₁ B hml hex hv
  obtain ⟨rfl, hR, hF⟩ := hv
  obtain ⟨arr, he, hh⟩ := zEntry (φ := G.2.2.1) (m := m) h1 hn
  rw [he]
  rw [hls] at hh
  refine body (p, l, e, _, s, m, _, below, meth, c, _) ⟨B.exec, B.bytes, hml, findClass_of_methodNamed B.named, B.notSynchronized, B.returns, hF, rfl, hl⟩ ⟨rfl, hex⟩ s.heap [] arr hh ?_ hR va_S.rf
  rw [hml, ← hls]; simp; omega
end
section
/-! locals -/
def zC1 (u : Option Value) : Bool := match u with
  | some v => v.category == 1
  | none => true
def zAl (φ : Nat → Nat) (ls : List (Option Value)) : List (Nat × Value) := (List.range ls.length).filterMap (fun i => (ls.getD i none).map (fun v => (i, zTr φ v)))
theorem zAl.mem {φ : Nat → Nat} {ls : List (Option Value)} {i : Nat} {v : Value} (h : ls[i]? = some (some v)) : (i, zTr φ v) ∈ zAl φ ls := by
  have hi : i < ls.length := (List.getElem?_eq_some_iff.mp h).1
  refine List.mem_filterMap.mpr ⟨i, List.mem_range.mpr hi, ?_⟩
  simp [List.getD, h]
theorem zHas.has {φ : Nat → Nat} {arr : Array Slot} {ls : List (Option Value)} (h : zHas φ arr ls) : lv_has arr ls.length (zAl φ ls) := by
  refine ⟨h.1, h.2.1, fun q hq => ?_⟩
  obtain ⟨i, -, h2⟩ := List.mem_filterMap.mp hq
  cases hg : ls[i]? with
  | none => simp [List.getD, hg] at h2
  | some o =>
    cases o with
    | none => simp [List.getD, hg] at h2
    | some v =>
      simp [List.getD, hg] at h2
      subst h2
      exact h.2.2 i v hg
theorem zHas.set {φ : Nat → Nat} {arr ls' : Array Slot} {ls : List (Option Value)} {i : Nat} {v : Value} (h : lv_has ls' ls.length ((i, zTr φ v) :: (zAl φ ls).filter (fun q => !(q.1 == i) && !(q.1 + 1 == i && q.2.category == 2)))) (_ : arr.size = ls.length) (hi : i < ls.length) (hu : ∀ u, (if i = 0 then none else ls[i - 1]?) = some u → zC1 u = true) : zHas φ ls' (ls.set i (some v)) := by
  refine ⟨by rw [h.1]; simp, h.2.1, fun j w hw => ?_⟩
  by_cases hj : j = i
  · subst hj
    rw [List.getElem?_set_self hi] at hw
    cases hw
    exact h.2.2 _ List.mem_cons_self
  · rw [List.getElem?_set_ne (fun h => hj h.symm)] at hw
    refine h.2.2 (j, zTr φ w) (List.mem_cons_of_mem _ (List.mem_filter.mpr ⟨zAl.mem hw, ?_⟩))
    have h1 : (j == i) = false := by simpa using hj
    simp only [h1, Bool.not_false, Bool.true_and]
    by_cases hji : j + 1 = i
    · subst hji
      have h2 := hu (some w) (by simpa using hw)
      simp only [zC1, beq_iff_eq] at h2
      simp [zTr_cat, h2]
    · simp [hji]
/-! rows -/
theorem sw_iadd {G : zG} {X : zX} {M : zM} {d mc ms a b pc : Nat} {ls : List (Option Value)} {st : List Value} {I : zI} {J : Int64} {E : UInt64} (C : zOK G X M d mc ms) {x y : Int32} (hd : decode M.2.1 pc = .ok (.iadd, 1)) (k : SW G X a b (pc + 1) ls (.int (x + y) :: st) I J E) : SW G X a b pc ls (.int y :: .int x :: st) I J E := by
  obtain ⟨p, l, e, R, s, m, args, below, meth, c, Q⟩ := X
  intro H locs arr hl hn hR hS
  exact lv_iadd C.1 C.2.1 hd (k H locs arr hl hn hR hS)
theorem sw_isub {G : zG} {X : zX} {M : zM} {d mc ms a b pc : Nat} {ls : List (Option Value)} {st : List Value} {I : zI} {J : Int64} {E : UInt64} (C : zOK G X M d mc ms) {x y : Int32} (hd : decode M.2.1 pc = .ok (.isub, 1)) (k : SW G X a b (pc + 1) ls (.int (x - y) :: st) I J E) : SW G X a b pc ls (.int y :: .int x :: st) I J E := by
  obtain ⟨p, l, e, R, s, m, args, below, meth, c, Q⟩ := X
  intro H locs arr hl hn hR hS
  exact lv_isub C.1 C.2.1 hd (k H locs arr hl hn hR hS)
theorem sw_imul {G : zG} {X : zX} {M : zM} {d mc ms a b pc : Nat} {ls : List (Option Value)} {st : List Value} {I : zI} {J : Int64} {E : UInt64} (C : zOK G X M d mc ms) {x y : Int32} (hd : decode M.2.1 pc = .ok (.imul, 1)) (k : SW G X a b (pc + 1) ls (.int (x * y) :: st) I J E) : SW G X a b pc ls (.int y :: .int x :: st) I J E := by
  obtain ⟨p, l, e, R, s, m, args, below, meth, c, Q⟩ := X
  intro H locs arr hl hn hR hS
  exact lv_imul C.1 C.2.1 hd (k H locs arr hl hn hR hS)
theorem sw_iand {G : zG} {X : zX} {M : zM} {d mc ms a b pc : Nat} {ls : List (Option Value)} {st : List Value} {I : zI} {J : Int64} {E : UInt64} (C : zOK G X M d mc ms) {x y : Int32} (hd : decode M.2.1 pc = .ok (.iand, 1)) (k : SW G X a b (pc + 1) ls (.int (x &&& y) :: st) I J E) : SW G X a b pc ls (.int y :: .int x :: st) I J E := by
  obtain ⟨p, l, e, R, s, m, args, below, meth, c, Q⟩ := X
  intro H locs arr hl hn hR hS
  exact lv_iand C.1 C.2.1 hd (k H locs arr hl hn hR hS)
theorem sw_ior {G : zG} {X : zX} {M : zM} {d mc ms a b pc : Nat} {ls : List (Option Value)} {st : List Value} {I : zI} {J : Int64} {E : UInt64} (C : zOK G X M d mc ms) {x y : Int32} (hd : decode M.2.1 pc = .ok (.ior, 1)) (k : SW G X a b (pc + 1) ls (.int (x ||| y) :: st) I J E) : SW G X a b pc ls (.int y :: .int x :: st) I J E := by
  obtain ⟨p, l, e, R, s, m, args, below, meth, c, Q⟩ := X
  intro H locs arr hl hn hR hS
  exact lv_ior C.1 C.2.1 hd (k H locs arr hl hn hR hS)
theorem sw_ixor {G : zG} {X : zX} {M : zM} {d mc ms a b pc : Nat} {ls : List (Option Value)} {st : List Value} {I : zI} {J : Int64} {E : UInt64} (C : zOK G X M d mc ms) {x y : Int32} (hd : decode M.2.1 pc = .ok (.ixor, 1)) (k : SW G X a b (pc + 1) ls (.int (x ^^^ y) :: st) I J E) : SW G X a b pc ls (.int y :: .int x :: st) I J E := by
  obtain ⟨p, l, e, R, s, m, args, below, meth, c, Q⟩ := X
  intro H locs arr hl hn hR hS
  exact lv_ixor C.1 C.2.1 hd (k H locs arr hl hn hR hS)
theorem sw_ishl {G : zG} {X : zX} {M : zM} {d mc ms a b pc : Nat} {ls : List (Option Value)} {st : List Value} {I : zI} {J : Int64} {E : UInt64} (C : zOK G X M d mc ms) {x y : Int32} (hd : decode M.2.1 pc = .ok (.ishl, 1)) (k : SW G X a b (pc + 1) ls (.int (x <<< (y &&& 31)) :: st) I J E) : SW G X a b pc ls (.int y :: .int x :: st) I J E := by
  obtain ⟨p, l, e, R, s, m, args, below, meth, c, Q⟩ := X
  intro H locs arr hl hn hR hS
  exact lv_ishl C.1 C.2.1 hd (k H locs arr hl hn hR hS)
theorem sw_ishr {G : zG} {X : zX} {M : zM} {d mc ms a b pc : Nat} {ls : List (Option Value)} {st : List Value} {I : zI} {J : Int64} {E : UInt64} (C : zOK G X M d mc ms) {x y : Int32} (hd : decode M.2.1 pc = .ok (.ishr, 1)) (k : SW G X a b (pc + 1) ls (.int (x >>> (y &&& 31)) :: st) I J E) : SW G X a b pc ls (.int y :: .int x :: st) I J E := by
  obtain ⟨p, l, e, R, s, m, args, below, meth, c, Q⟩ := X
  intro H locs arr hl hn hR hS
  exact lv_ishr C.1 C.2.1 hd (k H locs arr hl hn hR hS)
theorem sw_idiv {G : zG} {X : zX} {M : zM} {d mc ms a b pc : Nat} {ls : List (Option Value)} {st : List Value} {I : zI} {J : Int64} {E : UInt64} (C : zOK G X M d mc ms) {x y : Int32} (hne : ¬ y = 0) (hd : decode M.2.1 pc = .ok (.idiv, 1)) (k : SW G X a b (pc + 1) ls (.int (x / y) :: st) I J E) : SW G X a b pc ls (.int y :: .int x :: st) I J E := by
  obtain ⟨p, l, e, R, s, m, args, below, meth, c, Q⟩ := X
  intro H locs arr hl hn hR hS
  exact lv_idiv C.1 C.2.1 hd hne (k H locs arr hl hn hR hS)
theorem sw_irem {G : zG} {X : zX} {M : zM} {d mc ms a b pc : Nat} {ls : List (Option Value)} {st : List Value} {I : zI} {J : Int64} {E : UInt64} (C : zOK G X M d mc ms) {x y : Int32} (hne : ¬ y = 0) (hd : decode M.2.1 pc = .ok (.irem, 1)) (k : SW G X a b (pc + 1) ls (.int (x - x / y * y) :: st) I J E) : SW G X a b pc ls (.int y :: .int x :: st) I J E := by
  obtain ⟨p, l, e, R, s, m, args, below, meth, c, Q⟩ := X
  intro H locs arr hl hn hR hS
  exact lv_irem C.1 C.2.1 hd hne (k H locs arr hl hn hR hS)
theorem sw_ineg {G : zG} {X : zX} {M : zM} {d mc ms a b pc : Nat} {ls : List (Option Value)} {st : List Value} {I : zI} {J : Int64} {E : UInt64} (C : zOK G X M d mc ms) {x : Int32} (hd : decode M.2.1 pc = .ok (.ineg, 1)) (k : SW G X a b (pc + 1) ls (.int (-x) :: st) I J E) : SW G X a b pc ls (.int x :: st) I J E := by
  obtain ⟨p, l, e, R, s, m, args, below, meth, c, Q⟩ := X
  intro H locs arr hl hn hR hS
  exact lv_ineg C.1 C.2.1 hd (k H locs arr hl hn hR hS)
theorem sw_iushr {G : zG} {X : zX} {M : zM} {d mc ms a b pc : Nat} {ls : List (Option Value)} {st : List Value} {I : zI} {J : Int64} {E : UInt64} (C : zOK G X M d mc ms) {x y : Int32} (hd : decode M.2.1 pc = .ok (.iushr, 1)) (k : SW G X a b (pc + 1) ls (.int ((x.toUInt32 >>> (y.toUInt32 &&& Int32.toUInt32 31)).toInt32) :: st) I J E) : SW G X a b pc ls (.int y :: .int x :: st) I J E := by
  obtain ⟨p, l, e, R, s, m, args, below, meth, c, Q⟩ := X
  intro H locs arr hl hn hR hS
  exact lv_iushr C.1 C.2.1 hd rfl (k H locs arr hl hn hR hS)
theorem sw_i2c {G : zG} {X : zX} {M : zM} {d mc ms a b pc : Nat} {ls : List (Option Value)} {st : List Value} {I : zI} {J : Int64} {E : UInt64} (C : zOK G X M d mc ms) {x : Int32} (hd : decode M.2.1 pc = .ok (.i2c, 1)) (k : SW G X a b (pc + 1) ls (.int ((x.toUInt32 % 65536).toInt32) :: st) I J E) : SW G X a b pc ls (.int x :: st) I J E := by
  obtain ⟨p, l, e, R, s, m, args, below, meth, c, Q⟩ := X
  intro H locs arr hl hn hR hS
  exact lv_i2c C.1 C.2.1 hd rfl (k H locs arr hl hn hR hS)
theorem sw_i2l {G : zG} {X : zX} {M : zM} {d mc ms a b pc : Nat} {ls : List (Option Value)} {st : List Value} {I : zI} {J : Int64} {E : UInt64} (C : zOK G X M d mc ms) {x : Int32} (hd : decode M.2.1 pc = .ok (.i2l, 1)) (k : SW G X a b (pc + 1) ls (.long x.toInt64 :: st) I J E) : SW G X a b pc ls (.int x :: st) I J E := by
  obtain ⟨p, l, e, R, s, m, args, below, meth, c, Q⟩ := X
  intro H locs arr hl hn hR hS
  exact lv_i2l C.1 C.2.1 hd rfl (k H locs arr hl hn hR hS)
theorem sw_i2d {G : zG} {X : zX} {M : zM} {d mc ms a b pc : Nat} {ls : List (Option Value)} {st : List Value} {I : zI} {J : Int64} {E : UInt64} (C : zOK G X M d mc ms) {x : Int32} (hd : decode M.2.1 pc = .ok (.i2d, 1)) (k : SW G X a b (pc + 1) ls (.double (FP.i2d x) :: st) I J E) : SW G X a b pc ls (.int x :: st) I J E := by
  obtain ⟨p, l, e, R, s, m, args, below, meth, c, Q⟩ := X
  intro H locs arr hl hn hR hS
  exact lv_i2d C.1 C.2.1 hd (k H locs arr hl hn hR hS)
theorem sw_i2f {G : zG} {X : zX} {M : zM} {d mc ms a b pc : Nat} {ls : List (Option Value)} {st : List Value} {I : zI} {J : Int64} {E : UInt64} (C : zOK G X M d mc ms) {x : Int32} (hd : decode M.2.1 pc = .ok (.i2f, 1)) (k : SW G X a b (pc + 1) ls (.float (FP.i2f x) :: st) I J E) : SW G X a b pc ls (.int x :: st) I J E := by
  obtain ⟨p, l, e, R, s, m, args, below, meth, c, Q⟩ := X
  intro H locs arr hl hn hR hS
  exact lv_i2f C.1 C.2.1 hd (k H locs arr hl hn hR hS)
theorem sw_ddiv {G : zG} {X : zX} {M : zM} {d mc ms a b pc : Nat} {ls : List (Option Value)} {st : List Value} {I : zI} {J : Int64} {E : UInt64} (C : zOK G X M d mc ms) {x y : UInt64} (hne : vf_n64 (FP.ddiv x y)) (hd : decode M.2.1 pc = .ok (.ddiv, 1)) (k : SW G X a b (pc + 1) ls (.double (FP.ddiv x y) :: st) I J E) : SW G X a b pc ls (.double y :: .double x :: st) I J E := by
  obtain ⟨p, l, e, R, s, m, args, below, meth, c, Q⟩ := X
  intro H locs arr hl hn hR hS
  exact lv_ddiv C.1 C.2.1 hd hne (k H locs arr hl hn hR hS)
theorem sw_fdiv {G : zG} {X : zX} {M : zM} {d mc ms a b pc : Nat} {ls : List (Option Value)} {st : List Value} {I : zI} {J : Int64} {E : UInt64} (C : zOK G X M d mc ms) {x y : UInt32} (hne : vf_n32 (FP.fdiv x y)) (hd : decode M.2.1 pc = .ok (.fdiv, 1)) (k : SW G X a b (pc + 1) ls (.float (FP.fdiv x y) :: st) I J E) : SW G X a b pc ls (.float y :: .float x :: st) I J E := by
  obtain ⟨p, l, e, R, s, m, args, below, meth, c, Q⟩ := X
  intro H locs arr hl hn hR hS
  exact lv_fdiv C.1 C.2.1 hd hne (k H locs arr hl hn hR hS)
theorem sw_f2d {G : zG} {X : zX} {M : zM} {d mc ms a b pc : Nat} {ls : List (Option Value)} {st : List Value} {I : zI} {J : Int64} {E : UInt64} (C : zOK G X M d mc ms) {x : UInt32} (hne : vf_n64 (FP.f2d x)) (hd : decode M.2.1 pc = .ok (.f2d, 1)) (k : SW G X a b (pc + 1) ls (.double (FP.f2d x) :: st) I J E) : SW G X a b pc ls (.float x :: st) I J E := by
  obtain ⟨p, l, e, R, s, m, args, below, meth, c, Q⟩ := X
  intro H locs arr hl hn hR hS
  exact lv_f2d C.1 C.2.1 hd hne (k H locs arr hl hn hR hS)
theorem sw_dcmp {G : zG} {X : zX} {M : zM} {d mc ms a b pc : Nat} {ls : List (Option Value)} {st : List Value} {I : zI} {J : Int64} {E : UInt64} (C : zOK G X M d mc ms) {x y : UInt64} {op : CmpOp} (hd : decode M.2.1 pc = .ok (.dcmp op, 1)) (k : SW G X a b (pc + 1) ls (.int (Op.cmpValue (FP.dcmp x y) op) :: st) I J E) : SW G X a b pc ls (.double y :: .double x :: st) I J E := by
  obtain ⟨p, l, e, R, s, m, args, below, meth, c, Q⟩ := X
  intro H locs arr hl hn hR hS
  exact lv_dcmp C.1 C.2.1 hd (k H locs arr hl hn hR hS)
theorem sw_fcmp {G : zG} {X : zX} {M : zM} {d mc ms a b pc : Nat} {ls : List (Option Value)} {st : List Value} {I : zI} {J : Int64} {E : UInt64} (C : zOK G X M d mc ms) {x y : UInt32} {op : CmpOp} (hd : decode M.2.1 pc = .ok (.fcmp op, 1)) (k : SW G X a b (pc + 1) ls (.int (Op.cmpValue (FP.fcmp x y) op) :: st) I J E) : SW G X a b pc ls (.float y :: .float x :: st) I J E := by
  obtain ⟨p, l, e, R, s, m, args, below, meth, c, Q⟩ := X
  intro H locs arr hl hn hR hS
  exact lv_fcmp C.1 C.2.1 hd (k H locs arr hl hn hR hS)
theorem sw_lcmp {G : zG} {X : zX} {M : zM} {d mc ms a b pc : Nat} {ls : List (Option Value)} {st : List Value} {I : zI} {J : Int64} {E : UInt64} (C : zOK G X M d mc ms) {x y : Int64} (hd : decode M.2.1 pc = .ok (.lcmp, 1)) (k : SW G X a b (pc + 1) ls (.int (lg_cmp x y) :: st) I J E) : SW G X a b pc ls (.long y :: .long x :: st) I J E := by
  obtain ⟨p, l, e, R, s, m, args, below, meth, c, Q⟩ := X
  intro H locs arr hl hn hR hS
  exact W.lcmp C.1 C.2.1 hd (k H locs arr hl hn hR hS)
theorem sw_iconst {G : zG} {X : zX} {M : zM} {d mc ms a b pc : Nat} {ls : List (Option Value)} {st : List Value} {I : zI} {J : Int64} {E : UInt64} (C : zOK G X M d mc ms) {v : Int32} {n : Int} (hv : Int32.ofInt n = v) (hd : decode M.2.1 pc = .ok (.iconst n, 1)) (k : SW G X a b (pc + 1) ls (.int v :: st) I J E) : SW G X a b pc ls (st) I J E := by
  obtain ⟨p, l, e, R, s, m, args, below, meth, c, Q⟩ := X
  intro H locs arr hl hn hR hS
  exact lv_iconst C.1 C.2.1 hd hv (k H locs arr hl hn hR hS)
theorem sw_bipush {G : zG} {X : zX} {M : zM} {d mc ms a b pc : Nat} {ls : List (Option Value)} {st : List Value} {I : zI} {J : Int64} {E : UInt64} (C : zOK G X M d mc ms) {v : Int32} {n : Int} (hv : (Int8.ofInt n).toInt32 = v) (hd : decode M.2.1 pc = .ok (.bipush n, 2)) (k : SW G X a b (pc + 2) ls (.int v :: st) I J E) : SW G X a b pc ls (st) I J E := by
  obtain ⟨p, l, e, R, s, m, args, below, meth, c, Q⟩ := X
  intro H locs arr hl hn hR hS
  exact lv_bipush C.1 C.2.1 hd hv (k H locs arr hl hn hR hS)
theorem sw_sipush {G : zG} {X : zX} {M : zM} {d mc ms a b pc : Nat} {ls : List (Option Value)} {st : List Value} {I : zI} {J : Int64} {E : UInt64} (C : zOK G X M d mc ms) {v : Int32} {n : Int} (hv : (Int16.ofInt n).toInt32 = v) (hd : decode M.2.1 pc = .ok (.sipush n, 3)) (k : SW G X a b (pc + 3) ls (.int v :: st) I J E) : SW G X a b pc ls (st) I J E := by
  obtain ⟨p, l, e, R, s, m, args, below, meth, c, Q⟩ := X
  intro H locs arr hl hn hR hS
  exact lv_sipush C.1 C.2.1 hd hv (k H locs arr hl hn hR hS)
theorem sw_lconst {G : zG} {X : zX} {M : zM} {d mc ms a b pc : Nat} {ls : List (Option Value)} {st : List Value} {I : zI} {J : Int64} {E : UInt64} (C : zOK G X M d mc ms) {v : Int64} {n : Fin 2} (hv : Int64.ofNat (n : Nat) = v) (hd : decode M.2.1 pc = .ok (.lconst n, 1)) (k : SW G X a b (pc + 1) ls (.long v :: st) I J E) : SW G X a b pc ls (st) I J E := by
  obtain ⟨p, l, e, R, s, m, args, below, meth, c, Q⟩ := X
  intro H locs arr hl hn hR hS
  exact lv_lconst C.1 C.2.1 hd hv (k H locs arr hl hn hR hS)
theorem sw_fconst0 {G : zG} {X : zX} {M : zM} {d mc ms a b pc : Nat} {ls : List (Option Value)} {st : List Value} {I : zI} {J : Int64} {E : UInt64} (C : zOK G X M d mc ms)  (hd : decode M.2.1 pc = .ok (.fconst 0, 1)) (k : SW G X a b (pc + 1) ls (.float 0 :: st) I J E) : SW G X a b pc ls (st) I J E := by
  obtain ⟨p, l, e, R, s, m, args, below, meth, c, Q⟩ := X
  intro H locs arr hl hn hR hS
  exact lv_fconst0 C.1 C.2.1 hd (k H locs arr hl hn hR hS)
theorem sw_dconst0 {G : zG} {X : zX} {M : zM} {d mc ms a b pc : Nat} {ls : List (Option Value)} {st : List Value} {I : zI} {J : Int64} {E : UInt64} (C : zOK G X M d mc ms)  (hd : decode M.2.1 pc = .ok (.dconst 0, 1)) (k : SW G X a b (pc + 1) ls (.double 0 :: st) I J E) : SW G X a b pc ls (st) I J E := by
  obtain ⟨p, l, e, R, s, m, args, below, meth, c, Q⟩ := X
  intro H locs arr hl hn hR hS
  exact lv_dconst0 C.1 C.2.1 hd (k H locs arr hl hn hR hS)
theorem sw_dup {G : zG} {X : zX} {M : zM} {d mc ms a b pc : Nat} {ls : List (Option Value)} {st : List Value} {I : zI} {J : Int64} {E : UInt64} (C : zOK G X M d mc ms) {v : Value} (hv : v.category = 1) (hd : decode M.2.1 pc = .ok (.dup, 1)) (k : SW G X a b (pc + 1) ls (v :: v :: st) I J E) : SW G X a b pc ls (v :: st) I J E := by
  obtain ⟨p, l, e, R, s, m, args, below, meth, c, Q⟩ := X
  intro H locs arr hl hn hR hS
  exact lv_dup C.1 C.2.1 hd (by rw [zTr_cat]; exact hv) (k H locs arr hl hn hR hS)
theorem sw_dup_x1 {G : zG} {X : zX} {M : zM} {d mc ms a b pc : Nat} {ls : List (Option Value)} {st : List Value} {I : zI} {J : Int64} {E : UInt64} (C : zOK G X M d mc ms) {v w : Value} (hv : v.category = 1) (hw : w.category = 1) (hd : decode M.2.1 pc = .ok (.dup_x1, 1)) (k : SW G X a b (pc + 1) ls (v :: w :: v :: st) I J E) : SW G X a b pc ls (v :: w :: st) I J E := by
  obtain ⟨p, l, e, R, s, m, args, below, meth, c, Q⟩ := X
  intro H locs arr hl hn hR hS
  exact lv_dup_x1 C.1 C.2.1 hd (by rw [zTr_cat]; exact hv) (by rw [zTr_cat]; exact hw) (k H locs arr hl hn hR hS)
theorem sw_dup2 {G : zG} {X : zX} {M : zM} {d mc ms a b pc : Nat} {ls : List (Option Value)} {st : List Value} {I : zI} {J : Int64} {E : UInt64} (C : zOK G X M d mc ms) {v w : Value} (hv : v.category = 1) (hw : w.category = 1) (hd : decode M.2.1 pc = .ok (.dup2, 1)) (k : SW G X a b (pc + 1) ls (v :: w :: v :: w :: st) I J E) : SW G X a b pc ls (v :: w :: st) I J E := by
  obtain ⟨p, l, e, R, s, m, args, below, meth, c, Q⟩ := X
  intro H locs arr hl hn hR hS
  exact lv_dup2_11 C.1 C.2.1 hd (by rw [zTr_cat]; exact hv) (by rw [zTr_cat]; exact hw) (k H locs arr hl hn hR hS)
theorem sw_pop {G : zG} {X : zX} {M : zM} {d mc ms a b pc : Nat} {ls : List (Option Value)} {st : List Value} {I : zI} {J : Int64} {E : UInt64} (C : zOK G X M d mc ms) {v : Value} (hv : v.category = 1) (hd : decode M.2.1 pc = .ok (.pop, 1)) (k : SW G X a b (pc + 1) ls (st) I J E) : SW G X a b pc ls (v :: st) I J E := by
  obtain ⟨p, l, e, R, s, m, args, below, meth, c, Q⟩ := X
  intro H locs arr hl hn hR hS
  exact lv_pop C.1 C.2.1 hd (by rw [zTr_cat]; exact hv) (k H locs arr hl hn hR hS)
theorem sw_if_eq {G : zG} {X : zX} {M : zM} {d mc ms a b pc : Nat} {ls : List (Option Value)} {st : List Value} {I : zI} {J : Int64} {E : UInt64} (C : zOK G X M d mc ms) {x : Int32} {off : Int} (tgt : Nat) (hd : decode M.2.1 pc = .ok (.ifCond .eq off, 3)) (ht : (pc : Int) + off = (tgt : Int)) (kt : x = 0 → SW G X a b tgt ls st I J E) (kf : ¬ x = 0 → SW G X a b (pc + 3) ls st I J E) : SW G X a b pc ls (.int x :: st) I J E := by
  obtain ⟨p, l, e, R, s, m, args, below, meth, c, Q⟩ := X
  intro H locs arr hl hn hR hS
  exact lv_if_eq C.1 C.2.1 hd ht (fun h => kt h H locs arr hl hn hR hS) (fun h => kf h H locs arr hl hn hR hS)
theorem sw_if_ne {G : zG} {X : zX} {M : zM} {d mc ms a b pc : Nat} {ls : List (Option Value)} {st : List Value} {I : zI} {J : Int64} {E : UInt64} (C : zOK G X M d mc ms) {x : Int32} {off : Int} (tgt : Nat) (hd : decode M.2.1 pc = .ok (.ifCond .ne off, 3)) (ht : (pc : Int) + off = (tgt : Int)) (kt : ¬ x = 0 → SW G X a b tgt ls st I J E) (kf : x = 0 → SW G X a b (pc + 3) ls st I J E) : SW G X a b pc ls (.int x :: st) I J E := by
  obtain ⟨p, l, e, R, s, m, args, below, meth, c, Q⟩ := X
  intro H locs arr hl hn hR hS
  exact lv_if_ne C.1 C.2.1 hd ht (fun h => kt h H locs arr hl hn hR hS) (fun h => kf h H locs arr hl hn hR hS)
theorem sw_if_lt {G : zG} {X : zX} {M : zM} {d mc ms a b pc : Nat} {ls : List (Option Value)} {st : List Value} {I : zI} {J : Int64} {E : UInt64} (C : zOK G X M d mc ms) {x : Int32} {off : Int} (tgt : Nat) (hd : decode M.2.1 pc = .ok (.ifCond .lt off, 3)) (ht : (pc : Int) + off = (tgt : Int)) (kt : x < 0 → SW G X a b tgt ls st I J E) (kf : ¬ x < 0 → SW G X a b (pc + 3) ls st I J E) : SW G X a b pc ls (.int x :: st) I J E := by
  obtain ⟨p, l, e, R, s, m, args, below, meth, c, Q⟩ := X
  intro H locs arr hl hn hR hS
  exact lv_if_lt C.1 C.2.1 hd ht (fun h => kt h H locs arr hl hn hR hS) (fun h => kf h H locs arr hl hn hR hS)
theorem sw_if_ge {G : zG} {X : zX} {M : zM} {d mc ms a b pc : Nat} {ls : List (Option Value)} {st : List Value} {I : zI} {J : Int64} {E : UInt64} (C : zOK G X M d mc ms) {x : Int32} {off : Int} (tgt : Nat) (hd : decode M.2.1 pc = .ok (.ifCond .ge off, 3)) (ht : (pc : Int) + off = (tgt : Int)) (kt : 0 ≤ x → SW G X a b tgt ls st I J E) (kf : ¬ 0 ≤ x → SW G X a b (pc + 3) ls st I J E) : SW G X a b pc ls (.int x :: st) I J E := by
  obtain ⟨p, l, e, R, s, m, args, below, meth, c, Q⟩ := X
  intro H locs arr hl hn hR hS
  exact lv_if_ge C.1 C.2.1 hd ht (fun h => kt h H locs arr hl hn hR hS) (fun h => kf h H locs arr hl hn hR hS)
theorem sw_if_gt {G : zG} {X : zX} {M : zM} {d mc ms a b pc : Nat} {ls : List (Option Value)} {st : List Value} {I : zI} {J : Int64} {E : UInt64} (C : zOK G X M d mc ms) {x : Int32} {off : Int} (tgt : Nat) (hd : decode M.2.1 pc = .ok (.ifCond .gt off, 3)) (ht : (pc : Int) + off = (tgt : Int)) (kt : 0 < x → SW G X a b tgt ls st I J E) (kf : ¬ 0 < x → SW G X a b (pc + 3) ls st I J E) : SW G X a b pc ls (.int x :: st) I J E := by
  obtain ⟨p, l, e, R, s, m, args, below, meth, c, Q⟩ := X
  intro H locs arr hl hn hR hS
  exact lv_if_gt C.1 C.2.1 hd ht (fun h => kt h H locs arr hl hn hR hS) (fun h => kf h H locs arr hl hn hR hS)
theorem sw_if_le {G : zG} {X : zX} {M : zM} {d mc ms a b pc : Nat} {ls : List (Option Value)} {st : List Value} {I : zI} {J : Int64} {E : UInt64} (C : zOK G X M d mc ms) {x : Int32} {off : Int} (tgt : Nat) (hd : decode M.2.1 pc = .ok (.ifCond .le off, 3)) (ht : (pc : Int) + off = (tgt : Int)) (kt : x ≤ 0 → SW G X a b tgt ls st I J E) (kf : ¬ x ≤ 0 → SW G X a b (pc + 3) ls st I J E) : SW G X a b pc ls (.int x :: st) I J E := by
  obtain ⟨p, l, e, R, s, m, args, below, meth, c, Q⟩ := X
  intro H locs arr hl hn hR hS
  exact lv_if_le C.1 C.2.1 hd ht (fun h => kt h H locs arr hl hn hR hS) (fun h => kf h H locs arr hl hn hR hS)
theorem sw_icmp_eq {G : zG} {X : zX} {M : zM} {d mc ms a b pc : Nat} {ls : List (Option Value)} {st : List Value} {I : zI} {J : Int64} {E : UInt64} (C : zOK G X M d mc ms) {x y : Int32} {off : Int} (tgt : Nat) (hd : decode M.2.1 pc = .ok (.if_icmp .eq off, 3)) (ht : (pc : Int) + off = (tgt : Int)) (kt : x = y → SW G X a b tgt ls st I J E) (kf : ¬ x = y → SW G X a b (pc + 3) ls st I J E) : SW G X a b pc ls (.int y :: .int x :: st) I J E := by
  obtain ⟨p, l, e, R, s, m, args, below, meth, c, Q⟩ := X
  intro H locs arr hl hn hR hS
  exact lv_icmp_eq C.1 C.2.1 hd ht (fun h => kt h H locs arr hl hn hR hS) (fun h => kf h H locs arr hl hn hR hS)
theorem sw_icmp_ne {G : zG} {X : zX} {M : zM} {d mc ms a b pc : Nat} {ls : List (Option Value)} {st : List Value} {I : zI} {J : Int64} {E : UInt64} (C : zOK G X M d mc ms) {x y : Int32} {off : Int} (tgt : Nat) (hd : decode M.2.1 pc = .ok (.if_icmp .ne off, 3)) (ht : (pc : Int) + off = (tgt : Int)) (kt : ¬ x = y → SW G X a b tgt ls st I J E) (kf : x = y → SW G X a b (pc + 3) ls st I J E) : SW G X a b pc ls (.int y :: .int x :: st) I J E := by
  obtain ⟨p, l, e, R, s, m, args, below, meth, c, Q⟩ := X
  intro H locs arr hl hn hR hS
  exact lv_icmp_ne C.1 C.2.1 hd ht (fun h => kt h H locs arr hl hn hR hS) (fun h => kf h H locs arr hl hn hR hS)
theorem sw_icmp_lt {G : zG} {X : zX} {M : zM} {d mc ms a b pc : Nat} {ls : List (Option Value)} {st : List Value} {I : zI} {J : Int64} {E : UInt64} (C : zOK G X M d mc ms) {x y : Int32} {off : Int} (tgt : Nat) (hd : decode M.2.1 pc = .ok (.if_icmp .lt off, 3)) (ht : (pc : Int) + off = (tgt : Int)) (kt : x < y → SW G X a b tgt ls st I J E) (kf : ¬ x < y → SW G X a b (pc + 3) ls st I J E) : SW G X a b pc ls (.int y :: .int x :: st) I J E := by
  obtain ⟨p, l, e, R, s, m, args, below, meth, c, Q⟩ := X
  intro H locs arr hl hn hR hS
  exact lv_icmp_lt C.1 C.2.1 hd ht (fun h => kt h H locs arr hl hn hR hS) (fun h => kf h H locs arr hl hn hR hS)
theorem sw_icmp_ge {G : zG} {X : zX} {M : zM} {d mc ms a b pc : Nat} {ls : List (Option Value)} {st : List Value} {I : zI} {J : Int64} {E : UInt64} (C : zOK G X M d mc ms) {x y : Int32} {off : Int} (tgt : Nat) (hd : decode M.2.1 pc = .ok (.if_icmp .ge off, 3)) (ht : (pc : Int) + off = (tgt : Int)) (kt : y ≤ x → SW G X a b tgt ls st I J E) (kf : ¬ y ≤ x → SW G X a b (pc + 3) ls st I J E) : SW G X a b pc ls (.int y :: .int x :: st) I J E := by
  obtain ⟨p, l, e, R, s, m, args, below, meth, c, Q⟩ := X
  intro H locs arr hl hn hR hS
  exact lv_icmp_ge C.1 C.2.1 hd ht (fun h => kt h H locs arr hl hn hR hS) (fun h => kf h H locs arr hl hn hR hS)
theorem sw_icmp_gt {G : zG} {X : zX} {M : zM} {d mc ms a b pc : Nat} {ls : List (Option Value)} {st : List Value} {I : zI} {J : Int64} {E : UInt64} (C : zOK G X M d mc ms) {x y : Int32} {off : Int} (tgt : Nat) (hd : decode M.2.1 pc = .ok (.if_icmp .gt off, 3)) (ht : (pc : Int) + off = (tgt : Int)) (kt : y < x → SW G X a b tgt ls st I J E) (kf : ¬ y < x → SW G X a b (pc + 3) ls st I J E) : SW G X a b pc ls (.int y :: .int x :: st) I J E := by
  obtain ⟨p, l, e, R, s, m, args, below, meth, c, Q⟩ := X
  intro H locs arr hl hn hR hS
  exact lv_icmp_gt C.1 C.2.1 hd ht (fun h => kt h H locs arr hl hn hR hS) (fun h => kf h H locs arr hl hn hR hS)
theorem sw_icmp_le {G : zG} {X : zX} {M : zM} {d mc ms a b pc : Nat} {ls : List (Option Value)} {st : List Value} {I : zI} {J : Int64} {E : UInt64} (C : zOK G X M d mc ms) {x y : Int32} {off : Int} (tgt : Nat) (hd : decode M.2.1 pc = .ok (.if_icmp .le off, 3)) (ht : (pc : Int) + off = (tgt : Int)) (kt : x ≤ y → SW G X a b tgt ls st I J E) (kf : ¬ x ≤ y → SW G X a b (pc + 3) ls st I J E) : SW G X a b pc ls (.int y :: .int x :: st) I J E := by
  obtain ⟨p, l, e, R, s, m, args, below, meth, c, Q⟩ := X
  intro H locs arr hl hn hR hS
  exact lv_icmp_le C.1 C.2.1 hd ht (fun h => kt h H locs arr hl hn hR hS) (fun h => kf h H locs arr hl hn hR hS)
theorem sw_goto {G : zG} {X : zX} {M : zM} {d mc ms a b pc : Nat} {ls : List (Option Value)} {st : List Value} {I : zI} {J : Int64} {E : UInt64} (C : zOK G X M d mc ms) {off : Int} (tgt : Nat) (hd : decode M.2.1 pc = .ok (.goto off, 3)) (ht : (pc : Int) + off = (tgt : Int)) (k : SW G X a b tgt ls st I J E) : SW G X a b pc ls st I J E := by
  obtain ⟨p, l, e, R, s, m, args, below, meth, c, Q⟩ := X
  intro H locs arr hl hn hR hS
  exact lv_goto C.1 C.2.1 hd ht (k H locs arr hl hn hR hS)
theorem sw_tableIn {G : zG} {X : zX} {M : zM} {d mc ms a b pc : Nat} {ls : List (Option Value)} {st : List Value} {I : zI} {J : Int64} {E : UInt64} (C : zOK G X M d mc ms) {dflt lo hi : Int} {offs : Array Int} {len : Nat} {x : Int32} {off : Int} (tgt : Nat) (hd : decode M.2.1 pc = .ok (.tableswitch dflt lo hi offs, len)) (h1 : ¬ x.toInt < lo) (h2 : ¬ hi < x.toInt) (ho : offs[(x.toInt - lo).toNat]? = some off) (ht : (pc : Int) + off = (tgt : Int)) (k : SW G X a b tgt ls st I J E) : SW G X a b pc ls (.int x :: st) I J E := by
  obtain ⟨p, l, e, R, s, m, args, below, meth, c, Q⟩ := X
  intro H locs arr hl hn hR hS
  exact lv_tableIn C.1 C.2.1 hd h1 h2 ho ht (k H locs arr hl hn hR hS)
theorem sw_tableOut {G : zG} {X : zX} {M : zM} {d mc ms a b pc : Nat} {ls : List (Option Value)} {st : List Value} {I : zI} {J : Int64} {E : UInt64} (C : zOK G X M d mc ms) {dflt lo hi : Int} {offs : Array Int} {len : Nat} {x : Int32} (tgt : Nat) (hd : decode M.2.1 pc = .ok (.tableswitch dflt lo hi offs, len)) (h : x.toInt < lo ∨ hi < x.toInt) (ht : (pc : Int) + dflt = (tgt : Int)) (k : SW G X a b tgt ls st I J E) : SW G X a b pc ls (.int x :: st) I J E := by
  obtain ⟨p, l, e, R, s, m, args, below, meth, c, Q⟩ := X
  intro H locs arr hl hn hR hS
  exact lv_tableOut C.1 C.2.1 hd h ht (k H locs arr hl hn hR hS)
theorem sw_iload_0 {G : zG} {X : zX} {M : zM} {d mc ms a b pc : Nat} {lt : List (Option Value)} {st : List Value} {I : zI} {J : Int64} {E : UInt64} (C : zOK G X M d mc ms) {x : Int32} (hd : decode M.2.1 pc = .ok (.iload_n 0, 1)) (k : SW G X a b (pc + 1) (some (.int x) :: lt) (.int x :: st) I J E) : SW G X a b pc (some (.int x) :: lt) st I J E := by
  obtain ⟨p, l, e, R, s, m, args, below, meth, c, Q⟩ := X
  intro H locs arr hl hn hR hS
  exact lv_iload_n C.1 C.2.1 (i := 0) hd rfl (hl.2.2 0 _ rfl) (k H locs arr hl hn hR hS)
theorem sw_aload_0 {G : zG} {X : zX} {M : zM} {d mc ms a b pc : Nat} {lt : List (Option Value)} {st : List Value} {I : zI} {J : Int64} {E : UInt64} (C : zOK G X M d mc ms) {x : Nat} (hd : decode M.2.1 pc = .ok (.aload_n 0, 1)) (k : SW G X a b (pc + 1) (some (.ref x) :: lt) (.ref x :: st) I J E) : SW G X a b pc (some (.ref x) :: lt) st I J E := by
  obtain ⟨p, l, e, R, s, m, args, below, meth, c, Q⟩ := X
  intro H locs arr hl hn hR hS
  exact lv_aload_n C.1 C.2.1 (i := 0) hd rfl (hl.2.2 0 _ rfl) (k H locs arr hl hn hR hS)
theorem sw_istore_0 {G : zG} {X : zX} {M : zM} {d mc ms a b pc : Nat} {lt : List (Option Value)} {st : List Value} {I : zI} {J : Int64} {E : UInt64} (C : zOK G X M d mc ms) {w : Option Value} {x : Int32} (hd : decode M.2.1 pc = .ok (.istore_n 0, 1)) (k : SW G X a b (pc + 1) (some (.int x) :: lt) st I J E) : SW G X a b pc (w :: lt) (.int x :: st) I J E := by
  obtain ⟨p, l, e, R, s, m, args, below, meth, c, Q⟩ := X
  intro H locs arr hl hn hR hS
  refine lv_istore_n C.1 C.2.1 (i := 0) hd rfl (lv := zAl G.2.2.1 (w :: lt)) (zHas.has hl) (by simp) rfl (fun ls h => ?_)
  exact k H locs ls (zHas.set (i := 0) (v := .int x) h hl.1 (by simp) (by simp)) hn hR hS
theorem sw_astore_0 {G : zG} {X : zX} {M : zM} {d mc ms a b pc : Nat} {lt : List (Option Value)} {st : List Value} {I : zI} {J : Int64} {E : UInt64} (C : zOK G X M d mc ms) {w : Option Value} {x : Nat} (hd : decode M.2.1 pc = .ok (.astore_n 0, 1)) (k : SW G X a b (pc + 1) (some (.ref x) :: lt) st I J E) : SW G X a b pc (w :: lt) (.ref x :: st) I J E := by
  obtain ⟨p, l, e, R, s, m, args, below, meth, c, Q⟩ := X
  intro H locs arr hl hn hR hS
  refine lv_astore_n C.1 C.2.1 (i := 0) hd rfl (lv := zAl G.2.2.1 (w :: lt)) (zHas.has hl) (by simp) rfl (fun ls h => ?_)
  exact k H locs ls (zHas.set (i := 0) (v := .ref x) h hl.1 (by simp) (by simp)) hn hR hS
theorem sw_iinc_0 {G : zG} {X : zX} {M : zM} {d mc ms a b pc : Nat} {lt : List (Option Value)} {st : List Value} {I : zI} {J : Int64} {E : UInt64} (C : zOK G X M d mc ms) {x v : Int32} {n : Int} (hv : x + Int32.ofInt n = v) (hd : decode M.2.1 pc = .ok (.iinc 0 n, 3)) (k : SW G X a b (pc + 3) (some (.int v) :: lt) st I J E) : SW G X a b pc (some (.int x) :: lt) st I J E := by
  obtain ⟨p, l, e, R, s, m, args, below, meth, c, Q⟩ := X
  intro H locs arr hl hn hR hS
  obtain ⟨q, hq⟩ := List.getElem?_of_mem (zAl.mem (φ := G.2.2.1) (ls := some (.int x) :: lt) (i := 0) rfl)
  refine lv_iinc C.1 C.2.1 (i := 0) hd (lv := zAl G.2.2.1 (some (.int x) :: lt)) (zHas.has hl) hq hv (by simp) rfl (fun ls h => ?_)
  exact k H locs ls (zHas.set (i := 0) (v := .int v) h hl.1 (by simp) (by simp)) hn hR hS
theorem sw_iload_1 {G : zG} {X : zX} {M : zM} {d mc ms a b pc : Nat} {lt : List (Option Value)} {st : List Value} {I : zI} {J : Int64} {E : UInt64} (C : zOK G X M d mc ms) {u0 : Option Value} {x : Int32} (hd : decode M.2.1 pc = .ok (.iload_n 1, 1)) (k : SW G X a b (pc + 1) (u0 :: some (.int x) :: lt) (.int x :: st) I J E) : SW G X a b pc (u0 :: some (.int x) :: lt) st I J E := by
  obtain ⟨p, l, e, R, s, m, args, below, meth, c, Q⟩ := X
  intro H locs arr hl hn hR hS
  exact lv_iload_n C.1 C.2.1 (i := 1) hd rfl (hl.2.2 1 _ rfl) (k H locs arr hl hn hR hS)
theorem sw_aload_1 {G : zG} {X : zX} {M : zM} {d mc ms a b pc : Nat} {lt : List (Option Value)} {st : List Value} {I : zI} {J : Int64} {E : UInt64} (C : zOK G X M d mc ms) {u0 : Option Value} {x : Nat} (hd : decode M.2.1 pc = .ok (.aload_n 1, 1)) (k : SW G X a b (pc + 1) (u0 :: some (.ref x) :: lt) (.ref x :: st) I J E) : SW G X a b pc (u0 :: some (.ref x) :: lt) st I J E := by
  obtain ⟨p, l, e, R, s, m, args, below, meth, c, Q⟩ := X
  intro H locs arr hl hn hR hS
  exact lv_aload_n C.1 C.2.1 (i := 1) hd rfl (hl.2.2 1 _ rfl) (k H locs arr hl hn hR hS)
theorem sw_istore_1 {G : zG} {X : zX} {M : zM} {d mc ms a b pc : Nat} {lt : List (Option Value)} {st : List Value} {I : zI} {J : Int64} {E : UInt64} (C : zOK G X M d mc ms) {u0 : Option Value} {w : Option Value} {x : Int32} (hu : zC1 u0 = true) (hd : decode M.2.1 pc = .ok (.istore_n 1, 1)) (k : SW G X a b (pc + 1) (u0 :: some (.int x) :: lt) st I J E) : SW G X a b pc (u0 :: w :: lt) (.int x :: st) I J E := by
  obtain ⟨p, l, e, R, s, m, args, below, meth, c, Q⟩ := X
  intro H locs arr hl hn hR hS
  refine lv_istore_n C.1 C.2.1 (i := 1) hd rfl (lv := zAl G.2.2.1 (u0 :: w :: lt)) (zHas.has hl) (by simp) rfl (fun ls h => ?_)
  exact k H locs ls (zHas.set (i := 1) (v := .int x) h hl.1 (by simp) (fun u hu2 => by cases hu2; exact hu)) hn hR hS
theorem sw_astore_1 {G : zG} {X : zX} {M : zM} {d mc ms a b pc : Nat} {lt : List (Option Value)} {st : List Value} {I : zI} {J : Int64} {E : UInt64} (C : zOK G X M d mc ms) {u0 : Option Value} {w : Option Value} {x : Nat} (hu : zC1 u0 = true) (hd : decode M.2.1 pc = .ok (.astore_n 1, 1)) (k : SW G X a b (pc + 1) (u0 :: some (.ref x) :: lt) st I J E) : SW G X a b pc (u0 :: w :: lt) (.ref x :: st) I J E := by
  obtain ⟨p, l, e, R, s, m, args, below, meth, c, Q⟩ := X
  intro H locs arr hl hn hR hS
  refine lv_astore_n C.1 C.2.1 (i := 1) hd rfl (lv := zAl G.2.2.1 (u0 :: w :: lt)) (zHas.has hl) (by simp) rfl (fun ls h => ?_)
  exact k H locs ls (zHas.set (i := 1) (v := .ref x) h hl.1 (by simp) (fun u hu2 => by cases hu2; exact hu)) hn hR hS
theorem sw_iinc_1 {G : zG} {X : zX} {M : zM} {d mc ms a b pc : Nat} {lt : List (Option Value)} {st : List Value} {I : zI} {J : Int64} {E : UInt64} (C : zOK G X M d mc ms) {u0 : Option Value} {x v : Int32} {n : Int} (hu : zC1 u0 = true) (hv : x + Int32.ofInt n = v) (hd : decode M.2.1 pc = .ok (.iinc 1 n, 3)) (k : SW G X a b (pc + 3) (u0 :: some (.int v) :: lt) st I J E) : SW G X a b pc (u0 :: some (.int x) :: lt) st I J E := by
  obtain ⟨p, l, e, R, s, m, args, below, meth, c, Q⟩ := X
  intro H locs arr hl hn hR hS
  obtain ⟨q, hq⟩ := List.getElem?_of_mem (zAl.mem (φ := G.2.2.1) (ls := u0 :: some (.int x) :: lt) (i := 1) rfl)
  refine lv_iinc C.1 C.2.1 (i := 1) hd (lv := zAl G.2.2.1 (u0 :: some (.int x) :: lt)) (zHas.has hl) hq hv (by simp) rfl (fun ls h => ?_)
  exact k H locs ls (zHas.set (i := 1) (v := .int v) h hl.1 (by simp) (fun u hu2 => by cases hu2; exact hu)) hn hR hS
theorem sw_iload_2 {G : zG} {X : zX} {M : zM} {d mc ms a b pc : Nat} {lt : List (Option Value)} {st : List Value} {I : zI} {J : Int64} {E : UInt64} (C : zOK G X M d mc ms) {u0 u1 : Option Value} {x : Int32} (hd : decode M.2.1 pc = .ok (.iload_n 2, 1)) (k : SW G X a b (pc + 1) (u0 :: u1 :: some (.int x) :: lt) (.int x :: st) I J E) : SW G X a b pc (u0 :: u1 :: some (.int x) :: lt) st I J E := by
  obtain ⟨p, l, e, R, s, m, args, below, meth, c, Q⟩ := X
  intro H locs arr hl hn hR hS
  exact lv_iload_n C.1 C.2.1 (i := 2) hd rfl (hl.2.2 2 _ rfl) (k H locs arr hl hn hR hS)
theorem sw_aload_2 {G : zG} {X : zX} {M : zM} {d mc ms a b pc : Nat} {lt : List (Option Value)} {st : List Value} {I : zI} {J : Int64} {E : UInt64} (C : zOK G X M d mc ms) {u0 u1 : Option Value} {x : Nat} (hd : decode M.2.1 pc = .ok (.aload_n 2, 1)) (k : SW G X a b (pc + 1) (u0 :: u1 :: some (.ref x) :: lt) (.ref x :: st) I J E) : SW G X a b pc (u0 :: u1 :: some (.ref x) :: lt) st I J E := by
  obtain ⟨p, l, e, R, s, m, args, below, meth, c, Q⟩ := X
  intro H locs arr hl hn hR hS
  exact lv_aload_n C.1 C.2.1 (i := 2) hd rfl (hl.2.2 2 _ rfl) (k H locs arr hl hn hR hS)
theorem sw_fload_2 {G : zG} {X : zX} {M : zM} {d mc ms a b pc : Nat} {lt : List (Option Value)} {st : List Value} {I : zI} {J : Int64} {E : UInt64} (C : zOK G X M d mc ms) {u0 u1 : Option Value} {x : UInt32} (hd : decode M.2.1 pc = .ok (.fload 2, 2)) (k : SW G X a b (pc + 2) (u0 :: u1 :: some (.float x) :: lt) (.float x :: st) I J E) : SW G X a b pc (u0 :: u1 :: some (.float x) :: lt) st I J E := by
  obtain ⟨p, l, e, R, s, m, args, below, meth, c, Q⟩ := X
  intro H locs arr hl hn hR hS
  exact lv_fload C.1 C.2.1 (i := 2) hd (hl.2.2 2 _ rfl) (k H locs arr hl hn hR hS)
theorem sw_dload_2 {G : zG} {X : zX} {M : zM} {d mc ms a b pc : Nat} {lt : List (Option Value)} {st : List Value} {I : zI} {J : Int64} {E : UInt64} (C : zOK G X M d mc ms) {u0 u1 : Option Value} {x : UInt64} (hd : decode M.2.1 pc = .ok (.dload 2, 2)) (k : SW G X a b (pc + 2) (u0 :: u1 :: some (.double x) :: lt) (.double x :: st) I J E) : SW G X a b pc (u0 :: u1 :: some (.double x) :: lt) st I J E := by
  obtain ⟨p, l, e, R, s, m, args, below, meth, c, Q⟩ := X
  intro H locs arr hl hn hR hS
  exact lv_dload C.1 C.2.1 (i := 2) hd (hl.2.2 2 _ rfl) (k H locs arr hl hn hR hS)
theorem sw_istore_2 {G : zG} {X : zX} {M : zM} {d mc ms a b pc : Nat} {lt : List (Option Value)} {st : List Value} {I : zI} {J : Int64} {E : UInt64} (C : zOK G X M d mc ms) {u0 u1 : Option Value} {w : Option Value} {x : Int32} (hu : zC1 u1 = true) (hd : decode M.2.1 pc = .ok (.istore_n 2, 1)) (k : SW G X a b (pc + 1) (u0 :: u1 :: some (.int x) :: lt) st I J E) : SW G X a b pc (u0 :: u1 :: w :: lt) (.int x :: st) I J E := by
  obtain ⟨p, l, e, R, s, m, args, below, meth, c, Q⟩ := X
  intro H locs arr hl hn hR hS
  refine lv_istore_n C.1 C.2.1 (i := 2) hd rfl (lv := zAl G.2.2.1 (u0 :: u1 :: w :: lt)) (zHas.has hl) (by simp) rfl (fun ls h => ?_)
  exact k H locs ls (zHas.set (i := 2) (v := .int x) h hl.1 (by simp) (fun u hu2 => by cases hu2; exact hu)) hn hR hS
theorem sw_astore_2 {G : zG} {X : zX} {M : zM} {d mc ms a b pc : Nat} {lt : List (Option Value)} {st : List Value} {I : zI} {J : Int64} {E : UInt64} (C : zOK G X M d mc ms) {u0 u1 : Option Value} {w : Option Value} {x : Nat} (hu : zC1 u1 = true) (hd : decode M.2.1 pc = .ok (.astore_n 2, 1)) (k : SW G X a b (pc + 1) (u0 :: u1 :: some (.ref x) :: lt) st I J E) : SW G X a b pc (u0 :: u1 :: w :: lt) (.ref x :: st) I J E := by
  obtain ⟨p, l, e, R, s, m, args, below, meth, c, Q⟩ := X
  intro H locs arr hl hn hR hS
  refine lv_astore_n C.1 C.2.1 (i := 2) hd rfl (lv := zAl G.2.2.1 (u0 :: u1 :: w :: lt)) (zHas.has hl) (by simp) rfl (fun ls h => ?_)
  exact k H locs ls (zHas.set (i := 2) (v := .ref x) h hl.1 (by simp) (fun u hu2 => by cases hu2; exact hu)) hn hR hS
theorem sw_fstore_2 {G : zG} {X : zX} {M : zM} {d mc ms a b pc : Nat} {lt : List (Option Value)} {st : List Value} {I : zI} {J : Int64} {E : UInt64} (C : zOK G X M d mc ms) {u0 u1 : Option Value} {w : Option Value} {x : UInt32} (hu : zC1 u1 = true) (hd : decode M.2.1 pc = .ok (.fstore 2, 2)) (k : SW G X a b (pc + 2) (u0 :: u1 :: some (.float x) :: lt) st I J E) : SW G X a b pc (u0 :: u1 :: w :: lt) (.float x :: st) I J E := by
  obtain ⟨p, l, e, R, s, m, args, below, meth, c, Q⟩ := X
  intro H locs arr hl hn hR hS
  refine lv_fstore C.1 C.2.1 (i := 2) hd (lv := zAl G.2.2.1 (u0 :: u1 :: w :: lt)) (zHas.has hl) (by simp) rfl (fun ls h => ?_)
  exact k H locs ls (zHas.set (i := 2) (v := .float x) h hl.1 (by simp) (fun u hu2 => by cases hu2; exact hu)) hn hR hS
theorem sw_iinc_2 {G : zG} {X : zX} {M : zM} {d mc ms a b pc : Nat} {lt : List (Option Value)} {st : List Value} {I : zI} {J : Int64} {E : UInt64} (C : zOK G X M d mc ms) {u0 u1 : Option Value} {x v : Int32} {n : Int} (hu : zC1 u1 = true) (hv : x + Int32.ofInt n = v) (hd : decode M.2.1 pc = .ok (.iinc 2 n, 3)) (k : SW G X a b (pc + 3) (u0 :: u1 :: some (.int v) :: lt) st I J E) : SW G X a b pc (u0 :: u1 :: some (.int x) :: lt) st I J E := by
  obtain ⟨p, l, e, R, s, m, args, below, meth, c, Q⟩ := X
  intro H locs arr hl hn hR hS
  obtain ⟨q, hq⟩ := List.getElem?_of_mem (zAl.mem (φ := G.2.2.1) (ls := u0 :: u1 :: some (.int x) :: lt) (i := 2) rfl)
  refine lv_iinc C.1 C.2.1 (i := 2) hd (lv := zAl G.2.2.1 (u0 :: u1 :: some (.int x) :: lt)) (zHas.has hl) hq hv (by simp) rfl (fun ls h => ?_)
  exact k H locs ls (zHas.set (i := 2) (v := .int v) h hl.1 (by simp) (fun u hu2 => by cases hu2; exact hu)) hn hR hS
theorem sw_iload_3 {G : zG} {X : zX} {M : zM} {d mc ms a b pc : Nat} {lt : List (Option Value)} {st : List Value} {I : zI} {J : Int64} {E : UInt64} (C : zOK G X M d mc ms) {u0 u1 u2 : Option Value} {x : Int32} (hd : decode M.2.1 pc = .ok (.iload_n 3, 1)) (k : SW G X a b (pc + 1) (u0 :: u1 :: u2 :: some (.int x) :: lt) (.int x :: st) I J E) : SW G X a b pc (u0 :: u1 :: u2 :: some (.int x) :: lt) st I J E := by
  obtain ⟨p, l, e, R, s, m, args, below, meth, c, Q⟩ := X
  intro H locs arr hl hn hR hS
  exact lv_iload_n C.1 C.2.1 (i := 3) hd rfl (hl.2.2 3 _ rfl) (k H locs arr hl hn hR hS)
theorem sw_aload_3 {G : zG} {X : zX} {M : zM} {d mc ms a b pc : Nat} {lt : List (Option Value)} {st : List Value} {I : zI} {J : Int64} {E : UInt64} (C : zOK G X M d mc ms) {u0 u1 u2 : Option Value} {x : Nat} (hd : decode M.2.1 pc = .ok (.aload_n 3, 1)) (k : SW G X a b (pc + 1) (u0 :: u1 :: u2 :: some (.ref x) :: lt) (.ref x :: st) I J E) : SW G X a b pc (u0 :: u1 :: u2 :: some (.ref x) :: lt) st I J E := by
  obtain ⟨p, l, e, R, s, m, args, below, meth, c, Q⟩ := X
  intro H locs arr hl hn hR hS
  exact lv_aload_n C.1 C.2.1 (i := 3) hd rfl (hl.2.2 3 _ rfl) (k H locs arr hl hn hR hS)
theorem sw_fload_3 {G : zG} {X : zX} {M : zM} {d mc ms a b pc : Nat} {lt : List (Option Value)} {st : List Value} {I : zI} {J : Int64} {E : UInt64} (C : zOK G X M d mc ms) {u0 u1 u2 : Option Value} {x : UInt32} (hd : decode M.2.1 pc = .ok (.fload 3, 2)) (k : SW G X a b (pc + 2) (u0 :: u1 :: u2 :: some (.float x) :: lt) (.float x :: st) I J E) : SW G X a b pc (u0 :: u1 :: u2 :: some (.float x) :: lt) st I J E := by
  obtain ⟨p, l, e, R, s, m, args, below, meth, c, Q⟩ := X
  intro H locs arr hl hn hR hS
  exact lv_fload C.1 C.2.1 (i := 3) hd (hl.2.2 3 _ rfl) (k H locs arr hl hn hR hS)
theorem sw_dload_3 {G : zG} {X : zX} {M : zM} {d mc ms a b pc : Nat} {lt : List (Option Value)} {st : List Value} {I : zI} {J : Int64} {E : UInt64} (C : zOK G X M d mc ms) {u0 u1 u2 : Option Value} {x : UInt64} (hd : decode M.2.1 pc = .ok (.dload 3, 2)) (k : SW G X a b (pc + 2) (u0 :: u1 :: u2 :: some (.double x) :: lt) (.double x :: st) I J E) : SW G X a b pc (u0 :: u1 :: u2 :: some (.double x) :: lt) st I J E := by
  obtain ⟨p, l, e, R, s, m, args, below, meth, c, Q⟩ := X
  intro H locs arr hl hn hR hS
  exact lv_dload C.1 C.2.1 (i := 3) hd (hl.2.2 3 _ rfl) (k H locs arr hl hn hR hS)
theorem sw_istore_3 {G : zG} {X : zX} {M : zM} {d mc ms a b pc : Nat} {lt : List (Option Value)} {st : List Value} {I : zI} {J : Int64} {E : UInt64} (C : zOK G X M d mc ms) {u0 u1 u2 : Option Value} {w : Option Value} {x : Int32} (hu : zC1 u2 = true) (hd : decode M.2.1 pc = .ok (.istore_n 3, 1)) (k : SW G X a b (pc + 1) (u0 :: u1 :: u2 :: some (.int x) :: lt) st I J E) : SW G X a b pc (u0 :: u1 :: u2 :: w :: lt) (.int x :: st) I J E := by
  obtain ⟨p, l, e, R, s, m, args, below, meth, c, Q⟩ := X
  intro H locs arr hl hn hR hS
  refine lv_istore_n C.1 C.2.1 (i := 3) hd rfl (lv := zAl G.2.2.1 (u0 :: u1 :: u2 :: w :: lt)) (zHas.has hl) (by simp) rfl (fun ls h => ?_)
  exact k H locs ls (zHas.set (i := 3) (v := .int x) h hl.1 (by simp) (fun u hu2 => by cases hu2; exact hu)) hn hR hS
theorem sw_astore_3 {G : zG} {X : zX} {M : zM} {d mc ms a b pc : Nat} {lt : List (Option Value)} {st : List Value} {I : zI} {J : Int64} {E : UInt64} (C : zOK G X M d mc ms) {u0 u1 u2 : Option Value} {w : Option Value} {x : Nat} (hu : zC1 u2 = true) (hd : decode M.2.1 pc = .ok (.astore_n 3, 1)) (k : SW G X a b (pc + 1) (u0 :: u1 :: u2 :: some (.ref x) :: lt) st I J E) : SW G X a b pc (u0 :: u1 :: u2 :: w :: lt) (.ref x :: st) I J E := by
  obtain ⟨p, l, e, R, s, m, args, below, meth, c, Q⟩ := X
  intro H locs arr hl hn hR hS
  refine lv_astore_n C.1 C.2.1 (i := 3) hd rfl (lv := zAl G.2.2.1 (u0 :: u1 :: u2 :: w :: lt)) (zHas.has hl) (by simp) rfl (fun ls h => ?_)
  exact k H locs ls (zHas.set (i := 3) (v := .ref x) h hl.1 (by simp) (fun u hu2 => by cases hu2; exact hu)) hn hR hS
theorem sw_fstore_3 {G : zG} {X : zX} {M : zM} {d mc ms a b pc : Nat} {lt : List (Option Value)} {st : List Value} {I : zI} {J : Int64} {E : UInt64} (C : zOK G X M d mc ms) {u0 u1 u2 : Option Value} {w : Option Value} {x : UInt32} (hu : zC1 u2 = true) (hd : decode M.2.1 pc = .ok (.fstore 3, 2)) (k : SW G X a b (pc + 2) (u0 :: u1 :: u2 :: some (.float x) :: lt) st I J E) : SW G X a b pc (u0 :: u1 :: u2 :: w :: lt) (.float x :: st) I J E := by
  obtain ⟨p, l, e, R, s, m, args, below, meth, c, Q⟩ := X
  intro H locs arr hl hn hR hS
  refine lv_fstore C.1 C.2.1 (i := 3) hd (lv := zAl G.2.2.1 (u0 :: u1 :: u2 :: w :: lt)) (zHas.has hl) (by simp) rfl (fun ls h => ?_)
  exact k H locs ls (zHas.set (i := 3) (v := .float x) h hl.1 (by simp) (fun u hu2 => by cases hu2; exact hu)) hn hR hS
theorem sw_iinc_3 {G : zG} {X : zX} {M : zM} {d mc ms a b pc : Nat} {lt : List (Option Value)} {st : List Value} {I : zI} {J : Int64} {E : UInt64} (C : zOK G X M d mc ms) {u0 u1 u2 : Option Value} {x v : Int32} {n : Int} (hu : zC1 u2 = true) (hv : x + Int32.ofInt n = v) (hd : decode M.2.1 pc = .ok (.iinc 3 n, 3)) (k : SW G X a b (pc + 3) (u0 :: u1 :: u2 :: some (.int v) :: lt) st I J E) : SW G X a b pc (u0 :: u1 :: u2 :: some (.int x) :: lt) st I J E := by
  obtain ⟨p, l, e, R, s, m, args, below, meth, c, Q⟩ := X
  intro H locs arr hl hn hR hS
  obtain ⟨q, hq⟩ := List.getElem?_of_mem (zAl.mem (φ := G.2.2.1) (ls := u0 :: u1 :: u2 :: some (.int x) :: lt) (i := 3) rfl)
  refine lv_iinc C.1 C.2.1 (i := 3) hd (lv := zAl G.2.2.1 (u0 :: u1 :: u2 :: some (.int x) :: lt)) (zHas.has hl) hq hv (by simp) rfl (fun ls h => ?_)
  exact k H locs ls (zHas.set (i := 3) (v := .int v) h hl.1 (by simp) (fun u hu2 => by cases hu2; exact hu)) hn hR hS
theorem sw_iload_4 {G : zG} {X : zX} {M : zM} {d mc ms a b pc : Nat} {lt : List (Option Value)} {st : List Value} {I : zI} {J : Int64} {E : UInt64} (C : zOK G X M d mc ms) {u0 u1 u2 u3 : Option Value} {x : Int32} (hd : decode M.2.1 pc = .ok (.iload 4, 2)) (k : SW G X a b (pc + 2) (u0 :: u1 :: u2 :: u3 :: some (.int x) :: lt) (.int x :: st) I J E) : SW G X a b pc (u0 :: u1 :: u2 :: u3 :: some (.int x) :: lt) st I J E := by
  obtain ⟨p, l, e, R, s, m, args, below, meth, c, Q⟩ := X
  intro H locs arr hl hn hR hS
  exact lv_iload C.1 C.2.1 (i := 4) hd (hl.2.2 4 _ rfl) (k H locs arr hl hn hR hS)
theorem sw_aload_4 {G : zG} {X : zX} {M : zM} {d mc ms a b pc : Nat} {lt : List (Option Value)} {st : List Value} {I : zI} {J : Int64} {E : UInt64} (C : zOK G X M d mc ms) {u0 u1 u2 u3 : Option Value} {x : Nat} (hd : decode M.2.1 pc = .ok (.aload 4, 2)) (k : SW G X a b (pc + 2) (u0 :: u1 :: u2 :: u3 :: some (.ref x) :: lt) (.ref x :: st) I J E) : SW G X a b pc (u0 :: u1 :: u2 :: u3 :: some (.ref x) :: lt) st I J E := by
  obtain ⟨p, l, e, R, s, m, args, below, meth, c, Q⟩ := X
  intro H locs arr hl hn hR hS
  exact lv_aload C.1 C.2.1 (i := 4) hd (hl.2.2 4 _ rfl) (k H locs arr hl hn hR hS)
theorem sw_fload_4 {G : zG} {X : zX} {M : zM} {d mc ms a b pc : Nat} {lt : List (Option Value)} {st : List Value} {I : zI} {J : Int64} {E : UInt64} (C : zOK G X M d mc ms) {u0 u1 u2 u3 : Option Value} {x : UInt32} (hd : decode M.2.1 pc = .ok (.fload 4, 2)) (k : SW G X a b (pc + 2) (u0 :: u1 :: u2 :: u3 :: some (.float x) :: lt) (.float x :: st) I J E) : SW G X a b pc (u0 :: u1 :: u2 :: u3 :: some (.float x) :: lt) st I J E := by
  obtain ⟨p, l, e, R, s, m, args, below, meth, c, Q⟩ := X
  intro H locs arr hl hn hR hS
  exact lv_fload C.1 C.2.1 (i := 4) hd (hl.2.2 4 _ rfl) (k H locs arr hl hn hR hS)
theorem sw_dload_4 {G : zG} {X : zX} {M : zM} {d mc ms a b pc : Nat} {lt : List (Option Value)} {st : List Value} {I : zI} {J : Int64} {E : UInt64} (C : zOK G X M d mc ms) {u0 u1 u2 u3 : Option Value} {x : UInt64} (hd : decode M.2.1 pc = .ok (.dload 4, 2)) (k : SW G X a b (pc + 2) (u0 :: u1 :: u2 :: u3 :: some (.double x) :: lt) (.double x :: st) I J E) : SW G X a b pc (u0 :: u1 :: u2 :: u3 :: some (.double x) :: lt) st I J E := by
  obtain ⟨p, l, e, R, s, m, args, below, meth, c, Q⟩ := X
  intro H locs arr hl hn hR hS
  exact lv_dload C.1 C.2.1 (i := 4) hd (hl.2.2 4 _ rfl) (k H locs arr hl hn hR hS)
theorem sw_istore_4 {G : zG} {X : zX} {M : zM} {d mc ms a b pc : Nat} {lt : List (Option Value)} {st : List Value} {I : zI} {J : Int64} {E : UInt64} (C : zOK G X M d mc ms) {u0 u1 u2 u3 : Option Value} {w : Option Value} {x : Int32} (hu : zC1 u3 = true) (hd : decode M.2.1 pc = .ok (.istore 4, 2)) (k : SW G X a b (pc + 2) (u0 :: u1 :: u2 :: u3 :: some (.int x) :: lt) st I J E) : SW G X a b pc (u0 :: u1 :: u2 :: u3 :: w :: lt) (.int x :: st) I J E := by
  obtain ⟨p, l, e, R, s, m, args, below, meth, c, Q⟩ := X
  intro H locs arr hl hn hR hS
  refine lv_istore C.1 C.2.1 (i := 4) hd (lv := zAl G.2.2.1 (u0 :: u1 :: u2 :: u3 :: w :: lt)) (zHas.has hl) (by simp) rfl (fun ls h => ?_)
  exact k H locs ls (zHas.set (i := 4) (v := .int x) h hl.1 (by simp) (fun u hu2 => by cases hu2; exact hu)) hn hR hS
theorem sw_astore_4 {G : zG} {X : zX} {M : zM} {d mc ms a b pc : Nat} {lt : List (Option Value)} {st : List Value} {I : zI} {J : Int64} {E : UInt64} (C : zOK G X M d mc ms) {u0 u1 u2 u3 : Option Value} {w : Option Value} {x : Nat} (hu : zC1 u3 = true) (hd : decode M.2.1 pc = .ok (.astore 4, 2)) (k : SW G X a b (pc + 2) (u0 :: u1 :: u2 :: u3 :: some (.ref x) :: lt) st I J E) : SW G X a b pc (u0 :: u1 :: u2 :: u3 :: w :: lt) (.ref x :: st) I J E := by
  obtain ⟨p, l, e, R, s, m, args, below, meth, c, Q⟩ := X
  intro H locs arr hl hn hR hS
  refine lv_astore C.1 C.2.1 (i := 4) hd (lv := zAl G.2.2.1 (u0 :: u1 :: u2 :: u3 :: w :: lt)) (zHas.has hl) (by simp) rfl (fun ls h => ?_)
  exact k H locs ls (zHas.set (i := 4) (v := .ref x) h hl.1 (by simp) (fun u hu2 => by cases hu2; exact hu)) hn hR hS
theorem sw_fstore_4 {G : zG} {X : zX} {M : zM} {d mc ms a b pc : Nat} {lt : List (Option Value)} {st : List Value} {I : zI} {J : Int64} {E : UInt64} (C : zOK G X M d mc ms) {u0 u1 u2 u3 : Option Value} {w : Option Value} {x : UInt32} (hu : zC1 u3 = true) (hd : decode M.2.1 pc = .ok (.fstore 4, 2)) (k : SW G X a b (pc + 2) (u0 :: u1 :: u2 :: u3 :: some (.float x) :: lt) st I J E) : SW G X a b pc (u0 :: u1 :: u2 :: u3 :: w :: lt) (.float x :: st) I J E := by
  obtain ⟨p, l, e, R, s, m, args, below, meth, c, Q⟩ := X
  intro H locs arr hl hn hR hS
  refine lv_fstore C.1 C.2.1 (i := 4) hd (lv := zAl G.2.2.1 (u0 :: u1 :: u2 :: u3 :: w :: lt)) (zHas.has hl) (by simp) rfl (fun ls h => ?_)
  exact k H locs ls (zHas.set (i := 4) (v := .float x) h hl.1 (by simp) (fun u hu2 => by cases hu2; exact hu)) hn hR hS
theorem sw_iinc_4 {G : zG} {X : zX} {M : zM} {d mc ms a b pc : Nat} {lt : List (Option Value)} {st : List Value} {I : zI} {J : Int64} {E : UInt64} (C : zOK G X M d mc ms) {u0 u1 u2 u3 : Option Value} {x v : Int32} {n : Int} (hu : zC1 u3 = true) (hv : x + Int32.ofInt n = v) (hd : decode M.2.1 pc = .ok (.iinc 4 n, 3)) (k : SW G X a b (pc + 3) (u0 :: u1 :: u2 :: u3 :: some (.int v) :: lt) st I J E) : SW G X a b pc (u0 :: u1 :: u2 :: u3 :: some (.int x) :: lt) st I J E := by
  obtain ⟨p, l, e, R, s, m, args, below, meth, c, Q⟩ := X
  intro H locs arr hl hn hR hS
  obtain ⟨q, hq⟩ := List.getElem?_of_mem (zAl.mem (φ := G.2.2.1) (ls := u0 :: u1 :: u2 :: u3 :: some (.int x) :: lt) (i := 4) rfl)
  refine lv_iinc C.1 C.2.1 (i := 4) hd (lv := zAl G.2.2.1 (u0 :: u1 :: u2 :: u3 :: some (.int x) :: lt)) (zHas.has hl) hq hv (by simp) rfl (fun ls h => ?_)
  exact k H locs ls (zHas.set (i := 4) (v := .int v) h hl.1 (by simp) (fun u hu2 => by cases hu2; exact hu)) hn hR hS
theorem sw_iload_5 {G : zG} {X : zX} {M : zM} {d mc ms a b pc : Nat} {lt : List (Option Value)} {st : List Value} {I : zI} {J : Int64} {E : UInt64} (C : zOK G X M d mc ms) {u0 u1 u2 u3 u4 : Option Value} {x : Int32} (hd : decode M.2.1 pc = .ok (.iload 5, 2)) (k : SW G X a b (pc + 2) (u0 :: u1 :: u2 :: u3 :: u4 :: some (.int x) :: lt) (.int x :: st) I J E) : SW G X a b pc (u0 :: u1 :: u2 :: u3 :: u4 :: some (.int x) :: lt) st I J E := by
  obtain ⟨p, l, e, R, s, m, args, below, meth, c, Q⟩ := X
  intro H locs arr hl hn hR hS
  exact lv_iload C.1 C.2.1 (i := 5) hd (hl.2.2 5 _ rfl) (k H locs arr hl hn hR hS)
theorem sw_aload_5 {G : zG} {X : zX} {M : zM} {d mc ms a b pc : Nat} {lt : List (Option Value)} {st : List Value} {I : zI} {J : Int64} {E : UInt64} (C : zOK G X M d mc ms) {u0 u1 u2 u3 u4 : Option Value} {x : Nat} (hd : decode M.2.1 pc = .ok (.aload 5, 2)) (k : SW G X a b (pc + 2) (u0 :: u1 :: u2 :: u3 :: u4 :: some (.ref x) :: lt) (.ref x :: st) I J E) : SW G X a b pc (u0 :: u1 :: u2 :: u3 :: u4 :: some (.ref x) :: lt) st I J E := by
  obtain ⟨p, l, e, R, s, m, args, below, meth, c, Q⟩ := X
  intro H locs arr hl hn hR hS
  exact lv_aload C.1 C.2.1 (i := 5) hd (hl.2.2 5 _ rfl) (k H locs arr hl hn hR hS)
theorem sw_fload_5 {G : zG} {X : zX} {M : zM} {d mc ms a b pc : Nat} {lt : List (Option Value)} {st : List Value} {I : zI} {J : Int64} {E : UInt64} (C : zOK G X M d mc ms) {u0 u1 u2 u3 u4 : Option Value} {x : UInt32} (hd : decode M.2.1 pc = .ok (.fload 5, 2)) (k : SW G X a b (pc + 2) (u0 :: u1 :: u2 :: u3 :: u4 :: some (.float x) :: lt) (.float x :: st) I J E) : SW G X a b pc (u0 :: u1 :: u2 :: u3 :: u4 :: some (.float x) :: lt) st I J E := by
  obtain ⟨p, l, e, R, s, m, args, below, meth, c, Q⟩ := X
  intro H locs arr hl hn hR hS
  exact lv_fload C.1 C.2.1 (i := 5) hd (hl.2.2 5 _ rfl) (k H locs arr hl hn hR hS)
theorem sw_dload_5 {G : zG} {X : zX} {M : zM} {d mc ms a b pc : Nat} {lt : List (Option Value)} {st : List Value} {I : zI} {J : Int64} {E : UInt64} (C : zOK G X M d mc ms) {u0 u1 u2 u3 u4 : Option Value} {x : UInt64} (hd : decode M.2.1 pc = .ok (.dload 5, 2)) (k : SW G X a b (pc + 2) (u0 :: u1 :: u2 :: u3 :: u4 :: some (.double x) :: lt) (.double x :: st) I J E) : SW G X a b pc (u0 :: u1 :: u2 :: u3 :: u4 :: some (.double x) :: lt) st I J E := by
  obtain ⟨p, l, e, R, s, m, args, below, meth, c, Q⟩ := X
  intro H locs arr hl hn hR hS
  exact lv_dload C.1 C.2.1 (i := 5) hd (hl.2.2 5 _ rfl) (k H locs arr hl hn hR hS)
theorem sw_istore_5 {G : zG} {X : zX} {M : zM} {d mc ms a b pc : Nat} {lt : List (Option Value)} {st : List Value} {I : zI} {J : Int64} {E : UInt64} (C : zOK G X M d mc ms) {u0 u1 u2 u3 u4 : Option Value} {w : Option Value} {x : Int32} (hu : zC1 u4 = true) (hd : decode M.2.1 pc = .ok (.istore 5, 2)) (k : SW G X a b (pc + 2) (u0 :: u1 :: u2 :: u3 :: u4 :: some (.int x) :: lt) st I J E) : SW G X a b pc (u0 :: u1 :: u2 :: u3 :: u4 :: w :: lt) (.int x :: st) I J E := by
  obtain ⟨p, l, e, R, s, m, args, below, meth, c, Q⟩ := X
  intro H locs arr hl hn hR hS
  refine lv_istore C.1 C.2.1 (i := 5) hd (lv := zAl G.2.2.1 (u0 :: u1 :: u2 :: u3 :: u4 :: w :: lt)) (zHas.has hl) (by simp) rfl (fun ls h => ?_)
  exact k H locs ls (zHas.set (i := 5) (v := .int x) h hl.1 (by simp) (fun u hu2 => by cases hu2; exact hu)) hn hR hS
theorem sw_astore_5 {G : zG} {X : zX} {M : zM} {d mc ms a b pc : Nat} {lt : List (Option Value)} {st : List Value} {I : zI} {J : Int64} {E : UInt64} (C : zOK G X M d mc ms) {u0 u1 u2 u3 u4 : Option Value} {w : Option Value} {x : Nat} (hu : zC1 u4 = true) (hd : decode M.2.1 pc = .ok (.astore 5, 2)) (k : SW G X a b (pc + 2) (u0 :: u1 :: u2 :: u3 :: u4 :: some (.ref x) :: lt) st I J E) : SW G X a b pc (u0 :: u1 :: u2 :: u3 :: u4 :: w :: lt) (.ref x :: st) I J E := by
  obtain ⟨p, l, e, R, s, m, args, below, meth, c, Q⟩ := X
  intro H locs arr hl hn hR hS
  refine lv_astore C.1 C.2.1 (i := 5) hd (lv := zAl G.2.2.1 (u0 :: u1 :: u2 :: u3 :: u4 :: w :: lt)) (zHas.has hl) (by simp) rfl (fun ls h => ?_)
  exact k H locs ls (zHas.set (i := 5) (v := .ref x) h hl.1 (by simp) (fun u hu2 => by cases hu2; exact hu)) hn hR hS
theorem sw_fstore_5 {G : zG} {X : zX} {M : zM} {d mc ms a b pc : Nat} {lt : List (Option Value)} {st : List Value} {I : zI} {J : Int64} {E : UInt64} (C : zOK G X M d mc ms) {u0 u1 u2 u3 u4 : Option Value} {w : Option Value} {x : UInt32} (hu : zC1 u4 = true) (hd : decode M.2.1 pc = .ok (.fstore 5, 2)) (k : SW G X a b (pc + 2) (u0 :: u1 :: u2 :: u3 :: u4 :: some (.float x) :: lt) st I J E) : SW G X a b pc (u0 :: u1 :: u2 :: u3 :: u4 :: w :: lt) (.float x :: st) I J E := by
  obtain ⟨p, l, e, R, s, m, args, below, meth, c, Q⟩ := X
  intro H locs arr hl hn hR hS
  refine lv_fstore C.1 C.2.1 (i := 5) hd (lv := zAl G.2.2.1 (u0 :: u1 :: u2 :: u3 :: u4 :: w :: lt)) (zHas.has hl) (by simp) rfl (fun ls h => ?_)
  exact k H locs ls (zHas.set (i := 5) (v := .float x) h hl.1 (by simp) (fun u hu2 => by cases hu2; exact hu)) hn hR hS
theorem sw_iinc_5 {G : zG} {X : zX} {M : zM} {d mc ms a b pc : Nat} {lt : List (Option Value)} {st : List Value} {I : zI} {J : Int64} {E : UInt64} (C : zOK G X M d mc ms) {u0 u1 u2 u3 u4 : Option Value} {x v : Int32} {n : Int} (hu : zC1 u4 = true) (hv : x + Int32.ofInt n = v) (hd : decode M.2.1 pc = .ok (.iinc 5 n, 3)) (k : SW G X a b (pc + 3) (u0 :: u1 :: u2 :: u3 :: u4 :: some (.int v) :: lt) st I J E) : SW G X a b pc (u0 :: u1 :: u2 :: u3 :: u4 :: some (.int x) :: lt) st I J E := by
  obtain ⟨p, l, e, R, s, m, args, below, meth, c, Q⟩ := X
  intro H locs arr hl hn hR hS
  obtain ⟨q, hq⟩ := List.getElem?_of_mem (zAl.mem (φ := G.2.2.1) (ls := u0 :: u1 :: u2 :: u3 :: u4 :: some (.int x) :: lt) (i := 5) rfl)
  refine lv_iinc C.1 C.2.1 (i := 5) hd (lv := zAl G.2.2.1 (u0 :: u1 :: u2 :: u3 :: u4 :: some (.int x) :: lt)) (zHas.has hl) hq hv (by simp) rfl (fun ls h => ?_)
  exact k H locs ls (zHas.set (i := 5) (v := .int v) h hl.1 (by simp) (fun u hu2 => by cases hu2; exact hu)) hn hR hS
theorem sw_iload_6 {G : zG} {X : zX} {M : zM} {d mc ms a b pc : Nat} {lt : List (Option Value)} {st : List Value} {I : zI} {J : Int64} {E : UInt64} (C : zOK G X M d mc ms) {u0 u1 u2 u3 u4 u5 : Option Value} {x : Int32} (hd : decode M.2.1 pc = .ok (.iload 6, 2)) (k : SW G X a b (pc + 2) (u0 :: u1 :: u2 :: u3 :: u4 :: u5 :: some (.int x) :: lt) (.int x :: st) I J E) : SW G X a b pc (u0 :: u1 :: u2 :: u3 :: u4 :: u5 :: some (.int x) :: lt) st I J E := by
  obtain ⟨p, l, e, R, s, m, args, below, meth, c, Q⟩ := X
  intro H locs arr hl hn hR hS
  exact lv_iload C.1 C.2.1 (i := 6) hd (hl.2.2 6 _ rfl) (k H locs arr hl hn hR hS)
theorem sw_aload_6 {G : zG} {X : zX} {M : zM} {d mc ms a b pc : Nat} {lt : List (Option Value)} {st : List Value} {I : zI} {J : Int64} {E : UInt64} (C : zOK G X M d mc ms) {u0 u1 u2 u3 u4 u5 : Option Value} {x : Nat} (hd : decode M.2.1 pc = .ok (.aload 6, 2)) (k : SW G X a b (pc + 2) (u0 :: u1 :: u2 :: u3 :: u4 :: u5 :: some (.ref x) :: lt) (.ref x :: st) I J E) : SW G X a b pc (u0 :: u1 :: u2 :: u3 :: u4 :: u5 :: some (.ref x) :: lt) st I J E := by
  obtain ⟨p, l, e, R, s, m, args, below, meth, c, Q⟩ := X
  intro H locs arr hl hn hR hS
  exact lv_aload C.1 C.2.1 (i := 6) hd (hl.2.2 6 _ rfl) (k H locs arr hl hn hR hS)
theorem sw_fload_6 {G : zG} {X : zX} {M : zM} {d mc ms a b pc : Nat} {lt : List (Option Value)} {st : List Value} {I : zI} {J : Int64} {E : UInt64} (C : zOK G X M d mc ms) {u0 u1 u2 u3 u4 u5 : Option Value} {x : UInt32} (hd : decode M.2.1 pc = .ok (.fload 6, 2)) (k : SW G X a b (pc + 2) (u0 :: u1 :: u2 :: u3 :: u4 :: u5 :: some (.float x) :: lt) (.float x :: st) I J E) : SW G X a b pc (u0 :: u1 :: u2 :: u3 :: u4 :: u5 :: some (.float x) :: lt) st I J E := by
  obtain ⟨p, l, e, R, s, m, args, below, meth, c, Q⟩ := X
  intro H locs arr hl hn hR hS
  exact lv_fload C.1 C.2.1 (i := 6) hd (hl.2.2 6 _ rfl) (k H locs arr hl hn hR hS)
theorem sw_dload_6 {G : zG} {X : zX} {M : zM} {d mc ms a b pc : Nat} {lt : List (Option Value)} {st : List Value} {I : zI} {J : Int64} {E : UInt64} (C : zOK G X M d mc ms) {u0 u1 u2 u3 u4 u5 : Option Value} {x : UInt64} (hd : decode M.2.1 pc = .ok (.dload 6, 2)) (k : SW G X a b (pc + 2) (u0 :: u1 :: u2 :: u3 :: u4 :: u5 :: some (.double x) :: lt) (.double x :: st) I J E) : SW G X a b pc (u0 :: u1 :: u2 :: u3 :: u4 :: u5 :: some (.double x) :: lt) st I J E := by
  obtain ⟨p, l, e, R, s, m, args, below, meth, c, Q⟩ := X
  intro H locs arr hl hn hR hS
  exact lv_dload C.1 C.2.1 (i := 6) hd (hl.2.2 6 _ rfl) (k H locs arr hl hn hR hS)
theorem sw_istore_6 {G : zG} {X : zX} {M : zM} {d mc ms a b pc : Nat} {lt : List (Option Value)} {st : List Value} {I : zI} {J : Int64} {E : UInt64} (C : zOK G X M d mc ms) {u0 u1 u2 u3 u4 u5 : Option Value} {w : Option Value} {x : Int32} (hu : zC1 u5 = true) (hd : decode M.2.1 pc = .ok (.istore 6, 2)) (k : SW G X a b (pc + 2) (u0 :: u1 :: u2 :: u3 :: u4 :: u5 :: some (.int x) :: lt) st I J E) : SW G X a b pc (u0 :: u1 :: u2 :: u3 :: u4 :: u5 :: w :: lt) (.int x :: st) I J E := by
  obtain ⟨p, l, e, R, s, m, args, below, meth, c, Q⟩ := X
  intro H locs arr hl hn hR hS
  refine lv_istore C.1 C.2.1 (i := 6) hd (lv := zAl G.2.2.1 (u0 :: u1 :: u2 :: u3 :: u4 :: u5 :: w :: lt)) (zHas.has hl) (by simp) rfl (fun ls h => ?_)
  exact k H locs ls (zHas.set (i := 6) (v := .int x) h hl.1 (by simp) (fun u hu2 => by cases hu2; exact hu)) hn hR hS
theorem sw_astore_6 {G : zG} {X : zX} {M : zM} {d mc ms a b pc : Nat} {lt : List (Option Value)} {st : List Value} {I : zI} {J : Int64} {E : UInt64} (C : zOK G X M d mc ms) {u0 u1 u2 u3 u4 u5 : Option Value} {w : Option Value} {x : Nat} (hu : zC1 u5 = true) (hd : decode M.2.1 pc = .ok (.astore 6, 2)) (k : SW G X a b (pc + 2) (u0 :: u1 :: u2 :: u3 :: u4 :: u5 :: some (.ref x) :: lt) st I J E) : SW G X a b pc (u0 :: u1 :: u2 :: u3 :: u4 :: u5 :: w :: lt) (.ref x :: st) I J E := by
  obtain ⟨p, l, e, R, s, m, args, below, meth, c, Q⟩ := X
  intro H locs arr hl hn hR hS
  refine lv_astore C.1 C.2.1 (i := 6) hd (lv := zAl G.2.2.1 (u0 :: u1 :: u2 :: u3 :: u4 :: u5 :: w :: lt)) (zHas.has hl) (by simp) rfl (fun ls h => ?_)
  exact k H locs ls (zHas.set (i := 6) (v := .ref x) h hl.1 (by simp) (fun u hu2 => by cases hu2; exact hu)) hn hR hS
theorem sw_fstore_6 {G : zG} {X : zX} {M : zM} {d mc ms a b pc : Nat} {lt : List (Option Value)} {st : List Value} {I : zI} {J : Int64} {E : UInt64} (C : zOK G X M d mc ms) {u0 u1 u2 u3 u4 u5 : Option Value} {w : Option Value} {x : UInt32} (hu : zC1 u5 = true) (hd : decode M.2.1 pc = .ok (.fstore 6, 2)) (k : SW G X a b (pc + 2) (u0 :: u1 :: u2 :: u3 :: u4 :: u5 :: some (.float x) :: lt) st I J E) : SW G X a b pc (u0 :: u1 :: u2 :: u3 :: u4 :: u5 :: w :: lt) (.float x :: st) I J E := by
  obtain ⟨p, l, e, R, s, m, args, below, meth, c, Q⟩ := X
  intro H locs arr hl hn hR hS
  refine lv_fstore C.1 C.2.1 (i := 6) hd (lv := zAl G.2.2.1 (u0 :: u1 :: u2 :: u3 :: u4 :: u5 :: w :: lt)) (zHas.has hl) (by simp) rfl (fun ls h => ?_)
  exact k H locs ls (zHas.set (i := 6) (v := .float x) h hl.1 (by simp) (fun u hu2 => by cases hu2; exact hu)) hn hR hS
theorem sw_iinc_6 {G : zG} {X : zX} {M : zM} {d mc ms a b pc : Nat} {lt : List (Option Value)} {st : List Value} {I : zI} {J : Int64} {E : UInt64} (C : zOK G X M d mc ms) {u0 u1 u2 u3 u4 u5 : Option Value} {x v : Int32} {n : Int} (hu : zC1 u5 = true) (hv : x + Int32.ofInt n = v) (hd : decode M.2.1 pc = .ok (.iinc 6 n, 3)) (k : SW G X a b (pc + 3) (u0 :: u1 :: u2 :: u3 :: u4 :: u5 :: some (.int v) :: lt) st I J E) : SW G X a b pc (u0 :: u1 :: u2 :: u3 :: u4 :: u5 :: some (.int x) :: lt) st I J E := by
  obtain ⟨p, l, e, R, s, m, args, below, meth, c, Q⟩ := X
  intro H locs arr hl hn hR hS
  obtain ⟨q, hq⟩ := List.getElem?_of_mem (zAl.mem (φ := G.2.2.1) (ls := u0 :: u1 :: u2 :: u3 :: u4 :: u5 :: some (.int x) :: lt) (i := 6) rfl)
  refine lv_iinc C.1 C.2.1 (i := 6) hd (lv := zAl G.2.2.1 (u0 :: u1 :: u2 :: u3 :: u4 :: u5 :: some (.int x) :: lt)) (zHas.has hl) hq hv (by simp) rfl (fun ls h => ?_)
  exact k H locs ls (zHas.set (i := 6) (v := .int v) h hl.1 (by simp) (fun u hu2 => by cases hu2; exact hu)) hn hR hS
theorem sw_iload_7 {G : zG} {X : zX} {M : zM} {d mc ms a b pc : Nat} {lt : List (Option Value)} {st : List Value} {I : zI} {J : Int64} {E : UInt64} (C : zOK G X M d mc ms) {u0 u1 u2 u3 u4 u5 u6 : Option Value} {x : Int32} (hd : decode M.2.1 pc = .ok (.iload 7, 2)) (k : SW G X a b (pc + 2) (u0 :: u1 :: u2 :: u3 :: u4 :: u5 :: u6 :: some (.int x) :: lt) (.int x :: st) I J E) : SW G X a b pc (u0 :: u1 :: u2 :: u3 :: u4 :: u5 :: u6 :: some (.int x) :: lt) st I J E := by
  obtain ⟨p, l, e, R, s, m, args, below, meth, c, Q⟩ := X
  intro H locs arr hl hn hR hS
  exact lv_iload C.1 C.2.1 (i := 7) hd (hl.2.2 7 _ rfl) (k H locs arr hl hn hR hS)
theorem sw_aload_7 {G : zG} {X : zX} {M : zM} {d mc ms a b pc : Nat} {lt : List (Option Value)} {st : List Value} {I : zI} {J : Int64} {E : UInt64} (C : zOK G X M d mc ms) {u0 u1 u2 u3 u4 u5 u6 : Option Value} {x : Nat} (hd : decode M.2.1 pc = .ok (.aload 7, 2)) (k : SW G X a b (pc + 2) (u0 :: u1 :: u2 :: u3 :: u4 :: u5 :: u6 :: some (.ref x) :: lt) (.ref x :: st) I J E) : SW G X a b pc (u0 :: u1 :: u2 :: u3 :: u4 :: u5 :: u6 :: some (.ref x) :: lt) st I J E := by
  obtain ⟨p, l, e, R, s, m, args, below, meth, c, Q⟩ := X
  intro H locs arr hl hn hR hS
  exact lv_aload C.1 C.2.1 (i := 7) hd (hl.2.2 7 _ rfl) (k H locs arr hl hn hR hS)
theorem sw_fload_7 {G : zG} {X : zX} {M : zM} {d mc ms a b pc : Nat} {lt : List (Option Value)} {st : List Value} {I : zI} {J : Int64} {E : UInt64} (C : zOK G X M d mc ms) {u0 u1 u2 u3 u4 u5 u6 : Option Value} {x : UInt32} (hd : decode M.2.1 pc = .ok (.fload 7, 2)) (k : SW G X a b (pc + 2) (u0 :: u1 :: u2 :: u3 :: u4 :: u5 :: u6 :: some (.float x) :: lt) (.float x :: st) I J E) : SW G X a b pc (u0 :: u1 :: u2 :: u3 :: u4 :: u5 :: u6 :: some (.float x) :: lt) st I J E := by
  obtain ⟨p, l, e, R, s, m, args, below, meth, c, Q⟩ := X
  intro H locs arr hl hn hR hS
  exact lv_fload C.1 C.2.1 (i := 7) hd (hl.2.2 7 _ rfl) (k H locs arr hl hn hR hS)
theorem sw_dload_7 {G : zG} {X : zX} {M : zM} {d mc ms a b pc : Nat} {lt : List (Option Value)} {st : List Value} {I : zI} {J : Int64} {E : UInt64} (C : zOK G X M d mc ms) {u0 u1 u2 u3 u4 u5 u6 : Option Value} {x : UInt64} (hd : decode M.2.1 pc = .ok (.dload 7, 2)) (k : SW G X a b (pc + 2) (u0 :: u1 :: u2 :: u3 :: u4 :: u5 :: u6 :: some (.double x) :: lt) (.double x :: st) I J E) : SW G X a b pc (u0 :: u1 :: u2 :: u3 :: u4 :: u5 :: u6 :: some (.double x) :: lt) st I J E := by
  obtain ⟨p, l, e, R, s, m, args, below, meth, c, Q⟩ := X
  intro H locs arr hl hn hR hS
  exact lv_dload C.1 C.2.1 (i := 7) hd (hl.2.2 7 _ rfl) (k H locs arr hl hn hR hS)
theorem sw_istore_7 {G : zG} {X : zX} {M : zM} {d mc ms a b pc : Nat} {lt : List (Option Value)} {st : List Value} {I : zI} {J : Int64} {E : UInt64} (C : zOK G X M d mc ms) {u0 u1 u2 u3 u4 u5 u6 : Option Value} {w : Option Value} {x : Int32} (hu : zC1 u6 = true) (hd : decode M.2.1 pc = .ok (.istore 7, 2)) (k : SW G X a b (pc + 2) (u0 :: u1 :: u2 :: u3 :: u4 :: u5 :: u6 :: some (.int x) :: lt) st I J E) : SW G X a b pc (u0 :: u1 :: u2 :: u3 :: u4 :: u5 :: u6 :: w :: lt) (.int x :: st) I J E := by
  obtain ⟨p, l, e, R, s, m, args, below, meth, c, Q⟩ := X
  intro H locs arr hl hn hR hS
  refine lv_istore C.1 C.2.1 (i := 7) hd (lv := zAl G.2.2.1 (u0 :: u1 :: u2 :: u3 :: u4 :: u5 :: u6 :: w :: lt)) (zHas.has hl) (by simp) rfl (fun ls h => ?_)
  exact k H locs ls (zHas.set (i := 7) (v := .int x) h hl.1 (by simp) (fun u hu2 => by cases hu2; exact hu)) hn hR hS
theorem sw_astore_7 {G : zG} {X : zX} {M : zM} {d mc ms a b pc : Nat} {lt : List (Option Value)} {st : List Value} {I : zI} {J : Int64} {E : UInt64} (C : zOK G X M d mc ms) {u0 u1 u2 u3 u4 u5 u6 : Option Value} {w : Option Value} {x : Nat} (hu : zC1 u6 = true) (hd : decode M.2.1 pc = .ok (.astore 7, 2)) (k : SW G X a b (pc + 2) (u0 :: u1 :: u2 :: u3 :: u4 :: u5 :: u6 :: some (.ref x) :: lt) st I J E) : SW G X a b pc (u0 :: u1 :: u2 :: u3 :: u4 :: u5 :: u6 :: w :: lt) (.ref x :: st) I J E := by
  obtain ⟨p, l, e, R, s, m, args, below, meth, c, Q⟩ := X
  intro H locs arr hl hn hR hS
  refine lv_astore C.1 C.2.1 (i := 7) hd (lv := zAl G.2.2.1 (u0 :: u1 :: u2 :: u3 :: u4 :: u5 :: u6 :: w :: lt)) (zHas.has hl) (by simp) rfl (fun ls h => ?_)
  exact k H locs ls (zHas.set (i := 7) (v := .ref x) h hl.1 (by simp) (fun u hu2 => by cases hu2; exact hu)) hn hR hS
theorem sw_fstore_7 {G : zG} {X : zX} {M : zM} {d mc ms a b pc : Nat} {lt : List (Option Value)} {st : List Value} {I : zI} {J : Int64} {E : UInt64} (C : zOK G X M d mc ms) {u0 u1 u2 u3 u4 u5 u6 : Option Value} {w : Option Value} {x : UInt32} (hu : zC1 u6 = true) (hd : decode M.2.1 pc = .ok (.fstore 7, 2)) (k : SW G X a b (pc + 2) (u0 :: u1 :: u2 :: u3 :: u4 :: u5 :: u6 :: some (.float x) :: lt) st I J E) : SW G X a b pc (u0 :: u1 :: u2 :: u3 :: u4 :: u5 :: u6 :: w :: lt) (.float x :: st) I J E := by
  obtain ⟨p, l, e, R, s, m, args, below, meth, c, Q⟩ := X
  intro H locs arr hl hn hR hS
  refine lv_fstore C.1 C.2.1 (i := 7) hd (lv := zAl G.2.2.1 (u0 :: u1 :: u2 :: u3 :: u4 :: u5 :: u6 :: w :: lt)) (zHas.has hl) (by simp) rfl (fun ls h => ?_)
  exact k H locs ls (zHas.set (i := 7) (v := .float x) h hl.1 (by simp) (fun u hu2 => by cases hu2; exact hu)) hn hR hS
theorem sw_iinc_7 {G : zG} {X : zX} {M : zM} {d mc ms a b pc : Nat} {lt : List (Option Value)} {st : List Value} {I : zI} {J : Int64} {E : UInt64} (C : zOK G X M d mc ms) {u0 u1 u2 u3 u4 u5 u6 : Option Value} {x v : Int32} {n : Int} (hu : zC1 u6 = true) (hv : x + Int32.ofInt n = v) (hd : decode M.2.1 pc = .ok (.iinc 7 n, 3)) (k : SW G X a b (pc + 3) (u0 :: u1 :: u2 :: u3 :: u4 :: u5 :: u6 :: some (.int v) :: lt) st I J E) : SW G X a b pc (u0 :: u1 :: u2 :: u3 :: u4 :: u5 :: u6 :: some (.int x) :: lt) st I J E := by
  obtain ⟨p, l, e, R, s, m, args, below, meth, c, Q⟩ := X
  intro H locs arr hl hn hR hS
  obtain ⟨q, hq⟩ := List.getElem?_of_mem (zAl.mem (φ := G.2.2.1) (ls := u0 :: u1 :: u2 :: u3 :: u4 :: u5 :: u6 :: some (.int x) :: lt) (i := 7) rfl)
  refine lv_iinc C.1 C.2.1 (i := 7) hd (lv := zAl G.2.2.1 (u0 :: u1 :: u2 :: u3 :: u4 :: u5 :: u6 :: some (.int x) :: lt)) (zHas.has hl) hq hv (by simp) rfl (fun ls h => ?_)
  exact k H locs ls (zHas.set (i := 7) (v := .int v) h hl.1 (by simp) (fun u hu2 => by cases hu2; exact hu)) hn hR hS
theorem sw_iload_8 {G : zG} {X : zX} {M : zM} {d mc ms a b pc : Nat} {lt : List (Option Value)} {st : List Value} {I : zI} {J : Int64} {E : UInt64} (C : zOK G X M d mc ms) {u0 u1 u2 u3 u4 u5 u6 u7 : Option Value} {x : Int32} (hd : decode M.2.1 pc = .ok (.iload 8, 2)) (k : SW G X a b (pc + 2) (u0 :: u1 :: u2 :: u3 :: u4 :: u5 :: u6 :: u7 :: some (.int x) :: lt) (.int x :: st) I J E) : SW G X a b pc (u0 :: u1 :: u2 :: u3 :: u4 :: u5 :: u6 :: u7 :: some (.int x) :: lt) st I J E := by
  obtain ⟨p, l, e, R, s, m, args, below, meth, c, Q⟩ := X
  intro H locs arr hl hn hR hS
  exact lv_iload C.1 C.2.1 (i := 8) hd (hl.2.2 8 _ rfl) (k H locs arr hl hn hR hS)
theorem sw_aload_8 {G : zG} {X : zX} {M : zM} {d mc ms a b pc : Nat} {lt : List (Option Value)} {st : List Value} {I : zI} {J : Int64} {E : UInt64} (C : zOK G X M d mc ms) {u0 u1 u2 u3 u4 u5 u6 u7 : Option Value} {x : Nat} (hd : decode M.2.1 pc = .ok (.aload 8, 2)) (k : SW G X a b (pc + 2) (u0 :: u1 :: u2 :: u3 :: u4 :: u5 :: u6 :: u7 :: some (.ref x) :: lt) (.ref x :: st) I J E) : SW G X a b pc (u0 :: u1 :: u2 :: u3 :: u4 :: u5 :: u6 :: u7 :: some (.ref x) :: lt) st I J E := by
  obtain ⟨p, l, e, R, s, m, args, below, meth, c, Q⟩ := X
  intro H locs arr hl hn hR hS
  exact lv_aload C.1 C.2.1 (i := 8) hd (hl.2.2 8 _ rfl) (k H locs arr hl hn hR hS)
theorem sw_fload_8 {G : zG} {X : zX} {M : zM} {d mc ms a b pc : Nat} {lt : List (Option Value)} {st : List Value} {I : zI} {J : Int64} {E : UInt64} (C : zOK G X M d mc ms) {u0 u1 u2 u3 u4 u5 u6 u7 : Option Value} {x : UInt32} (hd : decode M.2.1 pc = .ok (.fload 8, 2)) (k : SW G X a b (pc + 2) (u0 :: u1 :: u2 :: u3 :: u4 :: u5 :: u6 :: u7 :: some (.float x) :: lt) (.float x :: st) I J E) : SW G X a b pc (u0 :: u1 :: u2 :: u3 :: u4 :: u5 :: u6 :: u7 :: some (.float x) :: lt) st I J E := by
  obtain ⟨p, l, e, R, s, m, args, below, meth, c, Q⟩ := X
  intro H locs arr hl hn hR hS
  exact lv_fload C.1 C.2.1 (i := 8) hd (hl.2.2 8 _ rfl) (k H locs arr hl hn hR hS)
theorem sw_dload_8 {G : zG} {X : zX} {M : zM} {d mc ms a b pc : Nat} {lt : List (Option Value)} {st : List Value} {I : zI} {J : Int64} {E : UInt64} (C : zOK G X M d mc ms) {u0 u1 u2 u3 u4 u5 u6 u7 : Option Value} {x : UInt64} (hd : decode M.2.1 pc = .ok (.dload 8, 2)) (k : SW G X a b (pc + 2) (u0 :: u1 :: u2 :: u3 :: u4 :: u5 :: u6 :: u7 :: some (.double x) :: lt) (.double x :: st) I J E) : SW G X a b pc (u0 :: u1 :: u2 :: u3 :: u4 :: u5 :: u6 :: u7 :: some (.double x) :: lt) st I J E := by
  obtain ⟨p, l, e, R, s, m, args, below, meth, c, Q⟩ := X
  intro H locs arr hl hn hR hS
  exact lv_dload C.1 C.2.1 (i := 8) hd (hl.2.2 8 _ rfl) (k H locs arr hl hn hR hS)
theorem sw_istore_8 {G : zG} {X : zX} {M : zM} {d mc ms a b pc : Nat} {lt : List (Option Value)} {st : List Value} {I : zI} {J : Int64} {E : UInt64} (C : zOK G X M d mc ms) {u0 u1 u2 u3 u4 u5 u6 u7 : Option Value} {w : Option Value} {x : Int32} (hu : zC1 u7 = true) (hd : decode M.2.1 pc = .ok (.istore 8, 2)) (k : SW G X a b (pc + 2) (u0 :: u1 :: u2 :: u3 :: u4 :: u5 :: u6 :: u7 :: some (.int x) :: lt) st I J E) : SW G X a b pc (u0 :: u1 :: u2 :: u3 :: u4 :: u5 :: u6 :: u7 :: w :: lt) (.int x :: st) I J E := by
  obtain ⟨p, l, e, R, s, m, args, below, meth, c, Q⟩ := X
  intro H locs arr hl hn hR hS
  refine lv_istore C.1 C.2.1 (i := 8) hd (lv := zAl G.2.2.1 (u0 :: u1 :: u2 :: u3 :: u4 :: u5 :: u6 :: u7 :: w :: lt)) (zHas.has hl) (by simp) rfl (fun ls h => ?_)
  exact k H locs ls (zHas.set (i := 8) (v := .int x) h hl.1 (by simp) (fun u hu2 => by cases hu2; exact hu)) hn hR hS
theorem sw_astore_8 {G : zG} {X : zX} {M : zM} {d mc ms a b pc : Nat} {lt : List (Option Value)} {st : List Value} {I : zI} {J : Int64} {E : UInt64} (C : zOK G X M d mc ms) {u0 u1 u2 u3 u4 u5 u6 u7 : Option Value} {w : Option Value} {x : Nat} (hu : zC1 u7 = true) (hd : decode M.2.1 pc = .ok (.astore 8, 2)) (k : SW G X a b (pc + 2) (u0 :: u1 :: u2 :: u3 :: u4 :: u5 :: u6 :: u7 :: some (.ref x) :: lt) st I J E) : SW G X a b pc (u0 :: u1 :: u2 :: u3 :: u4 :: u5 :: u6 :: u7 :: w :: lt) (.ref x :: st) I J E := by
  obtain ⟨p, l, e, R, s, m, args, below, meth, c, Q⟩ := X
  intro H locs arr hl hn hR hS
  refine lv_astore C.1 C.2.1 (i := 8) hd (lv := zAl G.2.2.1 (u0 :: u1 :: u2 :: u3 :: u4 :: u5 :: u6 :: u7 :: w :: lt)) (zHas.has hl) (by simp) rfl (fun ls h => ?_)
  exact k H locs ls (zHas.set (i := 8) (v := .ref x) h hl.1 (by simp) (fun u hu2 => by cases hu2; exact hu)) hn hR hS
theorem sw_fstore_8 {G : zG} {X : zX} {M : zM} {d mc ms a b pc : Nat} {lt : List (Option Value)} {st : List Value} {I : zI} {J : Int64} {E : UInt64} (C : zOK G X M d mc ms) {u0 u1 u2 u3 u4 u5 u6 u7 : Option Value} {w : Option Value} {x : UInt32} (hu : zC1 u7 = true) (hd : decode M.2.1 pc = .ok (.fstore 8, 2)) (k : SW G X a b (pc + 2) (u0 :: u1 :: u2 :: u3 :: u4 :: u5 :: u6 :: u7 :: some (.float x) :: lt) st I J E) : SW G X a b pc (u0 :: u1 :: u2 :: u3 :: u4 :: u5 :: u6 :: u7 :: w :: lt) (.float x :: st) I J E := by
  obtain ⟨p, l, e, R, s, m, args, below, meth, c, Q⟩ := X
  intro H locs arr hl hn hR hS
  refine lv_fstore C.1 C.2.1 (i := 8) hd (lv := zAl G.2.2.1 (u0 :: u1 :: u2 :: u3 :: u4 :: u5 :: u6 :: u7 :: w :: lt)) (zHas.has hl) (by simp) rfl (fun ls h => ?_)
  exact k H locs ls (zHas.set (i := 8) (v := .float x) h hl.1 (by simp) (fun u hu2 => by cases hu2; exact hu)) hn hR hS
theorem sw_iinc_8 {G : zG} {X : zX} {M : zM} {d mc ms a b pc : Nat} {lt : List (Option Value)} {st : List Value} {I : zI} {J : Int64} {E : UInt64} (C : zOK G X M d mc ms) {u0 u1 u2 u3 u4 u5 u6 u7 : Option Value} {x v : Int32} {n : Int} (hu : zC1 u7 = true) (hv : x + Int32.ofInt n = v) (hd : decode M.2.1 pc = .ok (.iinc 8 n, 3)) (k : SW G X a b (pc + 3) (u0 :: u1 :: u2 :: u3 :: u4 :: u5 :: u6 :: u7 :: some (.int v) :: lt) st I J E) : SW G X a b pc (u0 :: u1 :: u2 :: u3 :: u4 :: u5 :: u6 :: u7 :: some (.int x) :: lt) st I J E := by
  obtain ⟨p, l, e, R, s, m, args, below, meth, c, Q⟩ := X
  intro H locs arr hl hn hR hS
  obtain ⟨q, hq⟩ := List.getElem?_of_mem (zAl.mem (φ := G.2.2.1) (ls := u0 :: u1 :: u2 :: u3 :: u4 :: u5 :: u6 :: u7 :: some (.int x) :: lt) (i := 8) rfl)
  refine lv_iinc C.1 C.2.1 (i := 8) hd (lv := zAl G.2.2.1 (u0 :: u1 :: u2 :: u3 :: u4 :: u5 :: u6 :: u7 :: some (.int x) :: lt)) (zHas.has hl) hq hv (by simp) rfl (fun ls h => ?_)
  exact k H locs ls (zHas.set (i := 8) (v := .int v) h hl.1 (by simp) (fun u hu2 => by cases hu2; exact hu)) hn hR hS
theorem sw_iload_9 {G : zG} {X : zX} {M : zM} {d mc ms a b pc : Nat} {lt : List (Option Value)} {st : List Value} {I : zI} {J : Int64} {E : UInt64} (C : zOK G X M d mc ms) {u0 u1 u2 u3 u4 u5 u6 u7 u8 : Option Value} {x : Int32} (hd : decode M.2.1 pc = .ok (.iload 9, 2)) (k : SW G X a b (pc + 2) (u0 :: u1 :: u2 :: u3 :: u4 :: u5 :: u6 :: u7 :: u8 :: some (.int x) :: lt) (.int x :: st) I J E) : SW G X a b pc (u0 :: u1 :: u2 :: u3 :: u4 :: u5 :: u6 :: u7 :: u8 :: some (.int x) :: lt) st I J E := by
  obtain ⟨p, l, e, R, s, m, args, below, meth, c, Q⟩ := X
  intro H locs arr hl hn hR hS
  exact lv_iload C.1 C.2.1 (i := 9) hd (hl.2.2 9 _ rfl) (k H locs arr hl hn hR hS)
theorem sw_aload_9 {G : zG} {X : zX} {M : zM} {d mc ms a b pc : Nat} {lt : List (Option Value)} {st : List Value} {I : zI} {J : Int64} {E : UInt64} (C : zOK G X M d mc ms) {u0 u1 u2 u3 u4 u5 u6 u7 u8 : Option Value} {x : Nat} (hd : decode M.2.1 pc = .ok (.aload 9, 2)) (k : SW G X a b (pc + 2) (u0 :: u1 :: u2 :: u3 :: u4 :: u5 :: u6 :: u7 :: u8 :: some (.ref x) :: lt) (.ref x :: st) I J E) : SW G X a b pc (u0 :: u1 :: u2 :: u3 :: u4 :: u5 :: u6 :: u7 :: u8 :: some (.ref x) :: lt) st I J E := by
  obtain ⟨p, l, e, R, s, m, args, below, meth, c, Q⟩ := X
  intro H locs arr hl hn hR hS
  exact lv_aload C.1 C.2.1 (i := 9) hd (hl.2.2 9 _ rfl) (k H locs arr hl hn hR hS)
theorem sw_fload_9 {G : zG} {X : zX} {M : zM} {d mc ms a b pc : Nat} {lt : List (Option Value)} {st : List Value} {I : zI} {J : Int64} {E : UInt64} (C : zOK G X M d mc ms) {u0 u1 u2 u3 u4 u5 u6 u7 u8 : Option Value} {x : UInt32} (hd : decode M.2.1 pc = .ok (.fload 9, 2)) (k : SW G X a b (pc + 2) (u0 :: u1 :: u2 :: u3 :: u4 :: u5 :: u6 :: u7 :: u8 :: some (.float x) :: lt) (.float x :: st) I J E) : SW G X a b pc (u0 :: u1 :: u2 :: u3 :: u4 :: u5 :: u6 :: u7 :: u8 :: some (.float x) :: lt) st I J E := by
  obtain ⟨p, l, e, R, s, m, args, below, meth, c, Q⟩ := X
  intro H locs arr hl hn hR hS
  exact lv_fload C.1 C.2.1 (i := 9) hd (hl.2.2 9 _ rfl) (k H locs arr hl hn hR hS)
theorem sw_dload_9 {G : zG} {X : zX} {M : zM} {d mc ms a b pc : Nat} {lt : List (Option Value)} {st : List Value} {I : zI} {J : Int64} {E : UInt64} (C : zOK G X M d mc ms) {u0 u1 u2 u3 u4 u5 u6 u7 u8 : Option Value} {x : UInt64} (hd : decode M.2.1 pc = .ok (.dload 9, 2)) (k : SW G X a b (pc + 2) (u0 :: u1 :: u2 :: u3 :: u4 :: u5 :: u6 :: u7 :: u8 :: some (.double x) :: lt) (.double x :: st) I J E) : SW G X a b pc (u0 :: u1 :: u2 :: u3 :: u4 :: u5 :: u6 :: u7 :: u8 :: some (.double x) :: lt) st I J E := by
  obtain ⟨p, l, e, R, s, m, args, below, meth, c, Q⟩ := X
  intro H locs arr hl hn hR hS
  exact lv_dload C.1 C.2.1 (i := 9) hd (hl.2.2 9 _ rfl) (k H locs arr hl hn hR hS)
theorem sw_istore_9 {G : zG} {X : zX} {M : zM} {d mc ms a b pc : Nat} {lt : List (Option Value)} {st : List Value} {I : zI} {J : Int64} {E : UInt64} (C : zOK G X M d mc ms) {u0 u1 u2 u3 u4 u5 u6 u7 u8 : Option Value} {w : Option Value} {x : Int32} (hu : zC1 u8 = true) (hd : decode M.2.1 pc = .ok (.istore 9, 2)) (k : SW G X a b (pc + 2) (u0 :: u1 :: u2 :: u3 :: u4 :: u5 :: u6 :: u7 :: u8 :: some (.int x) :: lt) st I J E) : SW G X a b pc (u0 :: u1 :: u2 :: u3 :: u4 :: u5 :: u6 :: u7 :: u8 :: w :: lt) (.int x :: st) I J E := by
  obtain ⟨p, l, e, R, s, m, args, below, meth, c, Q⟩ := X
  intro H locs arr hl hn hR hS
  refine lv_istore C.1 C.2.1 (i := 9) hd (lv := zAl G.2.2.1 (u0 :: u1 :: u2 :: u3 :: u4 :: u5 :: u6 :: u7 :: u8 :: w :: lt)) (zHas.has hl) (by simp) rfl (fun ls h => ?_)
  exact k H locs ls (zHas.set (i := 9) (v := .int x) h hl.1 (by simp) (fun u hu2 => by cases hu2; exact hu)) hn hR hS
theorem sw_astore_9 {G : zG} {X : zX} {M : zM} {d mc ms a b pc : Nat} {lt : List (Option Value)} {st : List Value} {I : zI} {J : Int64} {E : UInt64} (C : zOK G X M d mc ms) {u0 u1 u2 u3 u4 u5 u6 u7 u8 : Option Value} {w : Option Value} {x : Nat} (hu : zC1 u8 = true) (hd : decode M.2.1 pc = .ok (.astore 9, 2)) (k : SW G X a b (pc + 2) (u0 :: u1 :: u2 :: u3 :: u4 :: u5 :: u6 :: u7 :: u8 :: some (.ref x) :: lt) st I J E) : SW G X a b pc (u0 :: u1 :: u2 :: u3 :: u4 :: u5 :: u6 :: u7 :: u8 :: w :: lt) (.ref x :: st) I J E := by
  obtain ⟨p, l, e, R, s, m, args, below, meth, c, Q⟩ := X
  intro H locs arr hl hn hR hS
  refine lv_astore C.1 C.2.1 (i := 9) hd (lv := zAl G.2.2.1 (u0 :: u1 :: u2 :: u3 :: u4 :: u5 :: u6 :: u7 :: u8 :: w :: lt)) (zHas.has hl) (by simp) rfl (fun ls h => ?_)
  exact k H locs ls (zHas.set (i := 9) (v := .ref x) h hl.1 (by simp) (fun u hu2 => by cases hu2; exact hu)) hn hR hS
theorem sw_fstore_9 {G : zG} {X : zX} {M : zM} {d mc ms a b pc : Nat} {lt : List (Option Value)} {st : List Value} {I : zI} {J : Int64} {E : UInt64} (C : zOK G X M d mc ms) {u0 u1 u2 u3 u4 u5 u6 u7 u8 : Option Value} {w : Option Value} {x : UInt32} (hu : zC1 u8 = true) (hd : decode M.2.1 pc = .ok (.fstore 9, 2)) (k : SW G X a b (pc + 2) (u0 :: u1 :: u2 :: u3 :: u4 :: u5 :: u6 :: u7 :: u8 :: some (.float x) :: lt) st I J E) : SW G X a b pc (u0 :: u1 :: u2 :: u3 :: u4 :: u5 :: u6 :: u7 :: u8 :: w :: lt) (.float x :: st) I J E := by
  obtain ⟨p, l, e, R, s, m, args, below, meth, c, Q⟩ := X
  intro H locs arr hl hn hR hS
  refine lv_fstore C.1 C.2.1 (i := 9) hd (lv := zAl G.2.2.1 (u0 :: u1 :: u2 :: u3 :: u4 :: u5 :: u6 :: u7 :: u8 :: w :: lt)) (zHas.has hl) (by simp) rfl (fun ls h => ?_)
  exact k H locs ls (zHas.set (i := 9) (v := .float x) h hl.1 (by simp) (fun u hu2 => by cases hu2; exact hu)) hn hR hS
theorem sw_iinc_9 {G : zG} {X : zX} {M : zM} {d mc ms a b pc : Nat} {lt : List (Option Value)} {st : List Value} {I : zI} {J : Int64} {E : UInt64} (C : zOK G X M d mc ms) {u0 u1 u2 u3 u4 u5 u6 u7 u8 : Option Value} {x v : Int32} {n : Int} (hu : zC1 u8 = true) (hv : x + Int32.ofInt n = v) (hd : decode M.2.1 pc = .ok (.iinc 9 n, 3)) (k : SW G X a b (pc + 3) (u0 :: u1 :: u2 :: u3 :: u4 :: u5 :: u6 :: u7 :: u8 :: some (.int v) :: lt) st I J E) : SW G X a b pc (u0 :: u1 :: u2 :: u3 :: u4 :: u5 :: u6 :: u7 :: u8 :: some (.int x) :: lt) st I J E := by
  obtain ⟨p, l, e, R, s, m, args, below, meth, c, Q⟩ := X
  intro H locs arr hl hn hR hS
  obtain ⟨q, hq⟩ := List.getElem?_of_mem (zAl.mem (φ := G.2.2.1) (ls := u0 :: u1 :: u2 :: u3 :: u4 :: u5 :: u6 :: u7 :: u8 :: some (.int x) :: lt) (i := 9) rfl)
  refine lv_iinc C.1 C.2.1 (i := 9) hd (lv := zAl G.2.2.1 (u0 :: u1 :: u2 :: u3 :: u4 :: u5 :: u6 :: u7 :: u8 :: some (.int x) :: lt)) (zHas.has hl) hq hv (by simp) rfl (fun ls h => ?_)
  exact k H locs ls (zHas.set (i := 9) (v := .int v) h hl.1 (by simp) (fun u hu2 => by cases hu2; exact hu)) hn hR hS
theorem sw_iload_10 {G : zG} {X : zX} {M : zM} {d mc ms a b pc : Nat} {lt : List (Option Value)} {st : List Value} {I : zI} {J : Int64} {E : UInt64} (C : zOK G X M d mc ms) {u0 u1 u2 u3 u4 u5 u6 u7 u8 u9 : Option Value} {x : Int32} (hd : decode M.2.1 pc = .ok (.iload 10, 2)) (k : SW G X a b (pc + 2) (u0 :: u1 :: u2 :: u3 :: u4 :: u5 :: u6 :: u7 :: u8 :: u9 :: some (.int x) :: lt) (.int x :: st) I J E) : SW G X a b pc (u0 :: u1 :: u2 :: u3 :: u4 :: u5 :: u6 :: u7 :: u8 :: u9 :: some (.int x) :: lt) st I J E := by
  obtain ⟨p, l, e, R, s, m, args, below, meth, c, Q⟩ := X
  intro H locs arr hl hn hR hS
  exact lv_iload C.1 C.2.1 (i := 10) hd (hl.2.2 10 _ rfl) (k H locs arr hl hn hR hS)
theorem sw_aload_10 {G : zG} {X : zX} {M : zM} {d mc ms a b pc : Nat} {lt : List (Option Value)} {st : List Value} {I : zI} {J : Int64} {E : UInt64} (C : zOK G X M d mc ms) {u0 u1 u2 u3 u4 u5 u6 u7 u8 u9 : Option Value} {x : Nat} (hd : decode M.2.1 pc = .ok (.aload 10, 2)) (k : SW G X a b (pc + 2) (u0 :: u1 :: u2 :: u3 :: u4 :: u5 :: u6 :: u7 :: u8 :: u9 :: some (.ref x) :: lt) (.ref x :: st) I J E) : SW G X a b pc (u0 :: u1 :: u2 :: u3 :: u4 :: u5 :: u6 :: u7 :: u8 :: u9 :: some (.ref x) :: lt) st I J E := by
  obtain ⟨p, l, e, R, s, m, args, below, meth, c, Q⟩ := X
  intro H locs arr hl hn hR hS
  exact lv_aload C.1 C.2.1 (i := 10) hd (hl.2.2 10 _ rfl) (k H locs arr hl hn hR hS)
theorem sw_fload_10 {G : zG} {X : zX} {M : zM} {d mc ms a b pc : Nat} {lt : List (Option Value)} {st : List Value} {I : zI} {J : Int64} {E : UInt64} (C : zOK G X M d mc ms) {u0 u1 u2 u3 u4 u5 u6 u7 u8 u9 : Option Value} {x : UInt32} (hd : decode M.2.1 pc = .ok (.fload 10, 2)) (k : SW G X a b (pc + 2) (u0 :: u1 :: u2 :: u3 :: u4 :: u5 :: u6 :: u7 :: u8 :: u9 :: some (.float x) :: lt) (.float x :: st) I J E) : SW G X a b pc (u0 :: u1 :: u2 :: u3 :: u4 :: u5 :: u6 :: u7 :: u8 :: u9 :: some (.float x) :: lt) st I J E := by
  obtain ⟨p, l, e, R, s, m, args, below, meth, c, Q⟩ := X
  intro H locs arr hl hn hR hS
  exact lv_fload C.1 C.2.1 (i := 10) hd (hl.2.2 10 _ rfl) (k H locs arr hl hn hR hS)
theorem sw_dload_10 {G : zG} {X : zX} {M : zM} {d mc ms a b pc : Nat} {lt : List (Option Value)} {st : List Value} {I : zI} {J : Int64} {E : UInt64} (C : zOK G X M d mc ms) {u0 u1 u2 u3 u4 u5 u6 u7 u8 u9 : Option Value} {x : UInt64} (hd : decode M.2.1 pc = .ok (.dload 10, 2)) (k : SW G X a b (pc + 2) (u0 :: u1 :: u2 :: u3 :: u4 :: u5 :: u6 :: u7 :: u8 :: u9 :: some (.double x) :: lt) (.double x :: st) I J E) : SW G X a b pc (u0 :: u1 :: u2 :: u3 :: u4 :: u5 :: u6 :: u7 :: u8 :: u9 :: some (.double x) :: lt) st I J E := by
  obtain ⟨p, l, e, R, s, m, args, below, meth, c, Q⟩ := X
  intro H locs arr hl hn hR hS
  exact lv_dload C.1 C.2.1 (i := 10) hd (hl.2.2 10 _ rfl) (k H locs arr hl hn hR hS)
theorem sw_istore_10 {G : zG} {X : zX} {M : zM} {d mc ms a b pc : Nat} {lt : List (Option Value)} {st : List Value} {I : zI} {J : Int64} {E : UInt64} (C : zOK G X M d mc ms) {u0 u1 u2 u3 u4 u5 u6 u7 u8 u9 : Option Value} {w : Option Value} {x : Int32} (hu : zC1 u9 = true) (hd : decode M.2.1 pc = .ok (.istore 10, 2)) (k : SW G X a b (pc + 2) (u0 :: u1 :: u2 :: u3 :: u4 :: u5 :: u6 :: u7 :: u8 :: u9 :: some (.int x) :: lt) st I J E) : SW G X a b pc (u0 :: u1 :: u2 :: u3 :: u4 :: u5 :: u6 :: u7 :: u8 :: u9 :: w :: lt) (.int x :: st) I J E := by
  obtain ⟨p, l, e, R, s, m, args, below, meth, c, Q⟩ := X
  intro H locs arr hl hn hR hS
  refine lv_istore C.1 C.2.1 (i := 10) hd (lv := zAl G.2.2.1 (u0 :: u1 :: u2 :: u3 :: u4 :: u5 :: u6 :: u7 :: u8 :: u9 :: w :: lt)) (zHas.has hl) (by simp) rfl (fun ls h => ?_)
  exact k H locs ls (zHas.set (i := 10) (v := .int x) h hl.1 (by simp) (fun u hu2 => by cases hu2; exact hu)) hn hR hS
theorem sw_astore_10 {G : zG} {X : zX} {M : zM} {d mc ms a b pc : Nat} {lt : List (Option Value)} {st : List Value} {I : zI} {J : Int64} {E : UInt64} (C : zOK G X M d mc ms) {u0 u1 u2 u3 u4 u5 u6 u7 u8 u9 : Option Value} {w : Option Value} {x : Nat} (hu : zC1 u9 = true) (hd : decode M.2.1 pc = .ok (.astore 10, 2)) (k : SW G X a b (pc + 2) (u0 :: u1 :: u2 :: u3 :: u4 :: u5 :: u6 :: u7 :: u8 :: u9 :: some (.ref x) :: lt) st I J E) : SW G X a b pc (u0 :: u1 :: u2 :: u3 :: u4 :: u5 :: u6 :: u7 :: u8 :: u9 :: w :: lt) (.ref x :: st) I J E := by
  obtain ⟨p, l, e, R, s, m, args, below, meth, c, Q⟩ := X
  intro H locs arr hl hn hR hS
  refine lv_astore C.1 C.2.1 (i := 10) hd (lv := zAl G.2.2.1 (u0 :: u1 :: u2 :: u3 :: u4 :: u5 :: u6 :: u7 :: u8 :: u9 :: w :: lt)) (zHas.has hl) (by simp) rfl (fun ls h => ?_)
  exact k H locs ls (zHas.set (i := 10) (v := .ref x) h hl.1 (by simp) (fun u hu2 => by cases hu2; exact hu)) hn hR hS
theorem sw_fstore_10 {G : zG} {X : zX} {M : zM} {d mc ms a b pc : Nat} {lt : List (Option Value)} {st : List Value} {I : zI} {J : Int64} {E : UInt64} (C : zOK G X M d mc ms) {u0 u1 u2 u3 u4 u5 u6 u7 u8 u9 : Option Value} {w : Option Value} {x : UInt32} (hu : zC1 u9 = true) (hd : decode M.2.1 pc = .ok (.fstore 10, 2)) (k : SW G X a b (pc + 2) (u0 :: u1 :: u2 :: u3 :: u4 :: u5 :: u6 :: u7 :: u8 :: u9 :: some (.float x) :: lt) st I J E) : SW G X a b pc (u0 :: u1 :: u2 :: u3 :: u4 :: u5 :: u6 :: u7 :: u8 :: u9 :: w :: lt) (.float x :: st) I J E := by
  obtain ⟨p, l, e, R, s, m, args, below, meth, c, Q⟩ := X
  intro H locs arr hl hn hR hS
  refine lv_fstore C.1 C.2.1 (i := 10) hd (lv := zAl G.2.2.1 (u0 :: u1 :: u2 :: u3 :: u4 :: u5 :: u6 :: u7 :: u8 :: u9 :: w :: lt)) (zHas.has hl) (by simp) rfl (fun ls h => ?_)
  exact k H locs ls (zHas.set (i := 10) (v := .float x) h hl.1 (by simp) (fun u hu2 => by cases hu2; exact hu)) hn hR hS
theorem sw_iinc_10 {G : zG} {X : zX} {M : zM} {d mc ms a b pc : Nat} {lt : List (Option Value)} {st : List Value} {I : zI} {J : Int64} {E : UInt64} (C : zOK G X M d mc ms) {u0 u1 u2 u3 u4 u5 u6 u7 u8 u9 : Option Value} {x v : Int32} {n : Int} (hu : zC1 u9 = true) (hv : x + Int32.ofInt n = v) (hd : decode M.2.1 pc = .ok (.iinc 10 n, 3)) (k : SW G X a b (pc + 3) (u0 :: u1 :: u2 :: u3 :: u4 :: u5 :: u6 :: u7 :: u8 :: u9 :: some (.int v) :: lt) st I J E) : SW G X a b pc (u0 :: u1 :: u2 :: u3 :: u4 :: u5 :: u6 :: u7 :: u8 :: u9 :: some (.int x) :: lt) st I J E := by
  obtain ⟨p, l, e, R, s, m, args, below, meth, c, Q⟩ := X
  intro H locs arr hl hn hR hS
  obtain ⟨q, hq⟩ := List.getElem?_of_mem (zAl.mem (φ := G.2.2.1) (ls := u0 :: u1 :: u2 :: u3 :: u4 :: u5 :: u6 :: u7 :: u8 :: u9 :: some (.int x) :: lt) (i := 10) rfl)
  refine lv_iinc C.1 C.2.1 (i := 10) hd (lv := zAl G.2.2.1 (u0 :: u1 :: u2 :: u3 :: u4 :: u5 :: u6 :: u7 :: u8 :: u9 :: some (.int x) :: lt)) (zHas.has hl) hq hv (by simp) rfl (fun ls h => ?_)
  exact k H locs ls (zHas.set (i := 10) (v := .int v) h hl.1 (by simp) (fun u hu2 => by cases hu2; exact hu)) hn hR hS
theorem sw_iload_11 {G : zG} {X : zX} {M : zM} {d mc ms a b pc : Nat} {lt : List (Option Value)} {st : List Value} {I : zI} {J : Int64} {E : UInt64} (C : zOK G X M d mc ms) {u0 u1 u2 u3 u4 u5 u6 u7 u8 u9 u10 : Option Value} {x : Int32} (hd : decode M.2.1 pc = .ok (.iload 11, 2)) (k : SW G X a b (pc + 2) (u0 :: u1 :: u2 :: u3 :: u4 :: u5 :: u6 :: u7 :: u8 :: u9 :: u10 :: some (.int x) :: lt) (.int x :: st) I J E) : SW G X a b pc (u0 :: u1 :: u2 :: u3 :: u4 :: u5 :: u6 :: u7 :: u8 :: u9 :: u10 :: some (.int x) :: lt) st I J E := by
  obtain ⟨p, l, e, R, s, m, args, below, meth, c, Q⟩ := X
  intro H locs arr hl hn hR hS
  exact lv_iload C.1 C.2.1 (i := 11) hd (hl.2.2 11 _ rfl) (k H locs arr hl hn hR hS)
theorem sw_aload_11 {G : zG} {X : zX} {M : zM} {d mc ms a b pc : Nat} {lt : List (Option Value)} {st : List Value} {I : zI} {J : Int64} {E : UInt64} (C : zOK G X M d mc ms) {u0 u1 u2 u3 u4 u5 u6 u7 u8 u9 u10 : Option Value} {x : Nat} (hd : decode M.2.1 pc = .ok (.aload 11, 2)) (k : SW G X a b (pc + 2) (u0 :: u1 :: u2 :: u3 :: u4 :: u5 :: u6 :: u7 :: u8 :: u9 :: u10 :: some (.ref x) :: lt) (.ref x :: st) I J E) : SW G X a b pc (u0 :: u1 :: u2 :: u3 :: u4 :: u5 :: u6 :: u7 :: u8 :: u9 :: u10 :: some (.ref x) :: lt) st I J E := by
  obtain ⟨p, l, e, R, s, m, args, below, meth, c, Q⟩ := X
  intro H locs arr hl hn hR hS
  exact lv_aload C.1 C.2.1 (i := 11) hd (hl.2.2 11 _ rfl) (k H locs arr hl hn hR hS)
theorem sw_fload_11 {G : zG} {X : zX} {M : zM} {d mc ms a b pc : Nat} {lt : List (Option Value)} {st : List Value} {I : zI} {J : Int64} {E : UInt64} (C : zOK G X M d mc ms) {u0 u1 u2 u3 u4 u5 u6 u7 u8 u9 u10 : Option Value} {x : UInt32} (hd : decode M.2.1 pc = .ok (.fload 11, 2)) (k : SW G X a b (pc + 2) (u0 :: u1 :: u2 :: u3 :: u4 :: u5 :: u6 :: u7 :: u8 :: u9 :: u10 :: some (.float x) :: lt) (.float x :: st) I J E) : SW G X a b pc (u0 :: u1 :: u2 :: u3 :: u4 :: u5 :: u6 :: u7 :: u8 :: u9 :: u10 :: some (.float x) :: lt) st I J E := by
  obtain ⟨p, l, e, R, s, m, args, below, meth, c, Q⟩ := X
  intro H locs arr hl hn hR hS
  exact lv_fload C.1 C.2.1 (i := 11) hd (hl.2.2 11 _ rfl) (k H locs arr hl hn hR hS)
theorem sw_dload_11 {G : zG} {X : zX} {M : zM} {d mc ms a b pc : Nat} {lt : List (Option Value)} {st : List Value} {I : zI} {J : Int64} {E : UInt64} (C : zOK G X M d mc ms) {u0 u1 u2 u3 u4 u5 u6 u7 u8 u9 u10 : Option Value} {x : UInt64} (hd : decode M.2.1 pc = .ok (.dload 11, 2)) (k : SW G X a b (pc + 2) (u0 :: u1 :: u2 :: u3 :: u4 :: u5 :: u6 :: u7 :: u8 :: u9 :: u10 :: some (.double x) :: lt) (.double x :: st) I J E) : SW G X a b pc (u0 :: u1 :: u2 :: u3 :: u4 :: u5 :: u6 :: u7 :: u8 :: u9 :: u10 :: some (.double x) :: lt) st I J E := by
  obtain ⟨p, l, e, R, s, m, args, below, meth, c, Q⟩ := X
  intro H locs arr hl hn hR hS
  exact lv_dload C.1 C.2.1 (i := 11) hd (hl.2.2 11 _ rfl) (k H locs arr hl hn hR hS)
theorem sw_istore_11 {G : zG} {X : zX} {M : zM} {d mc ms a b pc : Nat} {lt : List (Option Value)} {st : List Value} {I : zI} {J : Int64} {E : UInt64} (C : zOK G X M d mc ms) {u0 u1 u2 u3 u4 u5 u6 u7 u8 u9 u10 : Option Value} {w : Option Value} {x : Int32} (hu : zC1 u10 = true) (hd : decode M.2.1 pc = .ok (.istore 11, 2)) (k : SW G X a b (pc + 2) (u0 :: u1 :: u2 :: u3 :: u4 :: u5 :: u6 :: u7 :: u8 :: u9 :: u10 :: some (.int x) :: lt) st I J E) : SW G X a b pc (u0 :: u1 :: u2 :: u3 :: u4 :: u5 :: u6 :: u7 :: u8 :: u9 :: u10 :: w :: lt) (.int x :: st) I J E := by
  obtain ⟨p, l, e, R, s, m, args, below, meth, c, Q⟩ := X
  intro H locs arr hl hn hR hS
  refine lv_istore C.1 C.2.1 (i := 11) hd (lv := zAl G.2.2.1 (u0 :: u1 :: u2 :: u3 :: u4 :: u5 :: u6 :: u7 :: u8 :: u9 :: u10 :: w :: lt)) (zHas.has hl) (by simp) rfl (fun ls h => ?_)
  exact k H locs ls (zHas.set (i := 11) (v := .int x) h hl.1 (by simp) (fun u hu2 => by cases hu2; exact hu)) hn hR hS
theorem sw_astore_11 {G : zG} {X : zX} {M : zM} {d mc ms a b pc : Nat} {lt : List (Option Value)} {st : List Value} {I : zI} {J : Int64} {E : UInt64} (C : zOK G X M d mc ms) {u0 u1 u2 u3 u4 u5 u6 u7 u8 u9 u10 : Option Value} {w : Option Value} {x : Nat} (hu : zC1 u10 = true) (hd : decode M.2.1 pc = .ok (.astore 11, 2)) (k : SW G X a b (pc + 2) (u0 :: u1 :: u2 :: u3 :: u4 :: u5 :: u6 :: u7 :: u8 :: u9 :: u10 :: some (.ref x) :: lt) st I J E) : SW G X a b pc (u0 :: u1 :: u2 :: u3 :: u4 :: u5 :: u6 :: u7 :: u8 :: u9 :: u10 :: w :: lt) (.ref x :: st) I J E := by
  obtain ⟨p, l, e, R, s, m, args, below, meth, c, Q⟩ := X
  intro H locs arr hl hn hR hS
  refine lv_astore C.1 C.2.1 (i := 11) hd (lv := zAl G.2.2.1 (u0 :: u1 :: u2 :: u3 :: u4 :: u5 :: u6 :: u7 :: u8 :: u9 :: u10 :: w :: lt)) (zHas.has hl) (by simp) rfl (fun ls h => ?_)
  exact k H locs ls (zHas.set (i := 11) (v := .ref x) h hl.1 (by simp) (fun u hu2 => by cases hu2; exact hu)) hn hR hS
theorem sw_fstore_11 {G : zG} {X : zX} {M : zM} {d mc ms a b pc : Nat} {lt : List (Option Value)} {st : List Value} {I : zI} {J : Int64} {E : UInt64} (C : zOK G X M d mc ms) {u0 u1 u2 u3 u4 u5 u6 u7 u8 u9 u10 : Option Value} {w : Option Value} {x : UInt32} (hu : zC1 u10 = true) (hd : decode M.2.1 pc = .ok (.fstore 11, 2)) (k : SW G X a b (pc + 2) (u0 :: u1 :: u2 :: u3 :: u4 :: u5 :: u6 :: u7 :: u8 :: u9 :: u10 :: some (.float x) :: lt) st I J E) : SW G X a b pc (u0 :: u1 :: u2 :: u3 :: u4 :: u5 :: u6 :: u7 :: u8 :: u9 :: u10 :: w :: lt) (.float x :: st) I J E := by
  obtain ⟨p, l, e, R, s, m, args, below, meth, c, Q⟩ := X
  intro H locs arr hl hn hR hS
  refine lv_fstore C.1 C.2.1 (i := 11) hd (lv := zAl G.2.2.1 (u0 :: u1 :: u2 :: u3 :: u4 :: u5 :: u6 :: u7 :: u8 :: u9 :: u10 :: w :: lt)) (zHas.has hl) (by simp) rfl (fun ls h => ?_)
  exact k H locs ls (zHas.set (i := 11) (v := .float x) h hl.1 (by simp) (fun u hu2 => by cases hu2; exact hu)) hn hR hS
theorem sw_iinc_11 {G : zG} {X : zX} {M : zM} {d mc ms a b pc : Nat} {lt : List (Option Value)} {st : List Value} {I : zI} {J : Int64} {E : UInt64} (C : zOK G X M d mc ms) {u0 u1 u2 u3 u4 u5 u6 u7 u8 u9 u10 : Option Value} {x v : Int32} {n : Int} (hu : zC1 u10 = true) (hv : x + Int32.ofInt n = v) (hd : decode M.2.1 pc = .ok (.iinc 11 n, 3)) (k : SW G X a b (pc + 3) (u0 :: u1 :: u2 :: u3 :: u4 :: u5 :: u6 :: u7 :: u8 :: u9 :: u10 :: some (.int v) :: lt) st I J E) : SW G X a b pc (u0 :: u1 :: u2 :: u3 :: u4 :: u5 :: u6 :: u7 :: u8 :: u9 :: u10 :: some (.int x) :: lt) st I J E := by
  obtain ⟨p, l, e, R, s, m, args, below, meth, c, Q⟩ := X
  intro H locs arr hl hn hR hS
  obtain ⟨q, hq⟩ := List.getElem?_of_mem (zAl.mem (φ := G.2.2.1) (ls := u0 :: u1 :: u2 :: u3 :: u4 :: u5 :: u6 :: u7 :: u8 :: u9 :: u10 :: some (.int x) :: lt) (i := 11) rfl)
  refine lv_iinc C.1 C.2.1 (i := 11) hd (lv := zAl G.2.2.1 (u0 :: u1 :: u2 :: u3 :: u4 :: u5 :: u6 :: u7 :: u8 :: u9 :: u10 :: some (.int x) :: lt)) (zHas.has hl) hq hv (by simp) rfl (fun ls h => ?_)
  exact k H locs ls (zHas.set (i := 11) (v := .int v) h hl.1 (by simp) (fun u hu2 => by cases hu2; exact hu)) hn hR hS
end
section
/-! the ints of the world -/
def zUp (I : zI) (o j : Nat) (x : Int32) : zI := fun a b => if a = o ∧ b = j then x else I a b
theorem zUp_s {I : zI} {o j : Nat} {x : Int32} : zUp I o j x o j = x := by simp [zUp]
theorem zUp_o {I : zI} {o j a b : Nat} {x : Int32} (h : a ≠ o) : zUp I o j x a b = I a b := by simp [zUp, h]
theorem zUp_j {I : zI} {o j a b : Nat} {x : Int32} (h : b ≠ j) : zUp I o j x a b = I a b := by simp [zUp, h]
theorem zUp_at {I : zI} {o j b : Nat} {x : Int32} : zUp I o j x o b = if b = j then x else I o b := by simp [zUp]
theorem zUp_row {I : zI} {o j : Nat} {x : Int32} : zUp I o j x o = upd (I o) j x := by funext b; simp [zUp, upd]
theorem zUp_off {I : zI} {o j a : Nat} {x : Int32} (h : a ≠ o) : zUp I o j x a = I a := by funext b; simp [zUp, h]
theorem zEnt_congr {G : zG} {va cap : Nat} {I I' : zI} {J : Int64} {E : UInt64} {o : Nat} (h : I' o = I o) : zEnt G va cap I' J E o = zEnt G va cap I J E o := by
  unfold zEnt zFv
  rw [h]
theorem zW_set {G : zG} {va cap : Nat} {I I' : zI} {J J' : Int64} {E E' : UInt64} {o : Nat} {e : va_E} (he : zEnt G va cap I' J' E' o = e) (hne : ∀ q, q < zN → q ≠ o → zEnt G va cap I' J' E' q = zEnt G va cap I J E q) : (zW G va cap I J E).set o (zAd G.2.2.1 va o, e) = zW G va cap I' J' E' := by
  apply List.ext_getElem?
  intro k
  by_cases hk : k = o
  · subst hk
    by_cases ho : k < zN
    · rw [List.getElem?_set_self (by simp [zW, ho]), zW_get ho, he]
    · simp [zW, ho]
  · rw [List.getElem?_set_ne (fun h => hk h.symm)]
    by_cases hz : k < zN
    · rw [zW_get hz, zW_get hz, hne k hz hk]
    · simp [zW, hz]
theorem zAd_ne {φ : Nat → Nat} {va o : Nat} (h : o ≠ 11) : zAd φ va o = φ o := by simp [zAd, h]
theorem zSh_ne {o n k : Nat} (h : zSh o = (k, n)) (hk : k ≠ 3) : o ≠ 11 := by
  intro e
  subst e
  exact hk (congrArg Prod.fst h).symm
/-! classes and their fields -/
def zCls (ci : Nat) : vw_C := match ci with
  | 1 => (RJ4, TJ4, 4) | 4 => (RX0, TX0, 3) | 5 => (RX1, TX1, 5) | 6 => (RX2, TX2, 6) | 7 => (RX3, TX3, 8) | 8 => (RX4, TX4, 11) | 9 => (RX5, TX5, 10) | _ => (RX6, TX6, 21)
def zCk (ci : Nat) : Prop := vwCl[ci]? = some (zCls ci) ∧ zNf ci = (zCls ci).2.2 ∧ (∀ w ∈ u_ws (zCls ci).1 (zCls ci).2.1 (zCls ci).2.2, w ∈ lw_tbl ∧ zGood w = true) ∧ (∀ k, k < (zCls ci).2.2 → parseFieldDescriptor ((zCls ci).2.1 k).2.2.1 = some (zTy ci k)) ∧ (∀ a, a < (zCls ci).2.2 → ∀ b, b < (zCls ci).2.2 → a ≠ b → ((zCls ci).2.1 a).2.1 ≠ ((zCls ci).2.1 b).2.1)
def zFld (own : String) (idx ci k : Nat) : Prop := zCk ci ∧ k < zNf ci ∧ ((Cond.fieldLink own idx ((zCls ci).2.1 k).1 ((zCls ci).2.1 k).2.1 ((zCls ci).2.1 k).2.2.1) ∈ lw_tbl ∨ ∃ host : String, (Cond.fieldLinkNest own idx ((zCls ci).2.1 k).1 ((zCls ci).2.1 k).2.1 ((zCls ci).2.1 k).2.2.1 host) ∈ lw_tbl)
theorem zEnt_obj {G : zG} {va cap : Nat} {I : zI} {J : Int64} {E : UInt64} {o ci : Nat} (h : zSh o = (0, ci)) : zEnt G va cap I J E o = .inr (ci, (List.range (zNf ci)).map (zFv G.2.2.1 va I o ci)) := by
  unfold zEnt; rw [h]; rfl
theorem zEnt_int {G : zG} {va cap : Nat} {I : zI} {J : Int64} {E : UInt64} {o n : Nat} (h : zSh o = (1, n)) : zEnt G va cap I J E o = .inl (G.2.1 1, n, .inl (I o)) := by
  have ho := zSh_ne h (by decide)
  unfold zEnt; rw [h]; simp [ho]
theorem zEnt_char {G : zG} {va cap : Nat} {I : zI} {J : Int64} {E : UInt64} {o n : Nat} (h : zSh o = (2, n)) : zEnt G va cap I J E o = .inl (G.2.1 2, n, .inl (I o)) := by
  have ho := zSh_ne h (by decide)
  unfold zEnt; rw [h]; simp [ho]
theorem zEnt_ref {G : zG} {va cap : Nat} {I : zI} {J : Int64} {E : UInt64} {o k n : Nat} (h : zSh o = (k, n)) (hk : k = 4 ∨ k = 5) : zEnt G va cap I J E o = .inl (G.2.1 k, n, .inr (.inr (.inr (.inr (fun j => (zP o j).map (zAd G.2.2.1 va)))))) := by
  rcases hk with rfl | rfl <;> (unfold zEnt; rw [h]; rfl)
theorem zEnt_lng {G : zG} {va cap : Nat} {I : zI} {J : Int64} {E : UInt64} {o n : Nat} (h : zSh o = (6, n)) : zEnt G va cap I J E o = .inl (G.2.1 6, n, .inr (.inl (fun _ => J))) := by
  unfold zEnt; rw [h]; rfl
theorem zEnt_dbl {G : zG} {va cap : Nat} {I : zI} {J : Int64} {E : UInt64} {o n : Nat} (h : zSh o = (7, n)) : zEnt G va cap I J E o = .inl (G.2.1 7, n, .inr (.inr (.inr (.inl (fun _ => E))))) := by
  unfold zEnt; rw [h]; rfl
section ZR
variable {G : zG} {X : zX} {M : zM} {d mc ms a b pc : Nat} {ls : List (Option Value)} {st : List Value} {I : zI} {J : Int64} {E : UInt64}
theorem sw_getI (C : zOK G X M d mc ms) {o ci j idx : Nat} (hF : zFld M.1.cls idx ci j) (hs : zSh o = (0, ci)) (ho : o < zN) (ht : zIsR (zTy ci j) = false) (hd : decode M.2.1 pc = .ok (.getfield idx, 3)) (k : SW G X a b (pc + 3) ls (.int (I o j) :: st) I J E) : SW G X a b pc ls (.ref o :: st) I J E := by
  obtain ⟨p, l, e, R, s, m, args, below, meth, c, Q⟩ := X
  intro H locs arr hl hn hR hS
  obtain ⟨hx, hb, hml, hown, hlk, hr, ⟨hT, hK, -⟩, -⟩ := id C
  obtain ⟨⟨hc, hN, hws, -⟩, hj, hlink⟩ := hF
  obtain ⟨va, cap, hP, hD⟩ := id hR
  have hj2 : j < (zCls ci).2.2 := hN ▸ hj
  have hin : ∀ w ∈ u_ws (zCls ci).1 (zCls ci).2.1 (zCls ci).2.2, w ∈ u_ws (zCls ci).1 (zCls ci).2.1 (zCls ci).2.2 := fun w h => h
  have hts : ∀ w ∈ u_ws (zCls ci).1 (zCls ci).2.1 (zCls ci).2.2, w.before args s = true := fun w h => hT w (hws w h).1 (hws w h).2 args
  have he := zW_get (G := G) (va := va) (cap := cap) (I := I) (J := J) (E := E) ho
  rw [zEnt_obj hs, zAd_ne (zSh_ne hs (by decide))] at he
  have hv : ((List.range (zNf ci)).map (zFv G.2.2.1 va I o ci))[j]? = some (.int (I o j)) := by
    simp [hj, zFv, ht]
  have kk := k H locs arr hl hn hR hS
  rcases hlink with h | ⟨host, h⟩
  · exact va_get hx hb hts hin hown hK hP o he hc j hj2 (hT _ h rfl args) (fun _ h => h) hv hd kk
  · exact va_getN hx hb hts hin hown hK hP o he hc j hj2 (hT _ h rfl args) (fun _ h => h) hv hd kk
theorem sw_getR (C : zOK G X M d mc ms) {o o' ci j idx : Nat} (hF : zFld M.1.cls idx ci j) (hs : zSh o = (0, ci)) (ho : o < zN) (ht : zIsR (zTy ci j) = true) (hp : zP o j = some o') (ho' : o' ≠ 11) (hd : decode M.2.1 pc = .ok (.getfield idx, 3)) (k : SW G X a b (pc + 3) ls (.ref o' :: st) I J E) : SW G X a b pc ls (.ref o :: st) I J E := by
  obtain ⟨p, l, e, R, s, m, args, below, meth, c, Q⟩ := X
  intro H locs arr hl hn hR hS
  obtain ⟨hx, hb, hml, hown, hlk, hr, ⟨hT, hK, -⟩, -⟩ := id C
  obtain ⟨⟨hc, hN, hws, -⟩, hj, hlink⟩ := hF
  obtain ⟨va, cap, hP, hD⟩ := id hR
  have hj2 : j < (zCls ci).2.2 := hN ▸ hj
  have hin : ∀ w ∈ u_ws (zCls ci).1 (zCls ci).2.1 (zCls ci).2.2, w ∈ u_ws (zCls ci).1 (zCls ci).2.1 (zCls ci).2.2 := fun w h => h
  have hts : ∀ w ∈ u_ws (zCls ci).1 (zCls ci).2.1 (zCls ci).2.2, w.before args s = true := fun w h => hT w (hws w h).1 (hws w h).2 args
  have he := zW_get (G := G) (va := va) (cap := cap) (I := I) (J := J) (E := E) ho
  rw [zEnt_obj hs, zAd_ne (zSh_ne hs (by decide))] at he
  have hv : ((List.range (zNf ci)).map (zFv G.2.2.1 va I o ci))[j]? = some (.ref (G.2.2.1 o')) := by
    simp [hj, zFv, ht, hp, va_rf, zAd_ne ho']
  have kk := k H locs arr hl hn hR hS
  rcases hlink with h | ⟨host, h⟩
  · exact va_get hx hb hts hin hown hK hP o he hc j hj2 (hT _ h rfl args) (fun _ h => h) hv hd kk
  · exact va_getN hx hb hts hin hown hK hP o he hc j hj2 (hT _ h rfl args) (fun _ h => h) hv hd kk
theorem zSet_obj {va cap o ci j : Nat} {x : Int32} (hs : zSh o = (0, ci)) (ht : zIsR (zTy ci j) = false) (hj : j < zNf ci) : (zW G va cap I J E).set o (zAd G.2.2.1 va o, .inr (ci, ((List.range (zNf ci)).map (zFv G.2.2.1 va I o ci)).set j (.int x))) = zW G va cap (zUp I o j x) J E := by
  refine zW_set ?_ (fun q _ hq => zEnt_congr (zUp_off hq))
  rw [zEnt_obj hs]
  congr 2
  apply List.ext_getElem?
  intro k
  by_cases hk : k = j
  · subst hk
    rw [List.getElem?_set_self (by simpa using hj)]
    simp [hj, zFv, ht, zUp_s]
  · rw [List.getElem?_set_ne (fun h => hk h.symm)]
    simp only [List.getElem?_map]
    cases hkr : (List.range (zNf ci))[k]? with
    | none => rfl
    | some y =>
      have hy : y = k := by
        have := List.getElem?_eq_some_iff.mp hkr
        obtain ⟨h1, h2⟩ := this
        simpa using h2.symm
      subst hy
      simp [zFv, zUp_j hk]
theorem sw_putI (C : zOK G X M d mc ms) {o ci j idx : Nat} {x : Int32} {ty : FieldType} (hF : zFld M.1.cls idx ci j) (hs : zSh o = (0, ci)) (ho : o < zN) (ht : zTy ci j = ty) (hr : zIsR ty = false) (hfin : ((zCls ci).2.1 j).2.2.2 = false) (hn0 : narrow ty (.int x) = .int x) (hft : fits ty (.int x) = true) (hd : decode M.2.1 pc = .ok (.putfield idx, 3)) (k : SW G X a b (pc + 3) ls st (zUp I o j x) J E) : SW G X a b pc ls (.int x :: .ref o :: st) I J E := by
  obtain ⟨p, l, e, R, s, m, args, below, meth, c, Q⟩ := X
  intro H locs arr hl hn hR hS
  obtain ⟨hx, hb, hml, hown, hlk, hrt, ⟨hT, hK, -⟩, -⟩ := id C
  obtain ⟨⟨hc, hN, hws, hty, hnm⟩, hj, hlink⟩ := hF
  obtain ⟨va, cap, hP, hD⟩ := id hR
  have hj2 : j < (zCls ci).2.2 := hN ▸ hj
  have hin : ∀ w ∈ u_ws (zCls ci).1 (zCls ci).2.1 (zCls ci).2.2, w ∈ u_ws (zCls ci).1 (zCls ci).2.1 (zCls ci).2.2 := fun w h => h
  have hts : ∀ w ∈ u_ws (zCls ci).1 (zCls ci).2.1 (zCls ci).2.2, w.before args s = true := fun w h => hT w (hws w h).1 (hws w h).2 args
  have he := zW_get (G := G) (va := va) (cap := cap) (I := I) (J := J) (E := E) ho
  have hset := zSet_obj (G := G) (va := va) (cap := cap) (I := I) (J := J) (E := E) (x := x) hs (by rw [ht]; exact hr) hj
  rw [zAd_ne (zSh_ne hs (by decide))] at he hset
  rw [zEnt_obj hs] at he
  have kk : ∀ (H1 : Heap) (locs1 : List Loc), va_P G.1 vwCl ((zW G va cap I J E).set o (G.2.2.1 o, .inr (ci, ((List.range (zNf ci)).map (zFv G.2.2.1 va I o ci)).set j (.int x)))) H1 → va_D (zA G) ((zW G va cap I J E).set o (G.2.2.1 o, .inr (ci, ((List.range (zNf ci)).map (zFv G.2.2.1 va I o ci)).set j (.int x)))) → va_S (zA G) s.heap H1 locs1 → W p l e R s m args below meth c H1 locs1 a b Q (F0 m (pc + 3) arr (st.map (zTr G.2.2.1))) := by
    intro H1 locs1 hP1 hD1 hS1
    rw [hset] at hP1 hD1
    exact k H1 locs1 arr hl hn ⟨va, cap, hP1, hD1⟩ hS1
  rcases hlink with h | ⟨host, h⟩
  · exact va_put hx hb hts hin (zTy ci) hty hnm hown hK hP hD hS o he hc j hj2 (hT _ h rfl args) (fun _ h => h) hfin (ht ▸ hty j hj2) hn0 hft (by simpa using hj) hd kk
  · exact va_putN hx hb hts hin (zTy ci) hty hnm hown hK hP hD hS o he hc j hj2 (hT _ h rfl args) (fun _ h => h) hfin (ht ▸ hty j hj2) hn0 hft (by simpa using hj) hd kk
theorem sw_iald (C : zOK G X M d mc ms) {o n : Nat} {i : Int32} (hs : zSh o = (1, n)) (ho : o < zN) (hin : vp_in i n) (hd : decode M.2.1 pc = .ok (.iaload, 1)) (k : SW G X a b (pc + 1) ls (.int (I o i.toNatClampNeg) :: st) I J E) : SW G X a b pc ls (.int i :: .ref o :: st) I J E := by
  obtain ⟨p, l, e, R, s, m, args, below, meth, c, Q⟩ := X
  intro H locs arr hl hn hR hS
  obtain ⟨hx, hb, hml, hown, hlk, hrt, ⟨hT, hK, -⟩, -⟩ := id C
  obtain ⟨va, cap, hP, hD⟩ := id hR
  have he := zW_get (G := G) (va := va) (cap := cap) (I := I) (J := J) (E := E) ho
  rw [zAd_ne (zSh_ne hs (by decide)), zEnt_int hs] at he
  exact va_iald hx hb hK hP o 0 he (zTys_get (by decide)) hin hd (k H locs arr hl hn hR hS)
theorem sw_iast (C : zOK G X M d mc ms) {o n : Nat} {i x : Int32} (hs : zSh o = (1, n)) (ho : o < zN) (hin : vp_in i n) (hd : decode M.2.1 pc = .ok (.iastore, 1)) (k : SW G X a b (pc + 1) ls st (zUp I o i.toNatClampNeg x) J E) : SW G X a b pc ls (.int x :: .int i :: .ref o :: st) I J E := by
  obtain ⟨p, l, e, R, s, m, args, below, meth, c, Q⟩ := X
  intro H locs arr hl hn hR hS
  obtain ⟨hx, hb, hml, hown, hlk, hrt, ⟨hT, hK, -⟩, -⟩ := id C
  obtain ⟨va, cap, hP, hD⟩ := id hR
  have he := zW_get (G := G) (va := va) (cap := cap) (I := I) (J := J) (E := E) ho
  have hset : (zW G va cap I J E).set o (zAd G.2.2.1 va o, .inl (G.2.1 1, n, .inl (upd (I o) i.toNatClampNeg x))) = zW G va cap (zUp I o i.toNatClampNeg x) J E := zW_set (by rw [zEnt_int hs, zUp_row]) (fun q _ hq => zEnt_congr (zUp_off hq))
  rw [zAd_ne (zSh_ne hs (by decide))] at he hset
  rw [zEnt_int hs] at he
  refine va_iast hx hb hK hP hD hS o 0 he (zTys_get (by decide)) hin hd (fun H1 locs1 hP1 hD1 hS1 => ?_)
  rw [hset] at hP1 hD1
  exact k H1 locs1 arr hl hn ⟨va, cap, hP1, hD1⟩ hS1
theorem sw_cald (C : zOK G X M d mc ms) {o n : Nat} {i : Int32} (hs : zSh o = (2, n)) (ho : o < zN) (hin : vp_in i n) (hd : decode M.2.1 pc = .ok (.caload, 1)) (k : SW G X a b (pc + 1) ls (.int (I o i.toNatClampNeg) :: st) I J E) : SW G X a b pc ls (.int i :: .ref o :: st) I J E := by
  obtain ⟨p, l, e, R, s, m, args, below, meth, c, Q⟩ := X
  intro H locs arr hl hn hR hS
  obtain ⟨hx, hb, hml, hown, hlk, hrt, ⟨hT, hK, -⟩, -⟩ := id C
  obtain ⟨va, cap, hP, hD⟩ := id hR
  have he := zW_get (G := G) (va := va) (cap := cap) (I := I) (J := J) (E := E) ho
  rw [zAd_ne (zSh_ne hs (by decide)), zEnt_char hs] at he
  exact va_cald hx hb hK hP o 1 he (zTys_get (by decide)) hin hd (k H locs arr hl hn hR hS)
theorem sw_cast (C : zOK G X M d mc ms) {o n : Nat} {i x : Int32} (hs : zSh o = (2, n)) (ho : o < zN) (hin : vp_in i n) (hd : decode M.2.1 pc = .ok (.castore, 1)) (k : SW G X a b (pc + 1) ls st (zUp I o i.toNatClampNeg (vp_nar .char x)) J E) : SW G X a b pc ls (.int x :: .int i :: .ref o :: st) I J E := by
  obtain ⟨p, l, e, R, s, m, args, below, meth, c, Q⟩ := X
  intro H locs arr hl hn hR hS
  obtain ⟨hx, hb, hml, hown, hlk, hrt, ⟨hT, hK, -⟩, -⟩ := id C
  obtain ⟨va, cap, hP, hD⟩ := id hR
  have he := zW_get (G := G) (va := va) (cap := cap) (I := I) (J := J) (E := E) ho
  have hset : (zW G va cap I J E).set o (zAd G.2.2.1 va o, .inl (G.2.1 2, n, .inl (upd (I o) i.toNatClampNeg (vp_nar .char x)))) = zW G va cap (zUp I o i.toNatClampNeg (vp_nar .char x)) J E := zW_set (by rw [zEnt_char hs, zUp_row]) (fun q _ hq => zEnt_congr (zUp_off hq))
  rw [zAd_ne (zSh_ne hs (by decide))] at he hset
  rw [zEnt_char hs] at he
  refine va_cast hx hb hK hP hD hS o 1 he (zTys_get (by decide)) hin hd (fun H1 locs1 hP1 hD1 hS1 => ?_)
  rw [hset] at hP1 hD1
  exact k H1 locs1 arr hl hn ⟨va, cap, hP1, hD1⟩ hS1
theorem sw_aald (C : zOK G X M d mc ms) {o o' n : Nat} {i : Int32} {kd : Nat} (hs : zSh o = (kd, n)) (hkd : kd = 4 ∨ kd = 5) (ho : o < zN) (hin : vp_in i n) (hp : zP o i.toNatClampNeg = some o') (ho' : o' ≠ 11) (hd : decode M.2.1 pc = .ok (.aaload, 1)) (k : SW G X a b (pc + 1) ls (.ref o' :: st) I J E) : SW G X a b pc ls (.int i :: .ref o :: st) I J E := by
  obtain ⟨p, l, e, R, s, m, args, below, meth, c, Q⟩ := X
  intro H locs arr hl hn hR hS
  obtain ⟨hx, hb, hml, hown, hlk, hrt, ⟨hT, hK, -⟩, -⟩ := id C
  obtain ⟨va, cap, hP, hD⟩ := id hR
  have he := zW_get (G := G) (va := va) (cap := cap) (I := I) (J := J) (E := E) ho
  rw [zAd_ne (zSh_ne hs (by omega)), zEnt_ref hs hkd] at he
  have kk := k H locs arr hl hn hR hS
  have e1 : (F0 m (pc + 1) arr (va_rf ((fun j => (zP o j).map (zAd G.2.2.1 va)) i.toNatClampNeg) :: st.map (zTr G.2.2.1))) = F0 m (pc + 1) arr ((Value.ref o' :: st).map (zTr G.2.2.1)) := by
    simp [hp, va_rf, zTr, zAd_ne ho']
  rcases hkd with rfl | rfl
  · exact va_aldq hx hb hK hP o 3 he (zTys_get (by decide)) hin hd (e1 ▸ kk)
  · exact va_aldq hx hb hK hP o 4 he (zTys_get (by decide)) hin hd (e1 ▸ kk)
end ZR
end
section
/-! ends and calls -/
section ZC
variable {G : zG} {X : zX} {M : zM} {d mc ms a b pc : Nat} {ls : List (Option Value)} {st : List Value} {I : zI} {J : Int64} {E : UInt64}
theorem sw_iret (C : zOK G X M d mc ms) {v : Int32} {r : Option Value} {I' : zI} {J' : Int64} {E' : UInt64} {ty : FieldType} (hr : M.2.2.2 = some ty) (hn0 : narrow ty (.int v) = .int v) (hF : zFin G X mc ms r I' J' E') (hd : decode M.2.1 pc = .ok (.ireturn, 1)) (ha : a ≤ mc) (hb : b ≤ ms) (e1 : some (.int v) = r) (e2 : I = I') (e3 : J = J') (e4 : E = E') : SW G X a b pc ls [.int v] I J E := by
  obtain ⟨p, l, e, R, s, m, args, below, meth, c, Q⟩ := X
  subst e1; subst e2; subst e3; subst e4
  intro H locs arr hl hn hR hS
  have hQ : Q = MQ below (zQc G (some (.int v)) I J E) args s mc ms (zA G) := hF
  subst hQ
  refine W.widen ha hb ?_
  exact W.zret C.1 C.2.1 (C.2.2.2.2.2.1.trans hr) hn0 (fun t ht hw => ⟨rfl, by rw [ht]; exact hR, hS.F ht⟩) (fun q hq => hS.2.2 q hq) hd C.2.2.2.2.1
theorem sw_vret (C : zOK G X M d mc ms) {I' : zI} {J' : Int64} {E' : UInt64} (hr : M.2.2.2 = none) (hF : zFin G X mc ms none I' J' E') (hd : decode M.2.1 pc = .ok (.return_, 1)) (ha : a ≤ mc) (hb : b ≤ ms) (e2 : I = I') (e3 : J = J') (e4 : E = E') : SW G X a b pc ls [] I J E := by
  obtain ⟨p, l, e, R, s, m, args, below, meth, c, Q⟩ := X
  subst e2; subst e3; subst e4
  intro H locs arr hl hn hR hS
  have hQ : Q = MQ below (zQc G none I J E) args s mc ms (zA G) := hF
  subst hQ
  refine W.widen ha hb ?_
  exact W.vret C.1 C.2.1 (C.2.2.2.2.2.1.trans hr) (fun t ht hw => ⟨rfl, by rw [ht]; exact hR, hS.F ht⟩) (fun q hq => hS.2.2 q hq) hd C.2.2.2.2.1
/-! words of a method and of a call -/
def zMeB (M : zM) (n : Nat) : Prop := Cond.code M.1 M.2.1 M.2.2.1 M.2.2.2 ∈ lw_tbl ∧ Cond.initialized M.1.cls ∈ lw_tbl ∧ (M.1.cls ≠ "java/lang/invoke/MethodHandle" ∧ M.1.cls ≠ "java/lang/invoke/VarHandle") ∧ (parseMethodDescriptor M.1.desc).map (fun d => d.parameters.length) = some n ∧ M.2.2.1 ≤ 40
def zMeV (M : zM) (n : Nat) : Prop := zMeB M n ∧ Cond.instanceMethod M.1 ∈ lw_tbl ∧ Cond.selects M.1.cls M.1 M.1 ∈ lw_tbl
def zMeS (M : zM) (n : Nat) : Prop := zMeB M n ∧ Cond.static M.1 ∈ lw_tbl
def zLk (own : String) (idx : Nat) (y : MethodName) : Prop := Cond.methodLink own idx y ∈ lw_tbl ∨ ∃ host : String, Cond.methodLinkNest own idx y host ∈ lw_tbl
theorem zCode_ws {s : State} {M : zM} {n : Nat} (hT : zTW s) (hM : zMeB M n) : ∀ w ∈ ([Cond.code M.1 M.2.1 M.2.2.1 M.2.2.2] : List Cond), ∀ (a' : Array Value) (U : State), s.WarmedH U.vm → w.before a' U = true := by
  intro w hw a' U hW
  rw [List.mem_singleton] at hw
  subst hw
  exact (hT.moved hW) _ hM.1 rfl a'
theorem zBlind {G : zG} {as : List Value} {I : zI} {J : Int64} {E : UInt64} : FrameBlind (zPc G as I J E) := by
  intro a U g mk ⟨h1, h2, h3⟩
  exact ⟨h1, h2, h3.to (State.WarmedH.refl U) va_S.rf⟩
theorem zNpar {y : MethodName} {n : Nat} (h : (parseMethodDescriptor y.desc).map (fun d => d.parameters.length) = some n) : ∀ sig, parseMethodDescriptor y.desc = some sig → n = sig.parameters.length := by
  intro sig h2
  rw [h2] at h
  exact (Option.some.inj h).symm
theorem zRecv {s : State} {H : Heap} {va cap o ci : Nat} {C : String} (hK : va_K G.1 vwCl (zTys G.2.1) s) (hP : va_P G.1 vwCl (zW G va cap I J E) H) (hs : zSh o = (0, ci)) (ho : o < zN) (hc : vwCl[ci]? = some (zCls ci)) (hC : (zCls ci).1 = C) : ∃ cell : Cell, H[G.2.2.1 o]? = some cell ∧ cell.vm.isStatics = false ∧ s.vm.findClass C = some cell.cls := by
  have he := zW_get (G := G) (va := va) (cap := cap) (I := I) (J := J) (E := E) ho
  rw [zEnt_obj hs, zAd_ne (zSh_ne hs (by decide))] at he
  subst hC
  exact va_recv hK hP hc he
theorem zMapRev (φ : Nat → Nat) (as st : List Value) : (as.reverse ++ st).map (zTr φ) = (as.map (zTr φ)).reverse ++ st.map (zTr φ) := by simp
/-- after a call that returned -/
theorem sw_back {p : Program} {l : Launch} {e : Env} {R : Room} {s : State} {m : MethodId} {args : Array Value} {below : List Frame} {meth : Method} {c : Code} {Q : State → Prop} {H : Heap} {locs : List Loc} {arr : Array Slot} {mc' ms' : Nat} {st0 : List Value} {as : Array Value} {r : Option Value} {I' : zI} {J' : Int64} {E' : UInt64} (hl : zHas G.2.2.1 arr ls) (hn : ls.length = c.maxLocals) (hS : va_S (zA G) s.heap H locs)
    (run : va_Run p l e R s m args below meth c H locs a b mc' ms' (F0 m pc arr st0) (st.map (zTr G.2.2.1)) (zQc G r I' J' E' as) (zA G)) (k : SW G (p, l, e, R, s, m, args, below, meth, c, Q) (a + mc') (b + ms') (pc + 3) ls (r.toList ++ st) I' J' E') : W p l e R s m args below meth c H locs a b Q (F0 m pc arr st0) := by
  intro T hT X0
  obtain ⟨v, st₀, t, T', L, h0, X', hL, e1, e2, ⟨hv, hR', hF'⟩, hst⟩ := run T hT X0
  have hv : v = r.map (zTr G.2.2.1) := by injection hv
  subst hv
  obtain ⟨g1, g2, g3⟩ := vx_keep (A1 := zA G) (T' := T') h0 e1 hS (fun _ _ h => h) (fun _ h => h) hL hF'
  have e3 : (r.map (zTr G.2.2.1)).toList ++ st.map (zTr G.2.2.1) = (r.toList ++ st).map (zTr G.2.2.1) := by cases r <;> simp
  obtain ⟨t2, a1, b1⟩ := k T'.heap (locs ++ L) arr hl hn (by rw [e1]; exact hR') g3 T' rfl X'
  refine ⟨t2, hst t2 ?_, b1⟩
  rw [show ({ F0 m pc arr st0 with pc := (F0 m pc arr st0).pc + 3, stack := (r.map (zTr G.2.2.1)).toList ++ st.map (zTr G.2.2.1) } : JFrame) = F0 m (pc + 3) arr ((r.toList ++ st).map (zTr G.2.2.1)) by rw [← e3]]
  exact a1
theorem sw_callV (C : zOK G X M d mc ms) {M' : zM} {d' mc' ms' n ci o idx : Nat} {as : List Value} {r : Option Value} {I' : zI} {J' : Int64} {E' : UInt64} (hM : zMeV M' n) (hL : zLk M.1.cls idx M'.1) (hs : zSh o = (0, ci)) (ho : o < zN) (hc : vwCl[ci]? = some (zCls ci)) (hC : (zCls ci).1 = M'.1.cls) (hd : decode M.2.1 pc = .ok (.invokevirtual idx, 3)) (hn0 : as.length = n) (hr : (st.map (fun v => v.category)).sum ≤ 8) (h : zCR X.2.1 G M' d' mc' ms' (.ref o :: as) I J E r I' J' E') (hdd : d' + 1 ≤ d) (ha : a + mc' ≤ mc) (hb : b + ms' ≤ ms) (k : SW G X (a + mc') (b + ms') (pc + 3) ls (r.toList ++ st) I' J' E') : SW G X a b pc ls (as.reverse ++ .ref o :: st) I J E := by
  obtain ⟨p, l, e, R, s, m, args, below, meth, c, Q⟩ := X
  intro H locs arr hl hn hR hS
  obtain ⟨hx, hbb, hml, hown, hlk, hrt, hF, hRm, hfl⟩ := id C
  have hRm : R = zRm d mc ms := hRm
  subst hRm
  obtain ⟨va, cap, hP, hD⟩ := id hR
  obtain ⟨hMB, hMi, hMs⟩ := hM
  obtain ⟨hw1, hw2, hne, hpar, hmx⟩ := id hMB
  have hT := hF.1
  have hcat : (((st.map (zTr G.2.2.1))).map fun v => v.category).sum ≤ 8 := by
    rw [List.map_map]
    rw [show ((fun v : Value => v.category) ∘ zTr G.2.2.1) = (fun v => v.category) from funext (fun v => zTr_cat _ v)]
    exact hr
  have hstk : (as.reverse ++ Value.ref o :: st).map (zTr G.2.2.1) = (as.map (zTr G.2.2.1)).reverse ++ Value.ref (G.2.2.1 o) :: st.map (zTr G.2.2.1) := by simp [zTr]
  have hrecv := zRecv (s := s) hF.2.1 hP hs ho hc hC
  have hpre : PreV s H M'.1.cls (G.2.2.1 o) (zPc G (.ref o :: as) I J E) (as.map (zTr G.2.2.1)) :=
    ⟨zBlind, hrecv, fun U hU hW => ⟨rfl, by rw [hU]; exact hR, by rw [hU]; exact hF.to hW hS⟩⟩
  have hroom : (zRm d' mc' ms').frames + 1 ≤ (zRm d mc ms).frames ∧ 8 + (M'.2.2.1 + 11) + (zRm d' mc' ms').locals ≤ (zRm d mc ms).locals := by
    simp only [zRm]; omega
  have hCB : ∀ hlink : (Cond.methodLink M.1.cls idx M'.1).before args s = true, CallB (zRm d mc ms) s args M.1.cls idx M'.1 M'.2.1 M'.2.2.1 M'.2.2.2 [Cond.code M'.1 M'.2.1 M'.2.2.1 M'.2.2.2] (zRm d' mc' ms') mc' ms' n := fun hlink =>
    ⟨rfl, rfl, hroom.1, hroom.2, zCode_ws hT hMB, List.mem_singleton.mpr rfl, hT _ hw1 rfl args, hT _ hw2 rfl args, hne, zNpar hpar, hlink⟩
  rw [hstk]
  rcases hL with hL | ⟨host, hL⟩
  · exact sw_back hl hn hS (va_runV (nL := ls.length) (Ts := []) ⟨hx, hbb, hn.symm, hown, fun w hw => by cases hw⟩ h ⟨hCB (hT _ hL rfl args), hT _ hMi rfl args, hT _ hMs rfl args⟩ hpre rfl (by simp [hn0]) hl.1 rfl (by simpa [JFrame.monitorRoom] using hcat) hd ⟨ha, hb⟩) k
  · exact sw_back hl hn hS (va_runVN (nL := ls.length) (Ts := []) (host := host) ⟨hx, hbb, hn.symm, hown, fun w hw => by cases hw⟩ h ⟨⟨⟨rfl, rfl, hroom.1, hroom.2, zCode_ws hT hMB, List.mem_singleton.mpr rfl⟩, hT _ hw1 rfl args, hT _ hw2 rfl args, hne, zNpar hpar, hT _ hL rfl args⟩, hT _ hMi rfl args, hT _ hMs rfl args⟩ hpre rfl (by simp [hn0]) hl.1 rfl (by simpa [JFrame.monitorRoom] using hcat) hd ⟨ha, hb⟩) k
theorem sw_callS (C : zOK G X M d mc ms) {M' : zM} {d' mc' ms' n idx : Nat} {as : List Value} {r : Option Value} {I' : zI} {J' : Int64} {E' : UInt64} (hM : zMeS M' n) (hL : zLk M.1.cls idx M'.1) (hd : decode M.2.1 pc = .ok (.invokestatic idx, 3)) (hn0 : as.length = n) (hr : (st.map (fun v => v.category)).sum ≤ 8) (h : zCR X.2.1 G M' d' mc' ms' as I J E r I' J' E') (hdd : d' + 1 ≤ d) (ha : a + mc' ≤ mc) (hb : b + ms' ≤ ms) (k : SW G X (a + mc') (b + ms') (pc + 3) ls (r.toList ++ st) I' J' E') : SW G X a b pc ls (as.reverse ++ st) I J E := by
  obtain ⟨p, l, e, R, s, m, args, below, meth, c, Q⟩ := X
  intro H locs arr hl hn hR hS
  obtain ⟨hx, hbb, hml, hown, hlk, hrt, hF, hRm, hfl⟩ := id C
  have hRm : R = zRm d mc ms := hRm
  subst hRm
  obtain ⟨hMB, hMi⟩ := hM
  obtain ⟨hw1, hw2, hne, hpar, hmx⟩ := id hMB
  have hT := hF.1
  have hcat : (((st.map (zTr G.2.2.1))).map fun v => v.category).sum ≤ 8 := by
    rw [List.map_map]
    rw [show ((fun v : Value => v.category) ∘ zTr G.2.2.1) = (fun v => v.category) from funext (fun v => zTr_cat _ v)]
    exact hr
  have hpre : PreS s H (zPc G as I J E) (as.map (zTr G.2.2.1)) :=
    ⟨zBlind, fun U hU hW => ⟨rfl, by rw [hU]; exact hR, by rw [hU]; exact hF.to hW hS⟩⟩
  have hroom : (zRm d' mc' ms').frames + 1 ≤ (zRm d mc ms).frames ∧ 8 + (M'.2.2.1 + 11) + (zRm d' mc' ms').locals ≤ (zRm d mc ms).locals := by
    simp only [zRm]; omega
  have hCB : ∀ hlink : (Cond.methodLink M.1.cls idx M'.1).before args s = true, CallB (zRm d mc ms) s args M.1.cls idx M'.1 M'.2.1 M'.2.2.1 M'.2.2.2 [Cond.code M'.1 M'.2.1 M'.2.2.1 M'.2.2.2] (zRm d' mc' ms') mc' ms' n := fun hlink =>
    ⟨rfl, rfl, hroom.1, hroom.2, zCode_ws hT hMB, List.mem_singleton.mpr rfl, hT _ hw1 rfl args, hT _ hw2 rfl args, hne, zNpar hpar, hlink⟩
  rw [zMapRev]
  rcases hL with hL | ⟨host, hL⟩
  · exact sw_back hl hn hS (va_runS (nL := ls.length) (Ts := []) ⟨hx, hbb, hn.symm, hown, fun w hw => by cases hw⟩ h ⟨hCB (hT _ hL rfl args), hT _ hMi rfl args⟩ hpre rfl (by simp [hn0]) hl.1 rfl (by simpa [JFrame.monitorRoom] using hcat) hd ⟨ha, hb⟩) k
  · exact sw_back hl hn hS (va_runSN (nL := ls.length) (Ts := []) (host := host) ⟨hx, hbb, hn.symm, hown, fun w hw => by cases hw⟩ h ⟨⟨⟨rfl, rfl, hroom.1, hroom.2, zCode_ws hT hMB, List.mem_singleton.mpr rfl⟩, hT _ hw1 rfl args, hT _ hw2 rfl args, hne, zNpar hpar, hT _ hL rfl args⟩, hT _ hMi rfl args, trivial⟩ hpre rfl (by simp [hn0]) hl.1 rfl (by simpa [JFrame.monitorRoom] using hcat) hd ⟨ha, hb⟩) k
end ZC
end
section
/-! throws -/
def zThrow (own : String) (ic : Nat) (cls : String) (names : List String) : Prop := Bundle.fit cls = true ∧ (∀ n ∈ names, Bundle.fit n = true) ∧ (∀ w ∈ vx_atS own ic cls names, w ∈ lw_tbl ∧ zGood w = true ∧ vx_ot w = true) ∧ Cond.initialized cls ∈ lw_tbl
section ZT
variable {G : zG} {X : zX} {M : zM} {d mc ms a b pc : Nat} {ls : List (Option Value)} {st : List Value} {I : zI} {J : Int64} {E : UInt64}
theorem zRep.grow {H H1 : Heap} (h : zRep G I J E H) (hq : ∀ q : Nat, q < H.size → H1[q]? = H[q]?) : zRep G I J E H1 := by
  obtain ⟨va, cap, hP, hD⟩ := h
  exact ⟨va, cap, fun k q hk => (hP k q hk).kept (hq _ (hP k q hk).lt), hD⟩
theorem sw_throw (C : zOK G X M d mc ms) {cls text : String} {names : List String} {ik is ic : Nat} (hB : zThrow M.1.cls ic cls names) (hk : Cond.classLink M.1.cls ik cls ∈ lw_tbl) (hs : (M.1.cls, is, text) ∈ zStrs) (hF : zFinT G X mc ms cls I J E) (d0 : decode M.2.1 pc = .ok (.new ik, 3)) (d3 : decode M.2.1 (pc + 3) = .ok (.dup, 1)) (d4 : decode M.2.1 (pc + 4) = .ok (.ldc is, 2)) (d6 : decode M.2.1 (pc + 6) = .ok (.invokespecial ic, 3)) (d9 : decode M.2.1 (pc + 9) = .ok (.athrow, 1)) (hlen : names.length ≤ 3) (hst : (st.map (fun v => v.category)).sum ≤ 8) (ha : a + 1 ≤ mc) (hb : b + 6 ≤ ms) : SW G X a b pc ls st I J E := by
  obtain ⟨p, l, e, R, s, m, args, below, meth, c, Q⟩ := X
  intro H locs arr hl hn hR hS
  obtain ⟨hx, hbb, hml, hown, hlk, hrt, ⟨hT, hK, hU, hN, hStr, hbase⟩, hRm, hfl⟩ := id C
  have hRm : R = zRm d mc ms := hRm
  subst hRm
  obtain ⟨hQ, hex⟩ := hF
  subst hQ
  obtain ⟨hf1, hf2, hw, hini⟩ := hB
  obtain ⟨sa, hsa⟩ := hStr _ hs
  have hcat : (((st.map (zTr G.2.2.1))).map fun v => v.category).sum ≤ 8 := by
    rw [List.map_map]
    rw [show ((fun v : Value => v.category) ∘ zTr G.2.2.1) = (fun v => v.category) from funext (fun v => zTr_cat _ v)]
    exact hst
  refine vx_throwS (A := zA G) hx hbb hfl hown hf1 hf2 (hT _ hk rfl args) (hT _ hini rfl args) hsa (fun w h => hT w (hw w h).1 (hw w h).2.1 args) ?_ hU hN hS (by rw [hl.1]; exact hn) d0 d3 d4 d6 d9 (fun x hx => (hex x hx).elim) ?_ ?_ ha hb hlk ?_ (fun q hq => hS.2.2 q hq) ha hb
  · intro w h
    rcases List.mem_cons.mp h with rfl | h
    · rfl
    · rcases List.mem_cons.mp h with rfl | h
      · rfl
      · exact (hw w h).2.2
  · simp only [zRm]; omega
  · simp only [zRm]; omega
  · intro t _ h1 h2
    exact ⟨rfl, hR.grow h2, Nat.le_trans hS.1 h1, fun q hq hA => (h2 q (Nat.lt_of_lt_of_le hq hS.1)).trans (hS.2.1 q hq hA)⟩
theorem sw_throwW (C : zOK G X M d mc ms) {cls text : String} {names : List String} {ik is ic : Nat} (hB : zThrow M.1.cls ic cls names) (hk : Cond.classLink M.1.cls ik cls ∈ lw_tbl) (hs : (M.1.cls, is, text) ∈ zStrs) (hF : zFinT G X mc ms cls I J E) (d0 : decode M.2.1 pc = .ok (.new ik, 3)) (d3 : decode M.2.1 (pc + 3) = .ok (.dup, 1)) (d4 : decode M.2.1 (pc + 4) = .ok (.ldc_w is, 3)) (d6 : decode M.2.1 (pc + 7) = .ok (.invokespecial ic, 3)) (d9 : decode M.2.1 (pc + 10) = .ok (.athrow, 1)) (hlen : names.length ≤ 3) (hst : (st.map (fun v => v.category)).sum ≤ 8) (ha : a + 1 ≤ mc) (hb : b + 6 ≤ ms) : SW G X a b pc ls st I J E := by
  obtain ⟨p, l, e, R, s, m, args, below, meth, c, Q⟩ := X
  intro H locs arr hl hn hR hS
  obtain ⟨hx, hbb, hml, hown, hlk, hrt, ⟨hT, hK, hU, hN, hStr, hbase⟩, hRm, hfl⟩ := id C
  have hRm : R = zRm d mc ms := hRm
  subst hRm
  obtain ⟨hQ, hex⟩ := hF
  subst hQ
  obtain ⟨hf1, hf2, hw, hini⟩ := hB
  obtain ⟨sa, hsa⟩ := hStr _ hs
  have hcat : (((st.map (zTr G.2.2.1))).map fun v => v.category).sum ≤ 8 := by
    rw [List.map_map]
    rw [show ((fun v : Value => v.category) ∘ zTr G.2.2.1) = (fun v => v.category) from funext (fun v => zTr_cat _ v)]
    exact hst
  refine vx_throwSW (A := zA G) hx hbb hfl hown hf1 hf2 (hT _ hk rfl args) (hT _ hini rfl args) hsa (fun w h => hT w (hw w h).1 (hw w h).2.1 args) ?_ hU hN hS (by rw [hl.1]; exact hn) d0 d3 d4 d6 d9 (fun x hx => (hex x hx).elim) ?_ ?_ ha hb hlk ?_ (fun q hq => hS.2.2 q hq) ha hb
  · intro w h
    rcases List.mem_cons.mp h with rfl | h
    · rfl
    · rcases List.mem_cons.mp h with rfl | h
      · rfl
      · exact (hw w h).2.2
  · simp only [zRm]; omega
  · simp only [zRm]; omega
  · intro t _ h1 h2
    exact ⟨rfl, hR.grow h2, Nat.le_trans hS.1 h1, fun q hq hA => (h2 q (Nat.lt_of_lt_of_le hq hS.1)).trans (hS.2.1 q hq hA)⟩
/-- after a call that threw, no handler here -/
theorem sw_outT {p : Program} {l : Launch} {e : Env} {R : Room} {s : State} {m : MethodId} {args : Array Value} {below : List Frame} {meth : Method} {c : Code} {Q : State → Prop} {H : Heap} {locs : List Loc} {arr : Array Slot} {mc' ms' : Nat} {st0 rest : List Value} {as : Array Value} {cls : String} {I' : zI} {J' : Int64} {E' : UInt64} (hlk : meth.locks = false) (hS : va_S (zA G) s.heap H locs) (hF : zFinT G (p, l, e, R, s, m, args, below, meth, c, Q) mc ms cls I' J' E') (ha : a + mc' ≤ mc) (hb : b + ms' ≤ ms)
    (run : vx_Run p l e R s m args below meth c H locs a b mc' ms' (F0 m pc arr st0) rest (zNo as) (zXc G cls I' J' E') (zA G)) : W p l e R s m args below meth c H locs a b Q (F0 m pc arr st0) := by
  obtain ⟨hQ, hex⟩ := hF
  subst hQ
  intro T hT X0
  rcases run T hT X0 with ⟨v, st₀, t, T', L, h0, X', hL, e1, e2, hno, hst⟩ | ⟨q, st₀, t, T', L, E1, ce, h0, X', hL, e1, e2, ⟨rfl, hR', hF'⟩, hce, hvm, hcl, hst⟩
  · exact hno.elim
  · obtain ⟨g1, g2, g3⟩ := vx_keep (A1 := zA G) (T' := T') h0 e1 hS (fun _ _ h => h) (fun _ h => h) hL hF'
    have kk := vx_out (Qc := zNo) (XC := zXc G E1 I' J' E') (free := zA G) (mc := mc) (ms := ms) (pc := pc) (ls := arr) (rest := rest) (p := p) (l := l) (e := e) (R := R) (s := s) (m := m) (args := args) (below := below) (meth := meth) (c := c) (H := T'.heap) (locs := locs ++ L) (cells := a + mc') (slots := b + ms') (E := E1) (ce := ce) (q := q) (fun x hx => (hex x hx).elim) hlk (by rw [e1]; exact hce) hvm hcl (fun u hu _ => ⟨rfl, by rw [hu, e1]; exact hR', g3.F hu⟩) (fun z hz => g3.2.2 z hz) ha hb
    obtain ⟨t2, a1, b1⟩ := kk T' rfl X'
    exact ⟨t2, hst.trans a1, b1⟩
theorem sw_callV_T (C : zOK G X M d mc ms) {M' : zM} {d' mc' ms' n ci o idx : Nat} {as : List Value} {cls : String} {I' : zI} {J' : Int64} {E' : UInt64} (hM : zMeV M' n) (hL : Cond.methodLink M.1.cls idx M'.1 ∈ lw_tbl) (hs : zSh o = (0, ci)) (ho : o < zN) (hc : vwCl[ci]? = some (zCls ci)) (hC : (zCls ci).1 = M'.1.cls) (hd : decode M.2.1 pc = .ok (.invokevirtual idx, 3)) (hn0 : as.length = n) (hr : (st.map (fun v => v.category)).sum ≤ 8) (h : zCT X.2.1 G M' d' mc' ms' (.ref o :: as) I J E cls I' J' E') (hdd : d' + 1 ≤ d) (ha : a + mc' ≤ mc) (hb : b + ms' ≤ ms) (hFT : zFinT G X mc ms cls I' J' E') : SW G X a b pc ls (as.reverse ++ .ref o :: st) I J E := by
  obtain ⟨p, l, e, R, s, m, args, below, meth, c, Q⟩ := X
  intro H locs arr hl hn hR hS
  obtain ⟨hx, hbb, hml, hown, hlk, hrt, hF, hRm, hfl⟩ := id C
  have hRm : R = zRm d mc ms := hRm
  subst hRm
  obtain ⟨va, cap, hP, hD⟩ := id hR
  obtain ⟨hMB, hMi, hMs⟩ := hM
  obtain ⟨hw1, hw2, hne, hpar, hmx⟩ := id hMB
  have hT := hF.1
  have hcat : (((st.map (zTr G.2.2.1))).map fun v => v.category).sum ≤ 8 := by
    rw [List.map_map]
    rw [show ((fun v : Value => v.category) ∘ zTr G.2.2.1) = (fun v => v.category) from funext (fun v => zTr_cat _ v)]
    exact hr
  have hstk : (as.reverse ++ Value.ref o :: st).map (zTr G.2.2.1) = (as.map (zTr G.2.2.1)).reverse ++ Value.ref (G.2.2.1 o) :: st.map (zTr G.2.2.1) := by simp [zTr]
  have hrecv := zRecv (s := s) hF.2.1 hP hs ho hc hC
  have hpre : PreV s H M'.1.cls (G.2.2.1 o) (zPc G (.ref o :: as) I J E) (as.map (zTr G.2.2.1)) :=
    ⟨zBlind, hrecv, fun U hU hW => ⟨rfl, by rw [hU]; exact hR, by rw [hU]; exact hF.to hW hS⟩⟩
  have hroom : (zRm d' mc' ms').frames + 1 ≤ (zRm d mc ms).frames ∧ 8 + (M'.2.2.1 + 11) + (zRm d' mc' ms').locals ≤ (zRm d mc ms).locals := by
    simp only [zRm]; omega
  rw [hstk]
  exact sw_outT hlk hS hFT ha hb (vx_runV (nL := ls.length) (Ts := []) ⟨hx, hbb, hn.symm, hown, fun w hw => by cases hw⟩ h ⟨⟨rfl, rfl, hroom.1, hroom.2, zCode_ws hT hMB, List.mem_singleton.mpr rfl, hT _ hw1 rfl args, hT _ hw2 rfl args, hne, zNpar hpar, hT _ hL rfl args⟩, hT _ hMi rfl args, hT _ hMs rfl args⟩ hpre rfl (by simp [hn0]) hl.1 rfl (by simpa [JFrame.monitorRoom] using hcat) hd ⟨ha, hb⟩)
theorem sw_callS_T (C : zOK G X M d mc ms) {M' : zM} {d' mc' ms' n idx : Nat} {as : List Value} {cls : String} {I' : zI} {J' : Int64} {E' : UInt64} (hM : zMeS M' n) (hL : Cond.methodLink M.1.cls idx M'.1 ∈ lw_tbl) (hd : decode M.2.1 pc = .ok (.invokestatic idx, 3)) (hn0 : as.length = n) (hr : (st.map (fun v => v.category)).sum ≤ 8) (h : zCT X.2.1 G M' d' mc' ms' as I J E cls I' J' E') (hdd : d' + 1 ≤ d) (ha : a + mc' ≤ mc) (hb : b + ms' ≤ ms) (hFT : zFinT G X mc ms cls I' J' E') : SW G X a b pc ls (as.reverse ++ st) I J E := by
  obtain ⟨p, l, e, R, s, m, args, below, meth, c, Q⟩ := X
  intro H locs arr hl hn hR hS
  obtain ⟨hx, hbb, hml, hown, hlk, hrt, hF, hRm, hfl⟩ := id C
  have hRm : R = zRm d mc ms := hRm
  subst hRm
  obtain ⟨hMB, hMi⟩ := hM
  obtain ⟨hw1, hw2, hne, hpar, hmx⟩ := id hMB
  have hT := hF.1
  have hcat : (((st.map (zTr G.2.2.1))).map fun v => v.category).sum ≤ 8 := by
    rw [List.map_map]
    rw [show ((fun v : Value => v.category) ∘ zTr G.2.2.1) = (fun v => v.category) from funext (fun v => zTr_cat _ v)]
    exact hr
  have hpre : PreS s H (zPc G as I J E) (as.map (zTr G.2.2.1)) :=
    ⟨zBlind, fun U hU hW => ⟨rfl, by rw [hU]; exact hR, by rw [hU]; exact hF.to hW hS⟩⟩
  have hroom : (zRm d' mc' ms').frames + 1 ≤ (zRm d mc ms).frames ∧ 8 + (M'.2.2.1 + 11) + (zRm d' mc' ms').locals ≤ (zRm d mc ms).locals := by
    simp only [zRm]; omega
  rw [zMapRev]
  exact sw_outT hlk hS hFT ha hb (vx_runS (nL := ls.length) (Ts := []) ⟨hx, hbb, hn.symm, hown, fun w hw => by cases hw⟩ h ⟨⟨rfl, rfl, hroom.1, hroom.2, zCode_ws hT hMB, List.mem_singleton.mpr rfl, hT _ hw1 rfl args, hT _ hw2 rfl args, hne, zNpar hpar, hT _ hL rfl args⟩, hT _ hMi rfl args⟩ hpre rfl (by simp [hn0]) hl.1 rfl (by simpa [JFrame.monitorRoom] using hcat) hd ⟨ha, hb⟩)
end ZT
set_option maxRecDepth 100000 in
theorem zThI : zThrow RX5 252 "java/lang/IndexOutOfBoundsException" ["java/lang/RuntimeException", "java/lang/Exception"] := ⟨by decide +kernel, by decide +kernel, by decide +kernel, by decide +kernel⟩
set_option maxRecDepth 100000 in
theorem zThS : zThrow RX5 178 "java/lang/IllegalStateException" ["java/lang/RuntimeException", "java/lang/Exception"] := ⟨by decide +kernel, by decide +kernel, by decide +kernel, by decide +kernel⟩
set_option maxRecDepth 100000 in
theorem zThA : zThrow RX5 187 "java/lang/IllegalArgumentException" ["java/lang/RuntimeException", "java/lang/Exception"] := ⟨by decide +kernel, by decide +kernel, by decide +kernel, by decide +kernel⟩
set_option maxRecDepth 100000 in
theorem zThM : zThrow RX5 214 "java/lang/ArithmeticException" ["java/lang/RuntimeException", "java/lang/Exception"] := ⟨by decide +kernel, by decide +kernel, by decide +kernel, by decide +kernel⟩
end
section
set_option maxRecDepth 100000 in
theorem zck1 : zCk 1 := ⟨rfl, rfl, by decide +kernel, tyJ4_ok, nmJ4⟩
set_option maxRecDepth 100000 in
theorem zck4 : zCk 4 := ⟨rfl, rfl, by decide +kernel, tyX0_ok, nmX0⟩
set_option maxRecDepth 100000 in
theorem zck5 : zCk 5 := ⟨rfl, rfl, by decide +kernel, tyX1_ok, nmX1⟩
set_option maxRecDepth 100000 in
theorem zck6 : zCk 6 := ⟨rfl, rfl, by decide +kernel, tyX2_ok, nmX2⟩
set_option maxRecDepth 100000 in
theorem zck7 : zCk 7 := ⟨rfl, rfl, by decide +kernel, tyX3_ok, nmX3⟩
set_option maxRecDepth 100000 in
theorem zck8 : zCk 8 := ⟨rfl, rfl, by decide +kernel, tyX4_ok, nmX4⟩
set_option maxRecDepth 100000 in
theorem zck9 : zCk 9 := ⟨rfl, rfl, by decide +kernel, tyX5_ok, nmX5⟩
set_option maxRecDepth 100000 in
theorem zck10 : zCk 10 := ⟨rfl, rfl, by decide +kernel, tyX6_ok, nmX6⟩
abbrev mX0_init : zM := (yX0_init, cX0_init, 2, none)
theorem vX0_init : zMeB mX0_init 0 ∧ Cond.instanceMethod mX0_init.1 ∈ lw_tbl := ⟨⟨(List.mem_of_getElem? (i := 206) (by decide +kernel)), (List.mem_of_getElem? (i := 65) (by decide +kernel)), ⟨by decide +kernel, by decide +kernel⟩, by decide +kernel, by decide⟩, (List.mem_of_getElem? (i := 205) (by decide +kernel))⟩
abbrev mX0_keep : zM := (yX0_keep, cX0_keep, 2, none)
theorem vX0_keep : zMeV mX0_keep 1 := ⟨⟨(List.mem_of_getElem? (i := 649) (by decide +kernel)), (List.mem_of_getElem? (i := 65) (by decide +kernel)), ⟨by decide +kernel, by decide +kernel⟩, by decide +kernel, by decide⟩, (List.mem_of_getElem? (i := 647) (by decide +kernel)), (List.mem_of_getElem? (i := 648) (by decide +kernel))⟩
abbrev mX0_takeBack : zM := (yX0_takeBack, cX0_takeBack, 2, none)
theorem vX0_takeBack : zMeV mX0_takeBack 1 := ⟨⟨(List.mem_of_getElem? (i := 1476) (by decide +kernel)), (List.mem_of_getElem? (i := 65) (by decide +kernel)), ⟨by decide +kernel, by decide +kernel⟩, by decide +kernel, by decide⟩, (List.mem_of_getElem? (i := 1474) (by decide +kernel)), (List.mem_of_getElem? (i := 1475) (by decide +kernel))⟩
abbrev mX1_init : zM := (yX1_init, cX1_init, 1, none)
theorem vX1_init : zMeB mX1_init 0 ∧ Cond.instanceMethod mX1_init.1 ∈ lw_tbl := ⟨⟨(List.mem_of_getElem? (i := 108) (by decide +kernel)), (List.mem_of_getElem? (i := 63) (by decide +kernel)), ⟨by decide +kernel, by decide +kernel⟩, by decide +kernel, by decide⟩, (List.mem_of_getElem? (i := 107) (by decide +kernel))⟩
abbrev mX1_copyFrom : zM := (yX1_copyFrom, cX1_copyFrom, 2, none)
theorem vX1_copyFrom : zMeV mX1_copyFrom 1 := ⟨⟨(List.mem_of_getElem? (i := 449) (by decide +kernel)), (List.mem_of_getElem? (i := 63) (by decide +kernel)), ⟨by decide +kernel, by decide +kernel⟩, by decide +kernel, by decide⟩, (List.mem_of_getElem? (i := 447) (by decide +kernel)), (List.mem_of_getElem? (i := 448) (by decide +kernel))⟩
abbrev mX1_joined : zM := (yX1_joined, cX1_joined, 3, (some .boolean))
theorem vX1_joined : zMeV mX1_joined 2 := ⟨⟨(List.mem_of_getElem? (i := 372) (by decide +kernel)), (List.mem_of_getElem? (i := 63) (by decide +kernel)), ⟨by decide +kernel, by decide +kernel⟩, by decide +kernel, by decide⟩, (List.mem_of_getElem? (i := 370) (by decide +kernel)), (List.mem_of_getElem? (i := 371) (by decide +kernel))⟩
abbrev mX1_join : zM := (yX1_join, cX1_join, 3, (some .int))
theorem vX1_join : zMeV mX1_join 2 := ⟨⟨(List.mem_of_getElem? (i := 663) (by decide +kernel)), (List.mem_of_getElem? (i := 63) (by decide +kernel)), ⟨by decide +kernel, by decide +kernel⟩, by decide +kernel, by decide⟩, (List.mem_of_getElem? (i := 661) (by decide +kernel)), (List.mem_of_getElem? (i := 662) (by decide +kernel))⟩
abbrev mX1_cut : zM := (yX1_cut, cX1_cut, 3, (some .int))
theorem vX1_cut : zMeV mX1_cut 2 := ⟨⟨(List.mem_of_getElem? (i := 667) (by decide +kernel)), (List.mem_of_getElem? (i := 63) (by decide +kernel)), ⟨by decide +kernel, by decide +kernel⟩, by decide +kernel, by decide⟩, (List.mem_of_getElem? (i := 665) (by decide +kernel)), (List.mem_of_getElem? (i := 666) (by decide +kernel))⟩
abbrev mX1_around : zM := (yX1_around, cX1_around, 4, (some .int))
theorem vX1_around : zMeV mX1_around 1 := ⟨⟨(List.mem_of_getElem? (i := 360) (by decide +kernel)), (List.mem_of_getElem? (i := 63) (by decide +kernel)), ⟨by decide +kernel, by decide +kernel⟩, by decide +kernel, by decide⟩, (List.mem_of_getElem? (i := 359) (by decide +kernel)), (List.mem_of_getElem? (i := 1) (by decide +kernel))⟩
abbrev mX1_piecesBySearch : zM := (yX1_piecesBySearch, cX1_piecesBySearch, 4, (some .int))
theorem vX1_piecesBySearch : zMeV mX1_piecesBySearch 0 := ⟨⟨(List.mem_of_getElem? (i := 349) (by decide +kernel)), (List.mem_of_getElem? (i := 63) (by decide +kernel)), ⟨by decide +kernel, by decide +kernel⟩, by decide +kernel, by decide⟩, (List.mem_of_getElem? (i := 347) (by decide +kernel)), (List.mem_of_getElem? (i := 348) (by decide +kernel))⟩
abbrev mX1_pieceOf : zM := (yX1_pieceOf, cX1_pieceOf, 4, (some .int))
theorem vX1_pieceOf : zMeV mX1_pieceOf 1 := ⟨⟨(List.mem_of_getElem? (i := 356) (by decide +kernel)), (List.mem_of_getElem? (i := 63) (by decide +kernel)), ⟨by decide +kernel, by decide +kernel⟩, by decide +kernel, by decide⟩, (List.mem_of_getElem? (i := 355) (by decide +kernel)), (List.mem_of_getElem? (i := 0) (by decide +kernel))⟩
abbrev mX1_piecesByUnion : zM := (yX1_piecesByUnion, cX1_piecesByUnion, 4, (some .int))
theorem vX1_piecesByUnion : zMeV mX1_piecesByUnion 0 := ⟨⟨(List.mem_of_getElem? (i := 368) (by decide +kernel)), (List.mem_of_getElem? (i := 63) (by decide +kernel)), ⟨by decide +kernel, by decide +kernel⟩, by decide +kernel, by decide⟩, (List.mem_of_getElem? (i := 366) (by decide +kernel)), (List.mem_of_getElem? (i := 367) (by decide +kernel))⟩
abbrev mX1_unite : zM := (yX1_unite, cX1_unite, 5, (some .boolean))
theorem vX1_unite : zMeV mX1_unite 2 := ⟨⟨(List.mem_of_getElem? (i := 376) (by decide +kernel)), (List.mem_of_getElem? (i := 63) (by decide +kernel)), ⟨by decide +kernel, by decide +kernel⟩, by decide +kernel, by decide⟩, (List.mem_of_getElem? (i := 375) (by decide +kernel)), (List.mem_of_getElem? (i := 2) (by decide +kernel))⟩
abbrev mX1_rootOf : zM := (yX1_rootOf, cX1_rootOf, 4, (some .int))
theorem vX1_rootOf : zMeV mX1_rootOf 1 := ⟨⟨(List.mem_of_getElem? (i := 380) (by decide +kernel)), (List.mem_of_getElem? (i := 63) (by decide +kernel)), ⟨by decide +kernel, by decide +kernel⟩, by decide +kernel, by decide⟩, (List.mem_of_getElem? (i := 379) (by decide +kernel)), (List.mem_of_getElem? (i := 3) (by decide +kernel))⟩
abbrev mX1_stepsBySearch : zM := (yX1_stepsBySearch, cX1_stepsBySearch, 6, (some .int))
theorem vX1_stepsBySearch : zMeV mX1_stepsBySearch 2 := ⟨⟨(List.mem_of_getElem? (i := 408) (by decide +kernel)), (List.mem_of_getElem? (i := 63) (by decide +kernel)), ⟨by decide +kernel, by decide +kernel⟩, by decide +kernel, by decide⟩, (List.mem_of_getElem? (i := 406) (by decide +kernel)), (List.mem_of_getElem? (i := 407) (by decide +kernel))⟩
abbrev mX1_stepsByRelaxing : zM := (yX1_stepsByRelaxing, cX1_stepsByRelaxing, 4, (some .int))
theorem vX1_stepsByRelaxing : zMeV mX1_stepsByRelaxing 2 := ⟨⟨(List.mem_of_getElem? (i := 412) (by decide +kernel)), (List.mem_of_getElem? (i := 63) (by decide +kernel)), ⟨by decide +kernel, by decide +kernel⟩, by decide +kernel, by decide⟩, (List.mem_of_getElem? (i := 410) (by decide +kernel)), (List.mem_of_getElem? (i := 411) (by decide +kernel))⟩
abbrev mX1_relaxLinks : zM := (yX1_relaxLinks, cX1_relaxLinks, 3, none)
theorem vX1_relaxLinks : zMeV mX1_relaxLinks 0 := ⟨⟨(List.mem_of_getElem? (i := 416) (by decide +kernel)), (List.mem_of_getElem? (i := 63) (by decide +kernel)), ⟨by decide +kernel, by decide +kernel⟩, by decide +kernel, by decide⟩, (List.mem_of_getElem? (i := 415) (by decide +kernel)), (List.mem_of_getElem? (i := 4) (by decide +kernel))⟩
abbrev mX2_init : zM := (yX2_init, cX2_init, 1, none)
theorem vX2_init : zMeB mX2_init 0 ∧ Cond.instanceMethod mX2_init.1 ∈ lw_tbl := ⟨⟨(List.mem_of_getElem? (i := 137) (by decide +kernel)), (List.mem_of_getElem? (i := 64) (by decide +kernel)), ⟨by decide +kernel, by decide +kernel⟩, by decide +kernel, by decide⟩, (List.mem_of_getElem? (i := 136) (by decide +kernel))⟩
abbrev mX2_copyFrom : zM := (yX2_copyFrom, cX2_copyFrom, 2, none)
theorem vX2_copyFrom : zMeV mX2_copyFrom 1 := ⟨⟨(List.mem_of_getElem? (i := 457) (by decide +kernel)), (List.mem_of_getElem? (i := 64) (by decide +kernel)), ⟨by decide +kernel, by decide +kernel⟩, by decide +kernel, by decide⟩, (List.mem_of_getElem? (i := 455) (by decide +kernel)), (List.mem_of_getElem? (i := 456) (by decide +kernel))⟩
abbrev mX2_comeUp : zM := (yX2_comeUp, cX2_comeUp, 4, none)
theorem vX2_comeUp : zMeV mX2_comeUp 3 := ⟨⟨(List.mem_of_getElem? (i := 675) (by decide +kernel)), (List.mem_of_getElem? (i := 64) (by decide +kernel)), ⟨by decide +kernel, by decide +kernel⟩, by decide +kernel, by decide⟩, (List.mem_of_getElem? (i := 673) (by decide +kernel)), (List.mem_of_getElem? (i := 674) (by decide +kernel))⟩
abbrev mX2_aware : zM := (yX2_aware, cX2_aware, 1, (some .int))
theorem vX2_aware : zMeV mX2_aware 0 := ⟨⟨(List.mem_of_getElem? (i := 700) (by decide +kernel)), (List.mem_of_getElem? (i := 64) (by decide +kernel)), ⟨by decide +kernel, by decide +kernel⟩, by decide +kernel, by decide⟩, (List.mem_of_getElem? (i := 698) (by decide +kernel)), (List.mem_of_getElem? (i := 699) (by decide +kernel))⟩
abbrev mX2_silence : zM := (yX2_silence, cX2_silence, 1, (some .int))
theorem vX2_silence : zMeV mX2_silence 0 := ⟨⟨(List.mem_of_getElem? (i := 683) (by decide +kernel)), (List.mem_of_getElem? (i := 64) (by decide +kernel)), ⟨by decide +kernel, by decide +kernel⟩, by decide +kernel, by decide⟩, (List.mem_of_getElem? (i := 681) (by decide +kernel)), (List.mem_of_getElem? (i := 682) (by decide +kernel))⟩
abbrev mX2_revive : zM := (yX2_revive, cX2_revive, 3, (some .int))
theorem vX2_revive : zMeV mX2_revive 1 := ⟨⟨(List.mem_of_getElem? (i := 688) (by decide +kernel)), (List.mem_of_getElem? (i := 64) (by decide +kernel)), ⟨by decide +kernel, by decide +kernel⟩, by decide +kernel, by decide⟩, (List.mem_of_getElem? (i := 686) (by decide +kernel)), (List.mem_of_getElem? (i := 687) (by decide +kernel))⟩
abbrev mX2_weaken : zM := (yX2_weaken, cX2_weaken, 1, none)
theorem vX2_weaken : zMeV mX2_weaken 0 := ⟨⟨(List.mem_of_getElem? (i := 716) (by decide +kernel)), (List.mem_of_getElem? (i := 64) (by decide +kernel)), ⟨by decide +kernel, by decide +kernel⟩, by decide +kernel, by decide⟩, (List.mem_of_getElem? (i := 714) (by decide +kernel)), (List.mem_of_getElem? (i := 715) (by decide +kernel))⟩
abbrev mX2_signOf : zM := (yX2_signOf, cX2_signOf, 2, (some .char))
theorem vX2_signOf : zMeV mX2_signOf 1 := ⟨⟨(List.mem_of_getElem? (i := 1340) (by decide +kernel)), (List.mem_of_getElem? (i := 64) (by decide +kernel)), ⟨by decide +kernel, by decide +kernel⟩, by decide +kernel, by decide⟩, (List.mem_of_getElem? (i := 1338) (by decide +kernel)), (List.mem_of_getElem? (i := 1339) (by decide +kernel))⟩
abbrev mX3_init : zM := (yX3_init, cX3_init, 2, none)
theorem vX3_init : zMeB mX3_init 0 ∧ Cond.instanceMethod mX3_init.1 ∈ lw_tbl := ⟨⟨(List.mem_of_getElem? (i := 102) (by decide +kernel)), (List.mem_of_getElem? (i := 62) (by decide +kernel)), ⟨by decide +kernel, by decide +kernel⟩, by decide +kernel, by decide⟩, (List.mem_of_getElem? (i := 101) (by decide +kernel))⟩
abbrev mX3_copyFrom : zM := (yX3_copyFrom, cX3_copyFrom, 3, none)
theorem vX3_copyFrom : zMeV mX3_copyFrom 1 := ⟨⟨(List.mem_of_getElem? (i := 445) (by decide +kernel)), (List.mem_of_getElem? (i := 62) (by decide +kernel)), ⟨by decide +kernel, by decide +kernel⟩, by decide +kernel, by decide⟩, (List.mem_of_getElem? (i := 443) (by decide +kernel)), (List.mem_of_getElem? (i := 444) (by decide +kernel))⟩
abbrev mX3_hasListener : zM := (yX3_hasListener, cX3_hasListener, 2, (some .boolean))
theorem vX3_hasListener : zMeV mX3_hasListener 1 := ⟨⟨(List.mem_of_getElem? (i := 493) (by decide +kernel)), (List.mem_of_getElem? (i := 62) (by decide +kernel)), ⟨by decide +kernel, by decide +kernel⟩, by decide +kernel, by decide⟩, (List.mem_of_getElem? (i := 491) (by decide +kernel)), (List.mem_of_getElem? (i := 492) (by decide +kernel))⟩
abbrev mX3_hasRumour : zM := (yX3_hasRumour, cX3_hasRumour, 2, (some .boolean))
theorem vX3_hasRumour : zMeV mX3_hasRumour 1 := ⟨⟨(List.mem_of_getElem? (i := 510) (by decide +kernel)), (List.mem_of_getElem? (i := 62) (by decide +kernel)), ⟨by decide +kernel, by decide +kernel⟩, by decide +kernel, by decide⟩, (List.mem_of_getElem? (i := 508) (by decide +kernel)), (List.mem_of_getElem? (i := 509) (by decide +kernel))⟩
abbrev mX3_refusalToAdd : zM := (yX3_refusalToAdd, cX3_refusalToAdd, 3, (some .int))
theorem vX3_refusalToAdd : zMeV mX3_refusalToAdd 2 := ⟨⟨(List.mem_of_getElem? (i := 479) (by decide +kernel)), (List.mem_of_getElem? (i := 62) (by decide +kernel)), ⟨by decide +kernel, by decide +kernel⟩, by decide +kernel, by decide⟩, (List.mem_of_getElem? (i := 477) (by decide +kernel)), (List.mem_of_getElem? (i := 478) (by decide +kernel))⟩
abbrev mX3_add : zM := (yX3_add, cX3_add, 4, (some .int))
theorem vX3_add : zMeV mX3_add 2 := ⟨⟨(List.mem_of_getElem? (i := 659) (by decide +kernel)), (List.mem_of_getElem? (i := 62) (by decide +kernel)), ⟨by decide +kernel, by decide +kernel⟩, by decide +kernel, by decide⟩, (List.mem_of_getElem? (i := 657) (by decide +kernel)), (List.mem_of_getElem? (i := 658) (by decide +kernel))⟩
abbrev mX3_refusalToJoin : zM := (yX3_refusalToJoin, cX3_refusalToJoin, 3, (some .int))
theorem vX3_refusalToJoin : zMeV mX3_refusalToJoin 2 := ⟨⟨(List.mem_of_getElem? (i := 489) (by decide +kernel)), (List.mem_of_getElem? (i := 62) (by decide +kernel)), ⟨by decide +kernel, by decide +kernel⟩, by decide +kernel, by decide⟩, (List.mem_of_getElem? (i := 487) (by decide +kernel)), (List.mem_of_getElem? (i := 488) (by decide +kernel))⟩
abbrev mX3_refusalToCut : zM := (yX3_refusalToCut, cX3_refusalToCut, 3, (some .int))
theorem vX3_refusalToCut : zMeV mX3_refusalToCut 2 := ⟨⟨(List.mem_of_getElem? (i := 498) (by decide +kernel)), (List.mem_of_getElem? (i := 62) (by decide +kernel)), ⟨by decide +kernel, by decide +kernel⟩, by decide +kernel, by decide⟩, (List.mem_of_getElem? (i := 496) (by decide +kernel)), (List.mem_of_getElem? (i := 497) (by decide +kernel))⟩
abbrev mX3_refusalToMove : zM := (yX3_refusalToMove, cX3_refusalToMove, 3, (some .int))
theorem vX3_refusalToMove : zMeV mX3_refusalToMove 2 := ⟨⟨(List.mem_of_getElem? (i := 523) (by decide +kernel)), (List.mem_of_getElem? (i := 62) (by decide +kernel)), ⟨by decide +kernel, by decide +kernel⟩, by decide +kernel, by decide⟩, (List.mem_of_getElem? (i := 521) (by decide +kernel)), (List.mem_of_getElem? (i := 522) (by decide +kernel))⟩
abbrev mX3_move : zM := (yX3_move, cX3_move, 4, (some .int))
theorem vX3_move : zMeV mX3_move 2 := ⟨⟨(List.mem_of_getElem? (i := 692) (by decide +kernel)), (List.mem_of_getElem? (i := 62) (by decide +kernel)), ⟨by decide +kernel, by decide +kernel⟩, by decide +kernel, by decide⟩, (List.mem_of_getElem? (i := 690) (by decide +kernel)), (List.mem_of_getElem? (i := 691) (by decide +kernel))⟩
abbrev mX3_refusalToStart : zM := (yX3_refusalToStart, cX3_refusalToStart, 3, (some .int))
theorem vX3_refusalToStart : zMeV mX3_refusalToStart 2 := ⟨⟨(List.mem_of_getElem? (i := 502) (by decide +kernel)), (List.mem_of_getElem? (i := 62) (by decide +kernel)), ⟨by decide +kernel, by decide +kernel⟩, by decide +kernel, by decide⟩, (List.mem_of_getElem? (i := 500) (by decide +kernel)), (List.mem_of_getElem? (i := 501) (by decide +kernel))⟩
abbrev mX3_begin : zM := (yX3_begin, cX3_begin, 4, (some .int))
theorem vX3_begin : zMeV mX3_begin 2 := ⟨⟨(List.mem_of_getElem? (i := 671) (by decide +kernel)), (List.mem_of_getElem? (i := 62) (by decide +kernel)), ⟨by decide +kernel, by decide +kernel⟩, by decide +kernel, by decide⟩, (List.mem_of_getElem? (i := 669) (by decide +kernel)), (List.mem_of_getElem? (i := 670) (by decide +kernel))⟩
abbrev mX3_refusalToConvert : zM := (yX3_refusalToConvert, cX3_refusalToConvert, 3, (some .int))
theorem vX3_refusalToConvert : zMeV mX3_refusalToConvert 2 := ⟨⟨(List.mem_of_getElem? (i := 506) (by decide +kernel)), (List.mem_of_getElem? (i := 62) (by decide +kernel)), ⟨by decide +kernel, by decide +kernel⟩, by decide +kernel, by decide⟩, (List.mem_of_getElem? (i := 504) (by decide +kernel)), (List.mem_of_getElem? (i := 505) (by decide +kernel))⟩
abbrev mX3_convert : zM := (yX3_convert, cX3_convert, 4, (some .int))
theorem vX3_convert : zMeV mX3_convert 2 := ⟨⟨(List.mem_of_getElem? (i := 679) (by decide +kernel)), (List.mem_of_getElem? (i := 62) (by decide +kernel)), ⟨by decide +kernel, by decide +kernel⟩, by decide +kernel, by decide⟩, (List.mem_of_getElem? (i := 677) (by decide +kernel)), (List.mem_of_getElem? (i := 678) (by decide +kernel))⟩
abbrev mX3_refusalToSilence : zM := (yX3_refusalToSilence, cX3_refusalToSilence, 2, (some .int))
theorem vX3_refusalToSilence : zMeV mX3_refusalToSilence 1 := ⟨⟨(List.mem_of_getElem? (i := 515) (by decide +kernel)), (List.mem_of_getElem? (i := 62) (by decide +kernel)), ⟨by decide +kernel, by decide +kernel⟩, by decide +kernel, by decide⟩, (List.mem_of_getElem? (i := 513) (by decide +kernel)), (List.mem_of_getElem? (i := 514) (by decide +kernel))⟩
abbrev mX3_refusalToRevive : zM := (yX3_refusalToRevive, cX3_refusalToRevive, 3, (some .int))
theorem vX3_refusalToRevive : zMeV mX3_refusalToRevive 2 := ⟨⟨(List.mem_of_getElem? (i := 519) (by decide +kernel)), (List.mem_of_getElem? (i := 62) (by decide +kernel)), ⟨by decide +kernel, by decide +kernel⟩, by decide +kernel, by decide⟩, (List.mem_of_getElem? (i := 517) (by decide +kernel)), (List.mem_of_getElem? (i := 518) (by decide +kernel))⟩
abbrev mX3_passRounds : zM := (yX3_passRounds, cX3_passRounds, 6, (some .int))
theorem vX3_passRounds : zMeV mX3_passRounds 1 := ⟨⟨(List.mem_of_getElem? (i := 696) (by decide +kernel)), (List.mem_of_getElem? (i := 62) (by decide +kernel)), ⟨by decide +kernel, by decide +kernel⟩, by decide +kernel, by decide⟩, (List.mem_of_getElem? (i := 694) (by decide +kernel)), (List.mem_of_getElem? (i := 695) (by decide +kernel))⟩
abbrev mX3_spreadOnce : zM := (yX3_spreadOnce, cX3_spreadOnce, 5, (some .int))
theorem vX3_spreadOnce : zMeV mX3_spreadOnce 1 := ⟨⟨(List.mem_of_getElem? (i := 704) (by decide +kernel)), (List.mem_of_getElem? (i := 62) (by decide +kernel)), ⟨by decide +kernel, by decide +kernel⟩, by decide +kernel, by decide⟩, (List.mem_of_getElem? (i := 702) (by decide +kernel)), (List.mem_of_getElem? (i := 703) (by decide +kernel))⟩
abbrev mX3_hears : zM := (yX3_hears, cX3_hears, 3, (some .boolean))
theorem vX3_hears : zMeV mX3_hears 2 := ⟨⟨(List.mem_of_getElem? (i := 708) (by decide +kernel)), (List.mem_of_getElem? (i := 62) (by decide +kernel)), ⟨by decide +kernel, by decide +kernel⟩, by decide +kernel, by decide⟩, (List.mem_of_getElem? (i := 707) (by decide +kernel)), (List.mem_of_getElem? (i := 9) (by decide +kernel))⟩
abbrev mX3_believes : zM := (yX3_believes, cX3_believes, 4, (some .boolean))
theorem vX3_believes : zMeV mX3_believes 2 := ⟨⟨(List.mem_of_getElem? (i := 712) (by decide +kernel)), (List.mem_of_getElem? (i := 62) (by decide +kernel)), ⟨by decide +kernel, by decide +kernel⟩, by decide +kernel, by decide⟩, (List.mem_of_getElem? (i := 711) (by decide +kernel)), (List.mem_of_getElem? (i := 10) (by decide +kernel))⟩
abbrev mX3_believersToCome : zM := (yX3_believersToCome, cX3_believersToCome, 4, (some .int))
theorem vX3_believersToCome : zMeV mX3_believersToCome 1 := ⟨⟨(List.mem_of_getElem? (i := 960) (by decide +kernel)), (List.mem_of_getElem? (i := 62) (by decide +kernel)), ⟨by decide +kernel, by decide +kernel⟩, by decide +kernel, by decide⟩, (List.mem_of_getElem? (i := 958) (by decide +kernel)), (List.mem_of_getElem? (i := 959) (by decide +kernel))⟩
abbrev mX3_membersOf : zM := (yX3_membersOf, cX3_membersOf, 4, (some .int))
theorem vX3_membersOf : zMeV mX3_membersOf 1 := ⟨⟨(List.mem_of_getElem? (i := 431) (by decide +kernel)), (List.mem_of_getElem? (i := 62) (by decide +kernel)), ⟨by decide +kernel, by decide +kernel⟩, by decide +kernel, by decide⟩, (List.mem_of_getElem? (i := 429) (by decide +kernel)), (List.mem_of_getElem? (i := 430) (by decide +kernel))⟩
abbrev mX3_hiveWithMost : zM := (yX3_hiveWithMost, cX3_hiveWithMost, 6, (some .int))
theorem vX3_hiveWithMost : zMeV mX3_hiveWithMost 1 := ⟨⟨(List.mem_of_getElem? (i := 923) (by decide +kernel)), (List.mem_of_getElem? (i := 62) (by decide +kernel)), ⟨by decide +kernel, by decide +kernel⟩, by decide +kernel, by decide⟩, (List.mem_of_getElem? (i := 921) (by decide +kernel)), (List.mem_of_getElem? (i := 922) (by decide +kernel))⟩
abbrev mX3_rumourAtRank : zM := (yX3_rumourAtRank, cX3_rumourAtRank, 5, (some .int))
theorem vX3_rumourAtRank : zMeV mX3_rumourAtRank 1 := ⟨⟨(List.mem_of_getElem? (i := 993) (by decide +kernel)), (List.mem_of_getElem? (i := 62) (by decide +kernel)), ⟨by decide +kernel, by decide +kernel⟩, by decide +kernel, by decide⟩, (List.mem_of_getElem? (i := 991) (by decide +kernel)), (List.mem_of_getElem? (i := 992) (by decide +kernel))⟩
abbrev mX3_spreadsAhead : zM := (yX3_spreadsAhead, cX3_spreadsAhead, 5, (some .boolean))
theorem vX3_spreadsAhead : zMeV mX3_spreadsAhead 2 := ⟨⟨(List.mem_of_getElem? (i := 997) (by decide +kernel)), (List.mem_of_getElem? (i := 62) (by decide +kernel)), ⟨by decide +kernel, by decide +kernel⟩, by decide +kernel, by decide⟩, (List.mem_of_getElem? (i := 996) (by decide +kernel)), (List.mem_of_getElem? (i := 14) (by decide +kernel))⟩
abbrev mX3_listenerAtRank : zM := (yX3_listenerAtRank, cX3_listenerAtRank, 5, (some .int))
theorem vX3_listenerAtRank : zMeV mX3_listenerAtRank 1 := ⟨⟨(List.mem_of_getElem? (i := 1008) (by decide +kernel)), (List.mem_of_getElem? (i := 62) (by decide +kernel)), ⟨by decide +kernel, by decide +kernel⟩, by decide +kernel, by decide⟩, (List.mem_of_getElem? (i := 1006) (by decide +kernel)), (List.mem_of_getElem? (i := 1007) (by decide +kernel))⟩
abbrev mX3_gossipsAhead : zM := (yX3_gossipsAhead, cX3_gossipsAhead, 5, (some .boolean))
theorem vX3_gossipsAhead : zMeV mX3_gossipsAhead 2 := ⟨⟨(List.mem_of_getElem? (i := 1012) (by decide +kernel)), (List.mem_of_getElem? (i := 62) (by decide +kernel)), ⟨by decide +kernel, by decide +kernel⟩, by decide +kernel, by decide⟩, (List.mem_of_getElem? (i := 1011) (by decide +kernel)), (List.mem_of_getElem? (i := 15) (by decide +kernel))⟩
abbrev mX3_spreadBy : zM := (yX3_spreadBy, cX3_spreadBy, 4, (some .int))
theorem vX3_spreadBy : zMeV mX3_spreadBy 1 := ⟨⟨(List.mem_of_getElem? (i := 1016) (by decide +kernel)), (List.mem_of_getElem? (i := 62) (by decide +kernel)), ⟨by decide +kernel, by decide +kernel⟩, by decide +kernel, by decide⟩, (List.mem_of_getElem? (i := 1015) (by decide +kernel)), (List.mem_of_getElem? (i := 16) (by decide +kernel))⟩
abbrev mX3_gossips : zM := (yX3_gossips, cX3_gossips, 3, (some .int))
theorem vX3_gossips : zMeV mX3_gossips 0 := ⟨⟨(List.mem_of_getElem? (i := 1055) (by decide +kernel)), (List.mem_of_getElem? (i := 62) (by decide +kernel)), ⟨by decide +kernel, by decide +kernel⟩, by decide +kernel, by decide⟩, (List.mem_of_getElem? (i := 1053) (by decide +kernel)), (List.mem_of_getElem? (i := 1054) (by decide +kernel))⟩
abbrev mX3_sumOfDoubts : zM := (yX3_sumOfDoubts, cX3_sumOfDoubts, 3, (some .int))
theorem vX3_sumOfDoubts : zMeV mX3_sumOfDoubts 0 := ⟨⟨(List.mem_of_getElem? (i := 1044) (by decide +kernel)), (List.mem_of_getElem? (i := 62) (by decide +kernel)), ⟨by decide +kernel, by decide +kernel⟩, by decide +kernel, by decide⟩, (List.mem_of_getElem? (i := 1042) (by decide +kernel)), (List.mem_of_getElem? (i := 1043) (by decide +kernel))⟩
abbrev mX3_distancesAgree : zM := (yX3_distancesAgree, cX3_distancesAgree, 4, (some .boolean))
theorem vX3_distancesAgree : zMeV mX3_distancesAgree 0 := ⟨⟨(List.mem_of_getElem? (i := 404) (by decide +kernel)), (List.mem_of_getElem? (i := 62) (by decide +kernel)), ⟨by decide +kernel, by decide +kernel⟩, by decide +kernel, by decide⟩, (List.mem_of_getElem? (i := 402) (by decide +kernel)), (List.mem_of_getElem? (i := 403) (by decide +kernel))⟩
abbrev mX3_standsAreClear : zM := (yX3_standsAreClear, cX3_standsAreClear, 2, (some .boolean))
theorem vX3_standsAreClear : zMeV mX3_standsAreClear 0 := ⟨⟨(List.mem_of_getElem? (i := 423) (by decide +kernel)), (List.mem_of_getElem? (i := 62) (by decide +kernel)), ⟨by decide +kernel, by decide +kernel⟩, by decide +kernel, by decide⟩, (List.mem_of_getElem? (i := 421) (by decide +kernel)), (List.mem_of_getElem? (i := 422) (by decide +kernel))⟩
abbrev mX3_hivesAddUp : zM := (yX3_hivesAddUp, cX3_hivesAddUp, 3, (some .boolean))
theorem vX3_hivesAddUp : zMeV mX3_hivesAddUp 0 := ⟨⟨(List.mem_of_getElem? (i := 427) (by decide +kernel)), (List.mem_of_getElem? (i := 62) (by decide +kernel)), ⟨by decide +kernel, by decide +kernel⟩, by decide +kernel, by decide⟩, (List.mem_of_getElem? (i := 425) (by decide +kernel)), (List.mem_of_getElem? (i := 426) (by decide +kernel))⟩
abbrev mX4_init : zM := (yX4_init, cX4_init, 1, none)
theorem vX4_init : zMeB mX4_init 0 ∧ Cond.instanceMethod mX4_init.1 ∈ lw_tbl := ⟨⟨(List.mem_of_getElem? (i := 228) (by decide +kernel)), (List.mem_of_getElem? (i := 66) (by decide +kernel)), ⟨by decide +kernel, by decide +kernel⟩, by decide +kernel, by decide⟩, (List.mem_of_getElem? (i := 227) (by decide +kernel))⟩
abbrev mX4_put : zM := (yX4_put, cX4_put, 2, none)
theorem vX4_put : zMeV mX4_put 1 := ⟨⟨(List.mem_of_getElem? (i := 1380) (by decide +kernel)), (List.mem_of_getElem? (i := 66) (by decide +kernel)), ⟨by decide +kernel, by decide +kernel⟩, by decide +kernel, by decide⟩, (List.mem_of_getElem? (i := 1378) (by decide +kernel)), (List.mem_of_getElem? (i := 1379) (by decide +kernel))⟩
abbrev mX4_readAll : zM := (yX4_readAll, cX4_readAll, 3, (some .int))
theorem vX4_readAll : zMeV mX4_readAll 0 := ⟨⟨(List.mem_of_getElem? (i := 1391) (by decide +kernel)), (List.mem_of_getElem? (i := 66) (by decide +kernel)), ⟨by decide +kernel, by decide +kernel⟩, by decide +kernel, by decide⟩, (List.mem_of_getElem? (i := 1389) (by decide +kernel)), (List.mem_of_getElem? (i := 1390) (by decide +kernel))⟩
abbrev mX4_keepCommand : zM := (yX4_keepCommand, cX4_keepCommand, 2, none)
theorem vX4_keepCommand : zMeV mX4_keepCommand 1 := ⟨⟨(List.mem_of_getElem? (i := 1444) (by decide +kernel)), (List.mem_of_getElem? (i := 66) (by decide +kernel)), ⟨by decide +kernel, by decide +kernel⟩, by decide +kernel, by decide⟩, (List.mem_of_getElem? (i := 1443) (by decide +kernel)), (List.mem_of_getElem? (i := 22) (by decide +kernel))⟩
abbrev mX4_furthestKind : zM := (yX4_furthestKind, cX4_furthestKind, 5, (some .int))
theorem vX4_furthestKind : zMeV mX4_furthestKind 1 := ⟨⟨(List.mem_of_getElem? (i := 1395) (by decide +kernel)), (List.mem_of_getElem? (i := 66) (by decide +kernel)), ⟨by decide +kernel, by decide +kernel⟩, by decide +kernel, by decide⟩, (List.mem_of_getElem? (i := 1394) (by decide +kernel)), (List.mem_of_getElem? (i := 17) (by decide +kernel))⟩
abbrev mX4_formOf : zM := (yX4_formOf, cX4_formOf, 1, (some (.object "java/lang/String")))
theorem vX4_formOf : zMeS mX4_formOf 1 := ⟨⟨(List.mem_of_getElem? (i := 1402) (by decide +kernel)), (List.mem_of_getElem? (i := 66) (by decide +kernel)), ⟨by decide +kernel, by decide +kernel⟩, by decide +kernel, by decide⟩, (List.mem_of_getElem? (i := 1401) (by decide +kernel))⟩
abbrev mX4_match : zM := (yX4_match, cX4_match, 5, none)
theorem vX4_match : zMeV mX4_match 2 := ⟨⟨(List.mem_of_getElem? (i := 1399) (by decide +kernel)), (List.mem_of_getElem? (i := 66) (by decide +kernel)), ⟨by decide +kernel, by decide +kernel⟩, by decide +kernel, by decide⟩, (List.mem_of_getElem? (i := 1398) (by decide +kernel)), (List.mem_of_getElem? (i := 18) (by decide +kernel))⟩
abbrev mX4_takes : zM := (yX4_takes, cX4_takes, 2, (some .boolean))
theorem vX4_takes : zMeV mX4_takes 1 := ⟨⟨(List.mem_of_getElem? (i := 1432) (by decide +kernel)), (List.mem_of_getElem? (i := 66) (by decide +kernel)), ⟨by decide +kernel, by decide +kernel⟩, by decide +kernel, by decide⟩, (List.mem_of_getElem? (i := 1431) (by decide +kernel)), (List.mem_of_getElem? (i := 19) (by decide +kernel))⟩
abbrev mX4_takesNumber : zM := (yX4_takesNumber, cX4_takesNumber, 4, (some .boolean))
theorem vX4_takesNumber : zMeV mX4_takesNumber 1 := ⟨⟨(List.mem_of_getElem? (i := 1436) (by decide +kernel)), (List.mem_of_getElem? (i := 66) (by decide +kernel)), ⟨by decide +kernel, by decide +kernel⟩, by decide +kernel, by decide⟩, (List.mem_of_getElem? (i := 1435) (by decide +kernel)), (List.mem_of_getElem? (i := 20) (by decide +kernel))⟩
abbrev mX4_digitFollows : zM := (yX4_digitFollows, cX4_digitFollows, 1, (some .boolean))
theorem vX4_digitFollows : zMeV mX4_digitFollows 0 := ⟨⟨(List.mem_of_getElem? (i := 1440) (by decide +kernel)), (List.mem_of_getElem? (i := 66) (by decide +kernel)), ⟨by decide +kernel, by decide +kernel⟩, by decide +kernel, by decide⟩, (List.mem_of_getElem? (i := 1439) (by decide +kernel)), (List.mem_of_getElem? (i := 21) (by decide +kernel))⟩
abbrev mX5_init : zM := (yX5_init, cX5_init, 1, none)
theorem vX5_init : zMeB mX5_init 0 ∧ Cond.instanceMethod mX5_init.1 ∈ lw_tbl := ⟨⟨(List.mem_of_getElem? (i := 94) (by decide +kernel)), (List.mem_of_getElem? (i := 61) (by decide +kernel)), ⟨by decide +kernel, by decide +kernel⟩, by decide +kernel, by decide⟩, (List.mem_of_getElem? (i := 93) (by decide +kernel))⟩
abbrev mX5_addListener : zM := (yX5_addListener, cX5_addListener, 3, (some .int))
theorem vX5_addListener : zMeV mX5_addListener 2 := ⟨⟨(List.mem_of_getElem? (i := 467) (by decide +kernel)), (List.mem_of_getElem? (i := 61) (by decide +kernel)), ⟨by decide +kernel, by decide +kernel⟩, by decide +kernel, by decide⟩, (List.mem_of_getElem? (i := 465) (by decide +kernel)), (List.mem_of_getElem? (i := 466) (by decide +kernel))⟩
abbrev mX5_link : zM := (yX5_link, cX5_link, 3, (some .int))
theorem vX5_link : zMeV mX5_link 2 := ⟨⟨(List.mem_of_getElem? (i := 747) (by decide +kernel)), (List.mem_of_getElem? (i := 61) (by decide +kernel)), ⟨by decide +kernel, by decide +kernel⟩, by decide +kernel, by decide⟩, (List.mem_of_getElem? (i := 745) (by decide +kernel)), (List.mem_of_getElem? (i := 746) (by decide +kernel))⟩
abbrev mX5_unlink : zM := (yX5_unlink, cX5_unlink, 3, (some .int))
theorem vX5_unlink : zMeV mX5_unlink 2 := ⟨⟨(List.mem_of_getElem? (i := 755) (by decide +kernel)), (List.mem_of_getElem? (i := 61) (by decide +kernel)), ⟨by decide +kernel, by decide +kernel⟩, by decide +kernel, by decide⟩, (List.mem_of_getElem? (i := 753) (by decide +kernel)), (List.mem_of_getElem? (i := 754) (by decide +kernel))⟩
abbrev mX5_moveListener : zM := (yX5_moveListener, cX5_moveListener, 3, (some .int))
theorem vX5_moveListener : zMeV mX5_moveListener 2 := ⟨⟨(List.mem_of_getElem? (i := 762) (by decide +kernel)), (List.mem_of_getElem? (i := 61) (by decide +kernel)), ⟨by decide +kernel, by decide +kernel⟩, by decide +kernel, by decide⟩, (List.mem_of_getElem? (i := 760) (by decide +kernel)), (List.mem_of_getElem? (i := 761) (by decide +kernel))⟩
abbrev mX5_startRumour : zM := (yX5_startRumour, cX5_startRumour, 3, (some .int))
theorem vX5_startRumour : zMeV mX5_startRumour 2 := ⟨⟨(List.mem_of_getElem? (i := 769) (by decide +kernel)), (List.mem_of_getElem? (i := 61) (by decide +kernel)), ⟨by decide +kernel, by decide +kernel⟩, by decide +kernel, by decide⟩, (List.mem_of_getElem? (i := 767) (by decide +kernel)), (List.mem_of_getElem? (i := 768) (by decide +kernel))⟩
abbrev mX5_check : zM := (yX5_check, cX5_check, 3, (some .boolean))
theorem vX5_check : zMeV mX5_check 2 := ⟨⟨(List.mem_of_getElem? (i := 776) (by decide +kernel)), (List.mem_of_getElem? (i := 61) (by decide +kernel)), ⟨by decide +kernel, by decide +kernel⟩, by decide +kernel, by decide⟩, (List.mem_of_getElem? (i := 774) (by decide +kernel)), (List.mem_of_getElem? (i := 775) (by decide +kernel))⟩
abbrev mX5_deny : zM := (yX5_deny, cX5_deny, 2, (some .int))
theorem vX5_deny : zMeV mX5_deny 1 := ⟨⟨(List.mem_of_getElem? (i := 783) (by decide +kernel)), (List.mem_of_getElem? (i := 61) (by decide +kernel)), ⟨by decide +kernel, by decide +kernel⟩, by decide +kernel, by decide⟩, (List.mem_of_getElem? (i := 781) (by decide +kernel)), (List.mem_of_getElem? (i := 782) (by decide +kernel))⟩
abbrev mX5_answer : zM := (yX5_answer, cX5_answer, 3, (some .int))
theorem vX5_answer : zMeV mX5_answer 2 := ⟨⟨(List.mem_of_getElem? (i := 790) (by decide +kernel)), (List.mem_of_getElem? (i := 61) (by decide +kernel)), ⟨by decide +kernel, by decide +kernel⟩, by decide +kernel, by decide⟩, (List.mem_of_getElem? (i := 788) (by decide +kernel)), (List.mem_of_getElem? (i := 789) (by decide +kernel))⟩
abbrev mX5_advance : zM := (yX5_advance, cX5_advance, 2, (some .int))
theorem vX5_advance : zMeV mX5_advance 1 := ⟨⟨(List.mem_of_getElem? (i := 797) (by decide +kernel)), (List.mem_of_getElem? (i := 61) (by decide +kernel)), ⟨by decide +kernel, by decide +kernel⟩, by decide +kernel, by decide⟩, (List.mem_of_getElem? (i := 795) (by decide +kernel)), (List.mem_of_getElem? (i := 796) (by decide +kernel))⟩
abbrev mX5_listenerCount : zM := (yX5_listenerCount, cX5_listenerCount, 1, (some .int))
theorem vX5_listenerCount : zMeV mX5_listenerCount 0 := ⟨⟨(List.mem_of_getElem? (i := 337) (by decide +kernel)), (List.mem_of_getElem? (i := 61) (by decide +kernel)), ⟨by decide +kernel, by decide +kernel⟩, by decide +kernel, by decide⟩, (List.mem_of_getElem? (i := 335) (by decide +kernel)), (List.mem_of_getElem? (i := 336) (by decide +kernel))⟩
abbrev mX5_hive : zM := (yX5_hive, cX5_hive, 2, (some .int))
theorem vX5_hive : zMeV mX5_hive 1 := ⟨⟨(List.mem_of_getElem? (i := 804) (by decide +kernel)), (List.mem_of_getElem? (i := 61) (by decide +kernel)), ⟨by decide +kernel, by decide +kernel⟩, by decide +kernel, by decide⟩, (List.mem_of_getElem? (i := 802) (by decide +kernel)), (List.mem_of_getElem? (i := 803) (by decide +kernel))⟩
abbrev mX5_doubt : zM := (yX5_doubt, cX5_doubt, 2, (some .int))
theorem vX5_doubt : zMeV mX5_doubt 1 := ⟨⟨(List.mem_of_getElem? (i := 817) (by decide +kernel)), (List.mem_of_getElem? (i := 61) (by decide +kernel)), ⟨by decide +kernel, by decide +kernel⟩, by decide +kernel, by decide⟩, (List.mem_of_getElem? (i := 815) (by decide +kernel)), (List.mem_of_getElem? (i := 816) (by decide +kernel))⟩
abbrev mX5_isLinked : zM := (yX5_isLinked, cX5_isLinked, 3, (some .boolean))
theorem vX5_isLinked : zMeV mX5_isLinked 2 := ⟨⟨(List.mem_of_getElem? (i := 824) (by decide +kernel)), (List.mem_of_getElem? (i := 61) (by decide +kernel)), ⟨by decide +kernel, by decide +kernel⟩, by decide +kernel, by decide⟩, (List.mem_of_getElem? (i := 822) (by decide +kernel)), (List.mem_of_getElem? (i := 823) (by decide +kernel))⟩
abbrev mX5_neighbourCount : zM := (yX5_neighbourCount, cX5_neighbourCount, 2, (some .int))
theorem vX5_neighbourCount : zMeV mX5_neighbourCount 1 := ⟨⟨(List.mem_of_getElem? (i := 832) (by decide +kernel)), (List.mem_of_getElem? (i := 61) (by decide +kernel)), ⟨by decide +kernel, by decide +kernel⟩, by decide +kernel, by decide⟩, (List.mem_of_getElem? (i := 830) (by decide +kernel)), (List.mem_of_getElem? (i := 831) (by decide +kernel))⟩
abbrev mX5_linkCount : zM := (yX5_linkCount, cX5_linkCount, 1, (some .int))
theorem vX5_linkCount : zMeV mX5_linkCount 0 := ⟨⟨(List.mem_of_getElem? (i := 341) (by decide +kernel)), (List.mem_of_getElem? (i := 61) (by decide +kernel)), ⟨by decide +kernel, by decide +kernel⟩, by decide +kernel, by decide⟩, (List.mem_of_getElem? (i := 339) (by decide +kernel)), (List.mem_of_getElem? (i := 340) (by decide +kernel))⟩
abbrev mX5_hiveSize : zM := (yX5_hiveSize, cX5_hiveSize, 2, (some .int))
theorem vX5_hiveSize : zMeV mX5_hiveSize 1 := ⟨⟨(List.mem_of_getElem? (i := 840) (by decide +kernel)), (List.mem_of_getElem? (i := 61) (by decide +kernel)), ⟨by decide +kernel, by decide +kernel⟩, by decide +kernel, by decide⟩, (List.mem_of_getElem? (i := 838) (by decide +kernel)), (List.mem_of_getElem? (i := 839) (by decide +kernel))⟩
abbrev mX5_componentCount : zM := (yX5_componentCount, cX5_componentCount, 1, (some .int))
theorem vX5_componentCount : zMeV mX5_componentCount 0 := ⟨⟨(List.mem_of_getElem? (i := 345) (by decide +kernel)), (List.mem_of_getElem? (i := 61) (by decide +kernel)), ⟨by decide +kernel, by decide +kernel⟩, by decide +kernel, by decide⟩, (List.mem_of_getElem? (i := 343) (by decide +kernel)), (List.mem_of_getElem? (i := 344) (by decide +kernel))⟩
abbrev mX5_componentCountByUnion : zM := (yX5_componentCountByUnion, cX5_componentCountByUnion, 1, (some .int))
theorem vX5_componentCountByUnion : zMeV mX5_componentCountByUnion 0 := ⟨⟨(List.mem_of_getElem? (i := 364) (by decide +kernel)), (List.mem_of_getElem? (i := 61) (by decide +kernel)), ⟨by decide +kernel, by decide +kernel⟩, by decide +kernel, by decide⟩, (List.mem_of_getElem? (i := 362) (by decide +kernel)), (List.mem_of_getElem? (i := 363) (by decide +kernel))⟩
abbrev mX5_rumourCount : zM := (yX5_rumourCount, cX5_rumourCount, 1, (some .int))
theorem vX5_rumourCount : zMeV mX5_rumourCount 0 := ⟨⟨(List.mem_of_getElem? (i := 384) (by decide +kernel)), (List.mem_of_getElem? (i := 61) (by decide +kernel)), ⟨by decide +kernel, by decide +kernel⟩, by decide +kernel, by decide⟩, (List.mem_of_getElem? (i := 382) (by decide +kernel)), (List.mem_of_getElem? (i := 383) (by decide +kernel))⟩
abbrev mX5_strength : zM := (yX5_strength, cX5_strength, 2, (some .int))
theorem vX5_strength : zMeV mX5_strength 1 := ⟨⟨(List.mem_of_getElem? (i := 853) (by decide +kernel)), (List.mem_of_getElem? (i := 61) (by decide +kernel)), ⟨by decide +kernel, by decide +kernel⟩, by decide +kernel, by decide⟩, (List.mem_of_getElem? (i := 851) (by decide +kernel)), (List.mem_of_getElem? (i := 852) (by decide +kernel))⟩
abbrev mX5_isAlive : zM := (yX5_isAlive, cX5_isAlive, 2, (some .boolean))
theorem vX5_isAlive : zMeV mX5_isAlive 1 := ⟨⟨(List.mem_of_getElem? (i := 866) (by decide +kernel)), (List.mem_of_getElem? (i := 61) (by decide +kernel)), ⟨by decide +kernel, by decide +kernel⟩, by decide +kernel, by decide⟩, (List.mem_of_getElem? (i := 864) (by decide +kernel)), (List.mem_of_getElem? (i := 865) (by decide +kernel))⟩
abbrev mX5_starter : zM := (yX5_starter, cX5_starter, 2, (some .int))
theorem vX5_starter : zMeV mX5_starter 1 := ⟨⟨(List.mem_of_getElem? (i := 873) (by decide +kernel)), (List.mem_of_getElem? (i := 61) (by decide +kernel)), ⟨by decide +kernel, by decide +kernel⟩, by decide +kernel, by decide⟩, (List.mem_of_getElem? (i := 871) (by decide +kernel)), (List.mem_of_getElem? (i := 872) (by decide +kernel))⟩
abbrev mX5_isSpreader : zM := (yX5_isSpreader, cX5_isSpreader, 3, (some .boolean))
theorem vX5_isSpreader : zMeV mX5_isSpreader 2 := ⟨⟨(List.mem_of_getElem? (i := 880) (by decide +kernel)), (List.mem_of_getElem? (i := 61) (by decide +kernel)), ⟨by decide +kernel, by decide +kernel⟩, by decide +kernel, by decide⟩, (List.mem_of_getElem? (i := 878) (by decide +kernel)), (List.mem_of_getElem? (i := 879) (by decide +kernel))⟩
abbrev mX5_isSceptic : zM := (yX5_isSceptic, cX5_isSceptic, 3, (some .boolean))
theorem vX5_isSceptic : zMeV mX5_isSceptic 2 := ⟨⟨(List.mem_of_getElem? (i := 888) (by decide +kernel)), (List.mem_of_getElem? (i := 61) (by decide +kernel)), ⟨by decide +kernel, by decide +kernel⟩, by decide +kernel, by decide⟩, (List.mem_of_getElem? (i := 886) (by decide +kernel)), (List.mem_of_getElem? (i := 887) (by decide +kernel))⟩
abbrev mX5_heardRound : zM := (yX5_heardRound, cX5_heardRound, 3, (some .int))
theorem vX5_heardRound : zMeV mX5_heardRound 2 := ⟨⟨(List.mem_of_getElem? (i := 895) (by decide +kernel)), (List.mem_of_getElem? (i := 61) (by decide +kernel)), ⟨by decide +kernel, by decide +kernel⟩, by decide +kernel, by decide⟩, (List.mem_of_getElem? (i := 893) (by decide +kernel)), (List.mem_of_getElem? (i := 894) (by decide +kernel))⟩
abbrev mX5_spreaderCount : zM := (yX5_spreaderCount, cX5_spreaderCount, 2, (some .int))
theorem vX5_spreaderCount : zMeV mX5_spreaderCount 1 := ⟨⟨(List.mem_of_getElem? (i := 904) (by decide +kernel)), (List.mem_of_getElem? (i := 61) (by decide +kernel)), ⟨by decide +kernel, by decide +kernel⟩, by decide +kernel, by decide⟩, (List.mem_of_getElem? (i := 902) (by decide +kernel)), (List.mem_of_getElem? (i := 903) (by decide +kernel))⟩
abbrev mX5_scepticCount : zM := (yX5_scepticCount, cX5_scepticCount, 2, (some .int))
theorem vX5_scepticCount : zMeV mX5_scepticCount 1 := ⟨⟨(List.mem_of_getElem? (i := 911) (by decide +kernel)), (List.mem_of_getElem? (i := 61) (by decide +kernel)), ⟨by decide +kernel, by decide +kernel⟩, by decide +kernel, by decide⟩, (List.mem_of_getElem? (i := 909) (by decide +kernel)), (List.mem_of_getElem? (i := 910) (by decide +kernel))⟩
abbrev mX5_countedHive : zM := (yX5_countedHive, cX5_countedHive, 2, (some .int))
theorem vX5_countedHive : zMeV mX5_countedHive 1 := ⟨⟨(List.mem_of_getElem? (i := 918) (by decide +kernel)), (List.mem_of_getElem? (i := 61) (by decide +kernel)), ⟨by decide +kernel, by decide +kernel⟩, by decide +kernel, by decide⟩, (List.mem_of_getElem? (i := 916) (by decide +kernel)), (List.mem_of_getElem? (i := 917) (by decide +kernel))⟩
abbrev mX5_spreadersInHive : zM := (yX5_spreadersInHive, cX5_spreadersInHive, 3, (some .int))
theorem vX5_spreadersInHive : zMeV mX5_spreadersInHive 2 := ⟨⟨(List.mem_of_getElem? (i := 930) (by decide +kernel)), (List.mem_of_getElem? (i := 61) (by decide +kernel)), ⟨by decide +kernel, by decide +kernel⟩, by decide +kernel, by decide⟩, (List.mem_of_getElem? (i := 928) (by decide +kernel)), (List.mem_of_getElem? (i := 929) (by decide +kernel))⟩
abbrev mX5_distance : zM := (yX5_distance, cX5_distance, 3, (some .int))
theorem vX5_distance : zMeV mX5_distance 2 := ⟨⟨(List.mem_of_getElem? (i := 937) (by decide +kernel)), (List.mem_of_getElem? (i := 61) (by decide +kernel)), ⟨by decide +kernel, by decide +kernel⟩, by decide +kernel, by decide⟩, (List.mem_of_getElem? (i := 935) (by decide +kernel)), (List.mem_of_getElem? (i := 936) (by decide +kernel))⟩
abbrev mX5_distanceByRelaxation : zM := (yX5_distanceByRelaxation, cX5_distanceByRelaxation, 3, (some .int))
theorem vX5_distanceByRelaxation : zMeV mX5_distanceByRelaxation 2 := ⟨⟨(List.mem_of_getElem? (i := 948) (by decide +kernel)), (List.mem_of_getElem? (i := 61) (by decide +kernel)), ⟨by decide +kernel, by decide +kernel⟩, by decide +kernel, by decide⟩, (List.mem_of_getElem? (i := 946) (by decide +kernel)), (List.mem_of_getElem? (i := 947) (by decide +kernel))⟩
abbrev mX5_nextSpreaders : zM := (yX5_nextSpreaders, cX5_nextSpreaders, 2, (some .int))
theorem vX5_nextSpreaders : zMeV mX5_nextSpreaders 1 := ⟨⟨(List.mem_of_getElem? (i := 956) (by decide +kernel)), (List.mem_of_getElem? (i := 61) (by decide +kernel)), ⟨by decide +kernel, by decide +kernel⟩, by decide +kernel, by decide⟩, (List.mem_of_getElem? (i := 954) (by decide +kernel)), (List.mem_of_getElem? (i := 955) (by decide +kernel))⟩
abbrev mX5_roundsUntilHeard : zM := (yX5_roundsUntilHeard, cX5_roundsUntilHeard, 3, (some .int))
theorem vX5_roundsUntilHeard : zMeV mX5_roundsUntilHeard 2 := ⟨⟨(List.mem_of_getElem? (i := 967) (by decide +kernel)), (List.mem_of_getElem? (i := 61) (by decide +kernel)), ⟨by decide +kernel, by decide +kernel⟩, by decide +kernel, by decide⟩, (List.mem_of_getElem? (i := 965) (by decide +kernel)), (List.mem_of_getElem? (i := 966) (by decide +kernel))⟩
abbrev mX5_spreadersAfter : zM := (yX5_spreadersAfter, cX5_spreadersAfter, 4, (some .int))
theorem vX5_spreadersAfter : zMeV mX5_spreadersAfter 2 := ⟨⟨(List.mem_of_getElem? (i := 981) (by decide +kernel)), (List.mem_of_getElem? (i := 61) (by decide +kernel)), ⟨by decide +kernel, by decide +kernel⟩, by decide +kernel, by decide⟩, (List.mem_of_getElem? (i := 979) (by decide +kernel)), (List.mem_of_getElem? (i := 980) (by decide +kernel))⟩
abbrev mX5_rumourBySpread : zM := (yX5_rumourBySpread, cX5_rumourBySpread, 2, (some .int))
theorem vX5_rumourBySpread : zMeV mX5_rumourBySpread 1 := ⟨⟨(List.mem_of_getElem? (i := 989) (by decide +kernel)), (List.mem_of_getElem? (i := 61) (by decide +kernel)), ⟨by decide +kernel, by decide +kernel⟩, by decide +kernel, by decide⟩, (List.mem_of_getElem? (i := 987) (by decide +kernel)), (List.mem_of_getElem? (i := 988) (by decide +kernel))⟩
abbrev mX5_listenerByGossip : zM := (yX5_listenerByGossip, cX5_listenerByGossip, 2, (some .int))
theorem vX5_listenerByGossip : zMeV mX5_listenerByGossip 1 := ⟨⟨(List.mem_of_getElem? (i := 1004) (by decide +kernel)), (List.mem_of_getElem? (i := 61) (by decide +kernel)), ⟨by decide +kernel, by decide +kernel⟩, by decide +kernel, by decide⟩, (List.mem_of_getElem? (i := 1002) (by decide +kernel)), (List.mem_of_getElem? (i := 1003) (by decide +kernel))⟩
abbrev mX5_round : zM := (yX5_round, cX5_round, 1, (some .int))
theorem vX5_round : zMeV mX5_round 0 := ⟨⟨(List.mem_of_getElem? (i := 388) (by decide +kernel)), (List.mem_of_getElem? (i := 61) (by decide +kernel)), ⟨by decide +kernel, by decide +kernel⟩, by decide +kernel, by decide⟩, (List.mem_of_getElem? (i := 386) (by decide +kernel)), (List.mem_of_getElem? (i := 387) (by decide +kernel))⟩
abbrev mX5_heardTotal : zM := (yX5_heardTotal, cX5_heardTotal, 1, (some .int))
theorem vX5_heardTotal : zMeV mX5_heardTotal 0 := ⟨⟨(List.mem_of_getElem? (i := 392) (by decide +kernel)), (List.mem_of_getElem? (i := 61) (by decide +kernel)), ⟨by decide +kernel, by decide +kernel⟩, by decide +kernel, by decide⟩, (List.mem_of_getElem? (i := 390) (by decide +kernel)), (List.mem_of_getElem? (i := 391) (by decide +kernel))⟩
abbrev mX5_successfulChecks : zM := (yX5_successfulChecks, cX5_successfulChecks, 1, (some .int))
theorem vX5_successfulChecks : zMeV mX5_successfulChecks 0 := ⟨⟨(List.mem_of_getElem? (i := 396) (by decide +kernel)), (List.mem_of_getElem? (i := 61) (by decide +kernel)), ⟨by decide +kernel, by decide +kernel⟩, by decide +kernel, by decide⟩, (List.mem_of_getElem? (i := 394) (by decide +kernel)), (List.mem_of_getElem? (i := 395) (by decide +kernel))⟩
abbrev mX5_meanDoubt : zM := (yX5_meanDoubt, cX5_meanDoubt, 1, (some .double))
theorem vX5_meanDoubt : zMeV mX5_meanDoubt 0 := ⟨⟨(List.mem_of_getElem? (i := 1037) (by decide +kernel)), (List.mem_of_getElem? (i := 61) (by decide +kernel)), ⟨by decide +kernel, by decide +kernel⟩, by decide +kernel, by decide⟩, (List.mem_of_getElem? (i := 1035) (by decide +kernel)), (List.mem_of_getElem? (i := 1036) (by decide +kernel))⟩
abbrev mX5_gossipShare : zM := (yX5_gossipShare, cX5_gossipShare, 1, (some .float))
theorem vX5_gossipShare : zMeV mX5_gossipShare 0 := ⟨⟨(List.mem_of_getElem? (i := 1051) (by decide +kernel)), (List.mem_of_getElem? (i := 61) (by decide +kernel)), ⟨by decide +kernel, by decide +kernel⟩, by decide +kernel, by decide⟩, (List.mem_of_getElem? (i := 1049) (by decide +kernel)), (List.mem_of_getElem? (i := 1050) (by decide +kernel))⟩
abbrev mX5_isConsistent : zM := (yX5_isConsistent, cX5_isConsistent, 1, (some .boolean))
theorem vX5_isConsistent : zMeV mX5_isConsistent 0 := ⟨⟨(List.mem_of_getElem? (i := 400) (by decide +kernel)), (List.mem_of_getElem? (i := 61) (by decide +kernel)), ⟨by decide +kernel, by decide +kernel⟩, by decide +kernel, by decide⟩, (List.mem_of_getElem? (i := 398) (by decide +kernel)), (List.mem_of_getElem? (i := 399) (by decide +kernel))⟩
abbrev mX5_renderRumour : zM := (yX5_renderRumour, cX5_renderRumour, 4, (some .int))
theorem vX5_renderRumour : zMeV mX5_renderRumour 1 := ⟨⟨(List.mem_of_getElem? (i := 1062) (by decide +kernel)), (List.mem_of_getElem? (i := 61) (by decide +kernel)), ⟨by decide +kernel, by decide +kernel⟩, by decide +kernel, by decide⟩, (List.mem_of_getElem? (i := 1060) (by decide +kernel)), (List.mem_of_getElem? (i := 1061) (by decide +kernel))⟩
abbrev mX5_renderHive : zM := (yX5_renderHive, cX5_renderHive, 4, (some .int))
theorem vX5_renderHive : zMeV mX5_renderHive 1 := ⟨⟨(List.mem_of_getElem? (i := 1349) (by decide +kernel)), (List.mem_of_getElem? (i := 61) (by decide +kernel)), ⟨by decide +kernel, by decide +kernel⟩, by decide +kernel, by decide⟩, (List.mem_of_getElem? (i := 1347) (by decide +kernel)), (List.mem_of_getElem? (i := 1348) (by decide +kernel))⟩
abbrev mX5_outputAt : zM := (yX5_outputAt, cX5_outputAt, 2, (some .char))
theorem vX5_outputAt : zMeV mX5_outputAt 1 := ⟨⟨(List.mem_of_getElem? (i := 1356) (by decide +kernel)), (List.mem_of_getElem? (i := 61) (by decide +kernel)), ⟨by decide +kernel, by decide +kernel⟩, by decide +kernel, by decide⟩, (List.mem_of_getElem? (i := 1354) (by decide +kernel)), (List.mem_of_getElem? (i := 1355) (by decide +kernel))⟩
abbrev mX5_type : zM := (yX5_type, cX5_type, 2, (some .int))
theorem vX5_type : zMeV mX5_type 1 := ⟨⟨(List.mem_of_getElem? (i := 1374) (by decide +kernel)), (List.mem_of_getElem? (i := 61) (by decide +kernel)), ⟨by decide +kernel, by decide +kernel⟩, by decide +kernel, by decide⟩, (List.mem_of_getElem? (i := 1372) (by decide +kernel)), (List.mem_of_getElem? (i := 1373) (by decide +kernel))⟩
abbrev mX5_runScript : zM := (yX5_runScript, cX5_runScript, 3, (some .int))
theorem vX5_runScript : zMeV mX5_runScript 0 := ⟨⟨(List.mem_of_getElem? (i := 1387) (by decide +kernel)), (List.mem_of_getElem? (i := 61) (by decide +kernel)), ⟨by decide +kernel, by decide +kernel⟩, by decide +kernel, by decide⟩, (List.mem_of_getElem? (i := 1385) (by decide +kernel)), (List.mem_of_getElem? (i := 1386) (by decide +kernel))⟩
abbrev mX5_errorPosition : zM := (yX5_errorPosition, cX5_errorPosition, 1, (some .int))
theorem vX5_errorPosition : zMeV mX5_errorPosition 0 := ⟨⟨(List.mem_of_getElem? (i := 1457) (by decide +kernel)), (List.mem_of_getElem? (i := 61) (by decide +kernel)), ⟨by decide +kernel, by decide +kernel⟩, by decide +kernel, by decide⟩, (List.mem_of_getElem? (i := 1455) (by decide +kernel)), (List.mem_of_getElem? (i := 1456) (by decide +kernel))⟩
abbrev mX5_failedCommand : zM := (yX5_failedCommand, cX5_failedCommand, 1, (some .int))
theorem vX5_failedCommand : zMeV mX5_failedCommand 0 := ⟨⟨(List.mem_of_getElem? (i := 1464) (by decide +kernel)), (List.mem_of_getElem? (i := 61) (by decide +kernel)), ⟨by decide +kernel, by decide +kernel⟩, by decide +kernel, by decide⟩, (List.mem_of_getElem? (i := 1462) (by decide +kernel)), (List.mem_of_getElem? (i := 1463) (by decide +kernel))⟩
abbrev mX5_undo : zM := (yX5_undo, cX5_undo, 1, (some .int))
theorem vX5_undo : zMeV mX5_undo 0 := ⟨⟨(List.mem_of_getElem? (i := 1471) (by decide +kernel)), (List.mem_of_getElem? (i := 61) (by decide +kernel)), ⟨by decide +kernel, by decide +kernel⟩, by decide +kernel, by decide⟩, (List.mem_of_getElem? (i := 1469) (by decide +kernel)), (List.mem_of_getElem? (i := 1470) (by decide +kernel))⟩
abbrev mX5_save : zM := (yX5_save, cX5_save, 1, (some .int))
theorem vX5_save : zMeV mX5_save 0 := ⟨⟨(List.mem_of_getElem? (i := 441) (by decide +kernel)), (List.mem_of_getElem? (i := 61) (by decide +kernel)), ⟨by decide +kernel, by decide +kernel⟩, by decide +kernel, by decide⟩, (List.mem_of_getElem? (i := 439) (by decide +kernel)), (List.mem_of_getElem? (i := 440) (by decide +kernel))⟩
abbrev mX5_restore : zM := (yX5_restore, cX5_restore, 1, (some .int))
theorem vX5_restore : zMeV mX5_restore 0 := ⟨⟨(List.mem_of_getElem? (i := 1483) (by decide +kernel)), (List.mem_of_getElem? (i := 61) (by decide +kernel)), ⟨by decide +kernel, by decide +kernel⟩, by decide +kernel, by decide⟩, (List.mem_of_getElem? (i := 1481) (by decide +kernel)), (List.mem_of_getElem? (i := 1482) (by decide +kernel))⟩
abbrev mX5_needListener : zM := (yX5_needListener, cX5_needListener, 2, none)
theorem vX5_needListener : zMeV mX5_needListener 1 := ⟨⟨(List.mem_of_getElem? (i := 808) (by decide +kernel)), (List.mem_of_getElem? (i := 61) (by decide +kernel)), ⟨by decide +kernel, by decide +kernel⟩, by decide +kernel, by decide⟩, (List.mem_of_getElem? (i := 807) (by decide +kernel)), (List.mem_of_getElem? (i := 11) (by decide +kernel))⟩
abbrev mX5_needRumour : zM := (yX5_needRumour, cX5_needRumour, 2, none)
theorem vX5_needRumour : zMeV mX5_needRumour 1 := ⟨⟨(List.mem_of_getElem? (i := 857) (by decide +kernel)), (List.mem_of_getElem? (i := 61) (by decide +kernel)), ⟨by decide +kernel, by decide +kernel⟩, by decide +kernel, by decide⟩, (List.mem_of_getElem? (i := 856) (by decide +kernel)), (List.mem_of_getElem? (i := 12) (by decide +kernel))⟩
abbrev mX5_needHive : zM := (yX5_needHive, cX5_needHive, 1, none)
theorem vX5_needHive : zMeS mX5_needHive 1 := ⟨⟨(List.mem_of_getElem? (i := 843) (by decide +kernel)), (List.mem_of_getElem? (i := 61) (by decide +kernel)), ⟨by decide +kernel, by decide +kernel⟩, by decide +kernel, by decide⟩, (List.mem_of_getElem? (i := 842) (by decide +kernel))⟩
abbrev mX5_found : zM := (yX5_found, cX5_found, 1, (some .int))
theorem vX5_found : zMeS mX5_found 1 := ⟨⟨(List.mem_of_getElem? (i := 941) (by decide +kernel)), (List.mem_of_getElem? (i := 61) (by decide +kernel)), ⟨by decide +kernel, by decide +kernel⟩, by decide +kernel, by decide⟩, (List.mem_of_getElem? (i := 940) (by decide +kernel))⟩
abbrev mX5_isHive : zM := (yX5_isHive, cX5_isHive, 1, (some .boolean))
theorem vX5_isHive : zMeS mX5_isHive 1 := ⟨⟨(List.mem_of_getElem? (i := 482) (by decide +kernel)), (List.mem_of_getElem? (i := 61) (by decide +kernel)), ⟨by decide +kernel, by decide +kernel⟩, by decide +kernel, by decide⟩, (List.mem_of_getElem? (i := 481) (by decide +kernel))⟩
abbrev mX5_isLevel : zM := (yX5_isLevel, cX5_isLevel, 1, (some .boolean))
theorem vX5_isLevel : zMeS mX5_isLevel 1 := ⟨⟨(List.mem_of_getElem? (i := 485) (by decide +kernel)), (List.mem_of_getElem? (i := 61) (by decide +kernel)), ⟨by decide +kernel, by decide +kernel⟩, by decide +kernel, by decide⟩, (List.mem_of_getElem? (i := 484) (by decide +kernel))⟩
abbrev mX5_contains : zM := (yX5_contains, cX5_contains, 2, (some .boolean))
theorem vX5_contains : zMeS mX5_contains 2 := ⟨⟨(List.mem_of_getElem? (i := 352) (by decide +kernel)), (List.mem_of_getElem? (i := 61) (by decide +kernel)), ⟨by decide +kernel, by decide +kernel⟩, by decide +kernel, by decide⟩, (List.mem_of_getElem? (i := 351) (by decide +kernel))⟩
abbrev mX5_change : zM := (yX5_change, cX5_change, 4, (some .int))
theorem vX5_change : zMeV mX5_change 3 := ⟨⟨(List.mem_of_getElem? (i := 471) (by decide +kernel)), (List.mem_of_getElem? (i := 61) (by decide +kernel)), ⟨by decide +kernel, by decide +kernel⟩, by decide +kernel, by decide⟩, (List.mem_of_getElem? (i := 470) (by decide +kernel)), (List.mem_of_getElem? (i := 5) (by decide +kernel))⟩
abbrev mX5_refuse : zM := (yX5_refuse, cX5_refuse, 1, none)
theorem vX5_refuse : zMeS mX5_refuse 1 := ⟨⟨(List.mem_of_getElem? (i := 526) (by decide +kernel)), (List.mem_of_getElem? (i := 61) (by decide +kernel)), ⟨by decide +kernel, by decide +kernel⟩, by decide +kernel, by decide⟩, (List.mem_of_getElem? (i := 525) (by decide +kernel))⟩
abbrev mX5_refusalOf : zM := (yX5_refusalOf, cX5_refusalOf, 4, (some .int))
theorem vX5_refusalOf : zMeV mX5_refusalOf 3 := ⟨⟨(List.mem_of_getElem? (i := 475) (by decide +kernel)), (List.mem_of_getElem? (i := 61) (by decide +kernel)), ⟨by decide +kernel, by decide +kernel⟩, by decide +kernel, by decide⟩, (List.mem_of_getElem? (i := 474) (by decide +kernel)), (List.mem_of_getElem? (i := 6) (by decide +kernel))⟩
abbrev mX5_perform : zM := (yX5_perform, cX5_perform, 4, (some .int))
theorem vX5_perform : zMeV mX5_perform 3 := ⟨⟨(List.mem_of_getElem? (i := 655) (by decide +kernel)), (List.mem_of_getElem? (i := 61) (by decide +kernel)), ⟨by decide +kernel, by decide +kernel⟩, by decide +kernel, by decide⟩, (List.mem_of_getElem? (i := 654) (by decide +kernel)), (List.mem_of_getElem? (i := 8) (by decide +kernel))⟩
abbrev mX5_runCommands : zM := (yX5_runCommands, cX5_runCommands, 5, (some .int))
theorem vX5_runCommands : zMeV mX5_runCommands 0 := ⟨⟨(List.mem_of_getElem? (i := 1449) (by decide +kernel)), (List.mem_of_getElem? (i := 61) (by decide +kernel)), ⟨by decide +kernel, by decide +kernel⟩, by decide +kernel, by decide⟩, (List.mem_of_getElem? (i := 1448) (by decide +kernel)), (List.mem_of_getElem? (i := 23) (by decide +kernel))⟩
abbrev mX5_foreseenHearing : zM := (yX5_foreseenHearing, cX5_foreseenHearing, 4, (some .int))
theorem vX5_foreseenHearing : zMeV mX5_foreseenHearing 2 := ⟨⟨(List.mem_of_getElem? (i := 972) (by decide +kernel)), (List.mem_of_getElem? (i := 61) (by decide +kernel)), ⟨by decide +kernel, by decide +kernel⟩, by decide +kernel, by decide⟩, (List.mem_of_getElem? (i := 971) (by decide +kernel)), (List.mem_of_getElem? (i := 13) (by decide +kernel))⟩
theorem kX5_9 : Cond.methodLink RX5 9 yX3_init ∈ lw_tbl := (List.mem_of_getElem? (i := 100) (by decide +kernel))
theorem lX5_9 : zLk RX5 9 yX3_init := .inl kX5_9
theorem lX3_11 : zLk RX3 11 yX1_init := .inr ⟨"RumourHives", (List.mem_of_getElem? (i := 106) (by decide +kernel))⟩
theorem lX3_44 : zLk RX3 44 yX2_init := .inr ⟨"RumourHives", (List.mem_of_getElem? (i := 135) (by decide +kernel))⟩
theorem kX5_24 : Cond.methodLink RX5 24 yX0_init ∈ lw_tbl := (List.mem_of_getElem? (i := 204) (by decide +kernel))
theorem lX5_24 : zLk RX5 24 yX0_init := .inl kX5_24
theorem kX0_24 : Cond.methodLink RX0 24 yX3_init ∈ lw_tbl := (List.mem_of_getElem? (i := 210) (by decide +kernel))
theorem lX0_24 : zLk RX0 24 yX3_init := .inl kX0_24
theorem lX5_31 : zLk RX5 31 yX2_init := .inr ⟨"RumourHives", (List.mem_of_getElem? (i := 223) (by decide +kernel))⟩
theorem lX5_38 : zLk RX5 38 yX4_init := .inr ⟨"RumourHives", (List.mem_of_getElem? (i := 226) (by decide +kernel))⟩
theorem kX5_45 : Cond.methodLink RX5 45 yJ4_init_da8c8 ∈ lw_tbl := (List.mem_of_getElem? (i := 272) (by decide +kernel))
theorem lX5_45 : zLk RX5 45 yJ4_init_da8c8 := .inl kX5_45
theorem kX5_107 : Cond.methodLink RX5 107 yX1_piecesBySearch ∈ lw_tbl := (List.mem_of_getElem? (i := 346) (by decide +kernel))
theorem lX5_107 : zLk RX5 107 yX1_piecesBySearch := .inl kX5_107
theorem lX1_34 : zLk RX1 34 yX5_contains := .inr ⟨"RumourHives", (List.mem_of_getElem? (i := 350) (by decide +kernel))⟩
theorem kX1_38 : Cond.methodLink RX1 38 yX1_pieceOf ∈ lw_tbl := (List.mem_of_getElem? (i := 353) (by decide +kernel))
theorem lX1_38 : zLk RX1 38 yX1_pieceOf := .inl kX1_38
theorem kX1_42 : Cond.methodLink RX1 42 yX1_around ∈ lw_tbl := (List.mem_of_getElem? (i := 357) (by decide +kernel))
theorem lX1_42 : zLk RX1 42 yX1_around := .inl kX1_42
theorem kX5_111 : Cond.methodLink RX5 111 yX1_piecesByUnion ∈ lw_tbl := (List.mem_of_getElem? (i := 365) (by decide +kernel))
theorem lX5_111 : zLk RX5 111 yX1_piecesByUnion := .inl kX5_111
theorem kX1_45 : Cond.methodLink RX1 45 yX1_joined ∈ lw_tbl := (List.mem_of_getElem? (i := 369) (by decide +kernel))
theorem lX1_45 : zLk RX1 45 yX1_joined := .inl kX1_45
theorem kX1_48 : Cond.methodLink RX1 48 yX1_unite ∈ lw_tbl := (List.mem_of_getElem? (i := 373) (by decide +kernel))
theorem lX1_48 : zLk RX1 48 yX1_unite := .inl kX1_48
theorem kX1_51 : Cond.methodLink RX1 51 yX1_rootOf ∈ lw_tbl := (List.mem_of_getElem? (i := 377) (by decide +kernel))
theorem lX1_51 : zLk RX1 51 yX1_rootOf := .inl kX1_51
theorem kX5_221 : Cond.methodLink RX5 221 yX3_distancesAgree ∈ lw_tbl := (List.mem_of_getElem? (i := 401) (by decide +kernel))
theorem lX5_221 : zLk RX5 221 yX3_distancesAgree := .inl kX5_221
theorem kX3_140 : Cond.methodLink RX3 140 yX1_stepsBySearch ∈ lw_tbl := (List.mem_of_getElem? (i := 405) (by decide +kernel))
theorem lX3_140 : zLk RX3 140 yX1_stepsBySearch := .inl kX3_140
theorem kX3_144 : Cond.methodLink RX3 144 yX1_stepsByRelaxing ∈ lw_tbl := (List.mem_of_getElem? (i := 409) (by decide +kernel))
theorem lX3_144 : zLk RX3 144 yX1_stepsByRelaxing := .inl kX3_144
theorem kX1_54 : Cond.methodLink RX1 54 yX1_relaxLinks ∈ lw_tbl := (List.mem_of_getElem? (i := 413) (by decide +kernel))
theorem lX1_54 : zLk RX1 54 yX1_relaxLinks := .inl kX1_54
theorem kX1_57 : Cond.methodLink RX1 57 yJ9_min_7cf53 ∈ lw_tbl := (List.mem_of_getElem? (i := 417) (by decide +kernel))
theorem lX1_57 : zLk RX1 57 yJ9_min_7cf53 := .inl kX1_57
theorem kX5_225 : Cond.methodLink RX5 225 yX3_standsAreClear ∈ lw_tbl := (List.mem_of_getElem? (i := 420) (by decide +kernel))
theorem lX5_225 : zLk RX5 225 yX3_standsAreClear := .inl kX5_225
theorem kX5_228 : Cond.methodLink RX5 228 yX3_hivesAddUp ∈ lw_tbl := (List.mem_of_getElem? (i := 424) (by decide +kernel))
theorem lX5_228 : zLk RX5 228 yX3_hivesAddUp := .inl kX5_228
theorem kX3_128 : Cond.methodLink RX3 128 yX3_membersOf ∈ lw_tbl := (List.mem_of_getElem? (i := 428) (by decide +kernel))
theorem lX3_128 : zLk RX3 128 yX3_membersOf := .inl kX3_128
theorem kX3_102 : Cond.methodLink RX3 102 yJ6_bitCount_0f7a4 ∈ lw_tbl := (List.mem_of_getElem? (i := 432) (by decide +kernel))
theorem lX3_102 : zLk RX3 102 yJ6_bitCount_0f7a4 := .inl kX3_102
theorem kX5_288 : Cond.methodLink RX5 288 yX3_copyFrom ∈ lw_tbl := (List.mem_of_getElem? (i := 442) (by decide +kernel))
theorem lX5_288 : zLk RX5 288 yX3_copyFrom := .inl kX5_288
theorem kX3_45 : Cond.methodLink RX3 45 yX1_copyFrom ∈ lw_tbl := (List.mem_of_getElem? (i := 446) (by decide +kernel))
theorem lX3_45 : zLk RX3 45 yX1_copyFrom := .inl kX3_45
theorem kX3_55 : Cond.methodLink RX3 55 yX2_copyFrom ∈ lw_tbl := (List.mem_of_getElem? (i := 454) (by decide +kernel))
theorem lX3_55 : zLk RX3 55 yX2_copyFrom := .inl kX3_55
theorem kX5_61 : Cond.methodLink RX5 61 yX5_change ∈ lw_tbl := (List.mem_of_getElem? (i := 468) (by decide +kernel))
theorem lX5_61 : zLk RX5 61 yX5_change := .inl kX5_61
theorem kX5_310 : Cond.methodLink RX5 310 yX5_refusalOf ∈ lw_tbl := (List.mem_of_getElem? (i := 472) (by decide +kernel))
theorem lX5_310 : zLk RX5 310 yX5_refusalOf := .inl kX5_310
theorem kX5_328 : Cond.methodLink RX5 328 yX3_refusalToAdd ∈ lw_tbl := (List.mem_of_getElem? (i := 476) (by decide +kernel))
theorem lX5_328 : zLk RX5 328 yX3_refusalToAdd := .inl kX5_328
theorem lX3_61 : zLk RX3 61 yX5_isHive := .inr ⟨"RumourHives", (List.mem_of_getElem? (i := 480) (by decide +kernel))⟩
theorem lX3_65 : zLk RX3 65 yX5_isLevel := .inr ⟨"RumourHives", (List.mem_of_getElem? (i := 483) (by decide +kernel))⟩
theorem kX5_331 : Cond.methodLink RX5 331 yX3_refusalToJoin ∈ lw_tbl := (List.mem_of_getElem? (i := 486) (by decide +kernel))
theorem lX5_331 : zLk RX5 331 yX3_refusalToJoin := .inl kX5_331
theorem kX3_68 : Cond.methodLink RX3 68 yX3_hasListener ∈ lw_tbl := (List.mem_of_getElem? (i := 490) (by decide +kernel))
theorem lX3_68 : zLk RX3 68 yX3_hasListener := .inl kX3_68
theorem kX3_71 : Cond.methodLink RX3 71 yX1_joined ∈ lw_tbl := (List.mem_of_getElem? (i := 494) (by decide +kernel))
theorem lX3_71 : zLk RX3 71 yX1_joined := .inl kX3_71
theorem kX5_334 : Cond.methodLink RX5 334 yX3_refusalToCut ∈ lw_tbl := (List.mem_of_getElem? (i := 495) (by decide +kernel))
theorem lX5_334 : zLk RX5 334 yX3_refusalToCut := .inl kX5_334
theorem kX5_337 : Cond.methodLink RX5 337 yX3_refusalToStart ∈ lw_tbl := (List.mem_of_getElem? (i := 499) (by decide +kernel))
theorem lX5_337 : zLk RX5 337 yX3_refusalToStart := .inl kX5_337
theorem kX5_340 : Cond.methodLink RX5 340 yX3_refusalToConvert ∈ lw_tbl := (List.mem_of_getElem? (i := 503) (by decide +kernel))
theorem lX5_340 : zLk RX5 340 yX3_refusalToConvert := .inl kX5_340
theorem kX3_79 : Cond.methodLink RX3 79 yX3_hasRumour ∈ lw_tbl := (List.mem_of_getElem? (i := 507) (by decide +kernel))
theorem lX3_79 : zLk RX3 79 yX3_hasRumour := .inl kX3_79
theorem lX3_85 : zLk RX3 85 yX5_contains := .inr ⟨"RumourHives", (List.mem_of_getElem? (i := 511) (by decide +kernel))⟩
theorem kX5_343 : Cond.methodLink RX5 343 yX3_refusalToSilence ∈ lw_tbl := (List.mem_of_getElem? (i := 512) (by decide +kernel))
theorem lX5_343 : zLk RX5 343 yX3_refusalToSilence := .inl kX5_343
theorem kX5_346 : Cond.methodLink RX5 346 yX3_refusalToRevive ∈ lw_tbl := (List.mem_of_getElem? (i := 516) (by decide +kernel))
theorem lX5_346 : zLk RX5 346 yX3_refusalToRevive := .inl kX5_346
theorem kX5_349 : Cond.methodLink RX5 349 yX3_refusalToMove ∈ lw_tbl := (List.mem_of_getElem? (i := 520) (by decide +kernel))
theorem lX5_349 : zLk RX5 349 yX3_refusalToMove := .inl kX5_349
theorem kX5_313 : Cond.methodLink RX5 313 yX5_refuse ∈ lw_tbl := (List.mem_of_getElem? (i := 524) (by decide +kernel))
theorem lX5_313 : zLk RX5 313 yX5_refuse := .inl kX5_313
theorem kX5_316 : Cond.methodLink RX5 316 yX0_keep ∈ lw_tbl := (List.mem_of_getElem? (i := 646) (by decide +kernel))
theorem lX5_316 : zLk RX5 316 yX0_keep := .inl kX5_316
theorem kX0_25 : Cond.methodLink RX0 25 yX3_copyFrom ∈ lw_tbl := (List.mem_of_getElem? (i := 650) (by decide +kernel))
theorem lX0_25 : zLk RX0 25 yX3_copyFrom := .inl kX0_25
theorem kX0_29 : Cond.methodLink RX0 29 yJ9_min_7cf53 ∈ lw_tbl := (List.mem_of_getElem? (i := 651) (by decide +kernel))
theorem lX0_29 : zLk RX0 29 yJ9_min_7cf53 := .inl kX0_29
theorem kX5_319 : Cond.methodLink RX5 319 yX5_perform ∈ lw_tbl := (List.mem_of_getElem? (i := 652) (by decide +kernel))
theorem lX5_319 : zLk RX5 319 yX5_perform := .inl kX5_319
theorem kX5_352 : Cond.methodLink RX5 352 yX3_add ∈ lw_tbl := (List.mem_of_getElem? (i := 656) (by decide +kernel))
theorem lX5_352 : zLk RX5 352 yX3_add := .inl kX5_352
theorem kX5_355 : Cond.methodLink RX5 355 yX1_join ∈ lw_tbl := (List.mem_of_getElem? (i := 660) (by decide +kernel))
theorem lX5_355 : zLk RX5 355 yX1_join := .inl kX5_355
theorem kX5_358 : Cond.methodLink RX5 358 yX1_cut ∈ lw_tbl := (List.mem_of_getElem? (i := 664) (by decide +kernel))
theorem lX5_358 : zLk RX5 358 yX1_cut := .inl kX5_358
theorem kX5_361 : Cond.methodLink RX5 361 yX3_begin ∈ lw_tbl := (List.mem_of_getElem? (i := 668) (by decide +kernel))
theorem lX5_361 : zLk RX5 361 yX3_begin := .inl kX5_361
theorem kX3_75 : Cond.methodLink RX3 75 yX2_comeUp ∈ lw_tbl := (List.mem_of_getElem? (i := 672) (by decide +kernel))
theorem lX3_75 : zLk RX3 75 yX2_comeUp := .inl kX3_75
theorem kX5_364 : Cond.methodLink RX5 364 yX3_convert ∈ lw_tbl := (List.mem_of_getElem? (i := 676) (by decide +kernel))
theorem lX5_364 : zLk RX5 364 yX3_convert := .inl kX5_364
theorem kX5_367 : Cond.methodLink RX5 367 yX2_silence ∈ lw_tbl := (List.mem_of_getElem? (i := 680) (by decide +kernel))
theorem lX5_367 : zLk RX5 367 yX2_silence := .inl kX5_367
theorem kX2_38 : Cond.methodLink RX2 38 yJ6_bitCount_0f7a4 ∈ lw_tbl := (List.mem_of_getElem? (i := 684) (by decide +kernel))
theorem lX2_38 : zLk RX2 38 yJ6_bitCount_0f7a4 := .inl kX2_38
theorem kX5_370 : Cond.methodLink RX5 370 yX2_revive ∈ lw_tbl := (List.mem_of_getElem? (i := 685) (by decide +kernel))
theorem lX5_370 : zLk RX5 370 yX2_revive := .inl kX5_370
theorem kX5_373 : Cond.methodLink RX5 373 yX3_move ∈ lw_tbl := (List.mem_of_getElem? (i := 689) (by decide +kernel))
theorem lX5_373 : zLk RX5 373 yX3_move := .inl kX5_373
theorem kX5_376 : Cond.methodLink RX5 376 yX3_passRounds ∈ lw_tbl := (List.mem_of_getElem? (i := 693) (by decide +kernel))
theorem lX5_376 : zLk RX5 376 yX3_passRounds := .inl kX5_376
theorem kX3_98 : Cond.methodLink RX3 98 yX2_aware ∈ lw_tbl := (List.mem_of_getElem? (i := 697) (by decide +kernel))
theorem lX3_98 : zLk RX3 98 yX2_aware := .inl kX3_98
theorem kX3_108 : Cond.methodLink RX3 108 yX3_spreadOnce ∈ lw_tbl := (List.mem_of_getElem? (i := 701) (by decide +kernel))
theorem lX3_108 : zLk RX3 108 yX3_spreadOnce := .inl kX3_108
theorem kX3_112 : Cond.methodLink RX3 112 yX3_hears ∈ lw_tbl := (List.mem_of_getElem? (i := 705) (by decide +kernel))
theorem lX3_112 : zLk RX3 112 yX3_hears := .inl kX3_112
theorem kX3_119 : Cond.methodLink RX3 119 yX3_believes ∈ lw_tbl := (List.mem_of_getElem? (i := 709) (by decide +kernel))
theorem lX3_119 : zLk RX3 119 yX3_believes := .inl kX3_119
theorem kX3_122 : Cond.methodLink RX3 122 yX2_weaken ∈ lw_tbl := (List.mem_of_getElem? (i := 713) (by decide +kernel))
theorem lX3_122 : zLk RX3 122 yX2_weaken := .inl kX3_122
theorem kX2_44 : Cond.methodLink RX2 44 yJ9_max_7cf53 ∈ lw_tbl := (List.mem_of_getElem? (i := 717) (by decide +kernel))
theorem lX2_44 : zLk RX2 44 yJ9_max_7cf53 := .inl kX2_44
theorem kX5_74 : Cond.methodLink RX5 74 yX5_needListener ∈ lw_tbl := (List.mem_of_getElem? (i := 805) (by decide +kernel))
theorem lX5_74 : zLk RX5 74 yX5_needListener := .inl kX5_74
theorem kX5_292 : Cond.methodLink RX5 292 yX3_hasListener ∈ lw_tbl := (List.mem_of_getElem? (i := 809) (by decide +kernel))
theorem lX5_292 : zLk RX5 292 yX3_hasListener := .inl kX5_292
theorem kX5_85 : Cond.methodLink RX5 85 yX1_joined ∈ lw_tbl := (List.mem_of_getElem? (i := 825) (by decide +kernel))
theorem lX5_85 : zLk RX5 85 yX1_joined := .inl kX5_85
theorem kX5_92 : Cond.methodLink RX5 92 yJ6_bitCount_0f7a4 ∈ lw_tbl := (List.mem_of_getElem? (i := 833) (by decide +kernel))
theorem lX5_92 : zLk RX5 92 yJ6_bitCount_0f7a4 := .inl kX5_92
theorem kX5_101 : Cond.methodLink RX5 101 yX5_needHive ∈ lw_tbl := (List.mem_of_getElem? (i := 841) (by decide +kernel))
theorem lX5_101 : zLk RX5 101 yX5_needHive := .inl kX5_101
theorem kX5_303 : Cond.methodLink RX5 303 yX5_isHive ∈ lw_tbl := (List.mem_of_getElem? (i := 844) (by decide +kernel))
theorem lX5_303 : zLk RX5 303 yX5_isHive := .inl kX5_303
theorem kX5_104 : Cond.methodLink RX5 104 yX3_membersOf ∈ lw_tbl := (List.mem_of_getElem? (i := 846) (by decide +kernel))
theorem lX5_104 : zLk RX5 104 yX3_membersOf := .inl kX5_104
theorem kX5_117 : Cond.methodLink RX5 117 yX5_needRumour ∈ lw_tbl := (List.mem_of_getElem? (i := 854) (by decide +kernel))
theorem lX5_117 : zLk RX5 117 yX5_needRumour := .inl kX5_117
theorem kX5_298 : Cond.methodLink RX5 298 yX3_hasRumour ∈ lw_tbl := (List.mem_of_getElem? (i := 858) (by decide +kernel))
theorem lX5_298 : zLk RX5 298 yX3_hasRumour := .inl kX5_298
theorem kX5_136 : Cond.methodLink RX5 136 yX5_contains ∈ lw_tbl := (List.mem_of_getElem? (i := 881) (by decide +kernel))
theorem lX5_136 : zLk RX5 136 yX5_contains := .inl kX5_136
theorem kX5_142 : Cond.methodLink RX5 142 yX2_aware ∈ lw_tbl := (List.mem_of_getElem? (i := 896) (by decide +kernel))
theorem lX5_142 : zLk RX5 142 yX2_aware := .inl kX5_142
theorem kX5_157 : Cond.methodLink RX5 157 yX3_hiveWithMost ∈ lw_tbl := (List.mem_of_getElem? (i := 920) (by decide +kernel))
theorem lX5_157 : zLk RX5 157 yX3_hiveWithMost := .inl kX5_157
theorem kX5_160 : Cond.methodLink RX5 160 yX1_stepsBySearch ∈ lw_tbl := (List.mem_of_getElem? (i := 938) (by decide +kernel))
theorem lX5_160 : zLk RX5 160 yX1_stepsBySearch := .inl kX5_160
theorem kX5_164 : Cond.methodLink RX5 164 yX5_found ∈ lw_tbl := (List.mem_of_getElem? (i := 939) (by decide +kernel))
theorem lX5_164 : zLk RX5 164 yX5_found := .inl kX5_164
theorem kX5_167 : Cond.methodLink RX5 167 yX1_stepsByRelaxing ∈ lw_tbl := (List.mem_of_getElem? (i := 949) (by decide +kernel))
theorem lX5_167 : zLk RX5 167 yX1_stepsByRelaxing := .inl kX5_167
theorem kX5_170 : Cond.methodLink RX5 170 yX3_believersToCome ∈ lw_tbl := (List.mem_of_getElem? (i := 957) (by decide +kernel))
theorem lX5_170 : zLk RX5 170 yX3_believersToCome := .inl kX5_170
theorem kX5_179 : Cond.methodLink RX5 179 yX5_foreseenHearing ∈ lw_tbl := (List.mem_of_getElem? (i := 969) (by decide +kernel))
theorem lX5_179 : zLk RX5 179 yX5_foreseenHearing := .inl kX5_179
theorem kX5_188 : Cond.methodLink RX5 188 yX2_copyFrom ∈ lw_tbl := (List.mem_of_getElem? (i := 973) (by decide +kernel))
theorem lX5_188 : zLk RX5 188 yX2_copyFrom := .inl kX5_188
theorem kX5_192 : Cond.methodLink RX5 192 yX3_spreadOnce ∈ lw_tbl := (List.mem_of_getElem? (i := 974) (by decide +kernel))
theorem lX5_192 : zLk RX5 192 yX3_spreadOnce := .inl kX5_192
theorem kX5_195 : Cond.methodLink RX5 195 yX3_rumourAtRank ∈ lw_tbl := (List.mem_of_getElem? (i := 990) (by decide +kernel))
theorem lX5_195 : zLk RX5 195 yX3_rumourAtRank := .inl kX5_195
theorem kX3_131 : Cond.methodLink RX3 131 yX3_spreadsAhead ∈ lw_tbl := (List.mem_of_getElem? (i := 994) (by decide +kernel))
theorem lX3_131 : zLk RX3 131 yX3_spreadsAhead := .inl kX3_131
theorem kX5_198 : Cond.methodLink RX5 198 yX3_listenerAtRank ∈ lw_tbl := (List.mem_of_getElem? (i := 1005) (by decide +kernel))
theorem lX5_198 : zLk RX5 198 yX3_listenerAtRank := .inl kX5_198
theorem kX3_134 : Cond.methodLink RX3 134 yX3_gossipsAhead ∈ lw_tbl := (List.mem_of_getElem? (i := 1009) (by decide +kernel))
theorem lX3_134 : zLk RX3 134 yX3_gossipsAhead := .inl kX3_134
theorem kX3_137 : Cond.methodLink RX3 137 yX3_spreadBy ∈ lw_tbl := (List.mem_of_getElem? (i := 1013) (by decide +kernel))
theorem lX3_137 : zLk RX3 137 yX3_spreadBy := .inl kX3_137
theorem kX5_215 : Cond.methodLink RX5 215 yX3_sumOfDoubts ∈ lw_tbl := (List.mem_of_getElem? (i := 1041) (by decide +kernel))
theorem lX5_215 : zLk RX5 215 yX3_sumOfDoubts := .inl kX5_215
theorem kX5_218 : Cond.methodLink RX5 218 yX3_gossips ∈ lw_tbl := (List.mem_of_getElem? (i := 1052) (by decide +kernel))
theorem lX5_218 : zLk RX5 218 yX3_gossips := .inl kX5_218
theorem kX5_231 : Cond.methodLink RX5 231 yJ4_setLength_d00df ∈ lw_tbl := (List.mem_of_getElem? (i := 1063) (by decide +kernel))
theorem lX5_231 : zLk RX5 231 yJ4_setLength_d00df := .inl kX5_231
theorem kX5_234 : Cond.methodLink RX5 234 yJ4_append_cf468 ∈ lw_tbl := (List.mem_of_getElem? (i := 1314) (by decide +kernel))
theorem lX5_234 : zLk RX5 234 yJ4_append_cf468 := .inl kX5_234
theorem kX5_238 : Cond.methodLink RX5 238 yJ4_append_bf812 ∈ lw_tbl := (List.mem_of_getElem? (i := 1336) (by decide +kernel))
theorem lX5_238 : zLk RX5 238 yJ4_append_bf812 := .inl kX5_238
theorem kX5_241 : Cond.methodLink RX5 241 yX2_signOf ∈ lw_tbl := (List.mem_of_getElem? (i := 1337) (by decide +kernel))
theorem lX5_241 : zLk RX5 241 yX2_signOf := .inl kX5_241
theorem lX2_50 : zLk RX2 50 yX5_contains := .inr ⟨"RumourHives", (List.mem_of_getElem? (i := 1341) (by decide +kernel))⟩
theorem kX5_245 : Cond.methodLink RX5 245 yJ4_length_8abf5 ∈ lw_tbl := (List.mem_of_getElem? (i := 1342) (by decide +kernel))
theorem lX5_245 : zLk RX5 245 yJ4_length_8abf5 := .inl kX5_245
theorem kX5_253 : Cond.methodLink RX5 253 yJ4_charAt_5068e ∈ lw_tbl := (List.mem_of_getElem? (i := 1358) (by decide +kernel))
theorem lX5_253 : zLk RX5 253 yJ4_charAt_5068e := .inl kX5_253
theorem kX5_262 : Cond.methodLink RX5 262 yX4_put ∈ lw_tbl := (List.mem_of_getElem? (i := 1377) (by decide +kernel))
theorem lX5_262 : zLk RX5 262 yX4_put := .inl kX5_262
theorem kX5_266 : Cond.methodLink RX5 266 yX4_readAll ∈ lw_tbl := (List.mem_of_getElem? (i := 1388) (by decide +kernel))
theorem lX5_266 : zLk RX5 266 yX4_readAll := .inl kX5_266
theorem kX4_48 : Cond.methodLink RX4 48 yX4_furthestKind ∈ lw_tbl := (List.mem_of_getElem? (i := 1392) (by decide +kernel))
theorem lX4_48 : zLk RX4 48 yX4_furthestKind := .inl kX4_48
theorem kX4_52 : Cond.methodLink RX4 52 yX4_match ∈ lw_tbl := (List.mem_of_getElem? (i := 1396) (by decide +kernel))
theorem lX4_52 : zLk RX4 52 yX4_match := .inl kX4_52
theorem kX4_80 : Cond.methodLink RX4 80 yX4_formOf ∈ lw_tbl := (List.mem_of_getElem? (i := 1400) (by decide +kernel))
theorem lX4_80 : zLk RX4 80 yX4_formOf := .inl kX4_80
theorem kX4_84 : Cond.methodLink RX4 84 yJ0_length_8abf5 ∈ lw_tbl := (List.mem_of_getElem? (i := 1413) (by decide +kernel))
theorem lX4_84 : zLk RX4 84 yJ0_length_8abf5 := .inl kX4_84
theorem kX4_89 : Cond.methodLink RX4 89 yJ0_charAt_5068e ∈ lw_tbl := (List.mem_of_getElem? (i := 1414) (by decide +kernel))
theorem lX4_89 : zLk RX4 89 yJ0_charAt_5068e := .inl kX4_89
theorem kX4_93 : Cond.methodLink RX4 93 yX4_takes ∈ lw_tbl := (List.mem_of_getElem? (i := 1429) (by decide +kernel))
theorem lX4_93 : zLk RX4 93 yX4_takes := .inl kX4_93
theorem kX4_97 : Cond.methodLink RX4 97 yX4_takesNumber ∈ lw_tbl := (List.mem_of_getElem? (i := 1433) (by decide +kernel))
theorem lX4_97 : zLk RX4 97 yX4_takesNumber := .inl kX4_97
theorem kX4_101 : Cond.methodLink RX4 101 yX4_digitFollows ∈ lw_tbl := (List.mem_of_getElem? (i := 1437) (by decide +kernel))
theorem lX4_101 : zLk RX4 101 yX4_digitFollows := .inl kX4_101
theorem kX4_56 : Cond.methodLink RX4 56 yX4_keepCommand ∈ lw_tbl := (List.mem_of_getElem? (i := 1441) (by decide +kernel))
theorem lX4_56 : zLk RX4 56 yX4_keepCommand := .inl kX4_56
theorem kX5_271 : Cond.methodLink RX5 271 yX5_runCommands ∈ lw_tbl := (List.mem_of_getElem? (i := 1446) (by decide +kernel))
theorem lX5_271 : zLk RX5 271 yX5_runCommands := .inl kX5_271
theorem kX5_284 : Cond.methodLink RX5 284 yX0_takeBack ∈ lw_tbl := (List.mem_of_getElem? (i := 1473) (by decide +kernel))
theorem lX5_284 : zLk RX5 284 yX0_takeBack := .inl kX5_284
theorem fX1_9 : zFld RX1 9 5 0 := ⟨zck5, by decide, .inl (List.mem_of_getElem? (i := 110) (by decide +kernel))⟩
theorem fX3_58 : zFld RX3 58 5 0 := ⟨zck5, by decide, .inr ⟨"RumourHives", (List.mem_of_getElem? (i := 111) (by decide +kernel))⟩⟩
theorem fX5_69 : zFld RX5 69 5 0 := ⟨zck5, by decide, .inr ⟨"RumourHives", (List.mem_of_getElem? (i := 112) (by decide +kernel))⟩⟩
theorem fX1_15 : zFld RX1 15 5 1 := ⟨zck5, by decide, .inl (List.mem_of_getElem? (i := 113) (by decide +kernel))⟩
theorem fX5_98 : zFld RX5 98 5 1 := ⟨zck5, by decide, .inr ⟨"RumourHives", (List.mem_of_getElem? (i := 114) (by decide +kernel))⟩⟩
theorem fX1_18 : zFld RX1 18 5 2 := ⟨zck5, by decide, .inl (List.mem_of_getElem? (i := 115) (by decide +kernel))⟩
theorem fX5_89 : zFld RX5 89 5 2 := ⟨zck5, by decide, .inr ⟨"RumourHives", (List.mem_of_getElem? (i := 116) (by decide +kernel))⟩⟩
theorem fX3_125 : zFld RX3 125 5 2 := ⟨zck5, by decide, .inr ⟨"RumourHives", (List.mem_of_getElem? (i := 117) (by decide +kernel))⟩⟩
theorem fX1_22 : zFld RX1 22 5 3 := ⟨zck5, by decide, .inl (List.mem_of_getElem? (i := 118) (by decide +kernel))⟩
theorem fX1_25 : zFld RX1 25 5 4 := ⟨zck5, by decide, .inl (List.mem_of_getElem? (i := 119) (by decide +kernel))⟩
theorem fX2_9 : zFld RX2 9 6 0 := ⟨zck6, by decide, .inl (List.mem_of_getElem? (i := 139) (by decide +kernel))⟩
theorem fX5_130 : zFld RX5 130 6 0 := ⟨zck6, by decide, .inr ⟨"RumourHives", (List.mem_of_getElem? (i := 140) (by decide +kernel))⟩⟩
theorem fX2_15 : zFld RX2 15 6 1 := ⟨zck6, by decide, .inl (List.mem_of_getElem? (i := 141) (by decide +kernel))⟩
theorem fX3_88 : zFld RX3 88 6 1 := ⟨zck6, by decide, .inr ⟨"RumourHives", (List.mem_of_getElem? (i := 142) (by decide +kernel))⟩⟩
theorem fX5_124 : zFld RX5 124 6 1 := ⟨zck6, by decide, .inr ⟨"RumourHives", (List.mem_of_getElem? (i := 143) (by decide +kernel))⟩⟩
theorem fX2_18 : zFld RX2 18 6 2 := ⟨zck6, by decide, .inl (List.mem_of_getElem? (i := 144) (by decide +kernel))⟩
theorem fX3_94 : zFld RX3 94 6 2 := ⟨zck6, by decide, .inr ⟨"RumourHives", (List.mem_of_getElem? (i := 145) (by decide +kernel))⟩⟩
theorem fX5_127 : zFld RX5 127 6 2 := ⟨zck6, by decide, .inr ⟨"RumourHives", (List.mem_of_getElem? (i := 146) (by decide +kernel))⟩⟩
theorem fX2_22 : zFld RX2 22 6 3 := ⟨zck6, by decide, .inl (List.mem_of_getElem? (i := 147) (by decide +kernel))⟩
theorem fX3_82 : zFld RX3 82 6 3 := ⟨zck6, by decide, .inr ⟨"RumourHives", (List.mem_of_getElem? (i := 148) (by decide +kernel))⟩⟩
theorem fX5_133 : zFld RX5 133 6 3 := ⟨zck6, by decide, .inr ⟨"RumourHives", (List.mem_of_getElem? (i := 149) (by decide +kernel))⟩⟩
theorem fX2_25 : zFld RX2 25 6 4 := ⟨zck6, by decide, .inl (List.mem_of_getElem? (i := 150) (by decide +kernel))⟩
theorem fX3_91 : zFld RX3 91 6 4 := ⟨zck6, by decide, .inr ⟨"RumourHives", (List.mem_of_getElem? (i := 151) (by decide +kernel))⟩⟩
theorem fX5_139 : zFld RX5 139 6 4 := ⟨zck6, by decide, .inr ⟨"RumourHives", (List.mem_of_getElem? (i := 152) (by decide +kernel))⟩⟩
theorem fX2_28 : zFld RX2 28 6 5 := ⟨zck6, by decide, .inl (List.mem_of_getElem? (i := 153) (by decide +kernel))⟩
theorem fX3_116 : zFld RX3 116 6 5 := ⟨zck6, by decide, .inr ⟨"RumourHives", (List.mem_of_getElem? (i := 154) (by decide +kernel))⟩⟩
theorem fX5_152 : zFld RX5 152 6 5 := ⟨zck6, by decide, .inr ⟨"RumourHives", (List.mem_of_getElem? (i := 155) (by decide +kernel))⟩⟩
theorem fX3_12 : zFld RX3 12 7 0 := ⟨zck7, by decide, .inl (List.mem_of_getElem? (i := 169) (by decide +kernel))⟩
theorem fX5_65 : zFld RX5 65 7 0 := ⟨zck7, by decide, .inr ⟨"RumourHives", (List.mem_of_getElem? (i := 170) (by decide +kernel))⟩⟩
theorem fX3_18 : zFld RX3 18 7 1 := ⟨zck7, by decide, .inl (List.mem_of_getElem? (i := 171) (by decide +kernel))⟩
theorem fX5_78 : zFld RX5 78 7 1 := ⟨zck7, by decide, .inr ⟨"RumourHives", (List.mem_of_getElem? (i := 172) (by decide +kernel))⟩⟩
theorem fX3_22 : zFld RX3 22 7 2 := ⟨zck7, by decide, .inl (List.mem_of_getElem? (i := 173) (by decide +kernel))⟩
theorem fX5_82 : zFld RX5 82 7 2 := ⟨zck7, by decide, .inr ⟨"RumourHives", (List.mem_of_getElem? (i := 174) (by decide +kernel))⟩⟩
theorem fX3_27 : zFld RX3 27 7 3 := ⟨zck7, by decide, .inl (List.mem_of_getElem? (i := 175) (by decide +kernel))⟩
theorem fX5_120 : zFld RX5 120 7 3 := ⟨zck7, by decide, .inr ⟨"RumourHives", (List.mem_of_getElem? (i := 176) (by decide +kernel))⟩⟩
theorem fX3_31 : zFld RX3 31 7 4 := ⟨zck7, by decide, .inl (List.mem_of_getElem? (i := 177) (by decide +kernel))⟩
theorem fX5_114 : zFld RX5 114 7 4 := ⟨zck7, by decide, .inr ⟨"RumourHives", (List.mem_of_getElem? (i := 178) (by decide +kernel))⟩⟩
theorem fX3_35 : zFld RX3 35 7 5 := ⟨zck7, by decide, .inl (List.mem_of_getElem? (i := 179) (by decide +kernel))⟩
theorem fX5_201 : zFld RX5 201 7 5 := ⟨zck7, by decide, .inr ⟨"RumourHives", (List.mem_of_getElem? (i := 180) (by decide +kernel))⟩⟩
theorem fX3_38 : zFld RX3 38 7 6 := ⟨zck7, by decide, .inl (List.mem_of_getElem? (i := 181) (by decide +kernel))⟩
theorem fX5_204 : zFld RX5 204 7 6 := ⟨zck7, by decide, .inr ⟨"RumourHives", (List.mem_of_getElem? (i := 182) (by decide +kernel))⟩⟩
theorem fX3_41 : zFld RX3 41 7 7 := ⟨zck7, by decide, .inl (List.mem_of_getElem? (i := 183) (by decide +kernel))⟩
theorem fX5_207 : zFld RX5 207 7 7 := ⟨zck7, by decide, .inr ⟨"RumourHives", (List.mem_of_getElem? (i := 184) (by decide +kernel))⟩⟩
theorem fX0_11 : zFld RX0 11 4 0 := ⟨zck4, by decide, .inl (List.mem_of_getElem? (i := 211) (by decide +kernel))⟩
theorem fX0_17 : zFld RX0 17 4 1 := ⟨zck4, by decide, .inl (List.mem_of_getElem? (i := 212) (by decide +kernel))⟩
theorem fX5_279 : zFld RX5 279 4 1 := ⟨zck4, by decide, .inr ⟨"RumourHives", (List.mem_of_getElem? (i := 213) (by decide +kernel))⟩⟩
theorem fX0_21 : zFld RX0 21 4 2 := ⟨zck4, by decide, .inl (List.mem_of_getElem? (i := 214) (by decide +kernel))⟩
theorem fX4_9 : zFld RX4 9 8 0 := ⟨zck8, by decide, .inl (List.mem_of_getElem? (i := 230) (by decide +kernel))⟩
theorem fX4_15 : zFld RX4 15 8 1 := ⟨zck8, by decide, .inl (List.mem_of_getElem? (i := 231) (by decide +kernel))⟩
theorem fX5_258 : zFld RX5 258 8 1 := ⟨zck8, by decide, .inr ⟨"RumourHives", (List.mem_of_getElem? (i := 232) (by decide +kernel))⟩⟩
theorem fX4_19 : zFld RX4 19 8 2 := ⟨zck8, by decide, .inl (List.mem_of_getElem? (i := 233) (by decide +kernel))⟩
theorem fX5_379 : zFld RX5 379 8 2 := ⟨zck8, by decide, .inr ⟨"RumourHives", (List.mem_of_getElem? (i := 234) (by decide +kernel))⟩⟩
theorem fX4_23 : zFld RX4 23 8 3 := ⟨zck8, by decide, .inl (List.mem_of_getElem? (i := 235) (by decide +kernel))⟩
theorem fX5_382 : zFld RX5 382 8 3 := ⟨zck8, by decide, .inr ⟨"RumourHives", (List.mem_of_getElem? (i := 236) (by decide +kernel))⟩⟩
theorem fX4_26 : zFld RX4 26 8 4 := ⟨zck8, by decide, .inl (List.mem_of_getElem? (i := 237) (by decide +kernel))⟩
theorem fX5_385 : zFld RX5 385 8 4 := ⟨zck8, by decide, .inr ⟨"RumourHives", (List.mem_of_getElem? (i := 238) (by decide +kernel))⟩⟩
theorem fX4_29 : zFld RX4 29 8 5 := ⟨zck8, by decide, .inl (List.mem_of_getElem? (i := 239) (by decide +kernel))⟩
theorem fX5_276 : zFld RX5 276 8 5 := ⟨zck8, by decide, .inr ⟨"RumourHives", (List.mem_of_getElem? (i := 240) (by decide +kernel))⟩⟩
theorem fX4_32 : zFld RX4 32 8 6 := ⟨zck8, by decide, .inl (List.mem_of_getElem? (i := 241) (by decide +kernel))⟩
theorem fX4_35 : zFld RX4 35 8 7 := ⟨zck8, by decide, .inl (List.mem_of_getElem? (i := 242) (by decide +kernel))⟩
theorem fX4_39 : zFld RX4 39 8 8 := ⟨zck8, by decide, .inl (List.mem_of_getElem? (i := 243) (by decide +kernel))⟩
theorem fX4_42 : zFld RX4 42 8 9 := ⟨zck8, by decide, .inl (List.mem_of_getElem? (i := 244) (by decide +kernel))⟩
theorem fX4_45 : zFld RX4 45 8 10 := ⟨zck8, by decide, .inl (List.mem_of_getElem? (i := 245) (by decide +kernel))⟩
theorem fX5_10 : zFld RX5 10 9 0 := ⟨zck9, by decide, .inl (List.mem_of_getElem? (i := 303) (by decide +kernel))⟩
theorem fX5_16 : zFld RX5 16 9 1 := ⟨zck9, by decide, .inl (List.mem_of_getElem? (i := 304) (by decide +kernel))⟩
theorem fX5_19 : zFld RX5 19 9 2 := ⟨zck9, by decide, .inl (List.mem_of_getElem? (i := 305) (by decide +kernel))⟩
theorem fX5_25 : zFld RX5 25 9 3 := ⟨zck9, by decide, .inl (List.mem_of_getElem? (i := 306) (by decide +kernel))⟩
theorem fX5_32 : zFld RX5 32 9 4 := ⟨zck9, by decide, .inl (List.mem_of_getElem? (i := 307) (by decide +kernel))⟩
theorem fX5_39 : zFld RX5 39 9 5 := ⟨zck9, by decide, .inl (List.mem_of_getElem? (i := 308) (by decide +kernel))⟩
theorem fX5_46 : zFld RX5 46 9 6 := ⟨zck9, by decide, .inl (List.mem_of_getElem? (i := 309) (by decide +kernel))⟩
theorem fX5_50 : zFld RX5 50 9 7 := ⟨zck9, by decide, .inl (List.mem_of_getElem? (i := 310) (by decide +kernel))⟩
theorem fX5_54 : zFld RX5 54 9 8 := ⟨zck9, by decide, .inl (List.mem_of_getElem? (i := 311) (by decide +kernel))⟩
theorem fX5_58 : zFld RX5 58 9 9 := ⟨zck9, by decide, .inl (List.mem_of_getElem? (i := 312) (by decide +kernel))⟩
end
section
/-! the same rows, over natural numbers: every int is 'nI n' -/
abbrev zS : Type := Nat → Nat → Nat
abbrev zi (n : Nat) : Value := .int (nI n)
def zIn (S : zS) : zI := fun o k => nI (S o k)
abbrev SN (G : zG) (X : zX) (a b pc : Nat) (ls : List (Option Value)) (st : List Value) (S : zS) (J : Int64) (E : UInt64) : Prop := SW G X a b pc ls st (zIn S) J E
def zU (S : zS) (o j x : Nat) : zS := fun a b => if a = o ∧ b = j then x else S a b
theorem zIn_up {S : zS} {o j x : Nat} : zUp (zIn S) o j (nI x) = zIn (zU S o j x) := by
  funext a b
  by_cases h : a = o ∧ b = j <;> simp [zUp, zIn, zU, h]
theorem zU_s {S : zS} {o j x : Nat} : zU S o j x o j = x := by simp [zU]
theorem zU_o {S : zS} {o j x a b : Nat} (h : a ≠ o) : zU S o j x a b = S a b := by simp [zU, h]
theorem zU_j {S : zS} {o j x a b : Nat} (h : b ≠ j) : zU S o j x a b = S a b := by simp [zU, h]
abbrev nCR (l : Launch) (G : zG) (M : zM) (d mc ms : Nat) (as : List Value) (S : zS) (J : Int64) (E : UInt64) (r : Option Value) (S' : zS) (J' : Int64) (E' : UInt64) : Prop := zCR l G M d mc ms as (zIn S) J E r (zIn S') J' E'
abbrev nCT (l : Launch) (G : zG) (M : zM) (d mc ms : Nat) (as : List Value) (S : zS) (J : Int64) (E : UInt64) (r : String) (S' : zS) (J' : Int64) (E' : UInt64) : Prop := zCT l G M d mc ms as (zIn S) J E r (zIn S') J' E'
theorem nCR.of {l : Launch} {G : zG} {M : zM} {d mc ms : Nat} {as : List Value} {S S' : zS} {J J' : Int64} {E E' : UInt64} {r : Option Value} (hl : l.stackTraces = false) (hy : plainName M.1.cls = true) (h1 : as.all (fun v => v.category == 1) = true) (hn : as.length ≤ M.2.2.1) {ls : List (Option Value)} (hls : as.map some ++ List.replicate (M.2.2.1 - as.length) none = ls)
    (body : ∀ X, zOK G X M d mc ms → zFin G X mc ms r (zIn S') J' E' → X.2.1 = l → SN G X 0 0 0 ls [] S J E) : nCR l G M d mc ms as S J E r S' J' E' := by
  have h1' : ∀ v ∈ as, v.category = 1 := fun v hv => by simpa using List.all_eq_true.mp h1 v hv
  refine Met.ofW (cc := M.2.1) (maxL := M.2.2.1) (ret := M.2.2.2) hy rfl ?_
  intro p e s m args below meth c s₁ B hml hv
  obtain ⟨rfl, hR, hF⟩ := hv
  obtain ⟨arr, he, hh⟩ := zEntry (φ := G.2.2.1) (m := m) h1' hn
  rw [he]
  rw [hls] at hh
  refine body (p, l, e, _, s, m, _, below, meth, c, _) ⟨B.exec, B.bytes, hml, findClass_of_methodNamed B.named, B.notSynchronized, B.returns, hF, rfl, hl⟩ rfl rfl s.heap [] arr hh ?_ hR va_S.rf
  rw [hml, ← hls]; simp; omega
theorem nCT.of {l : Launch} {G : zG} {M : zM} {d mc ms : Nat} {as : List Value} {S S' : zS} {J J' : Int64} {E E' : UInt64} {r : String} (hl : l.stackTraces = false) (hy : plainName M.1.cls = true) (h1 : as.all (fun v => v.category == 1) = true) (hn : as.length ≤ M.2.2.1) {ls : List (Option Value)} (hls : as.map some ++ List.replicate (M.2.2.1 - as.length) none = ls)
    (body : ∀ X, zOK G X M d mc ms → zFinT G X mc ms r (zIn S') J' E' → X.2.1 = l → SN G X 0 0 0 ls [] S J E) : nCT l G M d mc ms as S J E r S' J' E' := by
  have h1' : ∀ v ∈ as, v.category = 1 := fun v hv => by simpa using List.all_eq_true.mp h1 v hv
  refine vx_ofW (cc := M.2.1) (maxL := M.2.2.1) (ret := M.2.2.2) hy rfl ?_
  intro p e s m args below meth c s₁ B hml hex hv
  obtain ⟨rfl, hR, hF⟩ := hv
  obtain ⟨arr, he, hh⟩ := zEntry (φ := G.2.2.1) (m := m) h1' hn
  rw [he]
  rw [hls] at hh
  refine body (p, l, e, _, s, m, _, below, meth, c, _) ⟨B.exec, B.bytes, hml, findClass_of_methodNamed B.named, B.notSynchronized, B.returns, hF, rfl, hl⟩ ⟨rfl, hex⟩ rfl s.heap [] arr hh ?_ hR va_S.rf
  rw [hml, ← hls]; simp; omega
/-! numbers -/
theorem nI_bv (n : Nat) : (nI n).toBitVec = BitVec.ofNat 32 n := rfl
theorem nI_or (x y : Nat) : nI x ||| nI y = nI (x ||| y) := by
  apply Int32.toBitVec_inj.mp; simp only [Int32.toBitVec_or, nI_bv]; apply BitVec.eq_of_toNat_eq; simp [Nat.or_mod_two_pow]
theorem nI_and (x y : Nat) : nI x &&& nI y = nI (x &&& y) := by
  apply Int32.toBitVec_inj.mp; simp only [Int32.toBitVec_and, nI_bv]; apply BitVec.eq_of_toNat_eq; simp [Nat.and_mod_two_pow]
theorem nI_xor (x y : Nat) : nI x ^^^ nI y = nI (x ^^^ y) := by
  apply Int32.toBitVec_inj.mp; simp only [Int32.toBitVec_xor, nI_bv]; apply BitVec.eq_of_toNat_eq; simp [Nat.xor_mod_two_pow]
theorem nI_lt0 {n : Nat} (h : n < 2 ^ 32) : nI n < 0 ↔ 2 ^ 31 ≤ n := by
  rw [Int32.lt_iff_toInt_lt, ← Int32.toInt_toBitVec, nI_bv, BitVec.toInt_eq_toNat_cond, BitVec.toNat_ofNat, Nat.mod_eq_of_lt h]
  have e0 : (0 : Int32).toInt = 0 := rfl
  rw [e0]
  split <;> omega
theorem nI_eqU {x y : Nat} (hx : x < 2 ^ 32) (hy : y < 2 ^ 32) : nI x = nI y ↔ x = y := by
  refine ⟨fun h => ?_, fun h => by rw [h]⟩
  have h2 := congrArg (fun z : Int32 => z.toBitVec.toNat) h
  simp [nI_bv] at h2
  omega
theorem nI_all (x : Int32) : ∃ n : Nat, n < 2 ^ 32 ∧ x = nI n := by
  refine ⟨x.toBitVec.toNat, x.toBitVec.isLt, ?_⟩
  apply Int32.toBitVec_inj.mp
  simp [nI_bv]
theorem zGeF {x y : Int32} (h : y ≤ x) : ¬ x < y := Int32.not_lt.mpr h
theorem zLtT {x y : Int32} (h : ¬ y ≤ x) : x < y := Int32.not_le.mp h
theorem sn_iadd {G : zG} {X : zX} {M : zM} {d mc ms a b pc : Nat} {ls : List (Option Value)} {st : List Value} {S : zS} {J : Int64} {E : UInt64} (C : zOK G X M d mc ms) {x y : Nat} (hd : decode M.2.1 pc = .ok (.iadd, 1)) (k : SN G X a b (pc + 1) ls (zi (x + y) :: st) S J E) : SN G X a b pc ls (zi y :: zi x :: st) S J E := sw_iadd C hd (by rw [nI_add]; exact k)
theorem sn_imul {G : zG} {X : zX} {M : zM} {d mc ms a b pc : Nat} {ls : List (Option Value)} {st : List Value} {S : zS} {J : Int64} {E : UInt64} (C : zOK G X M d mc ms) {x y : Nat} (hd : decode M.2.1 pc = .ok (.imul, 1)) (k : SN G X a b (pc + 1) ls (zi (x * y) :: st) S J E) : SN G X a b pc ls (zi y :: zi x :: st) S J E := sw_imul C hd (by rw [pk_mul]; exact k)
theorem sn_isub {G : zG} {X : zX} {M : zM} {d mc ms a b pc : Nat} {ls : List (Option Value)} {st : List Value} {S : zS} {J : Int64} {E : UInt64} (C : zOK G X M d mc ms) {x y : Nat} (h : y ≤ x) (hd : decode M.2.1 pc = .ok (.isub, 1)) (k : SN G X a b (pc + 1) ls (zi (x - y) :: st) S J E) : SN G X a b pc ls (zi y :: zi x :: st) S J E := sw_isub C hd (by rw [pk_sub h]; exact k)
theorem sn_ior {G : zG} {X : zX} {M : zM} {d mc ms a b pc : Nat} {ls : List (Option Value)} {st : List Value} {S : zS} {J : Int64} {E : UInt64} (C : zOK G X M d mc ms) {x y : Nat} (hd : decode M.2.1 pc = .ok (.ior, 1)) (k : SN G X a b (pc + 1) ls (zi (x ||| y) :: st) S J E) : SN G X a b pc ls (zi y :: zi x :: st) S J E := sw_ior C hd (by rw [nI_or]; exact k)
theorem sn_iand {G : zG} {X : zX} {M : zM} {d mc ms a b pc : Nat} {ls : List (Option Value)} {st : List Value} {S : zS} {J : Int64} {E : UInt64} (C : zOK G X M d mc ms) {x y : Nat} (hd : decode M.2.1 pc = .ok (.iand, 1)) (k : SN G X a b (pc + 1) ls (zi (x &&& y) :: st) S J E) : SN G X a b pc ls (zi y :: zi x :: st) S J E := sw_iand C hd (by rw [nI_and]; exact k)
theorem sn_ixor {G : zG} {X : zX} {M : zM} {d mc ms a b pc : Nat} {ls : List (Option Value)} {st : List Value} {S : zS} {J : Int64} {E : UInt64} (C : zOK G X M d mc ms) {x y : Nat} (hd : decode M.2.1 pc = .ok (.ixor, 1)) (k : SN G X a b (pc + 1) ls (zi (x ^^^ y) :: st) S J E) : SN G X a b pc ls (zi y :: zi x :: st) S J E := sw_ixor C hd (by rw [nI_xor]; exact k)
theorem sn_idiv {G : zG} {X : zX} {M : zM} {d mc ms a b pc : Nat} {ls : List (Option Value)} {st : List Value} {S : zS} {J : Int64} {E : UInt64} (C : zOK G X M d mc ms) {x y : Nat} (hx : x < 2 ^ 31) (h0 : 0 < y) (hy : y < 2 ^ 31) (hd : decode M.2.1 pc = .ok (.idiv, 1)) (k : SN G X a b (pc + 1) ls (zi (x / y) :: st) S J E) : SN G X a b pc ls (zi y :: zi x :: st) S J E := sw_idiv C (nI_ne0 h0 hy) hd (by rw [pk_div hx h0 hy]; exact k)
theorem sn_irem {G : zG} {X : zX} {M : zM} {d mc ms a b pc : Nat} {ls : List (Option Value)} {st : List Value} {S : zS} {J : Int64} {E : UInt64} (C : zOK G X M d mc ms) {x y : Nat} (hx : x < 2 ^ 31) (h0 : 0 < y) (hy : y < 2 ^ 31) (hd : decode M.2.1 pc = .ok (.irem, 1)) (k : SN G X a b (pc + 1) ls (zi (x % y) :: st) S J E) : SN G X a b pc ls (zi y :: zi x :: st) S J E := sw_irem C (nI_ne0 h0 hy) hd (by rw [pk_rem hx h0 hy]; exact k)
theorem nI_shc {y : Nat} (h : y < 32) : ((nI y &&& 31).toBitVec.smod 32).toNat = y := by
  have e : ∀ y : Fin 32, ((nI y.val &&& 31).toBitVec.smod 32).toNat = y.val := by decide +kernel
  exact e ⟨y, h⟩
theorem nI_shl {x y : Nat} (h : y < 32) : nI x <<< (nI y &&& 31) = nI (x * 2 ^ y) := by
  apply Int32.toBitVec_inj.mp
  apply BitVec.eq_of_toNat_eq
  rw [pk_shl _ _ y (nI_shc h)]
  simp [nI_bv, Nat.mod_mul_mod]
theorem nI_shr {x y : Nat} (hx : x < 2 ^ 31) (h : y < 32) : nI x >>> (nI y &&& 31) = nI (x / 2 ^ y) := pk_shrN hx _ _ (nI_shc h)
theorem sn_ishl {G : zG} {X : zX} {M : zM} {d mc ms a b pc : Nat} {ls : List (Option Value)} {st : List Value} {S : zS} {J : Int64} {E : UInt64} (C : zOK G X M d mc ms) {x y : Nat} (h : y < 32) (hd : decode M.2.1 pc = .ok (.ishl, 1)) (k : SN G X a b (pc + 1) ls (zi (x * 2 ^ y) :: st) S J E) : SN G X a b pc ls (zi y :: zi x :: st) S J E := sw_ishl C hd (by rw [nI_shl h]; exact k)
theorem sn_ishr {G : zG} {X : zX} {M : zM} {d mc ms a b pc : Nat} {ls : List (Option Value)} {st : List Value} {S : zS} {J : Int64} {E : UInt64} (C : zOK G X M d mc ms) {x y : Nat} (hx : x < 2 ^ 31) (h : y < 32) (hd : decode M.2.1 pc = .ok (.ishr, 1)) (k : SN G X a b (pc + 1) ls (zi (x / 2 ^ y) :: st) S J E) : SN G X a b pc ls (zi y :: zi x :: st) S J E := sw_ishr C hd (by rw [nI_shr hx h]; exact k)
theorem sn_iconst {G : zG} {X : zX} {M : zM} {d mc ms a b pc : Nat} {ls : List (Option Value)} {st : List Value} {S : zS} {J : Int64} {E : UInt64} (C : zOK G X M d mc ms) {n : Int} (x : Nat) (hv : Int32.ofInt n = nI x) (hd : decode M.2.1 pc = .ok (.iconst n, 1)) (k : SN G X a b (pc + 1) ls (zi x :: st) S J E) : SN G X a b pc ls (st) S J E := sw_iconst C hv hd k
theorem sn_bipush {G : zG} {X : zX} {M : zM} {d mc ms a b pc : Nat} {ls : List (Option Value)} {st : List Value} {S : zS} {J : Int64} {E : UInt64} (C : zOK G X M d mc ms) {n : Int} (x : Nat) (hv : (Int8.ofInt n).toInt32 = nI x) (hd : decode M.2.1 pc = .ok (.bipush n, 2)) (k : SN G X a b (pc + 2) ls (zi x :: st) S J E) : SN G X a b pc ls (st) S J E := sw_bipush C hv hd k
theorem sn_sipush {G : zG} {X : zX} {M : zM} {d mc ms a b pc : Nat} {ls : List (Option Value)} {st : List Value} {S : zS} {J : Int64} {E : UInt64} (C : zOK G X M d mc ms) {n : Int} (x : Nat) (hv : (Int16.ofInt n).toInt32 = nI x) (hd : decode M.2.1 pc = .ok (.sipush n, 3)) (k : SN G X a b (pc + 3) ls (zi x :: st) S J E) : SN G X a b pc ls (st) S J E := sw_sipush C hv hd k
theorem sn_if_eq {G : zG} {X : zX} {M : zM} {d mc ms a b pc : Nat} {ls : List (Option Value)} {st : List Value} {S : zS} {J : Int64} {E : UInt64} (C : zOK G X M d mc ms) {x : Nat} {off : Int} (tgt : Nat) (hx : x < 2 ^ 32) (hd : decode M.2.1 pc = .ok (.ifCond .eq off, 3)) (ht : (pc : Int) + off = (tgt : Int)) (kt : x = 0 → SN G X a b tgt ls (st) S J E) (kf : ¬ x = 0 → SN G X a b (pc + 3) ls (st) S J E) : SN G X a b pc ls (zi x :: st) S J E :=
  sw_if_eq C tgt hd ht (fun h => kt ((nI_eqU hx (by decide)).mp h)) (fun h => kf (fun e => h (by rw [e]; rfl)))
theorem sn_if_ne {G : zG} {X : zX} {M : zM} {d mc ms a b pc : Nat} {ls : List (Option Value)} {st : List Value} {S : zS} {J : Int64} {E : UInt64} (C : zOK G X M d mc ms) {x : Nat} {off : Int} (tgt : Nat) (hx : x < 2 ^ 32) (hd : decode M.2.1 pc = .ok (.ifCond .ne off, 3)) (ht : (pc : Int) + off = (tgt : Int)) (kt : ¬ x = 0 → SN G X a b tgt ls (st) S J E) (kf : x = 0 → SN G X a b (pc + 3) ls (st) S J E) : SN G X a b pc ls (zi x :: st) S J E :=
  sw_if_ne C tgt hd ht (fun h => kt (fun e => h (by rw [e]; rfl))) (fun h => kf ((nI_eqU hx (by decide)).mp h))
theorem sn_if_eqB {G : zG} {X : zX} {M : zM} {d mc ms a b pc : Nat} {ls : List (Option Value)} {st : List Value} {S : zS} {J : Int64} {E : UInt64} (C : zOK G X M d mc ms) {x : Bool} {off : Int} (tgt : Nat) (hd : decode M.2.1 pc = .ok (.ifCond .eq off, 3)) (ht : (pc : Int) + off = (tgt : Int)) (kt : x = false → SN G X a b tgt ls (st) S J E) (kf : x = true → SN G X a b (pc + 3) ls (st) S J E) : SN G X a b pc ls (zi x.toNat :: st) S J E :=
  sn_if_eq C tgt (by cases x <;> decide) hd ht (fun h => kt (by cases x <;> simp_all)) (fun h => kf (by cases x <;> simp_all))
theorem sn_if_neB {G : zG} {X : zX} {M : zM} {d mc ms a b pc : Nat} {ls : List (Option Value)} {st : List Value} {S : zS} {J : Int64} {E : UInt64} (C : zOK G X M d mc ms) {x : Bool} {off : Int} (tgt : Nat) (hd : decode M.2.1 pc = .ok (.ifCond .ne off, 3)) (ht : (pc : Int) + off = (tgt : Int)) (kt : x = true → SN G X a b tgt ls (st) S J E) (kf : x = false → SN G X a b (pc + 3) ls (st) S J E) : SN G X a b pc ls (zi x.toNat :: st) S J E :=
  sn_if_ne C tgt (by cases x <;> decide) hd ht (fun h => kt (by cases x <;> simp_all)) (fun h => kf (by cases x <;> simp_all))
theorem sn_if_lt {G : zG} {X : zX} {M : zM} {d mc ms a b pc : Nat} {ls : List (Option Value)} {st : List Value} {S : zS} {J : Int64} {E : UInt64} (C : zOK G X M d mc ms) {x : Nat} {off : Int} (tgt : Nat) (hx : x < 2 ^ 32) (hd : decode M.2.1 pc = .ok (.ifCond .lt off, 3)) (ht : (pc : Int) + off = (tgt : Int)) (kt : 2 ^ 31 ≤ x → SN G X a b tgt ls (st) S J E) (kf : x < 2 ^ 31 → SN G X a b (pc + 3) ls (st) S J E) : SN G X a b pc ls (zi x :: st) S J E :=
  sw_if_lt C tgt hd ht (fun h => kt ((nI_lt0 hx).mp h)) (fun h => kf (Nat.lt_of_not_le (fun q => h ((nI_lt0 hx).mpr q))))
theorem sn_if_ge {G : zG} {X : zX} {M : zM} {d mc ms a b pc : Nat} {ls : List (Option Value)} {st : List Value} {S : zS} {J : Int64} {E : UInt64} (C : zOK G X M d mc ms) {x : Nat} {off : Int} (tgt : Nat) (hx : x < 2 ^ 32) (hd : decode M.2.1 pc = .ok (.ifCond .ge off, 3)) (ht : (pc : Int) + off = (tgt : Int)) (kt : x < 2 ^ 31 → SN G X a b tgt ls (st) S J E) (kf : 2 ^ 31 ≤ x → SN G X a b (pc + 3) ls (st) S J E) : SN G X a b pc ls (zi x :: st) S J E :=
  sw_if_ge C tgt hd ht (fun h => kt (Nat.lt_of_not_le (fun q => zGeF h ((nI_lt0 hx).mpr q)))) (fun h => kf ((nI_lt0 hx).mp (zLtT h)))
theorem sn_if_le {G : zG} {X : zX} {M : zM} {d mc ms a b pc : Nat} {ls : List (Option Value)} {st : List Value} {S : zS} {J : Int64} {E : UInt64} (C : zOK G X M d mc ms) {x : Nat} {off : Int} (tgt : Nat) (hx : x < 2 ^ 31) (hd : decode M.2.1 pc = .ok (.ifCond .le off, 3)) (ht : (pc : Int) + off = (tgt : Int)) (kt : x = 0 → SN G X a b tgt ls (st) S J E) (kf : 0 < x → SN G X a b (pc + 3) ls (st) S J E) : SN G X a b pc ls (zi x :: st) S J E :=
  sw_if_le C tgt hd ht (fun h => kt (by have h2 := (nI_leI hx (by decide)).mp (show nI x ≤ nI 0 from h); omega)) (fun h => kf (by have h2 : ¬ x ≤ 0 := fun q => h ((nI_leI hx (by decide)).mpr q); omega))
theorem sn_if_gt {G : zG} {X : zX} {M : zM} {d mc ms a b pc : Nat} {ls : List (Option Value)} {st : List Value} {S : zS} {J : Int64} {E : UInt64} (C : zOK G X M d mc ms) {x : Nat} {off : Int} (tgt : Nat) (hx : x < 2 ^ 31) (hd : decode M.2.1 pc = .ok (.ifCond .gt off, 3)) (ht : (pc : Int) + off = (tgt : Int)) (kt : 0 < x → SN G X a b tgt ls (st) S J E) (kf : x = 0 → SN G X a b (pc + 3) ls (st) S J E) : SN G X a b pc ls (zi x :: st) S J E :=
  sw_if_gt C tgt hd ht (fun h => kt ((nI_ltI (by decide) hx).mp (show nI 0 < nI x from h))) (fun h => kf (by have h2 : ¬ 0 < x := fun q => h ((nI_ltI (by decide) hx).mpr q); omega))
theorem sn_icmp_eq {G : zG} {X : zX} {M : zM} {d mc ms a b pc : Nat} {ls : List (Option Value)} {st : List Value} {S : zS} {J : Int64} {E : UInt64} (C : zOK G X M d mc ms) {x y : Nat} {off : Int} (tgt : Nat) (hx : x < 2 ^ 32) (hy : y < 2 ^ 32) (hd : decode M.2.1 pc = .ok (.if_icmp .eq off, 3)) (ht : (pc : Int) + off = (tgt : Int)) (kt : x = y → SN G X a b tgt ls (st) S J E) (kf : ¬ x = y → SN G X a b (pc + 3) ls (st) S J E) : SN G X a b pc ls (zi y :: zi x :: st) S J E :=
  sw_icmp_eq C tgt hd ht (fun h => kt ((nI_eqU hx hy).mp h)) (fun h => kf (fun e => h (by rw [e])))
theorem sn_icmp_ne {G : zG} {X : zX} {M : zM} {d mc ms a b pc : Nat} {ls : List (Option Value)} {st : List Value} {S : zS} {J : Int64} {E : UInt64} (C : zOK G X M d mc ms) {x y : Nat} {off : Int} (tgt : Nat) (hx : x < 2 ^ 32) (hy : y < 2 ^ 32) (hd : decode M.2.1 pc = .ok (.if_icmp .ne off, 3)) (ht : (pc : Int) + off = (tgt : Int)) (kt : ¬ x = y → SN G X a b tgt ls (st) S J E) (kf : x = y → SN G X a b (pc + 3) ls (st) S J E) : SN G X a b pc ls (zi y :: zi x :: st) S J E :=
  sw_icmp_ne C tgt hd ht (fun h => kt (fun e => h (by rw [e]))) (fun h => kf ((nI_eqU hx hy).mp h))
theorem sn_icmp_lt {G : zG} {X : zX} {M : zM} {d mc ms a b pc : Nat} {ls : List (Option Value)} {st : List Value} {S : zS} {J : Int64} {E : UInt64} (C : zOK G X M d mc ms) {x y : Nat} {off : Int} (tgt : Nat) (hx : x < 2 ^ 31) (hy : y < 2 ^ 31) (hd : decode M.2.1 pc = .ok (.if_icmp .lt off, 3)) (ht : (pc : Int) + off = (tgt : Int)) (kt : x < y → SN G X a b tgt ls (st) S J E) (kf : y ≤ x → SN G X a b (pc + 3) ls (st) S J E) : SN G X a b pc ls (zi y :: zi x :: st) S J E :=
  sw_icmp_lt C tgt hd ht (fun h => kt ((nI_ltI hx hy).mp h)) (fun h => kf (Nat.le_of_not_lt (fun q => h ((nI_ltI hx hy).mpr q))))
theorem sn_icmp_ge {G : zG} {X : zX} {M : zM} {d mc ms a b pc : Nat} {ls : List (Option Value)} {st : List Value} {S : zS} {J : Int64} {E : UInt64} (C : zOK G X M d mc ms) {x y : Nat} {off : Int} (tgt : Nat) (hx : x < 2 ^ 31) (hy : y < 2 ^ 31) (hd : decode M.2.1 pc = .ok (.if_icmp .ge off, 3)) (ht : (pc : Int) + off = (tgt : Int)) (kt : y ≤ x → SN G X a b tgt ls (st) S J E) (kf : x < y → SN G X a b (pc + 3) ls (st) S J E) : SN G X a b pc ls (zi y :: zi x :: st) S J E :=
  sw_icmp_ge C tgt hd ht (fun h => kt ((nI_leI hy hx).mp h)) (fun h => kf (Nat.lt_of_not_le (fun q => h ((nI_leI hy hx).mpr q))))
theorem sn_icmp_gt {G : zG} {X : zX} {M : zM} {d mc ms a b pc : Nat} {ls : List (Option Value)} {st : List Value} {S : zS} {J : Int64} {E : UInt64} (C : zOK G X M d mc ms) {x y : Nat} {off : Int} (tgt : Nat) (hx : x < 2 ^ 31) (hy : y < 2 ^ 31) (hd : decode M.2.1 pc = .ok (.if_icmp .gt off, 3)) (ht : (pc : Int) + off = (tgt : Int)) (kt : y < x → SN G X a b tgt ls (st) S J E) (kf : x ≤ y → SN G X a b (pc + 3) ls (st) S J E) : SN G X a b pc ls (zi y :: zi x :: st) S J E :=
  sw_icmp_gt C tgt hd ht (fun h => kt ((nI_ltI hy hx).mp h)) (fun h => kf (Nat.le_of_not_lt (fun q => h ((nI_ltI hy hx).mpr q))))
theorem sn_icmp_le {G : zG} {X : zX} {M : zM} {d mc ms a b pc : Nat} {ls : List (Option Value)} {st : List Value} {S : zS} {J : Int64} {E : UInt64} (C : zOK G X M d mc ms) {x y : Nat} {off : Int} (tgt : Nat) (hx : x < 2 ^ 31) (hy : y < 2 ^ 31) (hd : decode M.2.1 pc = .ok (.if_icmp .le off, 3)) (ht : (pc : Int) + off = (tgt : Int)) (kt : x ≤ y → SN G X a b tgt ls (st) S J E) (kf : y < x → SN G X a b (pc + 3) ls (st) S J E) : SN G X a b pc ls (zi y :: zi x :: st) S J E :=
  sw_icmp_le C tgt hd ht (fun h => kt ((nI_leI hx hy).mp h)) (fun h => kf (Nat.lt_of_not_le (fun q => h ((nI_leI hx hy).mpr q))))
theorem sn_iinc_0 {G : zG} {X : zX} {M : zM} {d mc ms a b pc : Nat} {lt : List (Option Value)} {st : List Value} {S : zS} {J : Int64} {E : UInt64} (C : zOK G X M d mc ms) {x n : Nat} (hd : decode M.2.1 pc = .ok (.iinc 0 (n : Int), 3)) (k : SN G X a b (pc + 3) (some (zi (x + n)) :: lt) (st) S J E) : SN G X a b pc (some (zi x) :: lt) (st) S J E :=
  sw_iinc_0 C (v := nI (x + n)) (by rw [← nI_add]; rfl) hd k
theorem sn_iinc_1 {G : zG} {X : zX} {M : zM} {d mc ms a b pc : Nat} {lt : List (Option Value)} {st : List Value} {S : zS} {J : Int64} {E : UInt64} (C : zOK G X M d mc ms) {u0 : Option Value} {x n : Nat} (hu : zC1 u0 = true) (hd : decode M.2.1 pc = .ok (.iinc 1 (n : Int), 3)) (k : SN G X a b (pc + 3) (u0 :: some (zi (x + n)) :: lt) (st) S J E) : SN G X a b pc (u0 :: some (zi x) :: lt) (st) S J E :=
  sw_iinc_1 C hu (v := nI (x + n)) (by rw [← nI_add]; rfl) hd k
theorem sn_iinc_2 {G : zG} {X : zX} {M : zM} {d mc ms a b pc : Nat} {lt : List (Option Value)} {st : List Value} {S : zS} {J : Int64} {E : UInt64} (C : zOK G X M d mc ms) {u0 u1 : Option Value} {x n : Nat} (hu : zC1 u1 = true) (hd : decode M.2.1 pc = .ok (.iinc 2 (n : Int), 3)) (k : SN G X a b (pc + 3) (u0 :: u1 :: some (zi (x + n)) :: lt) (st) S J E) : SN G X a b pc (u0 :: u1 :: some (zi x) :: lt) (st) S J E :=
  sw_iinc_2 C hu (v := nI (x + n)) (by rw [← nI_add]; rfl) hd k
theorem sn_iinc_3 {G : zG} {X : zX} {M : zM} {d mc ms a b pc : Nat} {lt : List (Option Value)} {st : List Value} {S : zS} {J : Int64} {E : UInt64} (C : zOK G X M d mc ms) {u0 u1 u2 : Option Value} {x n : Nat} (hu : zC1 u2 = true) (hd : decode M.2.1 pc = .ok (.iinc 3 (n : Int), 3)) (k : SN G X a b (pc + 3) (u0 :: u1 :: u2 :: some (zi (x + n)) :: lt) (st) S J E) : SN G X a b pc (u0 :: u1 :: u2 :: some (zi x) :: lt) (st) S J E :=
  sw_iinc_3 C hu (v := nI (x + n)) (by rw [← nI_add]; rfl) hd k
theorem sn_iinc_4 {G : zG} {X : zX} {M : zM} {d mc ms a b pc : Nat} {lt : List (Option Value)} {st : List Value} {S : zS} {J : Int64} {E : UInt64} (C : zOK G X M d mc ms) {u0 u1 u2 u3 : Option Value} {x n : Nat} (hu : zC1 u3 = true) (hd : decode M.2.1 pc = .ok (.iinc 4 (n : Int), 3)) (k : SN G X a b (pc + 3) (u0 :: u1 :: u2 :: u3 :: some (zi (x + n)) :: lt) (st) S J E) : SN G X a b pc (u0 :: u1 :: u2 :: u3 :: some (zi x) :: lt) (st) S J E :=
  sw_iinc_4 C hu (v := nI (x + n)) (by rw [← nI_add]; rfl) hd k
theorem sn_iinc_5 {G : zG} {X : zX} {M : zM} {d mc ms a b pc : Nat} {lt : List (Option Value)} {st : List Value} {S : zS} {J : Int64} {E : UInt64} (C : zOK G X M d mc ms) {u0 u1 u2 u3 u4 : Option Value} {x n : Nat} (hu : zC1 u4 = true) (hd : decode M.2.1 pc = .ok (.iinc 5 (n : Int), 3)) (k : SN G X a b (pc + 3) (u0 :: u1 :: u2 :: u3 :: u4 :: some (zi (x + n)) :: lt) (st) S J E) : SN G X a b pc (u0 :: u1 :: u2 :: u3 :: u4 :: some (zi x) :: lt) (st) S J E :=
  sw_iinc_5 C hu (v := nI (x + n)) (by rw [← nI_add]; rfl) hd k
theorem sn_iinc_6 {G : zG} {X : zX} {M : zM} {d mc ms a b pc : Nat} {lt : List (Option Value)} {st : List Value} {S : zS} {J : Int64} {E : UInt64} (C : zOK G X M d mc ms) {u0 u1 u2 u3 u4 u5 : Option Value} {x n : Nat} (hu : zC1 u5 = true) (hd : decode M.2.1 pc = .ok (.iinc 6 (n : Int), 3)) (k : SN G X a b (pc + 3) (u0 :: u1 :: u2 :: u3 :: u4 :: u5 :: some (zi (x + n)) :: lt) (st) S J E) : SN G X a b pc (u0 :: u1 :: u2 :: u3 :: u4 :: u5 :: some (zi x) :: lt) (st) S J E :=
  sw_iinc_6 C hu (v := nI (x + n)) (by rw [← nI_add]; rfl) hd k
theorem sn_iinc_7 {G : zG} {X : zX} {M : zM} {d mc ms a b pc : Nat} {lt : List (Option Value)} {st : List Value} {S : zS} {J : Int64} {E : UInt64} (C : zOK G X M d mc ms) {u0 u1 u2 u3 u4 u5 u6 : Option Value} {x n : Nat} (hu : zC1 u6 = true) (hd : decode M.2.1 pc = .ok (.iinc 7 (n : Int), 3)) (k : SN G X a b (pc + 3) (u0 :: u1 :: u2 :: u3 :: u4 :: u5 :: u6 :: some (zi (x + n)) :: lt) (st) S J E) : SN G X a b pc (u0 :: u1 :: u2 :: u3 :: u4 :: u5 :: u6 :: some (zi x) :: lt) (st) S J E :=
  sw_iinc_7 C hu (v := nI (x + n)) (by rw [← nI_add]; rfl) hd k
theorem sn_iinc_8 {G : zG} {X : zX} {M : zM} {d mc ms a b pc : Nat} {lt : List (Option Value)} {st : List Value} {S : zS} {J : Int64} {E : UInt64} (C : zOK G X M d mc ms) {u0 u1 u2 u3 u4 u5 u6 u7 : Option Value} {x n : Nat} (hu : zC1 u7 = true) (hd : decode M.2.1 pc = .ok (.iinc 8 (n : Int), 3)) (k : SN G X a b (pc + 3) (u0 :: u1 :: u2 :: u3 :: u4 :: u5 :: u6 :: u7 :: some (zi (x + n)) :: lt) (st) S J E) : SN G X a b pc (u0 :: u1 :: u2 :: u3 :: u4 :: u5 :: u6 :: u7 :: some (zi x) :: lt) (st) S J E :=
  sw_iinc_8 C hu (v := nI (x + n)) (by rw [← nI_add]; rfl) hd k
theorem sn_iinc_9 {G : zG} {X : zX} {M : zM} {d mc ms a b pc : Nat} {lt : List (Option Value)} {st : List Value} {S : zS} {J : Int64} {E : UInt64} (C : zOK G X M d mc ms) {u0 u1 u2 u3 u4 u5 u6 u7 u8 : Option Value} {x n : Nat} (hu : zC1 u8 = true) (hd : decode M.2.1 pc = .ok (.iinc 9 (n : Int), 3)) (k : SN G X a b (pc + 3) (u0 :: u1 :: u2 :: u3 :: u4 :: u5 :: u6 :: u7 :: u8 :: some (zi (x + n)) :: lt) (st) S J E) : SN G X a b pc (u0 :: u1 :: u2 :: u3 :: u4 :: u5 :: u6 :: u7 :: u8 :: some (zi x) :: lt) (st) S J E :=
  sw_iinc_9 C hu (v := nI (x + n)) (by rw [← nI_add]; rfl) hd k
theorem sn_iinc_10 {G : zG} {X : zX} {M : zM} {d mc ms a b pc : Nat} {lt : List (Option Value)} {st : List Value} {S : zS} {J : Int64} {E : UInt64} (C : zOK G X M d mc ms) {u0 u1 u2 u3 u4 u5 u6 u7 u8 u9 : Option Value} {x n : Nat} (hu : zC1 u9 = true) (hd : decode M.2.1 pc = .ok (.iinc 10 (n : Int), 3)) (k : SN G X a b (pc + 3) (u0 :: u1 :: u2 :: u3 :: u4 :: u5 :: u6 :: u7 :: u8 :: u9 :: some (zi (x + n)) :: lt) (st) S J E) : SN G X a b pc (u0 :: u1 :: u2 :: u3 :: u4 :: u5 :: u6 :: u7 :: u8 :: u9 :: some (zi x) :: lt) (st) S J E :=
  sw_iinc_10 C hu (v := nI (x + n)) (by rw [← nI_add]; rfl) hd k
theorem sn_iinc_11 {G : zG} {X : zX} {M : zM} {d mc ms a b pc : Nat} {lt : List (Option Value)} {st : List Value} {S : zS} {J : Int64} {E : UInt64} (C : zOK G X M d mc ms) {u0 u1 u2 u3 u4 u5 u6 u7 u8 u9 u10 : Option Value} {x n : Nat} (hu : zC1 u10 = true) (hd : decode M.2.1 pc = .ok (.iinc 11 (n : Int), 3)) (k : SN G X a b (pc + 3) (u0 :: u1 :: u2 :: u3 :: u4 :: u5 :: u6 :: u7 :: u8 :: u9 :: u10 :: some (zi (x + n)) :: lt) (st) S J E) : SN G X a b pc (u0 :: u1 :: u2 :: u3 :: u4 :: u5 :: u6 :: u7 :: u8 :: u9 :: u10 :: some (zi x) :: lt) (st) S J E :=
  sw_iinc_11 C hu (v := nI (x + n)) (by rw [← nI_add]; rfl) hd k
theorem sn_getI {G : zG} {X : zX} {M : zM} {d mc ms a b pc : Nat} {ls : List (Option Value)} {st : List Value} {S : zS} {J : Int64} {E : UInt64} (C : zOK G X M d mc ms) {o ci j idx : Nat} (hF : zFld M.1.cls idx ci j) (hs : zSh o = (0, ci)) (ho : o < zN) (ht : zIsR (zTy ci j) = false) (hd : decode M.2.1 pc = .ok (.getfield idx, 3)) (k : SN G X a b (pc + 3) ls (zi (S o j) :: st) S J E) : SN G X a b pc ls (.ref o :: st) S J E := sw_getI C hF hs ho ht hd k
theorem sn_putI {G : zG} {X : zX} {M : zM} {d mc ms a b pc : Nat} {ls : List (Option Value)} {st : List Value} {S : zS} {J : Int64} {E : UInt64} (C : zOK G X M d mc ms) {o ci j idx x : Nat} (hF : zFld M.1.cls idx ci j) (hs : zSh o = (0, ci)) (ho : o < zN) (ht : zTy ci j = .int) (hfin : ((zCls ci).2.1 j).2.2.2 = false) (hd : decode M.2.1 pc = .ok (.putfield idx, 3)) (k : SN G X a b (pc + 3) ls (st) (zU S o j x) J E) : SN G X a b pc ls (zi x :: .ref o :: st) S J E := sw_putI C hF hs ho ht rfl hfin rfl rfl hd (by rw [zIn_up]; exact k)
theorem sn_putZ {G : zG} {X : zX} {M : zM} {d mc ms a b pc : Nat} {ls : List (Option Value)} {st : List Value} {S : zS} {J : Int64} {E : UInt64} (C : zOK G X M d mc ms) {o ci j idx : Nat} {x : Bool} (hF : zFld M.1.cls idx ci j) (hs : zSh o = (0, ci)) (ho : o < zN) (ht : zTy ci j = .boolean) (hfin : ((zCls ci).2.1 j).2.2.2 = false) (hd : decode M.2.1 pc = .ok (.putfield idx, 3)) (k : SN G X a b (pc + 3) ls (st) (zU S o j x.toNat) J E) : SN G X a b pc ls (zi x.toNat :: .ref o :: st) S J E := sw_putI C hF hs ho ht rfl hfin (by cases x <;> rfl) (by cases x <;> rfl) hd (by rw [zIn_up]; exact k)
theorem zClp {j n : Nat} (h : j < n) (hn : n ≤ 2 ^ 30) : (nI j).toNatClampNeg = j := nI_clamp (by omega)
theorem zInp {j n : Nat} (h : j < n) (hn : n ≤ 2 ^ 30) : vp_in (nI j) n := vp_in_nI h (by omega)
theorem sn_iald {G : zG} {X : zX} {M : zM} {d mc ms a b pc : Nat} {ls : List (Option Value)} {st : List Value} {S : zS} {J : Int64} {E : UInt64} (C : zOK G X M d mc ms) {o n i : Nat} (hs : zSh o = (1, n)) (ho : o < zN) (hi : i < n) (hn : n ≤ 2 ^ 30) (hd : decode M.2.1 pc = .ok (.iaload, 1)) (k : SN G X a b (pc + 1) ls (zi (S o i) :: st) S J E) : SN G X a b pc ls (zi i :: .ref o :: st) S J E := sw_iald C hs ho (zInp hi hn) hd (by rw [zClp hi hn]; exact k)
theorem sn_cald {G : zG} {X : zX} {M : zM} {d mc ms a b pc : Nat} {ls : List (Option Value)} {st : List Value} {S : zS} {J : Int64} {E : UInt64} (C : zOK G X M d mc ms) {o n i : Nat} (hs : zSh o = (2, n)) (ho : o < zN) (hi : i < n) (hn : n ≤ 2 ^ 30) (hd : decode M.2.1 pc = .ok (.caload, 1)) (k : SN G X a b (pc + 1) ls (zi (S o i) :: st) S J E) : SN G X a b pc ls (zi i :: .ref o :: st) S J E := sw_cald C hs ho (zInp hi hn) hd (by rw [zClp hi hn]; exact k)
theorem sn_iast {G : zG} {X : zX} {M : zM} {d mc ms a b pc : Nat} {ls : List (Option Value)} {st : List Value} {S : zS} {J : Int64} {E : UInt64} (C : zOK G X M d mc ms) {o n i x : Nat} (hs : zSh o = (1, n)) (ho : o < zN) (hi : i < n) (hn : n ≤ 2 ^ 30) (hd : decode M.2.1 pc = .ok (.iastore, 1)) (k : SN G X a b (pc + 1) ls (st) (zU S o i x) J E) : SN G X a b pc ls (zi x :: zi i :: .ref o :: st) S J E := sw_iast C hs ho (zInp hi hn) hd (by rw [zClp hi hn, zIn_up]; exact k)
theorem sn_cast {G : zG} {X : zX} {M : zM} {d mc ms a b pc : Nat} {ls : List (Option Value)} {st : List Value} {S : zS} {J : Int64} {E : UInt64} (C : zOK G X M d mc ms) {o n i x : Nat} (hs : zSh o = (2, n)) (ho : o < zN) (hi : i < n) (hn : n ≤ 2 ^ 30) (hx : x < 65536) (hd : decode M.2.1 pc = .ok (.castore, 1)) (k : SN G X a b (pc + 1) ls (st) (zU S o i x) J E) : SN G X a b pc ls (zi x :: zi i :: .ref o :: st) S J E := sw_cast C hs ho (zInp hi hn) hd (by rw [zClp hi hn, show vp_nar .char (nI x) = nI x from by simp only [vp_nar]; rw [(pk_charN hx).1], zIn_up]; exact k)
theorem sn_aald {G : zG} {X : zX} {M : zM} {d mc ms a b pc : Nat} {ls : List (Option Value)} {st : List Value} {S : zS} {J : Int64} {E : UInt64} (C : zOK G X M d mc ms) {o o' n i kd : Nat} (hs : zSh o = (kd, n)) (hkd : kd = 4 ∨ kd = 5) (ho : o < zN) (hi : i < n) (hn : n ≤ 2 ^ 30) (hp : zP o i = some o') (ho' : o' ≠ 11) (hd : decode M.2.1 pc = .ok (.aaload, 1)) (k : SN G X a b (pc + 1) ls (.ref o' :: st) S J E) : SN G X a b pc ls (zi i :: .ref o :: st) S J E := sw_aald C hs hkd ho (zInp hi hn) (by rw [zClp hi hn]; exact hp) ho' hd k
theorem sn_iret {G : zG} {X : zX} {M : zM} {d mc ms a b pc : Nat} {ls : List (Option Value)} {S : zS} {J : Int64} {E : UInt64} (C : zOK G X M d mc ms) {v w : Nat} {S' : zS} {J' : Int64} {E' : UInt64} (hr : M.2.2.2 = some .int) (hF : zFin G X mc ms (some (zi w)) (zIn S') J' E') (hd : decode M.2.1 pc = .ok (.ireturn, 1)) (ha : a ≤ mc) (hb : b ≤ ms) (e1 : v = w) (e2 : S = S') (e3 : J = J') (e4 : E = E') : SN G X a b pc ls [zi v] S J E := sw_iret C hr rfl hF hd ha hb (by rw [e1]) (by rw [e2]) e3 e4
theorem sn_zret {G : zG} {X : zX} {M : zM} {d mc ms a b pc : Nat} {ls : List (Option Value)} {S : zS} {J : Int64} {E : UInt64} (C : zOK G X M d mc ms) {v w : Bool} {S' : zS} {J' : Int64} {E' : UInt64} (hr : M.2.2.2 = some .boolean) (hF : zFin G X mc ms (some (zi w.toNat)) (zIn S') J' E') (hd : decode M.2.1 pc = .ok (.ireturn, 1)) (ha : a ≤ mc) (hb : b ≤ ms) (e1 : v = w) (e2 : S = S') (e3 : J = J') (e4 : E = E') : SN G X a b pc ls [zi v.toNat] S J E := sw_iret C hr (by cases v <;> rfl) hF hd ha hb (by rw [e1]) (by rw [e2]) e3 e4
theorem sn_cret {G : zG} {X : zX} {M : zM} {d mc ms a b pc : Nat} {ls : List (Option Value)} {S : zS} {J : Int64} {E : UInt64} (C : zOK G X M d mc ms) {v w : Nat} {S' : zS} {J' : Int64} {E' : UInt64} (hv : v < 65536) (hr : M.2.2.2 = some .char) (hF : zFin G X mc ms (some (zi w)) (zIn S') J' E') (hd : decode M.2.1 pc = .ok (.ireturn, 1)) (ha : a ≤ mc) (hb : b ≤ ms) (e1 : v = w) (e2 : S = S') (e3 : J = J') (e4 : E = E') : SN G X a b pc ls [zi v] S J E := sw_iret C hr (pk_charN hv).1 hF hd ha hb (by rw [e1]) (by rw [e2]) e3 e4
theorem sn_vret {G : zG} {X : zX} {M : zM} {d mc ms a b pc : Nat} {ls : List (Option Value)} {S : zS} {J : Int64} {E : UInt64} (C : zOK G X M d mc ms) {S' : zS} {J' : Int64} {E' : UInt64} (hr : M.2.2.2 = none) (hF : zFin G X mc ms none (zIn S') J' E') (hd : decode M.2.1 pc = .ok (.return_, 1)) (ha : a ≤ mc) (hb : b ≤ ms) (e2 : S = S') (e3 : J = J') (e4 : E = E') : SN G X a b pc ls [] S J E := sw_vret C hr hF hd ha hb (by rw [e2]) e3 e4
theorem sn_cV0r {G : zG} {X : zX} {M : zM} {d mc ms a b pc : Nat} {ls : List (Option Value)} {st : List Value} {S : zS} {J : Int64} {E : UInt64} (C : zOK G X M d mc ms) {M' : zM} {d' mc' ms' idx : Nat} {v : Value} {S' : zS} {J' : Int64} {E' : UInt64} {o ci : Nat} (hM : zMeV M' 0) (hL : zLk M.1.cls idx M'.1) (hs : zSh o = (0, ci)) (ho : o < zN) (hc : vwCl[ci]? = some (zCls ci)) (hC : (zCls ci).1 = M'.1.cls) (hd : decode M.2.1 pc = .ok (.invokevirtual idx, 3)) (hr : (st.map (fun v => v.category)).sum ≤ 8) (h : nCR X.2.1 G M' d' mc' ms' ([.ref o]) S J E (some v) S' J' E') (hdd : d' + 1 ≤ d) (ha : a + mc' ≤ mc) (hb : b + ms' ≤ ms) (k : SN G X (a + mc') (b + ms') (pc + 3) ls (v :: st) S' J' E') : SN G X a b pc ls (.ref o :: st) S J E := sw_callV (as := []) C hM hL hs ho hc hC hd rfl hr h hdd ha hb k
theorem sn_cS0r {G : zG} {X : zX} {M : zM} {d mc ms a b pc : Nat} {ls : List (Option Value)} {st : List Value} {S : zS} {J : Int64} {E : UInt64} (C : zOK G X M d mc ms) {M' : zM} {d' mc' ms' idx : Nat} {v : Value} {S' : zS} {J' : Int64} {E' : UInt64} (hM : zMeS M' 0) (hL : zLk M.1.cls idx M'.1) (hd : decode M.2.1 pc = .ok (.invokestatic idx, 3)) (hr : (st.map (fun v => v.category)).sum ≤ 8) (h : nCR X.2.1 G M' d' mc' ms' [] S J E (some v) S' J' E') (hdd : d' + 1 ≤ d) (ha : a + mc' ≤ mc) (hb : b + ms' ≤ ms) (k : SN G X (a + mc') (b + ms') (pc + 3) ls (v :: st) S' J' E') : SN G X a b pc ls (st) S J E := sw_callS (as := []) C hM hL hd rfl hr h hdd ha hb k
theorem sn_cV0v {G : zG} {X : zX} {M : zM} {d mc ms a b pc : Nat} {ls : List (Option Value)} {st : List Value} {S : zS} {J : Int64} {E : UInt64} (C : zOK G X M d mc ms) {M' : zM} {d' mc' ms' idx : Nat} {S' : zS} {J' : Int64} {E' : UInt64} {o ci : Nat} (hM : zMeV M' 0) (hL : zLk M.1.cls idx M'.1) (hs : zSh o = (0, ci)) (ho : o < zN) (hc : vwCl[ci]? = some (zCls ci)) (hC : (zCls ci).1 = M'.1.cls) (hd : decode M.2.1 pc = .ok (.invokevirtual idx, 3)) (hr : (st.map (fun v => v.category)).sum ≤ 8) (h : nCR X.2.1 G M' d' mc' ms' ([.ref o]) S J E none S' J' E') (hdd : d' + 1 ≤ d) (ha : a + mc' ≤ mc) (hb : b + ms' ≤ ms) (k : SN G X (a + mc') (b + ms') (pc + 3) ls (st) S' J' E') : SN G X a b pc ls (.ref o :: st) S J E := sw_callV (as := []) C hM hL hs ho hc hC hd rfl hr h hdd ha hb k
theorem sn_cS0v {G : zG} {X : zX} {M : zM} {d mc ms a b pc : Nat} {ls : List (Option Value)} {st : List Value} {S : zS} {J : Int64} {E : UInt64} (C : zOK G X M d mc ms) {M' : zM} {d' mc' ms' idx : Nat} {S' : zS} {J' : Int64} {E' : UInt64} (hM : zMeS M' 0) (hL : zLk M.1.cls idx M'.1) (hd : decode M.2.1 pc = .ok (.invokestatic idx, 3)) (hr : (st.map (fun v => v.category)).sum ≤ 8) (h : nCR X.2.1 G M' d' mc' ms' [] S J E none S' J' E') (hdd : d' + 1 ≤ d) (ha : a + mc' ≤ mc) (hb : b + ms' ≤ ms) (k : SN G X (a + mc') (b + ms') (pc + 3) ls (st) S' J' E') : SN G X a b pc ls (st) S J E := sw_callS (as := []) C hM hL hd rfl hr h hdd ha hb k
theorem sn_cV0T {G : zG} {X : zX} {M : zM} {d mc ms a b pc : Nat} {ls : List (Option Value)} {st : List Value} {S : zS} {J : Int64} {E : UInt64} (C : zOK G X M d mc ms) {M' : zM} {d' mc' ms' idx : Nat} {cls : String} {S' : zS} {J' : Int64} {E' : UInt64} {o ci : Nat} (hM : zMeV M' 0) (hL : Cond.methodLink M.1.cls idx M'.1 ∈ lw_tbl) (hs : zSh o = (0, ci)) (ho : o < zN) (hc : vwCl[ci]? = some (zCls ci)) (hC : (zCls ci).1 = M'.1.cls) (hd : decode M.2.1 pc = .ok (.invokevirtual idx, 3)) (hr : (st.map (fun v => v.category)).sum ≤ 8) (h : nCT X.2.1 G M' d' mc' ms' ([.ref o]) S J E cls S' J' E') (hdd : d' + 1 ≤ d) (ha : a + mc' ≤ mc) (hb : b + ms' ≤ ms) (hF : zFinT G X mc ms cls (zIn S') J' E') : SN G X a b pc ls (.ref o :: st) S J E := sw_callV_T (as := []) C hM hL hs ho hc hC hd rfl hr h hdd ha hb hF
theorem sn_cS0T {G : zG} {X : zX} {M : zM} {d mc ms a b pc : Nat} {ls : List (Option Value)} {st : List Value} {S : zS} {J : Int64} {E : UInt64} (C : zOK G X M d mc ms) {M' : zM} {d' mc' ms' idx : Nat} {cls : String} {S' : zS} {J' : Int64} {E' : UInt64} (hM : zMeS M' 0) (hL : Cond.methodLink M.1.cls idx M'.1 ∈ lw_tbl) (hd : decode M.2.1 pc = .ok (.invokestatic idx, 3)) (hr : (st.map (fun v => v.category)).sum ≤ 8) (h : nCT X.2.1 G M' d' mc' ms' [] S J E cls S' J' E') (hdd : d' + 1 ≤ d) (ha : a + mc' ≤ mc) (hb : b + ms' ≤ ms) (hF : zFinT G X mc ms cls (zIn S') J' E') : SN G X a b pc ls (st) S J E := sw_callS_T (as := []) C hM hL hd rfl hr h hdd ha hb hF
theorem sn_cV1r {G : zG} {X : zX} {M : zM} {d mc ms a b pc : Nat} {ls : List (Option Value)} {st : List Value} {S : zS} {J : Int64} {E : UInt64} (C : zOK G X M d mc ms) {M' : zM} {d' mc' ms' idx : Nat} {x1 : Value} {v : Value} {S' : zS} {J' : Int64} {E' : UInt64} {o ci : Nat} (hM : zMeV M' 1) (hL : zLk M.1.cls idx M'.1) (hs : zSh o = (0, ci)) (ho : o < zN) (hc : vwCl[ci]? = some (zCls ci)) (hC : (zCls ci).1 = M'.1.cls) (hd : decode M.2.1 pc = .ok (.invokevirtual idx, 3)) (hr : (st.map (fun v => v.category)).sum ≤ 8) (h : nCR X.2.1 G M' d' mc' ms' (.ref o :: [x1]) S J E (some v) S' J' E') (hdd : d' + 1 ≤ d) (ha : a + mc' ≤ mc) (hb : b + ms' ≤ ms) (k : SN G X (a + mc') (b + ms') (pc + 3) ls (v :: st) S' J' E') : SN G X a b pc ls (x1 :: .ref o :: st) S J E := sw_callV (as := [x1]) C hM hL hs ho hc hC hd rfl hr h hdd ha hb k
theorem sn_cS1r {G : zG} {X : zX} {M : zM} {d mc ms a b pc : Nat} {ls : List (Option Value)} {st : List Value} {S : zS} {J : Int64} {E : UInt64} (C : zOK G X M d mc ms) {M' : zM} {d' mc' ms' idx : Nat} {x1 : Value} {v : Value} {S' : zS} {J' : Int64} {E' : UInt64} (hM : zMeS M' 1) (hL : zLk M.1.cls idx M'.1) (hd : decode M.2.1 pc = .ok (.invokestatic idx, 3)) (hr : (st.map (fun v => v.category)).sum ≤ 8) (h : nCR X.2.1 G M' d' mc' ms' [x1] S J E (some v) S' J' E') (hdd : d' + 1 ≤ d) (ha : a + mc' ≤ mc) (hb : b + ms' ≤ ms) (k : SN G X (a + mc') (b + ms') (pc + 3) ls (v :: st) S' J' E') : SN G X a b pc ls (x1 :: st) S J E := sw_callS (as := [x1]) C hM hL hd rfl hr h hdd ha hb k
theorem sn_cV1v {G : zG} {X : zX} {M : zM} {d mc ms a b pc : Nat} {ls : List (Option Value)} {st : List Value} {S : zS} {J : Int64} {E : UInt64} (C : zOK G X M d mc ms) {M' : zM} {d' mc' ms' idx : Nat} {x1 : Value} {S' : zS} {J' : Int64} {E' : UInt64} {o ci : Nat} (hM : zMeV M' 1) (hL : zLk M.1.cls idx M'.1) (hs : zSh o = (0, ci)) (ho : o < zN) (hc : vwCl[ci]? = some (zCls ci)) (hC : (zCls ci).1 = M'.1.cls) (hd : decode M.2.1 pc = .ok (.invokevirtual idx, 3)) (hr : (st.map (fun v => v.category)).sum ≤ 8) (h : nCR X.2.1 G M' d' mc' ms' (.ref o :: [x1]) S J E none S' J' E') (hdd : d' + 1 ≤ d) (ha : a + mc' ≤ mc) (hb : b + ms' ≤ ms) (k : SN G X (a + mc') (b + ms') (pc + 3) ls (st) S' J' E') : SN G X a b pc ls (x1 :: .ref o :: st) S J E := sw_callV (as := [x1]) C hM hL hs ho hc hC hd rfl hr h hdd ha hb k
theorem sn_cS1v {G : zG} {X : zX} {M : zM} {d mc ms a b pc : Nat} {ls : List (Option Value)} {st : List Value} {S : zS} {J : Int64} {E : UInt64} (C : zOK G X M d mc ms) {M' : zM} {d' mc' ms' idx : Nat} {x1 : Value} {S' : zS} {J' : Int64} {E' : UInt64} (hM : zMeS M' 1) (hL : zLk M.1.cls idx M'.1) (hd : decode M.2.1 pc = .ok (.invokestatic idx, 3)) (hr : (st.map (fun v => v.category)).sum ≤ 8) (h : nCR X.2.1 G M' d' mc' ms' [x1] S J E none S' J' E') (hdd : d' + 1 ≤ d) (ha : a + mc' ≤ mc) (hb : b + ms' ≤ ms) (k : SN G X (a + mc') (b + ms') (pc + 3) ls (st) S' J' E') : SN G X a b pc ls (x1 :: st) S J E := sw_callS (as := [x1]) C hM hL hd rfl hr h hdd ha hb k
theorem sn_cV1T {G : zG} {X : zX} {M : zM} {d mc ms a b pc : Nat} {ls : List (Option Value)} {st : List Value} {S : zS} {J : Int64} {E : UInt64} (C : zOK G X M d mc ms) {M' : zM} {d' mc' ms' idx : Nat} {x1 : Value} {cls : String} {S' : zS} {J' : Int64} {E' : UInt64} {o ci : Nat} (hM : zMeV M' 1) (hL : Cond.methodLink M.1.cls idx M'.1 ∈ lw_tbl) (hs : zSh o = (0, ci)) (ho : o < zN) (hc : vwCl[ci]? = some (zCls ci)) (hC : (zCls ci).1 = M'.1.cls) (hd : decode M.2.1 pc = .ok (.invokevirtual idx, 3)) (hr : (st.map (fun v => v.category)).sum ≤ 8) (h : nCT X.2.1 G M' d' mc' ms' (.ref o :: [x1]) S J E cls S' J' E') (hdd : d' + 1 ≤ d) (ha : a + mc' ≤ mc) (hb : b + ms' ≤ ms) (hF : zFinT G X mc ms cls (zIn S') J' E') : SN G X a b pc ls (x1 :: .ref o :: st) S J E := sw_callV_T (as := [x1]) C hM hL hs ho hc hC hd rfl hr h hdd ha hb hF
theorem sn_cS1T {G : zG} {X : zX} {M : zM} {d mc ms a b pc : Nat} {ls : List (Option Value)} {st : List Value} {S : zS} {J : Int64} {E : UInt64} (C : zOK G X M d mc ms) {M' : zM} {d' mc' ms' idx : Nat} {x1 : Value} {cls : String} {S' : zS} {J' : Int64} {E' : UInt64} (hM : zMeS M' 1) (hL : Cond.methodLink M.1.cls idx M'.1 ∈ lw_tbl) (hd : decode M.2.1 pc = .ok (.invokestatic idx, 3)) (hr : (st.map (fun v => v.category)).sum ≤ 8) (h : nCT X.2.1 G M' d' mc' ms' [x1] S J E cls S' J' E') (hdd : d' + 1 ≤ d) (ha : a + mc' ≤ mc) (hb : b + ms' ≤ ms) (hF : zFinT G X mc ms cls (zIn S') J' E') : SN G X a b pc ls (x1 :: st) S J E := sw_callS_T (as := [x1]) C hM hL hd rfl hr h hdd ha hb hF
theorem sn_cV2r {G : zG} {X : zX} {M : zM} {d mc ms a b pc : Nat} {ls : List (Option Value)} {st : List Value} {S : zS} {J : Int64} {E : UInt64} (C : zOK G X M d mc ms) {M' : zM} {d' mc' ms' idx : Nat} {x1 x2 : Value} {v : Value} {S' : zS} {J' : Int64} {E' : UInt64} {o ci : Nat} (hM : zMeV M' 2) (hL : zLk M.1.cls idx M'.1) (hs : zSh o = (0, ci)) (ho : o < zN) (hc : vwCl[ci]? = some (zCls ci)) (hC : (zCls ci).1 = M'.1.cls) (hd : decode M.2.1 pc = .ok (.invokevirtual idx, 3)) (hr : (st.map (fun v => v.category)).sum ≤ 8) (h : nCR X.2.1 G M' d' mc' ms' (.ref o :: [x1, x2]) S J E (some v) S' J' E') (hdd : d' + 1 ≤ d) (ha : a + mc' ≤ mc) (hb : b + ms' ≤ ms) (k : SN G X (a + mc') (b + ms') (pc + 3) ls (v :: st) S' J' E') : SN G X a b pc ls (x2 :: x1 :: .ref o :: st) S J E := sw_callV (as := [x1, x2]) C hM hL hs ho hc hC hd rfl hr h hdd ha hb k
theorem sn_cS2r {G : zG} {X : zX} {M : zM} {d mc ms a b pc : Nat} {ls : List (Option Value)} {st : List Value} {S : zS} {J : Int64} {E : UInt64} (C : zOK G X M d mc ms) {M' : zM} {d' mc' ms' idx : Nat} {x1 x2 : Value} {v : Value} {S' : zS} {J' : Int64} {E' : UInt64} (hM : zMeS M' 2) (hL : zLk M.1.cls idx M'.1) (hd : decode M.2.1 pc = .ok (.invokestatic idx, 3)) (hr : (st.map (fun v => v.category)).sum ≤ 8) (h : nCR X.2.1 G M' d' mc' ms' [x1, x2] S J E (some v) S' J' E') (hdd : d' + 1 ≤ d) (ha : a + mc' ≤ mc) (hb : b + ms' ≤ ms) (k : SN G X (a + mc') (b + ms') (pc + 3) ls (v :: st) S' J' E') : SN G X a b pc ls (x2 :: x1 :: st) S J E := sw_callS (as := [x1, x2]) C hM hL hd rfl hr h hdd ha hb k
theorem sn_cV2v {G : zG} {X : zX} {M : zM} {d mc ms a b pc : Nat} {ls : List (Option Value)} {st : List Value} {S : zS} {J : Int64} {E : UInt64} (C : zOK G X M d mc ms) {M' : zM} {d' mc' ms' idx : Nat} {x1 x2 : Value} {S' : zS} {J' : Int64} {E' : UInt64} {o ci : Nat} (hM : zMeV M' 2) (hL : zLk M.1.cls idx M'.1) (hs : zSh o = (0, ci)) (ho : o < zN) (hc : vwCl[ci]? = some (zCls ci)) (hC : (zCls ci).1 = M'.1.cls) (hd : decode M.2.1 pc = .ok (.invokevirtual idx, 3)) (hr : (st.map (fun v => v.category)).sum ≤ 8) (h : nCR X.2.1 G M' d' mc' ms' (.ref o :: [x1, x2]) S J E none S' J' E') (hdd : d' + 1 ≤ d) (ha : a + mc' ≤ mc) (hb : b + ms' ≤ ms) (k : SN G X (a + mc') (b + ms') (pc + 3) ls (st) S' J' E') : SN G X a b pc ls (x2 :: x1 :: .ref o :: st) S J E := sw_callV (as := [x1, x2]) C hM hL hs ho hc hC hd rfl hr h hdd ha hb k
theorem sn_cS2v {G : zG} {X : zX} {M : zM} {d mc ms a b pc : Nat} {ls : List (Option Value)} {st : List Value} {S : zS} {J : Int64} {E : UInt64} (C : zOK G X M d mc ms) {M' : zM} {d' mc' ms' idx : Nat} {x1 x2 : Value} {S' : zS} {J' : Int64} {E' : UInt64} (hM : zMeS M' 2) (hL : zLk M.1.cls idx M'.1) (hd : decode M.2.1 pc = .ok (.invokestatic idx, 3)) (hr : (st.map (fun v => v.category)).sum ≤ 8) (h : nCR X.2.1 G M' d' mc' ms' [x1, x2] S J E none S' J' E') (hdd : d' + 1 ≤ d) (ha : a + mc' ≤ mc) (hb : b + ms' ≤ ms) (k : SN G X (a + mc') (b + ms') (pc + 3) ls (st) S' J' E') : SN G X a b pc ls (x2 :: x1 :: st) S J E := sw_callS (as := [x1, x2]) C hM hL hd rfl hr h hdd ha hb k
theorem sn_cV2T {G : zG} {X : zX} {M : zM} {d mc ms a b pc : Nat} {ls : List (Option Value)} {st : List Value} {S : zS} {J : Int64} {E : UInt64} (C : zOK G X M d mc ms) {M' : zM} {d' mc' ms' idx : Nat} {x1 x2 : Value} {cls : String} {S' : zS} {J' : Int64} {E' : UInt64} {o ci : Nat} (hM : zMeV M' 2) (hL : Cond.methodLink M.1.cls idx M'.1 ∈ lw_tbl) (hs : zSh o = (0, ci)) (ho : o < zN) (hc : vwCl[ci]? = some (zCls ci)) (hC : (zCls ci).1 = M'.1.cls) (hd : decode M.2.1 pc = .ok (.invokevirtual idx, 3)) (hr : (st.map (fun v => v.category)).sum ≤ 8) (h : nCT X.2.1 G M' d' mc' ms' (.ref o :: [x1, x2]) S J E cls S' J' E') (hdd : d' + 1 ≤ d) (ha : a + mc' ≤ mc) (hb : b + ms' ≤ ms) (hF : zFinT G X mc ms cls (zIn S') J' E') : SN G X a b pc ls (x2 :: x1 :: .ref o :: st) S J E := sw_callV_T (as := [x1, x2]) C hM hL hs ho hc hC hd rfl hr h hdd ha hb hF
theorem sn_cS2T {G : zG} {X : zX} {M : zM} {d mc ms a b pc : Nat} {ls : List (Option Value)} {st : List Value} {S : zS} {J : Int64} {E : UInt64} (C : zOK G X M d mc ms) {M' : zM} {d' mc' ms' idx : Nat} {x1 x2 : Value} {cls : String} {S' : zS} {J' : Int64} {E' : UInt64} (hM : zMeS M' 2) (hL : Cond.methodLink M.1.cls idx M'.1 ∈ lw_tbl) (hd : decode M.2.1 pc = .ok (.invokestatic idx, 3)) (hr : (st.map (fun v => v.category)).sum ≤ 8) (h : nCT X.2.1 G M' d' mc' ms' [x1, x2] S J E cls S' J' E') (hdd : d' + 1 ≤ d) (ha : a + mc' ≤ mc) (hb : b + ms' ≤ ms) (hF : zFinT G X mc ms cls (zIn S') J' E') : SN G X a b pc ls (x2 :: x1 :: st) S J E := sw_callS_T (as := [x1, x2]) C hM hL hd rfl hr h hdd ha hb hF
theorem sn_cV3r {G : zG} {X : zX} {M : zM} {d mc ms a b pc : Nat} {ls : List (Option Value)} {st : List Value} {S : zS} {J : Int64} {E : UInt64} (C : zOK G X M d mc ms) {M' : zM} {d' mc' ms' idx : Nat} {x1 x2 x3 : Value} {v : Value} {S' : zS} {J' : Int64} {E' : UInt64} {o ci : Nat} (hM : zMeV M' 3) (hL : zLk M.1.cls idx M'.1) (hs : zSh o = (0, ci)) (ho : o < zN) (hc : vwCl[ci]? = some (zCls ci)) (hC : (zCls ci).1 = M'.1.cls) (hd : decode M.2.1 pc = .ok (.invokevirtual idx, 3)) (hr : (st.map (fun v => v.category)).sum ≤ 8) (h : nCR X.2.1 G M' d' mc' ms' (.ref o :: [x1, x2, x3]) S J E (some v) S' J' E') (hdd : d' + 1 ≤ d) (ha : a + mc' ≤ mc) (hb : b + ms' ≤ ms) (k : SN G X (a + mc') (b + ms') (pc + 3) ls (v :: st) S' J' E') : SN G X a b pc ls (x3 :: x2 :: x1 :: .ref o :: st) S J E := sw_callV (as := [x1, x2, x3]) C hM hL hs ho hc hC hd rfl hr h hdd ha hb k
theorem sn_cS3r {G : zG} {X : zX} {M : zM} {d mc ms a b pc : Nat} {ls : List (Option Value)} {st : List Value} {S : zS} {J : Int64} {E : UInt64} (C : zOK G X M d mc ms) {M' : zM} {d' mc' ms' idx : Nat} {x1 x2 x3 : Value} {v : Value} {S' : zS} {J' : Int64} {E' : UInt64} (hM : zMeS M' 3) (hL : zLk M.1.cls idx M'.1) (hd : decode M.2.1 pc = .ok (.invokestatic idx, 3)) (hr : (st.map (fun v => v.category)).sum ≤ 8) (h : nCR X.2.1 G M' d' mc' ms' [x1, x2, x3] S J E (some v) S' J' E') (hdd : d' + 1 ≤ d) (ha : a + mc' ≤ mc) (hb : b + ms' ≤ ms) (k : SN G X (a + mc') (b + ms') (pc + 3) ls (v :: st) S' J' E') : SN G X a b pc ls (x3 :: x2 :: x1 :: st) S J E := sw_callS (as := [x1, x2, x3]) C hM hL hd rfl hr h hdd ha hb k
theorem sn_cV3v {G : zG} {X : zX} {M : zM} {d mc ms a b pc : Nat} {ls : List (Option Value)} {st : List Value} {S : zS} {J : Int64} {E : UInt64} (C : zOK G X M d mc ms) {M' : zM} {d' mc' ms' idx : Nat} {x1 x2 x3 : Value} {S' : zS} {J' : Int64} {E' : UInt64} {o ci : Nat} (hM : zMeV M' 3) (hL : zLk M.1.cls idx M'.1) (hs : zSh o = (0, ci)) (ho : o < zN) (hc : vwCl[ci]? = some (zCls ci)) (hC : (zCls ci).1 = M'.1.cls) (hd : decode M.2.1 pc = .ok (.invokevirtual idx, 3)) (hr : (st.map (fun v => v.category)).sum ≤ 8) (h : nCR X.2.1 G M' d' mc' ms' (.ref o :: [x1, x2, x3]) S J E none S' J' E') (hdd : d' + 1 ≤ d) (ha : a + mc' ≤ mc) (hb : b + ms' ≤ ms) (k : SN G X (a + mc') (b + ms') (pc + 3) ls (st) S' J' E') : SN G X a b pc ls (x3 :: x2 :: x1 :: .ref o :: st) S J E := sw_callV (as := [x1, x2, x3]) C hM hL hs ho hc hC hd rfl hr h hdd ha hb k
theorem sn_cS3v {G : zG} {X : zX} {M : zM} {d mc ms a b pc : Nat} {ls : List (Option Value)} {st : List Value} {S : zS} {J : Int64} {E : UInt64} (C : zOK G X M d mc ms) {M' : zM} {d' mc' ms' idx : Nat} {x1 x2 x3 : Value} {S' : zS} {J' : Int64} {E' : UInt64} (hM : zMeS M' 3) (hL : zLk M.1.cls idx M'.1) (hd : decode M.2.1 pc = .ok (.invokestatic idx, 3)) (hr : (st.map (fun v => v.category)).sum ≤ 8) (h : nCR X.2.1 G M' d' mc' ms' [x1, x2, x3] S J E none S' J' E') (hdd : d' + 1 ≤ d) (ha : a + mc' ≤ mc) (hb : b + ms' ≤ ms) (k : SN G X (a + mc') (b + ms') (pc + 3) ls (st) S' J' E') : SN G X a b pc ls (x3 :: x2 :: x1 :: st) S J E := sw_callS (as := [x1, x2, x3]) C hM hL hd rfl hr h hdd ha hb k
theorem sn_cV3T {G : zG} {X : zX} {M : zM} {d mc ms a b pc : Nat} {ls : List (Option Value)} {st : List Value} {S : zS} {J : Int64} {E : UInt64} (C : zOK G X M d mc ms) {M' : zM} {d' mc' ms' idx : Nat} {x1 x2 x3 : Value} {cls : String} {S' : zS} {J' : Int64} {E' : UInt64} {o ci : Nat} (hM : zMeV M' 3) (hL : Cond.methodLink M.1.cls idx M'.1 ∈ lw_tbl) (hs : zSh o = (0, ci)) (ho : o < zN) (hc : vwCl[ci]? = some (zCls ci)) (hC : (zCls ci).1 = M'.1.cls) (hd : decode M.2.1 pc = .ok (.invokevirtual idx, 3)) (hr : (st.map (fun v => v.category)).sum ≤ 8) (h : nCT X.2.1 G M' d' mc' ms' (.ref o :: [x1, x2, x3]) S J E cls S' J' E') (hdd : d' + 1 ≤ d) (ha : a + mc' ≤ mc) (hb : b + ms' ≤ ms) (hF : zFinT G X mc ms cls (zIn S') J' E') : SN G X a b pc ls (x3 :: x2 :: x1 :: .ref o :: st) S J E := sw_callV_T (as := [x1, x2, x3]) C hM hL hs ho hc hC hd rfl hr h hdd ha hb hF
theorem sn_cS3T {G : zG} {X : zX} {M : zM} {d mc ms a b pc : Nat} {ls : List (Option Value)} {st : List Value} {S : zS} {J : Int64} {E : UInt64} (C : zOK G X M d mc ms) {M' : zM} {d' mc' ms' idx : Nat} {x1 x2 x3 : Value} {cls : String} {S' : zS} {J' : Int64} {E' : UInt64} (hM : zMeS M' 3) (hL : Cond.methodLink M.1.cls idx M'.1 ∈ lw_tbl) (hd : decode M.2.1 pc = .ok (.invokestatic idx, 3)) (hr : (st.map (fun v => v.category)).sum ≤ 8) (h : nCT X.2.1 G M' d' mc' ms' [x1, x2, x3] S J E cls S' J' E') (hdd : d' + 1 ≤ d) (ha : a + mc' ≤ mc) (hb : b + ms' ≤ ms) (hF : zFinT G X mc ms cls (zIn S') J' E') : SN G X a b pc ls (x3 :: x2 :: x1 :: st) S J E := sw_callS_T (as := [x1, x2, x3]) C hM hL hd rfl hr h hdd ha hb hF
theorem sn_cV4r {G : zG} {X : zX} {M : zM} {d mc ms a b pc : Nat} {ls : List (Option Value)} {st : List Value} {S : zS} {J : Int64} {E : UInt64} (C : zOK G X M d mc ms) {M' : zM} {d' mc' ms' idx : Nat} {x1 x2 x3 x4 : Value} {v : Value} {S' : zS} {J' : Int64} {E' : UInt64} {o ci : Nat} (hM : zMeV M' 4) (hL : zLk M.1.cls idx M'.1) (hs : zSh o = (0, ci)) (ho : o < zN) (hc : vwCl[ci]? = some (zCls ci)) (hC : (zCls ci).1 = M'.1.cls) (hd : decode M.2.1 pc = .ok (.invokevirtual idx, 3)) (hr : (st.map (fun v => v.category)).sum ≤ 8) (h : nCR X.2.1 G M' d' mc' ms' (.ref o :: [x1, x2, x3, x4]) S J E (some v) S' J' E') (hdd : d' + 1 ≤ d) (ha : a + mc' ≤ mc) (hb : b + ms' ≤ ms) (k : SN G X (a + mc') (b + ms') (pc + 3) ls (v :: st) S' J' E') : SN G X a b pc ls (x4 :: x3 :: x2 :: x1 :: .ref o :: st) S J E := sw_callV (as := [x1, x2, x3, x4]) C hM hL hs ho hc hC hd rfl hr h hdd ha hb k
theorem sn_cS4r {G : zG} {X : zX} {M : zM} {d mc ms a b pc : Nat} {ls : List (Option Value)} {st : List Value} {S : zS} {J : Int64} {E : UInt64} (C : zOK G X M d mc ms) {M' : zM} {d' mc' ms' idx : Nat} {x1 x2 x3 x4 : Value} {v : Value} {S' : zS} {J' : Int64} {E' : UInt64} (hM : zMeS M' 4) (hL : zLk M.1.cls idx M'.1) (hd : decode M.2.1 pc = .ok (.invokestatic idx, 3)) (hr : (st.map (fun v => v.category)).sum ≤ 8) (h : nCR X.2.1 G M' d' mc' ms' [x1, x2, x3, x4] S J E (some v) S' J' E') (hdd : d' + 1 ≤ d) (ha : a + mc' ≤ mc) (hb : b + ms' ≤ ms) (k : SN G X (a + mc') (b + ms') (pc + 3) ls (v :: st) S' J' E') : SN G X a b pc ls (x4 :: x3 :: x2 :: x1 :: st) S J E := sw_callS (as := [x1, x2, x3, x4]) C hM hL hd rfl hr h hdd ha hb k
theorem sn_cV4v {G : zG} {X : zX} {M : zM} {d mc ms a b pc : Nat} {ls : List (Option Value)} {st : List Value} {S : zS} {J : Int64} {E : UInt64} (C : zOK G X M d mc ms) {M' : zM} {d' mc' ms' idx : Nat} {x1 x2 x3 x4 : Value} {S' : zS} {J' : Int64} {E' : UInt64} {o ci : Nat} (hM : zMeV M' 4) (hL : zLk M.1.cls idx M'.1) (hs : zSh o = (0, ci)) (ho : o < zN) (hc : vwCl[ci]? = some (zCls ci)) (hC : (zCls ci).1 = M'.1.cls) (hd : decode M.2.1 pc = .ok (.invokevirtual idx, 3)) (hr : (st.map (fun v => v.category)).sum ≤ 8) (h : nCR X.2.1 G M' d' mc' ms' (.ref o :: [x1, x2, x3, x4]) S J E none S' J' E') (hdd : d' + 1 ≤ d) (ha : a + mc' ≤ mc) (hb : b + ms' ≤ ms) (k : SN G X (a + mc') (b + ms') (pc + 3) ls (st) S' J' E') : SN G X a b pc ls (x4 :: x3 :: x2 :: x1 :: .ref o :: st) S J E := sw_callV (as := [x1, x2, x3, x4]) C hM hL hs ho hc hC hd rfl hr h hdd ha hb k
theorem sn_cS4v {G : zG} {X : zX} {M : zM} {d mc ms a b pc : Nat} {ls : List (Option Value)} {st : List Value} {S : zS} {J : Int64} {E : UInt64} (C : zOK G X M d mc ms) {M' : zM} {d' mc' ms' idx : Nat} {x1 x2 x3 x4 : Value} {S' : zS} {J' : Int64} {E' : UInt64} (hM : zMeS M' 4) (hL : zLk M.1.cls idx M'.1) (hd : decode M.2.1 pc = .ok (.invokestatic idx, 3)) (hr : (st.map (fun v => v.category)).sum ≤ 8) (h : nCR X.2.1 G M' d' mc' ms' [x1, x2, x3, x4] S J E none S' J' E') (hdd : d' + 1 ≤ d) (ha : a + mc' ≤ mc) (hb : b + ms' ≤ ms) (k : SN G X (a + mc') (b + ms') (pc + 3) ls (st) S' J' E') : SN G X a b pc ls (x4 :: x3 :: x2 :: x1 :: st) S J E := sw_callS (as := [x1, x2, x3, x4]) C hM hL hd rfl hr h hdd ha hb k
theorem sn_cV4T {G : zG} {X : zX} {M : zM} {d mc ms a b pc : Nat} {ls : List (Option Value)} {st : List Value} {S : zS} {J : Int64} {E : UInt64} (C : zOK G X M d mc ms) {M' : zM} {d' mc' ms' idx : Nat} {x1 x2 x3 x4 : Value} {cls : String} {S' : zS} {J' : Int64} {E' : UInt64} {o ci : Nat} (hM : zMeV M' 4) (hL : Cond.methodLink M.1.cls idx M'.1 ∈ lw_tbl) (hs : zSh o = (0, ci)) (ho : o < zN) (hc : vwCl[ci]? = some (zCls ci)) (hC : (zCls ci).1 = M'.1.cls) (hd : decode M.2.1 pc = .ok (.invokevirtual idx, 3)) (hr : (st.map (fun v => v.category)).sum ≤ 8) (h : nCT X.2.1 G M' d' mc' ms' (.ref o :: [x1, x2, x3, x4]) S J E cls S' J' E') (hdd : d' + 1 ≤ d) (ha : a + mc' ≤ mc) (hb : b + ms' ≤ ms) (hF : zFinT G X mc ms cls (zIn S') J' E') : SN G X a b pc ls (x4 :: x3 :: x2 :: x1 :: .ref o :: st) S J E := sw_callV_T (as := [x1, x2, x3, x4]) C hM hL hs ho hc hC hd rfl hr h hdd ha hb hF
theorem sn_cS4T {G : zG} {X : zX} {M : zM} {d mc ms a b pc : Nat} {ls : List (Option Value)} {st : List Value} {S : zS} {J : Int64} {E : UInt64} (C : zOK G X M d mc ms) {M' : zM} {d' mc' ms' idx : Nat} {x1 x2 x3 x4 : Value} {cls : String} {S' : zS} {J' : Int64} {E' : UInt64} (hM : zMeS M' 4) (hL : Cond.methodLink M.1.cls idx M'.1 ∈ lw_tbl) (hd : decode M.2.1 pc = .ok (.invokestatic idx, 3)) (hr : (st.map (fun v => v.category)).sum ≤ 8) (h : nCT X.2.1 G M' d' mc' ms' [x1, x2, x3, x4] S J E cls S' J' E') (hdd : d' + 1 ≤ d) (ha : a + mc' ≤ mc) (hb : b + ms' ≤ ms) (hF : zFinT G X mc ms cls (zIn S') J' E') : SN G X a b pc ls (x4 :: x3 :: x2 :: x1 :: st) S J E := sw_callS_T (as := [x1, x2, x3, x4]) C hM hL hd rfl hr h hdd ha hb hF
/-- a loop's value: f at 0, 1, .. n - 1 -/
def zIt {α : Type} (f : Nat → α → α) : Nat → α → α
  | 0, x => x
  | n + 1, x => f n (zIt f n x)
theorem zOK.hl {G : zG} {X : zX} {M : zM} {d mc ms : Nat} (C : zOK G X M d mc ms) : X.2.1.stackTraces = false := C.2.2.2.2.2.2.2.2
end
section
set_option maxRecDepth 100000 in
set_option maxHeartbeats 4000000 in
theorem c_X5_isHive {l : Launch} (hl : l.stackTraces = false) {G : zG} {S : zS} {J : Int64} {E : UInt64} {n : Nat} (hn : n < 2 ^ 32) : nCR l G mX5_isHive 0 0 0 [zi n] S J E (some (zi (decide (n < 4)).toNat)) S J E := by
  refine nCR.of hl (by decide) rfl (Nat.le_of_ble_eq_true rfl) (ls := [some (zi n)]) rfl (fun X C hF hX => ?_)
  subst hX
  refine sw_iload_0 C dX5_isHive_0 ?_
  refine sn_if_lt C 13 (by omega) dX5_isHive_1 (by decide) (fun c1 => ?_) (fun c1 => ?_)
  · refine sn_iconst C 0 (by decide) dX5_isHive_13 ?_
    exact sn_zret C (v := false) rfl hF dX5_isHive_14 (by decide) (by decide) (by simp; omega) rfl rfl rfl
  · refine sw_iload_0 C dX5_isHive_4 ?_
    refine sn_iconst C 4 (by decide) dX5_isHive_5 ?_
    refine sn_icmp_ge C 13 (by omega) (by omega) dX5_isHive_6 (by decide) (fun c6 => ?_) (fun c6 => ?_)
    · refine sn_iconst C 0 (by decide) dX5_isHive_13 ?_
      exact sn_zret C (v := false) rfl hF dX5_isHive_14 (by decide) (by decide) (by simp; omega) rfl rfl rfl
    · refine sn_iconst C 1 (by decide) dX5_isHive_9 ?_
      refine sw_goto C 14 dX5_isHive_10 (by decide) ?_
      exact sn_zret C (v := true) rfl hF dX5_isHive_14 (by decide) (by decide) (by simp; omega) rfl rfl rfl

set_option maxRecDepth 100000 in
set_option maxHeartbeats 4000000 in
theorem c_X5_isLevel {l : Launch} (hl : l.stackTraces = false) {G : zG} {S : zS} {J : Int64} {E : UInt64} {n : Nat} (hn : n < 2 ^ 32) : nCR l G mX5_isLevel 0 0 0 [zi n] S J E (some (zi (decide (n ≤ 9)).toNat)) S J E := by
  refine nCR.of hl (by decide) rfl (Nat.le_of_ble_eq_true rfl) (ls := [some (zi n)]) rfl (fun X C hF hX => ?_)
  subst hX
  refine sw_iload_0 C dX5_isLevel_0 ?_
  refine sn_if_lt C 14 (by omega) dX5_isLevel_1 (by decide) (fun c1 => ?_) (fun c1 => ?_)
  · refine sn_iconst C 0 (by decide) dX5_isLevel_14 ?_
    exact sn_zret C (v := false) rfl hF dX5_isLevel_15 (by decide) (by decide) (by simp; omega) rfl rfl rfl
  · refine sw_iload_0 C dX5_isLevel_4 ?_
    refine sn_bipush C 9 (by decide) dX5_isLevel_5 ?_
    refine sn_icmp_gt C 14 (by omega) (by omega) dX5_isLevel_7 (by decide) (fun c7 => ?_) (fun c7 => ?_)
    · refine sn_iconst C 0 (by decide) dX5_isLevel_14 ?_
      exact sn_zret C (v := false) rfl hF dX5_isLevel_15 (by decide) (by decide) (by simp; omega) rfl rfl rfl
    · refine sn_iconst C 1 (by decide) dX5_isLevel_10 ?_
      refine sw_goto C 15 dX5_isLevel_11 (by decide) ?_
      exact sn_zret C (v := true) rfl hF dX5_isLevel_15 (by decide) (by decide) (by simp; omega) rfl rfl rfl

set_option maxRecDepth 100000 in
set_option maxHeartbeats 4000000 in
theorem c_X3_hasListener {l : Launch} (hl : l.stackTraces = false) {G : zG} {S : zS} {J : Int64} {E : UInt64} {n : Nat} (hn : n < 2 ^ 32) (hz : S 26 0 ≤ 12) : nCR l G mX3_hasListener 0 0 0 [.ref 25, zi n] S J E (some (zi (decide (n < S 26 0)).toNat)) S J E := by
  refine nCR.of hl (by decide) rfl (Nat.le_of_ble_eq_true rfl) (ls := [some (.ref 25), some (zi n)]) rfl (fun X C hF hX => ?_)
  subst hX
  refine sw_iload_1 C dX3_hasListener_0 ?_
  refine sn_if_lt C 19 (by omega) dX3_hasListener_1 (by decide) (fun c1 => ?_) (fun c1 => ?_)
  · refine sn_iconst C 0 (by decide) dX3_hasListener_19 ?_
    exact sn_zret C (v := false) rfl hF dX3_hasListener_20 (by decide) (by decide) (by simp; omega) rfl rfl rfl
  · refine sw_iload_1 C dX3_hasListener_4 ?_
    refine sw_aload_0 C dX3_hasListener_5 ?_
    refine sw_getR C (o' := 26) fX3_12 rfl (by decide) rfl rfl (by decide) dX3_hasListener_6 ?_
    refine sn_getI C fX3_58 rfl (by decide) rfl dX3_hasListener_9 ?_
    refine sn_icmp_ge C 19 (by omega) (by omega) dX3_hasListener_12 (by decide) (fun c12 => ?_) (fun c12 => ?_)
    · refine sn_iconst C 0 (by decide) dX3_hasListener_19 ?_
      exact sn_zret C (v := false) rfl hF dX3_hasListener_20 (by decide) (by decide) (by simp; omega) rfl rfl rfl
    · refine sn_iconst C 1 (by decide) dX3_hasListener_15 ?_
      refine sw_goto C 20 dX3_hasListener_16 (by decide) ?_
      exact sn_zret C (v := true) rfl hF dX3_hasListener_20 (by decide) (by decide) (by simp; omega) rfl rfl rfl

set_option maxRecDepth 100000 in
set_option maxHeartbeats 4000000 in
theorem c_X3_hasRumour {l : Launch} (hl : l.stackTraces = false) {G : zG} {S : zS} {J : Int64} {E : UInt64} {n : Nat} (hn : n < 2 ^ 32) (hz : S 25 4 ≤ 4) : nCR l G mX3_hasRumour 0 0 0 [.ref 25, zi n] S J E (some (zi (decide (n < S 25 4)).toNat)) S J E := by
  refine nCR.of hl (by decide) rfl (Nat.le_of_ble_eq_true rfl) (ls := [some (.ref 25), some (zi n)]) rfl (fun X C hF hX => ?_)
  subst hX
  refine sw_iload_1 C dX3_hasRumour_0 ?_
  refine sn_if_lt C 16 (by omega) dX3_hasRumour_1 (by decide) (fun c1 => ?_) (fun c1 => ?_)
  · refine sn_iconst C 0 (by decide) dX3_hasRumour_16 ?_
    exact sn_zret C (v := false) rfl hF dX3_hasRumour_17 (by decide) (by decide) (by simp; omega) rfl rfl rfl
  · refine sw_iload_1 C dX3_hasRumour_4 ?_
    refine sw_aload_0 C dX3_hasRumour_5 ?_
    refine sn_getI C fX3_31 rfl (by decide) rfl dX3_hasRumour_6 ?_
    refine sn_icmp_ge C 16 (by omega) (by omega) dX3_hasRumour_9 (by decide) (fun c9 => ?_) (fun c9 => ?_)
    · refine sn_iconst C 0 (by decide) dX3_hasRumour_16 ?_
      exact sn_zret C (v := false) rfl hF dX3_hasRumour_17 (by decide) (by decide) (by simp; omega) rfl rfl rfl
    · refine sn_iconst C 1 (by decide) dX3_hasRumour_12 ?_
      refine sw_goto C 17 dX3_hasRumour_13 (by decide) ?_
      exact sn_zret C (v := true) rfl hF dX3_hasRumour_17 (by decide) (by decide) (by simp; omega) rfl rfl rfl
end
