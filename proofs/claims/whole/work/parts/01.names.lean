-- ===== PART A: goes FIRST, ahead of the names: the tables' words, and 'selects' of the private methods out of them =====
/-- a private method of a class that the tables say can be made, by its rows of tables_1 -/
def lw_okq (q : MethodName × Nat) : Prop := (q.1.cls ≠ "java/lang/invoke/MethodHandle" ∧ q.1.cls ≠ "java/lang/invoke/VarHandle") ∧ Cond.instantiable q.1.cls q.2 ∈ tables_1 ∧ Cond.privateMethod q.1 ∈ tables_1 ∧ Cond.instanceMethod q.1 ∈ tables_1
theorem lw_p0 : lw_okq (⟨"NameBoard", "countPeople", "(JJJ)I"⟩, 10) := ⟨⟨by decide +kernel, by decide +kernel⟩, List.mem_of_getElem? (i := 23) (by decide +kernel), List.mem_of_getElem? (i := 581) (by decide +kernel), List.mem_of_getElem? (i := 582) (by decide +kernel)⟩
theorem lw_p1 : lw_okq (⟨"NameBoard", "taken", "(I)I"⟩, 10) := ⟨⟨by decide +kernel, by decide +kernel⟩, List.mem_of_getElem? (i := 23) (by decide +kernel), List.mem_of_getElem? (i := 751) (by decide +kernel), List.mem_of_getElem? (i := 752) (by decide +kernel)⟩
theorem lw_p2 : lw_okq (⟨"NameBoard", "rowsHad", "()I"⟩, 10) := ⟨⟨by decide +kernel, by decide +kernel⟩, List.mem_of_getElem? (i := 23) (by decide +kernel), List.mem_of_getElem? (i := 1180) (by decide +kernel), List.mem_of_getElem? (i := 1181) (by decide +kernel)⟩
theorem lw_p3 : lw_okq (⟨"NameBoard", "liesInRow", "(III)Z"⟩, 10) := ⟨⟨by decide +kernel, by decide +kernel⟩, List.mem_of_getElem? (i := 23) (by decide +kernel), List.mem_of_getElem? (i := 1244) (by decide +kernel), List.mem_of_getElem? (i := 1245) (by decide +kernel)⟩
theorem lw_p4 : lw_okq (⟨"NameBoardModel", "now", "()I"⟩, 52) := ⟨⟨by decide +kernel, by decide +kernel⟩, List.mem_of_getElem? (i := 1249) (by decide +kernel), List.mem_of_getElem? (i := 1437) (by decide +kernel), List.mem_of_getElem? (i := 1438) (by decide +kernel)⟩
theorem lw_p5 : lw_okq (⟨"NameBoardModel", "isPlace", "(I)Z"⟩, 52) := ⟨⟨by decide +kernel, by decide +kernel⟩, List.mem_of_getElem? (i := 1249) (by decide +kernel), List.mem_of_getElem? (i := 1450) (by decide +kernel), List.mem_of_getElem? (i := 1451) (by decide +kernel)⟩
theorem lw_p6 : lw_okq (⟨"NameBoardModel", "looks", "(I)V"⟩, 52) := ⟨⟨by decide +kernel, by decide +kernel⟩, List.mem_of_getElem? (i := 1249) (by decide +kernel), List.mem_of_getElem? (i := 1454) (by decide +kernel), List.mem_of_getElem? (i := 1455) (by decide +kernel)⟩
theorem lw_p7 : lw_okq (⟨"NameBoardModel", "addsUp", "()V"⟩, 52) := ⟨⟨by decide +kernel, by decide +kernel⟩, List.mem_of_getElem? (i := 1249) (by decide +kernel), List.mem_of_getElem? (i := 1458) (by decide +kernel), List.mem_of_getElem? (i := 1459) (by decide +kernel)⟩
theorem lw_p8 : lw_okq (⟨"NameBoardModel", "allOf", "(I)I"⟩, 52) := ⟨⟨by decide +kernel, by decide +kernel⟩, List.mem_of_getElem? (i := 1249) (by decide +kernel), List.mem_of_getElem? (i := 1478) (by decide +kernel), List.mem_of_getElem? (i := 1479) (by decide +kernel)⟩
theorem lw_p9 : lw_okq (⟨"NameBoardModel", "isLetters", "(I)Z"⟩, 52) := ⟨⟨by decide +kernel, by decide +kernel⟩, List.mem_of_getElem? (i := 1249) (by decide +kernel), List.mem_of_getElem? (i := 1486) (by decide +kernel), List.mem_of_getElem? (i := 1487) (by decide +kernel)⟩
theorem lw_p10 : lw_okq (⟨"NameBoardModel", "begins", "(Z)V"⟩, 52) := ⟨⟨by decide +kernel, by decide +kernel⟩, List.mem_of_getElem? (i := 1249) (by decide +kernel), List.mem_of_getElem? (i := 1500) (by decide +kernel), List.mem_of_getElem? (i := 1501) (by decide +kernel)⟩
theorem lw_p11 : lw_okq (⟨"NameBoardModel", "next", "()V"⟩, 52) := ⟨⟨by decide +kernel, by decide +kernel⟩, List.mem_of_getElem? (i := 1249) (by decide +kernel), List.mem_of_getElem? (i := 1504) (by decide +kernel), List.mem_of_getElem? (i := 1505) (by decide +kernel)⟩
theorem lw_p12 : lw_okq (⟨"NameBoardModel", "see", "(I)I"⟩, 52) := ⟨⟨by decide +kernel, by decide +kernel⟩, List.mem_of_getElem? (i := 1249) (by decide +kernel), List.mem_of_getElem? (i := 1508) (by decide +kernel), List.mem_of_getElem? (i := 1509) (by decide +kernel)⟩
theorem lw_p13 : lw_okq (⟨"NameBoardModel", "good", "()Z"⟩, 52) := ⟨⟨by decide +kernel, by decide +kernel⟩, List.mem_of_getElem? (i := 1249) (by decide +kernel), List.mem_of_getElem? (i := 1515) (by decide +kernel), List.mem_of_getElem? (i := 1516) (by decide +kernel)⟩
theorem lw_p14 : lw_okq (⟨"NameBoardModel", "is", "(Ljava/lang/String;)Z"⟩, 52) := ⟨⟨by decide +kernel, by decide +kernel⟩, List.mem_of_getElem? (i := 1249) (by decide +kernel), List.mem_of_getElem? (i := 1520) (by decide +kernel), List.mem_of_getElem? (i := 1521) (by decide +kernel)⟩
theorem lw_p15 : lw_okq (⟨"NameBoardModel", "isRuleWord", "()Z"⟩, 52) := ⟨⟨by decide +kernel, by decide +kernel⟩, List.mem_of_getElem? (i := 1249) (by decide +kernel), List.mem_of_getElem? (i := 1526) (by decide +kernel), List.mem_of_getElem? (i := 1527) (by decide +kernel)⟩
def lw_privs_1 : List (MethodName × Nat) := [(⟨"NameBoard", "countPeople", "(JJJ)I"⟩, 10), (⟨"NameBoard", "taken", "(I)I"⟩, 10), (⟨"NameBoard", "rowsHad", "()I"⟩, 10), (⟨"NameBoard", "liesInRow", "(III)Z"⟩, 10), (⟨"NameBoardModel", "now", "()I"⟩, 52), (⟨"NameBoardModel", "isPlace", "(I)Z"⟩, 52), (⟨"NameBoardModel", "looks", "(I)V"⟩, 52), (⟨"NameBoardModel", "addsUp", "()V"⟩, 52), (⟨"NameBoardModel", "allOf", "(I)I"⟩, 52), (⟨"NameBoardModel", "isLetters", "(I)Z"⟩, 52), (⟨"NameBoardModel", "begins", "(Z)V"⟩, 52), (⟨"NameBoardModel", "next", "()V"⟩, 52), (⟨"NameBoardModel", "see", "(I)I"⟩, 52), (⟨"NameBoardModel", "good", "()Z"⟩, 52), (⟨"NameBoardModel", "is", "(Ljava/lang/String;)Z"⟩, 52), (⟨"NameBoardModel", "isRuleWord", "()Z"⟩, 52)]
theorem lw_r1 : ∀ q ∈ lw_privs_1, lw_okq q := List.forall_mem_cons.mpr ⟨lw_p0, List.forall_mem_cons.mpr ⟨lw_p1, List.forall_mem_cons.mpr ⟨lw_p2, List.forall_mem_cons.mpr ⟨lw_p3, List.forall_mem_cons.mpr ⟨lw_p4, List.forall_mem_cons.mpr ⟨lw_p5, List.forall_mem_cons.mpr ⟨lw_p6, List.forall_mem_cons.mpr ⟨lw_p7, List.forall_mem_cons.mpr ⟨lw_p8, List.forall_mem_cons.mpr ⟨lw_p9, List.forall_mem_cons.mpr ⟨lw_p10, List.forall_mem_cons.mpr ⟨lw_p11, List.forall_mem_cons.mpr ⟨lw_p12, List.forall_mem_cons.mpr ⟨lw_p13, List.forall_mem_cons.mpr ⟨lw_p14, List.forall_mem_cons.mpr ⟨lw_p15, fun _ h => absurd h List.not_mem_nil⟩⟩⟩⟩⟩⟩⟩⟩⟩⟩⟩⟩⟩⟩⟩⟩
theorem lw_p16 : lw_okq (⟨"NameBoardModel", "wrong", "(I)V"⟩, 52) := ⟨⟨by decide +kernel, by decide +kernel⟩, List.mem_of_getElem? (i := 1249) (by decide +kernel), List.mem_of_getElem? (i := 1530) (by decide +kernel), List.mem_of_getElem? (i := 1531) (by decide +kernel)⟩
theorem lw_p17 : lw_okq (⟨"NameBoardModel", "rule", "(I)V"⟩, 52) := ⟨⟨by decide +kernel, by decide +kernel⟩, List.mem_of_getElem? (i := 1249) (by decide +kernel), List.mem_of_getElem? (i := 1534) (by decide +kernel), List.mem_of_getElem? (i := 1535) (by decide +kernel)⟩
theorem lw_p18 : lw_okq (⟨"NameBoardModel", "takes", "(Ljava/lang/String;)Z"⟩, 52) := ⟨⟨by decide +kernel, by decide +kernel⟩, List.mem_of_getElem? (i := 1249) (by decide +kernel), List.mem_of_getElem? (i := 1538) (by decide +kernel), List.mem_of_getElem? (i := 1539) (by decide +kernel)⟩
theorem lw_p19 : lw_okq (⟨"NameBoardModel", "set", "(I)V"⟩, 52) := ⟨⟨by decide +kernel, by decide +kernel⟩, List.mem_of_getElem? (i := 1249) (by decide +kernel), List.mem_of_getElem? (i := 1542) (by decide +kernel), List.mem_of_getElem? (i := 1543) (by decide +kernel)⟩
theorem lw_p20 : lw_okq (⟨"NameBoardModel", "isSign", "(I)Z"⟩, 52) := ⟨⟨by decide +kernel, by decide +kernel⟩, List.mem_of_getElem? (i := 1249) (by decide +kernel), List.mem_of_getElem? (i := 1546) (by decide +kernel), List.mem_of_getElem? (i := 1547) (by decide +kernel)⟩
theorem lw_p21 : lw_okq (⟨"NameBoardModel", "ruleWord", "(I)V"⟩, 52) := ⟨⟨by decide +kernel, by decide +kernel⟩, List.mem_of_getElem? (i := 1249) (by decide +kernel), List.mem_of_getElem? (i := 1551) (by decide +kernel), List.mem_of_getElem? (i := 1552) (by decide +kernel)⟩
theorem lw_p22 : lw_okq (⟨"NameBoardModel", "needSign", "(I)V"⟩, 52) := ⟨⟨by decide +kernel, by decide +kernel⟩, List.mem_of_getElem? (i := 1249) (by decide +kernel), List.mem_of_getElem? (i := 1555) (by decide +kernel), List.mem_of_getElem? (i := 1556) (by decide +kernel)⟩
theorem lw_p23 : lw_okq (⟨"NameBoardModel", "isName", "(I)Z"⟩, 52) := ⟨⟨by decide +kernel, by decide +kernel⟩, List.mem_of_getElem? (i := 1249) (by decide +kernel), List.mem_of_getElem? (i := 1563) (by decide +kernel), List.mem_of_getElem? (i := 1564) (by decide +kernel)⟩
theorem lw_p24 : lw_okq (⟨"NameBoardModel", "spells", "(II)V"⟩, 52) := ⟨⟨by decide +kernel, by decide +kernel⟩, List.mem_of_getElem? (i := 1249) (by decide +kernel), List.mem_of_getElem? (i := 1567) (by decide +kernel), List.mem_of_getElem? (i := 1568) (by decide +kernel)⟩
theorem lw_p25 : lw_okq (⟨"NameBoardModel", "nameIs", "(II)I"⟩, 52) := ⟨⟨by decide +kernel, by decide +kernel⟩, List.mem_of_getElem? (i := 1249) (by decide +kernel), List.mem_of_getElem? (i := 1571) (by decide +kernel), List.mem_of_getElem? (i := 1572) (by decide +kernel)⟩
theorem lw_p26 : lw_okq (⟨"NameBoardModel", "spellingOf", "(II)I"⟩, 52) := ⟨⟨by decide +kernel, by decide +kernel⟩, List.mem_of_getElem? (i := 1249) (by decide +kernel), List.mem_of_getElem? (i := 1575) (by decide +kernel), List.mem_of_getElem? (i := 1576) (by decide +kernel)⟩
theorem lw_p27 : lw_okq (⟨"NameBoardModel", "fits", "(IIII)Z"⟩, 52) := ⟨⟨by decide +kernel, by decide +kernel⟩, List.mem_of_getElem? (i := 1249) (by decide +kernel), List.mem_of_getElem? (i := 1579) (by decide +kernel), List.mem_of_getElem? (i := 1580) (by decide +kernel)⟩
theorem lw_p28 : lw_okq (⟨"NameBoardModel", "lays", "(II)V"⟩, 52) := ⟨⟨by decide +kernel, by decide +kernel⟩, List.mem_of_getElem? (i := 1249) (by decide +kernel), List.mem_of_getElem? (i := 1586) (by decide +kernel), List.mem_of_getElem? (i := 1587) (by decide +kernel)⟩
theorem lw_p29 : lw_okq (⟨"NameBoardModel", "takesInHand", "()I"⟩, 52) := ⟨⟨by decide +kernel, by decide +kernel⟩, List.mem_of_getElem? (i := 1249) (by decide +kernel), List.mem_of_getElem? (i := 1590) (by decide +kernel), List.mem_of_getElem? (i := 1591) (by decide +kernel)⟩
theorem lw_p30 : lw_okq (⟨"NameBoardModel", "holds", "()V"⟩, 52) := ⟨⟨by decide +kernel, by decide +kernel⟩, List.mem_of_getElem? (i := 1249) (by decide +kernel), List.mem_of_getElem? (i := 1606) (by decide +kernel), List.mem_of_getElem? (i := 1607) (by decide +kernel)⟩
theorem lw_p31 : lw_okq (⟨"NameBoardModel", "isAlike", "()Z"⟩, 52) := ⟨⟨by decide +kernel, by decide +kernel⟩, List.mem_of_getElem? (i := 1249) (by decide +kernel), List.mem_of_getElem? (i := 1610) (by decide +kernel), List.mem_of_getElem? (i := 1611) (by decide +kernel)⟩
def lw_privs_2 : List (MethodName × Nat) := [(⟨"NameBoardModel", "wrong", "(I)V"⟩, 52), (⟨"NameBoardModel", "rule", "(I)V"⟩, 52), (⟨"NameBoardModel", "takes", "(Ljava/lang/String;)Z"⟩, 52), (⟨"NameBoardModel", "set", "(I)V"⟩, 52), (⟨"NameBoardModel", "isSign", "(I)Z"⟩, 52), (⟨"NameBoardModel", "ruleWord", "(I)V"⟩, 52), (⟨"NameBoardModel", "needSign", "(I)V"⟩, 52), (⟨"NameBoardModel", "isName", "(I)Z"⟩, 52), (⟨"NameBoardModel", "spells", "(II)V"⟩, 52), (⟨"NameBoardModel", "nameIs", "(II)I"⟩, 52), (⟨"NameBoardModel", "spellingOf", "(II)I"⟩, 52), (⟨"NameBoardModel", "fits", "(IIII)Z"⟩, 52), (⟨"NameBoardModel", "lays", "(II)V"⟩, 52), (⟨"NameBoardModel", "takesInHand", "()I"⟩, 52), (⟨"NameBoardModel", "holds", "()V"⟩, 52), (⟨"NameBoardModel", "isAlike", "()Z"⟩, 52)]
theorem lw_r2 : ∀ q ∈ lw_privs_2, lw_okq q := List.forall_mem_cons.mpr ⟨lw_p16, List.forall_mem_cons.mpr ⟨lw_p17, List.forall_mem_cons.mpr ⟨lw_p18, List.forall_mem_cons.mpr ⟨lw_p19, List.forall_mem_cons.mpr ⟨lw_p20, List.forall_mem_cons.mpr ⟨lw_p21, List.forall_mem_cons.mpr ⟨lw_p22, List.forall_mem_cons.mpr ⟨lw_p23, List.forall_mem_cons.mpr ⟨lw_p24, List.forall_mem_cons.mpr ⟨lw_p25, List.forall_mem_cons.mpr ⟨lw_p26, List.forall_mem_cons.mpr ⟨lw_p27, List.forall_mem_cons.mpr ⟨lw_p28, List.forall_mem_cons.mpr ⟨lw_p29, List.forall_mem_cons.mpr ⟨lw_p30, List.forall_mem_cons.mpr ⟨lw_p31, fun _ h => absurd h List.not_mem_nil⟩⟩⟩⟩⟩⟩⟩⟩⟩⟩⟩⟩⟩⟩⟩⟩
theorem lw_p32 : lw_okq (⟨"NameBoardModel", "editsOf", "(III)I"⟩, 52) := ⟨⟨by decide +kernel, by decide +kernel⟩, List.mem_of_getElem? (i := 1249) (by decide +kernel), List.mem_of_getElem? (i := 1618) (by decide +kernel), List.mem_of_getElem? (i := 1619) (by decide +kernel)⟩
theorem lw_p33 : lw_okq (⟨"NameBoardModel", "apart", "()I"⟩, 52) := ⟨⟨by decide +kernel, by decide +kernel⟩, List.mem_of_getElem? (i := 1249) (by decide +kernel), List.mem_of_getElem? (i := 1622) (by decide +kernel), List.mem_of_getElem? (i := 1623) (by decide +kernel)⟩
theorem lw_p34 : lw_okq (⟨"NameBoardModel", "sortHere", "()I"⟩, 52) := ⟨⟨by decide +kernel, by decide +kernel⟩, List.mem_of_getElem? (i := 1249) (by decide +kernel), List.mem_of_getElem? (i := 1630) (by decide +kernel), List.mem_of_getElem? (i := 1631) (by decide +kernel)⟩
theorem lw_p35 : lw_okq (⟨"NameBoardModel", "line", "(I)V"⟩, 52) := ⟨⟨by decide +kernel, by decide +kernel⟩, List.mem_of_getElem? (i := 1249) (by decide +kernel), List.mem_of_getElem? (i := 1640) (by decide +kernel), List.mem_of_getElem? (i := 1641) (by decide +kernel)⟩
theorem lw_p36 : lw_okq (⟨"NameBoardModel", "number", "(I)I"⟩, 52) := ⟨⟨by decide +kernel, by decide +kernel⟩, List.mem_of_getElem? (i := 1249) (by decide +kernel), List.mem_of_getElem? (i := 1644) (by decide +kernel), List.mem_of_getElem? (i := 1645) (by decide +kernel)⟩
theorem lw_p37 : lw_okq (⟨"NameBoardModel", "cond", "(I)V"⟩, 52) := ⟨⟨by decide +kernel, by decide +kernel⟩, List.mem_of_getElem? (i := 1249) (by decide +kernel), List.mem_of_getElem? (i := 1650) (by decide +kernel), List.mem_of_getElem? (i := 1651) (by decide +kernel)⟩
theorem lw_p38 : lw_okq (⟨"NameBoardModel", "factHere", "()I"⟩, 52) := ⟨⟨by decide +kernel, by decide +kernel⟩, List.mem_of_getElem? (i := 1249) (by decide +kernel), List.mem_of_getElem? (i := 1655) (by decide +kernel), List.mem_of_getElem? (i := 1656) (by decide +kernel)⟩
theorem lw_p39 : lw_okq (⟨"NameBoardModel", "tongueHere", "()I"⟩, 52) := ⟨⟨by decide +kernel, by decide +kernel⟩, List.mem_of_getElem? (i := 1249) (by decide +kernel), List.mem_of_getElem? (i := 1663) (by decide +kernel), List.mem_of_getElem? (i := 1664) (by decide +kernel)⟩
theorem lw_p40 : lw_okq (⟨"NameBoardModel", "firstOf", "(III)I"⟩, 52) := ⟨⟨by decide +kernel, by decide +kernel⟩, List.mem_of_getElem? (i := 1249) (by decide +kernel), List.mem_of_getElem? (i := 1672) (by decide +kernel), List.mem_of_getElem? (i := 1673) (by decide +kernel)⟩
theorem lw_p41 : lw_okq (⟨"NameBoardModel", "actOf", "(I)I"⟩, 52) := ⟨⟨by decide +kernel, by decide +kernel⟩, List.mem_of_getElem? (i := 1249) (by decide +kernel), List.mem_of_getElem? (i := 1676) (by decide +kernel), List.mem_of_getElem? (i := 1677) (by decide +kernel)⟩
theorem lw_p42 : lw_okq (⟨"NameBoardModel", "holdFor", "(III)Z"⟩, 52) := ⟨⟨by decide +kernel, by decide +kernel⟩, List.mem_of_getElem? (i := 1249) (by decide +kernel), List.mem_of_getElem? (i := 1680) (by decide +kernel), List.mem_of_getElem? (i := 1681) (by decide +kernel)⟩
theorem lw_p43 : lw_okq (⟨"NameBoardModel", "partsOf", "(I)I"⟩, 52) := ⟨⟨by decide +kernel, by decide +kernel⟩, List.mem_of_getElem? (i := 1249) (by decide +kernel), List.mem_of_getElem? (i := 1684) (by decide +kernel), List.mem_of_getElem? (i := 1685) (by decide +kernel)⟩
theorem lw_p44 : lw_okq (⟨"NameBoardModel", "most", "(II)I"⟩, 52) := ⟨⟨by decide +kernel, by decide +kernel⟩, List.mem_of_getElem? (i := 1249) (by decide +kernel), List.mem_of_getElem? (i := 1688) (by decide +kernel), List.mem_of_getElem? (i := 1689) (by decide +kernel)⟩
theorem lw_p45 : lw_okq (⟨"NameBoardModel", "besideOf", "(III)I"⟩, 52) := ⟨⟨by decide +kernel, by decide +kernel⟩, List.mem_of_getElem? (i := 1249) (by decide +kernel), List.mem_of_getElem? (i := 1696) (by decide +kernel), List.mem_of_getElem? (i := 1697) (by decide +kernel)⟩
theorem lw_p46 : lw_okq (⟨"NameBoardModel", "hearing", "(I)I"⟩, 52) := ⟨⟨by decide +kernel, by decide +kernel⟩, List.mem_of_getElem? (i := 1249) (by decide +kernel), List.mem_of_getElem? (i := 1708) (by decide +kernel), List.mem_of_getElem? (i := 1709) (by decide +kernel)⟩
theorem lw_p47 : lw_okq (⟨"NameBoardModel", "isHearing", "(I)Z"⟩, 52) := ⟨⟨by decide +kernel, by decide +kernel⟩, List.mem_of_getElem? (i := 1249) (by decide +kernel), List.mem_of_getElem? (i := 1716) (by decide +kernel), List.mem_of_getElem? (i := 1717) (by decide +kernel)⟩
def lw_privs_3 : List (MethodName × Nat) := [(⟨"NameBoardModel", "editsOf", "(III)I"⟩, 52), (⟨"NameBoardModel", "apart", "()I"⟩, 52), (⟨"NameBoardModel", "sortHere", "()I"⟩, 52), (⟨"NameBoardModel", "line", "(I)V"⟩, 52), (⟨"NameBoardModel", "number", "(I)I"⟩, 52), (⟨"NameBoardModel", "cond", "(I)V"⟩, 52), (⟨"NameBoardModel", "factHere", "()I"⟩, 52), (⟨"NameBoardModel", "tongueHere", "()I"⟩, 52), (⟨"NameBoardModel", "firstOf", "(III)I"⟩, 52), (⟨"NameBoardModel", "actOf", "(I)I"⟩, 52), (⟨"NameBoardModel", "holdFor", "(III)Z"⟩, 52), (⟨"NameBoardModel", "partsOf", "(I)I"⟩, 52), (⟨"NameBoardModel", "most", "(II)I"⟩, 52), (⟨"NameBoardModel", "besideOf", "(III)I"⟩, 52), (⟨"NameBoardModel", "hearing", "(I)I"⟩, 52), (⟨"NameBoardModel", "isHearing", "(I)Z"⟩, 52)]
theorem lw_r3 : ∀ q ∈ lw_privs_3, lw_okq q := List.forall_mem_cons.mpr ⟨lw_p32, List.forall_mem_cons.mpr ⟨lw_p33, List.forall_mem_cons.mpr ⟨lw_p34, List.forall_mem_cons.mpr ⟨lw_p35, List.forall_mem_cons.mpr ⟨lw_p36, List.forall_mem_cons.mpr ⟨lw_p37, List.forall_mem_cons.mpr ⟨lw_p38, List.forall_mem_cons.mpr ⟨lw_p39, List.forall_mem_cons.mpr ⟨lw_p40, List.forall_mem_cons.mpr ⟨lw_p41, List.forall_mem_cons.mpr ⟨lw_p42, List.forall_mem_cons.mpr ⟨lw_p43, List.forall_mem_cons.mpr ⟨lw_p44, List.forall_mem_cons.mpr ⟨lw_p45, List.forall_mem_cons.mpr ⟨lw_p46, List.forall_mem_cons.mpr ⟨lw_p47, fun _ h => absurd h List.not_mem_nil⟩⟩⟩⟩⟩⟩⟩⟩⟩⟩⟩⟩⟩⟩⟩⟩
theorem lw_p48 : lw_okq (⟨"NameBoardModel", "termOf", "(III)I"⟩, 52) := ⟨⟨by decide +kernel, by decide +kernel⟩, List.mem_of_getElem? (i := 1249) (by decide +kernel), List.mem_of_getElem? (i := 1725) (by decide +kernel), List.mem_of_getElem? (i := 1726) (by decide +kernel)⟩
theorem lw_p49 : lw_okq (⟨"NameBoardModel", "isTooAlike", "(I)Z"⟩, 52) := ⟨⟨by decide +kernel, by decide +kernel⟩, List.mem_of_getElem? (i := 1249) (by decide +kernel), List.mem_of_getElem? (i := 1729) (by decide +kernel), List.mem_of_getElem? (i := 1730) (by decide +kernel)⟩
theorem lw_p50 : lw_okq (⟨"NameBoardModel", "isNear", "(III)Z"⟩, 52) := ⟨⟨by decide +kernel, by decide +kernel⟩, List.mem_of_getElem? (i := 1249) (by decide +kernel), List.mem_of_getElem? (i := 1733) (by decide +kernel), List.mem_of_getElem? (i := 1734) (by decide +kernel)⟩
theorem lw_p51 : lw_okq (⟨"NameBoardModel", "settledOf", "(III)I"⟩, 52) := ⟨⟨by decide +kernel, by decide +kernel⟩, List.mem_of_getElem? (i := 1249) (by decide +kernel), List.mem_of_getElem? (i := 1737) (by decide +kernel), List.mem_of_getElem? (i := 1738) (by decide +kernel)⟩
theorem lw_p52 : lw_okq (⟨"NameBoardModel", "event", "(III)V"⟩, 52) := ⟨⟨by decide +kernel, by decide +kernel⟩, List.mem_of_getElem? (i := 1249) (by decide +kernel), List.mem_of_getElem? (i := 1741) (by decide +kernel), List.mem_of_getElem? (i := 1742) (by decide +kernel)⟩
theorem lw_p53 : lw_okq (⟨"NameBoardModel", "shows", "(III)V"⟩, 52) := ⟨⟨by decide +kernel, by decide +kernel⟩, List.mem_of_getElem? (i := 1249) (by decide +kernel), List.mem_of_getElem? (i := 1757) (by decide +kernel), List.mem_of_getElem? (i := 1758) (by decide +kernel)⟩
theorem lw_p54 : lw_okq (⟨"NameBoardModel", "isSign0", "(I)Z"⟩, 52) := ⟨⟨by decide +kernel, by decide +kernel⟩, List.mem_of_getElem? (i := 1249) (by decide +kernel), List.mem_of_getElem? (i := 1770) (by decide +kernel), List.mem_of_getElem? (i := 1771) (by decide +kernel)⟩
theorem lw_p55 : lw_okq (⟨"NameBoardModel", "signIs", "(II)I"⟩, 52) := ⟨⟨by decide +kernel, by decide +kernel⟩, List.mem_of_getElem? (i := 1249) (by decide +kernel), List.mem_of_getElem? (i := 1779) (by decide +kernel), List.mem_of_getElem? (i := 1780) (by decide +kernel)⟩
theorem lw_p56 : lw_okq (⟨"NameBoardModel", "isLame", "(I)Z"⟩, 52) := ⟨⟨by decide +kernel, by decide +kernel⟩, List.mem_of_getElem? (i := 1249) (by decide +kernel), List.mem_of_getElem? (i := 1783) (by decide +kernel), List.mem_of_getElem? (i := 1784) (by decide +kernel)⟩
theorem lw_p57 : lw_okq (⟨"NameBoardModel", "lameSince", "(I)I"⟩, 52) := ⟨⟨by decide +kernel, by decide +kernel⟩, List.mem_of_getElem? (i := 1249) (by decide +kernel), List.mem_of_getElem? (i := 1787) (by decide +kernel), List.mem_of_getElem? (i := 1788) (by decide +kernel)⟩
theorem lw_p58 : lw_okq (⟨"NameBoardModel", "leastOf", "(I)I"⟩, 52) := ⟨⟨by decide +kernel, by decide +kernel⟩, List.mem_of_getElem? (i := 1249) (by decide +kernel), List.mem_of_getElem? (i := 1796) (by decide +kernel), List.mem_of_getElem? (i := 1797) (by decide +kernel)⟩
theorem lw_p59 : lw_okq (⟨"NameBoardModel", "mayBe", "(III)Z"⟩, 52) := ⟨⟨by decide +kernel, by decide +kernel⟩, List.mem_of_getElem? (i := 1249) (by decide +kernel), List.mem_of_getElem? (i := 1801) (by decide +kernel), List.mem_of_getElem? (i := 1802) (by decide +kernel)⟩
theorem lw_p60 : lw_okq (⟨"NameBoardModel", "bits", "(I)I"⟩, 52) := ⟨⟨by decide +kernel, by decide +kernel⟩, List.mem_of_getElem? (i := 1249) (by decide +kernel), List.mem_of_getElem? (i := 1805) (by decide +kernel), List.mem_of_getElem? (i := 1806) (by decide +kernel)⟩
theorem lw_p61 : lw_okq (⟨"NameBoardModel", "hasName", "(I)Z"⟩, 52) := ⟨⟨by decide +kernel, by decide +kernel⟩, List.mem_of_getElem? (i := 1249) (by decide +kernel), List.mem_of_getElem? (i := 1826) (by decide +kernel), List.mem_of_getElem? (i := 1827) (by decide +kernel)⟩
theorem lw_p62 : lw_okq (⟨"NameBoardModel", "givesOf", "(II)I"⟩, 52) := ⟨⟨by decide +kernel, by decide +kernel⟩, List.mem_of_getElem? (i := 1249) (by decide +kernel), List.mem_of_getElem? (i := 1830) (by decide +kernel), List.mem_of_getElem? (i := 1831) (by decide +kernel)⟩
theorem lw_p63 : lw_okq (⟨"NameBoardModel", "joins", "(III)V"⟩, 52) := ⟨⟨by decide +kernel, by decide +kernel⟩, List.mem_of_getElem? (i := 1249) (by decide +kernel), List.mem_of_getElem? (i := 1835) (by decide +kernel), List.mem_of_getElem? (i := 1836) (by decide +kernel)⟩
def lw_privs_4 : List (MethodName × Nat) := [(⟨"NameBoardModel", "termOf", "(III)I"⟩, 52), (⟨"NameBoardModel", "isTooAlike", "(I)Z"⟩, 52), (⟨"NameBoardModel", "isNear", "(III)Z"⟩, 52), (⟨"NameBoardModel", "settledOf", "(III)I"⟩, 52), (⟨"NameBoardModel", "event", "(III)V"⟩, 52), (⟨"NameBoardModel", "shows", "(III)V"⟩, 52), (⟨"NameBoardModel", "isSign0", "(I)Z"⟩, 52), (⟨"NameBoardModel", "signIs", "(II)I"⟩, 52), (⟨"NameBoardModel", "isLame", "(I)Z"⟩, 52), (⟨"NameBoardModel", "lameSince", "(I)I"⟩, 52), (⟨"NameBoardModel", "leastOf", "(I)I"⟩, 52), (⟨"NameBoardModel", "mayBe", "(III)Z"⟩, 52), (⟨"NameBoardModel", "bits", "(I)I"⟩, 52), (⟨"NameBoardModel", "hasName", "(I)Z"⟩, 52), (⟨"NameBoardModel", "givesOf", "(II)I"⟩, 52), (⟨"NameBoardModel", "joins", "(III)V"⟩, 52)]
theorem lw_r4 : ∀ q ∈ lw_privs_4, lw_okq q := List.forall_mem_cons.mpr ⟨lw_p48, List.forall_mem_cons.mpr ⟨lw_p49, List.forall_mem_cons.mpr ⟨lw_p50, List.forall_mem_cons.mpr ⟨lw_p51, List.forall_mem_cons.mpr ⟨lw_p52, List.forall_mem_cons.mpr ⟨lw_p53, List.forall_mem_cons.mpr ⟨lw_p54, List.forall_mem_cons.mpr ⟨lw_p55, List.forall_mem_cons.mpr ⟨lw_p56, List.forall_mem_cons.mpr ⟨lw_p57, List.forall_mem_cons.mpr ⟨lw_p58, List.forall_mem_cons.mpr ⟨lw_p59, List.forall_mem_cons.mpr ⟨lw_p60, List.forall_mem_cons.mpr ⟨lw_p61, List.forall_mem_cons.mpr ⟨lw_p62, List.forall_mem_cons.mpr ⟨lw_p63, fun _ h => absurd h List.not_mem_nil⟩⟩⟩⟩⟩⟩⟩⟩⟩⟩⟩⟩⟩⟩⟩⟩
theorem lw_p64 : lw_okq (⟨"NameBoardModel", "settledNow", "()I"⟩, 52) := ⟨⟨by decide +kernel, by decide +kernel⟩, List.mem_of_getElem? (i := 1249) (by decide +kernel), List.mem_of_getElem? (i := 1847) (by decide +kernel), List.mem_of_getElem? (i := 1848) (by decide +kernel)⟩
def lw_privs_5 : List (MethodName × Nat) := [(⟨"NameBoardModel", "settledNow", "()I"⟩, 52)]
theorem lw_r5 : ∀ q ∈ lw_privs_5, lw_okq q := List.forall_mem_cons.mpr ⟨lw_p64, fun _ h => absurd h List.not_mem_nil⟩
def lw_privs : List (MethodName × Nat) := lw_privs_1 ++ (lw_privs_2 ++ (lw_privs_3 ++ (lw_privs_4 ++ (lw_privs_5))))
def lw_tbl : List Cond := k2_sels lw_privs ++ tables_1
theorem lw_privs_ok : ∀ q ∈ lw_privs, lw_okq q := by
  show ∀ q ∈ lw_privs_1 ++ (lw_privs_2 ++ (lw_privs_3 ++ (lw_privs_4 ++ (lw_privs_5)))), lw_okq q
  exact List.forall_mem_append.mpr ⟨lw_r1, List.forall_mem_append.mpr ⟨lw_r2, List.forall_mem_append.mpr ⟨lw_r3, List.forall_mem_append.mpr ⟨lw_r4, lw_r5⟩⟩⟩⟩
-- ===== end of PART A; then your names; then what follows =====
def RX0 : String := "NameBoard$Acts"
def TX0 : u_T := fun k => match k with
  | 0 => ("NameBoard$Acts", "acts", "I", false)
  | 1 => ("NameBoard$Acts", "years", "[I", true)
  | 2 => ("NameBoard$Acts", "lines", "[I", true)
  | 3 => ("NameBoard$Acts", "looksAtYear", "[Z", true)
  | 4 => ("NameBoard$Acts", "kinds", "[I", true)
  | 5 => ("NameBoard$Acts", "numbers", "[I", true)
  | 6 => ("NameBoard$Acts", "aparts", "[I", true)
  | 7 => ("NameBoard$Acts", "conds", "[I", true)
  | 8 => ("NameBoard$Acts", "condNots", "[Z", true)
  | 9 => ("NameBoard$Acts", "condFacts", "[I", true)
  | 10 => ("NameBoard$Acts", "condSides", "[I", true)
  | _ => ("NameBoard$Acts", "condNumbers", "[I", true)
def tyX0 : Nat → FieldType := fun k => match k with
  | 0 => .int
  | 1 => .array .int
  | 2 => .array .int
  | 3 => .array .boolean
  | 4 => .array .int
  | 5 => .array .int
  | 6 => .array .int
  | 7 => .array .int
  | 8 => .array .boolean
  | 9 => .array .int
  | 10 => .array .int
  | _ => .array .int
abbrev wsX00 : List Cond := u_ws RX0 TX0 12
theorem nmX0 : ∀ a, a < 12 → ∀ b, b < 12 → a ≠ b → (TX0 a).2.1 ≠ (TX0 b).2.1 := by decide +kernel
theorem tyX0_ok : ∀ k, k < 12 → parseFieldDescriptor (TX0 k).2.2.1 = some (tyX0 k) := by decide +kernel
abbrev cX0_init : ByteArray := prog_2_method_1_code
def yX0_init : MethodName := ⟨RX0, "<init>", "()V"⟩
abbrev cX0_readAct : ByteArray := prog_2_method_2_code
def yX0_readAct : MethodName := ⟨RX0, "readAct", "(LNameBoard$Tape;I)I"⟩
abbrev cX0_kindOfLine : ByteArray := prog_2_method_3_code
def yX0_kindOfLine : MethodName := ⟨RX0, "kindOfLine", "(LNameBoard$Tape;)I"⟩
abbrev cX0_readLine : ByteArray := prog_2_method_4_code
def yX0_readLine : MethodName := ⟨RX0, "readLine", "(LNameBoard$Tape;II)V"⟩
abbrev cX0_readHead : ByteArray := prog_2_method_5_code
def yX0_readHead : MethodName := ⟨RX0, "readHead", "(LNameBoard$Tape;II)V"⟩
abbrev cX0_factOf : ByteArray := prog_2_method_6_code
def yX0_factOf : MethodName := ⟨RX0, "factOf", "(LNameBoard$Tape;)I"⟩
abbrev cX0_readCond : ByteArray := prog_2_method_7_code
def yX0_readCond : MethodName := ⟨RX0, "readCond", "(LNameBoard$Tape;I)V"⟩
abbrev cX0_inForce : ByteArray := prog_2_method_8_code
def yX0_inForce : MethodName := ⟨RX0, "inForce", "(I)I"⟩
abbrev cX0_dependsOnYear : ByteArray := prog_2_method_9_code
def yX0_dependsOnYear : MethodName := ⟨RX0, "dependsOnYear", "(I)Z"⟩
abbrev cX0_firstHolding : ByteArray := prog_2_method_10_code
def yX0_firstHolding : MethodName := ⟨RX0, "firstHolding", "(II[I)I"⟩
abbrev cX0_holds : ByteArray := prog_2_method_11_code
def yX0_holds : MethodName := ⟨RX0, "holds", "(I[I)Z"⟩
abbrev cX0_lastLine : ByteArray := prog_2_method_12_code
def yX0_lastLine : MethodName := ⟨RX0, "lastLine", "(II)I"⟩
abbrev cX0_numberOf : ByteArray := prog_2_method_13_code
def yX0_numberOf : MethodName := ⟨RX0, "numberOf", "(III)I"⟩
abbrev cX0_copyFrom : ByteArray := prog_2_method_14_code
def yX0_copyFrom : MethodName := ⟨RX0, "copyFrom", "(LNameBoard$Acts;)V"⟩
def RX1 : String := "NameBoard$Board"
def TX1 : u_T := fun k => match k with
  | 0 => ("NameBoard$Board", "hearings", "I", false)
  | 1 => ("NameBoard$Board", "names", "[I", true)
  | 2 => ("NameBoard$Board", "places", "[I", true)
  | 3 => ("NameBoard$Board", "isOpen", "[Z", true)
  | 4 => ("NameBoard$Board", "voted", "[I", true)
  | 5 => ("NameBoard$Board", "votedFor", "[I", true)
  | 6 => ("NameBoard$Board", "settlings", "I", false)
  | 7 => ("NameBoard$Board", "settledNames", "[I", true)
  | 8 => ("NameBoard$Board", "settledPlaces", "[I", true)
  | 9 => ("NameBoard$Board", "settledTongues", "[I", true)
  | 10 => ("NameBoard$Board", "settledYears", "[I", true)
  | _ => ("NameBoard$Board", "undoneYears", "[I", true)
def tyX1 : Nat → FieldType := fun k => match k with
  | 0 => .int
  | 1 => .array .int
  | 2 => .array .int
  | 3 => .array .boolean
  | 4 => .array .int
  | 5 => .array .int
  | 6 => .int
  | 7 => .array .int
  | 8 => .array .int
  | 9 => .array .int
  | 10 => .array .int
  | _ => .array .int
abbrev wsX10 : List Cond := u_ws RX1 TX1 12
theorem nmX1 : ∀ a, a < 12 → ∀ b, b < 12 → a ≠ b → (TX1 a).2.1 ≠ (TX1 b).2.1 := by decide +kernel
theorem tyX1_ok : ∀ k, k < 12 → parseFieldDescriptor (TX1 k).2.2.1 = some (tyX1 k) := by decide +kernel
abbrev cX1_init : ByteArray := prog_3_method_1_code
def yX1_init : MethodName := ⟨RX1, "<init>", "()V"⟩
abbrev cX1_has : ByteArray := prog_3_method_2_code
def yX1_has : MethodName := ⟨RX1, "has", "(I)Z"⟩
abbrev cX1_open : ByteArray := prog_3_method_3_code
def yX1_open : MethodName := ⟨RX1, "open", "(II)I"⟩
abbrev cX1_cast : ByteArray := prog_3_method_4_code
def yX1_cast : MethodName := ⟨RX1, "cast", "(IIZ)V"⟩
abbrev cX1_tooFew : ByteArray := prog_3_method_5_code
def yX1_tooFew : MethodName := ⟨RX1, "tooFew", "(II)Z"⟩
abbrev cX1_settle : ByteArray := prog_3_method_6_code
def yX1_settle : MethodName := ⟨RX1, "settle", "(IIII)V"⟩
abbrev cX1_settlingAt : ByteArray := prog_3_method_7_code
def yX1_settlingAt : MethodName := ⟨RX1, "settlingAt", "(III)I"⟩
abbrev cX1_nameAt : ByteArray := prog_3_method_8_code
def yX1_nameAt : MethodName := ⟨RX1, "nameAt", "(III)I"⟩
abbrev cX1_namesAt : ByteArray := prog_3_method_9_code
def yX1_namesAt : MethodName := ⟨RX1, "namesAt", "(II)I"⟩
abbrev cX1_undoLast : ByteArray := prog_3_method_10_code
def yX1_undoLast : MethodName := ⟨RX1, "undoLast", "(III)Z"⟩
abbrev cX1_copyFrom : ByteArray := prog_3_method_11_code
def yX1_copyFrom : MethodName := ⟨RX1, "copyFrom", "(LNameBoard$Board;)V"⟩
def RX2 : String := "NameBoard$Land"
def TX2 : u_T := fun k => match k with
  | 0 => ("NameBoard$Land", "size", "I", false)
  | 1 => ("NameBoard$Land", "xs", "[I", true)
  | 2 => ("NameBoard$Land", "ys", "[I", true)
  | 3 => ("NameBoard$Land", "parts", "I", false)
  | 4 => ("NameBoard$Land", "partPlaces", "[I", true)
  | 5 => ("NameBoard$Land", "partOfs", "[I", true)
  | 6 => ("NameBoard$Land", "partYears", "[I", true)
  | 7 => ("NameBoard$Land", "counts", "I", false)
  | 8 => ("NameBoard$Land", "countCells", "[I", true)
  | 9 => ("NameBoard$Land", "countPeople", "[I", true)
  | _ => ("NameBoard$Land", "countYears", "[I", true)
def tyX2 : Nat → FieldType := fun k => match k with
  | 0 => .int
  | 1 => .array .int
  | 2 => .array .int
  | 3 => .int
  | 4 => .array .int
  | 5 => .array .int
  | 6 => .array .int
  | 7 => .int
  | 8 => .array .int
  | 9 => .array .int
  | _ => .array .int
abbrev wsX20 : List Cond := u_ws RX2 TX2 11
theorem nmX2 : ∀ a, a < 11 → ∀ b, b < 11 → a ≠ b → (TX2 a).2.1 ≠ (TX2 b).2.1 := by decide +kernel
theorem tyX2_ok : ∀ k, k < 11 → parseFieldDescriptor (TX2 k).2.2.1 = some (tyX2 k) := by decide +kernel
abbrev cX2_init : ByteArray := prog_4_method_1_code
def yX2_init : MethodName := ⟨RX2, "<init>", "()V"⟩
abbrev cX2_has : ByteArray := prog_4_method_2_code
def yX2_has : MethodName := ⟨RX2, "has", "(I)Z"⟩
abbrev cX2_addPlace : ByteArray := prog_4_method_3_code
def yX2_addPlace : MethodName := ⟨RX2, "addPlace", "(II)I"⟩
abbrev cX2_tellPart : ByteArray := prog_4_method_4_code
def yX2_tellPart : MethodName := ⟨RX2, "tellPart", "(III)Z"⟩
abbrev cX2_tellCount : ByteArray := prog_4_method_5_code
def yX2_tellCount : MethodName := ⟨RX2, "tellCount", "(IIII)Z"⟩
abbrev cX2_fillParents : ByteArray := prog_4_method_6_code
def yX2_fillParents : MethodName := ⟨RX2, "fillParents", "([II)V"⟩
abbrev cX2_fillOwn : ByteArray := prog_4_method_7_code
def yX2_fillOwn : MethodName := ⟨RX2, "fillOwn", "([II)V"⟩
abbrev cX2_areNear : ByteArray := prog_4_method_8_code
def yX2_areNear : MethodName := ⟨RX2, "areNear", "(III)Z"⟩
abbrev cX2_copyFrom : ByteArray := prog_4_method_9_code
def yX2_copyFrom : MethodName := ⟨RX2, "copyFrom", "(LNameBoard$Land;)V"⟩
def RX3 : String := "NameBoard$Paper"
def TX3 : u_T := fun k => match k with
  | 0 => ("NameBoard$Paper", "year", "I", false)
  | 1 => ("NameBoard$Paper", "size", "I", false)
  | 2 => ("NameBoard$Paper", "lengths", "[I", true)
  | 3 => ("NameBoard$Paper", "letters", "[B", true)
  | 4 => ("NameBoard$Paper", "joinedSize", "I", false)
  | 5 => ("NameBoard$Paper", "joined", "[I", true)
  | 6 => ("NameBoard$Paper", "choices", "I", false)
  | 7 => ("NameBoard$Paper", "places", "[I", true)
  | 8 => ("NameBoard$Paper", "gains", "[I", true)
  | _ => ("NameBoard$Paper", "most", "[I", false)
def tyX3 : Nat → FieldType := fun k => match k with
  | 0 => .int
  | 1 => .int
  | 2 => .array .int
  | 3 => .array .byte
  | 4 => .int
  | 5 => .array .int
  | 6 => .int
  | 7 => .array .int
  | 8 => .array .int
  | _ => .array .int
abbrev wsX30 : List Cond := u_ws RX3 TX3 10
theorem nmX3 : ∀ a, a < 10 → ∀ b, b < 10 → a ≠ b → (TX3 a).2.1 ≠ (TX3 b).2.1 := by decide +kernel
theorem tyX3_ok : ∀ k, k < 10 → parseFieldDescriptor (TX3 k).2.2.1 = some (tyX3 k) := by decide +kernel
abbrev cX3_init : ByteArray := prog_5_method_1_code
def yX3_init : MethodName := ⟨RX3, "<init>", "()V"⟩
abbrev cX3_add : ByteArray := prog_5_method_2_code
def yX3_add : MethodName := ⟨RX3, "add", "(LNameBoard$Tape;)Z"⟩
abbrev cX3_greatestSum : ByteArray := prog_5_method_3_code
def yX3_greatestSum : MethodName := ⟨RX3, "greatestSum", "(LNameBoard$State;LNameBoard$View;)I"⟩
abbrev cX3_choosePlaces : ByteArray := prog_5_method_4_code
def yX3_choosePlaces : MethodName := ⟨RX3, "choosePlaces", "(LNameBoard$State;)Z"⟩
abbrev cX3_fillGains : ByteArray := prog_5_method_5_code
def yX3_fillGains : MethodName := ⟨RX3, "fillGains", "(LNameBoard$State;LNameBoard$View;)V"⟩
abbrev cX3_fewestEdits : ByteArray := prog_5_method_6_code
def yX3_fewestEdits : MethodName := ⟨RX3, "fewestEdits", "(LNameBoard$State;LNameBoard$View;I)I"⟩
abbrev cX3_fillMost : ByteArray := prog_5_method_7_code
def yX3_fillMost : MethodName := ⟨RX3, "fillMost", "(LNameBoard$Land;)V"⟩
abbrev cX3_mostBehind : ByteArray := prog_5_method_8_code
def yX3_mostBehind : MethodName := ⟨RX3, "mostBehind", "(LNameBoard$Land;II)I"⟩
abbrev cX3_sumWith : ByteArray := prog_5_method_9_code
def yX3_sumWith : MethodName := ⟨RX3, "sumWith", "(LNameBoard$Land;III)I"⟩
abbrev cX3_takeFirst : ByteArray := prog_5_method_10_code
def yX3_takeFirst : MethodName := ⟨RX3, "takeFirst", "(LNameBoard$Land;)V"⟩
abbrev cX3_reaches : ByteArray := prog_5_method_11_code
def yX3_reaches : MethodName := ⟨RX3, "reaches", "(LNameBoard$Land;IIII)Z"⟩
def RX4 : String := "NameBoard$Planner"
def TX4 : u_T := fun k => match k with
  | 0 => ("NameBoard$Planner", "years", "[I", true)
  | 1 => ("NameBoard$Planner", "size", "I", false)
  | 2 => ("NameBoard$Planner", "signs", "[I", true)
  | 3 => ("NameBoard$Planner", "costs", "[I", true)
  | 4 => ("NameBoard$Planner", "delays", "[J", true)
  | _ => ("NameBoard$Planner", "keys", "[J", true)
def tyX4 : Nat → FieldType := fun k => match k with
  | 0 => .array .int
  | 1 => .int
  | 2 => .array .int
  | 3 => .array .int
  | 4 => .array .long
  | _ => .array .long
abbrev wsX40 : List Cond := u_ws RX4 TX4 6
theorem nmX4 : ∀ a, a < 6 → ∀ b, b < 6 → a ≠ b → (TX4 a).2.1 ≠ (TX4 b).2.1 := by decide +kernel
theorem tyX4_ok : ∀ k, k < 6 → parseFieldDescriptor (TX4 k).2.2.1 = some (tyX4 k) := by decide +kernel
abbrev cX4_init : ByteArray := prog_6_method_1_code
def yX4_init : MethodName := ⟨RX4, "<init>", "()V"⟩
abbrev cX4_begin : ByteArray := prog_6_method_2_code
def yX4_begin : MethodName := ⟨RX4, "begin", "()V"⟩
abbrev cX4_take : ByteArray := prog_6_method_3_code
def yX4_take : MethodName := ⟨RX4, "take", "(III)Z"⟩
abbrev cX4_leastSum : ByteArray := prog_6_method_4_code
def yX4_leastSum : MethodName := ⟨RX4, "leastSum", "(I)I"⟩
abbrev cX4_leastKey : ByteArray := prog_6_method_5_code
def yX4_leastKey : MethodName := ⟨RX4, "leastKey", "(II)J"⟩
def RX5 : String := "NameBoard$Row"
def TX5 : u_T := fun k => match k with
  | 0 => ("NameBoard$Row", "size", "I", false)
  | 1 => ("NameBoard$Row", "letters", "[B", true)
  | _ => ("NameBoard$Row", "leads", "[I", true)
def tyX5 : Nat → FieldType := fun k => match k with
  | 0 => .int
  | 1 => .array .byte
  | _ => .array .int
abbrev wsX50 : List Cond := u_ws RX5 TX5 3
theorem nmX5 : ∀ a, a < 3 → ∀ b, b < 3 → a ≠ b → (TX5 a).2.1 ≠ (TX5 b).2.1 := by decide +kernel
theorem tyX5_ok : ∀ k, k < 3 → parseFieldDescriptor (TX5 k).2.2.1 = some (tyX5 k) := by decide +kernel
abbrev cX5_init : ByteArray := prog_7_method_1_code
def yX5_init : MethodName := ⟨RX5, "<init>", "()V"⟩
abbrev cX5_has : ByteArray := prog_7_method_2_code
def yX5_has : MethodName := ⟨RX5, "has", "(I)Z"⟩
abbrev cX5_add : ByteArray := prog_7_method_3_code
def yX5_add : MethodName := ⟨RX5, "add", "(II)V"⟩
abbrev cX5_readsAs : ByteArray := prog_7_method_4_code
def yX5_readsAs : MethodName := ⟨RX5, "readsAs", "(LNameBoard$Row;)Z"⟩
def RX6 : String := "NameBoard$Signs"
def TX6 : u_T := fun k => match k with
  | 0 => ("NameBoard$Signs", "size", "I", false)
  | 1 => ("NameBoard$Signs", "places", "[I", true)
  | 2 => ("NameBoard$Signs", "costs", "[I", true)
  | _ => ("NameBoard$Signs", "made", "[I", true)
def tyX6 : Nat → FieldType := fun k => match k with
  | 0 => .int
  | 1 => .array .int
  | 2 => .array .int
  | _ => .array .int
abbrev wsX60 : List Cond := u_ws RX6 TX6 4
theorem nmX6 : ∀ a, a < 4 → ∀ b, b < 4 → a ≠ b → (TX6 a).2.1 ≠ (TX6 b).2.1 := by decide +kernel
theorem tyX6_ok : ∀ k, k < 4 → parseFieldDescriptor (TX6 k).2.2.1 = some (tyX6 k) := by decide +kernel
abbrev cX6_init : ByteArray := prog_8_method_1_code
def yX6_init : MethodName := ⟨RX6, "<init>", "()V"⟩
abbrev cX6_has : ByteArray := prog_8_method_2_code
def yX6_has : MethodName := ⟨RX6, "has", "(I)Z"⟩
abbrev cX6_make : ByteArray := prog_8_method_3_code
def yX6_make : MethodName := ⟨RX6, "make", "(III)I"⟩
abbrev cX6_copyFrom : ByteArray := prog_8_method_4_code
def yX6_copyFrom : MethodName := ⟨RX6, "copyFrom", "(LNameBoard$Signs;)V"⟩
def RX7 : String := "NameBoard$Speech"
def TX7 : u_T := fun k => match k with
  | 0 => ("NameBoard$Speech", "names", "I", false)
  | 1 => ("NameBoard$Speech", "places", "[I", true)
  | 2 => ("NameBoard$Speech", "tongues", "[I", true)
  | 3 => ("NameBoard$Speech", "died", "[I", true)
  | 4 => ("NameBoard$Speech", "lengths", "[I", true)
  | 5 => ("NameBoard$Speech", "sounds", "[B", true)
  | 6 => ("NameBoard$Speech", "spellings", "I", false)
  | 7 => ("NameBoard$Speech", "spellingTongues", "[I", true)
  | 8 => ("NameBoard$Speech", "spellingYears", "[I", true)
  | 9 => ("NameBoard$Speech", "rules", "[I", true)
  | 10 => ("NameBoard$Speech", "after", "[I", true)
  | 11 => ("NameBoard$Speech", "before", "[I", true)
  | 12 => ("NameBoard$Speech", "fromLengths", "[I", true)
  | 13 => ("NameBoard$Speech", "toLengths", "[I", true)
  | 14 => ("NameBoard$Speech", "from", "[B", true)
  | _ => ("NameBoard$Speech", "to", "[B", true)
def tyX7 : Nat → FieldType := fun k => match k with
  | 0 => .int
  | 1 => .array .int
  | 2 => .array .int
  | 3 => .array .int
  | 4 => .array .int
  | 5 => .array .byte
  | 6 => .int
  | 7 => .array .int
  | 8 => .array .int
  | 9 => .array .int
  | 10 => .array .int
  | 11 => .array .int
  | 12 => .array .int
  | 13 => .array .int
  | 14 => .array .byte
  | _ => .array .byte
abbrev wsX70 : List Cond := u_ws RX7 TX7 16
theorem nmX7 : ∀ a, a < 16 → ∀ b, b < 16 → a ≠ b → (TX7 a).2.1 ≠ (TX7 b).2.1 := by decide +kernel
theorem tyX7_ok : ∀ k, k < 16 → parseFieldDescriptor (TX7 k).2.2.1 = some (tyX7 k) := by decide +kernel
abbrev cX7_init : ByteArray := prog_9_method_1_code
def yX7_init : MethodName := ⟨RX7, "<init>", "()V"⟩
abbrev cX7_hasName : ByteArray := prog_9_method_2_code
def yX7_hasName : MethodName := ⟨RX7, "hasName", "(I)Z"⟩
abbrev cX7_addName : ByteArray := prog_9_method_3_code
def yX7_addName : MethodName := ⟨RX7, "addName", "(LNameBoard$Tape;III)I"⟩
abbrev cX7_readSpelling : ByteArray := prog_9_method_4_code
def yX7_readSpelling : MethodName := ⟨RX7, "readSpelling", "(LNameBoard$Tape;II)I"⟩
abbrev cX7_readRule : ByteArray := prog_9_method_5_code
def yX7_readRule : MethodName := ⟨RX7, "readRule", "(LNameBoard$Tape;I)V"⟩
abbrev cX7_readSet : ByteArray := prog_9_method_6_code
def yX7_readSet : MethodName := ⟨RX7, "readSet", "(LNameBoard$Tape;)I"⟩
abbrev cX7_readWord : ByteArray := prog_9_method_7_code
def yX7_readWord : MethodName := ⟨RX7, "readWord", "(LNameBoard$Tape;[BI)I"⟩
abbrev cX7_spellingAt : ByteArray := prog_9_method_8_code
def yX7_spellingAt : MethodName := ⟨RX7, "spellingAt", "(II)I"⟩
abbrev cX7_spellInto : ByteArray := prog_9_method_9_code
def yX7_spellInto : MethodName := ⟨RX7, "spellInto", "(LNameBoard$Row;II)V"⟩
abbrev cX7_ruleFor : ByteArray := prog_9_method_10_code
def yX7_ruleFor : MethodName := ⟨RX7, "ruleFor", "(III)I"⟩
abbrev cX7_fits : ByteArray := prog_9_method_11_code
def yX7_fits : MethodName := ⟨RX7, "fits", "(III)Z"⟩
abbrev cX7_copyFrom : ByteArray := prog_9_method_12_code
def yX7_copyFrom : MethodName := ⟨RX7, "copyFrom", "(LNameBoard$Speech;)V"⟩
def RX8 : String := "NameBoard$State"
def TX8 : u_T := fun k => match k with
  | 0 => ("NameBoard$State", "now", "I", false)
  | 1 => ("NameBoard$State", "told", "[Z", true)
  | 2 => ("NameBoard$State", "land", "LNameBoard$Land;", true)
  | 3 => ("NameBoard$State", "speech", "LNameBoard$Speech;", true)
  | 4 => ("NameBoard$State", "acts", "LNameBoard$Acts;", true)
  | 5 => ("NameBoard$State", "board", "LNameBoard$Board;", true)
  | _ => ("NameBoard$State", "signs", "LNameBoard$Signs;", true)
def tyX8 : Nat → FieldType := fun k => match k with
  | 0 => .int
  | 1 => .array .boolean
  | 2 => .object "NameBoard$Land"
  | 3 => .object "NameBoard$Speech"
  | 4 => .object "NameBoard$Acts"
  | 5 => .object "NameBoard$Board"
  | _ => .object "NameBoard$Signs"
abbrev wsX80 : List Cond := u_ws RX8 TX8 7
theorem nmX8 : ∀ a, a < 7 → ∀ b, b < 7 → a ≠ b → (TX8 a).2.1 ≠ (TX8 b).2.1 := by decide +kernel
theorem tyX8_ok : ∀ k, k < 7 → parseFieldDescriptor (TX8 k).2.2.1 = some (tyX8 k) := by decide +kernel
abbrev cX8_init : ByteArray := prog_10_method_1_code
def yX8_init : MethodName := ⟨RX8, "<init>", "()V"⟩
abbrev cX8_mark : ByteArray := prog_10_method_2_code
def yX8_mark : MethodName := ⟨RX8, "mark", "()V"⟩
abbrev cX8_copyFrom : ByteArray := prog_10_method_3_code
def yX8_copyFrom : MethodName := ⟨RX8, "copyFrom", "(LNameBoard$State;)V"⟩
def RX9 : String := "NameBoard$Tape"
def TX9 : u_T := fun k => match k with
  | 0 => ("NameBoard$Tape", "bytes", "[B", true)
  | 1 => ("NameBoard$Tape", "size", "I", false)
  | 2 => ("NameBoard$Tape", "fault", "I", false)
  | 3 => ("NameBoard$Tape", "faultAt", "I", false)
  | 4 => ("NameBoard$Tape", "at", "I", false)
  | 5 => ("NameBoard$Tape", "till", "I", false)
  | 6 => ("NameBoard$Tape", "kind", "I", false)
  | _ => ("NameBoard$Tape", "number", "I", false)
def tyX9 : Nat → FieldType := fun k => match k with
  | 0 => .array .byte
  | 1 => .int
  | 2 => .int
  | 3 => .int
  | 4 => .int
  | 5 => .int
  | 6 => .int
  | _ => .int
abbrev wsX90 : List Cond := u_ws RX9 TX9 8
theorem nmX9 : ∀ a, a < 8 → ∀ b, b < 8 → a ≠ b → (TX9 a).2.1 ≠ (TX9 b).2.1 := by decide +kernel
theorem tyX9_ok : ∀ k, k < 8 → parseFieldDescriptor (TX9 k).2.2.1 = some (tyX9 k) := by decide +kernel
abbrev cX9_init : ByteArray := prog_11_method_1_code
def yX9_init : MethodName := ⟨RX9, "<init>", "()V"⟩
abbrev cX9_push : ByteArray := prog_11_method_2_code
def yX9_push : MethodName := ⟨RX9, "push", "(I)V"⟩
abbrev cX9_isLetters : ByteArray := prog_11_method_3_code
def yX9_isLetters : MethodName := ⟨RX9, "isLetters", "(I)Z"⟩
abbrev cX9_kindOf : ByteArray := prog_11_method_4_code
def yX9_kindOf : MethodName := ⟨RX9, "kindOf", "(B)I"⟩
abbrev cX9_begin : ByteArray := prog_11_method_5_code
def yX9_begin : MethodName := ⟨RX9, "begin", "()V"⟩
abbrev cX9_goesOn : ByteArray := prog_11_method_6_code
def yX9_goesOn : MethodName := ⟨RX9, "goesOn", "()Z"⟩
abbrev cX9_advance : ByteArray := prog_11_method_7_code
def yX9_advance : MethodName := ⟨RX9, "advance", "()V"⟩
abbrev cX9_blame : ByteArray := prog_11_method_8_code
def yX9_blame : MethodName := ⟨RX9, "blame", "(I)V"⟩
abbrev cX9_isSign : ByteArray := prog_11_method_9_code
def yX9_isSign : MethodName := ⟨RX9, "isSign", "(C)Z"⟩
abbrev cX9_isWordOf : ByteArray := prog_11_method_10_code
def yX9_isWordOf : MethodName := ⟨RX9, "isWordOf", "(I)Z"⟩
abbrev cX9_isWord : ByteArray := prog_11_method_11_code
def yX9_isWord : MethodName := ⟨RX9, "isWord", "(Ljava/lang/String;)Z"⟩
abbrev cX9_takeSign : ByteArray := prog_11_method_12_code
def yX9_takeSign : MethodName := ⟨RX9, "takeSign", "(C)V"⟩
abbrev cX9_takeWord : ByteArray := prog_11_method_13_code
def yX9_takeWord : MethodName := ⟨RX9, "takeWord", "(Ljava/lang/String;)V"⟩
abbrev cX9_takeNumber : ByteArray := prog_11_method_14_code
def yX9_takeNumber : MethodName := ⟨RX9, "takeNumber", "(I)I"⟩
def RX10 : String := "NameBoard$View"
def TX10 : u_T := fun k => match k with
  | 0 => ("NameBoard$View", "parents", "[I", true)
  | 1 => ("NameBoard$View", "own", "[I", true)
  | 2 => ("NameBoard$View", "lives", "[I", true)
  | 3 => ("NameBoard$View", "facts", "[I", true)
  | 4 => ("NameBoard$View", "lead", "I", false)
  | 5 => ("NameBoard$View", "second", "I", false)
  | 6 => ("NameBoard$View", "one", "LNameBoard$Row;", true)
  | 7 => ("NameBoard$View", "other", "LNameBoard$Row;", true)
  | 8 => ("NameBoard$View", "line", "[I", true)
  | 9 => ("NameBoard$View", "spelledLengths", "[I", true)
  | _ => ("NameBoard$View", "spelled", "[B", true)
def tyX10 : Nat → FieldType := fun k => match k with
  | 0 => .array .int
  | 1 => .array .int
  | 2 => .array .int
  | 3 => .array .int
  | 4 => .int
  | 5 => .int
  | 6 => .object "NameBoard$Row"
  | 7 => .object "NameBoard$Row"
  | 8 => .array .int
  | 9 => .array .int
  | _ => .array .byte
abbrev wsX100 : List Cond := u_ws RX10 TX10 11
theorem nmX10 : ∀ a, a < 11 → ∀ b, b < 11 → a ≠ b → (TX10 a).2.1 ≠ (TX10 b).2.1 := by decide +kernel
theorem tyX10_ok : ∀ k, k < 11 → parseFieldDescriptor (TX10 k).2.2.1 = some (tyX10 k) := by decide +kernel
abbrev cX10_init : ByteArray := prog_12_method_1_code
def yX10_init : MethodName := ⟨RX10, "<init>", "()V"⟩
abbrev cX10_isUnder : ByteArray := prog_12_method_2_code
def yX10_isUnder : MethodName := ⟨RX10, "isUnder", "(II)Z"⟩
abbrev cX10_liesWithin : ByteArray := prog_12_method_3_code
def yX10_liesWithin : MethodName := ⟨RX10, "liesWithin", "(LNameBoard$Land;III)Z"⟩
abbrev cX10_gather : ByteArray := prog_12_method_4_code
def yX10_gather : MethodName := ⟨RX10, "gather", "(LNameBoard$Land;II)V"⟩
abbrev cX10_addOwn : ByteArray := prog_12_method_5_code
def yX10_addOwn : MethodName := ⟨RX10, "addOwn", "(I)V"⟩
abbrev cX10_everyone : ByteArray := prog_12_method_6_code
def yX10_everyone : MethodName := ⟨RX10, "everyone", "()I"⟩
abbrev cX10_setShares : ByteArray := prog_12_method_7_code
def yX10_setShares : MethodName := ⟨RX10, "setShares", "()V"⟩
abbrev cX10_look : ByteArray := prog_12_method_8_code
def yX10_look : MethodName := ⟨RX10, "look", "(LNameBoard$State;III)V"⟩
abbrev cX10_firstBy : ByteArray := prog_12_method_9_code
def yX10_firstBy : MethodName := ⟨RX10, "firstBy", "(LNameBoard$Acts;I)I"⟩
abbrev cX10_mostPeople : ByteArray := prog_12_method_10_code
def yX10_mostPeople : MethodName := ⟨RX10, "mostPeople", "(I)I"⟩
abbrev cX10_fewestToSwing : ByteArray := prog_12_method_11_code
def yX10_fewestToSwing : MethodName := ⟨RX10, "fewestToSwing", "(LNameBoard$State;I)I"⟩
abbrev cX10_swingsBy : ByteArray := prog_12_method_12_code
def yX10_swingsBy : MethodName := ⟨RX10, "swingsBy", "(LNameBoard$Acts;III)Z"⟩
abbrev cX10_swungBy : ByteArray := prog_12_method_13_code
def yX10_swungBy : MethodName := ⟨RX10, "swungBy", "(LNameBoard$Acts;IIII)Z"⟩
abbrev cX10_alikePairs : ByteArray := prog_12_method_14_code
def yX10_alikePairs : MethodName := ⟨RX10, "alikePairs", "(LNameBoard$Speech;I)I"⟩
abbrev cX10_spellAside : ByteArray := prog_12_method_15_code
def yX10_spellAside : MethodName := ⟨RX10, "spellAside", "(LNameBoard$Speech;II)V"⟩
abbrev cX10_areSpelledAlike : ByteArray := prog_12_method_16_code
def yX10_areSpelledAlike : MethodName := ⟨RX10, "areSpelledAlike", "(II)Z"⟩
abbrev cX10_editsOfNames : ByteArray := prog_12_method_17_code
def yX10_editsOfNames : MethodName := ⟨RX10, "editsOfNames", "(LNameBoard$Speech;III)I"⟩
abbrev cX10_editsOfRows : ByteArray := prog_12_method_18_code
def yX10_editsOfRows : MethodName := ⟨RX10, "editsOfRows", "(LNameBoard$Row;LNameBoard$Row;)I"⟩
abbrev cX10_whyRefused : ByteArray := prog_12_method_19_code
def yX10_whyRefused : MethodName := ⟨RX10, "whyRefused", "(LNameBoard$State;II)I"⟩
abbrev cX10_isAlike : ByteArray := prog_12_method_20_code
def yX10_isAlike : MethodName := ⟨RX10, "isAlike", "(LNameBoard$State;III)Z"⟩
abbrev cX10_show : ByteArray := prog_12_method_21_code
def yX10_show : MethodName := ⟨RX10, "show", "(LNameBoard$State;IIILNameBoard$Row;)V"⟩
abbrev cX10_isLame : ByteArray := prog_12_method_22_code
def yX10_isLame : MethodName := ⟨RX10, "isLame", "(LNameBoard$State;I)Z"⟩
abbrev cX10_lameSigns : ByteArray := prog_12_method_23_code
def yX10_lameSigns : MethodName := ⟨RX10, "lameSigns", "(LNameBoard$State;)I"⟩
abbrev cX10_dueYear : ByteArray := prog_12_method_24_code
def yX10_dueYear : MethodName := ⟨RX10, "dueYear", "(LNameBoard$State;I)I"⟩
def RX11 : String := "NameBoard"
def TX11 : u_T := fun k => match k with
  | 0 => ("NameBoard", "state", "LNameBoard$State;", true)
  | 1 => ("NameBoard", "images", "[LNameBoard$State;", true)
  | 2 => ("NameBoard", "tape", "LNameBoard$Tape;", true)
  | 3 => ("NameBoard", "hand", "LNameBoard$Row;", true)
  | 4 => ("NameBoard", "view", "LNameBoard$View;", true)
  | 5 => ("NameBoard", "planner", "LNameBoard$Planner;", true)
  | 6 => ("NameBoard", "paper", "LNameBoard$Paper;", true)
  | 7 => ("NameBoard", "numbers", "[J", true)
  | 8 => ("NameBoard", "widths", "[I", true)
  | _ => ("NameBoard", "lengths", "[I", true)
def tyX11 : Nat → FieldType := fun k => match k with
  | 0 => .object "NameBoard$State"
  | 1 => .array (.object "NameBoard$State")
  | 2 => .object "NameBoard$Tape"
  | 3 => .object "NameBoard$Row"
  | 4 => .object "NameBoard$View"
  | 5 => .object "NameBoard$Planner"
  | 6 => .object "NameBoard$Paper"
  | 7 => .array .long
  | 8 => .array .int
  | _ => .array .int
abbrev wsX110 : List Cond := u_ws RX11 TX11 10
theorem nmX11 : ∀ a, a < 10 → ∀ b, b < 10 → a ≠ b → (TX11 a).2.1 ≠ (TX11 b).2.1 := by decide +kernel
theorem tyX11_ok : ∀ k, k < 10 → parseFieldDescriptor (TX11 k).2.2.1 = some (tyX11 k) := by decide +kernel
abbrev cX11_init : ByteArray := prog_1_method_1_code
def yX11_init : MethodName := ⟨RX11, "<init>", "()V"⟩
abbrev cX11_feed : ByteArray := prog_1_method_2_code
def yX11_feed : MethodName := ⟨RX11, "feed", "(IIIII)I"⟩
abbrev cX11_end : ByteArray := prog_1_method_3_code
def yX11_end : MethodName := ⟨RX11, "end", "(I)I"⟩
abbrev cX11_next : ByteArray := prog_1_method_4_code
def yX11_next : MethodName := ⟨RX11, "next", "(I)I"⟩
abbrev cX11_place : ByteArray := prog_1_method_5_code
def yX11_place : MethodName := ⟨RX11, "place", "(II)I"⟩
abbrev cX11_part : ByteArray := prog_1_method_6_code
def yX11_part : MethodName := ⟨RX11, "part", "(II)I"⟩
abbrev cX11_people : ByteArray := prog_1_method_7_code
def yX11_people : MethodName := ⟨RX11, "people", "(III)I"⟩
abbrev cX11_counted : ByteArray := prog_1_method_8_code
def yX11_counted : MethodName := ⟨RX11, "counted", "(I)I"⟩
abbrev cX11_live : ByteArray := prog_1_method_9_code
def yX11_live : MethodName := ⟨RX11, "live", "(IIII)I"⟩
abbrev cX11_name : ByteArray := prog_1_method_10_code
def yX11_name : MethodName := ⟨RX11, "name", "(III)I"⟩
abbrev cX11_spelling : ByteArray := prog_1_method_11_code
def yX11_spelling : MethodName := ⟨RX11, "spelling", "(I)I"⟩
abbrev cX11_act : ByteArray := prog_1_method_12_code
def yX11_act : MethodName := ⟨RX11, "act", "()I"⟩
abbrev cX11_fault : ByteArray := prog_1_method_13_code
def yX11_fault : MethodName := ⟨RX11, "fault", "(I)I"⟩
abbrev cX11_spell : ByteArray := prog_1_method_14_code
def yX11_spell : MethodName := ⟨RX11, "spell", "(II)I"⟩
abbrev cX11_letter : ByteArray := prog_1_method_15_code
def yX11_letter : MethodName := ⟨RX11, "letter", "(I)I"⟩
abbrev cX11_led : ByteArray := prog_1_method_16_code
def yX11_led : MethodName := ⟨RX11, "led", "(I)I"⟩
abbrev cX11_alikes : ByteArray := prog_1_method_17_code
def yX11_alikes : MethodName := ⟨RX11, "alikes", "(I)I"⟩
abbrev cX11_edits : ByteArray := prog_1_method_18_code
def yX11_edits : MethodName := ⟨RX11, "edits", "(III)I"⟩
abbrev cX11_first : ByteArray := prog_1_method_19_code
def yX11_first : MethodName := ⟨RX11, "first", "(III)I"⟩
abbrev cX11_beside : ByteArray := prog_1_method_20_code
def yX11_beside : MethodName := ⟨RX11, "beside", "(III)I"⟩
abbrev cX11_swings : ByteArray := prog_1_method_21_code
def yX11_swings : MethodName := ⟨RX11, "swings", "(I)I"⟩
abbrev cX11_ask : ByteArray := prog_1_method_22_code
def yX11_ask : MethodName := ⟨RX11, "ask", "(I)I"⟩
abbrev cX11_vote : ByteArray := prog_1_method_23_code
def yX11_vote : MethodName := ⟨RX11, "vote", "(IIZ)I"⟩
abbrev cX11_close : ByteArray := prog_1_method_24_code
def yX11_close : MethodName := ⟨RX11, "close", "(I)I"⟩
abbrev cX11_settled : ByteArray := prog_1_method_25_code
def yX11_settled : MethodName := ⟨RX11, "settled", "(IIII)I"⟩
abbrev cX11_undo : ByteArray := prog_1_method_26_code
def yX11_undo : MethodName := ⟨RX11, "undo", "(II)I"⟩
abbrev cX11_shown : ByteArray := prog_1_method_27_code
def yX11_shown : MethodName := ⟨RX11, "shown", "(III)I"⟩
abbrev cX11_sign : ByteArray := prog_1_method_28_code
def yX11_sign : MethodName := ⟨RX11, "sign", "(II)I"⟩
abbrev cX11_anew : ByteArray := prog_1_method_29_code
def yX11_anew : MethodName := ⟨RX11, "anew", "(I)I"⟩
abbrev cX11_signOf : ByteArray := prog_1_method_30_code
def yX11_signOf : MethodName := ⟨RX11, "signOf", "(II)I"⟩
abbrev cX11_plan : ByteArray := prog_1_method_31_code
def yX11_plan : MethodName := ⟨RX11, "plan", "(I)I"⟩
abbrev cX11_planned : ByteArray := prog_1_method_32_code
def yX11_planned : MethodName := ⟨RX11, "planned", "(I)I"⟩
abbrev cX11_paper : ByteArray := prog_1_method_33_code
def yX11_paper : MethodName := ⟨RX11, "paper", "(I)I"⟩
abbrev cX11_written : ByteArray := prog_1_method_34_code
def yX11_written : MethodName := ⟨RX11, "written", "()I"⟩
abbrev cX11_join : ByteArray := prog_1_method_35_code
def yX11_join : MethodName := ⟨RX11, "join", "()I"⟩
abbrev cX11_joined : ByteArray := prog_1_method_36_code
def yX11_joined : MethodName := ⟨RX11, "joined", "(I)I"⟩
abbrev cX11_count : ByteArray := prog_1_method_37_code
def yX11_count : MethodName := ⟨RX11, "count", "(I)I"⟩
abbrev cX11_keep : ByteArray := prog_1_method_38_code
def yX11_keep : MethodName := ⟨RX11, "keep", "(I)I"⟩
abbrev cX11_back : ByteArray := prog_1_method_39_code
def yX11_back : MethodName := ⟨RX11, "back", "(I)I"⟩
abbrev cX11_row : ByteArray := prog_1_method_40_code
def yX11_row : MethodName := ⟨RX11, "row", "(III)I"⟩
abbrev cX11_tear : ByteArray := prog_1_method_41_code
def yX11_tear : MethodName := ⟨RX11, "tear", "(I)Z"⟩
abbrev cX11_write : ByteArray := prog_1_method_42_code
def yX11_write : MethodName := ⟨RX11, "write", "(IIJ)I"⟩
abbrev cX11_paste : ByteArray := prog_1_method_43_code
def yX11_paste : MethodName := ⟨RX11, "paste", "(IIIII)I"⟩
abbrev cX11_isYear : ByteArray := prog_1_method_44_code
def yX11_isYear : MethodName := ⟨RX11, "isYear", "(I)Z"⟩
abbrev cX11_isTongue : ByteArray := prog_1_method_45_code
def yX11_isTongue : MethodName := ⟨RX11, "isTongue", "(I)Z"⟩
abbrev cX11_isNumber : ByteArray := prog_1_method_46_code
def yX11_isNumber : MethodName := ⟨RX11, "isNumber", "(I)Z"⟩
abbrev cX11_isSlot : ByteArray := prog_1_method_47_code
def yX11_isSlot : MethodName := ⟨RX11, "isSlot", "(I)Z"⟩
abbrev cX11_liesInRow : ByteArray := prog_1_method_48_code
def yX11_liesInRow : MethodName := ⟨RX11, "liesInRow", "(III)Z"⟩
abbrev cX11_cut : ByteArray := prog_1_method_49_code
def yX11_cut : MethodName := ⟨RX11, "cut", "(JI)J"⟩
abbrev cX11_countPeople : ByteArray := prog_1_method_50_code
def yX11_countPeople : MethodName := ⟨RX11, "countPeople", "(JJJ)I"⟩
abbrev cX11_taken : ByteArray := prog_1_method_51_code
def yX11_taken : MethodName := ⟨RX11, "taken", "(I)I"⟩
abbrev cX11_copyFlags : ByteArray := prog_1_method_52_code
def yX11_copyFlags : MethodName := ⟨RX11, "copyFlags", "([Z[ZI)V"⟩
abbrev cX11_rowsHad : ByteArray := prog_1_method_53_code
def yX11_rowsHad : MethodName := ⟨RX11, "rowsHad", "()I"⟩
def RX12 : String := "NameBoardModel"
def TX12 : u_T := fun k => match k with
  | 0 => ("NameBoardModel", "thrown", "I", false)
  | 1 => ("NameBoardModel", "world", "[I", true)
  | 2 => ("NameBoardModel", "images", "[I", true)
  | 3 => ("NameBoardModel", "hasImage", "[Z", true)
  | 4 => ("NameBoardModel", "tape", "[B", true)
  | 5 => ("NameBoardModel", "taped", "I", false)
  | 6 => ("NameBoardModel", "five", "[I", true)
  | 7 => ("NameBoardModel", "partOf", "[I", true)
  | 8 => ("NameBoardModel", "own", "[I", true)
  | 9 => ("NameBoardModel", "all", "[I", true)
  | 10 => ("NameBoardModel", "size", "I", false)
  | 11 => ("NameBoardModel", "at", "I", false)
  | 12 => ("NameBoardModel", "from", "I", false)
  | 13 => ("NameBoardModel", "token", "I", false)
  | 14 => ("NameBoardModel", "value", "I", false)
  | 15 => ("NameBoardModel", "faultKind", "I", false)
  | 16 => ("NameBoardModel", "faultPlace", "I", false)
  | 17 => ("NameBoardModel", "isAct", "Z", false)
  | 18 => ("NameBoardModel", "fresh", "[I", true)
  | 19 => ("NameBoardModel", "laid", "[I", true)
  | 20 => ("NameBoardModel", "by", "[I", true)
  | 21 => ("NameBoardModel", "laidMany", "I", false)
  | 22 => ("NameBoardModel", "hand", "[I", true)
  | 23 => ("NameBoardModel", "handBy", "[I", true)
  | 24 => ("NameBoardModel", "handMany", "I", false)
  | 25 => ("NameBoardModel", "one", "[I", true)
  | 26 => ("NameBoardModel", "oneMany", "I", false)
  | 27 => ("NameBoardModel", "cost", "[I", true)
  | 28 => ("NameBoardModel", "lying", "[I", true)
  | 29 => ("NameBoardModel", "lameSigns", "[I", true)
  | 30 => ("NameBoardModel", "lameMany", "I", false)
  | 31 => ("NameBoardModel", "least", "[I", true)
  | 32 => ("NameBoardModel", "must", "[I", true)
  | 33 => ("NameBoardModel", "plannedAt", "[I", true)
  | 34 => ("NameBoardModel", "hasPlan", "Z", false)
  | 35 => ("NameBoardModel", "mayNow", "[Z", true)
  | 36 => ("NameBoardModel", "paperYear", "I", false)
  | 37 => ("NameBoardModel", "writtenMany", "I", false)
  | 38 => ("NameBoardModel", "written", "[I", true)
  | 39 => ("NameBoardModel", "writtenLong", "[I", true)
  | 40 => ("NameBoardModel", "named", "I", false)
  | 41 => ("NameBoardModel", "namedPlace", "[I", true)
  | 42 => ("NameBoardModel", "gives", "[I", true)
  | 43 => ("NameBoardModel", "row", "[I", true)
  | 44 => ("NameBoardModel", "bestRow", "[I", true)
  | 45 => ("NameBoardModel", "bestSum", "I", false)
  | 46 => ("NameBoardModel", "joinedTo", "[I", true)
  | 47 => ("NameBoardModel", "joinedMany", "I", false)
  | 48 => ("NameBoardModel", "many", "[I", true)
  | 49 => ("NameBoardModel", "width", "[I", true)
  | 50 => ("NameBoardModel", "numbers", "[J", true)
  | _ => ("NameBoardModel", "moved", "[J", true)
def tyX12 : Nat → FieldType := fun k => match k with
  | 0 => .int
  | 1 => .array .int
  | 2 => .array .int
  | 3 => .array .boolean
  | 4 => .array .byte
  | 5 => .int
  | 6 => .array .int
  | 7 => .array .int
  | 8 => .array .int
  | 9 => .array .int
  | 10 => .int
  | 11 => .int
  | 12 => .int
  | 13 => .int
  | 14 => .int
  | 15 => .int
  | 16 => .int
  | 17 => .boolean
  | 18 => .array .int
  | 19 => .array .int
  | 20 => .array .int
  | 21 => .int
  | 22 => .array .int
  | 23 => .array .int
  | 24 => .int
  | 25 => .array .int
  | 26 => .int
  | 27 => .array .int
  | 28 => .array .int
  | 29 => .array .int
  | 30 => .int
  | 31 => .array .int
  | 32 => .array .int
  | 33 => .array .int
  | 34 => .boolean
  | 35 => .array .boolean
  | 36 => .int
  | 37 => .int
  | 38 => .array .int
  | 39 => .array .int
  | 40 => .int
  | 41 => .array .int
  | 42 => .array .int
  | 43 => .array .int
  | 44 => .array .int
  | 45 => .int
  | 46 => .array .int
  | 47 => .int
  | 48 => .array .int
  | 49 => .array .int
  | 50 => .array .long
  | _ => .array .long
abbrev wsX120 : List Cond := u_ws RX12 TX12 52
theorem nmX12 : ∀ a, a < 52 → ∀ b, b < 52 → a ≠ b → (TX12 a).2.1 ≠ (TX12 b).2.1 := by decide +kernel
theorem tyX12_ok : ∀ k, k < 52 → parseFieldDescriptor (TX12 k).2.2.1 = some (tyX12 k) := by decide +kernel
abbrev cX12_init : ByteArray := prog_14_method_1_code
def yX12_init : MethodName := ⟨RX12, "<init>", "()V"⟩
abbrev cX12_in : ByteArray := prog_14_method_3_code
def yX12_in : MethodName := ⟨RX12, "in", "(JJJ)Z"⟩
abbrev cX12_keep : ByteArray := prog_14_method_4_code
def yX12_keep : MethodName := ⟨RX12, "keep", "(I)I"⟩
abbrev cX12_back : ByteArray := prog_14_method_5_code
def yX12_back : MethodName := ⟨RX12, "back", "(I)I"⟩
abbrev cX12_now : ByteArray := prog_14_method_6_code
def yX12_now : MethodName := ⟨RX12, "now", "()I"⟩
abbrev cX12_isPlace : ByteArray := prog_14_method_7_code
def yX12_isPlace : MethodName := ⟨RX12, "isPlace", "(I)Z"⟩
abbrev cX12_isName : ByteArray := prog_14_method_8_code
def yX12_isName : MethodName := ⟨RX12, "isName", "(I)Z"⟩
abbrev cX12_isTongue : ByteArray := prog_14_method_9_code
def yX12_isTongue : MethodName := ⟨RX12, "isTongue", "(I)Z"⟩
abbrev cX12_isYear : ByteArray := prog_14_method_10_code
def yX12_isYear : MethodName := ⟨RX12, "isYear", "(I)Z"⟩
abbrev cX12_nameIs : ByteArray := prog_14_method_11_code
def yX12_nameIs : MethodName := ⟨RX12, "nameIs", "(II)I"⟩
abbrev cX12_feed : ByteArray := prog_14_method_12_code
def yX12_feed : MethodName := ⟨RX12, "feed", "(IIIII)I"⟩
abbrev cX12_end : ByteArray := prog_14_method_13_code
def yX12_end : MethodName := ⟨RX12, "end", "(I)I"⟩
abbrev cX12_isLetters : ByteArray := prog_14_method_14_code
def yX12_isLetters : MethodName := ⟨RX12, "isLetters", "(I)Z"⟩
abbrev cX12_next : ByteArray := prog_14_method_15_code
def yX12_next : MethodName := ⟨RX12, "next", "(I)I"⟩
abbrev cX12_place : ByteArray := prog_14_method_16_code
def yX12_place : MethodName := ⟨RX12, "place", "(II)I"⟩
abbrev cX12_looks : ByteArray := prog_14_method_17_code
def yX12_looks : MethodName := ⟨RX12, "looks", "(I)V"⟩
abbrev cX12_addsUp : ByteArray := prog_14_method_18_code
def yX12_addsUp : MethodName := ⟨RX12, "addsUp", "()V"⟩
abbrev cX12_part : ByteArray := prog_14_method_19_code
def yX12_part : MethodName := ⟨RX12, "part", "(II)I"⟩
abbrev cX12_people : ByteArray := prog_14_method_20_code
def yX12_people : MethodName := ⟨RX12, "people", "(III)I"⟩
abbrev cX12_allOf : ByteArray := prog_14_method_21_code
def yX12_allOf : MethodName := ⟨RX12, "allOf", "(I)I"⟩
abbrev cX12_live : ByteArray := prog_14_method_22_code
def yX12_live : MethodName := ⟨RX12, "live", "(IIII)I"⟩
abbrev cX12_name : ByteArray := prog_14_method_23_code
def yX12_name : MethodName := ⟨RX12, "name", "(III)I"⟩
abbrev cX12_see : ByteArray := prog_14_method_24_code
def yX12_see : MethodName := ⟨RX12, "see", "(I)I"⟩
abbrev cX12_next_ : ByteArray := prog_14_method_25_code
def yX12_next_ : MethodName := ⟨RX12, "next", "()V"⟩
abbrev cX12_begins : ByteArray := prog_14_method_26_code
def yX12_begins : MethodName := ⟨RX12, "begins", "(Z)V"⟩
abbrev cX12_good : ByteArray := prog_14_method_27_code
def yX12_good : MethodName := ⟨RX12, "good", "()Z"⟩
abbrev cX12_wrong : ByteArray := prog_14_method_28_code
def yX12_wrong : MethodName := ⟨RX12, "wrong", "(I)V"⟩
abbrev cX12_is : ByteArray := prog_14_method_29_code
def yX12_is : MethodName := ⟨RX12, "is", "(Ljava/lang/String;)Z"⟩
abbrev cX12_isSign : ByteArray := prog_14_method_30_code
def yX12_isSign : MethodName := ⟨RX12, "isSign", "(I)Z"⟩
abbrev cX12_needSign : ByteArray := prog_14_method_31_code
def yX12_needSign : MethodName := ⟨RX12, "needSign", "(I)V"⟩
abbrev cX12_takes : ByteArray := prog_14_method_32_code
def yX12_takes : MethodName := ⟨RX12, "takes", "(Ljava/lang/String;)Z"⟩
abbrev cX12_number : ByteArray := prog_14_method_33_code
def yX12_number : MethodName := ⟨RX12, "number", "(I)I"⟩
abbrev cX12_fault : ByteArray := prog_14_method_34_code
def yX12_fault : MethodName := ⟨RX12, "fault", "(I)I"⟩
abbrev cX12_isRuleWord : ByteArray := prog_14_method_35_code
def yX12_isRuleWord : MethodName := ⟨RX12, "isRuleWord", "()Z"⟩
abbrev cX12_set : ByteArray := prog_14_method_36_code
def yX12_set : MethodName := ⟨RX12, "set", "(I)V"⟩
abbrev cX12_ruleWord : ByteArray := prog_14_method_37_code
def yX12_ruleWord : MethodName := ⟨RX12, "ruleWord", "(I)V"⟩
abbrev cX12_rule : ByteArray := prog_14_method_38_code
def yX12_rule : MethodName := ⟨RX12, "rule", "(I)V"⟩
abbrev cX12_spelling : ByteArray := prog_14_method_39_code
def yX12_spelling : MethodName := ⟨RX12, "spelling", "(I)I"⟩
abbrev cX12_spellingOf : ByteArray := prog_14_method_40_code
def yX12_spellingOf : MethodName := ⟨RX12, "spellingOf", "(II)I"⟩
abbrev cX12_lays : ByteArray := prog_14_method_41_code
def yX12_lays : MethodName := ⟨RX12, "lays", "(II)V"⟩
abbrev cX12_isOf : ByteArray := prog_14_method_42_code
def yX12_isOf : MethodName := ⟨RX12, "isOf", "(II)Z"⟩
abbrev cX12_fits : ByteArray := prog_14_method_43_code
def yX12_fits : MethodName := ⟨RX12, "fits", "(IIII)Z"⟩
abbrev cX12_spells : ByteArray := prog_14_method_44_code
def yX12_spells : MethodName := ⟨RX12, "spells", "(II)V"⟩
abbrev cX12_takesInHand : ByteArray := prog_14_method_45_code
def yX12_takesInHand : MethodName := ⟨RX12, "takesInHand", "()I"⟩
abbrev cX12_spell : ByteArray := prog_14_method_46_code
def yX12_spell : MethodName := ⟨RX12, "spell", "(II)I"⟩
abbrev cX12_letter : ByteArray := prog_14_method_47_code
def yX12_letter : MethodName := ⟨RX12, "letter", "(I)I"⟩
abbrev cX12_led : ByteArray := prog_14_method_48_code
def yX12_led : MethodName := ⟨RX12, "led", "(I)I"⟩
abbrev cX12_holds : ByteArray := prog_14_method_49_code
def yX12_holds : MethodName := ⟨RX12, "holds", "()V"⟩
abbrev cX12_isAlike : ByteArray := prog_14_method_50_code
def yX12_isAlike : MethodName := ⟨RX12, "isAlike", "()Z"⟩
abbrev cX12_alikes : ByteArray := prog_14_method_51_code
def yX12_alikes : MethodName := ⟨RX12, "alikes", "(I)I"⟩
abbrev cX12_apart : ByteArray := prog_14_method_52_code
def yX12_apart : MethodName := ⟨RX12, "apart", "()I"⟩
abbrev cX12_editsOf : ByteArray := prog_14_method_53_code
def yX12_editsOf : MethodName := ⟨RX12, "editsOf", "(III)I"⟩
abbrev cX12_edits : ByteArray := prog_14_method_54_code
def yX12_edits : MethodName := ⟨RX12, "edits", "(III)I"⟩
abbrev cX12_sortHere : ByteArray := prog_14_method_55_code
def yX12_sortHere : MethodName := ⟨RX12, "sortHere", "()I"⟩
abbrev cX12_factHere : ByteArray := prog_14_method_56_code
def yX12_factHere : MethodName := ⟨RX12, "factHere", "()I"⟩
abbrev cX12_cond : ByteArray := prog_14_method_57_code
def yX12_cond : MethodName := ⟨RX12, "cond", "(I)V"⟩
abbrev cX12_tongueHere : ByteArray := prog_14_method_58_code
def yX12_tongueHere : MethodName := ⟨RX12, "tongueHere", "()I"⟩
abbrev cX12_line : ByteArray := prog_14_method_59_code
def yX12_line : MethodName := ⟨RX12, "line", "(I)V"⟩
abbrev cX12_act : ByteArray := prog_14_method_60_code
def yX12_act : MethodName := ⟨RX12, "act", "()I"⟩
abbrev cX12_actOf : ByteArray := prog_14_method_61_code
def yX12_actOf : MethodName := ⟨RX12, "actOf", "(I)I"⟩
abbrev cX12_termOf : ByteArray := prog_14_method_62_code
def yX12_termOf : MethodName := ⟨RX12, "termOf", "(III)I"⟩
abbrev cX12_partsOf : ByteArray := prog_14_method_63_code
def yX12_partsOf : MethodName := ⟨RX12, "partsOf", "(I)I"⟩
abbrev cX12_holdFor : ByteArray := prog_14_method_64_code
def yX12_holdFor : MethodName := ⟨RX12, "holdFor", "(III)Z"⟩
abbrev cX12_most : ByteArray := prog_14_method_65_code
def yX12_most : MethodName := ⟨RX12, "most", "(II)I"⟩
abbrev cX12_firstOf : ByteArray := prog_14_method_66_code
def yX12_firstOf : MethodName := ⟨RX12, "firstOf", "(III)I"⟩
abbrev cX12_besideOf : ByteArray := prog_14_method_67_code
def yX12_besideOf : MethodName := ⟨RX12, "besideOf", "(III)I"⟩
abbrev cX12_first : ByteArray := prog_14_method_68_code
def yX12_first : MethodName := ⟨RX12, "first", "(III)I"⟩
abbrev cX12_beside : ByteArray := prog_14_method_69_code
def yX12_beside : MethodName := ⟨RX12, "beside", "(III)I"⟩
abbrev cX12_swings : ByteArray := prog_14_method_70_code
def yX12_swings : MethodName := ⟨RX12, "swings", "(I)I"⟩
abbrev cX12_isHearing : ByteArray := prog_14_method_71_code
def yX12_isHearing : MethodName := ⟨RX12, "isHearing", "(I)Z"⟩
abbrev cX12_hearing : ByteArray := prog_14_method_72_code
def yX12_hearing : MethodName := ⟨RX12, "hearing", "(I)I"⟩
abbrev cX12_ask : ByteArray := prog_14_method_73_code
def yX12_ask : MethodName := ⟨RX12, "ask", "(I)I"⟩
abbrev cX12_vote : ByteArray := prog_14_method_74_code
def yX12_vote : MethodName := ⟨RX12, "vote", "(IIZ)I"⟩
abbrev cX12_event : ByteArray := prog_14_method_75_code
def yX12_event : MethodName := ⟨RX12, "event", "(III)V"⟩
abbrev cX12_settledOf : ByteArray := prog_14_method_76_code
def yX12_settledOf : MethodName := ⟨RX12, "settledOf", "(III)I"⟩
abbrev cX12_isNear : ByteArray := prog_14_method_77_code
def yX12_isNear : MethodName := ⟨RX12, "isNear", "(III)Z"⟩
abbrev cX12_isTooAlike : ByteArray := prog_14_method_78_code
def yX12_isTooAlike : MethodName := ⟨RX12, "isTooAlike", "(I)Z"⟩
abbrev cX12_close : ByteArray := prog_14_method_79_code
def yX12_close : MethodName := ⟨RX12, "close", "(I)I"⟩
abbrev cX12_settled : ByteArray := prog_14_method_80_code
def yX12_settled : MethodName := ⟨RX12, "settled", "(IIII)I"⟩
abbrev cX12_undo : ByteArray := prog_14_method_81_code
def yX12_undo : MethodName := ⟨RX12, "undo", "(II)I"⟩
abbrev cX12_shows : ByteArray := prog_14_method_82_code
def yX12_shows : MethodName := ⟨RX12, "shows", "(III)V"⟩
abbrev cX12_shown : ByteArray := prog_14_method_83_code
def yX12_shown : MethodName := ⟨RX12, "shown", "(III)I"⟩
abbrev cX12_sign : ByteArray := prog_14_method_84_code
def yX12_sign : MethodName := ⟨RX12, "sign", "(II)I"⟩
abbrev cX12_isSign0 : ByteArray := prog_14_method_85_code
def yX12_isSign0 : MethodName := ⟨RX12, "isSign0", "(I)Z"⟩
abbrev cX12_signIs : ByteArray := prog_14_method_86_code
def yX12_signIs : MethodName := ⟨RX12, "signIs", "(II)I"⟩
abbrev cX12_anew : ByteArray := prog_14_method_87_code
def yX12_anew : MethodName := ⟨RX12, "anew", "(I)I"⟩
abbrev cX12_isLame : ByteArray := prog_14_method_88_code
def yX12_isLame : MethodName := ⟨RX12, "isLame", "(I)Z"⟩
abbrev cX12_lameSince : ByteArray := prog_14_method_89_code
def yX12_lameSince : MethodName := ⟨RX12, "lameSince", "(I)I"⟩
abbrev cX12_signOf : ByteArray := prog_14_method_90_code
def yX12_signOf : MethodName := ⟨RX12, "signOf", "(II)I"⟩
abbrev cX12_mayBe : ByteArray := prog_14_method_91_code
def yX12_mayBe : MethodName := ⟨RX12, "mayBe", "(III)Z"⟩
abbrev cX12_bits : ByteArray := prog_14_method_92_code
def yX12_bits : MethodName := ⟨RX12, "bits", "(I)I"⟩
abbrev cX12_leastOf : ByteArray := prog_14_method_93_code
def yX12_leastOf : MethodName := ⟨RX12, "leastOf", "(I)I"⟩
abbrev cX12_plan : ByteArray := prog_14_method_94_code
def yX12_plan : MethodName := ⟨RX12, "plan", "(I)I"⟩
abbrev cX12_planned : ByteArray := prog_14_method_95_code
def yX12_planned : MethodName := ⟨RX12, "planned", "(I)I"⟩
abbrev cX12_paper : ByteArray := prog_14_method_96_code
def yX12_paper : MethodName := ⟨RX12, "paper", "(I)I"⟩
abbrev cX12_written : ByteArray := prog_14_method_97_code
def yX12_written : MethodName := ⟨RX12, "written", "()I"⟩
abbrev cX12_hasName : ByteArray := prog_14_method_98_code
def yX12_hasName : MethodName := ⟨RX12, "hasName", "(I)Z"⟩
abbrev cX12_givesOf : ByteArray := prog_14_method_99_code
def yX12_givesOf : MethodName := ⟨RX12, "givesOf", "(II)I"⟩
abbrev cX12_joins : ByteArray := prog_14_method_100_code
def yX12_joins : MethodName := ⟨RX12, "joins", "(III)V"⟩
abbrev cX12_join : ByteArray := prog_14_method_101_code
def yX12_join : MethodName := ⟨RX12, "join", "()I"⟩
abbrev cX12_joined : ByteArray := prog_14_method_102_code
def yX12_joined : MethodName := ⟨RX12, "joined", "(I)I"⟩
abbrev cX12_settledNow : ByteArray := prog_14_method_103_code
def yX12_settledNow : MethodName := ⟨RX12, "settledNow", "()I"⟩
abbrev cX12_count : ByteArray := prog_14_method_104_code
def yX12_count : MethodName := ⟨RX12, "count", "(I)I"⟩
abbrev cX12_isSlot : ByteArray := prog_14_method_105_code
def yX12_isSlot : MethodName := ⟨RX12, "isSlot", "(I)Z"⟩
abbrev cX12_cut : ByteArray := prog_14_method_106_code
def yX12_cut : MethodName := ⟨RX12, "cut", "(JI)J"⟩
abbrev cX12_row : ByteArray := prog_14_method_107_code
def yX12_row : MethodName := ⟨RX12, "row", "(III)I"⟩
abbrev cX12_tear : ByteArray := prog_14_method_108_code
def yX12_tear : MethodName := ⟨RX12, "tear", "(I)Z"⟩
abbrev cX12_write : ByteArray := prog_14_method_109_code
def yX12_write : MethodName := ⟨RX12, "write", "(IIJ)I"⟩
abbrev cX12_paste : ByteArray := prog_14_method_110_code
def yX12_paste : MethodName := ⟨RX12, "paste", "(IIIII)I"⟩
abbrev cX12_counted : ByteArray := prog_14_method_111_code
def yX12_counted : MethodName := ⟨RX12, "counted", "(I)I"⟩
def RJ6 : String := "java/lang/Integer"
def TJ6 : u_T := fun k => match k with
  | _ => ("", "", "", false)
def tyJ6 : Nat → FieldType := fun k => match k with
  | _ => .int
abbrev wsJ60 : List Cond := u_ws RJ6 TJ6 0
theorem nmJ6 : ∀ a, a < 0 → ∀ b, b < 0 → a ≠ b → (TJ6 a).2.1 ≠ (TJ6 b).2.1 := by decide +kernel
theorem tyJ6_ok : ∀ k, k < 0 → parseFieldDescriptor (TJ6 k).2.2.1 = some (tyJ6 k) := by decide +kernel
abbrev cJ6_bitCount_0f7a4 : ByteArray := prog_15_method_49_code
def yJ6_bitCount_0f7a4 : MethodName := ⟨RJ6, "bitCount", "(I)I"⟩
def RJ9 : String := "java/lang/Math"
def TJ9 : u_T := fun k => match k with
  | _ => ("", "", "", false)
def tyJ9 : Nat → FieldType := fun k => match k with
  | _ => .int
abbrev wsJ90 : List Cond := u_ws RJ9 TJ9 0
theorem nmJ9 : ∀ a, a < 0 → ∀ b, b < 0 → a ≠ b → (TJ9 a).2.1 ≠ (TJ9 b).2.1 := by decide +kernel
theorem tyJ9_ok : ∀ k, k < 0 → parseFieldDescriptor (TJ9 k).2.2.1 = some (tyJ9 k) := by decide +kernel
abbrev cJ9_max_7cf53 : ByteArray := prog_16_method_65_code
def yJ9_max_7cf53 : MethodName := ⟨RJ9, "max", "(II)I"⟩
abbrev cJ9_min_7cf53 : ByteArray := prog_16_method_69_code
def yJ9_min_7cf53 : MethodName := ⟨RJ9, "min", "(II)I"⟩
abbrev cJ9_min_f86c9 : ByteArray := prog_16_method_70_code
def yJ9_min_f86c9 : MethodName := ⟨RJ9, "min", "(JJ)J"⟩
def RJ0 : String := "java/lang/String"
def TJ0 : u_T := fun k => match k with
  | _ => ("", "", "", false)
def tyJ0 : Nat → FieldType := fun k => match k with
  | _ => .int
abbrev wsJ00 : List Cond := u_ws RJ0 TJ0 0
theorem nmJ0 : ∀ a, a < 0 → ∀ b, b < 0 → a ≠ b → (TJ0 a).2.1 ≠ (TJ0 b).2.1 := by decide +kernel
theorem tyJ0_ok : ∀ k, k < 0 → parseFieldDescriptor (TJ0 k).2.2.1 = some (tyJ0 k) := by decide +kernel
abbrev cJ0_length_8abf5 : ByteArray := prog_17_method_54_code
def yJ0_length_8abf5 : MethodName := ⟨RJ0, "length", "()I"⟩
abbrev cJ0_charAt_5068e : ByteArray := prog_17_method_56_code
def yJ0_charAt_5068e : MethodName := ⟨RJ0, "charAt", "(I)C"⟩
abbrev cJ0_coder_7d493 : ByteArray := prog_17_method_152_code
def yJ0_coder_7d493 : MethodName := ⟨RJ0, "coder", "()B"⟩
abbrev cJ0_isLatin1_aae02 : ByteArray := prog_17_method_154_code
def yJ0_isLatin1_aae02 : MethodName := ⟨RJ0, "isLatin1", "()Z"⟩
abbrev cJ0_checkIndex_df160 : ByteArray := prog_17_method_155_code
def yJ0_checkIndex_df160 : MethodName := ⟨RJ0, "checkIndex", "(II)V"⟩
def RJ1 : String := "java/lang/StringLatin1"
def TJ1 : u_T := fun k => match k with
  | _ => ("", "", "", false)
def tyJ1 : Nat → FieldType := fun k => match k with
  | _ => .int
abbrev wsJ10 : List Cond := u_ws RJ1 TJ1 0
theorem nmJ1 : ∀ a, a < 0 → ∀ b, b < 0 → a ≠ b → (TJ1 a).2.1 ≠ (TJ1 b).2.1 := by decide +kernel
theorem tyJ1_ok : ∀ k, k < 0 → parseFieldDescriptor (TJ1 k).2.2.1 = some (tyJ1 k) := by decide +kernel
abbrev cJ1_charAt_3b067 : ByteArray := prog_18_method_2_code
def yJ1_charAt_3b067 : MethodName := ⟨RJ1, "charAt", "([BI)C"⟩
def RJ2 : String := "java/lang/StringUTF16"
def TJ2 : u_T := fun k => match k with
  | _ => ("", "", "", false)
def tyJ2 : Nat → FieldType := fun k => match k with
  | _ => .int
abbrev wsJ20 : List Cond := u_ws RJ2 TJ2 0
theorem nmJ2 : ∀ a, a < 0 → ∀ b, b < 0 → a ≠ b → (TJ2 a).2.1 ≠ (TJ2 b).2.1 := by decide +kernel
theorem tyJ2_ok : ∀ k, k < 0 → parseFieldDescriptor (TJ2 k).2.2.1 = some (tyJ2 k) := by decide +kernel
abbrev cJ2_getChar_3b067 : ByteArray := prog_19_method_5_code
def yJ2_getChar_3b067 : MethodName := ⟨RJ2, "getChar", "([BI)C"⟩
abbrev cJ2_length_9d52b : ByteArray := prog_19_method_6_code
def yJ2_length_9d52b : MethodName := ⟨RJ2, "length", "([B)I"⟩
abbrev cJ2_charAt_3b067 : ByteArray := prog_19_method_83_code
def yJ2_charAt_3b067 : MethodName := ⟨RJ2, "charAt", "([BI)C"⟩
abbrev cJ2_checkIndex_2214a : ByteArray := prog_19_method_91_code
def yJ2_checkIndex_2214a : MethodName := ⟨RJ2, "checkIndex", "(I[B)V"⟩
def RJ10 : String := "java/lang/System"
def TJ10 : u_T := fun k => match k with
  | _ => ("", "", "", false)
def tyJ10 : Nat → FieldType := fun k => match k with
  | _ => .int
abbrev wsJ100 : List Cond := u_ws RJ10 TJ10 0
theorem nmJ10 : ∀ a, a < 0 → ∀ b, b < 0 → a ≠ b → (TJ10 a).2.1 ≠ (TJ10 b).2.1 := by decide +kernel
theorem tyJ10_ok : ∀ k, k < 0 → parseFieldDescriptor (TJ10 k).2.2.1 = some (tyJ10 k) := by decide +kernel
def RJ7 : String := "java/util/Arrays"
def TJ7 : u_T := fun k => match k with
  | _ => ("", "", "", false)
def tyJ7 : Nat → FieldType := fun k => match k with
  | _ => .int
abbrev wsJ70 : List Cond := u_ws RJ7 TJ7 0
theorem nmJ7 : ∀ a, a < 0 → ∀ b, b < 0 → a ≠ b → (TJ7 a).2.1 ≠ (TJ7 b).2.1 := by decide +kernel
theorem tyJ7_ok : ∀ k, k < 0 → parseFieldDescriptor (TJ7 k).2.2.1 = some (tyJ7 k) := by decide +kernel
abbrev cJ7_fill_53178 : ByteArray := prog_21_method_103_code
def yJ7_fill_53178 : MethodName := ⟨RJ7, "fill", "([II)V"⟩
def RJ3 : String := "jdk/internal/util/Preconditions"
def TJ3 : u_T := fun k => match k with
  | _ => ("", "", "", false)
def tyJ3 : Nat → FieldType := fun k => match k with
  | _ => .int
abbrev wsJ30 : List Cond := u_ws RJ3 TJ3 0
theorem nmJ3 : ∀ a, a < 0 → ∀ b, b < 0 → a ≠ b → (TJ3 a).2.1 ≠ (TJ3 b).2.1 := by decide +kernel
theorem tyJ3_ok : ∀ k, k < 0 → parseFieldDescriptor (TJ3 k).2.2.1 = some (tyJ3 k) := by decide +kernel
abbrev cJ3_checkIndex_8e157 : ByteArray := prog_22_method_11_code
def yJ3_checkIndex_8e157 : MethodName := ⟨RJ3, "checkIndex", "(IILjava/util/function/BiFunction;)I"⟩
abbrev cL_law : ByteArray := code
abbrev vwCl : List vw_C := [(RX0, TX0, 12), (RX1, TX1, 12), (RX2, TX2, 11), (RX3, TX3, 10), (RX4, TX4, 6), (RX5, TX5, 3), (RX6, TX6, 4), (RX7, TX7, 16), (RX8, TX8, 7), (RX9, TX9, 8), (RX10, TX10, 11), (RX11, TX11, 10), (RX12, TX12, 52)]
def lwG : List Cond := lw_tbl.filter goodWord
theorem lwG_of {w : Cond} (i : Nat) (h : lw_tbl[i]? = some w) (hg : goodWord w = true) : w ∈ lwG := List.mem_filter.mpr ⟨List.mem_of_getElem? h, hg⟩
theorem lwG_tbl {w : Cond} (h : w ∈ lwG) : w ∈ lw_tbl := (List.mem_filter.mp h).1
theorem lwG_good {w : Cond} (h : w ∈ lwG) : goodWord w = true := (List.mem_filter.mp h).2
set_option maxRecDepth 20000 in
theorem inU0 : ∀ w ∈ u_ws RX0 TX0 12, w ∈ lw_tbl := by decide +kernel
theorem inT0 : ∀ w ∈ u_ws RX0 TX0 12, w ∈ lwG := fun w h => List.mem_filter.mpr ⟨inU0 w h, List.all_eq_true.mp (show (u_ws RX0 TX0 12).all goodWord = true by decide +kernel) w h⟩
set_option maxRecDepth 20000 in
theorem inU1 : ∀ w ∈ u_ws RX1 TX1 12, w ∈ lw_tbl := by decide +kernel
theorem inT1 : ∀ w ∈ u_ws RX1 TX1 12, w ∈ lwG := fun w h => List.mem_filter.mpr ⟨inU1 w h, List.all_eq_true.mp (show (u_ws RX1 TX1 12).all goodWord = true by decide +kernel) w h⟩
set_option maxRecDepth 20000 in
theorem inU2 : ∀ w ∈ u_ws RX2 TX2 11, w ∈ lw_tbl := by decide +kernel
theorem inT2 : ∀ w ∈ u_ws RX2 TX2 11, w ∈ lwG := fun w h => List.mem_filter.mpr ⟨inU2 w h, List.all_eq_true.mp (show (u_ws RX2 TX2 11).all goodWord = true by decide +kernel) w h⟩
set_option maxRecDepth 20000 in
theorem inU3 : ∀ w ∈ u_ws RX3 TX3 10, w ∈ lw_tbl := by decide +kernel
theorem inT3 : ∀ w ∈ u_ws RX3 TX3 10, w ∈ lwG := fun w h => List.mem_filter.mpr ⟨inU3 w h, List.all_eq_true.mp (show (u_ws RX3 TX3 10).all goodWord = true by decide +kernel) w h⟩
set_option maxRecDepth 20000 in
theorem inU4 : ∀ w ∈ u_ws RX4 TX4 6, w ∈ lw_tbl := by decide +kernel
theorem inT4 : ∀ w ∈ u_ws RX4 TX4 6, w ∈ lwG := fun w h => List.mem_filter.mpr ⟨inU4 w h, List.all_eq_true.mp (show (u_ws RX4 TX4 6).all goodWord = true by decide +kernel) w h⟩
set_option maxRecDepth 20000 in
theorem inU5 : ∀ w ∈ u_ws RX5 TX5 3, w ∈ lw_tbl := by decide +kernel
theorem inT5 : ∀ w ∈ u_ws RX5 TX5 3, w ∈ lwG := fun w h => List.mem_filter.mpr ⟨inU5 w h, List.all_eq_true.mp (show (u_ws RX5 TX5 3).all goodWord = true by decide +kernel) w h⟩
set_option maxRecDepth 20000 in
theorem inU6 : ∀ w ∈ u_ws RX6 TX6 4, w ∈ lw_tbl := by decide +kernel
theorem inT6 : ∀ w ∈ u_ws RX6 TX6 4, w ∈ lwG := fun w h => List.mem_filter.mpr ⟨inU6 w h, List.all_eq_true.mp (show (u_ws RX6 TX6 4).all goodWord = true by decide +kernel) w h⟩
set_option maxRecDepth 20000 in
theorem inU7 : ∀ w ∈ u_ws RX7 TX7 16, w ∈ lw_tbl := by decide +kernel
theorem inT7 : ∀ w ∈ u_ws RX7 TX7 16, w ∈ lwG := fun w h => List.mem_filter.mpr ⟨inU7 w h, List.all_eq_true.mp (show (u_ws RX7 TX7 16).all goodWord = true by decide +kernel) w h⟩
set_option maxRecDepth 20000 in
theorem inU8 : ∀ w ∈ u_ws RX8 TX8 7, w ∈ lw_tbl := by decide +kernel
theorem inT8 : ∀ w ∈ u_ws RX8 TX8 7, w ∈ lwG := fun w h => List.mem_filter.mpr ⟨inU8 w h, List.all_eq_true.mp (show (u_ws RX8 TX8 7).all goodWord = true by decide +kernel) w h⟩
set_option maxRecDepth 20000 in
theorem inU9 : ∀ w ∈ u_ws RX9 TX9 8, w ∈ lw_tbl := by decide +kernel
theorem inT9 : ∀ w ∈ u_ws RX9 TX9 8, w ∈ lwG := fun w h => List.mem_filter.mpr ⟨inU9 w h, List.all_eq_true.mp (show (u_ws RX9 TX9 8).all goodWord = true by decide +kernel) w h⟩
set_option maxRecDepth 20000 in
theorem inU10 : ∀ w ∈ u_ws RX10 TX10 11, w ∈ lw_tbl := by decide +kernel
theorem inT10 : ∀ w ∈ u_ws RX10 TX10 11, w ∈ lwG := fun w h => List.mem_filter.mpr ⟨inU10 w h, List.all_eq_true.mp (show (u_ws RX10 TX10 11).all goodWord = true by decide +kernel) w h⟩
set_option maxRecDepth 20000 in
theorem inU11 : ∀ w ∈ u_ws RX11 TX11 10, w ∈ lw_tbl := by decide +kernel
theorem inT11 : ∀ w ∈ u_ws RX11 TX11 10, w ∈ lwG := fun w h => List.mem_filter.mpr ⟨inU11 w h, List.all_eq_true.mp (show (u_ws RX11 TX11 10).all goodWord = true by decide +kernel) w h⟩
set_option maxRecDepth 20000 in
theorem inU12 : ∀ w ∈ u_ws RX12 TX12 52, w ∈ lw_tbl := by decide +kernel
theorem inT12 : ∀ w ∈ u_ws RX12 TX12 52, w ∈ lwG := fun w h => List.mem_filter.mpr ⟨inU12 w h, List.all_eq_true.mp (show (u_ws RX12 TX12 52).all goodWord = true by decide +kernel) w h⟩
