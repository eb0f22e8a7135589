section
-- ===== PART A: goes FIRST, ahead of the names: the tables' words, and 'selects' of the private methods out of them =====
/-- a private method of a class that the tables say can be made, by its rows of tables_1 -/
def lw_okq (q : MethodName × Nat) : Prop := (q.1.cls ≠ "java/lang/invoke/MethodHandle" ∧ q.1.cls ≠ "java/lang/invoke/VarHandle") ∧ Cond.instantiable q.1.cls q.2 ∈ tables_1 ∧ Cond.privateMethod q.1 ∈ tables_1 ∧ Cond.instanceMethod q.1 ∈ tables_1
theorem lw_p0 : lw_okq (⟨"NameBoard", "countPeople", "(JJJ)I"⟩, 10) := ⟨⟨by decide +kernel, by decide +kernel⟩, List.mem_of_getElem? (i := 23) (by decide +kernel), List.mem_of_getElem? (i := 581) (by decide +kernel), List.mem_of_getElem? (i := 582) (by decide +kernel)⟩
theorem lw_p1 : lw_okq (⟨"NameBoard", "taken", "(I)I"⟩, 10) := ⟨⟨by decide +kernel, by decide +kernel⟩, List.mem_of_getElem? (i := 23) (by decide +kernel), List.mem_of_getElem? (i := 751) (by decide +kernel), List.mem_of_getElem? (i := 752) (by decide +kernel)⟩
theorem lw_p2 : lw_okq (⟨"NameBoard", "rowsHad", "()I"⟩, 10) := ⟨⟨by decide +kernel, by decide +kernel⟩, List.mem_of_getElem? (i := 23) (by decide +kernel), List.mem_of_getElem? (i := 1180) (by decide +kernel), List.mem_of_getElem? (i := 1181) (by decide +kernel)⟩
theorem lw_p3 : lw_okq (⟨"NameBoard", "liesInRow", "(III)Z"⟩, 10) := ⟨⟨by decide +kernel, by decide +kernel⟩, List.mem_of_getElem? (i := 23) (by decide +kernel), List.mem_of_getElem? (i := 1240) (by decide +kernel), List.mem_of_getElem? (i := 1241) (by decide +kernel)⟩
theorem lw_p4 : lw_okq (⟨"NameBoardModel", "now", "()I"⟩, 52) := ⟨⟨by decide +kernel, by decide +kernel⟩, List.mem_of_getElem? (i := 1245) (by decide +kernel), List.mem_of_getElem? (i := 1433) (by decide +kernel), List.mem_of_getElem? (i := 1434) (by decide +kernel)⟩
theorem lw_p5 : lw_okq (⟨"NameBoardModel", "isPlace", "(I)Z"⟩, 52) := ⟨⟨by decide +kernel, by decide +kernel⟩, List.mem_of_getElem? (i := 1245) (by decide +kernel), List.mem_of_getElem? (i := 1446) (by decide +kernel), List.mem_of_getElem? (i := 1447) (by decide +kernel)⟩
theorem lw_p6 : lw_okq (⟨"NameBoardModel", "looks", "(I)V"⟩, 52) := ⟨⟨by decide +kernel, by decide +kernel⟩, List.mem_of_getElem? (i := 1245) (by decide +kernel), List.mem_of_getElem? (i := 1450) (by decide +kernel), List.mem_of_getElem? (i := 1451) (by decide +kernel)⟩
theorem lw_p7 : lw_okq (⟨"NameBoardModel", "addsUp", "()V"⟩, 52) := ⟨⟨by decide +kernel, by decide +kernel⟩, List.mem_of_getElem? (i := 1245) (by decide +kernel), List.mem_of_getElem? (i := 1454) (by decide +kernel), List.mem_of_getElem? (i := 1455) (by decide +kernel)⟩
theorem lw_p8 : lw_okq (⟨"NameBoardModel", "allOf", "(I)I"⟩, 52) := ⟨⟨by decide +kernel, by decide +kernel⟩, List.mem_of_getElem? (i := 1245) (by decide +kernel), List.mem_of_getElem? (i := 1474) (by decide +kernel), List.mem_of_getElem? (i := 1475) (by decide +kernel)⟩
theorem lw_p9 : lw_okq (⟨"NameBoardModel", "isLetters", "(I)Z"⟩, 52) := ⟨⟨by decide +kernel, by decide +kernel⟩, List.mem_of_getElem? (i := 1245) (by decide +kernel), List.mem_of_getElem? (i := 1482) (by decide +kernel), List.mem_of_getElem? (i := 1483) (by decide +kernel)⟩
theorem lw_p10 : lw_okq (⟨"NameBoardModel", "begins", "(Z)V"⟩, 52) := ⟨⟨by decide +kernel, by decide +kernel⟩, List.mem_of_getElem? (i := 1245) (by decide +kernel), List.mem_of_getElem? (i := 1496) (by decide +kernel), List.mem_of_getElem? (i := 1497) (by decide +kernel)⟩
theorem lw_p11 : lw_okq (⟨"NameBoardModel", "next", "()V"⟩, 52) := ⟨⟨by decide +kernel, by decide +kernel⟩, List.mem_of_getElem? (i := 1245) (by decide +kernel), List.mem_of_getElem? (i := 1500) (by decide +kernel), List.mem_of_getElem? (i := 1501) (by decide +kernel)⟩
theorem lw_p12 : lw_okq (⟨"NameBoardModel", "see", "(I)I"⟩, 52) := ⟨⟨by decide +kernel, by decide +kernel⟩, List.mem_of_getElem? (i := 1245) (by decide +kernel), List.mem_of_getElem? (i := 1504) (by decide +kernel), List.mem_of_getElem? (i := 1505) (by decide +kernel)⟩
theorem lw_p13 : lw_okq (⟨"NameBoardModel", "good", "()Z"⟩, 52) := ⟨⟨by decide +kernel, by decide +kernel⟩, List.mem_of_getElem? (i := 1245) (by decide +kernel), List.mem_of_getElem? (i := 1511) (by decide +kernel), List.mem_of_getElem? (i := 1512) (by decide +kernel)⟩
theorem lw_p14 : lw_okq (⟨"NameBoardModel", "is", "(Ljava/lang/String;)Z"⟩, 52) := ⟨⟨by decide +kernel, by decide +kernel⟩, List.mem_of_getElem? (i := 1245) (by decide +kernel), List.mem_of_getElem? (i := 1516) (by decide +kernel), List.mem_of_getElem? (i := 1517) (by decide +kernel)⟩
theorem lw_p15 : lw_okq (⟨"NameBoardModel", "isRuleWord", "()Z"⟩, 52) := ⟨⟨by decide +kernel, by decide +kernel⟩, List.mem_of_getElem? (i := 1245) (by decide +kernel), List.mem_of_getElem? (i := 1522) (by decide +kernel), List.mem_of_getElem? (i := 1523) (by decide +kernel)⟩
def lw_privs_1 : List (MethodName × Nat) := [(⟨"NameBoard", "countPeople", "(JJJ)I"⟩, 10), (⟨"NameBoard", "taken", "(I)I"⟩, 10), (⟨"NameBoard", "rowsHad", "()I"⟩, 10), (⟨"NameBoard", "liesInRow", "(III)Z"⟩, 10), (⟨"NameBoardModel", "now", "()I"⟩, 52), (⟨"NameBoardModel", "isPlace", "(I)Z"⟩, 52), (⟨"NameBoardModel", "looks", "(I)V"⟩, 52), (⟨"NameBoardModel", "addsUp", "()V"⟩, 52), (⟨"NameBoardModel", "allOf", "(I)I"⟩, 52), (⟨"NameBoardModel", "isLetters", "(I)Z"⟩, 52), (⟨"NameBoardModel", "begins", "(Z)V"⟩, 52), (⟨"NameBoardModel", "next", "()V"⟩, 52), (⟨"NameBoardModel", "see", "(I)I"⟩, 52), (⟨"NameBoardModel", "good", "()Z"⟩, 52), (⟨"NameBoardModel", "is", "(Ljava/lang/String;)Z"⟩, 52), (⟨"NameBoardModel", "isRuleWord", "()Z"⟩, 52)]
theorem lw_r1 : ∀ q ∈ lw_privs_1, lw_okq q := List.forall_mem_cons.mpr ⟨lw_p0, List.forall_mem_cons.mpr ⟨lw_p1, List.forall_mem_cons.mpr ⟨lw_p2, List.forall_mem_cons.mpr ⟨lw_p3, List.forall_mem_cons.mpr ⟨lw_p4, List.forall_mem_cons.mpr ⟨lw_p5, List.forall_mem_cons.mpr ⟨lw_p6, List.forall_mem_cons.mpr ⟨lw_p7, List.forall_mem_cons.mpr ⟨lw_p8, List.forall_mem_cons.mpr ⟨lw_p9, List.forall_mem_cons.mpr ⟨lw_p10, List.forall_mem_cons.mpr ⟨lw_p11, List.forall_mem_cons.mpr ⟨lw_p12, List.forall_mem_cons.mpr ⟨lw_p13, List.forall_mem_cons.mpr ⟨lw_p14, List.forall_mem_cons.mpr ⟨lw_p15, fun _ h => absurd h List.not_mem_nil⟩⟩⟩⟩⟩⟩⟩⟩⟩⟩⟩⟩⟩⟩⟩⟩
theorem lw_p16 : lw_okq (⟨"NameBoardModel", "wrong", "(I)V"⟩, 52) := ⟨⟨by decide +kernel, by decide +kernel⟩, List.mem_of_getElem? (i := 1245) (by decide +kernel), List.mem_of_getElem? (i := 1526) (by decide +kernel), List.mem_of_getElem? (i := 1527) (by decide +kernel)⟩
theorem lw_p17 : lw_okq (⟨"NameBoardModel", "rule", "(I)V"⟩, 52) := ⟨⟨by decide +kernel, by decide +kernel⟩, List.mem_of_getElem? (i := 1245) (by decide +kernel), List.mem_of_getElem? (i := 1530) (by decide +kernel), List.mem_of_getElem? (i := 1531) (by decide +kernel)⟩
theorem lw_p18 : lw_okq (⟨"NameBoardModel", "takes", "(Ljava/lang/String;)Z"⟩, 52) := ⟨⟨by decide +kernel, by decide +kernel⟩, List.mem_of_getElem? (i := 1245) (by decide +kernel), List.mem_of_getElem? (i := 1534) (by decide +kernel), List.mem_of_getElem? (i := 1535) (by decide +kernel)⟩
theorem lw_p19 : lw_okq (⟨"NameBoardModel", "set", "(I)V"⟩, 52) := ⟨⟨by decide +kernel, by decide +kernel⟩, List.mem_of_getElem? (i := 1245) (by decide +kernel), List.mem_of_getElem? (i := 1538) (by decide +kernel), List.mem_of_getElem? (i := 1539) (by decide +kernel)⟩
theorem lw_p20 : lw_okq (⟨"NameBoardModel", "isSign", "(I)Z"⟩, 52) := ⟨⟨by decide +kernel, by decide +kernel⟩, List.mem_of_getElem? (i := 1245) (by decide +kernel), List.mem_of_getElem? (i := 1542) (by decide +kernel), List.mem_of_getElem? (i := 1543) (by decide +kernel)⟩
theorem lw_p21 : lw_okq (⟨"NameBoardModel", "ruleWord", "(I)V"⟩, 52) := ⟨⟨by decide +kernel, by decide +kernel⟩, List.mem_of_getElem? (i := 1245) (by decide +kernel), List.mem_of_getElem? (i := 1547) (by decide +kernel), List.mem_of_getElem? (i := 1548) (by decide +kernel)⟩
theorem lw_p22 : lw_okq (⟨"NameBoardModel", "needSign", "(I)V"⟩, 52) := ⟨⟨by decide +kernel, by decide +kernel⟩, List.mem_of_getElem? (i := 1245) (by decide +kernel), List.mem_of_getElem? (i := 1551) (by decide +kernel), List.mem_of_getElem? (i := 1552) (by decide +kernel)⟩
theorem lw_p23 : lw_okq (⟨"NameBoardModel", "isName", "(I)Z"⟩, 52) := ⟨⟨by decide +kernel, by decide +kernel⟩, List.mem_of_getElem? (i := 1245) (by decide +kernel), List.mem_of_getElem? (i := 1559) (by decide +kernel), List.mem_of_getElem? (i := 1560) (by decide +kernel)⟩
theorem lw_p24 : lw_okq (⟨"NameBoardModel", "spells", "(II)V"⟩, 52) := ⟨⟨by decide +kernel, by decide +kernel⟩, List.mem_of_getElem? (i := 1245) (by decide +kernel), List.mem_of_getElem? (i := 1563) (by decide +kernel), List.mem_of_getElem? (i := 1564) (by decide +kernel)⟩
theorem lw_p25 : lw_okq (⟨"NameBoardModel", "nameIs", "(II)I"⟩, 52) := ⟨⟨by decide +kernel, by decide +kernel⟩, List.mem_of_getElem? (i := 1245) (by decide +kernel), List.mem_of_getElem? (i := 1567) (by decide +kernel), List.mem_of_getElem? (i := 1568) (by decide +kernel)⟩
theorem lw_p26 : lw_okq (⟨"NameBoardModel", "spellingOf", "(II)I"⟩, 52) := ⟨⟨by decide +kernel, by decide +kernel⟩, List.mem_of_getElem? (i := 1245) (by decide +kernel), List.mem_of_getElem? (i := 1571) (by decide +kernel), List.mem_of_getElem? (i := 1572) (by decide +kernel)⟩
theorem lw_p27 : lw_okq (⟨"NameBoardModel", "fits", "(IIII)Z"⟩, 52) := ⟨⟨by decide +kernel, by decide +kernel⟩, List.mem_of_getElem? (i := 1245) (by decide +kernel), List.mem_of_getElem? (i := 1575) (by decide +kernel), List.mem_of_getElem? (i := 1576) (by decide +kernel)⟩
theorem lw_p28 : lw_okq (⟨"NameBoardModel", "lays", "(II)V"⟩, 52) := ⟨⟨by decide +kernel, by decide +kernel⟩, List.mem_of_getElem? (i := 1245) (by decide +kernel), List.mem_of_getElem? (i := 1582) (by decide +kernel), List.mem_of_getElem? (i := 1583) (by decide +kernel)⟩
theorem lw_p29 : lw_okq (⟨"NameBoardModel", "takesInHand", "()I"⟩, 52) := ⟨⟨by decide +kernel, by decide +kernel⟩, List.mem_of_getElem? (i := 1245) (by decide +kernel), List.mem_of_getElem? (i := 1586) (by decide +kernel), List.mem_of_getElem? (i := 1587) (by decide +kernel)⟩
theorem lw_p30 : lw_okq (⟨"NameBoardModel", "holds", "()V"⟩, 52) := ⟨⟨by decide +kernel, by decide +kernel⟩, List.mem_of_getElem? (i := 1245) (by decide +kernel), List.mem_of_getElem? (i := 1602) (by decide +kernel), List.mem_of_getElem? (i := 1603) (by decide +kernel)⟩
theorem lw_p31 : lw_okq (⟨"NameBoardModel", "isAlike", "()Z"⟩, 52) := ⟨⟨by decide +kernel, by decide +kernel⟩, List.mem_of_getElem? (i := 1245) (by decide +kernel), List.mem_of_getElem? (i := 1606) (by decide +kernel), List.mem_of_getElem? (i := 1607) (by decide +kernel)⟩
def lw_privs_2 : List (MethodName × Nat) := [(⟨"NameBoardModel", "wrong", "(I)V"⟩, 52), (⟨"NameBoardModel", "rule", "(I)V"⟩, 52), (⟨"NameBoardModel", "takes", "(Ljava/lang/String;)Z"⟩, 52), (⟨"NameBoardModel", "set", "(I)V"⟩, 52), (⟨"NameBoardModel", "isSign", "(I)Z"⟩, 52), (⟨"NameBoardModel", "ruleWord", "(I)V"⟩, 52), (⟨"NameBoardModel", "needSign", "(I)V"⟩, 52), (⟨"NameBoardModel", "isName", "(I)Z"⟩, 52), (⟨"NameBoardModel", "spells", "(II)V"⟩, 52), (⟨"NameBoardModel", "nameIs", "(II)I"⟩, 52), (⟨"NameBoardModel", "spellingOf", "(II)I"⟩, 52), (⟨"NameBoardModel", "fits", "(IIII)Z"⟩, 52), (⟨"NameBoardModel", "lays", "(II)V"⟩, 52), (⟨"NameBoardModel", "takesInHand", "()I"⟩, 52), (⟨"NameBoardModel", "holds", "()V"⟩, 52), (⟨"NameBoardModel", "isAlike", "()Z"⟩, 52)]
theorem lw_r2 : ∀ q ∈ lw_privs_2, lw_okq q := List.forall_mem_cons.mpr ⟨lw_p16, List.forall_mem_cons.mpr ⟨lw_p17, List.forall_mem_cons.mpr ⟨lw_p18, List.forall_mem_cons.mpr ⟨lw_p19, List.forall_mem_cons.mpr ⟨lw_p20, List.forall_mem_cons.mpr ⟨lw_p21, List.forall_mem_cons.mpr ⟨lw_p22, List.forall_mem_cons.mpr ⟨lw_p23, List.forall_mem_cons.mpr ⟨lw_p24, List.forall_mem_cons.mpr ⟨lw_p25, List.forall_mem_cons.mpr ⟨lw_p26, List.forall_mem_cons.mpr ⟨lw_p27, List.forall_mem_cons.mpr ⟨lw_p28, List.forall_mem_cons.mpr ⟨lw_p29, List.forall_mem_cons.mpr ⟨lw_p30, List.forall_mem_cons.mpr ⟨lw_p31, fun _ h => absurd h List.not_mem_nil⟩⟩⟩⟩⟩⟩⟩⟩⟩⟩⟩⟩⟩⟩⟩⟩
theorem lw_p32 : lw_okq (⟨"NameBoardModel", "editsOf", "(III)I"⟩, 52) := ⟨⟨by decide +kernel, by decide +kernel⟩, List.mem_of_getElem? (i := 1245) (by decide +kernel), List.mem_of_getElem? (i := 1614) (by decide +kernel), List.mem_of_getElem? (i := 1615) (by decide +kernel)⟩
theorem lw_p33 : lw_okq (⟨"NameBoardModel", "apart", "()I"⟩, 52) := ⟨⟨by decide +kernel, by decide +kernel⟩, List.mem_of_getElem? (i := 1245) (by decide +kernel), List.mem_of_getElem? (i := 1618) (by decide +kernel), List.mem_of_getElem? (i := 1619) (by decide +kernel)⟩
theorem lw_p34 : lw_okq (⟨"NameBoardModel", "sortHere", "()I"⟩, 52) := ⟨⟨by decide +kernel, by decide +kernel⟩, List.mem_of_getElem? (i := 1245) (by decide +kernel), List.mem_of_getElem? (i := 1626) (by decide +kernel), List.mem_of_getElem? (i := 1627) (by decide +kernel)⟩
theorem lw_p35 : lw_okq (⟨"NameBoardModel", "line", "(I)V"⟩, 52) := ⟨⟨by decide +kernel, by decide +kernel⟩, List.mem_of_getElem? (i := 1245) (by decide +kernel), List.mem_of_getElem? (i := 1636) (by decide +kernel), List.mem_of_getElem? (i := 1637) (by decide +kernel)⟩
theorem lw_p36 : lw_okq (⟨"NameBoardModel", "number", "(I)I"⟩, 52) := ⟨⟨by decide +kernel, by decide +kernel⟩, List.mem_of_getElem? (i := 1245) (by decide +kernel), List.mem_of_getElem? (i := 1640) (by decide +kernel), List.mem_of_getElem? (i := 1641) (by decide +kernel)⟩
theorem lw_p37 : lw_okq (⟨"NameBoardModel", "cond", "(I)V"⟩, 52) := ⟨⟨by decide +kernel, by decide +kernel⟩, List.mem_of_getElem? (i := 1245) (by decide +kernel), List.mem_of_getElem? (i := 1646) (by decide +kernel), List.mem_of_getElem? (i := 1647) (by decide +kernel)⟩
theorem lw_p38 : lw_okq (⟨"NameBoardModel", "factHere", "()I"⟩, 52) := ⟨⟨by decide +kernel, by decide +kernel⟩, List.mem_of_getElem? (i := 1245) (by decide +kernel), List.mem_of_getElem? (i := 1651) (by decide +kernel), List.mem_of_getElem? (i := 1652) (by decide +kernel)⟩
theorem lw_p39 : lw_okq (⟨"NameBoardModel", "tongueHere", "()I"⟩, 52) := ⟨⟨by decide +kernel, by decide +kernel⟩, List.mem_of_getElem? (i := 1245) (by decide +kernel), List.mem_of_getElem? (i := 1659) (by decide +kernel), List.mem_of_getElem? (i := 1660) (by decide +kernel)⟩
theorem lw_p40 : lw_okq (⟨"NameBoardModel", "firstOf", "(III)I"⟩, 52) := ⟨⟨by decide +kernel, by decide +kernel⟩, List.mem_of_getElem? (i := 1245) (by decide +kernel), List.mem_of_getElem? (i := 1668) (by decide +kernel), List.mem_of_getElem? (i := 1669) (by decide +kernel)⟩
theorem lw_p41 : lw_okq (⟨"NameBoardModel", "actOf", "(I)I"⟩, 52) := ⟨⟨by decide +kernel, by decide +kernel⟩, List.mem_of_getElem? (i := 1245) (by decide +kernel), List.mem_of_getElem? (i := 1672) (by decide +kernel), List.mem_of_getElem? (i := 1673) (by decide +kernel)⟩
theorem lw_p42 : lw_okq (⟨"NameBoardModel", "holdFor", "(III)Z"⟩, 52) := ⟨⟨by decide +kernel, by decide +kernel⟩, List.mem_of_getElem? (i := 1245) (by decide +kernel), List.mem_of_getElem? (i := 1676) (by decide +kernel), List.mem_of_getElem? (i := 1677) (by decide +kernel)⟩
theorem lw_p43 : lw_okq (⟨"NameBoardModel", "partsOf", "(I)I"⟩, 52) := ⟨⟨by decide +kernel, by decide +kernel⟩, List.mem_of_getElem? (i := 1245) (by decide +kernel), List.mem_of_getElem? (i := 1680) (by decide +kernel), List.mem_of_getElem? (i := 1681) (by decide +kernel)⟩
theorem lw_p44 : lw_okq (⟨"NameBoardModel", "most", "(II)I"⟩, 52) := ⟨⟨by decide +kernel, by decide +kernel⟩, List.mem_of_getElem? (i := 1245) (by decide +kernel), List.mem_of_getElem? (i := 1684) (by decide +kernel), List.mem_of_getElem? (i := 1685) (by decide +kernel)⟩
theorem lw_p45 : lw_okq (⟨"NameBoardModel", "besideOf", "(III)I"⟩, 52) := ⟨⟨by decide +kernel, by decide +kernel⟩, List.mem_of_getElem? (i := 1245) (by decide +kernel), List.mem_of_getElem? (i := 1692) (by decide +kernel), List.mem_of_getElem? (i := 1693) (by decide +kernel)⟩
theorem lw_p46 : lw_okq (⟨"NameBoardModel", "hearing", "(I)I"⟩, 52) := ⟨⟨by decide +kernel, by decide +kernel⟩, List.mem_of_getElem? (i := 1245) (by decide +kernel), List.mem_of_getElem? (i := 1704) (by decide +kernel), List.mem_of_getElem? (i := 1705) (by decide +kernel)⟩
theorem lw_p47 : lw_okq (⟨"NameBoardModel", "isHearing", "(I)Z"⟩, 52) := ⟨⟨by decide +kernel, by decide +kernel⟩, List.mem_of_getElem? (i := 1245) (by decide +kernel), List.mem_of_getElem? (i := 1712) (by decide +kernel), List.mem_of_getElem? (i := 1713) (by decide +kernel)⟩
def lw_privs_3 : List (MethodName × Nat) := [(⟨"NameBoardModel", "editsOf", "(III)I"⟩, 52), (⟨"NameBoardModel", "apart", "()I"⟩, 52), (⟨"NameBoardModel", "sortHere", "()I"⟩, 52), (⟨"NameBoardModel", "line", "(I)V"⟩, 52), (⟨"NameBoardModel", "number", "(I)I"⟩, 52), (⟨"NameBoardModel", "cond", "(I)V"⟩, 52), (⟨"NameBoardModel", "factHere", "()I"⟩, 52), (⟨"NameBoardModel", "tongueHere", "()I"⟩, 52), (⟨"NameBoardModel", "firstOf", "(III)I"⟩, 52), (⟨"NameBoardModel", "actOf", "(I)I"⟩, 52), (⟨"NameBoardModel", "holdFor", "(III)Z"⟩, 52), (⟨"NameBoardModel", "partsOf", "(I)I"⟩, 52), (⟨"NameBoardModel", "most", "(II)I"⟩, 52), (⟨"NameBoardModel", "besideOf", "(III)I"⟩, 52), (⟨"NameBoardModel", "hearing", "(I)I"⟩, 52), (⟨"NameBoardModel", "isHearing", "(I)Z"⟩, 52)]
theorem lw_r3 : ∀ q ∈ lw_privs_3, lw_okq q := List.forall_mem_cons.mpr ⟨lw_p32, List.forall_mem_cons.mpr ⟨lw_p33, List.forall_mem_cons.mpr ⟨lw_p34, List.forall_mem_cons.mpr ⟨lw_p35, List.forall_mem_cons.mpr ⟨lw_p36, List.forall_mem_cons.mpr ⟨lw_p37, List.forall_mem_cons.mpr ⟨lw_p38, List.forall_mem_cons.mpr ⟨lw_p39, List.forall_mem_cons.mpr ⟨lw_p40, List.forall_mem_cons.mpr ⟨lw_p41, List.forall_mem_cons.mpr ⟨lw_p42, List.forall_mem_cons.mpr ⟨lw_p43, List.forall_mem_cons.mpr ⟨lw_p44, List.forall_mem_cons.mpr ⟨lw_p45, List.forall_mem_cons.mpr ⟨lw_p46, List.forall_mem_cons.mpr ⟨lw_p47, fun _ h => absurd h List.not_mem_nil⟩⟩⟩⟩⟩⟩⟩⟩⟩⟩⟩⟩⟩⟩⟩⟩
theorem lw_p48 : lw_okq (⟨"NameBoardModel", "termOf", "(III)I"⟩, 52) := ⟨⟨by decide +kernel, by decide +kernel⟩, List.mem_of_getElem? (i := 1245) (by decide +kernel), List.mem_of_getElem? (i := 1721) (by decide +kernel), List.mem_of_getElem? (i := 1722) (by decide +kernel)⟩
theorem lw_p49 : lw_okq (⟨"NameBoardModel", "isTooAlike", "(I)Z"⟩, 52) := ⟨⟨by decide +kernel, by decide +kernel⟩, List.mem_of_getElem? (i := 1245) (by decide +kernel), List.mem_of_getElem? (i := 1725) (by decide +kernel), List.mem_of_getElem? (i := 1726) (by decide +kernel)⟩
theorem lw_p50 : lw_okq (⟨"NameBoardModel", "isNear", "(III)Z"⟩, 52) := ⟨⟨by decide +kernel, by decide +kernel⟩, List.mem_of_getElem? (i := 1245) (by decide +kernel), List.mem_of_getElem? (i := 1729) (by decide +kernel), List.mem_of_getElem? (i := 1730) (by decide +kernel)⟩
theorem lw_p51 : lw_okq (⟨"NameBoardModel", "settledOf", "(III)I"⟩, 52) := ⟨⟨by decide +kernel, by decide +kernel⟩, List.mem_of_getElem? (i := 1245) (by decide +kernel), List.mem_of_getElem? (i := 1733) (by decide +kernel), List.mem_of_getElem? (i := 1734) (by decide +kernel)⟩
theorem lw_p52 : lw_okq (⟨"NameBoardModel", "event", "(III)V"⟩, 52) := ⟨⟨by decide +kernel, by decide +kernel⟩, List.mem_of_getElem? (i := 1245) (by decide +kernel), List.mem_of_getElem? (i := 1737) (by decide +kernel), List.mem_of_getElem? (i := 1738) (by decide +kernel)⟩
theorem lw_p53 : lw_okq (⟨"NameBoardModel", "shows", "(III)V"⟩, 52) := ⟨⟨by decide +kernel, by decide +kernel⟩, List.mem_of_getElem? (i := 1245) (by decide +kernel), List.mem_of_getElem? (i := 1753) (by decide +kernel), List.mem_of_getElem? (i := 1754) (by decide +kernel)⟩
theorem lw_p54 : lw_okq (⟨"NameBoardModel", "isSign0", "(I)Z"⟩, 52) := ⟨⟨by decide +kernel, by decide +kernel⟩, List.mem_of_getElem? (i := 1245) (by decide +kernel), List.mem_of_getElem? (i := 1766) (by decide +kernel), List.mem_of_getElem? (i := 1767) (by decide +kernel)⟩
theorem lw_p55 : lw_okq (⟨"NameBoardModel", "signIs", "(II)I"⟩, 52) := ⟨⟨by decide +kernel, by decide +kernel⟩, List.mem_of_getElem? (i := 1245) (by decide +kernel), List.mem_of_getElem? (i := 1775) (by decide +kernel), List.mem_of_getElem? (i := 1776) (by decide +kernel)⟩
theorem lw_p56 : lw_okq (⟨"NameBoardModel", "isLame", "(I)Z"⟩, 52) := ⟨⟨by decide +kernel, by decide +kernel⟩, List.mem_of_getElem? (i := 1245) (by decide +kernel), List.mem_of_getElem? (i := 1779) (by decide +kernel), List.mem_of_getElem? (i := 1780) (by decide +kernel)⟩
theorem lw_p57 : lw_okq (⟨"NameBoardModel", "lameSince", "(I)I"⟩, 52) := ⟨⟨by decide +kernel, by decide +kernel⟩, List.mem_of_getElem? (i := 1245) (by decide +kernel), List.mem_of_getElem? (i := 1783) (by decide +kernel), List.mem_of_getElem? (i := 1784) (by decide +kernel)⟩
theorem lw_p58 : lw_okq (⟨"NameBoardModel", "leastOf", "(I)I"⟩, 52) := ⟨⟨by decide +kernel, by decide +kernel⟩, List.mem_of_getElem? (i := 1245) (by decide +kernel), List.mem_of_getElem? (i := 1792) (by decide +kernel), List.mem_of_getElem? (i := 1793) (by decide +kernel)⟩
theorem lw_p59 : lw_okq (⟨"NameBoardModel", "mayBe", "(III)Z"⟩, 52) := ⟨⟨by decide +kernel, by decide +kernel⟩, List.mem_of_getElem? (i := 1245) (by decide +kernel), List.mem_of_getElem? (i := 1797) (by decide +kernel), List.mem_of_getElem? (i := 1798) (by decide +kernel)⟩
theorem lw_p60 : lw_okq (⟨"NameBoardModel", "bits", "(I)I"⟩, 52) := ⟨⟨by decide +kernel, by decide +kernel⟩, List.mem_of_getElem? (i := 1245) (by decide +kernel), List.mem_of_getElem? (i := 1801) (by decide +kernel), List.mem_of_getElem? (i := 1802) (by decide +kernel)⟩
theorem lw_p61 : lw_okq (⟨"NameBoardModel", "hasName", "(I)Z"⟩, 52) := ⟨⟨by decide +kernel, by decide +kernel⟩, List.mem_of_getElem? (i := 1245) (by decide +kernel), List.mem_of_getElem? (i := 1822) (by decide +kernel), List.mem_of_getElem? (i := 1823) (by decide +kernel)⟩
theorem lw_p62 : lw_okq (⟨"NameBoardModel", "givesOf", "(II)I"⟩, 52) := ⟨⟨by decide +kernel, by decide +kernel⟩, List.mem_of_getElem? (i := 1245) (by decide +kernel), List.mem_of_getElem? (i := 1826) (by decide +kernel), List.mem_of_getElem? (i := 1827) (by decide +kernel)⟩
theorem lw_p63 : lw_okq (⟨"NameBoardModel", "joins", "(III)V"⟩, 52) := ⟨⟨by decide +kernel, by decide +kernel⟩, List.mem_of_getElem? (i := 1245) (by decide +kernel), List.mem_of_getElem? (i := 1831) (by decide +kernel), List.mem_of_getElem? (i := 1832) (by decide +kernel)⟩
def lw_privs_4 : List (MethodName × Nat) := [(⟨"NameBoardModel", "termOf", "(III)I"⟩, 52), (⟨"NameBoardModel", "isTooAlike", "(I)Z"⟩, 52), (⟨"NameBoardModel", "isNear", "(III)Z"⟩, 52), (⟨"NameBoardModel", "settledOf", "(III)I"⟩, 52), (⟨"NameBoardModel", "event", "(III)V"⟩, 52), (⟨"NameBoardModel", "shows", "(III)V"⟩, 52), (⟨"NameBoardModel", "isSign0", "(I)Z"⟩, 52), (⟨"NameBoardModel", "signIs", "(II)I"⟩, 52), (⟨"NameBoardModel", "isLame", "(I)Z"⟩, 52), (⟨"NameBoardModel", "lameSince", "(I)I"⟩, 52), (⟨"NameBoardModel", "leastOf", "(I)I"⟩, 52), (⟨"NameBoardModel", "mayBe", "(III)Z"⟩, 52), (⟨"NameBoardModel", "bits", "(I)I"⟩, 52), (⟨"NameBoardModel", "hasName", "(I)Z"⟩, 52), (⟨"NameBoardModel", "givesOf", "(II)I"⟩, 52), (⟨"NameBoardModel", "joins", "(III)V"⟩, 52)]
theorem lw_r4 : ∀ q ∈ lw_privs_4, lw_okq q := List.forall_mem_cons.mpr ⟨lw_p48, List.forall_mem_cons.mpr ⟨lw_p49, List.forall_mem_cons.mpr ⟨lw_p50, List.forall_mem_cons.mpr ⟨lw_p51, List.forall_mem_cons.mpr ⟨lw_p52, List.forall_mem_cons.mpr ⟨lw_p53, List.forall_mem_cons.mpr ⟨lw_p54, List.forall_mem_cons.mpr ⟨lw_p55, List.forall_mem_cons.mpr ⟨lw_p56, List.forall_mem_cons.mpr ⟨lw_p57, List.forall_mem_cons.mpr ⟨lw_p58, List.forall_mem_cons.mpr ⟨lw_p59, List.forall_mem_cons.mpr ⟨lw_p60, List.forall_mem_cons.mpr ⟨lw_p61, List.forall_mem_cons.mpr ⟨lw_p62, List.forall_mem_cons.mpr ⟨lw_p63, fun _ h => absurd h List.not_mem_nil⟩⟩⟩⟩⟩⟩⟩⟩⟩⟩⟩⟩⟩⟩⟩⟩
theorem lw_p64 : lw_okq (⟨"NameBoardModel", "settledNow", "()I"⟩, 52) := ⟨⟨by decide +kernel, by decide +kernel⟩, List.mem_of_getElem? (i := 1245) (by decide +kernel), List.mem_of_getElem? (i := 1843) (by decide +kernel), List.mem_of_getElem? (i := 1844) (by decide +kernel)⟩
def lw_privs_5 : List (MethodName × Nat) := [(⟨"NameBoardModel", "settledNow", "()I"⟩, 52)]
theorem lw_r5 : ∀ q ∈ lw_privs_5, lw_okq q := List.forall_mem_cons.mpr ⟨lw_p64, fun _ h => absurd h List.not_mem_nil⟩
def lw_privs : List (MethodName × Nat) := lw_privs_1 ++ (lw_privs_2 ++ (lw_privs_3 ++ (lw_privs_4 ++ (lw_privs_5))))
def lw_tbl : List Cond := k2_sels lw_privs ++ tables_1
theorem lw_privs_ok : ∀ q ∈ lw_privs, lw_okq q := by
  show ∀ q ∈ lw_privs_1 ++ (lw_privs_2 ++ (lw_privs_3 ++ (lw_privs_4 ++ (lw_privs_5)))), lw_okq q
  exact List.forall_mem_append.mpr ⟨lw_r1, List.forall_mem_append.mpr ⟨lw_r2, List.forall_mem_append.mpr ⟨lw_r3, List.forall_mem_append.mpr ⟨lw_r4, lw_r5⟩⟩⟩⟩
-- ===== end of PART A; then your names; then what follows =====
def RX0 : String := "NameBoard$Acts"
def TX0 : u_T := fun k => match k with
  | 0 => ("NameBoard$Acts", "acts", "I", false)
  | 1 => ("NameBoard$Acts", "years", "[I", true)
  | 2 => ("NameBoard$Acts", "lines", "[I", true)
  | 3 => ("NameBoard$Acts", "looksAtYear", "[Z", true)
  | 4 => ("NameBoard$Acts", "kinds", "[I", true)
  | 5 => ("NameBoard$Acts", "numbers", "[I", true)
  | 6 => ("NameBoard$Acts", "aparts", "[I", true)
  | 7 => ("NameBoard$Acts", "conds", "[I", true)
  | 8 => ("NameBoard$Acts", "condNots", "[Z", true)
  | 9 => ("NameBoard$Acts", "condFacts", "[I", true)
  | 10 => ("NameBoard$Acts", "condSides", "[I", true)
  | _ => ("NameBoard$Acts", "condNumbers", "[I", true)
def tyX0 : Nat → FieldType := fun k => match k with
  | 0 => .int
  | 1 => .array .int
  | 2 => .array .int
  | 3 => .array .boolean
  | 4 => .array .int
  | 5 => .array .int
  | 6 => .array .int
  | 7 => .array .int
  | 8 => .array .boolean
  | 9 => .array .int
  | 10 => .array .int
  | _ => .array .int
abbrev wsX00 : List Cond := u_ws RX0 TX0 12
theorem nmX0 : ∀ a, a < 12 → ∀ b, b < 12 → a ≠ b → (TX0 a).2.1 ≠ (TX0 b).2.1 := by decide +kernel
theorem tyX0_ok : ∀ k, k < 12 → parseFieldDescriptor (TX0 k).2.2.1 = some (tyX0 k) := by decide +kernel
abbrev cX0_init : ByteArray := prog_2_method_1_code
def yX0_init : MethodName := ⟨RX0, "<init>", "()V"⟩
abbrev cX0_readAct : ByteArray := prog_2_method_2_code
def yX0_readAct : MethodName := ⟨RX0, "readAct", "(LNameBoard$Tape;I)I"⟩
abbrev cX0_kindOfLine : ByteArray := prog_2_method_3_code
def yX0_kindOfLine : MethodName := ⟨RX0, "kindOfLine", "(LNameBoard$Tape;)I"⟩
abbrev cX0_readLine : ByteArray := prog_2_method_4_code
def yX0_readLine : MethodName := ⟨RX0, "readLine", "(LNameBoard$Tape;II)V"⟩
abbrev cX0_readHead : ByteArray := prog_2_method_5_code
def yX0_readHead : MethodName := ⟨RX0, "readHead", "(LNameBoard$Tape;II)V"⟩
abbrev cX0_factOf : ByteArray := prog_2_method_6_code
def yX0_factOf : MethodName := ⟨RX0, "factOf", "(LNameBoard$Tape;)I"⟩
abbrev cX0_readCond : ByteArray := prog_2_method_7_code
def yX0_readCond : MethodName := ⟨RX0, "readCond", "(LNameBoard$Tape;I)V"⟩
abbrev cX0_inForce : ByteArray := prog_2_method_8_code
def yX0_inForce : MethodName := ⟨RX0, "inForce", "(I)I"⟩
abbrev cX0_dependsOnYear : ByteArray := prog_2_method_9_code
def yX0_dependsOnYear : MethodName := ⟨RX0, "dependsOnYear", "(I)Z"⟩
abbrev cX0_firstHolding : ByteArray := prog_2_method_10_code
def yX0_firstHolding : MethodName := ⟨RX0, "firstHolding", "(II[I)I"⟩
abbrev cX0_holds : ByteArray := prog_2_method_11_code
def yX0_holds : MethodName := ⟨RX0, "holds", "(I[I)Z"⟩
abbrev cX0_lastLine : ByteArray := prog_2_method_12_code
def yX0_lastLine : MethodName := ⟨RX0, "lastLine", "(II)I"⟩
abbrev cX0_numberOf : ByteArray := prog_2_method_13_code
def yX0_numberOf : MethodName := ⟨RX0, "numberOf", "(III)I"⟩
abbrev cX0_copyFrom : ByteArray := prog_2_method_14_code
def yX0_copyFrom : MethodName := ⟨RX0, "copyFrom", "(LNameBoard$Acts;)V"⟩
def RX1 : String := "NameBoard$Board"
def TX1 : u_T := fun k => match k with
  | 0 => ("NameBoard$Board", "hearings", "I", false)
  | 1 => ("NameBoard$Board", "names", "[I", true)
  | 2 => ("NameBoard$Board", "places", "[I", true)
  | 3 => ("NameBoard$Board", "isOpen", "[Z", true)
  | 4 => ("NameBoard$Board", "voted", "[I", true)
  | 5 => ("NameBoard$Board", "votedFor", "[I", true)
  | 6 => ("NameBoard$Board", "settlings", "I", false)
  | 7 => ("NameBoard$Board", "settledNames", "[I", true)
  | 8 => ("NameBoard$Board", "settledPlaces", "[I", true)
  | 9 => ("NameBoard$Board", "settledTongues", "[I", true)
  | 10 => ("NameBoard$Board", "settledYears", "[I", true)
  | _ => ("NameBoard$Board", "undoneYears", "[I", true)
def tyX1 : Nat → FieldType := fun k => match k with
  | 0 => .int
  | 1 => .array .int
  | 2 => .array .int
  | 3 => .array .boolean
  | 4 => .array .int
  | 5 => .array .int
  | 6 => .int
  | 7 => .array .int
  | 8 => .array .int
  | 9 => .array .int
  | 10 => .array .int
  | _ => .array .int
abbrev wsX10 : List Cond := u_ws RX1 TX1 12
theorem nmX1 : ∀ a, a < 12 → ∀ b, b < 12 → a ≠ b → (TX1 a).2.1 ≠ (TX1 b).2.1 := by decide +kernel
theorem tyX1_ok : ∀ k, k < 12 → parseFieldDescriptor (TX1 k).2.2.1 = some (tyX1 k) := by decide +kernel
abbrev cX1_init : ByteArray := prog_3_method_1_code
def yX1_init : MethodName := ⟨RX1, "<init>", "()V"⟩
abbrev cX1_has : ByteArray := prog_3_method_2_code
def yX1_has : MethodName := ⟨RX1, "has", "(I)Z"⟩
abbrev cX1_open : ByteArray := prog_3_method_3_code
def yX1_open : MethodName := ⟨RX1, "open", "(II)I"⟩
abbrev cX1_cast : ByteArray := prog_3_method_4_code
def yX1_cast : MethodName := ⟨RX1, "cast", "(IIZ)V"⟩
abbrev cX1_tooFew : ByteArray := prog_3_method_5_code
def yX1_tooFew : MethodName := ⟨RX1, "tooFew", "(II)Z"⟩
abbrev cX1_settle : ByteArray := prog_3_method_6_code
def yX1_settle : MethodName := ⟨RX1, "settle", "(IIII)V"⟩
abbrev cX1_settlingAt : ByteArray := prog_3_method_7_code
def yX1_settlingAt : MethodName := ⟨RX1, "settlingAt", "(III)I"⟩
abbrev cX1_nameAt : ByteArray := prog_3_method_8_code
def yX1_nameAt : MethodName := ⟨RX1, "nameAt", "(III)I"⟩
abbrev cX1_namesAt : ByteArray := prog_3_method_9_code
def yX1_namesAt : MethodName := ⟨RX1, "namesAt", "(II)I"⟩
abbrev cX1_undoLast : ByteArray := prog_3_method_10_code
def yX1_undoLast : MethodName := ⟨RX1, "undoLast", "(III)Z"⟩
abbrev cX1_copyFrom : ByteArray := prog_3_method_11_code
def yX1_copyFrom : MethodName := ⟨RX1, "copyFrom", "(LNameBoard$Board;)V"⟩
def RX2 : String := "NameBoard$Land"
def TX2 : u_T := fun k => match k with
  | 0 => ("NameBoard$Land", "size", "I", false)
  | 1 => ("NameBoard$Land", "xs", "[I", true)
  | 2 => ("NameBoard$Land", "ys", "[I", true)
  | 3 => ("NameBoard$Land", "parts", "I", false)
  | 4 => ("NameBoard$Land", "partPlaces", "[I", true)
  | 5 => ("NameBoard$Land", "partOfs", "[I", true)
  | 6 => ("NameBoard$Land", "partYears", "[I", true)
  | 7 => ("NameBoard$Land", "counts", "I", false)
  | 8 => ("NameBoard$Land", "countCells", "[I", true)
  | 9 => ("NameBoard$Land", "countPeople", "[I", true)
  | _ => ("NameBoard$Land", "countYears", "[I", true)
def tyX2 : Nat → FieldType := fun k => match k with
  | 0 => .int
  | 1 => .array .int
  | 2 => .array .int
  | 3 => .int
  | 4 => .array .int
  | 5 => .array .int
  | 6 => .array .int
  | 7 => .int
  | 8 => .array .int
  | 9 => .array .int
  | _ => .array .int
abbrev wsX20 : List Cond := u_ws RX2 TX2 11
theorem nmX2 : ∀ a, a < 11 → ∀ b, b < 11 → a ≠ b → (TX2 a).2.1 ≠ (TX2 b).2.1 := by decide +kernel
theorem tyX2_ok : ∀ k, k < 11 → parseFieldDescriptor (TX2 k).2.2.1 = some (tyX2 k) := by decide +kernel
abbrev cX2_init : ByteArray := prog_4_method_1_code
def yX2_init : MethodName := ⟨RX2, "<init>", "()V"⟩
abbrev cX2_has : ByteArray := prog_4_method_2_code
def yX2_has : MethodName := ⟨RX2, "has", "(I)Z"⟩
abbrev cX2_addPlace : ByteArray := prog_4_method_3_code
def yX2_addPlace : MethodName := ⟨RX2, "addPlace", "(II)I"⟩
abbrev cX2_tellPart : ByteArray := prog_4_method_4_code
def yX2_tellPart : MethodName := ⟨RX2, "tellPart", "(III)Z"⟩
abbrev cX2_tellCount : ByteArray := prog_4_method_5_code
def yX2_tellCount : MethodName := ⟨RX2, "tellCount", "(IIII)Z"⟩
abbrev cX2_fillParents : ByteArray := prog_4_method_6_code
def yX2_fillParents : MethodName := ⟨RX2, "fillParents", "([II)V"⟩
abbrev cX2_fillOwn : ByteArray := prog_4_method_7_code
def yX2_fillOwn : MethodName := ⟨RX2, "fillOwn", "([II)V"⟩
abbrev cX2_areNear : ByteArray := prog_4_method_8_code
def yX2_areNear : MethodName := ⟨RX2, "areNear", "(III)Z"⟩
abbrev cX2_copyFrom : ByteArray := prog_4_method_9_code
def yX2_copyFrom : MethodName := ⟨RX2, "copyFrom", "(LNameBoard$Land;)V"⟩
def RX3 : String := "NameBoard$Paper"
def TX3 : u_T := fun k => match k with
  | 0 => ("NameBoard$Paper", "year", "I", false)
  | 1 => ("NameBoard$Paper", "size", "I", false)
  | 2 => ("NameBoard$Paper", "lengths", "[I", true)
  | 3 => ("NameBoard$Paper", "letters", "[B", true)
  | 4 => ("NameBoard$Paper", "joinedSize", "I", false)
  | 5 => ("NameBoard$Paper", "joined", "[I", true)
  | 6 => ("NameBoard$Paper", "choices", "I", false)
  | 7 => ("NameBoard$Paper", "places", "[I", true)
  | 8 => ("NameBoard$Paper", "gains", "[I", true)
  | _ => ("NameBoard$Paper", "most", "[I", false)
def tyX3 : Nat → FieldType := fun k => match k with
  | 0 => .int
  | 1 => .int
  | 2 => .array .int
  | 3 => .array .byte
  | 4 => .int
  | 5 => .array .int
  | 6 => .int
  | 7 => .array .int
  | 8 => .array .int
  | _ => .array .int
abbrev wsX30 : List Cond := u_ws RX3 TX3 10
theorem nmX3 : ∀ a, a < 10 → ∀ b, b < 10 → a ≠ b → (TX3 a).2.1 ≠ (TX3 b).2.1 := by decide +kernel
theorem tyX3_ok : ∀ k, k < 10 → parseFieldDescriptor (TX3 k).2.2.1 = some (tyX3 k) := by decide +kernel
abbrev cX3_init : ByteArray := prog_5_method_1_code
def yX3_init : MethodName := ⟨RX3, "<init>", "()V"⟩
abbrev cX3_add : ByteArray := prog_5_method_2_code
def yX3_add : MethodName := ⟨RX3, "add", "(LNameBoard$Tape;)Z"⟩
abbrev cX3_greatestSum : ByteArray := prog_5_method_3_code
def yX3_greatestSum : MethodName := ⟨RX3, "greatestSum", "(LNameBoard$State;LNameBoard$View;)I"⟩
abbrev cX3_choosePlaces : ByteArray := prog_5_method_4_code
def yX3_choosePlaces : MethodName := ⟨RX3, "choosePlaces", "(LNameBoard$State;)Z"⟩
abbrev cX3_fillGains : ByteArray := prog_5_method_5_code
def yX3_fillGains : MethodName := ⟨RX3, "fillGains", "(LNameBoard$State;LNameBoard$View;)V"⟩
abbrev cX3_fewestEdits : ByteArray := prog_5_method_6_code
def yX3_fewestEdits : MethodName := ⟨RX3, "fewestEdits", "(LNameBoard$State;LNameBoard$View;I)I"⟩
abbrev cX3_fillMost : ByteArray := prog_5_method_7_code
def yX3_fillMost : MethodName := ⟨RX3, "fillMost", "(LNameBoard$Land;)V"⟩
abbrev cX3_mostBehind : ByteArray := prog_5_method_8_code
def yX3_mostBehind : MethodName := ⟨RX3, "mostBehind", "(LNameBoard$Land;II)I"⟩
abbrev cX3_sumWith : ByteArray := prog_5_method_9_code
def yX3_sumWith : MethodName := ⟨RX3, "sumWith", "(LNameBoard$Land;III)I"⟩
abbrev cX3_takeFirst : ByteArray := prog_5_method_10_code
def yX3_takeFirst : MethodName := ⟨RX3, "takeFirst", "(LNameBoard$Land;)V"⟩
abbrev cX3_reaches : ByteArray := prog_5_method_11_code
def yX3_reaches : MethodName := ⟨RX3, "reaches", "(LNameBoard$Land;IIII)Z"⟩
def RX4 : String := "NameBoard$Planner"
def TX4 : u_T := fun k => match k with
  | 0 => ("NameBoard$Planner", "years", "[I", true)
  | 1 => ("NameBoard$Planner", "size", "I", false)
  | 2 => ("NameBoard$Planner", "signs", "[I", true)
  | 3 => ("NameBoard$Planner", "costs", "[I", true)
  | 4 => ("NameBoard$Planner", "delays", "[J", true)
  | _ => ("NameBoard$Planner", "keys", "[J", true)
def tyX4 : Nat → FieldType := fun k => match k with
  | 0 => .array .int
  | 1 => .int
  | 2 => .array .int
  | 3 => .array .int
  | 4 => .array .long
  | _ => .array .long
abbrev wsX40 : List Cond := u_ws RX4 TX4 6
theorem nmX4 : ∀ a, a < 6 → ∀ b, b < 6 → a ≠ b → (TX4 a).2.1 ≠ (TX4 b).2.1 := by decide +kernel
theorem tyX4_ok : ∀ k, k < 6 → parseFieldDescriptor (TX4 k).2.2.1 = some (tyX4 k) := by decide +kernel
abbrev cX4_init : ByteArray := prog_6_method_1_code
def yX4_init : MethodName := ⟨RX4, "<init>", "()V"⟩
abbrev cX4_begin : ByteArray := prog_6_method_2_code
def yX4_begin : MethodName := ⟨RX4, "begin", "()V"⟩
abbrev cX4_take : ByteArray := prog_6_method_3_code
def yX4_take : MethodName := ⟨RX4, "take", "(III)Z"⟩
abbrev cX4_leastSum : ByteArray := prog_6_method_4_code
def yX4_leastSum : MethodName := ⟨RX4, "leastSum", "(I)I"⟩
abbrev cX4_leastKey : ByteArray := prog_6_method_5_code
def yX4_leastKey : MethodName := ⟨RX4, "leastKey", "(II)J"⟩
def RX5 : String := "NameBoard$Row"
def TX5 : u_T := fun k => match k with
  | 0 => ("NameBoard$Row", "size", "I", false)
  | 1 => ("NameBoard$Row", "letters", "[B", true)
  | _ => ("NameBoard$Row", "leads", "[I", true)
def tyX5 : Nat → FieldType := fun k => match k with
  | 0 => .int
  | 1 => .array .byte
  | _ => .array .int
abbrev wsX50 : List Cond := u_ws RX5 TX5 3
theorem nmX5 : ∀ a, a < 3 → ∀ b, b < 3 → a ≠ b → (TX5 a).2.1 ≠ (TX5 b).2.1 := by decide +kernel
theorem tyX5_ok : ∀ k, k < 3 → parseFieldDescriptor (TX5 k).2.2.1 = some (tyX5 k) := by decide +kernel
abbrev cX5_init : ByteArray := prog_7_method_1_code
def yX5_init : MethodName := ⟨RX5, "<init>", "()V"⟩
abbrev cX5_has : ByteArray := prog_7_method_2_code
def yX5_has : MethodName := ⟨RX5, "has", "(I)Z"⟩
abbrev cX5_add : ByteArray := prog_7_method_3_code
def yX5_add : MethodName := ⟨RX5, "add", "(II)V"⟩
abbrev cX5_readsAs : ByteArray := prog_7_method_4_code
def yX5_readsAs : MethodName := ⟨RX5, "readsAs", "(LNameBoard$Row;)Z"⟩
def RX6 : String := "NameBoard$Signs"
def TX6 : u_T := fun k => match k with
  | 0 => ("NameBoard$Signs", "size", "I", false)
  | 1 => ("NameBoard$Signs", "places", "[I", true)
  | 2 => ("NameBoard$Signs", "costs", "[I", true)
  | _ => ("NameBoard$Signs", "made", "[I", true)
def tyX6 : Nat → FieldType := fun k => match k with
  | 0 => .int
  | 1 => .array .int
  | 2 => .array .int
  | _ => .array .int
abbrev wsX60 : List Cond := u_ws RX6 TX6 4
theorem nmX6 : ∀ a, a < 4 → ∀ b, b < 4 → a ≠ b → (TX6 a).2.1 ≠ (TX6 b).2.1 := by decide +kernel
theorem tyX6_ok : ∀ k, k < 4 → parseFieldDescriptor (TX6 k).2.2.1 = some (tyX6 k) := by decide +kernel
abbrev cX6_init : ByteArray := prog_8_method_1_code
def yX6_init : MethodName := ⟨RX6, "<init>", "()V"⟩
abbrev cX6_has : ByteArray := prog_8_method_2_code
def yX6_has : MethodName := ⟨RX6, "has", "(I)Z"⟩
abbrev cX6_make : ByteArray := prog_8_method_3_code
def yX6_make : MethodName := ⟨RX6, "make", "(III)I"⟩
abbrev cX6_copyFrom : ByteArray := prog_8_method_4_code
def yX6_copyFrom : MethodName := ⟨RX6, "copyFrom", "(LNameBoard$Signs;)V"⟩
def RX7 : String := "NameBoard$Speech"
def TX7 : u_T := fun k => match k with
  | 0 => ("NameBoard$Speech", "names", "I", false)
  | 1 => ("NameBoard$Speech", "places", "[I", true)
  | 2 => ("NameBoard$Speech", "tongues", "[I", true)
  | 3 => ("NameBoard$Speech", "died", "[I", true)
  | 4 => ("NameBoard$Speech", "lengths", "[I", true)
  | 5 => ("NameBoard$Speech", "sounds", "[B", true)
  | 6 => ("NameBoard$Speech", "spellings", "I", false)
  | 7 => ("NameBoard$Speech", "spellingTongues", "[I", true)
  | 8 => ("NameBoard$Speech", "spellingYears", "[I", true)
  | 9 => ("NameBoard$Speech", "rules", "[I", true)
  | 10 => ("NameBoard$Speech", "after", "[I", true)
  | 11 => ("NameBoard$Speech", "before", "[I", true)
  | 12 => ("NameBoard$Speech", "fromLengths", "[I", true)
  | 13 => ("NameBoard$Speech", "toLengths", "[I", true)
  | 14 => ("NameBoard$Speech", "from", "[B", true)
  | _ => ("NameBoard$Speech", "to", "[B", true)
def tyX7 : Nat → FieldType := fun k => match k with
  | 0 => .int
  | 1 => .array .int
  | 2 => .array .int
  | 3 => .array .int
  | 4 => .array .int
  | 5 => .array .byte
  | 6 => .int
  | 7 => .array .int
  | 8 => .array .int
  | 9 => .array .int
  | 10 => .array .int
  | 11 => .array .int
  | 12 => .array .int
  | 13 => .array .int
  | 14 => .array .byte
  | _ => .array .byte
abbrev wsX70 : List Cond := u_ws RX7 TX7 16
theorem nmX7 : ∀ a, a < 16 → ∀ b, b < 16 → a ≠ b → (TX7 a).2.1 ≠ (TX7 b).2.1 := by decide +kernel
theorem tyX7_ok : ∀ k, k < 16 → parseFieldDescriptor (TX7 k).2.2.1 = some (tyX7 k) := by decide +kernel
abbrev cX7_init : ByteArray := prog_9_method_1_code
def yX7_init : MethodName := ⟨RX7, "<init>", "()V"⟩
abbrev cX7_hasName : ByteArray := prog_9_method_2_code
def yX7_hasName : MethodName := ⟨RX7, "hasName", "(I)Z"⟩
abbrev cX7_addName : ByteArray := prog_9_method_3_code
def yX7_addName : MethodName := ⟨RX7, "addName", "(LNameBoard$Tape;III)I"⟩
abbrev cX7_readSpelling : ByteArray := prog_9_method_4_code
def yX7_readSpelling : MethodName := ⟨RX7, "readSpelling", "(LNameBoard$Tape;II)I"⟩
abbrev cX7_readRule : ByteArray := prog_9_method_5_code
def yX7_readRule : MethodName := ⟨RX7, "readRule", "(LNameBoard$Tape;I)V"⟩
abbrev cX7_readSet : ByteArray := prog_9_method_6_code
def yX7_readSet : MethodName := ⟨RX7, "readSet", "(LNameBoard$Tape;)I"⟩
abbrev cX7_readWord : ByteArray := prog_9_method_7_code
def yX7_readWord : MethodName := ⟨RX7, "readWord", "(LNameBoard$Tape;[BI)I"⟩
abbrev cX7_spellingAt : ByteArray := prog_9_method_8_code
def yX7_spellingAt : MethodName := ⟨RX7, "spellingAt", "(II)I"⟩
abbrev cX7_spellInto : ByteArray := prog_9_method_9_code
def yX7_spellInto : MethodName := ⟨RX7, "spellInto", "(LNameBoard$Row;II)V"⟩
abbrev cX7_ruleFor : ByteArray := prog_9_method_10_code
def yX7_ruleFor : MethodName := ⟨RX7, "ruleFor", "(III)I"⟩
abbrev cX7_fits : ByteArray := prog_9_method_11_code
def yX7_fits : MethodName := ⟨RX7, "fits", "(III)Z"⟩
abbrev cX7_copyFrom : ByteArray := prog_9_method_12_code
def yX7_copyFrom : MethodName := ⟨RX7, "copyFrom", "(LNameBoard$Speech;)V"⟩
def RX8 : String := "NameBoard$State"
def TX8 : u_T := fun k => match k with
  | 0 => ("NameBoard$State", "now", "I", false)
  | 1 => ("NameBoard$State", "told", "[Z", true)
  | 2 => ("NameBoard$State", "land", "LNameBoard$Land;", true)
  | 3 => ("NameBoard$State", "speech", "LNameBoard$Speech;", true)
  | 4 => ("NameBoard$State", "acts", "LNameBoard$Acts;", true)
  | 5 => ("NameBoard$State", "board", "LNameBoard$Board;", true)
  | _ => ("NameBoard$State", "signs", "LNameBoard$Signs;", true)
def tyX8 : Nat → FieldType := fun k => match k with
  | 0 => .int
  | 1 => .array .boolean
  | 2 => .object "NameBoard$Land"
  | 3 => .object "NameBoard$Speech"
  | 4 => .object "NameBoard$Acts"
  | 5 => .object "NameBoard$Board"
  | _ => .object "NameBoard$Signs"
abbrev wsX80 : List Cond := u_ws RX8 TX8 7
theorem nmX8 : ∀ a, a < 7 → ∀ b, b < 7 → a ≠ b → (TX8 a).2.1 ≠ (TX8 b).2.1 := by decide +kernel
theorem tyX8_ok : ∀ k, k < 7 → parseFieldDescriptor (TX8 k).2.2.1 = some (tyX8 k) := by decide +kernel
abbrev cX8_init : ByteArray := prog_10_method_1_code
def yX8_init : MethodName := ⟨RX8, "<init>", "()V"⟩
abbrev cX8_mark : ByteArray := prog_10_method_2_code
def yX8_mark : MethodName := ⟨RX8, "mark", "()V"⟩
abbrev cX8_copyFrom : ByteArray := prog_10_method_3_code
def yX8_copyFrom : MethodName := ⟨RX8, "copyFrom", "(LNameBoard$State;)V"⟩
def RX9 : String := "NameBoard$Tape"
def TX9 : u_T := fun k => match k with
  | 0 => ("NameBoard$Tape", "bytes", "[B", true)
  | 1 => ("NameBoard$Tape", "size", "I", false)
  | 2 => ("NameBoard$Tape", "fault", "I", false)
  | 3 => ("NameBoard$Tape", "faultAt", "I", false)
  | 4 => ("NameBoard$Tape", "at", "I", false)
  | 5 => ("NameBoard$Tape", "till", "I", false)
  | 6 => ("NameBoard$Tape", "kind", "I", false)
  | _ => ("NameBoard$Tape", "number", "I", false)
def tyX9 : Nat → FieldType := fun k => match k with
  | 0 => .array .byte
  | 1 => .int
  | 2 => .int
  | 3 => .int
  | 4 => .int
  | 5 => .int
  | 6 => .int
  | _ => .int
abbrev wsX90 : List Cond := u_ws RX9 TX9 8
theorem nmX9 : ∀ a, a < 8 → ∀ b, b < 8 → a ≠ b → (TX9 a).2.1 ≠ (TX9 b).2.1 := by decide +kernel
theorem tyX9_ok : ∀ k, k < 8 → parseFieldDescriptor (TX9 k).2.2.1 = some (tyX9 k) := by decide +kernel
abbrev cX9_init : ByteArray := prog_11_method_1_code
def yX9_init : MethodName := ⟨RX9, "<init>", "()V"⟩
abbrev cX9_push : ByteArray := prog_11_method_2_code
def yX9_push : MethodName := ⟨RX9, "push", "(I)V"⟩
abbrev cX9_isLetters : ByteArray := prog_11_method_3_code
def yX9_isLetters : MethodName := ⟨RX9, "isLetters", "(I)Z"⟩
abbrev cX9_kindOf : ByteArray := prog_11_method_4_code
def yX9_kindOf : MethodName := ⟨RX9, "kindOf", "(B)I"⟩
abbrev cX9_begin : ByteArray := prog_11_method_5_code
def yX9_begin : MethodName := ⟨RX9, "begin", "()V"⟩
abbrev cX9_goesOn : ByteArray := prog_11_method_6_code
def yX9_goesOn : MethodName := ⟨RX9, "goesOn", "()Z"⟩
abbrev cX9_advance : ByteArray := prog_11_method_7_code
def yX9_advance : MethodName := ⟨RX9, "advance", "()V"⟩
abbrev cX9_blame : ByteArray := prog_11_method_8_code
def yX9_blame : MethodName := ⟨RX9, "blame", "(I)V"⟩
abbrev cX9_isSign : ByteArray := prog_11_method_9_code
def yX9_isSign : MethodName := ⟨RX9, "isSign", "(C)Z"⟩
abbrev cX9_isWordOf : ByteArray := prog_11_method_10_code
def yX9_isWordOf : MethodName := ⟨RX9, "isWordOf", "(I)Z"⟩
abbrev cX9_isWord : ByteArray := prog_11_method_11_code
def yX9_isWord : MethodName := ⟨RX9, "isWord", "(Ljava/lang/String;)Z"⟩
abbrev cX9_takeSign : ByteArray := prog_11_method_12_code
def yX9_takeSign : MethodName := ⟨RX9, "takeSign", "(C)V"⟩
abbrev cX9_takeWord : ByteArray := prog_11_method_13_code
def yX9_takeWord : MethodName := ⟨RX9, "takeWord", "(Ljava/lang/String;)V"⟩
abbrev cX9_takeNumber : ByteArray := prog_11_method_14_code
def yX9_takeNumber : MethodName := ⟨RX9, "takeNumber", "(I)I"⟩
def RX10 : String := "NameBoard$View"
def TX10 : u_T := fun k => match k with
  | 0 => ("NameBoard$View", "parents", "[I", true)
  | 1 => ("NameBoard$View", "own", "[I", true)
  | 2 => ("NameBoard$View", "lives", "[I", true)
  | 3 => ("NameBoard$View", "facts", "[I", true)
  | 4 => ("NameBoard$View", "lead", "I", false)
  | 5 => ("NameBoard$View", "second", "I", false)
  | 6 => ("NameBoard$View", "one", "LNameBoard$Row;", true)
  | 7 => ("NameBoard$View", "other", "LNameBoard$Row;", true)
  | 8 => ("NameBoard$View", "line", "[I", true)
  | 9 => ("NameBoard$View", "spelledLengths", "[I", true)
  | _ => ("NameBoard$View", "spelled", "[B", true)
def tyX10 : Nat → FieldType := fun k => match k with
  | 0 => .array .int
  | 1 => .array .int
  | 2 => .array .int
  | 3 => .array .int
  | 4 => .int
  | 5 => .int
  | 6 => .object "NameBoard$Row"
  | 7 => .object "NameBoard$Row"
  | 8 => .array .int
  | 9 => .array .int
  | _ => .array .byte
abbrev wsX100 : List Cond := u_ws RX10 TX10 11
theorem nmX10 : ∀ a, a < 11 → ∀ b, b < 11 → a ≠ b → (TX10 a).2.1 ≠ (TX10 b).2.1 := by decide +kernel
theorem tyX10_ok : ∀ k, k < 11 → parseFieldDescriptor (TX10 k).2.2.1 = some (tyX10 k) := by decide +kernel
abbrev cX10_init : ByteArray := prog_12_method_1_code
def yX10_init : MethodName := ⟨RX10, "<init>", "()V"⟩
abbrev cX10_isUnder : ByteArray := prog_12_method_2_code
def yX10_isUnder : MethodName := ⟨RX10, "isUnder", "(II)Z"⟩
abbrev cX10_liesWithin : ByteArray := prog_12_method_3_code
def yX10_liesWithin : MethodName := ⟨RX10, "liesWithin", "(LNameBoard$Land;III)Z"⟩
abbrev cX10_gather : ByteArray := prog_12_method_4_code
def yX10_gather : MethodName := ⟨RX10, "gather", "(LNameBoard$Land;II)V"⟩
abbrev cX10_addOwn : ByteArray := prog_12_method_5_code
def yX10_addOwn : MethodName := ⟨RX10, "addOwn", "(I)V"⟩
abbrev cX10_everyone : ByteArray := prog_12_method_6_code
def yX10_everyone : MethodName := ⟨RX10, "everyone", "()I"⟩
abbrev cX10_setShares : ByteArray := prog_12_method_7_code
def yX10_setShares : MethodName := ⟨RX10, "setShares", "()V"⟩
abbrev cX10_look : ByteArray := prog_12_method_8_code
def yX10_look : MethodName := ⟨RX10, "look", "(LNameBoard$State;III)V"⟩
abbrev cX10_firstBy : ByteArray := prog_12_method_9_code
def yX10_firstBy : MethodName := ⟨RX10, "firstBy", "(LNameBoard$Acts;I)I"⟩
abbrev cX10_mostPeople : ByteArray := prog_12_method_10_code
def yX10_mostPeople : MethodName := ⟨RX10, "mostPeople", "(I)I"⟩
abbrev cX10_fewestToSwing : ByteArray := prog_12_method_11_code
def yX10_fewestToSwing : MethodName := ⟨RX10, "fewestToSwing", "(LNameBoard$State;I)I"⟩
abbrev cX10_swingsBy : ByteArray := prog_12_method_12_code
def yX10_swingsBy : MethodName := ⟨RX10, "swingsBy", "(LNameBoard$Acts;III)Z"⟩
abbrev cX10_swungBy : ByteArray := prog_12_method_13_code
def yX10_swungBy : MethodName := ⟨RX10, "swungBy", "(LNameBoard$Acts;IIII)Z"⟩
abbrev cX10_alikePairs : ByteArray := prog_12_method_14_code
def yX10_alikePairs : MethodName := ⟨RX10, "alikePairs", "(LNameBoard$Speech;I)I"⟩
abbrev cX10_spellAside : ByteArray := prog_12_method_15_code
def yX10_spellAside : MethodName := ⟨RX10, "spellAside", "(LNameBoard$Speech;II)V"⟩
abbrev cX10_areSpelledAlike : ByteArray := prog_12_method_16_code
def yX10_areSpelledAlike : MethodName := ⟨RX10, "areSpelledAlike", "(II)Z"⟩
abbrev cX10_editsOfNames : ByteArray := prog_12_method_17_code
def yX10_editsOfNames : MethodName := ⟨RX10, "editsOfNames", "(LNameBoard$Speech;III)I"⟩
abbrev cX10_editsOfRows : ByteArray := prog_12_method_18_code
def yX10_editsOfRows : MethodName := ⟨RX10, "editsOfRows", "(LNameBoard$Row;LNameBoard$Row;)I"⟩
abbrev cX10_whyRefused : ByteArray := prog_12_method_19_code
def yX10_whyRefused : MethodName := ⟨RX10, "whyRefused", "(LNameBoard$State;II)I"⟩
abbrev cX10_isAlike : ByteArray := prog_12_method_20_code
def yX10_isAlike : MethodName := ⟨RX10, "isAlike", "(LNameBoard$State;III)Z"⟩
abbrev cX10_show : ByteArray := prog_12_method_21_code
def yX10_show : MethodName := ⟨RX10, "show", "(LNameBoard$State;IIILNameBoard$Row;)V"⟩
abbrev cX10_isLame : ByteArray := prog_12_method_22_code
def yX10_isLame : MethodName := ⟨RX10, "isLame", "(LNameBoard$State;I)Z"⟩
abbrev cX10_lameSigns : ByteArray := prog_12_method_23_code
def yX10_lameSigns : MethodName := ⟨RX10, "lameSigns", "(LNameBoard$State;)I"⟩
abbrev cX10_dueYear : ByteArray := prog_12_method_24_code
def yX10_dueYear : MethodName := ⟨RX10, "dueYear", "(LNameBoard$State;I)I"⟩
def RX11 : String := "NameBoard"
def TX11 : u_T := fun k => match k with
  | 0 => ("NameBoard", "state", "LNameBoard$State;", true)
  | 1 => ("NameBoard", "images", "[LNameBoard$State;", true)
  | 2 => ("NameBoard", "tape", "LNameBoard$Tape;", true)
  | 3 => ("NameBoard", "hand", "LNameBoard$Row;", true)
  | 4 => ("NameBoard", "view", "LNameBoard$View;", true)
  | 5 => ("NameBoard", "planner", "LNameBoard$Planner;", true)
  | 6 => ("NameBoard", "paper", "LNameBoard$Paper;", true)
  | 7 => ("NameBoard", "numbers", "[J", true)
  | 8 => ("NameBoard", "widths", "[I", true)
  | _ => ("NameBoard", "lengths", "[I", true)
def tyX11 : Nat → FieldType := fun k => match k with
  | 0 => .object "NameBoard$State"
  | 1 => .array (.object "NameBoard$State")
  | 2 => .object "NameBoard$Tape"
  | 3 => .object "NameBoard$Row"
  | 4 => .object "NameBoard$View"
  | 5 => .object "NameBoard$Planner"
  | 6 => .object "NameBoard$Paper"
  | 7 => .array .long
  | 8 => .array .int
  | _ => .array .int
abbrev wsX110 : List Cond := u_ws RX11 TX11 10
theorem nmX11 : ∀ a, a < 10 → ∀ b, b < 10 → a ≠ b → (TX11 a).2.1 ≠ (TX11 b).2.1 := by decide +kernel
theorem tyX11_ok : ∀ k, k < 10 → parseFieldDescriptor (TX11 k).2.2.1 = some (tyX11 k) := by decide +kernel
abbrev cX11_init : ByteArray := prog_1_method_1_code
def yX11_init : MethodName := ⟨RX11, "<init>", "()V"⟩
abbrev cX11_feed : ByteArray := prog_1_method_2_code
def yX11_feed : MethodName := ⟨RX11, "feed", "(IIIII)I"⟩
abbrev cX11_end : ByteArray := prog_1_method_3_code
def yX11_end : MethodName := ⟨RX11, "end", "(I)I"⟩
abbrev cX11_next : ByteArray := prog_1_method_4_code
def yX11_next : MethodName := ⟨RX11, "next", "(I)I"⟩
abbrev cX11_place : ByteArray := prog_1_method_5_code
def yX11_place : MethodName := ⟨RX11, "place", "(II)I"⟩
abbrev cX11_part : ByteArray := prog_1_method_6_code
def yX11_part : MethodName := ⟨RX11, "part", "(II)I"⟩
abbrev cX11_people : ByteArray := prog_1_method_7_code
def yX11_people : MethodName := ⟨RX11, "people", "(III)I"⟩
abbrev cX11_counted : ByteArray := prog_1_method_8_code
def yX11_counted : MethodName := ⟨RX11, "counted", "(I)I"⟩
abbrev cX11_live : ByteArray := prog_1_method_9_code
def yX11_live : MethodName := ⟨RX11, "live", "(IIII)I"⟩
abbrev cX11_name : ByteArray := prog_1_method_10_code
def yX11_name : MethodName := ⟨RX11, "name", "(III)I"⟩
abbrev cX11_spelling : ByteArray := prog_1_method_11_code
def yX11_spelling : MethodName := ⟨RX11, "spelling", "(I)I"⟩
abbrev cX11_act : ByteArray := prog_1_method_12_code
def yX11_act : MethodName := ⟨RX11, "act", "()I"⟩
abbrev cX11_fault : ByteArray := prog_1_method_13_code
def yX11_fault : MethodName := ⟨RX11, "fault", "(I)I"⟩
abbrev cX11_spell : ByteArray := prog_1_method_14_code
def yX11_spell : MethodName := ⟨RX11, "spell", "(II)I"⟩
abbrev cX11_letter : ByteArray := prog_1_method_15_code
def yX11_letter : MethodName := ⟨RX11, "letter", "(I)I"⟩
abbrev cX11_led : ByteArray := prog_1_method_16_code
def yX11_led : MethodName := ⟨RX11, "led", "(I)I"⟩
abbrev cX11_alikes : ByteArray := prog_1_method_17_code
def yX11_alikes : MethodName := ⟨RX11, "alikes", "(I)I"⟩
abbrev cX11_edits : ByteArray := prog_1_method_18_code
def yX11_edits : MethodName := ⟨RX11, "edits", "(III)I"⟩
abbrev cX11_first : ByteArray := prog_1_method_19_code
def yX11_first : MethodName := ⟨RX11, "first", "(III)I"⟩
abbrev cX11_beside : ByteArray := prog_1_method_20_code
def yX11_beside : MethodName := ⟨RX11, "beside", "(III)I"⟩
abbrev cX11_swings : ByteArray := prog_1_method_21_code
def yX11_swings : MethodName := ⟨RX11, "swings", "(I)I"⟩
abbrev cX11_ask : ByteArray := prog_1_method_22_code
def yX11_ask : MethodName := ⟨RX11, "ask", "(I)I"⟩
abbrev cX11_vote : ByteArray := prog_1_method_23_code
def yX11_vote : MethodName := ⟨RX11, "vote", "(IIZ)I"⟩
abbrev cX11_close : ByteArray := prog_1_method_24_code
def yX11_close : MethodName := ⟨RX11, "close", "(I)I"⟩
abbrev cX11_settled : ByteArray := prog_1_method_25_code
def yX11_settled : MethodName := ⟨RX11, "settled", "(IIII)I"⟩
abbrev cX11_undo : ByteArray := prog_1_method_26_code
def yX11_undo : MethodName := ⟨RX11, "undo", "(II)I"⟩
abbrev cX11_shown : ByteArray := prog_1_method_27_code
def yX11_shown : MethodName := ⟨RX11, "shown", "(III)I"⟩
abbrev cX11_sign : ByteArray := prog_1_method_28_code
def yX11_sign : MethodName := ⟨RX11, "sign", "(II)I"⟩
abbrev cX11_anew : ByteArray := prog_1_method_29_code
def yX11_anew : MethodName := ⟨RX11, "anew", "(I)I"⟩
abbrev cX11_signOf : ByteArray := prog_1_method_30_code
def yX11_signOf : MethodName := ⟨RX11, "signOf", "(II)I"⟩
abbrev cX11_plan : ByteArray := prog_1_method_31_code
def yX11_plan : MethodName := ⟨RX11, "plan", "(I)I"⟩
abbrev cX11_planned : ByteArray := prog_1_method_32_code
def yX11_planned : MethodName := ⟨RX11, "planned", "(I)I"⟩
abbrev cX11_paper : ByteArray := prog_1_method_33_code
def yX11_paper : MethodName := ⟨RX11, "paper", "(I)I"⟩
abbrev cX11_written : ByteArray := prog_1_method_34_code
def yX11_written : MethodName := ⟨RX11, "written", "()I"⟩
abbrev cX11_join : ByteArray := prog_1_method_35_code
def yX11_join : MethodName := ⟨RX11, "join", "()I"⟩
abbrev cX11_joined : ByteArray := prog_1_method_36_code
def yX11_joined : MethodName := ⟨RX11, "joined", "(I)I"⟩
abbrev cX11_count : ByteArray := prog_1_method_37_code
def yX11_count : MethodName := ⟨RX11, "count", "(I)I"⟩
abbrev cX11_keep : ByteArray := prog_1_method_38_code
def yX11_keep : MethodName := ⟨RX11, "keep", "(I)I"⟩
abbrev cX11_back : ByteArray := prog_1_method_39_code
def yX11_back : MethodName := ⟨RX11, "back", "(I)I"⟩
abbrev cX11_row : ByteArray := prog_1_method_40_code
def yX11_row : MethodName := ⟨RX11, "row", "(III)I"⟩
abbrev cX11_tear : ByteArray := prog_1_method_41_code
def yX11_tear : MethodName := ⟨RX11, "tear", "(I)Z"⟩
abbrev cX11_write : ByteArray := prog_1_method_42_code
def yX11_write : MethodName := ⟨RX11, "write", "(IIJ)I"⟩
abbrev cX11_paste : ByteArray := prog_1_method_43_code
def yX11_paste : MethodName := ⟨RX11, "paste", "(IIIII)I"⟩
abbrev cX11_isYear : ByteArray := prog_1_method_44_code
def yX11_isYear : MethodName := ⟨RX11, "isYear", "(I)Z"⟩
abbrev cX11_isTongue : ByteArray := prog_1_method_45_code
def yX11_isTongue : MethodName := ⟨RX11, "isTongue", "(I)Z"⟩
abbrev cX11_isNumber : ByteArray := prog_1_method_46_code
def yX11_isNumber : MethodName := ⟨RX11, "isNumber", "(I)Z"⟩
abbrev cX11_isSlot : ByteArray := prog_1_method_47_code
def yX11_isSlot : MethodName := ⟨RX11, "isSlot", "(I)Z"⟩
abbrev cX11_liesInRow : ByteArray := prog_1_method_48_code
def yX11_liesInRow : MethodName := ⟨RX11, "liesInRow", "(III)Z"⟩
abbrev cX11_cut : ByteArray := prog_1_method_49_code
def yX11_cut : MethodName := ⟨RX11, "cut", "(JI)J"⟩
abbrev cX11_countPeople : ByteArray := prog_1_method_50_code
def yX11_countPeople : MethodName := ⟨RX11, "countPeople", "(JJJ)I"⟩
abbrev cX11_taken : ByteArray := prog_1_method_51_code
def yX11_taken : MethodName := ⟨RX11, "taken", "(I)I"⟩
abbrev cX11_rowsHad : ByteArray := prog_1_method_52_code
def yX11_rowsHad : MethodName := ⟨RX11, "rowsHad", "()I"⟩
def RX12 : String := "NameBoardModel"
def TX12 : u_T := fun k => match k with
  | 0 => ("NameBoardModel", "thrown", "I", false)
  | 1 => ("NameBoardModel", "world", "[I", true)
  | 2 => ("NameBoardModel", "images", "[I", true)
  | 3 => ("NameBoardModel", "hasImage", "[Z", true)
  | 4 => ("NameBoardModel", "tape", "[B", true)
  | 5 => ("NameBoardModel", "taped", "I", false)
  | 6 => ("NameBoardModel", "five", "[I", true)
  | 7 => ("NameBoardModel", "partOf", "[I", true)
  | 8 => ("NameBoardModel", "own", "[I", true)
  | 9 => ("NameBoardModel", "all", "[I", true)
  | 10 => ("NameBoardModel", "size", "I", false)
  | 11 => ("NameBoardModel", "at", "I", false)
  | 12 => ("NameBoardModel", "from", "I", false)
  | 13 => ("NameBoardModel", "token", "I", false)
  | 14 => ("NameBoardModel", "value", "I", false)
  | 15 => ("NameBoardModel", "faultKind", "I", false)
  | 16 => ("NameBoardModel", "faultPlace", "I", false)
  | 17 => ("NameBoardModel", "isAct", "Z", false)
  | 18 => ("NameBoardModel", "fresh", "[I", true)
  | 19 => ("NameBoardModel", "laid", "[I", true)
  | 20 => ("NameBoardModel", "by", "[I", true)
  | 21 => ("NameBoardModel", "laidMany", "I", false)
  | 22 => ("NameBoardModel", "hand", "[I", true)
  | 23 => ("NameBoardModel", "handBy", "[I", true)
  | 24 => ("NameBoardModel", "handMany", "I", false)
  | 25 => ("NameBoardModel", "one", "[I", true)
  | 26 => ("NameBoardModel", "oneMany", "I", false)
  | 27 => ("NameBoardModel", "cost", "[I", true)
  | 28 => ("NameBoardModel", "lying", "[I", true)
  | 29 => ("NameBoardModel", "lameSigns", "[I", true)
  | 30 => ("NameBoardModel", "lameMany", "I", false)
  | 31 => ("NameBoardModel", "least", "[I", true)
  | 32 => ("NameBoardModel", "must", "[I", true)
  | 33 => ("NameBoardModel", "plannedAt", "[I", true)
  | 34 => ("NameBoardModel", "hasPlan", "Z", false)
  | 35 => ("NameBoardModel", "mayNow", "[Z", true)
  | 36 => ("NameBoardModel", "paperYear", "I", false)
  | 37 => ("NameBoardModel", "writtenMany", "I", false)
  | 38 => ("NameBoardModel", "written", "[I", true)
  | 39 => ("NameBoardModel", "writtenLong", "[I", true)
  | 40 => ("NameBoardModel", "named", "I", false)
  | 41 => ("NameBoardModel", "namedPlace", "[I", true)
  | 42 => ("NameBoardModel", "gives", "[I", true)
  | 43 => ("NameBoardModel", "row", "[I", true)
  | 44 => ("NameBoardModel", "bestRow", "[I", true)
  | 45 => ("NameBoardModel", "bestSum", "I", false)
  | 46 => ("NameBoardModel", "joinedTo", "[I", true)
  | 47 => ("NameBoardModel", "joinedMany", "I", false)
  | 48 => ("NameBoardModel", "many", "[I", true)
  | 49 => ("NameBoardModel", "width", "[I", true)
  | 50 => ("NameBoardModel", "numbers", "[J", true)
  | _ => ("NameBoardModel", "moved", "[J", true)
def tyX12 : Nat → FieldType := fun k => match k with
  | 0 => .int
  | 1 => .array .int
  | 2 => .array .int
  | 3 => .array .boolean
  | 4 => .array .byte
  | 5 => .int
  | 6 => .array .int
  | 7 => .array .int
  | 8 => .array .int
  | 9 => .array .int
  | 10 => .int
  | 11 => .int
  | 12 => .int
  | 13 => .int
  | 14 => .int
  | 15 => .int
  | 16 => .int
  | 17 => .boolean
  | 18 => .array .int
  | 19 => .array .int
  | 20 => .array .int
  | 21 => .int
  | 22 => .array .int
  | 23 => .array .int
  | 24 => .int
  | 25 => .array .int
  | 26 => .int
  | 27 => .array .int
  | 28 => .array .int
  | 29 => .array .int
  | 30 => .int
  | 31 => .array .int
  | 32 => .array .int
  | 33 => .array .int
  | 34 => .boolean
  | 35 => .array .boolean
  | 36 => .int
  | 37 => .int
  | 38 => .array .int
  | 39 => .array .int
  | 40 => .int
  | 41 => .array .int
  | 42 => .array .int
  | 43 => .array .int
  | 44 => .array .int
  | 45 => .int
  | 46 => .array .int
  | 47 => .int
  | 48 => .array .int
  | 49 => .array .int
  | 50 => .array .long
  | _ => .array .long
abbrev wsX120 : List Cond := u_ws RX12 TX12 52
theorem nmX12 : ∀ a, a < 52 → ∀ b, b < 52 → a ≠ b → (TX12 a).2.1 ≠ (TX12 b).2.1 := by decide +kernel
theorem tyX12_ok : ∀ k, k < 52 → parseFieldDescriptor (TX12 k).2.2.1 = some (tyX12 k) := by decide +kernel
abbrev cX12_init : ByteArray := prog_14_method_1_code
def yX12_init : MethodName := ⟨RX12, "<init>", "()V"⟩
abbrev cX12_in : ByteArray := prog_14_method_3_code
def yX12_in : MethodName := ⟨RX12, "in", "(JJJ)Z"⟩
abbrev cX12_keep : ByteArray := prog_14_method_4_code
def yX12_keep : MethodName := ⟨RX12, "keep", "(I)I"⟩
abbrev cX12_back : ByteArray := prog_14_method_5_code
def yX12_back : MethodName := ⟨RX12, "back", "(I)I"⟩
abbrev cX12_now : ByteArray := prog_14_method_6_code
def yX12_now : MethodName := ⟨RX12, "now", "()I"⟩
abbrev cX12_isPlace : ByteArray := prog_14_method_7_code
def yX12_isPlace : MethodName := ⟨RX12, "isPlace", "(I)Z"⟩
abbrev cX12_isName : ByteArray := prog_14_method_8_code
def yX12_isName : MethodName := ⟨RX12, "isName", "(I)Z"⟩
abbrev cX12_isTongue : ByteArray := prog_14_method_9_code
def yX12_isTongue : MethodName := ⟨RX12, "isTongue", "(I)Z"⟩
abbrev cX12_isYear : ByteArray := prog_14_method_10_code
def yX12_isYear : MethodName := ⟨RX12, "isYear", "(I)Z"⟩
abbrev cX12_nameIs : ByteArray := prog_14_method_11_code
def yX12_nameIs : MethodName := ⟨RX12, "nameIs", "(II)I"⟩
abbrev cX12_feed : ByteArray := prog_14_method_12_code
def yX12_feed : MethodName := ⟨RX12, "feed", "(IIIII)I"⟩
abbrev cX12_end : ByteArray := prog_14_method_13_code
def yX12_end : MethodName := ⟨RX12, "end", "(I)I"⟩
abbrev cX12_isLetters : ByteArray := prog_14_method_14_code
def yX12_isLetters : MethodName := ⟨RX12, "isLetters", "(I)Z"⟩
abbrev cX12_next : ByteArray := prog_14_method_15_code
def yX12_next : MethodName := ⟨RX12, "next", "(I)I"⟩
abbrev cX12_place : ByteArray := prog_14_method_16_code
def yX12_place : MethodName := ⟨RX12, "place", "(II)I"⟩
abbrev cX12_looks : ByteArray := prog_14_method_17_code
def yX12_looks : MethodName := ⟨RX12, "looks", "(I)V"⟩
abbrev cX12_addsUp : ByteArray := prog_14_method_18_code
def yX12_addsUp : MethodName := ⟨RX12, "addsUp", "()V"⟩
abbrev cX12_part : ByteArray := prog_14_method_19_code
def yX12_part : MethodName := ⟨RX12, "part", "(II)I"⟩
abbrev cX12_people : ByteArray := prog_14_method_20_code
def yX12_people : MethodName := ⟨RX12, "people", "(III)I"⟩
abbrev cX12_allOf : ByteArray := prog_14_method_21_code
def yX12_allOf : MethodName := ⟨RX12, "allOf", "(I)I"⟩
abbrev cX12_live : ByteArray := prog_14_method_22_code
def yX12_live : MethodName := ⟨RX12, "live", "(IIII)I"⟩
abbrev cX12_name : ByteArray := prog_14_method_23_code
def yX12_name : MethodName := ⟨RX12, "name", "(III)I"⟩
abbrev cX12_see : ByteArray := prog_14_method_24_code
def yX12_see : MethodName := ⟨RX12, "see", "(I)I"⟩
abbrev cX12_next_ : ByteArray := prog_14_method_25_code
def yX12_next_ : MethodName := ⟨RX12, "next", "()V"⟩
abbrev cX12_begins : ByteArray := prog_14_method_26_code
def yX12_begins : MethodName := ⟨RX12, "begins", "(Z)V"⟩
abbrev cX12_good : ByteArray := prog_14_method_27_code
def yX12_good : MethodName := ⟨RX12, "good", "()Z"⟩
abbrev cX12_wrong : ByteArray := prog_14_method_28_code
def yX12_wrong : MethodName := ⟨RX12, "wrong", "(I)V"⟩
abbrev cX12_is : ByteArray := prog_14_method_29_code
def yX12_is : MethodName := ⟨RX12, "is", "(Ljava/lang/String;)Z"⟩
abbrev cX12_isSign : ByteArray := prog_14_method_30_code
def yX12_isSign : MethodName := ⟨RX12, "isSign", "(I)Z"⟩
abbrev cX12_needSign : ByteArray := prog_14_method_31_code
def yX12_needSign : MethodName := ⟨RX12, "needSign", "(I)V"⟩
abbrev cX12_takes : ByteArray := prog_14_method_32_code
def yX12_takes : MethodName := ⟨RX12, "takes", "(Ljava/lang/String;)Z"⟩
abbrev cX12_number : ByteArray := prog_14_method_33_code
def yX12_number : MethodName := ⟨RX12, "number", "(I)I"⟩
abbrev cX12_fault : ByteArray := prog_14_method_34_code
def yX12_fault : MethodName := ⟨RX12, "fault", "(I)I"⟩
abbrev cX12_isRuleWord : ByteArray := prog_14_method_35_code
def yX12_isRuleWord : MethodName := ⟨RX12, "isRuleWord", "()Z"⟩
abbrev cX12_set : ByteArray := prog_14_method_36_code
def yX12_set : MethodName := ⟨RX12, "set", "(I)V"⟩
abbrev cX12_ruleWord : ByteArray := prog_14_method_37_code
def yX12_ruleWord : MethodName := ⟨RX12, "ruleWord", "(I)V"⟩
abbrev cX12_rule : ByteArray := prog_14_method_38_code
def yX12_rule : MethodName := ⟨RX12, "rule", "(I)V"⟩
abbrev cX12_spelling : ByteArray := prog_14_method_39_code
def yX12_spelling : MethodName := ⟨RX12, "spelling", "(I)I"⟩
abbrev cX12_spellingOf : ByteArray := prog_14_method_40_code
def yX12_spellingOf : MethodName := ⟨RX12, "spellingOf", "(II)I"⟩
abbrev cX12_lays : ByteArray := prog_14_method_41_code
def yX12_lays : MethodName := ⟨RX12, "lays", "(II)V"⟩
abbrev cX12_isOf : ByteArray := prog_14_method_42_code
def yX12_isOf : MethodName := ⟨RX12, "isOf", "(II)Z"⟩
abbrev cX12_fits : ByteArray := prog_14_method_43_code
def yX12_fits : MethodName := ⟨RX12, "fits", "(IIII)Z"⟩
abbrev cX12_spells : ByteArray := prog_14_method_44_code
def yX12_spells : MethodName := ⟨RX12, "spells", "(II)V"⟩
abbrev cX12_takesInHand : ByteArray := prog_14_method_45_code
def yX12_takesInHand : MethodName := ⟨RX12, "takesInHand", "()I"⟩
abbrev cX12_spell : ByteArray := prog_14_method_46_code
def yX12_spell : MethodName := ⟨RX12, "spell", "(II)I"⟩
abbrev cX12_letter : ByteArray := prog_14_method_47_code
def yX12_letter : MethodName := ⟨RX12, "letter", "(I)I"⟩
abbrev cX12_led : ByteArray := prog_14_method_48_code
def yX12_led : MethodName := ⟨RX12, "led", "(I)I"⟩
abbrev cX12_holds : ByteArray := prog_14_method_49_code
def yX12_holds : MethodName := ⟨RX12, "holds", "()V"⟩
abbrev cX12_isAlike : ByteArray := prog_14_method_50_code
def yX12_isAlike : MethodName := ⟨RX12, "isAlike", "()Z"⟩
abbrev cX12_alikes : ByteArray := prog_14_method_51_code
def yX12_alikes : MethodName := ⟨RX12, "alikes", "(I)I"⟩
abbrev cX12_apart : ByteArray := prog_14_method_52_code
def yX12_apart : MethodName := ⟨RX12, "apart", "()I"⟩
abbrev cX12_editsOf : ByteArray := prog_14_method_53_code
def yX12_editsOf : MethodName := ⟨RX12, "editsOf", "(III)I"⟩
abbrev cX12_edits : ByteArray := prog_14_method_54_code
def yX12_edits : MethodName := ⟨RX12, "edits", "(III)I"⟩
abbrev cX12_sortHere : ByteArray := prog_14_method_55_code
def yX12_sortHere : MethodName := ⟨RX12, "sortHere", "()I"⟩
abbrev cX12_factHere : ByteArray := prog_14_method_56_code
def yX12_factHere : MethodName := ⟨RX12, "factHere", "()I"⟩
abbrev cX12_cond : ByteArray := prog_14_method_57_code
def yX12_cond : MethodName := ⟨RX12, "cond", "(I)V"⟩
abbrev cX12_tongueHere : ByteArray := prog_14_method_58_code
def yX12_tongueHere : MethodName := ⟨RX12, "tongueHere", "()I"⟩
abbrev cX12_line : ByteArray := prog_14_method_59_code
def yX12_line : MethodName := ⟨RX12, "line", "(I)V"⟩
abbrev cX12_act : ByteArray := prog_14_method_60_code
def yX12_act : MethodName := ⟨RX12, "act", "()I"⟩
abbrev cX12_actOf : ByteArray := prog_14_method_61_code
def yX12_actOf : MethodName := ⟨RX12, "actOf", "(I)I"⟩
abbrev cX12_termOf : ByteArray := prog_14_method_62_code
def yX12_termOf : MethodName := ⟨RX12, "termOf", "(III)I"⟩
abbrev cX12_partsOf : ByteArray := prog_14_method_63_code
def yX12_partsOf : MethodName := ⟨RX12, "partsOf", "(I)I"⟩
abbrev cX12_holdFor : ByteArray := prog_14_method_64_code
def yX12_holdFor : MethodName := ⟨RX12, "holdFor", "(III)Z"⟩
abbrev cX12_most : ByteArray := prog_14_method_65_code
def yX12_most : MethodName := ⟨RX12, "most", "(II)I"⟩
abbrev cX12_firstOf : ByteArray := prog_14_method_66_code
def yX12_firstOf : MethodName := ⟨RX12, "firstOf", "(III)I"⟩
abbrev cX12_besideOf : ByteArray := prog_14_method_67_code
def yX12_besideOf : MethodName := ⟨RX12, "besideOf", "(III)I"⟩
abbrev cX12_first : ByteArray := prog_14_method_68_code
def yX12_first : MethodName := ⟨RX12, "first", "(III)I"⟩
abbrev cX12_beside : ByteArray := prog_14_method_69_code
def yX12_beside : MethodName := ⟨RX12, "beside", "(III)I"⟩
abbrev cX12_swings : ByteArray := prog_14_method_70_code
def yX12_swings : MethodName := ⟨RX12, "swings", "(I)I"⟩
abbrev cX12_isHearing : ByteArray := prog_14_method_71_code
def yX12_isHearing : MethodName := ⟨RX12, "isHearing", "(I)Z"⟩
abbrev cX12_hearing : ByteArray := prog_14_method_72_code
def yX12_hearing : MethodName := ⟨RX12, "hearing", "(I)I"⟩
abbrev cX12_ask : ByteArray := prog_14_method_73_code
def yX12_ask : MethodName := ⟨RX12, "ask", "(I)I"⟩
abbrev cX12_vote : ByteArray := prog_14_method_74_code
def yX12_vote : MethodName := ⟨RX12, "vote", "(IIZ)I"⟩
abbrev cX12_event : ByteArray := prog_14_method_75_code
def yX12_event : MethodName := ⟨RX12, "event", "(III)V"⟩
abbrev cX12_settledOf : ByteArray := prog_14_method_76_code
def yX12_settledOf : MethodName := ⟨RX12, "settledOf", "(III)I"⟩
abbrev cX12_isNear : ByteArray := prog_14_method_77_code
def yX12_isNear : MethodName := ⟨RX12, "isNear", "(III)Z"⟩
abbrev cX12_isTooAlike : ByteArray := prog_14_method_78_code
def yX12_isTooAlike : MethodName := ⟨RX12, "isTooAlike", "(I)Z"⟩
abbrev cX12_close : ByteArray := prog_14_method_79_code
def yX12_close : MethodName := ⟨RX12, "close", "(I)I"⟩
abbrev cX12_settled : ByteArray := prog_14_method_80_code
def yX12_settled : MethodName := ⟨RX12, "settled", "(IIII)I"⟩
abbrev cX12_undo : ByteArray := prog_14_method_81_code
def yX12_undo : MethodName := ⟨RX12, "undo", "(II)I"⟩
abbrev cX12_shows : ByteArray := prog_14_method_82_code
def yX12_shows : MethodName := ⟨RX12, "shows", "(III)V"⟩
abbrev cX12_shown : ByteArray := prog_14_method_83_code
def yX12_shown : MethodName := ⟨RX12, "shown", "(III)I"⟩
abbrev cX12_sign : ByteArray := prog_14_method_84_code
def yX12_sign : MethodName := ⟨RX12, "sign", "(II)I"⟩
abbrev cX12_isSign0 : ByteArray := prog_14_method_85_code
def yX12_isSign0 : MethodName := ⟨RX12, "isSign0", "(I)Z"⟩
abbrev cX12_signIs : ByteArray := prog_14_method_86_code
def yX12_signIs : MethodName := ⟨RX12, "signIs", "(II)I"⟩
abbrev cX12_anew : ByteArray := prog_14_method_87_code
def yX12_anew : MethodName := ⟨RX12, "anew", "(I)I"⟩
abbrev cX12_isLame : ByteArray := prog_14_method_88_code
def yX12_isLame : MethodName := ⟨RX12, "isLame", "(I)Z"⟩
abbrev cX12_lameSince : ByteArray := prog_14_method_89_code
def yX12_lameSince : MethodName := ⟨RX12, "lameSince", "(I)I"⟩
abbrev cX12_signOf : ByteArray := prog_14_method_90_code
def yX12_signOf : MethodName := ⟨RX12, "signOf", "(II)I"⟩
abbrev cX12_mayBe : ByteArray := prog_14_method_91_code
def yX12_mayBe : MethodName := ⟨RX12, "mayBe", "(III)Z"⟩
abbrev cX12_bits : ByteArray := prog_14_method_92_code
def yX12_bits : MethodName := ⟨RX12, "bits", "(I)I"⟩
abbrev cX12_leastOf : ByteArray := prog_14_method_93_code
def yX12_leastOf : MethodName := ⟨RX12, "leastOf", "(I)I"⟩
abbrev cX12_plan : ByteArray := prog_14_method_94_code
def yX12_plan : MethodName := ⟨RX12, "plan", "(I)I"⟩
abbrev cX12_planned : ByteArray := prog_14_method_95_code
def yX12_planned : MethodName := ⟨RX12, "planned", "(I)I"⟩
abbrev cX12_paper : ByteArray := prog_14_method_96_code
def yX12_paper : MethodName := ⟨RX12, "paper", "(I)I"⟩
abbrev cX12_written : ByteArray := prog_14_method_97_code
def yX12_written : MethodName := ⟨RX12, "written", "()I"⟩
abbrev cX12_hasName : ByteArray := prog_14_method_98_code
def yX12_hasName : MethodName := ⟨RX12, "hasName", "(I)Z"⟩
abbrev cX12_givesOf : ByteArray := prog_14_method_99_code
def yX12_givesOf : MethodName := ⟨RX12, "givesOf", "(II)I"⟩
abbrev cX12_joins : ByteArray := prog_14_method_100_code
def yX12_joins : MethodName := ⟨RX12, "joins", "(III)V"⟩
abbrev cX12_join : ByteArray := prog_14_method_101_code
def yX12_join : MethodName := ⟨RX12, "join", "()I"⟩
abbrev cX12_joined : ByteArray := prog_14_method_102_code
def yX12_joined : MethodName := ⟨RX12, "joined", "(I)I"⟩
abbrev cX12_settledNow : ByteArray := prog_14_method_103_code
def yX12_settledNow : MethodName := ⟨RX12, "settledNow", "()I"⟩
abbrev cX12_count : ByteArray := prog_14_method_104_code
def yX12_count : MethodName := ⟨RX12, "count", "(I)I"⟩
abbrev cX12_isSlot : ByteArray := prog_14_method_105_code
def yX12_isSlot : MethodName := ⟨RX12, "isSlot", "(I)Z"⟩
abbrev cX12_cut : ByteArray := prog_14_method_106_code
def yX12_cut : MethodName := ⟨RX12, "cut", "(JI)J"⟩
abbrev cX12_row : ByteArray := prog_14_method_107_code
def yX12_row : MethodName := ⟨RX12, "row", "(III)I"⟩
abbrev cX12_tear : ByteArray := prog_14_method_108_code
def yX12_tear : MethodName := ⟨RX12, "tear", "(I)Z"⟩
abbrev cX12_write : ByteArray := prog_14_method_109_code
def yX12_write : MethodName := ⟨RX12, "write", "(IIJ)I"⟩
abbrev cX12_paste : ByteArray := prog_14_method_110_code
def yX12_paste : MethodName := ⟨RX12, "paste", "(IIIII)I"⟩
abbrev cX12_counted : ByteArray := prog_14_method_111_code
def yX12_counted : MethodName := ⟨RX12, "counted", "(I)I"⟩
def RJ6 : String := "java/lang/Integer"
def TJ6 : u_T := fun k => match k with
  | _ => ("", "", "", false)
def tyJ6 : Nat → FieldType := fun k => match k with
  | _ => .int
abbrev wsJ60 : List Cond := u_ws RJ6 TJ6 0
theorem nmJ6 : ∀ a, a < 0 → ∀ b, b < 0 → a ≠ b → (TJ6 a).2.1 ≠ (TJ6 b).2.1 := by decide +kernel
theorem tyJ6_ok : ∀ k, k < 0 → parseFieldDescriptor (TJ6 k).2.2.1 = some (tyJ6 k) := by decide +kernel
abbrev cJ6_bitCount_0f7a4 : ByteArray := prog_15_method_49_code
def yJ6_bitCount_0f7a4 : MethodName := ⟨RJ6, "bitCount", "(I)I"⟩
def RJ9 : String := "java/lang/Math"
def TJ9 : u_T := fun k => match k with
  | _ => ("", "", "", false)
def tyJ9 : Nat → FieldType := fun k => match k with
  | _ => .int
abbrev wsJ90 : List Cond := u_ws RJ9 TJ9 0
theorem nmJ9 : ∀ a, a < 0 → ∀ b, b < 0 → a ≠ b → (TJ9 a).2.1 ≠ (TJ9 b).2.1 := by decide +kernel
theorem tyJ9_ok : ∀ k, k < 0 → parseFieldDescriptor (TJ9 k).2.2.1 = some (tyJ9 k) := by decide +kernel
abbrev cJ9_max_7cf53 : ByteArray := prog_16_method_65_code
def yJ9_max_7cf53 : MethodName := ⟨RJ9, "max", "(II)I"⟩
abbrev cJ9_min_7cf53 : ByteArray := prog_16_method_69_code
def yJ9_min_7cf53 : MethodName := ⟨RJ9, "min", "(II)I"⟩
abbrev cJ9_min_f86c9 : ByteArray := prog_16_method_70_code
def yJ9_min_f86c9 : MethodName := ⟨RJ9, "min", "(JJ)J"⟩
def RJ0 : String := "java/lang/String"
def TJ0 : u_T := fun k => match k with
  | _ => ("", "", "", false)
def tyJ0 : Nat → FieldType := fun k => match k with
  | _ => .int
abbrev wsJ00 : List Cond := u_ws RJ0 TJ0 0
theorem nmJ0 : ∀ a, a < 0 → ∀ b, b < 0 → a ≠ b → (TJ0 a).2.1 ≠ (TJ0 b).2.1 := by decide +kernel
theorem tyJ0_ok : ∀ k, k < 0 → parseFieldDescriptor (TJ0 k).2.2.1 = some (tyJ0 k) := by decide +kernel
abbrev cJ0_length_8abf5 : ByteArray := prog_17_method_54_code
def yJ0_length_8abf5 : MethodName := ⟨RJ0, "length", "()I"⟩
abbrev cJ0_charAt_5068e : ByteArray := prog_17_method_56_code
def yJ0_charAt_5068e : MethodName := ⟨RJ0, "charAt", "(I)C"⟩
abbrev cJ0_coder_7d493 : ByteArray := prog_17_method_152_code
def yJ0_coder_7d493 : MethodName := ⟨RJ0, "coder", "()B"⟩
abbrev cJ0_isLatin1_aae02 : ByteArray := prog_17_method_154_code
def yJ0_isLatin1_aae02 : MethodName := ⟨RJ0, "isLatin1", "()Z"⟩
abbrev cJ0_checkIndex_df160 : ByteArray := prog_17_method_155_code
def yJ0_checkIndex_df160 : MethodName := ⟨RJ0, "checkIndex", "(II)V"⟩
def RJ1 : String := "java/lang/StringLatin1"
def TJ1 : u_T := fun k => match k with
  | _ => ("", "", "", false)
def tyJ1 : Nat → FieldType := fun k => match k with
  | _ => .int
abbrev wsJ10 : List Cond := u_ws RJ1 TJ1 0
theorem nmJ1 : ∀ a, a < 0 → ∀ b, b < 0 → a ≠ b → (TJ1 a).2.1 ≠ (TJ1 b).2.1 := by decide +kernel
theorem tyJ1_ok : ∀ k, k < 0 → parseFieldDescriptor (TJ1 k).2.2.1 = some (tyJ1 k) := by decide +kernel
abbrev cJ1_charAt_3b067 : ByteArray := prog_18_method_2_code
def yJ1_charAt_3b067 : MethodName := ⟨RJ1, "charAt", "([BI)C"⟩
def RJ2 : String := "java/lang/StringUTF16"
def TJ2 : u_T := fun k => match k with
  | _ => ("", "", "", false)
def tyJ2 : Nat → FieldType := fun k => match k with
  | _ => .int
abbrev wsJ20 : List Cond := u_ws RJ2 TJ2 0
theorem nmJ2 : ∀ a, a < 0 → ∀ b, b < 0 → a ≠ b → (TJ2 a).2.1 ≠ (TJ2 b).2.1 := by decide +kernel
theorem tyJ2_ok : ∀ k, k < 0 → parseFieldDescriptor (TJ2 k).2.2.1 = some (tyJ2 k) := by decide +kernel
abbrev cJ2_getChar_3b067 : ByteArray := prog_19_method_5_code
def yJ2_getChar_3b067 : MethodName := ⟨RJ2, "getChar", "([BI)C"⟩
abbrev cJ2_length_9d52b : ByteArray := prog_19_method_6_code
def yJ2_length_9d52b : MethodName := ⟨RJ2, "length", "([B)I"⟩
abbrev cJ2_charAt_3b067 : ByteArray := prog_19_method_83_code
def yJ2_charAt_3b067 : MethodName := ⟨RJ2, "charAt", "([BI)C"⟩
abbrev cJ2_checkIndex_2214a : ByteArray := prog_19_method_91_code
def yJ2_checkIndex_2214a : MethodName := ⟨RJ2, "checkIndex", "(I[B)V"⟩
def RJ10 : String := "java/lang/System"
def TJ10 : u_T := fun k => match k with
  | _ => ("", "", "", false)
def tyJ10 : Nat → FieldType := fun k => match k with
  | _ => .int
abbrev wsJ100 : List Cond := u_ws RJ10 TJ10 0
theorem nmJ10 : ∀ a, a < 0 → ∀ b, b < 0 → a ≠ b → (TJ10 a).2.1 ≠ (TJ10 b).2.1 := by decide +kernel
theorem tyJ10_ok : ∀ k, k < 0 → parseFieldDescriptor (TJ10 k).2.2.1 = some (tyJ10 k) := by decide +kernel
def RJ7 : String := "java/util/Arrays"
def TJ7 : u_T := fun k => match k with
  | _ => ("", "", "", false)
def tyJ7 : Nat → FieldType := fun k => match k with
  | _ => .int
abbrev wsJ70 : List Cond := u_ws RJ7 TJ7 0
theorem nmJ7 : ∀ a, a < 0 → ∀ b, b < 0 → a ≠ b → (TJ7 a).2.1 ≠ (TJ7 b).2.1 := by decide +kernel
theorem tyJ7_ok : ∀ k, k < 0 → parseFieldDescriptor (TJ7 k).2.2.1 = some (tyJ7 k) := by decide +kernel
abbrev cJ7_fill_53178 : ByteArray := prog_21_method_103_code
def yJ7_fill_53178 : MethodName := ⟨RJ7, "fill", "([II)V"⟩
def RJ3 : String := "jdk/internal/util/Preconditions"
def TJ3 : u_T := fun k => match k with
  | _ => ("", "", "", false)
def tyJ3 : Nat → FieldType := fun k => match k with
  | _ => .int
abbrev wsJ30 : List Cond := u_ws RJ3 TJ3 0
theorem nmJ3 : ∀ a, a < 0 → ∀ b, b < 0 → a ≠ b → (TJ3 a).2.1 ≠ (TJ3 b).2.1 := by decide +kernel
theorem tyJ3_ok : ∀ k, k < 0 → parseFieldDescriptor (TJ3 k).2.2.1 = some (tyJ3 k) := by decide +kernel
abbrev cJ3_checkIndex_8e157 : ByteArray := prog_22_method_11_code
def yJ3_checkIndex_8e157 : MethodName := ⟨RJ3, "checkIndex", "(IILjava/util/function/BiFunction;)I"⟩
abbrev cL_law : ByteArray := code
abbrev vwCl : List vw_C := [(RX0, TX0, 12), (RX1, TX1, 12), (RX2, TX2, 11), (RX3, TX3, 10), (RX4, TX4, 6), (RX5, TX5, 3), (RX6, TX6, 4), (RX7, TX7, 16), (RX8, TX8, 7), (RX9, TX9, 8), (RX10, TX10, 11), (RX11, TX11, 10), (RX12, TX12, 52)]
def lwG : List Cond := lw_tbl.filter goodWord
theorem lwG_of {w : Cond} (i : Nat) (h : lw_tbl[i]? = some w) (hg : goodWord w = true) : w ∈ lwG := List.mem_filter.mpr ⟨List.mem_of_getElem? h, hg⟩
theorem lwG_tbl {w : Cond} (h : w ∈ lwG) : w ∈ lw_tbl := (List.mem_filter.mp h).1
theorem lwG_good {w : Cond} (h : w ∈ lwG) : goodWord w = true := (List.mem_filter.mp h).2
set_option maxRecDepth 20000 in
theorem inU0 : ∀ w ∈ u_ws RX0 TX0 12, w ∈ lw_tbl := by decide +kernel
theorem inT0 : ∀ w ∈ u_ws RX0 TX0 12, w ∈ lwG := fun w h => List.mem_filter.mpr ⟨inU0 w h, List.all_eq_true.mp (show (u_ws RX0 TX0 12).all goodWord = true by decide +kernel) w h⟩
set_option maxRecDepth 20000 in
theorem inU1 : ∀ w ∈ u_ws RX1 TX1 12, w ∈ lw_tbl := by decide +kernel
theorem inT1 : ∀ w ∈ u_ws RX1 TX1 12, w ∈ lwG := fun w h => List.mem_filter.mpr ⟨inU1 w h, List.all_eq_true.mp (show (u_ws RX1 TX1 12).all goodWord = true by decide +kernel) w h⟩
set_option maxRecDepth 20000 in
theorem inU2 : ∀ w ∈ u_ws RX2 TX2 11, w ∈ lw_tbl := by decide +kernel
theorem inT2 : ∀ w ∈ u_ws RX2 TX2 11, w ∈ lwG := fun w h => List.mem_filter.mpr ⟨inU2 w h, List.all_eq_true.mp (show (u_ws RX2 TX2 11).all goodWord = true by decide +kernel) w h⟩
set_option maxRecDepth 20000 in
theorem inU3 : ∀ w ∈ u_ws RX3 TX3 10, w ∈ lw_tbl := by decide +kernel
theorem inT3 : ∀ w ∈ u_ws RX3 TX3 10, w ∈ lwG := fun w h => List.mem_filter.mpr ⟨inU3 w h, List.all_eq_true.mp (show (u_ws RX3 TX3 10).all goodWord = true by decide +kernel) w h⟩
set_option maxRecDepth 20000 in
theorem inU4 : ∀ w ∈ u_ws RX4 TX4 6, w ∈ lw_tbl := by decide +kernel
theorem inT4 : ∀ w ∈ u_ws RX4 TX4 6, w ∈ lwG := fun w h => List.mem_filter.mpr ⟨inU4 w h, List.all_eq_true.mp (show (u_ws RX4 TX4 6).all goodWord = true by decide +kernel) w h⟩
set_option maxRecDepth 20000 in
theorem inU5 : ∀ w ∈ u_ws RX5 TX5 3, w ∈ lw_tbl := by decide +kernel
theorem inT5 : ∀ w ∈ u_ws RX5 TX5 3, w ∈ lwG := fun w h => List.mem_filter.mpr ⟨inU5 w h, List.all_eq_true.mp (show (u_ws RX5 TX5 3).all goodWord = true by decide +kernel) w h⟩
set_option maxRecDepth 20000 in
theorem inU6 : ∀ w ∈ u_ws RX6 TX6 4, w ∈ lw_tbl := by decide +kernel
theorem inT6 : ∀ w ∈ u_ws RX6 TX6 4, w ∈ lwG := fun w h => List.mem_filter.mpr ⟨inU6 w h, List.all_eq_true.mp (show (u_ws RX6 TX6 4).all goodWord = true by decide +kernel) w h⟩
set_option maxRecDepth 20000 in
theorem inU7 : ∀ w ∈ u_ws RX7 TX7 16, w ∈ lw_tbl := by decide +kernel
theorem inT7 : ∀ w ∈ u_ws RX7 TX7 16, w ∈ lwG := fun w h => List.mem_filter.mpr ⟨inU7 w h, List.all_eq_true.mp (show (u_ws RX7 TX7 16).all goodWord = true by decide +kernel) w h⟩
set_option maxRecDepth 20000 in
theorem inU8 : ∀ w ∈ u_ws RX8 TX8 7, w ∈ lw_tbl := by decide +kernel
theorem inT8 : ∀ w ∈ u_ws RX8 TX8 7, w ∈ lwG := fun w h => List.mem_filter.mpr ⟨inU8 w h, List.all_eq_true.mp (show (u_ws RX8 TX8 7).all goodWord = true by decide +kernel) w h⟩
set_option maxRecDepth 20000 in
theorem inU9 : ∀ w ∈ u_ws RX9 TX9 8, w ∈ lw_tbl := by decide +kernel
theorem inT9 : ∀ w ∈ u_ws RX9 TX9 8, w ∈ lwG := fun w h => List.mem_filter.mpr ⟨inU9 w h, List.all_eq_true.mp (show (u_ws RX9 TX9 8).all goodWord = true by decide +kernel) w h⟩
set_option maxRecDepth 20000 in
theorem inU10 : ∀ w ∈ u_ws RX10 TX10 11, w ∈ lw_tbl := by decide +kernel
theorem inT10 : ∀ w ∈ u_ws RX10 TX10 11, w ∈ lwG := fun w h => List.mem_filter.mpr ⟨inU10 w h, List.all_eq_true.mp (show (u_ws RX10 TX10 11).all goodWord = true by decide +kernel) w h⟩
set_option maxRecDepth 20000 in
theorem inU11 : ∀ w ∈ u_ws RX11 TX11 10, w ∈ lw_tbl := by decide +kernel
theorem inT11 : ∀ w ∈ u_ws RX11 TX11 10, w ∈ lwG := fun w h => List.mem_filter.mpr ⟨inU11 w h, List.all_eq_true.mp (show (u_ws RX11 TX11 10).all goodWord = true by decide +kernel) w h⟩
set_option maxRecDepth 20000 in
theorem inU12 : ∀ w ∈ u_ws RX12 TX12 52, w ∈ lw_tbl := by decide +kernel
theorem inT12 : ∀ w ∈ u_ws RX12 TX12 52, w ∈ lwG := fun w h => List.mem_filter.mpr ⟨inU12 w h, List.all_eq_true.mp (show (u_ws RX12 TX12 52).all goodWord = true by decide +kernel) w h⟩
end
section
/-! the strings that the classes name: their lengths and bytes -/
def s_txt : List String := ["after", "before", "first", "both", "far", "dead", "sign", "votes", "apart", "if", "and", "not", "share", "people", "parts", "year"]
def s_len : List Nat := s_txt.map (fun s => s.length)
def s_byt : List (List Int32) := s_txt.map (fun s => s.toList.map (fun c => Int32.ofNat c.toNat))
abbrev VE : Type := va_G × (ClassId × ClassId × ClassId × ClassId × ClassId) × (Nat → Nat) × (Nat → Nat)
abbrev eB (E : VE) : ClassId := E.2.1.1
abbrev eI (E : VE) : ClassId := E.2.1.2.1
abbrev eJ (E : VE) : ClassId := E.2.1.2.2.1
abbrev eZ (E : VE) : ClassId := E.2.1.2.2.2.1
abbrev eS (E : VE) : ClassId := E.2.1.2.2.2.2
abbrev tysE (E : VE) : List (ClassId × FieldType) := [(eB E, .byte), (eI E, .int), (eJ E, .long), (eZ E, .boolean), (eS E, .object "NameBoard$State")]
/-- what holds of the strings: their cells lie outside A; where the constants are -/
def s_refs : List (String × Nat × String × Nat) := [("NameBoard$Speech", 80, "after", 0), ("NameBoard$Speech", 123, "before", 1), ("NameBoard$Acts", 74, "first", 2), ("NameBoard$Acts", 80, "both", 3), ("NameBoard$Acts", 82, "far", 4), ("NameBoard$Acts", 84, "dead", 5), ("NameBoard$Acts", 86, "sign", 6), ("NameBoard$Acts", 88, "votes", 7), ("NameBoard$Acts", 117, "apart", 8), ("NameBoard$Acts", 93, "if", 9), ("NameBoard$Acts", 98, "not", 11), ("NameBoard$Acts", 123, "share", 12), ("NameBoard$Acts", 125, "people", 13), ("NameBoard$Acts", 127, "parts", 14), ("NameBoard$Acts", 129, "year", 15), ("NameBoard$Acts", 107, "and", 10), ("NameBoardModel", 232, "after", 0), ("NameBoardModel", 234, "before", 1), ("NameBoardModel", 307, "first", 2), ("NameBoardModel", 309, "both", 3), ("NameBoardModel", 311, "far", 4), ("NameBoardModel", 313, "dead", 5), ("NameBoardModel", 315, "sign", 6), ("NameBoardModel", 317, "votes", 7), ("NameBoardModel", 341, "apart", 8), ("NameBoardModel", 342, "if", 9), ("NameBoardModel", 327, "not", 11), ("NameBoardModel", 319, "share", 12), ("NameBoardModel", 321, "people", 13), ("NameBoardModel", 323, "parts", 14), ("NameBoardModel", 325, "year", 15), ("NameBoardModel", 347, "and", 10)]
def SF (E : VE) (A : Nat → Prop) (U : State) (H : Heap) : Prop :=
  vk_S 16 s_len s_byt E.2.2.1 E.2.2.2 A U H ∧ va_Z "java/lang/String" "COMPACT_STRINGS" "Z" (.int 1) A U H ∧ va_Zq "jdk/internal/util/Preconditions" "SIOOBE_FORMATTER" "Ljava/util/function/BiFunction;" A U H ∧ ∀ q ∈ s_refs, vk_R q.1 q.2.1 q.2.2.1 (E.2.2.1 q.2.2.2) U
theorem SF.kept {E : VE} {A : Nat → Prop} {U : State} {H H1 : Heap} (h : SF E A U H) (hq : ∀ a : Nat, a < H.size → ¬ A a → H1[a]? = H[a]?) : SF E A U H1 := ⟨h.1.kept hq, h.2.1.kept hq, h.2.2.1.kept hq, h.2.2.2⟩
theorem SF.narrow {E : VE} {A B : Nat → Prop} {U : State} {H : Heap} (h : SF E A U H) (hAB : ∀ q, B q → A q) : SF E B U H := ⟨⟨fun i hi => ⟨(h.1.1 i hi).1.narrow hAB, (h.1.1 i hi).2.1.narrow hAB, (h.1.1 i hi).2.2.1.narrow hAB, (h.1.1 i hi).2.2.2.narrow hAB⟩, h.1.2⟩, h.2.1.narrow hAB, h.2.2.1.narrow hAB, h.2.2.2⟩
theorem SF.warm {E : VE} {A : Nat → Prop} {s U : State} {H : Heap} (hW : s.WarmedH U.vm) (h : SF E A s H) : SF E A U H := ⟨h.1.moved hW.alike, h.2.1.moved hW.alike, h.2.2.1.moved hW.alike, fun q hq => (h.2.2.2 q hq).warm hW⟩
theorem SF.same {E : VE} {A : Nat → Prop} {u U : State} {H : Heap} (hv : U.vm = u.vm) (h : SF E A u H) : SF E A U H := ⟨h.1.moved (by rw [hv]; exact Vm.Alike.refl u.vm), h.2.1.moved (by rw [hv]; exact Vm.Alike.refl u.vm), h.2.2.1.moved (by rw [hv]; exact Vm.Alike.refl u.vm), fun q hq => (h.2.2.2 q hq).same hv⟩
abbrev VX : Type := Program × Launch × Env × Room × State × MethodId × Array Value × List Frame × Method × Code × (State → Prop) × (Nat → Prop) × Nat × VE
/-- from every heap that holds the world ws, with these locals and this stack at pc, the machine comes to its end -/
def VV (X : VX) (a b : Nat) (ws : va_W) (lv : List (Nat × Value)) (pc : Nat) (st : List Value) : Prop := match X with
  | (p, l, e, R, s, m, args, below, meth, c, Q, A, nL, E) => ∀ (H : Heap) (locs : List Loc) (ls : Array Slot), va_P E.1 vwCl ws H → va_D A ws → va_S A s.heap H locs → lv_has ls nL lv → W p l e R s m args below meth c H locs a b Q (F0 m pc ls st)
def VC (X : VX) (cc : ByteArray) (n : Nat) (own : String) (R : Room) (E : VE) (l : Launch) : Prop := match X with
  | (p, l', e, R', s, m, args, _, _, c, _, A, nL, E') => p.tables.exec = Jvm.exec ∧ c.code = cc ∧ c.maxLocals = n ∧ s.vm.findClass own = some m.cls ∧ (∀ w ∈ lwG, w.before args s = true) ∧ va_K E.1 vwCl (tysE E) s ∧ SF E A s s.heap ∧ (∀ q, s.heap.size ≤ q → A q) ∧ R' = R ∧ nL = n ∧ E' = E ∧ l' = l
theorem va_is {ws ws' : va_W} (is : List Nat) (hs : is.map (fun i => ws[i]?) = ws'.map some) : ∀ (k : Nat) (q : Nat × va_E), ws'[k]? = some q → ∃ i, is[k]? = some i ∧ ws[i]? = some q := by
  intro k q hq
  have h1 : (is.map (fun i => ws[i]?))[k]? = some (some q) := by rw [hs, List.getElem?_map, hq]; rfl
  rw [List.getElem?_map] at h1
  cases hi : is[k]? with
  | none => rw [hi] at h1; cases h1
  | some i => rw [hi] at h1; exact ⟨i, rfl, Option.some.inj h1⟩
theorem va_rng (ws : va_W) : (List.range ws.length).map (fun i => ws[i]?) = ws.map some := by
  apply List.ext_getElem?
  intro i
  by_cases h : i < ws.length
  · simp [h]
  · simp [h, Nat.le_of_not_lt h]
def rmL (d mc ms : Nat) : Room := { frames := d, cells := mc, slots := ms, locals := 40 * d }
def PK (E : VE) (A : Nat → Prop) (U : State) : Prop := va_K E.1 vwCl (tysE E) U ∧ SF E A U U.heap
def mPre (E : VE) (av : List Value) (w0 : va_W) (sz : Nat) : Array Value → State → Prop := va_Pc av (fun U => U.heap.size = sz ∧ va_P E.1 vwCl w0 U.heap ∧ PK E (va_A w0 sz) U ∧ va_D (fun _ => True) w0)
def mB {S : Type} (E : VE) (w0 : va_W) (sz : Nat) (wf : S → va_W) : S → State → Prop := fun u t => va_P E.1 vwCl (wf u) t.heap ∧ va_K E.1 vwCl (tysE E) t ∧ va_D (va_A w0 sz) (wf u)
def MI {S : Type} (l : Launch) (y : MethodName) (cc : ByteArray) (n : Nat) (ty : FieldType) (d mc ms : Nat) (E : VE) (av : List Value) (w0 : va_W) (wf : S → va_W) (post : Int32 → S → Prop) : Prop :=
  ∀ sz, Met l y (.code y cc n (some ty) :: lwG) (rmL d mc ms) (mPre E av w0 sz) (va_Qi post (mB E w0 sz wf) (va_A w0 sz)) mc ms (va_A w0 sz)
def ML {S : Type} (l : Launch) (y : MethodName) (cc : ByteArray) (n : Nat) (d mc ms : Nat) (E : VE) (av : List Value) (w0 : va_W) (wf : S → va_W) (post : Int64 → S → Prop) : Prop :=
  ∀ sz, Met l y (.code y cc n (some .long) :: lwG) (rmL d mc ms) (mPre E av w0 sz) (va_Ql post (mB E w0 sz wf) (va_A w0 sz)) mc ms (va_A w0 sz)
def MV {S : Type} (l : Launch) (y : MethodName) (cc : ByteArray) (n : Nat) (d mc ms : Nat) (E : VE) (av : List Value) (w0 : va_W) (wf : S → va_W) (post : S → Prop) : Prop :=
  ∀ sz, Met l y (.code y cc n none :: lwG) (rmL d mc ms) (mPre E av w0 sz) (va_Qv post (mB E w0 sz wf) (va_A w0 sz)) mc ms (va_A w0 sz)
theorem mPre_blind {E : VE} {av : List Value} {w0 : va_W} {sz : Nat} : FrameBlind (mPre E av w0 sz) := fun a U g mk q => by
  obtain ⟨q0, q1, qP, ⟨qK, qF⟩, qD⟩ := q
  exact ⟨q0, q1, qP, ⟨va_K.moved (u := U) (U := U.calling g mk a) (Vm.Alike.refl U.vm) qK, SF.same (u := U) rfl qF⟩, qD⟩

def RetI {S : Type} (X : VX) (cc : ByteArray) (ty : FieldType) (mc ms : Nat) (wf : S → va_W) (post : Int32 → S → Prop) : Prop := ∀ (a b pc : Nat) (lv : List (Nat × Value)) (r : Int32) (u : S), decode cc pc = .ok (.ireturn, 1) → narrow ty (.int r) = .int r → post r u → a ≤ mc → b ≤ ms → VV X a b (wf u) lv pc [.int r]
def RetL {S : Type} (X : VX) (cc : ByteArray) (mc ms : Nat) (wf : S → va_W) (post : Int64 → S → Prop) : Prop := ∀ (a b pc : Nat) (lv : List (Nat × Value)) (r : Int64) (u : S), decode cc pc = .ok (.lreturn, 1) → post r u → a ≤ mc → b ≤ ms → VV X a b (wf u) lv pc [.long r]
def RetV {S : Type} (X : VX) (cc : ByteArray) (mc ms : Nat) (wf : S → va_W) (post : S → Prop) : Prop := ∀ (a b pc : Nat) (lv : List (Nat × Value)) (u : S), decode cc pc = .ok (.return_, 1) → post u → a ≤ mc → b ≤ ms → VV X a b (wf u) lv pc []
abbrev Md : Type := (Nat → Int32) × (Nat → Nat → Int32) × (Nat → Nat → Int64) × (Nat → Nat → Int8) × (Nat → Nat → Bool) × (Nat → Nat → Option Nat) × (Nat → Nat)
def gF (u : Md) (k : Nat) : Int32 := u.1 k
def gA (u : Md) (k : Nat) : Nat → Int32 := u.2.1 k
def gL (u : Md) (k : Nat) : Nat → Int64 := u.2.2.1 k
def gB (u : Md) (k : Nat) : Nat → Int8 := u.2.2.2.1 k
def gZ (u : Md) (k : Nat) : Nat → Bool := u.2.2.2.2.1 k
def gO (u : Md) (k : Nat) : Nat → Option Nat := u.2.2.2.2.2.1 k
def gX (u : Md) (k : Nat) : Nat := u.2.2.2.2.2.2 k
def sF (u : Md) (k : Nat) (v : Int32) : Md := (va_up u.1 k v, u.2)
def sA (u : Md) (k : Nat) (f : Nat → Int32) : Md := (u.1, va_up u.2.1 k f, u.2.2)
def sL (u : Md) (k : Nat) (f : Nat → Int64) : Md := (u.1, u.2.1, va_up u.2.2.1 k f, u.2.2.2)
def sB (u : Md) (k : Nat) (f : Nat → Int8) : Md := (u.1, u.2.1, u.2.2.1, va_up u.2.2.2.1 k f, u.2.2.2.2)
def sZ (u : Md) (k : Nat) (f : Nat → Bool) : Md := (u.1, u.2.1, u.2.2.1, u.2.2.2.1, va_up u.2.2.2.2.1 k f, u.2.2.2.2.2)
def sO (u : Md) (k : Nat) (f : Nat → Option Nat) : Md := (u.1, u.2.1, u.2.2.1, u.2.2.2.1, u.2.2.2.2.1, va_up u.2.2.2.2.2.1 k f, u.2.2.2.2.2.2)
def sX (u : Md) (k : Nat) (v : Nat) : Md := (u.1, u.2.1, u.2.2.1, u.2.2.2.1, u.2.2.2.2.1, u.2.2.2.2.2.1, va_up u.2.2.2.2.2.2 k v)
def tA (u : Md) (k : Nat) (i : Int32) (x : Int32) : Md := sA u k (va_up (gA u k) i.toNatClampNeg x)
def tL (u : Md) (k : Nat) (i : Int32) (x : Int64) : Md := sL u k (va_up (gL u k) i.toNatClampNeg x)
def tB (u : Md) (k : Nat) (i : Int32) (x : Int32) : Md := sB u k (va_up (gB u k) i.toNatClampNeg x.toInt8)
def tZ (u : Md) (k : Nat) (i : Int32) (x : Int32) : Md := sZ u k (va_up (gZ u k) i.toNatClampNeg (decide (x &&& 1 = 1)))
def b8 (f : Nat → Int8) : Nat → Int32 := fun j => (f j).toInt32
def bz (f : Nat → Bool) : Nat → Int32 := fun j => if f j then 1 else 0
abbrev i2z (x : Int32) : Bool := decide (x &&& 1 = 1)
theorem up_b8 (f : Nat → Int8) (i : Nat) (x : Int32) : upd (b8 f) i (vp_nar .byte x) = b8 (va_up f i x.toInt8) := by
  funext j
  by_cases h : j = i
  · simp [upd, b8, va_up, h, vp_nar, narrow]
  · simp [upd, b8, va_up, h]
theorem and1 (x : Int32) : x &&& 1 = 0 ∨ x &&& 1 = 1 := by
  have h : ∀ b : BitVec 32, b &&& 1#32 = 0#32 ∨ b &&& 1#32 = 1#32 := by
    intro b
    have hb : (b &&& 1#32).toNat = b.toNat % 2 := by rw [BitVec.toNat_and]; exact Nat.and_one_is_mod _
    rcases Nat.mod_two_eq_zero_or_one b.toNat with h | h
    · exact Or.inl (BitVec.eq_of_toNat_eq (by rw [hb, h]; rfl))
    · exact Or.inr (BitVec.eq_of_toNat_eq (by rw [hb, h]; rfl))
  rcases h x.toBitVec with h | h
  · exact Or.inl (Int32.toBitVec_inj.mp (by rw [Int32.toBitVec_and]; exact h))
  · exact Or.inr (Int32.toBitVec_inj.mp (by rw [Int32.toBitVec_and]; exact h))
theorem nar_z (x : Int32) : vp_nar .boolean x = x &&& 1 := by
  simp [vp_nar, narrow]
theorem up_bz (f : Nat → Bool) (i : Nat) (x : Int32) : upd (bz f) i (vp_nar .boolean x) = bz (va_up f i (i2z x)) := by
  funext j
  rw [nar_z]
  by_cases h : j = i
  · rcases and1 x with h1 | h1 <;> simp [upd, bz, va_up, h, i2z, h1]
  · simp [upd, bz, va_up, h]
theorem fit_b8 (f : Nat → Int8) (j : Nat) : fits .byte (.int (b8 f j)) = true := by
  have h1 := Int8.le_toInt (f j)
  have h2 := Int8.toInt_lt (f j)
  simp only [fits, b8, Bool.and_eq_true, decide_eq_true_eq, Int32.le_iff_toInt_le, Int8.toInt_toInt32]
  exact ⟨h1, by show (f j).toInt ≤ 127; omega⟩
theorem fit_bz (f : Nat → Bool) (j : Nat) : fits .boolean (.int (bz f j)) = true := by
  unfold bz; by_cases h : f j <;> simp [fits, h]
theorem cpy_b8 (f g : Nat → Int8) (a b n : Nat) : va_cpy (b8 f) (b8 g) a b n = b8 (va_cpy f g a b n) := by
  funext j; unfold va_cpy b8; by_cases h : b ≤ j ∧ j < b + n <;> simp [h]
theorem cpy_bz (f g : Nat → Bool) (a b n : Nat) : va_cpy (bz f) (bz g) a b n = bz (va_cpy f g a b n) := by
  funext j; unfold va_cpy bz; by_cases h : b ≤ j ∧ j < b + n <;> simp [h]
theorem nz01 {r : Int32} (h : r = 0 ∨ r = 1) : narrow .boolean (.int r) = .int r := by rcases h with rfl | rfl <;> rfl
theorem fz01 {r : Int32} (h : r = 0 ∨ r = 1) : fits .boolean (.int r) = true := by rcases h with rfl | rfl <;> rfl
def cpyOK (sp dp n : Int32) (N0 N1 : Nat) : Prop := ¬ sp < 0 ∧ ¬ dp < 0 ∧ ¬ n < 0 ∧ sp.toNatClampNeg + n.toNatClampNeg ≤ N0 ∧ dp.toNatClampNeg + n.toNatClampNeg ≤ N1
def imin (x y : Int32) : Int32 := if y < x then y else x
def imax (x y : Int32) : Int32 := if x < y then y else x
theorem va_nd_range (n : Nat) : va_nd (List.range n) = true := by
  have key : ∀ (l : List Nat), l.Nodup → va_nd l = true := by
    intro l
    induction l with
    | nil => intro _; rfl
    | cons a l ih => intro h; rw [List.nodup_cons] at h; simp [va_nd, h.1, ih h.2]
  exact key _ List.nodup_range
def VInit (X : VX) : Prop := match X with | (_, _, _, _, _, _, _, _, meth, _, _, _, _, _) => meth.name = "<init>"
theorem MI.of {S : Type} {l : Launch} {y : MethodName} {cc : ByteArray} {n : Nat} {ty : FieldType} {d mc ms : Nat} {E : VE} {av : List Value} {w0 : va_W} {wf : S → va_W} {post : Int32 → S → Prop} {own : String} (hy : plainName y.cls = true) (ho : y.cls = own) (hlen : (lg_sl av).length ≤ n) (body : ∀ X : VX, VC X cc n own (rmL d mc ms) E l → (y.name = "<init>" → VInit X) → RetI X cc ty mc ms wf post → VV X 0 0 w0 (lv_args 0 av) 0 []) : MI l y cc n ty d mc ms E av w0 wf post := by
  subst ho
  intro sz
  refine Met.ofW (cc := cc) (maxL := n) hy rfl ?_
  intro p e s m args below meth c s₁ B hml hv
  obtain ⟨rfl, hsz, hP, ⟨hK, hSF⟩, hD0⟩ := hv
  have hx := B.exec
  have hb := B.bytes
  have hr := B.returns
  have hts := atoms_spec B.pre
  have hown : s.vm.findClass y.cls = some m.cls := findClass_of_methodNamed B.named
  have hlocks := B.notSynchronized
  have hin : y.name = "<init>" → meth.name = "<init>" := fun h => ((name_of_methodNamed B.named B.method).1).trans h
  subst hsz
  have hD := hD0.self (sz := s.heap.size)
  have hA : ∀ q, s.heap.size ≤ q → va_A w0 s.heap.size q := fun q h => Or.inr h
  have hl := lv_entry av (n := n) hlen
  rw [lg_entry_eq]
  refine body (p, l, e, rmL d mc ms, s, m, av.toArray, below, meth, c, _, va_A w0 s.heap.size, n, E) ⟨hx, hb, hml, hown, fun w h => hts w (List.mem_cons_of_mem _ h), hK, hSF, hA, rfl, rfl, rfl, rfl⟩ hin ?_ s.heap [] _ hP hD va_S.rf hl
  intro a b pc lv r u hdg hn hq h1 h2 H locs ls hP hD hS hl
  refine W.widen (k := mc) (n := ms) h1 h2 ?_
  exact W.zret (v := r) hx hb hr hn (fun t ht hW => ⟨⟨r, u, rfl, hq, by rw [ht]; exact hP, va_K.moved hW.alike hK, hD⟩, hS.F ht⟩) hS.2.2 hdg
theorem ML.of {S : Type} {l : Launch} {y : MethodName} {cc : ByteArray} {n : Nat}  {d mc ms : Nat} {E : VE} {av : List Value} {w0 : va_W} {wf : S → va_W} {post : Int64 → S → Prop} {own : String} (hy : plainName y.cls = true) (ho : y.cls = own) (hlen : (lg_sl av).length ≤ n) (body : ∀ X : VX, VC X cc n own (rmL d mc ms) E l → (y.name = "<init>" → VInit X) → RetL X cc mc ms wf post → VV X 0 0 w0 (lv_args 0 av) 0 []) : ML l y cc n d mc ms E av w0 wf post := by
  subst ho
  intro sz
  refine Met.ofW (cc := cc) (maxL := n) hy rfl ?_
  intro p e s m args below meth c s₁ B hml hv
  obtain ⟨rfl, hsz, hP, ⟨hK, hSF⟩, hD0⟩ := hv
  have hx := B.exec
  have hb := B.bytes
  have hr := B.returns
  have hts := atoms_spec B.pre
  have hown : s.vm.findClass y.cls = some m.cls := findClass_of_methodNamed B.named
  have hlocks := B.notSynchronized
  have hin : y.name = "<init>" → meth.name = "<init>" := fun h => ((name_of_methodNamed B.named B.method).1).trans h
  subst hsz
  have hD := hD0.self (sz := s.heap.size)
  have hA : ∀ q, s.heap.size ≤ q → va_A w0 s.heap.size q := fun q h => Or.inr h
  have hl := lv_entry av (n := n) hlen
  rw [lg_entry_eq]
  refine body (p, l, e, rmL d mc ms, s, m, av.toArray, below, meth, c, _, va_A w0 s.heap.size, n, E) ⟨hx, hb, hml, hown, fun w h => hts w (List.mem_cons_of_mem _ h), hK, hSF, hA, rfl, rfl, rfl, rfl⟩ hin ?_ s.heap [] _ hP hD va_S.rf hl
  intro a b pc lv r u hdg hq h1 h2 H locs ls hP hD hS hl
  refine W.widen (k := mc) (n := ms) h1 h2 ?_
  exact W.lret (v := r) hx hb hr (fun t ht hW => ⟨⟨r, u, rfl, hq, by rw [ht]; exact hP, va_K.moved hW.alike hK, hD⟩, hS.F ht⟩) hS.2.2 hdg
theorem MV.of {S : Type} {l : Launch} {y : MethodName} {cc : ByteArray} {n : Nat}  {d mc ms : Nat} {E : VE} {av : List Value} {w0 : va_W} {wf : S → va_W} {post : S → Prop} {own : String} (hy : plainName y.cls = true) (ho : y.cls = own) (hlen : (lg_sl av).length ≤ n) (body : ∀ X : VX, VC X cc n own (rmL d mc ms) E l → (y.name = "<init>" → VInit X) → RetV X cc mc ms wf post → VV X 0 0 w0 (lv_args 0 av) 0 []) : MV l y cc n d mc ms E av w0 wf post := by
  subst ho
  intro sz
  refine Met.ofW (cc := cc) (maxL := n) hy rfl ?_
  intro p e s m args below meth c s₁ B hml hv
  obtain ⟨rfl, hsz, hP, ⟨hK, hSF⟩, hD0⟩ := hv
  have hx := B.exec
  have hb := B.bytes
  have hr := B.returns
  have hts := atoms_spec B.pre
  have hown : s.vm.findClass y.cls = some m.cls := findClass_of_methodNamed B.named
  have hlocks := B.notSynchronized
  have hin : y.name = "<init>" → meth.name = "<init>" := fun h => ((name_of_methodNamed B.named B.method).1).trans h
  subst hsz
  have hD := hD0.self (sz := s.heap.size)
  have hA : ∀ q, s.heap.size ≤ q → va_A w0 s.heap.size q := fun q h => Or.inr h
  have hl := lv_entry av (n := n) hlen
  rw [lg_entry_eq]
  refine body (p, l, e, rmL d mc ms, s, m, av.toArray, below, meth, c, _, va_A w0 s.heap.size, n, E) ⟨hx, hb, hml, hown, fun w h => hts w (List.mem_cons_of_mem _ h), hK, hSF, hA, rfl, rfl, rfl, rfl⟩ hin ?_ s.heap [] _ hP hD va_S.rf hl
  intro a b pc lv u hdg hq h1 h2 H locs ls hP hD hS hl
  refine W.widen (k := mc) (n := ms) h1 h2 ?_
  exact W.vret hx hb hr (fun t ht hW => ⟨⟨u, rfl, hq, by rw [ht]; exact hP, va_K.moved hW.alike hK, hD⟩, hS.F ht⟩) hS.2.2 hdg
theorem v_iconst {X : VX} {cc : ByteArray} {n : Nat} {own : String} {R : Room} {E : VE} {l : Launch} (C : VC X cc n own R E l) {a b : Nat} {ws : va_W} {lv : List (Nat × Value)} {pc : Nat} {st : List Value} {k : Int} {v : Int32} (hdg : decode cc pc = .ok (.iconst k, 1)) (hv : Int32.ofInt k = v) (kk : VV X a b ws lv (pc + 1) (.int v :: st)) : VV X a b ws lv pc st := by
  obtain ⟨p, l', e, R', s, m, args, below, meth, c, Q, A, nL, E'⟩ := X
  obtain ⟨hx, hb, hml, hown, hts, hK, hSF, hA, rfl, rfl, rfl, rfl⟩ := C
  intro H locs ls hP hD hS hl
  exact lv_iconst hx hb hdg hv (kk H locs ls hP hD hS hl)
theorem v_bipush {X : VX} {cc : ByteArray} {n : Nat} {own : String} {R : Room} {E : VE} {l : Launch} (C : VC X cc n own R E l) {a b : Nat} {ws : va_W} {lv : List (Nat × Value)} {pc : Nat} {st : List Value} {k : Int} {v : Int32} (hdg : decode cc pc = .ok (.bipush k, 2)) (hv : (Int8.ofInt k).toInt32 = v) (kk : VV X a b ws lv (pc + 2) (.int v :: st)) : VV X a b ws lv pc st := by
  obtain ⟨p, l', e, R', s, m, args, below, meth, c, Q, A, nL, E'⟩ := X
  obtain ⟨hx, hb, hml, hown, hts, hK, hSF, hA, rfl, rfl, rfl, rfl⟩ := C
  intro H locs ls hP hD hS hl
  exact lv_bipush hx hb hdg hv (kk H locs ls hP hD hS hl)
theorem v_sipush {X : VX} {cc : ByteArray} {n : Nat} {own : String} {R : Room} {E : VE} {l : Launch} (C : VC X cc n own R E l) {a b : Nat} {ws : va_W} {lv : List (Nat × Value)} {pc : Nat} {st : List Value} {k : Int} {v : Int32} (hdg : decode cc pc = .ok (.sipush k, 3)) (hv : (Int16.ofInt k).toInt32 = v) (kk : VV X a b ws lv (pc + 3) (.int v :: st)) : VV X a b ws lv pc st := by
  obtain ⟨p, l', e, R', s, m, args, below, meth, c, Q, A, nL, E'⟩ := X
  obtain ⟨hx, hb, hml, hown, hts, hK, hSF, hA, rfl, rfl, rfl, rfl⟩ := C
  intro H locs ls hP hD hS hl
  exact lv_sipush hx hb hdg hv (kk H locs ls hP hD hS hl)
theorem v_lconst {X : VX} {cc : ByteArray} {n : Nat} {own : String} {R : Room} {E : VE} {l : Launch} (C : VC X cc n own R E l) {a b : Nat} {ws : va_W} {lv : List (Nat × Value)} {pc : Nat} {st : List Value} {k : Fin 2} {v : Int64} (hdg : decode cc pc = .ok (.lconst k, 1)) (hv : Int64.ofNat k = v) (kk : VV X a b ws lv (pc + 1) (.long v :: st)) : VV X a b ws lv pc st := by
  obtain ⟨p, l', e, R', s, m, args, below, meth, c, Q, A, nL, E'⟩ := X
  obtain ⟨hx, hb, hml, hown, hts, hK, hSF, hA, rfl, rfl, rfl, rfl⟩ := C
  intro H locs ls hP hD hS hl
  exact lv_lconst hx hb hdg hv (kk H locs ls hP hD hS hl)
theorem v_iload_n {X : VX} {cc : ByteArray} {n : Nat} {own : String} {R : Room} {E : VE} {l : Launch} (C : VC X cc n own R E l) {a b : Nat} {ws : va_W} {lv : List (Nat × Value)} {pc : Nat} {st : List Value} {k : Fin 4} {x : Int32} (hdg : decode cc pc = .ok (.iload_n k, 1)) (j : Nat) (hj : lv[j]? = some ((k : Nat), .int x)) (kk : VV X a b ws lv (pc + 1) (.int x :: st)) : VV X a b ws lv pc st := by
  obtain ⟨p, l', e, R', s, m, args, below, meth, c, Q, A, nL, E'⟩ := X
  obtain ⟨hx, hb, hml, hown, hts, hK, hSF, hA, rfl, rfl, rfl, rfl⟩ := C
  intro H locs ls hP hD hS hl
  exact lv_iload_n hx hb hdg rfl (lv_at hl j hj) (kk H locs ls hP hD hS hl)
theorem v_iload {X : VX} {cc : ByteArray} {n : Nat} {own : String} {R : Room} {E : VE} {l : Launch} (C : VC X cc n own R E l) {a b : Nat} {ws : va_W} {lv : List (Nat × Value)} {pc : Nat} {st : List Value} {k : Nat} {x : Int32} (hdg : decode cc pc = .ok (.iload k, 2)) (j : Nat) (hj : lv[j]? = some (k, .int x)) (kk : VV X a b ws lv (pc + 2) (.int x :: st)) : VV X a b ws lv pc st := by
  obtain ⟨p, l', e, R', s, m, args, below, meth, c, Q, A, nL, E'⟩ := X
  obtain ⟨hx, hb, hml, hown, hts, hK, hSF, hA, rfl, rfl, rfl, rfl⟩ := C
  intro H locs ls hP hD hS hl
  exact lv_iload hx hb hdg (lv_at hl j hj) (kk H locs ls hP hD hS hl)
theorem v_lload_n {X : VX} {cc : ByteArray} {n : Nat} {own : String} {R : Room} {E : VE} {l : Launch} (C : VC X cc n own R E l) {a b : Nat} {ws : va_W} {lv : List (Nat × Value)} {pc : Nat} {st : List Value} {k : Fin 4} {x : Int64} (hdg : decode cc pc = .ok (.lload_n k, 1)) (j : Nat) (hj : lv[j]? = some ((k : Nat), .long x)) (kk : VV X a b ws lv (pc + 1) (.long x :: st)) : VV X a b ws lv pc st := by
  obtain ⟨p, l', e, R', s, m, args, below, meth, c, Q, A, nL, E'⟩ := X
  obtain ⟨hx, hb, hml, hown, hts, hK, hSF, hA, rfl, rfl, rfl, rfl⟩ := C
  intro H locs ls hP hD hS hl
  exact lv_lload_n hx hb hdg rfl (lv_at hl j hj) (kk H locs ls hP hD hS hl)
theorem v_lload {X : VX} {cc : ByteArray} {n : Nat} {own : String} {R : Room} {E : VE} {l : Launch} (C : VC X cc n own R E l) {a b : Nat} {ws : va_W} {lv : List (Nat × Value)} {pc : Nat} {st : List Value} {k : Nat} {x : Int64} (hdg : decode cc pc = .ok (.lload k, 2)) (j : Nat) (hj : lv[j]? = some (k, .long x)) (kk : VV X a b ws lv (pc + 2) (.long x :: st)) : VV X a b ws lv pc st := by
  obtain ⟨p, l', e, R', s, m, args, below, meth, c, Q, A, nL, E'⟩ := X
  obtain ⟨hx, hb, hml, hown, hts, hK, hSF, hA, rfl, rfl, rfl, rfl⟩ := C
  intro H locs ls hP hD hS hl
  exact lv_lload hx hb hdg (lv_at hl j hj) (kk H locs ls hP hD hS hl)
theorem v_aload_n {X : VX} {cc : ByteArray} {n : Nat} {own : String} {R : Room} {E : VE} {l : Launch} (C : VC X cc n own R E l) {a b : Nat} {ws : va_W} {lv : List (Nat × Value)} {pc : Nat} {st : List Value} {k : Fin 4} {x : Nat} (hdg : decode cc pc = .ok (.aload_n k, 1)) (j : Nat) (hj : lv[j]? = some ((k : Nat), .ref x)) (kk : VV X a b ws lv (pc + 1) (.ref x :: st)) : VV X a b ws lv pc st := by
  obtain ⟨p, l', e, R', s, m, args, below, meth, c, Q, A, nL, E'⟩ := X
  obtain ⟨hx, hb, hml, hown, hts, hK, hSF, hA, rfl, rfl, rfl, rfl⟩ := C
  intro H locs ls hP hD hS hl
  exact lv_aload_n hx hb hdg rfl (lv_at hl j hj) (kk H locs ls hP hD hS hl)
theorem v_aload {X : VX} {cc : ByteArray} {n : Nat} {own : String} {R : Room} {E : VE} {l : Launch} (C : VC X cc n own R E l) {a b : Nat} {ws : va_W} {lv : List (Nat × Value)} {pc : Nat} {st : List Value} {k : Nat} {x : Nat} (hdg : decode cc pc = .ok (.aload k, 2)) (j : Nat) (hj : lv[j]? = some (k, .ref x)) (kk : VV X a b ws lv (pc + 2) (.ref x :: st)) : VV X a b ws lv pc st := by
  obtain ⟨p, l', e, R', s, m, args, below, meth, c, Q, A, nL, E'⟩ := X
  obtain ⟨hx, hb, hml, hown, hts, hK, hSF, hA, rfl, rfl, rfl, rfl⟩ := C
  intro H locs ls hP hD hS hl
  exact lv_aload hx hb hdg (lv_at hl j hj) (kk H locs ls hP hD hS hl)
theorem v_istore_n {X : VX} {cc : ByteArray} {n : Nat} {own : String} {R : Room} {E : VE} {l : Launch} (C : VC X cc n own R E l) {a b : Nat} {ws : va_W} {lv : List (Nat × Value)} {pc : Nat} {st : List Value} {k : Fin 4} {x : Int32} {lv' : List (Nat × Value)} (hdg : decode cc pc = .ok (.istore_n k, 1)) (hn : (k : Nat) < n) (hl' : ((k : Nat), Value.int x) :: lv.filter (fun q => !(q.1 == (k : Nat)) && !(q.1 + 1 == (k : Nat) && q.2.category == 2)) = lv') (kk : VV X a b ws lv' (pc + 1) st) : VV X a b ws lv pc (.int x :: st) := by
  obtain ⟨p, l', e, R', s, m, args, below, meth, c, Q, A, nL, E'⟩ := X
  obtain ⟨hx, hb, hml, hown, hts, hK, hSF, hA, rfl, rfl, rfl, rfl⟩ := C
  intro H locs ls hP hD hS hl
  exact lv_istore_n hx hb hdg rfl hl hn hl' (fun ls hl => kk H locs ls hP hD hS hl)
theorem v_istore {X : VX} {cc : ByteArray} {n : Nat} {own : String} {R : Room} {E : VE} {l : Launch} (C : VC X cc n own R E l) {a b : Nat} {ws : va_W} {lv : List (Nat × Value)} {pc : Nat} {st : List Value} {k : Nat} {x : Int32} {lv' : List (Nat × Value)} (hdg : decode cc pc = .ok (.istore k, 2)) (hn : k < n) (hl' : (k, Value.int x) :: lv.filter (fun q => !(q.1 == k) && !(q.1 + 1 == k && q.2.category == 2)) = lv') (kk : VV X a b ws lv' (pc + 2) st) : VV X a b ws lv pc (.int x :: st) := by
  obtain ⟨p, l', e, R', s, m, args, below, meth, c, Q, A, nL, E'⟩ := X
  obtain ⟨hx, hb, hml, hown, hts, hK, hSF, hA, rfl, rfl, rfl, rfl⟩ := C
  intro H locs ls hP hD hS hl
  exact lv_istore hx hb hdg hl hn hl' (fun ls hl => kk H locs ls hP hD hS hl)
theorem v_lstore_n {X : VX} {cc : ByteArray} {n : Nat} {own : String} {R : Room} {E : VE} {l : Launch} (C : VC X cc n own R E l) {a b : Nat} {ws : va_W} {lv : List (Nat × Value)} {pc : Nat} {st : List Value} {k : Fin 4} {x : Int64} {lv' : List (Nat × Value)} (hdg : decode cc pc = .ok (.lstore_n k, 1)) (hn : (k : Nat) + 1 < n) (hl' : ((k : Nat), Value.long x) :: lv.filter (fun q => !(q.1 == (k : Nat)) && (!(q.1 == (k : Nat) + 1) && !(q.1 + 1 == (k : Nat) && q.2.category == 2))) = lv') (kk : VV X a b ws lv' (pc + 1) st) : VV X a b ws lv pc (.long x :: st) := by
  obtain ⟨p, l', e, R', s, m, args, below, meth, c, Q, A, nL, E'⟩ := X
  obtain ⟨hx, hb, hml, hown, hts, hK, hSF, hA, rfl, rfl, rfl, rfl⟩ := C
  intro H locs ls hP hD hS hl
  exact lv_lstore_n hx hb hdg rfl hl hn hl' (fun ls hl => kk H locs ls hP hD hS hl)
theorem v_lstore {X : VX} {cc : ByteArray} {n : Nat} {own : String} {R : Room} {E : VE} {l : Launch} (C : VC X cc n own R E l) {a b : Nat} {ws : va_W} {lv : List (Nat × Value)} {pc : Nat} {st : List Value} {k : Nat} {x : Int64} {lv' : List (Nat × Value)} (hdg : decode cc pc = .ok (.lstore k, 2)) (hn : k + 1 < n) (hl' : (k, Value.long x) :: lv.filter (fun q => !(q.1 == k) && (!(q.1 == k + 1) && !(q.1 + 1 == k && q.2.category == 2))) = lv') (kk : VV X a b ws lv' (pc + 2) st) : VV X a b ws lv pc (.long x :: st) := by
  obtain ⟨p, l', e, R', s, m, args, below, meth, c, Q, A, nL, E'⟩ := X
  obtain ⟨hx, hb, hml, hown, hts, hK, hSF, hA, rfl, rfl, rfl, rfl⟩ := C
  intro H locs ls hP hD hS hl
  exact lv_lstore hx hb hdg hl hn hl' (fun ls hl => kk H locs ls hP hD hS hl)
theorem v_astore_n {X : VX} {cc : ByteArray} {n : Nat} {own : String} {R : Room} {E : VE} {l : Launch} (C : VC X cc n own R E l) {a b : Nat} {ws : va_W} {lv : List (Nat × Value)} {pc : Nat} {st : List Value} {k : Fin 4} {x : Nat} {lv' : List (Nat × Value)} (hdg : decode cc pc = .ok (.astore_n k, 1)) (hn : (k : Nat) < n) (hl' : ((k : Nat), Value.ref x) :: lv.filter (fun q => !(q.1 == (k : Nat)) && !(q.1 + 1 == (k : Nat) && q.2.category == 2)) = lv') (kk : VV X a b ws lv' (pc + 1) st) : VV X a b ws lv pc (.ref x :: st) := by
  obtain ⟨p, l', e, R', s, m, args, below, meth, c, Q, A, nL, E'⟩ := X
  obtain ⟨hx, hb, hml, hown, hts, hK, hSF, hA, rfl, rfl, rfl, rfl⟩ := C
  intro H locs ls hP hD hS hl
  exact lv_astore_n hx hb hdg rfl hl hn hl' (fun ls hl => kk H locs ls hP hD hS hl)
theorem v_astore {X : VX} {cc : ByteArray} {n : Nat} {own : String} {R : Room} {E : VE} {l : Launch} (C : VC X cc n own R E l) {a b : Nat} {ws : va_W} {lv : List (Nat × Value)} {pc : Nat} {st : List Value} {k : Nat} {x : Nat} {lv' : List (Nat × Value)} (hdg : decode cc pc = .ok (.astore k, 2)) (hn : k < n) (hl' : (k, Value.ref x) :: lv.filter (fun q => !(q.1 == k) && !(q.1 + 1 == k && q.2.category == 2)) = lv') (kk : VV X a b ws lv' (pc + 2) st) : VV X a b ws lv pc (.ref x :: st) := by
  obtain ⟨p, l', e, R', s, m, args, below, meth, c, Q, A, nL, E'⟩ := X
  obtain ⟨hx, hb, hml, hown, hts, hK, hSF, hA, rfl, rfl, rfl, rfl⟩ := C
  intro H locs ls hP hD hS hl
  exact lv_astore hx hb hdg hl hn hl' (fun ls hl => kk H locs ls hP hD hS hl)
theorem v_iinc {X : VX} {cc : ByteArray} {n : Nat} {own : String} {R : Room} {E : VE} {l : Launch} (C : VC X cc n own R E l) {a b : Nat} {ws : va_W} {lv : List (Nat × Value)} {pc : Nat} {st : List Value} {k : Nat} {z : Int} {x : Int32} {lv' : List (Nat × Value)} (hdg : decode cc pc = .ok (.iinc k z, 3)) (j : Nat) (hj : lv[j]? = some (k, .int x)) (hn : k < n) (hl' : (k, Value.int (x + Int32.ofInt z)) :: lv.filter (fun q => !(q.1 == k) && !(q.1 + 1 == k && q.2.category == 2)) = lv') (kk : VV X a b ws lv' (pc + 3) st) : VV X a b ws lv pc st := by
  obtain ⟨p, l', e, R', s, m, args, below, meth, c, Q, A, nL, E'⟩ := X
  obtain ⟨hx, hb, hml, hown, hts, hK, hSF, hA, rfl, rfl, rfl, rfl⟩ := C
  intro H locs ls hP hD hS hl
  exact lv_iinc hx hb hdg hl hj rfl hn hl' (fun ls hl => kk H locs ls hP hD hS hl)
theorem v_iadd {X : VX} {cc : ByteArray} {n : Nat} {own : String} {R : Room} {E : VE} {l : Launch} (C : VC X cc n own R E l) {a b : Nat} {ws : va_W} {lv : List (Nat × Value)} {pc : Nat} {st : List Value} {x y : Int32} (hdg : decode cc pc = .ok (.iadd, 1)) (kk : VV X a b ws lv (pc + 1) (.int (x + y) :: st)) : VV X a b ws lv pc (.int y :: .int x :: st) := by
  obtain ⟨p, l', e, R', s, m, args, below, meth, c, Q, A, nL, E'⟩ := X
  obtain ⟨hx, hb, hml, hown, hts, hK, hSF, hA, rfl, rfl, rfl, rfl⟩ := C
  intro H locs ls hP hD hS hl
  exact lv_iadd hx hb hdg (kk H locs ls hP hD hS hl)
theorem v_isub {X : VX} {cc : ByteArray} {n : Nat} {own : String} {R : Room} {E : VE} {l : Launch} (C : VC X cc n own R E l) {a b : Nat} {ws : va_W} {lv : List (Nat × Value)} {pc : Nat} {st : List Value} {x y : Int32} (hdg : decode cc pc = .ok (.isub, 1)) (kk : VV X a b ws lv (pc + 1) (.int (x - y) :: st)) : VV X a b ws lv pc (.int y :: .int x :: st) := by
  obtain ⟨p, l', e, R', s, m, args, below, meth, c, Q, A, nL, E'⟩ := X
  obtain ⟨hx, hb, hml, hown, hts, hK, hSF, hA, rfl, rfl, rfl, rfl⟩ := C
  intro H locs ls hP hD hS hl
  exact lv_isub hx hb hdg (kk H locs ls hP hD hS hl)
theorem v_imul {X : VX} {cc : ByteArray} {n : Nat} {own : String} {R : Room} {E : VE} {l : Launch} (C : VC X cc n own R E l) {a b : Nat} {ws : va_W} {lv : List (Nat × Value)} {pc : Nat} {st : List Value} {x y : Int32} (hdg : decode cc pc = .ok (.imul, 1)) (kk : VV X a b ws lv (pc + 1) (.int (x * y) :: st)) : VV X a b ws lv pc (.int y :: .int x :: st) := by
  obtain ⟨p, l', e, R', s, m, args, below, meth, c, Q, A, nL, E'⟩ := X
  obtain ⟨hx, hb, hml, hown, hts, hK, hSF, hA, rfl, rfl, rfl, rfl⟩ := C
  intro H locs ls hP hD hS hl
  exact lv_imul hx hb hdg (kk H locs ls hP hD hS hl)
theorem v_iand {X : VX} {cc : ByteArray} {n : Nat} {own : String} {R : Room} {E : VE} {l : Launch} (C : VC X cc n own R E l) {a b : Nat} {ws : va_W} {lv : List (Nat × Value)} {pc : Nat} {st : List Value} {x y : Int32} (hdg : decode cc pc = .ok (.iand, 1)) (kk : VV X a b ws lv (pc + 1) (.int (x &&& y) :: st)) : VV X a b ws lv pc (.int y :: .int x :: st) := by
  obtain ⟨p, l', e, R', s, m, args, below, meth, c, Q, A, nL, E'⟩ := X
  obtain ⟨hx, hb, hml, hown, hts, hK, hSF, hA, rfl, rfl, rfl, rfl⟩ := C
  intro H locs ls hP hD hS hl
  exact lv_iand hx hb hdg (kk H locs ls hP hD hS hl)
theorem v_ior {X : VX} {cc : ByteArray} {n : Nat} {own : String} {R : Room} {E : VE} {l : Launch} (C : VC X cc n own R E l) {a b : Nat} {ws : va_W} {lv : List (Nat × Value)} {pc : Nat} {st : List Value} {x y : Int32} (hdg : decode cc pc = .ok (.ior, 1)) (kk : VV X a b ws lv (pc + 1) (.int (x ||| y) :: st)) : VV X a b ws lv pc (.int y :: .int x :: st) := by
  obtain ⟨p, l', e, R', s, m, args, below, meth, c, Q, A, nL, E'⟩ := X
  obtain ⟨hx, hb, hml, hown, hts, hK, hSF, hA, rfl, rfl, rfl, rfl⟩ := C
  intro H locs ls hP hD hS hl
  exact lv_ior hx hb hdg (kk H locs ls hP hD hS hl)
theorem v_ixor {X : VX} {cc : ByteArray} {n : Nat} {own : String} {R : Room} {E : VE} {l : Launch} (C : VC X cc n own R E l) {a b : Nat} {ws : va_W} {lv : List (Nat × Value)} {pc : Nat} {st : List Value} {x y : Int32} (hdg : decode cc pc = .ok (.ixor, 1)) (kk : VV X a b ws lv (pc + 1) (.int (x ^^^ y) :: st)) : VV X a b ws lv pc (.int y :: .int x :: st) := by
  obtain ⟨p, l', e, R', s, m, args, below, meth, c, Q, A, nL, E'⟩ := X
  obtain ⟨hx, hb, hml, hown, hts, hK, hSF, hA, rfl, rfl, rfl, rfl⟩ := C
  intro H locs ls hP hD hS hl
  exact lv_ixor hx hb hdg (kk H locs ls hP hD hS hl)
theorem v_ishl {X : VX} {cc : ByteArray} {n : Nat} {own : String} {R : Room} {E : VE} {l : Launch} (C : VC X cc n own R E l) {a b : Nat} {ws : va_W} {lv : List (Nat × Value)} {pc : Nat} {st : List Value} {x y : Int32} (hdg : decode cc pc = .ok (.ishl, 1)) (kk : VV X a b ws lv (pc + 1) (.int (x <<< (y &&& 31)) :: st)) : VV X a b ws lv pc (.int y :: .int x :: st) := by
  obtain ⟨p, l', e, R', s, m, args, below, meth, c, Q, A, nL, E'⟩ := X
  obtain ⟨hx, hb, hml, hown, hts, hK, hSF, hA, rfl, rfl, rfl, rfl⟩ := C
  intro H locs ls hP hD hS hl
  exact lv_ishl hx hb hdg (kk H locs ls hP hD hS hl)
theorem v_ishr {X : VX} {cc : ByteArray} {n : Nat} {own : String} {R : Room} {E : VE} {l : Launch} (C : VC X cc n own R E l) {a b : Nat} {ws : va_W} {lv : List (Nat × Value)} {pc : Nat} {st : List Value} {x y : Int32} (hdg : decode cc pc = .ok (.ishr, 1)) (kk : VV X a b ws lv (pc + 1) (.int (x >>> (y &&& 31)) :: st)) : VV X a b ws lv pc (.int y :: .int x :: st) := by
  obtain ⟨p, l', e, R', s, m, args, below, meth, c, Q, A, nL, E'⟩ := X
  obtain ⟨hx, hb, hml, hown, hts, hK, hSF, hA, rfl, rfl, rfl, rfl⟩ := C
  intro H locs ls hP hD hS hl
  exact lv_ishr hx hb hdg (kk H locs ls hP hD hS hl)
theorem v_idiv {X : VX} {cc : ByteArray} {n : Nat} {own : String} {R : Room} {E : VE} {l : Launch} (C : VC X cc n own R E l) {a b : Nat} {ws : va_W} {lv : List (Nat × Value)} {pc : Nat} {st : List Value} {x y : Int32} (hdg : decode cc pc = .ok (.idiv, 1)) (hne : ¬ y = 0) (kk : VV X a b ws lv (pc + 1) (.int (x / y) :: st)) : VV X a b ws lv pc (.int y :: .int x :: st) := by
  obtain ⟨p, l', e, R', s, m, args, below, meth, c, Q, A, nL, E'⟩ := X
  obtain ⟨hx, hb, hml, hown, hts, hK, hSF, hA, rfl, rfl, rfl, rfl⟩ := C
  intro H locs ls hP hD hS hl
  exact lv_idiv hx hb hdg hne (kk H locs ls hP hD hS hl)
theorem v_irem {X : VX} {cc : ByteArray} {n : Nat} {own : String} {R : Room} {E : VE} {l : Launch} (C : VC X cc n own R E l) {a b : Nat} {ws : va_W} {lv : List (Nat × Value)} {pc : Nat} {st : List Value} {x y : Int32} (hdg : decode cc pc = .ok (.irem, 1)) (hne : ¬ y = 0) (kk : VV X a b ws lv (pc + 1) (.int (x - x / y * y) :: st)) : VV X a b ws lv pc (.int y :: .int x :: st) := by
  obtain ⟨p, l', e, R', s, m, args, below, meth, c, Q, A, nL, E'⟩ := X
  obtain ⟨hx, hb, hml, hown, hts, hK, hSF, hA, rfl, rfl, rfl, rfl⟩ := C
  intro H locs ls hP hD hS hl
  exact lv_irem hx hb hdg hne (kk H locs ls hP hD hS hl)
theorem v_iushr {X : VX} {cc : ByteArray} {n : Nat} {own : String} {R : Room} {E : VE} {l : Launch} (C : VC X cc n own R E l) {a b : Nat} {ws : va_W} {lv : List (Nat × Value)} {pc : Nat} {st : List Value} {x y : Int32} (hdg : decode cc pc = .ok (.iushr, 1)) (kk : VV X a b ws lv (pc + 1) (.int ((x.toUInt32 >>> (y.toUInt32 &&& Int32.toUInt32 31)).toInt32) :: st)) : VV X a b ws lv pc (.int y :: .int x :: st) := by
  obtain ⟨p, l', e, R', s, m, args, below, meth, c, Q, A, nL, E'⟩ := X
  obtain ⟨hx, hb, hml, hown, hts, hK, hSF, hA, rfl, rfl, rfl, rfl⟩ := C
  intro H locs ls hP hD hS hl
  exact lv_iushr hx hb hdg rfl (kk H locs ls hP hD hS hl)
theorem v_ladd {X : VX} {cc : ByteArray} {n : Nat} {own : String} {R : Room} {E : VE} {l : Launch} (C : VC X cc n own R E l) {a b : Nat} {ws : va_W} {lv : List (Nat × Value)} {pc : Nat} {st : List Value} {x y v : Int64} (hdg : decode cc pc = .ok (.ladd, 1)) (hv : x + y = v) (kk : VV X a b ws lv (pc + 1) (.long v :: st)) : VV X a b ws lv pc (.long y :: .long x :: st) := by
  obtain ⟨p, l', e, R', s, m, args, below, meth, c, Q, A, nL, E'⟩ := X
  obtain ⟨hx, hb, hml, hown, hts, hK, hSF, hA, rfl, rfl, rfl, rfl⟩ := C
  intro H locs ls hP hD hS hl
  exact by subst hv; exact lv_ladd hx hb hdg (kk H locs ls hP hD hS hl)
theorem v_lsub {X : VX} {cc : ByteArray} {n : Nat} {own : String} {R : Room} {E : VE} {l : Launch} (C : VC X cc n own R E l) {a b : Nat} {ws : va_W} {lv : List (Nat × Value)} {pc : Nat} {st : List Value} {x y v : Int64} (hdg : decode cc pc = .ok (.lsub, 1)) (hv : x - y = v) (kk : VV X a b ws lv (pc + 1) (.long v :: st)) : VV X a b ws lv pc (.long y :: .long x :: st) := by
  obtain ⟨p, l', e, R', s, m, args, below, meth, c, Q, A, nL, E'⟩ := X
  obtain ⟨hx, hb, hml, hown, hts, hK, hSF, hA, rfl, rfl, rfl, rfl⟩ := C
  intro H locs ls hP hD hS hl
  exact by subst hv; exact lv_lsub hx hb hdg (kk H locs ls hP hD hS hl)
theorem v_lmul {X : VX} {cc : ByteArray} {n : Nat} {own : String} {R : Room} {E : VE} {l : Launch} (C : VC X cc n own R E l) {a b : Nat} {ws : va_W} {lv : List (Nat × Value)} {pc : Nat} {st : List Value} {x y v : Int64} (hdg : decode cc pc = .ok (.lmul, 1)) (hv : x * y = v) (kk : VV X a b ws lv (pc + 1) (.long v :: st)) : VV X a b ws lv pc (.long y :: .long x :: st) := by
  obtain ⟨p, l', e, R', s, m, args, below, meth, c, Q, A, nL, E'⟩ := X
  obtain ⟨hx, hb, hml, hown, hts, hK, hSF, hA, rfl, rfl, rfl, rfl⟩ := C
  intro H locs ls hP hD hS hl
  exact by subst hv; exact lv_lmul hx hb hdg (kk H locs ls hP hD hS hl)
theorem v_land {X : VX} {cc : ByteArray} {n : Nat} {own : String} {R : Room} {E : VE} {l : Launch} (C : VC X cc n own R E l) {a b : Nat} {ws : va_W} {lv : List (Nat × Value)} {pc : Nat} {st : List Value} {x y v : Int64} (hdg : decode cc pc = .ok (.land, 1)) (hv : x &&& y = v) (kk : VV X a b ws lv (pc + 1) (.long v :: st)) : VV X a b ws lv pc (.long y :: .long x :: st) := by
  obtain ⟨p, l', e, R', s, m, args, below, meth, c, Q, A, nL, E'⟩ := X
  obtain ⟨hx, hb, hml, hown, hts, hK, hSF, hA, rfl, rfl, rfl, rfl⟩ := C
  intro H locs ls hP hD hS hl
  exact by subst hv; exact lv_land hx hb hdg (kk H locs ls hP hD hS hl)
theorem v_lor {X : VX} {cc : ByteArray} {n : Nat} {own : String} {R : Room} {E : VE} {l : Launch} (C : VC X cc n own R E l) {a b : Nat} {ws : va_W} {lv : List (Nat × Value)} {pc : Nat} {st : List Value} {x y v : Int64} (hdg : decode cc pc = .ok (.lor, 1)) (hv : x ||| y = v) (kk : VV X a b ws lv (pc + 1) (.long v :: st)) : VV X a b ws lv pc (.long y :: .long x :: st) := by
  obtain ⟨p, l', e, R', s, m, args, below, meth, c, Q, A, nL, E'⟩ := X
  obtain ⟨hx, hb, hml, hown, hts, hK, hSF, hA, rfl, rfl, rfl, rfl⟩ := C
  intro H locs ls hP hD hS hl
  exact by subst hv; exact lv_lor hx hb hdg (kk H locs ls hP hD hS hl)
theorem v_lshl {X : VX} {cc : ByteArray} {n : Nat} {own : String} {R : Room} {E : VE} {l : Launch} (C : VC X cc n own R E l) {a b : Nat} {ws : va_W} {lv : List (Nat × Value)} {pc : Nat} {st : List Value} {x : Int64} {y : Int32} (hdg : decode cc pc = .ok (.lshl, 1)) (kk : VV X a b ws lv (pc + 1) (.long (x <<< (y.toInt64 &&& 63)) :: st)) : VV X a b ws lv pc (.int y :: .long x :: st) := by
  obtain ⟨p, l', e, R', s, m, args, below, meth, c, Q, A, nL, E'⟩ := X
  obtain ⟨hx, hb, hml, hown, hts, hK, hSF, hA, rfl, rfl, rfl, rfl⟩ := C
  intro H locs ls hP hD hS hl
  exact lv_lshl hx hb hdg rfl (kk H locs ls hP hD hS hl)
theorem v_lshr {X : VX} {cc : ByteArray} {n : Nat} {own : String} {R : Room} {E : VE} {l : Launch} (C : VC X cc n own R E l) {a b : Nat} {ws : va_W} {lv : List (Nat × Value)} {pc : Nat} {st : List Value} {x : Int64} {y : Int32} (hdg : decode cc pc = .ok (.lshr, 1)) (kk : VV X a b ws lv (pc + 1) (.long (x >>> (y.toInt64 &&& 63)) :: st)) : VV X a b ws lv pc (.int y :: .long x :: st) := by
  obtain ⟨p, l', e, R', s, m, args, below, meth, c, Q, A, nL, E'⟩ := X
  obtain ⟨hx, hb, hml, hown, hts, hK, hSF, hA, rfl, rfl, rfl, rfl⟩ := C
  intro H locs ls hP hD hS hl
  exact lv_lshr hx hb hdg rfl (kk H locs ls hP hD hS hl)
theorem v_lcmp {X : VX} {cc : ByteArray} {n : Nat} {own : String} {R : Room} {E : VE} {l : Launch} (C : VC X cc n own R E l) {a b : Nat} {ws : va_W} {lv : List (Nat × Value)} {pc : Nat} {st : List Value} {x y : Int64} (hdg : decode cc pc = .ok (.lcmp, 1)) (kk : VV X a b ws lv (pc + 1) (.int (lg_cmp x y) :: st)) : VV X a b ws lv pc (.long y :: .long x :: st) := by
  obtain ⟨p, l', e, R', s, m, args, below, meth, c, Q, A, nL, E'⟩ := X
  obtain ⟨hx, hb, hml, hown, hts, hK, hSF, hA, rfl, rfl, rfl, rfl⟩ := C
  intro H locs ls hP hD hS hl
  exact W.lcmp hx hb hdg (kk H locs ls hP hD hS hl)
theorem v_i2l {X : VX} {cc : ByteArray} {n : Nat} {own : String} {R : Room} {E : VE} {l : Launch} (C : VC X cc n own R E l) {a b : Nat} {ws : va_W} {lv : List (Nat × Value)} {pc : Nat} {st : List Value} {x : Int32} (hdg : decode cc pc = .ok (.i2l, 1)) (kk : VV X a b ws lv (pc + 1) (.long x.toInt64 :: st)) : VV X a b ws lv pc (.int x :: st) := by
  obtain ⟨p, l', e, R', s, m, args, below, meth, c, Q, A, nL, E'⟩ := X
  obtain ⟨hx, hb, hml, hown, hts, hK, hSF, hA, rfl, rfl, rfl, rfl⟩ := C
  intro H locs ls hP hD hS hl
  exact lv_i2l hx hb hdg rfl (kk H locs ls hP hD hS hl)
theorem v_l2i {X : VX} {cc : ByteArray} {n : Nat} {own : String} {R : Room} {E : VE} {l : Launch} (C : VC X cc n own R E l) {a b : Nat} {ws : va_W} {lv : List (Nat × Value)} {pc : Nat} {st : List Value} {x : Int64} (hdg : decode cc pc = .ok (.l2i, 1)) (kk : VV X a b ws lv (pc + 1) (.int x.toInt32 :: st)) : VV X a b ws lv pc (.long x :: st) := by
  obtain ⟨p, l', e, R', s, m, args, below, meth, c, Q, A, nL, E'⟩ := X
  obtain ⟨hx, hb, hml, hown, hts, hK, hSF, hA, rfl, rfl, rfl, rfl⟩ := C
  intro H locs ls hP hD hS hl
  exact lv_l2i hx hb hdg rfl (kk H locs ls hP hD hS hl)
theorem v_i2b {X : VX} {cc : ByteArray} {n : Nat} {own : String} {R : Room} {E : VE} {l : Launch} (C : VC X cc n own R E l) {a b : Nat} {ws : va_W} {lv : List (Nat × Value)} {pc : Nat} {st : List Value} {x : Int32} (hdg : decode cc pc = .ok (.i2b, 1)) (kk : VV X a b ws lv (pc + 1) (.int x.toInt8.toInt32 :: st)) : VV X a b ws lv pc (.int x :: st) := by
  obtain ⟨p, l', e, R', s, m, args, below, meth, c, Q, A, nL, E'⟩ := X
  obtain ⟨hx, hb, hml, hown, hts, hK, hSF, hA, rfl, rfl, rfl, rfl⟩ := C
  intro H locs ls hP hD hS hl
  exact lv_i2b hx hb hdg rfl (kk H locs ls hP hD hS hl)
theorem v_i2s {X : VX} {cc : ByteArray} {n : Nat} {own : String} {R : Room} {E : VE} {l : Launch} (C : VC X cc n own R E l) {a b : Nat} {ws : va_W} {lv : List (Nat × Value)} {pc : Nat} {st : List Value} {x : Int32} (hdg : decode cc pc = .ok (.i2s, 1)) (kk : VV X a b ws lv (pc + 1) (.int x.toInt16.toInt32 :: st)) : VV X a b ws lv pc (.int x :: st) := by
  obtain ⟨p, l', e, R', s, m, args, below, meth, c, Q, A, nL, E'⟩ := X
  obtain ⟨hx, hb, hml, hown, hts, hK, hSF, hA, rfl, rfl, rfl, rfl⟩ := C
  intro H locs ls hP hD hS hl
  exact lv_i2s hx hb hdg rfl (kk H locs ls hP hD hS hl)
theorem v_i2c {X : VX} {cc : ByteArray} {n : Nat} {own : String} {R : Room} {E : VE} {l : Launch} (C : VC X cc n own R E l) {a b : Nat} {ws : va_W} {lv : List (Nat × Value)} {pc : Nat} {st : List Value} {x : Int32} (hdg : decode cc pc = .ok (.i2c, 1)) (kk : VV X a b ws lv (pc + 1) (.int (x.toUInt32 % 65536).toInt32 :: st)) : VV X a b ws lv pc (.int x :: st) := by
  obtain ⟨p, l', e, R', s, m, args, below, meth, c, Q, A, nL, E'⟩ := X
  obtain ⟨hx, hb, hml, hown, hts, hK, hSF, hA, rfl, rfl, rfl, rfl⟩ := C
  intro H locs ls hP hD hS hl
  exact lv_i2c hx hb hdg rfl (kk H locs ls hP hD hS hl)
theorem v_dup {X : VX} {cc : ByteArray} {n : Nat} {own : String} {R : Room} {E : VE} {l : Launch} (C : VC X cc n own R E l) {a b : Nat} {ws : va_W} {lv : List (Nat × Value)} {pc : Nat} {st : List Value} {v : Value} (hdg : decode cc pc = .ok (.dup, 1)) (hc : v.category = 1) (kk : VV X a b ws lv (pc + 1) (v :: v :: st)) : VV X a b ws lv pc (v :: st) := by
  obtain ⟨p, l', e, R', s, m, args, below, meth, c, Q, A, nL, E'⟩ := X
  obtain ⟨hx, hb, hml, hown, hts, hK, hSF, hA, rfl, rfl, rfl, rfl⟩ := C
  intro H locs ls hP hD hS hl
  exact lv_dup hx hb hdg hc (kk H locs ls hP hD hS hl)
theorem v_dup2 {X : VX} {cc : ByteArray} {n : Nat} {own : String} {R : Room} {E : VE} {l : Launch} (C : VC X cc n own R E l) {a b : Nat} {ws : va_W} {lv : List (Nat × Value)} {pc : Nat} {st : List Value} {v w : Value} (hdg : decode cc pc = .ok (.dup2, 1)) (hc : v.category = 1) (hc2 : w.category = 1) (kk : VV X a b ws lv (pc + 1) (v :: w :: v :: w :: st)) : VV X a b ws lv pc (v :: w :: st) := by
  obtain ⟨p, l', e, R', s, m, args, below, meth, c, Q, A, nL, E'⟩ := X
  obtain ⟨hx, hb, hml, hown, hts, hK, hSF, hA, rfl, rfl, rfl, rfl⟩ := C
  intro H locs ls hP hD hS hl
  exact lv_dup2_11 hx hb hdg hc hc2 (kk H locs ls hP hD hS hl)
theorem v_pop {X : VX} {cc : ByteArray} {n : Nat} {own : String} {R : Room} {E : VE} {l : Launch} (C : VC X cc n own R E l) {a b : Nat} {ws : va_W} {lv : List (Nat × Value)} {pc : Nat} {st : List Value} {v : Value} (hdg : decode cc pc = .ok (.pop, 1)) (hc : v.category = 1) (kk : VV X a b ws lv (pc + 1) st) : VV X a b ws lv pc (v :: st) := by
  obtain ⟨p, l', e, R', s, m, args, below, meth, c, Q, A, nL, E'⟩ := X
  obtain ⟨hx, hb, hml, hown, hts, hK, hSF, hA, rfl, rfl, rfl, rfl⟩ := C
  intro H locs ls hP hD hS hl
  exact lv_pop hx hb hdg hc (kk H locs ls hP hD hS hl)
theorem v_goto {X : VX} {cc : ByteArray} {n : Nat} {own : String} {R : Room} {E : VE} {l : Launch} (C : VC X cc n own R E l) {a b : Nat} {ws : va_W} {lv : List (Nat × Value)} {pc : Nat} {st : List Value} {off : Int} {tgt : Nat} (hdg : decode cc pc = .ok (.goto off, 3)) (ht : (pc : Int) + off = (tgt : Int)) (kk : VV X a b ws lv tgt st) : VV X a b ws lv pc st := by
  obtain ⟨p, l', e, R', s, m, args, below, meth, c, Q, A, nL, E'⟩ := X
  obtain ⟨hx, hb, hml, hown, hts, hK, hSF, hA, rfl, rfl, rfl, rfl⟩ := C
  intro H locs ls hP hD hS hl
  exact lv_goto hx hb hdg ht (kk H locs ls hP hD hS hl)
theorem v_icmp_eq {X : VX} {cc : ByteArray} {n : Nat} {own : String} {R : Room} {E : VE} {l : Launch} (C : VC X cc n own R E l) {a b : Nat} {ws : va_W} {lv : List (Nat × Value)} {pc : Nat} {st : List Value} {x y : Int32} {off : Int} {tgt : Nat} (hdg : decode cc pc = .ok (.if_icmp .eq off, 3)) (ht : (pc : Int) + off = (tgt : Int)) (kt : x = y → VV X a b ws lv tgt st) (kf : ¬ x = y → VV X a b ws lv (pc + 3) st) : VV X a b ws lv pc (.int y :: .int x :: st) := by
  obtain ⟨p, l', e, R', s, m, args, below, meth, c, Q, A, nL, E'⟩ := X
  obtain ⟨hx, hb, hml, hown, hts, hK, hSF, hA, rfl, rfl, rfl, rfl⟩ := C
  intro H locs ls hP hD hS hl
  exact lv_icmp_eq hx hb hdg ht (fun h => kt h H locs ls hP hD hS hl) (fun h => kf h H locs ls hP hD hS hl)
theorem v_if_eq {X : VX} {cc : ByteArray} {n : Nat} {own : String} {R : Room} {E : VE} {l : Launch} (C : VC X cc n own R E l) {a b : Nat} {ws : va_W} {lv : List (Nat × Value)} {pc : Nat} {st : List Value} {x : Int32} {off : Int} {tgt : Nat} (hdg : decode cc pc = .ok (.ifCond .eq off, 3)) (ht : (pc : Int) + off = (tgt : Int)) (kt : x = 0 → VV X a b ws lv tgt st) (kf : ¬ x = 0 → VV X a b ws lv (pc + 3) st) : VV X a b ws lv pc (.int x :: st) := by
  obtain ⟨p, l', e, R', s, m, args, below, meth, c, Q, A, nL, E'⟩ := X
  obtain ⟨hx, hb, hml, hown, hts, hK, hSF, hA, rfl, rfl, rfl, rfl⟩ := C
  intro H locs ls hP hD hS hl
  exact lv_if_eq hx hb hdg ht (fun h => kt h H locs ls hP hD hS hl) (fun h => kf h H locs ls hP hD hS hl)
theorem v_icmp_ne {X : VX} {cc : ByteArray} {n : Nat} {own : String} {R : Room} {E : VE} {l : Launch} (C : VC X cc n own R E l) {a b : Nat} {ws : va_W} {lv : List (Nat × Value)} {pc : Nat} {st : List Value} {x y : Int32} {off : Int} {tgt : Nat} (hdg : decode cc pc = .ok (.if_icmp .ne off, 3)) (ht : (pc : Int) + off = (tgt : Int)) (kt : ¬ x = y → VV X a b ws lv tgt st) (kf : x = y → VV X a b ws lv (pc + 3) st) : VV X a b ws lv pc (.int y :: .int x :: st) := by
  obtain ⟨p, l', e, R', s, m, args, below, meth, c, Q, A, nL, E'⟩ := X
  obtain ⟨hx, hb, hml, hown, hts, hK, hSF, hA, rfl, rfl, rfl, rfl⟩ := C
  intro H locs ls hP hD hS hl
  exact lv_icmp_ne hx hb hdg ht (fun h => kt h H locs ls hP hD hS hl) (fun h => kf h H locs ls hP hD hS hl)
theorem v_if_ne {X : VX} {cc : ByteArray} {n : Nat} {own : String} {R : Room} {E : VE} {l : Launch} (C : VC X cc n own R E l) {a b : Nat} {ws : va_W} {lv : List (Nat × Value)} {pc : Nat} {st : List Value} {x : Int32} {off : Int} {tgt : Nat} (hdg : decode cc pc = .ok (.ifCond .ne off, 3)) (ht : (pc : Int) + off = (tgt : Int)) (kt : ¬ x = 0 → VV X a b ws lv tgt st) (kf : x = 0 → VV X a b ws lv (pc + 3) st) : VV X a b ws lv pc (.int x :: st) := by
  obtain ⟨p, l', e, R', s, m, args, below, meth, c, Q, A, nL, E'⟩ := X
  obtain ⟨hx, hb, hml, hown, hts, hK, hSF, hA, rfl, rfl, rfl, rfl⟩ := C
  intro H locs ls hP hD hS hl
  exact lv_if_ne hx hb hdg ht (fun h => kt h H locs ls hP hD hS hl) (fun h => kf h H locs ls hP hD hS hl)
theorem v_icmp_lt {X : VX} {cc : ByteArray} {n : Nat} {own : String} {R : Room} {E : VE} {l : Launch} (C : VC X cc n own R E l) {a b : Nat} {ws : va_W} {lv : List (Nat × Value)} {pc : Nat} {st : List Value} {x y : Int32} {off : Int} {tgt : Nat} (hdg : decode cc pc = .ok (.if_icmp .lt off, 3)) (ht : (pc : Int) + off = (tgt : Int)) (kt : x < y → VV X a b ws lv tgt st) (kf : ¬ x < y → VV X a b ws lv (pc + 3) st) : VV X a b ws lv pc (.int y :: .int x :: st) := by
  obtain ⟨p, l', e, R', s, m, args, below, meth, c, Q, A, nL, E'⟩ := X
  obtain ⟨hx, hb, hml, hown, hts, hK, hSF, hA, rfl, rfl, rfl, rfl⟩ := C
  intro H locs ls hP hD hS hl
  exact lv_icmp_lt hx hb hdg ht (fun h => kt h H locs ls hP hD hS hl) (fun h => kf h H locs ls hP hD hS hl)
theorem v_if_lt {X : VX} {cc : ByteArray} {n : Nat} {own : String} {R : Room} {E : VE} {l : Launch} (C : VC X cc n own R E l) {a b : Nat} {ws : va_W} {lv : List (Nat × Value)} {pc : Nat} {st : List Value} {x : Int32} {off : Int} {tgt : Nat} (hdg : decode cc pc = .ok (.ifCond .lt off, 3)) (ht : (pc : Int) + off = (tgt : Int)) (kt : x < 0 → VV X a b ws lv tgt st) (kf : ¬ x < 0 → VV X a b ws lv (pc + 3) st) : VV X a b ws lv pc (.int x :: st) := by
  obtain ⟨p, l', e, R', s, m, args, below, meth, c, Q, A, nL, E'⟩ := X
  obtain ⟨hx, hb, hml, hown, hts, hK, hSF, hA, rfl, rfl, rfl, rfl⟩ := C
  intro H locs ls hP hD hS hl
  exact lv_if_lt hx hb hdg ht (fun h => kt h H locs ls hP hD hS hl) (fun h => kf h H locs ls hP hD hS hl)
theorem v_icmp_ge {X : VX} {cc : ByteArray} {n : Nat} {own : String} {R : Room} {E : VE} {l : Launch} (C : VC X cc n own R E l) {a b : Nat} {ws : va_W} {lv : List (Nat × Value)} {pc : Nat} {st : List Value} {x y : Int32} {off : Int} {tgt : Nat} (hdg : decode cc pc = .ok (.if_icmp .ge off, 3)) (ht : (pc : Int) + off = (tgt : Int)) (kt : y ≤ x → VV X a b ws lv tgt st) (kf : ¬ y ≤ x → VV X a b ws lv (pc + 3) st) : VV X a b ws lv pc (.int y :: .int x :: st) := by
  obtain ⟨p, l', e, R', s, m, args, below, meth, c, Q, A, nL, E'⟩ := X
  obtain ⟨hx, hb, hml, hown, hts, hK, hSF, hA, rfl, rfl, rfl, rfl⟩ := C
  intro H locs ls hP hD hS hl
  exact lv_icmp_ge hx hb hdg ht (fun h => kt h H locs ls hP hD hS hl) (fun h => kf h H locs ls hP hD hS hl)
theorem v_if_ge {X : VX} {cc : ByteArray} {n : Nat} {own : String} {R : Room} {E : VE} {l : Launch} (C : VC X cc n own R E l) {a b : Nat} {ws : va_W} {lv : List (Nat × Value)} {pc : Nat} {st : List Value} {x : Int32} {off : Int} {tgt : Nat} (hdg : decode cc pc = .ok (.ifCond .ge off, 3)) (ht : (pc : Int) + off = (tgt : Int)) (kt : 0 ≤ x → VV X a b ws lv tgt st) (kf : ¬ 0 ≤ x → VV X a b ws lv (pc + 3) st) : VV X a b ws lv pc (.int x :: st) := by
  obtain ⟨p, l', e, R', s, m, args, below, meth, c, Q, A, nL, E'⟩ := X
  obtain ⟨hx, hb, hml, hown, hts, hK, hSF, hA, rfl, rfl, rfl, rfl⟩ := C
  intro H locs ls hP hD hS hl
  exact lv_if_ge hx hb hdg ht (fun h => kt h H locs ls hP hD hS hl) (fun h => kf h H locs ls hP hD hS hl)
theorem v_icmp_gt {X : VX} {cc : ByteArray} {n : Nat} {own : String} {R : Room} {E : VE} {l : Launch} (C : VC X cc n own R E l) {a b : Nat} {ws : va_W} {lv : List (Nat × Value)} {pc : Nat} {st : List Value} {x y : Int32} {off : Int} {tgt : Nat} (hdg : decode cc pc = .ok (.if_icmp .gt off, 3)) (ht : (pc : Int) + off = (tgt : Int)) (kt : y < x → VV X a b ws lv tgt st) (kf : ¬ y < x → VV X a b ws lv (pc + 3) st) : VV X a b ws lv pc (.int y :: .int x :: st) := by
  obtain ⟨p, l', e, R', s, m, args, below, meth, c, Q, A, nL, E'⟩ := X
  obtain ⟨hx, hb, hml, hown, hts, hK, hSF, hA, rfl, rfl, rfl, rfl⟩ := C
  intro H locs ls hP hD hS hl
  exact lv_icmp_gt hx hb hdg ht (fun h => kt h H locs ls hP hD hS hl) (fun h => kf h H locs ls hP hD hS hl)
theorem v_if_gt {X : VX} {cc : ByteArray} {n : Nat} {own : String} {R : Room} {E : VE} {l : Launch} (C : VC X cc n own R E l) {a b : Nat} {ws : va_W} {lv : List (Nat × Value)} {pc : Nat} {st : List Value} {x : Int32} {off : Int} {tgt : Nat} (hdg : decode cc pc = .ok (.ifCond .gt off, 3)) (ht : (pc : Int) + off = (tgt : Int)) (kt : 0 < x → VV X a b ws lv tgt st) (kf : ¬ 0 < x → VV X a b ws lv (pc + 3) st) : VV X a b ws lv pc (.int x :: st) := by
  obtain ⟨p, l', e, R', s, m, args, below, meth, c, Q, A, nL, E'⟩ := X
  obtain ⟨hx, hb, hml, hown, hts, hK, hSF, hA, rfl, rfl, rfl, rfl⟩ := C
  intro H locs ls hP hD hS hl
  exact lv_if_gt hx hb hdg ht (fun h => kt h H locs ls hP hD hS hl) (fun h => kf h H locs ls hP hD hS hl)
theorem v_icmp_le {X : VX} {cc : ByteArray} {n : Nat} {own : String} {R : Room} {E : VE} {l : Launch} (C : VC X cc n own R E l) {a b : Nat} {ws : va_W} {lv : List (Nat × Value)} {pc : Nat} {st : List Value} {x y : Int32} {off : Int} {tgt : Nat} (hdg : decode cc pc = .ok (.if_icmp .le off, 3)) (ht : (pc : Int) + off = (tgt : Int)) (kt : x ≤ y → VV X a b ws lv tgt st) (kf : ¬ x ≤ y → VV X a b ws lv (pc + 3) st) : VV X a b ws lv pc (.int y :: .int x :: st) := by
  obtain ⟨p, l', e, R', s, m, args, below, meth, c, Q, A, nL, E'⟩ := X
  obtain ⟨hx, hb, hml, hown, hts, hK, hSF, hA, rfl, rfl, rfl, rfl⟩ := C
  intro H locs ls hP hD hS hl
  exact lv_icmp_le hx hb hdg ht (fun h => kt h H locs ls hP hD hS hl) (fun h => kf h H locs ls hP hD hS hl)
theorem v_if_le {X : VX} {cc : ByteArray} {n : Nat} {own : String} {R : Room} {E : VE} {l : Launch} (C : VC X cc n own R E l) {a b : Nat} {ws : va_W} {lv : List (Nat × Value)} {pc : Nat} {st : List Value} {x : Int32} {off : Int} {tgt : Nat} (hdg : decode cc pc = .ok (.ifCond .le off, 3)) (ht : (pc : Int) + off = (tgt : Int)) (kt : x ≤ 0 → VV X a b ws lv tgt st) (kf : ¬ x ≤ 0 → VV X a b ws lv (pc + 3) st) : VV X a b ws lv pc (.int x :: st) := by
  obtain ⟨p, l', e, R', s, m, args, below, meth, c, Q, A, nL, E'⟩ := X
  obtain ⟨hx, hb, hml, hown, hts, hK, hSF, hA, rfl, rfl, rfl, rfl⟩ := C
  intro H locs ls hP hD hS hl
  exact lv_if_le hx hb hdg ht (fun h => kt h H locs ls hP hD hS hl) (fun h => kf h H locs ls hP hD hS hl)
theorem v_ldc {X : VX} {cc : ByteArray} {n : Nat} {own : String} {R : Room} {E : VE} {l : Launch} (C : VC X cc n own R E l) {a b : Nat} {ws : va_W} {lv : List (Nat × Value)} {pc : Nat} {st : List Value} {k : Nat} {v : Int32} (hm : Cond.constant own k v ∈ lwG) (hdg : decode cc pc = .ok (.ldc k, 2)) (kk : VV X a b ws lv (pc + 2) (.int v :: st)) : VV X a b ws lv pc st := by
  obtain ⟨p, l', e, R', s, m, args, below, meth, c, Q, A, nL, E'⟩ := X
  obtain ⟨hx, hb, hml, hown, hts, hK, hSF, hA, rfl, rfl, rfl, rfl⟩ := C
  intro H locs ls hP hD hS hl
  exact lv_ldc hx hb hown (hts _ hm) hdg (kk H locs ls hP hD hS hl)
theorem v_ldcw {X : VX} {cc : ByteArray} {n : Nat} {own : String} {R : Room} {E : VE} {l : Launch} (C : VC X cc n own R E l) {a b : Nat} {ws : va_W} {lv : List (Nat × Value)} {pc : Nat} {st : List Value} {k : Nat} {v : Int32} (hm : Cond.constant own k v ∈ lwG) (hdg : decode cc pc = .ok (.ldc_w k, 3)) (kk : VV X a b ws lv (pc + 3) (.int v :: st)) : VV X a b ws lv pc st := by
  obtain ⟨p, l', e, R', s, m, args, below, meth, c, Q, A, nL, E'⟩ := X
  obtain ⟨hx, hb, hml, hown, hts, hK, hSF, hA, rfl, rfl, rfl, rfl⟩ := C
  intro H locs ls hP hD hS hl
  exact lv_ldcw hx hb hown (hts _ hm) hdg (kk H locs ls hP hD hS hl)
theorem v_ldc2 {X : VX} {cc : ByteArray} {n : Nat} {own : String} {R : Room} {E : VE} {l : Launch} (C : VC X cc n own R E l) {a b : Nat} {ws : va_W} {lv : List (Nat × Value)} {pc : Nat} {st : List Value} {k : Nat} {v : Int64} (hm : Cond.constantLong own k v ∈ lwG) (hdg : decode cc pc = .ok (.ldc2_w k, 3)) (kk : VV X a b ws lv (pc + 3) (.long v :: st)) : VV X a b ws lv pc st := by
  obtain ⟨p, l', e, R', s, m, args, below, meth, c, Q, A, nL, E'⟩ := X
  obtain ⟨hx, hb, hml, hown, hts, hK, hSF, hA, rfl, rfl, rfl, rfl⟩ := C
  intro H locs ls hP hD hS hl
  exact lv_ldc2 hx hb hown (hts _ hm) hdg (kk H locs ls hP hD hS hl)
theorem mNative : Cond.native arraycopyName ∈ lwG := lwG_of 706 (by decide +kernel) (by decide +kernel)
theorem mStatic : Cond.static arraycopyName ∈ lwG := lwG_of 705 (by decide +kernel) (by decide +kernel)
theorem mSystem : Cond.initialized "java/lang/System" ∈ lwG := lwG_of 81 (by decide +kernel) (by decide +kernel)
theorem mArrI : Cond.arrayClass .int ∈ lwG := lwG_of 146 (by decide +kernel) (by decide +kernel)
theorem mArrB : Cond.arrayClass .byte ∈ lwG := lwG_of 211 (by decide +kernel) (by decide +kernel)
theorem mArrZ : Cond.arrayClass .boolean ∈ lwG := lwG_of 145 (by decide +kernel) (by decide +kernel)
theorem mArrJ : Cond.arrayClass .long ∈ lwG := lwG_of 508 (by decide +kernel) (by decide +kernel)
theorem mMath : Cond.initialized "java/lang/Math" ∈ lwG := lwG_of 80 (by decide +kernel) (by decide +kernel)
theorem mSmin : Cond.static Lib.Math.min.name ∈ lwG := lwG_of 670 (by decide +kernel) (by decide +kernel)
theorem mCmin : Cond.code Lib.Math.min.name Lib.Math.min.code 2 (some .int) ∈ lwG := lwG_of 671 (by decide +kernel) (by decide +kernel)
theorem mSmax : Cond.static Lib.Math.max.name ∈ lwG := lwG_of 635 (by decide +kernel) (by decide +kernel)
theorem mCmax : Cond.code Lib.Math.max.name Lib.Math.max.code 2 (some .int) ∈ lwG := lwG_of 636 (by decide +kernel) (by decide +kernel)
theorem v_get {X : VX} {cc : ByteArray} {n : Nat} {own : String} {R : Room} {E : VE} {l : Launch} (C : VC X cc n own R E l) {a b : Nat} {ws : va_W} {lv : List (Nat × Value)} {pc : Nat} {st : List Value} {C0 : String} {T : u_T} {N ci k0 : Nat} {ad : Nat} {fs : List Value} {v : Value} (hin : ∀ w ∈ u_ws C0 T N, w ∈ lwG) (q0 k : Nat) (he : ws[q0]? = some (ad, .inr (ci, fs))) (hc : vwCl[ci]? = some (C0, T, N)) (hk : k < N) (hlk : Cond.fieldLink own k0 (T k).1 (T k).2.1 (T k).2.2.1 ∈ lwG) (hv : fs[k]? = some v) (hdg : decode cc pc = .ok (.getfield k0, 3)) (kk : VV X a b ws lv (pc + 3) (v :: st)) : VV X a b ws lv pc (.ref ad :: st) := by
  obtain ⟨p, l', e, R', s, m, args, below, meth, c, Q, A, nL, E'⟩ := X
  obtain ⟨hx, hb, hml, hown, hts, hK, hSF, hA, rfl, rfl, rfl, rfl⟩ := C
  intro H locs ls hP hD hS hl
  exact va_get hx hb hts hin hown hK hP q0 he hc k hk (hts _ hlk) (fun _ h9 => h9) hv hdg (kk H locs ls hP hD hS hl)
theorem v_put {X : VX} {cc : ByteArray} {n : Nat} {own : String} {R : Room} {E : VE} {l : Launch} (C : VC X cc n own R E l) {a b : Nat} {ws : va_W} {lv : List (Nat × Value)} {pc : Nat} {st : List Value} {C0 : String} {T : u_T} {N ci k0 : Nat} {ad : Nat} {fs : List Value} {v : Value} {ty : FieldType} {ws' : va_W} (ty0 : Nat → FieldType) (hty : ∀ k, k < N → parseFieldDescriptor (T k).2.2.1 = some (ty0 k)) (hnm : ∀ a, a < N → ∀ b, b < N → a ≠ b → (T a).2.1 ≠ (T b).2.1) (hin : ∀ w ∈ u_ws C0 T N, w ∈ lwG) (q0 k : Nat) (he : ws[q0]? = some (ad, .inr (ci, fs))) (hc : vwCl[ci]? = some (C0, T, N)) (hk : k < N) (hlk : Cond.fieldLink own k0 (T k).1 (T k).2.1 (T k).2.2.1 ∈ lwG) (hfin : (T k).2.2.2 = false) (htk : ty0 k = ty) (hn : narrow ty v = v) (hfit : fits ty v = true) (hl0 : k < fs.length) (hr : ws.set q0 (ad, .inr (ci, fs.set k v)) = ws') (hdg : decode cc pc = .ok (.putfield k0, 3)) (kk : VV X a b ws' lv (pc + 3) st) : VV X a b ws lv pc (v :: .ref ad :: st) := by
  obtain ⟨p, l', e, R', s, m, args, below, meth, c, Q, A, nL, E'⟩ := X
  obtain ⟨hx, hb, hml, hown, hts, hK, hSF, hA, rfl, rfl, rfl, rfl⟩ := C
  intro H locs ls hP hD hS hl
  subst hr
  subst htk
  exact va_put hx hb hts hin ty0 hty hnm hown hK hP hD hS q0 he hc k hk (hts _ hlk) (fun _ h9 => h9) hfin (hty k hk) hn hfit hl0 hdg (fun H locs hP hD hS => kk H locs ls hP hD hS hl)
theorem v_putF {X : VX} {cc : ByteArray} {n : Nat} {own : String} {R : Room} {E : VE} {l : Launch} (C : VC X cc n own R E l) {a b : Nat} {ws : va_W} {lv : List (Nat × Value)} {pc : Nat} {st : List Value} {C0 : String} {T : u_T} {N ci k0 : Nat} {ad : Nat} {fs : List Value} {v : Value} {ty : FieldType} {ws' : va_W} (ty0 : Nat → FieldType) (hty : ∀ k, k < N → parseFieldDescriptor (T k).2.2.1 = some (ty0 k)) (hnm : ∀ a, a < N → ∀ b, b < N → a ≠ b → (T a).2.1 ≠ (T b).2.1) (hin : ∀ w ∈ u_ws C0 T N, w ∈ lwG) (q0 k : Nat) (he : ws[q0]? = some (ad, .inr (ci, fs))) (hc : vwCl[ci]? = some (C0, T, N)) (hk : k < N) (hlk : Cond.fieldLink own k0 (T k).1 (T k).2.1 (T k).2.2.1 ∈ lwG) (hfin : (T k).2.2.2 = true) (hinit : VInit X) (hdecl : (T k).1 = own) (htk : ty0 k = ty) (hn : narrow ty v = v) (hfit : fits ty v = true) (hl0 : k < fs.length) (hr : ws.set q0 (ad, .inr (ci, fs.set k v)) = ws') (hdg : decode cc pc = .ok (.putfield k0, 3)) (kk : VV X a b ws' lv (pc + 3) st) : VV X a b ws lv pc (v :: .ref ad :: st) := by
  obtain ⟨p, l', e, R', s, m, args, below, meth, c, Q, A, nL, E'⟩ := X
  obtain ⟨hx, hb, hml, hown, hts, hK, hSF, hA, rfl, rfl, rfl, rfl⟩ := C
  intro H locs ls hP hD hS hl
  subst hr
  subst htk
  exact va_putF hx hb hts hin ty0 hty hnm hown hK hP hD hS q0 he hc k hk (hts _ hlk) (fun _ h9 => h9) hfin hinit hdecl (hty k hk) hn hfit hl0 hdg (fun H locs hP hD hS => kk H locs ls hP hD hS hl)
theorem v_iald {X : VX} {cc : ByteArray} {n : Nat} {own : String} {R : Room} {E : VE} {l : Launch} (C : VC X cc n own R E l) {a b : Nat} {ws : va_W} {lv : List (Nat × Value)} {pc : Nat} {st : List Value} {N : Nat} {ad : Nat} {f : Nat → Int32} {i : Int32} (q0 : Nat) (he : ws[q0]? = some (ad, .inl (eI E, N, .inl f))) (hi : vp_in i N) (hdg : decode cc pc = .ok (.iaload, 1)) (kk : VV X a b ws lv (pc + 1) (.int (f i.toNatClampNeg) :: st)) : VV X a b ws lv pc (.int i :: .ref ad :: st) := by
  obtain ⟨p, l', e, R', s, m, args, below, meth, c, Q, A, nL, E'⟩ := X
  obtain ⟨hx, hb, hml, hown, hts, hK, hSF, hA, rfl, rfl, rfl, rfl⟩ := C
  intro H locs ls hP hD hS hl
  exact va_iald (f := f) hx hb hK hP q0 1 he rfl hi hdg (kk H locs ls hP hD hS hl)
theorem v_bald {X : VX} {cc : ByteArray} {n : Nat} {own : String} {R : Room} {E : VE} {l : Launch} (C : VC X cc n own R E l) {a b : Nat} {ws : va_W} {lv : List (Nat × Value)} {pc : Nat} {st : List Value} {N : Nat} {ad : Nat} {f : Nat → Int8} {i : Int32} (q0 : Nat) (he : ws[q0]? = some (ad, .inl (eB E, N, .inl (b8 f)))) (hi : vp_in i N) (hdg : decode cc pc = .ok (.baload, 1)) (kk : VV X a b ws lv (pc + 1) (.int (f i.toNatClampNeg).toInt32 :: st)) : VV X a b ws lv pc (.int i :: .ref ad :: st) := by
  obtain ⟨p, l', e, R', s, m, args, below, meth, c, Q, A, nL, E'⟩ := X
  obtain ⟨hx, hb, hml, hown, hts, hK, hSF, hA, rfl, rfl, rfl, rfl⟩ := C
  intro H locs ls hP hD hS hl
  exact va_bald (f := b8 f) hx hb hK hP q0 0 he rfl hi hdg (kk H locs ls hP hD hS hl)
theorem v_zald {X : VX} {cc : ByteArray} {n : Nat} {own : String} {R : Room} {E : VE} {l : Launch} (C : VC X cc n own R E l) {a b : Nat} {ws : va_W} {lv : List (Nat × Value)} {pc : Nat} {st : List Value} {N : Nat} {ad : Nat} {f : Nat → Bool} {i : Int32} (q0 : Nat) (he : ws[q0]? = some (ad, .inl (eZ E, N, .inl (bz f)))) (hi : vp_in i N) (hdg : decode cc pc = .ok (.baload, 1)) (kk : VV X a b ws lv (pc + 1) (.int (if f i.toNatClampNeg then 1 else 0) :: st)) : VV X a b ws lv pc (.int i :: .ref ad :: st) := by
  obtain ⟨p, l', e, R', s, m, args, below, meth, c, Q, A, nL, E'⟩ := X
  obtain ⟨hx, hb, hml, hown, hts, hK, hSF, hA, rfl, rfl, rfl, rfl⟩ := C
  intro H locs ls hP hD hS hl
  exact va_zald (f := bz f) hx hb hK hP q0 3 he rfl hi hdg (kk H locs ls hP hD hS hl)
theorem v_lald {X : VX} {cc : ByteArray} {n : Nat} {own : String} {R : Room} {E : VE} {l : Launch} (C : VC X cc n own R E l) {a b : Nat} {ws : va_W} {lv : List (Nat × Value)} {pc : Nat} {st : List Value} {N : Nat} {ad : Nat} {f : Nat → Int64} {i : Int32} (q0 : Nat) (he : ws[q0]? = some (ad, .inl (eJ E, N, .inr (.inl f)))) (hi : vp_in i N) (hdg : decode cc pc = .ok (.laload, 1)) (kk : VV X a b ws lv (pc + 1) (.long (f i.toNatClampNeg) :: st)) : VV X a b ws lv pc (.int i :: .ref ad :: st) := by
  obtain ⟨p, l', e, R', s, m, args, below, meth, c, Q, A, nL, E'⟩ := X
  obtain ⟨hx, hb, hml, hown, hts, hK, hSF, hA, rfl, rfl, rfl, rfl⟩ := C
  intro H locs ls hP hD hS hl
  exact va_lald (f := f) hx hb hK hP q0 2 he rfl hi hdg (kk H locs ls hP hD hS hl)
theorem v_iast {X : VX} {cc : ByteArray} {n : Nat} {own : String} {R : Room} {E : VE} {l : Launch} (C : VC X cc n own R E l) {a b : Nat} {ws : va_W} {lv : List (Nat × Value)} {pc : Nat} {st : List Value} {N : Nat} {ad : Nat} {f : Nat → Int32} {i : Int32} {x : Int32} {ws' : va_W} (q0 : Nat) (he : ws[q0]? = some (ad, .inl (eI E, N, .inl f))) (hi : vp_in i N) (hr : ws.set q0 (ad, .inl (eI E, N, .inl (va_up f i.toNatClampNeg x))) = ws') (hdg : decode cc pc = .ok (.iastore, 1)) (kk : VV X a b ws' lv (pc + 1) st) : VV X a b ws lv pc (.int x :: .int i :: .ref ad :: st) := by
  obtain ⟨p, l', e, R', s, m, args, below, meth, c, Q, A, nL, E'⟩ := X
  obtain ⟨hx, hb, hml, hown, hts, hK, hSF, hA, rfl, rfl, rfl, rfl⟩ := C
  intro H locs ls hP hD hS hl
  subst hr
  exact va_iast (f := f) hx hb hK hP hD hS q0 1 he rfl hi hdg (fun H locs hP hD hS => kk H locs ls hP hD hS hl)
theorem v_bast {X : VX} {cc : ByteArray} {n : Nat} {own : String} {R : Room} {E : VE} {l : Launch} (C : VC X cc n own R E l) {a b : Nat} {ws : va_W} {lv : List (Nat × Value)} {pc : Nat} {st : List Value} {N : Nat} {ad : Nat} {f : Nat → Int8} {i : Int32} {x : Int32} {ws' : va_W} (q0 : Nat) (he : ws[q0]? = some (ad, .inl (eB E, N, .inl (b8 f)))) (hi : vp_in i N) (hr : ws.set q0 (ad, .inl (eB E, N, .inl (b8 (va_up f i.toNatClampNeg x.toInt8)))) = ws') (hdg : decode cc pc = .ok (.bastore, 1)) (kk : VV X a b ws' lv (pc + 1) st) : VV X a b ws lv pc (.int x :: .int i :: .ref ad :: st) := by
  obtain ⟨p, l', e, R', s, m, args, below, meth, c, Q, A, nL, E'⟩ := X
  obtain ⟨hx, hb, hml, hown, hts, hK, hSF, hA, rfl, rfl, rfl, rfl⟩ := C
  intro H locs ls hP hD hS hl
  subst hr
  exact va_bast (f := b8 f) hx hb hK hP hD hS q0 0 he rfl hi hdg (fun H locs hP hD hS => kk H locs ls (by rw [← up_b8]; exact hP) (by rw [← up_b8]; exact hD) hS hl)
theorem v_zast {X : VX} {cc : ByteArray} {n : Nat} {own : String} {R : Room} {E : VE} {l : Launch} (C : VC X cc n own R E l) {a b : Nat} {ws : va_W} {lv : List (Nat × Value)} {pc : Nat} {st : List Value} {N : Nat} {ad : Nat} {f : Nat → Bool} {i : Int32} {x : Int32} {ws' : va_W} (q0 : Nat) (he : ws[q0]? = some (ad, .inl (eZ E, N, .inl (bz f)))) (hi : vp_in i N) (hr : ws.set q0 (ad, .inl (eZ E, N, .inl (bz (va_up f i.toNatClampNeg (i2z x))))) = ws') (hdg : decode cc pc = .ok (.bastore, 1)) (kk : VV X a b ws' lv (pc + 1) st) : VV X a b ws lv pc (.int x :: .int i :: .ref ad :: st) := by
  obtain ⟨p, l', e, R', s, m, args, below, meth, c, Q, A, nL, E'⟩ := X
  obtain ⟨hx, hb, hml, hown, hts, hK, hSF, hA, rfl, rfl, rfl, rfl⟩ := C
  intro H locs ls hP hD hS hl
  subst hr
  exact va_zast (f := bz f) hx hb hK hP hD hS q0 3 he rfl hi hdg (fun H locs hP hD hS => kk H locs ls (by rw [← up_bz]; exact hP) (by rw [← up_bz]; exact hD) hS hl)
theorem v_last {X : VX} {cc : ByteArray} {n : Nat} {own : String} {R : Room} {E : VE} {l : Launch} (C : VC X cc n own R E l) {a b : Nat} {ws : va_W} {lv : List (Nat × Value)} {pc : Nat} {st : List Value} {N : Nat} {ad : Nat} {f : Nat → Int64} {i : Int32} {x : Int64} {ws' : va_W} (q0 : Nat) (he : ws[q0]? = some (ad, .inl (eJ E, N, .inr (.inl f)))) (hi : vp_in i N) (hr : ws.set q0 (ad, .inl (eJ E, N, .inr (.inl (va_up f i.toNatClampNeg x)))) = ws') (hdg : decode cc pc = .ok (.lastore, 1)) (kk : VV X a b ws' lv (pc + 1) st) : VV X a b ws lv pc (.long x :: .int i :: .ref ad :: st) := by
  obtain ⟨p, l', e, R', s, m, args, below, meth, c, Q, A, nL, E'⟩ := X
  obtain ⟨hx, hb, hml, hown, hts, hK, hSF, hA, rfl, rfl, rfl, rfl⟩ := C
  intro H locs ls hP hD hS hl
  subst hr
  exact va_last (f := f) hx hb hK hP hD hS q0 2 he rfl hi hdg (fun H locs hP hD hS => kk H locs ls hP hD hS hl)
theorem v_copyi {X : VX} {cc : ByteArray} {n : Nat} {own : String} {R : Room} {E : VE} {l : Launch} (C : VC X cc n own R E l) {a b : Nat} {ws : va_W} {lv : List (Nat × Value)} {pc : Nat} {st : List Value} {N0 N1 : Nat} {a0 a1 : Nat} {f g : Nat → Int32} {sp dp k : Int32} {idx : Nat} {ws' : va_W} (q0 q1 : Nat) (he : ws[q0]? = some (a0, .inl (eI E, N0, .inl f))) (he1 : ws[q1]? = some (a1, .inl (eI E, N1, .inl g))) (hlk : Cond.methodLink own idx arraycopyName ∈ lwG) (hi : cpyOK sp dp k N0 N1) (hf : 1 ≤ R.frames ∧ (st.map fun v => v.category).sum + (nativeFrameWords "java/lang/System" "arraycopy" 5 + 11) ≤ R.locals) (hr : ws.set q1 (a1, .inl (eI E, N1, .inl (va_cpy f g sp.toNatClampNeg dp.toNatClampNeg k.toNatClampNeg))) = ws') (hdg : decode cc pc = .ok (.invokestatic idx, 3)) (kk : VV X a b ws' lv (pc + 3) st) : VV X a b ws lv pc (.int k :: .int dp :: .ref a1 :: .int sp :: .ref a0 :: st) := by
  obtain ⟨p, l', e, R', s, m, args, below, meth, c, Q, A, nL, E'⟩ := X
  obtain ⟨hx, hb, hml, hown, hts, hK, hSF, hA, rfl, rfl, rfl, rfl⟩ := C
  intro H locs ls hP hD hS hl
  subst hr
  exact va_copyi (ty := .int) (f := f) (g := g) hx hb (hml.trans hl.1.symm) hown (hts _ hlk) (hts _ mNative) (hts _ mStatic) (hts _ mSystem) hK hP hD hS q0 q1 1 1 he he1 rfl rfl rfl hi.1 hi.2.1 hi.2.2.1 hi.2.2.2.1 hi.2.2.2.2 (fun _ _ => rfl) hf.1 hf.2 hdg (fun H locs hP hD hS => kk H locs ls hP hD hS hl)
theorem v_copyb {X : VX} {cc : ByteArray} {n : Nat} {own : String} {R : Room} {E : VE} {l : Launch} (C : VC X cc n own R E l) {a b : Nat} {ws : va_W} {lv : List (Nat × Value)} {pc : Nat} {st : List Value} {N0 N1 : Nat} {a0 a1 : Nat} {f g : Nat → Int8} {sp dp k : Int32} {idx : Nat} {ws' : va_W} (q0 q1 : Nat) (he : ws[q0]? = some (a0, .inl (eB E, N0, .inl (b8 f)))) (he1 : ws[q1]? = some (a1, .inl (eB E, N1, .inl (b8 g)))) (hlk : Cond.methodLink own idx arraycopyName ∈ lwG) (hi : cpyOK sp dp k N0 N1) (hf : 1 ≤ R.frames ∧ (st.map fun v => v.category).sum + (nativeFrameWords "java/lang/System" "arraycopy" 5 + 11) ≤ R.locals) (hr : ws.set q1 (a1, .inl (eB E, N1, .inl (b8 (va_cpy f g sp.toNatClampNeg dp.toNatClampNeg k.toNatClampNeg)))) = ws') (hdg : decode cc pc = .ok (.invokestatic idx, 3)) (kk : VV X a b ws' lv (pc + 3) st) : VV X a b ws lv pc (.int k :: .int dp :: .ref a1 :: .int sp :: .ref a0 :: st) := by
  obtain ⟨p, l', e, R', s, m, args, below, meth, c, Q, A, nL, E'⟩ := X
  obtain ⟨hx, hb, hml, hown, hts, hK, hSF, hA, rfl, rfl, rfl, rfl⟩ := C
  intro H locs ls hP hD hS hl
  subst hr
  exact va_copyi (ty := .byte) (f := b8 f) (g := b8 g) hx hb (hml.trans hl.1.symm) hown (hts _ hlk) (hts _ mNative) (hts _ mStatic) (hts _ mSystem) hK hP hD hS q0 q1 0 0 he he1 rfl rfl rfl hi.1 hi.2.1 hi.2.2.1 hi.2.2.2.1 hi.2.2.2.2 (fun _ _ => fit_b8 _ _) hf.1 hf.2 hdg (fun H locs hP hD hS => kk H locs ls (by rw [← cpy_b8]; exact hP) (by rw [← cpy_b8]; exact hD) hS hl)
theorem v_copyz {X : VX} {cc : ByteArray} {n : Nat} {own : String} {R : Room} {E : VE} {l : Launch} (C : VC X cc n own R E l) {a b : Nat} {ws : va_W} {lv : List (Nat × Value)} {pc : Nat} {st : List Value} {N0 N1 : Nat} {a0 a1 : Nat} {f g : Nat → Bool} {sp dp k : Int32} {idx : Nat} {ws' : va_W} (q0 q1 : Nat) (he : ws[q0]? = some (a0, .inl (eZ E, N0, .inl (bz f)))) (he1 : ws[q1]? = some (a1, .inl (eZ E, N1, .inl (bz g)))) (hlk : Cond.methodLink own idx arraycopyName ∈ lwG) (hi : cpyOK sp dp k N0 N1) (hf : 1 ≤ R.frames ∧ (st.map fun v => v.category).sum + (nativeFrameWords "java/lang/System" "arraycopy" 5 + 11) ≤ R.locals) (hr : ws.set q1 (a1, .inl (eZ E, N1, .inl (bz (va_cpy f g sp.toNatClampNeg dp.toNatClampNeg k.toNatClampNeg)))) = ws') (hdg : decode cc pc = .ok (.invokestatic idx, 3)) (kk : VV X a b ws' lv (pc + 3) st) : VV X a b ws lv pc (.int k :: .int dp :: .ref a1 :: .int sp :: .ref a0 :: st) := by
  obtain ⟨p, l', e, R', s, m, args, below, meth, c, Q, A, nL, E'⟩ := X
  obtain ⟨hx, hb, hml, hown, hts, hK, hSF, hA, rfl, rfl, rfl, rfl⟩ := C
  intro H locs ls hP hD hS hl
  subst hr
  exact va_copyi (ty := .boolean) (f := bz f) (g := bz g) hx hb (hml.trans hl.1.symm) hown (hts _ hlk) (hts _ mNative) (hts _ mStatic) (hts _ mSystem) hK hP hD hS q0 q1 3 3 he he1 rfl rfl rfl hi.1 hi.2.1 hi.2.2.1 hi.2.2.2.1 hi.2.2.2.2 (fun _ _ => fit_bz _ _) hf.1 hf.2 hdg (fun H locs hP hD hS => kk H locs ls (by rw [← cpy_bz]; exact hP) (by rw [← cpy_bz]; exact hD) hS hl)
theorem v_copyl {X : VX} {cc : ByteArray} {n : Nat} {own : String} {R : Room} {E : VE} {l : Launch} (C : VC X cc n own R E l) {a b : Nat} {ws : va_W} {lv : List (Nat × Value)} {pc : Nat} {st : List Value} {N0 N1 : Nat} {a0 a1 : Nat} {f g : Nat → Int64} {sp dp k : Int32} {idx : Nat} {ws' : va_W} (q0 q1 : Nat) (he : ws[q0]? = some (a0, .inl (eJ E, N0, .inr (.inl f)))) (he1 : ws[q1]? = some (a1, .inl (eJ E, N1, .inr (.inl g)))) (hlk : Cond.methodLink own idx arraycopyName ∈ lwG) (hi : cpyOK sp dp k N0 N1) (hf : 1 ≤ R.frames ∧ (st.map fun v => v.category).sum + (nativeFrameWords "java/lang/System" "arraycopy" 5 + 11) ≤ R.locals) (hr : ws.set q1 (a1, .inl (eJ E, N1, .inr (.inl (va_cpy f g sp.toNatClampNeg dp.toNatClampNeg k.toNatClampNeg)))) = ws') (hdg : decode cc pc = .ok (.invokestatic idx, 3)) (kk : VV X a b ws' lv (pc + 3) st) : VV X a b ws lv pc (.int k :: .int dp :: .ref a1 :: .int sp :: .ref a0 :: st) := by
  obtain ⟨p, l', e, R', s, m, args, below, meth, c, Q, A, nL, E'⟩ := X
  obtain ⟨hx, hb, hml, hown, hts, hK, hSF, hA, rfl, rfl, rfl, rfl⟩ := C
  intro H locs ls hP hD hS hl
  subst hr
  exact va_copyl (ty := .long) (f := f) (g := g) hx hb (hml.trans hl.1.symm) hown (hts _ hlk) (hts _ mNative) (hts _ mStatic) (hts _ mSystem) hK hP hD hS q0 q1 2 2 he he1 rfl rfl rfl hi.1 hi.2.1 hi.2.2.1 hi.2.2.2.1 hi.2.2.2.2 (fun _ _ => rfl) hf.1 hf.2 hdg (fun H locs hP hD hS => kk H locs ls hP hD hS hl)
theorem v_imin {X : VX} {cc : ByteArray} {n : Nat} {own : String} {R : Room} {E : VE} {l : Launch} (C : VC X cc n own R E l) {a b : Nat} {ws : va_W} {lv : List (Nat × Value)} {pc : Nat} {st : List Value} {x y : Int32} {idx : Nat} (hlk : Cond.methodLink own idx Lib.Math.min.name ∈ lwG) (hf : 1 ≤ R.frames ∧ (st.map fun v => v.category).sum + 13 ≤ R.locals ∧ a ≤ R.cells ∧ b ≤ R.slots) (hdg : decode cc pc = .ok (.invokestatic idx, 3)) (kk : VV X a b ws lv (pc + 3) (.int (imin x y) :: st)) : VV X a b ws lv pc (.int y :: .int x :: st) := by
  obtain ⟨p, l', e, R', s, m, args, below, meth, c, Q, A, nL, E'⟩ := X
  obtain ⟨hx, hb, hml, hown, hts, hK, hSF, hA, rfl, rfl, rfl, rfl⟩ := C
  intro H locs ls hP hD hS hl
  exact va_mmin hx hb (hml.trans hl.1.symm) hown (hts _ hlk) (hts _ mSmin) (hts _ mMath) (hts _ mCmin) hf.1 hf.2.1 hf.2.2.1 hf.2.2.2 hdg (kk H locs ls hP hD hS hl)
theorem v_imax {X : VX} {cc : ByteArray} {n : Nat} {own : String} {R : Room} {E : VE} {l : Launch} (C : VC X cc n own R E l) {a b : Nat} {ws : va_W} {lv : List (Nat × Value)} {pc : Nat} {st : List Value} {x y : Int32} {idx : Nat} (hlk : Cond.methodLink own idx Lib.Math.max.name ∈ lwG) (hf : 1 ≤ R.frames ∧ (st.map fun v => v.category).sum + 13 ≤ R.locals ∧ a ≤ R.cells ∧ b ≤ R.slots) (hdg : decode cc pc = .ok (.invokestatic idx, 3)) (kk : VV X a b ws lv (pc + 3) (.int (imax x y) :: st)) : VV X a b ws lv pc (.int y :: .int x :: st) := by
  obtain ⟨p, l', e, R', s, m, args, below, meth, c, Q, A, nL, E'⟩ := X
  obtain ⟨hx, hb, hml, hown, hts, hK, hSF, hA, rfl, rfl, rfl, rfl⟩ := C
  intro H locs ls hP hD hS hl
  exact va_mmax hx hb (hml.trans hl.1.symm) hown (hts _ hlk) (hts _ mSmax) (hts _ mMath) (hts _ mCmax) hf.1 hf.2.1 hf.2.2.1 hf.2.2.2 hdg (kk H locs ls hP hD hS hl)
theorem v_alen {X : VX} {cc : ByteArray} {n : Nat} {own : String} {R : Room} {E : VE} {l : Launch} (C : VC X cc n own R E l) {a b : Nat} {ws : va_W} {lv : List (Nat × Value)} {pc : Nat} {st : List Value} {ad : Nat} {cA : ClassId} {x : vp_A} {ty : FieldType} {v : Int32} (q0 t0 : Nat) (he : ws[q0]? = some (ad, .inl (cA, x))) (ht : (tysE E)[t0]? = some (cA, ty)) (hv : Int32.ofNat x.1 = v) (hdg : decode cc pc = .ok (.arraylength, 1)) (kk : VV X a b ws lv (pc + 1) (.int v :: st)) : VV X a b ws lv pc (.ref ad :: st) := by
  obtain ⟨p, l', e, R', s, m, args, below, meth, c, Q, A, nL, E'⟩ := X
  obtain ⟨hx, hb, hml, hown, hts, hK, hSF, hA, rfl, rfl, rfl, rfl⟩ := C
  intro H locs ls hP hD hS hl
  exact va_alen hx hb hK hP q0 t0 he ht hv hdg (kk H locs ls hP hD hS hl)
theorem v_ws {X : VX} {cc : ByteArray} {n : Nat} {own : String} {R : Room} {E : VE} {l : Launch} (C : VC X cc n own R E l) {a b : Nat} {ws : va_W} {lv : List (Nat × Value)} {pc : Nat} {st : List Value} {ws' : va_W} (is : List Nat) (hn : va_nd is = true) (hs : is.map (fun i => ws[i]?) = ws'.map some) (kk : VV X a b ws' lv pc st) : VV X a b ws lv pc st := by
  obtain ⟨p, l', e, R', s, m, args, below, meth, c, Q, A, nL, E'⟩ := X
  obtain ⟨hx, hb, hml, hown, hts, hK, hSF, hA, rfl, rfl, rfl, rfl⟩ := C
  intro H locs ls hP hD hS hl
  exact kk H locs ls (fun k q hq => by obtain ⟨i, -, h2⟩ := va_is is hs k q hq; exact hP i q h2) (hD.sub is hn hs) hS hl
theorem v_lv {X : VX} {cc : ByteArray} {n : Nat} {own : String} {R : Room} {E : VE} {l : Launch} (C : VC X cc n own R E l) {a b : Nat} {ws : va_W} {lv : List (Nat × Value)} {pc : Nat} {st : List Value} {lv' : List (Nat × Value)} (ks : List Nat) (hs : lv_pick lv ks = lv') (kk : VV X a b ws lv' pc st) : VV X a b ws lv pc st := by
  obtain ⟨p, l', e, R', s, m, args, below, meth, c, Q, A, nL, E'⟩ := X
  obtain ⟨hx, hb, hml, hown, hts, hK, hSF, hA, rfl, rfl, rfl, rfl⟩ := C
  intro H locs ls hP hD hS hl
  exact kk H locs ls hP hD hS (lv_sub hl ks hs)
theorem v_widen {X : VX} {cc : ByteArray} {n : Nat} {own : String} {R : Room} {E : VE} {l : Launch} (C : VC X cc n own R E l) {a b : Nat} {ws : va_W} {lv : List (Nat × Value)} {pc : Nat} {st : List Value} {a' b' : Nat} (h1 : a ≤ a') (h2 : b ≤ b') (kk : VV X a' b' ws lv pc st) : VV X a b ws lv pc st := by
  obtain ⟨p, l', e, R', s, m, args, below, meth, c, Q, A, nL, E'⟩ := X
  obtain ⟨hx, hb, hml, hown, hts, hK, hSF, hA, rfl, rfl, rfl, rfl⟩ := C
  intro H locs ls hP hD hS hl
  exact W.widen h1 h2 (kk H locs ls hP hD hS hl)
theorem v_eq {X : VX} {cc : ByteArray} {n : Nat} {own : String} {R : Room} {E : VE} {l : Launch} (C : VC X cc n own R E l) {a b : Nat} {ws : va_W} {lv : List (Nat × Value)} {pc : Nat} {st : List Value} {ws' : va_W} {lv' : List (Nat × Value)} {st' : List Value} {pc' : Nat} (h1 : ws = ws') (h2 : lv = lv') (h3 : pc = pc') (h4 : st = st') (kk : VV X a b ws' lv' pc' st') : VV X a b ws lv pc st := by subst h1 h2 h3 h4; exact kk
theorem v_callVi {X : VX} {cc : ByteArray} {n : Nat} {own : String} {R : Room} {E : VE} {l : Launch} (C : VC X cc n own R E l) {a b : Nat} {ws : va_W} {lv : List (Nat × Value)} {pc : Nat} {st : List Value} {y : MethodName} {yc : ByteArray} {yn : Nat} {yr : FieldType} {d mc ms : Nat} {hb0 : Nat} {As : List Value} {w0 wr : va_W} {S : Type} {wf : S → va_W} {post : Int32 → S → Prop} {idx : Nat} {stk : List Value} (hM : MI l y yc yn yr d mc ms E (.ref hb0 :: As) w0 wf post) (hlk : Cond.methodLink own idx y ∈ lwG) (hini : Cond.initialized y.cls ∈ lwG) (hco : Cond.code y yc yn (some yr) ∈ lwG) (hin : Cond.instanceMethod y ∈ lwG) (hse : Cond.selects y.cls y y ∈ lwG) {ci qb N : Nat} {T : u_T} {fs : List Value} (hcl : vwCl[ci]? = some (y.cls, T, N)) (hqb : ws[qb]? = some (hb0, .inr (ci, fs))) (hd : y.cls ≠ "java/lang/invoke/MethodHandle" ∧ y.cls ≠ "java/lang/invoke/VarHandle" ∧ (parseMethodDescriptor y.desc).map (fun d => d.parameters.length) = some As.length) (hR : d + 1 ≤ R.frames ∧ 8 + (yn + 11) + 40 * d ≤ R.locals) (hf : a + mc ≤ R.cells ∧ b + ms ≤ R.slots) (isC isR : List Nat) (hC : isC.map (fun i => ws[i]?) = w0.map some) (hnC : va_nd isC = true) (hRr : isR.map (fun i => ws[i]?) = wr.map some) (hn : va_nd isR = true) (hdis : ∀ i ∈ isR, i ∉ isC) (hstk : stk = As.reverse ++ .ref hb0 :: st) (hW8 : (st.map fun v => v.category).sum ≤ 8) (hdg : decode cc pc = .ok (.invokevirtual idx, 3)) (kk : ∀ (r : Int32) (u : S), post r u → VV X (a + mc) (b + ms) (wr ++ wf u) lv (pc + 3) (.int r :: st)) : VV X a b ws lv pc stk := by
  obtain ⟨p, l', e, R', s, m, args, below, meth, c, Q, A, nL, E'⟩ := X
  obtain ⟨hx, hb, hml, hown, hts, hK, hSF, hA, rfl, rfl, rfl, rfl⟩ := C
  intro H locs ls hP hD hS hl
  subst hstk
  have hG : GoodIn lwG (Cond.code y yc yn (some yr) :: lwG) := fun w h => by
    rcases List.mem_cons.mp h with h | h
    · subst h; exact ⟨hco, good_of_word (lwG_good hco)⟩
    · exact ⟨h, good_of_word (lwG_good h)⟩
  have hPc : va_P E'.1 vwCl w0 H := fun k q hq => by obtain ⟨i, -, h2⟩ := va_is isC hC k q hq; exact hP i q h2
  have hDc := hD.sub isC hnC hC
  have hFc := va_free (wc := w0) hD hS hA isC hC
  have hSc : SF E' (va_A w0 H.size) s H := (hSF.kept (fun a h1 h2 => hS.2.1 a h1 h2)).narrow hFc
  refine va_calli (va_runV (As := As) (rest := st) (Ts := lwG) ⟨hx, hb, hml, hown, hts⟩ (hM H.size) ⟨callB_of (ret := (some yr)) As.length hts hG rfl rfl rfl (hts _ hini) (hts _ hlk) hd hR, hts _ hin, hts _ hse⟩ ⟨mPre_blind, va_recv hK hP hcl hqb, fun U hU hW => ⟨rfl, by rw [hU], by rw [hU]; exact hPc, ⟨va_K.moved hW.alike hK, by rw [hU]; exact hSc.warm hW⟩, hDc.weaken (fun _ _ _ _ => trivial)⟩⟩ rfl rfl (hl.1) rfl (lv_room hW8) hdg hf) hS (fun q _ h => hFc q h) hFc (fun r u t H1 locs ht hvm hw hB hz1 hk1 hS => ?_)
  obtain ⟨hP1, hK1, hD1⟩ := hB
  rw [ht] at hP1
  obtain ⟨hP, hD⟩ := va_join (wr := wr) (w1 := wf u) hP hD isC isR hC hRr hn hdis hk1 hFc hP1 hD1
  exact kk r u hw H1 locs ls hP hD hS hl
theorem v_callVv {X : VX} {cc : ByteArray} {n : Nat} {own : String} {R : Room} {E : VE} {l : Launch} (C : VC X cc n own R E l) {a b : Nat} {ws : va_W} {lv : List (Nat × Value)} {pc : Nat} {st : List Value} {y : MethodName} {yc : ByteArray} {yn : Nat} {d mc ms : Nat} {hb0 : Nat} {As : List Value} {w0 wr : va_W} {S : Type} {wf : S → va_W} {post : S → Prop} {idx : Nat} {stk : List Value} (hM : MV l y yc yn d mc ms E (.ref hb0 :: As) w0 wf post) (hlk : Cond.methodLink own idx y ∈ lwG) (hini : Cond.initialized y.cls ∈ lwG) (hco : Cond.code y yc yn none ∈ lwG) (hin : Cond.instanceMethod y ∈ lwG) (hse : Cond.selects y.cls y y ∈ lwG) {ci qb N : Nat} {T : u_T} {fs : List Value} (hcl : vwCl[ci]? = some (y.cls, T, N)) (hqb : ws[qb]? = some (hb0, .inr (ci, fs))) (hd : y.cls ≠ "java/lang/invoke/MethodHandle" ∧ y.cls ≠ "java/lang/invoke/VarHandle" ∧ (parseMethodDescriptor y.desc).map (fun d => d.parameters.length) = some As.length) (hR : d + 1 ≤ R.frames ∧ 8 + (yn + 11) + 40 * d ≤ R.locals) (hf : a + mc ≤ R.cells ∧ b + ms ≤ R.slots) (isC isR : List Nat) (hC : isC.map (fun i => ws[i]?) = w0.map some) (hnC : va_nd isC = true) (hRr : isR.map (fun i => ws[i]?) = wr.map some) (hn : va_nd isR = true) (hdis : ∀ i ∈ isR, i ∉ isC) (hstk : stk = As.reverse ++ .ref hb0 :: st) (hW8 : (st.map fun v => v.category).sum ≤ 8) (hdg : decode cc pc = .ok (.invokevirtual idx, 3)) (kk : ∀ (u : S), post u → VV X (a + mc) (b + ms) (wr ++ wf u) lv (pc + 3) st) : VV X a b ws lv pc stk := by
  obtain ⟨p, l', e, R', s, m, args, below, meth, c, Q, A, nL, E'⟩ := X
  obtain ⟨hx, hb, hml, hown, hts, hK, hSF, hA, rfl, rfl, rfl, rfl⟩ := C
  intro H locs ls hP hD hS hl
  subst hstk
  have hG : GoodIn lwG (Cond.code y yc yn none :: lwG) := fun w h => by
    rcases List.mem_cons.mp h with h | h
    · subst h; exact ⟨hco, good_of_word (lwG_good hco)⟩
    · exact ⟨h, good_of_word (lwG_good h)⟩
  have hPc : va_P E'.1 vwCl w0 H := fun k q hq => by obtain ⟨i, -, h2⟩ := va_is isC hC k q hq; exact hP i q h2
  have hDc := hD.sub isC hnC hC
  have hFc := va_free (wc := w0) hD hS hA isC hC
  have hSc : SF E' (va_A w0 H.size) s H := (hSF.kept (fun a h1 h2 => hS.2.1 a h1 h2)).narrow hFc
  refine va_callv (va_runV (As := As) (rest := st) (Ts := lwG) ⟨hx, hb, hml, hown, hts⟩ (hM H.size) ⟨callB_of (ret := none) As.length hts hG rfl rfl rfl (hts _ hini) (hts _ hlk) hd hR, hts _ hin, hts _ hse⟩ ⟨mPre_blind, va_recv hK hP hcl hqb, fun U hU hW => ⟨rfl, by rw [hU], by rw [hU]; exact hPc, ⟨va_K.moved hW.alike hK, by rw [hU]; exact hSc.warm hW⟩, hDc.weaken (fun _ _ _ _ => trivial)⟩⟩ rfl rfl (hl.1) rfl (lv_room hW8) hdg hf) hS (fun q _ h => hFc q h) hFc (fun u t H1 locs ht hvm hw hB hz1 hk1 hS => ?_)
  obtain ⟨hP1, hK1, hD1⟩ := hB
  rw [ht] at hP1
  obtain ⟨hP, hD⟩ := va_join (wr := wr) (w1 := wf u) hP hD isC isR hC hRr hn hdis hk1 hFc hP1 hD1
  exact kk u hw H1 locs ls hP hD hS hl
theorem v_callVl {X : VX} {cc : ByteArray} {n : Nat} {own : String} {R : Room} {E : VE} {l : Launch} (C : VC X cc n own R E l) {a b : Nat} {ws : va_W} {lv : List (Nat × Value)} {pc : Nat} {st : List Value} {y : MethodName} {yc : ByteArray} {yn : Nat} {d mc ms : Nat} {hb0 : Nat} {As : List Value} {w0 wr : va_W} {S : Type} {wf : S → va_W} {post : Int64 → S → Prop} {idx : Nat} {stk : List Value} (hM : ML l y yc yn d mc ms E (.ref hb0 :: As) w0 wf post) (hlk : Cond.methodLink own idx y ∈ lwG) (hini : Cond.initialized y.cls ∈ lwG) (hco : Cond.code y yc yn (some .long) ∈ lwG) (hin : Cond.instanceMethod y ∈ lwG) (hse : Cond.selects y.cls y y ∈ lwG) {ci qb N : Nat} {T : u_T} {fs : List Value} (hcl : vwCl[ci]? = some (y.cls, T, N)) (hqb : ws[qb]? = some (hb0, .inr (ci, fs))) (hd : y.cls ≠ "java/lang/invoke/MethodHandle" ∧ y.cls ≠ "java/lang/invoke/VarHandle" ∧ (parseMethodDescriptor y.desc).map (fun d => d.parameters.length) = some As.length) (hR : d + 1 ≤ R.frames ∧ 8 + (yn + 11) + 40 * d ≤ R.locals) (hf : a + mc ≤ R.cells ∧ b + ms ≤ R.slots) (isC isR : List Nat) (hC : isC.map (fun i => ws[i]?) = w0.map some) (hnC : va_nd isC = true) (hRr : isR.map (fun i => ws[i]?) = wr.map some) (hn : va_nd isR = true) (hdis : ∀ i ∈ isR, i ∉ isC) (hstk : stk = As.reverse ++ .ref hb0 :: st) (hW8 : (st.map fun v => v.category).sum ≤ 8) (hdg : decode cc pc = .ok (.invokevirtual idx, 3)) (kk : ∀ (r : Int64) (u : S), post r u → VV X (a + mc) (b + ms) (wr ++ wf u) lv (pc + 3) (.long r :: st)) : VV X a b ws lv pc stk := by
  obtain ⟨p, l', e, R', s, m, args, below, meth, c, Q, A, nL, E'⟩ := X
  obtain ⟨hx, hb, hml, hown, hts, hK, hSF, hA, rfl, rfl, rfl, rfl⟩ := C
  intro H locs ls hP hD hS hl
  subst hstk
  have hG : GoodIn lwG (Cond.code y yc yn (some .long) :: lwG) := fun w h => by
    rcases List.mem_cons.mp h with h | h
    · subst h; exact ⟨hco, good_of_word (lwG_good hco)⟩
    · exact ⟨h, good_of_word (lwG_good h)⟩
  have hPc : va_P E'.1 vwCl w0 H := fun k q hq => by obtain ⟨i, -, h2⟩ := va_is isC hC k q hq; exact hP i q h2
  have hDc := hD.sub isC hnC hC
  have hFc := va_free (wc := w0) hD hS hA isC hC
  have hSc : SF E' (va_A w0 H.size) s H := (hSF.kept (fun a h1 h2 => hS.2.1 a h1 h2)).narrow hFc
  refine va_calll (va_runV (As := As) (rest := st) (Ts := lwG) ⟨hx, hb, hml, hown, hts⟩ (hM H.size) ⟨callB_of (ret := (some .long)) As.length hts hG rfl rfl rfl (hts _ hini) (hts _ hlk) hd hR, hts _ hin, hts _ hse⟩ ⟨mPre_blind, va_recv hK hP hcl hqb, fun U hU hW => ⟨rfl, by rw [hU], by rw [hU]; exact hPc, ⟨va_K.moved hW.alike hK, by rw [hU]; exact hSc.warm hW⟩, hDc.weaken (fun _ _ _ _ => trivial)⟩⟩ rfl rfl (hl.1) rfl (lv_room hW8) hdg hf) hS (fun q _ h => hFc q h) hFc (fun r u t H1 locs ht hvm hw hB hz1 hk1 hS => ?_)
  obtain ⟨hP1, hK1, hD1⟩ := hB
  rw [ht] at hP1
  obtain ⟨hP, hD⟩ := va_join (wr := wr) (w1 := wf u) hP hD isC isR hC hRr hn hdis hk1 hFc hP1 hD1
  exact kk r u hw H1 locs ls hP hD hS hl
theorem v_callSi {X : VX} {cc : ByteArray} {n : Nat} {own : String} {R : Room} {E : VE} {l : Launch} (C : VC X cc n own R E l) {a b : Nat} {ws : va_W} {lv : List (Nat × Value)} {pc : Nat} {st : List Value} {y : MethodName} {yc : ByteArray} {yn : Nat} {yr : FieldType} {d mc ms : Nat} {As : List Value} {w0 wr : va_W} {S : Type} {wf : S → va_W} {post : Int32 → S → Prop} {idx : Nat} {stk : List Value} (hM : MI l y yc yn yr d mc ms E As w0 wf post) (hlk : Cond.methodLink own idx y ∈ lwG) (hini : Cond.initialized y.cls ∈ lwG) (hco : Cond.code y yc yn (some yr) ∈ lwG) (hst0 : Cond.static y ∈ lwG) (hd : y.cls ≠ "java/lang/invoke/MethodHandle" ∧ y.cls ≠ "java/lang/invoke/VarHandle" ∧ (parseMethodDescriptor y.desc).map (fun d => d.parameters.length) = some As.length) (hR : d + 1 ≤ R.frames ∧ 8 + (yn + 11) + 40 * d ≤ R.locals) (hf : a + mc ≤ R.cells ∧ b + ms ≤ R.slots) (isC isR : List Nat) (hC : isC.map (fun i => ws[i]?) = w0.map some) (hnC : va_nd isC = true) (hRr : isR.map (fun i => ws[i]?) = wr.map some) (hn : va_nd isR = true) (hdis : ∀ i ∈ isR, i ∉ isC) (hstk : stk = As.reverse ++ st) (hW8 : (st.map fun v => v.category).sum ≤ 8) (hdg : decode cc pc = .ok (.invokestatic idx, 3)) (kk : ∀ (r : Int32) (u : S), post r u → VV X (a + mc) (b + ms) (wr ++ wf u) lv (pc + 3) (.int r :: st)) : VV X a b ws lv pc stk := by
  obtain ⟨p, l', e, R', s, m, args, below, meth, c, Q, A, nL, E'⟩ := X
  obtain ⟨hx, hb, hml, hown, hts, hK, hSF, hA, rfl, rfl, rfl, rfl⟩ := C
  intro H locs ls hP hD hS hl
  subst hstk
  have hG : GoodIn lwG (Cond.code y yc yn (some yr) :: lwG) := fun w h => by
    rcases List.mem_cons.mp h with h | h
    · subst h; exact ⟨hco, good_of_word (lwG_good hco)⟩
    · exact ⟨h, good_of_word (lwG_good h)⟩
  have hPc : va_P E'.1 vwCl w0 H := fun k q hq => by obtain ⟨i, -, h2⟩ := va_is isC hC k q hq; exact hP i q h2
  have hDc := hD.sub isC hnC hC
  have hFc := va_free (wc := w0) hD hS hA isC hC
  have hSc : SF E' (va_A w0 H.size) s H := (hSF.kept (fun a h1 h2 => hS.2.1 a h1 h2)).narrow hFc
  refine va_calli (va_runS (As := As) (rest := st) (Ts := lwG) ⟨hx, hb, hml, hown, hts⟩ (hM H.size) ⟨callB_of (ret := (some yr)) As.length hts hG rfl rfl rfl (hts _ hini) (hts _ hlk) hd hR, hts _ hst0⟩ ⟨mPre_blind, fun U hU hW => ⟨rfl, by rw [hU], by rw [hU]; exact hPc, ⟨va_K.moved hW.alike hK, by rw [hU]; exact hSc.warm hW⟩, hDc.weaken (fun _ _ _ _ => trivial)⟩⟩ rfl rfl (hl.1) rfl (lv_room hW8) hdg hf) hS (fun q _ h => hFc q h) hFc (fun r u t H1 locs ht hvm hw hB hz1 hk1 hS => ?_)
  obtain ⟨hP1, hK1, hD1⟩ := hB
  rw [ht] at hP1
  obtain ⟨hP, hD⟩ := va_join (wr := wr) (w1 := wf u) hP hD isC isR hC hRr hn hdis hk1 hFc hP1 hD1
  exact kk r u hw H1 locs ls hP hD hS hl
theorem v_callSv {X : VX} {cc : ByteArray} {n : Nat} {own : String} {R : Room} {E : VE} {l : Launch} (C : VC X cc n own R E l) {a b : Nat} {ws : va_W} {lv : List (Nat × Value)} {pc : Nat} {st : List Value} {y : MethodName} {yc : ByteArray} {yn : Nat} {d mc ms : Nat} {As : List Value} {w0 wr : va_W} {S : Type} {wf : S → va_W} {post : S → Prop} {idx : Nat} {stk : List Value} (hM : MV l y yc yn d mc ms E As w0 wf post) (hlk : Cond.methodLink own idx y ∈ lwG) (hini : Cond.initialized y.cls ∈ lwG) (hco : Cond.code y yc yn none ∈ lwG) (hst0 : Cond.static y ∈ lwG) (hd : y.cls ≠ "java/lang/invoke/MethodHandle" ∧ y.cls ≠ "java/lang/invoke/VarHandle" ∧ (parseMethodDescriptor y.desc).map (fun d => d.parameters.length) = some As.length) (hR : d + 1 ≤ R.frames ∧ 8 + (yn + 11) + 40 * d ≤ R.locals) (hf : a + mc ≤ R.cells ∧ b + ms ≤ R.slots) (isC isR : List Nat) (hC : isC.map (fun i => ws[i]?) = w0.map some) (hnC : va_nd isC = true) (hRr : isR.map (fun i => ws[i]?) = wr.map some) (hn : va_nd isR = true) (hdis : ∀ i ∈ isR, i ∉ isC) (hstk : stk = As.reverse ++ st) (hW8 : (st.map fun v => v.category).sum ≤ 8) (hdg : decode cc pc = .ok (.invokestatic idx, 3)) (kk : ∀ (u : S), post u → VV X (a + mc) (b + ms) (wr ++ wf u) lv (pc + 3) st) : VV X a b ws lv pc stk := by
  obtain ⟨p, l', e, R', s, m, args, below, meth, c, Q, A, nL, E'⟩ := X
  obtain ⟨hx, hb, hml, hown, hts, hK, hSF, hA, rfl, rfl, rfl, rfl⟩ := C
  intro H locs ls hP hD hS hl
  subst hstk
  have hG : GoodIn lwG (Cond.code y yc yn none :: lwG) := fun w h => by
    rcases List.mem_cons.mp h with h | h
    · subst h; exact ⟨hco, good_of_word (lwG_good hco)⟩
    · exact ⟨h, good_of_word (lwG_good h)⟩
  have hPc : va_P E'.1 vwCl w0 H := fun k q hq => by obtain ⟨i, -, h2⟩ := va_is isC hC k q hq; exact hP i q h2
  have hDc := hD.sub isC hnC hC
  have hFc := va_free (wc := w0) hD hS hA isC hC
  have hSc : SF E' (va_A w0 H.size) s H := (hSF.kept (fun a h1 h2 => hS.2.1 a h1 h2)).narrow hFc
  refine va_callv (va_runS (As := As) (rest := st) (Ts := lwG) ⟨hx, hb, hml, hown, hts⟩ (hM H.size) ⟨callB_of (ret := none) As.length hts hG rfl rfl rfl (hts _ hini) (hts _ hlk) hd hR, hts _ hst0⟩ ⟨mPre_blind, fun U hU hW => ⟨rfl, by rw [hU], by rw [hU]; exact hPc, ⟨va_K.moved hW.alike hK, by rw [hU]; exact hSc.warm hW⟩, hDc.weaken (fun _ _ _ _ => trivial)⟩⟩ rfl rfl (hl.1) rfl (lv_room hW8) hdg hf) hS (fun q _ h => hFc q h) hFc (fun u t H1 locs ht hvm hw hB hz1 hk1 hS => ?_)
  obtain ⟨hP1, hK1, hD1⟩ := hB
  rw [ht] at hP1
  obtain ⟨hP, hD⟩ := va_join (wr := wr) (w1 := wf u) hP hD isC isR hC hRr hn hdis hk1 hFc hP1 hD1
  exact kk u hw H1 locs ls hP hD hS hl
theorem v_callSl {X : VX} {cc : ByteArray} {n : Nat} {own : String} {R : Room} {E : VE} {l : Launch} (C : VC X cc n own R E l) {a b : Nat} {ws : va_W} {lv : List (Nat × Value)} {pc : Nat} {st : List Value} {y : MethodName} {yc : ByteArray} {yn : Nat} {d mc ms : Nat} {As : List Value} {w0 wr : va_W} {S : Type} {wf : S → va_W} {post : Int64 → S → Prop} {idx : Nat} {stk : List Value} (hM : ML l y yc yn d mc ms E As w0 wf post) (hlk : Cond.methodLink own idx y ∈ lwG) (hini : Cond.initialized y.cls ∈ lwG) (hco : Cond.code y yc yn (some .long) ∈ lwG) (hst0 : Cond.static y ∈ lwG) (hd : y.cls ≠ "java/lang/invoke/MethodHandle" ∧ y.cls ≠ "java/lang/invoke/VarHandle" ∧ (parseMethodDescriptor y.desc).map (fun d => d.parameters.length) = some As.length) (hR : d + 1 ≤ R.frames ∧ 8 + (yn + 11) + 40 * d ≤ R.locals) (hf : a + mc ≤ R.cells ∧ b + ms ≤ R.slots) (isC isR : List Nat) (hC : isC.map (fun i => ws[i]?) = w0.map some) (hnC : va_nd isC = true) (hRr : isR.map (fun i => ws[i]?) = wr.map some) (hn : va_nd isR = true) (hdis : ∀ i ∈ isR, i ∉ isC) (hstk : stk = As.reverse ++ st) (hW8 : (st.map fun v => v.category).sum ≤ 8) (hdg : decode cc pc = .ok (.invokestatic idx, 3)) (kk : ∀ (r : Int64) (u : S), post r u → VV X (a + mc) (b + ms) (wr ++ wf u) lv (pc + 3) (.long r :: st)) : VV X a b ws lv pc stk := by
  obtain ⟨p, l', e, R', s, m, args, below, meth, c, Q, A, nL, E'⟩ := X
  obtain ⟨hx, hb, hml, hown, hts, hK, hSF, hA, rfl, rfl, rfl, rfl⟩ := C
  intro H locs ls hP hD hS hl
  subst hstk
  have hG : GoodIn lwG (Cond.code y yc yn (some .long) :: lwG) := fun w h => by
    rcases List.mem_cons.mp h with h | h
    · subst h; exact ⟨hco, good_of_word (lwG_good hco)⟩
    · exact ⟨h, good_of_word (lwG_good h)⟩
  have hPc : va_P E'.1 vwCl w0 H := fun k q hq => by obtain ⟨i, -, h2⟩ := va_is isC hC k q hq; exact hP i q h2
  have hDc := hD.sub isC hnC hC
  have hFc := va_free (wc := w0) hD hS hA isC hC
  have hSc : SF E' (va_A w0 H.size) s H := (hSF.kept (fun a h1 h2 => hS.2.1 a h1 h2)).narrow hFc
  refine va_calll (va_runS (As := As) (rest := st) (Ts := lwG) ⟨hx, hb, hml, hown, hts⟩ (hM H.size) ⟨callB_of (ret := (some .long)) As.length hts hG rfl rfl rfl (hts _ hini) (hts _ hlk) hd hR, hts _ hst0⟩ ⟨mPre_blind, fun U hU hW => ⟨rfl, by rw [hU], by rw [hU]; exact hPc, ⟨va_K.moved hW.alike hK, by rw [hU]; exact hSc.warm hW⟩, hDc.weaken (fun _ _ _ _ => trivial)⟩⟩ rfl rfl (hl.1) rfl (lv_room hW8) hdg hf) hS (fun q _ h => hFc q h) hFc (fun r u t H1 locs ht hvm hw hB hz1 hk1 hS => ?_)
  obtain ⟨hP1, hK1, hD1⟩ := hB
  rw [ht] at hP1
  obtain ⟨hP, hD⟩ := va_join (wr := wr) (w1 := wf u) hP hD isC isR hC hRr hn hdis hk1 hFc hP1 hD1
  exact kk r u hw H1 locs ls hP hD hS hl
theorem v_callI {X : VX} {cc : ByteArray} {n : Nat} {own : String} {R : Room} {E : VE} {l : Launch} (C : VC X cc n own R E l) {a b : Nat} {ws : va_W} {lv : List (Nat × Value)} {pc : Nat} {st : List Value} {y : MethodName} {yc : ByteArray} {yn : Nat} {d mc ms : Nat} {hb0 : Nat} {As : List Value} {w0 wr : va_W} {S : Type} {wf : S → va_W} {post : S → Prop} {idx : Nat} {stk : List Value} (hM : MV l y yc yn d mc ms E (.ref hb0 :: As) w0 wf post) (hlk : Cond.methodLink own idx y ∈ lwG) (hini : Cond.initialized y.cls ∈ lwG) (hco : Cond.code y yc yn none ∈ lwG) (hin : Cond.instanceMethod y ∈ lwG) (hnm : y.name = "<init>") (hd : y.cls ≠ "java/lang/invoke/MethodHandle" ∧ y.cls ≠ "java/lang/invoke/VarHandle" ∧ (parseMethodDescriptor y.desc).map (fun d => d.parameters.length) = some As.length) (hR : d + 1 ≤ R.frames ∧ 8 + (yn + 11) + 40 * d ≤ R.locals) (hf : a + mc ≤ R.cells ∧ b + ms ≤ R.slots) (isC isR : List Nat) (hC : isC.map (fun i => ws[i]?) = w0.map some) (hnC : va_nd isC = true) (hRr : isR.map (fun i => ws[i]?) = wr.map some) (hn : va_nd isR = true) (hdis : ∀ i ∈ isR, i ∉ isC) (hstk : stk = As.reverse ++ .ref hb0 :: st) (hW8 : (st.map fun v => v.category).sum ≤ 8) (hdg : decode cc pc = .ok (.invokespecial idx, 3)) (kk : ∀ (u : S), post u → VV X (a + mc) (b + ms) (wr ++ wf u) lv (pc + 3) st) : VV X a b ws lv pc stk := by
  obtain ⟨p, l', e, R', s, m, args, below, meth, c, Q, A, nL, E'⟩ := X
  obtain ⟨hx, hb, hml, hown, hts, hK, hSF, hA, rfl, rfl, rfl, rfl⟩ := C
  intro H locs ls hP hD hS hl
  subst hstk
  have hG : GoodIn lwG (Cond.code y yc yn none :: lwG) := fun w h => by
    rcases List.mem_cons.mp h with h | h
    · subst h; exact ⟨hco, good_of_word (lwG_good hco)⟩
    · exact ⟨h, good_of_word (lwG_good h)⟩
  have hPc : va_P E'.1 vwCl w0 H := fun k q hq => by obtain ⟨i, -, h2⟩ := va_is isC hC k q hq; exact hP i q h2
  have hDc := hD.sub isC hnC hC
  have hFc := va_free (wc := w0) hD hS hA isC hC
  have hSc : SF E' (va_A w0 H.size) s H := (hSF.kept (fun a h1 h2 => hS.2.1 a h1 h2)).narrow hFc
  refine va_callv (va_runI (As := As) (rest := st) (Ts := lwG) ⟨hx, hb, hml, hown, hts⟩ (hM H.size) ⟨callB_of As.length hts hG rfl rfl rfl (hts _ hini) (hts _ hlk) hd hR, hnm, hts _ hin⟩ ⟨mPre_blind, fun U hU hW => ⟨rfl, by rw [hU], by rw [hU]; exact hPc, ⟨va_K.moved hW.alike hK, by rw [hU]; exact hSc.warm hW⟩, hDc.weaken (fun _ _ _ _ => trivial)⟩⟩ rfl rfl (hl.1) rfl (lv_room hW8) hdg hf) hS (fun q _ h => hFc q h) hFc (fun u t H1 locs ht hvm hw hB hz1 hk1 hS => ?_)
  obtain ⟨hP1, hK1, hD1⟩ := hB
  rw [ht] at hP1
  obtain ⟨hP, hD⟩ := va_join (wr := wr) (w1 := wf u) hP hD isC isR hC hRr hn hdis hk1 hFc hP1 hD1
  exact kk u hw H1 locs ls hP hD hS hl
theorem v_callIN {X : VX} {cc : ByteArray} {n : Nat} {own : String} {R : Room} {E : VE} {l : Launch} (C : VC X cc n own R E l) {a b : Nat} {ws : va_W} {lv : List (Nat × Value)} {pc : Nat} {st : List Value} {y : MethodName} {yc : ByteArray} {yn : Nat} {d mc ms : Nat} {hb0 : Nat} {host : String} {As : List Value} {w0 wr : va_W} {S : Type} {wf : S → va_W} {post : S → Prop} {idx : Nat} {stk : List Value} (hM : MV l y yc yn d mc ms E (.ref hb0 :: As) w0 wf post) (hlk : Cond.methodLinkNest own idx y host ∈ lwG) (hini : Cond.initialized y.cls ∈ lwG) (hco : Cond.code y yc yn none ∈ lwG) (hin : Cond.instanceMethod y ∈ lwG) (hnm : y.name = "<init>") (hd : y.cls ≠ "java/lang/invoke/MethodHandle" ∧ y.cls ≠ "java/lang/invoke/VarHandle" ∧ (parseMethodDescriptor y.desc).map (fun d => d.parameters.length) = some As.length) (hR : d + 1 ≤ R.frames ∧ 8 + (yn + 11) + 40 * d ≤ R.locals) (hf : a + mc ≤ R.cells ∧ b + ms ≤ R.slots) (isC isR : List Nat) (hC : isC.map (fun i => ws[i]?) = w0.map some) (hnC : va_nd isC = true) (hRr : isR.map (fun i => ws[i]?) = wr.map some) (hn : va_nd isR = true) (hdis : ∀ i ∈ isR, i ∉ isC) (hstk : stk = As.reverse ++ .ref hb0 :: st) (hW8 : (st.map fun v => v.category).sum ≤ 8) (hdg : decode cc pc = .ok (.invokespecial idx, 3)) (kk : ∀ (u : S), post u → VV X (a + mc) (b + ms) (wr ++ wf u) lv (pc + 3) st) : VV X a b ws lv pc stk := by
  obtain ⟨p, l', e, R', s, m, args, below, meth, c, Q, A, nL, E'⟩ := X
  obtain ⟨hx, hb, hml, hown, hts, hK, hSF, hA, rfl, rfl, rfl, rfl⟩ := C
  intro H locs ls hP hD hS hl
  subst hstk
  have hG : GoodIn lwG (Cond.code y yc yn none :: lwG) := fun w h => by
    rcases List.mem_cons.mp h with h | h
    · subst h; exact ⟨hco, good_of_word (lwG_good hco)⟩
    · exact ⟨h, good_of_word (lwG_good h)⟩
  have hPc : va_P E'.1 vwCl w0 H := fun k q hq => by obtain ⟨i, -, h2⟩ := va_is isC hC k q hq; exact hP i q h2
  have hDc := hD.sub isC hnC hC
  have hFc := va_free (wc := w0) hD hS hA isC hC
  have hSc : SF E' (va_A w0 H.size) s H := (hSF.kept (fun a h1 h2 => hS.2.1 a h1 h2)).narrow hFc
  refine va_callv (va_runIN (As := As) (rest := st) (Ts := lwG) ⟨hx, hb, hml, hown, hts⟩ (hM H.size) ⟨va_cnB (ret := none) As.length hts hG rfl rfl rfl (va_Nw.of rfl (hts _ hlk)) (hts _ hini) hd hR, hnm, hts _ hin⟩ ⟨mPre_blind, fun U hU hW => ⟨rfl, by rw [hU], by rw [hU]; exact hPc, ⟨va_K.moved hW.alike hK, by rw [hU]; exact hSc.warm hW⟩, hDc.weaken (fun _ _ _ _ => trivial)⟩⟩ rfl rfl (hl.1) rfl (lv_room hW8) hdg hf) hS (fun q _ h => hFc q h) hFc (fun u t H1 locs ht hvm hw hB hz1 hk1 hS => ?_)
  obtain ⟨hP1, hK1, hD1⟩ := hB
  rw [ht] at hP1
  obtain ⟨hP, hD⟩ := va_join (wr := wr) (w1 := wf u) hP hD isC isR hC hRr hn hdis hk1 hFc hP1 hD1
  exact kk u hw H1 locs ls hP hD hS hl
theorem v_callFi {X : VX} {cc : ByteArray} {n : Nat} {own : String} {R : Room} {E : VE} {l : Launch} (C : VC X cc n own R E l) {a b : Nat} {ws : va_W} {lv : List (Nat × Value)} {pc : Nat} {st : List Value} {y : MethodName} {yc : ByteArray} {yn : Nat} {yr : FieldType} {d mc ms : Nat} {hb0 : Nat} {As : List Value} {S : Type} {wf : S → va_W} {post : Int32 → S → Prop} {idx : Nat} {stk : List Value} (hM : MI l y yc yn yr d mc ms E (.ref hb0 :: As) ws wf post) (hlk : Cond.methodLink own idx y ∈ lwG) (hini : Cond.initialized y.cls ∈ lwG) (hco : Cond.code y yc yn (some yr) ∈ lwG) (hin : Cond.instanceMethod y ∈ lwG) (hse : Cond.selects y.cls y y ∈ lwG) {ci qb N : Nat} {T : u_T} {fs : List Value} (hcl : vwCl[ci]? = some (y.cls, T, N)) (hqb : ws[qb]? = some (hb0, .inr (ci, fs))) (hd : y.cls ≠ "java/lang/invoke/MethodHandle" ∧ y.cls ≠ "java/lang/invoke/VarHandle" ∧ (parseMethodDescriptor y.desc).map (fun d => d.parameters.length) = some As.length) (hR : d + 1 ≤ R.frames ∧ 8 + (yn + 11) + 40 * d ≤ R.locals) (hf : a + mc ≤ R.cells ∧ b + ms ≤ R.slots) (hstk : stk = As.reverse ++ .ref hb0 :: st) (hW8 : (st.map fun v => v.category).sum ≤ 8) (hdg : decode cc pc = .ok (.invokevirtual idx, 3)) (kk : ∀ (r : Int32) (u : S), post r u → VV X (a + mc) (b + ms) (wf u) lv (pc + 3) (.int r :: st)) : VV X a b ws lv pc stk :=
  v_callVi C hM hlk hini hco hin hse hcl hqb hd hR hf (List.range ws.length) [] (va_rng ws) (va_nd_range _) (wr := []) rfl rfl (fun _ h => absurd h List.not_mem_nil) hstk hW8 hdg kk
theorem v_callFv {X : VX} {cc : ByteArray} {n : Nat} {own : String} {R : Room} {E : VE} {l : Launch} (C : VC X cc n own R E l) {a b : Nat} {ws : va_W} {lv : List (Nat × Value)} {pc : Nat} {st : List Value} {y : MethodName} {yc : ByteArray} {yn : Nat} {d mc ms : Nat} {hb0 : Nat} {As : List Value} {S : Type} {wf : S → va_W} {post : S → Prop} {idx : Nat} {stk : List Value} (hM : MV l y yc yn d mc ms E (.ref hb0 :: As) ws wf post) (hlk : Cond.methodLink own idx y ∈ lwG) (hini : Cond.initialized y.cls ∈ lwG) (hco : Cond.code y yc yn none ∈ lwG) (hin : Cond.instanceMethod y ∈ lwG) (hse : Cond.selects y.cls y y ∈ lwG) {ci qb N : Nat} {T : u_T} {fs : List Value} (hcl : vwCl[ci]? = some (y.cls, T, N)) (hqb : ws[qb]? = some (hb0, .inr (ci, fs))) (hd : y.cls ≠ "java/lang/invoke/MethodHandle" ∧ y.cls ≠ "java/lang/invoke/VarHandle" ∧ (parseMethodDescriptor y.desc).map (fun d => d.parameters.length) = some As.length) (hR : d + 1 ≤ R.frames ∧ 8 + (yn + 11) + 40 * d ≤ R.locals) (hf : a + mc ≤ R.cells ∧ b + ms ≤ R.slots) (hstk : stk = As.reverse ++ .ref hb0 :: st) (hW8 : (st.map fun v => v.category).sum ≤ 8) (hdg : decode cc pc = .ok (.invokevirtual idx, 3)) (kk : ∀ (u : S), post u → VV X (a + mc) (b + ms) (wf u) lv (pc + 3) st) : VV X a b ws lv pc stk :=
  v_callVv C hM hlk hini hco hin hse hcl hqb hd hR hf (List.range ws.length) [] (va_rng ws) (va_nd_range _) (wr := []) rfl rfl (fun _ h => absurd h List.not_mem_nil) hstk hW8 hdg kk
theorem v_callFl {X : VX} {cc : ByteArray} {n : Nat} {own : String} {R : Room} {E : VE} {l : Launch} (C : VC X cc n own R E l) {a b : Nat} {ws : va_W} {lv : List (Nat × Value)} {pc : Nat} {st : List Value} {y : MethodName} {yc : ByteArray} {yn : Nat} {d mc ms : Nat} {hb0 : Nat} {As : List Value} {S : Type} {wf : S → va_W} {post : Int64 → S → Prop} {idx : Nat} {stk : List Value} (hM : ML l y yc yn d mc ms E (.ref hb0 :: As) ws wf post) (hlk : Cond.methodLink own idx y ∈ lwG) (hini : Cond.initialized y.cls ∈ lwG) (hco : Cond.code y yc yn (some .long) ∈ lwG) (hin : Cond.instanceMethod y ∈ lwG) (hse : Cond.selects y.cls y y ∈ lwG) {ci qb N : Nat} {T : u_T} {fs : List Value} (hcl : vwCl[ci]? = some (y.cls, T, N)) (hqb : ws[qb]? = some (hb0, .inr (ci, fs))) (hd : y.cls ≠ "java/lang/invoke/MethodHandle" ∧ y.cls ≠ "java/lang/invoke/VarHandle" ∧ (parseMethodDescriptor y.desc).map (fun d => d.parameters.length) = some As.length) (hR : d + 1 ≤ R.frames ∧ 8 + (yn + 11) + 40 * d ≤ R.locals) (hf : a + mc ≤ R.cells ∧ b + ms ≤ R.slots) (hstk : stk = As.reverse ++ .ref hb0 :: st) (hW8 : (st.map fun v => v.category).sum ≤ 8) (hdg : decode cc pc = .ok (.invokevirtual idx, 3)) (kk : ∀ (r : Int64) (u : S), post r u → VV X (a + mc) (b + ms) (wf u) lv (pc + 3) (.long r :: st)) : VV X a b ws lv pc stk :=
  v_callVl C hM hlk hini hco hin hse hcl hqb hd hR hf (List.range ws.length) [] (va_rng ws) (va_nd_range _) (wr := []) rfl rfl (fun _ h => absurd h List.not_mem_nil) hstk hW8 hdg kk
theorem va_P_iff {D : va_G} {cl : List vw_C} {ws : va_W} {H : Heap} : va_P D cl ws H ↔ ∀ q ∈ ws, va_at D cl q H := by
  constructor
  · intro h q hq
    obtain ⟨k, hk⟩ := List.getElem?_of_mem hq
    exact h k q hk
  · intro h k q hk
    exact h q (List.mem_of_getElem? hk)
theorem va_D_iff {A : Nat → Prop} {ws : va_W} : va_D A ws ↔ (ws.map Prod.fst).Nodup ∧ ∀ q ∈ ws, A q.1 := by
  constructor
  · intro h
    refine ⟨?_, fun q hq => ?_⟩
    · rw [List.Nodup, List.pairwise_iff_getElem]
      intro i j hi hj hij he
      simp only [List.length_map] at hi hj
      simp only [List.getElem_map] at he
      have := h.1 i j _ _ (List.getElem?_eq_getElem hi) (List.getElem?_eq_getElem hj) he
      omega
    · obtain ⟨k, hk⟩ := List.getElem?_of_mem hq
      exact h.2 k q hk
  · intro h
    refine ⟨fun i j p q hi hj he => ?_, fun k q hk => h.2 q (List.mem_of_getElem? hk)⟩
    have h1 := h.1
    rw [List.Nodup, List.pairwise_iff_getElem] at h1
    obtain ⟨li, ei⟩ := List.getElem?_eq_some_iff.mp hi
    obtain ⟨lj, ej⟩ := List.getElem?_eq_some_iff.mp hj
    rcases Nat.lt_trichotomy i j with hlt | heq | hgt
    · have h2 := h1 i j (by simpa using li) (by simpa using lj) hlt
      simp only [List.getElem_map] at h2
      rw [ei, ej] at h2
      exact absurd he h2
    · exact heq
    · have h2 := h1 j i (by simpa using lj) (by simpa using li) hgt
      simp only [List.getElem_map] at h2
      rw [ei, ej] at h2
      exact absurd he.symm h2
theorem va_P.perm {D : va_G} {cl : List vw_C} {ws ws' : va_W} {H : Heap} (hp : ws.Perm ws') (h : va_P D cl ws H) : va_P D cl ws' H := va_P_iff.mpr fun q hq => va_P_iff.mp h q (hp.mem_iff.mpr hq)
theorem va_D.perm {A : Nat → Prop} {ws ws' : va_W} (hp : ws.Perm ws') (h : va_D A ws) : va_D A ws' := va_D_iff.mpr ⟨(hp.map Prod.fst).nodup_iff.mp (va_D_iff.mp h).1, fun q hq => (va_D_iff.mp h).2 q (hp.mem_iff.mpr hq)⟩
theorem flat_perm {α : Type} {l l' : List (List α)} (h : l.Perm l') : l.flatten.Perm l'.flatten := by
  induction h with
  | nil => exact List.Perm.refl _
  | cons x _ ih => simp only [List.flatten_cons]; exact List.Perm.append_left _ ih
  | swap x y l => simp only [List.flatten_cons]; rw [← List.append_assoc, ← List.append_assoc]; exact List.Perm.append_right _ List.perm_append_comm
  | trans _ _ ih1 ih2 => exact ih1.trans ih2
theorem flat_pick {ms : List va_W} {I : List Nat} {n : Nat} (hn : ms.length = n) (h : I.Perm (List.range n)) : (I.map (fun i => ms.getD i [])).flatten.Perm ms.flatten := by
  refine flat_perm ((h.map _).trans ?_)
  have : (List.range n).map (fun i => ms.getD i []) = ms := by
    apply List.ext_getElem
    · simp [hn]
    · intro i h1 h2
      simp [List.getD, h2]
  rw [this]
theorem v_perm {X : VX} {cc : ByteArray} {n : Nat} {own : String} {R : Room} {E : VE} {l : Launch} (C : VC X cc n own R E l) {a b : Nat} {ws : va_W} {lv : List (Nat × Value)} {pc : Nat} {st : List Value} {ws' : va_W} (hp : ws.Perm ws') (kk : VV X a b ws' lv pc st) : VV X a b ws lv pc st := by
  obtain ⟨p, l', e, R', s, m, args, below, meth, c, Q, A, nL, E'⟩ := X
  obtain ⟨hx, hb, hml, hown, hts, hK, hSF, hA, rfl, rfl, rfl, rfl⟩ := C
  intro H locs ls hP hD hS hl
  exact kk H locs ls (hP.perm hp) (hD.perm hp) hS hl
theorem ix_left (w1 w2 : va_W) : (List.range w1.length).map (fun i => (w1 ++ w2)[i]?) = w1.map some := by
  apply List.ext_getElem?
  intro i
  by_cases h : i < w1.length
  · simp [h, List.getElem?_append_left h]
  · simp [h, Nat.le_of_not_lt h]
theorem ix_right (w1 w2 : va_W) : ((List.range w2.length).map (fun i => w1.length + i)).map (fun i => (w1 ++ w2)[i]?) = w2.map some := by
  apply List.ext_getElem?
  intro i
  by_cases h : i < w2.length
  · simp [h, List.getElem?_append_right]
  · simp [h, Nat.le_of_not_lt h]
theorem ix_nd (k n : Nat) : va_nd ((List.range n).map (fun i => k + i)) = true := by
  have key : ∀ (l : List Nat), l.Nodup → va_nd l = true := by
    intro l
    induction l with
    | nil => intro _; rfl
    | cons a l ih => intro h; rw [List.nodup_cons] at h; simp [va_nd, h.1, ih h.2]
  apply key
  rw [List.Nodup, List.pairwise_map]
  exact List.Pairwise.imp (fun h he => h (by omega)) List.nodup_range
theorem ix_dis (k n : Nat) : ∀ i ∈ List.range k, i ∉ (List.range n).map (fun i => k + i) := by
  intro i hi hx
  simp at hi hx
  obtain ⟨j, _, h2⟩ := hx
  omega
theorem v_callVPi {X : VX} {cc : ByteArray} {n : Nat} {own : String} {R : Room} {E : VE} {l : Launch} (C : VC X cc n own R E l) {a b : Nat} {ws : va_W} {lv : List (Nat × Value)} {pc : Nat} {st : List Value} {y : MethodName} {yc : ByteArray} {yn : Nat} {yr : FieldType} {d mc ms0 : Nat} {hb0 : Nat} {As : List Value} {S : Type} {post : Int32 → S → Prop} {idx : Nat} {stk : List Value} (hM : MI l y yc yn yr d mc ms0 E (.ref hb0 :: As) [] (fun (_ : S) => ([] : va_W)) post) (hlk : Cond.methodLink own idx y ∈ lwG) (hini : Cond.initialized y.cls ∈ lwG) (hco : Cond.code y yc yn (some yr) ∈ lwG) (hin : Cond.instanceMethod y ∈ lwG) (hse : Cond.selects y.cls y y ∈ lwG) {ci qb N : Nat} {T : u_T} {fs : List Value} (hcl : vwCl[ci]? = some (y.cls, T, N)) (hqb : (ws)[qb]? = some (hb0, .inr (ci, fs))) (hd : y.cls ≠ "java/lang/invoke/MethodHandle" ∧ y.cls ≠ "java/lang/invoke/VarHandle" ∧ (parseMethodDescriptor y.desc).map (fun d => d.parameters.length) = some As.length) (hR : d + 1 ≤ R.frames ∧ 8 + (yn + 11) + 40 * d ≤ R.locals) (hf : a + mc ≤ R.cells ∧ b + ms0 ≤ R.slots) (hstk : stk = As.reverse ++ .ref hb0 :: st) (hW8 : (st.map fun v => v.category).sum ≤ 8) (hdg : decode cc pc = .ok (.invokevirtual idx, 3)) (kk : ∀ (r : Int32) (u : S), post r u → VV X (a + mc) (b + ms0) ws lv (pc + 3) (.int r :: st)) : VV X a b (ws) lv pc stk := by
  refine v_callVi C hM hlk hini hco hin hse hcl hqb hd hR hf [] (List.range ws.length) rfl rfl (va_rng ws) (va_nd_range _) (fun _ _ => List.not_mem_nil) hstk hW8 hdg (fun r u h => ?_)
  rw [List.append_nil]
  exact kk r u h
theorem v_callVMi {X : VX} {cc : ByteArray} {n : Nat} {own : String} {R : Room} {E : VE} {l : Launch} (C : VC X cc n own R E l) {a b : Nat} {ms : List va_W} {lv : List (Nat × Value)} {pc : Nat} {st : List Value} {y : MethodName} {yc : ByteArray} {yn : Nat} {yr : FieldType} {d mc ms0 : Nat} {hb0 : Nat} {As : List Value} {w0 : va_W} {S : Type} {wf : S → va_W} {post : Int32 → S → Prop} {idx : Nat} {stk : List Value} (hM : MI l y yc yn yr d mc ms0 E (.ref hb0 :: As) w0 wf post) (hlk : Cond.methodLink own idx y ∈ lwG) (hini : Cond.initialized y.cls ∈ lwG) (hco : Cond.code y yc yn (some yr) ∈ lwG) (hin : Cond.instanceMethod y ∈ lwG) (hse : Cond.selects y.cls y y ∈ lwG) {ci qb N : Nat} {T : u_T} {fs : List Value} (hcl : vwCl[ci]? = some (y.cls, T, N)) (hqb : (ms.flatten)[qb]? = some (hb0, .inr (ci, fs))) (hd : y.cls ≠ "java/lang/invoke/MethodHandle" ∧ y.cls ≠ "java/lang/invoke/VarHandle" ∧ (parseMethodDescriptor y.desc).map (fun d => d.parameters.length) = some As.length) (hR : d + 1 ≤ R.frames ∧ 8 + (yn + 11) + 40 * d ≤ R.locals) (hf : a + mc ≤ R.cells ∧ b + ms0 ≤ R.slots) (IC IR : List Nat) {N0 : Nat} (hlen : ms.length = N0) (hpm : (IR ++ IC).Perm (List.range N0)) {ms2 : S → List va_W} (hw0 : w0 = (IC.map (fun i => ms.getD i [])).flatten) (hlen2 : ∀ u, (ms2 u).length = N0) (hC2 : ∀ u, wf u = (IC.map (fun i => (ms2 u).getD i [])).flatten) (hR2 : ∀ u, IR.map (fun i => (ms2 u).getD i []) = IR.map (fun i => ms.getD i [])) (hstk : stk = As.reverse ++ .ref hb0 :: st) (hW8 : (st.map fun v => v.category).sum ≤ 8) (hdg : decode cc pc = .ok (.invokevirtual idx, 3)) (kk : ∀ (r : Int32) (u : S), post r u → VV X (a + mc) (b + ms0) ((ms2 u).flatten) lv (pc + 3) (.int r :: st)) : VV X a b (ms.flatten) lv pc stk := by
  have hp1 : ms.flatten.Perm ((IR.map (fun i => ms.getD i [])).flatten ++ w0) := by
    rw [hw0, ← List.flatten_append, ← List.map_append]
    exact (flat_pick hlen hpm).symm
  obtain ⟨qb', hqb'⟩ := List.getElem?_of_mem (hp1.mem_iff.mp (List.mem_of_getElem? hqb))
  refine v_perm C hp1 ?_
  refine v_callVi C hM hlk hini hco hin hse (qb := qb') hcl hqb' hd hR hf ((List.range w0.length).map (fun i => (IR.map (fun i => ms.getD i [])).flatten.length + i)) (List.range (IR.map (fun i => ms.getD i [])).flatten.length) (ix_right _ _) (ix_nd _ _) (ix_left _ _) (va_nd_range _) (ix_dis _ _) hstk hW8 hdg (fun r u h => ?_)
  have hp2 : ((IR.map (fun i => ms.getD i [])).flatten ++ wf u).Perm (ms2 u).flatten := by
    rw [hC2 u, ← hR2 u, ← List.flatten_append, ← List.map_append]
    exact flat_pick (hlen2 u) hpm
  exact v_perm C hp2 (kk r u h)
theorem v_callVPl {X : VX} {cc : ByteArray} {n : Nat} {own : String} {R : Room} {E : VE} {l : Launch} (C : VC X cc n own R E l) {a b : Nat} {ws : va_W} {lv : List (Nat × Value)} {pc : Nat} {st : List Value} {y : MethodName} {yc : ByteArray} {yn : Nat} {d mc ms0 : Nat} {hb0 : Nat} {As : List Value} {S : Type} {post : Int64 → S → Prop} {idx : Nat} {stk : List Value} (hM : ML l y yc yn d mc ms0 E (.ref hb0 :: As) [] (fun (_ : S) => ([] : va_W)) post) (hlk : Cond.methodLink own idx y ∈ lwG) (hini : Cond.initialized y.cls ∈ lwG) (hco : Cond.code y yc yn (some .long) ∈ lwG) (hin : Cond.instanceMethod y ∈ lwG) (hse : Cond.selects y.cls y y ∈ lwG) {ci qb N : Nat} {T : u_T} {fs : List Value} (hcl : vwCl[ci]? = some (y.cls, T, N)) (hqb : (ws)[qb]? = some (hb0, .inr (ci, fs))) (hd : y.cls ≠ "java/lang/invoke/MethodHandle" ∧ y.cls ≠ "java/lang/invoke/VarHandle" ∧ (parseMethodDescriptor y.desc).map (fun d => d.parameters.length) = some As.length) (hR : d + 1 ≤ R.frames ∧ 8 + (yn + 11) + 40 * d ≤ R.locals) (hf : a + mc ≤ R.cells ∧ b + ms0 ≤ R.slots) (hstk : stk = As.reverse ++ .ref hb0 :: st) (hW8 : (st.map fun v => v.category).sum ≤ 8) (hdg : decode cc pc = .ok (.invokevirtual idx, 3)) (kk : ∀ (r : Int64) (u : S), post r u → VV X (a + mc) (b + ms0) ws lv (pc + 3) (.long r :: st)) : VV X a b (ws) lv pc stk := by
  refine v_callVl C hM hlk hini hco hin hse hcl hqb hd hR hf [] (List.range ws.length) rfl rfl (va_rng ws) (va_nd_range _) (fun _ _ => List.not_mem_nil) hstk hW8 hdg (fun r u h => ?_)
  rw [List.append_nil]
  exact kk r u h
theorem v_callVMl {X : VX} {cc : ByteArray} {n : Nat} {own : String} {R : Room} {E : VE} {l : Launch} (C : VC X cc n own R E l) {a b : Nat} {ms : List va_W} {lv : List (Nat × Value)} {pc : Nat} {st : List Value} {y : MethodName} {yc : ByteArray} {yn : Nat} {d mc ms0 : Nat} {hb0 : Nat} {As : List Value} {w0 : va_W} {S : Type} {wf : S → va_W} {post : Int64 → S → Prop} {idx : Nat} {stk : List Value} (hM : ML l y yc yn d mc ms0 E (.ref hb0 :: As) w0 wf post) (hlk : Cond.methodLink own idx y ∈ lwG) (hini : Cond.initialized y.cls ∈ lwG) (hco : Cond.code y yc yn (some .long) ∈ lwG) (hin : Cond.instanceMethod y ∈ lwG) (hse : Cond.selects y.cls y y ∈ lwG) {ci qb N : Nat} {T : u_T} {fs : List Value} (hcl : vwCl[ci]? = some (y.cls, T, N)) (hqb : (ms.flatten)[qb]? = some (hb0, .inr (ci, fs))) (hd : y.cls ≠ "java/lang/invoke/MethodHandle" ∧ y.cls ≠ "java/lang/invoke/VarHandle" ∧ (parseMethodDescriptor y.desc).map (fun d => d.parameters.length) = some As.length) (hR : d + 1 ≤ R.frames ∧ 8 + (yn + 11) + 40 * d ≤ R.locals) (hf : a + mc ≤ R.cells ∧ b + ms0 ≤ R.slots) (IC IR : List Nat) {N0 : Nat} (hlen : ms.length = N0) (hpm : (IR ++ IC).Perm (List.range N0)) {ms2 : S → List va_W} (hw0 : w0 = (IC.map (fun i => ms.getD i [])).flatten) (hlen2 : ∀ u, (ms2 u).length = N0) (hC2 : ∀ u, wf u = (IC.map (fun i => (ms2 u).getD i [])).flatten) (hR2 : ∀ u, IR.map (fun i => (ms2 u).getD i []) = IR.map (fun i => ms.getD i [])) (hstk : stk = As.reverse ++ .ref hb0 :: st) (hW8 : (st.map fun v => v.category).sum ≤ 8) (hdg : decode cc pc = .ok (.invokevirtual idx, 3)) (kk : ∀ (r : Int64) (u : S), post r u → VV X (a + mc) (b + ms0) ((ms2 u).flatten) lv (pc + 3) (.long r :: st)) : VV X a b (ms.flatten) lv pc stk := by
  have hp1 : ms.flatten.Perm ((IR.map (fun i => ms.getD i [])).flatten ++ w0) := by
    rw [hw0, ← List.flatten_append, ← List.map_append]
    exact (flat_pick hlen hpm).symm
  obtain ⟨qb', hqb'⟩ := List.getElem?_of_mem (hp1.mem_iff.mp (List.mem_of_getElem? hqb))
  refine v_perm C hp1 ?_
  refine v_callVl C hM hlk hini hco hin hse (qb := qb') hcl hqb' hd hR hf ((List.range w0.length).map (fun i => (IR.map (fun i => ms.getD i [])).flatten.length + i)) (List.range (IR.map (fun i => ms.getD i [])).flatten.length) (ix_right _ _) (ix_nd _ _) (ix_left _ _) (va_nd_range _) (ix_dis _ _) hstk hW8 hdg (fun r u h => ?_)
  have hp2 : ((IR.map (fun i => ms.getD i [])).flatten ++ wf u).Perm (ms2 u).flatten := by
    rw [hC2 u, ← hR2 u, ← List.flatten_append, ← List.map_append]
    exact flat_pick (hlen2 u) hpm
  exact v_perm C hp2 (kk r u h)
theorem v_callVPv {X : VX} {cc : ByteArray} {n : Nat} {own : String} {R : Room} {E : VE} {l : Launch} (C : VC X cc n own R E l) {a b : Nat} {ws : va_W} {lv : List (Nat × Value)} {pc : Nat} {st : List Value} {y : MethodName} {yc : ByteArray} {yn : Nat} {d mc ms0 : Nat} {hb0 : Nat} {As : List Value} {S : Type} {post : S → Prop} {idx : Nat} {stk : List Value} (hM : MV l y yc yn d mc ms0 E (.ref hb0 :: As) [] (fun (_ : S) => ([] : va_W)) post) (hlk : Cond.methodLink own idx y ∈ lwG) (hini : Cond.initialized y.cls ∈ lwG) (hco : Cond.code y yc yn none ∈ lwG) (hin : Cond.instanceMethod y ∈ lwG) (hse : Cond.selects y.cls y y ∈ lwG) {ci qb N : Nat} {T : u_T} {fs : List Value} (hcl : vwCl[ci]? = some (y.cls, T, N)) (hqb : (ws)[qb]? = some (hb0, .inr (ci, fs))) (hd : y.cls ≠ "java/lang/invoke/MethodHandle" ∧ y.cls ≠ "java/lang/invoke/VarHandle" ∧ (parseMethodDescriptor y.desc).map (fun d => d.parameters.length) = some As.length) (hR : d + 1 ≤ R.frames ∧ 8 + (yn + 11) + 40 * d ≤ R.locals) (hf : a + mc ≤ R.cells ∧ b + ms0 ≤ R.slots) (hstk : stk = As.reverse ++ .ref hb0 :: st) (hW8 : (st.map fun v => v.category).sum ≤ 8) (hdg : decode cc pc = .ok (.invokevirtual idx, 3)) (kk : ∀ (u : S), post u → VV X (a + mc) (b + ms0) ws lv (pc + 3) st) : VV X a b (ws) lv pc stk := by
  refine v_callVv C hM hlk hini hco hin hse hcl hqb hd hR hf [] (List.range ws.length) rfl rfl (va_rng ws) (va_nd_range _) (fun _ _ => List.not_mem_nil) hstk hW8 hdg (fun u h => ?_)
  rw [List.append_nil]
  exact kk u h
theorem v_callVMv {X : VX} {cc : ByteArray} {n : Nat} {own : String} {R : Room} {E : VE} {l : Launch} (C : VC X cc n own R E l) {a b : Nat} {ms : List va_W} {lv : List (Nat × Value)} {pc : Nat} {st : List Value} {y : MethodName} {yc : ByteArray} {yn : Nat} {d mc ms0 : Nat} {hb0 : Nat} {As : List Value} {w0 : va_W} {S : Type} {wf : S → va_W} {post : S → Prop} {idx : Nat} {stk : List Value} (hM : MV l y yc yn d mc ms0 E (.ref hb0 :: As) w0 wf post) (hlk : Cond.methodLink own idx y ∈ lwG) (hini : Cond.initialized y.cls ∈ lwG) (hco : Cond.code y yc yn none ∈ lwG) (hin : Cond.instanceMethod y ∈ lwG) (hse : Cond.selects y.cls y y ∈ lwG) {ci qb N : Nat} {T : u_T} {fs : List Value} (hcl : vwCl[ci]? = some (y.cls, T, N)) (hqb : (ms.flatten)[qb]? = some (hb0, .inr (ci, fs))) (hd : y.cls ≠ "java/lang/invoke/MethodHandle" ∧ y.cls ≠ "java/lang/invoke/VarHandle" ∧ (parseMethodDescriptor y.desc).map (fun d => d.parameters.length) = some As.length) (hR : d + 1 ≤ R.frames ∧ 8 + (yn + 11) + 40 * d ≤ R.locals) (hf : a + mc ≤ R.cells ∧ b + ms0 ≤ R.slots) (IC IR : List Nat) {N0 : Nat} (hlen : ms.length = N0) (hpm : (IR ++ IC).Perm (List.range N0)) {ms2 : S → List va_W} (hw0 : w0 = (IC.map (fun i => ms.getD i [])).flatten) (hlen2 : ∀ u, (ms2 u).length = N0) (hC2 : ∀ u, wf u = (IC.map (fun i => (ms2 u).getD i [])).flatten) (hR2 : ∀ u, IR.map (fun i => (ms2 u).getD i []) = IR.map (fun i => ms.getD i [])) (hstk : stk = As.reverse ++ .ref hb0 :: st) (hW8 : (st.map fun v => v.category).sum ≤ 8) (hdg : decode cc pc = .ok (.invokevirtual idx, 3)) (kk : ∀ (u : S), post u → VV X (a + mc) (b + ms0) ((ms2 u).flatten) lv (pc + 3) st) : VV X a b (ms.flatten) lv pc stk := by
  have hp1 : ms.flatten.Perm ((IR.map (fun i => ms.getD i [])).flatten ++ w0) := by
    rw [hw0, ← List.flatten_append, ← List.map_append]
    exact (flat_pick hlen hpm).symm
  obtain ⟨qb', hqb'⟩ := List.getElem?_of_mem (hp1.mem_iff.mp (List.mem_of_getElem? hqb))
  refine v_perm C hp1 ?_
  refine v_callVv C hM hlk hini hco hin hse (qb := qb') hcl hqb' hd hR hf ((List.range w0.length).map (fun i => (IR.map (fun i => ms.getD i [])).flatten.length + i)) (List.range (IR.map (fun i => ms.getD i [])).flatten.length) (ix_right _ _) (ix_nd _ _) (ix_left _ _) (va_nd_range _) (ix_dis _ _) hstk hW8 hdg (fun u h => ?_)
  have hp2 : ((IR.map (fun i => ms.getD i [])).flatten ++ wf u).Perm (ms2 u).flatten := by
    rw [hC2 u, ← hR2 u, ← List.flatten_append, ← List.map_append]
    exact flat_pick (hlen2 u) hpm
  exact v_perm C hp2 (kk u h)
theorem v_callSPi {X : VX} {cc : ByteArray} {n : Nat} {own : String} {R : Room} {E : VE} {l : Launch} (C : VC X cc n own R E l) {a b : Nat} {ws : va_W} {lv : List (Nat × Value)} {pc : Nat} {st : List Value} {y : MethodName} {yc : ByteArray} {yn : Nat} {yr : FieldType} {d mc ms0 : Nat} {As : List Value} {S : Type} {post : Int32 → S → Prop} {idx : Nat} {stk : List Value} (hM : MI l y yc yn yr d mc ms0 E As [] (fun (_ : S) => ([] : va_W)) post) (hlk : Cond.methodLink own idx y ∈ lwG) (hini : Cond.initialized y.cls ∈ lwG) (hco : Cond.code y yc yn (some yr) ∈ lwG) (hst0 : Cond.static y ∈ lwG) (hd : y.cls ≠ "java/lang/invoke/MethodHandle" ∧ y.cls ≠ "java/lang/invoke/VarHandle" ∧ (parseMethodDescriptor y.desc).map (fun d => d.parameters.length) = some As.length) (hR : d + 1 ≤ R.frames ∧ 8 + (yn + 11) + 40 * d ≤ R.locals) (hf : a + mc ≤ R.cells ∧ b + ms0 ≤ R.slots) (hstk : stk = As.reverse ++ st) (hW8 : (st.map fun v => v.category).sum ≤ 8) (hdg : decode cc pc = .ok (.invokestatic idx, 3)) (kk : ∀ (r : Int32) (u : S), post r u → VV X (a + mc) (b + ms0) ws lv (pc + 3) (.int r :: st)) : VV X a b (ws) lv pc stk := by
  refine v_callSi C hM hlk hini hco hst0 hd hR hf [] (List.range ws.length) rfl rfl (va_rng ws) (va_nd_range _) (fun _ _ => List.not_mem_nil) hstk hW8 hdg (fun r u h => ?_)
  rw [List.append_nil]
  exact kk r u h
theorem v_callSMi {X : VX} {cc : ByteArray} {n : Nat} {own : String} {R : Room} {E : VE} {l : Launch} (C : VC X cc n own R E l) {a b : Nat} {ms : List va_W} {lv : List (Nat × Value)} {pc : Nat} {st : List Value} {y : MethodName} {yc : ByteArray} {yn : Nat} {yr : FieldType} {d mc ms0 : Nat} {As : List Value} {w0 : va_W} {S : Type} {wf : S → va_W} {post : Int32 → S → Prop} {idx : Nat} {stk : List Value} (hM : MI l y yc yn yr d mc ms0 E As w0 wf post) (hlk : Cond.methodLink own idx y ∈ lwG) (hini : Cond.initialized y.cls ∈ lwG) (hco : Cond.code y yc yn (some yr) ∈ lwG) (hst0 : Cond.static y ∈ lwG) (hd : y.cls ≠ "java/lang/invoke/MethodHandle" ∧ y.cls ≠ "java/lang/invoke/VarHandle" ∧ (parseMethodDescriptor y.desc).map (fun d => d.parameters.length) = some As.length) (hR : d + 1 ≤ R.frames ∧ 8 + (yn + 11) + 40 * d ≤ R.locals) (hf : a + mc ≤ R.cells ∧ b + ms0 ≤ R.slots) (IC IR : List Nat) {N0 : Nat} (hlen : ms.length = N0) (hpm : (IR ++ IC).Perm (List.range N0)) {ms2 : S → List va_W} (hw0 : w0 = (IC.map (fun i => ms.getD i [])).flatten) (hlen2 : ∀ u, (ms2 u).length = N0) (hC2 : ∀ u, wf u = (IC.map (fun i => (ms2 u).getD i [])).flatten) (hR2 : ∀ u, IR.map (fun i => (ms2 u).getD i []) = IR.map (fun i => ms.getD i [])) (hstk : stk = As.reverse ++ st) (hW8 : (st.map fun v => v.category).sum ≤ 8) (hdg : decode cc pc = .ok (.invokestatic idx, 3)) (kk : ∀ (r : Int32) (u : S), post r u → VV X (a + mc) (b + ms0) ((ms2 u).flatten) lv (pc + 3) (.int r :: st)) : VV X a b (ms.flatten) lv pc stk := by
  have hp1 : ms.flatten.Perm ((IR.map (fun i => ms.getD i [])).flatten ++ w0) := by
    rw [hw0, ← List.flatten_append, ← List.map_append]
    exact (flat_pick hlen hpm).symm
  refine v_perm C hp1 ?_
  refine v_callSi C hM hlk hini hco hst0 hd hR hf ((List.range w0.length).map (fun i => (IR.map (fun i => ms.getD i [])).flatten.length + i)) (List.range (IR.map (fun i => ms.getD i [])).flatten.length) (ix_right _ _) (ix_nd _ _) (ix_left _ _) (va_nd_range _) (ix_dis _ _) hstk hW8 hdg (fun r u h => ?_)
  have hp2 : ((IR.map (fun i => ms.getD i [])).flatten ++ wf u).Perm (ms2 u).flatten := by
    rw [hC2 u, ← hR2 u, ← List.flatten_append, ← List.map_append]
    exact flat_pick (hlen2 u) hpm
  exact v_perm C hp2 (kk r u h)
theorem v_callSPl {X : VX} {cc : ByteArray} {n : Nat} {own : String} {R : Room} {E : VE} {l : Launch} (C : VC X cc n own R E l) {a b : Nat} {ws : va_W} {lv : List (Nat × Value)} {pc : Nat} {st : List Value} {y : MethodName} {yc : ByteArray} {yn : Nat} {d mc ms0 : Nat} {As : List Value} {S : Type} {post : Int64 → S → Prop} {idx : Nat} {stk : List Value} (hM : ML l y yc yn d mc ms0 E As [] (fun (_ : S) => ([] : va_W)) post) (hlk : Cond.methodLink own idx y ∈ lwG) (hini : Cond.initialized y.cls ∈ lwG) (hco : Cond.code y yc yn (some .long) ∈ lwG) (hst0 : Cond.static y ∈ lwG) (hd : y.cls ≠ "java/lang/invoke/MethodHandle" ∧ y.cls ≠ "java/lang/invoke/VarHandle" ∧ (parseMethodDescriptor y.desc).map (fun d => d.parameters.length) = some As.length) (hR : d + 1 ≤ R.frames ∧ 8 + (yn + 11) + 40 * d ≤ R.locals) (hf : a + mc ≤ R.cells ∧ b + ms0 ≤ R.slots) (hstk : stk = As.reverse ++ st) (hW8 : (st.map fun v => v.category).sum ≤ 8) (hdg : decode cc pc = .ok (.invokestatic idx, 3)) (kk : ∀ (r : Int64) (u : S), post r u → VV X (a + mc) (b + ms0) ws lv (pc + 3) (.long r :: st)) : VV X a b (ws) lv pc stk := by
  refine v_callSl C hM hlk hini hco hst0 hd hR hf [] (List.range ws.length) rfl rfl (va_rng ws) (va_nd_range _) (fun _ _ => List.not_mem_nil) hstk hW8 hdg (fun r u h => ?_)
  rw [List.append_nil]
  exact kk r u h
theorem v_callSMl {X : VX} {cc : ByteArray} {n : Nat} {own : String} {R : Room} {E : VE} {l : Launch} (C : VC X cc n own R E l) {a b : Nat} {ms : List va_W} {lv : List (Nat × Value)} {pc : Nat} {st : List Value} {y : MethodName} {yc : ByteArray} {yn : Nat} {d mc ms0 : Nat} {As : List Value} {w0 : va_W} {S : Type} {wf : S → va_W} {post : Int64 → S → Prop} {idx : Nat} {stk : List Value} (hM : ML l y yc yn d mc ms0 E As w0 wf post) (hlk : Cond.methodLink own idx y ∈ lwG) (hini : Cond.initialized y.cls ∈ lwG) (hco : Cond.code y yc yn (some .long) ∈ lwG) (hst0 : Cond.static y ∈ lwG) (hd : y.cls ≠ "java/lang/invoke/MethodHandle" ∧ y.cls ≠ "java/lang/invoke/VarHandle" ∧ (parseMethodDescriptor y.desc).map (fun d => d.parameters.length) = some As.length) (hR : d + 1 ≤ R.frames ∧ 8 + (yn + 11) + 40 * d ≤ R.locals) (hf : a + mc ≤ R.cells ∧ b + ms0 ≤ R.slots) (IC IR : List Nat) {N0 : Nat} (hlen : ms.length = N0) (hpm : (IR ++ IC).Perm (List.range N0)) {ms2 : S → List va_W} (hw0 : w0 = (IC.map (fun i => ms.getD i [])).flatten) (hlen2 : ∀ u, (ms2 u).length = N0) (hC2 : ∀ u, wf u = (IC.map (fun i => (ms2 u).getD i [])).flatten) (hR2 : ∀ u, IR.map (fun i => (ms2 u).getD i []) = IR.map (fun i => ms.getD i [])) (hstk : stk = As.reverse ++ st) (hW8 : (st.map fun v => v.category).sum ≤ 8) (hdg : decode cc pc = .ok (.invokestatic idx, 3)) (kk : ∀ (r : Int64) (u : S), post r u → VV X (a + mc) (b + ms0) ((ms2 u).flatten) lv (pc + 3) (.long r :: st)) : VV X a b (ms.flatten) lv pc stk := by
  have hp1 : ms.flatten.Perm ((IR.map (fun i => ms.getD i [])).flatten ++ w0) := by
    rw [hw0, ← List.flatten_append, ← List.map_append]
    exact (flat_pick hlen hpm).symm
  refine v_perm C hp1 ?_
  refine v_callSl C hM hlk hini hco hst0 hd hR hf ((List.range w0.length).map (fun i => (IR.map (fun i => ms.getD i [])).flatten.length + i)) (List.range (IR.map (fun i => ms.getD i [])).flatten.length) (ix_right _ _) (ix_nd _ _) (ix_left _ _) (va_nd_range _) (ix_dis _ _) hstk hW8 hdg (fun r u h => ?_)
  have hp2 : ((IR.map (fun i => ms.getD i [])).flatten ++ wf u).Perm (ms2 u).flatten := by
    rw [hC2 u, ← hR2 u, ← List.flatten_append, ← List.map_append]
    exact flat_pick (hlen2 u) hpm
  exact v_perm C hp2 (kk r u h)
theorem v_callSPv {X : VX} {cc : ByteArray} {n : Nat} {own : String} {R : Room} {E : VE} {l : Launch} (C : VC X cc n own R E l) {a b : Nat} {ws : va_W} {lv : List (Nat × Value)} {pc : Nat} {st : List Value} {y : MethodName} {yc : ByteArray} {yn : Nat} {d mc ms0 : Nat} {As : List Value} {S : Type} {post : S → Prop} {idx : Nat} {stk : List Value} (hM : MV l y yc yn d mc ms0 E As [] (fun (_ : S) => ([] : va_W)) post) (hlk : Cond.methodLink own idx y ∈ lwG) (hini : Cond.initialized y.cls ∈ lwG) (hco : Cond.code y yc yn none ∈ lwG) (hst0 : Cond.static y ∈ lwG) (hd : y.cls ≠ "java/lang/invoke/MethodHandle" ∧ y.cls ≠ "java/lang/invoke/VarHandle" ∧ (parseMethodDescriptor y.desc).map (fun d => d.parameters.length) = some As.length) (hR : d + 1 ≤ R.frames ∧ 8 + (yn + 11) + 40 * d ≤ R.locals) (hf : a + mc ≤ R.cells ∧ b + ms0 ≤ R.slots) (hstk : stk = As.reverse ++ st) (hW8 : (st.map fun v => v.category).sum ≤ 8) (hdg : decode cc pc = .ok (.invokestatic idx, 3)) (kk : ∀ (u : S), post u → VV X (a + mc) (b + ms0) ws lv (pc + 3) st) : VV X a b (ws) lv pc stk := by
  refine v_callSv C hM hlk hini hco hst0 hd hR hf [] (List.range ws.length) rfl rfl (va_rng ws) (va_nd_range _) (fun _ _ => List.not_mem_nil) hstk hW8 hdg (fun u h => ?_)
  rw [List.append_nil]
  exact kk u h
theorem v_callSMv {X : VX} {cc : ByteArray} {n : Nat} {own : String} {R : Room} {E : VE} {l : Launch} (C : VC X cc n own R E l) {a b : Nat} {ms : List va_W} {lv : List (Nat × Value)} {pc : Nat} {st : List Value} {y : MethodName} {yc : ByteArray} {yn : Nat} {d mc ms0 : Nat} {As : List Value} {w0 : va_W} {S : Type} {wf : S → va_W} {post : S → Prop} {idx : Nat} {stk : List Value} (hM : MV l y yc yn d mc ms0 E As w0 wf post) (hlk : Cond.methodLink own idx y ∈ lwG) (hini : Cond.initialized y.cls ∈ lwG) (hco : Cond.code y yc yn none ∈ lwG) (hst0 : Cond.static y ∈ lwG) (hd : y.cls ≠ "java/lang/invoke/MethodHandle" ∧ y.cls ≠ "java/lang/invoke/VarHandle" ∧ (parseMethodDescriptor y.desc).map (fun d => d.parameters.length) = some As.length) (hR : d + 1 ≤ R.frames ∧ 8 + (yn + 11) + 40 * d ≤ R.locals) (hf : a + mc ≤ R.cells ∧ b + ms0 ≤ R.slots) (IC IR : List Nat) {N0 : Nat} (hlen : ms.length = N0) (hpm : (IR ++ IC).Perm (List.range N0)) {ms2 : S → List va_W} (hw0 : w0 = (IC.map (fun i => ms.getD i [])).flatten) (hlen2 : ∀ u, (ms2 u).length = N0) (hC2 : ∀ u, wf u = (IC.map (fun i => (ms2 u).getD i [])).flatten) (hR2 : ∀ u, IR.map (fun i => (ms2 u).getD i []) = IR.map (fun i => ms.getD i [])) (hstk : stk = As.reverse ++ st) (hW8 : (st.map fun v => v.category).sum ≤ 8) (hdg : decode cc pc = .ok (.invokestatic idx, 3)) (kk : ∀ (u : S), post u → VV X (a + mc) (b + ms0) ((ms2 u).flatten) lv (pc + 3) st) : VV X a b (ms.flatten) lv pc stk := by
  have hp1 : ms.flatten.Perm ((IR.map (fun i => ms.getD i [])).flatten ++ w0) := by
    rw [hw0, ← List.flatten_append, ← List.map_append]
    exact (flat_pick hlen hpm).symm
  refine v_perm C hp1 ?_
  refine v_callSv C hM hlk hini hco hst0 hd hR hf ((List.range w0.length).map (fun i => (IR.map (fun i => ms.getD i [])).flatten.length + i)) (List.range (IR.map (fun i => ms.getD i [])).flatten.length) (ix_right _ _) (ix_nd _ _) (ix_left _ _) (va_nd_range _) (ix_dis _ _) hstk hW8 hdg (fun u h => ?_)
  have hp2 : ((IR.map (fun i => ms.getD i [])).flatten ++ wf u).Perm (ms2 u).flatten := by
    rw [hC2 u, ← hR2 u, ← List.flatten_append, ← List.map_append]
    exact flat_pick (hlen2 u) hpm
  exact v_perm C hp2 (kk u h)
theorem v_newai {X : VX} {cc : ByteArray} {n : Nat} {own : String} {R : Room} {E : VE} {l : Launch} (C : VC X cc n own R E l) {a b : Nat} {ws : va_W} {lv : List (Nat × Value)} {pc : Nat} {st : List Value} {N : Nat} {k : Int32} (hk : ¬ k < 0) (hN : k.toNatClampNeg = N) (hby : N * componentBytes .int ≤ 536870912) (hc1 : a + 1 ≤ R.cells) (hs1 : b + N ≤ R.slots) (hdg : decode cc pc = .ok (.newarray .int, 2)) (kk : ∀ q : Nat, VV X (a + 1) (b + N) (ws ++ [(q, .inl (eI E, N, .inl (fun _ => 0)))]) lv (pc + 2) (.ref q :: st)) : VV X a b ws lv pc (.int k :: st) := by
  obtain ⟨p, l', e, R', s, m, args, below, meth, c, Q, A, nL, E'⟩ := X
  obtain ⟨hx, hb, hml, hown, hts, hK, hSF, hA, rfl, rfl, rfl, rfl⟩ := C
  intro H locs ls hP hD hS hl
  refine va_newa (atype := .int) (ty := .int) (a0 := (N, .inl (fun _ => 0))) hx hb (hts _ mArrI) rfl hK hP hD hS hA (fun _ => rfl) hk hN hby hc1 hs1 hdg (fun q cA H1 hK1 hP1 hD1 hS1 => ?_)
  have e1 : s.vm.findClass "[I" = some cA := (hK1.2 5 (cA, .int) rfl).2
  have e2 : s.vm.findClass "[I" = some (eI E') := (hK.2 1 (eI E', .int) rfl).2
  have e3 : cA = eI E' := Option.some.inj (e1.symm.trans e2)
  subst e3
  exact kk q H1 locs ls hP1 hD1 hS1 hl
theorem v_newab {X : VX} {cc : ByteArray} {n : Nat} {own : String} {R : Room} {E : VE} {l : Launch} (C : VC X cc n own R E l) {a b : Nat} {ws : va_W} {lv : List (Nat × Value)} {pc : Nat} {st : List Value} {N : Nat} {k : Int32} (hk : ¬ k < 0) (hN : k.toNatClampNeg = N) (hby : N * componentBytes .byte ≤ 536870912) (hc1 : a + 1 ≤ R.cells) (hs1 : b + N ≤ R.slots) (hdg : decode cc pc = .ok (.newarray .byte, 2)) (kk : ∀ q : Nat, VV X (a + 1) (b + N) (ws ++ [(q, .inl (eB E, N, .inl (b8 (fun _ => 0))))]) lv (pc + 2) (.ref q :: st)) : VV X a b ws lv pc (.int k :: st) := by
  obtain ⟨p, l', e, R', s, m, args, below, meth, c, Q, A, nL, E'⟩ := X
  obtain ⟨hx, hb, hml, hown, hts, hK, hSF, hA, rfl, rfl, rfl, rfl⟩ := C
  intro H locs ls hP hD hS hl
  refine va_newa (atype := .byte) (ty := .byte) (a0 := (N, .inl (b8 (fun _ => 0)))) hx hb (hts _ mArrB) rfl hK hP hD hS hA (fun _ => rfl) hk hN hby hc1 hs1 hdg (fun q cA H1 hK1 hP1 hD1 hS1 => ?_)
  have e1 : s.vm.findClass "[B" = some cA := (hK1.2 5 (cA, .byte) rfl).2
  have e2 : s.vm.findClass "[B" = some (eB E') := (hK.2 0 (eB E', .byte) rfl).2
  have e3 : cA = eB E' := Option.some.inj (e1.symm.trans e2)
  subst e3
  exact kk q H1 locs ls hP1 hD1 hS1 hl
theorem v_newaz {X : VX} {cc : ByteArray} {n : Nat} {own : String} {R : Room} {E : VE} {l : Launch} (C : VC X cc n own R E l) {a b : Nat} {ws : va_W} {lv : List (Nat × Value)} {pc : Nat} {st : List Value} {N : Nat} {k : Int32} (hk : ¬ k < 0) (hN : k.toNatClampNeg = N) (hby : N * componentBytes .boolean ≤ 536870912) (hc1 : a + 1 ≤ R.cells) (hs1 : b + N ≤ R.slots) (hdg : decode cc pc = .ok (.newarray .boolean, 2)) (kk : ∀ q : Nat, VV X (a + 1) (b + N) (ws ++ [(q, .inl (eZ E, N, .inl (bz (fun _ => false))))]) lv (pc + 2) (.ref q :: st)) : VV X a b ws lv pc (.int k :: st) := by
  obtain ⟨p, l', e, R', s, m, args, below, meth, c, Q, A, nL, E'⟩ := X
  obtain ⟨hx, hb, hml, hown, hts, hK, hSF, hA, rfl, rfl, rfl, rfl⟩ := C
  intro H locs ls hP hD hS hl
  refine va_newa (atype := .boolean) (ty := .boolean) (a0 := (N, .inl (bz (fun _ => false)))) hx hb (hts _ mArrZ) rfl hK hP hD hS hA (fun _ => rfl) hk hN hby hc1 hs1 hdg (fun q cA H1 hK1 hP1 hD1 hS1 => ?_)
  have e1 : s.vm.findClass "[Z" = some cA := (hK1.2 5 (cA, .boolean) rfl).2
  have e2 : s.vm.findClass "[Z" = some (eZ E') := (hK.2 3 (eZ E', .boolean) rfl).2
  have e3 : cA = eZ E' := Option.some.inj (e1.symm.trans e2)
  subst e3
  exact kk q H1 locs ls hP1 hD1 hS1 hl
theorem v_newal {X : VX} {cc : ByteArray} {n : Nat} {own : String} {R : Room} {E : VE} {l : Launch} (C : VC X cc n own R E l) {a b : Nat} {ws : va_W} {lv : List (Nat × Value)} {pc : Nat} {st : List Value} {N : Nat} {k : Int32} (hk : ¬ k < 0) (hN : k.toNatClampNeg = N) (hby : N * componentBytes .long ≤ 536870912) (hc1 : a + 1 ≤ R.cells) (hs1 : b + N ≤ R.slots) (hdg : decode cc pc = .ok (.newarray .long, 2)) (kk : ∀ q : Nat, VV X (a + 1) (b + N) (ws ++ [(q, .inl (eJ E, N, .inr (.inl (fun _ => 0))))]) lv (pc + 2) (.ref q :: st)) : VV X a b ws lv pc (.int k :: st) := by
  obtain ⟨p, l', e, R', s, m, args, below, meth, c, Q, A, nL, E'⟩ := X
  obtain ⟨hx, hb, hml, hown, hts, hK, hSF, hA, rfl, rfl, rfl, rfl⟩ := C
  intro H locs ls hP hD hS hl
  refine va_newa (atype := .long) (ty := .long) (a0 := (N, .inr (.inl (fun _ => 0)))) hx hb (hts _ mArrJ) rfl hK hP hD hS hA (fun _ => rfl) hk hN hby hc1 hs1 hdg (fun q cA H1 hK1 hP1 hD1 hS1 => ?_)
  have e1 : s.vm.findClass "[J" = some cA := (hK1.2 5 (cA, .long) rfl).2
  have e2 : s.vm.findClass "[J" = some (eJ E') := (hK.2 2 (eJ E', .long) rfl).2
  have e3 : cA = eJ E' := Option.some.inj (e1.symm.trans e2)
  subst e3
  exact kk q H1 locs ls hP1 hD1 hS1 hl
theorem v_tsIn {X : VX} {cc : ByteArray} {n : Nat} {own : String} {R : Room} {E : VE} {l : Launch} (C : VC X cc n own R E l) {a b : Nat} {ws : va_W} {lv : List (Nat × Value)} {pc : Nat} {st : List Value} {x k : Int32} {dflt lo hi : Int} {offs : Array Int} {len : Nat} {off : Int} {tgt : Nat} (hx0 : x = k) (hdg : decode cc pc = .ok (.tableswitch dflt lo hi offs, len)) (h1 : ¬ k.toInt < lo) (h2 : ¬ hi < k.toInt) (ho : offs[(k.toInt - lo).toNat]? = some off) (ht : (pc : Int) + off = (tgt : Int)) (kk : VV X a b ws lv tgt st) : VV X a b ws lv pc (.int x :: st) := by
  subst hx0
  obtain ⟨p, l', e, R', s, m, args, below, meth, c, Q, A, nL, E'⟩ := X
  obtain ⟨hx, hb, hml, hown, hts, hK, hSF, hA, rfl, rfl, rfl, rfl⟩ := C
  intro H locs ls hP hD hS hl
  exact lv_tableIn hx hb hdg h1 h2 ho ht (kk H locs ls hP hD hS hl)
theorem v_tsOut {X : VX} {cc : ByteArray} {n : Nat} {own : String} {R : Room} {E : VE} {l : Launch} (C : VC X cc n own R E l) {a b : Nat} {ws : va_W} {lv : List (Nat × Value)} {pc : Nat} {st : List Value} {x : Int32} {dflt lo hi : Int} {offs : Array Int} {len : Nat} {tgt : Nat} (hdg : decode cc pc = .ok (.tableswitch dflt lo hi offs, len)) (h1 : x.toInt < lo ∨ hi < x.toInt) (ht : (pc : Int) + dflt = (tgt : Int)) (kk : VV X a b ws lv tgt st) : VV X a b ws lv pc (.int x :: st) := by
  obtain ⟨p, l', e, R', s, m, args, below, meth, c, Q, A, nL, E'⟩ := X
  obtain ⟨hx, hb, hml, hown, hts, hK, hSF, hA, rfl, rfl, rfl, rfl⟩ := C
  intro H locs ls hP hD hS hl
  exact lv_tableOut hx hb hdg h1 ht (kk H locs ls hP hD hS hl)
theorem ts_ne {x k : Int32} (h : ¬ x = k) : ¬ x.toInt = k.toInt := fun e => h (Int32.toInt_inj.mp e)
theorem ts_out3 {x : Int32} (h0 : ¬ x.toInt = (0 : Int32).toInt) (h1 : ¬ x.toInt = (1 : Int32).toInt) (h2 : ¬ x.toInt = (2 : Int32).toInt) : x.toInt < 0 ∨ 2 < x.toInt := by
  simp only [show (0 : Int32).toInt = 0 from rfl, show (1 : Int32).toInt = 1 from rfl, show (2 : Int32).toInt = 2 from rfl] at h0 h1 h2
  omega
theorem ts_out6 {x : Int32} (h0 : ¬ x.toInt = (0 : Int32).toInt) (h1 : ¬ x.toInt = (1 : Int32).toInt) (h2 : ¬ x.toInt = (2 : Int32).toInt) (h3 : ¬ x.toInt = (3 : Int32).toInt) (h4 : ¬ x.toInt = (4 : Int32).toInt) (h5 : ¬ x.toInt = (5 : Int32).toInt) : x.toInt < 0 ∨ 5 < x.toInt := by
  simp only [show (0 : Int32).toInt = 0 from rfl, show (1 : Int32).toInt = 1 from rfl, show (2 : Int32).toInt = 2 from rfl, show (3 : Int32).toInt = 3 from rfl, show (4 : Int32).toInt = 4 from rfl, show (5 : Int32).toInt = 5 from rfl] at h0 h1 h2 h3 h4 h5
  omega
theorem ts_out13 {x : Int32} (h0 : ¬ x.toInt = (0 : Int32).toInt) (h1 : ¬ x.toInt = (1 : Int32).toInt) (h2 : ¬ x.toInt = (2 : Int32).toInt) (h3 : ¬ x.toInt = (3 : Int32).toInt) (h4 : ¬ x.toInt = (4 : Int32).toInt) (h5 : ¬ x.toInt = (5 : Int32).toInt) (h6 : ¬ x.toInt = (6 : Int32).toInt) (h7 : ¬ x.toInt = (7 : Int32).toInt) (h8 : ¬ x.toInt = (8 : Int32).toInt) (h9 : ¬ x.toInt = (9 : Int32).toInt) (h10 : ¬ x.toInt = (10 : Int32).toInt) (h11 : ¬ x.toInt = (11 : Int32).toInt) (h12 : ¬ x.toInt = (12 : Int32).toInt) : x.toInt < 0 ∨ 12 < x.toInt := by
  simp only [show (0 : Int32).toInt = 0 from rfl, show (1 : Int32).toInt = 1 from rfl, show (2 : Int32).toInt = 2 from rfl, show (3 : Int32).toInt = 3 from rfl, show (4 : Int32).toInt = 4 from rfl, show (5 : Int32).toInt = 5 from rfl, show (6 : Int32).toInt = 6 from rfl, show (7 : Int32).toInt = 7 from rfl, show (8 : Int32).toInt = 8 from rfl, show (9 : Int32).toInt = 9 from rfl, show (10 : Int32).toInt = 10 from rfl, show (11 : Int32).toInt = 11 from rfl, show (12 : Int32).toInt = 12 from rfl] at h0 h1 h2 h3 h4 h5 h6 h7 h8 h9 h10 h11 h12
  omega
end
section
theorem mC_J0_charAt_5068e : Cond.code yJ0_charAt_5068e cJ0_charAt_5068e 2 (some .char) ∈ lwG := lwG_of 746 (by decide +kernel) (by decide +kernel)
theorem mC_J0_checkIndex_df160 : Cond.code yJ0_checkIndex_df160 cJ0_checkIndex_df160 2 none ∈ lwG := lwG_of 756 (by decide +kernel) (by decide +kernel)
theorem mC_J0_coder_7d493 : Cond.code yJ0_coder_7d493 cJ0_coder_7d493 1 (some .byte) ∈ lwG := lwG_of 740 (by decide +kernel) (by decide +kernel)
theorem mC_J0_isLatin1_aae02 : Cond.code yJ0_isLatin1_aae02 cJ0_isLatin1_aae02 1 (some .boolean) ∈ lwG := lwG_of 750 (by decide +kernel) (by decide +kernel)
theorem mC_J0_length_8abf5 : Cond.code yJ0_length_8abf5 cJ0_length_8abf5 1 (some .int) ∈ lwG := lwG_of 736 (by decide +kernel) (by decide +kernel)
theorem mC_J1_charAt_3b067 : Cond.code yJ1_charAt_3b067 cJ1_charAt_3b067 2 (some .char) ∈ lwG := lwG_of 753 (by decide +kernel) (by decide +kernel)
theorem mC_J3_checkIndex_8e157 : Cond.code yJ3_checkIndex_8e157 cJ3_checkIndex_8e157 3 (some .int) ∈ lwG := lwG_of 761 (by decide +kernel) (by decide +kernel)
theorem mI_J0 : Cond.initialized RJ0 ∈ lwG := lwG_of 82 (by decide +kernel) (by decide +kernel)
theorem mI_J1 : Cond.initialized RJ1 ∈ lwG := lwG_of 83 (by decide +kernel) (by decide +kernel)
theorem mI_J3 : Cond.initialized RJ3 ∈ lwG := lwG_of 84 (by decide +kernel) (by decide +kernel)
theorem mM_J0_1059 : Cond.methodLink RJ0 1059 yJ3_checkIndex_8e157 ∈ lwG := lwG_of 759 (by decide +kernel) (by decide +kernel)
theorem mM_J0_335 : Cond.methodLink RJ0 335 yJ0_coder_7d493 ∈ lwG := lwG_of 737 (by decide +kernel) (by decide +kernel)
theorem mM_J0_492 : Cond.methodLink RJ0 492 yJ0_isLatin1_aae02 ∈ lwG := lwG_of 747 (by decide +kernel) (by decide +kernel)
theorem mM_J0_495 : Cond.methodLink RJ0 495 yJ1_charAt_3b067 ∈ lwG := lwG_of 751 (by decide +kernel) (by decide +kernel)
theorem mM_J1_9 : Cond.methodLink RJ1 9 yJ0_checkIndex_df160 ∈ lwG := lwG_of 754 (by decide +kernel) (by decide +kernel)
theorem mN_J0_charAt_5068e : Cond.instanceMethod yJ0_charAt_5068e ∈ lwG := lwG_of 744 (by decide +kernel) (by decide +kernel)
theorem mN_J0_coder_7d493 : Cond.instanceMethod yJ0_coder_7d493 ∈ lwG := lwG_of 738 (by decide +kernel) (by decide +kernel)
theorem mN_J0_isLatin1_aae02 : Cond.instanceMethod yJ0_isLatin1_aae02 ∈ lwG := lwG_of 748 (by decide +kernel) (by decide +kernel)
theorem mN_J0_length_8abf5 : Cond.instanceMethod yJ0_length_8abf5 ∈ lwG := lwG_of 734 (by decide +kernel) (by decide +kernel)
theorem mS_J0_charAt_5068e : Cond.selects yJ0_charAt_5068e.cls yJ0_charAt_5068e yJ0_charAt_5068e ∈ lwG := lwG_of 745 (by decide +kernel) (by decide +kernel)
theorem mS_J0_coder_7d493 : Cond.selects yJ0_coder_7d493.cls yJ0_coder_7d493 yJ0_coder_7d493 ∈ lwG := lwG_of 739 (by decide +kernel) (by decide +kernel)
theorem mS_J0_isLatin1_aae02 : Cond.selects yJ0_isLatin1_aae02.cls yJ0_isLatin1_aae02 yJ0_isLatin1_aae02 ∈ lwG := lwG_of 749 (by decide +kernel) (by decide +kernel)
theorem mS_J0_length_8abf5 : Cond.selects yJ0_length_8abf5.cls yJ0_length_8abf5 yJ0_length_8abf5 ∈ lwG := lwG_of 735 (by decide +kernel) (by decide +kernel)
theorem mT_J0_checkIndex_df160 : Cond.static yJ0_checkIndex_df160 ∈ lwG := lwG_of 755 (by decide +kernel) (by decide +kernel)
theorem mT_J1_charAt_3b067 : Cond.static yJ1_charAt_3b067 ∈ lwG := lwG_of 752 (by decide +kernel) (by decide +kernel)
theorem mT_J3_checkIndex_8e157 : Cond.static yJ3_checkIndex_8e157 ∈ lwG := lwG_of 760 (by decide +kernel) (by decide +kernel)
theorem mFJ0_38 : Cond.fieldLink RJ0 38 "java/lang/String" "COMPACT_STRINGS" "Z" ∈ lwG := lwG_of 741 (by decide +kernel) (by decide +kernel)
theorem mFJ0_9 : Cond.fieldLink RJ0 9 "java/lang/String" "value" "[B" ∈ lwG := lwG_of 1942 (by decide +kernel) (by decide +kernel)
theorem mFJ0_15 : Cond.fieldLink RJ0 15 "java/lang/String" "coder" "B" ∈ lwG := lwG_of 1943 (by decide +kernel) (by decide +kernel)
theorem mFJ0_1053 : Cond.fieldLink RJ0 1053 "jdk/internal/util/Preconditions" "SIOOBE_FORMATTER" "Ljava/util/function/BiFunction;" ∈ lwG := lwG_of 757 (by decide +kernel) (by decide +kernel)
theorem hd_J0_length_8abf5 : yJ0_length_8abf5.cls ≠ "java/lang/invoke/MethodHandle" ∧ yJ0_length_8abf5.cls ≠ "java/lang/invoke/VarHandle" ∧ (parseMethodDescriptor yJ0_length_8abf5.desc).map (fun d => d.parameters.length) = some 0 := by decide +kernel
theorem hd_J0_coder_7d493 : yJ0_coder_7d493.cls ≠ "java/lang/invoke/MethodHandle" ∧ yJ0_coder_7d493.cls ≠ "java/lang/invoke/VarHandle" ∧ (parseMethodDescriptor yJ0_coder_7d493.desc).map (fun d => d.parameters.length) = some 0 := by decide +kernel
theorem hd_J0_isLatin1_aae02 : yJ0_isLatin1_aae02.cls ≠ "java/lang/invoke/MethodHandle" ∧ yJ0_isLatin1_aae02.cls ≠ "java/lang/invoke/VarHandle" ∧ (parseMethodDescriptor yJ0_isLatin1_aae02.desc).map (fun d => d.parameters.length) = some 0 := by decide +kernel
theorem hd_J0_charAt_5068e : yJ0_charAt_5068e.cls ≠ "java/lang/invoke/MethodHandle" ∧ yJ0_charAt_5068e.cls ≠ "java/lang/invoke/VarHandle" ∧ (parseMethodDescriptor yJ0_charAt_5068e.desc).map (fun d => d.parameters.length) = some 1 := by decide +kernel
theorem hd_J1_charAt_3b067 : yJ1_charAt_3b067.cls ≠ "java/lang/invoke/MethodHandle" ∧ yJ1_charAt_3b067.cls ≠ "java/lang/invoke/VarHandle" ∧ (parseMethodDescriptor yJ1_charAt_3b067.desc).map (fun d => d.parameters.length) = some 2 := by decide +kernel
theorem hd_J0_checkIndex_df160 : yJ0_checkIndex_df160.cls ≠ "java/lang/invoke/MethodHandle" ∧ yJ0_checkIndex_df160.cls ≠ "java/lang/invoke/VarHandle" ∧ (parseMethodDescriptor yJ0_checkIndex_df160.desc).map (fun d => d.parameters.length) = some 2 := by decide +kernel
theorem hd_J3_checkIndex_8e157 : yJ3_checkIndex_8e157.cls ≠ "java/lang/invoke/MethodHandle" ∧ yJ3_checkIndex_8e157.cls ≠ "java/lang/invoke/VarHandle" ∧ (parseMethodDescriptor yJ3_checkIndex_8e157.desc).map (fun d => d.parameters.length) = some 3 := by decide +kernel
theorem dJ0_length_8abf5_0 : decode cJ0_length_8abf5 0 = .ok (.aload_n 0, 1) := by decide +kernel
theorem dJ0_length_8abf5_1 : decode cJ0_length_8abf5 1 = .ok (.getfield 9, 3) := by decide +kernel
theorem dJ0_length_8abf5_4 : decode cJ0_length_8abf5 4 = .ok (.arraylength, 1) := by decide +kernel
theorem dJ0_length_8abf5_5 : decode cJ0_length_8abf5 5 = .ok (.aload_n 0, 1) := by decide +kernel
theorem dJ0_length_8abf5_6 : decode cJ0_length_8abf5 6 = .ok (.invokevirtual 335, 3) := by decide +kernel
theorem dJ0_length_8abf5_9 : decode cJ0_length_8abf5 9 = .ok (.ishr, 1) := by decide +kernel
theorem dJ0_length_8abf5_10 : decode cJ0_length_8abf5 10 = .ok (.ireturn, 1) := by decide +kernel
theorem dJ0_charAt_5068e_0 : decode cJ0_charAt_5068e 0 = .ok (.aload_n 0, 1) := by decide +kernel
theorem dJ0_charAt_5068e_1 : decode cJ0_charAt_5068e 1 = .ok (.invokevirtual 492, 3) := by decide +kernel
theorem dJ0_charAt_5068e_4 : decode cJ0_charAt_5068e 4 = .ok (.ifCond .eq 12, 3) := by decide +kernel
theorem dJ0_charAt_5068e_7 : decode cJ0_charAt_5068e 7 = .ok (.aload_n 0, 1) := by decide +kernel
theorem dJ0_charAt_5068e_8 : decode cJ0_charAt_5068e 8 = .ok (.getfield 9, 3) := by decide +kernel
theorem dJ0_charAt_5068e_11 : decode cJ0_charAt_5068e 11 = .ok (.iload_n 1, 1) := by decide +kernel
theorem dJ0_charAt_5068e_12 : decode cJ0_charAt_5068e 12 = .ok (.invokestatic 495, 3) := by decide +kernel
theorem dJ0_charAt_5068e_15 : decode cJ0_charAt_5068e 15 = .ok (.ireturn, 1) := by decide +kernel
theorem dJ0_charAt_5068e_16 : decode cJ0_charAt_5068e 16 = .ok (.aload_n 0, 1) := by decide +kernel
theorem dJ0_charAt_5068e_17 : decode cJ0_charAt_5068e 17 = .ok (.getfield 9, 3) := by decide +kernel
theorem dJ0_charAt_5068e_20 : decode cJ0_charAt_5068e 20 = .ok (.iload_n 1, 1) := by decide +kernel
theorem dJ0_charAt_5068e_21 : decode cJ0_charAt_5068e 21 = .ok (.invokestatic 498, 3) := by decide +kernel
theorem dJ0_charAt_5068e_24 : decode cJ0_charAt_5068e 24 = .ok (.ireturn, 1) := by decide +kernel
theorem dJ0_coder_7d493_0 : decode cJ0_coder_7d493 0 = .ok (.getstatic 38, 3) := by decide +kernel
theorem dJ0_coder_7d493_3 : decode cJ0_coder_7d493 3 = .ok (.ifCond .eq 10, 3) := by decide +kernel
theorem dJ0_coder_7d493_6 : decode cJ0_coder_7d493 6 = .ok (.aload_n 0, 1) := by decide +kernel
theorem dJ0_coder_7d493_7 : decode cJ0_coder_7d493 7 = .ok (.getfield 15, 3) := by decide +kernel
theorem dJ0_coder_7d493_10 : decode cJ0_coder_7d493 10 = .ok (.goto 4, 3) := by decide +kernel
theorem dJ0_coder_7d493_13 : decode cJ0_coder_7d493 13 = .ok (.iconst 1, 1) := by decide +kernel
theorem dJ0_coder_7d493_14 : decode cJ0_coder_7d493 14 = .ok (.ireturn, 1) := by decide +kernel
theorem dJ0_isLatin1_aae02_0 : decode cJ0_isLatin1_aae02 0 = .ok (.getstatic 38, 3) := by decide +kernel
theorem dJ0_isLatin1_aae02_3 : decode cJ0_isLatin1_aae02 3 = .ok (.ifCond .eq 14, 3) := by decide +kernel
theorem dJ0_isLatin1_aae02_6 : decode cJ0_isLatin1_aae02 6 = .ok (.aload_n 0, 1) := by decide +kernel
theorem dJ0_isLatin1_aae02_7 : decode cJ0_isLatin1_aae02 7 = .ok (.getfield 15, 3) := by decide +kernel
theorem dJ0_isLatin1_aae02_10 : decode cJ0_isLatin1_aae02 10 = .ok (.ifCond .ne 7, 3) := by decide +kernel
theorem dJ0_isLatin1_aae02_13 : decode cJ0_isLatin1_aae02 13 = .ok (.iconst 1, 1) := by decide +kernel
theorem dJ0_isLatin1_aae02_14 : decode cJ0_isLatin1_aae02 14 = .ok (.goto 4, 3) := by decide +kernel
theorem dJ0_isLatin1_aae02_17 : decode cJ0_isLatin1_aae02 17 = .ok (.iconst 0, 1) := by decide +kernel
theorem dJ0_isLatin1_aae02_18 : decode cJ0_isLatin1_aae02 18 = .ok (.ireturn, 1) := by decide +kernel
theorem dJ0_checkIndex_df160_0 : decode cJ0_checkIndex_df160 0 = .ok (.iload_n 0, 1) := by decide +kernel
theorem dJ0_checkIndex_df160_1 : decode cJ0_checkIndex_df160 1 = .ok (.iload_n 1, 1) := by decide +kernel
theorem dJ0_checkIndex_df160_2 : decode cJ0_checkIndex_df160 2 = .ok (.getstatic 1053, 3) := by decide +kernel
theorem dJ0_checkIndex_df160_5 : decode cJ0_checkIndex_df160 5 = .ok (.invokestatic 1059, 3) := by decide +kernel
theorem dJ0_checkIndex_df160_8 : decode cJ0_checkIndex_df160 8 = .ok (.pop, 1) := by decide +kernel
theorem dJ0_checkIndex_df160_9 : decode cJ0_checkIndex_df160 9 = .ok (.return_, 1) := by decide +kernel
theorem dJ1_charAt_3b067_0 : decode cJ1_charAt_3b067 0 = .ok (.iload_n 1, 1) := by decide +kernel
theorem dJ1_charAt_3b067_1 : decode cJ1_charAt_3b067 1 = .ok (.aload_n 0, 1) := by decide +kernel
theorem dJ1_charAt_3b067_2 : decode cJ1_charAt_3b067 2 = .ok (.arraylength, 1) := by decide +kernel
theorem dJ1_charAt_3b067_3 : decode cJ1_charAt_3b067 3 = .ok (.invokestatic 9, 3) := by decide +kernel
theorem dJ1_charAt_3b067_6 : decode cJ1_charAt_3b067 6 = .ok (.aload_n 0, 1) := by decide +kernel
theorem dJ1_charAt_3b067_7 : decode cJ1_charAt_3b067 7 = .ok (.iload_n 1, 1) := by decide +kernel
theorem dJ1_charAt_3b067_8 : decode cJ1_charAt_3b067 8 = .ok (.baload, 1) := by decide +kernel
theorem dJ1_charAt_3b067_9 : decode cJ1_charAt_3b067 9 = .ok (.sipush 255, 3) := by decide +kernel
theorem dJ1_charAt_3b067_12 : decode cJ1_charAt_3b067 12 = .ok (.iand, 1) := by decide +kernel
theorem dJ1_charAt_3b067_13 : decode cJ1_charAt_3b067 13 = .ok (.i2c, 1) := by decide +kernel
theorem dJ1_charAt_3b067_14 : decode cJ1_charAt_3b067 14 = .ok (.ireturn, 1) := by decide +kernel
theorem dJ3_checkIndex_8e157_0 : decode cJ3_checkIndex_8e157 0 = .ok (.iload_n 0, 1) := by decide +kernel
theorem dJ3_checkIndex_8e157_1 : decode cJ3_checkIndex_8e157 1 = .ok (.ifCond .lt 8, 3) := by decide +kernel
theorem dJ3_checkIndex_8e157_4 : decode cJ3_checkIndex_8e157 4 = .ok (.iload_n 0, 1) := by decide +kernel
theorem dJ3_checkIndex_8e157_5 : decode cJ3_checkIndex_8e157 5 = .ok (.iload_n 1, 1) := by decide +kernel
theorem dJ3_checkIndex_8e157_6 : decode cJ3_checkIndex_8e157 6 = .ok (.if_icmp .lt 10, 3) := by decide +kernel
theorem dJ3_checkIndex_8e157_9 : decode cJ3_checkIndex_8e157 9 = .ok (.aload_n 2, 1) := by decide +kernel
theorem dJ3_checkIndex_8e157_10 : decode cJ3_checkIndex_8e157 10 = .ok (.iload_n 0, 1) := by decide +kernel
theorem dJ3_checkIndex_8e157_11 : decode cJ3_checkIndex_8e157 11 = .ok (.iload_n 1, 1) := by decide +kernel
theorem dJ3_checkIndex_8e157_12 : decode cJ3_checkIndex_8e157 12 = .ok (.invokestatic 95, 3) := by decide +kernel
theorem dJ3_checkIndex_8e157_15 : decode cJ3_checkIndex_8e157 15 = .ok (.athrow, 1) := by decide +kernel
theorem dJ3_checkIndex_8e157_16 : decode cJ3_checkIndex_8e157 16 = .ok (.iload_n 0, 1) := by decide +kernel
theorem dJ3_checkIndex_8e157_17 : decode cJ3_checkIndex_8e157 17 = .ok (.ireturn, 1) := by decide +kernel
theorem v_ldcS {X : VX} {cc : ByteArray} {n : Nat} {own : String} {R : Room} {E : VE} {l : Launch} (C : VC X cc n own R E l) {a b : Nat} {ws : va_W} {lv : List (Nat × Value)} {pc : Nat} {st : List Value} {k : Nat} {tx : String} (i : Nat) (hm : (own, k, tx, i) ∈ s_refs) (hdg : decode cc pc = .ok (.ldc k, 2)) (kk : VV X a b ws lv (pc + 2) (.ref (E.2.2.1 i) :: st)) : VV X a b ws lv pc st := by
  obtain ⟨p, l', e, R', s, m, args, below, meth, c, Q, A, nL, E'⟩ := X
  obtain ⟨hx, hb, hml, hown, hts, hK, hSF, hA, rfl, rfl, rfl, rfl⟩ := C
  intro H locs ls hP hD hS hl
  exact va_ldcS hx hb hown (hSF.2.2.2 _ hm) hdg (kk H locs ls hP hD hS hl)
theorem v_sCS {X : VX} {cc : ByteArray} {n : Nat} {own : String} {R : Room} {E : VE} {l : Launch} (C : VC X cc n own R E l) {a b : Nat} {ws : va_W} {lv : List (Nat × Value)} {pc : Nat} {st : List Value} (ho : own = RJ0) (hdg : decode cc pc = .ok (.getstatic 38, 3)) (kk : VV X a b ws lv (pc + 3) (.int 1 :: st)) : VV X a b ws lv pc st := by
  subst ho
  obtain ⟨p, l', e, R', s, m, args, below, meth, c, Q, A, nL, E'⟩ := X
  obtain ⟨hx, hb, hml, hown, hts, hK, hSF, hA, rfl, rfl, rfl, rfl⟩ := C
  intro H locs ls hP hD hS hl
  exact va_gets hx hb hSF.2.1 hS hown (hts _ mFJ0_38) (fun _ h9 => h9) hdg (kk H locs ls hP hD hS hl)
theorem v_scoder {X : VX} {cc : ByteArray} {n : Nat} {own : String} {R : Room} {E : VE} {l : Launch} (C : VC X cc n own R E l) {a b : Nat} {ws : va_W} {lv : List (Nat × Value)} {pc : Nat} {st : List Value} {k : Nat} (hk : k < 16) (ho : own = RJ0) (hdg : decode cc pc = .ok (.getfield 15, 3)) (kk : VV X a b ws lv (pc + 3) (.int 0 :: st)) : VV X a b ws lv pc (.ref (E.2.2.1 k) :: st) := by
  subst ho
  obtain ⟨p, l', e, R', s, m, args, below, meth, c, Q, A, nL, E'⟩ := X
  obtain ⟨hx, hb, hml, hown, hts, hK, hSF, hA, rfl, rfl, rfl, rfl⟩ := C
  intro H locs ls hP hD hS hl
  exact vk_getf hx hb (hSF.1.1 k hk).2.1 hS hown (hts _ mFJ0_15) (fun _ h9 => h9) hdg (kk H locs ls hP hD hS hl)
theorem v_svalue {X : VX} {cc : ByteArray} {n : Nat} {own : String} {R : Room} {E : VE} {l : Launch} (C : VC X cc n own R E l) {a b : Nat} {ws : va_W} {lv : List (Nat × Value)} {pc : Nat} {st : List Value} {k : Nat} (hk : k < 16) (ho : own = RJ0) (hdg : decode cc pc = .ok (.getfield 9, 3)) (kk : VV X a b ws lv (pc + 3) (.ref (E.2.2.2 k) :: st)) : VV X a b ws lv pc (.ref (E.2.2.1 k) :: st) := by
  subst ho
  obtain ⟨p, l', e, R', s, m, args, below, meth, c, Q, A, nL, E'⟩ := X
  obtain ⟨hx, hb, hml, hown, hts, hK, hSF, hA, rfl, rfl, rfl, rfl⟩ := C
  intro H locs ls hP hD hS hl
  exact vk_getf hx hb (hSF.1.1 k hk).2.2.1 hS hown (hts _ mFJ0_9) (fun _ h9 => h9) hdg (kk H locs ls hP hD hS hl)
theorem v_stlen {X : VX} {cc : ByteArray} {n : Nat} {own : String} {R : Room} {E : VE} {l : Launch} (C : VC X cc n own R E l) {a b : Nat} {ws : va_W} {lv : List (Nat × Value)} {pc : Nat} {st : List Value} {k : Nat} (hk : k < 16) (hdg : decode cc pc = .ok (.arraylength, 1)) (kk : VV X a b ws lv (pc + 1) (.int (Int32.ofNat (s_len.getD k 0)) :: st)) : VV X a b ws lv pc (.ref (E.2.2.2 k) :: st) := by
  obtain ⟨p, l', e, R', s, m, args, below, meth, c, Q, A, nL, E'⟩ := X
  obtain ⟨hx, hb, hml, hown, hts, hK, hSF, hA, rfl, rfl, rfl, rfl⟩ := C
  intro H locs ls hP hD hS hl
  exact va_tlen hx hb (hSF.1.1 k hk).2.2.2 hS rfl hdg (kk H locs ls hP hD hS hl)
theorem v_stb {X : VX} {cc : ByteArray} {n : Nat} {own : String} {R : Room} {E : VE} {l : Launch} (C : VC X cc n own R E l) {a b : Nat} {ws : va_W} {lv : List (Nat × Value)} {pc : Nat} {st : List Value} {k : Nat} (hk : k < 16) {i : Int32} (hi : vp_in i (s_len.getD k 0)) (hdg : decode cc pc = .ok (.baload, 1)) (kk : VV X a b ws lv (pc + 1) (.int ((s_byt.getD k []).getD i.toNatClampNeg 0) :: st)) : VV X a b ws lv pc (.int i :: .ref (E.2.2.2 k) :: st) := by
  obtain ⟨p, l', e, R', s, m, args, below, meth, c, Q, A, nL, E'⟩ := X
  obtain ⟨hx, hb, hml, hown, hts, hK, hSF, hA, rfl, rfl, rfl, rfl⟩ := C
  intro H locs ls hP hD hS hl
  exact va_tb hx hb (hSF.1.1 k hk).2.2.2 hS hi rfl hdg (kk H locs ls hP hD hS hl)
theorem v_sform {X : VX} {cc : ByteArray} {n : Nat} {own : String} {R : Room} {E : VE} {l : Launch} (C : VC X cc n own R E l) {a b : Nat} {ws : va_W} {lv : List (Nat × Value)} {pc : Nat} {st : List Value} (ho : own = RJ0) (hdg : decode cc pc = .ok (.getstatic 1053, 3)) (kk : ∀ v : Value, (v = .null ∨ ∃ t : Nat, v = .ref t) → VV X a b ws lv (pc + 3) (v :: st)) : VV X a b ws lv pc st := by
  subst ho
  obtain ⟨p, l', e, R', s, m, args, below, meth, c, Q, A, nL, E'⟩ := X
  obtain ⟨hx, hb, hml, hown, hts, hK, hSF, hA, rfl, rfl, rfl, rfl⟩ := C
  intro H locs ls hP hD hS hl
  rcases hSF.2.2.1 with h | ⟨t, h⟩
  · exact va_gets hx hb h hS hown (hts _ mFJ0_1053) (fun _ h9 => h9) hdg (kk .null (Or.inl rfl) H locs ls hP hD hS hl)
  · exact va_gets hx hb h hS hown (hts _ mFJ0_1053) (fun _ h9 => h9) hdg (kk (.ref t) (Or.inr ⟨t, rfl⟩) H locs ls hP hD hS hl)
theorem v_callTi {X : VX} {cc : ByteArray} {n : Nat} {own : String} {R : Room} {E : VE} {l : Launch} (C : VC X cc n own R E l) {a b : Nat} {ws : va_W} {lv : List (Nat × Value)} {pc : Nat} {st : List Value} {y : MethodName} {yc : ByteArray} {yn : Nat} {yr : FieldType} {d : Nat} {As : List Value} {post : Int32 → Unit → Prop} {idx : Nat} {stk : List Value} (k : Nat) (hk : k < 16) (hM : MI l y yc yn yr d 0 0 E (.ref (E.2.2.1 k) :: As) [] (fun (_ : Unit) => ([] : va_W)) post) (hcls : y.cls = "java/lang/String") (hlk : Cond.methodLink own idx y ∈ lwG) (hini : Cond.initialized y.cls ∈ lwG) (hco : Cond.code y yc yn (some yr) ∈ lwG) (hin : Cond.instanceMethod y ∈ lwG) (hse : Cond.selects y.cls y y ∈ lwG) (hd : y.cls ≠ "java/lang/invoke/MethodHandle" ∧ y.cls ≠ "java/lang/invoke/VarHandle" ∧ (parseMethodDescriptor y.desc).map (fun d => d.parameters.length) = some As.length) (hR : d + 1 ≤ R.frames ∧ 8 + (yn + 11) + 40 * d ≤ R.locals) (hf : a + 0 ≤ R.cells ∧ b + 0 ≤ R.slots) (hstk : stk = As.reverse ++ .ref (E.2.2.1 k) :: st) (hW8 : (st.map fun v => v.category).sum ≤ 8) (hdg : decode cc pc = .ok (.invokevirtual idx, 3)) (kk : ∀ (r : Int32) (u : Unit), post r u → VV X a b ws lv (pc + 3) (.int r :: st)) : VV X a b ws lv pc stk := by
  obtain ⟨p, l', e, R', s, m, args, below, meth, c, Q, A, nL, E'⟩ := X
  obtain ⟨hx, hb, hml, hown, hts, hK, hSF, hA, rfl, rfl, rfl, rfl⟩ := C
  intro H locs ls hP hD hS hl
  subst hstk
  have hG : GoodIn lwG (Cond.code y yc yn (some yr) :: lwG) := fun w h => by
    rcases List.mem_cons.mp h with h | h
    · subst h; exact ⟨hco, good_of_word (lwG_good hco)⟩
    · exact ⟨h, good_of_word (lwG_good h)⟩
  have hFc : ∀ q, va_A [] H.size q → A q := fun q h => by
    rcases h with ⟨k, e, h⟩ | h
    · simp at h
    · exact hA q (Nat.le_trans hS.1 h)
  have hSc : SF E' (va_A [] H.size) s H := (hSF.kept (fun a h1 h2 => hS.2.1 a h1 h2)).narrow hFc
  refine va_calli (va_runV (As := As) (rest := st) (Ts := lwG) (C := y.cls) ⟨hx, hb, hml, hown, hts⟩ (hM H.size) ⟨callB_of (ret := (some yr)) As.length hts hG rfl rfl rfl (hts _ hini) (hts _ hlk) hd hR, hts _ hin, hts _ hse⟩ ⟨mPre_blind, by rw [hcls]; exact vk_recv hSF.1 hk hS, fun U hU hW => ⟨rfl, by rw [hU], fun k q h => by simp at h, ⟨va_K.moved hW.alike hK, by rw [hU]; exact hSc.warm hW⟩, ⟨fun i j p q h => by simp at h, fun k q h => by simp at h⟩⟩⟩ rfl rfl (hl.1) rfl (lv_room hW8) hdg hf) hS (fun q _ h => hFc q h) hFc (fun r u t H1 locs ht hvm hw hB hz1 hk1 hS => ?_)
  have hP2 : va_P E'.1 vwCl ws H1 := hP.kept (fun k q hq => by
    have hlt := (hP k q hq).lt
    exact hk1 q.1 hlt (fun h => by
      rcases h with ⟨k, e, h⟩ | h
      · simp at h
      · omega))
  exact kk r u hw H1 locs ls hP2 hD hS hl
theorem kS_coder {l : Launch} {E : VE} (k : Nat) (hk : k < 16) : MI l yJ0_coder_7d493 cJ0_coder_7d493 1 .byte 0 0 0 E [.ref (E.2.2.1 k)] [] (fun (_ : Unit) => ([] : va_W)) (fun r _ => r = 0) := by
  refine MI.of (own := RJ0) (by decide) rfl (Nat.le_of_ble_eq_true rfl) ?_
  intro X C hini hret
  show VV X 0 0 [] [(0, .ref (E.2.2.1 k))] 0 []
  refine v_sCS C rfl dJ0_coder_7d493_0 ?_
  refine v_if_eq (tgt := 13) C dJ0_coder_7d493_3 (by decide) (fun hc => absurd hc (by decide)) (fun hc => ?_)
  refine v_aload_n C dJ0_coder_7d493_6 0 rfl ?_
  refine v_scoder C hk rfl dJ0_coder_7d493_7 ?_
  refine v_goto (tgt := 14) C dJ0_coder_7d493_10 (by decide) ?_
  exact hret _ _ _ _ 0 () dJ0_coder_7d493_14 rfl rfl (Nat.le_of_ble_eq_true rfl) (Nat.le_of_ble_eq_true rfl)
theorem kS_isLatin1 {l : Launch} {E : VE} (k : Nat) (hk : k < 16) : MI l yJ0_isLatin1_aae02 cJ0_isLatin1_aae02 1 .boolean 0 0 0 E [.ref (E.2.2.1 k)] [] (fun (_ : Unit) => ([] : va_W)) (fun r _ => r = 1) := by
  refine MI.of (own := RJ0) (by decide) rfl (Nat.le_of_ble_eq_true rfl) ?_
  intro X C hini hret
  show VV X 0 0 [] [(0, .ref (E.2.2.1 k))] 0 []
  refine v_sCS C rfl dJ0_isLatin1_aae02_0 ?_
  refine v_if_eq (tgt := 17) C dJ0_isLatin1_aae02_3 (by decide) (fun hc => absurd hc (by decide)) (fun hc => ?_)
  refine v_aload_n C dJ0_isLatin1_aae02_6 0 rfl ?_
  refine v_scoder C hk rfl dJ0_isLatin1_aae02_7 ?_
  refine v_if_ne (tgt := 17) C dJ0_isLatin1_aae02_10 (by decide) (fun hc => absurd rfl hc) (fun hc => ?_)
  refine v_iconst (v := 1) C dJ0_isLatin1_aae02_13 (by decide) ?_
  refine v_goto (tgt := 18) C dJ0_isLatin1_aae02_14 (by decide) ?_
  exact hret _ _ _ _ 1 () dJ0_isLatin1_aae02_18 rfl rfl (Nat.le_of_ble_eq_true rfl) (Nat.le_of_ble_eq_true rfl)
theorem kS_length {l : Launch} {E : VE} (k : Nat) (hk : k < 16) : MI l yJ0_length_8abf5 cJ0_length_8abf5 1 .int 1 0 0 E [.ref (E.2.2.1 k)] [] (fun (_ : Unit) => ([] : va_W)) (fun r _ => r = Int32.ofNat (s_len.getD k 0)) := by
  refine MI.of (own := RJ0) (by decide) rfl (Nat.le_of_ble_eq_true rfl) ?_
  intro X C hini hret
  show VV X 0 0 [] [(0, .ref (E.2.2.1 k))] 0 []
  refine v_aload_n C dJ0_length_8abf5_0 0 rfl ?_
  refine v_svalue C hk rfl dJ0_length_8abf5_1 ?_
  refine v_stlen C hk dJ0_length_8abf5_4 ?_
  refine v_aload_n C dJ0_length_8abf5_5 0 rfl ?_
  refine v_callTi (st := [.int (Int32.ofNat (s_len.getD k 0))]) C k hk (kS_coder k hk) rfl mM_J0_335 mI_J0 mC_J0_coder_7d493 mN_J0_coder_7d493 mS_J0_coder_7d493 hd_J0_coder_7d493 ⟨Nat.le_of_ble_eq_true rfl, Nat.le_of_ble_eq_true rfl⟩ ⟨Nat.le_of_ble_eq_true rfl, Nat.le_of_ble_eq_true rfl⟩ rfl (Nat.le_of_ble_eq_true rfl) dJ0_length_8abf5_6 (fun r u hw => ?_)
  subst hw
  refine v_ishr C dJ0_length_8abf5_9 ?_
  exact hret _ _ _ _ _ () dJ0_length_8abf5_10 rfl (by
    have h : ∀ k, k < 16 → Int32.ofNat (s_len.getD k 0) >>> ((0 : Int32) &&& 31) = Int32.ofNat (s_len.getD k 0) := by decide +kernel
    exact h k hk) (Nat.le_of_ble_eq_true rfl) (Nat.le_of_ble_eq_true rfl)
theorem kS_check3 {l : Launch} {E : VE} (i n : Int32) (v : Value) (hv : v = .null ∨ ∃ t : Nat, v = .ref t) (h1 : ¬ i < 0) (h2 : i < n) : MI l yJ3_checkIndex_8e157 cJ3_checkIndex_8e157 3 .int 0 0 0 E [.int i, .int n, v] [] (fun (_ : Unit) => ([] : va_W)) (fun _ _ => True) := by
  have hc1 : v.category = 1 := by rcases hv with rfl | ⟨t, rfl⟩ <;> rfl
  refine MI.of (own := RJ3) (by decide) rfl (by rcases hv with rfl | ⟨t, rfl⟩ <;> exact Nat.le_of_ble_eq_true rfl) ?_
  intro X C hini hret
  have e : lv_args 0 [.int i, .int n, v] = [(0, .int i), (1, .int n), (2, v)] := by rcases hv with rfl | ⟨t, rfl⟩ <;> rfl
  rw [e]
  refine v_iload_n C dJ3_checkIndex_8e157_0 0 rfl ?_
  refine v_if_lt (tgt := 9) C dJ3_checkIndex_8e157_1 (by decide) (fun hc => absurd hc h1) (fun hc => ?_)
  refine v_iload_n C dJ3_checkIndex_8e157_4 0 rfl ?_
  refine v_iload_n C dJ3_checkIndex_8e157_5 1 rfl ?_
  refine v_icmp_lt (tgt := 16) C dJ3_checkIndex_8e157_6 (by decide) (fun hc => ?_) (fun hc => absurd h2 hc)
  refine v_iload_n C dJ3_checkIndex_8e157_16 0 rfl ?_
  exact hret _ _ _ _ i () dJ3_checkIndex_8e157_17 rfl trivial (Nat.le_of_ble_eq_true rfl) (Nat.le_of_ble_eq_true rfl)
theorem kS_check2 {l : Launch} {E : VE} (i n : Int32) (h1 : ¬ i < 0) (h2 : i < n) : MV l yJ0_checkIndex_df160 cJ0_checkIndex_df160 2 1 0 0 E [.int i, .int n] [] (fun (_ : Unit) => ([] : va_W)) (fun _ => True) := by
  refine MV.of (own := RJ0) (by decide) rfl (Nat.le_of_ble_eq_true rfl) ?_
  intro X C hini hret
  show VV X 0 0 [] [(0, .int i), (1, .int n)] 0 []
  refine v_iload_n C dJ0_checkIndex_df160_0 0 rfl ?_
  refine v_iload_n C dJ0_checkIndex_df160_1 1 rfl ?_
  refine v_sform C rfl dJ0_checkIndex_df160_2 (fun v hv => ?_)
  refine v_callSPi (st := []) C (kS_check3 i n v hv h1 h2) mM_J0_1059 mI_J3 mC_J3_checkIndex_8e157 mT_J3_checkIndex_8e157 hd_J3_checkIndex_8e157 ⟨Nat.le_of_ble_eq_true rfl, Nat.le_of_ble_eq_true rfl⟩ ⟨Nat.le_of_ble_eq_true rfl, Nat.le_of_ble_eq_true rfl⟩ rfl (Nat.le_of_ble_eq_true rfl) dJ0_checkIndex_df160_5 (fun r u _ => ?_)
  refine v_pop C dJ0_checkIndex_df160_8 rfl ?_
  exact hret _ _ _ _ () dJ0_checkIndex_df160_9 trivial (Nat.le_of_ble_eq_true rfl) (Nat.le_of_ble_eq_true rfl)
theorem s_ix {k : Nat} (hk : k < 16) {i : Int32} (hi : vp_in i (s_len.getD k 0)) : ¬ i < 0 ∧ i < Int32.ofNat (s_len.getD k 0) ∧ i.toNatClampNeg < s_len.getD k 0 := by
  have hb : s_len.getD k 0 < 7 := by
    have h : ∀ k, k < 16 → s_len.getD k 0 < 7 := by decide +kernel
    exact h k hk
  have h1 : ¬ i < 0 := fun h => hi (Or.inl h)
  have h2 : i.toNatClampNeg < s_len.getD k 0 := Nat.not_le.mp fun h => hi (Or.inr h)
  refine ⟨h1, ?_, h2⟩
  rw [Int32.lt_iff_toInt_lt] at h1 ⊢
  have e1 : (Int32.ofNat (s_len.getD k 0)).toInt = s_len.getD k 0 := Int32.toInt_ofNat_of_lt (by omega)
  rw [e1]
  have e2 : i.toNatClampNeg = i.toInt.toNat := rfl
  simp only [show (0 : Int32).toInt = 0 from rfl] at h1
  omega
theorem s_chr {k : Nat} (hk : k < 16) {j : Nat} (hj : j < s_len.getD k 0) : (((s_byt.getD k []).getD j 0 &&& 255).toUInt32 % 65536).toInt32 = (s_byt.getD k []).getD j 0 ∧ narrow .char (.int ((s_byt.getD k []).getD j 0)) = .int ((s_byt.getD k []).getD j 0) := by
  have h : ∀ k, k < 16 → ∀ j, j < s_len.getD k 0 → (((s_byt.getD k []).getD j 0 &&& 255).toUInt32 % 65536).toInt32 = (s_byt.getD k []).getD j 0 ∧ narrow .char (.int ((s_byt.getD k []).getD j 0)) = .int ((s_byt.getD k []).getD j 0) := by decide +kernel
  exact h k hk j hj
theorem kS_latin {l : Launch} {E : VE} (k : Nat) (hk : k < 16) (i : Int32) (hi : vp_in i (s_len.getD k 0)) : MI l yJ1_charAt_3b067 cJ1_charAt_3b067 2 .char 2 0 0 E [.ref (E.2.2.2 k), .int i] [] (fun (_ : Unit) => ([] : va_W)) (fun r _ => r = (s_byt.getD k []).getD i.toNatClampNeg 0) := by
  obtain ⟨h1, h2, h3⟩ := s_ix hk hi
  refine MI.of (own := RJ1) (by decide) rfl (Nat.le_of_ble_eq_true rfl) ?_
  intro X C hini hret
  show VV X 0 0 [] [(0, .ref (E.2.2.2 k)), (1, .int i)] 0 []
  refine v_iload_n C dJ1_charAt_3b067_0 1 rfl ?_
  refine v_aload_n C dJ1_charAt_3b067_1 0 rfl ?_
  refine v_stlen C hk dJ1_charAt_3b067_2 ?_
  refine v_callSPv (st := []) C (kS_check2 i _ h1 h2) mM_J1_9 mI_J0 mC_J0_checkIndex_df160 mT_J0_checkIndex_df160 hd_J0_checkIndex_df160 ⟨Nat.le_of_ble_eq_true rfl, Nat.le_of_ble_eq_true rfl⟩ ⟨Nat.le_of_ble_eq_true rfl, Nat.le_of_ble_eq_true rfl⟩ rfl (Nat.le_of_ble_eq_true rfl) dJ1_charAt_3b067_3 (fun u _ => ?_)
  refine v_aload_n C dJ1_charAt_3b067_6 0 rfl ?_
  refine v_iload_n C dJ1_charAt_3b067_7 1 rfl ?_
  refine v_stb C hk hi dJ1_charAt_3b067_8 ?_
  refine v_sipush (v := 255) C dJ1_charAt_3b067_9 (by decide) ?_
  refine v_iand C dJ1_charAt_3b067_12 ?_
  refine v_i2c C dJ1_charAt_3b067_13 ?_
  rw [(s_chr hk h3).1]
  exact hret _ _ _ _ _ () dJ1_charAt_3b067_14 (s_chr hk h3).2 rfl (Nat.le_of_ble_eq_true rfl) (Nat.le_of_ble_eq_true rfl)
theorem kS_charAt {l : Launch} {E : VE} (k : Nat) (hk : k < 16) (i : Int32) (hi : vp_in i (s_len.getD k 0)) : MI l yJ0_charAt_5068e cJ0_charAt_5068e 2 .char 3 0 0 E [.ref (E.2.2.1 k), .int i] [] (fun (_ : Unit) => ([] : va_W)) (fun r _ => r = (s_byt.getD k []).getD i.toNatClampNeg 0) := by
  obtain ⟨h1, h2, h3⟩ := s_ix hk hi
  refine MI.of (own := RJ0) (by decide) rfl (Nat.le_of_ble_eq_true rfl) ?_
  intro X C hini hret
  show VV X 0 0 [] [(0, .ref (E.2.2.1 k)), (1, .int i)] 0 []
  refine v_aload_n C dJ0_charAt_5068e_0 0 rfl ?_
  refine v_callTi (st := []) C k hk (kS_isLatin1 k hk) rfl mM_J0_492 mI_J0 mC_J0_isLatin1_aae02 mN_J0_isLatin1_aae02 mS_J0_isLatin1_aae02 hd_J0_isLatin1_aae02 ⟨Nat.le_of_ble_eq_true rfl, Nat.le_of_ble_eq_true rfl⟩ ⟨Nat.le_of_ble_eq_true rfl, Nat.le_of_ble_eq_true rfl⟩ rfl (Nat.le_of_ble_eq_true rfl) dJ0_charAt_5068e_1 (fun r u hw => ?_)
  subst hw
  refine v_if_eq (tgt := 16) C dJ0_charAt_5068e_4 (by decide) (fun hc => absurd hc (by decide)) (fun hc => ?_)
  refine v_aload_n C dJ0_charAt_5068e_7 0 rfl ?_
  refine v_svalue C hk rfl dJ0_charAt_5068e_8 ?_
  refine v_iload_n C dJ0_charAt_5068e_11 1 rfl ?_
  refine v_callSPi (st := []) C (kS_latin k hk i hi) mM_J0_495 mI_J1 mC_J1_charAt_3b067 mT_J1_charAt_3b067 hd_J1_charAt_3b067 ⟨Nat.le_of_ble_eq_true rfl, Nat.le_of_ble_eq_true rfl⟩ ⟨Nat.le_of_ble_eq_true rfl, Nat.le_of_ble_eq_true rfl⟩ rfl (Nat.le_of_ble_eq_true rfl) dJ0_charAt_5068e_12 (fun r u hw => ?_)
  subst hw
  exact hret _ _ _ _ _ () dJ0_charAt_5068e_15 (s_chr hk h3).2 rfl (Nat.le_of_ble_eq_true rfl) (Nat.le_of_ble_eq_true rfl)
theorem v_slen {X : VX} {cc : ByteArray} {n : Nat} {own : String} {R : Room} {E : VE} {l : Launch} (C : VC X cc n own R E l) {a b : Nat} {ws : va_W} {lv : List (Nat × Value)} {pc : Nat} {st : List Value} (k : Nat) (hk : k < 16) {idx : Nat} (hlk : Cond.methodLink own idx yJ0_length_8abf5 ∈ lwG) (hR : 1 + 1 ≤ R.frames ∧ 8 + (1 + 11) + 40 * 1 ≤ R.locals) (hf : a + 0 ≤ R.cells ∧ b + 0 ≤ R.slots) (hW8 : (st.map fun v => v.category).sum ≤ 8) (hdg : decode cc pc = .ok (.invokevirtual idx, 3)) (kk : VV X a b ws lv (pc + 3) (.int (Int32.ofNat (s_len.getD k 0)) :: st)) : VV X a b ws lv pc (.ref (E.2.2.1 k) :: st) :=
  v_callTi C k hk (kS_length k hk) rfl hlk mI_J0 mC_J0_length_8abf5 mN_J0_length_8abf5 mS_J0_length_8abf5 hd_J0_length_8abf5 hR hf rfl hW8 hdg (fun r u hw => by subst hw; exact kk)
theorem v_schar {X : VX} {cc : ByteArray} {n : Nat} {own : String} {R : Room} {E : VE} {l : Launch} (C : VC X cc n own R E l) {a b : Nat} {ws : va_W} {lv : List (Nat × Value)} {pc : Nat} {st : List Value} (k : Nat) (hk : k < 16) {i : Int32} {idx : Nat} (hlk : Cond.methodLink own idx yJ0_charAt_5068e ∈ lwG) (hi : vp_in i (s_len.getD k 0)) (hR : 3 + 1 ≤ R.frames ∧ 8 + (2 + 11) + 40 * 3 ≤ R.locals) (hf : a + 0 ≤ R.cells ∧ b + 0 ≤ R.slots) (hW8 : (st.map fun v => v.category).sum ≤ 8) (hdg : decode cc pc = .ok (.invokevirtual idx, 3)) (kk : VV X a b ws lv (pc + 3) (.int ((s_byt.getD k []).getD i.toNatClampNeg 0) :: st)) : VV X a b ws lv pc (.int i :: .ref (E.2.2.1 k) :: st) :=
  v_callTi C k hk (kS_charAt k hk i hi) rfl hlk mI_J0 mC_J0_charAt_5068e mN_J0_charAt_5068e mS_J0_charAt_5068e hd_J0_charAt_5068e hR hf rfl hW8 hdg (fun r u hw => by subst hw; exact kk)
end
