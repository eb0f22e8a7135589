theorem mC_J6_bitCount_0f7a4 : Cond.code yJ6_bitCount_0f7a4 cJ6_bitCount_0f7a4 1 (some .int) ∈ lwG := lwG_of 1048 (by decide +kernel) (by decide +kernel)
theorem mC_J7_fill_53178 : Cond.code yJ7_fill_53178 cJ7_fill_53178 4 none ∈ lwG := lwG_of 487 (by decide +kernel) (by decide +kernel)
theorem mC_X0_copyFrom : Cond.code yX0_copyFrom cX0_copyFrom 3 none ∈ lwG := lwG_of 1271 (by decide +kernel) (by decide +kernel)
theorem mC_X0_dependsOnYear : Cond.code yX0_dependsOnYear cX0_dependsOnYear 2 (some .boolean) ∈ lwG := lwG_of 1135 (by decide +kernel) (by decide +kernel)
theorem mC_X0_factOf : Cond.code yX0_factOf cX0_factOf 1 (some .int) ∈ lwG := lwG_of 863 (by decide +kernel) (by decide +kernel)
theorem mC_X0_firstHolding : Cond.code yX0_firstHolding cX0_firstHolding 6 (some .int) ∈ lwG := lwG_of 975 (by decide +kernel) (by decide +kernel)
theorem mC_X0_holds : Cond.code yX0_holds cX0_holds 7 (some .boolean) ∈ lwG := lwG_of 979 (by decide +kernel) (by decide +kernel)
theorem mC_X0_inForce : Cond.code yX0_inForce cX0_inForce 3 (some .int) ∈ lwG := lwG_of 967 (by decide +kernel) (by decide +kernel)
theorem mC_X0_kindOfLine : Cond.code yX0_kindOfLine cX0_kindOfLine 1 (some .int) ∈ lwG := lwG_of 831 (by decide +kernel) (by decide +kernel)
theorem mC_X0_lastLine : Cond.code yX0_lastLine cX0_lastLine 4 (some .int) ∈ lwG := lwG_of 1041 (by decide +kernel) (by decide +kernel)
theorem mC_X0_numberOf : Cond.code yX0_numberOf cX0_numberOf 5 (some .int) ∈ lwG := lwG_of 1037 (by decide +kernel) (by decide +kernel)
theorem mC_X0_readAct : Cond.code yX0_readAct cX0_readAct 6 (some .int) ∈ lwG := lwG_of 826 (by decide +kernel) (by decide +kernel)
theorem mC_X0_readCond : Cond.code yX0_readCond cX0_readCond 4 none ∈ lwG := lwG_of 871 (by decide +kernel) (by decide +kernel)
theorem mC_X0_readHead : Cond.code yX0_readHead cX0_readHead 4 none ∈ lwG := lwG_of 847 (by decide +kernel) (by decide +kernel)
theorem mC_X0_readLine : Cond.code yX0_readLine cX0_readLine 6 none ∈ lwG := lwG_of 843 (by decide +kernel) (by decide +kernel)
theorem mC_X10_addOwn : Cond.code yX10_addOwn cX10_addOwn 3 none ∈ lwG := lwG_of 684 (by decide +kernel) (by decide +kernel)
theorem mC_X10_alikePairs : Cond.code yX10_alikePairs cX10_alikePairs 6 (some .int) ∈ lwG := lwG_of 926 (by decide +kernel) (by decide +kernel)
theorem mC_X10_areSpelledAlike : Cond.code yX10_areSpelledAlike cX10_areSpelledAlike 5 (some .boolean) ∈ lwG := lwG_of 937 (by decide +kernel) (by decide +kernel)
theorem mC_X10_dueYear : Cond.code yX10_dueYear cX10_dueYear 8 (some .int) ∈ lwG := lwG_of 1131 (by decide +kernel) (by decide +kernel)
theorem mC_X10_editsOfNames : Cond.code yX10_editsOfNames cX10_editsOfNames 5 (some .int) ∈ lwG := lwG_of 945 (by decide +kernel) (by decide +kernel)
theorem mC_X10_editsOfRows : Cond.code yX10_editsOfRows cX10_editsOfRows 7 (some .int) ∈ lwG := lwG_of 949 (by decide +kernel) (by decide +kernel)
theorem mC_X10_everyone : Cond.code yX10_everyone cX10_everyone 3 (some .int) ∈ lwG := lwG_of 688 (by decide +kernel) (by decide +kernel)
theorem mC_X10_fewestToSwing : Cond.code yX10_fewestToSwing cX10_fewestToSwing 7 (some .int) ∈ lwG := lwG_of 995 (by decide +kernel) (by decide +kernel)
theorem mC_X10_firstBy : Cond.code yX10_firstBy cX10_firstBy 4 (some .int) ∈ lwG := lwG_of 971 (by decide +kernel) (by decide +kernel)
theorem mC_X10_gather : Cond.code yX10_gather cX10_gather 6 none ∈ lwG := lwG_of 675 (by decide +kernel) (by decide +kernel)
theorem mC_X10_isAlike : Cond.code yX10_isAlike cX10_isAlike 10 (some .boolean) ∈ lwG := lwG_of 1056 (by decide +kernel) (by decide +kernel)
theorem mC_X10_isLame : Cond.code yX10_isLame cX10_isLame 5 (some .boolean) ∈ lwG := lwG_of 1122 (by decide +kernel) (by decide +kernel)
theorem mC_X10_isUnder : Cond.code yX10_isUnder cX10_isUnder 5 (some .boolean) ∈ lwG := lwG_of 629 (by decide +kernel) (by decide +kernel)
theorem mC_X10_lameSigns : Cond.code yX10_lameSigns cX10_lameSigns 4 (some .int) ∈ lwG := lwG_of 1238 (by decide +kernel) (by decide +kernel)
theorem mC_X10_liesWithin : Cond.code yX10_liesWithin cX10_liesWithin 5 (some .boolean) ∈ lwG := lwG_of 620 (by decide +kernel) (by decide +kernel)
theorem mC_X10_look : Cond.code yX10_look cX10_look 8 none ∈ lwG := lwG_of 957 (by decide +kernel) (by decide +kernel)
theorem mC_X10_mostPeople : Cond.code yX10_mostPeople cX10_mostPeople 4 (some .int) ∈ lwG := lwG_of 983 (by decide +kernel) (by decide +kernel)
theorem mC_X10_setShares : Cond.code yX10_setShares cX10_setShares 3 none ∈ lwG := lwG_of 962 (by decide +kernel) (by decide +kernel)
theorem mC_X10_show : Cond.code yX10_show cX10_show 9 none ∈ lwG := lwG_of 1094 (by decide +kernel) (by decide +kernel)
theorem mC_X10_spellAside : Cond.code yX10_spellAside cX10_spellAside 4 none ∈ lwG := lwG_of 930 (by decide +kernel) (by decide +kernel)
theorem mC_X10_swingsBy : Cond.code yX10_swingsBy cX10_swingsBy 7 (some .boolean) ∈ lwG := lwG_of 1001 (by decide +kernel) (by decide +kernel)
theorem mC_X10_swungBy : Cond.code yX10_swungBy cX10_swungBy 7 (some .boolean) ∈ lwG := lwG_of 1005 (by decide +kernel) (by decide +kernel)
theorem mC_X10_whyRefused : Cond.code yX10_whyRefused cX10_whyRefused 8 (some .int) ∈ lwG := lwG_of 1033 (by decide +kernel) (by decide +kernel)
theorem mC_X11_copyFlags : Cond.code yX11_copyFlags cX11_copyFlags 4 none ∈ lwG := lwG_of 1258 (by decide +kernel) (by decide +kernel)
theorem mC_X11_countPeople : Cond.code yX11_countPeople cX11_countPeople 7 (some .int) ∈ lwG := lwG_of 648 (by decide +kernel) (by decide +kernel)
theorem mC_X11_cut : Cond.code yX11_cut cX11_cut 3 (some .long) ∈ lwG := lwG_of 1303 (by decide +kernel) (by decide +kernel)
theorem mC_X11_isNumber : Cond.code yX11_isNumber cX11_isNumber 1 (some .boolean) ∈ lwG := lwG_of 1102 (by decide +kernel) (by decide +kernel)
theorem mC_X11_isSlot : Cond.code yX11_isSlot cX11_isSlot 1 (some .boolean) ∈ lwG := lwG_of 661 (by decide +kernel) (by decide +kernel)
theorem mC_X11_isTongue : Cond.code yX11_isTongue cX11_isTongue 1 (some .boolean) ∈ lwG := lwG_of 668 (by decide +kernel) (by decide +kernel)
theorem mC_X11_isYear : Cond.code yX11_isYear cX11_isYear 1 (some .boolean) ∈ lwG := lwG_of 600 (by decide +kernel) (by decide +kernel)
theorem mC_X11_liesInRow : Cond.code yX11_liesInRow cX11_liesInRow 4 (some .boolean) ∈ lwG := lwG_of 1311 (by decide +kernel) (by decide +kernel)
theorem mC_X11_rowsHad : Cond.code yX11_rowsHad cX11_rowsHad 3 (some .int) ∈ lwG := lwG_of 1247 (by decide +kernel) (by decide +kernel)
theorem mC_X11_taken : Cond.code yX11_taken cX11_taken 2 (some .int) ∈ lwG := lwG_of 818 (by decide +kernel) (by decide +kernel)
theorem mC_X12_actOf : Cond.code yX12_actOf cX12_actOf 4 (some .int) ∈ lwG := lwG_of 1743 (by decide +kernel) (by decide +kernel)
theorem mC_X12_addsUp : Cond.code yX12_addsUp cX12_addsUp 4 none ∈ lwG := lwG_of 1525 (by decide +kernel) (by decide +kernel)
theorem mC_X12_allOf : Cond.code yX12_allOf cX12_allOf 2 (some .int) ∈ lwG := lwG_of 1545 (by decide +kernel) (by decide +kernel)
theorem mC_X12_apart : Cond.code yX12_apart cX12_apart 5 (some .int) ∈ lwG := lwG_of 1689 (by decide +kernel) (by decide +kernel)
theorem mC_X12_begins : Cond.code yX12_begins cX12_begins 2 none ∈ lwG := lwG_of 1567 (by decide +kernel) (by decide +kernel)
theorem mC_X12_besideOf : Cond.code yX12_besideOf cX12_besideOf 7 (some .int) ∈ lwG := lwG_of 1763 (by decide +kernel) (by decide +kernel)
theorem mC_X12_bits : Cond.code yX12_bits cX12_bits 4 (some .int) ∈ lwG := lwG_of 1872 (by decide +kernel) (by decide +kernel)
theorem mC_X12_cond : Cond.code yX12_cond cX12_cond 4 none ∈ lwG := lwG_of 1717 (by decide +kernel) (by decide +kernel)
theorem mC_X12_cut : Cond.code yX12_cut cX12_cut 4 (some .long) ∈ lwG := lwG_of 1933 (by decide +kernel) (by decide +kernel)
theorem mC_X12_editsOf : Cond.code yX12_editsOf cX12_editsOf 4 (some .int) ∈ lwG := lwG_of 1685 (by decide +kernel) (by decide +kernel)
theorem mC_X12_event : Cond.code yX12_event cX12_event 5 none ∈ lwG := lwG_of 1808 (by decide +kernel) (by decide +kernel)
theorem mC_X12_factHere : Cond.code yX12_factHere cX12_factHere 1 (some .int) ∈ lwG := lwG_of 1722 (by decide +kernel) (by decide +kernel)
theorem mC_X12_firstOf : Cond.code yX12_firstOf cX12_firstOf 7 (some .int) ∈ lwG := lwG_of 1739 (by decide +kernel) (by decide +kernel)
theorem mC_X12_fits : Cond.code yX12_fits cX12_fits 7 (some .boolean) ∈ lwG := lwG_of 1646 (by decide +kernel) (by decide +kernel)
theorem mC_X12_givesOf : Cond.code yX12_givesOf cX12_givesOf 6 (some .int) ∈ lwG := lwG_of 1897 (by decide +kernel) (by decide +kernel)
theorem mC_X12_good : Cond.code yX12_good cX12_good 1 (some .boolean) ∈ lwG := lwG_of 1582 (by decide +kernel) (by decide +kernel)
theorem mC_X12_hasName : Cond.code yX12_hasName cX12_hasName 3 (some .boolean) ∈ lwG := lwG_of 1893 (by decide +kernel) (by decide +kernel)
theorem mC_X12_hearing : Cond.code yX12_hearing cX12_hearing 2 (some .int) ∈ lwG := lwG_of 1775 (by decide +kernel) (by decide +kernel)
theorem mC_X12_holdFor : Cond.code yX12_holdFor cX12_holdFor 10 (some .boolean) ∈ lwG := lwG_of 1747 (by decide +kernel) (by decide +kernel)
theorem mC_X12_holds : Cond.code yX12_holds cX12_holds 2 none ∈ lwG := lwG_of 1673 (by decide +kernel) (by decide +kernel)
theorem mC_X12_in : Cond.code yX12_in cX12_in 6 (some .boolean) ∈ lwG := lwG_of 1483 (by decide +kernel) (by decide +kernel)
theorem mC_X12_is : Cond.code yX12_is cX12_is 4 (some .boolean) ∈ lwG := lwG_of 1587 (by decide +kernel) (by decide +kernel)
theorem mC_X12_isAlike : Cond.code yX12_isAlike cX12_isAlike 3 (some .boolean) ∈ lwG := lwG_of 1677 (by decide +kernel) (by decide +kernel)
theorem mC_X12_isHearing : Cond.code yX12_isHearing cX12_isHearing 2 (some .boolean) ∈ lwG := lwG_of 1783 (by decide +kernel) (by decide +kernel)
theorem mC_X12_isLame : Cond.code yX12_isLame cX12_isLame 2 (some .boolean) ∈ lwG := lwG_of 1850 (by decide +kernel) (by decide +kernel)
theorem mC_X12_isLetters : Cond.code yX12_isLetters cX12_isLetters 3 (some .boolean) ∈ lwG := lwG_of 1553 (by decide +kernel) (by decide +kernel)
theorem mC_X12_isName : Cond.code yX12_isName cX12_isName 2 (some .boolean) ∈ lwG := lwG_of 1630 (by decide +kernel) (by decide +kernel)
theorem mC_X12_isNear : Cond.code yX12_isNear cX12_isNear 6 (some .boolean) ∈ lwG := lwG_of 1800 (by decide +kernel) (by decide +kernel)
theorem mC_X12_isOf : Cond.code yX12_isOf cX12_isOf 2 (some .boolean) ∈ lwG := lwG_of 1649 (by decide +kernel) (by decide +kernel)
theorem mC_X12_isPlace : Cond.code yX12_isPlace cX12_isPlace 2 (some .boolean) ∈ lwG := lwG_of 1517 (by decide +kernel) (by decide +kernel)
theorem mC_X12_isRuleWord : Cond.code yX12_isRuleWord cX12_isRuleWord 1 (some .boolean) ∈ lwG := lwG_of 1593 (by decide +kernel) (by decide +kernel)
theorem mC_X12_isSign : Cond.code yX12_isSign cX12_isSign 2 (some .boolean) ∈ lwG := lwG_of 1613 (by decide +kernel) (by decide +kernel)
theorem mC_X12_isSign0 : Cond.code yX12_isSign0 cX12_isSign0 2 (some .boolean) ∈ lwG := lwG_of 1837 (by decide +kernel) (by decide +kernel)
theorem mC_X12_isSlot : Cond.code yX12_isSlot cX12_isSlot 1 (some .boolean) ∈ lwG := lwG_of 1921 (by decide +kernel) (by decide +kernel)
theorem mC_X12_isTongue : Cond.code yX12_isTongue cX12_isTongue 1 (some .boolean) ∈ lwG := lwG_of 1532 (by decide +kernel) (by decide +kernel)
theorem mC_X12_isTooAlike : Cond.code yX12_isTooAlike cX12_isTooAlike 7 (some .boolean) ∈ lwG := lwG_of 1796 (by decide +kernel) (by decide +kernel)
theorem mC_X12_isYear : Cond.code yX12_isYear cX12_isYear 1 (some .boolean) ∈ lwG := lwG_of 1540 (by decide +kernel) (by decide +kernel)
theorem mC_X12_joins : Cond.code yX12_joins cX12_joins 6 none ∈ lwG := lwG_of 1902 (by decide +kernel) (by decide +kernel)
theorem mC_X12_lameSince : Cond.code yX12_lameSince cX12_lameSince 4 (some .int) ∈ lwG := lwG_of 1854 (by decide +kernel) (by decide +kernel)
theorem mC_X12_lays : Cond.code yX12_lays cX12_lays 3 none ∈ lwG := lwG_of 1653 (by decide +kernel) (by decide +kernel)
theorem mC_X12_leastOf : Cond.code yX12_leastOf cX12_leastOf 7 (some .int) ∈ lwG := lwG_of 1863 (by decide +kernel) (by decide +kernel)
theorem mC_X12_line : Cond.code yX12_line cX12_line 4 none ∈ lwG := lwG_of 1707 (by decide +kernel) (by decide +kernel)
theorem mC_X12_looks : Cond.code yX12_looks cX12_looks 3 none ∈ lwG := lwG_of 1521 (by decide +kernel) (by decide +kernel)
theorem mC_X12_mayBe : Cond.code yX12_mayBe cX12_mayBe 7 (some .boolean) ∈ lwG := lwG_of 1868 (by decide +kernel) (by decide +kernel)
theorem mC_X12_most : Cond.code yX12_most cX12_most 5 (some .int) ∈ lwG := lwG_of 1755 (by decide +kernel) (by decide +kernel)
theorem mC_X12_nameIs : Cond.code yX12_nameIs cX12_nameIs 3 (some .int) ∈ lwG := lwG_of 1638 (by decide +kernel) (by decide +kernel)
theorem mC_X12_needSign : Cond.code yX12_needSign cX12_needSign 2 none ∈ lwG := lwG_of 1622 (by decide +kernel) (by decide +kernel)
theorem mC_X12_next_ : Cond.code yX12_next_ cX12_next_ 3 none ∈ lwG := lwG_of 1571 (by decide +kernel) (by decide +kernel)
theorem mC_X12_now : Cond.code yX12_now cX12_now 1 (some .int) ∈ lwG := lwG_of 1504 (by decide +kernel) (by decide +kernel)
theorem mC_X12_number : Cond.code yX12_number cX12_number 3 (some .int) ∈ lwG := lwG_of 1711 (by decide +kernel) (by decide +kernel)
theorem mC_X12_partsOf : Cond.code yX12_partsOf cX12_partsOf 4 (some .int) ∈ lwG := lwG_of 1751 (by decide +kernel) (by decide +kernel)
theorem mC_X12_people : Cond.code yX12_people cX12_people 5 (some .int) ∈ lwG := lwG_of 1529 (by decide +kernel) (by decide +kernel)
theorem mC_X12_rule : Cond.code yX12_rule cX12_rule 3 none ∈ lwG := lwG_of 1601 (by decide +kernel) (by decide +kernel)
theorem mC_X12_ruleWord : Cond.code yX12_ruleWord cX12_ruleWord 3 none ∈ lwG := lwG_of 1618 (by decide +kernel) (by decide +kernel)
theorem mC_X12_see : Cond.code yX12_see cX12_see 2 (some .int) ∈ lwG := lwG_of 1575 (by decide +kernel) (by decide +kernel)
theorem mC_X12_set : Cond.code yX12_set cX12_set 3 none ∈ lwG := lwG_of 1609 (by decide +kernel) (by decide +kernel)
theorem mC_X12_settledNow : Cond.code yX12_settledNow cX12_settledNow 4 (some .int) ∈ lwG := lwG_of 1914 (by decide +kernel) (by decide +kernel)
theorem mC_X12_settledOf : Cond.code yX12_settledOf cX12_settledOf 6 (some .int) ∈ lwG := lwG_of 1804 (by decide +kernel) (by decide +kernel)
theorem mC_X12_shows : Cond.code yX12_shows cX12_shows 8 none ∈ lwG := lwG_of 1824 (by decide +kernel) (by decide +kernel)
theorem mC_X12_signIs : Cond.code yX12_signIs cX12_signIs 3 (some .int) ∈ lwG := lwG_of 1846 (by decide +kernel) (by decide +kernel)
theorem mC_X12_sortHere : Cond.code yX12_sortHere cX12_sortHere 1 (some .int) ∈ lwG := lwG_of 1697 (by decide +kernel) (by decide +kernel)
theorem mC_X12_spellingOf : Cond.code yX12_spellingOf cX12_spellingOf 5 (some .int) ∈ lwG := lwG_of 1642 (by decide +kernel) (by decide +kernel)
theorem mC_X12_spells : Cond.code yX12_spells cX12_spells 11 none ∈ lwG := lwG_of 1634 (by decide +kernel) (by decide +kernel)
theorem mC_X12_takes : Cond.code yX12_takes cX12_takes 3 (some .boolean) ∈ lwG := lwG_of 1605 (by decide +kernel) (by decide +kernel)
theorem mC_X12_takesInHand : Cond.code yX12_takesInHand cX12_takesInHand 2 (some .int) ∈ lwG := lwG_of 1657 (by decide +kernel) (by decide +kernel)
theorem mC_X12_termOf : Cond.code yX12_termOf cX12_termOf 7 (some .int) ∈ lwG := lwG_of 1792 (by decide +kernel) (by decide +kernel)
theorem mC_X12_tongueHere : Cond.code yX12_tongueHere cX12_tongueHere 1 (some .int) ∈ lwG := lwG_of 1730 (by decide +kernel) (by decide +kernel)
theorem mC_X12_wrong : Cond.code yX12_wrong cX12_wrong 2 none ∈ lwG := lwG_of 1597 (by decide +kernel) (by decide +kernel)
theorem mC_X1_cast : Cond.code yX1_cast cX1_cast 5 none ∈ lwG := lwG_of 1025 (by decide +kernel) (by decide +kernel)
theorem mC_X1_copyFrom : Cond.code yX1_copyFrom cX1_copyFrom 2 none ∈ lwG := lwG_of 1277 (by decide +kernel) (by decide +kernel)
theorem mC_X1_has : Cond.code yX1_has cX1_has 2 (some .boolean) ∈ lwG := lwG_of 1021 (by decide +kernel) (by decide +kernel)
theorem mC_X1_nameAt : Cond.code yX1_nameAt cX1_nameAt 5 (some .int) ∈ lwG := lwG_of 1064 (by decide +kernel) (by decide +kernel)
theorem mC_X1_namesAt : Cond.code yX1_namesAt cX1_namesAt 6 (some .int) ∈ lwG := lwG_of 1243 (by decide +kernel) (by decide +kernel)
theorem mC_X1_open : Cond.code yX1_open cX1_open 4 (some .int) ∈ lwG := lwG_of 1013 (by decide +kernel) (by decide +kernel)
theorem mC_X1_settle : Cond.code yX1_settle cX1_settle 5 none ∈ lwG := lwG_of 1073 (by decide +kernel) (by decide +kernel)
theorem mC_X1_settlingAt : Cond.code yX1_settlingAt cX1_settlingAt 6 (some .int) ∈ lwG := lwG_of 1068 (by decide +kernel) (by decide +kernel)
theorem mC_X1_tooFew : Cond.code yX1_tooFew cX1_tooFew 4 (some .boolean) ∈ lwG := lwG_of 1045 (by decide +kernel) (by decide +kernel)
theorem mC_X1_undoLast : Cond.code yX1_undoLast cX1_undoLast 5 (some .boolean) ∈ lwG := lwG_of 1086 (by decide +kernel) (by decide +kernel)
theorem mC_X2_addPlace : Cond.code yX2_addPlace cX2_addPlace 3 (some .int) ∈ lwG := lwG_of 608 (by decide +kernel) (by decide +kernel)
theorem mC_X2_areNear : Cond.code yX2_areNear cX2_areNear 6 (some .boolean) ∈ lwG := lwG_of 1060 (by decide +kernel) (by decide +kernel)
theorem mC_X2_copyFrom : Cond.code yX2_copyFrom cX2_copyFrom 2 none ∈ lwG := lwG_of 1262 (by decide +kernel) (by decide +kernel)
theorem mC_X2_fillOwn : Cond.code yX2_fillOwn cX2_fillOwn 4 none ∈ lwG := lwG_of 679 (by decide +kernel) (by decide +kernel)
theorem mC_X2_fillParents : Cond.code yX2_fillParents cX2_fillParents 4 none ∈ lwG := lwG_of 624 (by decide +kernel) (by decide +kernel)
theorem mC_X2_has : Cond.code yX2_has cX2_has 2 (some .boolean) ∈ lwG := lwG_of 616 (by decide +kernel) (by decide +kernel)
theorem mC_X2_tellCount : Cond.code yX2_tellCount cX2_tellCount 8 (some .boolean) ∈ lwG := lwG_of 654 (by decide +kernel) (by decide +kernel)
theorem mC_X2_tellPart : Cond.code yX2_tellPart cX2_tellPart 6 (some .boolean) ∈ lwG := lwG_of 633 (by decide +kernel) (by decide +kernel)
theorem mC_X3_add : Cond.code yX3_add cX3_add 2 (some .boolean) ∈ lwG := lwG_of 1177 (by decide +kernel) (by decide +kernel)
theorem mC_X3_choosePlaces : Cond.code yX3_choosePlaces cX3_choosePlaces 5 (some .boolean) ∈ lwG := lwG_of 1190 (by decide +kernel) (by decide +kernel)
theorem mC_X3_fewestEdits : Cond.code yX3_fewestEdits cX3_fewestEdits 6 (some .int) ∈ lwG := lwG_of 1199 (by decide +kernel) (by decide +kernel)
theorem mC_X3_fillGains : Cond.code yX3_fillGains cX3_fillGains 5 none ∈ lwG := lwG_of 1194 (by decide +kernel) (by decide +kernel)
theorem mC_X3_fillMost : Cond.code yX3_fillMost cX3_fillMost 4 none ∈ lwG := lwG_of 1206 (by decide +kernel) (by decide +kernel)
theorem mC_X3_greatestSum : Cond.code yX3_greatestSum cX3_greatestSum 4 (some .int) ∈ lwG := lwG_of 1186 (by decide +kernel) (by decide +kernel)
theorem mC_X3_mostBehind : Cond.code yX3_mostBehind cX3_mostBehind 7 (some .int) ∈ lwG := lwG_of 1211 (by decide +kernel) (by decide +kernel)
theorem mC_X3_reaches : Cond.code yX3_reaches cX3_reaches 6 (some .boolean) ∈ lwG := lwG_of 1226 (by decide +kernel) (by decide +kernel)
theorem mC_X3_sumWith : Cond.code yX3_sumWith cX3_sumWith 6 (some .int) ∈ lwG := lwG_of 1216 (by decide +kernel) (by decide +kernel)
theorem mC_X3_takeFirst : Cond.code yX3_takeFirst cX3_takeFirst 7 none ∈ lwG := lwG_of 1222 (by decide +kernel) (by decide +kernel)
theorem mC_X4_begin : Cond.code yX4_begin cX4_begin 1 none ∈ lwG := lwG_of 1144 (by decide +kernel) (by decide +kernel)
theorem mC_X4_leastKey : Cond.code yX4_leastKey cX4_leastKey 7 (some .long) ∈ lwG := lwG_of 1157 (by decide +kernel) (by decide +kernel)
theorem mC_X4_leastSum : Cond.code yX4_leastSum cX4_leastSum 6 (some .int) ∈ lwG := lwG_of 1153 (by decide +kernel) (by decide +kernel)
theorem mC_X4_take : Cond.code yX4_take cX4_take 8 (some .boolean) ∈ lwG := lwG_of 1148 (by decide +kernel) (by decide +kernel)
theorem mC_X5_add : Cond.code yX5_add cX5_add 3 none ∈ lwG := lwG_of 906 (by decide +kernel) (by decide +kernel)
theorem mC_X5_has : Cond.code yX5_has cX5_has 2 (some .boolean) ∈ lwG := lwG_of 914 (by decide +kernel) (by decide +kernel)
theorem mC_X5_readsAs : Cond.code yX5_readsAs cX5_readsAs 3 (some .boolean) ∈ lwG := lwG_of 1127 (by decide +kernel) (by decide +kernel)
theorem mC_X6_copyFrom : Cond.code yX6_copyFrom cX6_copyFrom 2 none ∈ lwG := lwG_of 1283 (by decide +kernel) (by decide +kernel)
theorem mC_X6_has : Cond.code yX6_has cX6_has 2 (some .boolean) ∈ lwG := lwG_of 1114 (by decide +kernel) (by decide +kernel)
theorem mC_X6_make : Cond.code yX6_make cX6_make 4 (some .int) ∈ lwG := lwG_of 1106 (by decide +kernel) (by decide +kernel)
theorem mC_X7_addName : Cond.code yX7_addName cX7_addName 6 (some .int) ∈ lwG := lwG_of 703 (by decide +kernel) (by decide +kernel)
theorem mC_X7_copyFrom : Cond.code yX7_copyFrom cX7_copyFrom 3 none ∈ lwG := lwG_of 1267 (by decide +kernel) (by decide +kernel)
theorem mC_X7_fits : Cond.code yX7_fits cX7_fits 6 (some .boolean) ∈ lwG := lwG_of 902 (by decide +kernel) (by decide +kernel)
theorem mC_X7_hasName : Cond.code yX7_hasName cX7_hasName 2 (some .boolean) ∈ lwG := lwG_of 886 (by decide +kernel) (by decide +kernel)
theorem mC_X7_readRule : Cond.code yX7_readRule cX7_readRule 3 none ∈ lwG := lwG_of 792 (by decide +kernel) (by decide +kernel)
theorem mC_X7_readSet : Cond.code yX7_readSet cX7_readSet 4 (some .int) ∈ lwG := lwG_of 798 (by decide +kernel) (by decide +kernel)
theorem mC_X7_readSpelling : Cond.code yX7_readSpelling cX7_readSpelling 6 (some .int) ∈ lwG := lwG_of 714 (by decide +kernel) (by decide +kernel)
theorem mC_X7_readWord : Cond.code yX7_readWord cX7_readWord 5 (some .int) ∈ lwG := lwG_of 808 (by decide +kernel) (by decide +kernel)
theorem mC_X7_ruleFor : Cond.code yX7_ruleFor cX7_ruleFor 6 (some .int) ∈ lwG := lwG_of 898 (by decide +kernel) (by decide +kernel)
theorem mC_X7_spellInto : Cond.code yX7_spellInto cX7_spellInto 11 none ∈ lwG := lwG_of 890 (by decide +kernel) (by decide +kernel)
theorem mC_X7_spellingAt : Cond.code yX7_spellingAt cX7_spellingAt 4 (some .int) ∈ lwG := lwG_of 894 (by decide +kernel) (by decide +kernel)
theorem mC_X8_copyFrom : Cond.code yX8_copyFrom cX8_copyFrom 2 none ∈ lwG := lwG_of 1255 (by decide +kernel) (by decide +kernel)
theorem mC_X8_mark : Cond.code yX8_mark cX8_mark 1 none ∈ lwG := lwG_of 640 (by decide +kernel) (by decide +kernel)
theorem mC_X9_advance : Cond.code yX9_advance cX9_advance 1 none ∈ lwG := lwG_of 722 (by decide +kernel) (by decide +kernel)
theorem mC_X9_begin : Cond.code yX9_begin cX9_begin 1 none ∈ lwG := lwG_of 718 (by decide +kernel) (by decide +kernel)
theorem mC_X9_blame : Cond.code yX9_blame cX9_blame 2 none ∈ lwG := lwG_of 788 (by decide +kernel) (by decide +kernel)
theorem mC_X9_goesOn : Cond.code yX9_goesOn cX9_goesOn 1 (some .boolean) ∈ lwG := lwG_of 727 (by decide +kernel) (by decide +kernel)
theorem mC_X9_isLetters : Cond.code yX9_isLetters cX9_isLetters 3 (some .boolean) ∈ lwG := lwG_of 696 (by decide +kernel) (by decide +kernel)
theorem mC_X9_isSign : Cond.code yX9_isSign cX9_isSign 2 (some .boolean) ∈ lwG := lwG_of 802 (by decide +kernel) (by decide +kernel)
theorem mC_X9_isWord : Cond.code yX9_isWord cX9_isWord 3 (some .boolean) ∈ lwG := lwG_of 732 (by decide +kernel) (by decide +kernel)
theorem mC_X9_isWordOf : Cond.code yX9_isWordOf cX9_isWordOf 2 (some .boolean) ∈ lwG := lwG_of 784 (by decide +kernel) (by decide +kernel)
theorem mC_X9_kindOf : Cond.code yX9_kindOf cX9_kindOf 1 (some .int) ∈ lwG := lwG_of 699 (by decide +kernel) (by decide +kernel)
theorem mC_X9_push : Cond.code yX9_push cX9_push 3 none ∈ lwG := lwG_of 589 (by decide +kernel) (by decide +kernel)
theorem mC_X9_takeNumber : Cond.code yX9_takeNumber cX9_takeNumber 3 (some .int) ∈ lwG := lwG_of 852 (by decide +kernel) (by decide +kernel)
theorem mC_X9_takeSign : Cond.code yX9_takeSign cX9_takeSign 2 none ∈ lwG := lwG_of 812 (by decide +kernel) (by decide +kernel)
theorem mC_X9_takeWord : Cond.code yX9_takeWord cX9_takeWord 2 none ∈ lwG := lwG_of 857 (by decide +kernel) (by decide +kernel)
theorem mF_X0_11_X0_1 : Cond.fieldLink RX0 11 (TX0 1).1 (TX0 1).2.1 (TX0 1).2.2.1 ∈ lwG := lwG_of 220 (by decide +kernel) (by decide +kernel)
theorem mF_X0_15_X0_2 : Cond.fieldLink RX0 15 (TX0 2).1 (TX0 2).2.1 (TX0 2).2.2.1 ∈ lwG := lwG_of 221 (by decide +kernel) (by decide +kernel)
theorem mF_X0_18_X0_3 : Cond.fieldLink RX0 18 (TX0 3).1 (TX0 3).2.1 (TX0 3).2.2.1 ∈ lwG := lwG_of 222 (by decide +kernel) (by decide +kernel)
theorem mF_X0_22_X0_4 : Cond.fieldLink RX0 22 (TX0 4).1 (TX0 4).2.1 (TX0 4).2.2.1 ∈ lwG := lwG_of 223 (by decide +kernel) (by decide +kernel)
theorem mF_X0_25_X0_5 : Cond.fieldLink RX0 25 (TX0 5).1 (TX0 5).2.1 (TX0 5).2.2.1 ∈ lwG := lwG_of 224 (by decide +kernel) (by decide +kernel)
theorem mF_X0_28_X0_6 : Cond.fieldLink RX0 28 (TX0 6).1 (TX0 6).2.1 (TX0 6).2.2.1 ∈ lwG := lwG_of 226 (by decide +kernel) (by decide +kernel)
theorem mF_X0_31_X0_7 : Cond.fieldLink RX0 31 (TX0 7).1 (TX0 7).2.1 (TX0 7).2.2.1 ∈ lwG := lwG_of 228 (by decide +kernel) (by decide +kernel)
theorem mF_X0_34_X0_8 : Cond.fieldLink RX0 34 (TX0 8).1 (TX0 8).2.1 (TX0 8).2.2.1 ∈ lwG := lwG_of 229 (by decide +kernel) (by decide +kernel)
theorem mF_X0_37_X0_9 : Cond.fieldLink RX0 37 (TX0 9).1 (TX0 9).2.1 (TX0 9).2.2.1 ∈ lwG := lwG_of 230 (by decide +kernel) (by decide +kernel)
theorem mF_X0_40_X0_10 : Cond.fieldLink RX0 40 (TX0 10).1 (TX0 10).2.1 (TX0 10).2.2.1 ∈ lwG := lwG_of 231 (by decide +kernel) (by decide +kernel)
theorem mF_X0_43_X0_11 : Cond.fieldLink RX0 43 (TX0 11).1 (TX0 11).2.1 (TX0 11).2.2.1 ∈ lwG := lwG_of 232 (by decide +kernel) (by decide +kernel)
theorem mF_X0_51_X0_0 : Cond.fieldLink RX0 51 (TX0 0).1 (TX0 0).2.1 (TX0 0).2.2.1 ∈ lwG := lwG_of 218 (by decide +kernel) (by decide +kernel)
theorem mF_X0_71_X9_2 : Cond.fieldLink RX0 71 (TX9 2).1 (TX9 2).2.1 (TX9 2).2.2.1 ∈ lwG := lwG_of 381 (by decide +kernel) (by decide +kernel)
theorem mF_X10_109_X10_4 : Cond.fieldLink RX10 109 (TX10 4).1 (TX10 4).2.1 (TX10 4).2.2.1 ∈ lwG := lwG_of 445 (by decide +kernel) (by decide +kernel)
theorem mF_X10_112_X10_5 : Cond.fieldLink RX10 112 (TX10 5).1 (TX10 5).2.1 (TX10 5).2.2.1 ∈ lwG := lwG_of 447 (by decide +kernel) (by decide +kernel)
theorem mF_X10_122_X0_5 : Cond.fieldLink RX10 122 (TX0 5).1 (TX0 5).2.1 (TX0 5).2.2.1 ∈ lwG := lwG_of 225 (by decide +kernel) (by decide +kernel)
theorem mF_X10_125_X8_0 : Cond.fieldLink RX10 125 (TX8 0).1 (TX8 0).2.1 (TX8 0).2.2.1 ∈ lwG := lwG_of 332 (by decide +kernel) (by decide +kernel)
theorem mF_X10_143_X7_0 : Cond.fieldLink RX10 143 (TX7 0).1 (TX7 0).2.1 (TX7 0).2.2.1 ∈ lwG := lwG_of 155 (by decide +kernel) (by decide +kernel)
theorem mF_X10_150_X7_1 : Cond.fieldLink RX10 150 (TX7 1).1 (TX7 1).2.1 (TX7 1).2.2.1 ∈ lwG := lwG_of 159 (by decide +kernel) (by decide +kernel)
theorem mF_X10_156_X5_0 : Cond.fieldLink RX10 156 (TX5 0).1 (TX5 0).2.1 (TX5 0).2.2.1 ∈ lwG := lwG_of 419 (by decide +kernel) (by decide +kernel)
theorem mF_X10_15_X10_1 : Cond.fieldLink RX10 15 (TX10 1).1 (TX10 1).2.1 (TX10 1).2.2.1 ∈ lwG := lwG_of 441 (by decide +kernel) (by decide +kernel)
theorem mF_X10_161_X5_1 : Cond.fieldLink RX10 161 (TX5 1).1 (TX5 1).2.1 (TX5 1).2.2.1 ∈ lwG := lwG_of 422 (by decide +kernel) (by decide +kernel)
theorem mF_X10_174_X8_5 : Cond.fieldLink RX10 174 (TX8 5).1 (TX8 5).2.1 (TX8 5).2.2.1 ∈ lwG := lwG_of 347 (by decide +kernel) (by decide +kernel)
theorem mF_X10_187_X8_3 : Cond.fieldLink RX10 187 (TX8 3).1 (TX8 3).2.1 (TX8 3).2.2.1 ∈ lwG := lwG_of 342 (by decide +kernel) (by decide +kernel)
theorem mF_X10_18_X10_2 : Cond.fieldLink RX10 18 (TX10 2).1 (TX10 2).2.1 (TX10 2).2.2.1 ∈ lwG := lwG_of 442 (by decide +kernel) (by decide +kernel)
theorem mF_X10_191_X7_3 : Cond.fieldLink RX10 191 (TX7 3).1 (TX7 3).2.1 (TX7 3).2.2.1 ∈ lwG := lwG_of 164 (by decide +kernel) (by decide +kernel)
theorem mF_X10_197_X0_6 : Cond.fieldLink RX10 197 (TX0 6).1 (TX0 6).2.1 (TX0 6).2.2.1 ∈ lwG := lwG_of 227 (by decide +kernel) (by decide +kernel)
theorem mF_X10_219_X8_6 : Cond.fieldLink RX10 219 (TX8 6).1 (TX8 6).2.1 (TX8 6).2.2.1 ∈ lwG := lwG_of 350 (by decide +kernel) (by decide +kernel)
theorem mF_X10_223_X6_1 : Cond.fieldLink RX10 223 (TX6 1).1 (TX6 1).2.1 (TX6 1).2.2.1 ∈ lwG := lwG_of 314 (by decide +kernel) (by decide +kernel)
theorem mF_X10_226_X6_3 : Cond.fieldLink RX10 226 (TX6 3).1 (TX6 3).2.1 (TX6 3).2.2.1 ∈ lwG := lwG_of 319 (by decide +kernel) (by decide +kernel)
theorem mF_X10_237_X6_0 : Cond.fieldLink RX10 237 (TX6 0).1 (TX6 0).2.1 (TX6 0).2.2.1 ∈ lwG := lwG_of 311 (by decide +kernel) (by decide +kernel)
theorem mF_X10_23_X10_3 : Cond.fieldLink RX10 23 (TX10 3).1 (TX10 3).2.1 (TX10 3).2.2.1 ∈ lwG := lwG_of 444 (by decide +kernel) (by decide +kernel)
theorem mF_X10_242_X8_1 : Cond.fieldLink RX10 242 (TX8 1).1 (TX8 1).2.1 (TX8 1).2.2.1 ∈ lwG := lwG_of 334 (by decide +kernel) (by decide +kernel)
theorem mF_X10_29_X10_6 : Cond.fieldLink RX10 29 (TX10 6).1 (TX10 6).2.1 (TX10 6).2.2.1 ∈ lwG := lwG_of 449 (by decide +kernel) (by decide +kernel)
theorem mF_X10_33_X10_7 : Cond.fieldLink RX10 33 (TX10 7).1 (TX10 7).2.1 (TX10 7).2.2.1 ∈ lwG := lwG_of 451 (by decide +kernel) (by decide +kernel)
theorem mF_X10_36_X10_8 : Cond.fieldLink RX10 36 (TX10 8).1 (TX10 8).2.1 (TX10 8).2.2.1 ∈ lwG := lwG_of 453 (by decide +kernel) (by decide +kernel)
theorem mF_X10_41_X10_9 : Cond.fieldLink RX10 41 (TX10 9).1 (TX10 9).2.1 (TX10 9).2.2.1 ∈ lwG := lwG_of 454 (by decide +kernel) (by decide +kernel)
theorem mF_X10_44_X10_10 : Cond.fieldLink RX10 44 (TX10 10).1 (TX10 10).2.1 (TX10 10).2.2.1 ∈ lwG := lwG_of 455 (by decide +kernel) (by decide +kernel)
theorem mF_X10_66_X2_0 : Cond.fieldLink RX10 66 (TX2 0).1 (TX2 0).2.1 (TX2 0).2.2.1 ∈ lwG := lwG_of 109 (by decide +kernel) (by decide +kernel)
theorem mF_X10_84_X8_2 : Cond.fieldLink RX10 84 (TX8 2).1 (TX8 2).2.1 (TX8 2).2.2.1 ∈ lwG := lwG_of 338 (by decide +kernel) (by decide +kernel)
theorem mF_X10_97_X8_4 : Cond.fieldLink RX10 97 (TX8 4).1 (TX8 4).2.1 (TX8 4).2.2.1 ∈ lwG := lwG_of 344 (by decide +kernel) (by decide +kernel)
theorem mF_X10_9_X10_0 : Cond.fieldLink RX10 9 (TX10 0).1 (TX10 0).2.1 (TX10 0).2.2.1 ∈ lwG := lwG_of 440 (by decide +kernel) (by decide +kernel)
theorem mF_X11_10_X11_0 : Cond.fieldLink RX11 10 (TX11 0).1 (TX11 0).2.1 (TX11 0).2.2.1 ∈ lwG := lwG_of 551 (by decide +kernel) (by decide +kernel)
theorem mF_X11_134_X10_2 : Cond.fieldLink RX11 134 (TX10 2).1 (TX10 2).2.1 (TX10 2).2.2.1 ∈ lwG := lwG_of 443 (by decide +kernel) (by decide +kernel)
theorem mF_X11_142_X8_3 : Cond.fieldLink RX11 142 (TX8 3).1 (TX8 3).2.1 (TX8 3).2.2.1 ∈ lwG := lwG_of 341 (by decide +kernel) (by decide +kernel)
theorem mF_X11_150_X7_6 : Cond.fieldLink RX11 150 (TX7 6).1 (TX7 6).2.1 (TX7 6).2.2.1 ∈ lwG := lwG_of 168 (by decide +kernel) (by decide +kernel)
theorem mF_X11_161_X8_4 : Cond.fieldLink RX11 161 (TX8 4).1 (TX8 4).2.1 (TX8 4).2.2.1 ∈ lwG := lwG_of 345 (by decide +kernel) (by decide +kernel)
theorem mF_X11_165_X0_0 : Cond.fieldLink RX11 165 (TX0 0).1 (TX0 0).2.1 (TX0 0).2.2.1 ∈ lwG := lwG_of 219 (by decide +kernel) (by decide +kernel)
theorem mF_X11_16_X11_1 : Cond.fieldLink RX11 16 (TX11 1).1 (TX11 1).2.1 (TX11 1).2.2.1 ∈ lwG := lwG_of 552 (by decide +kernel) (by decide +kernel)
theorem mF_X11_173_X9_2 : Cond.fieldLink RX11 173 (TX9 2).1 (TX9 2).2.1 (TX9 2).2.2.1 ∈ lwG := lwG_of 384 (by decide +kernel) (by decide +kernel)
theorem mF_X11_176_X9_3 : Cond.fieldLink RX11 176 (TX9 3).1 (TX9 3).2.1 (TX9 3).2.2.1 ∈ lwG := lwG_of 386 (by decide +kernel) (by decide +kernel)
theorem mF_X11_182_X5_0 : Cond.fieldLink RX11 182 (TX5 0).1 (TX5 0).2.1 (TX5 0).2.2.1 ∈ lwG := lwG_of 418 (by decide +kernel) (by decide +kernel)
theorem mF_X11_188_X5_1 : Cond.fieldLink RX11 188 (TX5 1).1 (TX5 1).2.1 (TX5 1).2.2.1 ∈ lwG := lwG_of 421 (by decide +kernel) (by decide +kernel)
theorem mF_X11_192_X5_2 : Cond.fieldLink RX11 192 (TX5 2).1 (TX5 2).2.1 (TX5 2).2.2.1 ∈ lwG := lwG_of 424 (by decide +kernel) (by decide +kernel)
theorem mF_X11_207_X10_4 : Cond.fieldLink RX11 207 (TX10 4).1 (TX10 4).2.1 (TX10 4).2.2.1 ∈ lwG := lwG_of 446 (by decide +kernel) (by decide +kernel)
theorem mF_X11_210_X10_5 : Cond.fieldLink RX11 210 (TX10 5).1 (TX10 5).2.1 (TX10 5).2.2.1 ∈ lwG := lwG_of 448 (by decide +kernel) (by decide +kernel)
theorem mF_X11_217_X8_5 : Cond.fieldLink RX11 217 (TX8 5).1 (TX8 5).2.1 (TX8 5).2.2.1 ∈ lwG := lwG_of 348 (by decide +kernel) (by decide +kernel)
theorem mF_X11_221_X7_1 : Cond.fieldLink RX11 221 (TX7 1).1 (TX7 1).2.1 (TX7 1).2.2.1 ∈ lwG := lwG_of 160 (by decide +kernel) (by decide +kernel)
theorem mF_X11_230_X1_3 : Cond.fieldLink RX11 230 (TX1 3).1 (TX1 3).2.1 (TX1 3).2.2.1 ∈ lwG := lwG_of 270 (by decide +kernel) (by decide +kernel)
theorem mF_X11_238_X1_1 : Cond.fieldLink RX11 238 (TX1 1).1 (TX1 1).2.1 (TX1 1).2.2.1 ∈ lwG := lwG_of 267 (by decide +kernel) (by decide +kernel)
theorem mF_X11_23_X11_2 : Cond.fieldLink RX11 23 (TX11 2).1 (TX11 2).2.1 (TX11 2).2.2.1 ∈ lwG := lwG_of 553 (by decide +kernel) (by decide +kernel)
theorem mF_X11_245_X7_2 : Cond.fieldLink RX11 245 (TX7 2).1 (TX7 2).2.1 (TX7 2).2.2.1 ∈ lwG := lwG_of 162 (by decide +kernel) (by decide +kernel)
theorem mF_X11_266_X8_6 : Cond.fieldLink RX11 266 (TX8 6).1 (TX8 6).2.1 (TX8 6).2.2.1 ∈ lwG := lwG_of 351 (by decide +kernel) (by decide +kernel)
theorem mF_X11_276_X6_3 : Cond.fieldLink RX11 276 (TX6 3).1 (TX6 3).2.1 (TX6 3).2.2.1 ∈ lwG := lwG_of 320 (by decide +kernel) (by decide +kernel)
theorem mF_X11_289_X6_1 : Cond.fieldLink RX11 289 (TX6 1).1 (TX6 1).2.1 (TX6 1).2.2.1 ∈ lwG := lwG_of 315 (by decide +kernel) (by decide +kernel)
theorem mF_X11_290_X6_2 : Cond.fieldLink RX11 290 (TX6 2).1 (TX6 2).2.1 (TX6 2).2.2.1 ∈ lwG := lwG_of 317 (by decide +kernel) (by decide +kernel)
theorem mF_X11_296_X6_0 : Cond.fieldLink RX11 296 (TX6 0).1 (TX6 0).2.1 (TX6 0).2.2.1 ∈ lwG := lwG_of 312 (by decide +kernel) (by decide +kernel)
theorem mF_X11_303_X4_0 : Cond.fieldLink RX11 303 (TX4 0).1 (TX4 0).2.1 (TX4 0).2.2.1 ∈ lwG := lwG_of 489 (by decide +kernel) (by decide +kernel)
theorem mF_X11_306_X3_0 : Cond.fieldLink RX11 306 (TX3 0).1 (TX3 0).2.1 (TX3 0).2.2.1 ∈ lwG := lwG_of 516 (by decide +kernel) (by decide +kernel)
theorem mF_X11_309_X3_1 : Cond.fieldLink RX11 309 (TX3 1).1 (TX3 1).2.1 (TX3 1).2.2.1 ∈ lwG := lwG_of 518 (by decide +kernel) (by decide +kernel)
theorem mF_X11_30_X11_3 : Cond.fieldLink RX11 30 (TX11 3).1 (TX11 3).2.1 (TX11 3).2.2.1 ∈ lwG := lwG_of 554 (by decide +kernel) (by decide +kernel)
theorem mF_X11_318_X3_4 : Cond.fieldLink RX11 318 (TX3 4).1 (TX3 4).2.1 (TX3 4).2.2.1 ∈ lwG := lwG_of 522 (by decide +kernel) (by decide +kernel)
theorem mF_X11_321_X3_5 : Cond.fieldLink RX11 321 (TX3 5).1 (TX3 5).2.1 (TX3 5).2.2.1 ∈ lwG := lwG_of 524 (by decide +kernel) (by decide +kernel)
theorem mF_X11_324_X2_0 : Cond.fieldLink RX11 324 (TX2 0).1 (TX2 0).2.1 (TX2 0).2.2.1 ∈ lwG := lwG_of 110 (by decide +kernel) (by decide +kernel)
theorem mF_X11_325_X7_0 : Cond.fieldLink RX11 325 (TX7 0).1 (TX7 0).2.1 (TX7 0).2.2.1 ∈ lwG := lwG_of 156 (by decide +kernel) (by decide +kernel)
theorem mF_X11_327_X1_0 : Cond.fieldLink RX11 327 (TX1 0).1 (TX1 0).2.1 (TX1 0).2.2.1 ∈ lwG := lwG_of 265 (by decide +kernel) (by decide +kernel)
theorem mF_X11_330_X2_7 : Cond.fieldLink RX11 330 (TX2 7).1 (TX2 7).2.1 (TX2 7).2.2.1 ∈ lwG := lwG_of 118 (by decide +kernel) (by decide +kernel)
theorem mF_X11_37_X11_4 : Cond.fieldLink RX11 37 (TX11 4).1 (TX11 4).2.1 (TX11 4).2.2.1 ∈ lwG := lwG_of 555 (by decide +kernel) (by decide +kernel)
theorem mF_X11_44_X11_5 : Cond.fieldLink RX11 44 (TX11 5).1 (TX11 5).2.1 (TX11 5).2.2.1 ∈ lwG := lwG_of 556 (by decide +kernel) (by decide +kernel)
theorem mF_X11_51_X11_6 : Cond.fieldLink RX11 51 (TX11 6).1 (TX11 6).2.1 (TX11 6).2.2.1 ∈ lwG := lwG_of 557 (by decide +kernel) (by decide +kernel)
theorem mF_X11_55_X11_7 : Cond.fieldLink RX11 55 (TX11 7).1 (TX11 7).2.1 (TX11 7).2.2.1 ∈ lwG := lwG_of 558 (by decide +kernel) (by decide +kernel)
theorem mF_X11_59_X11_8 : Cond.fieldLink RX11 59 (TX11 8).1 (TX11 8).2.1 (TX11 8).2.2.1 ∈ lwG := lwG_of 559 (by decide +kernel) (by decide +kernel)
theorem mF_X11_63_X11_9 : Cond.fieldLink RX11 63 (TX11 9).1 (TX11 9).2.1 (TX11 9).2.2.1 ∈ lwG := lwG_of 560 (by decide +kernel) (by decide +kernel)
theorem mF_X11_72_X9_1 : Cond.fieldLink RX11 72 (TX9 1).1 (TX9 1).2.1 (TX9 1).2.2.1 ∈ lwG := lwG_of 377 (by decide +kernel) (by decide +kernel)
theorem mF_X11_84_X8_0 : Cond.fieldLink RX11 84 (TX8 0).1 (TX8 0).2.1 (TX8 0).2.2.1 ∈ lwG := lwG_of 331 (by decide +kernel) (by decide +kernel)
theorem mF_X11_87_X8_2 : Cond.fieldLink RX11 87 (TX8 2).1 (TX8 2).2.1 (TX8 2).2.2.1 ∈ lwG := lwG_of 337 (by decide +kernel) (by decide +kernel)
theorem mF_X12_101_X12_46 : Cond.fieldLink RX12 101 (TX12 46).1 (TX12 46).2.1 (TX12 46).2.2.1 ∈ lwG := lwG_of 1365 (by decide +kernel) (by decide +kernel)
theorem mF_X12_104_X12_47 : Cond.fieldLink RX12 104 (TX12 47).1 (TX12 47).2.1 (TX12 47).2.2.1 ∈ lwG := lwG_of 1366 (by decide +kernel) (by decide +kernel)
theorem mF_X12_107_X12_48 : Cond.fieldLink RX12 107 (TX12 48).1 (TX12 48).2.1 (TX12 48).2.2.1 ∈ lwG := lwG_of 1367 (by decide +kernel) (by decide +kernel)
theorem mF_X12_110_X12_49 : Cond.fieldLink RX12 110 (TX12 49).1 (TX12 49).2.1 (TX12 49).2.2.1 ∈ lwG := lwG_of 1368 (by decide +kernel) (by decide +kernel)
theorem mF_X12_113_X12_50 : Cond.fieldLink RX12 113 (TX12 50).1 (TX12 50).2.1 (TX12 50).2.2.1 ∈ lwG := lwG_of 1369 (by decide +kernel) (by decide +kernel)
theorem mF_X12_117_X12_51 : Cond.fieldLink RX12 117 (TX12 51).1 (TX12 51).2.1 (TX12 51).2.2.1 ∈ lwG := lwG_of 1370 (by decide +kernel) (by decide +kernel)
theorem mF_X12_131_X12_5 : Cond.fieldLink RX12 131 (TX12 5).1 (TX12 5).2.1 (TX12 5).2.2.1 ∈ lwG := lwG_of 1324 (by decide +kernel) (by decide +kernel)
theorem mF_X12_14_X12_2 : Cond.fieldLink RX12 14 (TX12 2).1 (TX12 2).2.1 (TX12 2).2.2.1 ∈ lwG := lwG_of 1321 (by decide +kernel) (by decide +kernel)
theorem mF_X12_176_X12_10 : Cond.fieldLink RX12 176 (TX12 10).1 (TX12 10).2.1 (TX12 10).2.2.1 ∈ lwG := lwG_of 1329 (by decide +kernel) (by decide +kernel)
theorem mF_X12_179_X12_11 : Cond.fieldLink RX12 179 (TX12 11).1 (TX12 11).2.1 (TX12 11).2.2.1 ∈ lwG := lwG_of 1330 (by decide +kernel) (by decide +kernel)
theorem mF_X12_17_X12_3 : Cond.fieldLink RX12 17 (TX12 3).1 (TX12 3).2.1 (TX12 3).2.2.1 ∈ lwG := lwG_of 1322 (by decide +kernel) (by decide +kernel)
theorem mF_X12_185_X12_12 : Cond.fieldLink RX12 185 (TX12 12).1 (TX12 12).2.1 (TX12 12).2.2.1 ∈ lwG := lwG_of 1331 (by decide +kernel) (by decide +kernel)
theorem mF_X12_188_X12_13 : Cond.fieldLink RX12 188 (TX12 13).1 (TX12 13).2.1 (TX12 13).2.2.1 ∈ lwG := lwG_of 1332 (by decide +kernel) (by decide +kernel)
theorem mF_X12_191_X12_17 : Cond.fieldLink RX12 191 (TX12 17).1 (TX12 17).2.1 (TX12 17).2.2.1 ∈ lwG := lwG_of 1336 (by decide +kernel) (by decide +kernel)
theorem mF_X12_199_X12_14 : Cond.fieldLink RX12 199 (TX12 14).1 (TX12 14).2.1 (TX12 14).2.2.1 ∈ lwG := lwG_of 1333 (by decide +kernel) (by decide +kernel)
theorem mF_X12_203_X12_15 : Cond.fieldLink RX12 203 (TX12 15).1 (TX12 15).2.1 (TX12 15).2.2.1 ∈ lwG := lwG_of 1334 (by decide +kernel) (by decide +kernel)
theorem mF_X12_21_X12_4 : Cond.fieldLink RX12 21 (TX12 4).1 (TX12 4).2.1 (TX12 4).2.2.1 ∈ lwG := lwG_of 1323 (by decide +kernel) (by decide +kernel)
theorem mF_X12_258_X12_21 : Cond.fieldLink RX12 258 (TX12 21).1 (TX12 21).2.1 (TX12 21).2.2.1 ∈ lwG := lwG_of 1340 (by decide +kernel) (by decide +kernel)
theorem mF_X12_25_X12_6 : Cond.fieldLink RX12 25 (TX12 6).1 (TX12 6).2.1 (TX12 6).2.2.1 ∈ lwG := lwG_of 1325 (by decide +kernel) (by decide +kernel)
theorem mF_X12_279_X12_24 : Cond.fieldLink RX12 279 (TX12 24).1 (TX12 24).2.1 (TX12 24).2.2.1 ∈ lwG := lwG_of 1343 (by decide +kernel) (by decide +kernel)
theorem mF_X12_28_X12_7 : Cond.fieldLink RX12 28 (TX12 7).1 (TX12 7).2.1 (TX12 7).2.2.1 ∈ lwG := lwG_of 1326 (by decide +kernel) (by decide +kernel)
theorem mF_X12_291_X12_26 : Cond.fieldLink RX12 291 (TX12 26).1 (TX12 26).2.1 (TX12 26).2.2.1 ∈ lwG := lwG_of 1345 (by decide +kernel) (by decide +kernel)
theorem mF_X12_31_X12_8 : Cond.fieldLink RX12 31 (TX12 8).1 (TX12 8).2.1 (TX12 8).2.2.1 ∈ lwG := lwG_of 1327 (by decide +kernel) (by decide +kernel)
theorem mF_X12_34_X12_9 : Cond.fieldLink RX12 34 (TX12 9).1 (TX12 9).2.1 (TX12 9).2.2.1 ∈ lwG := lwG_of 1328 (by decide +kernel) (by decide +kernel)
theorem mF_X12_37_X12_16 : Cond.fieldLink RX12 37 (TX12 16).1 (TX12 16).2.1 (TX12 16).2.2.1 ∈ lwG := lwG_of 1335 (by decide +kernel) (by decide +kernel)
theorem mF_X12_417_X12_30 : Cond.fieldLink RX12 417 (TX12 30).1 (TX12 30).2.1 (TX12 30).2.2.1 ∈ lwG := lwG_of 1349 (by decide +kernel) (by decide +kernel)
theorem mF_X12_41_X12_18 : Cond.fieldLink RX12 41 (TX12 18).1 (TX12 18).2.1 (TX12 18).2.2.1 ∈ lwG := lwG_of 1337 (by decide +kernel) (by decide +kernel)
theorem mF_X12_430_X12_34 : Cond.fieldLink RX12 430 (TX12 34).1 (TX12 34).2.1 (TX12 34).2.2.1 ∈ lwG := lwG_of 1353 (by decide +kernel) (by decide +kernel)
theorem mF_X12_435_X12_37 : Cond.fieldLink RX12 435 (TX12 37).1 (TX12 37).2.1 (TX12 37).2.2.1 ∈ lwG := lwG_of 1356 (by decide +kernel) (by decide +kernel)
theorem mF_X12_438_X12_45 : Cond.fieldLink RX12 438 (TX12 45).1 (TX12 45).2.1 (TX12 45).2.2.1 ∈ lwG := lwG_of 1364 (by decide +kernel) (by decide +kernel)
theorem mF_X12_441_X12_40 : Cond.fieldLink RX12 441 (TX12 40).1 (TX12 40).2.1 (TX12 40).2.2.1 ∈ lwG := lwG_of 1359 (by decide +kernel) (by decide +kernel)
theorem mF_X12_44_X12_19 : Cond.fieldLink RX12 44 (TX12 19).1 (TX12 19).2.1 (TX12 19).2.2.1 ∈ lwG := lwG_of 1338 (by decide +kernel) (by decide +kernel)
theorem mF_X12_47_X12_20 : Cond.fieldLink RX12 47 (TX12 20).1 (TX12 20).2.1 (TX12 20).2.2.1 ∈ lwG := lwG_of 1339 (by decide +kernel) (by decide +kernel)
theorem mF_X12_50_X12_22 : Cond.fieldLink RX12 50 (TX12 22).1 (TX12 22).2.1 (TX12 22).2.2.1 ∈ lwG := lwG_of 1341 (by decide +kernel) (by decide +kernel)
theorem mF_X12_53_X12_23 : Cond.fieldLink RX12 53 (TX12 23).1 (TX12 23).2.1 (TX12 23).2.2.1 ∈ lwG := lwG_of 1342 (by decide +kernel) (by decide +kernel)
theorem mF_X12_56_X12_25 : Cond.fieldLink RX12 56 (TX12 25).1 (TX12 25).2.1 (TX12 25).2.2.1 ∈ lwG := lwG_of 1344 (by decide +kernel) (by decide +kernel)
theorem mF_X12_59_X12_27 : Cond.fieldLink RX12 59 (TX12 27).1 (TX12 27).2.1 (TX12 27).2.2.1 ∈ lwG := lwG_of 1346 (by decide +kernel) (by decide +kernel)
theorem mF_X12_62_X12_28 : Cond.fieldLink RX12 62 (TX12 28).1 (TX12 28).2.1 (TX12 28).2.2.1 ∈ lwG := lwG_of 1347 (by decide +kernel) (by decide +kernel)
theorem mF_X12_65_X12_29 : Cond.fieldLink RX12 65 (TX12 29).1 (TX12 29).2.1 (TX12 29).2.2.1 ∈ lwG := lwG_of 1348 (by decide +kernel) (by decide +kernel)
theorem mF_X12_68_X12_31 : Cond.fieldLink RX12 68 (TX12 31).1 (TX12 31).2.1 (TX12 31).2.2.1 ∈ lwG := lwG_of 1350 (by decide +kernel) (by decide +kernel)
theorem mF_X12_71_X12_32 : Cond.fieldLink RX12 71 (TX12 32).1 (TX12 32).2.1 (TX12 32).2.2.1 ∈ lwG := lwG_of 1351 (by decide +kernel) (by decide +kernel)
theorem mF_X12_74_X12_33 : Cond.fieldLink RX12 74 (TX12 33).1 (TX12 33).2.1 (TX12 33).2.2.1 ∈ lwG := lwG_of 1352 (by decide +kernel) (by decide +kernel)
theorem mF_X12_77_X12_35 : Cond.fieldLink RX12 77 (TX12 35).1 (TX12 35).2.1 (TX12 35).2.2.1 ∈ lwG := lwG_of 1354 (by decide +kernel) (by decide +kernel)
theorem mF_X12_80_X12_36 : Cond.fieldLink RX12 80 (TX12 36).1 (TX12 36).2.1 (TX12 36).2.2.1 ∈ lwG := lwG_of 1355 (by decide +kernel) (by decide +kernel)
theorem mF_X12_83_X12_38 : Cond.fieldLink RX12 83 (TX12 38).1 (TX12 38).2.1 (TX12 38).2.2.1 ∈ lwG := lwG_of 1357 (by decide +kernel) (by decide +kernel)
theorem mF_X12_86_X12_39 : Cond.fieldLink RX12 86 (TX12 39).1 (TX12 39).2.1 (TX12 39).2.2.1 ∈ lwG := lwG_of 1358 (by decide +kernel) (by decide +kernel)
theorem mF_X12_89_X12_41 : Cond.fieldLink RX12 89 (TX12 41).1 (TX12 41).2.1 (TX12 41).2.2.1 ∈ lwG := lwG_of 1360 (by decide +kernel) (by decide +kernel)
theorem mF_X12_92_X12_42 : Cond.fieldLink RX12 92 (TX12 42).1 (TX12 42).2.1 (TX12 42).2.2.1 ∈ lwG := lwG_of 1361 (by decide +kernel) (by decide +kernel)
theorem mF_X12_95_X12_43 : Cond.fieldLink RX12 95 (TX12 43).1 (TX12 43).2.1 (TX12 43).2.2.1 ∈ lwG := lwG_of 1362 (by decide +kernel) (by decide +kernel)
theorem mF_X12_98_X12_44 : Cond.fieldLink RX12 98 (TX12 44).1 (TX12 44).2.1 (TX12 44).2.2.1 ∈ lwG := lwG_of 1363 (by decide +kernel) (by decide +kernel)
theorem mF_X12_9_X12_1 : Cond.fieldLink RX12 9 (TX12 1).1 (TX12 1).2.1 (TX12 1).2.2.1 ∈ lwG := lwG_of 1320 (by decide +kernel) (by decide +kernel)
theorem mF_X1_11_X1_1 : Cond.fieldLink RX1 11 (TX1 1).1 (TX1 1).2.1 (TX1 1).2.2.1 ∈ lwG := lwG_of 266 (by decide +kernel) (by decide +kernel)
theorem mF_X1_15_X1_2 : Cond.fieldLink RX1 15 (TX1 2).1 (TX1 2).2.1 (TX1 2).2.2.1 ∈ lwG := lwG_of 268 (by decide +kernel) (by decide +kernel)
theorem mF_X1_18_X1_3 : Cond.fieldLink RX1 18 (TX1 3).1 (TX1 3).2.1 (TX1 3).2.2.1 ∈ lwG := lwG_of 269 (by decide +kernel) (by decide +kernel)
theorem mF_X1_22_X1_4 : Cond.fieldLink RX1 22 (TX1 4).1 (TX1 4).2.1 (TX1 4).2.2.1 ∈ lwG := lwG_of 271 (by decide +kernel) (by decide +kernel)
theorem mF_X1_25_X1_5 : Cond.fieldLink RX1 25 (TX1 5).1 (TX1 5).2.1 (TX1 5).2.2.1 ∈ lwG := lwG_of 272 (by decide +kernel) (by decide +kernel)
theorem mF_X1_28_X1_7 : Cond.fieldLink RX1 28 (TX1 7).1 (TX1 7).2.1 (TX1 7).2.2.1 ∈ lwG := lwG_of 274 (by decide +kernel) (by decide +kernel)
theorem mF_X1_31_X1_8 : Cond.fieldLink RX1 31 (TX1 8).1 (TX1 8).2.1 (TX1 8).2.2.1 ∈ lwG := lwG_of 275 (by decide +kernel) (by decide +kernel)
theorem mF_X1_34_X1_9 : Cond.fieldLink RX1 34 (TX1 9).1 (TX1 9).2.1 (TX1 9).2.2.1 ∈ lwG := lwG_of 276 (by decide +kernel) (by decide +kernel)
theorem mF_X1_37_X1_10 : Cond.fieldLink RX1 37 (TX1 10).1 (TX1 10).2.1 (TX1 10).2.2.1 ∈ lwG := lwG_of 277 (by decide +kernel) (by decide +kernel)
theorem mF_X1_40_X1_11 : Cond.fieldLink RX1 40 (TX1 11).1 (TX1 11).2.1 (TX1 11).2.2.1 ∈ lwG := lwG_of 278 (by decide +kernel) (by decide +kernel)
theorem mF_X1_43_X1_0 : Cond.fieldLink RX1 43 (TX1 0).1 (TX1 0).2.1 (TX1 0).2.2.1 ∈ lwG := lwG_of 264 (by decide +kernel) (by decide +kernel)
theorem mF_X1_53_X1_6 : Cond.fieldLink RX1 53 (TX1 6).1 (TX1 6).2.1 (TX1 6).2.2.1 ∈ lwG := lwG_of 273 (by decide +kernel) (by decide +kernel)
theorem mF_X2_15_X2_2 : Cond.fieldLink RX2 15 (TX2 2).1 (TX2 2).2.1 (TX2 2).2.2.1 ∈ lwG := lwG_of 112 (by decide +kernel) (by decide +kernel)
theorem mF_X2_18_X2_4 : Cond.fieldLink RX2 18 (TX2 4).1 (TX2 4).2.1 (TX2 4).2.2.1 ∈ lwG := lwG_of 114 (by decide +kernel) (by decide +kernel)
theorem mF_X2_21_X2_5 : Cond.fieldLink RX2 21 (TX2 5).1 (TX2 5).2.1 (TX2 5).2.2.1 ∈ lwG := lwG_of 115 (by decide +kernel) (by decide +kernel)
theorem mF_X2_24_X2_6 : Cond.fieldLink RX2 24 (TX2 6).1 (TX2 6).2.1 (TX2 6).2.2.1 ∈ lwG := lwG_of 116 (by decide +kernel) (by decide +kernel)
theorem mF_X2_27_X2_8 : Cond.fieldLink RX2 27 (TX2 8).1 (TX2 8).2.1 (TX2 8).2.2.1 ∈ lwG := lwG_of 119 (by decide +kernel) (by decide +kernel)
theorem mF_X2_30_X2_9 : Cond.fieldLink RX2 30 (TX2 9).1 (TX2 9).2.1 (TX2 9).2.2.1 ∈ lwG := lwG_of 120 (by decide +kernel) (by decide +kernel)
theorem mF_X2_33_X2_10 : Cond.fieldLink RX2 33 (TX2 10).1 (TX2 10).2.1 (TX2 10).2.2.1 ∈ lwG := lwG_of 121 (by decide +kernel) (by decide +kernel)
theorem mF_X2_36_X2_0 : Cond.fieldLink RX2 36 (TX2 0).1 (TX2 0).2.1 (TX2 0).2.2.1 ∈ lwG := lwG_of 107 (by decide +kernel) (by decide +kernel)
theorem mF_X2_40_X2_3 : Cond.fieldLink RX2 40 (TX2 3).1 (TX2 3).2.1 (TX2 3).2.2.1 ∈ lwG := lwG_of 113 (by decide +kernel) (by decide +kernel)
theorem mF_X2_49_X2_7 : Cond.fieldLink RX2 49 (TX2 7).1 (TX2 7).2.1 (TX2 7).2.2.1 ∈ lwG := lwG_of 117 (by decide +kernel) (by decide +kernel)
theorem mF_X2_9_X2_1 : Cond.fieldLink RX2 9 (TX2 1).1 (TX2 1).2.1 (TX2 1).2.2.1 ∈ lwG := lwG_of 111 (by decide +kernel) (by decide +kernel)
theorem mF_X3_108_X10_7 : Cond.fieldLink RX3 108 (TX10 7).1 (TX10 7).2.1 (TX10 7).2.2.1 ∈ lwG := lwG_of 452 (by decide +kernel) (by decide +kernel)
theorem mF_X3_143_X3_4 : Cond.fieldLink RX3 143 (TX3 4).1 (TX3 4).2.1 (TX3 4).2.2.1 ∈ lwG := lwG_of 521 (by decide +kernel) (by decide +kernel)
theorem mF_X3_15_X3_2 : Cond.fieldLink RX3 15 (TX3 2).1 (TX3 2).2.1 (TX3 2).2.2.1 ∈ lwG := lwG_of 519 (by decide +kernel) (by decide +kernel)
theorem mF_X3_19_X3_3 : Cond.fieldLink RX3 19 (TX3 3).1 (TX3 3).2.1 (TX3 3).2.2.1 ∈ lwG := lwG_of 520 (by decide +kernel) (by decide +kernel)
theorem mF_X3_23_X3_5 : Cond.fieldLink RX3 23 (TX3 5).1 (TX3 5).2.1 (TX3 5).2.2.1 ∈ lwG := lwG_of 523 (by decide +kernel) (by decide +kernel)
theorem mF_X3_26_X3_7 : Cond.fieldLink RX3 26 (TX3 7).1 (TX3 7).2.1 (TX3 7).2.2.1 ∈ lwG := lwG_of 526 (by decide +kernel) (by decide +kernel)
theorem mF_X3_29_X3_8 : Cond.fieldLink RX3 29 (TX3 8).1 (TX3 8).2.1 (TX3 8).2.2.1 ∈ lwG := lwG_of 527 (by decide +kernel) (by decide +kernel)
theorem mF_X3_32_X3_9 : Cond.fieldLink RX3 32 (TX3 9).1 (TX3 9).2.1 (TX3 9).2.2.1 ∈ lwG := lwG_of 528 (by decide +kernel) (by decide +kernel)
theorem mF_X3_35_X3_1 : Cond.fieldLink RX3 35 (TX3 1).1 (TX3 1).2.1 (TX3 1).2.2.1 ∈ lwG := lwG_of 517 (by decide +kernel) (by decide +kernel)
theorem mF_X3_38_X9_1 : Cond.fieldLink RX3 38 (TX9 1).1 (TX9 1).2.1 (TX9 1).2.2.1 ∈ lwG := lwG_of 379 (by decide +kernel) (by decide +kernel)
theorem mF_X3_41_X9_0 : Cond.fieldLink RX3 41 (TX9 0).1 (TX9 0).2.1 (TX9 0).2.2.1 ∈ lwG := lwG_of 375 (by decide +kernel) (by decide +kernel)
theorem mF_X3_54_X3_6 : Cond.fieldLink RX3 54 (TX3 6).1 (TX3 6).2.1 (TX3 6).2.2.1 ∈ lwG := lwG_of 525 (by decide +kernel) (by decide +kernel)
theorem mF_X3_61_X8_2 : Cond.fieldLink RX3 61 (TX8 2).1 (TX8 2).2.1 (TX8 2).2.2.1 ∈ lwG := lwG_of 336 (by decide +kernel) (by decide +kernel)
theorem mF_X3_78_X2_0 : Cond.fieldLink RX3 78 (TX2 0).1 (TX2 0).2.1 (TX2 0).2.2.1 ∈ lwG := lwG_of 108 (by decide +kernel) (by decide +kernel)
theorem mF_X3_81_X8_3 : Cond.fieldLink RX3 81 (TX8 3).1 (TX8 3).2.1 (TX8 3).2.2.1 ∈ lwG := lwG_of 340 (by decide +kernel) (by decide +kernel)
theorem mF_X3_85_X7_0 : Cond.fieldLink RX3 85 (TX7 0).1 (TX7 0).2.1 (TX7 0).2.2.1 ∈ lwG := lwG_of 154 (by decide +kernel) (by decide +kernel)
theorem mF_X3_90_X7_1 : Cond.fieldLink RX3 90 (TX7 1).1 (TX7 1).2.1 (TX7 1).2.2.1 ∈ lwG := lwG_of 158 (by decide +kernel) (by decide +kernel)
theorem mF_X3_91_X10_6 : Cond.fieldLink RX3 91 (TX10 6).1 (TX10 6).2.1 (TX10 6).2.2.1 ∈ lwG := lwG_of 450 (by decide +kernel) (by decide +kernel)
theorem mF_X3_97_X5_0 : Cond.fieldLink RX3 97 (TX5 0).1 (TX5 0).2.1 (TX5 0).2.2.1 ∈ lwG := lwG_of 417 (by decide +kernel) (by decide +kernel)
theorem mF_X3_9_X3_0 : Cond.fieldLink RX3 9 (TX3 0).1 (TX3 0).2.1 (TX3 0).2.2.1 ∈ lwG := lwG_of 515 (by decide +kernel) (by decide +kernel)
theorem mF_X4_13_X4_0 : Cond.fieldLink RX4 13 (TX4 0).1 (TX4 0).2.1 (TX4 0).2.2.1 ∈ lwG := lwG_of 488 (by decide +kernel) (by decide +kernel)
theorem mF_X4_17_X4_2 : Cond.fieldLink RX4 17 (TX4 2).1 (TX4 2).2.1 (TX4 2).2.2.1 ∈ lwG := lwG_of 491 (by decide +kernel) (by decide +kernel)
theorem mF_X4_20_X4_3 : Cond.fieldLink RX4 20 (TX4 3).1 (TX4 3).2.1 (TX4 3).2.2.1 ∈ lwG := lwG_of 492 (by decide +kernel) (by decide +kernel)
theorem mF_X4_23_X4_4 : Cond.fieldLink RX4 23 (TX4 4).1 (TX4 4).2.1 (TX4 4).2.2.1 ∈ lwG := lwG_of 493 (by decide +kernel) (by decide +kernel)
theorem mF_X4_27_X4_5 : Cond.fieldLink RX4 27 (TX4 5).1 (TX4 5).2.1 (TX4 5).2.2.1 ∈ lwG := lwG_of 494 (by decide +kernel) (by decide +kernel)
theorem mF_X4_36_X4_1 : Cond.fieldLink RX4 36 (TX4 1).1 (TX4 1).2.1 (TX4 1).2.2.1 ∈ lwG := lwG_of 490 (by decide +kernel) (by decide +kernel)
theorem mF_X5_13_X5_2 : Cond.fieldLink RX5 13 (TX5 2).1 (TX5 2).2.1 (TX5 2).2.2.1 ∈ lwG := lwG_of 423 (by decide +kernel) (by decide +kernel)
theorem mF_X5_17_X5_0 : Cond.fieldLink RX5 17 (TX5 0).1 (TX5 0).2.1 (TX5 0).2.2.1 ∈ lwG := lwG_of 416 (by decide +kernel) (by decide +kernel)
theorem mF_X5_9_X5_1 : Cond.fieldLink RX5 9 (TX5 1).1 (TX5 1).2.1 (TX5 1).2.2.1 ∈ lwG := lwG_of 420 (by decide +kernel) (by decide +kernel)
theorem mF_X6_11_X6_1 : Cond.fieldLink RX6 11 (TX6 1).1 (TX6 1).2.1 (TX6 1).2.2.1 ∈ lwG := lwG_of 313 (by decide +kernel) (by decide +kernel)
theorem mF_X6_15_X6_2 : Cond.fieldLink RX6 15 (TX6 2).1 (TX6 2).2.1 (TX6 2).2.2.1 ∈ lwG := lwG_of 316 (by decide +kernel) (by decide +kernel)
theorem mF_X6_18_X6_3 : Cond.fieldLink RX6 18 (TX6 3).1 (TX6 3).2.1 (TX6 3).2.2.1 ∈ lwG := lwG_of 318 (by decide +kernel) (by decide +kernel)
theorem mF_X6_21_X6_0 : Cond.fieldLink RX6 21 (TX6 0).1 (TX6 0).2.1 (TX6 0).2.2.1 ∈ lwG := lwG_of 310 (by decide +kernel) (by decide +kernel)
theorem mF_X7_100_X9_2 : Cond.fieldLink RX7 100 (TX9 2).1 (TX9 2).2.1 (TX9 2).2.2.1 ∈ lwG := lwG_of 382 (by decide +kernel) (by decide +kernel)
theorem mF_X7_11_X7_1 : Cond.fieldLink RX7 11 (TX7 1).1 (TX7 1).2.1 (TX7 1).2.2.1 ∈ lwG := lwG_of 157 (by decide +kernel) (by decide +kernel)
theorem mF_X7_125_X9_4 : Cond.fieldLink RX7 125 (TX9 4).1 (TX9 4).2.1 (TX9 4).2.2.1 ∈ lwG := lwG_of 387 (by decide +kernel) (by decide +kernel)
theorem mF_X7_128_X9_5 : Cond.fieldLink RX7 128 (TX9 5).1 (TX9 5).2.1 (TX9 5).2.2.1 ∈ lwG := lwG_of 390 (by decide +kernel) (by decide +kernel)
theorem mF_X7_15_X7_2 : Cond.fieldLink RX7 15 (TX7 2).1 (TX7 2).2.1 (TX7 2).2.2.1 ∈ lwG := lwG_of 161 (by decide +kernel) (by decide +kernel)
theorem mF_X7_18_X7_3 : Cond.fieldLink RX7 18 (TX7 3).1 (TX7 3).2.1 (TX7 3).2.2.1 ∈ lwG := lwG_of 163 (by decide +kernel) (by decide +kernel)
theorem mF_X7_21_X7_4 : Cond.fieldLink RX7 21 (TX7 4).1 (TX7 4).2.1 (TX7 4).2.2.1 ∈ lwG := lwG_of 165 (by decide +kernel) (by decide +kernel)
theorem mF_X7_24_X7_5 : Cond.fieldLink RX7 24 (TX7 5).1 (TX7 5).2.1 (TX7 5).2.2.1 ∈ lwG := lwG_of 166 (by decide +kernel) (by decide +kernel)
theorem mF_X7_28_X7_7 : Cond.fieldLink RX7 28 (TX7 7).1 (TX7 7).2.1 (TX7 7).2.2.1 ∈ lwG := lwG_of 169 (by decide +kernel) (by decide +kernel)
theorem mF_X7_31_X7_8 : Cond.fieldLink RX7 31 (TX7 8).1 (TX7 8).2.1 (TX7 8).2.2.1 ∈ lwG := lwG_of 170 (by decide +kernel) (by decide +kernel)
theorem mF_X7_34_X7_9 : Cond.fieldLink RX7 34 (TX7 9).1 (TX7 9).2.1 (TX7 9).2.2.1 ∈ lwG := lwG_of 171 (by decide +kernel) (by decide +kernel)
theorem mF_X7_37_X7_10 : Cond.fieldLink RX7 37 (TX7 10).1 (TX7 10).2.1 (TX7 10).2.2.1 ∈ lwG := lwG_of 172 (by decide +kernel) (by decide +kernel)
theorem mF_X7_40_X7_11 : Cond.fieldLink RX7 40 (TX7 11).1 (TX7 11).2.1 (TX7 11).2.2.1 ∈ lwG := lwG_of 173 (by decide +kernel) (by decide +kernel)
theorem mF_X7_43_X7_12 : Cond.fieldLink RX7 43 (TX7 12).1 (TX7 12).2.1 (TX7 12).2.2.1 ∈ lwG := lwG_of 174 (by decide +kernel) (by decide +kernel)
theorem mF_X7_46_X7_13 : Cond.fieldLink RX7 46 (TX7 13).1 (TX7 13).2.1 (TX7 13).2.2.1 ∈ lwG := lwG_of 175 (by decide +kernel) (by decide +kernel)
theorem mF_X7_49_X7_14 : Cond.fieldLink RX7 49 (TX7 14).1 (TX7 14).2.1 (TX7 14).2.2.1 ∈ lwG := lwG_of 176 (by decide +kernel) (by decide +kernel)
theorem mF_X7_52_X7_15 : Cond.fieldLink RX7 52 (TX7 15).1 (TX7 15).2.1 (TX7 15).2.2.1 ∈ lwG := lwG_of 177 (by decide +kernel) (by decide +kernel)
theorem mF_X7_55_X7_0 : Cond.fieldLink RX7 55 (TX7 0).1 (TX7 0).2.1 (TX7 0).2.2.1 ∈ lwG := lwG_of 153 (by decide +kernel) (by decide +kernel)
theorem mF_X7_59_X9_1 : Cond.fieldLink RX7 59 (TX9 1).1 (TX9 1).2.1 (TX9 1).2.2.1 ∈ lwG := lwG_of 380 (by decide +kernel) (by decide +kernel)
theorem mF_X7_64_X9_0 : Cond.fieldLink RX7 64 (TX9 0).1 (TX9 0).2.1 (TX9 0).2.2.1 ∈ lwG := lwG_of 376 (by decide +kernel) (by decide +kernel)
theorem mF_X7_93_X7_6 : Cond.fieldLink RX7 93 (TX7 6).1 (TX7 6).2.1 (TX7 6).2.2.1 ∈ lwG := lwG_of 167 (by decide +kernel) (by decide +kernel)
theorem mF_X8_18_X8_2 : Cond.fieldLink RX8 18 (TX8 2).1 (TX8 2).2.1 (TX8 2).2.2.1 ∈ lwG := lwG_of 335 (by decide +kernel) (by decide +kernel)
theorem mF_X8_25_X8_3 : Cond.fieldLink RX8 25 (TX8 3).1 (TX8 3).2.1 (TX8 3).2.2.1 ∈ lwG := lwG_of 339 (by decide +kernel) (by decide +kernel)
theorem mF_X8_32_X8_4 : Cond.fieldLink RX8 32 (TX8 4).1 (TX8 4).2.1 (TX8 4).2.2.1 ∈ lwG := lwG_of 343 (by decide +kernel) (by decide +kernel)
theorem mF_X8_39_X8_5 : Cond.fieldLink RX8 39 (TX8 5).1 (TX8 5).2.1 (TX8 5).2.2.1 ∈ lwG := lwG_of 346 (by decide +kernel) (by decide +kernel)
theorem mF_X8_46_X8_6 : Cond.fieldLink RX8 46 (TX8 6).1 (TX8 6).2.1 (TX8 6).2.2.1 ∈ lwG := lwG_of 349 (by decide +kernel) (by decide +kernel)
theorem mF_X8_50_X8_0 : Cond.fieldLink RX8 50 (TX8 0).1 (TX8 0).2.1 (TX8 0).2.2.1 ∈ lwG := lwG_of 330 (by decide +kernel) (by decide +kernel)
theorem mF_X8_9_X8_1 : Cond.fieldLink RX8 9 (TX8 1).1 (TX8 1).2.1 (TX8 1).2.2.1 ∈ lwG := lwG_of 333 (by decide +kernel) (by decide +kernel)
theorem mF_X9_11_X9_0 : Cond.fieldLink RX9 11 (TX9 0).1 (TX9 0).2.1 (TX9 0).2.2.1 ∈ lwG := lwG_of 374 (by decide +kernel) (by decide +kernel)
theorem mF_X9_15_X9_3 : Cond.fieldLink RX9 15 (TX9 3).1 (TX9 3).2.1 (TX9 3).2.2.1 ∈ lwG := lwG_of 385 (by decide +kernel) (by decide +kernel)
theorem mF_X9_19_X9_1 : Cond.fieldLink RX9 19 (TX9 1).1 (TX9 1).2.1 (TX9 1).2.2.1 ∈ lwG := lwG_of 378 (by decide +kernel) (by decide +kernel)
theorem mF_X9_26_X9_2 : Cond.fieldLink RX9 26 (TX9 2).1 (TX9 2).2.1 (TX9 2).2.2.1 ∈ lwG := lwG_of 383 (by decide +kernel) (by decide +kernel)
theorem mF_X9_29_X9_5 : Cond.fieldLink RX9 29 (TX9 5).1 (TX9 5).2.1 (TX9 5).2.2.1 ∈ lwG := lwG_of 389 (by decide +kernel) (by decide +kernel)
theorem mF_X9_35_X9_6 : Cond.fieldLink RX9 35 (TX9 6).1 (TX9 6).2.1 (TX9 6).2.2.1 ∈ lwG := lwG_of 391 (by decide +kernel) (by decide +kernel)
theorem mF_X9_38_X9_4 : Cond.fieldLink RX9 38 (TX9 4).1 (TX9 4).2.1 (TX9 4).2.2.1 ∈ lwG := lwG_of 388 (by decide +kernel) (by decide +kernel)
theorem mF_X9_41_X9_7 : Cond.fieldLink RX9 41 (TX9 7).1 (TX9 7).2.1 (TX9 7).2.2.1 ∈ lwG := lwG_of 392 (by decide +kernel) (by decide +kernel)
theorem mI_J6 : Cond.initialized RJ6 ∈ lwG := lwG_of 86 (by decide +kernel) (by decide +kernel)
theorem mI_J7 : Cond.initialized RJ7 ∈ lwG := lwG_of 77 (by decide +kernel) (by decide +kernel)
theorem mI_X0 : Cond.initialized RX0 ∈ lwG := lwG_of 70 (by decide +kernel) (by decide +kernel)
theorem mI_X1 : Cond.initialized RX1 ∈ lwG := lwG_of 71 (by decide +kernel) (by decide +kernel)
theorem mI_X10 : Cond.initialized RX10 ∈ lwG := lwG_of 75 (by decide +kernel) (by decide +kernel)
theorem mI_X11 : Cond.initialized RX11 ∈ lwG := lwG_of 66 (by decide +kernel) (by decide +kernel)
theorem mI_X12 : Cond.initialized RX12 ∈ lwG := lwG_of 79 (by decide +kernel) (by decide +kernel)
theorem mI_X2 : Cond.initialized RX2 ∈ lwG := lwG_of 68 (by decide +kernel) (by decide +kernel)
theorem mI_X3 : Cond.initialized RX3 ∈ lwG := lwG_of 78 (by decide +kernel) (by decide +kernel)
theorem mI_X4 : Cond.initialized RX4 ∈ lwG := lwG_of 76 (by decide +kernel) (by decide +kernel)
theorem mI_X5 : Cond.initialized RX5 ∈ lwG := lwG_of 74 (by decide +kernel) (by decide +kernel)
theorem mI_X6 : Cond.initialized RX6 ∈ lwG := lwG_of 72 (by decide +kernel) (by decide +kernel)
theorem mI_X7 : Cond.initialized RX7 ∈ lwG := lwG_of 69 (by decide +kernel) (by decide +kernel)
theorem mI_X8 : Cond.initialized RX8 ∈ lwG := lwG_of 67 (by decide +kernel) (by decide +kernel)
theorem mI_X9 : Cond.initialized RX9 ∈ lwG := lwG_of 73 (by decide +kernel) (by decide +kernel)
theorem mJ_X11_360 : Cond.constantLong RX11 360 3 ∈ lwG := lwG_of 649 (by decide +kernel) (by decide +kernel)
theorem mJ_X11_362 : Cond.constantLong RX11 362 2000 ∈ lwG := lwG_of 650 (by decide +kernel) (by decide +kernel)
theorem mJ_X12_123 : Cond.constantLong RX12 123 2 ∈ lwG := lwG_of 1480 (by decide +kernel) (by decide +kernel)
theorem mJ_X12_129 : Cond.constantLong RX12 129 399 ∈ lwG := lwG_of 1500 (by decide +kernel) (by decide +kernel)
theorem mJ_X12_134 : Cond.constantLong RX12 134 97 ∈ lwG := lwG_of 1554 (by decide +kernel) (by decide +kernel)
theorem mJ_X12_136 : Cond.constantLong RX12 136 122 ∈ lwG := lwG_of 1555 (by decide +kernel) (by decide +kernel)
theorem mJ_X12_142 : Cond.constantLong RX12 142 999 ∈ lwG := lwG_of 1509 (by decide +kernel) (by decide +kernel)
theorem mJ_X12_158 : Cond.constantLong RX12 158 2000 ∈ lwG := lwG_of 1533 (by decide +kernel) (by decide +kernel)
theorem mJ_X12_195 : Cond.constantLong RX12 195 48 ∈ lwG := lwG_of 1576 (by decide +kernel) (by decide +kernel)
theorem mJ_X12_197 : Cond.constantLong RX12 197 57 ∈ lwG := lwG_of 1577 (by decide +kernel) (by decide +kernel)
theorem mJ_X12_377 : Cond.constantLong RX12 377 8 ∈ lwG := lwG_of 1784 (by decide +kernel) (by decide +kernel)
theorem mJ_X12_398 : Cond.constantLong RX12 398 9999 ∈ lwG := lwG_of 1829 (by decide +kernel) (by decide +kernel)
theorem mJ_X12_406 : Cond.constantLong RX12 406 5 ∈ lwG := lwG_of 1842 (by decide +kernel) (by decide +kernel)
theorem mJ_X12_433 : Cond.constantLong RX12 433 39 ∈ lwG := lwG_of 1877 (by decide +kernel) (by decide +kernel)
theorem mJ_X12_457 : Cond.constantLong RX12 457 3 ∈ lwG := lwG_of 1922 (by decide +kernel) (by decide +kernel)
theorem mJ_X12_468 : Cond.constantLong RX12 468 (-2147483648) ∈ lwG := lwG_of 1942 (by decide +kernel) (by decide +kernel)
theorem mJ_X12_470 : Cond.constantLong RX12 470 2147483647 ∈ lwG := lwG_of 1943 (by decide +kernel) (by decide +kernel)
theorem mJ_X4_40 : Cond.constantLong RX4 40 68719476736 ∈ lwG := lwG_of 1149 (by decide +kernel) (by decide +kernel)
theorem mJ_X4_48 : Cond.constantLong RX4 48 9223372036854775807 ∈ lwG := lwG_of 1158 (by decide +kernel) (by decide +kernel)
theorem mK_J6_265 : Cond.constant RJ6 265 1431655765 ∈ lwG := lwG_of 1049 (by decide +kernel) (by decide +kernel)
theorem mK_J6_266 : Cond.constant RJ6 266 858993459 ∈ lwG := lwG_of 1050 (by decide +kernel) (by decide +kernel)
theorem mK_J6_267 : Cond.constant RJ6 267 252645135 ∈ lwG := lwG_of 1051 (by decide +kernel) (by decide +kernel)
theorem mK_X12_202 : Cond.constant RX12 202 99999 ∈ lwG := lwG_of 1578 (by decide +kernel) (by decide +kernel)
theorem mK_X12_420 : Cond.constant RX12 420 1000000 ∈ lwG := lwG_of 1864 (by decide +kernel) (by decide +kernel)
theorem mK_X12_453 : Cond.constant RX12 453 (-1000000) ∈ lwG := lwG_of 1898 (by decide +kernel) (by decide +kernel)
theorem mK_X3_131 : Cond.constant RX3 131 (-2147483648) ∈ lwG := lwG_of 1212 (by decide +kernel) (by decide +kernel)
theorem mK_X7_103 : Cond.constant RX7 103 134217727 ∈ lwG := lwG_of 793 (by decide +kernel) (by decide +kernel)
theorem mK_X7_124 : Cond.constant RX7 124 67108864 ∈ lwG := lwG_of 803 (by decide +kernel) (by decide +kernel)
theorem mM_X0_100 : Cond.methodLink RX0 100 yX0_factOf ∈ lwG := lwG_of 861 (by decide +kernel) (by decide +kernel)
theorem mM_X0_103 : Cond.methodLink RX0 103 yX0_readCond ∈ lwG := lwG_of 868 (by decide +kernel) (by decide +kernel)
theorem mM_X0_109 : Cond.methodLink RX0 109 yX9_takeSign ∈ lwG := lwG_of 873 (by decide +kernel) (by decide +kernel)
theorem mM_X0_113 : Cond.methodLink RX0 113 yX9_takeNumber ∈ lwG := lwG_of 849 (by decide +kernel) (by decide +kernel)
theorem mM_X0_119 : Cond.methodLink RX0 119 yX9_takeWord ∈ lwG := lwG_of 854 (by decide +kernel) (by decide +kernel)
theorem mM_X0_131 : Cond.methodLink RX0 131 yX9_isSign ∈ lwG := lwG_of 872 (by decide +kernel) (by decide +kernel)
theorem mM_X0_135 : Cond.methodLink RX0 135 yX0_holds ∈ lwG := lwG_of 976 (by decide +kernel) (by decide +kernel)
theorem mM_X0_139 : Cond.methodLink RX0 139 yX0_lastLine ∈ lwG := lwG_of 1038 (by decide +kernel) (by decide +kernel)
theorem mM_X0_143 : Cond.methodLink RX0 143 arraycopyName ∈ lwG := lwG_of 1272 (by decide +kernel) (by decide +kernel)
theorem mM_X0_46 : Cond.methodLink RX0 46 yX9_begin ∈ lwG := lwG_of 827 (by decide +kernel) (by decide +kernel)
theorem mM_X0_55 : Cond.methodLink RX0 55 yX9_goesOn ∈ lwG := lwG_of 828 (by decide +kernel) (by decide +kernel)
theorem mM_X0_59 : Cond.methodLink RX0 59 yX0_kindOfLine ∈ lwG := lwG_of 829 (by decide +kernel) (by decide +kernel)
theorem mM_X0_63 : Cond.methodLink RX0 63 yX9_blame ∈ lwG := lwG_of 839 (by decide +kernel) (by decide +kernel)
theorem mM_X0_67 : Cond.methodLink RX0 67 yX0_readLine ∈ lwG := lwG_of 840 (by decide +kernel) (by decide +kernel)
theorem mM_X0_76 : Cond.methodLink RX0 76 yX9_isWord ∈ lwG := lwG_of 833 (by decide +kernel) (by decide +kernel)
theorem mM_X0_90 : Cond.methodLink RX0 90 yX0_readHead ∈ lwG := lwG_of 844 (by decide +kernel) (by decide +kernel)
theorem mM_X0_95 : Cond.methodLink RX0 95 yX9_advance ∈ lwG := lwG_of 848 (by decide +kernel) (by decide +kernel)
theorem mM_X10_101 : Cond.methodLink RX10 101 yX0_inForce ∈ lwG := lwG_of 964 (by decide +kernel) (by decide +kernel)
theorem mM_X10_105 : Cond.methodLink RX10 105 yX10_firstBy ∈ lwG := lwG_of 968 (by decide +kernel) (by decide +kernel)
theorem mM_X10_115 : Cond.methodLink RX10 115 yX0_firstHolding ∈ lwG := lwG_of 972 (by decide +kernel) (by decide +kernel)
theorem mM_X10_119 : Cond.methodLink RX10 119 yX10_mostPeople ∈ lwG := lwG_of 980 (by decide +kernel) (by decide +kernel)
theorem mM_X10_128 : Cond.methodLink RX10 128 yX10_look ∈ lwG := lwG_of 996 (by decide +kernel) (by decide +kernel)
theorem mM_X10_132 : Cond.methodLink RX10 132 Lib.Math.max.name ∈ lwG := lwG_of 997 (by decide +kernel) (by decide +kernel)
theorem mM_X10_135 : Cond.methodLink RX10 135 yX10_swingsBy ∈ lwG := lwG_of 998 (by decide +kernel) (by decide +kernel)
theorem mM_X10_139 : Cond.methodLink RX10 139 yX10_swungBy ∈ lwG := lwG_of 1002 (by decide +kernel) (by decide +kernel)
theorem mM_X10_146 : Cond.methodLink RX10 146 yX10_spellAside ∈ lwG := lwG_of 927 (by decide +kernel) (by decide +kernel)
theorem mM_X10_153 : Cond.methodLink RX10 153 yX10_areSpelledAlike ∈ lwG := lwG_of 934 (by decide +kernel) (by decide +kernel)
theorem mM_X10_157 : Cond.methodLink RX10 157 yX7_spellInto ∈ lwG := lwG_of 931 (by decide +kernel) (by decide +kernel)
theorem mM_X10_164 : Cond.methodLink RX10 164 arraycopyName ∈ lwG := lwG_of 933 (by decide +kernel) (by decide +kernel)
theorem mM_X10_170 : Cond.methodLink RX10 170 yX10_editsOfRows ∈ lwG := lwG_of 946 (by decide +kernel) (by decide +kernel)
theorem mM_X10_178 : Cond.methodLink RX10 178 yX0_numberOf ∈ lwG := lwG_of 1034 (by decide +kernel) (by decide +kernel)
theorem mM_X10_182 : Cond.methodLink RX10 182 yX1_tooFew ∈ lwG := lwG_of 1042 (by decide +kernel) (by decide +kernel)
theorem mM_X10_194 : Cond.methodLink RX10 194 yX0_lastLine ∈ lwG := lwG_of 1052 (by decide +kernel) (by decide +kernel)
theorem mM_X10_200 : Cond.methodLink RX10 200 yX10_isAlike ∈ lwG := lwG_of 1053 (by decide +kernel) (by decide +kernel)
theorem mM_X10_204 : Cond.methodLink RX10 204 yX2_areNear ∈ lwG := lwG_of 1057 (by decide +kernel) (by decide +kernel)
theorem mM_X10_208 : Cond.methodLink RX10 208 yX1_nameAt ∈ lwG := lwG_of 1061 (by decide +kernel) (by decide +kernel)
theorem mM_X10_211 : Cond.methodLink RX10 211 yX10_editsOfNames ∈ lwG := lwG_of 1069 (by decide +kernel) (by decide +kernel)
theorem mM_X10_215 : Cond.methodLink RX10 215 yX5_add ∈ lwG := lwG_of 1095 (by decide +kernel) (by decide +kernel)
theorem mM_X10_229 : Cond.methodLink RX10 229 yX10_show ∈ lwG := lwG_of 1123 (by decide +kernel) (by decide +kernel)
theorem mM_X10_233 : Cond.methodLink RX10 233 yX5_readsAs ∈ lwG := lwG_of 1124 (by decide +kernel) (by decide +kernel)
theorem mM_X10_238 : Cond.methodLink RX10 238 yX10_isLame ∈ lwG := lwG_of 1239 (by decide +kernel) (by decide +kernel)
theorem mM_X10_246 : Cond.methodLink RX10 246 yX0_dependsOnYear ∈ lwG := lwG_of 1132 (by decide +kernel) (by decide +kernel)
theorem mM_X10_48 : Cond.methodLink RX10 48 yX2_fillParents ∈ lwG := lwG_of 621 (by decide +kernel) (by decide +kernel)
theorem mM_X10_54 : Cond.methodLink RX10 54 yX10_isUnder ∈ lwG := lwG_of 626 (by decide +kernel) (by decide +kernel)
theorem mM_X10_58 : Cond.methodLink RX10 58 yX2_fillOwn ∈ lwG := lwG_of 676 (by decide +kernel) (by decide +kernel)
theorem mM_X10_61 : Cond.methodLink RX10 61 yJ7_fill_53178 ∈ lwG := lwG_of 680 (by decide +kernel) (by decide +kernel)
theorem mM_X10_70 : Cond.methodLink RX10 70 yX10_addOwn ∈ lwG := lwG_of 681 (by decide +kernel) (by decide +kernel)
theorem mM_X10_74 : Cond.methodLink RX10 74 yX10_everyone ∈ lwG := lwG_of 963 (by decide +kernel) (by decide +kernel)
theorem mM_X10_78 : Cond.methodLink RX10 78 Lib.Math.min.name ∈ lwG := lwG_of 932 (by decide +kernel) (by decide +kernel)
theorem mM_X10_90 : Cond.methodLink RX10 90 yX10_gather ∈ lwG := lwG_of 958 (by decide +kernel) (by decide +kernel)
theorem mM_X10_94 : Cond.methodLink RX10 94 yX10_setShares ∈ lwG := lwG_of 959 (by decide +kernel) (by decide +kernel)
theorem mM_X11_100 : Cond.methodLink RX11 100 yX10_liesWithin ∈ lwG := lwG_of 617 (by decide +kernel) (by decide +kernel)
theorem mM_X11_104 : Cond.methodLink RX11 104 yX2_tellPart ∈ lwG := lwG_of 630 (by decide +kernel) (by decide +kernel)
theorem mM_X11_108 : Cond.methodLink RX11 108 yX8_mark ∈ lwG := lwG_of 637 (by decide +kernel) (by decide +kernel)
theorem mM_X11_111 : Cond.methodLink RX11 111 yX11_countPeople ∈ lwG := lwG_of 645 (by decide +kernel) (by decide +kernel)
theorem mM_X11_115 : Cond.methodLink RX11 115 yX11_isSlot ∈ lwG := lwG_of 659 (by decide +kernel) (by decide +kernel)
theorem mM_X11_118 : Cond.methodLink RX11 118 yX11_isTongue ∈ lwG := lwG_of 666 (by decide +kernel) (by decide +kernel)
theorem mM_X11_121 : Cond.methodLink RX11 121 Lib.Math.min.name ∈ lwG := lwG_of 669 (by decide +kernel) (by decide +kernel)
theorem mM_X11_126 : Cond.methodLink RX11 126 yX10_gather ∈ lwG := lwG_of 672 (by decide +kernel) (by decide +kernel)
theorem mM_X11_130 : Cond.methodLink RX11 130 yX10_everyone ∈ lwG := lwG_of 685 (by decide +kernel) (by decide +kernel)
theorem mM_X11_139 : Cond.methodLink RX11 139 yX9_isLetters ∈ lwG := lwG_of 693 (by decide +kernel) (by decide +kernel)
theorem mM_X11_146 : Cond.methodLink RX11 146 yX7_addName ∈ lwG := lwG_of 700 (by decide +kernel) (by decide +kernel)
theorem mM_X11_153 : Cond.methodLink RX11 153 yX7_readSpelling ∈ lwG := lwG_of 711 (by decide +kernel) (by decide +kernel)
theorem mM_X11_157 : Cond.methodLink RX11 157 yX11_taken ∈ lwG := lwG_of 815 (by decide +kernel) (by decide +kernel)
theorem mM_X11_169 : Cond.methodLink RX11 169 yX0_readAct ∈ lwG := lwG_of 823 (by decide +kernel) (by decide +kernel)
theorem mM_X11_179 : Cond.methodLink RX11 179 yX7_hasName ∈ lwG := lwG_of 883 (by decide +kernel) (by decide +kernel)
theorem mM_X11_183 : Cond.methodLink RX11 183 yX7_spellInto ∈ lwG := lwG_of 887 (by decide +kernel) (by decide +kernel)
theorem mM_X11_187 : Cond.methodLink RX11 187 yX5_has ∈ lwG := lwG_of 911 (by decide +kernel) (by decide +kernel)
theorem mM_X11_195 : Cond.methodLink RX11 195 yX10_alikePairs ∈ lwG := lwG_of 923 (by decide +kernel) (by decide +kernel)
theorem mM_X11_199 : Cond.methodLink RX11 199 yX10_editsOfNames ∈ lwG := lwG_of 942 (by decide +kernel) (by decide +kernel)
theorem mM_X11_203 : Cond.methodLink RX11 203 yX10_look ∈ lwG := lwG_of 954 (by decide +kernel) (by decide +kernel)
theorem mM_X11_213 : Cond.methodLink RX11 213 yX10_fewestToSwing ∈ lwG := lwG_of 992 (by decide +kernel) (by decide +kernel)
theorem mM_X11_224 : Cond.methodLink RX11 224 yX1_open ∈ lwG := lwG_of 1010 (by decide +kernel) (by decide +kernel)
theorem mM_X11_229 : Cond.methodLink RX11 229 yX1_has ∈ lwG := lwG_of 1018 (by decide +kernel) (by decide +kernel)
theorem mM_X11_234 : Cond.methodLink RX11 234 yX1_cast ∈ lwG := lwG_of 1022 (by decide +kernel) (by decide +kernel)
theorem mM_X11_241 : Cond.methodLink RX11 241 yX10_whyRefused ∈ lwG := lwG_of 1030 (by decide +kernel) (by decide +kernel)
theorem mM_X11_248 : Cond.methodLink RX11 248 yX1_settle ∈ lwG := lwG_of 1070 (by decide +kernel) (by decide +kernel)
theorem mM_X11_252 : Cond.methodLink RX11 252 yX1_nameAt ∈ lwG := lwG_of 1078 (by decide +kernel) (by decide +kernel)
theorem mM_X11_256 : Cond.methodLink RX11 256 yX1_undoLast ∈ lwG := lwG_of 1083 (by decide +kernel) (by decide +kernel)
theorem mM_X11_259 : Cond.methodLink RX11 259 yX10_show ∈ lwG := lwG_of 1091 (by decide +kernel) (by decide +kernel)
theorem mM_X11_263 : Cond.methodLink RX11 263 yX11_isNumber ∈ lwG := lwG_of 1100 (by decide +kernel) (by decide +kernel)
theorem mM_X11_270 : Cond.methodLink RX11 270 yX6_make ∈ lwG := lwG_of 1103 (by decide +kernel) (by decide +kernel)
theorem mM_X11_275 : Cond.methodLink RX11 275 yX6_has ∈ lwG := lwG_of 1111 (by decide +kernel) (by decide +kernel)
theorem mM_X11_279 : Cond.methodLink RX11 279 yX10_isLame ∈ lwG := lwG_of 1119 (by decide +kernel) (by decide +kernel)
theorem mM_X11_283 : Cond.methodLink RX11 283 yX10_dueYear ∈ lwG := lwG_of 1128 (by decide +kernel) (by decide +kernel)
theorem mM_X11_286 : Cond.methodLink RX11 286 Lib.Math.max.name ∈ lwG := lwG_of 1136 (by decide +kernel) (by decide +kernel)
theorem mM_X11_293 : Cond.methodLink RX11 293 yX4_begin ∈ lwG := lwG_of 1141 (by decide +kernel) (by decide +kernel)
theorem mM_X11_297 : Cond.methodLink RX11 297 yX4_take ∈ lwG := lwG_of 1145 (by decide +kernel) (by decide +kernel)
theorem mM_X11_300 : Cond.methodLink RX11 300 yX4_leastSum ∈ lwG := lwG_of 1150 (by decide +kernel) (by decide +kernel)
theorem mM_X11_310 : Cond.methodLink RX11 310 yX3_add ∈ lwG := lwG_of 1174 (by decide +kernel) (by decide +kernel)
theorem mM_X11_314 : Cond.methodLink RX11 314 yX3_greatestSum ∈ lwG := lwG_of 1183 (by decide +kernel) (by decide +kernel)
theorem mM_X11_333 : Cond.methodLink RX11 333 yX10_lameSigns ∈ lwG := lwG_of 1235 (by decide +kernel) (by decide +kernel)
theorem mM_X11_337 : Cond.methodLink RX11 337 yX1_namesAt ∈ lwG := lwG_of 1240 (by decide +kernel) (by decide +kernel)
theorem mM_X11_340 : Cond.methodLink RX11 340 yX11_rowsHad ∈ lwG := lwG_of 1244 (by decide +kernel) (by decide +kernel)
theorem mM_X11_343 : Cond.methodLink RX11 343 yX8_copyFrom ∈ lwG := lwG_of 1252 (by decide +kernel) (by decide +kernel)
theorem mM_X11_347 : Cond.methodLink RX11 347 yX11_cut ∈ lwG := lwG_of 1301 (by decide +kernel) (by decide +kernel)
theorem mM_X11_351 : Cond.methodLink RX11 351 yX11_liesInRow ∈ lwG := lwG_of 1308 (by decide +kernel) (by decide +kernel)
theorem mM_X11_354 : Cond.methodLink RX11 354 arraycopyName ∈ lwG := lwG_of 1312 (by decide +kernel) (by decide +kernel)
theorem mM_X11_364 : Cond.methodLink RX11 364 yX2_tellCount ∈ lwG := lwG_of 651 (by decide +kernel) (by decide +kernel)
theorem mM_X11_76 : Cond.methodLink RX11 76 yX9_push ∈ lwG := lwG_of 586 (by decide +kernel) (by decide +kernel)
theorem mM_X11_80 : Cond.methodLink RX11 80 yX11_isYear ∈ lwG := lwG_of 598 (by decide +kernel) (by decide +kernel)
theorem mM_X11_91 : Cond.methodLink RX11 91 yX2_addPlace ∈ lwG := lwG_of 605 (by decide +kernel) (by decide +kernel)
theorem mM_X11_97 : Cond.methodLink RX11 97 yX2_has ∈ lwG := lwG_of 613 (by decide +kernel) (by decide +kernel)
theorem mM_X12_125 : Cond.methodLink RX12 125 yX12_in ∈ lwG := lwG_of 1481 (by decide +kernel) (by decide +kernel)
theorem mM_X12_138 : Cond.methodLink RX12 138 yX12_now ∈ lwG := lwG_of 1501 (by decide +kernel) (by decide +kernel)
theorem mM_X12_144 : Cond.methodLink RX12 144 yX12_addsUp ∈ lwG := lwG_of 1522 (by decide +kernel) (by decide +kernel)
theorem mM_X12_147 : Cond.methodLink RX12 147 yX12_isPlace ∈ lwG := lwG_of 1514 (by decide +kernel) (by decide +kernel)
theorem mM_X12_151 : Cond.methodLink RX12 151 yX12_looks ∈ lwG := lwG_of 1518 (by decide +kernel) (by decide +kernel)
theorem mM_X12_155 : Cond.methodLink RX12 155 yX12_isTongue ∈ lwG := lwG_of 1530 (by decide +kernel) (by decide +kernel)
theorem mM_X12_160 : Cond.methodLink RX12 160 yX12_isYear ∈ lwG := lwG_of 1538 (by decide +kernel) (by decide +kernel)
theorem mM_X12_163 : Cond.methodLink RX12 163 Lib.Math.min.name ∈ lwG := lwG_of 1541 (by decide +kernel) (by decide +kernel)
theorem mM_X12_169 : Cond.methodLink RX12 169 yX12_allOf ∈ lwG := lwG_of 1542 (by decide +kernel) (by decide +kernel)
theorem mM_X12_173 : Cond.methodLink RX12 173 yX12_isLetters ∈ lwG := lwG_of 1550 (by decide +kernel) (by decide +kernel)
theorem mM_X12_182 : Cond.methodLink RX12 182 yX12_see ∈ lwG := lwG_of 1572 (by decide +kernel) (by decide +kernel)
theorem mM_X12_206 : Cond.methodLink RX12 206 yX12_next_ ∈ lwG := lwG_of 1568 (by decide +kernel) (by decide +kernel)
theorem mM_X12_209 : Cond.methodLink RX12 209 yX12_good ∈ lwG := lwG_of 1579 (by decide +kernel) (by decide +kernel)
theorem mM_X12_213 : Cond.methodLink RX12 213 yJ0_length_8abf5 ∈ lwG := lwG_of 1588 (by decide +kernel) (by decide +kernel)
theorem mM_X12_218 : Cond.methodLink RX12 218 yJ0_charAt_5068e ∈ lwG := lwG_of 1589 (by decide +kernel) (by decide +kernel)
theorem mM_X12_222 : Cond.methodLink RX12 222 yX12_isSign ∈ lwG := lwG_of 1610 (by decide +kernel) (by decide +kernel)
theorem mM_X12_225 : Cond.methodLink RX12 225 yX12_wrong ∈ lwG := lwG_of 1594 (by decide +kernel) (by decide +kernel)
theorem mM_X12_228 : Cond.methodLink RX12 228 yX12_is ∈ lwG := lwG_of 1584 (by decide +kernel) (by decide +kernel)
theorem mM_X12_236 : Cond.methodLink RX12 236 yX12_isRuleWord ∈ lwG := lwG_of 1590 (by decide +kernel) (by decide +kernel)
theorem mM_X12_239 : Cond.methodLink RX12 239 yX12_takes ∈ lwG := lwG_of 1602 (by decide +kernel) (by decide +kernel)
theorem mM_X12_242 : Cond.methodLink RX12 242 yX12_set ∈ lwG := lwG_of 1606 (by decide +kernel) (by decide +kernel)
theorem mM_X12_245 : Cond.methodLink RX12 245 yX12_ruleWord ∈ lwG := lwG_of 1615 (by decide +kernel) (by decide +kernel)
theorem mM_X12_248 : Cond.methodLink RX12 248 yX12_needSign ∈ lwG := lwG_of 1619 (by decide +kernel) (by decide +kernel)
theorem mM_X12_251 : Cond.methodLink RX12 251 yX12_begins ∈ lwG := lwG_of 1564 (by decide +kernel) (by decide +kernel)
theorem mM_X12_255 : Cond.methodLink RX12 255 yX12_rule ∈ lwG := lwG_of 1598 (by decide +kernel) (by decide +kernel)
theorem mM_X12_261 : Cond.methodLink RX12 261 yX12_isOf ∈ lwG := lwG_of 1647 (by decide +kernel) (by decide +kernel)
theorem mM_X12_265 : Cond.methodLink RX12 265 yX12_nameIs ∈ lwG := lwG_of 1635 (by decide +kernel) (by decide +kernel)
theorem mM_X12_268 : Cond.methodLink RX12 268 yX12_spellingOf ∈ lwG := lwG_of 1639 (by decide +kernel) (by decide +kernel)
theorem mM_X12_271 : Cond.methodLink RX12 271 yX12_fits ∈ lwG := lwG_of 1643 (by decide +kernel) (by decide +kernel)
theorem mM_X12_275 : Cond.methodLink RX12 275 yX12_lays ∈ lwG := lwG_of 1650 (by decide +kernel) (by decide +kernel)
theorem mM_X12_282 : Cond.methodLink RX12 282 yX12_isName ∈ lwG := lwG_of 1627 (by decide +kernel) (by decide +kernel)
theorem mM_X12_285 : Cond.methodLink RX12 285 yX12_spells ∈ lwG := lwG_of 1631 (by decide +kernel) (by decide +kernel)
theorem mM_X12_288 : Cond.methodLink RX12 288 yX12_takesInHand ∈ lwG := lwG_of 1654 (by decide +kernel) (by decide +kernel)
theorem mM_X12_294 : Cond.methodLink RX12 294 yX12_holds ∈ lwG := lwG_of 1670 (by decide +kernel) (by decide +kernel)
theorem mM_X12_297 : Cond.methodLink RX12 297 yX12_isAlike ∈ lwG := lwG_of 1674 (by decide +kernel) (by decide +kernel)
theorem mM_X12_300 : Cond.methodLink RX12 300 yX12_apart ∈ lwG := lwG_of 1686 (by decide +kernel) (by decide +kernel)
theorem mM_X12_303 : Cond.methodLink RX12 303 yX12_editsOf ∈ lwG := lwG_of 1682 (by decide +kernel) (by decide +kernel)
theorem mM_X12_329 : Cond.methodLink RX12 329 yX12_factHere ∈ lwG := lwG_of 1719 (by decide +kernel) (by decide +kernel)
theorem mM_X12_332 : Cond.methodLink RX12 332 yX12_tongueHere ∈ lwG := lwG_of 1727 (by decide +kernel) (by decide +kernel)
theorem mM_X12_335 : Cond.methodLink RX12 335 yX12_number ∈ lwG := lwG_of 1708 (by decide +kernel) (by decide +kernel)
theorem mM_X12_338 : Cond.methodLink RX12 338 yX12_sortHere ∈ lwG := lwG_of 1694 (by decide +kernel) (by decide +kernel)
theorem mM_X12_344 : Cond.methodLink RX12 344 yX12_cond ∈ lwG := lwG_of 1714 (by decide +kernel) (by decide +kernel)
theorem mM_X12_349 : Cond.methodLink RX12 349 yX12_line ∈ lwG := lwG_of 1704 (by decide +kernel) (by decide +kernel)
theorem mM_X12_352 : Cond.methodLink RX12 352 yX12_actOf ∈ lwG := lwG_of 1740 (by decide +kernel) (by decide +kernel)
theorem mM_X12_355 : Cond.methodLink RX12 355 yX12_partsOf ∈ lwG := lwG_of 1748 (by decide +kernel) (by decide +kernel)
theorem mM_X12_358 : Cond.methodLink RX12 358 yX12_holdFor ∈ lwG := lwG_of 1744 (by decide +kernel) (by decide +kernel)
theorem mM_X12_362 : Cond.methodLink RX12 362 yX12_most ∈ lwG := lwG_of 1752 (by decide +kernel) (by decide +kernel)
theorem mM_X12_365 : Cond.methodLink RX12 365 yX12_firstOf ∈ lwG := lwG_of 1736 (by decide +kernel) (by decide +kernel)
theorem mM_X12_368 : Cond.methodLink RX12 368 yX12_besideOf ∈ lwG := lwG_of 1760 (by decide +kernel) (by decide +kernel)
theorem mM_X12_371 : Cond.methodLink RX12 371 yX12_hearing ∈ lwG := lwG_of 1772 (by decide +kernel) (by decide +kernel)
theorem mM_X12_374 : Cond.methodLink RX12 374 yX12_isHearing ∈ lwG := lwG_of 1780 (by decide +kernel) (by decide +kernel)
theorem mM_X12_379 : Cond.methodLink RX12 379 yX12_termOf ∈ lwG := lwG_of 1789 (by decide +kernel) (by decide +kernel)
theorem mM_X12_382 : Cond.methodLink RX12 382 yX12_isNear ∈ lwG := lwG_of 1797 (by decide +kernel) (by decide +kernel)
theorem mM_X12_385 : Cond.methodLink RX12 385 yX12_settledOf ∈ lwG := lwG_of 1801 (by decide +kernel) (by decide +kernel)
theorem mM_X12_388 : Cond.methodLink RX12 388 yX12_isTooAlike ∈ lwG := lwG_of 1793 (by decide +kernel) (by decide +kernel)
theorem mM_X12_391 : Cond.methodLink RX12 391 yX12_event ∈ lwG := lwG_of 1805 (by decide +kernel) (by decide +kernel)
theorem mM_X12_395 : Cond.methodLink RX12 395 yX12_shows ∈ lwG := lwG_of 1821 (by decide +kernel) (by decide +kernel)
theorem mM_X12_400 : Cond.methodLink RX12 400 yX12_isSign0 ∈ lwG := lwG_of 1834 (by decide +kernel) (by decide +kernel)
theorem mM_X12_403 : Cond.methodLink RX12 403 yX12_signIs ∈ lwG := lwG_of 1843 (by decide +kernel) (by decide +kernel)
theorem mM_X12_408 : Cond.methodLink RX12 408 yX12_isLame ∈ lwG := lwG_of 1847 (by decide +kernel) (by decide +kernel)
theorem mM_X12_411 : Cond.methodLink RX12 411 yX12_lameSince ∈ lwG := lwG_of 1851 (by decide +kernel) (by decide +kernel)
theorem mM_X12_414 : Cond.methodLink RX12 414 Lib.Math.max.name ∈ lwG := lwG_of 1855 (by decide +kernel) (by decide +kernel)
theorem mM_X12_421 : Cond.methodLink RX12 421 yX12_mayBe ∈ lwG := lwG_of 1865 (by decide +kernel) (by decide +kernel)
theorem mM_X12_424 : Cond.methodLink RX12 424 yX12_bits ∈ lwG := lwG_of 1869 (by decide +kernel) (by decide +kernel)
theorem mM_X12_427 : Cond.methodLink RX12 427 yX12_leastOf ∈ lwG := lwG_of 1860 (by decide +kernel) (by decide +kernel)
theorem mM_X12_444 : Cond.methodLink RX12 444 yX12_joins ∈ lwG := lwG_of 1899 (by decide +kernel) (by decide +kernel)
theorem mM_X12_447 : Cond.methodLink RX12 447 yX12_hasName ∈ lwG := lwG_of 1890 (by decide +kernel) (by decide +kernel)
theorem mM_X12_450 : Cond.methodLink RX12 450 yX12_givesOf ∈ lwG := lwG_of 1894 (by decide +kernel) (by decide +kernel)
theorem mM_X12_454 : Cond.methodLink RX12 454 yX12_settledNow ∈ lwG := lwG_of 1911 (by decide +kernel) (by decide +kernel)
theorem mM_X12_459 : Cond.methodLink RX12 459 yX12_isSlot ∈ lwG := lwG_of 1919 (by decide +kernel) (by decide +kernel)
theorem mM_X12_462 : Cond.methodLink RX12 462 yX12_cut ∈ lwG := lwG_of 1931 (by decide +kernel) (by decide +kernel)
theorem mM_X12_472 : Cond.methodLink RX12 472 yX12_people ∈ lwG := lwG_of 1944 (by decide +kernel) (by decide +kernel)
theorem mM_X1_47 : Cond.methodLink RX1 47 yJ6_bitCount_0f7a4 ∈ lwG := lwG_of 1046 (by decide +kernel) (by decide +kernel)
theorem mM_X1_56 : Cond.methodLink RX1 56 yX1_settlingAt ∈ lwG := lwG_of 1065 (by decide +kernel) (by decide +kernel)
theorem mM_X1_60 : Cond.methodLink RX1 60 arraycopyName ∈ lwG := lwG_of 1278 (by decide +kernel) (by decide +kernel)
theorem mM_X2_43 : Cond.methodLink RX2 43 Lib.Math.max.name ∈ lwG := lwG_of 634 (by decide +kernel) (by decide +kernel)
theorem mM_X2_52 : Cond.methodLink RX2 52 yJ7_fill_53178 ∈ lwG := lwG_of 625 (by decide +kernel) (by decide +kernel)
theorem mM_X2_58 : Cond.methodLink RX2 58 arraycopyName ∈ lwG := lwG_of 1263 (by decide +kernel) (by decide +kernel)
theorem mM_X3_100 : Cond.methodLink RX3 100 yX5_add ∈ lwG := lwG_of 1195 (by decide +kernel) (by decide +kernel)
theorem mM_X3_104 : Cond.methodLink RX3 104 yX3_fewestEdits ∈ lwG := lwG_of 1196 (by decide +kernel) (by decide +kernel)
theorem mM_X3_111 : Cond.methodLink RX3 111 yX7_spellInto ∈ lwG := lwG_of 1200 (by decide +kernel) (by decide +kernel)
theorem mM_X3_115 : Cond.methodLink RX3 115 yX10_editsOfRows ∈ lwG := lwG_of 1201 (by decide +kernel) (by decide +kernel)
theorem mM_X3_119 : Cond.methodLink RX3 119 Lib.Math.min.name ∈ lwG := lwG_of 1202 (by decide +kernel) (by decide +kernel)
theorem mM_X3_125 : Cond.methodLink RX3 125 yJ6_bitCount_0f7a4 ∈ lwG := lwG_of 1207 (by decide +kernel) (by decide +kernel)
theorem mM_X3_132 : Cond.methodLink RX3 132 yX3_sumWith ∈ lwG := lwG_of 1213 (by decide +kernel) (by decide +kernel)
theorem mM_X3_136 : Cond.methodLink RX3 136 Lib.Math.max.name ∈ lwG := lwG_of 1218 (by decide +kernel) (by decide +kernel)
theorem mM_X3_139 : Cond.methodLink RX3 139 yX2_areNear ∈ lwG := lwG_of 1217 (by decide +kernel) (by decide +kernel)
theorem mM_X3_146 : Cond.methodLink RX3 146 yX3_reaches ∈ lwG := lwG_of 1223 (by decide +kernel) (by decide +kernel)
theorem mM_X3_44 : Cond.methodLink RX3 44 arraycopyName ∈ lwG := lwG_of 1178 (by decide +kernel) (by decide +kernel)
theorem mM_X3_50 : Cond.methodLink RX3 50 yX3_choosePlaces ∈ lwG := lwG_of 1187 (by decide +kernel) (by decide +kernel)
theorem mM_X3_57 : Cond.methodLink RX3 57 yX3_fillGains ∈ lwG := lwG_of 1191 (by decide +kernel) (by decide +kernel)
theorem mM_X3_67 : Cond.methodLink RX3 67 yX3_fillMost ∈ lwG := lwG_of 1203 (by decide +kernel) (by decide +kernel)
theorem mM_X3_71 : Cond.methodLink RX3 71 yX3_mostBehind ∈ lwG := lwG_of 1208 (by decide +kernel) (by decide +kernel)
theorem mM_X3_75 : Cond.methodLink RX3 75 yX3_takeFirst ∈ lwG := lwG_of 1219 (by decide +kernel) (by decide +kernel)
theorem mM_X4_30 : Cond.methodLink RX4 30 yJ7_fill_53178 ∈ lwG := lwG_of 485 (by decide +kernel) (by decide +kernel)
theorem mM_X4_42 : Cond.methodLink RX4 42 yX4_leastKey ∈ lwG := lwG_of 1154 (by decide +kernel) (by decide +kernel)
theorem mM_X4_50 : Cond.methodLink RX4 50 Lib.MathLoose.min_long.x ∈ lwG := lwG_of 1159 (by decide +kernel) (by decide +kernel)
theorem mM_X6_25 : Cond.methodLink RX6 25 arraycopyName ∈ lwG := lwG_of 1284 (by decide +kernel) (by decide +kernel)
theorem mM_X7_104 : Cond.methodLink RX7 104 yX9_advance ∈ lwG := lwG_of 794 (by decide +kernel) (by decide +kernel)
theorem mM_X7_107 : Cond.methodLink RX7 107 yX7_readSet ∈ lwG := lwG_of 795 (by decide +kernel) (by decide +kernel)
theorem mM_X7_111 : Cond.methodLink RX7 111 yX7_readWord ∈ lwG := lwG_of 805 (by decide +kernel) (by decide +kernel)
theorem mM_X7_115 : Cond.methodLink RX7 115 yX9_takeSign ∈ lwG := lwG_of 809 (by decide +kernel) (by decide +kernel)
theorem mM_X7_119 : Cond.methodLink RX7 119 yX9_isSign ∈ lwG := lwG_of 799 (by decide +kernel) (by decide +kernel)
theorem mM_X7_131 : Cond.methodLink RX7 131 yX7_spellingAt ∈ lwG := lwG_of 891 (by decide +kernel) (by decide +kernel)
theorem mM_X7_135 : Cond.methodLink RX7 135 yX7_ruleFor ∈ lwG := lwG_of 895 (by decide +kernel) (by decide +kernel)
theorem mM_X7_139 : Cond.methodLink RX7 139 yX5_add ∈ lwG := lwG_of 903 (by decide +kernel) (by decide +kernel)
theorem mM_X7_145 : Cond.methodLink RX7 145 yX7_fits ∈ lwG := lwG_of 899 (by decide +kernel) (by decide +kernel)
theorem mM_X7_67 : Cond.methodLink RX7 67 arraycopyName ∈ lwG := lwG_of 704 (by decide +kernel) (by decide +kernel)
theorem mM_X7_73 : Cond.methodLink RX7 73 yX9_begin ∈ lwG := lwG_of 715 (by decide +kernel) (by decide +kernel)
theorem mM_X7_76 : Cond.methodLink RX7 76 yX9_goesOn ∈ lwG := lwG_of 724 (by decide +kernel) (by decide +kernel)
theorem mM_X7_81 : Cond.methodLink RX7 81 yX9_isWord ∈ lwG := lwG_of 729 (by decide +kernel) (by decide +kernel)
theorem mM_X7_85 : Cond.methodLink RX7 85 yX9_isWordOf ∈ lwG := lwG_of 781 (by decide +kernel) (by decide +kernel)
theorem mM_X7_89 : Cond.methodLink RX7 89 yX9_blame ∈ lwG := lwG_of 785 (by decide +kernel) (by decide +kernel)
theorem mM_X7_96 : Cond.methodLink RX7 96 yX7_readRule ∈ lwG := lwG_of 789 (by decide +kernel) (by decide +kernel)
theorem mM_X8_58 : Cond.methodLink RX8 58 yX2_copyFrom ∈ lwG := lwG_of 1259 (by decide +kernel) (by decide +kernel)
theorem mM_X8_62 : Cond.methodLink RX8 62 yX7_copyFrom ∈ lwG := lwG_of 1264 (by decide +kernel) (by decide +kernel)
theorem mM_X8_65 : Cond.methodLink RX8 65 yX0_copyFrom ∈ lwG := lwG_of 1268 (by decide +kernel) (by decide +kernel)
theorem mM_X8_68 : Cond.methodLink RX8 68 yX1_copyFrom ∈ lwG := lwG_of 1274 (by decide +kernel) (by decide +kernel)
theorem mM_X8_71 : Cond.methodLink RX8 71 yX6_copyFrom ∈ lwG := lwG_of 1280 (by decide +kernel) (by decide +kernel)
theorem mM_X9_22 : Cond.methodLink RX9 22 yX9_kindOf ∈ lwG := lwG_of 697 (by decide +kernel) (by decide +kernel)
theorem mM_X9_32 : Cond.methodLink RX9 32 yX9_advance ∈ lwG := lwG_of 719 (by decide +kernel) (by decide +kernel)
theorem mM_X9_44 : Cond.methodLink RX9 44 Lib.Math.min.name ∈ lwG := lwG_of 723 (by decide +kernel) (by decide +kernel)
theorem mM_X9_50 : Cond.methodLink RX9 50 yJ0_length_8abf5 ∈ lwG := lwG_of 733 (by decide +kernel) (by decide +kernel)
theorem mM_X9_56 : Cond.methodLink RX9 56 yJ0_charAt_5068e ∈ lwG := lwG_of 743 (by decide +kernel) (by decide +kernel)
theorem mM_X9_60 : Cond.methodLink RX9 60 yX9_isSign ∈ lwG := lwG_of 813 (by decide +kernel) (by decide +kernel)
theorem mM_X9_64 : Cond.methodLink RX9 64 yX9_blame ∈ lwG := lwG_of 814 (by decide +kernel) (by decide +kernel)
theorem mM_X9_68 : Cond.methodLink RX9 68 yX9_isWord ∈ lwG := lwG_of 858 (by decide +kernel) (by decide +kernel)
theorem mN_X0_copyFrom : Cond.instanceMethod yX0_copyFrom ∈ lwG := lwG_of 1269 (by decide +kernel) (by decide +kernel)
theorem mN_X0_dependsOnYear : Cond.instanceMethod yX0_dependsOnYear ∈ lwG := lwG_of 1133 (by decide +kernel) (by decide +kernel)
theorem mN_X0_firstHolding : Cond.instanceMethod yX0_firstHolding ∈ lwG := lwG_of 973 (by decide +kernel) (by decide +kernel)
theorem mN_X0_holds : Cond.instanceMethod yX0_holds ∈ lwG := lwG_of 977 (by decide +kernel) (by decide +kernel)
theorem mN_X0_inForce : Cond.instanceMethod yX0_inForce ∈ lwG := lwG_of 965 (by decide +kernel) (by decide +kernel)
theorem mN_X0_lastLine : Cond.instanceMethod yX0_lastLine ∈ lwG := lwG_of 1039 (by decide +kernel) (by decide +kernel)
theorem mN_X0_numberOf : Cond.instanceMethod yX0_numberOf ∈ lwG := lwG_of 1035 (by decide +kernel) (by decide +kernel)
theorem mN_X0_readAct : Cond.instanceMethod yX0_readAct ∈ lwG := lwG_of 824 (by decide +kernel) (by decide +kernel)
theorem mN_X0_readCond : Cond.instanceMethod yX0_readCond ∈ lwG := lwG_of 869 (by decide +kernel) (by decide +kernel)
theorem mN_X0_readHead : Cond.instanceMethod yX0_readHead ∈ lwG := lwG_of 845 (by decide +kernel) (by decide +kernel)
theorem mN_X0_readLine : Cond.instanceMethod yX0_readLine ∈ lwG := lwG_of 841 (by decide +kernel) (by decide +kernel)
theorem mN_X10_addOwn : Cond.instanceMethod yX10_addOwn ∈ lwG := lwG_of 682 (by decide +kernel) (by decide +kernel)
theorem mN_X10_alikePairs : Cond.instanceMethod yX10_alikePairs ∈ lwG := lwG_of 924 (by decide +kernel) (by decide +kernel)
theorem mN_X10_areSpelledAlike : Cond.instanceMethod yX10_areSpelledAlike ∈ lwG := lwG_of 935 (by decide +kernel) (by decide +kernel)
theorem mN_X10_dueYear : Cond.instanceMethod yX10_dueYear ∈ lwG := lwG_of 1129 (by decide +kernel) (by decide +kernel)
theorem mN_X10_editsOfNames : Cond.instanceMethod yX10_editsOfNames ∈ lwG := lwG_of 943 (by decide +kernel) (by decide +kernel)
theorem mN_X10_editsOfRows : Cond.instanceMethod yX10_editsOfRows ∈ lwG := lwG_of 947 (by decide +kernel) (by decide +kernel)
theorem mN_X10_everyone : Cond.instanceMethod yX10_everyone ∈ lwG := lwG_of 686 (by decide +kernel) (by decide +kernel)
theorem mN_X10_fewestToSwing : Cond.instanceMethod yX10_fewestToSwing ∈ lwG := lwG_of 993 (by decide +kernel) (by decide +kernel)
theorem mN_X10_firstBy : Cond.instanceMethod yX10_firstBy ∈ lwG := lwG_of 969 (by decide +kernel) (by decide +kernel)
theorem mN_X10_gather : Cond.instanceMethod yX10_gather ∈ lwG := lwG_of 673 (by decide +kernel) (by decide +kernel)
theorem mN_X10_isAlike : Cond.instanceMethod yX10_isAlike ∈ lwG := lwG_of 1054 (by decide +kernel) (by decide +kernel)
theorem mN_X10_isLame : Cond.instanceMethod yX10_isLame ∈ lwG := lwG_of 1120 (by decide +kernel) (by decide +kernel)
theorem mN_X10_isUnder : Cond.instanceMethod yX10_isUnder ∈ lwG := lwG_of 627 (by decide +kernel) (by decide +kernel)
theorem mN_X10_lameSigns : Cond.instanceMethod yX10_lameSigns ∈ lwG := lwG_of 1236 (by decide +kernel) (by decide +kernel)
theorem mN_X10_liesWithin : Cond.instanceMethod yX10_liesWithin ∈ lwG := lwG_of 618 (by decide +kernel) (by decide +kernel)
theorem mN_X10_look : Cond.instanceMethod yX10_look ∈ lwG := lwG_of 955 (by decide +kernel) (by decide +kernel)
theorem mN_X10_mostPeople : Cond.instanceMethod yX10_mostPeople ∈ lwG := lwG_of 981 (by decide +kernel) (by decide +kernel)
theorem mN_X10_setShares : Cond.instanceMethod yX10_setShares ∈ lwG := lwG_of 960 (by decide +kernel) (by decide +kernel)
theorem mN_X10_show : Cond.instanceMethod yX10_show ∈ lwG := lwG_of 1092 (by decide +kernel) (by decide +kernel)
theorem mN_X10_spellAside : Cond.instanceMethod yX10_spellAside ∈ lwG := lwG_of 928 (by decide +kernel) (by decide +kernel)
theorem mN_X10_swingsBy : Cond.instanceMethod yX10_swingsBy ∈ lwG := lwG_of 999 (by decide +kernel) (by decide +kernel)
theorem mN_X10_swungBy : Cond.instanceMethod yX10_swungBy ∈ lwG := lwG_of 1003 (by decide +kernel) (by decide +kernel)
theorem mN_X10_whyRefused : Cond.instanceMethod yX10_whyRefused ∈ lwG := lwG_of 1031 (by decide +kernel) (by decide +kernel)
theorem mN_X11_countPeople : Cond.instanceMethod yX11_countPeople ∈ lwG := lwG_of 647 (by decide +kernel) (by decide +kernel)
theorem mN_X11_liesInRow : Cond.instanceMethod yX11_liesInRow ∈ lwG := lwG_of 1310 (by decide +kernel) (by decide +kernel)
theorem mN_X11_rowsHad : Cond.instanceMethod yX11_rowsHad ∈ lwG := lwG_of 1246 (by decide +kernel) (by decide +kernel)
theorem mN_X11_taken : Cond.instanceMethod yX11_taken ∈ lwG := lwG_of 817 (by decide +kernel) (by decide +kernel)
theorem mN_X12_actOf : Cond.instanceMethod yX12_actOf ∈ lwG := lwG_of 1742 (by decide +kernel) (by decide +kernel)
theorem mN_X12_addsUp : Cond.instanceMethod yX12_addsUp ∈ lwG := lwG_of 1524 (by decide +kernel) (by decide +kernel)
theorem mN_X12_allOf : Cond.instanceMethod yX12_allOf ∈ lwG := lwG_of 1544 (by decide +kernel) (by decide +kernel)
theorem mN_X12_apart : Cond.instanceMethod yX12_apart ∈ lwG := lwG_of 1688 (by decide +kernel) (by decide +kernel)
theorem mN_X12_begins : Cond.instanceMethod yX12_begins ∈ lwG := lwG_of 1566 (by decide +kernel) (by decide +kernel)
theorem mN_X12_besideOf : Cond.instanceMethod yX12_besideOf ∈ lwG := lwG_of 1762 (by decide +kernel) (by decide +kernel)
theorem mN_X12_bits : Cond.instanceMethod yX12_bits ∈ lwG := lwG_of 1871 (by decide +kernel) (by decide +kernel)
theorem mN_X12_cond : Cond.instanceMethod yX12_cond ∈ lwG := lwG_of 1716 (by decide +kernel) (by decide +kernel)
theorem mN_X12_editsOf : Cond.instanceMethod yX12_editsOf ∈ lwG := lwG_of 1684 (by decide +kernel) (by decide +kernel)
theorem mN_X12_event : Cond.instanceMethod yX12_event ∈ lwG := lwG_of 1807 (by decide +kernel) (by decide +kernel)
theorem mN_X12_factHere : Cond.instanceMethod yX12_factHere ∈ lwG := lwG_of 1721 (by decide +kernel) (by decide +kernel)
theorem mN_X12_firstOf : Cond.instanceMethod yX12_firstOf ∈ lwG := lwG_of 1738 (by decide +kernel) (by decide +kernel)
theorem mN_X12_fits : Cond.instanceMethod yX12_fits ∈ lwG := lwG_of 1645 (by decide +kernel) (by decide +kernel)
theorem mN_X12_givesOf : Cond.instanceMethod yX12_givesOf ∈ lwG := lwG_of 1896 (by decide +kernel) (by decide +kernel)
theorem mN_X12_good : Cond.instanceMethod yX12_good ∈ lwG := lwG_of 1581 (by decide +kernel) (by decide +kernel)
theorem mN_X12_hasName : Cond.instanceMethod yX12_hasName ∈ lwG := lwG_of 1892 (by decide +kernel) (by decide +kernel)
theorem mN_X12_hearing : Cond.instanceMethod yX12_hearing ∈ lwG := lwG_of 1774 (by decide +kernel) (by decide +kernel)
theorem mN_X12_holdFor : Cond.instanceMethod yX12_holdFor ∈ lwG := lwG_of 1746 (by decide +kernel) (by decide +kernel)
theorem mN_X12_holds : Cond.instanceMethod yX12_holds ∈ lwG := lwG_of 1672 (by decide +kernel) (by decide +kernel)
theorem mN_X12_is : Cond.instanceMethod yX12_is ∈ lwG := lwG_of 1586 (by decide +kernel) (by decide +kernel)
theorem mN_X12_isAlike : Cond.instanceMethod yX12_isAlike ∈ lwG := lwG_of 1676 (by decide +kernel) (by decide +kernel)
theorem mN_X12_isHearing : Cond.instanceMethod yX12_isHearing ∈ lwG := lwG_of 1782 (by decide +kernel) (by decide +kernel)
theorem mN_X12_isLame : Cond.instanceMethod yX12_isLame ∈ lwG := lwG_of 1849 (by decide +kernel) (by decide +kernel)
theorem mN_X12_isLetters : Cond.instanceMethod yX12_isLetters ∈ lwG := lwG_of 1552 (by decide +kernel) (by decide +kernel)
theorem mN_X12_isName : Cond.instanceMethod yX12_isName ∈ lwG := lwG_of 1629 (by decide +kernel) (by decide +kernel)
theorem mN_X12_isNear : Cond.instanceMethod yX12_isNear ∈ lwG := lwG_of 1799 (by decide +kernel) (by decide +kernel)
theorem mN_X12_isPlace : Cond.instanceMethod yX12_isPlace ∈ lwG := lwG_of 1516 (by decide +kernel) (by decide +kernel)
theorem mN_X12_isRuleWord : Cond.instanceMethod yX12_isRuleWord ∈ lwG := lwG_of 1592 (by decide +kernel) (by decide +kernel)
theorem mN_X12_isSign : Cond.instanceMethod yX12_isSign ∈ lwG := lwG_of 1612 (by decide +kernel) (by decide +kernel)
theorem mN_X12_isSign0 : Cond.instanceMethod yX12_isSign0 ∈ lwG := lwG_of 1836 (by decide +kernel) (by decide +kernel)
theorem mN_X12_isTooAlike : Cond.instanceMethod yX12_isTooAlike ∈ lwG := lwG_of 1795 (by decide +kernel) (by decide +kernel)
theorem mN_X12_joins : Cond.instanceMethod yX12_joins ∈ lwG := lwG_of 1901 (by decide +kernel) (by decide +kernel)
theorem mN_X12_lameSince : Cond.instanceMethod yX12_lameSince ∈ lwG := lwG_of 1853 (by decide +kernel) (by decide +kernel)
theorem mN_X12_lays : Cond.instanceMethod yX12_lays ∈ lwG := lwG_of 1652 (by decide +kernel) (by decide +kernel)
theorem mN_X12_leastOf : Cond.instanceMethod yX12_leastOf ∈ lwG := lwG_of 1862 (by decide +kernel) (by decide +kernel)
theorem mN_X12_line : Cond.instanceMethod yX12_line ∈ lwG := lwG_of 1706 (by decide +kernel) (by decide +kernel)
theorem mN_X12_looks : Cond.instanceMethod yX12_looks ∈ lwG := lwG_of 1520 (by decide +kernel) (by decide +kernel)
theorem mN_X12_mayBe : Cond.instanceMethod yX12_mayBe ∈ lwG := lwG_of 1867 (by decide +kernel) (by decide +kernel)
theorem mN_X12_most : Cond.instanceMethod yX12_most ∈ lwG := lwG_of 1754 (by decide +kernel) (by decide +kernel)
theorem mN_X12_nameIs : Cond.instanceMethod yX12_nameIs ∈ lwG := lwG_of 1637 (by decide +kernel) (by decide +kernel)
theorem mN_X12_needSign : Cond.instanceMethod yX12_needSign ∈ lwG := lwG_of 1621 (by decide +kernel) (by decide +kernel)
theorem mN_X12_next_ : Cond.instanceMethod yX12_next_ ∈ lwG := lwG_of 1570 (by decide +kernel) (by decide +kernel)
theorem mN_X12_now : Cond.instanceMethod yX12_now ∈ lwG := lwG_of 1503 (by decide +kernel) (by decide +kernel)
theorem mN_X12_number : Cond.instanceMethod yX12_number ∈ lwG := lwG_of 1710 (by decide +kernel) (by decide +kernel)
theorem mN_X12_partsOf : Cond.instanceMethod yX12_partsOf ∈ lwG := lwG_of 1750 (by decide +kernel) (by decide +kernel)
theorem mN_X12_people : Cond.instanceMethod yX12_people ∈ lwG := lwG_of 1527 (by decide +kernel) (by decide +kernel)
theorem mN_X12_rule : Cond.instanceMethod yX12_rule ∈ lwG := lwG_of 1600 (by decide +kernel) (by decide +kernel)
theorem mN_X12_ruleWord : Cond.instanceMethod yX12_ruleWord ∈ lwG := lwG_of 1617 (by decide +kernel) (by decide +kernel)
theorem mN_X12_see : Cond.instanceMethod yX12_see ∈ lwG := lwG_of 1574 (by decide +kernel) (by decide +kernel)
theorem mN_X12_set : Cond.instanceMethod yX12_set ∈ lwG := lwG_of 1608 (by decide +kernel) (by decide +kernel)
theorem mN_X12_settledNow : Cond.instanceMethod yX12_settledNow ∈ lwG := lwG_of 1913 (by decide +kernel) (by decide +kernel)
theorem mN_X12_settledOf : Cond.instanceMethod yX12_settledOf ∈ lwG := lwG_of 1803 (by decide +kernel) (by decide +kernel)
theorem mN_X12_shows : Cond.instanceMethod yX12_shows ∈ lwG := lwG_of 1823 (by decide +kernel) (by decide +kernel)
theorem mN_X12_signIs : Cond.instanceMethod yX12_signIs ∈ lwG := lwG_of 1845 (by decide +kernel) (by decide +kernel)
theorem mN_X12_sortHere : Cond.instanceMethod yX12_sortHere ∈ lwG := lwG_of 1696 (by decide +kernel) (by decide +kernel)
theorem mN_X12_spellingOf : Cond.instanceMethod yX12_spellingOf ∈ lwG := lwG_of 1641 (by decide +kernel) (by decide +kernel)
theorem mN_X12_spells : Cond.instanceMethod yX12_spells ∈ lwG := lwG_of 1633 (by decide +kernel) (by decide +kernel)
theorem mN_X12_takes : Cond.instanceMethod yX12_takes ∈ lwG := lwG_of 1604 (by decide +kernel) (by decide +kernel)
theorem mN_X12_takesInHand : Cond.instanceMethod yX12_takesInHand ∈ lwG := lwG_of 1656 (by decide +kernel) (by decide +kernel)
theorem mN_X12_termOf : Cond.instanceMethod yX12_termOf ∈ lwG := lwG_of 1791 (by decide +kernel) (by decide +kernel)
theorem mN_X12_tongueHere : Cond.instanceMethod yX12_tongueHere ∈ lwG := lwG_of 1729 (by decide +kernel) (by decide +kernel)
theorem mN_X12_wrong : Cond.instanceMethod yX12_wrong ∈ lwG := lwG_of 1596 (by decide +kernel) (by decide +kernel)
theorem mN_X1_cast : Cond.instanceMethod yX1_cast ∈ lwG := lwG_of 1023 (by decide +kernel) (by decide +kernel)
theorem mN_X1_copyFrom : Cond.instanceMethod yX1_copyFrom ∈ lwG := lwG_of 1275 (by decide +kernel) (by decide +kernel)
theorem mN_X1_has : Cond.instanceMethod yX1_has ∈ lwG := lwG_of 1019 (by decide +kernel) (by decide +kernel)
theorem mN_X1_nameAt : Cond.instanceMethod yX1_nameAt ∈ lwG := lwG_of 1062 (by decide +kernel) (by decide +kernel)
theorem mN_X1_namesAt : Cond.instanceMethod yX1_namesAt ∈ lwG := lwG_of 1241 (by decide +kernel) (by decide +kernel)
theorem mN_X1_open : Cond.instanceMethod yX1_open ∈ lwG := lwG_of 1011 (by decide +kernel) (by decide +kernel)
theorem mN_X1_settle : Cond.instanceMethod yX1_settle ∈ lwG := lwG_of 1071 (by decide +kernel) (by decide +kernel)
theorem mN_X1_settlingAt : Cond.instanceMethod yX1_settlingAt ∈ lwG := lwG_of 1066 (by decide +kernel) (by decide +kernel)
theorem mN_X1_tooFew : Cond.instanceMethod yX1_tooFew ∈ lwG := lwG_of 1043 (by decide +kernel) (by decide +kernel)
theorem mN_X1_undoLast : Cond.instanceMethod yX1_undoLast ∈ lwG := lwG_of 1084 (by decide +kernel) (by decide +kernel)
theorem mN_X2_addPlace : Cond.instanceMethod yX2_addPlace ∈ lwG := lwG_of 606 (by decide +kernel) (by decide +kernel)
theorem mN_X2_areNear : Cond.instanceMethod yX2_areNear ∈ lwG := lwG_of 1058 (by decide +kernel) (by decide +kernel)
theorem mN_X2_copyFrom : Cond.instanceMethod yX2_copyFrom ∈ lwG := lwG_of 1260 (by decide +kernel) (by decide +kernel)
theorem mN_X2_fillOwn : Cond.instanceMethod yX2_fillOwn ∈ lwG := lwG_of 677 (by decide +kernel) (by decide +kernel)
theorem mN_X2_fillParents : Cond.instanceMethod yX2_fillParents ∈ lwG := lwG_of 622 (by decide +kernel) (by decide +kernel)
theorem mN_X2_has : Cond.instanceMethod yX2_has ∈ lwG := lwG_of 614 (by decide +kernel) (by decide +kernel)
theorem mN_X2_tellCount : Cond.instanceMethod yX2_tellCount ∈ lwG := lwG_of 652 (by decide +kernel) (by decide +kernel)
theorem mN_X2_tellPart : Cond.instanceMethod yX2_tellPart ∈ lwG := lwG_of 631 (by decide +kernel) (by decide +kernel)
theorem mN_X3_add : Cond.instanceMethod yX3_add ∈ lwG := lwG_of 1175 (by decide +kernel) (by decide +kernel)
theorem mN_X3_choosePlaces : Cond.instanceMethod yX3_choosePlaces ∈ lwG := lwG_of 1188 (by decide +kernel) (by decide +kernel)
theorem mN_X3_fewestEdits : Cond.instanceMethod yX3_fewestEdits ∈ lwG := lwG_of 1197 (by decide +kernel) (by decide +kernel)
theorem mN_X3_fillGains : Cond.instanceMethod yX3_fillGains ∈ lwG := lwG_of 1192 (by decide +kernel) (by decide +kernel)
theorem mN_X3_fillMost : Cond.instanceMethod yX3_fillMost ∈ lwG := lwG_of 1204 (by decide +kernel) (by decide +kernel)
theorem mN_X3_greatestSum : Cond.instanceMethod yX3_greatestSum ∈ lwG := lwG_of 1184 (by decide +kernel) (by decide +kernel)
theorem mN_X3_mostBehind : Cond.instanceMethod yX3_mostBehind ∈ lwG := lwG_of 1209 (by decide +kernel) (by decide +kernel)
theorem mN_X3_reaches : Cond.instanceMethod yX3_reaches ∈ lwG := lwG_of 1224 (by decide +kernel) (by decide +kernel)
theorem mN_X3_sumWith : Cond.instanceMethod yX3_sumWith ∈ lwG := lwG_of 1214 (by decide +kernel) (by decide +kernel)
theorem mN_X3_takeFirst : Cond.instanceMethod yX3_takeFirst ∈ lwG := lwG_of 1220 (by decide +kernel) (by decide +kernel)
theorem mN_X4_begin : Cond.instanceMethod yX4_begin ∈ lwG := lwG_of 1142 (by decide +kernel) (by decide +kernel)
theorem mN_X4_leastKey : Cond.instanceMethod yX4_leastKey ∈ lwG := lwG_of 1155 (by decide +kernel) (by decide +kernel)
theorem mN_X4_leastSum : Cond.instanceMethod yX4_leastSum ∈ lwG := lwG_of 1151 (by decide +kernel) (by decide +kernel)
theorem mN_X4_take : Cond.instanceMethod yX4_take ∈ lwG := lwG_of 1146 (by decide +kernel) (by decide +kernel)
theorem mN_X5_add : Cond.instanceMethod yX5_add ∈ lwG := lwG_of 904 (by decide +kernel) (by decide +kernel)
theorem mN_X5_has : Cond.instanceMethod yX5_has ∈ lwG := lwG_of 912 (by decide +kernel) (by decide +kernel)
theorem mN_X5_readsAs : Cond.instanceMethod yX5_readsAs ∈ lwG := lwG_of 1125 (by decide +kernel) (by decide +kernel)
theorem mN_X6_copyFrom : Cond.instanceMethod yX6_copyFrom ∈ lwG := lwG_of 1281 (by decide +kernel) (by decide +kernel)
theorem mN_X6_has : Cond.instanceMethod yX6_has ∈ lwG := lwG_of 1112 (by decide +kernel) (by decide +kernel)
theorem mN_X6_make : Cond.instanceMethod yX6_make ∈ lwG := lwG_of 1104 (by decide +kernel) (by decide +kernel)
theorem mN_X7_addName : Cond.instanceMethod yX7_addName ∈ lwG := lwG_of 701 (by decide +kernel) (by decide +kernel)
theorem mN_X7_copyFrom : Cond.instanceMethod yX7_copyFrom ∈ lwG := lwG_of 1265 (by decide +kernel) (by decide +kernel)
theorem mN_X7_fits : Cond.instanceMethod yX7_fits ∈ lwG := lwG_of 900 (by decide +kernel) (by decide +kernel)
theorem mN_X7_hasName : Cond.instanceMethod yX7_hasName ∈ lwG := lwG_of 884 (by decide +kernel) (by decide +kernel)
theorem mN_X7_readRule : Cond.instanceMethod yX7_readRule ∈ lwG := lwG_of 790 (by decide +kernel) (by decide +kernel)
theorem mN_X7_readSet : Cond.instanceMethod yX7_readSet ∈ lwG := lwG_of 796 (by decide +kernel) (by decide +kernel)
theorem mN_X7_readSpelling : Cond.instanceMethod yX7_readSpelling ∈ lwG := lwG_of 712 (by decide +kernel) (by decide +kernel)
theorem mN_X7_readWord : Cond.instanceMethod yX7_readWord ∈ lwG := lwG_of 806 (by decide +kernel) (by decide +kernel)
theorem mN_X7_ruleFor : Cond.instanceMethod yX7_ruleFor ∈ lwG := lwG_of 896 (by decide +kernel) (by decide +kernel)
theorem mN_X7_spellInto : Cond.instanceMethod yX7_spellInto ∈ lwG := lwG_of 888 (by decide +kernel) (by decide +kernel)
theorem mN_X7_spellingAt : Cond.instanceMethod yX7_spellingAt ∈ lwG := lwG_of 892 (by decide +kernel) (by decide +kernel)
theorem mN_X8_copyFrom : Cond.instanceMethod yX8_copyFrom ∈ lwG := lwG_of 1253 (by decide +kernel) (by decide +kernel)
theorem mN_X8_mark : Cond.instanceMethod yX8_mark ∈ lwG := lwG_of 638 (by decide +kernel) (by decide +kernel)
theorem mN_X9_advance : Cond.instanceMethod yX9_advance ∈ lwG := lwG_of 720 (by decide +kernel) (by decide +kernel)
theorem mN_X9_begin : Cond.instanceMethod yX9_begin ∈ lwG := lwG_of 716 (by decide +kernel) (by decide +kernel)
theorem mN_X9_blame : Cond.instanceMethod yX9_blame ∈ lwG := lwG_of 786 (by decide +kernel) (by decide +kernel)
theorem mN_X9_goesOn : Cond.instanceMethod yX9_goesOn ∈ lwG := lwG_of 725 (by decide +kernel) (by decide +kernel)
theorem mN_X9_isLetters : Cond.instanceMethod yX9_isLetters ∈ lwG := lwG_of 694 (by decide +kernel) (by decide +kernel)
theorem mN_X9_isSign : Cond.instanceMethod yX9_isSign ∈ lwG := lwG_of 800 (by decide +kernel) (by decide +kernel)
theorem mN_X9_isWord : Cond.instanceMethod yX9_isWord ∈ lwG := lwG_of 730 (by decide +kernel) (by decide +kernel)
theorem mN_X9_isWordOf : Cond.instanceMethod yX9_isWordOf ∈ lwG := lwG_of 782 (by decide +kernel) (by decide +kernel)
theorem mN_X9_push : Cond.instanceMethod yX9_push ∈ lwG := lwG_of 587 (by decide +kernel) (by decide +kernel)
theorem mN_X9_takeNumber : Cond.instanceMethod yX9_takeNumber ∈ lwG := lwG_of 850 (by decide +kernel) (by decide +kernel)
theorem mN_X9_takeSign : Cond.instanceMethod yX9_takeSign ∈ lwG := lwG_of 810 (by decide +kernel) (by decide +kernel)
theorem mN_X9_takeWord : Cond.instanceMethod yX9_takeWord ∈ lwG := lwG_of 855 (by decide +kernel) (by decide +kernel)
theorem mS_X0_copyFrom : Cond.selects yX0_copyFrom.cls yX0_copyFrom yX0_copyFrom ∈ lwG := lwG_of 1270 (by decide +kernel) (by decide +kernel)
theorem mS_X0_dependsOnYear : Cond.selects yX0_dependsOnYear.cls yX0_dependsOnYear yX0_dependsOnYear ∈ lwG := lwG_of 1134 (by decide +kernel) (by decide +kernel)
theorem mS_X0_firstHolding : Cond.selects yX0_firstHolding.cls yX0_firstHolding yX0_firstHolding ∈ lwG := lwG_of 974 (by decide +kernel) (by decide +kernel)
theorem mS_X0_holds : Cond.selects yX0_holds.cls yX0_holds yX0_holds ∈ lwG := lwG_of 978 (by decide +kernel) (by decide +kernel)
theorem mS_X0_inForce : Cond.selects yX0_inForce.cls yX0_inForce yX0_inForce ∈ lwG := lwG_of 966 (by decide +kernel) (by decide +kernel)
theorem mS_X0_lastLine : Cond.selects yX0_lastLine.cls yX0_lastLine yX0_lastLine ∈ lwG := lwG_of 1040 (by decide +kernel) (by decide +kernel)
theorem mS_X0_numberOf : Cond.selects yX0_numberOf.cls yX0_numberOf yX0_numberOf ∈ lwG := lwG_of 1036 (by decide +kernel) (by decide +kernel)
theorem mS_X0_readAct : Cond.selects yX0_readAct.cls yX0_readAct yX0_readAct ∈ lwG := lwG_of 825 (by decide +kernel) (by decide +kernel)
theorem mS_X0_readCond : Cond.selects yX0_readCond.cls yX0_readCond yX0_readCond ∈ lwG := lwG_of 870 (by decide +kernel) (by decide +kernel)
theorem mS_X0_readHead : Cond.selects yX0_readHead.cls yX0_readHead yX0_readHead ∈ lwG := lwG_of 846 (by decide +kernel) (by decide +kernel)
theorem mS_X0_readLine : Cond.selects yX0_readLine.cls yX0_readLine yX0_readLine ∈ lwG := lwG_of 842 (by decide +kernel) (by decide +kernel)
theorem mS_X10_addOwn : Cond.selects yX10_addOwn.cls yX10_addOwn yX10_addOwn ∈ lwG := lwG_of 683 (by decide +kernel) (by decide +kernel)
theorem mS_X10_alikePairs : Cond.selects yX10_alikePairs.cls yX10_alikePairs yX10_alikePairs ∈ lwG := lwG_of 925 (by decide +kernel) (by decide +kernel)
theorem mS_X10_areSpelledAlike : Cond.selects yX10_areSpelledAlike.cls yX10_areSpelledAlike yX10_areSpelledAlike ∈ lwG := lwG_of 936 (by decide +kernel) (by decide +kernel)
theorem mS_X10_dueYear : Cond.selects yX10_dueYear.cls yX10_dueYear yX10_dueYear ∈ lwG := lwG_of 1130 (by decide +kernel) (by decide +kernel)
theorem mS_X10_editsOfNames : Cond.selects yX10_editsOfNames.cls yX10_editsOfNames yX10_editsOfNames ∈ lwG := lwG_of 944 (by decide +kernel) (by decide +kernel)
theorem mS_X10_editsOfRows : Cond.selects yX10_editsOfRows.cls yX10_editsOfRows yX10_editsOfRows ∈ lwG := lwG_of 948 (by decide +kernel) (by decide +kernel)
theorem mS_X10_everyone : Cond.selects yX10_everyone.cls yX10_everyone yX10_everyone ∈ lwG := lwG_of 687 (by decide +kernel) (by decide +kernel)
theorem mS_X10_fewestToSwing : Cond.selects yX10_fewestToSwing.cls yX10_fewestToSwing yX10_fewestToSwing ∈ lwG := lwG_of 994 (by decide +kernel) (by decide +kernel)
theorem mS_X10_firstBy : Cond.selects yX10_firstBy.cls yX10_firstBy yX10_firstBy ∈ lwG := lwG_of 970 (by decide +kernel) (by decide +kernel)
theorem mS_X10_gather : Cond.selects yX10_gather.cls yX10_gather yX10_gather ∈ lwG := lwG_of 674 (by decide +kernel) (by decide +kernel)
theorem mS_X10_isAlike : Cond.selects yX10_isAlike.cls yX10_isAlike yX10_isAlike ∈ lwG := lwG_of 1055 (by decide +kernel) (by decide +kernel)
theorem mS_X10_isLame : Cond.selects yX10_isLame.cls yX10_isLame yX10_isLame ∈ lwG := lwG_of 1121 (by decide +kernel) (by decide +kernel)
theorem mS_X10_isUnder : Cond.selects yX10_isUnder.cls yX10_isUnder yX10_isUnder ∈ lwG := lwG_of 628 (by decide +kernel) (by decide +kernel)
theorem mS_X10_lameSigns : Cond.selects yX10_lameSigns.cls yX10_lameSigns yX10_lameSigns ∈ lwG := lwG_of 1237 (by decide +kernel) (by decide +kernel)
theorem mS_X10_liesWithin : Cond.selects yX10_liesWithin.cls yX10_liesWithin yX10_liesWithin ∈ lwG := lwG_of 619 (by decide +kernel) (by decide +kernel)
theorem mS_X10_look : Cond.selects yX10_look.cls yX10_look yX10_look ∈ lwG := lwG_of 956 (by decide +kernel) (by decide +kernel)
theorem mS_X10_mostPeople : Cond.selects yX10_mostPeople.cls yX10_mostPeople yX10_mostPeople ∈ lwG := lwG_of 982 (by decide +kernel) (by decide +kernel)
theorem mS_X10_setShares : Cond.selects yX10_setShares.cls yX10_setShares yX10_setShares ∈ lwG := lwG_of 961 (by decide +kernel) (by decide +kernel)
theorem mS_X10_show : Cond.selects yX10_show.cls yX10_show yX10_show ∈ lwG := lwG_of 1093 (by decide +kernel) (by decide +kernel)
theorem mS_X10_spellAside : Cond.selects yX10_spellAside.cls yX10_spellAside yX10_spellAside ∈ lwG := lwG_of 929 (by decide +kernel) (by decide +kernel)
theorem mS_X10_swingsBy : Cond.selects yX10_swingsBy.cls yX10_swingsBy yX10_swingsBy ∈ lwG := lwG_of 1000 (by decide +kernel) (by decide +kernel)
theorem mS_X10_swungBy : Cond.selects yX10_swungBy.cls yX10_swungBy yX10_swungBy ∈ lwG := lwG_of 1004 (by decide +kernel) (by decide +kernel)
theorem mS_X10_whyRefused : Cond.selects yX10_whyRefused.cls yX10_whyRefused yX10_whyRefused ∈ lwG := lwG_of 1032 (by decide +kernel) (by decide +kernel)
theorem mS_X11_countPeople : Cond.selects yX11_countPeople.cls yX11_countPeople yX11_countPeople ∈ lwG := lwG_of 0 (by decide +kernel) (by decide +kernel)
theorem mS_X11_liesInRow : Cond.selects yX11_liesInRow.cls yX11_liesInRow yX11_liesInRow ∈ lwG := lwG_of 3 (by decide +kernel) (by decide +kernel)
theorem mS_X11_rowsHad : Cond.selects yX11_rowsHad.cls yX11_rowsHad yX11_rowsHad ∈ lwG := lwG_of 2 (by decide +kernel) (by decide +kernel)
theorem mS_X11_taken : Cond.selects yX11_taken.cls yX11_taken yX11_taken ∈ lwG := lwG_of 1 (by decide +kernel) (by decide +kernel)
theorem mS_X12_actOf : Cond.selects yX12_actOf.cls yX12_actOf yX12_actOf ∈ lwG := lwG_of 41 (by decide +kernel) (by decide +kernel)
theorem mS_X12_addsUp : Cond.selects yX12_addsUp.cls yX12_addsUp yX12_addsUp ∈ lwG := lwG_of 7 (by decide +kernel) (by decide +kernel)
theorem mS_X12_allOf : Cond.selects yX12_allOf.cls yX12_allOf yX12_allOf ∈ lwG := lwG_of 8 (by decide +kernel) (by decide +kernel)
theorem mS_X12_apart : Cond.selects yX12_apart.cls yX12_apart yX12_apart ∈ lwG := lwG_of 33 (by decide +kernel) (by decide +kernel)
theorem mS_X12_begins : Cond.selects yX12_begins.cls yX12_begins yX12_begins ∈ lwG := lwG_of 10 (by decide +kernel) (by decide +kernel)
theorem mS_X12_besideOf : Cond.selects yX12_besideOf.cls yX12_besideOf yX12_besideOf ∈ lwG := lwG_of 45 (by decide +kernel) (by decide +kernel)
theorem mS_X12_bits : Cond.selects yX12_bits.cls yX12_bits yX12_bits ∈ lwG := lwG_of 60 (by decide +kernel) (by decide +kernel)
theorem mS_X12_cond : Cond.selects yX12_cond.cls yX12_cond yX12_cond ∈ lwG := lwG_of 37 (by decide +kernel) (by decide +kernel)
theorem mS_X12_editsOf : Cond.selects yX12_editsOf.cls yX12_editsOf yX12_editsOf ∈ lwG := lwG_of 32 (by decide +kernel) (by decide +kernel)
theorem mS_X12_event : Cond.selects yX12_event.cls yX12_event yX12_event ∈ lwG := lwG_of 52 (by decide +kernel) (by decide +kernel)
theorem mS_X12_factHere : Cond.selects yX12_factHere.cls yX12_factHere yX12_factHere ∈ lwG := lwG_of 38 (by decide +kernel) (by decide +kernel)
theorem mS_X12_firstOf : Cond.selects yX12_firstOf.cls yX12_firstOf yX12_firstOf ∈ lwG := lwG_of 40 (by decide +kernel) (by decide +kernel)
theorem mS_X12_fits : Cond.selects yX12_fits.cls yX12_fits yX12_fits ∈ lwG := lwG_of 27 (by decide +kernel) (by decide +kernel)
theorem mS_X12_givesOf : Cond.selects yX12_givesOf.cls yX12_givesOf yX12_givesOf ∈ lwG := lwG_of 62 (by decide +kernel) (by decide +kernel)
theorem mS_X12_good : Cond.selects yX12_good.cls yX12_good yX12_good ∈ lwG := lwG_of 13 (by decide +kernel) (by decide +kernel)
theorem mS_X12_hasName : Cond.selects yX12_hasName.cls yX12_hasName yX12_hasName ∈ lwG := lwG_of 61 (by decide +kernel) (by decide +kernel)
theorem mS_X12_hearing : Cond.selects yX12_hearing.cls yX12_hearing yX12_hearing ∈ lwG := lwG_of 46 (by decide +kernel) (by decide +kernel)
theorem mS_X12_holdFor : Cond.selects yX12_holdFor.cls yX12_holdFor yX12_holdFor ∈ lwG := lwG_of 42 (by decide +kernel) (by decide +kernel)
theorem mS_X12_holds : Cond.selects yX12_holds.cls yX12_holds yX12_holds ∈ lwG := lwG_of 30 (by decide +kernel) (by decide +kernel)
theorem mS_X12_is : Cond.selects yX12_is.cls yX12_is yX12_is ∈ lwG := lwG_of 14 (by decide +kernel) (by decide +kernel)
theorem mS_X12_isAlike : Cond.selects yX12_isAlike.cls yX12_isAlike yX12_isAlike ∈ lwG := lwG_of 31 (by decide +kernel) (by decide +kernel)
theorem mS_X12_isHearing : Cond.selects yX12_isHearing.cls yX12_isHearing yX12_isHearing ∈ lwG := lwG_of 47 (by decide +kernel) (by decide +kernel)
theorem mS_X12_isLame : Cond.selects yX12_isLame.cls yX12_isLame yX12_isLame ∈ lwG := lwG_of 56 (by decide +kernel) (by decide +kernel)
theorem mS_X12_isLetters : Cond.selects yX12_isLetters.cls yX12_isLetters yX12_isLetters ∈ lwG := lwG_of 9 (by decide +kernel) (by decide +kernel)
theorem mS_X12_isName : Cond.selects yX12_isName.cls yX12_isName yX12_isName ∈ lwG := lwG_of 23 (by decide +kernel) (by decide +kernel)
theorem mS_X12_isNear : Cond.selects yX12_isNear.cls yX12_isNear yX12_isNear ∈ lwG := lwG_of 50 (by decide +kernel) (by decide +kernel)
theorem mS_X12_isPlace : Cond.selects yX12_isPlace.cls yX12_isPlace yX12_isPlace ∈ lwG := lwG_of 5 (by decide +kernel) (by decide +kernel)
theorem mS_X12_isRuleWord : Cond.selects yX12_isRuleWord.cls yX12_isRuleWord yX12_isRuleWord ∈ lwG := lwG_of 15 (by decide +kernel) (by decide +kernel)
theorem mS_X12_isSign : Cond.selects yX12_isSign.cls yX12_isSign yX12_isSign ∈ lwG := lwG_of 20 (by decide +kernel) (by decide +kernel)
theorem mS_X12_isSign0 : Cond.selects yX12_isSign0.cls yX12_isSign0 yX12_isSign0 ∈ lwG := lwG_of 54 (by decide +kernel) (by decide +kernel)
theorem mS_X12_isTooAlike : Cond.selects yX12_isTooAlike.cls yX12_isTooAlike yX12_isTooAlike ∈ lwG := lwG_of 49 (by decide +kernel) (by decide +kernel)
theorem mS_X12_joins : Cond.selects yX12_joins.cls yX12_joins yX12_joins ∈ lwG := lwG_of 63 (by decide +kernel) (by decide +kernel)
theorem mS_X12_lameSince : Cond.selects yX12_lameSince.cls yX12_lameSince yX12_lameSince ∈ lwG := lwG_of 57 (by decide +kernel) (by decide +kernel)
theorem mS_X12_lays : Cond.selects yX12_lays.cls yX12_lays yX12_lays ∈ lwG := lwG_of 28 (by decide +kernel) (by decide +kernel)
theorem mS_X12_leastOf : Cond.selects yX12_leastOf.cls yX12_leastOf yX12_leastOf ∈ lwG := lwG_of 58 (by decide +kernel) (by decide +kernel)
theorem mS_X12_line : Cond.selects yX12_line.cls yX12_line yX12_line ∈ lwG := lwG_of 35 (by decide +kernel) (by decide +kernel)
theorem mS_X12_looks : Cond.selects yX12_looks.cls yX12_looks yX12_looks ∈ lwG := lwG_of 6 (by decide +kernel) (by decide +kernel)
theorem mS_X12_mayBe : Cond.selects yX12_mayBe.cls yX12_mayBe yX12_mayBe ∈ lwG := lwG_of 59 (by decide +kernel) (by decide +kernel)
theorem mS_X12_most : Cond.selects yX12_most.cls yX12_most yX12_most ∈ lwG := lwG_of 44 (by decide +kernel) (by decide +kernel)
theorem mS_X12_nameIs : Cond.selects yX12_nameIs.cls yX12_nameIs yX12_nameIs ∈ lwG := lwG_of 25 (by decide +kernel) (by decide +kernel)
theorem mS_X12_needSign : Cond.selects yX12_needSign.cls yX12_needSign yX12_needSign ∈ lwG := lwG_of 22 (by decide +kernel) (by decide +kernel)
theorem mS_X12_next_ : Cond.selects yX12_next_.cls yX12_next_ yX12_next_ ∈ lwG := lwG_of 11 (by decide +kernel) (by decide +kernel)
theorem mS_X12_now : Cond.selects yX12_now.cls yX12_now yX12_now ∈ lwG := lwG_of 4 (by decide +kernel) (by decide +kernel)
theorem mS_X12_number : Cond.selects yX12_number.cls yX12_number yX12_number ∈ lwG := lwG_of 36 (by decide +kernel) (by decide +kernel)
theorem mS_X12_partsOf : Cond.selects yX12_partsOf.cls yX12_partsOf yX12_partsOf ∈ lwG := lwG_of 43 (by decide +kernel) (by decide +kernel)
theorem mS_X12_people : Cond.selects yX12_people.cls yX12_people yX12_people ∈ lwG := lwG_of 1528 (by decide +kernel) (by decide +kernel)
theorem mS_X12_rule : Cond.selects yX12_rule.cls yX12_rule yX12_rule ∈ lwG := lwG_of 17 (by decide +kernel) (by decide +kernel)
theorem mS_X12_ruleWord : Cond.selects yX12_ruleWord.cls yX12_ruleWord yX12_ruleWord ∈ lwG := lwG_of 21 (by decide +kernel) (by decide +kernel)
theorem mS_X12_see : Cond.selects yX12_see.cls yX12_see yX12_see ∈ lwG := lwG_of 12 (by decide +kernel) (by decide +kernel)
theorem mS_X12_set : Cond.selects yX12_set.cls yX12_set yX12_set ∈ lwG := lwG_of 19 (by decide +kernel) (by decide +kernel)
theorem mS_X12_settledNow : Cond.selects yX12_settledNow.cls yX12_settledNow yX12_settledNow ∈ lwG := lwG_of 64 (by decide +kernel) (by decide +kernel)
theorem mS_X12_settledOf : Cond.selects yX12_settledOf.cls yX12_settledOf yX12_settledOf ∈ lwG := lwG_of 51 (by decide +kernel) (by decide +kernel)
theorem mS_X12_shows : Cond.selects yX12_shows.cls yX12_shows yX12_shows ∈ lwG := lwG_of 53 (by decide +kernel) (by decide +kernel)
theorem mS_X12_signIs : Cond.selects yX12_signIs.cls yX12_signIs yX12_signIs ∈ lwG := lwG_of 55 (by decide +kernel) (by decide +kernel)
theorem mS_X12_sortHere : Cond.selects yX12_sortHere.cls yX12_sortHere yX12_sortHere ∈ lwG := lwG_of 34 (by decide +kernel) (by decide +kernel)
theorem mS_X12_spellingOf : Cond.selects yX12_spellingOf.cls yX12_spellingOf yX12_spellingOf ∈ lwG := lwG_of 26 (by decide +kernel) (by decide +kernel)
theorem mS_X12_spells : Cond.selects yX12_spells.cls yX12_spells yX12_spells ∈ lwG := lwG_of 24 (by decide +kernel) (by decide +kernel)
theorem mS_X12_takes : Cond.selects yX12_takes.cls yX12_takes yX12_takes ∈ lwG := lwG_of 18 (by decide +kernel) (by decide +kernel)
theorem mS_X12_takesInHand : Cond.selects yX12_takesInHand.cls yX12_takesInHand yX12_takesInHand ∈ lwG := lwG_of 29 (by decide +kernel) (by decide +kernel)
theorem mS_X12_termOf : Cond.selects yX12_termOf.cls yX12_termOf yX12_termOf ∈ lwG := lwG_of 48 (by decide +kernel) (by decide +kernel)
theorem mS_X12_tongueHere : Cond.selects yX12_tongueHere.cls yX12_tongueHere yX12_tongueHere ∈ lwG := lwG_of 39 (by decide +kernel) (by decide +kernel)
theorem mS_X12_wrong : Cond.selects yX12_wrong.cls yX12_wrong yX12_wrong ∈ lwG := lwG_of 16 (by decide +kernel) (by decide +kernel)
theorem mS_X1_cast : Cond.selects yX1_cast.cls yX1_cast yX1_cast ∈ lwG := lwG_of 1024 (by decide +kernel) (by decide +kernel)
theorem mS_X1_copyFrom : Cond.selects yX1_copyFrom.cls yX1_copyFrom yX1_copyFrom ∈ lwG := lwG_of 1276 (by decide +kernel) (by decide +kernel)
theorem mS_X1_has : Cond.selects yX1_has.cls yX1_has yX1_has ∈ lwG := lwG_of 1020 (by decide +kernel) (by decide +kernel)
theorem mS_X1_nameAt : Cond.selects yX1_nameAt.cls yX1_nameAt yX1_nameAt ∈ lwG := lwG_of 1063 (by decide +kernel) (by decide +kernel)
theorem mS_X1_namesAt : Cond.selects yX1_namesAt.cls yX1_namesAt yX1_namesAt ∈ lwG := lwG_of 1242 (by decide +kernel) (by decide +kernel)
theorem mS_X1_open : Cond.selects yX1_open.cls yX1_open yX1_open ∈ lwG := lwG_of 1012 (by decide +kernel) (by decide +kernel)
theorem mS_X1_settle : Cond.selects yX1_settle.cls yX1_settle yX1_settle ∈ lwG := lwG_of 1072 (by decide +kernel) (by decide +kernel)
theorem mS_X1_settlingAt : Cond.selects yX1_settlingAt.cls yX1_settlingAt yX1_settlingAt ∈ lwG := lwG_of 1067 (by decide +kernel) (by decide +kernel)
theorem mS_X1_tooFew : Cond.selects yX1_tooFew.cls yX1_tooFew yX1_tooFew ∈ lwG := lwG_of 1044 (by decide +kernel) (by decide +kernel)
theorem mS_X1_undoLast : Cond.selects yX1_undoLast.cls yX1_undoLast yX1_undoLast ∈ lwG := lwG_of 1085 (by decide +kernel) (by decide +kernel)
theorem mS_X2_addPlace : Cond.selects yX2_addPlace.cls yX2_addPlace yX2_addPlace ∈ lwG := lwG_of 607 (by decide +kernel) (by decide +kernel)
theorem mS_X2_areNear : Cond.selects yX2_areNear.cls yX2_areNear yX2_areNear ∈ lwG := lwG_of 1059 (by decide +kernel) (by decide +kernel)
theorem mS_X2_copyFrom : Cond.selects yX2_copyFrom.cls yX2_copyFrom yX2_copyFrom ∈ lwG := lwG_of 1261 (by decide +kernel) (by decide +kernel)
theorem mS_X2_fillOwn : Cond.selects yX2_fillOwn.cls yX2_fillOwn yX2_fillOwn ∈ lwG := lwG_of 678 (by decide +kernel) (by decide +kernel)
theorem mS_X2_fillParents : Cond.selects yX2_fillParents.cls yX2_fillParents yX2_fillParents ∈ lwG := lwG_of 623 (by decide +kernel) (by decide +kernel)
theorem mS_X2_has : Cond.selects yX2_has.cls yX2_has yX2_has ∈ lwG := lwG_of 615 (by decide +kernel) (by decide +kernel)
theorem mS_X2_tellCount : Cond.selects yX2_tellCount.cls yX2_tellCount yX2_tellCount ∈ lwG := lwG_of 653 (by decide +kernel) (by decide +kernel)
theorem mS_X2_tellPart : Cond.selects yX2_tellPart.cls yX2_tellPart yX2_tellPart ∈ lwG := lwG_of 632 (by decide +kernel) (by decide +kernel)
theorem mS_X3_add : Cond.selects yX3_add.cls yX3_add yX3_add ∈ lwG := lwG_of 1176 (by decide +kernel) (by decide +kernel)
theorem mS_X3_choosePlaces : Cond.selects yX3_choosePlaces.cls yX3_choosePlaces yX3_choosePlaces ∈ lwG := lwG_of 1189 (by decide +kernel) (by decide +kernel)
theorem mS_X3_fewestEdits : Cond.selects yX3_fewestEdits.cls yX3_fewestEdits yX3_fewestEdits ∈ lwG := lwG_of 1198 (by decide +kernel) (by decide +kernel)
theorem mS_X3_fillGains : Cond.selects yX3_fillGains.cls yX3_fillGains yX3_fillGains ∈ lwG := lwG_of 1193 (by decide +kernel) (by decide +kernel)
theorem mS_X3_fillMost : Cond.selects yX3_fillMost.cls yX3_fillMost yX3_fillMost ∈ lwG := lwG_of 1205 (by decide +kernel) (by decide +kernel)
theorem mS_X3_greatestSum : Cond.selects yX3_greatestSum.cls yX3_greatestSum yX3_greatestSum ∈ lwG := lwG_of 1185 (by decide +kernel) (by decide +kernel)
theorem mS_X3_mostBehind : Cond.selects yX3_mostBehind.cls yX3_mostBehind yX3_mostBehind ∈ lwG := lwG_of 1210 (by decide +kernel) (by decide +kernel)
theorem mS_X3_reaches : Cond.selects yX3_reaches.cls yX3_reaches yX3_reaches ∈ lwG := lwG_of 1225 (by decide +kernel) (by decide +kernel)
theorem mS_X3_sumWith : Cond.selects yX3_sumWith.cls yX3_sumWith yX3_sumWith ∈ lwG := lwG_of 1215 (by decide +kernel) (by decide +kernel)
theorem mS_X3_takeFirst : Cond.selects yX3_takeFirst.cls yX3_takeFirst yX3_takeFirst ∈ lwG := lwG_of 1221 (by decide +kernel) (by decide +kernel)
theorem mS_X4_begin : Cond.selects yX4_begin.cls yX4_begin yX4_begin ∈ lwG := lwG_of 1143 (by decide +kernel) (by decide +kernel)
theorem mS_X4_leastKey : Cond.selects yX4_leastKey.cls yX4_leastKey yX4_leastKey ∈ lwG := lwG_of 1156 (by decide +kernel) (by decide +kernel)
theorem mS_X4_leastSum : Cond.selects yX4_leastSum.cls yX4_leastSum yX4_leastSum ∈ lwG := lwG_of 1152 (by decide +kernel) (by decide +kernel)
theorem mS_X4_take : Cond.selects yX4_take.cls yX4_take yX4_take ∈ lwG := lwG_of 1147 (by decide +kernel) (by decide +kernel)
theorem mS_X5_add : Cond.selects yX5_add.cls yX5_add yX5_add ∈ lwG := lwG_of 905 (by decide +kernel) (by decide +kernel)
theorem mS_X5_has : Cond.selects yX5_has.cls yX5_has yX5_has ∈ lwG := lwG_of 913 (by decide +kernel) (by decide +kernel)
theorem mS_X5_readsAs : Cond.selects yX5_readsAs.cls yX5_readsAs yX5_readsAs ∈ lwG := lwG_of 1126 (by decide +kernel) (by decide +kernel)
theorem mS_X6_copyFrom : Cond.selects yX6_copyFrom.cls yX6_copyFrom yX6_copyFrom ∈ lwG := lwG_of 1282 (by decide +kernel) (by decide +kernel)
theorem mS_X6_has : Cond.selects yX6_has.cls yX6_has yX6_has ∈ lwG := lwG_of 1113 (by decide +kernel) (by decide +kernel)
theorem mS_X6_make : Cond.selects yX6_make.cls yX6_make yX6_make ∈ lwG := lwG_of 1105 (by decide +kernel) (by decide +kernel)
theorem mS_X7_addName : Cond.selects yX7_addName.cls yX7_addName yX7_addName ∈ lwG := lwG_of 702 (by decide +kernel) (by decide +kernel)
theorem mS_X7_copyFrom : Cond.selects yX7_copyFrom.cls yX7_copyFrom yX7_copyFrom ∈ lwG := lwG_of 1266 (by decide +kernel) (by decide +kernel)
theorem mS_X7_fits : Cond.selects yX7_fits.cls yX7_fits yX7_fits ∈ lwG := lwG_of 901 (by decide +kernel) (by decide +kernel)
theorem mS_X7_hasName : Cond.selects yX7_hasName.cls yX7_hasName yX7_hasName ∈ lwG := lwG_of 885 (by decide +kernel) (by decide +kernel)
theorem mS_X7_readRule : Cond.selects yX7_readRule.cls yX7_readRule yX7_readRule ∈ lwG := lwG_of 791 (by decide +kernel) (by decide +kernel)
theorem mS_X7_readSet : Cond.selects yX7_readSet.cls yX7_readSet yX7_readSet ∈ lwG := lwG_of 797 (by decide +kernel) (by decide +kernel)
theorem mS_X7_readSpelling : Cond.selects yX7_readSpelling.cls yX7_readSpelling yX7_readSpelling ∈ lwG := lwG_of 713 (by decide +kernel) (by decide +kernel)
theorem mS_X7_readWord : Cond.selects yX7_readWord.cls yX7_readWord yX7_readWord ∈ lwG := lwG_of 807 (by decide +kernel) (by decide +kernel)
theorem mS_X7_ruleFor : Cond.selects yX7_ruleFor.cls yX7_ruleFor yX7_ruleFor ∈ lwG := lwG_of 897 (by decide +kernel) (by decide +kernel)
theorem mS_X7_spellInto : Cond.selects yX7_spellInto.cls yX7_spellInto yX7_spellInto ∈ lwG := lwG_of 889 (by decide +kernel) (by decide +kernel)
theorem mS_X7_spellingAt : Cond.selects yX7_spellingAt.cls yX7_spellingAt yX7_spellingAt ∈ lwG := lwG_of 893 (by decide +kernel) (by decide +kernel)
theorem mS_X8_copyFrom : Cond.selects yX8_copyFrom.cls yX8_copyFrom yX8_copyFrom ∈ lwG := lwG_of 1254 (by decide +kernel) (by decide +kernel)
theorem mS_X8_mark : Cond.selects yX8_mark.cls yX8_mark yX8_mark ∈ lwG := lwG_of 639 (by decide +kernel) (by decide +kernel)
theorem mS_X9_advance : Cond.selects yX9_advance.cls yX9_advance yX9_advance ∈ lwG := lwG_of 721 (by decide +kernel) (by decide +kernel)
theorem mS_X9_begin : Cond.selects yX9_begin.cls yX9_begin yX9_begin ∈ lwG := lwG_of 717 (by decide +kernel) (by decide +kernel)
theorem mS_X9_blame : Cond.selects yX9_blame.cls yX9_blame yX9_blame ∈ lwG := lwG_of 787 (by decide +kernel) (by decide +kernel)
theorem mS_X9_goesOn : Cond.selects yX9_goesOn.cls yX9_goesOn yX9_goesOn ∈ lwG := lwG_of 726 (by decide +kernel) (by decide +kernel)
theorem mS_X9_isLetters : Cond.selects yX9_isLetters.cls yX9_isLetters yX9_isLetters ∈ lwG := lwG_of 695 (by decide +kernel) (by decide +kernel)
theorem mS_X9_isSign : Cond.selects yX9_isSign.cls yX9_isSign yX9_isSign ∈ lwG := lwG_of 801 (by decide +kernel) (by decide +kernel)
theorem mS_X9_isWord : Cond.selects yX9_isWord.cls yX9_isWord yX9_isWord ∈ lwG := lwG_of 731 (by decide +kernel) (by decide +kernel)
theorem mS_X9_isWordOf : Cond.selects yX9_isWordOf.cls yX9_isWordOf yX9_isWordOf ∈ lwG := lwG_of 783 (by decide +kernel) (by decide +kernel)
theorem mS_X9_push : Cond.selects yX9_push.cls yX9_push yX9_push ∈ lwG := lwG_of 588 (by decide +kernel) (by decide +kernel)
theorem mS_X9_takeNumber : Cond.selects yX9_takeNumber.cls yX9_takeNumber yX9_takeNumber ∈ lwG := lwG_of 851 (by decide +kernel) (by decide +kernel)
theorem mS_X9_takeSign : Cond.selects yX9_takeSign.cls yX9_takeSign yX9_takeSign ∈ lwG := lwG_of 811 (by decide +kernel) (by decide +kernel)
theorem mS_X9_takeWord : Cond.selects yX9_takeWord.cls yX9_takeWord yX9_takeWord ∈ lwG := lwG_of 856 (by decide +kernel) (by decide +kernel)
theorem mT_J6_bitCount_0f7a4 : Cond.static yJ6_bitCount_0f7a4 ∈ lwG := lwG_of 1047 (by decide +kernel) (by decide +kernel)
theorem mT_J7_fill_53178 : Cond.static yJ7_fill_53178 ∈ lwG := lwG_of 486 (by decide +kernel) (by decide +kernel)
theorem mT_X0_factOf : Cond.static yX0_factOf ∈ lwG := lwG_of 862 (by decide +kernel) (by decide +kernel)
theorem mT_X0_kindOfLine : Cond.static yX0_kindOfLine ∈ lwG := lwG_of 830 (by decide +kernel) (by decide +kernel)
theorem mT_X11_copyFlags : Cond.static yX11_copyFlags ∈ lwG := lwG_of 1257 (by decide +kernel) (by decide +kernel)
theorem mT_X11_cut : Cond.static yX11_cut ∈ lwG := lwG_of 1302 (by decide +kernel) (by decide +kernel)
theorem mT_X11_isNumber : Cond.static yX11_isNumber ∈ lwG := lwG_of 1101 (by decide +kernel) (by decide +kernel)
theorem mT_X11_isSlot : Cond.static yX11_isSlot ∈ lwG := lwG_of 660 (by decide +kernel) (by decide +kernel)
theorem mT_X11_isTongue : Cond.static yX11_isTongue ∈ lwG := lwG_of 667 (by decide +kernel) (by decide +kernel)
theorem mT_X11_isYear : Cond.static yX11_isYear ∈ lwG := lwG_of 599 (by decide +kernel) (by decide +kernel)
theorem mT_X12_cut : Cond.static yX12_cut ∈ lwG := lwG_of 1932 (by decide +kernel) (by decide +kernel)
theorem mT_X12_in : Cond.static yX12_in ∈ lwG := lwG_of 1482 (by decide +kernel) (by decide +kernel)
theorem mT_X12_isOf : Cond.static yX12_isOf ∈ lwG := lwG_of 1648 (by decide +kernel) (by decide +kernel)
theorem mT_X12_isSlot : Cond.static yX12_isSlot ∈ lwG := lwG_of 1920 (by decide +kernel) (by decide +kernel)
theorem mT_X12_isTongue : Cond.static yX12_isTongue ∈ lwG := lwG_of 1531 (by decide +kernel) (by decide +kernel)
theorem mT_X12_isYear : Cond.static yX12_isYear ∈ lwG := lwG_of 1539 (by decide +kernel) (by decide +kernel)
theorem mT_X9_kindOf : Cond.static yX9_kindOf ∈ lwG := lwG_of 698 (by decide +kernel) (by decide +kernel)
theorem hd_X9_kindOf : yX9_kindOf.cls ≠ "java/lang/invoke/MethodHandle" ∧ yX9_kindOf.cls ≠ "java/lang/invoke/VarHandle" ∧ (parseMethodDescriptor yX9_kindOf.desc).map (fun d => d.parameters.length) = some 1 := by decide +kernel
theorem hd_X9_advance : yX9_advance.cls ≠ "java/lang/invoke/MethodHandle" ∧ yX9_advance.cls ≠ "java/lang/invoke/VarHandle" ∧ (parseMethodDescriptor yX9_advance.desc).map (fun d => d.parameters.length) = some 0 := by decide +kernel
theorem hd_X9_begin : yX9_begin.cls ≠ "java/lang/invoke/MethodHandle" ∧ yX9_begin.cls ≠ "java/lang/invoke/VarHandle" ∧ (parseMethodDescriptor yX9_begin.desc).map (fun d => d.parameters.length) = some 0 := by decide +kernel
theorem hd_X9_goesOn : yX9_goesOn.cls ≠ "java/lang/invoke/MethodHandle" ∧ yX9_goesOn.cls ≠ "java/lang/invoke/VarHandle" ∧ (parseMethodDescriptor yX9_goesOn.desc).map (fun d => d.parameters.length) = some 0 := by decide +kernel
theorem hd_X9_isWord : yX9_isWord.cls ≠ "java/lang/invoke/MethodHandle" ∧ yX9_isWord.cls ≠ "java/lang/invoke/VarHandle" ∧ (parseMethodDescriptor yX9_isWord.desc).map (fun d => d.parameters.length) = some 1 := by decide +kernel
theorem hd_X0_kindOfLine : yX0_kindOfLine.cls ≠ "java/lang/invoke/MethodHandle" ∧ yX0_kindOfLine.cls ≠ "java/lang/invoke/VarHandle" ∧ (parseMethodDescriptor yX0_kindOfLine.desc).map (fun d => d.parameters.length) = some 1 := by decide +kernel
theorem hd_X9_blame : yX9_blame.cls ≠ "java/lang/invoke/MethodHandle" ∧ yX9_blame.cls ≠ "java/lang/invoke/VarHandle" ∧ (parseMethodDescriptor yX9_blame.desc).map (fun d => d.parameters.length) = some 1 := by decide +kernel
theorem hd_X9_takeWord : yX9_takeWord.cls ≠ "java/lang/invoke/MethodHandle" ∧ yX9_takeWord.cls ≠ "java/lang/invoke/VarHandle" ∧ (parseMethodDescriptor yX9_takeWord.desc).map (fun d => d.parameters.length) = some 1 := by decide +kernel
theorem hd_X9_takeNumber : yX9_takeNumber.cls ≠ "java/lang/invoke/MethodHandle" ∧ yX9_takeNumber.cls ≠ "java/lang/invoke/VarHandle" ∧ (parseMethodDescriptor yX9_takeNumber.desc).map (fun d => d.parameters.length) = some 1 := by decide +kernel
theorem hd_X0_readHead : yX0_readHead.cls ≠ "java/lang/invoke/MethodHandle" ∧ yX0_readHead.cls ≠ "java/lang/invoke/VarHandle" ∧ (parseMethodDescriptor yX0_readHead.desc).map (fun d => d.parameters.length) = some 3 := by decide +kernel
theorem hd_X9_isSign : yX9_isSign.cls ≠ "java/lang/invoke/MethodHandle" ∧ yX9_isSign.cls ≠ "java/lang/invoke/VarHandle" ∧ (parseMethodDescriptor yX9_isSign.desc).map (fun d => d.parameters.length) = some 1 := by decide +kernel
theorem hd_X9_takeSign : yX9_takeSign.cls ≠ "java/lang/invoke/MethodHandle" ∧ yX9_takeSign.cls ≠ "java/lang/invoke/VarHandle" ∧ (parseMethodDescriptor yX9_takeSign.desc).map (fun d => d.parameters.length) = some 1 := by decide +kernel
theorem hd_X0_factOf : yX0_factOf.cls ≠ "java/lang/invoke/MethodHandle" ∧ yX0_factOf.cls ≠ "java/lang/invoke/VarHandle" ∧ (parseMethodDescriptor yX0_factOf.desc).map (fun d => d.parameters.length) = some 1 := by decide +kernel
theorem hd_X0_readCond : yX0_readCond.cls ≠ "java/lang/invoke/MethodHandle" ∧ yX0_readCond.cls ≠ "java/lang/invoke/VarHandle" ∧ (parseMethodDescriptor yX0_readCond.desc).map (fun d => d.parameters.length) = some 2 := by decide +kernel
theorem hd_X0_readLine : yX0_readLine.cls ≠ "java/lang/invoke/MethodHandle" ∧ yX0_readLine.cls ≠ "java/lang/invoke/VarHandle" ∧ (parseMethodDescriptor yX0_readLine.desc).map (fun d => d.parameters.length) = some 3 := by decide +kernel
theorem hd_X0_readAct : yX0_readAct.cls ≠ "java/lang/invoke/MethodHandle" ∧ yX0_readAct.cls ≠ "java/lang/invoke/VarHandle" ∧ (parseMethodDescriptor yX0_readAct.desc).map (fun d => d.parameters.length) = some 2 := by decide +kernel
theorem hd_X0_inForce : yX0_inForce.cls ≠ "java/lang/invoke/MethodHandle" ∧ yX0_inForce.cls ≠ "java/lang/invoke/VarHandle" ∧ (parseMethodDescriptor yX0_inForce.desc).map (fun d => d.parameters.length) = some 1 := by decide +kernel
theorem hd_X0_dependsOnYear : yX0_dependsOnYear.cls ≠ "java/lang/invoke/MethodHandle" ∧ yX0_dependsOnYear.cls ≠ "java/lang/invoke/VarHandle" ∧ (parseMethodDescriptor yX0_dependsOnYear.desc).map (fun d => d.parameters.length) = some 1 := by decide +kernel
theorem hd_X0_holds : yX0_holds.cls ≠ "java/lang/invoke/MethodHandle" ∧ yX0_holds.cls ≠ "java/lang/invoke/VarHandle" ∧ (parseMethodDescriptor yX0_holds.desc).map (fun d => d.parameters.length) = some 2 := by decide +kernel
theorem hd_X0_firstHolding : yX0_firstHolding.cls ≠ "java/lang/invoke/MethodHandle" ∧ yX0_firstHolding.cls ≠ "java/lang/invoke/VarHandle" ∧ (parseMethodDescriptor yX0_firstHolding.desc).map (fun d => d.parameters.length) = some 3 := by decide +kernel
theorem hd_X0_lastLine : yX0_lastLine.cls ≠ "java/lang/invoke/MethodHandle" ∧ yX0_lastLine.cls ≠ "java/lang/invoke/VarHandle" ∧ (parseMethodDescriptor yX0_lastLine.desc).map (fun d => d.parameters.length) = some 2 := by decide +kernel
theorem hd_X0_numberOf : yX0_numberOf.cls ≠ "java/lang/invoke/MethodHandle" ∧ yX0_numberOf.cls ≠ "java/lang/invoke/VarHandle" ∧ (parseMethodDescriptor yX0_numberOf.desc).map (fun d => d.parameters.length) = some 3 := by decide +kernel
theorem hd_X11_copyFlags : yX11_copyFlags.cls ≠ "java/lang/invoke/MethodHandle" ∧ yX11_copyFlags.cls ≠ "java/lang/invoke/VarHandle" ∧ (parseMethodDescriptor yX11_copyFlags.desc).map (fun d => d.parameters.length) = some 3 := by decide +kernel
theorem hd_X0_copyFrom : yX0_copyFrom.cls ≠ "java/lang/invoke/MethodHandle" ∧ yX0_copyFrom.cls ≠ "java/lang/invoke/VarHandle" ∧ (parseMethodDescriptor yX0_copyFrom.desc).map (fun d => d.parameters.length) = some 1 := by decide +kernel
theorem hd_X1_has : yX1_has.cls ≠ "java/lang/invoke/MethodHandle" ∧ yX1_has.cls ≠ "java/lang/invoke/VarHandle" ∧ (parseMethodDescriptor yX1_has.desc).map (fun d => d.parameters.length) = some 1 := by decide +kernel
theorem hd_X1_open : yX1_open.cls ≠ "java/lang/invoke/MethodHandle" ∧ yX1_open.cls ≠ "java/lang/invoke/VarHandle" ∧ (parseMethodDescriptor yX1_open.desc).map (fun d => d.parameters.length) = some 2 := by decide +kernel
theorem hd_X1_cast : yX1_cast.cls ≠ "java/lang/invoke/MethodHandle" ∧ yX1_cast.cls ≠ "java/lang/invoke/VarHandle" ∧ (parseMethodDescriptor yX1_cast.desc).map (fun d => d.parameters.length) = some 3 := by decide +kernel
theorem hd_J6_bitCount_0f7a4 : yJ6_bitCount_0f7a4.cls ≠ "java/lang/invoke/MethodHandle" ∧ yJ6_bitCount_0f7a4.cls ≠ "java/lang/invoke/VarHandle" ∧ (parseMethodDescriptor yJ6_bitCount_0f7a4.desc).map (fun d => d.parameters.length) = some 1 := by decide +kernel
theorem hd_X1_tooFew : yX1_tooFew.cls ≠ "java/lang/invoke/MethodHandle" ∧ yX1_tooFew.cls ≠ "java/lang/invoke/VarHandle" ∧ (parseMethodDescriptor yX1_tooFew.desc).map (fun d => d.parameters.length) = some 2 := by decide +kernel
theorem hd_X1_settle : yX1_settle.cls ≠ "java/lang/invoke/MethodHandle" ∧ yX1_settle.cls ≠ "java/lang/invoke/VarHandle" ∧ (parseMethodDescriptor yX1_settle.desc).map (fun d => d.parameters.length) = some 4 := by decide +kernel
theorem hd_X1_settlingAt : yX1_settlingAt.cls ≠ "java/lang/invoke/MethodHandle" ∧ yX1_settlingAt.cls ≠ "java/lang/invoke/VarHandle" ∧ (parseMethodDescriptor yX1_settlingAt.desc).map (fun d => d.parameters.length) = some 3 := by decide +kernel
theorem hd_X1_nameAt : yX1_nameAt.cls ≠ "java/lang/invoke/MethodHandle" ∧ yX1_nameAt.cls ≠ "java/lang/invoke/VarHandle" ∧ (parseMethodDescriptor yX1_nameAt.desc).map (fun d => d.parameters.length) = some 3 := by decide +kernel
theorem hd_X1_namesAt : yX1_namesAt.cls ≠ "java/lang/invoke/MethodHandle" ∧ yX1_namesAt.cls ≠ "java/lang/invoke/VarHandle" ∧ (parseMethodDescriptor yX1_namesAt.desc).map (fun d => d.parameters.length) = some 2 := by decide +kernel
theorem hd_X1_undoLast : yX1_undoLast.cls ≠ "java/lang/invoke/MethodHandle" ∧ yX1_undoLast.cls ≠ "java/lang/invoke/VarHandle" ∧ (parseMethodDescriptor yX1_undoLast.desc).map (fun d => d.parameters.length) = some 3 := by decide +kernel
theorem hd_X1_copyFrom : yX1_copyFrom.cls ≠ "java/lang/invoke/MethodHandle" ∧ yX1_copyFrom.cls ≠ "java/lang/invoke/VarHandle" ∧ (parseMethodDescriptor yX1_copyFrom.desc).map (fun d => d.parameters.length) = some 1 := by decide +kernel
theorem hd_X2_has : yX2_has.cls ≠ "java/lang/invoke/MethodHandle" ∧ yX2_has.cls ≠ "java/lang/invoke/VarHandle" ∧ (parseMethodDescriptor yX2_has.desc).map (fun d => d.parameters.length) = some 1 := by decide +kernel
theorem hd_X2_addPlace : yX2_addPlace.cls ≠ "java/lang/invoke/MethodHandle" ∧ yX2_addPlace.cls ≠ "java/lang/invoke/VarHandle" ∧ (parseMethodDescriptor yX2_addPlace.desc).map (fun d => d.parameters.length) = some 2 := by decide +kernel
theorem hd_X2_tellPart : yX2_tellPart.cls ≠ "java/lang/invoke/MethodHandle" ∧ yX2_tellPart.cls ≠ "java/lang/invoke/VarHandle" ∧ (parseMethodDescriptor yX2_tellPart.desc).map (fun d => d.parameters.length) = some 3 := by decide +kernel
theorem hd_X2_tellCount : yX2_tellCount.cls ≠ "java/lang/invoke/MethodHandle" ∧ yX2_tellCount.cls ≠ "java/lang/invoke/VarHandle" ∧ (parseMethodDescriptor yX2_tellCount.desc).map (fun d => d.parameters.length) = some 4 := by decide +kernel
theorem hd_J7_fill_53178 : yJ7_fill_53178.cls ≠ "java/lang/invoke/MethodHandle" ∧ yJ7_fill_53178.cls ≠ "java/lang/invoke/VarHandle" ∧ (parseMethodDescriptor yJ7_fill_53178.desc).map (fun d => d.parameters.length) = some 2 := by decide +kernel
theorem hd_X2_fillParents : yX2_fillParents.cls ≠ "java/lang/invoke/MethodHandle" ∧ yX2_fillParents.cls ≠ "java/lang/invoke/VarHandle" ∧ (parseMethodDescriptor yX2_fillParents.desc).map (fun d => d.parameters.length) = some 2 := by decide +kernel
theorem hd_X2_fillOwn : yX2_fillOwn.cls ≠ "java/lang/invoke/MethodHandle" ∧ yX2_fillOwn.cls ≠ "java/lang/invoke/VarHandle" ∧ (parseMethodDescriptor yX2_fillOwn.desc).map (fun d => d.parameters.length) = some 2 := by decide +kernel
theorem hd_X2_areNear : yX2_areNear.cls ≠ "java/lang/invoke/MethodHandle" ∧ yX2_areNear.cls ≠ "java/lang/invoke/VarHandle" ∧ (parseMethodDescriptor yX2_areNear.desc).map (fun d => d.parameters.length) = some 3 := by decide +kernel
theorem hd_X2_copyFrom : yX2_copyFrom.cls ≠ "java/lang/invoke/MethodHandle" ∧ yX2_copyFrom.cls ≠ "java/lang/invoke/VarHandle" ∧ (parseMethodDescriptor yX2_copyFrom.desc).map (fun d => d.parameters.length) = some 1 := by decide +kernel
theorem hd_X3_add : yX3_add.cls ≠ "java/lang/invoke/MethodHandle" ∧ yX3_add.cls ≠ "java/lang/invoke/VarHandle" ∧ (parseMethodDescriptor yX3_add.desc).map (fun d => d.parameters.length) = some 1 := by decide +kernel
theorem hd_X3_choosePlaces : yX3_choosePlaces.cls ≠ "java/lang/invoke/MethodHandle" ∧ yX3_choosePlaces.cls ≠ "java/lang/invoke/VarHandle" ∧ (parseMethodDescriptor yX3_choosePlaces.desc).map (fun d => d.parameters.length) = some 1 := by decide +kernel
theorem hd_X7_spellingAt : yX7_spellingAt.cls ≠ "java/lang/invoke/MethodHandle" ∧ yX7_spellingAt.cls ≠ "java/lang/invoke/VarHandle" ∧ (parseMethodDescriptor yX7_spellingAt.desc).map (fun d => d.parameters.length) = some 2 := by decide +kernel
theorem hd_X7_fits : yX7_fits.cls ≠ "java/lang/invoke/MethodHandle" ∧ yX7_fits.cls ≠ "java/lang/invoke/VarHandle" ∧ (parseMethodDescriptor yX7_fits.desc).map (fun d => d.parameters.length) = some 3 := by decide +kernel
theorem hd_X7_ruleFor : yX7_ruleFor.cls ≠ "java/lang/invoke/MethodHandle" ∧ yX7_ruleFor.cls ≠ "java/lang/invoke/VarHandle" ∧ (parseMethodDescriptor yX7_ruleFor.desc).map (fun d => d.parameters.length) = some 3 := by decide +kernel
theorem hd_X5_add : yX5_add.cls ≠ "java/lang/invoke/MethodHandle" ∧ yX5_add.cls ≠ "java/lang/invoke/VarHandle" ∧ (parseMethodDescriptor yX5_add.desc).map (fun d => d.parameters.length) = some 2 := by decide +kernel
theorem hd_X7_spellInto : yX7_spellInto.cls ≠ "java/lang/invoke/MethodHandle" ∧ yX7_spellInto.cls ≠ "java/lang/invoke/VarHandle" ∧ (parseMethodDescriptor yX7_spellInto.desc).map (fun d => d.parameters.length) = some 3 := by decide +kernel
theorem hd_X10_editsOfRows : yX10_editsOfRows.cls ≠ "java/lang/invoke/MethodHandle" ∧ yX10_editsOfRows.cls ≠ "java/lang/invoke/VarHandle" ∧ (parseMethodDescriptor yX10_editsOfRows.desc).map (fun d => d.parameters.length) = some 2 := by decide +kernel
theorem hd_X3_fewestEdits : yX3_fewestEdits.cls ≠ "java/lang/invoke/MethodHandle" ∧ yX3_fewestEdits.cls ≠ "java/lang/invoke/VarHandle" ∧ (parseMethodDescriptor yX3_fewestEdits.desc).map (fun d => d.parameters.length) = some 3 := by decide +kernel
theorem hd_X3_fillGains : yX3_fillGains.cls ≠ "java/lang/invoke/MethodHandle" ∧ yX3_fillGains.cls ≠ "java/lang/invoke/VarHandle" ∧ (parseMethodDescriptor yX3_fillGains.desc).map (fun d => d.parameters.length) = some 2 := by decide +kernel
theorem hd_X3_sumWith : yX3_sumWith.cls ≠ "java/lang/invoke/MethodHandle" ∧ yX3_sumWith.cls ≠ "java/lang/invoke/VarHandle" ∧ (parseMethodDescriptor yX3_sumWith.desc).map (fun d => d.parameters.length) = some 4 := by decide +kernel
theorem hd_X3_mostBehind : yX3_mostBehind.cls ≠ "java/lang/invoke/MethodHandle" ∧ yX3_mostBehind.cls ≠ "java/lang/invoke/VarHandle" ∧ (parseMethodDescriptor yX3_mostBehind.desc).map (fun d => d.parameters.length) = some 3 := by decide +kernel
theorem hd_X3_fillMost : yX3_fillMost.cls ≠ "java/lang/invoke/MethodHandle" ∧ yX3_fillMost.cls ≠ "java/lang/invoke/VarHandle" ∧ (parseMethodDescriptor yX3_fillMost.desc).map (fun d => d.parameters.length) = some 1 := by decide +kernel
theorem hd_X3_reaches : yX3_reaches.cls ≠ "java/lang/invoke/MethodHandle" ∧ yX3_reaches.cls ≠ "java/lang/invoke/VarHandle" ∧ (parseMethodDescriptor yX3_reaches.desc).map (fun d => d.parameters.length) = some 5 := by decide +kernel
theorem hd_X3_takeFirst : yX3_takeFirst.cls ≠ "java/lang/invoke/MethodHandle" ∧ yX3_takeFirst.cls ≠ "java/lang/invoke/VarHandle" ∧ (parseMethodDescriptor yX3_takeFirst.desc).map (fun d => d.parameters.length) = some 1 := by decide +kernel
theorem hd_X3_greatestSum : yX3_greatestSum.cls ≠ "java/lang/invoke/MethodHandle" ∧ yX3_greatestSum.cls ≠ "java/lang/invoke/VarHandle" ∧ (parseMethodDescriptor yX3_greatestSum.desc).map (fun d => d.parameters.length) = some 2 := by decide +kernel
theorem hd_X4_begin : yX4_begin.cls ≠ "java/lang/invoke/MethodHandle" ∧ yX4_begin.cls ≠ "java/lang/invoke/VarHandle" ∧ (parseMethodDescriptor yX4_begin.desc).map (fun d => d.parameters.length) = some 0 := by decide +kernel
theorem hd_X4_take : yX4_take.cls ≠ "java/lang/invoke/MethodHandle" ∧ yX4_take.cls ≠ "java/lang/invoke/VarHandle" ∧ (parseMethodDescriptor yX4_take.desc).map (fun d => d.parameters.length) = some 3 := by decide +kernel
theorem hd_X4_leastKey : yX4_leastKey.cls ≠ "java/lang/invoke/MethodHandle" ∧ yX4_leastKey.cls ≠ "java/lang/invoke/VarHandle" ∧ (parseMethodDescriptor yX4_leastKey.desc).map (fun d => d.parameters.length) = some 2 := by decide +kernel
theorem hd_X4_leastSum : yX4_leastSum.cls ≠ "java/lang/invoke/MethodHandle" ∧ yX4_leastSum.cls ≠ "java/lang/invoke/VarHandle" ∧ (parseMethodDescriptor yX4_leastSum.desc).map (fun d => d.parameters.length) = some 1 := by decide +kernel
theorem hd_X5_has : yX5_has.cls ≠ "java/lang/invoke/MethodHandle" ∧ yX5_has.cls ≠ "java/lang/invoke/VarHandle" ∧ (parseMethodDescriptor yX5_has.desc).map (fun d => d.parameters.length) = some 1 := by decide +kernel
theorem hd_X5_readsAs : yX5_readsAs.cls ≠ "java/lang/invoke/MethodHandle" ∧ yX5_readsAs.cls ≠ "java/lang/invoke/VarHandle" ∧ (parseMethodDescriptor yX5_readsAs.desc).map (fun d => d.parameters.length) = some 1 := by decide +kernel
theorem hd_X6_has : yX6_has.cls ≠ "java/lang/invoke/MethodHandle" ∧ yX6_has.cls ≠ "java/lang/invoke/VarHandle" ∧ (parseMethodDescriptor yX6_has.desc).map (fun d => d.parameters.length) = some 1 := by decide +kernel
theorem hd_X6_make : yX6_make.cls ≠ "java/lang/invoke/MethodHandle" ∧ yX6_make.cls ≠ "java/lang/invoke/VarHandle" ∧ (parseMethodDescriptor yX6_make.desc).map (fun d => d.parameters.length) = some 3 := by decide +kernel
theorem hd_X6_copyFrom : yX6_copyFrom.cls ≠ "java/lang/invoke/MethodHandle" ∧ yX6_copyFrom.cls ≠ "java/lang/invoke/VarHandle" ∧ (parseMethodDescriptor yX6_copyFrom.desc).map (fun d => d.parameters.length) = some 1 := by decide +kernel
theorem hd_X7_hasName : yX7_hasName.cls ≠ "java/lang/invoke/MethodHandle" ∧ yX7_hasName.cls ≠ "java/lang/invoke/VarHandle" ∧ (parseMethodDescriptor yX7_hasName.desc).map (fun d => d.parameters.length) = some 1 := by decide +kernel
theorem hd_X7_addName : yX7_addName.cls ≠ "java/lang/invoke/MethodHandle" ∧ yX7_addName.cls ≠ "java/lang/invoke/VarHandle" ∧ (parseMethodDescriptor yX7_addName.desc).map (fun d => d.parameters.length) = some 4 := by decide +kernel
theorem hd_X9_isWordOf : yX9_isWordOf.cls ≠ "java/lang/invoke/MethodHandle" ∧ yX9_isWordOf.cls ≠ "java/lang/invoke/VarHandle" ∧ (parseMethodDescriptor yX9_isWordOf.desc).map (fun d => d.parameters.length) = some 1 := by decide +kernel
theorem hd_X7_readWord : yX7_readWord.cls ≠ "java/lang/invoke/MethodHandle" ∧ yX7_readWord.cls ≠ "java/lang/invoke/VarHandle" ∧ (parseMethodDescriptor yX7_readWord.desc).map (fun d => d.parameters.length) = some 3 := by decide +kernel
theorem hd_X7_readSet : yX7_readSet.cls ≠ "java/lang/invoke/MethodHandle" ∧ yX7_readSet.cls ≠ "java/lang/invoke/VarHandle" ∧ (parseMethodDescriptor yX7_readSet.desc).map (fun d => d.parameters.length) = some 1 := by decide +kernel
theorem hd_X7_readRule : yX7_readRule.cls ≠ "java/lang/invoke/MethodHandle" ∧ yX7_readRule.cls ≠ "java/lang/invoke/VarHandle" ∧ (parseMethodDescriptor yX7_readRule.desc).map (fun d => d.parameters.length) = some 2 := by decide +kernel
theorem hd_X7_readSpelling : yX7_readSpelling.cls ≠ "java/lang/invoke/MethodHandle" ∧ yX7_readSpelling.cls ≠ "java/lang/invoke/VarHandle" ∧ (parseMethodDescriptor yX7_readSpelling.desc).map (fun d => d.parameters.length) = some 3 := by decide +kernel
theorem hd_X7_copyFrom : yX7_copyFrom.cls ≠ "java/lang/invoke/MethodHandle" ∧ yX7_copyFrom.cls ≠ "java/lang/invoke/VarHandle" ∧ (parseMethodDescriptor yX7_copyFrom.desc).map (fun d => d.parameters.length) = some 1 := by decide +kernel
theorem hd_X8_mark : yX8_mark.cls ≠ "java/lang/invoke/MethodHandle" ∧ yX8_mark.cls ≠ "java/lang/invoke/VarHandle" ∧ (parseMethodDescriptor yX8_mark.desc).map (fun d => d.parameters.length) = some 0 := by decide +kernel
theorem hd_X8_copyFrom : yX8_copyFrom.cls ≠ "java/lang/invoke/MethodHandle" ∧ yX8_copyFrom.cls ≠ "java/lang/invoke/VarHandle" ∧ (parseMethodDescriptor yX8_copyFrom.desc).map (fun d => d.parameters.length) = some 1 := by decide +kernel
theorem hd_X9_push : yX9_push.cls ≠ "java/lang/invoke/MethodHandle" ∧ yX9_push.cls ≠ "java/lang/invoke/VarHandle" ∧ (parseMethodDescriptor yX9_push.desc).map (fun d => d.parameters.length) = some 1 := by decide +kernel
theorem hd_X9_isLetters : yX9_isLetters.cls ≠ "java/lang/invoke/MethodHandle" ∧ yX9_isLetters.cls ≠ "java/lang/invoke/VarHandle" ∧ (parseMethodDescriptor yX9_isLetters.desc).map (fun d => d.parameters.length) = some 1 := by decide +kernel
theorem hd_X10_isUnder : yX10_isUnder.cls ≠ "java/lang/invoke/MethodHandle" ∧ yX10_isUnder.cls ≠ "java/lang/invoke/VarHandle" ∧ (parseMethodDescriptor yX10_isUnder.desc).map (fun d => d.parameters.length) = some 2 := by decide +kernel
theorem hd_X10_liesWithin : yX10_liesWithin.cls ≠ "java/lang/invoke/MethodHandle" ∧ yX10_liesWithin.cls ≠ "java/lang/invoke/VarHandle" ∧ (parseMethodDescriptor yX10_liesWithin.desc).map (fun d => d.parameters.length) = some 4 := by decide +kernel
theorem hd_X10_addOwn : yX10_addOwn.cls ≠ "java/lang/invoke/MethodHandle" ∧ yX10_addOwn.cls ≠ "java/lang/invoke/VarHandle" ∧ (parseMethodDescriptor yX10_addOwn.desc).map (fun d => d.parameters.length) = some 1 := by decide +kernel
theorem hd_X10_gather : yX10_gather.cls ≠ "java/lang/invoke/MethodHandle" ∧ yX10_gather.cls ≠ "java/lang/invoke/VarHandle" ∧ (parseMethodDescriptor yX10_gather.desc).map (fun d => d.parameters.length) = some 3 := by decide +kernel
theorem hd_X10_everyone : yX10_everyone.cls ≠ "java/lang/invoke/MethodHandle" ∧ yX10_everyone.cls ≠ "java/lang/invoke/VarHandle" ∧ (parseMethodDescriptor yX10_everyone.desc).map (fun d => d.parameters.length) = some 0 := by decide +kernel
theorem hd_X10_setShares : yX10_setShares.cls ≠ "java/lang/invoke/MethodHandle" ∧ yX10_setShares.cls ≠ "java/lang/invoke/VarHandle" ∧ (parseMethodDescriptor yX10_setShares.desc).map (fun d => d.parameters.length) = some 0 := by decide +kernel
theorem hd_X10_mostPeople : yX10_mostPeople.cls ≠ "java/lang/invoke/MethodHandle" ∧ yX10_mostPeople.cls ≠ "java/lang/invoke/VarHandle" ∧ (parseMethodDescriptor yX10_mostPeople.desc).map (fun d => d.parameters.length) = some 1 := by decide +kernel
theorem hd_X10_firstBy : yX10_firstBy.cls ≠ "java/lang/invoke/MethodHandle" ∧ yX10_firstBy.cls ≠ "java/lang/invoke/VarHandle" ∧ (parseMethodDescriptor yX10_firstBy.desc).map (fun d => d.parameters.length) = some 2 := by decide +kernel
theorem hd_X10_look : yX10_look.cls ≠ "java/lang/invoke/MethodHandle" ∧ yX10_look.cls ≠ "java/lang/invoke/VarHandle" ∧ (parseMethodDescriptor yX10_look.desc).map (fun d => d.parameters.length) = some 4 := by decide +kernel
theorem hd_X10_swungBy : yX10_swungBy.cls ≠ "java/lang/invoke/MethodHandle" ∧ yX10_swungBy.cls ≠ "java/lang/invoke/VarHandle" ∧ (parseMethodDescriptor yX10_swungBy.desc).map (fun d => d.parameters.length) = some 5 := by decide +kernel
theorem hd_X10_swingsBy : yX10_swingsBy.cls ≠ "java/lang/invoke/MethodHandle" ∧ yX10_swingsBy.cls ≠ "java/lang/invoke/VarHandle" ∧ (parseMethodDescriptor yX10_swingsBy.desc).map (fun d => d.parameters.length) = some 4 := by decide +kernel
theorem hd_X10_fewestToSwing : yX10_fewestToSwing.cls ≠ "java/lang/invoke/MethodHandle" ∧ yX10_fewestToSwing.cls ≠ "java/lang/invoke/VarHandle" ∧ (parseMethodDescriptor yX10_fewestToSwing.desc).map (fun d => d.parameters.length) = some 2 := by decide +kernel
theorem hd_X10_spellAside : yX10_spellAside.cls ≠ "java/lang/invoke/MethodHandle" ∧ yX10_spellAside.cls ≠ "java/lang/invoke/VarHandle" ∧ (parseMethodDescriptor yX10_spellAside.desc).map (fun d => d.parameters.length) = some 3 := by decide +kernel
theorem hd_X10_areSpelledAlike : yX10_areSpelledAlike.cls ≠ "java/lang/invoke/MethodHandle" ∧ yX10_areSpelledAlike.cls ≠ "java/lang/invoke/VarHandle" ∧ (parseMethodDescriptor yX10_areSpelledAlike.desc).map (fun d => d.parameters.length) = some 2 := by decide +kernel
theorem hd_X10_alikePairs : yX10_alikePairs.cls ≠ "java/lang/invoke/MethodHandle" ∧ yX10_alikePairs.cls ≠ "java/lang/invoke/VarHandle" ∧ (parseMethodDescriptor yX10_alikePairs.desc).map (fun d => d.parameters.length) = some 2 := by decide +kernel
theorem hd_X10_editsOfNames : yX10_editsOfNames.cls ≠ "java/lang/invoke/MethodHandle" ∧ yX10_editsOfNames.cls ≠ "java/lang/invoke/VarHandle" ∧ (parseMethodDescriptor yX10_editsOfNames.desc).map (fun d => d.parameters.length) = some 4 := by decide +kernel
theorem hd_X10_isAlike : yX10_isAlike.cls ≠ "java/lang/invoke/MethodHandle" ∧ yX10_isAlike.cls ≠ "java/lang/invoke/VarHandle" ∧ (parseMethodDescriptor yX10_isAlike.desc).map (fun d => d.parameters.length) = some 4 := by decide +kernel
theorem hd_X10_whyRefused : yX10_whyRefused.cls ≠ "java/lang/invoke/MethodHandle" ∧ yX10_whyRefused.cls ≠ "java/lang/invoke/VarHandle" ∧ (parseMethodDescriptor yX10_whyRefused.desc).map (fun d => d.parameters.length) = some 3 := by decide +kernel
theorem hd_X10_show : yX10_show.cls ≠ "java/lang/invoke/MethodHandle" ∧ yX10_show.cls ≠ "java/lang/invoke/VarHandle" ∧ (parseMethodDescriptor yX10_show.desc).map (fun d => d.parameters.length) = some 5 := by decide +kernel
theorem hd_X10_isLame : yX10_isLame.cls ≠ "java/lang/invoke/MethodHandle" ∧ yX10_isLame.cls ≠ "java/lang/invoke/VarHandle" ∧ (parseMethodDescriptor yX10_isLame.desc).map (fun d => d.parameters.length) = some 2 := by decide +kernel
theorem hd_X10_lameSigns : yX10_lameSigns.cls ≠ "java/lang/invoke/MethodHandle" ∧ yX10_lameSigns.cls ≠ "java/lang/invoke/VarHandle" ∧ (parseMethodDescriptor yX10_lameSigns.desc).map (fun d => d.parameters.length) = some 1 := by decide +kernel
theorem hd_X10_dueYear : yX10_dueYear.cls ≠ "java/lang/invoke/MethodHandle" ∧ yX10_dueYear.cls ≠ "java/lang/invoke/VarHandle" ∧ (parseMethodDescriptor yX10_dueYear.desc).map (fun d => d.parameters.length) = some 2 := by decide +kernel
theorem hd_X11_feed : yX11_feed.cls ≠ "java/lang/invoke/MethodHandle" ∧ yX11_feed.cls ≠ "java/lang/invoke/VarHandle" ∧ (parseMethodDescriptor yX11_feed.desc).map (fun d => d.parameters.length) = some 5 := by decide +kernel
theorem hd_X11_end : yX11_end.cls ≠ "java/lang/invoke/MethodHandle" ∧ yX11_end.cls ≠ "java/lang/invoke/VarHandle" ∧ (parseMethodDescriptor yX11_end.desc).map (fun d => d.parameters.length) = some 1 := by decide +kernel
theorem hd_X11_isYear : yX11_isYear.cls ≠ "java/lang/invoke/MethodHandle" ∧ yX11_isYear.cls ≠ "java/lang/invoke/VarHandle" ∧ (parseMethodDescriptor yX11_isYear.desc).map (fun d => d.parameters.length) = some 1 := by decide +kernel
theorem hd_X11_next : yX11_next.cls ≠ "java/lang/invoke/MethodHandle" ∧ yX11_next.cls ≠ "java/lang/invoke/VarHandle" ∧ (parseMethodDescriptor yX11_next.desc).map (fun d => d.parameters.length) = some 1 := by decide +kernel
theorem hd_X11_place : yX11_place.cls ≠ "java/lang/invoke/MethodHandle" ∧ yX11_place.cls ≠ "java/lang/invoke/VarHandle" ∧ (parseMethodDescriptor yX11_place.desc).map (fun d => d.parameters.length) = some 2 := by decide +kernel
theorem hd_X11_part : yX11_part.cls ≠ "java/lang/invoke/MethodHandle" ∧ yX11_part.cls ≠ "java/lang/invoke/VarHandle" ∧ (parseMethodDescriptor yX11_part.desc).map (fun d => d.parameters.length) = some 2 := by decide +kernel
theorem hd_X11_countPeople : yX11_countPeople.cls ≠ "java/lang/invoke/MethodHandle" ∧ yX11_countPeople.cls ≠ "java/lang/invoke/VarHandle" ∧ (parseMethodDescriptor yX11_countPeople.desc).map (fun d => d.parameters.length) = some 3 := by decide +kernel
theorem hd_X11_people : yX11_people.cls ≠ "java/lang/invoke/MethodHandle" ∧ yX11_people.cls ≠ "java/lang/invoke/VarHandle" ∧ (parseMethodDescriptor yX11_people.desc).map (fun d => d.parameters.length) = some 3 := by decide +kernel
theorem hd_X11_isSlot : yX11_isSlot.cls ≠ "java/lang/invoke/MethodHandle" ∧ yX11_isSlot.cls ≠ "java/lang/invoke/VarHandle" ∧ (parseMethodDescriptor yX11_isSlot.desc).map (fun d => d.parameters.length) = some 1 := by decide +kernel
theorem hd_X11_counted : yX11_counted.cls ≠ "java/lang/invoke/MethodHandle" ∧ yX11_counted.cls ≠ "java/lang/invoke/VarHandle" ∧ (parseMethodDescriptor yX11_counted.desc).map (fun d => d.parameters.length) = some 1 := by decide +kernel
theorem hd_X11_isTongue : yX11_isTongue.cls ≠ "java/lang/invoke/MethodHandle" ∧ yX11_isTongue.cls ≠ "java/lang/invoke/VarHandle" ∧ (parseMethodDescriptor yX11_isTongue.desc).map (fun d => d.parameters.length) = some 1 := by decide +kernel
theorem hd_X11_live : yX11_live.cls ≠ "java/lang/invoke/MethodHandle" ∧ yX11_live.cls ≠ "java/lang/invoke/VarHandle" ∧ (parseMethodDescriptor yX11_live.desc).map (fun d => d.parameters.length) = some 4 := by decide +kernel
theorem hd_X11_name : yX11_name.cls ≠ "java/lang/invoke/MethodHandle" ∧ yX11_name.cls ≠ "java/lang/invoke/VarHandle" ∧ (parseMethodDescriptor yX11_name.desc).map (fun d => d.parameters.length) = some 3 := by decide +kernel
theorem hd_X11_taken : yX11_taken.cls ≠ "java/lang/invoke/MethodHandle" ∧ yX11_taken.cls ≠ "java/lang/invoke/VarHandle" ∧ (parseMethodDescriptor yX11_taken.desc).map (fun d => d.parameters.length) = some 1 := by decide +kernel
theorem hd_X11_spelling : yX11_spelling.cls ≠ "java/lang/invoke/MethodHandle" ∧ yX11_spelling.cls ≠ "java/lang/invoke/VarHandle" ∧ (parseMethodDescriptor yX11_spelling.desc).map (fun d => d.parameters.length) = some 1 := by decide +kernel
theorem hd_X11_act : yX11_act.cls ≠ "java/lang/invoke/MethodHandle" ∧ yX11_act.cls ≠ "java/lang/invoke/VarHandle" ∧ (parseMethodDescriptor yX11_act.desc).map (fun d => d.parameters.length) = some 0 := by decide +kernel
theorem hd_X11_fault : yX11_fault.cls ≠ "java/lang/invoke/MethodHandle" ∧ yX11_fault.cls ≠ "java/lang/invoke/VarHandle" ∧ (parseMethodDescriptor yX11_fault.desc).map (fun d => d.parameters.length) = some 1 := by decide +kernel
theorem hd_X11_spell : yX11_spell.cls ≠ "java/lang/invoke/MethodHandle" ∧ yX11_spell.cls ≠ "java/lang/invoke/VarHandle" ∧ (parseMethodDescriptor yX11_spell.desc).map (fun d => d.parameters.length) = some 2 := by decide +kernel
theorem hd_X11_letter : yX11_letter.cls ≠ "java/lang/invoke/MethodHandle" ∧ yX11_letter.cls ≠ "java/lang/invoke/VarHandle" ∧ (parseMethodDescriptor yX11_letter.desc).map (fun d => d.parameters.length) = some 1 := by decide +kernel
theorem hd_X11_led : yX11_led.cls ≠ "java/lang/invoke/MethodHandle" ∧ yX11_led.cls ≠ "java/lang/invoke/VarHandle" ∧ (parseMethodDescriptor yX11_led.desc).map (fun d => d.parameters.length) = some 1 := by decide +kernel
theorem hd_X11_alikes : yX11_alikes.cls ≠ "java/lang/invoke/MethodHandle" ∧ yX11_alikes.cls ≠ "java/lang/invoke/VarHandle" ∧ (parseMethodDescriptor yX11_alikes.desc).map (fun d => d.parameters.length) = some 1 := by decide +kernel
theorem hd_X11_edits : yX11_edits.cls ≠ "java/lang/invoke/MethodHandle" ∧ yX11_edits.cls ≠ "java/lang/invoke/VarHandle" ∧ (parseMethodDescriptor yX11_edits.desc).map (fun d => d.parameters.length) = some 3 := by decide +kernel
theorem hd_X11_first : yX11_first.cls ≠ "java/lang/invoke/MethodHandle" ∧ yX11_first.cls ≠ "java/lang/invoke/VarHandle" ∧ (parseMethodDescriptor yX11_first.desc).map (fun d => d.parameters.length) = some 3 := by decide +kernel
theorem hd_X11_beside : yX11_beside.cls ≠ "java/lang/invoke/MethodHandle" ∧ yX11_beside.cls ≠ "java/lang/invoke/VarHandle" ∧ (parseMethodDescriptor yX11_beside.desc).map (fun d => d.parameters.length) = some 3 := by decide +kernel
theorem hd_X11_swings : yX11_swings.cls ≠ "java/lang/invoke/MethodHandle" ∧ yX11_swings.cls ≠ "java/lang/invoke/VarHandle" ∧ (parseMethodDescriptor yX11_swings.desc).map (fun d => d.parameters.length) = some 1 := by decide +kernel
theorem hd_X11_ask : yX11_ask.cls ≠ "java/lang/invoke/MethodHandle" ∧ yX11_ask.cls ≠ "java/lang/invoke/VarHandle" ∧ (parseMethodDescriptor yX11_ask.desc).map (fun d => d.parameters.length) = some 1 := by decide +kernel
theorem hd_X11_vote : yX11_vote.cls ≠ "java/lang/invoke/MethodHandle" ∧ yX11_vote.cls ≠ "java/lang/invoke/VarHandle" ∧ (parseMethodDescriptor yX11_vote.desc).map (fun d => d.parameters.length) = some 3 := by decide +kernel
theorem hd_X11_close : yX11_close.cls ≠ "java/lang/invoke/MethodHandle" ∧ yX11_close.cls ≠ "java/lang/invoke/VarHandle" ∧ (parseMethodDescriptor yX11_close.desc).map (fun d => d.parameters.length) = some 1 := by decide +kernel
theorem hd_X11_settled : yX11_settled.cls ≠ "java/lang/invoke/MethodHandle" ∧ yX11_settled.cls ≠ "java/lang/invoke/VarHandle" ∧ (parseMethodDescriptor yX11_settled.desc).map (fun d => d.parameters.length) = some 4 := by decide +kernel
theorem hd_X11_undo : yX11_undo.cls ≠ "java/lang/invoke/MethodHandle" ∧ yX11_undo.cls ≠ "java/lang/invoke/VarHandle" ∧ (parseMethodDescriptor yX11_undo.desc).map (fun d => d.parameters.length) = some 2 := by decide +kernel
theorem hd_X11_shown : yX11_shown.cls ≠ "java/lang/invoke/MethodHandle" ∧ yX11_shown.cls ≠ "java/lang/invoke/VarHandle" ∧ (parseMethodDescriptor yX11_shown.desc).map (fun d => d.parameters.length) = some 3 := by decide +kernel
theorem hd_X11_isNumber : yX11_isNumber.cls ≠ "java/lang/invoke/MethodHandle" ∧ yX11_isNumber.cls ≠ "java/lang/invoke/VarHandle" ∧ (parseMethodDescriptor yX11_isNumber.desc).map (fun d => d.parameters.length) = some 1 := by decide +kernel
theorem hd_X11_sign : yX11_sign.cls ≠ "java/lang/invoke/MethodHandle" ∧ yX11_sign.cls ≠ "java/lang/invoke/VarHandle" ∧ (parseMethodDescriptor yX11_sign.desc).map (fun d => d.parameters.length) = some 2 := by decide +kernel
theorem hd_X11_anew : yX11_anew.cls ≠ "java/lang/invoke/MethodHandle" ∧ yX11_anew.cls ≠ "java/lang/invoke/VarHandle" ∧ (parseMethodDescriptor yX11_anew.desc).map (fun d => d.parameters.length) = some 1 := by decide +kernel
theorem hd_X11_signOf : yX11_signOf.cls ≠ "java/lang/invoke/MethodHandle" ∧ yX11_signOf.cls ≠ "java/lang/invoke/VarHandle" ∧ (parseMethodDescriptor yX11_signOf.desc).map (fun d => d.parameters.length) = some 2 := by decide +kernel
theorem hd_X11_plan : yX11_plan.cls ≠ "java/lang/invoke/MethodHandle" ∧ yX11_plan.cls ≠ "java/lang/invoke/VarHandle" ∧ (parseMethodDescriptor yX11_plan.desc).map (fun d => d.parameters.length) = some 1 := by decide +kernel
theorem hd_X11_planned : yX11_planned.cls ≠ "java/lang/invoke/MethodHandle" ∧ yX11_planned.cls ≠ "java/lang/invoke/VarHandle" ∧ (parseMethodDescriptor yX11_planned.desc).map (fun d => d.parameters.length) = some 1 := by decide +kernel
theorem hd_X11_paper : yX11_paper.cls ≠ "java/lang/invoke/MethodHandle" ∧ yX11_paper.cls ≠ "java/lang/invoke/VarHandle" ∧ (parseMethodDescriptor yX11_paper.desc).map (fun d => d.parameters.length) = some 1 := by decide +kernel
theorem hd_X11_written : yX11_written.cls ≠ "java/lang/invoke/MethodHandle" ∧ yX11_written.cls ≠ "java/lang/invoke/VarHandle" ∧ (parseMethodDescriptor yX11_written.desc).map (fun d => d.parameters.length) = some 0 := by decide +kernel
theorem hd_X11_join : yX11_join.cls ≠ "java/lang/invoke/MethodHandle" ∧ yX11_join.cls ≠ "java/lang/invoke/VarHandle" ∧ (parseMethodDescriptor yX11_join.desc).map (fun d => d.parameters.length) = some 0 := by decide +kernel
theorem hd_X11_joined : yX11_joined.cls ≠ "java/lang/invoke/MethodHandle" ∧ yX11_joined.cls ≠ "java/lang/invoke/VarHandle" ∧ (parseMethodDescriptor yX11_joined.desc).map (fun d => d.parameters.length) = some 1 := by decide +kernel
theorem hd_X11_rowsHad : yX11_rowsHad.cls ≠ "java/lang/invoke/MethodHandle" ∧ yX11_rowsHad.cls ≠ "java/lang/invoke/VarHandle" ∧ (parseMethodDescriptor yX11_rowsHad.desc).map (fun d => d.parameters.length) = some 0 := by decide +kernel
theorem hd_X11_count : yX11_count.cls ≠ "java/lang/invoke/MethodHandle" ∧ yX11_count.cls ≠ "java/lang/invoke/VarHandle" ∧ (parseMethodDescriptor yX11_count.desc).map (fun d => d.parameters.length) = some 1 := by decide +kernel
theorem hd_X11_row : yX11_row.cls ≠ "java/lang/invoke/MethodHandle" ∧ yX11_row.cls ≠ "java/lang/invoke/VarHandle" ∧ (parseMethodDescriptor yX11_row.desc).map (fun d => d.parameters.length) = some 3 := by decide +kernel
theorem hd_X11_tear : yX11_tear.cls ≠ "java/lang/invoke/MethodHandle" ∧ yX11_tear.cls ≠ "java/lang/invoke/VarHandle" ∧ (parseMethodDescriptor yX11_tear.desc).map (fun d => d.parameters.length) = some 1 := by decide +kernel
theorem hd_X11_cut : yX11_cut.cls ≠ "java/lang/invoke/MethodHandle" ∧ yX11_cut.cls ≠ "java/lang/invoke/VarHandle" ∧ (parseMethodDescriptor yX11_cut.desc).map (fun d => d.parameters.length) = some 2 := by decide +kernel
theorem hd_X11_write : yX11_write.cls ≠ "java/lang/invoke/MethodHandle" ∧ yX11_write.cls ≠ "java/lang/invoke/VarHandle" ∧ (parseMethodDescriptor yX11_write.desc).map (fun d => d.parameters.length) = some 3 := by decide +kernel
theorem hd_X11_liesInRow : yX11_liesInRow.cls ≠ "java/lang/invoke/MethodHandle" ∧ yX11_liesInRow.cls ≠ "java/lang/invoke/VarHandle" ∧ (parseMethodDescriptor yX11_liesInRow.desc).map (fun d => d.parameters.length) = some 3 := by decide +kernel
theorem hd_X11_paste : yX11_paste.cls ≠ "java/lang/invoke/MethodHandle" ∧ yX11_paste.cls ≠ "java/lang/invoke/VarHandle" ∧ (parseMethodDescriptor yX11_paste.desc).map (fun d => d.parameters.length) = some 5 := by decide +kernel
theorem hd_X12_in : yX12_in.cls ≠ "java/lang/invoke/MethodHandle" ∧ yX12_in.cls ≠ "java/lang/invoke/VarHandle" ∧ (parseMethodDescriptor yX12_in.desc).map (fun d => d.parameters.length) = some 3 := by decide +kernel
theorem hd_X12_keep : yX12_keep.cls ≠ "java/lang/invoke/MethodHandle" ∧ yX12_keep.cls ≠ "java/lang/invoke/VarHandle" ∧ (parseMethodDescriptor yX12_keep.desc).map (fun d => d.parameters.length) = some 1 := by decide +kernel
theorem hd_X12_back : yX12_back.cls ≠ "java/lang/invoke/MethodHandle" ∧ yX12_back.cls ≠ "java/lang/invoke/VarHandle" ∧ (parseMethodDescriptor yX12_back.desc).map (fun d => d.parameters.length) = some 1 := by decide +kernel
theorem hd_X12_now : yX12_now.cls ≠ "java/lang/invoke/MethodHandle" ∧ yX12_now.cls ≠ "java/lang/invoke/VarHandle" ∧ (parseMethodDescriptor yX12_now.desc).map (fun d => d.parameters.length) = some 0 := by decide +kernel
theorem hd_X12_isPlace : yX12_isPlace.cls ≠ "java/lang/invoke/MethodHandle" ∧ yX12_isPlace.cls ≠ "java/lang/invoke/VarHandle" ∧ (parseMethodDescriptor yX12_isPlace.desc).map (fun d => d.parameters.length) = some 1 := by decide +kernel
theorem hd_X12_isName : yX12_isName.cls ≠ "java/lang/invoke/MethodHandle" ∧ yX12_isName.cls ≠ "java/lang/invoke/VarHandle" ∧ (parseMethodDescriptor yX12_isName.desc).map (fun d => d.parameters.length) = some 1 := by decide +kernel
theorem hd_X12_isTongue : yX12_isTongue.cls ≠ "java/lang/invoke/MethodHandle" ∧ yX12_isTongue.cls ≠ "java/lang/invoke/VarHandle" ∧ (parseMethodDescriptor yX12_isTongue.desc).map (fun d => d.parameters.length) = some 1 := by decide +kernel
theorem hd_X12_isYear : yX12_isYear.cls ≠ "java/lang/invoke/MethodHandle" ∧ yX12_isYear.cls ≠ "java/lang/invoke/VarHandle" ∧ (parseMethodDescriptor yX12_isYear.desc).map (fun d => d.parameters.length) = some 1 := by decide +kernel
theorem hd_X12_nameIs : yX12_nameIs.cls ≠ "java/lang/invoke/MethodHandle" ∧ yX12_nameIs.cls ≠ "java/lang/invoke/VarHandle" ∧ (parseMethodDescriptor yX12_nameIs.desc).map (fun d => d.parameters.length) = some 2 := by decide +kernel
theorem hd_X12_feed : yX12_feed.cls ≠ "java/lang/invoke/MethodHandle" ∧ yX12_feed.cls ≠ "java/lang/invoke/VarHandle" ∧ (parseMethodDescriptor yX12_feed.desc).map (fun d => d.parameters.length) = some 5 := by decide +kernel
theorem hd_X12_end : yX12_end.cls ≠ "java/lang/invoke/MethodHandle" ∧ yX12_end.cls ≠ "java/lang/invoke/VarHandle" ∧ (parseMethodDescriptor yX12_end.desc).map (fun d => d.parameters.length) = some 1 := by decide +kernel
theorem hd_X12_isLetters : yX12_isLetters.cls ≠ "java/lang/invoke/MethodHandle" ∧ yX12_isLetters.cls ≠ "java/lang/invoke/VarHandle" ∧ (parseMethodDescriptor yX12_isLetters.desc).map (fun d => d.parameters.length) = some 1 := by decide +kernel
theorem hd_X12_next : yX12_next.cls ≠ "java/lang/invoke/MethodHandle" ∧ yX12_next.cls ≠ "java/lang/invoke/VarHandle" ∧ (parseMethodDescriptor yX12_next.desc).map (fun d => d.parameters.length) = some 1 := by decide +kernel
theorem hd_X12_place : yX12_place.cls ≠ "java/lang/invoke/MethodHandle" ∧ yX12_place.cls ≠ "java/lang/invoke/VarHandle" ∧ (parseMethodDescriptor yX12_place.desc).map (fun d => d.parameters.length) = some 2 := by decide +kernel
theorem hd_X12_addsUp : yX12_addsUp.cls ≠ "java/lang/invoke/MethodHandle" ∧ yX12_addsUp.cls ≠ "java/lang/invoke/VarHandle" ∧ (parseMethodDescriptor yX12_addsUp.desc).map (fun d => d.parameters.length) = some 0 := by decide +kernel
theorem hd_X12_looks : yX12_looks.cls ≠ "java/lang/invoke/MethodHandle" ∧ yX12_looks.cls ≠ "java/lang/invoke/VarHandle" ∧ (parseMethodDescriptor yX12_looks.desc).map (fun d => d.parameters.length) = some 1 := by decide +kernel
theorem hd_X12_part : yX12_part.cls ≠ "java/lang/invoke/MethodHandle" ∧ yX12_part.cls ≠ "java/lang/invoke/VarHandle" ∧ (parseMethodDescriptor yX12_part.desc).map (fun d => d.parameters.length) = some 2 := by decide +kernel
theorem hd_X12_people : yX12_people.cls ≠ "java/lang/invoke/MethodHandle" ∧ yX12_people.cls ≠ "java/lang/invoke/VarHandle" ∧ (parseMethodDescriptor yX12_people.desc).map (fun d => d.parameters.length) = some 3 := by decide +kernel
theorem hd_X12_allOf : yX12_allOf.cls ≠ "java/lang/invoke/MethodHandle" ∧ yX12_allOf.cls ≠ "java/lang/invoke/VarHandle" ∧ (parseMethodDescriptor yX12_allOf.desc).map (fun d => d.parameters.length) = some 1 := by decide +kernel
theorem hd_X12_live : yX12_live.cls ≠ "java/lang/invoke/MethodHandle" ∧ yX12_live.cls ≠ "java/lang/invoke/VarHandle" ∧ (parseMethodDescriptor yX12_live.desc).map (fun d => d.parameters.length) = some 4 := by decide +kernel
theorem hd_X12_name : yX12_name.cls ≠ "java/lang/invoke/MethodHandle" ∧ yX12_name.cls ≠ "java/lang/invoke/VarHandle" ∧ (parseMethodDescriptor yX12_name.desc).map (fun d => d.parameters.length) = some 3 := by decide +kernel
theorem hd_X12_see : yX12_see.cls ≠ "java/lang/invoke/MethodHandle" ∧ yX12_see.cls ≠ "java/lang/invoke/VarHandle" ∧ (parseMethodDescriptor yX12_see.desc).map (fun d => d.parameters.length) = some 1 := by decide +kernel
theorem hd_X12_next_ : yX12_next_.cls ≠ "java/lang/invoke/MethodHandle" ∧ yX12_next_.cls ≠ "java/lang/invoke/VarHandle" ∧ (parseMethodDescriptor yX12_next_.desc).map (fun d => d.parameters.length) = some 0 := by decide +kernel
theorem hd_X12_begins : yX12_begins.cls ≠ "java/lang/invoke/MethodHandle" ∧ yX12_begins.cls ≠ "java/lang/invoke/VarHandle" ∧ (parseMethodDescriptor yX12_begins.desc).map (fun d => d.parameters.length) = some 1 := by decide +kernel
theorem hd_X12_good : yX12_good.cls ≠ "java/lang/invoke/MethodHandle" ∧ yX12_good.cls ≠ "java/lang/invoke/VarHandle" ∧ (parseMethodDescriptor yX12_good.desc).map (fun d => d.parameters.length) = some 0 := by decide +kernel
theorem hd_X12_wrong : yX12_wrong.cls ≠ "java/lang/invoke/MethodHandle" ∧ yX12_wrong.cls ≠ "java/lang/invoke/VarHandle" ∧ (parseMethodDescriptor yX12_wrong.desc).map (fun d => d.parameters.length) = some 1 := by decide +kernel
theorem hd_X12_is : yX12_is.cls ≠ "java/lang/invoke/MethodHandle" ∧ yX12_is.cls ≠ "java/lang/invoke/VarHandle" ∧ (parseMethodDescriptor yX12_is.desc).map (fun d => d.parameters.length) = some 1 := by decide +kernel
theorem hd_X12_isSign : yX12_isSign.cls ≠ "java/lang/invoke/MethodHandle" ∧ yX12_isSign.cls ≠ "java/lang/invoke/VarHandle" ∧ (parseMethodDescriptor yX12_isSign.desc).map (fun d => d.parameters.length) = some 1 := by decide +kernel
theorem hd_X12_needSign : yX12_needSign.cls ≠ "java/lang/invoke/MethodHandle" ∧ yX12_needSign.cls ≠ "java/lang/invoke/VarHandle" ∧ (parseMethodDescriptor yX12_needSign.desc).map (fun d => d.parameters.length) = some 1 := by decide +kernel
theorem hd_X12_takes : yX12_takes.cls ≠ "java/lang/invoke/MethodHandle" ∧ yX12_takes.cls ≠ "java/lang/invoke/VarHandle" ∧ (parseMethodDescriptor yX12_takes.desc).map (fun d => d.parameters.length) = some 1 := by decide +kernel
theorem hd_X12_number : yX12_number.cls ≠ "java/lang/invoke/MethodHandle" ∧ yX12_number.cls ≠ "java/lang/invoke/VarHandle" ∧ (parseMethodDescriptor yX12_number.desc).map (fun d => d.parameters.length) = some 1 := by decide +kernel
theorem hd_X12_fault : yX12_fault.cls ≠ "java/lang/invoke/MethodHandle" ∧ yX12_fault.cls ≠ "java/lang/invoke/VarHandle" ∧ (parseMethodDescriptor yX12_fault.desc).map (fun d => d.parameters.length) = some 1 := by decide +kernel
theorem hd_X12_isRuleWord : yX12_isRuleWord.cls ≠ "java/lang/invoke/MethodHandle" ∧ yX12_isRuleWord.cls ≠ "java/lang/invoke/VarHandle" ∧ (parseMethodDescriptor yX12_isRuleWord.desc).map (fun d => d.parameters.length) = some 0 := by decide +kernel
theorem hd_X12_set : yX12_set.cls ≠ "java/lang/invoke/MethodHandle" ∧ yX12_set.cls ≠ "java/lang/invoke/VarHandle" ∧ (parseMethodDescriptor yX12_set.desc).map (fun d => d.parameters.length) = some 1 := by decide +kernel
theorem hd_X12_ruleWord : yX12_ruleWord.cls ≠ "java/lang/invoke/MethodHandle" ∧ yX12_ruleWord.cls ≠ "java/lang/invoke/VarHandle" ∧ (parseMethodDescriptor yX12_ruleWord.desc).map (fun d => d.parameters.length) = some 1 := by decide +kernel
theorem hd_X12_rule : yX12_rule.cls ≠ "java/lang/invoke/MethodHandle" ∧ yX12_rule.cls ≠ "java/lang/invoke/VarHandle" ∧ (parseMethodDescriptor yX12_rule.desc).map (fun d => d.parameters.length) = some 1 := by decide +kernel
theorem hd_X12_spelling : yX12_spelling.cls ≠ "java/lang/invoke/MethodHandle" ∧ yX12_spelling.cls ≠ "java/lang/invoke/VarHandle" ∧ (parseMethodDescriptor yX12_spelling.desc).map (fun d => d.parameters.length) = some 1 := by decide +kernel
theorem hd_X12_spellingOf : yX12_spellingOf.cls ≠ "java/lang/invoke/MethodHandle" ∧ yX12_spellingOf.cls ≠ "java/lang/invoke/VarHandle" ∧ (parseMethodDescriptor yX12_spellingOf.desc).map (fun d => d.parameters.length) = some 2 := by decide +kernel
theorem hd_X12_lays : yX12_lays.cls ≠ "java/lang/invoke/MethodHandle" ∧ yX12_lays.cls ≠ "java/lang/invoke/VarHandle" ∧ (parseMethodDescriptor yX12_lays.desc).map (fun d => d.parameters.length) = some 2 := by decide +kernel
theorem hd_X12_isOf : yX12_isOf.cls ≠ "java/lang/invoke/MethodHandle" ∧ yX12_isOf.cls ≠ "java/lang/invoke/VarHandle" ∧ (parseMethodDescriptor yX12_isOf.desc).map (fun d => d.parameters.length) = some 2 := by decide +kernel
theorem hd_X12_fits : yX12_fits.cls ≠ "java/lang/invoke/MethodHandle" ∧ yX12_fits.cls ≠ "java/lang/invoke/VarHandle" ∧ (parseMethodDescriptor yX12_fits.desc).map (fun d => d.parameters.length) = some 4 := by decide +kernel
theorem hd_X12_spells : yX12_spells.cls ≠ "java/lang/invoke/MethodHandle" ∧ yX12_spells.cls ≠ "java/lang/invoke/VarHandle" ∧ (parseMethodDescriptor yX12_spells.desc).map (fun d => d.parameters.length) = some 2 := by decide +kernel
theorem hd_X12_takesInHand : yX12_takesInHand.cls ≠ "java/lang/invoke/MethodHandle" ∧ yX12_takesInHand.cls ≠ "java/lang/invoke/VarHandle" ∧ (parseMethodDescriptor yX12_takesInHand.desc).map (fun d => d.parameters.length) = some 0 := by decide +kernel
theorem hd_X12_spell : yX12_spell.cls ≠ "java/lang/invoke/MethodHandle" ∧ yX12_spell.cls ≠ "java/lang/invoke/VarHandle" ∧ (parseMethodDescriptor yX12_spell.desc).map (fun d => d.parameters.length) = some 2 := by decide +kernel
theorem hd_X12_letter : yX12_letter.cls ≠ "java/lang/invoke/MethodHandle" ∧ yX12_letter.cls ≠ "java/lang/invoke/VarHandle" ∧ (parseMethodDescriptor yX12_letter.desc).map (fun d => d.parameters.length) = some 1 := by decide +kernel
theorem hd_X12_led : yX12_led.cls ≠ "java/lang/invoke/MethodHandle" ∧ yX12_led.cls ≠ "java/lang/invoke/VarHandle" ∧ (parseMethodDescriptor yX12_led.desc).map (fun d => d.parameters.length) = some 1 := by decide +kernel
theorem hd_X12_holds : yX12_holds.cls ≠ "java/lang/invoke/MethodHandle" ∧ yX12_holds.cls ≠ "java/lang/invoke/VarHandle" ∧ (parseMethodDescriptor yX12_holds.desc).map (fun d => d.parameters.length) = some 0 := by decide +kernel
theorem hd_X12_isAlike : yX12_isAlike.cls ≠ "java/lang/invoke/MethodHandle" ∧ yX12_isAlike.cls ≠ "java/lang/invoke/VarHandle" ∧ (parseMethodDescriptor yX12_isAlike.desc).map (fun d => d.parameters.length) = some 0 := by decide +kernel
theorem hd_X12_alikes : yX12_alikes.cls ≠ "java/lang/invoke/MethodHandle" ∧ yX12_alikes.cls ≠ "java/lang/invoke/VarHandle" ∧ (parseMethodDescriptor yX12_alikes.desc).map (fun d => d.parameters.length) = some 1 := by decide +kernel
theorem hd_X12_apart : yX12_apart.cls ≠ "java/lang/invoke/MethodHandle" ∧ yX12_apart.cls ≠ "java/lang/invoke/VarHandle" ∧ (parseMethodDescriptor yX12_apart.desc).map (fun d => d.parameters.length) = some 0 := by decide +kernel
theorem hd_X12_editsOf : yX12_editsOf.cls ≠ "java/lang/invoke/MethodHandle" ∧ yX12_editsOf.cls ≠ "java/lang/invoke/VarHandle" ∧ (parseMethodDescriptor yX12_editsOf.desc).map (fun d => d.parameters.length) = some 3 := by decide +kernel
theorem hd_X12_edits : yX12_edits.cls ≠ "java/lang/invoke/MethodHandle" ∧ yX12_edits.cls ≠ "java/lang/invoke/VarHandle" ∧ (parseMethodDescriptor yX12_edits.desc).map (fun d => d.parameters.length) = some 3 := by decide +kernel
theorem hd_X12_sortHere : yX12_sortHere.cls ≠ "java/lang/invoke/MethodHandle" ∧ yX12_sortHere.cls ≠ "java/lang/invoke/VarHandle" ∧ (parseMethodDescriptor yX12_sortHere.desc).map (fun d => d.parameters.length) = some 0 := by decide +kernel
theorem hd_X12_factHere : yX12_factHere.cls ≠ "java/lang/invoke/MethodHandle" ∧ yX12_factHere.cls ≠ "java/lang/invoke/VarHandle" ∧ (parseMethodDescriptor yX12_factHere.desc).map (fun d => d.parameters.length) = some 0 := by decide +kernel
theorem hd_X12_tongueHere : yX12_tongueHere.cls ≠ "java/lang/invoke/MethodHandle" ∧ yX12_tongueHere.cls ≠ "java/lang/invoke/VarHandle" ∧ (parseMethodDescriptor yX12_tongueHere.desc).map (fun d => d.parameters.length) = some 0 := by decide +kernel
theorem hd_X12_cond : yX12_cond.cls ≠ "java/lang/invoke/MethodHandle" ∧ yX12_cond.cls ≠ "java/lang/invoke/VarHandle" ∧ (parseMethodDescriptor yX12_cond.desc).map (fun d => d.parameters.length) = some 1 := by decide +kernel
theorem hd_X12_line : yX12_line.cls ≠ "java/lang/invoke/MethodHandle" ∧ yX12_line.cls ≠ "java/lang/invoke/VarHandle" ∧ (parseMethodDescriptor yX12_line.desc).map (fun d => d.parameters.length) = some 1 := by decide +kernel
theorem hd_X12_act : yX12_act.cls ≠ "java/lang/invoke/MethodHandle" ∧ yX12_act.cls ≠ "java/lang/invoke/VarHandle" ∧ (parseMethodDescriptor yX12_act.desc).map (fun d => d.parameters.length) = some 0 := by decide +kernel
theorem hd_X12_actOf : yX12_actOf.cls ≠ "java/lang/invoke/MethodHandle" ∧ yX12_actOf.cls ≠ "java/lang/invoke/VarHandle" ∧ (parseMethodDescriptor yX12_actOf.desc).map (fun d => d.parameters.length) = some 1 := by decide +kernel
theorem hd_X12_termOf : yX12_termOf.cls ≠ "java/lang/invoke/MethodHandle" ∧ yX12_termOf.cls ≠ "java/lang/invoke/VarHandle" ∧ (parseMethodDescriptor yX12_termOf.desc).map (fun d => d.parameters.length) = some 3 := by decide +kernel
theorem hd_X12_partsOf : yX12_partsOf.cls ≠ "java/lang/invoke/MethodHandle" ∧ yX12_partsOf.cls ≠ "java/lang/invoke/VarHandle" ∧ (parseMethodDescriptor yX12_partsOf.desc).map (fun d => d.parameters.length) = some 1 := by decide +kernel
theorem hd_X12_holdFor : yX12_holdFor.cls ≠ "java/lang/invoke/MethodHandle" ∧ yX12_holdFor.cls ≠ "java/lang/invoke/VarHandle" ∧ (parseMethodDescriptor yX12_holdFor.desc).map (fun d => d.parameters.length) = some 3 := by decide +kernel
theorem hd_X12_most : yX12_most.cls ≠ "java/lang/invoke/MethodHandle" ∧ yX12_most.cls ≠ "java/lang/invoke/VarHandle" ∧ (parseMethodDescriptor yX12_most.desc).map (fun d => d.parameters.length) = some 2 := by decide +kernel
theorem hd_X12_firstOf : yX12_firstOf.cls ≠ "java/lang/invoke/MethodHandle" ∧ yX12_firstOf.cls ≠ "java/lang/invoke/VarHandle" ∧ (parseMethodDescriptor yX12_firstOf.desc).map (fun d => d.parameters.length) = some 3 := by decide +kernel
theorem hd_X12_besideOf : yX12_besideOf.cls ≠ "java/lang/invoke/MethodHandle" ∧ yX12_besideOf.cls ≠ "java/lang/invoke/VarHandle" ∧ (parseMethodDescriptor yX12_besideOf.desc).map (fun d => d.parameters.length) = some 3 := by decide +kernel
theorem hd_X12_first : yX12_first.cls ≠ "java/lang/invoke/MethodHandle" ∧ yX12_first.cls ≠ "java/lang/invoke/VarHandle" ∧ (parseMethodDescriptor yX12_first.desc).map (fun d => d.parameters.length) = some 3 := by decide +kernel
theorem hd_X12_beside : yX12_beside.cls ≠ "java/lang/invoke/MethodHandle" ∧ yX12_beside.cls ≠ "java/lang/invoke/VarHandle" ∧ (parseMethodDescriptor yX12_beside.desc).map (fun d => d.parameters.length) = some 3 := by decide +kernel
theorem hd_X12_swings : yX12_swings.cls ≠ "java/lang/invoke/MethodHandle" ∧ yX12_swings.cls ≠ "java/lang/invoke/VarHandle" ∧ (parseMethodDescriptor yX12_swings.desc).map (fun d => d.parameters.length) = some 1 := by decide +kernel
theorem hd_X12_isHearing : yX12_isHearing.cls ≠ "java/lang/invoke/MethodHandle" ∧ yX12_isHearing.cls ≠ "java/lang/invoke/VarHandle" ∧ (parseMethodDescriptor yX12_isHearing.desc).map (fun d => d.parameters.length) = some 1 := by decide +kernel
theorem hd_X12_hearing : yX12_hearing.cls ≠ "java/lang/invoke/MethodHandle" ∧ yX12_hearing.cls ≠ "java/lang/invoke/VarHandle" ∧ (parseMethodDescriptor yX12_hearing.desc).map (fun d => d.parameters.length) = some 1 := by decide +kernel
theorem hd_X12_ask : yX12_ask.cls ≠ "java/lang/invoke/MethodHandle" ∧ yX12_ask.cls ≠ "java/lang/invoke/VarHandle" ∧ (parseMethodDescriptor yX12_ask.desc).map (fun d => d.parameters.length) = some 1 := by decide +kernel
theorem hd_X12_vote : yX12_vote.cls ≠ "java/lang/invoke/MethodHandle" ∧ yX12_vote.cls ≠ "java/lang/invoke/VarHandle" ∧ (parseMethodDescriptor yX12_vote.desc).map (fun d => d.parameters.length) = some 3 := by decide +kernel
theorem hd_X12_event : yX12_event.cls ≠ "java/lang/invoke/MethodHandle" ∧ yX12_event.cls ≠ "java/lang/invoke/VarHandle" ∧ (parseMethodDescriptor yX12_event.desc).map (fun d => d.parameters.length) = some 3 := by decide +kernel
theorem hd_X12_settledOf : yX12_settledOf.cls ≠ "java/lang/invoke/MethodHandle" ∧ yX12_settledOf.cls ≠ "java/lang/invoke/VarHandle" ∧ (parseMethodDescriptor yX12_settledOf.desc).map (fun d => d.parameters.length) = some 3 := by decide +kernel
theorem hd_X12_isNear : yX12_isNear.cls ≠ "java/lang/invoke/MethodHandle" ∧ yX12_isNear.cls ≠ "java/lang/invoke/VarHandle" ∧ (parseMethodDescriptor yX12_isNear.desc).map (fun d => d.parameters.length) = some 3 := by decide +kernel
theorem hd_X12_isTooAlike : yX12_isTooAlike.cls ≠ "java/lang/invoke/MethodHandle" ∧ yX12_isTooAlike.cls ≠ "java/lang/invoke/VarHandle" ∧ (parseMethodDescriptor yX12_isTooAlike.desc).map (fun d => d.parameters.length) = some 1 := by decide +kernel
theorem hd_X12_close : yX12_close.cls ≠ "java/lang/invoke/MethodHandle" ∧ yX12_close.cls ≠ "java/lang/invoke/VarHandle" ∧ (parseMethodDescriptor yX12_close.desc).map (fun d => d.parameters.length) = some 1 := by decide +kernel
theorem hd_X12_settled : yX12_settled.cls ≠ "java/lang/invoke/MethodHandle" ∧ yX12_settled.cls ≠ "java/lang/invoke/VarHandle" ∧ (parseMethodDescriptor yX12_settled.desc).map (fun d => d.parameters.length) = some 4 := by decide +kernel
theorem hd_X12_undo : yX12_undo.cls ≠ "java/lang/invoke/MethodHandle" ∧ yX12_undo.cls ≠ "java/lang/invoke/VarHandle" ∧ (parseMethodDescriptor yX12_undo.desc).map (fun d => d.parameters.length) = some 2 := by decide +kernel
theorem hd_X12_shows : yX12_shows.cls ≠ "java/lang/invoke/MethodHandle" ∧ yX12_shows.cls ≠ "java/lang/invoke/VarHandle" ∧ (parseMethodDescriptor yX12_shows.desc).map (fun d => d.parameters.length) = some 3 := by decide +kernel
theorem hd_X12_shown : yX12_shown.cls ≠ "java/lang/invoke/MethodHandle" ∧ yX12_shown.cls ≠ "java/lang/invoke/VarHandle" ∧ (parseMethodDescriptor yX12_shown.desc).map (fun d => d.parameters.length) = some 3 := by decide +kernel
theorem hd_X12_sign : yX12_sign.cls ≠ "java/lang/invoke/MethodHandle" ∧ yX12_sign.cls ≠ "java/lang/invoke/VarHandle" ∧ (parseMethodDescriptor yX12_sign.desc).map (fun d => d.parameters.length) = some 2 := by decide +kernel
theorem hd_X12_isSign0 : yX12_isSign0.cls ≠ "java/lang/invoke/MethodHandle" ∧ yX12_isSign0.cls ≠ "java/lang/invoke/VarHandle" ∧ (parseMethodDescriptor yX12_isSign0.desc).map (fun d => d.parameters.length) = some 1 := by decide +kernel
theorem hd_X12_signIs : yX12_signIs.cls ≠ "java/lang/invoke/MethodHandle" ∧ yX12_signIs.cls ≠ "java/lang/invoke/VarHandle" ∧ (parseMethodDescriptor yX12_signIs.desc).map (fun d => d.parameters.length) = some 2 := by decide +kernel
theorem hd_X12_anew : yX12_anew.cls ≠ "java/lang/invoke/MethodHandle" ∧ yX12_anew.cls ≠ "java/lang/invoke/VarHandle" ∧ (parseMethodDescriptor yX12_anew.desc).map (fun d => d.parameters.length) = some 1 := by decide +kernel
theorem hd_X12_isLame : yX12_isLame.cls ≠ "java/lang/invoke/MethodHandle" ∧ yX12_isLame.cls ≠ "java/lang/invoke/VarHandle" ∧ (parseMethodDescriptor yX12_isLame.desc).map (fun d => d.parameters.length) = some 1 := by decide +kernel
theorem hd_X12_lameSince : yX12_lameSince.cls ≠ "java/lang/invoke/MethodHandle" ∧ yX12_lameSince.cls ≠ "java/lang/invoke/VarHandle" ∧ (parseMethodDescriptor yX12_lameSince.desc).map (fun d => d.parameters.length) = some 1 := by decide +kernel
theorem hd_X12_signOf : yX12_signOf.cls ≠ "java/lang/invoke/MethodHandle" ∧ yX12_signOf.cls ≠ "java/lang/invoke/VarHandle" ∧ (parseMethodDescriptor yX12_signOf.desc).map (fun d => d.parameters.length) = some 2 := by decide +kernel
theorem hd_X12_mayBe : yX12_mayBe.cls ≠ "java/lang/invoke/MethodHandle" ∧ yX12_mayBe.cls ≠ "java/lang/invoke/VarHandle" ∧ (parseMethodDescriptor yX12_mayBe.desc).map (fun d => d.parameters.length) = some 3 := by decide +kernel
theorem hd_X12_bits : yX12_bits.cls ≠ "java/lang/invoke/MethodHandle" ∧ yX12_bits.cls ≠ "java/lang/invoke/VarHandle" ∧ (parseMethodDescriptor yX12_bits.desc).map (fun d => d.parameters.length) = some 1 := by decide +kernel
theorem hd_X12_leastOf : yX12_leastOf.cls ≠ "java/lang/invoke/MethodHandle" ∧ yX12_leastOf.cls ≠ "java/lang/invoke/VarHandle" ∧ (parseMethodDescriptor yX12_leastOf.desc).map (fun d => d.parameters.length) = some 1 := by decide +kernel
theorem hd_X12_plan : yX12_plan.cls ≠ "java/lang/invoke/MethodHandle" ∧ yX12_plan.cls ≠ "java/lang/invoke/VarHandle" ∧ (parseMethodDescriptor yX12_plan.desc).map (fun d => d.parameters.length) = some 1 := by decide +kernel
theorem hd_X12_planned : yX12_planned.cls ≠ "java/lang/invoke/MethodHandle" ∧ yX12_planned.cls ≠ "java/lang/invoke/VarHandle" ∧ (parseMethodDescriptor yX12_planned.desc).map (fun d => d.parameters.length) = some 1 := by decide +kernel
theorem hd_X12_paper : yX12_paper.cls ≠ "java/lang/invoke/MethodHandle" ∧ yX12_paper.cls ≠ "java/lang/invoke/VarHandle" ∧ (parseMethodDescriptor yX12_paper.desc).map (fun d => d.parameters.length) = some 1 := by decide +kernel
theorem hd_X12_written : yX12_written.cls ≠ "java/lang/invoke/MethodHandle" ∧ yX12_written.cls ≠ "java/lang/invoke/VarHandle" ∧ (parseMethodDescriptor yX12_written.desc).map (fun d => d.parameters.length) = some 0 := by decide +kernel
theorem hd_X12_hasName : yX12_hasName.cls ≠ "java/lang/invoke/MethodHandle" ∧ yX12_hasName.cls ≠ "java/lang/invoke/VarHandle" ∧ (parseMethodDescriptor yX12_hasName.desc).map (fun d => d.parameters.length) = some 1 := by decide +kernel
theorem hd_X12_givesOf : yX12_givesOf.cls ≠ "java/lang/invoke/MethodHandle" ∧ yX12_givesOf.cls ≠ "java/lang/invoke/VarHandle" ∧ (parseMethodDescriptor yX12_givesOf.desc).map (fun d => d.parameters.length) = some 2 := by decide +kernel
theorem hd_X12_joins : yX12_joins.cls ≠ "java/lang/invoke/MethodHandle" ∧ yX12_joins.cls ≠ "java/lang/invoke/VarHandle" ∧ (parseMethodDescriptor yX12_joins.desc).map (fun d => d.parameters.length) = some 3 := by decide +kernel
theorem hd_X12_join : yX12_join.cls ≠ "java/lang/invoke/MethodHandle" ∧ yX12_join.cls ≠ "java/lang/invoke/VarHandle" ∧ (parseMethodDescriptor yX12_join.desc).map (fun d => d.parameters.length) = some 0 := by decide +kernel
theorem hd_X12_joined : yX12_joined.cls ≠ "java/lang/invoke/MethodHandle" ∧ yX12_joined.cls ≠ "java/lang/invoke/VarHandle" ∧ (parseMethodDescriptor yX12_joined.desc).map (fun d => d.parameters.length) = some 1 := by decide +kernel
theorem hd_X12_settledNow : yX12_settledNow.cls ≠ "java/lang/invoke/MethodHandle" ∧ yX12_settledNow.cls ≠ "java/lang/invoke/VarHandle" ∧ (parseMethodDescriptor yX12_settledNow.desc).map (fun d => d.parameters.length) = some 0 := by decide +kernel
theorem hd_X12_count : yX12_count.cls ≠ "java/lang/invoke/MethodHandle" ∧ yX12_count.cls ≠ "java/lang/invoke/VarHandle" ∧ (parseMethodDescriptor yX12_count.desc).map (fun d => d.parameters.length) = some 1 := by decide +kernel
theorem hd_X12_isSlot : yX12_isSlot.cls ≠ "java/lang/invoke/MethodHandle" ∧ yX12_isSlot.cls ≠ "java/lang/invoke/VarHandle" ∧ (parseMethodDescriptor yX12_isSlot.desc).map (fun d => d.parameters.length) = some 1 := by decide +kernel
theorem hd_X12_cut : yX12_cut.cls ≠ "java/lang/invoke/MethodHandle" ∧ yX12_cut.cls ≠ "java/lang/invoke/VarHandle" ∧ (parseMethodDescriptor yX12_cut.desc).map (fun d => d.parameters.length) = some 2 := by decide +kernel
theorem hd_X12_row : yX12_row.cls ≠ "java/lang/invoke/MethodHandle" ∧ yX12_row.cls ≠ "java/lang/invoke/VarHandle" ∧ (parseMethodDescriptor yX12_row.desc).map (fun d => d.parameters.length) = some 3 := by decide +kernel
theorem hd_X12_tear : yX12_tear.cls ≠ "java/lang/invoke/MethodHandle" ∧ yX12_tear.cls ≠ "java/lang/invoke/VarHandle" ∧ (parseMethodDescriptor yX12_tear.desc).map (fun d => d.parameters.length) = some 1 := by decide +kernel
theorem hd_X12_write : yX12_write.cls ≠ "java/lang/invoke/MethodHandle" ∧ yX12_write.cls ≠ "java/lang/invoke/VarHandle" ∧ (parseMethodDescriptor yX12_write.desc).map (fun d => d.parameters.length) = some 3 := by decide +kernel
theorem hd_X12_paste : yX12_paste.cls ≠ "java/lang/invoke/MethodHandle" ∧ yX12_paste.cls ≠ "java/lang/invoke/VarHandle" ∧ (parseMethodDescriptor yX12_paste.desc).map (fun d => d.parameters.length) = some 5 := by decide +kernel
theorem hd_X12_counted : yX12_counted.cls ≠ "java/lang/invoke/MethodHandle" ∧ yX12_counted.cls ≠ "java/lang/invoke/VarHandle" ∧ (parseMethodDescriptor yX12_counted.desc).map (fun d => d.parameters.length) = some 1 := by decide +kernel
theorem hd_X11_back : yX11_back.cls ≠ "java/lang/invoke/MethodHandle" ∧ yX11_back.cls ≠ "java/lang/invoke/VarHandle" ∧ (parseMethodDescriptor yX11_back.desc).map (fun d => d.parameters.length) = some 1 := by decide +kernel
theorem hd_X11_keep : yX11_keep.cls ≠ "java/lang/invoke/MethodHandle" ∧ yX11_keep.cls ≠ "java/lang/invoke/VarHandle" ∧ (parseMethodDescriptor yX11_keep.desc).map (fun d => d.parameters.length) = some 1 := by decide +kernel
