abbrev mX6_init : zM := (yX6_init, cX6_init, 1, none)
theorem vX6_init : zMeB mX6_init 0 ∧ Cond.instanceMethod mX6_init.1 ∈ lw_tbl := ⟨⟨(List.mem_of_getElem? (i := 1489) (by decide +kernel)), (List.mem_of_getElem? (i := 71) (by decide +kernel)), ⟨by decide +kernel, by decide +kernel⟩, by decide +kernel, by decide⟩, (List.mem_of_getElem? (i := 1488) (by decide +kernel))⟩
abbrev mX6_thrown : zM := (yX6_thrown, cX6_thrown, 1, (some .int))
theorem vX6_thrown : zMeV mX6_thrown 0 := ⟨⟨(List.mem_of_getElem? (i := 1558) (by decide +kernel)), (List.mem_of_getElem? (i := 71) (by decide +kernel)), ⟨by decide +kernel, by decide +kernel⟩, by decide +kernel, by decide⟩, (List.mem_of_getElem? (i := 1556) (by decide +kernel)), (List.mem_of_getElem? (i := 1557) (by decide +kernel))⟩
abbrev mX6_fail : zM := (yX6_fail, cX6_fail, 2, (some .int))
theorem vX6_fail : zMeV mX6_fail 1 := ⟨⟨(List.mem_of_getElem? (i := 1586) (by decide +kernel)), (List.mem_of_getElem? (i := 71) (by decide +kernel)), ⟨by decide +kernel, by decide +kernel⟩, by decide +kernel, by decide⟩, (List.mem_of_getElem? (i := 1585) (by decide +kernel)), (List.mem_of_getElem? (i := 26) (by decide +kernel))⟩
abbrev mX6_isIn : zM := (yX6_isIn, cX6_isIn, 3, (some .boolean))
theorem vX6_isIn : zMeS mX6_isIn 3 := ⟨⟨(List.mem_of_getElem? (i := 1579) (by decide +kernel)), (List.mem_of_getElem? (i := 71) (by decide +kernel)), ⟨by decide +kernel, by decide +kernel⟩, by decide +kernel, by decide⟩, (List.mem_of_getElem? (i := 1578) (by decide +kernel))⟩
abbrev mX6_lays : zM := (yX6_lays, cX6_lays, 3, none)
theorem vX6_lays : zMeS mX6_lays 2 := ⟨⟨(List.mem_of_getElem? (i := 1569) (by decide +kernel)), (List.mem_of_getElem? (i := 71) (by decide +kernel)), ⟨by decide +kernel, by decide +kernel⟩, by decide +kernel, by decide⟩, (List.mem_of_getElem? (i := 1568) (by decide +kernel))⟩
abbrev mX6_begins : zM := (yX6_begins, cX6_begins, 1, none)
theorem vX6_begins : zMeV mX6_begins 0 := ⟨⟨(List.mem_of_getElem? (i := 1566) (by decide +kernel)), (List.mem_of_getElem? (i := 71) (by decide +kernel)), ⟨by decide +kernel, by decide +kernel⟩, by decide +kernel, by decide⟩, (List.mem_of_getElem? (i := 1565) (by decide +kernel)), (List.mem_of_getElem? (i := 24) (by decide +kernel))⟩
abbrev mX6_ends : zM := (yX6_ends, cX6_ends, 3, (some .int))
theorem vX6_ends : zMeV mX6_ends 1 := ⟨⟨(List.mem_of_getElem? (i := 1590) (by decide +kernel)), (List.mem_of_getElem? (i := 71) (by decide +kernel)), ⟨by decide +kernel, by decide +kernel⟩, by decide +kernel, by decide⟩, (List.mem_of_getElem? (i := 1589) (by decide +kernel)), (List.mem_of_getElem? (i := 27) (by decide +kernel))⟩
abbrev mX6_isEar : zM := (yX6_isEar, cX6_isEar, 2, (some .boolean))
theorem vX6_isEar : zMeV mX6_isEar 1 := ⟨⟨(List.mem_of_getElem? (i := 1602) (by decide +kernel)), (List.mem_of_getElem? (i := 71) (by decide +kernel)), ⟨by decide +kernel, by decide +kernel⟩, by decide +kernel, by decide⟩, (List.mem_of_getElem? (i := 1601) (by decide +kernel)), (List.mem_of_getElem? (i := 29) (by decide +kernel))⟩
abbrev mX6_isRumour : zM := (yX6_isRumour, cX6_isRumour, 2, (some .boolean))
theorem vX6_isRumour : zMeV mX6_isRumour 1 := ⟨⟨(List.mem_of_getElem? (i := 1655) (by decide +kernel)), (List.mem_of_getElem? (i := 71) (by decide +kernel)), ⟨by decide +kernel, by decide +kernel⟩, by decide +kernel, by decide⟩, (List.mem_of_getElem? (i := 1654) (by decide +kernel)), (List.mem_of_getElem? (i := 36) (by decide +kernel))⟩
abbrev mX6_isHive : zM := (yX6_isHive, cX6_isHive, 1, (some .boolean))
theorem vX6_isHive : zMeS mX6_isHive 1 := ⟨⟨(List.mem_of_getElem? (i := 1576) (by decide +kernel)), (List.mem_of_getElem? (i := 71) (by decide +kernel)), ⟨by decide +kernel, by decide +kernel⟩, by decide +kernel, by decide⟩, (List.mem_of_getElem? (i := 1575) (by decide +kernel))⟩
abbrev mX6_isDigit : zM := (yX6_isDigit, cX6_isDigit, 1, (some .boolean))
theorem vX6_isDigit : zMeS mX6_isDigit 1 := ⟨⟨(List.mem_of_getElem? (i := 1582) (by decide +kernel)), (List.mem_of_getElem? (i := 71) (by decide +kernel)), ⟨by decide +kernel, by decide +kernel⟩, by decide +kernel, by decide⟩, (List.mem_of_getElem? (i := 1581) (by decide +kernel))⟩
abbrev mX6_of : zM := (yX6_of, cX6_of, 2, (some .int))
theorem vX6_of : zMeS mX6_of 2 := ⟨⟨(List.mem_of_getElem? (i := 1643) (by decide +kernel)), (List.mem_of_getElem? (i := 71) (by decide +kernel)), ⟨by decide +kernel, by decide +kernel⟩, by decide +kernel, by decide⟩, (List.mem_of_getElem? (i := 1642) (by decide +kernel))⟩
abbrev mX6_has : zM := (yX6_has, cX6_has, 2, (some .boolean))
theorem vX6_has : zMeS mX6_has 2 := ⟨⟨(List.mem_of_getElem? (i := 1605) (by decide +kernel)), (List.mem_of_getElem? (i := 71) (by decide +kernel)), ⟨by decide +kernel, by decide +kernel⟩, by decide +kernel, by decide⟩, (List.mem_of_getElem? (i := 1604) (by decide +kernel))⟩
abbrev mX6_bits : zM := (yX6_bits, cX6_bits, 3, (some .int))
theorem vX6_bits : zMeS mX6_bits 1 := ⟨⟨(List.mem_of_getElem? (i := 1616) (by decide +kernel)), (List.mem_of_getElem? (i := 71) (by decide +kernel)), ⟨by decide +kernel, by decide +kernel⟩, by decide +kernel, by decide⟩, (List.mem_of_getElem? (i := 1615) (by decide +kernel))⟩
abbrev mX6_aware : zM := (yX6_aware, cX6_aware, 2, (some .int))
theorem vX6_aware : zMeV mX6_aware 1 := ⟨⟨(List.mem_of_getElem? (i := 1695) (by decide +kernel)), (List.mem_of_getElem? (i := 71) (by decide +kernel)), ⟨by decide +kernel, by decide +kernel⟩, by decide +kernel, by decide⟩, (List.mem_of_getElem? (i := 1694) (by decide +kernel)), (List.mem_of_getElem? (i := 43) (by decide +kernel))⟩
abbrev mX6_adds : zM := (yX6_adds, cX6_adds, 4, (some .int))
theorem vX6_adds : zMeV mX6_adds 2 := ⟨⟨(List.mem_of_getElem? (i := 1573) (by decide +kernel)), (List.mem_of_getElem? (i := 71) (by decide +kernel)), ⟨by decide +kernel, by decide +kernel⟩, by decide +kernel, by decide⟩, (List.mem_of_getElem? (i := 1572) (by decide +kernel)), (List.mem_of_getElem? (i := 25) (by decide +kernel))⟩
abbrev mX6_addListener : zM := (yX6_addListener, cX6_addListener, 3, (some .int))
theorem vX6_addListener : zMeV mX6_addListener 2 := ⟨⟨(List.mem_of_getElem? (i := 1562) (by decide +kernel)), (List.mem_of_getElem? (i := 71) (by decide +kernel)), ⟨by decide +kernel, by decide +kernel⟩, by decide +kernel, by decide⟩, (List.mem_of_getElem? (i := 1560) (by decide +kernel)), (List.mem_of_getElem? (i := 1561) (by decide +kernel))⟩
abbrev mX6_links : zM := (yX6_links, cX6_links, 3, (some .int))
theorem vX6_links : zMeV mX6_links 0 := ⟨⟨(List.mem_of_getElem? (i := 1613) (by decide +kernel)), (List.mem_of_getElem? (i := 71) (by decide +kernel)), ⟨by decide +kernel, by decide +kernel⟩, by decide +kernel, by decide⟩, (List.mem_of_getElem? (i := 1612) (by decide +kernel)), (List.mem_of_getElem? (i := 31) (by decide +kernel))⟩
abbrev mX6_turnsLink : zM := (yX6_turnsLink, cX6_turnsLink, 3, none)
theorem vX6_turnsLink : zMeV mX6_turnsLink 2 := ⟨⟨(List.mem_of_getElem? (i := 1609) (by decide +kernel)), (List.mem_of_getElem? (i := 71) (by decide +kernel)), ⟨by decide +kernel, by decide +kernel⟩, by decide +kernel, by decide⟩, (List.mem_of_getElem? (i := 1608) (by decide +kernel)), (List.mem_of_getElem? (i := 30) (by decide +kernel))⟩
abbrev mX6_joins : zM := (yX6_joins, cX6_joins, 3, (some .int))
theorem vX6_joins : zMeV mX6_joins 2 := ⟨⟨(List.mem_of_getElem? (i := 1598) (by decide +kernel)), (List.mem_of_getElem? (i := 71) (by decide +kernel)), ⟨by decide +kernel, by decide +kernel⟩, by decide +kernel, by decide⟩, (List.mem_of_getElem? (i := 1597) (by decide +kernel)), (List.mem_of_getElem? (i := 28) (by decide +kernel))⟩
abbrev mX6_link : zM := (yX6_link, cX6_link, 3, (some .int))
theorem vX6_link : zMeV mX6_link 2 := ⟨⟨(List.mem_of_getElem? (i := 1594) (by decide +kernel)), (List.mem_of_getElem? (i := 71) (by decide +kernel)), ⟨by decide +kernel, by decide +kernel⟩, by decide +kernel, by decide⟩, (List.mem_of_getElem? (i := 1592) (by decide +kernel)), (List.mem_of_getElem? (i := 1593) (by decide +kernel))⟩
abbrev mX6_cuts : zM := (yX6_cuts, cX6_cuts, 3, (some .int))
theorem vX6_cuts : zMeV mX6_cuts 2 := ⟨⟨(List.mem_of_getElem? (i := 1624) (by decide +kernel)), (List.mem_of_getElem? (i := 71) (by decide +kernel)), ⟨by decide +kernel, by decide +kernel⟩, by decide +kernel, by decide⟩, (List.mem_of_getElem? (i := 1623) (by decide +kernel)), (List.mem_of_getElem? (i := 32) (by decide +kernel))⟩
abbrev mX6_unlink : zM := (yX6_unlink, cX6_unlink, 3, (some .int))
theorem vX6_unlink : zMeV mX6_unlink 2 := ⟨⟨(List.mem_of_getElem? (i := 1620) (by decide +kernel)), (List.mem_of_getElem? (i := 71) (by decide +kernel)), ⟨by decide +kernel, by decide +kernel⟩, by decide +kernel, by decide⟩, (List.mem_of_getElem? (i := 1618) (by decide +kernel)), (List.mem_of_getElem? (i := 1619) (by decide +kernel))⟩
abbrev mX6_moves : zM := (yX6_moves, cX6_moves, 4, (some .int))
theorem vX6_moves : zMeV mX6_moves 2 := ⟨⟨(List.mem_of_getElem? (i := 1632) (by decide +kernel)), (List.mem_of_getElem? (i := 71) (by decide +kernel)), ⟨by decide +kernel, by decide +kernel⟩, by decide +kernel, by decide⟩, (List.mem_of_getElem? (i := 1631) (by decide +kernel)), (List.mem_of_getElem? (i := 33) (by decide +kernel))⟩
abbrev mX6_moveListener : zM := (yX6_moveListener, cX6_moveListener, 3, (some .int))
theorem vX6_moveListener : zMeV mX6_moveListener 2 := ⟨⟨(List.mem_of_getElem? (i := 1628) (by decide +kernel)), (List.mem_of_getElem? (i := 71) (by decide +kernel)), ⟨by decide +kernel, by decide +kernel⟩, by decide +kernel, by decide⟩, (List.mem_of_getElem? (i := 1626) (by decide +kernel)), (List.mem_of_getElem? (i := 1627) (by decide +kernel))⟩
abbrev mX6_starts : zM := (yX6_starts, cX6_starts, 4, (some .int))
theorem vX6_starts : zMeV mX6_starts 2 := ⟨⟨(List.mem_of_getElem? (i := 1640) (by decide +kernel)), (List.mem_of_getElem? (i := 71) (by decide +kernel)), ⟨by decide +kernel, by decide +kernel⟩, by decide +kernel, by decide⟩, (List.mem_of_getElem? (i := 1639) (by decide +kernel)), (List.mem_of_getElem? (i := 34) (by decide +kernel))⟩
abbrev mX6_startRumour : zM := (yX6_startRumour, cX6_startRumour, 3, (some .int))
theorem vX6_startRumour : zMeV mX6_startRumour 2 := ⟨⟨(List.mem_of_getElem? (i := 1636) (by decide +kernel)), (List.mem_of_getElem? (i := 71) (by decide +kernel)), ⟨by decide +kernel, by decide +kernel⟩, by decide +kernel, by decide⟩, (List.mem_of_getElem? (i := 1634) (by decide +kernel)), (List.mem_of_getElem? (i := 1635) (by decide +kernel))⟩
abbrev mX6_checks : zM := (yX6_checks, cX6_checks, 3, (some .int))
theorem vX6_checks : zMeV mX6_checks 2 := ⟨⟨(List.mem_of_getElem? (i := 1651) (by decide +kernel)), (List.mem_of_getElem? (i := 71) (by decide +kernel)), ⟨by decide +kernel, by decide +kernel⟩, by decide +kernel, by decide⟩, (List.mem_of_getElem? (i := 1650) (by decide +kernel)), (List.mem_of_getElem? (i := 35) (by decide +kernel))⟩
abbrev mX6_check : zM := (yX6_check, cX6_check, 3, (some .boolean))
theorem vX6_check : zMeV mX6_check 2 := ⟨⟨(List.mem_of_getElem? (i := 1647) (by decide +kernel)), (List.mem_of_getElem? (i := 71) (by decide +kernel)), ⟨by decide +kernel, by decide +kernel⟩, by decide +kernel, by decide⟩, (List.mem_of_getElem? (i := 1645) (by decide +kernel)), (List.mem_of_getElem? (i := 1646) (by decide +kernel))⟩
abbrev mX6_denies : zM := (yX6_denies, cX6_denies, 2, (some .int))
theorem vX6_denies : zMeV mX6_denies 1 := ⟨⟨(List.mem_of_getElem? (i := 1663) (by decide +kernel)), (List.mem_of_getElem? (i := 71) (by decide +kernel)), ⟨by decide +kernel, by decide +kernel⟩, by decide +kernel, by decide⟩, (List.mem_of_getElem? (i := 1662) (by decide +kernel)), (List.mem_of_getElem? (i := 37) (by decide +kernel))⟩
abbrev mX6_deny : zM := (yX6_deny, cX6_deny, 2, (some .int))
theorem vX6_deny : zMeV mX6_deny 1 := ⟨⟨(List.mem_of_getElem? (i := 1659) (by decide +kernel)), (List.mem_of_getElem? (i := 71) (by decide +kernel)), ⟨by decide +kernel, by decide +kernel⟩, by decide +kernel, by decide⟩, (List.mem_of_getElem? (i := 1657) (by decide +kernel)), (List.mem_of_getElem? (i := 1658) (by decide +kernel))⟩
abbrev mX6_answers : zM := (yX6_answers, cX6_answers, 4, (some .int))
theorem vX6_answers : zMeV mX6_answers 2 := ⟨⟨(List.mem_of_getElem? (i := 1671) (by decide +kernel)), (List.mem_of_getElem? (i := 71) (by decide +kernel)), ⟨by decide +kernel, by decide +kernel⟩, by decide +kernel, by decide⟩, (List.mem_of_getElem? (i := 1670) (by decide +kernel)), (List.mem_of_getElem? (i := 38) (by decide +kernel))⟩
abbrev mX6_answer : zM := (yX6_answer, cX6_answer, 3, (some .int))
theorem vX6_answer : zMeV mX6_answer 2 := ⟨⟨(List.mem_of_getElem? (i := 1667) (by decide +kernel)), (List.mem_of_getElem? (i := 71) (by decide +kernel)), ⟨by decide +kernel, by decide +kernel⟩, by decide +kernel, by decide⟩, (List.mem_of_getElem? (i := 1665) (by decide +kernel)), (List.mem_of_getElem? (i := 1666) (by decide +kernel))⟩
abbrev mX6_hears : zM := (yX6_hears, cX6_hears, 4, (some .int))
theorem vX6_hears : zMeV mX6_hears 1 := ⟨⟨(List.mem_of_getElem? (i := 1691) (by decide +kernel)), (List.mem_of_getElem? (i := 71) (by decide +kernel)), ⟨by decide +kernel, by decide +kernel⟩, by decide +kernel, by decide⟩, (List.mem_of_getElem? (i := 1690) (by decide +kernel)), (List.mem_of_getElem? (i := 42) (by decide +kernel))⟩
abbrev mX6_believes : zM := (yX6_believes, cX6_believes, 5, (some .int))
theorem vX6_believes : zMeV mX6_believes 1 := ⟨⟨(List.mem_of_getElem? (i := 1699) (by decide +kernel)), (List.mem_of_getElem? (i := 71) (by decide +kernel)), ⟨by decide +kernel, by decide +kernel⟩, by decide +kernel, by decide⟩, (List.mem_of_getElem? (i := 1698) (by decide +kernel)), (List.mem_of_getElem? (i := 44) (by decide +kernel))⟩
abbrev mX6_spreads : zM := (yX6_spreads, cX6_spreads, 5, (some .int))
theorem vX6_spreads : zMeV mX6_spreads 1 := ⟨⟨(List.mem_of_getElem? (i := 1687) (by decide +kernel)), (List.mem_of_getElem? (i := 71) (by decide +kernel)), ⟨by decide +kernel, by decide +kernel⟩, by decide +kernel, by decide⟩, (List.mem_of_getElem? (i := 1686) (by decide +kernel)), (List.mem_of_getElem? (i := 41) (by decide +kernel))⟩
abbrev mX6_rounds : zM := (yX6_rounds, cX6_rounds, 5, (some .int))
theorem vX6_rounds : zMeV mX6_rounds 1 := ⟨⟨(List.mem_of_getElem? (i := 1683) (by decide +kernel)), (List.mem_of_getElem? (i := 71) (by decide +kernel)), ⟨by decide +kernel, by decide +kernel⟩, by decide +kernel, by decide⟩, (List.mem_of_getElem? (i := 1682) (by decide +kernel)), (List.mem_of_getElem? (i := 40) (by decide +kernel))⟩
abbrev mX6_passes : zM := (yX6_passes, cX6_passes, 2, (some .int))
theorem vX6_passes : zMeV mX6_passes 1 := ⟨⟨(List.mem_of_getElem? (i := 1679) (by decide +kernel)), (List.mem_of_getElem? (i := 71) (by decide +kernel)), ⟨by decide +kernel, by decide +kernel⟩, by decide +kernel, by decide⟩, (List.mem_of_getElem? (i := 1678) (by decide +kernel)), (List.mem_of_getElem? (i := 39) (by decide +kernel))⟩
abbrev mX6_advance : zM := (yX6_advance, cX6_advance, 2, (some .int))
theorem vX6_advance : zMeV mX6_advance 1 := ⟨⟨(List.mem_of_getElem? (i := 1675) (by decide +kernel)), (List.mem_of_getElem? (i := 71) (by decide +kernel)), ⟨by decide +kernel, by decide +kernel⟩, by decide +kernel, by decide⟩, (List.mem_of_getElem? (i := 1673) (by decide +kernel)), (List.mem_of_getElem? (i := 1674) (by decide +kernel))⟩
abbrev mX6_listenerCount : zM := (yX6_listenerCount, cX6_listenerCount, 1, (some .int))
theorem vX6_listenerCount : zMeV mX6_listenerCount 0 := ⟨⟨(List.mem_of_getElem? (i := 1703) (by decide +kernel)), (List.mem_of_getElem? (i := 71) (by decide +kernel)), ⟨by decide +kernel, by decide +kernel⟩, by decide +kernel, by decide⟩, (List.mem_of_getElem? (i := 1701) (by decide +kernel)), (List.mem_of_getElem? (i := 1702) (by decide +kernel))⟩
abbrev mX6_hive : zM := (yX6_hive, cX6_hive, 2, (some .int))
theorem vX6_hive : zMeV mX6_hive 1 := ⟨⟨(List.mem_of_getElem? (i := 1707) (by decide +kernel)), (List.mem_of_getElem? (i := 71) (by decide +kernel)), ⟨by decide +kernel, by decide +kernel⟩, by decide +kernel, by decide⟩, (List.mem_of_getElem? (i := 1705) (by decide +kernel)), (List.mem_of_getElem? (i := 1706) (by decide +kernel))⟩
abbrev mX6_doubt : zM := (yX6_doubt, cX6_doubt, 2, (some .int))
theorem vX6_doubt : zMeV mX6_doubt 1 := ⟨⟨(List.mem_of_getElem? (i := 1711) (by decide +kernel)), (List.mem_of_getElem? (i := 71) (by decide +kernel)), ⟨by decide +kernel, by decide +kernel⟩, by decide +kernel, by decide⟩, (List.mem_of_getElem? (i := 1709) (by decide +kernel)), (List.mem_of_getElem? (i := 1710) (by decide +kernel))⟩
abbrev mX6_isLinked : zM := (yX6_isLinked, cX6_isLinked, 3, (some .boolean))
theorem vX6_isLinked : zMeV mX6_isLinked 2 := ⟨⟨(List.mem_of_getElem? (i := 1715) (by decide +kernel)), (List.mem_of_getElem? (i := 71) (by decide +kernel)), ⟨by decide +kernel, by decide +kernel⟩, by decide +kernel, by decide⟩, (List.mem_of_getElem? (i := 1713) (by decide +kernel)), (List.mem_of_getElem? (i := 1714) (by decide +kernel))⟩
abbrev mX6_neighbourCount : zM := (yX6_neighbourCount, cX6_neighbourCount, 2, (some .int))
theorem vX6_neighbourCount : zMeV mX6_neighbourCount 1 := ⟨⟨(List.mem_of_getElem? (i := 1719) (by decide +kernel)), (List.mem_of_getElem? (i := 71) (by decide +kernel)), ⟨by decide +kernel, by decide +kernel⟩, by decide +kernel, by decide⟩, (List.mem_of_getElem? (i := 1717) (by decide +kernel)), (List.mem_of_getElem? (i := 1718) (by decide +kernel))⟩
abbrev mX6_linkCount : zM := (yX6_linkCount, cX6_linkCount, 1, (some .int))
theorem vX6_linkCount : zMeV mX6_linkCount 0 := ⟨⟨(List.mem_of_getElem? (i := 1723) (by decide +kernel)), (List.mem_of_getElem? (i := 71) (by decide +kernel)), ⟨by decide +kernel, by decide +kernel⟩, by decide +kernel, by decide⟩, (List.mem_of_getElem? (i := 1721) (by decide +kernel)), (List.mem_of_getElem? (i := 1722) (by decide +kernel))⟩
abbrev mX6_hiveSize : zM := (yX6_hiveSize, cX6_hiveSize, 4, (some .int))
theorem vX6_hiveSize : zMeV mX6_hiveSize 1 := ⟨⟨(List.mem_of_getElem? (i := 1727) (by decide +kernel)), (List.mem_of_getElem? (i := 71) (by decide +kernel)), ⟨by decide +kernel, by decide +kernel⟩, by decide +kernel, by decide⟩, (List.mem_of_getElem? (i := 1725) (by decide +kernel)), (List.mem_of_getElem? (i := 1726) (by decide +kernel))⟩
abbrev mX6_reached : zM := (yX6_reached, cX6_reached, 5, (some .int))
theorem vX6_reached : zMeV mX6_reached 1 := ⟨⟨(List.mem_of_getElem? (i := 1735) (by decide +kernel)), (List.mem_of_getElem? (i := 71) (by decide +kernel)), ⟨by decide +kernel, by decide +kernel⟩, by decide +kernel, by decide⟩, (List.mem_of_getElem? (i := 1734) (by decide +kernel)), (List.mem_of_getElem? (i := 45) (by decide +kernel))⟩
abbrev mX6_componentCount : zM := (yX6_componentCount, cX6_componentCount, 3, (some .int))
theorem vX6_componentCount : zMeV mX6_componentCount 0 := ⟨⟨(List.mem_of_getElem? (i := 1731) (by decide +kernel)), (List.mem_of_getElem? (i := 71) (by decide +kernel)), ⟨by decide +kernel, by decide +kernel⟩, by decide +kernel, by decide⟩, (List.mem_of_getElem? (i := 1729) (by decide +kernel)), (List.mem_of_getElem? (i := 1730) (by decide +kernel))⟩
abbrev mX6_componentCountByUnion : zM := (yX6_componentCountByUnion, cX6_componentCountByUnion, 1, (some .int))
theorem vX6_componentCountByUnion : zMeV mX6_componentCountByUnion 0 := ⟨⟨(List.mem_of_getElem? (i := 1739) (by decide +kernel)), (List.mem_of_getElem? (i := 71) (by decide +kernel)), ⟨by decide +kernel, by decide +kernel⟩, by decide +kernel, by decide⟩, (List.mem_of_getElem? (i := 1737) (by decide +kernel)), (List.mem_of_getElem? (i := 1738) (by decide +kernel))⟩
abbrev mX6_rumourCount : zM := (yX6_rumourCount, cX6_rumourCount, 1, (some .int))
theorem vX6_rumourCount : zMeV mX6_rumourCount 0 := ⟨⟨(List.mem_of_getElem? (i := 1744) (by decide +kernel)), (List.mem_of_getElem? (i := 71) (by decide +kernel)), ⟨by decide +kernel, by decide +kernel⟩, by decide +kernel, by decide⟩, (List.mem_of_getElem? (i := 1742) (by decide +kernel)), (List.mem_of_getElem? (i := 1743) (by decide +kernel))⟩
abbrev mX6_tells : zM := (yX6_tells, cX6_tells, 3, (some .int))
theorem vX6_tells : zMeV mX6_tells 2 := ⟨⟨(List.mem_of_getElem? (i := 1752) (by decide +kernel)), (List.mem_of_getElem? (i := 71) (by decide +kernel)), ⟨by decide +kernel, by decide +kernel⟩, by decide +kernel, by decide⟩, (List.mem_of_getElem? (i := 1751) (by decide +kernel)), (List.mem_of_getElem? (i := 46) (by decide +kernel))⟩
abbrev mX6_strength : zM := (yX6_strength, cX6_strength, 2, (some .int))
theorem vX6_strength : zMeV mX6_strength 1 := ⟨⟨(List.mem_of_getElem? (i := 1748) (by decide +kernel)), (List.mem_of_getElem? (i := 71) (by decide +kernel)), ⟨by decide +kernel, by decide +kernel⟩, by decide +kernel, by decide⟩, (List.mem_of_getElem? (i := 1746) (by decide +kernel)), (List.mem_of_getElem? (i := 1747) (by decide +kernel))⟩
abbrev mX6_isAlive : zM := (yX6_isAlive, cX6_isAlive, 3, (some .boolean))
theorem vX6_isAlive : zMeV mX6_isAlive 1 := ⟨⟨(List.mem_of_getElem? (i := 1756) (by decide +kernel)), (List.mem_of_getElem? (i := 71) (by decide +kernel)), ⟨by decide +kernel, by decide +kernel⟩, by decide +kernel, by decide⟩, (List.mem_of_getElem? (i := 1754) (by decide +kernel)), (List.mem_of_getElem? (i := 1755) (by decide +kernel))⟩
abbrev mX6_starter : zM := (yX6_starter, cX6_starter, 2, (some .int))
theorem vX6_starter : zMeV mX6_starter 1 := ⟨⟨(List.mem_of_getElem? (i := 1760) (by decide +kernel)), (List.mem_of_getElem? (i := 71) (by decide +kernel)), ⟨by decide +kernel, by decide +kernel⟩, by decide +kernel, by decide⟩, (List.mem_of_getElem? (i := 1758) (by decide +kernel)), (List.mem_of_getElem? (i := 1759) (by decide +kernel))⟩
abbrev mX6_isOf : zM := (yX6_isOf, cX6_isOf, 4, (some .boolean))
theorem vX6_isOf : zMeV mX6_isOf 3 := ⟨⟨(List.mem_of_getElem? (i := 1768) (by decide +kernel)), (List.mem_of_getElem? (i := 71) (by decide +kernel)), ⟨by decide +kernel, by decide +kernel⟩, by decide +kernel, by decide⟩, (List.mem_of_getElem? (i := 1767) (by decide +kernel)), (List.mem_of_getElem? (i := 47) (by decide +kernel))⟩
abbrev mX6_isSpreader : zM := (yX6_isSpreader, cX6_isSpreader, 3, (some .boolean))
theorem vX6_isSpreader : zMeV mX6_isSpreader 2 := ⟨⟨(List.mem_of_getElem? (i := 1764) (by decide +kernel)), (List.mem_of_getElem? (i := 71) (by decide +kernel)), ⟨by decide +kernel, by decide +kernel⟩, by decide +kernel, by decide⟩, (List.mem_of_getElem? (i := 1762) (by decide +kernel)), (List.mem_of_getElem? (i := 1763) (by decide +kernel))⟩
abbrev mX6_isSceptic : zM := (yX6_isSceptic, cX6_isSceptic, 3, (some .boolean))
theorem vX6_isSceptic : zMeV mX6_isSceptic 2 := ⟨⟨(List.mem_of_getElem? (i := 1772) (by decide +kernel)), (List.mem_of_getElem? (i := 71) (by decide +kernel)), ⟨by decide +kernel, by decide +kernel⟩, by decide +kernel, by decide⟩, (List.mem_of_getElem? (i := 1770) (by decide +kernel)), (List.mem_of_getElem? (i := 1771) (by decide +kernel))⟩
abbrev mX6_heardRound : zM := (yX6_heardRound, cX6_heardRound, 3, (some .int))
theorem vX6_heardRound : zMeV mX6_heardRound 2 := ⟨⟨(List.mem_of_getElem? (i := 1776) (by decide +kernel)), (List.mem_of_getElem? (i := 71) (by decide +kernel)), ⟨by decide +kernel, by decide +kernel⟩, by decide +kernel, by decide⟩, (List.mem_of_getElem? (i := 1774) (by decide +kernel)), (List.mem_of_getElem? (i := 1775) (by decide +kernel))⟩
abbrev mX6_spreaderCount : zM := (yX6_spreaderCount, cX6_spreaderCount, 2, (some .int))
theorem vX6_spreaderCount : zMeV mX6_spreaderCount 1 := ⟨⟨(List.mem_of_getElem? (i := 1780) (by decide +kernel)), (List.mem_of_getElem? (i := 71) (by decide +kernel)), ⟨by decide +kernel, by decide +kernel⟩, by decide +kernel, by decide⟩, (List.mem_of_getElem? (i := 1778) (by decide +kernel)), (List.mem_of_getElem? (i := 1779) (by decide +kernel))⟩
abbrev mX6_scepticCount : zM := (yX6_scepticCount, cX6_scepticCount, 2, (some .int))
theorem vX6_scepticCount : zMeV mX6_scepticCount 1 := ⟨⟨(List.mem_of_getElem? (i := 1784) (by decide +kernel)), (List.mem_of_getElem? (i := 71) (by decide +kernel)), ⟨by decide +kernel, by decide +kernel⟩, by decide +kernel, by decide⟩, (List.mem_of_getElem? (i := 1782) (by decide +kernel)), (List.mem_of_getElem? (i := 1783) (by decide +kernel))⟩
abbrev mX6_inHive : zM := (yX6_inHive, cX6_inHive, 5, (some .int))
theorem vX6_inHive : zMeV mX6_inHive 2 := ⟨⟨(List.mem_of_getElem? (i := 1792) (by decide +kernel)), (List.mem_of_getElem? (i := 71) (by decide +kernel)), ⟨by decide +kernel, by decide +kernel⟩, by decide +kernel, by decide⟩, (List.mem_of_getElem? (i := 1791) (by decide +kernel)), (List.mem_of_getElem? (i := 48) (by decide +kernel))⟩
abbrev mX6_countedHive : zM := (yX6_countedHive, cX6_countedHive, 4, (some .int))
theorem vX6_countedHive : zMeV mX6_countedHive 1 := ⟨⟨(List.mem_of_getElem? (i := 1788) (by decide +kernel)), (List.mem_of_getElem? (i := 71) (by decide +kernel)), ⟨by decide +kernel, by decide +kernel⟩, by decide +kernel, by decide⟩, (List.mem_of_getElem? (i := 1786) (by decide +kernel)), (List.mem_of_getElem? (i := 1787) (by decide +kernel))⟩
abbrev mX6_spreadersInHive : zM := (yX6_spreadersInHive, cX6_spreadersInHive, 3, (some .int))
theorem vX6_spreadersInHive : zMeV mX6_spreadersInHive 2 := ⟨⟨(List.mem_of_getElem? (i := 1796) (by decide +kernel)), (List.mem_of_getElem? (i := 71) (by decide +kernel)), ⟨by decide +kernel, by decide +kernel⟩, by decide +kernel, by decide⟩, (List.mem_of_getElem? (i := 1794) (by decide +kernel)), (List.mem_of_getElem? (i := 1795) (by decide +kernel))⟩
abbrev mX6_distance : zM := (yX6_distance, cX6_distance, 7, (some .int))
theorem vX6_distance : zMeV mX6_distance 2 := ⟨⟨(List.mem_of_getElem? (i := 1800) (by decide +kernel)), (List.mem_of_getElem? (i := 71) (by decide +kernel)), ⟨by decide +kernel, by decide +kernel⟩, by decide +kernel, by decide⟩, (List.mem_of_getElem? (i := 1798) (by decide +kernel)), (List.mem_of_getElem? (i := 1799) (by decide +kernel))⟩
abbrev mX6_distanceByRelaxation : zM := (yX6_distanceByRelaxation, cX6_distanceByRelaxation, 3, (some .int))
theorem vX6_distanceByRelaxation : zMeV mX6_distanceByRelaxation 2 := ⟨⟨(List.mem_of_getElem? (i := 1804) (by decide +kernel)), (List.mem_of_getElem? (i := 71) (by decide +kernel)), ⟨by decide +kernel, by decide +kernel⟩, by decide +kernel, by decide⟩, (List.mem_of_getElem? (i := 1802) (by decide +kernel)), (List.mem_of_getElem? (i := 1803) (by decide +kernel))⟩
abbrev mX6_nextSpreaders : zM := (yX6_nextSpreaders, cX6_nextSpreaders, 2, (some .int))
theorem vX6_nextSpreaders : zMeV mX6_nextSpreaders 1 := ⟨⟨(List.mem_of_getElem? (i := 1809) (by decide +kernel)), (List.mem_of_getElem? (i := 71) (by decide +kernel)), ⟨by decide +kernel, by decide +kernel⟩, by decide +kernel, by decide⟩, (List.mem_of_getElem? (i := 1807) (by decide +kernel)), (List.mem_of_getElem? (i := 1808) (by decide +kernel))⟩
abbrev mX6_roundsUntilHeard : zM := (yX6_roundsUntilHeard, cX6_roundsUntilHeard, 6, (some .int))
theorem vX6_roundsUntilHeard : zMeV mX6_roundsUntilHeard 2 := ⟨⟨(List.mem_of_getElem? (i := 1813) (by decide +kernel)), (List.mem_of_getElem? (i := 71) (by decide +kernel)), ⟨by decide +kernel, by decide +kernel⟩, by decide +kernel, by decide⟩, (List.mem_of_getElem? (i := 1811) (by decide +kernel)), (List.mem_of_getElem? (i := 1812) (by decide +kernel))⟩
abbrev mX6_spreadersAfter : zM := (yX6_spreadersAfter, cX6_spreadersAfter, 5, (some .int))
theorem vX6_spreadersAfter : zMeV mX6_spreadersAfter 2 := ⟨⟨(List.mem_of_getElem? (i := 1817) (by decide +kernel)), (List.mem_of_getElem? (i := 71) (by decide +kernel)), ⟨by decide +kernel, by decide +kernel⟩, by decide +kernel, by decide⟩, (List.mem_of_getElem? (i := 1815) (by decide +kernel)), (List.mem_of_getElem? (i := 1816) (by decide +kernel))⟩
abbrev mX6_rumourBySpread : zM := (yX6_rumourBySpread, cX6_rumourBySpread, 6, (some .int))
theorem vX6_rumourBySpread : zMeV mX6_rumourBySpread 1 := ⟨⟨(List.mem_of_getElem? (i := 1821) (by decide +kernel)), (List.mem_of_getElem? (i := 71) (by decide +kernel)), ⟨by decide +kernel, by decide +kernel⟩, by decide +kernel, by decide⟩, (List.mem_of_getElem? (i := 1819) (by decide +kernel)), (List.mem_of_getElem? (i := 1820) (by decide +kernel))⟩
abbrev mX6_gossip : zM := (yX6_gossip, cX6_gossip, 4, (some .int))
theorem vX6_gossip : zMeV mX6_gossip 1 := ⟨⟨(List.mem_of_getElem? (i := 1829) (by decide +kernel)), (List.mem_of_getElem? (i := 71) (by decide +kernel)), ⟨by decide +kernel, by decide +kernel⟩, by decide +kernel, by decide⟩, (List.mem_of_getElem? (i := 1828) (by decide +kernel)), (List.mem_of_getElem? (i := 49) (by decide +kernel))⟩
abbrev mX6_listenerByGossip : zM := (yX6_listenerByGossip, cX6_listenerByGossip, 6, (some .int))
theorem vX6_listenerByGossip : zMeV mX6_listenerByGossip 1 := ⟨⟨(List.mem_of_getElem? (i := 1825) (by decide +kernel)), (List.mem_of_getElem? (i := 71) (by decide +kernel)), ⟨by decide +kernel, by decide +kernel⟩, by decide +kernel, by decide⟩, (List.mem_of_getElem? (i := 1823) (by decide +kernel)), (List.mem_of_getElem? (i := 1824) (by decide +kernel))⟩
abbrev mX6_round : zM := (yX6_round, cX6_round, 1, (some .int))
theorem vX6_round : zMeV mX6_round 0 := ⟨⟨(List.mem_of_getElem? (i := 1833) (by decide +kernel)), (List.mem_of_getElem? (i := 71) (by decide +kernel)), ⟨by decide +kernel, by decide +kernel⟩, by decide +kernel, by decide⟩, (List.mem_of_getElem? (i := 1831) (by decide +kernel)), (List.mem_of_getElem? (i := 1832) (by decide +kernel))⟩
abbrev mX6_heardTotal : zM := (yX6_heardTotal, cX6_heardTotal, 1, (some .int))
theorem vX6_heardTotal : zMeV mX6_heardTotal 0 := ⟨⟨(List.mem_of_getElem? (i := 1837) (by decide +kernel)), (List.mem_of_getElem? (i := 71) (by decide +kernel)), ⟨by decide +kernel, by decide +kernel⟩, by decide +kernel, by decide⟩, (List.mem_of_getElem? (i := 1835) (by decide +kernel)), (List.mem_of_getElem? (i := 1836) (by decide +kernel))⟩
abbrev mX6_successfulChecks : zM := (yX6_successfulChecks, cX6_successfulChecks, 1, (some .int))
theorem vX6_successfulChecks : zMeV mX6_successfulChecks 0 := ⟨⟨(List.mem_of_getElem? (i := 1841) (by decide +kernel)), (List.mem_of_getElem? (i := 71) (by decide +kernel)), ⟨by decide +kernel, by decide +kernel⟩, by decide +kernel, by decide⟩, (List.mem_of_getElem? (i := 1839) (by decide +kernel)), (List.mem_of_getElem? (i := 1840) (by decide +kernel))⟩
abbrev mX6_meanDoubt : zM := (yX6_meanDoubt, cX6_meanDoubt, 3, (some .double))
theorem vX6_meanDoubt : zMeV mX6_meanDoubt 0 := ⟨⟨(List.mem_of_getElem? (i := 1845) (by decide +kernel)), (List.mem_of_getElem? (i := 71) (by decide +kernel)), ⟨by decide +kernel, by decide +kernel⟩, by decide +kernel, by decide⟩, (List.mem_of_getElem? (i := 1843) (by decide +kernel)), (List.mem_of_getElem? (i := 1844) (by decide +kernel))⟩
abbrev mX6_gossipShare : zM := (yX6_gossipShare, cX6_gossipShare, 3, (some .float))
theorem vX6_gossipShare : zMeV mX6_gossipShare 0 := ⟨⟨(List.mem_of_getElem? (i := 1849) (by decide +kernel)), (List.mem_of_getElem? (i := 71) (by decide +kernel)), ⟨by decide +kernel, by decide +kernel⟩, by decide +kernel, by decide⟩, (List.mem_of_getElem? (i := 1847) (by decide +kernel)), (List.mem_of_getElem? (i := 1848) (by decide +kernel))⟩
abbrev mX6_isConsistent : zM := (yX6_isConsistent, cX6_isConsistent, 3, (some .boolean))
theorem vX6_isConsistent : zMeV mX6_isConsistent 0 := ⟨⟨(List.mem_of_getElem? (i := 1853) (by decide +kernel)), (List.mem_of_getElem? (i := 71) (by decide +kernel)), ⟨by decide +kernel, by decide +kernel⟩, by decide +kernel, by decide⟩, (List.mem_of_getElem? (i := 1851) (by decide +kernel)), (List.mem_of_getElem? (i := 1852) (by decide +kernel))⟩
abbrev mX6_writes : zM := (yX6_writes, cX6_writes, 2, none)
theorem vX6_writes : zMeV mX6_writes 1 := ⟨⟨(List.mem_of_getElem? (i := 1861) (by decide +kernel)), (List.mem_of_getElem? (i := 71) (by decide +kernel)), ⟨by decide +kernel, by decide +kernel⟩, by decide +kernel, by decide⟩, (List.mem_of_getElem? (i := 1860) (by decide +kernel)), (List.mem_of_getElem? (i := 50) (by decide +kernel))⟩
abbrev mX6_writesNumber : zM := (yX6_writesNumber, cX6_writesNumber, 3, none)
theorem vX6_writesNumber : zMeV mX6_writesNumber 1 := ⟨⟨(List.mem_of_getElem? (i := 1865) (by decide +kernel)), (List.mem_of_getElem? (i := 71) (by decide +kernel)), ⟨by decide +kernel, by decide +kernel⟩, by decide +kernel, by decide⟩, (List.mem_of_getElem? (i := 1864) (by decide +kernel)), (List.mem_of_getElem? (i := 51) (by decide +kernel))⟩
abbrev mX6_renderRumour : zM := (yX6_renderRumour, cX6_renderRumour, 3, (some .int))
theorem vX6_renderRumour : zMeV mX6_renderRumour 1 := ⟨⟨(List.mem_of_getElem? (i := 1857) (by decide +kernel)), (List.mem_of_getElem? (i := 71) (by decide +kernel)), ⟨by decide +kernel, by decide +kernel⟩, by decide +kernel, by decide⟩, (List.mem_of_getElem? (i := 1855) (by decide +kernel)), (List.mem_of_getElem? (i := 1856) (by decide +kernel))⟩
abbrev mX6_renderHive : zM := (yX6_renderHive, cX6_renderHive, 3, (some .int))
theorem vX6_renderHive : zMeV mX6_renderHive 1 := ⟨⟨(List.mem_of_getElem? (i := 1869) (by decide +kernel)), (List.mem_of_getElem? (i := 71) (by decide +kernel)), ⟨by decide +kernel, by decide +kernel⟩, by decide +kernel, by decide⟩, (List.mem_of_getElem? (i := 1867) (by decide +kernel)), (List.mem_of_getElem? (i := 1868) (by decide +kernel))⟩
abbrev mX6_outputAt : zM := (yX6_outputAt, cX6_outputAt, 2, (some .char))
theorem vX6_outputAt : zMeV mX6_outputAt 1 := ⟨⟨(List.mem_of_getElem? (i := 1873) (by decide +kernel)), (List.mem_of_getElem? (i := 71) (by decide +kernel)), ⟨by decide +kernel, by decide +kernel⟩, by decide +kernel, by decide⟩, (List.mem_of_getElem? (i := 1871) (by decide +kernel)), (List.mem_of_getElem? (i := 1872) (by decide +kernel))⟩
abbrev mX6_type : zM := (yX6_type, cX6_type, 2, (some .int))
theorem vX6_type : zMeV mX6_type 1 := ⟨⟨(List.mem_of_getElem? (i := 1877) (by decide +kernel)), (List.mem_of_getElem? (i := 71) (by decide +kernel)), ⟨by decide +kernel, by decide +kernel⟩, by decide +kernel, by decide⟩, (List.mem_of_getElem? (i := 1875) (by decide +kernel)), (List.mem_of_getElem? (i := 1876) (by decide +kernel))⟩
abbrev mX6_sign : zM := (yX6_sign, cX6_sign, 1, (some .int))
theorem vX6_sign : zMeV mX6_sign 0 := ⟨⟨(List.mem_of_getElem? (i := 1897) (by decide +kernel)), (List.mem_of_getElem? (i := 71) (by decide +kernel)), ⟨by decide +kernel, by decide +kernel⟩, by decide +kernel, by decide⟩, (List.mem_of_getElem? (i := 1896) (by decide +kernel)), (List.mem_of_getElem? (i := 55) (by decide +kernel))⟩
abbrev mX6_mark : zM := (yX6_mark, cX6_mark, 2, none)
theorem vX6_mark : zMeV mX6_mark 1 := ⟨⟨(List.mem_of_getElem? (i := 1905) (by decide +kernel)), (List.mem_of_getElem? (i := 71) (by decide +kernel)), ⟨by decide +kernel, by decide +kernel⟩, by decide +kernel, by decide⟩, (List.mem_of_getElem? (i := 1904) (by decide +kernel)), (List.mem_of_getElem? (i := 57) (by decide +kernel))⟩
abbrev mX6_digits : zM := (yX6_digits, cX6_digits, 4, (some .int))
theorem vX6_digits : zMeV mX6_digits 1 := ⟨⟨(List.mem_of_getElem? (i := 1909) (by decide +kernel)), (List.mem_of_getElem? (i := 71) (by decide +kernel)), ⟨by decide +kernel, by decide +kernel⟩, by decide +kernel, by decide⟩, (List.mem_of_getElem? (i := 1908) (by decide +kernel)), (List.mem_of_getElem? (i := 58) (by decide +kernel))⟩
abbrev mX6_behind : zM := (yX6_behind, cX6_behind, 2, (some .int))
theorem vX6_behind : zMeV mX6_behind 1 := ⟨⟨(List.mem_of_getElem? (i := 1901) (by decide +kernel)), (List.mem_of_getElem? (i := 71) (by decide +kernel)), ⟨by decide +kernel, by decide +kernel⟩, by decide +kernel, by decide⟩, (List.mem_of_getElem? (i := 1900) (by decide +kernel)), (List.mem_of_getElem? (i := 56) (by decide +kernel))⟩
abbrev mX6_word : zM := (yX6_word, cX6_word, 5, (some .int))
theorem vX6_word : zMeV mX6_word 0 := ⟨⟨(List.mem_of_getElem? (i := 1893) (by decide +kernel)), (List.mem_of_getElem? (i := 71) (by decide +kernel)), ⟨by decide +kernel, by decide +kernel⟩, by decide +kernel, by decide⟩, (List.mem_of_getElem? (i := 1892) (by decide +kernel)), (List.mem_of_getElem? (i := 54) (by decide +kernel))⟩
abbrev mX6_does : zM := (yX6_does, cX6_does, 4, (some .int))
theorem vX6_does : zMeV mX6_does 3 := ⟨⟨(List.mem_of_getElem? (i := 1913) (by decide +kernel)), (List.mem_of_getElem? (i := 71) (by decide +kernel)), ⟨by decide +kernel, by decide +kernel⟩, by decide +kernel, by decide⟩, (List.mem_of_getElem? (i := 1912) (by decide +kernel)), (List.mem_of_getElem? (i := 59) (by decide +kernel))⟩
abbrev mX6_command : zM := (yX6_command, cX6_command, 5, none)
theorem vX6_command : zMeV mX6_command 0 := ⟨⟨(List.mem_of_getElem? (i := 1889) (by decide +kernel)), (List.mem_of_getElem? (i := 71) (by decide +kernel)), ⟨by decide +kernel, by decide +kernel⟩, by decide +kernel, by decide⟩, (List.mem_of_getElem? (i := 1888) (by decide +kernel)), (List.mem_of_getElem? (i := 53) (by decide +kernel))⟩
abbrev mX6_commands : zM := (yX6_commands, cX6_commands, 2, (some .int))
theorem vX6_commands : zMeV mX6_commands 0 := ⟨⟨(List.mem_of_getElem? (i := 1885) (by decide +kernel)), (List.mem_of_getElem? (i := 71) (by decide +kernel)), ⟨by decide +kernel, by decide +kernel⟩, by decide +kernel, by decide⟩, (List.mem_of_getElem? (i := 1884) (by decide +kernel)), (List.mem_of_getElem? (i := 52) (by decide +kernel))⟩
abbrev mX6_runScript : zM := (yX6_runScript, cX6_runScript, 2, (some .int))
theorem vX6_runScript : zMeV mX6_runScript 0 := ⟨⟨(List.mem_of_getElem? (i := 1881) (by decide +kernel)), (List.mem_of_getElem? (i := 71) (by decide +kernel)), ⟨by decide +kernel, by decide +kernel⟩, by decide +kernel, by decide⟩, (List.mem_of_getElem? (i := 1879) (by decide +kernel)), (List.mem_of_getElem? (i := 1880) (by decide +kernel))⟩
abbrev mX6_errorPosition : zM := (yX6_errorPosition, cX6_errorPosition, 1, (some .int))
theorem vX6_errorPosition : zMeV mX6_errorPosition 0 := ⟨⟨(List.mem_of_getElem? (i := 1917) (by decide +kernel)), (List.mem_of_getElem? (i := 71) (by decide +kernel)), ⟨by decide +kernel, by decide +kernel⟩, by decide +kernel, by decide⟩, (List.mem_of_getElem? (i := 1915) (by decide +kernel)), (List.mem_of_getElem? (i := 1916) (by decide +kernel))⟩
abbrev mX6_failedCommand : zM := (yX6_failedCommand, cX6_failedCommand, 1, (some .int))
theorem vX6_failedCommand : zMeV mX6_failedCommand 0 := ⟨⟨(List.mem_of_getElem? (i := 1921) (by decide +kernel)), (List.mem_of_getElem? (i := 71) (by decide +kernel)), ⟨by decide +kernel, by decide +kernel⟩, by decide +kernel, by decide⟩, (List.mem_of_getElem? (i := 1919) (by decide +kernel)), (List.mem_of_getElem? (i := 1920) (by decide +kernel))⟩
abbrev mX6_undo : zM := (yX6_undo, cX6_undo, 2, (some .int))
theorem vX6_undo : zMeV mX6_undo 0 := ⟨⟨(List.mem_of_getElem? (i := 1925) (by decide +kernel)), (List.mem_of_getElem? (i := 71) (by decide +kernel)), ⟨by decide +kernel, by decide +kernel⟩, by decide +kernel, by decide⟩, (List.mem_of_getElem? (i := 1923) (by decide +kernel)), (List.mem_of_getElem? (i := 1924) (by decide +kernel))⟩
abbrev mX6_save : zM := (yX6_save, cX6_save, 1, (some .int))
theorem vX6_save : zMeV mX6_save 0 := ⟨⟨(List.mem_of_getElem? (i := 1929) (by decide +kernel)), (List.mem_of_getElem? (i := 71) (by decide +kernel)), ⟨by decide +kernel, by decide +kernel⟩, by decide +kernel, by decide⟩, (List.mem_of_getElem? (i := 1927) (by decide +kernel)), (List.mem_of_getElem? (i := 1928) (by decide +kernel))⟩
abbrev mX6_restore : zM := (yX6_restore, cX6_restore, 1, (some .int))
theorem vX6_restore : zMeV mX6_restore 0 := ⟨⟨(List.mem_of_getElem? (i := 1933) (by decide +kernel)), (List.mem_of_getElem? (i := 71) (by decide +kernel)), ⟨by decide +kernel, by decide +kernel⟩, by decide +kernel, by decide⟩, (List.mem_of_getElem? (i := 1931) (by decide +kernel)), (List.mem_of_getElem? (i := 1932) (by decide +kernel))⟩
theorem kX6_76 : Cond.methodLink RX6 76 yX6_begins ∈ lw_tbl := (List.mem_of_getElem? (i := 1563) (by decide +kernel))
theorem lX6_76 : zLk RX6 76 yX6_begins := .inl kX6_76
theorem kX6_50 : Cond.methodLink RX6 50 yX6_lays ∈ lw_tbl := (List.mem_of_getElem? (i := 1567) (by decide +kernel))
theorem lX6_50 : zLk RX6 50 yX6_lays := .inl kX6_50
theorem kX6_79 : Cond.methodLink RX6 79 yX6_adds ∈ lw_tbl := (List.mem_of_getElem? (i := 1570) (by decide +kernel))
theorem lX6_79 : zLk RX6 79 yX6_adds := .inl kX6_79
theorem kX6_65 : Cond.methodLink RX6 65 yX6_isHive ∈ lw_tbl := (List.mem_of_getElem? (i := 1574) (by decide +kernel))
theorem lX6_65 : zLk RX6 65 yX6_isHive := .inl kX6_65
theorem kX6_57 : Cond.methodLink RX6 57 yX6_isIn ∈ lw_tbl := (List.mem_of_getElem? (i := 1577) (by decide +kernel))
theorem lX6_57 : zLk RX6 57 yX6_isIn := .inl kX6_57
theorem kX6_69 : Cond.methodLink RX6 69 yX6_isDigit ∈ lw_tbl := (List.mem_of_getElem? (i := 1580) (by decide +kernel))
theorem lX6_69 : zLk RX6 69 yX6_isDigit := .inl kX6_69
theorem kX6_72 : Cond.methodLink RX6 72 yX6_fail ∈ lw_tbl := (List.mem_of_getElem? (i := 1583) (by decide +kernel))
theorem lX6_72 : zLk RX6 72 yX6_fail := .inl kX6_72
theorem kX6_82 : Cond.methodLink RX6 82 yX6_ends ∈ lw_tbl := (List.mem_of_getElem? (i := 1587) (by decide +kernel))
theorem lX6_82 : zLk RX6 82 yX6_ends := .inl kX6_82
theorem kX6_103 : Cond.methodLink RX6 103 yX6_joins ∈ lw_tbl := (List.mem_of_getElem? (i := 1595) (by decide +kernel))
theorem lX6_103 : zLk RX6 103 yX6_joins := .inl kX6_103
theorem kX6_88 : Cond.methodLink RX6 88 yX6_isEar ∈ lw_tbl := (List.mem_of_getElem? (i := 1599) (by decide +kernel))
theorem lX6_88 : zLk RX6 88 yX6_isEar := .inl kX6_88
theorem kX6_91 : Cond.methodLink RX6 91 yX6_has ∈ lw_tbl := (List.mem_of_getElem? (i := 1603) (by decide +kernel))
theorem lX6_91 : zLk RX6 91 yX6_has := .inl kX6_91
theorem kX6_95 : Cond.methodLink RX6 95 yX6_turnsLink ∈ lw_tbl := (List.mem_of_getElem? (i := 1606) (by decide +kernel))
theorem lX6_95 : zLk RX6 95 yX6_turnsLink := .inl kX6_95
theorem kX6_99 : Cond.methodLink RX6 99 yX6_links ∈ lw_tbl := (List.mem_of_getElem? (i := 1610) (by decide +kernel))
theorem lX6_99 : zLk RX6 99 yX6_links := .inl kX6_99
theorem kX6_85 : Cond.methodLink RX6 85 yX6_bits ∈ lw_tbl := (List.mem_of_getElem? (i := 1614) (by decide +kernel))
theorem lX6_85 : zLk RX6 85 yX6_bits := .inl kX6_85
theorem kX6_106 : Cond.methodLink RX6 106 yX6_cuts ∈ lw_tbl := (List.mem_of_getElem? (i := 1621) (by decide +kernel))
theorem lX6_106 : zLk RX6 106 yX6_cuts := .inl kX6_106
theorem kX6_109 : Cond.methodLink RX6 109 yX6_moves ∈ lw_tbl := (List.mem_of_getElem? (i := 1629) (by decide +kernel))
theorem lX6_109 : zLk RX6 109 yX6_moves := .inl kX6_109
theorem kX6_112 : Cond.methodLink RX6 112 yX6_starts ∈ lw_tbl := (List.mem_of_getElem? (i := 1637) (by decide +kernel))
theorem lX6_112 : zLk RX6 112 yX6_starts := .inl kX6_112
theorem kX6_61 : Cond.methodLink RX6 61 yX6_of ∈ lw_tbl := (List.mem_of_getElem? (i := 1641) (by decide +kernel))
theorem lX6_61 : zLk RX6 61 yX6_of := .inl kX6_61
theorem kX6_118 : Cond.methodLink RX6 118 yX6_checks ∈ lw_tbl := (List.mem_of_getElem? (i := 1648) (by decide +kernel))
theorem lX6_118 : zLk RX6 118 yX6_checks := .inl kX6_118
theorem kX6_115 : Cond.methodLink RX6 115 yX6_isRumour ∈ lw_tbl := (List.mem_of_getElem? (i := 1652) (by decide +kernel))
theorem lX6_115 : zLk RX6 115 yX6_isRumour := .inl kX6_115
theorem kX6_121 : Cond.methodLink RX6 121 yX6_denies ∈ lw_tbl := (List.mem_of_getElem? (i := 1660) (by decide +kernel))
theorem lX6_121 : zLk RX6 121 yX6_denies := .inl kX6_121
theorem kX6_124 : Cond.methodLink RX6 124 yX6_answers ∈ lw_tbl := (List.mem_of_getElem? (i := 1668) (by decide +kernel))
theorem lX6_124 : zLk RX6 124 yX6_answers := .inl kX6_124
theorem kX6_142 : Cond.methodLink RX6 142 yX6_passes ∈ lw_tbl := (List.mem_of_getElem? (i := 1676) (by decide +kernel))
theorem lX6_142 : zLk RX6 142 yX6_passes := .inl kX6_142
theorem kX6_139 : Cond.methodLink RX6 139 yX6_rounds ∈ lw_tbl := (List.mem_of_getElem? (i := 1680) (by decide +kernel))
theorem lX6_139 : zLk RX6 139 yX6_rounds := .inl kX6_139
theorem kX6_136 : Cond.methodLink RX6 136 yX6_spreads ∈ lw_tbl := (List.mem_of_getElem? (i := 1684) (by decide +kernel))
theorem lX6_136 : zLk RX6 136 yX6_spreads := .inl kX6_136
theorem kX6_130 : Cond.methodLink RX6 130 yX6_hears ∈ lw_tbl := (List.mem_of_getElem? (i := 1688) (by decide +kernel))
theorem lX6_130 : zLk RX6 130 yX6_hears := .inl kX6_130
theorem kX6_127 : Cond.methodLink RX6 127 yX6_aware ∈ lw_tbl := (List.mem_of_getElem? (i := 1692) (by decide +kernel))
theorem lX6_127 : zLk RX6 127 yX6_aware := .inl kX6_127
theorem kX6_133 : Cond.methodLink RX6 133 yX6_believes ∈ lw_tbl := (List.mem_of_getElem? (i := 1696) (by decide +kernel))
theorem lX6_133 : zLk RX6 133 yX6_believes := .inl kX6_133
theorem kX6_145 : Cond.methodLink RX6 145 yX6_reached ∈ lw_tbl := (List.mem_of_getElem? (i := 1732) (by decide +kernel))
theorem lX6_145 : zLk RX6 145 yX6_reached := .inl kX6_145
theorem kX6_148 : Cond.methodLink RX6 148 yX6_componentCount ∈ lw_tbl := (List.mem_of_getElem? (i := 1740) (by decide +kernel))
theorem lX6_148 : zLk RX6 148 yX6_componentCount := .inl kX6_148
theorem kX6_151 : Cond.methodLink RX6 151 yX6_tells ∈ lw_tbl := (List.mem_of_getElem? (i := 1749) (by decide +kernel))
theorem lX6_151 : zLk RX6 151 yX6_tells := .inl kX6_151
theorem kX6_154 : Cond.methodLink RX6 154 yX6_isOf ∈ lw_tbl := (List.mem_of_getElem? (i := 1765) (by decide +kernel))
theorem lX6_154 : zLk RX6 154 yX6_isOf := .inl kX6_154
theorem kX6_157 : Cond.methodLink RX6 157 yX6_inHive ∈ lw_tbl := (List.mem_of_getElem? (i := 1789) (by decide +kernel))
theorem lX6_157 : zLk RX6 157 yX6_inHive := .inl kX6_157
theorem kX6_160 : Cond.methodLink RX6 160 yX6_distance ∈ lw_tbl := (List.mem_of_getElem? (i := 1805) (by decide +kernel))
theorem lX6_160 : zLk RX6 160 yX6_distance := .inl kX6_160
theorem kX6_163 : Cond.methodLink RX6 163 yX6_gossip ∈ lw_tbl := (List.mem_of_getElem? (i := 1826) (by decide +kernel))
theorem lX6_163 : zLk RX6 163 yX6_gossip := .inl kX6_163
theorem kX6_169 : Cond.methodLink RX6 169 yX6_writes ∈ lw_tbl := (List.mem_of_getElem? (i := 1858) (by decide +kernel))
theorem lX6_169 : zLk RX6 169 yX6_writes := .inl kX6_169
theorem kX6_173 : Cond.methodLink RX6 173 yX6_writesNumber ∈ lw_tbl := (List.mem_of_getElem? (i := 1862) (by decide +kernel))
theorem lX6_173 : zLk RX6 173 yX6_writesNumber := .inl kX6_173
theorem kX6_214 : Cond.methodLink RX6 214 yX6_commands ∈ lw_tbl := (List.mem_of_getElem? (i := 1882) (by decide +kernel))
theorem lX6_214 : zLk RX6 214 yX6_commands := .inl kX6_214
theorem kX6_211 : Cond.methodLink RX6 211 yX6_command ∈ lw_tbl := (List.mem_of_getElem? (i := 1886) (by decide +kernel))
theorem lX6_211 : zLk RX6 211 yX6_command := .inl kX6_211
theorem kX6_198 : Cond.methodLink RX6 198 yX6_word ∈ lw_tbl := (List.mem_of_getElem? (i := 1890) (by decide +kernel))
theorem lX6_198 : zLk RX6 198 yX6_word := .inl kX6_198
theorem kX6_189 : Cond.methodLink RX6 189 yX6_sign ∈ lw_tbl := (List.mem_of_getElem? (i := 1894) (by decide +kernel))
theorem lX6_189 : zLk RX6 189 yX6_sign := .inl kX6_189
theorem kX6_201 : Cond.methodLink RX6 201 yX6_behind ∈ lw_tbl := (List.mem_of_getElem? (i := 1898) (by decide +kernel))
theorem lX6_201 : zLk RX6 201 yX6_behind := .inl kX6_201
theorem kX6_192 : Cond.methodLink RX6 192 yX6_mark ∈ lw_tbl := (List.mem_of_getElem? (i := 1902) (by decide +kernel))
theorem lX6_192 : zLk RX6 192 yX6_mark := .inl kX6_192
theorem kX6_195 : Cond.methodLink RX6 195 yX6_digits ∈ lw_tbl := (List.mem_of_getElem? (i := 1906) (by decide +kernel))
theorem lX6_195 : zLk RX6 195 yX6_digits := .inl kX6_195
theorem kX6_207 : Cond.methodLink RX6 207 yX6_does ∈ lw_tbl := (List.mem_of_getElem? (i := 1910) (by decide +kernel))
theorem lX6_207 : zLk RX6 207 yX6_does := .inl kX6_207
theorem fX6_47 : zFld RX6 47 10 0 := ⟨zck10, by decide, .inl (List.mem_of_getElem? (i := 1491) (by decide +kernel))⟩
theorem fX6_54 : zFld RX6 54 10 1 := ⟨zck10, by decide, .inl (List.mem_of_getElem? (i := 1492) (by decide +kernel))⟩
theorem fX6_7 : zFld RX6 7 10 2 := ⟨zck10, by decide, .inl (List.mem_of_getElem? (i := 1493) (by decide +kernel))⟩
theorem fX6_13 : zFld RX6 13 10 3 := ⟨zck10, by decide, .inl (List.mem_of_getElem? (i := 1494) (by decide +kernel))⟩
theorem fX6_217 : zFld RX6 217 10 4 := ⟨zck10, by decide, .inl (List.mem_of_getElem? (i := 1495) (by decide +kernel))⟩
theorem fX6_16 : zFld RX6 16 10 5 := ⟨zck10, by decide, .inl (List.mem_of_getElem? (i := 1496) (by decide +kernel))⟩
theorem fX6_20 : zFld RX6 20 10 6 := ⟨zck10, by decide, .inl (List.mem_of_getElem? (i := 1497) (by decide +kernel))⟩
theorem fX6_23 : zFld RX6 23 10 7 := ⟨zck10, by decide, .inl (List.mem_of_getElem? (i := 1498) (by decide +kernel))⟩
theorem fX6_26 : zFld RX6 26 10 8 := ⟨zck10, by decide, .inl (List.mem_of_getElem? (i := 1499) (by decide +kernel))⟩
theorem fX6_29 : zFld RX6 29 10 9 := ⟨zck10, by decide, .inl (List.mem_of_getElem? (i := 1500) (by decide +kernel))⟩
theorem fX6_32 : zFld RX6 32 10 10 := ⟨zck10, by decide, .inl (List.mem_of_getElem? (i := 1501) (by decide +kernel))⟩
theorem fX6_35 : zFld RX6 35 10 11 := ⟨zck10, by decide, .inl (List.mem_of_getElem? (i := 1502) (by decide +kernel))⟩
theorem fX6_38 : zFld RX6 38 10 12 := ⟨zck10, by decide, .inl (List.mem_of_getElem? (i := 1503) (by decide +kernel))⟩
theorem fX6_41 : zFld RX6 41 10 13 := ⟨zck10, by decide, .inl (List.mem_of_getElem? (i := 1504) (by decide +kernel))⟩
theorem fX6_44 : zFld RX6 44 10 14 := ⟨zck10, by decide, .inl (List.mem_of_getElem? (i := 1505) (by decide +kernel))⟩
theorem fX6_176 : zFld RX6 176 10 15 := ⟨zck10, by decide, .inl (List.mem_of_getElem? (i := 1506) (by decide +kernel))⟩
theorem fX6_179 : zFld RX6 179 10 16 := ⟨zck10, by decide, .inl (List.mem_of_getElem? (i := 1507) (by decide +kernel))⟩
theorem fX6_182 : zFld RX6 182 10 17 := ⟨zck10, by decide, .inl (List.mem_of_getElem? (i := 1508) (by decide +kernel))⟩
theorem fX6_166 : zFld RX6 166 10 18 := ⟨zck10, by decide, .inl (List.mem_of_getElem? (i := 1509) (by decide +kernel))⟩
theorem fX6_185 : zFld RX6 185 10 19 := ⟨zck10, by decide, .inl (List.mem_of_getElem? (i := 1510) (by decide +kernel))⟩
theorem fX6_204 : zFld RX6 204 10 20 := ⟨zck10, by decide, .inl (List.mem_of_getElem? (i := 1511) (by decide +kernel))⟩
