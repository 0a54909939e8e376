theorem dL_law__1487 : decode cL_law_ 1487 = .ok (.aload_n 1, 1) := by decide +kernel
theorem dL_law__1488 : decode cL_law_ 1488 = .ok (.aload_n 0, 1) := by decide +kernel
theorem dL_law__1489 : decode cL_law_ 1489 = .ok (.iload 4, 2) := by decide +kernel
theorem dL_law__1491 : decode cL_law_ 1491 = .ok (.iconst 1, 1) := by decide +kernel
theorem dL_law__1492 : decode cL_law_ 1492 = .ok (.iadd, 1) := by decide +kernel
theorem dL_law__1493 : decode cL_law_ 1493 = .ok (.iaload, 1) := by decide +kernel
theorem dL_law__1494 : decode cL_law_ 1494 = .ok (.aload_n 0, 1) := by decide +kernel
theorem dL_law__1495 : decode cL_law_ 1495 = .ok (.iload 4, 2) := by decide +kernel
theorem dL_law__1497 : decode cL_law_ 1497 = .ok (.iconst 2, 1) := by decide +kernel
theorem dL_law__1498 : decode cL_law_ 1498 = .ok (.iadd, 1) := by decide +kernel
theorem dL_law__1499 : decode cL_law_ 1499 = .ok (.iaload, 1) := by decide +kernel
theorem dL_law__1500 : decode cL_law_ 1500 = .ok (.ifCond .eq 7, 3) := by decide +kernel
theorem dL_law__1507 : decode cL_law_ 1507 = .ok (.iconst 0, 1) := by decide +kernel
theorem dL_law__1508 : decode cL_law_ 1508 = .ok (.aload_n 3, 1) := by decide +kernel
theorem dL_law__1509 : decode cL_law_ 1509 = .ok (.invokestatic 270, 3) := by decide +kernel
theorem wi_1221 : Cond.codeWith yL_trial cL_trial 5 (some .int) [(0, 10, 13, 13)] ∈ WA := zin 1221 (by decide +kernel) (by decide +kernel)
theorem wi_1219 : Cond.methodLink RL 270 yL_trial ∈ WA := zin 1219 (by decide +kernel) (by decide +kernel)
theorem wi_1220 : Cond.static yL_trial ∈ WA := zin 1220 (by decide +kernel) (by decide +kernel)
theorem mw_L_270 : zMw RL 270 mL_trial [(0, 10, 13, 13)] 4 := ⟨wi_1219, wi_99, wi_1221, by decide, by decide +kernel, wi_1220⟩
theorem dL_law__1512 : decode cL_law_ 1512 = .ok (.istore 5, 2) := by decide +kernel
theorem dL_law__1514 : decode cL_law_ 1514 = .ok (.aload_n 2, 1) := by decide +kernel
theorem dL_law__1515 : decode cL_law_ 1515 = .ok (.aload_n 0, 1) := by decide +kernel
theorem dL_law__1516 : decode cL_law_ 1516 = .ok (.iload 4, 2) := by decide +kernel
theorem dL_law__1518 : decode cL_law_ 1518 = .ok (.iconst 1, 1) := by decide +kernel
theorem dL_law__1519 : decode cL_law_ 1519 = .ok (.iadd, 1) := by decide +kernel
theorem dL_law__1520 : decode cL_law_ 1520 = .ok (.iaload, 1) := by decide +kernel
theorem dL_law__1521 : decode cL_law_ 1521 = .ok (.aload_n 0, 1) := by decide +kernel
theorem dL_law__1522 : decode cL_law_ 1522 = .ok (.iload 4, 2) := by decide +kernel
theorem dL_law__1524 : decode cL_law_ 1524 = .ok (.iconst 2, 1) := by decide +kernel
theorem dL_law__1525 : decode cL_law_ 1525 = .ok (.iadd, 1) := by decide +kernel
theorem dL_law__1526 : decode cL_law_ 1526 = .ok (.iaload, 1) := by decide +kernel
theorem dL_law__1527 : decode cL_law_ 1527 = .ok (.ifCond .eq 7, 3) := by decide +kernel
theorem dL_law__1534 : decode cL_law_ 1534 = .ok (.iconst 0, 1) := by decide +kernel
theorem dL_law__1535 : decode cL_law_ 1535 = .ok (.invokevirtual 272, 3) := by decide +kernel
theorem wi_1900 : Cond.methodLink RL 272 yX10_trial ∈ WA := zin 1900 (by decide +kernel) (by decide +kernel)
theorem wi_1903 : Cond.code yX10_trial cX10_trial 4 (some .int) ∈ WA := zin 1903 (by decide +kernel) (by decide +kernel)
theorem wi_1901 : Cond.instanceMethod yX10_trial ∈ WA := zin 1901 (by decide +kernel) (by decide +kernel)
theorem wi_1902 : Cond.selects RX10 yX10_trial yX10_trial ∈ WA := zin 1902 (by decide +kernel) (by decide +kernel)
theorem mv_L_272 : zMv RL 272 RX10 mX10_trial 2 := ⟨⟨wi_1900, wi_110, wi_1903, by decide, by decide +kernel⟩, wi_1901, wi_1902⟩
theorem dL_law__1538 : decode cL_law_ 1538 = .ok (.istore 6, 2) := by decide +kernel
theorem dL_law__1540 : decode cL_law_ 1540 = .ok (.goto 242, 3) := by decide +kernel
theorem dL_law__1530 : decode cL_law_ 1530 = .ok (.iconst 1, 1) := by decide +kernel
theorem dL_law__1531 : decode cL_law_ 1531 = .ok (.goto 4, 3) := by decide +kernel
theorem dL_law__1503 : decode cL_law_ 1503 = .ok (.iconst 1, 1) := by decide +kernel
theorem dL_law__1504 : decode cL_law_ 1504 = .ok (.goto 4, 3) := by decide +kernel
theorem dL_law__1543 : decode cL_law_ 1543 = .ok (.aload_n 1, 1) := by decide +kernel
theorem dL_law__1544 : decode cL_law_ 1544 = .ok (.aload_n 0, 1) := by decide +kernel
theorem dL_law__1545 : decode cL_law_ 1545 = .ok (.iload 4, 2) := by decide +kernel
theorem dL_law__1547 : decode cL_law_ 1547 = .ok (.iconst 1, 1) := by decide +kernel
theorem dL_law__1548 : decode cL_law_ 1548 = .ok (.iadd, 1) := by decide +kernel
theorem dL_law__1549 : decode cL_law_ 1549 = .ok (.iaload, 1) := by decide +kernel
theorem dL_law__1550 : decode cL_law_ 1550 = .ok (.aload_n 0, 1) := by decide +kernel
theorem dL_law__1551 : decode cL_law_ 1551 = .ok (.iload 4, 2) := by decide +kernel
theorem dL_law__1553 : decode cL_law_ 1553 = .ok (.iconst 2, 1) := by decide +kernel
theorem dL_law__1554 : decode cL_law_ 1554 = .ok (.iadd, 1) := by decide +kernel
theorem dL_law__1555 : decode cL_law_ 1555 = .ok (.iaload, 1) := by decide +kernel
theorem dL_law__1556 : decode cL_law_ 1556 = .ok (.ifCond .eq 7, 3) := by decide +kernel
theorem dL_law__1563 : decode cL_law_ 1563 = .ok (.iconst 0, 1) := by decide +kernel
theorem dL_law__1564 : decode cL_law_ 1564 = .ok (.aload_n 3, 1) := by decide +kernel
theorem dL_law__1565 : decode cL_law_ 1565 = .ok (.invokestatic 273, 3) := by decide +kernel
theorem wi_1232 : Cond.codeWith yL_span cL_span 5 (some .int) [(0, 10, 13, 13)] ∈ WA := zin 1232 (by decide +kernel) (by decide +kernel)
theorem wi_1230 : Cond.methodLink RL 273 yL_span ∈ WA := zin 1230 (by decide +kernel) (by decide +kernel)
theorem wi_1231 : Cond.static yL_span ∈ WA := zin 1231 (by decide +kernel) (by decide +kernel)
theorem mw_L_273 : zMw RL 273 mL_span [(0, 10, 13, 13)] 4 := ⟨wi_1230, wi_99, wi_1232, by decide, by decide +kernel, wi_1231⟩
theorem dL_law__1568 : decode cL_law_ 1568 = .ok (.istore 5, 2) := by decide +kernel
theorem dL_law__1570 : decode cL_law_ 1570 = .ok (.aload_n 2, 1) := by decide +kernel
theorem dL_law__1571 : decode cL_law_ 1571 = .ok (.aload_n 0, 1) := by decide +kernel
theorem dL_law__1572 : decode cL_law_ 1572 = .ok (.iload 4, 2) := by decide +kernel
theorem dL_law__1574 : decode cL_law_ 1574 = .ok (.iconst 1, 1) := by decide +kernel
theorem dL_law__1575 : decode cL_law_ 1575 = .ok (.iadd, 1) := by decide +kernel
theorem dL_law__1576 : decode cL_law_ 1576 = .ok (.iaload, 1) := by decide +kernel
theorem dL_law__1577 : decode cL_law_ 1577 = .ok (.aload_n 0, 1) := by decide +kernel
theorem dL_law__1578 : decode cL_law_ 1578 = .ok (.iload 4, 2) := by decide +kernel
theorem dL_law__1580 : decode cL_law_ 1580 = .ok (.iconst 2, 1) := by decide +kernel
theorem dL_law__1581 : decode cL_law_ 1581 = .ok (.iadd, 1) := by decide +kernel
theorem dL_law__1582 : decode cL_law_ 1582 = .ok (.iaload, 1) := by decide +kernel
theorem dL_law__1583 : decode cL_law_ 1583 = .ok (.ifCond .eq 7, 3) := by decide +kernel
theorem dL_law__1590 : decode cL_law_ 1590 = .ok (.iconst 0, 1) := by decide +kernel
theorem dL_law__1591 : decode cL_law_ 1591 = .ok (.invokevirtual 275, 3) := by decide +kernel
theorem wi_1908 : Cond.methodLink RL 275 yX10_span ∈ WA := zin 1908 (by decide +kernel) (by decide +kernel)
theorem wi_1911 : Cond.code yX10_span cX10_span 6 (some .int) ∈ WA := zin 1911 (by decide +kernel) (by decide +kernel)
theorem wi_1909 : Cond.instanceMethod yX10_span ∈ WA := zin 1909 (by decide +kernel) (by decide +kernel)
theorem wi_1910 : Cond.selects RX10 yX10_span yX10_span ∈ WA := zin 1910 (by decide +kernel) (by decide +kernel)
theorem mv_L_275 : zMv RL 275 RX10 mX10_span 2 := ⟨⟨wi_1908, wi_110, wi_1911, by decide, by decide +kernel⟩, wi_1909, wi_1910⟩
theorem dL_law__1594 : decode cL_law_ 1594 = .ok (.istore 6, 2) := by decide +kernel
theorem dL_law__1596 : decode cL_law_ 1596 = .ok (.goto 186, 3) := by decide +kernel
theorem dL_law__1586 : decode cL_law_ 1586 = .ok (.iconst 1, 1) := by decide +kernel
theorem dL_law__1587 : decode cL_law_ 1587 = .ok (.goto 4, 3) := by decide +kernel
theorem dL_law__1559 : decode cL_law_ 1559 = .ok (.iconst 1, 1) := by decide +kernel
theorem dL_law__1560 : decode cL_law_ 1560 = .ok (.goto 4, 3) := by decide +kernel
theorem dL_law__1599 : decode cL_law_ 1599 = .ok (.aload_n 1, 1) := by decide +kernel
theorem dL_law__1600 : decode cL_law_ 1600 = .ok (.aload_n 0, 1) := by decide +kernel
theorem dL_law__1601 : decode cL_law_ 1601 = .ok (.iload 4, 2) := by decide +kernel
theorem dL_law__1603 : decode cL_law_ 1603 = .ok (.iconst 1, 1) := by decide +kernel
theorem dL_law__1604 : decode cL_law_ 1604 = .ok (.iadd, 1) := by decide +kernel
theorem dL_law__1605 : decode cL_law_ 1605 = .ok (.iaload, 1) := by decide +kernel
theorem dL_law__1606 : decode cL_law_ 1606 = .ok (.aload_n 0, 1) := by decide +kernel
theorem dL_law__1607 : decode cL_law_ 1607 = .ok (.iload 4, 2) := by decide +kernel
theorem dL_law__1609 : decode cL_law_ 1609 = .ok (.iconst 2, 1) := by decide +kernel
theorem dL_law__1610 : decode cL_law_ 1610 = .ok (.iadd, 1) := by decide +kernel
theorem dL_law__1611 : decode cL_law_ 1611 = .ok (.iaload, 1) := by decide +kernel
theorem dL_law__1612 : decode cL_law_ 1612 = .ok (.ifCond .eq 7, 3) := by decide +kernel
theorem dL_law__1619 : decode cL_law_ 1619 = .ok (.iconst 0, 1) := by decide +kernel
theorem dL_law__1620 : decode cL_law_ 1620 = .ok (.aload_n 3, 1) := by decide +kernel
theorem dL_law__1621 : decode cL_law_ 1621 = .ok (.invokestatic 276, 3) := by decide +kernel
theorem wi_1239 : Cond.codeWith yL_led cL_led 5 (some .int) [(0, 10, 13, 24)] ∈ WA := zin 1239 (by decide +kernel) (by decide +kernel)
theorem wi_1237 : Cond.methodLink RL 276 yL_led ∈ WA := zin 1237 (by decide +kernel) (by decide +kernel)
theorem wi_1238 : Cond.static yL_led ∈ WA := zin 1238 (by decide +kernel) (by decide +kernel)
theorem mw_L_276 : zMw RL 276 mL_led [(0, 10, 13, 24)] 4 := ⟨wi_1237, wi_99, wi_1239, by decide, by decide +kernel, wi_1238⟩
theorem dL_law__1624 : decode cL_law_ 1624 = .ok (.istore 5, 2) := by decide +kernel
theorem dL_law__1626 : decode cL_law_ 1626 = .ok (.aload_n 2, 1) := by decide +kernel
theorem dL_law__1627 : decode cL_law_ 1627 = .ok (.aload_n 0, 1) := by decide +kernel
theorem dL_law__1628 : decode cL_law_ 1628 = .ok (.iload 4, 2) := by decide +kernel
theorem dL_law__1630 : decode cL_law_ 1630 = .ok (.iconst 1, 1) := by decide +kernel
theorem dL_law__1631 : decode cL_law_ 1631 = .ok (.iadd, 1) := by decide +kernel
theorem dL_law__1632 : decode cL_law_ 1632 = .ok (.iaload, 1) := by decide +kernel
theorem dL_law__1633 : decode cL_law_ 1633 = .ok (.aload_n 0, 1) := by decide +kernel
theorem dL_law__1634 : decode cL_law_ 1634 = .ok (.iload 4, 2) := by decide +kernel
theorem dL_law__1636 : decode cL_law_ 1636 = .ok (.iconst 2, 1) := by decide +kernel
theorem dL_law__1637 : decode cL_law_ 1637 = .ok (.iadd, 1) := by decide +kernel
theorem dL_law__1638 : decode cL_law_ 1638 = .ok (.iaload, 1) := by decide +kernel
theorem dL_law__1639 : decode cL_law_ 1639 = .ok (.ifCond .eq 7, 3) := by decide +kernel
theorem dL_law__1646 : decode cL_law_ 1646 = .ok (.iconst 0, 1) := by decide +kernel
theorem dL_law__1647 : decode cL_law_ 1647 = .ok (.invokevirtual 278, 3) := by decide +kernel
theorem wi_1912 : Cond.methodLink RL 278 yX10_led ∈ WA := zin 1912 (by decide +kernel) (by decide +kernel)
theorem wi_1915 : Cond.code yX10_led cX10_led 6 (some .int) ∈ WA := zin 1915 (by decide +kernel) (by decide +kernel)
theorem wi_1913 : Cond.instanceMethod yX10_led ∈ WA := zin 1913 (by decide +kernel) (by decide +kernel)
theorem wi_1914 : Cond.selects RX10 yX10_led yX10_led ∈ WA := zin 1914 (by decide +kernel) (by decide +kernel)
theorem mv_L_278 : zMv RL 278 RX10 mX10_led 2 := ⟨⟨wi_1912, wi_110, wi_1915, by decide, by decide +kernel⟩, wi_1913, wi_1914⟩
theorem dL_law__1650 : decode cL_law_ 1650 = .ok (.istore 6, 2) := by decide +kernel
theorem dL_law__1652 : decode cL_law_ 1652 = .ok (.goto 130, 3) := by decide +kernel
theorem dL_law__1642 : decode cL_law_ 1642 = .ok (.iconst 1, 1) := by decide +kernel
theorem dL_law__1643 : decode cL_law_ 1643 = .ok (.goto 4, 3) := by decide +kernel
theorem dL_law__1615 : decode cL_law_ 1615 = .ok (.iconst 1, 1) := by decide +kernel
theorem dL_law__1616 : decode cL_law_ 1616 = .ok (.goto 4, 3) := by decide +kernel
theorem dL_law__1655 : decode cL_law_ 1655 = .ok (.aload_n 1, 1) := by decide +kernel
theorem dL_law__1656 : decode cL_law_ 1656 = .ok (.aload_n 0, 1) := by decide +kernel
theorem dL_law__1657 : decode cL_law_ 1657 = .ok (.iload 4, 2) := by decide +kernel
theorem dL_law__1659 : decode cL_law_ 1659 = .ok (.iconst 1, 1) := by decide +kernel
theorem dL_law__1660 : decode cL_law_ 1660 = .ok (.iadd, 1) := by decide +kernel
theorem dL_law__1661 : decode cL_law_ 1661 = .ok (.iaload, 1) := by decide +kernel
theorem dL_law__1662 : decode cL_law_ 1662 = .ok (.aload_n 0, 1) := by decide +kernel
theorem dL_law__1663 : decode cL_law_ 1663 = .ok (.iload 4, 2) := by decide +kernel
theorem dL_law__1665 : decode cL_law_ 1665 = .ok (.iconst 2, 1) := by decide +kernel
theorem dL_law__1666 : decode cL_law_ 1666 = .ok (.iadd, 1) := by decide +kernel
theorem dL_law__1667 : decode cL_law_ 1667 = .ok (.iaload, 1) := by decide +kernel
theorem dL_law__1668 : decode cL_law_ 1668 = .ok (.aload_n 3, 1) := by decide +kernel
theorem dL_law__1669 : decode cL_law_ 1669 = .ok (.invokestatic 279, 3) := by decide +kernel
theorem wi_1247 : Cond.codeWith yL_log cL_log 5 (some .int) [(0, 10, 13, 26)] ∈ WA := zin 1247 (by decide +kernel) (by decide +kernel)
theorem wi_1245 : Cond.methodLink RL 279 yL_log ∈ WA := zin 1245 (by decide +kernel) (by decide +kernel)
theorem wi_1246 : Cond.static yL_log ∈ WA := zin 1246 (by decide +kernel) (by decide +kernel)
theorem mw_L_279 : zMw RL 279 mL_log [(0, 10, 13, 26)] 4 := ⟨wi_1245, wi_99, wi_1247, by decide, by decide +kernel, wi_1246⟩
theorem dL_law__1672 : decode cL_law_ 1672 = .ok (.istore 5, 2) := by decide +kernel
theorem dL_law__1674 : decode cL_law_ 1674 = .ok (.aload_n 2, 1) := by decide +kernel
theorem dL_law__1675 : decode cL_law_ 1675 = .ok (.aload_n 0, 1) := by decide +kernel
theorem dL_law__1676 : decode cL_law_ 1676 = .ok (.iload 4, 2) := by decide +kernel
theorem dL_law__1678 : decode cL_law_ 1678 = .ok (.iconst 1, 1) := by decide +kernel
theorem dL_law__1679 : decode cL_law_ 1679 = .ok (.iadd, 1) := by decide +kernel
theorem dL_law__1680 : decode cL_law_ 1680 = .ok (.iaload, 1) := by decide +kernel
theorem dL_law__1681 : decode cL_law_ 1681 = .ok (.aload_n 0, 1) := by decide +kernel
theorem dL_law__1682 : decode cL_law_ 1682 = .ok (.iload 4, 2) := by decide +kernel
theorem dL_law__1684 : decode cL_law_ 1684 = .ok (.iconst 2, 1) := by decide +kernel
theorem dL_law__1685 : decode cL_law_ 1685 = .ok (.iadd, 1) := by decide +kernel
theorem dL_law__1686 : decode cL_law_ 1686 = .ok (.iaload, 1) := by decide +kernel
theorem dL_law__1687 : decode cL_law_ 1687 = .ok (.invokevirtual 281, 3) := by decide +kernel
theorem wi_1916 : Cond.methodLink RL 281 yX10_log ∈ WA := zin 1916 (by decide +kernel) (by decide +kernel)
theorem wi_1919 : Cond.code yX10_log cX10_log 3 (some .int) ∈ WA := zin 1919 (by decide +kernel) (by decide +kernel)
theorem wi_1917 : Cond.instanceMethod yX10_log ∈ WA := zin 1917 (by decide +kernel) (by decide +kernel)
theorem wi_1918 : Cond.selects RX10 yX10_log yX10_log ∈ WA := zin 1918 (by decide +kernel) (by decide +kernel)
theorem mv_L_281 : zMv RL 281 RX10 mX10_log 2 := ⟨⟨wi_1916, wi_110, wi_1919, by decide, by decide +kernel⟩, wi_1917, wi_1918⟩
theorem dL_law__1690 : decode cL_law_ 1690 = .ok (.istore 6, 2) := by decide +kernel
theorem dL_law__1692 : decode cL_law_ 1692 = .ok (.goto 90, 3) := by decide +kernel
theorem dL_law__1695 : decode cL_law_ 1695 = .ok (.aload_n 1, 1) := by decide +kernel
theorem dL_law__1696 : decode cL_law_ 1696 = .ok (.aload_n 0, 1) := by decide +kernel
theorem dL_law__1697 : decode cL_law_ 1697 = .ok (.iload 4, 2) := by decide +kernel
theorem dL_law__1699 : decode cL_law_ 1699 = .ok (.iconst 1, 1) := by decide +kernel
theorem dL_law__1700 : decode cL_law_ 1700 = .ok (.iadd, 1) := by decide +kernel
theorem dL_law__1701 : decode cL_law_ 1701 = .ok (.iaload, 1) := by decide +kernel
theorem dL_law__1702 : decode cL_law_ 1702 = .ok (.invokevirtual 282, 3) := by decide +kernel
theorem wi_490 : Cond.methodLink RL 282 yX9_seed ∈ WA := zin 490 (by decide +kernel) (by decide +kernel)
theorem wi_493 : Cond.code yX9_seed cX9_seed 3 (some .int) ∈ WA := zin 493 (by decide +kernel) (by decide +kernel)
theorem wi_491 : Cond.instanceMethod yX9_seed ∈ WA := zin 491 (by decide +kernel) (by decide +kernel)
theorem wi_492 : Cond.selects RX9 yX9_seed yX9_seed ∈ WA := zin 492 (by decide +kernel) (by decide +kernel)
theorem mv_L_282 : zMv RL 282 RX9 mX9_seed 1 := ⟨⟨wi_490, wi_100, wi_493, by decide, by decide +kernel⟩, wi_491, wi_492⟩
theorem dL_law__1705 : decode cL_law_ 1705 = .ok (.pop, 1) := by decide +kernel
theorem dL_law__1706 : decode cL_law_ 1706 = .ok (.aload_n 2, 1) := by decide +kernel
theorem dL_law__1707 : decode cL_law_ 1707 = .ok (.aload_n 0, 1) := by decide +kernel
theorem dL_law__1708 : decode cL_law_ 1708 = .ok (.iload 4, 2) := by decide +kernel
theorem dL_law__1710 : decode cL_law_ 1710 = .ok (.iconst 1, 1) := by decide +kernel
theorem dL_law__1711 : decode cL_law_ 1711 = .ok (.iadd, 1) := by decide +kernel
theorem dL_law__1712 : decode cL_law_ 1712 = .ok (.iaload, 1) := by decide +kernel
theorem dL_law__1713 : decode cL_law_ 1713 = .ok (.invokevirtual 285, 3) := by decide +kernel
theorem wi_1920 : Cond.methodLink RL 285 yX10_seed ∈ WA := zin 1920 (by decide +kernel) (by decide +kernel)
theorem wi_1923 : Cond.code yX10_seed cX10_seed 3 (some .int) ∈ WA := zin 1923 (by decide +kernel) (by decide +kernel)
theorem wi_1921 : Cond.instanceMethod yX10_seed ∈ WA := zin 1921 (by decide +kernel) (by decide +kernel)
theorem wi_1922 : Cond.selects RX10 yX10_seed yX10_seed ∈ WA := zin 1922 (by decide +kernel) (by decide +kernel)
theorem mv_L_285 : zMv RL 285 RX10 mX10_seed 1 := ⟨⟨wi_1920, wi_110, wi_1923, by decide, by decide +kernel⟩, wi_1921, wi_1922⟩
theorem dL_law__1716 : decode cL_law_ 1716 = .ok (.pop, 1) := by decide +kernel
theorem dL_law__1717 : decode cL_law_ 1717 = .ok (.goto 65, 3) := by decide +kernel
theorem dL_law__1720 : decode cL_law_ 1720 = .ok (.aload_n 1, 1) := by decide +kernel
theorem dL_law__1721 : decode cL_law_ 1721 = .ok (.invokevirtual 286, 3) := by decide +kernel
theorem wi_494 : Cond.methodLink RL 286 yX9_undo ∈ WA := zin 494 (by decide +kernel) (by decide +kernel)
theorem wi_497 : Cond.code yX9_undo cX9_undo 1 (some .boolean) ∈ WA := zin 497 (by decide +kernel) (by decide +kernel)
theorem wi_495 : Cond.instanceMethod yX9_undo ∈ WA := zin 495 (by decide +kernel) (by decide +kernel)
theorem wi_496 : Cond.selects RX9 yX9_undo yX9_undo ∈ WA := zin 496 (by decide +kernel) (by decide +kernel)
theorem mv_L_286 : zMv RL 286 RX9 mX9_undo 0 := ⟨⟨wi_494, wi_100, wi_497, by decide, by decide +kernel⟩, wi_495, wi_496⟩
theorem dL_law__1724 : decode cL_law_ 1724 = .ok (.pop, 1) := by decide +kernel
theorem dL_law__1725 : decode cL_law_ 1725 = .ok (.aload_n 2, 1) := by decide +kernel
theorem dL_law__1726 : decode cL_law_ 1726 = .ok (.invokevirtual 290, 3) := by decide +kernel
theorem wi_1337 : Cond.methodLink RL 290 yX10_undo ∈ WA := zin 1337 (by decide +kernel) (by decide +kernel)
theorem wi_1340 : Cond.code yX10_undo cX10_undo 2 (some .boolean) ∈ WA := zin 1340 (by decide +kernel) (by decide +kernel)
theorem wi_1338 : Cond.instanceMethod yX10_undo ∈ WA := zin 1338 (by decide +kernel) (by decide +kernel)
theorem wi_1339 : Cond.selects RX10 yX10_undo yX10_undo ∈ WA := zin 1339 (by decide +kernel) (by decide +kernel)
theorem mv_L_290 : zMv RL 290 RX10 mX10_undo 0 := ⟨⟨wi_1337, wi_110, wi_1340, by decide, by decide +kernel⟩, wi_1338, wi_1339⟩
theorem dL_law__1729 : decode cL_law_ 1729 = .ok (.pop, 1) := by decide +kernel
theorem dL_law__1730 : decode cL_law_ 1730 = .ok (.goto 52, 3) := by decide +kernel
theorem dL_law__1733 : decode cL_law_ 1733 = .ok (.aload_n 1, 1) := by decide +kernel
theorem dL_law__1734 : decode cL_law_ 1734 = .ok (.invokevirtual 291, 3) := by decide +kernel
theorem wi_509 : Cond.methodLink RL 291 yX9_image ∈ WA := zin 509 (by decide +kernel) (by decide +kernel)
theorem wi_512 : Cond.code yX9_image cX9_image 1 (none) ∈ WA := zin 512 (by decide +kernel) (by decide +kernel)
theorem wi_510 : Cond.instanceMethod yX9_image ∈ WA := zin 510 (by decide +kernel) (by decide +kernel)
theorem wi_511 : Cond.selects RX9 yX9_image yX9_image ∈ WA := zin 511 (by decide +kernel) (by decide +kernel)
theorem mv_L_291 : zMv RL 291 RX9 mX9_image 0 := ⟨⟨wi_509, wi_100, wi_512, by decide, by decide +kernel⟩, wi_510, wi_511⟩
theorem dL_law__1737 : decode cL_law_ 1737 = .ok (.aload_n 2, 1) := by decide +kernel
theorem dL_law__1738 : decode cL_law_ 1738 = .ok (.invokevirtual 294, 3) := by decide +kernel
theorem wi_1329 : Cond.methodLink RL 294 yX10_image ∈ WA := zin 1329 (by decide +kernel) (by decide +kernel)
theorem wi_1332 : Cond.code yX10_image cX10_image 2 (none) ∈ WA := zin 1332 (by decide +kernel) (by decide +kernel)
theorem wi_1330 : Cond.instanceMethod yX10_image ∈ WA := zin 1330 (by decide +kernel) (by decide +kernel)
theorem wi_1331 : Cond.selects RX10 yX10_image yX10_image ∈ WA := zin 1331 (by decide +kernel) (by decide +kernel)
theorem mv_L_294 : zMv RL 294 RX10 mX10_image 0 := ⟨⟨wi_1329, wi_110, wi_1332, by decide, by decide +kernel⟩, wi_1330, wi_1331⟩
theorem dL_law__1741 : decode cL_law_ 1741 = .ok (.goto 41, 3) := by decide +kernel
theorem dL_law__1744 : decode cL_law_ 1744 = .ok (.aload_n 1, 1) := by decide +kernel
theorem dL_law__1745 : decode cL_law_ 1745 = .ok (.invokevirtual 295, 3) := by decide +kernel
theorem wi_519 : Cond.methodLink RL 295 yX9_back ∈ WA := zin 519 (by decide +kernel) (by decide +kernel)
theorem wi_522 : Cond.code yX9_back cX9_back 1 (some .boolean) ∈ WA := zin 522 (by decide +kernel) (by decide +kernel)
theorem wi_520 : Cond.instanceMethod yX9_back ∈ WA := zin 520 (by decide +kernel) (by decide +kernel)
theorem wi_521 : Cond.selects RX9 yX9_back yX9_back ∈ WA := zin 521 (by decide +kernel) (by decide +kernel)
theorem mv_L_295 : zMv RL 295 RX9 mX9_back 0 := ⟨⟨wi_519, wi_100, wi_522, by decide, by decide +kernel⟩, wi_520, wi_521⟩
theorem dL_law__1748 : decode cL_law_ 1748 = .ok (.pop, 1) := by decide +kernel
theorem dL_law__1749 : decode cL_law_ 1749 = .ok (.aload_n 2, 1) := by decide +kernel
theorem dL_law__1750 : decode cL_law_ 1750 = .ok (.invokevirtual 298, 3) := by decide +kernel
theorem wi_1333 : Cond.methodLink RL 298 yX10_back ∈ WA := zin 1333 (by decide +kernel) (by decide +kernel)
theorem wi_1336 : Cond.code yX10_back cX10_back 2 (some .boolean) ∈ WA := zin 1336 (by decide +kernel) (by decide +kernel)
theorem wi_1334 : Cond.instanceMethod yX10_back ∈ WA := zin 1334 (by decide +kernel) (by decide +kernel)
theorem wi_1335 : Cond.selects RX10 yX10_back yX10_back ∈ WA := zin 1335 (by decide +kernel) (by decide +kernel)
theorem mv_L_298 : zMv RL 298 RX10 mX10_back 0 := ⟨⟨wi_1333, wi_110, wi_1336, by decide, by decide +kernel⟩, wi_1334, wi_1335⟩
theorem dL_law__1753 : decode cL_law_ 1753 = .ok (.pop, 1) := by decide +kernel
theorem dL_law__1754 : decode cL_law_ 1754 = .ok (.goto 28, 3) := by decide +kernel
theorem dL_law__1757 : decode cL_law_ 1757 = .ok (.aload_n 1, 1) := by decide +kernel
theorem dL_law__1758 : decode cL_law_ 1758 = .ok (.aload_n 0, 1) := by decide +kernel
theorem dL_law__1759 : decode cL_law_ 1759 = .ok (.iload 4, 2) := by decide +kernel
theorem dL_law__1761 : decode cL_law_ 1761 = .ok (.iconst 1, 1) := by decide +kernel
theorem dL_law__1762 : decode cL_law_ 1762 = .ok (.iadd, 1) := by decide +kernel
theorem dL_law__1763 : decode cL_law_ 1763 = .ok (.iaload, 1) := by decide +kernel
theorem dL_law__1764 : decode cL_law_ 1764 = .ok (.invokevirtual 299, 3) := by decide +kernel
theorem wi_527 : Cond.methodLink RL 299 yX9_count ∈ WA := zin 527 (by decide +kernel) (by decide +kernel)
theorem wi_530 : Cond.code yX9_count cX9_count 2 (some .int) ∈ WA := zin 530 (by decide +kernel) (by decide +kernel)
theorem wi_528 : Cond.instanceMethod yX9_count ∈ WA := zin 528 (by decide +kernel) (by decide +kernel)
theorem wi_529 : Cond.selects RX9 yX9_count yX9_count ∈ WA := zin 529 (by decide +kernel) (by decide +kernel)
theorem mv_L_299 : zMv RL 299 RX9 mX9_count 1 := ⟨⟨wi_527, wi_100, wi_530, by decide, by decide +kernel⟩, wi_528, wi_529⟩
theorem dL_law__1767 : decode cL_law_ 1767 = .ok (.pop, 1) := by decide +kernel
theorem dL_law__1768 : decode cL_law_ 1768 = .ok (.aload_n 2, 1) := by decide +kernel
theorem dL_law__1769 : decode cL_law_ 1769 = .ok (.aload_n 0, 1) := by decide +kernel
theorem dL_law__1770 : decode cL_law_ 1770 = .ok (.iload 4, 2) := by decide +kernel
theorem dL_law__1772 : decode cL_law_ 1772 = .ok (.iconst 1, 1) := by decide +kernel
theorem dL_law__1773 : decode cL_law_ 1773 = .ok (.iadd, 1) := by decide +kernel
theorem dL_law__1774 : decode cL_law_ 1774 = .ok (.iaload, 1) := by decide +kernel
theorem dL_law__1775 : decode cL_law_ 1775 = .ok (.invokevirtual 302, 3) := by decide +kernel
theorem wi_1924 : Cond.methodLink RL 302 yX10_count ∈ WA := zin 1924 (by decide +kernel) (by decide +kernel)
theorem wi_1927 : Cond.code yX10_count cX10_count 5 (some .int) ∈ WA := zin 1927 (by decide +kernel) (by decide +kernel)
theorem wi_1925 : Cond.instanceMethod yX10_count ∈ WA := zin 1925 (by decide +kernel) (by decide +kernel)
theorem wi_1926 : Cond.selects RX10 yX10_count yX10_count ∈ WA := zin 1926 (by decide +kernel) (by decide +kernel)
theorem mv_L_302 : zMv RL 302 RX10 mX10_count 1 := ⟨⟨wi_1924, wi_110, wi_1927, by decide, by decide +kernel⟩, wi_1925, wi_1926⟩
theorem dL_law__1778 : decode cL_law_ 1778 = .ok (.pop, 1) := by decide +kernel
theorem dL_law__1779 : decode cL_law_ 1779 = .ok (.goto 3, 3) := by decide +kernel
section LawC
variable {G0 : Gx} {b0 L m i : Nat} {xs : Nat → Int32} {ad : Nat → Nat} {I : Hi} {x5 x6 : Option Value}
theorem lc_trial (h9 : gad G0 998 = b0) (hL : L ≤ 3072) (hi : i + 6 ≤ L) (hI : LI I) (kk : ∀ (J : Hi) (x5 x6 : Option Value), LI J → Rn (gw G0 ad) GAM mL_law_ (kZ (kL b0 L xs) G0 0 ad 108) 60 (8 * m) 1782 [some (.ref 998), some (.ref 0), some (.ref 94), some (.ref 107), some (.int (nI i)), x5, x6] [] J) : Rn (gw G0 ad) GAM mL_law_ (kZ (kL b0 L xs) G0 0 ad 108) 60 (8 * m + 8) 1487 [some (.ref 998), some (.ref 0), some (.ref 94), some (.ref 107), some (.int (nI i)), x5, x6] [] I := by
  refine Rn.aload_n dL_law__1487 rfl rfl ?_
  refine Rn.aload_n dL_law__1488 rfl rfl ?_
  refine Rn.iload dL_law__1489 rfl ?_
  refine Rn.iconst (v := (nI 1)) dL_law__1491 rfl ?_
  refine Rn.iadd dL_law__1492 ?_
  refine Rn.topI (nI (i + 1)) (nI_add _ _) ?_
  refine Rn.sld dL_law__1493 h9 (by omega) (by omega) rfl ?_
  refine Rn.aload_n dL_law__1494 rfl rfl ?_
  refine Rn.iload dL_law__1495 rfl ?_
  refine Rn.iconst (v := (nI 2)) dL_law__1497 rfl ?_
  refine Rn.iadd dL_law__1498 ?_
  refine Rn.topI (nI (i + 2)) (nI_add _ _) ?_
  refine Rn.sld dL_law__1499 h9 (by omega) (by omega) rfl ?_
  refine Rn.if_eq (tgt := 1507) dL_law__1500 (by decide) (fun _ => ?_) (fun _ => ?_)
  · refine Rn.iconst (v := (nI 0)) dL_law__1507 rfl ?_
    refine Rn.aload_n dL_law__1508 rfl rfl ?_
    refine Rn.callW (b := 8 * m + 7) (mc := 1) (As := [_, _, _, _]) dL_law__1509 mw_L_270 rfl rfl (Nat.le_of_ble_eq_true rfl) (wr_trial _ _ _ _ _ hI.1 hI.2.1) (fun _ _ h => h) (fun v J1 h => ?_)
    obtain ⟨⟨r1, rfl⟩, hQ1⟩ := h
    refine Rn.istore dL_law__1512 (by decide) ?_
    refine Rn.aload_n dL_law__1514 rfl rfl ?_
    refine Rn.aload_n dL_law__1515 rfl rfl ?_
    refine Rn.iload dL_law__1516 rfl ?_
    refine Rn.iconst (v := (nI 1)) dL_law__1518 rfl ?_
    refine Rn.iadd dL_law__1519 ?_
    refine Rn.topI (nI (i + 1)) (nI_add _ _) ?_
    refine Rn.sld dL_law__1520 h9 (by omega) (by omega) rfl ?_
    refine Rn.aload_n dL_law__1521 rfl rfl ?_
    refine Rn.iload dL_law__1522 rfl ?_
    refine Rn.iconst (v := (nI 2)) dL_law__1524 rfl ?_
    refine Rn.iadd dL_law__1525 ?_
    refine Rn.topI (nI (i + 2)) (nI_add _ _) ?_
    refine Rn.sld dL_law__1526 h9 (by omega) (by omega) rfl ?_
    refine Rn.if_eq (tgt := 1534) dL_law__1527 (by decide) (fun _ => ?_) (fun _ => ?_)
    · refine Rn.iconst (v := (nI 0)) dL_law__1534 rfl ?_
      refine Rn.callV (As := [_, _]) dL_law__1535 mv_L_272 (by first | rfl | exact gC0 (by assumption) | exact gL0 (by assumption)) rfl rfl rfl (Nat.le_of_ble_eq_true rfl) (mo_trial _ _ _ _ _ (iv_nI (n := 1) (k := 0) (by decide) (by decide)) hQ1.1 hQ1.2.1) (fun _ _ h => h) (fun v J2 h => ?_)
      obtain ⟨⟨r2, rfl⟩, hQ2⟩ := h
      refine Rn.istore dL_law__1538 (by decide) ?_
      refine Rn.goto 1782 dL_law__1540 (by decide) ?_
      exact Rn.bud (by omega) (kk _ _ _ (hI.of (hQ1.tr hQ2)))
    · refine Rn.iconst (v := (nI 1)) dL_law__1530 rfl ?_
      refine Rn.goto 1535 dL_law__1531 (by decide) ?_
      refine Rn.callV (As := [_, _]) dL_law__1535 mv_L_272 (by first | rfl | exact gC0 (by assumption) | exact gL0 (by assumption)) rfl rfl rfl (Nat.le_of_ble_eq_true rfl) (mo_trial _ _ _ _ _ (iv_nI (n := 1) (k := 1) (by decide) (by decide)) hQ1.1 hQ1.2.1) (fun _ _ h => h) (fun v J2 h => ?_)
      obtain ⟨⟨r2, rfl⟩, hQ2⟩ := h
      refine Rn.istore dL_law__1538 (by decide) ?_
      refine Rn.goto 1782 dL_law__1540 (by decide) ?_
      exact Rn.bud (by omega) (kk _ _ _ (hI.of (hQ1.tr hQ2)))
  · refine Rn.iconst (v := (nI 1)) dL_law__1503 rfl ?_
    refine Rn.goto 1508 dL_law__1504 (by decide) ?_
    refine Rn.aload_n dL_law__1508 rfl rfl ?_
    refine Rn.callW (b := 8 * m + 7) (mc := 1) (As := [_, _, _, _]) dL_law__1509 mw_L_270 rfl rfl (Nat.le_of_ble_eq_true rfl) (wr_trial _ _ _ _ _ hI.1 hI.2.1) (fun _ _ h => h) (fun v J1 h => ?_)
    obtain ⟨⟨r1, rfl⟩, hQ1⟩ := h
    refine Rn.istore dL_law__1512 (by decide) ?_
    refine Rn.aload_n dL_law__1514 rfl rfl ?_
    refine Rn.aload_n dL_law__1515 rfl rfl ?_
    refine Rn.iload dL_law__1516 rfl ?_
    refine Rn.iconst (v := (nI 1)) dL_law__1518 rfl ?_
    refine Rn.iadd dL_law__1519 ?_
    refine Rn.topI (nI (i + 1)) (nI_add _ _) ?_
    refine Rn.sld dL_law__1520 h9 (by omega) (by omega) rfl ?_
    refine Rn.aload_n dL_law__1521 rfl rfl ?_
    refine Rn.iload dL_law__1522 rfl ?_
    refine Rn.iconst (v := (nI 2)) dL_law__1524 rfl ?_
    refine Rn.iadd dL_law__1525 ?_
    refine Rn.topI (nI (i + 2)) (nI_add _ _) ?_
    refine Rn.sld dL_law__1526 h9 (by omega) (by omega) rfl ?_
    refine Rn.if_eq (tgt := 1534) dL_law__1527 (by decide) (fun _ => ?_) (fun _ => ?_)
    · refine Rn.iconst (v := (nI 0)) dL_law__1534 rfl ?_
      refine Rn.callV (As := [_, _]) dL_law__1535 mv_L_272 (by first | rfl | exact gC0 (by assumption) | exact gL0 (by assumption)) rfl rfl rfl (Nat.le_of_ble_eq_true rfl) (mo_trial _ _ _ _ _ (iv_nI (n := 1) (k := 0) (by decide) (by decide)) hQ1.1 hQ1.2.1) (fun _ _ h => h) (fun v J2 h => ?_)
      obtain ⟨⟨r2, rfl⟩, hQ2⟩ := h
      refine Rn.istore dL_law__1538 (by decide) ?_
      refine Rn.goto 1782 dL_law__1540 (by decide) ?_
      exact Rn.bud (by omega) (kk _ _ _ (hI.of (hQ1.tr hQ2)))
    · refine Rn.iconst (v := (nI 1)) dL_law__1530 rfl ?_
      refine Rn.goto 1535 dL_law__1531 (by decide) ?_
      refine Rn.callV (As := [_, _]) dL_law__1535 mv_L_272 (by first | rfl | exact gC0 (by assumption) | exact gL0 (by assumption)) rfl rfl rfl (Nat.le_of_ble_eq_true rfl) (mo_trial _ _ _ _ _ (iv_nI (n := 1) (k := 1) (by decide) (by decide)) hQ1.1 hQ1.2.1) (fun _ _ h => h) (fun v J2 h => ?_)
      obtain ⟨⟨r2, rfl⟩, hQ2⟩ := h
      refine Rn.istore dL_law__1538 (by decide) ?_
      refine Rn.goto 1782 dL_law__1540 (by decide) ?_
      exact Rn.bud (by omega) (kk _ _ _ (hI.of (hQ1.tr hQ2)))
theorem lc_span (h9 : gad G0 998 = b0) (hL : L ≤ 3072) (hi : i + 6 ≤ L) (hI : LI I) (kk : ∀ (J : Hi) (x5 x6 : Option Value), LI J → Rn (gw G0 ad) GAM mL_law_ (kZ (kL b0 L xs) G0 0 ad 108) 60 (8 * m) 1782 [some (.ref 998), some (.ref 0), some (.ref 94), some (.ref 107), some (.int (nI i)), x5, x6] [] J) : Rn (gw G0 ad) GAM mL_law_ (kZ (kL b0 L xs) G0 0 ad 108) 60 (8 * m + 8) 1543 [some (.ref 998), some (.ref 0), some (.ref 94), some (.ref 107), some (.int (nI i)), x5, x6] [] I := by
  refine Rn.aload_n dL_law__1543 rfl rfl ?_
  refine Rn.aload_n dL_law__1544 rfl rfl ?_
  refine Rn.iload dL_law__1545 rfl ?_
  refine Rn.iconst (v := (nI 1)) dL_law__1547 rfl ?_
  refine Rn.iadd dL_law__1548 ?_
  refine Rn.topI (nI (i + 1)) (nI_add _ _) ?_
  refine Rn.sld dL_law__1549 h9 (by omega) (by omega) rfl ?_
  refine Rn.aload_n dL_law__1550 rfl rfl ?_
  refine Rn.iload dL_law__1551 rfl ?_
  refine Rn.iconst (v := (nI 2)) dL_law__1553 rfl ?_
  refine Rn.iadd dL_law__1554 ?_
  refine Rn.topI (nI (i + 2)) (nI_add _ _) ?_
  refine Rn.sld dL_law__1555 h9 (by omega) (by omega) rfl ?_
  refine Rn.if_eq (tgt := 1563) dL_law__1556 (by decide) (fun _ => ?_) (fun _ => ?_)
  · refine Rn.iconst (v := (nI 0)) dL_law__1563 rfl ?_
    refine Rn.aload_n dL_law__1564 rfl rfl ?_
    refine Rn.callW (b := 8 * m + 7) (mc := 1) (As := [_, _, _, _]) dL_law__1565 mw_L_273 rfl rfl (Nat.le_of_ble_eq_true rfl) (wr_span _ _ _ _ _ hI.1 hI.2.1) (fun _ _ h => h) (fun v J1 h => ?_)
    obtain ⟨⟨r1, rfl⟩, hQ1⟩ := h
    refine Rn.istore dL_law__1568 (by decide) ?_
    refine Rn.aload_n dL_law__1570 rfl rfl ?_
    refine Rn.aload_n dL_law__1571 rfl rfl ?_
    refine Rn.iload dL_law__1572 rfl ?_
    refine Rn.iconst (v := (nI 1)) dL_law__1574 rfl ?_
    refine Rn.iadd dL_law__1575 ?_
    refine Rn.topI (nI (i + 1)) (nI_add _ _) ?_
    refine Rn.sld dL_law__1576 h9 (by omega) (by omega) rfl ?_
    refine Rn.aload_n dL_law__1577 rfl rfl ?_
    refine Rn.iload dL_law__1578 rfl ?_
    refine Rn.iconst (v := (nI 2)) dL_law__1580 rfl ?_
    refine Rn.iadd dL_law__1581 ?_
    refine Rn.topI (nI (i + 2)) (nI_add _ _) ?_
    refine Rn.sld dL_law__1582 h9 (by omega) (by omega) rfl ?_
    refine Rn.if_eq (tgt := 1590) dL_law__1583 (by decide) (fun _ => ?_) (fun _ => ?_)
    · refine Rn.iconst (v := (nI 0)) dL_law__1590 rfl ?_
      refine Rn.callV (As := [_, _]) dL_law__1591 mv_L_275 (by first | rfl | exact gC0 (by assumption) | exact gL0 (by assumption)) rfl rfl rfl (Nat.le_of_ble_eq_true rfl) (mo_span _ _ _ _ _ (iv_nI (n := 1) (k := 0) (by decide) (by decide)) hQ1.1 hQ1.2.1) (fun _ _ h => h) (fun v J2 h => ?_)
      obtain ⟨⟨r2, rfl⟩, hQ2⟩ := h
      refine Rn.istore dL_law__1594 (by decide) ?_
      refine Rn.goto 1782 dL_law__1596 (by decide) ?_
      exact Rn.bud (by omega) (kk _ _ _ (hI.of (hQ1.tr hQ2)))
    · refine Rn.iconst (v := (nI 1)) dL_law__1586 rfl ?_
      refine Rn.goto 1591 dL_law__1587 (by decide) ?_
      refine Rn.callV (As := [_, _]) dL_law__1591 mv_L_275 (by first | rfl | exact gC0 (by assumption) | exact gL0 (by assumption)) rfl rfl rfl (Nat.le_of_ble_eq_true rfl) (mo_span _ _ _ _ _ (iv_nI (n := 1) (k := 1) (by decide) (by decide)) hQ1.1 hQ1.2.1) (fun _ _ h => h) (fun v J2 h => ?_)
      obtain ⟨⟨r2, rfl⟩, hQ2⟩ := h
      refine Rn.istore dL_law__1594 (by decide) ?_
      refine Rn.goto 1782 dL_law__1596 (by decide) ?_
      exact Rn.bud (by omega) (kk _ _ _ (hI.of (hQ1.tr hQ2)))
  · refine Rn.iconst (v := (nI 1)) dL_law__1559 rfl ?_
    refine Rn.goto 1564 dL_law__1560 (by decide) ?_
    refine Rn.aload_n dL_law__1564 rfl rfl ?_
    refine Rn.callW (b := 8 * m + 7) (mc := 1) (As := [_, _, _, _]) dL_law__1565 mw_L_273 rfl rfl (Nat.le_of_ble_eq_true rfl) (wr_span _ _ _ _ _ hI.1 hI.2.1) (fun _ _ h => h) (fun v J1 h => ?_)
    obtain ⟨⟨r1, rfl⟩, hQ1⟩ := h
    refine Rn.istore dL_law__1568 (by decide) ?_
    refine Rn.aload_n dL_law__1570 rfl rfl ?_
    refine Rn.aload_n dL_law__1571 rfl rfl ?_
    refine Rn.iload dL_law__1572 rfl ?_
    refine Rn.iconst (v := (nI 1)) dL_law__1574 rfl ?_
    refine Rn.iadd dL_law__1575 ?_
    refine Rn.topI (nI (i + 1)) (nI_add _ _) ?_
    refine Rn.sld dL_law__1576 h9 (by omega) (by omega) rfl ?_
    refine Rn.aload_n dL_law__1577 rfl rfl ?_
    refine Rn.iload dL_law__1578 rfl ?_
    refine Rn.iconst (v := (nI 2)) dL_law__1580 rfl ?_
    refine Rn.iadd dL_law__1581 ?_
    refine Rn.topI (nI (i + 2)) (nI_add _ _) ?_
    refine Rn.sld dL_law__1582 h9 (by omega) (by omega) rfl ?_
    refine Rn.if_eq (tgt := 1590) dL_law__1583 (by decide) (fun _ => ?_) (fun _ => ?_)
    · refine Rn.iconst (v := (nI 0)) dL_law__1590 rfl ?_
      refine Rn.callV (As := [_, _]) dL_law__1591 mv_L_275 (by first | rfl | exact gC0 (by assumption) | exact gL0 (by assumption)) rfl rfl rfl (Nat.le_of_ble_eq_true rfl) (mo_span _ _ _ _ _ (iv_nI (n := 1) (k := 0) (by decide) (by decide)) hQ1.1 hQ1.2.1) (fun _ _ h => h) (fun v J2 h => ?_)
      obtain ⟨⟨r2, rfl⟩, hQ2⟩ := h
      refine Rn.istore dL_law__1594 (by decide) ?_
      refine Rn.goto 1782 dL_law__1596 (by decide) ?_
      exact Rn.bud (by omega) (kk _ _ _ (hI.of (hQ1.tr hQ2)))
    · refine Rn.iconst (v := (nI 1)) dL_law__1586 rfl ?_
      refine Rn.goto 1591 dL_law__1587 (by decide) ?_
      refine Rn.callV (As := [_, _]) dL_law__1591 mv_L_275 (by first | rfl | exact gC0 (by assumption) | exact gL0 (by assumption)) rfl rfl rfl (Nat.le_of_ble_eq_true rfl) (mo_span _ _ _ _ _ (iv_nI (n := 1) (k := 1) (by decide) (by decide)) hQ1.1 hQ1.2.1) (fun _ _ h => h) (fun v J2 h => ?_)
      obtain ⟨⟨r2, rfl⟩, hQ2⟩ := h
      refine Rn.istore dL_law__1594 (by decide) ?_
      refine Rn.goto 1782 dL_law__1596 (by decide) ?_
      exact Rn.bud (by omega) (kk _ _ _ (hI.of (hQ1.tr hQ2)))
theorem lc_led (h9 : gad G0 998 = b0) (hL : L ≤ 3072) (hi : i + 6 ≤ L) (hI : LI I) (kk : ∀ (J : Hi) (x5 x6 : Option Value), LI J → Rn (gw G0 ad) GAM mL_law_ (kZ (kL b0 L xs) G0 0 ad 108) 60 (8 * m) 1782 [some (.ref 998), some (.ref 0), some (.ref 94), some (.ref 107), some (.int (nI i)), x5, x6] [] J) : Rn (gw G0 ad) GAM mL_law_ (kZ (kL b0 L xs) G0 0 ad 108) 60 (8 * m + 8) 1599 [some (.ref 998), some (.ref 0), some (.ref 94), some (.ref 107), some (.int (nI i)), x5, x6] [] I := by
  refine Rn.aload_n dL_law__1599 rfl rfl ?_
  refine Rn.aload_n dL_law__1600 rfl rfl ?_
  refine Rn.iload dL_law__1601 rfl ?_
  refine Rn.iconst (v := (nI 1)) dL_law__1603 rfl ?_
  refine Rn.iadd dL_law__1604 ?_
  refine Rn.topI (nI (i + 1)) (nI_add _ _) ?_
  refine Rn.sld dL_law__1605 h9 (by omega) (by omega) rfl ?_
  refine Rn.aload_n dL_law__1606 rfl rfl ?_
  refine Rn.iload dL_law__1607 rfl ?_
  refine Rn.iconst (v := (nI 2)) dL_law__1609 rfl ?_
  refine Rn.iadd dL_law__1610 ?_
  refine Rn.topI (nI (i + 2)) (nI_add _ _) ?_
  refine Rn.sld dL_law__1611 h9 (by omega) (by omega) rfl ?_
  refine Rn.if_eq (tgt := 1619) dL_law__1612 (by decide) (fun _ => ?_) (fun _ => ?_)
  · refine Rn.iconst (v := (nI 0)) dL_law__1619 rfl ?_
    refine Rn.aload_n dL_law__1620 rfl rfl ?_
    refine Rn.callW (b := 8 * m + 7) (mc := 1) (As := [_, _, _, _]) dL_law__1621 mw_L_276 rfl rfl (Nat.le_of_ble_eq_true rfl) (wr_led _ _ _ _ _ hI.1 hI.2.1) (fun _ _ h => h) (fun v J1 h => ?_)
    obtain ⟨⟨r1, rfl⟩, hQ1⟩ := h
    refine Rn.istore dL_law__1624 (by decide) ?_
    refine Rn.aload_n dL_law__1626 rfl rfl ?_
    refine Rn.aload_n dL_law__1627 rfl rfl ?_
    refine Rn.iload dL_law__1628 rfl ?_
    refine Rn.iconst (v := (nI 1)) dL_law__1630 rfl ?_
    refine Rn.iadd dL_law__1631 ?_
    refine Rn.topI (nI (i + 1)) (nI_add _ _) ?_
    refine Rn.sld dL_law__1632 h9 (by omega) (by omega) rfl ?_
    refine Rn.aload_n dL_law__1633 rfl rfl ?_
    refine Rn.iload dL_law__1634 rfl ?_
    refine Rn.iconst (v := (nI 2)) dL_law__1636 rfl ?_
    refine Rn.iadd dL_law__1637 ?_
    refine Rn.topI (nI (i + 2)) (nI_add _ _) ?_
    refine Rn.sld dL_law__1638 h9 (by omega) (by omega) rfl ?_
    refine Rn.if_eq (tgt := 1646) dL_law__1639 (by decide) (fun _ => ?_) (fun _ => ?_)
    · refine Rn.iconst (v := (nI 0)) dL_law__1646 rfl ?_
      refine Rn.callV (As := [_, _]) dL_law__1647 mv_L_278 (by first | rfl | exact gC0 (by assumption) | exact gL0 (by assumption)) rfl rfl rfl (Nat.le_of_ble_eq_true rfl) (mo_led _ _ _ _ _ (iv_nI (n := 1) (k := 0) (by decide) (by decide)) hQ1.1 hQ1.2.1) (fun _ _ h => h) (fun v J2 h => ?_)
      obtain ⟨⟨r2, rfl⟩, hQ2⟩ := h
      refine Rn.istore dL_law__1650 (by decide) ?_
      refine Rn.goto 1782 dL_law__1652 (by decide) ?_
      exact Rn.bud (by omega) (kk _ _ _ (hI.of (hQ1.tr hQ2)))
    · refine Rn.iconst (v := (nI 1)) dL_law__1642 rfl ?_
      refine Rn.goto 1647 dL_law__1643 (by decide) ?_
      refine Rn.callV (As := [_, _]) dL_law__1647 mv_L_278 (by first | rfl | exact gC0 (by assumption) | exact gL0 (by assumption)) rfl rfl rfl (Nat.le_of_ble_eq_true rfl) (mo_led _ _ _ _ _ (iv_nI (n := 1) (k := 1) (by decide) (by decide)) hQ1.1 hQ1.2.1) (fun _ _ h => h) (fun v J2 h => ?_)
      obtain ⟨⟨r2, rfl⟩, hQ2⟩ := h
      refine Rn.istore dL_law__1650 (by decide) ?_
      refine Rn.goto 1782 dL_law__1652 (by decide) ?_
      exact Rn.bud (by omega) (kk _ _ _ (hI.of (hQ1.tr hQ2)))
  · refine Rn.iconst (v := (nI 1)) dL_law__1615 rfl ?_
    refine Rn.goto 1620 dL_law__1616 (by decide) ?_
    refine Rn.aload_n dL_law__1620 rfl rfl ?_
    refine Rn.callW (b := 8 * m + 7) (mc := 1) (As := [_, _, _, _]) dL_law__1621 mw_L_276 rfl rfl (Nat.le_of_ble_eq_true rfl) (wr_led _ _ _ _ _ hI.1 hI.2.1) (fun _ _ h => h) (fun v J1 h => ?_)
    obtain ⟨⟨r1, rfl⟩, hQ1⟩ := h
    refine Rn.istore dL_law__1624 (by decide) ?_
    refine Rn.aload_n dL_law__1626 rfl rfl ?_
    refine Rn.aload_n dL_law__1627 rfl rfl ?_
    refine Rn.iload dL_law__1628 rfl ?_
    refine Rn.iconst (v := (nI 1)) dL_law__1630 rfl ?_
    refine Rn.iadd dL_law__1631 ?_
    refine Rn.topI (nI (i + 1)) (nI_add _ _) ?_
    refine Rn.sld dL_law__1632 h9 (by omega) (by omega) rfl ?_
    refine Rn.aload_n dL_law__1633 rfl rfl ?_
    refine Rn.iload dL_law__1634 rfl ?_
    refine Rn.iconst (v := (nI 2)) dL_law__1636 rfl ?_
    refine Rn.iadd dL_law__1637 ?_
    refine Rn.topI (nI (i + 2)) (nI_add _ _) ?_
    refine Rn.sld dL_law__1638 h9 (by omega) (by omega) rfl ?_
    refine Rn.if_eq (tgt := 1646) dL_law__1639 (by decide) (fun _ => ?_) (fun _ => ?_)
    · refine Rn.iconst (v := (nI 0)) dL_law__1646 rfl ?_
      refine Rn.callV (As := [_, _]) dL_law__1647 mv_L_278 (by first | rfl | exact gC0 (by assumption) | exact gL0 (by assumption)) rfl rfl rfl (Nat.le_of_ble_eq_true rfl) (mo_led _ _ _ _ _ (iv_nI (n := 1) (k := 0) (by decide) (by decide)) hQ1.1 hQ1.2.1) (fun _ _ h => h) (fun v J2 h => ?_)
      obtain ⟨⟨r2, rfl⟩, hQ2⟩ := h
      refine Rn.istore dL_law__1650 (by decide) ?_
      refine Rn.goto 1782 dL_law__1652 (by decide) ?_
      exact Rn.bud (by omega) (kk _ _ _ (hI.of (hQ1.tr hQ2)))
    · refine Rn.iconst (v := (nI 1)) dL_law__1642 rfl ?_
      refine Rn.goto 1647 dL_law__1643 (by decide) ?_
      refine Rn.callV (As := [_, _]) dL_law__1647 mv_L_278 (by first | rfl | exact gC0 (by assumption) | exact gL0 (by assumption)) rfl rfl rfl (Nat.le_of_ble_eq_true rfl) (mo_led _ _ _ _ _ (iv_nI (n := 1) (k := 1) (by decide) (by decide)) hQ1.1 hQ1.2.1) (fun _ _ h => h) (fun v J2 h => ?_)
      obtain ⟨⟨r2, rfl⟩, hQ2⟩ := h
      refine Rn.istore dL_law__1650 (by decide) ?_
      refine Rn.goto 1782 dL_law__1652 (by decide) ?_
      exact Rn.bud (by omega) (kk _ _ _ (hI.of (hQ1.tr hQ2)))
theorem lc_log (h9 : gad G0 998 = b0) (hL : L ≤ 3072) (hi : i + 6 ≤ L) (hI : LI I) (kk : ∀ (J : Hi) (x5 x6 : Option Value), LI J → Rn (gw G0 ad) GAM mL_law_ (kZ (kL b0 L xs) G0 0 ad 108) 60 (8 * m) 1782 [some (.ref 998), some (.ref 0), some (.ref 94), some (.ref 107), some (.int (nI i)), x5, x6] [] J) : Rn (gw G0 ad) GAM mL_law_ (kZ (kL b0 L xs) G0 0 ad 108) 60 (8 * m + 8) 1655 [some (.ref 998), some (.ref 0), some (.ref 94), some (.ref 107), some (.int (nI i)), x5, x6] [] I := by
  refine Rn.aload_n dL_law__1655 rfl rfl ?_
  refine Rn.aload_n dL_law__1656 rfl rfl ?_
  refine Rn.iload dL_law__1657 rfl ?_
  refine Rn.iconst (v := (nI 1)) dL_law__1659 rfl ?_
  refine Rn.iadd dL_law__1660 ?_
  refine Rn.topI (nI (i + 1)) (nI_add _ _) ?_
  refine Rn.sld dL_law__1661 h9 (by omega) (by omega) rfl ?_
  refine Rn.aload_n dL_law__1662 rfl rfl ?_
  refine Rn.iload dL_law__1663 rfl ?_
  refine Rn.iconst (v := (nI 2)) dL_law__1665 rfl ?_
  refine Rn.iadd dL_law__1666 ?_
  refine Rn.topI (nI (i + 2)) (nI_add _ _) ?_
  refine Rn.sld dL_law__1667 h9 (by omega) (by omega) rfl ?_
  refine Rn.aload_n dL_law__1668 rfl rfl ?_
  refine Rn.callW (b := 8 * m + 7) (mc := 1) (As := [_, _, _, _]) dL_law__1669 mw_L_279 rfl rfl (Nat.le_of_ble_eq_true rfl) (wr_log _ _ _ _ _ hI.1 hI.2.1) (fun _ _ h => h) (fun v J1 h => ?_)
  obtain ⟨⟨r1, rfl⟩, hQ1⟩ := h
  refine Rn.istore dL_law__1672 (by decide) ?_
  refine Rn.aload_n dL_law__1674 rfl rfl ?_
  refine Rn.aload_n dL_law__1675 rfl rfl ?_
  refine Rn.iload dL_law__1676 rfl ?_
  refine Rn.iconst (v := (nI 1)) dL_law__1678 rfl ?_
  refine Rn.iadd dL_law__1679 ?_
  refine Rn.topI (nI (i + 1)) (nI_add _ _) ?_
  refine Rn.sld dL_law__1680 h9 (by omega) (by omega) rfl ?_
  refine Rn.aload_n dL_law__1681 rfl rfl ?_
  refine Rn.iload dL_law__1682 rfl ?_
  refine Rn.iconst (v := (nI 2)) dL_law__1684 rfl ?_
  refine Rn.iadd dL_law__1685 ?_
  refine Rn.topI (nI (i + 2)) (nI_add _ _) ?_
  refine Rn.sld dL_law__1686 h9 (by omega) (by omega) rfl ?_
  refine Rn.callV (As := [_, _]) dL_law__1687 mv_L_281 (by first | rfl | exact gC0 (by assumption) | exact gL0 (by assumption)) rfl rfl rfl (Nat.le_of_ble_eq_true rfl) (mo_log _ _ _ _ _ hQ1.1 hQ1.2.1) (fun _ _ h => h) (fun v J2 h => ?_)
  obtain ⟨⟨r2, rfl⟩, hQ2⟩ := h
  refine Rn.istore dL_law__1690 (by decide) ?_
  refine Rn.goto 1782 dL_law__1692 (by decide) ?_
  exact Rn.bud (by omega) (kk _ _ _ (hI.of (hQ1.tr hQ2)))
theorem lc_seed (h9 : gad G0 998 = b0) (hL : L ≤ 3072) (hi : i + 6 ≤ L) (hI : LI I) (kk : ∀ (J : Hi) (x5 x6 : Option Value), LI J → Rn (gw G0 ad) GAM mL_law_ (kZ (kL b0 L xs) G0 0 ad 108) 60 (8 * m) 1782 [some (.ref 998), some (.ref 0), some (.ref 94), some (.ref 107), some (.int (nI i)), x5, x6] [] J) : Rn (gw G0 ad) GAM mL_law_ (kZ (kL b0 L xs) G0 0 ad 108) 60 (8 * m + 8) 1695 [some (.ref 998), some (.ref 0), some (.ref 94), some (.ref 107), some (.int (nI i)), x5, x6] [] I := by
  refine Rn.aload_n dL_law__1695 rfl rfl ?_
  refine Rn.aload_n dL_law__1696 rfl rfl ?_
  refine Rn.iload dL_law__1697 rfl ?_
  refine Rn.iconst (v := (nI 1)) dL_law__1699 rfl ?_
  refine Rn.iadd dL_law__1700 ?_
  refine Rn.topI (nI (i + 1)) (nI_add _ _) ?_
  refine Rn.sld dL_law__1701 h9 (by omega) (by omega) rfl ?_
  refine Rn.callV (As := [_]) dL_law__1702 mv_L_282 (by first | rfl | exact gC0 (by assumption) | exact gL0 (by assumption)) rfl rfl rfl (Nat.le_of_ble_eq_true rfl) (xd_seed _ _ _ _ hI.1 hI.2.1) (fun _ _ h => h) (fun v J1 h => ?_)
  obtain ⟨⟨r1, rfl⟩, hQ1⟩ := h
  refine Rn.pop dL_law__1705 rfl ?_
  refine Rn.aload_n dL_law__1706 rfl rfl ?_
  refine Rn.aload_n dL_law__1707 rfl rfl ?_
  refine Rn.iload dL_law__1708 rfl ?_
  refine Rn.iconst (v := (nI 1)) dL_law__1710 rfl ?_
  refine Rn.iadd dL_law__1711 ?_
  refine Rn.topI (nI (i + 1)) (nI_add _ _) ?_
  refine Rn.sld dL_law__1712 h9 (by omega) (by omega) rfl ?_
  refine Rn.callV (As := [_]) dL_law__1713 mv_L_285 (by first | rfl | exact gC0 (by assumption) | exact gL0 (by assumption)) rfl rfl rfl (Nat.le_of_ble_eq_true rfl) (mo_seed _ _ _ _ hQ1.1 hQ1.2.1) (fun _ _ h => h) (fun v J2 h => ?_)
  obtain ⟨⟨r2, rfl⟩, hQ2⟩ := h
  refine Rn.pop dL_law__1716 rfl ?_
  refine Rn.goto 1782 dL_law__1717 (by decide) ?_
  exact Rn.bud (by omega) (kk _ _ _ (hI.of (hQ1.tr hQ2)))
theorem lc_undo (h9 : gad G0 998 = b0) (hL : L ≤ 3072) (hi : i + 6 ≤ L) (hI : LI I) (kk : ∀ (J : Hi) (x5 x6 : Option Value), LI J → Rn (gw G0 ad) GAM mL_law_ (kZ (kL b0 L xs) G0 0 ad 108) 60 (8 * m) 1782 [some (.ref 998), some (.ref 0), some (.ref 94), some (.ref 107), some (.int (nI i)), x5, x6] [] J) : Rn (gw G0 ad) GAM mL_law_ (kZ (kL b0 L xs) G0 0 ad 108) 60 (8 * m + 8) 1720 [some (.ref 998), some (.ref 0), some (.ref 94), some (.ref 107), some (.int (nI i)), x5, x6] [] I := by
  refine Rn.aload_n dL_law__1720 rfl rfl ?_
  refine Rn.callV (As := []) dL_law__1721 mv_L_286 (by first | rfl | exact gC0 (by assumption) | exact gL0 (by assumption)) rfl rfl rfl (Nat.le_of_ble_eq_true rfl) (xd_undo _ _ hI) (fun _ _ h => h) (fun v J1 h => ?_)
  obtain ⟨r1, rfl, h1⟩ := h
  refine Rn.pop dL_law__1724 rfl ?_
  refine Rn.aload_n dL_law__1725 rfl rfl ?_
  refine Rn.callV (As := []) dL_law__1726 mv_L_290 (by first | rfl | exact gC0 (by assumption) | exact gL0 (by assumption)) rfl rfl rfl (Nat.le_of_ble_eq_true rfl) (mo_undo _ _ h1) (fun _ _ h => h) (fun v J2 h => ?_)
  obtain ⟨r2, rfl, hL2⟩ := h
  refine Rn.pop dL_law__1729 rfl ?_
  refine Rn.goto 1782 dL_law__1730 (by decide) ?_
  exact Rn.bud (by omega) (kk _ _ _ (hL2))
theorem lc_image (h9 : gad G0 998 = b0) (hL : L ≤ 3072) (hi : i + 6 ≤ L) (hI : LI I) (kk : ∀ (J : Hi) (x5 x6 : Option Value), LI J → Rn (gw G0 ad) GAM mL_law_ (kZ (kL b0 L xs) G0 0 ad 108) 60 (8 * m) 1782 [some (.ref 998), some (.ref 0), some (.ref 94), some (.ref 107), some (.int (nI i)), x5, x6] [] J) : Rn (gw G0 ad) GAM mL_law_ (kZ (kL b0 L xs) G0 0 ad 108) 60 (8 * m + 8) 1733 [some (.ref 998), some (.ref 0), some (.ref 94), some (.ref 107), some (.int (nI i)), x5, x6] [] I := by
  refine Rn.aload_n dL_law__1733 rfl rfl ?_
  refine Rn.callV (As := []) dL_law__1734 mv_L_291 (by first | rfl | exact gC0 (by assumption) | exact gL0 (by assumption)) rfl rfl rfl (Nat.le_of_ble_eq_true rfl) (xd_image _ _ hI) (fun _ _ h => h) (fun v J1 h => ?_)
  obtain ⟨rfl, h1⟩ := h
  refine Rn.aload_n dL_law__1737 rfl rfl ?_
  refine Rn.callV (As := []) dL_law__1738 mv_L_294 (by first | rfl | exact gC0 (by assumption) | exact gL0 (by assumption)) rfl rfl rfl (Nat.le_of_ble_eq_true rfl) (mo_image _ _ h1) (fun _ _ h => h) (fun v J2 h => ?_)
  obtain ⟨rfl, hL2⟩ := h
  refine Rn.goto 1782 dL_law__1741 (by decide) ?_
  exact Rn.bud (by omega) (kk _ _ _ (hL2))
theorem lc_back (h9 : gad G0 998 = b0) (hL : L ≤ 3072) (hi : i + 6 ≤ L) (hI : LI I) (kk : ∀ (J : Hi) (x5 x6 : Option Value), LI J → Rn (gw G0 ad) GAM mL_law_ (kZ (kL b0 L xs) G0 0 ad 108) 60 (8 * m) 1782 [some (.ref 998), some (.ref 0), some (.ref 94), some (.ref 107), some (.int (nI i)), x5, x6] [] J) : Rn (gw G0 ad) GAM mL_law_ (kZ (kL b0 L xs) G0 0 ad 108) 60 (8 * m + 8) 1744 [some (.ref 998), some (.ref 0), some (.ref 94), some (.ref 107), some (.int (nI i)), x5, x6] [] I := by
  refine Rn.aload_n dL_law__1744 rfl rfl ?_
  refine Rn.callV (As := []) dL_law__1745 mv_L_295 (by first | rfl | exact gC0 (by assumption) | exact gL0 (by assumption)) rfl rfl rfl (Nat.le_of_ble_eq_true rfl) (xd_back _ _ hI) (fun _ _ h => h) (fun v J1 h => ?_)
  obtain ⟨r1, rfl, h1⟩ := h
  refine Rn.pop dL_law__1748 rfl ?_
  refine Rn.aload_n dL_law__1749 rfl rfl ?_
  refine Rn.callV (As := []) dL_law__1750 mv_L_298 (by first | rfl | exact gC0 (by assumption) | exact gL0 (by assumption)) rfl rfl rfl (Nat.le_of_ble_eq_true rfl) (mo_back _ _ h1) (fun _ _ h => h) (fun v J2 h => ?_)
  obtain ⟨r2, rfl, hL2⟩ := h
  refine Rn.pop dL_law__1753 rfl ?_
  refine Rn.goto 1782 dL_law__1754 (by decide) ?_
  exact Rn.bud (by omega) (kk _ _ _ (hL2))
theorem lc_count (h9 : gad G0 998 = b0) (hL : L ≤ 3072) (hi : i + 6 ≤ L) (hI : LI I) (kk : ∀ (J : Hi) (x5 x6 : Option Value), LI J → Rn (gw G0 ad) GAM mL_law_ (kZ (kL b0 L xs) G0 0 ad 108) 60 (8 * m) 1782 [some (.ref 998), some (.ref 0), some (.ref 94), some (.ref 107), some (.int (nI i)), x5, x6] [] J) : Rn (gw G0 ad) GAM mL_law_ (kZ (kL b0 L xs) G0 0 ad 108) 60 (8 * m + 8) 1757 [some (.ref 998), some (.ref 0), some (.ref 94), some (.ref 107), some (.int (nI i)), x5, x6] [] I := by
  refine Rn.aload_n dL_law__1757 rfl rfl ?_
  refine Rn.aload_n dL_law__1758 rfl rfl ?_
  refine Rn.iload dL_law__1759 rfl ?_
  refine Rn.iconst (v := (nI 1)) dL_law__1761 rfl ?_
  refine Rn.iadd dL_law__1762 ?_
  refine Rn.topI (nI (i + 1)) (nI_add _ _) ?_
  refine Rn.sld dL_law__1763 h9 (by omega) (by omega) rfl ?_
  refine Rn.callV (As := [_]) dL_law__1764 mv_L_299 (by first | rfl | exact gC0 (by assumption) | exact gL0 (by assumption)) rfl rfl rfl (Nat.le_of_ble_eq_true rfl) (xd_count _ _ _ _ hI.1 hI.2.1) (fun _ _ h => h) (fun v J1 h => ?_)
  obtain ⟨⟨r1, rfl⟩, hQ1⟩ := h
  refine Rn.pop dL_law__1767 rfl ?_
  refine Rn.aload_n dL_law__1768 rfl rfl ?_
  refine Rn.aload_n dL_law__1769 rfl rfl ?_
  refine Rn.iload dL_law__1770 rfl ?_
  refine Rn.iconst (v := (nI 1)) dL_law__1772 rfl ?_
  refine Rn.iadd dL_law__1773 ?_
  refine Rn.topI (nI (i + 1)) (nI_add _ _) ?_
  refine Rn.sld dL_law__1774 h9 (by omega) (by omega) rfl ?_
  refine Rn.callV (As := [_]) dL_law__1775 mv_L_302 (by first | rfl | exact gC0 (by assumption) | exact gL0 (by assumption)) rfl rfl rfl (Nat.le_of_ble_eq_true rfl) (mo_count _ _ _ _ hQ1.1 hQ1.2.1) (fun _ _ h => h) (fun v J2 h => ?_)
  obtain ⟨⟨r2, rfl⟩, hQ2⟩ := h
  refine Rn.pop dL_law__1778 rfl ?_
  refine Rn.goto 1782 dL_law__1779 (by decide) ?_
  exact Rn.bud (by omega) (kk _ _ _ (hI.of (hQ1.tr hQ2)))
end LawC
