theorem dL_law__1515 : decode cL_law_ 1515 = .ok (.aload_n 1, 1) := by decide +kernel
theorem dL_law__1516 : decode cL_law_ 1516 = .ok (.aload_n 0, 1) := by decide +kernel
theorem dL_law__1517 : decode cL_law_ 1517 = .ok (.iload 4, 2) := by decide +kernel
theorem dL_law__1519 : decode cL_law_ 1519 = .ok (.iconst 1, 1) := by decide +kernel
theorem dL_law__1520 : decode cL_law_ 1520 = .ok (.iadd, 1) := by decide +kernel
theorem dL_law__1521 : decode cL_law_ 1521 = .ok (.iaload, 1) := by decide +kernel
theorem dL_law__1522 : decode cL_law_ 1522 = .ok (.aload_n 0, 1) := by decide +kernel
theorem dL_law__1523 : decode cL_law_ 1523 = .ok (.iload 4, 2) := by decide +kernel
theorem dL_law__1525 : decode cL_law_ 1525 = .ok (.iconst 2, 1) := by decide +kernel
theorem dL_law__1526 : decode cL_law_ 1526 = .ok (.iadd, 1) := by decide +kernel
theorem dL_law__1527 : decode cL_law_ 1527 = .ok (.iaload, 1) := by decide +kernel
theorem dL_law__1528 : decode cL_law_ 1528 = .ok (.ifCond .eq 7, 3) := by decide +kernel
theorem dL_law__1535 : decode cL_law_ 1535 = .ok (.iconst 0, 1) := by decide +kernel
theorem dL_law__1536 : decode cL_law_ 1536 = .ok (.aload_n 3, 1) := by decide +kernel
theorem dL_law__1537 : decode cL_law_ 1537 = .ok (.invokestatic 273, 3) := by decide +kernel
theorem wi_1221 : Cond.codeWith yL_trial cL_trial 5 (some .int) [(0, 10, 13, 13)] ∈ WA := zin 1221 (by decide +kernel) (by decide +kernel)
theorem wi_1219 : Cond.methodLink RL 273 yL_trial ∈ WA := zin 1219 (by decide +kernel) (by decide +kernel)
theorem wi_1220 : Cond.static yL_trial ∈ WA := zin 1220 (by decide +kernel) (by decide +kernel)
theorem mw_L_273 : zMw RL 273 mL_trial [(0, 10, 13, 13)] 4 := ⟨wi_1219, wi_99, wi_1221, by decide, by decide +kernel, wi_1220⟩
theorem dL_law__1540 : decode cL_law_ 1540 = .ok (.istore 5, 2) := by decide +kernel
theorem dL_law__1542 : decode cL_law_ 1542 = .ok (.aload_n 2, 1) := by decide +kernel
theorem dL_law__1543 : decode cL_law_ 1543 = .ok (.aload_n 0, 1) := by decide +kernel
theorem dL_law__1544 : decode cL_law_ 1544 = .ok (.iload 4, 2) := by decide +kernel
theorem dL_law__1546 : decode cL_law_ 1546 = .ok (.iconst 1, 1) := by decide +kernel
theorem dL_law__1547 : decode cL_law_ 1547 = .ok (.iadd, 1) := by decide +kernel
theorem dL_law__1548 : decode cL_law_ 1548 = .ok (.iaload, 1) := by decide +kernel
theorem dL_law__1549 : decode cL_law_ 1549 = .ok (.aload_n 0, 1) := by decide +kernel
theorem dL_law__1550 : decode cL_law_ 1550 = .ok (.iload 4, 2) := by decide +kernel
theorem dL_law__1552 : decode cL_law_ 1552 = .ok (.iconst 2, 1) := by decide +kernel
theorem dL_law__1553 : decode cL_law_ 1553 = .ok (.iadd, 1) := by decide +kernel
theorem dL_law__1554 : decode cL_law_ 1554 = .ok (.iaload, 1) := by decide +kernel
theorem dL_law__1555 : decode cL_law_ 1555 = .ok (.ifCond .eq 7, 3) := by decide +kernel
theorem dL_law__1562 : decode cL_law_ 1562 = .ok (.iconst 0, 1) := by decide +kernel
theorem dL_law__1563 : decode cL_law_ 1563 = .ok (.invokevirtual 275, 3) := by decide +kernel
theorem wi_1904 : Cond.methodLink RL 275 yX10_trial ∈ WA := zin 1904 (by decide +kernel) (by decide +kernel)
theorem wi_1907 : Cond.code yX10_trial cX10_trial 4 (some .int) ∈ WA := zin 1907 (by decide +kernel) (by decide +kernel)
theorem wi_1905 : Cond.instanceMethod yX10_trial ∈ WA := zin 1905 (by decide +kernel) (by decide +kernel)
theorem wi_1906 : Cond.selects RX10 yX10_trial yX10_trial ∈ WA := zin 1906 (by decide +kernel) (by decide +kernel)
theorem mv_L_275 : zMv RL 275 RX10 mX10_trial 2 := ⟨⟨wi_1904, wi_110, wi_1907, by decide, by decide +kernel⟩, wi_1905, wi_1906⟩
theorem dL_law__1566 : decode cL_law_ 1566 = .ok (.istore 6, 2) := by decide +kernel
theorem dL_law__1568 : decode cL_law_ 1568 = .ok (.goto 242, 3) := by decide +kernel
theorem dL_law__1558 : decode cL_law_ 1558 = .ok (.iconst 1, 1) := by decide +kernel
theorem dL_law__1559 : decode cL_law_ 1559 = .ok (.goto 4, 3) := by decide +kernel
theorem dL_law__1531 : decode cL_law_ 1531 = .ok (.iconst 1, 1) := by decide +kernel
theorem dL_law__1532 : decode cL_law_ 1532 = .ok (.goto 4, 3) := by decide +kernel
theorem dL_law__1571 : decode cL_law_ 1571 = .ok (.aload_n 1, 1) := by decide +kernel
theorem dL_law__1572 : decode cL_law_ 1572 = .ok (.aload_n 0, 1) := by decide +kernel
theorem dL_law__1573 : decode cL_law_ 1573 = .ok (.iload 4, 2) := by decide +kernel
theorem dL_law__1575 : decode cL_law_ 1575 = .ok (.iconst 1, 1) := by decide +kernel
theorem dL_law__1576 : decode cL_law_ 1576 = .ok (.iadd, 1) := by decide +kernel
theorem dL_law__1577 : decode cL_law_ 1577 = .ok (.iaload, 1) := by decide +kernel
theorem dL_law__1578 : decode cL_law_ 1578 = .ok (.aload_n 0, 1) := by decide +kernel
theorem dL_law__1579 : decode cL_law_ 1579 = .ok (.iload 4, 2) := by decide +kernel
theorem dL_law__1581 : decode cL_law_ 1581 = .ok (.iconst 2, 1) := by decide +kernel
theorem dL_law__1582 : decode cL_law_ 1582 = .ok (.iadd, 1) := by decide +kernel
theorem dL_law__1583 : decode cL_law_ 1583 = .ok (.iaload, 1) := by decide +kernel
theorem dL_law__1584 : decode cL_law_ 1584 = .ok (.ifCond .eq 7, 3) := by decide +kernel
theorem dL_law__1591 : decode cL_law_ 1591 = .ok (.iconst 0, 1) := by decide +kernel
theorem dL_law__1592 : decode cL_law_ 1592 = .ok (.aload_n 3, 1) := by decide +kernel
theorem dL_law__1593 : decode cL_law_ 1593 = .ok (.invokestatic 276, 3) := by decide +kernel
theorem wi_1232 : Cond.codeWith yL_span cL_span 5 (some .int) [(0, 10, 13, 13)] ∈ WA := zin 1232 (by decide +kernel) (by decide +kernel)
theorem wi_1230 : Cond.methodLink RL 276 yL_span ∈ WA := zin 1230 (by decide +kernel) (by decide +kernel)
theorem wi_1231 : Cond.static yL_span ∈ WA := zin 1231 (by decide +kernel) (by decide +kernel)
theorem mw_L_276 : zMw RL 276 mL_span [(0, 10, 13, 13)] 4 := ⟨wi_1230, wi_99, wi_1232, by decide, by decide +kernel, wi_1231⟩
theorem dL_law__1596 : decode cL_law_ 1596 = .ok (.istore 5, 2) := by decide +kernel
theorem dL_law__1598 : decode cL_law_ 1598 = .ok (.aload_n 2, 1) := by decide +kernel
theorem dL_law__1599 : decode cL_law_ 1599 = .ok (.aload_n 0, 1) := by decide +kernel
theorem dL_law__1600 : decode cL_law_ 1600 = .ok (.iload 4, 2) := by decide +kernel
theorem dL_law__1602 : decode cL_law_ 1602 = .ok (.iconst 1, 1) := by decide +kernel
theorem dL_law__1603 : decode cL_law_ 1603 = .ok (.iadd, 1) := by decide +kernel
theorem dL_law__1604 : decode cL_law_ 1604 = .ok (.iaload, 1) := by decide +kernel
theorem dL_law__1605 : decode cL_law_ 1605 = .ok (.aload_n 0, 1) := by decide +kernel
theorem dL_law__1606 : decode cL_law_ 1606 = .ok (.iload 4, 2) := by decide +kernel
theorem dL_law__1608 : decode cL_law_ 1608 = .ok (.iconst 2, 1) := by decide +kernel
theorem dL_law__1609 : decode cL_law_ 1609 = .ok (.iadd, 1) := by decide +kernel
theorem dL_law__1610 : decode cL_law_ 1610 = .ok (.iaload, 1) := by decide +kernel
theorem dL_law__1611 : decode cL_law_ 1611 = .ok (.ifCond .eq 7, 3) := by decide +kernel
theorem dL_law__1618 : decode cL_law_ 1618 = .ok (.iconst 0, 1) := by decide +kernel
theorem dL_law__1619 : decode cL_law_ 1619 = .ok (.invokevirtual 278, 3) := by decide +kernel
theorem wi_1912 : Cond.methodLink RL 278 yX10_span ∈ WA := zin 1912 (by decide +kernel) (by decide +kernel)
theorem wi_1915 : Cond.code yX10_span cX10_span 6 (some .int) ∈ WA := zin 1915 (by decide +kernel) (by decide +kernel)
theorem wi_1913 : Cond.instanceMethod yX10_span ∈ WA := zin 1913 (by decide +kernel) (by decide +kernel)
theorem wi_1914 : Cond.selects RX10 yX10_span yX10_span ∈ WA := zin 1914 (by decide +kernel) (by decide +kernel)
theorem mv_L_278 : zMv RL 278 RX10 mX10_span 2 := ⟨⟨wi_1912, wi_110, wi_1915, by decide, by decide +kernel⟩, wi_1913, wi_1914⟩
theorem dL_law__1622 : decode cL_law_ 1622 = .ok (.istore 6, 2) := by decide +kernel
theorem dL_law__1624 : decode cL_law_ 1624 = .ok (.goto 186, 3) := by decide +kernel
theorem dL_law__1614 : decode cL_law_ 1614 = .ok (.iconst 1, 1) := by decide +kernel
theorem dL_law__1615 : decode cL_law_ 1615 = .ok (.goto 4, 3) := by decide +kernel
theorem dL_law__1587 : decode cL_law_ 1587 = .ok (.iconst 1, 1) := by decide +kernel
theorem dL_law__1588 : decode cL_law_ 1588 = .ok (.goto 4, 3) := by decide +kernel
theorem dL_law__1627 : decode cL_law_ 1627 = .ok (.aload_n 1, 1) := by decide +kernel
theorem dL_law__1628 : decode cL_law_ 1628 = .ok (.aload_n 0, 1) := by decide +kernel
theorem dL_law__1629 : decode cL_law_ 1629 = .ok (.iload 4, 2) := by decide +kernel
theorem dL_law__1631 : decode cL_law_ 1631 = .ok (.iconst 1, 1) := by decide +kernel
theorem dL_law__1632 : decode cL_law_ 1632 = .ok (.iadd, 1) := by decide +kernel
theorem dL_law__1633 : decode cL_law_ 1633 = .ok (.iaload, 1) := by decide +kernel
theorem dL_law__1634 : decode cL_law_ 1634 = .ok (.aload_n 0, 1) := by decide +kernel
theorem dL_law__1635 : decode cL_law_ 1635 = .ok (.iload 4, 2) := by decide +kernel
theorem dL_law__1637 : decode cL_law_ 1637 = .ok (.iconst 2, 1) := by decide +kernel
theorem dL_law__1638 : decode cL_law_ 1638 = .ok (.iadd, 1) := by decide +kernel
theorem dL_law__1639 : decode cL_law_ 1639 = .ok (.iaload, 1) := by decide +kernel
theorem dL_law__1640 : decode cL_law_ 1640 = .ok (.ifCond .eq 7, 3) := by decide +kernel
theorem dL_law__1647 : decode cL_law_ 1647 = .ok (.iconst 0, 1) := by decide +kernel
theorem dL_law__1648 : decode cL_law_ 1648 = .ok (.aload_n 3, 1) := by decide +kernel
theorem dL_law__1649 : decode cL_law_ 1649 = .ok (.invokestatic 279, 3) := by decide +kernel
theorem wi_1239 : Cond.codeWith yL_led cL_led 5 (some .int) [(0, 10, 13, 24)] ∈ WA := zin 1239 (by decide +kernel) (by decide +kernel)
theorem wi_1237 : Cond.methodLink RL 279 yL_led ∈ WA := zin 1237 (by decide +kernel) (by decide +kernel)
theorem wi_1238 : Cond.static yL_led ∈ WA := zin 1238 (by decide +kernel) (by decide +kernel)
theorem mw_L_279 : zMw RL 279 mL_led [(0, 10, 13, 24)] 4 := ⟨wi_1237, wi_99, wi_1239, by decide, by decide +kernel, wi_1238⟩
theorem dL_law__1652 : decode cL_law_ 1652 = .ok (.istore 5, 2) := by decide +kernel
theorem dL_law__1654 : decode cL_law_ 1654 = .ok (.aload_n 2, 1) := by decide +kernel
theorem dL_law__1655 : decode cL_law_ 1655 = .ok (.aload_n 0, 1) := by decide +kernel
theorem dL_law__1656 : decode cL_law_ 1656 = .ok (.iload 4, 2) := by decide +kernel
theorem dL_law__1658 : decode cL_law_ 1658 = .ok (.iconst 1, 1) := by decide +kernel
theorem dL_law__1659 : decode cL_law_ 1659 = .ok (.iadd, 1) := by decide +kernel
theorem dL_law__1660 : decode cL_law_ 1660 = .ok (.iaload, 1) := by decide +kernel
theorem dL_law__1661 : decode cL_law_ 1661 = .ok (.aload_n 0, 1) := by decide +kernel
theorem dL_law__1662 : decode cL_law_ 1662 = .ok (.iload 4, 2) := by decide +kernel
theorem dL_law__1664 : decode cL_law_ 1664 = .ok (.iconst 2, 1) := by decide +kernel
theorem dL_law__1665 : decode cL_law_ 1665 = .ok (.iadd, 1) := by decide +kernel
theorem dL_law__1666 : decode cL_law_ 1666 = .ok (.iaload, 1) := by decide +kernel
theorem dL_law__1667 : decode cL_law_ 1667 = .ok (.ifCond .eq 7, 3) := by decide +kernel
theorem dL_law__1674 : decode cL_law_ 1674 = .ok (.iconst 0, 1) := by decide +kernel
theorem dL_law__1675 : decode cL_law_ 1675 = .ok (.invokevirtual 281, 3) := by decide +kernel
theorem wi_1916 : Cond.methodLink RL 281 yX10_led ∈ WA := zin 1916 (by decide +kernel) (by decide +kernel)
theorem wi_1919 : Cond.code yX10_led cX10_led 6 (some .int) ∈ WA := zin 1919 (by decide +kernel) (by decide +kernel)
theorem wi_1917 : Cond.instanceMethod yX10_led ∈ WA := zin 1917 (by decide +kernel) (by decide +kernel)
theorem wi_1918 : Cond.selects RX10 yX10_led yX10_led ∈ WA := zin 1918 (by decide +kernel) (by decide +kernel)
theorem mv_L_281 : zMv RL 281 RX10 mX10_led 2 := ⟨⟨wi_1916, wi_110, wi_1919, by decide, by decide +kernel⟩, wi_1917, wi_1918⟩
theorem dL_law__1678 : decode cL_law_ 1678 = .ok (.istore 6, 2) := by decide +kernel
theorem dL_law__1680 : decode cL_law_ 1680 = .ok (.goto 130, 3) := by decide +kernel
theorem dL_law__1670 : decode cL_law_ 1670 = .ok (.iconst 1, 1) := by decide +kernel
theorem dL_law__1671 : decode cL_law_ 1671 = .ok (.goto 4, 3) := by decide +kernel
theorem dL_law__1643 : decode cL_law_ 1643 = .ok (.iconst 1, 1) := by decide +kernel
theorem dL_law__1644 : decode cL_law_ 1644 = .ok (.goto 4, 3) := by decide +kernel
theorem dL_law__1683 : decode cL_law_ 1683 = .ok (.aload_n 1, 1) := by decide +kernel
theorem dL_law__1684 : decode cL_law_ 1684 = .ok (.aload_n 0, 1) := by decide +kernel
theorem dL_law__1685 : decode cL_law_ 1685 = .ok (.iload 4, 2) := by decide +kernel
theorem dL_law__1687 : decode cL_law_ 1687 = .ok (.iconst 1, 1) := by decide +kernel
theorem dL_law__1688 : decode cL_law_ 1688 = .ok (.iadd, 1) := by decide +kernel
theorem dL_law__1689 : decode cL_law_ 1689 = .ok (.iaload, 1) := by decide +kernel
theorem dL_law__1690 : decode cL_law_ 1690 = .ok (.aload_n 0, 1) := by decide +kernel
theorem dL_law__1691 : decode cL_law_ 1691 = .ok (.iload 4, 2) := by decide +kernel
theorem dL_law__1693 : decode cL_law_ 1693 = .ok (.iconst 2, 1) := by decide +kernel
theorem dL_law__1694 : decode cL_law_ 1694 = .ok (.iadd, 1) := by decide +kernel
theorem dL_law__1695 : decode cL_law_ 1695 = .ok (.iaload, 1) := by decide +kernel
theorem dL_law__1696 : decode cL_law_ 1696 = .ok (.aload_n 3, 1) := by decide +kernel
theorem dL_law__1697 : decode cL_law_ 1697 = .ok (.invokestatic 282, 3) := by decide +kernel
theorem wi_1247 : Cond.codeWith yL_log cL_log 5 (some .int) [(0, 10, 13, 26)] ∈ WA := zin 1247 (by decide +kernel) (by decide +kernel)
theorem wi_1245 : Cond.methodLink RL 282 yL_log ∈ WA := zin 1245 (by decide +kernel) (by decide +kernel)
theorem wi_1246 : Cond.static yL_log ∈ WA := zin 1246 (by decide +kernel) (by decide +kernel)
theorem mw_L_282 : zMw RL 282 mL_log [(0, 10, 13, 26)] 4 := ⟨wi_1245, wi_99, wi_1247, by decide, by decide +kernel, wi_1246⟩
theorem dL_law__1700 : decode cL_law_ 1700 = .ok (.istore 5, 2) := by decide +kernel
theorem dL_law__1702 : decode cL_law_ 1702 = .ok (.aload_n 2, 1) := by decide +kernel
theorem dL_law__1703 : decode cL_law_ 1703 = .ok (.aload_n 0, 1) := by decide +kernel
theorem dL_law__1704 : decode cL_law_ 1704 = .ok (.iload 4, 2) := by decide +kernel
theorem dL_law__1706 : decode cL_law_ 1706 = .ok (.iconst 1, 1) := by decide +kernel
theorem dL_law__1707 : decode cL_law_ 1707 = .ok (.iadd, 1) := by decide +kernel
theorem dL_law__1708 : decode cL_law_ 1708 = .ok (.iaload, 1) := by decide +kernel
theorem dL_law__1709 : decode cL_law_ 1709 = .ok (.aload_n 0, 1) := by decide +kernel
theorem dL_law__1710 : decode cL_law_ 1710 = .ok (.iload 4, 2) := by decide +kernel
theorem dL_law__1712 : decode cL_law_ 1712 = .ok (.iconst 2, 1) := by decide +kernel
theorem dL_law__1713 : decode cL_law_ 1713 = .ok (.iadd, 1) := by decide +kernel
theorem dL_law__1714 : decode cL_law_ 1714 = .ok (.iaload, 1) := by decide +kernel
theorem dL_law__1715 : decode cL_law_ 1715 = .ok (.invokevirtual 284, 3) := by decide +kernel
theorem wi_1920 : Cond.methodLink RL 284 yX10_log ∈ WA := zin 1920 (by decide +kernel) (by decide +kernel)
theorem wi_1923 : Cond.code yX10_log cX10_log 3 (some .int) ∈ WA := zin 1923 (by decide +kernel) (by decide +kernel)
theorem wi_1921 : Cond.instanceMethod yX10_log ∈ WA := zin 1921 (by decide +kernel) (by decide +kernel)
theorem wi_1922 : Cond.selects RX10 yX10_log yX10_log ∈ WA := zin 1922 (by decide +kernel) (by decide +kernel)
theorem mv_L_284 : zMv RL 284 RX10 mX10_log 2 := ⟨⟨wi_1920, wi_110, wi_1923, by decide, by decide +kernel⟩, wi_1921, wi_1922⟩
theorem dL_law__1718 : decode cL_law_ 1718 = .ok (.istore 6, 2) := by decide +kernel
theorem dL_law__1720 : decode cL_law_ 1720 = .ok (.goto 90, 3) := by decide +kernel
theorem dL_law__1723 : decode cL_law_ 1723 = .ok (.aload_n 1, 1) := by decide +kernel
theorem dL_law__1724 : decode cL_law_ 1724 = .ok (.aload_n 0, 1) := by decide +kernel
theorem dL_law__1725 : decode cL_law_ 1725 = .ok (.iload 4, 2) := by decide +kernel
theorem dL_law__1727 : decode cL_law_ 1727 = .ok (.iconst 1, 1) := by decide +kernel
theorem dL_law__1728 : decode cL_law_ 1728 = .ok (.iadd, 1) := by decide +kernel
theorem dL_law__1729 : decode cL_law_ 1729 = .ok (.iaload, 1) := by decide +kernel
theorem dL_law__1730 : decode cL_law_ 1730 = .ok (.invokevirtual 285, 3) := by decide +kernel
theorem wi_490 : Cond.methodLink RL 285 yX9_seed ∈ WA := zin 490 (by decide +kernel) (by decide +kernel)
theorem wi_493 : Cond.code yX9_seed cX9_seed 3 (some .int) ∈ WA := zin 493 (by decide +kernel) (by decide +kernel)
theorem wi_491 : Cond.instanceMethod yX9_seed ∈ WA := zin 491 (by decide +kernel) (by decide +kernel)
theorem wi_492 : Cond.selects RX9 yX9_seed yX9_seed ∈ WA := zin 492 (by decide +kernel) (by decide +kernel)
theorem mv_L_285 : zMv RL 285 RX9 mX9_seed 1 := ⟨⟨wi_490, wi_100, wi_493, by decide, by decide +kernel⟩, wi_491, wi_492⟩
theorem dL_law__1733 : decode cL_law_ 1733 = .ok (.pop, 1) := by decide +kernel
theorem dL_law__1734 : decode cL_law_ 1734 = .ok (.aload_n 2, 1) := by decide +kernel
theorem dL_law__1735 : decode cL_law_ 1735 = .ok (.aload_n 0, 1) := by decide +kernel
theorem dL_law__1736 : decode cL_law_ 1736 = .ok (.iload 4, 2) := by decide +kernel
theorem dL_law__1738 : decode cL_law_ 1738 = .ok (.iconst 1, 1) := by decide +kernel
theorem dL_law__1739 : decode cL_law_ 1739 = .ok (.iadd, 1) := by decide +kernel
theorem dL_law__1740 : decode cL_law_ 1740 = .ok (.iaload, 1) := by decide +kernel
theorem dL_law__1741 : decode cL_law_ 1741 = .ok (.invokevirtual 288, 3) := by decide +kernel
theorem wi_1924 : Cond.methodLink RL 288 yX10_seed ∈ WA := zin 1924 (by decide +kernel) (by decide +kernel)
theorem wi_1927 : Cond.code yX10_seed cX10_seed 3 (some .int) ∈ WA := zin 1927 (by decide +kernel) (by decide +kernel)
theorem wi_1925 : Cond.instanceMethod yX10_seed ∈ WA := zin 1925 (by decide +kernel) (by decide +kernel)
theorem wi_1926 : Cond.selects RX10 yX10_seed yX10_seed ∈ WA := zin 1926 (by decide +kernel) (by decide +kernel)
theorem mv_L_288 : zMv RL 288 RX10 mX10_seed 1 := ⟨⟨wi_1924, wi_110, wi_1927, by decide, by decide +kernel⟩, wi_1925, wi_1926⟩
theorem dL_law__1744 : decode cL_law_ 1744 = .ok (.pop, 1) := by decide +kernel
theorem dL_law__1745 : decode cL_law_ 1745 = .ok (.goto 65, 3) := by decide +kernel
theorem dL_law__1748 : decode cL_law_ 1748 = .ok (.aload_n 1, 1) := by decide +kernel
theorem dL_law__1749 : decode cL_law_ 1749 = .ok (.invokevirtual 289, 3) := by decide +kernel
theorem wi_494 : Cond.methodLink RL 289 yX9_undo ∈ WA := zin 494 (by decide +kernel) (by decide +kernel)
theorem wi_497 : Cond.code yX9_undo cX9_undo 1 (some .boolean) ∈ WA := zin 497 (by decide +kernel) (by decide +kernel)
theorem wi_495 : Cond.instanceMethod yX9_undo ∈ WA := zin 495 (by decide +kernel) (by decide +kernel)
theorem wi_496 : Cond.selects RX9 yX9_undo yX9_undo ∈ WA := zin 496 (by decide +kernel) (by decide +kernel)
theorem mv_L_289 : zMv RL 289 RX9 mX9_undo 0 := ⟨⟨wi_494, wi_100, wi_497, by decide, by decide +kernel⟩, wi_495, wi_496⟩
theorem dL_law__1752 : decode cL_law_ 1752 = .ok (.pop, 1) := by decide +kernel
theorem dL_law__1753 : decode cL_law_ 1753 = .ok (.aload_n 2, 1) := by decide +kernel
theorem dL_law__1754 : decode cL_law_ 1754 = .ok (.invokevirtual 293, 3) := by decide +kernel
theorem wi_1341 : Cond.methodLink RL 293 yX10_undo ∈ WA := zin 1341 (by decide +kernel) (by decide +kernel)
theorem wi_1344 : Cond.code yX10_undo cX10_undo 2 (some .boolean) ∈ WA := zin 1344 (by decide +kernel) (by decide +kernel)
theorem wi_1342 : Cond.instanceMethod yX10_undo ∈ WA := zin 1342 (by decide +kernel) (by decide +kernel)
theorem wi_1343 : Cond.selects RX10 yX10_undo yX10_undo ∈ WA := zin 1343 (by decide +kernel) (by decide +kernel)
theorem mv_L_293 : zMv RL 293 RX10 mX10_undo 0 := ⟨⟨wi_1341, wi_110, wi_1344, by decide, by decide +kernel⟩, wi_1342, wi_1343⟩
theorem dL_law__1757 : decode cL_law_ 1757 = .ok (.pop, 1) := by decide +kernel
theorem dL_law__1758 : decode cL_law_ 1758 = .ok (.goto 52, 3) := by decide +kernel
theorem dL_law__1761 : decode cL_law_ 1761 = .ok (.aload_n 1, 1) := by decide +kernel
theorem dL_law__1762 : decode cL_law_ 1762 = .ok (.invokevirtual 294, 3) := by decide +kernel
theorem wi_509 : Cond.methodLink RL 294 yX9_image ∈ WA := zin 509 (by decide +kernel) (by decide +kernel)
theorem wi_512 : Cond.code yX9_image cX9_image 1 (none) ∈ WA := zin 512 (by decide +kernel) (by decide +kernel)
theorem wi_510 : Cond.instanceMethod yX9_image ∈ WA := zin 510 (by decide +kernel) (by decide +kernel)
theorem wi_511 : Cond.selects RX9 yX9_image yX9_image ∈ WA := zin 511 (by decide +kernel) (by decide +kernel)
theorem mv_L_294 : zMv RL 294 RX9 mX9_image 0 := ⟨⟨wi_509, wi_100, wi_512, by decide, by decide +kernel⟩, wi_510, wi_511⟩
theorem dL_law__1765 : decode cL_law_ 1765 = .ok (.aload_n 2, 1) := by decide +kernel
theorem dL_law__1766 : decode cL_law_ 1766 = .ok (.invokevirtual 297, 3) := by decide +kernel
theorem wi_1333 : Cond.methodLink RL 297 yX10_image ∈ WA := zin 1333 (by decide +kernel) (by decide +kernel)
theorem wi_1336 : Cond.code yX10_image cX10_image 2 (none) ∈ WA := zin 1336 (by decide +kernel) (by decide +kernel)
theorem wi_1334 : Cond.instanceMethod yX10_image ∈ WA := zin 1334 (by decide +kernel) (by decide +kernel)
theorem wi_1335 : Cond.selects RX10 yX10_image yX10_image ∈ WA := zin 1335 (by decide +kernel) (by decide +kernel)
theorem mv_L_297 : zMv RL 297 RX10 mX10_image 0 := ⟨⟨wi_1333, wi_110, wi_1336, by decide, by decide +kernel⟩, wi_1334, wi_1335⟩
theorem dL_law__1769 : decode cL_law_ 1769 = .ok (.goto 41, 3) := by decide +kernel
theorem dL_law__1772 : decode cL_law_ 1772 = .ok (.aload_n 1, 1) := by decide +kernel
theorem dL_law__1773 : decode cL_law_ 1773 = .ok (.invokevirtual 298, 3) := by decide +kernel
theorem wi_519 : Cond.methodLink RL 298 yX9_back ∈ WA := zin 519 (by decide +kernel) (by decide +kernel)
theorem wi_522 : Cond.code yX9_back cX9_back 1 (some .boolean) ∈ WA := zin 522 (by decide +kernel) (by decide +kernel)
theorem wi_520 : Cond.instanceMethod yX9_back ∈ WA := zin 520 (by decide +kernel) (by decide +kernel)
theorem wi_521 : Cond.selects RX9 yX9_back yX9_back ∈ WA := zin 521 (by decide +kernel) (by decide +kernel)
theorem mv_L_298 : zMv RL 298 RX9 mX9_back 0 := ⟨⟨wi_519, wi_100, wi_522, by decide, by decide +kernel⟩, wi_520, wi_521⟩
theorem dL_law__1776 : decode cL_law_ 1776 = .ok (.pop, 1) := by decide +kernel
theorem dL_law__1777 : decode cL_law_ 1777 = .ok (.aload_n 2, 1) := by decide +kernel
theorem dL_law__1778 : decode cL_law_ 1778 = .ok (.invokevirtual 301, 3) := by decide +kernel
theorem wi_1337 : Cond.methodLink RL 301 yX10_back ∈ WA := zin 1337 (by decide +kernel) (by decide +kernel)
theorem wi_1340 : Cond.code yX10_back cX10_back 2 (some .boolean) ∈ WA := zin 1340 (by decide +kernel) (by decide +kernel)
theorem wi_1338 : Cond.instanceMethod yX10_back ∈ WA := zin 1338 (by decide +kernel) (by decide +kernel)
theorem wi_1339 : Cond.selects RX10 yX10_back yX10_back ∈ WA := zin 1339 (by decide +kernel) (by decide +kernel)
theorem mv_L_301 : zMv RL 301 RX10 mX10_back 0 := ⟨⟨wi_1337, wi_110, wi_1340, by decide, by decide +kernel⟩, wi_1338, wi_1339⟩
theorem dL_law__1781 : decode cL_law_ 1781 = .ok (.pop, 1) := by decide +kernel
theorem dL_law__1782 : decode cL_law_ 1782 = .ok (.goto 28, 3) := by decide +kernel
theorem dL_law__1785 : decode cL_law_ 1785 = .ok (.aload_n 1, 1) := by decide +kernel
theorem dL_law__1786 : decode cL_law_ 1786 = .ok (.aload_n 0, 1) := by decide +kernel
theorem dL_law__1787 : decode cL_law_ 1787 = .ok (.iload 4, 2) := by decide +kernel
theorem dL_law__1789 : decode cL_law_ 1789 = .ok (.iconst 1, 1) := by decide +kernel
theorem dL_law__1790 : decode cL_law_ 1790 = .ok (.iadd, 1) := by decide +kernel
theorem dL_law__1791 : decode cL_law_ 1791 = .ok (.iaload, 1) := by decide +kernel
theorem dL_law__1792 : decode cL_law_ 1792 = .ok (.invokevirtual 302, 3) := by decide +kernel
theorem wi_527 : Cond.methodLink RL 302 yX9_count ∈ WA := zin 527 (by decide +kernel) (by decide +kernel)
theorem wi_530 : Cond.code yX9_count cX9_count 2 (some .int) ∈ WA := zin 530 (by decide +kernel) (by decide +kernel)
theorem wi_528 : Cond.instanceMethod yX9_count ∈ WA := zin 528 (by decide +kernel) (by decide +kernel)
theorem wi_529 : Cond.selects RX9 yX9_count yX9_count ∈ WA := zin 529 (by decide +kernel) (by decide +kernel)
theorem mv_L_302 : zMv RL 302 RX9 mX9_count 1 := ⟨⟨wi_527, wi_100, wi_530, by decide, by decide +kernel⟩, wi_528, wi_529⟩
theorem dL_law__1795 : decode cL_law_ 1795 = .ok (.pop, 1) := by decide +kernel
theorem dL_law__1796 : decode cL_law_ 1796 = .ok (.aload_n 2, 1) := by decide +kernel
theorem dL_law__1797 : decode cL_law_ 1797 = .ok (.aload_n 0, 1) := by decide +kernel
theorem dL_law__1798 : decode cL_law_ 1798 = .ok (.iload 4, 2) := by decide +kernel
theorem dL_law__1800 : decode cL_law_ 1800 = .ok (.iconst 1, 1) := by decide +kernel
theorem dL_law__1801 : decode cL_law_ 1801 = .ok (.iadd, 1) := by decide +kernel
theorem dL_law__1802 : decode cL_law_ 1802 = .ok (.iaload, 1) := by decide +kernel
theorem dL_law__1803 : decode cL_law_ 1803 = .ok (.invokevirtual 305, 3) := by decide +kernel
theorem wi_1928 : Cond.methodLink RL 305 yX10_count ∈ WA := zin 1928 (by decide +kernel) (by decide +kernel)
theorem wi_1931 : Cond.code yX10_count cX10_count 5 (some .int) ∈ WA := zin 1931 (by decide +kernel) (by decide +kernel)
theorem wi_1929 : Cond.instanceMethod yX10_count ∈ WA := zin 1929 (by decide +kernel) (by decide +kernel)
theorem wi_1930 : Cond.selects RX10 yX10_count yX10_count ∈ WA := zin 1930 (by decide +kernel) (by decide +kernel)
theorem mv_L_305 : zMv RL 305 RX10 mX10_count 1 := ⟨⟨wi_1928, wi_110, wi_1931, by decide, by decide +kernel⟩, wi_1929, wi_1930⟩
theorem dL_law__1806 : decode cL_law_ 1806 = .ok (.pop, 1) := by decide +kernel
theorem dL_law__1807 : decode cL_law_ 1807 = .ok (.goto 3, 3) := by decide +kernel
section LawC
variable {G0 : Gx} {b0 L m i : Nat} {xs : Nat → Int32} {ad : Nat → Nat} {I : Hi} {x5 x6 : Option Value}
theorem lc_trial (h9 : gad G0 998 = b0) (hL : L ≤ 3072) (hi : i + 6 ≤ L) (hI : LI I) (kk : ∀ (J : Hi) (x5 x6 : Option Value), LI J → Rn (gw G0 ad) GAM mL_law_ (kZ (kL b0 L xs) G0 0 ad 108) 60 (8 * m) 1810 [some (.ref 998), some (.ref 0), some (.ref 94), some (.ref 107), some (.int (nI i)), x5, x6] [] J) : Rn (gw G0 ad) GAM mL_law_ (kZ (kL b0 L xs) G0 0 ad 108) 60 (8 * m + 8) 1515 [some (.ref 998), some (.ref 0), some (.ref 94), some (.ref 107), some (.int (nI i)), x5, x6] [] I := by
  refine Rn.aload_n dL_law__1515 rfl rfl ?_
  refine Rn.aload_n dL_law__1516 rfl rfl ?_
  refine Rn.iload dL_law__1517 rfl ?_
  refine Rn.iconst (v := (nI 1)) dL_law__1519 rfl ?_
  refine Rn.iadd dL_law__1520 ?_
  refine Rn.topI (nI (i + 1)) (nI_add _ _) ?_
  refine Rn.sld dL_law__1521 h9 (by omega) (by omega) rfl ?_
  refine Rn.aload_n dL_law__1522 rfl rfl ?_
  refine Rn.iload dL_law__1523 rfl ?_
  refine Rn.iconst (v := (nI 2)) dL_law__1525 rfl ?_
  refine Rn.iadd dL_law__1526 ?_
  refine Rn.topI (nI (i + 2)) (nI_add _ _) ?_
  refine Rn.sld dL_law__1527 h9 (by omega) (by omega) rfl ?_
  refine Rn.if_eq (tgt := 1535) dL_law__1528 (by decide) (fun _ => ?_) (fun _ => ?_)
  · refine Rn.iconst (v := (nI 0)) dL_law__1535 rfl ?_
    refine Rn.aload_n dL_law__1536 rfl rfl ?_
    refine Rn.callW (b := 8 * m + 7) (mc := 1) (As := [_, _, _, _]) dL_law__1537 mw_L_273 rfl rfl (Nat.le_of_ble_eq_true rfl) (wr_trial _ _ _ _ _ hI.1 hI.2.1) (fun _ _ h => h) (fun v J1 h => ?_)
    obtain ⟨⟨r1, rfl⟩, hQ1⟩ := h
    refine Rn.istore dL_law__1540 (by decide) ?_
    refine Rn.aload_n dL_law__1542 rfl rfl ?_
    refine Rn.aload_n dL_law__1543 rfl rfl ?_
    refine Rn.iload dL_law__1544 rfl ?_
    refine Rn.iconst (v := (nI 1)) dL_law__1546 rfl ?_
    refine Rn.iadd dL_law__1547 ?_
    refine Rn.topI (nI (i + 1)) (nI_add _ _) ?_
    refine Rn.sld dL_law__1548 h9 (by omega) (by omega) rfl ?_
    refine Rn.aload_n dL_law__1549 rfl rfl ?_
    refine Rn.iload dL_law__1550 rfl ?_
    refine Rn.iconst (v := (nI 2)) dL_law__1552 rfl ?_
    refine Rn.iadd dL_law__1553 ?_
    refine Rn.topI (nI (i + 2)) (nI_add _ _) ?_
    refine Rn.sld dL_law__1554 h9 (by omega) (by omega) rfl ?_
    refine Rn.if_eq (tgt := 1562) dL_law__1555 (by decide) (fun _ => ?_) (fun _ => ?_)
    · refine Rn.iconst (v := (nI 0)) dL_law__1562 rfl ?_
      refine Rn.callV (As := [_, _]) dL_law__1563 mv_L_275 (by first | rfl | exact gC0 (by assumption) | exact gL0 (by assumption)) rfl rfl rfl (Nat.le_of_ble_eq_true rfl) (mo_trial _ _ _ _ _ (iv_nI (n := 1) (k := 0) (by decide) (by decide)) hQ1.1 hQ1.2.1) (fun _ _ h => h) (fun v J2 h => ?_)
      obtain ⟨⟨r2, rfl⟩, hQ2⟩ := h
      refine Rn.istore dL_law__1566 (by decide) ?_
      refine Rn.goto 1810 dL_law__1568 (by decide) ?_
      exact Rn.bud (by omega) (kk _ _ _ (hI.of (hQ1.tr hQ2)))
    · refine Rn.iconst (v := (nI 1)) dL_law__1558 rfl ?_
      refine Rn.goto 1563 dL_law__1559 (by decide) ?_
      refine Rn.callV (As := [_, _]) dL_law__1563 mv_L_275 (by first | rfl | exact gC0 (by assumption) | exact gL0 (by assumption)) rfl rfl rfl (Nat.le_of_ble_eq_true rfl) (mo_trial _ _ _ _ _ (iv_nI (n := 1) (k := 1) (by decide) (by decide)) hQ1.1 hQ1.2.1) (fun _ _ h => h) (fun v J2 h => ?_)
      obtain ⟨⟨r2, rfl⟩, hQ2⟩ := h
      refine Rn.istore dL_law__1566 (by decide) ?_
      refine Rn.goto 1810 dL_law__1568 (by decide) ?_
      exact Rn.bud (by omega) (kk _ _ _ (hI.of (hQ1.tr hQ2)))
  · refine Rn.iconst (v := (nI 1)) dL_law__1531 rfl ?_
    refine Rn.goto 1536 dL_law__1532 (by decide) ?_
    refine Rn.aload_n dL_law__1536 rfl rfl ?_
    refine Rn.callW (b := 8 * m + 7) (mc := 1) (As := [_, _, _, _]) dL_law__1537 mw_L_273 rfl rfl (Nat.le_of_ble_eq_true rfl) (wr_trial _ _ _ _ _ hI.1 hI.2.1) (fun _ _ h => h) (fun v J1 h => ?_)
    obtain ⟨⟨r1, rfl⟩, hQ1⟩ := h
    refine Rn.istore dL_law__1540 (by decide) ?_
    refine Rn.aload_n dL_law__1542 rfl rfl ?_
    refine Rn.aload_n dL_law__1543 rfl rfl ?_
    refine Rn.iload dL_law__1544 rfl ?_
    refine Rn.iconst (v := (nI 1)) dL_law__1546 rfl ?_
    refine Rn.iadd dL_law__1547 ?_
    refine Rn.topI (nI (i + 1)) (nI_add _ _) ?_
    refine Rn.sld dL_law__1548 h9 (by omega) (by omega) rfl ?_
    refine Rn.aload_n dL_law__1549 rfl rfl ?_
    refine Rn.iload dL_law__1550 rfl ?_
    refine Rn.iconst (v := (nI 2)) dL_law__1552 rfl ?_
    refine Rn.iadd dL_law__1553 ?_
    refine Rn.topI (nI (i + 2)) (nI_add _ _) ?_
    refine Rn.sld dL_law__1554 h9 (by omega) (by omega) rfl ?_
    refine Rn.if_eq (tgt := 1562) dL_law__1555 (by decide) (fun _ => ?_) (fun _ => ?_)
    · refine Rn.iconst (v := (nI 0)) dL_law__1562 rfl ?_
      refine Rn.callV (As := [_, _]) dL_law__1563 mv_L_275 (by first | rfl | exact gC0 (by assumption) | exact gL0 (by assumption)) rfl rfl rfl (Nat.le_of_ble_eq_true rfl) (mo_trial _ _ _ _ _ (iv_nI (n := 1) (k := 0) (by decide) (by decide)) hQ1.1 hQ1.2.1) (fun _ _ h => h) (fun v J2 h => ?_)
      obtain ⟨⟨r2, rfl⟩, hQ2⟩ := h
      refine Rn.istore dL_law__1566 (by decide) ?_
      refine Rn.goto 1810 dL_law__1568 (by decide) ?_
      exact Rn.bud (by omega) (kk _ _ _ (hI.of (hQ1.tr hQ2)))
    · refine Rn.iconst (v := (nI 1)) dL_law__1558 rfl ?_
      refine Rn.goto 1563 dL_law__1559 (by decide) ?_
      refine Rn.callV (As := [_, _]) dL_law__1563 mv_L_275 (by first | rfl | exact gC0 (by assumption) | exact gL0 (by assumption)) rfl rfl rfl (Nat.le_of_ble_eq_true rfl) (mo_trial _ _ _ _ _ (iv_nI (n := 1) (k := 1) (by decide) (by decide)) hQ1.1 hQ1.2.1) (fun _ _ h => h) (fun v J2 h => ?_)
      obtain ⟨⟨r2, rfl⟩, hQ2⟩ := h
      refine Rn.istore dL_law__1566 (by decide) ?_
      refine Rn.goto 1810 dL_law__1568 (by decide) ?_
      exact Rn.bud (by omega) (kk _ _ _ (hI.of (hQ1.tr hQ2)))
theorem lc_span (h9 : gad G0 998 = b0) (hL : L ≤ 3072) (hi : i + 6 ≤ L) (hI : LI I) (kk : ∀ (J : Hi) (x5 x6 : Option Value), LI J → Rn (gw G0 ad) GAM mL_law_ (kZ (kL b0 L xs) G0 0 ad 108) 60 (8 * m) 1810 [some (.ref 998), some (.ref 0), some (.ref 94), some (.ref 107), some (.int (nI i)), x5, x6] [] J) : Rn (gw G0 ad) GAM mL_law_ (kZ (kL b0 L xs) G0 0 ad 108) 60 (8 * m + 8) 1571 [some (.ref 998), some (.ref 0), some (.ref 94), some (.ref 107), some (.int (nI i)), x5, x6] [] I := by
  refine Rn.aload_n dL_law__1571 rfl rfl ?_
  refine Rn.aload_n dL_law__1572 rfl rfl ?_
  refine Rn.iload dL_law__1573 rfl ?_
  refine Rn.iconst (v := (nI 1)) dL_law__1575 rfl ?_
  refine Rn.iadd dL_law__1576 ?_
  refine Rn.topI (nI (i + 1)) (nI_add _ _) ?_
  refine Rn.sld dL_law__1577 h9 (by omega) (by omega) rfl ?_
  refine Rn.aload_n dL_law__1578 rfl rfl ?_
  refine Rn.iload dL_law__1579 rfl ?_
  refine Rn.iconst (v := (nI 2)) dL_law__1581 rfl ?_
  refine Rn.iadd dL_law__1582 ?_
  refine Rn.topI (nI (i + 2)) (nI_add _ _) ?_
  refine Rn.sld dL_law__1583 h9 (by omega) (by omega) rfl ?_
  refine Rn.if_eq (tgt := 1591) dL_law__1584 (by decide) (fun _ => ?_) (fun _ => ?_)
  · refine Rn.iconst (v := (nI 0)) dL_law__1591 rfl ?_
    refine Rn.aload_n dL_law__1592 rfl rfl ?_
    refine Rn.callW (b := 8 * m + 7) (mc := 1) (As := [_, _, _, _]) dL_law__1593 mw_L_276 rfl rfl (Nat.le_of_ble_eq_true rfl) (wr_span _ _ _ _ _ hI.1 hI.2.1) (fun _ _ h => h) (fun v J1 h => ?_)
    obtain ⟨⟨r1, rfl⟩, hQ1⟩ := h
    refine Rn.istore dL_law__1596 (by decide) ?_
    refine Rn.aload_n dL_law__1598 rfl rfl ?_
    refine Rn.aload_n dL_law__1599 rfl rfl ?_
    refine Rn.iload dL_law__1600 rfl ?_
    refine Rn.iconst (v := (nI 1)) dL_law__1602 rfl ?_
    refine Rn.iadd dL_law__1603 ?_
    refine Rn.topI (nI (i + 1)) (nI_add _ _) ?_
    refine Rn.sld dL_law__1604 h9 (by omega) (by omega) rfl ?_
    refine Rn.aload_n dL_law__1605 rfl rfl ?_
    refine Rn.iload dL_law__1606 rfl ?_
    refine Rn.iconst (v := (nI 2)) dL_law__1608 rfl ?_
    refine Rn.iadd dL_law__1609 ?_
    refine Rn.topI (nI (i + 2)) (nI_add _ _) ?_
    refine Rn.sld dL_law__1610 h9 (by omega) (by omega) rfl ?_
    refine Rn.if_eq (tgt := 1618) dL_law__1611 (by decide) (fun _ => ?_) (fun _ => ?_)
    · refine Rn.iconst (v := (nI 0)) dL_law__1618 rfl ?_
      refine Rn.callV (As := [_, _]) dL_law__1619 mv_L_278 (by first | rfl | exact gC0 (by assumption) | exact gL0 (by assumption)) rfl rfl rfl (Nat.le_of_ble_eq_true rfl) (mo_span _ _ _ _ _ (iv_nI (n := 1) (k := 0) (by decide) (by decide)) hQ1.1 hQ1.2.1) (fun _ _ h => h) (fun v J2 h => ?_)
      obtain ⟨⟨r2, rfl⟩, hQ2⟩ := h
      refine Rn.istore dL_law__1622 (by decide) ?_
      refine Rn.goto 1810 dL_law__1624 (by decide) ?_
      exact Rn.bud (by omega) (kk _ _ _ (hI.of (hQ1.tr hQ2)))
    · refine Rn.iconst (v := (nI 1)) dL_law__1614 rfl ?_
      refine Rn.goto 1619 dL_law__1615 (by decide) ?_
      refine Rn.callV (As := [_, _]) dL_law__1619 mv_L_278 (by first | rfl | exact gC0 (by assumption) | exact gL0 (by assumption)) rfl rfl rfl (Nat.le_of_ble_eq_true rfl) (mo_span _ _ _ _ _ (iv_nI (n := 1) (k := 1) (by decide) (by decide)) hQ1.1 hQ1.2.1) (fun _ _ h => h) (fun v J2 h => ?_)
      obtain ⟨⟨r2, rfl⟩, hQ2⟩ := h
      refine Rn.istore dL_law__1622 (by decide) ?_
      refine Rn.goto 1810 dL_law__1624 (by decide) ?_
      exact Rn.bud (by omega) (kk _ _ _ (hI.of (hQ1.tr hQ2)))
  · refine Rn.iconst (v := (nI 1)) dL_law__1587 rfl ?_
    refine Rn.goto 1592 dL_law__1588 (by decide) ?_
    refine Rn.aload_n dL_law__1592 rfl rfl ?_
    refine Rn.callW (b := 8 * m + 7) (mc := 1) (As := [_, _, _, _]) dL_law__1593 mw_L_276 rfl rfl (Nat.le_of_ble_eq_true rfl) (wr_span _ _ _ _ _ hI.1 hI.2.1) (fun _ _ h => h) (fun v J1 h => ?_)
    obtain ⟨⟨r1, rfl⟩, hQ1⟩ := h
    refine Rn.istore dL_law__1596 (by decide) ?_
    refine Rn.aload_n dL_law__1598 rfl rfl ?_
    refine Rn.aload_n dL_law__1599 rfl rfl ?_
    refine Rn.iload dL_law__1600 rfl ?_
    refine Rn.iconst (v := (nI 1)) dL_law__1602 rfl ?_
    refine Rn.iadd dL_law__1603 ?_
    refine Rn.topI (nI (i + 1)) (nI_add _ _) ?_
    refine Rn.sld dL_law__1604 h9 (by omega) (by omega) rfl ?_
    refine Rn.aload_n dL_law__1605 rfl rfl ?_
    refine Rn.iload dL_law__1606 rfl ?_
    refine Rn.iconst (v := (nI 2)) dL_law__1608 rfl ?_
    refine Rn.iadd dL_law__1609 ?_
    refine Rn.topI (nI (i + 2)) (nI_add _ _) ?_
    refine Rn.sld dL_law__1610 h9 (by omega) (by omega) rfl ?_
    refine Rn.if_eq (tgt := 1618) dL_law__1611 (by decide) (fun _ => ?_) (fun _ => ?_)
    · refine Rn.iconst (v := (nI 0)) dL_law__1618 rfl ?_
      refine Rn.callV (As := [_, _]) dL_law__1619 mv_L_278 (by first | rfl | exact gC0 (by assumption) | exact gL0 (by assumption)) rfl rfl rfl (Nat.le_of_ble_eq_true rfl) (mo_span _ _ _ _ _ (iv_nI (n := 1) (k := 0) (by decide) (by decide)) hQ1.1 hQ1.2.1) (fun _ _ h => h) (fun v J2 h => ?_)
      obtain ⟨⟨r2, rfl⟩, hQ2⟩ := h
      refine Rn.istore dL_law__1622 (by decide) ?_
      refine Rn.goto 1810 dL_law__1624 (by decide) ?_
      exact Rn.bud (by omega) (kk _ _ _ (hI.of (hQ1.tr hQ2)))
    · refine Rn.iconst (v := (nI 1)) dL_law__1614 rfl ?_
      refine Rn.goto 1619 dL_law__1615 (by decide) ?_
      refine Rn.callV (As := [_, _]) dL_law__1619 mv_L_278 (by first | rfl | exact gC0 (by assumption) | exact gL0 (by assumption)) rfl rfl rfl (Nat.le_of_ble_eq_true rfl) (mo_span _ _ _ _ _ (iv_nI (n := 1) (k := 1) (by decide) (by decide)) hQ1.1 hQ1.2.1) (fun _ _ h => h) (fun v J2 h => ?_)
      obtain ⟨⟨r2, rfl⟩, hQ2⟩ := h
      refine Rn.istore dL_law__1622 (by decide) ?_
      refine Rn.goto 1810 dL_law__1624 (by decide) ?_
      exact Rn.bud (by omega) (kk _ _ _ (hI.of (hQ1.tr hQ2)))
theorem lc_led (h9 : gad G0 998 = b0) (hL : L ≤ 3072) (hi : i + 6 ≤ L) (hI : LI I) (kk : ∀ (J : Hi) (x5 x6 : Option Value), LI J → Rn (gw G0 ad) GAM mL_law_ (kZ (kL b0 L xs) G0 0 ad 108) 60 (8 * m) 1810 [some (.ref 998), some (.ref 0), some (.ref 94), some (.ref 107), some (.int (nI i)), x5, x6] [] J) : Rn (gw G0 ad) GAM mL_law_ (kZ (kL b0 L xs) G0 0 ad 108) 60 (8 * m + 8) 1627 [some (.ref 998), some (.ref 0), some (.ref 94), some (.ref 107), some (.int (nI i)), x5, x6] [] I := by
  refine Rn.aload_n dL_law__1627 rfl rfl ?_
  refine Rn.aload_n dL_law__1628 rfl rfl ?_
  refine Rn.iload dL_law__1629 rfl ?_
  refine Rn.iconst (v := (nI 1)) dL_law__1631 rfl ?_
  refine Rn.iadd dL_law__1632 ?_
  refine Rn.topI (nI (i + 1)) (nI_add _ _) ?_
  refine Rn.sld dL_law__1633 h9 (by omega) (by omega) rfl ?_
  refine Rn.aload_n dL_law__1634 rfl rfl ?_
  refine Rn.iload dL_law__1635 rfl ?_
  refine Rn.iconst (v := (nI 2)) dL_law__1637 rfl ?_
  refine Rn.iadd dL_law__1638 ?_
  refine Rn.topI (nI (i + 2)) (nI_add _ _) ?_
  refine Rn.sld dL_law__1639 h9 (by omega) (by omega) rfl ?_
  refine Rn.if_eq (tgt := 1647) dL_law__1640 (by decide) (fun _ => ?_) (fun _ => ?_)
  · refine Rn.iconst (v := (nI 0)) dL_law__1647 rfl ?_
    refine Rn.aload_n dL_law__1648 rfl rfl ?_
    refine Rn.callW (b := 8 * m + 7) (mc := 1) (As := [_, _, _, _]) dL_law__1649 mw_L_279 rfl rfl (Nat.le_of_ble_eq_true rfl) (wr_led _ _ _ _ _ hI.1 hI.2.1) (fun _ _ h => h) (fun v J1 h => ?_)
    obtain ⟨⟨r1, rfl⟩, hQ1⟩ := h
    refine Rn.istore dL_law__1652 (by decide) ?_
    refine Rn.aload_n dL_law__1654 rfl rfl ?_
    refine Rn.aload_n dL_law__1655 rfl rfl ?_
    refine Rn.iload dL_law__1656 rfl ?_
    refine Rn.iconst (v := (nI 1)) dL_law__1658 rfl ?_
    refine Rn.iadd dL_law__1659 ?_
    refine Rn.topI (nI (i + 1)) (nI_add _ _) ?_
    refine Rn.sld dL_law__1660 h9 (by omega) (by omega) rfl ?_
    refine Rn.aload_n dL_law__1661 rfl rfl ?_
    refine Rn.iload dL_law__1662 rfl ?_
    refine Rn.iconst (v := (nI 2)) dL_law__1664 rfl ?_
    refine Rn.iadd dL_law__1665 ?_
    refine Rn.topI (nI (i + 2)) (nI_add _ _) ?_
    refine Rn.sld dL_law__1666 h9 (by omega) (by omega) rfl ?_
    refine Rn.if_eq (tgt := 1674) dL_law__1667 (by decide) (fun _ => ?_) (fun _ => ?_)
    · refine Rn.iconst (v := (nI 0)) dL_law__1674 rfl ?_
      refine Rn.callV (As := [_, _]) dL_law__1675 mv_L_281 (by first | rfl | exact gC0 (by assumption) | exact gL0 (by assumption)) rfl rfl rfl (Nat.le_of_ble_eq_true rfl) (mo_led _ _ _ _ _ (iv_nI (n := 1) (k := 0) (by decide) (by decide)) hQ1.1 hQ1.2.1) (fun _ _ h => h) (fun v J2 h => ?_)
      obtain ⟨⟨r2, rfl⟩, hQ2⟩ := h
      refine Rn.istore dL_law__1678 (by decide) ?_
      refine Rn.goto 1810 dL_law__1680 (by decide) ?_
      exact Rn.bud (by omega) (kk _ _ _ (hI.of (hQ1.tr hQ2)))
    · refine Rn.iconst (v := (nI 1)) dL_law__1670 rfl ?_
      refine Rn.goto 1675 dL_law__1671 (by decide) ?_
      refine Rn.callV (As := [_, _]) dL_law__1675 mv_L_281 (by first | rfl | exact gC0 (by assumption) | exact gL0 (by assumption)) rfl rfl rfl (Nat.le_of_ble_eq_true rfl) (mo_led _ _ _ _ _ (iv_nI (n := 1) (k := 1) (by decide) (by decide)) hQ1.1 hQ1.2.1) (fun _ _ h => h) (fun v J2 h => ?_)
      obtain ⟨⟨r2, rfl⟩, hQ2⟩ := h
      refine Rn.istore dL_law__1678 (by decide) ?_
      refine Rn.goto 1810 dL_law__1680 (by decide) ?_
      exact Rn.bud (by omega) (kk _ _ _ (hI.of (hQ1.tr hQ2)))
  · refine Rn.iconst (v := (nI 1)) dL_law__1643 rfl ?_
    refine Rn.goto 1648 dL_law__1644 (by decide) ?_
    refine Rn.aload_n dL_law__1648 rfl rfl ?_
    refine Rn.callW (b := 8 * m + 7) (mc := 1) (As := [_, _, _, _]) dL_law__1649 mw_L_279 rfl rfl (Nat.le_of_ble_eq_true rfl) (wr_led _ _ _ _ _ hI.1 hI.2.1) (fun _ _ h => h) (fun v J1 h => ?_)
    obtain ⟨⟨r1, rfl⟩, hQ1⟩ := h
    refine Rn.istore dL_law__1652 (by decide) ?_
    refine Rn.aload_n dL_law__1654 rfl rfl ?_
    refine Rn.aload_n dL_law__1655 rfl rfl ?_
    refine Rn.iload dL_law__1656 rfl ?_
    refine Rn.iconst (v := (nI 1)) dL_law__1658 rfl ?_
    refine Rn.iadd dL_law__1659 ?_
    refine Rn.topI (nI (i + 1)) (nI_add _ _) ?_
    refine Rn.sld dL_law__1660 h9 (by omega) (by omega) rfl ?_
    refine Rn.aload_n dL_law__1661 rfl rfl ?_
    refine Rn.iload dL_law__1662 rfl ?_
    refine Rn.iconst (v := (nI 2)) dL_law__1664 rfl ?_
    refine Rn.iadd dL_law__1665 ?_
    refine Rn.topI (nI (i + 2)) (nI_add _ _) ?_
    refine Rn.sld dL_law__1666 h9 (by omega) (by omega) rfl ?_
    refine Rn.if_eq (tgt := 1674) dL_law__1667 (by decide) (fun _ => ?_) (fun _ => ?_)
    · refine Rn.iconst (v := (nI 0)) dL_law__1674 rfl ?_
      refine Rn.callV (As := [_, _]) dL_law__1675 mv_L_281 (by first | rfl | exact gC0 (by assumption) | exact gL0 (by assumption)) rfl rfl rfl (Nat.le_of_ble_eq_true rfl) (mo_led _ _ _ _ _ (iv_nI (n := 1) (k := 0) (by decide) (by decide)) hQ1.1 hQ1.2.1) (fun _ _ h => h) (fun v J2 h => ?_)
      obtain ⟨⟨r2, rfl⟩, hQ2⟩ := h
      refine Rn.istore dL_law__1678 (by decide) ?_
      refine Rn.goto 1810 dL_law__1680 (by decide) ?_
      exact Rn.bud (by omega) (kk _ _ _ (hI.of (hQ1.tr hQ2)))
    · refine Rn.iconst (v := (nI 1)) dL_law__1670 rfl ?_
      refine Rn.goto 1675 dL_law__1671 (by decide) ?_
      refine Rn.callV (As := [_, _]) dL_law__1675 mv_L_281 (by first | rfl | exact gC0 (by assumption) | exact gL0 (by assumption)) rfl rfl rfl (Nat.le_of_ble_eq_true rfl) (mo_led _ _ _ _ _ (iv_nI (n := 1) (k := 1) (by decide) (by decide)) hQ1.1 hQ1.2.1) (fun _ _ h => h) (fun v J2 h => ?_)
      obtain ⟨⟨r2, rfl⟩, hQ2⟩ := h
      refine Rn.istore dL_law__1678 (by decide) ?_
      refine Rn.goto 1810 dL_law__1680 (by decide) ?_
      exact Rn.bud (by omega) (kk _ _ _ (hI.of (hQ1.tr hQ2)))
theorem lc_log (h9 : gad G0 998 = b0) (hL : L ≤ 3072) (hi : i + 6 ≤ L) (hI : LI I) (kk : ∀ (J : Hi) (x5 x6 : Option Value), LI J → Rn (gw G0 ad) GAM mL_law_ (kZ (kL b0 L xs) G0 0 ad 108) 60 (8 * m) 1810 [some (.ref 998), some (.ref 0), some (.ref 94), some (.ref 107), some (.int (nI i)), x5, x6] [] J) : Rn (gw G0 ad) GAM mL_law_ (kZ (kL b0 L xs) G0 0 ad 108) 60 (8 * m + 8) 1683 [some (.ref 998), some (.ref 0), some (.ref 94), some (.ref 107), some (.int (nI i)), x5, x6] [] I := by
  refine Rn.aload_n dL_law__1683 rfl rfl ?_
  refine Rn.aload_n dL_law__1684 rfl rfl ?_
  refine Rn.iload dL_law__1685 rfl ?_
  refine Rn.iconst (v := (nI 1)) dL_law__1687 rfl ?_
  refine Rn.iadd dL_law__1688 ?_
  refine Rn.topI (nI (i + 1)) (nI_add _ _) ?_
  refine Rn.sld dL_law__1689 h9 (by omega) (by omega) rfl ?_
  refine Rn.aload_n dL_law__1690 rfl rfl ?_
  refine Rn.iload dL_law__1691 rfl ?_
  refine Rn.iconst (v := (nI 2)) dL_law__1693 rfl ?_
  refine Rn.iadd dL_law__1694 ?_
  refine Rn.topI (nI (i + 2)) (nI_add _ _) ?_
  refine Rn.sld dL_law__1695 h9 (by omega) (by omega) rfl ?_
  refine Rn.aload_n dL_law__1696 rfl rfl ?_
  refine Rn.callW (b := 8 * m + 7) (mc := 1) (As := [_, _, _, _]) dL_law__1697 mw_L_282 rfl rfl (Nat.le_of_ble_eq_true rfl) (wr_log _ _ _ _ _ hI.1 hI.2.1) (fun _ _ h => h) (fun v J1 h => ?_)
  obtain ⟨⟨r1, rfl⟩, hQ1⟩ := h
  refine Rn.istore dL_law__1700 (by decide) ?_
  refine Rn.aload_n dL_law__1702 rfl rfl ?_
  refine Rn.aload_n dL_law__1703 rfl rfl ?_
  refine Rn.iload dL_law__1704 rfl ?_
  refine Rn.iconst (v := (nI 1)) dL_law__1706 rfl ?_
  refine Rn.iadd dL_law__1707 ?_
  refine Rn.topI (nI (i + 1)) (nI_add _ _) ?_
  refine Rn.sld dL_law__1708 h9 (by omega) (by omega) rfl ?_
  refine Rn.aload_n dL_law__1709 rfl rfl ?_
  refine Rn.iload dL_law__1710 rfl ?_
  refine Rn.iconst (v := (nI 2)) dL_law__1712 rfl ?_
  refine Rn.iadd dL_law__1713 ?_
  refine Rn.topI (nI (i + 2)) (nI_add _ _) ?_
  refine Rn.sld dL_law__1714 h9 (by omega) (by omega) rfl ?_
  refine Rn.callV (As := [_, _]) dL_law__1715 mv_L_284 (by first | rfl | exact gC0 (by assumption) | exact gL0 (by assumption)) rfl rfl rfl (Nat.le_of_ble_eq_true rfl) (mo_log _ _ _ _ _ hQ1.1 hQ1.2.1) (fun _ _ h => h) (fun v J2 h => ?_)
  obtain ⟨⟨r2, rfl⟩, hQ2⟩ := h
  refine Rn.istore dL_law__1718 (by decide) ?_
  refine Rn.goto 1810 dL_law__1720 (by decide) ?_
  exact Rn.bud (by omega) (kk _ _ _ (hI.of (hQ1.tr hQ2)))
theorem lc_seed (h9 : gad G0 998 = b0) (hL : L ≤ 3072) (hi : i + 6 ≤ L) (hI : LI I) (kk : ∀ (J : Hi) (x5 x6 : Option Value), LI J → Rn (gw G0 ad) GAM mL_law_ (kZ (kL b0 L xs) G0 0 ad 108) 60 (8 * m) 1810 [some (.ref 998), some (.ref 0), some (.ref 94), some (.ref 107), some (.int (nI i)), x5, x6] [] J) : Rn (gw G0 ad) GAM mL_law_ (kZ (kL b0 L xs) G0 0 ad 108) 60 (8 * m + 8) 1723 [some (.ref 998), some (.ref 0), some (.ref 94), some (.ref 107), some (.int (nI i)), x5, x6] [] I := by
  refine Rn.aload_n dL_law__1723 rfl rfl ?_
  refine Rn.aload_n dL_law__1724 rfl rfl ?_
  refine Rn.iload dL_law__1725 rfl ?_
  refine Rn.iconst (v := (nI 1)) dL_law__1727 rfl ?_
  refine Rn.iadd dL_law__1728 ?_
  refine Rn.topI (nI (i + 1)) (nI_add _ _) ?_
  refine Rn.sld dL_law__1729 h9 (by omega) (by omega) rfl ?_
  refine Rn.callV (As := [_]) dL_law__1730 mv_L_285 (by first | rfl | exact gC0 (by assumption) | exact gL0 (by assumption)) rfl rfl rfl (Nat.le_of_ble_eq_true rfl) (xd_seed _ _ _ _ hI.1 hI.2.1) (fun _ _ h => h) (fun v J1 h => ?_)
  obtain ⟨⟨r1, rfl⟩, hQ1⟩ := h
  refine Rn.pop dL_law__1733 rfl ?_
  refine Rn.aload_n dL_law__1734 rfl rfl ?_
  refine Rn.aload_n dL_law__1735 rfl rfl ?_
  refine Rn.iload dL_law__1736 rfl ?_
  refine Rn.iconst (v := (nI 1)) dL_law__1738 rfl ?_
  refine Rn.iadd dL_law__1739 ?_
  refine Rn.topI (nI (i + 1)) (nI_add _ _) ?_
  refine Rn.sld dL_law__1740 h9 (by omega) (by omega) rfl ?_
  refine Rn.callV (As := [_]) dL_law__1741 mv_L_288 (by first | rfl | exact gC0 (by assumption) | exact gL0 (by assumption)) rfl rfl rfl (Nat.le_of_ble_eq_true rfl) (mo_seed _ _ _ _ hQ1.1 hQ1.2.1) (fun _ _ h => h) (fun v J2 h => ?_)
  obtain ⟨⟨r2, rfl⟩, hQ2⟩ := h
  refine Rn.pop dL_law__1744 rfl ?_
  refine Rn.goto 1810 dL_law__1745 (by decide) ?_
  exact Rn.bud (by omega) (kk _ _ _ (hI.of (hQ1.tr hQ2)))
theorem lc_undo (h9 : gad G0 998 = b0) (hL : L ≤ 3072) (hi : i + 6 ≤ L) (hI : LI I) (kk : ∀ (J : Hi) (x5 x6 : Option Value), LI J → Rn (gw G0 ad) GAM mL_law_ (kZ (kL b0 L xs) G0 0 ad 108) 60 (8 * m) 1810 [some (.ref 998), some (.ref 0), some (.ref 94), some (.ref 107), some (.int (nI i)), x5, x6] [] J) : Rn (gw G0 ad) GAM mL_law_ (kZ (kL b0 L xs) G0 0 ad 108) 60 (8 * m + 8) 1748 [some (.ref 998), some (.ref 0), some (.ref 94), some (.ref 107), some (.int (nI i)), x5, x6] [] I := by
  refine Rn.aload_n dL_law__1748 rfl rfl ?_
  refine Rn.callV (As := []) dL_law__1749 mv_L_289 (by first | rfl | exact gC0 (by assumption) | exact gL0 (by assumption)) rfl rfl rfl (Nat.le_of_ble_eq_true rfl) (xd_undo _ _ hI) (fun _ _ h => h) (fun v J1 h => ?_)
  obtain ⟨r1, rfl, h1⟩ := h
  refine Rn.pop dL_law__1752 rfl ?_
  refine Rn.aload_n dL_law__1753 rfl rfl ?_
  refine Rn.callV (As := []) dL_law__1754 mv_L_293 (by first | rfl | exact gC0 (by assumption) | exact gL0 (by assumption)) rfl rfl rfl (Nat.le_of_ble_eq_true rfl) (mo_undo _ _ h1) (fun _ _ h => h) (fun v J2 h => ?_)
  obtain ⟨r2, rfl, hL2⟩ := h
  refine Rn.pop dL_law__1757 rfl ?_
  refine Rn.goto 1810 dL_law__1758 (by decide) ?_
  exact Rn.bud (by omega) (kk _ _ _ (hL2))
theorem lc_image (h9 : gad G0 998 = b0) (hL : L ≤ 3072) (hi : i + 6 ≤ L) (hI : LI I) (kk : ∀ (J : Hi) (x5 x6 : Option Value), LI J → Rn (gw G0 ad) GAM mL_law_ (kZ (kL b0 L xs) G0 0 ad 108) 60 (8 * m) 1810 [some (.ref 998), some (.ref 0), some (.ref 94), some (.ref 107), some (.int (nI i)), x5, x6] [] J) : Rn (gw G0 ad) GAM mL_law_ (kZ (kL b0 L xs) G0 0 ad 108) 60 (8 * m + 8) 1761 [some (.ref 998), some (.ref 0), some (.ref 94), some (.ref 107), some (.int (nI i)), x5, x6] [] I := by
  refine Rn.aload_n dL_law__1761 rfl rfl ?_
  refine Rn.callV (As := []) dL_law__1762 mv_L_294 (by first | rfl | exact gC0 (by assumption) | exact gL0 (by assumption)) rfl rfl rfl (Nat.le_of_ble_eq_true rfl) (xd_image _ _ hI) (fun _ _ h => h) (fun v J1 h => ?_)
  obtain ⟨rfl, h1⟩ := h
  refine Rn.aload_n dL_law__1765 rfl rfl ?_
  refine Rn.callV (As := []) dL_law__1766 mv_L_297 (by first | rfl | exact gC0 (by assumption) | exact gL0 (by assumption)) rfl rfl rfl (Nat.le_of_ble_eq_true rfl) (mo_image _ _ h1) (fun _ _ h => h) (fun v J2 h => ?_)
  obtain ⟨rfl, hL2⟩ := h
  refine Rn.goto 1810 dL_law__1769 (by decide) ?_
  exact Rn.bud (by omega) (kk _ _ _ (hL2))
theorem lc_back (h9 : gad G0 998 = b0) (hL : L ≤ 3072) (hi : i + 6 ≤ L) (hI : LI I) (kk : ∀ (J : Hi) (x5 x6 : Option Value), LI J → Rn (gw G0 ad) GAM mL_law_ (kZ (kL b0 L xs) G0 0 ad 108) 60 (8 * m) 1810 [some (.ref 998), some (.ref 0), some (.ref 94), some (.ref 107), some (.int (nI i)), x5, x6] [] J) : Rn (gw G0 ad) GAM mL_law_ (kZ (kL b0 L xs) G0 0 ad 108) 60 (8 * m + 8) 1772 [some (.ref 998), some (.ref 0), some (.ref 94), some (.ref 107), some (.int (nI i)), x5, x6] [] I := by
  refine Rn.aload_n dL_law__1772 rfl rfl ?_
  refine Rn.callV (As := []) dL_law__1773 mv_L_298 (by first | rfl | exact gC0 (by assumption) | exact gL0 (by assumption)) rfl rfl rfl (Nat.le_of_ble_eq_true rfl) (xd_back _ _ hI) (fun _ _ h => h) (fun v J1 h => ?_)
  obtain ⟨r1, rfl, h1⟩ := h
  refine Rn.pop dL_law__1776 rfl ?_
  refine Rn.aload_n dL_law__1777 rfl rfl ?_
  refine Rn.callV (As := []) dL_law__1778 mv_L_301 (by first | rfl | exact gC0 (by assumption) | exact gL0 (by assumption)) rfl rfl rfl (Nat.le_of_ble_eq_true rfl) (mo_back _ _ h1) (fun _ _ h => h) (fun v J2 h => ?_)
  obtain ⟨r2, rfl, hL2⟩ := h
  refine Rn.pop dL_law__1781 rfl ?_
  refine Rn.goto 1810 dL_law__1782 (by decide) ?_
  exact Rn.bud (by omega) (kk _ _ _ (hL2))
theorem lc_count (h9 : gad G0 998 = b0) (hL : L ≤ 3072) (hi : i + 6 ≤ L) (hI : LI I) (kk : ∀ (J : Hi) (x5 x6 : Option Value), LI J → Rn (gw G0 ad) GAM mL_law_ (kZ (kL b0 L xs) G0 0 ad 108) 60 (8 * m) 1810 [some (.ref 998), some (.ref 0), some (.ref 94), some (.ref 107), some (.int (nI i)), x5, x6] [] J) : Rn (gw G0 ad) GAM mL_law_ (kZ (kL b0 L xs) G0 0 ad 108) 60 (8 * m + 8) 1785 [some (.ref 998), some (.ref 0), some (.ref 94), some (.ref 107), some (.int (nI i)), x5, x6] [] I := by
  refine Rn.aload_n dL_law__1785 rfl rfl ?_
  refine Rn.aload_n dL_law__1786 rfl rfl ?_
  refine Rn.iload dL_law__1787 rfl ?_
  refine Rn.iconst (v := (nI 1)) dL_law__1789 rfl ?_
  refine Rn.iadd dL_law__1790 ?_
  refine Rn.topI (nI (i + 1)) (nI_add _ _) ?_
  refine Rn.sld dL_law__1791 h9 (by omega) (by omega) rfl ?_
  refine Rn.callV (As := [_]) dL_law__1792 mv_L_302 (by first | rfl | exact gC0 (by assumption) | exact gL0 (by assumption)) rfl rfl rfl (Nat.le_of_ble_eq_true rfl) (xd_count _ _ _ _ hI.1 hI.2.1) (fun _ _ h => h) (fun v J1 h => ?_)
  obtain ⟨⟨r1, rfl⟩, hQ1⟩ := h
  refine Rn.pop dL_law__1795 rfl ?_
  refine Rn.aload_n dL_law__1796 rfl rfl ?_
  refine Rn.aload_n dL_law__1797 rfl rfl ?_
  refine Rn.iload dL_law__1798 rfl ?_
  refine Rn.iconst (v := (nI 1)) dL_law__1800 rfl ?_
  refine Rn.iadd dL_law__1801 ?_
  refine Rn.topI (nI (i + 1)) (nI_add _ _) ?_
  refine Rn.sld dL_law__1802 h9 (by omega) (by omega) rfl ?_
  refine Rn.callV (As := [_]) dL_law__1803 mv_L_305 (by first | rfl | exact gC0 (by assumption) | exact gL0 (by assumption)) rfl rfl rfl (Nat.le_of_ble_eq_true rfl) (mo_count _ _ _ _ hQ1.1 hQ1.2.1) (fun _ _ h => h) (fun v J2 h => ?_)
  obtain ⟨⟨r2, rfl⟩, hQ2⟩ := h
  refine Rn.pop dL_law__1806 rfl ?_
  refine Rn.goto 1810 dL_law__1807 (by decide) ?_
  exact Rn.bud (by omega) (kk _ _ _ (hI.of (hQ1.tr hQ2)))
end LawC
