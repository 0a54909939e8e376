theorem dL_law__350 : decode cL_law_ 350 = .ok (.aload_n 1, 1) := by decide +kernel
theorem dL_law__351 : decode cL_law_ 351 = .ok (.aload_n 3, 1) := by decide +kernel
theorem dL_law__352 : decode cL_law_ 352 = .ok (.invokestatic 139, 3) := by decide +kernel
theorem wi_546 : Cond.codeWith yL_coast cL_coast 3 (some .int) [(0, 8, 11, 13), (0, 8, 14, 15)] ∈ WA := zin 546 (by decide +kernel) (by decide +kernel)
theorem wi_544 : Cond.methodLink RL 139 yL_coast ∈ WA := zin 544 (by decide +kernel) (by decide +kernel)
theorem wi_545 : Cond.static yL_coast ∈ WA := zin 545 (by decide +kernel) (by decide +kernel)
theorem mw_L_139 : zMw RL 139 mL_coast [(0, 8, 11, 13), (0, 8, 14, 15)] 2 := ⟨wi_544, wi_99, wi_546, by decide, by decide +kernel, wi_545⟩
theorem dL_law__355 : decode cL_law_ 355 = .ok (.istore 5, 2) := by decide +kernel
theorem dL_law__357 : decode cL_law_ 357 = .ok (.aload_n 2, 1) := by decide +kernel
theorem dL_law__358 : decode cL_law_ 358 = .ok (.invokevirtual 144, 3) := by decide +kernel
theorem wi_1357 : Cond.methodLink RL 144 yX10_coast ∈ WA := zin 1357 (by decide +kernel) (by decide +kernel)
theorem wi_1360 : Cond.code yX10_coast cX10_coast 3 (some .int) ∈ WA := zin 1360 (by decide +kernel) (by decide +kernel)
theorem wi_1358 : Cond.instanceMethod yX10_coast ∈ WA := zin 1358 (by decide +kernel) (by decide +kernel)
theorem wi_1359 : Cond.selects RX10 yX10_coast yX10_coast ∈ WA := zin 1359 (by decide +kernel) (by decide +kernel)
theorem mv_L_144 : zMv RL 144 RX10 mX10_coast 0 := ⟨⟨wi_1357, wi_110, wi_1360, by decide, by decide +kernel⟩, wi_1358, wi_1359⟩
theorem dL_law__361 : decode cL_law_ 361 = .ok (.istore 6, 2) := by decide +kernel
theorem dL_law__363 : decode cL_law_ 363 = .ok (.aload_n 2, 1) := by decide +kernel
theorem dL_law__364 : decode cL_law_ 364 = .ok (.invokevirtual 145, 3) := by decide +kernel
theorem dL_law__367 : decode cL_law_ 367 = .ok (.iload 5, 2) := by decide +kernel
theorem dL_law__369 : decode cL_law_ 369 = .ok (.if_icmp .eq 5, 3) := by decide +kernel
theorem dL_law__374 : decode cL_law_ 374 = .ok (.iload 5, 2) := by decide +kernel
theorem dL_law__376 : decode cL_law_ 376 = .ok (.ifCond .ne 15, 3) := by decide +kernel
theorem dL_law__379 : decode cL_law_ 379 = .ok (.aload_n 3, 1) := by decide +kernel
theorem dL_law__380 : decode cL_law_ 380 = .ok (.iconst 0, 1) := by decide +kernel
theorem dL_law__381 : decode cL_law_ 381 = .ok (.laload, 1) := by decide +kernel
theorem dL_law__382 : decode cL_law_ 382 = .ok (.iload 6, 2) := by decide +kernel
theorem dL_law__384 : decode cL_law_ 384 = .ok (.i2l, 1) := by decide +kernel
theorem dL_law__385 : decode cL_law_ 385 = .ok (.lcmp, 1) := by decide +kernel
theorem dL_law__386 : decode cL_law_ 386 = .ok (.ifCond .eq 5, 3) := by decide +kernel
theorem dL_law__391 : decode cL_law_ 391 = .ok (.goto 2329, 3) := by decide +kernel
theorem dL_law__394 : decode cL_law_ 394 = .ok (.aload_n 1, 1) := by decide +kernel
theorem dL_law__395 : decode cL_law_ 395 = .ok (.aload_n 3, 1) := by decide +kernel
theorem dL_law__396 : decode cL_law_ 396 = .ok (.invokestatic 148, 3) := by decide +kernel
theorem wi_761 : Cond.codeWith yL_law cL_law 3 (some .int) [(0, 8, 11, 13)] ∈ WA := zin 761 (by decide +kernel) (by decide +kernel)
theorem wi_759 : Cond.methodLink RL 148 yL_law ∈ WA := zin 759 (by decide +kernel) (by decide +kernel)
theorem wi_760 : Cond.static yL_law ∈ WA := zin 760 (by decide +kernel) (by decide +kernel)
theorem mw_L_148 : zMw RL 148 mL_law [(0, 8, 11, 13)] 2 := ⟨wi_759, wi_99, wi_761, by decide, by decide +kernel, wi_760⟩
theorem dL_law__399 : decode cL_law_ 399 = .ok (.istore 5, 2) := by decide +kernel
theorem dL_law__401 : decode cL_law_ 401 = .ok (.aload_n 2, 1) := by decide +kernel
theorem dL_law__402 : decode cL_law_ 402 = .ok (.invokevirtual 150, 3) := by decide +kernel
theorem wi_1550 : Cond.methodLink RL 150 yX10_law ∈ WA := zin 1550 (by decide +kernel) (by decide +kernel)
theorem wi_1553 : Cond.code yX10_law cX10_law 3 (some .int) ∈ WA := zin 1553 (by decide +kernel) (by decide +kernel)
theorem wi_1551 : Cond.instanceMethod yX10_law ∈ WA := zin 1551 (by decide +kernel) (by decide +kernel)
theorem wi_1552 : Cond.selects RX10 yX10_law yX10_law ∈ WA := zin 1552 (by decide +kernel) (by decide +kernel)
theorem mv_L_150 : zMv RL 150 RX10 mX10_law 0 := ⟨⟨wi_1550, wi_110, wi_1553, by decide, by decide +kernel⟩, wi_1551, wi_1552⟩
theorem dL_law__405 : decode cL_law_ 405 = .ok (.istore 6, 2) := by decide +kernel
theorem dL_law__407 : decode cL_law_ 407 = .ok (.aload_n 2, 1) := by decide +kernel
theorem dL_law__408 : decode cL_law_ 408 = .ok (.invokevirtual 145, 3) := by decide +kernel
theorem dL_law__411 : decode cL_law_ 411 = .ok (.iload 5, 2) := by decide +kernel
theorem dL_law__413 : decode cL_law_ 413 = .ok (.if_icmp .eq 5, 3) := by decide +kernel
theorem dL_law__418 : decode cL_law_ 418 = .ok (.iload 5, 2) := by decide +kernel
theorem dL_law__420 : decode cL_law_ 420 = .ok (.ifCond .ne 15, 3) := by decide +kernel
theorem dL_law__423 : decode cL_law_ 423 = .ok (.aload_n 3, 1) := by decide +kernel
theorem dL_law__424 : decode cL_law_ 424 = .ok (.iconst 0, 1) := by decide +kernel
theorem dL_law__425 : decode cL_law_ 425 = .ok (.laload, 1) := by decide +kernel
theorem dL_law__426 : decode cL_law_ 426 = .ok (.iload 6, 2) := by decide +kernel
theorem dL_law__428 : decode cL_law_ 428 = .ok (.i2l, 1) := by decide +kernel
theorem dL_law__429 : decode cL_law_ 429 = .ok (.lcmp, 1) := by decide +kernel
theorem dL_law__430 : decode cL_law_ 430 = .ok (.ifCond .eq 5, 3) := by decide +kernel
theorem dL_law__435 : decode cL_law_ 435 = .ok (.goto 2285, 3) := by decide +kernel
theorem dL_law__1130 : decode cL_law_ 1130 = .ok (.aload_n 1, 1) := by decide +kernel
theorem dL_law__1131 : decode cL_law_ 1131 = .ok (.aload_n 0, 1) := by decide +kernel
theorem dL_law__1132 : decode cL_law_ 1132 = .ok (.iload 4, 2) := by decide +kernel
theorem dL_law__1134 : decode cL_law_ 1134 = .ok (.iconst 1, 1) := by decide +kernel
theorem dL_law__1135 : decode cL_law_ 1135 = .ok (.iadd, 1) := by decide +kernel
theorem dL_law__1136 : decode cL_law_ 1136 = .ok (.iaload, 1) := by decide +kernel
theorem dL_law__1137 : decode cL_law_ 1137 = .ok (.aload_n 3, 1) := by decide +kernel
theorem dL_law__1138 : decode cL_law_ 1138 = .ok (.invokestatic 189, 3) := by decide +kernel
theorem wi_982 : Cond.codeWith yL_days cL_days 4 (some .int) [(0, 9, 12, 13)] ∈ WA := zin 982 (by decide +kernel) (by decide +kernel)
theorem wi_980 : Cond.methodLink RL 189 yL_days ∈ WA := zin 980 (by decide +kernel) (by decide +kernel)
theorem wi_981 : Cond.static yL_days ∈ WA := zin 981 (by decide +kernel) (by decide +kernel)
theorem mw_L_189 : zMw RL 189 mL_days [(0, 9, 12, 13)] 3 := ⟨wi_980, wi_99, wi_982, by decide, by decide +kernel, wi_981⟩
theorem dL_law__1141 : decode cL_law_ 1141 = .ok (.istore 5, 2) := by decide +kernel
theorem dL_law__1143 : decode cL_law_ 1143 = .ok (.aload_n 2, 1) := by decide +kernel
theorem dL_law__1144 : decode cL_law_ 1144 = .ok (.aload_n 0, 1) := by decide +kernel
theorem dL_law__1145 : decode cL_law_ 1145 = .ok (.iload 4, 2) := by decide +kernel
theorem dL_law__1147 : decode cL_law_ 1147 = .ok (.iconst 1, 1) := by decide +kernel
theorem dL_law__1148 : decode cL_law_ 1148 = .ok (.iadd, 1) := by decide +kernel
theorem dL_law__1149 : decode cL_law_ 1149 = .ok (.iaload, 1) := by decide +kernel
theorem dL_law__1150 : decode cL_law_ 1150 = .ok (.invokevirtual 191, 3) := by decide +kernel
theorem wi_1694 : Cond.methodLink RL 191 yX10_days ∈ WA := zin 1694 (by decide +kernel) (by decide +kernel)
theorem wi_1697 : Cond.code yX10_days cX10_days 2 (some .int) ∈ WA := zin 1697 (by decide +kernel) (by decide +kernel)
theorem wi_1695 : Cond.instanceMethod yX10_days ∈ WA := zin 1695 (by decide +kernel) (by decide +kernel)
theorem wi_1696 : Cond.selects RX10 yX10_days yX10_days ∈ WA := zin 1696 (by decide +kernel) (by decide +kernel)
theorem mv_L_191 : zMv RL 191 RX10 mX10_days 1 := ⟨⟨wi_1694, wi_110, wi_1697, by decide, by decide +kernel⟩, wi_1695, wi_1696⟩
theorem dL_law__1153 : decode cL_law_ 1153 = .ok (.istore 6, 2) := by decide +kernel
theorem dL_law__1155 : decode cL_law_ 1155 = .ok (.aload_n 2, 1) := by decide +kernel
theorem dL_law__1156 : decode cL_law_ 1156 = .ok (.invokevirtual 145, 3) := by decide +kernel
theorem dL_law__1159 : decode cL_law_ 1159 = .ok (.iload 5, 2) := by decide +kernel
theorem dL_law__1161 : decode cL_law_ 1161 = .ok (.if_icmp .eq 5, 3) := by decide +kernel
theorem dL_law__1166 : decode cL_law_ 1166 = .ok (.iload 5, 2) := by decide +kernel
theorem dL_law__1168 : decode cL_law_ 1168 = .ok (.ifCond .ne 15, 3) := by decide +kernel
theorem dL_law__1171 : decode cL_law_ 1171 = .ok (.aload_n 3, 1) := by decide +kernel
theorem dL_law__1172 : decode cL_law_ 1172 = .ok (.iconst 0, 1) := by decide +kernel
theorem dL_law__1173 : decode cL_law_ 1173 = .ok (.laload, 1) := by decide +kernel
theorem dL_law__1174 : decode cL_law_ 1174 = .ok (.iload 6, 2) := by decide +kernel
theorem dL_law__1176 : decode cL_law_ 1176 = .ok (.i2l, 1) := by decide +kernel
theorem dL_law__1177 : decode cL_law_ 1177 = .ok (.lcmp, 1) := by decide +kernel
theorem dL_law__1178 : decode cL_law_ 1178 = .ok (.ifCond .eq 5, 3) := by decide +kernel
theorem dL_law__1183 : decode cL_law_ 1183 = .ok (.goto 1537, 3) := by decide +kernel
theorem dL_law__1606 : decode cL_law_ 1606 = .ok (.aload_n 1, 1) := by decide +kernel
theorem dL_law__1607 : decode cL_law_ 1607 = .ok (.aload_n 3, 1) := by decide +kernel
theorem dL_law__1608 : decode cL_law_ 1608 = .ok (.invokestatic 211, 3) := by decide +kernel
theorem wi_1089 : Cond.codeWith yL_whose cL_whose 3 (some .int) [(0, 8, 11, 13)] ∈ WA := zin 1089 (by decide +kernel) (by decide +kernel)
theorem wi_1087 : Cond.methodLink RL 211 yL_whose ∈ WA := zin 1087 (by decide +kernel) (by decide +kernel)
theorem wi_1088 : Cond.static yL_whose ∈ WA := zin 1088 (by decide +kernel) (by decide +kernel)
theorem mw_L_211 : zMw RL 211 mL_whose [(0, 8, 11, 13)] 2 := ⟨wi_1087, wi_99, wi_1089, by decide, by decide +kernel, wi_1088⟩
theorem dL_law__1611 : decode cL_law_ 1611 = .ok (.istore 5, 2) := by decide +kernel
theorem dL_law__1613 : decode cL_law_ 1613 = .ok (.aload_n 2, 1) := by decide +kernel
theorem dL_law__1614 : decode cL_law_ 1614 = .ok (.invokevirtual 213, 3) := by decide +kernel
theorem wi_1813 : Cond.methodLink RL 213 yX10_whose ∈ WA := zin 1813 (by decide +kernel) (by decide +kernel)
theorem wi_1816 : Cond.code yX10_whose cX10_whose 1 (some .int) ∈ WA := zin 1816 (by decide +kernel) (by decide +kernel)
theorem wi_1814 : Cond.instanceMethod yX10_whose ∈ WA := zin 1814 (by decide +kernel) (by decide +kernel)
theorem wi_1815 : Cond.selects RX10 yX10_whose yX10_whose ∈ WA := zin 1815 (by decide +kernel) (by decide +kernel)
theorem mv_L_213 : zMv RL 213 RX10 mX10_whose 0 := ⟨⟨wi_1813, wi_110, wi_1816, by decide, by decide +kernel⟩, wi_1814, wi_1815⟩
theorem dL_law__1617 : decode cL_law_ 1617 = .ok (.istore 6, 2) := by decide +kernel
theorem dL_law__1619 : decode cL_law_ 1619 = .ok (.aload_n 2, 1) := by decide +kernel
theorem dL_law__1620 : decode cL_law_ 1620 = .ok (.invokevirtual 145, 3) := by decide +kernel
theorem dL_law__1623 : decode cL_law_ 1623 = .ok (.iload 5, 2) := by decide +kernel
theorem dL_law__1625 : decode cL_law_ 1625 = .ok (.if_icmp .eq 5, 3) := by decide +kernel
theorem dL_law__1630 : decode cL_law_ 1630 = .ok (.iload 5, 2) := by decide +kernel
theorem dL_law__1632 : decode cL_law_ 1632 = .ok (.ifCond .ne 15, 3) := by decide +kernel
theorem dL_law__1635 : decode cL_law_ 1635 = .ok (.aload_n 3, 1) := by decide +kernel
theorem dL_law__1636 : decode cL_law_ 1636 = .ok (.iconst 0, 1) := by decide +kernel
theorem dL_law__1637 : decode cL_law_ 1637 = .ok (.laload, 1) := by decide +kernel
theorem dL_law__1638 : decode cL_law_ 1638 = .ok (.iload 6, 2) := by decide +kernel
theorem dL_law__1640 : decode cL_law_ 1640 = .ok (.i2l, 1) := by decide +kernel
theorem dL_law__1641 : decode cL_law_ 1641 = .ok (.lcmp, 1) := by decide +kernel
theorem dL_law__1642 : decode cL_law_ 1642 = .ok (.ifCond .eq 5, 3) := by decide +kernel
theorem dL_law__1647 : decode cL_law_ 1647 = .ok (.goto 1073, 3) := by decide +kernel
theorem dL_law__1650 : decode cL_law_ 1650 = .ok (.aload_n 1, 1) := by decide +kernel
theorem dL_law__1651 : decode cL_law_ 1651 = .ok (.aload_n 3, 1) := by decide +kernel
theorem dL_law__1652 : decode cL_law_ 1652 = .ok (.invokestatic 214, 3) := by decide +kernel
theorem wi_1114 : Cond.codeWith yL_next cL_next 3 (some .int) [(0, 8, 11, 13)] ∈ WA := zin 1114 (by decide +kernel) (by decide +kernel)
theorem wi_1112 : Cond.methodLink RL 214 yL_next ∈ WA := zin 1112 (by decide +kernel) (by decide +kernel)
theorem wi_1113 : Cond.static yL_next ∈ WA := zin 1113 (by decide +kernel) (by decide +kernel)
theorem mw_L_214 : zMw RL 214 mL_next [(0, 8, 11, 13)] 2 := ⟨wi_1112, wi_99, wi_1114, by decide, by decide +kernel, wi_1113⟩
theorem dL_law__1655 : decode cL_law_ 1655 = .ok (.istore 5, 2) := by decide +kernel
theorem dL_law__1657 : decode cL_law_ 1657 = .ok (.aload_n 2, 1) := by decide +kernel
theorem dL_law__1658 : decode cL_law_ 1658 = .ok (.invokevirtual 216, 3) := by decide +kernel
theorem wi_1825 : Cond.methodLink RL 216 yX10_next ∈ WA := zin 1825 (by decide +kernel) (by decide +kernel)
theorem wi_1828 : Cond.code yX10_next cX10_next 9 (some .int) ∈ WA := zin 1828 (by decide +kernel) (by decide +kernel)
theorem wi_1826 : Cond.instanceMethod yX10_next ∈ WA := zin 1826 (by decide +kernel) (by decide +kernel)
theorem wi_1827 : Cond.selects RX10 yX10_next yX10_next ∈ WA := zin 1827 (by decide +kernel) (by decide +kernel)
theorem mv_L_216 : zMv RL 216 RX10 mX10_next 0 := ⟨⟨wi_1825, wi_110, wi_1828, by decide, by decide +kernel⟩, wi_1826, wi_1827⟩
theorem dL_law__1661 : decode cL_law_ 1661 = .ok (.istore 6, 2) := by decide +kernel
theorem dL_law__1663 : decode cL_law_ 1663 = .ok (.aload_n 2, 1) := by decide +kernel
theorem dL_law__1664 : decode cL_law_ 1664 = .ok (.invokevirtual 145, 3) := by decide +kernel
theorem dL_law__1667 : decode cL_law_ 1667 = .ok (.iload 5, 2) := by decide +kernel
theorem dL_law__1669 : decode cL_law_ 1669 = .ok (.if_icmp .eq 5, 3) := by decide +kernel
theorem dL_law__1674 : decode cL_law_ 1674 = .ok (.iload 5, 2) := by decide +kernel
theorem dL_law__1676 : decode cL_law_ 1676 = .ok (.ifCond .ne 15, 3) := by decide +kernel
theorem dL_law__1679 : decode cL_law_ 1679 = .ok (.aload_n 3, 1) := by decide +kernel
theorem dL_law__1680 : decode cL_law_ 1680 = .ok (.iconst 0, 1) := by decide +kernel
theorem dL_law__1681 : decode cL_law_ 1681 = .ok (.laload, 1) := by decide +kernel
theorem dL_law__1682 : decode cL_law_ 1682 = .ok (.iload 6, 2) := by decide +kernel
theorem dL_law__1684 : decode cL_law_ 1684 = .ok (.i2l, 1) := by decide +kernel
theorem dL_law__1685 : decode cL_law_ 1685 = .ok (.lcmp, 1) := by decide +kernel
theorem dL_law__1686 : decode cL_law_ 1686 = .ok (.ifCond .eq 5, 3) := by decide +kernel
theorem dL_law__1691 : decode cL_law_ 1691 = .ok (.goto 1029, 3) := by decide +kernel
theorem dL_law__1694 : decode cL_law_ 1694 = .ok (.aload_n 1, 1) := by decide +kernel
theorem dL_law__1695 : decode cL_law_ 1695 = .ok (.aload_n 0, 1) := by decide +kernel
theorem dL_law__1696 : decode cL_law_ 1696 = .ok (.iload 4, 2) := by decide +kernel
theorem dL_law__1698 : decode cL_law_ 1698 = .ok (.iconst 1, 1) := by decide +kernel
theorem dL_law__1699 : decode cL_law_ 1699 = .ok (.iadd, 1) := by decide +kernel
theorem dL_law__1700 : decode cL_law_ 1700 = .ok (.iaload, 1) := by decide +kernel
theorem dL_law__1701 : decode cL_law_ 1701 = .ok (.aload_n 0, 1) := by decide +kernel
theorem dL_law__1702 : decode cL_law_ 1702 = .ok (.iload 4, 2) := by decide +kernel
theorem dL_law__1704 : decode cL_law_ 1704 = .ok (.iconst 2, 1) := by decide +kernel
theorem dL_law__1705 : decode cL_law_ 1705 = .ok (.iadd, 1) := by decide +kernel
theorem dL_law__1706 : decode cL_law_ 1706 = .ok (.iaload, 1) := by decide +kernel
theorem dL_law__1707 : decode cL_law_ 1707 = .ok (.aload_n 3, 1) := by decide +kernel
theorem dL_law__1708 : decode cL_law_ 1708 = .ok (.invokestatic 217, 3) := by decide +kernel
theorem wi_1132 : Cond.codeWith yL_match cL_match 5 (some .int) [(0, 10, 13, 13)] ∈ WA := zin 1132 (by decide +kernel) (by decide +kernel)
theorem wi_1130 : Cond.methodLink RL 217 yL_match ∈ WA := zin 1130 (by decide +kernel) (by decide +kernel)
theorem wi_1131 : Cond.static yL_match ∈ WA := zin 1131 (by decide +kernel) (by decide +kernel)
theorem mw_L_217 : zMw RL 217 mL_match [(0, 10, 13, 13)] 4 := ⟨wi_1130, wi_99, wi_1132, by decide, by decide +kernel, wi_1131⟩
theorem dL_law__1711 : decode cL_law_ 1711 = .ok (.istore 5, 2) := by decide +kernel
theorem dL_law__1713 : decode cL_law_ 1713 = .ok (.aload_n 2, 1) := by decide +kernel
theorem dL_law__1714 : decode cL_law_ 1714 = .ok (.aload_n 0, 1) := by decide +kernel
theorem dL_law__1715 : decode cL_law_ 1715 = .ok (.iload 4, 2) := by decide +kernel
theorem dL_law__1717 : decode cL_law_ 1717 = .ok (.iconst 1, 1) := by decide +kernel
theorem dL_law__1718 : decode cL_law_ 1718 = .ok (.iadd, 1) := by decide +kernel
theorem dL_law__1719 : decode cL_law_ 1719 = .ok (.iaload, 1) := by decide +kernel
theorem dL_law__1720 : decode cL_law_ 1720 = .ok (.aload_n 0, 1) := by decide +kernel
theorem dL_law__1721 : decode cL_law_ 1721 = .ok (.iload 4, 2) := by decide +kernel
theorem dL_law__1723 : decode cL_law_ 1723 = .ok (.iconst 2, 1) := by decide +kernel
theorem dL_law__1724 : decode cL_law_ 1724 = .ok (.iadd, 1) := by decide +kernel
theorem dL_law__1725 : decode cL_law_ 1725 = .ok (.iaload, 1) := by decide +kernel
theorem dL_law__1726 : decode cL_law_ 1726 = .ok (.invokevirtual 219, 3) := by decide +kernel
theorem wi_1781 : Cond.methodLink RL 219 yX10_match ∈ WA := zin 1781 (by decide +kernel) (by decide +kernel)
theorem wi_1784 : Cond.code yX10_match cX10_match 9 (some .int) ∈ WA := zin 1784 (by decide +kernel) (by decide +kernel)
theorem wi_1782 : Cond.instanceMethod yX10_match ∈ WA := zin 1782 (by decide +kernel) (by decide +kernel)
theorem wi_1783 : Cond.selects RX10 yX10_match yX10_match ∈ WA := zin 1783 (by decide +kernel) (by decide +kernel)
theorem mv_L_219 : zMv RL 219 RX10 mX10_match 2 := ⟨⟨wi_1781, wi_110, wi_1784, by decide, by decide +kernel⟩, wi_1782, wi_1783⟩
theorem dL_law__1729 : decode cL_law_ 1729 = .ok (.istore 6, 2) := by decide +kernel
theorem dL_law__1731 : decode cL_law_ 1731 = .ok (.aload_n 2, 1) := by decide +kernel
theorem dL_law__1732 : decode cL_law_ 1732 = .ok (.invokevirtual 145, 3) := by decide +kernel
theorem dL_law__1735 : decode cL_law_ 1735 = .ok (.iload 5, 2) := by decide +kernel
theorem dL_law__1737 : decode cL_law_ 1737 = .ok (.if_icmp .eq 5, 3) := by decide +kernel
theorem dL_law__1742 : decode cL_law_ 1742 = .ok (.iload 5, 2) := by decide +kernel
theorem dL_law__1744 : decode cL_law_ 1744 = .ok (.ifCond .ne 15, 3) := by decide +kernel
theorem dL_law__1747 : decode cL_law_ 1747 = .ok (.aload_n 3, 1) := by decide +kernel
theorem dL_law__1748 : decode cL_law_ 1748 = .ok (.iconst 0, 1) := by decide +kernel
theorem dL_law__1749 : decode cL_law_ 1749 = .ok (.laload, 1) := by decide +kernel
theorem dL_law__1750 : decode cL_law_ 1750 = .ok (.iload 6, 2) := by decide +kernel
theorem dL_law__1752 : decode cL_law_ 1752 = .ok (.i2l, 1) := by decide +kernel
theorem dL_law__1753 : decode cL_law_ 1753 = .ok (.lcmp, 1) := by decide +kernel
theorem dL_law__1754 : decode cL_law_ 1754 = .ok (.ifCond .eq 5, 3) := by decide +kernel
theorem dL_law__1759 : decode cL_law_ 1759 = .ok (.goto 961, 3) := by decide +kernel
theorem dL_law__1842 : decode cL_law_ 1842 = .ok (.aload_n 1, 1) := by decide +kernel
theorem dL_law__1843 : decode cL_law_ 1843 = .ok (.aload_n 0, 1) := by decide +kernel
theorem dL_law__1844 : decode cL_law_ 1844 = .ok (.iload 4, 2) := by decide +kernel
theorem dL_law__1846 : decode cL_law_ 1846 = .ok (.iconst 1, 1) := by decide +kernel
theorem dL_law__1847 : decode cL_law_ 1847 = .ok (.iadd, 1) := by decide +kernel
theorem dL_law__1848 : decode cL_law_ 1848 = .ok (.iaload, 1) := by decide +kernel
theorem dL_law__1849 : decode cL_law_ 1849 = .ok (.aload_n 3, 1) := by decide +kernel
theorem dL_law__1850 : decode cL_law_ 1850 = .ok (.invokestatic 223, 3) := by decide +kernel
theorem wi_1169 : Cond.codeWith yL_sells cL_sells 4 (some .int) [(0, 9, 12, 13)] ∈ WA := zin 1169 (by decide +kernel) (by decide +kernel)
theorem wi_1167 : Cond.methodLink RL 223 yL_sells ∈ WA := zin 1167 (by decide +kernel) (by decide +kernel)
theorem wi_1168 : Cond.static yL_sells ∈ WA := zin 1168 (by decide +kernel) (by decide +kernel)
theorem mw_L_223 : zMw RL 223 mL_sells [(0, 9, 12, 13)] 3 := ⟨wi_1167, wi_99, wi_1169, by decide, by decide +kernel, wi_1168⟩
theorem dL_law__1853 : decode cL_law_ 1853 = .ok (.istore 5, 2) := by decide +kernel
theorem dL_law__1855 : decode cL_law_ 1855 = .ok (.aload_n 2, 1) := by decide +kernel
theorem dL_law__1856 : decode cL_law_ 1856 = .ok (.aload_n 0, 1) := by decide +kernel
theorem dL_law__1857 : decode cL_law_ 1857 = .ok (.iload 4, 2) := by decide +kernel
theorem dL_law__1859 : decode cL_law_ 1859 = .ok (.iconst 1, 1) := by decide +kernel
theorem dL_law__1860 : decode cL_law_ 1860 = .ok (.iadd, 1) := by decide +kernel
theorem dL_law__1861 : decode cL_law_ 1861 = .ok (.iaload, 1) := by decide +kernel
theorem dL_law__1862 : decode cL_law_ 1862 = .ok (.invokevirtual 225, 3) := by decide +kernel
theorem wi_1841 : Cond.methodLink RL 225 yX10_sells ∈ WA := zin 1841 (by decide +kernel) (by decide +kernel)
theorem wi_1844 : Cond.code yX10_sells cX10_sells 2 (some .int) ∈ WA := zin 1844 (by decide +kernel) (by decide +kernel)
theorem wi_1842 : Cond.instanceMethod yX10_sells ∈ WA := zin 1842 (by decide +kernel) (by decide +kernel)
theorem wi_1843 : Cond.selects RX10 yX10_sells yX10_sells ∈ WA := zin 1843 (by decide +kernel) (by decide +kernel)
theorem mv_L_225 : zMv RL 225 RX10 mX10_sells 1 := ⟨⟨wi_1841, wi_110, wi_1844, by decide, by decide +kernel⟩, wi_1842, wi_1843⟩
theorem dL_law__1865 : decode cL_law_ 1865 = .ok (.istore 6, 2) := by decide +kernel
theorem dL_law__1867 : decode cL_law_ 1867 = .ok (.aload_n 2, 1) := by decide +kernel
theorem dL_law__1868 : decode cL_law_ 1868 = .ok (.invokevirtual 145, 3) := by decide +kernel
theorem dL_law__1871 : decode cL_law_ 1871 = .ok (.iload 5, 2) := by decide +kernel
theorem dL_law__1873 : decode cL_law_ 1873 = .ok (.if_icmp .eq 5, 3) := by decide +kernel
theorem dL_law__1878 : decode cL_law_ 1878 = .ok (.iload 5, 2) := by decide +kernel
theorem dL_law__1880 : decode cL_law_ 1880 = .ok (.ifCond .ne 15, 3) := by decide +kernel
theorem dL_law__1883 : decode cL_law_ 1883 = .ok (.aload_n 3, 1) := by decide +kernel
theorem dL_law__1884 : decode cL_law_ 1884 = .ok (.iconst 0, 1) := by decide +kernel
theorem dL_law__1885 : decode cL_law_ 1885 = .ok (.laload, 1) := by decide +kernel
theorem dL_law__1886 : decode cL_law_ 1886 = .ok (.iload 6, 2) := by decide +kernel
theorem dL_law__1888 : decode cL_law_ 1888 = .ok (.i2l, 1) := by decide +kernel
theorem dL_law__1889 : decode cL_law_ 1889 = .ok (.lcmp, 1) := by decide +kernel
theorem dL_law__1890 : decode cL_law_ 1890 = .ok (.ifCond .eq 5, 3) := by decide +kernel
theorem dL_law__1895 : decode cL_law_ 1895 = .ok (.goto 825, 3) := by decide +kernel
theorem dL_law__1924 : decode cL_law_ 1924 = .ok (.aload_n 1, 1) := by decide +kernel
theorem dL_law__1925 : decode cL_law_ 1925 = .ok (.aload_n 0, 1) := by decide +kernel
theorem dL_law__1926 : decode cL_law_ 1926 = .ok (.iload 4, 2) := by decide +kernel
theorem dL_law__1928 : decode cL_law_ 1928 = .ok (.iconst 1, 1) := by decide +kernel
theorem dL_law__1929 : decode cL_law_ 1929 = .ok (.iadd, 1) := by decide +kernel
theorem dL_law__1930 : decode cL_law_ 1930 = .ok (.iaload, 1) := by decide +kernel
theorem dL_law__1931 : decode cL_law_ 1931 = .ok (.aload_n 3, 1) := by decide +kernel
theorem dL_law__1932 : decode cL_law_ 1932 = .ok (.invokestatic 234, 3) := by decide +kernel
theorem wi_1177 : Cond.codeWith yL_luckiest cL_luckiest 4 (some .int) [(0, 9, 12, 24)] ∈ WA := zin 1177 (by decide +kernel) (by decide +kernel)
theorem wi_1175 : Cond.methodLink RL 234 yL_luckiest ∈ WA := zin 1175 (by decide +kernel) (by decide +kernel)
theorem wi_1176 : Cond.static yL_luckiest ∈ WA := zin 1176 (by decide +kernel) (by decide +kernel)
theorem mw_L_234 : zMw RL 234 mL_luckiest [(0, 9, 12, 24)] 3 := ⟨wi_1175, wi_99, wi_1177, by decide, by decide +kernel, wi_1176⟩
theorem dL_law__1935 : decode cL_law_ 1935 = .ok (.istore 5, 2) := by decide +kernel
theorem dL_law__1937 : decode cL_law_ 1937 = .ok (.aload_n 2, 1) := by decide +kernel
theorem dL_law__1938 : decode cL_law_ 1938 = .ok (.aload_n 0, 1) := by decide +kernel
theorem dL_law__1939 : decode cL_law_ 1939 = .ok (.iload 4, 2) := by decide +kernel
theorem dL_law__1941 : decode cL_law_ 1941 = .ok (.iconst 1, 1) := by decide +kernel
theorem dL_law__1942 : decode cL_law_ 1942 = .ok (.iadd, 1) := by decide +kernel
theorem dL_law__1943 : decode cL_law_ 1943 = .ok (.iaload, 1) := by decide +kernel
theorem dL_law__1944 : decode cL_law_ 1944 = .ok (.invokevirtual 236, 3) := by decide +kernel
theorem wi_1860 : Cond.methodLink RL 236 yX10_luckiest ∈ WA := zin 1860 (by decide +kernel) (by decide +kernel)
theorem wi_1863 : Cond.code yX10_luckiest cX10_luckiest 4 (some .int) ∈ WA := zin 1863 (by decide +kernel) (by decide +kernel)
theorem wi_1861 : Cond.instanceMethod yX10_luckiest ∈ WA := zin 1861 (by decide +kernel) (by decide +kernel)
theorem wi_1862 : Cond.selects RX10 yX10_luckiest yX10_luckiest ∈ WA := zin 1862 (by decide +kernel) (by decide +kernel)
theorem mv_L_236 : zMv RL 236 RX10 mX10_luckiest 1 := ⟨⟨wi_1860, wi_110, wi_1863, by decide, by decide +kernel⟩, wi_1861, wi_1862⟩
theorem dL_law__1947 : decode cL_law_ 1947 = .ok (.istore 6, 2) := by decide +kernel
theorem dL_law__1949 : decode cL_law_ 1949 = .ok (.aload_n 2, 1) := by decide +kernel
theorem dL_law__1950 : decode cL_law_ 1950 = .ok (.invokevirtual 145, 3) := by decide +kernel
theorem dL_law__1953 : decode cL_law_ 1953 = .ok (.iload 5, 2) := by decide +kernel
theorem dL_law__1955 : decode cL_law_ 1955 = .ok (.if_icmp .eq 5, 3) := by decide +kernel
theorem dL_law__1960 : decode cL_law_ 1960 = .ok (.iload 5, 2) := by decide +kernel
theorem dL_law__1962 : decode cL_law_ 1962 = .ok (.ifCond .ne 15, 3) := by decide +kernel
theorem dL_law__1965 : decode cL_law_ 1965 = .ok (.aload_n 3, 1) := by decide +kernel
theorem dL_law__1966 : decode cL_law_ 1966 = .ok (.iconst 0, 1) := by decide +kernel
theorem dL_law__1967 : decode cL_law_ 1967 = .ok (.laload, 1) := by decide +kernel
theorem dL_law__1968 : decode cL_law_ 1968 = .ok (.iload 6, 2) := by decide +kernel
theorem dL_law__1970 : decode cL_law_ 1970 = .ok (.i2l, 1) := by decide +kernel
theorem dL_law__1971 : decode cL_law_ 1971 = .ok (.lcmp, 1) := by decide +kernel
theorem dL_law__1972 : decode cL_law_ 1972 = .ok (.ifCond .eq 5, 3) := by decide +kernel
theorem dL_law__1977 : decode cL_law_ 1977 = .ok (.goto 743, 3) := by decide +kernel
theorem dL_law__2313 : decode cL_law_ 2313 = .ok (.aload_n 1, 1) := by decide +kernel
theorem dL_law__2314 : decode cL_law_ 2314 = .ok (.aload_n 0, 1) := by decide +kernel
theorem dL_law__2315 : decode cL_law_ 2315 = .ok (.iload 4, 2) := by decide +kernel
theorem dL_law__2317 : decode cL_law_ 2317 = .ok (.iconst 1, 1) := by decide +kernel
theorem dL_law__2318 : decode cL_law_ 2318 = .ok (.iadd, 1) := by decide +kernel
theorem dL_law__2319 : decode cL_law_ 2319 = .ok (.iaload, 1) := by decide +kernel
theorem dL_law__2320 : decode cL_law_ 2320 = .ok (.aload_n 0, 1) := by decide +kernel
theorem dL_law__2321 : decode cL_law_ 2321 = .ok (.iload 4, 2) := by decide +kernel
theorem dL_law__2323 : decode cL_law_ 2323 = .ok (.iconst 2, 1) := by decide +kernel
theorem dL_law__2324 : decode cL_law_ 2324 = .ok (.iadd, 1) := by decide +kernel
theorem dL_law__2325 : decode cL_law_ 2325 = .ok (.iaload, 1) := by decide +kernel
theorem dL_law__2326 : decode cL_law_ 2326 = .ok (.ifCond .eq 7, 3) := by decide +kernel
theorem dL_law__2333 : decode cL_law_ 2333 = .ok (.iconst 0, 1) := by decide +kernel
theorem dL_law__2334 : decode cL_law_ 2334 = .ok (.aload_n 3, 1) := by decide +kernel
theorem dL_law__2335 : decode cL_law_ 2335 = .ok (.invokestatic 273, 3) := by decide +kernel
theorem wi_1221 : Cond.codeWith yL_trial cL_trial 5 (some .int) [(0, 10, 13, 13)] ∈ WA := zin 1221 (by decide +kernel) (by decide +kernel)
theorem wi_1219 : Cond.methodLink RL 273 yL_trial ∈ WA := zin 1219 (by decide +kernel) (by decide +kernel)
theorem wi_1220 : Cond.static yL_trial ∈ WA := zin 1220 (by decide +kernel) (by decide +kernel)
theorem mw_L_273 : zMw RL 273 mL_trial [(0, 10, 13, 13)] 4 := ⟨wi_1219, wi_99, wi_1221, by decide, by decide +kernel, wi_1220⟩
theorem dL_law__2338 : decode cL_law_ 2338 = .ok (.istore 5, 2) := by decide +kernel
theorem dL_law__2340 : decode cL_law_ 2340 = .ok (.aload_n 2, 1) := by decide +kernel
theorem dL_law__2341 : decode cL_law_ 2341 = .ok (.aload_n 0, 1) := by decide +kernel
theorem dL_law__2342 : decode cL_law_ 2342 = .ok (.iload 4, 2) := by decide +kernel
theorem dL_law__2344 : decode cL_law_ 2344 = .ok (.iconst 1, 1) := by decide +kernel
theorem dL_law__2345 : decode cL_law_ 2345 = .ok (.iadd, 1) := by decide +kernel
theorem dL_law__2346 : decode cL_law_ 2346 = .ok (.iaload, 1) := by decide +kernel
theorem dL_law__2347 : decode cL_law_ 2347 = .ok (.aload_n 0, 1) := by decide +kernel
theorem dL_law__2348 : decode cL_law_ 2348 = .ok (.iload 4, 2) := by decide +kernel
theorem dL_law__2350 : decode cL_law_ 2350 = .ok (.iconst 2, 1) := by decide +kernel
theorem dL_law__2351 : decode cL_law_ 2351 = .ok (.iadd, 1) := by decide +kernel
theorem dL_law__2352 : decode cL_law_ 2352 = .ok (.iaload, 1) := by decide +kernel
theorem dL_law__2353 : decode cL_law_ 2353 = .ok (.ifCond .eq 7, 3) := by decide +kernel
theorem dL_law__2360 : decode cL_law_ 2360 = .ok (.iconst 0, 1) := by decide +kernel
theorem dL_law__2361 : decode cL_law_ 2361 = .ok (.invokevirtual 275, 3) := by decide +kernel
theorem wi_1904 : Cond.methodLink RL 275 yX10_trial ∈ WA := zin 1904 (by decide +kernel) (by decide +kernel)
theorem wi_1907 : Cond.code yX10_trial cX10_trial 4 (some .int) ∈ WA := zin 1907 (by decide +kernel) (by decide +kernel)
theorem wi_1905 : Cond.instanceMethod yX10_trial ∈ WA := zin 1905 (by decide +kernel) (by decide +kernel)
theorem wi_1906 : Cond.selects RX10 yX10_trial yX10_trial ∈ WA := zin 1906 (by decide +kernel) (by decide +kernel)
theorem mv_L_275 : zMv RL 275 RX10 mX10_trial 2 := ⟨⟨wi_1904, wi_110, wi_1907, by decide, by decide +kernel⟩, wi_1905, wi_1906⟩
theorem dL_law__2364 : decode cL_law_ 2364 = .ok (.istore 6, 2) := by decide +kernel
theorem dL_law__2366 : decode cL_law_ 2366 = .ok (.aload_n 2, 1) := by decide +kernel
theorem dL_law__2367 : decode cL_law_ 2367 = .ok (.invokevirtual 145, 3) := by decide +kernel
theorem dL_law__2370 : decode cL_law_ 2370 = .ok (.iload 5, 2) := by decide +kernel
theorem dL_law__2372 : decode cL_law_ 2372 = .ok (.if_icmp .eq 5, 3) := by decide +kernel
theorem dL_law__2377 : decode cL_law_ 2377 = .ok (.iload 5, 2) := by decide +kernel
theorem dL_law__2379 : decode cL_law_ 2379 = .ok (.ifCond .ne 15, 3) := by decide +kernel
theorem dL_law__2382 : decode cL_law_ 2382 = .ok (.aload_n 3, 1) := by decide +kernel
theorem dL_law__2383 : decode cL_law_ 2383 = .ok (.iconst 0, 1) := by decide +kernel
theorem dL_law__2384 : decode cL_law_ 2384 = .ok (.laload, 1) := by decide +kernel
theorem dL_law__2385 : decode cL_law_ 2385 = .ok (.iload 6, 2) := by decide +kernel
theorem dL_law__2387 : decode cL_law_ 2387 = .ok (.i2l, 1) := by decide +kernel
theorem dL_law__2388 : decode cL_law_ 2388 = .ok (.lcmp, 1) := by decide +kernel
theorem dL_law__2389 : decode cL_law_ 2389 = .ok (.ifCond .eq 5, 3) := by decide +kernel
theorem dL_law__2394 : decode cL_law_ 2394 = .ok (.goto 326, 3) := by decide +kernel
theorem dL_law__2356 : decode cL_law_ 2356 = .ok (.iconst 1, 1) := by decide +kernel
theorem dL_law__2357 : decode cL_law_ 2357 = .ok (.goto 4, 3) := by decide +kernel
theorem dL_law__2329 : decode cL_law_ 2329 = .ok (.iconst 1, 1) := by decide +kernel
theorem dL_law__2330 : decode cL_law_ 2330 = .ok (.goto 4, 3) := by decide +kernel
theorem dL_law__2397 : decode cL_law_ 2397 = .ok (.aload_n 1, 1) := by decide +kernel
theorem dL_law__2398 : decode cL_law_ 2398 = .ok (.aload_n 0, 1) := by decide +kernel
theorem dL_law__2399 : decode cL_law_ 2399 = .ok (.iload 4, 2) := by decide +kernel
theorem dL_law__2401 : decode cL_law_ 2401 = .ok (.iconst 1, 1) := by decide +kernel
theorem dL_law__2402 : decode cL_law_ 2402 = .ok (.iadd, 1) := by decide +kernel
theorem dL_law__2403 : decode cL_law_ 2403 = .ok (.iaload, 1) := by decide +kernel
theorem dL_law__2404 : decode cL_law_ 2404 = .ok (.aload_n 0, 1) := by decide +kernel
theorem dL_law__2405 : decode cL_law_ 2405 = .ok (.iload 4, 2) := by decide +kernel
theorem dL_law__2407 : decode cL_law_ 2407 = .ok (.iconst 2, 1) := by decide +kernel
theorem dL_law__2408 : decode cL_law_ 2408 = .ok (.iadd, 1) := by decide +kernel
theorem dL_law__2409 : decode cL_law_ 2409 = .ok (.iaload, 1) := by decide +kernel
theorem dL_law__2410 : decode cL_law_ 2410 = .ok (.ifCond .eq 7, 3) := by decide +kernel
theorem dL_law__2417 : decode cL_law_ 2417 = .ok (.iconst 0, 1) := by decide +kernel
theorem dL_law__2418 : decode cL_law_ 2418 = .ok (.aload_n 3, 1) := by decide +kernel
theorem dL_law__2419 : decode cL_law_ 2419 = .ok (.invokestatic 276, 3) := by decide +kernel
theorem wi_1232 : Cond.codeWith yL_span cL_span 5 (some .int) [(0, 10, 13, 13)] ∈ WA := zin 1232 (by decide +kernel) (by decide +kernel)
theorem wi_1230 : Cond.methodLink RL 276 yL_span ∈ WA := zin 1230 (by decide +kernel) (by decide +kernel)
theorem wi_1231 : Cond.static yL_span ∈ WA := zin 1231 (by decide +kernel) (by decide +kernel)
theorem mw_L_276 : zMw RL 276 mL_span [(0, 10, 13, 13)] 4 := ⟨wi_1230, wi_99, wi_1232, by decide, by decide +kernel, wi_1231⟩
theorem dL_law__2422 : decode cL_law_ 2422 = .ok (.istore 5, 2) := by decide +kernel
theorem dL_law__2424 : decode cL_law_ 2424 = .ok (.aload_n 2, 1) := by decide +kernel
theorem dL_law__2425 : decode cL_law_ 2425 = .ok (.aload_n 0, 1) := by decide +kernel
theorem dL_law__2426 : decode cL_law_ 2426 = .ok (.iload 4, 2) := by decide +kernel
theorem dL_law__2428 : decode cL_law_ 2428 = .ok (.iconst 1, 1) := by decide +kernel
theorem dL_law__2429 : decode cL_law_ 2429 = .ok (.iadd, 1) := by decide +kernel
theorem dL_law__2430 : decode cL_law_ 2430 = .ok (.iaload, 1) := by decide +kernel
theorem dL_law__2431 : decode cL_law_ 2431 = .ok (.aload_n 0, 1) := by decide +kernel
theorem dL_law__2432 : decode cL_law_ 2432 = .ok (.iload 4, 2) := by decide +kernel
theorem dL_law__2434 : decode cL_law_ 2434 = .ok (.iconst 2, 1) := by decide +kernel
theorem dL_law__2435 : decode cL_law_ 2435 = .ok (.iadd, 1) := by decide +kernel
theorem dL_law__2436 : decode cL_law_ 2436 = .ok (.iaload, 1) := by decide +kernel
theorem dL_law__2437 : decode cL_law_ 2437 = .ok (.ifCond .eq 7, 3) := by decide +kernel
theorem dL_law__2444 : decode cL_law_ 2444 = .ok (.iconst 0, 1) := by decide +kernel
theorem dL_law__2445 : decode cL_law_ 2445 = .ok (.invokevirtual 278, 3) := by decide +kernel
theorem wi_1912 : Cond.methodLink RL 278 yX10_span ∈ WA := zin 1912 (by decide +kernel) (by decide +kernel)
theorem wi_1915 : Cond.code yX10_span cX10_span 6 (some .int) ∈ WA := zin 1915 (by decide +kernel) (by decide +kernel)
theorem wi_1913 : Cond.instanceMethod yX10_span ∈ WA := zin 1913 (by decide +kernel) (by decide +kernel)
theorem wi_1914 : Cond.selects RX10 yX10_span yX10_span ∈ WA := zin 1914 (by decide +kernel) (by decide +kernel)
theorem mv_L_278 : zMv RL 278 RX10 mX10_span 2 := ⟨⟨wi_1912, wi_110, wi_1915, by decide, by decide +kernel⟩, wi_1913, wi_1914⟩
theorem dL_law__2448 : decode cL_law_ 2448 = .ok (.istore 6, 2) := by decide +kernel
theorem dL_law__2450 : decode cL_law_ 2450 = .ok (.aload_n 2, 1) := by decide +kernel
theorem dL_law__2451 : decode cL_law_ 2451 = .ok (.invokevirtual 145, 3) := by decide +kernel
theorem dL_law__2454 : decode cL_law_ 2454 = .ok (.iload 5, 2) := by decide +kernel
theorem dL_law__2456 : decode cL_law_ 2456 = .ok (.if_icmp .eq 5, 3) := by decide +kernel
theorem dL_law__2461 : decode cL_law_ 2461 = .ok (.iload 5, 2) := by decide +kernel
theorem dL_law__2463 : decode cL_law_ 2463 = .ok (.ifCond .ne 15, 3) := by decide +kernel
theorem dL_law__2466 : decode cL_law_ 2466 = .ok (.aload_n 3, 1) := by decide +kernel
theorem dL_law__2467 : decode cL_law_ 2467 = .ok (.iconst 0, 1) := by decide +kernel
theorem dL_law__2468 : decode cL_law_ 2468 = .ok (.laload, 1) := by decide +kernel
theorem dL_law__2469 : decode cL_law_ 2469 = .ok (.iload 6, 2) := by decide +kernel
theorem dL_law__2471 : decode cL_law_ 2471 = .ok (.i2l, 1) := by decide +kernel
theorem dL_law__2472 : decode cL_law_ 2472 = .ok (.lcmp, 1) := by decide +kernel
theorem dL_law__2473 : decode cL_law_ 2473 = .ok (.ifCond .eq 5, 3) := by decide +kernel
theorem dL_law__2478 : decode cL_law_ 2478 = .ok (.goto 242, 3) := by decide +kernel
theorem dL_law__2440 : decode cL_law_ 2440 = .ok (.iconst 1, 1) := by decide +kernel
theorem dL_law__2441 : decode cL_law_ 2441 = .ok (.goto 4, 3) := by decide +kernel
theorem dL_law__2413 : decode cL_law_ 2413 = .ok (.iconst 1, 1) := by decide +kernel
theorem dL_law__2414 : decode cL_law_ 2414 = .ok (.goto 4, 3) := by decide +kernel
theorem dL_law__2565 : decode cL_law_ 2565 = .ok (.aload_n 1, 1) := by decide +kernel
theorem dL_law__2566 : decode cL_law_ 2566 = .ok (.aload_n 0, 1) := by decide +kernel
theorem dL_law__2567 : decode cL_law_ 2567 = .ok (.iload 4, 2) := by decide +kernel
theorem dL_law__2569 : decode cL_law_ 2569 = .ok (.iconst 1, 1) := by decide +kernel
theorem dL_law__2570 : decode cL_law_ 2570 = .ok (.iadd, 1) := by decide +kernel
theorem dL_law__2571 : decode cL_law_ 2571 = .ok (.iaload, 1) := by decide +kernel
theorem dL_law__2572 : decode cL_law_ 2572 = .ok (.aload_n 0, 1) := by decide +kernel
theorem dL_law__2573 : decode cL_law_ 2573 = .ok (.iload 4, 2) := by decide +kernel
theorem dL_law__2575 : decode cL_law_ 2575 = .ok (.iconst 2, 1) := by decide +kernel
theorem dL_law__2576 : decode cL_law_ 2576 = .ok (.iadd, 1) := by decide +kernel
theorem dL_law__2577 : decode cL_law_ 2577 = .ok (.iaload, 1) := by decide +kernel
theorem dL_law__2578 : decode cL_law_ 2578 = .ok (.aload_n 3, 1) := by decide +kernel
theorem dL_law__2579 : decode cL_law_ 2579 = .ok (.invokestatic 282, 3) := by decide +kernel
theorem wi_1247 : Cond.codeWith yL_log cL_log 5 (some .int) [(0, 10, 13, 26)] ∈ WA := zin 1247 (by decide +kernel) (by decide +kernel)
theorem wi_1245 : Cond.methodLink RL 282 yL_log ∈ WA := zin 1245 (by decide +kernel) (by decide +kernel)
theorem wi_1246 : Cond.static yL_log ∈ WA := zin 1246 (by decide +kernel) (by decide +kernel)
theorem mw_L_282 : zMw RL 282 mL_log [(0, 10, 13, 26)] 4 := ⟨wi_1245, wi_99, wi_1247, by decide, by decide +kernel, wi_1246⟩
theorem dL_law__2582 : decode cL_law_ 2582 = .ok (.istore 5, 2) := by decide +kernel
theorem dL_law__2584 : decode cL_law_ 2584 = .ok (.aload_n 2, 1) := by decide +kernel
theorem dL_law__2585 : decode cL_law_ 2585 = .ok (.aload_n 0, 1) := by decide +kernel
theorem dL_law__2586 : decode cL_law_ 2586 = .ok (.iload 4, 2) := by decide +kernel
theorem dL_law__2588 : decode cL_law_ 2588 = .ok (.iconst 1, 1) := by decide +kernel
theorem dL_law__2589 : decode cL_law_ 2589 = .ok (.iadd, 1) := by decide +kernel
theorem dL_law__2590 : decode cL_law_ 2590 = .ok (.iaload, 1) := by decide +kernel
theorem dL_law__2591 : decode cL_law_ 2591 = .ok (.aload_n 0, 1) := by decide +kernel
theorem dL_law__2592 : decode cL_law_ 2592 = .ok (.iload 4, 2) := by decide +kernel
theorem dL_law__2594 : decode cL_law_ 2594 = .ok (.iconst 2, 1) := by decide +kernel
theorem dL_law__2595 : decode cL_law_ 2595 = .ok (.iadd, 1) := by decide +kernel
theorem dL_law__2596 : decode cL_law_ 2596 = .ok (.iaload, 1) := by decide +kernel
theorem dL_law__2597 : decode cL_law_ 2597 = .ok (.invokevirtual 284, 3) := by decide +kernel
theorem wi_1920 : Cond.methodLink RL 284 yX10_log ∈ WA := zin 1920 (by decide +kernel) (by decide +kernel)
theorem wi_1923 : Cond.code yX10_log cX10_log 3 (some .int) ∈ WA := zin 1923 (by decide +kernel) (by decide +kernel)
theorem wi_1921 : Cond.instanceMethod yX10_log ∈ WA := zin 1921 (by decide +kernel) (by decide +kernel)
theorem wi_1922 : Cond.selects RX10 yX10_log yX10_log ∈ WA := zin 1922 (by decide +kernel) (by decide +kernel)
theorem mv_L_284 : zMv RL 284 RX10 mX10_log 2 := ⟨⟨wi_1920, wi_110, wi_1923, by decide, by decide +kernel⟩, wi_1921, wi_1922⟩
theorem dL_law__2600 : decode cL_law_ 2600 = .ok (.istore 6, 2) := by decide +kernel
theorem dL_law__2602 : decode cL_law_ 2602 = .ok (.aload_n 2, 1) := by decide +kernel
theorem dL_law__2603 : decode cL_law_ 2603 = .ok (.invokevirtual 145, 3) := by decide +kernel
theorem dL_law__2606 : decode cL_law_ 2606 = .ok (.iload 5, 2) := by decide +kernel
theorem dL_law__2608 : decode cL_law_ 2608 = .ok (.if_icmp .eq 5, 3) := by decide +kernel
theorem dL_law__2613 : decode cL_law_ 2613 = .ok (.iload 5, 2) := by decide +kernel
theorem dL_law__2615 : decode cL_law_ 2615 = .ok (.ifCond .ne 15, 3) := by decide +kernel
theorem dL_law__2618 : decode cL_law_ 2618 = .ok (.aload_n 3, 1) := by decide +kernel
theorem dL_law__2619 : decode cL_law_ 2619 = .ok (.iconst 0, 1) := by decide +kernel
theorem dL_law__2620 : decode cL_law_ 2620 = .ok (.laload, 1) := by decide +kernel
theorem dL_law__2621 : decode cL_law_ 2621 = .ok (.iload 6, 2) := by decide +kernel
theorem dL_law__2623 : decode cL_law_ 2623 = .ok (.i2l, 1) := by decide +kernel
theorem dL_law__2624 : decode cL_law_ 2624 = .ok (.lcmp, 1) := by decide +kernel
theorem dL_law__2625 : decode cL_law_ 2625 = .ok (.ifCond .eq 5, 3) := by decide +kernel
theorem dL_law__2630 : decode cL_law_ 2630 = .ok (.goto 90, 3) := by decide +kernel
section LawB
variable {G0 : Gx} {b0 : Nat} {xs : Nat → Int32}
theorem lcn_coast (h9 : gad G0 998 = b0) (ad : Nat → Nat) (v0 : Int32) (hw : ∀ (_ : Unit), CtW (gw G0 ad) GAM mL_coast [(0, 8, 11, 13), (0, 8, 14, 15)] 19 1 [.ref 0, .ref 107] I0 (RW v0)) (hm : ∀ (J : Hi), FM J → Ct (gw G0 ad) GAM mX10_coast 19 0 [.ref 94] J (RM v0 (nI 0) (J 107))) : Rn (gw G0 ad) GAM mL_law_ (kZ (kL b0 6 xs) G0 0 ad 108) 20 400000 350 [some (.ref 998), some (.ref 0), some (.ref 94), some (.ref 107), some (.int (nI 0)), none, none] [] I0 := by
  refine Rn.aload_n dL_law__350 rfl rfl ?_
  refine Rn.aload_n dL_law__351 rfl rfl ?_
  refine Rn.callW (mc := 1) (As := [_, _]) dL_law__352 mw_L_139 rfl rfl (Nat.le_of_ble_eq_true rfl) (hw ()) (fun E J q => nomatch q.1) (fun v J q => ?_)
  obtain ⟨e1, hF, h107⟩ := q
  cases e1
  refine Rn.istore dL_law__355 (by decide) ?_
  refine Rn.aload_n dL_law__357 rfl rfl ?_
  refine Rn.callV (As := []) dL_law__358 mv_L_144 (by first | rfl | exact gC0 (by assumption) | exact gL0 (by assumption)) rfl rfl rfl (Nat.le_of_ble_eq_true rfl) (hm J hF) (fun E J q => nomatch q.1) (fun v K q => ?_)
  obtain ⟨e2, k0, k7⟩ := q
  cases e2
  refine Rn.istore dL_law__361 (by decide) ?_
  refine Rn.aload_n dL_law__363 rfl rfl ?_
  refine Rn.callVp (As := []) dL_law__364 mv_L_145 (by first | rfl | exact gC0 (by assumption) | exact gL0 (by assumption)) rfl rfl rfl (Nat.le_of_ble_eq_true rfl) (ct_thrown _ _ _) ?_
  refine Rn.topI (nI 0) (by exact k0) ?_
  refine Rn.iload dL_law__367 rfl ?_
  refine Rn.icmp_eq (tgt := 374) dL_law__369 (by decide) (fun _ => ?_) (fun h9 => absurd h9 (by decide))
  refine Rn.iload dL_law__374 rfl ?_
  refine Rn.if_ne (tgt := 391) dL_law__376 (by decide) (fun h9 => absurd h9 (by decide)) (fun _ => ?_)
  refine Rn.aload_n dL_law__379 rfl rfl ?_
  refine Rn.iconst (v := (nI 0)) dL_law__380 rfl ?_
  refine Rn.lald dL_law__381 (by first | rfl | exact gC1 (by assumption) | exact gC2 (by assumption) | exact gC3 (by assumption) | exact gL1 (by assumption) | exact gL2 (by assumption) | exact gL3 (by assumption) | exact gL4 (by assumption) | exact gL5 (by assumption) | exact gL6 (by assumption)) (by decide) (by decide) ?_
  refine Rn.iload dL_law__382 rfl ?_
  refine Rn.i2l dL_law__384 ?_
  refine Rn.lcmpE dL_law__385 (by rw [k7]; exact h107) ?_
  refine Rn.if_eq (tgt := 391) dL_law__386 (by decide) (fun _ => ?_) (fun h9 => absurd h9 (by decide))
  refine Rn.goto 2720 dL_law__391 (by decide) ?_
  exact law_end h9 ad _ _ _ _ _
theorem lcn_law (h9 : gad G0 998 = b0) (ad : Nat → Nat) (v0 : Int32) (hw : ∀ (_ : Unit), CtW (gw G0 ad) GAM mL_law [(0, 8, 11, 13)] 19 1 [.ref 0, .ref 107] I0 (RW v0)) (hm : ∀ (J : Hi), FM J → Ct (gw G0 ad) GAM mX10_law 19 0 [.ref 94] J (RM v0 (nI 0) (J 107))) : Rn (gw G0 ad) GAM mL_law_ (kZ (kL b0 6 xs) G0 0 ad 108) 20 400000 394 [some (.ref 998), some (.ref 0), some (.ref 94), some (.ref 107), some (.int (nI 0)), none, none] [] I0 := by
  refine Rn.aload_n dL_law__394 rfl rfl ?_
  refine Rn.aload_n dL_law__395 rfl rfl ?_
  refine Rn.callW (mc := 1) (As := [_, _]) dL_law__396 mw_L_148 rfl rfl (Nat.le_of_ble_eq_true rfl) (hw ()) (fun E J q => nomatch q.1) (fun v J q => ?_)
  obtain ⟨e1, hF, h107⟩ := q
  cases e1
  refine Rn.istore dL_law__399 (by decide) ?_
  refine Rn.aload_n dL_law__401 rfl rfl ?_
  refine Rn.callV (As := []) dL_law__402 mv_L_150 (by first | rfl | exact gC0 (by assumption) | exact gL0 (by assumption)) rfl rfl rfl (Nat.le_of_ble_eq_true rfl) (hm J hF) (fun E J q => nomatch q.1) (fun v K q => ?_)
  obtain ⟨e2, k0, k7⟩ := q
  cases e2
  refine Rn.istore dL_law__405 (by decide) ?_
  refine Rn.aload_n dL_law__407 rfl rfl ?_
  refine Rn.callVp (As := []) dL_law__408 mv_L_145 (by first | rfl | exact gC0 (by assumption) | exact gL0 (by assumption)) rfl rfl rfl (Nat.le_of_ble_eq_true rfl) (ct_thrown _ _ _) ?_
  refine Rn.topI (nI 0) (by exact k0) ?_
  refine Rn.iload dL_law__411 rfl ?_
  refine Rn.icmp_eq (tgt := 418) dL_law__413 (by decide) (fun _ => ?_) (fun h9 => absurd h9 (by decide))
  refine Rn.iload dL_law__418 rfl ?_
  refine Rn.if_ne (tgt := 435) dL_law__420 (by decide) (fun h9 => absurd h9 (by decide)) (fun _ => ?_)
  refine Rn.aload_n dL_law__423 rfl rfl ?_
  refine Rn.iconst (v := (nI 0)) dL_law__424 rfl ?_
  refine Rn.lald dL_law__425 (by first | rfl | exact gC1 (by assumption) | exact gC2 (by assumption) | exact gC3 (by assumption) | exact gL1 (by assumption) | exact gL2 (by assumption) | exact gL3 (by assumption) | exact gL4 (by assumption) | exact gL5 (by assumption) | exact gL6 (by assumption)) (by decide) (by decide) ?_
  refine Rn.iload dL_law__426 rfl ?_
  refine Rn.i2l dL_law__428 ?_
  refine Rn.lcmpE dL_law__429 (by rw [k7]; exact h107) ?_
  refine Rn.if_eq (tgt := 435) dL_law__430 (by decide) (fun _ => ?_) (fun h9 => absurd h9 (by decide))
  refine Rn.goto 2720 dL_law__435 (by decide) ?_
  exact law_end h9 ad _ _ _ _ _
theorem lcn_days (h9 : gad G0 998 = b0) (ad : Nat → Nat) (v0 : Int32) (hw : ∀ (_ : Unit), CtW (gw G0 ad) GAM mL_days [(0, 9, 12, 13)] 19 1 [.ref 0, .int (xs 1), .ref 107] I0 (RW v0)) (hm : ∀ (J : Hi), FM J → Ct (gw G0 ad) GAM mX10_days 19 0 [.ref 94, .int (xs 1)] J (RM v0 (nI 0) (J 107))) : Rn (gw G0 ad) GAM mL_law_ (kZ (kL b0 6 xs) G0 0 ad 108) 20 400000 1130 [some (.ref 998), some (.ref 0), some (.ref 94), some (.ref 107), some (.int (nI 0)), none, none] [] I0 := by
  refine Rn.aload_n dL_law__1130 rfl rfl ?_
  refine Rn.aload_n dL_law__1131 rfl rfl ?_
  refine Rn.iload dL_law__1132 rfl ?_
  refine Rn.iconst (v := (nI 1)) dL_law__1134 rfl ?_
  refine Rn.iadd dL_law__1135 ?_
  refine Rn.topI (nI 1) (by decide) ?_
  refine Rn.sld dL_law__1136 h9 (by decide) (by decide) rfl ?_
  refine Rn.aload_n dL_law__1137 rfl rfl ?_
  refine Rn.callW (mc := 1) (As := [_, _, _]) dL_law__1138 mw_L_189 rfl rfl (Nat.le_of_ble_eq_true rfl) (hw ()) (fun E J q => nomatch q.1) (fun v J q => ?_)
  obtain ⟨e1, hF, h107⟩ := q
  cases e1
  refine Rn.istore dL_law__1141 (by decide) ?_
  refine Rn.aload_n dL_law__1143 rfl rfl ?_
  refine Rn.aload_n dL_law__1144 rfl rfl ?_
  refine Rn.iload dL_law__1145 rfl ?_
  refine Rn.iconst (v := (nI 1)) dL_law__1147 rfl ?_
  refine Rn.iadd dL_law__1148 ?_
  refine Rn.topI (nI 1) (by decide) ?_
  refine Rn.sld dL_law__1149 h9 (by decide) (by decide) rfl ?_
  refine Rn.callV (As := [_]) dL_law__1150 mv_L_191 (by first | rfl | exact gC0 (by assumption) | exact gL0 (by assumption)) rfl rfl rfl (Nat.le_of_ble_eq_true rfl) (hm J hF) (fun E J q => nomatch q.1) (fun v K q => ?_)
  obtain ⟨e2, k0, k7⟩ := q
  cases e2
  refine Rn.istore dL_law__1153 (by decide) ?_
  refine Rn.aload_n dL_law__1155 rfl rfl ?_
  refine Rn.callVp (As := []) dL_law__1156 mv_L_145 (by first | rfl | exact gC0 (by assumption) | exact gL0 (by assumption)) rfl rfl rfl (Nat.le_of_ble_eq_true rfl) (ct_thrown _ _ _) ?_
  refine Rn.topI (nI 0) (by exact k0) ?_
  refine Rn.iload dL_law__1159 rfl ?_
  refine Rn.icmp_eq (tgt := 1166) dL_law__1161 (by decide) (fun _ => ?_) (fun h9 => absurd h9 (by decide))
  refine Rn.iload dL_law__1166 rfl ?_
  refine Rn.if_ne (tgt := 1183) dL_law__1168 (by decide) (fun h9 => absurd h9 (by decide)) (fun _ => ?_)
  refine Rn.aload_n dL_law__1171 rfl rfl ?_
  refine Rn.iconst (v := (nI 0)) dL_law__1172 rfl ?_
  refine Rn.lald dL_law__1173 (by first | rfl | exact gC1 (by assumption) | exact gC2 (by assumption) | exact gC3 (by assumption) | exact gL1 (by assumption) | exact gL2 (by assumption) | exact gL3 (by assumption) | exact gL4 (by assumption) | exact gL5 (by assumption) | exact gL6 (by assumption)) (by decide) (by decide) ?_
  refine Rn.iload dL_law__1174 rfl ?_
  refine Rn.i2l dL_law__1176 ?_
  refine Rn.lcmpE dL_law__1177 (by rw [k7]; exact h107) ?_
  refine Rn.if_eq (tgt := 1183) dL_law__1178 (by decide) (fun _ => ?_) (fun h9 => absurd h9 (by decide))
  refine Rn.goto 2720 dL_law__1183 (by decide) ?_
  exact law_end h9 ad _ _ _ _ _
theorem lct_days (h9 : gad G0 998 = b0) (ad : Nat → Nat) (hw : ∀ (_ : Unit), CtW (gw G0 ad) GAM mL_days [(0, 9, 12, 13)] 19 1 [.ref 0, .int (xs 1), .ref 107] I0 (Rp (some (.int (nI 1))) I0)) (hm : ∀ (_ : Unit), Ct (gw G0 ad) GAM mX10_days 19 0 [.ref 94, .int (xs 1)] I0 (Rp (some (.int (nI 0))) (zup (zup I0 94 0 (nI 0)) 94 0 (nI 1)))) : Rn (gw G0 ad) GAM mL_law_ (kZ (kL b0 6 xs) G0 0 ad 108) 20 400000 1130 [some (.ref 998), some (.ref 0), some (.ref 94), some (.ref 107), some (.int (nI 0)), none, none] [] I0 := by
  refine Rn.aload_n dL_law__1130 rfl rfl ?_
  refine Rn.aload_n dL_law__1131 rfl rfl ?_
  refine Rn.iload dL_law__1132 rfl ?_
  refine Rn.iconst (v := (nI 1)) dL_law__1134 rfl ?_
  refine Rn.iadd dL_law__1135 ?_
  refine Rn.topI (nI 1) (by decide) ?_
  refine Rn.sld dL_law__1136 h9 (by decide) (by decide) rfl ?_
  refine Rn.aload_n dL_law__1137 rfl rfl ?_
  refine Rn.callWp (mc := 1) (As := [_, _, _]) dL_law__1138 mw_L_189 rfl rfl (Nat.le_of_ble_eq_true rfl) (hw ()) ?_
  refine Rn.istore dL_law__1141 (by decide) ?_
  refine Rn.aload_n dL_law__1143 rfl rfl ?_
  refine Rn.aload_n dL_law__1144 rfl rfl ?_
  refine Rn.iload dL_law__1145 rfl ?_
  refine Rn.iconst (v := (nI 1)) dL_law__1147 rfl ?_
  refine Rn.iadd dL_law__1148 ?_
  refine Rn.topI (nI 1) (by decide) ?_
  refine Rn.sld dL_law__1149 h9 (by decide) (by decide) rfl ?_
  refine Rn.callVp (As := [_]) dL_law__1150 mv_L_191 (by first | rfl | exact gC0 (by assumption) | exact gL0 (by assumption)) rfl rfl rfl (Nat.le_of_ble_eq_true rfl) (hm ()) ?_
  refine Rn.istore dL_law__1153 (by decide) ?_
  refine Rn.aload_n dL_law__1155 rfl rfl ?_
  refine Rn.callVp (As := []) dL_law__1156 mv_L_145 (by first | rfl | exact gC0 (by assumption) | exact gL0 (by assumption)) rfl rfl rfl (Nat.le_of_ble_eq_true rfl) (ct_thrown _ _ _) ?_
  refine Rn.topI (nI 1) (by rfl) ?_
  refine Rn.iload dL_law__1159 rfl ?_
  refine Rn.icmp_eq (tgt := 1166) dL_law__1161 (by decide) (fun _ => ?_) (fun h9 => absurd h9 (by decide))
  refine Rn.iload dL_law__1166 rfl ?_
  refine Rn.if_ne (tgt := 1183) dL_law__1168 (by decide) (fun _ => ?_) (fun h9 => absurd h9 (by decide))
  refine Rn.goto 2720 dL_law__1183 (by decide) ?_
  exact law_end h9 ad _ _ _ _ _
theorem lcn_whose (h9 : gad G0 998 = b0) (ad : Nat → Nat) (v0 : Int32) (hw : ∀ (_ : Unit), CtW (gw G0 ad) GAM mL_whose [(0, 8, 11, 13)] 19 0 [.ref 0, .ref 107] I0 (RW v0)) (hm : ∀ (J : Hi), FM J → Ct (gw G0 ad) GAM mX10_whose 19 0 [.ref 94] J (RM v0 (nI 0) (J 107))) : Rn (gw G0 ad) GAM mL_law_ (kZ (kL b0 6 xs) G0 0 ad 108) 20 400000 1606 [some (.ref 998), some (.ref 0), some (.ref 94), some (.ref 107), some (.int (nI 0)), none, none] [] I0 := by
  refine Rn.aload_n dL_law__1606 rfl rfl ?_
  refine Rn.aload_n dL_law__1607 rfl rfl ?_
  refine Rn.callW (mc := 0) (As := [_, _]) dL_law__1608 mw_L_211 rfl rfl (Nat.le_of_ble_eq_true rfl) (hw ()) (fun E J q => nomatch q.1) (fun v J q => ?_)
  obtain ⟨e1, hF, h107⟩ := q
  cases e1
  refine Rn.istore dL_law__1611 (by decide) ?_
  refine Rn.aload_n dL_law__1613 rfl rfl ?_
  refine Rn.callV (As := []) dL_law__1614 mv_L_213 (by first | rfl | exact gC0 (by assumption) | exact gL0 (by assumption)) rfl rfl rfl (Nat.le_of_ble_eq_true rfl) (hm J hF) (fun E J q => nomatch q.1) (fun v K q => ?_)
  obtain ⟨e2, k0, k7⟩ := q
  cases e2
  refine Rn.istore dL_law__1617 (by decide) ?_
  refine Rn.aload_n dL_law__1619 rfl rfl ?_
  refine Rn.callVp (As := []) dL_law__1620 mv_L_145 (by first | rfl | exact gC0 (by assumption) | exact gL0 (by assumption)) rfl rfl rfl (Nat.le_of_ble_eq_true rfl) (ct_thrown _ _ _) ?_
  refine Rn.topI (nI 0) (by exact k0) ?_
  refine Rn.iload dL_law__1623 rfl ?_
  refine Rn.icmp_eq (tgt := 1630) dL_law__1625 (by decide) (fun _ => ?_) (fun h9 => absurd h9 (by decide))
  refine Rn.iload dL_law__1630 rfl ?_
  refine Rn.if_ne (tgt := 1647) dL_law__1632 (by decide) (fun h9 => absurd h9 (by decide)) (fun _ => ?_)
  refine Rn.aload_n dL_law__1635 rfl rfl ?_
  refine Rn.iconst (v := (nI 0)) dL_law__1636 rfl ?_
  refine Rn.lald dL_law__1637 (by first | rfl | exact gC1 (by assumption) | exact gC2 (by assumption) | exact gC3 (by assumption) | exact gL1 (by assumption) | exact gL2 (by assumption) | exact gL3 (by assumption) | exact gL4 (by assumption) | exact gL5 (by assumption) | exact gL6 (by assumption)) (by decide) (by decide) ?_
  refine Rn.iload dL_law__1638 rfl ?_
  refine Rn.i2l dL_law__1640 ?_
  refine Rn.lcmpE dL_law__1641 (by rw [k7]; exact h107) ?_
  refine Rn.if_eq (tgt := 1647) dL_law__1642 (by decide) (fun _ => ?_) (fun h9 => absurd h9 (by decide))
  refine Rn.goto 2720 dL_law__1647 (by decide) ?_
  exact law_end h9 ad _ _ _ _ _
theorem lcn_next (h9 : gad G0 998 = b0) (ad : Nat → Nat) (v0 : Int32) (hw : ∀ (_ : Unit), CtW (gw G0 ad) GAM mL_next [(0, 8, 11, 13)] 19 0 [.ref 0, .ref 107] I0 (RW v0)) (hm : ∀ (J : Hi), FM J → Ct (gw G0 ad) GAM mX10_next 19 0 [.ref 94] J (RM v0 (nI 0) (J 107))) : Rn (gw G0 ad) GAM mL_law_ (kZ (kL b0 6 xs) G0 0 ad 108) 20 400000 1650 [some (.ref 998), some (.ref 0), some (.ref 94), some (.ref 107), some (.int (nI 0)), none, none] [] I0 := by
  refine Rn.aload_n dL_law__1650 rfl rfl ?_
  refine Rn.aload_n dL_law__1651 rfl rfl ?_
  refine Rn.callW (mc := 0) (As := [_, _]) dL_law__1652 mw_L_214 rfl rfl (Nat.le_of_ble_eq_true rfl) (hw ()) (fun E J q => nomatch q.1) (fun v J q => ?_)
  obtain ⟨e1, hF, h107⟩ := q
  cases e1
  refine Rn.istore dL_law__1655 (by decide) ?_
  refine Rn.aload_n dL_law__1657 rfl rfl ?_
  refine Rn.callV (As := []) dL_law__1658 mv_L_216 (by first | rfl | exact gC0 (by assumption) | exact gL0 (by assumption)) rfl rfl rfl (Nat.le_of_ble_eq_true rfl) (hm J hF) (fun E J q => nomatch q.1) (fun v K q => ?_)
  obtain ⟨e2, k0, k7⟩ := q
  cases e2
  refine Rn.istore dL_law__1661 (by decide) ?_
  refine Rn.aload_n dL_law__1663 rfl rfl ?_
  refine Rn.callVp (As := []) dL_law__1664 mv_L_145 (by first | rfl | exact gC0 (by assumption) | exact gL0 (by assumption)) rfl rfl rfl (Nat.le_of_ble_eq_true rfl) (ct_thrown _ _ _) ?_
  refine Rn.topI (nI 0) (by exact k0) ?_
  refine Rn.iload dL_law__1667 rfl ?_
  refine Rn.icmp_eq (tgt := 1674) dL_law__1669 (by decide) (fun _ => ?_) (fun h9 => absurd h9 (by decide))
  refine Rn.iload dL_law__1674 rfl ?_
  refine Rn.if_ne (tgt := 1691) dL_law__1676 (by decide) (fun h9 => absurd h9 (by decide)) (fun _ => ?_)
  refine Rn.aload_n dL_law__1679 rfl rfl ?_
  refine Rn.iconst (v := (nI 0)) dL_law__1680 rfl ?_
  refine Rn.lald dL_law__1681 (by first | rfl | exact gC1 (by assumption) | exact gC2 (by assumption) | exact gC3 (by assumption) | exact gL1 (by assumption) | exact gL2 (by assumption) | exact gL3 (by assumption) | exact gL4 (by assumption) | exact gL5 (by assumption) | exact gL6 (by assumption)) (by decide) (by decide) ?_
  refine Rn.iload dL_law__1682 rfl ?_
  refine Rn.i2l dL_law__1684 ?_
  refine Rn.lcmpE dL_law__1685 (by rw [k7]; exact h107) ?_
  refine Rn.if_eq (tgt := 1691) dL_law__1686 (by decide) (fun _ => ?_) (fun h9 => absurd h9 (by decide))
  refine Rn.goto 2720 dL_law__1691 (by decide) ?_
  exact law_end h9 ad _ _ _ _ _
theorem lcn_match (h9 : gad G0 998 = b0) (ad : Nat → Nat) (v0 : Int32) (hw : ∀ (_ : Unit), CtW (gw G0 ad) GAM mL_match [(0, 10, 13, 13)] 19 0 [.ref 0, .int (xs 1), .int (xs 2), .ref 107] I0 (RW v0)) (hm : ∀ (J : Hi), FM J → Ct (gw G0 ad) GAM mX10_match 19 0 [.ref 94, .int (xs 1), .int (xs 2)] J (RM v0 (nI 0) (J 107))) : Rn (gw G0 ad) GAM mL_law_ (kZ (kL b0 6 xs) G0 0 ad 108) 20 400000 1694 [some (.ref 998), some (.ref 0), some (.ref 94), some (.ref 107), some (.int (nI 0)), none, none] [] I0 := by
  refine Rn.aload_n dL_law__1694 rfl rfl ?_
  refine Rn.aload_n dL_law__1695 rfl rfl ?_
  refine Rn.iload dL_law__1696 rfl ?_
  refine Rn.iconst (v := (nI 1)) dL_law__1698 rfl ?_
  refine Rn.iadd dL_law__1699 ?_
  refine Rn.topI (nI 1) (by decide) ?_
  refine Rn.sld dL_law__1700 h9 (by decide) (by decide) rfl ?_
  refine Rn.aload_n dL_law__1701 rfl rfl ?_
  refine Rn.iload dL_law__1702 rfl ?_
  refine Rn.iconst (v := (nI 2)) dL_law__1704 rfl ?_
  refine Rn.iadd dL_law__1705 ?_
  refine Rn.topI (nI 2) (by decide) ?_
  refine Rn.sld dL_law__1706 h9 (by decide) (by decide) rfl ?_
  refine Rn.aload_n dL_law__1707 rfl rfl ?_
  refine Rn.callW (mc := 0) (As := [_, _, _, _]) dL_law__1708 mw_L_217 rfl rfl (Nat.le_of_ble_eq_true rfl) (hw ()) (fun E J q => nomatch q.1) (fun v J q => ?_)
  obtain ⟨e1, hF, h107⟩ := q
  cases e1
  refine Rn.istore dL_law__1711 (by decide) ?_
  refine Rn.aload_n dL_law__1713 rfl rfl ?_
  refine Rn.aload_n dL_law__1714 rfl rfl ?_
  refine Rn.iload dL_law__1715 rfl ?_
  refine Rn.iconst (v := (nI 1)) dL_law__1717 rfl ?_
  refine Rn.iadd dL_law__1718 ?_
  refine Rn.topI (nI 1) (by decide) ?_
  refine Rn.sld dL_law__1719 h9 (by decide) (by decide) rfl ?_
  refine Rn.aload_n dL_law__1720 rfl rfl ?_
  refine Rn.iload dL_law__1721 rfl ?_
  refine Rn.iconst (v := (nI 2)) dL_law__1723 rfl ?_
  refine Rn.iadd dL_law__1724 ?_
  refine Rn.topI (nI 2) (by decide) ?_
  refine Rn.sld dL_law__1725 h9 (by decide) (by decide) rfl ?_
  refine Rn.callV (As := [_, _]) dL_law__1726 mv_L_219 (by first | rfl | exact gC0 (by assumption) | exact gL0 (by assumption)) rfl rfl rfl (Nat.le_of_ble_eq_true rfl) (hm J hF) (fun E J q => nomatch q.1) (fun v K q => ?_)
  obtain ⟨e2, k0, k7⟩ := q
  cases e2
  refine Rn.istore dL_law__1729 (by decide) ?_
  refine Rn.aload_n dL_law__1731 rfl rfl ?_
  refine Rn.callVp (As := []) dL_law__1732 mv_L_145 (by first | rfl | exact gC0 (by assumption) | exact gL0 (by assumption)) rfl rfl rfl (Nat.le_of_ble_eq_true rfl) (ct_thrown _ _ _) ?_
  refine Rn.topI (nI 0) (by exact k0) ?_
  refine Rn.iload dL_law__1735 rfl ?_
  refine Rn.icmp_eq (tgt := 1742) dL_law__1737 (by decide) (fun _ => ?_) (fun h9 => absurd h9 (by decide))
  refine Rn.iload dL_law__1742 rfl ?_
  refine Rn.if_ne (tgt := 1759) dL_law__1744 (by decide) (fun h9 => absurd h9 (by decide)) (fun _ => ?_)
  refine Rn.aload_n dL_law__1747 rfl rfl ?_
  refine Rn.iconst (v := (nI 0)) dL_law__1748 rfl ?_
  refine Rn.lald dL_law__1749 (by first | rfl | exact gC1 (by assumption) | exact gC2 (by assumption) | exact gC3 (by assumption) | exact gL1 (by assumption) | exact gL2 (by assumption) | exact gL3 (by assumption) | exact gL4 (by assumption) | exact gL5 (by assumption) | exact gL6 (by assumption)) (by decide) (by decide) ?_
  refine Rn.iload dL_law__1750 rfl ?_
  refine Rn.i2l dL_law__1752 ?_
  refine Rn.lcmpE dL_law__1753 (by rw [k7]; exact h107) ?_
  refine Rn.if_eq (tgt := 1759) dL_law__1754 (by decide) (fun _ => ?_) (fun h9 => absurd h9 (by decide))
  refine Rn.goto 2720 dL_law__1759 (by decide) ?_
  exact law_end h9 ad _ _ _ _ _
theorem lcn_sells (h9 : gad G0 998 = b0) (ad : Nat → Nat) (v0 : Int32) (hw : ∀ (_ : Unit), CtW (gw G0 ad) GAM mL_sells [(0, 9, 12, 13)] 19 1 [.ref 0, .int (xs 1), .ref 107] I0 (RW v0)) (hm : ∀ (J : Hi), FM J → Ct (gw G0 ad) GAM mX10_sells 19 0 [.ref 94, .int (xs 1)] J (RM v0 (nI 0) (J 107))) : Rn (gw G0 ad) GAM mL_law_ (kZ (kL b0 6 xs) G0 0 ad 108) 20 400000 1842 [some (.ref 998), some (.ref 0), some (.ref 94), some (.ref 107), some (.int (nI 0)), none, none] [] I0 := by
  refine Rn.aload_n dL_law__1842 rfl rfl ?_
  refine Rn.aload_n dL_law__1843 rfl rfl ?_
  refine Rn.iload dL_law__1844 rfl ?_
  refine Rn.iconst (v := (nI 1)) dL_law__1846 rfl ?_
  refine Rn.iadd dL_law__1847 ?_
  refine Rn.topI (nI 1) (by decide) ?_
  refine Rn.sld dL_law__1848 h9 (by decide) (by decide) rfl ?_
  refine Rn.aload_n dL_law__1849 rfl rfl ?_
  refine Rn.callW (mc := 1) (As := [_, _, _]) dL_law__1850 mw_L_223 rfl rfl (Nat.le_of_ble_eq_true rfl) (hw ()) (fun E J q => nomatch q.1) (fun v J q => ?_)
  obtain ⟨e1, hF, h107⟩ := q
  cases e1
  refine Rn.istore dL_law__1853 (by decide) ?_
  refine Rn.aload_n dL_law__1855 rfl rfl ?_
  refine Rn.aload_n dL_law__1856 rfl rfl ?_
  refine Rn.iload dL_law__1857 rfl ?_
  refine Rn.iconst (v := (nI 1)) dL_law__1859 rfl ?_
  refine Rn.iadd dL_law__1860 ?_
  refine Rn.topI (nI 1) (by decide) ?_
  refine Rn.sld dL_law__1861 h9 (by decide) (by decide) rfl ?_
  refine Rn.callV (As := [_]) dL_law__1862 mv_L_225 (by first | rfl | exact gC0 (by assumption) | exact gL0 (by assumption)) rfl rfl rfl (Nat.le_of_ble_eq_true rfl) (hm J hF) (fun E J q => nomatch q.1) (fun v K q => ?_)
  obtain ⟨e2, k0, k7⟩ := q
  cases e2
  refine Rn.istore dL_law__1865 (by decide) ?_
  refine Rn.aload_n dL_law__1867 rfl rfl ?_
  refine Rn.callVp (As := []) dL_law__1868 mv_L_145 (by first | rfl | exact gC0 (by assumption) | exact gL0 (by assumption)) rfl rfl rfl (Nat.le_of_ble_eq_true rfl) (ct_thrown _ _ _) ?_
  refine Rn.topI (nI 0) (by exact k0) ?_
  refine Rn.iload dL_law__1871 rfl ?_
  refine Rn.icmp_eq (tgt := 1878) dL_law__1873 (by decide) (fun _ => ?_) (fun h9 => absurd h9 (by decide))
  refine Rn.iload dL_law__1878 rfl ?_
  refine Rn.if_ne (tgt := 1895) dL_law__1880 (by decide) (fun h9 => absurd h9 (by decide)) (fun _ => ?_)
  refine Rn.aload_n dL_law__1883 rfl rfl ?_
  refine Rn.iconst (v := (nI 0)) dL_law__1884 rfl ?_
  refine Rn.lald dL_law__1885 (by first | rfl | exact gC1 (by assumption) | exact gC2 (by assumption) | exact gC3 (by assumption) | exact gL1 (by assumption) | exact gL2 (by assumption) | exact gL3 (by assumption) | exact gL4 (by assumption) | exact gL5 (by assumption) | exact gL6 (by assumption)) (by decide) (by decide) ?_
  refine Rn.iload dL_law__1886 rfl ?_
  refine Rn.i2l dL_law__1888 ?_
  refine Rn.lcmpE dL_law__1889 (by rw [k7]; exact h107) ?_
  refine Rn.if_eq (tgt := 1895) dL_law__1890 (by decide) (fun _ => ?_) (fun h9 => absurd h9 (by decide))
  refine Rn.goto 2720 dL_law__1895 (by decide) ?_
  exact law_end h9 ad _ _ _ _ _
theorem lct_sells (h9 : gad G0 998 = b0) (ad : Nat → Nat) (hw : ∀ (_ : Unit), CtW (gw G0 ad) GAM mL_sells [(0, 9, 12, 13)] 19 1 [.ref 0, .int (xs 1), .ref 107] I0 (Rp (some (.int (nI 1))) I0)) (hm : ∀ (_ : Unit), Ct (gw G0 ad) GAM mX10_sells 19 0 [.ref 94, .int (xs 1)] I0 (Rp (some (.int (nI 0))) (zup (zup I0 94 0 (nI 0)) 94 0 (nI 1)))) : Rn (gw G0 ad) GAM mL_law_ (kZ (kL b0 6 xs) G0 0 ad 108) 20 400000 1842 [some (.ref 998), some (.ref 0), some (.ref 94), some (.ref 107), some (.int (nI 0)), none, none] [] I0 := by
  refine Rn.aload_n dL_law__1842 rfl rfl ?_
  refine Rn.aload_n dL_law__1843 rfl rfl ?_
  refine Rn.iload dL_law__1844 rfl ?_
  refine Rn.iconst (v := (nI 1)) dL_law__1846 rfl ?_
  refine Rn.iadd dL_law__1847 ?_
  refine Rn.topI (nI 1) (by decide) ?_
  refine Rn.sld dL_law__1848 h9 (by decide) (by decide) rfl ?_
  refine Rn.aload_n dL_law__1849 rfl rfl ?_
  refine Rn.callWp (mc := 1) (As := [_, _, _]) dL_law__1850 mw_L_223 rfl rfl (Nat.le_of_ble_eq_true rfl) (hw ()) ?_
  refine Rn.istore dL_law__1853 (by decide) ?_
  refine Rn.aload_n dL_law__1855 rfl rfl ?_
  refine Rn.aload_n dL_law__1856 rfl rfl ?_
  refine Rn.iload dL_law__1857 rfl ?_
  refine Rn.iconst (v := (nI 1)) dL_law__1859 rfl ?_
  refine Rn.iadd dL_law__1860 ?_
  refine Rn.topI (nI 1) (by decide) ?_
  refine Rn.sld dL_law__1861 h9 (by decide) (by decide) rfl ?_
  refine Rn.callVp (As := [_]) dL_law__1862 mv_L_225 (by first | rfl | exact gC0 (by assumption) | exact gL0 (by assumption)) rfl rfl rfl (Nat.le_of_ble_eq_true rfl) (hm ()) ?_
  refine Rn.istore dL_law__1865 (by decide) ?_
  refine Rn.aload_n dL_law__1867 rfl rfl ?_
  refine Rn.callVp (As := []) dL_law__1868 mv_L_145 (by first | rfl | exact gC0 (by assumption) | exact gL0 (by assumption)) rfl rfl rfl (Nat.le_of_ble_eq_true rfl) (ct_thrown _ _ _) ?_
  refine Rn.topI (nI 1) (by rfl) ?_
  refine Rn.iload dL_law__1871 rfl ?_
  refine Rn.icmp_eq (tgt := 1878) dL_law__1873 (by decide) (fun _ => ?_) (fun h9 => absurd h9 (by decide))
  refine Rn.iload dL_law__1878 rfl ?_
  refine Rn.if_ne (tgt := 1895) dL_law__1880 (by decide) (fun _ => ?_) (fun h9 => absurd h9 (by decide))
  refine Rn.goto 2720 dL_law__1895 (by decide) ?_
  exact law_end h9 ad _ _ _ _ _
theorem lcn_luckiest (h9 : gad G0 998 = b0) (ad : Nat → Nat) (v0 : Int32) (hw : ∀ (_ : Unit), CtW (gw G0 ad) GAM mL_luckiest [(0, 9, 12, 24)] 19 1 [.ref 0, .int (xs 1), .ref 107] I0 (RW v0)) (hm : ∀ (J : Hi), FM J → Ct (gw G0 ad) GAM mX10_luckiest 19 0 [.ref 94, .int (xs 1)] J (RM v0 (nI 0) (J 107))) : Rn (gw G0 ad) GAM mL_law_ (kZ (kL b0 6 xs) G0 0 ad 108) 20 400000 1924 [some (.ref 998), some (.ref 0), some (.ref 94), some (.ref 107), some (.int (nI 0)), none, none] [] I0 := by
  refine Rn.aload_n dL_law__1924 rfl rfl ?_
  refine Rn.aload_n dL_law__1925 rfl rfl ?_
  refine Rn.iload dL_law__1926 rfl ?_
  refine Rn.iconst (v := (nI 1)) dL_law__1928 rfl ?_
  refine Rn.iadd dL_law__1929 ?_
  refine Rn.topI (nI 1) (by decide) ?_
  refine Rn.sld dL_law__1930 h9 (by decide) (by decide) rfl ?_
  refine Rn.aload_n dL_law__1931 rfl rfl ?_
  refine Rn.callW (mc := 1) (As := [_, _, _]) dL_law__1932 mw_L_234 rfl rfl (Nat.le_of_ble_eq_true rfl) (hw ()) (fun E J q => nomatch q.1) (fun v J q => ?_)
  obtain ⟨e1, hF, h107⟩ := q
  cases e1
  refine Rn.istore dL_law__1935 (by decide) ?_
  refine Rn.aload_n dL_law__1937 rfl rfl ?_
  refine Rn.aload_n dL_law__1938 rfl rfl ?_
  refine Rn.iload dL_law__1939 rfl ?_
  refine Rn.iconst (v := (nI 1)) dL_law__1941 rfl ?_
  refine Rn.iadd dL_law__1942 ?_
  refine Rn.topI (nI 1) (by decide) ?_
  refine Rn.sld dL_law__1943 h9 (by decide) (by decide) rfl ?_
  refine Rn.callV (As := [_]) dL_law__1944 mv_L_236 (by first | rfl | exact gC0 (by assumption) | exact gL0 (by assumption)) rfl rfl rfl (Nat.le_of_ble_eq_true rfl) (hm J hF) (fun E J q => nomatch q.1) (fun v K q => ?_)
  obtain ⟨e2, k0, k7⟩ := q
  cases e2
  refine Rn.istore dL_law__1947 (by decide) ?_
  refine Rn.aload_n dL_law__1949 rfl rfl ?_
  refine Rn.callVp (As := []) dL_law__1950 mv_L_145 (by first | rfl | exact gC0 (by assumption) | exact gL0 (by assumption)) rfl rfl rfl (Nat.le_of_ble_eq_true rfl) (ct_thrown _ _ _) ?_
  refine Rn.topI (nI 0) (by exact k0) ?_
  refine Rn.iload dL_law__1953 rfl ?_
  refine Rn.icmp_eq (tgt := 1960) dL_law__1955 (by decide) (fun _ => ?_) (fun h9 => absurd h9 (by decide))
  refine Rn.iload dL_law__1960 rfl ?_
  refine Rn.if_ne (tgt := 1977) dL_law__1962 (by decide) (fun h9 => absurd h9 (by decide)) (fun _ => ?_)
  refine Rn.aload_n dL_law__1965 rfl rfl ?_
  refine Rn.iconst (v := (nI 0)) dL_law__1966 rfl ?_
  refine Rn.lald dL_law__1967 (by first | rfl | exact gC1 (by assumption) | exact gC2 (by assumption) | exact gC3 (by assumption) | exact gL1 (by assumption) | exact gL2 (by assumption) | exact gL3 (by assumption) | exact gL4 (by assumption) | exact gL5 (by assumption) | exact gL6 (by assumption)) (by decide) (by decide) ?_
  refine Rn.iload dL_law__1968 rfl ?_
  refine Rn.i2l dL_law__1970 ?_
  refine Rn.lcmpE dL_law__1971 (by rw [k7]; exact h107) ?_
  refine Rn.if_eq (tgt := 1977) dL_law__1972 (by decide) (fun _ => ?_) (fun h9 => absurd h9 (by decide))
  refine Rn.goto 2720 dL_law__1977 (by decide) ?_
  exact law_end h9 ad _ _ _ _ _
theorem lct_luckiest (h9 : gad G0 998 = b0) (ad : Nat → Nat) (hw : ∀ (_ : Unit), CtW (gw G0 ad) GAM mL_luckiest [(0, 9, 12, 24)] 19 1 [.ref 0, .int (xs 1), .ref 107] I0 (Rp (some (.int (nI 1))) I0)) (hm : ∀ (_ : Unit), Ct (gw G0 ad) GAM mX10_luckiest 19 0 [.ref 94, .int (xs 1)] I0 (Rp (some (.int (nI 0))) (zup (zup I0 94 0 (nI 0)) 94 0 (nI 1)))) : Rn (gw G0 ad) GAM mL_law_ (kZ (kL b0 6 xs) G0 0 ad 108) 20 400000 1924 [some (.ref 998), some (.ref 0), some (.ref 94), some (.ref 107), some (.int (nI 0)), none, none] [] I0 := by
  refine Rn.aload_n dL_law__1924 rfl rfl ?_
  refine Rn.aload_n dL_law__1925 rfl rfl ?_
  refine Rn.iload dL_law__1926 rfl ?_
  refine Rn.iconst (v := (nI 1)) dL_law__1928 rfl ?_
  refine Rn.iadd dL_law__1929 ?_
  refine Rn.topI (nI 1) (by decide) ?_
  refine Rn.sld dL_law__1930 h9 (by decide) (by decide) rfl ?_
  refine Rn.aload_n dL_law__1931 rfl rfl ?_
  refine Rn.callWp (mc := 1) (As := [_, _, _]) dL_law__1932 mw_L_234 rfl rfl (Nat.le_of_ble_eq_true rfl) (hw ()) ?_
  refine Rn.istore dL_law__1935 (by decide) ?_
  refine Rn.aload_n dL_law__1937 rfl rfl ?_
  refine Rn.aload_n dL_law__1938 rfl rfl ?_
  refine Rn.iload dL_law__1939 rfl ?_
  refine Rn.iconst (v := (nI 1)) dL_law__1941 rfl ?_
  refine Rn.iadd dL_law__1942 ?_
  refine Rn.topI (nI 1) (by decide) ?_
  refine Rn.sld dL_law__1943 h9 (by decide) (by decide) rfl ?_
  refine Rn.callVp (As := [_]) dL_law__1944 mv_L_236 (by first | rfl | exact gC0 (by assumption) | exact gL0 (by assumption)) rfl rfl rfl (Nat.le_of_ble_eq_true rfl) (hm ()) ?_
  refine Rn.istore dL_law__1947 (by decide) ?_
  refine Rn.aload_n dL_law__1949 rfl rfl ?_
  refine Rn.callVp (As := []) dL_law__1950 mv_L_145 (by first | rfl | exact gC0 (by assumption) | exact gL0 (by assumption)) rfl rfl rfl (Nat.le_of_ble_eq_true rfl) (ct_thrown _ _ _) ?_
  refine Rn.topI (nI 1) (by rfl) ?_
  refine Rn.iload dL_law__1953 rfl ?_
  refine Rn.icmp_eq (tgt := 1960) dL_law__1955 (by decide) (fun _ => ?_) (fun h9 => absurd h9 (by decide))
  refine Rn.iload dL_law__1960 rfl ?_
  refine Rn.if_ne (tgt := 1977) dL_law__1962 (by decide) (fun _ => ?_) (fun h9 => absurd h9 (by decide))
  refine Rn.goto 2720 dL_law__1977 (by decide) ?_
  exact law_end h9 ad _ _ _ _ _
theorem lcn_trial (h9 : gad G0 998 = b0) (ad : Nat → Nat) (v0 : Int32) (hw : ∀ (y : Int32), CtW (gw G0 ad) GAM mL_trial [(0, 10, 13, 13)] 19 1 [.ref 0, .int (xs 1), .int y, .ref 107] I0 (RW v0)) (hm : ∀ (y : Int32) (J : Hi), FM J → Ct (gw G0 ad) GAM mX10_trial 19 0 [.ref 94, .int (xs 1), .int y] J (RM v0 (nI 0) (J 107))) : Rn (gw G0 ad) GAM mL_law_ (kZ (kL b0 6 xs) G0 0 ad 108) 20 400000 2313 [some (.ref 998), some (.ref 0), some (.ref 94), some (.ref 107), some (.int (nI 0)), none, none] [] I0 := by
  refine Rn.aload_n dL_law__2313 rfl rfl ?_
  refine Rn.aload_n dL_law__2314 rfl rfl ?_
  refine Rn.iload dL_law__2315 rfl ?_
  refine Rn.iconst (v := (nI 1)) dL_law__2317 rfl ?_
  refine Rn.iadd dL_law__2318 ?_
  refine Rn.topI (nI 1) (by decide) ?_
  refine Rn.sld dL_law__2319 h9 (by decide) (by decide) rfl ?_
  refine Rn.aload_n dL_law__2320 rfl rfl ?_
  refine Rn.iload dL_law__2321 rfl ?_
  refine Rn.iconst (v := (nI 2)) dL_law__2323 rfl ?_
  refine Rn.iadd dL_law__2324 ?_
  refine Rn.topI (nI 2) (by decide) ?_
  refine Rn.sld dL_law__2325 h9 (by decide) (by decide) rfl ?_
  refine Rn.if_eq (tgt := 2333) dL_law__2326 (by decide) (fun h1 => ?_) (fun h1 => ?_)
  · refine Rn.iconst (v := (nI 0)) dL_law__2333 rfl ?_
    refine Rn.aload_n dL_law__2334 rfl rfl ?_
    refine Rn.callW (mc := 1) (As := [_, _, _, _]) dL_law__2335 mw_L_273 rfl rfl (Nat.le_of_ble_eq_true rfl) (hw _) (fun E J q => nomatch q.1) (fun v J q => ?_)
    obtain ⟨e1, hF, h107⟩ := q
    cases e1
    refine Rn.istore dL_law__2338 (by decide) ?_
    refine Rn.aload_n dL_law__2340 rfl rfl ?_
    refine Rn.aload_n dL_law__2341 rfl rfl ?_
    refine Rn.iload dL_law__2342 rfl ?_
    refine Rn.iconst (v := (nI 1)) dL_law__2344 rfl ?_
    refine Rn.iadd dL_law__2345 ?_
    refine Rn.topI (nI 1) (by decide) ?_
    refine Rn.sld dL_law__2346 h9 (by decide) (by decide) rfl ?_
    refine Rn.aload_n dL_law__2347 rfl rfl ?_
    refine Rn.iload dL_law__2348 rfl ?_
    refine Rn.iconst (v := (nI 2)) dL_law__2350 rfl ?_
    refine Rn.iadd dL_law__2351 ?_
    refine Rn.topI (nI 2) (by decide) ?_
    refine Rn.sld dL_law__2352 h9 (by decide) (by decide) rfl ?_
    refine Rn.if_eq (tgt := 2360) dL_law__2353 (by decide) (fun h2 => ?_) (fun h2 => ?_)
    · refine Rn.iconst (v := (nI 0)) dL_law__2360 rfl ?_
      refine Rn.callV (As := [_, _]) dL_law__2361 mv_L_275 (by first | rfl | exact gC0 (by assumption) | exact gL0 (by assumption)) rfl rfl rfl (Nat.le_of_ble_eq_true rfl) (hm _ J hF) (fun E J q => nomatch q.1) (fun v K q => ?_)
      obtain ⟨e2, k0, k7⟩ := q
      cases e2
      refine Rn.istore dL_law__2364 (by decide) ?_
      refine Rn.aload_n dL_law__2366 rfl rfl ?_
      refine Rn.callVp (As := []) dL_law__2367 mv_L_145 (by first | rfl | exact gC0 (by assumption) | exact gL0 (by assumption)) rfl rfl rfl (Nat.le_of_ble_eq_true rfl) (ct_thrown _ _ _) ?_
      refine Rn.topI (nI 0) (by exact k0) ?_
      refine Rn.iload dL_law__2370 rfl ?_
      refine Rn.icmp_eq (tgt := 2377) dL_law__2372 (by decide) (fun _ => ?_) (fun h9 => absurd h9 (by decide))
      refine Rn.iload dL_law__2377 rfl ?_
      refine Rn.if_ne (tgt := 2394) dL_law__2379 (by decide) (fun h9 => absurd h9 (by decide)) (fun _ => ?_)
      refine Rn.aload_n dL_law__2382 rfl rfl ?_
      refine Rn.iconst (v := (nI 0)) dL_law__2383 rfl ?_
      refine Rn.lald dL_law__2384 (by first | rfl | exact gC1 (by assumption) | exact gC2 (by assumption) | exact gC3 (by assumption) | exact gL1 (by assumption) | exact gL2 (by assumption) | exact gL3 (by assumption) | exact gL4 (by assumption) | exact gL5 (by assumption) | exact gL6 (by assumption)) (by decide) (by decide) ?_
      refine Rn.iload dL_law__2385 rfl ?_
      refine Rn.i2l dL_law__2387 ?_
      refine Rn.lcmpE dL_law__2388 (by rw [k7]; exact h107) ?_
      refine Rn.if_eq (tgt := 2394) dL_law__2389 (by decide) (fun _ => ?_) (fun h9 => absurd h9 (by decide))
      refine Rn.goto 2720 dL_law__2394 (by decide) ?_
      exact law_end h9 ad _ _ _ _ _
    · refine Rn.iconst (v := (nI 1)) dL_law__2356 rfl ?_
      refine Rn.goto 2361 dL_law__2357 (by decide) ?_
      refine Rn.callV (As := [_, _]) dL_law__2361 mv_L_275 (by first | rfl | exact gC0 (by assumption) | exact gL0 (by assumption)) rfl rfl rfl (Nat.le_of_ble_eq_true rfl) (hm _ J hF) (fun E J q => nomatch q.1) (fun v K q => ?_)
      obtain ⟨e2, k0, k7⟩ := q
      cases e2
      refine Rn.istore dL_law__2364 (by decide) ?_
      refine Rn.aload_n dL_law__2366 rfl rfl ?_
      refine Rn.callVp (As := []) dL_law__2367 mv_L_145 (by first | rfl | exact gC0 (by assumption) | exact gL0 (by assumption)) rfl rfl rfl (Nat.le_of_ble_eq_true rfl) (ct_thrown _ _ _) ?_
      refine Rn.topI (nI 0) (by exact k0) ?_
      refine Rn.iload dL_law__2370 rfl ?_
      refine Rn.icmp_eq (tgt := 2377) dL_law__2372 (by decide) (fun _ => ?_) (fun h9 => absurd h9 (by decide))
      refine Rn.iload dL_law__2377 rfl ?_
      refine Rn.if_ne (tgt := 2394) dL_law__2379 (by decide) (fun h9 => absurd h9 (by decide)) (fun _ => ?_)
      refine Rn.aload_n dL_law__2382 rfl rfl ?_
      refine Rn.iconst (v := (nI 0)) dL_law__2383 rfl ?_
      refine Rn.lald dL_law__2384 (by first | rfl | exact gC1 (by assumption) | exact gC2 (by assumption) | exact gC3 (by assumption) | exact gL1 (by assumption) | exact gL2 (by assumption) | exact gL3 (by assumption) | exact gL4 (by assumption) | exact gL5 (by assumption) | exact gL6 (by assumption)) (by decide) (by decide) ?_
      refine Rn.iload dL_law__2385 rfl ?_
      refine Rn.i2l dL_law__2387 ?_
      refine Rn.lcmpE dL_law__2388 (by rw [k7]; exact h107) ?_
      refine Rn.if_eq (tgt := 2394) dL_law__2389 (by decide) (fun _ => ?_) (fun h9 => absurd h9 (by decide))
      refine Rn.goto 2720 dL_law__2394 (by decide) ?_
      exact law_end h9 ad _ _ _ _ _
  · refine Rn.iconst (v := (nI 1)) dL_law__2329 rfl ?_
    refine Rn.goto 2334 dL_law__2330 (by decide) ?_
    refine Rn.aload_n dL_law__2334 rfl rfl ?_
    refine Rn.callW (mc := 1) (As := [_, _, _, _]) dL_law__2335 mw_L_273 rfl rfl (Nat.le_of_ble_eq_true rfl) (hw _) (fun E J q => nomatch q.1) (fun v J q => ?_)
    obtain ⟨e1, hF, h107⟩ := q
    cases e1
    refine Rn.istore dL_law__2338 (by decide) ?_
    refine Rn.aload_n dL_law__2340 rfl rfl ?_
    refine Rn.aload_n dL_law__2341 rfl rfl ?_
    refine Rn.iload dL_law__2342 rfl ?_
    refine Rn.iconst (v := (nI 1)) dL_law__2344 rfl ?_
    refine Rn.iadd dL_law__2345 ?_
    refine Rn.topI (nI 1) (by decide) ?_
    refine Rn.sld dL_law__2346 h9 (by decide) (by decide) rfl ?_
    refine Rn.aload_n dL_law__2347 rfl rfl ?_
    refine Rn.iload dL_law__2348 rfl ?_
    refine Rn.iconst (v := (nI 2)) dL_law__2350 rfl ?_
    refine Rn.iadd dL_law__2351 ?_
    refine Rn.topI (nI 2) (by decide) ?_
    refine Rn.sld dL_law__2352 h9 (by decide) (by decide) rfl ?_
    refine Rn.if_eq (tgt := 2360) dL_law__2353 (by decide) (fun h2 => ?_) (fun h2 => ?_)
    · refine Rn.iconst (v := (nI 0)) dL_law__2360 rfl ?_
      refine Rn.callV (As := [_, _]) dL_law__2361 mv_L_275 (by first | rfl | exact gC0 (by assumption) | exact gL0 (by assumption)) rfl rfl rfl (Nat.le_of_ble_eq_true rfl) (hm _ J hF) (fun E J q => nomatch q.1) (fun v K q => ?_)
      obtain ⟨e2, k0, k7⟩ := q
      cases e2
      refine Rn.istore dL_law__2364 (by decide) ?_
      refine Rn.aload_n dL_law__2366 rfl rfl ?_
      refine Rn.callVp (As := []) dL_law__2367 mv_L_145 (by first | rfl | exact gC0 (by assumption) | exact gL0 (by assumption)) rfl rfl rfl (Nat.le_of_ble_eq_true rfl) (ct_thrown _ _ _) ?_
      refine Rn.topI (nI 0) (by exact k0) ?_
      refine Rn.iload dL_law__2370 rfl ?_
      refine Rn.icmp_eq (tgt := 2377) dL_law__2372 (by decide) (fun _ => ?_) (fun h9 => absurd h9 (by decide))
      refine Rn.iload dL_law__2377 rfl ?_
      refine Rn.if_ne (tgt := 2394) dL_law__2379 (by decide) (fun h9 => absurd h9 (by decide)) (fun _ => ?_)
      refine Rn.aload_n dL_law__2382 rfl rfl ?_
      refine Rn.iconst (v := (nI 0)) dL_law__2383 rfl ?_
      refine Rn.lald dL_law__2384 (by first | rfl | exact gC1 (by assumption) | exact gC2 (by assumption) | exact gC3 (by assumption) | exact gL1 (by assumption) | exact gL2 (by assumption) | exact gL3 (by assumption) | exact gL4 (by assumption) | exact gL5 (by assumption) | exact gL6 (by assumption)) (by decide) (by decide) ?_
      refine Rn.iload dL_law__2385 rfl ?_
      refine Rn.i2l dL_law__2387 ?_
      refine Rn.lcmpE dL_law__2388 (by rw [k7]; exact h107) ?_
      refine Rn.if_eq (tgt := 2394) dL_law__2389 (by decide) (fun _ => ?_) (fun h9 => absurd h9 (by decide))
      refine Rn.goto 2720 dL_law__2394 (by decide) ?_
      exact law_end h9 ad _ _ _ _ _
    · refine Rn.iconst (v := (nI 1)) dL_law__2356 rfl ?_
      refine Rn.goto 2361 dL_law__2357 (by decide) ?_
      refine Rn.callV (As := [_, _]) dL_law__2361 mv_L_275 (by first | rfl | exact gC0 (by assumption) | exact gL0 (by assumption)) rfl rfl rfl (Nat.le_of_ble_eq_true rfl) (hm _ J hF) (fun E J q => nomatch q.1) (fun v K q => ?_)
      obtain ⟨e2, k0, k7⟩ := q
      cases e2
      refine Rn.istore dL_law__2364 (by decide) ?_
      refine Rn.aload_n dL_law__2366 rfl rfl ?_
      refine Rn.callVp (As := []) dL_law__2367 mv_L_145 (by first | rfl | exact gC0 (by assumption) | exact gL0 (by assumption)) rfl rfl rfl (Nat.le_of_ble_eq_true rfl) (ct_thrown _ _ _) ?_
      refine Rn.topI (nI 0) (by exact k0) ?_
      refine Rn.iload dL_law__2370 rfl ?_
      refine Rn.icmp_eq (tgt := 2377) dL_law__2372 (by decide) (fun _ => ?_) (fun h9 => absurd h9 (by decide))
      refine Rn.iload dL_law__2377 rfl ?_
      refine Rn.if_ne (tgt := 2394) dL_law__2379 (by decide) (fun h9 => absurd h9 (by decide)) (fun _ => ?_)
      refine Rn.aload_n dL_law__2382 rfl rfl ?_
      refine Rn.iconst (v := (nI 0)) dL_law__2383 rfl ?_
      refine Rn.lald dL_law__2384 (by first | rfl | exact gC1 (by assumption) | exact gC2 (by assumption) | exact gC3 (by assumption) | exact gL1 (by assumption) | exact gL2 (by assumption) | exact gL3 (by assumption) | exact gL4 (by assumption) | exact gL5 (by assumption) | exact gL6 (by assumption)) (by decide) (by decide) ?_
      refine Rn.iload dL_law__2385 rfl ?_
      refine Rn.i2l dL_law__2387 ?_
      refine Rn.lcmpE dL_law__2388 (by rw [k7]; exact h107) ?_
      refine Rn.if_eq (tgt := 2394) dL_law__2389 (by decide) (fun _ => ?_) (fun h9 => absurd h9 (by decide))
      refine Rn.goto 2720 dL_law__2394 (by decide) ?_
      exact law_end h9 ad _ _ _ _ _
theorem lct_trial (h9 : gad G0 998 = b0) (ad : Nat → Nat) (hw : ∀ (y : Int32), CtW (gw G0 ad) GAM mL_trial [(0, 10, 13, 13)] 19 1 [.ref 0, .int (xs 1), .int y, .ref 107] I0 (Rp (some (.int (nI 1))) I0)) (hm : ∀ (y : Int32), Ct (gw G0 ad) GAM mX10_trial 19 0 [.ref 94, .int (xs 1), .int y] I0 (Rp (some (.int (nI 0))) (zup (zup I0 94 0 (nI 0)) 94 0 (nI 1)))) : Rn (gw G0 ad) GAM mL_law_ (kZ (kL b0 6 xs) G0 0 ad 108) 20 400000 2313 [some (.ref 998), some (.ref 0), some (.ref 94), some (.ref 107), some (.int (nI 0)), none, none] [] I0 := by
  refine Rn.aload_n dL_law__2313 rfl rfl ?_
  refine Rn.aload_n dL_law__2314 rfl rfl ?_
  refine Rn.iload dL_law__2315 rfl ?_
  refine Rn.iconst (v := (nI 1)) dL_law__2317 rfl ?_
  refine Rn.iadd dL_law__2318 ?_
  refine Rn.topI (nI 1) (by decide) ?_
  refine Rn.sld dL_law__2319 h9 (by decide) (by decide) rfl ?_
  refine Rn.aload_n dL_law__2320 rfl rfl ?_
  refine Rn.iload dL_law__2321 rfl ?_
  refine Rn.iconst (v := (nI 2)) dL_law__2323 rfl ?_
  refine Rn.iadd dL_law__2324 ?_
  refine Rn.topI (nI 2) (by decide) ?_
  refine Rn.sld dL_law__2325 h9 (by decide) (by decide) rfl ?_
  refine Rn.if_eq (tgt := 2333) dL_law__2326 (by decide) (fun h1 => ?_) (fun h1 => ?_)
  · refine Rn.iconst (v := (nI 0)) dL_law__2333 rfl ?_
    refine Rn.aload_n dL_law__2334 rfl rfl ?_
    refine Rn.callWp (mc := 1) (As := [_, _, _, _]) dL_law__2335 mw_L_273 rfl rfl (Nat.le_of_ble_eq_true rfl) (hw _) ?_
    refine Rn.istore dL_law__2338 (by decide) ?_
    refine Rn.aload_n dL_law__2340 rfl rfl ?_
    refine Rn.aload_n dL_law__2341 rfl rfl ?_
    refine Rn.iload dL_law__2342 rfl ?_
    refine Rn.iconst (v := (nI 1)) dL_law__2344 rfl ?_
    refine Rn.iadd dL_law__2345 ?_
    refine Rn.topI (nI 1) (by decide) ?_
    refine Rn.sld dL_law__2346 h9 (by decide) (by decide) rfl ?_
    refine Rn.aload_n dL_law__2347 rfl rfl ?_
    refine Rn.iload dL_law__2348 rfl ?_
    refine Rn.iconst (v := (nI 2)) dL_law__2350 rfl ?_
    refine Rn.iadd dL_law__2351 ?_
    refine Rn.topI (nI 2) (by decide) ?_
    refine Rn.sld dL_law__2352 h9 (by decide) (by decide) rfl ?_
    refine Rn.if_eq (tgt := 2360) dL_law__2353 (by decide) (fun h2 => ?_) (fun h2 => ?_)
    · refine Rn.iconst (v := (nI 0)) dL_law__2360 rfl ?_
      refine Rn.callVp (As := [_, _]) dL_law__2361 mv_L_275 (by first | rfl | exact gC0 (by assumption) | exact gL0 (by assumption)) rfl rfl rfl (Nat.le_of_ble_eq_true rfl) (hm _) ?_
      refine Rn.istore dL_law__2364 (by decide) ?_
      refine Rn.aload_n dL_law__2366 rfl rfl ?_
      refine Rn.callVp (As := []) dL_law__2367 mv_L_145 (by first | rfl | exact gC0 (by assumption) | exact gL0 (by assumption)) rfl rfl rfl (Nat.le_of_ble_eq_true rfl) (ct_thrown _ _ _) ?_
      refine Rn.topI (nI 1) (by rfl) ?_
      refine Rn.iload dL_law__2370 rfl ?_
      refine Rn.icmp_eq (tgt := 2377) dL_law__2372 (by decide) (fun _ => ?_) (fun h9 => absurd h9 (by decide))
      refine Rn.iload dL_law__2377 rfl ?_
      refine Rn.if_ne (tgt := 2394) dL_law__2379 (by decide) (fun _ => ?_) (fun h9 => absurd h9 (by decide))
      refine Rn.goto 2720 dL_law__2394 (by decide) ?_
      exact law_end h9 ad _ _ _ _ _
    · refine Rn.iconst (v := (nI 1)) dL_law__2356 rfl ?_
      refine Rn.goto 2361 dL_law__2357 (by decide) ?_
      refine Rn.callVp (As := [_, _]) dL_law__2361 mv_L_275 (by first | rfl | exact gC0 (by assumption) | exact gL0 (by assumption)) rfl rfl rfl (Nat.le_of_ble_eq_true rfl) (hm _) ?_
      refine Rn.istore dL_law__2364 (by decide) ?_
      refine Rn.aload_n dL_law__2366 rfl rfl ?_
      refine Rn.callVp (As := []) dL_law__2367 mv_L_145 (by first | rfl | exact gC0 (by assumption) | exact gL0 (by assumption)) rfl rfl rfl (Nat.le_of_ble_eq_true rfl) (ct_thrown _ _ _) ?_
      refine Rn.topI (nI 1) (by rfl) ?_
      refine Rn.iload dL_law__2370 rfl ?_
      refine Rn.icmp_eq (tgt := 2377) dL_law__2372 (by decide) (fun _ => ?_) (fun h9 => absurd h9 (by decide))
      refine Rn.iload dL_law__2377 rfl ?_
      refine Rn.if_ne (tgt := 2394) dL_law__2379 (by decide) (fun _ => ?_) (fun h9 => absurd h9 (by decide))
      refine Rn.goto 2720 dL_law__2394 (by decide) ?_
      exact law_end h9 ad _ _ _ _ _
  · refine Rn.iconst (v := (nI 1)) dL_law__2329 rfl ?_
    refine Rn.goto 2334 dL_law__2330 (by decide) ?_
    refine Rn.aload_n dL_law__2334 rfl rfl ?_
    refine Rn.callWp (mc := 1) (As := [_, _, _, _]) dL_law__2335 mw_L_273 rfl rfl (Nat.le_of_ble_eq_true rfl) (hw _) ?_
    refine Rn.istore dL_law__2338 (by decide) ?_
    refine Rn.aload_n dL_law__2340 rfl rfl ?_
    refine Rn.aload_n dL_law__2341 rfl rfl ?_
    refine Rn.iload dL_law__2342 rfl ?_
    refine Rn.iconst (v := (nI 1)) dL_law__2344 rfl ?_
    refine Rn.iadd dL_law__2345 ?_
    refine Rn.topI (nI 1) (by decide) ?_
    refine Rn.sld dL_law__2346 h9 (by decide) (by decide) rfl ?_
    refine Rn.aload_n dL_law__2347 rfl rfl ?_
    refine Rn.iload dL_law__2348 rfl ?_
    refine Rn.iconst (v := (nI 2)) dL_law__2350 rfl ?_
    refine Rn.iadd dL_law__2351 ?_
    refine Rn.topI (nI 2) (by decide) ?_
    refine Rn.sld dL_law__2352 h9 (by decide) (by decide) rfl ?_
    refine Rn.if_eq (tgt := 2360) dL_law__2353 (by decide) (fun h2 => ?_) (fun h2 => ?_)
    · refine Rn.iconst (v := (nI 0)) dL_law__2360 rfl ?_
      refine Rn.callVp (As := [_, _]) dL_law__2361 mv_L_275 (by first | rfl | exact gC0 (by assumption) | exact gL0 (by assumption)) rfl rfl rfl (Nat.le_of_ble_eq_true rfl) (hm _) ?_
      refine Rn.istore dL_law__2364 (by decide) ?_
      refine Rn.aload_n dL_law__2366 rfl rfl ?_
      refine Rn.callVp (As := []) dL_law__2367 mv_L_145 (by first | rfl | exact gC0 (by assumption) | exact gL0 (by assumption)) rfl rfl rfl (Nat.le_of_ble_eq_true rfl) (ct_thrown _ _ _) ?_
      refine Rn.topI (nI 1) (by rfl) ?_
      refine Rn.iload dL_law__2370 rfl ?_
      refine Rn.icmp_eq (tgt := 2377) dL_law__2372 (by decide) (fun _ => ?_) (fun h9 => absurd h9 (by decide))
      refine Rn.iload dL_law__2377 rfl ?_
      refine Rn.if_ne (tgt := 2394) dL_law__2379 (by decide) (fun _ => ?_) (fun h9 => absurd h9 (by decide))
      refine Rn.goto 2720 dL_law__2394 (by decide) ?_
      exact law_end h9 ad _ _ _ _ _
    · refine Rn.iconst (v := (nI 1)) dL_law__2356 rfl ?_
      refine Rn.goto 2361 dL_law__2357 (by decide) ?_
      refine Rn.callVp (As := [_, _]) dL_law__2361 mv_L_275 (by first | rfl | exact gC0 (by assumption) | exact gL0 (by assumption)) rfl rfl rfl (Nat.le_of_ble_eq_true rfl) (hm _) ?_
      refine Rn.istore dL_law__2364 (by decide) ?_
      refine Rn.aload_n dL_law__2366 rfl rfl ?_
      refine Rn.callVp (As := []) dL_law__2367 mv_L_145 (by first | rfl | exact gC0 (by assumption) | exact gL0 (by assumption)) rfl rfl rfl (Nat.le_of_ble_eq_true rfl) (ct_thrown _ _ _) ?_
      refine Rn.topI (nI 1) (by rfl) ?_
      refine Rn.iload dL_law__2370 rfl ?_
      refine Rn.icmp_eq (tgt := 2377) dL_law__2372 (by decide) (fun _ => ?_) (fun h9 => absurd h9 (by decide))
      refine Rn.iload dL_law__2377 rfl ?_
      refine Rn.if_ne (tgt := 2394) dL_law__2379 (by decide) (fun _ => ?_) (fun h9 => absurd h9 (by decide))
      refine Rn.goto 2720 dL_law__2394 (by decide) ?_
      exact law_end h9 ad _ _ _ _ _
theorem lcn_span (h9 : gad G0 998 = b0) (ad : Nat → Nat) (v0 : Int32) (hw : ∀ (y : Int32), CtW (gw G0 ad) GAM mL_span [(0, 10, 13, 13)] 19 1 [.ref 0, .int (xs 1), .int y, .ref 107] I0 (RW v0)) (hm : ∀ (y : Int32) (J : Hi), FM J → Ct (gw G0 ad) GAM mX10_span 19 0 [.ref 94, .int (xs 1), .int y] J (RM v0 (nI 0) (J 107))) : Rn (gw G0 ad) GAM mL_law_ (kZ (kL b0 6 xs) G0 0 ad 108) 20 400000 2397 [some (.ref 998), some (.ref 0), some (.ref 94), some (.ref 107), some (.int (nI 0)), none, none] [] I0 := by
  refine Rn.aload_n dL_law__2397 rfl rfl ?_
  refine Rn.aload_n dL_law__2398 rfl rfl ?_
  refine Rn.iload dL_law__2399 rfl ?_
  refine Rn.iconst (v := (nI 1)) dL_law__2401 rfl ?_
  refine Rn.iadd dL_law__2402 ?_
  refine Rn.topI (nI 1) (by decide) ?_
  refine Rn.sld dL_law__2403 h9 (by decide) (by decide) rfl ?_
  refine Rn.aload_n dL_law__2404 rfl rfl ?_
  refine Rn.iload dL_law__2405 rfl ?_
  refine Rn.iconst (v := (nI 2)) dL_law__2407 rfl ?_
  refine Rn.iadd dL_law__2408 ?_
  refine Rn.topI (nI 2) (by decide) ?_
  refine Rn.sld dL_law__2409 h9 (by decide) (by decide) rfl ?_
  refine Rn.if_eq (tgt := 2417) dL_law__2410 (by decide) (fun h1 => ?_) (fun h1 => ?_)
  · refine Rn.iconst (v := (nI 0)) dL_law__2417 rfl ?_
    refine Rn.aload_n dL_law__2418 rfl rfl ?_
    refine Rn.callW (mc := 1) (As := [_, _, _, _]) dL_law__2419 mw_L_276 rfl rfl (Nat.le_of_ble_eq_true rfl) (hw _) (fun E J q => nomatch q.1) (fun v J q => ?_)
    obtain ⟨e1, hF, h107⟩ := q
    cases e1
    refine Rn.istore dL_law__2422 (by decide) ?_
    refine Rn.aload_n dL_law__2424 rfl rfl ?_
    refine Rn.aload_n dL_law__2425 rfl rfl ?_
    refine Rn.iload dL_law__2426 rfl ?_
    refine Rn.iconst (v := (nI 1)) dL_law__2428 rfl ?_
    refine Rn.iadd dL_law__2429 ?_
    refine Rn.topI (nI 1) (by decide) ?_
    refine Rn.sld dL_law__2430 h9 (by decide) (by decide) rfl ?_
    refine Rn.aload_n dL_law__2431 rfl rfl ?_
    refine Rn.iload dL_law__2432 rfl ?_
    refine Rn.iconst (v := (nI 2)) dL_law__2434 rfl ?_
    refine Rn.iadd dL_law__2435 ?_
    refine Rn.topI (nI 2) (by decide) ?_
    refine Rn.sld dL_law__2436 h9 (by decide) (by decide) rfl ?_
    refine Rn.if_eq (tgt := 2444) dL_law__2437 (by decide) (fun h2 => ?_) (fun h2 => ?_)
    · refine Rn.iconst (v := (nI 0)) dL_law__2444 rfl ?_
      refine Rn.callV (As := [_, _]) dL_law__2445 mv_L_278 (by first | rfl | exact gC0 (by assumption) | exact gL0 (by assumption)) rfl rfl rfl (Nat.le_of_ble_eq_true rfl) (hm _ J hF) (fun E J q => nomatch q.1) (fun v K q => ?_)
      obtain ⟨e2, k0, k7⟩ := q
      cases e2
      refine Rn.istore dL_law__2448 (by decide) ?_
      refine Rn.aload_n dL_law__2450 rfl rfl ?_
      refine Rn.callVp (As := []) dL_law__2451 mv_L_145 (by first | rfl | exact gC0 (by assumption) | exact gL0 (by assumption)) rfl rfl rfl (Nat.le_of_ble_eq_true rfl) (ct_thrown _ _ _) ?_
      refine Rn.topI (nI 0) (by exact k0) ?_
      refine Rn.iload dL_law__2454 rfl ?_
      refine Rn.icmp_eq (tgt := 2461) dL_law__2456 (by decide) (fun _ => ?_) (fun h9 => absurd h9 (by decide))
      refine Rn.iload dL_law__2461 rfl ?_
      refine Rn.if_ne (tgt := 2478) dL_law__2463 (by decide) (fun h9 => absurd h9 (by decide)) (fun _ => ?_)
      refine Rn.aload_n dL_law__2466 rfl rfl ?_
      refine Rn.iconst (v := (nI 0)) dL_law__2467 rfl ?_
      refine Rn.lald dL_law__2468 (by first | rfl | exact gC1 (by assumption) | exact gC2 (by assumption) | exact gC3 (by assumption) | exact gL1 (by assumption) | exact gL2 (by assumption) | exact gL3 (by assumption) | exact gL4 (by assumption) | exact gL5 (by assumption) | exact gL6 (by assumption)) (by decide) (by decide) ?_
      refine Rn.iload dL_law__2469 rfl ?_
      refine Rn.i2l dL_law__2471 ?_
      refine Rn.lcmpE dL_law__2472 (by rw [k7]; exact h107) ?_
      refine Rn.if_eq (tgt := 2478) dL_law__2473 (by decide) (fun _ => ?_) (fun h9 => absurd h9 (by decide))
      refine Rn.goto 2720 dL_law__2478 (by decide) ?_
      exact law_end h9 ad _ _ _ _ _
    · refine Rn.iconst (v := (nI 1)) dL_law__2440 rfl ?_
      refine Rn.goto 2445 dL_law__2441 (by decide) ?_
      refine Rn.callV (As := [_, _]) dL_law__2445 mv_L_278 (by first | rfl | exact gC0 (by assumption) | exact gL0 (by assumption)) rfl rfl rfl (Nat.le_of_ble_eq_true rfl) (hm _ J hF) (fun E J q => nomatch q.1) (fun v K q => ?_)
      obtain ⟨e2, k0, k7⟩ := q
      cases e2
      refine Rn.istore dL_law__2448 (by decide) ?_
      refine Rn.aload_n dL_law__2450 rfl rfl ?_
      refine Rn.callVp (As := []) dL_law__2451 mv_L_145 (by first | rfl | exact gC0 (by assumption) | exact gL0 (by assumption)) rfl rfl rfl (Nat.le_of_ble_eq_true rfl) (ct_thrown _ _ _) ?_
      refine Rn.topI (nI 0) (by exact k0) ?_
      refine Rn.iload dL_law__2454 rfl ?_
      refine Rn.icmp_eq (tgt := 2461) dL_law__2456 (by decide) (fun _ => ?_) (fun h9 => absurd h9 (by decide))
      refine Rn.iload dL_law__2461 rfl ?_
      refine Rn.if_ne (tgt := 2478) dL_law__2463 (by decide) (fun h9 => absurd h9 (by decide)) (fun _ => ?_)
      refine Rn.aload_n dL_law__2466 rfl rfl ?_
      refine Rn.iconst (v := (nI 0)) dL_law__2467 rfl ?_
      refine Rn.lald dL_law__2468 (by first | rfl | exact gC1 (by assumption) | exact gC2 (by assumption) | exact gC3 (by assumption) | exact gL1 (by assumption) | exact gL2 (by assumption) | exact gL3 (by assumption) | exact gL4 (by assumption) | exact gL5 (by assumption) | exact gL6 (by assumption)) (by decide) (by decide) ?_
      refine Rn.iload dL_law__2469 rfl ?_
      refine Rn.i2l dL_law__2471 ?_
      refine Rn.lcmpE dL_law__2472 (by rw [k7]; exact h107) ?_
      refine Rn.if_eq (tgt := 2478) dL_law__2473 (by decide) (fun _ => ?_) (fun h9 => absurd h9 (by decide))
      refine Rn.goto 2720 dL_law__2478 (by decide) ?_
      exact law_end h9 ad _ _ _ _ _
  · refine Rn.iconst (v := (nI 1)) dL_law__2413 rfl ?_
    refine Rn.goto 2418 dL_law__2414 (by decide) ?_
    refine Rn.aload_n dL_law__2418 rfl rfl ?_
    refine Rn.callW (mc := 1) (As := [_, _, _, _]) dL_law__2419 mw_L_276 rfl rfl (Nat.le_of_ble_eq_true rfl) (hw _) (fun E J q => nomatch q.1) (fun v J q => ?_)
    obtain ⟨e1, hF, h107⟩ := q
    cases e1
    refine Rn.istore dL_law__2422 (by decide) ?_
    refine Rn.aload_n dL_law__2424 rfl rfl ?_
    refine Rn.aload_n dL_law__2425 rfl rfl ?_
    refine Rn.iload dL_law__2426 rfl ?_
    refine Rn.iconst (v := (nI 1)) dL_law__2428 rfl ?_
    refine Rn.iadd dL_law__2429 ?_
    refine Rn.topI (nI 1) (by decide) ?_
    refine Rn.sld dL_law__2430 h9 (by decide) (by decide) rfl ?_
    refine Rn.aload_n dL_law__2431 rfl rfl ?_
    refine Rn.iload dL_law__2432 rfl ?_
    refine Rn.iconst (v := (nI 2)) dL_law__2434 rfl ?_
    refine Rn.iadd dL_law__2435 ?_
    refine Rn.topI (nI 2) (by decide) ?_
    refine Rn.sld dL_law__2436 h9 (by decide) (by decide) rfl ?_
    refine Rn.if_eq (tgt := 2444) dL_law__2437 (by decide) (fun h2 => ?_) (fun h2 => ?_)
    · refine Rn.iconst (v := (nI 0)) dL_law__2444 rfl ?_
      refine Rn.callV (As := [_, _]) dL_law__2445 mv_L_278 (by first | rfl | exact gC0 (by assumption) | exact gL0 (by assumption)) rfl rfl rfl (Nat.le_of_ble_eq_true rfl) (hm _ J hF) (fun E J q => nomatch q.1) (fun v K q => ?_)
      obtain ⟨e2, k0, k7⟩ := q
      cases e2
      refine Rn.istore dL_law__2448 (by decide) ?_
      refine Rn.aload_n dL_law__2450 rfl rfl ?_
      refine Rn.callVp (As := []) dL_law__2451 mv_L_145 (by first | rfl | exact gC0 (by assumption) | exact gL0 (by assumption)) rfl rfl rfl (Nat.le_of_ble_eq_true rfl) (ct_thrown _ _ _) ?_
      refine Rn.topI (nI 0) (by exact k0) ?_
      refine Rn.iload dL_law__2454 rfl ?_
      refine Rn.icmp_eq (tgt := 2461) dL_law__2456 (by decide) (fun _ => ?_) (fun h9 => absurd h9 (by decide))
      refine Rn.iload dL_law__2461 rfl ?_
      refine Rn.if_ne (tgt := 2478) dL_law__2463 (by decide) (fun h9 => absurd h9 (by decide)) (fun _ => ?_)
      refine Rn.aload_n dL_law__2466 rfl rfl ?_
      refine Rn.iconst (v := (nI 0)) dL_law__2467 rfl ?_
      refine Rn.lald dL_law__2468 (by first | rfl | exact gC1 (by assumption) | exact gC2 (by assumption) | exact gC3 (by assumption) | exact gL1 (by assumption) | exact gL2 (by assumption) | exact gL3 (by assumption) | exact gL4 (by assumption) | exact gL5 (by assumption) | exact gL6 (by assumption)) (by decide) (by decide) ?_
      refine Rn.iload dL_law__2469 rfl ?_
      refine Rn.i2l dL_law__2471 ?_
      refine Rn.lcmpE dL_law__2472 (by rw [k7]; exact h107) ?_
      refine Rn.if_eq (tgt := 2478) dL_law__2473 (by decide) (fun _ => ?_) (fun h9 => absurd h9 (by decide))
      refine Rn.goto 2720 dL_law__2478 (by decide) ?_
      exact law_end h9 ad _ _ _ _ _
    · refine Rn.iconst (v := (nI 1)) dL_law__2440 rfl ?_
      refine Rn.goto 2445 dL_law__2441 (by decide) ?_
      refine Rn.callV (As := [_, _]) dL_law__2445 mv_L_278 (by first | rfl | exact gC0 (by assumption) | exact gL0 (by assumption)) rfl rfl rfl (Nat.le_of_ble_eq_true rfl) (hm _ J hF) (fun E J q => nomatch q.1) (fun v K q => ?_)
      obtain ⟨e2, k0, k7⟩ := q
      cases e2
      refine Rn.istore dL_law__2448 (by decide) ?_
      refine Rn.aload_n dL_law__2450 rfl rfl ?_
      refine Rn.callVp (As := []) dL_law__2451 mv_L_145 (by first | rfl | exact gC0 (by assumption) | exact gL0 (by assumption)) rfl rfl rfl (Nat.le_of_ble_eq_true rfl) (ct_thrown _ _ _) ?_
      refine Rn.topI (nI 0) (by exact k0) ?_
      refine Rn.iload dL_law__2454 rfl ?_
      refine Rn.icmp_eq (tgt := 2461) dL_law__2456 (by decide) (fun _ => ?_) (fun h9 => absurd h9 (by decide))
      refine Rn.iload dL_law__2461 rfl ?_
      refine Rn.if_ne (tgt := 2478) dL_law__2463 (by decide) (fun h9 => absurd h9 (by decide)) (fun _ => ?_)
      refine Rn.aload_n dL_law__2466 rfl rfl ?_
      refine Rn.iconst (v := (nI 0)) dL_law__2467 rfl ?_
      refine Rn.lald dL_law__2468 (by first | rfl | exact gC1 (by assumption) | exact gC2 (by assumption) | exact gC3 (by assumption) | exact gL1 (by assumption) | exact gL2 (by assumption) | exact gL3 (by assumption) | exact gL4 (by assumption) | exact gL5 (by assumption) | exact gL6 (by assumption)) (by decide) (by decide) ?_
      refine Rn.iload dL_law__2469 rfl ?_
      refine Rn.i2l dL_law__2471 ?_
      refine Rn.lcmpE dL_law__2472 (by rw [k7]; exact h107) ?_
      refine Rn.if_eq (tgt := 2478) dL_law__2473 (by decide) (fun _ => ?_) (fun h9 => absurd h9 (by decide))
      refine Rn.goto 2720 dL_law__2478 (by decide) ?_
      exact law_end h9 ad _ _ _ _ _
theorem lct_span (h9 : gad G0 998 = b0) (ad : Nat → Nat) (hw : ∀ (y : Int32), CtW (gw G0 ad) GAM mL_span [(0, 10, 13, 13)] 19 1 [.ref 0, .int (xs 1), .int y, .ref 107] I0 (Rp (some (.int (nI 1))) I0)) (hm : ∀ (y : Int32), Ct (gw G0 ad) GAM mX10_span 19 0 [.ref 94, .int (xs 1), .int y] I0 (Rp (some (.int (nI 0))) (zup (zup I0 94 0 (nI 0)) 94 0 (nI 1)))) : Rn (gw G0 ad) GAM mL_law_ (kZ (kL b0 6 xs) G0 0 ad 108) 20 400000 2397 [some (.ref 998), some (.ref 0), some (.ref 94), some (.ref 107), some (.int (nI 0)), none, none] [] I0 := by
  refine Rn.aload_n dL_law__2397 rfl rfl ?_
  refine Rn.aload_n dL_law__2398 rfl rfl ?_
  refine Rn.iload dL_law__2399 rfl ?_
  refine Rn.iconst (v := (nI 1)) dL_law__2401 rfl ?_
  refine Rn.iadd dL_law__2402 ?_
  refine Rn.topI (nI 1) (by decide) ?_
  refine Rn.sld dL_law__2403 h9 (by decide) (by decide) rfl ?_
  refine Rn.aload_n dL_law__2404 rfl rfl ?_
  refine Rn.iload dL_law__2405 rfl ?_
  refine Rn.iconst (v := (nI 2)) dL_law__2407 rfl ?_
  refine Rn.iadd dL_law__2408 ?_
  refine Rn.topI (nI 2) (by decide) ?_
  refine Rn.sld dL_law__2409 h9 (by decide) (by decide) rfl ?_
  refine Rn.if_eq (tgt := 2417) dL_law__2410 (by decide) (fun h1 => ?_) (fun h1 => ?_)
  · refine Rn.iconst (v := (nI 0)) dL_law__2417 rfl ?_
    refine Rn.aload_n dL_law__2418 rfl rfl ?_
    refine Rn.callWp (mc := 1) (As := [_, _, _, _]) dL_law__2419 mw_L_276 rfl rfl (Nat.le_of_ble_eq_true rfl) (hw _) ?_
    refine Rn.istore dL_law__2422 (by decide) ?_
    refine Rn.aload_n dL_law__2424 rfl rfl ?_
    refine Rn.aload_n dL_law__2425 rfl rfl ?_
    refine Rn.iload dL_law__2426 rfl ?_
    refine Rn.iconst (v := (nI 1)) dL_law__2428 rfl ?_
    refine Rn.iadd dL_law__2429 ?_
    refine Rn.topI (nI 1) (by decide) ?_
    refine Rn.sld dL_law__2430 h9 (by decide) (by decide) rfl ?_
    refine Rn.aload_n dL_law__2431 rfl rfl ?_
    refine Rn.iload dL_law__2432 rfl ?_
    refine Rn.iconst (v := (nI 2)) dL_law__2434 rfl ?_
    refine Rn.iadd dL_law__2435 ?_
    refine Rn.topI (nI 2) (by decide) ?_
    refine Rn.sld dL_law__2436 h9 (by decide) (by decide) rfl ?_
    refine Rn.if_eq (tgt := 2444) dL_law__2437 (by decide) (fun h2 => ?_) (fun h2 => ?_)
    · refine Rn.iconst (v := (nI 0)) dL_law__2444 rfl ?_
      refine Rn.callVp (As := [_, _]) dL_law__2445 mv_L_278 (by first | rfl | exact gC0 (by assumption) | exact gL0 (by assumption)) rfl rfl rfl (Nat.le_of_ble_eq_true rfl) (hm _) ?_
      refine Rn.istore dL_law__2448 (by decide) ?_
      refine Rn.aload_n dL_law__2450 rfl rfl ?_
      refine Rn.callVp (As := []) dL_law__2451 mv_L_145 (by first | rfl | exact gC0 (by assumption) | exact gL0 (by assumption)) rfl rfl rfl (Nat.le_of_ble_eq_true rfl) (ct_thrown _ _ _) ?_
      refine Rn.topI (nI 1) (by rfl) ?_
      refine Rn.iload dL_law__2454 rfl ?_
      refine Rn.icmp_eq (tgt := 2461) dL_law__2456 (by decide) (fun _ => ?_) (fun h9 => absurd h9 (by decide))
      refine Rn.iload dL_law__2461 rfl ?_
      refine Rn.if_ne (tgt := 2478) dL_law__2463 (by decide) (fun _ => ?_) (fun h9 => absurd h9 (by decide))
      refine Rn.goto 2720 dL_law__2478 (by decide) ?_
      exact law_end h9 ad _ _ _ _ _
    · refine Rn.iconst (v := (nI 1)) dL_law__2440 rfl ?_
      refine Rn.goto 2445 dL_law__2441 (by decide) ?_
      refine Rn.callVp (As := [_, _]) dL_law__2445 mv_L_278 (by first | rfl | exact gC0 (by assumption) | exact gL0 (by assumption)) rfl rfl rfl (Nat.le_of_ble_eq_true rfl) (hm _) ?_
      refine Rn.istore dL_law__2448 (by decide) ?_
      refine Rn.aload_n dL_law__2450 rfl rfl ?_
      refine Rn.callVp (As := []) dL_law__2451 mv_L_145 (by first | rfl | exact gC0 (by assumption) | exact gL0 (by assumption)) rfl rfl rfl (Nat.le_of_ble_eq_true rfl) (ct_thrown _ _ _) ?_
      refine Rn.topI (nI 1) (by rfl) ?_
      refine Rn.iload dL_law__2454 rfl ?_
      refine Rn.icmp_eq (tgt := 2461) dL_law__2456 (by decide) (fun _ => ?_) (fun h9 => absurd h9 (by decide))
      refine Rn.iload dL_law__2461 rfl ?_
      refine Rn.if_ne (tgt := 2478) dL_law__2463 (by decide) (fun _ => ?_) (fun h9 => absurd h9 (by decide))
      refine Rn.goto 2720 dL_law__2478 (by decide) ?_
      exact law_end h9 ad _ _ _ _ _
  · refine Rn.iconst (v := (nI 1)) dL_law__2413 rfl ?_
    refine Rn.goto 2418 dL_law__2414 (by decide) ?_
    refine Rn.aload_n dL_law__2418 rfl rfl ?_
    refine Rn.callWp (mc := 1) (As := [_, _, _, _]) dL_law__2419 mw_L_276 rfl rfl (Nat.le_of_ble_eq_true rfl) (hw _) ?_
    refine Rn.istore dL_law__2422 (by decide) ?_
    refine Rn.aload_n dL_law__2424 rfl rfl ?_
    refine Rn.aload_n dL_law__2425 rfl rfl ?_
    refine Rn.iload dL_law__2426 rfl ?_
    refine Rn.iconst (v := (nI 1)) dL_law__2428 rfl ?_
    refine Rn.iadd dL_law__2429 ?_
    refine Rn.topI (nI 1) (by decide) ?_
    refine Rn.sld dL_law__2430 h9 (by decide) (by decide) rfl ?_
    refine Rn.aload_n dL_law__2431 rfl rfl ?_
    refine Rn.iload dL_law__2432 rfl ?_
    refine Rn.iconst (v := (nI 2)) dL_law__2434 rfl ?_
    refine Rn.iadd dL_law__2435 ?_
    refine Rn.topI (nI 2) (by decide) ?_
    refine Rn.sld dL_law__2436 h9 (by decide) (by decide) rfl ?_
    refine Rn.if_eq (tgt := 2444) dL_law__2437 (by decide) (fun h2 => ?_) (fun h2 => ?_)
    · refine Rn.iconst (v := (nI 0)) dL_law__2444 rfl ?_
      refine Rn.callVp (As := [_, _]) dL_law__2445 mv_L_278 (by first | rfl | exact gC0 (by assumption) | exact gL0 (by assumption)) rfl rfl rfl (Nat.le_of_ble_eq_true rfl) (hm _) ?_
      refine Rn.istore dL_law__2448 (by decide) ?_
      refine Rn.aload_n dL_law__2450 rfl rfl ?_
      refine Rn.callVp (As := []) dL_law__2451 mv_L_145 (by first | rfl | exact gC0 (by assumption) | exact gL0 (by assumption)) rfl rfl rfl (Nat.le_of_ble_eq_true rfl) (ct_thrown _ _ _) ?_
      refine Rn.topI (nI 1) (by rfl) ?_
      refine Rn.iload dL_law__2454 rfl ?_
      refine Rn.icmp_eq (tgt := 2461) dL_law__2456 (by decide) (fun _ => ?_) (fun h9 => absurd h9 (by decide))
      refine Rn.iload dL_law__2461 rfl ?_
      refine Rn.if_ne (tgt := 2478) dL_law__2463 (by decide) (fun _ => ?_) (fun h9 => absurd h9 (by decide))
      refine Rn.goto 2720 dL_law__2478 (by decide) ?_
      exact law_end h9 ad _ _ _ _ _
    · refine Rn.iconst (v := (nI 1)) dL_law__2440 rfl ?_
      refine Rn.goto 2445 dL_law__2441 (by decide) ?_
      refine Rn.callVp (As := [_, _]) dL_law__2445 mv_L_278 (by first | rfl | exact gC0 (by assumption) | exact gL0 (by assumption)) rfl rfl rfl (Nat.le_of_ble_eq_true rfl) (hm _) ?_
      refine Rn.istore dL_law__2448 (by decide) ?_
      refine Rn.aload_n dL_law__2450 rfl rfl ?_
      refine Rn.callVp (As := []) dL_law__2451 mv_L_145 (by first | rfl | exact gC0 (by assumption) | exact gL0 (by assumption)) rfl rfl rfl (Nat.le_of_ble_eq_true rfl) (ct_thrown _ _ _) ?_
      refine Rn.topI (nI 1) (by rfl) ?_
      refine Rn.iload dL_law__2454 rfl ?_
      refine Rn.icmp_eq (tgt := 2461) dL_law__2456 (by decide) (fun _ => ?_) (fun h9 => absurd h9 (by decide))
      refine Rn.iload dL_law__2461 rfl ?_
      refine Rn.if_ne (tgt := 2478) dL_law__2463 (by decide) (fun _ => ?_) (fun h9 => absurd h9 (by decide))
      refine Rn.goto 2720 dL_law__2478 (by decide) ?_
      exact law_end h9 ad _ _ _ _ _
theorem lcn_log (h9 : gad G0 998 = b0) (ad : Nat → Nat) (v0 : Int32) (hw : ∀ (_ : Unit), CtW (gw G0 ad) GAM mL_log [(0, 10, 13, 26)] 19 1 [.ref 0, .int (xs 1), .int (xs 2), .ref 107] I0 (RW v0)) (hm : ∀ (J : Hi), FM J → Ct (gw G0 ad) GAM mX10_log 19 0 [.ref 94, .int (xs 1), .int (xs 2)] J (RM v0 (nI 0) (J 107))) : Rn (gw G0 ad) GAM mL_law_ (kZ (kL b0 6 xs) G0 0 ad 108) 20 400000 2565 [some (.ref 998), some (.ref 0), some (.ref 94), some (.ref 107), some (.int (nI 0)), none, none] [] I0 := by
  refine Rn.aload_n dL_law__2565 rfl rfl ?_
  refine Rn.aload_n dL_law__2566 rfl rfl ?_
  refine Rn.iload dL_law__2567 rfl ?_
  refine Rn.iconst (v := (nI 1)) dL_law__2569 rfl ?_
  refine Rn.iadd dL_law__2570 ?_
  refine Rn.topI (nI 1) (by decide) ?_
  refine Rn.sld dL_law__2571 h9 (by decide) (by decide) rfl ?_
  refine Rn.aload_n dL_law__2572 rfl rfl ?_
  refine Rn.iload dL_law__2573 rfl ?_
  refine Rn.iconst (v := (nI 2)) dL_law__2575 rfl ?_
  refine Rn.iadd dL_law__2576 ?_
  refine Rn.topI (nI 2) (by decide) ?_
  refine Rn.sld dL_law__2577 h9 (by decide) (by decide) rfl ?_
  refine Rn.aload_n dL_law__2578 rfl rfl ?_
  refine Rn.callW (mc := 1) (As := [_, _, _, _]) dL_law__2579 mw_L_282 rfl rfl (Nat.le_of_ble_eq_true rfl) (hw ()) (fun E J q => nomatch q.1) (fun v J q => ?_)
  obtain ⟨e1, hF, h107⟩ := q
  cases e1
  refine Rn.istore dL_law__2582 (by decide) ?_
  refine Rn.aload_n dL_law__2584 rfl rfl ?_
  refine Rn.aload_n dL_law__2585 rfl rfl ?_
  refine Rn.iload dL_law__2586 rfl ?_
  refine Rn.iconst (v := (nI 1)) dL_law__2588 rfl ?_
  refine Rn.iadd dL_law__2589 ?_
  refine Rn.topI (nI 1) (by decide) ?_
  refine Rn.sld dL_law__2590 h9 (by decide) (by decide) rfl ?_
  refine Rn.aload_n dL_law__2591 rfl rfl ?_
  refine Rn.iload dL_law__2592 rfl ?_
  refine Rn.iconst (v := (nI 2)) dL_law__2594 rfl ?_
  refine Rn.iadd dL_law__2595 ?_
  refine Rn.topI (nI 2) (by decide) ?_
  refine Rn.sld dL_law__2596 h9 (by decide) (by decide) rfl ?_
  refine Rn.callV (As := [_, _]) dL_law__2597 mv_L_284 (by first | rfl | exact gC0 (by assumption) | exact gL0 (by assumption)) rfl rfl rfl (Nat.le_of_ble_eq_true rfl) (hm J hF) (fun E J q => nomatch q.1) (fun v K q => ?_)
  obtain ⟨e2, k0, k7⟩ := q
  cases e2
  refine Rn.istore dL_law__2600 (by decide) ?_
  refine Rn.aload_n dL_law__2602 rfl rfl ?_
  refine Rn.callVp (As := []) dL_law__2603 mv_L_145 (by first | rfl | exact gC0 (by assumption) | exact gL0 (by assumption)) rfl rfl rfl (Nat.le_of_ble_eq_true rfl) (ct_thrown _ _ _) ?_
  refine Rn.topI (nI 0) (by exact k0) ?_
  refine Rn.iload dL_law__2606 rfl ?_
  refine Rn.icmp_eq (tgt := 2613) dL_law__2608 (by decide) (fun _ => ?_) (fun h9 => absurd h9 (by decide))
  refine Rn.iload dL_law__2613 rfl ?_
  refine Rn.if_ne (tgt := 2630) dL_law__2615 (by decide) (fun h9 => absurd h9 (by decide)) (fun _ => ?_)
  refine Rn.aload_n dL_law__2618 rfl rfl ?_
  refine Rn.iconst (v := (nI 0)) dL_law__2619 rfl ?_
  refine Rn.lald dL_law__2620 (by first | rfl | exact gC1 (by assumption) | exact gC2 (by assumption) | exact gC3 (by assumption) | exact gL1 (by assumption) | exact gL2 (by assumption) | exact gL3 (by assumption) | exact gL4 (by assumption) | exact gL5 (by assumption) | exact gL6 (by assumption)) (by decide) (by decide) ?_
  refine Rn.iload dL_law__2621 rfl ?_
  refine Rn.i2l dL_law__2623 ?_
  refine Rn.lcmpE dL_law__2624 (by rw [k7]; exact h107) ?_
  refine Rn.if_eq (tgt := 2630) dL_law__2625 (by decide) (fun _ => ?_) (fun h9 => absurd h9 (by decide))
  refine Rn.goto 2720 dL_law__2630 (by decide) ?_
  exact law_end h9 ad _ _ _ _ _
theorem lct_log (h9 : gad G0 998 = b0) (ad : Nat → Nat) (hw : ∀ (_ : Unit), CtW (gw G0 ad) GAM mL_log [(0, 10, 13, 26)] 19 1 [.ref 0, .int (xs 1), .int (xs 2), .ref 107] I0 (Rp (some (.int (nI 1))) I0)) (hm : ∀ (_ : Unit), Ct (gw G0 ad) GAM mX10_log 19 0 [.ref 94, .int (xs 1), .int (xs 2)] I0 (Rp (some (.int (nI 0))) (zup (zup I0 94 0 (nI 0)) 94 0 (nI 1)))) : Rn (gw G0 ad) GAM mL_law_ (kZ (kL b0 6 xs) G0 0 ad 108) 20 400000 2565 [some (.ref 998), some (.ref 0), some (.ref 94), some (.ref 107), some (.int (nI 0)), none, none] [] I0 := by
  refine Rn.aload_n dL_law__2565 rfl rfl ?_
  refine Rn.aload_n dL_law__2566 rfl rfl ?_
  refine Rn.iload dL_law__2567 rfl ?_
  refine Rn.iconst (v := (nI 1)) dL_law__2569 rfl ?_
  refine Rn.iadd dL_law__2570 ?_
  refine Rn.topI (nI 1) (by decide) ?_
  refine Rn.sld dL_law__2571 h9 (by decide) (by decide) rfl ?_
  refine Rn.aload_n dL_law__2572 rfl rfl ?_
  refine Rn.iload dL_law__2573 rfl ?_
  refine Rn.iconst (v := (nI 2)) dL_law__2575 rfl ?_
  refine Rn.iadd dL_law__2576 ?_
  refine Rn.topI (nI 2) (by decide) ?_
  refine Rn.sld dL_law__2577 h9 (by decide) (by decide) rfl ?_
  refine Rn.aload_n dL_law__2578 rfl rfl ?_
  refine Rn.callWp (mc := 1) (As := [_, _, _, _]) dL_law__2579 mw_L_282 rfl rfl (Nat.le_of_ble_eq_true rfl) (hw ()) ?_
  refine Rn.istore dL_law__2582 (by decide) ?_
  refine Rn.aload_n dL_law__2584 rfl rfl ?_
  refine Rn.aload_n dL_law__2585 rfl rfl ?_
  refine Rn.iload dL_law__2586 rfl ?_
  refine Rn.iconst (v := (nI 1)) dL_law__2588 rfl ?_
  refine Rn.iadd dL_law__2589 ?_
  refine Rn.topI (nI 1) (by decide) ?_
  refine Rn.sld dL_law__2590 h9 (by decide) (by decide) rfl ?_
  refine Rn.aload_n dL_law__2591 rfl rfl ?_
  refine Rn.iload dL_law__2592 rfl ?_
  refine Rn.iconst (v := (nI 2)) dL_law__2594 rfl ?_
  refine Rn.iadd dL_law__2595 ?_
  refine Rn.topI (nI 2) (by decide) ?_
  refine Rn.sld dL_law__2596 h9 (by decide) (by decide) rfl ?_
  refine Rn.callVp (As := [_, _]) dL_law__2597 mv_L_284 (by first | rfl | exact gC0 (by assumption) | exact gL0 (by assumption)) rfl rfl rfl (Nat.le_of_ble_eq_true rfl) (hm ()) ?_
  refine Rn.istore dL_law__2600 (by decide) ?_
  refine Rn.aload_n dL_law__2602 rfl rfl ?_
  refine Rn.callVp (As := []) dL_law__2603 mv_L_145 (by first | rfl | exact gC0 (by assumption) | exact gL0 (by assumption)) rfl rfl rfl (Nat.le_of_ble_eq_true rfl) (ct_thrown _ _ _) ?_
  refine Rn.topI (nI 1) (by rfl) ?_
  refine Rn.iload dL_law__2606 rfl ?_
  refine Rn.icmp_eq (tgt := 2613) dL_law__2608 (by decide) (fun _ => ?_) (fun h9 => absurd h9 (by decide))
  refine Rn.iload dL_law__2613 rfl ?_
  refine Rn.if_ne (tgt := 2630) dL_law__2615 (by decide) (fun _ => ?_) (fun h9 => absurd h9 (by decide))
  refine Rn.goto 2720 dL_law__2630 (by decide) ?_
  exact law_end h9 ad _ _ _ _ _
end LawB
