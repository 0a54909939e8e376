abbrev mX10_thingsBy : Ym := (yX10_thingsBy, cX10_thingsBy, 5, some .int)
theorem dX10_thingsBy_0 : decode cX10_thingsBy 0 = .ok (.iconst 0, 1) := by decide +kernel
theorem dX10_thingsBy_1 : decode cX10_thingsBy 1 = .ok (.istore_n 3, 1) := by decide +kernel
theorem dX10_thingsBy_2 : decode cX10_thingsBy 2 = .ok (.iconst 0, 1) := by decide +kernel
theorem dX10_thingsBy_3 : decode cX10_thingsBy 3 = .ok (.istore 4, 2) := by decide +kernel
theorem dX10_thingsBy_5 : decode cX10_thingsBy 5 = .ok (.iload 4, 2) := by decide +kernel
theorem dX10_thingsBy_7 : decode cX10_thingsBy 7 = .ok (.aload_n 0, 1) := by decide +kernel
theorem dX10_thingsBy_8 : decode cX10_thingsBy 8 = .ok (.invokevirtual 82, 3) := by decide +kernel
theorem dX10_thingsBy_11 : decode cX10_thingsBy 11 = .ok (.if_icmp .ge 31, 3) := by decide +kernel
theorem dX10_thingsBy_42 : decode cX10_thingsBy 42 = .ok (.iload_n 3, 1) := by decide +kernel
theorem dX10_thingsBy_43 : decode cX10_thingsBy 43 = .ok (.ireturn, 1) := by decide +kernel
abbrev mX10_soldBy : Ym := (yX10_soldBy, cX10_soldBy, 4, some .int)
theorem dX10_soldBy_0 : decode cX10_soldBy 0 = .ok (.iconst 0, 1) := by decide +kernel
theorem dX10_soldBy_1 : decode cX10_soldBy 1 = .ok (.istore_n 2, 1) := by decide +kernel
theorem dX10_soldBy_2 : decode cX10_soldBy 2 = .ok (.iconst 0, 1) := by decide +kernel
theorem dX10_soldBy_3 : decode cX10_soldBy 3 = .ok (.istore_n 3, 1) := by decide +kernel
theorem dX10_soldBy_4 : decode cX10_soldBy 4 = .ok (.iload_n 3, 1) := by decide +kernel
theorem dX10_soldBy_5 : decode cX10_soldBy 5 = .ok (.aload_n 0, 1) := by decide +kernel
theorem dX10_soldBy_6 : decode cX10_soldBy 6 = .ok (.invokevirtual 82, 3) := by decide +kernel
theorem dX10_soldBy_9 : decode cX10_soldBy 9 = .ok (.if_icmp .ge 42, 3) := by decide +kernel
theorem dX10_soldBy_51 : decode cX10_soldBy 51 = .ok (.iload_n 2, 1) := by decide +kernel
theorem dX10_soldBy_52 : decode cX10_soldBy 52 = .ok (.ireturn, 1) := by decide +kernel
abbrev mX10_unlucky : Ym := (yX10_unlucky, cX10_unlucky, 3, some .int)
theorem dX10_unlucky_0 : decode cX10_unlucky 0 = .ok (.aload_n 0, 1) := by decide +kernel
theorem dX10_unlucky_1 : decode cX10_unlucky 1 = .ok (.iconst 0, 1) := by decide +kernel
theorem dX10_unlucky_2 : decode cX10_unlucky 2 = .ok (.putfield 3, 3) := by decide +kernel
theorem dX10_unlucky_5 : decode cX10_unlucky 5 = .ok (.iconst (-1), 1) := by decide +kernel
theorem dX10_unlucky_6 : decode cX10_unlucky 6 = .ok (.istore_n 1, 1) := by decide +kernel
theorem dX10_unlucky_7 : decode cX10_unlucky 7 = .ok (.iconst 0, 1) := by decide +kernel
theorem dX10_unlucky_8 : decode cX10_unlucky 8 = .ok (.istore_n 2, 1) := by decide +kernel
theorem dX10_unlucky_9 : decode cX10_unlucky 9 = .ok (.iload_n 2, 1) := by decide +kernel
theorem dX10_unlucky_10 : decode cX10_unlucky 10 = .ok (.aload_n 0, 1) := by decide +kernel
theorem dX10_unlucky_11 : decode cX10_unlucky 11 = .ok (.invokevirtual 74, 3) := by decide +kernel
theorem dX10_unlucky_14 : decode cX10_unlucky 14 = .ok (.if_icmp .ge 29, 3) := by decide +kernel
theorem dX10_unlucky_43 : decode cX10_unlucky 43 = .ok (.iload_n 1, 1) := by decide +kernel
theorem dX10_unlucky_44 : decode cX10_unlucky 44 = .ok (.ireturn, 1) := by decide +kernel
abbrev mX10_oldest : Ym := (yX10_oldest, cX10_oldest, 3, some .int)
theorem dX10_oldest_0 : decode cX10_oldest 0 = .ok (.aload_n 0, 1) := by decide +kernel
theorem dX10_oldest_1 : decode cX10_oldest 1 = .ok (.iconst 0, 1) := by decide +kernel
theorem dX10_oldest_2 : decode cX10_oldest 2 = .ok (.putfield 3, 3) := by decide +kernel
theorem dX10_oldest_5 : decode cX10_oldest 5 = .ok (.iconst (-1), 1) := by decide +kernel
theorem dX10_oldest_6 : decode cX10_oldest 6 = .ok (.istore_n 1, 1) := by decide +kernel
theorem dX10_oldest_7 : decode cX10_oldest 7 = .ok (.iconst 0, 1) := by decide +kernel
theorem dX10_oldest_8 : decode cX10_oldest 8 = .ok (.istore_n 2, 1) := by decide +kernel
theorem dX10_oldest_9 : decode cX10_oldest 9 = .ok (.iload_n 2, 1) := by decide +kernel
theorem dX10_oldest_10 : decode cX10_oldest 10 = .ok (.aload_n 0, 1) := by decide +kernel
theorem dX10_oldest_11 : decode cX10_oldest 11 = .ok (.invokevirtual 82, 3) := by decide +kernel
theorem dX10_oldest_14 : decode cX10_oldest 14 = .ok (.if_icmp .ge 33, 3) := by decide +kernel
theorem dX10_oldest_47 : decode cX10_oldest 47 = .ok (.iload_n 1, 1) := by decide +kernel
theorem dX10_oldest_48 : decode cX10_oldest 48 = .ok (.ireturn, 1) := by decide +kernel
abbrev mX10_stuck : Ym := (yX10_stuck, cX10_stuck, 1, some .int)
theorem dX10_stuck_0 : decode cX10_stuck 0 = .ok (.aload_n 0, 1) := by decide +kernel
theorem dX10_stuck_1 : decode cX10_stuck 1 = .ok (.iconst 0, 1) := by decide +kernel
theorem dX10_stuck_2 : decode cX10_stuck 2 = .ok (.putfield 3, 3) := by decide +kernel
theorem dX10_stuck_5 : decode cX10_stuck 5 = .ok (.aload_n 0, 1) := by decide +kernel
theorem dX10_stuck_6 : decode cX10_stuck 6 = .ok (.bipush 7, 2) := by decide +kernel
theorem dX10_stuck_8 : decode cX10_stuck 8 = .ok (.iconst 1, 1) := by decide +kernel
theorem dX10_stuck_9 : decode cX10_stuck 9 = .ok (.invokevirtual 278, 3) := by decide +kernel
theorem wi_1565 : Cond.methodLink RX10 278 yX10_thingsBy ∈ WA := zin 1565 (by decide +kernel) (by decide +kernel)
theorem wi_1568 : Cond.code yX10_thingsBy cX10_thingsBy 5 (some .int) ∈ WA := zin 1568 (by decide +kernel) (by decide +kernel)
theorem wi_1567 : Cond.instanceMethod yX10_thingsBy ∈ WA := zin 1567 (by decide +kernel) (by decide +kernel)
theorem wi_53 : Cond.selects RX10 yX10_thingsBy yX10_thingsBy ∈ WA := zin 53 (by decide +kernel) (by decide +kernel)
theorem mv_X10_278 : zMv RX10 278 RX10 mX10_thingsBy 2 := ⟨⟨wi_1565, wi_110, wi_1568, by decide, by decide +kernel⟩, wi_1567, wi_53⟩
theorem dX10_stuck_12 : decode cX10_stuck 12 = .ok (.ireturn, 1) := by decide +kernel
abbrev mX10_pawned : Ym := (yX10_pawned, cX10_pawned, 1, some .int)
theorem dX10_pawned_0 : decode cX10_pawned 0 = .ok (.aload_n 0, 1) := by decide +kernel
theorem dX10_pawned_1 : decode cX10_pawned 1 = .ok (.iconst 0, 1) := by decide +kernel
theorem dX10_pawned_2 : decode cX10_pawned 2 = .ok (.putfield 3, 3) := by decide +kernel
theorem dX10_pawned_5 : decode cX10_pawned 5 = .ok (.aload_n 0, 1) := by decide +kernel
theorem dX10_pawned_6 : decode cX10_pawned 6 = .ok (.iconst 5, 1) := by decide +kernel
theorem dX10_pawned_7 : decode cX10_pawned 7 = .ok (.iconst (-1), 1) := by decide +kernel
theorem dX10_pawned_8 : decode cX10_pawned 8 = .ok (.invokevirtual 278, 3) := by decide +kernel
theorem dX10_pawned_11 : decode cX10_pawned 11 = .ok (.ireturn, 1) := by decide +kernel
abbrev mX10_blue : Ym := (yX10_blue, cX10_blue, 1, some .int)
theorem dX10_blue_0 : decode cX10_blue 0 = .ok (.aload_n 0, 1) := by decide +kernel
theorem dX10_blue_1 : decode cX10_blue 1 = .ok (.iconst 0, 1) := by decide +kernel
theorem dX10_blue_2 : decode cX10_blue 2 = .ok (.putfield 3, 3) := by decide +kernel
theorem dX10_blue_5 : decode cX10_blue 5 = .ok (.aload_n 0, 1) := by decide +kernel
theorem dX10_blue_6 : decode cX10_blue 6 = .ok (.bipush 8, 2) := by decide +kernel
theorem dX10_blue_8 : decode cX10_blue 8 = .ok (.iconst 1, 1) := by decide +kernel
theorem dX10_blue_9 : decode cX10_blue 9 = .ok (.invokevirtual 278, 3) := by decide +kernel
theorem dX10_blue_12 : decode cX10_blue 12 = .ok (.ireturn, 1) := by decide +kernel
abbrev mX10_alike : Ym := (yX10_alike, cX10_alike, 4, some .int)
theorem dX10_alike_0 : decode cX10_alike 0 = .ok (.aload_n 0, 1) := by decide +kernel
theorem dX10_alike_1 : decode cX10_alike 1 = .ok (.iconst 0, 1) := by decide +kernel
theorem dX10_alike_2 : decode cX10_alike 2 = .ok (.putfield 3, 3) := by decide +kernel
theorem dX10_alike_5 : decode cX10_alike 5 = .ok (.iconst 0, 1) := by decide +kernel
theorem dX10_alike_6 : decode cX10_alike 6 = .ok (.istore_n 1, 1) := by decide +kernel
theorem dX10_alike_7 : decode cX10_alike 7 = .ok (.iconst 0, 1) := by decide +kernel
theorem dX10_alike_8 : decode cX10_alike 8 = .ok (.istore_n 2, 1) := by decide +kernel
theorem dX10_alike_9 : decode cX10_alike 9 = .ok (.iload_n 2, 1) := by decide +kernel
theorem dX10_alike_10 : decode cX10_alike 10 = .ok (.aload_n 0, 1) := by decide +kernel
theorem dX10_alike_11 : decode cX10_alike 11 = .ok (.invokevirtual 82, 3) := by decide +kernel
theorem dX10_alike_14 : decode cX10_alike 14 = .ok (.if_icmp .ge 39, 3) := by decide +kernel
theorem dX10_alike_53 : decode cX10_alike 53 = .ok (.iload_n 1, 1) := by decide +kernel
theorem dX10_alike_54 : decode cX10_alike 54 = .ok (.ireturn, 1) := by decide +kernel
abbrev mX10_odds : Ym := (yX10_odds, cX10_odds, 4, some .int)
theorem dX10_odds_0 : decode cX10_odds 0 = .ok (.aload_n 0, 1) := by decide +kernel
theorem dX10_odds_1 : decode cX10_odds 1 = .ok (.iconst 0, 1) := by decide +kernel
theorem dX10_odds_2 : decode cX10_odds 2 = .ok (.putfield 3, 3) := by decide +kernel
theorem dX10_odds_5 : decode cX10_odds 5 = .ok (.iconst 0, 1) := by decide +kernel
theorem dX10_odds_6 : decode cX10_odds 6 = .ok (.istore_n 1, 1) := by decide +kernel
theorem dX10_odds_7 : decode cX10_odds 7 = .ok (.iconst 0, 1) := by decide +kernel
theorem dX10_odds_8 : decode cX10_odds 8 = .ok (.istore_n 2, 1) := by decide +kernel
theorem dX10_odds_9 : decode cX10_odds 9 = .ok (.iload_n 2, 1) := by decide +kernel
theorem dX10_odds_10 : decode cX10_odds 10 = .ok (.aload_n 0, 1) := by decide +kernel
theorem dX10_odds_11 : decode cX10_odds 11 = .ok (.invokevirtual 74, 3) := by decide +kernel
theorem dX10_odds_14 : decode cX10_odds 14 = .ok (.if_icmp .ge 42, 3) := by decide +kernel
theorem dX10_odds_56 : decode cX10_odds 56 = .ok (.iload_n 1, 1) := by decide +kernel
theorem dX10_odds_57 : decode cX10_odds 57 = .ok (.ifCond .ne 7, 3) := by decide +kernel
theorem dX10_odds_60 : decode cX10_odds 60 = .ok (.iconst 0, 1) := by decide +kernel
theorem dX10_odds_61 : decode cX10_odds 61 = .ok (.goto 18, 3) := by decide +kernel
theorem dX10_odds_79 : decode cX10_odds 79 = .ok (.ireturn, 1) := by decide +kernel
abbrev mX10_dearest : Ym := (yX10_dearest, cX10_dearest, 3, some .int)
theorem dX10_dearest_0 : decode cX10_dearest 0 = .ok (.aload_n 0, 1) := by decide +kernel
theorem dX10_dearest_1 : decode cX10_dearest 1 = .ok (.iconst 0, 1) := by decide +kernel
theorem dX10_dearest_2 : decode cX10_dearest 2 = .ok (.putfield 3, 3) := by decide +kernel
theorem dX10_dearest_5 : decode cX10_dearest 5 = .ok (.iconst 0, 1) := by decide +kernel
theorem dX10_dearest_6 : decode cX10_dearest 6 = .ok (.istore_n 1, 1) := by decide +kernel
theorem dX10_dearest_7 : decode cX10_dearest 7 = .ok (.iconst 1, 1) := by decide +kernel
theorem dX10_dearest_8 : decode cX10_dearest 8 = .ok (.istore_n 2, 1) := by decide +kernel
theorem dX10_dearest_9 : decode cX10_dearest 9 = .ok (.iload_n 2, 1) := by decide +kernel
theorem dX10_dearest_10 : decode cX10_dearest 10 = .ok (.bipush 50, 2) := by decide +kernel
theorem dX10_dearest_12 : decode cX10_dearest 12 = .ok (.if_icmp .gt 28, 3) := by decide +kernel
theorem dX10_dearest_15 : decode cX10_dearest 15 = .ok (.aload_n 0, 1) := by decide +kernel
theorem dX10_dearest_16 : decode cX10_dearest 16 = .ok (.iload_n 2, 1) := by decide +kernel
theorem dX10_dearest_17 : decode cX10_dearest 17 = .ok (.invokevirtual 410, 3) := by decide +kernel
theorem wi_1848 : Cond.methodLink RX10 410 yX10_soldBy ∈ WA := zin 1848 (by decide +kernel) (by decide +kernel)
theorem wi_1851 : Cond.code yX10_soldBy cX10_soldBy 4 (some .int) ∈ WA := zin 1851 (by decide +kernel) (by decide +kernel)
theorem wi_1850 : Cond.instanceMethod yX10_soldBy ∈ WA := zin 1850 (by decide +kernel) (by decide +kernel)
theorem wi_95 : Cond.selects RX10 yX10_soldBy yX10_soldBy ∈ WA := zin 95 (by decide +kernel) (by decide +kernel)
theorem mv_X10_410 : zMv RX10 410 RX10 mX10_soldBy 1 := ⟨⟨wi_1848, wi_110, wi_1851, by decide, by decide +kernel⟩, wi_1850, wi_95⟩
theorem dX10_dearest_20 : decode cX10_dearest 20 = .ok (.aload_n 0, 1) := by decide +kernel
theorem dX10_dearest_21 : decode cX10_dearest 21 = .ok (.iload_n 1, 1) := by decide +kernel
theorem dX10_dearest_22 : decode cX10_dearest 22 = .ok (.invokevirtual 410, 3) := by decide +kernel
theorem dX10_dearest_25 : decode cX10_dearest 25 = .ok (.if_icmp .le 7, 3) := by decide +kernel
theorem dX10_dearest_32 : decode cX10_dearest 32 = .ok (.iload_n 1, 1) := by decide +kernel
theorem dX10_dearest_33 : decode cX10_dearest 33 = .ok (.istore_n 1, 1) := by decide +kernel
theorem dX10_dearest_34 : decode cX10_dearest 34 = .ok (.iinc 2 1, 3) := by decide +kernel
theorem dX10_dearest_37 : decode cX10_dearest 37 = .ok (.goto (-28), 3) := by decide +kernel
theorem dX10_dearest_40 : decode cX10_dearest 40 = .ok (.iload_n 1, 1) := by decide +kernel
theorem dX10_dearest_41 : decode cX10_dearest 41 = .ok (.ireturn, 1) := by decide +kernel
abbrev mX10_seed : Ym := (yX10_seed, cX10_seed, 3, some .int)
theorem dX10_seed_0 : decode cX10_seed 0 = .ok (.aload_n 0, 1) := by decide +kernel
theorem dX10_seed_1 : decode cX10_seed 1 = .ok (.iconst 0, 1) := by decide +kernel
theorem dX10_seed_2 : decode cX10_seed 2 = .ok (.putfield 3, 3) := by decide +kernel
theorem dX10_seed_5 : decode cX10_seed 5 = .ok (.aload_n 0, 1) := by decide +kernel
theorem dX10_seed_6 : decode cX10_seed 6 = .ok (.getfield 13, 3) := by decide +kernel
theorem dX10_seed_9 : decode cX10_seed 9 = .ok (.bipush 8, 2) := by decide +kernel
theorem dX10_seed_11 : decode cX10_seed 11 = .ok (.iaload, 1) := by decide +kernel
theorem dX10_seed_12 : decode cX10_seed 12 = .ok (.istore_n 2, 1) := by decide +kernel
theorem dX10_seed_13 : decode cX10_seed 13 = .ok (.aload_n 0, 1) := by decide +kernel
theorem dX10_seed_14 : decode cX10_seed 14 = .ok (.getfield 13, 3) := by decide +kernel
theorem dX10_seed_17 : decode cX10_seed 17 = .ok (.bipush 8, 2) := by decide +kernel
theorem dX10_seed_19 : decode cX10_seed 19 = .ok (.iload_n 1, 1) := by decide +kernel
theorem dX10_seed_20 : decode cX10_seed 20 = .ok (.iastore, 1) := by decide +kernel
theorem dX10_seed_21 : decode cX10_seed 21 = .ok (.iload_n 2, 1) := by decide +kernel
theorem dX10_seed_22 : decode cX10_seed 22 = .ok (.ireturn, 1) := by decide +kernel
abbrev mX10_undo : Ym := (yX10_undo, cX10_undo, 2, some .boolean)
theorem dX10_undo_0 : decode cX10_undo 0 = .ok (.aload_n 0, 1) := by decide +kernel
theorem dX10_undo_1 : decode cX10_undo 1 = .ok (.iconst 0, 1) := by decide +kernel
theorem dX10_undo_2 : decode cX10_undo 2 = .ok (.putfield 3, 3) := by decide +kernel
theorem dX10_undo_5 : decode cX10_undo 5 = .ok (.aload_n 0, 1) := by decide +kernel
theorem dX10_undo_6 : decode cX10_undo 6 = .ok (.getfield 58, 3) := by decide +kernel
theorem fd_X10_58_9 : zFd RX10 58 9 7 := ⟨RX10, TX10, 23, "BorrowedLuckModel", rfl, by decide, uw_X10, Or.inl rfl, Or.inl wi_1270⟩
theorem dX10_undo_9 : decode cX10_undo 9 = .ok (.ifCond .ne 5, 3) := by decide +kernel
theorem dX10_undo_12 : decode cX10_undo 12 = .ok (.iconst 0, 1) := by decide +kernel
theorem dX10_undo_13 : decode cX10_undo 13 = .ok (.ireturn, 1) := by decide +kernel
abbrev mX10_noPrice : Ym := (yX10_noPrice, cX10_noPrice, 1, some .boolean)
theorem dX10_noPrice_0 : decode cX10_noPrice 0 = .ok (.iload_n 0, 1) := by decide +kernel
theorem dX10_noPrice_1 : decode cX10_noPrice 1 = .ok (.iconst 0, 1) := by decide +kernel
theorem dX10_noPrice_2 : decode cX10_noPrice 2 = .ok (.bipush 50, 2) := by decide +kernel
theorem dX10_noPrice_4 : decode cX10_noPrice 4 = .ok (.invokestatic 78, 3) := by decide +kernel
theorem dX10_noPrice_7 : decode cX10_noPrice 7 = .ok (.ifCond .ne 7, 3) := by decide +kernel
theorem dX10_noPrice_14 : decode cX10_noPrice 14 = .ok (.iconst 0, 1) := by decide +kernel
theorem dX10_noPrice_15 : decode cX10_noPrice 15 = .ok (.ireturn, 1) := by decide +kernel
theorem dX10_noPrice_10 : decode cX10_noPrice 10 = .ok (.iconst 1, 1) := by decide +kernel
theorem dX10_noPrice_11 : decode cX10_noPrice 11 = .ok (.goto 4, 3) := by decide +kernel
abbrev mX10_sells : Ym := (yX10_sells, cX10_sells, 2, some .int)
theorem dX10_sells_0 : decode cX10_sells 0 = .ok (.aload_n 0, 1) := by decide +kernel
theorem dX10_sells_1 : decode cX10_sells 1 = .ok (.iconst 0, 1) := by decide +kernel
theorem dX10_sells_2 : decode cX10_sells 2 = .ok (.putfield 3, 3) := by decide +kernel
theorem dX10_sells_5 : decode cX10_sells 5 = .ok (.aload_n 0, 1) := by decide +kernel
theorem dX10_sells_6 : decode cX10_sells 6 = .ok (.iload_n 1, 1) := by decide +kernel
theorem dX10_sells_7 : decode cX10_sells 7 = .ok (.invokestatic 407, 3) := by decide +kernel
theorem wi_1845 : Cond.methodLink RX10 407 yX10_noPrice ∈ WA := zin 1845 (by decide +kernel) (by decide +kernel)
theorem wi_1847 : Cond.code yX10_noPrice cX10_noPrice 1 (some .boolean) ∈ WA := zin 1847 (by decide +kernel) (by decide +kernel)
theorem wi_1846 : Cond.static yX10_noPrice ∈ WA := zin 1846 (by decide +kernel) (by decide +kernel)
theorem ms_X10_407 : zMs RX10 407 mX10_noPrice 1 := ⟨⟨wi_1845, wi_110, wi_1847, by decide, by decide +kernel⟩, wi_1846⟩
theorem dX10_sells_10 : decode cX10_sells 10 = .ok (.iconst 1, 1) := by decide +kernel
theorem dX10_sells_11 : decode cX10_sells 11 = .ok (.invokevirtual 241, 3) := by decide +kernel
theorem dX10_sells_14 : decode cX10_sells 14 = .ok (.ifCond .eq 7, 3) := by decide +kernel
theorem dX10_sells_21 : decode cX10_sells 21 = .ok (.aload_n 0, 1) := by decide +kernel
theorem dX10_sells_22 : decode cX10_sells 22 = .ok (.iload_n 1, 1) := by decide +kernel
theorem dX10_sells_23 : decode cX10_sells 23 = .ok (.invokevirtual 410, 3) := by decide +kernel
theorem dX10_sells_26 : decode cX10_sells 26 = .ok (.ireturn, 1) := by decide +kernel
theorem dX10_sells_17 : decode cX10_sells 17 = .ok (.iconst 0, 1) := by decide +kernel
theorem dX10_sells_18 : decode cX10_sells 18 = .ok (.goto 8, 3) := by decide +kernel
abbrev mX10_luckiest : Ym := (yX10_luckiest, cX10_luckiest, 4, some .int)
theorem dX10_luckiest_0 : decode cX10_luckiest 0 = .ok (.aload_n 0, 1) := by decide +kernel
theorem dX10_luckiest_1 : decode cX10_luckiest 1 = .ok (.iconst 0, 1) := by decide +kernel
theorem dX10_luckiest_2 : decode cX10_luckiest 2 = .ok (.putfield 3, 3) := by decide +kernel
theorem dX10_luckiest_5 : decode cX10_luckiest 5 = .ok (.aload_n 0, 1) := by decide +kernel
theorem dX10_luckiest_6 : decode cX10_luckiest 6 = .ok (.iload_n 1, 1) := by decide +kernel
theorem dX10_luckiest_7 : decode cX10_luckiest 7 = .ok (.invokestatic 293, 3) := by decide +kernel
theorem wi_1631 : Cond.methodLink RX10 293 yX10_noSort ∈ WA := zin 1631 (by decide +kernel) (by decide +kernel)
theorem wi_1633 : Cond.code yX10_noSort cX10_noSort 1 (some .boolean) ∈ WA := zin 1633 (by decide +kernel) (by decide +kernel)
theorem wi_1632 : Cond.static yX10_noSort ∈ WA := zin 1632 (by decide +kernel) (by decide +kernel)
theorem ms_X10_293 : zMs RX10 293 mX10_noSort 1 := ⟨⟨wi_1631, wi_110, wi_1633, by decide, by decide +kernel⟩, wi_1632⟩
theorem dX10_luckiest_10 : decode cX10_luckiest 10 = .ok (.iconst 1, 1) := by decide +kernel
theorem dX10_luckiest_11 : decode cX10_luckiest 11 = .ok (.invokevirtual 241, 3) := by decide +kernel
theorem dX10_luckiest_14 : decode cX10_luckiest 14 = .ok (.ifCond .eq 5, 3) := by decide +kernel
theorem dX10_luckiest_19 : decode cX10_luckiest 19 = .ok (.iconst (-1), 1) := by decide +kernel
theorem dX10_luckiest_20 : decode cX10_luckiest 20 = .ok (.istore_n 2, 1) := by decide +kernel
theorem dX10_luckiest_21 : decode cX10_luckiest 21 = .ok (.iconst 0, 1) := by decide +kernel
theorem dX10_luckiest_22 : decode cX10_luckiest 22 = .ok (.istore_n 3, 1) := by decide +kernel
theorem dX10_luckiest_23 : decode cX10_luckiest 23 = .ok (.iload_n 3, 1) := by decide +kernel
theorem dX10_luckiest_24 : decode cX10_luckiest 24 = .ok (.aload_n 0, 1) := by decide +kernel
theorem dX10_luckiest_25 : decode cX10_luckiest 25 = .ok (.invokevirtual 74, 3) := by decide +kernel
theorem dX10_luckiest_28 : decode cX10_luckiest 28 = .ok (.if_icmp .ge 31, 3) := by decide +kernel
theorem dX10_luckiest_59 : decode cX10_luckiest 59 = .ok (.iload_n 2, 1) := by decide +kernel
theorem dX10_luckiest_60 : decode cX10_luckiest 60 = .ok (.ireturn, 1) := by decide +kernel
theorem dX10_luckiest_17 : decode cX10_luckiest 17 = .ok (.iconst 0, 1) := by decide +kernel
theorem dX10_luckiest_18 : decode cX10_luckiest 18 = .ok (.ireturn, 1) := by decide +kernel
abbrev mX10_log : Ym := (yX10_log, cX10_log, 3, some .int)
theorem dX10_log_0 : decode cX10_log 0 = .ok (.aload_n 0, 1) := by decide +kernel
theorem dX10_log_1 : decode cX10_log 1 = .ok (.iconst 0, 1) := by decide +kernel
theorem dX10_log_2 : decode cX10_log 2 = .ok (.putfield 3, 3) := by decide +kernel
theorem dX10_log_5 : decode cX10_log 5 = .ok (.aload_n 0, 1) := by decide +kernel
theorem dX10_log_6 : decode cX10_log 6 = .ok (.iload_n 2, 1) := by decide +kernel
theorem dX10_log_7 : decode cX10_log 7 = .ok (.iconst 0, 1) := by decide +kernel
theorem dX10_log_8 : decode cX10_log 8 = .ok (.iconst 3, 1) := by decide +kernel
theorem dX10_log_9 : decode cX10_log 9 = .ok (.invokestatic 78, 3) := by decide +kernel
theorem dX10_log_12 : decode cX10_log 12 = .ok (.ifCond .ne 7, 3) := by decide +kernel
theorem dX10_log_19 : decode cX10_log 19 = .ok (.iconst 0, 1) := by decide +kernel
theorem dX10_log_20 : decode cX10_log 20 = .ok (.iconst 1, 1) := by decide +kernel
theorem dX10_log_21 : decode cX10_log 21 = .ok (.invokevirtual 241, 3) := by decide +kernel
theorem dX10_log_24 : decode cX10_log 24 = .ok (.ifCond .eq 5, 3) := by decide +kernel
theorem dX10_log_29 : decode cX10_log 29 = .ok (.iload_n 1, 1) := by decide +kernel
theorem dX10_log_30 : decode cX10_log 30 = .ok (.iconst 0, 1) := by decide +kernel
theorem dX10_log_31 : decode cX10_log 31 = .ok (.aload_n 0, 1) := by decide +kernel
theorem dX10_log_32 : decode cX10_log 32 = .ok (.getfield 13, 3) := by decide +kernel
theorem dX10_log_35 : decode cX10_log 35 = .ok (.bipush 7, 2) := by decide +kernel
theorem dX10_log_37 : decode cX10_log 37 = .ok (.iaload, 1) := by decide +kernel
theorem dX10_log_38 : decode cX10_log 38 = .ok (.iconst 1, 1) := by decide +kernel
theorem dX10_log_39 : decode cX10_log 39 = .ok (.isub, 1) := by decide +kernel
theorem dX10_log_40 : decode cX10_log 40 = .ok (.invokestatic 78, 3) := by decide +kernel
theorem dX10_log_43 : decode cX10_log 43 = .ok (.ifCond .eq 12, 3) := by decide +kernel
theorem dX10_log_55 : decode cX10_log 55 = .ok (.sipush (-1000), 3) := by decide +kernel
theorem dX10_log_58 : decode cX10_log 58 = .ok (.ireturn, 1) := by decide +kernel
theorem dX10_log_15 : decode cX10_log 15 = .ok (.iconst 1, 1) := by decide +kernel
theorem dX10_log_16 : decode cX10_log 16 = .ok (.goto 4, 3) := by decide +kernel
theorem dX10_log_27 : decode cX10_log 27 = .ok (.iconst 0, 1) := by decide +kernel
theorem dX10_log_28 : decode cX10_log 28 = .ok (.ireturn, 1) := by decide +kernel
abbrev mX10_isTold : Ym := (yX10_isTold, cX10_isTold, 3, some .boolean)
theorem dX10_isTold_0 : decode cX10_isTold 0 = .ok (.aload_n 0, 1) := by decide +kernel
theorem dX10_isTold_1 : decode cX10_isTold 1 = .ok (.getfield 92, 3) := by decide +kernel
theorem fd_X10_92_9 : zFd RX10 92 9 11 := ⟨RX10, TX10, 23, "BorrowedLuckModel", rfl, by decide, uw_X10, Or.inl rfl, Or.inl wi_1274⟩
theorem dX10_isTold_4 : decode cX10_isTold 4 = .ok (.iconst 2, 1) := by decide +kernel
theorem dX10_isTold_5 : decode cX10_isTold 5 = .ok (.irem, 1) := by decide +kernel
theorem dX10_isTold_6 : decode cX10_isTold 6 = .ok (.ifCond .ne 16, 3) := by decide +kernel
theorem dX10_isTold_9 : decode cX10_isTold 9 = .ok (.aload_n 0, 1) := by decide +kernel
theorem dX10_isTold_10 : decode cX10_isTold 10 = .ok (.getfield 92, 3) := by decide +kernel
theorem dX10_isTold_13 : decode cX10_isTold 13 = .ok (.bipush 40, 2) := by decide +kernel
theorem dX10_isTold_15 : decode cX10_isTold 15 = .ok (.if_icmp .gt 7, 3) := by decide +kernel
theorem dX10_isTold_18 : decode cX10_isTold 18 = .ok (.iconst 1, 1) := by decide +kernel
theorem dX10_isTold_19 : decode cX10_isTold 19 = .ok (.goto 4, 3) := by decide +kernel
theorem dX10_isTold_23 : decode cX10_isTold 23 = .ok (.istore_n 1, 1) := by decide +kernel
theorem dX10_isTold_24 : decode cX10_isTold 24 = .ok (.iconst 0, 1) := by decide +kernel
theorem dX10_isTold_25 : decode cX10_isTold 25 = .ok (.istore_n 2, 1) := by decide +kernel
theorem dX10_isTold_26 : decode cX10_isTold 26 = .ok (.iload_n 2, 1) := by decide +kernel
theorem dX10_isTold_27 : decode cX10_isTold 27 = .ok (.aload_n 0, 1) := by decide +kernel
theorem dX10_isTold_28 : decode cX10_isTold 28 = .ok (.getfield 92, 3) := by decide +kernel
theorem dX10_isTold_31 : decode cX10_isTold 31 = .ok (.if_icmp .ge 48, 3) := by decide +kernel
theorem dX10_isTold_79 : decode cX10_isTold 79 = .ok (.iload_n 1, 1) := by decide +kernel
theorem dX10_isTold_80 : decode cX10_isTold 80 = .ok (.ireturn, 1) := by decide +kernel
abbrev mX10_allThatFit : Ym := (yX10_allThatFit, cX10_allThatFit, 5, some .int)
theorem dX10_allThatFit_0 : decode cX10_allThatFit 0 = .ok (.iconst 0, 1) := by decide +kernel
theorem dX10_allThatFit_1 : decode cX10_allThatFit 1 = .ok (.istore_n 1, 1) := by decide +kernel
theorem dX10_allThatFit_2 : decode cX10_allThatFit 2 = .ok (.iconst 0, 1) := by decide +kernel
theorem dX10_allThatFit_3 : decode cX10_allThatFit 3 = .ok (.istore_n 2, 1) := by decide +kernel
theorem dX10_allThatFit_4 : decode cX10_allThatFit 4 = .ok (.iload_n 2, 1) := by decide +kernel
theorem dX10_allThatFit_5 : decode cX10_allThatFit 5 = .ok (.aload_n 0, 1) := by decide +kernel
theorem dX10_allThatFit_6 : decode cX10_allThatFit 6 = .ok (.invokevirtual 74, 3) := by decide +kernel
theorem dX10_allThatFit_9 : decode cX10_allThatFit 9 = .ok (.if_icmp .ge 77, 3) := by decide +kernel
theorem dX10_allThatFit_86 : decode cX10_allThatFit 86 = .ok (.iload_n 1, 1) := by decide +kernel
theorem dX10_allThatFit_87 : decode cX10_allThatFit 87 = .ok (.ireturn, 1) := by decide +kernel
abbrev mX10_whose : Ym := (yX10_whose, cX10_whose, 1, some .int)
theorem dX10_whose_0 : decode cX10_whose 0 = .ok (.aload_n 0, 1) := by decide +kernel
theorem dX10_whose_1 : decode cX10_whose 1 = .ok (.invokevirtual 230, 3) := by decide +kernel
theorem wi_1365 : Cond.methodLink RX10 230 yX10_uses ∈ WA := zin 1365 (by decide +kernel) (by decide +kernel)
theorem wi_1368 : Cond.code yX10_uses cX10_uses 1 (none) ∈ WA := zin 1368 (by decide +kernel) (by decide +kernel)
theorem wi_1367 : Cond.instanceMethod yX10_uses ∈ WA := zin 1367 (by decide +kernel) (by decide +kernel)
theorem wi_25 : Cond.selects RX10 yX10_uses yX10_uses ∈ WA := zin 25 (by decide +kernel) (by decide +kernel)
theorem mv_X10_230 : zMv RX10 230 RX10 mX10_uses 0 := ⟨⟨wi_1365, wi_110, wi_1368, by decide, by decide +kernel⟩, wi_1367, wi_25⟩
theorem dX10_whose_4 : decode cX10_whose 4 = .ok (.aload_n 0, 1) := by decide +kernel
theorem dX10_whose_5 : decode cX10_whose 5 = .ok (.aload_n 0, 1) := by decide +kernel
theorem dX10_whose_6 : decode cX10_whose 6 = .ok (.invokevirtual 395, 3) := by decide +kernel
theorem wi_1817 : Cond.methodLink RX10 395 yX10_isTold ∈ WA := zin 1817 (by decide +kernel) (by decide +kernel)
theorem wi_1820 : Cond.code yX10_isTold cX10_isTold 3 (some .boolean) ∈ WA := zin 1820 (by decide +kernel) (by decide +kernel)
theorem wi_1819 : Cond.instanceMethod yX10_isTold ∈ WA := zin 1819 (by decide +kernel) (by decide +kernel)
theorem wi_91 : Cond.selects RX10 yX10_isTold yX10_isTold ∈ WA := zin 91 (by decide +kernel) (by decide +kernel)
theorem mv_X10_395 : zMv RX10 395 RX10 mX10_isTold 0 := ⟨⟨wi_1817, wi_110, wi_1820, by decide, by decide +kernel⟩, wi_1819, wi_91⟩
theorem dX10_whose_9 : decode cX10_whose 9 = .ok (.ifCond .ne 7, 3) := by decide +kernel
theorem dX10_whose_16 : decode cX10_whose 16 = .ok (.iconst 0, 1) := by decide +kernel
theorem dX10_whose_17 : decode cX10_whose 17 = .ok (.iconst 1, 1) := by decide +kernel
theorem dX10_whose_18 : decode cX10_whose 18 = .ok (.invokevirtual 241, 3) := by decide +kernel
theorem dX10_whose_21 : decode cX10_whose 21 = .ok (.ifCond .eq 7, 3) := by decide +kernel
theorem dX10_whose_28 : decode cX10_whose 28 = .ok (.aload_n 0, 1) := by decide +kernel
theorem dX10_whose_29 : decode cX10_whose 29 = .ok (.invokevirtual 398, 3) := by decide +kernel
theorem wi_1821 : Cond.methodLink RX10 398 yX10_allThatFit ∈ WA := zin 1821 (by decide +kernel) (by decide +kernel)
theorem wi_1824 : Cond.code yX10_allThatFit cX10_allThatFit 5 (some .int) ∈ WA := zin 1824 (by decide +kernel) (by decide +kernel)
theorem wi_1823 : Cond.instanceMethod yX10_allThatFit ∈ WA := zin 1823 (by decide +kernel) (by decide +kernel)
theorem wi_92 : Cond.selects RX10 yX10_allThatFit yX10_allThatFit ∈ WA := zin 92 (by decide +kernel) (by decide +kernel)
theorem mv_X10_398 : zMv RX10 398 RX10 mX10_allThatFit 0 := ⟨⟨wi_1821, wi_110, wi_1824, by decide, by decide +kernel⟩, wi_1823, wi_92⟩
theorem dX10_whose_32 : decode cX10_whose 32 = .ok (.ireturn, 1) := by decide +kernel
abbrev mX10_next : Ym := (yX10_next, cX10_next, 9, some .int)
theorem dX10_next_0 : decode cX10_next 0 = .ok (.aload_n 0, 1) := by decide +kernel
theorem dX10_next_1 : decode cX10_next 1 = .ok (.invokevirtual 230, 3) := by decide +kernel
theorem dX10_next_4 : decode cX10_next 4 = .ok (.aload_n 0, 1) := by decide +kernel
theorem dX10_next_5 : decode cX10_next 5 = .ok (.aload_n 0, 1) := by decide +kernel
theorem dX10_next_6 : decode cX10_next 6 = .ok (.invokevirtual 395, 3) := by decide +kernel
theorem dX10_next_9 : decode cX10_next 9 = .ok (.ifCond .ne 7, 3) := by decide +kernel
theorem dX10_next_16 : decode cX10_next 16 = .ok (.iconst 0, 1) := by decide +kernel
theorem dX10_next_17 : decode cX10_next 17 = .ok (.iconst 1, 1) := by decide +kernel
theorem dX10_next_18 : decode cX10_next 18 = .ok (.invokevirtual 241, 3) := by decide +kernel
theorem dX10_next_21 : decode cX10_next 21 = .ok (.ifCond .eq 5, 3) := by decide +kernel
theorem dX10_next_26 : decode cX10_next 26 = .ok (.aload_n 0, 1) := by decide +kernel
theorem dX10_next_27 : decode cX10_next 27 = .ok (.invokevirtual 398, 3) := by decide +kernel
theorem dX10_next_30 : decode cX10_next 30 = .ok (.istore_n 1, 1) := by decide +kernel
theorem dX10_next_31 : decode cX10_next 31 = .ok (.iload_n 1, 1) := by decide +kernel
theorem dX10_next_32 : decode cX10_next 32 = .ok (.invokestatic 342, 3) := by decide +kernel
theorem dX10_next_35 : decode cX10_next 35 = .ok (.iconst 2, 1) := by decide +kernel
theorem dX10_next_36 : decode cX10_next 36 = .ok (.if_icmp .ge 5, 3) := by decide +kernel
theorem dX10_next_39 : decode cX10_next 39 = .ok (.iconst (-1), 1) := by decide +kernel
theorem dX10_next_40 : decode cX10_next 40 = .ok (.ireturn, 1) := by decide +kernel
abbrev mX10_count : Ym := (yX10_count, cX10_count, 5, some .int)
theorem dX10_count_0 : decode cX10_count 0 = .ok (.aload_n 0, 1) := by decide +kernel
theorem dX10_count_1 : decode cX10_count 1 = .ok (.iconst 0, 1) := by decide +kernel
theorem dX10_count_2 : decode cX10_count 2 = .ok (.putfield 3, 3) := by decide +kernel
theorem dX10_count_5 : decode cX10_count 5 = .ok (.iconst 0, 1) := by decide +kernel
theorem dX10_count_6 : decode cX10_count 6 = .ok (.istore_n 2, 1) := by decide +kernel
theorem dX10_count_7 : decode cX10_count 7 = .ok (.iconst 0, 1) := by decide +kernel
theorem dX10_count_8 : decode cX10_count 8 = .ok (.istore_n 3, 1) := by decide +kernel
theorem dX10_count_9 : decode cX10_count 9 = .ok (.iconst 0, 1) := by decide +kernel
theorem dX10_count_10 : decode cX10_count 10 = .ok (.istore 4, 2) := by decide +kernel
theorem dX10_count_12 : decode cX10_count 12 = .ok (.iload 4, 2) := by decide +kernel
theorem dX10_count_14 : decode cX10_count 14 = .ok (.aload_n 0, 1) := by decide +kernel
theorem dX10_count_15 : decode cX10_count 15 = .ok (.invokevirtual 82, 3) := by decide +kernel
theorem dX10_count_18 : decode cX10_count 18 = .ok (.if_icmp .ge 18, 3) := by decide +kernel
theorem dX10_count_36 : decode cX10_count 36 = .ok (.iconst 0, 1) := by decide +kernel
theorem dX10_count_37 : decode cX10_count 37 = .ok (.istore 4, 2) := by decide +kernel
theorem dX10_count_39 : decode cX10_count 39 = .ok (.iload 4, 2) := by decide +kernel
theorem dX10_count_41 : decode cX10_count 41 = .ok (.aload_n 0, 1) := by decide +kernel
theorem dX10_count_42 : decode cX10_count 42 = .ok (.invokevirtual 74, 3) := by decide +kernel
theorem dX10_count_45 : decode cX10_count 45 = .ok (.if_icmp .ge 23, 3) := by decide +kernel
theorem dX10_count_68 : decode cX10_count 68 = .ok (.iload_n 1, 1) := by decide +kernel
theorem dX10_count_69 : decode cX10_count 69 = .ok (.tableswitch 96 3 11 #[51, 96, 96, 96, 74, 79, 81, 83, 91], 51) := by decide +kernel
theorem dX10_count_165 : decode cX10_count 165 = .ok (.iload_n 1, 1) := by decide +kernel
theorem dX10_count_166 : decode cX10_count 166 = .ok (.iconst 0, 1) := by decide +kernel
theorem dX10_count_167 : decode cX10_count 167 = .ok (.bipush 6, 2) := by decide +kernel
theorem dX10_count_169 : decode cX10_count 169 = .ok (.invokestatic 78, 3) := by decide +kernel
theorem dX10_count_172 : decode cX10_count 172 = .ok (.ifCond .eq 12, 3) := by decide +kernel
theorem dX10_count_175 : decode cX10_count 175 = .ok (.aload_n 0, 1) := by decide +kernel
theorem dX10_count_176 : decode cX10_count 176 = .ok (.getfield 13, 3) := by decide +kernel
theorem dX10_count_179 : decode cX10_count 179 = .ok (.iload_n 1, 1) := by decide +kernel
theorem dX10_count_180 : decode cX10_count 180 = .ok (.iaload, 1) := by decide +kernel
theorem dX10_count_181 : decode cX10_count 181 = .ok (.goto 4, 3) := by decide +kernel
theorem dX10_count_185 : decode cX10_count 185 = .ok (.ireturn, 1) := by decide +kernel
theorem dX10_count_120 : decode cX10_count 120 = .ok (.aload_n 0, 1) := by decide +kernel
theorem dX10_count_121 : decode cX10_count 121 = .ok (.getfield 13, 3) := by decide +kernel
theorem dX10_count_124 : decode cX10_count 124 = .ok (.iconst 3, 1) := by decide +kernel
theorem dX10_count_125 : decode cX10_count 125 = .ok (.iaload, 1) := by decide +kernel
theorem dX10_count_126 : decode cX10_count 126 = .ok (.iconst 1, 1) := by decide +kernel
theorem dX10_count_127 : decode cX10_count 127 = .ok (.if_icmp .ne 14, 3) := by decide +kernel
theorem dX10_count_141 : decode cX10_count 141 = .ok (.iconst (-1), 1) := by decide +kernel
theorem dX10_count_142 : decode cX10_count 142 = .ok (.ireturn, 1) := by decide +kernel
theorem dX10_count_143 : decode cX10_count 143 = .ok (.aload_n 0, 1) := by decide +kernel
theorem dX10_count_144 : decode cX10_count 144 = .ok (.invokevirtual 419, 3) := by decide +kernel
theorem wi_1908 : Cond.methodLink RX10 419 yX10_luckOfAll ∈ WA := zin 1908 (by decide +kernel) (by decide +kernel)
theorem wi_1911 : Cond.code yX10_luckOfAll cX10_luckOfAll 3 (some .int) ∈ WA := zin 1911 (by decide +kernel) (by decide +kernel)
theorem wi_1910 : Cond.instanceMethod yX10_luckOfAll ∈ WA := zin 1910 (by decide +kernel) (by decide +kernel)
theorem wi_98 : Cond.selects RX10 yX10_luckOfAll yX10_luckOfAll ∈ WA := zin 98 (by decide +kernel) (by decide +kernel)
theorem mv_X10_419 : zMv RX10 419 RX10 mX10_luckOfAll 0 := ⟨⟨wi_1908, wi_110, wi_1911, by decide, by decide +kernel⟩, wi_1910, wi_98⟩
theorem dX10_count_147 : decode cX10_count 147 = .ok (.ireturn, 1) := by decide +kernel
theorem dX10_count_148 : decode cX10_count 148 = .ok (.iload_n 2, 1) := by decide +kernel
theorem dX10_count_149 : decode cX10_count 149 = .ok (.ireturn, 1) := by decide +kernel
theorem dX10_count_150 : decode cX10_count 150 = .ok (.iload_n 3, 1) := by decide +kernel
theorem dX10_count_151 : decode cX10_count 151 = .ok (.ireturn, 1) := by decide +kernel
theorem dX10_count_152 : decode cX10_count 152 = .ok (.aload_n 0, 1) := by decide +kernel
theorem dX10_count_153 : decode cX10_count 153 = .ok (.getfield 13, 3) := by decide +kernel
theorem dX10_count_156 : decode cX10_count 156 = .ok (.bipush 7, 2) := by decide +kernel
theorem dX10_count_158 : decode cX10_count 158 = .ok (.iaload, 1) := by decide +kernel
theorem dX10_count_159 : decode cX10_count 159 = .ok (.ireturn, 1) := by decide +kernel
theorem dX10_count_160 : decode cX10_count 160 = .ok (.aload_n 0, 1) := by decide +kernel
theorem dX10_count_161 : decode cX10_count 161 = .ok (.getfield 58, 3) := by decide +kernel
theorem dX10_count_164 : decode cX10_count 164 = .ok (.ireturn, 1) := by decide +kernel
theorem dX10_count_184 : decode cX10_count 184 = .ok (.iconst (-1), 1) := by decide +kernel
def FW (I : Hi) : Prop := I 95 0 = nI 0 ∧ I 95 1 = nI 0 ∧ I 95 2 = nI 0 ∧ I 95 3 = nI 0 ∧ I 95 4 = nI 0 ∧ I 95 5 = nI 5 ∧ I 95 6 = nI 20 ∧ I 95 7 = nI 0 ∧ I 95 8 = nI 1 ∧ I 94 6 = nI 0 ∧ I 94 7 = nI 0 ∧ I 94 9 = nI 0 ∧ I 94 14 = -1
theorem FW_0 : FW I0 := ⟨by decide +kernel, by decide +kernel, by decide +kernel, by decide +kernel, by decide +kernel, by decide +kernel, by decide +kernel, by decide +kernel, by decide +kernel, by decide +kernel, by decide +kernel, by decide +kernel, by decide +kernel⟩
theorem FM.fw {J : Hi} (h : FM J) : FW J := by
  have h0 := FW_0
  unfold FW at h0 ⊢
  rw [h 95 (by decide) (by decide), h 94 (by decide) (by decide)]
  exact h0
def RM (v k : Int32) (x : Nat → Int32) : Rs → Hi → Prop := fun o K => o = .inl (some (.int v)) ∧ K 94 0 = k ∧ K 107 = x
section ModA
variable (G : Gx) (d : Nat) (I : Hi)
theorem ct_women0 (h : I 95 0 = nI 0) : Ct G GAM mX10_women d 0 [.ref 94] I (Rp (some (.int (nI 0))) I) := by
  have q := ct_women G d I
  rw [h] at q
  exact q
theorem ct_things0 (h : I 95 1 = nI 0) : Ct G GAM mX10_things d 0 [.ref 94] I (Rp (some (.int (nI 0))) I) := by
  have q := ct_things G d I
  rw [h] at q
  exact q
theorem ct_in1 (v lo hi : Int32) (h : lo ≤ v ∧ v ≤ hi) : Ct G GAM mX10_in d 0 [.int v, .int lo, .int hi] I (Rp (some (.int (nI 1))) I) := by
  have q := ct_in G d I v lo hi
  rw [bI_t h] at q
  exact q
theorem ct_in0 (v lo hi : Int32) (h : ¬ (lo ≤ v ∧ v ≤ hi)) : Ct G GAM mX10_in d 0 [.int v, .int lo, .int hi] I (Rp (some (.int (nI 0))) I) := by
  have q := ct_in G d I v lo hi
  rw [bI_f h] at q
  exact q
theorem ct_thingsBy0 (g95_1 : I 95 1 = nI 0) (x y : Int32) : Ct G GAM mX10_thingsBy (d + 1) 0 [.ref 94, .int x, .int y] I (Rp (some (.int (nI 0))) I) := by
  refine Ct.mk [some (.ref 94), some (.int x), some (.int y), none, none] ?_
  refine Rn.iconst (v := (nI 0)) dX10_thingsBy_0 rfl ?_
  refine Rn.istore_n dX10_thingsBy_1 rfl (by decide) ?_
  refine Rn.iconst (v := (nI 0)) dX10_thingsBy_2 rfl ?_
  refine Rn.istore dX10_thingsBy_3 (by decide) ?_
  refine Rn.iload dX10_thingsBy_5 rfl ?_
  refine Rn.aload_n dX10_thingsBy_7 rfl rfl ?_
  refine Rn.callVp (As := []) dX10_thingsBy_8 mv_X10_82 (by first | rfl | exact gC0 (by assumption) | exact gL0 (by assumption)) rfl rfl rfl (Nat.le_of_ble_eq_true rfl) (ct_things0 G _ _ (by exact g95_1)) ?_
  refine Rn.icmp_ge (tgt := 42) dX10_thingsBy_11 (by decide) (fun _ => ?_) (fun h9 => absurd h9 (by decide))
  refine Rn.iload_n dX10_thingsBy_42 rfl rfl ?_
  exact Rn.iret dX10_thingsBy_43 rfl (⟨rfl, rfl⟩)
theorem ct_soldBy0 (g95_1 : I 95 1 = nI 0) (x : Int32) : Ct G GAM mX10_soldBy (d + 1) 0 [.ref 94, .int x] I (Rp (some (.int (nI 0))) I) := by
  refine Ct.mk [some (.ref 94), some (.int x), none, none] ?_
  refine Rn.iconst (v := (nI 0)) dX10_soldBy_0 rfl ?_
  refine Rn.istore_n dX10_soldBy_1 rfl (by decide) ?_
  refine Rn.iconst (v := (nI 0)) dX10_soldBy_2 rfl ?_
  refine Rn.istore_n dX10_soldBy_3 rfl (by decide) ?_
  refine Rn.iload_n dX10_soldBy_4 rfl rfl ?_
  refine Rn.aload_n dX10_soldBy_5 rfl rfl ?_
  refine Rn.callVp (As := []) dX10_soldBy_6 mv_X10_82 (by first | rfl | exact gC0 (by assumption) | exact gL0 (by assumption)) rfl rfl rfl (Nat.le_of_ble_eq_true rfl) (ct_things0 G _ _ (by exact g95_1)) ?_
  refine Rn.icmp_ge (tgt := 51) dX10_soldBy_9 (by decide) (fun _ => ?_) (fun h9 => absurd h9 (by decide))
  refine Rn.iload_n dX10_soldBy_51 rfl rfl ?_
  exact Rn.iret dX10_soldBy_52 rfl (⟨rfl, rfl⟩)
theorem ct_X10_unlucky (F : FW I) : Ct G GAM mX10_unlucky (d + 2) 0 [.ref 94] I (Rp (some (.int (-1))) (zup I 94 0 (nI 0))) := by
  obtain ⟨g95_0, g95_1, g95_2, g95_3, g95_4, g95_5, g95_6, g95_7, g95_8, g94_6, g94_7, g94_9, g94_14⟩ := F
  refine Ct.mk [some (.ref 94), none, none] ?_
  refine Rn.aload_n dX10_unlucky_0 rfl rfl ?_
  refine Rn.iconst (v := (nI 0)) dX10_unlucky_1 rfl ?_
  refine Rn.putI dX10_unlucky_2 fp_X10_3_9 (by first | rfl | exact gC0 (by assumption) | exact gL0 (by assumption)) rfl ?_
  refine Rn.iconst (v := (-1)) dX10_unlucky_5 rfl ?_
  refine Rn.istore_n dX10_unlucky_6 rfl (by decide) ?_
  refine Rn.iconst (v := (nI 0)) dX10_unlucky_7 rfl ?_
  refine Rn.istore_n dX10_unlucky_8 rfl (by decide) ?_
  refine Rn.iload_n dX10_unlucky_9 rfl rfl ?_
  refine Rn.aload_n dX10_unlucky_10 rfl rfl ?_
  refine Rn.callVp (As := []) dX10_unlucky_11 mv_X10_74 (by first | rfl | exact gC0 (by assumption) | exact gL0 (by assumption)) rfl rfl rfl (Nat.le_of_ble_eq_true rfl) (ct_women0 G _ _ (by exact g95_0)) ?_
  refine Rn.icmp_ge (tgt := 43) dX10_unlucky_14 (by decide) (fun _ => ?_) (fun h9 => absurd h9 (by decide))
  refine Rn.iload_n dX10_unlucky_43 rfl rfl ?_
  exact Rn.iret dX10_unlucky_44 rfl (⟨rfl, rfl⟩)
theorem ct_X10_oldest (F : FW I) : Ct G GAM mX10_oldest (d + 2) 0 [.ref 94] I (Rp (some (.int (-1))) (zup I 94 0 (nI 0))) := by
  obtain ⟨g95_0, g95_1, g95_2, g95_3, g95_4, g95_5, g95_6, g95_7, g95_8, g94_6, g94_7, g94_9, g94_14⟩ := F
  refine Ct.mk [some (.ref 94), none, none] ?_
  refine Rn.aload_n dX10_oldest_0 rfl rfl ?_
  refine Rn.iconst (v := (nI 0)) dX10_oldest_1 rfl ?_
  refine Rn.putI dX10_oldest_2 fp_X10_3_9 (by first | rfl | exact gC0 (by assumption) | exact gL0 (by assumption)) rfl ?_
  refine Rn.iconst (v := (-1)) dX10_oldest_5 rfl ?_
  refine Rn.istore_n dX10_oldest_6 rfl (by decide) ?_
  refine Rn.iconst (v := (nI 0)) dX10_oldest_7 rfl ?_
  refine Rn.istore_n dX10_oldest_8 rfl (by decide) ?_
  refine Rn.iload_n dX10_oldest_9 rfl rfl ?_
  refine Rn.aload_n dX10_oldest_10 rfl rfl ?_
  refine Rn.callVp (As := []) dX10_oldest_11 mv_X10_82 (by first | rfl | exact gC0 (by assumption) | exact gL0 (by assumption)) rfl rfl rfl (Nat.le_of_ble_eq_true rfl) (ct_things0 G _ _ (by exact g95_1)) ?_
  refine Rn.icmp_ge (tgt := 47) dX10_oldest_14 (by decide) (fun _ => ?_) (fun h9 => absurd h9 (by decide))
  refine Rn.iload_n dX10_oldest_47 rfl rfl ?_
  exact Rn.iret dX10_oldest_48 rfl (⟨rfl, rfl⟩)
theorem ct_X10_stuck (F : FW I) : Ct G GAM mX10_stuck (d + 2) 0 [.ref 94] I (Rp (some (.int (nI 0))) (zup I 94 0 (nI 0))) := by
  obtain ⟨g95_0, g95_1, g95_2, g95_3, g95_4, g95_5, g95_6, g95_7, g95_8, g94_6, g94_7, g94_9, g94_14⟩ := F
  refine Ct.mk [some (.ref 94)] ?_
  refine Rn.aload_n dX10_stuck_0 rfl rfl ?_
  refine Rn.iconst (v := (nI 0)) dX10_stuck_1 rfl ?_
  refine Rn.putI dX10_stuck_2 fp_X10_3_9 (by first | rfl | exact gC0 (by assumption) | exact gL0 (by assumption)) rfl ?_
  refine Rn.aload_n dX10_stuck_5 rfl rfl ?_
  refine Rn.bipush (v := (nI 7)) dX10_stuck_6 rfl ?_
  refine Rn.iconst (v := (nI 1)) dX10_stuck_8 rfl ?_
  refine Rn.callVp (As := [_, _]) dX10_stuck_9 mv_X10_278 (by first | rfl | exact gC0 (by assumption) | exact gL0 (by assumption)) rfl rfl rfl (Nat.le_of_ble_eq_true rfl) (ct_thingsBy0 G _ _ (by exact g95_1) _ _) ?_
  exact Rn.iret dX10_stuck_12 rfl (⟨rfl, rfl⟩)
theorem ct_X10_pawned (F : FW I) : Ct G GAM mX10_pawned (d + 2) 0 [.ref 94] I (Rp (some (.int (nI 0))) (zup I 94 0 (nI 0))) := by
  obtain ⟨g95_0, g95_1, g95_2, g95_3, g95_4, g95_5, g95_6, g95_7, g95_8, g94_6, g94_7, g94_9, g94_14⟩ := F
  refine Ct.mk [some (.ref 94)] ?_
  refine Rn.aload_n dX10_pawned_0 rfl rfl ?_
  refine Rn.iconst (v := (nI 0)) dX10_pawned_1 rfl ?_
  refine Rn.putI dX10_pawned_2 fp_X10_3_9 (by first | rfl | exact gC0 (by assumption) | exact gL0 (by assumption)) rfl ?_
  refine Rn.aload_n dX10_pawned_5 rfl rfl ?_
  refine Rn.iconst (v := (nI 5)) dX10_pawned_6 rfl ?_
  refine Rn.iconst (v := (-1)) dX10_pawned_7 rfl ?_
  refine Rn.callVp (As := [_, _]) dX10_pawned_8 mv_X10_278 (by first | rfl | exact gC0 (by assumption) | exact gL0 (by assumption)) rfl rfl rfl (Nat.le_of_ble_eq_true rfl) (ct_thingsBy0 G _ _ (by exact g95_1) _ _) ?_
  exact Rn.iret dX10_pawned_11 rfl (⟨rfl, rfl⟩)
theorem ct_X10_blue (F : FW I) : Ct G GAM mX10_blue (d + 2) 0 [.ref 94] I (Rp (some (.int (nI 0))) (zup I 94 0 (nI 0))) := by
  obtain ⟨g95_0, g95_1, g95_2, g95_3, g95_4, g95_5, g95_6, g95_7, g95_8, g94_6, g94_7, g94_9, g94_14⟩ := F
  refine Ct.mk [some (.ref 94)] ?_
  refine Rn.aload_n dX10_blue_0 rfl rfl ?_
  refine Rn.iconst (v := (nI 0)) dX10_blue_1 rfl ?_
  refine Rn.putI dX10_blue_2 fp_X10_3_9 (by first | rfl | exact gC0 (by assumption) | exact gL0 (by assumption)) rfl ?_
  refine Rn.aload_n dX10_blue_5 rfl rfl ?_
  refine Rn.bipush (v := (nI 8)) dX10_blue_6 rfl ?_
  refine Rn.iconst (v := (nI 1)) dX10_blue_8 rfl ?_
  refine Rn.callVp (As := [_, _]) dX10_blue_9 mv_X10_278 (by first | rfl | exact gC0 (by assumption) | exact gL0 (by assumption)) rfl rfl rfl (Nat.le_of_ble_eq_true rfl) (ct_thingsBy0 G _ _ (by exact g95_1) _ _) ?_
  exact Rn.iret dX10_blue_12 rfl (⟨rfl, rfl⟩)
theorem ct_X10_alike (F : FW I) : Ct G GAM mX10_alike (d + 2) 0 [.ref 94] I (Rp (some (.int (nI 0))) (zup I 94 0 (nI 0))) := by
  obtain ⟨g95_0, g95_1, g95_2, g95_3, g95_4, g95_5, g95_6, g95_7, g95_8, g94_6, g94_7, g94_9, g94_14⟩ := F
  refine Ct.mk [some (.ref 94), none, none, none] ?_
  refine Rn.aload_n dX10_alike_0 rfl rfl ?_
  refine Rn.iconst (v := (nI 0)) dX10_alike_1 rfl ?_
  refine Rn.putI dX10_alike_2 fp_X10_3_9 (by first | rfl | exact gC0 (by assumption) | exact gL0 (by assumption)) rfl ?_
  refine Rn.iconst (v := (nI 0)) dX10_alike_5 rfl ?_
  refine Rn.istore_n dX10_alike_6 rfl (by decide) ?_
  refine Rn.iconst (v := (nI 0)) dX10_alike_7 rfl ?_
  refine Rn.istore_n dX10_alike_8 rfl (by decide) ?_
  refine Rn.iload_n dX10_alike_9 rfl rfl ?_
  refine Rn.aload_n dX10_alike_10 rfl rfl ?_
  refine Rn.callVp (As := []) dX10_alike_11 mv_X10_82 (by first | rfl | exact gC0 (by assumption) | exact gL0 (by assumption)) rfl rfl rfl (Nat.le_of_ble_eq_true rfl) (ct_things0 G _ _ (by exact g95_1)) ?_
  refine Rn.icmp_ge (tgt := 53) dX10_alike_14 (by decide) (fun _ => ?_) (fun h9 => absurd h9 (by decide))
  refine Rn.iload_n dX10_alike_53 rfl rfl ?_
  exact Rn.iret dX10_alike_54 rfl (⟨rfl, rfl⟩)
theorem ct_X10_odds (F : FW I) : Ct G GAM mX10_odds (d + 2) 0 [.ref 94] I (Rp (some (.int (nI 0))) (zup I 94 0 (nI 0))) := by
  obtain ⟨g95_0, g95_1, g95_2, g95_3, g95_4, g95_5, g95_6, g95_7, g95_8, g94_6, g94_7, g94_9, g94_14⟩ := F
  refine Ct.mk [some (.ref 94), none, none, none] ?_
  refine Rn.aload_n dX10_odds_0 rfl rfl ?_
  refine Rn.iconst (v := (nI 0)) dX10_odds_1 rfl ?_
  refine Rn.putI dX10_odds_2 fp_X10_3_9 (by first | rfl | exact gC0 (by assumption) | exact gL0 (by assumption)) rfl ?_
  refine Rn.iconst (v := (nI 0)) dX10_odds_5 rfl ?_
  refine Rn.istore_n dX10_odds_6 rfl (by decide) ?_
  refine Rn.iconst (v := (nI 0)) dX10_odds_7 rfl ?_
  refine Rn.istore_n dX10_odds_8 rfl (by decide) ?_
  refine Rn.iload_n dX10_odds_9 rfl rfl ?_
  refine Rn.aload_n dX10_odds_10 rfl rfl ?_
  refine Rn.callVp (As := []) dX10_odds_11 mv_X10_74 (by first | rfl | exact gC0 (by assumption) | exact gL0 (by assumption)) rfl rfl rfl (Nat.le_of_ble_eq_true rfl) (ct_women0 G _ _ (by exact g95_0)) ?_
  refine Rn.icmp_ge (tgt := 56) dX10_odds_14 (by decide) (fun _ => ?_) (fun h9 => absurd h9 (by decide))
  refine Rn.iload_n dX10_odds_56 rfl rfl ?_
  refine Rn.if_ne (tgt := 64) dX10_odds_57 (by decide) (fun h9 => absurd h9 (by decide)) (fun _ => ?_)
  refine Rn.iconst (v := (nI 0)) dX10_odds_60 rfl ?_
  refine Rn.goto 79 dX10_odds_61 (by decide) ?_
  exact Rn.iret dX10_odds_79 rfl (⟨rfl, rfl⟩)
theorem ct_X10_dearest (F : FW I) : Ct G GAM mX10_dearest (d + 2) 0 [.ref 94] I (Rp (some (.int (nI 0))) (zup I 94 0 (nI 0))) := by
  obtain ⟨g95_0, g95_1, g95_2, g95_3, g95_4, g95_5, g95_6, g95_7, g95_8, g94_6, g94_7, g94_9, g94_14⟩ := F
  refine Ct.mk [some (.ref 94), none, none] ?_
  refine Rn.aload_n dX10_dearest_0 rfl rfl ?_
  refine Rn.iconst (v := (nI 0)) dX10_dearest_1 rfl ?_
  refine Rn.putI dX10_dearest_2 fp_X10_3_9 (by first | rfl | exact gC0 (by assumption) | exact gL0 (by assumption)) rfl ?_
  refine Rn.iconst (v := (nI 0)) dX10_dearest_5 rfl ?_
  refine Rn.istore_n dX10_dearest_6 rfl (by decide) ?_
  refine Rn.iconst (v := (nI 1)) dX10_dearest_7 rfl ?_
  refine Rn.istore_n dX10_dearest_8 rfl (by decide) ?_
  refine Rn.iload_n dX10_dearest_9 rfl rfl ?_
  refine Rn.bipush (v := (nI 50)) dX10_dearest_10 rfl ?_
  refine Rn.icmp_gt (tgt := 40) dX10_dearest_12 (by decide) (fun h9 => absurd h9 (by decide)) (fun _ => ?_)
  refine Rn.aload_n dX10_dearest_15 rfl rfl ?_
  refine Rn.iload_n dX10_dearest_16 rfl rfl ?_
  refine Rn.callVp (As := [_]) dX10_dearest_17 mv_X10_410 (by first | rfl | exact gC0 (by assumption) | exact gL0 (by assumption)) rfl rfl rfl (Nat.le_of_ble_eq_true rfl) (ct_soldBy0 G _ _ (by exact g95_1) _) ?_
  refine Rn.aload_n dX10_dearest_20 rfl rfl ?_
  refine Rn.iload_n dX10_dearest_21 rfl rfl ?_
  refine Rn.callVp (As := [_]) dX10_dearest_22 mv_X10_410 (by first | rfl | exact gC0 (by assumption) | exact gL0 (by assumption)) rfl rfl rfl (Nat.le_of_ble_eq_true rfl) (ct_soldBy0 G _ _ (by exact g95_1) _) ?_
  refine Rn.icmp_le (tgt := 32) dX10_dearest_25 (by decide) (fun _ => ?_) (fun h9 => absurd h9 (by decide))
  refine Rn.iload_n dX10_dearest_32 rfl rfl ?_
  refine Rn.istore_n dX10_dearest_33 rfl (by decide) ?_
  refine Rn.iincN dX10_dearest_34 rfl (by decide) ?_
  refine Rn.goto 9 dX10_dearest_37 (by decide) ?_
  refine Rn.iload_n dX10_dearest_9 rfl rfl ?_
  refine Rn.bipush (v := (nI 50)) dX10_dearest_10 rfl ?_
  refine Rn.icmp_gt (tgt := 40) dX10_dearest_12 (by decide) (fun h9 => absurd h9 (by decide)) (fun _ => ?_)
  refine Rn.aload_n dX10_dearest_15 rfl rfl ?_
  refine Rn.iload_n dX10_dearest_16 rfl rfl ?_
  refine Rn.callVp (As := [_]) dX10_dearest_17 mv_X10_410 (by first | rfl | exact gC0 (by assumption) | exact gL0 (by assumption)) rfl rfl rfl (Nat.le_of_ble_eq_true rfl) (ct_soldBy0 G _ _ (by exact g95_1) _) ?_
  refine Rn.aload_n dX10_dearest_20 rfl rfl ?_
  refine Rn.iload_n dX10_dearest_21 rfl rfl ?_
  refine Rn.callVp (As := [_]) dX10_dearest_22 mv_X10_410 (by first | rfl | exact gC0 (by assumption) | exact gL0 (by assumption)) rfl rfl rfl (Nat.le_of_ble_eq_true rfl) (ct_soldBy0 G _ _ (by exact g95_1) _) ?_
  refine Rn.icmp_le (tgt := 32) dX10_dearest_25 (by decide) (fun _ => ?_) (fun h9 => absurd h9 (by decide))
  refine Rn.iload_n dX10_dearest_32 rfl rfl ?_
  refine Rn.istore_n dX10_dearest_33 rfl (by decide) ?_
  refine Rn.iincN dX10_dearest_34 rfl (by decide) ?_
  refine Rn.goto 9 dX10_dearest_37 (by decide) ?_
  refine Rn.iload_n dX10_dearest_9 rfl rfl ?_
  refine Rn.bipush (v := (nI 50)) dX10_dearest_10 rfl ?_
  refine Rn.icmp_gt (tgt := 40) dX10_dearest_12 (by decide) (fun h9 => absurd h9 (by decide)) (fun _ => ?_)
  refine Rn.aload_n dX10_dearest_15 rfl rfl ?_
  refine Rn.iload_n dX10_dearest_16 rfl rfl ?_
  refine Rn.callVp (As := [_]) dX10_dearest_17 mv_X10_410 (by first | rfl | exact gC0 (by assumption) | exact gL0 (by assumption)) rfl rfl rfl (Nat.le_of_ble_eq_true rfl) (ct_soldBy0 G _ _ (by exact g95_1) _) ?_
  refine Rn.aload_n dX10_dearest_20 rfl rfl ?_
  refine Rn.iload_n dX10_dearest_21 rfl rfl ?_
  refine Rn.callVp (As := [_]) dX10_dearest_22 mv_X10_410 (by first | rfl | exact gC0 (by assumption) | exact gL0 (by assumption)) rfl rfl rfl (Nat.le_of_ble_eq_true rfl) (ct_soldBy0 G _ _ (by exact g95_1) _) ?_
  refine Rn.icmp_le (tgt := 32) dX10_dearest_25 (by decide) (fun _ => ?_) (fun h9 => absurd h9 (by decide))
  refine Rn.iload_n dX10_dearest_32 rfl rfl ?_
  refine Rn.istore_n dX10_dearest_33 rfl (by decide) ?_
  refine Rn.iincN dX10_dearest_34 rfl (by decide) ?_
  refine Rn.goto 9 dX10_dearest_37 (by decide) ?_
  refine Rn.iload_n dX10_dearest_9 rfl rfl ?_
  refine Rn.bipush (v := (nI 50)) dX10_dearest_10 rfl ?_
  refine Rn.icmp_gt (tgt := 40) dX10_dearest_12 (by decide) (fun h9 => absurd h9 (by decide)) (fun _ => ?_)
  refine Rn.aload_n dX10_dearest_15 rfl rfl ?_
  refine Rn.iload_n dX10_dearest_16 rfl rfl ?_
  refine Rn.callVp (As := [_]) dX10_dearest_17 mv_X10_410 (by first | rfl | exact gC0 (by assumption) | exact gL0 (by assumption)) rfl rfl rfl (Nat.le_of_ble_eq_true rfl) (ct_soldBy0 G _ _ (by exact g95_1) _) ?_
  refine Rn.aload_n dX10_dearest_20 rfl rfl ?_
  refine Rn.iload_n dX10_dearest_21 rfl rfl ?_
  refine Rn.callVp (As := [_]) dX10_dearest_22 mv_X10_410 (by first | rfl | exact gC0 (by assumption) | exact gL0 (by assumption)) rfl rfl rfl (Nat.le_of_ble_eq_true rfl) (ct_soldBy0 G _ _ (by exact g95_1) _) ?_
  refine Rn.icmp_le (tgt := 32) dX10_dearest_25 (by decide) (fun _ => ?_) (fun h9 => absurd h9 (by decide))
  refine Rn.iload_n dX10_dearest_32 rfl rfl ?_
  refine Rn.istore_n dX10_dearest_33 rfl (by decide) ?_
  refine Rn.iincN dX10_dearest_34 rfl (by decide) ?_
  refine Rn.goto 9 dX10_dearest_37 (by decide) ?_
  refine Rn.iload_n dX10_dearest_9 rfl rfl ?_
  refine Rn.bipush (v := (nI 50)) dX10_dearest_10 rfl ?_
  refine Rn.icmp_gt (tgt := 40) dX10_dearest_12 (by decide) (fun h9 => absurd h9 (by decide)) (fun _ => ?_)
  refine Rn.aload_n dX10_dearest_15 rfl rfl ?_
  refine Rn.iload_n dX10_dearest_16 rfl rfl ?_
  refine Rn.callVp (As := [_]) dX10_dearest_17 mv_X10_410 (by first | rfl | exact gC0 (by assumption) | exact gL0 (by assumption)) rfl rfl rfl (Nat.le_of_ble_eq_true rfl) (ct_soldBy0 G _ _ (by exact g95_1) _) ?_
  refine Rn.aload_n dX10_dearest_20 rfl rfl ?_
  refine Rn.iload_n dX10_dearest_21 rfl rfl ?_
  refine Rn.callVp (As := [_]) dX10_dearest_22 mv_X10_410 (by first | rfl | exact gC0 (by assumption) | exact gL0 (by assumption)) rfl rfl rfl (Nat.le_of_ble_eq_true rfl) (ct_soldBy0 G _ _ (by exact g95_1) _) ?_
  refine Rn.icmp_le (tgt := 32) dX10_dearest_25 (by decide) (fun _ => ?_) (fun h9 => absurd h9 (by decide))
  refine Rn.iload_n dX10_dearest_32 rfl rfl ?_
  refine Rn.istore_n dX10_dearest_33 rfl (by decide) ?_
  refine Rn.iincN dX10_dearest_34 rfl (by decide) ?_
  refine Rn.goto 9 dX10_dearest_37 (by decide) ?_
  refine Rn.iload_n dX10_dearest_9 rfl rfl ?_
  refine Rn.bipush (v := (nI 50)) dX10_dearest_10 rfl ?_
  refine Rn.icmp_gt (tgt := 40) dX10_dearest_12 (by decide) (fun h9 => absurd h9 (by decide)) (fun _ => ?_)
  refine Rn.aload_n dX10_dearest_15 rfl rfl ?_
  refine Rn.iload_n dX10_dearest_16 rfl rfl ?_
  refine Rn.callVp (As := [_]) dX10_dearest_17 mv_X10_410 (by first | rfl | exact gC0 (by assumption) | exact gL0 (by assumption)) rfl rfl rfl (Nat.le_of_ble_eq_true rfl) (ct_soldBy0 G _ _ (by exact g95_1) _) ?_
  refine Rn.aload_n dX10_dearest_20 rfl rfl ?_
  refine Rn.iload_n dX10_dearest_21 rfl rfl ?_
  refine Rn.callVp (As := [_]) dX10_dearest_22 mv_X10_410 (by first | rfl | exact gC0 (by assumption) | exact gL0 (by assumption)) rfl rfl rfl (Nat.le_of_ble_eq_true rfl) (ct_soldBy0 G _ _ (by exact g95_1) _) ?_
  refine Rn.icmp_le (tgt := 32) dX10_dearest_25 (by decide) (fun _ => ?_) (fun h9 => absurd h9 (by decide))
  refine Rn.iload_n dX10_dearest_32 rfl rfl ?_
  refine Rn.istore_n dX10_dearest_33 rfl (by decide) ?_
  refine Rn.iincN dX10_dearest_34 rfl (by decide) ?_
  refine Rn.goto 9 dX10_dearest_37 (by decide) ?_
  refine Rn.iload_n dX10_dearest_9 rfl rfl ?_
  refine Rn.bipush (v := (nI 50)) dX10_dearest_10 rfl ?_
  refine Rn.icmp_gt (tgt := 40) dX10_dearest_12 (by decide) (fun h9 => absurd h9 (by decide)) (fun _ => ?_)
  refine Rn.aload_n dX10_dearest_15 rfl rfl ?_
  refine Rn.iload_n dX10_dearest_16 rfl rfl ?_
  refine Rn.callVp (As := [_]) dX10_dearest_17 mv_X10_410 (by first | rfl | exact gC0 (by assumption) | exact gL0 (by assumption)) rfl rfl rfl (Nat.le_of_ble_eq_true rfl) (ct_soldBy0 G _ _ (by exact g95_1) _) ?_
  refine Rn.aload_n dX10_dearest_20 rfl rfl ?_
  refine Rn.iload_n dX10_dearest_21 rfl rfl ?_
  refine Rn.callVp (As := [_]) dX10_dearest_22 mv_X10_410 (by first | rfl | exact gC0 (by assumption) | exact gL0 (by assumption)) rfl rfl rfl (Nat.le_of_ble_eq_true rfl) (ct_soldBy0 G _ _ (by exact g95_1) _) ?_
  refine Rn.icmp_le (tgt := 32) dX10_dearest_25 (by decide) (fun _ => ?_) (fun h9 => absurd h9 (by decide))
  refine Rn.iload_n dX10_dearest_32 rfl rfl ?_
  refine Rn.istore_n dX10_dearest_33 rfl (by decide) ?_
  refine Rn.iincN dX10_dearest_34 rfl (by decide) ?_
  refine Rn.goto 9 dX10_dearest_37 (by decide) ?_
  refine Rn.iload_n dX10_dearest_9 rfl rfl ?_
  refine Rn.bipush (v := (nI 50)) dX10_dearest_10 rfl ?_
  refine Rn.icmp_gt (tgt := 40) dX10_dearest_12 (by decide) (fun h9 => absurd h9 (by decide)) (fun _ => ?_)
  refine Rn.aload_n dX10_dearest_15 rfl rfl ?_
  refine Rn.iload_n dX10_dearest_16 rfl rfl ?_
  refine Rn.callVp (As := [_]) dX10_dearest_17 mv_X10_410 (by first | rfl | exact gC0 (by assumption) | exact gL0 (by assumption)) rfl rfl rfl (Nat.le_of_ble_eq_true rfl) (ct_soldBy0 G _ _ (by exact g95_1) _) ?_
  refine Rn.aload_n dX10_dearest_20 rfl rfl ?_
  refine Rn.iload_n dX10_dearest_21 rfl rfl ?_
  refine Rn.callVp (As := [_]) dX10_dearest_22 mv_X10_410 (by first | rfl | exact gC0 (by assumption) | exact gL0 (by assumption)) rfl rfl rfl (Nat.le_of_ble_eq_true rfl) (ct_soldBy0 G _ _ (by exact g95_1) _) ?_
  refine Rn.icmp_le (tgt := 32) dX10_dearest_25 (by decide) (fun _ => ?_) (fun h9 => absurd h9 (by decide))
  refine Rn.iload_n dX10_dearest_32 rfl rfl ?_
  refine Rn.istore_n dX10_dearest_33 rfl (by decide) ?_
  refine Rn.iincN dX10_dearest_34 rfl (by decide) ?_
  refine Rn.goto 9 dX10_dearest_37 (by decide) ?_
  refine Rn.iload_n dX10_dearest_9 rfl rfl ?_
  refine Rn.bipush (v := (nI 50)) dX10_dearest_10 rfl ?_
  refine Rn.icmp_gt (tgt := 40) dX10_dearest_12 (by decide) (fun h9 => absurd h9 (by decide)) (fun _ => ?_)
  refine Rn.aload_n dX10_dearest_15 rfl rfl ?_
  refine Rn.iload_n dX10_dearest_16 rfl rfl ?_
  refine Rn.callVp (As := [_]) dX10_dearest_17 mv_X10_410 (by first | rfl | exact gC0 (by assumption) | exact gL0 (by assumption)) rfl rfl rfl (Nat.le_of_ble_eq_true rfl) (ct_soldBy0 G _ _ (by exact g95_1) _) ?_
  refine Rn.aload_n dX10_dearest_20 rfl rfl ?_
  refine Rn.iload_n dX10_dearest_21 rfl rfl ?_
  refine Rn.callVp (As := [_]) dX10_dearest_22 mv_X10_410 (by first | rfl | exact gC0 (by assumption) | exact gL0 (by assumption)) rfl rfl rfl (Nat.le_of_ble_eq_true rfl) (ct_soldBy0 G _ _ (by exact g95_1) _) ?_
  refine Rn.icmp_le (tgt := 32) dX10_dearest_25 (by decide) (fun _ => ?_) (fun h9 => absurd h9 (by decide))
  refine Rn.iload_n dX10_dearest_32 rfl rfl ?_
  refine Rn.istore_n dX10_dearest_33 rfl (by decide) ?_
  refine Rn.iincN dX10_dearest_34 rfl (by decide) ?_
  refine Rn.goto 9 dX10_dearest_37 (by decide) ?_
  refine Rn.iload_n dX10_dearest_9 rfl rfl ?_
  refine Rn.bipush (v := (nI 50)) dX10_dearest_10 rfl ?_
  refine Rn.icmp_gt (tgt := 40) dX10_dearest_12 (by decide) (fun h9 => absurd h9 (by decide)) (fun _ => ?_)
  refine Rn.aload_n dX10_dearest_15 rfl rfl ?_
  refine Rn.iload_n dX10_dearest_16 rfl rfl ?_
  refine Rn.callVp (As := [_]) dX10_dearest_17 mv_X10_410 (by first | rfl | exact gC0 (by assumption) | exact gL0 (by assumption)) rfl rfl rfl (Nat.le_of_ble_eq_true rfl) (ct_soldBy0 G _ _ (by exact g95_1) _) ?_
  refine Rn.aload_n dX10_dearest_20 rfl rfl ?_
  refine Rn.iload_n dX10_dearest_21 rfl rfl ?_
  refine Rn.callVp (As := [_]) dX10_dearest_22 mv_X10_410 (by first | rfl | exact gC0 (by assumption) | exact gL0 (by assumption)) rfl rfl rfl (Nat.le_of_ble_eq_true rfl) (ct_soldBy0 G _ _ (by exact g95_1) _) ?_
  refine Rn.icmp_le (tgt := 32) dX10_dearest_25 (by decide) (fun _ => ?_) (fun h9 => absurd h9 (by decide))
  refine Rn.iload_n dX10_dearest_32 rfl rfl ?_
  refine Rn.istore_n dX10_dearest_33 rfl (by decide) ?_
  refine Rn.iincN dX10_dearest_34 rfl (by decide) ?_
  refine Rn.goto 9 dX10_dearest_37 (by decide) ?_
  refine Rn.iload_n dX10_dearest_9 rfl rfl ?_
  refine Rn.bipush (v := (nI 50)) dX10_dearest_10 rfl ?_
  refine Rn.icmp_gt (tgt := 40) dX10_dearest_12 (by decide) (fun h9 => absurd h9 (by decide)) (fun _ => ?_)
  refine Rn.aload_n dX10_dearest_15 rfl rfl ?_
  refine Rn.iload_n dX10_dearest_16 rfl rfl ?_
  refine Rn.callVp (As := [_]) dX10_dearest_17 mv_X10_410 (by first | rfl | exact gC0 (by assumption) | exact gL0 (by assumption)) rfl rfl rfl (Nat.le_of_ble_eq_true rfl) (ct_soldBy0 G _ _ (by exact g95_1) _) ?_
  refine Rn.aload_n dX10_dearest_20 rfl rfl ?_
  refine Rn.iload_n dX10_dearest_21 rfl rfl ?_
  refine Rn.callVp (As := [_]) dX10_dearest_22 mv_X10_410 (by first | rfl | exact gC0 (by assumption) | exact gL0 (by assumption)) rfl rfl rfl (Nat.le_of_ble_eq_true rfl) (ct_soldBy0 G _ _ (by exact g95_1) _) ?_
  refine Rn.icmp_le (tgt := 32) dX10_dearest_25 (by decide) (fun _ => ?_) (fun h9 => absurd h9 (by decide))
  refine Rn.iload_n dX10_dearest_32 rfl rfl ?_
  refine Rn.istore_n dX10_dearest_33 rfl (by decide) ?_
  refine Rn.iincN dX10_dearest_34 rfl (by decide) ?_
  refine Rn.goto 9 dX10_dearest_37 (by decide) ?_
  refine Rn.iload_n dX10_dearest_9 rfl rfl ?_
  refine Rn.bipush (v := (nI 50)) dX10_dearest_10 rfl ?_
  refine Rn.icmp_gt (tgt := 40) dX10_dearest_12 (by decide) (fun h9 => absurd h9 (by decide)) (fun _ => ?_)
  refine Rn.aload_n dX10_dearest_15 rfl rfl ?_
  refine Rn.iload_n dX10_dearest_16 rfl rfl ?_
  refine Rn.callVp (As := [_]) dX10_dearest_17 mv_X10_410 (by first | rfl | exact gC0 (by assumption) | exact gL0 (by assumption)) rfl rfl rfl (Nat.le_of_ble_eq_true rfl) (ct_soldBy0 G _ _ (by exact g95_1) _) ?_
  refine Rn.aload_n dX10_dearest_20 rfl rfl ?_
  refine Rn.iload_n dX10_dearest_21 rfl rfl ?_
  refine Rn.callVp (As := [_]) dX10_dearest_22 mv_X10_410 (by first | rfl | exact gC0 (by assumption) | exact gL0 (by assumption)) rfl rfl rfl (Nat.le_of_ble_eq_true rfl) (ct_soldBy0 G _ _ (by exact g95_1) _) ?_
  refine Rn.icmp_le (tgt := 32) dX10_dearest_25 (by decide) (fun _ => ?_) (fun h9 => absurd h9 (by decide))
  refine Rn.iload_n dX10_dearest_32 rfl rfl ?_
  refine Rn.istore_n dX10_dearest_33 rfl (by decide) ?_
  refine Rn.iincN dX10_dearest_34 rfl (by decide) ?_
  refine Rn.goto 9 dX10_dearest_37 (by decide) ?_
  refine Rn.iload_n dX10_dearest_9 rfl rfl ?_
  refine Rn.bipush (v := (nI 50)) dX10_dearest_10 rfl ?_
  refine Rn.icmp_gt (tgt := 40) dX10_dearest_12 (by decide) (fun h9 => absurd h9 (by decide)) (fun _ => ?_)
  refine Rn.aload_n dX10_dearest_15 rfl rfl ?_
  refine Rn.iload_n dX10_dearest_16 rfl rfl ?_
  refine Rn.callVp (As := [_]) dX10_dearest_17 mv_X10_410 (by first | rfl | exact gC0 (by assumption) | exact gL0 (by assumption)) rfl rfl rfl (Nat.le_of_ble_eq_true rfl) (ct_soldBy0 G _ _ (by exact g95_1) _) ?_
  refine Rn.aload_n dX10_dearest_20 rfl rfl ?_
  refine Rn.iload_n dX10_dearest_21 rfl rfl ?_
  refine Rn.callVp (As := [_]) dX10_dearest_22 mv_X10_410 (by first | rfl | exact gC0 (by assumption) | exact gL0 (by assumption)) rfl rfl rfl (Nat.le_of_ble_eq_true rfl) (ct_soldBy0 G _ _ (by exact g95_1) _) ?_
  refine Rn.icmp_le (tgt := 32) dX10_dearest_25 (by decide) (fun _ => ?_) (fun h9 => absurd h9 (by decide))
  refine Rn.iload_n dX10_dearest_32 rfl rfl ?_
  refine Rn.istore_n dX10_dearest_33 rfl (by decide) ?_
  refine Rn.iincN dX10_dearest_34 rfl (by decide) ?_
  refine Rn.goto 9 dX10_dearest_37 (by decide) ?_
  refine Rn.iload_n dX10_dearest_9 rfl rfl ?_
  refine Rn.bipush (v := (nI 50)) dX10_dearest_10 rfl ?_
  refine Rn.icmp_gt (tgt := 40) dX10_dearest_12 (by decide) (fun h9 => absurd h9 (by decide)) (fun _ => ?_)
  refine Rn.aload_n dX10_dearest_15 rfl rfl ?_
  refine Rn.iload_n dX10_dearest_16 rfl rfl ?_
  refine Rn.callVp (As := [_]) dX10_dearest_17 mv_X10_410 (by first | rfl | exact gC0 (by assumption) | exact gL0 (by assumption)) rfl rfl rfl (Nat.le_of_ble_eq_true rfl) (ct_soldBy0 G _ _ (by exact g95_1) _) ?_
  refine Rn.aload_n dX10_dearest_20 rfl rfl ?_
  refine Rn.iload_n dX10_dearest_21 rfl rfl ?_
  refine Rn.callVp (As := [_]) dX10_dearest_22 mv_X10_410 (by first | rfl | exact gC0 (by assumption) | exact gL0 (by assumption)) rfl rfl rfl (Nat.le_of_ble_eq_true rfl) (ct_soldBy0 G _ _ (by exact g95_1) _) ?_
  refine Rn.icmp_le (tgt := 32) dX10_dearest_25 (by decide) (fun _ => ?_) (fun h9 => absurd h9 (by decide))
  refine Rn.iload_n dX10_dearest_32 rfl rfl ?_
  refine Rn.istore_n dX10_dearest_33 rfl (by decide) ?_
  refine Rn.iincN dX10_dearest_34 rfl (by decide) ?_
  refine Rn.goto 9 dX10_dearest_37 (by decide) ?_
  refine Rn.iload_n dX10_dearest_9 rfl rfl ?_
  refine Rn.bipush (v := (nI 50)) dX10_dearest_10 rfl ?_
  refine Rn.icmp_gt (tgt := 40) dX10_dearest_12 (by decide) (fun h9 => absurd h9 (by decide)) (fun _ => ?_)
  refine Rn.aload_n dX10_dearest_15 rfl rfl ?_
  refine Rn.iload_n dX10_dearest_16 rfl rfl ?_
  refine Rn.callVp (As := [_]) dX10_dearest_17 mv_X10_410 (by first | rfl | exact gC0 (by assumption) | exact gL0 (by assumption)) rfl rfl rfl (Nat.le_of_ble_eq_true rfl) (ct_soldBy0 G _ _ (by exact g95_1) _) ?_
  refine Rn.aload_n dX10_dearest_20 rfl rfl ?_
  refine Rn.iload_n dX10_dearest_21 rfl rfl ?_
  refine Rn.callVp (As := [_]) dX10_dearest_22 mv_X10_410 (by first | rfl | exact gC0 (by assumption) | exact gL0 (by assumption)) rfl rfl rfl (Nat.le_of_ble_eq_true rfl) (ct_soldBy0 G _ _ (by exact g95_1) _) ?_
  refine Rn.icmp_le (tgt := 32) dX10_dearest_25 (by decide) (fun _ => ?_) (fun h9 => absurd h9 (by decide))
  refine Rn.iload_n dX10_dearest_32 rfl rfl ?_
  refine Rn.istore_n dX10_dearest_33 rfl (by decide) ?_
  refine Rn.iincN dX10_dearest_34 rfl (by decide) ?_
  refine Rn.goto 9 dX10_dearest_37 (by decide) ?_
  refine Rn.iload_n dX10_dearest_9 rfl rfl ?_
  refine Rn.bipush (v := (nI 50)) dX10_dearest_10 rfl ?_
  refine Rn.icmp_gt (tgt := 40) dX10_dearest_12 (by decide) (fun h9 => absurd h9 (by decide)) (fun _ => ?_)
  refine Rn.aload_n dX10_dearest_15 rfl rfl ?_
  refine Rn.iload_n dX10_dearest_16 rfl rfl ?_
  refine Rn.callVp (As := [_]) dX10_dearest_17 mv_X10_410 (by first | rfl | exact gC0 (by assumption) | exact gL0 (by assumption)) rfl rfl rfl (Nat.le_of_ble_eq_true rfl) (ct_soldBy0 G _ _ (by exact g95_1) _) ?_
  refine Rn.aload_n dX10_dearest_20 rfl rfl ?_
  refine Rn.iload_n dX10_dearest_21 rfl rfl ?_
  refine Rn.callVp (As := [_]) dX10_dearest_22 mv_X10_410 (by first | rfl | exact gC0 (by assumption) | exact gL0 (by assumption)) rfl rfl rfl (Nat.le_of_ble_eq_true rfl) (ct_soldBy0 G _ _ (by exact g95_1) _) ?_
  refine Rn.icmp_le (tgt := 32) dX10_dearest_25 (by decide) (fun _ => ?_) (fun h9 => absurd h9 (by decide))
  refine Rn.iload_n dX10_dearest_32 rfl rfl ?_
  refine Rn.istore_n dX10_dearest_33 rfl (by decide) ?_
  refine Rn.iincN dX10_dearest_34 rfl (by decide) ?_
  refine Rn.goto 9 dX10_dearest_37 (by decide) ?_
  refine Rn.iload_n dX10_dearest_9 rfl rfl ?_
  refine Rn.bipush (v := (nI 50)) dX10_dearest_10 rfl ?_
  refine Rn.icmp_gt (tgt := 40) dX10_dearest_12 (by decide) (fun h9 => absurd h9 (by decide)) (fun _ => ?_)
  refine Rn.aload_n dX10_dearest_15 rfl rfl ?_
  refine Rn.iload_n dX10_dearest_16 rfl rfl ?_
  refine Rn.callVp (As := [_]) dX10_dearest_17 mv_X10_410 (by first | rfl | exact gC0 (by assumption) | exact gL0 (by assumption)) rfl rfl rfl (Nat.le_of_ble_eq_true rfl) (ct_soldBy0 G _ _ (by exact g95_1) _) ?_
  refine Rn.aload_n dX10_dearest_20 rfl rfl ?_
  refine Rn.iload_n dX10_dearest_21 rfl rfl ?_
  refine Rn.callVp (As := [_]) dX10_dearest_22 mv_X10_410 (by first | rfl | exact gC0 (by assumption) | exact gL0 (by assumption)) rfl rfl rfl (Nat.le_of_ble_eq_true rfl) (ct_soldBy0 G _ _ (by exact g95_1) _) ?_
  refine Rn.icmp_le (tgt := 32) dX10_dearest_25 (by decide) (fun _ => ?_) (fun h9 => absurd h9 (by decide))
  refine Rn.iload_n dX10_dearest_32 rfl rfl ?_
  refine Rn.istore_n dX10_dearest_33 rfl (by decide) ?_
  refine Rn.iincN dX10_dearest_34 rfl (by decide) ?_
  refine Rn.goto 9 dX10_dearest_37 (by decide) ?_
  refine Rn.iload_n dX10_dearest_9 rfl rfl ?_
  refine Rn.bipush (v := (nI 50)) dX10_dearest_10 rfl ?_
  refine Rn.icmp_gt (tgt := 40) dX10_dearest_12 (by decide) (fun h9 => absurd h9 (by decide)) (fun _ => ?_)
  refine Rn.aload_n dX10_dearest_15 rfl rfl ?_
  refine Rn.iload_n dX10_dearest_16 rfl rfl ?_
  refine Rn.callVp (As := [_]) dX10_dearest_17 mv_X10_410 (by first | rfl | exact gC0 (by assumption) | exact gL0 (by assumption)) rfl rfl rfl (Nat.le_of_ble_eq_true rfl) (ct_soldBy0 G _ _ (by exact g95_1) _) ?_
  refine Rn.aload_n dX10_dearest_20 rfl rfl ?_
  refine Rn.iload_n dX10_dearest_21 rfl rfl ?_
  refine Rn.callVp (As := [_]) dX10_dearest_22 mv_X10_410 (by first | rfl | exact gC0 (by assumption) | exact gL0 (by assumption)) rfl rfl rfl (Nat.le_of_ble_eq_true rfl) (ct_soldBy0 G _ _ (by exact g95_1) _) ?_
  refine Rn.icmp_le (tgt := 32) dX10_dearest_25 (by decide) (fun _ => ?_) (fun h9 => absurd h9 (by decide))
  refine Rn.iload_n dX10_dearest_32 rfl rfl ?_
  refine Rn.istore_n dX10_dearest_33 rfl (by decide) ?_
  refine Rn.iincN dX10_dearest_34 rfl (by decide) ?_
  refine Rn.goto 9 dX10_dearest_37 (by decide) ?_
  refine Rn.iload_n dX10_dearest_9 rfl rfl ?_
  refine Rn.bipush (v := (nI 50)) dX10_dearest_10 rfl ?_
  refine Rn.icmp_gt (tgt := 40) dX10_dearest_12 (by decide) (fun h9 => absurd h9 (by decide)) (fun _ => ?_)
  refine Rn.aload_n dX10_dearest_15 rfl rfl ?_
  refine Rn.iload_n dX10_dearest_16 rfl rfl ?_
  refine Rn.callVp (As := [_]) dX10_dearest_17 mv_X10_410 (by first | rfl | exact gC0 (by assumption) | exact gL0 (by assumption)) rfl rfl rfl (Nat.le_of_ble_eq_true rfl) (ct_soldBy0 G _ _ (by exact g95_1) _) ?_
  refine Rn.aload_n dX10_dearest_20 rfl rfl ?_
  refine Rn.iload_n dX10_dearest_21 rfl rfl ?_
  refine Rn.callVp (As := [_]) dX10_dearest_22 mv_X10_410 (by first | rfl | exact gC0 (by assumption) | exact gL0 (by assumption)) rfl rfl rfl (Nat.le_of_ble_eq_true rfl) (ct_soldBy0 G _ _ (by exact g95_1) _) ?_
  refine Rn.icmp_le (tgt := 32) dX10_dearest_25 (by decide) (fun _ => ?_) (fun h9 => absurd h9 (by decide))
  refine Rn.iload_n dX10_dearest_32 rfl rfl ?_
  refine Rn.istore_n dX10_dearest_33 rfl (by decide) ?_
  refine Rn.iincN dX10_dearest_34 rfl (by decide) ?_
  refine Rn.goto 9 dX10_dearest_37 (by decide) ?_
  refine Rn.iload_n dX10_dearest_9 rfl rfl ?_
  refine Rn.bipush (v := (nI 50)) dX10_dearest_10 rfl ?_
  refine Rn.icmp_gt (tgt := 40) dX10_dearest_12 (by decide) (fun h9 => absurd h9 (by decide)) (fun _ => ?_)
  refine Rn.aload_n dX10_dearest_15 rfl rfl ?_
  refine Rn.iload_n dX10_dearest_16 rfl rfl ?_
  refine Rn.callVp (As := [_]) dX10_dearest_17 mv_X10_410 (by first | rfl | exact gC0 (by assumption) | exact gL0 (by assumption)) rfl rfl rfl (Nat.le_of_ble_eq_true rfl) (ct_soldBy0 G _ _ (by exact g95_1) _) ?_
  refine Rn.aload_n dX10_dearest_20 rfl rfl ?_
  refine Rn.iload_n dX10_dearest_21 rfl rfl ?_
  refine Rn.callVp (As := [_]) dX10_dearest_22 mv_X10_410 (by first | rfl | exact gC0 (by assumption) | exact gL0 (by assumption)) rfl rfl rfl (Nat.le_of_ble_eq_true rfl) (ct_soldBy0 G _ _ (by exact g95_1) _) ?_
  refine Rn.icmp_le (tgt := 32) dX10_dearest_25 (by decide) (fun _ => ?_) (fun h9 => absurd h9 (by decide))
  refine Rn.iload_n dX10_dearest_32 rfl rfl ?_
  refine Rn.istore_n dX10_dearest_33 rfl (by decide) ?_
  refine Rn.iincN dX10_dearest_34 rfl (by decide) ?_
  refine Rn.goto 9 dX10_dearest_37 (by decide) ?_
  refine Rn.iload_n dX10_dearest_9 rfl rfl ?_
  refine Rn.bipush (v := (nI 50)) dX10_dearest_10 rfl ?_
  refine Rn.icmp_gt (tgt := 40) dX10_dearest_12 (by decide) (fun h9 => absurd h9 (by decide)) (fun _ => ?_)
  refine Rn.aload_n dX10_dearest_15 rfl rfl ?_
  refine Rn.iload_n dX10_dearest_16 rfl rfl ?_
  refine Rn.callVp (As := [_]) dX10_dearest_17 mv_X10_410 (by first | rfl | exact gC0 (by assumption) | exact gL0 (by assumption)) rfl rfl rfl (Nat.le_of_ble_eq_true rfl) (ct_soldBy0 G _ _ (by exact g95_1) _) ?_
  refine Rn.aload_n dX10_dearest_20 rfl rfl ?_
  refine Rn.iload_n dX10_dearest_21 rfl rfl ?_
  refine Rn.callVp (As := [_]) dX10_dearest_22 mv_X10_410 (by first | rfl | exact gC0 (by assumption) | exact gL0 (by assumption)) rfl rfl rfl (Nat.le_of_ble_eq_true rfl) (ct_soldBy0 G _ _ (by exact g95_1) _) ?_
  refine Rn.icmp_le (tgt := 32) dX10_dearest_25 (by decide) (fun _ => ?_) (fun h9 => absurd h9 (by decide))
  refine Rn.iload_n dX10_dearest_32 rfl rfl ?_
  refine Rn.istore_n dX10_dearest_33 rfl (by decide) ?_
  refine Rn.iincN dX10_dearest_34 rfl (by decide) ?_
  refine Rn.goto 9 dX10_dearest_37 (by decide) ?_
  refine Rn.iload_n dX10_dearest_9 rfl rfl ?_
  refine Rn.bipush (v := (nI 50)) dX10_dearest_10 rfl ?_
  refine Rn.icmp_gt (tgt := 40) dX10_dearest_12 (by decide) (fun h9 => absurd h9 (by decide)) (fun _ => ?_)
  refine Rn.aload_n dX10_dearest_15 rfl rfl ?_
  refine Rn.iload_n dX10_dearest_16 rfl rfl ?_
  refine Rn.callVp (As := [_]) dX10_dearest_17 mv_X10_410 (by first | rfl | exact gC0 (by assumption) | exact gL0 (by assumption)) rfl rfl rfl (Nat.le_of_ble_eq_true rfl) (ct_soldBy0 G _ _ (by exact g95_1) _) ?_
  refine Rn.aload_n dX10_dearest_20 rfl rfl ?_
  refine Rn.iload_n dX10_dearest_21 rfl rfl ?_
  refine Rn.callVp (As := [_]) dX10_dearest_22 mv_X10_410 (by first | rfl | exact gC0 (by assumption) | exact gL0 (by assumption)) rfl rfl rfl (Nat.le_of_ble_eq_true rfl) (ct_soldBy0 G _ _ (by exact g95_1) _) ?_
  refine Rn.icmp_le (tgt := 32) dX10_dearest_25 (by decide) (fun _ => ?_) (fun h9 => absurd h9 (by decide))
  refine Rn.iload_n dX10_dearest_32 rfl rfl ?_
  refine Rn.istore_n dX10_dearest_33 rfl (by decide) ?_
  refine Rn.iincN dX10_dearest_34 rfl (by decide) ?_
  refine Rn.goto 9 dX10_dearest_37 (by decide) ?_
  refine Rn.iload_n dX10_dearest_9 rfl rfl ?_
  refine Rn.bipush (v := (nI 50)) dX10_dearest_10 rfl ?_
  refine Rn.icmp_gt (tgt := 40) dX10_dearest_12 (by decide) (fun h9 => absurd h9 (by decide)) (fun _ => ?_)
  refine Rn.aload_n dX10_dearest_15 rfl rfl ?_
  refine Rn.iload_n dX10_dearest_16 rfl rfl ?_
  refine Rn.callVp (As := [_]) dX10_dearest_17 mv_X10_410 (by first | rfl | exact gC0 (by assumption) | exact gL0 (by assumption)) rfl rfl rfl (Nat.le_of_ble_eq_true rfl) (ct_soldBy0 G _ _ (by exact g95_1) _) ?_
  refine Rn.aload_n dX10_dearest_20 rfl rfl ?_
  refine Rn.iload_n dX10_dearest_21 rfl rfl ?_
  refine Rn.callVp (As := [_]) dX10_dearest_22 mv_X10_410 (by first | rfl | exact gC0 (by assumption) | exact gL0 (by assumption)) rfl rfl rfl (Nat.le_of_ble_eq_true rfl) (ct_soldBy0 G _ _ (by exact g95_1) _) ?_
  refine Rn.icmp_le (tgt := 32) dX10_dearest_25 (by decide) (fun _ => ?_) (fun h9 => absurd h9 (by decide))
  refine Rn.iload_n dX10_dearest_32 rfl rfl ?_
  refine Rn.istore_n dX10_dearest_33 rfl (by decide) ?_
  refine Rn.iincN dX10_dearest_34 rfl (by decide) ?_
  refine Rn.goto 9 dX10_dearest_37 (by decide) ?_
  refine Rn.iload_n dX10_dearest_9 rfl rfl ?_
  refine Rn.bipush (v := (nI 50)) dX10_dearest_10 rfl ?_
  refine Rn.icmp_gt (tgt := 40) dX10_dearest_12 (by decide) (fun h9 => absurd h9 (by decide)) (fun _ => ?_)
  refine Rn.aload_n dX10_dearest_15 rfl rfl ?_
  refine Rn.iload_n dX10_dearest_16 rfl rfl ?_
  refine Rn.callVp (As := [_]) dX10_dearest_17 mv_X10_410 (by first | rfl | exact gC0 (by assumption) | exact gL0 (by assumption)) rfl rfl rfl (Nat.le_of_ble_eq_true rfl) (ct_soldBy0 G _ _ (by exact g95_1) _) ?_
  refine Rn.aload_n dX10_dearest_20 rfl rfl ?_
  refine Rn.iload_n dX10_dearest_21 rfl rfl ?_
  refine Rn.callVp (As := [_]) dX10_dearest_22 mv_X10_410 (by first | rfl | exact gC0 (by assumption) | exact gL0 (by assumption)) rfl rfl rfl (Nat.le_of_ble_eq_true rfl) (ct_soldBy0 G _ _ (by exact g95_1) _) ?_
  refine Rn.icmp_le (tgt := 32) dX10_dearest_25 (by decide) (fun _ => ?_) (fun h9 => absurd h9 (by decide))
  refine Rn.iload_n dX10_dearest_32 rfl rfl ?_
  refine Rn.istore_n dX10_dearest_33 rfl (by decide) ?_
  refine Rn.iincN dX10_dearest_34 rfl (by decide) ?_
  refine Rn.goto 9 dX10_dearest_37 (by decide) ?_
  refine Rn.iload_n dX10_dearest_9 rfl rfl ?_
  refine Rn.bipush (v := (nI 50)) dX10_dearest_10 rfl ?_
  refine Rn.icmp_gt (tgt := 40) dX10_dearest_12 (by decide) (fun h9 => absurd h9 (by decide)) (fun _ => ?_)
  refine Rn.aload_n dX10_dearest_15 rfl rfl ?_
  refine Rn.iload_n dX10_dearest_16 rfl rfl ?_
  refine Rn.callVp (As := [_]) dX10_dearest_17 mv_X10_410 (by first | rfl | exact gC0 (by assumption) | exact gL0 (by assumption)) rfl rfl rfl (Nat.le_of_ble_eq_true rfl) (ct_soldBy0 G _ _ (by exact g95_1) _) ?_
  refine Rn.aload_n dX10_dearest_20 rfl rfl ?_
  refine Rn.iload_n dX10_dearest_21 rfl rfl ?_
  refine Rn.callVp (As := [_]) dX10_dearest_22 mv_X10_410 (by first | rfl | exact gC0 (by assumption) | exact gL0 (by assumption)) rfl rfl rfl (Nat.le_of_ble_eq_true rfl) (ct_soldBy0 G _ _ (by exact g95_1) _) ?_
  refine Rn.icmp_le (tgt := 32) dX10_dearest_25 (by decide) (fun _ => ?_) (fun h9 => absurd h9 (by decide))
  refine Rn.iload_n dX10_dearest_32 rfl rfl ?_
  refine Rn.istore_n dX10_dearest_33 rfl (by decide) ?_
  refine Rn.iincN dX10_dearest_34 rfl (by decide) ?_
  refine Rn.goto 9 dX10_dearest_37 (by decide) ?_
  refine Rn.iload_n dX10_dearest_9 rfl rfl ?_
  refine Rn.bipush (v := (nI 50)) dX10_dearest_10 rfl ?_
  refine Rn.icmp_gt (tgt := 40) dX10_dearest_12 (by decide) (fun h9 => absurd h9 (by decide)) (fun _ => ?_)
  refine Rn.aload_n dX10_dearest_15 rfl rfl ?_
  refine Rn.iload_n dX10_dearest_16 rfl rfl ?_
  refine Rn.callVp (As := [_]) dX10_dearest_17 mv_X10_410 (by first | rfl | exact gC0 (by assumption) | exact gL0 (by assumption)) rfl rfl rfl (Nat.le_of_ble_eq_true rfl) (ct_soldBy0 G _ _ (by exact g95_1) _) ?_
  refine Rn.aload_n dX10_dearest_20 rfl rfl ?_
  refine Rn.iload_n dX10_dearest_21 rfl rfl ?_
  refine Rn.callVp (As := [_]) dX10_dearest_22 mv_X10_410 (by first | rfl | exact gC0 (by assumption) | exact gL0 (by assumption)) rfl rfl rfl (Nat.le_of_ble_eq_true rfl) (ct_soldBy0 G _ _ (by exact g95_1) _) ?_
  refine Rn.icmp_le (tgt := 32) dX10_dearest_25 (by decide) (fun _ => ?_) (fun h9 => absurd h9 (by decide))
  refine Rn.iload_n dX10_dearest_32 rfl rfl ?_
  refine Rn.istore_n dX10_dearest_33 rfl (by decide) ?_
  refine Rn.iincN dX10_dearest_34 rfl (by decide) ?_
  refine Rn.goto 9 dX10_dearest_37 (by decide) ?_
  refine Rn.iload_n dX10_dearest_9 rfl rfl ?_
  refine Rn.bipush (v := (nI 50)) dX10_dearest_10 rfl ?_
  refine Rn.icmp_gt (tgt := 40) dX10_dearest_12 (by decide) (fun h9 => absurd h9 (by decide)) (fun _ => ?_)
  refine Rn.aload_n dX10_dearest_15 rfl rfl ?_
  refine Rn.iload_n dX10_dearest_16 rfl rfl ?_
  refine Rn.callVp (As := [_]) dX10_dearest_17 mv_X10_410 (by first | rfl | exact gC0 (by assumption) | exact gL0 (by assumption)) rfl rfl rfl (Nat.le_of_ble_eq_true rfl) (ct_soldBy0 G _ _ (by exact g95_1) _) ?_
  refine Rn.aload_n dX10_dearest_20 rfl rfl ?_
  refine Rn.iload_n dX10_dearest_21 rfl rfl ?_
  refine Rn.callVp (As := [_]) dX10_dearest_22 mv_X10_410 (by first | rfl | exact gC0 (by assumption) | exact gL0 (by assumption)) rfl rfl rfl (Nat.le_of_ble_eq_true rfl) (ct_soldBy0 G _ _ (by exact g95_1) _) ?_
  refine Rn.icmp_le (tgt := 32) dX10_dearest_25 (by decide) (fun _ => ?_) (fun h9 => absurd h9 (by decide))
  refine Rn.iload_n dX10_dearest_32 rfl rfl ?_
  refine Rn.istore_n dX10_dearest_33 rfl (by decide) ?_
  refine Rn.iincN dX10_dearest_34 rfl (by decide) ?_
  refine Rn.goto 9 dX10_dearest_37 (by decide) ?_
  refine Rn.iload_n dX10_dearest_9 rfl rfl ?_
  refine Rn.bipush (v := (nI 50)) dX10_dearest_10 rfl ?_
  refine Rn.icmp_gt (tgt := 40) dX10_dearest_12 (by decide) (fun h9 => absurd h9 (by decide)) (fun _ => ?_)
  refine Rn.aload_n dX10_dearest_15 rfl rfl ?_
  refine Rn.iload_n dX10_dearest_16 rfl rfl ?_
  refine Rn.callVp (As := [_]) dX10_dearest_17 mv_X10_410 (by first | rfl | exact gC0 (by assumption) | exact gL0 (by assumption)) rfl rfl rfl (Nat.le_of_ble_eq_true rfl) (ct_soldBy0 G _ _ (by exact g95_1) _) ?_
  refine Rn.aload_n dX10_dearest_20 rfl rfl ?_
  refine Rn.iload_n dX10_dearest_21 rfl rfl ?_
  refine Rn.callVp (As := [_]) dX10_dearest_22 mv_X10_410 (by first | rfl | exact gC0 (by assumption) | exact gL0 (by assumption)) rfl rfl rfl (Nat.le_of_ble_eq_true rfl) (ct_soldBy0 G _ _ (by exact g95_1) _) ?_
  refine Rn.icmp_le (tgt := 32) dX10_dearest_25 (by decide) (fun _ => ?_) (fun h9 => absurd h9 (by decide))
  refine Rn.iload_n dX10_dearest_32 rfl rfl ?_
  refine Rn.istore_n dX10_dearest_33 rfl (by decide) ?_
  refine Rn.iincN dX10_dearest_34 rfl (by decide) ?_
  refine Rn.goto 9 dX10_dearest_37 (by decide) ?_
  refine Rn.iload_n dX10_dearest_9 rfl rfl ?_
  refine Rn.bipush (v := (nI 50)) dX10_dearest_10 rfl ?_
  refine Rn.icmp_gt (tgt := 40) dX10_dearest_12 (by decide) (fun h9 => absurd h9 (by decide)) (fun _ => ?_)
  refine Rn.aload_n dX10_dearest_15 rfl rfl ?_
  refine Rn.iload_n dX10_dearest_16 rfl rfl ?_
  refine Rn.callVp (As := [_]) dX10_dearest_17 mv_X10_410 (by first | rfl | exact gC0 (by assumption) | exact gL0 (by assumption)) rfl rfl rfl (Nat.le_of_ble_eq_true rfl) (ct_soldBy0 G _ _ (by exact g95_1) _) ?_
  refine Rn.aload_n dX10_dearest_20 rfl rfl ?_
  refine Rn.iload_n dX10_dearest_21 rfl rfl ?_
  refine Rn.callVp (As := [_]) dX10_dearest_22 mv_X10_410 (by first | rfl | exact gC0 (by assumption) | exact gL0 (by assumption)) rfl rfl rfl (Nat.le_of_ble_eq_true rfl) (ct_soldBy0 G _ _ (by exact g95_1) _) ?_
  refine Rn.icmp_le (tgt := 32) dX10_dearest_25 (by decide) (fun _ => ?_) (fun h9 => absurd h9 (by decide))
  refine Rn.iload_n dX10_dearest_32 rfl rfl ?_
  refine Rn.istore_n dX10_dearest_33 rfl (by decide) ?_
  refine Rn.iincN dX10_dearest_34 rfl (by decide) ?_
  refine Rn.goto 9 dX10_dearest_37 (by decide) ?_
  refine Rn.iload_n dX10_dearest_9 rfl rfl ?_
  refine Rn.bipush (v := (nI 50)) dX10_dearest_10 rfl ?_
  refine Rn.icmp_gt (tgt := 40) dX10_dearest_12 (by decide) (fun h9 => absurd h9 (by decide)) (fun _ => ?_)
  refine Rn.aload_n dX10_dearest_15 rfl rfl ?_
  refine Rn.iload_n dX10_dearest_16 rfl rfl ?_
  refine Rn.callVp (As := [_]) dX10_dearest_17 mv_X10_410 (by first | rfl | exact gC0 (by assumption) | exact gL0 (by assumption)) rfl rfl rfl (Nat.le_of_ble_eq_true rfl) (ct_soldBy0 G _ _ (by exact g95_1) _) ?_
  refine Rn.aload_n dX10_dearest_20 rfl rfl ?_
  refine Rn.iload_n dX10_dearest_21 rfl rfl ?_
  refine Rn.callVp (As := [_]) dX10_dearest_22 mv_X10_410 (by first | rfl | exact gC0 (by assumption) | exact gL0 (by assumption)) rfl rfl rfl (Nat.le_of_ble_eq_true rfl) (ct_soldBy0 G _ _ (by exact g95_1) _) ?_
  refine Rn.icmp_le (tgt := 32) dX10_dearest_25 (by decide) (fun _ => ?_) (fun h9 => absurd h9 (by decide))
  refine Rn.iload_n dX10_dearest_32 rfl rfl ?_
  refine Rn.istore_n dX10_dearest_33 rfl (by decide) ?_
  refine Rn.iincN dX10_dearest_34 rfl (by decide) ?_
  refine Rn.goto 9 dX10_dearest_37 (by decide) ?_
  refine Rn.iload_n dX10_dearest_9 rfl rfl ?_
  refine Rn.bipush (v := (nI 50)) dX10_dearest_10 rfl ?_
  refine Rn.icmp_gt (tgt := 40) dX10_dearest_12 (by decide) (fun h9 => absurd h9 (by decide)) (fun _ => ?_)
  refine Rn.aload_n dX10_dearest_15 rfl rfl ?_
  refine Rn.iload_n dX10_dearest_16 rfl rfl ?_
  refine Rn.callVp (As := [_]) dX10_dearest_17 mv_X10_410 (by first | rfl | exact gC0 (by assumption) | exact gL0 (by assumption)) rfl rfl rfl (Nat.le_of_ble_eq_true rfl) (ct_soldBy0 G _ _ (by exact g95_1) _) ?_
  refine Rn.aload_n dX10_dearest_20 rfl rfl ?_
  refine Rn.iload_n dX10_dearest_21 rfl rfl ?_
  refine Rn.callVp (As := [_]) dX10_dearest_22 mv_X10_410 (by first | rfl | exact gC0 (by assumption) | exact gL0 (by assumption)) rfl rfl rfl (Nat.le_of_ble_eq_true rfl) (ct_soldBy0 G _ _ (by exact g95_1) _) ?_
  refine Rn.icmp_le (tgt := 32) dX10_dearest_25 (by decide) (fun _ => ?_) (fun h9 => absurd h9 (by decide))
  refine Rn.iload_n dX10_dearest_32 rfl rfl ?_
  refine Rn.istore_n dX10_dearest_33 rfl (by decide) ?_
  refine Rn.iincN dX10_dearest_34 rfl (by decide) ?_
  refine Rn.goto 9 dX10_dearest_37 (by decide) ?_
  refine Rn.iload_n dX10_dearest_9 rfl rfl ?_
  refine Rn.bipush (v := (nI 50)) dX10_dearest_10 rfl ?_
  refine Rn.icmp_gt (tgt := 40) dX10_dearest_12 (by decide) (fun h9 => absurd h9 (by decide)) (fun _ => ?_)
  refine Rn.aload_n dX10_dearest_15 rfl rfl ?_
  refine Rn.iload_n dX10_dearest_16 rfl rfl ?_
  refine Rn.callVp (As := [_]) dX10_dearest_17 mv_X10_410 (by first | rfl | exact gC0 (by assumption) | exact gL0 (by assumption)) rfl rfl rfl (Nat.le_of_ble_eq_true rfl) (ct_soldBy0 G _ _ (by exact g95_1) _) ?_
  refine Rn.aload_n dX10_dearest_20 rfl rfl ?_
  refine Rn.iload_n dX10_dearest_21 rfl rfl ?_
  refine Rn.callVp (As := [_]) dX10_dearest_22 mv_X10_410 (by first | rfl | exact gC0 (by assumption) | exact gL0 (by assumption)) rfl rfl rfl (Nat.le_of_ble_eq_true rfl) (ct_soldBy0 G _ _ (by exact g95_1) _) ?_
  refine Rn.icmp_le (tgt := 32) dX10_dearest_25 (by decide) (fun _ => ?_) (fun h9 => absurd h9 (by decide))
  refine Rn.iload_n dX10_dearest_32 rfl rfl ?_
  refine Rn.istore_n dX10_dearest_33 rfl (by decide) ?_
  refine Rn.iincN dX10_dearest_34 rfl (by decide) ?_
  refine Rn.goto 9 dX10_dearest_37 (by decide) ?_
  refine Rn.iload_n dX10_dearest_9 rfl rfl ?_
  refine Rn.bipush (v := (nI 50)) dX10_dearest_10 rfl ?_
  refine Rn.icmp_gt (tgt := 40) dX10_dearest_12 (by decide) (fun h9 => absurd h9 (by decide)) (fun _ => ?_)
  refine Rn.aload_n dX10_dearest_15 rfl rfl ?_
  refine Rn.iload_n dX10_dearest_16 rfl rfl ?_
  refine Rn.callVp (As := [_]) dX10_dearest_17 mv_X10_410 (by first | rfl | exact gC0 (by assumption) | exact gL0 (by assumption)) rfl rfl rfl (Nat.le_of_ble_eq_true rfl) (ct_soldBy0 G _ _ (by exact g95_1) _) ?_
  refine Rn.aload_n dX10_dearest_20 rfl rfl ?_
  refine Rn.iload_n dX10_dearest_21 rfl rfl ?_
  refine Rn.callVp (As := [_]) dX10_dearest_22 mv_X10_410 (by first | rfl | exact gC0 (by assumption) | exact gL0 (by assumption)) rfl rfl rfl (Nat.le_of_ble_eq_true rfl) (ct_soldBy0 G _ _ (by exact g95_1) _) ?_
  refine Rn.icmp_le (tgt := 32) dX10_dearest_25 (by decide) (fun _ => ?_) (fun h9 => absurd h9 (by decide))
  refine Rn.iload_n dX10_dearest_32 rfl rfl ?_
  refine Rn.istore_n dX10_dearest_33 rfl (by decide) ?_
  refine Rn.iincN dX10_dearest_34 rfl (by decide) ?_
  refine Rn.goto 9 dX10_dearest_37 (by decide) ?_
  refine Rn.iload_n dX10_dearest_9 rfl rfl ?_
  refine Rn.bipush (v := (nI 50)) dX10_dearest_10 rfl ?_
  refine Rn.icmp_gt (tgt := 40) dX10_dearest_12 (by decide) (fun h9 => absurd h9 (by decide)) (fun _ => ?_)
  refine Rn.aload_n dX10_dearest_15 rfl rfl ?_
  refine Rn.iload_n dX10_dearest_16 rfl rfl ?_
  refine Rn.callVp (As := [_]) dX10_dearest_17 mv_X10_410 (by first | rfl | exact gC0 (by assumption) | exact gL0 (by assumption)) rfl rfl rfl (Nat.le_of_ble_eq_true rfl) (ct_soldBy0 G _ _ (by exact g95_1) _) ?_
  refine Rn.aload_n dX10_dearest_20 rfl rfl ?_
  refine Rn.iload_n dX10_dearest_21 rfl rfl ?_
  refine Rn.callVp (As := [_]) dX10_dearest_22 mv_X10_410 (by first | rfl | exact gC0 (by assumption) | exact gL0 (by assumption)) rfl rfl rfl (Nat.le_of_ble_eq_true rfl) (ct_soldBy0 G _ _ (by exact g95_1) _) ?_
  refine Rn.icmp_le (tgt := 32) dX10_dearest_25 (by decide) (fun _ => ?_) (fun h9 => absurd h9 (by decide))
  refine Rn.iload_n dX10_dearest_32 rfl rfl ?_
  refine Rn.istore_n dX10_dearest_33 rfl (by decide) ?_
  refine Rn.iincN dX10_dearest_34 rfl (by decide) ?_
  refine Rn.goto 9 dX10_dearest_37 (by decide) ?_
  refine Rn.iload_n dX10_dearest_9 rfl rfl ?_
  refine Rn.bipush (v := (nI 50)) dX10_dearest_10 rfl ?_
  refine Rn.icmp_gt (tgt := 40) dX10_dearest_12 (by decide) (fun h9 => absurd h9 (by decide)) (fun _ => ?_)
  refine Rn.aload_n dX10_dearest_15 rfl rfl ?_
  refine Rn.iload_n dX10_dearest_16 rfl rfl ?_
  refine Rn.callVp (As := [_]) dX10_dearest_17 mv_X10_410 (by first | rfl | exact gC0 (by assumption) | exact gL0 (by assumption)) rfl rfl rfl (Nat.le_of_ble_eq_true rfl) (ct_soldBy0 G _ _ (by exact g95_1) _) ?_
  refine Rn.aload_n dX10_dearest_20 rfl rfl ?_
  refine Rn.iload_n dX10_dearest_21 rfl rfl ?_
  refine Rn.callVp (As := [_]) dX10_dearest_22 mv_X10_410 (by first | rfl | exact gC0 (by assumption) | exact gL0 (by assumption)) rfl rfl rfl (Nat.le_of_ble_eq_true rfl) (ct_soldBy0 G _ _ (by exact g95_1) _) ?_
  refine Rn.icmp_le (tgt := 32) dX10_dearest_25 (by decide) (fun _ => ?_) (fun h9 => absurd h9 (by decide))
  refine Rn.iload_n dX10_dearest_32 rfl rfl ?_
  refine Rn.istore_n dX10_dearest_33 rfl (by decide) ?_
  refine Rn.iincN dX10_dearest_34 rfl (by decide) ?_
  refine Rn.goto 9 dX10_dearest_37 (by decide) ?_
  refine Rn.iload_n dX10_dearest_9 rfl rfl ?_
  refine Rn.bipush (v := (nI 50)) dX10_dearest_10 rfl ?_
  refine Rn.icmp_gt (tgt := 40) dX10_dearest_12 (by decide) (fun h9 => absurd h9 (by decide)) (fun _ => ?_)
  refine Rn.aload_n dX10_dearest_15 rfl rfl ?_
  refine Rn.iload_n dX10_dearest_16 rfl rfl ?_
  refine Rn.callVp (As := [_]) dX10_dearest_17 mv_X10_410 (by first | rfl | exact gC0 (by assumption) | exact gL0 (by assumption)) rfl rfl rfl (Nat.le_of_ble_eq_true rfl) (ct_soldBy0 G _ _ (by exact g95_1) _) ?_
  refine Rn.aload_n dX10_dearest_20 rfl rfl ?_
  refine Rn.iload_n dX10_dearest_21 rfl rfl ?_
  refine Rn.callVp (As := [_]) dX10_dearest_22 mv_X10_410 (by first | rfl | exact gC0 (by assumption) | exact gL0 (by assumption)) rfl rfl rfl (Nat.le_of_ble_eq_true rfl) (ct_soldBy0 G _ _ (by exact g95_1) _) ?_
  refine Rn.icmp_le (tgt := 32) dX10_dearest_25 (by decide) (fun _ => ?_) (fun h9 => absurd h9 (by decide))
  refine Rn.iload_n dX10_dearest_32 rfl rfl ?_
  refine Rn.istore_n dX10_dearest_33 rfl (by decide) ?_
  refine Rn.iincN dX10_dearest_34 rfl (by decide) ?_
  refine Rn.goto 9 dX10_dearest_37 (by decide) ?_
  refine Rn.iload_n dX10_dearest_9 rfl rfl ?_
  refine Rn.bipush (v := (nI 50)) dX10_dearest_10 rfl ?_
  refine Rn.icmp_gt (tgt := 40) dX10_dearest_12 (by decide) (fun h9 => absurd h9 (by decide)) (fun _ => ?_)
  refine Rn.aload_n dX10_dearest_15 rfl rfl ?_
  refine Rn.iload_n dX10_dearest_16 rfl rfl ?_
  refine Rn.callVp (As := [_]) dX10_dearest_17 mv_X10_410 (by first | rfl | exact gC0 (by assumption) | exact gL0 (by assumption)) rfl rfl rfl (Nat.le_of_ble_eq_true rfl) (ct_soldBy0 G _ _ (by exact g95_1) _) ?_
  refine Rn.aload_n dX10_dearest_20 rfl rfl ?_
  refine Rn.iload_n dX10_dearest_21 rfl rfl ?_
  refine Rn.callVp (As := [_]) dX10_dearest_22 mv_X10_410 (by first | rfl | exact gC0 (by assumption) | exact gL0 (by assumption)) rfl rfl rfl (Nat.le_of_ble_eq_true rfl) (ct_soldBy0 G _ _ (by exact g95_1) _) ?_
  refine Rn.icmp_le (tgt := 32) dX10_dearest_25 (by decide) (fun _ => ?_) (fun h9 => absurd h9 (by decide))
  refine Rn.iload_n dX10_dearest_32 rfl rfl ?_
  refine Rn.istore_n dX10_dearest_33 rfl (by decide) ?_
  refine Rn.iincN dX10_dearest_34 rfl (by decide) ?_
  refine Rn.goto 9 dX10_dearest_37 (by decide) ?_
  refine Rn.iload_n dX10_dearest_9 rfl rfl ?_
  refine Rn.bipush (v := (nI 50)) dX10_dearest_10 rfl ?_
  refine Rn.icmp_gt (tgt := 40) dX10_dearest_12 (by decide) (fun h9 => absurd h9 (by decide)) (fun _ => ?_)
  refine Rn.aload_n dX10_dearest_15 rfl rfl ?_
  refine Rn.iload_n dX10_dearest_16 rfl rfl ?_
  refine Rn.callVp (As := [_]) dX10_dearest_17 mv_X10_410 (by first | rfl | exact gC0 (by assumption) | exact gL0 (by assumption)) rfl rfl rfl (Nat.le_of_ble_eq_true rfl) (ct_soldBy0 G _ _ (by exact g95_1) _) ?_
  refine Rn.aload_n dX10_dearest_20 rfl rfl ?_
  refine Rn.iload_n dX10_dearest_21 rfl rfl ?_
  refine Rn.callVp (As := [_]) dX10_dearest_22 mv_X10_410 (by first | rfl | exact gC0 (by assumption) | exact gL0 (by assumption)) rfl rfl rfl (Nat.le_of_ble_eq_true rfl) (ct_soldBy0 G _ _ (by exact g95_1) _) ?_
  refine Rn.icmp_le (tgt := 32) dX10_dearest_25 (by decide) (fun _ => ?_) (fun h9 => absurd h9 (by decide))
  refine Rn.iload_n dX10_dearest_32 rfl rfl ?_
  refine Rn.istore_n dX10_dearest_33 rfl (by decide) ?_
  refine Rn.iincN dX10_dearest_34 rfl (by decide) ?_
  refine Rn.goto 9 dX10_dearest_37 (by decide) ?_
  refine Rn.iload_n dX10_dearest_9 rfl rfl ?_
  refine Rn.bipush (v := (nI 50)) dX10_dearest_10 rfl ?_
  refine Rn.icmp_gt (tgt := 40) dX10_dearest_12 (by decide) (fun h9 => absurd h9 (by decide)) (fun _ => ?_)
  refine Rn.aload_n dX10_dearest_15 rfl rfl ?_
  refine Rn.iload_n dX10_dearest_16 rfl rfl ?_
  refine Rn.callVp (As := [_]) dX10_dearest_17 mv_X10_410 (by first | rfl | exact gC0 (by assumption) | exact gL0 (by assumption)) rfl rfl rfl (Nat.le_of_ble_eq_true rfl) (ct_soldBy0 G _ _ (by exact g95_1) _) ?_
  refine Rn.aload_n dX10_dearest_20 rfl rfl ?_
  refine Rn.iload_n dX10_dearest_21 rfl rfl ?_
  refine Rn.callVp (As := [_]) dX10_dearest_22 mv_X10_410 (by first | rfl | exact gC0 (by assumption) | exact gL0 (by assumption)) rfl rfl rfl (Nat.le_of_ble_eq_true rfl) (ct_soldBy0 G _ _ (by exact g95_1) _) ?_
  refine Rn.icmp_le (tgt := 32) dX10_dearest_25 (by decide) (fun _ => ?_) (fun h9 => absurd h9 (by decide))
  refine Rn.iload_n dX10_dearest_32 rfl rfl ?_
  refine Rn.istore_n dX10_dearest_33 rfl (by decide) ?_
  refine Rn.iincN dX10_dearest_34 rfl (by decide) ?_
  refine Rn.goto 9 dX10_dearest_37 (by decide) ?_
  refine Rn.iload_n dX10_dearest_9 rfl rfl ?_
  refine Rn.bipush (v := (nI 50)) dX10_dearest_10 rfl ?_
  refine Rn.icmp_gt (tgt := 40) dX10_dearest_12 (by decide) (fun h9 => absurd h9 (by decide)) (fun _ => ?_)
  refine Rn.aload_n dX10_dearest_15 rfl rfl ?_
  refine Rn.iload_n dX10_dearest_16 rfl rfl ?_
  refine Rn.callVp (As := [_]) dX10_dearest_17 mv_X10_410 (by first | rfl | exact gC0 (by assumption) | exact gL0 (by assumption)) rfl rfl rfl (Nat.le_of_ble_eq_true rfl) (ct_soldBy0 G _ _ (by exact g95_1) _) ?_
  refine Rn.aload_n dX10_dearest_20 rfl rfl ?_
  refine Rn.iload_n dX10_dearest_21 rfl rfl ?_
  refine Rn.callVp (As := [_]) dX10_dearest_22 mv_X10_410 (by first | rfl | exact gC0 (by assumption) | exact gL0 (by assumption)) rfl rfl rfl (Nat.le_of_ble_eq_true rfl) (ct_soldBy0 G _ _ (by exact g95_1) _) ?_
  refine Rn.icmp_le (tgt := 32) dX10_dearest_25 (by decide) (fun _ => ?_) (fun h9 => absurd h9 (by decide))
  refine Rn.iload_n dX10_dearest_32 rfl rfl ?_
  refine Rn.istore_n dX10_dearest_33 rfl (by decide) ?_
  refine Rn.iincN dX10_dearest_34 rfl (by decide) ?_
  refine Rn.goto 9 dX10_dearest_37 (by decide) ?_
  refine Rn.iload_n dX10_dearest_9 rfl rfl ?_
  refine Rn.bipush (v := (nI 50)) dX10_dearest_10 rfl ?_
  refine Rn.icmp_gt (tgt := 40) dX10_dearest_12 (by decide) (fun h9 => absurd h9 (by decide)) (fun _ => ?_)
  refine Rn.aload_n dX10_dearest_15 rfl rfl ?_
  refine Rn.iload_n dX10_dearest_16 rfl rfl ?_
  refine Rn.callVp (As := [_]) dX10_dearest_17 mv_X10_410 (by first | rfl | exact gC0 (by assumption) | exact gL0 (by assumption)) rfl rfl rfl (Nat.le_of_ble_eq_true rfl) (ct_soldBy0 G _ _ (by exact g95_1) _) ?_
  refine Rn.aload_n dX10_dearest_20 rfl rfl ?_
  refine Rn.iload_n dX10_dearest_21 rfl rfl ?_
  refine Rn.callVp (As := [_]) dX10_dearest_22 mv_X10_410 (by first | rfl | exact gC0 (by assumption) | exact gL0 (by assumption)) rfl rfl rfl (Nat.le_of_ble_eq_true rfl) (ct_soldBy0 G _ _ (by exact g95_1) _) ?_
  refine Rn.icmp_le (tgt := 32) dX10_dearest_25 (by decide) (fun _ => ?_) (fun h9 => absurd h9 (by decide))
  refine Rn.iload_n dX10_dearest_32 rfl rfl ?_
  refine Rn.istore_n dX10_dearest_33 rfl (by decide) ?_
  refine Rn.iincN dX10_dearest_34 rfl (by decide) ?_
  refine Rn.goto 9 dX10_dearest_37 (by decide) ?_
  refine Rn.iload_n dX10_dearest_9 rfl rfl ?_
  refine Rn.bipush (v := (nI 50)) dX10_dearest_10 rfl ?_
  refine Rn.icmp_gt (tgt := 40) dX10_dearest_12 (by decide) (fun h9 => absurd h9 (by decide)) (fun _ => ?_)
  refine Rn.aload_n dX10_dearest_15 rfl rfl ?_
  refine Rn.iload_n dX10_dearest_16 rfl rfl ?_
  refine Rn.callVp (As := [_]) dX10_dearest_17 mv_X10_410 (by first | rfl | exact gC0 (by assumption) | exact gL0 (by assumption)) rfl rfl rfl (Nat.le_of_ble_eq_true rfl) (ct_soldBy0 G _ _ (by exact g95_1) _) ?_
  refine Rn.aload_n dX10_dearest_20 rfl rfl ?_
  refine Rn.iload_n dX10_dearest_21 rfl rfl ?_
  refine Rn.callVp (As := [_]) dX10_dearest_22 mv_X10_410 (by first | rfl | exact gC0 (by assumption) | exact gL0 (by assumption)) rfl rfl rfl (Nat.le_of_ble_eq_true rfl) (ct_soldBy0 G _ _ (by exact g95_1) _) ?_
  refine Rn.icmp_le (tgt := 32) dX10_dearest_25 (by decide) (fun _ => ?_) (fun h9 => absurd h9 (by decide))
  refine Rn.iload_n dX10_dearest_32 rfl rfl ?_
  refine Rn.istore_n dX10_dearest_33 rfl (by decide) ?_
  refine Rn.iincN dX10_dearest_34 rfl (by decide) ?_
  refine Rn.goto 9 dX10_dearest_37 (by decide) ?_
  refine Rn.iload_n dX10_dearest_9 rfl rfl ?_
  refine Rn.bipush (v := (nI 50)) dX10_dearest_10 rfl ?_
  refine Rn.icmp_gt (tgt := 40) dX10_dearest_12 (by decide) (fun h9 => absurd h9 (by decide)) (fun _ => ?_)
  refine Rn.aload_n dX10_dearest_15 rfl rfl ?_
  refine Rn.iload_n dX10_dearest_16 rfl rfl ?_
  refine Rn.callVp (As := [_]) dX10_dearest_17 mv_X10_410 (by first | rfl | exact gC0 (by assumption) | exact gL0 (by assumption)) rfl rfl rfl (Nat.le_of_ble_eq_true rfl) (ct_soldBy0 G _ _ (by exact g95_1) _) ?_
  refine Rn.aload_n dX10_dearest_20 rfl rfl ?_
  refine Rn.iload_n dX10_dearest_21 rfl rfl ?_
  refine Rn.callVp (As := [_]) dX10_dearest_22 mv_X10_410 (by first | rfl | exact gC0 (by assumption) | exact gL0 (by assumption)) rfl rfl rfl (Nat.le_of_ble_eq_true rfl) (ct_soldBy0 G _ _ (by exact g95_1) _) ?_
  refine Rn.icmp_le (tgt := 32) dX10_dearest_25 (by decide) (fun _ => ?_) (fun h9 => absurd h9 (by decide))
  refine Rn.iload_n dX10_dearest_32 rfl rfl ?_
  refine Rn.istore_n dX10_dearest_33 rfl (by decide) ?_
  refine Rn.iincN dX10_dearest_34 rfl (by decide) ?_
  refine Rn.goto 9 dX10_dearest_37 (by decide) ?_
  refine Rn.iload_n dX10_dearest_9 rfl rfl ?_
  refine Rn.bipush (v := (nI 50)) dX10_dearest_10 rfl ?_
  refine Rn.icmp_gt (tgt := 40) dX10_dearest_12 (by decide) (fun h9 => absurd h9 (by decide)) (fun _ => ?_)
  refine Rn.aload_n dX10_dearest_15 rfl rfl ?_
  refine Rn.iload_n dX10_dearest_16 rfl rfl ?_
  refine Rn.callVp (As := [_]) dX10_dearest_17 mv_X10_410 (by first | rfl | exact gC0 (by assumption) | exact gL0 (by assumption)) rfl rfl rfl (Nat.le_of_ble_eq_true rfl) (ct_soldBy0 G _ _ (by exact g95_1) _) ?_
  refine Rn.aload_n dX10_dearest_20 rfl rfl ?_
  refine Rn.iload_n dX10_dearest_21 rfl rfl ?_
  refine Rn.callVp (As := [_]) dX10_dearest_22 mv_X10_410 (by first | rfl | exact gC0 (by assumption) | exact gL0 (by assumption)) rfl rfl rfl (Nat.le_of_ble_eq_true rfl) (ct_soldBy0 G _ _ (by exact g95_1) _) ?_
  refine Rn.icmp_le (tgt := 32) dX10_dearest_25 (by decide) (fun _ => ?_) (fun h9 => absurd h9 (by decide))
  refine Rn.iload_n dX10_dearest_32 rfl rfl ?_
  refine Rn.istore_n dX10_dearest_33 rfl (by decide) ?_
  refine Rn.iincN dX10_dearest_34 rfl (by decide) ?_
  refine Rn.goto 9 dX10_dearest_37 (by decide) ?_
  refine Rn.iload_n dX10_dearest_9 rfl rfl ?_
  refine Rn.bipush (v := (nI 50)) dX10_dearest_10 rfl ?_
  refine Rn.icmp_gt (tgt := 40) dX10_dearest_12 (by decide) (fun h9 => absurd h9 (by decide)) (fun _ => ?_)
  refine Rn.aload_n dX10_dearest_15 rfl rfl ?_
  refine Rn.iload_n dX10_dearest_16 rfl rfl ?_
  refine Rn.callVp (As := [_]) dX10_dearest_17 mv_X10_410 (by first | rfl | exact gC0 (by assumption) | exact gL0 (by assumption)) rfl rfl rfl (Nat.le_of_ble_eq_true rfl) (ct_soldBy0 G _ _ (by exact g95_1) _) ?_
  refine Rn.aload_n dX10_dearest_20 rfl rfl ?_
  refine Rn.iload_n dX10_dearest_21 rfl rfl ?_
  refine Rn.callVp (As := [_]) dX10_dearest_22 mv_X10_410 (by first | rfl | exact gC0 (by assumption) | exact gL0 (by assumption)) rfl rfl rfl (Nat.le_of_ble_eq_true rfl) (ct_soldBy0 G _ _ (by exact g95_1) _) ?_
  refine Rn.icmp_le (tgt := 32) dX10_dearest_25 (by decide) (fun _ => ?_) (fun h9 => absurd h9 (by decide))
  refine Rn.iload_n dX10_dearest_32 rfl rfl ?_
  refine Rn.istore_n dX10_dearest_33 rfl (by decide) ?_
  refine Rn.iincN dX10_dearest_34 rfl (by decide) ?_
  refine Rn.goto 9 dX10_dearest_37 (by decide) ?_
  refine Rn.iload_n dX10_dearest_9 rfl rfl ?_
  refine Rn.bipush (v := (nI 50)) dX10_dearest_10 rfl ?_
  refine Rn.icmp_gt (tgt := 40) dX10_dearest_12 (by decide) (fun h9 => absurd h9 (by decide)) (fun _ => ?_)
  refine Rn.aload_n dX10_dearest_15 rfl rfl ?_
  refine Rn.iload_n dX10_dearest_16 rfl rfl ?_
  refine Rn.callVp (As := [_]) dX10_dearest_17 mv_X10_410 (by first | rfl | exact gC0 (by assumption) | exact gL0 (by assumption)) rfl rfl rfl (Nat.le_of_ble_eq_true rfl) (ct_soldBy0 G _ _ (by exact g95_1) _) ?_
  refine Rn.aload_n dX10_dearest_20 rfl rfl ?_
  refine Rn.iload_n dX10_dearest_21 rfl rfl ?_
  refine Rn.callVp (As := [_]) dX10_dearest_22 mv_X10_410 (by first | rfl | exact gC0 (by assumption) | exact gL0 (by assumption)) rfl rfl rfl (Nat.le_of_ble_eq_true rfl) (ct_soldBy0 G _ _ (by exact g95_1) _) ?_
  refine Rn.icmp_le (tgt := 32) dX10_dearest_25 (by decide) (fun _ => ?_) (fun h9 => absurd h9 (by decide))
  refine Rn.iload_n dX10_dearest_32 rfl rfl ?_
  refine Rn.istore_n dX10_dearest_33 rfl (by decide) ?_
  refine Rn.iincN dX10_dearest_34 rfl (by decide) ?_
  refine Rn.goto 9 dX10_dearest_37 (by decide) ?_
  refine Rn.iload_n dX10_dearest_9 rfl rfl ?_
  refine Rn.bipush (v := (nI 50)) dX10_dearest_10 rfl ?_
  refine Rn.icmp_gt (tgt := 40) dX10_dearest_12 (by decide) (fun h9 => absurd h9 (by decide)) (fun _ => ?_)
  refine Rn.aload_n dX10_dearest_15 rfl rfl ?_
  refine Rn.iload_n dX10_dearest_16 rfl rfl ?_
  refine Rn.callVp (As := [_]) dX10_dearest_17 mv_X10_410 (by first | rfl | exact gC0 (by assumption) | exact gL0 (by assumption)) rfl rfl rfl (Nat.le_of_ble_eq_true rfl) (ct_soldBy0 G _ _ (by exact g95_1) _) ?_
  refine Rn.aload_n dX10_dearest_20 rfl rfl ?_
  refine Rn.iload_n dX10_dearest_21 rfl rfl ?_
  refine Rn.callVp (As := [_]) dX10_dearest_22 mv_X10_410 (by first | rfl | exact gC0 (by assumption) | exact gL0 (by assumption)) rfl rfl rfl (Nat.le_of_ble_eq_true rfl) (ct_soldBy0 G _ _ (by exact g95_1) _) ?_
  refine Rn.icmp_le (tgt := 32) dX10_dearest_25 (by decide) (fun _ => ?_) (fun h9 => absurd h9 (by decide))
  refine Rn.iload_n dX10_dearest_32 rfl rfl ?_
  refine Rn.istore_n dX10_dearest_33 rfl (by decide) ?_
  refine Rn.iincN dX10_dearest_34 rfl (by decide) ?_
  refine Rn.goto 9 dX10_dearest_37 (by decide) ?_
  refine Rn.iload_n dX10_dearest_9 rfl rfl ?_
  refine Rn.bipush (v := (nI 50)) dX10_dearest_10 rfl ?_
  refine Rn.icmp_gt (tgt := 40) dX10_dearest_12 (by decide) (fun h9 => absurd h9 (by decide)) (fun _ => ?_)
  refine Rn.aload_n dX10_dearest_15 rfl rfl ?_
  refine Rn.iload_n dX10_dearest_16 rfl rfl ?_
  refine Rn.callVp (As := [_]) dX10_dearest_17 mv_X10_410 (by first | rfl | exact gC0 (by assumption) | exact gL0 (by assumption)) rfl rfl rfl (Nat.le_of_ble_eq_true rfl) (ct_soldBy0 G _ _ (by exact g95_1) _) ?_
  refine Rn.aload_n dX10_dearest_20 rfl rfl ?_
  refine Rn.iload_n dX10_dearest_21 rfl rfl ?_
  refine Rn.callVp (As := [_]) dX10_dearest_22 mv_X10_410 (by first | rfl | exact gC0 (by assumption) | exact gL0 (by assumption)) rfl rfl rfl (Nat.le_of_ble_eq_true rfl) (ct_soldBy0 G _ _ (by exact g95_1) _) ?_
  refine Rn.icmp_le (tgt := 32) dX10_dearest_25 (by decide) (fun _ => ?_) (fun h9 => absurd h9 (by decide))
  refine Rn.iload_n dX10_dearest_32 rfl rfl ?_
  refine Rn.istore_n dX10_dearest_33 rfl (by decide) ?_
  refine Rn.iincN dX10_dearest_34 rfl (by decide) ?_
  refine Rn.goto 9 dX10_dearest_37 (by decide) ?_
  refine Rn.iload_n dX10_dearest_9 rfl rfl ?_
  refine Rn.bipush (v := (nI 50)) dX10_dearest_10 rfl ?_
  refine Rn.icmp_gt (tgt := 40) dX10_dearest_12 (by decide) (fun h9 => absurd h9 (by decide)) (fun _ => ?_)
  refine Rn.aload_n dX10_dearest_15 rfl rfl ?_
  refine Rn.iload_n dX10_dearest_16 rfl rfl ?_
  refine Rn.callVp (As := [_]) dX10_dearest_17 mv_X10_410 (by first | rfl | exact gC0 (by assumption) | exact gL0 (by assumption)) rfl rfl rfl (Nat.le_of_ble_eq_true rfl) (ct_soldBy0 G _ _ (by exact g95_1) _) ?_
  refine Rn.aload_n dX10_dearest_20 rfl rfl ?_
  refine Rn.iload_n dX10_dearest_21 rfl rfl ?_
  refine Rn.callVp (As := [_]) dX10_dearest_22 mv_X10_410 (by first | rfl | exact gC0 (by assumption) | exact gL0 (by assumption)) rfl rfl rfl (Nat.le_of_ble_eq_true rfl) (ct_soldBy0 G _ _ (by exact g95_1) _) ?_
  refine Rn.icmp_le (tgt := 32) dX10_dearest_25 (by decide) (fun _ => ?_) (fun h9 => absurd h9 (by decide))
  refine Rn.iload_n dX10_dearest_32 rfl rfl ?_
  refine Rn.istore_n dX10_dearest_33 rfl (by decide) ?_
  refine Rn.iincN dX10_dearest_34 rfl (by decide) ?_
  refine Rn.goto 9 dX10_dearest_37 (by decide) ?_
  refine Rn.iload_n dX10_dearest_9 rfl rfl ?_
  refine Rn.bipush (v := (nI 50)) dX10_dearest_10 rfl ?_
  refine Rn.icmp_gt (tgt := 40) dX10_dearest_12 (by decide) (fun h9 => absurd h9 (by decide)) (fun _ => ?_)
  refine Rn.aload_n dX10_dearest_15 rfl rfl ?_
  refine Rn.iload_n dX10_dearest_16 rfl rfl ?_
  refine Rn.callVp (As := [_]) dX10_dearest_17 mv_X10_410 (by first | rfl | exact gC0 (by assumption) | exact gL0 (by assumption)) rfl rfl rfl (Nat.le_of_ble_eq_true rfl) (ct_soldBy0 G _ _ (by exact g95_1) _) ?_
  refine Rn.aload_n dX10_dearest_20 rfl rfl ?_
  refine Rn.iload_n dX10_dearest_21 rfl rfl ?_
  refine Rn.callVp (As := [_]) dX10_dearest_22 mv_X10_410 (by first | rfl | exact gC0 (by assumption) | exact gL0 (by assumption)) rfl rfl rfl (Nat.le_of_ble_eq_true rfl) (ct_soldBy0 G _ _ (by exact g95_1) _) ?_
  refine Rn.icmp_le (tgt := 32) dX10_dearest_25 (by decide) (fun _ => ?_) (fun h9 => absurd h9 (by decide))
  refine Rn.iload_n dX10_dearest_32 rfl rfl ?_
  refine Rn.istore_n dX10_dearest_33 rfl (by decide) ?_
  refine Rn.iincN dX10_dearest_34 rfl (by decide) ?_
  refine Rn.goto 9 dX10_dearest_37 (by decide) ?_
  refine Rn.iload_n dX10_dearest_9 rfl rfl ?_
  refine Rn.bipush (v := (nI 50)) dX10_dearest_10 rfl ?_
  refine Rn.icmp_gt (tgt := 40) dX10_dearest_12 (by decide) (fun _ => ?_) (fun h9 => absurd h9 (by decide))
  refine Rn.iload_n dX10_dearest_40 rfl rfl ?_
  exact Rn.iret dX10_dearest_41 rfl (⟨rfl, rfl⟩)
theorem ct_X10_seed (F : FW I) (n : Int32) : Ct G GAM mX10_seed d 0 [.ref 94, .int n] I (Rp (some (.int (nI 1))) (zup (zup I 94 0 (nI 0)) 95 8 n)) := by
  obtain ⟨g95_0, g95_1, g95_2, g95_3, g95_4, g95_5, g95_6, g95_7, g95_8, g94_6, g94_7, g94_9, g94_14⟩ := F
  refine Ct.mk [some (.ref 94), some (.int n), none] ?_
  refine Rn.aload_n dX10_seed_0 rfl rfl ?_
  refine Rn.iconst (v := (nI 0)) dX10_seed_1 rfl ?_
  refine Rn.putI dX10_seed_2 fp_X10_3_9 (by first | rfl | exact gC0 (by assumption) | exact gL0 (by assumption)) rfl ?_
  refine Rn.aload_n dX10_seed_5 rfl rfl ?_
  refine Rn.getR dX10_seed_6 fd_X10_13_9 (by first | rfl | exact gC0 (by assumption) | exact gL0 (by assumption)) rfl ?_
  refine Rn.bipush (v := (nI 8)) dX10_seed_9 rfl ?_
  refine Rn.ialdN dX10_seed_11 (by first | rfl | exact gC1 (by assumption) | exact gC2 (by assumption) | exact gC3 (by assumption) | exact gL1 (by assumption) | exact gL2 (by assumption) | exact gL3 (by assumption) | exact gL4 (by assumption) | exact gL5 (by assumption) | exact gL6 (by assumption)) ?_
  refine Rn.topI (nI 1) g95_8 ?_
  refine Rn.istore_n dX10_seed_12 rfl (by decide) ?_
  refine Rn.aload_n dX10_seed_13 rfl rfl ?_
  refine Rn.getR dX10_seed_14 fd_X10_13_9 (by first | rfl | exact gC0 (by assumption) | exact gL0 (by assumption)) rfl ?_
  refine Rn.bipush (v := (nI 8)) dX10_seed_17 rfl ?_
  refine Rn.iload_n dX10_seed_19 rfl rfl ?_
  refine Rn.iastN dX10_seed_20 (by first | rfl | exact gC1 (by assumption) | exact gC2 (by assumption) | exact gC3 (by assumption) | exact gL1 (by assumption) | exact gL2 (by assumption) | exact gL3 (by assumption) | exact gL4 (by assumption) | exact gL5 (by assumption) | exact gL6 (by assumption)) ?_
  refine Rn.iload_n dX10_seed_21 rfl rfl ?_
  exact Rn.iret dX10_seed_22 rfl (⟨rfl, rfl⟩)
theorem ct_X10_undo (F : FW I) : Ct G GAM mX10_undo d 0 [.ref 94] I (Rp (some (.int (nI 0))) (zup I 94 0 (nI 0))) := by
  obtain ⟨g95_0, g95_1, g95_2, g95_3, g95_4, g95_5, g95_6, g95_7, g95_8, g94_6, g94_7, g94_9, g94_14⟩ := F
  refine Ct.mk [some (.ref 94), none] ?_
  refine Rn.aload_n dX10_undo_0 rfl rfl ?_
  refine Rn.iconst (v := (nI 0)) dX10_undo_1 rfl ?_
  refine Rn.putI dX10_undo_2 fp_X10_3_9 (by first | rfl | exact gC0 (by assumption) | exact gL0 (by assumption)) rfl ?_
  refine Rn.aload_n dX10_undo_5 rfl rfl ?_
  refine Rn.getI dX10_undo_6 fd_X10_58_9 (by first | rfl | exact gC0 (by assumption) | exact gL0 (by assumption)) rfl ?_
  refine Rn.topI (nI 0) g94_7 ?_
  refine Rn.if_ne (tgt := 14) dX10_undo_9 (by decide) (fun h9 => absurd h9 (by decide)) (fun _ => ?_)
  refine Rn.iconst (v := (nI 0)) dX10_undo_12 rfl ?_
  exact Rn.zret dX10_undo_13 rfl rfl (⟨rfl, rfl⟩)
theorem ct_noPrice0 (x : Int32) (h : (nI 0 ≤ x ∧ x ≤ nI 50)) : Ct G GAM mX10_noPrice (d + 1) 0 [.int x] I (Rp (some (.int (nI 0))) I) := by
  refine Ct.mk [some (.int x)] ?_
  refine Rn.iload_n dX10_noPrice_0 rfl rfl ?_
  refine Rn.iconst (v := (nI 0)) dX10_noPrice_1 rfl ?_
  refine Rn.bipush (v := (nI 50)) dX10_noPrice_2 rfl ?_
  refine Rn.callSp (As := [_, _, _]) dX10_noPrice_4 ms_X10_78 rfl rfl (Nat.le_of_ble_eq_true rfl) (ct_in1 G _ _ _ _ _ h) ?_
  refine Rn.if_ne (tgt := 14) dX10_noPrice_7 (by decide) (fun _ => ?_) (fun h9 => absurd h9 (by decide))
  refine Rn.iconst (v := (nI 0)) dX10_noPrice_14 rfl ?_
  exact Rn.zret dX10_noPrice_15 rfl rfl (⟨rfl, rfl⟩)
theorem ct_noSort0 (x : Int32) (h : (nI 0 ≤ x ∧ x ≤ nI 3)) : Ct G GAM mX10_noSort (d + 1) 0 [.int x] I (Rp (some (.int (nI 0))) I) := by
  have q := ct_noSort G d I x
  rw [bI_f (fun q => q h)] at q
  exact q
theorem ct_noPrice1 (x : Int32) (h : ¬ (nI 0 ≤ x ∧ x ≤ nI 50)) : Ct G GAM mX10_noPrice (d + 1) 0 [.int x] I (Rp (some (.int (nI 1))) I) := by
  refine Ct.mk [some (.int x)] ?_
  refine Rn.iload_n dX10_noPrice_0 rfl rfl ?_
  refine Rn.iconst (v := (nI 0)) dX10_noPrice_1 rfl ?_
  refine Rn.bipush (v := (nI 50)) dX10_noPrice_2 rfl ?_
  refine Rn.callSp (As := [_, _, _]) dX10_noPrice_4 ms_X10_78 rfl rfl (Nat.le_of_ble_eq_true rfl) (ct_in0 G _ _ _ _ _ h) ?_
  refine Rn.if_ne (tgt := 14) dX10_noPrice_7 (by decide) (fun h9 => absurd h9 (by decide)) (fun _ => ?_)
  refine Rn.iconst (v := (nI 1)) dX10_noPrice_10 rfl ?_
  refine Rn.goto 15 dX10_noPrice_11 (by decide) ?_
  exact Rn.zret dX10_noPrice_15 rfl rfl (⟨rfl, rfl⟩)
theorem ct_noSort1 (x : Int32) (h : ¬ (nI 0 ≤ x ∧ x ≤ nI 3)) : Ct G GAM mX10_noSort (d + 1) 0 [.int x] I (Rp (some (.int (nI 1))) I) := by
  have q := ct_noSort G d I x
  rw [bI_t h] at q
  exact q
theorem ct_X10_sells0 (F : FW I) (x : Int32) (h : nI 0 ≤ x ∧ x ≤ nI 50) : Ct G GAM mX10_sells (d + 2) 0 [.ref 94, .int x] I (Rp (some (.int (nI 0))) (zup I 94 0 (nI 0))) := by
  obtain ⟨g95_0, g95_1, g95_2, g95_3, g95_4, g95_5, g95_6, g95_7, g95_8, g94_6, g94_7, g94_9, g94_14⟩ := F
  refine Ct.mk [some (.ref 94), some (.int x)] ?_
  refine Rn.aload_n dX10_sells_0 rfl rfl ?_
  refine Rn.iconst (v := (nI 0)) dX10_sells_1 rfl ?_
  refine Rn.putI dX10_sells_2 fp_X10_3_9 (by first | rfl | exact gC0 (by assumption) | exact gL0 (by assumption)) rfl ?_
  refine Rn.aload_n dX10_sells_5 rfl rfl ?_
  refine Rn.iload_n dX10_sells_6 rfl rfl ?_
  refine Rn.callSp (As := [_]) dX10_sells_7 ms_X10_407 rfl rfl (Nat.le_of_ble_eq_true rfl) (ct_noPrice0 G _ _ _ h) ?_
  refine Rn.iconst (v := (nI 1)) dX10_sells_10 rfl ?_
  refine Rn.callVp (As := [_, _]) dX10_sells_11 mv_X10_241 (by first | rfl | exact gC0 (by assumption) | exact gL0 (by assumption)) rfl rfl rfl (Nat.le_of_ble_eq_true rfl) (ct_throws0 G _ _ _) ?_
  refine Rn.if_eq (tgt := 21) dX10_sells_14 (by decide) (fun _ => ?_) (fun h9 => absurd h9 (by decide))
  refine Rn.aload_n dX10_sells_21 rfl rfl ?_
  refine Rn.iload_n dX10_sells_22 rfl rfl ?_
  refine Rn.callVp (As := [_]) dX10_sells_23 mv_X10_410 (by first | rfl | exact gC0 (by assumption) | exact gL0 (by assumption)) rfl rfl rfl (Nat.le_of_ble_eq_true rfl) (ct_soldBy0 G _ _ (by exact g95_1) _) ?_
  exact Rn.iret dX10_sells_26 rfl (⟨rfl, rfl⟩)
theorem ct_X10_sells1 (x : Int32) (h : ¬ (nI 0 ≤ x ∧ x ≤ nI 50)) : Ct G GAM mX10_sells (d + 2) 0 [.ref 94, .int x] I (Rp (some (.int (nI 0))) (zup (zup I 94 0 (nI 0)) 94 0 (nI 1))) := by
  refine Ct.mk [some (.ref 94), some (.int x)] ?_
  refine Rn.aload_n dX10_sells_0 rfl rfl ?_
  refine Rn.iconst (v := (nI 0)) dX10_sells_1 rfl ?_
  refine Rn.putI dX10_sells_2 fp_X10_3_9 (by first | rfl | exact gC0 (by assumption) | exact gL0 (by assumption)) rfl ?_
  refine Rn.aload_n dX10_sells_5 rfl rfl ?_
  refine Rn.iload_n dX10_sells_6 rfl rfl ?_
  refine Rn.callSp (As := [_]) dX10_sells_7 ms_X10_407 rfl rfl (Nat.le_of_ble_eq_true rfl) (ct_noPrice1 G _ _ _ h) ?_
  refine Rn.iconst (v := (nI 1)) dX10_sells_10 rfl ?_
  refine Rn.callVp (As := [_, _]) dX10_sells_11 mv_X10_241 (by first | rfl | exact gC0 (by assumption) | exact gL0 (by assumption)) rfl rfl rfl (Nat.le_of_ble_eq_true rfl) (ct_throws1 G _ _ _) ?_
  refine Rn.if_eq (tgt := 21) dX10_sells_14 (by decide) (fun h9 => absurd h9 (by decide)) (fun _ => ?_)
  refine Rn.iconst (v := (nI 0)) dX10_sells_17 rfl ?_
  refine Rn.goto 26 dX10_sells_18 (by decide) ?_
  exact Rn.iret dX10_sells_26 rfl (⟨rfl, rfl⟩)
theorem ct_X10_luckiest0 (F : FW I) (x : Int32) (h : nI 0 ≤ x ∧ x ≤ nI 3) : Ct G GAM mX10_luckiest (d + 2) 0 [.ref 94, .int x] I (Rp (some (.int (-1))) (zup I 94 0 (nI 0))) := by
  obtain ⟨g95_0, g95_1, g95_2, g95_3, g95_4, g95_5, g95_6, g95_7, g95_8, g94_6, g94_7, g94_9, g94_14⟩ := F
  refine Ct.mk [some (.ref 94), some (.int x), none, none] ?_
  refine Rn.aload_n dX10_luckiest_0 rfl rfl ?_
  refine Rn.iconst (v := (nI 0)) dX10_luckiest_1 rfl ?_
  refine Rn.putI dX10_luckiest_2 fp_X10_3_9 (by first | rfl | exact gC0 (by assumption) | exact gL0 (by assumption)) rfl ?_
  refine Rn.aload_n dX10_luckiest_5 rfl rfl ?_
  refine Rn.iload_n dX10_luckiest_6 rfl rfl ?_
  refine Rn.callSp (As := [_]) dX10_luckiest_7 ms_X10_293 rfl rfl (Nat.le_of_ble_eq_true rfl) (ct_noSort0 G _ _ _ h) ?_
  refine Rn.iconst (v := (nI 1)) dX10_luckiest_10 rfl ?_
  refine Rn.callVp (As := [_, _]) dX10_luckiest_11 mv_X10_241 (by first | rfl | exact gC0 (by assumption) | exact gL0 (by assumption)) rfl rfl rfl (Nat.le_of_ble_eq_true rfl) (ct_throws0 G _ _ _) ?_
  refine Rn.if_eq (tgt := 19) dX10_luckiest_14 (by decide) (fun _ => ?_) (fun h9 => absurd h9 (by decide))
  refine Rn.iconst (v := (-1)) dX10_luckiest_19 rfl ?_
  refine Rn.istore_n dX10_luckiest_20 rfl (by decide) ?_
  refine Rn.iconst (v := (nI 0)) dX10_luckiest_21 rfl ?_
  refine Rn.istore_n dX10_luckiest_22 rfl (by decide) ?_
  refine Rn.iload_n dX10_luckiest_23 rfl rfl ?_
  refine Rn.aload_n dX10_luckiest_24 rfl rfl ?_
  refine Rn.callVp (As := []) dX10_luckiest_25 mv_X10_74 (by first | rfl | exact gC0 (by assumption) | exact gL0 (by assumption)) rfl rfl rfl (Nat.le_of_ble_eq_true rfl) (ct_women0 G _ _ (by exact g95_0)) ?_
  refine Rn.icmp_ge (tgt := 59) dX10_luckiest_28 (by decide) (fun _ => ?_) (fun h9 => absurd h9 (by decide))
  refine Rn.iload_n dX10_luckiest_59 rfl rfl ?_
  exact Rn.iret dX10_luckiest_60 rfl (⟨rfl, rfl⟩)
theorem ct_X10_luckiest1 (x : Int32) (h : ¬ (nI 0 ≤ x ∧ x ≤ nI 3)) : Ct G GAM mX10_luckiest (d + 2) 0 [.ref 94, .int x] I (Rp (some (.int (nI 0))) (zup (zup I 94 0 (nI 0)) 94 0 (nI 1))) := by
  refine Ct.mk [some (.ref 94), some (.int x), none, none] ?_
  refine Rn.aload_n dX10_luckiest_0 rfl rfl ?_
  refine Rn.iconst (v := (nI 0)) dX10_luckiest_1 rfl ?_
  refine Rn.putI dX10_luckiest_2 fp_X10_3_9 (by first | rfl | exact gC0 (by assumption) | exact gL0 (by assumption)) rfl ?_
  refine Rn.aload_n dX10_luckiest_5 rfl rfl ?_
  refine Rn.iload_n dX10_luckiest_6 rfl rfl ?_
  refine Rn.callSp (As := [_]) dX10_luckiest_7 ms_X10_293 rfl rfl (Nat.le_of_ble_eq_true rfl) (ct_noSort1 G _ _ _ h) ?_
  refine Rn.iconst (v := (nI 1)) dX10_luckiest_10 rfl ?_
  refine Rn.callVp (As := [_, _]) dX10_luckiest_11 mv_X10_241 (by first | rfl | exact gC0 (by assumption) | exact gL0 (by assumption)) rfl rfl rfl (Nat.le_of_ble_eq_true rfl) (ct_throws1 G _ _ _) ?_
  refine Rn.if_eq (tgt := 19) dX10_luckiest_14 (by decide) (fun h9 => absurd h9 (by decide)) (fun _ => ?_)
  refine Rn.iconst (v := (nI 0)) dX10_luckiest_17 rfl ?_
  exact Rn.iret dX10_luckiest_18 rfl (⟨rfl, rfl⟩)
theorem ct_X10_log0 (F : FW I) (x y : Int32) (h : nI 0 ≤ y ∧ y ≤ nI 3) : Ct G GAM mX10_log (d + 1) 0 [.ref 94, .int x, .int y] I (Rp (some (.int (-1000))) (zup I 94 0 (nI 0))) := by
  obtain ⟨g95_0, g95_1, g95_2, g95_3, g95_4, g95_5, g95_6, g95_7, g95_8, g94_6, g94_7, g94_9, g94_14⟩ := F
  refine Ct.mk [some (.ref 94), some (.int x), some (.int y)] ?_
  refine Rn.aload_n dX10_log_0 rfl rfl ?_
  refine Rn.iconst (v := (nI 0)) dX10_log_1 rfl ?_
  refine Rn.putI dX10_log_2 fp_X10_3_9 (by first | rfl | exact gC0 (by assumption) | exact gL0 (by assumption)) rfl ?_
  refine Rn.aload_n dX10_log_5 rfl rfl ?_
  refine Rn.iload_n dX10_log_6 rfl rfl ?_
  refine Rn.iconst (v := (nI 0)) dX10_log_7 rfl ?_
  refine Rn.iconst (v := (nI 3)) dX10_log_8 rfl ?_
  refine Rn.callSp (As := [_, _, _]) dX10_log_9 ms_X10_78 rfl rfl (Nat.le_of_ble_eq_true rfl) (ct_in1 G _ _ _ _ _ h) ?_
  refine Rn.if_ne (tgt := 19) dX10_log_12 (by decide) (fun _ => ?_) (fun h9 => absurd h9 (by decide))
  refine Rn.iconst (v := (nI 0)) dX10_log_19 rfl ?_
  refine Rn.iconst (v := (nI 1)) dX10_log_20 rfl ?_
  refine Rn.callVp (As := [_, _]) dX10_log_21 mv_X10_241 (by first | rfl | exact gC0 (by assumption) | exact gL0 (by assumption)) rfl rfl rfl (Nat.le_of_ble_eq_true rfl) (ct_throws0 G _ _ _) ?_
  refine Rn.if_eq (tgt := 29) dX10_log_24 (by decide) (fun _ => ?_) (fun h9 => absurd h9 (by decide))
  refine Rn.iload_n dX10_log_29 rfl rfl ?_
  refine Rn.iconst (v := (nI 0)) dX10_log_30 rfl ?_
  refine Rn.aload_n dX10_log_31 rfl rfl ?_
  refine Rn.getR dX10_log_32 fd_X10_13_9 (by first | rfl | exact gC0 (by assumption) | exact gL0 (by assumption)) rfl ?_
  refine Rn.bipush (v := (nI 7)) dX10_log_35 rfl ?_
  refine Rn.ialdN dX10_log_37 (by first | rfl | exact gC1 (by assumption) | exact gC2 (by assumption) | exact gC3 (by assumption) | exact gL1 (by assumption) | exact gL2 (by assumption) | exact gL3 (by assumption) | exact gL4 (by assumption) | exact gL5 (by assumption) | exact gL6 (by assumption)) ?_
  refine Rn.topI (nI 0) g95_7 ?_
  refine Rn.iconst (v := (nI 1)) dX10_log_38 rfl ?_
  refine Rn.isub dX10_log_39 ?_
  refine Rn.callSp (As := [_, _, _]) dX10_log_40 ms_X10_78 rfl rfl (Nat.le_of_ble_eq_true rfl) (ct_in0 G _ _ _ _ _ (fun q => absurd (Int32.le_trans q.1 q.2) (by decide))) ?_
  refine Rn.if_eq (tgt := 55) dX10_log_43 (by decide) (fun _ => ?_) (fun h9 => absurd h9 (by decide))
  refine Rn.sipush (v := (-1000)) dX10_log_55 rfl ?_
  exact Rn.iret dX10_log_58 rfl (⟨rfl, rfl⟩)
theorem ct_X10_log1 (x y : Int32) (h : ¬ (nI 0 ≤ y ∧ y ≤ nI 3)) : Ct G GAM mX10_log (d + 1) 0 [.ref 94, .int x, .int y] I (Rp (some (.int (nI 0))) (zup (zup I 94 0 (nI 0)) 94 0 (nI 1))) := by
  refine Ct.mk [some (.ref 94), some (.int x), some (.int y)] ?_
  refine Rn.aload_n dX10_log_0 rfl rfl ?_
  refine Rn.iconst (v := (nI 0)) dX10_log_1 rfl ?_
  refine Rn.putI dX10_log_2 fp_X10_3_9 (by first | rfl | exact gC0 (by assumption) | exact gL0 (by assumption)) rfl ?_
  refine Rn.aload_n dX10_log_5 rfl rfl ?_
  refine Rn.iload_n dX10_log_6 rfl rfl ?_
  refine Rn.iconst (v := (nI 0)) dX10_log_7 rfl ?_
  refine Rn.iconst (v := (nI 3)) dX10_log_8 rfl ?_
  refine Rn.callSp (As := [_, _, _]) dX10_log_9 ms_X10_78 rfl rfl (Nat.le_of_ble_eq_true rfl) (ct_in0 G _ _ _ _ _ h) ?_
  refine Rn.if_ne (tgt := 19) dX10_log_12 (by decide) (fun h9 => absurd h9 (by decide)) (fun _ => ?_)
  refine Rn.iconst (v := (nI 1)) dX10_log_15 rfl ?_
  refine Rn.goto 20 dX10_log_16 (by decide) ?_
  refine Rn.iconst (v := (nI 1)) dX10_log_20 rfl ?_
  refine Rn.callVp (As := [_, _]) dX10_log_21 mv_X10_241 (by first | rfl | exact gC0 (by assumption) | exact gL0 (by assumption)) rfl rfl rfl (Nat.le_of_ble_eq_true rfl) (ct_throws1 G _ _ _) ?_
  refine Rn.if_eq (tgt := 29) dX10_log_24 (by decide) (fun h9 => absurd h9 (by decide)) (fun _ => ?_)
  refine Rn.iconst (v := (nI 0)) dX10_log_27 rfl ?_
  exact Rn.iret dX10_log_28 rfl (⟨rfl, rfl⟩)
theorem ct_isTold0 (h : I 94 11 = nI 0) : Ct G GAM mX10_isTold d 0 [.ref 94] I (Rp (some (.int (nI 1))) I) := by
  refine Ct.mk [some (.ref 94), none, none] ?_
  refine Rn.aload_n dX10_isTold_0 rfl rfl ?_
  refine Rn.getI dX10_isTold_1 fd_X10_92_9 (by first | rfl | exact gC0 (by assumption) | exact gL0 (by assumption)) rfl ?_
  refine Rn.topI (nI 0) h ?_
  refine Rn.iconst (v := (nI 2)) dX10_isTold_4 rfl ?_
  refine Rn.irem dX10_isTold_5 (by decide) ?_
  refine Rn.if_ne (tgt := 22) dX10_isTold_6 (by decide) (fun h9 => absurd h9 (by decide)) (fun _ => ?_)
  refine Rn.aload_n dX10_isTold_9 rfl rfl ?_
  refine Rn.getI dX10_isTold_10 fd_X10_92_9 (by first | rfl | exact gC0 (by assumption) | exact gL0 (by assumption)) rfl ?_
  refine Rn.topI (nI 0) h ?_
  refine Rn.bipush (v := (nI 40)) dX10_isTold_13 rfl ?_
  refine Rn.icmp_gt (tgt := 22) dX10_isTold_15 (by decide) (fun h9 => absurd h9 (by decide)) (fun _ => ?_)
  refine Rn.iconst (v := (nI 1)) dX10_isTold_18 rfl ?_
  refine Rn.goto 23 dX10_isTold_19 (by decide) ?_
  refine Rn.istore_n dX10_isTold_23 rfl (by decide) ?_
  refine Rn.iconst (v := (nI 0)) dX10_isTold_24 rfl ?_
  refine Rn.istore_n dX10_isTold_25 rfl (by decide) ?_
  refine Rn.iload_n dX10_isTold_26 rfl rfl ?_
  refine Rn.aload_n dX10_isTold_27 rfl rfl ?_
  refine Rn.getI dX10_isTold_28 fd_X10_92_9 (by first | rfl | exact gC0 (by assumption) | exact gL0 (by assumption)) rfl ?_
  refine Rn.topI (nI 0) h ?_
  refine Rn.icmp_ge (tgt := 79) dX10_isTold_31 (by decide) (fun _ => ?_) (fun h9 => absurd h9 (by decide))
  refine Rn.iload_n dX10_isTold_79 rfl rfl ?_
  exact Rn.zret dX10_isTold_80 rfl rfl (⟨rfl, rfl⟩)
theorem ct_allFit0 (g95_0 : I 95 0 = nI 0) : Ct G GAM mX10_allThatFit (d + 1) 0 [.ref 94] I (Rp (some (.int (nI 0))) I) := by
  refine Ct.mk [some (.ref 94), none, none, none, none] ?_
  refine Rn.iconst (v := (nI 0)) dX10_allThatFit_0 rfl ?_
  refine Rn.istore_n dX10_allThatFit_1 rfl (by decide) ?_
  refine Rn.iconst (v := (nI 0)) dX10_allThatFit_2 rfl ?_
  refine Rn.istore_n dX10_allThatFit_3 rfl (by decide) ?_
  refine Rn.iload_n dX10_allThatFit_4 rfl rfl ?_
  refine Rn.aload_n dX10_allThatFit_5 rfl rfl ?_
  refine Rn.callVp (As := []) dX10_allThatFit_6 mv_X10_74 (by first | rfl | exact gC0 (by assumption) | exact gL0 (by assumption)) rfl rfl rfl (Nat.le_of_ble_eq_true rfl) (ct_women0 G _ _ (by exact g95_0)) ?_
  refine Rn.icmp_ge (tgt := 86) dX10_allThatFit_9 (by decide) (fun _ => ?_) (fun h9 => absurd h9 (by decide))
  refine Rn.iload_n dX10_allThatFit_86 rfl rfl ?_
  exact Rn.iret dX10_allThatFit_87 rfl (⟨rfl, rfl⟩)
def usJ (I : Hi) : Hi := zup (zup (zup (zup I 94 0 (nI 0)) 94 11 (I 94 9)) 94 9 (nI 0)) 94 10 (nI 0)
theorem ct_X10_whose (F : FW I) : Ct G GAM mX10_whose (d + 2) 0 [.ref 94] I (Rp (some (.int (nI 0))) (usJ I)) := by
  obtain ⟨g95_0, g95_1, g95_2, g95_3, g95_4, g95_5, g95_6, g95_7, g95_8, g94_6, g94_7, g94_9, g94_14⟩ := F
  refine Ct.mk [some (.ref 94)] ?_
  refine Rn.aload_n dX10_whose_0 rfl rfl ?_
  refine Rn.callVp (As := []) dX10_whose_1 mv_X10_230 (by first | rfl | exact gC0 (by assumption) | exact gL0 (by assumption)) rfl rfl rfl (Nat.le_of_ble_eq_true rfl) (ct_uses G _ _) ?_
  refine Rn.aload_n dX10_whose_4 rfl rfl ?_
  refine Rn.aload_n dX10_whose_5 rfl rfl ?_
  refine Rn.callVp (As := []) dX10_whose_6 mv_X10_395 (by first | rfl | exact gC0 (by assumption) | exact gL0 (by assumption)) rfl rfl rfl (Nat.le_of_ble_eq_true rfl) (ct_isTold0 G _ _ (by exact g94_9)) ?_
  refine Rn.if_ne (tgt := 16) dX10_whose_9 (by decide) (fun _ => ?_) (fun h9 => absurd h9 (by decide))
  refine Rn.iconst (v := (nI 0)) dX10_whose_16 rfl ?_
  refine Rn.iconst (v := (nI 1)) dX10_whose_17 rfl ?_
  refine Rn.callVp (As := [_, _]) dX10_whose_18 mv_X10_241 (by first | rfl | exact gC0 (by assumption) | exact gL0 (by assumption)) rfl rfl rfl (Nat.le_of_ble_eq_true rfl) (ct_throws0 G _ _ _) ?_
  refine Rn.if_eq (tgt := 28) dX10_whose_21 (by decide) (fun _ => ?_) (fun h9 => absurd h9 (by decide))
  refine Rn.aload_n dX10_whose_28 rfl rfl ?_
  refine Rn.callVp (As := []) dX10_whose_29 mv_X10_398 (by first | rfl | exact gC0 (by assumption) | exact gL0 (by assumption)) rfl rfl rfl (Nat.le_of_ble_eq_true rfl) (ct_allFit0 G _ _ (by exact g95_0)) ?_
  exact Rn.iret dX10_whose_32 rfl (⟨rfl, rfl⟩)
theorem ct_X10_next (F : FW I) : Ct G GAM mX10_next (d + 2) 0 [.ref 94] I (Rp (some (.int (-1))) (usJ I)) := by
  obtain ⟨g95_0, g95_1, g95_2, g95_3, g95_4, g95_5, g95_6, g95_7, g95_8, g94_6, g94_7, g94_9, g94_14⟩ := F
  refine Ct.mk [some (.ref 94), none, none, none, none, none, none, none, none] ?_
  refine Rn.aload_n dX10_next_0 rfl rfl ?_
  refine Rn.callVp (As := []) dX10_next_1 mv_X10_230 (by first | rfl | exact gC0 (by assumption) | exact gL0 (by assumption)) rfl rfl rfl (Nat.le_of_ble_eq_true rfl) (ct_uses G _ _) ?_
  refine Rn.aload_n dX10_next_4 rfl rfl ?_
  refine Rn.aload_n dX10_next_5 rfl rfl ?_
  refine Rn.callVp (As := []) dX10_next_6 mv_X10_395 (by first | rfl | exact gC0 (by assumption) | exact gL0 (by assumption)) rfl rfl rfl (Nat.le_of_ble_eq_true rfl) (ct_isTold0 G _ _ (by exact g94_9)) ?_
  refine Rn.if_ne (tgt := 16) dX10_next_9 (by decide) (fun _ => ?_) (fun h9 => absurd h9 (by decide))
  refine Rn.iconst (v := (nI 0)) dX10_next_16 rfl ?_
  refine Rn.iconst (v := (nI 1)) dX10_next_17 rfl ?_
  refine Rn.callVp (As := [_, _]) dX10_next_18 mv_X10_241 (by first | rfl | exact gC0 (by assumption) | exact gL0 (by assumption)) rfl rfl rfl (Nat.le_of_ble_eq_true rfl) (ct_throws0 G _ _ _) ?_
  refine Rn.if_eq (tgt := 26) dX10_next_21 (by decide) (fun _ => ?_) (fun h9 => absurd h9 (by decide))
  refine Rn.aload_n dX10_next_26 rfl rfl ?_
  refine Rn.callVp (As := []) dX10_next_27 mv_X10_398 (by first | rfl | exact gC0 (by assumption) | exact gL0 (by assumption)) rfl rfl rfl (Nat.le_of_ble_eq_true rfl) (ct_allFit0 G _ _ (by exact g95_0)) ?_
  refine Rn.istore_n dX10_next_30 rfl (by decide) ?_
  refine Rn.iload_n dX10_next_31 rfl rfl ?_
  refine Rn.callSp (As := [_]) dX10_next_32 ms_X10_342 rfl rfl (Nat.le_of_ble_eq_true rfl) (ct_bitCount0 G _ _) ?_
  refine Rn.iconst (v := (nI 2)) dX10_next_35 rfl ?_
  refine Rn.icmp_ge (tgt := 41) dX10_next_36 (by decide) (fun h9 => absurd h9 (by decide)) (fun _ => ?_)
  refine Rn.iconst (v := (-1)) dX10_next_39 rfl ?_
  exact Rn.iret dX10_next_40 rfl (⟨rfl, rfl⟩)
theorem ct_X10_count_0 (F : FW I) : Ct G GAM mX10_count (d + 4) 0 [.ref 94, .int (nI 0)] I (Rp (some (.int (cntV 0))) (zup I 94 0 (nI 0))) := by
  obtain ⟨g95_0, g95_1, g95_2, g95_3, g95_4, g95_5, g95_6, g95_7, g95_8, g94_6, g94_7, g94_9, g94_14⟩ := F
  refine Ct.mk [some (.ref 94), some (.int (nI 0)), none, none, none] ?_
  refine Rn.aload_n dX10_count_0 rfl rfl ?_
  refine Rn.iconst (v := (nI 0)) dX10_count_1 rfl ?_
  refine Rn.putI dX10_count_2 fp_X10_3_9 (by first | rfl | exact gC0 (by assumption) | exact gL0 (by assumption)) rfl ?_
  refine Rn.iconst (v := (nI 0)) dX10_count_5 rfl ?_
  refine Rn.istore_n dX10_count_6 rfl (by decide) ?_
  refine Rn.iconst (v := (nI 0)) dX10_count_7 rfl ?_
  refine Rn.istore_n dX10_count_8 rfl (by decide) ?_
  refine Rn.iconst (v := (nI 0)) dX10_count_9 rfl ?_
  refine Rn.istore dX10_count_10 (by decide) ?_
  refine Rn.iload dX10_count_12 rfl ?_
  refine Rn.aload_n dX10_count_14 rfl rfl ?_
  refine Rn.callVp (As := []) dX10_count_15 mv_X10_82 (by first | rfl | exact gC0 (by assumption) | exact gL0 (by assumption)) rfl rfl rfl (Nat.le_of_ble_eq_true rfl) (ct_things0 G _ _ (by exact g95_1)) ?_
  refine Rn.icmp_ge (tgt := 36) dX10_count_18 (by decide) (fun _ => ?_) (fun h9 => absurd h9 (by decide))
  refine Rn.iconst (v := (nI 0)) dX10_count_36 rfl ?_
  refine Rn.istore dX10_count_37 (by decide) ?_
  refine Rn.iload dX10_count_39 rfl ?_
  refine Rn.aload_n dX10_count_41 rfl rfl ?_
  refine Rn.callVp (As := []) dX10_count_42 mv_X10_74 (by first | rfl | exact gC0 (by assumption) | exact gL0 (by assumption)) rfl rfl rfl (Nat.le_of_ble_eq_true rfl) (ct_women0 G _ _ (by exact g95_0)) ?_
  refine Rn.icmp_ge (tgt := 68) dX10_count_45 (by decide) (fun _ => ?_) (fun h9 => absurd h9 (by decide))
  refine Rn.iload_n dX10_count_68 rfl rfl ?_
  refine Rn.tableOut 165 dX10_count_69 (by decide) (by decide) ?_
  refine Rn.iload_n dX10_count_165 rfl rfl ?_
  refine Rn.iconst (v := (nI 0)) dX10_count_166 rfl ?_
  refine Rn.bipush (v := (nI 6)) dX10_count_167 rfl ?_
  refine Rn.callSp (As := [_, _, _]) dX10_count_169 ms_X10_78 rfl rfl (Nat.le_of_ble_eq_true rfl) (ct_in1 G _ _ _ _ _ (by decide)) ?_
  refine Rn.if_eq (tgt := 184) dX10_count_172 (by decide) (fun h9 => absurd h9 (by decide)) (fun _ => ?_)
  refine Rn.aload_n dX10_count_175 rfl rfl ?_
  refine Rn.getR dX10_count_176 fd_X10_13_9 (by first | rfl | exact gC0 (by assumption) | exact gL0 (by assumption)) rfl ?_
  refine Rn.iload_n dX10_count_179 rfl rfl ?_
  refine Rn.ialdN dX10_count_180 (by first | rfl | exact gC1 (by assumption) | exact gC2 (by assumption) | exact gC3 (by assumption) | exact gL1 (by assumption) | exact gL2 (by assumption) | exact gL3 (by assumption) | exact gL4 (by assumption) | exact gL5 (by assumption) | exact gL6 (by assumption)) ?_
  refine Rn.topI (nI 0) g95_0 ?_
  refine Rn.goto 185 dX10_count_181 (by decide) ?_
  exact Rn.iret dX10_count_185 rfl (⟨rfl, rfl⟩)
theorem ct_X10_count_1 (F : FW I) : Ct G GAM mX10_count (d + 4) 0 [.ref 94, .int (nI 1)] I (Rp (some (.int (cntV 1))) (zup I 94 0 (nI 0))) := by
  obtain ⟨g95_0, g95_1, g95_2, g95_3, g95_4, g95_5, g95_6, g95_7, g95_8, g94_6, g94_7, g94_9, g94_14⟩ := F
  refine Ct.mk [some (.ref 94), some (.int (nI 1)), none, none, none] ?_
  refine Rn.aload_n dX10_count_0 rfl rfl ?_
  refine Rn.iconst (v := (nI 0)) dX10_count_1 rfl ?_
  refine Rn.putI dX10_count_2 fp_X10_3_9 (by first | rfl | exact gC0 (by assumption) | exact gL0 (by assumption)) rfl ?_
  refine Rn.iconst (v := (nI 0)) dX10_count_5 rfl ?_
  refine Rn.istore_n dX10_count_6 rfl (by decide) ?_
  refine Rn.iconst (v := (nI 0)) dX10_count_7 rfl ?_
  refine Rn.istore_n dX10_count_8 rfl (by decide) ?_
  refine Rn.iconst (v := (nI 0)) dX10_count_9 rfl ?_
  refine Rn.istore dX10_count_10 (by decide) ?_
  refine Rn.iload dX10_count_12 rfl ?_
  refine Rn.aload_n dX10_count_14 rfl rfl ?_
  refine Rn.callVp (As := []) dX10_count_15 mv_X10_82 (by first | rfl | exact gC0 (by assumption) | exact gL0 (by assumption)) rfl rfl rfl (Nat.le_of_ble_eq_true rfl) (ct_things0 G _ _ (by exact g95_1)) ?_
  refine Rn.icmp_ge (tgt := 36) dX10_count_18 (by decide) (fun _ => ?_) (fun h9 => absurd h9 (by decide))
  refine Rn.iconst (v := (nI 0)) dX10_count_36 rfl ?_
  refine Rn.istore dX10_count_37 (by decide) ?_
  refine Rn.iload dX10_count_39 rfl ?_
  refine Rn.aload_n dX10_count_41 rfl rfl ?_
  refine Rn.callVp (As := []) dX10_count_42 mv_X10_74 (by first | rfl | exact gC0 (by assumption) | exact gL0 (by assumption)) rfl rfl rfl (Nat.le_of_ble_eq_true rfl) (ct_women0 G _ _ (by exact g95_0)) ?_
  refine Rn.icmp_ge (tgt := 68) dX10_count_45 (by decide) (fun _ => ?_) (fun h9 => absurd h9 (by decide))
  refine Rn.iload_n dX10_count_68 rfl rfl ?_
  refine Rn.tableOut 165 dX10_count_69 (by decide) (by decide) ?_
  refine Rn.iload_n dX10_count_165 rfl rfl ?_
  refine Rn.iconst (v := (nI 0)) dX10_count_166 rfl ?_
  refine Rn.bipush (v := (nI 6)) dX10_count_167 rfl ?_
  refine Rn.callSp (As := [_, _, _]) dX10_count_169 ms_X10_78 rfl rfl (Nat.le_of_ble_eq_true rfl) (ct_in1 G _ _ _ _ _ (by decide)) ?_
  refine Rn.if_eq (tgt := 184) dX10_count_172 (by decide) (fun h9 => absurd h9 (by decide)) (fun _ => ?_)
  refine Rn.aload_n dX10_count_175 rfl rfl ?_
  refine Rn.getR dX10_count_176 fd_X10_13_9 (by first | rfl | exact gC0 (by assumption) | exact gL0 (by assumption)) rfl ?_
  refine Rn.iload_n dX10_count_179 rfl rfl ?_
  refine Rn.ialdN dX10_count_180 (by first | rfl | exact gC1 (by assumption) | exact gC2 (by assumption) | exact gC3 (by assumption) | exact gL1 (by assumption) | exact gL2 (by assumption) | exact gL3 (by assumption) | exact gL4 (by assumption) | exact gL5 (by assumption) | exact gL6 (by assumption)) ?_
  refine Rn.topI (nI 0) g95_1 ?_
  refine Rn.goto 185 dX10_count_181 (by decide) ?_
  exact Rn.iret dX10_count_185 rfl (⟨rfl, rfl⟩)
theorem ct_X10_count_2 (F : FW I) : Ct G GAM mX10_count (d + 4) 0 [.ref 94, .int (nI 2)] I (Rp (some (.int (cntV 2))) (zup I 94 0 (nI 0))) := by
  obtain ⟨g95_0, g95_1, g95_2, g95_3, g95_4, g95_5, g95_6, g95_7, g95_8, g94_6, g94_7, g94_9, g94_14⟩ := F
  refine Ct.mk [some (.ref 94), some (.int (nI 2)), none, none, none] ?_
  refine Rn.aload_n dX10_count_0 rfl rfl ?_
  refine Rn.iconst (v := (nI 0)) dX10_count_1 rfl ?_
  refine Rn.putI dX10_count_2 fp_X10_3_9 (by first | rfl | exact gC0 (by assumption) | exact gL0 (by assumption)) rfl ?_
  refine Rn.iconst (v := (nI 0)) dX10_count_5 rfl ?_
  refine Rn.istore_n dX10_count_6 rfl (by decide) ?_
  refine Rn.iconst (v := (nI 0)) dX10_count_7 rfl ?_
  refine Rn.istore_n dX10_count_8 rfl (by decide) ?_
  refine Rn.iconst (v := (nI 0)) dX10_count_9 rfl ?_
  refine Rn.istore dX10_count_10 (by decide) ?_
  refine Rn.iload dX10_count_12 rfl ?_
  refine Rn.aload_n dX10_count_14 rfl rfl ?_
  refine Rn.callVp (As := []) dX10_count_15 mv_X10_82 (by first | rfl | exact gC0 (by assumption) | exact gL0 (by assumption)) rfl rfl rfl (Nat.le_of_ble_eq_true rfl) (ct_things0 G _ _ (by exact g95_1)) ?_
  refine Rn.icmp_ge (tgt := 36) dX10_count_18 (by decide) (fun _ => ?_) (fun h9 => absurd h9 (by decide))
  refine Rn.iconst (v := (nI 0)) dX10_count_36 rfl ?_
  refine Rn.istore dX10_count_37 (by decide) ?_
  refine Rn.iload dX10_count_39 rfl ?_
  refine Rn.aload_n dX10_count_41 rfl rfl ?_
  refine Rn.callVp (As := []) dX10_count_42 mv_X10_74 (by first | rfl | exact gC0 (by assumption) | exact gL0 (by assumption)) rfl rfl rfl (Nat.le_of_ble_eq_true rfl) (ct_women0 G _ _ (by exact g95_0)) ?_
  refine Rn.icmp_ge (tgt := 68) dX10_count_45 (by decide) (fun _ => ?_) (fun h9 => absurd h9 (by decide))
  refine Rn.iload_n dX10_count_68 rfl rfl ?_
  refine Rn.tableOut 165 dX10_count_69 (by decide) (by decide) ?_
  refine Rn.iload_n dX10_count_165 rfl rfl ?_
  refine Rn.iconst (v := (nI 0)) dX10_count_166 rfl ?_
  refine Rn.bipush (v := (nI 6)) dX10_count_167 rfl ?_
  refine Rn.callSp (As := [_, _, _]) dX10_count_169 ms_X10_78 rfl rfl (Nat.le_of_ble_eq_true rfl) (ct_in1 G _ _ _ _ _ (by decide)) ?_
  refine Rn.if_eq (tgt := 184) dX10_count_172 (by decide) (fun h9 => absurd h9 (by decide)) (fun _ => ?_)
  refine Rn.aload_n dX10_count_175 rfl rfl ?_
  refine Rn.getR dX10_count_176 fd_X10_13_9 (by first | rfl | exact gC0 (by assumption) | exact gL0 (by assumption)) rfl ?_
  refine Rn.iload_n dX10_count_179 rfl rfl ?_
  refine Rn.ialdN dX10_count_180 (by first | rfl | exact gC1 (by assumption) | exact gC2 (by assumption) | exact gC3 (by assumption) | exact gL1 (by assumption) | exact gL2 (by assumption) | exact gL3 (by assumption) | exact gL4 (by assumption) | exact gL5 (by assumption) | exact gL6 (by assumption)) ?_
  refine Rn.topI (nI 0) g95_2 ?_
  refine Rn.goto 185 dX10_count_181 (by decide) ?_
  exact Rn.iret dX10_count_185 rfl (⟨rfl, rfl⟩)
theorem ct_X10_count_3 (F : FW I) : Ct G GAM mX10_count (d + 4) 0 [.ref 94, .int (nI 3)] I (Rp (some (.int (cntV 3))) (zup I 94 0 (nI 0))) := by
  obtain ⟨g95_0, g95_1, g95_2, g95_3, g95_4, g95_5, g95_6, g95_7, g95_8, g94_6, g94_7, g94_9, g94_14⟩ := F
  refine Ct.mk [some (.ref 94), some (.int (nI 3)), none, none, none] ?_
  refine Rn.aload_n dX10_count_0 rfl rfl ?_
  refine Rn.iconst (v := (nI 0)) dX10_count_1 rfl ?_
  refine Rn.putI dX10_count_2 fp_X10_3_9 (by first | rfl | exact gC0 (by assumption) | exact gL0 (by assumption)) rfl ?_
  refine Rn.iconst (v := (nI 0)) dX10_count_5 rfl ?_
  refine Rn.istore_n dX10_count_6 rfl (by decide) ?_
  refine Rn.iconst (v := (nI 0)) dX10_count_7 rfl ?_
  refine Rn.istore_n dX10_count_8 rfl (by decide) ?_
  refine Rn.iconst (v := (nI 0)) dX10_count_9 rfl ?_
  refine Rn.istore dX10_count_10 (by decide) ?_
  refine Rn.iload dX10_count_12 rfl ?_
  refine Rn.aload_n dX10_count_14 rfl rfl ?_
  refine Rn.callVp (As := []) dX10_count_15 mv_X10_82 (by first | rfl | exact gC0 (by assumption) | exact gL0 (by assumption)) rfl rfl rfl (Nat.le_of_ble_eq_true rfl) (ct_things0 G _ _ (by exact g95_1)) ?_
  refine Rn.icmp_ge (tgt := 36) dX10_count_18 (by decide) (fun _ => ?_) (fun h9 => absurd h9 (by decide))
  refine Rn.iconst (v := (nI 0)) dX10_count_36 rfl ?_
  refine Rn.istore dX10_count_37 (by decide) ?_
  refine Rn.iload dX10_count_39 rfl ?_
  refine Rn.aload_n dX10_count_41 rfl rfl ?_
  refine Rn.callVp (As := []) dX10_count_42 mv_X10_74 (by first | rfl | exact gC0 (by assumption) | exact gL0 (by assumption)) rfl rfl rfl (Nat.le_of_ble_eq_true rfl) (ct_women0 G _ _ (by exact g95_0)) ?_
  refine Rn.icmp_ge (tgt := 68) dX10_count_45 (by decide) (fun _ => ?_) (fun h9 => absurd h9 (by decide))
  refine Rn.iload_n dX10_count_68 rfl rfl ?_
  refine Rn.tableIn 120 dX10_count_69 (by decide) (by decide) rfl (by decide) ?_
  refine Rn.aload_n dX10_count_120 rfl rfl ?_
  refine Rn.getR dX10_count_121 fd_X10_13_9 (by first | rfl | exact gC0 (by assumption) | exact gL0 (by assumption)) rfl ?_
  refine Rn.iconst (v := (nI 3)) dX10_count_124 rfl ?_
  refine Rn.ialdN dX10_count_125 (by first | rfl | exact gC1 (by assumption) | exact gC2 (by assumption) | exact gC3 (by assumption) | exact gL1 (by assumption) | exact gL2 (by assumption) | exact gL3 (by assumption) | exact gL4 (by assumption) | exact gL5 (by assumption) | exact gL6 (by assumption)) ?_
  refine Rn.topI (nI 0) g95_3 ?_
  refine Rn.iconst (v := (nI 1)) dX10_count_126 rfl ?_
  refine Rn.icmp_ne (tgt := 141) dX10_count_127 (by decide) (fun _ => ?_) (fun h9 => absurd h9 (by decide))
  refine Rn.iconst (v := (-1)) dX10_count_141 rfl ?_
  exact Rn.iret dX10_count_142 rfl (⟨rfl, rfl⟩)
theorem ct_X10_count_4 (F : FW I) : Ct G GAM mX10_count (d + 4) 0 [.ref 94, .int (nI 4)] I (Rp (some (.int (cntV 4))) (zup I 94 0 (nI 0))) := by
  obtain ⟨g95_0, g95_1, g95_2, g95_3, g95_4, g95_5, g95_6, g95_7, g95_8, g94_6, g94_7, g94_9, g94_14⟩ := F
  refine Ct.mk [some (.ref 94), some (.int (nI 4)), none, none, none] ?_
  refine Rn.aload_n dX10_count_0 rfl rfl ?_
  refine Rn.iconst (v := (nI 0)) dX10_count_1 rfl ?_
  refine Rn.putI dX10_count_2 fp_X10_3_9 (by first | rfl | exact gC0 (by assumption) | exact gL0 (by assumption)) rfl ?_
  refine Rn.iconst (v := (nI 0)) dX10_count_5 rfl ?_
  refine Rn.istore_n dX10_count_6 rfl (by decide) ?_
  refine Rn.iconst (v := (nI 0)) dX10_count_7 rfl ?_
  refine Rn.istore_n dX10_count_8 rfl (by decide) ?_
  refine Rn.iconst (v := (nI 0)) dX10_count_9 rfl ?_
  refine Rn.istore dX10_count_10 (by decide) ?_
  refine Rn.iload dX10_count_12 rfl ?_
  refine Rn.aload_n dX10_count_14 rfl rfl ?_
  refine Rn.callVp (As := []) dX10_count_15 mv_X10_82 (by first | rfl | exact gC0 (by assumption) | exact gL0 (by assumption)) rfl rfl rfl (Nat.le_of_ble_eq_true rfl) (ct_things0 G _ _ (by exact g95_1)) ?_
  refine Rn.icmp_ge (tgt := 36) dX10_count_18 (by decide) (fun _ => ?_) (fun h9 => absurd h9 (by decide))
  refine Rn.iconst (v := (nI 0)) dX10_count_36 rfl ?_
  refine Rn.istore dX10_count_37 (by decide) ?_
  refine Rn.iload dX10_count_39 rfl ?_
  refine Rn.aload_n dX10_count_41 rfl rfl ?_
  refine Rn.callVp (As := []) dX10_count_42 mv_X10_74 (by first | rfl | exact gC0 (by assumption) | exact gL0 (by assumption)) rfl rfl rfl (Nat.le_of_ble_eq_true rfl) (ct_women0 G _ _ (by exact g95_0)) ?_
  refine Rn.icmp_ge (tgt := 68) dX10_count_45 (by decide) (fun _ => ?_) (fun h9 => absurd h9 (by decide))
  refine Rn.iload_n dX10_count_68 rfl rfl ?_
  refine Rn.tableIn 165 dX10_count_69 (by decide) (by decide) rfl (by decide) ?_
  refine Rn.iload_n dX10_count_165 rfl rfl ?_
  refine Rn.iconst (v := (nI 0)) dX10_count_166 rfl ?_
  refine Rn.bipush (v := (nI 6)) dX10_count_167 rfl ?_
  refine Rn.callSp (As := [_, _, _]) dX10_count_169 ms_X10_78 rfl rfl (Nat.le_of_ble_eq_true rfl) (ct_in1 G _ _ _ _ _ (by decide)) ?_
  refine Rn.if_eq (tgt := 184) dX10_count_172 (by decide) (fun h9 => absurd h9 (by decide)) (fun _ => ?_)
  refine Rn.aload_n dX10_count_175 rfl rfl ?_
  refine Rn.getR dX10_count_176 fd_X10_13_9 (by first | rfl | exact gC0 (by assumption) | exact gL0 (by assumption)) rfl ?_
  refine Rn.iload_n dX10_count_179 rfl rfl ?_
  refine Rn.ialdN dX10_count_180 (by first | rfl | exact gC1 (by assumption) | exact gC2 (by assumption) | exact gC3 (by assumption) | exact gL1 (by assumption) | exact gL2 (by assumption) | exact gL3 (by assumption) | exact gL4 (by assumption) | exact gL5 (by assumption) | exact gL6 (by assumption)) ?_
  refine Rn.topI (nI 0) g95_4 ?_
  refine Rn.goto 185 dX10_count_181 (by decide) ?_
  exact Rn.iret dX10_count_185 rfl (⟨rfl, rfl⟩)
theorem ct_X10_count_5 (F : FW I) : Ct G GAM mX10_count (d + 4) 0 [.ref 94, .int (nI 5)] I (Rp (some (.int (cntV 5))) (zup I 94 0 (nI 0))) := by
  obtain ⟨g95_0, g95_1, g95_2, g95_3, g95_4, g95_5, g95_6, g95_7, g95_8, g94_6, g94_7, g94_9, g94_14⟩ := F
  refine Ct.mk [some (.ref 94), some (.int (nI 5)), none, none, none] ?_
  refine Rn.aload_n dX10_count_0 rfl rfl ?_
  refine Rn.iconst (v := (nI 0)) dX10_count_1 rfl ?_
  refine Rn.putI dX10_count_2 fp_X10_3_9 (by first | rfl | exact gC0 (by assumption) | exact gL0 (by assumption)) rfl ?_
  refine Rn.iconst (v := (nI 0)) dX10_count_5 rfl ?_
  refine Rn.istore_n dX10_count_6 rfl (by decide) ?_
  refine Rn.iconst (v := (nI 0)) dX10_count_7 rfl ?_
  refine Rn.istore_n dX10_count_8 rfl (by decide) ?_
  refine Rn.iconst (v := (nI 0)) dX10_count_9 rfl ?_
  refine Rn.istore dX10_count_10 (by decide) ?_
  refine Rn.iload dX10_count_12 rfl ?_
  refine Rn.aload_n dX10_count_14 rfl rfl ?_
  refine Rn.callVp (As := []) dX10_count_15 mv_X10_82 (by first | rfl | exact gC0 (by assumption) | exact gL0 (by assumption)) rfl rfl rfl (Nat.le_of_ble_eq_true rfl) (ct_things0 G _ _ (by exact g95_1)) ?_
  refine Rn.icmp_ge (tgt := 36) dX10_count_18 (by decide) (fun _ => ?_) (fun h9 => absurd h9 (by decide))
  refine Rn.iconst (v := (nI 0)) dX10_count_36 rfl ?_
  refine Rn.istore dX10_count_37 (by decide) ?_
  refine Rn.iload dX10_count_39 rfl ?_
  refine Rn.aload_n dX10_count_41 rfl rfl ?_
  refine Rn.callVp (As := []) dX10_count_42 mv_X10_74 (by first | rfl | exact gC0 (by assumption) | exact gL0 (by assumption)) rfl rfl rfl (Nat.le_of_ble_eq_true rfl) (ct_women0 G _ _ (by exact g95_0)) ?_
  refine Rn.icmp_ge (tgt := 68) dX10_count_45 (by decide) (fun _ => ?_) (fun h9 => absurd h9 (by decide))
  refine Rn.iload_n dX10_count_68 rfl rfl ?_
  refine Rn.tableIn 165 dX10_count_69 (by decide) (by decide) rfl (by decide) ?_
  refine Rn.iload_n dX10_count_165 rfl rfl ?_
  refine Rn.iconst (v := (nI 0)) dX10_count_166 rfl ?_
  refine Rn.bipush (v := (nI 6)) dX10_count_167 rfl ?_
  refine Rn.callSp (As := [_, _, _]) dX10_count_169 ms_X10_78 rfl rfl (Nat.le_of_ble_eq_true rfl) (ct_in1 G _ _ _ _ _ (by decide)) ?_
  refine Rn.if_eq (tgt := 184) dX10_count_172 (by decide) (fun h9 => absurd h9 (by decide)) (fun _ => ?_)
  refine Rn.aload_n dX10_count_175 rfl rfl ?_
  refine Rn.getR dX10_count_176 fd_X10_13_9 (by first | rfl | exact gC0 (by assumption) | exact gL0 (by assumption)) rfl ?_
  refine Rn.iload_n dX10_count_179 rfl rfl ?_
  refine Rn.ialdN dX10_count_180 (by first | rfl | exact gC1 (by assumption) | exact gC2 (by assumption) | exact gC3 (by assumption) | exact gL1 (by assumption) | exact gL2 (by assumption) | exact gL3 (by assumption) | exact gL4 (by assumption) | exact gL5 (by assumption) | exact gL6 (by assumption)) ?_
  refine Rn.topI (nI 5) g95_5 ?_
  refine Rn.goto 185 dX10_count_181 (by decide) ?_
  exact Rn.iret dX10_count_185 rfl (⟨rfl, rfl⟩)
theorem ct_X10_count_6 (F : FW I) : Ct G GAM mX10_count (d + 4) 0 [.ref 94, .int (nI 6)] I (Rp (some (.int (cntV 6))) (zup I 94 0 (nI 0))) := by
  obtain ⟨g95_0, g95_1, g95_2, g95_3, g95_4, g95_5, g95_6, g95_7, g95_8, g94_6, g94_7, g94_9, g94_14⟩ := F
  refine Ct.mk [some (.ref 94), some (.int (nI 6)), none, none, none] ?_
  refine Rn.aload_n dX10_count_0 rfl rfl ?_
  refine Rn.iconst (v := (nI 0)) dX10_count_1 rfl ?_
  refine Rn.putI dX10_count_2 fp_X10_3_9 (by first | rfl | exact gC0 (by assumption) | exact gL0 (by assumption)) rfl ?_
  refine Rn.iconst (v := (nI 0)) dX10_count_5 rfl ?_
  refine Rn.istore_n dX10_count_6 rfl (by decide) ?_
  refine Rn.iconst (v := (nI 0)) dX10_count_7 rfl ?_
  refine Rn.istore_n dX10_count_8 rfl (by decide) ?_
  refine Rn.iconst (v := (nI 0)) dX10_count_9 rfl ?_
  refine Rn.istore dX10_count_10 (by decide) ?_
  refine Rn.iload dX10_count_12 rfl ?_
  refine Rn.aload_n dX10_count_14 rfl rfl ?_
  refine Rn.callVp (As := []) dX10_count_15 mv_X10_82 (by first | rfl | exact gC0 (by assumption) | exact gL0 (by assumption)) rfl rfl rfl (Nat.le_of_ble_eq_true rfl) (ct_things0 G _ _ (by exact g95_1)) ?_
  refine Rn.icmp_ge (tgt := 36) dX10_count_18 (by decide) (fun _ => ?_) (fun h9 => absurd h9 (by decide))
  refine Rn.iconst (v := (nI 0)) dX10_count_36 rfl ?_
  refine Rn.istore dX10_count_37 (by decide) ?_
  refine Rn.iload dX10_count_39 rfl ?_
  refine Rn.aload_n dX10_count_41 rfl rfl ?_
  refine Rn.callVp (As := []) dX10_count_42 mv_X10_74 (by first | rfl | exact gC0 (by assumption) | exact gL0 (by assumption)) rfl rfl rfl (Nat.le_of_ble_eq_true rfl) (ct_women0 G _ _ (by exact g95_0)) ?_
  refine Rn.icmp_ge (tgt := 68) dX10_count_45 (by decide) (fun _ => ?_) (fun h9 => absurd h9 (by decide))
  refine Rn.iload_n dX10_count_68 rfl rfl ?_
  refine Rn.tableIn 165 dX10_count_69 (by decide) (by decide) rfl (by decide) ?_
  refine Rn.iload_n dX10_count_165 rfl rfl ?_
  refine Rn.iconst (v := (nI 0)) dX10_count_166 rfl ?_
  refine Rn.bipush (v := (nI 6)) dX10_count_167 rfl ?_
  refine Rn.callSp (As := [_, _, _]) dX10_count_169 ms_X10_78 rfl rfl (Nat.le_of_ble_eq_true rfl) (ct_in1 G _ _ _ _ _ (by decide)) ?_
  refine Rn.if_eq (tgt := 184) dX10_count_172 (by decide) (fun h9 => absurd h9 (by decide)) (fun _ => ?_)
  refine Rn.aload_n dX10_count_175 rfl rfl ?_
  refine Rn.getR dX10_count_176 fd_X10_13_9 (by first | rfl | exact gC0 (by assumption) | exact gL0 (by assumption)) rfl ?_
  refine Rn.iload_n dX10_count_179 rfl rfl ?_
  refine Rn.ialdN dX10_count_180 (by first | rfl | exact gC1 (by assumption) | exact gC2 (by assumption) | exact gC3 (by assumption) | exact gL1 (by assumption) | exact gL2 (by assumption) | exact gL3 (by assumption) | exact gL4 (by assumption) | exact gL5 (by assumption) | exact gL6 (by assumption)) ?_
  refine Rn.topI (nI 20) g95_6 ?_
  refine Rn.goto 185 dX10_count_181 (by decide) ?_
  exact Rn.iret dX10_count_185 rfl (⟨rfl, rfl⟩)
theorem ct_X10_count_7 (F : FW I) : Ct G GAM mX10_count (d + 4) 0 [.ref 94, .int (nI 7)] I (Rp (some (.int (cntV 7))) (zup I 94 0 (nI 0))) := by
  obtain ⟨g95_0, g95_1, g95_2, g95_3, g95_4, g95_5, g95_6, g95_7, g95_8, g94_6, g94_7, g94_9, g94_14⟩ := F
  refine Ct.mk [some (.ref 94), some (.int (nI 7)), none, none, none] ?_
  refine Rn.aload_n dX10_count_0 rfl rfl ?_
  refine Rn.iconst (v := (nI 0)) dX10_count_1 rfl ?_
  refine Rn.putI dX10_count_2 fp_X10_3_9 (by first | rfl | exact gC0 (by assumption) | exact gL0 (by assumption)) rfl ?_
  refine Rn.iconst (v := (nI 0)) dX10_count_5 rfl ?_
  refine Rn.istore_n dX10_count_6 rfl (by decide) ?_
  refine Rn.iconst (v := (nI 0)) dX10_count_7 rfl ?_
  refine Rn.istore_n dX10_count_8 rfl (by decide) ?_
  refine Rn.iconst (v := (nI 0)) dX10_count_9 rfl ?_
  refine Rn.istore dX10_count_10 (by decide) ?_
  refine Rn.iload dX10_count_12 rfl ?_
  refine Rn.aload_n dX10_count_14 rfl rfl ?_
  refine Rn.callVp (As := []) dX10_count_15 mv_X10_82 (by first | rfl | exact gC0 (by assumption) | exact gL0 (by assumption)) rfl rfl rfl (Nat.le_of_ble_eq_true rfl) (ct_things0 G _ _ (by exact g95_1)) ?_
  refine Rn.icmp_ge (tgt := 36) dX10_count_18 (by decide) (fun _ => ?_) (fun h9 => absurd h9 (by decide))
  refine Rn.iconst (v := (nI 0)) dX10_count_36 rfl ?_
  refine Rn.istore dX10_count_37 (by decide) ?_
  refine Rn.iload dX10_count_39 rfl ?_
  refine Rn.aload_n dX10_count_41 rfl rfl ?_
  refine Rn.callVp (As := []) dX10_count_42 mv_X10_74 (by first | rfl | exact gC0 (by assumption) | exact gL0 (by assumption)) rfl rfl rfl (Nat.le_of_ble_eq_true rfl) (ct_women0 G _ _ (by exact g95_0)) ?_
  refine Rn.icmp_ge (tgt := 68) dX10_count_45 (by decide) (fun _ => ?_) (fun h9 => absurd h9 (by decide))
  refine Rn.iload_n dX10_count_68 rfl rfl ?_
  refine Rn.tableIn 143 dX10_count_69 (by decide) (by decide) rfl (by decide) ?_
  refine Rn.aload_n dX10_count_143 rfl rfl ?_
  refine Rn.callVp (As := []) dX10_count_144 mv_X10_419 (by first | rfl | exact gC0 (by assumption) | exact gL0 (by assumption)) rfl rfl rfl (Nat.le_of_ble_eq_true rfl) (ct_luckOfAll G _ _ 0 (by decide) (by exact g95_0)) ?_
  exact Rn.iret dX10_count_147 rfl (⟨rfl, rfl⟩)
theorem ct_X10_count_8 (F : FW I) : Ct G GAM mX10_count (d + 4) 0 [.ref 94, .int (nI 8)] I (Rp (some (.int (cntV 8))) (zup I 94 0 (nI 0))) := by
  obtain ⟨g95_0, g95_1, g95_2, g95_3, g95_4, g95_5, g95_6, g95_7, g95_8, g94_6, g94_7, g94_9, g94_14⟩ := F
  refine Ct.mk [some (.ref 94), some (.int (nI 8)), none, none, none] ?_
  refine Rn.aload_n dX10_count_0 rfl rfl ?_
  refine Rn.iconst (v := (nI 0)) dX10_count_1 rfl ?_
  refine Rn.putI dX10_count_2 fp_X10_3_9 (by first | rfl | exact gC0 (by assumption) | exact gL0 (by assumption)) rfl ?_
  refine Rn.iconst (v := (nI 0)) dX10_count_5 rfl ?_
  refine Rn.istore_n dX10_count_6 rfl (by decide) ?_
  refine Rn.iconst (v := (nI 0)) dX10_count_7 rfl ?_
  refine Rn.istore_n dX10_count_8 rfl (by decide) ?_
  refine Rn.iconst (v := (nI 0)) dX10_count_9 rfl ?_
  refine Rn.istore dX10_count_10 (by decide) ?_
  refine Rn.iload dX10_count_12 rfl ?_
  refine Rn.aload_n dX10_count_14 rfl rfl ?_
  refine Rn.callVp (As := []) dX10_count_15 mv_X10_82 (by first | rfl | exact gC0 (by assumption) | exact gL0 (by assumption)) rfl rfl rfl (Nat.le_of_ble_eq_true rfl) (ct_things0 G _ _ (by exact g95_1)) ?_
  refine Rn.icmp_ge (tgt := 36) dX10_count_18 (by decide) (fun _ => ?_) (fun h9 => absurd h9 (by decide))
  refine Rn.iconst (v := (nI 0)) dX10_count_36 rfl ?_
  refine Rn.istore dX10_count_37 (by decide) ?_
  refine Rn.iload dX10_count_39 rfl ?_
  refine Rn.aload_n dX10_count_41 rfl rfl ?_
  refine Rn.callVp (As := []) dX10_count_42 mv_X10_74 (by first | rfl | exact gC0 (by assumption) | exact gL0 (by assumption)) rfl rfl rfl (Nat.le_of_ble_eq_true rfl) (ct_women0 G _ _ (by exact g95_0)) ?_
  refine Rn.icmp_ge (tgt := 68) dX10_count_45 (by decide) (fun _ => ?_) (fun h9 => absurd h9 (by decide))
  refine Rn.iload_n dX10_count_68 rfl rfl ?_
  refine Rn.tableIn 148 dX10_count_69 (by decide) (by decide) rfl (by decide) ?_
  refine Rn.iload_n dX10_count_148 rfl rfl ?_
  exact Rn.iret dX10_count_149 rfl (⟨rfl, rfl⟩)
theorem ct_X10_count_9 (F : FW I) : Ct G GAM mX10_count (d + 4) 0 [.ref 94, .int (nI 9)] I (Rp (some (.int (cntV 9))) (zup I 94 0 (nI 0))) := by
  obtain ⟨g95_0, g95_1, g95_2, g95_3, g95_4, g95_5, g95_6, g95_7, g95_8, g94_6, g94_7, g94_9, g94_14⟩ := F
  refine Ct.mk [some (.ref 94), some (.int (nI 9)), none, none, none] ?_
  refine Rn.aload_n dX10_count_0 rfl rfl ?_
  refine Rn.iconst (v := (nI 0)) dX10_count_1 rfl ?_
  refine Rn.putI dX10_count_2 fp_X10_3_9 (by first | rfl | exact gC0 (by assumption) | exact gL0 (by assumption)) rfl ?_
  refine Rn.iconst (v := (nI 0)) dX10_count_5 rfl ?_
  refine Rn.istore_n dX10_count_6 rfl (by decide) ?_
  refine Rn.iconst (v := (nI 0)) dX10_count_7 rfl ?_
  refine Rn.istore_n dX10_count_8 rfl (by decide) ?_
  refine Rn.iconst (v := (nI 0)) dX10_count_9 rfl ?_
  refine Rn.istore dX10_count_10 (by decide) ?_
  refine Rn.iload dX10_count_12 rfl ?_
  refine Rn.aload_n dX10_count_14 rfl rfl ?_
  refine Rn.callVp (As := []) dX10_count_15 mv_X10_82 (by first | rfl | exact gC0 (by assumption) | exact gL0 (by assumption)) rfl rfl rfl (Nat.le_of_ble_eq_true rfl) (ct_things0 G _ _ (by exact g95_1)) ?_
  refine Rn.icmp_ge (tgt := 36) dX10_count_18 (by decide) (fun _ => ?_) (fun h9 => absurd h9 (by decide))
  refine Rn.iconst (v := (nI 0)) dX10_count_36 rfl ?_
  refine Rn.istore dX10_count_37 (by decide) ?_
  refine Rn.iload dX10_count_39 rfl ?_
  refine Rn.aload_n dX10_count_41 rfl rfl ?_
  refine Rn.callVp (As := []) dX10_count_42 mv_X10_74 (by first | rfl | exact gC0 (by assumption) | exact gL0 (by assumption)) rfl rfl rfl (Nat.le_of_ble_eq_true rfl) (ct_women0 G _ _ (by exact g95_0)) ?_
  refine Rn.icmp_ge (tgt := 68) dX10_count_45 (by decide) (fun _ => ?_) (fun h9 => absurd h9 (by decide))
  refine Rn.iload_n dX10_count_68 rfl rfl ?_
  refine Rn.tableIn 150 dX10_count_69 (by decide) (by decide) rfl (by decide) ?_
  refine Rn.iload_n dX10_count_150 rfl rfl ?_
  exact Rn.iret dX10_count_151 rfl (⟨rfl, rfl⟩)
theorem ct_X10_count_10 (F : FW I) : Ct G GAM mX10_count (d + 4) 0 [.ref 94, .int (nI 10)] I (Rp (some (.int (cntV 10))) (zup I 94 0 (nI 0))) := by
  obtain ⟨g95_0, g95_1, g95_2, g95_3, g95_4, g95_5, g95_6, g95_7, g95_8, g94_6, g94_7, g94_9, g94_14⟩ := F
  refine Ct.mk [some (.ref 94), some (.int (nI 10)), none, none, none] ?_
  refine Rn.aload_n dX10_count_0 rfl rfl ?_
  refine Rn.iconst (v := (nI 0)) dX10_count_1 rfl ?_
  refine Rn.putI dX10_count_2 fp_X10_3_9 (by first | rfl | exact gC0 (by assumption) | exact gL0 (by assumption)) rfl ?_
  refine Rn.iconst (v := (nI 0)) dX10_count_5 rfl ?_
  refine Rn.istore_n dX10_count_6 rfl (by decide) ?_
  refine Rn.iconst (v := (nI 0)) dX10_count_7 rfl ?_
  refine Rn.istore_n dX10_count_8 rfl (by decide) ?_
  refine Rn.iconst (v := (nI 0)) dX10_count_9 rfl ?_
  refine Rn.istore dX10_count_10 (by decide) ?_
  refine Rn.iload dX10_count_12 rfl ?_
  refine Rn.aload_n dX10_count_14 rfl rfl ?_
  refine Rn.callVp (As := []) dX10_count_15 mv_X10_82 (by first | rfl | exact gC0 (by assumption) | exact gL0 (by assumption)) rfl rfl rfl (Nat.le_of_ble_eq_true rfl) (ct_things0 G _ _ (by exact g95_1)) ?_
  refine Rn.icmp_ge (tgt := 36) dX10_count_18 (by decide) (fun _ => ?_) (fun h9 => absurd h9 (by decide))
  refine Rn.iconst (v := (nI 0)) dX10_count_36 rfl ?_
  refine Rn.istore dX10_count_37 (by decide) ?_
  refine Rn.iload dX10_count_39 rfl ?_
  refine Rn.aload_n dX10_count_41 rfl rfl ?_
  refine Rn.callVp (As := []) dX10_count_42 mv_X10_74 (by first | rfl | exact gC0 (by assumption) | exact gL0 (by assumption)) rfl rfl rfl (Nat.le_of_ble_eq_true rfl) (ct_women0 G _ _ (by exact g95_0)) ?_
  refine Rn.icmp_ge (tgt := 68) dX10_count_45 (by decide) (fun _ => ?_) (fun h9 => absurd h9 (by decide))
  refine Rn.iload_n dX10_count_68 rfl rfl ?_
  refine Rn.tableIn 152 dX10_count_69 (by decide) (by decide) rfl (by decide) ?_
  refine Rn.aload_n dX10_count_152 rfl rfl ?_
  refine Rn.getR dX10_count_153 fd_X10_13_9 (by first | rfl | exact gC0 (by assumption) | exact gL0 (by assumption)) rfl ?_
  refine Rn.bipush (v := (nI 7)) dX10_count_156 rfl ?_
  refine Rn.ialdN dX10_count_158 (by first | rfl | exact gC1 (by assumption) | exact gC2 (by assumption) | exact gC3 (by assumption) | exact gL1 (by assumption) | exact gL2 (by assumption) | exact gL3 (by assumption) | exact gL4 (by assumption) | exact gL5 (by assumption) | exact gL6 (by assumption)) ?_
  refine Rn.topI (nI 0) g95_7 ?_
  exact Rn.iret dX10_count_159 rfl (⟨rfl, rfl⟩)
theorem ct_X10_count_11 (F : FW I) : Ct G GAM mX10_count (d + 4) 0 [.ref 94, .int (nI 11)] I (Rp (some (.int (cntV 11))) (zup I 94 0 (nI 0))) := by
  obtain ⟨g95_0, g95_1, g95_2, g95_3, g95_4, g95_5, g95_6, g95_7, g95_8, g94_6, g94_7, g94_9, g94_14⟩ := F
  refine Ct.mk [some (.ref 94), some (.int (nI 11)), none, none, none] ?_
  refine Rn.aload_n dX10_count_0 rfl rfl ?_
  refine Rn.iconst (v := (nI 0)) dX10_count_1 rfl ?_
  refine Rn.putI dX10_count_2 fp_X10_3_9 (by first | rfl | exact gC0 (by assumption) | exact gL0 (by assumption)) rfl ?_
  refine Rn.iconst (v := (nI 0)) dX10_count_5 rfl ?_
  refine Rn.istore_n dX10_count_6 rfl (by decide) ?_
  refine Rn.iconst (v := (nI 0)) dX10_count_7 rfl ?_
  refine Rn.istore_n dX10_count_8 rfl (by decide) ?_
  refine Rn.iconst (v := (nI 0)) dX10_count_9 rfl ?_
  refine Rn.istore dX10_count_10 (by decide) ?_
  refine Rn.iload dX10_count_12 rfl ?_
  refine Rn.aload_n dX10_count_14 rfl rfl ?_
  refine Rn.callVp (As := []) dX10_count_15 mv_X10_82 (by first | rfl | exact gC0 (by assumption) | exact gL0 (by assumption)) rfl rfl rfl (Nat.le_of_ble_eq_true rfl) (ct_things0 G _ _ (by exact g95_1)) ?_
  refine Rn.icmp_ge (tgt := 36) dX10_count_18 (by decide) (fun _ => ?_) (fun h9 => absurd h9 (by decide))
  refine Rn.iconst (v := (nI 0)) dX10_count_36 rfl ?_
  refine Rn.istore dX10_count_37 (by decide) ?_
  refine Rn.iload dX10_count_39 rfl ?_
  refine Rn.aload_n dX10_count_41 rfl rfl ?_
  refine Rn.callVp (As := []) dX10_count_42 mv_X10_74 (by first | rfl | exact gC0 (by assumption) | exact gL0 (by assumption)) rfl rfl rfl (Nat.le_of_ble_eq_true rfl) (ct_women0 G _ _ (by exact g95_0)) ?_
  refine Rn.icmp_ge (tgt := 68) dX10_count_45 (by decide) (fun _ => ?_) (fun h9 => absurd h9 (by decide))
  refine Rn.iload_n dX10_count_68 rfl rfl ?_
  refine Rn.tableIn 160 dX10_count_69 (by decide) (by decide) rfl (by decide) ?_
  refine Rn.aload_n dX10_count_160 rfl rfl ?_
  refine Rn.getI dX10_count_161 fd_X10_58_9 (by first | rfl | exact gC0 (by assumption) | exact gL0 (by assumption)) rfl ?_
  refine Rn.topI (nI 0) g94_7 ?_
  exact Rn.iret dX10_count_164 rfl (⟨rfl, rfl⟩)
theorem ct_X10_count_o (F : FW I) (x : Int32) (h : x.toInt < 0 ∨ 11 < x.toInt) : Ct G GAM mX10_count (d + 4) 0 [.ref 94, .int x] I (Rp (some (.int (-1))) (zup I 94 0 (nI 0))) := by
  obtain ⟨g95_0, g95_1, g95_2, g95_3, g95_4, g95_5, g95_6, g95_7, g95_8, g94_6, g94_7, g94_9, g94_14⟩ := F
  refine Ct.mk [some (.ref 94), some (.int x), none, none, none] ?_
  refine Rn.aload_n dX10_count_0 rfl rfl ?_
  refine Rn.iconst (v := (nI 0)) dX10_count_1 rfl ?_
  refine Rn.putI dX10_count_2 fp_X10_3_9 (by first | rfl | exact gC0 (by assumption) | exact gL0 (by assumption)) rfl ?_
  refine Rn.iconst (v := (nI 0)) dX10_count_5 rfl ?_
  refine Rn.istore_n dX10_count_6 rfl (by decide) ?_
  refine Rn.iconst (v := (nI 0)) dX10_count_7 rfl ?_
  refine Rn.istore_n dX10_count_8 rfl (by decide) ?_
  refine Rn.iconst (v := (nI 0)) dX10_count_9 rfl ?_
  refine Rn.istore dX10_count_10 (by decide) ?_
  refine Rn.iload dX10_count_12 rfl ?_
  refine Rn.aload_n dX10_count_14 rfl rfl ?_
  refine Rn.callVp (As := []) dX10_count_15 mv_X10_82 (by first | rfl | exact gC0 (by assumption) | exact gL0 (by assumption)) rfl rfl rfl (Nat.le_of_ble_eq_true rfl) (ct_things0 G _ _ (by exact g95_1)) ?_
  refine Rn.icmp_ge (tgt := 36) dX10_count_18 (by decide) (fun _ => ?_) (fun h9 => absurd h9 (by decide))
  refine Rn.iconst (v := (nI 0)) dX10_count_36 rfl ?_
  refine Rn.istore dX10_count_37 (by decide) ?_
  refine Rn.iload dX10_count_39 rfl ?_
  refine Rn.aload_n dX10_count_41 rfl rfl ?_
  refine Rn.callVp (As := []) dX10_count_42 mv_X10_74 (by first | rfl | exact gC0 (by assumption) | exact gL0 (by assumption)) rfl rfl rfl (Nat.le_of_ble_eq_true rfl) (ct_women0 G _ _ (by exact g95_0)) ?_
  refine Rn.icmp_ge (tgt := 68) dX10_count_45 (by decide) (fun _ => ?_) (fun h9 => absurd h9 (by decide))
  refine Rn.iload_n dX10_count_68 rfl rfl ?_
  refine Rn.tableOut 165 dX10_count_69 (by omega) (by decide) ?_
  refine Rn.iload_n dX10_count_165 rfl rfl ?_
  refine Rn.iconst (v := (nI 0)) dX10_count_166 rfl ?_
  refine Rn.bipush (v := (nI 6)) dX10_count_167 rfl ?_
  refine Rn.callSp (As := [_, _, _]) dX10_count_169 ms_X10_78 rfl rfl (Nat.le_of_ble_eq_true rfl) (ct_in0 G _ _ _ _ _ (fun q => by have h1 := Int32.le_iff_toInt_le.mp q.1; have h2 := Int32.le_iff_toInt_le.mp q.2; rw [nI_toInt (by decide)] at h1 h2; omega)) ?_
  refine Rn.if_eq (tgt := 184) dX10_count_172 (by decide) (fun _ => ?_) (fun h9 => absurd h9 (by decide))
  refine Rn.iconst (v := (-1)) dX10_count_184 rfl ?_
  exact Rn.iret dX10_count_185 rfl (⟨rfl, rfl⟩)
end ModA
