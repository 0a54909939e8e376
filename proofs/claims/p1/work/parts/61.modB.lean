abbrev mX10_laysRow : Ym := (yX10_laysRow, cX10_laysRow, 10, none)
theorem dX10_laysRow_0 : decode cX10_laysRow 0 = .ok (.iload_n 1, 1) := by decide +kernel
theorem dX10_laysRow_1 : decode cX10_laysRow 1 = .ok (.istore_n 3, 1) := by decide +kernel
theorem dX10_laysRow_2 : decode cX10_laysRow 2 = .ok (.iload_n 1, 1) := by decide +kernel
theorem dX10_laysRow_3 : decode cX10_laysRow 3 = .ok (.invokestatic 342, 3) := by decide +kernel
theorem dX10_laysRow_6 : decode cX10_laysRow 6 = .ok (.istore 4, 2) := by decide +kernel
theorem dX10_laysRow_8 : decode cX10_laysRow 8 = .ok (.iload_n 2, 1) := by decide +kernel
theorem dX10_laysRow_9 : decode cX10_laysRow 9 = .ok (.istore 5, 2) := by decide +kernel
theorem dX10_laysRow_11 : decode cX10_laysRow 11 = .ok (.iconst 0, 1) := by decide +kernel
theorem dX10_laysRow_12 : decode cX10_laysRow 12 = .ok (.istore 6, 2) := by decide +kernel
theorem dX10_laysRow_14 : decode cX10_laysRow 14 = .ok (.iload 6, 2) := by decide +kernel
theorem dX10_laysRow_16 : decode cX10_laysRow 16 = .ok (.iload 4, 2) := by decide +kernel
theorem dX10_laysRow_18 : decode cX10_laysRow 18 = .ok (.if_icmp .ge 95, 3) := by decide +kernel
theorem dX10_laysRow_113 : decode cX10_laysRow 113 = .ok (.return_, 1) := by decide +kernel
abbrev mX10_jobAt : Ym := (yX10_jobAt, cX10_jobAt, 2, some .int)
theorem dX10_jobAt_0 : decode cX10_jobAt 0 = .ok (.iload_n 0, 1) := by decide +kernel
theorem dX10_jobAt_1 : decode cX10_jobAt 1 = .ok (.bipush 8, 2) := by decide +kernel
theorem dX10_jobAt_3 : decode cX10_jobAt 3 = .ok (.ishl, 1) := by decide +kernel
theorem dX10_jobAt_4 : decode cX10_jobAt 4 = .ok (.iload_n 1, 1) := by decide +kernel
theorem dX10_jobAt_5 : decode cX10_jobAt 5 = .ok (.iadd, 1) := by decide +kernel
theorem dX10_jobAt_6 : decode cX10_jobAt 6 = .ok (.ireturn, 1) := by decide +kernel
abbrev mX10_laysJobs : Ym := (yX10_laysJobs, cX10_laysJobs, 6, none)
theorem dX10_laysJobs_2 : decode cX10_laysJobs 2 = .ok (.iload_n 2, 1) := by decide +kernel
theorem dX10_laysJobs_3 : decode cX10_laysJobs 3 = .ok (.sipush 256, 3) := by decide +kernel
theorem dX10_laysJobs_6 : decode cX10_laysJobs 6 = .ok (.if_icmp .ge 20, 3) := by decide +kernel
theorem dX10_laysJobs_9 : decode cX10_laysJobs 9 = .ok (.aload_n 0, 1) := by decide +kernel
theorem dX10_laysJobs_10 : decode cX10_laysJobs 10 = .ok (.getfield 51, 3) := by decide +kernel
theorem fd_X10_51_9 : zFd RX10 51 9 22 := ⟨RX10, TX10, 23, "BorrowedLuckModel", rfl, by decide, uw_X10, Or.inl rfl, Or.inl wi_1285⟩
theorem dX10_laysJobs_13 : decode cX10_laysJobs 13 = .ok (.iload_n 1, 1) := by decide +kernel
theorem dX10_laysJobs_14 : decode cX10_laysJobs 14 = .ok (.iload_n 2, 1) := by decide +kernel
theorem dX10_laysJobs_15 : decode cX10_laysJobs 15 = .ok (.invokestatic 378, 3) := by decide +kernel
theorem wi_1789 : Cond.methodLink RX10 378 yX10_jobAt ∈ WA := zin 1789 (by decide +kernel) (by decide +kernel)
theorem wi_1791 : Cond.code yX10_jobAt cX10_jobAt 2 (some .int) ∈ WA := zin 1791 (by decide +kernel) (by decide +kernel)
theorem wi_1790 : Cond.static yX10_jobAt ∈ WA := zin 1790 (by decide +kernel) (by decide +kernel)
theorem ms_X10_378 : zMs RX10 378 mX10_jobAt 2 := ⟨⟨wi_1789, wi_110, wi_1791, by decide, by decide +kernel⟩, wi_1790⟩
theorem dX10_laysJobs_18 : decode cX10_laysJobs 18 = .ok (.iconst 0, 1) := by decide +kernel
theorem dX10_laysJobs_19 : decode cX10_laysJobs 19 = .ok (.iastore, 1) := by decide +kernel
theorem dX10_laysJobs_20 : decode cX10_laysJobs 20 = .ok (.iinc 2 1, 3) := by decide +kernel
theorem dX10_laysJobs_23 : decode cX10_laysJobs 23 = .ok (.goto (-21), 3) := by decide +kernel
theorem dX10_laysJobs_0 : decode cX10_laysJobs 0 = .ok (.iconst 0, 1) := by decide +kernel
theorem dX10_laysJobs_1 : decode cX10_laysJobs 1 = .ok (.istore_n 2, 1) := by decide +kernel
theorem dX10_laysJobs_26 : decode cX10_laysJobs 26 = .ok (.iload_n 1, 1) := by decide +kernel
theorem dX10_laysJobs_27 : decode cX10_laysJobs 27 = .ok (.iconst 1, 1) := by decide +kernel
theorem dX10_laysJobs_28 : decode cX10_laysJobs 28 = .ok (.isub, 1) := by decide +kernel
theorem dX10_laysJobs_29 : decode cX10_laysJobs 29 = .ok (.istore_n 2, 1) := by decide +kernel
theorem dX10_laysJobs_30 : decode cX10_laysJobs 30 = .ok (.iload_n 2, 1) := by decide +kernel
theorem dX10_laysJobs_31 : decode cX10_laysJobs 31 = .ok (.ifCond .lt 94, 3) := by decide +kernel
theorem dX10_laysJobs_125 : decode cX10_laysJobs 125 = .ok (.return_, 1) := by decide +kernel
abbrev mX10_match : Ym := (yX10_match, cX10_match, 9, some .int)
theorem dX10_match_0 : decode cX10_match 0 = .ok (.aload_n 0, 1) := by decide +kernel
theorem dX10_match_1 : decode cX10_match 1 = .ok (.iconst 0, 1) := by decide +kernel
theorem dX10_match_2 : decode cX10_match 2 = .ok (.putfield 3, 3) := by decide +kernel
theorem dX10_match_5 : decode cX10_match 5 = .ok (.iload_n 1, 1) := by decide +kernel
theorem dX10_match_6 : decode cX10_match 6 = .ok (.aload_n 0, 1) := by decide +kernel
theorem dX10_match_7 : decode cX10_match 7 = .ok (.invokevirtual 362, 3) := by decide +kernel
theorem dX10_match_10 : decode cX10_match 10 = .ok (.iand, 1) := by decide +kernel
theorem dX10_match_11 : decode cX10_match 11 = .ok (.istore_n 3, 1) := by decide +kernel
theorem dX10_match_12 : decode cX10_match 12 = .ok (.iload_n 3, 1) := by decide +kernel
theorem dX10_match_13 : decode cX10_match 13 = .ok (.invokestatic 342, 3) := by decide +kernel
theorem dX10_match_16 : decode cX10_match 16 = .ok (.istore 4, 2) := by decide +kernel
theorem dX10_match_18 : decode cX10_match 18 = .ok (.aload_n 0, 1) := by decide +kernel
theorem dX10_match_19 : decode cX10_match 19 = .ok (.iload 4, 2) := by decide +kernel
theorem dX10_match_21 : decode cX10_match 21 = .ok (.iconst 5, 1) := by decide +kernel
theorem dX10_match_22 : decode cX10_match 22 = .ok (.if_icmp .le 7, 3) := by decide +kernel
theorem dX10_match_29 : decode cX10_match 29 = .ok (.iconst 0, 1) := by decide +kernel
theorem dX10_match_30 : decode cX10_match 30 = .ok (.iconst 1, 1) := by decide +kernel
theorem dX10_match_31 : decode cX10_match 31 = .ok (.invokevirtual 241, 3) := by decide +kernel
theorem dX10_match_34 : decode cX10_match 34 = .ok (.ifCond .eq 5, 3) := by decide +kernel
theorem dX10_match_39 : decode cX10_match 39 = .ok (.aload_n 0, 1) := by decide +kernel
theorem dX10_match_40 : decode cX10_match 40 = .ok (.iload_n 3, 1) := by decide +kernel
theorem dX10_match_41 : decode cX10_match 41 = .ok (.iconst 0, 1) := by decide +kernel
theorem dX10_match_42 : decode cX10_match 42 = .ok (.invokevirtual 366, 3) := by decide +kernel
theorem wi_1740 : Cond.methodLink RX10 366 yX10_laysRow ∈ WA := zin 1740 (by decide +kernel) (by decide +kernel)
theorem wi_1743 : Cond.code yX10_laysRow cX10_laysRow 10 (none) ∈ WA := zin 1743 (by decide +kernel) (by decide +kernel)
theorem wi_1742 : Cond.instanceMethod yX10_laysRow ∈ WA := zin 1742 (by decide +kernel) (by decide +kernel)
theorem wi_82 : Cond.selects RX10 yX10_laysRow yX10_laysRow ∈ WA := zin 82 (by decide +kernel) (by decide +kernel)
theorem mv_X10_366 : zMv RX10 366 RX10 mX10_laysRow 2 := ⟨⟨wi_1740, wi_110, wi_1743, by decide, by decide +kernel⟩, wi_1742, wi_82⟩
theorem dX10_match_45 : decode cX10_match 45 = .ok (.aload_n 0, 1) := by decide +kernel
theorem dX10_match_46 : decode cX10_match 46 = .ok (.iload 4, 2) := by decide +kernel
theorem dX10_match_48 : decode cX10_match 48 = .ok (.invokevirtual 385, 3) := by decide +kernel
theorem wi_1785 : Cond.methodLink RX10 385 yX10_laysJobs ∈ WA := zin 1785 (by decide +kernel) (by decide +kernel)
theorem wi_1788 : Cond.code yX10_laysJobs cX10_laysJobs 6 (none) ∈ WA := zin 1788 (by decide +kernel) (by decide +kernel)
theorem wi_1787 : Cond.instanceMethod yX10_laysJobs ∈ WA := zin 1787 (by decide +kernel) (by decide +kernel)
theorem wi_87 : Cond.selects RX10 yX10_laysJobs yX10_laysJobs ∈ WA := zin 87 (by decide +kernel) (by decide +kernel)
theorem mv_X10_385 : zMv RX10 385 RX10 mX10_laysJobs 1 := ⟨⟨wi_1785, wi_110, wi_1788, by decide, by decide +kernel⟩, wi_1787, wi_87⟩
theorem dX10_match_51 : decode cX10_match 51 = .ok (.aload_n 0, 1) := by decide +kernel
theorem dX10_match_52 : decode cX10_match 52 = .ok (.getfield 51, 3) := by decide +kernel
theorem dX10_match_55 : decode cX10_match 55 = .ok (.iconst 0, 1) := by decide +kernel
theorem dX10_match_56 : decode cX10_match 56 = .ok (.iconst 0, 1) := by decide +kernel
theorem dX10_match_57 : decode cX10_match 57 = .ok (.invokestatic 378, 3) := by decide +kernel
theorem dX10_match_60 : decode cX10_match 60 = .ok (.iaload, 1) := by decide +kernel
theorem dX10_match_61 : decode cX10_match 61 = .ok (.istore 5, 2) := by decide +kernel
theorem dX10_match_63 : decode cX10_match 63 = .ok (.iload_n 2, 1) := by decide +kernel
theorem dX10_match_64 : decode cX10_match 64 = .ok (.iconst (-1), 1) := by decide +kernel
theorem dX10_match_65 : decode cX10_match 65 = .ok (.if_icmp .ne 6, 3) := by decide +kernel
theorem dX10_match_71 : decode cX10_match 71 = .ok (.iload_n 2, 1) := by decide +kernel
theorem dX10_match_72 : decode cX10_match 72 = .ok (.iconst 0, 1) := by decide +kernel
theorem dX10_match_73 : decode cX10_match 73 = .ok (.iload 4, 2) := by decide +kernel
theorem dX10_match_75 : decode cX10_match 75 = .ok (.iconst 1, 1) := by decide +kernel
theorem dX10_match_76 : decode cX10_match 76 = .ok (.isub, 1) := by decide +kernel
theorem dX10_match_77 : decode cX10_match 77 = .ok (.invokestatic 78, 3) := by decide +kernel
theorem dX10_match_80 : decode cX10_match 80 = .ok (.ifCond .eq 11, 3) := by decide +kernel
theorem dX10_match_91 : decode cX10_match 91 = .ok (.iconst (-1), 1) := by decide +kernel
theorem dX10_match_92 : decode cX10_match 92 = .ok (.ireturn, 1) := by decide +kernel
theorem dX10_match_68 : decode cX10_match 68 = .ok (.iload 5, 2) := by decide +kernel
theorem dX10_match_70 : decode cX10_match 70 = .ok (.ireturn, 1) := by decide +kernel
abbrev mX10_oneDay : Ym := (yX10_oneDay, cX10_oneDay, 4, some .int)
theorem dX10_oneDay_0 : decode cX10_oneDay 0 = .ok (.iconst 0, 1) := by decide +kernel
theorem dX10_oneDay_1 : decode cX10_oneDay 1 = .ok (.istore_n 1, 1) := by decide +kernel
theorem dX10_oneDay_2 : decode cX10_oneDay 2 = .ok (.aload_n 0, 1) := by decide +kernel
theorem dX10_oneDay_3 : decode cX10_oneDay 3 = .ok (.invokevirtual 74, 3) := by decide +kernel
theorem dX10_oneDay_6 : decode cX10_oneDay 6 = .ok (.ifCond .le 101, 3) := by decide +kernel
theorem dX10_oneDay_107 : decode cX10_oneDay 107 = .ok (.aload_n 0, 1) := by decide +kernel
theorem dX10_oneDay_108 : decode cX10_oneDay 108 = .ok (.getfield 13, 3) := by decide +kernel
theorem dX10_oneDay_111 : decode cX10_oneDay 111 = .ok (.iconst 4, 1) := by decide +kernel
theorem dX10_oneDay_112 : decode cX10_oneDay 112 = .ok (.sipush 9999, 3) := by decide +kernel
theorem dX10_oneDay_115 : decode cX10_oneDay 115 = .ok (.aload_n 0, 1) := by decide +kernel
theorem dX10_oneDay_116 : decode cX10_oneDay 116 = .ok (.getfield 13, 3) := by decide +kernel
theorem dX10_oneDay_119 : decode cX10_oneDay 119 = .ok (.iconst 4, 1) := by decide +kernel
theorem dX10_oneDay_120 : decode cX10_oneDay 120 = .ok (.iaload, 1) := by decide +kernel
theorem dX10_oneDay_121 : decode cX10_oneDay 121 = .ok (.iconst 1, 1) := by decide +kernel
theorem dX10_oneDay_122 : decode cX10_oneDay 122 = .ok (.iadd, 1) := by decide +kernel
theorem dX10_oneDay_123 : decode cX10_oneDay 123 = .ok (.invokestatic 266, 3) := by decide +kernel
theorem wi_1626 : Cond.methodLink RX10 266 yJ9_min_7cf53 ∈ WA := zin 1626 (by decide +kernel) (by decide +kernel)
theorem ms_X10_266 : zMs RX10 266 mJ9_min_7cf53 2 := ⟨⟨wi_1626, wi_112, wi_569, by decide, by decide +kernel⟩, wi_568⟩
theorem dX10_oneDay_126 : decode cX10_oneDay 126 = .ok (.iastore, 1) := by decide +kernel
theorem dX10_oneDay_127 : decode cX10_oneDay 127 = .ok (.iload_n 1, 1) := by decide +kernel
theorem dX10_oneDay_128 : decode cX10_oneDay 128 = .ok (.ireturn, 1) := by decide +kernel
abbrev mX10_goesOn : Ym := (yX10_goesOn, cX10_goesOn, 4, some .int)
theorem dX10_goesOn_4 : decode cX10_goesOn 4 = .ok (.iload_n 3, 1) := by decide +kernel
theorem dX10_goesOn_5 : decode cX10_goesOn 5 = .ok (.iload_n 1, 1) := by decide +kernel
theorem dX10_goesOn_6 : decode cX10_goesOn 6 = .ok (.if_icmp .ge 16, 3) := by decide +kernel
theorem dX10_goesOn_9 : decode cX10_goesOn 9 = .ok (.iload_n 2, 1) := by decide +kernel
theorem dX10_goesOn_10 : decode cX10_goesOn 10 = .ok (.aload_n 0, 1) := by decide +kernel
theorem dX10_goesOn_11 : decode cX10_goesOn 11 = .ok (.invokevirtual 327, 3) := by decide +kernel
theorem wi_1702 : Cond.methodLink RX10 327 yX10_oneDay ∈ WA := zin 1702 (by decide +kernel) (by decide +kernel)
theorem wi_1705 : Cond.code yX10_oneDay cX10_oneDay 4 (some .int) ∈ WA := zin 1705 (by decide +kernel) (by decide +kernel)
theorem wi_1704 : Cond.instanceMethod yX10_oneDay ∈ WA := zin 1704 (by decide +kernel) (by decide +kernel)
theorem wi_76 : Cond.selects RX10 yX10_oneDay yX10_oneDay ∈ WA := zin 76 (by decide +kernel) (by decide +kernel)
theorem mv_X10_327 : zMv RX10 327 RX10 mX10_oneDay 0 := ⟨⟨wi_1702, wi_110, wi_1705, by decide, by decide +kernel⟩, wi_1704, wi_76⟩
theorem dX10_goesOn_14 : decode cX10_goesOn 14 = .ok (.iadd, 1) := by decide +kernel
theorem dX10_goesOn_15 : decode cX10_goesOn 15 = .ok (.istore_n 2, 1) := by decide +kernel
theorem dX10_goesOn_16 : decode cX10_goesOn 16 = .ok (.iinc 3 1, 3) := by decide +kernel
theorem dX10_goesOn_19 : decode cX10_goesOn 19 = .ok (.goto (-15), 3) := by decide +kernel
theorem dX10_goesOn_0 : decode cX10_goesOn 0 = .ok (.iconst 0, 1) := by decide +kernel
theorem dX10_goesOn_1 : decode cX10_goesOn 1 = .ok (.istore_n 2, 1) := by decide +kernel
theorem dX10_goesOn_2 : decode cX10_goesOn 2 = .ok (.iconst 0, 1) := by decide +kernel
theorem dX10_goesOn_3 : decode cX10_goesOn 3 = .ok (.istore_n 3, 1) := by decide +kernel
theorem dX10_goesOn_22 : decode cX10_goesOn 22 = .ok (.iload_n 2, 1) := by decide +kernel
theorem dX10_goesOn_23 : decode cX10_goesOn 23 = .ok (.ireturn, 1) := by decide +kernel
abbrev mX10_remembers : Ym := (yX10_remembers, cX10_remembers, 2, none)
theorem dX10_remembers_55 : decode cX10_remembers 55 = .ok (.iload_n 1, 1) := by decide +kernel
theorem dX10_remembers_56 : decode cX10_remembers 56 = .ok (.sipush 377, 3) := by decide +kernel
theorem dX10_remembers_59 : decode cX10_remembers 59 = .ok (.if_icmp .ge 32, 3) := by decide +kernel
theorem dX10_remembers_62 : decode cX10_remembers 62 = .ok (.aload_n 0, 1) := by decide +kernel
theorem dX10_remembers_63 : decode cX10_remembers 63 = .ok (.getfield 26, 3) := by decide +kernel
theorem fd_X10_26_9 : zFd RX10 26 9 5 := ⟨RX10, TX10, 23, "BorrowedLuckModel", rfl, by decide, uw_X10, Or.inl rfl, Or.inl wi_1268⟩
theorem dX10_remembers_66 : decode cX10_remembers 66 = .ok (.sipush 377, 3) := by decide +kernel
theorem dX10_remembers_69 : decode cX10_remembers 69 = .ok (.aload_n 0, 1) := by decide +kernel
theorem dX10_remembers_70 : decode cX10_remembers 70 = .ok (.getfield 58, 3) := by decide +kernel
theorem dX10_remembers_73 : decode cX10_remembers 73 = .ok (.iconst 1, 1) := by decide +kernel
theorem dX10_remembers_74 : decode cX10_remembers 74 = .ok (.isub, 1) := by decide +kernel
theorem dX10_remembers_75 : decode cX10_remembers 75 = .ok (.imul, 1) := by decide +kernel
theorem dX10_remembers_76 : decode cX10_remembers 76 = .ok (.iload_n 1, 1) := by decide +kernel
theorem dX10_remembers_77 : decode cX10_remembers 77 = .ok (.iadd, 1) := by decide +kernel
theorem dX10_remembers_78 : decode cX10_remembers 78 = .ok (.aload_n 0, 1) := by decide +kernel
theorem dX10_remembers_79 : decode cX10_remembers 79 = .ok (.getfield 13, 3) := by decide +kernel
theorem dX10_remembers_82 : decode cX10_remembers 82 = .ok (.iload_n 1, 1) := by decide +kernel
theorem dX10_remembers_83 : decode cX10_remembers 83 = .ok (.iaload, 1) := by decide +kernel
theorem dX10_remembers_84 : decode cX10_remembers 84 = .ok (.iastore, 1) := by decide +kernel
theorem dX10_remembers_85 : decode cX10_remembers 85 = .ok (.iinc 1 1, 3) := by decide +kernel
theorem dX10_remembers_88 : decode cX10_remembers 88 = .ok (.goto (-33), 3) := by decide +kernel
theorem dX10_remembers_0 : decode cX10_remembers 0 = .ok (.aload_n 0, 1) := by decide +kernel
theorem dX10_remembers_1 : decode cX10_remembers 1 = .ok (.getfield 58, 3) := by decide +kernel
theorem dX10_remembers_4 : decode cX10_remembers 4 = .ok (.bipush 12, 2) := by decide +kernel
theorem dX10_remembers_6 : decode cX10_remembers 6 = .ok (.if_icmp .ne 37, 3) := by decide +kernel
theorem dX10_remembers_43 : decode cX10_remembers 43 = .ok (.aload_n 0, 1) := by decide +kernel
theorem dX10_remembers_44 : decode cX10_remembers 44 = .ok (.dup, 1) := by decide +kernel
theorem dX10_remembers_45 : decode cX10_remembers 45 = .ok (.getfield 58, 3) := by decide +kernel
theorem dX10_remembers_48 : decode cX10_remembers 48 = .ok (.iconst 1, 1) := by decide +kernel
theorem dX10_remembers_49 : decode cX10_remembers 49 = .ok (.iadd, 1) := by decide +kernel
theorem dX10_remembers_50 : decode cX10_remembers 50 = .ok (.putfield 58, 3) := by decide +kernel
theorem dX10_remembers_53 : decode cX10_remembers 53 = .ok (.iconst 0, 1) := by decide +kernel
theorem dX10_remembers_54 : decode cX10_remembers 54 = .ok (.istore_n 1, 1) := by decide +kernel
theorem dX10_remembers_91 : decode cX10_remembers 91 = .ok (.return_, 1) := by decide +kernel
abbrev mX10_days : Ym := (yX10_days, cX10_days, 2, some .int)
theorem dX10_days_0 : decode cX10_days 0 = .ok (.aload_n 0, 1) := by decide +kernel
theorem dX10_days_1 : decode cX10_days 1 = .ok (.iconst 0, 1) := by decide +kernel
theorem dX10_days_2 : decode cX10_days 2 = .ok (.putfield 3, 3) := by decide +kernel
theorem dX10_days_5 : decode cX10_days 5 = .ok (.aload_n 0, 1) := by decide +kernel
theorem dX10_days_6 : decode cX10_days 6 = .ok (.iload_n 1, 1) := by decide +kernel
theorem dX10_days_7 : decode cX10_days 7 = .ok (.iconst 1, 1) := by decide +kernel
theorem dX10_days_8 : decode cX10_days 8 = .ok (.bipush 60, 2) := by decide +kernel
theorem dX10_days_10 : decode cX10_days 10 = .ok (.invokestatic 78, 3) := by decide +kernel
theorem dX10_days_13 : decode cX10_days 13 = .ok (.ifCond .ne 7, 3) := by decide +kernel
theorem dX10_days_20 : decode cX10_days 20 = .ok (.iconst 0, 1) := by decide +kernel
theorem dX10_days_21 : decode cX10_days 21 = .ok (.iconst 1, 1) := by decide +kernel
theorem dX10_days_22 : decode cX10_days 22 = .ok (.invokevirtual 241, 3) := by decide +kernel
theorem dX10_days_25 : decode cX10_days 25 = .ok (.ifCond .eq 5, 3) := by decide +kernel
theorem dX10_days_30 : decode cX10_days 30 = .ok (.aload_n 0, 1) := by decide +kernel
theorem dX10_days_31 : decode cX10_days 31 = .ok (.invokevirtual 333, 3) := by decide +kernel
theorem wi_1654 : Cond.methodLink RX10 333 yX10_remembers ∈ WA := zin 1654 (by decide +kernel) (by decide +kernel)
theorem wi_1657 : Cond.code yX10_remembers cX10_remembers 2 (none) ∈ WA := zin 1657 (by decide +kernel) (by decide +kernel)
theorem wi_1656 : Cond.instanceMethod yX10_remembers ∈ WA := zin 1656 (by decide +kernel) (by decide +kernel)
theorem wi_70 : Cond.selects RX10 yX10_remembers yX10_remembers ∈ WA := zin 70 (by decide +kernel) (by decide +kernel)
theorem mv_X10_333 : zMv RX10 333 RX10 mX10_remembers 0 := ⟨⟨wi_1654, wi_110, wi_1657, by decide, by decide +kernel⟩, wi_1656, wi_70⟩
theorem dX10_days_34 : decode cX10_days 34 = .ok (.aload_n 0, 1) := by decide +kernel
theorem dX10_days_35 : decode cX10_days 35 = .ok (.iload_n 1, 1) := by decide +kernel
theorem dX10_days_36 : decode cX10_days 36 = .ok (.invokevirtual 336, 3) := by decide +kernel
theorem wi_1698 : Cond.methodLink RX10 336 yX10_goesOn ∈ WA := zin 1698 (by decide +kernel) (by decide +kernel)
theorem wi_1701 : Cond.code yX10_goesOn cX10_goesOn 4 (some .int) ∈ WA := zin 1701 (by decide +kernel) (by decide +kernel)
theorem wi_1700 : Cond.instanceMethod yX10_goesOn ∈ WA := zin 1700 (by decide +kernel) (by decide +kernel)
theorem wi_75 : Cond.selects RX10 yX10_goesOn yX10_goesOn ∈ WA := zin 75 (by decide +kernel) (by decide +kernel)
theorem mv_X10_336 : zMv RX10 336 RX10 mX10_goesOn 1 := ⟨⟨wi_1698, wi_110, wi_1701, by decide, by decide +kernel⟩, wi_1700, wi_75⟩
theorem dX10_days_39 : decode cX10_days 39 = .ok (.ireturn, 1) := by decide +kernel
theorem dX10_days_16 : decode cX10_days 16 = .ok (.iconst 1, 1) := by decide +kernel
theorem dX10_days_17 : decode cX10_days 17 = .ok (.goto 4, 3) := by decide +kernel
theorem dX10_days_28 : decode cX10_days 28 = .ok (.iconst 0, 1) := by decide +kernel
theorem dX10_days_29 : decode cX10_days 29 = .ok (.ireturn, 1) := by decide +kernel
abbrev mX10_trial : Ym := (yX10_trial, cX10_trial, 4, some .int)
theorem dX10_trial_0 : decode cX10_trial 0 = .ok (.aload_n 0, 1) := by decide +kernel
theorem dX10_trial_1 : decode cX10_trial 1 = .ok (.iconst 0, 1) := by decide +kernel
theorem dX10_trial_2 : decode cX10_trial 2 = .ok (.putfield 3, 3) := by decide +kernel
theorem dX10_trial_5 : decode cX10_trial 5 = .ok (.aload_n 0, 1) := by decide +kernel
theorem dX10_trial_6 : decode cX10_trial 6 = .ok (.iload_n 1, 1) := by decide +kernel
theorem dX10_trial_7 : decode cX10_trial 7 = .ok (.iconst 0, 1) := by decide +kernel
theorem dX10_trial_8 : decode cX10_trial 8 = .ok (.bipush 60, 2) := by decide +kernel
theorem dX10_trial_10 : decode cX10_trial 10 = .ok (.invokestatic 78, 3) := by decide +kernel
theorem dX10_trial_13 : decode cX10_trial 13 = .ok (.ifCond .ne 7, 3) := by decide +kernel
theorem dX10_trial_20 : decode cX10_trial 20 = .ok (.iconst 0, 1) := by decide +kernel
theorem dX10_trial_21 : decode cX10_trial 21 = .ok (.iconst 1, 1) := by decide +kernel
theorem dX10_trial_22 : decode cX10_trial 22 = .ok (.invokevirtual 241, 3) := by decide +kernel
theorem dX10_trial_25 : decode cX10_trial 25 = .ok (.ifCond .eq 5, 3) := by decide +kernel
theorem dX10_trial_30 : decode cX10_trial 30 = .ok (.aload_n 0, 1) := by decide +kernel
theorem dX10_trial_31 : decode cX10_trial 31 = .ok (.invokevirtual 352, 3) := by decide +kernel
theorem wi_1751 : Cond.methodLink RX10 352 yX10_keepsAll ∈ WA := zin 1751 (by decide +kernel) (by decide +kernel)
theorem wi_1754 : Cond.code yX10_keepsAll cX10_keepsAll 2 (none) ∈ WA := zin 1754 (by decide +kernel) (by decide +kernel)
theorem wi_1753 : Cond.instanceMethod yX10_keepsAll ∈ WA := zin 1753 (by decide +kernel) (by decide +kernel)
theorem wi_84 : Cond.selects RX10 yX10_keepsAll yX10_keepsAll ∈ WA := zin 84 (by decide +kernel) (by decide +kernel)
theorem mv_X10_352 : zMv RX10 352 RX10 mX10_keepsAll 0 := ⟨⟨wi_1751, wi_110, wi_1754, by decide, by decide +kernel⟩, wi_1753, wi_84⟩
theorem dX10_trial_34 : decode cX10_trial 34 = .ok (.aload_n 0, 1) := by decide +kernel
theorem dX10_trial_35 : decode cX10_trial 35 = .ok (.iload_n 1, 1) := by decide +kernel
theorem dX10_trial_36 : decode cX10_trial 36 = .ok (.invokevirtual 336, 3) := by decide +kernel
theorem dX10_trial_39 : decode cX10_trial 39 = .ok (.pop, 1) := by decide +kernel
theorem dX10_trial_40 : decode cX10_trial 40 = .ok (.iload_n 2, 1) := by decide +kernel
theorem dX10_trial_41 : decode cX10_trial 41 = .ok (.ifCond .eq 13, 3) := by decide +kernel
theorem dX10_trial_54 : decode cX10_trial 54 = .ok (.aload_n 0, 1) := by decide +kernel
theorem dX10_trial_55 : decode cX10_trial 55 = .ok (.invokevirtual 419, 3) := by decide +kernel
theorem dX10_trial_58 : decode cX10_trial 58 = .ok (.istore_n 3, 1) := by decide +kernel
theorem dX10_trial_59 : decode cX10_trial 59 = .ok (.aload_n 0, 1) := by decide +kernel
theorem dX10_trial_60 : decode cX10_trial 60 = .ok (.invokevirtual 359, 3) := by decide +kernel
theorem wi_1756 : Cond.methodLink RX10 359 yX10_bringsBack ∈ WA := zin 1756 (by decide +kernel) (by decide +kernel)
theorem wi_1759 : Cond.code yX10_bringsBack cX10_bringsBack 2 (none) ∈ WA := zin 1759 (by decide +kernel) (by decide +kernel)
theorem wi_1758 : Cond.instanceMethod yX10_bringsBack ∈ WA := zin 1758 (by decide +kernel) (by decide +kernel)
theorem wi_85 : Cond.selects RX10 yX10_bringsBack yX10_bringsBack ∈ WA := zin 85 (by decide +kernel) (by decide +kernel)
theorem mv_X10_359 : zMv RX10 359 RX10 mX10_bringsBack 0 := ⟨⟨wi_1756, wi_110, wi_1759, by decide, by decide +kernel⟩, wi_1758, wi_85⟩
theorem dX10_trial_63 : decode cX10_trial 63 = .ok (.iload_n 3, 1) := by decide +kernel
theorem dX10_trial_64 : decode cX10_trial 64 = .ok (.ireturn, 1) := by decide +kernel
theorem dX10_trial_44 : decode cX10_trial 44 = .ok (.aload_n 0, 1) := by decide +kernel
theorem dX10_trial_45 : decode cX10_trial 45 = .ok (.bipush 7, 2) := by decide +kernel
theorem dX10_trial_47 : decode cX10_trial 47 = .ok (.iconst 1, 1) := by decide +kernel
theorem dX10_trial_48 : decode cX10_trial 48 = .ok (.invokevirtual 278, 3) := by decide +kernel
theorem dX10_trial_51 : decode cX10_trial 51 = .ok (.goto 7, 3) := by decide +kernel
theorem dX10_trial_16 : decode cX10_trial 16 = .ok (.iconst 1, 1) := by decide +kernel
theorem dX10_trial_17 : decode cX10_trial 17 = .ok (.goto 4, 3) := by decide +kernel
theorem dX10_trial_28 : decode cX10_trial 28 = .ok (.iconst 0, 1) := by decide +kernel
theorem dX10_trial_29 : decode cX10_trial 29 = .ok (.ireturn, 1) := by decide +kernel
abbrev mX10_span : Ym := (yX10_span, cX10_span, 6, some .int)
theorem dX10_span_0 : decode cX10_span 0 = .ok (.aload_n 0, 1) := by decide +kernel
theorem dX10_span_1 : decode cX10_span 1 = .ok (.iconst 0, 1) := by decide +kernel
theorem dX10_span_2 : decode cX10_span 2 = .ok (.putfield 3, 3) := by decide +kernel
theorem dX10_span_5 : decode cX10_span 5 = .ok (.aload_n 0, 1) := by decide +kernel
theorem dX10_span_6 : decode cX10_span 6 = .ok (.iload_n 1, 1) := by decide +kernel
theorem dX10_span_7 : decode cX10_span 7 = .ok (.iconst 0, 1) := by decide +kernel
theorem dX10_span_8 : decode cX10_span 8 = .ok (.bipush 60, 2) := by decide +kernel
theorem dX10_span_10 : decode cX10_span 10 = .ok (.invokestatic 78, 3) := by decide +kernel
theorem dX10_span_13 : decode cX10_span 13 = .ok (.ifCond .ne 7, 3) := by decide +kernel
theorem dX10_span_16 : decode cX10_span 16 = .ok (.iconst 1, 1) := by decide +kernel
theorem dX10_span_17 : decode cX10_span 17 = .ok (.goto 4, 3) := by decide +kernel
theorem dX10_span_21 : decode cX10_span 21 = .ok (.iconst 1, 1) := by decide +kernel
theorem dX10_span_22 : decode cX10_span 22 = .ok (.invokevirtual 241, 3) := by decide +kernel
theorem dX10_span_25 : decode cX10_span 25 = .ok (.ifCond .eq 5, 3) := by decide +kernel
theorem dX10_span_28 : decode cX10_span 28 = .ok (.iconst 0, 1) := by decide +kernel
theorem dX10_span_29 : decode cX10_span 29 = .ok (.ireturn, 1) := by decide +kernel
theorem dX10_span_20 : decode cX10_span 20 = .ok (.iconst 0, 1) := by decide +kernel
theorem dX10_span_30 : decode cX10_span 30 = .ok (.aload_n 0, 1) := by decide +kernel
theorem dX10_span_31 : decode cX10_span 31 = .ok (.invokevirtual 352, 3) := by decide +kernel
theorem dX10_span_34 : decode cX10_span 34 = .ok (.iconst (-1), 1) := by decide +kernel
theorem dX10_span_35 : decode cX10_span 35 = .ok (.istore_n 3, 1) := by decide +kernel
theorem dX10_span_36 : decode cX10_span 36 = .ok (.iconst 1, 1) := by decide +kernel
theorem dX10_span_37 : decode cX10_span 37 = .ok (.istore 4, 2) := by decide +kernel
theorem dX10_span_39 : decode cX10_span 39 = .ok (.iload 4, 2) := by decide +kernel
theorem dX10_span_41 : decode cX10_span 41 = .ok (.bipush 6, 2) := by decide +kernel
theorem dX10_span_43 : decode cX10_span 43 = .ok (.if_icmp .gt 63, 3) := by decide +kernel
theorem dX10_span_46 : decode cX10_span 46 = .ok (.aload_n 0, 1) := by decide +kernel
theorem dX10_span_47 : decode cX10_span 47 = .ok (.getfield 13, 3) := by decide +kernel
theorem dX10_span_50 : decode cX10_span 50 = .ok (.bipush 8, 2) := by decide +kernel
theorem dX10_span_52 : decode cX10_span 52 = .ok (.iload 4, 2) := by decide +kernel
theorem dX10_span_54 : decode cX10_span 54 = .ok (.iastore, 1) := by decide +kernel
theorem dX10_span_55 : decode cX10_span 55 = .ok (.aload_n 0, 1) := by decide +kernel
theorem dX10_span_56 : decode cX10_span 56 = .ok (.iload_n 1, 1) := by decide +kernel
theorem dX10_span_57 : decode cX10_span 57 = .ok (.invokevirtual 336, 3) := by decide +kernel
theorem dX10_span_60 : decode cX10_span 60 = .ok (.pop, 1) := by decide +kernel
theorem dX10_span_61 : decode cX10_span 61 = .ok (.aload_n 0, 1) := by decide +kernel
theorem dX10_span_62 : decode cX10_span 62 = .ok (.invokevirtual 419, 3) := by decide +kernel
theorem dX10_span_65 : decode cX10_span 65 = .ok (.istore 5, 2) := by decide +kernel
theorem dX10_span_67 : decode cX10_span 67 = .ok (.aload_n 0, 1) := by decide +kernel
theorem dX10_span_68 : decode cX10_span 68 = .ok (.invokevirtual 359, 3) := by decide +kernel
theorem dX10_span_71 : decode cX10_span 71 = .ok (.iload_n 3, 1) := by decide +kernel
theorem dX10_span_72 : decode cX10_span 72 = .ok (.ifCond .ge 8, 3) := by decide +kernel
theorem dX10_span_75 : decode cX10_span 75 = .ok (.iload 5, 2) := by decide +kernel
theorem dX10_span_77 : decode cX10_span 77 = .ok (.goto 22, 3) := by decide +kernel
theorem dX10_span_99 : decode cX10_span 99 = .ok (.istore_n 3, 1) := by decide +kernel
theorem dX10_span_100 : decode cX10_span 100 = .ok (.iinc 4 1, 3) := by decide +kernel
theorem dX10_span_103 : decode cX10_span 103 = .ok (.goto (-64), 3) := by decide +kernel
theorem dX10_span_80 : decode cX10_span 80 = .ok (.iload_n 2, 1) := by decide +kernel
theorem dX10_span_81 : decode cX10_span 81 = .ok (.ifCond .eq 12, 3) := by decide +kernel
theorem dX10_span_93 : decode cX10_span 93 = .ok (.iload_n 3, 1) := by decide +kernel
theorem dX10_span_94 : decode cX10_span 94 = .ok (.iload 5, 2) := by decide +kernel
theorem dX10_span_96 : decode cX10_span 96 = .ok (.invokestatic 266, 3) := by decide +kernel
theorem dX10_span_106 : decode cX10_span 106 = .ok (.iload_n 3, 1) := by decide +kernel
theorem dX10_span_107 : decode cX10_span 107 = .ok (.ireturn, 1) := by decide +kernel
theorem dX10_span_84 : decode cX10_span 84 = .ok (.iload_n 3, 1) := by decide +kernel
theorem dX10_span_85 : decode cX10_span 85 = .ok (.iload 5, 2) := by decide +kernel
theorem dX10_span_87 : decode cX10_span 87 = .ok (.invokestatic 372, 3) := by decide +kernel
theorem wi_1760 : Cond.methodLink RX10 372 yJ9_max_7cf53 ∈ WA := zin 1760 (by decide +kernel) (by decide +kernel)
theorem ms_X10_372 : zMs RX10 372 mJ9_max_7cf53 2 := ⟨⟨wi_1760, wi_112, wi_572, by decide, by decide +kernel⟩, wi_571⟩
theorem dX10_span_90 : decode cX10_span 90 = .ok (.goto 9, 3) := by decide +kernel
theorem zset_ne' (I : Hi) {a c : Nat} (g : Nat → Int32) (h : c ≠ a) : zset I a g c = I c := zset_ne I g h
section ModB
variable (G : Gx) (d : Nat) (I : Hi)
theorem ct_laysRow0 : Ct G GAM mX10_laysRow (d + 1) 0 [.ref 94, .int (nI 0), .int (nI 0)] I (Rp none I) := by
  refine Ct.mk [some (.ref 94), some (.int (nI 0)), some (.int (nI 0)), none, none, none, none, none, none, none] ?_
  refine Rn.iload_n dX10_laysRow_0 rfl rfl ?_
  refine Rn.istore_n dX10_laysRow_1 rfl (by decide) ?_
  refine Rn.iload_n dX10_laysRow_2 rfl rfl ?_
  refine Rn.callSp (As := [_]) dX10_laysRow_3 ms_X10_342 rfl rfl (Nat.le_of_ble_eq_true rfl) (ct_bitCount0 G _ _) ?_
  refine Rn.istore dX10_laysRow_6 (by decide) ?_
  refine Rn.iload_n dX10_laysRow_8 rfl rfl ?_
  refine Rn.istore dX10_laysRow_9 (by decide) ?_
  refine Rn.iconst (v := (nI 0)) dX10_laysRow_11 rfl ?_
  refine Rn.istore dX10_laysRow_12 (by decide) ?_
  refine Rn.iload dX10_laysRow_14 rfl ?_
  refine Rn.iload dX10_laysRow_16 rfl ?_
  refine Rn.icmp_ge (tgt := 113) dX10_laysRow_18 (by decide) (fun _ => ?_) (fun h9 => absurd h9 (by decide))
  exact Rn.vret dX10_laysRow_113 rfl (⟨rfl, rfl⟩)
theorem ct_jobAt0 (j : Nat) : Ct G GAM mX10_jobAt d 0 [.int (nI 0), .int (nI j)] I (Rp (some (.int (nI j))) I) := by
  refine Ct.mk [some (.int (nI 0)), some (.int (nI j))] ?_
  refine Rn.iload_n dX10_jobAt_0 rfl rfl ?_
  refine Rn.bipush (v := (nI 8)) dX10_jobAt_1 rfl ?_
  refine Rn.ishl dX10_jobAt_3 ?_
  refine Rn.iload_n dX10_jobAt_4 rfl rfl ?_
  refine Rn.iadd dX10_jobAt_5 ?_
  exact Rn.iret dX10_jobAt_6 rfl (⟨by rw [show (nI 0 <<< (nI 8 &&& 31) : Int32) = 0 from by decide, Int32.zero_add], rfl⟩)
theorem lp_laysJobs {kx : Kx} {b : Nat} (J : Hi) (k : Rn G GAM mX10_laysJobs kx (d + 1) b 26 [some (.ref 94), some (.int (nI 0)), some (.int (nI 256)), none, none, none] [] (zset J 106 (cp (fun _ => nI 0) (J 106) 256))) : ∀ n i : Nat, i + n = 256 → Rn G GAM mX10_laysJobs kx (d + 1) b 2 [some (.ref 94), some (.int (nI 0)), some (.int (nI i)), none, none, none] [] (zset J 106 (cp (fun _ => nI 0) (J 106) i)) := by
  intro n
  induction n with
  | zero =>
    intro i hi
    obtain rfl : i = 256 := by omega
    refine Rn.iload_n dX10_laysJobs_2 rfl rfl ?_
    refine Rn.sipush (v := (nI 256)) dX10_laysJobs_3 rfl ?_
    refine Rn.icmp_ge (tgt := 26) dX10_laysJobs_6 (by decide) (fun _ => ?_) (fun h9 => absurd h9 (by decide))
    exact k
  | succ n ih =>
    intro i hi
    refine Rn.iload_n dX10_laysJobs_2 rfl rfl ?_
    refine Rn.sipush (v := (nI 256)) dX10_laysJobs_3 rfl ?_
    refine Rn.icmp_geN dX10_laysJobs_6 26 (fun h9 => by exfalso; omega) (fun _ => ?_)
    refine Rn.aload_n dX10_laysJobs_9 rfl rfl ?_
    refine Rn.getR dX10_laysJobs_10 fd_X10_51_9 (by first | rfl | exact gC0 (by assumption) | exact gL0 (by assumption)) rfl ?_
    refine Rn.iload_n dX10_laysJobs_13 rfl rfl ?_
    refine Rn.iload_n dX10_laysJobs_14 rfl rfl ?_
    refine Rn.callSp (As := [_, _]) dX10_laysJobs_15 ms_X10_378 rfl rfl (Nat.le_of_ble_eq_true rfl) (ct_jobAt0 G _ _ _) ?_
    refine Rn.iconst (v := (nI 0)) dX10_laysJobs_18 rfl ?_
    refine Rn.iastN dX10_laysJobs_19 (by first | rfl | exact gC1 (by assumption) | exact gC2 (by assumption) | exact gC3 (by assumption) | exact gL1 (by assumption) | exact gL2 (by assumption) | exact gL3 (by assumption) | exact gL4 (by assumption) | exact gL5 (by assumption) | exact gL6 (by assumption)) ?_
    refine Rn.iincN dX10_laysJobs_20 rfl (by decide) ?_
    refine Rn.goto 2 dX10_laysJobs_23 (by decide) ?_
    exact Rn.hpp _ (by rw [zup_zset]; exact congrArg _ (cp_upd _ _ i)) (ih (i + 1) (by omega))
theorem ct_laysJobs0 : Ct G GAM mX10_laysJobs (d + 1) 0 [.ref 94, .int (nI 0)] I (Rp none (zset I 106 (cp (fun _ => nI 0) (I 106) 256))) := by
  refine Ct.mk [some (.ref 94), some (.int (nI 0)), none, none, none, none] ?_
  refine Rn.iconst (v := (nI 0)) dX10_laysJobs_0 rfl ?_
  refine Rn.istore_n dX10_laysJobs_1 rfl (by decide) ?_
  refine Rn.hpp _ (cp_start _ 106 _) (lp_laysJobs G d I ?_ 256 0 rfl)
  refine Rn.iload_n dX10_laysJobs_26 rfl rfl ?_
  refine Rn.iconst (v := (nI 1)) dX10_laysJobs_27 rfl ?_
  refine Rn.isub dX10_laysJobs_28 ?_
  refine Rn.istore_n dX10_laysJobs_29 rfl (by decide) ?_
  refine Rn.iload_n dX10_laysJobs_30 rfl rfl ?_
  refine Rn.if_lt (tgt := 125) dX10_laysJobs_31 (by decide) (fun _ => ?_) (fun h9 => absurd h9 (by decide))
  exact Rn.vret dX10_laysJobs_125 rfl (⟨rfl, rfl⟩)
theorem ct_X10_match (F : FW I) (x k : Int32) : Ct G GAM mX10_match (d + 2) 0 [.ref 94, .int x, .int k] I (RM (if k = -1 then nI 0 else -1) (nI 0) (I 107)) := by
  obtain ⟨g95_0, g95_1, g95_2, g95_3, g95_4, g95_5, g95_6, g95_7, g95_8, g94_6, g94_7, g94_9, g94_14⟩ := F
  refine Ct.mk [some (.ref 94), some (.int x), some (.int k), none, none, none, none, none, none] ?_
  refine Rn.aload_n dX10_match_0 rfl rfl ?_
  refine Rn.iconst (v := (nI 0)) dX10_match_1 rfl ?_
  refine Rn.putI dX10_match_2 fp_X10_3_9 (by first | rfl | exact gC0 (by assumption) | exact gL0 (by assumption)) rfl ?_
  refine Rn.iload_n dX10_match_5 rfl rfl ?_
  refine Rn.aload_n dX10_match_6 rfl rfl ?_
  refine Rn.callVp (As := []) dX10_match_7 mv_X10_362 (by first | rfl | exact gC0 (by assumption) | exact gL0 (by assumption)) rfl rfl rfl (Nat.le_of_ble_eq_true rfl) (ct_allWomen G _ _) ?_
  refine Rn.iand dX10_match_10 ?_
  refine Rn.topI (nI 0) (by rw [show zup I 94 0 (nI 0) 95 0 = nI 0 from g95_0]; exact and_0 _) ?_
  refine Rn.istore_n dX10_match_11 rfl (by decide) ?_
  refine Rn.iload_n dX10_match_12 rfl rfl ?_
  refine Rn.callSp (As := [_]) dX10_match_13 ms_X10_342 rfl rfl (Nat.le_of_ble_eq_true rfl) (ct_bitCount0 G _ _) ?_
  refine Rn.istore dX10_match_16 (by decide) ?_
  refine Rn.aload_n dX10_match_18 rfl rfl ?_
  refine Rn.iload dX10_match_19 rfl ?_
  refine Rn.iconst (v := (nI 5)) dX10_match_21 rfl ?_
  refine Rn.icmp_le (tgt := 29) dX10_match_22 (by decide) (fun _ => ?_) (fun h9 => absurd h9 (by decide))
  refine Rn.iconst (v := (nI 0)) dX10_match_29 rfl ?_
  refine Rn.iconst (v := (nI 1)) dX10_match_30 rfl ?_
  refine Rn.callVp (As := [_, _]) dX10_match_31 mv_X10_241 (by first | rfl | exact gC0 (by assumption) | exact gL0 (by assumption)) rfl rfl rfl (Nat.le_of_ble_eq_true rfl) (ct_throws0 G _ _ _) ?_
  refine Rn.if_eq (tgt := 39) dX10_match_34 (by decide) (fun _ => ?_) (fun h9 => absurd h9 (by decide))
  refine Rn.aload_n dX10_match_39 rfl rfl ?_
  refine Rn.iload_n dX10_match_40 rfl rfl ?_
  refine Rn.iconst (v := (nI 0)) dX10_match_41 rfl ?_
  refine Rn.callVp (As := [_, _]) dX10_match_42 mv_X10_366 (by first | rfl | exact gC0 (by assumption) | exact gL0 (by assumption)) rfl rfl rfl (Nat.le_of_ble_eq_true rfl) (ct_laysRow0 G _ _) ?_
  refine Rn.aload_n dX10_match_45 rfl rfl ?_
  refine Rn.iload dX10_match_46 rfl ?_
  refine Rn.callVp (As := [_]) dX10_match_48 mv_X10_385 (by first | rfl | exact gC0 (by assumption) | exact gL0 (by assumption)) rfl rfl rfl (Nat.le_of_ble_eq_true rfl) (ct_laysJobs0 G _ _) ?_
  refine Rn.aload_n dX10_match_51 rfl rfl ?_
  refine Rn.getR dX10_match_52 fd_X10_51_9 (by first | rfl | exact gC0 (by assumption) | exact gL0 (by assumption)) rfl ?_
  refine Rn.iconst (v := (nI 0)) dX10_match_55 rfl ?_
  refine Rn.iconst (v := (nI 0)) dX10_match_56 rfl ?_
  refine Rn.callSp (As := [_, _]) dX10_match_57 ms_X10_378 rfl rfl (Nat.le_of_ble_eq_true rfl) (ct_jobAt0 G _ _ _) ?_
  refine Rn.ialdN dX10_match_60 (by first | rfl | exact gC1 (by assumption) | exact gC2 (by assumption) | exact gC3 (by assumption) | exact gL1 (by assumption) | exact gL2 (by assumption) | exact gL3 (by assumption) | exact gL4 (by assumption) | exact gL5 (by assumption) | exact gL6 (by assumption)) ?_
  refine Rn.topI (nI 0) rfl ?_
  refine Rn.istore dX10_match_61 (by decide) ?_
  refine Rn.iload_n dX10_match_63 rfl rfl ?_
  refine Rn.iconst (v := (-1)) dX10_match_64 rfl ?_
  refine Rn.icmp_ne (tgt := 71) dX10_match_65 (by decide) (fun h1 => ?_) (fun h1 => ?_)
  · refine Rn.iload_n dX10_match_71 rfl rfl ?_
    refine Rn.iconst (v := (nI 0)) dX10_match_72 rfl ?_
    refine Rn.iload dX10_match_73 rfl ?_
    refine Rn.iconst (v := (nI 1)) dX10_match_75 rfl ?_
    refine Rn.isub dX10_match_76 ?_
    refine Rn.callSp (As := [_, _, _]) dX10_match_77 ms_X10_78 rfl rfl (Nat.le_of_ble_eq_true rfl) (ct_in0 G _ _ _ _ _ (fun q => absurd (Int32.le_trans q.1 q.2) (by decide))) ?_
    refine Rn.if_eq (tgt := 91) dX10_match_80 (by decide) (fun _ => ?_) (fun h9 => absurd h9 (by decide))
    refine Rn.iconst (v := (-1)) dX10_match_91 rfl ?_
    exact Rn.iret dX10_match_92 rfl (⟨by rw [if_neg h1], rfl, by rw [zset_ne _ _ (by decide), zup_ne _ _ (by decide)]⟩)
  · refine Rn.iload dX10_match_68 rfl ?_
    exact Rn.iret dX10_match_70 rfl (⟨by rw [if_pos h1], rfl, by rw [zset_ne _ _ (by decide), zup_ne _ _ (by decide)]⟩)
theorem ct_oneDay0 (g95_0 : I 95 0 = nI 0) : Ct G GAM mX10_oneDay (d + 1) 0 [.ref 94] I (Rp (some (.int (nI 0))) (zup I 95 4 (imin (nI 9999) (I 95 4 + nI 1)))) := by
  refine Ct.mk [some (.ref 94), none, none, none] ?_
  refine Rn.iconst (v := (nI 0)) dX10_oneDay_0 rfl ?_
  refine Rn.istore_n dX10_oneDay_1 rfl (by decide) ?_
  refine Rn.aload_n dX10_oneDay_2 rfl rfl ?_
  refine Rn.callVp (As := []) dX10_oneDay_3 mv_X10_74 (by first | rfl | exact gC0 (by assumption) | exact gL0 (by assumption)) rfl rfl rfl (Nat.le_of_ble_eq_true rfl) (ct_women0 G _ _ (by exact g95_0)) ?_
  refine Rn.if_le (tgt := 107) dX10_oneDay_6 (by decide) (fun _ => ?_) (fun h9 => absurd h9 (by decide))
  refine Rn.aload_n dX10_oneDay_107 rfl rfl ?_
  refine Rn.getR dX10_oneDay_108 fd_X10_13_9 (by first | rfl | exact gC0 (by assumption) | exact gL0 (by assumption)) rfl ?_
  refine Rn.iconst (v := (nI 4)) dX10_oneDay_111 rfl ?_
  refine Rn.sipush (v := (nI 9999)) dX10_oneDay_112 rfl ?_
  refine Rn.aload_n dX10_oneDay_115 rfl rfl ?_
  refine Rn.getR dX10_oneDay_116 fd_X10_13_9 (by first | rfl | exact gC0 (by assumption) | exact gL0 (by assumption)) rfl ?_
  refine Rn.iconst (v := (nI 4)) dX10_oneDay_119 rfl ?_
  refine Rn.ialdN dX10_oneDay_120 (by first | rfl | exact gC1 (by assumption) | exact gC2 (by assumption) | exact gC3 (by assumption) | exact gL1 (by assumption) | exact gL2 (by assumption) | exact gL3 (by assumption) | exact gL4 (by assumption) | exact gL5 (by assumption) | exact gL6 (by assumption)) ?_
  refine Rn.iconst (v := (nI 1)) dX10_oneDay_121 rfl ?_
  refine Rn.iadd dX10_oneDay_122 ?_
  refine Rn.mmin dX10_oneDay_123 ms_X10_266 (Nat.le_of_ble_eq_true rfl) ?_
  refine Rn.iastN dX10_oneDay_126 (by first | rfl | exact gC1 (by assumption) | exact gC2 (by assumption) | exact gC3 (by assumption) | exact gL1 (by assumption) | exact gL2 (by assumption) | exact gL3 (by assumption) | exact gL4 (by assumption) | exact gL5 (by assumption) | exact gL6 (by assumption)) ?_
  refine Rn.iload_n dX10_oneDay_127 rfl rfl ?_
  exact Rn.iret dX10_oneDay_128 rfl (⟨rfl, rfl⟩)
def PG (I H : Hi) : Prop := H 95 0 = I 95 0 ∧ H 95 1 = I 95 1 ∧ ∀ c, c ≠ 95 → H c = I c
theorem PG.up {I H : Hi} (h : PG I H) (v : Int32) : PG I (zup H 95 4 v) := ⟨h.1, h.2.1, fun c hc => by rw [zup_ne _ _ hc]; exact h.2.2 c hc⟩
theorem lp_goesOn0 {kx : Kx} {b : Nat} (g95_0 : I 95 0 = nI 0) (N : Nat) (hN : N ≤ 60) (k : ∀ H, PG I H → Rn G GAM mX10_goesOn kx (d + 2) b 22 [some (.ref 94), some (.int (nI N)), some (.int (nI 0)), some (.int (nI N))] [] H) : ∀ n i : Nat, i + n = N → ∀ H, PG I H → Rn G GAM mX10_goesOn kx (d + 2) b 4 [some (.ref 94), some (.int (nI N)), some (.int (nI 0)), some (.int (nI i))] [] H := by
  intro n
  induction n with
  | zero =>
    intro i hi H hH
    obtain rfl : i = N := by omega
    refine Rn.iload_n dX10_goesOn_4 rfl rfl ?_
    refine Rn.iload_n dX10_goesOn_5 rfl rfl ?_
    refine Rn.icmp_geN dX10_goesOn_6 22 (fun _ => ?_) (fun h9 => by exfalso; omega)
    exact k H hH
  | succ n ih =>
    intro i hi H hH
    refine Rn.iload_n dX10_goesOn_4 rfl rfl ?_
    refine Rn.iload_n dX10_goesOn_5 rfl rfl ?_
    refine Rn.icmp_geN dX10_goesOn_6 22 (fun h9 => by exfalso; omega) (fun _ => ?_)
    refine Rn.iload_n dX10_goesOn_9 rfl rfl ?_
    refine Rn.aload_n dX10_goesOn_10 rfl rfl ?_
    refine Rn.callVp (As := []) dX10_goesOn_11 mv_X10_327 (by first | rfl | exact gC0 (by assumption) | exact gL0 (by assumption)) rfl rfl rfl (Nat.le_of_ble_eq_true rfl) (ct_oneDay0 G _ _ (hH.1.trans g95_0)) ?_
    refine Rn.iadd dX10_goesOn_14 ?_
    refine Rn.topI (nI 0) (by decide) ?_
    refine Rn.istore_n dX10_goesOn_15 rfl (by decide) ?_
    refine Rn.iincN dX10_goesOn_16 rfl (by decide) ?_
    refine Rn.goto 4 dX10_goesOn_19 (by decide) ?_
    exact ih (i + 1) (by omega) _ (hH.up _)
theorem ct_goesOn0 (g95_0 : I 95 0 = nI 0) (N : Nat) (hN : N ≤ 60) : Ct G GAM mX10_goesOn (d + 2) 0 [.ref 94, .int (nI N)] I (fun o K => o = .inl (some (.int (nI 0))) ∧ PG I K) := by
  refine Ct.mk [some (.ref 94), some (.int (nI N)), none, none] ?_
  refine Rn.iconst (v := (nI 0)) dX10_goesOn_0 rfl ?_
  refine Rn.istore_n dX10_goesOn_1 rfl (by decide) ?_
  refine Rn.iconst (v := (nI 0)) dX10_goesOn_2 rfl ?_
  refine Rn.istore_n dX10_goesOn_3 rfl (by decide) ?_
  refine lp_goesOn0 G d I g95_0 N hN (fun H hH => ?_) N 0 (by omega) I ⟨rfl, rfl, fun c _ => rfl⟩
  refine Rn.iload_n dX10_goesOn_22 rfl rfl ?_
  exact Rn.iret dX10_goesOn_23 rfl (⟨rfl, hH⟩)
theorem lp_rem0 {kx : Kx} {b : Nat} (k : ∀ H, (∀ c, c ≠ 99 → H c = I c) → Rn G GAM mX10_remembers kx d b 91 [some (.ref 94), some (.int (nI 377))] [] H) (h7 : I 94 7 = nI 1) : ∀ n i : Nat, i + n = 377 → ∀ H, (∀ c, c ≠ 99 → H c = I c) → Rn G GAM mX10_remembers kx d b 55 [some (.ref 94), some (.int (nI i))] [] H := by
  intro n
  induction n with
  | zero =>
    intro i hi H hH
    obtain rfl : i = 377 := by omega
    refine Rn.iload_n dX10_remembers_55 rfl rfl ?_
    refine Rn.sipush (v := (nI 377)) dX10_remembers_56 rfl ?_
    refine Rn.icmp_ge (tgt := 91) dX10_remembers_59 (by decide) (fun _ => ?_) (fun h9 => absurd h9 (by decide))
    exact k H hH
  | succ n ih =>
    intro i hi H hH
    refine Rn.iload_n dX10_remembers_55 rfl rfl ?_
    refine Rn.sipush (v := (nI 377)) dX10_remembers_56 rfl ?_
    refine Rn.icmp_geN dX10_remembers_59 91 (fun h9 => by exfalso; omega) (fun _ => ?_)
    refine Rn.aload_n dX10_remembers_62 rfl rfl ?_
    refine Rn.getR dX10_remembers_63 fd_X10_26_9 (by first | rfl | exact gC0 (by assumption) | exact gL0 (by assumption)) rfl ?_
    refine Rn.sipush (v := (nI 377)) dX10_remembers_66 rfl ?_
    refine Rn.aload_n dX10_remembers_69 rfl rfl ?_
    refine Rn.getI dX10_remembers_70 fd_X10_58_9 (by first | rfl | exact gC0 (by assumption) | exact gL0 (by assumption)) rfl ?_
    refine Rn.topI (nI 1) (by rw [hH 94 (by decide)]; exact h7) ?_
    refine Rn.iconst (v := (nI 1)) dX10_remembers_73 rfl ?_
    refine Rn.isub dX10_remembers_74 ?_
    refine Rn.imul dX10_remembers_75 ?_
    refine Rn.iload_n dX10_remembers_76 rfl rfl ?_
    refine Rn.iadd dX10_remembers_77 ?_
    refine Rn.aload_n dX10_remembers_78 rfl rfl ?_
    refine Rn.getR dX10_remembers_79 fd_X10_13_9 (by first | rfl | exact gC0 (by assumption) | exact gL0 (by assumption)) rfl ?_
    refine Rn.iload_n dX10_remembers_82 rfl rfl ?_
    refine Rn.ialdN dX10_remembers_83 (by first | rfl | exact gC1 (by assumption) | exact gC2 (by assumption) | exact gC3 (by assumption) | exact gL1 (by assumption) | exact gL2 (by assumption) | exact gL3 (by assumption) | exact gL4 (by assumption) | exact gL5 (by assumption) | exact gL6 (by assumption)) ?_
    refine Rn.secI (nI (i)) (by rw [show (nI 377 * (nI 1 - nI 1) : Int32) = 0 from by decide, Int32.zero_add]) ?_
    refine Rn.iastN dX10_remembers_84 (by first | rfl | exact gC1 (by assumption) | exact gC2 (by assumption) | exact gC3 (by assumption) | exact gL1 (by assumption) | exact gL2 (by assumption) | exact gL3 (by assumption) | exact gL4 (by assumption) | exact gL5 (by assumption) | exact gL6 (by assumption)) ?_
    refine Rn.iincN dX10_remembers_85 rfl (by decide) ?_
    refine Rn.goto 55 dX10_remembers_88 (by decide) ?_
    exact ih (i + 1) (by omega) _ (fun c hc => by rw [zup_ne _ _ hc]; exact hH c hc)
theorem ct_remembers0 (h7 : I 94 7 = nI 0) : Ct G GAM mX10_remembers d 0 [.ref 94] I (fun o K => o = .inl none ∧ ∀ c, c ≠ 99 → K c = zup I 94 7 (nI 1) c) := by
  refine Ct.mk [some (.ref 94), none] ?_
  refine Rn.aload_n dX10_remembers_0 rfl rfl ?_
  refine Rn.getI dX10_remembers_1 fd_X10_58_9 (by first | rfl | exact gC0 (by assumption) | exact gL0 (by assumption)) rfl ?_
  refine Rn.topI (nI 0) h7 ?_
  refine Rn.bipush (v := (nI 12)) dX10_remembers_4 rfl ?_
  refine Rn.icmp_ne (tgt := 43) dX10_remembers_6 (by decide) (fun _ => ?_) (fun h9 => absurd h9 (by decide))
  refine Rn.aload_n dX10_remembers_43 rfl rfl ?_
  refine Rn.dup dX10_remembers_44 rfl ?_
  refine Rn.getI dX10_remembers_45 fd_X10_58_9 (by first | rfl | exact gC0 (by assumption) | exact gL0 (by assumption)) rfl ?_
  refine Rn.topI (nI 0) h7 ?_
  refine Rn.iconst (v := (nI 1)) dX10_remembers_48 rfl ?_
  refine Rn.iadd dX10_remembers_49 ?_
  refine Rn.topI (nI 1) (by decide) ?_
  refine Rn.putI dX10_remembers_50 fp_X10_58_9 (by first | rfl | exact gC0 (by assumption) | exact gL0 (by assumption)) rfl ?_
  refine Rn.iconst (v := (nI 0)) dX10_remembers_53 rfl ?_
  refine Rn.istore_n dX10_remembers_54 rfl (by decide) ?_
  refine lp_rem0 G d (zup I 94 7 (nI 1)) (fun H hH => ?_) rfl 377 0 rfl _ (fun c _ => rfl)
  exact Rn.vret dX10_remembers_91 rfl (⟨rfl, hH⟩)
theorem ct_X10_days0 (F : FW I) (N : Nat) (hN : N ≤ 60) (h : nI 1 ≤ nI N ∧ nI N ≤ nI 60) : Ct G GAM mX10_days (d + 3) 0 [.ref 94, .int (nI N)] I (RM (nI 0) (nI 0) (I 107)) := by
  obtain ⟨g95_0, g95_1, g95_2, g95_3, g95_4, g95_5, g95_6, g95_7, g95_8, g94_6, g94_7, g94_9, g94_14⟩ := F
  refine Ct.mk [some (.ref 94), some (.int (nI N))] ?_
  refine Rn.aload_n dX10_days_0 rfl rfl ?_
  refine Rn.iconst (v := (nI 0)) dX10_days_1 rfl ?_
  refine Rn.putI dX10_days_2 fp_X10_3_9 (by first | rfl | exact gC0 (by assumption) | exact gL0 (by assumption)) rfl ?_
  refine Rn.aload_n dX10_days_5 rfl rfl ?_
  refine Rn.iload_n dX10_days_6 rfl rfl ?_
  refine Rn.iconst (v := (nI 1)) dX10_days_7 rfl ?_
  refine Rn.bipush (v := (nI 60)) dX10_days_8 rfl ?_
  refine Rn.callSp (As := [_, _, _]) dX10_days_10 ms_X10_78 rfl rfl (Nat.le_of_ble_eq_true rfl) (ct_in1 G _ _ _ _ _ h) ?_
  refine Rn.if_ne (tgt := 20) dX10_days_13 (by decide) (fun _ => ?_) (fun h9 => absurd h9 (by decide))
  refine Rn.iconst (v := (nI 0)) dX10_days_20 rfl ?_
  refine Rn.iconst (v := (nI 1)) dX10_days_21 rfl ?_
  refine Rn.callVp (As := [_, _]) dX10_days_22 mv_X10_241 (by first | rfl | exact gC0 (by assumption) | exact gL0 (by assumption)) rfl rfl rfl (Nat.le_of_ble_eq_true rfl) (ct_throws0 G _ _ _) ?_
  refine Rn.if_eq (tgt := 30) dX10_days_25 (by decide) (fun _ => ?_) (fun h9 => absurd h9 (by decide))
  refine Rn.aload_n dX10_days_30 rfl rfl ?_
  refine Rn.callV (As := []) dX10_days_31 mv_X10_333 (by first | rfl | exact gC0 (by assumption) | exact gL0 (by assumption)) rfl rfl rfl (Nat.le_of_ble_eq_true rfl) (ct_remembers0 G _ _ (by exact g94_7)) (fun E J h => nomatch h.1) (fun v J1 q1 => ?_)
  obtain ⟨e1, hJ⟩ := q1
  cases e1
  have e95 : J1 95 = I 95 := by rw [hJ 95 (by decide), zup_ne _ _ (by decide), zup_ne _ _ (by decide)]
  refine Rn.aload_n dX10_days_34 rfl rfl ?_
  refine Rn.iload_n dX10_days_35 rfl rfl ?_
  refine Rn.callV (As := [_]) dX10_days_36 mv_X10_336 (by first | rfl | exact gC0 (by assumption) | exact gL0 (by assumption)) rfl rfl rfl (Nat.le_of_ble_eq_true rfl) (ct_goesOn0 G _ _ (by rw [e95]; exact g95_0) N hN) (fun E J h => nomatch h.1) (fun v J2 q2 => ?_)
  obtain ⟨e1, q1, q2, q3⟩ := q2
  cases e1
  exact Rn.iret dX10_days_39 rfl (⟨rfl, by rw [q3 94 (by decide), hJ 94 (by decide)]; rfl, by rw [q3 107 (by decide), hJ 107 (by decide), zup_ne _ _ (by decide), zup_ne _ _ (by decide)]⟩)
theorem ct_X10_days1 (x : Int32) (h : ¬ (nI 1 ≤ x ∧ x ≤ nI 60)) : Ct G GAM mX10_days (d + 3) 0 [.ref 94, .int x] I (Rp (some (.int (nI 0))) (zup (zup I 94 0 (nI 0)) 94 0 (nI 1))) := by
  refine Ct.mk [some (.ref 94), some (.int x)] ?_
  refine Rn.aload_n dX10_days_0 rfl rfl ?_
  refine Rn.iconst (v := (nI 0)) dX10_days_1 rfl ?_
  refine Rn.putI dX10_days_2 fp_X10_3_9 (by first | rfl | exact gC0 (by assumption) | exact gL0 (by assumption)) rfl ?_
  refine Rn.aload_n dX10_days_5 rfl rfl ?_
  refine Rn.iload_n dX10_days_6 rfl rfl ?_
  refine Rn.iconst (v := (nI 1)) dX10_days_7 rfl ?_
  refine Rn.bipush (v := (nI 60)) dX10_days_8 rfl ?_
  refine Rn.callSp (As := [_, _, _]) dX10_days_10 ms_X10_78 rfl rfl (Nat.le_of_ble_eq_true rfl) (ct_in0 G _ _ _ _ _ h) ?_
  refine Rn.if_ne (tgt := 20) dX10_days_13 (by decide) (fun h9 => absurd h9 (by decide)) (fun _ => ?_)
  refine Rn.iconst (v := (nI 1)) dX10_days_16 rfl ?_
  refine Rn.goto 21 dX10_days_17 (by decide) ?_
  refine Rn.iconst (v := (nI 1)) dX10_days_21 rfl ?_
  refine Rn.callVp (As := [_, _]) dX10_days_22 mv_X10_241 (by first | rfl | exact gC0 (by assumption) | exact gL0 (by assumption)) rfl rfl rfl (Nat.le_of_ble_eq_true rfl) (ct_throws1 G _ _ _) ?_
  refine Rn.if_eq (tgt := 30) dX10_days_25 (by decide) (fun h9 => absurd h9 (by decide)) (fun _ => ?_)
  refine Rn.iconst (v := (nI 0)) dX10_days_28 rfl ?_
  exact Rn.iret dX10_days_29 rfl (⟨rfl, rfl⟩)
theorem ct_X10_trial0 (F : FW I) (y : Int32) (N : Nat) (hN : N ≤ 60) (h : nI 0 ≤ nI N ∧ nI N ≤ nI 60) : Ct G GAM mX10_trial (d + 4) 0 [.ref 94, .int (nI N), .int y] I (RM (nI 0) (nI 0) (I 107)) := by
  obtain ⟨g95_0, g95_1, g95_2, g95_3, g95_4, g95_5, g95_6, g95_7, g95_8, g94_6, g94_7, g94_9, g94_14⟩ := F
  refine Ct.mk [some (.ref 94), some (.int (nI N)), some (.int y), none] ?_
  refine Rn.aload_n dX10_trial_0 rfl rfl ?_
  refine Rn.iconst (v := (nI 0)) dX10_trial_1 rfl ?_
  refine Rn.putI dX10_trial_2 fp_X10_3_9 (by first | rfl | exact gC0 (by assumption) | exact gL0 (by assumption)) rfl ?_
  refine Rn.aload_n dX10_trial_5 rfl rfl ?_
  refine Rn.iload_n dX10_trial_6 rfl rfl ?_
  refine Rn.iconst (v := (nI 0)) dX10_trial_7 rfl ?_
  refine Rn.bipush (v := (nI 60)) dX10_trial_8 rfl ?_
  refine Rn.callSp (As := [_, _, _]) dX10_trial_10 ms_X10_78 rfl rfl (Nat.le_of_ble_eq_true rfl) (ct_in1 G _ _ _ _ _ h) ?_
  refine Rn.if_ne (tgt := 20) dX10_trial_13 (by decide) (fun _ => ?_) (fun h9 => absurd h9 (by decide))
  refine Rn.iconst (v := (nI 0)) dX10_trial_20 rfl ?_
  refine Rn.iconst (v := (nI 1)) dX10_trial_21 rfl ?_
  refine Rn.callVp (As := [_, _]) dX10_trial_22 mv_X10_241 (by first | rfl | exact gC0 (by assumption) | exact gL0 (by assumption)) rfl rfl rfl (Nat.le_of_ble_eq_true rfl) (ct_throws0 G _ _ _) ?_
  refine Rn.if_eq (tgt := 30) dX10_trial_25 (by decide) (fun _ => ?_) (fun h9 => absurd h9 (by decide))
  refine Rn.aload_n dX10_trial_30 rfl rfl ?_
  refine Rn.callVp (As := []) dX10_trial_31 mv_X10_352 (by first | rfl | exact gC0 (by assumption) | exact gL0 (by assumption)) rfl rfl rfl (Nat.le_of_ble_eq_true rfl) (ct_keepsAll G _ _) ?_
  refine Rn.aload_n dX10_trial_34 rfl rfl ?_
  refine Rn.iload_n dX10_trial_35 rfl rfl ?_
  refine Rn.callV (As := [_]) dX10_trial_36 mv_X10_336 (by first | rfl | exact gC0 (by assumption) | exact gL0 (by assumption)) rfl rfl rfl (Nat.le_of_ble_eq_true rfl) (ct_goesOn0 G _ _ (by exact g95_0) N hN) (fun E J h => nomatch h.1) (fun v J2 q2 => ?_)
  obtain ⟨e1, q1, q2, q3⟩ := q2
  cases e1
  have f0 : J2 95 0 = nI 0 := q1.trans g95_0
  have f1 : J2 95 1 = nI 0 := q2.trans g95_1
  refine Rn.pop dX10_trial_39 rfl ?_
  refine Rn.iload_n dX10_trial_40 rfl rfl ?_
  refine Rn.if_eq (tgt := 54) dX10_trial_41 (by decide) (fun h5 => ?_) (fun h5 => ?_)
  · refine Rn.aload_n dX10_trial_54 rfl rfl ?_
    refine Rn.callVp (As := []) dX10_trial_55 mv_X10_419 (by first | rfl | exact gC0 (by assumption) | exact gL0 (by assumption)) rfl rfl rfl (Nat.le_of_ble_eq_true rfl) (ct_luckOfAll G _ _ 0 (by decide) f0) ?_
    refine Rn.istore_n dX10_trial_58 rfl (by decide) ?_
    refine Rn.aload_n dX10_trial_59 rfl rfl ?_
    refine Rn.callVp (As := []) dX10_trial_60 mv_X10_359 (by first | rfl | exact gC0 (by assumption) | exact gL0 (by assumption)) rfl rfl rfl (Nat.le_of_ble_eq_true rfl) (ct_bringsBack G _ _) ?_
    refine Rn.iload_n dX10_trial_63 rfl rfl ?_
    exact Rn.iret dX10_trial_64 rfl (⟨rfl, by rw [zset_ne _ _ (by decide), q3 94 (by decide)]; rfl, by rw [zset_ne _ _ (by decide), q3 107 (by decide), zset_ne _ _ (by decide), zup_ne _ _ (by decide)]⟩)
  · refine Rn.aload_n dX10_trial_44 rfl rfl ?_
    refine Rn.bipush (v := (nI 7)) dX10_trial_45 rfl ?_
    refine Rn.iconst (v := (nI 1)) dX10_trial_47 rfl ?_
    refine Rn.callVp (As := [_, _]) dX10_trial_48 mv_X10_278 (by first | rfl | exact gC0 (by assumption) | exact gL0 (by assumption)) rfl rfl rfl (Nat.le_of_ble_eq_true rfl) (ct_thingsBy0 G _ _ f1 _ _) ?_
    refine Rn.goto 58 dX10_trial_51 (by decide) ?_
    refine Rn.istore_n dX10_trial_58 rfl (by decide) ?_
    refine Rn.aload_n dX10_trial_59 rfl rfl ?_
    refine Rn.callVp (As := []) dX10_trial_60 mv_X10_359 (by first | rfl | exact gC0 (by assumption) | exact gL0 (by assumption)) rfl rfl rfl (Nat.le_of_ble_eq_true rfl) (ct_bringsBack G _ _) ?_
    refine Rn.iload_n dX10_trial_63 rfl rfl ?_
    exact Rn.iret dX10_trial_64 rfl (⟨rfl, by rw [zset_ne _ _ (by decide), q3 94 (by decide)]; rfl, by rw [zset_ne _ _ (by decide), q3 107 (by decide), zset_ne _ _ (by decide), zup_ne _ _ (by decide)]⟩)
theorem ct_X10_trial1 (x y : Int32) (h : ¬ (nI 0 ≤ x ∧ x ≤ nI 60)) : Ct G GAM mX10_trial (d + 4) 0 [.ref 94, .int x, .int y] I (Rp (some (.int (nI 0))) (zup (zup I 94 0 (nI 0)) 94 0 (nI 1))) := by
  refine Ct.mk [some (.ref 94), some (.int x), some (.int y), none] ?_
  refine Rn.aload_n dX10_trial_0 rfl rfl ?_
  refine Rn.iconst (v := (nI 0)) dX10_trial_1 rfl ?_
  refine Rn.putI dX10_trial_2 fp_X10_3_9 (by first | rfl | exact gC0 (by assumption) | exact gL0 (by assumption)) rfl ?_
  refine Rn.aload_n dX10_trial_5 rfl rfl ?_
  refine Rn.iload_n dX10_trial_6 rfl rfl ?_
  refine Rn.iconst (v := (nI 0)) dX10_trial_7 rfl ?_
  refine Rn.bipush (v := (nI 60)) dX10_trial_8 rfl ?_
  refine Rn.callSp (As := [_, _, _]) dX10_trial_10 ms_X10_78 rfl rfl (Nat.le_of_ble_eq_true rfl) (ct_in0 G _ _ _ _ _ h) ?_
  refine Rn.if_ne (tgt := 20) dX10_trial_13 (by decide) (fun h9 => absurd h9 (by decide)) (fun _ => ?_)
  refine Rn.iconst (v := (nI 1)) dX10_trial_16 rfl ?_
  refine Rn.goto 21 dX10_trial_17 (by decide) ?_
  refine Rn.iconst (v := (nI 1)) dX10_trial_21 rfl ?_
  refine Rn.callVp (As := [_, _]) dX10_trial_22 mv_X10_241 (by first | rfl | exact gC0 (by assumption) | exact gL0 (by assumption)) rfl rfl rfl (Nat.le_of_ble_eq_true rfl) (ct_throws1 G _ _ _) ?_
  refine Rn.if_eq (tgt := 30) dX10_trial_25 (by decide) (fun h9 => absurd h9 (by decide)) (fun _ => ?_)
  refine Rn.iconst (v := (nI 0)) dX10_trial_28 rfl ?_
  exact Rn.iret dX10_trial_29 rfl (⟨rfl, rfl⟩)
theorem ct_X10_span1 (x y : Int32) (h : ¬ (nI 0 ≤ x ∧ x ≤ nI 60)) : Ct G GAM mX10_span (d + 4) 0 [.ref 94, .int x, .int y] I (Rp (some (.int (nI 0))) (zup (zup I 94 0 (nI 0)) 94 0 (nI 1))) := by
  refine Ct.mk [some (.ref 94), some (.int x), some (.int y), none, none, none] ?_
  refine Rn.aload_n dX10_span_0 rfl rfl ?_
  refine Rn.iconst (v := (nI 0)) dX10_span_1 rfl ?_
  refine Rn.putI dX10_span_2 fp_X10_3_9 (by first | rfl | exact gC0 (by assumption) | exact gL0 (by assumption)) rfl ?_
  refine Rn.aload_n dX10_span_5 rfl rfl ?_
  refine Rn.iload_n dX10_span_6 rfl rfl ?_
  refine Rn.iconst (v := (nI 0)) dX10_span_7 rfl ?_
  refine Rn.bipush (v := (nI 60)) dX10_span_8 rfl ?_
  refine Rn.callSp (As := [_, _, _]) dX10_span_10 ms_X10_78 rfl rfl (Nat.le_of_ble_eq_true rfl) (ct_in0 G _ _ _ _ _ h) ?_
  refine Rn.if_ne (tgt := 20) dX10_span_13 (by decide) (fun h9 => absurd h9 (by decide)) (fun _ => ?_)
  refine Rn.iconst (v := (nI 1)) dX10_span_16 rfl ?_
  refine Rn.goto 21 dX10_span_17 (by decide) ?_
  refine Rn.iconst (v := (nI 1)) dX10_span_21 rfl ?_
  refine Rn.callVp (As := [_, _]) dX10_span_22 mv_X10_241 (by first | rfl | exact gC0 (by assumption) | exact gL0 (by assumption)) rfl rfl rfl (Nat.le_of_ble_eq_true rfl) (ct_throws1 G _ _ _) ?_
  refine Rn.if_eq (tgt := 30) dX10_span_25 (by decide) (fun h9 => absurd h9 (by decide)) (fun _ => ?_)
  refine Rn.iconst (v := (nI 0)) dX10_span_28 rfl ?_
  exact Rn.iret dX10_span_29 rfl (⟨rfl, rfl⟩)
set_option maxHeartbeats 8000000 in
theorem ct_X10_span0_zero (F : FW I) (y : Int32) (N : Nat) (hN : N ≤ 60) (h : nI 0 ≤ nI N ∧ nI N ≤ nI 60) (hy : y = 0) : Ct G GAM mX10_span (d + 4) 0 [.ref 94, .int (nI N), .int y] I (RM (nI 0) (nI 0) (I 107)) := by
  obtain ⟨g95_0, g95_1, g95_2, g95_3, g95_4, g95_5, g95_6, g95_7, g95_8, g94_6, g94_7, g94_9, g94_14⟩ := F
  refine Ct.mk [some (.ref 94), some (.int (nI N)), some (.int y), none, none, none] ?_
  refine Rn.aload_n dX10_span_0 rfl rfl ?_
  refine Rn.iconst (v := (nI 0)) dX10_span_1 rfl ?_
  refine Rn.putI dX10_span_2 fp_X10_3_9 (by first | rfl | exact gC0 (by assumption) | exact gL0 (by assumption)) rfl ?_
  refine Rn.aload_n dX10_span_5 rfl rfl ?_
  refine Rn.iload_n dX10_span_6 rfl rfl ?_
  refine Rn.iconst (v := (nI 0)) dX10_span_7 rfl ?_
  refine Rn.bipush (v := (nI 60)) dX10_span_8 rfl ?_
  refine Rn.callSp (As := [_, _, _]) dX10_span_10 ms_X10_78 rfl rfl (Nat.le_of_ble_eq_true rfl) (ct_in1 G _ _ _ _ _ h) ?_
  refine Rn.if_ne (tgt := 20) dX10_span_13 (by decide) (fun _ => ?_) (fun h9 => absurd h9 (by decide))
  refine Rn.iconst (v := (nI 0)) dX10_span_20 rfl ?_
  refine Rn.iconst (v := (nI 1)) dX10_span_21 rfl ?_
  refine Rn.callVp (As := [_, _]) dX10_span_22 mv_X10_241 (by first | rfl | exact gC0 (by assumption) | exact gL0 (by assumption)) rfl rfl rfl (Nat.le_of_ble_eq_true rfl) (ct_throws0 G _ _ _) ?_
  refine Rn.if_eq (tgt := 30) dX10_span_25 (by decide) (fun _ => ?_) (fun h9 => absurd h9 (by decide))
  refine Rn.aload_n dX10_span_30 rfl rfl ?_
  refine Rn.callVp (As := []) dX10_span_31 mv_X10_352 (by first | rfl | exact gC0 (by assumption) | exact gL0 (by assumption)) rfl rfl rfl (Nat.le_of_ble_eq_true rfl) (ct_keepsAll G _ _) ?_
  refine Rn.iconst (v := (-1)) dX10_span_34 rfl ?_
  refine Rn.istore_n dX10_span_35 rfl (by decide) ?_
  refine Rn.iconst (v := (nI 1)) dX10_span_36 rfl ?_
  refine Rn.istore dX10_span_37 (by decide) ?_
  refine Rn.gen (fun H => H 95 0 = nI 0 ∧ H 98 0 = nI 0 ∧ H 94 0 = nI 0 ∧ H 107 = I 107) ⟨g95_0, g95_0, rfl, by rw [zset_ne _ _ (by decide), zup_ne _ _ (by decide)]⟩ (fun H0 hH => ?_)
  obtain ⟨a0, b0, c0, d0⟩ := hH
  refine Rn.iload dX10_span_39 rfl ?_
  refine Rn.bipush (v := (nI 6)) dX10_span_41 rfl ?_
  refine Rn.icmp_gt (tgt := 106) dX10_span_43 (by decide) (fun h9 => absurd h9 (by decide)) (fun _ => ?_)
  refine Rn.aload_n dX10_span_46 rfl rfl ?_
  refine Rn.getR dX10_span_47 fd_X10_13_9 (by first | rfl | exact gC0 (by assumption) | exact gL0 (by assumption)) rfl ?_
  refine Rn.bipush (v := (nI 8)) dX10_span_50 rfl ?_
  refine Rn.iload dX10_span_52 rfl ?_
  refine Rn.iastN dX10_span_54 (by first | rfl | exact gC1 (by assumption) | exact gC2 (by assumption) | exact gC3 (by assumption) | exact gL1 (by assumption) | exact gL2 (by assumption) | exact gL3 (by assumption) | exact gL4 (by assumption) | exact gL5 (by assumption) | exact gL6 (by assumption)) ?_
  refine Rn.aload_n dX10_span_55 rfl rfl ?_
  refine Rn.iload_n dX10_span_56 rfl rfl ?_
  refine Rn.callV (As := [_]) dX10_span_57 mv_X10_336 (by first | rfl | exact gC0 (by assumption) | exact gL0 (by assumption)) rfl rfl rfl (Nat.le_of_ble_eq_true rfl) (ct_goesOn0 G _ _ (by exact a0) N hN) (fun E J h => nomatch h.1) (fun v J2 q2 => ?_)
  obtain ⟨e1, q1, q2, q3⟩ := q2
  cases e1
  have f0 : J2 95 0 = nI 0 := q1.trans a0
  have f8 : J2 98 0 = nI 0 := by rw [q3 98 (by decide)]; exact b0
  have f4 : J2 94 0 = nI 0 := by rw [q3 94 (by decide)]; exact c0
  have f7 : J2 107 = I 107 := by rw [q3 107 (by decide), zup_ne _ _ (by decide)]; exact d0
  refine Rn.pop dX10_span_60 rfl ?_
  refine Rn.aload_n dX10_span_61 rfl rfl ?_
  refine Rn.callVp (As := []) dX10_span_62 mv_X10_419 (by first | rfl | exact gC0 (by assumption) | exact gL0 (by assumption)) rfl rfl rfl (Nat.le_of_ble_eq_true rfl) (ct_luckOfAll G _ _ 0 (by decide) f0) ?_
  refine Rn.topI (nI 0) (by rfl) ?_
  refine Rn.istore dX10_span_65 (by decide) ?_
  refine Rn.aload_n dX10_span_67 rfl rfl ?_
  refine Rn.callVp (As := []) dX10_span_68 mv_X10_359 (by first | rfl | exact gC0 (by assumption) | exact gL0 (by assumption)) rfl rfl rfl (Nat.le_of_ble_eq_true rfl) (ct_bringsBack G _ _) ?_
  refine Rn.iload_n dX10_span_71 rfl rfl ?_
  refine Rn.if_ge (tgt := 80) dX10_span_72 (by decide) (fun h9 => absurd h9 (by decide)) (fun _ => ?_)
  refine Rn.iload dX10_span_75 rfl ?_
  refine Rn.goto 99 dX10_span_77 (by decide) ?_
  refine Rn.istore_n dX10_span_99 rfl (by decide) ?_
  refine Rn.iincN dX10_span_100 rfl (by decide) ?_
  refine Rn.goto 39 dX10_span_103 (by decide) ?_
  refine Rn.gen (fun H => H 95 0 = nI 0 ∧ H 98 0 = nI 0 ∧ H 94 0 = nI 0 ∧ H 107 = I 107) ⟨f8, f8, f4, by rw [zset_ne _ _ (by decide)]; exact f7⟩ (fun H1 hH => ?_)
  obtain ⟨a1, b1, c1, d1⟩ := hH
  refine Rn.lcl [some (.ref 94), some (.int (nI N)), some (.int y), some (.int (nI 0)), some (.int (nI 2)), some (.int (nI 0))] rfl ?_
  refine Rn.iload dX10_span_39 rfl ?_
  refine Rn.bipush (v := (nI 6)) dX10_span_41 rfl ?_
  refine Rn.icmp_gt (tgt := 106) dX10_span_43 (by decide) (fun h9 => absurd h9 (by decide)) (fun _ => ?_)
  refine Rn.aload_n dX10_span_46 rfl rfl ?_
  refine Rn.getR dX10_span_47 fd_X10_13_9 (by first | rfl | exact gC0 (by assumption) | exact gL0 (by assumption)) rfl ?_
  refine Rn.bipush (v := (nI 8)) dX10_span_50 rfl ?_
  refine Rn.iload dX10_span_52 rfl ?_
  refine Rn.iastN dX10_span_54 (by first | rfl | exact gC1 (by assumption) | exact gC2 (by assumption) | exact gC3 (by assumption) | exact gL1 (by assumption) | exact gL2 (by assumption) | exact gL3 (by assumption) | exact gL4 (by assumption) | exact gL5 (by assumption) | exact gL6 (by assumption)) ?_
  refine Rn.aload_n dX10_span_55 rfl rfl ?_
  refine Rn.iload_n dX10_span_56 rfl rfl ?_
  refine Rn.callV (As := [_]) dX10_span_57 mv_X10_336 (by first | rfl | exact gC0 (by assumption) | exact gL0 (by assumption)) rfl rfl rfl (Nat.le_of_ble_eq_true rfl) (ct_goesOn0 G _ _ (by exact a1) N hN) (fun E J h => nomatch h.1) (fun v J2 q2 => ?_)
  obtain ⟨e1, q1, q2, q3⟩ := q2
  cases e1
  have f0 : J2 95 0 = nI 0 := q1.trans a1
  have f8 : J2 98 0 = nI 0 := by rw [q3 98 (by decide)]; exact b1
  have f4 : J2 94 0 = nI 0 := by rw [q3 94 (by decide)]; exact c1
  have f7 : J2 107 = I 107 := by rw [q3 107 (by decide), zup_ne _ _ (by decide)]; exact d1
  refine Rn.pop dX10_span_60 rfl ?_
  refine Rn.aload_n dX10_span_61 rfl rfl ?_
  refine Rn.callVp (As := []) dX10_span_62 mv_X10_419 (by first | rfl | exact gC0 (by assumption) | exact gL0 (by assumption)) rfl rfl rfl (Nat.le_of_ble_eq_true rfl) (ct_luckOfAll G _ _ 0 (by decide) f0) ?_
  refine Rn.topI (nI 0) (by rfl) ?_
  refine Rn.istore dX10_span_65 (by decide) ?_
  refine Rn.aload_n dX10_span_67 rfl rfl ?_
  refine Rn.callVp (As := []) dX10_span_68 mv_X10_359 (by first | rfl | exact gC0 (by assumption) | exact gL0 (by assumption)) rfl rfl rfl (Nat.le_of_ble_eq_true rfl) (ct_bringsBack G _ _) ?_
  refine Rn.iload_n dX10_span_71 rfl rfl ?_
  refine Rn.if_ge (tgt := 80) dX10_span_72 (by decide) (fun _ => ?_) (fun h9 => absurd h9 (by decide))
  refine Rn.iload_n dX10_span_80 rfl rfl ?_
  refine Rn.if_eq (tgt := 93) dX10_span_81 (by decide) (fun _ => ?_) (fun h9 => by exfalso; exact h9 hy)
  refine Rn.iload_n dX10_span_93 rfl rfl ?_
  refine Rn.iload dX10_span_94 rfl ?_
  refine Rn.mmin dX10_span_96 ms_X10_266 (Nat.le_of_ble_eq_true rfl) ?_
  refine Rn.topI (nI 0) (by decide) ?_
  refine Rn.istore_n dX10_span_99 rfl (by decide) ?_
  refine Rn.iincN dX10_span_100 rfl (by decide) ?_
  refine Rn.goto 39 dX10_span_103 (by decide) ?_
  refine Rn.gen (fun H => H 95 0 = nI 0 ∧ H 98 0 = nI 0 ∧ H 94 0 = nI 0 ∧ H 107 = I 107) ⟨f8, f8, f4, by rw [zset_ne _ _ (by decide)]; exact f7⟩ (fun H2 hH => ?_)
  obtain ⟨a2, b2, c2, d2⟩ := hH
  refine Rn.lcl [some (.ref 94), some (.int (nI N)), some (.int y), some (.int (nI 0)), some (.int (nI 3)), some (.int (nI 0))] rfl ?_
  refine Rn.iload dX10_span_39 rfl ?_
  refine Rn.bipush (v := (nI 6)) dX10_span_41 rfl ?_
  refine Rn.icmp_gt (tgt := 106) dX10_span_43 (by decide) (fun h9 => absurd h9 (by decide)) (fun _ => ?_)
  refine Rn.aload_n dX10_span_46 rfl rfl ?_
  refine Rn.getR dX10_span_47 fd_X10_13_9 (by first | rfl | exact gC0 (by assumption) | exact gL0 (by assumption)) rfl ?_
  refine Rn.bipush (v := (nI 8)) dX10_span_50 rfl ?_
  refine Rn.iload dX10_span_52 rfl ?_
  refine Rn.iastN dX10_span_54 (by first | rfl | exact gC1 (by assumption) | exact gC2 (by assumption) | exact gC3 (by assumption) | exact gL1 (by assumption) | exact gL2 (by assumption) | exact gL3 (by assumption) | exact gL4 (by assumption) | exact gL5 (by assumption) | exact gL6 (by assumption)) ?_
  refine Rn.aload_n dX10_span_55 rfl rfl ?_
  refine Rn.iload_n dX10_span_56 rfl rfl ?_
  refine Rn.callV (As := [_]) dX10_span_57 mv_X10_336 (by first | rfl | exact gC0 (by assumption) | exact gL0 (by assumption)) rfl rfl rfl (Nat.le_of_ble_eq_true rfl) (ct_goesOn0 G _ _ (by exact a2) N hN) (fun E J h => nomatch h.1) (fun v J2 q2 => ?_)
  obtain ⟨e1, q1, q2, q3⟩ := q2
  cases e1
  have f0 : J2 95 0 = nI 0 := q1.trans a2
  have f8 : J2 98 0 = nI 0 := by rw [q3 98 (by decide)]; exact b2
  have f4 : J2 94 0 = nI 0 := by rw [q3 94 (by decide)]; exact c2
  have f7 : J2 107 = I 107 := by rw [q3 107 (by decide), zup_ne _ _ (by decide)]; exact d2
  refine Rn.pop dX10_span_60 rfl ?_
  refine Rn.aload_n dX10_span_61 rfl rfl ?_
  refine Rn.callVp (As := []) dX10_span_62 mv_X10_419 (by first | rfl | exact gC0 (by assumption) | exact gL0 (by assumption)) rfl rfl rfl (Nat.le_of_ble_eq_true rfl) (ct_luckOfAll G _ _ 0 (by decide) f0) ?_
  refine Rn.topI (nI 0) (by rfl) ?_
  refine Rn.istore dX10_span_65 (by decide) ?_
  refine Rn.aload_n dX10_span_67 rfl rfl ?_
  refine Rn.callVp (As := []) dX10_span_68 mv_X10_359 (by first | rfl | exact gC0 (by assumption) | exact gL0 (by assumption)) rfl rfl rfl (Nat.le_of_ble_eq_true rfl) (ct_bringsBack G _ _) ?_
  refine Rn.iload_n dX10_span_71 rfl rfl ?_
  refine Rn.if_ge (tgt := 80) dX10_span_72 (by decide) (fun _ => ?_) (fun h9 => absurd h9 (by decide))
  refine Rn.iload_n dX10_span_80 rfl rfl ?_
  refine Rn.if_eq (tgt := 93) dX10_span_81 (by decide) (fun _ => ?_) (fun h9 => by exfalso; exact h9 hy)
  refine Rn.iload_n dX10_span_93 rfl rfl ?_
  refine Rn.iload dX10_span_94 rfl ?_
  refine Rn.mmin dX10_span_96 ms_X10_266 (Nat.le_of_ble_eq_true rfl) ?_
  refine Rn.topI (nI 0) (by decide) ?_
  refine Rn.istore_n dX10_span_99 rfl (by decide) ?_
  refine Rn.iincN dX10_span_100 rfl (by decide) ?_
  refine Rn.goto 39 dX10_span_103 (by decide) ?_
  refine Rn.gen (fun H => H 95 0 = nI 0 ∧ H 98 0 = nI 0 ∧ H 94 0 = nI 0 ∧ H 107 = I 107) ⟨f8, f8, f4, by rw [zset_ne _ _ (by decide)]; exact f7⟩ (fun H3 hH => ?_)
  obtain ⟨a3, b3, c3, d3⟩ := hH
  refine Rn.lcl [some (.ref 94), some (.int (nI N)), some (.int y), some (.int (nI 0)), some (.int (nI 4)), some (.int (nI 0))] rfl ?_
  refine Rn.iload dX10_span_39 rfl ?_
  refine Rn.bipush (v := (nI 6)) dX10_span_41 rfl ?_
  refine Rn.icmp_gt (tgt := 106) dX10_span_43 (by decide) (fun h9 => absurd h9 (by decide)) (fun _ => ?_)
  refine Rn.aload_n dX10_span_46 rfl rfl ?_
  refine Rn.getR dX10_span_47 fd_X10_13_9 (by first | rfl | exact gC0 (by assumption) | exact gL0 (by assumption)) rfl ?_
  refine Rn.bipush (v := (nI 8)) dX10_span_50 rfl ?_
  refine Rn.iload dX10_span_52 rfl ?_
  refine Rn.iastN dX10_span_54 (by first | rfl | exact gC1 (by assumption) | exact gC2 (by assumption) | exact gC3 (by assumption) | exact gL1 (by assumption) | exact gL2 (by assumption) | exact gL3 (by assumption) | exact gL4 (by assumption) | exact gL5 (by assumption) | exact gL6 (by assumption)) ?_
  refine Rn.aload_n dX10_span_55 rfl rfl ?_
  refine Rn.iload_n dX10_span_56 rfl rfl ?_
  refine Rn.callV (As := [_]) dX10_span_57 mv_X10_336 (by first | rfl | exact gC0 (by assumption) | exact gL0 (by assumption)) rfl rfl rfl (Nat.le_of_ble_eq_true rfl) (ct_goesOn0 G _ _ (by exact a3) N hN) (fun E J h => nomatch h.1) (fun v J2 q2 => ?_)
  obtain ⟨e1, q1, q2, q3⟩ := q2
  cases e1
  have f0 : J2 95 0 = nI 0 := q1.trans a3
  have f8 : J2 98 0 = nI 0 := by rw [q3 98 (by decide)]; exact b3
  have f4 : J2 94 0 = nI 0 := by rw [q3 94 (by decide)]; exact c3
  have f7 : J2 107 = I 107 := by rw [q3 107 (by decide), zup_ne _ _ (by decide)]; exact d3
  refine Rn.pop dX10_span_60 rfl ?_
  refine Rn.aload_n dX10_span_61 rfl rfl ?_
  refine Rn.callVp (As := []) dX10_span_62 mv_X10_419 (by first | rfl | exact gC0 (by assumption) | exact gL0 (by assumption)) rfl rfl rfl (Nat.le_of_ble_eq_true rfl) (ct_luckOfAll G _ _ 0 (by decide) f0) ?_
  refine Rn.topI (nI 0) (by rfl) ?_
  refine Rn.istore dX10_span_65 (by decide) ?_
  refine Rn.aload_n dX10_span_67 rfl rfl ?_
  refine Rn.callVp (As := []) dX10_span_68 mv_X10_359 (by first | rfl | exact gC0 (by assumption) | exact gL0 (by assumption)) rfl rfl rfl (Nat.le_of_ble_eq_true rfl) (ct_bringsBack G _ _) ?_
  refine Rn.iload_n dX10_span_71 rfl rfl ?_
  refine Rn.if_ge (tgt := 80) dX10_span_72 (by decide) (fun _ => ?_) (fun h9 => absurd h9 (by decide))
  refine Rn.iload_n dX10_span_80 rfl rfl ?_
  refine Rn.if_eq (tgt := 93) dX10_span_81 (by decide) (fun _ => ?_) (fun h9 => by exfalso; exact h9 hy)
  refine Rn.iload_n dX10_span_93 rfl rfl ?_
  refine Rn.iload dX10_span_94 rfl ?_
  refine Rn.mmin dX10_span_96 ms_X10_266 (Nat.le_of_ble_eq_true rfl) ?_
  refine Rn.topI (nI 0) (by decide) ?_
  refine Rn.istore_n dX10_span_99 rfl (by decide) ?_
  refine Rn.iincN dX10_span_100 rfl (by decide) ?_
  refine Rn.goto 39 dX10_span_103 (by decide) ?_
  refine Rn.gen (fun H => H 95 0 = nI 0 ∧ H 98 0 = nI 0 ∧ H 94 0 = nI 0 ∧ H 107 = I 107) ⟨f8, f8, f4, by rw [zset_ne _ _ (by decide)]; exact f7⟩ (fun H4 hH => ?_)
  obtain ⟨a4, b4, c4, d4⟩ := hH
  refine Rn.lcl [some (.ref 94), some (.int (nI N)), some (.int y), some (.int (nI 0)), some (.int (nI 5)), some (.int (nI 0))] rfl ?_
  refine Rn.iload dX10_span_39 rfl ?_
  refine Rn.bipush (v := (nI 6)) dX10_span_41 rfl ?_
  refine Rn.icmp_gt (tgt := 106) dX10_span_43 (by decide) (fun h9 => absurd h9 (by decide)) (fun _ => ?_)
  refine Rn.aload_n dX10_span_46 rfl rfl ?_
  refine Rn.getR dX10_span_47 fd_X10_13_9 (by first | rfl | exact gC0 (by assumption) | exact gL0 (by assumption)) rfl ?_
  refine Rn.bipush (v := (nI 8)) dX10_span_50 rfl ?_
  refine Rn.iload dX10_span_52 rfl ?_
  refine Rn.iastN dX10_span_54 (by first | rfl | exact gC1 (by assumption) | exact gC2 (by assumption) | exact gC3 (by assumption) | exact gL1 (by assumption) | exact gL2 (by assumption) | exact gL3 (by assumption) | exact gL4 (by assumption) | exact gL5 (by assumption) | exact gL6 (by assumption)) ?_
  refine Rn.aload_n dX10_span_55 rfl rfl ?_
  refine Rn.iload_n dX10_span_56 rfl rfl ?_
  refine Rn.callV (As := [_]) dX10_span_57 mv_X10_336 (by first | rfl | exact gC0 (by assumption) | exact gL0 (by assumption)) rfl rfl rfl (Nat.le_of_ble_eq_true rfl) (ct_goesOn0 G _ _ (by exact a4) N hN) (fun E J h => nomatch h.1) (fun v J2 q2 => ?_)
  obtain ⟨e1, q1, q2, q3⟩ := q2
  cases e1
  have f0 : J2 95 0 = nI 0 := q1.trans a4
  have f8 : J2 98 0 = nI 0 := by rw [q3 98 (by decide)]; exact b4
  have f4 : J2 94 0 = nI 0 := by rw [q3 94 (by decide)]; exact c4
  have f7 : J2 107 = I 107 := by rw [q3 107 (by decide), zup_ne _ _ (by decide)]; exact d4
  refine Rn.pop dX10_span_60 rfl ?_
  refine Rn.aload_n dX10_span_61 rfl rfl ?_
  refine Rn.callVp (As := []) dX10_span_62 mv_X10_419 (by first | rfl | exact gC0 (by assumption) | exact gL0 (by assumption)) rfl rfl rfl (Nat.le_of_ble_eq_true rfl) (ct_luckOfAll G _ _ 0 (by decide) f0) ?_
  refine Rn.topI (nI 0) (by rfl) ?_
  refine Rn.istore dX10_span_65 (by decide) ?_
  refine Rn.aload_n dX10_span_67 rfl rfl ?_
  refine Rn.callVp (As := []) dX10_span_68 mv_X10_359 (by first | rfl | exact gC0 (by assumption) | exact gL0 (by assumption)) rfl rfl rfl (Nat.le_of_ble_eq_true rfl) (ct_bringsBack G _ _) ?_
  refine Rn.iload_n dX10_span_71 rfl rfl ?_
  refine Rn.if_ge (tgt := 80) dX10_span_72 (by decide) (fun _ => ?_) (fun h9 => absurd h9 (by decide))
  refine Rn.iload_n dX10_span_80 rfl rfl ?_
  refine Rn.if_eq (tgt := 93) dX10_span_81 (by decide) (fun _ => ?_) (fun h9 => by exfalso; exact h9 hy)
  refine Rn.iload_n dX10_span_93 rfl rfl ?_
  refine Rn.iload dX10_span_94 rfl ?_
  refine Rn.mmin dX10_span_96 ms_X10_266 (Nat.le_of_ble_eq_true rfl) ?_
  refine Rn.topI (nI 0) (by decide) ?_
  refine Rn.istore_n dX10_span_99 rfl (by decide) ?_
  refine Rn.iincN dX10_span_100 rfl (by decide) ?_
  refine Rn.goto 39 dX10_span_103 (by decide) ?_
  refine Rn.gen (fun H => H 95 0 = nI 0 ∧ H 98 0 = nI 0 ∧ H 94 0 = nI 0 ∧ H 107 = I 107) ⟨f8, f8, f4, by rw [zset_ne _ _ (by decide)]; exact f7⟩ (fun H5 hH => ?_)
  obtain ⟨a5, b5, c5, d5⟩ := hH
  refine Rn.lcl [some (.ref 94), some (.int (nI N)), some (.int y), some (.int (nI 0)), some (.int (nI 6)), some (.int (nI 0))] rfl ?_
  refine Rn.iload dX10_span_39 rfl ?_
  refine Rn.bipush (v := (nI 6)) dX10_span_41 rfl ?_
  refine Rn.icmp_gt (tgt := 106) dX10_span_43 (by decide) (fun h9 => absurd h9 (by decide)) (fun _ => ?_)
  refine Rn.aload_n dX10_span_46 rfl rfl ?_
  refine Rn.getR dX10_span_47 fd_X10_13_9 (by first | rfl | exact gC0 (by assumption) | exact gL0 (by assumption)) rfl ?_
  refine Rn.bipush (v := (nI 8)) dX10_span_50 rfl ?_
  refine Rn.iload dX10_span_52 rfl ?_
  refine Rn.iastN dX10_span_54 (by first | rfl | exact gC1 (by assumption) | exact gC2 (by assumption) | exact gC3 (by assumption) | exact gL1 (by assumption) | exact gL2 (by assumption) | exact gL3 (by assumption) | exact gL4 (by assumption) | exact gL5 (by assumption) | exact gL6 (by assumption)) ?_
  refine Rn.aload_n dX10_span_55 rfl rfl ?_
  refine Rn.iload_n dX10_span_56 rfl rfl ?_
  refine Rn.callV (As := [_]) dX10_span_57 mv_X10_336 (by first | rfl | exact gC0 (by assumption) | exact gL0 (by assumption)) rfl rfl rfl (Nat.le_of_ble_eq_true rfl) (ct_goesOn0 G _ _ (by exact a5) N hN) (fun E J h => nomatch h.1) (fun v J2 q2 => ?_)
  obtain ⟨e1, q1, q2, q3⟩ := q2
  cases e1
  have f0 : J2 95 0 = nI 0 := q1.trans a5
  have f8 : J2 98 0 = nI 0 := by rw [q3 98 (by decide)]; exact b5
  have f4 : J2 94 0 = nI 0 := by rw [q3 94 (by decide)]; exact c5
  have f7 : J2 107 = I 107 := by rw [q3 107 (by decide), zup_ne _ _ (by decide)]; exact d5
  refine Rn.pop dX10_span_60 rfl ?_
  refine Rn.aload_n dX10_span_61 rfl rfl ?_
  refine Rn.callVp (As := []) dX10_span_62 mv_X10_419 (by first | rfl | exact gC0 (by assumption) | exact gL0 (by assumption)) rfl rfl rfl (Nat.le_of_ble_eq_true rfl) (ct_luckOfAll G _ _ 0 (by decide) f0) ?_
  refine Rn.topI (nI 0) (by rfl) ?_
  refine Rn.istore dX10_span_65 (by decide) ?_
  refine Rn.aload_n dX10_span_67 rfl rfl ?_
  refine Rn.callVp (As := []) dX10_span_68 mv_X10_359 (by first | rfl | exact gC0 (by assumption) | exact gL0 (by assumption)) rfl rfl rfl (Nat.le_of_ble_eq_true rfl) (ct_bringsBack G _ _) ?_
  refine Rn.iload_n dX10_span_71 rfl rfl ?_
  refine Rn.if_ge (tgt := 80) dX10_span_72 (by decide) (fun _ => ?_) (fun h9 => absurd h9 (by decide))
  refine Rn.iload_n dX10_span_80 rfl rfl ?_
  refine Rn.if_eq (tgt := 93) dX10_span_81 (by decide) (fun _ => ?_) (fun h9 => by exfalso; exact h9 hy)
  refine Rn.iload_n dX10_span_93 rfl rfl ?_
  refine Rn.iload dX10_span_94 rfl ?_
  refine Rn.mmin dX10_span_96 ms_X10_266 (Nat.le_of_ble_eq_true rfl) ?_
  refine Rn.topI (nI 0) (by decide) ?_
  refine Rn.istore_n dX10_span_99 rfl (by decide) ?_
  refine Rn.iincN dX10_span_100 rfl (by decide) ?_
  refine Rn.goto 39 dX10_span_103 (by decide) ?_
  refine Rn.gen (fun H => H 95 0 = nI 0 ∧ H 98 0 = nI 0 ∧ H 94 0 = nI 0 ∧ H 107 = I 107) ⟨f8, f8, f4, by rw [zset_ne _ _ (by decide)]; exact f7⟩ (fun H6 hH => ?_)
  obtain ⟨a6, b6, c6, d6⟩ := hH
  refine Rn.lcl [some (.ref 94), some (.int (nI N)), some (.int y), some (.int (nI 0)), some (.int (nI 7)), some (.int (nI 0))] rfl ?_
  refine Rn.iload dX10_span_39 rfl ?_
  refine Rn.bipush (v := (nI 6)) dX10_span_41 rfl ?_
  refine Rn.icmp_gt (tgt := 106) dX10_span_43 (by decide) (fun _ => ?_) (fun h9 => absurd h9 (by decide))
  refine Rn.iload_n dX10_span_106 rfl rfl ?_
  exact Rn.iret dX10_span_107 rfl (⟨rfl, c6, d6⟩)
set_option maxHeartbeats 8000000 in
theorem ct_X10_span0_nonz (F : FW I) (y : Int32) (N : Nat) (hN : N ≤ 60) (h : nI 0 ≤ nI N ∧ nI N ≤ nI 60) (hy : ¬ y = 0) : Ct G GAM mX10_span (d + 4) 0 [.ref 94, .int (nI N), .int y] I (RM (nI 0) (nI 0) (I 107)) := by
  obtain ⟨g95_0, g95_1, g95_2, g95_3, g95_4, g95_5, g95_6, g95_7, g95_8, g94_6, g94_7, g94_9, g94_14⟩ := F
  refine Ct.mk [some (.ref 94), some (.int (nI N)), some (.int y), none, none, none] ?_
  refine Rn.aload_n dX10_span_0 rfl rfl ?_
  refine Rn.iconst (v := (nI 0)) dX10_span_1 rfl ?_
  refine Rn.putI dX10_span_2 fp_X10_3_9 (by first | rfl | exact gC0 (by assumption) | exact gL0 (by assumption)) rfl ?_
  refine Rn.aload_n dX10_span_5 rfl rfl ?_
  refine Rn.iload_n dX10_span_6 rfl rfl ?_
  refine Rn.iconst (v := (nI 0)) dX10_span_7 rfl ?_
  refine Rn.bipush (v := (nI 60)) dX10_span_8 rfl ?_
  refine Rn.callSp (As := [_, _, _]) dX10_span_10 ms_X10_78 rfl rfl (Nat.le_of_ble_eq_true rfl) (ct_in1 G _ _ _ _ _ h) ?_
  refine Rn.if_ne (tgt := 20) dX10_span_13 (by decide) (fun _ => ?_) (fun h9 => absurd h9 (by decide))
  refine Rn.iconst (v := (nI 0)) dX10_span_20 rfl ?_
  refine Rn.iconst (v := (nI 1)) dX10_span_21 rfl ?_
  refine Rn.callVp (As := [_, _]) dX10_span_22 mv_X10_241 (by first | rfl | exact gC0 (by assumption) | exact gL0 (by assumption)) rfl rfl rfl (Nat.le_of_ble_eq_true rfl) (ct_throws0 G _ _ _) ?_
  refine Rn.if_eq (tgt := 30) dX10_span_25 (by decide) (fun _ => ?_) (fun h9 => absurd h9 (by decide))
  refine Rn.aload_n dX10_span_30 rfl rfl ?_
  refine Rn.callVp (As := []) dX10_span_31 mv_X10_352 (by first | rfl | exact gC0 (by assumption) | exact gL0 (by assumption)) rfl rfl rfl (Nat.le_of_ble_eq_true rfl) (ct_keepsAll G _ _) ?_
  refine Rn.iconst (v := (-1)) dX10_span_34 rfl ?_
  refine Rn.istore_n dX10_span_35 rfl (by decide) ?_
  refine Rn.iconst (v := (nI 1)) dX10_span_36 rfl ?_
  refine Rn.istore dX10_span_37 (by decide) ?_
  refine Rn.gen (fun H => H 95 0 = nI 0 ∧ H 98 0 = nI 0 ∧ H 94 0 = nI 0 ∧ H 107 = I 107) ⟨g95_0, g95_0, rfl, by rw [zset_ne _ _ (by decide), zup_ne _ _ (by decide)]⟩ (fun H0 hH => ?_)
  obtain ⟨a0, b0, c0, d0⟩ := hH
  refine Rn.iload dX10_span_39 rfl ?_
  refine Rn.bipush (v := (nI 6)) dX10_span_41 rfl ?_
  refine Rn.icmp_gt (tgt := 106) dX10_span_43 (by decide) (fun h9 => absurd h9 (by decide)) (fun _ => ?_)
  refine Rn.aload_n dX10_span_46 rfl rfl ?_
  refine Rn.getR dX10_span_47 fd_X10_13_9 (by first | rfl | exact gC0 (by assumption) | exact gL0 (by assumption)) rfl ?_
  refine Rn.bipush (v := (nI 8)) dX10_span_50 rfl ?_
  refine Rn.iload dX10_span_52 rfl ?_
  refine Rn.iastN dX10_span_54 (by first | rfl | exact gC1 (by assumption) | exact gC2 (by assumption) | exact gC3 (by assumption) | exact gL1 (by assumption) | exact gL2 (by assumption) | exact gL3 (by assumption) | exact gL4 (by assumption) | exact gL5 (by assumption) | exact gL6 (by assumption)) ?_
  refine Rn.aload_n dX10_span_55 rfl rfl ?_
  refine Rn.iload_n dX10_span_56 rfl rfl ?_
  refine Rn.callV (As := [_]) dX10_span_57 mv_X10_336 (by first | rfl | exact gC0 (by assumption) | exact gL0 (by assumption)) rfl rfl rfl (Nat.le_of_ble_eq_true rfl) (ct_goesOn0 G _ _ (by exact a0) N hN) (fun E J h => nomatch h.1) (fun v J2 q2 => ?_)
  obtain ⟨e1, q1, q2, q3⟩ := q2
  cases e1
  have f0 : J2 95 0 = nI 0 := q1.trans a0
  have f8 : J2 98 0 = nI 0 := by rw [q3 98 (by decide)]; exact b0
  have f4 : J2 94 0 = nI 0 := by rw [q3 94 (by decide)]; exact c0
  have f7 : J2 107 = I 107 := by rw [q3 107 (by decide), zup_ne _ _ (by decide)]; exact d0
  refine Rn.pop dX10_span_60 rfl ?_
  refine Rn.aload_n dX10_span_61 rfl rfl ?_
  refine Rn.callVp (As := []) dX10_span_62 mv_X10_419 (by first | rfl | exact gC0 (by assumption) | exact gL0 (by assumption)) rfl rfl rfl (Nat.le_of_ble_eq_true rfl) (ct_luckOfAll G _ _ 0 (by decide) f0) ?_
  refine Rn.topI (nI 0) (by rfl) ?_
  refine Rn.istore dX10_span_65 (by decide) ?_
  refine Rn.aload_n dX10_span_67 rfl rfl ?_
  refine Rn.callVp (As := []) dX10_span_68 mv_X10_359 (by first | rfl | exact gC0 (by assumption) | exact gL0 (by assumption)) rfl rfl rfl (Nat.le_of_ble_eq_true rfl) (ct_bringsBack G _ _) ?_
  refine Rn.iload_n dX10_span_71 rfl rfl ?_
  refine Rn.if_ge (tgt := 80) dX10_span_72 (by decide) (fun h9 => absurd h9 (by decide)) (fun _ => ?_)
  refine Rn.iload dX10_span_75 rfl ?_
  refine Rn.goto 99 dX10_span_77 (by decide) ?_
  refine Rn.istore_n dX10_span_99 rfl (by decide) ?_
  refine Rn.iincN dX10_span_100 rfl (by decide) ?_
  refine Rn.goto 39 dX10_span_103 (by decide) ?_
  refine Rn.gen (fun H => H 95 0 = nI 0 ∧ H 98 0 = nI 0 ∧ H 94 0 = nI 0 ∧ H 107 = I 107) ⟨f8, f8, f4, by rw [zset_ne _ _ (by decide)]; exact f7⟩ (fun H1 hH => ?_)
  obtain ⟨a1, b1, c1, d1⟩ := hH
  refine Rn.lcl [some (.ref 94), some (.int (nI N)), some (.int y), some (.int (nI 0)), some (.int (nI 2)), some (.int (nI 0))] rfl ?_
  refine Rn.iload dX10_span_39 rfl ?_
  refine Rn.bipush (v := (nI 6)) dX10_span_41 rfl ?_
  refine Rn.icmp_gt (tgt := 106) dX10_span_43 (by decide) (fun h9 => absurd h9 (by decide)) (fun _ => ?_)
  refine Rn.aload_n dX10_span_46 rfl rfl ?_
  refine Rn.getR dX10_span_47 fd_X10_13_9 (by first | rfl | exact gC0 (by assumption) | exact gL0 (by assumption)) rfl ?_
  refine Rn.bipush (v := (nI 8)) dX10_span_50 rfl ?_
  refine Rn.iload dX10_span_52 rfl ?_
  refine Rn.iastN dX10_span_54 (by first | rfl | exact gC1 (by assumption) | exact gC2 (by assumption) | exact gC3 (by assumption) | exact gL1 (by assumption) | exact gL2 (by assumption) | exact gL3 (by assumption) | exact gL4 (by assumption) | exact gL5 (by assumption) | exact gL6 (by assumption)) ?_
  refine Rn.aload_n dX10_span_55 rfl rfl ?_
  refine Rn.iload_n dX10_span_56 rfl rfl ?_
  refine Rn.callV (As := [_]) dX10_span_57 mv_X10_336 (by first | rfl | exact gC0 (by assumption) | exact gL0 (by assumption)) rfl rfl rfl (Nat.le_of_ble_eq_true rfl) (ct_goesOn0 G _ _ (by exact a1) N hN) (fun E J h => nomatch h.1) (fun v J2 q2 => ?_)
  obtain ⟨e1, q1, q2, q3⟩ := q2
  cases e1
  have f0 : J2 95 0 = nI 0 := q1.trans a1
  have f8 : J2 98 0 = nI 0 := by rw [q3 98 (by decide)]; exact b1
  have f4 : J2 94 0 = nI 0 := by rw [q3 94 (by decide)]; exact c1
  have f7 : J2 107 = I 107 := by rw [q3 107 (by decide), zup_ne _ _ (by decide)]; exact d1
  refine Rn.pop dX10_span_60 rfl ?_
  refine Rn.aload_n dX10_span_61 rfl rfl ?_
  refine Rn.callVp (As := []) dX10_span_62 mv_X10_419 (by first | rfl | exact gC0 (by assumption) | exact gL0 (by assumption)) rfl rfl rfl (Nat.le_of_ble_eq_true rfl) (ct_luckOfAll G _ _ 0 (by decide) f0) ?_
  refine Rn.topI (nI 0) (by rfl) ?_
  refine Rn.istore dX10_span_65 (by decide) ?_
  refine Rn.aload_n dX10_span_67 rfl rfl ?_
  refine Rn.callVp (As := []) dX10_span_68 mv_X10_359 (by first | rfl | exact gC0 (by assumption) | exact gL0 (by assumption)) rfl rfl rfl (Nat.le_of_ble_eq_true rfl) (ct_bringsBack G _ _) ?_
  refine Rn.iload_n dX10_span_71 rfl rfl ?_
  refine Rn.if_ge (tgt := 80) dX10_span_72 (by decide) (fun _ => ?_) (fun h9 => absurd h9 (by decide))
  refine Rn.iload_n dX10_span_80 rfl rfl ?_
  refine Rn.if_eq (tgt := 93) dX10_span_81 (by decide) (fun h9 => by exfalso; exact hy h9) (fun _ => ?_)
  refine Rn.iload_n dX10_span_84 rfl rfl ?_
  refine Rn.iload dX10_span_85 rfl ?_
  refine Rn.mmax dX10_span_87 ms_X10_372 (Nat.le_of_ble_eq_true rfl) ?_
  refine Rn.topI (nI 0) (by decide) ?_
  refine Rn.goto 99 dX10_span_90 (by decide) ?_
  refine Rn.istore_n dX10_span_99 rfl (by decide) ?_
  refine Rn.iincN dX10_span_100 rfl (by decide) ?_
  refine Rn.goto 39 dX10_span_103 (by decide) ?_
  refine Rn.gen (fun H => H 95 0 = nI 0 ∧ H 98 0 = nI 0 ∧ H 94 0 = nI 0 ∧ H 107 = I 107) ⟨f8, f8, f4, by rw [zset_ne _ _ (by decide)]; exact f7⟩ (fun H2 hH => ?_)
  obtain ⟨a2, b2, c2, d2⟩ := hH
  refine Rn.lcl [some (.ref 94), some (.int (nI N)), some (.int y), some (.int (nI 0)), some (.int (nI 3)), some (.int (nI 0))] rfl ?_
  refine Rn.iload dX10_span_39 rfl ?_
  refine Rn.bipush (v := (nI 6)) dX10_span_41 rfl ?_
  refine Rn.icmp_gt (tgt := 106) dX10_span_43 (by decide) (fun h9 => absurd h9 (by decide)) (fun _ => ?_)
  refine Rn.aload_n dX10_span_46 rfl rfl ?_
  refine Rn.getR dX10_span_47 fd_X10_13_9 (by first | rfl | exact gC0 (by assumption) | exact gL0 (by assumption)) rfl ?_
  refine Rn.bipush (v := (nI 8)) dX10_span_50 rfl ?_
  refine Rn.iload dX10_span_52 rfl ?_
  refine Rn.iastN dX10_span_54 (by first | rfl | exact gC1 (by assumption) | exact gC2 (by assumption) | exact gC3 (by assumption) | exact gL1 (by assumption) | exact gL2 (by assumption) | exact gL3 (by assumption) | exact gL4 (by assumption) | exact gL5 (by assumption) | exact gL6 (by assumption)) ?_
  refine Rn.aload_n dX10_span_55 rfl rfl ?_
  refine Rn.iload_n dX10_span_56 rfl rfl ?_
  refine Rn.callV (As := [_]) dX10_span_57 mv_X10_336 (by first | rfl | exact gC0 (by assumption) | exact gL0 (by assumption)) rfl rfl rfl (Nat.le_of_ble_eq_true rfl) (ct_goesOn0 G _ _ (by exact a2) N hN) (fun E J h => nomatch h.1) (fun v J2 q2 => ?_)
  obtain ⟨e1, q1, q2, q3⟩ := q2
  cases e1
  have f0 : J2 95 0 = nI 0 := q1.trans a2
  have f8 : J2 98 0 = nI 0 := by rw [q3 98 (by decide)]; exact b2
  have f4 : J2 94 0 = nI 0 := by rw [q3 94 (by decide)]; exact c2
  have f7 : J2 107 = I 107 := by rw [q3 107 (by decide), zup_ne _ _ (by decide)]; exact d2
  refine Rn.pop dX10_span_60 rfl ?_
  refine Rn.aload_n dX10_span_61 rfl rfl ?_
  refine Rn.callVp (As := []) dX10_span_62 mv_X10_419 (by first | rfl | exact gC0 (by assumption) | exact gL0 (by assumption)) rfl rfl rfl (Nat.le_of_ble_eq_true rfl) (ct_luckOfAll G _ _ 0 (by decide) f0) ?_
  refine Rn.topI (nI 0) (by rfl) ?_
  refine Rn.istore dX10_span_65 (by decide) ?_
  refine Rn.aload_n dX10_span_67 rfl rfl ?_
  refine Rn.callVp (As := []) dX10_span_68 mv_X10_359 (by first | rfl | exact gC0 (by assumption) | exact gL0 (by assumption)) rfl rfl rfl (Nat.le_of_ble_eq_true rfl) (ct_bringsBack G _ _) ?_
  refine Rn.iload_n dX10_span_71 rfl rfl ?_
  refine Rn.if_ge (tgt := 80) dX10_span_72 (by decide) (fun _ => ?_) (fun h9 => absurd h9 (by decide))
  refine Rn.iload_n dX10_span_80 rfl rfl ?_
  refine Rn.if_eq (tgt := 93) dX10_span_81 (by decide) (fun h9 => by exfalso; exact hy h9) (fun _ => ?_)
  refine Rn.iload_n dX10_span_84 rfl rfl ?_
  refine Rn.iload dX10_span_85 rfl ?_
  refine Rn.mmax dX10_span_87 ms_X10_372 (Nat.le_of_ble_eq_true rfl) ?_
  refine Rn.topI (nI 0) (by decide) ?_
  refine Rn.goto 99 dX10_span_90 (by decide) ?_
  refine Rn.istore_n dX10_span_99 rfl (by decide) ?_
  refine Rn.iincN dX10_span_100 rfl (by decide) ?_
  refine Rn.goto 39 dX10_span_103 (by decide) ?_
  refine Rn.gen (fun H => H 95 0 = nI 0 ∧ H 98 0 = nI 0 ∧ H 94 0 = nI 0 ∧ H 107 = I 107) ⟨f8, f8, f4, by rw [zset_ne _ _ (by decide)]; exact f7⟩ (fun H3 hH => ?_)
  obtain ⟨a3, b3, c3, d3⟩ := hH
  refine Rn.lcl [some (.ref 94), some (.int (nI N)), some (.int y), some (.int (nI 0)), some (.int (nI 4)), some (.int (nI 0))] rfl ?_
  refine Rn.iload dX10_span_39 rfl ?_
  refine Rn.bipush (v := (nI 6)) dX10_span_41 rfl ?_
  refine Rn.icmp_gt (tgt := 106) dX10_span_43 (by decide) (fun h9 => absurd h9 (by decide)) (fun _ => ?_)
  refine Rn.aload_n dX10_span_46 rfl rfl ?_
  refine Rn.getR dX10_span_47 fd_X10_13_9 (by first | rfl | exact gC0 (by assumption) | exact gL0 (by assumption)) rfl ?_
  refine Rn.bipush (v := (nI 8)) dX10_span_50 rfl ?_
  refine Rn.iload dX10_span_52 rfl ?_
  refine Rn.iastN dX10_span_54 (by first | rfl | exact gC1 (by assumption) | exact gC2 (by assumption) | exact gC3 (by assumption) | exact gL1 (by assumption) | exact gL2 (by assumption) | exact gL3 (by assumption) | exact gL4 (by assumption) | exact gL5 (by assumption) | exact gL6 (by assumption)) ?_
  refine Rn.aload_n dX10_span_55 rfl rfl ?_
  refine Rn.iload_n dX10_span_56 rfl rfl ?_
  refine Rn.callV (As := [_]) dX10_span_57 mv_X10_336 (by first | rfl | exact gC0 (by assumption) | exact gL0 (by assumption)) rfl rfl rfl (Nat.le_of_ble_eq_true rfl) (ct_goesOn0 G _ _ (by exact a3) N hN) (fun E J h => nomatch h.1) (fun v J2 q2 => ?_)
  obtain ⟨e1, q1, q2, q3⟩ := q2
  cases e1
  have f0 : J2 95 0 = nI 0 := q1.trans a3
  have f8 : J2 98 0 = nI 0 := by rw [q3 98 (by decide)]; exact b3
  have f4 : J2 94 0 = nI 0 := by rw [q3 94 (by decide)]; exact c3
  have f7 : J2 107 = I 107 := by rw [q3 107 (by decide), zup_ne _ _ (by decide)]; exact d3
  refine Rn.pop dX10_span_60 rfl ?_
  refine Rn.aload_n dX10_span_61 rfl rfl ?_
  refine Rn.callVp (As := []) dX10_span_62 mv_X10_419 (by first | rfl | exact gC0 (by assumption) | exact gL0 (by assumption)) rfl rfl rfl (Nat.le_of_ble_eq_true rfl) (ct_luckOfAll G _ _ 0 (by decide) f0) ?_
  refine Rn.topI (nI 0) (by rfl) ?_
  refine Rn.istore dX10_span_65 (by decide) ?_
  refine Rn.aload_n dX10_span_67 rfl rfl ?_
  refine Rn.callVp (As := []) dX10_span_68 mv_X10_359 (by first | rfl | exact gC0 (by assumption) | exact gL0 (by assumption)) rfl rfl rfl (Nat.le_of_ble_eq_true rfl) (ct_bringsBack G _ _) ?_
  refine Rn.iload_n dX10_span_71 rfl rfl ?_
  refine Rn.if_ge (tgt := 80) dX10_span_72 (by decide) (fun _ => ?_) (fun h9 => absurd h9 (by decide))
  refine Rn.iload_n dX10_span_80 rfl rfl ?_
  refine Rn.if_eq (tgt := 93) dX10_span_81 (by decide) (fun h9 => by exfalso; exact hy h9) (fun _ => ?_)
  refine Rn.iload_n dX10_span_84 rfl rfl ?_
  refine Rn.iload dX10_span_85 rfl ?_
  refine Rn.mmax dX10_span_87 ms_X10_372 (Nat.le_of_ble_eq_true rfl) ?_
  refine Rn.topI (nI 0) (by decide) ?_
  refine Rn.goto 99 dX10_span_90 (by decide) ?_
  refine Rn.istore_n dX10_span_99 rfl (by decide) ?_
  refine Rn.iincN dX10_span_100 rfl (by decide) ?_
  refine Rn.goto 39 dX10_span_103 (by decide) ?_
  refine Rn.gen (fun H => H 95 0 = nI 0 ∧ H 98 0 = nI 0 ∧ H 94 0 = nI 0 ∧ H 107 = I 107) ⟨f8, f8, f4, by rw [zset_ne _ _ (by decide)]; exact f7⟩ (fun H4 hH => ?_)
  obtain ⟨a4, b4, c4, d4⟩ := hH
  refine Rn.lcl [some (.ref 94), some (.int (nI N)), some (.int y), some (.int (nI 0)), some (.int (nI 5)), some (.int (nI 0))] rfl ?_
  refine Rn.iload dX10_span_39 rfl ?_
  refine Rn.bipush (v := (nI 6)) dX10_span_41 rfl ?_
  refine Rn.icmp_gt (tgt := 106) dX10_span_43 (by decide) (fun h9 => absurd h9 (by decide)) (fun _ => ?_)
  refine Rn.aload_n dX10_span_46 rfl rfl ?_
  refine Rn.getR dX10_span_47 fd_X10_13_9 (by first | rfl | exact gC0 (by assumption) | exact gL0 (by assumption)) rfl ?_
  refine Rn.bipush (v := (nI 8)) dX10_span_50 rfl ?_
  refine Rn.iload dX10_span_52 rfl ?_
  refine Rn.iastN dX10_span_54 (by first | rfl | exact gC1 (by assumption) | exact gC2 (by assumption) | exact gC3 (by assumption) | exact gL1 (by assumption) | exact gL2 (by assumption) | exact gL3 (by assumption) | exact gL4 (by assumption) | exact gL5 (by assumption) | exact gL6 (by assumption)) ?_
  refine Rn.aload_n dX10_span_55 rfl rfl ?_
  refine Rn.iload_n dX10_span_56 rfl rfl ?_
  refine Rn.callV (As := [_]) dX10_span_57 mv_X10_336 (by first | rfl | exact gC0 (by assumption) | exact gL0 (by assumption)) rfl rfl rfl (Nat.le_of_ble_eq_true rfl) (ct_goesOn0 G _ _ (by exact a4) N hN) (fun E J h => nomatch h.1) (fun v J2 q2 => ?_)
  obtain ⟨e1, q1, q2, q3⟩ := q2
  cases e1
  have f0 : J2 95 0 = nI 0 := q1.trans a4
  have f8 : J2 98 0 = nI 0 := by rw [q3 98 (by decide)]; exact b4
  have f4 : J2 94 0 = nI 0 := by rw [q3 94 (by decide)]; exact c4
  have f7 : J2 107 = I 107 := by rw [q3 107 (by decide), zup_ne _ _ (by decide)]; exact d4
  refine Rn.pop dX10_span_60 rfl ?_
  refine Rn.aload_n dX10_span_61 rfl rfl ?_
  refine Rn.callVp (As := []) dX10_span_62 mv_X10_419 (by first | rfl | exact gC0 (by assumption) | exact gL0 (by assumption)) rfl rfl rfl (Nat.le_of_ble_eq_true rfl) (ct_luckOfAll G _ _ 0 (by decide) f0) ?_
  refine Rn.topI (nI 0) (by rfl) ?_
  refine Rn.istore dX10_span_65 (by decide) ?_
  refine Rn.aload_n dX10_span_67 rfl rfl ?_
  refine Rn.callVp (As := []) dX10_span_68 mv_X10_359 (by first | rfl | exact gC0 (by assumption) | exact gL0 (by assumption)) rfl rfl rfl (Nat.le_of_ble_eq_true rfl) (ct_bringsBack G _ _) ?_
  refine Rn.iload_n dX10_span_71 rfl rfl ?_
  refine Rn.if_ge (tgt := 80) dX10_span_72 (by decide) (fun _ => ?_) (fun h9 => absurd h9 (by decide))
  refine Rn.iload_n dX10_span_80 rfl rfl ?_
  refine Rn.if_eq (tgt := 93) dX10_span_81 (by decide) (fun h9 => by exfalso; exact hy h9) (fun _ => ?_)
  refine Rn.iload_n dX10_span_84 rfl rfl ?_
  refine Rn.iload dX10_span_85 rfl ?_
  refine Rn.mmax dX10_span_87 ms_X10_372 (Nat.le_of_ble_eq_true rfl) ?_
  refine Rn.topI (nI 0) (by decide) ?_
  refine Rn.goto 99 dX10_span_90 (by decide) ?_
  refine Rn.istore_n dX10_span_99 rfl (by decide) ?_
  refine Rn.iincN dX10_span_100 rfl (by decide) ?_
  refine Rn.goto 39 dX10_span_103 (by decide) ?_
  refine Rn.gen (fun H => H 95 0 = nI 0 ∧ H 98 0 = nI 0 ∧ H 94 0 = nI 0 ∧ H 107 = I 107) ⟨f8, f8, f4, by rw [zset_ne _ _ (by decide)]; exact f7⟩ (fun H5 hH => ?_)
  obtain ⟨a5, b5, c5, d5⟩ := hH
  refine Rn.lcl [some (.ref 94), some (.int (nI N)), some (.int y), some (.int (nI 0)), some (.int (nI 6)), some (.int (nI 0))] rfl ?_
  refine Rn.iload dX10_span_39 rfl ?_
  refine Rn.bipush (v := (nI 6)) dX10_span_41 rfl ?_
  refine Rn.icmp_gt (tgt := 106) dX10_span_43 (by decide) (fun h9 => absurd h9 (by decide)) (fun _ => ?_)
  refine Rn.aload_n dX10_span_46 rfl rfl ?_
  refine Rn.getR dX10_span_47 fd_X10_13_9 (by first | rfl | exact gC0 (by assumption) | exact gL0 (by assumption)) rfl ?_
  refine Rn.bipush (v := (nI 8)) dX10_span_50 rfl ?_
  refine Rn.iload dX10_span_52 rfl ?_
  refine Rn.iastN dX10_span_54 (by first | rfl | exact gC1 (by assumption) | exact gC2 (by assumption) | exact gC3 (by assumption) | exact gL1 (by assumption) | exact gL2 (by assumption) | exact gL3 (by assumption) | exact gL4 (by assumption) | exact gL5 (by assumption) | exact gL6 (by assumption)) ?_
  refine Rn.aload_n dX10_span_55 rfl rfl ?_
  refine Rn.iload_n dX10_span_56 rfl rfl ?_
  refine Rn.callV (As := [_]) dX10_span_57 mv_X10_336 (by first | rfl | exact gC0 (by assumption) | exact gL0 (by assumption)) rfl rfl rfl (Nat.le_of_ble_eq_true rfl) (ct_goesOn0 G _ _ (by exact a5) N hN) (fun E J h => nomatch h.1) (fun v J2 q2 => ?_)
  obtain ⟨e1, q1, q2, q3⟩ := q2
  cases e1
  have f0 : J2 95 0 = nI 0 := q1.trans a5
  have f8 : J2 98 0 = nI 0 := by rw [q3 98 (by decide)]; exact b5
  have f4 : J2 94 0 = nI 0 := by rw [q3 94 (by decide)]; exact c5
  have f7 : J2 107 = I 107 := by rw [q3 107 (by decide), zup_ne _ _ (by decide)]; exact d5
  refine Rn.pop dX10_span_60 rfl ?_
  refine Rn.aload_n dX10_span_61 rfl rfl ?_
  refine Rn.callVp (As := []) dX10_span_62 mv_X10_419 (by first | rfl | exact gC0 (by assumption) | exact gL0 (by assumption)) rfl rfl rfl (Nat.le_of_ble_eq_true rfl) (ct_luckOfAll G _ _ 0 (by decide) f0) ?_
  refine Rn.topI (nI 0) (by rfl) ?_
  refine Rn.istore dX10_span_65 (by decide) ?_
  refine Rn.aload_n dX10_span_67 rfl rfl ?_
  refine Rn.callVp (As := []) dX10_span_68 mv_X10_359 (by first | rfl | exact gC0 (by assumption) | exact gL0 (by assumption)) rfl rfl rfl (Nat.le_of_ble_eq_true rfl) (ct_bringsBack G _ _) ?_
  refine Rn.iload_n dX10_span_71 rfl rfl ?_
  refine Rn.if_ge (tgt := 80) dX10_span_72 (by decide) (fun _ => ?_) (fun h9 => absurd h9 (by decide))
  refine Rn.iload_n dX10_span_80 rfl rfl ?_
  refine Rn.if_eq (tgt := 93) dX10_span_81 (by decide) (fun h9 => by exfalso; exact hy h9) (fun _ => ?_)
  refine Rn.iload_n dX10_span_84 rfl rfl ?_
  refine Rn.iload dX10_span_85 rfl ?_
  refine Rn.mmax dX10_span_87 ms_X10_372 (Nat.le_of_ble_eq_true rfl) ?_
  refine Rn.topI (nI 0) (by decide) ?_
  refine Rn.goto 99 dX10_span_90 (by decide) ?_
  refine Rn.istore_n dX10_span_99 rfl (by decide) ?_
  refine Rn.iincN dX10_span_100 rfl (by decide) ?_
  refine Rn.goto 39 dX10_span_103 (by decide) ?_
  refine Rn.gen (fun H => H 95 0 = nI 0 ∧ H 98 0 = nI 0 ∧ H 94 0 = nI 0 ∧ H 107 = I 107) ⟨f8, f8, f4, by rw [zset_ne _ _ (by decide)]; exact f7⟩ (fun H6 hH => ?_)
  obtain ⟨a6, b6, c6, d6⟩ := hH
  refine Rn.lcl [some (.ref 94), some (.int (nI N)), some (.int y), some (.int (nI 0)), some (.int (nI 7)), some (.int (nI 0))] rfl ?_
  refine Rn.iload dX10_span_39 rfl ?_
  refine Rn.bipush (v := (nI 6)) dX10_span_41 rfl ?_
  refine Rn.icmp_gt (tgt := 106) dX10_span_43 (by decide) (fun _ => ?_) (fun h9 => absurd h9 (by decide))
  refine Rn.iload_n dX10_span_106 rfl rfl ?_
  exact Rn.iret dX10_span_107 rfl (⟨rfl, c6, d6⟩)
end ModB
