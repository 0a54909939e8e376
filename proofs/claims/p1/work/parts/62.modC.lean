abbrev mX10_isAt : Ym := (yX10_isAt, cX10_isAt, 3, some .boolean)
theorem dX10_isAt_0 : decode cX10_isAt 0 = .ok (.aload_n 0, 1) := by decide +kernel
theorem dX10_isAt_1 : decode cX10_isAt 1 = .ok (.getfield 89, 3) := by decide +kernel
theorem fd_X10_89_9 : zFd RX10 89 9 10 := ⟨RX10, TX10, 23, "BorrowedLuckModel", rfl, by decide, uw_X10, Or.inl rfl, Or.inl wi_1273⟩
theorem dX10_isAt_4 : decode cX10_isAt 4 = .ok (.aload_n 0, 1) := by decide +kernel
theorem dX10_isAt_5 : decode cX10_isAt 5 = .ok (.getfield 92, 3) := by decide +kernel
theorem dX10_isAt_8 : decode cX10_isAt 8 = .ok (.if_icmp .ge 33, 3) := by decide +kernel
theorem dX10_isAt_41 : decode cX10_isAt 41 = .ok (.iconst 0, 1) := by decide +kernel
theorem dX10_isAt_42 : decode cX10_isAt 42 = .ok (.ireturn, 1) := by decide +kernel
abbrev mX10_blanks : Ym := (yX10_blanks, cX10_blanks, 1, none)
theorem dX10_blanks_0 : decode cX10_blanks 0 = .ok (.aload_n 0, 1) := by decide +kernel
theorem dX10_blanks_1 : decode cX10_blanks 1 = .ok (.bipush 32, 2) := by decide +kernel
theorem dX10_blanks_3 : decode cX10_blanks 3 = .ok (.bipush 32, 2) := by decide +kernel
theorem dX10_blanks_5 : decode cX10_blanks 5 = .ok (.invokevirtual 95, 3) := by decide +kernel
theorem wi_1373 : Cond.methodLink RX10 95 yX10_isAt ∈ WA := zin 1373 (by decide +kernel) (by decide +kernel)
theorem wi_1376 : Cond.code yX10_isAt cX10_isAt 3 (some .boolean) ∈ WA := zin 1376 (by decide +kernel) (by decide +kernel)
theorem wi_1375 : Cond.instanceMethod yX10_isAt ∈ WA := zin 1375 (by decide +kernel) (by decide +kernel)
theorem wi_27 : Cond.selects RX10 yX10_isAt yX10_isAt ∈ WA := zin 27 (by decide +kernel) (by decide +kernel)
theorem mv_X10_95 : zMv RX10 95 RX10 mX10_isAt 2 := ⟨⟨wi_1373, wi_110, wi_1376, by decide, by decide +kernel⟩, wi_1375, wi_27⟩
theorem dX10_blanks_8 : decode cX10_blanks 8 = .ok (.ifCond .eq 16, 3) := by decide +kernel
theorem dX10_blanks_24 : decode cX10_blanks 24 = .ok (.aload_n 0, 1) := by decide +kernel
theorem dX10_blanks_25 : decode cX10_blanks 25 = .ok (.aload_n 0, 1) := by decide +kernel
theorem dX10_blanks_26 : decode cX10_blanks 26 = .ok (.getfield 89, 3) := by decide +kernel
theorem dX10_blanks_29 : decode cX10_blanks 29 = .ok (.putfield 99, 3) := by decide +kernel
theorem wi_1275 : Cond.fieldLink RX10 99 "BorrowedLuckModel" "begin" "I" ∈ WA := zin 1275 (by decide +kernel) (by decide +kernel)
theorem fp_X10_99_9 : zFp RX10 99 9 12 .int := ⟨RX10, TX10, 23, "BorrowedLuckModel", tyX10, rfl, by decide, uw_X10, Or.inl rfl, Or.inl wi_1275, tyX10_ok, nmX10, rfl, by decide +kernel⟩
theorem dX10_blanks_32 : decode cX10_blanks 32 = .ok (.return_, 1) := by decide +kernel
abbrev mX10_readAll : Ym := (yX10_readAll, cX10_readAll, 3, some .int)
theorem dX10_readAll_0 : decode cX10_readAll 0 = .ok (.aload_n 0, 1) := by decide +kernel
theorem dX10_readAll_1 : decode cX10_readAll 1 = .ok (.invokevirtual 230, 3) := by decide +kernel
theorem dX10_readAll_4 : decode cX10_readAll 4 = .ok (.aload_n 0, 1) := by decide +kernel
theorem dX10_readAll_5 : decode cX10_readAll 5 = .ok (.iconst 0, 1) := by decide +kernel
theorem dX10_readAll_6 : decode cX10_readAll 6 = .ok (.putfield 168, 3) := by decide +kernel
theorem wi_1279 : Cond.fieldLink RX10 168 "BorrowedLuckModel" "steps" "I" ∈ WA := zin 1279 (by decide +kernel) (by decide +kernel)
theorem fp_X10_168_9 : zFp RX10 168 9 16 .int := ⟨RX10, TX10, 23, "BorrowedLuckModel", tyX10, rfl, by decide, uw_X10, Or.inl rfl, Or.inl wi_1279, tyX10_ok, nmX10, rfl, by decide +kernel⟩
theorem dX10_readAll_9 : decode cX10_readAll 9 = .ok (.aload_n 0, 1) := by decide +kernel
theorem dX10_readAll_10 : decode cX10_readAll 10 = .ok (.invokevirtual 102, 3) := by decide +kernel
theorem wi_1369 : Cond.methodLink RX10 102 yX10_blanks ∈ WA := zin 1369 (by decide +kernel) (by decide +kernel)
theorem wi_1372 : Cond.code yX10_blanks cX10_blanks 1 (none) ∈ WA := zin 1372 (by decide +kernel) (by decide +kernel)
theorem wi_1371 : Cond.instanceMethod yX10_blanks ∈ WA := zin 1371 (by decide +kernel) (by decide +kernel)
theorem wi_26 : Cond.selects RX10 yX10_blanks yX10_blanks ∈ WA := zin 26 (by decide +kernel) (by decide +kernel)
theorem mv_X10_102 : zMv RX10 102 RX10 mX10_blanks 0 := ⟨⟨wi_1369, wi_110, wi_1372, by decide, by decide +kernel⟩, wi_1371, wi_26⟩
theorem dX10_readAll_13 : decode cX10_readAll 13 = .ok (.aload_n 0, 1) := by decide +kernel
theorem dX10_readAll_14 : decode cX10_readAll 14 = .ok (.getfield 89, 3) := by decide +kernel
theorem dX10_readAll_17 : decode cX10_readAll 17 = .ok (.aload_n 0, 1) := by decide +kernel
theorem dX10_readAll_18 : decode cX10_readAll 18 = .ok (.getfield 92, 3) := by decide +kernel
theorem dX10_readAll_21 : decode cX10_readAll 21 = .ok (.if_icmp .ne 5, 3) := by decide +kernel
theorem dX10_readAll_24 : decode cX10_readAll 24 = .ok (.iconst 0, 1) := by decide +kernel
theorem dX10_readAll_25 : decode cX10_readAll 25 = .ok (.ireturn, 1) := by decide +kernel
abbrev mX10_coast : Ym := (yX10_coast, cX10_coast, 3, some .int)
theorem dX10_coast_2 : decode cX10_coast 2 = .ok (.iload_n 1, 1) := by decide +kernel
theorem dX10_coast_3 : decode cX10_coast 3 = .ok (.sipush 1226, 3) := by decide +kernel
theorem dX10_coast_6 : decode cX10_coast 6 = .ok (.if_icmp .ge 21, 3) := by decide +kernel
theorem dX10_coast_9 : decode cX10_coast 9 = .ok (.aload_n 0, 1) := by decide +kernel
theorem dX10_coast_10 : decode cX10_coast 10 = .ok (.getfield 20, 3) := by decide +kernel
theorem fd_X10_20_9 : zFd RX10 20 9 3 := ⟨RX10, TX10, 23, "BorrowedLuckModel", rfl, by decide, uw_X10, Or.inl rfl, Or.inl wi_1266⟩
theorem dX10_coast_13 : decode cX10_coast 13 = .ok (.iload_n 1, 1) := by decide +kernel
theorem dX10_coast_14 : decode cX10_coast 14 = .ok (.aload_n 0, 1) := by decide +kernel
theorem dX10_coast_15 : decode cX10_coast 15 = .ok (.getfield 13, 3) := by decide +kernel
theorem dX10_coast_18 : decode cX10_coast 18 = .ok (.iload_n 1, 1) := by decide +kernel
theorem dX10_coast_19 : decode cX10_coast 19 = .ok (.iaload, 1) := by decide +kernel
theorem dX10_coast_20 : decode cX10_coast 20 = .ok (.iastore, 1) := by decide +kernel
theorem dX10_coast_21 : decode cX10_coast 21 = .ok (.iinc 1 1, 3) := by decide +kernel
theorem dX10_coast_24 : decode cX10_coast 24 = .ok (.goto (-22), 3) := by decide +kernel
theorem dX10_coast_0 : decode cX10_coast 0 = .ok (.iconst 0, 1) := by decide +kernel
theorem dX10_coast_1 : decode cX10_coast 1 = .ok (.istore_n 1, 1) := by decide +kernel
theorem dX10_coast_27 : decode cX10_coast 27 = .ok (.aload_n 0, 1) := by decide +kernel
theorem dX10_coast_28 : decode cX10_coast 28 = .ok (.iconst 1, 1) := by decide +kernel
theorem dX10_coast_29 : decode cX10_coast 29 = .ok (.invokevirtual 237, 3) := by decide +kernel
theorem wi_1361 : Cond.methodLink RX10 237 yX10_readAll ∈ WA := zin 1361 (by decide +kernel) (by decide +kernel)
theorem wi_1364 : Cond.code yX10_readAll cX10_readAll 3 (some .int) ∈ WA := zin 1364 (by decide +kernel) (by decide +kernel)
theorem wi_1363 : Cond.instanceMethod yX10_readAll ∈ WA := zin 1363 (by decide +kernel) (by decide +kernel)
theorem wi_24 : Cond.selects RX10 yX10_readAll yX10_readAll ∈ WA := zin 24 (by decide +kernel) (by decide +kernel)
theorem mv_X10_237 : zMv RX10 237 RX10 mX10_readAll 1 := ⟨⟨wi_1361, wi_110, wi_1364, by decide, by decide +kernel⟩, wi_1363, wi_24⟩
theorem dX10_coast_32 : decode cX10_coast 32 = .ok (.istore_n 1, 1) := by decide +kernel
theorem dX10_coast_33 : decode cX10_coast 33 = .ok (.aload_n 0, 1) := by decide +kernel
theorem dX10_coast_34 : decode cX10_coast 34 = .ok (.iload_n 1, 1) := by decide +kernel
theorem dX10_coast_35 : decode cX10_coast 35 = .ok (.ifCond .ge 10, 3) := by decide +kernel
theorem dX10_coast_45 : decode cX10_coast 45 = .ok (.iconst (-1), 1) := by decide +kernel
theorem dX10_coast_46 : decode cX10_coast 46 = .ok (.putfield 33, 3) := by decide +kernel
theorem dX10_coast_49 : decode cX10_coast 49 = .ok (.aload_n 0, 1) := by decide +kernel
theorem dX10_coast_50 : decode cX10_coast 50 = .ok (.iload_n 1, 1) := by decide +kernel
theorem dX10_coast_51 : decode cX10_coast 51 = .ok (.ifCond .ge 7, 3) := by decide +kernel
theorem dX10_coast_58 : decode cX10_coast 58 = .ok (.iconst 0, 1) := by decide +kernel
theorem dX10_coast_59 : decode cX10_coast 59 = .ok (.iconst 1, 1) := by decide +kernel
theorem dX10_coast_60 : decode cX10_coast 60 = .ok (.invokevirtual 241, 3) := by decide +kernel
theorem dX10_coast_63 : decode cX10_coast 63 = .ok (.ifCond .ne 27, 3) := by decide +kernel
theorem dX10_coast_66 : decode cX10_coast 66 = .ok (.aload_n 0, 1) := by decide +kernel
theorem dX10_coast_67 : decode cX10_coast 67 = .ok (.aload_n 0, 1) := by decide +kernel
theorem dX10_coast_68 : decode cX10_coast 68 = .ok (.getfield 13, 3) := by decide +kernel
theorem dX10_coast_71 : decode cX10_coast 71 = .ok (.iconst 2, 1) := by decide +kernel
theorem dX10_coast_72 : decode cX10_coast 72 = .ok (.iaload, 1) := by decide +kernel
theorem dX10_coast_73 : decode cX10_coast 73 = .ok (.bipush 12, 2) := by decide +kernel
theorem dX10_coast_75 : decode cX10_coast 75 = .ok (.if_icmp .ne 7, 3) := by decide +kernel
theorem dX10_coast_82 : decode cX10_coast 82 = .ok (.iconst 0, 1) := by decide +kernel
theorem dX10_coast_83 : decode cX10_coast 83 = .ok (.iconst 2, 1) := by decide +kernel
theorem dX10_coast_84 : decode cX10_coast 84 = .ok (.invokevirtual 241, 3) := by decide +kernel
theorem dX10_coast_87 : decode cX10_coast 87 = .ok (.ifCond .eq 32, 3) := by decide +kernel
theorem dX10_coast_119 : decode cX10_coast 119 = .ok (.aload_n 0, 1) := by decide +kernel
theorem dX10_coast_120 : decode cX10_coast 120 = .ok (.getfield 13, 3) := by decide +kernel
theorem dX10_coast_123 : decode cX10_coast 123 = .ok (.iconst 2, 1) := by decide +kernel
theorem dX10_coast_124 : decode cX10_coast 124 = .ok (.dup2, 1) := by decide +kernel
theorem dX10_coast_125 : decode cX10_coast 125 = .ok (.iaload, 1) := by decide +kernel
theorem dX10_coast_126 : decode cX10_coast 126 = .ok (.iconst 1, 1) := by decide +kernel
theorem dX10_coast_127 : decode cX10_coast 127 = .ok (.iadd, 1) := by decide +kernel
theorem dX10_coast_128 : decode cX10_coast 128 = .ok (.iastore, 1) := by decide +kernel
theorem dX10_coast_129 : decode cX10_coast 129 = .ok (.aload_n 0, 1) := by decide +kernel
theorem dX10_coast_130 : decode cX10_coast 130 = .ok (.iconst 0, 1) := by decide +kernel
theorem dX10_coast_131 : decode cX10_coast 131 = .ok (.putfield 58, 3) := by decide +kernel
theorem dX10_coast_134 : decode cX10_coast 134 = .ok (.aload_n 0, 1) := by decide +kernel
theorem dX10_coast_135 : decode cX10_coast 135 = .ok (.getfield 13, 3) := by decide +kernel
theorem dX10_coast_138 : decode cX10_coast 138 = .ok (.iconst 2, 1) := by decide +kernel
theorem dX10_coast_139 : decode cX10_coast 139 = .ok (.iaload, 1) := by decide +kernel
theorem dX10_coast_140 : decode cX10_coast 140 = .ok (.ireturn, 1) := by decide +kernel
abbrev mX10_law : Ym := (yX10_law, cX10_law, 3, some .int)
theorem dX10_law_52 : decode cX10_law 52 = .ok (.iload_n 2, 1) := by decide +kernel
theorem dX10_law_53 : decode cX10_law 53 = .ok (.sipush 849, 3) := by decide +kernel
theorem dX10_law_56 : decode cX10_law 56 = .ok (.if_icmp .ge 29, 3) := by decide +kernel
theorem dX10_law_59 : decode cX10_law 59 = .ok (.aload_n 0, 1) := by decide +kernel
theorem dX10_law_60 : decode cX10_law 60 = .ok (.getfield 13, 3) := by decide +kernel
theorem dX10_law_63 : decode cX10_law 63 = .ok (.sipush 377, 3) := by decide +kernel
theorem dX10_law_66 : decode cX10_law 66 = .ok (.iload_n 2, 1) := by decide +kernel
theorem dX10_law_67 : decode cX10_law 67 = .ok (.iadd, 1) := by decide +kernel
theorem dX10_law_68 : decode cX10_law 68 = .ok (.aload_n 0, 1) := by decide +kernel
theorem dX10_law_69 : decode cX10_law 69 = .ok (.getfield 13, 3) := by decide +kernel
theorem dX10_law_72 : decode cX10_law 72 = .ok (.sipush 1226, 3) := by decide +kernel
theorem dX10_law_75 : decode cX10_law 75 = .ok (.iload_n 2, 1) := by decide +kernel
theorem dX10_law_76 : decode cX10_law 76 = .ok (.iadd, 1) := by decide +kernel
theorem dX10_law_77 : decode cX10_law 77 = .ok (.iaload, 1) := by decide +kernel
theorem dX10_law_78 : decode cX10_law 78 = .ok (.iastore, 1) := by decide +kernel
theorem dX10_law_79 : decode cX10_law 79 = .ok (.iinc 2 1, 3) := by decide +kernel
theorem dX10_law_82 : decode cX10_law 82 = .ok (.goto (-30), 3) := by decide +kernel
theorem dX10_law_0 : decode cX10_law 0 = .ok (.aload_n 0, 1) := by decide +kernel
theorem dX10_law_1 : decode cX10_law 1 = .ok (.iconst 0, 1) := by decide +kernel
theorem dX10_law_2 : decode cX10_law 2 = .ok (.invokevirtual 237, 3) := by decide +kernel
theorem dX10_law_5 : decode cX10_law 5 = .ok (.istore_n 1, 1) := by decide +kernel
theorem dX10_law_6 : decode cX10_law 6 = .ok (.aload_n 0, 1) := by decide +kernel
theorem dX10_law_7 : decode cX10_law 7 = .ok (.iload_n 1, 1) := by decide +kernel
theorem dX10_law_8 : decode cX10_law 8 = .ok (.ifCond .ge 10, 3) := by decide +kernel
theorem dX10_law_18 : decode cX10_law 18 = .ok (.iconst (-1), 1) := by decide +kernel
theorem dX10_law_19 : decode cX10_law 19 = .ok (.putfield 33, 3) := by decide +kernel
theorem dX10_law_22 : decode cX10_law 22 = .ok (.aload_n 0, 1) := by decide +kernel
theorem dX10_law_23 : decode cX10_law 23 = .ok (.iload_n 1, 1) := by decide +kernel
theorem dX10_law_24 : decode cX10_law 24 = .ok (.ifCond .ge 7, 3) := by decide +kernel
theorem dX10_law_31 : decode cX10_law 31 = .ok (.iconst 0, 1) := by decide +kernel
theorem dX10_law_32 : decode cX10_law 32 = .ok (.iconst 1, 1) := by decide +kernel
theorem dX10_law_33 : decode cX10_law 33 = .ok (.invokevirtual 241, 3) := by decide +kernel
theorem dX10_law_36 : decode cX10_law 36 = .ok (.ifCond .eq 5, 3) := by decide +kernel
theorem dX10_law_41 : decode cX10_law 41 = .ok (.aload_n 0, 1) := by decide +kernel
theorem dX10_law_42 : decode cX10_law 42 = .ok (.getfield 13, 3) := by decide +kernel
theorem dX10_law_45 : decode cX10_law 45 = .ok (.sipush 1226, 3) := by decide +kernel
theorem dX10_law_48 : decode cX10_law 48 = .ok (.iload_n 1, 1) := by decide +kernel
theorem dX10_law_49 : decode cX10_law 49 = .ok (.iastore, 1) := by decide +kernel
theorem dX10_law_50 : decode cX10_law 50 = .ok (.iconst 0, 1) := by decide +kernel
theorem dX10_law_51 : decode cX10_law 51 = .ok (.istore_n 2, 1) := by decide +kernel
theorem dX10_law_85 : decode cX10_law 85 = .ok (.aload_n 0, 1) := by decide +kernel
theorem dX10_law_86 : decode cX10_law 86 = .ok (.getfield 13, 3) := by decide +kernel
theorem dX10_law_89 : decode cX10_law 89 = .ok (.iconst 3, 1) := by decide +kernel
theorem dX10_law_90 : decode cX10_law 90 = .ok (.iconst 1, 1) := by decide +kernel
theorem dX10_law_91 : decode cX10_law 91 = .ok (.iastore, 1) := by decide +kernel
theorem dX10_law_92 : decode cX10_law 92 = .ok (.aload_n 0, 1) := by decide +kernel
theorem dX10_law_93 : decode cX10_law 93 = .ok (.iconst 0, 1) := by decide +kernel
theorem dX10_law_94 : decode cX10_law 94 = .ok (.putfield 58, 3) := by decide +kernel
theorem dX10_law_97 : decode cX10_law 97 = .ok (.iload_n 1, 1) := by decide +kernel
theorem dX10_law_98 : decode cX10_law 98 = .ok (.ireturn, 1) := by decide +kernel
abbrev mX10_feed : Ym := (yX10_feed, cX10_feed, 7, some .int)
theorem dX10_feed_0 : decode cX10_feed 0 = .ok (.aload_n 0, 1) := by decide +kernel
theorem dX10_feed_1 : decode cX10_feed 1 = .ok (.iconst 0, 1) := by decide +kernel
theorem dX10_feed_2 : decode cX10_feed 2 = .ok (.putfield 3, 3) := by decide +kernel
theorem dX10_feed_5 : decode cX10_feed 5 = .ok (.aload_n 0, 1) := by decide +kernel
theorem dX10_feed_6 : decode cX10_feed 6 = .ok (.getfield 86, 3) := by decide +kernel
theorem dX10_feed_9 : decode cX10_feed 9 = .ok (.bipush 20, 2) := by decide +kernel
theorem dX10_feed_11 : decode cX10_feed 11 = .ok (.iadd, 1) := by decide +kernel
theorem dX10_feed_12 : decode cX10_feed 12 = .ok (.sipush 400, 3) := by decide +kernel
theorem dX10_feed_15 : decode cX10_feed 15 = .ok (.if_icmp .le 5, 3) := by decide +kernel
theorem dX10_feed_20 : decode cX10_feed 20 = .ok (.aload_n 0, 1) := by decide +kernel
theorem dX10_feed_21 : decode cX10_feed 21 = .ok (.getfield 36, 3) := by decide +kernel
theorem fd_X10_36_9 : zFd RX10 36 9 15 := ⟨RX10, TX10, 23, "BorrowedLuckModel", rfl, by decide, uw_X10, Or.inl rfl, Or.inl wi_1278⟩
theorem dX10_feed_24 : decode cX10_feed 24 = .ok (.iconst 0, 1) := by decide +kernel
theorem dX10_feed_25 : decode cX10_feed 25 = .ok (.iload_n 1, 1) := by decide +kernel
theorem dX10_feed_26 : decode cX10_feed 26 = .ok (.iastore, 1) := by decide +kernel
theorem dX10_feed_27 : decode cX10_feed 27 = .ok (.aload_n 0, 1) := by decide +kernel
theorem dX10_feed_28 : decode cX10_feed 28 = .ok (.getfield 36, 3) := by decide +kernel
theorem dX10_feed_31 : decode cX10_feed 31 = .ok (.iconst 1, 1) := by decide +kernel
theorem dX10_feed_32 : decode cX10_feed 32 = .ok (.iload_n 2, 1) := by decide +kernel
theorem dX10_feed_33 : decode cX10_feed 33 = .ok (.iastore, 1) := by decide +kernel
theorem dX10_feed_34 : decode cX10_feed 34 = .ok (.aload_n 0, 1) := by decide +kernel
theorem dX10_feed_35 : decode cX10_feed 35 = .ok (.getfield 36, 3) := by decide +kernel
theorem dX10_feed_38 : decode cX10_feed 38 = .ok (.iconst 2, 1) := by decide +kernel
theorem dX10_feed_39 : decode cX10_feed 39 = .ok (.iload_n 3, 1) := by decide +kernel
theorem dX10_feed_40 : decode cX10_feed 40 = .ok (.iastore, 1) := by decide +kernel
theorem dX10_feed_41 : decode cX10_feed 41 = .ok (.aload_n 0, 1) := by decide +kernel
theorem dX10_feed_42 : decode cX10_feed 42 = .ok (.getfield 36, 3) := by decide +kernel
theorem dX10_feed_45 : decode cX10_feed 45 = .ok (.iconst 3, 1) := by decide +kernel
theorem dX10_feed_46 : decode cX10_feed 46 = .ok (.iload 4, 2) := by decide +kernel
theorem dX10_feed_48 : decode cX10_feed 48 = .ok (.iastore, 1) := by decide +kernel
theorem dX10_feed_49 : decode cX10_feed 49 = .ok (.aload_n 0, 1) := by decide +kernel
theorem dX10_feed_50 : decode cX10_feed 50 = .ok (.getfield 36, 3) := by decide +kernel
theorem dX10_feed_53 : decode cX10_feed 53 = .ok (.iconst 4, 1) := by decide +kernel
theorem dX10_feed_54 : decode cX10_feed 54 = .ok (.iload 5, 2) := by decide +kernel
theorem dX10_feed_56 : decode cX10_feed 56 = .ok (.iastore, 1) := by decide +kernel
theorem dX10_feed_57 : decode cX10_feed 57 = .ok (.iconst 0, 1) := by decide +kernel
theorem dX10_feed_58 : decode cX10_feed 58 = .ok (.istore 6, 2) := by decide +kernel
theorem dX10_feed_60 : decode cX10_feed 60 = .ok (.iload 6, 2) := by decide +kernel
theorem dX10_feed_62 : decode cX10_feed 62 = .ok (.bipush 20, 2) := by decide +kernel
theorem dX10_feed_64 : decode cX10_feed 64 = .ok (.if_icmp .ge 42, 3) := by decide +kernel
theorem dX10_feed_67 : decode cX10_feed 67 = .ok (.aload_n 0, 1) := by decide +kernel
theorem dX10_feed_68 : decode cX10_feed 68 = .ok (.getfield 29, 3) := by decide +kernel
theorem fd_X10_29_9 : zFd RX10 29 9 8 := ⟨RX10, TX10, 23, "BorrowedLuckModel", rfl, by decide, uw_X10, Or.inl rfl, Or.inl wi_1271⟩
theorem dX10_feed_71 : decode cX10_feed 71 = .ok (.aload_n 0, 1) := by decide +kernel
theorem dX10_feed_72 : decode cX10_feed 72 = .ok (.getfield 86, 3) := by decide +kernel
theorem dX10_feed_75 : decode cX10_feed 75 = .ok (.iload 6, 2) := by decide +kernel
theorem dX10_feed_77 : decode cX10_feed 77 = .ok (.iadd, 1) := by decide +kernel
theorem dX10_feed_78 : decode cX10_feed 78 = .ok (.aload_n 0, 1) := by decide +kernel
theorem dX10_feed_79 : decode cX10_feed 79 = .ok (.getfield 36, 3) := by decide +kernel
theorem dX10_feed_82 : decode cX10_feed 82 = .ok (.iload 6, 2) := by decide +kernel
theorem dX10_feed_84 : decode cX10_feed 84 = .ok (.iconst 4, 1) := by decide +kernel
theorem dX10_feed_85 : decode cX10_feed 85 = .ok (.idiv, 1) := by decide +kernel
theorem dX10_feed_86 : decode cX10_feed 86 = .ok (.iaload, 1) := by decide +kernel
theorem dX10_feed_87 : decode cX10_feed 87 = .ok (.bipush 24, 2) := by decide +kernel
theorem dX10_feed_89 : decode cX10_feed 89 = .ok (.bipush 8, 2) := by decide +kernel
theorem dX10_feed_91 : decode cX10_feed 91 = .ok (.iload 6, 2) := by decide +kernel
theorem dX10_feed_93 : decode cX10_feed 93 = .ok (.iconst 4, 1) := by decide +kernel
theorem dX10_feed_94 : decode cX10_feed 94 = .ok (.irem, 1) := by decide +kernel
theorem dX10_feed_95 : decode cX10_feed 95 = .ok (.imul, 1) := by decide +kernel
theorem dX10_feed_96 : decode cX10_feed 96 = .ok (.isub, 1) := by decide +kernel
theorem dX10_feed_97 : decode cX10_feed 97 = .ok (.ishr, 1) := by decide +kernel
theorem dX10_feed_98 : decode cX10_feed 98 = .ok (.i2b, 1) := by decide +kernel
theorem dX10_feed_99 : decode cX10_feed 99 = .ok (.bastore, 1) := by decide +kernel
theorem dX10_feed_100 : decode cX10_feed 100 = .ok (.iinc 6 1, 3) := by decide +kernel
theorem dX10_feed_103 : decode cX10_feed 103 = .ok (.goto (-43), 3) := by decide +kernel
theorem dX10_feed_106 : decode cX10_feed 106 = .ok (.aload_n 0, 1) := by decide +kernel
theorem dX10_feed_107 : decode cX10_feed 107 = .ok (.dup, 1) := by decide +kernel
theorem dX10_feed_108 : decode cX10_feed 108 = .ok (.getfield 86, 3) := by decide +kernel
theorem dX10_feed_111 : decode cX10_feed 111 = .ok (.bipush 20, 2) := by decide +kernel
theorem dX10_feed_113 : decode cX10_feed 113 = .ok (.iadd, 1) := by decide +kernel
theorem dX10_feed_114 : decode cX10_feed 114 = .ok (.putfield 86, 3) := by decide +kernel
theorem dX10_feed_117 : decode cX10_feed 117 = .ok (.aload_n 0, 1) := by decide +kernel
theorem dX10_feed_118 : decode cX10_feed 118 = .ok (.getfield 86, 3) := by decide +kernel
theorem dX10_feed_121 : decode cX10_feed 121 = .ok (.ireturn, 1) := by decide +kernel
section ModC
variable (G : Gx) (d : Nat) (I : Hi)
theorem ct_isAt0 (h1 : I 94 10 = nI 0) (h2 : I 94 11 = nI 0) (x y : Int32) : Ct G GAM mX10_isAt d 0 [.ref 94, .int x, .int y] I (Rp (some (.int (nI 0))) I) := by
  refine Ct.mk [some (.ref 94), some (.int x), some (.int y)] ?_
  refine Rn.aload_n dX10_isAt_0 rfl rfl ?_
  refine Rn.getI dX10_isAt_1 fd_X10_89_9 (by first | rfl | exact gC0 (by assumption) | exact gL0 (by assumption)) rfl ?_
  refine Rn.topI (nI 0) h1 ?_
  refine Rn.aload_n dX10_isAt_4 rfl rfl ?_
  refine Rn.getI dX10_isAt_5 fd_X10_92_9 (by first | rfl | exact gC0 (by assumption) | exact gL0 (by assumption)) rfl ?_
  refine Rn.topI (nI 0) h2 ?_
  refine Rn.icmp_ge (tgt := 41) dX10_isAt_8 (by decide) (fun _ => ?_) (fun h9 => absurd h9 (by decide))
  refine Rn.iconst (v := (nI 0)) dX10_isAt_41 rfl ?_
  exact Rn.zret dX10_isAt_42 rfl rfl (⟨rfl, rfl⟩)
theorem ct_blanks0 (h1 : I 94 10 = nI 0) (h2 : I 94 11 = nI 0) : Ct G GAM mX10_blanks (d + 1) 0 [.ref 94] I (Rp none (zup I 94 12 (nI 0))) := by
  refine Ct.mk [some (.ref 94)] ?_
  refine Rn.aload_n dX10_blanks_0 rfl rfl ?_
  refine Rn.bipush (v := (nI 32)) dX10_blanks_1 rfl ?_
  refine Rn.bipush (v := (nI 32)) dX10_blanks_3 rfl ?_
  refine Rn.callVp (As := [_, _]) dX10_blanks_5 mv_X10_95 (by first | rfl | exact gC0 (by assumption) | exact gL0 (by assumption)) rfl rfl rfl (Nat.le_of_ble_eq_true rfl) (ct_isAt0 G _ _ (by exact h1) (by exact h2) _ _) ?_
  refine Rn.if_eq (tgt := 24) dX10_blanks_8 (by decide) (fun _ => ?_) (fun h9 => absurd h9 (by decide))
  refine Rn.aload_n dX10_blanks_24 rfl rfl ?_
  refine Rn.aload_n dX10_blanks_25 rfl rfl ?_
  refine Rn.getI dX10_blanks_26 fd_X10_89_9 (by first | rfl | exact gC0 (by assumption) | exact gL0 (by assumption)) rfl ?_
  refine Rn.topI (nI 0) h1 ?_
  refine Rn.putI dX10_blanks_29 fp_X10_99_9 (by first | rfl | exact gC0 (by assumption) | exact gL0 (by assumption)) rfl ?_
  exact Rn.vret dX10_blanks_32 rfl (⟨rfl, rfl⟩)
theorem ct_readAll0 (h9 : I 94 9 = nI 0) (x : Int32) : Ct G GAM mX10_readAll (d + 2) 0 [.ref 94, .int x] I (Rp (some (.int (nI 0))) (zup (zup (usJ I) 94 16 (nI 0)) 94 12 (nI 0))) := by
  refine Ct.mk [some (.ref 94), some (.int x), none] ?_
  refine Rn.aload_n dX10_readAll_0 rfl rfl ?_
  refine Rn.callVp (As := []) dX10_readAll_1 mv_X10_230 (by first | rfl | exact gC0 (by assumption) | exact gL0 (by assumption)) rfl rfl rfl (Nat.le_of_ble_eq_true rfl) (ct_uses G _ _) ?_
  refine Rn.aload_n dX10_readAll_4 rfl rfl ?_
  refine Rn.iconst (v := (nI 0)) dX10_readAll_5 rfl ?_
  refine Rn.putI dX10_readAll_6 fp_X10_168_9 (by first | rfl | exact gC0 (by assumption) | exact gL0 (by assumption)) rfl ?_
  refine Rn.aload_n dX10_readAll_9 rfl rfl ?_
  refine Rn.callVp (As := []) dX10_readAll_10 mv_X10_102 (by first | rfl | exact gC0 (by assumption) | exact gL0 (by assumption)) rfl rfl rfl (Nat.le_of_ble_eq_true rfl) (ct_blanks0 G _ _ rfl (by exact h9)) ?_
  refine Rn.aload_n dX10_readAll_13 rfl rfl ?_
  refine Rn.getI dX10_readAll_14 fd_X10_89_9 (by first | rfl | exact gC0 (by assumption) | exact gL0 (by assumption)) rfl ?_
  refine Rn.topI (nI 0) rfl ?_
  refine Rn.aload_n dX10_readAll_17 rfl rfl ?_
  refine Rn.getI dX10_readAll_18 fd_X10_92_9 (by first | rfl | exact gC0 (by assumption) | exact gL0 (by assumption)) rfl ?_
  refine Rn.topI (nI 0) h9 ?_
  refine Rn.icmp_ne (tgt := 26) dX10_readAll_21 (by decide) (fun h9 => absurd h9 (by decide)) (fun _ => ?_)
  refine Rn.iconst (v := (nI 0)) dX10_readAll_24 rfl ?_
  exact Rn.iret dX10_readAll_25 rfl (⟨rfl, rfl⟩)
theorem lp_coast0 {kx : Kx} {b : Nat} (k : ∀ H, (∀ c, c ≠ 97 → H c = I c) → Rn G GAM mX10_coast kx d b 27 [some (.ref 94), some (.int (nI 1226)), none] [] H) : ∀ n i : Nat, i + n = 1226 → ∀ H, (∀ c, c ≠ 97 → H c = I c) → Rn G GAM mX10_coast kx d b 2 [some (.ref 94), some (.int (nI i)), none] [] H := by
  intro n
  induction n with
  | zero =>
    intro i hi H hH
    obtain rfl : i = 1226 := by omega
    refine Rn.iload_n dX10_coast_2 rfl rfl ?_
    refine Rn.sipush (v := (nI 1226)) dX10_coast_3 rfl ?_
    refine Rn.icmp_ge (tgt := 27) dX10_coast_6 (by decide) (fun _ => ?_) (fun h9 => absurd h9 (by decide))
    exact k H hH
  | succ n ih =>
    intro i hi H hH
    refine Rn.iload_n dX10_coast_2 rfl rfl ?_
    refine Rn.sipush (v := (nI 1226)) dX10_coast_3 rfl ?_
    refine Rn.icmp_geN dX10_coast_6 27 (fun h9 => by exfalso; omega) (fun _ => ?_)
    refine Rn.aload_n dX10_coast_9 rfl rfl ?_
    refine Rn.getR dX10_coast_10 fd_X10_20_9 (by first | rfl | exact gC0 (by assumption) | exact gL0 (by assumption)) rfl ?_
    refine Rn.iload_n dX10_coast_13 rfl rfl ?_
    refine Rn.aload_n dX10_coast_14 rfl rfl ?_
    refine Rn.getR dX10_coast_15 fd_X10_13_9 (by first | rfl | exact gC0 (by assumption) | exact gL0 (by assumption)) rfl ?_
    refine Rn.iload_n dX10_coast_18 rfl rfl ?_
    refine Rn.ialdN dX10_coast_19 (by first | rfl | exact gC1 (by assumption) | exact gC2 (by assumption) | exact gC3 (by assumption) | exact gL1 (by assumption) | exact gL2 (by assumption) | exact gL3 (by assumption) | exact gL4 (by assumption) | exact gL5 (by assumption) | exact gL6 (by assumption)) ?_
    refine Rn.iastN dX10_coast_20 (by first | rfl | exact gC1 (by assumption) | exact gC2 (by assumption) | exact gC3 (by assumption) | exact gL1 (by assumption) | exact gL2 (by assumption) | exact gL3 (by assumption) | exact gL4 (by assumption) | exact gL5 (by assumption) | exact gL6 (by assumption)) ?_
    refine Rn.iincN dX10_coast_21 rfl (by decide) ?_
    refine Rn.goto 2 dX10_coast_24 (by decide) ?_
    exact ih (i + 1) (by omega) _ (fun c hc => by rw [zup_ne _ _ hc]; exact hH c hc)
theorem ct_X10_coast (F : FW I) : Ct G GAM mX10_coast (d + 3) 0 [.ref 94] I (RM (nI 1) (nI 0) (I 107)) := by
  obtain ⟨g95_0, g95_1, g95_2, g95_3, g95_4, g95_5, g95_6, g95_7, g95_8, g94_6, g94_7, g94_9, g94_14⟩ := F
  refine Ct.mk [some (.ref 94), none, none] ?_
  refine Rn.iconst (v := (nI 0)) dX10_coast_0 rfl ?_
  refine Rn.istore_n dX10_coast_1 rfl (by decide) ?_
  refine lp_coast0 G (d + 3) I (fun H hH => ?_) 1226 0 rfl I (fun c _ => rfl)
  have e9 : H 94 9 = nI 0 := by rw [hH 94 (by decide)]; exact g94_9
  have e2 : H 95 2 = nI 0 := by rw [hH 95 (by decide)]; exact g95_2
  have e7 : H 107 = I 107 := hH 107 (by decide)
  refine Rn.aload_n dX10_coast_27 rfl rfl ?_
  refine Rn.iconst (v := (nI 1)) dX10_coast_28 rfl ?_
  refine Rn.callVp (As := [_]) dX10_coast_29 mv_X10_237 (by first | rfl | exact gC0 (by assumption) | exact gL0 (by assumption)) rfl rfl rfl (Nat.le_of_ble_eq_true rfl) (ct_readAll0 G _ _ e9 _) ?_
  refine Rn.istore_n dX10_coast_32 rfl (by decide) ?_
  refine Rn.aload_n dX10_coast_33 rfl rfl ?_
  refine Rn.iload_n dX10_coast_34 rfl rfl ?_
  refine Rn.if_ge (tgt := 45) dX10_coast_35 (by decide) (fun _ => ?_) (fun h9 => absurd h9 (by decide))
  refine Rn.iconst (v := (-1)) dX10_coast_45 rfl ?_
  refine Rn.putI dX10_coast_46 fp_X10_33_9 (by first | rfl | exact gC0 (by assumption) | exact gL0 (by assumption)) rfl ?_
  refine Rn.aload_n dX10_coast_49 rfl rfl ?_
  refine Rn.iload_n dX10_coast_50 rfl rfl ?_
  refine Rn.if_ge (tgt := 58) dX10_coast_51 (by decide) (fun _ => ?_) (fun h9 => absurd h9 (by decide))
  refine Rn.iconst (v := (nI 0)) dX10_coast_58 rfl ?_
  refine Rn.iconst (v := (nI 1)) dX10_coast_59 rfl ?_
  refine Rn.callVp (As := [_, _]) dX10_coast_60 mv_X10_241 (by first | rfl | exact gC0 (by assumption) | exact gL0 (by assumption)) rfl rfl rfl (Nat.le_of_ble_eq_true rfl) (ct_throws0 G _ _ _) ?_
  refine Rn.if_ne (tgt := 90) dX10_coast_63 (by decide) (fun h9 => absurd h9 (by decide)) (fun _ => ?_)
  refine Rn.aload_n dX10_coast_66 rfl rfl ?_
  refine Rn.aload_n dX10_coast_67 rfl rfl ?_
  refine Rn.getR dX10_coast_68 fd_X10_13_9 (by first | rfl | exact gC0 (by assumption) | exact gL0 (by assumption)) rfl ?_
  refine Rn.iconst (v := (nI 2)) dX10_coast_71 rfl ?_
  refine Rn.ialdN dX10_coast_72 (by first | rfl | exact gC1 (by assumption) | exact gC2 (by assumption) | exact gC3 (by assumption) | exact gL1 (by assumption) | exact gL2 (by assumption) | exact gL3 (by assumption) | exact gL4 (by assumption) | exact gL5 (by assumption) | exact gL6 (by assumption)) ?_
  refine Rn.topI (nI 0) e2 ?_
  refine Rn.bipush (v := (nI 12)) dX10_coast_73 rfl ?_
  refine Rn.icmp_ne (tgt := 82) dX10_coast_75 (by decide) (fun _ => ?_) (fun h9 => absurd h9 (by decide))
  refine Rn.iconst (v := (nI 0)) dX10_coast_82 rfl ?_
  refine Rn.iconst (v := (nI 2)) dX10_coast_83 rfl ?_
  refine Rn.callVp (As := [_, _]) dX10_coast_84 mv_X10_241 (by first | rfl | exact gC0 (by assumption) | exact gL0 (by assumption)) rfl rfl rfl (Nat.le_of_ble_eq_true rfl) (ct_throws0 G _ _ _) ?_
  refine Rn.if_eq (tgt := 119) dX10_coast_87 (by decide) (fun _ => ?_) (fun h9 => absurd h9 (by decide))
  refine Rn.aload_n dX10_coast_119 rfl rfl ?_
  refine Rn.getR dX10_coast_120 fd_X10_13_9 (by first | rfl | exact gC0 (by assumption) | exact gL0 (by assumption)) rfl ?_
  refine Rn.iconst (v := (nI 2)) dX10_coast_123 rfl ?_
  refine Rn.dup2 dX10_coast_124 rfl rfl ?_
  refine Rn.ialdN dX10_coast_125 (by first | rfl | exact gC1 (by assumption) | exact gC2 (by assumption) | exact gC3 (by assumption) | exact gL1 (by assumption) | exact gL2 (by assumption) | exact gL3 (by assumption) | exact gL4 (by assumption) | exact gL5 (by assumption) | exact gL6 (by assumption)) ?_
  refine Rn.topI (nI 0) e2 ?_
  refine Rn.iconst (v := (nI 1)) dX10_coast_126 rfl ?_
  refine Rn.iadd dX10_coast_127 ?_
  refine Rn.topI (nI 1) (by decide) ?_
  refine Rn.iastN dX10_coast_128 (by first | rfl | exact gC1 (by assumption) | exact gC2 (by assumption) | exact gC3 (by assumption) | exact gL1 (by assumption) | exact gL2 (by assumption) | exact gL3 (by assumption) | exact gL4 (by assumption) | exact gL5 (by assumption) | exact gL6 (by assumption)) ?_
  refine Rn.aload_n dX10_coast_129 rfl rfl ?_
  refine Rn.iconst (v := (nI 0)) dX10_coast_130 rfl ?_
  refine Rn.putI dX10_coast_131 fp_X10_58_9 (by first | rfl | exact gC0 (by assumption) | exact gL0 (by assumption)) rfl ?_
  refine Rn.aload_n dX10_coast_134 rfl rfl ?_
  refine Rn.getR dX10_coast_135 fd_X10_13_9 (by first | rfl | exact gC0 (by assumption) | exact gL0 (by assumption)) rfl ?_
  refine Rn.iconst (v := (nI 2)) dX10_coast_138 rfl ?_
  refine Rn.ialdN dX10_coast_139 (by first | rfl | exact gC1 (by assumption) | exact gC2 (by assumption) | exact gC3 (by assumption) | exact gL1 (by assumption) | exact gL2 (by assumption) | exact gL3 (by assumption) | exact gL4 (by assumption) | exact gL5 (by assumption) | exact gL6 (by assumption)) ?_
  refine Rn.topI (nI 1) rfl ?_
  exact Rn.iret dX10_coast_140 rfl (⟨rfl, rfl, by unfold usJ; rw [zup_ne _ _ (by decide), zup_ne _ _ (by decide), zup_ne _ _ (by decide), zup_ne _ _ (by decide), zup_ne _ _ (by decide), zup_ne _ _ (by decide), zup_ne _ _ (by decide), zup_ne _ _ (by decide), zup_ne _ _ (by decide)]; exact e7⟩)
theorem lp_law0 {kx : Kx} {b : Nat} (k : ∀ H, (∀ c, c ≠ 95 → H c = I c) → Rn G GAM mX10_law kx d b 85 [some (.ref 94), some (.int (nI 0)), some (.int (nI 849))] [] H) : ∀ n i : Nat, i + n = 849 → ∀ H, (∀ c, c ≠ 95 → H c = I c) → Rn G GAM mX10_law kx d b 52 [some (.ref 94), some (.int (nI 0)), some (.int (nI i))] [] H := by
  intro n
  induction n with
  | zero =>
    intro i hi H hH
    obtain rfl : i = 849 := by omega
    refine Rn.iload_n dX10_law_52 rfl rfl ?_
    refine Rn.sipush (v := (nI 849)) dX10_law_53 rfl ?_
    refine Rn.icmp_ge (tgt := 85) dX10_law_56 (by decide) (fun _ => ?_) (fun h9 => absurd h9 (by decide))
    exact k H hH
  | succ n ih =>
    intro i hi H hH
    refine Rn.iload_n dX10_law_52 rfl rfl ?_
    refine Rn.sipush (v := (nI 849)) dX10_law_53 rfl ?_
    refine Rn.icmp_geN dX10_law_56 85 (fun h9 => by exfalso; omega) (fun _ => ?_)
    refine Rn.aload_n dX10_law_59 rfl rfl ?_
    refine Rn.getR dX10_law_60 fd_X10_13_9 (by first | rfl | exact gC0 (by assumption) | exact gL0 (by assumption)) rfl ?_
    refine Rn.sipush (v := (nI 377)) dX10_law_63 rfl ?_
    refine Rn.iload_n dX10_law_66 rfl rfl ?_
    refine Rn.iadd dX10_law_67 ?_
    refine Rn.aload_n dX10_law_68 rfl rfl ?_
    refine Rn.getR dX10_law_69 fd_X10_13_9 (by first | rfl | exact gC0 (by assumption) | exact gL0 (by assumption)) rfl ?_
    refine Rn.sipush (v := (nI 1226)) dX10_law_72 rfl ?_
    refine Rn.iload_n dX10_law_75 rfl rfl ?_
    refine Rn.iadd dX10_law_76 ?_
    refine Rn.topI (nI (1226 + i)) (by first | rfl | (simp only [nI_add, pk_mul, nI_1]; done) | (simp only [nI_add, pk_mul, nI_1]; congr 1; omega)) ?_
    refine Rn.ialdN dX10_law_77 (by first | rfl | exact gC1 (by assumption) | exact gC2 (by assumption) | exact gC3 (by assumption) | exact gL1 (by assumption) | exact gL2 (by assumption) | exact gL3 (by assumption) | exact gL4 (by assumption) | exact gL5 (by assumption) | exact gL6 (by assumption)) ?_
    refine Rn.secI (nI (377 + i)) (by first | rfl | (simp only [nI_add, pk_mul, nI_1]; done) | (simp only [nI_add, pk_mul, nI_1]; congr 1; omega)) ?_
    refine Rn.iastN dX10_law_78 (by first | rfl | exact gC1 (by assumption) | exact gC2 (by assumption) | exact gC3 (by assumption) | exact gL1 (by assumption) | exact gL2 (by assumption) | exact gL3 (by assumption) | exact gL4 (by assumption) | exact gL5 (by assumption) | exact gL6 (by assumption)) ?_
    refine Rn.iincN dX10_law_79 rfl (by decide) ?_
    refine Rn.goto 52 dX10_law_82 (by decide) ?_
    exact ih (i + 1) (by omega) _ (fun c hc => by rw [zup_ne _ _ hc]; exact hH c hc)
theorem ct_X10_law (F : FW I) : Ct G GAM mX10_law (d + 3) 0 [.ref 94] I (RM (nI 0) (nI 0) (I 107)) := by
  obtain ⟨g95_0, g95_1, g95_2, g95_3, g95_4, g95_5, g95_6, g95_7, g95_8, g94_6, g94_7, g94_9, g94_14⟩ := F
  refine Ct.mk [some (.ref 94), none, none] ?_
  refine Rn.aload_n dX10_law_0 rfl rfl ?_
  refine Rn.iconst (v := (nI 0)) dX10_law_1 rfl ?_
  refine Rn.callVp (As := [_]) dX10_law_2 mv_X10_237 (by first | rfl | exact gC0 (by assumption) | exact gL0 (by assumption)) rfl rfl rfl (Nat.le_of_ble_eq_true rfl) (ct_readAll0 G _ _ g94_9 _) ?_
  refine Rn.istore_n dX10_law_5 rfl (by decide) ?_
  refine Rn.aload_n dX10_law_6 rfl rfl ?_
  refine Rn.iload_n dX10_law_7 rfl rfl ?_
  refine Rn.if_ge (tgt := 18) dX10_law_8 (by decide) (fun _ => ?_) (fun h9 => absurd h9 (by decide))
  refine Rn.iconst (v := (-1)) dX10_law_18 rfl ?_
  refine Rn.putI dX10_law_19 fp_X10_33_9 (by first | rfl | exact gC0 (by assumption) | exact gL0 (by assumption)) rfl ?_
  refine Rn.aload_n dX10_law_22 rfl rfl ?_
  refine Rn.iload_n dX10_law_23 rfl rfl ?_
  refine Rn.if_ge (tgt := 31) dX10_law_24 (by decide) (fun _ => ?_) (fun h9 => absurd h9 (by decide))
  refine Rn.iconst (v := (nI 0)) dX10_law_31 rfl ?_
  refine Rn.iconst (v := (nI 1)) dX10_law_32 rfl ?_
  refine Rn.callVp (As := [_, _]) dX10_law_33 mv_X10_241 (by first | rfl | exact gC0 (by assumption) | exact gL0 (by assumption)) rfl rfl rfl (Nat.le_of_ble_eq_true rfl) (ct_throws0 G _ _ _) ?_
  refine Rn.if_eq (tgt := 41) dX10_law_36 (by decide) (fun _ => ?_) (fun h9 => absurd h9 (by decide))
  refine Rn.aload_n dX10_law_41 rfl rfl ?_
  refine Rn.getR dX10_law_42 fd_X10_13_9 (by first | rfl | exact gC0 (by assumption) | exact gL0 (by assumption)) rfl ?_
  refine Rn.sipush (v := (nI 1226)) dX10_law_45 rfl ?_
  refine Rn.iload_n dX10_law_48 rfl rfl ?_
  refine Rn.iastN dX10_law_49 (by first | rfl | exact gC1 (by assumption) | exact gC2 (by assumption) | exact gC3 (by assumption) | exact gL1 (by assumption) | exact gL2 (by assumption) | exact gL3 (by assumption) | exact gL4 (by assumption) | exact gL5 (by assumption) | exact gL6 (by assumption)) ?_
  refine Rn.iconst (v := (nI 0)) dX10_law_50 rfl ?_
  refine Rn.istore_n dX10_law_51 rfl (by decide) ?_
  refine Rn.gen (fun H => H 94 0 = nI 0 ∧ H 107 = I 107) ⟨rfl, by unfold usJ; rw [zup_ne _ _ (by decide), zup_ne _ _ (by decide), zup_ne _ _ (by decide), zup_ne _ _ (by decide), zup_ne _ _ (by decide), zup_ne _ _ (by decide), zup_ne _ _ (by decide), zup_ne _ _ (by decide)]⟩ (fun J hJ => ?_)
  refine lp_law0 G (d + 3) J (fun H hH => ?_) 849 0 rfl J (fun c _ => rfl)
  refine Rn.aload_n dX10_law_85 rfl rfl ?_
  refine Rn.getR dX10_law_86 fd_X10_13_9 (by first | rfl | exact gC0 (by assumption) | exact gL0 (by assumption)) rfl ?_
  refine Rn.iconst (v := (nI 3)) dX10_law_89 rfl ?_
  refine Rn.iconst (v := (nI 1)) dX10_law_90 rfl ?_
  refine Rn.iastN dX10_law_91 (by first | rfl | exact gC1 (by assumption) | exact gC2 (by assumption) | exact gC3 (by assumption) | exact gL1 (by assumption) | exact gL2 (by assumption) | exact gL3 (by assumption) | exact gL4 (by assumption) | exact gL5 (by assumption) | exact gL6 (by assumption)) ?_
  refine Rn.aload_n dX10_law_92 rfl rfl ?_
  refine Rn.iconst (v := (nI 0)) dX10_law_93 rfl ?_
  refine Rn.putI dX10_law_94 fp_X10_58_9 (by first | rfl | exact gC0 (by assumption) | exact gL0 (by assumption)) rfl ?_
  refine Rn.iload_n dX10_law_97 rfl rfl ?_
  exact Rn.iret dX10_law_98 rfl (⟨rfl, by show H 94 0 = nI 0; rw [hH 94 (by decide)]; exact hJ.1, by rw [zup_ne _ _ (by decide), zup_ne _ _ (by decide), hH 107 (by decide)]; exact hJ.2⟩)
set_option maxHeartbeats 8000000 in
theorem ct_X10_feed (F : FW I) (p0 p1 p2 p3 p4 : Int32) : Ct G GAM mX10_feed d 0 [.ref 94, .int p0, .int p1, .int p2, .int p3, .int p4] I (fun o K => o = .inl (some (.int (nI 20)))) := by
  obtain ⟨g95_0, g95_1, g95_2, g95_3, g95_4, g95_5, g95_6, g95_7, g95_8, g94_6, g94_7, g94_9, g94_14⟩ := F
  refine Ct.mk [some (.ref 94), some (.int p0), some (.int p1), some (.int p2), some (.int p3), some (.int p4), none] ?_
  refine Rn.aload_n dX10_feed_0 rfl rfl ?_
  refine Rn.iconst (v := (nI 0)) dX10_feed_1 rfl ?_
  refine Rn.putI dX10_feed_2 fp_X10_3_9 (by first | rfl | exact gC0 (by assumption) | exact gL0 (by assumption)) rfl ?_
  refine Rn.aload_n dX10_feed_5 rfl rfl ?_
  refine Rn.getI dX10_feed_6 fd_X10_86_9 (by first | rfl | exact gC0 (by assumption) | exact gL0 (by assumption)) rfl ?_
  refine Rn.topI (nI 0) g94_9 ?_
  refine Rn.bipush (v := (nI 20)) dX10_feed_9 rfl ?_
  refine Rn.iadd dX10_feed_11 ?_
  refine Rn.sipush (v := (nI 400)) dX10_feed_12 rfl ?_
  refine Rn.icmp_le (tgt := 20) dX10_feed_15 (by decide) (fun _ => ?_) (fun h9 => absurd h9 (by decide))
  refine Rn.aload_n dX10_feed_20 rfl rfl ?_
  refine Rn.getR dX10_feed_21 fd_X10_36_9 (by first | rfl | exact gC0 (by assumption) | exact gL0 (by assumption)) rfl ?_
  refine Rn.iconst (v := (nI 0)) dX10_feed_24 rfl ?_
  refine Rn.iload_n dX10_feed_25 rfl rfl ?_
  refine Rn.iastN dX10_feed_26 (by first | rfl | exact gC1 (by assumption) | exact gC2 (by assumption) | exact gC3 (by assumption) | exact gL1 (by assumption) | exact gL2 (by assumption) | exact gL3 (by assumption) | exact gL4 (by assumption) | exact gL5 (by assumption) | exact gL6 (by assumption)) ?_
  refine Rn.aload_n dX10_feed_27 rfl rfl ?_
  refine Rn.getR dX10_feed_28 fd_X10_36_9 (by first | rfl | exact gC0 (by assumption) | exact gL0 (by assumption)) rfl ?_
  refine Rn.iconst (v := (nI 1)) dX10_feed_31 rfl ?_
  refine Rn.iload_n dX10_feed_32 rfl rfl ?_
  refine Rn.iastN dX10_feed_33 (by first | rfl | exact gC1 (by assumption) | exact gC2 (by assumption) | exact gC3 (by assumption) | exact gL1 (by assumption) | exact gL2 (by assumption) | exact gL3 (by assumption) | exact gL4 (by assumption) | exact gL5 (by assumption) | exact gL6 (by assumption)) ?_
  refine Rn.aload_n dX10_feed_34 rfl rfl ?_
  refine Rn.getR dX10_feed_35 fd_X10_36_9 (by first | rfl | exact gC0 (by assumption) | exact gL0 (by assumption)) rfl ?_
  refine Rn.iconst (v := (nI 2)) dX10_feed_38 rfl ?_
  refine Rn.iload_n dX10_feed_39 rfl rfl ?_
  refine Rn.iastN dX10_feed_40 (by first | rfl | exact gC1 (by assumption) | exact gC2 (by assumption) | exact gC3 (by assumption) | exact gL1 (by assumption) | exact gL2 (by assumption) | exact gL3 (by assumption) | exact gL4 (by assumption) | exact gL5 (by assumption) | exact gL6 (by assumption)) ?_
  refine Rn.aload_n dX10_feed_41 rfl rfl ?_
  refine Rn.getR dX10_feed_42 fd_X10_36_9 (by first | rfl | exact gC0 (by assumption) | exact gL0 (by assumption)) rfl ?_
  refine Rn.iconst (v := (nI 3)) dX10_feed_45 rfl ?_
  refine Rn.iload dX10_feed_46 rfl ?_
  refine Rn.iastN dX10_feed_48 (by first | rfl | exact gC1 (by assumption) | exact gC2 (by assumption) | exact gC3 (by assumption) | exact gL1 (by assumption) | exact gL2 (by assumption) | exact gL3 (by assumption) | exact gL4 (by assumption) | exact gL5 (by assumption) | exact gL6 (by assumption)) ?_
  refine Rn.aload_n dX10_feed_49 rfl rfl ?_
  refine Rn.getR dX10_feed_50 fd_X10_36_9 (by first | rfl | exact gC0 (by assumption) | exact gL0 (by assumption)) rfl ?_
  refine Rn.iconst (v := (nI 4)) dX10_feed_53 rfl ?_
  refine Rn.iload dX10_feed_54 rfl ?_
  refine Rn.iastN dX10_feed_56 (by first | rfl | exact gC1 (by assumption) | exact gC2 (by assumption) | exact gC3 (by assumption) | exact gL1 (by assumption) | exact gL2 (by assumption) | exact gL3 (by assumption) | exact gL4 (by assumption) | exact gL5 (by assumption) | exact gL6 (by assumption)) ?_
  refine Rn.iconst (v := (nI 0)) dX10_feed_57 rfl ?_
  refine Rn.istore dX10_feed_58 (by decide) ?_
  refine Rn.gen (fun H => H 94 9 = nI 0) g94_9 (fun H0 f0 => ?_)
  refine Rn.iload dX10_feed_60 rfl ?_
  refine Rn.bipush (v := (nI 20)) dX10_feed_62 rfl ?_
  refine Rn.icmp_ge (tgt := 106) dX10_feed_64 (by decide) (fun h9 => absurd h9 (by decide)) (fun _ => ?_)
  refine Rn.aload_n dX10_feed_67 rfl rfl ?_
  refine Rn.getR dX10_feed_68 fd_X10_29_9 (by first | rfl | exact gC0 (by assumption) | exact gL0 (by assumption)) rfl ?_
  refine Rn.aload_n dX10_feed_71 rfl rfl ?_
  refine Rn.getI dX10_feed_72 fd_X10_86_9 (by first | rfl | exact gC0 (by assumption) | exact gL0 (by assumption)) rfl ?_
  refine Rn.topI (nI 0) f0 ?_
  refine Rn.iload dX10_feed_75 rfl ?_
  refine Rn.iadd dX10_feed_77 ?_
  refine Rn.aload_n dX10_feed_78 rfl rfl ?_
  refine Rn.getR dX10_feed_79 fd_X10_36_9 (by first | rfl | exact gC0 (by assumption) | exact gL0 (by assumption)) rfl ?_
  refine Rn.iload dX10_feed_82 rfl ?_
  refine Rn.iconst (v := (nI 4)) dX10_feed_84 rfl ?_
  refine Rn.idiv dX10_feed_85 (by decide) ?_
  refine Rn.topI (nI 0) (by decide) ?_
  refine Rn.ialdN dX10_feed_86 (by first | rfl | exact gC1 (by assumption) | exact gC2 (by assumption) | exact gC3 (by assumption) | exact gL1 (by assumption) | exact gL2 (by assumption) | exact gL3 (by assumption) | exact gL4 (by assumption) | exact gL5 (by assumption) | exact gL6 (by assumption)) ?_
  refine Rn.bipush (v := (nI 24)) dX10_feed_87 rfl ?_
  refine Rn.bipush (v := (nI 8)) dX10_feed_89 rfl ?_
  refine Rn.iload dX10_feed_91 rfl ?_
  refine Rn.iconst (v := (nI 4)) dX10_feed_93 rfl ?_
  refine Rn.irem dX10_feed_94 (by decide) ?_
  refine Rn.imul dX10_feed_95 ?_
  refine Rn.isub dX10_feed_96 ?_
  refine Rn.ishr dX10_feed_97 ?_
  refine Rn.i2b dX10_feed_98 ?_
  refine Rn.secI (nI 0) (by decide) ?_
  refine Rn.bastN dX10_feed_99 (by first | rfl | exact gC1 (by assumption) | exact gC2 (by assumption) | exact gC3 (by assumption) | exact gL1 (by assumption) | exact gL2 (by assumption) | exact gL3 (by assumption) | exact gL4 (by assumption) | exact gL5 (by assumption) | exact gL6 (by assumption)) ?_
  refine Rn.iincN dX10_feed_100 rfl (by decide) ?_
  refine Rn.goto 60 dX10_feed_103 (by decide) ?_
  refine Rn.gen (fun H => H 94 9 = nI 0) (by exact f0) (fun H1 f1 => ?_)
  refine Rn.lcl [some (.ref 94), some (.int p0), some (.int p1), some (.int p2), some (.int p3), some (.int p4), some (.int (nI 1))] rfl ?_
  refine Rn.iload dX10_feed_60 rfl ?_
  refine Rn.bipush (v := (nI 20)) dX10_feed_62 rfl ?_
  refine Rn.icmp_ge (tgt := 106) dX10_feed_64 (by decide) (fun h9 => absurd h9 (by decide)) (fun _ => ?_)
  refine Rn.aload_n dX10_feed_67 rfl rfl ?_
  refine Rn.getR dX10_feed_68 fd_X10_29_9 (by first | rfl | exact gC0 (by assumption) | exact gL0 (by assumption)) rfl ?_
  refine Rn.aload_n dX10_feed_71 rfl rfl ?_
  refine Rn.getI dX10_feed_72 fd_X10_86_9 (by first | rfl | exact gC0 (by assumption) | exact gL0 (by assumption)) rfl ?_
  refine Rn.topI (nI 0) f1 ?_
  refine Rn.iload dX10_feed_75 rfl ?_
  refine Rn.iadd dX10_feed_77 ?_
  refine Rn.aload_n dX10_feed_78 rfl rfl ?_
  refine Rn.getR dX10_feed_79 fd_X10_36_9 (by first | rfl | exact gC0 (by assumption) | exact gL0 (by assumption)) rfl ?_
  refine Rn.iload dX10_feed_82 rfl ?_
  refine Rn.iconst (v := (nI 4)) dX10_feed_84 rfl ?_
  refine Rn.idiv dX10_feed_85 (by decide) ?_
  refine Rn.topI (nI 0) (by decide) ?_
  refine Rn.ialdN dX10_feed_86 (by first | rfl | exact gC1 (by assumption) | exact gC2 (by assumption) | exact gC3 (by assumption) | exact gL1 (by assumption) | exact gL2 (by assumption) | exact gL3 (by assumption) | exact gL4 (by assumption) | exact gL5 (by assumption) | exact gL6 (by assumption)) ?_
  refine Rn.bipush (v := (nI 24)) dX10_feed_87 rfl ?_
  refine Rn.bipush (v := (nI 8)) dX10_feed_89 rfl ?_
  refine Rn.iload dX10_feed_91 rfl ?_
  refine Rn.iconst (v := (nI 4)) dX10_feed_93 rfl ?_
  refine Rn.irem dX10_feed_94 (by decide) ?_
  refine Rn.imul dX10_feed_95 ?_
  refine Rn.isub dX10_feed_96 ?_
  refine Rn.ishr dX10_feed_97 ?_
  refine Rn.i2b dX10_feed_98 ?_
  refine Rn.secI (nI 1) (by decide) ?_
  refine Rn.bastN dX10_feed_99 (by first | rfl | exact gC1 (by assumption) | exact gC2 (by assumption) | exact gC3 (by assumption) | exact gL1 (by assumption) | exact gL2 (by assumption) | exact gL3 (by assumption) | exact gL4 (by assumption) | exact gL5 (by assumption) | exact gL6 (by assumption)) ?_
  refine Rn.iincN dX10_feed_100 rfl (by decide) ?_
  refine Rn.goto 60 dX10_feed_103 (by decide) ?_
  refine Rn.gen (fun H => H 94 9 = nI 0) (by exact f1) (fun H2 f2 => ?_)
  refine Rn.lcl [some (.ref 94), some (.int p0), some (.int p1), some (.int p2), some (.int p3), some (.int p4), some (.int (nI 2))] rfl ?_
  refine Rn.iload dX10_feed_60 rfl ?_
  refine Rn.bipush (v := (nI 20)) dX10_feed_62 rfl ?_
  refine Rn.icmp_ge (tgt := 106) dX10_feed_64 (by decide) (fun h9 => absurd h9 (by decide)) (fun _ => ?_)
  refine Rn.aload_n dX10_feed_67 rfl rfl ?_
  refine Rn.getR dX10_feed_68 fd_X10_29_9 (by first | rfl | exact gC0 (by assumption) | exact gL0 (by assumption)) rfl ?_
  refine Rn.aload_n dX10_feed_71 rfl rfl ?_
  refine Rn.getI dX10_feed_72 fd_X10_86_9 (by first | rfl | exact gC0 (by assumption) | exact gL0 (by assumption)) rfl ?_
  refine Rn.topI (nI 0) f2 ?_
  refine Rn.iload dX10_feed_75 rfl ?_
  refine Rn.iadd dX10_feed_77 ?_
  refine Rn.aload_n dX10_feed_78 rfl rfl ?_
  refine Rn.getR dX10_feed_79 fd_X10_36_9 (by first | rfl | exact gC0 (by assumption) | exact gL0 (by assumption)) rfl ?_
  refine Rn.iload dX10_feed_82 rfl ?_
  refine Rn.iconst (v := (nI 4)) dX10_feed_84 rfl ?_
  refine Rn.idiv dX10_feed_85 (by decide) ?_
  refine Rn.topI (nI 0) (by decide) ?_
  refine Rn.ialdN dX10_feed_86 (by first | rfl | exact gC1 (by assumption) | exact gC2 (by assumption) | exact gC3 (by assumption) | exact gL1 (by assumption) | exact gL2 (by assumption) | exact gL3 (by assumption) | exact gL4 (by assumption) | exact gL5 (by assumption) | exact gL6 (by assumption)) ?_
  refine Rn.bipush (v := (nI 24)) dX10_feed_87 rfl ?_
  refine Rn.bipush (v := (nI 8)) dX10_feed_89 rfl ?_
  refine Rn.iload dX10_feed_91 rfl ?_
  refine Rn.iconst (v := (nI 4)) dX10_feed_93 rfl ?_
  refine Rn.irem dX10_feed_94 (by decide) ?_
  refine Rn.imul dX10_feed_95 ?_
  refine Rn.isub dX10_feed_96 ?_
  refine Rn.ishr dX10_feed_97 ?_
  refine Rn.i2b dX10_feed_98 ?_
  refine Rn.secI (nI 2) (by decide) ?_
  refine Rn.bastN dX10_feed_99 (by first | rfl | exact gC1 (by assumption) | exact gC2 (by assumption) | exact gC3 (by assumption) | exact gL1 (by assumption) | exact gL2 (by assumption) | exact gL3 (by assumption) | exact gL4 (by assumption) | exact gL5 (by assumption) | exact gL6 (by assumption)) ?_
  refine Rn.iincN dX10_feed_100 rfl (by decide) ?_
  refine Rn.goto 60 dX10_feed_103 (by decide) ?_
  refine Rn.gen (fun H => H 94 9 = nI 0) (by exact f2) (fun H3 f3 => ?_)
  refine Rn.lcl [some (.ref 94), some (.int p0), some (.int p1), some (.int p2), some (.int p3), some (.int p4), some (.int (nI 3))] rfl ?_
  refine Rn.iload dX10_feed_60 rfl ?_
  refine Rn.bipush (v := (nI 20)) dX10_feed_62 rfl ?_
  refine Rn.icmp_ge (tgt := 106) dX10_feed_64 (by decide) (fun h9 => absurd h9 (by decide)) (fun _ => ?_)
  refine Rn.aload_n dX10_feed_67 rfl rfl ?_
  refine Rn.getR dX10_feed_68 fd_X10_29_9 (by first | rfl | exact gC0 (by assumption) | exact gL0 (by assumption)) rfl ?_
  refine Rn.aload_n dX10_feed_71 rfl rfl ?_
  refine Rn.getI dX10_feed_72 fd_X10_86_9 (by first | rfl | exact gC0 (by assumption) | exact gL0 (by assumption)) rfl ?_
  refine Rn.topI (nI 0) f3 ?_
  refine Rn.iload dX10_feed_75 rfl ?_
  refine Rn.iadd dX10_feed_77 ?_
  refine Rn.aload_n dX10_feed_78 rfl rfl ?_
  refine Rn.getR dX10_feed_79 fd_X10_36_9 (by first | rfl | exact gC0 (by assumption) | exact gL0 (by assumption)) rfl ?_
  refine Rn.iload dX10_feed_82 rfl ?_
  refine Rn.iconst (v := (nI 4)) dX10_feed_84 rfl ?_
  refine Rn.idiv dX10_feed_85 (by decide) ?_
  refine Rn.topI (nI 0) (by decide) ?_
  refine Rn.ialdN dX10_feed_86 (by first | rfl | exact gC1 (by assumption) | exact gC2 (by assumption) | exact gC3 (by assumption) | exact gL1 (by assumption) | exact gL2 (by assumption) | exact gL3 (by assumption) | exact gL4 (by assumption) | exact gL5 (by assumption) | exact gL6 (by assumption)) ?_
  refine Rn.bipush (v := (nI 24)) dX10_feed_87 rfl ?_
  refine Rn.bipush (v := (nI 8)) dX10_feed_89 rfl ?_
  refine Rn.iload dX10_feed_91 rfl ?_
  refine Rn.iconst (v := (nI 4)) dX10_feed_93 rfl ?_
  refine Rn.irem dX10_feed_94 (by decide) ?_
  refine Rn.imul dX10_feed_95 ?_
  refine Rn.isub dX10_feed_96 ?_
  refine Rn.ishr dX10_feed_97 ?_
  refine Rn.i2b dX10_feed_98 ?_
  refine Rn.secI (nI 3) (by decide) ?_
  refine Rn.bastN dX10_feed_99 (by first | rfl | exact gC1 (by assumption) | exact gC2 (by assumption) | exact gC3 (by assumption) | exact gL1 (by assumption) | exact gL2 (by assumption) | exact gL3 (by assumption) | exact gL4 (by assumption) | exact gL5 (by assumption) | exact gL6 (by assumption)) ?_
  refine Rn.iincN dX10_feed_100 rfl (by decide) ?_
  refine Rn.goto 60 dX10_feed_103 (by decide) ?_
  refine Rn.gen (fun H => H 94 9 = nI 0) (by exact f3) (fun H4 f4 => ?_)
  refine Rn.lcl [some (.ref 94), some (.int p0), some (.int p1), some (.int p2), some (.int p3), some (.int p4), some (.int (nI 4))] rfl ?_
  refine Rn.iload dX10_feed_60 rfl ?_
  refine Rn.bipush (v := (nI 20)) dX10_feed_62 rfl ?_
  refine Rn.icmp_ge (tgt := 106) dX10_feed_64 (by decide) (fun h9 => absurd h9 (by decide)) (fun _ => ?_)
  refine Rn.aload_n dX10_feed_67 rfl rfl ?_
  refine Rn.getR dX10_feed_68 fd_X10_29_9 (by first | rfl | exact gC0 (by assumption) | exact gL0 (by assumption)) rfl ?_
  refine Rn.aload_n dX10_feed_71 rfl rfl ?_
  refine Rn.getI dX10_feed_72 fd_X10_86_9 (by first | rfl | exact gC0 (by assumption) | exact gL0 (by assumption)) rfl ?_
  refine Rn.topI (nI 0) f4 ?_
  refine Rn.iload dX10_feed_75 rfl ?_
  refine Rn.iadd dX10_feed_77 ?_
  refine Rn.aload_n dX10_feed_78 rfl rfl ?_
  refine Rn.getR dX10_feed_79 fd_X10_36_9 (by first | rfl | exact gC0 (by assumption) | exact gL0 (by assumption)) rfl ?_
  refine Rn.iload dX10_feed_82 rfl ?_
  refine Rn.iconst (v := (nI 4)) dX10_feed_84 rfl ?_
  refine Rn.idiv dX10_feed_85 (by decide) ?_
  refine Rn.topI (nI 1) (by decide) ?_
  refine Rn.ialdN dX10_feed_86 (by first | rfl | exact gC1 (by assumption) | exact gC2 (by assumption) | exact gC3 (by assumption) | exact gL1 (by assumption) | exact gL2 (by assumption) | exact gL3 (by assumption) | exact gL4 (by assumption) | exact gL5 (by assumption) | exact gL6 (by assumption)) ?_
  refine Rn.bipush (v := (nI 24)) dX10_feed_87 rfl ?_
  refine Rn.bipush (v := (nI 8)) dX10_feed_89 rfl ?_
  refine Rn.iload dX10_feed_91 rfl ?_
  refine Rn.iconst (v := (nI 4)) dX10_feed_93 rfl ?_
  refine Rn.irem dX10_feed_94 (by decide) ?_
  refine Rn.imul dX10_feed_95 ?_
  refine Rn.isub dX10_feed_96 ?_
  refine Rn.ishr dX10_feed_97 ?_
  refine Rn.i2b dX10_feed_98 ?_
  refine Rn.secI (nI 4) (by decide) ?_
  refine Rn.bastN dX10_feed_99 (by first | rfl | exact gC1 (by assumption) | exact gC2 (by assumption) | exact gC3 (by assumption) | exact gL1 (by assumption) | exact gL2 (by assumption) | exact gL3 (by assumption) | exact gL4 (by assumption) | exact gL5 (by assumption) | exact gL6 (by assumption)) ?_
  refine Rn.iincN dX10_feed_100 rfl (by decide) ?_
  refine Rn.goto 60 dX10_feed_103 (by decide) ?_
  refine Rn.gen (fun H => H 94 9 = nI 0) (by exact f4) (fun H5 f5 => ?_)
  refine Rn.lcl [some (.ref 94), some (.int p0), some (.int p1), some (.int p2), some (.int p3), some (.int p4), some (.int (nI 5))] rfl ?_
  refine Rn.iload dX10_feed_60 rfl ?_
  refine Rn.bipush (v := (nI 20)) dX10_feed_62 rfl ?_
  refine Rn.icmp_ge (tgt := 106) dX10_feed_64 (by decide) (fun h9 => absurd h9 (by decide)) (fun _ => ?_)
  refine Rn.aload_n dX10_feed_67 rfl rfl ?_
  refine Rn.getR dX10_feed_68 fd_X10_29_9 (by first | rfl | exact gC0 (by assumption) | exact gL0 (by assumption)) rfl ?_
  refine Rn.aload_n dX10_feed_71 rfl rfl ?_
  refine Rn.getI dX10_feed_72 fd_X10_86_9 (by first | rfl | exact gC0 (by assumption) | exact gL0 (by assumption)) rfl ?_
  refine Rn.topI (nI 0) f5 ?_
  refine Rn.iload dX10_feed_75 rfl ?_
  refine Rn.iadd dX10_feed_77 ?_
  refine Rn.aload_n dX10_feed_78 rfl rfl ?_
  refine Rn.getR dX10_feed_79 fd_X10_36_9 (by first | rfl | exact gC0 (by assumption) | exact gL0 (by assumption)) rfl ?_
  refine Rn.iload dX10_feed_82 rfl ?_
  refine Rn.iconst (v := (nI 4)) dX10_feed_84 rfl ?_
  refine Rn.idiv dX10_feed_85 (by decide) ?_
  refine Rn.topI (nI 1) (by decide) ?_
  refine Rn.ialdN dX10_feed_86 (by first | rfl | exact gC1 (by assumption) | exact gC2 (by assumption) | exact gC3 (by assumption) | exact gL1 (by assumption) | exact gL2 (by assumption) | exact gL3 (by assumption) | exact gL4 (by assumption) | exact gL5 (by assumption) | exact gL6 (by assumption)) ?_
  refine Rn.bipush (v := (nI 24)) dX10_feed_87 rfl ?_
  refine Rn.bipush (v := (nI 8)) dX10_feed_89 rfl ?_
  refine Rn.iload dX10_feed_91 rfl ?_
  refine Rn.iconst (v := (nI 4)) dX10_feed_93 rfl ?_
  refine Rn.irem dX10_feed_94 (by decide) ?_
  refine Rn.imul dX10_feed_95 ?_
  refine Rn.isub dX10_feed_96 ?_
  refine Rn.ishr dX10_feed_97 ?_
  refine Rn.i2b dX10_feed_98 ?_
  refine Rn.secI (nI 5) (by decide) ?_
  refine Rn.bastN dX10_feed_99 (by first | rfl | exact gC1 (by assumption) | exact gC2 (by assumption) | exact gC3 (by assumption) | exact gL1 (by assumption) | exact gL2 (by assumption) | exact gL3 (by assumption) | exact gL4 (by assumption) | exact gL5 (by assumption) | exact gL6 (by assumption)) ?_
  refine Rn.iincN dX10_feed_100 rfl (by decide) ?_
  refine Rn.goto 60 dX10_feed_103 (by decide) ?_
  refine Rn.gen (fun H => H 94 9 = nI 0) (by exact f5) (fun H6 f6 => ?_)
  refine Rn.lcl [some (.ref 94), some (.int p0), some (.int p1), some (.int p2), some (.int p3), some (.int p4), some (.int (nI 6))] rfl ?_
  refine Rn.iload dX10_feed_60 rfl ?_
  refine Rn.bipush (v := (nI 20)) dX10_feed_62 rfl ?_
  refine Rn.icmp_ge (tgt := 106) dX10_feed_64 (by decide) (fun h9 => absurd h9 (by decide)) (fun _ => ?_)
  refine Rn.aload_n dX10_feed_67 rfl rfl ?_
  refine Rn.getR dX10_feed_68 fd_X10_29_9 (by first | rfl | exact gC0 (by assumption) | exact gL0 (by assumption)) rfl ?_
  refine Rn.aload_n dX10_feed_71 rfl rfl ?_
  refine Rn.getI dX10_feed_72 fd_X10_86_9 (by first | rfl | exact gC0 (by assumption) | exact gL0 (by assumption)) rfl ?_
  refine Rn.topI (nI 0) f6 ?_
  refine Rn.iload dX10_feed_75 rfl ?_
  refine Rn.iadd dX10_feed_77 ?_
  refine Rn.aload_n dX10_feed_78 rfl rfl ?_
  refine Rn.getR dX10_feed_79 fd_X10_36_9 (by first | rfl | exact gC0 (by assumption) | exact gL0 (by assumption)) rfl ?_
  refine Rn.iload dX10_feed_82 rfl ?_
  refine Rn.iconst (v := (nI 4)) dX10_feed_84 rfl ?_
  refine Rn.idiv dX10_feed_85 (by decide) ?_
  refine Rn.topI (nI 1) (by decide) ?_
  refine Rn.ialdN dX10_feed_86 (by first | rfl | exact gC1 (by assumption) | exact gC2 (by assumption) | exact gC3 (by assumption) | exact gL1 (by assumption) | exact gL2 (by assumption) | exact gL3 (by assumption) | exact gL4 (by assumption) | exact gL5 (by assumption) | exact gL6 (by assumption)) ?_
  refine Rn.bipush (v := (nI 24)) dX10_feed_87 rfl ?_
  refine Rn.bipush (v := (nI 8)) dX10_feed_89 rfl ?_
  refine Rn.iload dX10_feed_91 rfl ?_
  refine Rn.iconst (v := (nI 4)) dX10_feed_93 rfl ?_
  refine Rn.irem dX10_feed_94 (by decide) ?_
  refine Rn.imul dX10_feed_95 ?_
  refine Rn.isub dX10_feed_96 ?_
  refine Rn.ishr dX10_feed_97 ?_
  refine Rn.i2b dX10_feed_98 ?_
  refine Rn.secI (nI 6) (by decide) ?_
  refine Rn.bastN dX10_feed_99 (by first | rfl | exact gC1 (by assumption) | exact gC2 (by assumption) | exact gC3 (by assumption) | exact gL1 (by assumption) | exact gL2 (by assumption) | exact gL3 (by assumption) | exact gL4 (by assumption) | exact gL5 (by assumption) | exact gL6 (by assumption)) ?_
  refine Rn.iincN dX10_feed_100 rfl (by decide) ?_
  refine Rn.goto 60 dX10_feed_103 (by decide) ?_
  refine Rn.gen (fun H => H 94 9 = nI 0) (by exact f6) (fun H7 f7 => ?_)
  refine Rn.lcl [some (.ref 94), some (.int p0), some (.int p1), some (.int p2), some (.int p3), some (.int p4), some (.int (nI 7))] rfl ?_
  refine Rn.iload dX10_feed_60 rfl ?_
  refine Rn.bipush (v := (nI 20)) dX10_feed_62 rfl ?_
  refine Rn.icmp_ge (tgt := 106) dX10_feed_64 (by decide) (fun h9 => absurd h9 (by decide)) (fun _ => ?_)
  refine Rn.aload_n dX10_feed_67 rfl rfl ?_
  refine Rn.getR dX10_feed_68 fd_X10_29_9 (by first | rfl | exact gC0 (by assumption) | exact gL0 (by assumption)) rfl ?_
  refine Rn.aload_n dX10_feed_71 rfl rfl ?_
  refine Rn.getI dX10_feed_72 fd_X10_86_9 (by first | rfl | exact gC0 (by assumption) | exact gL0 (by assumption)) rfl ?_
  refine Rn.topI (nI 0) f7 ?_
  refine Rn.iload dX10_feed_75 rfl ?_
  refine Rn.iadd dX10_feed_77 ?_
  refine Rn.aload_n dX10_feed_78 rfl rfl ?_
  refine Rn.getR dX10_feed_79 fd_X10_36_9 (by first | rfl | exact gC0 (by assumption) | exact gL0 (by assumption)) rfl ?_
  refine Rn.iload dX10_feed_82 rfl ?_
  refine Rn.iconst (v := (nI 4)) dX10_feed_84 rfl ?_
  refine Rn.idiv dX10_feed_85 (by decide) ?_
  refine Rn.topI (nI 1) (by decide) ?_
  refine Rn.ialdN dX10_feed_86 (by first | rfl | exact gC1 (by assumption) | exact gC2 (by assumption) | exact gC3 (by assumption) | exact gL1 (by assumption) | exact gL2 (by assumption) | exact gL3 (by assumption) | exact gL4 (by assumption) | exact gL5 (by assumption) | exact gL6 (by assumption)) ?_
  refine Rn.bipush (v := (nI 24)) dX10_feed_87 rfl ?_
  refine Rn.bipush (v := (nI 8)) dX10_feed_89 rfl ?_
  refine Rn.iload dX10_feed_91 rfl ?_
  refine Rn.iconst (v := (nI 4)) dX10_feed_93 rfl ?_
  refine Rn.irem dX10_feed_94 (by decide) ?_
  refine Rn.imul dX10_feed_95 ?_
  refine Rn.isub dX10_feed_96 ?_
  refine Rn.ishr dX10_feed_97 ?_
  refine Rn.i2b dX10_feed_98 ?_
  refine Rn.secI (nI 7) (by decide) ?_
  refine Rn.bastN dX10_feed_99 (by first | rfl | exact gC1 (by assumption) | exact gC2 (by assumption) | exact gC3 (by assumption) | exact gL1 (by assumption) | exact gL2 (by assumption) | exact gL3 (by assumption) | exact gL4 (by assumption) | exact gL5 (by assumption) | exact gL6 (by assumption)) ?_
  refine Rn.iincN dX10_feed_100 rfl (by decide) ?_
  refine Rn.goto 60 dX10_feed_103 (by decide) ?_
  refine Rn.gen (fun H => H 94 9 = nI 0) (by exact f7) (fun H8 f8 => ?_)
  refine Rn.lcl [some (.ref 94), some (.int p0), some (.int p1), some (.int p2), some (.int p3), some (.int p4), some (.int (nI 8))] rfl ?_
  refine Rn.iload dX10_feed_60 rfl ?_
  refine Rn.bipush (v := (nI 20)) dX10_feed_62 rfl ?_
  refine Rn.icmp_ge (tgt := 106) dX10_feed_64 (by decide) (fun h9 => absurd h9 (by decide)) (fun _ => ?_)
  refine Rn.aload_n dX10_feed_67 rfl rfl ?_
  refine Rn.getR dX10_feed_68 fd_X10_29_9 (by first | rfl | exact gC0 (by assumption) | exact gL0 (by assumption)) rfl ?_
  refine Rn.aload_n dX10_feed_71 rfl rfl ?_
  refine Rn.getI dX10_feed_72 fd_X10_86_9 (by first | rfl | exact gC0 (by assumption) | exact gL0 (by assumption)) rfl ?_
  refine Rn.topI (nI 0) f8 ?_
  refine Rn.iload dX10_feed_75 rfl ?_
  refine Rn.iadd dX10_feed_77 ?_
  refine Rn.aload_n dX10_feed_78 rfl rfl ?_
  refine Rn.getR dX10_feed_79 fd_X10_36_9 (by first | rfl | exact gC0 (by assumption) | exact gL0 (by assumption)) rfl ?_
  refine Rn.iload dX10_feed_82 rfl ?_
  refine Rn.iconst (v := (nI 4)) dX10_feed_84 rfl ?_
  refine Rn.idiv dX10_feed_85 (by decide) ?_
  refine Rn.topI (nI 2) (by decide) ?_
  refine Rn.ialdN dX10_feed_86 (by first | rfl | exact gC1 (by assumption) | exact gC2 (by assumption) | exact gC3 (by assumption) | exact gL1 (by assumption) | exact gL2 (by assumption) | exact gL3 (by assumption) | exact gL4 (by assumption) | exact gL5 (by assumption) | exact gL6 (by assumption)) ?_
  refine Rn.bipush (v := (nI 24)) dX10_feed_87 rfl ?_
  refine Rn.bipush (v := (nI 8)) dX10_feed_89 rfl ?_
  refine Rn.iload dX10_feed_91 rfl ?_
  refine Rn.iconst (v := (nI 4)) dX10_feed_93 rfl ?_
  refine Rn.irem dX10_feed_94 (by decide) ?_
  refine Rn.imul dX10_feed_95 ?_
  refine Rn.isub dX10_feed_96 ?_
  refine Rn.ishr dX10_feed_97 ?_
  refine Rn.i2b dX10_feed_98 ?_
  refine Rn.secI (nI 8) (by decide) ?_
  refine Rn.bastN dX10_feed_99 (by first | rfl | exact gC1 (by assumption) | exact gC2 (by assumption) | exact gC3 (by assumption) | exact gL1 (by assumption) | exact gL2 (by assumption) | exact gL3 (by assumption) | exact gL4 (by assumption) | exact gL5 (by assumption) | exact gL6 (by assumption)) ?_
  refine Rn.iincN dX10_feed_100 rfl (by decide) ?_
  refine Rn.goto 60 dX10_feed_103 (by decide) ?_
  refine Rn.gen (fun H => H 94 9 = nI 0) (by exact f8) (fun H9 f9 => ?_)
  refine Rn.lcl [some (.ref 94), some (.int p0), some (.int p1), some (.int p2), some (.int p3), some (.int p4), some (.int (nI 9))] rfl ?_
  refine Rn.iload dX10_feed_60 rfl ?_
  refine Rn.bipush (v := (nI 20)) dX10_feed_62 rfl ?_
  refine Rn.icmp_ge (tgt := 106) dX10_feed_64 (by decide) (fun h9 => absurd h9 (by decide)) (fun _ => ?_)
  refine Rn.aload_n dX10_feed_67 rfl rfl ?_
  refine Rn.getR dX10_feed_68 fd_X10_29_9 (by first | rfl | exact gC0 (by assumption) | exact gL0 (by assumption)) rfl ?_
  refine Rn.aload_n dX10_feed_71 rfl rfl ?_
  refine Rn.getI dX10_feed_72 fd_X10_86_9 (by first | rfl | exact gC0 (by assumption) | exact gL0 (by assumption)) rfl ?_
  refine Rn.topI (nI 0) f9 ?_
  refine Rn.iload dX10_feed_75 rfl ?_
  refine Rn.iadd dX10_feed_77 ?_
  refine Rn.aload_n dX10_feed_78 rfl rfl ?_
  refine Rn.getR dX10_feed_79 fd_X10_36_9 (by first | rfl | exact gC0 (by assumption) | exact gL0 (by assumption)) rfl ?_
  refine Rn.iload dX10_feed_82 rfl ?_
  refine Rn.iconst (v := (nI 4)) dX10_feed_84 rfl ?_
  refine Rn.idiv dX10_feed_85 (by decide) ?_
  refine Rn.topI (nI 2) (by decide) ?_
  refine Rn.ialdN dX10_feed_86 (by first | rfl | exact gC1 (by assumption) | exact gC2 (by assumption) | exact gC3 (by assumption) | exact gL1 (by assumption) | exact gL2 (by assumption) | exact gL3 (by assumption) | exact gL4 (by assumption) | exact gL5 (by assumption) | exact gL6 (by assumption)) ?_
  refine Rn.bipush (v := (nI 24)) dX10_feed_87 rfl ?_
  refine Rn.bipush (v := (nI 8)) dX10_feed_89 rfl ?_
  refine Rn.iload dX10_feed_91 rfl ?_
  refine Rn.iconst (v := (nI 4)) dX10_feed_93 rfl ?_
  refine Rn.irem dX10_feed_94 (by decide) ?_
  refine Rn.imul dX10_feed_95 ?_
  refine Rn.isub dX10_feed_96 ?_
  refine Rn.ishr dX10_feed_97 ?_
  refine Rn.i2b dX10_feed_98 ?_
  refine Rn.secI (nI 9) (by decide) ?_
  refine Rn.bastN dX10_feed_99 (by first | rfl | exact gC1 (by assumption) | exact gC2 (by assumption) | exact gC3 (by assumption) | exact gL1 (by assumption) | exact gL2 (by assumption) | exact gL3 (by assumption) | exact gL4 (by assumption) | exact gL5 (by assumption) | exact gL6 (by assumption)) ?_
  refine Rn.iincN dX10_feed_100 rfl (by decide) ?_
  refine Rn.goto 60 dX10_feed_103 (by decide) ?_
  refine Rn.gen (fun H => H 94 9 = nI 0) (by exact f9) (fun H10 f10 => ?_)
  refine Rn.lcl [some (.ref 94), some (.int p0), some (.int p1), some (.int p2), some (.int p3), some (.int p4), some (.int (nI 10))] rfl ?_
  refine Rn.iload dX10_feed_60 rfl ?_
  refine Rn.bipush (v := (nI 20)) dX10_feed_62 rfl ?_
  refine Rn.icmp_ge (tgt := 106) dX10_feed_64 (by decide) (fun h9 => absurd h9 (by decide)) (fun _ => ?_)
  refine Rn.aload_n dX10_feed_67 rfl rfl ?_
  refine Rn.getR dX10_feed_68 fd_X10_29_9 (by first | rfl | exact gC0 (by assumption) | exact gL0 (by assumption)) rfl ?_
  refine Rn.aload_n dX10_feed_71 rfl rfl ?_
  refine Rn.getI dX10_feed_72 fd_X10_86_9 (by first | rfl | exact gC0 (by assumption) | exact gL0 (by assumption)) rfl ?_
  refine Rn.topI (nI 0) f10 ?_
  refine Rn.iload dX10_feed_75 rfl ?_
  refine Rn.iadd dX10_feed_77 ?_
  refine Rn.aload_n dX10_feed_78 rfl rfl ?_
  refine Rn.getR dX10_feed_79 fd_X10_36_9 (by first | rfl | exact gC0 (by assumption) | exact gL0 (by assumption)) rfl ?_
  refine Rn.iload dX10_feed_82 rfl ?_
  refine Rn.iconst (v := (nI 4)) dX10_feed_84 rfl ?_
  refine Rn.idiv dX10_feed_85 (by decide) ?_
  refine Rn.topI (nI 2) (by decide) ?_
  refine Rn.ialdN dX10_feed_86 (by first | rfl | exact gC1 (by assumption) | exact gC2 (by assumption) | exact gC3 (by assumption) | exact gL1 (by assumption) | exact gL2 (by assumption) | exact gL3 (by assumption) | exact gL4 (by assumption) | exact gL5 (by assumption) | exact gL6 (by assumption)) ?_
  refine Rn.bipush (v := (nI 24)) dX10_feed_87 rfl ?_
  refine Rn.bipush (v := (nI 8)) dX10_feed_89 rfl ?_
  refine Rn.iload dX10_feed_91 rfl ?_
  refine Rn.iconst (v := (nI 4)) dX10_feed_93 rfl ?_
  refine Rn.irem dX10_feed_94 (by decide) ?_
  refine Rn.imul dX10_feed_95 ?_
  refine Rn.isub dX10_feed_96 ?_
  refine Rn.ishr dX10_feed_97 ?_
  refine Rn.i2b dX10_feed_98 ?_
  refine Rn.secI (nI 10) (by decide) ?_
  refine Rn.bastN dX10_feed_99 (by first | rfl | exact gC1 (by assumption) | exact gC2 (by assumption) | exact gC3 (by assumption) | exact gL1 (by assumption) | exact gL2 (by assumption) | exact gL3 (by assumption) | exact gL4 (by assumption) | exact gL5 (by assumption) | exact gL6 (by assumption)) ?_
  refine Rn.iincN dX10_feed_100 rfl (by decide) ?_
  refine Rn.goto 60 dX10_feed_103 (by decide) ?_
  refine Rn.gen (fun H => H 94 9 = nI 0) (by exact f10) (fun H11 f11 => ?_)
  refine Rn.lcl [some (.ref 94), some (.int p0), some (.int p1), some (.int p2), some (.int p3), some (.int p4), some (.int (nI 11))] rfl ?_
  refine Rn.iload dX10_feed_60 rfl ?_
  refine Rn.bipush (v := (nI 20)) dX10_feed_62 rfl ?_
  refine Rn.icmp_ge (tgt := 106) dX10_feed_64 (by decide) (fun h9 => absurd h9 (by decide)) (fun _ => ?_)
  refine Rn.aload_n dX10_feed_67 rfl rfl ?_
  refine Rn.getR dX10_feed_68 fd_X10_29_9 (by first | rfl | exact gC0 (by assumption) | exact gL0 (by assumption)) rfl ?_
  refine Rn.aload_n dX10_feed_71 rfl rfl ?_
  refine Rn.getI dX10_feed_72 fd_X10_86_9 (by first | rfl | exact gC0 (by assumption) | exact gL0 (by assumption)) rfl ?_
  refine Rn.topI (nI 0) f11 ?_
  refine Rn.iload dX10_feed_75 rfl ?_
  refine Rn.iadd dX10_feed_77 ?_
  refine Rn.aload_n dX10_feed_78 rfl rfl ?_
  refine Rn.getR dX10_feed_79 fd_X10_36_9 (by first | rfl | exact gC0 (by assumption) | exact gL0 (by assumption)) rfl ?_
  refine Rn.iload dX10_feed_82 rfl ?_
  refine Rn.iconst (v := (nI 4)) dX10_feed_84 rfl ?_
  refine Rn.idiv dX10_feed_85 (by decide) ?_
  refine Rn.topI (nI 2) (by decide) ?_
  refine Rn.ialdN dX10_feed_86 (by first | rfl | exact gC1 (by assumption) | exact gC2 (by assumption) | exact gC3 (by assumption) | exact gL1 (by assumption) | exact gL2 (by assumption) | exact gL3 (by assumption) | exact gL4 (by assumption) | exact gL5 (by assumption) | exact gL6 (by assumption)) ?_
  refine Rn.bipush (v := (nI 24)) dX10_feed_87 rfl ?_
  refine Rn.bipush (v := (nI 8)) dX10_feed_89 rfl ?_
  refine Rn.iload dX10_feed_91 rfl ?_
  refine Rn.iconst (v := (nI 4)) dX10_feed_93 rfl ?_
  refine Rn.irem dX10_feed_94 (by decide) ?_
  refine Rn.imul dX10_feed_95 ?_
  refine Rn.isub dX10_feed_96 ?_
  refine Rn.ishr dX10_feed_97 ?_
  refine Rn.i2b dX10_feed_98 ?_
  refine Rn.secI (nI 11) (by decide) ?_
  refine Rn.bastN dX10_feed_99 (by first | rfl | exact gC1 (by assumption) | exact gC2 (by assumption) | exact gC3 (by assumption) | exact gL1 (by assumption) | exact gL2 (by assumption) | exact gL3 (by assumption) | exact gL4 (by assumption) | exact gL5 (by assumption) | exact gL6 (by assumption)) ?_
  refine Rn.iincN dX10_feed_100 rfl (by decide) ?_
  refine Rn.goto 60 dX10_feed_103 (by decide) ?_
  refine Rn.gen (fun H => H 94 9 = nI 0) (by exact f11) (fun H12 f12 => ?_)
  refine Rn.lcl [some (.ref 94), some (.int p0), some (.int p1), some (.int p2), some (.int p3), some (.int p4), some (.int (nI 12))] rfl ?_
  refine Rn.iload dX10_feed_60 rfl ?_
  refine Rn.bipush (v := (nI 20)) dX10_feed_62 rfl ?_
  refine Rn.icmp_ge (tgt := 106) dX10_feed_64 (by decide) (fun h9 => absurd h9 (by decide)) (fun _ => ?_)
  refine Rn.aload_n dX10_feed_67 rfl rfl ?_
  refine Rn.getR dX10_feed_68 fd_X10_29_9 (by first | rfl | exact gC0 (by assumption) | exact gL0 (by assumption)) rfl ?_
  refine Rn.aload_n dX10_feed_71 rfl rfl ?_
  refine Rn.getI dX10_feed_72 fd_X10_86_9 (by first | rfl | exact gC0 (by assumption) | exact gL0 (by assumption)) rfl ?_
  refine Rn.topI (nI 0) f12 ?_
  refine Rn.iload dX10_feed_75 rfl ?_
  refine Rn.iadd dX10_feed_77 ?_
  refine Rn.aload_n dX10_feed_78 rfl rfl ?_
  refine Rn.getR dX10_feed_79 fd_X10_36_9 (by first | rfl | exact gC0 (by assumption) | exact gL0 (by assumption)) rfl ?_
  refine Rn.iload dX10_feed_82 rfl ?_
  refine Rn.iconst (v := (nI 4)) dX10_feed_84 rfl ?_
  refine Rn.idiv dX10_feed_85 (by decide) ?_
  refine Rn.topI (nI 3) (by decide) ?_
  refine Rn.ialdN dX10_feed_86 (by first | rfl | exact gC1 (by assumption) | exact gC2 (by assumption) | exact gC3 (by assumption) | exact gL1 (by assumption) | exact gL2 (by assumption) | exact gL3 (by assumption) | exact gL4 (by assumption) | exact gL5 (by assumption) | exact gL6 (by assumption)) ?_
  refine Rn.bipush (v := (nI 24)) dX10_feed_87 rfl ?_
  refine Rn.bipush (v := (nI 8)) dX10_feed_89 rfl ?_
  refine Rn.iload dX10_feed_91 rfl ?_
  refine Rn.iconst (v := (nI 4)) dX10_feed_93 rfl ?_
  refine Rn.irem dX10_feed_94 (by decide) ?_
  refine Rn.imul dX10_feed_95 ?_
  refine Rn.isub dX10_feed_96 ?_
  refine Rn.ishr dX10_feed_97 ?_
  refine Rn.i2b dX10_feed_98 ?_
  refine Rn.secI (nI 12) (by decide) ?_
  refine Rn.bastN dX10_feed_99 (by first | rfl | exact gC1 (by assumption) | exact gC2 (by assumption) | exact gC3 (by assumption) | exact gL1 (by assumption) | exact gL2 (by assumption) | exact gL3 (by assumption) | exact gL4 (by assumption) | exact gL5 (by assumption) | exact gL6 (by assumption)) ?_
  refine Rn.iincN dX10_feed_100 rfl (by decide) ?_
  refine Rn.goto 60 dX10_feed_103 (by decide) ?_
  refine Rn.gen (fun H => H 94 9 = nI 0) (by exact f12) (fun H13 f13 => ?_)
  refine Rn.lcl [some (.ref 94), some (.int p0), some (.int p1), some (.int p2), some (.int p3), some (.int p4), some (.int (nI 13))] rfl ?_
  refine Rn.iload dX10_feed_60 rfl ?_
  refine Rn.bipush (v := (nI 20)) dX10_feed_62 rfl ?_
  refine Rn.icmp_ge (tgt := 106) dX10_feed_64 (by decide) (fun h9 => absurd h9 (by decide)) (fun _ => ?_)
  refine Rn.aload_n dX10_feed_67 rfl rfl ?_
  refine Rn.getR dX10_feed_68 fd_X10_29_9 (by first | rfl | exact gC0 (by assumption) | exact gL0 (by assumption)) rfl ?_
  refine Rn.aload_n dX10_feed_71 rfl rfl ?_
  refine Rn.getI dX10_feed_72 fd_X10_86_9 (by first | rfl | exact gC0 (by assumption) | exact gL0 (by assumption)) rfl ?_
  refine Rn.topI (nI 0) f13 ?_
  refine Rn.iload dX10_feed_75 rfl ?_
  refine Rn.iadd dX10_feed_77 ?_
  refine Rn.aload_n dX10_feed_78 rfl rfl ?_
  refine Rn.getR dX10_feed_79 fd_X10_36_9 (by first | rfl | exact gC0 (by assumption) | exact gL0 (by assumption)) rfl ?_
  refine Rn.iload dX10_feed_82 rfl ?_
  refine Rn.iconst (v := (nI 4)) dX10_feed_84 rfl ?_
  refine Rn.idiv dX10_feed_85 (by decide) ?_
  refine Rn.topI (nI 3) (by decide) ?_
  refine Rn.ialdN dX10_feed_86 (by first | rfl | exact gC1 (by assumption) | exact gC2 (by assumption) | exact gC3 (by assumption) | exact gL1 (by assumption) | exact gL2 (by assumption) | exact gL3 (by assumption) | exact gL4 (by assumption) | exact gL5 (by assumption) | exact gL6 (by assumption)) ?_
  refine Rn.bipush (v := (nI 24)) dX10_feed_87 rfl ?_
  refine Rn.bipush (v := (nI 8)) dX10_feed_89 rfl ?_
  refine Rn.iload dX10_feed_91 rfl ?_
  refine Rn.iconst (v := (nI 4)) dX10_feed_93 rfl ?_
  refine Rn.irem dX10_feed_94 (by decide) ?_
  refine Rn.imul dX10_feed_95 ?_
  refine Rn.isub dX10_feed_96 ?_
  refine Rn.ishr dX10_feed_97 ?_
  refine Rn.i2b dX10_feed_98 ?_
  refine Rn.secI (nI 13) (by decide) ?_
  refine Rn.bastN dX10_feed_99 (by first | rfl | exact gC1 (by assumption) | exact gC2 (by assumption) | exact gC3 (by assumption) | exact gL1 (by assumption) | exact gL2 (by assumption) | exact gL3 (by assumption) | exact gL4 (by assumption) | exact gL5 (by assumption) | exact gL6 (by assumption)) ?_
  refine Rn.iincN dX10_feed_100 rfl (by decide) ?_
  refine Rn.goto 60 dX10_feed_103 (by decide) ?_
  refine Rn.gen (fun H => H 94 9 = nI 0) (by exact f13) (fun H14 f14 => ?_)
  refine Rn.lcl [some (.ref 94), some (.int p0), some (.int p1), some (.int p2), some (.int p3), some (.int p4), some (.int (nI 14))] rfl ?_
  refine Rn.iload dX10_feed_60 rfl ?_
  refine Rn.bipush (v := (nI 20)) dX10_feed_62 rfl ?_
  refine Rn.icmp_ge (tgt := 106) dX10_feed_64 (by decide) (fun h9 => absurd h9 (by decide)) (fun _ => ?_)
  refine Rn.aload_n dX10_feed_67 rfl rfl ?_
  refine Rn.getR dX10_feed_68 fd_X10_29_9 (by first | rfl | exact gC0 (by assumption) | exact gL0 (by assumption)) rfl ?_
  refine Rn.aload_n dX10_feed_71 rfl rfl ?_
  refine Rn.getI dX10_feed_72 fd_X10_86_9 (by first | rfl | exact gC0 (by assumption) | exact gL0 (by assumption)) rfl ?_
  refine Rn.topI (nI 0) f14 ?_
  refine Rn.iload dX10_feed_75 rfl ?_
  refine Rn.iadd dX10_feed_77 ?_
  refine Rn.aload_n dX10_feed_78 rfl rfl ?_
  refine Rn.getR dX10_feed_79 fd_X10_36_9 (by first | rfl | exact gC0 (by assumption) | exact gL0 (by assumption)) rfl ?_
  refine Rn.iload dX10_feed_82 rfl ?_
  refine Rn.iconst (v := (nI 4)) dX10_feed_84 rfl ?_
  refine Rn.idiv dX10_feed_85 (by decide) ?_
  refine Rn.topI (nI 3) (by decide) ?_
  refine Rn.ialdN dX10_feed_86 (by first | rfl | exact gC1 (by assumption) | exact gC2 (by assumption) | exact gC3 (by assumption) | exact gL1 (by assumption) | exact gL2 (by assumption) | exact gL3 (by assumption) | exact gL4 (by assumption) | exact gL5 (by assumption) | exact gL6 (by assumption)) ?_
  refine Rn.bipush (v := (nI 24)) dX10_feed_87 rfl ?_
  refine Rn.bipush (v := (nI 8)) dX10_feed_89 rfl ?_
  refine Rn.iload dX10_feed_91 rfl ?_
  refine Rn.iconst (v := (nI 4)) dX10_feed_93 rfl ?_
  refine Rn.irem dX10_feed_94 (by decide) ?_
  refine Rn.imul dX10_feed_95 ?_
  refine Rn.isub dX10_feed_96 ?_
  refine Rn.ishr dX10_feed_97 ?_
  refine Rn.i2b dX10_feed_98 ?_
  refine Rn.secI (nI 14) (by decide) ?_
  refine Rn.bastN dX10_feed_99 (by first | rfl | exact gC1 (by assumption) | exact gC2 (by assumption) | exact gC3 (by assumption) | exact gL1 (by assumption) | exact gL2 (by assumption) | exact gL3 (by assumption) | exact gL4 (by assumption) | exact gL5 (by assumption) | exact gL6 (by assumption)) ?_
  refine Rn.iincN dX10_feed_100 rfl (by decide) ?_
  refine Rn.goto 60 dX10_feed_103 (by decide) ?_
  refine Rn.gen (fun H => H 94 9 = nI 0) (by exact f14) (fun H15 f15 => ?_)
  refine Rn.lcl [some (.ref 94), some (.int p0), some (.int p1), some (.int p2), some (.int p3), some (.int p4), some (.int (nI 15))] rfl ?_
  refine Rn.iload dX10_feed_60 rfl ?_
  refine Rn.bipush (v := (nI 20)) dX10_feed_62 rfl ?_
  refine Rn.icmp_ge (tgt := 106) dX10_feed_64 (by decide) (fun h9 => absurd h9 (by decide)) (fun _ => ?_)
  refine Rn.aload_n dX10_feed_67 rfl rfl ?_
  refine Rn.getR dX10_feed_68 fd_X10_29_9 (by first | rfl | exact gC0 (by assumption) | exact gL0 (by assumption)) rfl ?_
  refine Rn.aload_n dX10_feed_71 rfl rfl ?_
  refine Rn.getI dX10_feed_72 fd_X10_86_9 (by first | rfl | exact gC0 (by assumption) | exact gL0 (by assumption)) rfl ?_
  refine Rn.topI (nI 0) f15 ?_
  refine Rn.iload dX10_feed_75 rfl ?_
  refine Rn.iadd dX10_feed_77 ?_
  refine Rn.aload_n dX10_feed_78 rfl rfl ?_
  refine Rn.getR dX10_feed_79 fd_X10_36_9 (by first | rfl | exact gC0 (by assumption) | exact gL0 (by assumption)) rfl ?_
  refine Rn.iload dX10_feed_82 rfl ?_
  refine Rn.iconst (v := (nI 4)) dX10_feed_84 rfl ?_
  refine Rn.idiv dX10_feed_85 (by decide) ?_
  refine Rn.topI (nI 3) (by decide) ?_
  refine Rn.ialdN dX10_feed_86 (by first | rfl | exact gC1 (by assumption) | exact gC2 (by assumption) | exact gC3 (by assumption) | exact gL1 (by assumption) | exact gL2 (by assumption) | exact gL3 (by assumption) | exact gL4 (by assumption) | exact gL5 (by assumption) | exact gL6 (by assumption)) ?_
  refine Rn.bipush (v := (nI 24)) dX10_feed_87 rfl ?_
  refine Rn.bipush (v := (nI 8)) dX10_feed_89 rfl ?_
  refine Rn.iload dX10_feed_91 rfl ?_
  refine Rn.iconst (v := (nI 4)) dX10_feed_93 rfl ?_
  refine Rn.irem dX10_feed_94 (by decide) ?_
  refine Rn.imul dX10_feed_95 ?_
  refine Rn.isub dX10_feed_96 ?_
  refine Rn.ishr dX10_feed_97 ?_
  refine Rn.i2b dX10_feed_98 ?_
  refine Rn.secI (nI 15) (by decide) ?_
  refine Rn.bastN dX10_feed_99 (by first | rfl | exact gC1 (by assumption) | exact gC2 (by assumption) | exact gC3 (by assumption) | exact gL1 (by assumption) | exact gL2 (by assumption) | exact gL3 (by assumption) | exact gL4 (by assumption) | exact gL5 (by assumption) | exact gL6 (by assumption)) ?_
  refine Rn.iincN dX10_feed_100 rfl (by decide) ?_
  refine Rn.goto 60 dX10_feed_103 (by decide) ?_
  refine Rn.gen (fun H => H 94 9 = nI 0) (by exact f15) (fun H16 f16 => ?_)
  refine Rn.lcl [some (.ref 94), some (.int p0), some (.int p1), some (.int p2), some (.int p3), some (.int p4), some (.int (nI 16))] rfl ?_
  refine Rn.iload dX10_feed_60 rfl ?_
  refine Rn.bipush (v := (nI 20)) dX10_feed_62 rfl ?_
  refine Rn.icmp_ge (tgt := 106) dX10_feed_64 (by decide) (fun h9 => absurd h9 (by decide)) (fun _ => ?_)
  refine Rn.aload_n dX10_feed_67 rfl rfl ?_
  refine Rn.getR dX10_feed_68 fd_X10_29_9 (by first | rfl | exact gC0 (by assumption) | exact gL0 (by assumption)) rfl ?_
  refine Rn.aload_n dX10_feed_71 rfl rfl ?_
  refine Rn.getI dX10_feed_72 fd_X10_86_9 (by first | rfl | exact gC0 (by assumption) | exact gL0 (by assumption)) rfl ?_
  refine Rn.topI (nI 0) f16 ?_
  refine Rn.iload dX10_feed_75 rfl ?_
  refine Rn.iadd dX10_feed_77 ?_
  refine Rn.aload_n dX10_feed_78 rfl rfl ?_
  refine Rn.getR dX10_feed_79 fd_X10_36_9 (by first | rfl | exact gC0 (by assumption) | exact gL0 (by assumption)) rfl ?_
  refine Rn.iload dX10_feed_82 rfl ?_
  refine Rn.iconst (v := (nI 4)) dX10_feed_84 rfl ?_
  refine Rn.idiv dX10_feed_85 (by decide) ?_
  refine Rn.topI (nI 4) (by decide) ?_
  refine Rn.ialdN dX10_feed_86 (by first | rfl | exact gC1 (by assumption) | exact gC2 (by assumption) | exact gC3 (by assumption) | exact gL1 (by assumption) | exact gL2 (by assumption) | exact gL3 (by assumption) | exact gL4 (by assumption) | exact gL5 (by assumption) | exact gL6 (by assumption)) ?_
  refine Rn.bipush (v := (nI 24)) dX10_feed_87 rfl ?_
  refine Rn.bipush (v := (nI 8)) dX10_feed_89 rfl ?_
  refine Rn.iload dX10_feed_91 rfl ?_
  refine Rn.iconst (v := (nI 4)) dX10_feed_93 rfl ?_
  refine Rn.irem dX10_feed_94 (by decide) ?_
  refine Rn.imul dX10_feed_95 ?_
  refine Rn.isub dX10_feed_96 ?_
  refine Rn.ishr dX10_feed_97 ?_
  refine Rn.i2b dX10_feed_98 ?_
  refine Rn.secI (nI 16) (by decide) ?_
  refine Rn.bastN dX10_feed_99 (by first | rfl | exact gC1 (by assumption) | exact gC2 (by assumption) | exact gC3 (by assumption) | exact gL1 (by assumption) | exact gL2 (by assumption) | exact gL3 (by assumption) | exact gL4 (by assumption) | exact gL5 (by assumption) | exact gL6 (by assumption)) ?_
  refine Rn.iincN dX10_feed_100 rfl (by decide) ?_
  refine Rn.goto 60 dX10_feed_103 (by decide) ?_
  refine Rn.gen (fun H => H 94 9 = nI 0) (by exact f16) (fun H17 f17 => ?_)
  refine Rn.lcl [some (.ref 94), some (.int p0), some (.int p1), some (.int p2), some (.int p3), some (.int p4), some (.int (nI 17))] rfl ?_
  refine Rn.iload dX10_feed_60 rfl ?_
  refine Rn.bipush (v := (nI 20)) dX10_feed_62 rfl ?_
  refine Rn.icmp_ge (tgt := 106) dX10_feed_64 (by decide) (fun h9 => absurd h9 (by decide)) (fun _ => ?_)
  refine Rn.aload_n dX10_feed_67 rfl rfl ?_
  refine Rn.getR dX10_feed_68 fd_X10_29_9 (by first | rfl | exact gC0 (by assumption) | exact gL0 (by assumption)) rfl ?_
  refine Rn.aload_n dX10_feed_71 rfl rfl ?_
  refine Rn.getI dX10_feed_72 fd_X10_86_9 (by first | rfl | exact gC0 (by assumption) | exact gL0 (by assumption)) rfl ?_
  refine Rn.topI (nI 0) f17 ?_
  refine Rn.iload dX10_feed_75 rfl ?_
  refine Rn.iadd dX10_feed_77 ?_
  refine Rn.aload_n dX10_feed_78 rfl rfl ?_
  refine Rn.getR dX10_feed_79 fd_X10_36_9 (by first | rfl | exact gC0 (by assumption) | exact gL0 (by assumption)) rfl ?_
  refine Rn.iload dX10_feed_82 rfl ?_
  refine Rn.iconst (v := (nI 4)) dX10_feed_84 rfl ?_
  refine Rn.idiv dX10_feed_85 (by decide) ?_
  refine Rn.topI (nI 4) (by decide) ?_
  refine Rn.ialdN dX10_feed_86 (by first | rfl | exact gC1 (by assumption) | exact gC2 (by assumption) | exact gC3 (by assumption) | exact gL1 (by assumption) | exact gL2 (by assumption) | exact gL3 (by assumption) | exact gL4 (by assumption) | exact gL5 (by assumption) | exact gL6 (by assumption)) ?_
  refine Rn.bipush (v := (nI 24)) dX10_feed_87 rfl ?_
  refine Rn.bipush (v := (nI 8)) dX10_feed_89 rfl ?_
  refine Rn.iload dX10_feed_91 rfl ?_
  refine Rn.iconst (v := (nI 4)) dX10_feed_93 rfl ?_
  refine Rn.irem dX10_feed_94 (by decide) ?_
  refine Rn.imul dX10_feed_95 ?_
  refine Rn.isub dX10_feed_96 ?_
  refine Rn.ishr dX10_feed_97 ?_
  refine Rn.i2b dX10_feed_98 ?_
  refine Rn.secI (nI 17) (by decide) ?_
  refine Rn.bastN dX10_feed_99 (by first | rfl | exact gC1 (by assumption) | exact gC2 (by assumption) | exact gC3 (by assumption) | exact gL1 (by assumption) | exact gL2 (by assumption) | exact gL3 (by assumption) | exact gL4 (by assumption) | exact gL5 (by assumption) | exact gL6 (by assumption)) ?_
  refine Rn.iincN dX10_feed_100 rfl (by decide) ?_
  refine Rn.goto 60 dX10_feed_103 (by decide) ?_
  refine Rn.gen (fun H => H 94 9 = nI 0) (by exact f17) (fun H18 f18 => ?_)
  refine Rn.lcl [some (.ref 94), some (.int p0), some (.int p1), some (.int p2), some (.int p3), some (.int p4), some (.int (nI 18))] rfl ?_
  refine Rn.iload dX10_feed_60 rfl ?_
  refine Rn.bipush (v := (nI 20)) dX10_feed_62 rfl ?_
  refine Rn.icmp_ge (tgt := 106) dX10_feed_64 (by decide) (fun h9 => absurd h9 (by decide)) (fun _ => ?_)
  refine Rn.aload_n dX10_feed_67 rfl rfl ?_
  refine Rn.getR dX10_feed_68 fd_X10_29_9 (by first | rfl | exact gC0 (by assumption) | exact gL0 (by assumption)) rfl ?_
  refine Rn.aload_n dX10_feed_71 rfl rfl ?_
  refine Rn.getI dX10_feed_72 fd_X10_86_9 (by first | rfl | exact gC0 (by assumption) | exact gL0 (by assumption)) rfl ?_
  refine Rn.topI (nI 0) f18 ?_
  refine Rn.iload dX10_feed_75 rfl ?_
  refine Rn.iadd dX10_feed_77 ?_
  refine Rn.aload_n dX10_feed_78 rfl rfl ?_
  refine Rn.getR dX10_feed_79 fd_X10_36_9 (by first | rfl | exact gC0 (by assumption) | exact gL0 (by assumption)) rfl ?_
  refine Rn.iload dX10_feed_82 rfl ?_
  refine Rn.iconst (v := (nI 4)) dX10_feed_84 rfl ?_
  refine Rn.idiv dX10_feed_85 (by decide) ?_
  refine Rn.topI (nI 4) (by decide) ?_
  refine Rn.ialdN dX10_feed_86 (by first | rfl | exact gC1 (by assumption) | exact gC2 (by assumption) | exact gC3 (by assumption) | exact gL1 (by assumption) | exact gL2 (by assumption) | exact gL3 (by assumption) | exact gL4 (by assumption) | exact gL5 (by assumption) | exact gL6 (by assumption)) ?_
  refine Rn.bipush (v := (nI 24)) dX10_feed_87 rfl ?_
  refine Rn.bipush (v := (nI 8)) dX10_feed_89 rfl ?_
  refine Rn.iload dX10_feed_91 rfl ?_
  refine Rn.iconst (v := (nI 4)) dX10_feed_93 rfl ?_
  refine Rn.irem dX10_feed_94 (by decide) ?_
  refine Rn.imul dX10_feed_95 ?_
  refine Rn.isub dX10_feed_96 ?_
  refine Rn.ishr dX10_feed_97 ?_
  refine Rn.i2b dX10_feed_98 ?_
  refine Rn.secI (nI 18) (by decide) ?_
  refine Rn.bastN dX10_feed_99 (by first | rfl | exact gC1 (by assumption) | exact gC2 (by assumption) | exact gC3 (by assumption) | exact gL1 (by assumption) | exact gL2 (by assumption) | exact gL3 (by assumption) | exact gL4 (by assumption) | exact gL5 (by assumption) | exact gL6 (by assumption)) ?_
  refine Rn.iincN dX10_feed_100 rfl (by decide) ?_
  refine Rn.goto 60 dX10_feed_103 (by decide) ?_
  refine Rn.gen (fun H => H 94 9 = nI 0) (by exact f18) (fun H19 f19 => ?_)
  refine Rn.lcl [some (.ref 94), some (.int p0), some (.int p1), some (.int p2), some (.int p3), some (.int p4), some (.int (nI 19))] rfl ?_
  refine Rn.iload dX10_feed_60 rfl ?_
  refine Rn.bipush (v := (nI 20)) dX10_feed_62 rfl ?_
  refine Rn.icmp_ge (tgt := 106) dX10_feed_64 (by decide) (fun h9 => absurd h9 (by decide)) (fun _ => ?_)
  refine Rn.aload_n dX10_feed_67 rfl rfl ?_
  refine Rn.getR dX10_feed_68 fd_X10_29_9 (by first | rfl | exact gC0 (by assumption) | exact gL0 (by assumption)) rfl ?_
  refine Rn.aload_n dX10_feed_71 rfl rfl ?_
  refine Rn.getI dX10_feed_72 fd_X10_86_9 (by first | rfl | exact gC0 (by assumption) | exact gL0 (by assumption)) rfl ?_
  refine Rn.topI (nI 0) f19 ?_
  refine Rn.iload dX10_feed_75 rfl ?_
  refine Rn.iadd dX10_feed_77 ?_
  refine Rn.aload_n dX10_feed_78 rfl rfl ?_
  refine Rn.getR dX10_feed_79 fd_X10_36_9 (by first | rfl | exact gC0 (by assumption) | exact gL0 (by assumption)) rfl ?_
  refine Rn.iload dX10_feed_82 rfl ?_
  refine Rn.iconst (v := (nI 4)) dX10_feed_84 rfl ?_
  refine Rn.idiv dX10_feed_85 (by decide) ?_
  refine Rn.topI (nI 4) (by decide) ?_
  refine Rn.ialdN dX10_feed_86 (by first | rfl | exact gC1 (by assumption) | exact gC2 (by assumption) | exact gC3 (by assumption) | exact gL1 (by assumption) | exact gL2 (by assumption) | exact gL3 (by assumption) | exact gL4 (by assumption) | exact gL5 (by assumption) | exact gL6 (by assumption)) ?_
  refine Rn.bipush (v := (nI 24)) dX10_feed_87 rfl ?_
  refine Rn.bipush (v := (nI 8)) dX10_feed_89 rfl ?_
  refine Rn.iload dX10_feed_91 rfl ?_
  refine Rn.iconst (v := (nI 4)) dX10_feed_93 rfl ?_
  refine Rn.irem dX10_feed_94 (by decide) ?_
  refine Rn.imul dX10_feed_95 ?_
  refine Rn.isub dX10_feed_96 ?_
  refine Rn.ishr dX10_feed_97 ?_
  refine Rn.i2b dX10_feed_98 ?_
  refine Rn.secI (nI 19) (by decide) ?_
  refine Rn.bastN dX10_feed_99 (by first | rfl | exact gC1 (by assumption) | exact gC2 (by assumption) | exact gC3 (by assumption) | exact gL1 (by assumption) | exact gL2 (by assumption) | exact gL3 (by assumption) | exact gL4 (by assumption) | exact gL5 (by assumption) | exact gL6 (by assumption)) ?_
  refine Rn.iincN dX10_feed_100 rfl (by decide) ?_
  refine Rn.goto 60 dX10_feed_103 (by decide) ?_
  refine Rn.gen (fun H => H 94 9 = nI 0) (by exact f19) (fun H20 f20 => ?_)
  refine Rn.lcl [some (.ref 94), some (.int p0), some (.int p1), some (.int p2), some (.int p3), some (.int p4), some (.int (nI 20))] rfl ?_
  refine Rn.iload dX10_feed_60 rfl ?_
  refine Rn.bipush (v := (nI 20)) dX10_feed_62 rfl ?_
  refine Rn.icmp_ge (tgt := 106) dX10_feed_64 (by decide) (fun _ => ?_) (fun h9 => absurd h9 (by decide))
  refine Rn.aload_n dX10_feed_106 rfl rfl ?_
  refine Rn.dup dX10_feed_107 rfl ?_
  refine Rn.getI dX10_feed_108 fd_X10_86_9 (by first | rfl | exact gC0 (by assumption) | exact gL0 (by assumption)) rfl ?_
  refine Rn.topI (nI 0) f20 ?_
  refine Rn.bipush (v := (nI 20)) dX10_feed_111 rfl ?_
  refine Rn.iadd dX10_feed_113 ?_
  refine Rn.topI (nI 20) (by decide) ?_
  refine Rn.putI dX10_feed_114 fp_X10_86_9 (by first | rfl | exact gC0 (by assumption) | exact gL0 (by assumption)) rfl ?_
  refine Rn.aload_n dX10_feed_117 rfl rfl ?_
  refine Rn.getI dX10_feed_118 fd_X10_86_9 (by first | rfl | exact gC0 (by assumption) | exact gL0 (by assumption)) rfl ?_
  refine Rn.topI (nI 20) rfl ?_
  exact Rn.iret dX10_feed_121 rfl (rfl)
end ModC
