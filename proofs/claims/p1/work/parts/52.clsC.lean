abbrev mX7_gather : Ym := (yX7_gather, cX7_gather, 4, some .int)
theorem dX7_gather_0 : decode cX7_gather 0 = .ok (.aload_n 0, 1) := by decide +kernel
theorem dX7_gather_1 : decode cX7_gather 1 = .ok (.iconst 0, 1) := by decide +kernel
theorem dX7_gather_2 : decode cX7_gather 2 = .ok (.putfield 32, 3) := by decide +kernel
theorem wi_317 : Cond.fieldLink RX7 32 "BorrowedLuck$Search" "size" "I" ∈ WA := zin 317 (by decide +kernel) (by decide +kernel)
theorem fp_X7_32_6 : zFp RX7 32 6 2 .int := ⟨RX7, TX7, 8, "BorrowedLuck$Search", tyX7, rfl, by decide, uw_X7, Or.inl rfl, Or.inl wi_317, tyX7_ok, nmX7, rfl, by decide +kernel⟩
theorem dX7_gather_5 : decode cX7_gather 5 = .ok (.iconst 0, 1) := by decide +kernel
theorem dX7_gather_6 : decode cX7_gather 6 = .ok (.istore_n 3, 1) := by decide +kernel
theorem dX7_gather_7 : decode cX7_gather 7 = .ok (.iload_n 3, 1) := by decide +kernel
theorem dX7_gather_8 : decode cX7_gather 8 = .ok (.iload_n 2, 1) := by decide +kernel
theorem dX7_gather_9 : decode cX7_gather 9 = .ok (.if_icmp .ge 60, 3) := by decide +kernel
theorem dX7_gather_69 : decode cX7_gather 69 = .ok (.aload_n 0, 1) := by decide +kernel
theorem dX7_gather_70 : decode cX7_gather 70 = .ok (.getfield 32, 3) := by decide +kernel
theorem fd_X7_32_6 : zFd RX7 32 6 2 := ⟨RX7, TX7, 8, "BorrowedLuck$Search", rfl, by decide, uw_X7, Or.inl rfl, Or.inl wi_317⟩
theorem dX7_gather_73 : decode cX7_gather 73 = .ok (.ireturn, 1) := by decide +kernel
abbrev mX9_gatherFive : Ym := (yX9_gatherFive, cX9_gatherFive, 2, none)
theorem dX9_gatherFive_0 : decode cX9_gatherFive 0 = .ok (.aload_n 0, 1) := by decide +kernel
theorem dX9_gatherFive_1 : decode cX9_gatherFive 1 = .ok (.getfield 69, 3) := by decide +kernel
theorem fd_X9_69_8 : zFd RX9 69 8 9 := ⟨RX9, TX9, 13, "BorrowedLuck", rfl, by decide, uw_X9, Or.inl rfl, Or.inl wi_370⟩
theorem dX9_gatherFive_4 : decode cX9_gatherFive 4 = .ok (.iload_n 1, 1) := by decide +kernel
theorem dX9_gatherFive_5 : decode cX9_gatherFive 5 = .ok (.aload_n 0, 1) := by decide +kernel
theorem dX9_gatherFive_6 : decode cX9_gatherFive 6 = .ok (.getfield 19, 3) := by decide +kernel
theorem dX9_gatherFive_9 : decode cX9_gatherFive 9 = .ok (.getfield 278, 3) := by decide +kernel
theorem dX9_gatherFive_12 : decode cX9_gatherFive 12 = .ok (.invokevirtual 370, 3) := by decide +kernel
theorem wi_1019 : Cond.methodLink RX9 370 yX7_gather ∈ WA := zin 1019 (by decide +kernel) (by decide +kernel)
theorem wi_1022 : Cond.code yX7_gather cX7_gather 4 (some .int) ∈ WA := zin 1022 (by decide +kernel) (by decide +kernel)
theorem wi_1020 : Cond.instanceMethod yX7_gather ∈ WA := zin 1020 (by decide +kernel) (by decide +kernel)
theorem wi_1021 : Cond.selects RX7 yX7_gather yX7_gather ∈ WA := zin 1021 (by decide +kernel) (by decide +kernel)
theorem mv_X9_370 : zMv RX9 370 RX7 mX7_gather 2 := ⟨⟨wi_1019, wi_108, wi_1022, by decide, by decide +kernel⟩, wi_1020, wi_1021⟩
theorem dX9_gatherFive_15 : decode cX9_gatherFive 15 = .ok (.iconst 5, 1) := by decide +kernel
theorem dX9_gatherFive_16 : decode cX9_gatherFive 16 = .ok (.if_icmp .le 14, 3) := by decide +kernel
theorem dX9_gatherFive_30 : decode cX9_gatherFive 30 = .ok (.return_, 1) := by decide +kernel
abbrev mX7_place : Ym := (yX7_place, cX7_place, 7, none)
theorem dX7_place_0 : decode cX7_place 0 = .ok (.iload_n 1, 1) := by decide +kernel
theorem dX7_place_1 : decode cX7_place 1 = .ok (.ifCond .lt 16, 3) := by decide +kernel
theorem dX7_place_4 : decode cX7_place 4 = .ok (.iload_n 1, 1) := by decide +kernel
theorem dX7_place_5 : decode cX7_place 5 = .ok (.aload_n 0, 1) := by decide +kernel
theorem dX7_place_6 : decode cX7_place 6 = .ok (.getfield 32, 3) := by decide +kernel
theorem dX7_place_9 : decode cX7_place 9 = .ok (.if_icmp .ge 8, 3) := by decide +kernel
theorem dX7_place_17 : decode cX7_place 17 = .ok (.iload_n 3, 1) := by decide +kernel
theorem dX7_place_18 : decode cX7_place 18 = .ok (.aload_n 0, 1) := by decide +kernel
theorem dX7_place_19 : decode cX7_place 19 = .ok (.getfield 58, 3) := by decide +kernel
theorem wi_319 : Cond.fieldLink RX7 58 "BorrowedLuck$Search" "greatest" "I" ∈ WA := zin 319 (by decide +kernel) (by decide +kernel)
theorem fd_X7_58_6 : zFd RX7 58 6 3 := ⟨RX7, TX7, 8, "BorrowedLuck$Search", rfl, by decide, uw_X7, Or.inl rfl, Or.inl wi_319⟩
theorem dX7_place_22 : decode cX7_place 22 = .ok (.if_icmp .le 23, 3) := by decide +kernel
theorem dX7_place_25 : decode cX7_place 25 = .ok (.aload_n 0, 1) := by decide +kernel
theorem dX7_place_26 : decode cX7_place 26 = .ok (.iload_n 3, 1) := by decide +kernel
theorem dX7_place_27 : decode cX7_place 27 = .ok (.putfield 58, 3) := by decide +kernel
theorem fp_X7_58_6 : zFp RX7 58 6 3 .int := ⟨RX7, TX7, 8, "BorrowedLuck$Search", tyX7, rfl, by decide, uw_X7, Or.inl rfl, Or.inl wi_319, tyX7_ok, nmX7, rfl, by decide +kernel⟩
theorem dX7_place_30 : decode cX7_place 30 = .ok (.aload_n 0, 1) := by decide +kernel
theorem dX7_place_31 : decode cX7_place 31 = .ok (.getfield 15, 3) := by decide +kernel
theorem fd_X7_15_6 : zFd RX7 15 6 5 := ⟨RX7, TX7, 8, "BorrowedLuck$Search", rfl, by decide, uw_X7, Or.inl rfl, Or.inl wi_321⟩
theorem dX7_place_34 : decode cX7_place 34 = .ok (.iconst 0, 1) := by decide +kernel
theorem dX7_place_35 : decode cX7_place 35 = .ok (.aload_n 0, 1) := by decide +kernel
theorem dX7_place_36 : decode cX7_place 36 = .ok (.getfield 18, 3) := by decide +kernel
theorem fd_X7_18_6 : zFd RX7 18 6 6 := ⟨RX7, TX7, 8, "BorrowedLuck$Search", rfl, by decide, uw_X7, Or.inl rfl, Or.inl wi_322⟩
theorem dX7_place_39 : decode cX7_place 39 = .ok (.iconst 0, 1) := by decide +kernel
theorem dX7_place_40 : decode cX7_place 40 = .ok (.bipush 8, 2) := by decide +kernel
theorem dX7_place_42 : decode cX7_place 42 = .ok (.invokestatic 36, 3) := by decide +kernel
theorem wi_1028 : Cond.methodLink RX7 36 arraycopyName ∈ WA := zin 1028 (by decide +kernel) (by decide +kernel)
theorem ac_X7_36 : zAc RX7 36 := ⟨wi_1028, wi_508, wi_507, wi_111⟩
theorem dX7_place_45 : decode cX7_place 45 = .ok (.return_, 1) := by decide +kernel
abbrev mX7_greatestMatch : Ym := (yX7_greatestMatch, cX7_greatestMatch, 5, some .int)
theorem dX7_greatestMatch_0 : decode cX7_greatestMatch 0 = .ok (.iconst 0, 1) := by decide +kernel
theorem dX7_greatestMatch_1 : decode cX7_greatestMatch 1 = .ok (.istore_n 2, 1) := by decide +kernel
theorem dX7_greatestMatch_2 : decode cX7_greatestMatch 2 = .ok (.iload_n 2, 1) := by decide +kernel
theorem dX7_greatestMatch_3 : decode cX7_greatestMatch 3 = .ok (.aload_n 0, 1) := by decide +kernel
theorem dX7_greatestMatch_4 : decode cX7_greatestMatch 4 = .ok (.getfield 32, 3) := by decide +kernel
theorem dX7_greatestMatch_7 : decode cX7_greatestMatch 7 = .ok (.if_icmp .ge 86, 3) := by decide +kernel
theorem dX7_greatestMatch_93 : decode cX7_greatestMatch 93 = .ok (.aload_n 0, 1) := by decide +kernel
theorem dX7_greatestMatch_94 : decode cX7_greatestMatch 94 = .ok (.ldc 89, 2) := by decide +kernel
theorem wi_1143 : Cond.constant RX7 89 (-1000000) ∈ WA := zin 1143 (by decide +kernel) (by decide +kernel)
theorem kc_X7_89 : Cond.constant RX7 89 (-1000000) ∈ WA := wi_1143
theorem dX7_greatestMatch_96 : decode cX7_greatestMatch 96 = .ok (.putfield 58, 3) := by decide +kernel
theorem dX7_greatestMatch_99 : decode cX7_greatestMatch 99 = .ok (.aload_n 0, 1) := by decide +kernel
theorem dX7_greatestMatch_100 : decode cX7_greatestMatch 100 = .ok (.iconst 0, 1) := by decide +kernel
theorem dX7_greatestMatch_101 : decode cX7_greatestMatch 101 = .ok (.iconst 0, 1) := by decide +kernel
theorem dX7_greatestMatch_102 : decode cX7_greatestMatch 102 = .ok (.iconst 0, 1) := by decide +kernel
theorem dX7_greatestMatch_103 : decode cX7_greatestMatch 103 = .ok (.aload_n 1, 1) := by decide +kernel
theorem dX7_greatestMatch_104 : decode cX7_greatestMatch 104 = .ok (.getfield 79, 3) := by decide +kernel
theorem fd_X7_79_0 : zFd RX7 79 0 1 := ⟨RX0, TX0, 12, "BorrowedLuck$Coast", rfl, by decide, uw_X0, Or.inl rfl, Or.inr ⟨"BorrowedLuck", by decide +kernel⟩⟩
theorem dX7_greatestMatch_107 : decode cX7_greatestMatch 107 = .ok (.invokevirtual 90, 3) := by decide +kernel
theorem wi_1144 : Cond.methodLink RX7 90 yX7_place ∈ WA := zin 1144 (by decide +kernel) (by decide +kernel)
theorem wi_1147 : Cond.code yX7_place cX7_place 7 (none) ∈ WA := zin 1147 (by decide +kernel) (by decide +kernel)
theorem wi_1146 : Cond.instanceMethod yX7_place ∈ WA := zin 1146 (by decide +kernel) (by decide +kernel)
theorem wi_22 : Cond.selects RX7 yX7_place yX7_place ∈ WA := zin 22 (by decide +kernel) (by decide +kernel)
theorem mv_X7_90 : zMv RX7 90 RX7 mX7_place 4 := ⟨⟨wi_1144, wi_108, wi_1147, by decide, by decide +kernel⟩, wi_1146, wi_22⟩
theorem dX7_greatestMatch_110 : decode cX7_greatestMatch 110 = .ok (.aload_n 0, 1) := by decide +kernel
theorem dX7_greatestMatch_111 : decode cX7_greatestMatch 111 = .ok (.getfield 58, 3) := by decide +kernel
theorem dX7_greatestMatch_114 : decode cX7_greatestMatch 114 = .ok (.ireturn, 1) := by decide +kernel
abbrev mX7_bestAt : Ym := (yX7_bestAt, cX7_bestAt, 2, some .int)
theorem dX7_bestAt_0 : decode cX7_bestAt 0 = .ok (.iload_n 1, 1) := by decide +kernel
theorem dX7_bestAt_1 : decode cX7_bestAt 1 = .ok (.ifCond .lt 26, 3) := by decide +kernel
theorem dX7_bestAt_27 : decode cX7_bestAt 27 = .ok (.iconst (-1), 1) := by decide +kernel
theorem dX7_bestAt_28 : decode cX7_bestAt 28 = .ok (.ireturn, 1) := by decide +kernel
theorem dX7_bestAt_4 : decode cX7_bestAt 4 = .ok (.iload_n 1, 1) := by decide +kernel
theorem dX7_bestAt_5 : decode cX7_bestAt 5 = .ok (.aload_n 0, 1) := by decide +kernel
theorem dX7_bestAt_6 : decode cX7_bestAt 6 = .ok (.getfield 32, 3) := by decide +kernel
theorem dX7_bestAt_9 : decode cX7_bestAt 9 = .ok (.if_icmp .ge 18, 3) := by decide +kernel
abbrev mX9_match : Ym := (yX9_match, cX9_match, 4, some .int)
theorem dX9_match_0 : decode cX9_match 0 = .ok (.aload_n 0, 1) := by decide +kernel
theorem dX9_match_1 : decode cX9_match 1 = .ok (.iload_n 1, 1) := by decide +kernel
theorem dX9_match_2 : decode cX9_match 2 = .ok (.invokevirtual 237, 3) := by decide +kernel
theorem wi_1015 : Cond.methodLink RX9 237 yX9_gatherFive ∈ WA := zin 1015 (by decide +kernel) (by decide +kernel)
theorem wi_1018 : Cond.code yX9_gatherFive cX9_gatherFive 2 (none) ∈ WA := zin 1018 (by decide +kernel) (by decide +kernel)
theorem wi_1017 : Cond.instanceMethod yX9_gatherFive ∈ WA := zin 1017 (by decide +kernel) (by decide +kernel)
theorem wi_16 : Cond.selects RX9 yX9_gatherFive yX9_gatherFive ∈ WA := zin 16 (by decide +kernel) (by decide +kernel)
theorem mv_X9_237 : zMv RX9 237 RX9 mX9_gatherFive 1 := ⟨⟨wi_1015, wi_100, wi_1018, by decide, by decide +kernel⟩, wi_1017, wi_16⟩
theorem dX9_match_5 : decode cX9_match 5 = .ok (.aload_n 0, 1) := by decide +kernel
theorem dX9_match_6 : decode cX9_match 6 = .ok (.getfield 69, 3) := by decide +kernel
theorem dX9_match_9 : decode cX9_match 9 = .ok (.aload_n 0, 1) := by decide +kernel
theorem dX9_match_10 : decode cX9_match 10 = .ok (.getfield 19, 3) := by decide +kernel
theorem dX9_match_13 : decode cX9_match 13 = .ok (.invokevirtual 284, 3) := by decide +kernel
theorem wi_1137 : Cond.methodLink RX9 284 yX7_greatestMatch ∈ WA := zin 1137 (by decide +kernel) (by decide +kernel)
theorem wi_1140 : Cond.code yX7_greatestMatch cX7_greatestMatch 5 (some .int) ∈ WA := zin 1140 (by decide +kernel) (by decide +kernel)
theorem wi_1138 : Cond.instanceMethod yX7_greatestMatch ∈ WA := zin 1138 (by decide +kernel) (by decide +kernel)
theorem wi_1139 : Cond.selects RX7 yX7_greatestMatch yX7_greatestMatch ∈ WA := zin 1139 (by decide +kernel) (by decide +kernel)
theorem mv_X9_284 : zMv RX9 284 RX7 mX7_greatestMatch 1 := ⟨⟨wi_1137, wi_108, wi_1140, by decide, by decide +kernel⟩, wi_1138, wi_1139⟩
theorem dX9_match_16 : decode cX9_match 16 = .ok (.istore_n 3, 1) := by decide +kernel
theorem dX9_match_17 : decode cX9_match 17 = .ok (.iload_n 2, 1) := by decide +kernel
theorem dX9_match_18 : decode cX9_match 18 = .ok (.iconst (-1), 1) := by decide +kernel
theorem dX9_match_19 : decode cX9_match 19 = .ok (.if_icmp .ne 5, 3) := by decide +kernel
theorem dX9_match_24 : decode cX9_match 24 = .ok (.iload_n 3, 1) := by decide +kernel
theorem dX9_match_25 : decode cX9_match 25 = .ok (.ldc_w 288, 3) := by decide +kernel
theorem wi_1148 : Cond.constant RX9 288 (-1000000) ∈ WA := zin 1148 (by decide +kernel) (by decide +kernel)
theorem kc_X9_288 : Cond.constant RX9 288 (-1000000) ∈ WA := wi_1148
theorem dX9_match_28 : decode cX9_match 28 = .ok (.if_icmp .ne 7, 3) := by decide +kernel
theorem dX9_match_35 : decode cX9_match 35 = .ok (.aload_n 0, 1) := by decide +kernel
theorem dX9_match_36 : decode cX9_match 36 = .ok (.getfield 69, 3) := by decide +kernel
theorem dX9_match_39 : decode cX9_match 39 = .ok (.iload_n 2, 1) := by decide +kernel
theorem dX9_match_40 : decode cX9_match 40 = .ok (.invokevirtual 244, 3) := by decide +kernel
theorem wi_1045 : Cond.methodLink RX9 244 yX7_bestAt ∈ WA := zin 1045 (by decide +kernel) (by decide +kernel)
theorem wi_1048 : Cond.code yX7_bestAt cX7_bestAt 2 (some .int) ∈ WA := zin 1048 (by decide +kernel) (by decide +kernel)
theorem wi_1046 : Cond.instanceMethod yX7_bestAt ∈ WA := zin 1046 (by decide +kernel) (by decide +kernel)
theorem wi_1047 : Cond.selects RX7 yX7_bestAt yX7_bestAt ∈ WA := zin 1047 (by decide +kernel) (by decide +kernel)
theorem mv_X9_244 : zMv RX9 244 RX7 mX7_bestAt 1 := ⟨⟨wi_1045, wi_108, wi_1048, by decide, by decide +kernel⟩, wi_1046, wi_1047⟩
theorem dX9_match_43 : decode cX9_match 43 = .ok (.ireturn, 1) := by decide +kernel
theorem dX9_match_22 : decode cX9_match 22 = .ok (.iload_n 3, 1) := by decide +kernel
theorem dX9_match_23 : decode cX9_match 23 = .ok (.ireturn, 1) := by decide +kernel
abbrev mX8_put : Ym := (yX8_put, cX8_put, 3, none)
theorem dX8_put_0 : decode cX8_put 0 = .ok (.bipush 24, 2) := by decide +kernel
theorem dX8_put_2 : decode cX8_put 2 = .ok (.istore_n 2, 1) := by decide +kernel
theorem dX8_put_3 : decode cX8_put 3 = .ok (.iload_n 2, 1) := by decide +kernel
theorem dX8_put_4 : decode cX8_put 4 = .ok (.ifCond .lt 52, 3) := by decide +kernel
theorem dX8_put_7 : decode cX8_put 7 = .ok (.aload_n 0, 1) := by decide +kernel
theorem dX8_put_8 : decode cX8_put 8 = .ok (.getfield 15, 3) := by decide +kernel
theorem dX8_put_11 : decode cX8_put 11 = .ok (.ifCond .lt 39, 3) := by decide +kernel
theorem dX8_put_14 : decode cX8_put 14 = .ok (.aload_n 0, 1) := by decide +kernel
theorem dX8_put_15 : decode cX8_put 15 = .ok (.getfield 15, 3) := by decide +kernel
theorem dX8_put_18 : decode cX8_put 18 = .ok (.sipush 400, 3) := by decide +kernel
theorem dX8_put_21 : decode cX8_put 21 = .ok (.if_icmp .ge 29, 3) := by decide +kernel
theorem dX8_put_24 : decode cX8_put 24 = .ok (.aload_n 0, 1) := by decide +kernel
theorem dX8_put_25 : decode cX8_put 25 = .ok (.getfield 9, 3) := by decide +kernel
theorem fd_X8_9_7 : zFd RX8 9 7 0 := ⟨RX8, TX8, 7, "BorrowedLuck$Tape", rfl, by decide, uw_X8, Or.inl rfl, Or.inl wi_140⟩
theorem dX8_put_28 : decode cX8_put 28 = .ok (.aload_n 0, 1) := by decide +kernel
theorem dX8_put_29 : decode cX8_put 29 = .ok (.getfield 15, 3) := by decide +kernel
theorem dX8_put_32 : decode cX8_put 32 = .ok (.iload_n 1, 1) := by decide +kernel
theorem dX8_put_33 : decode cX8_put 33 = .ok (.iload_n 2, 1) := by decide +kernel
theorem dX8_put_34 : decode cX8_put 34 = .ok (.iushr, 1) := by decide +kernel
theorem dX8_put_35 : decode cX8_put 35 = .ok (.sipush 255, 3) := by decide +kernel
theorem dX8_put_38 : decode cX8_put 38 = .ok (.iand, 1) := by decide +kernel
theorem dX8_put_39 : decode cX8_put 39 = .ok (.iastore, 1) := by decide +kernel
theorem dX8_put_40 : decode cX8_put 40 = .ok (.aload_n 0, 1) := by decide +kernel
theorem dX8_put_41 : decode cX8_put 41 = .ok (.dup, 1) := by decide +kernel
theorem dX8_put_42 : decode cX8_put 42 = .ok (.getfield 15, 3) := by decide +kernel
theorem dX8_put_45 : decode cX8_put 45 = .ok (.iconst 1, 1) := by decide +kernel
theorem dX8_put_46 : decode cX8_put 46 = .ok (.iadd, 1) := by decide +kernel
theorem dX8_put_47 : decode cX8_put 47 = .ok (.putfield 15, 3) := by decide +kernel
theorem fp_X8_15_7 : zFp RX8 15 7 1 .int := ⟨RX8, TX8, 7, "BorrowedLuck$Tape", tyX8, rfl, by decide, uw_X8, Or.inl rfl, Or.inl wi_142, tyX8_ok, nmX8, rfl, by decide +kernel⟩
theorem dX8_put_50 : decode cX8_put 50 = .ok (.iinc 2 (-8), 3) := by decide +kernel
theorem dX8_put_53 : decode cX8_put 53 = .ok (.goto (-50), 3) := by decide +kernel
theorem dX8_put_56 : decode cX8_put 56 = .ok (.return_, 1) := by decide +kernel
abbrev mX9_feed : Ym := (yX9_feed, cX9_feed, 6, some .int)
theorem dX9_feed_0 : decode cX9_feed 0 = .ok (.aload_n 0, 1) := by decide +kernel
theorem dX9_feed_1 : decode cX9_feed 1 = .ok (.getfield 10, 3) := by decide +kernel
theorem dX9_feed_4 : decode cX9_feed 4 = .ok (.getfield 84, 3) := by decide +kernel
theorem dX9_feed_7 : decode cX9_feed 7 = .ok (.bipush 20, 2) := by decide +kernel
theorem dX9_feed_9 : decode cX9_feed 9 = .ok (.iadd, 1) := by decide +kernel
theorem dX9_feed_10 : decode cX9_feed 10 = .ok (.sipush 400, 3) := by decide +kernel
theorem dX9_feed_13 : decode cX9_feed 13 = .ok (.if_icmp .le 5, 3) := by decide +kernel
theorem dX9_feed_18 : decode cX9_feed 18 = .ok (.aload_n 0, 1) := by decide +kernel
theorem dX9_feed_19 : decode cX9_feed 19 = .ok (.getfield 10, 3) := by decide +kernel
theorem dX9_feed_22 : decode cX9_feed 22 = .ok (.iload_n 1, 1) := by decide +kernel
theorem dX9_feed_23 : decode cX9_feed 23 = .ok (.invokevirtual 87, 3) := by decide +kernel
theorem wi_405 : Cond.methodLink RX9 87 yX8_put ∈ WA := zin 405 (by decide +kernel) (by decide +kernel)
theorem wi_408 : Cond.code yX8_put cX8_put 3 (none) ∈ WA := zin 408 (by decide +kernel) (by decide +kernel)
theorem wi_406 : Cond.instanceMethod yX8_put ∈ WA := zin 406 (by decide +kernel) (by decide +kernel)
theorem wi_407 : Cond.selects RX8 yX8_put yX8_put ∈ WA := zin 407 (by decide +kernel) (by decide +kernel)
theorem mv_X9_87 : zMv RX9 87 RX8 mX8_put 1 := ⟨⟨wi_405, wi_101, wi_408, by decide, by decide +kernel⟩, wi_406, wi_407⟩
theorem dX9_feed_26 : decode cX9_feed 26 = .ok (.aload_n 0, 1) := by decide +kernel
theorem dX9_feed_27 : decode cX9_feed 27 = .ok (.getfield 10, 3) := by decide +kernel
theorem dX9_feed_30 : decode cX9_feed 30 = .ok (.iload_n 2, 1) := by decide +kernel
theorem dX9_feed_31 : decode cX9_feed 31 = .ok (.invokevirtual 87, 3) := by decide +kernel
theorem dX9_feed_34 : decode cX9_feed 34 = .ok (.aload_n 0, 1) := by decide +kernel
theorem dX9_feed_35 : decode cX9_feed 35 = .ok (.getfield 10, 3) := by decide +kernel
theorem dX9_feed_38 : decode cX9_feed 38 = .ok (.iload_n 3, 1) := by decide +kernel
theorem dX9_feed_39 : decode cX9_feed 39 = .ok (.invokevirtual 87, 3) := by decide +kernel
theorem dX9_feed_42 : decode cX9_feed 42 = .ok (.aload_n 0, 1) := by decide +kernel
theorem dX9_feed_43 : decode cX9_feed 43 = .ok (.getfield 10, 3) := by decide +kernel
theorem dX9_feed_46 : decode cX9_feed 46 = .ok (.iload 4, 2) := by decide +kernel
theorem dX9_feed_48 : decode cX9_feed 48 = .ok (.invokevirtual 87, 3) := by decide +kernel
theorem dX9_feed_51 : decode cX9_feed 51 = .ok (.aload_n 0, 1) := by decide +kernel
theorem dX9_feed_52 : decode cX9_feed 52 = .ok (.getfield 10, 3) := by decide +kernel
theorem dX9_feed_55 : decode cX9_feed 55 = .ok (.iload 5, 2) := by decide +kernel
theorem dX9_feed_57 : decode cX9_feed 57 = .ok (.invokevirtual 87, 3) := by decide +kernel
theorem dX9_feed_60 : decode cX9_feed 60 = .ok (.aload_n 0, 1) := by decide +kernel
theorem dX9_feed_61 : decode cX9_feed 61 = .ok (.getfield 10, 3) := by decide +kernel
theorem dX9_feed_64 : decode cX9_feed 64 = .ok (.getfield 84, 3) := by decide +kernel
theorem dX9_feed_67 : decode cX9_feed 67 = .ok (.ireturn, 1) := by decide +kernel
section ClsC
variable (G : Gx) (d : Nat) (I : Hi)
theorem ct_gather (x : Int32) : Ct G GAM mX7_gather d 0 [.ref 39, .int x, .int (nI 0)] I (Rp (some (.int (nI 0))) (zup I 39 2 (nI 0))) := by
  refine Ct.mk [some (.ref 39), some (.int x), some (.int (nI 0)), none] ?_
  refine Rn.aload_n dX7_gather_0 rfl rfl ?_
  refine Rn.iconst (v := (nI 0)) dX7_gather_1 rfl ?_
  refine Rn.putI dX7_gather_2 fp_X7_32_6 (by first | rfl | exact gC0 (by assumption) | exact gL0 (by assumption)) rfl ?_
  refine Rn.iconst (v := (nI 0)) dX7_gather_5 rfl ?_
  refine Rn.istore_n dX7_gather_6 rfl (by decide) ?_
  refine Rn.iload_n dX7_gather_7 rfl rfl ?_
  refine Rn.iload_n dX7_gather_8 rfl rfl ?_
  refine Rn.icmp_ge (tgt := 69) dX7_gather_9 (by decide) (fun _ => ?_) (fun h9 => absurd h9 (by decide))
  refine Rn.aload_n dX7_gather_69 rfl rfl ?_
  refine Rn.getI dX7_gather_70 fd_X7_32_6 (by first | rfl | exact gC0 (by assumption) | exact gL0 (by assumption)) rfl ?_
  refine Rn.topI (nI 0) rfl ?_
  exact Rn.iret dX7_gather_73 rfl (⟨rfl, rfl⟩)
theorem ct_gatherFive (h : I 3 0 = nI 0) (x : Int32) : Ct G GAM mX9_gatherFive (d + 1) 0 [.ref 0, .int x] I (Rp none (zup I 39 2 (nI 0))) := by
  refine Ct.mk [some (.ref 0), some (.int x)] ?_
  refine Rn.aload_n dX9_gatherFive_0 rfl rfl ?_
  refine Rn.getR dX9_gatherFive_1 fd_X9_69_8 (by first | rfl | exact gC0 (by assumption) | exact gL0 (by assumption)) rfl ?_
  refine Rn.iload_n dX9_gatherFive_4 rfl rfl ?_
  refine Rn.aload_n dX9_gatherFive_5 rfl rfl ?_
  refine Rn.getR dX9_gatherFive_6 fd_X9_19_8 (by first | rfl | exact gC0 (by assumption) | exact gL0 (by assumption)) rfl ?_
  refine Rn.getI dX9_gatherFive_9 fd_X9_278_0 (by first | rfl | exact gC0 (by assumption) | exact gL0 (by assumption)) rfl ?_
  refine Rn.topI (nI 0) h ?_
  refine Rn.callVp (As := [_, _]) dX9_gatherFive_12 mv_X9_370 (by first | rfl | exact gC0 (by assumption) | exact gL0 (by assumption)) rfl rfl rfl (Nat.le_of_ble_eq_true rfl) (ct_gather G _ _ _) ?_
  refine Rn.iconst (v := (nI 5)) dX9_gatherFive_15 rfl ?_
  refine Rn.icmp_le (tgt := 30) dX9_gatherFive_16 (by decide) (fun _ => ?_) (fun h9 => absurd h9 (by decide))
  exact Rn.vret dX9_gatherFive_30 rfl (⟨rfl, rfl⟩)
theorem ct_place (h2 : I 39 2 = nI 0) (h3 : I 39 3 = -1000000) : Ct G GAM mX7_place d 0 [.ref 39, .int (nI 0), .int (nI 0), .int (nI 0), .int (nI 0)] I (Rp none (zset (zup I 39 3 (nI 0)) 42 (va_cpy (I 41) (I 42) 0 0 8))) := by
  refine Ct.mk [some (.ref 39), some (.int (nI 0)), some (.int (nI 0)), some (.int (nI 0)), some (.int (nI 0)), none, none] ?_
  refine Rn.iload_n dX7_place_0 rfl rfl ?_
  refine Rn.if_lt (tgt := 17) dX7_place_1 (by decide) (fun h9 => absurd h9 (by decide)) (fun _ => ?_)
  refine Rn.iload_n dX7_place_4 rfl rfl ?_
  refine Rn.aload_n dX7_place_5 rfl rfl ?_
  refine Rn.getI dX7_place_6 fd_X7_32_6 (by first | rfl | exact gC0 (by assumption) | exact gL0 (by assumption)) rfl ?_
  refine Rn.topI (nI 0) h2 ?_
  refine Rn.icmp_ge (tgt := 17) dX7_place_9 (by decide) (fun _ => ?_) (fun h9 => absurd h9 (by decide))
  refine Rn.iload_n dX7_place_17 rfl rfl ?_
  refine Rn.aload_n dX7_place_18 rfl rfl ?_
  refine Rn.getI dX7_place_19 fd_X7_58_6 (by first | rfl | exact gC0 (by assumption) | exact gL0 (by assumption)) rfl ?_
  refine Rn.topI (-1000000) h3 ?_
  refine Rn.icmp_le (tgt := 45) dX7_place_22 (by decide) (fun h9 => absurd h9 (by decide)) (fun _ => ?_)
  refine Rn.aload_n dX7_place_25 rfl rfl ?_
  refine Rn.iload_n dX7_place_26 rfl rfl ?_
  refine Rn.putI dX7_place_27 fp_X7_58_6 (by first | rfl | exact gC0 (by assumption) | exact gL0 (by assumption)) rfl ?_
  refine Rn.aload_n dX7_place_30 rfl rfl ?_
  refine Rn.getR dX7_place_31 fd_X7_15_6 (by first | rfl | exact gC0 (by assumption) | exact gL0 (by assumption)) rfl ?_
  refine Rn.iconst (v := (nI 0)) dX7_place_34 rfl ?_
  refine Rn.aload_n dX7_place_35 rfl rfl ?_
  refine Rn.getR dX7_place_36 fd_X7_18_6 (by first | rfl | exact gC0 (by assumption) | exact gL0 (by assumption)) rfl ?_
  refine Rn.iconst (v := (nI 0)) dX7_place_39 rfl ?_
  refine Rn.bipush (v := (nI 8)) dX7_place_40 rfl ?_
  refine Rn.acopy dX7_place_42 ac_X7_36 (by first | rfl | exact gC1 (by assumption) | exact gC2 (by assumption) | exact gC3 (by assumption) | exact gL1 (by assumption) | exact gL2 (by assumption) | exact gL3 (by assumption) | exact gL4 (by assumption) | exact gL5 (by assumption) | exact gL6 (by assumption)) (by first | rfl | exact gC1 (by assumption) | exact gC2 (by assumption) | exact gC3 (by assumption) | exact gL1 (by assumption) | exact gL2 (by assumption) | exact gL3 (by assumption) | exact gL4 (by assumption) | exact gL5 (by assumption) | exact gL6 (by assumption)) (by decide) (by decide) (by decide) (Nat.le_of_ble_eq_true rfl) ?_
  exact Rn.vret dX7_place_45 rfl (⟨rfl, rfl⟩)
def mtJ (I : Hi) : Hi := zset (zup (zup I 39 3 (-1000000)) 39 3 (nI 0)) 42 (va_cpy (I 41) (I 42) 0 0 8)
theorem ct_greatestMatch (h2 : I 39 2 = nI 0) (h1 : I 3 1 = nI 0) : Ct G GAM mX7_greatestMatch (d + 1) 0 [.ref 39, .ref 3] I (Rp (some (.int (nI 0))) (mtJ I)) := by
  refine Ct.mk [some (.ref 39), some (.ref 3), none, none, none] ?_
  refine Rn.iconst (v := (nI 0)) dX7_greatestMatch_0 rfl ?_
  refine Rn.istore_n dX7_greatestMatch_1 rfl (by decide) ?_
  refine Rn.iload_n dX7_greatestMatch_2 rfl rfl ?_
  refine Rn.aload_n dX7_greatestMatch_3 rfl rfl ?_
  refine Rn.getI dX7_greatestMatch_4 fd_X7_32_6 (by first | rfl | exact gC0 (by assumption) | exact gL0 (by assumption)) rfl ?_
  refine Rn.topI (nI 0) h2 ?_
  refine Rn.icmp_ge (tgt := 93) dX7_greatestMatch_7 (by decide) (fun _ => ?_) (fun h9 => absurd h9 (by decide))
  refine Rn.aload_n dX7_greatestMatch_93 rfl rfl ?_
  refine Rn.ldc dX7_greatestMatch_94 kc_X7_89 ?_
  refine Rn.putI dX7_greatestMatch_96 fp_X7_58_6 (by first | rfl | exact gC0 (by assumption) | exact gL0 (by assumption)) rfl ?_
  refine Rn.aload_n dX7_greatestMatch_99 rfl rfl ?_
  refine Rn.iconst (v := (nI 0)) dX7_greatestMatch_100 rfl ?_
  refine Rn.iconst (v := (nI 0)) dX7_greatestMatch_101 rfl ?_
  refine Rn.iconst (v := (nI 0)) dX7_greatestMatch_102 rfl ?_
  refine Rn.aload_n dX7_greatestMatch_103 rfl rfl ?_
  refine Rn.getI dX7_greatestMatch_104 fd_X7_79_0 (by first | rfl | exact gC0 (by assumption) | exact gL0 (by assumption)) rfl ?_
  refine Rn.topI (nI 0) h1 ?_
  refine Rn.callVp (As := [_, _, _, _]) dX7_greatestMatch_107 mv_X7_90 (by first | rfl | exact gC0 (by assumption) | exact gL0 (by assumption)) rfl rfl rfl (Nat.le_of_ble_eq_true rfl) (ct_place G _ _ (by exact h2) rfl) ?_
  refine Rn.aload_n dX7_greatestMatch_110 rfl rfl ?_
  refine Rn.getI dX7_greatestMatch_111 fd_X7_58_6 (by first | rfl | exact gC0 (by assumption) | exact gL0 (by assumption)) rfl ?_
  refine Rn.topI (nI 0) rfl ?_
  exact Rn.iret dX7_greatestMatch_114 rfl (⟨rfl, rfl⟩)
theorem ct_bestAt (h2 : I 39 2 = nI 0) (k : Int32) : Ct G GAM mX7_bestAt d 0 [.ref 39, .int k] I (Rp (some (.int (-1))) I) := by
  refine Ct.mk [some (.ref 39), some (.int k)] ?_
  refine Rn.iload_n dX7_bestAt_0 rfl rfl ?_
  refine Rn.if_lt (tgt := 27) dX7_bestAt_1 (by decide) (fun h1 => ?_) (fun h1 => ?_)
  · refine Rn.iconst (v := (-1)) dX7_bestAt_27 rfl ?_
    exact Rn.iret dX7_bestAt_28 rfl (⟨rfl, rfl⟩)
  · refine Rn.iload_n dX7_bestAt_4 rfl rfl ?_
    refine Rn.aload_n dX7_bestAt_5 rfl rfl ?_
    refine Rn.getI dX7_bestAt_6 fd_X7_32_6 (by first | rfl | exact gC0 (by assumption) | exact gL0 (by assumption)) rfl ?_
    refine Rn.topI (nI 0) h2 ?_
    refine Rn.icmp_ge (tgt := 27) dX7_bestAt_9 (by decide) (fun _ => ?_) (fun h9 => by exfalso; exact h9 (Int32.not_lt.mp h1))
    refine Rn.iconst (v := (-1)) dX7_bestAt_27 rfl ?_
    exact Rn.iret dX7_bestAt_28 rfl (⟨rfl, rfl⟩)
theorem ct_X9_match (F : FC I) (x k : Int32) : Ct G GAM mX9_match (d + 2) 0 [.ref 0, .int x, .int k] I (Rp (some (.int (if k = -1 then nI 0 else -1))) (mtJ (zup I 39 2 (nI 0)))) := by
  obtain ⟨h3_0, h3_1, h3_2, h3_3, h3_4, h3_5, h3_6, h3_7, h3_8, h0_11, h0_12, h1_1, h16_0, h44_1, h44_2⟩ := F
  refine Ct.mk [some (.ref 0), some (.int x), some (.int k), none] ?_
  refine Rn.aload_n dX9_match_0 rfl rfl ?_
  refine Rn.iload_n dX9_match_1 rfl rfl ?_
  refine Rn.callVp (As := [_]) dX9_match_2 mv_X9_237 (by first | rfl | exact gC0 (by assumption) | exact gL0 (by assumption)) rfl rfl rfl (Nat.le_of_ble_eq_true rfl) (ct_gatherFive G _ _ (by exact h3_0) _) ?_
  refine Rn.aload_n dX9_match_5 rfl rfl ?_
  refine Rn.getR dX9_match_6 fd_X9_69_8 (by first | rfl | exact gC0 (by assumption) | exact gL0 (by assumption)) rfl ?_
  refine Rn.aload_n dX9_match_9 rfl rfl ?_
  refine Rn.getR dX9_match_10 fd_X9_19_8 (by first | rfl | exact gC0 (by assumption) | exact gL0 (by assumption)) rfl ?_
  refine Rn.callVp (As := [_]) dX9_match_13 mv_X9_284 (by first | rfl | exact gC0 (by assumption) | exact gL0 (by assumption)) rfl rfl rfl (Nat.le_of_ble_eq_true rfl) (ct_greatestMatch G _ _ rfl (by exact h3_1)) ?_
  refine Rn.istore_n dX9_match_16 rfl (by decide) ?_
  refine Rn.iload_n dX9_match_17 rfl rfl ?_
  refine Rn.iconst (v := (-1)) dX9_match_18 rfl ?_
  refine Rn.icmp_ne (tgt := 24) dX9_match_19 (by decide) (fun h1 => ?_) (fun h1 => ?_)
  · refine Rn.iload_n dX9_match_24 rfl rfl ?_
    refine Rn.ldc_w dX9_match_25 kc_X9_288 ?_
    refine Rn.icmp_ne (tgt := 35) dX9_match_28 (by decide) (fun _ => ?_) (fun h9 => absurd h9 (by decide))
    refine Rn.aload_n dX9_match_35 rfl rfl ?_
    refine Rn.getR dX9_match_36 fd_X9_69_8 (by first | rfl | exact gC0 (by assumption) | exact gL0 (by assumption)) rfl ?_
    refine Rn.iload_n dX9_match_39 rfl rfl ?_
    refine Rn.callVp (As := [_]) dX9_match_40 mv_X9_244 (by first | rfl | exact gC0 (by assumption) | exact gL0 (by assumption)) rfl rfl rfl (Nat.le_of_ble_eq_true rfl) (ct_bestAt G _ _ rfl _) ?_
    exact Rn.iret dX9_match_43 rfl (⟨by rw [if_neg h1], rfl⟩)
  · refine Rn.iload_n dX9_match_22 rfl rfl ?_
    exact Rn.iret dX9_match_23 rfl (⟨by rw [if_pos h1], rfl⟩)
theorem ct_put_0 (h : I 1 1 = nI 0) (x : Int32) : Ct G GAM mX8_put d 0 [.ref 1, .int x] I (fun o K => o = .inl none ∧ K 1 1 = nI 4 ∧ ∀ c, 3 ≤ c → K c = I c) := by
  refine Ct.mk [some (.ref 1), some (.int x), none] ?_
  refine Rn.bipush (v := (nI 24)) dX8_put_0 rfl ?_
  refine Rn.istore_n dX8_put_2 rfl (by decide) ?_
  refine Rn.iload_n dX8_put_3 rfl rfl ?_
  refine Rn.if_lt (tgt := 56) dX8_put_4 (by decide) (fun h9 => absurd h9 (by decide)) (fun _ => ?_)
  refine Rn.aload_n dX8_put_7 rfl rfl ?_
  refine Rn.getI dX8_put_8 fd_X8_15_7 (by first | rfl | exact gC0 (by assumption) | exact gL0 (by assumption)) rfl ?_
  refine Rn.topI (nI 0) h ?_
  refine Rn.if_lt (tgt := 50) dX8_put_11 (by decide) (fun h9 => absurd h9 (by decide)) (fun _ => ?_)
  refine Rn.aload_n dX8_put_14 rfl rfl ?_
  refine Rn.getI dX8_put_15 fd_X8_15_7 (by first | rfl | exact gC0 (by assumption) | exact gL0 (by assumption)) rfl ?_
  refine Rn.topI (nI 0) h ?_
  refine Rn.sipush (v := (nI 400)) dX8_put_18 rfl ?_
  refine Rn.icmp_ge (tgt := 50) dX8_put_21 (by decide) (fun h9 => absurd h9 (by decide)) (fun _ => ?_)
  refine Rn.aload_n dX8_put_24 rfl rfl ?_
  refine Rn.getR dX8_put_25 fd_X8_9_7 (by first | rfl | exact gC0 (by assumption) | exact gL0 (by assumption)) rfl ?_
  refine Rn.aload_n dX8_put_28 rfl rfl ?_
  refine Rn.getI dX8_put_29 fd_X8_15_7 (by first | rfl | exact gC0 (by assumption) | exact gL0 (by assumption)) rfl ?_
  refine Rn.topI (nI 0) h ?_
  refine Rn.iload_n dX8_put_32 rfl rfl ?_
  refine Rn.iload_n dX8_put_33 rfl rfl ?_
  refine Rn.iushr dX8_put_34 ?_
  refine Rn.sipush (v := (nI 255)) dX8_put_35 rfl ?_
  refine Rn.iand dX8_put_38 ?_
  refine Rn.iastN dX8_put_39 (by first | rfl | exact gC1 (by assumption) | exact gC2 (by assumption) | exact gC3 (by assumption) | exact gL1 (by assumption) | exact gL2 (by assumption) | exact gL3 (by assumption) | exact gL4 (by assumption) | exact gL5 (by assumption) | exact gL6 (by assumption)) ?_
  refine Rn.aload_n dX8_put_40 rfl rfl ?_
  refine Rn.dup dX8_put_41 rfl ?_
  refine Rn.getI dX8_put_42 fd_X8_15_7 (by first | rfl | exact gC0 (by assumption) | exact gL0 (by assumption)) rfl ?_
  refine Rn.topI (nI 0) h ?_
  refine Rn.iconst (v := (nI 1)) dX8_put_45 rfl ?_
  refine Rn.iadd dX8_put_46 ?_
  refine Rn.putI dX8_put_47 fp_X8_15_7 (by first | rfl | exact gC0 (by assumption) | exact gL0 (by assumption)) rfl ?_
  refine Rn.iinc dX8_put_50 rfl rfl (by decide) ?_
  refine Rn.goto 3 dX8_put_53 (by decide) ?_
  refine Rn.iload_n dX8_put_3 rfl rfl ?_
  refine Rn.if_lt (tgt := 56) dX8_put_4 (by decide) (fun h9 => absurd h9 (by decide)) (fun _ => ?_)
  refine Rn.aload_n dX8_put_7 rfl rfl ?_
  refine Rn.getI dX8_put_8 fd_X8_15_7 (by first | rfl | exact gC0 (by assumption) | exact gL0 (by assumption)) rfl ?_
  refine Rn.topI (nI 1) rfl ?_
  refine Rn.if_lt (tgt := 50) dX8_put_11 (by decide) (fun h9 => absurd h9 (by decide)) (fun _ => ?_)
  refine Rn.aload_n dX8_put_14 rfl rfl ?_
  refine Rn.getI dX8_put_15 fd_X8_15_7 (by first | rfl | exact gC0 (by assumption) | exact gL0 (by assumption)) rfl ?_
  refine Rn.topI (nI 1) rfl ?_
  refine Rn.sipush (v := (nI 400)) dX8_put_18 rfl ?_
  refine Rn.icmp_ge (tgt := 50) dX8_put_21 (by decide) (fun h9 => absurd h9 (by decide)) (fun _ => ?_)
  refine Rn.aload_n dX8_put_24 rfl rfl ?_
  refine Rn.getR dX8_put_25 fd_X8_9_7 (by first | rfl | exact gC0 (by assumption) | exact gL0 (by assumption)) rfl ?_
  refine Rn.aload_n dX8_put_28 rfl rfl ?_
  refine Rn.getI dX8_put_29 fd_X8_15_7 (by first | rfl | exact gC0 (by assumption) | exact gL0 (by assumption)) rfl ?_
  refine Rn.topI (nI 1) rfl ?_
  refine Rn.iload_n dX8_put_32 rfl rfl ?_
  refine Rn.iload_n dX8_put_33 rfl rfl ?_
  refine Rn.iushr dX8_put_34 ?_
  refine Rn.sipush (v := (nI 255)) dX8_put_35 rfl ?_
  refine Rn.iand dX8_put_38 ?_
  refine Rn.iastN dX8_put_39 (by first | rfl | exact gC1 (by assumption) | exact gC2 (by assumption) | exact gC3 (by assumption) | exact gL1 (by assumption) | exact gL2 (by assumption) | exact gL3 (by assumption) | exact gL4 (by assumption) | exact gL5 (by assumption) | exact gL6 (by assumption)) ?_
  refine Rn.aload_n dX8_put_40 rfl rfl ?_
  refine Rn.dup dX8_put_41 rfl ?_
  refine Rn.getI dX8_put_42 fd_X8_15_7 (by first | rfl | exact gC0 (by assumption) | exact gL0 (by assumption)) rfl ?_
  refine Rn.topI (nI 1) rfl ?_
  refine Rn.iconst (v := (nI 1)) dX8_put_45 rfl ?_
  refine Rn.iadd dX8_put_46 ?_
  refine Rn.putI dX8_put_47 fp_X8_15_7 (by first | rfl | exact gC0 (by assumption) | exact gL0 (by assumption)) rfl ?_
  refine Rn.iinc dX8_put_50 rfl rfl (by decide) ?_
  refine Rn.goto 3 dX8_put_53 (by decide) ?_
  refine Rn.iload_n dX8_put_3 rfl rfl ?_
  refine Rn.if_lt (tgt := 56) dX8_put_4 (by decide) (fun h9 => absurd h9 (by decide)) (fun _ => ?_)
  refine Rn.aload_n dX8_put_7 rfl rfl ?_
  refine Rn.getI dX8_put_8 fd_X8_15_7 (by first | rfl | exact gC0 (by assumption) | exact gL0 (by assumption)) rfl ?_
  refine Rn.topI (nI 2) rfl ?_
  refine Rn.if_lt (tgt := 50) dX8_put_11 (by decide) (fun h9 => absurd h9 (by decide)) (fun _ => ?_)
  refine Rn.aload_n dX8_put_14 rfl rfl ?_
  refine Rn.getI dX8_put_15 fd_X8_15_7 (by first | rfl | exact gC0 (by assumption) | exact gL0 (by assumption)) rfl ?_
  refine Rn.topI (nI 2) rfl ?_
  refine Rn.sipush (v := (nI 400)) dX8_put_18 rfl ?_
  refine Rn.icmp_ge (tgt := 50) dX8_put_21 (by decide) (fun h9 => absurd h9 (by decide)) (fun _ => ?_)
  refine Rn.aload_n dX8_put_24 rfl rfl ?_
  refine Rn.getR dX8_put_25 fd_X8_9_7 (by first | rfl | exact gC0 (by assumption) | exact gL0 (by assumption)) rfl ?_
  refine Rn.aload_n dX8_put_28 rfl rfl ?_
  refine Rn.getI dX8_put_29 fd_X8_15_7 (by first | rfl | exact gC0 (by assumption) | exact gL0 (by assumption)) rfl ?_
  refine Rn.topI (nI 2) rfl ?_
  refine Rn.iload_n dX8_put_32 rfl rfl ?_
  refine Rn.iload_n dX8_put_33 rfl rfl ?_
  refine Rn.iushr dX8_put_34 ?_
  refine Rn.sipush (v := (nI 255)) dX8_put_35 rfl ?_
  refine Rn.iand dX8_put_38 ?_
  refine Rn.iastN dX8_put_39 (by first | rfl | exact gC1 (by assumption) | exact gC2 (by assumption) | exact gC3 (by assumption) | exact gL1 (by assumption) | exact gL2 (by assumption) | exact gL3 (by assumption) | exact gL4 (by assumption) | exact gL5 (by assumption) | exact gL6 (by assumption)) ?_
  refine Rn.aload_n dX8_put_40 rfl rfl ?_
  refine Rn.dup dX8_put_41 rfl ?_
  refine Rn.getI dX8_put_42 fd_X8_15_7 (by first | rfl | exact gC0 (by assumption) | exact gL0 (by assumption)) rfl ?_
  refine Rn.topI (nI 2) rfl ?_
  refine Rn.iconst (v := (nI 1)) dX8_put_45 rfl ?_
  refine Rn.iadd dX8_put_46 ?_
  refine Rn.putI dX8_put_47 fp_X8_15_7 (by first | rfl | exact gC0 (by assumption) | exact gL0 (by assumption)) rfl ?_
  refine Rn.iinc dX8_put_50 rfl rfl (by decide) ?_
  refine Rn.goto 3 dX8_put_53 (by decide) ?_
  refine Rn.iload_n dX8_put_3 rfl rfl ?_
  refine Rn.if_lt (tgt := 56) dX8_put_4 (by decide) (fun h9 => absurd h9 (by decide)) (fun _ => ?_)
  refine Rn.aload_n dX8_put_7 rfl rfl ?_
  refine Rn.getI dX8_put_8 fd_X8_15_7 (by first | rfl | exact gC0 (by assumption) | exact gL0 (by assumption)) rfl ?_
  refine Rn.topI (nI 3) rfl ?_
  refine Rn.if_lt (tgt := 50) dX8_put_11 (by decide) (fun h9 => absurd h9 (by decide)) (fun _ => ?_)
  refine Rn.aload_n dX8_put_14 rfl rfl ?_
  refine Rn.getI dX8_put_15 fd_X8_15_7 (by first | rfl | exact gC0 (by assumption) | exact gL0 (by assumption)) rfl ?_
  refine Rn.topI (nI 3) rfl ?_
  refine Rn.sipush (v := (nI 400)) dX8_put_18 rfl ?_
  refine Rn.icmp_ge (tgt := 50) dX8_put_21 (by decide) (fun h9 => absurd h9 (by decide)) (fun _ => ?_)
  refine Rn.aload_n dX8_put_24 rfl rfl ?_
  refine Rn.getR dX8_put_25 fd_X8_9_7 (by first | rfl | exact gC0 (by assumption) | exact gL0 (by assumption)) rfl ?_
  refine Rn.aload_n dX8_put_28 rfl rfl ?_
  refine Rn.getI dX8_put_29 fd_X8_15_7 (by first | rfl | exact gC0 (by assumption) | exact gL0 (by assumption)) rfl ?_
  refine Rn.topI (nI 3) rfl ?_
  refine Rn.iload_n dX8_put_32 rfl rfl ?_
  refine Rn.iload_n dX8_put_33 rfl rfl ?_
  refine Rn.iushr dX8_put_34 ?_
  refine Rn.sipush (v := (nI 255)) dX8_put_35 rfl ?_
  refine Rn.iand dX8_put_38 ?_
  refine Rn.iastN dX8_put_39 (by first | rfl | exact gC1 (by assumption) | exact gC2 (by assumption) | exact gC3 (by assumption) | exact gL1 (by assumption) | exact gL2 (by assumption) | exact gL3 (by assumption) | exact gL4 (by assumption) | exact gL5 (by assumption) | exact gL6 (by assumption)) ?_
  refine Rn.aload_n dX8_put_40 rfl rfl ?_
  refine Rn.dup dX8_put_41 rfl ?_
  refine Rn.getI dX8_put_42 fd_X8_15_7 (by first | rfl | exact gC0 (by assumption) | exact gL0 (by assumption)) rfl ?_
  refine Rn.topI (nI 3) rfl ?_
  refine Rn.iconst (v := (nI 1)) dX8_put_45 rfl ?_
  refine Rn.iadd dX8_put_46 ?_
  refine Rn.putI dX8_put_47 fp_X8_15_7 (by first | rfl | exact gC0 (by assumption) | exact gL0 (by assumption)) rfl ?_
  refine Rn.iinc dX8_put_50 rfl rfl (by decide) ?_
  refine Rn.goto 3 dX8_put_53 (by decide) ?_
  refine Rn.iload_n dX8_put_3 rfl rfl ?_
  refine Rn.if_lt (tgt := 56) dX8_put_4 (by decide) (fun _ => ?_) (fun h9 => absurd h9 (by decide))
  exact Rn.vret dX8_put_56 rfl (⟨rfl, rfl, fun c hc => by simp [zup, zset, show c ≠ 1 by omega, show c ≠ 2 by omega]⟩)
theorem ct_put_4 (h : I 1 1 = nI 4) (x : Int32) : Ct G GAM mX8_put d 0 [.ref 1, .int x] I (fun o K => o = .inl none ∧ K 1 1 = nI 8 ∧ ∀ c, 3 ≤ c → K c = I c) := by
  refine Ct.mk [some (.ref 1), some (.int x), none] ?_
  refine Rn.bipush (v := (nI 24)) dX8_put_0 rfl ?_
  refine Rn.istore_n dX8_put_2 rfl (by decide) ?_
  refine Rn.iload_n dX8_put_3 rfl rfl ?_
  refine Rn.if_lt (tgt := 56) dX8_put_4 (by decide) (fun h9 => absurd h9 (by decide)) (fun _ => ?_)
  refine Rn.aload_n dX8_put_7 rfl rfl ?_
  refine Rn.getI dX8_put_8 fd_X8_15_7 (by first | rfl | exact gC0 (by assumption) | exact gL0 (by assumption)) rfl ?_
  refine Rn.topI (nI 4) h ?_
  refine Rn.if_lt (tgt := 50) dX8_put_11 (by decide) (fun h9 => absurd h9 (by decide)) (fun _ => ?_)
  refine Rn.aload_n dX8_put_14 rfl rfl ?_
  refine Rn.getI dX8_put_15 fd_X8_15_7 (by first | rfl | exact gC0 (by assumption) | exact gL0 (by assumption)) rfl ?_
  refine Rn.topI (nI 4) h ?_
  refine Rn.sipush (v := (nI 400)) dX8_put_18 rfl ?_
  refine Rn.icmp_ge (tgt := 50) dX8_put_21 (by decide) (fun h9 => absurd h9 (by decide)) (fun _ => ?_)
  refine Rn.aload_n dX8_put_24 rfl rfl ?_
  refine Rn.getR dX8_put_25 fd_X8_9_7 (by first | rfl | exact gC0 (by assumption) | exact gL0 (by assumption)) rfl ?_
  refine Rn.aload_n dX8_put_28 rfl rfl ?_
  refine Rn.getI dX8_put_29 fd_X8_15_7 (by first | rfl | exact gC0 (by assumption) | exact gL0 (by assumption)) rfl ?_
  refine Rn.topI (nI 4) h ?_
  refine Rn.iload_n dX8_put_32 rfl rfl ?_
  refine Rn.iload_n dX8_put_33 rfl rfl ?_
  refine Rn.iushr dX8_put_34 ?_
  refine Rn.sipush (v := (nI 255)) dX8_put_35 rfl ?_
  refine Rn.iand dX8_put_38 ?_
  refine Rn.iastN dX8_put_39 (by first | rfl | exact gC1 (by assumption) | exact gC2 (by assumption) | exact gC3 (by assumption) | exact gL1 (by assumption) | exact gL2 (by assumption) | exact gL3 (by assumption) | exact gL4 (by assumption) | exact gL5 (by assumption) | exact gL6 (by assumption)) ?_
  refine Rn.aload_n dX8_put_40 rfl rfl ?_
  refine Rn.dup dX8_put_41 rfl ?_
  refine Rn.getI dX8_put_42 fd_X8_15_7 (by first | rfl | exact gC0 (by assumption) | exact gL0 (by assumption)) rfl ?_
  refine Rn.topI (nI 4) h ?_
  refine Rn.iconst (v := (nI 1)) dX8_put_45 rfl ?_
  refine Rn.iadd dX8_put_46 ?_
  refine Rn.putI dX8_put_47 fp_X8_15_7 (by first | rfl | exact gC0 (by assumption) | exact gL0 (by assumption)) rfl ?_
  refine Rn.iinc dX8_put_50 rfl rfl (by decide) ?_
  refine Rn.goto 3 dX8_put_53 (by decide) ?_
  refine Rn.iload_n dX8_put_3 rfl rfl ?_
  refine Rn.if_lt (tgt := 56) dX8_put_4 (by decide) (fun h9 => absurd h9 (by decide)) (fun _ => ?_)
  refine Rn.aload_n dX8_put_7 rfl rfl ?_
  refine Rn.getI dX8_put_8 fd_X8_15_7 (by first | rfl | exact gC0 (by assumption) | exact gL0 (by assumption)) rfl ?_
  refine Rn.topI (nI 5) rfl ?_
  refine Rn.if_lt (tgt := 50) dX8_put_11 (by decide) (fun h9 => absurd h9 (by decide)) (fun _ => ?_)
  refine Rn.aload_n dX8_put_14 rfl rfl ?_
  refine Rn.getI dX8_put_15 fd_X8_15_7 (by first | rfl | exact gC0 (by assumption) | exact gL0 (by assumption)) rfl ?_
  refine Rn.topI (nI 5) rfl ?_
  refine Rn.sipush (v := (nI 400)) dX8_put_18 rfl ?_
  refine Rn.icmp_ge (tgt := 50) dX8_put_21 (by decide) (fun h9 => absurd h9 (by decide)) (fun _ => ?_)
  refine Rn.aload_n dX8_put_24 rfl rfl ?_
  refine Rn.getR dX8_put_25 fd_X8_9_7 (by first | rfl | exact gC0 (by assumption) | exact gL0 (by assumption)) rfl ?_
  refine Rn.aload_n dX8_put_28 rfl rfl ?_
  refine Rn.getI dX8_put_29 fd_X8_15_7 (by first | rfl | exact gC0 (by assumption) | exact gL0 (by assumption)) rfl ?_
  refine Rn.topI (nI 5) rfl ?_
  refine Rn.iload_n dX8_put_32 rfl rfl ?_
  refine Rn.iload_n dX8_put_33 rfl rfl ?_
  refine Rn.iushr dX8_put_34 ?_
  refine Rn.sipush (v := (nI 255)) dX8_put_35 rfl ?_
  refine Rn.iand dX8_put_38 ?_
  refine Rn.iastN dX8_put_39 (by first | rfl | exact gC1 (by assumption) | exact gC2 (by assumption) | exact gC3 (by assumption) | exact gL1 (by assumption) | exact gL2 (by assumption) | exact gL3 (by assumption) | exact gL4 (by assumption) | exact gL5 (by assumption) | exact gL6 (by assumption)) ?_
  refine Rn.aload_n dX8_put_40 rfl rfl ?_
  refine Rn.dup dX8_put_41 rfl ?_
  refine Rn.getI dX8_put_42 fd_X8_15_7 (by first | rfl | exact gC0 (by assumption) | exact gL0 (by assumption)) rfl ?_
  refine Rn.topI (nI 5) rfl ?_
  refine Rn.iconst (v := (nI 1)) dX8_put_45 rfl ?_
  refine Rn.iadd dX8_put_46 ?_
  refine Rn.putI dX8_put_47 fp_X8_15_7 (by first | rfl | exact gC0 (by assumption) | exact gL0 (by assumption)) rfl ?_
  refine Rn.iinc dX8_put_50 rfl rfl (by decide) ?_
  refine Rn.goto 3 dX8_put_53 (by decide) ?_
  refine Rn.iload_n dX8_put_3 rfl rfl ?_
  refine Rn.if_lt (tgt := 56) dX8_put_4 (by decide) (fun h9 => absurd h9 (by decide)) (fun _ => ?_)
  refine Rn.aload_n dX8_put_7 rfl rfl ?_
  refine Rn.getI dX8_put_8 fd_X8_15_7 (by first | rfl | exact gC0 (by assumption) | exact gL0 (by assumption)) rfl ?_
  refine Rn.topI (nI 6) rfl ?_
  refine Rn.if_lt (tgt := 50) dX8_put_11 (by decide) (fun h9 => absurd h9 (by decide)) (fun _ => ?_)
  refine Rn.aload_n dX8_put_14 rfl rfl ?_
  refine Rn.getI dX8_put_15 fd_X8_15_7 (by first | rfl | exact gC0 (by assumption) | exact gL0 (by assumption)) rfl ?_
  refine Rn.topI (nI 6) rfl ?_
  refine Rn.sipush (v := (nI 400)) dX8_put_18 rfl ?_
  refine Rn.icmp_ge (tgt := 50) dX8_put_21 (by decide) (fun h9 => absurd h9 (by decide)) (fun _ => ?_)
  refine Rn.aload_n dX8_put_24 rfl rfl ?_
  refine Rn.getR dX8_put_25 fd_X8_9_7 (by first | rfl | exact gC0 (by assumption) | exact gL0 (by assumption)) rfl ?_
  refine Rn.aload_n dX8_put_28 rfl rfl ?_
  refine Rn.getI dX8_put_29 fd_X8_15_7 (by first | rfl | exact gC0 (by assumption) | exact gL0 (by assumption)) rfl ?_
  refine Rn.topI (nI 6) rfl ?_
  refine Rn.iload_n dX8_put_32 rfl rfl ?_
  refine Rn.iload_n dX8_put_33 rfl rfl ?_
  refine Rn.iushr dX8_put_34 ?_
  refine Rn.sipush (v := (nI 255)) dX8_put_35 rfl ?_
  refine Rn.iand dX8_put_38 ?_
  refine Rn.iastN dX8_put_39 (by first | rfl | exact gC1 (by assumption) | exact gC2 (by assumption) | exact gC3 (by assumption) | exact gL1 (by assumption) | exact gL2 (by assumption) | exact gL3 (by assumption) | exact gL4 (by assumption) | exact gL5 (by assumption) | exact gL6 (by assumption)) ?_
  refine Rn.aload_n dX8_put_40 rfl rfl ?_
  refine Rn.dup dX8_put_41 rfl ?_
  refine Rn.getI dX8_put_42 fd_X8_15_7 (by first | rfl | exact gC0 (by assumption) | exact gL0 (by assumption)) rfl ?_
  refine Rn.topI (nI 6) rfl ?_
  refine Rn.iconst (v := (nI 1)) dX8_put_45 rfl ?_
  refine Rn.iadd dX8_put_46 ?_
  refine Rn.putI dX8_put_47 fp_X8_15_7 (by first | rfl | exact gC0 (by assumption) | exact gL0 (by assumption)) rfl ?_
  refine Rn.iinc dX8_put_50 rfl rfl (by decide) ?_
  refine Rn.goto 3 dX8_put_53 (by decide) ?_
  refine Rn.iload_n dX8_put_3 rfl rfl ?_
  refine Rn.if_lt (tgt := 56) dX8_put_4 (by decide) (fun h9 => absurd h9 (by decide)) (fun _ => ?_)
  refine Rn.aload_n dX8_put_7 rfl rfl ?_
  refine Rn.getI dX8_put_8 fd_X8_15_7 (by first | rfl | exact gC0 (by assumption) | exact gL0 (by assumption)) rfl ?_
  refine Rn.topI (nI 7) rfl ?_
  refine Rn.if_lt (tgt := 50) dX8_put_11 (by decide) (fun h9 => absurd h9 (by decide)) (fun _ => ?_)
  refine Rn.aload_n dX8_put_14 rfl rfl ?_
  refine Rn.getI dX8_put_15 fd_X8_15_7 (by first | rfl | exact gC0 (by assumption) | exact gL0 (by assumption)) rfl ?_
  refine Rn.topI (nI 7) rfl ?_
  refine Rn.sipush (v := (nI 400)) dX8_put_18 rfl ?_
  refine Rn.icmp_ge (tgt := 50) dX8_put_21 (by decide) (fun h9 => absurd h9 (by decide)) (fun _ => ?_)
  refine Rn.aload_n dX8_put_24 rfl rfl ?_
  refine Rn.getR dX8_put_25 fd_X8_9_7 (by first | rfl | exact gC0 (by assumption) | exact gL0 (by assumption)) rfl ?_
  refine Rn.aload_n dX8_put_28 rfl rfl ?_
  refine Rn.getI dX8_put_29 fd_X8_15_7 (by first | rfl | exact gC0 (by assumption) | exact gL0 (by assumption)) rfl ?_
  refine Rn.topI (nI 7) rfl ?_
  refine Rn.iload_n dX8_put_32 rfl rfl ?_
  refine Rn.iload_n dX8_put_33 rfl rfl ?_
  refine Rn.iushr dX8_put_34 ?_
  refine Rn.sipush (v := (nI 255)) dX8_put_35 rfl ?_
  refine Rn.iand dX8_put_38 ?_
  refine Rn.iastN dX8_put_39 (by first | rfl | exact gC1 (by assumption) | exact gC2 (by assumption) | exact gC3 (by assumption) | exact gL1 (by assumption) | exact gL2 (by assumption) | exact gL3 (by assumption) | exact gL4 (by assumption) | exact gL5 (by assumption) | exact gL6 (by assumption)) ?_
  refine Rn.aload_n dX8_put_40 rfl rfl ?_
  refine Rn.dup dX8_put_41 rfl ?_
  refine Rn.getI dX8_put_42 fd_X8_15_7 (by first | rfl | exact gC0 (by assumption) | exact gL0 (by assumption)) rfl ?_
  refine Rn.topI (nI 7) rfl ?_
  refine Rn.iconst (v := (nI 1)) dX8_put_45 rfl ?_
  refine Rn.iadd dX8_put_46 ?_
  refine Rn.putI dX8_put_47 fp_X8_15_7 (by first | rfl | exact gC0 (by assumption) | exact gL0 (by assumption)) rfl ?_
  refine Rn.iinc dX8_put_50 rfl rfl (by decide) ?_
  refine Rn.goto 3 dX8_put_53 (by decide) ?_
  refine Rn.iload_n dX8_put_3 rfl rfl ?_
  refine Rn.if_lt (tgt := 56) dX8_put_4 (by decide) (fun _ => ?_) (fun h9 => absurd h9 (by decide))
  exact Rn.vret dX8_put_56 rfl (⟨rfl, rfl, fun c hc => by simp [zup, zset, show c ≠ 1 by omega, show c ≠ 2 by omega]⟩)
theorem ct_put_8 (h : I 1 1 = nI 8) (x : Int32) : Ct G GAM mX8_put d 0 [.ref 1, .int x] I (fun o K => o = .inl none ∧ K 1 1 = nI 12 ∧ ∀ c, 3 ≤ c → K c = I c) := by
  refine Ct.mk [some (.ref 1), some (.int x), none] ?_
  refine Rn.bipush (v := (nI 24)) dX8_put_0 rfl ?_
  refine Rn.istore_n dX8_put_2 rfl (by decide) ?_
  refine Rn.iload_n dX8_put_3 rfl rfl ?_
  refine Rn.if_lt (tgt := 56) dX8_put_4 (by decide) (fun h9 => absurd h9 (by decide)) (fun _ => ?_)
  refine Rn.aload_n dX8_put_7 rfl rfl ?_
  refine Rn.getI dX8_put_8 fd_X8_15_7 (by first | rfl | exact gC0 (by assumption) | exact gL0 (by assumption)) rfl ?_
  refine Rn.topI (nI 8) h ?_
  refine Rn.if_lt (tgt := 50) dX8_put_11 (by decide) (fun h9 => absurd h9 (by decide)) (fun _ => ?_)
  refine Rn.aload_n dX8_put_14 rfl rfl ?_
  refine Rn.getI dX8_put_15 fd_X8_15_7 (by first | rfl | exact gC0 (by assumption) | exact gL0 (by assumption)) rfl ?_
  refine Rn.topI (nI 8) h ?_
  refine Rn.sipush (v := (nI 400)) dX8_put_18 rfl ?_
  refine Rn.icmp_ge (tgt := 50) dX8_put_21 (by decide) (fun h9 => absurd h9 (by decide)) (fun _ => ?_)
  refine Rn.aload_n dX8_put_24 rfl rfl ?_
  refine Rn.getR dX8_put_25 fd_X8_9_7 (by first | rfl | exact gC0 (by assumption) | exact gL0 (by assumption)) rfl ?_
  refine Rn.aload_n dX8_put_28 rfl rfl ?_
  refine Rn.getI dX8_put_29 fd_X8_15_7 (by first | rfl | exact gC0 (by assumption) | exact gL0 (by assumption)) rfl ?_
  refine Rn.topI (nI 8) h ?_
  refine Rn.iload_n dX8_put_32 rfl rfl ?_
  refine Rn.iload_n dX8_put_33 rfl rfl ?_
  refine Rn.iushr dX8_put_34 ?_
  refine Rn.sipush (v := (nI 255)) dX8_put_35 rfl ?_
  refine Rn.iand dX8_put_38 ?_
  refine Rn.iastN dX8_put_39 (by first | rfl | exact gC1 (by assumption) | exact gC2 (by assumption) | exact gC3 (by assumption) | exact gL1 (by assumption) | exact gL2 (by assumption) | exact gL3 (by assumption) | exact gL4 (by assumption) | exact gL5 (by assumption) | exact gL6 (by assumption)) ?_
  refine Rn.aload_n dX8_put_40 rfl rfl ?_
  refine Rn.dup dX8_put_41 rfl ?_
  refine Rn.getI dX8_put_42 fd_X8_15_7 (by first | rfl | exact gC0 (by assumption) | exact gL0 (by assumption)) rfl ?_
  refine Rn.topI (nI 8) h ?_
  refine Rn.iconst (v := (nI 1)) dX8_put_45 rfl ?_
  refine Rn.iadd dX8_put_46 ?_
  refine Rn.putI dX8_put_47 fp_X8_15_7 (by first | rfl | exact gC0 (by assumption) | exact gL0 (by assumption)) rfl ?_
  refine Rn.iinc dX8_put_50 rfl rfl (by decide) ?_
  refine Rn.goto 3 dX8_put_53 (by decide) ?_
  refine Rn.iload_n dX8_put_3 rfl rfl ?_
  refine Rn.if_lt (tgt := 56) dX8_put_4 (by decide) (fun h9 => absurd h9 (by decide)) (fun _ => ?_)
  refine Rn.aload_n dX8_put_7 rfl rfl ?_
  refine Rn.getI dX8_put_8 fd_X8_15_7 (by first | rfl | exact gC0 (by assumption) | exact gL0 (by assumption)) rfl ?_
  refine Rn.topI (nI 9) rfl ?_
  refine Rn.if_lt (tgt := 50) dX8_put_11 (by decide) (fun h9 => absurd h9 (by decide)) (fun _ => ?_)
  refine Rn.aload_n dX8_put_14 rfl rfl ?_
  refine Rn.getI dX8_put_15 fd_X8_15_7 (by first | rfl | exact gC0 (by assumption) | exact gL0 (by assumption)) rfl ?_
  refine Rn.topI (nI 9) rfl ?_
  refine Rn.sipush (v := (nI 400)) dX8_put_18 rfl ?_
  refine Rn.icmp_ge (tgt := 50) dX8_put_21 (by decide) (fun h9 => absurd h9 (by decide)) (fun _ => ?_)
  refine Rn.aload_n dX8_put_24 rfl rfl ?_
  refine Rn.getR dX8_put_25 fd_X8_9_7 (by first | rfl | exact gC0 (by assumption) | exact gL0 (by assumption)) rfl ?_
  refine Rn.aload_n dX8_put_28 rfl rfl ?_
  refine Rn.getI dX8_put_29 fd_X8_15_7 (by first | rfl | exact gC0 (by assumption) | exact gL0 (by assumption)) rfl ?_
  refine Rn.topI (nI 9) rfl ?_
  refine Rn.iload_n dX8_put_32 rfl rfl ?_
  refine Rn.iload_n dX8_put_33 rfl rfl ?_
  refine Rn.iushr dX8_put_34 ?_
  refine Rn.sipush (v := (nI 255)) dX8_put_35 rfl ?_
  refine Rn.iand dX8_put_38 ?_
  refine Rn.iastN dX8_put_39 (by first | rfl | exact gC1 (by assumption) | exact gC2 (by assumption) | exact gC3 (by assumption) | exact gL1 (by assumption) | exact gL2 (by assumption) | exact gL3 (by assumption) | exact gL4 (by assumption) | exact gL5 (by assumption) | exact gL6 (by assumption)) ?_
  refine Rn.aload_n dX8_put_40 rfl rfl ?_
  refine Rn.dup dX8_put_41 rfl ?_
  refine Rn.getI dX8_put_42 fd_X8_15_7 (by first | rfl | exact gC0 (by assumption) | exact gL0 (by assumption)) rfl ?_
  refine Rn.topI (nI 9) rfl ?_
  refine Rn.iconst (v := (nI 1)) dX8_put_45 rfl ?_
  refine Rn.iadd dX8_put_46 ?_
  refine Rn.putI dX8_put_47 fp_X8_15_7 (by first | rfl | exact gC0 (by assumption) | exact gL0 (by assumption)) rfl ?_
  refine Rn.iinc dX8_put_50 rfl rfl (by decide) ?_
  refine Rn.goto 3 dX8_put_53 (by decide) ?_
  refine Rn.iload_n dX8_put_3 rfl rfl ?_
  refine Rn.if_lt (tgt := 56) dX8_put_4 (by decide) (fun h9 => absurd h9 (by decide)) (fun _ => ?_)
  refine Rn.aload_n dX8_put_7 rfl rfl ?_
  refine Rn.getI dX8_put_8 fd_X8_15_7 (by first | rfl | exact gC0 (by assumption) | exact gL0 (by assumption)) rfl ?_
  refine Rn.topI (nI 10) rfl ?_
  refine Rn.if_lt (tgt := 50) dX8_put_11 (by decide) (fun h9 => absurd h9 (by decide)) (fun _ => ?_)
  refine Rn.aload_n dX8_put_14 rfl rfl ?_
  refine Rn.getI dX8_put_15 fd_X8_15_7 (by first | rfl | exact gC0 (by assumption) | exact gL0 (by assumption)) rfl ?_
  refine Rn.topI (nI 10) rfl ?_
  refine Rn.sipush (v := (nI 400)) dX8_put_18 rfl ?_
  refine Rn.icmp_ge (tgt := 50) dX8_put_21 (by decide) (fun h9 => absurd h9 (by decide)) (fun _ => ?_)
  refine Rn.aload_n dX8_put_24 rfl rfl ?_
  refine Rn.getR dX8_put_25 fd_X8_9_7 (by first | rfl | exact gC0 (by assumption) | exact gL0 (by assumption)) rfl ?_
  refine Rn.aload_n dX8_put_28 rfl rfl ?_
  refine Rn.getI dX8_put_29 fd_X8_15_7 (by first | rfl | exact gC0 (by assumption) | exact gL0 (by assumption)) rfl ?_
  refine Rn.topI (nI 10) rfl ?_
  refine Rn.iload_n dX8_put_32 rfl rfl ?_
  refine Rn.iload_n dX8_put_33 rfl rfl ?_
  refine Rn.iushr dX8_put_34 ?_
  refine Rn.sipush (v := (nI 255)) dX8_put_35 rfl ?_
  refine Rn.iand dX8_put_38 ?_
  refine Rn.iastN dX8_put_39 (by first | rfl | exact gC1 (by assumption) | exact gC2 (by assumption) | exact gC3 (by assumption) | exact gL1 (by assumption) | exact gL2 (by assumption) | exact gL3 (by assumption) | exact gL4 (by assumption) | exact gL5 (by assumption) | exact gL6 (by assumption)) ?_
  refine Rn.aload_n dX8_put_40 rfl rfl ?_
  refine Rn.dup dX8_put_41 rfl ?_
  refine Rn.getI dX8_put_42 fd_X8_15_7 (by first | rfl | exact gC0 (by assumption) | exact gL0 (by assumption)) rfl ?_
  refine Rn.topI (nI 10) rfl ?_
  refine Rn.iconst (v := (nI 1)) dX8_put_45 rfl ?_
  refine Rn.iadd dX8_put_46 ?_
  refine Rn.putI dX8_put_47 fp_X8_15_7 (by first | rfl | exact gC0 (by assumption) | exact gL0 (by assumption)) rfl ?_
  refine Rn.iinc dX8_put_50 rfl rfl (by decide) ?_
  refine Rn.goto 3 dX8_put_53 (by decide) ?_
  refine Rn.iload_n dX8_put_3 rfl rfl ?_
  refine Rn.if_lt (tgt := 56) dX8_put_4 (by decide) (fun h9 => absurd h9 (by decide)) (fun _ => ?_)
  refine Rn.aload_n dX8_put_7 rfl rfl ?_
  refine Rn.getI dX8_put_8 fd_X8_15_7 (by first | rfl | exact gC0 (by assumption) | exact gL0 (by assumption)) rfl ?_
  refine Rn.topI (nI 11) rfl ?_
  refine Rn.if_lt (tgt := 50) dX8_put_11 (by decide) (fun h9 => absurd h9 (by decide)) (fun _ => ?_)
  refine Rn.aload_n dX8_put_14 rfl rfl ?_
  refine Rn.getI dX8_put_15 fd_X8_15_7 (by first | rfl | exact gC0 (by assumption) | exact gL0 (by assumption)) rfl ?_
  refine Rn.topI (nI 11) rfl ?_
  refine Rn.sipush (v := (nI 400)) dX8_put_18 rfl ?_
  refine Rn.icmp_ge (tgt := 50) dX8_put_21 (by decide) (fun h9 => absurd h9 (by decide)) (fun _ => ?_)
  refine Rn.aload_n dX8_put_24 rfl rfl ?_
  refine Rn.getR dX8_put_25 fd_X8_9_7 (by first | rfl | exact gC0 (by assumption) | exact gL0 (by assumption)) rfl ?_
  refine Rn.aload_n dX8_put_28 rfl rfl ?_
  refine Rn.getI dX8_put_29 fd_X8_15_7 (by first | rfl | exact gC0 (by assumption) | exact gL0 (by assumption)) rfl ?_
  refine Rn.topI (nI 11) rfl ?_
  refine Rn.iload_n dX8_put_32 rfl rfl ?_
  refine Rn.iload_n dX8_put_33 rfl rfl ?_
  refine Rn.iushr dX8_put_34 ?_
  refine Rn.sipush (v := (nI 255)) dX8_put_35 rfl ?_
  refine Rn.iand dX8_put_38 ?_
  refine Rn.iastN dX8_put_39 (by first | rfl | exact gC1 (by assumption) | exact gC2 (by assumption) | exact gC3 (by assumption) | exact gL1 (by assumption) | exact gL2 (by assumption) | exact gL3 (by assumption) | exact gL4 (by assumption) | exact gL5 (by assumption) | exact gL6 (by assumption)) ?_
  refine Rn.aload_n dX8_put_40 rfl rfl ?_
  refine Rn.dup dX8_put_41 rfl ?_
  refine Rn.getI dX8_put_42 fd_X8_15_7 (by first | rfl | exact gC0 (by assumption) | exact gL0 (by assumption)) rfl ?_
  refine Rn.topI (nI 11) rfl ?_
  refine Rn.iconst (v := (nI 1)) dX8_put_45 rfl ?_
  refine Rn.iadd dX8_put_46 ?_
  refine Rn.putI dX8_put_47 fp_X8_15_7 (by first | rfl | exact gC0 (by assumption) | exact gL0 (by assumption)) rfl ?_
  refine Rn.iinc dX8_put_50 rfl rfl (by decide) ?_
  refine Rn.goto 3 dX8_put_53 (by decide) ?_
  refine Rn.iload_n dX8_put_3 rfl rfl ?_
  refine Rn.if_lt (tgt := 56) dX8_put_4 (by decide) (fun _ => ?_) (fun h9 => absurd h9 (by decide))
  exact Rn.vret dX8_put_56 rfl (⟨rfl, rfl, fun c hc => by simp [zup, zset, show c ≠ 1 by omega, show c ≠ 2 by omega]⟩)
theorem ct_put_12 (h : I 1 1 = nI 12) (x : Int32) : Ct G GAM mX8_put d 0 [.ref 1, .int x] I (fun o K => o = .inl none ∧ K 1 1 = nI 16 ∧ ∀ c, 3 ≤ c → K c = I c) := by
  refine Ct.mk [some (.ref 1), some (.int x), none] ?_
  refine Rn.bipush (v := (nI 24)) dX8_put_0 rfl ?_
  refine Rn.istore_n dX8_put_2 rfl (by decide) ?_
  refine Rn.iload_n dX8_put_3 rfl rfl ?_
  refine Rn.if_lt (tgt := 56) dX8_put_4 (by decide) (fun h9 => absurd h9 (by decide)) (fun _ => ?_)
  refine Rn.aload_n dX8_put_7 rfl rfl ?_
  refine Rn.getI dX8_put_8 fd_X8_15_7 (by first | rfl | exact gC0 (by assumption) | exact gL0 (by assumption)) rfl ?_
  refine Rn.topI (nI 12) h ?_
  refine Rn.if_lt (tgt := 50) dX8_put_11 (by decide) (fun h9 => absurd h9 (by decide)) (fun _ => ?_)
  refine Rn.aload_n dX8_put_14 rfl rfl ?_
  refine Rn.getI dX8_put_15 fd_X8_15_7 (by first | rfl | exact gC0 (by assumption) | exact gL0 (by assumption)) rfl ?_
  refine Rn.topI (nI 12) h ?_
  refine Rn.sipush (v := (nI 400)) dX8_put_18 rfl ?_
  refine Rn.icmp_ge (tgt := 50) dX8_put_21 (by decide) (fun h9 => absurd h9 (by decide)) (fun _ => ?_)
  refine Rn.aload_n dX8_put_24 rfl rfl ?_
  refine Rn.getR dX8_put_25 fd_X8_9_7 (by first | rfl | exact gC0 (by assumption) | exact gL0 (by assumption)) rfl ?_
  refine Rn.aload_n dX8_put_28 rfl rfl ?_
  refine Rn.getI dX8_put_29 fd_X8_15_7 (by first | rfl | exact gC0 (by assumption) | exact gL0 (by assumption)) rfl ?_
  refine Rn.topI (nI 12) h ?_
  refine Rn.iload_n dX8_put_32 rfl rfl ?_
  refine Rn.iload_n dX8_put_33 rfl rfl ?_
  refine Rn.iushr dX8_put_34 ?_
  refine Rn.sipush (v := (nI 255)) dX8_put_35 rfl ?_
  refine Rn.iand dX8_put_38 ?_
  refine Rn.iastN dX8_put_39 (by first | rfl | exact gC1 (by assumption) | exact gC2 (by assumption) | exact gC3 (by assumption) | exact gL1 (by assumption) | exact gL2 (by assumption) | exact gL3 (by assumption) | exact gL4 (by assumption) | exact gL5 (by assumption) | exact gL6 (by assumption)) ?_
  refine Rn.aload_n dX8_put_40 rfl rfl ?_
  refine Rn.dup dX8_put_41 rfl ?_
  refine Rn.getI dX8_put_42 fd_X8_15_7 (by first | rfl | exact gC0 (by assumption) | exact gL0 (by assumption)) rfl ?_
  refine Rn.topI (nI 12) h ?_
  refine Rn.iconst (v := (nI 1)) dX8_put_45 rfl ?_
  refine Rn.iadd dX8_put_46 ?_
  refine Rn.putI dX8_put_47 fp_X8_15_7 (by first | rfl | exact gC0 (by assumption) | exact gL0 (by assumption)) rfl ?_
  refine Rn.iinc dX8_put_50 rfl rfl (by decide) ?_
  refine Rn.goto 3 dX8_put_53 (by decide) ?_
  refine Rn.iload_n dX8_put_3 rfl rfl ?_
  refine Rn.if_lt (tgt := 56) dX8_put_4 (by decide) (fun h9 => absurd h9 (by decide)) (fun _ => ?_)
  refine Rn.aload_n dX8_put_7 rfl rfl ?_
  refine Rn.getI dX8_put_8 fd_X8_15_7 (by first | rfl | exact gC0 (by assumption) | exact gL0 (by assumption)) rfl ?_
  refine Rn.topI (nI 13) rfl ?_
  refine Rn.if_lt (tgt := 50) dX8_put_11 (by decide) (fun h9 => absurd h9 (by decide)) (fun _ => ?_)
  refine Rn.aload_n dX8_put_14 rfl rfl ?_
  refine Rn.getI dX8_put_15 fd_X8_15_7 (by first | rfl | exact gC0 (by assumption) | exact gL0 (by assumption)) rfl ?_
  refine Rn.topI (nI 13) rfl ?_
  refine Rn.sipush (v := (nI 400)) dX8_put_18 rfl ?_
  refine Rn.icmp_ge (tgt := 50) dX8_put_21 (by decide) (fun h9 => absurd h9 (by decide)) (fun _ => ?_)
  refine Rn.aload_n dX8_put_24 rfl rfl ?_
  refine Rn.getR dX8_put_25 fd_X8_9_7 (by first | rfl | exact gC0 (by assumption) | exact gL0 (by assumption)) rfl ?_
  refine Rn.aload_n dX8_put_28 rfl rfl ?_
  refine Rn.getI dX8_put_29 fd_X8_15_7 (by first | rfl | exact gC0 (by assumption) | exact gL0 (by assumption)) rfl ?_
  refine Rn.topI (nI 13) rfl ?_
  refine Rn.iload_n dX8_put_32 rfl rfl ?_
  refine Rn.iload_n dX8_put_33 rfl rfl ?_
  refine Rn.iushr dX8_put_34 ?_
  refine Rn.sipush (v := (nI 255)) dX8_put_35 rfl ?_
  refine Rn.iand dX8_put_38 ?_
  refine Rn.iastN dX8_put_39 (by first | rfl | exact gC1 (by assumption) | exact gC2 (by assumption) | exact gC3 (by assumption) | exact gL1 (by assumption) | exact gL2 (by assumption) | exact gL3 (by assumption) | exact gL4 (by assumption) | exact gL5 (by assumption) | exact gL6 (by assumption)) ?_
  refine Rn.aload_n dX8_put_40 rfl rfl ?_
  refine Rn.dup dX8_put_41 rfl ?_
  refine Rn.getI dX8_put_42 fd_X8_15_7 (by first | rfl | exact gC0 (by assumption) | exact gL0 (by assumption)) rfl ?_
  refine Rn.topI (nI 13) rfl ?_
  refine Rn.iconst (v := (nI 1)) dX8_put_45 rfl ?_
  refine Rn.iadd dX8_put_46 ?_
  refine Rn.putI dX8_put_47 fp_X8_15_7 (by first | rfl | exact gC0 (by assumption) | exact gL0 (by assumption)) rfl ?_
  refine Rn.iinc dX8_put_50 rfl rfl (by decide) ?_
  refine Rn.goto 3 dX8_put_53 (by decide) ?_
  refine Rn.iload_n dX8_put_3 rfl rfl ?_
  refine Rn.if_lt (tgt := 56) dX8_put_4 (by decide) (fun h9 => absurd h9 (by decide)) (fun _ => ?_)
  refine Rn.aload_n dX8_put_7 rfl rfl ?_
  refine Rn.getI dX8_put_8 fd_X8_15_7 (by first | rfl | exact gC0 (by assumption) | exact gL0 (by assumption)) rfl ?_
  refine Rn.topI (nI 14) rfl ?_
  refine Rn.if_lt (tgt := 50) dX8_put_11 (by decide) (fun h9 => absurd h9 (by decide)) (fun _ => ?_)
  refine Rn.aload_n dX8_put_14 rfl rfl ?_
  refine Rn.getI dX8_put_15 fd_X8_15_7 (by first | rfl | exact gC0 (by assumption) | exact gL0 (by assumption)) rfl ?_
  refine Rn.topI (nI 14) rfl ?_
  refine Rn.sipush (v := (nI 400)) dX8_put_18 rfl ?_
  refine Rn.icmp_ge (tgt := 50) dX8_put_21 (by decide) (fun h9 => absurd h9 (by decide)) (fun _ => ?_)
  refine Rn.aload_n dX8_put_24 rfl rfl ?_
  refine Rn.getR dX8_put_25 fd_X8_9_7 (by first | rfl | exact gC0 (by assumption) | exact gL0 (by assumption)) rfl ?_
  refine Rn.aload_n dX8_put_28 rfl rfl ?_
  refine Rn.getI dX8_put_29 fd_X8_15_7 (by first | rfl | exact gC0 (by assumption) | exact gL0 (by assumption)) rfl ?_
  refine Rn.topI (nI 14) rfl ?_
  refine Rn.iload_n dX8_put_32 rfl rfl ?_
  refine Rn.iload_n dX8_put_33 rfl rfl ?_
  refine Rn.iushr dX8_put_34 ?_
  refine Rn.sipush (v := (nI 255)) dX8_put_35 rfl ?_
  refine Rn.iand dX8_put_38 ?_
  refine Rn.iastN dX8_put_39 (by first | rfl | exact gC1 (by assumption) | exact gC2 (by assumption) | exact gC3 (by assumption) | exact gL1 (by assumption) | exact gL2 (by assumption) | exact gL3 (by assumption) | exact gL4 (by assumption) | exact gL5 (by assumption) | exact gL6 (by assumption)) ?_
  refine Rn.aload_n dX8_put_40 rfl rfl ?_
  refine Rn.dup dX8_put_41 rfl ?_
  refine Rn.getI dX8_put_42 fd_X8_15_7 (by first | rfl | exact gC0 (by assumption) | exact gL0 (by assumption)) rfl ?_
  refine Rn.topI (nI 14) rfl ?_
  refine Rn.iconst (v := (nI 1)) dX8_put_45 rfl ?_
  refine Rn.iadd dX8_put_46 ?_
  refine Rn.putI dX8_put_47 fp_X8_15_7 (by first | rfl | exact gC0 (by assumption) | exact gL0 (by assumption)) rfl ?_
  refine Rn.iinc dX8_put_50 rfl rfl (by decide) ?_
  refine Rn.goto 3 dX8_put_53 (by decide) ?_
  refine Rn.iload_n dX8_put_3 rfl rfl ?_
  refine Rn.if_lt (tgt := 56) dX8_put_4 (by decide) (fun h9 => absurd h9 (by decide)) (fun _ => ?_)
  refine Rn.aload_n dX8_put_7 rfl rfl ?_
  refine Rn.getI dX8_put_8 fd_X8_15_7 (by first | rfl | exact gC0 (by assumption) | exact gL0 (by assumption)) rfl ?_
  refine Rn.topI (nI 15) rfl ?_
  refine Rn.if_lt (tgt := 50) dX8_put_11 (by decide) (fun h9 => absurd h9 (by decide)) (fun _ => ?_)
  refine Rn.aload_n dX8_put_14 rfl rfl ?_
  refine Rn.getI dX8_put_15 fd_X8_15_7 (by first | rfl | exact gC0 (by assumption) | exact gL0 (by assumption)) rfl ?_
  refine Rn.topI (nI 15) rfl ?_
  refine Rn.sipush (v := (nI 400)) dX8_put_18 rfl ?_
  refine Rn.icmp_ge (tgt := 50) dX8_put_21 (by decide) (fun h9 => absurd h9 (by decide)) (fun _ => ?_)
  refine Rn.aload_n dX8_put_24 rfl rfl ?_
  refine Rn.getR dX8_put_25 fd_X8_9_7 (by first | rfl | exact gC0 (by assumption) | exact gL0 (by assumption)) rfl ?_
  refine Rn.aload_n dX8_put_28 rfl rfl ?_
  refine Rn.getI dX8_put_29 fd_X8_15_7 (by first | rfl | exact gC0 (by assumption) | exact gL0 (by assumption)) rfl ?_
  refine Rn.topI (nI 15) rfl ?_
  refine Rn.iload_n dX8_put_32 rfl rfl ?_
  refine Rn.iload_n dX8_put_33 rfl rfl ?_
  refine Rn.iushr dX8_put_34 ?_
  refine Rn.sipush (v := (nI 255)) dX8_put_35 rfl ?_
  refine Rn.iand dX8_put_38 ?_
  refine Rn.iastN dX8_put_39 (by first | rfl | exact gC1 (by assumption) | exact gC2 (by assumption) | exact gC3 (by assumption) | exact gL1 (by assumption) | exact gL2 (by assumption) | exact gL3 (by assumption) | exact gL4 (by assumption) | exact gL5 (by assumption) | exact gL6 (by assumption)) ?_
  refine Rn.aload_n dX8_put_40 rfl rfl ?_
  refine Rn.dup dX8_put_41 rfl ?_
  refine Rn.getI dX8_put_42 fd_X8_15_7 (by first | rfl | exact gC0 (by assumption) | exact gL0 (by assumption)) rfl ?_
  refine Rn.topI (nI 15) rfl ?_
  refine Rn.iconst (v := (nI 1)) dX8_put_45 rfl ?_
  refine Rn.iadd dX8_put_46 ?_
  refine Rn.putI dX8_put_47 fp_X8_15_7 (by first | rfl | exact gC0 (by assumption) | exact gL0 (by assumption)) rfl ?_
  refine Rn.iinc dX8_put_50 rfl rfl (by decide) ?_
  refine Rn.goto 3 dX8_put_53 (by decide) ?_
  refine Rn.iload_n dX8_put_3 rfl rfl ?_
  refine Rn.if_lt (tgt := 56) dX8_put_4 (by decide) (fun _ => ?_) (fun h9 => absurd h9 (by decide))
  exact Rn.vret dX8_put_56 rfl (⟨rfl, rfl, fun c hc => by simp [zup, zset, show c ≠ 1 by omega, show c ≠ 2 by omega]⟩)
theorem ct_put_16 (h : I 1 1 = nI 16) (x : Int32) : Ct G GAM mX8_put d 0 [.ref 1, .int x] I (fun o K => o = .inl none ∧ K 1 1 = nI 20 ∧ ∀ c, 3 ≤ c → K c = I c) := by
  refine Ct.mk [some (.ref 1), some (.int x), none] ?_
  refine Rn.bipush (v := (nI 24)) dX8_put_0 rfl ?_
  refine Rn.istore_n dX8_put_2 rfl (by decide) ?_
  refine Rn.iload_n dX8_put_3 rfl rfl ?_
  refine Rn.if_lt (tgt := 56) dX8_put_4 (by decide) (fun h9 => absurd h9 (by decide)) (fun _ => ?_)
  refine Rn.aload_n dX8_put_7 rfl rfl ?_
  refine Rn.getI dX8_put_8 fd_X8_15_7 (by first | rfl | exact gC0 (by assumption) | exact gL0 (by assumption)) rfl ?_
  refine Rn.topI (nI 16) h ?_
  refine Rn.if_lt (tgt := 50) dX8_put_11 (by decide) (fun h9 => absurd h9 (by decide)) (fun _ => ?_)
  refine Rn.aload_n dX8_put_14 rfl rfl ?_
  refine Rn.getI dX8_put_15 fd_X8_15_7 (by first | rfl | exact gC0 (by assumption) | exact gL0 (by assumption)) rfl ?_
  refine Rn.topI (nI 16) h ?_
  refine Rn.sipush (v := (nI 400)) dX8_put_18 rfl ?_
  refine Rn.icmp_ge (tgt := 50) dX8_put_21 (by decide) (fun h9 => absurd h9 (by decide)) (fun _ => ?_)
  refine Rn.aload_n dX8_put_24 rfl rfl ?_
  refine Rn.getR dX8_put_25 fd_X8_9_7 (by first | rfl | exact gC0 (by assumption) | exact gL0 (by assumption)) rfl ?_
  refine Rn.aload_n dX8_put_28 rfl rfl ?_
  refine Rn.getI dX8_put_29 fd_X8_15_7 (by first | rfl | exact gC0 (by assumption) | exact gL0 (by assumption)) rfl ?_
  refine Rn.topI (nI 16) h ?_
  refine Rn.iload_n dX8_put_32 rfl rfl ?_
  refine Rn.iload_n dX8_put_33 rfl rfl ?_
  refine Rn.iushr dX8_put_34 ?_
  refine Rn.sipush (v := (nI 255)) dX8_put_35 rfl ?_
  refine Rn.iand dX8_put_38 ?_
  refine Rn.iastN dX8_put_39 (by first | rfl | exact gC1 (by assumption) | exact gC2 (by assumption) | exact gC3 (by assumption) | exact gL1 (by assumption) | exact gL2 (by assumption) | exact gL3 (by assumption) | exact gL4 (by assumption) | exact gL5 (by assumption) | exact gL6 (by assumption)) ?_
  refine Rn.aload_n dX8_put_40 rfl rfl ?_
  refine Rn.dup dX8_put_41 rfl ?_
  refine Rn.getI dX8_put_42 fd_X8_15_7 (by first | rfl | exact gC0 (by assumption) | exact gL0 (by assumption)) rfl ?_
  refine Rn.topI (nI 16) h ?_
  refine Rn.iconst (v := (nI 1)) dX8_put_45 rfl ?_
  refine Rn.iadd dX8_put_46 ?_
  refine Rn.putI dX8_put_47 fp_X8_15_7 (by first | rfl | exact gC0 (by assumption) | exact gL0 (by assumption)) rfl ?_
  refine Rn.iinc dX8_put_50 rfl rfl (by decide) ?_
  refine Rn.goto 3 dX8_put_53 (by decide) ?_
  refine Rn.iload_n dX8_put_3 rfl rfl ?_
  refine Rn.if_lt (tgt := 56) dX8_put_4 (by decide) (fun h9 => absurd h9 (by decide)) (fun _ => ?_)
  refine Rn.aload_n dX8_put_7 rfl rfl ?_
  refine Rn.getI dX8_put_8 fd_X8_15_7 (by first | rfl | exact gC0 (by assumption) | exact gL0 (by assumption)) rfl ?_
  refine Rn.topI (nI 17) rfl ?_
  refine Rn.if_lt (tgt := 50) dX8_put_11 (by decide) (fun h9 => absurd h9 (by decide)) (fun _ => ?_)
  refine Rn.aload_n dX8_put_14 rfl rfl ?_
  refine Rn.getI dX8_put_15 fd_X8_15_7 (by first | rfl | exact gC0 (by assumption) | exact gL0 (by assumption)) rfl ?_
  refine Rn.topI (nI 17) rfl ?_
  refine Rn.sipush (v := (nI 400)) dX8_put_18 rfl ?_
  refine Rn.icmp_ge (tgt := 50) dX8_put_21 (by decide) (fun h9 => absurd h9 (by decide)) (fun _ => ?_)
  refine Rn.aload_n dX8_put_24 rfl rfl ?_
  refine Rn.getR dX8_put_25 fd_X8_9_7 (by first | rfl | exact gC0 (by assumption) | exact gL0 (by assumption)) rfl ?_
  refine Rn.aload_n dX8_put_28 rfl rfl ?_
  refine Rn.getI dX8_put_29 fd_X8_15_7 (by first | rfl | exact gC0 (by assumption) | exact gL0 (by assumption)) rfl ?_
  refine Rn.topI (nI 17) rfl ?_
  refine Rn.iload_n dX8_put_32 rfl rfl ?_
  refine Rn.iload_n dX8_put_33 rfl rfl ?_
  refine Rn.iushr dX8_put_34 ?_
  refine Rn.sipush (v := (nI 255)) dX8_put_35 rfl ?_
  refine Rn.iand dX8_put_38 ?_
  refine Rn.iastN dX8_put_39 (by first | rfl | exact gC1 (by assumption) | exact gC2 (by assumption) | exact gC3 (by assumption) | exact gL1 (by assumption) | exact gL2 (by assumption) | exact gL3 (by assumption) | exact gL4 (by assumption) | exact gL5 (by assumption) | exact gL6 (by assumption)) ?_
  refine Rn.aload_n dX8_put_40 rfl rfl ?_
  refine Rn.dup dX8_put_41 rfl ?_
  refine Rn.getI dX8_put_42 fd_X8_15_7 (by first | rfl | exact gC0 (by assumption) | exact gL0 (by assumption)) rfl ?_
  refine Rn.topI (nI 17) rfl ?_
  refine Rn.iconst (v := (nI 1)) dX8_put_45 rfl ?_
  refine Rn.iadd dX8_put_46 ?_
  refine Rn.putI dX8_put_47 fp_X8_15_7 (by first | rfl | exact gC0 (by assumption) | exact gL0 (by assumption)) rfl ?_
  refine Rn.iinc dX8_put_50 rfl rfl (by decide) ?_
  refine Rn.goto 3 dX8_put_53 (by decide) ?_
  refine Rn.iload_n dX8_put_3 rfl rfl ?_
  refine Rn.if_lt (tgt := 56) dX8_put_4 (by decide) (fun h9 => absurd h9 (by decide)) (fun _ => ?_)
  refine Rn.aload_n dX8_put_7 rfl rfl ?_
  refine Rn.getI dX8_put_8 fd_X8_15_7 (by first | rfl | exact gC0 (by assumption) | exact gL0 (by assumption)) rfl ?_
  refine Rn.topI (nI 18) rfl ?_
  refine Rn.if_lt (tgt := 50) dX8_put_11 (by decide) (fun h9 => absurd h9 (by decide)) (fun _ => ?_)
  refine Rn.aload_n dX8_put_14 rfl rfl ?_
  refine Rn.getI dX8_put_15 fd_X8_15_7 (by first | rfl | exact gC0 (by assumption) | exact gL0 (by assumption)) rfl ?_
  refine Rn.topI (nI 18) rfl ?_
  refine Rn.sipush (v := (nI 400)) dX8_put_18 rfl ?_
  refine Rn.icmp_ge (tgt := 50) dX8_put_21 (by decide) (fun h9 => absurd h9 (by decide)) (fun _ => ?_)
  refine Rn.aload_n dX8_put_24 rfl rfl ?_
  refine Rn.getR dX8_put_25 fd_X8_9_7 (by first | rfl | exact gC0 (by assumption) | exact gL0 (by assumption)) rfl ?_
  refine Rn.aload_n dX8_put_28 rfl rfl ?_
  refine Rn.getI dX8_put_29 fd_X8_15_7 (by first | rfl | exact gC0 (by assumption) | exact gL0 (by assumption)) rfl ?_
  refine Rn.topI (nI 18) rfl ?_
  refine Rn.iload_n dX8_put_32 rfl rfl ?_
  refine Rn.iload_n dX8_put_33 rfl rfl ?_
  refine Rn.iushr dX8_put_34 ?_
  refine Rn.sipush (v := (nI 255)) dX8_put_35 rfl ?_
  refine Rn.iand dX8_put_38 ?_
  refine Rn.iastN dX8_put_39 (by first | rfl | exact gC1 (by assumption) | exact gC2 (by assumption) | exact gC3 (by assumption) | exact gL1 (by assumption) | exact gL2 (by assumption) | exact gL3 (by assumption) | exact gL4 (by assumption) | exact gL5 (by assumption) | exact gL6 (by assumption)) ?_
  refine Rn.aload_n dX8_put_40 rfl rfl ?_
  refine Rn.dup dX8_put_41 rfl ?_
  refine Rn.getI dX8_put_42 fd_X8_15_7 (by first | rfl | exact gC0 (by assumption) | exact gL0 (by assumption)) rfl ?_
  refine Rn.topI (nI 18) rfl ?_
  refine Rn.iconst (v := (nI 1)) dX8_put_45 rfl ?_
  refine Rn.iadd dX8_put_46 ?_
  refine Rn.putI dX8_put_47 fp_X8_15_7 (by first | rfl | exact gC0 (by assumption) | exact gL0 (by assumption)) rfl ?_
  refine Rn.iinc dX8_put_50 rfl rfl (by decide) ?_
  refine Rn.goto 3 dX8_put_53 (by decide) ?_
  refine Rn.iload_n dX8_put_3 rfl rfl ?_
  refine Rn.if_lt (tgt := 56) dX8_put_4 (by decide) (fun h9 => absurd h9 (by decide)) (fun _ => ?_)
  refine Rn.aload_n dX8_put_7 rfl rfl ?_
  refine Rn.getI dX8_put_8 fd_X8_15_7 (by first | rfl | exact gC0 (by assumption) | exact gL0 (by assumption)) rfl ?_
  refine Rn.topI (nI 19) rfl ?_
  refine Rn.if_lt (tgt := 50) dX8_put_11 (by decide) (fun h9 => absurd h9 (by decide)) (fun _ => ?_)
  refine Rn.aload_n dX8_put_14 rfl rfl ?_
  refine Rn.getI dX8_put_15 fd_X8_15_7 (by first | rfl | exact gC0 (by assumption) | exact gL0 (by assumption)) rfl ?_
  refine Rn.topI (nI 19) rfl ?_
  refine Rn.sipush (v := (nI 400)) dX8_put_18 rfl ?_
  refine Rn.icmp_ge (tgt := 50) dX8_put_21 (by decide) (fun h9 => absurd h9 (by decide)) (fun _ => ?_)
  refine Rn.aload_n dX8_put_24 rfl rfl ?_
  refine Rn.getR dX8_put_25 fd_X8_9_7 (by first | rfl | exact gC0 (by assumption) | exact gL0 (by assumption)) rfl ?_
  refine Rn.aload_n dX8_put_28 rfl rfl ?_
  refine Rn.getI dX8_put_29 fd_X8_15_7 (by first | rfl | exact gC0 (by assumption) | exact gL0 (by assumption)) rfl ?_
  refine Rn.topI (nI 19) rfl ?_
  refine Rn.iload_n dX8_put_32 rfl rfl ?_
  refine Rn.iload_n dX8_put_33 rfl rfl ?_
  refine Rn.iushr dX8_put_34 ?_
  refine Rn.sipush (v := (nI 255)) dX8_put_35 rfl ?_
  refine Rn.iand dX8_put_38 ?_
  refine Rn.iastN dX8_put_39 (by first | rfl | exact gC1 (by assumption) | exact gC2 (by assumption) | exact gC3 (by assumption) | exact gL1 (by assumption) | exact gL2 (by assumption) | exact gL3 (by assumption) | exact gL4 (by assumption) | exact gL5 (by assumption) | exact gL6 (by assumption)) ?_
  refine Rn.aload_n dX8_put_40 rfl rfl ?_
  refine Rn.dup dX8_put_41 rfl ?_
  refine Rn.getI dX8_put_42 fd_X8_15_7 (by first | rfl | exact gC0 (by assumption) | exact gL0 (by assumption)) rfl ?_
  refine Rn.topI (nI 19) rfl ?_
  refine Rn.iconst (v := (nI 1)) dX8_put_45 rfl ?_
  refine Rn.iadd dX8_put_46 ?_
  refine Rn.putI dX8_put_47 fp_X8_15_7 (by first | rfl | exact gC0 (by assumption) | exact gL0 (by assumption)) rfl ?_
  refine Rn.iinc dX8_put_50 rfl rfl (by decide) ?_
  refine Rn.goto 3 dX8_put_53 (by decide) ?_
  refine Rn.iload_n dX8_put_3 rfl rfl ?_
  refine Rn.if_lt (tgt := 56) dX8_put_4 (by decide) (fun _ => ?_) (fun h9 => absurd h9 (by decide))
  exact Rn.vret dX8_put_56 rfl (⟨rfl, rfl, fun c hc => by simp [zup, zset, show c ≠ 1 by omega, show c ≠ 2 by omega]⟩)
theorem ct_X9_feed (F : FC I) (p0 p1 p2 p3 p4 : Int32) : Ct G GAM mX9_feed (d + 1) 0 [.ref 0, .int p0, .int p1, .int p2, .int p3, .int p4] I (fun o K => o = .inl (some (.int (nI 20))) ∧ ∀ c, 3 ≤ c → K c = I c) := by
  obtain ⟨h3_0, h3_1, h3_2, h3_3, h3_4, h3_5, h3_6, h3_7, h3_8, h0_11, h0_12, h1_1, h16_0, h44_1, h44_2⟩ := F
  refine Ct.mk [some (.ref 0), some (.int p0), some (.int p1), some (.int p2), some (.int p3), some (.int p4)] ?_
  refine Rn.aload_n dX9_feed_0 rfl rfl ?_
  refine Rn.getR dX9_feed_1 fd_X9_10_8 (by first | rfl | exact gC0 (by assumption) | exact gL0 (by assumption)) rfl ?_
  refine Rn.getI dX9_feed_4 fd_X9_84_7 (by first | rfl | exact gC0 (by assumption) | exact gL0 (by assumption)) rfl ?_
  refine Rn.topI (nI 0) h1_1 ?_
  refine Rn.bipush (v := (nI 20)) dX9_feed_7 rfl ?_
  refine Rn.iadd dX9_feed_9 ?_
  refine Rn.sipush (v := (nI 400)) dX9_feed_10 rfl ?_
  refine Rn.icmp_le (tgt := 18) dX9_feed_13 (by decide) (fun _ => ?_) (fun h9 => absurd h9 (by decide))
  refine Rn.aload_n dX9_feed_18 rfl rfl ?_
  refine Rn.getR dX9_feed_19 fd_X9_10_8 (by first | rfl | exact gC0 (by assumption) | exact gL0 (by assumption)) rfl ?_
  refine Rn.iload_n dX9_feed_22 rfl rfl ?_
  refine Rn.callV (As := [_]) dX9_feed_23 mv_X9_87 (by first | rfl | exact gC0 (by assumption) | exact gL0 (by assumption)) rfl rfl rfl (Nat.le_of_ble_eq_true rfl) (ct_put_0 G _ _ (by exact h1_1) _) (fun E J h => nomatch h.1) (fun v J1 q1 => ?_)
  obtain ⟨e1, a1, b1⟩ := q1
  cases e1
  refine Rn.aload_n dX9_feed_26 rfl rfl ?_
  refine Rn.getR dX9_feed_27 fd_X9_10_8 (by first | rfl | exact gC0 (by assumption) | exact gL0 (by assumption)) rfl ?_
  refine Rn.iload_n dX9_feed_30 rfl rfl ?_
  refine Rn.callV (As := [_]) dX9_feed_31 mv_X9_87 (by first | rfl | exact gC0 (by assumption) | exact gL0 (by assumption)) rfl rfl rfl (Nat.le_of_ble_eq_true rfl) (ct_put_4 G _ _ a1 _) (fun E J h => nomatch h.1) (fun v J2 q2 => ?_)
  obtain ⟨e1, a2, b2⟩ := q2
  cases e1
  refine Rn.aload_n dX9_feed_34 rfl rfl ?_
  refine Rn.getR dX9_feed_35 fd_X9_10_8 (by first | rfl | exact gC0 (by assumption) | exact gL0 (by assumption)) rfl ?_
  refine Rn.iload_n dX9_feed_38 rfl rfl ?_
  refine Rn.callV (As := [_]) dX9_feed_39 mv_X9_87 (by first | rfl | exact gC0 (by assumption) | exact gL0 (by assumption)) rfl rfl rfl (Nat.le_of_ble_eq_true rfl) (ct_put_8 G _ _ a2 _) (fun E J h => nomatch h.1) (fun v J3 q3 => ?_)
  obtain ⟨e1, a3, b3⟩ := q3
  cases e1
  refine Rn.aload_n dX9_feed_42 rfl rfl ?_
  refine Rn.getR dX9_feed_43 fd_X9_10_8 (by first | rfl | exact gC0 (by assumption) | exact gL0 (by assumption)) rfl ?_
  refine Rn.iload dX9_feed_46 rfl ?_
  refine Rn.callV (As := [_]) dX9_feed_48 mv_X9_87 (by first | rfl | exact gC0 (by assumption) | exact gL0 (by assumption)) rfl rfl rfl (Nat.le_of_ble_eq_true rfl) (ct_put_12 G _ _ a3 _) (fun E J h => nomatch h.1) (fun v J4 q4 => ?_)
  obtain ⟨e1, a4, b4⟩ := q4
  cases e1
  refine Rn.aload_n dX9_feed_51 rfl rfl ?_
  refine Rn.getR dX9_feed_52 fd_X9_10_8 (by first | rfl | exact gC0 (by assumption) | exact gL0 (by assumption)) rfl ?_
  refine Rn.iload dX9_feed_55 rfl ?_
  refine Rn.callV (As := [_]) dX9_feed_57 mv_X9_87 (by first | rfl | exact gC0 (by assumption) | exact gL0 (by assumption)) rfl rfl rfl (Nat.le_of_ble_eq_true rfl) (ct_put_16 G _ _ a4 _) (fun E J h => nomatch h.1) (fun v J5 q5 => ?_)
  obtain ⟨e1, a5, b5⟩ := q5
  cases e1
  refine Rn.aload_n dX9_feed_60 rfl rfl ?_
  refine Rn.getR dX9_feed_61 fd_X9_10_8 (by first | rfl | exact gC0 (by assumption) | exact gL0 (by assumption)) rfl ?_
  refine Rn.getI dX9_feed_64 fd_X9_84_7 (by first | rfl | exact gC0 (by assumption) | exact gL0 (by assumption)) rfl ?_
  refine Rn.topI (nI 20) a5 ?_
  exact Rn.iret dX9_feed_67 rfl (⟨rfl, fun c hc => by rw [b5 c hc, b4 c hc, b3 c hc, b2 c hc, b1 c hc]⟩)
end ClsC
