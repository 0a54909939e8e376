abbrev mX9_fault : Ym := (yX9_fault, cX9_fault, 1, some .int)
theorem dX9_fault_0 : decode cX9_fault 0 = .ok (.aload_n 0, 1) := by decide +kernel
theorem dX9_fault_1 : decode cX9_fault 1 = .ok (.getfield 80, 3) := by decide +kernel
theorem fd_X9_80_8 : zFd RX9 80 8 12 := ⟨RX9, TX9, 13, "BorrowedLuck", rfl, by decide, uw_X9, Or.inl rfl, Or.inl wi_373⟩
theorem dX9_fault_4 : decode cX9_fault 4 = .ok (.ireturn, 1) := by decide +kernel
abbrev mX9_unlucky : Ym := (yX9_unlucky, cX9_unlucky, 3, some .int)
theorem dX9_unlucky_0 : decode cX9_unlucky 0 = .ok (.iconst (-1), 1) := by decide +kernel
theorem dX9_unlucky_1 : decode cX9_unlucky 1 = .ok (.istore_n 1, 1) := by decide +kernel
theorem dX9_unlucky_2 : decode cX9_unlucky 2 = .ok (.iconst 0, 1) := by decide +kernel
theorem dX9_unlucky_3 : decode cX9_unlucky 3 = .ok (.istore_n 2, 1) := by decide +kernel
theorem dX9_unlucky_4 : decode cX9_unlucky 4 = .ok (.iload_n 2, 1) := by decide +kernel
theorem dX9_unlucky_5 : decode cX9_unlucky 5 = .ok (.aload_n 0, 1) := by decide +kernel
theorem dX9_unlucky_6 : decode cX9_unlucky 6 = .ok (.getfield 19, 3) := by decide +kernel
theorem dX9_unlucky_9 : decode cX9_unlucky 9 = .ok (.getfield 278, 3) := by decide +kernel
theorem dX9_unlucky_12 : decode cX9_unlucky 12 = .ok (.if_icmp .ge 35, 3) := by decide +kernel
theorem dX9_unlucky_47 : decode cX9_unlucky 47 = .ok (.iload_n 1, 1) := by decide +kernel
theorem dX9_unlucky_48 : decode cX9_unlucky 48 = .ok (.ireturn, 1) := by decide +kernel
abbrev mX9_oldest : Ym := (yX9_oldest, cX9_oldest, 3, some .int)
theorem dX9_oldest_0 : decode cX9_oldest 0 = .ok (.iconst (-1), 1) := by decide +kernel
theorem dX9_oldest_1 : decode cX9_oldest 1 = .ok (.istore_n 1, 1) := by decide +kernel
theorem dX9_oldest_2 : decode cX9_oldest 2 = .ok (.iconst 0, 1) := by decide +kernel
theorem dX9_oldest_3 : decode cX9_oldest 3 = .ok (.istore_n 2, 1) := by decide +kernel
theorem dX9_oldest_4 : decode cX9_oldest 4 = .ok (.iload_n 2, 1) := by decide +kernel
theorem dX9_oldest_5 : decode cX9_oldest 5 = .ok (.aload_n 0, 1) := by decide +kernel
theorem dX9_oldest_6 : decode cX9_oldest 6 = .ok (.getfield 19, 3) := by decide +kernel
theorem dX9_oldest_9 : decode cX9_oldest 9 = .ok (.getfield 230, 3) := by decide +kernel
theorem dX9_oldest_12 : decode cX9_oldest 12 = .ok (.if_icmp .ge 39, 3) := by decide +kernel
theorem dX9_oldest_51 : decode cX9_oldest 51 = .ok (.iload_n 1, 1) := by decide +kernel
theorem dX9_oldest_52 : decode cX9_oldest 52 = .ok (.ireturn, 1) := by decide +kernel
abbrev mX0_thingsWith : Ym := (yX0_thingsWith, cX0_thingsWith, 5, some .int)
theorem dX0_thingsWith_0 : decode cX0_thingsWith 0 = .ok (.iconst 0, 1) := by decide +kernel
theorem dX0_thingsWith_1 : decode cX0_thingsWith 1 = .ok (.istore_n 3, 1) := by decide +kernel
theorem dX0_thingsWith_2 : decode cX0_thingsWith 2 = .ok (.iconst 0, 1) := by decide +kernel
theorem dX0_thingsWith_3 : decode cX0_thingsWith 3 = .ok (.istore 4, 2) := by decide +kernel
theorem dX0_thingsWith_5 : decode cX0_thingsWith 5 = .ok (.iload 4, 2) := by decide +kernel
theorem dX0_thingsWith_7 : decode cX0_thingsWith 7 = .ok (.aload_n 0, 1) := by decide +kernel
theorem dX0_thingsWith_8 : decode cX0_thingsWith 8 = .ok (.getfield 34, 3) := by decide +kernel
theorem wi_178 : Cond.fieldLink RX0 34 "BorrowedLuck$Coast" "things" "I" ∈ WA := zin 178 (by decide +kernel) (by decide +kernel)
theorem fd_X0_34_0 : zFd RX0 34 0 1 := ⟨RX0, TX0, 12, "BorrowedLuck$Coast", rfl, by decide, uw_X0, Or.inl rfl, Or.inl wi_178⟩
theorem dX0_thingsWith_11 : decode cX0_thingsWith 11 = .ok (.if_icmp .ge 31, 3) := by decide +kernel
theorem dX0_thingsWith_42 : decode cX0_thingsWith 42 = .ok (.iload_n 3, 1) := by decide +kernel
theorem dX0_thingsWith_43 : decode cX0_thingsWith 43 = .ok (.ireturn, 1) := by decide +kernel
abbrev mX0_luckOfWomen : Ym := (yX0_luckOfWomen, cX0_luckOfWomen, 3, some .int)
theorem dX0_luckOfWomen_0 : decode cX0_luckOfWomen 0 = .ok (.iconst 0, 1) := by decide +kernel
theorem dX0_luckOfWomen_1 : decode cX0_luckOfWomen 1 = .ok (.istore_n 1, 1) := by decide +kernel
theorem dX0_luckOfWomen_2 : decode cX0_luckOfWomen 2 = .ok (.iconst 0, 1) := by decide +kernel
theorem dX0_luckOfWomen_3 : decode cX0_luckOfWomen 3 = .ok (.istore_n 2, 1) := by decide +kernel
theorem dX0_luckOfWomen_4 : decode cX0_luckOfWomen 4 = .ok (.iload_n 2, 1) := by decide +kernel
theorem dX0_luckOfWomen_5 : decode cX0_luckOfWomen 5 = .ok (.aload_n 0, 1) := by decide +kernel
theorem dX0_luckOfWomen_6 : decode cX0_luckOfWomen 6 = .ok (.getfield 31, 3) := by decide +kernel
theorem wi_174 : Cond.fieldLink RX0 31 "BorrowedLuck$Coast" "women" "I" ∈ WA := zin 174 (by decide +kernel) (by decide +kernel)
theorem fd_X0_31_0 : zFd RX0 31 0 0 := ⟨RX0, TX0, 12, "BorrowedLuck$Coast", rfl, by decide, uw_X0, Or.inl rfl, Or.inl wi_174⟩
theorem dX0_luckOfWomen_9 : decode cX0_luckOfWomen 9 = .ok (.if_icmp .ge 17, 3) := by decide +kernel
theorem dX0_luckOfWomen_26 : decode cX0_luckOfWomen 26 = .ok (.iload_n 1, 1) := by decide +kernel
theorem dX0_luckOfWomen_27 : decode cX0_luckOfWomen 27 = .ok (.ireturn, 1) := by decide +kernel
abbrev mX0_luckOfThings : Ym := (yX0_luckOfThings, cX0_luckOfThings, 3, some .int)
theorem dX0_luckOfThings_0 : decode cX0_luckOfThings 0 = .ok (.iconst 0, 1) := by decide +kernel
theorem dX0_luckOfThings_1 : decode cX0_luckOfThings 1 = .ok (.istore_n 1, 1) := by decide +kernel
theorem dX0_luckOfThings_2 : decode cX0_luckOfThings 2 = .ok (.iconst 0, 1) := by decide +kernel
theorem dX0_luckOfThings_3 : decode cX0_luckOfThings 3 = .ok (.istore_n 2, 1) := by decide +kernel
theorem dX0_luckOfThings_4 : decode cX0_luckOfThings 4 = .ok (.iload_n 2, 1) := by decide +kernel
theorem dX0_luckOfThings_5 : decode cX0_luckOfThings 5 = .ok (.aload_n 0, 1) := by decide +kernel
theorem dX0_luckOfThings_6 : decode cX0_luckOfThings 6 = .ok (.getfield 34, 3) := by decide +kernel
theorem dX0_luckOfThings_9 : decode cX0_luckOfThings 9 = .ok (.if_icmp .ge 17, 3) := by decide +kernel
theorem dX0_luckOfThings_26 : decode cX0_luckOfThings 26 = .ok (.iload_n 1, 1) := by decide +kernel
theorem dX0_luckOfThings_27 : decode cX0_luckOfThings 27 = .ok (.ireturn, 1) := by decide +kernel
abbrev mX0_womenWith : Ym := (yX0_womenWith, cX0_womenWith, 5, some .int)
theorem dX0_womenWith_0 : decode cX0_womenWith 0 = .ok (.iconst 0, 1) := by decide +kernel
theorem dX0_womenWith_1 : decode cX0_womenWith 1 = .ok (.istore_n 3, 1) := by decide +kernel
theorem dX0_womenWith_2 : decode cX0_womenWith 2 = .ok (.iconst 0, 1) := by decide +kernel
theorem dX0_womenWith_3 : decode cX0_womenWith 3 = .ok (.istore 4, 2) := by decide +kernel
theorem dX0_womenWith_5 : decode cX0_womenWith 5 = .ok (.iload 4, 2) := by decide +kernel
theorem dX0_womenWith_7 : decode cX0_womenWith 7 = .ok (.aload_n 0, 1) := by decide +kernel
theorem dX0_womenWith_8 : decode cX0_womenWith 8 = .ok (.getfield 31, 3) := by decide +kernel
theorem dX0_womenWith_11 : decode cX0_womenWith 11 = .ok (.if_icmp .ge 31, 3) := by decide +kernel
theorem dX0_womenWith_42 : decode cX0_womenWith 42 = .ok (.iload_n 3, 1) := by decide +kernel
theorem dX0_womenWith_43 : decode cX0_womenWith 43 = .ok (.ireturn, 1) := by decide +kernel
abbrev mX9_stuck : Ym := (yX9_stuck, cX9_stuck, 1, some .int)
theorem dX9_stuck_0 : decode cX9_stuck 0 = .ok (.aload_n 0, 1) := by decide +kernel
theorem dX9_stuck_1 : decode cX9_stuck 1 = .ok (.getfield 19, 3) := by decide +kernel
theorem dX9_stuck_4 : decode cX9_stuck 4 = .ok (.bipush 7, 2) := by decide +kernel
theorem dX9_stuck_6 : decode cX9_stuck 6 = .ok (.iconst 1, 1) := by decide +kernel
theorem dX9_stuck_7 : decode cX9_stuck 7 = .ok (.invokevirtual 144, 3) := by decide +kernel
theorem wi_458 : Cond.methodLink RX9 144 yX0_thingsWith ∈ WA := zin 458 (by decide +kernel) (by decide +kernel)
theorem wi_461 : Cond.code yX0_thingsWith cX0_thingsWith 5 (some .int) ∈ WA := zin 461 (by decide +kernel) (by decide +kernel)
theorem wi_459 : Cond.instanceMethod yX0_thingsWith ∈ WA := zin 459 (by decide +kernel) (by decide +kernel)
theorem wi_460 : Cond.selects RX0 yX0_thingsWith yX0_thingsWith ∈ WA := zin 460 (by decide +kernel) (by decide +kernel)
theorem mv_X9_144 : zMv RX9 144 RX0 mX0_thingsWith 2 := ⟨⟨wi_458, wi_102, wi_461, by decide, by decide +kernel⟩, wi_459, wi_460⟩
theorem dX9_stuck_10 : decode cX9_stuck 10 = .ok (.ireturn, 1) := by decide +kernel
abbrev mX9_pawned : Ym := (yX9_pawned, cX9_pawned, 1, some .int)
theorem dX9_pawned_0 : decode cX9_pawned 0 = .ok (.aload_n 0, 1) := by decide +kernel
theorem dX9_pawned_1 : decode cX9_pawned 1 = .ok (.getfield 19, 3) := by decide +kernel
theorem dX9_pawned_4 : decode cX9_pawned 4 = .ok (.iconst 5, 1) := by decide +kernel
theorem dX9_pawned_5 : decode cX9_pawned 5 = .ok (.iconst (-1), 1) := by decide +kernel
theorem dX9_pawned_6 : decode cX9_pawned 6 = .ok (.invokevirtual 144, 3) := by decide +kernel
theorem dX9_pawned_9 : decode cX9_pawned 9 = .ok (.ireturn, 1) := by decide +kernel
abbrev mX9_blue : Ym := (yX9_blue, cX9_blue, 1, some .int)
theorem dX9_blue_0 : decode cX9_blue 0 = .ok (.aload_n 0, 1) := by decide +kernel
theorem dX9_blue_1 : decode cX9_blue 1 = .ok (.getfield 19, 3) := by decide +kernel
theorem dX9_blue_4 : decode cX9_blue 4 = .ok (.bipush 8, 2) := by decide +kernel
theorem dX9_blue_6 : decode cX9_blue 6 = .ok (.iconst 1, 1) := by decide +kernel
theorem dX9_blue_7 : decode cX9_blue 7 = .ok (.invokevirtual 144, 3) := by decide +kernel
theorem dX9_blue_10 : decode cX9_blue 10 = .ok (.ireturn, 1) := by decide +kernel
abbrev mX9_alike : Ym := (yX9_alike, cX9_alike, 4, some .int)
theorem dX9_alike_0 : decode cX9_alike 0 = .ok (.iconst 0, 1) := by decide +kernel
theorem dX9_alike_1 : decode cX9_alike 1 = .ok (.istore_n 1, 1) := by decide +kernel
theorem dX9_alike_2 : decode cX9_alike 2 = .ok (.iconst 0, 1) := by decide +kernel
theorem dX9_alike_3 : decode cX9_alike 3 = .ok (.istore_n 2, 1) := by decide +kernel
theorem dX9_alike_4 : decode cX9_alike 4 = .ok (.iload_n 2, 1) := by decide +kernel
theorem dX9_alike_5 : decode cX9_alike 5 = .ok (.aload_n 0, 1) := by decide +kernel
theorem dX9_alike_6 : decode cX9_alike 6 = .ok (.getfield 19, 3) := by decide +kernel
theorem dX9_alike_9 : decode cX9_alike 9 = .ok (.getfield 230, 3) := by decide +kernel
theorem dX9_alike_12 : decode cX9_alike 12 = .ok (.if_icmp .ge 45, 3) := by decide +kernel
theorem dX9_alike_57 : decode cX9_alike 57 = .ok (.iload_n 1, 1) := by decide +kernel
theorem dX9_alike_58 : decode cX9_alike 58 = .ok (.ireturn, 1) := by decide +kernel
abbrev mX9_odds : Ym := (yX9_odds, cX9_odds, 5, some .int)
theorem dX9_odds_0 : decode cX9_odds 0 = .ok (.aload_n 0, 1) := by decide +kernel
theorem dX9_odds_1 : decode cX9_odds 1 = .ok (.getfield 19, 3) := by decide +kernel
theorem dX9_odds_4 : decode cX9_odds 4 = .ok (.getfield 278, 3) := by decide +kernel
theorem dX9_odds_7 : decode cX9_odds 7 = .ok (.aload_n 0, 1) := by decide +kernel
theorem dX9_odds_8 : decode cX9_odds 8 = .ok (.getfield 19, 3) := by decide +kernel
theorem dX9_odds_11 : decode cX9_odds 11 = .ok (.getfield 230, 3) := by decide +kernel
theorem dX9_odds_14 : decode cX9_odds 14 = .ok (.imul, 1) := by decide +kernel
theorem dX9_odds_15 : decode cX9_odds 15 = .ok (.istore_n 1, 1) := by decide +kernel
theorem dX9_odds_16 : decode cX9_odds 16 = .ok (.iconst 0, 1) := by decide +kernel
theorem dX9_odds_17 : decode cX9_odds 17 = .ok (.istore_n 2, 1) := by decide +kernel
theorem dX9_odds_18 : decode cX9_odds 18 = .ok (.iconst 0, 1) := by decide +kernel
theorem dX9_odds_19 : decode cX9_odds 19 = .ok (.istore_n 3, 1) := by decide +kernel
theorem dX9_odds_20 : decode cX9_odds 20 = .ok (.iload_n 3, 1) := by decide +kernel
theorem dX9_odds_21 : decode cX9_odds 21 = .ok (.aload_n 0, 1) := by decide +kernel
theorem dX9_odds_22 : decode cX9_odds 22 = .ok (.getfield 19, 3) := by decide +kernel
theorem dX9_odds_25 : decode cX9_odds 25 = .ok (.getfield 278, 3) := by decide +kernel
theorem dX9_odds_28 : decode cX9_odds 28 = .ok (.if_icmp .ge 46, 3) := by decide +kernel
theorem dX9_odds_74 : decode cX9_odds 74 = .ok (.iload_n 1, 1) := by decide +kernel
theorem dX9_odds_75 : decode cX9_odds 75 = .ok (.ifCond .gt 7, 3) := by decide +kernel
theorem dX9_odds_78 : decode cX9_odds 78 = .ok (.iconst 0, 1) := by decide +kernel
theorem dX9_odds_79 : decode cX9_odds 79 = .ok (.goto 10, 3) := by decide +kernel
theorem dX9_odds_89 : decode cX9_odds 89 = .ok (.ireturn, 1) := by decide +kernel
abbrev mX9_seed : Ym := (yX9_seed, cX9_seed, 3, some .int)
theorem dX9_seed_0 : decode cX9_seed 0 = .ok (.aload_n 0, 1) := by decide +kernel
theorem dX9_seed_1 : decode cX9_seed 1 = .ok (.getfield 19, 3) := by decide +kernel
theorem dX9_seed_4 : decode cX9_seed 4 = .ok (.getfield 327, 3) := by decide +kernel
theorem fd_X9_327_0 : zFd RX9 327 0 6 := ⟨RX0, TX0, 12, "BorrowedLuck$Coast", rfl, by decide, uw_X0, Or.inl rfl, Or.inr ⟨"BorrowedLuck", by decide +kernel⟩⟩
theorem dX9_seed_7 : decode cX9_seed 7 = .ok (.istore_n 2, 1) := by decide +kernel
theorem dX9_seed_8 : decode cX9_seed 8 = .ok (.aload_n 0, 1) := by decide +kernel
theorem dX9_seed_9 : decode cX9_seed 9 = .ok (.getfield 19, 3) := by decide +kernel
theorem dX9_seed_12 : decode cX9_seed 12 = .ok (.iload_n 1, 1) := by decide +kernel
theorem dX9_seed_13 : decode cX9_seed 13 = .ok (.putfield 327, 3) := by decide +kernel
theorem fp_X9_327_0 : zFp RX9 327 0 6 .int := ⟨RX0, TX0, 12, "BorrowedLuck$Coast", tyX0, rfl, by decide, uw_X0, Or.inl rfl, Or.inr ⟨"BorrowedLuck", by decide +kernel⟩, tyX0_ok, nmX0, rfl, by decide +kernel⟩
theorem dX9_seed_16 : decode cX9_seed 16 = .ok (.iload_n 2, 1) := by decide +kernel
theorem dX9_seed_17 : decode cX9_seed 17 = .ok (.ireturn, 1) := by decide +kernel
abbrev mX5_bringBack : Ym := (yX5_bringBack, cX5_bringBack, 3, some .boolean)
theorem dX5_bringBack_0 : decode cX5_bringBack 0 = .ok (.aload_n 0, 1) := by decide +kernel
theorem dX5_bringBack_1 : decode cX5_bringBack 1 = .ok (.getfield 18, 3) := by decide +kernel
theorem wi_353 : Cond.fieldLink RX5 18 "BorrowedLuck$Memory" "newest" "I" ∈ WA := zin 353 (by decide +kernel) (by decide +kernel)
theorem fd_X5_18_4 : zFd RX5 18 4 2 := ⟨RX5, TX5, 3, "BorrowedLuck$Memory", rfl, by decide, uw_X5, Or.inl rfl, Or.inl wi_353⟩
theorem dX5_bringBack_4 : decode cX5_bringBack 4 = .ok (.ifCond .lt 24, 3) := by decide +kernel
theorem dX5_bringBack_7 : decode cX5_bringBack 7 = .ok (.aload_n 0, 1) := by decide +kernel
theorem dX5_bringBack_8 : decode cX5_bringBack 8 = .ok (.getfield 18, 3) := by decide +kernel
theorem dX5_bringBack_11 : decode cX5_bringBack 11 = .ok (.bipush 12, 2) := by decide +kernel
theorem dX5_bringBack_13 : decode cX5_bringBack 13 = .ok (.if_icmp .ge 15, 3) := by decide +kernel
theorem dX5_bringBack_16 : decode cX5_bringBack 16 = .ok (.aload_n 0, 1) := by decide +kernel
theorem dX5_bringBack_17 : decode cX5_bringBack 17 = .ok (.getfield 11, 3) := by decide +kernel
theorem dX5_bringBack_20 : decode cX5_bringBack 20 = .ok (.aload_n 0, 1) := by decide +kernel
theorem dX5_bringBack_21 : decode cX5_bringBack 21 = .ok (.getfield 18, 3) := by decide +kernel
theorem dX5_bringBack_24 : decode cX5_bringBack 24 = .ok (.aaload, 1) := by decide +kernel
theorem dX5_bringBack_25 : decode cX5_bringBack 25 = .ok (.goto 4, 3) := by decide +kernel
theorem dX5_bringBack_29 : decode cX5_bringBack 29 = .ok (.astore_n 2, 1) := by decide +kernel
theorem dX5_bringBack_30 : decode cX5_bringBack 30 = .ok (.aload_n 0, 1) := by decide +kernel
theorem dX5_bringBack_31 : decode cX5_bringBack 31 = .ok (.getfield 26, 3) := by decide +kernel
theorem wi_351 : Cond.fieldLink RX5 26 "BorrowedLuck$Memory" "size" "I" ∈ WA := zin 351 (by decide +kernel) (by decide +kernel)
theorem fd_X5_26_4 : zFd RX5 26 4 1 := ⟨RX5, TX5, 3, "BorrowedLuck$Memory", rfl, by decide, uw_X5, Or.inl rfl, Or.inl wi_351⟩
theorem dX5_bringBack_34 : decode cX5_bringBack 34 = .ok (.ifCond .le 7, 3) := by decide +kernel
theorem dX5_bringBack_41 : decode cX5_bringBack 41 = .ok (.iconst 0, 1) := by decide +kernel
theorem dX5_bringBack_42 : decode cX5_bringBack 42 = .ok (.ireturn, 1) := by decide +kernel
abbrev mX9_undo : Ym := (yX9_undo, cX9_undo, 1, some .boolean)
theorem dX9_undo_0 : decode cX9_undo 0 = .ok (.aload_n 0, 1) := by decide +kernel
theorem dX9_undo_1 : decode cX9_undo 1 = .ok (.getfield 76, 3) := by decide +kernel
theorem fd_X9_76_8 : zFd RX9 76 8 10 := ⟨RX9, TX9, 13, "BorrowedLuck", rfl, by decide, uw_X9, Or.inl rfl, Or.inl wi_371⟩
theorem dX9_undo_4 : decode cX9_undo 4 = .ok (.aload_n 0, 1) := by decide +kernel
theorem dX9_undo_5 : decode cX9_undo 5 = .ok (.getfield 19, 3) := by decide +kernel
theorem dX9_undo_8 : decode cX9_undo 8 = .ok (.invokevirtual 338, 3) := by decide +kernel
theorem wi_498 : Cond.methodLink RX9 338 yX5_bringBack ∈ WA := zin 498 (by decide +kernel) (by decide +kernel)
theorem wi_501 : Cond.code yX5_bringBack cX5_bringBack 3 (some .boolean) ∈ WA := zin 501 (by decide +kernel) (by decide +kernel)
theorem wi_499 : Cond.instanceMethod yX5_bringBack ∈ WA := zin 499 (by decide +kernel) (by decide +kernel)
theorem wi_500 : Cond.selects RX5 yX5_bringBack yX5_bringBack ∈ WA := zin 500 (by decide +kernel) (by decide +kernel)
theorem mv_X9_338 : zMv RX9 338 RX5 mX5_bringBack 1 := ⟨⟨wi_498, wi_109, wi_501, by decide, by decide +kernel⟩, wi_499, wi_500⟩
theorem dX9_undo_11 : decode cX9_undo 11 = .ok (.ireturn, 1) := by decide +kernel
abbrev mX9_back : Ym := (yX9_back, cX9_back, 1, some .boolean)
theorem dX9_back_0 : decode cX9_back 0 = .ok (.aload_n 0, 1) := by decide +kernel
theorem dX9_back_1 : decode cX9_back 1 = .ok (.getfield 342, 3) := by decide +kernel
theorem wi_372 : Cond.fieldLink RX9 342 "BorrowedLuck" "kept" "Z" ∈ WA := zin 372 (by decide +kernel) (by decide +kernel)
theorem fd_X9_342_8 : zFd RX9 342 8 11 := ⟨RX9, TX9, 13, "BorrowedLuck", rfl, by decide, uw_X9, Or.inl rfl, Or.inl wi_372⟩
theorem dX9_back_4 : decode cX9_back 4 = .ok (.ifCond .ne 5, 3) := by decide +kernel
theorem dX9_back_7 : decode cX9_back 7 = .ok (.iconst 0, 1) := by decide +kernel
theorem dX9_back_8 : decode cX9_back 8 = .ok (.ireturn, 1) := by decide +kernel
abbrev mX0_copyFrom : Ym := (yX0_copyFrom, cX0_copyFrom, 2, none)
theorem dX0_copyFrom_0 : decode cX0_copyFrom 0 = .ok (.aload_n 0, 1) := by decide +kernel
theorem dX0_copyFrom_1 : decode cX0_copyFrom 1 = .ok (.aload_n 1, 1) := by decide +kernel
theorem dX0_copyFrom_2 : decode cX0_copyFrom 2 = .ok (.getfield 31, 3) := by decide +kernel
theorem dX0_copyFrom_5 : decode cX0_copyFrom 5 = .ok (.putfield 31, 3) := by decide +kernel
theorem fp_X0_31_0 : zFp RX0 31 0 0 .int := ⟨RX0, TX0, 12, "BorrowedLuck$Coast", tyX0, rfl, by decide, uw_X0, Or.inl rfl, Or.inl wi_174, tyX0_ok, nmX0, rfl, by decide +kernel⟩
theorem dX0_copyFrom_8 : decode cX0_copyFrom 8 = .ok (.aload_n 0, 1) := by decide +kernel
theorem dX0_copyFrom_9 : decode cX0_copyFrom 9 = .ok (.aload_n 1, 1) := by decide +kernel
theorem dX0_copyFrom_10 : decode cX0_copyFrom 10 = .ok (.getfield 34, 3) := by decide +kernel
theorem dX0_copyFrom_13 : decode cX0_copyFrom 13 = .ok (.putfield 34, 3) := by decide +kernel
theorem fp_X0_34_0 : zFp RX0 34 0 1 .int := ⟨RX0, TX0, 12, "BorrowedLuck$Coast", tyX0, rfl, by decide, uw_X0, Or.inl rfl, Or.inl wi_178, tyX0_ok, nmX0, rfl, by decide +kernel⟩
theorem dX0_copyFrom_16 : decode cX0_copyFrom 16 = .ok (.aload_n 0, 1) := by decide +kernel
theorem dX0_copyFrom_17 : decode cX0_copyFrom 17 = .ok (.aload_n 1, 1) := by decide +kernel
theorem dX0_copyFrom_18 : decode cX0_copyFrom 18 = .ok (.getfield 37, 3) := by decide +kernel
theorem wi_183 : Cond.fieldLink RX0 37 "BorrowedLuck$Coast" "texts" "I" ∈ WA := zin 183 (by decide +kernel) (by decide +kernel)
theorem fd_X0_37_0 : zFd RX0 37 0 2 := ⟨RX0, TX0, 12, "BorrowedLuck$Coast", rfl, by decide, uw_X0, Or.inl rfl, Or.inl wi_183⟩
theorem dX0_copyFrom_21 : decode cX0_copyFrom 21 = .ok (.putfield 37, 3) := by decide +kernel
theorem fp_X0_37_0 : zFp RX0 37 0 2 .int := ⟨RX0, TX0, 12, "BorrowedLuck$Coast", tyX0, rfl, by decide, uw_X0, Or.inl rfl, Or.inl wi_183, tyX0_ok, nmX0, rfl, by decide +kernel⟩
theorem dX0_copyFrom_24 : decode cX0_copyFrom 24 = .ok (.aload_n 0, 1) := by decide +kernel
theorem dX0_copyFrom_25 : decode cX0_copyFrom 25 = .ok (.aload_n 1, 1) := by decide +kernel
theorem dX0_copyFrom_26 : decode cX0_copyFrom 26 = .ok (.getfield 40, 3) := by decide +kernel
theorem wi_185 : Cond.fieldLink RX0 40 "BorrowedLuck$Coast" "today" "I" ∈ WA := zin 185 (by decide +kernel) (by decide +kernel)
theorem fd_X0_40_0 : zFd RX0 40 0 3 := ⟨RX0, TX0, 12, "BorrowedLuck$Coast", rfl, by decide, uw_X0, Or.inl rfl, Or.inl wi_185⟩
theorem dX0_copyFrom_29 : decode cX0_copyFrom 29 = .ok (.putfield 40, 3) := by decide +kernel
theorem fp_X0_40_0 : zFp RX0 40 0 3 .int := ⟨RX0, TX0, 12, "BorrowedLuck$Coast", tyX0, rfl, by decide, uw_X0, Or.inl rfl, Or.inl wi_185, tyX0_ok, nmX0, rfl, by decide +kernel⟩
theorem dX0_copyFrom_32 : decode cX0_copyFrom 32 = .ok (.aload_n 0, 1) := by decide +kernel
theorem dX0_copyFrom_33 : decode cX0_copyFrom 33 = .ok (.aload_n 1, 1) := by decide +kernel
theorem dX0_copyFrom_34 : decode cX0_copyFrom 34 = .ok (.getfield 9, 3) := by decide +kernel
theorem fd_X0_9_0 : zFd RX0 9 0 4 := ⟨RX0, TX0, 12, "BorrowedLuck$Coast", rfl, by decide, uw_X0, Or.inl rfl, Or.inl wi_189⟩
theorem dX0_copyFrom_37 : decode cX0_copyFrom 37 = .ok (.putfield 9, 3) := by decide +kernel
theorem dX0_copyFrom_40 : decode cX0_copyFrom 40 = .ok (.aload_n 0, 1) := by decide +kernel
theorem dX0_copyFrom_41 : decode cX0_copyFrom 41 = .ok (.aload_n 1, 1) := by decide +kernel
theorem dX0_copyFrom_42 : decode cX0_copyFrom 42 = .ok (.getfield 15, 3) := by decide +kernel
theorem fd_X0_15_0 : zFd RX0 15 0 5 := ⟨RX0, TX0, 12, "BorrowedLuck$Coast", rfl, by decide, uw_X0, Or.inl rfl, Or.inl wi_192⟩
theorem dX0_copyFrom_45 : decode cX0_copyFrom 45 = .ok (.putfield 15, 3) := by decide +kernel
theorem dX0_copyFrom_48 : decode cX0_copyFrom 48 = .ok (.aload_n 0, 1) := by decide +kernel
theorem dX0_copyFrom_49 : decode cX0_copyFrom 49 = .ok (.aload_n 1, 1) := by decide +kernel
theorem dX0_copyFrom_50 : decode cX0_copyFrom 50 = .ok (.getfield 18, 3) := by decide +kernel
theorem fd_X0_18_0 : zFd RX0 18 0 6 := ⟨RX0, TX0, 12, "BorrowedLuck$Coast", rfl, by decide, uw_X0, Or.inl rfl, Or.inl wi_196⟩
theorem dX0_copyFrom_53 : decode cX0_copyFrom 53 = .ok (.putfield 18, 3) := by decide +kernel
theorem dX0_copyFrom_56 : decode cX0_copyFrom 56 = .ok (.aload_n 0, 1) := by decide +kernel
theorem dX0_copyFrom_57 : decode cX0_copyFrom 57 = .ok (.aload_n 1, 1) := by decide +kernel
theorem dX0_copyFrom_58 : decode cX0_copyFrom 58 = .ok (.getfield 43, 3) := by decide +kernel
theorem wi_198 : Cond.fieldLink RX0 43 "BorrowedLuck$Coast" "rows" "I" ∈ WA := zin 198 (by decide +kernel) (by decide +kernel)
theorem fd_X0_43_0 : zFd RX0 43 0 7 := ⟨RX0, TX0, 12, "BorrowedLuck$Coast", rfl, by decide, uw_X0, Or.inl rfl, Or.inl wi_198⟩
theorem dX0_copyFrom_61 : decode cX0_copyFrom 61 = .ok (.putfield 43, 3) := by decide +kernel
theorem fp_X0_43_0 : zFp RX0 43 0 7 .int := ⟨RX0, TX0, 12, "BorrowedLuck$Coast", tyX0, rfl, by decide, uw_X0, Or.inl rfl, Or.inl wi_198, tyX0_ok, nmX0, rfl, by decide +kernel⟩
theorem dX0_copyFrom_64 : decode cX0_copyFrom 64 = .ok (.aload_n 0, 1) := by decide +kernel
theorem dX0_copyFrom_65 : decode cX0_copyFrom 65 = .ok (.aload_n 1, 1) := by decide +kernel
theorem dX0_copyFrom_66 : decode cX0_copyFrom 66 = .ok (.getfield 46, 3) := by decide +kernel
theorem wi_200 : Cond.fieldLink RX0 46 "BorrowedLuck$Coast" "newest" "I" ∈ WA := zin 200 (by decide +kernel) (by decide +kernel)
theorem fd_X0_46_0 : zFd RX0 46 0 8 := ⟨RX0, TX0, 12, "BorrowedLuck$Coast", rfl, by decide, uw_X0, Or.inl rfl, Or.inl wi_200⟩
theorem dX0_copyFrom_69 : decode cX0_copyFrom 69 = .ok (.putfield 46, 3) := by decide +kernel
theorem fp_X0_46_0 : zFp RX0 46 0 8 .int := ⟨RX0, TX0, 12, "BorrowedLuck$Coast", tyX0, rfl, by decide, uw_X0, Or.inl rfl, Or.inl wi_200, tyX0_ok, nmX0, rfl, by decide +kernel⟩
theorem dX0_copyFrom_72 : decode cX0_copyFrom 72 = .ok (.aload_n 1, 1) := by decide +kernel
theorem dX0_copyFrom_73 : decode cX0_copyFrom 73 = .ok (.getfield 21, 3) := by decide +kernel
theorem dX0_copyFrom_76 : decode cX0_copyFrom 76 = .ok (.iconst 0, 1) := by decide +kernel
theorem dX0_copyFrom_77 : decode cX0_copyFrom 77 = .ok (.aload_n 0, 1) := by decide +kernel
theorem dX0_copyFrom_78 : decode cX0_copyFrom 78 = .ok (.getfield 21, 3) := by decide +kernel
theorem dX0_copyFrom_81 : decode cX0_copyFrom 81 = .ok (.iconst 0, 1) := by decide +kernel
theorem dX0_copyFrom_82 : decode cX0_copyFrom 82 = .ok (.bipush 56, 2) := by decide +kernel
theorem dX0_copyFrom_84 : decode cX0_copyFrom 84 = .ok (.invokestatic 49, 3) := by decide +kernel
theorem wi_506 : Cond.methodLink RX0 49 arraycopyName ∈ WA := zin 506 (by decide +kernel) (by decide +kernel)
theorem wi_508 : Cond.native arraycopyName ∈ WA := zin 508 (by decide +kernel) (by decide +kernel)
theorem wi_507 : Cond.static arraycopyName ∈ WA := zin 507 (by decide +kernel) (by decide +kernel)
theorem wi_111 : Cond.initialized "java/lang/System" ∈ WA := zin 111 (by decide +kernel) (by decide +kernel)
theorem ac_X0_49 : zAc RX0 49 := ⟨wi_506, wi_508, wi_507, wi_111⟩
theorem dX0_copyFrom_87 : decode cX0_copyFrom 87 = .ok (.aload_n 1, 1) := by decide +kernel
theorem dX0_copyFrom_88 : decode cX0_copyFrom 88 = .ok (.getfield 25, 3) := by decide +kernel
theorem fd_X0_25_0 : zFd RX0 25 0 10 := ⟨RX0, TX0, 12, "BorrowedLuck$Coast", rfl, by decide, uw_X0, Or.inl rfl, Or.inl wi_202⟩
theorem dX0_copyFrom_91 : decode cX0_copyFrom 91 = .ok (.iconst 0, 1) := by decide +kernel
theorem dX0_copyFrom_92 : decode cX0_copyFrom 92 = .ok (.aload_n 0, 1) := by decide +kernel
theorem dX0_copyFrom_93 : decode cX0_copyFrom 93 = .ok (.getfield 25, 3) := by decide +kernel
theorem dX0_copyFrom_96 : decode cX0_copyFrom 96 = .ok (.iconst 0, 1) := by decide +kernel
theorem dX0_copyFrom_97 : decode cX0_copyFrom 97 = .ok (.bipush 72, 2) := by decide +kernel
theorem dX0_copyFrom_99 : decode cX0_copyFrom 99 = .ok (.invokestatic 49, 3) := by decide +kernel
theorem dX0_copyFrom_102 : decode cX0_copyFrom 102 = .ok (.aload_n 1, 1) := by decide +kernel
theorem dX0_copyFrom_103 : decode cX0_copyFrom 103 = .ok (.getfield 28, 3) := by decide +kernel
theorem fd_X0_28_0 : zFd RX0 28 0 11 := ⟨RX0, TX0, 12, "BorrowedLuck$Coast", rfl, by decide, uw_X0, Or.inl rfl, Or.inl wi_203⟩
theorem dX0_copyFrom_106 : decode cX0_copyFrom 106 = .ok (.iconst 0, 1) := by decide +kernel
theorem dX0_copyFrom_107 : decode cX0_copyFrom 107 = .ok (.aload_n 0, 1) := by decide +kernel
theorem dX0_copyFrom_108 : decode cX0_copyFrom 108 = .ok (.getfield 28, 3) := by decide +kernel
theorem dX0_copyFrom_111 : decode cX0_copyFrom 111 = .ok (.iconst 0, 1) := by decide +kernel
theorem dX0_copyFrom_112 : decode cX0_copyFrom 112 = .ok (.sipush 240, 3) := by decide +kernel
theorem dX0_copyFrom_115 : decode cX0_copyFrom 115 = .ok (.invokestatic 49, 3) := by decide +kernel
theorem dX0_copyFrom_118 : decode cX0_copyFrom 118 = .ok (.return_, 1) := by decide +kernel
abbrev mX2_copyFrom : Ym := (yX2_copyFrom, cX2_copyFrom, 2, none)
theorem dX2_copyFrom_0 : decode cX2_copyFrom 0 = .ok (.aload_n 0, 1) := by decide +kernel
theorem dX2_copyFrom_1 : decode cX2_copyFrom 1 = .ok (.aload_n 1, 1) := by decide +kernel
theorem dX2_copyFrom_2 : decode cX2_copyFrom 2 = .ok (.getfield 9, 3) := by decide +kernel
theorem fd_X2_9_2 : zFd RX2 9 2 0 := ⟨RX2, TX2, 8, "BorrowedLuck$Law", rfl, by decide, uw_X2, Or.inl rfl, Or.inl wi_241⟩
theorem dX2_copyFrom_5 : decode cX2_copyFrom 5 = .ok (.putfield 9, 3) := by decide +kernel
theorem dX2_copyFrom_8 : decode cX2_copyFrom 8 = .ok (.aload_n 0, 1) := by decide +kernel
theorem dX2_copyFrom_9 : decode cX2_copyFrom 9 = .ok (.aload_n 1, 1) := by decide +kernel
theorem dX2_copyFrom_10 : decode cX2_copyFrom 10 = .ok (.getfield 34, 3) := by decide +kernel
theorem wi_243 : Cond.fieldLink RX2 34 "BorrowedLuck$Law" "size" "I" ∈ WA := zin 243 (by decide +kernel) (by decide +kernel)
theorem fd_X2_34_2 : zFd RX2 34 2 1 := ⟨RX2, TX2, 8, "BorrowedLuck$Law", rfl, by decide, uw_X2, Or.inl rfl, Or.inl wi_243⟩
theorem dX2_copyFrom_13 : decode cX2_copyFrom 13 = .ok (.putfield 34, 3) := by decide +kernel
theorem fp_X2_34_2 : zFp RX2 34 2 1 .int := ⟨RX2, TX2, 8, "BorrowedLuck$Law", tyX2, rfl, by decide, uw_X2, Or.inl rfl, Or.inl wi_243, tyX2_ok, nmX2, rfl, by decide +kernel⟩
theorem dX2_copyFrom_16 : decode cX2_copyFrom 16 = .ok (.aload_n 1, 1) := by decide +kernel
theorem dX2_copyFrom_17 : decode cX2_copyFrom 17 = .ok (.getfield 15, 3) := by decide +kernel
theorem fd_X2_15_2 : zFd RX2 15 2 2 := ⟨RX2, TX2, 8, "BorrowedLuck$Law", rfl, by decide, uw_X2, Or.inl rfl, Or.inl wi_244⟩
theorem dX2_copyFrom_20 : decode cX2_copyFrom 20 = .ok (.iconst 0, 1) := by decide +kernel
theorem dX2_copyFrom_21 : decode cX2_copyFrom 21 = .ok (.aload_n 0, 1) := by decide +kernel
theorem dX2_copyFrom_22 : decode cX2_copyFrom 22 = .ok (.getfield 15, 3) := by decide +kernel
theorem dX2_copyFrom_25 : decode cX2_copyFrom 25 = .ok (.iconst 0, 1) := by decide +kernel
theorem dX2_copyFrom_26 : decode cX2_copyFrom 26 = .ok (.bipush 12, 2) := by decide +kernel
theorem dX2_copyFrom_28 : decode cX2_copyFrom 28 = .ok (.invokestatic 37, 3) := by decide +kernel
theorem wi_518 : Cond.methodLink RX2 37 arraycopyName ∈ WA := zin 518 (by decide +kernel) (by decide +kernel)
theorem ac_X2_37 : zAc RX2 37 := ⟨wi_518, wi_508, wi_507, wi_111⟩
theorem dX2_copyFrom_31 : decode cX2_copyFrom 31 = .ok (.aload_n 1, 1) := by decide +kernel
theorem dX2_copyFrom_32 : decode cX2_copyFrom 32 = .ok (.getfield 19, 3) := by decide +kernel
theorem fd_X2_19_2 : zFd RX2 19 2 3 := ⟨RX2, TX2, 8, "BorrowedLuck$Law", rfl, by decide, uw_X2, Or.inl rfl, Or.inl wi_245⟩
theorem dX2_copyFrom_35 : decode cX2_copyFrom 35 = .ok (.iconst 0, 1) := by decide +kernel
theorem dX2_copyFrom_36 : decode cX2_copyFrom 36 = .ok (.aload_n 0, 1) := by decide +kernel
theorem dX2_copyFrom_37 : decode cX2_copyFrom 37 = .ok (.getfield 19, 3) := by decide +kernel
theorem dX2_copyFrom_40 : decode cX2_copyFrom 40 = .ok (.iconst 0, 1) := by decide +kernel
theorem dX2_copyFrom_41 : decode cX2_copyFrom 41 = .ok (.bipush 12, 2) := by decide +kernel
theorem dX2_copyFrom_43 : decode cX2_copyFrom 43 = .ok (.invokestatic 37, 3) := by decide +kernel
theorem dX2_copyFrom_46 : decode cX2_copyFrom 46 = .ok (.aload_n 1, 1) := by decide +kernel
theorem dX2_copyFrom_47 : decode cX2_copyFrom 47 = .ok (.getfield 22, 3) := by decide +kernel
theorem fd_X2_22_2 : zFd RX2 22 2 4 := ⟨RX2, TX2, 8, "BorrowedLuck$Law", rfl, by decide, uw_X2, Or.inl rfl, Or.inl wi_246⟩
theorem dX2_copyFrom_50 : decode cX2_copyFrom 50 = .ok (.iconst 0, 1) := by decide +kernel
theorem dX2_copyFrom_51 : decode cX2_copyFrom 51 = .ok (.aload_n 0, 1) := by decide +kernel
theorem dX2_copyFrom_52 : decode cX2_copyFrom 52 = .ok (.getfield 22, 3) := by decide +kernel
theorem dX2_copyFrom_55 : decode cX2_copyFrom 55 = .ok (.iconst 0, 1) := by decide +kernel
theorem dX2_copyFrom_56 : decode cX2_copyFrom 56 = .ok (.bipush 12, 2) := by decide +kernel
theorem dX2_copyFrom_58 : decode cX2_copyFrom 58 = .ok (.invokestatic 37, 3) := by decide +kernel
theorem dX2_copyFrom_61 : decode cX2_copyFrom 61 = .ok (.aload_n 1, 1) := by decide +kernel
theorem dX2_copyFrom_62 : decode cX2_copyFrom 62 = .ok (.getfield 25, 3) := by decide +kernel
theorem fd_X2_25_2 : zFd RX2 25 2 5 := ⟨RX2, TX2, 8, "BorrowedLuck$Law", rfl, by decide, uw_X2, Or.inl rfl, Or.inl wi_247⟩
theorem dX2_copyFrom_65 : decode cX2_copyFrom 65 = .ok (.iconst 0, 1) := by decide +kernel
theorem dX2_copyFrom_66 : decode cX2_copyFrom 66 = .ok (.aload_n 0, 1) := by decide +kernel
theorem dX2_copyFrom_67 : decode cX2_copyFrom 67 = .ok (.getfield 25, 3) := by decide +kernel
theorem dX2_copyFrom_70 : decode cX2_copyFrom 70 = .ok (.iconst 0, 1) := by decide +kernel
theorem dX2_copyFrom_71 : decode cX2_copyFrom 71 = .ok (.sipush 400, 3) := by decide +kernel
theorem dX2_copyFrom_74 : decode cX2_copyFrom 74 = .ok (.invokestatic 37, 3) := by decide +kernel
theorem dX2_copyFrom_77 : decode cX2_copyFrom 77 = .ok (.return_, 1) := by decide +kernel
abbrev mX9_image : Ym := (yX9_image, cX9_image, 1, none)
theorem dX9_image_0 : decode cX9_image 0 = .ok (.aload_n 0, 1) := by decide +kernel
theorem dX9_image_1 : decode cX9_image 1 = .ok (.getfield 26, 3) := by decide +kernel
theorem fd_X9_26_8 : zFd RX9 26 8 3 := ⟨RX9, TX9, 13, "BorrowedLuck", rfl, by decide, uw_X9, Or.inl rfl, Or.inl wi_364⟩
theorem dX9_image_4 : decode cX9_image 4 = .ok (.aload_n 0, 1) := by decide +kernel
theorem dX9_image_5 : decode cX9_image 5 = .ok (.getfield 19, 3) := by decide +kernel
theorem dX9_image_8 : decode cX9_image 8 = .ok (.invokevirtual 91, 3) := by decide +kernel
theorem wi_513 : Cond.methodLink RX9 91 yX0_copyFrom ∈ WA := zin 513 (by decide +kernel) (by decide +kernel)
theorem wi_505 : Cond.code yX0_copyFrom cX0_copyFrom 2 (none) ∈ WA := zin 505 (by decide +kernel) (by decide +kernel)
theorem wi_503 : Cond.instanceMethod yX0_copyFrom ∈ WA := zin 503 (by decide +kernel) (by decide +kernel)
theorem wi_504 : Cond.selects RX0 yX0_copyFrom yX0_copyFrom ∈ WA := zin 504 (by decide +kernel) (by decide +kernel)
theorem mv_X9_91 : zMv RX9 91 RX0 mX0_copyFrom 1 := ⟨⟨wi_513, wi_102, wi_505, by decide, by decide +kernel⟩, wi_503, wi_504⟩
theorem dX9_image_11 : decode cX9_image 11 = .ok (.aload_n 0, 1) := by decide +kernel
theorem dX9_image_12 : decode cX9_image 12 = .ok (.getfield 43, 3) := by decide +kernel
theorem fd_X9_43_8 : zFd RX9 43 8 6 := ⟨RX9, TX9, 13, "BorrowedLuck", rfl, by decide, uw_X9, Or.inl rfl, Or.inl wi_367⟩
theorem dX9_image_15 : decode cX9_image 15 = .ok (.aload_n 0, 1) := by decide +kernel
theorem dX9_image_16 : decode cX9_image 16 = .ok (.getfield 32, 3) := by decide +kernel
theorem dX9_image_19 : decode cX9_image 19 = .ok (.getfield 125, 3) := by decide +kernel
theorem fd_X9_125_5 : zFd RX9 125 5 0 := ⟨RX6, TX6, 1, "BorrowedLuck$Rites", rfl, by decide, uw_X6, Or.inl rfl, Or.inr ⟨"BorrowedLuck", by decide +kernel⟩⟩
theorem dX9_image_22 : decode cX9_image 22 = .ok (.invokevirtual 128, 3) := by decide +kernel
theorem wi_514 : Cond.methodLink RX9 128 yX2_copyFrom ∈ WA := zin 514 (by decide +kernel) (by decide +kernel)
theorem wi_517 : Cond.code yX2_copyFrom cX2_copyFrom 2 (none) ∈ WA := zin 517 (by decide +kernel) (by decide +kernel)
theorem wi_515 : Cond.instanceMethod yX2_copyFrom ∈ WA := zin 515 (by decide +kernel) (by decide +kernel)
theorem wi_516 : Cond.selects RX2 yX2_copyFrom yX2_copyFrom ∈ WA := zin 516 (by decide +kernel) (by decide +kernel)
theorem mv_X9_128 : zMv RX9 128 RX2 mX2_copyFrom 1 := ⟨⟨wi_514, wi_104, wi_517, by decide, by decide +kernel⟩, wi_515, wi_516⟩
theorem dX9_image_25 : decode cX9_image 25 = .ok (.aload_n 0, 1) := by decide +kernel
theorem dX9_image_26 : decode cX9_image 26 = .ok (.iconst 1, 1) := by decide +kernel
theorem dX9_image_27 : decode cX9_image 27 = .ok (.putfield 342, 3) := by decide +kernel
theorem fp_X9_342_8 : zFp RX9 342 8 11 .boolean := ⟨RX9, TX9, 13, "BorrowedLuck", tyX9, rfl, by decide, uw_X9, Or.inl rfl, Or.inl wi_372, tyX9_ok, nmX9, rfl, by decide +kernel⟩
theorem dX9_image_30 : decode cX9_image 30 = .ok (.return_, 1) := by decide +kernel
abbrev mX0_soldFor : Ym := (yX0_soldFor, cX0_soldFor, 4, some .int)
theorem dX0_soldFor_0 : decode cX0_soldFor 0 = .ok (.iconst 0, 1) := by decide +kernel
theorem dX0_soldFor_1 : decode cX0_soldFor 1 = .ok (.istore_n 2, 1) := by decide +kernel
theorem dX0_soldFor_2 : decode cX0_soldFor 2 = .ok (.iconst 0, 1) := by decide +kernel
theorem dX0_soldFor_3 : decode cX0_soldFor 3 = .ok (.istore_n 3, 1) := by decide +kernel
theorem dX0_soldFor_4 : decode cX0_soldFor 4 = .ok (.iload_n 3, 1) := by decide +kernel
theorem dX0_soldFor_5 : decode cX0_soldFor 5 = .ok (.aload_n 0, 1) := by decide +kernel
theorem dX0_soldFor_6 : decode cX0_soldFor 6 = .ok (.getfield 34, 3) := by decide +kernel
theorem dX0_soldFor_9 : decode cX0_soldFor 9 = .ok (.if_icmp .ge 42, 3) := by decide +kernel
theorem dX0_soldFor_51 : decode cX0_soldFor 51 = .ok (.iload_n 2, 1) := by decide +kernel
theorem dX0_soldFor_52 : decode cX0_soldFor 52 = .ok (.ireturn, 1) := by decide +kernel
abbrev mX9_dearest : Ym := (yX9_dearest, cX9_dearest, 3, some .int)
theorem dX9_dearest_0 : decode cX9_dearest 0 = .ok (.iconst 0, 1) := by decide +kernel
theorem dX9_dearest_1 : decode cX9_dearest 1 = .ok (.istore_n 1, 1) := by decide +kernel
theorem dX9_dearest_2 : decode cX9_dearest 2 = .ok (.iconst 1, 1) := by decide +kernel
theorem dX9_dearest_3 : decode cX9_dearest 3 = .ok (.istore_n 2, 1) := by decide +kernel
theorem dX9_dearest_4 : decode cX9_dearest 4 = .ok (.iload_n 2, 1) := by decide +kernel
theorem dX9_dearest_5 : decode cX9_dearest 5 = .ok (.bipush 50, 2) := by decide +kernel
theorem dX9_dearest_7 : decode cX9_dearest 7 = .ok (.if_icmp .gt 30, 3) := by decide +kernel
theorem dX9_dearest_10 : decode cX9_dearest 10 = .ok (.aload_n 0, 1) := by decide +kernel
theorem dX9_dearest_11 : decode cX9_dearest 11 = .ok (.getfield 19, 3) := by decide +kernel
theorem dX9_dearest_14 : decode cX9_dearest 14 = .ok (.iload_n 2, 1) := by decide +kernel
theorem dX9_dearest_15 : decode cX9_dearest 15 = .ok (.invokevirtual 303, 3) := by decide +kernel
theorem wi_421 : Cond.methodLink RX9 303 yX0_soldFor ∈ WA := zin 421 (by decide +kernel) (by decide +kernel)
theorem wi_424 : Cond.code yX0_soldFor cX0_soldFor 4 (some .int) ∈ WA := zin 424 (by decide +kernel) (by decide +kernel)
theorem wi_422 : Cond.instanceMethod yX0_soldFor ∈ WA := zin 422 (by decide +kernel) (by decide +kernel)
theorem wi_423 : Cond.selects RX0 yX0_soldFor yX0_soldFor ∈ WA := zin 423 (by decide +kernel) (by decide +kernel)
theorem mv_X9_303 : zMv RX9 303 RX0 mX0_soldFor 1 := ⟨⟨wi_421, wi_102, wi_424, by decide, by decide +kernel⟩, wi_422, wi_423⟩
theorem dX9_dearest_18 : decode cX9_dearest 18 = .ok (.aload_n 0, 1) := by decide +kernel
theorem dX9_dearest_19 : decode cX9_dearest 19 = .ok (.getfield 19, 3) := by decide +kernel
theorem dX9_dearest_22 : decode cX9_dearest 22 = .ok (.iload_n 1, 1) := by decide +kernel
theorem dX9_dearest_23 : decode cX9_dearest 23 = .ok (.invokevirtual 303, 3) := by decide +kernel
theorem dX9_dearest_26 : decode cX9_dearest 26 = .ok (.if_icmp .le 5, 3) := by decide +kernel
theorem dX9_dearest_31 : decode cX9_dearest 31 = .ok (.iinc 2 1, 3) := by decide +kernel
theorem dX9_dearest_34 : decode cX9_dearest 34 = .ok (.goto (-30), 3) := by decide +kernel
theorem dX9_dearest_37 : decode cX9_dearest 37 = .ok (.iload_n 1, 1) := by decide +kernel
theorem dX9_dearest_38 : decode cX9_dearest 38 = .ok (.ireturn, 1) := by decide +kernel
abbrev mX9_end : Ym := (yX9_end, cX9_end, 2, some .boolean)
theorem dX9_end_0 : decode cX9_end 0 = .ok (.iload_n 1, 1) := by decide +kernel
theorem dX9_end_1 : decode cX9_end 1 = .ok (.ifCond .lt 14, 3) := by decide +kernel
theorem dX9_end_15 : decode cX9_end 15 = .ok (.iconst 0, 1) := by decide +kernel
theorem dX9_end_16 : decode cX9_end 16 = .ok (.ireturn, 1) := by decide +kernel
theorem dX9_end_4 : decode cX9_end 4 = .ok (.iload_n 1, 1) := by decide +kernel
theorem dX9_end_5 : decode cX9_end 5 = .ok (.aload_n 0, 1) := by decide +kernel
theorem dX9_end_6 : decode cX9_end 6 = .ok (.getfield 10, 3) := by decide +kernel
theorem dX9_end_9 : decode cX9_end 9 = .ok (.getfield 84, 3) := by decide +kernel
theorem fd_X9_84_7 : zFd RX9 84 7 1 := ⟨RX8, TX8, 7, "BorrowedLuck$Tape", rfl, by decide, uw_X8, Or.inl rfl, Or.inr ⟨"BorrowedLuck", by decide +kernel⟩⟩
theorem dX9_end_12 : decode cX9_end 12 = .ok (.if_icmp .le 5, 3) := by decide +kernel
theorem dX9_end_17 : decode cX9_end 17 = .ok (.aload_n 0, 1) := by decide +kernel
theorem dX9_end_18 : decode cX9_end 18 = .ok (.getfield 10, 3) := by decide +kernel
theorem dX9_end_21 : decode cX9_end 21 = .ok (.iload_n 1, 1) := by decide +kernel
theorem dX9_end_22 : decode cX9_end 22 = .ok (.putfield 84, 3) := by decide +kernel
theorem fp_X9_84_7 : zFp RX9 84 7 1 .int := ⟨RX8, TX8, 7, "BorrowedLuck$Tape", tyX8, rfl, by decide, uw_X8, Or.inl rfl, Or.inr ⟨"BorrowedLuck", by decide +kernel⟩, tyX8_ok, nmX8, rfl, by decide +kernel⟩
theorem dX9_end_25 : decode cX9_end 25 = .ok (.iconst 1, 1) := by decide +kernel
theorem dX9_end_26 : decode cX9_end 26 = .ok (.ireturn, 1) := by decide +kernel
def FC (I : Hi) : Prop := I 3 0 = nI 0 ∧ I 3 1 = nI 0 ∧ I 3 2 = nI 0 ∧ I 3 3 = nI 0 ∧ I 3 4 = nI 5 ∧ I 3 5 = nI 20 ∧ I 3 6 = nI 1 ∧ I 3 7 = nI 0 ∧ I 3 8 = nI 0 ∧ I 0 11 = nI 0 ∧ I 0 12 = -1 ∧ I 1 1 = nI 0 ∧ I 16 0 = -1 ∧ I 44 1 = nI 0 ∧ I 44 2 = nI 0
theorem FC_0 : FC I0 := ⟨by decide +kernel, by decide +kernel, by decide +kernel, by decide +kernel, by decide +kernel, by decide +kernel, by decide +kernel, by decide +kernel, by decide +kernel, by decide +kernel, by decide +kernel, by decide +kernel, by decide +kernel, by decide +kernel, by decide +kernel⟩
def FM (J : Hi) : Prop := ∀ c, 94 ≤ c → c < 107 → J c = I0 c
def RK (v : Option Value) : Rs → Hi → Prop := fun o K => o = .inl v ∧ FM K
def cpC (I : Hi) (s t : Nat) : Hi := zset (zset (zset (zup (zup (zup (zup (zup (zup (zup (zup (zup I t 0 (I s 0)) t 1 (I s 1)) t 2 (I s 2)) t 3 (I s 3)) t 4 (I s 4)) t 5 (I s 5)) t 6 (I s 6)) t 7 (I s 7)) t 8 (I s 8)) (t + 1) (va_cpy (I (s + 1)) (I (t + 1)) 0 0 56)) (t + 2) (va_cpy (I (s + 2)) (I (t + 2)) 0 0 72)) (t + 3) (va_cpy (I (s + 3)) (I (t + 3)) 0 0 240)
theorem cpC_ne (I : Hi) {s t c : Nat} (h : t + 3 < c) : cpC I s t c = I c := by
  unfold cpC
  rw [zset_ne _ _ (by omega), zset_ne _ _ (by omega), zset_ne _ _ (by omega), zup_ne _ _ (by omega), zup_ne _ _ (by omega), zup_ne _ _ (by omega), zup_ne _ _ (by omega), zup_ne _ _ (by omega), zup_ne _ _ (by omega), zup_ne _ _ (by omega), zup_ne _ _ (by omega), zup_ne _ _ (by omega)]
def cpL (I : Hi) (s t : Nat) : Hi := zset (zset (zset (zset (zup (zup I t 0 (I s 0)) t 1 (I s 1)) (t + 1) (va_cpy (I (s + 1)) (I (t + 1)) 0 0 12)) (t + 2) (va_cpy (I (s + 2)) (I (t + 2)) 0 0 12)) (t + 3) (va_cpy (I (s + 3)) (I (t + 3)) 0 0 12)) (t + 4) (va_cpy (I (s + 4)) (I (t + 4)) 0 0 400)
theorem cpL_ne (I : Hi) {s t c : Nat} (h : t + 4 < c) : cpL I s t c = I c := by
  unfold cpL
  rw [zset_ne _ _ (by omega), zset_ne _ _ (by omega), zset_ne _ _ (by omega), zset_ne _ _ (by omega), zup_ne _ _ (by omega), zup_ne _ _ (by omega)]
section ClsA
variable (G : Gx) (d : Nat) (I : Hi)
theorem ct_X9_fault (F : FC I) : Ct G GAM mX9_fault d 0 [.ref 0] I (Rp (some (.int (-1))) I) := by
  obtain ⟨h3_0, h3_1, h3_2, h3_3, h3_4, h3_5, h3_6, h3_7, h3_8, h0_11, h0_12, h1_1, h16_0, h44_1, h44_2⟩ := F
  refine Ct.mk [some (.ref 0)] ?_
  refine Rn.aload_n dX9_fault_0 rfl rfl ?_
  refine Rn.getI dX9_fault_1 fd_X9_80_8 (by first | rfl | exact gC0 (by assumption) | exact gL0 (by assumption)) rfl ?_
  refine Rn.topI (-1) h0_12 ?_
  exact Rn.iret dX9_fault_4 rfl (⟨rfl, rfl⟩)
theorem ct_X9_unlucky (F : FC I) : Ct G GAM mX9_unlucky d 0 [.ref 0] I (Rp (some (.int (-1))) I) := by
  obtain ⟨h3_0, h3_1, h3_2, h3_3, h3_4, h3_5, h3_6, h3_7, h3_8, h0_11, h0_12, h1_1, h16_0, h44_1, h44_2⟩ := F
  refine Ct.mk [some (.ref 0), none, none] ?_
  refine Rn.iconst (v := (-1)) dX9_unlucky_0 rfl ?_
  refine Rn.istore_n dX9_unlucky_1 rfl (by decide) ?_
  refine Rn.iconst (v := (nI 0)) dX9_unlucky_2 rfl ?_
  refine Rn.istore_n dX9_unlucky_3 rfl (by decide) ?_
  refine Rn.iload_n dX9_unlucky_4 rfl rfl ?_
  refine Rn.aload_n dX9_unlucky_5 rfl rfl ?_
  refine Rn.getR dX9_unlucky_6 fd_X9_19_8 (by first | rfl | exact gC0 (by assumption) | exact gL0 (by assumption)) rfl ?_
  refine Rn.getI dX9_unlucky_9 fd_X9_278_0 (by first | rfl | exact gC0 (by assumption) | exact gL0 (by assumption)) rfl ?_
  refine Rn.topI (nI 0) h3_0 ?_
  refine Rn.icmp_ge (tgt := 47) dX9_unlucky_12 (by decide) (fun _ => ?_) (fun h9 => absurd h9 (by decide))
  refine Rn.iload_n dX9_unlucky_47 rfl rfl ?_
  exact Rn.iret dX9_unlucky_48 rfl (⟨rfl, rfl⟩)
theorem ct_X9_oldest (F : FC I) : Ct G GAM mX9_oldest d 0 [.ref 0] I (Rp (some (.int (-1))) I) := by
  obtain ⟨h3_0, h3_1, h3_2, h3_3, h3_4, h3_5, h3_6, h3_7, h3_8, h0_11, h0_12, h1_1, h16_0, h44_1, h44_2⟩ := F
  refine Ct.mk [some (.ref 0), none, none] ?_
  refine Rn.iconst (v := (-1)) dX9_oldest_0 rfl ?_
  refine Rn.istore_n dX9_oldest_1 rfl (by decide) ?_
  refine Rn.iconst (v := (nI 0)) dX9_oldest_2 rfl ?_
  refine Rn.istore_n dX9_oldest_3 rfl (by decide) ?_
  refine Rn.iload_n dX9_oldest_4 rfl rfl ?_
  refine Rn.aload_n dX9_oldest_5 rfl rfl ?_
  refine Rn.getR dX9_oldest_6 fd_X9_19_8 (by first | rfl | exact gC0 (by assumption) | exact gL0 (by assumption)) rfl ?_
  refine Rn.getI dX9_oldest_9 fd_X9_230_0 (by first | rfl | exact gC0 (by assumption) | exact gL0 (by assumption)) rfl ?_
  refine Rn.topI (nI 0) h3_1 ?_
  refine Rn.icmp_ge (tgt := 51) dX9_oldest_12 (by decide) (fun _ => ?_) (fun h9 => absurd h9 (by decide))
  refine Rn.iload_n dX9_oldest_51 rfl rfl ?_
  exact Rn.iret dX9_oldest_52 rfl (⟨rfl, rfl⟩)
theorem ct_thingsWith_3 (h1 : I 3 1 = nI 0) (x y : Int32) : Ct G GAM mX0_thingsWith d 0 [.ref 3, .int x, .int y] I (Rp (some (.int (nI 0))) I) := by
  refine Ct.mk [some (.ref 3), some (.int x), some (.int y), none, none] ?_
  refine Rn.iconst (v := (nI 0)) dX0_thingsWith_0 rfl ?_
  refine Rn.istore_n dX0_thingsWith_1 rfl (by decide) ?_
  refine Rn.iconst (v := (nI 0)) dX0_thingsWith_2 rfl ?_
  refine Rn.istore dX0_thingsWith_3 (by decide) ?_
  refine Rn.iload dX0_thingsWith_5 rfl ?_
  refine Rn.aload_n dX0_thingsWith_7 rfl rfl ?_
  refine Rn.getI dX0_thingsWith_8 fd_X0_34_0 (by first | rfl | exact gC0 (by assumption) | exact gL0 (by assumption)) rfl ?_
  refine Rn.topI (nI 0) h1 ?_
  refine Rn.icmp_ge (tgt := 42) dX0_thingsWith_11 (by decide) (fun _ => ?_) (fun h9 => absurd h9 (by decide))
  refine Rn.iload_n dX0_thingsWith_42 rfl rfl ?_
  exact Rn.iret dX0_thingsWith_43 rfl (⟨rfl, rfl⟩)
theorem ct_luckOfWomen_3 (h0 : I 3 0 = nI 0) : Ct G GAM mX0_luckOfWomen d 0 [.ref 3] I (Rp (some (.int (nI 0))) I) := by
  refine Ct.mk [some (.ref 3), none, none] ?_
  refine Rn.iconst (v := (nI 0)) dX0_luckOfWomen_0 rfl ?_
  refine Rn.istore_n dX0_luckOfWomen_1 rfl (by decide) ?_
  refine Rn.iconst (v := (nI 0)) dX0_luckOfWomen_2 rfl ?_
  refine Rn.istore_n dX0_luckOfWomen_3 rfl (by decide) ?_
  refine Rn.iload_n dX0_luckOfWomen_4 rfl rfl ?_
  refine Rn.aload_n dX0_luckOfWomen_5 rfl rfl ?_
  refine Rn.getI dX0_luckOfWomen_6 fd_X0_31_0 (by first | rfl | exact gC0 (by assumption) | exact gL0 (by assumption)) rfl ?_
  refine Rn.topI (nI 0) h0 ?_
  refine Rn.icmp_ge (tgt := 26) dX0_luckOfWomen_9 (by decide) (fun _ => ?_) (fun h9 => absurd h9 (by decide))
  refine Rn.iload_n dX0_luckOfWomen_26 rfl rfl ?_
  exact Rn.iret dX0_luckOfWomen_27 rfl (⟨rfl, rfl⟩)
theorem ct_thingsWith_7 (h1 : I 7 1 = nI 0) (x y : Int32) : Ct G GAM mX0_thingsWith d 0 [.ref 7, .int x, .int y] I (Rp (some (.int (nI 0))) I) := by
  refine Ct.mk [some (.ref 7), some (.int x), some (.int y), none, none] ?_
  refine Rn.iconst (v := (nI 0)) dX0_thingsWith_0 rfl ?_
  refine Rn.istore_n dX0_thingsWith_1 rfl (by decide) ?_
  refine Rn.iconst (v := (nI 0)) dX0_thingsWith_2 rfl ?_
  refine Rn.istore dX0_thingsWith_3 (by decide) ?_
  refine Rn.iload dX0_thingsWith_5 rfl ?_
  refine Rn.aload_n dX0_thingsWith_7 rfl rfl ?_
  refine Rn.getI dX0_thingsWith_8 fd_X0_34_0 (by first | rfl | exact gC0 (by assumption) | exact gL0 (by assumption)) rfl ?_
  refine Rn.topI (nI 0) h1 ?_
  refine Rn.icmp_ge (tgt := 42) dX0_thingsWith_11 (by decide) (fun _ => ?_) (fun h9 => absurd h9 (by decide))
  refine Rn.iload_n dX0_thingsWith_42 rfl rfl ?_
  exact Rn.iret dX0_thingsWith_43 rfl (⟨rfl, rfl⟩)
theorem ct_luckOfWomen_7 (h0 : I 7 0 = nI 0) : Ct G GAM mX0_luckOfWomen d 0 [.ref 7] I (Rp (some (.int (nI 0))) I) := by
  refine Ct.mk [some (.ref 7), none, none] ?_
  refine Rn.iconst (v := (nI 0)) dX0_luckOfWomen_0 rfl ?_
  refine Rn.istore_n dX0_luckOfWomen_1 rfl (by decide) ?_
  refine Rn.iconst (v := (nI 0)) dX0_luckOfWomen_2 rfl ?_
  refine Rn.istore_n dX0_luckOfWomen_3 rfl (by decide) ?_
  refine Rn.iload_n dX0_luckOfWomen_4 rfl rfl ?_
  refine Rn.aload_n dX0_luckOfWomen_5 rfl rfl ?_
  refine Rn.getI dX0_luckOfWomen_6 fd_X0_31_0 (by first | rfl | exact gC0 (by assumption) | exact gL0 (by assumption)) rfl ?_
  refine Rn.topI (nI 0) h0 ?_
  refine Rn.icmp_ge (tgt := 26) dX0_luckOfWomen_9 (by decide) (fun _ => ?_) (fun h9 => absurd h9 (by decide))
  refine Rn.iload_n dX0_luckOfWomen_26 rfl rfl ?_
  exact Rn.iret dX0_luckOfWomen_27 rfl (⟨rfl, rfl⟩)
theorem ct_luckOfThings_3 (h1 : I 3 1 = nI 0) : Ct G GAM mX0_luckOfThings d 0 [.ref 3] I (Rp (some (.int (nI 0))) I) := by
  refine Ct.mk [some (.ref 3), none, none] ?_
  refine Rn.iconst (v := (nI 0)) dX0_luckOfThings_0 rfl ?_
  refine Rn.istore_n dX0_luckOfThings_1 rfl (by decide) ?_
  refine Rn.iconst (v := (nI 0)) dX0_luckOfThings_2 rfl ?_
  refine Rn.istore_n dX0_luckOfThings_3 rfl (by decide) ?_
  refine Rn.iload_n dX0_luckOfThings_4 rfl rfl ?_
  refine Rn.aload_n dX0_luckOfThings_5 rfl rfl ?_
  refine Rn.getI dX0_luckOfThings_6 fd_X0_34_0 (by first | rfl | exact gC0 (by assumption) | exact gL0 (by assumption)) rfl ?_
  refine Rn.topI (nI 0) h1 ?_
  refine Rn.icmp_ge (tgt := 26) dX0_luckOfThings_9 (by decide) (fun _ => ?_) (fun h9 => absurd h9 (by decide))
  refine Rn.iload_n dX0_luckOfThings_26 rfl rfl ?_
  exact Rn.iret dX0_luckOfThings_27 rfl (⟨rfl, rfl⟩)
theorem ct_womenWith_3 (h0 : I 3 0 = nI 0) (x y : Int32) : Ct G GAM mX0_womenWith d 0 [.ref 3, .int x, .int y] I (Rp (some (.int (nI 0))) I) := by
  refine Ct.mk [some (.ref 3), some (.int x), some (.int y), none, none] ?_
  refine Rn.iconst (v := (nI 0)) dX0_womenWith_0 rfl ?_
  refine Rn.istore_n dX0_womenWith_1 rfl (by decide) ?_
  refine Rn.iconst (v := (nI 0)) dX0_womenWith_2 rfl ?_
  refine Rn.istore dX0_womenWith_3 (by decide) ?_
  refine Rn.iload dX0_womenWith_5 rfl ?_
  refine Rn.aload_n dX0_womenWith_7 rfl rfl ?_
  refine Rn.getI dX0_womenWith_8 fd_X0_31_0 (by first | rfl | exact gC0 (by assumption) | exact gL0 (by assumption)) rfl ?_
  refine Rn.topI (nI 0) h0 ?_
  refine Rn.icmp_ge (tgt := 42) dX0_womenWith_11 (by decide) (fun _ => ?_) (fun h9 => absurd h9 (by decide))
  refine Rn.iload_n dX0_womenWith_42 rfl rfl ?_
  exact Rn.iret dX0_womenWith_43 rfl (⟨rfl, rfl⟩)
theorem ct_X9_stuck (F : FC I) : Ct G GAM mX9_stuck (d + 1) 0 [.ref 0] I (Rp (some (.int (nI 0))) I) := by
  obtain ⟨h3_0, h3_1, h3_2, h3_3, h3_4, h3_5, h3_6, h3_7, h3_8, h0_11, h0_12, h1_1, h16_0, h44_1, h44_2⟩ := F
  refine Ct.mk [some (.ref 0)] ?_
  refine Rn.aload_n dX9_stuck_0 rfl rfl ?_
  refine Rn.getR dX9_stuck_1 fd_X9_19_8 (by first | rfl | exact gC0 (by assumption) | exact gL0 (by assumption)) rfl ?_
  refine Rn.bipush (v := (nI 7)) dX9_stuck_4 rfl ?_
  refine Rn.iconst (v := (nI 1)) dX9_stuck_6 rfl ?_
  refine Rn.callVp (As := [_, _]) dX9_stuck_7 mv_X9_144 (by first | rfl | exact gC0 (by assumption) | exact gL0 (by assumption)) rfl rfl rfl (Nat.le_of_ble_eq_true rfl) (ct_thingsWith_3 G _ _ (by exact h3_1) _ _) ?_
  exact Rn.iret dX9_stuck_10 rfl (⟨rfl, rfl⟩)
theorem ct_X9_pawned (F : FC I) : Ct G GAM mX9_pawned (d + 1) 0 [.ref 0] I (Rp (some (.int (nI 0))) I) := by
  obtain ⟨h3_0, h3_1, h3_2, h3_3, h3_4, h3_5, h3_6, h3_7, h3_8, h0_11, h0_12, h1_1, h16_0, h44_1, h44_2⟩ := F
  refine Ct.mk [some (.ref 0)] ?_
  refine Rn.aload_n dX9_pawned_0 rfl rfl ?_
  refine Rn.getR dX9_pawned_1 fd_X9_19_8 (by first | rfl | exact gC0 (by assumption) | exact gL0 (by assumption)) rfl ?_
  refine Rn.iconst (v := (nI 5)) dX9_pawned_4 rfl ?_
  refine Rn.iconst (v := (-1)) dX9_pawned_5 rfl ?_
  refine Rn.callVp (As := [_, _]) dX9_pawned_6 mv_X9_144 (by first | rfl | exact gC0 (by assumption) | exact gL0 (by assumption)) rfl rfl rfl (Nat.le_of_ble_eq_true rfl) (ct_thingsWith_3 G _ _ (by exact h3_1) _ _) ?_
  exact Rn.iret dX9_pawned_9 rfl (⟨rfl, rfl⟩)
theorem ct_X9_blue (F : FC I) : Ct G GAM mX9_blue (d + 1) 0 [.ref 0] I (Rp (some (.int (nI 0))) I) := by
  obtain ⟨h3_0, h3_1, h3_2, h3_3, h3_4, h3_5, h3_6, h3_7, h3_8, h0_11, h0_12, h1_1, h16_0, h44_1, h44_2⟩ := F
  refine Ct.mk [some (.ref 0)] ?_
  refine Rn.aload_n dX9_blue_0 rfl rfl ?_
  refine Rn.getR dX9_blue_1 fd_X9_19_8 (by first | rfl | exact gC0 (by assumption) | exact gL0 (by assumption)) rfl ?_
  refine Rn.bipush (v := (nI 8)) dX9_blue_4 rfl ?_
  refine Rn.iconst (v := (nI 1)) dX9_blue_6 rfl ?_
  refine Rn.callVp (As := [_, _]) dX9_blue_7 mv_X9_144 (by first | rfl | exact gC0 (by assumption) | exact gL0 (by assumption)) rfl rfl rfl (Nat.le_of_ble_eq_true rfl) (ct_thingsWith_3 G _ _ (by exact h3_1) _ _) ?_
  exact Rn.iret dX9_blue_10 rfl (⟨rfl, rfl⟩)
theorem ct_X9_alike (F : FC I) : Ct G GAM mX9_alike d 0 [.ref 0] I (Rp (some (.int (nI 0))) I) := by
  obtain ⟨h3_0, h3_1, h3_2, h3_3, h3_4, h3_5, h3_6, h3_7, h3_8, h0_11, h0_12, h1_1, h16_0, h44_1, h44_2⟩ := F
  refine Ct.mk [some (.ref 0), none, none, none] ?_
  refine Rn.iconst (v := (nI 0)) dX9_alike_0 rfl ?_
  refine Rn.istore_n dX9_alike_1 rfl (by decide) ?_
  refine Rn.iconst (v := (nI 0)) dX9_alike_2 rfl ?_
  refine Rn.istore_n dX9_alike_3 rfl (by decide) ?_
  refine Rn.iload_n dX9_alike_4 rfl rfl ?_
  refine Rn.aload_n dX9_alike_5 rfl rfl ?_
  refine Rn.getR dX9_alike_6 fd_X9_19_8 (by first | rfl | exact gC0 (by assumption) | exact gL0 (by assumption)) rfl ?_
  refine Rn.getI dX9_alike_9 fd_X9_230_0 (by first | rfl | exact gC0 (by assumption) | exact gL0 (by assumption)) rfl ?_
  refine Rn.topI (nI 0) h3_1 ?_
  refine Rn.icmp_ge (tgt := 57) dX9_alike_12 (by decide) (fun _ => ?_) (fun h9 => absurd h9 (by decide))
  refine Rn.iload_n dX9_alike_57 rfl rfl ?_
  exact Rn.iret dX9_alike_58 rfl (⟨rfl, rfl⟩)
theorem ct_X9_odds (F : FC I) : Ct G GAM mX9_odds d 0 [.ref 0] I (Rp (some (.int (nI 0))) I) := by
  obtain ⟨h3_0, h3_1, h3_2, h3_3, h3_4, h3_5, h3_6, h3_7, h3_8, h0_11, h0_12, h1_1, h16_0, h44_1, h44_2⟩ := F
  refine Ct.mk [some (.ref 0), none, none, none, none] ?_
  refine Rn.aload_n dX9_odds_0 rfl rfl ?_
  refine Rn.getR dX9_odds_1 fd_X9_19_8 (by first | rfl | exact gC0 (by assumption) | exact gL0 (by assumption)) rfl ?_
  refine Rn.getI dX9_odds_4 fd_X9_278_0 (by first | rfl | exact gC0 (by assumption) | exact gL0 (by assumption)) rfl ?_
  refine Rn.topI (nI 0) h3_0 ?_
  refine Rn.aload_n dX9_odds_7 rfl rfl ?_
  refine Rn.getR dX9_odds_8 fd_X9_19_8 (by first | rfl | exact gC0 (by assumption) | exact gL0 (by assumption)) rfl ?_
  refine Rn.getI dX9_odds_11 fd_X9_230_0 (by first | rfl | exact gC0 (by assumption) | exact gL0 (by assumption)) rfl ?_
  refine Rn.topI (nI 0) h3_1 ?_
  refine Rn.imul dX9_odds_14 ?_
  refine Rn.istore_n dX9_odds_15 rfl (by decide) ?_
  refine Rn.iconst (v := (nI 0)) dX9_odds_16 rfl ?_
  refine Rn.istore_n dX9_odds_17 rfl (by decide) ?_
  refine Rn.iconst (v := (nI 0)) dX9_odds_18 rfl ?_
  refine Rn.istore_n dX9_odds_19 rfl (by decide) ?_
  refine Rn.iload_n dX9_odds_20 rfl rfl ?_
  refine Rn.aload_n dX9_odds_21 rfl rfl ?_
  refine Rn.getR dX9_odds_22 fd_X9_19_8 (by first | rfl | exact gC0 (by assumption) | exact gL0 (by assumption)) rfl ?_
  refine Rn.getI dX9_odds_25 fd_X9_278_0 (by first | rfl | exact gC0 (by assumption) | exact gL0 (by assumption)) rfl ?_
  refine Rn.topI (nI 0) h3_0 ?_
  refine Rn.icmp_ge (tgt := 74) dX9_odds_28 (by decide) (fun _ => ?_) (fun h9 => absurd h9 (by decide))
  refine Rn.iload_n dX9_odds_74 rfl rfl ?_
  refine Rn.if_gt (tgt := 82) dX9_odds_75 (by decide) (fun h9 => absurd h9 (by decide)) (fun _ => ?_)
  refine Rn.iconst (v := (nI 0)) dX9_odds_78 rfl ?_
  refine Rn.goto 89 dX9_odds_79 (by decide) ?_
  exact Rn.iret dX9_odds_89 rfl (⟨rfl, rfl⟩)
theorem ct_X9_seed (F : FC I) (n : Int32) : Ct G GAM mX9_seed d 0 [.ref 0, .int n] I (Rp (some (.int (nI 1))) (zup I 3 6 n)) := by
  obtain ⟨h3_0, h3_1, h3_2, h3_3, h3_4, h3_5, h3_6, h3_7, h3_8, h0_11, h0_12, h1_1, h16_0, h44_1, h44_2⟩ := F
  refine Ct.mk [some (.ref 0), some (.int n), none] ?_
  refine Rn.aload_n dX9_seed_0 rfl rfl ?_
  refine Rn.getR dX9_seed_1 fd_X9_19_8 (by first | rfl | exact gC0 (by assumption) | exact gL0 (by assumption)) rfl ?_
  refine Rn.getI dX9_seed_4 fd_X9_327_0 (by first | rfl | exact gC0 (by assumption) | exact gL0 (by assumption)) rfl ?_
  refine Rn.topI (nI 1) h3_6 ?_
  refine Rn.istore_n dX9_seed_7 rfl (by decide) ?_
  refine Rn.aload_n dX9_seed_8 rfl rfl ?_
  refine Rn.getR dX9_seed_9 fd_X9_19_8 (by first | rfl | exact gC0 (by assumption) | exact gL0 (by assumption)) rfl ?_
  refine Rn.iload_n dX9_seed_12 rfl rfl ?_
  refine Rn.putI dX9_seed_13 fp_X9_327_0 (by first | rfl | exact gC0 (by assumption) | exact gL0 (by assumption)) rfl ?_
  refine Rn.iload_n dX9_seed_16 rfl rfl ?_
  exact Rn.iret dX9_seed_17 rfl (⟨rfl, rfl⟩)
theorem ct_bringBack (h1 : I 44 1 = nI 0) (h2 : I 44 2 = nI 0) : Ct G GAM mX5_bringBack d 0 [.ref 44, .ref 3] I (Rp (some (.int (nI 0))) I) := by
  refine Ct.mk [some (.ref 44), some (.ref 3), none] ?_
  refine Rn.aload_n dX5_bringBack_0 rfl rfl ?_
  refine Rn.getI dX5_bringBack_1 fd_X5_18_4 (by first | rfl | exact gC0 (by assumption) | exact gL0 (by assumption)) rfl ?_
  refine Rn.topI (nI 0) h2 ?_
  refine Rn.if_lt (tgt := 28) dX5_bringBack_4 (by decide) (fun h9 => absurd h9 (by decide)) (fun _ => ?_)
  refine Rn.aload_n dX5_bringBack_7 rfl rfl ?_
  refine Rn.getI dX5_bringBack_8 fd_X5_18_4 (by first | rfl | exact gC0 (by assumption) | exact gL0 (by assumption)) rfl ?_
  refine Rn.topI (nI 0) h2 ?_
  refine Rn.bipush (v := (nI 12)) dX5_bringBack_11 rfl ?_
  refine Rn.icmp_ge (tgt := 28) dX5_bringBack_13 (by decide) (fun h9 => absurd h9 (by decide)) (fun _ => ?_)
  refine Rn.aload_n dX5_bringBack_16 rfl rfl ?_
  refine Rn.getR dX5_bringBack_17 fd_X5_11_4 (by first | rfl | exact gC0 (by assumption) | exact gL0 (by assumption)) rfl ?_
  refine Rn.aload_n dX5_bringBack_20 rfl rfl ?_
  refine Rn.getI dX5_bringBack_21 fd_X5_18_4 (by first | rfl | exact gC0 (by assumption) | exact gL0 (by assumption)) rfl ?_
  refine Rn.topI (nI 0) h2 ?_
  refine Rn.aald (a := 45) (n := 12) (f := fM 12) (r := 46) dX5_bringBack_24 rfl (vp_in_nI (by decide) (by decide)) (by decide) ?_
  refine Rn.goto 29 dX5_bringBack_25 (by decide) ?_
  refine Rn.astore_n dX5_bringBack_29 rfl (by decide) ?_
  refine Rn.aload_n dX5_bringBack_30 rfl rfl ?_
  refine Rn.getI dX5_bringBack_31 fd_X5_26_4 (by first | rfl | exact gC0 (by assumption) | exact gL0 (by assumption)) rfl ?_
  refine Rn.topI (nI 0) h1 ?_
  refine Rn.if_le (tgt := 41) dX5_bringBack_34 (by decide) (fun _ => ?_) (fun h9 => absurd h9 (by decide))
  refine Rn.iconst (v := (nI 0)) dX5_bringBack_41 rfl ?_
  exact Rn.zret dX5_bringBack_42 rfl rfl (⟨rfl, rfl⟩)
theorem ct_X9_undo (F : FC I) : Ct G GAM mX9_undo (d + 1) 0 [.ref 0] I (Rp (some (.int (nI 0))) I) := by
  obtain ⟨h3_0, h3_1, h3_2, h3_3, h3_4, h3_5, h3_6, h3_7, h3_8, h0_11, h0_12, h1_1, h16_0, h44_1, h44_2⟩ := F
  refine Ct.mk [some (.ref 0)] ?_
  refine Rn.aload_n dX9_undo_0 rfl rfl ?_
  refine Rn.getR dX9_undo_1 fd_X9_76_8 (by first | rfl | exact gC0 (by assumption) | exact gL0 (by assumption)) rfl ?_
  refine Rn.aload_n dX9_undo_4 rfl rfl ?_
  refine Rn.getR dX9_undo_5 fd_X9_19_8 (by first | rfl | exact gC0 (by assumption) | exact gL0 (by assumption)) rfl ?_
  refine Rn.callVp (As := [_]) dX9_undo_8 mv_X9_338 (by first | rfl | exact gC0 (by assumption) | exact gL0 (by assumption)) rfl rfl rfl (Nat.le_of_ble_eq_true rfl) (ct_bringBack G _ _ (by exact h44_1) (by exact h44_2)) ?_
  exact Rn.zret dX9_undo_11 rfl rfl (⟨rfl, rfl⟩)
theorem ct_X9_back (F : FC I) : Ct G GAM mX9_back d 0 [.ref 0] I (Rp (some (.int (nI 0))) I) := by
  obtain ⟨h3_0, h3_1, h3_2, h3_3, h3_4, h3_5, h3_6, h3_7, h3_8, h0_11, h0_12, h1_1, h16_0, h44_1, h44_2⟩ := F
  refine Ct.mk [some (.ref 0)] ?_
  refine Rn.aload_n dX9_back_0 rfl rfl ?_
  refine Rn.getI dX9_back_1 fd_X9_342_8 (by first | rfl | exact gC0 (by assumption) | exact gL0 (by assumption)) rfl ?_
  refine Rn.topI (nI 0) h0_11 ?_
  refine Rn.if_ne (tgt := 9) dX9_back_4 (by decide) (fun h9 => absurd h9 (by decide)) (fun _ => ?_)
  refine Rn.iconst (v := (nI 0)) dX9_back_7 rfl ?_
  exact Rn.zret dX9_back_8 rfl rfl (⟨rfl, rfl⟩)
theorem ct_copy_3_7 : Ct G GAM mX0_copyFrom d 0 [.ref 7, .ref 3] I (Rp none (cpC I 3 7)) := by
  refine Ct.mk [some (.ref 7), some (.ref 3)] ?_
  refine Rn.aload_n dX0_copyFrom_0 rfl rfl ?_
  refine Rn.aload_n dX0_copyFrom_1 rfl rfl ?_
  refine Rn.getI dX0_copyFrom_2 fd_X0_31_0 (by first | rfl | exact gC0 (by assumption) | exact gL0 (by assumption)) rfl ?_
  refine Rn.putI dX0_copyFrom_5 fp_X0_31_0 (by first | rfl | exact gC0 (by assumption) | exact gL0 (by assumption)) rfl ?_
  refine Rn.aload_n dX0_copyFrom_8 rfl rfl ?_
  refine Rn.aload_n dX0_copyFrom_9 rfl rfl ?_
  refine Rn.getI dX0_copyFrom_10 fd_X0_34_0 (by first | rfl | exact gC0 (by assumption) | exact gL0 (by assumption)) rfl ?_
  refine Rn.putI dX0_copyFrom_13 fp_X0_34_0 (by first | rfl | exact gC0 (by assumption) | exact gL0 (by assumption)) rfl ?_
  refine Rn.aload_n dX0_copyFrom_16 rfl rfl ?_
  refine Rn.aload_n dX0_copyFrom_17 rfl rfl ?_
  refine Rn.getI dX0_copyFrom_18 fd_X0_37_0 (by first | rfl | exact gC0 (by assumption) | exact gL0 (by assumption)) rfl ?_
  refine Rn.putI dX0_copyFrom_21 fp_X0_37_0 (by first | rfl | exact gC0 (by assumption) | exact gL0 (by assumption)) rfl ?_
  refine Rn.aload_n dX0_copyFrom_24 rfl rfl ?_
  refine Rn.aload_n dX0_copyFrom_25 rfl rfl ?_
  refine Rn.getI dX0_copyFrom_26 fd_X0_40_0 (by first | rfl | exact gC0 (by assumption) | exact gL0 (by assumption)) rfl ?_
  refine Rn.putI dX0_copyFrom_29 fp_X0_40_0 (by first | rfl | exact gC0 (by assumption) | exact gL0 (by assumption)) rfl ?_
  refine Rn.aload_n dX0_copyFrom_32 rfl rfl ?_
  refine Rn.aload_n dX0_copyFrom_33 rfl rfl ?_
  refine Rn.getI dX0_copyFrom_34 fd_X0_9_0 (by first | rfl | exact gC0 (by assumption) | exact gL0 (by assumption)) rfl ?_
  refine Rn.putI dX0_copyFrom_37 fp_X0_9_0 (by first | rfl | exact gC0 (by assumption) | exact gL0 (by assumption)) rfl ?_
  refine Rn.aload_n dX0_copyFrom_40 rfl rfl ?_
  refine Rn.aload_n dX0_copyFrom_41 rfl rfl ?_
  refine Rn.getI dX0_copyFrom_42 fd_X0_15_0 (by first | rfl | exact gC0 (by assumption) | exact gL0 (by assumption)) rfl ?_
  refine Rn.putI dX0_copyFrom_45 fp_X0_15_0 (by first | rfl | exact gC0 (by assumption) | exact gL0 (by assumption)) rfl ?_
  refine Rn.aload_n dX0_copyFrom_48 rfl rfl ?_
  refine Rn.aload_n dX0_copyFrom_49 rfl rfl ?_
  refine Rn.getI dX0_copyFrom_50 fd_X0_18_0 (by first | rfl | exact gC0 (by assumption) | exact gL0 (by assumption)) rfl ?_
  refine Rn.putI dX0_copyFrom_53 fp_X0_18_0 (by first | rfl | exact gC0 (by assumption) | exact gL0 (by assumption)) rfl ?_
  refine Rn.aload_n dX0_copyFrom_56 rfl rfl ?_
  refine Rn.aload_n dX0_copyFrom_57 rfl rfl ?_
  refine Rn.getI dX0_copyFrom_58 fd_X0_43_0 (by first | rfl | exact gC0 (by assumption) | exact gL0 (by assumption)) rfl ?_
  refine Rn.putI dX0_copyFrom_61 fp_X0_43_0 (by first | rfl | exact gC0 (by assumption) | exact gL0 (by assumption)) rfl ?_
  refine Rn.aload_n dX0_copyFrom_64 rfl rfl ?_
  refine Rn.aload_n dX0_copyFrom_65 rfl rfl ?_
  refine Rn.getI dX0_copyFrom_66 fd_X0_46_0 (by first | rfl | exact gC0 (by assumption) | exact gL0 (by assumption)) rfl ?_
  refine Rn.putI dX0_copyFrom_69 fp_X0_46_0 (by first | rfl | exact gC0 (by assumption) | exact gL0 (by assumption)) rfl ?_
  refine Rn.aload_n dX0_copyFrom_72 rfl rfl ?_
  refine Rn.getR dX0_copyFrom_73 fd_X0_21_0 (by first | rfl | exact gC0 (by assumption) | exact gL0 (by assumption)) rfl ?_
  refine Rn.iconst (v := (nI 0)) dX0_copyFrom_76 rfl ?_
  refine Rn.aload_n dX0_copyFrom_77 rfl rfl ?_
  refine Rn.getR dX0_copyFrom_78 fd_X0_21_0 (by first | rfl | exact gC0 (by assumption) | exact gL0 (by assumption)) rfl ?_
  refine Rn.iconst (v := (nI 0)) dX0_copyFrom_81 rfl ?_
  refine Rn.bipush (v := (nI 56)) dX0_copyFrom_82 rfl ?_
  refine Rn.acopy dX0_copyFrom_84 ac_X0_49 (by first | rfl | exact gC1 (by assumption) | exact gC2 (by assumption) | exact gC3 (by assumption) | exact gL1 (by assumption) | exact gL2 (by assumption) | exact gL3 (by assumption) | exact gL4 (by assumption) | exact gL5 (by assumption) | exact gL6 (by assumption)) (by first | rfl | exact gC1 (by assumption) | exact gC2 (by assumption) | exact gC3 (by assumption) | exact gL1 (by assumption) | exact gL2 (by assumption) | exact gL3 (by assumption) | exact gL4 (by assumption) | exact gL5 (by assumption) | exact gL6 (by assumption)) (by decide) (by decide) (by decide) (Nat.le_of_ble_eq_true rfl) ?_
  refine Rn.aload_n dX0_copyFrom_87 rfl rfl ?_
  refine Rn.getR dX0_copyFrom_88 fd_X0_25_0 (by first | rfl | exact gC0 (by assumption) | exact gL0 (by assumption)) rfl ?_
  refine Rn.iconst (v := (nI 0)) dX0_copyFrom_91 rfl ?_
  refine Rn.aload_n dX0_copyFrom_92 rfl rfl ?_
  refine Rn.getR dX0_copyFrom_93 fd_X0_25_0 (by first | rfl | exact gC0 (by assumption) | exact gL0 (by assumption)) rfl ?_
  refine Rn.iconst (v := (nI 0)) dX0_copyFrom_96 rfl ?_
  refine Rn.bipush (v := (nI 72)) dX0_copyFrom_97 rfl ?_
  refine Rn.acopy dX0_copyFrom_99 ac_X0_49 (by first | rfl | exact gC1 (by assumption) | exact gC2 (by assumption) | exact gC3 (by assumption) | exact gL1 (by assumption) | exact gL2 (by assumption) | exact gL3 (by assumption) | exact gL4 (by assumption) | exact gL5 (by assumption) | exact gL6 (by assumption)) (by first | rfl | exact gC1 (by assumption) | exact gC2 (by assumption) | exact gC3 (by assumption) | exact gL1 (by assumption) | exact gL2 (by assumption) | exact gL3 (by assumption) | exact gL4 (by assumption) | exact gL5 (by assumption) | exact gL6 (by assumption)) (by decide) (by decide) (by decide) (Nat.le_of_ble_eq_true rfl) ?_
  refine Rn.aload_n dX0_copyFrom_102 rfl rfl ?_
  refine Rn.getR dX0_copyFrom_103 fd_X0_28_0 (by first | rfl | exact gC0 (by assumption) | exact gL0 (by assumption)) rfl ?_
  refine Rn.iconst (v := (nI 0)) dX0_copyFrom_106 rfl ?_
  refine Rn.aload_n dX0_copyFrom_107 rfl rfl ?_
  refine Rn.getR dX0_copyFrom_108 fd_X0_28_0 (by first | rfl | exact gC0 (by assumption) | exact gL0 (by assumption)) rfl ?_
  refine Rn.iconst (v := (nI 0)) dX0_copyFrom_111 rfl ?_
  refine Rn.sipush (v := (nI 240)) dX0_copyFrom_112 rfl ?_
  refine Rn.acopy dX0_copyFrom_115 ac_X0_49 (by first | rfl | exact gC1 (by assumption) | exact gC2 (by assumption) | exact gC3 (by assumption) | exact gL1 (by assumption) | exact gL2 (by assumption) | exact gL3 (by assumption) | exact gL4 (by assumption) | exact gL5 (by assumption) | exact gL6 (by assumption)) (by first | rfl | exact gC1 (by assumption) | exact gC2 (by assumption) | exact gC3 (by assumption) | exact gL1 (by assumption) | exact gL2 (by assumption) | exact gL3 (by assumption) | exact gL4 (by assumption) | exact gL5 (by assumption) | exact gL6 (by assumption)) (by decide) (by decide) (by decide) (Nat.le_of_ble_eq_true rfl) ?_
  exact Rn.vret dX0_copyFrom_118 rfl (⟨rfl, rfl⟩)
theorem ct_copy_3_11 : Ct G GAM mX0_copyFrom d 0 [.ref 11, .ref 3] I (Rp none (cpC I 3 11)) := by
  refine Ct.mk [some (.ref 11), some (.ref 3)] ?_
  refine Rn.aload_n dX0_copyFrom_0 rfl rfl ?_
  refine Rn.aload_n dX0_copyFrom_1 rfl rfl ?_
  refine Rn.getI dX0_copyFrom_2 fd_X0_31_0 (by first | rfl | exact gC0 (by assumption) | exact gL0 (by assumption)) rfl ?_
  refine Rn.putI dX0_copyFrom_5 fp_X0_31_0 (by first | rfl | exact gC0 (by assumption) | exact gL0 (by assumption)) rfl ?_
  refine Rn.aload_n dX0_copyFrom_8 rfl rfl ?_
  refine Rn.aload_n dX0_copyFrom_9 rfl rfl ?_
  refine Rn.getI dX0_copyFrom_10 fd_X0_34_0 (by first | rfl | exact gC0 (by assumption) | exact gL0 (by assumption)) rfl ?_
  refine Rn.putI dX0_copyFrom_13 fp_X0_34_0 (by first | rfl | exact gC0 (by assumption) | exact gL0 (by assumption)) rfl ?_
  refine Rn.aload_n dX0_copyFrom_16 rfl rfl ?_
  refine Rn.aload_n dX0_copyFrom_17 rfl rfl ?_
  refine Rn.getI dX0_copyFrom_18 fd_X0_37_0 (by first | rfl | exact gC0 (by assumption) | exact gL0 (by assumption)) rfl ?_
  refine Rn.putI dX0_copyFrom_21 fp_X0_37_0 (by first | rfl | exact gC0 (by assumption) | exact gL0 (by assumption)) rfl ?_
  refine Rn.aload_n dX0_copyFrom_24 rfl rfl ?_
  refine Rn.aload_n dX0_copyFrom_25 rfl rfl ?_
  refine Rn.getI dX0_copyFrom_26 fd_X0_40_0 (by first | rfl | exact gC0 (by assumption) | exact gL0 (by assumption)) rfl ?_
  refine Rn.putI dX0_copyFrom_29 fp_X0_40_0 (by first | rfl | exact gC0 (by assumption) | exact gL0 (by assumption)) rfl ?_
  refine Rn.aload_n dX0_copyFrom_32 rfl rfl ?_
  refine Rn.aload_n dX0_copyFrom_33 rfl rfl ?_
  refine Rn.getI dX0_copyFrom_34 fd_X0_9_0 (by first | rfl | exact gC0 (by assumption) | exact gL0 (by assumption)) rfl ?_
  refine Rn.putI dX0_copyFrom_37 fp_X0_9_0 (by first | rfl | exact gC0 (by assumption) | exact gL0 (by assumption)) rfl ?_
  refine Rn.aload_n dX0_copyFrom_40 rfl rfl ?_
  refine Rn.aload_n dX0_copyFrom_41 rfl rfl ?_
  refine Rn.getI dX0_copyFrom_42 fd_X0_15_0 (by first | rfl | exact gC0 (by assumption) | exact gL0 (by assumption)) rfl ?_
  refine Rn.putI dX0_copyFrom_45 fp_X0_15_0 (by first | rfl | exact gC0 (by assumption) | exact gL0 (by assumption)) rfl ?_
  refine Rn.aload_n dX0_copyFrom_48 rfl rfl ?_
  refine Rn.aload_n dX0_copyFrom_49 rfl rfl ?_
  refine Rn.getI dX0_copyFrom_50 fd_X0_18_0 (by first | rfl | exact gC0 (by assumption) | exact gL0 (by assumption)) rfl ?_
  refine Rn.putI dX0_copyFrom_53 fp_X0_18_0 (by first | rfl | exact gC0 (by assumption) | exact gL0 (by assumption)) rfl ?_
  refine Rn.aload_n dX0_copyFrom_56 rfl rfl ?_
  refine Rn.aload_n dX0_copyFrom_57 rfl rfl ?_
  refine Rn.getI dX0_copyFrom_58 fd_X0_43_0 (by first | rfl | exact gC0 (by assumption) | exact gL0 (by assumption)) rfl ?_
  refine Rn.putI dX0_copyFrom_61 fp_X0_43_0 (by first | rfl | exact gC0 (by assumption) | exact gL0 (by assumption)) rfl ?_
  refine Rn.aload_n dX0_copyFrom_64 rfl rfl ?_
  refine Rn.aload_n dX0_copyFrom_65 rfl rfl ?_
  refine Rn.getI dX0_copyFrom_66 fd_X0_46_0 (by first | rfl | exact gC0 (by assumption) | exact gL0 (by assumption)) rfl ?_
  refine Rn.putI dX0_copyFrom_69 fp_X0_46_0 (by first | rfl | exact gC0 (by assumption) | exact gL0 (by assumption)) rfl ?_
  refine Rn.aload_n dX0_copyFrom_72 rfl rfl ?_
  refine Rn.getR dX0_copyFrom_73 fd_X0_21_0 (by first | rfl | exact gC0 (by assumption) | exact gL0 (by assumption)) rfl ?_
  refine Rn.iconst (v := (nI 0)) dX0_copyFrom_76 rfl ?_
  refine Rn.aload_n dX0_copyFrom_77 rfl rfl ?_
  refine Rn.getR dX0_copyFrom_78 fd_X0_21_0 (by first | rfl | exact gC0 (by assumption) | exact gL0 (by assumption)) rfl ?_
  refine Rn.iconst (v := (nI 0)) dX0_copyFrom_81 rfl ?_
  refine Rn.bipush (v := (nI 56)) dX0_copyFrom_82 rfl ?_
  refine Rn.acopy dX0_copyFrom_84 ac_X0_49 (by first | rfl | exact gC1 (by assumption) | exact gC2 (by assumption) | exact gC3 (by assumption) | exact gL1 (by assumption) | exact gL2 (by assumption) | exact gL3 (by assumption) | exact gL4 (by assumption) | exact gL5 (by assumption) | exact gL6 (by assumption)) (by first | rfl | exact gC1 (by assumption) | exact gC2 (by assumption) | exact gC3 (by assumption) | exact gL1 (by assumption) | exact gL2 (by assumption) | exact gL3 (by assumption) | exact gL4 (by assumption) | exact gL5 (by assumption) | exact gL6 (by assumption)) (by decide) (by decide) (by decide) (Nat.le_of_ble_eq_true rfl) ?_
  refine Rn.aload_n dX0_copyFrom_87 rfl rfl ?_
  refine Rn.getR dX0_copyFrom_88 fd_X0_25_0 (by first | rfl | exact gC0 (by assumption) | exact gL0 (by assumption)) rfl ?_
  refine Rn.iconst (v := (nI 0)) dX0_copyFrom_91 rfl ?_
  refine Rn.aload_n dX0_copyFrom_92 rfl rfl ?_
  refine Rn.getR dX0_copyFrom_93 fd_X0_25_0 (by first | rfl | exact gC0 (by assumption) | exact gL0 (by assumption)) rfl ?_
  refine Rn.iconst (v := (nI 0)) dX0_copyFrom_96 rfl ?_
  refine Rn.bipush (v := (nI 72)) dX0_copyFrom_97 rfl ?_
  refine Rn.acopy dX0_copyFrom_99 ac_X0_49 (by first | rfl | exact gC1 (by assumption) | exact gC2 (by assumption) | exact gC3 (by assumption) | exact gL1 (by assumption) | exact gL2 (by assumption) | exact gL3 (by assumption) | exact gL4 (by assumption) | exact gL5 (by assumption) | exact gL6 (by assumption)) (by first | rfl | exact gC1 (by assumption) | exact gC2 (by assumption) | exact gC3 (by assumption) | exact gL1 (by assumption) | exact gL2 (by assumption) | exact gL3 (by assumption) | exact gL4 (by assumption) | exact gL5 (by assumption) | exact gL6 (by assumption)) (by decide) (by decide) (by decide) (Nat.le_of_ble_eq_true rfl) ?_
  refine Rn.aload_n dX0_copyFrom_102 rfl rfl ?_
  refine Rn.getR dX0_copyFrom_103 fd_X0_28_0 (by first | rfl | exact gC0 (by assumption) | exact gL0 (by assumption)) rfl ?_
  refine Rn.iconst (v := (nI 0)) dX0_copyFrom_106 rfl ?_
  refine Rn.aload_n dX0_copyFrom_107 rfl rfl ?_
  refine Rn.getR dX0_copyFrom_108 fd_X0_28_0 (by first | rfl | exact gC0 (by assumption) | exact gL0 (by assumption)) rfl ?_
  refine Rn.iconst (v := (nI 0)) dX0_copyFrom_111 rfl ?_
  refine Rn.sipush (v := (nI 240)) dX0_copyFrom_112 rfl ?_
  refine Rn.acopy dX0_copyFrom_115 ac_X0_49 (by first | rfl | exact gC1 (by assumption) | exact gC2 (by assumption) | exact gC3 (by assumption) | exact gL1 (by assumption) | exact gL2 (by assumption) | exact gL3 (by assumption) | exact gL4 (by assumption) | exact gL5 (by assumption) | exact gL6 (by assumption)) (by first | rfl | exact gC1 (by assumption) | exact gC2 (by assumption) | exact gC3 (by assumption) | exact gL1 (by assumption) | exact gL2 (by assumption) | exact gL3 (by assumption) | exact gL4 (by assumption) | exact gL5 (by assumption) | exact gL6 (by assumption)) (by decide) (by decide) (by decide) (Nat.le_of_ble_eq_true rfl) ?_
  exact Rn.vret dX0_copyFrom_118 rfl (⟨rfl, rfl⟩)
theorem ct_copy_3_50 : Ct G GAM mX0_copyFrom d 0 [.ref 50, .ref 3] I (Rp none (cpC I 3 50)) := by
  refine Ct.mk [some (.ref 50), some (.ref 3)] ?_
  refine Rn.aload_n dX0_copyFrom_0 rfl rfl ?_
  refine Rn.aload_n dX0_copyFrom_1 rfl rfl ?_
  refine Rn.getI dX0_copyFrom_2 fd_X0_31_0 (by first | rfl | exact gC0 (by assumption) | exact gL0 (by assumption)) rfl ?_
  refine Rn.putI dX0_copyFrom_5 fp_X0_31_0 (by first | rfl | exact gC0 (by assumption) | exact gL0 (by assumption)) rfl ?_
  refine Rn.aload_n dX0_copyFrom_8 rfl rfl ?_
  refine Rn.aload_n dX0_copyFrom_9 rfl rfl ?_
  refine Rn.getI dX0_copyFrom_10 fd_X0_34_0 (by first | rfl | exact gC0 (by assumption) | exact gL0 (by assumption)) rfl ?_
  refine Rn.putI dX0_copyFrom_13 fp_X0_34_0 (by first | rfl | exact gC0 (by assumption) | exact gL0 (by assumption)) rfl ?_
  refine Rn.aload_n dX0_copyFrom_16 rfl rfl ?_
  refine Rn.aload_n dX0_copyFrom_17 rfl rfl ?_
  refine Rn.getI dX0_copyFrom_18 fd_X0_37_0 (by first | rfl | exact gC0 (by assumption) | exact gL0 (by assumption)) rfl ?_
  refine Rn.putI dX0_copyFrom_21 fp_X0_37_0 (by first | rfl | exact gC0 (by assumption) | exact gL0 (by assumption)) rfl ?_
  refine Rn.aload_n dX0_copyFrom_24 rfl rfl ?_
  refine Rn.aload_n dX0_copyFrom_25 rfl rfl ?_
  refine Rn.getI dX0_copyFrom_26 fd_X0_40_0 (by first | rfl | exact gC0 (by assumption) | exact gL0 (by assumption)) rfl ?_
  refine Rn.putI dX0_copyFrom_29 fp_X0_40_0 (by first | rfl | exact gC0 (by assumption) | exact gL0 (by assumption)) rfl ?_
  refine Rn.aload_n dX0_copyFrom_32 rfl rfl ?_
  refine Rn.aload_n dX0_copyFrom_33 rfl rfl ?_
  refine Rn.getI dX0_copyFrom_34 fd_X0_9_0 (by first | rfl | exact gC0 (by assumption) | exact gL0 (by assumption)) rfl ?_
  refine Rn.putI dX0_copyFrom_37 fp_X0_9_0 (by first | rfl | exact gC0 (by assumption) | exact gL0 (by assumption)) rfl ?_
  refine Rn.aload_n dX0_copyFrom_40 rfl rfl ?_
  refine Rn.aload_n dX0_copyFrom_41 rfl rfl ?_
  refine Rn.getI dX0_copyFrom_42 fd_X0_15_0 (by first | rfl | exact gC0 (by assumption) | exact gL0 (by assumption)) rfl ?_
  refine Rn.putI dX0_copyFrom_45 fp_X0_15_0 (by first | rfl | exact gC0 (by assumption) | exact gL0 (by assumption)) rfl ?_
  refine Rn.aload_n dX0_copyFrom_48 rfl rfl ?_
  refine Rn.aload_n dX0_copyFrom_49 rfl rfl ?_
  refine Rn.getI dX0_copyFrom_50 fd_X0_18_0 (by first | rfl | exact gC0 (by assumption) | exact gL0 (by assumption)) rfl ?_
  refine Rn.putI dX0_copyFrom_53 fp_X0_18_0 (by first | rfl | exact gC0 (by assumption) | exact gL0 (by assumption)) rfl ?_
  refine Rn.aload_n dX0_copyFrom_56 rfl rfl ?_
  refine Rn.aload_n dX0_copyFrom_57 rfl rfl ?_
  refine Rn.getI dX0_copyFrom_58 fd_X0_43_0 (by first | rfl | exact gC0 (by assumption) | exact gL0 (by assumption)) rfl ?_
  refine Rn.putI dX0_copyFrom_61 fp_X0_43_0 (by first | rfl | exact gC0 (by assumption) | exact gL0 (by assumption)) rfl ?_
  refine Rn.aload_n dX0_copyFrom_64 rfl rfl ?_
  refine Rn.aload_n dX0_copyFrom_65 rfl rfl ?_
  refine Rn.getI dX0_copyFrom_66 fd_X0_46_0 (by first | rfl | exact gC0 (by assumption) | exact gL0 (by assumption)) rfl ?_
  refine Rn.putI dX0_copyFrom_69 fp_X0_46_0 (by first | rfl | exact gC0 (by assumption) | exact gL0 (by assumption)) rfl ?_
  refine Rn.aload_n dX0_copyFrom_72 rfl rfl ?_
  refine Rn.getR dX0_copyFrom_73 fd_X0_21_0 (by first | rfl | exact gC0 (by assumption) | exact gL0 (by assumption)) rfl ?_
  refine Rn.iconst (v := (nI 0)) dX0_copyFrom_76 rfl ?_
  refine Rn.aload_n dX0_copyFrom_77 rfl rfl ?_
  refine Rn.getR dX0_copyFrom_78 fd_X0_21_0 (by first | rfl | exact gC0 (by assumption) | exact gL0 (by assumption)) rfl ?_
  refine Rn.iconst (v := (nI 0)) dX0_copyFrom_81 rfl ?_
  refine Rn.bipush (v := (nI 56)) dX0_copyFrom_82 rfl ?_
  refine Rn.acopy dX0_copyFrom_84 ac_X0_49 (by first | rfl | exact gC1 (by assumption) | exact gC2 (by assumption) | exact gC3 (by assumption) | exact gL1 (by assumption) | exact gL2 (by assumption) | exact gL3 (by assumption) | exact gL4 (by assumption) | exact gL5 (by assumption) | exact gL6 (by assumption)) (by first | rfl | exact gC1 (by assumption) | exact gC2 (by assumption) | exact gC3 (by assumption) | exact gL1 (by assumption) | exact gL2 (by assumption) | exact gL3 (by assumption) | exact gL4 (by assumption) | exact gL5 (by assumption) | exact gL6 (by assumption)) (by decide) (by decide) (by decide) (Nat.le_of_ble_eq_true rfl) ?_
  refine Rn.aload_n dX0_copyFrom_87 rfl rfl ?_
  refine Rn.getR dX0_copyFrom_88 fd_X0_25_0 (by first | rfl | exact gC0 (by assumption) | exact gL0 (by assumption)) rfl ?_
  refine Rn.iconst (v := (nI 0)) dX0_copyFrom_91 rfl ?_
  refine Rn.aload_n dX0_copyFrom_92 rfl rfl ?_
  refine Rn.getR dX0_copyFrom_93 fd_X0_25_0 (by first | rfl | exact gC0 (by assumption) | exact gL0 (by assumption)) rfl ?_
  refine Rn.iconst (v := (nI 0)) dX0_copyFrom_96 rfl ?_
  refine Rn.bipush (v := (nI 72)) dX0_copyFrom_97 rfl ?_
  refine Rn.acopy dX0_copyFrom_99 ac_X0_49 (by first | rfl | exact gC1 (by assumption) | exact gC2 (by assumption) | exact gC3 (by assumption) | exact gL1 (by assumption) | exact gL2 (by assumption) | exact gL3 (by assumption) | exact gL4 (by assumption) | exact gL5 (by assumption) | exact gL6 (by assumption)) (by first | rfl | exact gC1 (by assumption) | exact gC2 (by assumption) | exact gC3 (by assumption) | exact gL1 (by assumption) | exact gL2 (by assumption) | exact gL3 (by assumption) | exact gL4 (by assumption) | exact gL5 (by assumption) | exact gL6 (by assumption)) (by decide) (by decide) (by decide) (Nat.le_of_ble_eq_true rfl) ?_
  refine Rn.aload_n dX0_copyFrom_102 rfl rfl ?_
  refine Rn.getR dX0_copyFrom_103 fd_X0_28_0 (by first | rfl | exact gC0 (by assumption) | exact gL0 (by assumption)) rfl ?_
  refine Rn.iconst (v := (nI 0)) dX0_copyFrom_106 rfl ?_
  refine Rn.aload_n dX0_copyFrom_107 rfl rfl ?_
  refine Rn.getR dX0_copyFrom_108 fd_X0_28_0 (by first | rfl | exact gC0 (by assumption) | exact gL0 (by assumption)) rfl ?_
  refine Rn.iconst (v := (nI 0)) dX0_copyFrom_111 rfl ?_
  refine Rn.sipush (v := (nI 240)) dX0_copyFrom_112 rfl ?_
  refine Rn.acopy dX0_copyFrom_115 ac_X0_49 (by first | rfl | exact gC1 (by assumption) | exact gC2 (by assumption) | exact gC3 (by assumption) | exact gL1 (by assumption) | exact gL2 (by assumption) | exact gL3 (by assumption) | exact gL4 (by assumption) | exact gL5 (by assumption) | exact gL6 (by assumption)) (by first | rfl | exact gC1 (by assumption) | exact gC2 (by assumption) | exact gC3 (by assumption) | exact gL1 (by assumption) | exact gL2 (by assumption) | exact gL3 (by assumption) | exact gL4 (by assumption) | exact gL5 (by assumption) | exact gL6 (by assumption)) (by decide) (by decide) (by decide) (Nat.le_of_ble_eq_true rfl) ?_
  exact Rn.vret dX0_copyFrom_118 rfl (⟨rfl, rfl⟩)
theorem ct_copy_7_3 : Ct G GAM mX0_copyFrom d 0 [.ref 3, .ref 7] I (Rp none (cpC I 7 3)) := by
  refine Ct.mk [some (.ref 3), some (.ref 7)] ?_
  refine Rn.aload_n dX0_copyFrom_0 rfl rfl ?_
  refine Rn.aload_n dX0_copyFrom_1 rfl rfl ?_
  refine Rn.getI dX0_copyFrom_2 fd_X0_31_0 (by first | rfl | exact gC0 (by assumption) | exact gL0 (by assumption)) rfl ?_
  refine Rn.putI dX0_copyFrom_5 fp_X0_31_0 (by first | rfl | exact gC0 (by assumption) | exact gL0 (by assumption)) rfl ?_
  refine Rn.aload_n dX0_copyFrom_8 rfl rfl ?_
  refine Rn.aload_n dX0_copyFrom_9 rfl rfl ?_
  refine Rn.getI dX0_copyFrom_10 fd_X0_34_0 (by first | rfl | exact gC0 (by assumption) | exact gL0 (by assumption)) rfl ?_
  refine Rn.putI dX0_copyFrom_13 fp_X0_34_0 (by first | rfl | exact gC0 (by assumption) | exact gL0 (by assumption)) rfl ?_
  refine Rn.aload_n dX0_copyFrom_16 rfl rfl ?_
  refine Rn.aload_n dX0_copyFrom_17 rfl rfl ?_
  refine Rn.getI dX0_copyFrom_18 fd_X0_37_0 (by first | rfl | exact gC0 (by assumption) | exact gL0 (by assumption)) rfl ?_
  refine Rn.putI dX0_copyFrom_21 fp_X0_37_0 (by first | rfl | exact gC0 (by assumption) | exact gL0 (by assumption)) rfl ?_
  refine Rn.aload_n dX0_copyFrom_24 rfl rfl ?_
  refine Rn.aload_n dX0_copyFrom_25 rfl rfl ?_
  refine Rn.getI dX0_copyFrom_26 fd_X0_40_0 (by first | rfl | exact gC0 (by assumption) | exact gL0 (by assumption)) rfl ?_
  refine Rn.putI dX0_copyFrom_29 fp_X0_40_0 (by first | rfl | exact gC0 (by assumption) | exact gL0 (by assumption)) rfl ?_
  refine Rn.aload_n dX0_copyFrom_32 rfl rfl ?_
  refine Rn.aload_n dX0_copyFrom_33 rfl rfl ?_
  refine Rn.getI dX0_copyFrom_34 fd_X0_9_0 (by first | rfl | exact gC0 (by assumption) | exact gL0 (by assumption)) rfl ?_
  refine Rn.putI dX0_copyFrom_37 fp_X0_9_0 (by first | rfl | exact gC0 (by assumption) | exact gL0 (by assumption)) rfl ?_
  refine Rn.aload_n dX0_copyFrom_40 rfl rfl ?_
  refine Rn.aload_n dX0_copyFrom_41 rfl rfl ?_
  refine Rn.getI dX0_copyFrom_42 fd_X0_15_0 (by first | rfl | exact gC0 (by assumption) | exact gL0 (by assumption)) rfl ?_
  refine Rn.putI dX0_copyFrom_45 fp_X0_15_0 (by first | rfl | exact gC0 (by assumption) | exact gL0 (by assumption)) rfl ?_
  refine Rn.aload_n dX0_copyFrom_48 rfl rfl ?_
  refine Rn.aload_n dX0_copyFrom_49 rfl rfl ?_
  refine Rn.getI dX0_copyFrom_50 fd_X0_18_0 (by first | rfl | exact gC0 (by assumption) | exact gL0 (by assumption)) rfl ?_
  refine Rn.putI dX0_copyFrom_53 fp_X0_18_0 (by first | rfl | exact gC0 (by assumption) | exact gL0 (by assumption)) rfl ?_
  refine Rn.aload_n dX0_copyFrom_56 rfl rfl ?_
  refine Rn.aload_n dX0_copyFrom_57 rfl rfl ?_
  refine Rn.getI dX0_copyFrom_58 fd_X0_43_0 (by first | rfl | exact gC0 (by assumption) | exact gL0 (by assumption)) rfl ?_
  refine Rn.putI dX0_copyFrom_61 fp_X0_43_0 (by first | rfl | exact gC0 (by assumption) | exact gL0 (by assumption)) rfl ?_
  refine Rn.aload_n dX0_copyFrom_64 rfl rfl ?_
  refine Rn.aload_n dX0_copyFrom_65 rfl rfl ?_
  refine Rn.getI dX0_copyFrom_66 fd_X0_46_0 (by first | rfl | exact gC0 (by assumption) | exact gL0 (by assumption)) rfl ?_
  refine Rn.putI dX0_copyFrom_69 fp_X0_46_0 (by first | rfl | exact gC0 (by assumption) | exact gL0 (by assumption)) rfl ?_
  refine Rn.aload_n dX0_copyFrom_72 rfl rfl ?_
  refine Rn.getR dX0_copyFrom_73 fd_X0_21_0 (by first | rfl | exact gC0 (by assumption) | exact gL0 (by assumption)) rfl ?_
  refine Rn.iconst (v := (nI 0)) dX0_copyFrom_76 rfl ?_
  refine Rn.aload_n dX0_copyFrom_77 rfl rfl ?_
  refine Rn.getR dX0_copyFrom_78 fd_X0_21_0 (by first | rfl | exact gC0 (by assumption) | exact gL0 (by assumption)) rfl ?_
  refine Rn.iconst (v := (nI 0)) dX0_copyFrom_81 rfl ?_
  refine Rn.bipush (v := (nI 56)) dX0_copyFrom_82 rfl ?_
  refine Rn.acopy dX0_copyFrom_84 ac_X0_49 (by first | rfl | exact gC1 (by assumption) | exact gC2 (by assumption) | exact gC3 (by assumption) | exact gL1 (by assumption) | exact gL2 (by assumption) | exact gL3 (by assumption) | exact gL4 (by assumption) | exact gL5 (by assumption) | exact gL6 (by assumption)) (by first | rfl | exact gC1 (by assumption) | exact gC2 (by assumption) | exact gC3 (by assumption) | exact gL1 (by assumption) | exact gL2 (by assumption) | exact gL3 (by assumption) | exact gL4 (by assumption) | exact gL5 (by assumption) | exact gL6 (by assumption)) (by decide) (by decide) (by decide) (Nat.le_of_ble_eq_true rfl) ?_
  refine Rn.aload_n dX0_copyFrom_87 rfl rfl ?_
  refine Rn.getR dX0_copyFrom_88 fd_X0_25_0 (by first | rfl | exact gC0 (by assumption) | exact gL0 (by assumption)) rfl ?_
  refine Rn.iconst (v := (nI 0)) dX0_copyFrom_91 rfl ?_
  refine Rn.aload_n dX0_copyFrom_92 rfl rfl ?_
  refine Rn.getR dX0_copyFrom_93 fd_X0_25_0 (by first | rfl | exact gC0 (by assumption) | exact gL0 (by assumption)) rfl ?_
  refine Rn.iconst (v := (nI 0)) dX0_copyFrom_96 rfl ?_
  refine Rn.bipush (v := (nI 72)) dX0_copyFrom_97 rfl ?_
  refine Rn.acopy dX0_copyFrom_99 ac_X0_49 (by first | rfl | exact gC1 (by assumption) | exact gC2 (by assumption) | exact gC3 (by assumption) | exact gL1 (by assumption) | exact gL2 (by assumption) | exact gL3 (by assumption) | exact gL4 (by assumption) | exact gL5 (by assumption) | exact gL6 (by assumption)) (by first | rfl | exact gC1 (by assumption) | exact gC2 (by assumption) | exact gC3 (by assumption) | exact gL1 (by assumption) | exact gL2 (by assumption) | exact gL3 (by assumption) | exact gL4 (by assumption) | exact gL5 (by assumption) | exact gL6 (by assumption)) (by decide) (by decide) (by decide) (Nat.le_of_ble_eq_true rfl) ?_
  refine Rn.aload_n dX0_copyFrom_102 rfl rfl ?_
  refine Rn.getR dX0_copyFrom_103 fd_X0_28_0 (by first | rfl | exact gC0 (by assumption) | exact gL0 (by assumption)) rfl ?_
  refine Rn.iconst (v := (nI 0)) dX0_copyFrom_106 rfl ?_
  refine Rn.aload_n dX0_copyFrom_107 rfl rfl ?_
  refine Rn.getR dX0_copyFrom_108 fd_X0_28_0 (by first | rfl | exact gC0 (by assumption) | exact gL0 (by assumption)) rfl ?_
  refine Rn.iconst (v := (nI 0)) dX0_copyFrom_111 rfl ?_
  refine Rn.sipush (v := (nI 240)) dX0_copyFrom_112 rfl ?_
  refine Rn.acopy dX0_copyFrom_115 ac_X0_49 (by first | rfl | exact gC1 (by assumption) | exact gC2 (by assumption) | exact gC3 (by assumption) | exact gL1 (by assumption) | exact gL2 (by assumption) | exact gL3 (by assumption) | exact gL4 (by assumption) | exact gL5 (by assumption) | exact gL6 (by assumption)) (by first | rfl | exact gC1 (by assumption) | exact gC2 (by assumption) | exact gC3 (by assumption) | exact gL1 (by assumption) | exact gL2 (by assumption) | exact gL3 (by assumption) | exact gL4 (by assumption) | exact gL5 (by assumption) | exact gL6 (by assumption)) (by decide) (by decide) (by decide) (Nat.le_of_ble_eq_true rfl) ?_
  exact Rn.vret dX0_copyFrom_118 rfl (⟨rfl, rfl⟩)
theorem ct_copyL_16_30 : Ct G GAM mX2_copyFrom d 0 [.ref 30, .ref 16] I (Rp none (cpL I 16 30)) := by
  refine Ct.mk [some (.ref 30), some (.ref 16)] ?_
  refine Rn.aload_n dX2_copyFrom_0 rfl rfl ?_
  refine Rn.aload_n dX2_copyFrom_1 rfl rfl ?_
  refine Rn.getI dX2_copyFrom_2 fd_X2_9_2 (by first | rfl | exact gC0 (by assumption) | exact gL0 (by assumption)) rfl ?_
  refine Rn.putI dX2_copyFrom_5 fp_X2_9_2 (by first | rfl | exact gC0 (by assumption) | exact gL0 (by assumption)) rfl ?_
  refine Rn.aload_n dX2_copyFrom_8 rfl rfl ?_
  refine Rn.aload_n dX2_copyFrom_9 rfl rfl ?_
  refine Rn.getI dX2_copyFrom_10 fd_X2_34_2 (by first | rfl | exact gC0 (by assumption) | exact gL0 (by assumption)) rfl ?_
  refine Rn.putI dX2_copyFrom_13 fp_X2_34_2 (by first | rfl | exact gC0 (by assumption) | exact gL0 (by assumption)) rfl ?_
  refine Rn.aload_n dX2_copyFrom_16 rfl rfl ?_
  refine Rn.getR dX2_copyFrom_17 fd_X2_15_2 (by first | rfl | exact gC0 (by assumption) | exact gL0 (by assumption)) rfl ?_
  refine Rn.iconst (v := (nI 0)) dX2_copyFrom_20 rfl ?_
  refine Rn.aload_n dX2_copyFrom_21 rfl rfl ?_
  refine Rn.getR dX2_copyFrom_22 fd_X2_15_2 (by first | rfl | exact gC0 (by assumption) | exact gL0 (by assumption)) rfl ?_
  refine Rn.iconst (v := (nI 0)) dX2_copyFrom_25 rfl ?_
  refine Rn.bipush (v := (nI 12)) dX2_copyFrom_26 rfl ?_
  refine Rn.acopy dX2_copyFrom_28 ac_X2_37 (by first | rfl | exact gC1 (by assumption) | exact gC2 (by assumption) | exact gC3 (by assumption) | exact gL1 (by assumption) | exact gL2 (by assumption) | exact gL3 (by assumption) | exact gL4 (by assumption) | exact gL5 (by assumption) | exact gL6 (by assumption)) (by first | rfl | exact gC1 (by assumption) | exact gC2 (by assumption) | exact gC3 (by assumption) | exact gL1 (by assumption) | exact gL2 (by assumption) | exact gL3 (by assumption) | exact gL4 (by assumption) | exact gL5 (by assumption) | exact gL6 (by assumption)) (by decide) (by decide) (by decide) (Nat.le_of_ble_eq_true rfl) ?_
  refine Rn.aload_n dX2_copyFrom_31 rfl rfl ?_
  refine Rn.getR dX2_copyFrom_32 fd_X2_19_2 (by first | rfl | exact gC0 (by assumption) | exact gL0 (by assumption)) rfl ?_
  refine Rn.iconst (v := (nI 0)) dX2_copyFrom_35 rfl ?_
  refine Rn.aload_n dX2_copyFrom_36 rfl rfl ?_
  refine Rn.getR dX2_copyFrom_37 fd_X2_19_2 (by first | rfl | exact gC0 (by assumption) | exact gL0 (by assumption)) rfl ?_
  refine Rn.iconst (v := (nI 0)) dX2_copyFrom_40 rfl ?_
  refine Rn.bipush (v := (nI 12)) dX2_copyFrom_41 rfl ?_
  refine Rn.acopy dX2_copyFrom_43 ac_X2_37 (by first | rfl | exact gC1 (by assumption) | exact gC2 (by assumption) | exact gC3 (by assumption) | exact gL1 (by assumption) | exact gL2 (by assumption) | exact gL3 (by assumption) | exact gL4 (by assumption) | exact gL5 (by assumption) | exact gL6 (by assumption)) (by first | rfl | exact gC1 (by assumption) | exact gC2 (by assumption) | exact gC3 (by assumption) | exact gL1 (by assumption) | exact gL2 (by assumption) | exact gL3 (by assumption) | exact gL4 (by assumption) | exact gL5 (by assumption) | exact gL6 (by assumption)) (by decide) (by decide) (by decide) (Nat.le_of_ble_eq_true rfl) ?_
  refine Rn.aload_n dX2_copyFrom_46 rfl rfl ?_
  refine Rn.getR dX2_copyFrom_47 fd_X2_22_2 (by first | rfl | exact gC0 (by assumption) | exact gL0 (by assumption)) rfl ?_
  refine Rn.iconst (v := (nI 0)) dX2_copyFrom_50 rfl ?_
  refine Rn.aload_n dX2_copyFrom_51 rfl rfl ?_
  refine Rn.getR dX2_copyFrom_52 fd_X2_22_2 (by first | rfl | exact gC0 (by assumption) | exact gL0 (by assumption)) rfl ?_
  refine Rn.iconst (v := (nI 0)) dX2_copyFrom_55 rfl ?_
  refine Rn.bipush (v := (nI 12)) dX2_copyFrom_56 rfl ?_
  refine Rn.acopy dX2_copyFrom_58 ac_X2_37 (by first | rfl | exact gC1 (by assumption) | exact gC2 (by assumption) | exact gC3 (by assumption) | exact gL1 (by assumption) | exact gL2 (by assumption) | exact gL3 (by assumption) | exact gL4 (by assumption) | exact gL5 (by assumption) | exact gL6 (by assumption)) (by first | rfl | exact gC1 (by assumption) | exact gC2 (by assumption) | exact gC3 (by assumption) | exact gL1 (by assumption) | exact gL2 (by assumption) | exact gL3 (by assumption) | exact gL4 (by assumption) | exact gL5 (by assumption) | exact gL6 (by assumption)) (by decide) (by decide) (by decide) (Nat.le_of_ble_eq_true rfl) ?_
  refine Rn.aload_n dX2_copyFrom_61 rfl rfl ?_
  refine Rn.getR dX2_copyFrom_62 fd_X2_25_2 (by first | rfl | exact gC0 (by assumption) | exact gL0 (by assumption)) rfl ?_
  refine Rn.iconst (v := (nI 0)) dX2_copyFrom_65 rfl ?_
  refine Rn.aload_n dX2_copyFrom_66 rfl rfl ?_
  refine Rn.getR dX2_copyFrom_67 fd_X2_25_2 (by first | rfl | exact gC0 (by assumption) | exact gL0 (by assumption)) rfl ?_
  refine Rn.iconst (v := (nI 0)) dX2_copyFrom_70 rfl ?_
  refine Rn.sipush (v := (nI 400)) dX2_copyFrom_71 rfl ?_
  refine Rn.acopy dX2_copyFrom_74 ac_X2_37 (by first | rfl | exact gC1 (by assumption) | exact gC2 (by assumption) | exact gC3 (by assumption) | exact gL1 (by assumption) | exact gL2 (by assumption) | exact gL3 (by assumption) | exact gL4 (by assumption) | exact gL5 (by assumption) | exact gL6 (by assumption)) (by first | rfl | exact gC1 (by assumption) | exact gC2 (by assumption) | exact gC3 (by assumption) | exact gL1 (by assumption) | exact gL2 (by assumption) | exact gL3 (by assumption) | exact gL4 (by assumption) | exact gL5 (by assumption) | exact gL6 (by assumption)) (by decide) (by decide) (by decide) (Nat.le_of_ble_eq_true rfl) ?_
  exact Rn.vret dX2_copyFrom_77 rfl (⟨rfl, rfl⟩)
theorem ct_copyL_23_16 : Ct G GAM mX2_copyFrom d 0 [.ref 16, .ref 23] I (Rp none (cpL I 23 16)) := by
  refine Ct.mk [some (.ref 16), some (.ref 23)] ?_
  refine Rn.aload_n dX2_copyFrom_0 rfl rfl ?_
  refine Rn.aload_n dX2_copyFrom_1 rfl rfl ?_
  refine Rn.getI dX2_copyFrom_2 fd_X2_9_2 (by first | rfl | exact gC0 (by assumption) | exact gL0 (by assumption)) rfl ?_
  refine Rn.putI dX2_copyFrom_5 fp_X2_9_2 (by first | rfl | exact gC0 (by assumption) | exact gL0 (by assumption)) rfl ?_
  refine Rn.aload_n dX2_copyFrom_8 rfl rfl ?_
  refine Rn.aload_n dX2_copyFrom_9 rfl rfl ?_
  refine Rn.getI dX2_copyFrom_10 fd_X2_34_2 (by first | rfl | exact gC0 (by assumption) | exact gL0 (by assumption)) rfl ?_
  refine Rn.putI dX2_copyFrom_13 fp_X2_34_2 (by first | rfl | exact gC0 (by assumption) | exact gL0 (by assumption)) rfl ?_
  refine Rn.aload_n dX2_copyFrom_16 rfl rfl ?_
  refine Rn.getR dX2_copyFrom_17 fd_X2_15_2 (by first | rfl | exact gC0 (by assumption) | exact gL0 (by assumption)) rfl ?_
  refine Rn.iconst (v := (nI 0)) dX2_copyFrom_20 rfl ?_
  refine Rn.aload_n dX2_copyFrom_21 rfl rfl ?_
  refine Rn.getR dX2_copyFrom_22 fd_X2_15_2 (by first | rfl | exact gC0 (by assumption) | exact gL0 (by assumption)) rfl ?_
  refine Rn.iconst (v := (nI 0)) dX2_copyFrom_25 rfl ?_
  refine Rn.bipush (v := (nI 12)) dX2_copyFrom_26 rfl ?_
  refine Rn.acopy dX2_copyFrom_28 ac_X2_37 (by first | rfl | exact gC1 (by assumption) | exact gC2 (by assumption) | exact gC3 (by assumption) | exact gL1 (by assumption) | exact gL2 (by assumption) | exact gL3 (by assumption) | exact gL4 (by assumption) | exact gL5 (by assumption) | exact gL6 (by assumption)) (by first | rfl | exact gC1 (by assumption) | exact gC2 (by assumption) | exact gC3 (by assumption) | exact gL1 (by assumption) | exact gL2 (by assumption) | exact gL3 (by assumption) | exact gL4 (by assumption) | exact gL5 (by assumption) | exact gL6 (by assumption)) (by decide) (by decide) (by decide) (Nat.le_of_ble_eq_true rfl) ?_
  refine Rn.aload_n dX2_copyFrom_31 rfl rfl ?_
  refine Rn.getR dX2_copyFrom_32 fd_X2_19_2 (by first | rfl | exact gC0 (by assumption) | exact gL0 (by assumption)) rfl ?_
  refine Rn.iconst (v := (nI 0)) dX2_copyFrom_35 rfl ?_
  refine Rn.aload_n dX2_copyFrom_36 rfl rfl ?_
  refine Rn.getR dX2_copyFrom_37 fd_X2_19_2 (by first | rfl | exact gC0 (by assumption) | exact gL0 (by assumption)) rfl ?_
  refine Rn.iconst (v := (nI 0)) dX2_copyFrom_40 rfl ?_
  refine Rn.bipush (v := (nI 12)) dX2_copyFrom_41 rfl ?_
  refine Rn.acopy dX2_copyFrom_43 ac_X2_37 (by first | rfl | exact gC1 (by assumption) | exact gC2 (by assumption) | exact gC3 (by assumption) | exact gL1 (by assumption) | exact gL2 (by assumption) | exact gL3 (by assumption) | exact gL4 (by assumption) | exact gL5 (by assumption) | exact gL6 (by assumption)) (by first | rfl | exact gC1 (by assumption) | exact gC2 (by assumption) | exact gC3 (by assumption) | exact gL1 (by assumption) | exact gL2 (by assumption) | exact gL3 (by assumption) | exact gL4 (by assumption) | exact gL5 (by assumption) | exact gL6 (by assumption)) (by decide) (by decide) (by decide) (Nat.le_of_ble_eq_true rfl) ?_
  refine Rn.aload_n dX2_copyFrom_46 rfl rfl ?_
  refine Rn.getR dX2_copyFrom_47 fd_X2_22_2 (by first | rfl | exact gC0 (by assumption) | exact gL0 (by assumption)) rfl ?_
  refine Rn.iconst (v := (nI 0)) dX2_copyFrom_50 rfl ?_
  refine Rn.aload_n dX2_copyFrom_51 rfl rfl ?_
  refine Rn.getR dX2_copyFrom_52 fd_X2_22_2 (by first | rfl | exact gC0 (by assumption) | exact gL0 (by assumption)) rfl ?_
  refine Rn.iconst (v := (nI 0)) dX2_copyFrom_55 rfl ?_
  refine Rn.bipush (v := (nI 12)) dX2_copyFrom_56 rfl ?_
  refine Rn.acopy dX2_copyFrom_58 ac_X2_37 (by first | rfl | exact gC1 (by assumption) | exact gC2 (by assumption) | exact gC3 (by assumption) | exact gL1 (by assumption) | exact gL2 (by assumption) | exact gL3 (by assumption) | exact gL4 (by assumption) | exact gL5 (by assumption) | exact gL6 (by assumption)) (by first | rfl | exact gC1 (by assumption) | exact gC2 (by assumption) | exact gC3 (by assumption) | exact gL1 (by assumption) | exact gL2 (by assumption) | exact gL3 (by assumption) | exact gL4 (by assumption) | exact gL5 (by assumption) | exact gL6 (by assumption)) (by decide) (by decide) (by decide) (Nat.le_of_ble_eq_true rfl) ?_
  refine Rn.aload_n dX2_copyFrom_61 rfl rfl ?_
  refine Rn.getR dX2_copyFrom_62 fd_X2_25_2 (by first | rfl | exact gC0 (by assumption) | exact gL0 (by assumption)) rfl ?_
  refine Rn.iconst (v := (nI 0)) dX2_copyFrom_65 rfl ?_
  refine Rn.aload_n dX2_copyFrom_66 rfl rfl ?_
  refine Rn.getR dX2_copyFrom_67 fd_X2_25_2 (by first | rfl | exact gC0 (by assumption) | exact gL0 (by assumption)) rfl ?_
  refine Rn.iconst (v := (nI 0)) dX2_copyFrom_70 rfl ?_
  refine Rn.sipush (v := (nI 400)) dX2_copyFrom_71 rfl ?_
  refine Rn.acopy dX2_copyFrom_74 ac_X2_37 (by first | rfl | exact gC1 (by assumption) | exact gC2 (by assumption) | exact gC3 (by assumption) | exact gL1 (by assumption) | exact gL2 (by assumption) | exact gL3 (by assumption) | exact gL4 (by assumption) | exact gL5 (by assumption) | exact gL6 (by assumption)) (by first | rfl | exact gC1 (by assumption) | exact gC2 (by assumption) | exact gC3 (by assumption) | exact gL1 (by assumption) | exact gL2 (by assumption) | exact gL3 (by assumption) | exact gL4 (by assumption) | exact gL5 (by assumption) | exact gL6 (by assumption)) (by decide) (by decide) (by decide) (Nat.le_of_ble_eq_true rfl) ?_
  exact Rn.vret dX2_copyFrom_77 rfl (⟨rfl, rfl⟩)
theorem ct_X9_image : Ct G GAM mX9_image (d + 1) 0 [.ref 0] I (Rp none (zup (cpL (cpC I 3 11) 16 30) 0 11 (nI 1))) := by
  refine Ct.mk [some (.ref 0)] ?_
  refine Rn.aload_n dX9_image_0 rfl rfl ?_
  refine Rn.getR dX9_image_1 fd_X9_26_8 (by first | rfl | exact gC0 (by assumption) | exact gL0 (by assumption)) rfl ?_
  refine Rn.aload_n dX9_image_4 rfl rfl ?_
  refine Rn.getR dX9_image_5 fd_X9_19_8 (by first | rfl | exact gC0 (by assumption) | exact gL0 (by assumption)) rfl ?_
  refine Rn.callVp (As := [_]) dX9_image_8 mv_X9_91 (by first | rfl | exact gC0 (by assumption) | exact gL0 (by assumption)) rfl rfl rfl (Nat.le_of_ble_eq_true rfl) (ct_copy_3_11 G _ _) ?_
  refine Rn.aload_n dX9_image_11 rfl rfl ?_
  refine Rn.getR dX9_image_12 fd_X9_43_8 (by first | rfl | exact gC0 (by assumption) | exact gL0 (by assumption)) rfl ?_
  refine Rn.aload_n dX9_image_15 rfl rfl ?_
  refine Rn.getR dX9_image_16 fd_X9_32_8 (by first | rfl | exact gC0 (by assumption) | exact gL0 (by assumption)) rfl ?_
  refine Rn.getR dX9_image_19 fd_X9_125_5 (by first | rfl | exact gC0 (by assumption) | exact gL0 (by assumption)) rfl ?_
  refine Rn.callVp (As := [_]) dX9_image_22 mv_X9_128 (by first | rfl | exact gC0 (by assumption) | exact gL0 (by assumption)) rfl rfl rfl (Nat.le_of_ble_eq_true rfl) (ct_copyL_16_30 G _ _) ?_
  refine Rn.aload_n dX9_image_25 rfl rfl ?_
  refine Rn.iconst (v := (nI 1)) dX9_image_26 rfl ?_
  refine Rn.put dX9_image_27 fp_X9_342_8 (by first | rfl | exact gC0 (by assumption) | exact gL0 (by assumption)) rfl ⟨rfl, rfl⟩ ?_
  exact Rn.vret dX9_image_30 rfl (⟨rfl, rfl⟩)
theorem ct_soldFor (h1 : I 3 1 = nI 0) (x : Int32) : Ct G GAM mX0_soldFor d 0 [.ref 3, .int x] I (Rp (some (.int (nI 0))) I) := by
  refine Ct.mk [some (.ref 3), some (.int x), none, none] ?_
  refine Rn.iconst (v := (nI 0)) dX0_soldFor_0 rfl ?_
  refine Rn.istore_n dX0_soldFor_1 rfl (by decide) ?_
  refine Rn.iconst (v := (nI 0)) dX0_soldFor_2 rfl ?_
  refine Rn.istore_n dX0_soldFor_3 rfl (by decide) ?_
  refine Rn.iload_n dX0_soldFor_4 rfl rfl ?_
  refine Rn.aload_n dX0_soldFor_5 rfl rfl ?_
  refine Rn.getI dX0_soldFor_6 fd_X0_34_0 (by first | rfl | exact gC0 (by assumption) | exact gL0 (by assumption)) rfl ?_
  refine Rn.topI (nI 0) h1 ?_
  refine Rn.icmp_ge (tgt := 51) dX0_soldFor_9 (by decide) (fun _ => ?_) (fun h9 => absurd h9 (by decide))
  refine Rn.iload_n dX0_soldFor_51 rfl rfl ?_
  exact Rn.iret dX0_soldFor_52 rfl (⟨rfl, rfl⟩)
theorem ct_X9_dearest (F : FC I) : Ct G GAM mX9_dearest (d + 1) 0 [.ref 0] I (Rp (some (.int (nI 0))) I) := by
  obtain ⟨h3_0, h3_1, h3_2, h3_3, h3_4, h3_5, h3_6, h3_7, h3_8, h0_11, h0_12, h1_1, h16_0, h44_1, h44_2⟩ := F
  refine Ct.mk [some (.ref 0), none, none] ?_
  refine Rn.iconst (v := (nI 0)) dX9_dearest_0 rfl ?_
  refine Rn.istore_n dX9_dearest_1 rfl (by decide) ?_
  refine Rn.iconst (v := (nI 1)) dX9_dearest_2 rfl ?_
  refine Rn.istore_n dX9_dearest_3 rfl (by decide) ?_
  refine Rn.iload_n dX9_dearest_4 rfl rfl ?_
  refine Rn.bipush (v := (nI 50)) dX9_dearest_5 rfl ?_
  refine Rn.icmp_gt (tgt := 37) dX9_dearest_7 (by decide) (fun h9 => absurd h9 (by decide)) (fun _ => ?_)
  refine Rn.aload_n dX9_dearest_10 rfl rfl ?_
  refine Rn.getR dX9_dearest_11 fd_X9_19_8 (by first | rfl | exact gC0 (by assumption) | exact gL0 (by assumption)) rfl ?_
  refine Rn.iload_n dX9_dearest_14 rfl rfl ?_
  refine Rn.callVp (As := [_]) dX9_dearest_15 mv_X9_303 (by first | rfl | exact gC0 (by assumption) | exact gL0 (by assumption)) rfl rfl rfl (Nat.le_of_ble_eq_true rfl) (ct_soldFor G _ _ (by exact h3_1) _) ?_
  refine Rn.aload_n dX9_dearest_18 rfl rfl ?_
  refine Rn.getR dX9_dearest_19 fd_X9_19_8 (by first | rfl | exact gC0 (by assumption) | exact gL0 (by assumption)) rfl ?_
  refine Rn.iload_n dX9_dearest_22 rfl rfl ?_
  refine Rn.callVp (As := [_]) dX9_dearest_23 mv_X9_303 (by first | rfl | exact gC0 (by assumption) | exact gL0 (by assumption)) rfl rfl rfl (Nat.le_of_ble_eq_true rfl) (ct_soldFor G _ _ (by exact h3_1) _) ?_
  refine Rn.icmp_le (tgt := 31) dX9_dearest_26 (by decide) (fun _ => ?_) (fun h9 => absurd h9 (by decide))
  refine Rn.iincN dX9_dearest_31 rfl (by decide) ?_
  refine Rn.goto 4 dX9_dearest_34 (by decide) ?_
  refine Rn.iload_n dX9_dearest_4 rfl rfl ?_
  refine Rn.bipush (v := (nI 50)) dX9_dearest_5 rfl ?_
  refine Rn.icmp_gt (tgt := 37) dX9_dearest_7 (by decide) (fun h9 => absurd h9 (by decide)) (fun _ => ?_)
  refine Rn.aload_n dX9_dearest_10 rfl rfl ?_
  refine Rn.getR dX9_dearest_11 fd_X9_19_8 (by first | rfl | exact gC0 (by assumption) | exact gL0 (by assumption)) rfl ?_
  refine Rn.iload_n dX9_dearest_14 rfl rfl ?_
  refine Rn.callVp (As := [_]) dX9_dearest_15 mv_X9_303 (by first | rfl | exact gC0 (by assumption) | exact gL0 (by assumption)) rfl rfl rfl (Nat.le_of_ble_eq_true rfl) (ct_soldFor G _ _ (by exact h3_1) _) ?_
  refine Rn.aload_n dX9_dearest_18 rfl rfl ?_
  refine Rn.getR dX9_dearest_19 fd_X9_19_8 (by first | rfl | exact gC0 (by assumption) | exact gL0 (by assumption)) rfl ?_
  refine Rn.iload_n dX9_dearest_22 rfl rfl ?_
  refine Rn.callVp (As := [_]) dX9_dearest_23 mv_X9_303 (by first | rfl | exact gC0 (by assumption) | exact gL0 (by assumption)) rfl rfl rfl (Nat.le_of_ble_eq_true rfl) (ct_soldFor G _ _ (by exact h3_1) _) ?_
  refine Rn.icmp_le (tgt := 31) dX9_dearest_26 (by decide) (fun _ => ?_) (fun h9 => absurd h9 (by decide))
  refine Rn.iincN dX9_dearest_31 rfl (by decide) ?_
  refine Rn.goto 4 dX9_dearest_34 (by decide) ?_
  refine Rn.iload_n dX9_dearest_4 rfl rfl ?_
  refine Rn.bipush (v := (nI 50)) dX9_dearest_5 rfl ?_
  refine Rn.icmp_gt (tgt := 37) dX9_dearest_7 (by decide) (fun h9 => absurd h9 (by decide)) (fun _ => ?_)
  refine Rn.aload_n dX9_dearest_10 rfl rfl ?_
  refine Rn.getR dX9_dearest_11 fd_X9_19_8 (by first | rfl | exact gC0 (by assumption) | exact gL0 (by assumption)) rfl ?_
  refine Rn.iload_n dX9_dearest_14 rfl rfl ?_
  refine Rn.callVp (As := [_]) dX9_dearest_15 mv_X9_303 (by first | rfl | exact gC0 (by assumption) | exact gL0 (by assumption)) rfl rfl rfl (Nat.le_of_ble_eq_true rfl) (ct_soldFor G _ _ (by exact h3_1) _) ?_
  refine Rn.aload_n dX9_dearest_18 rfl rfl ?_
  refine Rn.getR dX9_dearest_19 fd_X9_19_8 (by first | rfl | exact gC0 (by assumption) | exact gL0 (by assumption)) rfl ?_
  refine Rn.iload_n dX9_dearest_22 rfl rfl ?_
  refine Rn.callVp (As := [_]) dX9_dearest_23 mv_X9_303 (by first | rfl | exact gC0 (by assumption) | exact gL0 (by assumption)) rfl rfl rfl (Nat.le_of_ble_eq_true rfl) (ct_soldFor G _ _ (by exact h3_1) _) ?_
  refine Rn.icmp_le (tgt := 31) dX9_dearest_26 (by decide) (fun _ => ?_) (fun h9 => absurd h9 (by decide))
  refine Rn.iincN dX9_dearest_31 rfl (by decide) ?_
  refine Rn.goto 4 dX9_dearest_34 (by decide) ?_
  refine Rn.iload_n dX9_dearest_4 rfl rfl ?_
  refine Rn.bipush (v := (nI 50)) dX9_dearest_5 rfl ?_
  refine Rn.icmp_gt (tgt := 37) dX9_dearest_7 (by decide) (fun h9 => absurd h9 (by decide)) (fun _ => ?_)
  refine Rn.aload_n dX9_dearest_10 rfl rfl ?_
  refine Rn.getR dX9_dearest_11 fd_X9_19_8 (by first | rfl | exact gC0 (by assumption) | exact gL0 (by assumption)) rfl ?_
  refine Rn.iload_n dX9_dearest_14 rfl rfl ?_
  refine Rn.callVp (As := [_]) dX9_dearest_15 mv_X9_303 (by first | rfl | exact gC0 (by assumption) | exact gL0 (by assumption)) rfl rfl rfl (Nat.le_of_ble_eq_true rfl) (ct_soldFor G _ _ (by exact h3_1) _) ?_
  refine Rn.aload_n dX9_dearest_18 rfl rfl ?_
  refine Rn.getR dX9_dearest_19 fd_X9_19_8 (by first | rfl | exact gC0 (by assumption) | exact gL0 (by assumption)) rfl ?_
  refine Rn.iload_n dX9_dearest_22 rfl rfl ?_
  refine Rn.callVp (As := [_]) dX9_dearest_23 mv_X9_303 (by first | rfl | exact gC0 (by assumption) | exact gL0 (by assumption)) rfl rfl rfl (Nat.le_of_ble_eq_true rfl) (ct_soldFor G _ _ (by exact h3_1) _) ?_
  refine Rn.icmp_le (tgt := 31) dX9_dearest_26 (by decide) (fun _ => ?_) (fun h9 => absurd h9 (by decide))
  refine Rn.iincN dX9_dearest_31 rfl (by decide) ?_
  refine Rn.goto 4 dX9_dearest_34 (by decide) ?_
  refine Rn.iload_n dX9_dearest_4 rfl rfl ?_
  refine Rn.bipush (v := (nI 50)) dX9_dearest_5 rfl ?_
  refine Rn.icmp_gt (tgt := 37) dX9_dearest_7 (by decide) (fun h9 => absurd h9 (by decide)) (fun _ => ?_)
  refine Rn.aload_n dX9_dearest_10 rfl rfl ?_
  refine Rn.getR dX9_dearest_11 fd_X9_19_8 (by first | rfl | exact gC0 (by assumption) | exact gL0 (by assumption)) rfl ?_
  refine Rn.iload_n dX9_dearest_14 rfl rfl ?_
  refine Rn.callVp (As := [_]) dX9_dearest_15 mv_X9_303 (by first | rfl | exact gC0 (by assumption) | exact gL0 (by assumption)) rfl rfl rfl (Nat.le_of_ble_eq_true rfl) (ct_soldFor G _ _ (by exact h3_1) _) ?_
  refine Rn.aload_n dX9_dearest_18 rfl rfl ?_
  refine Rn.getR dX9_dearest_19 fd_X9_19_8 (by first | rfl | exact gC0 (by assumption) | exact gL0 (by assumption)) rfl ?_
  refine Rn.iload_n dX9_dearest_22 rfl rfl ?_
  refine Rn.callVp (As := [_]) dX9_dearest_23 mv_X9_303 (by first | rfl | exact gC0 (by assumption) | exact gL0 (by assumption)) rfl rfl rfl (Nat.le_of_ble_eq_true rfl) (ct_soldFor G _ _ (by exact h3_1) _) ?_
  refine Rn.icmp_le (tgt := 31) dX9_dearest_26 (by decide) (fun _ => ?_) (fun h9 => absurd h9 (by decide))
  refine Rn.iincN dX9_dearest_31 rfl (by decide) ?_
  refine Rn.goto 4 dX9_dearest_34 (by decide) ?_
  refine Rn.iload_n dX9_dearest_4 rfl rfl ?_
  refine Rn.bipush (v := (nI 50)) dX9_dearest_5 rfl ?_
  refine Rn.icmp_gt (tgt := 37) dX9_dearest_7 (by decide) (fun h9 => absurd h9 (by decide)) (fun _ => ?_)
  refine Rn.aload_n dX9_dearest_10 rfl rfl ?_
  refine Rn.getR dX9_dearest_11 fd_X9_19_8 (by first | rfl | exact gC0 (by assumption) | exact gL0 (by assumption)) rfl ?_
  refine Rn.iload_n dX9_dearest_14 rfl rfl ?_
  refine Rn.callVp (As := [_]) dX9_dearest_15 mv_X9_303 (by first | rfl | exact gC0 (by assumption) | exact gL0 (by assumption)) rfl rfl rfl (Nat.le_of_ble_eq_true rfl) (ct_soldFor G _ _ (by exact h3_1) _) ?_
  refine Rn.aload_n dX9_dearest_18 rfl rfl ?_
  refine Rn.getR dX9_dearest_19 fd_X9_19_8 (by first | rfl | exact gC0 (by assumption) | exact gL0 (by assumption)) rfl ?_
  refine Rn.iload_n dX9_dearest_22 rfl rfl ?_
  refine Rn.callVp (As := [_]) dX9_dearest_23 mv_X9_303 (by first | rfl | exact gC0 (by assumption) | exact gL0 (by assumption)) rfl rfl rfl (Nat.le_of_ble_eq_true rfl) (ct_soldFor G _ _ (by exact h3_1) _) ?_
  refine Rn.icmp_le (tgt := 31) dX9_dearest_26 (by decide) (fun _ => ?_) (fun h9 => absurd h9 (by decide))
  refine Rn.iincN dX9_dearest_31 rfl (by decide) ?_
  refine Rn.goto 4 dX9_dearest_34 (by decide) ?_
  refine Rn.iload_n dX9_dearest_4 rfl rfl ?_
  refine Rn.bipush (v := (nI 50)) dX9_dearest_5 rfl ?_
  refine Rn.icmp_gt (tgt := 37) dX9_dearest_7 (by decide) (fun h9 => absurd h9 (by decide)) (fun _ => ?_)
  refine Rn.aload_n dX9_dearest_10 rfl rfl ?_
  refine Rn.getR dX9_dearest_11 fd_X9_19_8 (by first | rfl | exact gC0 (by assumption) | exact gL0 (by assumption)) rfl ?_
  refine Rn.iload_n dX9_dearest_14 rfl rfl ?_
  refine Rn.callVp (As := [_]) dX9_dearest_15 mv_X9_303 (by first | rfl | exact gC0 (by assumption) | exact gL0 (by assumption)) rfl rfl rfl (Nat.le_of_ble_eq_true rfl) (ct_soldFor G _ _ (by exact h3_1) _) ?_
  refine Rn.aload_n dX9_dearest_18 rfl rfl ?_
  refine Rn.getR dX9_dearest_19 fd_X9_19_8 (by first | rfl | exact gC0 (by assumption) | exact gL0 (by assumption)) rfl ?_
  refine Rn.iload_n dX9_dearest_22 rfl rfl ?_
  refine Rn.callVp (As := [_]) dX9_dearest_23 mv_X9_303 (by first | rfl | exact gC0 (by assumption) | exact gL0 (by assumption)) rfl rfl rfl (Nat.le_of_ble_eq_true rfl) (ct_soldFor G _ _ (by exact h3_1) _) ?_
  refine Rn.icmp_le (tgt := 31) dX9_dearest_26 (by decide) (fun _ => ?_) (fun h9 => absurd h9 (by decide))
  refine Rn.iincN dX9_dearest_31 rfl (by decide) ?_
  refine Rn.goto 4 dX9_dearest_34 (by decide) ?_
  refine Rn.iload_n dX9_dearest_4 rfl rfl ?_
  refine Rn.bipush (v := (nI 50)) dX9_dearest_5 rfl ?_
  refine Rn.icmp_gt (tgt := 37) dX9_dearest_7 (by decide) (fun h9 => absurd h9 (by decide)) (fun _ => ?_)
  refine Rn.aload_n dX9_dearest_10 rfl rfl ?_
  refine Rn.getR dX9_dearest_11 fd_X9_19_8 (by first | rfl | exact gC0 (by assumption) | exact gL0 (by assumption)) rfl ?_
  refine Rn.iload_n dX9_dearest_14 rfl rfl ?_
  refine Rn.callVp (As := [_]) dX9_dearest_15 mv_X9_303 (by first | rfl | exact gC0 (by assumption) | exact gL0 (by assumption)) rfl rfl rfl (Nat.le_of_ble_eq_true rfl) (ct_soldFor G _ _ (by exact h3_1) _) ?_
  refine Rn.aload_n dX9_dearest_18 rfl rfl ?_
  refine Rn.getR dX9_dearest_19 fd_X9_19_8 (by first | rfl | exact gC0 (by assumption) | exact gL0 (by assumption)) rfl ?_
  refine Rn.iload_n dX9_dearest_22 rfl rfl ?_
  refine Rn.callVp (As := [_]) dX9_dearest_23 mv_X9_303 (by first | rfl | exact gC0 (by assumption) | exact gL0 (by assumption)) rfl rfl rfl (Nat.le_of_ble_eq_true rfl) (ct_soldFor G _ _ (by exact h3_1) _) ?_
  refine Rn.icmp_le (tgt := 31) dX9_dearest_26 (by decide) (fun _ => ?_) (fun h9 => absurd h9 (by decide))
  refine Rn.iincN dX9_dearest_31 rfl (by decide) ?_
  refine Rn.goto 4 dX9_dearest_34 (by decide) ?_
  refine Rn.iload_n dX9_dearest_4 rfl rfl ?_
  refine Rn.bipush (v := (nI 50)) dX9_dearest_5 rfl ?_
  refine Rn.icmp_gt (tgt := 37) dX9_dearest_7 (by decide) (fun h9 => absurd h9 (by decide)) (fun _ => ?_)
  refine Rn.aload_n dX9_dearest_10 rfl rfl ?_
  refine Rn.getR dX9_dearest_11 fd_X9_19_8 (by first | rfl | exact gC0 (by assumption) | exact gL0 (by assumption)) rfl ?_
  refine Rn.iload_n dX9_dearest_14 rfl rfl ?_
  refine Rn.callVp (As := [_]) dX9_dearest_15 mv_X9_303 (by first | rfl | exact gC0 (by assumption) | exact gL0 (by assumption)) rfl rfl rfl (Nat.le_of_ble_eq_true rfl) (ct_soldFor G _ _ (by exact h3_1) _) ?_
  refine Rn.aload_n dX9_dearest_18 rfl rfl ?_
  refine Rn.getR dX9_dearest_19 fd_X9_19_8 (by first | rfl | exact gC0 (by assumption) | exact gL0 (by assumption)) rfl ?_
  refine Rn.iload_n dX9_dearest_22 rfl rfl ?_
  refine Rn.callVp (As := [_]) dX9_dearest_23 mv_X9_303 (by first | rfl | exact gC0 (by assumption) | exact gL0 (by assumption)) rfl rfl rfl (Nat.le_of_ble_eq_true rfl) (ct_soldFor G _ _ (by exact h3_1) _) ?_
  refine Rn.icmp_le (tgt := 31) dX9_dearest_26 (by decide) (fun _ => ?_) (fun h9 => absurd h9 (by decide))
  refine Rn.iincN dX9_dearest_31 rfl (by decide) ?_
  refine Rn.goto 4 dX9_dearest_34 (by decide) ?_
  refine Rn.iload_n dX9_dearest_4 rfl rfl ?_
  refine Rn.bipush (v := (nI 50)) dX9_dearest_5 rfl ?_
  refine Rn.icmp_gt (tgt := 37) dX9_dearest_7 (by decide) (fun h9 => absurd h9 (by decide)) (fun _ => ?_)
  refine Rn.aload_n dX9_dearest_10 rfl rfl ?_
  refine Rn.getR dX9_dearest_11 fd_X9_19_8 (by first | rfl | exact gC0 (by assumption) | exact gL0 (by assumption)) rfl ?_
  refine Rn.iload_n dX9_dearest_14 rfl rfl ?_
  refine Rn.callVp (As := [_]) dX9_dearest_15 mv_X9_303 (by first | rfl | exact gC0 (by assumption) | exact gL0 (by assumption)) rfl rfl rfl (Nat.le_of_ble_eq_true rfl) (ct_soldFor G _ _ (by exact h3_1) _) ?_
  refine Rn.aload_n dX9_dearest_18 rfl rfl ?_
  refine Rn.getR dX9_dearest_19 fd_X9_19_8 (by first | rfl | exact gC0 (by assumption) | exact gL0 (by assumption)) rfl ?_
  refine Rn.iload_n dX9_dearest_22 rfl rfl ?_
  refine Rn.callVp (As := [_]) dX9_dearest_23 mv_X9_303 (by first | rfl | exact gC0 (by assumption) | exact gL0 (by assumption)) rfl rfl rfl (Nat.le_of_ble_eq_true rfl) (ct_soldFor G _ _ (by exact h3_1) _) ?_
  refine Rn.icmp_le (tgt := 31) dX9_dearest_26 (by decide) (fun _ => ?_) (fun h9 => absurd h9 (by decide))
  refine Rn.iincN dX9_dearest_31 rfl (by decide) ?_
  refine Rn.goto 4 dX9_dearest_34 (by decide) ?_
  refine Rn.iload_n dX9_dearest_4 rfl rfl ?_
  refine Rn.bipush (v := (nI 50)) dX9_dearest_5 rfl ?_
  refine Rn.icmp_gt (tgt := 37) dX9_dearest_7 (by decide) (fun h9 => absurd h9 (by decide)) (fun _ => ?_)
  refine Rn.aload_n dX9_dearest_10 rfl rfl ?_
  refine Rn.getR dX9_dearest_11 fd_X9_19_8 (by first | rfl | exact gC0 (by assumption) | exact gL0 (by assumption)) rfl ?_
  refine Rn.iload_n dX9_dearest_14 rfl rfl ?_
  refine Rn.callVp (As := [_]) dX9_dearest_15 mv_X9_303 (by first | rfl | exact gC0 (by assumption) | exact gL0 (by assumption)) rfl rfl rfl (Nat.le_of_ble_eq_true rfl) (ct_soldFor G _ _ (by exact h3_1) _) ?_
  refine Rn.aload_n dX9_dearest_18 rfl rfl ?_
  refine Rn.getR dX9_dearest_19 fd_X9_19_8 (by first | rfl | exact gC0 (by assumption) | exact gL0 (by assumption)) rfl ?_
  refine Rn.iload_n dX9_dearest_22 rfl rfl ?_
  refine Rn.callVp (As := [_]) dX9_dearest_23 mv_X9_303 (by first | rfl | exact gC0 (by assumption) | exact gL0 (by assumption)) rfl rfl rfl (Nat.le_of_ble_eq_true rfl) (ct_soldFor G _ _ (by exact h3_1) _) ?_
  refine Rn.icmp_le (tgt := 31) dX9_dearest_26 (by decide) (fun _ => ?_) (fun h9 => absurd h9 (by decide))
  refine Rn.iincN dX9_dearest_31 rfl (by decide) ?_
  refine Rn.goto 4 dX9_dearest_34 (by decide) ?_
  refine Rn.iload_n dX9_dearest_4 rfl rfl ?_
  refine Rn.bipush (v := (nI 50)) dX9_dearest_5 rfl ?_
  refine Rn.icmp_gt (tgt := 37) dX9_dearest_7 (by decide) (fun h9 => absurd h9 (by decide)) (fun _ => ?_)
  refine Rn.aload_n dX9_dearest_10 rfl rfl ?_
  refine Rn.getR dX9_dearest_11 fd_X9_19_8 (by first | rfl | exact gC0 (by assumption) | exact gL0 (by assumption)) rfl ?_
  refine Rn.iload_n dX9_dearest_14 rfl rfl ?_
  refine Rn.callVp (As := [_]) dX9_dearest_15 mv_X9_303 (by first | rfl | exact gC0 (by assumption) | exact gL0 (by assumption)) rfl rfl rfl (Nat.le_of_ble_eq_true rfl) (ct_soldFor G _ _ (by exact h3_1) _) ?_
  refine Rn.aload_n dX9_dearest_18 rfl rfl ?_
  refine Rn.getR dX9_dearest_19 fd_X9_19_8 (by first | rfl | exact gC0 (by assumption) | exact gL0 (by assumption)) rfl ?_
  refine Rn.iload_n dX9_dearest_22 rfl rfl ?_
  refine Rn.callVp (As := [_]) dX9_dearest_23 mv_X9_303 (by first | rfl | exact gC0 (by assumption) | exact gL0 (by assumption)) rfl rfl rfl (Nat.le_of_ble_eq_true rfl) (ct_soldFor G _ _ (by exact h3_1) _) ?_
  refine Rn.icmp_le (tgt := 31) dX9_dearest_26 (by decide) (fun _ => ?_) (fun h9 => absurd h9 (by decide))
  refine Rn.iincN dX9_dearest_31 rfl (by decide) ?_
  refine Rn.goto 4 dX9_dearest_34 (by decide) ?_
  refine Rn.iload_n dX9_dearest_4 rfl rfl ?_
  refine Rn.bipush (v := (nI 50)) dX9_dearest_5 rfl ?_
  refine Rn.icmp_gt (tgt := 37) dX9_dearest_7 (by decide) (fun h9 => absurd h9 (by decide)) (fun _ => ?_)
  refine Rn.aload_n dX9_dearest_10 rfl rfl ?_
  refine Rn.getR dX9_dearest_11 fd_X9_19_8 (by first | rfl | exact gC0 (by assumption) | exact gL0 (by assumption)) rfl ?_
  refine Rn.iload_n dX9_dearest_14 rfl rfl ?_
  refine Rn.callVp (As := [_]) dX9_dearest_15 mv_X9_303 (by first | rfl | exact gC0 (by assumption) | exact gL0 (by assumption)) rfl rfl rfl (Nat.le_of_ble_eq_true rfl) (ct_soldFor G _ _ (by exact h3_1) _) ?_
  refine Rn.aload_n dX9_dearest_18 rfl rfl ?_
  refine Rn.getR dX9_dearest_19 fd_X9_19_8 (by first | rfl | exact gC0 (by assumption) | exact gL0 (by assumption)) rfl ?_
  refine Rn.iload_n dX9_dearest_22 rfl rfl ?_
  refine Rn.callVp (As := [_]) dX9_dearest_23 mv_X9_303 (by first | rfl | exact gC0 (by assumption) | exact gL0 (by assumption)) rfl rfl rfl (Nat.le_of_ble_eq_true rfl) (ct_soldFor G _ _ (by exact h3_1) _) ?_
  refine Rn.icmp_le (tgt := 31) dX9_dearest_26 (by decide) (fun _ => ?_) (fun h9 => absurd h9 (by decide))
  refine Rn.iincN dX9_dearest_31 rfl (by decide) ?_
  refine Rn.goto 4 dX9_dearest_34 (by decide) ?_
  refine Rn.iload_n dX9_dearest_4 rfl rfl ?_
  refine Rn.bipush (v := (nI 50)) dX9_dearest_5 rfl ?_
  refine Rn.icmp_gt (tgt := 37) dX9_dearest_7 (by decide) (fun h9 => absurd h9 (by decide)) (fun _ => ?_)
  refine Rn.aload_n dX9_dearest_10 rfl rfl ?_
  refine Rn.getR dX9_dearest_11 fd_X9_19_8 (by first | rfl | exact gC0 (by assumption) | exact gL0 (by assumption)) rfl ?_
  refine Rn.iload_n dX9_dearest_14 rfl rfl ?_
  refine Rn.callVp (As := [_]) dX9_dearest_15 mv_X9_303 (by first | rfl | exact gC0 (by assumption) | exact gL0 (by assumption)) rfl rfl rfl (Nat.le_of_ble_eq_true rfl) (ct_soldFor G _ _ (by exact h3_1) _) ?_
  refine Rn.aload_n dX9_dearest_18 rfl rfl ?_
  refine Rn.getR dX9_dearest_19 fd_X9_19_8 (by first | rfl | exact gC0 (by assumption) | exact gL0 (by assumption)) rfl ?_
  refine Rn.iload_n dX9_dearest_22 rfl rfl ?_
  refine Rn.callVp (As := [_]) dX9_dearest_23 mv_X9_303 (by first | rfl | exact gC0 (by assumption) | exact gL0 (by assumption)) rfl rfl rfl (Nat.le_of_ble_eq_true rfl) (ct_soldFor G _ _ (by exact h3_1) _) ?_
  refine Rn.icmp_le (tgt := 31) dX9_dearest_26 (by decide) (fun _ => ?_) (fun h9 => absurd h9 (by decide))
  refine Rn.iincN dX9_dearest_31 rfl (by decide) ?_
  refine Rn.goto 4 dX9_dearest_34 (by decide) ?_
  refine Rn.iload_n dX9_dearest_4 rfl rfl ?_
  refine Rn.bipush (v := (nI 50)) dX9_dearest_5 rfl ?_
  refine Rn.icmp_gt (tgt := 37) dX9_dearest_7 (by decide) (fun h9 => absurd h9 (by decide)) (fun _ => ?_)
  refine Rn.aload_n dX9_dearest_10 rfl rfl ?_
  refine Rn.getR dX9_dearest_11 fd_X9_19_8 (by first | rfl | exact gC0 (by assumption) | exact gL0 (by assumption)) rfl ?_
  refine Rn.iload_n dX9_dearest_14 rfl rfl ?_
  refine Rn.callVp (As := [_]) dX9_dearest_15 mv_X9_303 (by first | rfl | exact gC0 (by assumption) | exact gL0 (by assumption)) rfl rfl rfl (Nat.le_of_ble_eq_true rfl) (ct_soldFor G _ _ (by exact h3_1) _) ?_
  refine Rn.aload_n dX9_dearest_18 rfl rfl ?_
  refine Rn.getR dX9_dearest_19 fd_X9_19_8 (by first | rfl | exact gC0 (by assumption) | exact gL0 (by assumption)) rfl ?_
  refine Rn.iload_n dX9_dearest_22 rfl rfl ?_
  refine Rn.callVp (As := [_]) dX9_dearest_23 mv_X9_303 (by first | rfl | exact gC0 (by assumption) | exact gL0 (by assumption)) rfl rfl rfl (Nat.le_of_ble_eq_true rfl) (ct_soldFor G _ _ (by exact h3_1) _) ?_
  refine Rn.icmp_le (tgt := 31) dX9_dearest_26 (by decide) (fun _ => ?_) (fun h9 => absurd h9 (by decide))
  refine Rn.iincN dX9_dearest_31 rfl (by decide) ?_
  refine Rn.goto 4 dX9_dearest_34 (by decide) ?_
  refine Rn.iload_n dX9_dearest_4 rfl rfl ?_
  refine Rn.bipush (v := (nI 50)) dX9_dearest_5 rfl ?_
  refine Rn.icmp_gt (tgt := 37) dX9_dearest_7 (by decide) (fun h9 => absurd h9 (by decide)) (fun _ => ?_)
  refine Rn.aload_n dX9_dearest_10 rfl rfl ?_
  refine Rn.getR dX9_dearest_11 fd_X9_19_8 (by first | rfl | exact gC0 (by assumption) | exact gL0 (by assumption)) rfl ?_
  refine Rn.iload_n dX9_dearest_14 rfl rfl ?_
  refine Rn.callVp (As := [_]) dX9_dearest_15 mv_X9_303 (by first | rfl | exact gC0 (by assumption) | exact gL0 (by assumption)) rfl rfl rfl (Nat.le_of_ble_eq_true rfl) (ct_soldFor G _ _ (by exact h3_1) _) ?_
  refine Rn.aload_n dX9_dearest_18 rfl rfl ?_
  refine Rn.getR dX9_dearest_19 fd_X9_19_8 (by first | rfl | exact gC0 (by assumption) | exact gL0 (by assumption)) rfl ?_
  refine Rn.iload_n dX9_dearest_22 rfl rfl ?_
  refine Rn.callVp (As := [_]) dX9_dearest_23 mv_X9_303 (by first | rfl | exact gC0 (by assumption) | exact gL0 (by assumption)) rfl rfl rfl (Nat.le_of_ble_eq_true rfl) (ct_soldFor G _ _ (by exact h3_1) _) ?_
  refine Rn.icmp_le (tgt := 31) dX9_dearest_26 (by decide) (fun _ => ?_) (fun h9 => absurd h9 (by decide))
  refine Rn.iincN dX9_dearest_31 rfl (by decide) ?_
  refine Rn.goto 4 dX9_dearest_34 (by decide) ?_
  refine Rn.iload_n dX9_dearest_4 rfl rfl ?_
  refine Rn.bipush (v := (nI 50)) dX9_dearest_5 rfl ?_
  refine Rn.icmp_gt (tgt := 37) dX9_dearest_7 (by decide) (fun h9 => absurd h9 (by decide)) (fun _ => ?_)
  refine Rn.aload_n dX9_dearest_10 rfl rfl ?_
  refine Rn.getR dX9_dearest_11 fd_X9_19_8 (by first | rfl | exact gC0 (by assumption) | exact gL0 (by assumption)) rfl ?_
  refine Rn.iload_n dX9_dearest_14 rfl rfl ?_
  refine Rn.callVp (As := [_]) dX9_dearest_15 mv_X9_303 (by first | rfl | exact gC0 (by assumption) | exact gL0 (by assumption)) rfl rfl rfl (Nat.le_of_ble_eq_true rfl) (ct_soldFor G _ _ (by exact h3_1) _) ?_
  refine Rn.aload_n dX9_dearest_18 rfl rfl ?_
  refine Rn.getR dX9_dearest_19 fd_X9_19_8 (by first | rfl | exact gC0 (by assumption) | exact gL0 (by assumption)) rfl ?_
  refine Rn.iload_n dX9_dearest_22 rfl rfl ?_
  refine Rn.callVp (As := [_]) dX9_dearest_23 mv_X9_303 (by first | rfl | exact gC0 (by assumption) | exact gL0 (by assumption)) rfl rfl rfl (Nat.le_of_ble_eq_true rfl) (ct_soldFor G _ _ (by exact h3_1) _) ?_
  refine Rn.icmp_le (tgt := 31) dX9_dearest_26 (by decide) (fun _ => ?_) (fun h9 => absurd h9 (by decide))
  refine Rn.iincN dX9_dearest_31 rfl (by decide) ?_
  refine Rn.goto 4 dX9_dearest_34 (by decide) ?_
  refine Rn.iload_n dX9_dearest_4 rfl rfl ?_
  refine Rn.bipush (v := (nI 50)) dX9_dearest_5 rfl ?_
  refine Rn.icmp_gt (tgt := 37) dX9_dearest_7 (by decide) (fun h9 => absurd h9 (by decide)) (fun _ => ?_)
  refine Rn.aload_n dX9_dearest_10 rfl rfl ?_
  refine Rn.getR dX9_dearest_11 fd_X9_19_8 (by first | rfl | exact gC0 (by assumption) | exact gL0 (by assumption)) rfl ?_
  refine Rn.iload_n dX9_dearest_14 rfl rfl ?_
  refine Rn.callVp (As := [_]) dX9_dearest_15 mv_X9_303 (by first | rfl | exact gC0 (by assumption) | exact gL0 (by assumption)) rfl rfl rfl (Nat.le_of_ble_eq_true rfl) (ct_soldFor G _ _ (by exact h3_1) _) ?_
  refine Rn.aload_n dX9_dearest_18 rfl rfl ?_
  refine Rn.getR dX9_dearest_19 fd_X9_19_8 (by first | rfl | exact gC0 (by assumption) | exact gL0 (by assumption)) rfl ?_
  refine Rn.iload_n dX9_dearest_22 rfl rfl ?_
  refine Rn.callVp (As := [_]) dX9_dearest_23 mv_X9_303 (by first | rfl | exact gC0 (by assumption) | exact gL0 (by assumption)) rfl rfl rfl (Nat.le_of_ble_eq_true rfl) (ct_soldFor G _ _ (by exact h3_1) _) ?_
  refine Rn.icmp_le (tgt := 31) dX9_dearest_26 (by decide) (fun _ => ?_) (fun h9 => absurd h9 (by decide))
  refine Rn.iincN dX9_dearest_31 rfl (by decide) ?_
  refine Rn.goto 4 dX9_dearest_34 (by decide) ?_
  refine Rn.iload_n dX9_dearest_4 rfl rfl ?_
  refine Rn.bipush (v := (nI 50)) dX9_dearest_5 rfl ?_
  refine Rn.icmp_gt (tgt := 37) dX9_dearest_7 (by decide) (fun h9 => absurd h9 (by decide)) (fun _ => ?_)
  refine Rn.aload_n dX9_dearest_10 rfl rfl ?_
  refine Rn.getR dX9_dearest_11 fd_X9_19_8 (by first | rfl | exact gC0 (by assumption) | exact gL0 (by assumption)) rfl ?_
  refine Rn.iload_n dX9_dearest_14 rfl rfl ?_
  refine Rn.callVp (As := [_]) dX9_dearest_15 mv_X9_303 (by first | rfl | exact gC0 (by assumption) | exact gL0 (by assumption)) rfl rfl rfl (Nat.le_of_ble_eq_true rfl) (ct_soldFor G _ _ (by exact h3_1) _) ?_
  refine Rn.aload_n dX9_dearest_18 rfl rfl ?_
  refine Rn.getR dX9_dearest_19 fd_X9_19_8 (by first | rfl | exact gC0 (by assumption) | exact gL0 (by assumption)) rfl ?_
  refine Rn.iload_n dX9_dearest_22 rfl rfl ?_
  refine Rn.callVp (As := [_]) dX9_dearest_23 mv_X9_303 (by first | rfl | exact gC0 (by assumption) | exact gL0 (by assumption)) rfl rfl rfl (Nat.le_of_ble_eq_true rfl) (ct_soldFor G _ _ (by exact h3_1) _) ?_
  refine Rn.icmp_le (tgt := 31) dX9_dearest_26 (by decide) (fun _ => ?_) (fun h9 => absurd h9 (by decide))
  refine Rn.iincN dX9_dearest_31 rfl (by decide) ?_
  refine Rn.goto 4 dX9_dearest_34 (by decide) ?_
  refine Rn.iload_n dX9_dearest_4 rfl rfl ?_
  refine Rn.bipush (v := (nI 50)) dX9_dearest_5 rfl ?_
  refine Rn.icmp_gt (tgt := 37) dX9_dearest_7 (by decide) (fun h9 => absurd h9 (by decide)) (fun _ => ?_)
  refine Rn.aload_n dX9_dearest_10 rfl rfl ?_
  refine Rn.getR dX9_dearest_11 fd_X9_19_8 (by first | rfl | exact gC0 (by assumption) | exact gL0 (by assumption)) rfl ?_
  refine Rn.iload_n dX9_dearest_14 rfl rfl ?_
  refine Rn.callVp (As := [_]) dX9_dearest_15 mv_X9_303 (by first | rfl | exact gC0 (by assumption) | exact gL0 (by assumption)) rfl rfl rfl (Nat.le_of_ble_eq_true rfl) (ct_soldFor G _ _ (by exact h3_1) _) ?_
  refine Rn.aload_n dX9_dearest_18 rfl rfl ?_
  refine Rn.getR dX9_dearest_19 fd_X9_19_8 (by first | rfl | exact gC0 (by assumption) | exact gL0 (by assumption)) rfl ?_
  refine Rn.iload_n dX9_dearest_22 rfl rfl ?_
  refine Rn.callVp (As := [_]) dX9_dearest_23 mv_X9_303 (by first | rfl | exact gC0 (by assumption) | exact gL0 (by assumption)) rfl rfl rfl (Nat.le_of_ble_eq_true rfl) (ct_soldFor G _ _ (by exact h3_1) _) ?_
  refine Rn.icmp_le (tgt := 31) dX9_dearest_26 (by decide) (fun _ => ?_) (fun h9 => absurd h9 (by decide))
  refine Rn.iincN dX9_dearest_31 rfl (by decide) ?_
  refine Rn.goto 4 dX9_dearest_34 (by decide) ?_
  refine Rn.iload_n dX9_dearest_4 rfl rfl ?_
  refine Rn.bipush (v := (nI 50)) dX9_dearest_5 rfl ?_
  refine Rn.icmp_gt (tgt := 37) dX9_dearest_7 (by decide) (fun h9 => absurd h9 (by decide)) (fun _ => ?_)
  refine Rn.aload_n dX9_dearest_10 rfl rfl ?_
  refine Rn.getR dX9_dearest_11 fd_X9_19_8 (by first | rfl | exact gC0 (by assumption) | exact gL0 (by assumption)) rfl ?_
  refine Rn.iload_n dX9_dearest_14 rfl rfl ?_
  refine Rn.callVp (As := [_]) dX9_dearest_15 mv_X9_303 (by first | rfl | exact gC0 (by assumption) | exact gL0 (by assumption)) rfl rfl rfl (Nat.le_of_ble_eq_true rfl) (ct_soldFor G _ _ (by exact h3_1) _) ?_
  refine Rn.aload_n dX9_dearest_18 rfl rfl ?_
  refine Rn.getR dX9_dearest_19 fd_X9_19_8 (by first | rfl | exact gC0 (by assumption) | exact gL0 (by assumption)) rfl ?_
  refine Rn.iload_n dX9_dearest_22 rfl rfl ?_
  refine Rn.callVp (As := [_]) dX9_dearest_23 mv_X9_303 (by first | rfl | exact gC0 (by assumption) | exact gL0 (by assumption)) rfl rfl rfl (Nat.le_of_ble_eq_true rfl) (ct_soldFor G _ _ (by exact h3_1) _) ?_
  refine Rn.icmp_le (tgt := 31) dX9_dearest_26 (by decide) (fun _ => ?_) (fun h9 => absurd h9 (by decide))
  refine Rn.iincN dX9_dearest_31 rfl (by decide) ?_
  refine Rn.goto 4 dX9_dearest_34 (by decide) ?_
  refine Rn.iload_n dX9_dearest_4 rfl rfl ?_
  refine Rn.bipush (v := (nI 50)) dX9_dearest_5 rfl ?_
  refine Rn.icmp_gt (tgt := 37) dX9_dearest_7 (by decide) (fun h9 => absurd h9 (by decide)) (fun _ => ?_)
  refine Rn.aload_n dX9_dearest_10 rfl rfl ?_
  refine Rn.getR dX9_dearest_11 fd_X9_19_8 (by first | rfl | exact gC0 (by assumption) | exact gL0 (by assumption)) rfl ?_
  refine Rn.iload_n dX9_dearest_14 rfl rfl ?_
  refine Rn.callVp (As := [_]) dX9_dearest_15 mv_X9_303 (by first | rfl | exact gC0 (by assumption) | exact gL0 (by assumption)) rfl rfl rfl (Nat.le_of_ble_eq_true rfl) (ct_soldFor G _ _ (by exact h3_1) _) ?_
  refine Rn.aload_n dX9_dearest_18 rfl rfl ?_
  refine Rn.getR dX9_dearest_19 fd_X9_19_8 (by first | rfl | exact gC0 (by assumption) | exact gL0 (by assumption)) rfl ?_
  refine Rn.iload_n dX9_dearest_22 rfl rfl ?_
  refine Rn.callVp (As := [_]) dX9_dearest_23 mv_X9_303 (by first | rfl | exact gC0 (by assumption) | exact gL0 (by assumption)) rfl rfl rfl (Nat.le_of_ble_eq_true rfl) (ct_soldFor G _ _ (by exact h3_1) _) ?_
  refine Rn.icmp_le (tgt := 31) dX9_dearest_26 (by decide) (fun _ => ?_) (fun h9 => absurd h9 (by decide))
  refine Rn.iincN dX9_dearest_31 rfl (by decide) ?_
  refine Rn.goto 4 dX9_dearest_34 (by decide) ?_
  refine Rn.iload_n dX9_dearest_4 rfl rfl ?_
  refine Rn.bipush (v := (nI 50)) dX9_dearest_5 rfl ?_
  refine Rn.icmp_gt (tgt := 37) dX9_dearest_7 (by decide) (fun h9 => absurd h9 (by decide)) (fun _ => ?_)
  refine Rn.aload_n dX9_dearest_10 rfl rfl ?_
  refine Rn.getR dX9_dearest_11 fd_X9_19_8 (by first | rfl | exact gC0 (by assumption) | exact gL0 (by assumption)) rfl ?_
  refine Rn.iload_n dX9_dearest_14 rfl rfl ?_
  refine Rn.callVp (As := [_]) dX9_dearest_15 mv_X9_303 (by first | rfl | exact gC0 (by assumption) | exact gL0 (by assumption)) rfl rfl rfl (Nat.le_of_ble_eq_true rfl) (ct_soldFor G _ _ (by exact h3_1) _) ?_
  refine Rn.aload_n dX9_dearest_18 rfl rfl ?_
  refine Rn.getR dX9_dearest_19 fd_X9_19_8 (by first | rfl | exact gC0 (by assumption) | exact gL0 (by assumption)) rfl ?_
  refine Rn.iload_n dX9_dearest_22 rfl rfl ?_
  refine Rn.callVp (As := [_]) dX9_dearest_23 mv_X9_303 (by first | rfl | exact gC0 (by assumption) | exact gL0 (by assumption)) rfl rfl rfl (Nat.le_of_ble_eq_true rfl) (ct_soldFor G _ _ (by exact h3_1) _) ?_
  refine Rn.icmp_le (tgt := 31) dX9_dearest_26 (by decide) (fun _ => ?_) (fun h9 => absurd h9 (by decide))
  refine Rn.iincN dX9_dearest_31 rfl (by decide) ?_
  refine Rn.goto 4 dX9_dearest_34 (by decide) ?_
  refine Rn.iload_n dX9_dearest_4 rfl rfl ?_
  refine Rn.bipush (v := (nI 50)) dX9_dearest_5 rfl ?_
  refine Rn.icmp_gt (tgt := 37) dX9_dearest_7 (by decide) (fun h9 => absurd h9 (by decide)) (fun _ => ?_)
  refine Rn.aload_n dX9_dearest_10 rfl rfl ?_
  refine Rn.getR dX9_dearest_11 fd_X9_19_8 (by first | rfl | exact gC0 (by assumption) | exact gL0 (by assumption)) rfl ?_
  refine Rn.iload_n dX9_dearest_14 rfl rfl ?_
  refine Rn.callVp (As := [_]) dX9_dearest_15 mv_X9_303 (by first | rfl | exact gC0 (by assumption) | exact gL0 (by assumption)) rfl rfl rfl (Nat.le_of_ble_eq_true rfl) (ct_soldFor G _ _ (by exact h3_1) _) ?_
  refine Rn.aload_n dX9_dearest_18 rfl rfl ?_
  refine Rn.getR dX9_dearest_19 fd_X9_19_8 (by first | rfl | exact gC0 (by assumption) | exact gL0 (by assumption)) rfl ?_
  refine Rn.iload_n dX9_dearest_22 rfl rfl ?_
  refine Rn.callVp (As := [_]) dX9_dearest_23 mv_X9_303 (by first | rfl | exact gC0 (by assumption) | exact gL0 (by assumption)) rfl rfl rfl (Nat.le_of_ble_eq_true rfl) (ct_soldFor G _ _ (by exact h3_1) _) ?_
  refine Rn.icmp_le (tgt := 31) dX9_dearest_26 (by decide) (fun _ => ?_) (fun h9 => absurd h9 (by decide))
  refine Rn.iincN dX9_dearest_31 rfl (by decide) ?_
  refine Rn.goto 4 dX9_dearest_34 (by decide) ?_
  refine Rn.iload_n dX9_dearest_4 rfl rfl ?_
  refine Rn.bipush (v := (nI 50)) dX9_dearest_5 rfl ?_
  refine Rn.icmp_gt (tgt := 37) dX9_dearest_7 (by decide) (fun h9 => absurd h9 (by decide)) (fun _ => ?_)
  refine Rn.aload_n dX9_dearest_10 rfl rfl ?_
  refine Rn.getR dX9_dearest_11 fd_X9_19_8 (by first | rfl | exact gC0 (by assumption) | exact gL0 (by assumption)) rfl ?_
  refine Rn.iload_n dX9_dearest_14 rfl rfl ?_
  refine Rn.callVp (As := [_]) dX9_dearest_15 mv_X9_303 (by first | rfl | exact gC0 (by assumption) | exact gL0 (by assumption)) rfl rfl rfl (Nat.le_of_ble_eq_true rfl) (ct_soldFor G _ _ (by exact h3_1) _) ?_
  refine Rn.aload_n dX9_dearest_18 rfl rfl ?_
  refine Rn.getR dX9_dearest_19 fd_X9_19_8 (by first | rfl | exact gC0 (by assumption) | exact gL0 (by assumption)) rfl ?_
  refine Rn.iload_n dX9_dearest_22 rfl rfl ?_
  refine Rn.callVp (As := [_]) dX9_dearest_23 mv_X9_303 (by first | rfl | exact gC0 (by assumption) | exact gL0 (by assumption)) rfl rfl rfl (Nat.le_of_ble_eq_true rfl) (ct_soldFor G _ _ (by exact h3_1) _) ?_
  refine Rn.icmp_le (tgt := 31) dX9_dearest_26 (by decide) (fun _ => ?_) (fun h9 => absurd h9 (by decide))
  refine Rn.iincN dX9_dearest_31 rfl (by decide) ?_
  refine Rn.goto 4 dX9_dearest_34 (by decide) ?_
  refine Rn.iload_n dX9_dearest_4 rfl rfl ?_
  refine Rn.bipush (v := (nI 50)) dX9_dearest_5 rfl ?_
  refine Rn.icmp_gt (tgt := 37) dX9_dearest_7 (by decide) (fun h9 => absurd h9 (by decide)) (fun _ => ?_)
  refine Rn.aload_n dX9_dearest_10 rfl rfl ?_
  refine Rn.getR dX9_dearest_11 fd_X9_19_8 (by first | rfl | exact gC0 (by assumption) | exact gL0 (by assumption)) rfl ?_
  refine Rn.iload_n dX9_dearest_14 rfl rfl ?_
  refine Rn.callVp (As := [_]) dX9_dearest_15 mv_X9_303 (by first | rfl | exact gC0 (by assumption) | exact gL0 (by assumption)) rfl rfl rfl (Nat.le_of_ble_eq_true rfl) (ct_soldFor G _ _ (by exact h3_1) _) ?_
  refine Rn.aload_n dX9_dearest_18 rfl rfl ?_
  refine Rn.getR dX9_dearest_19 fd_X9_19_8 (by first | rfl | exact gC0 (by assumption) | exact gL0 (by assumption)) rfl ?_
  refine Rn.iload_n dX9_dearest_22 rfl rfl ?_
  refine Rn.callVp (As := [_]) dX9_dearest_23 mv_X9_303 (by first | rfl | exact gC0 (by assumption) | exact gL0 (by assumption)) rfl rfl rfl (Nat.le_of_ble_eq_true rfl) (ct_soldFor G _ _ (by exact h3_1) _) ?_
  refine Rn.icmp_le (tgt := 31) dX9_dearest_26 (by decide) (fun _ => ?_) (fun h9 => absurd h9 (by decide))
  refine Rn.iincN dX9_dearest_31 rfl (by decide) ?_
  refine Rn.goto 4 dX9_dearest_34 (by decide) ?_
  refine Rn.iload_n dX9_dearest_4 rfl rfl ?_
  refine Rn.bipush (v := (nI 50)) dX9_dearest_5 rfl ?_
  refine Rn.icmp_gt (tgt := 37) dX9_dearest_7 (by decide) (fun h9 => absurd h9 (by decide)) (fun _ => ?_)
  refine Rn.aload_n dX9_dearest_10 rfl rfl ?_
  refine Rn.getR dX9_dearest_11 fd_X9_19_8 (by first | rfl | exact gC0 (by assumption) | exact gL0 (by assumption)) rfl ?_
  refine Rn.iload_n dX9_dearest_14 rfl rfl ?_
  refine Rn.callVp (As := [_]) dX9_dearest_15 mv_X9_303 (by first | rfl | exact gC0 (by assumption) | exact gL0 (by assumption)) rfl rfl rfl (Nat.le_of_ble_eq_true rfl) (ct_soldFor G _ _ (by exact h3_1) _) ?_
  refine Rn.aload_n dX9_dearest_18 rfl rfl ?_
  refine Rn.getR dX9_dearest_19 fd_X9_19_8 (by first | rfl | exact gC0 (by assumption) | exact gL0 (by assumption)) rfl ?_
  refine Rn.iload_n dX9_dearest_22 rfl rfl ?_
  refine Rn.callVp (As := [_]) dX9_dearest_23 mv_X9_303 (by first | rfl | exact gC0 (by assumption) | exact gL0 (by assumption)) rfl rfl rfl (Nat.le_of_ble_eq_true rfl) (ct_soldFor G _ _ (by exact h3_1) _) ?_
  refine Rn.icmp_le (tgt := 31) dX9_dearest_26 (by decide) (fun _ => ?_) (fun h9 => absurd h9 (by decide))
  refine Rn.iincN dX9_dearest_31 rfl (by decide) ?_
  refine Rn.goto 4 dX9_dearest_34 (by decide) ?_
  refine Rn.iload_n dX9_dearest_4 rfl rfl ?_
  refine Rn.bipush (v := (nI 50)) dX9_dearest_5 rfl ?_
  refine Rn.icmp_gt (tgt := 37) dX9_dearest_7 (by decide) (fun h9 => absurd h9 (by decide)) (fun _ => ?_)
  refine Rn.aload_n dX9_dearest_10 rfl rfl ?_
  refine Rn.getR dX9_dearest_11 fd_X9_19_8 (by first | rfl | exact gC0 (by assumption) | exact gL0 (by assumption)) rfl ?_
  refine Rn.iload_n dX9_dearest_14 rfl rfl ?_
  refine Rn.callVp (As := [_]) dX9_dearest_15 mv_X9_303 (by first | rfl | exact gC0 (by assumption) | exact gL0 (by assumption)) rfl rfl rfl (Nat.le_of_ble_eq_true rfl) (ct_soldFor G _ _ (by exact h3_1) _) ?_
  refine Rn.aload_n dX9_dearest_18 rfl rfl ?_
  refine Rn.getR dX9_dearest_19 fd_X9_19_8 (by first | rfl | exact gC0 (by assumption) | exact gL0 (by assumption)) rfl ?_
  refine Rn.iload_n dX9_dearest_22 rfl rfl ?_
  refine Rn.callVp (As := [_]) dX9_dearest_23 mv_X9_303 (by first | rfl | exact gC0 (by assumption) | exact gL0 (by assumption)) rfl rfl rfl (Nat.le_of_ble_eq_true rfl) (ct_soldFor G _ _ (by exact h3_1) _) ?_
  refine Rn.icmp_le (tgt := 31) dX9_dearest_26 (by decide) (fun _ => ?_) (fun h9 => absurd h9 (by decide))
  refine Rn.iincN dX9_dearest_31 rfl (by decide) ?_
  refine Rn.goto 4 dX9_dearest_34 (by decide) ?_
  refine Rn.iload_n dX9_dearest_4 rfl rfl ?_
  refine Rn.bipush (v := (nI 50)) dX9_dearest_5 rfl ?_
  refine Rn.icmp_gt (tgt := 37) dX9_dearest_7 (by decide) (fun h9 => absurd h9 (by decide)) (fun _ => ?_)
  refine Rn.aload_n dX9_dearest_10 rfl rfl ?_
  refine Rn.getR dX9_dearest_11 fd_X9_19_8 (by first | rfl | exact gC0 (by assumption) | exact gL0 (by assumption)) rfl ?_
  refine Rn.iload_n dX9_dearest_14 rfl rfl ?_
  refine Rn.callVp (As := [_]) dX9_dearest_15 mv_X9_303 (by first | rfl | exact gC0 (by assumption) | exact gL0 (by assumption)) rfl rfl rfl (Nat.le_of_ble_eq_true rfl) (ct_soldFor G _ _ (by exact h3_1) _) ?_
  refine Rn.aload_n dX9_dearest_18 rfl rfl ?_
  refine Rn.getR dX9_dearest_19 fd_X9_19_8 (by first | rfl | exact gC0 (by assumption) | exact gL0 (by assumption)) rfl ?_
  refine Rn.iload_n dX9_dearest_22 rfl rfl ?_
  refine Rn.callVp (As := [_]) dX9_dearest_23 mv_X9_303 (by first | rfl | exact gC0 (by assumption) | exact gL0 (by assumption)) rfl rfl rfl (Nat.le_of_ble_eq_true rfl) (ct_soldFor G _ _ (by exact h3_1) _) ?_
  refine Rn.icmp_le (tgt := 31) dX9_dearest_26 (by decide) (fun _ => ?_) (fun h9 => absurd h9 (by decide))
  refine Rn.iincN dX9_dearest_31 rfl (by decide) ?_
  refine Rn.goto 4 dX9_dearest_34 (by decide) ?_
  refine Rn.iload_n dX9_dearest_4 rfl rfl ?_
  refine Rn.bipush (v := (nI 50)) dX9_dearest_5 rfl ?_
  refine Rn.icmp_gt (tgt := 37) dX9_dearest_7 (by decide) (fun h9 => absurd h9 (by decide)) (fun _ => ?_)
  refine Rn.aload_n dX9_dearest_10 rfl rfl ?_
  refine Rn.getR dX9_dearest_11 fd_X9_19_8 (by first | rfl | exact gC0 (by assumption) | exact gL0 (by assumption)) rfl ?_
  refine Rn.iload_n dX9_dearest_14 rfl rfl ?_
  refine Rn.callVp (As := [_]) dX9_dearest_15 mv_X9_303 (by first | rfl | exact gC0 (by assumption) | exact gL0 (by assumption)) rfl rfl rfl (Nat.le_of_ble_eq_true rfl) (ct_soldFor G _ _ (by exact h3_1) _) ?_
  refine Rn.aload_n dX9_dearest_18 rfl rfl ?_
  refine Rn.getR dX9_dearest_19 fd_X9_19_8 (by first | rfl | exact gC0 (by assumption) | exact gL0 (by assumption)) rfl ?_
  refine Rn.iload_n dX9_dearest_22 rfl rfl ?_
  refine Rn.callVp (As := [_]) dX9_dearest_23 mv_X9_303 (by first | rfl | exact gC0 (by assumption) | exact gL0 (by assumption)) rfl rfl rfl (Nat.le_of_ble_eq_true rfl) (ct_soldFor G _ _ (by exact h3_1) _) ?_
  refine Rn.icmp_le (tgt := 31) dX9_dearest_26 (by decide) (fun _ => ?_) (fun h9 => absurd h9 (by decide))
  refine Rn.iincN dX9_dearest_31 rfl (by decide) ?_
  refine Rn.goto 4 dX9_dearest_34 (by decide) ?_
  refine Rn.iload_n dX9_dearest_4 rfl rfl ?_
  refine Rn.bipush (v := (nI 50)) dX9_dearest_5 rfl ?_
  refine Rn.icmp_gt (tgt := 37) dX9_dearest_7 (by decide) (fun h9 => absurd h9 (by decide)) (fun _ => ?_)
  refine Rn.aload_n dX9_dearest_10 rfl rfl ?_
  refine Rn.getR dX9_dearest_11 fd_X9_19_8 (by first | rfl | exact gC0 (by assumption) | exact gL0 (by assumption)) rfl ?_
  refine Rn.iload_n dX9_dearest_14 rfl rfl ?_
  refine Rn.callVp (As := [_]) dX9_dearest_15 mv_X9_303 (by first | rfl | exact gC0 (by assumption) | exact gL0 (by assumption)) rfl rfl rfl (Nat.le_of_ble_eq_true rfl) (ct_soldFor G _ _ (by exact h3_1) _) ?_
  refine Rn.aload_n dX9_dearest_18 rfl rfl ?_
  refine Rn.getR dX9_dearest_19 fd_X9_19_8 (by first | rfl | exact gC0 (by assumption) | exact gL0 (by assumption)) rfl ?_
  refine Rn.iload_n dX9_dearest_22 rfl rfl ?_
  refine Rn.callVp (As := [_]) dX9_dearest_23 mv_X9_303 (by first | rfl | exact gC0 (by assumption) | exact gL0 (by assumption)) rfl rfl rfl (Nat.le_of_ble_eq_true rfl) (ct_soldFor G _ _ (by exact h3_1) _) ?_
  refine Rn.icmp_le (tgt := 31) dX9_dearest_26 (by decide) (fun _ => ?_) (fun h9 => absurd h9 (by decide))
  refine Rn.iincN dX9_dearest_31 rfl (by decide) ?_
  refine Rn.goto 4 dX9_dearest_34 (by decide) ?_
  refine Rn.iload_n dX9_dearest_4 rfl rfl ?_
  refine Rn.bipush (v := (nI 50)) dX9_dearest_5 rfl ?_
  refine Rn.icmp_gt (tgt := 37) dX9_dearest_7 (by decide) (fun h9 => absurd h9 (by decide)) (fun _ => ?_)
  refine Rn.aload_n dX9_dearest_10 rfl rfl ?_
  refine Rn.getR dX9_dearest_11 fd_X9_19_8 (by first | rfl | exact gC0 (by assumption) | exact gL0 (by assumption)) rfl ?_
  refine Rn.iload_n dX9_dearest_14 rfl rfl ?_
  refine Rn.callVp (As := [_]) dX9_dearest_15 mv_X9_303 (by first | rfl | exact gC0 (by assumption) | exact gL0 (by assumption)) rfl rfl rfl (Nat.le_of_ble_eq_true rfl) (ct_soldFor G _ _ (by exact h3_1) _) ?_
  refine Rn.aload_n dX9_dearest_18 rfl rfl ?_
  refine Rn.getR dX9_dearest_19 fd_X9_19_8 (by first | rfl | exact gC0 (by assumption) | exact gL0 (by assumption)) rfl ?_
  refine Rn.iload_n dX9_dearest_22 rfl rfl ?_
  refine Rn.callVp (As := [_]) dX9_dearest_23 mv_X9_303 (by first | rfl | exact gC0 (by assumption) | exact gL0 (by assumption)) rfl rfl rfl (Nat.le_of_ble_eq_true rfl) (ct_soldFor G _ _ (by exact h3_1) _) ?_
  refine Rn.icmp_le (tgt := 31) dX9_dearest_26 (by decide) (fun _ => ?_) (fun h9 => absurd h9 (by decide))
  refine Rn.iincN dX9_dearest_31 rfl (by decide) ?_
  refine Rn.goto 4 dX9_dearest_34 (by decide) ?_
  refine Rn.iload_n dX9_dearest_4 rfl rfl ?_
  refine Rn.bipush (v := (nI 50)) dX9_dearest_5 rfl ?_
  refine Rn.icmp_gt (tgt := 37) dX9_dearest_7 (by decide) (fun h9 => absurd h9 (by decide)) (fun _ => ?_)
  refine Rn.aload_n dX9_dearest_10 rfl rfl ?_
  refine Rn.getR dX9_dearest_11 fd_X9_19_8 (by first | rfl | exact gC0 (by assumption) | exact gL0 (by assumption)) rfl ?_
  refine Rn.iload_n dX9_dearest_14 rfl rfl ?_
  refine Rn.callVp (As := [_]) dX9_dearest_15 mv_X9_303 (by first | rfl | exact gC0 (by assumption) | exact gL0 (by assumption)) rfl rfl rfl (Nat.le_of_ble_eq_true rfl) (ct_soldFor G _ _ (by exact h3_1) _) ?_
  refine Rn.aload_n dX9_dearest_18 rfl rfl ?_
  refine Rn.getR dX9_dearest_19 fd_X9_19_8 (by first | rfl | exact gC0 (by assumption) | exact gL0 (by assumption)) rfl ?_
  refine Rn.iload_n dX9_dearest_22 rfl rfl ?_
  refine Rn.callVp (As := [_]) dX9_dearest_23 mv_X9_303 (by first | rfl | exact gC0 (by assumption) | exact gL0 (by assumption)) rfl rfl rfl (Nat.le_of_ble_eq_true rfl) (ct_soldFor G _ _ (by exact h3_1) _) ?_
  refine Rn.icmp_le (tgt := 31) dX9_dearest_26 (by decide) (fun _ => ?_) (fun h9 => absurd h9 (by decide))
  refine Rn.iincN dX9_dearest_31 rfl (by decide) ?_
  refine Rn.goto 4 dX9_dearest_34 (by decide) ?_
  refine Rn.iload_n dX9_dearest_4 rfl rfl ?_
  refine Rn.bipush (v := (nI 50)) dX9_dearest_5 rfl ?_
  refine Rn.icmp_gt (tgt := 37) dX9_dearest_7 (by decide) (fun h9 => absurd h9 (by decide)) (fun _ => ?_)
  refine Rn.aload_n dX9_dearest_10 rfl rfl ?_
  refine Rn.getR dX9_dearest_11 fd_X9_19_8 (by first | rfl | exact gC0 (by assumption) | exact gL0 (by assumption)) rfl ?_
  refine Rn.iload_n dX9_dearest_14 rfl rfl ?_
  refine Rn.callVp (As := [_]) dX9_dearest_15 mv_X9_303 (by first | rfl | exact gC0 (by assumption) | exact gL0 (by assumption)) rfl rfl rfl (Nat.le_of_ble_eq_true rfl) (ct_soldFor G _ _ (by exact h3_1) _) ?_
  refine Rn.aload_n dX9_dearest_18 rfl rfl ?_
  refine Rn.getR dX9_dearest_19 fd_X9_19_8 (by first | rfl | exact gC0 (by assumption) | exact gL0 (by assumption)) rfl ?_
  refine Rn.iload_n dX9_dearest_22 rfl rfl ?_
  refine Rn.callVp (As := [_]) dX9_dearest_23 mv_X9_303 (by first | rfl | exact gC0 (by assumption) | exact gL0 (by assumption)) rfl rfl rfl (Nat.le_of_ble_eq_true rfl) (ct_soldFor G _ _ (by exact h3_1) _) ?_
  refine Rn.icmp_le (tgt := 31) dX9_dearest_26 (by decide) (fun _ => ?_) (fun h9 => absurd h9 (by decide))
  refine Rn.iincN dX9_dearest_31 rfl (by decide) ?_
  refine Rn.goto 4 dX9_dearest_34 (by decide) ?_
  refine Rn.iload_n dX9_dearest_4 rfl rfl ?_
  refine Rn.bipush (v := (nI 50)) dX9_dearest_5 rfl ?_
  refine Rn.icmp_gt (tgt := 37) dX9_dearest_7 (by decide) (fun h9 => absurd h9 (by decide)) (fun _ => ?_)
  refine Rn.aload_n dX9_dearest_10 rfl rfl ?_
  refine Rn.getR dX9_dearest_11 fd_X9_19_8 (by first | rfl | exact gC0 (by assumption) | exact gL0 (by assumption)) rfl ?_
  refine Rn.iload_n dX9_dearest_14 rfl rfl ?_
  refine Rn.callVp (As := [_]) dX9_dearest_15 mv_X9_303 (by first | rfl | exact gC0 (by assumption) | exact gL0 (by assumption)) rfl rfl rfl (Nat.le_of_ble_eq_true rfl) (ct_soldFor G _ _ (by exact h3_1) _) ?_
  refine Rn.aload_n dX9_dearest_18 rfl rfl ?_
  refine Rn.getR dX9_dearest_19 fd_X9_19_8 (by first | rfl | exact gC0 (by assumption) | exact gL0 (by assumption)) rfl ?_
  refine Rn.iload_n dX9_dearest_22 rfl rfl ?_
  refine Rn.callVp (As := [_]) dX9_dearest_23 mv_X9_303 (by first | rfl | exact gC0 (by assumption) | exact gL0 (by assumption)) rfl rfl rfl (Nat.le_of_ble_eq_true rfl) (ct_soldFor G _ _ (by exact h3_1) _) ?_
  refine Rn.icmp_le (tgt := 31) dX9_dearest_26 (by decide) (fun _ => ?_) (fun h9 => absurd h9 (by decide))
  refine Rn.iincN dX9_dearest_31 rfl (by decide) ?_
  refine Rn.goto 4 dX9_dearest_34 (by decide) ?_
  refine Rn.iload_n dX9_dearest_4 rfl rfl ?_
  refine Rn.bipush (v := (nI 50)) dX9_dearest_5 rfl ?_
  refine Rn.icmp_gt (tgt := 37) dX9_dearest_7 (by decide) (fun h9 => absurd h9 (by decide)) (fun _ => ?_)
  refine Rn.aload_n dX9_dearest_10 rfl rfl ?_
  refine Rn.getR dX9_dearest_11 fd_X9_19_8 (by first | rfl | exact gC0 (by assumption) | exact gL0 (by assumption)) rfl ?_
  refine Rn.iload_n dX9_dearest_14 rfl rfl ?_
  refine Rn.callVp (As := [_]) dX9_dearest_15 mv_X9_303 (by first | rfl | exact gC0 (by assumption) | exact gL0 (by assumption)) rfl rfl rfl (Nat.le_of_ble_eq_true rfl) (ct_soldFor G _ _ (by exact h3_1) _) ?_
  refine Rn.aload_n dX9_dearest_18 rfl rfl ?_
  refine Rn.getR dX9_dearest_19 fd_X9_19_8 (by first | rfl | exact gC0 (by assumption) | exact gL0 (by assumption)) rfl ?_
  refine Rn.iload_n dX9_dearest_22 rfl rfl ?_
  refine Rn.callVp (As := [_]) dX9_dearest_23 mv_X9_303 (by first | rfl | exact gC0 (by assumption) | exact gL0 (by assumption)) rfl rfl rfl (Nat.le_of_ble_eq_true rfl) (ct_soldFor G _ _ (by exact h3_1) _) ?_
  refine Rn.icmp_le (tgt := 31) dX9_dearest_26 (by decide) (fun _ => ?_) (fun h9 => absurd h9 (by decide))
  refine Rn.iincN dX9_dearest_31 rfl (by decide) ?_
  refine Rn.goto 4 dX9_dearest_34 (by decide) ?_
  refine Rn.iload_n dX9_dearest_4 rfl rfl ?_
  refine Rn.bipush (v := (nI 50)) dX9_dearest_5 rfl ?_
  refine Rn.icmp_gt (tgt := 37) dX9_dearest_7 (by decide) (fun h9 => absurd h9 (by decide)) (fun _ => ?_)
  refine Rn.aload_n dX9_dearest_10 rfl rfl ?_
  refine Rn.getR dX9_dearest_11 fd_X9_19_8 (by first | rfl | exact gC0 (by assumption) | exact gL0 (by assumption)) rfl ?_
  refine Rn.iload_n dX9_dearest_14 rfl rfl ?_
  refine Rn.callVp (As := [_]) dX9_dearest_15 mv_X9_303 (by first | rfl | exact gC0 (by assumption) | exact gL0 (by assumption)) rfl rfl rfl (Nat.le_of_ble_eq_true rfl) (ct_soldFor G _ _ (by exact h3_1) _) ?_
  refine Rn.aload_n dX9_dearest_18 rfl rfl ?_
  refine Rn.getR dX9_dearest_19 fd_X9_19_8 (by first | rfl | exact gC0 (by assumption) | exact gL0 (by assumption)) rfl ?_
  refine Rn.iload_n dX9_dearest_22 rfl rfl ?_
  refine Rn.callVp (As := [_]) dX9_dearest_23 mv_X9_303 (by first | rfl | exact gC0 (by assumption) | exact gL0 (by assumption)) rfl rfl rfl (Nat.le_of_ble_eq_true rfl) (ct_soldFor G _ _ (by exact h3_1) _) ?_
  refine Rn.icmp_le (tgt := 31) dX9_dearest_26 (by decide) (fun _ => ?_) (fun h9 => absurd h9 (by decide))
  refine Rn.iincN dX9_dearest_31 rfl (by decide) ?_
  refine Rn.goto 4 dX9_dearest_34 (by decide) ?_
  refine Rn.iload_n dX9_dearest_4 rfl rfl ?_
  refine Rn.bipush (v := (nI 50)) dX9_dearest_5 rfl ?_
  refine Rn.icmp_gt (tgt := 37) dX9_dearest_7 (by decide) (fun h9 => absurd h9 (by decide)) (fun _ => ?_)
  refine Rn.aload_n dX9_dearest_10 rfl rfl ?_
  refine Rn.getR dX9_dearest_11 fd_X9_19_8 (by first | rfl | exact gC0 (by assumption) | exact gL0 (by assumption)) rfl ?_
  refine Rn.iload_n dX9_dearest_14 rfl rfl ?_
  refine Rn.callVp (As := [_]) dX9_dearest_15 mv_X9_303 (by first | rfl | exact gC0 (by assumption) | exact gL0 (by assumption)) rfl rfl rfl (Nat.le_of_ble_eq_true rfl) (ct_soldFor G _ _ (by exact h3_1) _) ?_
  refine Rn.aload_n dX9_dearest_18 rfl rfl ?_
  refine Rn.getR dX9_dearest_19 fd_X9_19_8 (by first | rfl | exact gC0 (by assumption) | exact gL0 (by assumption)) rfl ?_
  refine Rn.iload_n dX9_dearest_22 rfl rfl ?_
  refine Rn.callVp (As := [_]) dX9_dearest_23 mv_X9_303 (by first | rfl | exact gC0 (by assumption) | exact gL0 (by assumption)) rfl rfl rfl (Nat.le_of_ble_eq_true rfl) (ct_soldFor G _ _ (by exact h3_1) _) ?_
  refine Rn.icmp_le (tgt := 31) dX9_dearest_26 (by decide) (fun _ => ?_) (fun h9 => absurd h9 (by decide))
  refine Rn.iincN dX9_dearest_31 rfl (by decide) ?_
  refine Rn.goto 4 dX9_dearest_34 (by decide) ?_
  refine Rn.iload_n dX9_dearest_4 rfl rfl ?_
  refine Rn.bipush (v := (nI 50)) dX9_dearest_5 rfl ?_
  refine Rn.icmp_gt (tgt := 37) dX9_dearest_7 (by decide) (fun h9 => absurd h9 (by decide)) (fun _ => ?_)
  refine Rn.aload_n dX9_dearest_10 rfl rfl ?_
  refine Rn.getR dX9_dearest_11 fd_X9_19_8 (by first | rfl | exact gC0 (by assumption) | exact gL0 (by assumption)) rfl ?_
  refine Rn.iload_n dX9_dearest_14 rfl rfl ?_
  refine Rn.callVp (As := [_]) dX9_dearest_15 mv_X9_303 (by first | rfl | exact gC0 (by assumption) | exact gL0 (by assumption)) rfl rfl rfl (Nat.le_of_ble_eq_true rfl) (ct_soldFor G _ _ (by exact h3_1) _) ?_
  refine Rn.aload_n dX9_dearest_18 rfl rfl ?_
  refine Rn.getR dX9_dearest_19 fd_X9_19_8 (by first | rfl | exact gC0 (by assumption) | exact gL0 (by assumption)) rfl ?_
  refine Rn.iload_n dX9_dearest_22 rfl rfl ?_
  refine Rn.callVp (As := [_]) dX9_dearest_23 mv_X9_303 (by first | rfl | exact gC0 (by assumption) | exact gL0 (by assumption)) rfl rfl rfl (Nat.le_of_ble_eq_true rfl) (ct_soldFor G _ _ (by exact h3_1) _) ?_
  refine Rn.icmp_le (tgt := 31) dX9_dearest_26 (by decide) (fun _ => ?_) (fun h9 => absurd h9 (by decide))
  refine Rn.iincN dX9_dearest_31 rfl (by decide) ?_
  refine Rn.goto 4 dX9_dearest_34 (by decide) ?_
  refine Rn.iload_n dX9_dearest_4 rfl rfl ?_
  refine Rn.bipush (v := (nI 50)) dX9_dearest_5 rfl ?_
  refine Rn.icmp_gt (tgt := 37) dX9_dearest_7 (by decide) (fun h9 => absurd h9 (by decide)) (fun _ => ?_)
  refine Rn.aload_n dX9_dearest_10 rfl rfl ?_
  refine Rn.getR dX9_dearest_11 fd_X9_19_8 (by first | rfl | exact gC0 (by assumption) | exact gL0 (by assumption)) rfl ?_
  refine Rn.iload_n dX9_dearest_14 rfl rfl ?_
  refine Rn.callVp (As := [_]) dX9_dearest_15 mv_X9_303 (by first | rfl | exact gC0 (by assumption) | exact gL0 (by assumption)) rfl rfl rfl (Nat.le_of_ble_eq_true rfl) (ct_soldFor G _ _ (by exact h3_1) _) ?_
  refine Rn.aload_n dX9_dearest_18 rfl rfl ?_
  refine Rn.getR dX9_dearest_19 fd_X9_19_8 (by first | rfl | exact gC0 (by assumption) | exact gL0 (by assumption)) rfl ?_
  refine Rn.iload_n dX9_dearest_22 rfl rfl ?_
  refine Rn.callVp (As := [_]) dX9_dearest_23 mv_X9_303 (by first | rfl | exact gC0 (by assumption) | exact gL0 (by assumption)) rfl rfl rfl (Nat.le_of_ble_eq_true rfl) (ct_soldFor G _ _ (by exact h3_1) _) ?_
  refine Rn.icmp_le (tgt := 31) dX9_dearest_26 (by decide) (fun _ => ?_) (fun h9 => absurd h9 (by decide))
  refine Rn.iincN dX9_dearest_31 rfl (by decide) ?_
  refine Rn.goto 4 dX9_dearest_34 (by decide) ?_
  refine Rn.iload_n dX9_dearest_4 rfl rfl ?_
  refine Rn.bipush (v := (nI 50)) dX9_dearest_5 rfl ?_
  refine Rn.icmp_gt (tgt := 37) dX9_dearest_7 (by decide) (fun h9 => absurd h9 (by decide)) (fun _ => ?_)
  refine Rn.aload_n dX9_dearest_10 rfl rfl ?_
  refine Rn.getR dX9_dearest_11 fd_X9_19_8 (by first | rfl | exact gC0 (by assumption) | exact gL0 (by assumption)) rfl ?_
  refine Rn.iload_n dX9_dearest_14 rfl rfl ?_
  refine Rn.callVp (As := [_]) dX9_dearest_15 mv_X9_303 (by first | rfl | exact gC0 (by assumption) | exact gL0 (by assumption)) rfl rfl rfl (Nat.le_of_ble_eq_true rfl) (ct_soldFor G _ _ (by exact h3_1) _) ?_
  refine Rn.aload_n dX9_dearest_18 rfl rfl ?_
  refine Rn.getR dX9_dearest_19 fd_X9_19_8 (by first | rfl | exact gC0 (by assumption) | exact gL0 (by assumption)) rfl ?_
  refine Rn.iload_n dX9_dearest_22 rfl rfl ?_
  refine Rn.callVp (As := [_]) dX9_dearest_23 mv_X9_303 (by first | rfl | exact gC0 (by assumption) | exact gL0 (by assumption)) rfl rfl rfl (Nat.le_of_ble_eq_true rfl) (ct_soldFor G _ _ (by exact h3_1) _) ?_
  refine Rn.icmp_le (tgt := 31) dX9_dearest_26 (by decide) (fun _ => ?_) (fun h9 => absurd h9 (by decide))
  refine Rn.iincN dX9_dearest_31 rfl (by decide) ?_
  refine Rn.goto 4 dX9_dearest_34 (by decide) ?_
  refine Rn.iload_n dX9_dearest_4 rfl rfl ?_
  refine Rn.bipush (v := (nI 50)) dX9_dearest_5 rfl ?_
  refine Rn.icmp_gt (tgt := 37) dX9_dearest_7 (by decide) (fun h9 => absurd h9 (by decide)) (fun _ => ?_)
  refine Rn.aload_n dX9_dearest_10 rfl rfl ?_
  refine Rn.getR dX9_dearest_11 fd_X9_19_8 (by first | rfl | exact gC0 (by assumption) | exact gL0 (by assumption)) rfl ?_
  refine Rn.iload_n dX9_dearest_14 rfl rfl ?_
  refine Rn.callVp (As := [_]) dX9_dearest_15 mv_X9_303 (by first | rfl | exact gC0 (by assumption) | exact gL0 (by assumption)) rfl rfl rfl (Nat.le_of_ble_eq_true rfl) (ct_soldFor G _ _ (by exact h3_1) _) ?_
  refine Rn.aload_n dX9_dearest_18 rfl rfl ?_
  refine Rn.getR dX9_dearest_19 fd_X9_19_8 (by first | rfl | exact gC0 (by assumption) | exact gL0 (by assumption)) rfl ?_
  refine Rn.iload_n dX9_dearest_22 rfl rfl ?_
  refine Rn.callVp (As := [_]) dX9_dearest_23 mv_X9_303 (by first | rfl | exact gC0 (by assumption) | exact gL0 (by assumption)) rfl rfl rfl (Nat.le_of_ble_eq_true rfl) (ct_soldFor G _ _ (by exact h3_1) _) ?_
  refine Rn.icmp_le (tgt := 31) dX9_dearest_26 (by decide) (fun _ => ?_) (fun h9 => absurd h9 (by decide))
  refine Rn.iincN dX9_dearest_31 rfl (by decide) ?_
  refine Rn.goto 4 dX9_dearest_34 (by decide) ?_
  refine Rn.iload_n dX9_dearest_4 rfl rfl ?_
  refine Rn.bipush (v := (nI 50)) dX9_dearest_5 rfl ?_
  refine Rn.icmp_gt (tgt := 37) dX9_dearest_7 (by decide) (fun h9 => absurd h9 (by decide)) (fun _ => ?_)
  refine Rn.aload_n dX9_dearest_10 rfl rfl ?_
  refine Rn.getR dX9_dearest_11 fd_X9_19_8 (by first | rfl | exact gC0 (by assumption) | exact gL0 (by assumption)) rfl ?_
  refine Rn.iload_n dX9_dearest_14 rfl rfl ?_
  refine Rn.callVp (As := [_]) dX9_dearest_15 mv_X9_303 (by first | rfl | exact gC0 (by assumption) | exact gL0 (by assumption)) rfl rfl rfl (Nat.le_of_ble_eq_true rfl) (ct_soldFor G _ _ (by exact h3_1) _) ?_
  refine Rn.aload_n dX9_dearest_18 rfl rfl ?_
  refine Rn.getR dX9_dearest_19 fd_X9_19_8 (by first | rfl | exact gC0 (by assumption) | exact gL0 (by assumption)) rfl ?_
  refine Rn.iload_n dX9_dearest_22 rfl rfl ?_
  refine Rn.callVp (As := [_]) dX9_dearest_23 mv_X9_303 (by first | rfl | exact gC0 (by assumption) | exact gL0 (by assumption)) rfl rfl rfl (Nat.le_of_ble_eq_true rfl) (ct_soldFor G _ _ (by exact h3_1) _) ?_
  refine Rn.icmp_le (tgt := 31) dX9_dearest_26 (by decide) (fun _ => ?_) (fun h9 => absurd h9 (by decide))
  refine Rn.iincN dX9_dearest_31 rfl (by decide) ?_
  refine Rn.goto 4 dX9_dearest_34 (by decide) ?_
  refine Rn.iload_n dX9_dearest_4 rfl rfl ?_
  refine Rn.bipush (v := (nI 50)) dX9_dearest_5 rfl ?_
  refine Rn.icmp_gt (tgt := 37) dX9_dearest_7 (by decide) (fun h9 => absurd h9 (by decide)) (fun _ => ?_)
  refine Rn.aload_n dX9_dearest_10 rfl rfl ?_
  refine Rn.getR dX9_dearest_11 fd_X9_19_8 (by first | rfl | exact gC0 (by assumption) | exact gL0 (by assumption)) rfl ?_
  refine Rn.iload_n dX9_dearest_14 rfl rfl ?_
  refine Rn.callVp (As := [_]) dX9_dearest_15 mv_X9_303 (by first | rfl | exact gC0 (by assumption) | exact gL0 (by assumption)) rfl rfl rfl (Nat.le_of_ble_eq_true rfl) (ct_soldFor G _ _ (by exact h3_1) _) ?_
  refine Rn.aload_n dX9_dearest_18 rfl rfl ?_
  refine Rn.getR dX9_dearest_19 fd_X9_19_8 (by first | rfl | exact gC0 (by assumption) | exact gL0 (by assumption)) rfl ?_
  refine Rn.iload_n dX9_dearest_22 rfl rfl ?_
  refine Rn.callVp (As := [_]) dX9_dearest_23 mv_X9_303 (by first | rfl | exact gC0 (by assumption) | exact gL0 (by assumption)) rfl rfl rfl (Nat.le_of_ble_eq_true rfl) (ct_soldFor G _ _ (by exact h3_1) _) ?_
  refine Rn.icmp_le (tgt := 31) dX9_dearest_26 (by decide) (fun _ => ?_) (fun h9 => absurd h9 (by decide))
  refine Rn.iincN dX9_dearest_31 rfl (by decide) ?_
  refine Rn.goto 4 dX9_dearest_34 (by decide) ?_
  refine Rn.iload_n dX9_dearest_4 rfl rfl ?_
  refine Rn.bipush (v := (nI 50)) dX9_dearest_5 rfl ?_
  refine Rn.icmp_gt (tgt := 37) dX9_dearest_7 (by decide) (fun h9 => absurd h9 (by decide)) (fun _ => ?_)
  refine Rn.aload_n dX9_dearest_10 rfl rfl ?_
  refine Rn.getR dX9_dearest_11 fd_X9_19_8 (by first | rfl | exact gC0 (by assumption) | exact gL0 (by assumption)) rfl ?_
  refine Rn.iload_n dX9_dearest_14 rfl rfl ?_
  refine Rn.callVp (As := [_]) dX9_dearest_15 mv_X9_303 (by first | rfl | exact gC0 (by assumption) | exact gL0 (by assumption)) rfl rfl rfl (Nat.le_of_ble_eq_true rfl) (ct_soldFor G _ _ (by exact h3_1) _) ?_
  refine Rn.aload_n dX9_dearest_18 rfl rfl ?_
  refine Rn.getR dX9_dearest_19 fd_X9_19_8 (by first | rfl | exact gC0 (by assumption) | exact gL0 (by assumption)) rfl ?_
  refine Rn.iload_n dX9_dearest_22 rfl rfl ?_
  refine Rn.callVp (As := [_]) dX9_dearest_23 mv_X9_303 (by first | rfl | exact gC0 (by assumption) | exact gL0 (by assumption)) rfl rfl rfl (Nat.le_of_ble_eq_true rfl) (ct_soldFor G _ _ (by exact h3_1) _) ?_
  refine Rn.icmp_le (tgt := 31) dX9_dearest_26 (by decide) (fun _ => ?_) (fun h9 => absurd h9 (by decide))
  refine Rn.iincN dX9_dearest_31 rfl (by decide) ?_
  refine Rn.goto 4 dX9_dearest_34 (by decide) ?_
  refine Rn.iload_n dX9_dearest_4 rfl rfl ?_
  refine Rn.bipush (v := (nI 50)) dX9_dearest_5 rfl ?_
  refine Rn.icmp_gt (tgt := 37) dX9_dearest_7 (by decide) (fun h9 => absurd h9 (by decide)) (fun _ => ?_)
  refine Rn.aload_n dX9_dearest_10 rfl rfl ?_
  refine Rn.getR dX9_dearest_11 fd_X9_19_8 (by first | rfl | exact gC0 (by assumption) | exact gL0 (by assumption)) rfl ?_
  refine Rn.iload_n dX9_dearest_14 rfl rfl ?_
  refine Rn.callVp (As := [_]) dX9_dearest_15 mv_X9_303 (by first | rfl | exact gC0 (by assumption) | exact gL0 (by assumption)) rfl rfl rfl (Nat.le_of_ble_eq_true rfl) (ct_soldFor G _ _ (by exact h3_1) _) ?_
  refine Rn.aload_n dX9_dearest_18 rfl rfl ?_
  refine Rn.getR dX9_dearest_19 fd_X9_19_8 (by first | rfl | exact gC0 (by assumption) | exact gL0 (by assumption)) rfl ?_
  refine Rn.iload_n dX9_dearest_22 rfl rfl ?_
  refine Rn.callVp (As := [_]) dX9_dearest_23 mv_X9_303 (by first | rfl | exact gC0 (by assumption) | exact gL0 (by assumption)) rfl rfl rfl (Nat.le_of_ble_eq_true rfl) (ct_soldFor G _ _ (by exact h3_1) _) ?_
  refine Rn.icmp_le (tgt := 31) dX9_dearest_26 (by decide) (fun _ => ?_) (fun h9 => absurd h9 (by decide))
  refine Rn.iincN dX9_dearest_31 rfl (by decide) ?_
  refine Rn.goto 4 dX9_dearest_34 (by decide) ?_
  refine Rn.iload_n dX9_dearest_4 rfl rfl ?_
  refine Rn.bipush (v := (nI 50)) dX9_dearest_5 rfl ?_
  refine Rn.icmp_gt (tgt := 37) dX9_dearest_7 (by decide) (fun h9 => absurd h9 (by decide)) (fun _ => ?_)
  refine Rn.aload_n dX9_dearest_10 rfl rfl ?_
  refine Rn.getR dX9_dearest_11 fd_X9_19_8 (by first | rfl | exact gC0 (by assumption) | exact gL0 (by assumption)) rfl ?_
  refine Rn.iload_n dX9_dearest_14 rfl rfl ?_
  refine Rn.callVp (As := [_]) dX9_dearest_15 mv_X9_303 (by first | rfl | exact gC0 (by assumption) | exact gL0 (by assumption)) rfl rfl rfl (Nat.le_of_ble_eq_true rfl) (ct_soldFor G _ _ (by exact h3_1) _) ?_
  refine Rn.aload_n dX9_dearest_18 rfl rfl ?_
  refine Rn.getR dX9_dearest_19 fd_X9_19_8 (by first | rfl | exact gC0 (by assumption) | exact gL0 (by assumption)) rfl ?_
  refine Rn.iload_n dX9_dearest_22 rfl rfl ?_
  refine Rn.callVp (As := [_]) dX9_dearest_23 mv_X9_303 (by first | rfl | exact gC0 (by assumption) | exact gL0 (by assumption)) rfl rfl rfl (Nat.le_of_ble_eq_true rfl) (ct_soldFor G _ _ (by exact h3_1) _) ?_
  refine Rn.icmp_le (tgt := 31) dX9_dearest_26 (by decide) (fun _ => ?_) (fun h9 => absurd h9 (by decide))
  refine Rn.iincN dX9_dearest_31 rfl (by decide) ?_
  refine Rn.goto 4 dX9_dearest_34 (by decide) ?_
  refine Rn.iload_n dX9_dearest_4 rfl rfl ?_
  refine Rn.bipush (v := (nI 50)) dX9_dearest_5 rfl ?_
  refine Rn.icmp_gt (tgt := 37) dX9_dearest_7 (by decide) (fun h9 => absurd h9 (by decide)) (fun _ => ?_)
  refine Rn.aload_n dX9_dearest_10 rfl rfl ?_
  refine Rn.getR dX9_dearest_11 fd_X9_19_8 (by first | rfl | exact gC0 (by assumption) | exact gL0 (by assumption)) rfl ?_
  refine Rn.iload_n dX9_dearest_14 rfl rfl ?_
  refine Rn.callVp (As := [_]) dX9_dearest_15 mv_X9_303 (by first | rfl | exact gC0 (by assumption) | exact gL0 (by assumption)) rfl rfl rfl (Nat.le_of_ble_eq_true rfl) (ct_soldFor G _ _ (by exact h3_1) _) ?_
  refine Rn.aload_n dX9_dearest_18 rfl rfl ?_
  refine Rn.getR dX9_dearest_19 fd_X9_19_8 (by first | rfl | exact gC0 (by assumption) | exact gL0 (by assumption)) rfl ?_
  refine Rn.iload_n dX9_dearest_22 rfl rfl ?_
  refine Rn.callVp (As := [_]) dX9_dearest_23 mv_X9_303 (by first | rfl | exact gC0 (by assumption) | exact gL0 (by assumption)) rfl rfl rfl (Nat.le_of_ble_eq_true rfl) (ct_soldFor G _ _ (by exact h3_1) _) ?_
  refine Rn.icmp_le (tgt := 31) dX9_dearest_26 (by decide) (fun _ => ?_) (fun h9 => absurd h9 (by decide))
  refine Rn.iincN dX9_dearest_31 rfl (by decide) ?_
  refine Rn.goto 4 dX9_dearest_34 (by decide) ?_
  refine Rn.iload_n dX9_dearest_4 rfl rfl ?_
  refine Rn.bipush (v := (nI 50)) dX9_dearest_5 rfl ?_
  refine Rn.icmp_gt (tgt := 37) dX9_dearest_7 (by decide) (fun h9 => absurd h9 (by decide)) (fun _ => ?_)
  refine Rn.aload_n dX9_dearest_10 rfl rfl ?_
  refine Rn.getR dX9_dearest_11 fd_X9_19_8 (by first | rfl | exact gC0 (by assumption) | exact gL0 (by assumption)) rfl ?_
  refine Rn.iload_n dX9_dearest_14 rfl rfl ?_
  refine Rn.callVp (As := [_]) dX9_dearest_15 mv_X9_303 (by first | rfl | exact gC0 (by assumption) | exact gL0 (by assumption)) rfl rfl rfl (Nat.le_of_ble_eq_true rfl) (ct_soldFor G _ _ (by exact h3_1) _) ?_
  refine Rn.aload_n dX9_dearest_18 rfl rfl ?_
  refine Rn.getR dX9_dearest_19 fd_X9_19_8 (by first | rfl | exact gC0 (by assumption) | exact gL0 (by assumption)) rfl ?_
  refine Rn.iload_n dX9_dearest_22 rfl rfl ?_
  refine Rn.callVp (As := [_]) dX9_dearest_23 mv_X9_303 (by first | rfl | exact gC0 (by assumption) | exact gL0 (by assumption)) rfl rfl rfl (Nat.le_of_ble_eq_true rfl) (ct_soldFor G _ _ (by exact h3_1) _) ?_
  refine Rn.icmp_le (tgt := 31) dX9_dearest_26 (by decide) (fun _ => ?_) (fun h9 => absurd h9 (by decide))
  refine Rn.iincN dX9_dearest_31 rfl (by decide) ?_
  refine Rn.goto 4 dX9_dearest_34 (by decide) ?_
  refine Rn.iload_n dX9_dearest_4 rfl rfl ?_
  refine Rn.bipush (v := (nI 50)) dX9_dearest_5 rfl ?_
  refine Rn.icmp_gt (tgt := 37) dX9_dearest_7 (by decide) (fun h9 => absurd h9 (by decide)) (fun _ => ?_)
  refine Rn.aload_n dX9_dearest_10 rfl rfl ?_
  refine Rn.getR dX9_dearest_11 fd_X9_19_8 (by first | rfl | exact gC0 (by assumption) | exact gL0 (by assumption)) rfl ?_
  refine Rn.iload_n dX9_dearest_14 rfl rfl ?_
  refine Rn.callVp (As := [_]) dX9_dearest_15 mv_X9_303 (by first | rfl | exact gC0 (by assumption) | exact gL0 (by assumption)) rfl rfl rfl (Nat.le_of_ble_eq_true rfl) (ct_soldFor G _ _ (by exact h3_1) _) ?_
  refine Rn.aload_n dX9_dearest_18 rfl rfl ?_
  refine Rn.getR dX9_dearest_19 fd_X9_19_8 (by first | rfl | exact gC0 (by assumption) | exact gL0 (by assumption)) rfl ?_
  refine Rn.iload_n dX9_dearest_22 rfl rfl ?_
  refine Rn.callVp (As := [_]) dX9_dearest_23 mv_X9_303 (by first | rfl | exact gC0 (by assumption) | exact gL0 (by assumption)) rfl rfl rfl (Nat.le_of_ble_eq_true rfl) (ct_soldFor G _ _ (by exact h3_1) _) ?_
  refine Rn.icmp_le (tgt := 31) dX9_dearest_26 (by decide) (fun _ => ?_) (fun h9 => absurd h9 (by decide))
  refine Rn.iincN dX9_dearest_31 rfl (by decide) ?_
  refine Rn.goto 4 dX9_dearest_34 (by decide) ?_
  refine Rn.iload_n dX9_dearest_4 rfl rfl ?_
  refine Rn.bipush (v := (nI 50)) dX9_dearest_5 rfl ?_
  refine Rn.icmp_gt (tgt := 37) dX9_dearest_7 (by decide) (fun _ => ?_) (fun h9 => absurd h9 (by decide))
  refine Rn.iload_n dX9_dearest_37 rfl rfl ?_
  exact Rn.iret dX9_dearest_38 rfl (⟨rfl, rfl⟩)
theorem ct_X9_end (F : FC I) (n : Int32) : Ct G GAM mX9_end d 0 [.ref 0, .int n] I (fun o K => o = .inl (some (.int (bI (¬ n < 0 ∧ n ≤ nI 0)))) ∧ (K = I ∨ K = zup I 1 1 n)) := by
  obtain ⟨h3_0, h3_1, h3_2, h3_3, h3_4, h3_5, h3_6, h3_7, h3_8, h0_11, h0_12, h1_1, h16_0, h44_1, h44_2⟩ := F
  refine Ct.mk [some (.ref 0), some (.int n)] ?_
  refine Rn.iload_n dX9_end_0 rfl rfl ?_
  refine Rn.if_lt (tgt := 15) dX9_end_1 (by decide) (fun h1 => ?_) (fun h1 => ?_)
  · refine Rn.iconst (v := (nI 0)) dX9_end_15 rfl ?_
    exact Rn.zret dX9_end_16 rfl rfl (⟨by rw [bI_f (fun q => q.1 h1)]; rfl, Or.inl rfl⟩)
  · refine Rn.iload_n dX9_end_4 rfl rfl ?_
    refine Rn.aload_n dX9_end_5 rfl rfl ?_
    refine Rn.getR dX9_end_6 fd_X9_10_8 (by first | rfl | exact gC0 (by assumption) | exact gL0 (by assumption)) rfl ?_
    refine Rn.getI dX9_end_9 fd_X9_84_7 (by first | rfl | exact gC0 (by assumption) | exact gL0 (by assumption)) rfl ?_
    refine Rn.topI (nI 0) h1_1 ?_
    refine Rn.icmp_le (tgt := 17) dX9_end_12 (by decide) (fun h2 => ?_) (fun h2 => ?_)
    · refine Rn.aload_n dX9_end_17 rfl rfl ?_
      refine Rn.getR dX9_end_18 fd_X9_10_8 (by first | rfl | exact gC0 (by assumption) | exact gL0 (by assumption)) rfl ?_
      refine Rn.iload_n dX9_end_21 rfl rfl ?_
      refine Rn.putI dX9_end_22 fp_X9_84_7 (by first | rfl | exact gC0 (by assumption) | exact gL0 (by assumption)) rfl ?_
      refine Rn.iconst (v := (nI 1)) dX9_end_25 rfl ?_
      exact Rn.zret dX9_end_26 rfl rfl (⟨by rw [bI_t ⟨h1, h2⟩]; rfl, Or.inr rfl⟩)
    · refine Rn.iconst (v := (nI 0)) dX9_end_15 rfl ?_
      exact Rn.zret dX9_end_16 rfl rfl (⟨by rw [bI_f (fun q => h2 q.2)]; rfl, Or.inl rfl⟩)
end ClsA
