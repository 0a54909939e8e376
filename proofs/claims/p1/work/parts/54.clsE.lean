abbrev mX8_step : Ym := (yX8_step, cX8_step, 3, none)
theorem dX8_step_0 : decode cX8_step 0 = .ok (.aload_n 0, 1) := by decide +kernel
theorem dX8_step_1 : decode cX8_step 1 = .ok (.getfield 15, 3) := by decide +kernel
theorem dX8_step_4 : decode cX8_step 4 = .ok (.sipush 400, 3) := by decide +kernel
theorem dX8_step_7 : decode cX8_step 7 = .ok (.invokestatic 28, 3) := by decide +kernel
theorem wi_567 : Cond.methodLink RX8 28 yJ9_min_7cf53 ∈ WA := zin 567 (by decide +kernel) (by decide +kernel)
theorem ms_X8_28 : zMs RX8 28 mJ9_min_7cf53 2 := ⟨⟨wi_567, wi_112, wi_569, by decide, by decide +kernel⟩, wi_568⟩
theorem dX8_step_10 : decode cX8_step 10 = .ok (.istore_n 1, 1) := by decide +kernel
theorem dX8_step_11 : decode cX8_step 11 = .ok (.aload_n 0, 1) := by decide +kernel
theorem dX8_step_12 : decode cX8_step 12 = .ok (.getfield 19, 3) := by decide +kernel
theorem wi_145 : Cond.fieldLink RX8 19 "BorrowedLuck$Tape" "behind" "I" ∈ WA := zin 145 (by decide +kernel) (by decide +kernel)
theorem fd_X8_19_7 : zFd RX8 19 7 3 := ⟨RX8, TX8, 7, "BorrowedLuck$Tape", rfl, by decide, uw_X8, Or.inl rfl, Or.inl wi_145⟩
theorem dX8_step_15 : decode cX8_step 15 = .ok (.iconst 0, 1) := by decide +kernel
theorem dX8_step_16 : decode cX8_step 16 = .ok (.invokestatic 34, 3) := by decide +kernel
abbrev mJ9_max_7cf53 : Ym := (yJ9_max_7cf53, cJ9_max_7cf53, 2, some .int)
theorem wi_570 : Cond.methodLink RX8 34 yJ9_max_7cf53 ∈ WA := zin 570 (by decide +kernel) (by decide +kernel)
theorem wi_572 : Cond.code yJ9_max_7cf53 cJ9_max_7cf53 2 (some .int) ∈ WA := zin 572 (by decide +kernel) (by decide +kernel)
theorem wi_571 : Cond.static yJ9_max_7cf53 ∈ WA := zin 571 (by decide +kernel) (by decide +kernel)
theorem ms_X8_34 : zMs RX8 34 mJ9_max_7cf53 2 := ⟨⟨wi_570, wi_112, wi_572, by decide, by decide +kernel⟩, wi_571⟩
theorem dX8_step_19 : decode cX8_step 19 = .ok (.istore_n 2, 1) := by decide +kernel
theorem dX8_step_20 : decode cX8_step 20 = .ok (.iload_n 2, 1) := by decide +kernel
theorem dX8_step_21 : decode cX8_step 21 = .ok (.iload_n 1, 1) := by decide +kernel
theorem dX8_step_22 : decode cX8_step 22 = .ok (.if_icmp .ge 20, 3) := by decide +kernel
theorem dX8_step_42 : decode cX8_step 42 = .ok (.aload_n 0, 1) := by decide +kernel
theorem dX8_step_43 : decode cX8_step 43 = .ok (.iload_n 2, 1) := by decide +kernel
theorem dX8_step_44 : decode cX8_step 44 = .ok (.putfield 25, 3) := by decide +kernel
theorem wi_143 : Cond.fieldLink RX8 25 "BorrowedLuck$Tape" "at" "I" ∈ WA := zin 143 (by decide +kernel) (by decide +kernel)
theorem fp_X8_25_7 : zFp RX8 25 7 2 .int := ⟨RX8, TX8, 7, "BorrowedLuck$Tape", tyX8, rfl, by decide, uw_X8, Or.inl rfl, Or.inl wi_143, tyX8_ok, nmX8, rfl, by decide +kernel⟩
theorem dX8_step_47 : decode cX8_step 47 = .ok (.aload_n 0, 1) := by decide +kernel
theorem dX8_step_48 : decode cX8_step 48 = .ok (.iload_n 2, 1) := by decide +kernel
theorem dX8_step_49 : decode cX8_step 49 = .ok (.iload_n 1, 1) := by decide +kernel
theorem dX8_step_50 : decode cX8_step 50 = .ok (.if_icmp .ge 12, 3) := by decide +kernel
theorem dX8_step_62 : decode cX8_step 62 = .ok (.iconst (-1), 1) := by decide +kernel
theorem dX8_step_63 : decode cX8_step 63 = .ok (.putfield 37, 3) := by decide +kernel
theorem wi_150 : Cond.fieldLink RX8 37 "BorrowedLuck$Tape" "first" "I" ∈ WA := zin 150 (by decide +kernel) (by decide +kernel)
theorem fp_X8_37_7 : zFp RX8 37 7 6 .int := ⟨RX8, TX8, 7, "BorrowedLuck$Tape", tyX8, rfl, by decide, uw_X8, Or.inl rfl, Or.inl wi_150, tyX8_ok, nmX8, rfl, by decide +kernel⟩
theorem dX8_step_66 : decode cX8_step 66 = .ok (.aload_n 0, 1) := by decide +kernel
theorem dX8_step_67 : decode cX8_step 67 = .ok (.iconst 0, 1) := by decide +kernel
theorem dX8_step_68 : decode cX8_step 68 = .ok (.putfield 40, 3) := by decide +kernel
theorem wi_147 : Cond.fieldLink RX8 40 "BorrowedLuck$Tape" "word" "I" ∈ WA := zin 147 (by decide +kernel) (by decide +kernel)
theorem fp_X8_40_7 : zFp RX8 40 7 4 .int := ⟨RX8, TX8, 7, "BorrowedLuck$Tape", tyX8, rfl, by decide, uw_X8, Or.inl rfl, Or.inl wi_147, tyX8_ok, nmX8, rfl, by decide +kernel⟩
theorem dX8_step_71 : decode cX8_step 71 = .ok (.iload_n 2, 1) := by decide +kernel
theorem dX8_step_72 : decode cX8_step 72 = .ok (.iload_n 1, 1) := by decide +kernel
theorem dX8_step_73 : decode cX8_step 73 = .ok (.if_icmp .ge 65, 3) := by decide +kernel
theorem dX8_step_138 : decode cX8_step 138 = .ok (.aload_n 0, 1) := by decide +kernel
theorem dX8_step_139 : decode cX8_step 139 = .ok (.iconst (-1), 1) := by decide +kernel
theorem dX8_step_140 : decode cX8_step 140 = .ok (.putfield 43, 3) := by decide +kernel
theorem wi_149 : Cond.fieldLink RX8 43 "BorrowedLuck$Tape" "number" "I" ∈ WA := zin 149 (by decide +kernel) (by decide +kernel)
theorem fp_X8_43_7 : zFp RX8 43 7 5 .int := ⟨RX8, TX8, 7, "BorrowedLuck$Tape", tyX8, rfl, by decide, uw_X8, Or.inl rfl, Or.inl wi_149, tyX8_ok, nmX8, rfl, by decide +kernel⟩
theorem dX8_step_143 : decode cX8_step 143 = .ok (.aload_n 0, 1) := by decide +kernel
theorem dX8_step_144 : decode cX8_step 144 = .ok (.getfield 40, 3) := by decide +kernel
theorem fd_X8_40_7 : zFd RX8 40 7 4 := ⟨RX8, TX8, 7, "BorrowedLuck$Tape", rfl, by decide, uw_X8, Or.inl rfl, Or.inl wi_147⟩
theorem dX8_step_147 : decode cX8_step 147 = .ok (.ifCond .ne 75, 3) := by decide +kernel
theorem dX8_step_150 : decode cX8_step 150 = .ok (.iload_n 2, 1) := by decide +kernel
theorem dX8_step_151 : decode cX8_step 151 = .ok (.iload_n 1, 1) := by decide +kernel
theorem dX8_step_152 : decode cX8_step 152 = .ok (.if_icmp .ge 70, 3) := by decide +kernel
theorem dX8_step_222 : decode cX8_step 222 = .ok (.aload_n 0, 1) := by decide +kernel
theorem dX8_step_223 : decode cX8_step 223 = .ok (.iload_n 2, 1) := by decide +kernel
theorem dX8_step_224 : decode cX8_step 224 = .ok (.aload_n 0, 1) := by decide +kernel
theorem dX8_step_225 : decode cX8_step 225 = .ok (.getfield 25, 3) := by decide +kernel
theorem fd_X8_25_7 : zFd RX8 25 7 2 := ⟨RX8, TX8, 7, "BorrowedLuck$Tape", rfl, by decide, uw_X8, Or.inl rfl, Or.inl wi_143⟩
theorem dX8_step_228 : decode cX8_step 228 = .ok (.if_icmp .le 7, 3) := by decide +kernel
theorem dX8_step_235 : decode cX8_step 235 = .ok (.aload_n 0, 1) := by decide +kernel
theorem dX8_step_236 : decode cX8_step 236 = .ok (.getfield 25, 3) := by decide +kernel
theorem dX8_step_239 : decode cX8_step 239 = .ok (.iconst 1, 1) := by decide +kernel
theorem dX8_step_240 : decode cX8_step 240 = .ok (.iadd, 1) := by decide +kernel
theorem dX8_step_241 : decode cX8_step 241 = .ok (.putfield 19, 3) := by decide +kernel
theorem fp_X8_19_7 : zFp RX8 19 7 3 .int := ⟨RX8, TX8, 7, "BorrowedLuck$Tape", tyX8, rfl, by decide, uw_X8, Or.inl rfl, Or.inl wi_145, tyX8_ok, nmX8, rfl, by decide +kernel⟩
theorem dX8_step_244 : decode cX8_step 244 = .ok (.return_, 1) := by decide +kernel
abbrev mX8_begin : Ym := (yX8_begin, cX8_begin, 1, none)
theorem dX8_begin_0 : decode cX8_begin 0 = .ok (.aload_n 0, 1) := by decide +kernel
theorem dX8_begin_1 : decode cX8_begin 1 = .ok (.iconst 0, 1) := by decide +kernel
theorem dX8_begin_2 : decode cX8_begin 2 = .ok (.putfield 19, 3) := by decide +kernel
theorem dX8_begin_5 : decode cX8_begin 5 = .ok (.aload_n 0, 1) := by decide +kernel
theorem dX8_begin_6 : decode cX8_begin 6 = .ok (.invokevirtual 22, 3) := by decide +kernel
theorem wi_563 : Cond.methodLink RX8 22 yX8_step ∈ WA := zin 563 (by decide +kernel) (by decide +kernel)
theorem wi_566 : Cond.code yX8_step cX8_step 3 (none) ∈ WA := zin 566 (by decide +kernel) (by decide +kernel)
theorem wi_564 : Cond.instanceMethod yX8_step ∈ WA := zin 564 (by decide +kernel) (by decide +kernel)
theorem wi_565 : Cond.selects RX8 yX8_step yX8_step ∈ WA := zin 565 (by decide +kernel) (by decide +kernel)
theorem mv_X8_22 : zMv RX8 22 RX8 mX8_step 0 := ⟨⟨wi_563, wi_101, wi_566, by decide, by decide +kernel⟩, wi_564, wi_565⟩
theorem dX8_begin_9 : decode cX8_begin 9 = .ok (.return_, 1) := by decide +kernel
abbrev mX8_isAtEnd : Ym := (yX8_isAtEnd, cX8_isAtEnd, 1, some .boolean)
theorem dX8_isAtEnd_0 : decode cX8_isAtEnd 0 = .ok (.aload_n 0, 1) := by decide +kernel
theorem dX8_isAtEnd_1 : decode cX8_isAtEnd 1 = .ok (.getfield 25, 3) := by decide +kernel
theorem dX8_isAtEnd_4 : decode cX8_isAtEnd 4 = .ok (.aload_n 0, 1) := by decide +kernel
theorem dX8_isAtEnd_5 : decode cX8_isAtEnd 5 = .ok (.getfield 15, 3) := by decide +kernel
theorem dX8_isAtEnd_8 : decode cX8_isAtEnd 8 = .ok (.if_icmp .lt 7, 3) := by decide +kernel
theorem dX8_isAtEnd_11 : decode cX8_isAtEnd 11 = .ok (.iconst 1, 1) := by decide +kernel
theorem dX8_isAtEnd_12 : decode cX8_isAtEnd 12 = .ok (.goto 4, 3) := by decide +kernel
theorem dX8_isAtEnd_16 : decode cX8_isAtEnd 16 = .ok (.ireturn, 1) := by decide +kernel
abbrev mX4_readsText : Ym := (yX4_readsText, cX4_readsText, 2, some .boolean)
theorem dX4_readsText_0 : decode cX4_readsText 0 = .ok (.aload_n 0, 1) := by decide +kernel
theorem dX4_readsText_1 : decode cX4_readsText 1 = .ok (.getfield 7, 3) := by decide +kernel
theorem fd_X4_7_1 : zFd RX4 7 1 1 := ⟨RX1, TX1, 3, "BorrowedLuck$LineReader", rfl, by decide, uw_X1, Or.inl rfl, Or.inl wi_285⟩
theorem dX4_readsText_4 : decode cX4_readsText 4 = .ok (.invokevirtual 17, 3) := by decide +kernel
theorem wi_559 : Cond.methodLink RX4 17 yX8_begin ∈ WA := zin 559 (by decide +kernel) (by decide +kernel)
theorem wi_562 : Cond.code yX8_begin cX8_begin 1 (none) ∈ WA := zin 562 (by decide +kernel) (by decide +kernel)
theorem wi_560 : Cond.instanceMethod yX8_begin ∈ WA := zin 560 (by decide +kernel) (by decide +kernel)
theorem wi_561 : Cond.selects RX8 yX8_begin yX8_begin ∈ WA := zin 561 (by decide +kernel) (by decide +kernel)
theorem mv_X4_17 : zMv RX4 17 RX8 mX8_begin 0 := ⟨⟨wi_559, wi_101, wi_562, by decide, by decide +kernel⟩, wi_560, wi_561⟩
theorem dX4_readsText_7 : decode cX4_readsText 7 = .ok (.aload_n 0, 1) := by decide +kernel
theorem dX4_readsText_8 : decode cX4_readsText 8 = .ok (.getfield 7, 3) := by decide +kernel
theorem dX4_readsText_11 : decode cX4_readsText 11 = .ok (.invokevirtual 22, 3) := by decide +kernel
theorem wi_573 : Cond.methodLink RX4 22 yX8_isAtEnd ∈ WA := zin 573 (by decide +kernel) (by decide +kernel)
theorem wi_576 : Cond.code yX8_isAtEnd cX8_isAtEnd 1 (some .boolean) ∈ WA := zin 576 (by decide +kernel) (by decide +kernel)
theorem wi_574 : Cond.instanceMethod yX8_isAtEnd ∈ WA := zin 574 (by decide +kernel) (by decide +kernel)
theorem wi_575 : Cond.selects RX8 yX8_isAtEnd yX8_isAtEnd ∈ WA := zin 575 (by decide +kernel) (by decide +kernel)
theorem mv_X4_22 : zMv RX4 22 RX8 mX8_isAtEnd 0 := ⟨⟨wi_573, wi_101, wi_576, by decide, by decide +kernel⟩, wi_574, wi_575⟩
theorem dX4_readsText_14 : decode cX4_readsText 14 = .ok (.ifCond .eq 5, 3) := by decide +kernel
theorem dX4_readsText_17 : decode cX4_readsText 17 = .ok (.iconst 1, 1) := by decide +kernel
theorem dX4_readsText_18 : decode cX4_readsText 18 = .ok (.ireturn, 1) := by decide +kernel
theorem fd_X4_7_3 : zFd RX4 7 3 1 := ⟨RX3, TX3, 3, "BorrowedLuck$LineReader", rfl, by decide, uw_X3, Or.inl rfl, Or.inl wi_285⟩
abbrev mX9_noteReading : Ym := (yX9_noteReading, cX9_noteReading, 2, none)
theorem dX9_noteReading_0 : decode cX9_noteReading 0 = .ok (.aload_n 0, 1) := by decide +kernel
theorem dX9_noteReading_1 : decode cX9_noteReading 1 = .ok (.iload_n 1, 1) := by decide +kernel
theorem dX9_noteReading_2 : decode cX9_noteReading 2 = .ok (.ifCond .eq 7, 3) := by decide +kernel
theorem dX9_noteReading_5 : decode cX9_noteReading 5 = .ok (.iconst (-1), 1) := by decide +kernel
theorem dX9_noteReading_6 : decode cX9_noteReading 6 = .ok (.goto 10, 3) := by decide +kernel
theorem dX9_noteReading_16 : decode cX9_noteReading 16 = .ok (.putfield 80, 3) := by decide +kernel
theorem dX9_noteReading_19 : decode cX9_noteReading 19 = .ok (.aload_n 0, 1) := by decide +kernel
theorem dX9_noteReading_20 : decode cX9_noteReading 20 = .ok (.getfield 10, 3) := by decide +kernel
theorem dX9_noteReading_23 : decode cX9_noteReading 23 = .ok (.iconst 0, 1) := by decide +kernel
theorem dX9_noteReading_24 : decode cX9_noteReading 24 = .ok (.putfield 84, 3) := by decide +kernel
theorem dX9_noteReading_27 : decode cX9_noteReading 27 = .ok (.return_, 1) := by decide +kernel
abbrev mX2_clear : Ym := (yX2_clear, cX2_clear, 1, none)
theorem dX2_clear_0 : decode cX2_clear 0 = .ok (.aload_n 0, 1) := by decide +kernel
theorem dX2_clear_1 : decode cX2_clear 1 = .ok (.iconst 0, 1) := by decide +kernel
theorem dX2_clear_2 : decode cX2_clear 2 = .ok (.putfield 9, 3) := by decide +kernel
theorem dX2_clear_5 : decode cX2_clear 5 = .ok (.aload_n 0, 1) := by decide +kernel
theorem dX2_clear_6 : decode cX2_clear 6 = .ok (.iconst 0, 1) := by decide +kernel
theorem dX2_clear_7 : decode cX2_clear 7 = .ok (.putfield 34, 3) := by decide +kernel
theorem dX2_clear_10 : decode cX2_clear 10 = .ok (.return_, 1) := by decide +kernel
abbrev mX5_forget : Ym := (yX5_forget, cX5_forget, 1, none)
theorem dX5_forget_0 : decode cX5_forget 0 = .ok (.aload_n 0, 1) := by decide +kernel
theorem dX5_forget_1 : decode cX5_forget 1 = .ok (.iconst 0, 1) := by decide +kernel
theorem dX5_forget_2 : decode cX5_forget 2 = .ok (.putfield 26, 3) := by decide +kernel
theorem dX5_forget_5 : decode cX5_forget 5 = .ok (.return_, 1) := by decide +kernel
theorem wi_558 : Cond.code yX4_readsText cX4_readsText 2 (some .boolean) ∈ WA := zin 558 (by decide +kernel) (by decide +kernel)
theorem mu_X9_95 : zMu RX9 95 RX1 mX4_readsText 0 := ⟨by decide +kernel, wi_558, by decide, by decide +kernel⟩
theorem mu_X9_124 : zMu RX9 124 RX3 mX4_readsText 0 := ⟨by decide +kernel, wi_558, by decide, by decide +kernel⟩
theorem dX9_coast_15 : decode cX9_coast 15 = .ok (.invokevirtual 95, 3) := by decide +kernel
theorem dX9_law_11 : decode cX9_law 11 = .ok (.invokevirtual 124, 3) := by decide +kernel
abbrev mX9_coast : Ym := (yX9_coast, cX9_coast, 2, some .int)
theorem dX9_coast_0 : decode cX9_coast 0 = .ok (.aload_n 0, 1) := by decide +kernel
theorem dX9_coast_1 : decode cX9_coast 1 = .ok (.getfield 23, 3) := by decide +kernel
theorem dX9_coast_4 : decode cX9_coast 4 = .ok (.aload_n 0, 1) := by decide +kernel
theorem dX9_coast_5 : decode cX9_coast 5 = .ok (.getfield 19, 3) := by decide +kernel
theorem dX9_coast_8 : decode cX9_coast 8 = .ok (.invokevirtual 91, 3) := by decide +kernel
theorem dX9_coast_11 : decode cX9_coast 11 = .ok (.aload_n 0, 1) := by decide +kernel
theorem dX9_coast_12 : decode cX9_coast 12 = .ok (.getfield 51, 3) := by decide +kernel
theorem fd_X9_51_8 : zFd RX9 51 8 7 := ⟨RX9, TX9, 13, "BorrowedLuck", rfl, by decide, uw_X9, Or.inl rfl, Or.inl wi_368⟩
theorem dX9_coast_18 : decode cX9_coast 18 = .ok (.istore_n 1, 1) := by decide +kernel
theorem dX9_coast_19 : decode cX9_coast 19 = .ok (.aload_n 0, 1) := by decide +kernel
theorem dX9_coast_20 : decode cX9_coast 20 = .ok (.iload_n 1, 1) := by decide +kernel
theorem dX9_coast_21 : decode cX9_coast 21 = .ok (.invokevirtual 99, 3) := by decide +kernel
theorem wi_669 : Cond.methodLink RX9 99 yX9_noteReading ∈ WA := zin 669 (by decide +kernel) (by decide +kernel)
theorem wi_672 : Cond.code yX9_noteReading cX9_noteReading 2 (none) ∈ WA := zin 672 (by decide +kernel) (by decide +kernel)
theorem wi_671 : Cond.instanceMethod yX9_noteReading ∈ WA := zin 671 (by decide +kernel) (by decide +kernel)
theorem wi_8 : Cond.selects RX9 yX9_noteReading yX9_noteReading ∈ WA := zin 8 (by decide +kernel) (by decide +kernel)
theorem mv_X9_99 : zMv RX9 99 RX9 mX9_noteReading 1 := ⟨⟨wi_669, wi_100, wi_672, by decide, by decide +kernel⟩, wi_671, wi_8⟩
theorem dX9_coast_24 : decode cX9_coast 24 = .ok (.iload_n 1, 1) := by decide +kernel
theorem dX9_coast_25 : decode cX9_coast 25 = .ok (.ifCond .ne 13, 3) := by decide +kernel
theorem dX9_coast_38 : decode cX9_coast 38 = .ok (.aload_n 0, 1) := by decide +kernel
theorem dX9_coast_39 : decode cX9_coast 39 = .ok (.getfield 19, 3) := by decide +kernel
theorem dX9_coast_42 : decode cX9_coast 42 = .ok (.getfield 110, 3) := by decide +kernel
theorem dX9_coast_45 : decode cX9_coast 45 = .ok (.bipush 12, 2) := by decide +kernel
theorem dX9_coast_47 : decode cX9_coast 47 = .ok (.if_icmp .lt 13, 3) := by decide +kernel
theorem dX9_coast_60 : decode cX9_coast 60 = .ok (.aload_n 0, 1) := by decide +kernel
theorem dX9_coast_61 : decode cX9_coast 61 = .ok (.getfield 23, 3) := by decide +kernel
theorem dX9_coast_64 : decode cX9_coast 64 = .ok (.dup, 1) := by decide +kernel
theorem dX9_coast_65 : decode cX9_coast 65 = .ok (.getfield 110, 3) := by decide +kernel
theorem dX9_coast_68 : decode cX9_coast 68 = .ok (.iconst 1, 1) := by decide +kernel
theorem dX9_coast_69 : decode cX9_coast 69 = .ok (.iadd, 1) := by decide +kernel
theorem dX9_coast_70 : decode cX9_coast 70 = .ok (.putfield 110, 3) := by decide +kernel
theorem fp_X9_110_0 : zFp RX9 110 0 2 .int := ⟨RX0, TX0, 12, "BorrowedLuck$Coast", tyX0, rfl, by decide, uw_X0, Or.inl rfl, Or.inr ⟨"BorrowedLuck", by decide +kernel⟩, tyX0_ok, nmX0, rfl, by decide +kernel⟩
theorem dX9_coast_73 : decode cX9_coast 73 = .ok (.aload_n 0, 1) := by decide +kernel
theorem dX9_coast_74 : decode cX9_coast 74 = .ok (.getfield 19, 3) := by decide +kernel
theorem dX9_coast_77 : decode cX9_coast 77 = .ok (.aload_n 0, 1) := by decide +kernel
theorem dX9_coast_78 : decode cX9_coast 78 = .ok (.getfield 23, 3) := by decide +kernel
theorem dX9_coast_81 : decode cX9_coast 81 = .ok (.invokevirtual 91, 3) := by decide +kernel
theorem dX9_coast_84 : decode cX9_coast 84 = .ok (.aload_n 0, 1) := by decide +kernel
theorem dX9_coast_85 : decode cX9_coast 85 = .ok (.getfield 76, 3) := by decide +kernel
theorem dX9_coast_88 : decode cX9_coast 88 = .ok (.invokevirtual 118, 3) := by decide +kernel
theorem wi_523 : Cond.methodLink RX9 118 yX5_forget ∈ WA := zin 523 (by decide +kernel) (by decide +kernel)
theorem wi_526 : Cond.code yX5_forget cX5_forget 1 (none) ∈ WA := zin 526 (by decide +kernel) (by decide +kernel)
theorem wi_524 : Cond.instanceMethod yX5_forget ∈ WA := zin 524 (by decide +kernel) (by decide +kernel)
theorem wi_525 : Cond.selects RX5 yX5_forget yX5_forget ∈ WA := zin 525 (by decide +kernel) (by decide +kernel)
theorem mv_X9_118 : zMv RX9 118 RX5 mX5_forget 0 := ⟨⟨wi_523, wi_109, wi_526, by decide, by decide +kernel⟩, wi_524, wi_525⟩
theorem dX9_coast_91 : decode cX9_coast 91 = .ok (.aload_n 0, 1) := by decide +kernel
theorem dX9_coast_92 : decode cX9_coast 92 = .ok (.getfield 19, 3) := by decide +kernel
theorem dX9_coast_95 : decode cX9_coast 95 = .ok (.getfield 110, 3) := by decide +kernel
theorem dX9_coast_98 : decode cX9_coast 98 = .ok (.ireturn, 1) := by decide +kernel
abbrev mX9_law : Ym := (yX9_law, cX9_law, 2, some .int)
theorem dX9_law_0 : decode cX9_law 0 = .ok (.aload_n 0, 1) := by decide +kernel
theorem dX9_law_1 : decode cX9_law 1 = .ok (.getfield 39, 3) := by decide +kernel
theorem dX9_law_4 : decode cX9_law 4 = .ok (.invokevirtual 121, 3) := by decide +kernel
theorem wi_766 : Cond.methodLink RX9 121 yX2_clear ∈ WA := zin 766 (by decide +kernel) (by decide +kernel)
theorem wi_769 : Cond.code yX2_clear cX2_clear 1 (none) ∈ WA := zin 769 (by decide +kernel) (by decide +kernel)
theorem wi_767 : Cond.instanceMethod yX2_clear ∈ WA := zin 767 (by decide +kernel) (by decide +kernel)
theorem wi_768 : Cond.selects RX2 yX2_clear yX2_clear ∈ WA := zin 768 (by decide +kernel) (by decide +kernel)
theorem mv_X9_121 : zMv RX9 121 RX2 mX2_clear 0 := ⟨⟨wi_766, wi_104, wi_769, by decide, by decide +kernel⟩, wi_767, wi_768⟩
theorem dX9_law_7 : decode cX9_law 7 = .ok (.aload_n 0, 1) := by decide +kernel
theorem dX9_law_8 : decode cX9_law 8 = .ok (.getfield 60, 3) := by decide +kernel
theorem fd_X9_60_8 : zFd RX9 60 8 8 := ⟨RX9, TX9, 13, "BorrowedLuck", rfl, by decide, uw_X9, Or.inl rfl, Or.inl wi_369⟩
theorem dX9_law_14 : decode cX9_law 14 = .ok (.istore_n 1, 1) := by decide +kernel
theorem dX9_law_15 : decode cX9_law 15 = .ok (.aload_n 0, 1) := by decide +kernel
theorem dX9_law_16 : decode cX9_law 16 = .ok (.iload_n 1, 1) := by decide +kernel
theorem dX9_law_17 : decode cX9_law 17 = .ok (.invokevirtual 99, 3) := by decide +kernel
theorem dX9_law_20 : decode cX9_law 20 = .ok (.iload_n 1, 1) := by decide +kernel
theorem dX9_law_21 : decode cX9_law 21 = .ok (.ifCond .ne 13, 3) := by decide +kernel
theorem dX9_law_34 : decode cX9_law 34 = .ok (.aload_n 0, 1) := by decide +kernel
theorem dX9_law_35 : decode cX9_law 35 = .ok (.getfield 32, 3) := by decide +kernel
theorem dX9_law_38 : decode cX9_law 38 = .ok (.getfield 125, 3) := by decide +kernel
theorem dX9_law_41 : decode cX9_law 41 = .ok (.aload_n 0, 1) := by decide +kernel
theorem dX9_law_42 : decode cX9_law 42 = .ok (.getfield 39, 3) := by decide +kernel
theorem dX9_law_45 : decode cX9_law 45 = .ok (.invokevirtual 128, 3) := by decide +kernel
theorem dX9_law_48 : decode cX9_law 48 = .ok (.aload_n 0, 1) := by decide +kernel
theorem dX9_law_49 : decode cX9_law 49 = .ok (.getfield 76, 3) := by decide +kernel
theorem dX9_law_52 : decode cX9_law 52 = .ok (.invokevirtual 118, 3) := by decide +kernel
theorem dX9_law_55 : decode cX9_law 55 = .ok (.aload_n 0, 1) := by decide +kernel
theorem dX9_law_56 : decode cX9_law 56 = .ok (.getfield 32, 3) := by decide +kernel
theorem dX9_law_59 : decode cX9_law 59 = .ok (.getfield 125, 3) := by decide +kernel
theorem dX9_law_62 : decode cX9_law 62 = .ok (.getfield 131, 3) := by decide +kernel
theorem dX9_law_65 : decode cX9_law 65 = .ok (.ireturn, 1) := by decide +kernel
section ClsE
variable (G : Gx) (d : Nat) (I : Hi)
def stJ (I : Hi) : Hi := zup (zup (zup (zup (zup I 1 2 (nI 0)) 1 6 (-1)) 1 4 (nI 0)) 1 5 (-1)) 1 3 (nI 1)
theorem ct_step (h1 : I 1 1 = nI 0) (h3 : I 1 3 = nI 0) : Ct G GAM mX8_step d 0 [.ref 1] I (Rp none (stJ I)) := by
  refine Ct.mk [some (.ref 1), none, none] ?_
  refine Rn.aload_n dX8_step_0 rfl rfl ?_
  refine Rn.getI dX8_step_1 fd_X8_15_7 (by first | rfl | exact gC0 (by assumption) | exact gL0 (by assumption)) rfl ?_
  refine Rn.topI (nI 0) h1 ?_
  refine Rn.sipush (v := (nI 400)) dX8_step_4 rfl ?_
  refine Rn.mmin dX8_step_7 ms_X8_28 (Nat.le_of_ble_eq_true rfl) ?_
  refine Rn.topI (nI 0) (by decide) ?_
  refine Rn.istore_n dX8_step_10 rfl (by decide) ?_
  refine Rn.aload_n dX8_step_11 rfl rfl ?_
  refine Rn.getI dX8_step_12 fd_X8_19_7 (by first | rfl | exact gC0 (by assumption) | exact gL0 (by assumption)) rfl ?_
  refine Rn.topI (nI 0) h3 ?_
  refine Rn.iconst (v := (nI 0)) dX8_step_15 rfl ?_
  refine Rn.mmax dX8_step_16 ms_X8_34 (Nat.le_of_ble_eq_true rfl) ?_
  refine Rn.topI (nI 0) (by decide) ?_
  refine Rn.istore_n dX8_step_19 rfl (by decide) ?_
  refine Rn.iload_n dX8_step_20 rfl rfl ?_
  refine Rn.iload_n dX8_step_21 rfl rfl ?_
  refine Rn.icmp_ge (tgt := 42) dX8_step_22 (by decide) (fun _ => ?_) (fun h9 => absurd h9 (by decide))
  refine Rn.aload_n dX8_step_42 rfl rfl ?_
  refine Rn.iload_n dX8_step_43 rfl rfl ?_
  refine Rn.putI dX8_step_44 fp_X8_25_7 (by first | rfl | exact gC0 (by assumption) | exact gL0 (by assumption)) rfl ?_
  refine Rn.aload_n dX8_step_47 rfl rfl ?_
  refine Rn.iload_n dX8_step_48 rfl rfl ?_
  refine Rn.iload_n dX8_step_49 rfl rfl ?_
  refine Rn.icmp_ge (tgt := 62) dX8_step_50 (by decide) (fun _ => ?_) (fun h9 => absurd h9 (by decide))
  refine Rn.iconst (v := (-1)) dX8_step_62 rfl ?_
  refine Rn.putI dX8_step_63 fp_X8_37_7 (by first | rfl | exact gC0 (by assumption) | exact gL0 (by assumption)) rfl ?_
  refine Rn.aload_n dX8_step_66 rfl rfl ?_
  refine Rn.iconst (v := (nI 0)) dX8_step_67 rfl ?_
  refine Rn.putI dX8_step_68 fp_X8_40_7 (by first | rfl | exact gC0 (by assumption) | exact gL0 (by assumption)) rfl ?_
  refine Rn.iload_n dX8_step_71 rfl rfl ?_
  refine Rn.iload_n dX8_step_72 rfl rfl ?_
  refine Rn.icmp_ge (tgt := 138) dX8_step_73 (by decide) (fun _ => ?_) (fun h9 => absurd h9 (by decide))
  refine Rn.aload_n dX8_step_138 rfl rfl ?_
  refine Rn.iconst (v := (-1)) dX8_step_139 rfl ?_
  refine Rn.putI dX8_step_140 fp_X8_43_7 (by first | rfl | exact gC0 (by assumption) | exact gL0 (by assumption)) rfl ?_
  refine Rn.aload_n dX8_step_143 rfl rfl ?_
  refine Rn.getI dX8_step_144 fd_X8_40_7 (by first | rfl | exact gC0 (by assumption) | exact gL0 (by assumption)) rfl ?_
  refine Rn.topI (nI 0) rfl ?_
  refine Rn.if_ne (tgt := 222) dX8_step_147 (by decide) (fun h9 => absurd h9 (by decide)) (fun _ => ?_)
  refine Rn.iload_n dX8_step_150 rfl rfl ?_
  refine Rn.iload_n dX8_step_151 rfl rfl ?_
  refine Rn.icmp_ge (tgt := 222) dX8_step_152 (by decide) (fun _ => ?_) (fun h9 => absurd h9 (by decide))
  refine Rn.aload_n dX8_step_222 rfl rfl ?_
  refine Rn.iload_n dX8_step_223 rfl rfl ?_
  refine Rn.aload_n dX8_step_224 rfl rfl ?_
  refine Rn.getI dX8_step_225 fd_X8_25_7 (by first | rfl | exact gC0 (by assumption) | exact gL0 (by assumption)) rfl ?_
  refine Rn.topI (nI 0) rfl ?_
  refine Rn.icmp_le (tgt := 235) dX8_step_228 (by decide) (fun _ => ?_) (fun h9 => absurd h9 (by decide))
  refine Rn.aload_n dX8_step_235 rfl rfl ?_
  refine Rn.getI dX8_step_236 fd_X8_25_7 (by first | rfl | exact gC0 (by assumption) | exact gL0 (by assumption)) rfl ?_
  refine Rn.topI (nI 0) rfl ?_
  refine Rn.iconst (v := (nI 1)) dX8_step_239 rfl ?_
  refine Rn.iadd dX8_step_240 ?_
  refine Rn.topI (nI 1) (by decide) ?_
  refine Rn.putI dX8_step_241 fp_X8_19_7 (by first | rfl | exact gC0 (by assumption) | exact gL0 (by assumption)) rfl ?_
  exact Rn.vret dX8_step_244 rfl (⟨rfl, rfl⟩)
theorem ct_begin (h1 : I 1 1 = nI 0) : Ct G GAM mX8_begin (d + 1) 0 [.ref 1] I (Rp none (stJ (zup I 1 3 (nI 0)))) := by
  refine Ct.mk [some (.ref 1)] ?_
  refine Rn.aload_n dX8_begin_0 rfl rfl ?_
  refine Rn.iconst (v := (nI 0)) dX8_begin_1 rfl ?_
  refine Rn.putI dX8_begin_2 fp_X8_19_7 (by first | rfl | exact gC0 (by assumption) | exact gL0 (by assumption)) rfl ?_
  refine Rn.aload_n dX8_begin_5 rfl rfl ?_
  refine Rn.callVp (As := []) dX8_begin_6 mv_X8_22 (by first | rfl | exact gC0 (by assumption) | exact gL0 (by assumption)) rfl rfl rfl (Nat.le_of_ble_eq_true rfl) (ct_step G _ _ (by exact h1) rfl) ?_
  exact Rn.vret dX8_begin_9 rfl (⟨rfl, rfl⟩)
theorem ct_isAtEnd (h1 : I 1 1 = nI 0) (h2 : I 1 2 = nI 0) : Ct G GAM mX8_isAtEnd d 0 [.ref 1] I (Rp (some (.int (nI 1))) I) := by
  refine Ct.mk [some (.ref 1)] ?_
  refine Rn.aload_n dX8_isAtEnd_0 rfl rfl ?_
  refine Rn.getI dX8_isAtEnd_1 fd_X8_25_7 (by first | rfl | exact gC0 (by assumption) | exact gL0 (by assumption)) rfl ?_
  refine Rn.topI (nI 0) h2 ?_
  refine Rn.aload_n dX8_isAtEnd_4 rfl rfl ?_
  refine Rn.getI dX8_isAtEnd_5 fd_X8_15_7 (by first | rfl | exact gC0 (by assumption) | exact gL0 (by assumption)) rfl ?_
  refine Rn.topI (nI 0) h1 ?_
  refine Rn.icmp_lt (tgt := 15) dX8_isAtEnd_8 (by decide) (fun h9 => absurd h9 (by decide)) (fun _ => ?_)
  refine Rn.iconst (v := (nI 1)) dX8_isAtEnd_11 rfl ?_
  refine Rn.goto 16 dX8_isAtEnd_12 (by decide) ?_
  exact Rn.zret dX8_isAtEnd_16 rfl rfl (⟨rfl, rfl⟩)
theorem ct_readsText_37 (h1 : I 1 1 = nI 0) : Ct G GAM mX4_readsText (d + 2) 0 [.ref 37] I (Rp (some (.int (nI 1))) (stJ (zup I 1 3 (nI 0)))) := by
  refine Ct.mk [some (.ref 37), none] ?_
  refine Rn.aload_n dX4_readsText_0 rfl rfl ?_
  refine Rn.getR dX4_readsText_1 fd_X4_7_1 (by first | rfl | exact gC0 (by assumption) | exact gL0 (by assumption)) rfl ?_
  refine Rn.callVp (As := []) dX4_readsText_4 mv_X4_17 (by first | rfl | exact gC0 (by assumption) | exact gL0 (by assumption)) rfl rfl rfl (Nat.le_of_ble_eq_true rfl) (ct_begin G _ _ (by exact h1)) ?_
  refine Rn.aload_n dX4_readsText_7 rfl rfl ?_
  refine Rn.getR dX4_readsText_8 fd_X4_7_1 (by first | rfl | exact gC0 (by assumption) | exact gL0 (by assumption)) rfl ?_
  refine Rn.callVp (As := []) dX4_readsText_11 mv_X4_22 (by first | rfl | exact gC0 (by assumption) | exact gL0 (by assumption)) rfl rfl rfl (Nat.le_of_ble_eq_true rfl) (ct_isAtEnd G _ _ (by exact h1) rfl) ?_
  refine Rn.if_eq (tgt := 19) dX4_readsText_14 (by decide) (fun h9 => absurd h9 (by decide)) (fun _ => ?_)
  refine Rn.iconst (v := (nI 1)) dX4_readsText_17 rfl ?_
  exact Rn.zret dX4_readsText_18 rfl rfl (⟨rfl, rfl⟩)
theorem ct_readsText_38 (h1 : I 1 1 = nI 0) : Ct G GAM mX4_readsText (d + 2) 0 [.ref 38] I (Rp (some (.int (nI 1))) (stJ (zup I 1 3 (nI 0)))) := by
  refine Ct.mk [some (.ref 38), none] ?_
  refine Rn.aload_n dX4_readsText_0 rfl rfl ?_
  refine Rn.getR dX4_readsText_1 fd_X4_7_3 (by first | rfl | exact gC0 (by assumption) | exact gL0 (by assumption)) rfl ?_
  refine Rn.callVp (As := []) dX4_readsText_4 mv_X4_17 (by first | rfl | exact gC0 (by assumption) | exact gL0 (by assumption)) rfl rfl rfl (Nat.le_of_ble_eq_true rfl) (ct_begin G _ _ (by exact h1)) ?_
  refine Rn.aload_n dX4_readsText_7 rfl rfl ?_
  refine Rn.getR dX4_readsText_8 fd_X4_7_3 (by first | rfl | exact gC0 (by assumption) | exact gL0 (by assumption)) rfl ?_
  refine Rn.callVp (As := []) dX4_readsText_11 mv_X4_22 (by first | rfl | exact gC0 (by assumption) | exact gL0 (by assumption)) rfl rfl rfl (Nat.le_of_ble_eq_true rfl) (ct_isAtEnd G _ _ (by exact h1) rfl) ?_
  refine Rn.if_eq (tgt := 19) dX4_readsText_14 (by decide) (fun h9 => absurd h9 (by decide)) (fun _ => ?_)
  refine Rn.iconst (v := (nI 1)) dX4_readsText_17 rfl ?_
  exact Rn.zret dX4_readsText_18 rfl rfl (⟨rfl, rfl⟩)
theorem ct_note : Ct G GAM mX9_noteReading d 0 [.ref 0, .int (nI 1)] I (Rp none (zup (zup I 0 12 (-1)) 1 1 (nI 0))) := by
  refine Ct.mk [some (.ref 0), some (.int (nI 1))] ?_
  refine Rn.aload_n dX9_noteReading_0 rfl rfl ?_
  refine Rn.iload_n dX9_noteReading_1 rfl rfl ?_
  refine Rn.if_eq (tgt := 9) dX9_noteReading_2 (by decide) (fun h9 => absurd h9 (by decide)) (fun _ => ?_)
  refine Rn.iconst (v := (-1)) dX9_noteReading_5 rfl ?_
  refine Rn.goto 16 dX9_noteReading_6 (by decide) ?_
  refine Rn.putI dX9_noteReading_16 fp_X9_80_8 (by first | rfl | exact gC0 (by assumption) | exact gL0 (by assumption)) rfl ?_
  refine Rn.aload_n dX9_noteReading_19 rfl rfl ?_
  refine Rn.getR dX9_noteReading_20 fd_X9_10_8 (by first | rfl | exact gC0 (by assumption) | exact gL0 (by assumption)) rfl ?_
  refine Rn.iconst (v := (nI 0)) dX9_noteReading_23 rfl ?_
  refine Rn.putI dX9_noteReading_24 fp_X9_84_7 (by first | rfl | exact gC0 (by assumption) | exact gL0 (by assumption)) rfl ?_
  exact Rn.vret dX9_noteReading_27 rfl (⟨rfl, rfl⟩)
theorem ct_clear : Ct G GAM mX2_clear d 0 [.ref 23] I (Rp none (zup (zup I 23 0 (nI 0)) 23 1 (nI 0))) := by
  refine Ct.mk [some (.ref 23)] ?_
  refine Rn.aload_n dX2_clear_0 rfl rfl ?_
  refine Rn.iconst (v := (nI 0)) dX2_clear_1 rfl ?_
  refine Rn.putI dX2_clear_2 fp_X2_9_2 (by first | rfl | exact gC0 (by assumption) | exact gL0 (by assumption)) rfl ?_
  refine Rn.aload_n dX2_clear_5 rfl rfl ?_
  refine Rn.iconst (v := (nI 0)) dX2_clear_6 rfl ?_
  refine Rn.putI dX2_clear_7 fp_X2_34_2 (by first | rfl | exact gC0 (by assumption) | exact gL0 (by assumption)) rfl ?_
  exact Rn.vret dX2_clear_10 rfl (⟨rfl, rfl⟩)
theorem ct_forget : Ct G GAM mX5_forget d 0 [.ref 44] I (Rp none (zup I 44 1 (nI 0))) := by
  refine Ct.mk [some (.ref 44)] ?_
  refine Rn.aload_n dX5_forget_0 rfl rfl ?_
  refine Rn.iconst (v := (nI 0)) dX5_forget_1 rfl ?_
  refine Rn.putI dX5_forget_2 fp_X5_26_4 (by first | rfl | exact gC0 (by assumption) | exact gL0 (by assumption)) rfl ?_
  exact Rn.vret dX5_forget_5 rfl (⟨rfl, rfl⟩)
theorem ct_X9_coast (F : FC I) : Ct G GAM mX9_coast (d + 3) 1 [.ref 0] I (fun o K => o = .inl (some (.int (nI 1))) ∧ ∀ c, 94 ≤ c → K c = I c) := by
  obtain ⟨h3_0, h3_1, h3_2, h3_3, h3_4, h3_5, h3_6, h3_7, h3_8, h0_11, h0_12, h1_1, h16_0, h44_1, h44_2⟩ := F
  refine Ct.mk [some (.ref 0), none] ?_
  refine Rn.aload_n dX9_coast_0 rfl rfl ?_
  refine Rn.getR dX9_coast_1 fd_X9_23_8 (by first | rfl | exact gC0 (by assumption) | exact gL0 (by assumption)) rfl ?_
  refine Rn.aload_n dX9_coast_4 rfl rfl ?_
  refine Rn.getR dX9_coast_5 fd_X9_19_8 (by first | rfl | exact gC0 (by assumption) | exact gL0 (by assumption)) rfl ?_
  refine Rn.callVp (As := [_]) dX9_coast_8 mv_X9_91 (by first | rfl | exact gC0 (by assumption) | exact gL0 (by assumption)) rfl rfl rfl (Nat.le_of_ble_eq_true rfl) (ct_copy_3_7 G _ _) ?_
  refine Rn.aload_n dX9_coast_11 rfl rfl ?_
  refine Rn.getR dX9_coast_12 fd_X9_51_8 (by first | rfl | exact gC0 (by assumption) | exact gL0 (by assumption)) rfl ?_
  refine Rn.callU (As := []) dX9_coast_15 mu_X9_95 rfl rfl rfl rfl (Nat.le_of_ble_eq_true rfl) (ct_readsText_37 G _ _ (by exact h1_1)) ?_
  refine Rn.istore_n dX9_coast_18 rfl (by decide) ?_
  refine Rn.aload_n dX9_coast_19 rfl rfl ?_
  refine Rn.iload_n dX9_coast_20 rfl rfl ?_
  refine Rn.callVp (As := [_]) dX9_coast_21 mv_X9_99 (by first | rfl | exact gC0 (by assumption) | exact gL0 (by assumption)) rfl rfl rfl (Nat.le_of_ble_eq_true rfl) (ct_note G _ _) ?_
  refine Rn.iload_n dX9_coast_24 rfl rfl ?_
  refine Rn.if_ne (tgt := 38) dX9_coast_25 (by decide) (fun _ => ?_) (fun h9 => absurd h9 (by decide))
  refine Rn.aload_n dX9_coast_38 rfl rfl ?_
  refine Rn.getR dX9_coast_39 fd_X9_19_8 (by first | rfl | exact gC0 (by assumption) | exact gL0 (by assumption)) rfl ?_
  refine Rn.getI dX9_coast_42 fd_X9_110_0 (by first | rfl | exact gC0 (by assumption) | exact gL0 (by assumption)) rfl ?_
  refine Rn.topI (nI 0) h3_2 ?_
  refine Rn.bipush (v := (nI 12)) dX9_coast_45 rfl ?_
  refine Rn.icmp_lt (tgt := 60) dX9_coast_47 (by decide) (fun _ => ?_) (fun h9 => absurd h9 (by decide))
  refine Rn.aload_n dX9_coast_60 rfl rfl ?_
  refine Rn.getR dX9_coast_61 fd_X9_23_8 (by first | rfl | exact gC0 (by assumption) | exact gL0 (by assumption)) rfl ?_
  refine Rn.dup dX9_coast_64 rfl ?_
  refine Rn.getI dX9_coast_65 fd_X9_110_0 (by first | rfl | exact gC0 (by assumption) | exact gL0 (by assumption)) rfl ?_
  refine Rn.topI (nI 0) h3_2 ?_
  refine Rn.iconst (v := (nI 1)) dX9_coast_68 rfl ?_
  refine Rn.iadd dX9_coast_69 ?_
  refine Rn.topI (nI 1) (by decide) ?_
  refine Rn.putI dX9_coast_70 fp_X9_110_0 (by first | rfl | exact gC0 (by assumption) | exact gL0 (by assumption)) rfl ?_
  refine Rn.aload_n dX9_coast_73 rfl rfl ?_
  refine Rn.getR dX9_coast_74 fd_X9_19_8 (by first | rfl | exact gC0 (by assumption) | exact gL0 (by assumption)) rfl ?_
  refine Rn.aload_n dX9_coast_77 rfl rfl ?_
  refine Rn.getR dX9_coast_78 fd_X9_23_8 (by first | rfl | exact gC0 (by assumption) | exact gL0 (by assumption)) rfl ?_
  refine Rn.callVp (As := [_]) dX9_coast_81 mv_X9_91 (by first | rfl | exact gC0 (by assumption) | exact gL0 (by assumption)) rfl rfl rfl (Nat.le_of_ble_eq_true rfl) (ct_copy_7_3 G _ _) ?_
  refine Rn.aload_n dX9_coast_84 rfl rfl ?_
  refine Rn.getR dX9_coast_85 fd_X9_76_8 (by first | rfl | exact gC0 (by assumption) | exact gL0 (by assumption)) rfl ?_
  refine Rn.callVp (As := []) dX9_coast_88 mv_X9_118 (by first | rfl | exact gC0 (by assumption) | exact gL0 (by assumption)) rfl rfl rfl (Nat.le_of_ble_eq_true rfl) (ct_forget G _ _) ?_
  refine Rn.aload_n dX9_coast_91 rfl rfl ?_
  refine Rn.getR dX9_coast_92 fd_X9_19_8 (by first | rfl | exact gC0 (by assumption) | exact gL0 (by assumption)) rfl ?_
  refine Rn.getI dX9_coast_95 fd_X9_110_0 (by first | rfl | exact gC0 (by assumption) | exact gL0 (by assumption)) rfl ?_
  refine Rn.topI (nI 1) rfl ?_
  exact Rn.iret dX9_coast_98 rfl (⟨rfl, fun c hc => by rw [zup_ne _ _ (by omega), cpC_ne _ (by omega), zup_ne _ _ (by omega), zup_ne _ _ (by omega), zup_ne _ _ (by omega)]; unfold stJ; rw [zup_ne _ _ (by omega), zup_ne _ _ (by omega), zup_ne _ _ (by omega), zup_ne _ _ (by omega), zup_ne _ _ (by omega), zup_ne _ _ (by omega), cpC_ne _ (by omega)]⟩)
theorem ct_X9_law (F : FC I) : Ct G GAM mX9_law (d + 3) 1 [.ref 0] I (fun o K => o = .inl (some (.int (nI 0))) ∧ ∀ c, 94 ≤ c → K c = I c) := by
  obtain ⟨h3_0, h3_1, h3_2, h3_3, h3_4, h3_5, h3_6, h3_7, h3_8, h0_11, h0_12, h1_1, h16_0, h44_1, h44_2⟩ := F
  refine Ct.mk [some (.ref 0), none] ?_
  refine Rn.aload_n dX9_law_0 rfl rfl ?_
  refine Rn.getR dX9_law_1 fd_X9_39_8 (by first | rfl | exact gC0 (by assumption) | exact gL0 (by assumption)) rfl ?_
  refine Rn.callVp (As := []) dX9_law_4 mv_X9_121 (by first | rfl | exact gC0 (by assumption) | exact gL0 (by assumption)) rfl rfl rfl (Nat.le_of_ble_eq_true rfl) (ct_clear G _ _) ?_
  refine Rn.aload_n dX9_law_7 rfl rfl ?_
  refine Rn.getR dX9_law_8 fd_X9_60_8 (by first | rfl | exact gC0 (by assumption) | exact gL0 (by assumption)) rfl ?_
  refine Rn.callU (As := []) dX9_law_11 mu_X9_124 rfl rfl rfl rfl (Nat.le_of_ble_eq_true rfl) (ct_readsText_38 G _ _ (by exact h1_1)) ?_
  refine Rn.istore_n dX9_law_14 rfl (by decide) ?_
  refine Rn.aload_n dX9_law_15 rfl rfl ?_
  refine Rn.iload_n dX9_law_16 rfl rfl ?_
  refine Rn.callVp (As := [_]) dX9_law_17 mv_X9_99 (by first | rfl | exact gC0 (by assumption) | exact gL0 (by assumption)) rfl rfl rfl (Nat.le_of_ble_eq_true rfl) (ct_note G _ _) ?_
  refine Rn.iload_n dX9_law_20 rfl rfl ?_
  refine Rn.if_ne (tgt := 34) dX9_law_21 (by decide) (fun _ => ?_) (fun h9 => absurd h9 (by decide))
  refine Rn.aload_n dX9_law_34 rfl rfl ?_
  refine Rn.getR dX9_law_35 fd_X9_32_8 (by first | rfl | exact gC0 (by assumption) | exact gL0 (by assumption)) rfl ?_
  refine Rn.getR dX9_law_38 fd_X9_125_5 (by first | rfl | exact gC0 (by assumption) | exact gL0 (by assumption)) rfl ?_
  refine Rn.aload_n dX9_law_41 rfl rfl ?_
  refine Rn.getR dX9_law_42 fd_X9_39_8 (by first | rfl | exact gC0 (by assumption) | exact gL0 (by assumption)) rfl ?_
  refine Rn.callVp (As := [_]) dX9_law_45 mv_X9_128 (by first | rfl | exact gC0 (by assumption) | exact gL0 (by assumption)) rfl rfl rfl (Nat.le_of_ble_eq_true rfl) (ct_copyL_23_16 G _ _) ?_
  refine Rn.aload_n dX9_law_48 rfl rfl ?_
  refine Rn.getR dX9_law_49 fd_X9_76_8 (by first | rfl | exact gC0 (by assumption) | exact gL0 (by assumption)) rfl ?_
  refine Rn.callVp (As := []) dX9_law_52 mv_X9_118 (by first | rfl | exact gC0 (by assumption) | exact gL0 (by assumption)) rfl rfl rfl (Nat.le_of_ble_eq_true rfl) (ct_forget G _ _) ?_
  refine Rn.aload_n dX9_law_55 rfl rfl ?_
  refine Rn.getR dX9_law_56 fd_X9_32_8 (by first | rfl | exact gC0 (by assumption) | exact gL0 (by assumption)) rfl ?_
  refine Rn.getR dX9_law_59 fd_X9_125_5 (by first | rfl | exact gC0 (by assumption) | exact gL0 (by assumption)) rfl ?_
  refine Rn.getI dX9_law_62 fd_X9_131_2 (by first | rfl | exact gC0 (by assumption) | exact gL0 (by assumption)) rfl ?_
  refine Rn.topI (nI 0) rfl ?_
  exact Rn.iret dX9_law_65 rfl (⟨rfl, fun c hc => by rw [zup_ne _ _ (by omega), cpL_ne _ (by omega), zup_ne _ _ (by omega), zup_ne _ _ (by omega)]; unfold stJ; rw [zup_ne _ _ (by omega), zup_ne _ _ (by omega), zup_ne _ _ (by omega), zup_ne _ _ (by omega), zup_ne _ _ (by omega), zup_ne _ _ (by omega), zup_ne _ _ (by omega), zup_ne _ _ (by omega)]⟩)
end ClsE
