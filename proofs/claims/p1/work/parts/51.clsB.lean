abbrev mX9_sells : Ym := (yX9_sells, cX9_sells, 2, some .int)
theorem dX9_sells_0 : decode cX9_sells 0 = .ok (.iload_n 1, 1) := by decide +kernel
theorem dX9_sells_1 : decode cX9_sells 1 = .ok (.ifCond .lt 9, 3) := by decide +kernel
theorem dX9_sells_4 : decode cX9_sells 4 = .ok (.iload_n 1, 1) := by decide +kernel
theorem dX9_sells_5 : decode cX9_sells 5 = .ok (.bipush 50, 2) := by decide +kernel
theorem dX9_sells_7 : decode cX9_sells 7 = .ok (.if_icmp .le 14, 3) := by decide +kernel
theorem dX9_sells_21 : decode cX9_sells 21 = .ok (.aload_n 0, 1) := by decide +kernel
theorem dX9_sells_22 : decode cX9_sells 22 = .ok (.getfield 19, 3) := by decide +kernel
theorem dX9_sells_25 : decode cX9_sells 25 = .ok (.iload_n 1, 1) := by decide +kernel
theorem dX9_sells_26 : decode cX9_sells 26 = .ok (.invokevirtual 303, 3) := by decide +kernel
theorem dX9_sells_29 : decode cX9_sells 29 = .ok (.ireturn, 1) := by decide +kernel
theorem ta_X9_107 : ∀ w ∈ vx_atS RX9 107 "java/lang/IllegalArgumentException" ["java/lang/RuntimeException", "java/lang/Exception"], w ∈ WA ∨ w = .castable "java/lang/IllegalArgumentException" "java/lang/IllegalArgumentException" ∨ ∃ x ∈ zDc, w = .declares x := zsubu [113, 114, 115, 116, 132, 133, 674, 682, 683, 684, 685, 686, 687, 688, 689, 690, 691, 692, 693, 694, 695, 696, 697, 698, 699, 701, 703, 704, 706, 707, 708, 709, 710, 711, 713, 715, 717, 718, 719, 720, 721, 722, 723, 724, 725, 726, 727, 728, 729, 730, 731, 732, 733, 738, 741, 746, 747, 748, 749, 750, 751, 756, 757, 758, 789, 790, 791, 792, 793, 794, 799, 800, 801, 806, 807, 808, 809, 810, 811, 816, 817, 818, 899, 900, 901, 902, 903, 904, 909, 910, 911] (by decide +kernel)
theorem wi_673 : Cond.classLink RX9 103 "java/lang/IllegalArgumentException" ∈ WA := zin 673 (by decide +kernel) (by decide +kernel)
theorem wi_116 : Cond.initialized "java/lang/IllegalArgumentException" ∈ WA := zin 116 (by decide +kernel) (by decide +kernel)
theorem th_X9_103_301_107 : zTi RX9 103 301 107 "java/lang/IllegalArgumentException" "a price is 0 to 50" ["java/lang/RuntimeException", "java/lang/Exception"] := ⟨by decide +kernel, by decide +kernel, wi_673, wi_116, zSR_mem (by decide +kernel), ta_X9_107, by decide +kernel, by decide +kernel, by decide⟩
theorem dX9_sells_10 : decode cX9_sells 10 = .ok (.new 103, 3) := by decide +kernel
theorem dX9_sells_13 : decode cX9_sells 13 = .ok (.dup, 1) := by decide +kernel
theorem dX9_sells_14 : decode cX9_sells 14 = .ok (.ldc_w 301, 3) := by decide +kernel
theorem dX9_sells_17 : decode cX9_sells 17 = .ok (.invokespecial 107, 3) := by decide +kernel
theorem dX9_sells_20 : decode cX9_sells 20 = .ok (.athrow, 1) := by decide +kernel
abbrev mX9_needSort : Ym := (yX9_needSort, cX9_needSort, 1, none)
theorem dX9_needSort_0 : decode cX9_needSort 0 = .ok (.iload_n 0, 1) := by decide +kernel
theorem dX9_needSort_1 : decode cX9_needSort 1 = .ok (.ifCond .lt 8, 3) := by decide +kernel
theorem dX9_needSort_4 : decode cX9_needSort 4 = .ok (.iload_n 0, 1) := by decide +kernel
theorem dX9_needSort_5 : decode cX9_needSort 5 = .ok (.iconst 4, 1) := by decide +kernel
theorem dX9_needSort_6 : decode cX9_needSort 6 = .ok (.if_icmp .lt 14, 3) := by decide +kernel
theorem dX9_needSort_20 : decode cX9_needSort 20 = .ok (.return_, 1) := by decide +kernel
theorem th_X9_359_366_363 : zTi RX9 359 366 363 "java/lang/IndexOutOfBoundsException" "there is no such sort" ["java/lang/RuntimeException", "java/lang/Exception"] := ⟨by decide +kernel, by decide +kernel, wi_786, wi_122, zSR_mem (by decide +kernel), ta_X9_363, by decide +kernel, by decide +kernel, by decide⟩
theorem dX9_needSort_9 : decode cX9_needSort 9 = .ok (.new 359, 3) := by decide +kernel
theorem dX9_needSort_12 : decode cX9_needSort 12 = .ok (.dup, 1) := by decide +kernel
theorem dX9_needSort_13 : decode cX9_needSort 13 = .ok (.ldc_w 366, 3) := by decide +kernel
theorem dX9_needSort_16 : decode cX9_needSort 16 = .ok (.invokespecial 363, 3) := by decide +kernel
theorem dX9_needSort_19 : decode cX9_needSort 19 = .ok (.athrow, 1) := by decide +kernel
abbrev mX9_needTrialDays : Ym := (yX9_needTrialDays, cX9_needTrialDays, 1, none)
theorem dX9_needTrialDays_0 : decode cX9_needTrialDays 0 = .ok (.iload_n 0, 1) := by decide +kernel
theorem dX9_needTrialDays_1 : decode cX9_needTrialDays 1 = .ok (.ifCond .lt 9, 3) := by decide +kernel
theorem dX9_needTrialDays_4 : decode cX9_needTrialDays 4 = .ok (.iload_n 0, 1) := by decide +kernel
theorem dX9_needTrialDays_5 : decode cX9_needTrialDays 5 = .ok (.bipush 60, 2) := by decide +kernel
theorem dX9_needTrialDays_7 : decode cX9_needTrialDays 7 = .ok (.if_icmp .le 14, 3) := by decide +kernel
theorem dX9_needTrialDays_21 : decode cX9_needTrialDays 21 = .ok (.return_, 1) := by decide +kernel
theorem th_X9_103_368_107 : zTi RX9 103 368 107 "java/lang/IllegalArgumentException" "days of a trial are 0 to 60" ["java/lang/RuntimeException", "java/lang/Exception"] := ⟨by decide +kernel, by decide +kernel, wi_673, wi_116, zSR_mem (by decide +kernel), ta_X9_107, by decide +kernel, by decide +kernel, by decide⟩
theorem dX9_needTrialDays_10 : decode cX9_needTrialDays 10 = .ok (.new 103, 3) := by decide +kernel
theorem dX9_needTrialDays_13 : decode cX9_needTrialDays 13 = .ok (.dup, 1) := by decide +kernel
theorem dX9_needTrialDays_14 : decode cX9_needTrialDays 14 = .ok (.ldc_w 368, 3) := by decide +kernel
theorem dX9_needTrialDays_17 : decode cX9_needTrialDays 17 = .ok (.invokespecial 107, 3) := by decide +kernel
theorem dX9_needTrialDays_20 : decode cX9_needTrialDays 20 = .ok (.athrow, 1) := by decide +kernel
abbrev mX9_luckiest : Ym := (yX9_luckiest, cX9_luckiest, 4, some .int)
theorem dX9_luckiest_0 : decode cX9_luckiest 0 = .ok (.iload_n 1, 1) := by decide +kernel
theorem dX9_luckiest_1 : decode cX9_luckiest 1 = .ok (.invokestatic 171, 3) := by decide +kernel
theorem wi_878 : Cond.methodLink RX9 171 yX9_needSort ∈ WA := zin 878 (by decide +kernel) (by decide +kernel)
theorem wi_880 : Cond.code yX9_needSort cX9_needSort 1 (none) ∈ WA := zin 880 (by decide +kernel) (by decide +kernel)
theorem wi_879 : Cond.static yX9_needSort ∈ WA := zin 879 (by decide +kernel) (by decide +kernel)
theorem ms_X9_171 : zMs RX9 171 mX9_needSort 1 := ⟨⟨wi_878, wi_100, wi_880, by decide, by decide +kernel⟩, wi_879⟩
theorem dX9_luckiest_4 : decode cX9_luckiest 4 = .ok (.iconst (-1), 1) := by decide +kernel
theorem dX9_luckiest_5 : decode cX9_luckiest 5 = .ok (.istore_n 2, 1) := by decide +kernel
theorem dX9_luckiest_6 : decode cX9_luckiest 6 = .ok (.iconst 0, 1) := by decide +kernel
theorem dX9_luckiest_7 : decode cX9_luckiest 7 = .ok (.istore_n 3, 1) := by decide +kernel
theorem dX9_luckiest_8 : decode cX9_luckiest 8 = .ok (.iload_n 3, 1) := by decide +kernel
theorem dX9_luckiest_9 : decode cX9_luckiest 9 = .ok (.aload_n 0, 1) := by decide +kernel
theorem dX9_luckiest_10 : decode cX9_luckiest 10 = .ok (.getfield 19, 3) := by decide +kernel
theorem dX9_luckiest_13 : decode cX9_luckiest 13 = .ok (.getfield 278, 3) := by decide +kernel
theorem dX9_luckiest_16 : decode cX9_luckiest 16 = .ok (.if_icmp .ge 37, 3) := by decide +kernel
theorem dX9_luckiest_53 : decode cX9_luckiest 53 = .ok (.iload_n 2, 1) := by decide +kernel
theorem dX9_luckiest_54 : decode cX9_luckiest 54 = .ok (.ireturn, 1) := by decide +kernel
abbrev mX9_log : Ym := (yX9_log, cX9_log, 3, some .int)
theorem dX9_log_0 : decode cX9_log 0 = .ok (.iload_n 2, 1) := by decide +kernel
theorem dX9_log_1 : decode cX9_log 1 = .ok (.ifCond .lt 8, 3) := by decide +kernel
theorem dX9_log_4 : decode cX9_log 4 = .ok (.iload_n 2, 1) := by decide +kernel
theorem dX9_log_5 : decode cX9_log 5 = .ok (.iconst 4, 1) := by decide +kernel
theorem dX9_log_6 : decode cX9_log 6 = .ok (.if_icmp .lt 14, 3) := by decide +kernel
theorem dX9_log_20 : decode cX9_log 20 = .ok (.iload_n 1, 1) := by decide +kernel
theorem dX9_log_21 : decode cX9_log 21 = .ok (.ifCond .lt 14, 3) := by decide +kernel
theorem dX9_log_35 : decode cX9_log 35 = .ok (.sipush (-1000), 3) := by decide +kernel
theorem dX9_log_38 : decode cX9_log 38 = .ok (.goto 12, 3) := by decide +kernel
theorem dX9_log_50 : decode cX9_log 50 = .ok (.ireturn, 1) := by decide +kernel
theorem dX9_log_24 : decode cX9_log 24 = .ok (.iload_n 1, 1) := by decide +kernel
theorem dX9_log_25 : decode cX9_log 25 = .ok (.aload_n 0, 1) := by decide +kernel
theorem dX9_log_26 : decode cX9_log 26 = .ok (.getfield 19, 3) := by decide +kernel
theorem dX9_log_29 : decode cX9_log 29 = .ok (.getfield 330, 3) := by decide +kernel
theorem fd_X9_330_0 : zFd RX9 330 0 7 := ⟨RX0, TX0, 12, "BorrowedLuck$Coast", rfl, by decide, uw_X0, Or.inl rfl, Or.inr ⟨"BorrowedLuck", by decide +kernel⟩⟩
theorem dX9_log_32 : decode cX9_log 32 = .ok (.if_icmp .lt 9, 3) := by decide +kernel
abbrev mX8_tellsLuck : Ym := (yX8_tellsLuck, cX8_tellsLuck, 4, some .boolean)
theorem dX8_tellsLuck_0 : decode cX8_tellsLuck 0 = .ok (.aload_n 0, 1) := by decide +kernel
theorem dX8_tellsLuck_1 : decode cX8_tellsLuck 1 = .ok (.getfield 15, 3) := by decide +kernel
theorem wi_142 : Cond.fieldLink RX8 15 "BorrowedLuck$Tape" "length" "I" ∈ WA := zin 142 (by decide +kernel) (by decide +kernel)
theorem fd_X8_15_7 : zFd RX8 15 7 1 := ⟨RX8, TX8, 7, "BorrowedLuck$Tape", rfl, by decide, uw_X8, Or.inl rfl, Or.inl wi_142⟩
theorem dX8_tellsLuck_4 : decode cX8_tellsLuck 4 = .ok (.bipush 40, 2) := by decide +kernel
theorem dX8_tellsLuck_6 : decode cX8_tellsLuck 6 = .ok (.if_icmp .gt 16, 3) := by decide +kernel
theorem dX8_tellsLuck_9 : decode cX8_tellsLuck 9 = .ok (.aload_n 0, 1) := by decide +kernel
theorem dX8_tellsLuck_10 : decode cX8_tellsLuck 10 = .ok (.getfield 15, 3) := by decide +kernel
theorem dX8_tellsLuck_13 : decode cX8_tellsLuck 13 = .ok (.iconst 2, 1) := by decide +kernel
theorem dX8_tellsLuck_14 : decode cX8_tellsLuck 14 = .ok (.irem, 1) := by decide +kernel
theorem dX8_tellsLuck_15 : decode cX8_tellsLuck 15 = .ok (.ifCond .ne 7, 3) := by decide +kernel
theorem dX8_tellsLuck_18 : decode cX8_tellsLuck 18 = .ok (.iconst 1, 1) := by decide +kernel
theorem dX8_tellsLuck_19 : decode cX8_tellsLuck 19 = .ok (.goto 4, 3) := by decide +kernel
theorem dX8_tellsLuck_23 : decode cX8_tellsLuck 23 = .ok (.istore_n 1, 1) := by decide +kernel
theorem dX8_tellsLuck_24 : decode cX8_tellsLuck 24 = .ok (.iconst 0, 1) := by decide +kernel
theorem dX8_tellsLuck_25 : decode cX8_tellsLuck 25 = .ok (.istore_n 2, 1) := by decide +kernel
theorem dX8_tellsLuck_26 : decode cX8_tellsLuck 26 = .ok (.iload_n 2, 1) := by decide +kernel
theorem dX8_tellsLuck_27 : decode cX8_tellsLuck 27 = .ok (.aload_n 0, 1) := by decide +kernel
theorem dX8_tellsLuck_28 : decode cX8_tellsLuck 28 = .ok (.getfield 15, 3) := by decide +kernel
theorem dX8_tellsLuck_31 : decode cX8_tellsLuck 31 = .ok (.if_icmp .ge 41, 3) := by decide +kernel
theorem dX8_tellsLuck_72 : decode cX8_tellsLuck 72 = .ok (.iload_n 1, 1) := by decide +kernel
theorem dX8_tellsLuck_73 : decode cX8_tellsLuck 73 = .ok (.ireturn, 1) := by decide +kernel
abbrev mX9_fitting : Ym := (yX9_fitting, cX9_fitting, 5, some .int)
theorem dX9_fitting_0 : decode cX9_fitting 0 = .ok (.iconst 0, 1) := by decide +kernel
theorem dX9_fitting_1 : decode cX9_fitting 1 = .ok (.istore_n 1, 1) := by decide +kernel
theorem dX9_fitting_2 : decode cX9_fitting 2 = .ok (.iconst 0, 1) := by decide +kernel
theorem dX9_fitting_3 : decode cX9_fitting 3 = .ok (.istore_n 2, 1) := by decide +kernel
theorem dX9_fitting_4 : decode cX9_fitting 4 = .ok (.iload_n 2, 1) := by decide +kernel
theorem dX9_fitting_5 : decode cX9_fitting 5 = .ok (.aload_n 0, 1) := by decide +kernel
theorem dX9_fitting_6 : decode cX9_fitting 6 = .ok (.getfield 19, 3) := by decide +kernel
theorem dX9_fitting_9 : decode cX9_fitting 9 = .ok (.getfield 278, 3) := by decide +kernel
theorem dX9_fitting_12 : decode cX9_fitting 12 = .ok (.if_icmp .ge 81, 3) := by decide +kernel
theorem dX9_fitting_93 : decode cX9_fitting 93 = .ok (.iload_n 1, 1) := by decide +kernel
theorem dX9_fitting_94 : decode cX9_fitting 94 = .ok (.ireturn, 1) := by decide +kernel
abbrev mX9_takeFitting : Ym := (yX9_takeFitting, cX9_takeFitting, 3, some .int)
theorem dX9_takeFitting_0 : decode cX9_takeFitting 0 = .ok (.aload_n 0, 1) := by decide +kernel
theorem dX9_takeFitting_1 : decode cX9_takeFitting 1 = .ok (.getfield 10, 3) := by decide +kernel
theorem dX9_takeFitting_4 : decode cX9_takeFitting 4 = .ok (.invokevirtual 270, 3) := by decide +kernel
theorem wi_1098 : Cond.methodLink RX9 270 yX8_tellsLuck ∈ WA := zin 1098 (by decide +kernel) (by decide +kernel)
theorem wi_1101 : Cond.code yX8_tellsLuck cX8_tellsLuck 4 (some .boolean) ∈ WA := zin 1101 (by decide +kernel) (by decide +kernel)
theorem wi_1099 : Cond.instanceMethod yX8_tellsLuck ∈ WA := zin 1099 (by decide +kernel) (by decide +kernel)
theorem wi_1100 : Cond.selects RX8 yX8_tellsLuck yX8_tellsLuck ∈ WA := zin 1100 (by decide +kernel) (by decide +kernel)
theorem mv_X9_270 : zMv RX9 270 RX8 mX8_tellsLuck 0 := ⟨⟨wi_1098, wi_101, wi_1101, by decide, by decide +kernel⟩, wi_1099, wi_1100⟩
theorem dX9_takeFitting_7 : decode cX9_takeFitting 7 = .ok (.istore_n 1, 1) := by decide +kernel
theorem dX9_takeFitting_8 : decode cX9_takeFitting 8 = .ok (.iload_n 1, 1) := by decide +kernel
theorem dX9_takeFitting_9 : decode cX9_takeFitting 9 = .ok (.ifCond .eq 10, 3) := by decide +kernel
theorem dX9_takeFitting_12 : decode cX9_takeFitting 12 = .ok (.aload_n 0, 1) := by decide +kernel
theorem dX9_takeFitting_13 : decode cX9_takeFitting 13 = .ok (.invokevirtual 273, 3) := by decide +kernel
theorem wi_1106 : Cond.methodLink RX9 273 yX9_fitting ∈ WA := zin 1106 (by decide +kernel) (by decide +kernel)
theorem wi_1109 : Cond.code yX9_fitting cX9_fitting 5 (some .int) ∈ WA := zin 1109 (by decide +kernel) (by decide +kernel)
theorem wi_1108 : Cond.instanceMethod yX9_fitting ∈ WA := zin 1108 (by decide +kernel) (by decide +kernel)
theorem wi_21 : Cond.selects RX9 yX9_fitting yX9_fitting ∈ WA := zin 21 (by decide +kernel) (by decide +kernel)
theorem mv_X9_273 : zMv RX9 273 RX9 mX9_fitting 0 := ⟨⟨wi_1106, wi_100, wi_1109, by decide, by decide +kernel⟩, wi_1108, wi_21⟩
theorem dX9_takeFitting_16 : decode cX9_takeFitting 16 = .ok (.goto 4, 3) := by decide +kernel
theorem dX9_takeFitting_20 : decode cX9_takeFitting 20 = .ok (.istore_n 2, 1) := by decide +kernel
theorem dX9_takeFitting_21 : decode cX9_takeFitting 21 = .ok (.aload_n 0, 1) := by decide +kernel
theorem dX9_takeFitting_22 : decode cX9_takeFitting 22 = .ok (.getfield 10, 3) := by decide +kernel
theorem dX9_takeFitting_25 : decode cX9_takeFitting 25 = .ok (.iconst 0, 1) := by decide +kernel
theorem dX9_takeFitting_26 : decode cX9_takeFitting 26 = .ok (.putfield 84, 3) := by decide +kernel
theorem dX9_takeFitting_29 : decode cX9_takeFitting 29 = .ok (.iload_n 1, 1) := by decide +kernel
theorem dX9_takeFitting_30 : decode cX9_takeFitting 30 = .ok (.ifCond .ne 14, 3) := by decide +kernel
theorem dX9_takeFitting_44 : decode cX9_takeFitting 44 = .ok (.iload_n 2, 1) := by decide +kernel
theorem dX9_takeFitting_45 : decode cX9_takeFitting 45 = .ok (.ireturn, 1) := by decide +kernel
abbrev mX9_whose : Ym := (yX9_whose, cX9_whose, 1, some .int)
theorem dX9_whose_0 : decode cX9_whose 0 = .ok (.aload_n 0, 1) := by decide +kernel
theorem dX9_whose_1 : decode cX9_whose 1 = .ok (.invokevirtual 258, 3) := by decide +kernel
theorem wi_1094 : Cond.methodLink RX9 258 yX9_takeFitting ∈ WA := zin 1094 (by decide +kernel) (by decide +kernel)
theorem wi_1097 : Cond.code yX9_takeFitting cX9_takeFitting 3 (some .int) ∈ WA := zin 1097 (by decide +kernel) (by decide +kernel)
theorem wi_1096 : Cond.instanceMethod yX9_takeFitting ∈ WA := zin 1096 (by decide +kernel) (by decide +kernel)
theorem wi_20 : Cond.selects RX9 yX9_takeFitting yX9_takeFitting ∈ WA := zin 20 (by decide +kernel) (by decide +kernel)
theorem mv_X9_258 : zMv RX9 258 RX9 mX9_takeFitting 0 := ⟨⟨wi_1094, wi_100, wi_1097, by decide, by decide +kernel⟩, wi_1096, wi_20⟩
theorem dX9_whose_4 : decode cX9_whose 4 = .ok (.ireturn, 1) := by decide +kernel
abbrev mX9_next : Ym := (yX9_next, cX9_next, 6, some .int)
theorem dX9_next_0 : decode cX9_next 0 = .ok (.aload_n 0, 1) := by decide +kernel
theorem dX9_next_1 : decode cX9_next 1 = .ok (.invokevirtual 258, 3) := by decide +kernel
theorem dX9_next_4 : decode cX9_next 4 = .ok (.istore_n 1, 1) := by decide +kernel
theorem dX9_next_5 : decode cX9_next 5 = .ok (.iload_n 1, 1) := by decide +kernel
theorem dX9_next_6 : decode cX9_next 6 = .ok (.invokestatic 262, 3) := by decide +kernel
theorem wi_1119 : Cond.methodLink RX9 262 yJ6_bitCount_0f7a4 ∈ WA := zin 1119 (by decide +kernel) (by decide +kernel)
theorem ms_X9_262 : zMs RX9 262 mJ6_bitCount_0f7a4 1 := ⟨⟨wi_1119, wi_125, wi_1121, by decide, by decide +kernel⟩, wi_1120⟩
theorem dX9_next_9 : decode cX9_next 9 = .ok (.iconst 2, 1) := by decide +kernel
theorem dX9_next_10 : decode cX9_next 10 = .ok (.if_icmp .ge 5, 3) := by decide +kernel
theorem dX9_next_13 : decode cX9_next 13 = .ok (.iconst (-1), 1) := by decide +kernel
theorem dX9_next_14 : decode cX9_next 14 = .ok (.ireturn, 1) := by decide +kernel
abbrev mX9_count : Ym := (yX9_count, cX9_count, 2, some .int)
theorem dX9_count_0 : decode cX9_count 0 = .ok (.iload_n 1, 1) := by decide +kernel
theorem dX9_count_1 : decode cX9_count 1 = .ok (.tableswitch 165 0 11 #[63, 71, 79, 87, 98, 106, 114, 122, 130, 138, 149, 157], 63) := by decide +kernel
theorem dX9_count_64 : decode cX9_count 64 = .ok (.aload_n 0, 1) := by decide +kernel
theorem dX9_count_65 : decode cX9_count 65 = .ok (.getfield 19, 3) := by decide +kernel
theorem dX9_count_68 : decode cX9_count 68 = .ok (.getfield 278, 3) := by decide +kernel
theorem dX9_count_71 : decode cX9_count 71 = .ok (.ireturn, 1) := by decide +kernel
theorem dX9_count_72 : decode cX9_count 72 = .ok (.aload_n 0, 1) := by decide +kernel
theorem dX9_count_73 : decode cX9_count 73 = .ok (.getfield 19, 3) := by decide +kernel
theorem dX9_count_76 : decode cX9_count 76 = .ok (.getfield 230, 3) := by decide +kernel
theorem dX9_count_79 : decode cX9_count 79 = .ok (.ireturn, 1) := by decide +kernel
theorem dX9_count_80 : decode cX9_count 80 = .ok (.aload_n 0, 1) := by decide +kernel
theorem dX9_count_81 : decode cX9_count 81 = .ok (.getfield 19, 3) := by decide +kernel
theorem dX9_count_84 : decode cX9_count 84 = .ok (.getfield 110, 3) := by decide +kernel
theorem fd_X9_110_0 : zFd RX9 110 0 2 := ⟨RX0, TX0, 12, "BorrowedLuck$Coast", rfl, by decide, uw_X0, Or.inl rfl, Or.inr ⟨"BorrowedLuck", by decide +kernel⟩⟩
theorem dX9_count_87 : decode cX9_count 87 = .ok (.ireturn, 1) := by decide +kernel
theorem dX9_count_88 : decode cX9_count 88 = .ok (.aload_n 0, 1) := by decide +kernel
theorem dX9_count_89 : decode cX9_count 89 = .ok (.getfield 32, 3) := by decide +kernel
theorem dX9_count_92 : decode cX9_count 92 = .ok (.getfield 125, 3) := by decide +kernel
theorem dX9_count_95 : decode cX9_count 95 = .ok (.getfield 131, 3) := by decide +kernel
theorem fd_X9_131_2 : zFd RX9 131 2 0 := ⟨RX2, TX2, 8, "BorrowedLuck$Law", rfl, by decide, uw_X2, Or.inl rfl, Or.inr ⟨"BorrowedLuck", by decide +kernel⟩⟩
theorem dX9_count_98 : decode cX9_count 98 = .ok (.ireturn, 1) := by decide +kernel
theorem dX9_count_99 : decode cX9_count 99 = .ok (.aload_n 0, 1) := by decide +kernel
theorem dX9_count_100 : decode cX9_count 100 = .ok (.getfield 19, 3) := by decide +kernel
theorem dX9_count_103 : decode cX9_count 103 = .ok (.getfield 346, 3) := by decide +kernel
theorem fd_X9_346_0 : zFd RX9 346 0 3 := ⟨RX0, TX0, 12, "BorrowedLuck$Coast", rfl, by decide, uw_X0, Or.inl rfl, Or.inr ⟨"BorrowedLuck", by decide +kernel⟩⟩
theorem dX9_count_106 : decode cX9_count 106 = .ok (.ireturn, 1) := by decide +kernel
theorem dX9_count_107 : decode cX9_count 107 = .ok (.aload_n 0, 1) := by decide +kernel
theorem dX9_count_108 : decode cX9_count 108 = .ok (.getfield 19, 3) := by decide +kernel
theorem dX9_count_111 : decode cX9_count 111 = .ok (.getfield 206, 3) := by decide +kernel
theorem fd_X9_206_0 : zFd RX9 206 0 4 := ⟨RX0, TX0, 12, "BorrowedLuck$Coast", rfl, by decide, uw_X0, Or.inl rfl, Or.inr ⟨"BorrowedLuck", by decide +kernel⟩⟩
theorem dX9_count_114 : decode cX9_count 114 = .ok (.ireturn, 1) := by decide +kernel
theorem dX9_count_115 : decode cX9_count 115 = .ok (.aload_n 0, 1) := by decide +kernel
theorem dX9_count_116 : decode cX9_count 116 = .ok (.getfield 19, 3) := by decide +kernel
theorem dX9_count_119 : decode cX9_count 119 = .ok (.getfield 349, 3) := by decide +kernel
theorem fd_X9_349_0 : zFd RX9 349 0 5 := ⟨RX0, TX0, 12, "BorrowedLuck$Coast", rfl, by decide, uw_X0, Or.inl rfl, Or.inr ⟨"BorrowedLuck", by decide +kernel⟩⟩
theorem dX9_count_122 : decode cX9_count 122 = .ok (.ireturn, 1) := by decide +kernel
theorem dX9_count_123 : decode cX9_count 123 = .ok (.aload_n 0, 1) := by decide +kernel
theorem dX9_count_124 : decode cX9_count 124 = .ok (.getfield 19, 3) := by decide +kernel
theorem dX9_count_127 : decode cX9_count 127 = .ok (.invokevirtual 324, 3) := by decide +kernel
theorem wi_531 : Cond.methodLink RX9 324 yX0_luckOfWomen ∈ WA := zin 531 (by decide +kernel) (by decide +kernel)
theorem wi_534 : Cond.code yX0_luckOfWomen cX0_luckOfWomen 3 (some .int) ∈ WA := zin 534 (by decide +kernel) (by decide +kernel)
theorem wi_532 : Cond.instanceMethod yX0_luckOfWomen ∈ WA := zin 532 (by decide +kernel) (by decide +kernel)
theorem wi_533 : Cond.selects RX0 yX0_luckOfWomen yX0_luckOfWomen ∈ WA := zin 533 (by decide +kernel) (by decide +kernel)
theorem mv_X9_324 : zMv RX9 324 RX0 mX0_luckOfWomen 0 := ⟨⟨wi_531, wi_102, wi_534, by decide, by decide +kernel⟩, wi_532, wi_533⟩
theorem dX9_count_130 : decode cX9_count 130 = .ok (.ireturn, 1) := by decide +kernel
theorem dX9_count_131 : decode cX9_count 131 = .ok (.aload_n 0, 1) := by decide +kernel
theorem dX9_count_132 : decode cX9_count 132 = .ok (.getfield 19, 3) := by decide +kernel
theorem dX9_count_135 : decode cX9_count 135 = .ok (.invokevirtual 352, 3) := by decide +kernel
theorem wi_536 : Cond.methodLink RX9 352 yX0_luckOfThings ∈ WA := zin 536 (by decide +kernel) (by decide +kernel)
theorem wi_539 : Cond.code yX0_luckOfThings cX0_luckOfThings 3 (some .int) ∈ WA := zin 539 (by decide +kernel) (by decide +kernel)
theorem wi_537 : Cond.instanceMethod yX0_luckOfThings ∈ WA := zin 537 (by decide +kernel) (by decide +kernel)
theorem wi_538 : Cond.selects RX0 yX0_luckOfThings yX0_luckOfThings ∈ WA := zin 538 (by decide +kernel) (by decide +kernel)
theorem mv_X9_352 : zMv RX9 352 RX0 mX0_luckOfThings 0 := ⟨⟨wi_536, wi_102, wi_539, by decide, by decide +kernel⟩, wi_537, wi_538⟩
theorem dX9_count_138 : decode cX9_count 138 = .ok (.ireturn, 1) := by decide +kernel
theorem dX9_count_139 : decode cX9_count 139 = .ok (.aload_n 0, 1) := by decide +kernel
theorem dX9_count_140 : decode cX9_count 140 = .ok (.getfield 19, 3) := by decide +kernel
theorem dX9_count_143 : decode cX9_count 143 = .ok (.bipush 6, 2) := by decide +kernel
theorem dX9_count_145 : decode cX9_count 145 = .ok (.iconst 1, 1) := by decide +kernel
theorem dX9_count_146 : decode cX9_count 146 = .ok (.invokevirtual 355, 3) := by decide +kernel
theorem wi_540 : Cond.methodLink RX9 355 yX0_womenWith ∈ WA := zin 540 (by decide +kernel) (by decide +kernel)
theorem wi_543 : Cond.code yX0_womenWith cX0_womenWith 5 (some .int) ∈ WA := zin 543 (by decide +kernel) (by decide +kernel)
theorem wi_541 : Cond.instanceMethod yX0_womenWith ∈ WA := zin 541 (by decide +kernel) (by decide +kernel)
theorem wi_542 : Cond.selects RX0 yX0_womenWith yX0_womenWith ∈ WA := zin 542 (by decide +kernel) (by decide +kernel)
theorem mv_X9_355 : zMv RX9 355 RX0 mX0_womenWith 2 := ⟨⟨wi_540, wi_102, wi_543, by decide, by decide +kernel⟩, wi_541, wi_542⟩
theorem dX9_count_149 : decode cX9_count 149 = .ok (.ireturn, 1) := by decide +kernel
theorem dX9_count_150 : decode cX9_count 150 = .ok (.aload_n 0, 1) := by decide +kernel
theorem dX9_count_151 : decode cX9_count 151 = .ok (.getfield 19, 3) := by decide +kernel
theorem dX9_count_154 : decode cX9_count 154 = .ok (.getfield 330, 3) := by decide +kernel
theorem dX9_count_157 : decode cX9_count 157 = .ok (.ireturn, 1) := by decide +kernel
theorem dX9_count_158 : decode cX9_count 158 = .ok (.aload_n 0, 1) := by decide +kernel
theorem dX9_count_159 : decode cX9_count 159 = .ok (.getfield 76, 3) := by decide +kernel
theorem dX9_count_162 : decode cX9_count 162 = .ok (.getfield 358, 3) := by decide +kernel
theorem fd_X9_358_4 : zFd RX9 358 4 1 := ⟨RX5, TX5, 3, "BorrowedLuck$Memory", rfl, by decide, uw_X5, Or.inl rfl, Or.inr ⟨"BorrowedLuck", by decide +kernel⟩⟩
theorem dX9_count_165 : decode cX9_count 165 = .ok (.ireturn, 1) := by decide +kernel
theorem dX9_count_166 : decode cX9_count 166 = .ok (.iconst (-1), 1) := by decide +kernel
theorem dX9_count_167 : decode cX9_count 167 = .ok (.ireturn, 1) := by decide +kernel
/-! a call of an inherited method -/
def zMu (own : String) (idx : Nat) (C : String) (y : Ym) (n : Nat) : Prop := (∀ w ∈ va_wsU own idx C y.1.cls ⟨C, y.1.name, y.1.desc⟩ y.1 ([] : List Cond), w ∈ WA) ∧ Cond.code y.1 y.2.1 y.2.2.1 y.2.2.2 ∈ WA ∧ y.2.2.1 ≤ 21 ∧ (y.1.cls ≠ "java/lang/invoke/MethodHandle" ∧ y.1.cls ≠ "java/lang/invoke/VarHandle" ∧ (parseMethodDescriptor y.1.desc).map (fun q => q.parameters.length) = some n)
theorem Ct.met {G : Gx} {Ga : List Shp} {y : Ym} {d b : Nat} {vs : List Value} {I : Hi} {Q : Rs → Hi → Prop} (h : Ct G Ga y d b vs I Q) (hx : ∀ E J, ¬ Q (.inr E) J) (sz : Nat) : Met (gL G) y.1 (zwy y) (zrm d b) (zPc G Ga vs I sz) (zQ G Ga Q sz) b (6 * b) (zA G Ga sz) := by
  intro p e ha hc hk s m args below hf hfit hP hK
  obtain ⟨t, o, h1, h2, h3, h4⟩ := h sz p e ha hc hk s m args below hf hfit hP hK
  refine ⟨t, o, h1, h2, h3, ?_⟩
  rcases h4 with h4 | ⟨q, e1, E, ce, L, ⟨⟨J, e2, e3⟩, e4⟩, h5⟩
  · exact h4
  · exact absurd e2 (hx E J)
theorem Rn.callU {G : Gx} {Ga : List Shp} {Y : Ym} {kx : Kx} {d b pc pc' : Nat} {ls : List (Option Value)} {st : List Value} {I : Hi} {C : String} {T : u_T} {N ci idx a n : Nat} {fl : List (Option (Option Nat))} {As rest : List Value} {y : Ym} {v : Option Value} {J : Hi} (hd : decode Y.2.1 pc = .ok (.invokevirtual idx, 3)) (hM : zMu Y.1.cls idx C y n) (hG : Ga[a]? = some (.inl (ci, fl))) (hC : vwCl[ci]? = some (C, T, N))
    (hst : st = As.reverse ++ .ref a :: rest) (hn : As.length = n) (hr : (rest.map fun v => v.category).sum ≤ 8) (hct : Ct G Ga y d 0 (.ref a :: As) I (Rp v J))
    (k : Rn G Ga Y kx (d + 1) b pc' ls (v.toList ++ rest) J) (hp : pc + 3 = pc' := by rfl) : Rn G Ga Y kx (d + 1) b pc ls st I := by
  subst hp
  subst hst
  intro p e R s m args below meth c H locs cells slots tc ts Z F hk lsA hl
  have F0' : zFr G Ga Y (d + 1) (b + 0) I p R s m args meth c H locs cells slots tc ts := F
  obtain ⟨F1, ⟨hP, hD, hS⟩, F3, F4, F5, F6, F7, F8⟩ := F
  have hts := F1.2.2.2.2.2.2.1
  have hw : ∀ w ∈ WA, w ∈ WA ∧ ((w.onTables && w.keeps) = true ∨ ∃ ty, w = .arrayClass ty) := fun w hw => ⟨hw, good_of_word (List.mem_filter.mp hw).2⟩
  have hgood : GoodIn WA (va_wsU Y.1.cls idx C y.1.cls ⟨C, y.1.name, y.1.desc⟩ y.1 (zwy y)) := by
    intro w h2
    unfold va_wsU at h2
    rcases List.mem_append.mp h2 with h2 | h2
    · exact hw _ (hM.1 w (by unfold va_wsU; exact List.mem_append_left _ h2))
    · exact zgood hM.2.1 w h2
  have run := va_runU (g := F0 m pc lsA ((As.reverse ++ Value.ref a :: rest).map (zr (gad G)))) (As := As.map (zr (gad G))) (rest := rest.map (zr (gad G))) (cells := cells) (slots := slots) (locs := locs) (e := e) (below := below) (meth := meth) ⟨F1.1, F1.2.1, F1.2.2.1, F1.2.2.2.2.2.1, hts⟩ (hct.met (fun E J h => nomatch h.1) H.size)
    (va_cwU n hts hgood rfl rfl rfl rfl hM.2.2.2 ⟨by show d + 8 + 1 ≤ _; omega, by have := hM.2.2.1; show 8 + (y.2.2.1 + 11) + (40 * d + 200) ≤ _; omega⟩)
    (⟨zPc_blind, va_recv F1.2.2.2.2.2.2.2.1 hP hC (zws_get hG), fun U hU hW => zpre F0' U hU hW⟩) rfl (by rw [List.length_map]; exact hn) hl.1 (by simp [zr, List.map_reverse]) (lv_room (by rw [zsum]; exact hr)) hd ⟨by omega, by omega⟩
  refine zafter (b2 := b) (mc := 0) (Rr := Rp v J) F0' hk hl (fun T hT X => Or.inl (run T hT X)) (fun E J h => nomatch h.1) (fun w K h => ?_)
  obtain ⟨h1, h2⟩ := h
  cases h1
  cases h2
  exact k
section ClsB
variable (G : Gx) (d : Nat) (I : Hi)
theorem ct_X9_sells0 (F : FC I) (x : Int32) (h1 : ¬ x < 0) (h2 : x ≤ nI 50) : Ct G GAM mX9_sells (d + 1) 1 [.ref 0, .int x] I (Rp (some (.int (nI 0))) I) := by
  obtain ⟨h3_0, h3_1, h3_2, h3_3, h3_4, h3_5, h3_6, h3_7, h3_8, h0_11, h0_12, h1_1, h16_0, h44_1, h44_2⟩ := F
  refine Ct.mk [some (.ref 0), some (.int x)] ?_
  refine Rn.iload_n dX9_sells_0 rfl rfl ?_
  refine Rn.if_lt (tgt := 10) dX9_sells_1 (by decide) (fun h9 => by exfalso; exact h1 h9) (fun _ => ?_)
  refine Rn.iload_n dX9_sells_4 rfl rfl ?_
  refine Rn.bipush (v := (nI 50)) dX9_sells_5 rfl ?_
  refine Rn.icmp_le (tgt := 21) dX9_sells_7 (by decide) (fun _ => ?_) (fun h9 => by exfalso; exact h9 h2)
  refine Rn.aload_n dX9_sells_21 rfl rfl ?_
  refine Rn.getR dX9_sells_22 fd_X9_19_8 (by first | rfl | exact gC0 (by assumption) | exact gL0 (by assumption)) rfl ?_
  refine Rn.iload_n dX9_sells_25 rfl rfl ?_
  refine Rn.callVp (As := [_]) dX9_sells_26 mv_X9_303 (by first | rfl | exact gC0 (by assumption) | exact gL0 (by assumption)) rfl rfl rfl (Nat.le_of_ble_eq_true rfl) (ct_soldFor G _ _ (by exact h3_1) _) ?_
  exact Rn.iret dX9_sells_29 rfl (⟨rfl, rfl⟩)
theorem ct_X9_sells1 (x : Int32) (h : ¬ (¬ x < 0 ∧ x ≤ nI 50)) : Ct G GAM mX9_sells (d + 1) 1 [.ref 0, .int x] I (Rx "java/lang/IllegalArgumentException" I) := by
  refine Ct.mk [some (.ref 0), some (.int x)] ?_
  refine Rn.iload_n dX9_sells_0 rfl rfl ?_
  refine Rn.if_lt (tgt := 10) dX9_sells_1 (by decide) (fun h1 => ?_) (fun h1 => ?_)
  · exact Rn.throwTW th_X9_103_301_107 dX9_sells_10 dX9_sells_13 dX9_sells_14 dX9_sells_17 dX9_sells_20 (⟨rfl, rfl⟩)
  · refine Rn.iload_n dX9_sells_4 rfl rfl ?_
    refine Rn.bipush (v := (nI 50)) dX9_sells_5 rfl ?_
    refine Rn.icmp_le (tgt := 21) dX9_sells_7 (by decide) (fun h9 => by exfalso; exact h ⟨h1, h9⟩) (fun _ => ?_)
    exact Rn.throwTW th_X9_103_301_107 dX9_sells_10 dX9_sells_13 dX9_sells_14 dX9_sells_17 dX9_sells_20 (⟨rfl, rfl⟩)
theorem ct_needSort0 (x : Int32) (h1 : ¬ x < 0) (h2 : x < nI 4) : Ct G GAM mX9_needSort d 1 [.int x] I (Rp none I) := by
  refine Ct.mk [some (.int x)] ?_
  refine Rn.iload_n dX9_needSort_0 rfl rfl ?_
  refine Rn.if_lt (tgt := 9) dX9_needSort_1 (by decide) (fun h9 => by exfalso; exact h1 h9) (fun _ => ?_)
  refine Rn.iload_n dX9_needSort_4 rfl rfl ?_
  refine Rn.iconst (v := (nI 4)) dX9_needSort_5 rfl ?_
  refine Rn.icmp_lt (tgt := 20) dX9_needSort_6 (by decide) (fun _ => ?_) (fun h9 => by exfalso; exact h9 h2)
  exact Rn.vret dX9_needSort_20 rfl (⟨rfl, rfl⟩)
theorem ct_needSort1 (x : Int32) (h : ¬ (¬ x < 0 ∧ x < nI 4)) : Ct G GAM mX9_needSort d 1 [.int x] I (Rx "java/lang/IndexOutOfBoundsException" I) := by
  refine Ct.mk [some (.int x)] ?_
  refine Rn.iload_n dX9_needSort_0 rfl rfl ?_
  refine Rn.if_lt (tgt := 9) dX9_needSort_1 (by decide) (fun h1 => ?_) (fun h1 => ?_)
  · exact Rn.throwTW th_X9_359_366_363 dX9_needSort_9 dX9_needSort_12 dX9_needSort_13 dX9_needSort_16 dX9_needSort_19 (⟨rfl, rfl⟩)
  · refine Rn.iload_n dX9_needSort_4 rfl rfl ?_
    refine Rn.iconst (v := (nI 4)) dX9_needSort_5 rfl ?_
    refine Rn.icmp_lt (tgt := 20) dX9_needSort_6 (by decide) (fun h9 => by exfalso; exact h ⟨h1, h9⟩) (fun _ => ?_)
    exact Rn.throwTW th_X9_359_366_363 dX9_needSort_9 dX9_needSort_12 dX9_needSort_13 dX9_needSort_16 dX9_needSort_19 (⟨rfl, rfl⟩)
theorem ct_needTrial0 (x : Int32) (h1 : ¬ x < 0) (h2 : x ≤ nI 60) : Ct G GAM mX9_needTrialDays d 1 [.int x] I (Rp none I) := by
  refine Ct.mk [some (.int x)] ?_
  refine Rn.iload_n dX9_needTrialDays_0 rfl rfl ?_
  refine Rn.if_lt (tgt := 10) dX9_needTrialDays_1 (by decide) (fun h9 => by exfalso; exact h1 h9) (fun _ => ?_)
  refine Rn.iload_n dX9_needTrialDays_4 rfl rfl ?_
  refine Rn.bipush (v := (nI 60)) dX9_needTrialDays_5 rfl ?_
  refine Rn.icmp_le (tgt := 21) dX9_needTrialDays_7 (by decide) (fun _ => ?_) (fun h9 => by exfalso; exact h9 h2)
  exact Rn.vret dX9_needTrialDays_21 rfl (⟨rfl, rfl⟩)
theorem ct_needTrial1 (x : Int32) (h : ¬ (¬ x < 0 ∧ x ≤ nI 60)) : Ct G GAM mX9_needTrialDays d 1 [.int x] I (Rx "java/lang/IllegalArgumentException" I) := by
  refine Ct.mk [some (.int x)] ?_
  refine Rn.iload_n dX9_needTrialDays_0 rfl rfl ?_
  refine Rn.if_lt (tgt := 10) dX9_needTrialDays_1 (by decide) (fun h1 => ?_) (fun h1 => ?_)
  · exact Rn.throwTW th_X9_103_368_107 dX9_needTrialDays_10 dX9_needTrialDays_13 dX9_needTrialDays_14 dX9_needTrialDays_17 dX9_needTrialDays_20 (⟨rfl, rfl⟩)
  · refine Rn.iload_n dX9_needTrialDays_4 rfl rfl ?_
    refine Rn.bipush (v := (nI 60)) dX9_needTrialDays_5 rfl ?_
    refine Rn.icmp_le (tgt := 21) dX9_needTrialDays_7 (by decide) (fun h9 => by exfalso; exact h ⟨h1, h9⟩) (fun _ => ?_)
    exact Rn.throwTW th_X9_103_368_107 dX9_needTrialDays_10 dX9_needTrialDays_13 dX9_needTrialDays_14 dX9_needTrialDays_17 dX9_needTrialDays_20 (⟨rfl, rfl⟩)
end ClsB
theorem Rn.callSq {G : Gx} {Ga : List Shp} {Y : Ym} {kx : Kx} {d b pc pc' : Nat} {ls : List (Option Value)} {st : List Value} {I : Hi} {idx n mc : Nat} {As rest : List Value} {y : Ym} {v : Option Value} {J : Hi} (hd : decode Y.2.1 pc = .ok (.invokestatic idx, 3)) (hM : zMs Y.1.cls idx y n)
    (hst : st = As.reverse ++ rest) (hn : As.length = n) (hr : (rest.map fun v => v.category).sum ≤ 8) (hct : Ct G Ga y d mc As I (Rp v J))
    (k : Rn G Ga Y kx (d + 1) b pc' ls (v.toList ++ rest) J) (hp : pc + 3 = pc' := by rfl) : Rn G Ga Y kx (d + 1) (b + mc) pc ls st I :=
  Rn.callSx hd hM hst hn hr hct (fun E J h => nomatch h.1) (fun w K h => by obtain ⟨h1, h2⟩ := h; cases h1; cases h2; exact k) hp
theorem Rn.callVq {G : Gx} {Ga : List Shp} {Y : Ym} {kx : Kx} {d b pc pc' : Nat} {ls : List (Option Value)} {st : List Value} {I : Hi} {C : String} {T : u_T} {N ci idx a n mc : Nat} {fl : List (Option (Option Nat))} {As rest : List Value} {y : Ym} {v : Option Value} {J : Hi} (hd : decode Y.2.1 pc = .ok (.invokevirtual idx, 3)) (hM : zMv Y.1.cls idx C y n) (hG : Ga[a]? = some (.inl (ci, fl))) (hC : vwCl[ci]? = some (C, T, N))
    (hst : st = As.reverse ++ .ref a :: rest) (hn : As.length = n) (hr : (rest.map fun v => v.category).sum ≤ 8) (hct : Ct G Ga y d mc (.ref a :: As) I (Rp v J))
    (k : Rn G Ga Y kx (d + 1) b pc' ls (v.toList ++ rest) J) (hp : pc + 3 = pc' := by rfl) : Rn G Ga Y kx (d + 1) (b + mc) pc ls st I :=
  Rn.callVx hd hM hG hC hst hn hr hct (fun E J h => nomatch h.1) (fun w K h => by obtain ⟨h1, h2⟩ := h; cases h1; cases h2; exact k) hp
section ClsB2
variable (G : Gx) (d : Nat) (I : Hi)
theorem ct_X9_luckiest0 (F : FC I) (x : Int32) (h1 : ¬ x < 0) (h2 : x < nI 4) : Ct G GAM mX9_luckiest (d + 1) 1 [.ref 0, .int x] I (Rp (some (.int (-1))) I) := by
  obtain ⟨h3_0, h3_1, h3_2, h3_3, h3_4, h3_5, h3_6, h3_7, h3_8, h0_11, h0_12, h1_1, h16_0, h44_1, h44_2⟩ := F
  refine Ct.mk [some (.ref 0), some (.int x), none, none] ?_
  refine Rn.iload_n dX9_luckiest_0 rfl rfl ?_
  refine Rn.callSq (b := 0) (mc := 1) (As := [_]) dX9_luckiest_1 ms_X9_171 rfl rfl (Nat.le_of_ble_eq_true rfl) (ct_needSort0 G _ _ _ h1 h2) ?_
  refine Rn.iconst (v := (-1)) dX9_luckiest_4 rfl ?_
  refine Rn.istore_n dX9_luckiest_5 rfl (by decide) ?_
  refine Rn.iconst (v := (nI 0)) dX9_luckiest_6 rfl ?_
  refine Rn.istore_n dX9_luckiest_7 rfl (by decide) ?_
  refine Rn.iload_n dX9_luckiest_8 rfl rfl ?_
  refine Rn.aload_n dX9_luckiest_9 rfl rfl ?_
  refine Rn.getR dX9_luckiest_10 fd_X9_19_8 (by first | rfl | exact gC0 (by assumption) | exact gL0 (by assumption)) rfl ?_
  refine Rn.getI dX9_luckiest_13 fd_X9_278_0 (by first | rfl | exact gC0 (by assumption) | exact gL0 (by assumption)) rfl ?_
  refine Rn.topI (nI 0) h3_0 ?_
  refine Rn.icmp_ge (tgt := 53) dX9_luckiest_16 (by decide) (fun _ => ?_) (fun h9 => absurd h9 (by decide))
  refine Rn.iload_n dX9_luckiest_53 rfl rfl ?_
  exact Rn.iret dX9_luckiest_54 rfl (⟨rfl, rfl⟩)
theorem ct_X9_luckiest1 (x : Int32) (h : ¬ (¬ x < 0 ∧ x < nI 4)) : Ct G GAM mX9_luckiest (d + 1) 1 [.ref 0, .int x] I (Rx "java/lang/IndexOutOfBoundsException" I) := by
  refine Ct.mk [some (.ref 0), some (.int x), none, none] ?_
  refine Rn.iload_n dX9_luckiest_0 rfl rfl ?_
  exact Rn.callSt (b := 0) (mc := 1) (As := [_]) dX9_luckiest_1 ms_X9_171 rfl rfl (Nat.le_of_ble_eq_true rfl) (ct_needSort1 G _ _ _ h) (fun _ _ h => h) (fun _ _ h => nomatch h.1)
theorem ct_X9_log0 (F : FC I) (x y : Int32) (h1 : ¬ y < 0) (h2 : y < nI 4) : Ct G GAM mX9_log d 1 [.ref 0, .int x, .int y] I (Rp (some (.int (-1000))) I) := by
  obtain ⟨h3_0, h3_1, h3_2, h3_3, h3_4, h3_5, h3_6, h3_7, h3_8, h0_11, h0_12, h1_1, h16_0, h44_1, h44_2⟩ := F
  refine Ct.mk [some (.ref 0), some (.int x), some (.int y)] ?_
  refine Rn.iload_n dX9_log_0 rfl rfl ?_
  refine Rn.if_lt (tgt := 9) dX9_log_1 (by decide) (fun h9 => by exfalso; exact h1 h9) (fun _ => ?_)
  refine Rn.iload_n dX9_log_4 rfl rfl ?_
  refine Rn.iconst (v := (nI 4)) dX9_log_5 rfl ?_
  refine Rn.icmp_lt (tgt := 20) dX9_log_6 (by decide) (fun _ => ?_) (fun h9 => by exfalso; exact h9 h2)
  refine Rn.iload_n dX9_log_20 rfl rfl ?_
  refine Rn.if_lt (tgt := 35) dX9_log_21 (by decide) (fun h3 => ?_) (fun h3 => ?_)
  · refine Rn.sipush (v := (-1000)) dX9_log_35 rfl ?_
    refine Rn.goto 50 dX9_log_38 (by decide) ?_
    exact Rn.iret dX9_log_50 rfl (⟨rfl, rfl⟩)
  · refine Rn.iload_n dX9_log_24 rfl rfl ?_
    refine Rn.aload_n dX9_log_25 rfl rfl ?_
    refine Rn.getR dX9_log_26 fd_X9_19_8 (by first | rfl | exact gC0 (by assumption) | exact gL0 (by assumption)) rfl ?_
    refine Rn.getI dX9_log_29 fd_X9_330_0 (by first | rfl | exact gC0 (by assumption) | exact gL0 (by assumption)) rfl ?_
    refine Rn.topI (nI 0) h3_7 ?_
    refine Rn.icmp_lt (tgt := 41) dX9_log_32 (by decide) (fun h9 => by exfalso; exact h3 h9) (fun _ => ?_)
    refine Rn.sipush (v := (-1000)) dX9_log_35 rfl ?_
    refine Rn.goto 50 dX9_log_38 (by decide) ?_
    exact Rn.iret dX9_log_50 rfl (⟨rfl, rfl⟩)
theorem ct_tellsLuck (h : I 1 1 = nI 0) : Ct G GAM mX8_tellsLuck d 0 [.ref 1] I (Rp (some (.int (nI 1))) I) := by
  refine Ct.mk [some (.ref 1), none, none, none] ?_
  refine Rn.aload_n dX8_tellsLuck_0 rfl rfl ?_
  refine Rn.getI dX8_tellsLuck_1 fd_X8_15_7 (by first | rfl | exact gC0 (by assumption) | exact gL0 (by assumption)) rfl ?_
  refine Rn.topI (nI 0) h ?_
  refine Rn.bipush (v := (nI 40)) dX8_tellsLuck_4 rfl ?_
  refine Rn.icmp_gt (tgt := 22) dX8_tellsLuck_6 (by decide) (fun h9 => absurd h9 (by decide)) (fun _ => ?_)
  refine Rn.aload_n dX8_tellsLuck_9 rfl rfl ?_
  refine Rn.getI dX8_tellsLuck_10 fd_X8_15_7 (by first | rfl | exact gC0 (by assumption) | exact gL0 (by assumption)) rfl ?_
  refine Rn.topI (nI 0) h ?_
  refine Rn.iconst (v := (nI 2)) dX8_tellsLuck_13 rfl ?_
  refine Rn.irem dX8_tellsLuck_14 (by decide) ?_
  refine Rn.if_ne (tgt := 22) dX8_tellsLuck_15 (by decide) (fun h9 => absurd h9 (by decide)) (fun _ => ?_)
  refine Rn.iconst (v := (nI 1)) dX8_tellsLuck_18 rfl ?_
  refine Rn.goto 23 dX8_tellsLuck_19 (by decide) ?_
  refine Rn.istore_n dX8_tellsLuck_23 rfl (by decide) ?_
  refine Rn.iconst (v := (nI 0)) dX8_tellsLuck_24 rfl ?_
  refine Rn.istore_n dX8_tellsLuck_25 rfl (by decide) ?_
  refine Rn.iload_n dX8_tellsLuck_26 rfl rfl ?_
  refine Rn.aload_n dX8_tellsLuck_27 rfl rfl ?_
  refine Rn.getI dX8_tellsLuck_28 fd_X8_15_7 (by first | rfl | exact gC0 (by assumption) | exact gL0 (by assumption)) rfl ?_
  refine Rn.topI (nI 0) h ?_
  refine Rn.icmp_ge (tgt := 72) dX8_tellsLuck_31 (by decide) (fun _ => ?_) (fun h9 => absurd h9 (by decide))
  refine Rn.iload_n dX8_tellsLuck_72 rfl rfl ?_
  exact Rn.zret dX8_tellsLuck_73 rfl rfl (⟨rfl, rfl⟩)
theorem ct_fitting (h : I 3 0 = nI 0) : Ct G GAM mX9_fitting d 0 [.ref 0] I (Rp (some (.int (nI 0))) I) := by
  refine Ct.mk [some (.ref 0), none, none, none, none] ?_
  refine Rn.iconst (v := (nI 0)) dX9_fitting_0 rfl ?_
  refine Rn.istore_n dX9_fitting_1 rfl (by decide) ?_
  refine Rn.iconst (v := (nI 0)) dX9_fitting_2 rfl ?_
  refine Rn.istore_n dX9_fitting_3 rfl (by decide) ?_
  refine Rn.iload_n dX9_fitting_4 rfl rfl ?_
  refine Rn.aload_n dX9_fitting_5 rfl rfl ?_
  refine Rn.getR dX9_fitting_6 fd_X9_19_8 (by first | rfl | exact gC0 (by assumption) | exact gL0 (by assumption)) rfl ?_
  refine Rn.getI dX9_fitting_9 fd_X9_278_0 (by first | rfl | exact gC0 (by assumption) | exact gL0 (by assumption)) rfl ?_
  refine Rn.topI (nI 0) h ?_
  refine Rn.icmp_ge (tgt := 93) dX9_fitting_12 (by decide) (fun _ => ?_) (fun h9 => absurd h9 (by decide))
  refine Rn.iload_n dX9_fitting_93 rfl rfl ?_
  exact Rn.iret dX9_fitting_94 rfl (⟨rfl, rfl⟩)
theorem ct_takeFitting (F : FC I) : Ct G GAM mX9_takeFitting (d + 1) 0 [.ref 0] I (Rp (some (.int (nI 0))) (zup I 1 1 (nI 0))) := by
  obtain ⟨h3_0, h3_1, h3_2, h3_3, h3_4, h3_5, h3_6, h3_7, h3_8, h0_11, h0_12, h1_1, h16_0, h44_1, h44_2⟩ := F
  refine Ct.mk [some (.ref 0), none, none] ?_
  refine Rn.aload_n dX9_takeFitting_0 rfl rfl ?_
  refine Rn.getR dX9_takeFitting_1 fd_X9_10_8 (by first | rfl | exact gC0 (by assumption) | exact gL0 (by assumption)) rfl ?_
  refine Rn.callVp (As := []) dX9_takeFitting_4 mv_X9_270 (by first | rfl | exact gC0 (by assumption) | exact gL0 (by assumption)) rfl rfl rfl (Nat.le_of_ble_eq_true rfl) (ct_tellsLuck G _ _ (by exact h1_1)) ?_
  refine Rn.istore_n dX9_takeFitting_7 rfl (by decide) ?_
  refine Rn.iload_n dX9_takeFitting_8 rfl rfl ?_
  refine Rn.if_eq (tgt := 19) dX9_takeFitting_9 (by decide) (fun h9 => absurd h9 (by decide)) (fun _ => ?_)
  refine Rn.aload_n dX9_takeFitting_12 rfl rfl ?_
  refine Rn.callVp (As := []) dX9_takeFitting_13 mv_X9_273 (by first | rfl | exact gC0 (by assumption) | exact gL0 (by assumption)) rfl rfl rfl (Nat.le_of_ble_eq_true rfl) (ct_fitting G _ _ (by exact h3_0)) ?_
  refine Rn.goto 20 dX9_takeFitting_16 (by decide) ?_
  refine Rn.istore_n dX9_takeFitting_20 rfl (by decide) ?_
  refine Rn.aload_n dX9_takeFitting_21 rfl rfl ?_
  refine Rn.getR dX9_takeFitting_22 fd_X9_10_8 (by first | rfl | exact gC0 (by assumption) | exact gL0 (by assumption)) rfl ?_
  refine Rn.iconst (v := (nI 0)) dX9_takeFitting_25 rfl ?_
  refine Rn.putI dX9_takeFitting_26 fp_X9_84_7 (by first | rfl | exact gC0 (by assumption) | exact gL0 (by assumption)) rfl ?_
  refine Rn.iload_n dX9_takeFitting_29 rfl rfl ?_
  refine Rn.if_ne (tgt := 44) dX9_takeFitting_30 (by decide) (fun _ => ?_) (fun h9 => absurd h9 (by decide))
  refine Rn.iload_n dX9_takeFitting_44 rfl rfl ?_
  exact Rn.iret dX9_takeFitting_45 rfl (⟨rfl, rfl⟩)
theorem ct_X9_whose (F : FC I) : Ct G GAM mX9_whose (d + 2) 0 [.ref 0] I (Rp (some (.int (nI 0))) (zup I 1 1 (nI 0))) := by
  refine Ct.mk [some (.ref 0)] ?_
  refine Rn.aload_n dX9_whose_0 rfl rfl ?_
  refine Rn.callVp (As := []) dX9_whose_1 mv_X9_258 (by first | rfl | exact gC0 (by assumption) | exact gL0 (by assumption)) rfl rfl rfl (Nat.le_of_ble_eq_true rfl) (ct_takeFitting G _ _ F) ?_
  exact Rn.iret dX9_whose_4 rfl (⟨rfl, rfl⟩)
theorem ct_X9_next (F : FC I) : Ct G GAM mX9_next (d + 2) 0 [.ref 0] I (Rp (some (.int (-1))) (zup I 1 1 (nI 0))) := by
  refine Ct.mk [some (.ref 0), none, none, none, none, none] ?_
  refine Rn.aload_n dX9_next_0 rfl rfl ?_
  refine Rn.callVp (As := []) dX9_next_1 mv_X9_258 (by first | rfl | exact gC0 (by assumption) | exact gL0 (by assumption)) rfl rfl rfl (Nat.le_of_ble_eq_true rfl) (ct_takeFitting G _ _ F) ?_
  refine Rn.istore_n dX9_next_4 rfl (by decide) ?_
  refine Rn.iload_n dX9_next_5 rfl rfl ?_
  refine Rn.callSp (As := [_]) dX9_next_6 ms_X9_262 rfl rfl (Nat.le_of_ble_eq_true rfl) (ct_bitCount0 G _ _) ?_
  refine Rn.iconst (v := (nI 2)) dX9_next_9 rfl ?_
  refine Rn.icmp_ge (tgt := 15) dX9_next_10 (by decide) (fun h9 => absurd h9 (by decide)) (fun _ => ?_)
  refine Rn.iconst (v := (-1)) dX9_next_13 rfl ?_
  exact Rn.iret dX9_next_14 rfl (⟨rfl, rfl⟩)
def cntV : Nat → Int32
  | 3 => -1
  | 5 => nI 5
  | 6 => nI 20
  | _ => nI 0
theorem ct_X9_count_0 (F : FC I) : Ct G GAM mX9_count (d + 1) 0 [.ref 0, .int (nI 0)] I (Rp (some (.int (cntV 0))) I) := by
  obtain ⟨h3_0, h3_1, h3_2, h3_3, h3_4, h3_5, h3_6, h3_7, h3_8, h0_11, h0_12, h1_1, h16_0, h44_1, h44_2⟩ := F
  refine Ct.mk [some (.ref 0), some (.int (nI 0))] ?_
  refine Rn.iload_n dX9_count_0 rfl rfl ?_
  refine Rn.tableIn 64 dX9_count_1 (by decide) (by decide) rfl (by decide) ?_
  refine Rn.aload_n dX9_count_64 rfl rfl ?_
  refine Rn.getR dX9_count_65 fd_X9_19_8 (by first | rfl | exact gC0 (by assumption) | exact gL0 (by assumption)) rfl ?_
  refine Rn.getI dX9_count_68 fd_X9_278_0 (by first | rfl | exact gC0 (by assumption) | exact gL0 (by assumption)) rfl ?_
  refine Rn.topI (nI 0) h3_0 ?_
  exact Rn.iret dX9_count_71 rfl (⟨rfl, rfl⟩)
theorem ct_X9_count_1 (F : FC I) : Ct G GAM mX9_count (d + 1) 0 [.ref 0, .int (nI 1)] I (Rp (some (.int (cntV 1))) I) := by
  obtain ⟨h3_0, h3_1, h3_2, h3_3, h3_4, h3_5, h3_6, h3_7, h3_8, h0_11, h0_12, h1_1, h16_0, h44_1, h44_2⟩ := F
  refine Ct.mk [some (.ref 0), some (.int (nI 1))] ?_
  refine Rn.iload_n dX9_count_0 rfl rfl ?_
  refine Rn.tableIn 72 dX9_count_1 (by decide) (by decide) rfl (by decide) ?_
  refine Rn.aload_n dX9_count_72 rfl rfl ?_
  refine Rn.getR dX9_count_73 fd_X9_19_8 (by first | rfl | exact gC0 (by assumption) | exact gL0 (by assumption)) rfl ?_
  refine Rn.getI dX9_count_76 fd_X9_230_0 (by first | rfl | exact gC0 (by assumption) | exact gL0 (by assumption)) rfl ?_
  refine Rn.topI (nI 0) h3_1 ?_
  exact Rn.iret dX9_count_79 rfl (⟨rfl, rfl⟩)
theorem ct_X9_count_2 (F : FC I) : Ct G GAM mX9_count (d + 1) 0 [.ref 0, .int (nI 2)] I (Rp (some (.int (cntV 2))) I) := by
  obtain ⟨h3_0, h3_1, h3_2, h3_3, h3_4, h3_5, h3_6, h3_7, h3_8, h0_11, h0_12, h1_1, h16_0, h44_1, h44_2⟩ := F
  refine Ct.mk [some (.ref 0), some (.int (nI 2))] ?_
  refine Rn.iload_n dX9_count_0 rfl rfl ?_
  refine Rn.tableIn 80 dX9_count_1 (by decide) (by decide) rfl (by decide) ?_
  refine Rn.aload_n dX9_count_80 rfl rfl ?_
  refine Rn.getR dX9_count_81 fd_X9_19_8 (by first | rfl | exact gC0 (by assumption) | exact gL0 (by assumption)) rfl ?_
  refine Rn.getI dX9_count_84 fd_X9_110_0 (by first | rfl | exact gC0 (by assumption) | exact gL0 (by assumption)) rfl ?_
  refine Rn.topI (nI 0) h3_2 ?_
  exact Rn.iret dX9_count_87 rfl (⟨rfl, rfl⟩)
theorem ct_X9_count_3 (F : FC I) : Ct G GAM mX9_count (d + 1) 0 [.ref 0, .int (nI 3)] I (Rp (some (.int (cntV 3))) I) := by
  obtain ⟨h3_0, h3_1, h3_2, h3_3, h3_4, h3_5, h3_6, h3_7, h3_8, h0_11, h0_12, h1_1, h16_0, h44_1, h44_2⟩ := F
  refine Ct.mk [some (.ref 0), some (.int (nI 3))] ?_
  refine Rn.iload_n dX9_count_0 rfl rfl ?_
  refine Rn.tableIn 88 dX9_count_1 (by decide) (by decide) rfl (by decide) ?_
  refine Rn.aload_n dX9_count_88 rfl rfl ?_
  refine Rn.getR dX9_count_89 fd_X9_32_8 (by first | rfl | exact gC0 (by assumption) | exact gL0 (by assumption)) rfl ?_
  refine Rn.getR dX9_count_92 fd_X9_125_5 (by first | rfl | exact gC0 (by assumption) | exact gL0 (by assumption)) rfl ?_
  refine Rn.getI dX9_count_95 fd_X9_131_2 (by first | rfl | exact gC0 (by assumption) | exact gL0 (by assumption)) rfl ?_
  refine Rn.topI (-1) h16_0 ?_
  exact Rn.iret dX9_count_98 rfl (⟨rfl, rfl⟩)
theorem ct_X9_count_4 (F : FC I) : Ct G GAM mX9_count (d + 1) 0 [.ref 0, .int (nI 4)] I (Rp (some (.int (cntV 4))) I) := by
  obtain ⟨h3_0, h3_1, h3_2, h3_3, h3_4, h3_5, h3_6, h3_7, h3_8, h0_11, h0_12, h1_1, h16_0, h44_1, h44_2⟩ := F
  refine Ct.mk [some (.ref 0), some (.int (nI 4))] ?_
  refine Rn.iload_n dX9_count_0 rfl rfl ?_
  refine Rn.tableIn 99 dX9_count_1 (by decide) (by decide) rfl (by decide) ?_
  refine Rn.aload_n dX9_count_99 rfl rfl ?_
  refine Rn.getR dX9_count_100 fd_X9_19_8 (by first | rfl | exact gC0 (by assumption) | exact gL0 (by assumption)) rfl ?_
  refine Rn.getI dX9_count_103 fd_X9_346_0 (by first | rfl | exact gC0 (by assumption) | exact gL0 (by assumption)) rfl ?_
  refine Rn.topI (nI 0) h3_3 ?_
  exact Rn.iret dX9_count_106 rfl (⟨rfl, rfl⟩)
theorem ct_X9_count_5 (F : FC I) : Ct G GAM mX9_count (d + 1) 0 [.ref 0, .int (nI 5)] I (Rp (some (.int (cntV 5))) I) := by
  obtain ⟨h3_0, h3_1, h3_2, h3_3, h3_4, h3_5, h3_6, h3_7, h3_8, h0_11, h0_12, h1_1, h16_0, h44_1, h44_2⟩ := F
  refine Ct.mk [some (.ref 0), some (.int (nI 5))] ?_
  refine Rn.iload_n dX9_count_0 rfl rfl ?_
  refine Rn.tableIn 107 dX9_count_1 (by decide) (by decide) rfl (by decide) ?_
  refine Rn.aload_n dX9_count_107 rfl rfl ?_
  refine Rn.getR dX9_count_108 fd_X9_19_8 (by first | rfl | exact gC0 (by assumption) | exact gL0 (by assumption)) rfl ?_
  refine Rn.getI dX9_count_111 fd_X9_206_0 (by first | rfl | exact gC0 (by assumption) | exact gL0 (by assumption)) rfl ?_
  refine Rn.topI (nI 5) h3_4 ?_
  exact Rn.iret dX9_count_114 rfl (⟨rfl, rfl⟩)
theorem ct_X9_count_6 (F : FC I) : Ct G GAM mX9_count (d + 1) 0 [.ref 0, .int (nI 6)] I (Rp (some (.int (cntV 6))) I) := by
  obtain ⟨h3_0, h3_1, h3_2, h3_3, h3_4, h3_5, h3_6, h3_7, h3_8, h0_11, h0_12, h1_1, h16_0, h44_1, h44_2⟩ := F
  refine Ct.mk [some (.ref 0), some (.int (nI 6))] ?_
  refine Rn.iload_n dX9_count_0 rfl rfl ?_
  refine Rn.tableIn 115 dX9_count_1 (by decide) (by decide) rfl (by decide) ?_
  refine Rn.aload_n dX9_count_115 rfl rfl ?_
  refine Rn.getR dX9_count_116 fd_X9_19_8 (by first | rfl | exact gC0 (by assumption) | exact gL0 (by assumption)) rfl ?_
  refine Rn.getI dX9_count_119 fd_X9_349_0 (by first | rfl | exact gC0 (by assumption) | exact gL0 (by assumption)) rfl ?_
  refine Rn.topI (nI 20) h3_5 ?_
  exact Rn.iret dX9_count_122 rfl (⟨rfl, rfl⟩)
theorem ct_X9_count_7 (F : FC I) : Ct G GAM mX9_count (d + 1) 0 [.ref 0, .int (nI 7)] I (Rp (some (.int (cntV 7))) I) := by
  obtain ⟨h3_0, h3_1, h3_2, h3_3, h3_4, h3_5, h3_6, h3_7, h3_8, h0_11, h0_12, h1_1, h16_0, h44_1, h44_2⟩ := F
  refine Ct.mk [some (.ref 0), some (.int (nI 7))] ?_
  refine Rn.iload_n dX9_count_0 rfl rfl ?_
  refine Rn.tableIn 123 dX9_count_1 (by decide) (by decide) rfl (by decide) ?_
  refine Rn.aload_n dX9_count_123 rfl rfl ?_
  refine Rn.getR dX9_count_124 fd_X9_19_8 (by first | rfl | exact gC0 (by assumption) | exact gL0 (by assumption)) rfl ?_
  refine Rn.callVp (As := []) dX9_count_127 mv_X9_324 (by first | rfl | exact gC0 (by assumption) | exact gL0 (by assumption)) rfl rfl rfl (Nat.le_of_ble_eq_true rfl) (ct_luckOfWomen_3 G _ _ (by exact h3_0)) ?_
  exact Rn.iret dX9_count_130 rfl (⟨rfl, rfl⟩)
theorem ct_X9_count_8 (F : FC I) : Ct G GAM mX9_count (d + 1) 0 [.ref 0, .int (nI 8)] I (Rp (some (.int (cntV 8))) I) := by
  obtain ⟨h3_0, h3_1, h3_2, h3_3, h3_4, h3_5, h3_6, h3_7, h3_8, h0_11, h0_12, h1_1, h16_0, h44_1, h44_2⟩ := F
  refine Ct.mk [some (.ref 0), some (.int (nI 8))] ?_
  refine Rn.iload_n dX9_count_0 rfl rfl ?_
  refine Rn.tableIn 131 dX9_count_1 (by decide) (by decide) rfl (by decide) ?_
  refine Rn.aload_n dX9_count_131 rfl rfl ?_
  refine Rn.getR dX9_count_132 fd_X9_19_8 (by first | rfl | exact gC0 (by assumption) | exact gL0 (by assumption)) rfl ?_
  refine Rn.callVp (As := []) dX9_count_135 mv_X9_352 (by first | rfl | exact gC0 (by assumption) | exact gL0 (by assumption)) rfl rfl rfl (Nat.le_of_ble_eq_true rfl) (ct_luckOfThings_3 G _ _ (by exact h3_1)) ?_
  exact Rn.iret dX9_count_138 rfl (⟨rfl, rfl⟩)
theorem ct_X9_count_9 (F : FC I) : Ct G GAM mX9_count (d + 1) 0 [.ref 0, .int (nI 9)] I (Rp (some (.int (cntV 9))) I) := by
  obtain ⟨h3_0, h3_1, h3_2, h3_3, h3_4, h3_5, h3_6, h3_7, h3_8, h0_11, h0_12, h1_1, h16_0, h44_1, h44_2⟩ := F
  refine Ct.mk [some (.ref 0), some (.int (nI 9))] ?_
  refine Rn.iload_n dX9_count_0 rfl rfl ?_
  refine Rn.tableIn 139 dX9_count_1 (by decide) (by decide) rfl (by decide) ?_
  refine Rn.aload_n dX9_count_139 rfl rfl ?_
  refine Rn.getR dX9_count_140 fd_X9_19_8 (by first | rfl | exact gC0 (by assumption) | exact gL0 (by assumption)) rfl ?_
  refine Rn.bipush (v := (nI 6)) dX9_count_143 rfl ?_
  refine Rn.iconst (v := (nI 1)) dX9_count_145 rfl ?_
  refine Rn.callVp (As := [_, _]) dX9_count_146 mv_X9_355 (by first | rfl | exact gC0 (by assumption) | exact gL0 (by assumption)) rfl rfl rfl (Nat.le_of_ble_eq_true rfl) (ct_womenWith_3 G _ _ (by exact h3_0) _ _) ?_
  exact Rn.iret dX9_count_149 rfl (⟨rfl, rfl⟩)
theorem ct_X9_count_10 (F : FC I) : Ct G GAM mX9_count (d + 1) 0 [.ref 0, .int (nI 10)] I (Rp (some (.int (cntV 10))) I) := by
  obtain ⟨h3_0, h3_1, h3_2, h3_3, h3_4, h3_5, h3_6, h3_7, h3_8, h0_11, h0_12, h1_1, h16_0, h44_1, h44_2⟩ := F
  refine Ct.mk [some (.ref 0), some (.int (nI 10))] ?_
  refine Rn.iload_n dX9_count_0 rfl rfl ?_
  refine Rn.tableIn 150 dX9_count_1 (by decide) (by decide) rfl (by decide) ?_
  refine Rn.aload_n dX9_count_150 rfl rfl ?_
  refine Rn.getR dX9_count_151 fd_X9_19_8 (by first | rfl | exact gC0 (by assumption) | exact gL0 (by assumption)) rfl ?_
  refine Rn.getI dX9_count_154 fd_X9_330_0 (by first | rfl | exact gC0 (by assumption) | exact gL0 (by assumption)) rfl ?_
  refine Rn.topI (nI 0) h3_7 ?_
  exact Rn.iret dX9_count_157 rfl (⟨rfl, rfl⟩)
theorem ct_X9_count_11 (F : FC I) : Ct G GAM mX9_count (d + 1) 0 [.ref 0, .int (nI 11)] I (Rp (some (.int (cntV 11))) I) := by
  obtain ⟨h3_0, h3_1, h3_2, h3_3, h3_4, h3_5, h3_6, h3_7, h3_8, h0_11, h0_12, h1_1, h16_0, h44_1, h44_2⟩ := F
  refine Ct.mk [some (.ref 0), some (.int (nI 11))] ?_
  refine Rn.iload_n dX9_count_0 rfl rfl ?_
  refine Rn.tableIn 158 dX9_count_1 (by decide) (by decide) rfl (by decide) ?_
  refine Rn.aload_n dX9_count_158 rfl rfl ?_
  refine Rn.getR dX9_count_159 fd_X9_76_8 (by first | rfl | exact gC0 (by assumption) | exact gL0 (by assumption)) rfl ?_
  refine Rn.getI dX9_count_162 fd_X9_358_4 (by first | rfl | exact gC0 (by assumption) | exact gL0 (by assumption)) rfl ?_
  refine Rn.topI (nI 0) h44_1 ?_
  exact Rn.iret dX9_count_165 rfl (⟨rfl, rfl⟩)
theorem ct_X9_count_o (x : Int32) (h : x.toInt < 0 ∨ 11 < x.toInt) : Ct G GAM mX9_count (d + 1) 0 [.ref 0, .int x] I (Rp (some (.int (-1))) I) := by
  refine Ct.mk [some (.ref 0), some (.int x)] ?_
  refine Rn.iload_n dX9_count_0 rfl rfl ?_
  refine Rn.tableOut 166 dX9_count_1 (by exact h) (by decide) ?_
  refine Rn.iconst (v := (-1)) dX9_count_166 rfl ?_
  exact Rn.iret dX9_count_167 rfl (⟨rfl, rfl⟩)
end ClsB2
