abbrev mX6_passDays : Ym := (yX6_passDays, cX6_passDays, 7, some .int)
theorem dX6_passDays_5 : decode cX6_passDays 5 = .ok (.iload 4, 2) := by decide +kernel
theorem dX6_passDays_7 : decode cX6_passDays 7 = .ok (.iload_n 2, 1) := by decide +kernel
theorem dX6_passDays_8 : decode cX6_passDays 8 = .ok (.if_icmp .ge 136, 3) := by decide +kernel
theorem dX6_passDays_11 : decode cX6_passDays 11 = .ok (.aload_n 1, 1) := by decide +kernel
theorem dX6_passDays_12 : decode cX6_passDays 12 = .ok (.getfield 59, 3) := by decide +kernel
theorem fd_X6_59_0 : zFd RX6 59 0 0 := ⟨RX0, TX0, 12, "BorrowedLuck$Coast", rfl, by decide, uw_X0, Or.inl rfl, Or.inr ⟨"BorrowedLuck", by decide +kernel⟩⟩
theorem dX6_passDays_15 : decode cX6_passDays 15 = .ok (.ifCond .le 107, 3) := by decide +kernel
theorem dX6_passDays_122 : decode cX6_passDays 122 = .ok (.aload_n 1, 1) := by decide +kernel
theorem dX6_passDays_123 : decode cX6_passDays 123 = .ok (.sipush 9999, 3) := by decide +kernel
theorem dX6_passDays_126 : decode cX6_passDays 126 = .ok (.aload_n 1, 1) := by decide +kernel
theorem dX6_passDays_127 : decode cX6_passDays 127 = .ok (.getfield 83, 3) := by decide +kernel
theorem fd_X6_83_0 : zFd RX6 83 0 3 := ⟨RX0, TX0, 12, "BorrowedLuck$Coast", rfl, by decide, uw_X0, Or.inl rfl, Or.inr ⟨"BorrowedLuck", by decide +kernel⟩⟩
theorem dX6_passDays_130 : decode cX6_passDays 130 = .ok (.iconst 1, 1) := by decide +kernel
theorem dX6_passDays_131 : decode cX6_passDays 131 = .ok (.iadd, 1) := by decide +kernel
theorem dX6_passDays_132 : decode cX6_passDays 132 = .ok (.invokestatic 37, 3) := by decide +kernel
abbrev mJ9_min_7cf53 : Ym := (yJ9_min_7cf53, cJ9_min_7cf53, 2, some .int)
theorem wi_870 : Cond.methodLink RX6 37 yJ9_min_7cf53 ∈ WA := zin 870 (by decide +kernel) (by decide +kernel)
theorem wi_112 : Cond.initialized RJ9 ∈ WA := zin 112 (by decide +kernel) (by decide +kernel)
theorem wi_569 : Cond.code yJ9_min_7cf53 cJ9_min_7cf53 2 (some .int) ∈ WA := zin 569 (by decide +kernel) (by decide +kernel)
theorem wi_568 : Cond.static yJ9_min_7cf53 ∈ WA := zin 568 (by decide +kernel) (by decide +kernel)
theorem ms_X6_37 : zMs RX6 37 mJ9_min_7cf53 2 := ⟨⟨wi_870, wi_112, wi_569, by decide, by decide +kernel⟩, wi_568⟩
theorem dX6_passDays_135 : decode cX6_passDays 135 = .ok (.putfield 83, 3) := by decide +kernel
theorem fp_X6_83_0 : zFp RX6 83 0 3 .int := ⟨RX0, TX0, 12, "BorrowedLuck$Coast", tyX0, rfl, by decide, uw_X0, Or.inl rfl, Or.inr ⟨"BorrowedLuck", by decide +kernel⟩, tyX0_ok, nmX0, rfl, by decide +kernel⟩
theorem dX6_passDays_138 : decode cX6_passDays 138 = .ok (.iinc 4 1, 3) := by decide +kernel
theorem dX6_passDays_141 : decode cX6_passDays 141 = .ok (.goto (-136), 3) := by decide +kernel
theorem dX6_passDays_0 : decode cX6_passDays 0 = .ok (.iconst 0, 1) := by decide +kernel
theorem dX6_passDays_1 : decode cX6_passDays 1 = .ok (.istore_n 3, 1) := by decide +kernel
theorem dX6_passDays_2 : decode cX6_passDays 2 = .ok (.iconst 0, 1) := by decide +kernel
theorem dX6_passDays_3 : decode cX6_passDays 3 = .ok (.istore 4, 2) := by decide +kernel
theorem dX6_passDays_144 : decode cX6_passDays 144 = .ok (.iload_n 3, 1) := by decide +kernel
theorem dX6_passDays_145 : decode cX6_passDays 145 = .ok (.ireturn, 1) := by decide +kernel
abbrev mX5_remember : Ym := (yX5_remember, cX5_remember, 3, none)
theorem dX5_remember_0 : decode cX5_remember 0 = .ok (.aload_n 0, 1) := by decide +kernel
theorem dX5_remember_1 : decode cX5_remember 1 = .ok (.aload_n 0, 1) := by decide +kernel
theorem dX5_remember_2 : decode cX5_remember 2 = .ok (.getfield 18, 3) := by decide +kernel
theorem dX5_remember_5 : decode cX5_remember 5 = .ok (.iconst 1, 1) := by decide +kernel
theorem dX5_remember_6 : decode cX5_remember 6 = .ok (.iadd, 1) := by decide +kernel
theorem dX5_remember_7 : decode cX5_remember 7 = .ok (.bipush 12, 2) := by decide +kernel
theorem dX5_remember_9 : decode cX5_remember 9 = .ok (.irem, 1) := by decide +kernel
theorem dX5_remember_10 : decode cX5_remember 10 = .ok (.putfield 18, 3) := by decide +kernel
theorem fp_X5_18_4 : zFp RX5 18 4 2 .int := ⟨RX5, TX5, 3, "BorrowedLuck$Memory", tyX5, rfl, by decide, uw_X5, Or.inl rfl, Or.inl wi_353, tyX5_ok, nmX5, rfl, by decide +kernel⟩
theorem dX5_remember_13 : decode cX5_remember 13 = .ok (.aload_n 0, 1) := by decide +kernel
theorem dX5_remember_14 : decode cX5_remember 14 = .ok (.getfield 18, 3) := by decide +kernel
theorem dX5_remember_17 : decode cX5_remember 17 = .ok (.ifCond .lt 24, 3) := by decide +kernel
theorem dX5_remember_20 : decode cX5_remember 20 = .ok (.aload_n 0, 1) := by decide +kernel
theorem dX5_remember_21 : decode cX5_remember 21 = .ok (.getfield 18, 3) := by decide +kernel
theorem dX5_remember_24 : decode cX5_remember 24 = .ok (.bipush 12, 2) := by decide +kernel
theorem dX5_remember_26 : decode cX5_remember 26 = .ok (.if_icmp .ge 15, 3) := by decide +kernel
theorem dX5_remember_29 : decode cX5_remember 29 = .ok (.aload_n 0, 1) := by decide +kernel
theorem dX5_remember_30 : decode cX5_remember 30 = .ok (.getfield 11, 3) := by decide +kernel
theorem dX5_remember_33 : decode cX5_remember 33 = .ok (.aload_n 0, 1) := by decide +kernel
theorem dX5_remember_34 : decode cX5_remember 34 = .ok (.getfield 18, 3) := by decide +kernel
theorem dX5_remember_37 : decode cX5_remember 37 = .ok (.aaload, 1) := by decide +kernel
theorem dX5_remember_38 : decode cX5_remember 38 = .ok (.goto 4, 3) := by decide +kernel
theorem dX5_remember_42 : decode cX5_remember 42 = .ok (.astore_n 2, 1) := by decide +kernel
theorem dX5_remember_43 : decode cX5_remember 43 = .ok (.aload_n 2, 1) := by decide +kernel
theorem dX5_remember_44 : decode cX5_remember 44 = .ok (.ifnull 23, 3) := by decide +kernel
theorem dX5_remember_47 : decode cX5_remember 47 = .ok (.aload_n 2, 1) := by decide +kernel
theorem dX5_remember_48 : decode cX5_remember 48 = .ok (.aload_n 1, 1) := by decide +kernel
theorem dX5_remember_49 : decode cX5_remember 49 = .ok (.invokevirtual 22, 3) := by decide +kernel
theorem wi_502 : Cond.methodLink RX5 22 yX0_copyFrom ∈ WA := zin 502 (by decide +kernel) (by decide +kernel)
theorem mv_X5_22 : zMv RX5 22 RX0 mX0_copyFrom 1 := ⟨⟨wi_502, wi_102, wi_505, by decide, by decide +kernel⟩, wi_503, wi_504⟩
theorem dX5_remember_52 : decode cX5_remember 52 = .ok (.aload_n 0, 1) := by decide +kernel
theorem dX5_remember_53 : decode cX5_remember 53 = .ok (.bipush 12, 2) := by decide +kernel
theorem dX5_remember_55 : decode cX5_remember 55 = .ok (.aload_n 0, 1) := by decide +kernel
theorem dX5_remember_56 : decode cX5_remember 56 = .ok (.getfield 26, 3) := by decide +kernel
theorem dX5_remember_59 : decode cX5_remember 59 = .ok (.iconst 1, 1) := by decide +kernel
theorem dX5_remember_60 : decode cX5_remember 60 = .ok (.iadd, 1) := by decide +kernel
theorem dX5_remember_61 : decode cX5_remember 61 = .ok (.invokestatic 29, 3) := by decide +kernel
theorem wi_916 : Cond.methodLink RX5 29 yJ9_min_7cf53 ∈ WA := zin 916 (by decide +kernel) (by decide +kernel)
theorem ms_X5_29 : zMs RX5 29 mJ9_min_7cf53 2 := ⟨⟨wi_916, wi_112, wi_569, by decide, by decide +kernel⟩, wi_568⟩
theorem dX5_remember_64 : decode cX5_remember 64 = .ok (.putfield 26, 3) := by decide +kernel
theorem fp_X5_26_4 : zFp RX5 26 4 1 .int := ⟨RX5, TX5, 3, "BorrowedLuck$Memory", tyX5, rfl, by decide, uw_X5, Or.inl rfl, Or.inl wi_351, tyX5_ok, nmX5, rfl, by decide +kernel⟩
theorem dX5_remember_67 : decode cX5_remember 67 = .ok (.return_, 1) := by decide +kernel
abbrev mX9_days : Ym := (yX9_days, cX9_days, 2, some .int)
theorem dX9_days_0 : decode cX9_days 0 = .ok (.iload_n 1, 1) := by decide +kernel
theorem dX9_days_1 : decode cX9_days 1 = .ok (.iconst 1, 1) := by decide +kernel
theorem dX9_days_2 : decode cX9_days 2 = .ok (.if_icmp .lt 9, 3) := by decide +kernel
theorem dX9_days_5 : decode cX9_days 5 = .ok (.iload_n 1, 1) := by decide +kernel
theorem dX9_days_6 : decode cX9_days 6 = .ok (.bipush 60, 2) := by decide +kernel
theorem dX9_days_8 : decode cX9_days 8 = .ok (.if_icmp .le 13, 3) := by decide +kernel
theorem dX9_days_21 : decode cX9_days 21 = .ok (.aload_n 0, 1) := by decide +kernel
theorem dX9_days_22 : decode cX9_days 22 = .ok (.getfield 76, 3) := by decide +kernel
theorem dX9_days_25 : decode cX9_days 25 = .ok (.aload_n 0, 1) := by decide +kernel
theorem dX9_days_26 : decode cX9_days 26 = .ok (.getfield 19, 3) := by decide +kernel
theorem dX9_days_29 : decode cX9_days 29 = .ok (.invokevirtual 189, 3) := by decide +kernel
theorem wi_912 : Cond.methodLink RX9 189 yX5_remember ∈ WA := zin 912 (by decide +kernel) (by decide +kernel)
theorem wi_915 : Cond.code yX5_remember cX5_remember 3 (none) ∈ WA := zin 915 (by decide +kernel) (by decide +kernel)
theorem wi_913 : Cond.instanceMethod yX5_remember ∈ WA := zin 913 (by decide +kernel) (by decide +kernel)
theorem wi_914 : Cond.selects RX5 yX5_remember yX5_remember ∈ WA := zin 914 (by decide +kernel) (by decide +kernel)
theorem mv_X9_189 : zMv RX9 189 RX5 mX5_remember 1 := ⟨⟨wi_912, wi_109, wi_915, by decide, by decide +kernel⟩, wi_913, wi_914⟩
theorem dX9_days_32 : decode cX9_days 32 = .ok (.aload_n 0, 1) := by decide +kernel
theorem dX9_days_33 : decode cX9_days 33 = .ok (.getfield 32, 3) := by decide +kernel
theorem dX9_days_36 : decode cX9_days 36 = .ok (.aload_n 0, 1) := by decide +kernel
theorem dX9_days_37 : decode cX9_days 37 = .ok (.getfield 19, 3) := by decide +kernel
theorem dX9_days_40 : decode cX9_days 40 = .ok (.iload_n 1, 1) := by decide +kernel
theorem dX9_days_41 : decode cX9_days 41 = .ok (.invokevirtual 226, 3) := by decide +kernel
theorem wi_988 : Cond.methodLink RX9 226 yX6_passDays ∈ WA := zin 988 (by decide +kernel) (by decide +kernel)
theorem wi_991 : Cond.code yX6_passDays cX6_passDays 7 (some .int) ∈ WA := zin 991 (by decide +kernel) (by decide +kernel)
theorem wi_989 : Cond.instanceMethod yX6_passDays ∈ WA := zin 989 (by decide +kernel) (by decide +kernel)
theorem wi_990 : Cond.selects RX6 yX6_passDays yX6_passDays ∈ WA := zin 990 (by decide +kernel) (by decide +kernel)
theorem mv_X9_226 : zMv RX9 226 RX6 mX6_passDays 2 := ⟨⟨wi_988, wi_103, wi_991, by decide, by decide +kernel⟩, wi_989, wi_990⟩
theorem dX9_days_44 : decode cX9_days 44 = .ok (.ireturn, 1) := by decide +kernel
theorem th_X9_103_224_107 : zTi RX9 103 224 107 "java/lang/IllegalArgumentException" "they are 1 to 60" ["java/lang/RuntimeException", "java/lang/Exception"] := ⟨by decide +kernel, by decide +kernel, wi_673, wi_116, zSR_mem (by decide +kernel), ta_X9_107, by decide +kernel, by decide +kernel, by decide⟩
theorem dX9_days_11 : decode cX9_days 11 = .ok (.new 103, 3) := by decide +kernel
theorem dX9_days_14 : decode cX9_days 14 = .ok (.dup, 1) := by decide +kernel
theorem dX9_days_15 : decode cX9_days 15 = .ok (.ldc 224, 2) := by decide +kernel
theorem dX9_days_17 : decode cX9_days 17 = .ok (.invokespecial 107, 3) := by decide +kernel
theorem dX9_days_20 : decode cX9_days 20 = .ok (.athrow, 1) := by decide +kernel
abbrev mX9_trial : Ym := (yX9_trial, cX9_trial, 3, some .int)
theorem dX9_trial_0 : decode cX9_trial 0 = .ok (.iload_n 1, 1) := by decide +kernel
theorem dX9_trial_1 : decode cX9_trial 1 = .ok (.invokestatic 321, 3) := by decide +kernel
theorem wi_1226 : Cond.methodLink RX9 321 yX9_needTrialDays ∈ WA := zin 1226 (by decide +kernel) (by decide +kernel)
theorem wi_1228 : Cond.code yX9_needTrialDays cX9_needTrialDays 1 (none) ∈ WA := zin 1228 (by decide +kernel) (by decide +kernel)
theorem wi_1227 : Cond.static yX9_needTrialDays ∈ WA := zin 1227 (by decide +kernel) (by decide +kernel)
theorem ms_X9_321 : zMs RX9 321 mX9_needTrialDays 1 := ⟨⟨wi_1226, wi_100, wi_1228, by decide, by decide +kernel⟩, wi_1227⟩
theorem dX9_trial_4 : decode cX9_trial 4 = .ok (.aload_n 0, 1) := by decide +kernel
theorem dX9_trial_5 : decode cX9_trial 5 = .ok (.getfield 23, 3) := by decide +kernel
theorem dX9_trial_8 : decode cX9_trial 8 = .ok (.aload_n 0, 1) := by decide +kernel
theorem dX9_trial_9 : decode cX9_trial 9 = .ok (.getfield 19, 3) := by decide +kernel
theorem dX9_trial_12 : decode cX9_trial 12 = .ok (.invokevirtual 91, 3) := by decide +kernel
theorem dX9_trial_15 : decode cX9_trial 15 = .ok (.aload_n 0, 1) := by decide +kernel
theorem dX9_trial_16 : decode cX9_trial 16 = .ok (.getfield 32, 3) := by decide +kernel
theorem dX9_trial_19 : decode cX9_trial 19 = .ok (.aload_n 0, 1) := by decide +kernel
theorem dX9_trial_20 : decode cX9_trial 20 = .ok (.getfield 23, 3) := by decide +kernel
theorem dX9_trial_23 : decode cX9_trial 23 = .ok (.iload_n 1, 1) := by decide +kernel
theorem dX9_trial_24 : decode cX9_trial 24 = .ok (.invokevirtual 226, 3) := by decide +kernel
theorem dX9_trial_27 : decode cX9_trial 27 = .ok (.pop, 1) := by decide +kernel
theorem dX9_trial_28 : decode cX9_trial 28 = .ok (.iload_n 2, 1) := by decide +kernel
theorem dX9_trial_29 : decode cX9_trial 29 = .ok (.ifCond .eq 16, 3) := by decide +kernel
theorem dX9_trial_45 : decode cX9_trial 45 = .ok (.aload_n 0, 1) := by decide +kernel
theorem dX9_trial_46 : decode cX9_trial 46 = .ok (.getfield 23, 3) := by decide +kernel
theorem dX9_trial_49 : decode cX9_trial 49 = .ok (.invokevirtual 324, 3) := by decide +kernel
theorem dX9_trial_52 : decode cX9_trial 52 = .ok (.ireturn, 1) := by decide +kernel
theorem dX9_trial_32 : decode cX9_trial 32 = .ok (.aload_n 0, 1) := by decide +kernel
theorem dX9_trial_33 : decode cX9_trial 33 = .ok (.getfield 23, 3) := by decide +kernel
theorem dX9_trial_36 : decode cX9_trial 36 = .ok (.bipush 7, 2) := by decide +kernel
theorem dX9_trial_38 : decode cX9_trial 38 = .ok (.iconst 1, 1) := by decide +kernel
theorem dX9_trial_39 : decode cX9_trial 39 = .ok (.invokevirtual 144, 3) := by decide +kernel
theorem dX9_trial_42 : decode cX9_trial 42 = .ok (.goto 10, 3) := by decide +kernel
abbrev mX9_span : Ym := (yX9_span, cX9_span, 6, some .int)
theorem dX9_span_0 : decode cX9_span 0 = .ok (.iload_n 1, 1) := by decide +kernel
theorem dX9_span_1 : decode cX9_span 1 = .ok (.invokestatic 321, 3) := by decide +kernel
theorem dX9_span_4 : decode cX9_span 4 = .ok (.iconst (-1), 1) := by decide +kernel
theorem dX9_span_5 : decode cX9_span 5 = .ok (.istore_n 3, 1) := by decide +kernel
theorem dX9_span_6 : decode cX9_span 6 = .ok (.iconst 1, 1) := by decide +kernel
theorem dX9_span_7 : decode cX9_span 7 = .ok (.istore 4, 2) := by decide +kernel
theorem dX9_span_9 : decode cX9_span 9 = .ok (.iload 4, 2) := by decide +kernel
theorem dX9_span_11 : decode cX9_span 11 = .ok (.bipush 6, 2) := by decide +kernel
theorem dX9_span_13 : decode cX9_span 13 = .ok (.if_icmp .gt 78, 3) := by decide +kernel
theorem dX9_span_16 : decode cX9_span 16 = .ok (.aload_n 0, 1) := by decide +kernel
theorem dX9_span_17 : decode cX9_span 17 = .ok (.getfield 23, 3) := by decide +kernel
theorem dX9_span_20 : decode cX9_span 20 = .ok (.aload_n 0, 1) := by decide +kernel
theorem dX9_span_21 : decode cX9_span 21 = .ok (.getfield 19, 3) := by decide +kernel
theorem dX9_span_24 : decode cX9_span 24 = .ok (.invokevirtual 91, 3) := by decide +kernel
theorem dX9_span_27 : decode cX9_span 27 = .ok (.aload_n 0, 1) := by decide +kernel
theorem dX9_span_28 : decode cX9_span 28 = .ok (.getfield 23, 3) := by decide +kernel
theorem dX9_span_31 : decode cX9_span 31 = .ok (.iload 4, 2) := by decide +kernel
theorem dX9_span_33 : decode cX9_span 33 = .ok (.putfield 327, 3) := by decide +kernel
theorem dX9_span_36 : decode cX9_span 36 = .ok (.aload_n 0, 1) := by decide +kernel
theorem dX9_span_37 : decode cX9_span 37 = .ok (.getfield 32, 3) := by decide +kernel
theorem dX9_span_40 : decode cX9_span 40 = .ok (.aload_n 0, 1) := by decide +kernel
theorem dX9_span_41 : decode cX9_span 41 = .ok (.getfield 23, 3) := by decide +kernel
theorem dX9_span_44 : decode cX9_span 44 = .ok (.iload_n 1, 1) := by decide +kernel
theorem dX9_span_45 : decode cX9_span 45 = .ok (.invokevirtual 226, 3) := by decide +kernel
theorem dX9_span_48 : decode cX9_span 48 = .ok (.pop, 1) := by decide +kernel
theorem dX9_span_49 : decode cX9_span 49 = .ok (.aload_n 0, 1) := by decide +kernel
theorem dX9_span_50 : decode cX9_span 50 = .ok (.getfield 23, 3) := by decide +kernel
theorem dX9_span_53 : decode cX9_span 53 = .ok (.invokevirtual 324, 3) := by decide +kernel
theorem dX9_span_56 : decode cX9_span 56 = .ok (.istore 5, 2) := by decide +kernel
theorem dX9_span_58 : decode cX9_span 58 = .ok (.iload_n 3, 1) := by decide +kernel
theorem dX9_span_59 : decode cX9_span 59 = .ok (.iconst (-1), 1) := by decide +kernel
theorem dX9_span_60 : decode cX9_span 60 = .ok (.if_icmp .eq 22, 3) := by decide +kernel
theorem dX9_span_82 : decode cX9_span 82 = .ok (.iload 5, 2) := by decide +kernel
theorem dX9_span_84 : decode cX9_span 84 = .ok (.istore_n 3, 1) := by decide +kernel
theorem dX9_span_85 : decode cX9_span 85 = .ok (.iinc 4 1, 3) := by decide +kernel
theorem dX9_span_88 : decode cX9_span 88 = .ok (.goto (-79), 3) := by decide +kernel
theorem dX9_span_63 : decode cX9_span 63 = .ok (.iload_n 2, 1) := by decide +kernel
theorem dX9_span_64 : decode cX9_span 64 = .ok (.ifCond .eq 12, 3) := by decide +kernel
theorem dX9_span_76 : decode cX9_span 76 = .ok (.iload 5, 2) := by decide +kernel
theorem dX9_span_78 : decode cX9_span 78 = .ok (.iload_n 3, 1) := by decide +kernel
theorem dX9_span_79 : decode cX9_span 79 = .ok (.if_icmp .ge 6, 3) := by decide +kernel
theorem dX9_span_91 : decode cX9_span 91 = .ok (.iload_n 3, 1) := by decide +kernel
theorem dX9_span_92 : decode cX9_span 92 = .ok (.ireturn, 1) := by decide +kernel
theorem dX9_span_67 : decode cX9_span 67 = .ok (.iload 5, 2) := by decide +kernel
theorem dX9_span_69 : decode cX9_span 69 = .ok (.iload_n 3, 1) := by decide +kernel
theorem dX9_span_70 : decode cX9_span 70 = .ok (.if_icmp .le 15, 3) := by decide +kernel
theorem zup_zup (I : Hi) (a j : Nat) (x y : Int32) : zup (zup I a j x) a j y = zup I a j y := by
  funext k i
  simp only [zup, zset]
  by_cases h : k = a
  · simp only [h, if_true, upd]
    split <;> rfl
  · simp [h]
theorem zup_self (I : Hi) (a j : Nat) : zup I a j (I a j) = I := by
  funext k i
  simp only [zup, zset]
  by_cases h : k = a
  · subst h
    simp only [if_true, upd]
    split
    · rename_i e; rw [e]
    · rfl
  · simp [h]
theorem in60 {x : Int32} (h1 : ¬ x < 0) (h2 : x ≤ nI 60) : ∃ N, N ≤ 60 ∧ x = nI N := by
  obtain ⟨k, hk, rfl⟩ := nI_of h1
  exact ⟨k, (nI_leI hk (by decide)).mp h2, rfl⟩
theorem Rn.gen {G : Gx} {Ga : List Shp} {Y : Ym} {kx : Kx} {d b pc : Nat} {ls : List (Option Value)} {st : List Value} {I : Hi} (P : Hi → Prop) (hP : P I) (k : ∀ H, P H → Rn G Ga Y kx d b pc ls st H) : Rn G Ga Y kx d b pc ls st I := k I hP
section ClsD
variable (G : Gx) (d : Nat) (I : Hi)
theorem lp_pass_3 {kx : Kx} {b : Nat} (h0 : I 3 0 = nI 0) (N : Nat) (hN : N ≤ 60) (k : ∀ x, Rn G GAM mX6_passDays kx d b 144 [some (.ref 15), some (.ref 3), some (.int (nI N)), some (.int (nI 0)), some (.int (nI N)), none, none] [] (zup I 3 3 x)) : ∀ m i : Nat, i + m = N → ∀ x, Rn G GAM mX6_passDays kx d b 5 [some (.ref 15), some (.ref 3), some (.int (nI N)), some (.int (nI 0)), some (.int (nI i)), none, none] [] (zup I 3 3 x) := by
  intro m
  induction m with
  | zero =>
    intro i hi x
    obtain rfl : i = N := by omega
    refine Rn.iload dX6_passDays_5 rfl ?_
    refine Rn.iload_n dX6_passDays_7 rfl rfl ?_
    refine Rn.icmp_geN dX6_passDays_8 144 (fun _ => ?_) (fun h9 => by exfalso; omega)
    exact k x
  | succ m ih =>
    intro i hi x
    refine Rn.iload dX6_passDays_5 rfl ?_
    refine Rn.iload_n dX6_passDays_7 rfl rfl ?_
    refine Rn.icmp_geN dX6_passDays_8 144 (fun h9 => by exfalso; omega) (fun _ => ?_)
    refine Rn.aload_n dX6_passDays_11 rfl rfl ?_
    refine Rn.getI dX6_passDays_12 fd_X6_59_0 (by first | rfl | exact gC0 (by assumption) | exact gL0 (by assumption)) rfl ?_
    refine Rn.topI (nI 0) h0 ?_
    refine Rn.if_le (tgt := 122) dX6_passDays_15 (by decide) (fun _ => ?_) (fun h9 => absurd h9 (by decide))
    refine Rn.aload_n dX6_passDays_122 rfl rfl ?_
    refine Rn.sipush (v := (nI 9999)) dX6_passDays_123 rfl ?_
    refine Rn.aload_n dX6_passDays_126 rfl rfl ?_
    refine Rn.getI dX6_passDays_127 fd_X6_83_0 (by first | rfl | exact gC0 (by assumption) | exact gL0 (by assumption)) rfl ?_
    refine Rn.iconst (v := (nI 1)) dX6_passDays_130 rfl ?_
    refine Rn.iadd dX6_passDays_131 ?_
    refine Rn.mmin dX6_passDays_132 ms_X6_37 (Nat.le_of_ble_eq_true rfl) ?_
    refine Rn.putI dX6_passDays_135 fp_X6_83_0 (by first | rfl | exact gC0 (by assumption) | exact gL0 (by assumption)) rfl ?_
    refine Rn.iincN dX6_passDays_138 rfl (by decide) ?_
    refine Rn.goto 5 dX6_passDays_141 (by decide) ?_
    exact Rn.hpp _ (zup_zup _ _ _ _ _) (ih (i + 1) (by omega) _)
theorem ct_pass_3 (h0 : I 3 0 = nI 0) (N : Nat) (hN : N ≤ 60) : Ct G GAM mX6_passDays d 0 [.ref 15, .ref 3, .int (nI N)] I (fun o K => o = .inl (some (.int (nI 0))) ∧ ∃ x, K = zup I 3 3 x) := by
  refine Ct.mk [some (.ref 15), some (.ref 3), some (.int (nI N)), none, none, none, none] ?_
  refine Rn.iconst (v := (nI 0)) dX6_passDays_0 rfl ?_
  refine Rn.istore_n dX6_passDays_1 rfl (by decide) ?_
  refine Rn.iconst (v := (nI 0)) dX6_passDays_2 rfl ?_
  refine Rn.istore dX6_passDays_3 (by decide) ?_
  refine Rn.hpp _ (zup_self I 3 3).symm (lp_pass_3 G d I h0 N hN (fun x => ?_) N 0 (by omega) _)
  refine Rn.iload_n dX6_passDays_144 rfl rfl ?_
  exact Rn.iret dX6_passDays_145 rfl (⟨rfl, x, rfl⟩)
theorem lp_pass_7 {kx : Kx} {b : Nat} (h0 : I 7 0 = nI 0) (N : Nat) (hN : N ≤ 60) (k : ∀ x, Rn G GAM mX6_passDays kx d b 144 [some (.ref 15), some (.ref 7), some (.int (nI N)), some (.int (nI 0)), some (.int (nI N)), none, none] [] (zup I 7 3 x)) : ∀ m i : Nat, i + m = N → ∀ x, Rn G GAM mX6_passDays kx d b 5 [some (.ref 15), some (.ref 7), some (.int (nI N)), some (.int (nI 0)), some (.int (nI i)), none, none] [] (zup I 7 3 x) := by
  intro m
  induction m with
  | zero =>
    intro i hi x
    obtain rfl : i = N := by omega
    refine Rn.iload dX6_passDays_5 rfl ?_
    refine Rn.iload_n dX6_passDays_7 rfl rfl ?_
    refine Rn.icmp_geN dX6_passDays_8 144 (fun _ => ?_) (fun h9 => by exfalso; omega)
    exact k x
  | succ m ih =>
    intro i hi x
    refine Rn.iload dX6_passDays_5 rfl ?_
    refine Rn.iload_n dX6_passDays_7 rfl rfl ?_
    refine Rn.icmp_geN dX6_passDays_8 144 (fun h9 => by exfalso; omega) (fun _ => ?_)
    refine Rn.aload_n dX6_passDays_11 rfl rfl ?_
    refine Rn.getI dX6_passDays_12 fd_X6_59_0 (by first | rfl | exact gC0 (by assumption) | exact gL0 (by assumption)) rfl ?_
    refine Rn.topI (nI 0) h0 ?_
    refine Rn.if_le (tgt := 122) dX6_passDays_15 (by decide) (fun _ => ?_) (fun h9 => absurd h9 (by decide))
    refine Rn.aload_n dX6_passDays_122 rfl rfl ?_
    refine Rn.sipush (v := (nI 9999)) dX6_passDays_123 rfl ?_
    refine Rn.aload_n dX6_passDays_126 rfl rfl ?_
    refine Rn.getI dX6_passDays_127 fd_X6_83_0 (by first | rfl | exact gC0 (by assumption) | exact gL0 (by assumption)) rfl ?_
    refine Rn.iconst (v := (nI 1)) dX6_passDays_130 rfl ?_
    refine Rn.iadd dX6_passDays_131 ?_
    refine Rn.mmin dX6_passDays_132 ms_X6_37 (Nat.le_of_ble_eq_true rfl) ?_
    refine Rn.putI dX6_passDays_135 fp_X6_83_0 (by first | rfl | exact gC0 (by assumption) | exact gL0 (by assumption)) rfl ?_
    refine Rn.iincN dX6_passDays_138 rfl (by decide) ?_
    refine Rn.goto 5 dX6_passDays_141 (by decide) ?_
    exact Rn.hpp _ (zup_zup _ _ _ _ _) (ih (i + 1) (by omega) _)
theorem ct_pass_7 (h0 : I 7 0 = nI 0) (N : Nat) (hN : N ≤ 60) : Ct G GAM mX6_passDays d 0 [.ref 15, .ref 7, .int (nI N)] I (fun o K => o = .inl (some (.int (nI 0))) ∧ ∃ x, K = zup I 7 3 x) := by
  refine Ct.mk [some (.ref 15), some (.ref 7), some (.int (nI N)), none, none, none, none] ?_
  refine Rn.iconst (v := (nI 0)) dX6_passDays_0 rfl ?_
  refine Rn.istore_n dX6_passDays_1 rfl (by decide) ?_
  refine Rn.iconst (v := (nI 0)) dX6_passDays_2 rfl ?_
  refine Rn.istore dX6_passDays_3 (by decide) ?_
  refine Rn.hpp _ (zup_self I 7 3).symm (lp_pass_7 G d I h0 N hN (fun x => ?_) N 0 (by omega) _)
  refine Rn.iload_n dX6_passDays_144 rfl rfl ?_
  exact Rn.iret dX6_passDays_145 rfl (⟨rfl, x, rfl⟩)
theorem ct_remember (h1 : I 44 1 = nI 0) (h2 : I 44 2 = nI 0) : Ct G GAM mX5_remember (d + 1) 0 [.ref 44, .ref 3] I (Rp none (zup (cpC (zup I 44 2 (nI 1)) 3 50) 44 1 (nI 1))) := by
  refine Ct.mk [some (.ref 44), some (.ref 3), none] ?_
  refine Rn.aload_n dX5_remember_0 rfl rfl ?_
  refine Rn.aload_n dX5_remember_1 rfl rfl ?_
  refine Rn.getI dX5_remember_2 fd_X5_18_4 (by first | rfl | exact gC0 (by assumption) | exact gL0 (by assumption)) rfl ?_
  refine Rn.topI (nI 0) h2 ?_
  refine Rn.iconst (v := (nI 1)) dX5_remember_5 rfl ?_
  refine Rn.iadd dX5_remember_6 ?_
  refine Rn.bipush (v := (nI 12)) dX5_remember_7 rfl ?_
  refine Rn.irem dX5_remember_9 (by decide) ?_
  refine Rn.topI (nI 1) (by decide) ?_
  refine Rn.putI dX5_remember_10 fp_X5_18_4 (by first | rfl | exact gC0 (by assumption) | exact gL0 (by assumption)) rfl ?_
  refine Rn.aload_n dX5_remember_13 rfl rfl ?_
  refine Rn.getI dX5_remember_14 fd_X5_18_4 (by first | rfl | exact gC0 (by assumption) | exact gL0 (by assumption)) rfl ?_
  refine Rn.topI (nI 1) rfl ?_
  refine Rn.if_lt (tgt := 41) dX5_remember_17 (by decide) (fun h9 => absurd h9 (by decide)) (fun _ => ?_)
  refine Rn.aload_n dX5_remember_20 rfl rfl ?_
  refine Rn.getI dX5_remember_21 fd_X5_18_4 (by first | rfl | exact gC0 (by assumption) | exact gL0 (by assumption)) rfl ?_
  refine Rn.topI (nI 1) rfl ?_
  refine Rn.bipush (v := (nI 12)) dX5_remember_24 rfl ?_
  refine Rn.icmp_ge (tgt := 41) dX5_remember_26 (by decide) (fun h9 => absurd h9 (by decide)) (fun _ => ?_)
  refine Rn.aload_n dX5_remember_29 rfl rfl ?_
  refine Rn.getR dX5_remember_30 fd_X5_11_4 (by first | rfl | exact gC0 (by assumption) | exact gL0 (by assumption)) rfl ?_
  refine Rn.aload_n dX5_remember_33 rfl rfl ?_
  refine Rn.getI dX5_remember_34 fd_X5_18_4 (by first | rfl | exact gC0 (by assumption) | exact gL0 (by assumption)) rfl ?_
  refine Rn.topI (nI 1) rfl ?_
  refine Rn.aald (a := 45) (n := 12) (f := fM 12) (r := 50) dX5_remember_37 rfl (vp_in_nI (by decide) (by decide)) (by decide) ?_
  refine Rn.goto 42 dX5_remember_38 (by decide) ?_
  refine Rn.astore_n dX5_remember_42 rfl (by decide) ?_
  refine Rn.aload_n dX5_remember_43 rfl rfl ?_
  refine Rn.ifnull dX5_remember_44 ?_
  refine Rn.aload_n dX5_remember_47 rfl rfl ?_
  refine Rn.aload_n dX5_remember_48 rfl rfl ?_
  refine Rn.callVp (As := [_]) dX5_remember_49 mv_X5_22 (by first | rfl | exact gC0 (by assumption) | exact gL0 (by assumption)) rfl rfl rfl (Nat.le_of_ble_eq_true rfl) (ct_copy_3_50 G _ _) ?_
  refine Rn.aload_n dX5_remember_52 rfl rfl ?_
  refine Rn.bipush (v := (nI 12)) dX5_remember_53 rfl ?_
  refine Rn.aload_n dX5_remember_55 rfl rfl ?_
  refine Rn.getI dX5_remember_56 fd_X5_26_4 (by first | rfl | exact gC0 (by assumption) | exact gL0 (by assumption)) rfl ?_
  refine Rn.topI (nI 0) h1 ?_
  refine Rn.iconst (v := (nI 1)) dX5_remember_59 rfl ?_
  refine Rn.iadd dX5_remember_60 ?_
  refine Rn.mmin dX5_remember_61 ms_X5_29 (Nat.le_of_ble_eq_true rfl) ?_
  refine Rn.topI (nI 1) (by decide) ?_
  refine Rn.putI dX5_remember_64 fp_X5_26_4 (by first | rfl | exact gC0 (by assumption) | exact gL0 (by assumption)) rfl ?_
  exact Rn.vret dX5_remember_67 rfl (⟨rfl, rfl⟩)
theorem ct_X9_days0 (F : FC I) (x : Int32) (h1 : ¬ x < nI 1) (h2 : x ≤ nI 60) : Ct G GAM mX9_days (d + 2) 1 [.ref 0, .int x] I (fun o K => o = .inl (some (.int (nI 0))) ∧ ∀ c, 94 ≤ c → K c = I c) := by
  obtain ⟨N, hN, rfl⟩ := in60 (x := x) (fun q => h1 (Int32.lt_trans q (by decide))) h2
  obtain ⟨h3_0, h3_1, h3_2, h3_3, h3_4, h3_5, h3_6, h3_7, h3_8, h0_11, h0_12, h1_1, h16_0, h44_1, h44_2⟩ := F
  refine Ct.mk [some (.ref 0), some (.int (nI N))] ?_
  refine Rn.iload_n dX9_days_0 rfl rfl ?_
  refine Rn.iconst (v := (nI 1)) dX9_days_1 rfl ?_
  refine Rn.icmp_lt (tgt := 11) dX9_days_2 (by decide) (fun h9 => by exfalso; exact h1 h9) (fun _ => ?_)
  refine Rn.iload_n dX9_days_5 rfl rfl ?_
  refine Rn.bipush (v := (nI 60)) dX9_days_6 rfl ?_
  refine Rn.icmp_le (tgt := 21) dX9_days_8 (by decide) (fun _ => ?_) (fun h9 => by exfalso; exact h9 h2)
  refine Rn.aload_n dX9_days_21 rfl rfl ?_
  refine Rn.getR dX9_days_22 fd_X9_76_8 (by first | rfl | exact gC0 (by assumption) | exact gL0 (by assumption)) rfl ?_
  refine Rn.aload_n dX9_days_25 rfl rfl ?_
  refine Rn.getR dX9_days_26 fd_X9_19_8 (by first | rfl | exact gC0 (by assumption) | exact gL0 (by assumption)) rfl ?_
  refine Rn.callVp (As := [_]) dX9_days_29 mv_X9_189 (by first | rfl | exact gC0 (by assumption) | exact gL0 (by assumption)) rfl rfl rfl (Nat.le_of_ble_eq_true rfl) (ct_remember G _ _ (by exact h44_1) (by exact h44_2)) ?_
  refine Rn.aload_n dX9_days_32 rfl rfl ?_
  refine Rn.getR dX9_days_33 fd_X9_32_8 (by first | rfl | exact gC0 (by assumption) | exact gL0 (by assumption)) rfl ?_
  refine Rn.aload_n dX9_days_36 rfl rfl ?_
  refine Rn.getR dX9_days_37 fd_X9_19_8 (by first | rfl | exact gC0 (by assumption) | exact gL0 (by assumption)) rfl ?_
  refine Rn.iload_n dX9_days_40 rfl rfl ?_
  refine Rn.callV (As := [_, _]) dX9_days_41 mv_X9_226 (by first | rfl | exact gC0 (by assumption) | exact gL0 (by assumption)) rfl rfl rfl (Nat.le_of_ble_eq_true rfl) (ct_pass_3 G _ _ (by exact h3_0) N hN) (fun E J h => nomatch h.1) (fun v J1 q1 => ?_)
  obtain ⟨e1, y, e2⟩ := q1
  cases e1
  subst e2
  exact Rn.iret dX9_days_44 rfl (⟨rfl, fun c hc => by rw [zup_ne _ _ (by omega), zup_ne _ _ (by omega), cpC_ne _ (by omega), zup_ne _ _ (by omega)]⟩)
theorem ct_X9_days1 (x : Int32) (h : ¬ (¬ x < nI 1 ∧ x ≤ nI 60)) : Ct G GAM mX9_days (d + 2) 1 [.ref 0, .int x] I (Rx "java/lang/IllegalArgumentException" I) := by
  refine Ct.mk [some (.ref 0), some (.int x)] ?_
  refine Rn.iload_n dX9_days_0 rfl rfl ?_
  refine Rn.iconst (v := (nI 1)) dX9_days_1 rfl ?_
  refine Rn.icmp_lt (tgt := 11) dX9_days_2 (by decide) (fun h1 => ?_) (fun h1 => ?_)
  · exact Rn.throwT th_X9_103_224_107 dX9_days_11 dX9_days_14 dX9_days_15 dX9_days_17 dX9_days_20 (⟨rfl, rfl⟩)
  · refine Rn.iload_n dX9_days_5 rfl rfl ?_
    refine Rn.bipush (v := (nI 60)) dX9_days_6 rfl ?_
    refine Rn.icmp_le (tgt := 21) dX9_days_8 (by decide) (fun h9 => by exfalso; exact h ⟨h1, h9⟩) (fun _ => ?_)
    exact Rn.throwT th_X9_103_224_107 dX9_days_11 dX9_days_14 dX9_days_15 dX9_days_17 dX9_days_20 (⟨rfl, rfl⟩)
theorem ct_X9_trial0 (F : FC I) (x y : Int32) (h1 : ¬ x < 0) (h2 : x ≤ nI 60) : Ct G GAM mX9_trial (d + 1) 1 [.ref 0, .int x, .int y] I (fun o K => o = .inl (some (.int (nI 0))) ∧ ∀ c, 94 ≤ c → K c = I c) := by
  obtain ⟨N, hN, rfl⟩ := in60 h1 h2
  obtain ⟨h3_0, h3_1, h3_2, h3_3, h3_4, h3_5, h3_6, h3_7, h3_8, h0_11, h0_12, h1_1, h16_0, h44_1, h44_2⟩ := F
  refine Ct.mk [some (.ref 0), some (.int (nI N)), some (.int y)] ?_
  refine Rn.iload_n dX9_trial_0 rfl rfl ?_
  refine Rn.callSq (b := 0) (mc := 1) (As := [_]) dX9_trial_1 ms_X9_321 rfl rfl (Nat.le_of_ble_eq_true rfl) (ct_needTrial0 G _ _ _ h1 h2) ?_
  refine Rn.aload_n dX9_trial_4 rfl rfl ?_
  refine Rn.getR dX9_trial_5 fd_X9_23_8 (by first | rfl | exact gC0 (by assumption) | exact gL0 (by assumption)) rfl ?_
  refine Rn.aload_n dX9_trial_8 rfl rfl ?_
  refine Rn.getR dX9_trial_9 fd_X9_19_8 (by first | rfl | exact gC0 (by assumption) | exact gL0 (by assumption)) rfl ?_
  refine Rn.callVp (As := [_]) dX9_trial_12 mv_X9_91 (by first | rfl | exact gC0 (by assumption) | exact gL0 (by assumption)) rfl rfl rfl (Nat.le_of_ble_eq_true rfl) (ct_copy_3_7 G _ _) ?_
  refine Rn.aload_n dX9_trial_15 rfl rfl ?_
  refine Rn.getR dX9_trial_16 fd_X9_32_8 (by first | rfl | exact gC0 (by assumption) | exact gL0 (by assumption)) rfl ?_
  refine Rn.aload_n dX9_trial_19 rfl rfl ?_
  refine Rn.getR dX9_trial_20 fd_X9_23_8 (by first | rfl | exact gC0 (by assumption) | exact gL0 (by assumption)) rfl ?_
  refine Rn.iload_n dX9_trial_23 rfl rfl ?_
  refine Rn.callV (As := [_, _]) dX9_trial_24 mv_X9_226 (by first | rfl | exact gC0 (by assumption) | exact gL0 (by assumption)) rfl rfl rfl (Nat.le_of_ble_eq_true rfl) (ct_pass_7 G _ _ (by exact h3_0) N hN) (fun E J h => nomatch h.1) (fun v J1 q1 => ?_)
  obtain ⟨e1, z, e2⟩ := q1
  cases e1
  subst e2
  refine Rn.pop dX9_trial_27 rfl ?_
  refine Rn.iload_n dX9_trial_28 rfl rfl ?_
  refine Rn.if_eq (tgt := 45) dX9_trial_29 (by decide) (fun h5 => ?_) (fun h5 => ?_)
  · refine Rn.aload_n dX9_trial_45 rfl rfl ?_
    refine Rn.getR dX9_trial_46 fd_X9_23_8 (by first | rfl | exact gC0 (by assumption) | exact gL0 (by assumption)) rfl ?_
    refine Rn.callVp (As := []) dX9_trial_49 mv_X9_324 (by first | rfl | exact gC0 (by assumption) | exact gL0 (by assumption)) rfl rfl rfl (Nat.le_of_ble_eq_true rfl) (ct_luckOfWomen_7 G _ _ (by exact h3_0)) ?_
    exact Rn.iret dX9_trial_52 rfl (⟨rfl, fun c hc => by rw [zup_ne _ _ (by omega), cpC_ne _ (by omega)]⟩)
  · refine Rn.aload_n dX9_trial_32 rfl rfl ?_
    refine Rn.getR dX9_trial_33 fd_X9_23_8 (by first | rfl | exact gC0 (by assumption) | exact gL0 (by assumption)) rfl ?_
    refine Rn.bipush (v := (nI 7)) dX9_trial_36 rfl ?_
    refine Rn.iconst (v := (nI 1)) dX9_trial_38 rfl ?_
    refine Rn.callVp (As := [_, _]) dX9_trial_39 mv_X9_144 (by first | rfl | exact gC0 (by assumption) | exact gL0 (by assumption)) rfl rfl rfl (Nat.le_of_ble_eq_true rfl) (ct_thingsWith_7 G _ _ (by exact h3_1) _ _) ?_
    refine Rn.goto 52 dX9_trial_42 (by decide) ?_
    exact Rn.iret dX9_trial_52 rfl (⟨rfl, fun c hc => by rw [zup_ne _ _ (by omega), cpC_ne _ (by omega)]⟩)
theorem ct_X9_trial1 (x y : Int32) (h : ¬ (¬ x < 0 ∧ x ≤ nI 60)) : Ct G GAM mX9_trial (d + 1) 1 [.ref 0, .int x, .int y] I (Rx "java/lang/IllegalArgumentException" I) := by
  refine Ct.mk [some (.ref 0), some (.int x), some (.int y)] ?_
  refine Rn.iload_n dX9_trial_0 rfl rfl ?_
  exact Rn.callSt (b := 0) (mc := 1) (As := [_]) dX9_trial_1 ms_X9_321 rfl rfl (Nat.le_of_ble_eq_true rfl) (ct_needTrial1 G _ _ _ h) (fun _ _ h => h) (fun _ _ h => nomatch h.1)
set_option maxHeartbeats 8000000 in
theorem ct_X9_span0_zero (F : FC I) (x y : Int32) (h1 : ¬ x < 0) (h2 : x ≤ nI 60) (hy : y = 0) : Ct G GAM mX9_span (d + 1) 1 [.ref 0, .int x, .int y] I (fun o K => o = .inl (some (.int (nI 0))) ∧ ∀ c, 94 ≤ c → K c = I c) := by
  obtain ⟨N, hN, rfl⟩ := in60 h1 h2
  obtain ⟨h3_0, h3_1, h3_2, h3_3, h3_4, h3_5, h3_6, h3_7, h3_8, h0_11, h0_12, h1_1, h16_0, h44_1, h44_2⟩ := F
  refine Ct.mk [some (.ref 0), some (.int (nI N)), some (.int y), none, none, none] ?_
  refine Rn.iload_n dX9_span_0 rfl rfl ?_
  refine Rn.callSq (b := 0) (mc := 1) (As := [_]) dX9_span_1 ms_X9_321 rfl rfl (Nat.le_of_ble_eq_true rfl) (ct_needTrial0 G _ _ _ h1 h2) ?_
  refine Rn.iconst (v := (-1)) dX9_span_4 rfl ?_
  refine Rn.istore_n dX9_span_5 rfl (by decide) ?_
  refine Rn.iconst (v := (nI 1)) dX9_span_6 rfl ?_
  refine Rn.istore dX9_span_7 (by decide) ?_
  refine Rn.iload dX9_span_9 rfl ?_
  refine Rn.bipush (v := (nI 6)) dX9_span_11 rfl ?_
  refine Rn.icmp_gt (tgt := 91) dX9_span_13 (by decide) (fun h9 => absurd h9 (by decide)) (fun _ => ?_)
  refine Rn.aload_n dX9_span_16 rfl rfl ?_
  refine Rn.getR dX9_span_17 fd_X9_23_8 (by first | rfl | exact gC0 (by assumption) | exact gL0 (by assumption)) rfl ?_
  refine Rn.aload_n dX9_span_20 rfl rfl ?_
  refine Rn.getR dX9_span_21 fd_X9_19_8 (by first | rfl | exact gC0 (by assumption) | exact gL0 (by assumption)) rfl ?_
  refine Rn.callVp (As := [_]) dX9_span_24 mv_X9_91 (by first | rfl | exact gC0 (by assumption) | exact gL0 (by assumption)) rfl rfl rfl (Nat.le_of_ble_eq_true rfl) (ct_copy_3_7 G _ _) ?_
  refine Rn.aload_n dX9_span_27 rfl rfl ?_
  refine Rn.getR dX9_span_28 fd_X9_23_8 (by first | rfl | exact gC0 (by assumption) | exact gL0 (by assumption)) rfl ?_
  refine Rn.iload dX9_span_31 rfl ?_
  refine Rn.putI dX9_span_33 fp_X9_327_0 (by first | rfl | exact gC0 (by assumption) | exact gL0 (by assumption)) rfl ?_
  refine Rn.aload_n dX9_span_36 rfl rfl ?_
  refine Rn.getR dX9_span_37 fd_X9_32_8 (by first | rfl | exact gC0 (by assumption) | exact gL0 (by assumption)) rfl ?_
  refine Rn.aload_n dX9_span_40 rfl rfl ?_
  refine Rn.getR dX9_span_41 fd_X9_23_8 (by first | rfl | exact gC0 (by assumption) | exact gL0 (by assumption)) rfl ?_
  refine Rn.iload_n dX9_span_44 rfl rfl ?_
  refine Rn.callV (As := [_, _]) dX9_span_45 mv_X9_226 (by first | rfl | exact gC0 (by assumption) | exact gL0 (by assumption)) rfl rfl rfl (Nat.le_of_ble_eq_true rfl) (ct_pass_7 G _ _ (by exact h3_0) N hN) (fun E J h => nomatch h.1) (fun v J1 q1 => ?_)
  obtain ⟨e1, z, e2⟩ := q1
  cases e1
  subst e2
  refine Rn.pop dX9_span_48 rfl ?_
  refine Rn.aload_n dX9_span_49 rfl rfl ?_
  refine Rn.getR dX9_span_50 fd_X9_23_8 (by first | rfl | exact gC0 (by assumption) | exact gL0 (by assumption)) rfl ?_
  refine Rn.callVp (As := []) dX9_span_53 mv_X9_324 (by first | rfl | exact gC0 (by assumption) | exact gL0 (by assumption)) rfl rfl rfl (Nat.le_of_ble_eq_true rfl) (ct_luckOfWomen_7 G _ _ (by exact h3_0)) ?_
  refine Rn.istore dX9_span_56 (by decide) ?_
  refine Rn.iload_n dX9_span_58 rfl rfl ?_
  refine Rn.iconst (v := (-1)) dX9_span_59 rfl ?_
  refine Rn.icmp_eq (tgt := 82) dX9_span_60 (by decide) (fun _ => ?_) (fun h9 => absurd h9 (by decide))
  refine Rn.iload dX9_span_82 rfl ?_
  refine Rn.istore_n dX9_span_84 rfl (by decide) ?_
  refine Rn.iincN dX9_span_85 rfl (by decide) ?_
  refine Rn.goto 9 dX9_span_88 (by decide) ?_
  refine Rn.gen (fun H => H 3 0 = nI 0 ∧ ∀ c, 94 ≤ c → H c = I c) ⟨by exact h3_0, fun c hc => by rw [zup_ne _ _ (by omega), zup_ne _ _ (by omega), cpC_ne _ (by omega)]⟩ (fun H0 hH => ?_)
  obtain ⟨ha0, hc0⟩ := hH
  refine Rn.lcl [some (.ref 0), some (.int (nI N)), some (.int y), some (.int (nI 0)), some (.int (nI 2)), some (.int (nI 0))] rfl ?_
  refine Rn.iload dX9_span_9 rfl ?_
  refine Rn.bipush (v := (nI 6)) dX9_span_11 rfl ?_
  refine Rn.icmp_gt (tgt := 91) dX9_span_13 (by decide) (fun h9 => absurd h9 (by decide)) (fun _ => ?_)
  refine Rn.aload_n dX9_span_16 rfl rfl ?_
  refine Rn.getR dX9_span_17 fd_X9_23_8 (by first | rfl | exact gC0 (by assumption) | exact gL0 (by assumption)) rfl ?_
  refine Rn.aload_n dX9_span_20 rfl rfl ?_
  refine Rn.getR dX9_span_21 fd_X9_19_8 (by first | rfl | exact gC0 (by assumption) | exact gL0 (by assumption)) rfl ?_
  refine Rn.callVp (As := [_]) dX9_span_24 mv_X9_91 (by first | rfl | exact gC0 (by assumption) | exact gL0 (by assumption)) rfl rfl rfl (Nat.le_of_ble_eq_true rfl) (ct_copy_3_7 G _ _) ?_
  refine Rn.aload_n dX9_span_27 rfl rfl ?_
  refine Rn.getR dX9_span_28 fd_X9_23_8 (by first | rfl | exact gC0 (by assumption) | exact gL0 (by assumption)) rfl ?_
  refine Rn.iload dX9_span_31 rfl ?_
  refine Rn.putI dX9_span_33 fp_X9_327_0 (by first | rfl | exact gC0 (by assumption) | exact gL0 (by assumption)) rfl ?_
  refine Rn.aload_n dX9_span_36 rfl rfl ?_
  refine Rn.getR dX9_span_37 fd_X9_32_8 (by first | rfl | exact gC0 (by assumption) | exact gL0 (by assumption)) rfl ?_
  refine Rn.aload_n dX9_span_40 rfl rfl ?_
  refine Rn.getR dX9_span_41 fd_X9_23_8 (by first | rfl | exact gC0 (by assumption) | exact gL0 (by assumption)) rfl ?_
  refine Rn.iload_n dX9_span_44 rfl rfl ?_
  refine Rn.callV (As := [_, _]) dX9_span_45 mv_X9_226 (by first | rfl | exact gC0 (by assumption) | exact gL0 (by assumption)) rfl rfl rfl (Nat.le_of_ble_eq_true rfl) (ct_pass_7 G _ _ (by exact ha0) N hN) (fun E J h => nomatch h.1) (fun v J1 q1 => ?_)
  obtain ⟨e1, z, e2⟩ := q1
  cases e1
  subst e2
  refine Rn.pop dX9_span_48 rfl ?_
  refine Rn.aload_n dX9_span_49 rfl rfl ?_
  refine Rn.getR dX9_span_50 fd_X9_23_8 (by first | rfl | exact gC0 (by assumption) | exact gL0 (by assumption)) rfl ?_
  refine Rn.callVp (As := []) dX9_span_53 mv_X9_324 (by first | rfl | exact gC0 (by assumption) | exact gL0 (by assumption)) rfl rfl rfl (Nat.le_of_ble_eq_true rfl) (ct_luckOfWomen_7 G _ _ (by exact ha0)) ?_
  refine Rn.istore dX9_span_56 (by decide) ?_
  refine Rn.iload_n dX9_span_58 rfl rfl ?_
  refine Rn.iconst (v := (-1)) dX9_span_59 rfl ?_
  refine Rn.icmp_eq (tgt := 82) dX9_span_60 (by decide) (fun h9 => absurd h9 (by decide)) (fun _ => ?_)
  refine Rn.iload_n dX9_span_63 rfl rfl ?_
  refine Rn.if_eq (tgt := 76) dX9_span_64 (by decide) (fun _ => ?_) (fun h9 => by exfalso; exact h9 hy)
  refine Rn.iload dX9_span_76 rfl ?_
  refine Rn.iload_n dX9_span_78 rfl rfl ?_
  refine Rn.icmp_ge (tgt := 85) dX9_span_79 (by decide) (fun _ => ?_) (fun h9 => absurd h9 (by decide))
  refine Rn.iincN dX9_span_85 rfl (by decide) ?_
  refine Rn.goto 9 dX9_span_88 (by decide) ?_
  refine Rn.gen (fun H => H 3 0 = nI 0 ∧ ∀ c, 94 ≤ c → H c = I c) ⟨by exact ha0, fun c hc => by rw [zup_ne _ _ (by omega), zup_ne _ _ (by omega), cpC_ne _ (by omega)]; exact hc0 c hc⟩ (fun H1 hH => ?_)
  obtain ⟨ha1, hc1⟩ := hH
  refine Rn.lcl [some (.ref 0), some (.int (nI N)), some (.int y), some (.int (nI 0)), some (.int (nI 3)), some (.int (nI 0))] rfl ?_
  refine Rn.iload dX9_span_9 rfl ?_
  refine Rn.bipush (v := (nI 6)) dX9_span_11 rfl ?_
  refine Rn.icmp_gt (tgt := 91) dX9_span_13 (by decide) (fun h9 => absurd h9 (by decide)) (fun _ => ?_)
  refine Rn.aload_n dX9_span_16 rfl rfl ?_
  refine Rn.getR dX9_span_17 fd_X9_23_8 (by first | rfl | exact gC0 (by assumption) | exact gL0 (by assumption)) rfl ?_
  refine Rn.aload_n dX9_span_20 rfl rfl ?_
  refine Rn.getR dX9_span_21 fd_X9_19_8 (by first | rfl | exact gC0 (by assumption) | exact gL0 (by assumption)) rfl ?_
  refine Rn.callVp (As := [_]) dX9_span_24 mv_X9_91 (by first | rfl | exact gC0 (by assumption) | exact gL0 (by assumption)) rfl rfl rfl (Nat.le_of_ble_eq_true rfl) (ct_copy_3_7 G _ _) ?_
  refine Rn.aload_n dX9_span_27 rfl rfl ?_
  refine Rn.getR dX9_span_28 fd_X9_23_8 (by first | rfl | exact gC0 (by assumption) | exact gL0 (by assumption)) rfl ?_
  refine Rn.iload dX9_span_31 rfl ?_
  refine Rn.putI dX9_span_33 fp_X9_327_0 (by first | rfl | exact gC0 (by assumption) | exact gL0 (by assumption)) rfl ?_
  refine Rn.aload_n dX9_span_36 rfl rfl ?_
  refine Rn.getR dX9_span_37 fd_X9_32_8 (by first | rfl | exact gC0 (by assumption) | exact gL0 (by assumption)) rfl ?_
  refine Rn.aload_n dX9_span_40 rfl rfl ?_
  refine Rn.getR dX9_span_41 fd_X9_23_8 (by first | rfl | exact gC0 (by assumption) | exact gL0 (by assumption)) rfl ?_
  refine Rn.iload_n dX9_span_44 rfl rfl ?_
  refine Rn.callV (As := [_, _]) dX9_span_45 mv_X9_226 (by first | rfl | exact gC0 (by assumption) | exact gL0 (by assumption)) rfl rfl rfl (Nat.le_of_ble_eq_true rfl) (ct_pass_7 G _ _ (by exact ha1) N hN) (fun E J h => nomatch h.1) (fun v J1 q1 => ?_)
  obtain ⟨e1, z, e2⟩ := q1
  cases e1
  subst e2
  refine Rn.pop dX9_span_48 rfl ?_
  refine Rn.aload_n dX9_span_49 rfl rfl ?_
  refine Rn.getR dX9_span_50 fd_X9_23_8 (by first | rfl | exact gC0 (by assumption) | exact gL0 (by assumption)) rfl ?_
  refine Rn.callVp (As := []) dX9_span_53 mv_X9_324 (by first | rfl | exact gC0 (by assumption) | exact gL0 (by assumption)) rfl rfl rfl (Nat.le_of_ble_eq_true rfl) (ct_luckOfWomen_7 G _ _ (by exact ha1)) ?_
  refine Rn.istore dX9_span_56 (by decide) ?_
  refine Rn.iload_n dX9_span_58 rfl rfl ?_
  refine Rn.iconst (v := (-1)) dX9_span_59 rfl ?_
  refine Rn.icmp_eq (tgt := 82) dX9_span_60 (by decide) (fun h9 => absurd h9 (by decide)) (fun _ => ?_)
  refine Rn.iload_n dX9_span_63 rfl rfl ?_
  refine Rn.if_eq (tgt := 76) dX9_span_64 (by decide) (fun _ => ?_) (fun h9 => by exfalso; exact h9 hy)
  refine Rn.iload dX9_span_76 rfl ?_
  refine Rn.iload_n dX9_span_78 rfl rfl ?_
  refine Rn.icmp_ge (tgt := 85) dX9_span_79 (by decide) (fun _ => ?_) (fun h9 => absurd h9 (by decide))
  refine Rn.iincN dX9_span_85 rfl (by decide) ?_
  refine Rn.goto 9 dX9_span_88 (by decide) ?_
  refine Rn.gen (fun H => H 3 0 = nI 0 ∧ ∀ c, 94 ≤ c → H c = I c) ⟨by exact ha1, fun c hc => by rw [zup_ne _ _ (by omega), zup_ne _ _ (by omega), cpC_ne _ (by omega)]; exact hc1 c hc⟩ (fun H2 hH => ?_)
  obtain ⟨ha2, hc2⟩ := hH
  refine Rn.lcl [some (.ref 0), some (.int (nI N)), some (.int y), some (.int (nI 0)), some (.int (nI 4)), some (.int (nI 0))] rfl ?_
  refine Rn.iload dX9_span_9 rfl ?_
  refine Rn.bipush (v := (nI 6)) dX9_span_11 rfl ?_
  refine Rn.icmp_gt (tgt := 91) dX9_span_13 (by decide) (fun h9 => absurd h9 (by decide)) (fun _ => ?_)
  refine Rn.aload_n dX9_span_16 rfl rfl ?_
  refine Rn.getR dX9_span_17 fd_X9_23_8 (by first | rfl | exact gC0 (by assumption) | exact gL0 (by assumption)) rfl ?_
  refine Rn.aload_n dX9_span_20 rfl rfl ?_
  refine Rn.getR dX9_span_21 fd_X9_19_8 (by first | rfl | exact gC0 (by assumption) | exact gL0 (by assumption)) rfl ?_
  refine Rn.callVp (As := [_]) dX9_span_24 mv_X9_91 (by first | rfl | exact gC0 (by assumption) | exact gL0 (by assumption)) rfl rfl rfl (Nat.le_of_ble_eq_true rfl) (ct_copy_3_7 G _ _) ?_
  refine Rn.aload_n dX9_span_27 rfl rfl ?_
  refine Rn.getR dX9_span_28 fd_X9_23_8 (by first | rfl | exact gC0 (by assumption) | exact gL0 (by assumption)) rfl ?_
  refine Rn.iload dX9_span_31 rfl ?_
  refine Rn.putI dX9_span_33 fp_X9_327_0 (by first | rfl | exact gC0 (by assumption) | exact gL0 (by assumption)) rfl ?_
  refine Rn.aload_n dX9_span_36 rfl rfl ?_
  refine Rn.getR dX9_span_37 fd_X9_32_8 (by first | rfl | exact gC0 (by assumption) | exact gL0 (by assumption)) rfl ?_
  refine Rn.aload_n dX9_span_40 rfl rfl ?_
  refine Rn.getR dX9_span_41 fd_X9_23_8 (by first | rfl | exact gC0 (by assumption) | exact gL0 (by assumption)) rfl ?_
  refine Rn.iload_n dX9_span_44 rfl rfl ?_
  refine Rn.callV (As := [_, _]) dX9_span_45 mv_X9_226 (by first | rfl | exact gC0 (by assumption) | exact gL0 (by assumption)) rfl rfl rfl (Nat.le_of_ble_eq_true rfl) (ct_pass_7 G _ _ (by exact ha2) N hN) (fun E J h => nomatch h.1) (fun v J1 q1 => ?_)
  obtain ⟨e1, z, e2⟩ := q1
  cases e1
  subst e2
  refine Rn.pop dX9_span_48 rfl ?_
  refine Rn.aload_n dX9_span_49 rfl rfl ?_
  refine Rn.getR dX9_span_50 fd_X9_23_8 (by first | rfl | exact gC0 (by assumption) | exact gL0 (by assumption)) rfl ?_
  refine Rn.callVp (As := []) dX9_span_53 mv_X9_324 (by first | rfl | exact gC0 (by assumption) | exact gL0 (by assumption)) rfl rfl rfl (Nat.le_of_ble_eq_true rfl) (ct_luckOfWomen_7 G _ _ (by exact ha2)) ?_
  refine Rn.istore dX9_span_56 (by decide) ?_
  refine Rn.iload_n dX9_span_58 rfl rfl ?_
  refine Rn.iconst (v := (-1)) dX9_span_59 rfl ?_
  refine Rn.icmp_eq (tgt := 82) dX9_span_60 (by decide) (fun h9 => absurd h9 (by decide)) (fun _ => ?_)
  refine Rn.iload_n dX9_span_63 rfl rfl ?_
  refine Rn.if_eq (tgt := 76) dX9_span_64 (by decide) (fun _ => ?_) (fun h9 => by exfalso; exact h9 hy)
  refine Rn.iload dX9_span_76 rfl ?_
  refine Rn.iload_n dX9_span_78 rfl rfl ?_
  refine Rn.icmp_ge (tgt := 85) dX9_span_79 (by decide) (fun _ => ?_) (fun h9 => absurd h9 (by decide))
  refine Rn.iincN dX9_span_85 rfl (by decide) ?_
  refine Rn.goto 9 dX9_span_88 (by decide) ?_
  refine Rn.gen (fun H => H 3 0 = nI 0 ∧ ∀ c, 94 ≤ c → H c = I c) ⟨by exact ha2, fun c hc => by rw [zup_ne _ _ (by omega), zup_ne _ _ (by omega), cpC_ne _ (by omega)]; exact hc2 c hc⟩ (fun H3 hH => ?_)
  obtain ⟨ha3, hc3⟩ := hH
  refine Rn.lcl [some (.ref 0), some (.int (nI N)), some (.int y), some (.int (nI 0)), some (.int (nI 5)), some (.int (nI 0))] rfl ?_
  refine Rn.iload dX9_span_9 rfl ?_
  refine Rn.bipush (v := (nI 6)) dX9_span_11 rfl ?_
  refine Rn.icmp_gt (tgt := 91) dX9_span_13 (by decide) (fun h9 => absurd h9 (by decide)) (fun _ => ?_)
  refine Rn.aload_n dX9_span_16 rfl rfl ?_
  refine Rn.getR dX9_span_17 fd_X9_23_8 (by first | rfl | exact gC0 (by assumption) | exact gL0 (by assumption)) rfl ?_
  refine Rn.aload_n dX9_span_20 rfl rfl ?_
  refine Rn.getR dX9_span_21 fd_X9_19_8 (by first | rfl | exact gC0 (by assumption) | exact gL0 (by assumption)) rfl ?_
  refine Rn.callVp (As := [_]) dX9_span_24 mv_X9_91 (by first | rfl | exact gC0 (by assumption) | exact gL0 (by assumption)) rfl rfl rfl (Nat.le_of_ble_eq_true rfl) (ct_copy_3_7 G _ _) ?_
  refine Rn.aload_n dX9_span_27 rfl rfl ?_
  refine Rn.getR dX9_span_28 fd_X9_23_8 (by first | rfl | exact gC0 (by assumption) | exact gL0 (by assumption)) rfl ?_
  refine Rn.iload dX9_span_31 rfl ?_
  refine Rn.putI dX9_span_33 fp_X9_327_0 (by first | rfl | exact gC0 (by assumption) | exact gL0 (by assumption)) rfl ?_
  refine Rn.aload_n dX9_span_36 rfl rfl ?_
  refine Rn.getR dX9_span_37 fd_X9_32_8 (by first | rfl | exact gC0 (by assumption) | exact gL0 (by assumption)) rfl ?_
  refine Rn.aload_n dX9_span_40 rfl rfl ?_
  refine Rn.getR dX9_span_41 fd_X9_23_8 (by first | rfl | exact gC0 (by assumption) | exact gL0 (by assumption)) rfl ?_
  refine Rn.iload_n dX9_span_44 rfl rfl ?_
  refine Rn.callV (As := [_, _]) dX9_span_45 mv_X9_226 (by first | rfl | exact gC0 (by assumption) | exact gL0 (by assumption)) rfl rfl rfl (Nat.le_of_ble_eq_true rfl) (ct_pass_7 G _ _ (by exact ha3) N hN) (fun E J h => nomatch h.1) (fun v J1 q1 => ?_)
  obtain ⟨e1, z, e2⟩ := q1
  cases e1
  subst e2
  refine Rn.pop dX9_span_48 rfl ?_
  refine Rn.aload_n dX9_span_49 rfl rfl ?_
  refine Rn.getR dX9_span_50 fd_X9_23_8 (by first | rfl | exact gC0 (by assumption) | exact gL0 (by assumption)) rfl ?_
  refine Rn.callVp (As := []) dX9_span_53 mv_X9_324 (by first | rfl | exact gC0 (by assumption) | exact gL0 (by assumption)) rfl rfl rfl (Nat.le_of_ble_eq_true rfl) (ct_luckOfWomen_7 G _ _ (by exact ha3)) ?_
  refine Rn.istore dX9_span_56 (by decide) ?_
  refine Rn.iload_n dX9_span_58 rfl rfl ?_
  refine Rn.iconst (v := (-1)) dX9_span_59 rfl ?_
  refine Rn.icmp_eq (tgt := 82) dX9_span_60 (by decide) (fun h9 => absurd h9 (by decide)) (fun _ => ?_)
  refine Rn.iload_n dX9_span_63 rfl rfl ?_
  refine Rn.if_eq (tgt := 76) dX9_span_64 (by decide) (fun _ => ?_) (fun h9 => by exfalso; exact h9 hy)
  refine Rn.iload dX9_span_76 rfl ?_
  refine Rn.iload_n dX9_span_78 rfl rfl ?_
  refine Rn.icmp_ge (tgt := 85) dX9_span_79 (by decide) (fun _ => ?_) (fun h9 => absurd h9 (by decide))
  refine Rn.iincN dX9_span_85 rfl (by decide) ?_
  refine Rn.goto 9 dX9_span_88 (by decide) ?_
  refine Rn.gen (fun H => H 3 0 = nI 0 ∧ ∀ c, 94 ≤ c → H c = I c) ⟨by exact ha3, fun c hc => by rw [zup_ne _ _ (by omega), zup_ne _ _ (by omega), cpC_ne _ (by omega)]; exact hc3 c hc⟩ (fun H4 hH => ?_)
  obtain ⟨ha4, hc4⟩ := hH
  refine Rn.lcl [some (.ref 0), some (.int (nI N)), some (.int y), some (.int (nI 0)), some (.int (nI 6)), some (.int (nI 0))] rfl ?_
  refine Rn.iload dX9_span_9 rfl ?_
  refine Rn.bipush (v := (nI 6)) dX9_span_11 rfl ?_
  refine Rn.icmp_gt (tgt := 91) dX9_span_13 (by decide) (fun h9 => absurd h9 (by decide)) (fun _ => ?_)
  refine Rn.aload_n dX9_span_16 rfl rfl ?_
  refine Rn.getR dX9_span_17 fd_X9_23_8 (by first | rfl | exact gC0 (by assumption) | exact gL0 (by assumption)) rfl ?_
  refine Rn.aload_n dX9_span_20 rfl rfl ?_
  refine Rn.getR dX9_span_21 fd_X9_19_8 (by first | rfl | exact gC0 (by assumption) | exact gL0 (by assumption)) rfl ?_
  refine Rn.callVp (As := [_]) dX9_span_24 mv_X9_91 (by first | rfl | exact gC0 (by assumption) | exact gL0 (by assumption)) rfl rfl rfl (Nat.le_of_ble_eq_true rfl) (ct_copy_3_7 G _ _) ?_
  refine Rn.aload_n dX9_span_27 rfl rfl ?_
  refine Rn.getR dX9_span_28 fd_X9_23_8 (by first | rfl | exact gC0 (by assumption) | exact gL0 (by assumption)) rfl ?_
  refine Rn.iload dX9_span_31 rfl ?_
  refine Rn.putI dX9_span_33 fp_X9_327_0 (by first | rfl | exact gC0 (by assumption) | exact gL0 (by assumption)) rfl ?_
  refine Rn.aload_n dX9_span_36 rfl rfl ?_
  refine Rn.getR dX9_span_37 fd_X9_32_8 (by first | rfl | exact gC0 (by assumption) | exact gL0 (by assumption)) rfl ?_
  refine Rn.aload_n dX9_span_40 rfl rfl ?_
  refine Rn.getR dX9_span_41 fd_X9_23_8 (by first | rfl | exact gC0 (by assumption) | exact gL0 (by assumption)) rfl ?_
  refine Rn.iload_n dX9_span_44 rfl rfl ?_
  refine Rn.callV (As := [_, _]) dX9_span_45 mv_X9_226 (by first | rfl | exact gC0 (by assumption) | exact gL0 (by assumption)) rfl rfl rfl (Nat.le_of_ble_eq_true rfl) (ct_pass_7 G _ _ (by exact ha4) N hN) (fun E J h => nomatch h.1) (fun v J1 q1 => ?_)
  obtain ⟨e1, z, e2⟩ := q1
  cases e1
  subst e2
  refine Rn.pop dX9_span_48 rfl ?_
  refine Rn.aload_n dX9_span_49 rfl rfl ?_
  refine Rn.getR dX9_span_50 fd_X9_23_8 (by first | rfl | exact gC0 (by assumption) | exact gL0 (by assumption)) rfl ?_
  refine Rn.callVp (As := []) dX9_span_53 mv_X9_324 (by first | rfl | exact gC0 (by assumption) | exact gL0 (by assumption)) rfl rfl rfl (Nat.le_of_ble_eq_true rfl) (ct_luckOfWomen_7 G _ _ (by exact ha4)) ?_
  refine Rn.istore dX9_span_56 (by decide) ?_
  refine Rn.iload_n dX9_span_58 rfl rfl ?_
  refine Rn.iconst (v := (-1)) dX9_span_59 rfl ?_
  refine Rn.icmp_eq (tgt := 82) dX9_span_60 (by decide) (fun h9 => absurd h9 (by decide)) (fun _ => ?_)
  refine Rn.iload_n dX9_span_63 rfl rfl ?_
  refine Rn.if_eq (tgt := 76) dX9_span_64 (by decide) (fun _ => ?_) (fun h9 => by exfalso; exact h9 hy)
  refine Rn.iload dX9_span_76 rfl ?_
  refine Rn.iload_n dX9_span_78 rfl rfl ?_
  refine Rn.icmp_ge (tgt := 85) dX9_span_79 (by decide) (fun _ => ?_) (fun h9 => absurd h9 (by decide))
  refine Rn.iincN dX9_span_85 rfl (by decide) ?_
  refine Rn.goto 9 dX9_span_88 (by decide) ?_
  refine Rn.gen (fun H => H 3 0 = nI 0 ∧ ∀ c, 94 ≤ c → H c = I c) ⟨by exact ha4, fun c hc => by rw [zup_ne _ _ (by omega), zup_ne _ _ (by omega), cpC_ne _ (by omega)]; exact hc4 c hc⟩ (fun H5 hH => ?_)
  obtain ⟨ha5, hc5⟩ := hH
  refine Rn.lcl [some (.ref 0), some (.int (nI N)), some (.int y), some (.int (nI 0)), some (.int (nI 7)), some (.int (nI 0))] rfl ?_
  refine Rn.iload dX9_span_9 rfl ?_
  refine Rn.bipush (v := (nI 6)) dX9_span_11 rfl ?_
  refine Rn.icmp_gt (tgt := 91) dX9_span_13 (by decide) (fun _ => ?_) (fun h9 => absurd h9 (by decide))
  refine Rn.iload_n dX9_span_91 rfl rfl ?_
  exact Rn.iret dX9_span_92 rfl (⟨rfl, hc5⟩)
set_option maxHeartbeats 8000000 in
theorem ct_X9_span0_nonz (F : FC I) (x y : Int32) (h1 : ¬ x < 0) (h2 : x ≤ nI 60) (hy : ¬ y = 0) : Ct G GAM mX9_span (d + 1) 1 [.ref 0, .int x, .int y] I (fun o K => o = .inl (some (.int (nI 0))) ∧ ∀ c, 94 ≤ c → K c = I c) := by
  obtain ⟨N, hN, rfl⟩ := in60 h1 h2
  obtain ⟨h3_0, h3_1, h3_2, h3_3, h3_4, h3_5, h3_6, h3_7, h3_8, h0_11, h0_12, h1_1, h16_0, h44_1, h44_2⟩ := F
  refine Ct.mk [some (.ref 0), some (.int (nI N)), some (.int y), none, none, none] ?_
  refine Rn.iload_n dX9_span_0 rfl rfl ?_
  refine Rn.callSq (b := 0) (mc := 1) (As := [_]) dX9_span_1 ms_X9_321 rfl rfl (Nat.le_of_ble_eq_true rfl) (ct_needTrial0 G _ _ _ h1 h2) ?_
  refine Rn.iconst (v := (-1)) dX9_span_4 rfl ?_
  refine Rn.istore_n dX9_span_5 rfl (by decide) ?_
  refine Rn.iconst (v := (nI 1)) dX9_span_6 rfl ?_
  refine Rn.istore dX9_span_7 (by decide) ?_
  refine Rn.iload dX9_span_9 rfl ?_
  refine Rn.bipush (v := (nI 6)) dX9_span_11 rfl ?_
  refine Rn.icmp_gt (tgt := 91) dX9_span_13 (by decide) (fun h9 => absurd h9 (by decide)) (fun _ => ?_)
  refine Rn.aload_n dX9_span_16 rfl rfl ?_
  refine Rn.getR dX9_span_17 fd_X9_23_8 (by first | rfl | exact gC0 (by assumption) | exact gL0 (by assumption)) rfl ?_
  refine Rn.aload_n dX9_span_20 rfl rfl ?_
  refine Rn.getR dX9_span_21 fd_X9_19_8 (by first | rfl | exact gC0 (by assumption) | exact gL0 (by assumption)) rfl ?_
  refine Rn.callVp (As := [_]) dX9_span_24 mv_X9_91 (by first | rfl | exact gC0 (by assumption) | exact gL0 (by assumption)) rfl rfl rfl (Nat.le_of_ble_eq_true rfl) (ct_copy_3_7 G _ _) ?_
  refine Rn.aload_n dX9_span_27 rfl rfl ?_
  refine Rn.getR dX9_span_28 fd_X9_23_8 (by first | rfl | exact gC0 (by assumption) | exact gL0 (by assumption)) rfl ?_
  refine Rn.iload dX9_span_31 rfl ?_
  refine Rn.putI dX9_span_33 fp_X9_327_0 (by first | rfl | exact gC0 (by assumption) | exact gL0 (by assumption)) rfl ?_
  refine Rn.aload_n dX9_span_36 rfl rfl ?_
  refine Rn.getR dX9_span_37 fd_X9_32_8 (by first | rfl | exact gC0 (by assumption) | exact gL0 (by assumption)) rfl ?_
  refine Rn.aload_n dX9_span_40 rfl rfl ?_
  refine Rn.getR dX9_span_41 fd_X9_23_8 (by first | rfl | exact gC0 (by assumption) | exact gL0 (by assumption)) rfl ?_
  refine Rn.iload_n dX9_span_44 rfl rfl ?_
  refine Rn.callV (As := [_, _]) dX9_span_45 mv_X9_226 (by first | rfl | exact gC0 (by assumption) | exact gL0 (by assumption)) rfl rfl rfl (Nat.le_of_ble_eq_true rfl) (ct_pass_7 G _ _ (by exact h3_0) N hN) (fun E J h => nomatch h.1) (fun v J1 q1 => ?_)
  obtain ⟨e1, z, e2⟩ := q1
  cases e1
  subst e2
  refine Rn.pop dX9_span_48 rfl ?_
  refine Rn.aload_n dX9_span_49 rfl rfl ?_
  refine Rn.getR dX9_span_50 fd_X9_23_8 (by first | rfl | exact gC0 (by assumption) | exact gL0 (by assumption)) rfl ?_
  refine Rn.callVp (As := []) dX9_span_53 mv_X9_324 (by first | rfl | exact gC0 (by assumption) | exact gL0 (by assumption)) rfl rfl rfl (Nat.le_of_ble_eq_true rfl) (ct_luckOfWomen_7 G _ _ (by exact h3_0)) ?_
  refine Rn.istore dX9_span_56 (by decide) ?_
  refine Rn.iload_n dX9_span_58 rfl rfl ?_
  refine Rn.iconst (v := (-1)) dX9_span_59 rfl ?_
  refine Rn.icmp_eq (tgt := 82) dX9_span_60 (by decide) (fun _ => ?_) (fun h9 => absurd h9 (by decide))
  refine Rn.iload dX9_span_82 rfl ?_
  refine Rn.istore_n dX9_span_84 rfl (by decide) ?_
  refine Rn.iincN dX9_span_85 rfl (by decide) ?_
  refine Rn.goto 9 dX9_span_88 (by decide) ?_
  refine Rn.gen (fun H => H 3 0 = nI 0 ∧ ∀ c, 94 ≤ c → H c = I c) ⟨by exact h3_0, fun c hc => by rw [zup_ne _ _ (by omega), zup_ne _ _ (by omega), cpC_ne _ (by omega)]⟩ (fun H0 hH => ?_)
  obtain ⟨ha0, hc0⟩ := hH
  refine Rn.lcl [some (.ref 0), some (.int (nI N)), some (.int y), some (.int (nI 0)), some (.int (nI 2)), some (.int (nI 0))] rfl ?_
  refine Rn.iload dX9_span_9 rfl ?_
  refine Rn.bipush (v := (nI 6)) dX9_span_11 rfl ?_
  refine Rn.icmp_gt (tgt := 91) dX9_span_13 (by decide) (fun h9 => absurd h9 (by decide)) (fun _ => ?_)
  refine Rn.aload_n dX9_span_16 rfl rfl ?_
  refine Rn.getR dX9_span_17 fd_X9_23_8 (by first | rfl | exact gC0 (by assumption) | exact gL0 (by assumption)) rfl ?_
  refine Rn.aload_n dX9_span_20 rfl rfl ?_
  refine Rn.getR dX9_span_21 fd_X9_19_8 (by first | rfl | exact gC0 (by assumption) | exact gL0 (by assumption)) rfl ?_
  refine Rn.callVp (As := [_]) dX9_span_24 mv_X9_91 (by first | rfl | exact gC0 (by assumption) | exact gL0 (by assumption)) rfl rfl rfl (Nat.le_of_ble_eq_true rfl) (ct_copy_3_7 G _ _) ?_
  refine Rn.aload_n dX9_span_27 rfl rfl ?_
  refine Rn.getR dX9_span_28 fd_X9_23_8 (by first | rfl | exact gC0 (by assumption) | exact gL0 (by assumption)) rfl ?_
  refine Rn.iload dX9_span_31 rfl ?_
  refine Rn.putI dX9_span_33 fp_X9_327_0 (by first | rfl | exact gC0 (by assumption) | exact gL0 (by assumption)) rfl ?_
  refine Rn.aload_n dX9_span_36 rfl rfl ?_
  refine Rn.getR dX9_span_37 fd_X9_32_8 (by first | rfl | exact gC0 (by assumption) | exact gL0 (by assumption)) rfl ?_
  refine Rn.aload_n dX9_span_40 rfl rfl ?_
  refine Rn.getR dX9_span_41 fd_X9_23_8 (by first | rfl | exact gC0 (by assumption) | exact gL0 (by assumption)) rfl ?_
  refine Rn.iload_n dX9_span_44 rfl rfl ?_
  refine Rn.callV (As := [_, _]) dX9_span_45 mv_X9_226 (by first | rfl | exact gC0 (by assumption) | exact gL0 (by assumption)) rfl rfl rfl (Nat.le_of_ble_eq_true rfl) (ct_pass_7 G _ _ (by exact ha0) N hN) (fun E J h => nomatch h.1) (fun v J1 q1 => ?_)
  obtain ⟨e1, z, e2⟩ := q1
  cases e1
  subst e2
  refine Rn.pop dX9_span_48 rfl ?_
  refine Rn.aload_n dX9_span_49 rfl rfl ?_
  refine Rn.getR dX9_span_50 fd_X9_23_8 (by first | rfl | exact gC0 (by assumption) | exact gL0 (by assumption)) rfl ?_
  refine Rn.callVp (As := []) dX9_span_53 mv_X9_324 (by first | rfl | exact gC0 (by assumption) | exact gL0 (by assumption)) rfl rfl rfl (Nat.le_of_ble_eq_true rfl) (ct_luckOfWomen_7 G _ _ (by exact ha0)) ?_
  refine Rn.istore dX9_span_56 (by decide) ?_
  refine Rn.iload_n dX9_span_58 rfl rfl ?_
  refine Rn.iconst (v := (-1)) dX9_span_59 rfl ?_
  refine Rn.icmp_eq (tgt := 82) dX9_span_60 (by decide) (fun h9 => absurd h9 (by decide)) (fun _ => ?_)
  refine Rn.iload_n dX9_span_63 rfl rfl ?_
  refine Rn.if_eq (tgt := 76) dX9_span_64 (by decide) (fun h9 => by exfalso; exact hy h9) (fun _ => ?_)
  refine Rn.iload dX9_span_67 rfl ?_
  refine Rn.iload_n dX9_span_69 rfl rfl ?_
  refine Rn.icmp_le (tgt := 85) dX9_span_70 (by decide) (fun _ => ?_) (fun h9 => absurd h9 (by decide))
  refine Rn.iincN dX9_span_85 rfl (by decide) ?_
  refine Rn.goto 9 dX9_span_88 (by decide) ?_
  refine Rn.gen (fun H => H 3 0 = nI 0 ∧ ∀ c, 94 ≤ c → H c = I c) ⟨by exact ha0, fun c hc => by rw [zup_ne _ _ (by omega), zup_ne _ _ (by omega), cpC_ne _ (by omega)]; exact hc0 c hc⟩ (fun H1 hH => ?_)
  obtain ⟨ha1, hc1⟩ := hH
  refine Rn.lcl [some (.ref 0), some (.int (nI N)), some (.int y), some (.int (nI 0)), some (.int (nI 3)), some (.int (nI 0))] rfl ?_
  refine Rn.iload dX9_span_9 rfl ?_
  refine Rn.bipush (v := (nI 6)) dX9_span_11 rfl ?_
  refine Rn.icmp_gt (tgt := 91) dX9_span_13 (by decide) (fun h9 => absurd h9 (by decide)) (fun _ => ?_)
  refine Rn.aload_n dX9_span_16 rfl rfl ?_
  refine Rn.getR dX9_span_17 fd_X9_23_8 (by first | rfl | exact gC0 (by assumption) | exact gL0 (by assumption)) rfl ?_
  refine Rn.aload_n dX9_span_20 rfl rfl ?_
  refine Rn.getR dX9_span_21 fd_X9_19_8 (by first | rfl | exact gC0 (by assumption) | exact gL0 (by assumption)) rfl ?_
  refine Rn.callVp (As := [_]) dX9_span_24 mv_X9_91 (by first | rfl | exact gC0 (by assumption) | exact gL0 (by assumption)) rfl rfl rfl (Nat.le_of_ble_eq_true rfl) (ct_copy_3_7 G _ _) ?_
  refine Rn.aload_n dX9_span_27 rfl rfl ?_
  refine Rn.getR dX9_span_28 fd_X9_23_8 (by first | rfl | exact gC0 (by assumption) | exact gL0 (by assumption)) rfl ?_
  refine Rn.iload dX9_span_31 rfl ?_
  refine Rn.putI dX9_span_33 fp_X9_327_0 (by first | rfl | exact gC0 (by assumption) | exact gL0 (by assumption)) rfl ?_
  refine Rn.aload_n dX9_span_36 rfl rfl ?_
  refine Rn.getR dX9_span_37 fd_X9_32_8 (by first | rfl | exact gC0 (by assumption) | exact gL0 (by assumption)) rfl ?_
  refine Rn.aload_n dX9_span_40 rfl rfl ?_
  refine Rn.getR dX9_span_41 fd_X9_23_8 (by first | rfl | exact gC0 (by assumption) | exact gL0 (by assumption)) rfl ?_
  refine Rn.iload_n dX9_span_44 rfl rfl ?_
  refine Rn.callV (As := [_, _]) dX9_span_45 mv_X9_226 (by first | rfl | exact gC0 (by assumption) | exact gL0 (by assumption)) rfl rfl rfl (Nat.le_of_ble_eq_true rfl) (ct_pass_7 G _ _ (by exact ha1) N hN) (fun E J h => nomatch h.1) (fun v J1 q1 => ?_)
  obtain ⟨e1, z, e2⟩ := q1
  cases e1
  subst e2
  refine Rn.pop dX9_span_48 rfl ?_
  refine Rn.aload_n dX9_span_49 rfl rfl ?_
  refine Rn.getR dX9_span_50 fd_X9_23_8 (by first | rfl | exact gC0 (by assumption) | exact gL0 (by assumption)) rfl ?_
  refine Rn.callVp (As := []) dX9_span_53 mv_X9_324 (by first | rfl | exact gC0 (by assumption) | exact gL0 (by assumption)) rfl rfl rfl (Nat.le_of_ble_eq_true rfl) (ct_luckOfWomen_7 G _ _ (by exact ha1)) ?_
  refine Rn.istore dX9_span_56 (by decide) ?_
  refine Rn.iload_n dX9_span_58 rfl rfl ?_
  refine Rn.iconst (v := (-1)) dX9_span_59 rfl ?_
  refine Rn.icmp_eq (tgt := 82) dX9_span_60 (by decide) (fun h9 => absurd h9 (by decide)) (fun _ => ?_)
  refine Rn.iload_n dX9_span_63 rfl rfl ?_
  refine Rn.if_eq (tgt := 76) dX9_span_64 (by decide) (fun h9 => by exfalso; exact hy h9) (fun _ => ?_)
  refine Rn.iload dX9_span_67 rfl ?_
  refine Rn.iload_n dX9_span_69 rfl rfl ?_
  refine Rn.icmp_le (tgt := 85) dX9_span_70 (by decide) (fun _ => ?_) (fun h9 => absurd h9 (by decide))
  refine Rn.iincN dX9_span_85 rfl (by decide) ?_
  refine Rn.goto 9 dX9_span_88 (by decide) ?_
  refine Rn.gen (fun H => H 3 0 = nI 0 ∧ ∀ c, 94 ≤ c → H c = I c) ⟨by exact ha1, fun c hc => by rw [zup_ne _ _ (by omega), zup_ne _ _ (by omega), cpC_ne _ (by omega)]; exact hc1 c hc⟩ (fun H2 hH => ?_)
  obtain ⟨ha2, hc2⟩ := hH
  refine Rn.lcl [some (.ref 0), some (.int (nI N)), some (.int y), some (.int (nI 0)), some (.int (nI 4)), some (.int (nI 0))] rfl ?_
  refine Rn.iload dX9_span_9 rfl ?_
  refine Rn.bipush (v := (nI 6)) dX9_span_11 rfl ?_
  refine Rn.icmp_gt (tgt := 91) dX9_span_13 (by decide) (fun h9 => absurd h9 (by decide)) (fun _ => ?_)
  refine Rn.aload_n dX9_span_16 rfl rfl ?_
  refine Rn.getR dX9_span_17 fd_X9_23_8 (by first | rfl | exact gC0 (by assumption) | exact gL0 (by assumption)) rfl ?_
  refine Rn.aload_n dX9_span_20 rfl rfl ?_
  refine Rn.getR dX9_span_21 fd_X9_19_8 (by first | rfl | exact gC0 (by assumption) | exact gL0 (by assumption)) rfl ?_
  refine Rn.callVp (As := [_]) dX9_span_24 mv_X9_91 (by first | rfl | exact gC0 (by assumption) | exact gL0 (by assumption)) rfl rfl rfl (Nat.le_of_ble_eq_true rfl) (ct_copy_3_7 G _ _) ?_
  refine Rn.aload_n dX9_span_27 rfl rfl ?_
  refine Rn.getR dX9_span_28 fd_X9_23_8 (by first | rfl | exact gC0 (by assumption) | exact gL0 (by assumption)) rfl ?_
  refine Rn.iload dX9_span_31 rfl ?_
  refine Rn.putI dX9_span_33 fp_X9_327_0 (by first | rfl | exact gC0 (by assumption) | exact gL0 (by assumption)) rfl ?_
  refine Rn.aload_n dX9_span_36 rfl rfl ?_
  refine Rn.getR dX9_span_37 fd_X9_32_8 (by first | rfl | exact gC0 (by assumption) | exact gL0 (by assumption)) rfl ?_
  refine Rn.aload_n dX9_span_40 rfl rfl ?_
  refine Rn.getR dX9_span_41 fd_X9_23_8 (by first | rfl | exact gC0 (by assumption) | exact gL0 (by assumption)) rfl ?_
  refine Rn.iload_n dX9_span_44 rfl rfl ?_
  refine Rn.callV (As := [_, _]) dX9_span_45 mv_X9_226 (by first | rfl | exact gC0 (by assumption) | exact gL0 (by assumption)) rfl rfl rfl (Nat.le_of_ble_eq_true rfl) (ct_pass_7 G _ _ (by exact ha2) N hN) (fun E J h => nomatch h.1) (fun v J1 q1 => ?_)
  obtain ⟨e1, z, e2⟩ := q1
  cases e1
  subst e2
  refine Rn.pop dX9_span_48 rfl ?_
  refine Rn.aload_n dX9_span_49 rfl rfl ?_
  refine Rn.getR dX9_span_50 fd_X9_23_8 (by first | rfl | exact gC0 (by assumption) | exact gL0 (by assumption)) rfl ?_
  refine Rn.callVp (As := []) dX9_span_53 mv_X9_324 (by first | rfl | exact gC0 (by assumption) | exact gL0 (by assumption)) rfl rfl rfl (Nat.le_of_ble_eq_true rfl) (ct_luckOfWomen_7 G _ _ (by exact ha2)) ?_
  refine Rn.istore dX9_span_56 (by decide) ?_
  refine Rn.iload_n dX9_span_58 rfl rfl ?_
  refine Rn.iconst (v := (-1)) dX9_span_59 rfl ?_
  refine Rn.icmp_eq (tgt := 82) dX9_span_60 (by decide) (fun h9 => absurd h9 (by decide)) (fun _ => ?_)
  refine Rn.iload_n dX9_span_63 rfl rfl ?_
  refine Rn.if_eq (tgt := 76) dX9_span_64 (by decide) (fun h9 => by exfalso; exact hy h9) (fun _ => ?_)
  refine Rn.iload dX9_span_67 rfl ?_
  refine Rn.iload_n dX9_span_69 rfl rfl ?_
  refine Rn.icmp_le (tgt := 85) dX9_span_70 (by decide) (fun _ => ?_) (fun h9 => absurd h9 (by decide))
  refine Rn.iincN dX9_span_85 rfl (by decide) ?_
  refine Rn.goto 9 dX9_span_88 (by decide) ?_
  refine Rn.gen (fun H => H 3 0 = nI 0 ∧ ∀ c, 94 ≤ c → H c = I c) ⟨by exact ha2, fun c hc => by rw [zup_ne _ _ (by omega), zup_ne _ _ (by omega), cpC_ne _ (by omega)]; exact hc2 c hc⟩ (fun H3 hH => ?_)
  obtain ⟨ha3, hc3⟩ := hH
  refine Rn.lcl [some (.ref 0), some (.int (nI N)), some (.int y), some (.int (nI 0)), some (.int (nI 5)), some (.int (nI 0))] rfl ?_
  refine Rn.iload dX9_span_9 rfl ?_
  refine Rn.bipush (v := (nI 6)) dX9_span_11 rfl ?_
  refine Rn.icmp_gt (tgt := 91) dX9_span_13 (by decide) (fun h9 => absurd h9 (by decide)) (fun _ => ?_)
  refine Rn.aload_n dX9_span_16 rfl rfl ?_
  refine Rn.getR dX9_span_17 fd_X9_23_8 (by first | rfl | exact gC0 (by assumption) | exact gL0 (by assumption)) rfl ?_
  refine Rn.aload_n dX9_span_20 rfl rfl ?_
  refine Rn.getR dX9_span_21 fd_X9_19_8 (by first | rfl | exact gC0 (by assumption) | exact gL0 (by assumption)) rfl ?_
  refine Rn.callVp (As := [_]) dX9_span_24 mv_X9_91 (by first | rfl | exact gC0 (by assumption) | exact gL0 (by assumption)) rfl rfl rfl (Nat.le_of_ble_eq_true rfl) (ct_copy_3_7 G _ _) ?_
  refine Rn.aload_n dX9_span_27 rfl rfl ?_
  refine Rn.getR dX9_span_28 fd_X9_23_8 (by first | rfl | exact gC0 (by assumption) | exact gL0 (by assumption)) rfl ?_
  refine Rn.iload dX9_span_31 rfl ?_
  refine Rn.putI dX9_span_33 fp_X9_327_0 (by first | rfl | exact gC0 (by assumption) | exact gL0 (by assumption)) rfl ?_
  refine Rn.aload_n dX9_span_36 rfl rfl ?_
  refine Rn.getR dX9_span_37 fd_X9_32_8 (by first | rfl | exact gC0 (by assumption) | exact gL0 (by assumption)) rfl ?_
  refine Rn.aload_n dX9_span_40 rfl rfl ?_
  refine Rn.getR dX9_span_41 fd_X9_23_8 (by first | rfl | exact gC0 (by assumption) | exact gL0 (by assumption)) rfl ?_
  refine Rn.iload_n dX9_span_44 rfl rfl ?_
  refine Rn.callV (As := [_, _]) dX9_span_45 mv_X9_226 (by first | rfl | exact gC0 (by assumption) | exact gL0 (by assumption)) rfl rfl rfl (Nat.le_of_ble_eq_true rfl) (ct_pass_7 G _ _ (by exact ha3) N hN) (fun E J h => nomatch h.1) (fun v J1 q1 => ?_)
  obtain ⟨e1, z, e2⟩ := q1
  cases e1
  subst e2
  refine Rn.pop dX9_span_48 rfl ?_
  refine Rn.aload_n dX9_span_49 rfl rfl ?_
  refine Rn.getR dX9_span_50 fd_X9_23_8 (by first | rfl | exact gC0 (by assumption) | exact gL0 (by assumption)) rfl ?_
  refine Rn.callVp (As := []) dX9_span_53 mv_X9_324 (by first | rfl | exact gC0 (by assumption) | exact gL0 (by assumption)) rfl rfl rfl (Nat.le_of_ble_eq_true rfl) (ct_luckOfWomen_7 G _ _ (by exact ha3)) ?_
  refine Rn.istore dX9_span_56 (by decide) ?_
  refine Rn.iload_n dX9_span_58 rfl rfl ?_
  refine Rn.iconst (v := (-1)) dX9_span_59 rfl ?_
  refine Rn.icmp_eq (tgt := 82) dX9_span_60 (by decide) (fun h9 => absurd h9 (by decide)) (fun _ => ?_)
  refine Rn.iload_n dX9_span_63 rfl rfl ?_
  refine Rn.if_eq (tgt := 76) dX9_span_64 (by decide) (fun h9 => by exfalso; exact hy h9) (fun _ => ?_)
  refine Rn.iload dX9_span_67 rfl ?_
  refine Rn.iload_n dX9_span_69 rfl rfl ?_
  refine Rn.icmp_le (tgt := 85) dX9_span_70 (by decide) (fun _ => ?_) (fun h9 => absurd h9 (by decide))
  refine Rn.iincN dX9_span_85 rfl (by decide) ?_
  refine Rn.goto 9 dX9_span_88 (by decide) ?_
  refine Rn.gen (fun H => H 3 0 = nI 0 ∧ ∀ c, 94 ≤ c → H c = I c) ⟨by exact ha3, fun c hc => by rw [zup_ne _ _ (by omega), zup_ne _ _ (by omega), cpC_ne _ (by omega)]; exact hc3 c hc⟩ (fun H4 hH => ?_)
  obtain ⟨ha4, hc4⟩ := hH
  refine Rn.lcl [some (.ref 0), some (.int (nI N)), some (.int y), some (.int (nI 0)), some (.int (nI 6)), some (.int (nI 0))] rfl ?_
  refine Rn.iload dX9_span_9 rfl ?_
  refine Rn.bipush (v := (nI 6)) dX9_span_11 rfl ?_
  refine Rn.icmp_gt (tgt := 91) dX9_span_13 (by decide) (fun h9 => absurd h9 (by decide)) (fun _ => ?_)
  refine Rn.aload_n dX9_span_16 rfl rfl ?_
  refine Rn.getR dX9_span_17 fd_X9_23_8 (by first | rfl | exact gC0 (by assumption) | exact gL0 (by assumption)) rfl ?_
  refine Rn.aload_n dX9_span_20 rfl rfl ?_
  refine Rn.getR dX9_span_21 fd_X9_19_8 (by first | rfl | exact gC0 (by assumption) | exact gL0 (by assumption)) rfl ?_
  refine Rn.callVp (As := [_]) dX9_span_24 mv_X9_91 (by first | rfl | exact gC0 (by assumption) | exact gL0 (by assumption)) rfl rfl rfl (Nat.le_of_ble_eq_true rfl) (ct_copy_3_7 G _ _) ?_
  refine Rn.aload_n dX9_span_27 rfl rfl ?_
  refine Rn.getR dX9_span_28 fd_X9_23_8 (by first | rfl | exact gC0 (by assumption) | exact gL0 (by assumption)) rfl ?_
  refine Rn.iload dX9_span_31 rfl ?_
  refine Rn.putI dX9_span_33 fp_X9_327_0 (by first | rfl | exact gC0 (by assumption) | exact gL0 (by assumption)) rfl ?_
  refine Rn.aload_n dX9_span_36 rfl rfl ?_
  refine Rn.getR dX9_span_37 fd_X9_32_8 (by first | rfl | exact gC0 (by assumption) | exact gL0 (by assumption)) rfl ?_
  refine Rn.aload_n dX9_span_40 rfl rfl ?_
  refine Rn.getR dX9_span_41 fd_X9_23_8 (by first | rfl | exact gC0 (by assumption) | exact gL0 (by assumption)) rfl ?_
  refine Rn.iload_n dX9_span_44 rfl rfl ?_
  refine Rn.callV (As := [_, _]) dX9_span_45 mv_X9_226 (by first | rfl | exact gC0 (by assumption) | exact gL0 (by assumption)) rfl rfl rfl (Nat.le_of_ble_eq_true rfl) (ct_pass_7 G _ _ (by exact ha4) N hN) (fun E J h => nomatch h.1) (fun v J1 q1 => ?_)
  obtain ⟨e1, z, e2⟩ := q1
  cases e1
  subst e2
  refine Rn.pop dX9_span_48 rfl ?_
  refine Rn.aload_n dX9_span_49 rfl rfl ?_
  refine Rn.getR dX9_span_50 fd_X9_23_8 (by first | rfl | exact gC0 (by assumption) | exact gL0 (by assumption)) rfl ?_
  refine Rn.callVp (As := []) dX9_span_53 mv_X9_324 (by first | rfl | exact gC0 (by assumption) | exact gL0 (by assumption)) rfl rfl rfl (Nat.le_of_ble_eq_true rfl) (ct_luckOfWomen_7 G _ _ (by exact ha4)) ?_
  refine Rn.istore dX9_span_56 (by decide) ?_
  refine Rn.iload_n dX9_span_58 rfl rfl ?_
  refine Rn.iconst (v := (-1)) dX9_span_59 rfl ?_
  refine Rn.icmp_eq (tgt := 82) dX9_span_60 (by decide) (fun h9 => absurd h9 (by decide)) (fun _ => ?_)
  refine Rn.iload_n dX9_span_63 rfl rfl ?_
  refine Rn.if_eq (tgt := 76) dX9_span_64 (by decide) (fun h9 => by exfalso; exact hy h9) (fun _ => ?_)
  refine Rn.iload dX9_span_67 rfl ?_
  refine Rn.iload_n dX9_span_69 rfl rfl ?_
  refine Rn.icmp_le (tgt := 85) dX9_span_70 (by decide) (fun _ => ?_) (fun h9 => absurd h9 (by decide))
  refine Rn.iincN dX9_span_85 rfl (by decide) ?_
  refine Rn.goto 9 dX9_span_88 (by decide) ?_
  refine Rn.gen (fun H => H 3 0 = nI 0 ∧ ∀ c, 94 ≤ c → H c = I c) ⟨by exact ha4, fun c hc => by rw [zup_ne _ _ (by omega), zup_ne _ _ (by omega), cpC_ne _ (by omega)]; exact hc4 c hc⟩ (fun H5 hH => ?_)
  obtain ⟨ha5, hc5⟩ := hH
  refine Rn.lcl [some (.ref 0), some (.int (nI N)), some (.int y), some (.int (nI 0)), some (.int (nI 7)), some (.int (nI 0))] rfl ?_
  refine Rn.iload dX9_span_9 rfl ?_
  refine Rn.bipush (v := (nI 6)) dX9_span_11 rfl ?_
  refine Rn.icmp_gt (tgt := 91) dX9_span_13 (by decide) (fun _ => ?_) (fun h9 => absurd h9 (by decide))
  refine Rn.iload_n dX9_span_91 rfl rfl ?_
  exact Rn.iret dX9_span_92 rfl (⟨rfl, hc5⟩)
theorem ct_X9_span1 (x y : Int32) (h : ¬ (¬ x < 0 ∧ x ≤ nI 60)) : Ct G GAM mX9_span (d + 1) 1 [.ref 0, .int x, .int y] I (Rx "java/lang/IllegalArgumentException" I) := by
  refine Ct.mk [some (.ref 0), some (.int x), some (.int y), none, none, none] ?_
  refine Rn.iload_n dX9_span_0 rfl rfl ?_
  exact Rn.callSt (b := 0) (mc := 1) (As := [_]) dX9_span_1 ms_X9_321 rfl rfl (Nat.le_of_ble_eq_true rfl) (ct_needTrial1 G _ _ _ h) (fun _ _ h => h) (fun _ _ h => nomatch h.1)
end ClsD
