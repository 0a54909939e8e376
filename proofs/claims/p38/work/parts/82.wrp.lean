abbrev mL_coast : Ym := (yL_coast, cL_coast, 3, some .int)
theorem dL_coast_0 : decode cL_coast 0 = .ok (.aload_n 1, 1) := by decide +kernel
theorem dL_coast_1 : decode cL_coast 1 = .ok (.iconst 0, 1) := by decide +kernel
theorem dL_coast_2 : decode cL_coast 2 = .ok (.aload_n 0, 1) := by decide +kernel
theorem dL_coast_3 : decode cL_coast 3 = .ok (.invokevirtual 7, 3) := by decide +kernel
theorem wi_549 : Cond.methodLink RL 7 yX9_coast ∈ WA := zin 549 (by decide +kernel) (by decide +kernel)
theorem wi_552 : Cond.code yX9_coast cX9_coast 2 (some .int) ∈ WA := zin 552 (by decide +kernel) (by decide +kernel)
theorem wi_550 : Cond.instanceMethod yX9_coast ∈ WA := zin 550 (by decide +kernel) (by decide +kernel)
theorem wi_551 : Cond.selects RX9 yX9_coast yX9_coast ∈ WA := zin 551 (by decide +kernel) (by decide +kernel)
theorem mv_L_7 : zMv RL 7 RX9 mX9_coast 0 := ⟨⟨wi_549, wi_100, wi_552, by decide, by decide +kernel⟩, wi_550, wi_551⟩
theorem wi_547 : Cond.classLink RL 13 "java/lang/IllegalArgumentException" ∈ WA := zin 547 (by decide +kernel) (by decide +kernel)
theorem dL_coast_11 : decode cL_coast 11 = .ok (.astore_n 2, 1) := by decide +kernel
theorem dL_coast_12 : decode cL_coast 12 = .ok (.iconst 1, 1) := by decide +kernel
theorem dL_coast_13 : decode cL_coast 13 = .ok (.ireturn, 1) := by decide +kernel
theorem wi_548 : Cond.classLink RL 15 "java/lang/UnsupportedOperationException" ∈ WA := zin 548 (by decide +kernel) (by decide +kernel)
theorem dL_coast_14 : decode cL_coast 14 = .ok (.astore_n 2, 1) := by decide +kernel
theorem dL_coast_15 : decode cL_coast 15 = .ok (.iconst 2, 1) := by decide +kernel
theorem dL_coast_16 : decode cL_coast 16 = .ok (.ireturn, 1) := by decide +kernel
theorem dL_coast_6 : decode cL_coast 6 = .ok (.i2l, 1) := by decide +kernel
theorem dL_coast_7 : decode cL_coast 7 = .ok (.lastore, 1) := by decide +kernel
theorem dL_coast_8 : decode cL_coast 8 = .ok (.goto 9, 3) := by decide +kernel
theorem dL_coast_17 : decode cL_coast 17 = .ok (.iconst 0, 1) := by decide +kernel
theorem dL_coast_18 : decode cL_coast 18 = .ok (.ireturn, 1) := by decide +kernel
abbrev mL_law : Ym := (yL_law, cL_law, 3, some .int)
theorem dL_law_0 : decode cL_law 0 = .ok (.aload_n 1, 1) := by decide +kernel
theorem dL_law_1 : decode cL_law 1 = .ok (.iconst 0, 1) := by decide +kernel
theorem dL_law_2 : decode cL_law 2 = .ok (.aload_n 0, 1) := by decide +kernel
theorem dL_law_3 : decode cL_law 3 = .ok (.invokevirtual 17, 3) := by decide +kernel
theorem wi_762 : Cond.methodLink RL 17 yX9_law ∈ WA := zin 762 (by decide +kernel) (by decide +kernel)
theorem wi_765 : Cond.code yX9_law cX9_law 2 (some .int) ∈ WA := zin 765 (by decide +kernel) (by decide +kernel)
theorem wi_763 : Cond.instanceMethod yX9_law ∈ WA := zin 763 (by decide +kernel) (by decide +kernel)
theorem wi_764 : Cond.selects RX9 yX9_law yX9_law ∈ WA := zin 764 (by decide +kernel) (by decide +kernel)
theorem mv_L_17 : zMv RL 17 RX9 mX9_law 0 := ⟨⟨wi_762, wi_100, wi_765, by decide, by decide +kernel⟩, wi_763, wi_764⟩
theorem dL_law_11 : decode cL_law 11 = .ok (.astore_n 2, 1) := by decide +kernel
theorem dL_law_12 : decode cL_law 12 = .ok (.iconst 1, 1) := by decide +kernel
theorem dL_law_13 : decode cL_law 13 = .ok (.ireturn, 1) := by decide +kernel
theorem dL_law_6 : decode cL_law 6 = .ok (.i2l, 1) := by decide +kernel
theorem dL_law_7 : decode cL_law 7 = .ok (.lastore, 1) := by decide +kernel
theorem dL_law_8 : decode cL_law 8 = .ok (.goto 6, 3) := by decide +kernel
theorem dL_law_14 : decode cL_law 14 = .ok (.iconst 0, 1) := by decide +kernel
theorem dL_law_15 : decode cL_law 15 = .ok (.ireturn, 1) := by decide +kernel
abbrev mL_woman : Ym := (yL_woman, cL_woman, 5, some .int)
theorem dL_woman_0 : decode cL_woman 0 = .ok (.aload_n 3, 1) := by decide +kernel
theorem dL_woman_1 : decode cL_woman 1 = .ok (.iconst 0, 1) := by decide +kernel
theorem dL_woman_2 : decode cL_woman 2 = .ok (.aload_n 0, 1) := by decide +kernel
theorem dL_woman_3 : decode cL_woman 3 = .ok (.iload_n 1, 1) := by decide +kernel
theorem dL_woman_4 : decode cL_woman 4 = .ok (.iload_n 2, 1) := by decide +kernel
theorem dL_woman_5 : decode cL_woman 5 = .ok (.invokevirtual 20, 3) := by decide +kernel
theorem wi_778 : Cond.methodLink RL 20 yX9_woman ∈ WA := zin 778 (by decide +kernel) (by decide +kernel)
theorem wi_781 : Cond.code yX9_woman cX9_woman 3 (some .int) ∈ WA := zin 781 (by decide +kernel) (by decide +kernel)
theorem wi_779 : Cond.instanceMethod yX9_woman ∈ WA := zin 779 (by decide +kernel) (by decide +kernel)
theorem wi_780 : Cond.selects RX9 yX9_woman yX9_woman ∈ WA := zin 780 (by decide +kernel) (by decide +kernel)
theorem mv_L_20 : zMv RL 20 RX9 mX9_woman 2 := ⟨⟨wi_778, wi_100, wi_781, by decide, by decide +kernel⟩, wi_779, wi_780⟩
theorem wi_776 : Cond.classLink RL 24 "java/lang/IndexOutOfBoundsException" ∈ WA := zin 776 (by decide +kernel) (by decide +kernel)
theorem dL_woman_13 : decode cL_woman 13 = .ok (.astore 4, 2) := by decide +kernel
theorem dL_woman_15 : decode cL_woman 15 = .ok (.iconst 1, 1) := by decide +kernel
theorem dL_woman_16 : decode cL_woman 16 = .ok (.ireturn, 1) := by decide +kernel
theorem wi_777 : Cond.classLink RL 26 "java/util/NoSuchElementException" ∈ WA := zin 777 (by decide +kernel) (by decide +kernel)
theorem dL_woman_17 : decode cL_woman 17 = .ok (.astore 4, 2) := by decide +kernel
theorem dL_woman_19 : decode cL_woman 19 = .ok (.iconst 2, 1) := by decide +kernel
theorem dL_woman_20 : decode cL_woman 20 = .ok (.ireturn, 1) := by decide +kernel
theorem dL_woman_8 : decode cL_woman 8 = .ok (.i2l, 1) := by decide +kernel
theorem dL_woman_9 : decode cL_woman 9 = .ok (.lastore, 1) := by decide +kernel
theorem dL_woman_10 : decode cL_woman 10 = .ok (.goto 11, 3) := by decide +kernel
theorem dL_woman_21 : decode cL_woman 21 = .ok (.iconst 0, 1) := by decide +kernel
theorem dL_woman_22 : decode cL_woman 22 = .ok (.ireturn, 1) := by decide +kernel
abbrev mL_thing : Ym := (yL_thing, cL_thing, 5, some .int)
theorem dL_thing_0 : decode cL_thing 0 = .ok (.aload_n 3, 1) := by decide +kernel
theorem dL_thing_1 : decode cL_thing 1 = .ok (.iconst 0, 1) := by decide +kernel
theorem dL_thing_2 : decode cL_thing 2 = .ok (.aload_n 0, 1) := by decide +kernel
theorem dL_thing_3 : decode cL_thing 3 = .ok (.iload_n 1, 1) := by decide +kernel
theorem dL_thing_4 : decode cL_thing 4 = .ok (.iload_n 2, 1) := by decide +kernel
theorem dL_thing_5 : decode cL_thing 5 = .ok (.invokevirtual 28, 3) := by decide +kernel
theorem wi_822 : Cond.methodLink RL 28 yX9_thing ∈ WA := zin 822 (by decide +kernel) (by decide +kernel)
theorem wi_825 : Cond.code yX9_thing cX9_thing 3 (some .int) ∈ WA := zin 825 (by decide +kernel) (by decide +kernel)
theorem wi_823 : Cond.instanceMethod yX9_thing ∈ WA := zin 823 (by decide +kernel) (by decide +kernel)
theorem wi_824 : Cond.selects RX9 yX9_thing yX9_thing ∈ WA := zin 824 (by decide +kernel) (by decide +kernel)
theorem mv_L_28 : zMv RL 28 RX9 mX9_thing 2 := ⟨⟨wi_822, wi_100, wi_825, by decide, by decide +kernel⟩, wi_823, wi_824⟩
theorem dL_thing_13 : decode cL_thing 13 = .ok (.astore 4, 2) := by decide +kernel
theorem dL_thing_15 : decode cL_thing 15 = .ok (.iconst 1, 1) := by decide +kernel
theorem dL_thing_16 : decode cL_thing 16 = .ok (.ireturn, 1) := by decide +kernel
theorem dL_thing_17 : decode cL_thing 17 = .ok (.astore 4, 2) := by decide +kernel
theorem dL_thing_19 : decode cL_thing 19 = .ok (.iconst 2, 1) := by decide +kernel
theorem dL_thing_20 : decode cL_thing 20 = .ok (.ireturn, 1) := by decide +kernel
theorem dL_thing_8 : decode cL_thing 8 = .ok (.i2l, 1) := by decide +kernel
theorem dL_thing_9 : decode cL_thing 9 = .ok (.lastore, 1) := by decide +kernel
theorem dL_thing_10 : decode cL_thing 10 = .ok (.goto 11, 3) := by decide +kernel
theorem dL_thing_21 : decode cL_thing 21 = .ok (.iconst 0, 1) := by decide +kernel
theorem dL_thing_22 : decode cL_thing 22 = .ok (.ireturn, 1) := by decide +kernel
abbrev mL_gain : Ym := (yL_gain, cL_gain, 5, some .int)
theorem dL_gain_0 : decode cL_gain 0 = .ok (.aload_n 3, 1) := by decide +kernel
theorem dL_gain_1 : decode cL_gain 1 = .ok (.iconst 0, 1) := by decide +kernel
theorem dL_gain_2 : decode cL_gain 2 = .ok (.aload_n 0, 1) := by decide +kernel
theorem dL_gain_3 : decode cL_gain 3 = .ok (.iload_n 1, 1) := by decide +kernel
theorem dL_gain_4 : decode cL_gain 4 = .ok (.iload_n 2, 1) := by decide +kernel
theorem dL_gain_5 : decode cL_gain 5 = .ok (.invokevirtual 31, 3) := by decide +kernel
theorem wi_836 : Cond.methodLink RL 31 yX9_gain ∈ WA := zin 836 (by decide +kernel) (by decide +kernel)
theorem wi_839 : Cond.code yX9_gain cX9_gain 3 (some .int) ∈ WA := zin 839 (by decide +kernel) (by decide +kernel)
theorem wi_837 : Cond.instanceMethod yX9_gain ∈ WA := zin 837 (by decide +kernel) (by decide +kernel)
theorem wi_838 : Cond.selects RX9 yX9_gain yX9_gain ∈ WA := zin 838 (by decide +kernel) (by decide +kernel)
theorem mv_L_31 : zMv RL 31 RX9 mX9_gain 2 := ⟨⟨wi_836, wi_100, wi_839, by decide, by decide +kernel⟩, wi_837, wi_838⟩
theorem dL_gain_13 : decode cL_gain 13 = .ok (.astore 4, 2) := by decide +kernel
theorem dL_gain_15 : decode cL_gain 15 = .ok (.iconst 1, 1) := by decide +kernel
theorem dL_gain_16 : decode cL_gain 16 = .ok (.ireturn, 1) := by decide +kernel
theorem dL_gain_8 : decode cL_gain 8 = .ok (.i2l, 1) := by decide +kernel
theorem dL_gain_9 : decode cL_gain 9 = .ok (.lastore, 1) := by decide +kernel
theorem dL_gain_10 : decode cL_gain 10 = .ok (.goto 7, 3) := by decide +kernel
theorem dL_gain_17 : decode cL_gain 17 = .ok (.iconst 0, 1) := by decide +kernel
theorem dL_gain_18 : decode cL_gain 18 = .ok (.ireturn, 1) := by decide +kernel
abbrev mL_flows : Ym := (yL_flows, cL_flows, 6, some .int)
theorem dL_flows_0 : decode cL_flows 0 = .ok (.aload 4, 2) := by decide +kernel
theorem dL_flows_2 : decode cL_flows 2 = .ok (.iconst 0, 1) := by decide +kernel
theorem dL_flows_3 : decode cL_flows 3 = .ok (.aload_n 0, 1) := by decide +kernel
theorem dL_flows_4 : decode cL_flows 4 = .ok (.iload_n 1, 1) := by decide +kernel
theorem dL_flows_5 : decode cL_flows 5 = .ok (.iload_n 2, 1) := by decide +kernel
theorem dL_flows_6 : decode cL_flows 6 = .ok (.iload_n 3, 1) := by decide +kernel
theorem dL_flows_7 : decode cL_flows 7 = .ok (.invokevirtual 34, 3) := by decide +kernel
theorem wi_874 : Cond.methodLink RL 34 yX9_flows ∈ WA := zin 874 (by decide +kernel) (by decide +kernel)
theorem wi_877 : Cond.code yX9_flows cX9_flows 4 (some .int) ∈ WA := zin 877 (by decide +kernel) (by decide +kernel)
theorem wi_875 : Cond.instanceMethod yX9_flows ∈ WA := zin 875 (by decide +kernel) (by decide +kernel)
theorem wi_876 : Cond.selects RX9 yX9_flows yX9_flows ∈ WA := zin 876 (by decide +kernel) (by decide +kernel)
theorem mv_L_34 : zMv RL 34 RX9 mX9_flows 3 := ⟨⟨wi_874, wi_100, wi_877, by decide, by decide +kernel⟩, wi_875, wi_876⟩
theorem dL_flows_15 : decode cL_flows 15 = .ok (.astore 5, 2) := by decide +kernel
theorem dL_flows_17 : decode cL_flows 17 = .ok (.iconst 1, 1) := by decide +kernel
theorem dL_flows_18 : decode cL_flows 18 = .ok (.ireturn, 1) := by decide +kernel
theorem dL_flows_10 : decode cL_flows 10 = .ok (.i2l, 1) := by decide +kernel
theorem dL_flows_11 : decode cL_flows 11 = .ok (.lastore, 1) := by decide +kernel
theorem dL_flows_12 : decode cL_flows 12 = .ok (.goto 7, 3) := by decide +kernel
theorem dL_flows_19 : decode cL_flows 19 = .ok (.iconst 0, 1) := by decide +kernel
theorem dL_flows_20 : decode cL_flows 20 = .ok (.ireturn, 1) := by decide +kernel
abbrev mL_lend : Ym := (yL_lend, cL_lend, 5, some .int)
theorem dL_lend_0 : decode cL_lend 0 = .ok (.aload_n 3, 1) := by decide +kernel
theorem dL_lend_1 : decode cL_lend 1 = .ok (.iconst 0, 1) := by decide +kernel
theorem dL_lend_2 : decode cL_lend 2 = .ok (.aload_n 0, 1) := by decide +kernel
theorem dL_lend_3 : decode cL_lend 3 = .ok (.iload_n 1, 1) := by decide +kernel
theorem dL_lend_4 : decode cL_lend 4 = .ok (.iload_n 2, 1) := by decide +kernel
theorem dL_lend_5 : decode cL_lend 5 = .ok (.invokevirtual 38, 3) := by decide +kernel
theorem wi_887 : Cond.methodLink RL 38 yX9_lend ∈ WA := zin 887 (by decide +kernel) (by decide +kernel)
theorem wi_890 : Cond.code yX9_lend cX9_lend 4 (some .int) ∈ WA := zin 890 (by decide +kernel) (by decide +kernel)
theorem wi_888 : Cond.instanceMethod yX9_lend ∈ WA := zin 888 (by decide +kernel) (by decide +kernel)
theorem wi_889 : Cond.selects RX9 yX9_lend yX9_lend ∈ WA := zin 889 (by decide +kernel) (by decide +kernel)
theorem mv_L_38 : zMv RL 38 RX9 mX9_lend 2 := ⟨⟨wi_887, wi_100, wi_890, by decide, by decide +kernel⟩, wi_888, wi_889⟩
theorem dL_lend_17 : decode cL_lend 17 = .ok (.astore 4, 2) := by decide +kernel
theorem dL_lend_19 : decode cL_lend 19 = .ok (.iconst 2, 1) := by decide +kernel
theorem dL_lend_20 : decode cL_lend 20 = .ok (.ireturn, 1) := by decide +kernel
theorem dL_lend_13 : decode cL_lend 13 = .ok (.astore 4, 2) := by decide +kernel
theorem dL_lend_15 : decode cL_lend 15 = .ok (.iconst 1, 1) := by decide +kernel
theorem dL_lend_16 : decode cL_lend 16 = .ok (.ireturn, 1) := by decide +kernel
theorem wi_886 : Cond.classLink RL 41 "java/lang/IllegalStateException" ∈ WA := zin 886 (by decide +kernel) (by decide +kernel)
theorem dL_lend_21 : decode cL_lend 21 = .ok (.astore 4, 2) := by decide +kernel
theorem dL_lend_23 : decode cL_lend 23 = .ok (.iconst 3, 1) := by decide +kernel
theorem dL_lend_24 : decode cL_lend 24 = .ok (.ireturn, 1) := by decide +kernel
theorem dL_lend_8 : decode cL_lend 8 = .ok (.i2l, 1) := by decide +kernel
theorem dL_lend_9 : decode cL_lend 9 = .ok (.lastore, 1) := by decide +kernel
theorem dL_lend_10 : decode cL_lend 10 = .ok (.goto 15, 3) := by decide +kernel
theorem dL_lend_25 : decode cL_lend 25 = .ok (.iconst 0, 1) := by decide +kernel
theorem dL_lend_26 : decode cL_lend 26 = .ok (.ireturn, 1) := by decide +kernel
abbrev mL_wed : Ym := (yL_wed, cL_wed, 5, some .int)
theorem dL_wed_0 : decode cL_wed 0 = .ok (.aload_n 3, 1) := by decide +kernel
theorem dL_wed_1 : decode cL_wed 1 = .ok (.iconst 0, 1) := by decide +kernel
theorem dL_wed_2 : decode cL_wed 2 = .ok (.aload_n 0, 1) := by decide +kernel
theorem dL_wed_3 : decode cL_wed 3 = .ok (.iload_n 1, 1) := by decide +kernel
theorem dL_wed_4 : decode cL_wed 4 = .ok (.iload_n 2, 1) := by decide +kernel
theorem dL_wed_5 : decode cL_wed 5 = .ok (.invokevirtual 43, 3) := by decide +kernel
theorem wi_921 : Cond.methodLink RL 43 yX9_wed ∈ WA := zin 921 (by decide +kernel) (by decide +kernel)
theorem wi_924 : Cond.code yX9_wed cX9_wed 4 (some .int) ∈ WA := zin 924 (by decide +kernel) (by decide +kernel)
theorem wi_922 : Cond.instanceMethod yX9_wed ∈ WA := zin 922 (by decide +kernel) (by decide +kernel)
theorem wi_923 : Cond.selects RX9 yX9_wed yX9_wed ∈ WA := zin 923 (by decide +kernel) (by decide +kernel)
theorem mv_L_43 : zMv RL 43 RX9 mX9_wed 2 := ⟨⟨wi_921, wi_100, wi_924, by decide, by decide +kernel⟩, wi_922, wi_923⟩
theorem dL_wed_13 : decode cL_wed 13 = .ok (.astore 4, 2) := by decide +kernel
theorem dL_wed_15 : decode cL_wed 15 = .ok (.iconst 1, 1) := by decide +kernel
theorem dL_wed_16 : decode cL_wed 16 = .ok (.ireturn, 1) := by decide +kernel
theorem dL_wed_17 : decode cL_wed 17 = .ok (.astore 4, 2) := by decide +kernel
theorem dL_wed_19 : decode cL_wed 19 = .ok (.iconst 2, 1) := by decide +kernel
theorem dL_wed_20 : decode cL_wed 20 = .ok (.ireturn, 1) := by decide +kernel
theorem dL_wed_8 : decode cL_wed 8 = .ok (.i2l, 1) := by decide +kernel
theorem dL_wed_9 : decode cL_wed 9 = .ok (.lastore, 1) := by decide +kernel
theorem dL_wed_10 : decode cL_wed 10 = .ok (.goto 11, 3) := by decide +kernel
theorem dL_wed_21 : decode cL_wed 21 = .ok (.iconst 0, 1) := by decide +kernel
theorem dL_wed_22 : decode cL_wed 22 = .ok (.ireturn, 1) := by decide +kernel
abbrev mL_pawn : Ym := (yL_pawn, cL_pawn, 4, some .int)
theorem dL_pawn_0 : decode cL_pawn 0 = .ok (.aload_n 2, 1) := by decide +kernel
theorem dL_pawn_1 : decode cL_pawn 1 = .ok (.iconst 0, 1) := by decide +kernel
theorem dL_pawn_2 : decode cL_pawn 2 = .ok (.aload_n 0, 1) := by decide +kernel
theorem dL_pawn_3 : decode cL_pawn 3 = .ok (.iload_n 1, 1) := by decide +kernel
theorem dL_pawn_4 : decode cL_pawn 4 = .ok (.invokevirtual 46, 3) := by decide +kernel
theorem wi_949 : Cond.methodLink RL 46 yX9_pawn ∈ WA := zin 949 (by decide +kernel) (by decide +kernel)
theorem wi_952 : Cond.code yX9_pawn cX9_pawn 4 (some .int) ∈ WA := zin 952 (by decide +kernel) (by decide +kernel)
theorem wi_950 : Cond.instanceMethod yX9_pawn ∈ WA := zin 950 (by decide +kernel) (by decide +kernel)
theorem wi_951 : Cond.selects RX9 yX9_pawn yX9_pawn ∈ WA := zin 951 (by decide +kernel) (by decide +kernel)
theorem mv_L_46 : zMv RL 46 RX9 mX9_pawn 1 := ⟨⟨wi_949, wi_100, wi_952, by decide, by decide +kernel⟩, wi_950, wi_951⟩
theorem dL_pawn_12 : decode cL_pawn 12 = .ok (.astore_n 3, 1) := by decide +kernel
theorem dL_pawn_13 : decode cL_pawn 13 = .ok (.iconst 1, 1) := by decide +kernel
theorem dL_pawn_14 : decode cL_pawn 14 = .ok (.ireturn, 1) := by decide +kernel
theorem dL_pawn_15 : decode cL_pawn 15 = .ok (.astore_n 3, 1) := by decide +kernel
theorem dL_pawn_16 : decode cL_pawn 16 = .ok (.iconst 2, 1) := by decide +kernel
theorem dL_pawn_17 : decode cL_pawn 17 = .ok (.ireturn, 1) := by decide +kernel
theorem dL_pawn_7 : decode cL_pawn 7 = .ok (.i2l, 1) := by decide +kernel
theorem dL_pawn_8 : decode cL_pawn 8 = .ok (.lastore, 1) := by decide +kernel
theorem dL_pawn_9 : decode cL_pawn 9 = .ok (.goto 9, 3) := by decide +kernel
theorem dL_pawn_18 : decode cL_pawn 18 = .ok (.iconst 0, 1) := by decide +kernel
theorem dL_pawn_19 : decode cL_pawn 19 = .ok (.ireturn, 1) := by decide +kernel
abbrev mL_redeem : Ym := (yL_redeem, cL_redeem, 4, some .int)
theorem dL_redeem_0 : decode cL_redeem 0 = .ok (.aload_n 2, 1) := by decide +kernel
theorem dL_redeem_1 : decode cL_redeem 1 = .ok (.iconst 0, 1) := by decide +kernel
theorem dL_redeem_2 : decode cL_redeem 2 = .ok (.aload_n 0, 1) := by decide +kernel
theorem dL_redeem_3 : decode cL_redeem 3 = .ok (.iload_n 1, 1) := by decide +kernel
theorem dL_redeem_4 : decode cL_redeem 4 = .ok (.invokevirtual 50, 3) := by decide +kernel
theorem wi_959 : Cond.methodLink RL 50 yX9_redeem ∈ WA := zin 959 (by decide +kernel) (by decide +kernel)
theorem wi_962 : Cond.code yX9_redeem cX9_redeem 4 (some .int) ∈ WA := zin 962 (by decide +kernel) (by decide +kernel)
theorem wi_960 : Cond.instanceMethod yX9_redeem ∈ WA := zin 960 (by decide +kernel) (by decide +kernel)
theorem wi_961 : Cond.selects RX9 yX9_redeem yX9_redeem ∈ WA := zin 961 (by decide +kernel) (by decide +kernel)
theorem mv_L_50 : zMv RL 50 RX9 mX9_redeem 1 := ⟨⟨wi_959, wi_100, wi_962, by decide, by decide +kernel⟩, wi_960, wi_961⟩
theorem dL_redeem_12 : decode cL_redeem 12 = .ok (.astore_n 3, 1) := by decide +kernel
theorem dL_redeem_13 : decode cL_redeem 13 = .ok (.iconst 1, 1) := by decide +kernel
theorem dL_redeem_14 : decode cL_redeem 14 = .ok (.ireturn, 1) := by decide +kernel
theorem dL_redeem_15 : decode cL_redeem 15 = .ok (.astore_n 3, 1) := by decide +kernel
theorem dL_redeem_16 : decode cL_redeem 16 = .ok (.iconst 2, 1) := by decide +kernel
theorem dL_redeem_17 : decode cL_redeem 17 = .ok (.ireturn, 1) := by decide +kernel
theorem dL_redeem_7 : decode cL_redeem 7 = .ok (.i2l, 1) := by decide +kernel
theorem dL_redeem_8 : decode cL_redeem 8 = .ok (.lastore, 1) := by decide +kernel
theorem dL_redeem_9 : decode cL_redeem 9 = .ok (.goto 9, 3) := by decide +kernel
theorem dL_redeem_18 : decode cL_redeem 18 = .ok (.iconst 0, 1) := by decide +kernel
theorem dL_redeem_19 : decode cL_redeem 19 = .ok (.ireturn, 1) := by decide +kernel
abbrev mL_cut : Ym := (yL_cut, cL_cut, 4, some .int)
theorem dL_cut_0 : decode cL_cut 0 = .ok (.aload_n 2, 1) := by decide +kernel
theorem dL_cut_1 : decode cL_cut 1 = .ok (.iconst 0, 1) := by decide +kernel
theorem dL_cut_2 : decode cL_cut 2 = .ok (.aload_n 0, 1) := by decide +kernel
theorem dL_cut_3 : decode cL_cut 3 = .ok (.iload_n 1, 1) := by decide +kernel
theorem dL_cut_4 : decode cL_cut 4 = .ok (.invokevirtual 53, 3) := by decide +kernel
theorem wi_967 : Cond.methodLink RL 53 yX9_cut ∈ WA := zin 967 (by decide +kernel) (by decide +kernel)
theorem wi_970 : Cond.code yX9_cut cX9_cut 3 (some .int) ∈ WA := zin 970 (by decide +kernel) (by decide +kernel)
theorem wi_968 : Cond.instanceMethod yX9_cut ∈ WA := zin 968 (by decide +kernel) (by decide +kernel)
theorem wi_969 : Cond.selects RX9 yX9_cut yX9_cut ∈ WA := zin 969 (by decide +kernel) (by decide +kernel)
theorem mv_L_53 : zMv RL 53 RX9 mX9_cut 1 := ⟨⟨wi_967, wi_100, wi_970, by decide, by decide +kernel⟩, wi_968, wi_969⟩
theorem dL_cut_12 : decode cL_cut 12 = .ok (.astore_n 3, 1) := by decide +kernel
theorem dL_cut_13 : decode cL_cut 13 = .ok (.iconst 1, 1) := by decide +kernel
theorem dL_cut_14 : decode cL_cut 14 = .ok (.ireturn, 1) := by decide +kernel
theorem dL_cut_15 : decode cL_cut 15 = .ok (.astore_n 3, 1) := by decide +kernel
theorem dL_cut_16 : decode cL_cut 16 = .ok (.iconst 2, 1) := by decide +kernel
theorem dL_cut_17 : decode cL_cut 17 = .ok (.ireturn, 1) := by decide +kernel
theorem dL_cut_7 : decode cL_cut 7 = .ok (.i2l, 1) := by decide +kernel
theorem dL_cut_8 : decode cL_cut 8 = .ok (.lastore, 1) := by decide +kernel
theorem dL_cut_9 : decode cL_cut 9 = .ok (.goto 9, 3) := by decide +kernel
theorem dL_cut_18 : decode cL_cut 18 = .ok (.iconst 0, 1) := by decide +kernel
theorem dL_cut_19 : decode cL_cut 19 = .ok (.ireturn, 1) := by decide +kernel
abbrev mL_widow : Ym := (yL_widow, cL_widow, 5, some .int)
theorem dL_widow_0 : decode cL_widow 0 = .ok (.aload_n 3, 1) := by decide +kernel
theorem dL_widow_1 : decode cL_widow 1 = .ok (.iconst 0, 1) := by decide +kernel
theorem dL_widow_2 : decode cL_widow 2 = .ok (.aload_n 0, 1) := by decide +kernel
theorem dL_widow_3 : decode cL_widow 3 = .ok (.iload_n 1, 1) := by decide +kernel
theorem dL_widow_4 : decode cL_widow 4 = .ok (.iload_n 2, 1) := by decide +kernel
theorem dL_widow_5 : decode cL_widow 5 = .ok (.invokevirtual 56, 3) := by decide +kernel
theorem wi_976 : Cond.methodLink RL 56 yX9_widow ∈ WA := zin 976 (by decide +kernel) (by decide +kernel)
theorem wi_979 : Cond.code yX9_widow cX9_widow 5 (some .boolean) ∈ WA := zin 979 (by decide +kernel) (by decide +kernel)
theorem wi_977 : Cond.instanceMethod yX9_widow ∈ WA := zin 977 (by decide +kernel) (by decide +kernel)
theorem wi_978 : Cond.selects RX9 yX9_widow yX9_widow ∈ WA := zin 978 (by decide +kernel) (by decide +kernel)
theorem mv_L_56 : zMv RL 56 RX9 mX9_widow 2 := ⟨⟨wi_976, wi_100, wi_979, by decide, by decide +kernel⟩, wi_977, wi_978⟩
theorem dL_widow_20 : decode cL_widow 20 = .ok (.astore 4, 2) := by decide +kernel
theorem dL_widow_22 : decode cL_widow 22 = .ok (.iconst 1, 1) := by decide +kernel
theorem dL_widow_23 : decode cL_widow 23 = .ok (.ireturn, 1) := by decide +kernel
theorem dL_widow_8 : decode cL_widow 8 = .ok (.ifCond .eq 7, 3) := by decide +kernel
theorem dL_widow_15 : decode cL_widow 15 = .ok (.lconst 0, 1) := by decide +kernel
theorem dL_widow_16 : decode cL_widow 16 = .ok (.lastore, 1) := by decide +kernel
theorem dL_widow_17 : decode cL_widow 17 = .ok (.goto 7, 3) := by decide +kernel
theorem dL_widow_24 : decode cL_widow 24 = .ok (.iconst 0, 1) := by decide +kernel
theorem dL_widow_25 : decode cL_widow 25 = .ok (.ireturn, 1) := by decide +kernel
theorem dL_widow_11 : decode cL_widow 11 = .ok (.lconst 1, 1) := by decide +kernel
theorem dL_widow_12 : decode cL_widow 12 = .ok (.goto 4, 3) := by decide +kernel
abbrev mL_days : Ym := (yL_days, cL_days, 4, some .int)
theorem dL_days_0 : decode cL_days 0 = .ok (.aload_n 2, 1) := by decide +kernel
theorem dL_days_1 : decode cL_days 1 = .ok (.iconst 0, 1) := by decide +kernel
theorem dL_days_2 : decode cL_days 2 = .ok (.aload_n 0, 1) := by decide +kernel
theorem dL_days_3 : decode cL_days 3 = .ok (.iload_n 1, 1) := by decide +kernel
theorem dL_days_4 : decode cL_days 4 = .ok (.invokevirtual 60, 3) := by decide +kernel
theorem wi_983 : Cond.methodLink RL 60 yX9_days ∈ WA := zin 983 (by decide +kernel) (by decide +kernel)
theorem wi_986 : Cond.code yX9_days cX9_days 2 (some .int) ∈ WA := zin 986 (by decide +kernel) (by decide +kernel)
theorem wi_984 : Cond.instanceMethod yX9_days ∈ WA := zin 984 (by decide +kernel) (by decide +kernel)
theorem wi_985 : Cond.selects RX9 yX9_days yX9_days ∈ WA := zin 985 (by decide +kernel) (by decide +kernel)
theorem mv_L_60 : zMv RL 60 RX9 mX9_days 1 := ⟨⟨wi_983, wi_100, wi_986, by decide, by decide +kernel⟩, wi_984, wi_985⟩
theorem dL_days_12 : decode cL_days 12 = .ok (.astore_n 3, 1) := by decide +kernel
theorem dL_days_13 : decode cL_days 13 = .ok (.iconst 1, 1) := by decide +kernel
theorem dL_days_14 : decode cL_days 14 = .ok (.ireturn, 1) := by decide +kernel
theorem dL_days_7 : decode cL_days 7 = .ok (.i2l, 1) := by decide +kernel
theorem dL_days_8 : decode cL_days 8 = .ok (.lastore, 1) := by decide +kernel
theorem dL_days_9 : decode cL_days 9 = .ok (.goto 6, 3) := by decide +kernel
theorem dL_days_15 : decode cL_days 15 = .ok (.iconst 0, 1) := by decide +kernel
theorem dL_days_16 : decode cL_days 16 = .ok (.ireturn, 1) := by decide +kernel
abbrev mL_best : Ym := (yL_best, cL_best, 4, some .int)
theorem dL_best_0 : decode cL_best 0 = .ok (.aload_n 2, 1) := by decide +kernel
theorem dL_best_1 : decode cL_best 1 = .ok (.iconst 0, 1) := by decide +kernel
theorem dL_best_2 : decode cL_best 2 = .ok (.aload_n 0, 1) := by decide +kernel
theorem dL_best_3 : decode cL_best 3 = .ok (.iload_n 1, 1) := by decide +kernel
theorem dL_best_4 : decode cL_best 4 = .ok (.invokevirtual 63, 3) := by decide +kernel
theorem wi_1003 : Cond.methodLink RL 63 yX9_best ∈ WA := zin 1003 (by decide +kernel) (by decide +kernel)
theorem wi_1006 : Cond.code yX9_best cX9_best 6 (some .int) ∈ WA := zin 1006 (by decide +kernel) (by decide +kernel)
theorem wi_1004 : Cond.instanceMethod yX9_best ∈ WA := zin 1004 (by decide +kernel) (by decide +kernel)
theorem wi_1005 : Cond.selects RX9 yX9_best yX9_best ∈ WA := zin 1005 (by decide +kernel) (by decide +kernel)
theorem mv_L_63 : zMv RL 63 RX9 mX9_best 1 := ⟨⟨wi_1003, wi_100, wi_1006, by decide, by decide +kernel⟩, wi_1004, wi_1005⟩
theorem dL_best_12 : decode cL_best 12 = .ok (.astore_n 3, 1) := by decide +kernel
theorem dL_best_13 : decode cL_best 13 = .ok (.iconst 1, 1) := by decide +kernel
theorem dL_best_14 : decode cL_best 14 = .ok (.ireturn, 1) := by decide +kernel
theorem dL_best_7 : decode cL_best 7 = .ok (.i2l, 1) := by decide +kernel
theorem dL_best_8 : decode cL_best 8 = .ok (.lastore, 1) := by decide +kernel
theorem dL_best_9 : decode cL_best 9 = .ok (.goto 6, 3) := by decide +kernel
theorem dL_best_15 : decode cL_best 15 = .ok (.iconst 0, 1) := by decide +kernel
theorem dL_best_16 : decode cL_best 16 = .ok (.ireturn, 1) := by decide +kernel
abbrev mL_order : Ym := (yL_order, cL_order, 6, some .int)
theorem dL_order_0 : decode cL_order 0 = .ok (.aload 4, 2) := by decide +kernel
theorem dL_order_2 : decode cL_order 2 = .ok (.iconst 0, 1) := by decide +kernel
theorem dL_order_3 : decode cL_order 3 = .ok (.aload_n 0, 1) := by decide +kernel
theorem dL_order_4 : decode cL_order 4 = .ok (.iload_n 1, 1) := by decide +kernel
theorem dL_order_5 : decode cL_order 5 = .ok (.iload_n 2, 1) := by decide +kernel
theorem dL_order_6 : decode cL_order 6 = .ok (.iload_n 3, 1) := by decide +kernel
theorem dL_order_7 : decode cL_order 7 = .ok (.invokevirtual 66, 3) := by decide +kernel
theorem wi_1011 : Cond.methodLink RL 66 yX9_order ∈ WA := zin 1011 (by decide +kernel) (by decide +kernel)
theorem wi_1014 : Cond.code yX9_order cX9_order 5 (some .int) ∈ WA := zin 1014 (by decide +kernel) (by decide +kernel)
theorem wi_1012 : Cond.instanceMethod yX9_order ∈ WA := zin 1012 (by decide +kernel) (by decide +kernel)
theorem wi_1013 : Cond.selects RX9 yX9_order yX9_order ∈ WA := zin 1013 (by decide +kernel) (by decide +kernel)
theorem mv_L_66 : zMv RL 66 RX9 mX9_order 3 := ⟨⟨wi_1011, wi_100, wi_1014, by decide, by decide +kernel⟩, wi_1012, wi_1013⟩
theorem dL_order_19 : decode cL_order 19 = .ok (.astore 5, 2) := by decide +kernel
theorem dL_order_21 : decode cL_order 21 = .ok (.iconst 2, 1) := by decide +kernel
theorem dL_order_22 : decode cL_order 22 = .ok (.ireturn, 1) := by decide +kernel
theorem dL_order_15 : decode cL_order 15 = .ok (.astore 5, 2) := by decide +kernel
theorem dL_order_17 : decode cL_order 17 = .ok (.iconst 1, 1) := by decide +kernel
theorem dL_order_18 : decode cL_order 18 = .ok (.ireturn, 1) := by decide +kernel
theorem dL_order_10 : decode cL_order 10 = .ok (.i2l, 1) := by decide +kernel
theorem dL_order_11 : decode cL_order 11 = .ok (.lastore, 1) := by decide +kernel
theorem dL_order_12 : decode cL_order 12 = .ok (.goto 11, 3) := by decide +kernel
theorem dL_order_23 : decode cL_order 23 = .ok (.iconst 0, 1) := by decide +kernel
theorem dL_order_24 : decode cL_order 24 = .ok (.ireturn, 1) := by decide +kernel
abbrev mL_lowest : Ym := (yL_lowest, cL_lowest, 5, some .int)
theorem dL_lowest_0 : decode cL_lowest 0 = .ok (.aload_n 3, 1) := by decide +kernel
theorem dL_lowest_1 : decode cL_lowest 1 = .ok (.iconst 0, 1) := by decide +kernel
theorem dL_lowest_2 : decode cL_lowest 2 = .ok (.aload_n 0, 1) := by decide +kernel
theorem dL_lowest_3 : decode cL_lowest 3 = .ok (.iload_n 1, 1) := by decide +kernel
theorem dL_lowest_4 : decode cL_lowest 4 = .ok (.iload_n 2, 1) := by decide +kernel
theorem dL_lowest_5 : decode cL_lowest 5 = .ok (.invokevirtual 69, 3) := by decide +kernel
theorem wi_1052 : Cond.methodLink RL 69 yX9_lowest ∈ WA := zin 1052 (by decide +kernel) (by decide +kernel)
theorem wi_1055 : Cond.code yX9_lowest cX9_lowest 3 (some .int) ∈ WA := zin 1055 (by decide +kernel) (by decide +kernel)
theorem wi_1053 : Cond.instanceMethod yX9_lowest ∈ WA := zin 1053 (by decide +kernel) (by decide +kernel)
theorem wi_1054 : Cond.selects RX9 yX9_lowest yX9_lowest ∈ WA := zin 1054 (by decide +kernel) (by decide +kernel)
theorem mv_L_69 : zMv RL 69 RX9 mX9_lowest 2 := ⟨⟨wi_1052, wi_100, wi_1055, by decide, by decide +kernel⟩, wi_1053, wi_1054⟩
theorem dL_lowest_17 : decode cL_lowest 17 = .ok (.astore 4, 2) := by decide +kernel
theorem dL_lowest_19 : decode cL_lowest 19 = .ok (.iconst 2, 1) := by decide +kernel
theorem dL_lowest_20 : decode cL_lowest 20 = .ok (.ireturn, 1) := by decide +kernel
theorem dL_lowest_13 : decode cL_lowest 13 = .ok (.astore 4, 2) := by decide +kernel
theorem dL_lowest_15 : decode cL_lowest 15 = .ok (.iconst 1, 1) := by decide +kernel
theorem dL_lowest_16 : decode cL_lowest 16 = .ok (.ireturn, 1) := by decide +kernel
theorem dL_lowest_8 : decode cL_lowest 8 = .ok (.i2l, 1) := by decide +kernel
theorem dL_lowest_9 : decode cL_lowest 9 = .ok (.lastore, 1) := by decide +kernel
theorem dL_lowest_10 : decode cL_lowest 10 = .ok (.goto 11, 3) := by decide +kernel
theorem dL_lowest_21 : decode cL_lowest 21 = .ok (.iconst 0, 1) := by decide +kernel
theorem dL_lowest_22 : decode cL_lowest 22 = .ok (.ireturn, 1) := by decide +kernel
abbrev mL_reach : Ym := (yL_reach, cL_reach, 7, some .int)
theorem dL_reach_0 : decode cL_reach 0 = .ok (.aload 5, 2) := by decide +kernel
theorem dL_reach_2 : decode cL_reach 2 = .ok (.iconst 0, 1) := by decide +kernel
theorem dL_reach_3 : decode cL_reach 3 = .ok (.aload_n 0, 1) := by decide +kernel
theorem dL_reach_4 : decode cL_reach 4 = .ok (.iload_n 1, 1) := by decide +kernel
theorem dL_reach_5 : decode cL_reach 5 = .ok (.iload_n 2, 1) := by decide +kernel
theorem dL_reach_6 : decode cL_reach 6 = .ok (.iload_n 3, 1) := by decide +kernel
theorem dL_reach_7 : decode cL_reach 7 = .ok (.iload 4, 2) := by decide +kernel
theorem dL_reach_9 : decode cL_reach 9 = .ok (.invokevirtual 72, 3) := by decide +kernel
theorem wi_1059 : Cond.methodLink RL 72 yX9_reach ∈ WA := zin 1059 (by decide +kernel) (by decide +kernel)
theorem wi_1062 : Cond.code yX9_reach cX9_reach 6 (some .int) ∈ WA := zin 1062 (by decide +kernel) (by decide +kernel)
theorem wi_1060 : Cond.instanceMethod yX9_reach ∈ WA := zin 1060 (by decide +kernel) (by decide +kernel)
theorem wi_1061 : Cond.selects RX9 yX9_reach yX9_reach ∈ WA := zin 1061 (by decide +kernel) (by decide +kernel)
theorem mv_L_72 : zMv RL 72 RX9 mX9_reach 4 := ⟨⟨wi_1059, wi_100, wi_1062, by decide, by decide +kernel⟩, wi_1060, wi_1061⟩
theorem dL_reach_21 : decode cL_reach 21 = .ok (.astore 6, 2) := by decide +kernel
theorem dL_reach_23 : decode cL_reach 23 = .ok (.iconst 2, 1) := by decide +kernel
theorem dL_reach_24 : decode cL_reach 24 = .ok (.ireturn, 1) := by decide +kernel
theorem dL_reach_17 : decode cL_reach 17 = .ok (.astore 6, 2) := by decide +kernel
theorem dL_reach_19 : decode cL_reach 19 = .ok (.iconst 1, 1) := by decide +kernel
theorem dL_reach_20 : decode cL_reach 20 = .ok (.ireturn, 1) := by decide +kernel
theorem dL_reach_12 : decode cL_reach 12 = .ok (.i2l, 1) := by decide +kernel
theorem dL_reach_13 : decode cL_reach 13 = .ok (.lastore, 1) := by decide +kernel
theorem dL_reach_14 : decode cL_reach 14 = .ok (.goto 11, 3) := by decide +kernel
theorem dL_reach_25 : decode cL_reach 25 = .ok (.iconst 0, 1) := by decide +kernel
theorem dL_reach_26 : decode cL_reach 26 = .ok (.ireturn, 1) := by decide +kernel
abbrev mL_chain : Ym := (yL_chain, cL_chain, 4, some .int)
theorem dL_chain_0 : decode cL_chain 0 = .ok (.aload_n 2, 1) := by decide +kernel
theorem dL_chain_1 : decode cL_chain 1 = .ok (.iconst 0, 1) := by decide +kernel
theorem dL_chain_2 : decode cL_chain 2 = .ok (.aload_n 0, 1) := by decide +kernel
theorem dL_chain_3 : decode cL_chain 3 = .ok (.iload_n 1, 1) := by decide +kernel
theorem dL_chain_4 : decode cL_chain 4 = .ok (.invokevirtual 76, 3) := by decide +kernel
theorem wi_1067 : Cond.methodLink RL 76 yX9_chain ∈ WA := zin 1067 (by decide +kernel) (by decide +kernel)
theorem wi_1070 : Cond.code yX9_chain cX9_chain 2 (some .int) ∈ WA := zin 1070 (by decide +kernel) (by decide +kernel)
theorem wi_1068 : Cond.instanceMethod yX9_chain ∈ WA := zin 1068 (by decide +kernel) (by decide +kernel)
theorem wi_1069 : Cond.selects RX9 yX9_chain yX9_chain ∈ WA := zin 1069 (by decide +kernel) (by decide +kernel)
theorem mv_L_76 : zMv RL 76 RX9 mX9_chain 1 := ⟨⟨wi_1067, wi_100, wi_1070, by decide, by decide +kernel⟩, wi_1068, wi_1069⟩
theorem dL_chain_12 : decode cL_chain 12 = .ok (.astore_n 3, 1) := by decide +kernel
theorem dL_chain_13 : decode cL_chain 13 = .ok (.iconst 1, 1) := by decide +kernel
theorem dL_chain_14 : decode cL_chain 14 = .ok (.ireturn, 1) := by decide +kernel
theorem dL_chain_7 : decode cL_chain 7 = .ok (.i2l, 1) := by decide +kernel
theorem dL_chain_8 : decode cL_chain 8 = .ok (.lastore, 1) := by decide +kernel
theorem dL_chain_9 : decode cL_chain 9 = .ok (.goto 6, 3) := by decide +kernel
theorem dL_chain_15 : decode cL_chain 15 = .ok (.iconst 0, 1) := by decide +kernel
theorem dL_chain_16 : decode cL_chain 16 = .ok (.ireturn, 1) := by decide +kernel
abbrev mL_since : Ym := (yL_since, cL_since, 5, some .int)
theorem dL_since_0 : decode cL_since 0 = .ok (.aload_n 3, 1) := by decide +kernel
theorem dL_since_1 : decode cL_since 1 = .ok (.iconst 0, 1) := by decide +kernel
theorem dL_since_2 : decode cL_since 2 = .ok (.aload_n 0, 1) := by decide +kernel
theorem dL_since_3 : decode cL_since 3 = .ok (.iload_n 1, 1) := by decide +kernel
theorem dL_since_4 : decode cL_since 4 = .ok (.iload_n 2, 1) := by decide +kernel
theorem dL_since_5 : decode cL_since 5 = .ok (.invokevirtual 79, 3) := by decide +kernel
theorem wi_1082 : Cond.methodLink RL 79 yX9_since ∈ WA := zin 1082 (by decide +kernel) (by decide +kernel)
theorem wi_1085 : Cond.code yX9_since cX9_since 3 (some .int) ∈ WA := zin 1085 (by decide +kernel) (by decide +kernel)
theorem wi_1083 : Cond.instanceMethod yX9_since ∈ WA := zin 1083 (by decide +kernel) (by decide +kernel)
theorem wi_1084 : Cond.selects RX9 yX9_since yX9_since ∈ WA := zin 1084 (by decide +kernel) (by decide +kernel)
theorem mv_L_79 : zMv RL 79 RX9 mX9_since 2 := ⟨⟨wi_1082, wi_100, wi_1085, by decide, by decide +kernel⟩, wi_1083, wi_1084⟩
theorem dL_since_17 : decode cL_since 17 = .ok (.astore 4, 2) := by decide +kernel
theorem dL_since_19 : decode cL_since 19 = .ok (.iconst 2, 1) := by decide +kernel
theorem dL_since_20 : decode cL_since 20 = .ok (.ireturn, 1) := by decide +kernel
theorem dL_since_13 : decode cL_since 13 = .ok (.astore 4, 2) := by decide +kernel
theorem dL_since_15 : decode cL_since 15 = .ok (.iconst 1, 1) := by decide +kernel
theorem dL_since_16 : decode cL_since 16 = .ok (.ireturn, 1) := by decide +kernel
theorem dL_since_8 : decode cL_since 8 = .ok (.i2l, 1) := by decide +kernel
theorem dL_since_9 : decode cL_since 9 = .ok (.lastore, 1) := by decide +kernel
theorem dL_since_10 : decode cL_since 10 = .ok (.goto 11, 3) := by decide +kernel
theorem dL_since_21 : decode cL_since 21 = .ok (.iconst 0, 1) := by decide +kernel
theorem dL_since_22 : decode cL_since 22 = .ok (.ireturn, 1) := by decide +kernel
abbrev mL_whose : Ym := (yL_whose, cL_whose, 3, some .int)
theorem dL_whose_0 : decode cL_whose 0 = .ok (.aload_n 1, 1) := by decide +kernel
theorem dL_whose_1 : decode cL_whose 1 = .ok (.iconst 0, 1) := by decide +kernel
theorem dL_whose_2 : decode cL_whose 2 = .ok (.aload_n 0, 1) := by decide +kernel
theorem dL_whose_3 : decode cL_whose 3 = .ok (.invokevirtual 82, 3) := by decide +kernel
theorem wi_1090 : Cond.methodLink RL 82 yX9_whose ∈ WA := zin 1090 (by decide +kernel) (by decide +kernel)
theorem wi_1093 : Cond.code yX9_whose cX9_whose 1 (some .int) ∈ WA := zin 1093 (by decide +kernel) (by decide +kernel)
theorem wi_1091 : Cond.instanceMethod yX9_whose ∈ WA := zin 1091 (by decide +kernel) (by decide +kernel)
theorem wi_1092 : Cond.selects RX9 yX9_whose yX9_whose ∈ WA := zin 1092 (by decide +kernel) (by decide +kernel)
theorem mv_L_82 : zMv RL 82 RX9 mX9_whose 0 := ⟨⟨wi_1090, wi_100, wi_1093, by decide, by decide +kernel⟩, wi_1091, wi_1092⟩
theorem dL_whose_11 : decode cL_whose 11 = .ok (.astore_n 2, 1) := by decide +kernel
theorem dL_whose_12 : decode cL_whose 12 = .ok (.iconst 1, 1) := by decide +kernel
theorem dL_whose_13 : decode cL_whose 13 = .ok (.ireturn, 1) := by decide +kernel
theorem dL_whose_6 : decode cL_whose 6 = .ok (.i2l, 1) := by decide +kernel
theorem dL_whose_7 : decode cL_whose 7 = .ok (.lastore, 1) := by decide +kernel
theorem dL_whose_8 : decode cL_whose 8 = .ok (.goto 6, 3) := by decide +kernel
theorem dL_whose_14 : decode cL_whose 14 = .ok (.iconst 0, 1) := by decide +kernel
theorem dL_whose_15 : decode cL_whose 15 = .ok (.ireturn, 1) := by decide +kernel
abbrev mL_next : Ym := (yL_next, cL_next, 3, some .int)
theorem dL_next_0 : decode cL_next 0 = .ok (.aload_n 1, 1) := by decide +kernel
theorem dL_next_1 : decode cL_next 1 = .ok (.iconst 0, 1) := by decide +kernel
theorem dL_next_2 : decode cL_next 2 = .ok (.aload_n 0, 1) := by decide +kernel
theorem dL_next_3 : decode cL_next 3 = .ok (.invokevirtual 85, 3) := by decide +kernel
theorem wi_1115 : Cond.methodLink RL 85 yX9_next ∈ WA := zin 1115 (by decide +kernel) (by decide +kernel)
theorem wi_1118 : Cond.code yX9_next cX9_next 6 (some .int) ∈ WA := zin 1118 (by decide +kernel) (by decide +kernel)
theorem wi_1116 : Cond.instanceMethod yX9_next ∈ WA := zin 1116 (by decide +kernel) (by decide +kernel)
theorem wi_1117 : Cond.selects RX9 yX9_next yX9_next ∈ WA := zin 1117 (by decide +kernel) (by decide +kernel)
theorem mv_L_85 : zMv RL 85 RX9 mX9_next 0 := ⟨⟨wi_1115, wi_100, wi_1118, by decide, by decide +kernel⟩, wi_1116, wi_1117⟩
theorem dL_next_11 : decode cL_next 11 = .ok (.astore_n 2, 1) := by decide +kernel
theorem dL_next_12 : decode cL_next 12 = .ok (.iconst 1, 1) := by decide +kernel
theorem dL_next_13 : decode cL_next 13 = .ok (.ireturn, 1) := by decide +kernel
theorem dL_next_6 : decode cL_next 6 = .ok (.i2l, 1) := by decide +kernel
theorem dL_next_7 : decode cL_next 7 = .ok (.lastore, 1) := by decide +kernel
theorem dL_next_8 : decode cL_next 8 = .ok (.goto 6, 3) := by decide +kernel
theorem dL_next_14 : decode cL_next 14 = .ok (.iconst 0, 1) := by decide +kernel
theorem dL_next_15 : decode cL_next 15 = .ok (.ireturn, 1) := by decide +kernel
abbrev mL_match : Ym := (yL_match, cL_match, 5, some .int)
theorem dL_match_0 : decode cL_match 0 = .ok (.aload_n 3, 1) := by decide +kernel
theorem dL_match_1 : decode cL_match 1 = .ok (.iconst 0, 1) := by decide +kernel
theorem dL_match_2 : decode cL_match 2 = .ok (.aload_n 0, 1) := by decide +kernel
theorem dL_match_3 : decode cL_match 3 = .ok (.iload_n 1, 1) := by decide +kernel
theorem dL_match_4 : decode cL_match 4 = .ok (.iload_n 2, 1) := by decide +kernel
theorem dL_match_5 : decode cL_match 5 = .ok (.invokevirtual 88, 3) := by decide +kernel
theorem wi_1133 : Cond.methodLink RL 88 yX9_match ∈ WA := zin 1133 (by decide +kernel) (by decide +kernel)
theorem wi_1136 : Cond.code yX9_match cX9_match 4 (some .int) ∈ WA := zin 1136 (by decide +kernel) (by decide +kernel)
theorem wi_1134 : Cond.instanceMethod yX9_match ∈ WA := zin 1134 (by decide +kernel) (by decide +kernel)
theorem wi_1135 : Cond.selects RX9 yX9_match yX9_match ∈ WA := zin 1135 (by decide +kernel) (by decide +kernel)
theorem mv_L_88 : zMv RL 88 RX9 mX9_match 2 := ⟨⟨wi_1133, wi_100, wi_1136, by decide, by decide +kernel⟩, wi_1134, wi_1135⟩
theorem dL_match_13 : decode cL_match 13 = .ok (.astore 4, 2) := by decide +kernel
theorem dL_match_15 : decode cL_match 15 = .ok (.iconst 1, 1) := by decide +kernel
theorem dL_match_16 : decode cL_match 16 = .ok (.ireturn, 1) := by decide +kernel
theorem dL_match_8 : decode cL_match 8 = .ok (.i2l, 1) := by decide +kernel
theorem dL_match_9 : decode cL_match 9 = .ok (.lastore, 1) := by decide +kernel
theorem dL_match_10 : decode cL_match 10 = .ok (.goto 7, 3) := by decide +kernel
theorem dL_match_17 : decode cL_match 17 = .ok (.iconst 0, 1) := by decide +kernel
theorem dL_match_18 : decode cL_match 18 = .ok (.ireturn, 1) := by decide +kernel
abbrev mL_rests : Ym := (yL_rests, cL_rests, 6, some .int)
theorem dL_rests_0 : decode cL_rests 0 = .ok (.aload 4, 2) := by decide +kernel
theorem dL_rests_2 : decode cL_rests 2 = .ok (.iconst 0, 1) := by decide +kernel
theorem dL_rests_3 : decode cL_rests 3 = .ok (.aload_n 0, 1) := by decide +kernel
theorem dL_rests_4 : decode cL_rests 4 = .ok (.iload_n 1, 1) := by decide +kernel
theorem dL_rests_5 : decode cL_rests 5 = .ok (.iload_n 2, 1) := by decide +kernel
theorem dL_rests_6 : decode cL_rests 6 = .ok (.iload_n 3, 1) := by decide +kernel
theorem dL_rests_7 : decode cL_rests 7 = .ok (.invokevirtual 91, 3) := by decide +kernel
theorem wi_1152 : Cond.methodLink RL 91 yX9_rests ∈ WA := zin 1152 (by decide +kernel) (by decide +kernel)
theorem wi_1155 : Cond.code yX9_rests cX9_rests 10 (some .int) ∈ WA := zin 1155 (by decide +kernel) (by decide +kernel)
theorem wi_1153 : Cond.instanceMethod yX9_rests ∈ WA := zin 1153 (by decide +kernel) (by decide +kernel)
theorem wi_1154 : Cond.selects RX9 yX9_rests yX9_rests ∈ WA := zin 1154 (by decide +kernel) (by decide +kernel)
theorem mv_L_91 : zMv RL 91 RX9 mX9_rests 3 := ⟨⟨wi_1152, wi_100, wi_1155, by decide, by decide +kernel⟩, wi_1153, wi_1154⟩
theorem dL_rests_19 : decode cL_rests 19 = .ok (.astore 5, 2) := by decide +kernel
theorem dL_rests_21 : decode cL_rests 21 = .ok (.iconst 2, 1) := by decide +kernel
theorem dL_rests_22 : decode cL_rests 22 = .ok (.ireturn, 1) := by decide +kernel
theorem dL_rests_15 : decode cL_rests 15 = .ok (.astore 5, 2) := by decide +kernel
theorem dL_rests_17 : decode cL_rests 17 = .ok (.iconst 1, 1) := by decide +kernel
theorem dL_rests_18 : decode cL_rests 18 = .ok (.ireturn, 1) := by decide +kernel
theorem dL_rests_10 : decode cL_rests 10 = .ok (.i2l, 1) := by decide +kernel
theorem dL_rests_11 : decode cL_rests 11 = .ok (.lastore, 1) := by decide +kernel
theorem dL_rests_12 : decode cL_rests 12 = .ok (.goto 11, 3) := by decide +kernel
theorem dL_rests_23 : decode cL_rests 23 = .ok (.iconst 0, 1) := by decide +kernel
theorem dL_rests_24 : decode cL_rests 24 = .ok (.ireturn, 1) := by decide +kernel
abbrev mL_sells : Ym := (yL_sells, cL_sells, 4, some .int)
theorem dL_sells_0 : decode cL_sells 0 = .ok (.aload_n 2, 1) := by decide +kernel
theorem dL_sells_1 : decode cL_sells 1 = .ok (.iconst 0, 1) := by decide +kernel
theorem dL_sells_2 : decode cL_sells 2 = .ok (.aload_n 0, 1) := by decide +kernel
theorem dL_sells_3 : decode cL_sells 3 = .ok (.iload_n 1, 1) := by decide +kernel
theorem dL_sells_4 : decode cL_sells 4 = .ok (.invokevirtual 94, 3) := by decide +kernel
theorem wi_1170 : Cond.methodLink RL 94 yX9_sells ∈ WA := zin 1170 (by decide +kernel) (by decide +kernel)
theorem wi_1173 : Cond.code yX9_sells cX9_sells 2 (some .int) ∈ WA := zin 1173 (by decide +kernel) (by decide +kernel)
theorem wi_1171 : Cond.instanceMethod yX9_sells ∈ WA := zin 1171 (by decide +kernel) (by decide +kernel)
theorem wi_1172 : Cond.selects RX9 yX9_sells yX9_sells ∈ WA := zin 1172 (by decide +kernel) (by decide +kernel)
theorem mv_L_94 : zMv RL 94 RX9 mX9_sells 1 := ⟨⟨wi_1170, wi_100, wi_1173, by decide, by decide +kernel⟩, wi_1171, wi_1172⟩
theorem dL_sells_12 : decode cL_sells 12 = .ok (.astore_n 3, 1) := by decide +kernel
theorem dL_sells_13 : decode cL_sells 13 = .ok (.iconst 1, 1) := by decide +kernel
theorem dL_sells_14 : decode cL_sells 14 = .ok (.ireturn, 1) := by decide +kernel
theorem dL_sells_7 : decode cL_sells 7 = .ok (.i2l, 1) := by decide +kernel
theorem dL_sells_8 : decode cL_sells 8 = .ok (.lastore, 1) := by decide +kernel
theorem dL_sells_9 : decode cL_sells 9 = .ok (.goto 6, 3) := by decide +kernel
theorem dL_sells_15 : decode cL_sells 15 = .ok (.iconst 0, 1) := by decide +kernel
theorem dL_sells_16 : decode cL_sells 16 = .ok (.ireturn, 1) := by decide +kernel
abbrev mL_luckiest : Ym := (yL_luckiest, cL_luckiest, 4, some .int)
theorem dL_luckiest_0 : decode cL_luckiest 0 = .ok (.aload_n 2, 1) := by decide +kernel
theorem dL_luckiest_1 : decode cL_luckiest 1 = .ok (.iconst 0, 1) := by decide +kernel
theorem dL_luckiest_2 : decode cL_luckiest 2 = .ok (.aload_n 0, 1) := by decide +kernel
theorem dL_luckiest_3 : decode cL_luckiest 3 = .ok (.iload_n 1, 1) := by decide +kernel
theorem dL_luckiest_4 : decode cL_luckiest 4 = .ok (.invokevirtual 97, 3) := by decide +kernel
theorem wi_1178 : Cond.methodLink RL 97 yX9_luckiest ∈ WA := zin 1178 (by decide +kernel) (by decide +kernel)
theorem wi_1181 : Cond.code yX9_luckiest cX9_luckiest 4 (some .int) ∈ WA := zin 1181 (by decide +kernel) (by decide +kernel)
theorem wi_1179 : Cond.instanceMethod yX9_luckiest ∈ WA := zin 1179 (by decide +kernel) (by decide +kernel)
theorem wi_1180 : Cond.selects RX9 yX9_luckiest yX9_luckiest ∈ WA := zin 1180 (by decide +kernel) (by decide +kernel)
theorem mv_L_97 : zMv RL 97 RX9 mX9_luckiest 1 := ⟨⟨wi_1178, wi_100, wi_1181, by decide, by decide +kernel⟩, wi_1179, wi_1180⟩
theorem dL_luckiest_12 : decode cL_luckiest 12 = .ok (.astore_n 3, 1) := by decide +kernel
theorem dL_luckiest_13 : decode cL_luckiest 13 = .ok (.iconst 1, 1) := by decide +kernel
theorem dL_luckiest_14 : decode cL_luckiest 14 = .ok (.ireturn, 1) := by decide +kernel
theorem dL_luckiest_7 : decode cL_luckiest 7 = .ok (.i2l, 1) := by decide +kernel
theorem dL_luckiest_8 : decode cL_luckiest 8 = .ok (.lastore, 1) := by decide +kernel
theorem dL_luckiest_9 : decode cL_luckiest 9 = .ok (.goto 6, 3) := by decide +kernel
theorem dL_luckiest_15 : decode cL_luckiest 15 = .ok (.iconst 0, 1) := by decide +kernel
theorem dL_luckiest_16 : decode cL_luckiest 16 = .ok (.ireturn, 1) := by decide +kernel
abbrev mL_ring : Ym := (yL_ring, cL_ring, 4, some .int)
theorem dL_ring_0 : decode cL_ring 0 = .ok (.aload_n 2, 1) := by decide +kernel
theorem dL_ring_1 : decode cL_ring 1 = .ok (.iconst 0, 1) := by decide +kernel
theorem dL_ring_2 : decode cL_ring 2 = .ok (.aload_n 0, 1) := by decide +kernel
theorem dL_ring_3 : decode cL_ring 3 = .ok (.iload_n 1, 1) := by decide +kernel
theorem dL_ring_4 : decode cL_ring 4 = .ok (.invokevirtual 100, 3) := by decide +kernel
theorem wi_1185 : Cond.methodLink RL 100 yX9_ring ∈ WA := zin 1185 (by decide +kernel) (by decide +kernel)
theorem wi_1188 : Cond.code yX9_ring cX9_ring 4 (some .boolean) ∈ WA := zin 1188 (by decide +kernel) (by decide +kernel)
theorem wi_1186 : Cond.instanceMethod yX9_ring ∈ WA := zin 1186 (by decide +kernel) (by decide +kernel)
theorem wi_1187 : Cond.selects RX9 yX9_ring yX9_ring ∈ WA := zin 1187 (by decide +kernel) (by decide +kernel)
theorem mv_L_100 : zMv RL 100 RX9 mX9_ring 1 := ⟨⟨wi_1185, wi_100, wi_1188, by decide, by decide +kernel⟩, wi_1186, wi_1187⟩
theorem dL_ring_19 : decode cL_ring 19 = .ok (.astore_n 3, 1) := by decide +kernel
theorem dL_ring_20 : decode cL_ring 20 = .ok (.iconst 1, 1) := by decide +kernel
theorem dL_ring_21 : decode cL_ring 21 = .ok (.ireturn, 1) := by decide +kernel
theorem dL_ring_7 : decode cL_ring 7 = .ok (.ifCond .eq 7, 3) := by decide +kernel
theorem dL_ring_14 : decode cL_ring 14 = .ok (.lconst 0, 1) := by decide +kernel
theorem dL_ring_15 : decode cL_ring 15 = .ok (.lastore, 1) := by decide +kernel
theorem dL_ring_16 : decode cL_ring 16 = .ok (.goto 6, 3) := by decide +kernel
theorem dL_ring_22 : decode cL_ring 22 = .ok (.iconst 0, 1) := by decide +kernel
theorem dL_ring_23 : decode cL_ring 23 = .ok (.ireturn, 1) := by decide +kernel
theorem dL_ring_10 : decode cL_ring 10 = .ok (.lconst 1, 1) := by decide +kernel
theorem dL_ring_11 : decode cL_ring 11 = .ok (.goto 4, 3) := by decide +kernel
abbrev mL_runs : Ym := (yL_runs, cL_runs, 5, some .int)
theorem dL_runs_0 : decode cL_runs 0 = .ok (.aload_n 3, 1) := by decide +kernel
theorem dL_runs_1 : decode cL_runs 1 = .ok (.iconst 0, 1) := by decide +kernel
theorem dL_runs_2 : decode cL_runs 2 = .ok (.aload_n 0, 1) := by decide +kernel
theorem dL_runs_3 : decode cL_runs 3 = .ok (.iload_n 1, 1) := by decide +kernel
theorem dL_runs_4 : decode cL_runs 4 = .ok (.iload_n 2, 1) := by decide +kernel
theorem dL_runs_5 : decode cL_runs 5 = .ok (.invokevirtual 104, 3) := by decide +kernel
theorem wi_1196 : Cond.methodLink RL 104 yX9_runs ∈ WA := zin 1196 (by decide +kernel) (by decide +kernel)
theorem wi_1199 : Cond.code yX9_runs cX9_runs 4 (some .int) ∈ WA := zin 1199 (by decide +kernel) (by decide +kernel)
theorem wi_1197 : Cond.instanceMethod yX9_runs ∈ WA := zin 1197 (by decide +kernel) (by decide +kernel)
theorem wi_1198 : Cond.selects RX9 yX9_runs yX9_runs ∈ WA := zin 1198 (by decide +kernel) (by decide +kernel)
theorem mv_L_104 : zMv RL 104 RX9 mX9_runs 2 := ⟨⟨wi_1196, wi_100, wi_1199, by decide, by decide +kernel⟩, wi_1197, wi_1198⟩
theorem dL_runs_17 : decode cL_runs 17 = .ok (.astore 4, 2) := by decide +kernel
theorem dL_runs_19 : decode cL_runs 19 = .ok (.iconst 2, 1) := by decide +kernel
theorem dL_runs_20 : decode cL_runs 20 = .ok (.ireturn, 1) := by decide +kernel
theorem dL_runs_13 : decode cL_runs 13 = .ok (.astore 4, 2) := by decide +kernel
theorem dL_runs_15 : decode cL_runs 15 = .ok (.iconst 1, 1) := by decide +kernel
theorem dL_runs_16 : decode cL_runs 16 = .ok (.ireturn, 1) := by decide +kernel
theorem dL_runs_8 : decode cL_runs 8 = .ok (.i2l, 1) := by decide +kernel
theorem dL_runs_9 : decode cL_runs 9 = .ok (.lastore, 1) := by decide +kernel
theorem dL_runs_10 : decode cL_runs 10 = .ok (.goto 11, 3) := by decide +kernel
theorem dL_runs_21 : decode cL_runs 21 = .ok (.iconst 0, 1) := by decide +kernel
theorem dL_runs_22 : decode cL_runs 22 = .ok (.ireturn, 1) := by decide +kernel
abbrev mL_spent : Ym := (yL_spent, cL_spent, 4, some .int)
theorem dL_spent_0 : decode cL_spent 0 = .ok (.aload_n 2, 1) := by decide +kernel
theorem dL_spent_1 : decode cL_spent 1 = .ok (.iconst 0, 1) := by decide +kernel
theorem dL_spent_2 : decode cL_spent 2 = .ok (.aload_n 0, 1) := by decide +kernel
theorem dL_spent_3 : decode cL_spent 3 = .ok (.iload_n 1, 1) := by decide +kernel
theorem dL_spent_4 : decode cL_spent 4 = .ok (.invokevirtual 107, 3) := by decide +kernel
theorem wi_1208 : Cond.methodLink RL 107 yX9_spent ∈ WA := zin 1208 (by decide +kernel) (by decide +kernel)
theorem wi_1211 : Cond.code yX9_spent cX9_spent 3 (some .int) ∈ WA := zin 1211 (by decide +kernel) (by decide +kernel)
theorem wi_1209 : Cond.instanceMethod yX9_spent ∈ WA := zin 1209 (by decide +kernel) (by decide +kernel)
theorem wi_1210 : Cond.selects RX9 yX9_spent yX9_spent ∈ WA := zin 1210 (by decide +kernel) (by decide +kernel)
theorem mv_L_107 : zMv RL 107 RX9 mX9_spent 1 := ⟨⟨wi_1208, wi_100, wi_1211, by decide, by decide +kernel⟩, wi_1209, wi_1210⟩
theorem dL_spent_12 : decode cL_spent 12 = .ok (.astore_n 3, 1) := by decide +kernel
theorem dL_spent_13 : decode cL_spent 13 = .ok (.iconst 1, 1) := by decide +kernel
theorem dL_spent_14 : decode cL_spent 14 = .ok (.ireturn, 1) := by decide +kernel
theorem dL_spent_7 : decode cL_spent 7 = .ok (.i2l, 1) := by decide +kernel
theorem dL_spent_8 : decode cL_spent 8 = .ok (.lastore, 1) := by decide +kernel
theorem dL_spent_9 : decode cL_spent 9 = .ok (.goto 6, 3) := by decide +kernel
theorem dL_spent_15 : decode cL_spent 15 = .ok (.iconst 0, 1) := by decide +kernel
theorem dL_spent_16 : decode cL_spent 16 = .ok (.ireturn, 1) := by decide +kernel
abbrev mL_share : Ym := (yL_share, cL_share, 5, some .int)
theorem dL_share_0 : decode cL_share 0 = .ok (.aload_n 3, 1) := by decide +kernel
theorem dL_share_1 : decode cL_share 1 = .ok (.iconst 0, 1) := by decide +kernel
theorem dL_share_2 : decode cL_share 2 = .ok (.aload_n 0, 1) := by decide +kernel
theorem dL_share_3 : decode cL_share 3 = .ok (.iload_n 1, 1) := by decide +kernel
theorem dL_share_4 : decode cL_share 4 = .ok (.iload_n 2, 1) := by decide +kernel
theorem dL_share_5 : decode cL_share 5 = .ok (.invokevirtual 110, 3) := by decide +kernel
theorem wi_1215 : Cond.methodLink RL 110 yX9_share ∈ WA := zin 1215 (by decide +kernel) (by decide +kernel)
theorem wi_1218 : Cond.code yX9_share cX9_share 5 (some .int) ∈ WA := zin 1218 (by decide +kernel) (by decide +kernel)
theorem wi_1216 : Cond.instanceMethod yX9_share ∈ WA := zin 1216 (by decide +kernel) (by decide +kernel)
theorem wi_1217 : Cond.selects RX9 yX9_share yX9_share ∈ WA := zin 1217 (by decide +kernel) (by decide +kernel)
theorem mv_L_110 : zMv RL 110 RX9 mX9_share 2 := ⟨⟨wi_1215, wi_100, wi_1218, by decide, by decide +kernel⟩, wi_1216, wi_1217⟩
theorem dL_share_13 : decode cL_share 13 = .ok (.astore 4, 2) := by decide +kernel
theorem dL_share_15 : decode cL_share 15 = .ok (.iconst 1, 1) := by decide +kernel
theorem dL_share_16 : decode cL_share 16 = .ok (.ireturn, 1) := by decide +kernel
theorem dL_share_8 : decode cL_share 8 = .ok (.i2l, 1) := by decide +kernel
theorem dL_share_9 : decode cL_share 9 = .ok (.lastore, 1) := by decide +kernel
theorem dL_share_10 : decode cL_share 10 = .ok (.goto 7, 3) := by decide +kernel
theorem dL_share_17 : decode cL_share 17 = .ok (.iconst 0, 1) := by decide +kernel
theorem dL_share_18 : decode cL_share 18 = .ok (.ireturn, 1) := by decide +kernel
abbrev mL_trial : Ym := (yL_trial, cL_trial, 5, some .int)
theorem dL_trial_0 : decode cL_trial 0 = .ok (.aload_n 3, 1) := by decide +kernel
theorem dL_trial_1 : decode cL_trial 1 = .ok (.iconst 0, 1) := by decide +kernel
theorem dL_trial_2 : decode cL_trial 2 = .ok (.aload_n 0, 1) := by decide +kernel
theorem dL_trial_3 : decode cL_trial 3 = .ok (.iload_n 1, 1) := by decide +kernel
theorem dL_trial_4 : decode cL_trial 4 = .ok (.iload_n 2, 1) := by decide +kernel
theorem dL_trial_5 : decode cL_trial 5 = .ok (.invokevirtual 113, 3) := by decide +kernel
theorem wi_1222 : Cond.methodLink RL 113 yX9_trial ∈ WA := zin 1222 (by decide +kernel) (by decide +kernel)
theorem wi_1225 : Cond.code yX9_trial cX9_trial 3 (some .int) ∈ WA := zin 1225 (by decide +kernel) (by decide +kernel)
theorem wi_1223 : Cond.instanceMethod yX9_trial ∈ WA := zin 1223 (by decide +kernel) (by decide +kernel)
theorem wi_1224 : Cond.selects RX9 yX9_trial yX9_trial ∈ WA := zin 1224 (by decide +kernel) (by decide +kernel)
theorem mv_L_113 : zMv RL 113 RX9 mX9_trial 2 := ⟨⟨wi_1222, wi_100, wi_1225, by decide, by decide +kernel⟩, wi_1223, wi_1224⟩
theorem dL_trial_13 : decode cL_trial 13 = .ok (.astore 4, 2) := by decide +kernel
theorem dL_trial_15 : decode cL_trial 15 = .ok (.iconst 1, 1) := by decide +kernel
theorem dL_trial_16 : decode cL_trial 16 = .ok (.ireturn, 1) := by decide +kernel
theorem dL_trial_8 : decode cL_trial 8 = .ok (.i2l, 1) := by decide +kernel
theorem dL_trial_9 : decode cL_trial 9 = .ok (.lastore, 1) := by decide +kernel
theorem dL_trial_10 : decode cL_trial 10 = .ok (.goto 7, 3) := by decide +kernel
theorem dL_trial_17 : decode cL_trial 17 = .ok (.iconst 0, 1) := by decide +kernel
theorem dL_trial_18 : decode cL_trial 18 = .ok (.ireturn, 1) := by decide +kernel
abbrev mL_span : Ym := (yL_span, cL_span, 5, some .int)
theorem dL_span_0 : decode cL_span 0 = .ok (.aload_n 3, 1) := by decide +kernel
theorem dL_span_1 : decode cL_span 1 = .ok (.iconst 0, 1) := by decide +kernel
theorem dL_span_2 : decode cL_span 2 = .ok (.aload_n 0, 1) := by decide +kernel
theorem dL_span_3 : decode cL_span 3 = .ok (.iload_n 1, 1) := by decide +kernel
theorem dL_span_4 : decode cL_span 4 = .ok (.iload_n 2, 1) := by decide +kernel
theorem dL_span_5 : decode cL_span 5 = .ok (.invokevirtual 117, 3) := by decide +kernel
theorem wi_1233 : Cond.methodLink RL 117 yX9_span ∈ WA := zin 1233 (by decide +kernel) (by decide +kernel)
theorem wi_1236 : Cond.code yX9_span cX9_span 6 (some .int) ∈ WA := zin 1236 (by decide +kernel) (by decide +kernel)
theorem wi_1234 : Cond.instanceMethod yX9_span ∈ WA := zin 1234 (by decide +kernel) (by decide +kernel)
theorem wi_1235 : Cond.selects RX9 yX9_span yX9_span ∈ WA := zin 1235 (by decide +kernel) (by decide +kernel)
theorem mv_L_117 : zMv RL 117 RX9 mX9_span 2 := ⟨⟨wi_1233, wi_100, wi_1236, by decide, by decide +kernel⟩, wi_1234, wi_1235⟩
theorem dL_span_13 : decode cL_span 13 = .ok (.astore 4, 2) := by decide +kernel
theorem dL_span_15 : decode cL_span 15 = .ok (.iconst 1, 1) := by decide +kernel
theorem dL_span_16 : decode cL_span 16 = .ok (.ireturn, 1) := by decide +kernel
theorem dL_span_8 : decode cL_span 8 = .ok (.i2l, 1) := by decide +kernel
theorem dL_span_9 : decode cL_span 9 = .ok (.lastore, 1) := by decide +kernel
theorem dL_span_10 : decode cL_span 10 = .ok (.goto 7, 3) := by decide +kernel
theorem dL_span_17 : decode cL_span 17 = .ok (.iconst 0, 1) := by decide +kernel
theorem dL_span_18 : decode cL_span 18 = .ok (.ireturn, 1) := by decide +kernel
abbrev mL_led : Ym := (yL_led, cL_led, 5, some .int)
theorem dL_led_0 : decode cL_led 0 = .ok (.aload_n 3, 1) := by decide +kernel
theorem dL_led_1 : decode cL_led 1 = .ok (.iconst 0, 1) := by decide +kernel
theorem dL_led_2 : decode cL_led 2 = .ok (.aload_n 0, 1) := by decide +kernel
theorem dL_led_3 : decode cL_led 3 = .ok (.iload_n 1, 1) := by decide +kernel
theorem dL_led_4 : decode cL_led 4 = .ok (.iload_n 2, 1) := by decide +kernel
theorem dL_led_5 : decode cL_led 5 = .ok (.invokevirtual 120, 3) := by decide +kernel
theorem wi_1240 : Cond.methodLink RL 120 yX9_led ∈ WA := zin 1240 (by decide +kernel) (by decide +kernel)
theorem wi_1243 : Cond.code yX9_led cX9_led 6 (some .int) ∈ WA := zin 1243 (by decide +kernel) (by decide +kernel)
theorem wi_1241 : Cond.instanceMethod yX9_led ∈ WA := zin 1241 (by decide +kernel) (by decide +kernel)
theorem wi_1242 : Cond.selects RX9 yX9_led yX9_led ∈ WA := zin 1242 (by decide +kernel) (by decide +kernel)
theorem mv_L_120 : zMv RL 120 RX9 mX9_led 2 := ⟨⟨wi_1240, wi_100, wi_1243, by decide, by decide +kernel⟩, wi_1241, wi_1242⟩
theorem dL_led_13 : decode cL_led 13 = .ok (.astore 4, 2) := by decide +kernel
theorem dL_led_15 : decode cL_led 15 = .ok (.iconst 1, 1) := by decide +kernel
theorem dL_led_16 : decode cL_led 16 = .ok (.ireturn, 1) := by decide +kernel
theorem dL_led_8 : decode cL_led 8 = .ok (.i2l, 1) := by decide +kernel
theorem dL_led_9 : decode cL_led 9 = .ok (.lastore, 1) := by decide +kernel
theorem dL_led_10 : decode cL_led 10 = .ok (.goto 7, 3) := by decide +kernel
theorem dL_led_17 : decode cL_led 17 = .ok (.iconst 0, 1) := by decide +kernel
theorem dL_led_18 : decode cL_led 18 = .ok (.ireturn, 1) := by decide +kernel
abbrev mL_log : Ym := (yL_log, cL_log, 5, some .int)
theorem dL_log_0 : decode cL_log 0 = .ok (.aload_n 3, 1) := by decide +kernel
theorem dL_log_1 : decode cL_log 1 = .ok (.iconst 0, 1) := by decide +kernel
theorem dL_log_2 : decode cL_log 2 = .ok (.aload_n 0, 1) := by decide +kernel
theorem dL_log_3 : decode cL_log 3 = .ok (.iload_n 1, 1) := by decide +kernel
theorem dL_log_4 : decode cL_log 4 = .ok (.iload_n 2, 1) := by decide +kernel
theorem dL_log_5 : decode cL_log 5 = .ok (.invokevirtual 123, 3) := by decide +kernel
theorem wi_1248 : Cond.methodLink RL 123 yX9_log ∈ WA := zin 1248 (by decide +kernel) (by decide +kernel)
theorem wi_1251 : Cond.code yX9_log cX9_log 3 (some .int) ∈ WA := zin 1251 (by decide +kernel) (by decide +kernel)
theorem wi_1249 : Cond.instanceMethod yX9_log ∈ WA := zin 1249 (by decide +kernel) (by decide +kernel)
theorem wi_1250 : Cond.selects RX9 yX9_log yX9_log ∈ WA := zin 1250 (by decide +kernel) (by decide +kernel)
theorem mv_L_123 : zMv RL 123 RX9 mX9_log 2 := ⟨⟨wi_1248, wi_100, wi_1251, by decide, by decide +kernel⟩, wi_1249, wi_1250⟩
theorem dL_log_13 : decode cL_log 13 = .ok (.astore 4, 2) := by decide +kernel
theorem dL_log_15 : decode cL_log 15 = .ok (.iconst 1, 1) := by decide +kernel
theorem dL_log_16 : decode cL_log 16 = .ok (.ireturn, 1) := by decide +kernel
theorem dL_log_8 : decode cL_log 8 = .ok (.i2l, 1) := by decide +kernel
theorem dL_log_9 : decode cL_log 9 = .ok (.lastore, 1) := by decide +kernel
theorem dL_log_10 : decode cL_log 10 = .ok (.goto 7, 3) := by decide +kernel
theorem dL_log_17 : decode cL_log 17 = .ok (.iconst 0, 1) := by decide +kernel
theorem dL_log_18 : decode cL_log 18 = .ok (.ireturn, 1) := by decide +kernel
/-! the law's own methods, with all their handlers -/
def psI : (Option Iv ⊕ Nat) × Fa → Bool
  | (.inl none, _) => false
  | _ => true
def psT : (Option Iv ⊕ Nat) × Fa → Bool
  | (.inr _, _) => false
  | _ => true
theorem res_i {ps : List ((Option Iv ⊕ Nat) × Fa)} {v : Option Value} (h : ∃ p ∈ ps, resM (.inl v) p.1) (hp : ps.all psI = true) : ∃ x, v = some (.int x) := by
  obtain ⟨⟨p, f⟩, h1, h2⟩ := h
  have h3 := List.all_eq_true.mp hp _ h1
  cases p with
  | inr n =>
    cases v with
    | none => exact h2.elim
    | some w => cases w <;> exact h2.elim
  | inl q =>
    cases q with
    | none => exact nomatch h3
    | some iv => obtain ⟨x, e, -⟩ := resM_int h2; exact ⟨x, Sum.inl.inj e⟩
theorem res_t {ps : List ((Option Iv ⊕ Nat) × Fa)} {E : String} (h : ∃ p ∈ ps, resM (.inr E) p.1) (hp : ps.all psT = true) : False := by
  obtain ⟨⟨p, f⟩, h1, h2⟩ := h
  have h3 := List.all_eq_true.mp hp _ h1
  cases p with
  | inr n => exact nomatch h3
  | inl q => cases q <;> exact h2.elim
def thrs (ps : List ((Option Iv ⊕ Nat) × Fa)) : List Nat := ps.filterMap (fun p => match p.1 with
  | .inr n => some n
  | _ => none)
theorem res_e {ps : List ((Option Iv ⊕ Nat) × Fa)} {E : String} (h : ∃ p ∈ ps, resM (.inr E) p.1) : ∃ n ∈ thrs ps, E = zCs.getD n "" := by
  obtain ⟨⟨p, f⟩, h1, h2⟩ := h
  cases p with
  | inr n => exact ⟨n, List.mem_filterMap.mpr ⟨_, h1, rfl⟩, h2⟩
  | inl q => cases q <;> exact h2.elim
theorem Rn.lcon {G : Gx} {Ga : List Shp} {Y : Ym} {kx : Kx} {d b pc pc' : Nat} {ls : List (Option Value)} {st : List Value} {I : Hi} {n : Fin 2} (x : Int32) (hd : decode Y.2.1 pc = .ok (.lconst n, 1)) (hv : Int64.ofNat (n : Nat) = x.toInt64) (k : Rn G Ga Y kx d b pc' ls (.long x.toInt64 :: st) I) (hp : pc + 1 = pc' := by rfl) : Rn G Ga Y kx d b pc ls st I := by
  subst hp
  intro p e R s m args below meth c H locs cells slots tc ts Z F hk lsA hl
  exact lv_lconst F.1.1 F.1.2.1 hd hv (k p e R s m args below meth c H locs cells slots tc ts Z F hk lsA hl)
/-- a handler takes it, those ahead of it pass it on -/
theorem zcatchK {G : Gx} {Ga : List Shp} {Y : Ym} {d b pc : Nat} {ls : List (Option Value)} {Q : Rs → Hi → Prop} (pre : List ((Nat × Nat × Nat × Nat) × String)) {x : Nat × Nat × Nat × Nat} {hs hh : List (Nat × Nat × Nat × Nat)} {E : String} {J : Hi} {i n2 : Nat} {ci : Int} {cv : Int32} {rest : List Value} (hhh : hh = pre.map (fun q => q.1) ++ x :: hs)
    (hpre : ∀ z ∈ pre, z.1.2.2.2 ≠ 0 ∧ Cond.classLink Y.1.cls z.1.2.2.2 z.2 ∈ WA ∧ z.2 ∈ zCs ∧ E ≠ z.2) (hx : covers (⟨x.1, x.2.1, x.2.2.1, x.2.2.2⟩ : ExceptionTableEntry) pc = true) (hk : Cond.classLink Y.1.cls x.2.2.2 E ∈ WA) (hE : E ∈ zCs) (h0 : x.2.2.2 ≠ 0)
    (ha : (∃ q : Fin 4, decode Y.2.1 x.2.2.1 = .ok (.astore_n q, n2) ∧ (q : Nat) = i ∧ n2 = 1) ∨ (decode Y.2.1 x.2.2.1 = .ok (.astore i, n2) ∧ n2 = 2)) (hi : i < Y.2.2.1) (hc : decode Y.2.1 (x.2.2.1 + n2) = .ok (.iconst ci, 1)) (hcv : Int32.ofInt ci = cv) (hd : decode Y.2.1 (x.2.2.1 + n2 + 1) = .ok (.ireturn, 1)) (hr : Y.2.2.2 = some .int) (h : Q (.inl (some (.int cv))) J) :
    ∀ (p : Program) (e : Env) (R : Room) (s : State) (m : MethodId) (args : Array Value) (below : List Frame) (meth : Method) (c : Code) (H : Heap) (locs : List Loc) (cells slots tc ts : Nat) (Z : State → Prop) (q : Addr) (ce : Cell) (lsA : Array Slot), zFr G Ga Y d b J p R s m args meth c H locs cells slots tc ts → kH G Ga Q hh s args below c tc ts Z → lv_has lsA Y.2.2.1 (zl (gad G) 0 ls) → H[q]? = some ce → ce.vm = .none → s.vm.findClass E = some ce.cls → vx_W p (gL G) e R s m args below meth c H locs cells slots Z (F0 m pc lsA (rest.map (zr (gad G)))) q := by
  intro p e R s m args below meth c H locs cells slots tc ts Z q ce lsA F hk9 hl h1 h2 h3
  have hxt := F.xt
  obtain ⟨F1, ⟨hP, hD, hS⟩, F3, F4, F5, F6, F7, F8⟩ := F
  obtain ⟨ht, rfl⟩ := hk9
  have hts := F1.2.2.2.2.2.2.1
  have hlocks : meth.locks = false := F1.2.2.2.2.1
  have htab : c.exceptionTable.toList = tableOf (pre.map (fun q => q.1)) ++ (⟨x.1, x.2.1, x.2.2.1, x.2.2.2⟩ : ExceptionTableEntry) :: tableOf hs := by rw [ht, hhh]; simp [tableOf]
  refine vx_catch (name := E) (E := E) F1.2.2.2.2.2.1 (tableOf (pre.map (fun q => q.1))) (⟨x.1, x.2.1, x.2.2.1, x.2.2.2⟩ : ExceptionTableEntry) (tableOf hs) htab (fun z hz => ?_) hx h0 (hts _ hk) (va_Nw.use rfl (F1.2.2.2.2.2.2.2.2.2.2.2.2.1.1 _ hE)) h1 h2 h3 ?_
  · obtain ⟨w, hw, rfl⟩ := List.mem_map.mp hz
    obtain ⟨y, hy, rfl⟩ := List.mem_map.mp hw
    obtain ⟨a1, a2, a3, a4⟩ := hpre y hy
    exact Or.inr ⟨a1, y.2, hts _ a2, hxt.1 E hE y.2 a3 a4⟩
  show W p (gL G) e R s m args below meth c H locs cells slots _ (F0 m x.2.2.1 lsA [.ref q])
  have end9 : ∀ lsB : Array Slot, W p (gL G) e R s m args below meth c H locs cells slots (vx_MQ below (zQ G Ga Q s.heap.size) (zX G Ga Q s.heap.size) args s tc ts (zA G Ga s.heap.size)) (F0 m (x.2.2.1 + n2) lsB []) := by
    intro lsB
    refine lv_iconst F1.1 F1.2.1 hc hcv ?_
    refine W.widen (k := tc) (n := ts) (by omega) (by omega) (vx_ret ?_)
    exact W.iret F1.1 F1.2.1 (F1.2.2.2.1.trans hr) (fun t h1 _ => ⟨⟨some (.int cv), J, rfl, h, by rw [h1]; exact hP⟩, by rw [h1]; exact hS.1, by rw [h1]; exact hS.2.1⟩) hS.2.2 hd hlocks
  rcases ha with ⟨q4, ha, hq, hn⟩ | ⟨ha, hn⟩
  · subst hn
    exact lv_astore_n F1.1 F1.2.1 ha hq hl hi rfl (fun lsB _ => end9 lsB)
  · subst hn
    exact lv_astore F1.1 F1.2.1 ha hl hi rfl (fun lsB _ => end9 lsB)
section Wrp
variable (G : Gx) (d : Nat) (I : Hi)
theorem wr_coast (hI : LI I) : CtW G GAM mL_coast [(0, 8, 11, 13), (0, 8, 14, 15)] (d + 7) 1 [.ref 0, .ref 107] I (Rv (fun v J => ∃ x, v = some (.int x) ∧ CoA I x J)) := by
  obtain ⟨c, e, he, t1, t9, hb⟩ := hI.2.2.2.2.1
  obtain ⟨w, t, n, hw, ht, hn, q1, q2, q3, q4, q5, q6, q7⟩ := hI.2.2.2.2.2.2.2.1
  have hc := cl_coast G d I (c := c) (e := e) ⟨he, t1, fun i hi => ⟨(hb i hi).2.1, (hb i hi).1⟩⟩ hI.2.2.2.1 w t (fun k => I 95 (73 + 9 * k)) q1 q3 hw ht q7
  have key : ∀ (x : Int32) (J0 J : Hi) (o : Rs), XC5 I (cCoast c e (w, t, fun k => I 95 (73 + 9 * k))) o J0 → Wr o x J0 J → CoA I x J := fun x J0 J o C W => ⟨hI, c, e, w, t, _, J0, o, ⟨he, t1, t9, hb⟩, hw, ht, q2, q4, fun _ _ => rfl, C, W⟩
  refine CtW.mk [some (.ref 0), some (.ref 107), none] ?_
  refine Rn.aload_n dL_coast_0 rfl rfl ?_
  refine Rn.iconst (v := (nI 0)) dL_coast_1 rfl ?_
  refine Rn.aload_n dL_coast_2 rfl rfl ?_
  refine Rn.callVx (b := 0) (mc := 1) (As := []) dL_coast_3 mv_L_7 (by first | rfl | exact gC0 (by assumption) | exact gL0 (by assumption)) rfl rfl rfl (Nat.le_of_ble_eq_true rfl) hc (fun E J q => ?_) (fun v J q => ?_)
  · have C := q
    obtain ⟨-, -, -, ⟨x, -, hg, h, -⟩ | ⟨st, n9, hg, -, h, -⟩ | ⟨st, n9, hg, -, h, -⟩⟩ := q
    · have h := Sum.inr.inj h
      subst h
      exact zcatchK (E := "java/lang/IllegalArgumentException") [] (x := (0, 8, 11, 13)) (hs := [(0, 8, 14, 15)]) (i := 2) (n2 := 1) rfl (fun _ h => nomatch h) rfl wi_547 (by decide) (by decide) (Or.inl ⟨2, dL_coast_11, rfl, rfl⟩) (by decide) dL_coast_12 rfl dL_coast_13 rfl ⟨nI 1, rfl, key _ J J _ C ⟨fun _ _ => rfl, Or.inr (Or.inl ⟨rfl, rfl⟩)⟩⟩
    · have h := Sum.inr.inj h
      subst h
      exact zcatchK (E := "java/lang/UnsupportedOperationException") [((0, 8, 11, 13), "java/lang/IllegalArgumentException")] (x := (0, 8, 14, 15)) (hs := []) (i := 2) (n2 := 1) rfl (List.forall_mem_cons.mpr ⟨⟨by decide, wi_547, by decide, by decide⟩, fun _ h => nomatch h⟩) rfl wi_548 (by decide) (by decide) (Or.inl ⟨2, dL_coast_14, rfl, rfl⟩) (by decide) dL_coast_15 rfl dL_coast_16 rfl ⟨nI 2, rfl, key _ J J _ C ⟨fun _ _ => rfl, Or.inr (Or.inr ⟨rfl, rfl⟩)⟩⟩
    · exact nomatch h
  · have C := q
    obtain ⟨-, -, -, ⟨x, -, hg, h, -⟩ | ⟨st, n9, hg, -, h, -⟩ | ⟨st, n9, hg, -, h, -⟩⟩ := q
    · exact nomatch h
    · exact nomatch h
    have h := Sum.inl.inj h
    subst h
    refine Rn.i2l dL_coast_6 ?_
    refine Rn.last dL_coast_7 (by first | rfl | exact gC1 (by assumption) | exact gC2 (by assumption) | exact gC3 (by assumption) | exact gL1 (by assumption) | exact gL2 (by assumption) | exact gL3 (by assumption) | exact gL4 (by assumption) | exact gL5 (by assumption) | exact gL6 (by assumption)) (by decide) (by decide) ?_
    refine Rn.goto 17 dL_coast_8 (by decide) ?_
    refine Rn.iconst (v := (nI 0)) dL_coast_17 rfl ?_
    exact Rn.hret dL_coast_18 rfl (⟨nI 0, rfl, key _ J _ _ C ⟨fun a ha => zup_ne _ _ ha, Or.inl ⟨_, rfl, rfl, by rw [zup_at, upd_at]⟩⟩⟩)
theorem wr_law (hI : LI I) : CtW G GAM mL_law [(0, 8, 11, 13)] (d + 26) 1 [.ref 0, .ref 107] I (Rv (fun v J => ∃ x, v = some (.int x) ∧ LaA I x J)) := by
  obtain ⟨c, e, he, t1, t9, hb⟩ := hI.2.2.2.2.1
  have hc := cl_law G d I (c := c) (e := e) ⟨he, t1, fun i hi => ⟨(hb i hi).2.1, (hb i hi).1⟩⟩ hI.2.2.1
  have key : ∀ (x : Int32) (J0 J : Hi) (o : Rs), XL5 I (gLaw c e) o J0 → Wr o x J0 J → LaA I x J := fun x J0 J o C W => ⟨hI, c, e, J0, o, ⟨he, t1, t9, hb⟩, C, W⟩
  refine CtW.mk [some (.ref 0), some (.ref 107), none] ?_
  refine Rn.aload_n dL_law_0 rfl rfl ?_
  refine Rn.iconst (v := (nI 0)) dL_law_1 rfl ?_
  refine Rn.aload_n dL_law_2 rfl rfl ?_
  refine Rn.callVx (b := 0) (mc := 1) (As := []) dL_law_3 mv_L_17 (by first | rfl | exact gC0 (by assumption) | exact gL0 (by assumption)) rfl rfl rfl (Nat.le_of_ble_eq_true rfl) hc (fun E J q => ?_) (fun v J q => ?_)
  · have C := q
    obtain ⟨-, -, -, ⟨n, -, hg, h, -⟩ | ⟨x, -, hg, h, -⟩⟩ := q
    · exact nomatch h
    · have h := Sum.inr.inj h
      subst h
      exact zcatchK (E := "java/lang/IllegalArgumentException") [] (x := (0, 8, 11, 13)) (hs := []) (i := 2) (n2 := 1) rfl (fun _ h => nomatch h) rfl wi_547 (by decide) (by decide) (Or.inl ⟨2, dL_law_11, rfl, rfl⟩) (by decide) dL_law_12 rfl dL_law_13 rfl ⟨nI 1, rfl, key _ J J _ C ⟨fun _ _ => rfl, Or.inr (Or.inl ⟨rfl, rfl⟩)⟩⟩
  · have C := q
    obtain ⟨-, -, -, ⟨n, -, hg, h, -⟩ | ⟨x, -, hg, h, -⟩⟩ := q
    rotate_left
    · exact nomatch h
    have h := Sum.inl.inj h
    subst h
    refine Rn.i2l dL_law_6 ?_
    refine Rn.last dL_law_7 (by first | rfl | exact gC1 (by assumption) | exact gC2 (by assumption) | exact gC3 (by assumption) | exact gL1 (by assumption) | exact gL2 (by assumption) | exact gL3 (by assumption) | exact gL4 (by assumption) | exact gL5 (by assumption) | exact gL6 (by assumption)) (by decide) (by decide) ?_
    refine Rn.goto 14 dL_law_8 (by decide) ?_
    refine Rn.iconst (v := (nI 0)) dL_law_14 rfl ?_
    exact Rn.hret dL_law_15 rfl (⟨nI 0, rfl, key _ J _ _ C ⟨fun a ha => zup_ne _ _ ha, Or.inl ⟨_, rfl, rfl, by rw [zup_at, upd_at]⟩⟩⟩)
theorem wr_woman (p0 p1 : Int32) (hB : BX I) (hX : P6 I) : CtW G GAM mL_woman [(0, 10, 13, 24), (0, 10, 17, 26)] (d + 3) 2 [.ref 0, .int p0, .int p1, .ref 107] I (Rv (fun v J => (∃ x, v = some (.int x)) ∧ WQ I J)) := by
  have hc : Ct G GAM mX9_woman (2 + d) 2 [.ref 0, .int p0, .int p1] I (fun o J => WQ I J ∧ ∃ p ∈ ct_6.2.2.2.2.2.2, resM o p.1) := ct_top (cc_6 (okX6 I) (manC6 I)) d [.ref 0, .int p0, .int p1] hB hX ⟨rfl, inIv_F _, inIv_F _, trivial⟩ (fun e he => nomatch he) (by decide +kernel) (by decide +kernel)
  rw [Nat.add_comm] at hc
  refine CtW.mk [some (.ref 0), some (.int p0), some (.int p1), some (.ref 107), none] ?_
  refine Rn.aload_n dL_woman_0 rfl rfl ?_
  refine Rn.iconst (v := (nI 0)) dL_woman_1 rfl ?_
  refine Rn.aload_n dL_woman_2 rfl rfl ?_
  refine Rn.iload_n dL_woman_3 rfl rfl ?_
  refine Rn.iload_n dL_woman_4 rfl rfl ?_
  refine Rn.callVx (b := 0) (mc := 2) (As := [_, _]) dL_woman_5 mv_L_20 (by first | rfl | exact gC0 (by assumption) | exact gL0 (by assumption)) rfl rfl rfl (Nat.le_of_ble_eq_true rfl) hc (fun E J q => ?_) (fun v J q => ?_)
  · obtain ⟨n, hn, rfl⟩ := res_e q.2
    have hn : n ∈ [2, 3] := hn
    simp only [List.mem_cons, List.not_mem_nil, or_false] at hn
    rcases hn with rfl | rfl
    · exact zcatchK (E := "java/lang/IndexOutOfBoundsException") [] (x := (0, 10, 13, 24)) (hs := [(0, 10, 17, 26)]) (i := 4) (n2 := 2) rfl (fun _ h => nomatch h) rfl wi_776 (by decide) (by decide) (Or.inr ⟨dL_woman_13, rfl⟩) (by decide) dL_woman_15 rfl dL_woman_16 rfl ⟨⟨_, rfl⟩, q.1⟩
    · exact zcatchK (E := "java/util/NoSuchElementException") [((0, 10, 13, 24), "java/lang/IndexOutOfBoundsException")] (x := (0, 10, 17, 26)) (hs := []) (i := 4) (n2 := 2) rfl (List.forall_mem_cons.mpr ⟨⟨by decide, wi_776, by decide, by decide⟩, fun _ h => nomatch h⟩) rfl wi_777 (by decide) (by decide) (Or.inr ⟨dL_woman_17, rfl⟩) (by decide) dL_woman_19 rfl dL_woman_20 rfl ⟨⟨_, rfl⟩, q.1⟩
  · obtain ⟨x, rfl⟩ := res_i q.2 (by decide)
    refine Rn.i2l dL_woman_8 ?_
    refine Rn.last dL_woman_9 (by first | rfl | exact gC1 (by assumption) | exact gC2 (by assumption) | exact gC3 (by assumption) | exact gL1 (by assumption) | exact gL2 (by assumption) | exact gL3 (by assumption) | exact gL4 (by assumption) | exact gL5 (by assumption) | exact gL6 (by assumption)) (by decide) (by decide) ?_
    refine Rn.goto 21 dL_woman_10 (by decide) ?_
    refine Rn.iconst (v := (nI 0)) dL_woman_21 rfl ?_
    exact Rn.hret dL_woman_22 rfl (⟨⟨_, rfl⟩, q.1.out _ _⟩)
theorem wr_thing (p0 p1 : Int32) (hB : BX I) (hX : P6 I) : CtW G GAM mL_thing [(0, 10, 13, 24), (0, 10, 17, 26)] (d + 4) 2 [.ref 0, .int p0, .int p1, .ref 107] I (Rv (fun v J => (∃ x, v = some (.int x)) ∧ WQ I J)) := by
  have hc : Ct G GAM mX9_thing (3 + d) 2 [.ref 0, .int p0, .int p1] I (fun o J => WQ I J ∧ ∃ p ∈ ct_10.2.2.2.2.2.2, resM o p.1) := ct_top (cc_10 (okX6 I) (manC6 I)) d [.ref 0, .int p0, .int p1] hB hX ⟨rfl, inIv_F _, inIv_F _, trivial⟩ (fun e he => nomatch he) (by decide +kernel) (by decide +kernel)
  rw [Nat.add_comm] at hc
  refine CtW.mk [some (.ref 0), some (.int p0), some (.int p1), some (.ref 107), none] ?_
  refine Rn.aload_n dL_thing_0 rfl rfl ?_
  refine Rn.iconst (v := (nI 0)) dL_thing_1 rfl ?_
  refine Rn.aload_n dL_thing_2 rfl rfl ?_
  refine Rn.iload_n dL_thing_3 rfl rfl ?_
  refine Rn.iload_n dL_thing_4 rfl rfl ?_
  refine Rn.callVx (b := 0) (mc := 2) (As := [_, _]) dL_thing_5 mv_L_28 (by first | rfl | exact gC0 (by assumption) | exact gL0 (by assumption)) rfl rfl rfl (Nat.le_of_ble_eq_true rfl) hc (fun E J q => ?_) (fun v J q => ?_)
  · obtain ⟨n, hn, rfl⟩ := res_e q.2
    have hn : n ∈ [2, 3] := hn
    simp only [List.mem_cons, List.not_mem_nil, or_false] at hn
    rcases hn with rfl | rfl
    · exact zcatchK (E := "java/lang/IndexOutOfBoundsException") [] (x := (0, 10, 13, 24)) (hs := [(0, 10, 17, 26)]) (i := 4) (n2 := 2) rfl (fun _ h => nomatch h) rfl wi_776 (by decide) (by decide) (Or.inr ⟨dL_thing_13, rfl⟩) (by decide) dL_thing_15 rfl dL_thing_16 rfl ⟨⟨_, rfl⟩, q.1⟩
    · exact zcatchK (E := "java/util/NoSuchElementException") [((0, 10, 13, 24), "java/lang/IndexOutOfBoundsException")] (x := (0, 10, 17, 26)) (hs := []) (i := 4) (n2 := 2) rfl (List.forall_mem_cons.mpr ⟨⟨by decide, wi_776, by decide, by decide⟩, fun _ h => nomatch h⟩) rfl wi_777 (by decide) (by decide) (Or.inr ⟨dL_thing_17, rfl⟩) (by decide) dL_thing_19 rfl dL_thing_20 rfl ⟨⟨_, rfl⟩, q.1⟩
  · obtain ⟨x, rfl⟩ := res_i q.2 (by decide)
    refine Rn.i2l dL_thing_8 ?_
    refine Rn.last dL_thing_9 (by first | rfl | exact gC1 (by assumption) | exact gC2 (by assumption) | exact gC3 (by assumption) | exact gL1 (by assumption) | exact gL2 (by assumption) | exact gL3 (by assumption) | exact gL4 (by assumption) | exact gL5 (by assumption) | exact gL6 (by assumption)) (by decide) (by decide) ?_
    refine Rn.goto 21 dL_thing_10 (by decide) ?_
    refine Rn.iconst (v := (nI 0)) dL_thing_21 rfl ?_
    exact Rn.hret dL_thing_22 rfl (⟨⟨_, rfl⟩, q.1.out _ _⟩)
theorem wr_gain (p0 p1 : Int32) (hB : BX I) (hX : P6 I) : CtW G GAM mL_gain [(0, 10, 13, 24)] (d + 6) 2 [.ref 0, .int p0, .int p1, .ref 107] I (Rv (fun v J => (∃ x, v = some (.int x)) ∧ WQ I J)) := by
  have hc : Ct G GAM mX9_gain (5 + d) 2 [.ref 0, .int p0, .int p1] I (fun o J => WQ I J ∧ ∃ p ∈ ct_17.2.2.2.2.2.2, resM o p.1) := ct_top (cc_17 (okX6 I) (manC6 I)) d [.ref 0, .int p0, .int p1] hB hX ⟨rfl, inIv_F _, inIv_F _, trivial⟩ (fun e he => nomatch he) (by decide +kernel) (by decide +kernel)
  rw [Nat.add_comm] at hc
  refine CtW.mk [some (.ref 0), some (.int p0), some (.int p1), some (.ref 107), none] ?_
  refine Rn.aload_n dL_gain_0 rfl rfl ?_
  refine Rn.iconst (v := (nI 0)) dL_gain_1 rfl ?_
  refine Rn.aload_n dL_gain_2 rfl rfl ?_
  refine Rn.iload_n dL_gain_3 rfl rfl ?_
  refine Rn.iload_n dL_gain_4 rfl rfl ?_
  refine Rn.callVx (b := 0) (mc := 2) (As := [_, _]) dL_gain_5 mv_L_31 (by first | rfl | exact gC0 (by assumption) | exact gL0 (by assumption)) rfl rfl rfl (Nat.le_of_ble_eq_true rfl) hc (fun E J q => ?_) (fun v J q => ?_)
  · obtain ⟨n, hn, rfl⟩ := res_e q.2
    have hn : n ∈ [2] := hn
    simp only [List.mem_cons, List.not_mem_nil, or_false] at hn
    subst hn
    · exact zcatchK (E := "java/lang/IndexOutOfBoundsException") [] (x := (0, 10, 13, 24)) (hs := []) (i := 4) (n2 := 2) rfl (fun _ h => nomatch h) rfl wi_776 (by decide) (by decide) (Or.inr ⟨dL_gain_13, rfl⟩) (by decide) dL_gain_15 rfl dL_gain_16 rfl ⟨⟨_, rfl⟩, q.1⟩
  · obtain ⟨x, rfl⟩ := res_i q.2 (by decide)
    refine Rn.i2l dL_gain_8 ?_
    refine Rn.last dL_gain_9 (by first | rfl | exact gC1 (by assumption) | exact gC2 (by assumption) | exact gC3 (by assumption) | exact gL1 (by assumption) | exact gL2 (by assumption) | exact gL3 (by assumption) | exact gL4 (by assumption) | exact gL5 (by assumption) | exact gL6 (by assumption)) (by decide) (by decide) ?_
    refine Rn.goto 17 dL_gain_10 (by decide) ?_
    refine Rn.iconst (v := (nI 0)) dL_gain_17 rfl ?_
    exact Rn.hret dL_gain_18 rfl (⟨⟨_, rfl⟩, q.1.out _ _⟩)
theorem wr_flows (p0 p1 p2 : Int32) (hB : BX I) (hX : P6 I) : CtW G GAM mL_flows [(0, 12, 15, 24)] (d + 4) 3 [.ref 0, .int p0, .int p1, .int p2, .ref 107] I (Rv (fun v J => (∃ x, v = some (.int x)) ∧ WQ I J)) := by
  have hc : Ct G GAM mX9_flows (3 + d) 3 [.ref 0, .int p0, .int p1, .int p2] I (fun o J => WQ I J ∧ ∃ p ∈ ct_19.2.2.2.2.2.2, resM o p.1) := ct_top (cc_19 (okX6 I) (manC6 I)) d [.ref 0, .int p0, .int p1, .int p2] hB hX ⟨rfl, inIv_F _, inIv_F _, inIv_F _, trivial⟩ (fun e he => nomatch he) (by decide +kernel) (by decide +kernel)
  rw [Nat.add_comm] at hc
  refine CtW.mk [some (.ref 0), some (.int p0), some (.int p1), some (.int p2), some (.ref 107), none] ?_
  refine Rn.aload dL_flows_0 rfl ?_
  refine Rn.iconst (v := (nI 0)) dL_flows_2 rfl ?_
  refine Rn.aload_n dL_flows_3 rfl rfl ?_
  refine Rn.iload_n dL_flows_4 rfl rfl ?_
  refine Rn.iload_n dL_flows_5 rfl rfl ?_
  refine Rn.iload_n dL_flows_6 rfl rfl ?_
  refine Rn.callVx (b := 0) (mc := 3) (As := [_, _, _]) dL_flows_7 mv_L_34 (by first | rfl | exact gC0 (by assumption) | exact gL0 (by assumption)) rfl rfl rfl (Nat.le_of_ble_eq_true rfl) hc (fun E J q => ?_) (fun v J q => ?_)
  · obtain ⟨n, hn, rfl⟩ := res_e q.2
    have hn : n ∈ [2] := hn
    simp only [List.mem_cons, List.not_mem_nil, or_false] at hn
    subst hn
    · exact zcatchK (E := "java/lang/IndexOutOfBoundsException") [] (x := (0, 12, 15, 24)) (hs := []) (i := 5) (n2 := 2) rfl (fun _ h => nomatch h) rfl wi_776 (by decide) (by decide) (Or.inr ⟨dL_flows_15, rfl⟩) (by decide) dL_flows_17 rfl dL_flows_18 rfl ⟨⟨_, rfl⟩, q.1⟩
  · obtain ⟨x, rfl⟩ := res_i q.2 (by decide)
    refine Rn.i2l dL_flows_10 ?_
    refine Rn.last dL_flows_11 (by first | rfl | exact gC1 (by assumption) | exact gC2 (by assumption) | exact gC3 (by assumption) | exact gL1 (by assumption) | exact gL2 (by assumption) | exact gL3 (by assumption) | exact gL4 (by assumption) | exact gL5 (by assumption) | exact gL6 (by assumption)) (by decide) (by decide) ?_
    refine Rn.goto 19 dL_flows_12 (by decide) ?_
    refine Rn.iconst (v := (nI 0)) dL_flows_19 rfl ?_
    exact Rn.hret dL_flows_20 rfl (⟨⟨_, rfl⟩, q.1.out _ _⟩)
theorem wr_lend (p0 p1 : Int32) (hB : BX I) (hX : P6 I) : CtW G GAM mL_lend [(0, 10, 13, 24), (0, 10, 17, 13), (0, 10, 21, 41)] (d + 4) 3 [.ref 0, .int p0, .int p1, .ref 107] I (Rv (fun v J => (∃ x, v = some (.int x)) ∧ WQ I J)) := by
  have hc : Ct G GAM mX9_lend (3 + d) 3 [.ref 0, .int p0, .int p1] I (fun o J => WQ I J ∧ ∃ p ∈ ct_22.2.2.2.2.2.2, resM o p.1) := ct_top (cc_22 (okX6 I) (manC6 I)) d [.ref 0, .int p0, .int p1] hB hX ⟨rfl, inIv_F _, inIv_F _, trivial⟩ (fun e he => nomatch he) (by decide +kernel) (by decide +kernel)
  rw [Nat.add_comm] at hc
  refine CtW.mk [some (.ref 0), some (.int p0), some (.int p1), some (.ref 107), none] ?_
  refine Rn.aload_n dL_lend_0 rfl rfl ?_
  refine Rn.iconst (v := (nI 0)) dL_lend_1 rfl ?_
  refine Rn.aload_n dL_lend_2 rfl rfl ?_
  refine Rn.iload_n dL_lend_3 rfl rfl ?_
  refine Rn.iload_n dL_lend_4 rfl rfl ?_
  refine Rn.callVx (b := 0) (mc := 3) (As := [_, _]) dL_lend_5 mv_L_38 (by first | rfl | exact gC0 (by assumption) | exact gL0 (by assumption)) rfl rfl rfl (Nat.le_of_ble_eq_true rfl) hc (fun E J q => ?_) (fun v J q => ?_)
  · obtain ⟨n, hn, rfl⟩ := res_e q.2
    have hn : n ∈ [0, 2, 4] := hn
    simp only [List.mem_cons, List.not_mem_nil, or_false] at hn
    rcases hn with rfl | rfl | rfl
    · exact zcatchK (E := "java/lang/IllegalArgumentException") [((0, 10, 13, 24), "java/lang/IndexOutOfBoundsException")] (x := (0, 10, 17, 13)) (hs := [(0, 10, 21, 41)]) (i := 4) (n2 := 2) rfl (List.forall_mem_cons.mpr ⟨⟨by decide, wi_776, by decide, by decide⟩, fun _ h => nomatch h⟩) rfl wi_547 (by decide) (by decide) (Or.inr ⟨dL_lend_17, rfl⟩) (by decide) dL_lend_19 rfl dL_lend_20 rfl ⟨⟨_, rfl⟩, q.1⟩
    · exact zcatchK (E := "java/lang/IndexOutOfBoundsException") [] (x := (0, 10, 13, 24)) (hs := [(0, 10, 17, 13), (0, 10, 21, 41)]) (i := 4) (n2 := 2) rfl (fun _ h => nomatch h) rfl wi_776 (by decide) (by decide) (Or.inr ⟨dL_lend_13, rfl⟩) (by decide) dL_lend_15 rfl dL_lend_16 rfl ⟨⟨_, rfl⟩, q.1⟩
    · exact zcatchK (E := "java/lang/IllegalStateException") [((0, 10, 13, 24), "java/lang/IndexOutOfBoundsException"), ((0, 10, 17, 13), "java/lang/IllegalArgumentException")] (x := (0, 10, 21, 41)) (hs := []) (i := 4) (n2 := 2) rfl (List.forall_mem_cons.mpr ⟨⟨by decide, wi_776, by decide, by decide⟩, List.forall_mem_cons.mpr ⟨⟨by decide, wi_547, by decide, by decide⟩, fun _ h => nomatch h⟩⟩) rfl wi_886 (by decide) (by decide) (Or.inr ⟨dL_lend_21, rfl⟩) (by decide) dL_lend_23 rfl dL_lend_24 rfl ⟨⟨_, rfl⟩, q.1⟩
  · obtain ⟨x, rfl⟩ := res_i q.2 (by decide)
    refine Rn.i2l dL_lend_8 ?_
    refine Rn.last dL_lend_9 (by first | rfl | exact gC1 (by assumption) | exact gC2 (by assumption) | exact gC3 (by assumption) | exact gL1 (by assumption) | exact gL2 (by assumption) | exact gL3 (by assumption) | exact gL4 (by assumption) | exact gL5 (by assumption) | exact gL6 (by assumption)) (by decide) (by decide) ?_
    refine Rn.goto 25 dL_lend_10 (by decide) ?_
    refine Rn.iconst (v := (nI 0)) dL_lend_25 rfl ?_
    exact Rn.hret dL_lend_26 rfl (⟨⟨_, rfl⟩, q.1.out _ _⟩)
theorem wr_wed (p0 p1 : Int32) (hB : BX I) (hX : P6 I) : CtW G GAM mL_wed [(0, 10, 13, 24), (0, 10, 17, 41)] (d + 6) 3 [.ref 0, .int p0, .int p1, .ref 107] I (Rv (fun v J => (∃ x, v = some (.int x)) ∧ WQ I J)) := by
  have hc : Ct G GAM mX9_wed (5 + d) 3 [.ref 0, .int p0, .int p1] I (fun o J => WQ I J ∧ ∃ p ∈ ct_33.2.2.2.2.2.2, resM o p.1) := ct_top (cc_33 (okX6 I) (manC6 I)) d [.ref 0, .int p0, .int p1] hB hX ⟨rfl, inIv_F _, inIv_F _, trivial⟩ (fun e he => nomatch he) (by decide +kernel) (by decide +kernel)
  rw [Nat.add_comm] at hc
  refine CtW.mk [some (.ref 0), some (.int p0), some (.int p1), some (.ref 107), none] ?_
  refine Rn.aload_n dL_wed_0 rfl rfl ?_
  refine Rn.iconst (v := (nI 0)) dL_wed_1 rfl ?_
  refine Rn.aload_n dL_wed_2 rfl rfl ?_
  refine Rn.iload_n dL_wed_3 rfl rfl ?_
  refine Rn.iload_n dL_wed_4 rfl rfl ?_
  refine Rn.callVx (b := 0) (mc := 3) (As := [_, _]) dL_wed_5 mv_L_43 (by first | rfl | exact gC0 (by assumption) | exact gL0 (by assumption)) rfl rfl rfl (Nat.le_of_ble_eq_true rfl) hc (fun E J q => ?_) (fun v J q => ?_)
  · obtain ⟨n, hn, rfl⟩ := res_e q.2
    have hn : n ∈ [2, 4] := hn
    simp only [List.mem_cons, List.not_mem_nil, or_false] at hn
    rcases hn with rfl | rfl
    · exact zcatchK (E := "java/lang/IndexOutOfBoundsException") [] (x := (0, 10, 13, 24)) (hs := [(0, 10, 17, 41)]) (i := 4) (n2 := 2) rfl (fun _ h => nomatch h) rfl wi_776 (by decide) (by decide) (Or.inr ⟨dL_wed_13, rfl⟩) (by decide) dL_wed_15 rfl dL_wed_16 rfl ⟨⟨_, rfl⟩, q.1⟩
    · exact zcatchK (E := "java/lang/IllegalStateException") [((0, 10, 13, 24), "java/lang/IndexOutOfBoundsException")] (x := (0, 10, 17, 41)) (hs := []) (i := 4) (n2 := 2) rfl (List.forall_mem_cons.mpr ⟨⟨by decide, wi_776, by decide, by decide⟩, fun _ h => nomatch h⟩) rfl wi_886 (by decide) (by decide) (Or.inr ⟨dL_wed_17, rfl⟩) (by decide) dL_wed_19 rfl dL_wed_20 rfl ⟨⟨_, rfl⟩, q.1⟩
  · obtain ⟨x, rfl⟩ := res_i q.2 (by decide)
    refine Rn.i2l dL_wed_8 ?_
    refine Rn.last dL_wed_9 (by first | rfl | exact gC1 (by assumption) | exact gC2 (by assumption) | exact gC3 (by assumption) | exact gL1 (by assumption) | exact gL2 (by assumption) | exact gL3 (by assumption) | exact gL4 (by assumption) | exact gL5 (by assumption) | exact gL6 (by assumption)) (by decide) (by decide) ?_
    refine Rn.goto 21 dL_wed_10 (by decide) ?_
    refine Rn.iconst (v := (nI 0)) dL_wed_21 rfl ?_
    exact Rn.hret dL_wed_22 rfl (⟨⟨_, rfl⟩, q.1.out _ _⟩)
theorem wr_pawn (p0 : Int32) (hB : BX I) (hX : P6 I) : CtW G GAM mL_pawn [(0, 9, 12, 24), (0, 9, 15, 41)] (d + 4) 2 [.ref 0, .int p0, .ref 107] I (Rv (fun v J => (∃ x, v = some (.int x)) ∧ WQ I J)) := by
  have hc : Ct G GAM mX9_pawn (3 + d) 2 [.ref 0, .int p0] I (fun o J => WQ I J ∧ ∃ p ∈ ct_34.2.2.2.2.2.2, resM o p.1) := ct_top (cc_34 (okX6 I) (manC6 I)) d [.ref 0, .int p0] hB hX ⟨rfl, inIv_F _, trivial⟩ (fun e he => nomatch he) (by decide +kernel) (by decide +kernel)
  rw [Nat.add_comm] at hc
  refine CtW.mk [some (.ref 0), some (.int p0), some (.ref 107), none] ?_
  refine Rn.aload_n dL_pawn_0 rfl rfl ?_
  refine Rn.iconst (v := (nI 0)) dL_pawn_1 rfl ?_
  refine Rn.aload_n dL_pawn_2 rfl rfl ?_
  refine Rn.iload_n dL_pawn_3 rfl rfl ?_
  refine Rn.callVx (b := 0) (mc := 2) (As := [_]) dL_pawn_4 mv_L_46 (by first | rfl | exact gC0 (by assumption) | exact gL0 (by assumption)) rfl rfl rfl (Nat.le_of_ble_eq_true rfl) hc (fun E J q => ?_) (fun v J q => ?_)
  · obtain ⟨n, hn, rfl⟩ := res_e q.2
    have hn : n ∈ [2, 4] := hn
    simp only [List.mem_cons, List.not_mem_nil, or_false] at hn
    rcases hn with rfl | rfl
    · exact zcatchK (E := "java/lang/IndexOutOfBoundsException") [] (x := (0, 9, 12, 24)) (hs := [(0, 9, 15, 41)]) (i := 3) (n2 := 1) rfl (fun _ h => nomatch h) rfl wi_776 (by decide) (by decide) (Or.inl ⟨3, dL_pawn_12, rfl, rfl⟩) (by decide) dL_pawn_13 rfl dL_pawn_14 rfl ⟨⟨_, rfl⟩, q.1⟩
    · exact zcatchK (E := "java/lang/IllegalStateException") [((0, 9, 12, 24), "java/lang/IndexOutOfBoundsException")] (x := (0, 9, 15, 41)) (hs := []) (i := 3) (n2 := 1) rfl (List.forall_mem_cons.mpr ⟨⟨by decide, wi_776, by decide, by decide⟩, fun _ h => nomatch h⟩) rfl wi_886 (by decide) (by decide) (Or.inl ⟨3, dL_pawn_15, rfl, rfl⟩) (by decide) dL_pawn_16 rfl dL_pawn_17 rfl ⟨⟨_, rfl⟩, q.1⟩
  · obtain ⟨x, rfl⟩ := res_i q.2 (by decide)
    refine Rn.i2l dL_pawn_7 ?_
    refine Rn.last dL_pawn_8 (by first | rfl | exact gC1 (by assumption) | exact gC2 (by assumption) | exact gC3 (by assumption) | exact gL1 (by assumption) | exact gL2 (by assumption) | exact gL3 (by assumption) | exact gL4 (by assumption) | exact gL5 (by assumption) | exact gL6 (by assumption)) (by decide) (by decide) ?_
    refine Rn.goto 18 dL_pawn_9 (by decide) ?_
    refine Rn.iconst (v := (nI 0)) dL_pawn_18 rfl ?_
    exact Rn.hret dL_pawn_19 rfl (⟨⟨_, rfl⟩, q.1.out _ _⟩)
theorem wr_redeem (p0 : Int32) (hB : BX I) (hX : P6 I) : CtW G GAM mL_redeem [(0, 9, 12, 24), (0, 9, 15, 41)] (d + 4) 2 [.ref 0, .int p0, .ref 107] I (Rv (fun v J => (∃ x, v = some (.int x)) ∧ WQ I J)) := by
  have hc : Ct G GAM mX9_redeem (3 + d) 2 [.ref 0, .int p0] I (fun o J => WQ I J ∧ ∃ p ∈ ct_35.2.2.2.2.2.2, resM o p.1) := ct_top (cc_35 (okX6 I) (manC6 I)) d [.ref 0, .int p0] hB hX ⟨rfl, inIv_F _, trivial⟩ (fun e he => nomatch he) (by decide +kernel) (by decide +kernel)
  rw [Nat.add_comm] at hc
  refine CtW.mk [some (.ref 0), some (.int p0), some (.ref 107), none] ?_
  refine Rn.aload_n dL_redeem_0 rfl rfl ?_
  refine Rn.iconst (v := (nI 0)) dL_redeem_1 rfl ?_
  refine Rn.aload_n dL_redeem_2 rfl rfl ?_
  refine Rn.iload_n dL_redeem_3 rfl rfl ?_
  refine Rn.callVx (b := 0) (mc := 2) (As := [_]) dL_redeem_4 mv_L_50 (by first | rfl | exact gC0 (by assumption) | exact gL0 (by assumption)) rfl rfl rfl (Nat.le_of_ble_eq_true rfl) hc (fun E J q => ?_) (fun v J q => ?_)
  · obtain ⟨n, hn, rfl⟩ := res_e q.2
    have hn : n ∈ [2, 4] := hn
    simp only [List.mem_cons, List.not_mem_nil, or_false] at hn
    rcases hn with rfl | rfl
    · exact zcatchK (E := "java/lang/IndexOutOfBoundsException") [] (x := (0, 9, 12, 24)) (hs := [(0, 9, 15, 41)]) (i := 3) (n2 := 1) rfl (fun _ h => nomatch h) rfl wi_776 (by decide) (by decide) (Or.inl ⟨3, dL_redeem_12, rfl, rfl⟩) (by decide) dL_redeem_13 rfl dL_redeem_14 rfl ⟨⟨_, rfl⟩, q.1⟩
    · exact zcatchK (E := "java/lang/IllegalStateException") [((0, 9, 12, 24), "java/lang/IndexOutOfBoundsException")] (x := (0, 9, 15, 41)) (hs := []) (i := 3) (n2 := 1) rfl (List.forall_mem_cons.mpr ⟨⟨by decide, wi_776, by decide, by decide⟩, fun _ h => nomatch h⟩) rfl wi_886 (by decide) (by decide) (Or.inl ⟨3, dL_redeem_15, rfl, rfl⟩) (by decide) dL_redeem_16 rfl dL_redeem_17 rfl ⟨⟨_, rfl⟩, q.1⟩
  · obtain ⟨x, rfl⟩ := res_i q.2 (by decide)
    refine Rn.i2l dL_redeem_7 ?_
    refine Rn.last dL_redeem_8 (by first | rfl | exact gC1 (by assumption) | exact gC2 (by assumption) | exact gC3 (by assumption) | exact gL1 (by assumption) | exact gL2 (by assumption) | exact gL3 (by assumption) | exact gL4 (by assumption) | exact gL5 (by assumption) | exact gL6 (by assumption)) (by decide) (by decide) ?_
    refine Rn.goto 18 dL_redeem_9 (by decide) ?_
    refine Rn.iconst (v := (nI 0)) dL_redeem_18 rfl ?_
    exact Rn.hret dL_redeem_19 rfl (⟨⟨_, rfl⟩, q.1.out _ _⟩)
theorem wr_cut (p0 : Int32) (hB : BX I) (hX : P6 I) : CtW G GAM mL_cut [(0, 9, 12, 24), (0, 9, 15, 41)] (d + 4) 2 [.ref 0, .int p0, .ref 107] I (Rv (fun v J => (∃ x, v = some (.int x)) ∧ WQ I J)) := by
  have hc : Ct G GAM mX9_cut (3 + d) 2 [.ref 0, .int p0] I (fun o J => WQ I J ∧ ∃ p ∈ ct_36.2.2.2.2.2.2, resM o p.1) := ct_top (cc_36 (okX6 I) (manC6 I)) d [.ref 0, .int p0] hB hX ⟨rfl, inIv_F _, trivial⟩ (fun e he => nomatch he) (by decide +kernel) (by decide +kernel)
  rw [Nat.add_comm] at hc
  refine CtW.mk [some (.ref 0), some (.int p0), some (.ref 107), none] ?_
  refine Rn.aload_n dL_cut_0 rfl rfl ?_
  refine Rn.iconst (v := (nI 0)) dL_cut_1 rfl ?_
  refine Rn.aload_n dL_cut_2 rfl rfl ?_
  refine Rn.iload_n dL_cut_3 rfl rfl ?_
  refine Rn.callVx (b := 0) (mc := 2) (As := [_]) dL_cut_4 mv_L_53 (by first | rfl | exact gC0 (by assumption) | exact gL0 (by assumption)) rfl rfl rfl (Nat.le_of_ble_eq_true rfl) hc (fun E J q => ?_) (fun v J q => ?_)
  · obtain ⟨n, hn, rfl⟩ := res_e q.2
    have hn : n ∈ [2, 4] := hn
    simp only [List.mem_cons, List.not_mem_nil, or_false] at hn
    rcases hn with rfl | rfl
    · exact zcatchK (E := "java/lang/IndexOutOfBoundsException") [] (x := (0, 9, 12, 24)) (hs := [(0, 9, 15, 41)]) (i := 3) (n2 := 1) rfl (fun _ h => nomatch h) rfl wi_776 (by decide) (by decide) (Or.inl ⟨3, dL_cut_12, rfl, rfl⟩) (by decide) dL_cut_13 rfl dL_cut_14 rfl ⟨⟨_, rfl⟩, q.1⟩
    · exact zcatchK (E := "java/lang/IllegalStateException") [((0, 9, 12, 24), "java/lang/IndexOutOfBoundsException")] (x := (0, 9, 15, 41)) (hs := []) (i := 3) (n2 := 1) rfl (List.forall_mem_cons.mpr ⟨⟨by decide, wi_776, by decide, by decide⟩, fun _ h => nomatch h⟩) rfl wi_886 (by decide) (by decide) (Or.inl ⟨3, dL_cut_15, rfl, rfl⟩) (by decide) dL_cut_16 rfl dL_cut_17 rfl ⟨⟨_, rfl⟩, q.1⟩
  · obtain ⟨x, rfl⟩ := res_i q.2 (by decide)
    refine Rn.i2l dL_cut_7 ?_
    refine Rn.last dL_cut_8 (by first | rfl | exact gC1 (by assumption) | exact gC2 (by assumption) | exact gC3 (by assumption) | exact gL1 (by assumption) | exact gL2 (by assumption) | exact gL3 (by assumption) | exact gL4 (by assumption) | exact gL5 (by assumption) | exact gL6 (by assumption)) (by decide) (by decide) ?_
    refine Rn.goto 18 dL_cut_9 (by decide) ?_
    refine Rn.iconst (v := (nI 0)) dL_cut_18 rfl ?_
    exact Rn.hret dL_cut_19 rfl (⟨⟨_, rfl⟩, q.1.out _ _⟩)
theorem wr_widow (p0 p1 : Int32) (hB : BX I) (hX : P6 I) : CtW G GAM mL_widow [(0, 17, 20, 24)] (d + 4) 1 [.ref 0, .int p0, .int p1, .ref 107] I (Rv (fun v J => (∃ x, v = some (.int x)) ∧ WQ I J)) := by
  have hc : Ct G GAM mX9_widow (3 + d) 1 [.ref 0, .int p0, .int p1] I (fun o J => WQ I J ∧ ∃ p ∈ ct_37.2.2.2.2.2.2, resM o p.1) := ct_top (cc_37 (okX6 I) (manC6 I)) d [.ref 0, .int p0, .int p1] hB hX ⟨rfl, inIv_F _, inIv_F _, trivial⟩ (fun e he => nomatch he) (by decide +kernel) (by decide +kernel)
  rw [Nat.add_comm] at hc
  refine CtW.mk [some (.ref 0), some (.int p0), some (.int p1), some (.ref 107), none] ?_
  refine Rn.aload_n dL_widow_0 rfl rfl ?_
  refine Rn.iconst (v := (nI 0)) dL_widow_1 rfl ?_
  refine Rn.aload_n dL_widow_2 rfl rfl ?_
  refine Rn.iload_n dL_widow_3 rfl rfl ?_
  refine Rn.iload_n dL_widow_4 rfl rfl ?_
  refine Rn.callVx (b := 0) (mc := 1) (As := [_, _]) dL_widow_5 mv_L_56 (by first | rfl | exact gC0 (by assumption) | exact gL0 (by assumption)) rfl rfl rfl (Nat.le_of_ble_eq_true rfl) hc (fun E J q => ?_) (fun v J q => ?_)
  · obtain ⟨n, hn, rfl⟩ := res_e q.2
    have hn : n ∈ [2] := hn
    simp only [List.mem_cons, List.not_mem_nil, or_false] at hn
    subst hn
    · exact zcatchK (E := "java/lang/IndexOutOfBoundsException") [] (x := (0, 17, 20, 24)) (hs := []) (i := 4) (n2 := 2) rfl (fun _ h => nomatch h) rfl wi_776 (by decide) (by decide) (Or.inr ⟨dL_widow_20, rfl⟩) (by decide) dL_widow_22 rfl dL_widow_23 rfl ⟨⟨_, rfl⟩, q.1⟩
  · obtain ⟨x, rfl⟩ := res_i q.2 (by decide)
    refine Rn.if_eq (tgt := 15) dL_widow_8 (by decide) (fun h1 => ?_) (fun h1 => ?_)
    · refine Rn.lcon (0) dL_widow_15 (by decide) ?_
      refine Rn.last dL_widow_16 (by first | rfl | exact gC1 (by assumption) | exact gC2 (by assumption) | exact gC3 (by assumption) | exact gL1 (by assumption) | exact gL2 (by assumption) | exact gL3 (by assumption) | exact gL4 (by assumption) | exact gL5 (by assumption) | exact gL6 (by assumption)) (by decide) (by decide) ?_
      refine Rn.goto 24 dL_widow_17 (by decide) ?_
      refine Rn.iconst (v := (nI 0)) dL_widow_24 rfl ?_
      exact Rn.hret dL_widow_25 rfl (⟨⟨_, rfl⟩, q.1.out _ _⟩)
    · refine Rn.lcon (1) dL_widow_11 (by decide) ?_
      refine Rn.goto 16 dL_widow_12 (by decide) ?_
      refine Rn.last dL_widow_16 (by first | rfl | exact gC1 (by assumption) | exact gC2 (by assumption) | exact gC3 (by assumption) | exact gL1 (by assumption) | exact gL2 (by assumption) | exact gL3 (by assumption) | exact gL4 (by assumption) | exact gL5 (by assumption) | exact gL6 (by assumption)) (by decide) (by decide) ?_
      refine Rn.goto 24 dL_widow_17 (by decide) ?_
      refine Rn.iconst (v := (nI 0)) dL_widow_24 rfl ?_
      exact Rn.hret dL_widow_25 rfl (⟨⟨_, rfl⟩, q.1.out _ _⟩)
theorem wr_days (p0 : Int32) (hB : BX I) (hX : P6 I) : CtW G GAM mL_days [(0, 9, 12, 13)] (d + 7) 1 [.ref 0, .int p0, .ref 107] I (Rv (fun v J => (∃ x, v = some (.int x)) ∧ WQ I J)) := by
  have hc : Ct G GAM mX9_days (6 + d) 1 [.ref 0, .int p0] I (fun o J => WQ I J ∧ ∃ p ∈ ct_42.2.2.2.2.2.2, resM o p.1) := ct_top (cc_42 (okX6 I) (manC6 I)) d [.ref 0, .int p0] hB hX ⟨rfl, inIv_F _, trivial⟩ (fun e he => nomatch he) (by decide +kernel) (by decide +kernel)
  rw [Nat.add_comm] at hc
  refine CtW.mk [some (.ref 0), some (.int p0), some (.ref 107), none] ?_
  refine Rn.aload_n dL_days_0 rfl rfl ?_
  refine Rn.iconst (v := (nI 0)) dL_days_1 rfl ?_
  refine Rn.aload_n dL_days_2 rfl rfl ?_
  refine Rn.iload_n dL_days_3 rfl rfl ?_
  refine Rn.callVx (b := 0) (mc := 1) (As := [_]) dL_days_4 mv_L_60 (by first | rfl | exact gC0 (by assumption) | exact gL0 (by assumption)) rfl rfl rfl (Nat.le_of_ble_eq_true rfl) hc (fun E J q => ?_) (fun v J q => ?_)
  · obtain ⟨n, hn, rfl⟩ := res_e q.2
    have hn : n ∈ [0] := hn
    simp only [List.mem_cons, List.not_mem_nil, or_false] at hn
    subst hn
    · exact zcatchK (E := "java/lang/IllegalArgumentException") [] (x := (0, 9, 12, 13)) (hs := []) (i := 3) (n2 := 1) rfl (fun _ h => nomatch h) rfl wi_547 (by decide) (by decide) (Or.inl ⟨3, dL_days_12, rfl, rfl⟩) (by decide) dL_days_13 rfl dL_days_14 rfl ⟨⟨_, rfl⟩, q.1⟩
  · obtain ⟨x, rfl⟩ := res_i q.2 (by decide)
    refine Rn.i2l dL_days_7 ?_
    refine Rn.last dL_days_8 (by first | rfl | exact gC1 (by assumption) | exact gC2 (by assumption) | exact gC3 (by assumption) | exact gL1 (by assumption) | exact gL2 (by assumption) | exact gL3 (by assumption) | exact gL4 (by assumption) | exact gL5 (by assumption) | exact gL6 (by assumption)) (by decide) (by decide) ?_
    refine Rn.goto 15 dL_days_9 (by decide) ?_
    refine Rn.iconst (v := (nI 0)) dL_days_15 rfl ?_
    exact Rn.hret dL_days_16 rfl (⟨⟨_, rfl⟩, q.1.out _ _⟩)
theorem wr_best (p0 : Int32) (hB : BX I) (hX : P6 I) : CtW G GAM mL_best [(0, 9, 12, 24)] (d + 6) 1 [.ref 0, .int p0, .ref 107] I (Rv (fun v J => (∃ x, v = some (.int x)) ∧ WQ I J)) := by
  have hc : Ct G GAM mX9_best (5 + d) 1 [.ref 0, .int p0] I (fun o J => WQ I J ∧ ∃ p ∈ ct_43.2.2.2.2.2.2, resM o p.1) := ct_top (cc_43 (okX6 I) (manC6 I)) d [.ref 0, .int p0] hB hX ⟨rfl, inIv_F _, trivial⟩ (fun e he => nomatch he) (by decide +kernel) (by decide +kernel)
  rw [Nat.add_comm] at hc
  refine CtW.mk [some (.ref 0), some (.int p0), some (.ref 107), none] ?_
  refine Rn.aload_n dL_best_0 rfl rfl ?_
  refine Rn.iconst (v := (nI 0)) dL_best_1 rfl ?_
  refine Rn.aload_n dL_best_2 rfl rfl ?_
  refine Rn.iload_n dL_best_3 rfl rfl ?_
  refine Rn.callVx (b := 0) (mc := 1) (As := [_]) dL_best_4 mv_L_63 (by first | rfl | exact gC0 (by assumption) | exact gL0 (by assumption)) rfl rfl rfl (Nat.le_of_ble_eq_true rfl) hc (fun E J q => ?_) (fun v J q => ?_)
  · obtain ⟨n, hn, rfl⟩ := res_e q.2
    have hn : n ∈ [2] := hn
    simp only [List.mem_cons, List.not_mem_nil, or_false] at hn
    subst hn
    · exact zcatchK (E := "java/lang/IndexOutOfBoundsException") [] (x := (0, 9, 12, 24)) (hs := []) (i := 3) (n2 := 1) rfl (fun _ h => nomatch h) rfl wi_776 (by decide) (by decide) (Or.inl ⟨3, dL_best_12, rfl, rfl⟩) (by decide) dL_best_13 rfl dL_best_14 rfl ⟨⟨_, rfl⟩, q.1⟩
  · obtain ⟨x, rfl⟩ := res_i q.2 (by decide)
    refine Rn.i2l dL_best_7 ?_
    refine Rn.last dL_best_8 (by first | rfl | exact gC1 (by assumption) | exact gC2 (by assumption) | exact gC3 (by assumption) | exact gL1 (by assumption) | exact gL2 (by assumption) | exact gL3 (by assumption) | exact gL4 (by assumption) | exact gL5 (by assumption) | exact gL6 (by assumption)) (by decide) (by decide) ?_
    refine Rn.goto 15 dL_best_9 (by decide) ?_
    refine Rn.iconst (v := (nI 0)) dL_best_15 rfl ?_
    exact Rn.hret dL_best_16 rfl (⟨⟨_, rfl⟩, q.1.out _ _⟩)
theorem wr_order (p0 p1 p2 : Int32) (hB : BX I) (hX : P6 I) : CtW G GAM mL_order [(0, 12, 15, 24), (0, 12, 19, 13)] (d + 7) 2 [.ref 0, .int p0, .int p1, .int p2, .ref 107] I (Rv (fun v J => (∃ x, v = some (.int x)) ∧ WQ I J)) := by
  have hc : Ct G GAM mX9_order (6 + d) 2 [.ref 0, .int p0, .int p1, .int p2] I (fun o J => WQ I J ∧ ∃ p ∈ ct_67.2.2.2.2.2.2, resM o p.1) := ct_top (cc_67 (okX6 I) (manC6 I)) d [.ref 0, .int p0, .int p1, .int p2] hB hX ⟨rfl, inIv_F _, inIv_F _, inIv_F _, trivial⟩ (fun e he => nomatch he) (by decide +kernel) (by decide +kernel)
  rw [Nat.add_comm] at hc
  refine CtW.mk [some (.ref 0), some (.int p0), some (.int p1), some (.int p2), some (.ref 107), none] ?_
  refine Rn.aload dL_order_0 rfl ?_
  refine Rn.iconst (v := (nI 0)) dL_order_2 rfl ?_
  refine Rn.aload_n dL_order_3 rfl rfl ?_
  refine Rn.iload_n dL_order_4 rfl rfl ?_
  refine Rn.iload_n dL_order_5 rfl rfl ?_
  refine Rn.iload_n dL_order_6 rfl rfl ?_
  refine Rn.callVx (b := 0) (mc := 2) (As := [_, _, _]) dL_order_7 mv_L_66 (by first | rfl | exact gC0 (by assumption) | exact gL0 (by assumption)) rfl rfl rfl (Nat.le_of_ble_eq_true rfl) hc (fun E J q => ?_) (fun v J q => ?_)
  · obtain ⟨n, hn, rfl⟩ := res_e q.2
    have hn : n ∈ [0, 2] := hn
    simp only [List.mem_cons, List.not_mem_nil, or_false] at hn
    rcases hn with rfl | rfl
    · exact zcatchK (E := "java/lang/IllegalArgumentException") [((0, 12, 15, 24), "java/lang/IndexOutOfBoundsException")] (x := (0, 12, 19, 13)) (hs := []) (i := 5) (n2 := 2) rfl (List.forall_mem_cons.mpr ⟨⟨by decide, wi_776, by decide, by decide⟩, fun _ h => nomatch h⟩) rfl wi_547 (by decide) (by decide) (Or.inr ⟨dL_order_19, rfl⟩) (by decide) dL_order_21 rfl dL_order_22 rfl ⟨⟨_, rfl⟩, q.1⟩
    · exact zcatchK (E := "java/lang/IndexOutOfBoundsException") [] (x := (0, 12, 15, 24)) (hs := [(0, 12, 19, 13)]) (i := 5) (n2 := 2) rfl (fun _ h => nomatch h) rfl wi_776 (by decide) (by decide) (Or.inr ⟨dL_order_15, rfl⟩) (by decide) dL_order_17 rfl dL_order_18 rfl ⟨⟨_, rfl⟩, q.1⟩
  · obtain ⟨x, rfl⟩ := res_i q.2 (by decide)
    refine Rn.i2l dL_order_10 ?_
    refine Rn.last dL_order_11 (by first | rfl | exact gC1 (by assumption) | exact gC2 (by assumption) | exact gC3 (by assumption) | exact gL1 (by assumption) | exact gL2 (by assumption) | exact gL3 (by assumption) | exact gL4 (by assumption) | exact gL5 (by assumption) | exact gL6 (by assumption)) (by decide) (by decide) ?_
    refine Rn.goto 23 dL_order_12 (by decide) ?_
    refine Rn.iconst (v := (nI 0)) dL_order_23 rfl ?_
    exact Rn.hret dL_order_24 rfl (⟨⟨_, rfl⟩, q.1.out _ _⟩)
theorem wr_lowest (p0 p1 : Int32) (hB : BX I) (hX : P6 I) : CtW G GAM mL_lowest [(0, 10, 13, 24), (0, 10, 17, 13)] (d + 7) 2 [.ref 0, .int p0, .int p1, .ref 107] I (Rv (fun v J => (∃ x, v = some (.int x)) ∧ WQ I J)) := by
  have hc : Ct G GAM mX9_lowest (6 + d) 2 [.ref 0, .int p0, .int p1] I (fun o J => WQ I J ∧ ∃ p ∈ ct_68.2.2.2.2.2.2, resM o p.1) := ct_top (cc_68 (okX6 I) (manC6 I)) d [.ref 0, .int p0, .int p1] hB hX ⟨rfl, inIv_F _, inIv_F _, trivial⟩ (fun e he => nomatch he) (by decide +kernel) (by decide +kernel)
  rw [Nat.add_comm] at hc
  refine CtW.mk [some (.ref 0), some (.int p0), some (.int p1), some (.ref 107), none] ?_
  refine Rn.aload_n dL_lowest_0 rfl rfl ?_
  refine Rn.iconst (v := (nI 0)) dL_lowest_1 rfl ?_
  refine Rn.aload_n dL_lowest_2 rfl rfl ?_
  refine Rn.iload_n dL_lowest_3 rfl rfl ?_
  refine Rn.iload_n dL_lowest_4 rfl rfl ?_
  refine Rn.callVx (b := 0) (mc := 2) (As := [_, _]) dL_lowest_5 mv_L_69 (by first | rfl | exact gC0 (by assumption) | exact gL0 (by assumption)) rfl rfl rfl (Nat.le_of_ble_eq_true rfl) hc (fun E J q => ?_) (fun v J q => ?_)
  · obtain ⟨n, hn, rfl⟩ := res_e q.2
    have hn : n ∈ [0, 2] := hn
    simp only [List.mem_cons, List.not_mem_nil, or_false] at hn
    rcases hn with rfl | rfl
    · exact zcatchK (E := "java/lang/IllegalArgumentException") [((0, 10, 13, 24), "java/lang/IndexOutOfBoundsException")] (x := (0, 10, 17, 13)) (hs := []) (i := 4) (n2 := 2) rfl (List.forall_mem_cons.mpr ⟨⟨by decide, wi_776, by decide, by decide⟩, fun _ h => nomatch h⟩) rfl wi_547 (by decide) (by decide) (Or.inr ⟨dL_lowest_17, rfl⟩) (by decide) dL_lowest_19 rfl dL_lowest_20 rfl ⟨⟨_, rfl⟩, q.1⟩
    · exact zcatchK (E := "java/lang/IndexOutOfBoundsException") [] (x := (0, 10, 13, 24)) (hs := [(0, 10, 17, 13)]) (i := 4) (n2 := 2) rfl (fun _ h => nomatch h) rfl wi_776 (by decide) (by decide) (Or.inr ⟨dL_lowest_13, rfl⟩) (by decide) dL_lowest_15 rfl dL_lowest_16 rfl ⟨⟨_, rfl⟩, q.1⟩
  · obtain ⟨x, rfl⟩ := res_i q.2 (by decide)
    refine Rn.i2l dL_lowest_8 ?_
    refine Rn.last dL_lowest_9 (by first | rfl | exact gC1 (by assumption) | exact gC2 (by assumption) | exact gC3 (by assumption) | exact gL1 (by assumption) | exact gL2 (by assumption) | exact gL3 (by assumption) | exact gL4 (by assumption) | exact gL5 (by assumption) | exact gL6 (by assumption)) (by decide) (by decide) ?_
    refine Rn.goto 21 dL_lowest_10 (by decide) ?_
    refine Rn.iconst (v := (nI 0)) dL_lowest_21 rfl ?_
    exact Rn.hret dL_lowest_22 rfl (⟨⟨_, rfl⟩, q.1.out _ _⟩)
theorem wr_reach (p0 p1 p2 p3 : Int32) (hB : BX I) (hX : P6 I) : CtW G GAM mL_reach [(0, 14, 17, 24), (0, 14, 21, 13)] (d + 6) 4 [.ref 0, .int p0, .int p1, .int p2, .int p3, .ref 107] I (Rv (fun v J => (∃ x, v = some (.int x)) ∧ WQ I J)) := by
  have hc : Ct G GAM mX9_reach (5 + d) 4 [.ref 0, .int p0, .int p1, .int p2, .int p3] I (fun o J => WQ I J ∧ ∃ p ∈ ct_69.2.2.2.2.2.2, resM o p.1) := ct_top (cc_69 (okX6 I) (manC6 I)) d [.ref 0, .int p0, .int p1, .int p2, .int p3] hB hX ⟨rfl, inIv_F _, inIv_F _, inIv_F _, inIv_F _, trivial⟩ (fun e he => nomatch he) (by decide +kernel) (by decide +kernel)
  rw [Nat.add_comm] at hc
  refine CtW.mk [some (.ref 0), some (.int p0), some (.int p1), some (.int p2), some (.int p3), some (.ref 107), none] ?_
  refine Rn.aload dL_reach_0 rfl ?_
  refine Rn.iconst (v := (nI 0)) dL_reach_2 rfl ?_
  refine Rn.aload_n dL_reach_3 rfl rfl ?_
  refine Rn.iload_n dL_reach_4 rfl rfl ?_
  refine Rn.iload_n dL_reach_5 rfl rfl ?_
  refine Rn.iload_n dL_reach_6 rfl rfl ?_
  refine Rn.iload dL_reach_7 rfl ?_
  refine Rn.callVx (b := 0) (mc := 4) (As := [_, _, _, _]) dL_reach_9 mv_L_72 (by first | rfl | exact gC0 (by assumption) | exact gL0 (by assumption)) rfl rfl rfl (Nat.le_of_ble_eq_true rfl) hc (fun E J q => ?_) (fun v J q => ?_)
  · obtain ⟨n, hn, rfl⟩ := res_e q.2
    have hn : n ∈ [0, 2] := hn
    simp only [List.mem_cons, List.not_mem_nil, or_false] at hn
    rcases hn with rfl | rfl
    · exact zcatchK (E := "java/lang/IllegalArgumentException") [((0, 14, 17, 24), "java/lang/IndexOutOfBoundsException")] (x := (0, 14, 21, 13)) (hs := []) (i := 6) (n2 := 2) rfl (List.forall_mem_cons.mpr ⟨⟨by decide, wi_776, by decide, by decide⟩, fun _ h => nomatch h⟩) rfl wi_547 (by decide) (by decide) (Or.inr ⟨dL_reach_21, rfl⟩) (by decide) dL_reach_23 rfl dL_reach_24 rfl ⟨⟨_, rfl⟩, q.1⟩
    · exact zcatchK (E := "java/lang/IndexOutOfBoundsException") [] (x := (0, 14, 17, 24)) (hs := [(0, 14, 21, 13)]) (i := 6) (n2 := 2) rfl (fun _ h => nomatch h) rfl wi_776 (by decide) (by decide) (Or.inr ⟨dL_reach_17, rfl⟩) (by decide) dL_reach_19 rfl dL_reach_20 rfl ⟨⟨_, rfl⟩, q.1⟩
  · obtain ⟨x, rfl⟩ := res_i q.2 (by decide)
    refine Rn.i2l dL_reach_12 ?_
    refine Rn.last dL_reach_13 (by first | rfl | exact gC1 (by assumption) | exact gC2 (by assumption) | exact gC3 (by assumption) | exact gL1 (by assumption) | exact gL2 (by assumption) | exact gL3 (by assumption) | exact gL4 (by assumption) | exact gL5 (by assumption) | exact gL6 (by assumption)) (by decide) (by decide) ?_
    refine Rn.goto 25 dL_reach_14 (by decide) ?_
    refine Rn.iconst (v := (nI 0)) dL_reach_25 rfl ?_
    exact Rn.hret dL_reach_26 rfl (⟨⟨_, rfl⟩, q.1.out _ _⟩)
theorem wr_chain (p0 : Int32) (hB : BX I) (hX : P6 I) : CtW G GAM mL_chain [(0, 9, 12, 24)] (d + 3) 1 [.ref 0, .int p0, .ref 107] I (Rv (fun v J => (∃ x, v = some (.int x)) ∧ WQ I J)) := by
  have hc : Ct G GAM mX9_chain (2 + d) 1 [.ref 0, .int p0] I (fun o J => WQ I J ∧ ∃ p ∈ ct_72.2.2.2.2.2.2, resM o p.1) := ct_top (cc_72 (okX6 I) (manC6 I)) d [.ref 0, .int p0] hB hX ⟨rfl, inIv_F _, trivial⟩ (fun e he => nomatch he) (by decide +kernel) (by decide +kernel)
  rw [Nat.add_comm] at hc
  refine CtW.mk [some (.ref 0), some (.int p0), some (.ref 107), none] ?_
  refine Rn.aload_n dL_chain_0 rfl rfl ?_
  refine Rn.iconst (v := (nI 0)) dL_chain_1 rfl ?_
  refine Rn.aload_n dL_chain_2 rfl rfl ?_
  refine Rn.iload_n dL_chain_3 rfl rfl ?_
  refine Rn.callVx (b := 0) (mc := 1) (As := [_]) dL_chain_4 mv_L_76 (by first | rfl | exact gC0 (by assumption) | exact gL0 (by assumption)) rfl rfl rfl (Nat.le_of_ble_eq_true rfl) hc (fun E J q => ?_) (fun v J q => ?_)
  · obtain ⟨n, hn, rfl⟩ := res_e q.2
    have hn : n ∈ [2] := hn
    simp only [List.mem_cons, List.not_mem_nil, or_false] at hn
    subst hn
    · exact zcatchK (E := "java/lang/IndexOutOfBoundsException") [] (x := (0, 9, 12, 24)) (hs := []) (i := 3) (n2 := 1) rfl (fun _ h => nomatch h) rfl wi_776 (by decide) (by decide) (Or.inl ⟨3, dL_chain_12, rfl, rfl⟩) (by decide) dL_chain_13 rfl dL_chain_14 rfl ⟨⟨_, rfl⟩, q.1⟩
  · obtain ⟨x, rfl⟩ := res_i q.2 (by decide)
    refine Rn.i2l dL_chain_7 ?_
    refine Rn.last dL_chain_8 (by first | rfl | exact gC1 (by assumption) | exact gC2 (by assumption) | exact gC3 (by assumption) | exact gL1 (by assumption) | exact gL2 (by assumption) | exact gL3 (by assumption) | exact gL4 (by assumption) | exact gL5 (by assumption) | exact gL6 (by assumption)) (by decide) (by decide) ?_
    refine Rn.goto 15 dL_chain_9 (by decide) ?_
    refine Rn.iconst (v := (nI 0)) dL_chain_15 rfl ?_
    exact Rn.hret dL_chain_16 rfl (⟨⟨_, rfl⟩, q.1.out _ _⟩)
theorem wr_since (p0 p1 : Int32) (hB : BX I) (hX : P6 I) : CtW G GAM mL_since [(0, 10, 13, 24), (0, 10, 17, 13)] (d + 3) 3 [.ref 0, .int p0, .int p1, .ref 107] I (Rv (fun v J => (∃ x, v = some (.int x)) ∧ WQ I J)) := by
  have hc : Ct G GAM mX9_since (2 + d) 3 [.ref 0, .int p0, .int p1] I (fun o J => WQ I J ∧ ∃ p ∈ ct_73.2.2.2.2.2.2, resM o p.1) := ct_top (cc_73 (okX6 I) (manC6 I)) d [.ref 0, .int p0, .int p1] hB hX ⟨rfl, inIv_F _, inIv_F _, trivial⟩ (fun e he => nomatch he) (by decide +kernel) (by decide +kernel)
  rw [Nat.add_comm] at hc
  refine CtW.mk [some (.ref 0), some (.int p0), some (.int p1), some (.ref 107), none] ?_
  refine Rn.aload_n dL_since_0 rfl rfl ?_
  refine Rn.iconst (v := (nI 0)) dL_since_1 rfl ?_
  refine Rn.aload_n dL_since_2 rfl rfl ?_
  refine Rn.iload_n dL_since_3 rfl rfl ?_
  refine Rn.iload_n dL_since_4 rfl rfl ?_
  refine Rn.callVx (b := 0) (mc := 3) (As := [_, _]) dL_since_5 mv_L_79 (by first | rfl | exact gC0 (by assumption) | exact gL0 (by assumption)) rfl rfl rfl (Nat.le_of_ble_eq_true rfl) hc (fun E J q => ?_) (fun v J q => ?_)
  · obtain ⟨n, hn, rfl⟩ := res_e q.2
    have hn : n ∈ [0, 2] := hn
    simp only [List.mem_cons, List.not_mem_nil, or_false] at hn
    rcases hn with rfl | rfl
    · exact zcatchK (E := "java/lang/IllegalArgumentException") [((0, 10, 13, 24), "java/lang/IndexOutOfBoundsException")] (x := (0, 10, 17, 13)) (hs := []) (i := 4) (n2 := 2) rfl (List.forall_mem_cons.mpr ⟨⟨by decide, wi_776, by decide, by decide⟩, fun _ h => nomatch h⟩) rfl wi_547 (by decide) (by decide) (Or.inr ⟨dL_since_17, rfl⟩) (by decide) dL_since_19 rfl dL_since_20 rfl ⟨⟨_, rfl⟩, q.1⟩
    · exact zcatchK (E := "java/lang/IndexOutOfBoundsException") [] (x := (0, 10, 13, 24)) (hs := [(0, 10, 17, 13)]) (i := 4) (n2 := 2) rfl (fun _ h => nomatch h) rfl wi_776 (by decide) (by decide) (Or.inr ⟨dL_since_13, rfl⟩) (by decide) dL_since_15 rfl dL_since_16 rfl ⟨⟨_, rfl⟩, q.1⟩
  · obtain ⟨x, rfl⟩ := res_i q.2 (by decide)
    refine Rn.i2l dL_since_8 ?_
    refine Rn.last dL_since_9 (by first | rfl | exact gC1 (by assumption) | exact gC2 (by assumption) | exact gC3 (by assumption) | exact gL1 (by assumption) | exact gL2 (by assumption) | exact gL3 (by assumption) | exact gL4 (by assumption) | exact gL5 (by assumption) | exact gL6 (by assumption)) (by decide) (by decide) ?_
    refine Rn.goto 21 dL_since_10 (by decide) ?_
    refine Rn.iconst (v := (nI 0)) dL_since_21 rfl ?_
    exact Rn.hret dL_since_22 rfl (⟨⟨_, rfl⟩, q.1.out _ _⟩)
theorem wr_whose (hB : BX I) (hX : P6 I) : CtW G GAM mL_whose [(0, 8, 11, 13)] (d + 4) 1 [.ref 0, .ref 107] I (Rv (fun v J => (∃ x, v = some (.int x)) ∧ TQ I J)) := by
  have hc : Ct G GAM mX9_whose (3 + d) 1 [.ref 0] I (fun o J => TQ I J ∧ ∃ p ∈ ct_78.2.2.2.2.2.2, resM o p.1) := ct_topT (cc_78 (okX6 I) (manC6 I)) d [.ref 0] hB hX ⟨rfl, trivial⟩ (fun e he => nomatch he) (by decide +kernel) (by decide +kernel)
  rw [Nat.add_comm] at hc
  refine CtW.mk [some (.ref 0), some (.ref 107), none] ?_
  refine Rn.aload_n dL_whose_0 rfl rfl ?_
  refine Rn.iconst (v := (nI 0)) dL_whose_1 rfl ?_
  refine Rn.aload_n dL_whose_2 rfl rfl ?_
  refine Rn.callVx (b := 0) (mc := 1) (As := []) dL_whose_3 mv_L_82 (by first | rfl | exact gC0 (by assumption) | exact gL0 (by assumption)) rfl rfl rfl (Nat.le_of_ble_eq_true rfl) hc (fun E J q => ?_) (fun v J q => ?_)
  · obtain ⟨n, hn, rfl⟩ := res_e q.2
    have hn : n ∈ [0] := hn
    simp only [List.mem_cons, List.not_mem_nil, or_false] at hn
    subst hn
    · exact zcatchK (E := "java/lang/IllegalArgumentException") [] (x := (0, 8, 11, 13)) (hs := []) (i := 2) (n2 := 1) rfl (fun _ h => nomatch h) rfl wi_547 (by decide) (by decide) (Or.inl ⟨2, dL_whose_11, rfl, rfl⟩) (by decide) dL_whose_12 rfl dL_whose_13 rfl ⟨⟨_, rfl⟩, q.1⟩
  · obtain ⟨x, rfl⟩ := res_i q.2 (by decide)
    refine Rn.i2l dL_whose_6 ?_
    refine Rn.last dL_whose_7 (by first | rfl | exact gC1 (by assumption) | exact gC2 (by assumption) | exact gC3 (by assumption) | exact gL1 (by assumption) | exact gL2 (by assumption) | exact gL3 (by assumption) | exact gL4 (by assumption) | exact gL5 (by assumption) | exact gL6 (by assumption)) (by decide) (by decide) ?_
    refine Rn.goto 14 dL_whose_8 (by decide) ?_
    refine Rn.iconst (v := (nI 0)) dL_whose_14 rfl ?_
    exact Rn.hret dL_whose_15 rfl (⟨⟨_, rfl⟩, q.1.out _ _⟩)
theorem wr_next (hB : BX I) (hX : P6 I) : CtW G GAM mL_next [(0, 8, 11, 13)] (d + 4) 1 [.ref 0, .ref 107] I (Rv (fun v J => (∃ x, v = some (.int x)) ∧ TQ I J)) := by
  have hc : Ct G GAM mX9_next (3 + d) 1 [.ref 0] I (fun o J => TQ I J ∧ ∃ p ∈ ct_81.2.2.2.2.2.2, resM o p.1) := ct_topT (cc_81 (okX6 I) (manC6 I)) d [.ref 0] hB hX ⟨rfl, trivial⟩ (fun e he => nomatch he) (by decide +kernel) (by decide +kernel)
  rw [Nat.add_comm] at hc
  refine CtW.mk [some (.ref 0), some (.ref 107), none] ?_
  refine Rn.aload_n dL_next_0 rfl rfl ?_
  refine Rn.iconst (v := (nI 0)) dL_next_1 rfl ?_
  refine Rn.aload_n dL_next_2 rfl rfl ?_
  refine Rn.callVx (b := 0) (mc := 1) (As := []) dL_next_3 mv_L_85 (by first | rfl | exact gC0 (by assumption) | exact gL0 (by assumption)) rfl rfl rfl (Nat.le_of_ble_eq_true rfl) hc (fun E J q => ?_) (fun v J q => ?_)
  · obtain ⟨n, hn, rfl⟩ := res_e q.2
    have hn : n ∈ [0] := hn
    simp only [List.mem_cons, List.not_mem_nil, or_false] at hn
    subst hn
    · exact zcatchK (E := "java/lang/IllegalArgumentException") [] (x := (0, 8, 11, 13)) (hs := []) (i := 2) (n2 := 1) rfl (fun _ h => nomatch h) rfl wi_547 (by decide) (by decide) (Or.inl ⟨2, dL_next_11, rfl, rfl⟩) (by decide) dL_next_12 rfl dL_next_13 rfl ⟨⟨_, rfl⟩, q.1⟩
  · obtain ⟨x, rfl⟩ := res_i q.2 (by decide)
    refine Rn.i2l dL_next_6 ?_
    refine Rn.last dL_next_7 (by first | rfl | exact gC1 (by assumption) | exact gC2 (by assumption) | exact gC3 (by assumption) | exact gL1 (by assumption) | exact gL2 (by assumption) | exact gL3 (by assumption) | exact gL4 (by assumption) | exact gL5 (by assumption) | exact gL6 (by assumption)) (by decide) (by decide) ?_
    refine Rn.goto 14 dL_next_8 (by decide) ?_
    refine Rn.iconst (v := (nI 0)) dL_next_14 rfl ?_
    exact Rn.hret dL_next_15 rfl (⟨⟨_, rfl⟩, q.1.out _ _⟩)
theorem wr_match (p0 p1 : Int32) (hB : BX I) (hX : P6 I) : CtW G GAM mL_match [(0, 10, 13, 13)] (d + 8) 1 [.ref 0, .int p0, .int p1, .ref 107] I (Rv (fun v J => (∃ x, v = some (.int x)) ∧ WQ I J)) := by
  have hc : Ct G GAM mX9_match (7 + d) 1 [.ref 0, .int p0, .int p1] I (fun o J => WQ I J ∧ ∃ p ∈ ct_89.2.2.2.2.2.2, resM o p.1) := ct_top (cc_89 (okX6 I) (manC6 I)) d [.ref 0, .int p0, .int p1] hB hX ⟨rfl, inIv_F _, inIv_F _, trivial⟩ (fun e he => nomatch he) (by decide +kernel) (by decide +kernel)
  rw [Nat.add_comm] at hc
  refine CtW.mk [some (.ref 0), some (.int p0), some (.int p1), some (.ref 107), none] ?_
  refine Rn.aload_n dL_match_0 rfl rfl ?_
  refine Rn.iconst (v := (nI 0)) dL_match_1 rfl ?_
  refine Rn.aload_n dL_match_2 rfl rfl ?_
  refine Rn.iload_n dL_match_3 rfl rfl ?_
  refine Rn.iload_n dL_match_4 rfl rfl ?_
  refine Rn.callVx (b := 0) (mc := 1) (As := [_, _]) dL_match_5 mv_L_88 (by first | rfl | exact gC0 (by assumption) | exact gL0 (by assumption)) rfl rfl rfl (Nat.le_of_ble_eq_true rfl) hc (fun E J q => ?_) (fun v J q => ?_)
  · obtain ⟨n, hn, rfl⟩ := res_e q.2
    have hn : n ∈ [0] := hn
    simp only [List.mem_cons, List.not_mem_nil, or_false] at hn
    subst hn
    · exact zcatchK (E := "java/lang/IllegalArgumentException") [] (x := (0, 10, 13, 13)) (hs := []) (i := 4) (n2 := 2) rfl (fun _ h => nomatch h) rfl wi_547 (by decide) (by decide) (Or.inr ⟨dL_match_13, rfl⟩) (by decide) dL_match_15 rfl dL_match_16 rfl ⟨⟨_, rfl⟩, q.1⟩
  · obtain ⟨x, rfl⟩ := res_i q.2 (by decide)
    refine Rn.i2l dL_match_8 ?_
    refine Rn.last dL_match_9 (by first | rfl | exact gC1 (by assumption) | exact gC2 (by assumption) | exact gC3 (by assumption) | exact gL1 (by assumption) | exact gL2 (by assumption) | exact gL3 (by assumption) | exact gL4 (by assumption) | exact gL5 (by assumption) | exact gL6 (by assumption)) (by decide) (by decide) ?_
    refine Rn.goto 17 dL_match_10 (by decide) ?_
    refine Rn.iconst (v := (nI 0)) dL_match_17 rfl ?_
    exact Rn.hret dL_match_18 rfl (⟨⟨_, rfl⟩, q.1.out _ _⟩)
theorem wr_rests (p0 p1 p2 : Int32) (hB : BX I) (hX : P6 I) : CtW G GAM mL_rests [(0, 12, 15, 24), (0, 12, 19, 13)] (d + 6) 4 [.ref 0, .int p0, .int p1, .int p2, .ref 107] I (Rv (fun v J => (∃ x, v = some (.int x)) ∧ WQ I J)) := by
  have hc : Ct G GAM mX9_rests (5 + d) 4 [.ref 0, .int p0, .int p1, .int p2] I (fun o J => WQ I J ∧ ∃ p ∈ ct_93.2.2.2.2.2.2, resM o p.1) := ct_top (cc_93 (okX6 I) (manC6 I)) d [.ref 0, .int p0, .int p1, .int p2] hB hX ⟨rfl, inIv_F _, inIv_F _, inIv_F _, trivial⟩ (fun e he => nomatch he) (by decide +kernel) (by decide +kernel)
  rw [Nat.add_comm] at hc
  refine CtW.mk [some (.ref 0), some (.int p0), some (.int p1), some (.int p2), some (.ref 107), none] ?_
  refine Rn.aload dL_rests_0 rfl ?_
  refine Rn.iconst (v := (nI 0)) dL_rests_2 rfl ?_
  refine Rn.aload_n dL_rests_3 rfl rfl ?_
  refine Rn.iload_n dL_rests_4 rfl rfl ?_
  refine Rn.iload_n dL_rests_5 rfl rfl ?_
  refine Rn.iload_n dL_rests_6 rfl rfl ?_
  refine Rn.callVx (b := 0) (mc := 4) (As := [_, _, _]) dL_rests_7 mv_L_91 (by first | rfl | exact gC0 (by assumption) | exact gL0 (by assumption)) rfl rfl rfl (Nat.le_of_ble_eq_true rfl) hc (fun E J q => ?_) (fun v J q => ?_)
  · obtain ⟨n, hn, rfl⟩ := res_e q.2
    have hn : n ∈ [0, 2] := hn
    simp only [List.mem_cons, List.not_mem_nil, or_false] at hn
    rcases hn with rfl | rfl
    · exact zcatchK (E := "java/lang/IllegalArgumentException") [((0, 12, 15, 24), "java/lang/IndexOutOfBoundsException")] (x := (0, 12, 19, 13)) (hs := []) (i := 5) (n2 := 2) rfl (List.forall_mem_cons.mpr ⟨⟨by decide, wi_776, by decide, by decide⟩, fun _ h => nomatch h⟩) rfl wi_547 (by decide) (by decide) (Or.inr ⟨dL_rests_19, rfl⟩) (by decide) dL_rests_21 rfl dL_rests_22 rfl ⟨⟨_, rfl⟩, q.1⟩
    · exact zcatchK (E := "java/lang/IndexOutOfBoundsException") [] (x := (0, 12, 15, 24)) (hs := [(0, 12, 19, 13)]) (i := 5) (n2 := 2) rfl (fun _ h => nomatch h) rfl wi_776 (by decide) (by decide) (Or.inr ⟨dL_rests_15, rfl⟩) (by decide) dL_rests_17 rfl dL_rests_18 rfl ⟨⟨_, rfl⟩, q.1⟩
  · obtain ⟨x, rfl⟩ := res_i q.2 (by decide)
    refine Rn.i2l dL_rests_10 ?_
    refine Rn.last dL_rests_11 (by first | rfl | exact gC1 (by assumption) | exact gC2 (by assumption) | exact gC3 (by assumption) | exact gL1 (by assumption) | exact gL2 (by assumption) | exact gL3 (by assumption) | exact gL4 (by assumption) | exact gL5 (by assumption) | exact gL6 (by assumption)) (by decide) (by decide) ?_
    refine Rn.goto 23 dL_rests_12 (by decide) ?_
    refine Rn.iconst (v := (nI 0)) dL_rests_23 rfl ?_
    exact Rn.hret dL_rests_24 rfl (⟨⟨_, rfl⟩, q.1.out _ _⟩)
theorem wr_sells (p0 : Int32) (hB : BX I) (hX : P6 I) : CtW G GAM mL_sells [(0, 9, 12, 13)] (d + 5) 1 [.ref 0, .int p0, .ref 107] I (Rv (fun v J => (∃ x, v = some (.int x)) ∧ WQ I J)) := by
  have hc : Ct G GAM mX9_sells (4 + d) 1 [.ref 0, .int p0] I (fun o J => WQ I J ∧ ∃ p ∈ ct_95.2.2.2.2.2.2, resM o p.1) := ct_top (cc_95 (okX6 I) (manC6 I)) d [.ref 0, .int p0] hB hX ⟨rfl, inIv_F _, trivial⟩ (fun e he => nomatch he) (by decide +kernel) (by decide +kernel)
  rw [Nat.add_comm] at hc
  refine CtW.mk [some (.ref 0), some (.int p0), some (.ref 107), none] ?_
  refine Rn.aload_n dL_sells_0 rfl rfl ?_
  refine Rn.iconst (v := (nI 0)) dL_sells_1 rfl ?_
  refine Rn.aload_n dL_sells_2 rfl rfl ?_
  refine Rn.iload_n dL_sells_3 rfl rfl ?_
  refine Rn.callVx (b := 0) (mc := 1) (As := [_]) dL_sells_4 mv_L_94 (by first | rfl | exact gC0 (by assumption) | exact gL0 (by assumption)) rfl rfl rfl (Nat.le_of_ble_eq_true rfl) hc (fun E J q => ?_) (fun v J q => ?_)
  · obtain ⟨n, hn, rfl⟩ := res_e q.2
    have hn : n ∈ [0] := hn
    simp only [List.mem_cons, List.not_mem_nil, or_false] at hn
    subst hn
    · exact zcatchK (E := "java/lang/IllegalArgumentException") [] (x := (0, 9, 12, 13)) (hs := []) (i := 3) (n2 := 1) rfl (fun _ h => nomatch h) rfl wi_547 (by decide) (by decide) (Or.inl ⟨3, dL_sells_12, rfl, rfl⟩) (by decide) dL_sells_13 rfl dL_sells_14 rfl ⟨⟨_, rfl⟩, q.1⟩
  · obtain ⟨x, rfl⟩ := res_i q.2 (by decide)
    refine Rn.i2l dL_sells_7 ?_
    refine Rn.last dL_sells_8 (by first | rfl | exact gC1 (by assumption) | exact gC2 (by assumption) | exact gC3 (by assumption) | exact gL1 (by assumption) | exact gL2 (by assumption) | exact gL3 (by assumption) | exact gL4 (by assumption) | exact gL5 (by assumption) | exact gL6 (by assumption)) (by decide) (by decide) ?_
    refine Rn.goto 15 dL_sells_9 (by decide) ?_
    refine Rn.iconst (v := (nI 0)) dL_sells_15 rfl ?_
    exact Rn.hret dL_sells_16 rfl (⟨⟨_, rfl⟩, q.1.out _ _⟩)
theorem wr_luckiest (p0 : Int32) (hB : BX I) (hX : P6 I) : CtW G GAM mL_luckiest [(0, 9, 12, 24)] (d + 2) 1 [.ref 0, .int p0, .ref 107] I (Rv (fun v J => (∃ x, v = some (.int x)) ∧ WQ I J)) := by
  have hc : Ct G GAM mX9_luckiest (1 + d) 1 [.ref 0, .int p0] I (fun o J => WQ I J ∧ ∃ p ∈ ct_98.2.2.2.2.2.2, resM o p.1) := ct_top (cc_98 (okX6 I) (manC6 I)) d [.ref 0, .int p0] hB hX ⟨rfl, inIv_F _, trivial⟩ (fun e he => nomatch he) (by decide +kernel) (by decide +kernel)
  rw [Nat.add_comm] at hc
  refine CtW.mk [some (.ref 0), some (.int p0), some (.ref 107), none] ?_
  refine Rn.aload_n dL_luckiest_0 rfl rfl ?_
  refine Rn.iconst (v := (nI 0)) dL_luckiest_1 rfl ?_
  refine Rn.aload_n dL_luckiest_2 rfl rfl ?_
  refine Rn.iload_n dL_luckiest_3 rfl rfl ?_
  refine Rn.callVx (b := 0) (mc := 1) (As := [_]) dL_luckiest_4 mv_L_97 (by first | rfl | exact gC0 (by assumption) | exact gL0 (by assumption)) rfl rfl rfl (Nat.le_of_ble_eq_true rfl) hc (fun E J q => ?_) (fun v J q => ?_)
  · obtain ⟨n, hn, rfl⟩ := res_e q.2
    have hn : n ∈ [2] := hn
    simp only [List.mem_cons, List.not_mem_nil, or_false] at hn
    subst hn
    · exact zcatchK (E := "java/lang/IndexOutOfBoundsException") [] (x := (0, 9, 12, 24)) (hs := []) (i := 3) (n2 := 1) rfl (fun _ h => nomatch h) rfl wi_776 (by decide) (by decide) (Or.inl ⟨3, dL_luckiest_12, rfl, rfl⟩) (by decide) dL_luckiest_13 rfl dL_luckiest_14 rfl ⟨⟨_, rfl⟩, q.1⟩
  · obtain ⟨x, rfl⟩ := res_i q.2 (by decide)
    refine Rn.i2l dL_luckiest_7 ?_
    refine Rn.last dL_luckiest_8 (by first | rfl | exact gC1 (by assumption) | exact gC2 (by assumption) | exact gC3 (by assumption) | exact gL1 (by assumption) | exact gL2 (by assumption) | exact gL3 (by assumption) | exact gL4 (by assumption) | exact gL5 (by assumption) | exact gL6 (by assumption)) (by decide) (by decide) ?_
    refine Rn.goto 15 dL_luckiest_9 (by decide) ?_
    refine Rn.iconst (v := (nI 0)) dL_luckiest_15 rfl ?_
    exact Rn.hret dL_luckiest_16 rfl (⟨⟨_, rfl⟩, q.1.out _ _⟩)
theorem wr_ring (p0 : Int32) (hB : BX I) (hX : P6 I) : CtW G GAM mL_ring [(0, 16, 19, 24)] (d + 3) 1 [.ref 0, .int p0, .ref 107] I (Rv (fun v J => (∃ x, v = some (.int x)) ∧ WQ I J)) := by
  have hc : Ct G GAM mX9_ring (2 + d) 1 [.ref 0, .int p0] I (fun o J => WQ I J ∧ ∃ p ∈ ct_100.2.2.2.2.2.2, resM o p.1) := ct_top (cc_100 (okX6 I) (manC6 I)) d [.ref 0, .int p0] hB hX ⟨rfl, inIv_F _, trivial⟩ (fun e he => nomatch he) (by decide +kernel) (by decide +kernel)
  rw [Nat.add_comm] at hc
  refine CtW.mk [some (.ref 0), some (.int p0), some (.ref 107), none] ?_
  refine Rn.aload_n dL_ring_0 rfl rfl ?_
  refine Rn.iconst (v := (nI 0)) dL_ring_1 rfl ?_
  refine Rn.aload_n dL_ring_2 rfl rfl ?_
  refine Rn.iload_n dL_ring_3 rfl rfl ?_
  refine Rn.callVx (b := 0) (mc := 1) (As := [_]) dL_ring_4 mv_L_100 (by first | rfl | exact gC0 (by assumption) | exact gL0 (by assumption)) rfl rfl rfl (Nat.le_of_ble_eq_true rfl) hc (fun E J q => ?_) (fun v J q => ?_)
  · obtain ⟨n, hn, rfl⟩ := res_e q.2
    have hn : n ∈ [2] := hn
    simp only [List.mem_cons, List.not_mem_nil, or_false] at hn
    subst hn
    · exact zcatchK (E := "java/lang/IndexOutOfBoundsException") [] (x := (0, 16, 19, 24)) (hs := []) (i := 3) (n2 := 1) rfl (fun _ h => nomatch h) rfl wi_776 (by decide) (by decide) (Or.inl ⟨3, dL_ring_19, rfl, rfl⟩) (by decide) dL_ring_20 rfl dL_ring_21 rfl ⟨⟨_, rfl⟩, q.1⟩
  · obtain ⟨x, rfl⟩ := res_i q.2 (by decide)
    refine Rn.if_eq (tgt := 14) dL_ring_7 (by decide) (fun h1 => ?_) (fun h1 => ?_)
    · refine Rn.lcon (0) dL_ring_14 (by decide) ?_
      refine Rn.last dL_ring_15 (by first | rfl | exact gC1 (by assumption) | exact gC2 (by assumption) | exact gC3 (by assumption) | exact gL1 (by assumption) | exact gL2 (by assumption) | exact gL3 (by assumption) | exact gL4 (by assumption) | exact gL5 (by assumption) | exact gL6 (by assumption)) (by decide) (by decide) ?_
      refine Rn.goto 22 dL_ring_16 (by decide) ?_
      refine Rn.iconst (v := (nI 0)) dL_ring_22 rfl ?_
      exact Rn.hret dL_ring_23 rfl (⟨⟨_, rfl⟩, q.1.out _ _⟩)
    · refine Rn.lcon (1) dL_ring_10 (by decide) ?_
      refine Rn.goto 15 dL_ring_11 (by decide) ?_
      refine Rn.last dL_ring_15 (by first | rfl | exact gC1 (by assumption) | exact gC2 (by assumption) | exact gC3 (by assumption) | exact gL1 (by assumption) | exact gL2 (by assumption) | exact gL3 (by assumption) | exact gL4 (by assumption) | exact gL5 (by assumption) | exact gL6 (by assumption)) (by decide) (by decide) ?_
      refine Rn.goto 22 dL_ring_16 (by decide) ?_
      refine Rn.iconst (v := (nI 0)) dL_ring_22 rfl ?_
      exact Rn.hret dL_ring_23 rfl (⟨⟨_, rfl⟩, q.1.out _ _⟩)
theorem wr_runs (p0 p1 : Int32) (hB : BX I) (hX : P6 I) : CtW G GAM mL_runs [(0, 10, 13, 24), (0, 10, 17, 13)] (d + 7) 2 [.ref 0, .int p0, .int p1, .ref 107] I (Rv (fun v J => (∃ x, v = some (.int x)) ∧ WQ I J)) := by
  have hc : Ct G GAM mX9_runs (6 + d) 2 [.ref 0, .int p0, .int p1] I (fun o J => WQ I J ∧ ∃ p ∈ ct_103.2.2.2.2.2.2, resM o p.1) := ct_top (cc_103 (okX6 I) (manC6 I)) d [.ref 0, .int p0, .int p1] hB hX ⟨rfl, inIv_F _, inIv_F _, trivial⟩ (fun e he => nomatch he) (by decide +kernel) (by decide +kernel)
  rw [Nat.add_comm] at hc
  refine CtW.mk [some (.ref 0), some (.int p0), some (.int p1), some (.ref 107), none] ?_
  refine Rn.aload_n dL_runs_0 rfl rfl ?_
  refine Rn.iconst (v := (nI 0)) dL_runs_1 rfl ?_
  refine Rn.aload_n dL_runs_2 rfl rfl ?_
  refine Rn.iload_n dL_runs_3 rfl rfl ?_
  refine Rn.iload_n dL_runs_4 rfl rfl ?_
  refine Rn.callVx (b := 0) (mc := 2) (As := [_, _]) dL_runs_5 mv_L_104 (by first | rfl | exact gC0 (by assumption) | exact gL0 (by assumption)) rfl rfl rfl (Nat.le_of_ble_eq_true rfl) hc (fun E J q => ?_) (fun v J q => ?_)
  · obtain ⟨n, hn, rfl⟩ := res_e q.2
    have hn : n ∈ [0, 2] := hn
    simp only [List.mem_cons, List.not_mem_nil, or_false] at hn
    rcases hn with rfl | rfl
    · exact zcatchK (E := "java/lang/IllegalArgumentException") [((0, 10, 13, 24), "java/lang/IndexOutOfBoundsException")] (x := (0, 10, 17, 13)) (hs := []) (i := 4) (n2 := 2) rfl (List.forall_mem_cons.mpr ⟨⟨by decide, wi_776, by decide, by decide⟩, fun _ h => nomatch h⟩) rfl wi_547 (by decide) (by decide) (Or.inr ⟨dL_runs_17, rfl⟩) (by decide) dL_runs_19 rfl dL_runs_20 rfl ⟨⟨_, rfl⟩, q.1⟩
    · exact zcatchK (E := "java/lang/IndexOutOfBoundsException") [] (x := (0, 10, 13, 24)) (hs := [(0, 10, 17, 13)]) (i := 4) (n2 := 2) rfl (fun _ h => nomatch h) rfl wi_776 (by decide) (by decide) (Or.inr ⟨dL_runs_13, rfl⟩) (by decide) dL_runs_15 rfl dL_runs_16 rfl ⟨⟨_, rfl⟩, q.1⟩
  · obtain ⟨x, rfl⟩ := res_i q.2 (by decide)
    refine Rn.i2l dL_runs_8 ?_
    refine Rn.last dL_runs_9 (by first | rfl | exact gC1 (by assumption) | exact gC2 (by assumption) | exact gC3 (by assumption) | exact gL1 (by assumption) | exact gL2 (by assumption) | exact gL3 (by assumption) | exact gL4 (by assumption) | exact gL5 (by assumption) | exact gL6 (by assumption)) (by decide) (by decide) ?_
    refine Rn.goto 21 dL_runs_10 (by decide) ?_
    refine Rn.iconst (v := (nI 0)) dL_runs_21 rfl ?_
    exact Rn.hret dL_runs_22 rfl (⟨⟨_, rfl⟩, q.1.out _ _⟩)
theorem wr_spent (p0 : Int32) (hB : BX I) (hX : P6 I) : CtW G GAM mL_spent [(0, 9, 12, 24)] (d + 7) 1 [.ref 0, .int p0, .ref 107] I (Rv (fun v J => (∃ x, v = some (.int x)) ∧ WQ I J)) := by
  have hc : Ct G GAM mX9_spent (6 + d) 1 [.ref 0, .int p0] I (fun o J => WQ I J ∧ ∃ p ∈ ct_104.2.2.2.2.2.2, resM o p.1) := ct_top (cc_104 (okX6 I) (manC6 I)) d [.ref 0, .int p0] hB hX ⟨rfl, inIv_F _, trivial⟩ (fun e he => nomatch he) (by decide +kernel) (by decide +kernel)
  rw [Nat.add_comm] at hc
  refine CtW.mk [some (.ref 0), some (.int p0), some (.ref 107), none] ?_
  refine Rn.aload_n dL_spent_0 rfl rfl ?_
  refine Rn.iconst (v := (nI 0)) dL_spent_1 rfl ?_
  refine Rn.aload_n dL_spent_2 rfl rfl ?_
  refine Rn.iload_n dL_spent_3 rfl rfl ?_
  refine Rn.callVx (b := 0) (mc := 1) (As := [_]) dL_spent_4 mv_L_107 (by first | rfl | exact gC0 (by assumption) | exact gL0 (by assumption)) rfl rfl rfl (Nat.le_of_ble_eq_true rfl) hc (fun E J q => ?_) (fun v J q => ?_)
  · obtain ⟨n, hn, rfl⟩ := res_e q.2
    have hn : n ∈ [2] := hn
    simp only [List.mem_cons, List.not_mem_nil, or_false] at hn
    subst hn
    · exact zcatchK (E := "java/lang/IndexOutOfBoundsException") [] (x := (0, 9, 12, 24)) (hs := []) (i := 3) (n2 := 1) rfl (fun _ h => nomatch h) rfl wi_776 (by decide) (by decide) (Or.inl ⟨3, dL_spent_12, rfl, rfl⟩) (by decide) dL_spent_13 rfl dL_spent_14 rfl ⟨⟨_, rfl⟩, q.1⟩
  · obtain ⟨x, rfl⟩ := res_i q.2 (by decide)
    refine Rn.i2l dL_spent_7 ?_
    refine Rn.last dL_spent_8 (by first | rfl | exact gC1 (by assumption) | exact gC2 (by assumption) | exact gC3 (by assumption) | exact gL1 (by assumption) | exact gL2 (by assumption) | exact gL3 (by assumption) | exact gL4 (by assumption) | exact gL5 (by assumption) | exact gL6 (by assumption)) (by decide) (by decide) ?_
    refine Rn.goto 15 dL_spent_9 (by decide) ?_
    refine Rn.iconst (v := (nI 0)) dL_spent_15 rfl ?_
    exact Rn.hret dL_spent_16 rfl (⟨⟨_, rfl⟩, q.1.out _ _⟩)
theorem wr_share (p0 p1 : Int32) (hB : BX I) (hX : P6 I) : CtW G GAM mL_share [(0, 10, 13, 24)] (d + 2) 2 [.ref 0, .int p0, .int p1, .ref 107] I (Rv (fun v J => (∃ x, v = some (.int x)) ∧ WQ I J)) := by
  have hc : Ct G GAM mX9_share (1 + d) 2 [.ref 0, .int p0, .int p1] I (fun o J => WQ I J ∧ ∃ p ∈ ct_111.2.2.2.2.2.2, resM o p.1) := ct_top (cc_111 (okX6 I) (manC6 I)) d [.ref 0, .int p0, .int p1] hB hX ⟨rfl, inIv_F _, inIv_F _, trivial⟩ (fun e he => nomatch he) (by decide +kernel) (by decide +kernel)
  rw [Nat.add_comm] at hc
  refine CtW.mk [some (.ref 0), some (.int p0), some (.int p1), some (.ref 107), none] ?_
  refine Rn.aload_n dL_share_0 rfl rfl ?_
  refine Rn.iconst (v := (nI 0)) dL_share_1 rfl ?_
  refine Rn.aload_n dL_share_2 rfl rfl ?_
  refine Rn.iload_n dL_share_3 rfl rfl ?_
  refine Rn.iload_n dL_share_4 rfl rfl ?_
  refine Rn.callVx (b := 0) (mc := 2) (As := [_, _]) dL_share_5 mv_L_110 (by first | rfl | exact gC0 (by assumption) | exact gL0 (by assumption)) rfl rfl rfl (Nat.le_of_ble_eq_true rfl) hc (fun E J q => ?_) (fun v J q => ?_)
  · obtain ⟨n, hn, rfl⟩ := res_e q.2
    have hn : n ∈ [2] := hn
    simp only [List.mem_cons, List.not_mem_nil, or_false] at hn
    subst hn
    · exact zcatchK (E := "java/lang/IndexOutOfBoundsException") [] (x := (0, 10, 13, 24)) (hs := []) (i := 4) (n2 := 2) rfl (fun _ h => nomatch h) rfl wi_776 (by decide) (by decide) (Or.inr ⟨dL_share_13, rfl⟩) (by decide) dL_share_15 rfl dL_share_16 rfl ⟨⟨_, rfl⟩, q.1⟩
  · obtain ⟨x, rfl⟩ := res_i q.2 (by decide)
    refine Rn.i2l dL_share_8 ?_
    refine Rn.last dL_share_9 (by first | rfl | exact gC1 (by assumption) | exact gC2 (by assumption) | exact gC3 (by assumption) | exact gL1 (by assumption) | exact gL2 (by assumption) | exact gL3 (by assumption) | exact gL4 (by assumption) | exact gL5 (by assumption) | exact gL6 (by assumption)) (by decide) (by decide) ?_
    refine Rn.goto 17 dL_share_10 (by decide) ?_
    refine Rn.iconst (v := (nI 0)) dL_share_17 rfl ?_
    exact Rn.hret dL_share_18 rfl (⟨⟨_, rfl⟩, q.1.out _ _⟩)
theorem wr_trial (p0 p1 : Int32) (hB : BX I) (hX : P6 I) : CtW G GAM mL_trial [(0, 10, 13, 13)] (d + 7) 1 [.ref 0, .int p0, .int p1, .ref 107] I (Rv (fun v J => (∃ x, v = some (.int x)) ∧ WQ I J)) := by
  have hc : Ct G GAM mX9_trial (6 + d) 1 [.ref 0, .int p0, .int p1] I (fun o J => WQ I J ∧ ∃ p ∈ ct_122.2.2.2.2.2.2, resM o p.1) := ct_top (cc_122 (okX6 I) (manC6 I)) d [.ref 0, .int p0, .int p1] hB hX ⟨rfl, inIv_F _, inIv_F _, trivial⟩ (fun e he => nomatch he) (by decide +kernel) (by decide +kernel)
  rw [Nat.add_comm] at hc
  refine CtW.mk [some (.ref 0), some (.int p0), some (.int p1), some (.ref 107), none] ?_
  refine Rn.aload_n dL_trial_0 rfl rfl ?_
  refine Rn.iconst (v := (nI 0)) dL_trial_1 rfl ?_
  refine Rn.aload_n dL_trial_2 rfl rfl ?_
  refine Rn.iload_n dL_trial_3 rfl rfl ?_
  refine Rn.iload_n dL_trial_4 rfl rfl ?_
  refine Rn.callVx (b := 0) (mc := 1) (As := [_, _]) dL_trial_5 mv_L_113 (by first | rfl | exact gC0 (by assumption) | exact gL0 (by assumption)) rfl rfl rfl (Nat.le_of_ble_eq_true rfl) hc (fun E J q => ?_) (fun v J q => ?_)
  · obtain ⟨n, hn, rfl⟩ := res_e q.2
    have hn : n ∈ [0] := hn
    simp only [List.mem_cons, List.not_mem_nil, or_false] at hn
    subst hn
    · exact zcatchK (E := "java/lang/IllegalArgumentException") [] (x := (0, 10, 13, 13)) (hs := []) (i := 4) (n2 := 2) rfl (fun _ h => nomatch h) rfl wi_547 (by decide) (by decide) (Or.inr ⟨dL_trial_13, rfl⟩) (by decide) dL_trial_15 rfl dL_trial_16 rfl ⟨⟨_, rfl⟩, q.1⟩
  · obtain ⟨x, rfl⟩ := res_i q.2 (by decide)
    refine Rn.i2l dL_trial_8 ?_
    refine Rn.last dL_trial_9 (by first | rfl | exact gC1 (by assumption) | exact gC2 (by assumption) | exact gC3 (by assumption) | exact gL1 (by assumption) | exact gL2 (by assumption) | exact gL3 (by assumption) | exact gL4 (by assumption) | exact gL5 (by assumption) | exact gL6 (by assumption)) (by decide) (by decide) ?_
    refine Rn.goto 17 dL_trial_10 (by decide) ?_
    refine Rn.iconst (v := (nI 0)) dL_trial_17 rfl ?_
    exact Rn.hret dL_trial_18 rfl (⟨⟨_, rfl⟩, q.1.out _ _⟩)
theorem wr_span (p0 p1 : Int32) (hB : BX I) (hX : P6 I) : CtW G GAM mL_span [(0, 10, 13, 13)] (d + 7) 1 [.ref 0, .int p0, .int p1, .ref 107] I (Rv (fun v J => (∃ x, v = some (.int x)) ∧ WQ I J)) := by
  have hc : Ct G GAM mX9_span (6 + d) 1 [.ref 0, .int p0, .int p1] I (fun o J => WQ I J ∧ ∃ p ∈ ct_123.2.2.2.2.2.2, resM o p.1) := ct_top (cc_123 (okX6 I) (manC6 I)) d [.ref 0, .int p0, .int p1] hB hX ⟨rfl, inIv_F _, inIv_F _, trivial⟩ (fun e he => nomatch he) (by decide +kernel) (by decide +kernel)
  rw [Nat.add_comm] at hc
  refine CtW.mk [some (.ref 0), some (.int p0), some (.int p1), some (.ref 107), none] ?_
  refine Rn.aload_n dL_span_0 rfl rfl ?_
  refine Rn.iconst (v := (nI 0)) dL_span_1 rfl ?_
  refine Rn.aload_n dL_span_2 rfl rfl ?_
  refine Rn.iload_n dL_span_3 rfl rfl ?_
  refine Rn.iload_n dL_span_4 rfl rfl ?_
  refine Rn.callVx (b := 0) (mc := 1) (As := [_, _]) dL_span_5 mv_L_117 (by first | rfl | exact gC0 (by assumption) | exact gL0 (by assumption)) rfl rfl rfl (Nat.le_of_ble_eq_true rfl) hc (fun E J q => ?_) (fun v J q => ?_)
  · obtain ⟨n, hn, rfl⟩ := res_e q.2
    have hn : n ∈ [0] := hn
    simp only [List.mem_cons, List.not_mem_nil, or_false] at hn
    subst hn
    · exact zcatchK (E := "java/lang/IllegalArgumentException") [] (x := (0, 10, 13, 13)) (hs := []) (i := 4) (n2 := 2) rfl (fun _ h => nomatch h) rfl wi_547 (by decide) (by decide) (Or.inr ⟨dL_span_13, rfl⟩) (by decide) dL_span_15 rfl dL_span_16 rfl ⟨⟨_, rfl⟩, q.1⟩
  · obtain ⟨x, rfl⟩ := res_i q.2 (by decide)
    refine Rn.i2l dL_span_8 ?_
    refine Rn.last dL_span_9 (by first | rfl | exact gC1 (by assumption) | exact gC2 (by assumption) | exact gC3 (by assumption) | exact gL1 (by assumption) | exact gL2 (by assumption) | exact gL3 (by assumption) | exact gL4 (by assumption) | exact gL5 (by assumption) | exact gL6 (by assumption)) (by decide) (by decide) ?_
    refine Rn.goto 17 dL_span_10 (by decide) ?_
    refine Rn.iconst (v := (nI 0)) dL_span_17 rfl ?_
    exact Rn.hret dL_span_18 rfl (⟨⟨_, rfl⟩, q.1.out _ _⟩)
theorem wr_led (p0 p1 : Int32) (hB : BX I) (hX : P6 I) : CtW G GAM mL_led [(0, 10, 13, 24)] (d + 2) 1 [.ref 0, .int p0, .int p1, .ref 107] I (Rv (fun v J => (∃ x, v = some (.int x)) ∧ WQ I J)) := by
  have hc : Ct G GAM mX9_led (1 + d) 1 [.ref 0, .int p0, .int p1] I (fun o J => WQ I J ∧ ∃ p ∈ ct_124.2.2.2.2.2.2, resM o p.1) := ct_top (cc_124 (okX6 I) (manC6 I)) d [.ref 0, .int p0, .int p1] hB hX ⟨rfl, inIv_F _, inIv_F _, trivial⟩ (fun e he => nomatch he) (by decide +kernel) (by decide +kernel)
  rw [Nat.add_comm] at hc
  refine CtW.mk [some (.ref 0), some (.int p0), some (.int p1), some (.ref 107), none] ?_
  refine Rn.aload_n dL_led_0 rfl rfl ?_
  refine Rn.iconst (v := (nI 0)) dL_led_1 rfl ?_
  refine Rn.aload_n dL_led_2 rfl rfl ?_
  refine Rn.iload_n dL_led_3 rfl rfl ?_
  refine Rn.iload_n dL_led_4 rfl rfl ?_
  refine Rn.callVx (b := 0) (mc := 1) (As := [_, _]) dL_led_5 mv_L_120 (by first | rfl | exact gC0 (by assumption) | exact gL0 (by assumption)) rfl rfl rfl (Nat.le_of_ble_eq_true rfl) hc (fun E J q => ?_) (fun v J q => ?_)
  · obtain ⟨n, hn, rfl⟩ := res_e q.2
    have hn : n ∈ [2] := hn
    simp only [List.mem_cons, List.not_mem_nil, or_false] at hn
    subst hn
    · exact zcatchK (E := "java/lang/IndexOutOfBoundsException") [] (x := (0, 10, 13, 24)) (hs := []) (i := 4) (n2 := 2) rfl (fun _ h => nomatch h) rfl wi_776 (by decide) (by decide) (Or.inr ⟨dL_led_13, rfl⟩) (by decide) dL_led_15 rfl dL_led_16 rfl ⟨⟨_, rfl⟩, q.1⟩
  · obtain ⟨x, rfl⟩ := res_i q.2 (by decide)
    refine Rn.i2l dL_led_8 ?_
    refine Rn.last dL_led_9 (by first | rfl | exact gC1 (by assumption) | exact gC2 (by assumption) | exact gC3 (by assumption) | exact gL1 (by assumption) | exact gL2 (by assumption) | exact gL3 (by assumption) | exact gL4 (by assumption) | exact gL5 (by assumption) | exact gL6 (by assumption)) (by decide) (by decide) ?_
    refine Rn.goto 17 dL_led_10 (by decide) ?_
    refine Rn.iconst (v := (nI 0)) dL_led_17 rfl ?_
    exact Rn.hret dL_led_18 rfl (⟨⟨_, rfl⟩, q.1.out _ _⟩)
theorem wr_log (p0 p1 : Int32) (hB : BX I) (hX : P6 I) : CtW G GAM mL_log [(0, 10, 13, 26)] (d + 2) 1 [.ref 0, .int p0, .int p1, .ref 107] I (Rv (fun v J => (∃ x, v = some (.int x)) ∧ WQ I J)) := by
  have hc : Ct G GAM mX9_log (1 + d) 1 [.ref 0, .int p0, .int p1] I (fun o J => WQ I J ∧ ∃ p ∈ ct_125.2.2.2.2.2.2, resM o p.1) := ct_top (cc_125 (okX6 I) (manC6 I)) d [.ref 0, .int p0, .int p1] hB hX ⟨rfl, inIv_F _, inIv_F _, trivial⟩ (fun e he => nomatch he) (by decide +kernel) (by decide +kernel)
  rw [Nat.add_comm] at hc
  refine CtW.mk [some (.ref 0), some (.int p0), some (.int p1), some (.ref 107), none] ?_
  refine Rn.aload_n dL_log_0 rfl rfl ?_
  refine Rn.iconst (v := (nI 0)) dL_log_1 rfl ?_
  refine Rn.aload_n dL_log_2 rfl rfl ?_
  refine Rn.iload_n dL_log_3 rfl rfl ?_
  refine Rn.iload_n dL_log_4 rfl rfl ?_
  refine Rn.callVx (b := 0) (mc := 1) (As := [_, _]) dL_log_5 mv_L_123 (by first | rfl | exact gC0 (by assumption) | exact gL0 (by assumption)) rfl rfl rfl (Nat.le_of_ble_eq_true rfl) hc (fun E J q => ?_) (fun v J q => ?_)
  · obtain ⟨n, hn, rfl⟩ := res_e q.2
    have hn : n ∈ [3] := hn
    simp only [List.mem_cons, List.not_mem_nil, or_false] at hn
    subst hn
    · exact zcatchK (E := "java/util/NoSuchElementException") [] (x := (0, 10, 13, 26)) (hs := []) (i := 4) (n2 := 2) rfl (fun _ h => nomatch h) rfl wi_777 (by decide) (by decide) (Or.inr ⟨dL_log_13, rfl⟩) (by decide) dL_log_15 rfl dL_log_16 rfl ⟨⟨_, rfl⟩, q.1⟩
  · obtain ⟨x, rfl⟩ := res_i q.2 (by decide)
    refine Rn.i2l dL_log_8 ?_
    refine Rn.last dL_log_9 (by first | rfl | exact gC1 (by assumption) | exact gC2 (by assumption) | exact gC3 (by assumption) | exact gL1 (by assumption) | exact gL2 (by assumption) | exact gL3 (by assumption) | exact gL4 (by assumption) | exact gL5 (by assumption) | exact gL6 (by assumption)) (by decide) (by decide) ?_
    refine Rn.goto 17 dL_log_10 (by decide) ?_
    refine Rn.iconst (v := (nI 0)) dL_log_17 rfl ?_
    exact Rn.hret dL_log_18 rfl (⟨⟨_, rfl⟩, q.1.out _ _⟩)
end Wrp
