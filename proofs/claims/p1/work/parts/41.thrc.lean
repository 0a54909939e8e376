abbrev mX9_woman : Ym := (yX9_woman, cX9_woman, 3, some .int)
theorem dX9_woman_0 : decode cX9_woman 0 = .ok (.aload_n 0, 1) := by decide +kernel
theorem dX9_woman_1 : decode cX9_woman 1 = .ok (.iload_n 1, 1) := by decide +kernel
theorem dX9_woman_2 : decode cX9_woman 2 = .ok (.invokevirtual 137, 3) := by decide +kernel
theorem wi_782 : Cond.methodLink RX9 137 yX9_needWoman ∈ WA := zin 782 (by decide +kernel) (by decide +kernel)
theorem wi_785 : Cond.code yX9_needWoman cX9_needWoman 2 (none) ∈ WA := zin 785 (by decide +kernel) (by decide +kernel)
theorem wi_784 : Cond.instanceMethod yX9_needWoman ∈ WA := zin 784 (by decide +kernel) (by decide +kernel)
theorem wi_10 : Cond.selects RX9 yX9_needWoman yX9_needWoman ∈ WA := zin 10 (by decide +kernel) (by decide +kernel)
theorem mv_X9_137 : zMv RX9 137 RX9 mX9_needWoman 1 := ⟨⟨wi_782, wi_100, wi_785, by decide, by decide +kernel⟩, wi_784, wi_10⟩
abbrev mL_woman : Ym := (yL_woman, cL_woman, 5, some .int)
theorem dL_woman_0 : decode cL_woman 0 = .ok (.aload_n 3, 1) := by decide +kernel
theorem dL_woman_1 : decode cL_woman 1 = .ok (.iconst 0, 1) := by decide +kernel
theorem dL_woman_2 : decode cL_woman 2 = .ok (.aload_n 0, 1) := by decide +kernel
theorem dL_woman_3 : decode cL_woman 3 = .ok (.iload_n 1, 1) := by decide +kernel
theorem dL_woman_4 : decode cL_woman 4 = .ok (.iload_n 2, 1) := by decide +kernel
theorem dL_woman_5 : decode cL_woman 5 = .ok (.invokevirtual 20, 3) := by decide +kernel
theorem wi_778 : Cond.methodLink RL 20 yX9_woman ∈ WA := zin 778 (by decide +kernel) (by decide +kernel)
theorem wi_781 : Cond.code yX9_woman cX9_woman 3 (some .int) ∈ WA := zin 781 (by decide +kernel) (by decide +kernel)
theorem wi_779 : Cond.instanceMethod yX9_woman ∈ WA := zin 779 (by decide +kernel) (by decide +kernel)
theorem wi_780 : Cond.selects RX9 yX9_woman yX9_woman ∈ WA := zin 780 (by decide +kernel) (by decide +kernel)
theorem mv_L_20 : zMv RL 20 RX9 mX9_woman 2 := ⟨⟨wi_778, wi_100, wi_781, by decide, by decide +kernel⟩, wi_779, wi_780⟩
theorem wi_776 : Cond.classLink RL 24 "java/lang/IndexOutOfBoundsException" ∈ WA := zin 776 (by decide +kernel) (by decide +kernel)
theorem dL_woman_13 : decode cL_woman 13 = .ok (.astore 4, 2) := by decide +kernel
theorem dL_woman_15 : decode cL_woman 15 = .ok (.iconst 1, 1) := by decide +kernel
theorem dL_woman_16 : decode cL_woman 16 = .ok (.ireturn, 1) := by decide +kernel
abbrev mX9_gain : Ym := (yX9_gain, cX9_gain, 3, some .int)
theorem dX9_gain_0 : decode cX9_gain 0 = .ok (.aload_n 0, 1) := by decide +kernel
theorem dX9_gain_1 : decode cX9_gain 1 = .ok (.iload_n 1, 1) := by decide +kernel
theorem dX9_gain_2 : decode cX9_gain 2 = .ok (.invokevirtual 137, 3) := by decide +kernel
abbrev mL_gain : Ym := (yL_gain, cL_gain, 5, some .int)
theorem dL_gain_0 : decode cL_gain 0 = .ok (.aload_n 3, 1) := by decide +kernel
theorem dL_gain_1 : decode cL_gain 1 = .ok (.iconst 0, 1) := by decide +kernel
theorem dL_gain_2 : decode cL_gain 2 = .ok (.aload_n 0, 1) := by decide +kernel
theorem dL_gain_3 : decode cL_gain 3 = .ok (.iload_n 1, 1) := by decide +kernel
theorem dL_gain_4 : decode cL_gain 4 = .ok (.iload_n 2, 1) := by decide +kernel
theorem dL_gain_5 : decode cL_gain 5 = .ok (.invokevirtual 31, 3) := by decide +kernel
theorem wi_836 : Cond.methodLink RL 31 yX9_gain ∈ WA := zin 836 (by decide +kernel) (by decide +kernel)
theorem wi_839 : Cond.code yX9_gain cX9_gain 3 (some .int) ∈ WA := zin 839 (by decide +kernel) (by decide +kernel)
theorem wi_837 : Cond.instanceMethod yX9_gain ∈ WA := zin 837 (by decide +kernel) (by decide +kernel)
theorem wi_838 : Cond.selects RX9 yX9_gain yX9_gain ∈ WA := zin 838 (by decide +kernel) (by decide +kernel)
theorem mv_L_31 : zMv RL 31 RX9 mX9_gain 2 := ⟨⟨wi_836, wi_100, wi_839, by decide, by decide +kernel⟩, wi_837, wi_838⟩
theorem dL_gain_13 : decode cL_gain 13 = .ok (.astore 4, 2) := by decide +kernel
theorem dL_gain_15 : decode cL_gain 15 = .ok (.iconst 1, 1) := by decide +kernel
theorem dL_gain_16 : decode cL_gain 16 = .ok (.ireturn, 1) := by decide +kernel
abbrev mX9_flows : Ym := (yX9_flows, cX9_flows, 4, some .int)
theorem dX9_flows_0 : decode cX9_flows 0 = .ok (.aload_n 0, 1) := by decide +kernel
theorem dX9_flows_1 : decode cX9_flows 1 = .ok (.iload_n 1, 1) := by decide +kernel
theorem dX9_flows_2 : decode cX9_flows 2 = .ok (.invokevirtual 137, 3) := by decide +kernel
abbrev mL_flows : Ym := (yL_flows, cL_flows, 6, some .int)
theorem dL_flows_0 : decode cL_flows 0 = .ok (.aload 4, 2) := by decide +kernel
theorem dL_flows_2 : decode cL_flows 2 = .ok (.iconst 0, 1) := by decide +kernel
theorem dL_flows_3 : decode cL_flows 3 = .ok (.aload_n 0, 1) := by decide +kernel
theorem dL_flows_4 : decode cL_flows 4 = .ok (.iload_n 1, 1) := by decide +kernel
theorem dL_flows_5 : decode cL_flows 5 = .ok (.iload_n 2, 1) := by decide +kernel
theorem dL_flows_6 : decode cL_flows 6 = .ok (.iload_n 3, 1) := by decide +kernel
theorem dL_flows_7 : decode cL_flows 7 = .ok (.invokevirtual 34, 3) := by decide +kernel
theorem wi_874 : Cond.methodLink RL 34 yX9_flows ∈ WA := zin 874 (by decide +kernel) (by decide +kernel)
theorem wi_877 : Cond.code yX9_flows cX9_flows 4 (some .int) ∈ WA := zin 877 (by decide +kernel) (by decide +kernel)
theorem wi_875 : Cond.instanceMethod yX9_flows ∈ WA := zin 875 (by decide +kernel) (by decide +kernel)
theorem wi_876 : Cond.selects RX9 yX9_flows yX9_flows ∈ WA := zin 876 (by decide +kernel) (by decide +kernel)
theorem mv_L_34 : zMv RL 34 RX9 mX9_flows 3 := ⟨⟨wi_874, wi_100, wi_877, by decide, by decide +kernel⟩, wi_875, wi_876⟩
theorem dL_flows_15 : decode cL_flows 15 = .ok (.astore 5, 2) := by decide +kernel
theorem dL_flows_17 : decode cL_flows 17 = .ok (.iconst 1, 1) := by decide +kernel
theorem dL_flows_18 : decode cL_flows 18 = .ok (.ireturn, 1) := by decide +kernel
abbrev mX9_wed : Ym := (yX9_wed, cX9_wed, 4, some .int)
theorem dX9_wed_0 : decode cX9_wed 0 = .ok (.aload_n 0, 1) := by decide +kernel
theorem dX9_wed_1 : decode cX9_wed 1 = .ok (.iload_n 1, 1) := by decide +kernel
theorem dX9_wed_2 : decode cX9_wed 2 = .ok (.invokevirtual 137, 3) := by decide +kernel
abbrev mL_wed : Ym := (yL_wed, cL_wed, 5, some .int)
theorem dL_wed_0 : decode cL_wed 0 = .ok (.aload_n 3, 1) := by decide +kernel
theorem dL_wed_1 : decode cL_wed 1 = .ok (.iconst 0, 1) := by decide +kernel
theorem dL_wed_2 : decode cL_wed 2 = .ok (.aload_n 0, 1) := by decide +kernel
theorem dL_wed_3 : decode cL_wed 3 = .ok (.iload_n 1, 1) := by decide +kernel
theorem dL_wed_4 : decode cL_wed 4 = .ok (.iload_n 2, 1) := by decide +kernel
theorem dL_wed_5 : decode cL_wed 5 = .ok (.invokevirtual 43, 3) := by decide +kernel
theorem wi_921 : Cond.methodLink RL 43 yX9_wed ∈ WA := zin 921 (by decide +kernel) (by decide +kernel)
theorem wi_924 : Cond.code yX9_wed cX9_wed 4 (some .int) ∈ WA := zin 924 (by decide +kernel) (by decide +kernel)
theorem wi_922 : Cond.instanceMethod yX9_wed ∈ WA := zin 922 (by decide +kernel) (by decide +kernel)
theorem wi_923 : Cond.selects RX9 yX9_wed yX9_wed ∈ WA := zin 923 (by decide +kernel) (by decide +kernel)
theorem mv_L_43 : zMv RL 43 RX9 mX9_wed 2 := ⟨⟨wi_921, wi_100, wi_924, by decide, by decide +kernel⟩, wi_922, wi_923⟩
theorem dL_wed_13 : decode cL_wed 13 = .ok (.astore 4, 2) := by decide +kernel
theorem dL_wed_15 : decode cL_wed 15 = .ok (.iconst 1, 1) := by decide +kernel
theorem dL_wed_16 : decode cL_wed 16 = .ok (.ireturn, 1) := by decide +kernel
abbrev mX9_widow : Ym := (yX9_widow, cX9_widow, 5, some .boolean)
theorem dX9_widow_0 : decode cX9_widow 0 = .ok (.aload_n 0, 1) := by decide +kernel
theorem dX9_widow_1 : decode cX9_widow 1 = .ok (.iload_n 1, 1) := by decide +kernel
theorem dX9_widow_2 : decode cX9_widow 2 = .ok (.invokevirtual 137, 3) := by decide +kernel
abbrev mL_widow : Ym := (yL_widow, cL_widow, 5, some .int)
theorem dL_widow_0 : decode cL_widow 0 = .ok (.aload_n 3, 1) := by decide +kernel
theorem dL_widow_1 : decode cL_widow 1 = .ok (.iconst 0, 1) := by decide +kernel
theorem dL_widow_2 : decode cL_widow 2 = .ok (.aload_n 0, 1) := by decide +kernel
theorem dL_widow_3 : decode cL_widow 3 = .ok (.iload_n 1, 1) := by decide +kernel
theorem dL_widow_4 : decode cL_widow 4 = .ok (.iload_n 2, 1) := by decide +kernel
theorem dL_widow_5 : decode cL_widow 5 = .ok (.invokevirtual 56, 3) := by decide +kernel
theorem wi_976 : Cond.methodLink RL 56 yX9_widow ∈ WA := zin 976 (by decide +kernel) (by decide +kernel)
theorem wi_979 : Cond.code yX9_widow cX9_widow 5 (some .boolean) ∈ WA := zin 979 (by decide +kernel) (by decide +kernel)
theorem wi_977 : Cond.instanceMethod yX9_widow ∈ WA := zin 977 (by decide +kernel) (by decide +kernel)
theorem wi_978 : Cond.selects RX9 yX9_widow yX9_widow ∈ WA := zin 978 (by decide +kernel) (by decide +kernel)
theorem mv_L_56 : zMv RL 56 RX9 mX9_widow 2 := ⟨⟨wi_976, wi_100, wi_979, by decide, by decide +kernel⟩, wi_977, wi_978⟩
theorem dL_widow_20 : decode cL_widow 20 = .ok (.astore 4, 2) := by decide +kernel
theorem dL_widow_22 : decode cL_widow 22 = .ok (.iconst 1, 1) := by decide +kernel
theorem dL_widow_23 : decode cL_widow 23 = .ok (.ireturn, 1) := by decide +kernel
abbrev mX9_best : Ym := (yX9_best, cX9_best, 6, some .int)
theorem dX9_best_0 : decode cX9_best 0 = .ok (.aload_n 0, 1) := by decide +kernel
theorem dX9_best_1 : decode cX9_best 1 = .ok (.iload_n 1, 1) := by decide +kernel
theorem dX9_best_2 : decode cX9_best 2 = .ok (.invokevirtual 137, 3) := by decide +kernel
abbrev mL_best : Ym := (yL_best, cL_best, 4, some .int)
theorem dL_best_0 : decode cL_best 0 = .ok (.aload_n 2, 1) := by decide +kernel
theorem dL_best_1 : decode cL_best 1 = .ok (.iconst 0, 1) := by decide +kernel
theorem dL_best_2 : decode cL_best 2 = .ok (.aload_n 0, 1) := by decide +kernel
theorem dL_best_3 : decode cL_best 3 = .ok (.iload_n 1, 1) := by decide +kernel
theorem dL_best_4 : decode cL_best 4 = .ok (.invokevirtual 63, 3) := by decide +kernel
theorem wi_1003 : Cond.methodLink RL 63 yX9_best ∈ WA := zin 1003 (by decide +kernel) (by decide +kernel)
theorem wi_1006 : Cond.code yX9_best cX9_best 6 (some .int) ∈ WA := zin 1006 (by decide +kernel) (by decide +kernel)
theorem wi_1004 : Cond.instanceMethod yX9_best ∈ WA := zin 1004 (by decide +kernel) (by decide +kernel)
theorem wi_1005 : Cond.selects RX9 yX9_best yX9_best ∈ WA := zin 1005 (by decide +kernel) (by decide +kernel)
theorem mv_L_63 : zMv RL 63 RX9 mX9_best 1 := ⟨⟨wi_1003, wi_100, wi_1006, by decide, by decide +kernel⟩, wi_1004, wi_1005⟩
theorem dL_best_12 : decode cL_best 12 = .ok (.astore_n 3, 1) := by decide +kernel
theorem dL_best_13 : decode cL_best 13 = .ok (.iconst 1, 1) := by decide +kernel
theorem dL_best_14 : decode cL_best 14 = .ok (.ireturn, 1) := by decide +kernel
abbrev mX9_reach : Ym := (yX9_reach, cX9_reach, 6, some .int)
theorem dX9_reach_0 : decode cX9_reach 0 = .ok (.aload_n 0, 1) := by decide +kernel
theorem dX9_reach_1 : decode cX9_reach 1 = .ok (.iload_n 1, 1) := by decide +kernel
theorem dX9_reach_2 : decode cX9_reach 2 = .ok (.invokevirtual 137, 3) := by decide +kernel
abbrev mL_reach : Ym := (yL_reach, cL_reach, 7, some .int)
theorem dL_reach_0 : decode cL_reach 0 = .ok (.aload 5, 2) := by decide +kernel
theorem dL_reach_2 : decode cL_reach 2 = .ok (.iconst 0, 1) := by decide +kernel
theorem dL_reach_3 : decode cL_reach 3 = .ok (.aload_n 0, 1) := by decide +kernel
theorem dL_reach_4 : decode cL_reach 4 = .ok (.iload_n 1, 1) := by decide +kernel
theorem dL_reach_5 : decode cL_reach 5 = .ok (.iload_n 2, 1) := by decide +kernel
theorem dL_reach_6 : decode cL_reach 6 = .ok (.iload_n 3, 1) := by decide +kernel
theorem dL_reach_7 : decode cL_reach 7 = .ok (.iload 4, 2) := by decide +kernel
theorem dL_reach_9 : decode cL_reach 9 = .ok (.invokevirtual 72, 3) := by decide +kernel
theorem wi_1059 : Cond.methodLink RL 72 yX9_reach ∈ WA := zin 1059 (by decide +kernel) (by decide +kernel)
theorem wi_1062 : Cond.code yX9_reach cX9_reach 6 (some .int) ∈ WA := zin 1062 (by decide +kernel) (by decide +kernel)
theorem wi_1060 : Cond.instanceMethod yX9_reach ∈ WA := zin 1060 (by decide +kernel) (by decide +kernel)
theorem wi_1061 : Cond.selects RX9 yX9_reach yX9_reach ∈ WA := zin 1061 (by decide +kernel) (by decide +kernel)
theorem mv_L_72 : zMv RL 72 RX9 mX9_reach 4 := ⟨⟨wi_1059, wi_100, wi_1062, by decide, by decide +kernel⟩, wi_1060, wi_1061⟩
theorem dL_reach_17 : decode cL_reach 17 = .ok (.astore 6, 2) := by decide +kernel
theorem dL_reach_19 : decode cL_reach 19 = .ok (.iconst 1, 1) := by decide +kernel
theorem dL_reach_20 : decode cL_reach 20 = .ok (.ireturn, 1) := by decide +kernel
abbrev mX9_since : Ym := (yX9_since, cX9_since, 3, some .int)
theorem dX9_since_0 : decode cX9_since 0 = .ok (.aload_n 0, 1) := by decide +kernel
theorem dX9_since_1 : decode cX9_since 1 = .ok (.iload_n 1, 1) := by decide +kernel
theorem dX9_since_2 : decode cX9_since 2 = .ok (.invokevirtual 137, 3) := by decide +kernel
abbrev mL_since : Ym := (yL_since, cL_since, 5, some .int)
theorem dL_since_0 : decode cL_since 0 = .ok (.aload_n 3, 1) := by decide +kernel
theorem dL_since_1 : decode cL_since 1 = .ok (.iconst 0, 1) := by decide +kernel
theorem dL_since_2 : decode cL_since 2 = .ok (.aload_n 0, 1) := by decide +kernel
theorem dL_since_3 : decode cL_since 3 = .ok (.iload_n 1, 1) := by decide +kernel
theorem dL_since_4 : decode cL_since 4 = .ok (.iload_n 2, 1) := by decide +kernel
theorem dL_since_5 : decode cL_since 5 = .ok (.invokevirtual 79, 3) := by decide +kernel
theorem wi_1082 : Cond.methodLink RL 79 yX9_since ∈ WA := zin 1082 (by decide +kernel) (by decide +kernel)
theorem wi_1085 : Cond.code yX9_since cX9_since 3 (some .int) ∈ WA := zin 1085 (by decide +kernel) (by decide +kernel)
theorem wi_1083 : Cond.instanceMethod yX9_since ∈ WA := zin 1083 (by decide +kernel) (by decide +kernel)
theorem wi_1084 : Cond.selects RX9 yX9_since yX9_since ∈ WA := zin 1084 (by decide +kernel) (by decide +kernel)
theorem mv_L_79 : zMv RL 79 RX9 mX9_since 2 := ⟨⟨wi_1082, wi_100, wi_1085, by decide, by decide +kernel⟩, wi_1083, wi_1084⟩
theorem dL_since_13 : decode cL_since 13 = .ok (.astore 4, 2) := by decide +kernel
theorem dL_since_15 : decode cL_since 15 = .ok (.iconst 1, 1) := by decide +kernel
theorem dL_since_16 : decode cL_since 16 = .ok (.ireturn, 1) := by decide +kernel
abbrev mX9_rests : Ym := (yX9_rests, cX9_rests, 10, some .int)
theorem dX9_rests_0 : decode cX9_rests 0 = .ok (.aload_n 0, 1) := by decide +kernel
theorem dX9_rests_1 : decode cX9_rests 1 = .ok (.iload_n 1, 1) := by decide +kernel
theorem dX9_rests_2 : decode cX9_rests 2 = .ok (.invokevirtual 137, 3) := by decide +kernel
abbrev mL_rests : Ym := (yL_rests, cL_rests, 6, some .int)
theorem dL_rests_0 : decode cL_rests 0 = .ok (.aload 4, 2) := by decide +kernel
theorem dL_rests_2 : decode cL_rests 2 = .ok (.iconst 0, 1) := by decide +kernel
theorem dL_rests_3 : decode cL_rests 3 = .ok (.aload_n 0, 1) := by decide +kernel
theorem dL_rests_4 : decode cL_rests 4 = .ok (.iload_n 1, 1) := by decide +kernel
theorem dL_rests_5 : decode cL_rests 5 = .ok (.iload_n 2, 1) := by decide +kernel
theorem dL_rests_6 : decode cL_rests 6 = .ok (.iload_n 3, 1) := by decide +kernel
theorem dL_rests_7 : decode cL_rests 7 = .ok (.invokevirtual 91, 3) := by decide +kernel
theorem wi_1152 : Cond.methodLink RL 91 yX9_rests ∈ WA := zin 1152 (by decide +kernel) (by decide +kernel)
theorem wi_1155 : Cond.code yX9_rests cX9_rests 10 (some .int) ∈ WA := zin 1155 (by decide +kernel) (by decide +kernel)
theorem wi_1153 : Cond.instanceMethod yX9_rests ∈ WA := zin 1153 (by decide +kernel) (by decide +kernel)
theorem wi_1154 : Cond.selects RX9 yX9_rests yX9_rests ∈ WA := zin 1154 (by decide +kernel) (by decide +kernel)
theorem mv_L_91 : zMv RL 91 RX9 mX9_rests 3 := ⟨⟨wi_1152, wi_100, wi_1155, by decide, by decide +kernel⟩, wi_1153, wi_1154⟩
theorem dL_rests_15 : decode cL_rests 15 = .ok (.astore 5, 2) := by decide +kernel
theorem dL_rests_17 : decode cL_rests 17 = .ok (.iconst 1, 1) := by decide +kernel
theorem dL_rests_18 : decode cL_rests 18 = .ok (.ireturn, 1) := by decide +kernel
abbrev mX9_ring : Ym := (yX9_ring, cX9_ring, 4, some .boolean)
theorem dX9_ring_0 : decode cX9_ring 0 = .ok (.aload_n 0, 1) := by decide +kernel
theorem dX9_ring_1 : decode cX9_ring 1 = .ok (.iload_n 1, 1) := by decide +kernel
theorem dX9_ring_2 : decode cX9_ring 2 = .ok (.invokevirtual 137, 3) := by decide +kernel
abbrev mL_ring : Ym := (yL_ring, cL_ring, 4, some .int)
theorem dL_ring_0 : decode cL_ring 0 = .ok (.aload_n 2, 1) := by decide +kernel
theorem dL_ring_1 : decode cL_ring 1 = .ok (.iconst 0, 1) := by decide +kernel
theorem dL_ring_2 : decode cL_ring 2 = .ok (.aload_n 0, 1) := by decide +kernel
theorem dL_ring_3 : decode cL_ring 3 = .ok (.iload_n 1, 1) := by decide +kernel
theorem dL_ring_4 : decode cL_ring 4 = .ok (.invokevirtual 100, 3) := by decide +kernel
theorem wi_1185 : Cond.methodLink RL 100 yX9_ring ∈ WA := zin 1185 (by decide +kernel) (by decide +kernel)
theorem wi_1188 : Cond.code yX9_ring cX9_ring 4 (some .boolean) ∈ WA := zin 1188 (by decide +kernel) (by decide +kernel)
theorem wi_1186 : Cond.instanceMethod yX9_ring ∈ WA := zin 1186 (by decide +kernel) (by decide +kernel)
theorem wi_1187 : Cond.selects RX9 yX9_ring yX9_ring ∈ WA := zin 1187 (by decide +kernel) (by decide +kernel)
theorem mv_L_100 : zMv RL 100 RX9 mX9_ring 1 := ⟨⟨wi_1185, wi_100, wi_1188, by decide, by decide +kernel⟩, wi_1186, wi_1187⟩
theorem dL_ring_19 : decode cL_ring 19 = .ok (.astore_n 3, 1) := by decide +kernel
theorem dL_ring_20 : decode cL_ring 20 = .ok (.iconst 1, 1) := by decide +kernel
theorem dL_ring_21 : decode cL_ring 21 = .ok (.ireturn, 1) := by decide +kernel
abbrev mX9_share : Ym := (yX9_share, cX9_share, 5, some .int)
theorem dX9_share_0 : decode cX9_share 0 = .ok (.aload_n 0, 1) := by decide +kernel
theorem dX9_share_1 : decode cX9_share 1 = .ok (.iload_n 1, 1) := by decide +kernel
theorem dX9_share_2 : decode cX9_share 2 = .ok (.invokevirtual 137, 3) := by decide +kernel
abbrev mL_share : Ym := (yL_share, cL_share, 5, some .int)
theorem dL_share_0 : decode cL_share 0 = .ok (.aload_n 3, 1) := by decide +kernel
theorem dL_share_1 : decode cL_share 1 = .ok (.iconst 0, 1) := by decide +kernel
theorem dL_share_2 : decode cL_share 2 = .ok (.aload_n 0, 1) := by decide +kernel
theorem dL_share_3 : decode cL_share 3 = .ok (.iload_n 1, 1) := by decide +kernel
theorem dL_share_4 : decode cL_share 4 = .ok (.iload_n 2, 1) := by decide +kernel
theorem dL_share_5 : decode cL_share 5 = .ok (.invokevirtual 110, 3) := by decide +kernel
theorem wi_1215 : Cond.methodLink RL 110 yX9_share ∈ WA := zin 1215 (by decide +kernel) (by decide +kernel)
theorem wi_1218 : Cond.code yX9_share cX9_share 5 (some .int) ∈ WA := zin 1218 (by decide +kernel) (by decide +kernel)
theorem wi_1216 : Cond.instanceMethod yX9_share ∈ WA := zin 1216 (by decide +kernel) (by decide +kernel)
theorem wi_1217 : Cond.selects RX9 yX9_share yX9_share ∈ WA := zin 1217 (by decide +kernel) (by decide +kernel)
theorem mv_L_110 : zMv RL 110 RX9 mX9_share 2 := ⟨⟨wi_1215, wi_100, wi_1218, by decide, by decide +kernel⟩, wi_1216, wi_1217⟩
theorem dL_share_13 : decode cL_share 13 = .ok (.astore 4, 2) := by decide +kernel
theorem dL_share_15 : decode cL_share 15 = .ok (.iconst 1, 1) := by decide +kernel
theorem dL_share_16 : decode cL_share 16 = .ok (.ireturn, 1) := by decide +kernel
abbrev mX9_led : Ym := (yX9_led, cX9_led, 6, some .int)
theorem dX9_led_0 : decode cX9_led 0 = .ok (.aload_n 0, 1) := by decide +kernel
theorem dX9_led_1 : decode cX9_led 1 = .ok (.iload_n 1, 1) := by decide +kernel
theorem dX9_led_2 : decode cX9_led 2 = .ok (.invokevirtual 137, 3) := by decide +kernel
abbrev mL_led : Ym := (yL_led, cL_led, 5, some .int)
theorem dL_led_0 : decode cL_led 0 = .ok (.aload_n 3, 1) := by decide +kernel
theorem dL_led_1 : decode cL_led 1 = .ok (.iconst 0, 1) := by decide +kernel
theorem dL_led_2 : decode cL_led 2 = .ok (.aload_n 0, 1) := by decide +kernel
theorem dL_led_3 : decode cL_led 3 = .ok (.iload_n 1, 1) := by decide +kernel
theorem dL_led_4 : decode cL_led 4 = .ok (.iload_n 2, 1) := by decide +kernel
theorem dL_led_5 : decode cL_led 5 = .ok (.invokevirtual 120, 3) := by decide +kernel
theorem wi_1240 : Cond.methodLink RL 120 yX9_led ∈ WA := zin 1240 (by decide +kernel) (by decide +kernel)
theorem wi_1243 : Cond.code yX9_led cX9_led 6 (some .int) ∈ WA := zin 1243 (by decide +kernel) (by decide +kernel)
theorem wi_1241 : Cond.instanceMethod yX9_led ∈ WA := zin 1241 (by decide +kernel) (by decide +kernel)
theorem wi_1242 : Cond.selects RX9 yX9_led yX9_led ∈ WA := zin 1242 (by decide +kernel) (by decide +kernel)
theorem mv_L_120 : zMv RL 120 RX9 mX9_led 2 := ⟨⟨wi_1240, wi_100, wi_1243, by decide, by decide +kernel⟩, wi_1241, wi_1242⟩
theorem dL_led_13 : decode cL_led 13 = .ok (.astore 4, 2) := by decide +kernel
theorem dL_led_15 : decode cL_led 15 = .ok (.iconst 1, 1) := by decide +kernel
theorem dL_led_16 : decode cL_led 16 = .ok (.ireturn, 1) := by decide +kernel
abbrev mX9_thing : Ym := (yX9_thing, cX9_thing, 3, some .int)
theorem dX9_thing_0 : decode cX9_thing 0 = .ok (.aload_n 0, 1) := by decide +kernel
theorem dX9_thing_1 : decode cX9_thing 1 = .ok (.iload_n 1, 1) := by decide +kernel
theorem dX9_thing_2 : decode cX9_thing 2 = .ok (.invokevirtual 156, 3) := by decide +kernel
theorem wi_826 : Cond.methodLink RX9 156 yX9_needThing ∈ WA := zin 826 (by decide +kernel) (by decide +kernel)
theorem wi_829 : Cond.code yX9_needThing cX9_needThing 2 (none) ∈ WA := zin 829 (by decide +kernel) (by decide +kernel)
theorem wi_828 : Cond.instanceMethod yX9_needThing ∈ WA := zin 828 (by decide +kernel) (by decide +kernel)
theorem wi_11 : Cond.selects RX9 yX9_needThing yX9_needThing ∈ WA := zin 11 (by decide +kernel) (by decide +kernel)
theorem mv_X9_156 : zMv RX9 156 RX9 mX9_needThing 1 := ⟨⟨wi_826, wi_100, wi_829, by decide, by decide +kernel⟩, wi_828, wi_11⟩
abbrev mL_thing : Ym := (yL_thing, cL_thing, 5, some .int)
theorem dL_thing_0 : decode cL_thing 0 = .ok (.aload_n 3, 1) := by decide +kernel
theorem dL_thing_1 : decode cL_thing 1 = .ok (.iconst 0, 1) := by decide +kernel
theorem dL_thing_2 : decode cL_thing 2 = .ok (.aload_n 0, 1) := by decide +kernel
theorem dL_thing_3 : decode cL_thing 3 = .ok (.iload_n 1, 1) := by decide +kernel
theorem dL_thing_4 : decode cL_thing 4 = .ok (.iload_n 2, 1) := by decide +kernel
theorem dL_thing_5 : decode cL_thing 5 = .ok (.invokevirtual 28, 3) := by decide +kernel
theorem wi_822 : Cond.methodLink RL 28 yX9_thing ∈ WA := zin 822 (by decide +kernel) (by decide +kernel)
theorem wi_825 : Cond.code yX9_thing cX9_thing 3 (some .int) ∈ WA := zin 825 (by decide +kernel) (by decide +kernel)
theorem wi_823 : Cond.instanceMethod yX9_thing ∈ WA := zin 823 (by decide +kernel) (by decide +kernel)
theorem wi_824 : Cond.selects RX9 yX9_thing yX9_thing ∈ WA := zin 824 (by decide +kernel) (by decide +kernel)
theorem mv_L_28 : zMv RL 28 RX9 mX9_thing 2 := ⟨⟨wi_822, wi_100, wi_825, by decide, by decide +kernel⟩, wi_823, wi_824⟩
theorem dL_thing_13 : decode cL_thing 13 = .ok (.astore 4, 2) := by decide +kernel
theorem dL_thing_15 : decode cL_thing 15 = .ok (.iconst 1, 1) := by decide +kernel
theorem dL_thing_16 : decode cL_thing 16 = .ok (.ireturn, 1) := by decide +kernel
abbrev mX9_lend : Ym := (yX9_lend, cX9_lend, 4, some .int)
theorem dX9_lend_0 : decode cX9_lend 0 = .ok (.aload_n 0, 1) := by decide +kernel
theorem dX9_lend_1 : decode cX9_lend 1 = .ok (.iload_n 1, 1) := by decide +kernel
theorem dX9_lend_2 : decode cX9_lend 2 = .ok (.invokevirtual 156, 3) := by decide +kernel
abbrev mL_lend : Ym := (yL_lend, cL_lend, 5, some .int)
theorem dL_lend_0 : decode cL_lend 0 = .ok (.aload_n 3, 1) := by decide +kernel
theorem dL_lend_1 : decode cL_lend 1 = .ok (.iconst 0, 1) := by decide +kernel
theorem dL_lend_2 : decode cL_lend 2 = .ok (.aload_n 0, 1) := by decide +kernel
theorem dL_lend_3 : decode cL_lend 3 = .ok (.iload_n 1, 1) := by decide +kernel
theorem dL_lend_4 : decode cL_lend 4 = .ok (.iload_n 2, 1) := by decide +kernel
theorem dL_lend_5 : decode cL_lend 5 = .ok (.invokevirtual 38, 3) := by decide +kernel
theorem wi_887 : Cond.methodLink RL 38 yX9_lend ∈ WA := zin 887 (by decide +kernel) (by decide +kernel)
theorem wi_890 : Cond.code yX9_lend cX9_lend 4 (some .int) ∈ WA := zin 890 (by decide +kernel) (by decide +kernel)
theorem wi_888 : Cond.instanceMethod yX9_lend ∈ WA := zin 888 (by decide +kernel) (by decide +kernel)
theorem wi_889 : Cond.selects RX9 yX9_lend yX9_lend ∈ WA := zin 889 (by decide +kernel) (by decide +kernel)
theorem mv_L_38 : zMv RL 38 RX9 mX9_lend 2 := ⟨⟨wi_887, wi_100, wi_890, by decide, by decide +kernel⟩, wi_888, wi_889⟩
theorem dL_lend_13 : decode cL_lend 13 = .ok (.astore 4, 2) := by decide +kernel
theorem dL_lend_15 : decode cL_lend 15 = .ok (.iconst 1, 1) := by decide +kernel
theorem dL_lend_16 : decode cL_lend 16 = .ok (.ireturn, 1) := by decide +kernel
abbrev mX9_pawn : Ym := (yX9_pawn, cX9_pawn, 4, some .int)
theorem dX9_pawn_0 : decode cX9_pawn 0 = .ok (.aload_n 0, 1) := by decide +kernel
theorem dX9_pawn_1 : decode cX9_pawn 1 = .ok (.iload_n 1, 1) := by decide +kernel
theorem dX9_pawn_2 : decode cX9_pawn 2 = .ok (.invokevirtual 156, 3) := by decide +kernel
abbrev mL_pawn : Ym := (yL_pawn, cL_pawn, 4, some .int)
theorem dL_pawn_0 : decode cL_pawn 0 = .ok (.aload_n 2, 1) := by decide +kernel
theorem dL_pawn_1 : decode cL_pawn 1 = .ok (.iconst 0, 1) := by decide +kernel
theorem dL_pawn_2 : decode cL_pawn 2 = .ok (.aload_n 0, 1) := by decide +kernel
theorem dL_pawn_3 : decode cL_pawn 3 = .ok (.iload_n 1, 1) := by decide +kernel
theorem dL_pawn_4 : decode cL_pawn 4 = .ok (.invokevirtual 46, 3) := by decide +kernel
theorem wi_949 : Cond.methodLink RL 46 yX9_pawn ∈ WA := zin 949 (by decide +kernel) (by decide +kernel)
theorem wi_952 : Cond.code yX9_pawn cX9_pawn 4 (some .int) ∈ WA := zin 952 (by decide +kernel) (by decide +kernel)
theorem wi_950 : Cond.instanceMethod yX9_pawn ∈ WA := zin 950 (by decide +kernel) (by decide +kernel)
theorem wi_951 : Cond.selects RX9 yX9_pawn yX9_pawn ∈ WA := zin 951 (by decide +kernel) (by decide +kernel)
theorem mv_L_46 : zMv RL 46 RX9 mX9_pawn 1 := ⟨⟨wi_949, wi_100, wi_952, by decide, by decide +kernel⟩, wi_950, wi_951⟩
theorem dL_pawn_12 : decode cL_pawn 12 = .ok (.astore_n 3, 1) := by decide +kernel
theorem dL_pawn_13 : decode cL_pawn 13 = .ok (.iconst 1, 1) := by decide +kernel
theorem dL_pawn_14 : decode cL_pawn 14 = .ok (.ireturn, 1) := by decide +kernel
abbrev mX9_redeem : Ym := (yX9_redeem, cX9_redeem, 4, some .int)
theorem dX9_redeem_0 : decode cX9_redeem 0 = .ok (.aload_n 0, 1) := by decide +kernel
theorem dX9_redeem_1 : decode cX9_redeem 1 = .ok (.iload_n 1, 1) := by decide +kernel
theorem dX9_redeem_2 : decode cX9_redeem 2 = .ok (.invokevirtual 156, 3) := by decide +kernel
abbrev mL_redeem : Ym := (yL_redeem, cL_redeem, 4, some .int)
theorem dL_redeem_0 : decode cL_redeem 0 = .ok (.aload_n 2, 1) := by decide +kernel
theorem dL_redeem_1 : decode cL_redeem 1 = .ok (.iconst 0, 1) := by decide +kernel
theorem dL_redeem_2 : decode cL_redeem 2 = .ok (.aload_n 0, 1) := by decide +kernel
theorem dL_redeem_3 : decode cL_redeem 3 = .ok (.iload_n 1, 1) := by decide +kernel
theorem dL_redeem_4 : decode cL_redeem 4 = .ok (.invokevirtual 50, 3) := by decide +kernel
theorem wi_959 : Cond.methodLink RL 50 yX9_redeem ∈ WA := zin 959 (by decide +kernel) (by decide +kernel)
theorem wi_962 : Cond.code yX9_redeem cX9_redeem 4 (some .int) ∈ WA := zin 962 (by decide +kernel) (by decide +kernel)
theorem wi_960 : Cond.instanceMethod yX9_redeem ∈ WA := zin 960 (by decide +kernel) (by decide +kernel)
theorem wi_961 : Cond.selects RX9 yX9_redeem yX9_redeem ∈ WA := zin 961 (by decide +kernel) (by decide +kernel)
theorem mv_L_50 : zMv RL 50 RX9 mX9_redeem 1 := ⟨⟨wi_959, wi_100, wi_962, by decide, by decide +kernel⟩, wi_960, wi_961⟩
theorem dL_redeem_12 : decode cL_redeem 12 = .ok (.astore_n 3, 1) := by decide +kernel
theorem dL_redeem_13 : decode cL_redeem 13 = .ok (.iconst 1, 1) := by decide +kernel
theorem dL_redeem_14 : decode cL_redeem 14 = .ok (.ireturn, 1) := by decide +kernel
abbrev mX9_cut : Ym := (yX9_cut, cX9_cut, 3, some .int)
theorem dX9_cut_0 : decode cX9_cut 0 = .ok (.aload_n 0, 1) := by decide +kernel
theorem dX9_cut_1 : decode cX9_cut 1 = .ok (.iload_n 1, 1) := by decide +kernel
theorem dX9_cut_2 : decode cX9_cut 2 = .ok (.invokevirtual 156, 3) := by decide +kernel
abbrev mL_cut : Ym := (yL_cut, cL_cut, 4, some .int)
theorem dL_cut_0 : decode cL_cut 0 = .ok (.aload_n 2, 1) := by decide +kernel
theorem dL_cut_1 : decode cL_cut 1 = .ok (.iconst 0, 1) := by decide +kernel
theorem dL_cut_2 : decode cL_cut 2 = .ok (.aload_n 0, 1) := by decide +kernel
theorem dL_cut_3 : decode cL_cut 3 = .ok (.iload_n 1, 1) := by decide +kernel
theorem dL_cut_4 : decode cL_cut 4 = .ok (.invokevirtual 53, 3) := by decide +kernel
theorem wi_967 : Cond.methodLink RL 53 yX9_cut ∈ WA := zin 967 (by decide +kernel) (by decide +kernel)
theorem wi_970 : Cond.code yX9_cut cX9_cut 3 (some .int) ∈ WA := zin 970 (by decide +kernel) (by decide +kernel)
theorem wi_968 : Cond.instanceMethod yX9_cut ∈ WA := zin 968 (by decide +kernel) (by decide +kernel)
theorem wi_969 : Cond.selects RX9 yX9_cut yX9_cut ∈ WA := zin 969 (by decide +kernel) (by decide +kernel)
theorem mv_L_53 : zMv RL 53 RX9 mX9_cut 1 := ⟨⟨wi_967, wi_100, wi_970, by decide, by decide +kernel⟩, wi_968, wi_969⟩
theorem dL_cut_12 : decode cL_cut 12 = .ok (.astore_n 3, 1) := by decide +kernel
theorem dL_cut_13 : decode cL_cut 13 = .ok (.iconst 1, 1) := by decide +kernel
theorem dL_cut_14 : decode cL_cut 14 = .ok (.ireturn, 1) := by decide +kernel
abbrev mX9_order : Ym := (yX9_order, cX9_order, 5, some .int)
theorem dX9_order_0 : decode cX9_order 0 = .ok (.aload_n 0, 1) := by decide +kernel
theorem dX9_order_1 : decode cX9_order 1 = .ok (.iload_n 1, 1) := by decide +kernel
theorem dX9_order_2 : decode cX9_order 2 = .ok (.invokevirtual 156, 3) := by decide +kernel
abbrev mL_order : Ym := (yL_order, cL_order, 6, some .int)
theorem dL_order_0 : decode cL_order 0 = .ok (.aload 4, 2) := by decide +kernel
theorem dL_order_2 : decode cL_order 2 = .ok (.iconst 0, 1) := by decide +kernel
theorem dL_order_3 : decode cL_order 3 = .ok (.aload_n 0, 1) := by decide +kernel
theorem dL_order_4 : decode cL_order 4 = .ok (.iload_n 1, 1) := by decide +kernel
theorem dL_order_5 : decode cL_order 5 = .ok (.iload_n 2, 1) := by decide +kernel
theorem dL_order_6 : decode cL_order 6 = .ok (.iload_n 3, 1) := by decide +kernel
theorem dL_order_7 : decode cL_order 7 = .ok (.invokevirtual 66, 3) := by decide +kernel
theorem wi_1011 : Cond.methodLink RL 66 yX9_order ∈ WA := zin 1011 (by decide +kernel) (by decide +kernel)
theorem wi_1014 : Cond.code yX9_order cX9_order 5 (some .int) ∈ WA := zin 1014 (by decide +kernel) (by decide +kernel)
theorem wi_1012 : Cond.instanceMethod yX9_order ∈ WA := zin 1012 (by decide +kernel) (by decide +kernel)
theorem wi_1013 : Cond.selects RX9 yX9_order yX9_order ∈ WA := zin 1013 (by decide +kernel) (by decide +kernel)
theorem mv_L_66 : zMv RL 66 RX9 mX9_order 3 := ⟨⟨wi_1011, wi_100, wi_1014, by decide, by decide +kernel⟩, wi_1012, wi_1013⟩
theorem dL_order_15 : decode cL_order 15 = .ok (.astore 5, 2) := by decide +kernel
theorem dL_order_17 : decode cL_order 17 = .ok (.iconst 1, 1) := by decide +kernel
theorem dL_order_18 : decode cL_order 18 = .ok (.ireturn, 1) := by decide +kernel
abbrev mX9_lowest : Ym := (yX9_lowest, cX9_lowest, 3, some .int)
theorem dX9_lowest_0 : decode cX9_lowest 0 = .ok (.aload_n 0, 1) := by decide +kernel
theorem dX9_lowest_1 : decode cX9_lowest 1 = .ok (.iload_n 1, 1) := by decide +kernel
theorem dX9_lowest_2 : decode cX9_lowest 2 = .ok (.invokevirtual 156, 3) := by decide +kernel
abbrev mL_lowest : Ym := (yL_lowest, cL_lowest, 5, some .int)
theorem dL_lowest_0 : decode cL_lowest 0 = .ok (.aload_n 3, 1) := by decide +kernel
theorem dL_lowest_1 : decode cL_lowest 1 = .ok (.iconst 0, 1) := by decide +kernel
theorem dL_lowest_2 : decode cL_lowest 2 = .ok (.aload_n 0, 1) := by decide +kernel
theorem dL_lowest_3 : decode cL_lowest 3 = .ok (.iload_n 1, 1) := by decide +kernel
theorem dL_lowest_4 : decode cL_lowest 4 = .ok (.iload_n 2, 1) := by decide +kernel
theorem dL_lowest_5 : decode cL_lowest 5 = .ok (.invokevirtual 69, 3) := by decide +kernel
theorem wi_1052 : Cond.methodLink RL 69 yX9_lowest ∈ WA := zin 1052 (by decide +kernel) (by decide +kernel)
theorem wi_1055 : Cond.code yX9_lowest cX9_lowest 3 (some .int) ∈ WA := zin 1055 (by decide +kernel) (by decide +kernel)
theorem wi_1053 : Cond.instanceMethod yX9_lowest ∈ WA := zin 1053 (by decide +kernel) (by decide +kernel)
theorem wi_1054 : Cond.selects RX9 yX9_lowest yX9_lowest ∈ WA := zin 1054 (by decide +kernel) (by decide +kernel)
theorem mv_L_69 : zMv RL 69 RX9 mX9_lowest 2 := ⟨⟨wi_1052, wi_100, wi_1055, by decide, by decide +kernel⟩, wi_1053, wi_1054⟩
theorem dL_lowest_13 : decode cL_lowest 13 = .ok (.astore 4, 2) := by decide +kernel
theorem dL_lowest_15 : decode cL_lowest 15 = .ok (.iconst 1, 1) := by decide +kernel
theorem dL_lowest_16 : decode cL_lowest 16 = .ok (.ireturn, 1) := by decide +kernel
abbrev mX9_chain : Ym := (yX9_chain, cX9_chain, 2, some .int)
theorem dX9_chain_0 : decode cX9_chain 0 = .ok (.aload_n 0, 1) := by decide +kernel
theorem dX9_chain_1 : decode cX9_chain 1 = .ok (.iload_n 1, 1) := by decide +kernel
theorem dX9_chain_2 : decode cX9_chain 2 = .ok (.invokevirtual 156, 3) := by decide +kernel
abbrev mL_chain : Ym := (yL_chain, cL_chain, 4, some .int)
theorem dL_chain_0 : decode cL_chain 0 = .ok (.aload_n 2, 1) := by decide +kernel
theorem dL_chain_1 : decode cL_chain 1 = .ok (.iconst 0, 1) := by decide +kernel
theorem dL_chain_2 : decode cL_chain 2 = .ok (.aload_n 0, 1) := by decide +kernel
theorem dL_chain_3 : decode cL_chain 3 = .ok (.iload_n 1, 1) := by decide +kernel
theorem dL_chain_4 : decode cL_chain 4 = .ok (.invokevirtual 76, 3) := by decide +kernel
theorem wi_1067 : Cond.methodLink RL 76 yX9_chain ∈ WA := zin 1067 (by decide +kernel) (by decide +kernel)
theorem wi_1070 : Cond.code yX9_chain cX9_chain 2 (some .int) ∈ WA := zin 1070 (by decide +kernel) (by decide +kernel)
theorem wi_1068 : Cond.instanceMethod yX9_chain ∈ WA := zin 1068 (by decide +kernel) (by decide +kernel)
theorem wi_1069 : Cond.selects RX9 yX9_chain yX9_chain ∈ WA := zin 1069 (by decide +kernel) (by decide +kernel)
theorem mv_L_76 : zMv RL 76 RX9 mX9_chain 1 := ⟨⟨wi_1067, wi_100, wi_1070, by decide, by decide +kernel⟩, wi_1068, wi_1069⟩
theorem dL_chain_12 : decode cL_chain 12 = .ok (.astore_n 3, 1) := by decide +kernel
theorem dL_chain_13 : decode cL_chain 13 = .ok (.iconst 1, 1) := by decide +kernel
theorem dL_chain_14 : decode cL_chain 14 = .ok (.ireturn, 1) := by decide +kernel
abbrev mX9_runs : Ym := (yX9_runs, cX9_runs, 4, some .int)
theorem dX9_runs_0 : decode cX9_runs 0 = .ok (.aload_n 0, 1) := by decide +kernel
theorem dX9_runs_1 : decode cX9_runs 1 = .ok (.iload_n 1, 1) := by decide +kernel
theorem dX9_runs_2 : decode cX9_runs 2 = .ok (.invokevirtual 156, 3) := by decide +kernel
abbrev mL_runs : Ym := (yL_runs, cL_runs, 5, some .int)
theorem dL_runs_0 : decode cL_runs 0 = .ok (.aload_n 3, 1) := by decide +kernel
theorem dL_runs_1 : decode cL_runs 1 = .ok (.iconst 0, 1) := by decide +kernel
theorem dL_runs_2 : decode cL_runs 2 = .ok (.aload_n 0, 1) := by decide +kernel
theorem dL_runs_3 : decode cL_runs 3 = .ok (.iload_n 1, 1) := by decide +kernel
theorem dL_runs_4 : decode cL_runs 4 = .ok (.iload_n 2, 1) := by decide +kernel
theorem dL_runs_5 : decode cL_runs 5 = .ok (.invokevirtual 104, 3) := by decide +kernel
theorem wi_1196 : Cond.methodLink RL 104 yX9_runs ∈ WA := zin 1196 (by decide +kernel) (by decide +kernel)
theorem wi_1199 : Cond.code yX9_runs cX9_runs 4 (some .int) ∈ WA := zin 1199 (by decide +kernel) (by decide +kernel)
theorem wi_1197 : Cond.instanceMethod yX9_runs ∈ WA := zin 1197 (by decide +kernel) (by decide +kernel)
theorem wi_1198 : Cond.selects RX9 yX9_runs yX9_runs ∈ WA := zin 1198 (by decide +kernel) (by decide +kernel)
theorem mv_L_104 : zMv RL 104 RX9 mX9_runs 2 := ⟨⟨wi_1196, wi_100, wi_1199, by decide, by decide +kernel⟩, wi_1197, wi_1198⟩
theorem dL_runs_13 : decode cL_runs 13 = .ok (.astore 4, 2) := by decide +kernel
theorem dL_runs_15 : decode cL_runs 15 = .ok (.iconst 1, 1) := by decide +kernel
theorem dL_runs_16 : decode cL_runs 16 = .ok (.ireturn, 1) := by decide +kernel
abbrev mX9_spent : Ym := (yX9_spent, cX9_spent, 3, some .int)
theorem dX9_spent_0 : decode cX9_spent 0 = .ok (.aload_n 0, 1) := by decide +kernel
theorem dX9_spent_1 : decode cX9_spent 1 = .ok (.iload_n 1, 1) := by decide +kernel
theorem dX9_spent_2 : decode cX9_spent 2 = .ok (.invokevirtual 156, 3) := by decide +kernel
abbrev mL_spent : Ym := (yL_spent, cL_spent, 4, some .int)
theorem dL_spent_0 : decode cL_spent 0 = .ok (.aload_n 2, 1) := by decide +kernel
theorem dL_spent_1 : decode cL_spent 1 = .ok (.iconst 0, 1) := by decide +kernel
theorem dL_spent_2 : decode cL_spent 2 = .ok (.aload_n 0, 1) := by decide +kernel
theorem dL_spent_3 : decode cL_spent 3 = .ok (.iload_n 1, 1) := by decide +kernel
theorem dL_spent_4 : decode cL_spent 4 = .ok (.invokevirtual 107, 3) := by decide +kernel
theorem wi_1208 : Cond.methodLink RL 107 yX9_spent ∈ WA := zin 1208 (by decide +kernel) (by decide +kernel)
theorem wi_1211 : Cond.code yX9_spent cX9_spent 3 (some .int) ∈ WA := zin 1211 (by decide +kernel) (by decide +kernel)
theorem wi_1209 : Cond.instanceMethod yX9_spent ∈ WA := zin 1209 (by decide +kernel) (by decide +kernel)
theorem wi_1210 : Cond.selects RX9 yX9_spent yX9_spent ∈ WA := zin 1210 (by decide +kernel) (by decide +kernel)
theorem mv_L_107 : zMv RL 107 RX9 mX9_spent 1 := ⟨⟨wi_1208, wi_100, wi_1211, by decide, by decide +kernel⟩, wi_1209, wi_1210⟩
theorem dL_spent_12 : decode cL_spent 12 = .ok (.astore_n 3, 1) := by decide +kernel
theorem dL_spent_13 : decode cL_spent 13 = .ok (.iconst 1, 1) := by decide +kernel
theorem dL_spent_14 : decode cL_spent 14 = .ok (.ireturn, 1) := by decide +kernel
section Thr
variable (G : Gx) (d : Nat) (I : Hi)
theorem ct_X9_woman (p0 p1 : Int32) : Ct G GAM mX9_woman (d + 1) 1 [.ref 0, .int p0, .int p1] I0 (Rx "java/lang/IndexOutOfBoundsException" I0) := by
  refine Ct.mk [some (.ref 0), some (.int p0), some (.int p1)] ?_
  refine Rn.aload_n dX9_woman_0 rfl rfl ?_
  refine Rn.iload_n dX9_woman_1 rfl rfl ?_
  exact Rn.callVt (b := 0) (mc := 1) (As := [_]) dX9_woman_2 mv_X9_137 (by first | rfl | exact gC0 (by assumption) | exact gL0 (by assumption)) rfl rfl rfl (Nat.le_of_ble_eq_true rfl) (ct_needWoman0 G _ _ i3_0 _) (fun _ _ h => h) (fun _ _ h => nomatch h.1)
theorem cw_woman (p0 p1 : Int32) : CtW G GAM mL_woman [(0, 10, 13, 24), (0, 10, 17, 26)] (d + 2) 1 [.ref 0, .int p0, .int p1, .ref 107] I0 (Rp (some (.int (nI 1))) I0) := by
  refine CtW.mk [some (.ref 0), some (.int p0), some (.int p1), some (.ref 107), none] ?_
  refine Rn.aload_n dL_woman_0 rfl rfl ?_
  refine Rn.iconst (v := (nI 0)) dL_woman_1 rfl ?_
  refine Rn.aload_n dL_woman_2 rfl rfl ?_
  refine Rn.iload_n dL_woman_3 rfl rfl ?_
  refine Rn.iload_n dL_woman_4 rfl rfl ?_
  refine Rn.callVx (b := 0) (mc := 1) (As := [_, _]) dL_woman_5 mv_L_20 (by first | rfl | exact gC0 (by assumption) | exact gL0 (by assumption)) rfl rfl rfl (Nat.le_of_ble_eq_true rfl) (ct_X9_woman G _ p0 p1) (fun E J h => ?_) (fun _ _ h => nomatch h.1)
  obtain ⟨h1, h2⟩ := h
  cases h1
  subst h2
  exact zcatch (x := (0, 10, 13, 24)) (hs := [(0, 10, 17, 26)]) (i := 4) (n2 := 2) rfl wi_776 (by decide) (by decide) (Or.inr ⟨dL_woman_13, rfl⟩) (by decide) dL_woman_15 rfl dL_woman_16 rfl ⟨rfl, rfl⟩
theorem ct_X9_gain (p0 p1 : Int32) : Ct G GAM mX9_gain (d + 1) 1 [.ref 0, .int p0, .int p1] I0 (Rx "java/lang/IndexOutOfBoundsException" I0) := by
  refine Ct.mk [some (.ref 0), some (.int p0), some (.int p1)] ?_
  refine Rn.aload_n dX9_gain_0 rfl rfl ?_
  refine Rn.iload_n dX9_gain_1 rfl rfl ?_
  exact Rn.callVt (b := 0) (mc := 1) (As := [_]) dX9_gain_2 mv_X9_137 (by first | rfl | exact gC0 (by assumption) | exact gL0 (by assumption)) rfl rfl rfl (Nat.le_of_ble_eq_true rfl) (ct_needWoman0 G _ _ i3_0 _) (fun _ _ h => h) (fun _ _ h => nomatch h.1)
theorem cw_gain (p0 p1 : Int32) : CtW G GAM mL_gain [(0, 10, 13, 24)] (d + 2) 1 [.ref 0, .int p0, .int p1, .ref 107] I0 (Rp (some (.int (nI 1))) I0) := by
  refine CtW.mk [some (.ref 0), some (.int p0), some (.int p1), some (.ref 107), none] ?_
  refine Rn.aload_n dL_gain_0 rfl rfl ?_
  refine Rn.iconst (v := (nI 0)) dL_gain_1 rfl ?_
  refine Rn.aload_n dL_gain_2 rfl rfl ?_
  refine Rn.iload_n dL_gain_3 rfl rfl ?_
  refine Rn.iload_n dL_gain_4 rfl rfl ?_
  refine Rn.callVx (b := 0) (mc := 1) (As := [_, _]) dL_gain_5 mv_L_31 (by first | rfl | exact gC0 (by assumption) | exact gL0 (by assumption)) rfl rfl rfl (Nat.le_of_ble_eq_true rfl) (ct_X9_gain G _ p0 p1) (fun E J h => ?_) (fun _ _ h => nomatch h.1)
  obtain ⟨h1, h2⟩ := h
  cases h1
  subst h2
  exact zcatch (x := (0, 10, 13, 24)) (hs := []) (i := 4) (n2 := 2) rfl wi_776 (by decide) (by decide) (Or.inr ⟨dL_gain_13, rfl⟩) (by decide) dL_gain_15 rfl dL_gain_16 rfl ⟨rfl, rfl⟩
theorem ct_X9_flows (p0 p1 p2 : Int32) : Ct G GAM mX9_flows (d + 1) 1 [.ref 0, .int p0, .int p1, .int p2] I0 (Rx "java/lang/IndexOutOfBoundsException" I0) := by
  refine Ct.mk [some (.ref 0), some (.int p0), some (.int p1), some (.int p2)] ?_
  refine Rn.aload_n dX9_flows_0 rfl rfl ?_
  refine Rn.iload_n dX9_flows_1 rfl rfl ?_
  exact Rn.callVt (b := 0) (mc := 1) (As := [_]) dX9_flows_2 mv_X9_137 (by first | rfl | exact gC0 (by assumption) | exact gL0 (by assumption)) rfl rfl rfl (Nat.le_of_ble_eq_true rfl) (ct_needWoman0 G _ _ i3_0 _) (fun _ _ h => h) (fun _ _ h => nomatch h.1)
theorem cw_flows (p0 p1 p2 : Int32) : CtW G GAM mL_flows [(0, 12, 15, 24)] (d + 2) 1 [.ref 0, .int p0, .int p1, .int p2, .ref 107] I0 (Rp (some (.int (nI 1))) I0) := by
  refine CtW.mk [some (.ref 0), some (.int p0), some (.int p1), some (.int p2), some (.ref 107), none] ?_
  refine Rn.aload dL_flows_0 rfl ?_
  refine Rn.iconst (v := (nI 0)) dL_flows_2 rfl ?_
  refine Rn.aload_n dL_flows_3 rfl rfl ?_
  refine Rn.iload_n dL_flows_4 rfl rfl ?_
  refine Rn.iload_n dL_flows_5 rfl rfl ?_
  refine Rn.iload_n dL_flows_6 rfl rfl ?_
  refine Rn.callVx (b := 0) (mc := 1) (As := [_, _, _]) dL_flows_7 mv_L_34 (by first | rfl | exact gC0 (by assumption) | exact gL0 (by assumption)) rfl rfl rfl (Nat.le_of_ble_eq_true rfl) (ct_X9_flows G _ p0 p1 p2) (fun E J h => ?_) (fun _ _ h => nomatch h.1)
  obtain ⟨h1, h2⟩ := h
  cases h1
  subst h2
  exact zcatch (x := (0, 12, 15, 24)) (hs := []) (i := 5) (n2 := 2) rfl wi_776 (by decide) (by decide) (Or.inr ⟨dL_flows_15, rfl⟩) (by decide) dL_flows_17 rfl dL_flows_18 rfl ⟨rfl, rfl⟩
theorem ct_X9_wed (p0 p1 : Int32) : Ct G GAM mX9_wed (d + 1) 1 [.ref 0, .int p0, .int p1] I0 (Rx "java/lang/IndexOutOfBoundsException" I0) := by
  refine Ct.mk [some (.ref 0), some (.int p0), some (.int p1), none] ?_
  refine Rn.aload_n dX9_wed_0 rfl rfl ?_
  refine Rn.iload_n dX9_wed_1 rfl rfl ?_
  exact Rn.callVt (b := 0) (mc := 1) (As := [_]) dX9_wed_2 mv_X9_137 (by first | rfl | exact gC0 (by assumption) | exact gL0 (by assumption)) rfl rfl rfl (Nat.le_of_ble_eq_true rfl) (ct_needWoman0 G _ _ i3_0 _) (fun _ _ h => h) (fun _ _ h => nomatch h.1)
theorem cw_wed (p0 p1 : Int32) : CtW G GAM mL_wed [(0, 10, 13, 24), (0, 10, 17, 41)] (d + 2) 1 [.ref 0, .int p0, .int p1, .ref 107] I0 (Rp (some (.int (nI 1))) I0) := by
  refine CtW.mk [some (.ref 0), some (.int p0), some (.int p1), some (.ref 107), none] ?_
  refine Rn.aload_n dL_wed_0 rfl rfl ?_
  refine Rn.iconst (v := (nI 0)) dL_wed_1 rfl ?_
  refine Rn.aload_n dL_wed_2 rfl rfl ?_
  refine Rn.iload_n dL_wed_3 rfl rfl ?_
  refine Rn.iload_n dL_wed_4 rfl rfl ?_
  refine Rn.callVx (b := 0) (mc := 1) (As := [_, _]) dL_wed_5 mv_L_43 (by first | rfl | exact gC0 (by assumption) | exact gL0 (by assumption)) rfl rfl rfl (Nat.le_of_ble_eq_true rfl) (ct_X9_wed G _ p0 p1) (fun E J h => ?_) (fun _ _ h => nomatch h.1)
  obtain ⟨h1, h2⟩ := h
  cases h1
  subst h2
  exact zcatch (x := (0, 10, 13, 24)) (hs := [(0, 10, 17, 41)]) (i := 4) (n2 := 2) rfl wi_776 (by decide) (by decide) (Or.inr ⟨dL_wed_13, rfl⟩) (by decide) dL_wed_15 rfl dL_wed_16 rfl ⟨rfl, rfl⟩
theorem ct_X9_widow (p0 p1 : Int32) : Ct G GAM mX9_widow (d + 1) 1 [.ref 0, .int p0, .int p1] I0 (Rx "java/lang/IndexOutOfBoundsException" I0) := by
  refine Ct.mk [some (.ref 0), some (.int p0), some (.int p1), none, none] ?_
  refine Rn.aload_n dX9_widow_0 rfl rfl ?_
  refine Rn.iload_n dX9_widow_1 rfl rfl ?_
  exact Rn.callVt (b := 0) (mc := 1) (As := [_]) dX9_widow_2 mv_X9_137 (by first | rfl | exact gC0 (by assumption) | exact gL0 (by assumption)) rfl rfl rfl (Nat.le_of_ble_eq_true rfl) (ct_needWoman0 G _ _ i3_0 _) (fun _ _ h => h) (fun _ _ h => nomatch h.1)
theorem cw_widow (p0 p1 : Int32) : CtW G GAM mL_widow [(0, 17, 20, 24)] (d + 2) 1 [.ref 0, .int p0, .int p1, .ref 107] I0 (Rp (some (.int (nI 1))) I0) := by
  refine CtW.mk [some (.ref 0), some (.int p0), some (.int p1), some (.ref 107), none] ?_
  refine Rn.aload_n dL_widow_0 rfl rfl ?_
  refine Rn.iconst (v := (nI 0)) dL_widow_1 rfl ?_
  refine Rn.aload_n dL_widow_2 rfl rfl ?_
  refine Rn.iload_n dL_widow_3 rfl rfl ?_
  refine Rn.iload_n dL_widow_4 rfl rfl ?_
  refine Rn.callVx (b := 0) (mc := 1) (As := [_, _]) dL_widow_5 mv_L_56 (by first | rfl | exact gC0 (by assumption) | exact gL0 (by assumption)) rfl rfl rfl (Nat.le_of_ble_eq_true rfl) (ct_X9_widow G _ p0 p1) (fun E J h => ?_) (fun _ _ h => nomatch h.1)
  obtain ⟨h1, h2⟩ := h
  cases h1
  subst h2
  exact zcatch (x := (0, 17, 20, 24)) (hs := []) (i := 4) (n2 := 2) rfl wi_776 (by decide) (by decide) (Or.inr ⟨dL_widow_20, rfl⟩) (by decide) dL_widow_22 rfl dL_widow_23 rfl ⟨rfl, rfl⟩
theorem ct_X9_best (p0 : Int32) : Ct G GAM mX9_best (d + 1) 1 [.ref 0, .int p0] I0 (Rx "java/lang/IndexOutOfBoundsException" I0) := by
  refine Ct.mk [some (.ref 0), some (.int p0), none, none, none, none] ?_
  refine Rn.aload_n dX9_best_0 rfl rfl ?_
  refine Rn.iload_n dX9_best_1 rfl rfl ?_
  exact Rn.callVt (b := 0) (mc := 1) (As := [_]) dX9_best_2 mv_X9_137 (by first | rfl | exact gC0 (by assumption) | exact gL0 (by assumption)) rfl rfl rfl (Nat.le_of_ble_eq_true rfl) (ct_needWoman0 G _ _ i3_0 _) (fun _ _ h => h) (fun _ _ h => nomatch h.1)
theorem cw_best (p0 : Int32) : CtW G GAM mL_best [(0, 9, 12, 24)] (d + 2) 1 [.ref 0, .int p0, .ref 107] I0 (Rp (some (.int (nI 1))) I0) := by
  refine CtW.mk [some (.ref 0), some (.int p0), some (.ref 107), none] ?_
  refine Rn.aload_n dL_best_0 rfl rfl ?_
  refine Rn.iconst (v := (nI 0)) dL_best_1 rfl ?_
  refine Rn.aload_n dL_best_2 rfl rfl ?_
  refine Rn.iload_n dL_best_3 rfl rfl ?_
  refine Rn.callVx (b := 0) (mc := 1) (As := [_]) dL_best_4 mv_L_63 (by first | rfl | exact gC0 (by assumption) | exact gL0 (by assumption)) rfl rfl rfl (Nat.le_of_ble_eq_true rfl) (ct_X9_best G _ p0) (fun E J h => ?_) (fun _ _ h => nomatch h.1)
  obtain ⟨h1, h2⟩ := h
  cases h1
  subst h2
  exact zcatch (x := (0, 9, 12, 24)) (hs := []) (i := 3) (n2 := 1) rfl wi_776 (by decide) (by decide) (Or.inl ⟨3, dL_best_12, rfl, rfl⟩) (by decide) dL_best_13 rfl dL_best_14 rfl ⟨rfl, rfl⟩
theorem ct_X9_reach (p0 p1 p2 p3 : Int32) : Ct G GAM mX9_reach (d + 1) 1 [.ref 0, .int p0, .int p1, .int p2, .int p3] I0 (Rx "java/lang/IndexOutOfBoundsException" I0) := by
  refine Ct.mk [some (.ref 0), some (.int p0), some (.int p1), some (.int p2), some (.int p3), none] ?_
  refine Rn.aload_n dX9_reach_0 rfl rfl ?_
  refine Rn.iload_n dX9_reach_1 rfl rfl ?_
  exact Rn.callVt (b := 0) (mc := 1) (As := [_]) dX9_reach_2 mv_X9_137 (by first | rfl | exact gC0 (by assumption) | exact gL0 (by assumption)) rfl rfl rfl (Nat.le_of_ble_eq_true rfl) (ct_needWoman0 G _ _ i3_0 _) (fun _ _ h => h) (fun _ _ h => nomatch h.1)
theorem cw_reach (p0 p1 p2 p3 : Int32) : CtW G GAM mL_reach [(0, 14, 17, 24), (0, 14, 21, 13)] (d + 2) 1 [.ref 0, .int p0, .int p1, .int p2, .int p3, .ref 107] I0 (Rp (some (.int (nI 1))) I0) := by
  refine CtW.mk [some (.ref 0), some (.int p0), some (.int p1), some (.int p2), some (.int p3), some (.ref 107), none] ?_
  refine Rn.aload dL_reach_0 rfl ?_
  refine Rn.iconst (v := (nI 0)) dL_reach_2 rfl ?_
  refine Rn.aload_n dL_reach_3 rfl rfl ?_
  refine Rn.iload_n dL_reach_4 rfl rfl ?_
  refine Rn.iload_n dL_reach_5 rfl rfl ?_
  refine Rn.iload_n dL_reach_6 rfl rfl ?_
  refine Rn.iload dL_reach_7 rfl ?_
  refine Rn.callVx (b := 0) (mc := 1) (As := [_, _, _, _]) dL_reach_9 mv_L_72 (by first | rfl | exact gC0 (by assumption) | exact gL0 (by assumption)) rfl rfl rfl (Nat.le_of_ble_eq_true rfl) (ct_X9_reach G _ p0 p1 p2 p3) (fun E J h => ?_) (fun _ _ h => nomatch h.1)
  obtain ⟨h1, h2⟩ := h
  cases h1
  subst h2
  exact zcatch (x := (0, 14, 17, 24)) (hs := [(0, 14, 21, 13)]) (i := 6) (n2 := 2) rfl wi_776 (by decide) (by decide) (Or.inr ⟨dL_reach_17, rfl⟩) (by decide) dL_reach_19 rfl dL_reach_20 rfl ⟨rfl, rfl⟩
theorem ct_X9_since (p0 p1 : Int32) : Ct G GAM mX9_since (d + 1) 1 [.ref 0, .int p0, .int p1] I0 (Rx "java/lang/IndexOutOfBoundsException" I0) := by
  refine Ct.mk [some (.ref 0), some (.int p0), some (.int p1)] ?_
  refine Rn.aload_n dX9_since_0 rfl rfl ?_
  refine Rn.iload_n dX9_since_1 rfl rfl ?_
  exact Rn.callVt (b := 0) (mc := 1) (As := [_]) dX9_since_2 mv_X9_137 (by first | rfl | exact gC0 (by assumption) | exact gL0 (by assumption)) rfl rfl rfl (Nat.le_of_ble_eq_true rfl) (ct_needWoman0 G _ _ i3_0 _) (fun _ _ h => h) (fun _ _ h => nomatch h.1)
theorem cw_since (p0 p1 : Int32) : CtW G GAM mL_since [(0, 10, 13, 24), (0, 10, 17, 13)] (d + 2) 1 [.ref 0, .int p0, .int p1, .ref 107] I0 (Rp (some (.int (nI 1))) I0) := by
  refine CtW.mk [some (.ref 0), some (.int p0), some (.int p1), some (.ref 107), none] ?_
  refine Rn.aload_n dL_since_0 rfl rfl ?_
  refine Rn.iconst (v := (nI 0)) dL_since_1 rfl ?_
  refine Rn.aload_n dL_since_2 rfl rfl ?_
  refine Rn.iload_n dL_since_3 rfl rfl ?_
  refine Rn.iload_n dL_since_4 rfl rfl ?_
  refine Rn.callVx (b := 0) (mc := 1) (As := [_, _]) dL_since_5 mv_L_79 (by first | rfl | exact gC0 (by assumption) | exact gL0 (by assumption)) rfl rfl rfl (Nat.le_of_ble_eq_true rfl) (ct_X9_since G _ p0 p1) (fun E J h => ?_) (fun _ _ h => nomatch h.1)
  obtain ⟨h1, h2⟩ := h
  cases h1
  subst h2
  exact zcatch (x := (0, 10, 13, 24)) (hs := [(0, 10, 17, 13)]) (i := 4) (n2 := 2) rfl wi_776 (by decide) (by decide) (Or.inr ⟨dL_since_13, rfl⟩) (by decide) dL_since_15 rfl dL_since_16 rfl ⟨rfl, rfl⟩
theorem ct_X9_rests (p0 p1 p2 : Int32) : Ct G GAM mX9_rests (d + 1) 1 [.ref 0, .int p0, .int p1, .int p2] I0 (Rx "java/lang/IndexOutOfBoundsException" I0) := by
  refine Ct.mk [some (.ref 0), some (.int p0), some (.int p1), some (.int p2), none, none, none, none, none, none] ?_
  refine Rn.aload_n dX9_rests_0 rfl rfl ?_
  refine Rn.iload_n dX9_rests_1 rfl rfl ?_
  exact Rn.callVt (b := 0) (mc := 1) (As := [_]) dX9_rests_2 mv_X9_137 (by first | rfl | exact gC0 (by assumption) | exact gL0 (by assumption)) rfl rfl rfl (Nat.le_of_ble_eq_true rfl) (ct_needWoman0 G _ _ i3_0 _) (fun _ _ h => h) (fun _ _ h => nomatch h.1)
theorem cw_rests (p0 p1 p2 : Int32) : CtW G GAM mL_rests [(0, 12, 15, 24), (0, 12, 19, 13)] (d + 2) 1 [.ref 0, .int p0, .int p1, .int p2, .ref 107] I0 (Rp (some (.int (nI 1))) I0) := by
  refine CtW.mk [some (.ref 0), some (.int p0), some (.int p1), some (.int p2), some (.ref 107), none] ?_
  refine Rn.aload dL_rests_0 rfl ?_
  refine Rn.iconst (v := (nI 0)) dL_rests_2 rfl ?_
  refine Rn.aload_n dL_rests_3 rfl rfl ?_
  refine Rn.iload_n dL_rests_4 rfl rfl ?_
  refine Rn.iload_n dL_rests_5 rfl rfl ?_
  refine Rn.iload_n dL_rests_6 rfl rfl ?_
  refine Rn.callVx (b := 0) (mc := 1) (As := [_, _, _]) dL_rests_7 mv_L_91 (by first | rfl | exact gC0 (by assumption) | exact gL0 (by assumption)) rfl rfl rfl (Nat.le_of_ble_eq_true rfl) (ct_X9_rests G _ p0 p1 p2) (fun E J h => ?_) (fun _ _ h => nomatch h.1)
  obtain ⟨h1, h2⟩ := h
  cases h1
  subst h2
  exact zcatch (x := (0, 12, 15, 24)) (hs := [(0, 12, 19, 13)]) (i := 5) (n2 := 2) rfl wi_776 (by decide) (by decide) (Or.inr ⟨dL_rests_15, rfl⟩) (by decide) dL_rests_17 rfl dL_rests_18 rfl ⟨rfl, rfl⟩
theorem ct_X9_ring (p0 : Int32) : Ct G GAM mX9_ring (d + 1) 1 [.ref 0, .int p0] I0 (Rx "java/lang/IndexOutOfBoundsException" I0) := by
  refine Ct.mk [some (.ref 0), some (.int p0), none, none] ?_
  refine Rn.aload_n dX9_ring_0 rfl rfl ?_
  refine Rn.iload_n dX9_ring_1 rfl rfl ?_
  exact Rn.callVt (b := 0) (mc := 1) (As := [_]) dX9_ring_2 mv_X9_137 (by first | rfl | exact gC0 (by assumption) | exact gL0 (by assumption)) rfl rfl rfl (Nat.le_of_ble_eq_true rfl) (ct_needWoman0 G _ _ i3_0 _) (fun _ _ h => h) (fun _ _ h => nomatch h.1)
theorem cw_ring (p0 : Int32) : CtW G GAM mL_ring [(0, 16, 19, 24)] (d + 2) 1 [.ref 0, .int p0, .ref 107] I0 (Rp (some (.int (nI 1))) I0) := by
  refine CtW.mk [some (.ref 0), some (.int p0), some (.ref 107), none] ?_
  refine Rn.aload_n dL_ring_0 rfl rfl ?_
  refine Rn.iconst (v := (nI 0)) dL_ring_1 rfl ?_
  refine Rn.aload_n dL_ring_2 rfl rfl ?_
  refine Rn.iload_n dL_ring_3 rfl rfl ?_
  refine Rn.callVx (b := 0) (mc := 1) (As := [_]) dL_ring_4 mv_L_100 (by first | rfl | exact gC0 (by assumption) | exact gL0 (by assumption)) rfl rfl rfl (Nat.le_of_ble_eq_true rfl) (ct_X9_ring G _ p0) (fun E J h => ?_) (fun _ _ h => nomatch h.1)
  obtain ⟨h1, h2⟩ := h
  cases h1
  subst h2
  exact zcatch (x := (0, 16, 19, 24)) (hs := []) (i := 3) (n2 := 1) rfl wi_776 (by decide) (by decide) (Or.inl ⟨3, dL_ring_19, rfl, rfl⟩) (by decide) dL_ring_20 rfl dL_ring_21 rfl ⟨rfl, rfl⟩
theorem ct_X9_share (p0 p1 : Int32) : Ct G GAM mX9_share (d + 1) 1 [.ref 0, .int p0, .int p1] I0 (Rx "java/lang/IndexOutOfBoundsException" I0) := by
  refine Ct.mk [some (.ref 0), some (.int p0), some (.int p1), none, none] ?_
  refine Rn.aload_n dX9_share_0 rfl rfl ?_
  refine Rn.iload_n dX9_share_1 rfl rfl ?_
  exact Rn.callVt (b := 0) (mc := 1) (As := [_]) dX9_share_2 mv_X9_137 (by first | rfl | exact gC0 (by assumption) | exact gL0 (by assumption)) rfl rfl rfl (Nat.le_of_ble_eq_true rfl) (ct_needWoman0 G _ _ i3_0 _) (fun _ _ h => h) (fun _ _ h => nomatch h.1)
theorem cw_share (p0 p1 : Int32) : CtW G GAM mL_share [(0, 10, 13, 24)] (d + 2) 1 [.ref 0, .int p0, .int p1, .ref 107] I0 (Rp (some (.int (nI 1))) I0) := by
  refine CtW.mk [some (.ref 0), some (.int p0), some (.int p1), some (.ref 107), none] ?_
  refine Rn.aload_n dL_share_0 rfl rfl ?_
  refine Rn.iconst (v := (nI 0)) dL_share_1 rfl ?_
  refine Rn.aload_n dL_share_2 rfl rfl ?_
  refine Rn.iload_n dL_share_3 rfl rfl ?_
  refine Rn.iload_n dL_share_4 rfl rfl ?_
  refine Rn.callVx (b := 0) (mc := 1) (As := [_, _]) dL_share_5 mv_L_110 (by first | rfl | exact gC0 (by assumption) | exact gL0 (by assumption)) rfl rfl rfl (Nat.le_of_ble_eq_true rfl) (ct_X9_share G _ p0 p1) (fun E J h => ?_) (fun _ _ h => nomatch h.1)
  obtain ⟨h1, h2⟩ := h
  cases h1
  subst h2
  exact zcatch (x := (0, 10, 13, 24)) (hs := []) (i := 4) (n2 := 2) rfl wi_776 (by decide) (by decide) (Or.inr ⟨dL_share_13, rfl⟩) (by decide) dL_share_15 rfl dL_share_16 rfl ⟨rfl, rfl⟩
theorem ct_X9_led (p0 p1 : Int32) : Ct G GAM mX9_led (d + 1) 1 [.ref 0, .int p0, .int p1] I0 (Rx "java/lang/IndexOutOfBoundsException" I0) := by
  refine Ct.mk [some (.ref 0), some (.int p0), some (.int p1), none, none, none] ?_
  refine Rn.aload_n dX9_led_0 rfl rfl ?_
  refine Rn.iload_n dX9_led_1 rfl rfl ?_
  exact Rn.callVt (b := 0) (mc := 1) (As := [_]) dX9_led_2 mv_X9_137 (by first | rfl | exact gC0 (by assumption) | exact gL0 (by assumption)) rfl rfl rfl (Nat.le_of_ble_eq_true rfl) (ct_needWoman0 G _ _ i3_0 _) (fun _ _ h => h) (fun _ _ h => nomatch h.1)
theorem cw_led (p0 p1 : Int32) : CtW G GAM mL_led [(0, 10, 13, 24)] (d + 2) 1 [.ref 0, .int p0, .int p1, .ref 107] I0 (Rp (some (.int (nI 1))) I0) := by
  refine CtW.mk [some (.ref 0), some (.int p0), some (.int p1), some (.ref 107), none] ?_
  refine Rn.aload_n dL_led_0 rfl rfl ?_
  refine Rn.iconst (v := (nI 0)) dL_led_1 rfl ?_
  refine Rn.aload_n dL_led_2 rfl rfl ?_
  refine Rn.iload_n dL_led_3 rfl rfl ?_
  refine Rn.iload_n dL_led_4 rfl rfl ?_
  refine Rn.callVx (b := 0) (mc := 1) (As := [_, _]) dL_led_5 mv_L_120 (by first | rfl | exact gC0 (by assumption) | exact gL0 (by assumption)) rfl rfl rfl (Nat.le_of_ble_eq_true rfl) (ct_X9_led G _ p0 p1) (fun E J h => ?_) (fun _ _ h => nomatch h.1)
  obtain ⟨h1, h2⟩ := h
  cases h1
  subst h2
  exact zcatch (x := (0, 10, 13, 24)) (hs := []) (i := 4) (n2 := 2) rfl wi_776 (by decide) (by decide) (Or.inr ⟨dL_led_13, rfl⟩) (by decide) dL_led_15 rfl dL_led_16 rfl ⟨rfl, rfl⟩
theorem ct_X9_thing (p0 p1 : Int32) : Ct G GAM mX9_thing (d + 1) 1 [.ref 0, .int p0, .int p1] I0 (Rx "java/lang/IndexOutOfBoundsException" I0) := by
  refine Ct.mk [some (.ref 0), some (.int p0), some (.int p1)] ?_
  refine Rn.aload_n dX9_thing_0 rfl rfl ?_
  refine Rn.iload_n dX9_thing_1 rfl rfl ?_
  exact Rn.callVt (b := 0) (mc := 1) (As := [_]) dX9_thing_2 mv_X9_156 (by first | rfl | exact gC0 (by assumption) | exact gL0 (by assumption)) rfl rfl rfl (Nat.le_of_ble_eq_true rfl) (ct_needThing0 G _ _ i3_1 _) (fun _ _ h => h) (fun _ _ h => nomatch h.1)
theorem cw_thing (p0 p1 : Int32) : CtW G GAM mL_thing [(0, 10, 13, 24), (0, 10, 17, 26)] (d + 2) 1 [.ref 0, .int p0, .int p1, .ref 107] I0 (Rp (some (.int (nI 1))) I0) := by
  refine CtW.mk [some (.ref 0), some (.int p0), some (.int p1), some (.ref 107), none] ?_
  refine Rn.aload_n dL_thing_0 rfl rfl ?_
  refine Rn.iconst (v := (nI 0)) dL_thing_1 rfl ?_
  refine Rn.aload_n dL_thing_2 rfl rfl ?_
  refine Rn.iload_n dL_thing_3 rfl rfl ?_
  refine Rn.iload_n dL_thing_4 rfl rfl ?_
  refine Rn.callVx (b := 0) (mc := 1) (As := [_, _]) dL_thing_5 mv_L_28 (by first | rfl | exact gC0 (by assumption) | exact gL0 (by assumption)) rfl rfl rfl (Nat.le_of_ble_eq_true rfl) (ct_X9_thing G _ p0 p1) (fun E J h => ?_) (fun _ _ h => nomatch h.1)
  obtain ⟨h1, h2⟩ := h
  cases h1
  subst h2
  exact zcatch (x := (0, 10, 13, 24)) (hs := [(0, 10, 17, 26)]) (i := 4) (n2 := 2) rfl wi_776 (by decide) (by decide) (Or.inr ⟨dL_thing_13, rfl⟩) (by decide) dL_thing_15 rfl dL_thing_16 rfl ⟨rfl, rfl⟩
theorem ct_X9_lend (p0 p1 : Int32) : Ct G GAM mX9_lend (d + 1) 1 [.ref 0, .int p0, .int p1] I0 (Rx "java/lang/IndexOutOfBoundsException" I0) := by
  refine Ct.mk [some (.ref 0), some (.int p0), some (.int p1), none] ?_
  refine Rn.aload_n dX9_lend_0 rfl rfl ?_
  refine Rn.iload_n dX9_lend_1 rfl rfl ?_
  exact Rn.callVt (b := 0) (mc := 1) (As := [_]) dX9_lend_2 mv_X9_156 (by first | rfl | exact gC0 (by assumption) | exact gL0 (by assumption)) rfl rfl rfl (Nat.le_of_ble_eq_true rfl) (ct_needThing0 G _ _ i3_1 _) (fun _ _ h => h) (fun _ _ h => nomatch h.1)
theorem cw_lend (p0 p1 : Int32) : CtW G GAM mL_lend [(0, 10, 13, 24), (0, 10, 17, 13), (0, 10, 21, 41)] (d + 2) 1 [.ref 0, .int p0, .int p1, .ref 107] I0 (Rp (some (.int (nI 1))) I0) := by
  refine CtW.mk [some (.ref 0), some (.int p0), some (.int p1), some (.ref 107), none] ?_
  refine Rn.aload_n dL_lend_0 rfl rfl ?_
  refine Rn.iconst (v := (nI 0)) dL_lend_1 rfl ?_
  refine Rn.aload_n dL_lend_2 rfl rfl ?_
  refine Rn.iload_n dL_lend_3 rfl rfl ?_
  refine Rn.iload_n dL_lend_4 rfl rfl ?_
  refine Rn.callVx (b := 0) (mc := 1) (As := [_, _]) dL_lend_5 mv_L_38 (by first | rfl | exact gC0 (by assumption) | exact gL0 (by assumption)) rfl rfl rfl (Nat.le_of_ble_eq_true rfl) (ct_X9_lend G _ p0 p1) (fun E J h => ?_) (fun _ _ h => nomatch h.1)
  obtain ⟨h1, h2⟩ := h
  cases h1
  subst h2
  exact zcatch (x := (0, 10, 13, 24)) (hs := [(0, 10, 17, 13), (0, 10, 21, 41)]) (i := 4) (n2 := 2) rfl wi_776 (by decide) (by decide) (Or.inr ⟨dL_lend_13, rfl⟩) (by decide) dL_lend_15 rfl dL_lend_16 rfl ⟨rfl, rfl⟩
theorem ct_X9_pawn (p0 : Int32) : Ct G GAM mX9_pawn (d + 1) 1 [.ref 0, .int p0] I0 (Rx "java/lang/IndexOutOfBoundsException" I0) := by
  refine Ct.mk [some (.ref 0), some (.int p0), none, none] ?_
  refine Rn.aload_n dX9_pawn_0 rfl rfl ?_
  refine Rn.iload_n dX9_pawn_1 rfl rfl ?_
  exact Rn.callVt (b := 0) (mc := 1) (As := [_]) dX9_pawn_2 mv_X9_156 (by first | rfl | exact gC0 (by assumption) | exact gL0 (by assumption)) rfl rfl rfl (Nat.le_of_ble_eq_true rfl) (ct_needThing0 G _ _ i3_1 _) (fun _ _ h => h) (fun _ _ h => nomatch h.1)
theorem cw_pawn (p0 : Int32) : CtW G GAM mL_pawn [(0, 9, 12, 24), (0, 9, 15, 41)] (d + 2) 1 [.ref 0, .int p0, .ref 107] I0 (Rp (some (.int (nI 1))) I0) := by
  refine CtW.mk [some (.ref 0), some (.int p0), some (.ref 107), none] ?_
  refine Rn.aload_n dL_pawn_0 rfl rfl ?_
  refine Rn.iconst (v := (nI 0)) dL_pawn_1 rfl ?_
  refine Rn.aload_n dL_pawn_2 rfl rfl ?_
  refine Rn.iload_n dL_pawn_3 rfl rfl ?_
  refine Rn.callVx (b := 0) (mc := 1) (As := [_]) dL_pawn_4 mv_L_46 (by first | rfl | exact gC0 (by assumption) | exact gL0 (by assumption)) rfl rfl rfl (Nat.le_of_ble_eq_true rfl) (ct_X9_pawn G _ p0) (fun E J h => ?_) (fun _ _ h => nomatch h.1)
  obtain ⟨h1, h2⟩ := h
  cases h1
  subst h2
  exact zcatch (x := (0, 9, 12, 24)) (hs := [(0, 9, 15, 41)]) (i := 3) (n2 := 1) rfl wi_776 (by decide) (by decide) (Or.inl ⟨3, dL_pawn_12, rfl, rfl⟩) (by decide) dL_pawn_13 rfl dL_pawn_14 rfl ⟨rfl, rfl⟩
theorem ct_X9_redeem (p0 : Int32) : Ct G GAM mX9_redeem (d + 1) 1 [.ref 0, .int p0] I0 (Rx "java/lang/IndexOutOfBoundsException" I0) := by
  refine Ct.mk [some (.ref 0), some (.int p0), none, none] ?_
  refine Rn.aload_n dX9_redeem_0 rfl rfl ?_
  refine Rn.iload_n dX9_redeem_1 rfl rfl ?_
  exact Rn.callVt (b := 0) (mc := 1) (As := [_]) dX9_redeem_2 mv_X9_156 (by first | rfl | exact gC0 (by assumption) | exact gL0 (by assumption)) rfl rfl rfl (Nat.le_of_ble_eq_true rfl) (ct_needThing0 G _ _ i3_1 _) (fun _ _ h => h) (fun _ _ h => nomatch h.1)
theorem cw_redeem (p0 : Int32) : CtW G GAM mL_redeem [(0, 9, 12, 24), (0, 9, 15, 41)] (d + 2) 1 [.ref 0, .int p0, .ref 107] I0 (Rp (some (.int (nI 1))) I0) := by
  refine CtW.mk [some (.ref 0), some (.int p0), some (.ref 107), none] ?_
  refine Rn.aload_n dL_redeem_0 rfl rfl ?_
  refine Rn.iconst (v := (nI 0)) dL_redeem_1 rfl ?_
  refine Rn.aload_n dL_redeem_2 rfl rfl ?_
  refine Rn.iload_n dL_redeem_3 rfl rfl ?_
  refine Rn.callVx (b := 0) (mc := 1) (As := [_]) dL_redeem_4 mv_L_50 (by first | rfl | exact gC0 (by assumption) | exact gL0 (by assumption)) rfl rfl rfl (Nat.le_of_ble_eq_true rfl) (ct_X9_redeem G _ p0) (fun E J h => ?_) (fun _ _ h => nomatch h.1)
  obtain ⟨h1, h2⟩ := h
  cases h1
  subst h2
  exact zcatch (x := (0, 9, 12, 24)) (hs := [(0, 9, 15, 41)]) (i := 3) (n2 := 1) rfl wi_776 (by decide) (by decide) (Or.inl ⟨3, dL_redeem_12, rfl, rfl⟩) (by decide) dL_redeem_13 rfl dL_redeem_14 rfl ⟨rfl, rfl⟩
theorem ct_X9_cut (p0 : Int32) : Ct G GAM mX9_cut (d + 1) 1 [.ref 0, .int p0] I0 (Rx "java/lang/IndexOutOfBoundsException" I0) := by
  refine Ct.mk [some (.ref 0), some (.int p0), none] ?_
  refine Rn.aload_n dX9_cut_0 rfl rfl ?_
  refine Rn.iload_n dX9_cut_1 rfl rfl ?_
  exact Rn.callVt (b := 0) (mc := 1) (As := [_]) dX9_cut_2 mv_X9_156 (by first | rfl | exact gC0 (by assumption) | exact gL0 (by assumption)) rfl rfl rfl (Nat.le_of_ble_eq_true rfl) (ct_needThing0 G _ _ i3_1 _) (fun _ _ h => h) (fun _ _ h => nomatch h.1)
theorem cw_cut (p0 : Int32) : CtW G GAM mL_cut [(0, 9, 12, 24), (0, 9, 15, 41)] (d + 2) 1 [.ref 0, .int p0, .ref 107] I0 (Rp (some (.int (nI 1))) I0) := by
  refine CtW.mk [some (.ref 0), some (.int p0), some (.ref 107), none] ?_
  refine Rn.aload_n dL_cut_0 rfl rfl ?_
  refine Rn.iconst (v := (nI 0)) dL_cut_1 rfl ?_
  refine Rn.aload_n dL_cut_2 rfl rfl ?_
  refine Rn.iload_n dL_cut_3 rfl rfl ?_
  refine Rn.callVx (b := 0) (mc := 1) (As := [_]) dL_cut_4 mv_L_53 (by first | rfl | exact gC0 (by assumption) | exact gL0 (by assumption)) rfl rfl rfl (Nat.le_of_ble_eq_true rfl) (ct_X9_cut G _ p0) (fun E J h => ?_) (fun _ _ h => nomatch h.1)
  obtain ⟨h1, h2⟩ := h
  cases h1
  subst h2
  exact zcatch (x := (0, 9, 12, 24)) (hs := [(0, 9, 15, 41)]) (i := 3) (n2 := 1) rfl wi_776 (by decide) (by decide) (Or.inl ⟨3, dL_cut_12, rfl, rfl⟩) (by decide) dL_cut_13 rfl dL_cut_14 rfl ⟨rfl, rfl⟩
theorem ct_X9_order (p0 p1 p2 : Int32) : Ct G GAM mX9_order (d + 1) 1 [.ref 0, .int p0, .int p1, .int p2] I0 (Rx "java/lang/IndexOutOfBoundsException" I0) := by
  refine Ct.mk [some (.ref 0), some (.int p0), some (.int p1), some (.int p2), none] ?_
  refine Rn.aload_n dX9_order_0 rfl rfl ?_
  refine Rn.iload_n dX9_order_1 rfl rfl ?_
  exact Rn.callVt (b := 0) (mc := 1) (As := [_]) dX9_order_2 mv_X9_156 (by first | rfl | exact gC0 (by assumption) | exact gL0 (by assumption)) rfl rfl rfl (Nat.le_of_ble_eq_true rfl) (ct_needThing0 G _ _ i3_1 _) (fun _ _ h => h) (fun _ _ h => nomatch h.1)
theorem cw_order (p0 p1 p2 : Int32) : CtW G GAM mL_order [(0, 12, 15, 24), (0, 12, 19, 13)] (d + 2) 1 [.ref 0, .int p0, .int p1, .int p2, .ref 107] I0 (Rp (some (.int (nI 1))) I0) := by
  refine CtW.mk [some (.ref 0), some (.int p0), some (.int p1), some (.int p2), some (.ref 107), none] ?_
  refine Rn.aload dL_order_0 rfl ?_
  refine Rn.iconst (v := (nI 0)) dL_order_2 rfl ?_
  refine Rn.aload_n dL_order_3 rfl rfl ?_
  refine Rn.iload_n dL_order_4 rfl rfl ?_
  refine Rn.iload_n dL_order_5 rfl rfl ?_
  refine Rn.iload_n dL_order_6 rfl rfl ?_
  refine Rn.callVx (b := 0) (mc := 1) (As := [_, _, _]) dL_order_7 mv_L_66 (by first | rfl | exact gC0 (by assumption) | exact gL0 (by assumption)) rfl rfl rfl (Nat.le_of_ble_eq_true rfl) (ct_X9_order G _ p0 p1 p2) (fun E J h => ?_) (fun _ _ h => nomatch h.1)
  obtain ⟨h1, h2⟩ := h
  cases h1
  subst h2
  exact zcatch (x := (0, 12, 15, 24)) (hs := [(0, 12, 19, 13)]) (i := 5) (n2 := 2) rfl wi_776 (by decide) (by decide) (Or.inr ⟨dL_order_15, rfl⟩) (by decide) dL_order_17 rfl dL_order_18 rfl ⟨rfl, rfl⟩
theorem ct_X9_lowest (p0 p1 : Int32) : Ct G GAM mX9_lowest (d + 1) 1 [.ref 0, .int p0, .int p1] I0 (Rx "java/lang/IndexOutOfBoundsException" I0) := by
  refine Ct.mk [some (.ref 0), some (.int p0), some (.int p1)] ?_
  refine Rn.aload_n dX9_lowest_0 rfl rfl ?_
  refine Rn.iload_n dX9_lowest_1 rfl rfl ?_
  exact Rn.callVt (b := 0) (mc := 1) (As := [_]) dX9_lowest_2 mv_X9_156 (by first | rfl | exact gC0 (by assumption) | exact gL0 (by assumption)) rfl rfl rfl (Nat.le_of_ble_eq_true rfl) (ct_needThing0 G _ _ i3_1 _) (fun _ _ h => h) (fun _ _ h => nomatch h.1)
theorem cw_lowest (p0 p1 : Int32) : CtW G GAM mL_lowest [(0, 10, 13, 24), (0, 10, 17, 13)] (d + 2) 1 [.ref 0, .int p0, .int p1, .ref 107] I0 (Rp (some (.int (nI 1))) I0) := by
  refine CtW.mk [some (.ref 0), some (.int p0), some (.int p1), some (.ref 107), none] ?_
  refine Rn.aload_n dL_lowest_0 rfl rfl ?_
  refine Rn.iconst (v := (nI 0)) dL_lowest_1 rfl ?_
  refine Rn.aload_n dL_lowest_2 rfl rfl ?_
  refine Rn.iload_n dL_lowest_3 rfl rfl ?_
  refine Rn.iload_n dL_lowest_4 rfl rfl ?_
  refine Rn.callVx (b := 0) (mc := 1) (As := [_, _]) dL_lowest_5 mv_L_69 (by first | rfl | exact gC0 (by assumption) | exact gL0 (by assumption)) rfl rfl rfl (Nat.le_of_ble_eq_true rfl) (ct_X9_lowest G _ p0 p1) (fun E J h => ?_) (fun _ _ h => nomatch h.1)
  obtain ⟨h1, h2⟩ := h
  cases h1
  subst h2
  exact zcatch (x := (0, 10, 13, 24)) (hs := [(0, 10, 17, 13)]) (i := 4) (n2 := 2) rfl wi_776 (by decide) (by decide) (Or.inr ⟨dL_lowest_13, rfl⟩) (by decide) dL_lowest_15 rfl dL_lowest_16 rfl ⟨rfl, rfl⟩
theorem ct_X9_chain (p0 : Int32) : Ct G GAM mX9_chain (d + 1) 1 [.ref 0, .int p0] I0 (Rx "java/lang/IndexOutOfBoundsException" I0) := by
  refine Ct.mk [some (.ref 0), some (.int p0)] ?_
  refine Rn.aload_n dX9_chain_0 rfl rfl ?_
  refine Rn.iload_n dX9_chain_1 rfl rfl ?_
  exact Rn.callVt (b := 0) (mc := 1) (As := [_]) dX9_chain_2 mv_X9_156 (by first | rfl | exact gC0 (by assumption) | exact gL0 (by assumption)) rfl rfl rfl (Nat.le_of_ble_eq_true rfl) (ct_needThing0 G _ _ i3_1 _) (fun _ _ h => h) (fun _ _ h => nomatch h.1)
theorem cw_chain (p0 : Int32) : CtW G GAM mL_chain [(0, 9, 12, 24)] (d + 2) 1 [.ref 0, .int p0, .ref 107] I0 (Rp (some (.int (nI 1))) I0) := by
  refine CtW.mk [some (.ref 0), some (.int p0), some (.ref 107), none] ?_
  refine Rn.aload_n dL_chain_0 rfl rfl ?_
  refine Rn.iconst (v := (nI 0)) dL_chain_1 rfl ?_
  refine Rn.aload_n dL_chain_2 rfl rfl ?_
  refine Rn.iload_n dL_chain_3 rfl rfl ?_
  refine Rn.callVx (b := 0) (mc := 1) (As := [_]) dL_chain_4 mv_L_76 (by first | rfl | exact gC0 (by assumption) | exact gL0 (by assumption)) rfl rfl rfl (Nat.le_of_ble_eq_true rfl) (ct_X9_chain G _ p0) (fun E J h => ?_) (fun _ _ h => nomatch h.1)
  obtain ⟨h1, h2⟩ := h
  cases h1
  subst h2
  exact zcatch (x := (0, 9, 12, 24)) (hs := []) (i := 3) (n2 := 1) rfl wi_776 (by decide) (by decide) (Or.inl ⟨3, dL_chain_12, rfl, rfl⟩) (by decide) dL_chain_13 rfl dL_chain_14 rfl ⟨rfl, rfl⟩
theorem ct_X9_runs (p0 p1 : Int32) : Ct G GAM mX9_runs (d + 1) 1 [.ref 0, .int p0, .int p1] I0 (Rx "java/lang/IndexOutOfBoundsException" I0) := by
  refine Ct.mk [some (.ref 0), some (.int p0), some (.int p1), none] ?_
  refine Rn.aload_n dX9_runs_0 rfl rfl ?_
  refine Rn.iload_n dX9_runs_1 rfl rfl ?_
  exact Rn.callVt (b := 0) (mc := 1) (As := [_]) dX9_runs_2 mv_X9_156 (by first | rfl | exact gC0 (by assumption) | exact gL0 (by assumption)) rfl rfl rfl (Nat.le_of_ble_eq_true rfl) (ct_needThing0 G _ _ i3_1 _) (fun _ _ h => h) (fun _ _ h => nomatch h.1)
theorem cw_runs (p0 p1 : Int32) : CtW G GAM mL_runs [(0, 10, 13, 24), (0, 10, 17, 13)] (d + 2) 1 [.ref 0, .int p0, .int p1, .ref 107] I0 (Rp (some (.int (nI 1))) I0) := by
  refine CtW.mk [some (.ref 0), some (.int p0), some (.int p1), some (.ref 107), none] ?_
  refine Rn.aload_n dL_runs_0 rfl rfl ?_
  refine Rn.iconst (v := (nI 0)) dL_runs_1 rfl ?_
  refine Rn.aload_n dL_runs_2 rfl rfl ?_
  refine Rn.iload_n dL_runs_3 rfl rfl ?_
  refine Rn.iload_n dL_runs_4 rfl rfl ?_
  refine Rn.callVx (b := 0) (mc := 1) (As := [_, _]) dL_runs_5 mv_L_104 (by first | rfl | exact gC0 (by assumption) | exact gL0 (by assumption)) rfl rfl rfl (Nat.le_of_ble_eq_true rfl) (ct_X9_runs G _ p0 p1) (fun E J h => ?_) (fun _ _ h => nomatch h.1)
  obtain ⟨h1, h2⟩ := h
  cases h1
  subst h2
  exact zcatch (x := (0, 10, 13, 24)) (hs := [(0, 10, 17, 13)]) (i := 4) (n2 := 2) rfl wi_776 (by decide) (by decide) (Or.inr ⟨dL_runs_13, rfl⟩) (by decide) dL_runs_15 rfl dL_runs_16 rfl ⟨rfl, rfl⟩
theorem ct_X9_spent (p0 : Int32) : Ct G GAM mX9_spent (d + 1) 1 [.ref 0, .int p0] I0 (Rx "java/lang/IndexOutOfBoundsException" I0) := by
  refine Ct.mk [some (.ref 0), some (.int p0), none] ?_
  refine Rn.aload_n dX9_spent_0 rfl rfl ?_
  refine Rn.iload_n dX9_spent_1 rfl rfl ?_
  exact Rn.callVt (b := 0) (mc := 1) (As := [_]) dX9_spent_2 mv_X9_156 (by first | rfl | exact gC0 (by assumption) | exact gL0 (by assumption)) rfl rfl rfl (Nat.le_of_ble_eq_true rfl) (ct_needThing0 G _ _ i3_1 _) (fun _ _ h => h) (fun _ _ h => nomatch h.1)
theorem cw_spent (p0 : Int32) : CtW G GAM mL_spent [(0, 9, 12, 24)] (d + 2) 1 [.ref 0, .int p0, .ref 107] I0 (Rp (some (.int (nI 1))) I0) := by
  refine CtW.mk [some (.ref 0), some (.int p0), some (.ref 107), none] ?_
  refine Rn.aload_n dL_spent_0 rfl rfl ?_
  refine Rn.iconst (v := (nI 0)) dL_spent_1 rfl ?_
  refine Rn.aload_n dL_spent_2 rfl rfl ?_
  refine Rn.iload_n dL_spent_3 rfl rfl ?_
  refine Rn.callVx (b := 0) (mc := 1) (As := [_]) dL_spent_4 mv_L_107 (by first | rfl | exact gC0 (by assumption) | exact gL0 (by assumption)) rfl rfl rfl (Nat.le_of_ble_eq_true rfl) (ct_X9_spent G _ p0) (fun E J h => ?_) (fun _ _ h => nomatch h.1)
  obtain ⟨h1, h2⟩ := h
  cases h1
  subst h2
  exact zcatch (x := (0, 9, 12, 24)) (hs := []) (i := 3) (n2 := 1) rfl wi_776 (by decide) (by decide) (Or.inl ⟨3, dL_spent_12, rfl, rfl⟩) (by decide) dL_spent_13 rfl dL_spent_14 rfl ⟨rfl, rfl⟩
end Thr
