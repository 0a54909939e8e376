abbrev mX10_woman : Ym := (yX10_woman, cX10_woman, 3, some .int)
theorem dX10_woman_0 : decode cX10_woman 0 = .ok (.aload_n 0, 1) := by decide +kernel
theorem dX10_woman_1 : decode cX10_woman 1 = .ok (.iconst 0, 1) := by decide +kernel
theorem dX10_woman_2 : decode cX10_woman 2 = .ok (.putfield 3, 3) := by decide +kernel
theorem dX10_woman_5 : decode cX10_woman 5 = .ok (.aload_n 0, 1) := by decide +kernel
theorem dX10_woman_6 : decode cX10_woman 6 = .ok (.aload_n 0, 1) := by decide +kernel
theorem dX10_woman_7 : decode cX10_woman 7 = .ok (.iload_n 1, 1) := by decide +kernel
theorem dX10_woman_8 : decode cX10_woman 8 = .ok (.invokevirtual 275, 3) := by decide +kernel
theorem wi_1558 : Cond.methodLink RX10 275 yX10_noWoman ∈ WA := zin 1558 (by decide +kernel) (by decide +kernel)
theorem wi_1561 : Cond.code yX10_noWoman cX10_noWoman 2 (some .boolean) ∈ WA := zin 1561 (by decide +kernel) (by decide +kernel)
theorem wi_1560 : Cond.instanceMethod yX10_noWoman ∈ WA := zin 1560 (by decide +kernel) (by decide +kernel)
theorem wi_52 : Cond.selects RX10 yX10_noWoman yX10_noWoman ∈ WA := zin 52 (by decide +kernel) (by decide +kernel)
theorem mv_X10_275 : zMv RX10 275 RX10 mX10_noWoman 1 := ⟨⟨wi_1558, wi_110, wi_1561, by decide, by decide +kernel⟩, wi_1560, wi_52⟩
theorem dX10_woman_11 : decode cX10_woman 11 = .ok (.iconst 1, 1) := by decide +kernel
theorem dX10_woman_12 : decode cX10_woman 12 = .ok (.invokevirtual 241, 3) := by decide +kernel
theorem wi_1546 : Cond.methodLink RX10 241 yX10_throwsIf ∈ WA := zin 1546 (by decide +kernel) (by decide +kernel)
theorem wi_1549 : Cond.code yX10_throwsIf cX10_throwsIf 3 (some .boolean) ∈ WA := zin 1549 (by decide +kernel) (by decide +kernel)
theorem wi_1548 : Cond.instanceMethod yX10_throwsIf ∈ WA := zin 1548 (by decide +kernel) (by decide +kernel)
theorem wi_51 : Cond.selects RX10 yX10_throwsIf yX10_throwsIf ∈ WA := zin 51 (by decide +kernel) (by decide +kernel)
theorem mv_X10_241 : zMv RX10 241 RX10 mX10_throwsIf 2 := ⟨⟨wi_1546, wi_110, wi_1549, by decide, by decide +kernel⟩, wi_1548, wi_51⟩
theorem dX10_woman_15 : decode cX10_woman 15 = .ok (.ifCond .ne 26, 3) := by decide +kernel
theorem dX10_woman_41 : decode cX10_woman 41 = .ok (.iconst 0, 1) := by decide +kernel
theorem dX10_woman_42 : decode cX10_woman 42 = .ok (.ireturn, 1) := by decide +kernel
abbrev mX10_gain : Ym := (yX10_gain, cX10_gain, 3, some .int)
theorem dX10_gain_0 : decode cX10_gain 0 = .ok (.aload_n 0, 1) := by decide +kernel
theorem dX10_gain_1 : decode cX10_gain 1 = .ok (.iconst 0, 1) := by decide +kernel
theorem dX10_gain_2 : decode cX10_gain 2 = .ok (.putfield 3, 3) := by decide +kernel
theorem dX10_gain_5 : decode cX10_gain 5 = .ok (.aload_n 0, 1) := by decide +kernel
theorem dX10_gain_6 : decode cX10_gain 6 = .ok (.aload_n 0, 1) := by decide +kernel
theorem dX10_gain_7 : decode cX10_gain 7 = .ok (.iload_n 1, 1) := by decide +kernel
theorem dX10_gain_8 : decode cX10_gain 8 = .ok (.invokevirtual 275, 3) := by decide +kernel
theorem dX10_gain_11 : decode cX10_gain 11 = .ok (.ifCond .ne 11, 3) := by decide +kernel
theorem dX10_gain_22 : decode cX10_gain 22 = .ok (.iconst 1, 1) := by decide +kernel
theorem dX10_gain_23 : decode cX10_gain 23 = .ok (.goto 4, 3) := by decide +kernel
theorem dX10_gain_27 : decode cX10_gain 27 = .ok (.iconst 1, 1) := by decide +kernel
theorem dX10_gain_28 : decode cX10_gain 28 = .ok (.invokevirtual 241, 3) := by decide +kernel
theorem dX10_gain_31 : decode cX10_gain 31 = .ok (.ifCond .eq 7, 3) := by decide +kernel
theorem dX10_gain_34 : decode cX10_gain 34 = .ok (.iconst 0, 1) := by decide +kernel
theorem dX10_gain_35 : decode cX10_gain 35 = .ok (.goto 9, 3) := by decide +kernel
theorem dX10_gain_44 : decode cX10_gain 44 = .ok (.ireturn, 1) := by decide +kernel
abbrev mX10_flows : Ym := (yX10_flows, cX10_flows, 4, some .int)
theorem dX10_flows_0 : decode cX10_flows 0 = .ok (.aload_n 0, 1) := by decide +kernel
theorem dX10_flows_1 : decode cX10_flows 1 = .ok (.iconst 0, 1) := by decide +kernel
theorem dX10_flows_2 : decode cX10_flows 2 = .ok (.putfield 3, 3) := by decide +kernel
theorem dX10_flows_5 : decode cX10_flows 5 = .ok (.aload_n 0, 1) := by decide +kernel
theorem dX10_flows_6 : decode cX10_flows 6 = .ok (.aload_n 0, 1) := by decide +kernel
theorem dX10_flows_7 : decode cX10_flows 7 = .ok (.iload_n 1, 1) := by decide +kernel
theorem dX10_flows_8 : decode cX10_flows 8 = .ok (.invokevirtual 275, 3) := by decide +kernel
theorem dX10_flows_11 : decode cX10_flows 11 = .ok (.ifCond .ne 18, 3) := by decide +kernel
theorem dX10_flows_29 : decode cX10_flows 29 = .ok (.iconst 1, 1) := by decide +kernel
theorem dX10_flows_30 : decode cX10_flows 30 = .ok (.goto 4, 3) := by decide +kernel
theorem dX10_flows_34 : decode cX10_flows 34 = .ok (.iconst 1, 1) := by decide +kernel
theorem dX10_flows_35 : decode cX10_flows 35 = .ok (.invokevirtual 241, 3) := by decide +kernel
theorem dX10_flows_38 : decode cX10_flows 38 = .ok (.ifCond .eq 7, 3) := by decide +kernel
theorem dX10_flows_41 : decode cX10_flows 41 = .ok (.iconst 0, 1) := by decide +kernel
theorem dX10_flows_42 : decode cX10_flows 42 = .ok (.goto 10, 3) := by decide +kernel
theorem dX10_flows_52 : decode cX10_flows 52 = .ok (.ireturn, 1) := by decide +kernel
abbrev mX10_wed : Ym := (yX10_wed, cX10_wed, 4, some .int)
theorem dX10_wed_0 : decode cX10_wed 0 = .ok (.aload_n 0, 1) := by decide +kernel
theorem dX10_wed_1 : decode cX10_wed 1 = .ok (.iconst 0, 1) := by decide +kernel
theorem dX10_wed_2 : decode cX10_wed 2 = .ok (.putfield 3, 3) := by decide +kernel
theorem dX10_wed_5 : decode cX10_wed 5 = .ok (.aload_n 0, 1) := by decide +kernel
theorem dX10_wed_6 : decode cX10_wed 6 = .ok (.aload_n 0, 1) := by decide +kernel
theorem dX10_wed_7 : decode cX10_wed 7 = .ok (.iload_n 1, 1) := by decide +kernel
theorem dX10_wed_8 : decode cX10_wed 8 = .ok (.invokevirtual 275, 3) := by decide +kernel
theorem dX10_wed_11 : decode cX10_wed 11 = .ok (.ifCond .ne 11, 3) := by decide +kernel
theorem dX10_wed_22 : decode cX10_wed 22 = .ok (.iconst 1, 1) := by decide +kernel
theorem dX10_wed_23 : decode cX10_wed 23 = .ok (.goto 4, 3) := by decide +kernel
theorem dX10_wed_27 : decode cX10_wed 27 = .ok (.iconst 1, 1) := by decide +kernel
theorem dX10_wed_28 : decode cX10_wed 28 = .ok (.invokevirtual 241, 3) := by decide +kernel
theorem dX10_wed_31 : decode cX10_wed 31 = .ok (.ifCond .ne 26, 3) := by decide +kernel
theorem dX10_wed_57 : decode cX10_wed 57 = .ok (.iconst 0, 1) := by decide +kernel
theorem dX10_wed_58 : decode cX10_wed 58 = .ok (.ireturn, 1) := by decide +kernel
abbrev mX10_widow : Ym := (yX10_widow, cX10_widow, 4, some .boolean)
theorem dX10_widow_0 : decode cX10_widow 0 = .ok (.aload_n 0, 1) := by decide +kernel
theorem dX10_widow_1 : decode cX10_widow 1 = .ok (.iconst 0, 1) := by decide +kernel
theorem dX10_widow_2 : decode cX10_widow 2 = .ok (.putfield 3, 3) := by decide +kernel
theorem dX10_widow_5 : decode cX10_widow 5 = .ok (.aload_n 0, 1) := by decide +kernel
theorem dX10_widow_6 : decode cX10_widow 6 = .ok (.aload_n 0, 1) := by decide +kernel
theorem dX10_widow_7 : decode cX10_widow 7 = .ok (.iload_n 1, 1) := by decide +kernel
theorem dX10_widow_8 : decode cX10_widow 8 = .ok (.invokevirtual 275, 3) := by decide +kernel
theorem dX10_widow_11 : decode cX10_widow 11 = .ok (.iconst 1, 1) := by decide +kernel
theorem dX10_widow_12 : decode cX10_widow 12 = .ok (.invokevirtual 241, 3) := by decide +kernel
theorem dX10_widow_15 : decode cX10_widow 15 = .ok (.ifCond .eq 5, 3) := by decide +kernel
theorem dX10_widow_18 : decode cX10_widow 18 = .ok (.iconst 0, 1) := by decide +kernel
theorem dX10_widow_19 : decode cX10_widow 19 = .ok (.ireturn, 1) := by decide +kernel
abbrev mX10_best : Ym := (yX10_best, cX10_best, 4, some .int)
theorem dX10_best_0 : decode cX10_best 0 = .ok (.aload_n 0, 1) := by decide +kernel
theorem dX10_best_1 : decode cX10_best 1 = .ok (.iconst 0, 1) := by decide +kernel
theorem dX10_best_2 : decode cX10_best 2 = .ok (.putfield 3, 3) := by decide +kernel
theorem dX10_best_5 : decode cX10_best 5 = .ok (.aload_n 0, 1) := by decide +kernel
theorem dX10_best_6 : decode cX10_best 6 = .ok (.aload_n 0, 1) := by decide +kernel
theorem dX10_best_7 : decode cX10_best 7 = .ok (.iload_n 1, 1) := by decide +kernel
theorem dX10_best_8 : decode cX10_best 8 = .ok (.invokevirtual 275, 3) := by decide +kernel
theorem dX10_best_11 : decode cX10_best 11 = .ok (.iconst 1, 1) := by decide +kernel
theorem dX10_best_12 : decode cX10_best 12 = .ok (.invokevirtual 241, 3) := by decide +kernel
theorem dX10_best_15 : decode cX10_best 15 = .ok (.ifCond .eq 5, 3) := by decide +kernel
theorem dX10_best_18 : decode cX10_best 18 = .ok (.iconst 0, 1) := by decide +kernel
theorem dX10_best_19 : decode cX10_best 19 = .ok (.ireturn, 1) := by decide +kernel
abbrev mX10_reach : Ym := (yX10_reach, cX10_reach, 7, some .int)
theorem dX10_reach_0 : decode cX10_reach 0 = .ok (.aload_n 0, 1) := by decide +kernel
theorem dX10_reach_1 : decode cX10_reach 1 = .ok (.iconst 0, 1) := by decide +kernel
theorem dX10_reach_2 : decode cX10_reach 2 = .ok (.putfield 3, 3) := by decide +kernel
theorem dX10_reach_5 : decode cX10_reach 5 = .ok (.aload_n 0, 1) := by decide +kernel
theorem dX10_reach_6 : decode cX10_reach 6 = .ok (.aload_n 0, 1) := by decide +kernel
theorem dX10_reach_7 : decode cX10_reach 7 = .ok (.iload_n 1, 1) := by decide +kernel
theorem dX10_reach_8 : decode cX10_reach 8 = .ok (.invokevirtual 275, 3) := by decide +kernel
theorem dX10_reach_11 : decode cX10_reach 11 = .ok (.ifCond .ne 18, 3) := by decide +kernel
theorem dX10_reach_29 : decode cX10_reach 29 = .ok (.iconst 1, 1) := by decide +kernel
theorem dX10_reach_30 : decode cX10_reach 30 = .ok (.goto 4, 3) := by decide +kernel
theorem dX10_reach_34 : decode cX10_reach 34 = .ok (.iconst 1, 1) := by decide +kernel
theorem dX10_reach_35 : decode cX10_reach 35 = .ok (.invokevirtual 241, 3) := by decide +kernel
theorem dX10_reach_38 : decode cX10_reach 38 = .ok (.ifCond .ne 27, 3) := by decide +kernel
theorem dX10_reach_65 : decode cX10_reach 65 = .ok (.iconst 0, 1) := by decide +kernel
theorem dX10_reach_66 : decode cX10_reach 66 = .ok (.ireturn, 1) := by decide +kernel
abbrev mX10_since : Ym := (yX10_since, cX10_since, 5, some .int)
theorem dX10_since_0 : decode cX10_since 0 = .ok (.aload_n 0, 1) := by decide +kernel
theorem dX10_since_1 : decode cX10_since 1 = .ok (.iconst 0, 1) := by decide +kernel
theorem dX10_since_2 : decode cX10_since 2 = .ok (.putfield 3, 3) := by decide +kernel
theorem dX10_since_5 : decode cX10_since 5 = .ok (.aload_n 0, 1) := by decide +kernel
theorem dX10_since_6 : decode cX10_since 6 = .ok (.aload_n 0, 1) := by decide +kernel
theorem dX10_since_7 : decode cX10_since 7 = .ok (.iload_n 1, 1) := by decide +kernel
theorem dX10_since_8 : decode cX10_since 8 = .ok (.invokevirtual 275, 3) := by decide +kernel
theorem dX10_since_11 : decode cX10_since 11 = .ok (.ifCond .ne 11, 3) := by decide +kernel
theorem dX10_since_22 : decode cX10_since 22 = .ok (.iconst 1, 1) := by decide +kernel
theorem dX10_since_23 : decode cX10_since 23 = .ok (.goto 4, 3) := by decide +kernel
theorem dX10_since_27 : decode cX10_since 27 = .ok (.iconst 1, 1) := by decide +kernel
theorem dX10_since_28 : decode cX10_since 28 = .ok (.invokevirtual 241, 3) := by decide +kernel
theorem dX10_since_31 : decode cX10_since 31 = .ok (.ifCond .ne 21, 3) := by decide +kernel
theorem dX10_since_52 : decode cX10_since 52 = .ok (.iconst 0, 1) := by decide +kernel
theorem dX10_since_53 : decode cX10_since 53 = .ok (.ireturn, 1) := by decide +kernel
abbrev mX10_rests : Ym := (yX10_rests, cX10_rests, 8, some .int)
theorem dX10_rests_0 : decode cX10_rests 0 = .ok (.aload_n 0, 1) := by decide +kernel
theorem dX10_rests_1 : decode cX10_rests 1 = .ok (.iconst 0, 1) := by decide +kernel
theorem dX10_rests_2 : decode cX10_rests 2 = .ok (.putfield 3, 3) := by decide +kernel
theorem dX10_rests_5 : decode cX10_rests 5 = .ok (.aload_n 0, 1) := by decide +kernel
theorem dX10_rests_6 : decode cX10_rests 6 = .ok (.aload_n 0, 1) := by decide +kernel
theorem dX10_rests_7 : decode cX10_rests 7 = .ok (.iload_n 1, 1) := by decide +kernel
theorem dX10_rests_8 : decode cX10_rests 8 = .ok (.invokevirtual 275, 3) := by decide +kernel
theorem dX10_rests_11 : decode cX10_rests 11 = .ok (.ifCond .ne 19, 3) := by decide +kernel
theorem dX10_rests_30 : decode cX10_rests 30 = .ok (.iconst 1, 1) := by decide +kernel
theorem dX10_rests_31 : decode cX10_rests 31 = .ok (.goto 4, 3) := by decide +kernel
theorem dX10_rests_35 : decode cX10_rests 35 = .ok (.iconst 1, 1) := by decide +kernel
theorem dX10_rests_36 : decode cX10_rests 36 = .ok (.invokevirtual 241, 3) := by decide +kernel
theorem dX10_rests_39 : decode cX10_rests 39 = .ok (.ifCond .ne 21, 3) := by decide +kernel
theorem dX10_rests_60 : decode cX10_rests 60 = .ok (.iconst 0, 1) := by decide +kernel
theorem dX10_rests_61 : decode cX10_rests 61 = .ok (.ireturn, 1) := by decide +kernel
abbrev mX10_ring : Ym := (yX10_ring, cX10_ring, 4, some .boolean)
theorem dX10_ring_0 : decode cX10_ring 0 = .ok (.aload_n 0, 1) := by decide +kernel
theorem dX10_ring_1 : decode cX10_ring 1 = .ok (.iconst 0, 1) := by decide +kernel
theorem dX10_ring_2 : decode cX10_ring 2 = .ok (.putfield 3, 3) := by decide +kernel
theorem dX10_ring_5 : decode cX10_ring 5 = .ok (.aload_n 0, 1) := by decide +kernel
theorem dX10_ring_6 : decode cX10_ring 6 = .ok (.aload_n 0, 1) := by decide +kernel
theorem dX10_ring_7 : decode cX10_ring 7 = .ok (.iload_n 1, 1) := by decide +kernel
theorem dX10_ring_8 : decode cX10_ring 8 = .ok (.invokevirtual 275, 3) := by decide +kernel
theorem dX10_ring_11 : decode cX10_ring 11 = .ok (.iconst 1, 1) := by decide +kernel
theorem dX10_ring_12 : decode cX10_ring 12 = .ok (.invokevirtual 241, 3) := by decide +kernel
theorem dX10_ring_15 : decode cX10_ring 15 = .ok (.ifCond .eq 5, 3) := by decide +kernel
theorem dX10_ring_18 : decode cX10_ring 18 = .ok (.iconst 0, 1) := by decide +kernel
theorem dX10_ring_19 : decode cX10_ring 19 = .ok (.ireturn, 1) := by decide +kernel
abbrev mX10_share : Ym := (yX10_share, cX10_share, 5, some .int)
theorem dX10_share_0 : decode cX10_share 0 = .ok (.aload_n 0, 1) := by decide +kernel
theorem dX10_share_1 : decode cX10_share 1 = .ok (.iconst 0, 1) := by decide +kernel
theorem dX10_share_2 : decode cX10_share 2 = .ok (.putfield 3, 3) := by decide +kernel
theorem dX10_share_5 : decode cX10_share 5 = .ok (.aload_n 0, 1) := by decide +kernel
theorem dX10_share_6 : decode cX10_share 6 = .ok (.aload_n 0, 1) := by decide +kernel
theorem dX10_share_7 : decode cX10_share 7 = .ok (.iload_n 1, 1) := by decide +kernel
theorem dX10_share_8 : decode cX10_share 8 = .ok (.invokevirtual 275, 3) := by decide +kernel
theorem dX10_share_11 : decode cX10_share 11 = .ok (.ifCond .ne 10, 3) := by decide +kernel
theorem dX10_share_21 : decode cX10_share 21 = .ok (.iconst 1, 1) := by decide +kernel
theorem dX10_share_22 : decode cX10_share 22 = .ok (.goto 4, 3) := by decide +kernel
theorem dX10_share_26 : decode cX10_share 26 = .ok (.iconst 1, 1) := by decide +kernel
theorem dX10_share_27 : decode cX10_share 27 = .ok (.invokevirtual 241, 3) := by decide +kernel
theorem dX10_share_30 : decode cX10_share 30 = .ok (.ifCond .eq 5, 3) := by decide +kernel
theorem dX10_share_33 : decode cX10_share 33 = .ok (.iconst 0, 1) := by decide +kernel
theorem dX10_share_34 : decode cX10_share 34 = .ok (.ireturn, 1) := by decide +kernel
abbrev mX10_led : Ym := (yX10_led, cX10_led, 6, some .int)
theorem dX10_led_0 : decode cX10_led 0 = .ok (.aload_n 0, 1) := by decide +kernel
theorem dX10_led_1 : decode cX10_led 1 = .ok (.iconst 0, 1) := by decide +kernel
theorem dX10_led_2 : decode cX10_led 2 = .ok (.putfield 3, 3) := by decide +kernel
theorem dX10_led_5 : decode cX10_led 5 = .ok (.aload_n 0, 1) := by decide +kernel
theorem dX10_led_6 : decode cX10_led 6 = .ok (.aload_n 0, 1) := by decide +kernel
theorem dX10_led_7 : decode cX10_led 7 = .ok (.iload_n 1, 1) := by decide +kernel
theorem dX10_led_8 : decode cX10_led 8 = .ok (.invokevirtual 275, 3) := by decide +kernel
theorem dX10_led_11 : decode cX10_led 11 = .ok (.iconst 1, 1) := by decide +kernel
theorem dX10_led_12 : decode cX10_led 12 = .ok (.invokevirtual 241, 3) := by decide +kernel
theorem dX10_led_15 : decode cX10_led 15 = .ok (.ifCond .eq 5, 3) := by decide +kernel
theorem dX10_led_18 : decode cX10_led 18 = .ok (.iconst 0, 1) := by decide +kernel
theorem dX10_led_19 : decode cX10_led 19 = .ok (.ireturn, 1) := by decide +kernel
abbrev mX10_thing : Ym := (yX10_thing, cX10_thing, 3, some .int)
theorem dX10_thing_0 : decode cX10_thing 0 = .ok (.aload_n 0, 1) := by decide +kernel
theorem dX10_thing_1 : decode cX10_thing 1 = .ok (.iconst 0, 1) := by decide +kernel
theorem dX10_thing_2 : decode cX10_thing 2 = .ok (.putfield 3, 3) := by decide +kernel
theorem dX10_thing_5 : decode cX10_thing 5 = .ok (.aload_n 0, 1) := by decide +kernel
theorem dX10_thing_6 : decode cX10_thing 6 = .ok (.aload_n 0, 1) := by decide +kernel
theorem dX10_thing_7 : decode cX10_thing 7 = .ok (.iload_n 1, 1) := by decide +kernel
theorem dX10_thing_8 : decode cX10_thing 8 = .ok (.invokevirtual 284, 3) := by decide +kernel
theorem wi_1585 : Cond.methodLink RX10 284 yX10_noThing ∈ WA := zin 1585 (by decide +kernel) (by decide +kernel)
theorem wi_1588 : Cond.code yX10_noThing cX10_noThing 2 (some .boolean) ∈ WA := zin 1588 (by decide +kernel) (by decide +kernel)
theorem wi_1587 : Cond.instanceMethod yX10_noThing ∈ WA := zin 1587 (by decide +kernel) (by decide +kernel)
theorem wi_57 : Cond.selects RX10 yX10_noThing yX10_noThing ∈ WA := zin 57 (by decide +kernel) (by decide +kernel)
theorem mv_X10_284 : zMv RX10 284 RX10 mX10_noThing 1 := ⟨⟨wi_1585, wi_110, wi_1588, by decide, by decide +kernel⟩, wi_1587, wi_57⟩
theorem dX10_thing_11 : decode cX10_thing 11 = .ok (.iconst 1, 1) := by decide +kernel
theorem dX10_thing_12 : decode cX10_thing 12 = .ok (.invokevirtual 241, 3) := by decide +kernel
theorem dX10_thing_15 : decode cX10_thing 15 = .ok (.ifCond .ne 26, 3) := by decide +kernel
theorem dX10_thing_41 : decode cX10_thing 41 = .ok (.iconst 0, 1) := by decide +kernel
theorem dX10_thing_42 : decode cX10_thing 42 = .ok (.ireturn, 1) := by decide +kernel
abbrev mX10_lend : Ym := (yX10_lend, cX10_lend, 4, some .int)
theorem dX10_lend_0 : decode cX10_lend 0 = .ok (.aload_n 0, 1) := by decide +kernel
theorem dX10_lend_1 : decode cX10_lend 1 = .ok (.iconst 0, 1) := by decide +kernel
theorem dX10_lend_2 : decode cX10_lend 2 = .ok (.putfield 3, 3) := by decide +kernel
theorem dX10_lend_5 : decode cX10_lend 5 = .ok (.aload_n 0, 1) := by decide +kernel
theorem dX10_lend_6 : decode cX10_lend 6 = .ok (.aload_n 0, 1) := by decide +kernel
theorem dX10_lend_7 : decode cX10_lend 7 = .ok (.iload_n 1, 1) := by decide +kernel
theorem dX10_lend_8 : decode cX10_lend 8 = .ok (.invokevirtual 284, 3) := by decide +kernel
theorem dX10_lend_11 : decode cX10_lend 11 = .ok (.ifCond .ne 11, 3) := by decide +kernel
theorem dX10_lend_22 : decode cX10_lend 22 = .ok (.iconst 1, 1) := by decide +kernel
theorem dX10_lend_23 : decode cX10_lend 23 = .ok (.goto 4, 3) := by decide +kernel
theorem dX10_lend_27 : decode cX10_lend 27 = .ok (.iconst 1, 1) := by decide +kernel
theorem dX10_lend_28 : decode cX10_lend 28 = .ok (.invokevirtual 241, 3) := by decide +kernel
theorem dX10_lend_31 : decode cX10_lend 31 = .ok (.ifCond .ne 40, 3) := by decide +kernel
theorem dX10_lend_71 : decode cX10_lend 71 = .ok (.iconst 0, 1) := by decide +kernel
theorem dX10_lend_72 : decode cX10_lend 72 = .ok (.ireturn, 1) := by decide +kernel
abbrev mX10_pawn : Ym := (yX10_pawn, cX10_pawn, 3, some .int)
theorem dX10_pawn_0 : decode cX10_pawn 0 = .ok (.aload_n 0, 1) := by decide +kernel
theorem dX10_pawn_1 : decode cX10_pawn 1 = .ok (.iconst 0, 1) := by decide +kernel
theorem dX10_pawn_2 : decode cX10_pawn 2 = .ok (.putfield 3, 3) := by decide +kernel
theorem dX10_pawn_5 : decode cX10_pawn 5 = .ok (.aload_n 0, 1) := by decide +kernel
theorem dX10_pawn_6 : decode cX10_pawn 6 = .ok (.aload_n 0, 1) := by decide +kernel
theorem dX10_pawn_7 : decode cX10_pawn 7 = .ok (.iload_n 1, 1) := by decide +kernel
theorem dX10_pawn_8 : decode cX10_pawn 8 = .ok (.invokevirtual 284, 3) := by decide +kernel
theorem dX10_pawn_11 : decode cX10_pawn 11 = .ok (.iconst 1, 1) := by decide +kernel
theorem dX10_pawn_12 : decode cX10_pawn 12 = .ok (.invokevirtual 241, 3) := by decide +kernel
theorem dX10_pawn_15 : decode cX10_pawn 15 = .ok (.ifCond .eq 5, 3) := by decide +kernel
theorem dX10_pawn_18 : decode cX10_pawn 18 = .ok (.iconst 0, 1) := by decide +kernel
theorem dX10_pawn_19 : decode cX10_pawn 19 = .ok (.ireturn, 1) := by decide +kernel
abbrev mX10_redeem : Ym := (yX10_redeem, cX10_redeem, 3, some .int)
theorem dX10_redeem_0 : decode cX10_redeem 0 = .ok (.aload_n 0, 1) := by decide +kernel
theorem dX10_redeem_1 : decode cX10_redeem 1 = .ok (.iconst 0, 1) := by decide +kernel
theorem dX10_redeem_2 : decode cX10_redeem 2 = .ok (.putfield 3, 3) := by decide +kernel
theorem dX10_redeem_5 : decode cX10_redeem 5 = .ok (.aload_n 0, 1) := by decide +kernel
theorem dX10_redeem_6 : decode cX10_redeem 6 = .ok (.aload_n 0, 1) := by decide +kernel
theorem dX10_redeem_7 : decode cX10_redeem 7 = .ok (.iload_n 1, 1) := by decide +kernel
theorem dX10_redeem_8 : decode cX10_redeem 8 = .ok (.invokevirtual 284, 3) := by decide +kernel
theorem dX10_redeem_11 : decode cX10_redeem 11 = .ok (.iconst 1, 1) := by decide +kernel
theorem dX10_redeem_12 : decode cX10_redeem 12 = .ok (.invokevirtual 241, 3) := by decide +kernel
theorem dX10_redeem_15 : decode cX10_redeem 15 = .ok (.ifCond .eq 5, 3) := by decide +kernel
theorem dX10_redeem_18 : decode cX10_redeem 18 = .ok (.iconst 0, 1) := by decide +kernel
theorem dX10_redeem_19 : decode cX10_redeem 19 = .ok (.ireturn, 1) := by decide +kernel
abbrev mX10_cut : Ym := (yX10_cut, cX10_cut, 3, some .int)
theorem dX10_cut_0 : decode cX10_cut 0 = .ok (.aload_n 0, 1) := by decide +kernel
theorem dX10_cut_1 : decode cX10_cut 1 = .ok (.iconst 0, 1) := by decide +kernel
theorem dX10_cut_2 : decode cX10_cut 2 = .ok (.putfield 3, 3) := by decide +kernel
theorem dX10_cut_5 : decode cX10_cut 5 = .ok (.aload_n 0, 1) := by decide +kernel
theorem dX10_cut_6 : decode cX10_cut 6 = .ok (.aload_n 0, 1) := by decide +kernel
theorem dX10_cut_7 : decode cX10_cut 7 = .ok (.iload_n 1, 1) := by decide +kernel
theorem dX10_cut_8 : decode cX10_cut 8 = .ok (.invokevirtual 284, 3) := by decide +kernel
theorem dX10_cut_11 : decode cX10_cut 11 = .ok (.iconst 1, 1) := by decide +kernel
theorem dX10_cut_12 : decode cX10_cut 12 = .ok (.invokevirtual 241, 3) := by decide +kernel
theorem dX10_cut_15 : decode cX10_cut 15 = .ok (.ifCond .ne 24, 3) := by decide +kernel
theorem dX10_cut_39 : decode cX10_cut 39 = .ok (.iconst 0, 1) := by decide +kernel
theorem dX10_cut_40 : decode cX10_cut 40 = .ok (.ireturn, 1) := by decide +kernel
abbrev mX10_order : Ym := (yX10_order, cX10_order, 10, some .int)
theorem dX10_order_0 : decode cX10_order 0 = .ok (.aload_n 0, 1) := by decide +kernel
theorem dX10_order_1 : decode cX10_order 1 = .ok (.iconst 0, 1) := by decide +kernel
theorem dX10_order_2 : decode cX10_order 2 = .ok (.putfield 3, 3) := by decide +kernel
theorem dX10_order_5 : decode cX10_order 5 = .ok (.iload_n 2, 1) := by decide +kernel
theorem dX10_order_6 : decode cX10_order 6 = .ok (.aload_n 0, 1) := by decide +kernel
theorem dX10_order_7 : decode cX10_order 7 = .ok (.invokevirtual 362, 3) := by decide +kernel
theorem wi_1731 : Cond.methodLink RX10 362 yX10_allWomen ∈ WA := zin 1731 (by decide +kernel) (by decide +kernel)
theorem wi_1734 : Cond.code yX10_allWomen cX10_allWomen 1 (some .int) ∈ WA := zin 1734 (by decide +kernel) (by decide +kernel)
theorem wi_1733 : Cond.instanceMethod yX10_allWomen ∈ WA := zin 1733 (by decide +kernel) (by decide +kernel)
theorem wi_81 : Cond.selects RX10 yX10_allWomen yX10_allWomen ∈ WA := zin 81 (by decide +kernel) (by decide +kernel)
theorem mv_X10_362 : zMv RX10 362 RX10 mX10_allWomen 0 := ⟨⟨wi_1731, wi_110, wi_1734, by decide, by decide +kernel⟩, wi_1733, wi_81⟩
theorem dX10_order_10 : decode cX10_order 10 = .ok (.iand, 1) := by decide +kernel
theorem dX10_order_11 : decode cX10_order 11 = .ok (.istore 4, 2) := by decide +kernel
theorem dX10_order_13 : decode cX10_order 13 = .ok (.iload 4, 2) := by decide +kernel
theorem dX10_order_15 : decode cX10_order 15 = .ok (.invokestatic 342, 3) := by decide +kernel
theorem wi_1735 : Cond.methodLink RX10 342 yJ6_bitCount_0f7a4 ∈ WA := zin 1735 (by decide +kernel) (by decide +kernel)
theorem wi_125 : Cond.initialized RJ6 ∈ WA := zin 125 (by decide +kernel) (by decide +kernel)
theorem wi_1121 : Cond.code yJ6_bitCount_0f7a4 cJ6_bitCount_0f7a4 1 (some .int) ∈ WA := zin 1121 (by decide +kernel) (by decide +kernel)
theorem wi_1120 : Cond.static yJ6_bitCount_0f7a4 ∈ WA := zin 1120 (by decide +kernel) (by decide +kernel)
theorem ms_X10_342 : zMs RX10 342 mJ6_bitCount_0f7a4 1 := ⟨⟨wi_1735, wi_125, wi_1121, by decide, by decide +kernel⟩, wi_1120⟩
theorem dX10_order_18 : decode cX10_order 18 = .ok (.istore 5, 2) := by decide +kernel
theorem dX10_order_20 : decode cX10_order 20 = .ok (.aload_n 0, 1) := by decide +kernel
theorem dX10_order_21 : decode cX10_order 21 = .ok (.aload_n 0, 1) := by decide +kernel
theorem dX10_order_22 : decode cX10_order 22 = .ok (.iload_n 1, 1) := by decide +kernel
theorem dX10_order_23 : decode cX10_order 23 = .ok (.invokevirtual 284, 3) := by decide +kernel
theorem dX10_order_26 : decode cX10_order 26 = .ok (.iconst 1, 1) := by decide +kernel
theorem dX10_order_27 : decode cX10_order 27 = .ok (.invokevirtual 241, 3) := by decide +kernel
theorem dX10_order_30 : decode cX10_order 30 = .ok (.ifCond .ne 22, 3) := by decide +kernel
theorem dX10_order_52 : decode cX10_order 52 = .ok (.iconst 0, 1) := by decide +kernel
theorem dX10_order_53 : decode cX10_order 53 = .ok (.ireturn, 1) := by decide +kernel
abbrev mX10_lowest : Ym := (yX10_lowest, cX10_lowest, 7, some .int)
theorem dX10_lowest_0 : decode cX10_lowest 0 = .ok (.aload_n 0, 1) := by decide +kernel
theorem dX10_lowest_1 : decode cX10_lowest 1 = .ok (.iconst 0, 1) := by decide +kernel
theorem dX10_lowest_2 : decode cX10_lowest 2 = .ok (.putfield 3, 3) := by decide +kernel
theorem dX10_lowest_5 : decode cX10_lowest 5 = .ok (.iload_n 2, 1) := by decide +kernel
theorem dX10_lowest_6 : decode cX10_lowest 6 = .ok (.aload_n 0, 1) := by decide +kernel
theorem dX10_lowest_7 : decode cX10_lowest 7 = .ok (.invokevirtual 362, 3) := by decide +kernel
theorem dX10_lowest_10 : decode cX10_lowest 10 = .ok (.iand, 1) := by decide +kernel
theorem dX10_lowest_11 : decode cX10_lowest 11 = .ok (.istore_n 3, 1) := by decide +kernel
theorem dX10_lowest_12 : decode cX10_lowest 12 = .ok (.iload_n 3, 1) := by decide +kernel
theorem dX10_lowest_13 : decode cX10_lowest 13 = .ok (.invokestatic 342, 3) := by decide +kernel
theorem dX10_lowest_16 : decode cX10_lowest 16 = .ok (.istore 4, 2) := by decide +kernel
theorem dX10_lowest_18 : decode cX10_lowest 18 = .ok (.aload_n 0, 1) := by decide +kernel
theorem dX10_lowest_19 : decode cX10_lowest 19 = .ok (.aload_n 0, 1) := by decide +kernel
theorem dX10_lowest_20 : decode cX10_lowest 20 = .ok (.iload_n 1, 1) := by decide +kernel
theorem dX10_lowest_21 : decode cX10_lowest 21 = .ok (.invokevirtual 284, 3) := by decide +kernel
theorem dX10_lowest_24 : decode cX10_lowest 24 = .ok (.iconst 1, 1) := by decide +kernel
theorem dX10_lowest_25 : decode cX10_lowest 25 = .ok (.invokevirtual 241, 3) := by decide +kernel
theorem dX10_lowest_28 : decode cX10_lowest 28 = .ok (.ifCond .ne 22, 3) := by decide +kernel
theorem dX10_lowest_50 : decode cX10_lowest 50 = .ok (.iconst 0, 1) := by decide +kernel
theorem dX10_lowest_51 : decode cX10_lowest 51 = .ok (.ireturn, 1) := by decide +kernel
abbrev mX10_chain : Ym := (yX10_chain, cX10_chain, 2, some .int)
theorem dX10_chain_0 : decode cX10_chain 0 = .ok (.aload_n 0, 1) := by decide +kernel
theorem dX10_chain_1 : decode cX10_chain 1 = .ok (.iconst 0, 1) := by decide +kernel
theorem dX10_chain_2 : decode cX10_chain 2 = .ok (.putfield 3, 3) := by decide +kernel
theorem dX10_chain_5 : decode cX10_chain 5 = .ok (.aload_n 0, 1) := by decide +kernel
theorem dX10_chain_6 : decode cX10_chain 6 = .ok (.aload_n 0, 1) := by decide +kernel
theorem dX10_chain_7 : decode cX10_chain 7 = .ok (.iload_n 1, 1) := by decide +kernel
theorem dX10_chain_8 : decode cX10_chain 8 = .ok (.invokevirtual 284, 3) := by decide +kernel
theorem dX10_chain_11 : decode cX10_chain 11 = .ok (.iconst 1, 1) := by decide +kernel
theorem dX10_chain_12 : decode cX10_chain 12 = .ok (.invokevirtual 241, 3) := by decide +kernel
theorem dX10_chain_15 : decode cX10_chain 15 = .ok (.ifCond .eq 7, 3) := by decide +kernel
theorem dX10_chain_18 : decode cX10_chain 18 = .ok (.iconst 0, 1) := by decide +kernel
theorem dX10_chain_19 : decode cX10_chain 19 = .ok (.goto 8, 3) := by decide +kernel
theorem dX10_chain_27 : decode cX10_chain 27 = .ok (.ireturn, 1) := by decide +kernel
abbrev mX10_runs : Ym := (yX10_runs, cX10_runs, 4, some .int)
theorem dX10_runs_0 : decode cX10_runs 0 = .ok (.aload_n 0, 1) := by decide +kernel
theorem dX10_runs_1 : decode cX10_runs 1 = .ok (.iconst 0, 1) := by decide +kernel
theorem dX10_runs_2 : decode cX10_runs 2 = .ok (.putfield 3, 3) := by decide +kernel
theorem dX10_runs_5 : decode cX10_runs 5 = .ok (.aload_n 0, 1) := by decide +kernel
theorem dX10_runs_6 : decode cX10_runs 6 = .ok (.aload_n 0, 1) := by decide +kernel
theorem dX10_runs_7 : decode cX10_runs 7 = .ok (.iload_n 1, 1) := by decide +kernel
theorem dX10_runs_8 : decode cX10_runs 8 = .ok (.invokevirtual 284, 3) := by decide +kernel
theorem dX10_runs_11 : decode cX10_runs 11 = .ok (.iconst 1, 1) := by decide +kernel
theorem dX10_runs_12 : decode cX10_runs 12 = .ok (.invokevirtual 241, 3) := by decide +kernel
theorem dX10_runs_15 : decode cX10_runs 15 = .ok (.ifCond .ne 26, 3) := by decide +kernel
theorem dX10_runs_41 : decode cX10_runs 41 = .ok (.iconst 0, 1) := by decide +kernel
theorem dX10_runs_42 : decode cX10_runs 42 = .ok (.ireturn, 1) := by decide +kernel
abbrev mX10_spent : Ym := (yX10_spent, cX10_spent, 4, some .int)
theorem dX10_spent_0 : decode cX10_spent 0 = .ok (.aload_n 0, 1) := by decide +kernel
theorem dX10_spent_1 : decode cX10_spent 1 = .ok (.iconst 0, 1) := by decide +kernel
theorem dX10_spent_2 : decode cX10_spent 2 = .ok (.putfield 3, 3) := by decide +kernel
theorem dX10_spent_5 : decode cX10_spent 5 = .ok (.aload_n 0, 1) := by decide +kernel
theorem dX10_spent_6 : decode cX10_spent 6 = .ok (.aload_n 0, 1) := by decide +kernel
theorem dX10_spent_7 : decode cX10_spent 7 = .ok (.iload_n 1, 1) := by decide +kernel
theorem dX10_spent_8 : decode cX10_spent 8 = .ok (.invokevirtual 284, 3) := by decide +kernel
theorem dX10_spent_11 : decode cX10_spent 11 = .ok (.iconst 1, 1) := by decide +kernel
theorem dX10_spent_12 : decode cX10_spent 12 = .ok (.invokevirtual 241, 3) := by decide +kernel
theorem dX10_spent_15 : decode cX10_spent 15 = .ok (.ifCond .eq 5, 3) := by decide +kernel
theorem dX10_spent_18 : decode cX10_spent 18 = .ok (.iconst 0, 1) := by decide +kernel
theorem dX10_spent_19 : decode cX10_spent 19 = .ok (.ireturn, 1) := by decide +kernel
section Thr
variable (G : Gx) (d : Nat) (I : Hi)
theorem ct_X10_woman (h0 : I 95 0 = nI 0) (h1 : I 95 1 = nI 0) (p0 p1 : Int32) : Ct G GAM mX10_woman (d + 2) 0 [.ref 94, .int p0, .int p1] I (Rp (some (.int (nI 0))) (zup (zup I 94 0 (nI 0)) 94 0 (nI 1))) := by
  refine Ct.mk [some (.ref 94), some (.int p0), some (.int p1)] ?_
  refine Rn.aload_n dX10_woman_0 rfl rfl ?_
  refine Rn.iconst (v := (nI 0)) dX10_woman_1 rfl ?_
  refine Rn.putI dX10_woman_2 fp_X10_3_9 (by first | rfl | exact gC0 (by assumption) | exact gL0 (by assumption)) rfl ?_
  refine Rn.aload_n dX10_woman_5 rfl rfl ?_
  refine Rn.aload_n dX10_woman_6 rfl rfl ?_
  refine Rn.iload_n dX10_woman_7 rfl rfl ?_
  refine Rn.callVp (As := [_]) dX10_woman_8 mv_X10_275 (by first | rfl | exact gC0 (by assumption) | exact gL0 (by assumption)) rfl rfl rfl (Nat.le_of_ble_eq_true rfl) (ct_noWoman0 G _ _ (by exact h0) _) ?_
  refine Rn.iconst (v := (nI 1)) dX10_woman_11 rfl ?_
  refine Rn.callVp (As := [_, _]) dX10_woman_12 mv_X10_241 (by first | rfl | exact gC0 (by assumption) | exact gL0 (by assumption)) rfl rfl rfl (Nat.le_of_ble_eq_true rfl) (ct_throws1 G _ _ _) ?_
  refine Rn.if_ne (tgt := 41) dX10_woman_15 (by decide) (fun _ => ?_) (fun h9 => absurd h9 (by decide))
  refine Rn.iconst (v := (nI 0)) dX10_woman_41 rfl ?_
  exact Rn.iret dX10_woman_42 rfl (⟨rfl, rfl⟩)
theorem ct_X10_gain (h0 : I 95 0 = nI 0) (h1 : I 95 1 = nI 0) (p0 p1 : Int32) : Ct G GAM mX10_gain (d + 2) 0 [.ref 94, .int p0, .int p1] I (Rp (some (.int (nI 0))) (zup (zup I 94 0 (nI 0)) 94 0 (nI 1))) := by
  refine Ct.mk [some (.ref 94), some (.int p0), some (.int p1)] ?_
  refine Rn.aload_n dX10_gain_0 rfl rfl ?_
  refine Rn.iconst (v := (nI 0)) dX10_gain_1 rfl ?_
  refine Rn.putI dX10_gain_2 fp_X10_3_9 (by first | rfl | exact gC0 (by assumption) | exact gL0 (by assumption)) rfl ?_
  refine Rn.aload_n dX10_gain_5 rfl rfl ?_
  refine Rn.aload_n dX10_gain_6 rfl rfl ?_
  refine Rn.iload_n dX10_gain_7 rfl rfl ?_
  refine Rn.callVp (As := [_]) dX10_gain_8 mv_X10_275 (by first | rfl | exact gC0 (by assumption) | exact gL0 (by assumption)) rfl rfl rfl (Nat.le_of_ble_eq_true rfl) (ct_noWoman0 G _ _ (by exact h0) _) ?_
  refine Rn.if_ne (tgt := 22) dX10_gain_11 (by decide) (fun _ => ?_) (fun h9 => absurd h9 (by decide))
  refine Rn.iconst (v := (nI 1)) dX10_gain_22 rfl ?_
  refine Rn.goto 27 dX10_gain_23 (by decide) ?_
  refine Rn.iconst (v := (nI 1)) dX10_gain_27 rfl ?_
  refine Rn.callVp (As := [_, _]) dX10_gain_28 mv_X10_241 (by first | rfl | exact gC0 (by assumption) | exact gL0 (by assumption)) rfl rfl rfl (Nat.le_of_ble_eq_true rfl) (ct_throws1 G _ _ _) ?_
  refine Rn.if_eq (tgt := 38) dX10_gain_31 (by decide) (fun h9 => absurd h9 (by decide)) (fun _ => ?_)
  refine Rn.iconst (v := (nI 0)) dX10_gain_34 rfl ?_
  refine Rn.goto 44 dX10_gain_35 (by decide) ?_
  exact Rn.iret dX10_gain_44 rfl (⟨rfl, rfl⟩)
theorem ct_X10_flows (h0 : I 95 0 = nI 0) (h1 : I 95 1 = nI 0) (p0 p1 p2 : Int32) : Ct G GAM mX10_flows (d + 2) 0 [.ref 94, .int p0, .int p1, .int p2] I (Rp (some (.int (nI 0))) (zup (zup I 94 0 (nI 0)) 94 0 (nI 1))) := by
  refine Ct.mk [some (.ref 94), some (.int p0), some (.int p1), some (.int p2)] ?_
  refine Rn.aload_n dX10_flows_0 rfl rfl ?_
  refine Rn.iconst (v := (nI 0)) dX10_flows_1 rfl ?_
  refine Rn.putI dX10_flows_2 fp_X10_3_9 (by first | rfl | exact gC0 (by assumption) | exact gL0 (by assumption)) rfl ?_
  refine Rn.aload_n dX10_flows_5 rfl rfl ?_
  refine Rn.aload_n dX10_flows_6 rfl rfl ?_
  refine Rn.iload_n dX10_flows_7 rfl rfl ?_
  refine Rn.callVp (As := [_]) dX10_flows_8 mv_X10_275 (by first | rfl | exact gC0 (by assumption) | exact gL0 (by assumption)) rfl rfl rfl (Nat.le_of_ble_eq_true rfl) (ct_noWoman0 G _ _ (by exact h0) _) ?_
  refine Rn.if_ne (tgt := 29) dX10_flows_11 (by decide) (fun _ => ?_) (fun h9 => absurd h9 (by decide))
  refine Rn.iconst (v := (nI 1)) dX10_flows_29 rfl ?_
  refine Rn.goto 34 dX10_flows_30 (by decide) ?_
  refine Rn.iconst (v := (nI 1)) dX10_flows_34 rfl ?_
  refine Rn.callVp (As := [_, _]) dX10_flows_35 mv_X10_241 (by first | rfl | exact gC0 (by assumption) | exact gL0 (by assumption)) rfl rfl rfl (Nat.le_of_ble_eq_true rfl) (ct_throws1 G _ _ _) ?_
  refine Rn.if_eq (tgt := 45) dX10_flows_38 (by decide) (fun h9 => absurd h9 (by decide)) (fun _ => ?_)
  refine Rn.iconst (v := (nI 0)) dX10_flows_41 rfl ?_
  refine Rn.goto 52 dX10_flows_42 (by decide) ?_
  exact Rn.iret dX10_flows_52 rfl (⟨rfl, rfl⟩)
theorem ct_X10_wed (h0 : I 95 0 = nI 0) (h1 : I 95 1 = nI 0) (p0 p1 : Int32) : Ct G GAM mX10_wed (d + 2) 0 [.ref 94, .int p0, .int p1] I (Rp (some (.int (nI 0))) (zup (zup I 94 0 (nI 0)) 94 0 (nI 1))) := by
  refine Ct.mk [some (.ref 94), some (.int p0), some (.int p1), none] ?_
  refine Rn.aload_n dX10_wed_0 rfl rfl ?_
  refine Rn.iconst (v := (nI 0)) dX10_wed_1 rfl ?_
  refine Rn.putI dX10_wed_2 fp_X10_3_9 (by first | rfl | exact gC0 (by assumption) | exact gL0 (by assumption)) rfl ?_
  refine Rn.aload_n dX10_wed_5 rfl rfl ?_
  refine Rn.aload_n dX10_wed_6 rfl rfl ?_
  refine Rn.iload_n dX10_wed_7 rfl rfl ?_
  refine Rn.callVp (As := [_]) dX10_wed_8 mv_X10_275 (by first | rfl | exact gC0 (by assumption) | exact gL0 (by assumption)) rfl rfl rfl (Nat.le_of_ble_eq_true rfl) (ct_noWoman0 G _ _ (by exact h0) _) ?_
  refine Rn.if_ne (tgt := 22) dX10_wed_11 (by decide) (fun _ => ?_) (fun h9 => absurd h9 (by decide))
  refine Rn.iconst (v := (nI 1)) dX10_wed_22 rfl ?_
  refine Rn.goto 27 dX10_wed_23 (by decide) ?_
  refine Rn.iconst (v := (nI 1)) dX10_wed_27 rfl ?_
  refine Rn.callVp (As := [_, _]) dX10_wed_28 mv_X10_241 (by first | rfl | exact gC0 (by assumption) | exact gL0 (by assumption)) rfl rfl rfl (Nat.le_of_ble_eq_true rfl) (ct_throws1 G _ _ _) ?_
  refine Rn.if_ne (tgt := 57) dX10_wed_31 (by decide) (fun _ => ?_) (fun h9 => absurd h9 (by decide))
  refine Rn.iconst (v := (nI 0)) dX10_wed_57 rfl ?_
  exact Rn.iret dX10_wed_58 rfl (⟨rfl, rfl⟩)
theorem ct_X10_widow (h0 : I 95 0 = nI 0) (h1 : I 95 1 = nI 0) (p0 p1 : Int32) : Ct G GAM mX10_widow (d + 2) 0 [.ref 94, .int p0, .int p1] I (Rp (some (.int (nI 0))) (zup (zup I 94 0 (nI 0)) 94 0 (nI 1))) := by
  refine Ct.mk [some (.ref 94), some (.int p0), some (.int p1), none] ?_
  refine Rn.aload_n dX10_widow_0 rfl rfl ?_
  refine Rn.iconst (v := (nI 0)) dX10_widow_1 rfl ?_
  refine Rn.putI dX10_widow_2 fp_X10_3_9 (by first | rfl | exact gC0 (by assumption) | exact gL0 (by assumption)) rfl ?_
  refine Rn.aload_n dX10_widow_5 rfl rfl ?_
  refine Rn.aload_n dX10_widow_6 rfl rfl ?_
  refine Rn.iload_n dX10_widow_7 rfl rfl ?_
  refine Rn.callVp (As := [_]) dX10_widow_8 mv_X10_275 (by first | rfl | exact gC0 (by assumption) | exact gL0 (by assumption)) rfl rfl rfl (Nat.le_of_ble_eq_true rfl) (ct_noWoman0 G _ _ (by exact h0) _) ?_
  refine Rn.iconst (v := (nI 1)) dX10_widow_11 rfl ?_
  refine Rn.callVp (As := [_, _]) dX10_widow_12 mv_X10_241 (by first | rfl | exact gC0 (by assumption) | exact gL0 (by assumption)) rfl rfl rfl (Nat.le_of_ble_eq_true rfl) (ct_throws1 G _ _ _) ?_
  refine Rn.if_eq (tgt := 20) dX10_widow_15 (by decide) (fun h9 => absurd h9 (by decide)) (fun _ => ?_)
  refine Rn.iconst (v := (nI 0)) dX10_widow_18 rfl ?_
  exact Rn.zret dX10_widow_19 rfl rfl (⟨rfl, rfl⟩)
theorem ct_X10_best (h0 : I 95 0 = nI 0) (h1 : I 95 1 = nI 0) (p0 : Int32) : Ct G GAM mX10_best (d + 2) 0 [.ref 94, .int p0] I (Rp (some (.int (nI 0))) (zup (zup I 94 0 (nI 0)) 94 0 (nI 1))) := by
  refine Ct.mk [some (.ref 94), some (.int p0), none, none] ?_
  refine Rn.aload_n dX10_best_0 rfl rfl ?_
  refine Rn.iconst (v := (nI 0)) dX10_best_1 rfl ?_
  refine Rn.putI dX10_best_2 fp_X10_3_9 (by first | rfl | exact gC0 (by assumption) | exact gL0 (by assumption)) rfl ?_
  refine Rn.aload_n dX10_best_5 rfl rfl ?_
  refine Rn.aload_n dX10_best_6 rfl rfl ?_
  refine Rn.iload_n dX10_best_7 rfl rfl ?_
  refine Rn.callVp (As := [_]) dX10_best_8 mv_X10_275 (by first | rfl | exact gC0 (by assumption) | exact gL0 (by assumption)) rfl rfl rfl (Nat.le_of_ble_eq_true rfl) (ct_noWoman0 G _ _ (by exact h0) _) ?_
  refine Rn.iconst (v := (nI 1)) dX10_best_11 rfl ?_
  refine Rn.callVp (As := [_, _]) dX10_best_12 mv_X10_241 (by first | rfl | exact gC0 (by assumption) | exact gL0 (by assumption)) rfl rfl rfl (Nat.le_of_ble_eq_true rfl) (ct_throws1 G _ _ _) ?_
  refine Rn.if_eq (tgt := 20) dX10_best_15 (by decide) (fun h9 => absurd h9 (by decide)) (fun _ => ?_)
  refine Rn.iconst (v := (nI 0)) dX10_best_18 rfl ?_
  exact Rn.iret dX10_best_19 rfl (⟨rfl, rfl⟩)
theorem ct_X10_reach (h0 : I 95 0 = nI 0) (h1 : I 95 1 = nI 0) (p0 p1 p2 p3 : Int32) : Ct G GAM mX10_reach (d + 2) 0 [.ref 94, .int p0, .int p1, .int p2, .int p3] I (Rp (some (.int (nI 0))) (zup (zup I 94 0 (nI 0)) 94 0 (nI 1))) := by
  refine Ct.mk [some (.ref 94), some (.int p0), some (.int p1), some (.int p2), some (.int p3), none, none] ?_
  refine Rn.aload_n dX10_reach_0 rfl rfl ?_
  refine Rn.iconst (v := (nI 0)) dX10_reach_1 rfl ?_
  refine Rn.putI dX10_reach_2 fp_X10_3_9 (by first | rfl | exact gC0 (by assumption) | exact gL0 (by assumption)) rfl ?_
  refine Rn.aload_n dX10_reach_5 rfl rfl ?_
  refine Rn.aload_n dX10_reach_6 rfl rfl ?_
  refine Rn.iload_n dX10_reach_7 rfl rfl ?_
  refine Rn.callVp (As := [_]) dX10_reach_8 mv_X10_275 (by first | rfl | exact gC0 (by assumption) | exact gL0 (by assumption)) rfl rfl rfl (Nat.le_of_ble_eq_true rfl) (ct_noWoman0 G _ _ (by exact h0) _) ?_
  refine Rn.if_ne (tgt := 29) dX10_reach_11 (by decide) (fun _ => ?_) (fun h9 => absurd h9 (by decide))
  refine Rn.iconst (v := (nI 1)) dX10_reach_29 rfl ?_
  refine Rn.goto 34 dX10_reach_30 (by decide) ?_
  refine Rn.iconst (v := (nI 1)) dX10_reach_34 rfl ?_
  refine Rn.callVp (As := [_, _]) dX10_reach_35 mv_X10_241 (by first | rfl | exact gC0 (by assumption) | exact gL0 (by assumption)) rfl rfl rfl (Nat.le_of_ble_eq_true rfl) (ct_throws1 G _ _ _) ?_
  refine Rn.if_ne (tgt := 65) dX10_reach_38 (by decide) (fun _ => ?_) (fun h9 => absurd h9 (by decide))
  refine Rn.iconst (v := (nI 0)) dX10_reach_65 rfl ?_
  exact Rn.iret dX10_reach_66 rfl (⟨rfl, rfl⟩)
theorem ct_X10_since (h0 : I 95 0 = nI 0) (h1 : I 95 1 = nI 0) (p0 p1 : Int32) : Ct G GAM mX10_since (d + 2) 0 [.ref 94, .int p0, .int p1] I (Rp (some (.int (nI 0))) (zup (zup I 94 0 (nI 0)) 94 0 (nI 1))) := by
  refine Ct.mk [some (.ref 94), some (.int p0), some (.int p1), none, none] ?_
  refine Rn.aload_n dX10_since_0 rfl rfl ?_
  refine Rn.iconst (v := (nI 0)) dX10_since_1 rfl ?_
  refine Rn.putI dX10_since_2 fp_X10_3_9 (by first | rfl | exact gC0 (by assumption) | exact gL0 (by assumption)) rfl ?_
  refine Rn.aload_n dX10_since_5 rfl rfl ?_
  refine Rn.aload_n dX10_since_6 rfl rfl ?_
  refine Rn.iload_n dX10_since_7 rfl rfl ?_
  refine Rn.callVp (As := [_]) dX10_since_8 mv_X10_275 (by first | rfl | exact gC0 (by assumption) | exact gL0 (by assumption)) rfl rfl rfl (Nat.le_of_ble_eq_true rfl) (ct_noWoman0 G _ _ (by exact h0) _) ?_
  refine Rn.if_ne (tgt := 22) dX10_since_11 (by decide) (fun _ => ?_) (fun h9 => absurd h9 (by decide))
  refine Rn.iconst (v := (nI 1)) dX10_since_22 rfl ?_
  refine Rn.goto 27 dX10_since_23 (by decide) ?_
  refine Rn.iconst (v := (nI 1)) dX10_since_27 rfl ?_
  refine Rn.callVp (As := [_, _]) dX10_since_28 mv_X10_241 (by first | rfl | exact gC0 (by assumption) | exact gL0 (by assumption)) rfl rfl rfl (Nat.le_of_ble_eq_true rfl) (ct_throws1 G _ _ _) ?_
  refine Rn.if_ne (tgt := 52) dX10_since_31 (by decide) (fun _ => ?_) (fun h9 => absurd h9 (by decide))
  refine Rn.iconst (v := (nI 0)) dX10_since_52 rfl ?_
  exact Rn.iret dX10_since_53 rfl (⟨rfl, rfl⟩)
theorem ct_X10_rests (h0 : I 95 0 = nI 0) (h1 : I 95 1 = nI 0) (p0 p1 p2 : Int32) : Ct G GAM mX10_rests (d + 2) 0 [.ref 94, .int p0, .int p1, .int p2] I (Rp (some (.int (nI 0))) (zup (zup I 94 0 (nI 0)) 94 0 (nI 1))) := by
  refine Ct.mk [some (.ref 94), some (.int p0), some (.int p1), some (.int p2), none, none, none, none] ?_
  refine Rn.aload_n dX10_rests_0 rfl rfl ?_
  refine Rn.iconst (v := (nI 0)) dX10_rests_1 rfl ?_
  refine Rn.putI dX10_rests_2 fp_X10_3_9 (by first | rfl | exact gC0 (by assumption) | exact gL0 (by assumption)) rfl ?_
  refine Rn.aload_n dX10_rests_5 rfl rfl ?_
  refine Rn.aload_n dX10_rests_6 rfl rfl ?_
  refine Rn.iload_n dX10_rests_7 rfl rfl ?_
  refine Rn.callVp (As := [_]) dX10_rests_8 mv_X10_275 (by first | rfl | exact gC0 (by assumption) | exact gL0 (by assumption)) rfl rfl rfl (Nat.le_of_ble_eq_true rfl) (ct_noWoman0 G _ _ (by exact h0) _) ?_
  refine Rn.if_ne (tgt := 30) dX10_rests_11 (by decide) (fun _ => ?_) (fun h9 => absurd h9 (by decide))
  refine Rn.iconst (v := (nI 1)) dX10_rests_30 rfl ?_
  refine Rn.goto 35 dX10_rests_31 (by decide) ?_
  refine Rn.iconst (v := (nI 1)) dX10_rests_35 rfl ?_
  refine Rn.callVp (As := [_, _]) dX10_rests_36 mv_X10_241 (by first | rfl | exact gC0 (by assumption) | exact gL0 (by assumption)) rfl rfl rfl (Nat.le_of_ble_eq_true rfl) (ct_throws1 G _ _ _) ?_
  refine Rn.if_ne (tgt := 60) dX10_rests_39 (by decide) (fun _ => ?_) (fun h9 => absurd h9 (by decide))
  refine Rn.iconst (v := (nI 0)) dX10_rests_60 rfl ?_
  exact Rn.iret dX10_rests_61 rfl (⟨rfl, rfl⟩)
theorem ct_X10_ring (h0 : I 95 0 = nI 0) (h1 : I 95 1 = nI 0) (p0 : Int32) : Ct G GAM mX10_ring (d + 2) 0 [.ref 94, .int p0] I (Rp (some (.int (nI 0))) (zup (zup I 94 0 (nI 0)) 94 0 (nI 1))) := by
  refine Ct.mk [some (.ref 94), some (.int p0), none, none] ?_
  refine Rn.aload_n dX10_ring_0 rfl rfl ?_
  refine Rn.iconst (v := (nI 0)) dX10_ring_1 rfl ?_
  refine Rn.putI dX10_ring_2 fp_X10_3_9 (by first | rfl | exact gC0 (by assumption) | exact gL0 (by assumption)) rfl ?_
  refine Rn.aload_n dX10_ring_5 rfl rfl ?_
  refine Rn.aload_n dX10_ring_6 rfl rfl ?_
  refine Rn.iload_n dX10_ring_7 rfl rfl ?_
  refine Rn.callVp (As := [_]) dX10_ring_8 mv_X10_275 (by first | rfl | exact gC0 (by assumption) | exact gL0 (by assumption)) rfl rfl rfl (Nat.le_of_ble_eq_true rfl) (ct_noWoman0 G _ _ (by exact h0) _) ?_
  refine Rn.iconst (v := (nI 1)) dX10_ring_11 rfl ?_
  refine Rn.callVp (As := [_, _]) dX10_ring_12 mv_X10_241 (by first | rfl | exact gC0 (by assumption) | exact gL0 (by assumption)) rfl rfl rfl (Nat.le_of_ble_eq_true rfl) (ct_throws1 G _ _ _) ?_
  refine Rn.if_eq (tgt := 20) dX10_ring_15 (by decide) (fun h9 => absurd h9 (by decide)) (fun _ => ?_)
  refine Rn.iconst (v := (nI 0)) dX10_ring_18 rfl ?_
  exact Rn.zret dX10_ring_19 rfl rfl (⟨rfl, rfl⟩)
theorem ct_X10_share (h0 : I 95 0 = nI 0) (h1 : I 95 1 = nI 0) (p0 p1 : Int32) : Ct G GAM mX10_share (d + 2) 0 [.ref 94, .int p0, .int p1] I (Rp (some (.int (nI 0))) (zup (zup I 94 0 (nI 0)) 94 0 (nI 1))) := by
  refine Ct.mk [some (.ref 94), some (.int p0), some (.int p1), none, none] ?_
  refine Rn.aload_n dX10_share_0 rfl rfl ?_
  refine Rn.iconst (v := (nI 0)) dX10_share_1 rfl ?_
  refine Rn.putI dX10_share_2 fp_X10_3_9 (by first | rfl | exact gC0 (by assumption) | exact gL0 (by assumption)) rfl ?_
  refine Rn.aload_n dX10_share_5 rfl rfl ?_
  refine Rn.aload_n dX10_share_6 rfl rfl ?_
  refine Rn.iload_n dX10_share_7 rfl rfl ?_
  refine Rn.callVp (As := [_]) dX10_share_8 mv_X10_275 (by first | rfl | exact gC0 (by assumption) | exact gL0 (by assumption)) rfl rfl rfl (Nat.le_of_ble_eq_true rfl) (ct_noWoman0 G _ _ (by exact h0) _) ?_
  refine Rn.if_ne (tgt := 21) dX10_share_11 (by decide) (fun _ => ?_) (fun h9 => absurd h9 (by decide))
  refine Rn.iconst (v := (nI 1)) dX10_share_21 rfl ?_
  refine Rn.goto 26 dX10_share_22 (by decide) ?_
  refine Rn.iconst (v := (nI 1)) dX10_share_26 rfl ?_
  refine Rn.callVp (As := [_, _]) dX10_share_27 mv_X10_241 (by first | rfl | exact gC0 (by assumption) | exact gL0 (by assumption)) rfl rfl rfl (Nat.le_of_ble_eq_true rfl) (ct_throws1 G _ _ _) ?_
  refine Rn.if_eq (tgt := 35) dX10_share_30 (by decide) (fun h9 => absurd h9 (by decide)) (fun _ => ?_)
  refine Rn.iconst (v := (nI 0)) dX10_share_33 rfl ?_
  exact Rn.iret dX10_share_34 rfl (⟨rfl, rfl⟩)
theorem ct_X10_led (h0 : I 95 0 = nI 0) (h1 : I 95 1 = nI 0) (p0 p1 : Int32) : Ct G GAM mX10_led (d + 2) 0 [.ref 94, .int p0, .int p1] I (Rp (some (.int (nI 0))) (zup (zup I 94 0 (nI 0)) 94 0 (nI 1))) := by
  refine Ct.mk [some (.ref 94), some (.int p0), some (.int p1), none, none, none] ?_
  refine Rn.aload_n dX10_led_0 rfl rfl ?_
  refine Rn.iconst (v := (nI 0)) dX10_led_1 rfl ?_
  refine Rn.putI dX10_led_2 fp_X10_3_9 (by first | rfl | exact gC0 (by assumption) | exact gL0 (by assumption)) rfl ?_
  refine Rn.aload_n dX10_led_5 rfl rfl ?_
  refine Rn.aload_n dX10_led_6 rfl rfl ?_
  refine Rn.iload_n dX10_led_7 rfl rfl ?_
  refine Rn.callVp (As := [_]) dX10_led_8 mv_X10_275 (by first | rfl | exact gC0 (by assumption) | exact gL0 (by assumption)) rfl rfl rfl (Nat.le_of_ble_eq_true rfl) (ct_noWoman0 G _ _ (by exact h0) _) ?_
  refine Rn.iconst (v := (nI 1)) dX10_led_11 rfl ?_
  refine Rn.callVp (As := [_, _]) dX10_led_12 mv_X10_241 (by first | rfl | exact gC0 (by assumption) | exact gL0 (by assumption)) rfl rfl rfl (Nat.le_of_ble_eq_true rfl) (ct_throws1 G _ _ _) ?_
  refine Rn.if_eq (tgt := 20) dX10_led_15 (by decide) (fun h9 => absurd h9 (by decide)) (fun _ => ?_)
  refine Rn.iconst (v := (nI 0)) dX10_led_18 rfl ?_
  exact Rn.iret dX10_led_19 rfl (⟨rfl, rfl⟩)
theorem ct_X10_thing (h0 : I 95 0 = nI 0) (h1 : I 95 1 = nI 0) (p0 p1 : Int32) : Ct G GAM mX10_thing (d + 2) 0 [.ref 94, .int p0, .int p1] I (Rp (some (.int (nI 0))) (zup (zup I 94 0 (nI 0)) 94 0 (nI 1))) := by
  refine Ct.mk [some (.ref 94), some (.int p0), some (.int p1)] ?_
  refine Rn.aload_n dX10_thing_0 rfl rfl ?_
  refine Rn.iconst (v := (nI 0)) dX10_thing_1 rfl ?_
  refine Rn.putI dX10_thing_2 fp_X10_3_9 (by first | rfl | exact gC0 (by assumption) | exact gL0 (by assumption)) rfl ?_
  refine Rn.aload_n dX10_thing_5 rfl rfl ?_
  refine Rn.aload_n dX10_thing_6 rfl rfl ?_
  refine Rn.iload_n dX10_thing_7 rfl rfl ?_
  refine Rn.callVp (As := [_]) dX10_thing_8 mv_X10_284 (by first | rfl | exact gC0 (by assumption) | exact gL0 (by assumption)) rfl rfl rfl (Nat.le_of_ble_eq_true rfl) (ct_noThing0 G _ _ (by exact h1) _) ?_
  refine Rn.iconst (v := (nI 1)) dX10_thing_11 rfl ?_
  refine Rn.callVp (As := [_, _]) dX10_thing_12 mv_X10_241 (by first | rfl | exact gC0 (by assumption) | exact gL0 (by assumption)) rfl rfl rfl (Nat.le_of_ble_eq_true rfl) (ct_throws1 G _ _ _) ?_
  refine Rn.if_ne (tgt := 41) dX10_thing_15 (by decide) (fun _ => ?_) (fun h9 => absurd h9 (by decide))
  refine Rn.iconst (v := (nI 0)) dX10_thing_41 rfl ?_
  exact Rn.iret dX10_thing_42 rfl (⟨rfl, rfl⟩)
theorem ct_X10_lend (h0 : I 95 0 = nI 0) (h1 : I 95 1 = nI 0) (p0 p1 : Int32) : Ct G GAM mX10_lend (d + 2) 0 [.ref 94, .int p0, .int p1] I (Rp (some (.int (nI 0))) (zup (zup I 94 0 (nI 0)) 94 0 (nI 1))) := by
  refine Ct.mk [some (.ref 94), some (.int p0), some (.int p1), none] ?_
  refine Rn.aload_n dX10_lend_0 rfl rfl ?_
  refine Rn.iconst (v := (nI 0)) dX10_lend_1 rfl ?_
  refine Rn.putI dX10_lend_2 fp_X10_3_9 (by first | rfl | exact gC0 (by assumption) | exact gL0 (by assumption)) rfl ?_
  refine Rn.aload_n dX10_lend_5 rfl rfl ?_
  refine Rn.aload_n dX10_lend_6 rfl rfl ?_
  refine Rn.iload_n dX10_lend_7 rfl rfl ?_
  refine Rn.callVp (As := [_]) dX10_lend_8 mv_X10_284 (by first | rfl | exact gC0 (by assumption) | exact gL0 (by assumption)) rfl rfl rfl (Nat.le_of_ble_eq_true rfl) (ct_noThing0 G _ _ (by exact h1) _) ?_
  refine Rn.if_ne (tgt := 22) dX10_lend_11 (by decide) (fun _ => ?_) (fun h9 => absurd h9 (by decide))
  refine Rn.iconst (v := (nI 1)) dX10_lend_22 rfl ?_
  refine Rn.goto 27 dX10_lend_23 (by decide) ?_
  refine Rn.iconst (v := (nI 1)) dX10_lend_27 rfl ?_
  refine Rn.callVp (As := [_, _]) dX10_lend_28 mv_X10_241 (by first | rfl | exact gC0 (by assumption) | exact gL0 (by assumption)) rfl rfl rfl (Nat.le_of_ble_eq_true rfl) (ct_throws1 G _ _ _) ?_
  refine Rn.if_ne (tgt := 71) dX10_lend_31 (by decide) (fun _ => ?_) (fun h9 => absurd h9 (by decide))
  refine Rn.iconst (v := (nI 0)) dX10_lend_71 rfl ?_
  exact Rn.iret dX10_lend_72 rfl (⟨rfl, rfl⟩)
theorem ct_X10_pawn (h0 : I 95 0 = nI 0) (h1 : I 95 1 = nI 0) (p0 : Int32) : Ct G GAM mX10_pawn (d + 2) 0 [.ref 94, .int p0] I (Rp (some (.int (nI 0))) (zup (zup I 94 0 (nI 0)) 94 0 (nI 1))) := by
  refine Ct.mk [some (.ref 94), some (.int p0), none] ?_
  refine Rn.aload_n dX10_pawn_0 rfl rfl ?_
  refine Rn.iconst (v := (nI 0)) dX10_pawn_1 rfl ?_
  refine Rn.putI dX10_pawn_2 fp_X10_3_9 (by first | rfl | exact gC0 (by assumption) | exact gL0 (by assumption)) rfl ?_
  refine Rn.aload_n dX10_pawn_5 rfl rfl ?_
  refine Rn.aload_n dX10_pawn_6 rfl rfl ?_
  refine Rn.iload_n dX10_pawn_7 rfl rfl ?_
  refine Rn.callVp (As := [_]) dX10_pawn_8 mv_X10_284 (by first | rfl | exact gC0 (by assumption) | exact gL0 (by assumption)) rfl rfl rfl (Nat.le_of_ble_eq_true rfl) (ct_noThing0 G _ _ (by exact h1) _) ?_
  refine Rn.iconst (v := (nI 1)) dX10_pawn_11 rfl ?_
  refine Rn.callVp (As := [_, _]) dX10_pawn_12 mv_X10_241 (by first | rfl | exact gC0 (by assumption) | exact gL0 (by assumption)) rfl rfl rfl (Nat.le_of_ble_eq_true rfl) (ct_throws1 G _ _ _) ?_
  refine Rn.if_eq (tgt := 20) dX10_pawn_15 (by decide) (fun h9 => absurd h9 (by decide)) (fun _ => ?_)
  refine Rn.iconst (v := (nI 0)) dX10_pawn_18 rfl ?_
  exact Rn.iret dX10_pawn_19 rfl (⟨rfl, rfl⟩)
theorem ct_X10_redeem (h0 : I 95 0 = nI 0) (h1 : I 95 1 = nI 0) (p0 : Int32) : Ct G GAM mX10_redeem (d + 2) 0 [.ref 94, .int p0] I (Rp (some (.int (nI 0))) (zup (zup I 94 0 (nI 0)) 94 0 (nI 1))) := by
  refine Ct.mk [some (.ref 94), some (.int p0), none] ?_
  refine Rn.aload_n dX10_redeem_0 rfl rfl ?_
  refine Rn.iconst (v := (nI 0)) dX10_redeem_1 rfl ?_
  refine Rn.putI dX10_redeem_2 fp_X10_3_9 (by first | rfl | exact gC0 (by assumption) | exact gL0 (by assumption)) rfl ?_
  refine Rn.aload_n dX10_redeem_5 rfl rfl ?_
  refine Rn.aload_n dX10_redeem_6 rfl rfl ?_
  refine Rn.iload_n dX10_redeem_7 rfl rfl ?_
  refine Rn.callVp (As := [_]) dX10_redeem_8 mv_X10_284 (by first | rfl | exact gC0 (by assumption) | exact gL0 (by assumption)) rfl rfl rfl (Nat.le_of_ble_eq_true rfl) (ct_noThing0 G _ _ (by exact h1) _) ?_
  refine Rn.iconst (v := (nI 1)) dX10_redeem_11 rfl ?_
  refine Rn.callVp (As := [_, _]) dX10_redeem_12 mv_X10_241 (by first | rfl | exact gC0 (by assumption) | exact gL0 (by assumption)) rfl rfl rfl (Nat.le_of_ble_eq_true rfl) (ct_throws1 G _ _ _) ?_
  refine Rn.if_eq (tgt := 20) dX10_redeem_15 (by decide) (fun h9 => absurd h9 (by decide)) (fun _ => ?_)
  refine Rn.iconst (v := (nI 0)) dX10_redeem_18 rfl ?_
  exact Rn.iret dX10_redeem_19 rfl (⟨rfl, rfl⟩)
theorem ct_X10_cut (h0 : I 95 0 = nI 0) (h1 : I 95 1 = nI 0) (p0 : Int32) : Ct G GAM mX10_cut (d + 2) 0 [.ref 94, .int p0] I (Rp (some (.int (nI 0))) (zup (zup I 94 0 (nI 0)) 94 0 (nI 1))) := by
  refine Ct.mk [some (.ref 94), some (.int p0), none] ?_
  refine Rn.aload_n dX10_cut_0 rfl rfl ?_
  refine Rn.iconst (v := (nI 0)) dX10_cut_1 rfl ?_
  refine Rn.putI dX10_cut_2 fp_X10_3_9 (by first | rfl | exact gC0 (by assumption) | exact gL0 (by assumption)) rfl ?_
  refine Rn.aload_n dX10_cut_5 rfl rfl ?_
  refine Rn.aload_n dX10_cut_6 rfl rfl ?_
  refine Rn.iload_n dX10_cut_7 rfl rfl ?_
  refine Rn.callVp (As := [_]) dX10_cut_8 mv_X10_284 (by first | rfl | exact gC0 (by assumption) | exact gL0 (by assumption)) rfl rfl rfl (Nat.le_of_ble_eq_true rfl) (ct_noThing0 G _ _ (by exact h1) _) ?_
  refine Rn.iconst (v := (nI 1)) dX10_cut_11 rfl ?_
  refine Rn.callVp (As := [_, _]) dX10_cut_12 mv_X10_241 (by first | rfl | exact gC0 (by assumption) | exact gL0 (by assumption)) rfl rfl rfl (Nat.le_of_ble_eq_true rfl) (ct_throws1 G _ _ _) ?_
  refine Rn.if_ne (tgt := 39) dX10_cut_15 (by decide) (fun _ => ?_) (fun h9 => absurd h9 (by decide))
  refine Rn.iconst (v := (nI 0)) dX10_cut_39 rfl ?_
  exact Rn.iret dX10_cut_40 rfl (⟨rfl, rfl⟩)
theorem and_0 (x : Int32) : x &&& (nI 1 <<< (nI 0 &&& 31) - nI 1) = nI 0 := by
  have h : (nI 1 <<< (nI 0 &&& 31) - nI 1 : Int32) = 0 := by decide
  rw [h]; exact Int32.and_zero
theorem ct_X10_order (h0 : I 95 0 = nI 0) (h1 : I 95 1 = nI 0) (p0 p1 p2 : Int32) : Ct G GAM mX10_order (d + 2) 0 [.ref 94, .int p0, .int p1, .int p2] I (Rp (some (.int (nI 0))) (zup (zup I 94 0 (nI 0)) 94 0 (nI 1))) := by
  refine Ct.mk [some (.ref 94), some (.int p0), some (.int p1), some (.int p2), none, none, none, none, none, none] ?_
  refine Rn.aload_n dX10_order_0 rfl rfl ?_
  refine Rn.iconst (v := (nI 0)) dX10_order_1 rfl ?_
  refine Rn.putI dX10_order_2 fp_X10_3_9 (by first | rfl | exact gC0 (by assumption) | exact gL0 (by assumption)) rfl ?_
  refine Rn.iload_n dX10_order_5 rfl rfl ?_
  refine Rn.aload_n dX10_order_6 rfl rfl ?_
  refine Rn.callVp (As := []) dX10_order_7 mv_X10_362 (by first | rfl | exact gC0 (by assumption) | exact gL0 (by assumption)) rfl rfl rfl (Nat.le_of_ble_eq_true rfl) (ct_allWomen G _ _) ?_
  refine Rn.iand dX10_order_10 ?_
  refine Rn.topI (nI 0) (by rw [show zup I 94 0 (nI 0) 95 0 = nI 0 from h0]; exact and_0 _) ?_
  refine Rn.istore dX10_order_11 (by decide) ?_
  refine Rn.iload dX10_order_13 rfl ?_
  refine Rn.callSp (As := [_]) dX10_order_15 ms_X10_342 rfl rfl (Nat.le_of_ble_eq_true rfl) (ct_bitCount0 G _ _) ?_
  refine Rn.istore dX10_order_18 (by decide) ?_
  refine Rn.aload_n dX10_order_20 rfl rfl ?_
  refine Rn.aload_n dX10_order_21 rfl rfl ?_
  refine Rn.iload_n dX10_order_22 rfl rfl ?_
  refine Rn.callVp (As := [_]) dX10_order_23 mv_X10_284 (by first | rfl | exact gC0 (by assumption) | exact gL0 (by assumption)) rfl rfl rfl (Nat.le_of_ble_eq_true rfl) (ct_noThing0 G _ _ (by exact h1) _) ?_
  refine Rn.iconst (v := (nI 1)) dX10_order_26 rfl ?_
  refine Rn.callVp (As := [_, _]) dX10_order_27 mv_X10_241 (by first | rfl | exact gC0 (by assumption) | exact gL0 (by assumption)) rfl rfl rfl (Nat.le_of_ble_eq_true rfl) (ct_throws1 G _ _ _) ?_
  refine Rn.if_ne (tgt := 52) dX10_order_30 (by decide) (fun _ => ?_) (fun h9 => absurd h9 (by decide))
  refine Rn.iconst (v := (nI 0)) dX10_order_52 rfl ?_
  exact Rn.iret dX10_order_53 rfl (⟨rfl, rfl⟩)
theorem ct_X10_lowest (h0 : I 95 0 = nI 0) (h1 : I 95 1 = nI 0) (p0 p1 : Int32) : Ct G GAM mX10_lowest (d + 2) 0 [.ref 94, .int p0, .int p1] I (Rp (some (.int (nI 0))) (zup (zup I 94 0 (nI 0)) 94 0 (nI 1))) := by
  refine Ct.mk [some (.ref 94), some (.int p0), some (.int p1), none, none, none, none] ?_
  refine Rn.aload_n dX10_lowest_0 rfl rfl ?_
  refine Rn.iconst (v := (nI 0)) dX10_lowest_1 rfl ?_
  refine Rn.putI dX10_lowest_2 fp_X10_3_9 (by first | rfl | exact gC0 (by assumption) | exact gL0 (by assumption)) rfl ?_
  refine Rn.iload_n dX10_lowest_5 rfl rfl ?_
  refine Rn.aload_n dX10_lowest_6 rfl rfl ?_
  refine Rn.callVp (As := []) dX10_lowest_7 mv_X10_362 (by first | rfl | exact gC0 (by assumption) | exact gL0 (by assumption)) rfl rfl rfl (Nat.le_of_ble_eq_true rfl) (ct_allWomen G _ _) ?_
  refine Rn.iand dX10_lowest_10 ?_
  refine Rn.topI (nI 0) (by rw [show zup I 94 0 (nI 0) 95 0 = nI 0 from h0]; exact and_0 _) ?_
  refine Rn.istore_n dX10_lowest_11 rfl (by decide) ?_
  refine Rn.iload_n dX10_lowest_12 rfl rfl ?_
  refine Rn.callSp (As := [_]) dX10_lowest_13 ms_X10_342 rfl rfl (Nat.le_of_ble_eq_true rfl) (ct_bitCount0 G _ _) ?_
  refine Rn.istore dX10_lowest_16 (by decide) ?_
  refine Rn.aload_n dX10_lowest_18 rfl rfl ?_
  refine Rn.aload_n dX10_lowest_19 rfl rfl ?_
  refine Rn.iload_n dX10_lowest_20 rfl rfl ?_
  refine Rn.callVp (As := [_]) dX10_lowest_21 mv_X10_284 (by first | rfl | exact gC0 (by assumption) | exact gL0 (by assumption)) rfl rfl rfl (Nat.le_of_ble_eq_true rfl) (ct_noThing0 G _ _ (by exact h1) _) ?_
  refine Rn.iconst (v := (nI 1)) dX10_lowest_24 rfl ?_
  refine Rn.callVp (As := [_, _]) dX10_lowest_25 mv_X10_241 (by first | rfl | exact gC0 (by assumption) | exact gL0 (by assumption)) rfl rfl rfl (Nat.le_of_ble_eq_true rfl) (ct_throws1 G _ _ _) ?_
  refine Rn.if_ne (tgt := 50) dX10_lowest_28 (by decide) (fun _ => ?_) (fun h9 => absurd h9 (by decide))
  refine Rn.iconst (v := (nI 0)) dX10_lowest_50 rfl ?_
  exact Rn.iret dX10_lowest_51 rfl (⟨rfl, rfl⟩)
theorem ct_X10_chain (h0 : I 95 0 = nI 0) (h1 : I 95 1 = nI 0) (p0 : Int32) : Ct G GAM mX10_chain (d + 2) 0 [.ref 94, .int p0] I (Rp (some (.int (nI 0))) (zup (zup I 94 0 (nI 0)) 94 0 (nI 1))) := by
  refine Ct.mk [some (.ref 94), some (.int p0)] ?_
  refine Rn.aload_n dX10_chain_0 rfl rfl ?_
  refine Rn.iconst (v := (nI 0)) dX10_chain_1 rfl ?_
  refine Rn.putI dX10_chain_2 fp_X10_3_9 (by first | rfl | exact gC0 (by assumption) | exact gL0 (by assumption)) rfl ?_
  refine Rn.aload_n dX10_chain_5 rfl rfl ?_
  refine Rn.aload_n dX10_chain_6 rfl rfl ?_
  refine Rn.iload_n dX10_chain_7 rfl rfl ?_
  refine Rn.callVp (As := [_]) dX10_chain_8 mv_X10_284 (by first | rfl | exact gC0 (by assumption) | exact gL0 (by assumption)) rfl rfl rfl (Nat.le_of_ble_eq_true rfl) (ct_noThing0 G _ _ (by exact h1) _) ?_
  refine Rn.iconst (v := (nI 1)) dX10_chain_11 rfl ?_
  refine Rn.callVp (As := [_, _]) dX10_chain_12 mv_X10_241 (by first | rfl | exact gC0 (by assumption) | exact gL0 (by assumption)) rfl rfl rfl (Nat.le_of_ble_eq_true rfl) (ct_throws1 G _ _ _) ?_
  refine Rn.if_eq (tgt := 22) dX10_chain_15 (by decide) (fun h9 => absurd h9 (by decide)) (fun _ => ?_)
  refine Rn.iconst (v := (nI 0)) dX10_chain_18 rfl ?_
  refine Rn.goto 27 dX10_chain_19 (by decide) ?_
  exact Rn.iret dX10_chain_27 rfl (⟨rfl, rfl⟩)
theorem ct_X10_runs (h0 : I 95 0 = nI 0) (h1 : I 95 1 = nI 0) (p0 p1 : Int32) : Ct G GAM mX10_runs (d + 2) 0 [.ref 94, .int p0, .int p1] I (Rp (some (.int (nI 0))) (zup (zup I 94 0 (nI 0)) 94 0 (nI 1))) := by
  refine Ct.mk [some (.ref 94), some (.int p0), some (.int p1), none] ?_
  refine Rn.aload_n dX10_runs_0 rfl rfl ?_
  refine Rn.iconst (v := (nI 0)) dX10_runs_1 rfl ?_
  refine Rn.putI dX10_runs_2 fp_X10_3_9 (by first | rfl | exact gC0 (by assumption) | exact gL0 (by assumption)) rfl ?_
  refine Rn.aload_n dX10_runs_5 rfl rfl ?_
  refine Rn.aload_n dX10_runs_6 rfl rfl ?_
  refine Rn.iload_n dX10_runs_7 rfl rfl ?_
  refine Rn.callVp (As := [_]) dX10_runs_8 mv_X10_284 (by first | rfl | exact gC0 (by assumption) | exact gL0 (by assumption)) rfl rfl rfl (Nat.le_of_ble_eq_true rfl) (ct_noThing0 G _ _ (by exact h1) _) ?_
  refine Rn.iconst (v := (nI 1)) dX10_runs_11 rfl ?_
  refine Rn.callVp (As := [_, _]) dX10_runs_12 mv_X10_241 (by first | rfl | exact gC0 (by assumption) | exact gL0 (by assumption)) rfl rfl rfl (Nat.le_of_ble_eq_true rfl) (ct_throws1 G _ _ _) ?_
  refine Rn.if_ne (tgt := 41) dX10_runs_15 (by decide) (fun _ => ?_) (fun h9 => absurd h9 (by decide))
  refine Rn.iconst (v := (nI 0)) dX10_runs_41 rfl ?_
  exact Rn.iret dX10_runs_42 rfl (⟨rfl, rfl⟩)
theorem ct_X10_spent (h0 : I 95 0 = nI 0) (h1 : I 95 1 = nI 0) (p0 : Int32) : Ct G GAM mX10_spent (d + 2) 0 [.ref 94, .int p0] I (Rp (some (.int (nI 0))) (zup (zup I 94 0 (nI 0)) 94 0 (nI 1))) := by
  refine Ct.mk [some (.ref 94), some (.int p0), none, none] ?_
  refine Rn.aload_n dX10_spent_0 rfl rfl ?_
  refine Rn.iconst (v := (nI 0)) dX10_spent_1 rfl ?_
  refine Rn.putI dX10_spent_2 fp_X10_3_9 (by first | rfl | exact gC0 (by assumption) | exact gL0 (by assumption)) rfl ?_
  refine Rn.aload_n dX10_spent_5 rfl rfl ?_
  refine Rn.aload_n dX10_spent_6 rfl rfl ?_
  refine Rn.iload_n dX10_spent_7 rfl rfl ?_
  refine Rn.callVp (As := [_]) dX10_spent_8 mv_X10_284 (by first | rfl | exact gC0 (by assumption) | exact gL0 (by assumption)) rfl rfl rfl (Nat.le_of_ble_eq_true rfl) (ct_noThing0 G _ _ (by exact h1) _) ?_
  refine Rn.iconst (v := (nI 1)) dX10_spent_11 rfl ?_
  refine Rn.callVp (As := [_, _]) dX10_spent_12 mv_X10_241 (by first | rfl | exact gC0 (by assumption) | exact gL0 (by assumption)) rfl rfl rfl (Nat.le_of_ble_eq_true rfl) (ct_throws1 G _ _ _) ?_
  refine Rn.if_eq (tgt := 20) dX10_spent_15 (by decide) (fun h9 => absurd h9 (by decide)) (fun _ => ?_)
  refine Rn.iconst (v := (nI 0)) dX10_spent_18 rfl ?_
  exact Rn.iret dX10_spent_19 rfl (⟨rfl, rfl⟩)
end Thr
