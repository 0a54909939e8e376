abbrev mL_coast : Ym := (yL_coast, cL_coast, 3, some .int)
theorem dL_coast_0 : decode cL_coast 0 = .ok (.aload_n 1, 1) := by decide +kernel
theorem dL_coast_1 : decode cL_coast 1 = .ok (.iconst 0, 1) := by decide +kernel
theorem dL_coast_2 : decode cL_coast 2 = .ok (.aload_n 0, 1) := by decide +kernel
theorem dL_coast_3 : decode cL_coast 3 = .ok (.invokevirtual 7, 3) := by decide +kernel
theorem wi_549 : Cond.methodLink RL 7 yX9_coast ∈ WA := zin 549 (by decide +kernel) (by decide +kernel)
theorem wi_552 : Cond.code yX9_coast cX9_coast 2 (some .int) ∈ WA := zin 552 (by decide +kernel) (by decide +kernel)
theorem wi_550 : Cond.instanceMethod yX9_coast ∈ WA := zin 550 (by decide +kernel) (by decide +kernel)
theorem wi_551 : Cond.selects RX9 yX9_coast yX9_coast ∈ WA := zin 551 (by decide +kernel) (by decide +kernel)
theorem mv_L_7 : zMv RL 7 RX9 mX9_coast 0 := ⟨⟨wi_549, wi_100, wi_552, by decide, by decide +kernel⟩, wi_550, wi_551⟩
theorem dL_coast_6 : decode cL_coast 6 = .ok (.i2l, 1) := by decide +kernel
theorem dL_coast_7 : decode cL_coast 7 = .ok (.lastore, 1) := by decide +kernel
theorem dL_coast_8 : decode cL_coast 8 = .ok (.goto 9, 3) := by decide +kernel
theorem dL_coast_17 : decode cL_coast 17 = .ok (.iconst 0, 1) := by decide +kernel
theorem dL_coast_18 : decode cL_coast 18 = .ok (.ireturn, 1) := by decide +kernel
abbrev mL_law : Ym := (yL_law, cL_law, 3, some .int)
theorem dL_law_0 : decode cL_law 0 = .ok (.aload_n 1, 1) := by decide +kernel
theorem dL_law_1 : decode cL_law 1 = .ok (.iconst 0, 1) := by decide +kernel
theorem dL_law_2 : decode cL_law 2 = .ok (.aload_n 0, 1) := by decide +kernel
theorem dL_law_3 : decode cL_law 3 = .ok (.invokevirtual 17, 3) := by decide +kernel
theorem wi_762 : Cond.methodLink RL 17 yX9_law ∈ WA := zin 762 (by decide +kernel) (by decide +kernel)
theorem wi_765 : Cond.code yX9_law cX9_law 2 (some .int) ∈ WA := zin 765 (by decide +kernel) (by decide +kernel)
theorem wi_763 : Cond.instanceMethod yX9_law ∈ WA := zin 763 (by decide +kernel) (by decide +kernel)
theorem wi_764 : Cond.selects RX9 yX9_law yX9_law ∈ WA := zin 764 (by decide +kernel) (by decide +kernel)
theorem mv_L_17 : zMv RL 17 RX9 mX9_law 0 := ⟨⟨wi_762, wi_100, wi_765, by decide, by decide +kernel⟩, wi_763, wi_764⟩
theorem dL_law_6 : decode cL_law 6 = .ok (.i2l, 1) := by decide +kernel
theorem dL_law_7 : decode cL_law 7 = .ok (.lastore, 1) := by decide +kernel
theorem dL_law_8 : decode cL_law 8 = .ok (.goto 6, 3) := by decide +kernel
theorem dL_law_14 : decode cL_law 14 = .ok (.iconst 0, 1) := by decide +kernel
theorem dL_law_15 : decode cL_law 15 = .ok (.ireturn, 1) := by decide +kernel
abbrev mL_days : Ym := (yL_days, cL_days, 4, some .int)
theorem dL_days_0 : decode cL_days 0 = .ok (.aload_n 2, 1) := by decide +kernel
theorem dL_days_1 : decode cL_days 1 = .ok (.iconst 0, 1) := by decide +kernel
theorem dL_days_2 : decode cL_days 2 = .ok (.aload_n 0, 1) := by decide +kernel
theorem dL_days_3 : decode cL_days 3 = .ok (.iload_n 1, 1) := by decide +kernel
theorem dL_days_4 : decode cL_days 4 = .ok (.invokevirtual 60, 3) := by decide +kernel
theorem wi_983 : Cond.methodLink RL 60 yX9_days ∈ WA := zin 983 (by decide +kernel) (by decide +kernel)
theorem wi_986 : Cond.code yX9_days cX9_days 2 (some .int) ∈ WA := zin 986 (by decide +kernel) (by decide +kernel)
theorem wi_984 : Cond.instanceMethod yX9_days ∈ WA := zin 984 (by decide +kernel) (by decide +kernel)
theorem wi_985 : Cond.selects RX9 yX9_days yX9_days ∈ WA := zin 985 (by decide +kernel) (by decide +kernel)
theorem mv_L_60 : zMv RL 60 RX9 mX9_days 1 := ⟨⟨wi_983, wi_100, wi_986, by decide, by decide +kernel⟩, wi_984, wi_985⟩
theorem dL_days_7 : decode cL_days 7 = .ok (.i2l, 1) := by decide +kernel
theorem dL_days_8 : decode cL_days 8 = .ok (.lastore, 1) := by decide +kernel
theorem dL_days_9 : decode cL_days 9 = .ok (.goto 6, 3) := by decide +kernel
theorem dL_days_15 : decode cL_days 15 = .ok (.iconst 0, 1) := by decide +kernel
theorem dL_days_16 : decode cL_days 16 = .ok (.ireturn, 1) := by decide +kernel
theorem wi_547 : Cond.classLink RL 13 "java/lang/IllegalArgumentException" ∈ WA := zin 547 (by decide +kernel) (by decide +kernel)
theorem dL_days_12 : decode cL_days 12 = .ok (.astore_n 3, 1) := by decide +kernel
theorem dL_days_13 : decode cL_days 13 = .ok (.iconst 1, 1) := by decide +kernel
theorem dL_days_14 : decode cL_days 14 = .ok (.ireturn, 1) := by decide +kernel
abbrev mL_whose : Ym := (yL_whose, cL_whose, 3, some .int)
theorem dL_whose_0 : decode cL_whose 0 = .ok (.aload_n 1, 1) := by decide +kernel
theorem dL_whose_1 : decode cL_whose 1 = .ok (.iconst 0, 1) := by decide +kernel
theorem dL_whose_2 : decode cL_whose 2 = .ok (.aload_n 0, 1) := by decide +kernel
theorem dL_whose_3 : decode cL_whose 3 = .ok (.invokevirtual 82, 3) := by decide +kernel
theorem wi_1090 : Cond.methodLink RL 82 yX9_whose ∈ WA := zin 1090 (by decide +kernel) (by decide +kernel)
theorem wi_1093 : Cond.code yX9_whose cX9_whose 1 (some .int) ∈ WA := zin 1093 (by decide +kernel) (by decide +kernel)
theorem wi_1091 : Cond.instanceMethod yX9_whose ∈ WA := zin 1091 (by decide +kernel) (by decide +kernel)
theorem wi_1092 : Cond.selects RX9 yX9_whose yX9_whose ∈ WA := zin 1092 (by decide +kernel) (by decide +kernel)
theorem mv_L_82 : zMv RL 82 RX9 mX9_whose 0 := ⟨⟨wi_1090, wi_100, wi_1093, by decide, by decide +kernel⟩, wi_1091, wi_1092⟩
theorem dL_whose_6 : decode cL_whose 6 = .ok (.i2l, 1) := by decide +kernel
theorem dL_whose_7 : decode cL_whose 7 = .ok (.lastore, 1) := by decide +kernel
theorem dL_whose_8 : decode cL_whose 8 = .ok (.goto 6, 3) := by decide +kernel
theorem dL_whose_14 : decode cL_whose 14 = .ok (.iconst 0, 1) := by decide +kernel
theorem dL_whose_15 : decode cL_whose 15 = .ok (.ireturn, 1) := by decide +kernel
abbrev mL_next : Ym := (yL_next, cL_next, 3, some .int)
theorem dL_next_0 : decode cL_next 0 = .ok (.aload_n 1, 1) := by decide +kernel
theorem dL_next_1 : decode cL_next 1 = .ok (.iconst 0, 1) := by decide +kernel
theorem dL_next_2 : decode cL_next 2 = .ok (.aload_n 0, 1) := by decide +kernel
theorem dL_next_3 : decode cL_next 3 = .ok (.invokevirtual 85, 3) := by decide +kernel
theorem wi_1115 : Cond.methodLink RL 85 yX9_next ∈ WA := zin 1115 (by decide +kernel) (by decide +kernel)
theorem wi_1118 : Cond.code yX9_next cX9_next 6 (some .int) ∈ WA := zin 1118 (by decide +kernel) (by decide +kernel)
theorem wi_1116 : Cond.instanceMethod yX9_next ∈ WA := zin 1116 (by decide +kernel) (by decide +kernel)
theorem wi_1117 : Cond.selects RX9 yX9_next yX9_next ∈ WA := zin 1117 (by decide +kernel) (by decide +kernel)
theorem mv_L_85 : zMv RL 85 RX9 mX9_next 0 := ⟨⟨wi_1115, wi_100, wi_1118, by decide, by decide +kernel⟩, wi_1116, wi_1117⟩
theorem dL_next_6 : decode cL_next 6 = .ok (.i2l, 1) := by decide +kernel
theorem dL_next_7 : decode cL_next 7 = .ok (.lastore, 1) := by decide +kernel
theorem dL_next_8 : decode cL_next 8 = .ok (.goto 6, 3) := by decide +kernel
theorem dL_next_14 : decode cL_next 14 = .ok (.iconst 0, 1) := by decide +kernel
theorem dL_next_15 : decode cL_next 15 = .ok (.ireturn, 1) := by decide +kernel
abbrev mL_match : Ym := (yL_match, cL_match, 5, some .int)
theorem dL_match_0 : decode cL_match 0 = .ok (.aload_n 3, 1) := by decide +kernel
theorem dL_match_1 : decode cL_match 1 = .ok (.iconst 0, 1) := by decide +kernel
theorem dL_match_2 : decode cL_match 2 = .ok (.aload_n 0, 1) := by decide +kernel
theorem dL_match_3 : decode cL_match 3 = .ok (.iload_n 1, 1) := by decide +kernel
theorem dL_match_4 : decode cL_match 4 = .ok (.iload_n 2, 1) := by decide +kernel
theorem dL_match_5 : decode cL_match 5 = .ok (.invokevirtual 88, 3) := by decide +kernel
theorem wi_1133 : Cond.methodLink RL 88 yX9_match ∈ WA := zin 1133 (by decide +kernel) (by decide +kernel)
theorem wi_1136 : Cond.code yX9_match cX9_match 4 (some .int) ∈ WA := zin 1136 (by decide +kernel) (by decide +kernel)
theorem wi_1134 : Cond.instanceMethod yX9_match ∈ WA := zin 1134 (by decide +kernel) (by decide +kernel)
theorem wi_1135 : Cond.selects RX9 yX9_match yX9_match ∈ WA := zin 1135 (by decide +kernel) (by decide +kernel)
theorem mv_L_88 : zMv RL 88 RX9 mX9_match 2 := ⟨⟨wi_1133, wi_100, wi_1136, by decide, by decide +kernel⟩, wi_1134, wi_1135⟩
theorem dL_match_8 : decode cL_match 8 = .ok (.i2l, 1) := by decide +kernel
theorem dL_match_9 : decode cL_match 9 = .ok (.lastore, 1) := by decide +kernel
theorem dL_match_10 : decode cL_match 10 = .ok (.goto 7, 3) := by decide +kernel
theorem dL_match_17 : decode cL_match 17 = .ok (.iconst 0, 1) := by decide +kernel
theorem dL_match_18 : decode cL_match 18 = .ok (.ireturn, 1) := by decide +kernel
abbrev mL_sells : Ym := (yL_sells, cL_sells, 4, some .int)
theorem dL_sells_0 : decode cL_sells 0 = .ok (.aload_n 2, 1) := by decide +kernel
theorem dL_sells_1 : decode cL_sells 1 = .ok (.iconst 0, 1) := by decide +kernel
theorem dL_sells_2 : decode cL_sells 2 = .ok (.aload_n 0, 1) := by decide +kernel
theorem dL_sells_3 : decode cL_sells 3 = .ok (.iload_n 1, 1) := by decide +kernel
theorem dL_sells_4 : decode cL_sells 4 = .ok (.invokevirtual 94, 3) := by decide +kernel
theorem wi_1170 : Cond.methodLink RL 94 yX9_sells ∈ WA := zin 1170 (by decide +kernel) (by decide +kernel)
theorem wi_1173 : Cond.code yX9_sells cX9_sells 2 (some .int) ∈ WA := zin 1173 (by decide +kernel) (by decide +kernel)
theorem wi_1171 : Cond.instanceMethod yX9_sells ∈ WA := zin 1171 (by decide +kernel) (by decide +kernel)
theorem wi_1172 : Cond.selects RX9 yX9_sells yX9_sells ∈ WA := zin 1172 (by decide +kernel) (by decide +kernel)
theorem mv_L_94 : zMv RL 94 RX9 mX9_sells 1 := ⟨⟨wi_1170, wi_100, wi_1173, by decide, by decide +kernel⟩, wi_1171, wi_1172⟩
theorem dL_sells_7 : decode cL_sells 7 = .ok (.i2l, 1) := by decide +kernel
theorem dL_sells_8 : decode cL_sells 8 = .ok (.lastore, 1) := by decide +kernel
theorem dL_sells_9 : decode cL_sells 9 = .ok (.goto 6, 3) := by decide +kernel
theorem dL_sells_15 : decode cL_sells 15 = .ok (.iconst 0, 1) := by decide +kernel
theorem dL_sells_16 : decode cL_sells 16 = .ok (.ireturn, 1) := by decide +kernel
theorem dL_sells_12 : decode cL_sells 12 = .ok (.astore_n 3, 1) := by decide +kernel
theorem dL_sells_13 : decode cL_sells 13 = .ok (.iconst 1, 1) := by decide +kernel
theorem dL_sells_14 : decode cL_sells 14 = .ok (.ireturn, 1) := by decide +kernel
abbrev mL_luckiest : Ym := (yL_luckiest, cL_luckiest, 4, some .int)
theorem dL_luckiest_0 : decode cL_luckiest 0 = .ok (.aload_n 2, 1) := by decide +kernel
theorem dL_luckiest_1 : decode cL_luckiest 1 = .ok (.iconst 0, 1) := by decide +kernel
theorem dL_luckiest_2 : decode cL_luckiest 2 = .ok (.aload_n 0, 1) := by decide +kernel
theorem dL_luckiest_3 : decode cL_luckiest 3 = .ok (.iload_n 1, 1) := by decide +kernel
theorem dL_luckiest_4 : decode cL_luckiest 4 = .ok (.invokevirtual 97, 3) := by decide +kernel
theorem wi_1178 : Cond.methodLink RL 97 yX9_luckiest ∈ WA := zin 1178 (by decide +kernel) (by decide +kernel)
theorem wi_1181 : Cond.code yX9_luckiest cX9_luckiest 4 (some .int) ∈ WA := zin 1181 (by decide +kernel) (by decide +kernel)
theorem wi_1179 : Cond.instanceMethod yX9_luckiest ∈ WA := zin 1179 (by decide +kernel) (by decide +kernel)
theorem wi_1180 : Cond.selects RX9 yX9_luckiest yX9_luckiest ∈ WA := zin 1180 (by decide +kernel) (by decide +kernel)
theorem mv_L_97 : zMv RL 97 RX9 mX9_luckiest 1 := ⟨⟨wi_1178, wi_100, wi_1181, by decide, by decide +kernel⟩, wi_1179, wi_1180⟩
theorem dL_luckiest_7 : decode cL_luckiest 7 = .ok (.i2l, 1) := by decide +kernel
theorem dL_luckiest_8 : decode cL_luckiest 8 = .ok (.lastore, 1) := by decide +kernel
theorem dL_luckiest_9 : decode cL_luckiest 9 = .ok (.goto 6, 3) := by decide +kernel
theorem dL_luckiest_15 : decode cL_luckiest 15 = .ok (.iconst 0, 1) := by decide +kernel
theorem dL_luckiest_16 : decode cL_luckiest 16 = .ok (.ireturn, 1) := by decide +kernel
theorem dL_luckiest_12 : decode cL_luckiest 12 = .ok (.astore_n 3, 1) := by decide +kernel
theorem dL_luckiest_13 : decode cL_luckiest 13 = .ok (.iconst 1, 1) := by decide +kernel
theorem dL_luckiest_14 : decode cL_luckiest 14 = .ok (.ireturn, 1) := by decide +kernel
abbrev mL_trial : Ym := (yL_trial, cL_trial, 5, some .int)
theorem dL_trial_0 : decode cL_trial 0 = .ok (.aload_n 3, 1) := by decide +kernel
theorem dL_trial_1 : decode cL_trial 1 = .ok (.iconst 0, 1) := by decide +kernel
theorem dL_trial_2 : decode cL_trial 2 = .ok (.aload_n 0, 1) := by decide +kernel
theorem dL_trial_3 : decode cL_trial 3 = .ok (.iload_n 1, 1) := by decide +kernel
theorem dL_trial_4 : decode cL_trial 4 = .ok (.iload_n 2, 1) := by decide +kernel
theorem dL_trial_5 : decode cL_trial 5 = .ok (.invokevirtual 113, 3) := by decide +kernel
theorem wi_1222 : Cond.methodLink RL 113 yX9_trial ∈ WA := zin 1222 (by decide +kernel) (by decide +kernel)
theorem wi_1225 : Cond.code yX9_trial cX9_trial 3 (some .int) ∈ WA := zin 1225 (by decide +kernel) (by decide +kernel)
theorem wi_1223 : Cond.instanceMethod yX9_trial ∈ WA := zin 1223 (by decide +kernel) (by decide +kernel)
theorem wi_1224 : Cond.selects RX9 yX9_trial yX9_trial ∈ WA := zin 1224 (by decide +kernel) (by decide +kernel)
theorem mv_L_113 : zMv RL 113 RX9 mX9_trial 2 := ⟨⟨wi_1222, wi_100, wi_1225, by decide, by decide +kernel⟩, wi_1223, wi_1224⟩
theorem dL_trial_8 : decode cL_trial 8 = .ok (.i2l, 1) := by decide +kernel
theorem dL_trial_9 : decode cL_trial 9 = .ok (.lastore, 1) := by decide +kernel
theorem dL_trial_10 : decode cL_trial 10 = .ok (.goto 7, 3) := by decide +kernel
theorem dL_trial_17 : decode cL_trial 17 = .ok (.iconst 0, 1) := by decide +kernel
theorem dL_trial_18 : decode cL_trial 18 = .ok (.ireturn, 1) := by decide +kernel
theorem dL_trial_13 : decode cL_trial 13 = .ok (.astore 4, 2) := by decide +kernel
theorem dL_trial_15 : decode cL_trial 15 = .ok (.iconst 1, 1) := by decide +kernel
theorem dL_trial_16 : decode cL_trial 16 = .ok (.ireturn, 1) := by decide +kernel
abbrev mL_span : Ym := (yL_span, cL_span, 5, some .int)
theorem dL_span_0 : decode cL_span 0 = .ok (.aload_n 3, 1) := by decide +kernel
theorem dL_span_1 : decode cL_span 1 = .ok (.iconst 0, 1) := by decide +kernel
theorem dL_span_2 : decode cL_span 2 = .ok (.aload_n 0, 1) := by decide +kernel
theorem dL_span_3 : decode cL_span 3 = .ok (.iload_n 1, 1) := by decide +kernel
theorem dL_span_4 : decode cL_span 4 = .ok (.iload_n 2, 1) := by decide +kernel
theorem dL_span_5 : decode cL_span 5 = .ok (.invokevirtual 117, 3) := by decide +kernel
theorem wi_1233 : Cond.methodLink RL 117 yX9_span ∈ WA := zin 1233 (by decide +kernel) (by decide +kernel)
theorem wi_1236 : Cond.code yX9_span cX9_span 6 (some .int) ∈ WA := zin 1236 (by decide +kernel) (by decide +kernel)
theorem wi_1234 : Cond.instanceMethod yX9_span ∈ WA := zin 1234 (by decide +kernel) (by decide +kernel)
theorem wi_1235 : Cond.selects RX9 yX9_span yX9_span ∈ WA := zin 1235 (by decide +kernel) (by decide +kernel)
theorem mv_L_117 : zMv RL 117 RX9 mX9_span 2 := ⟨⟨wi_1233, wi_100, wi_1236, by decide, by decide +kernel⟩, wi_1234, wi_1235⟩
theorem dL_span_8 : decode cL_span 8 = .ok (.i2l, 1) := by decide +kernel
theorem dL_span_9 : decode cL_span 9 = .ok (.lastore, 1) := by decide +kernel
theorem dL_span_10 : decode cL_span 10 = .ok (.goto 7, 3) := by decide +kernel
theorem dL_span_17 : decode cL_span 17 = .ok (.iconst 0, 1) := by decide +kernel
theorem dL_span_18 : decode cL_span 18 = .ok (.ireturn, 1) := by decide +kernel
theorem dL_span_13 : decode cL_span 13 = .ok (.astore 4, 2) := by decide +kernel
theorem dL_span_15 : decode cL_span 15 = .ok (.iconst 1, 1) := by decide +kernel
theorem dL_span_16 : decode cL_span 16 = .ok (.ireturn, 1) := by decide +kernel
abbrev mL_log : Ym := (yL_log, cL_log, 5, some .int)
theorem dL_log_0 : decode cL_log 0 = .ok (.aload_n 3, 1) := by decide +kernel
theorem dL_log_1 : decode cL_log 1 = .ok (.iconst 0, 1) := by decide +kernel
theorem dL_log_2 : decode cL_log 2 = .ok (.aload_n 0, 1) := by decide +kernel
theorem dL_log_3 : decode cL_log 3 = .ok (.iload_n 1, 1) := by decide +kernel
theorem dL_log_4 : decode cL_log 4 = .ok (.iload_n 2, 1) := by decide +kernel
theorem dL_log_5 : decode cL_log 5 = .ok (.invokevirtual 123, 3) := by decide +kernel
theorem wi_1248 : Cond.methodLink RL 123 yX9_log ∈ WA := zin 1248 (by decide +kernel) (by decide +kernel)
theorem wi_1251 : Cond.code yX9_log cX9_log 3 (some .int) ∈ WA := zin 1251 (by decide +kernel) (by decide +kernel)
theorem wi_1249 : Cond.instanceMethod yX9_log ∈ WA := zin 1249 (by decide +kernel) (by decide +kernel)
theorem wi_1250 : Cond.selects RX9 yX9_log yX9_log ∈ WA := zin 1250 (by decide +kernel) (by decide +kernel)
theorem mv_L_123 : zMv RL 123 RX9 mX9_log 2 := ⟨⟨wi_1248, wi_100, wi_1251, by decide, by decide +kernel⟩, wi_1249, wi_1250⟩
theorem dL_log_8 : decode cL_log 8 = .ok (.i2l, 1) := by decide +kernel
theorem dL_log_9 : decode cL_log 9 = .ok (.lastore, 1) := by decide +kernel
theorem dL_log_10 : decode cL_log 10 = .ok (.goto 7, 3) := by decide +kernel
theorem dL_log_17 : decode cL_log 17 = .ok (.iconst 0, 1) := by decide +kernel
theorem dL_log_18 : decode cL_log 18 = .ok (.ireturn, 1) := by decide +kernel
def RC (v : Int32) : Rs → Hi → Prop := fun o K => o = .inl (some (.int v)) ∧ ∀ c, 94 ≤ c → K c = I0 c
def RW (v : Int32) : Rs → Hi → Prop := fun o K => o = .inl (some (.int (nI 0))) ∧ FM K ∧ K 107 0 = v
section WrapB
variable (G : Gx) (d : Nat)
theorem cwn_coast (v0 : Int32) (hc : Ct G GAM mX9_coast d 1 [.ref 0] I0 (RC v0)) : CtW G GAM mL_coast [(0, 8, 11, 13), (0, 8, 14, 15)] (d + 1) 1 [.ref 0, .ref 107] I0 (RW v0) := by
  refine CtW.mk [some (.ref 0), some (.ref 107), none] ?_
  refine Rn.aload_n dL_coast_0 rfl rfl ?_
  refine Rn.iconst (v := (nI 0)) dL_coast_1 rfl ?_
  refine Rn.aload_n dL_coast_2 rfl rfl ?_
  refine Rn.callVx (b := 0) (mc := 1) (As := []) dL_coast_3 mv_L_7 (by first | rfl | exact gC0 (by assumption) | exact gL0 (by assumption)) rfl rfl rfl (Nat.le_of_ble_eq_true rfl) hc (fun E J q => nomatch q.1) (fun v J q => ?_)
  obtain ⟨e1, hJ⟩ := q
  cases e1
  refine Rn.i2l dL_coast_6 ?_
  refine Rn.last dL_coast_7 (by first | rfl | exact gC1 (by assumption) | exact gC2 (by assumption) | exact gC3 (by assumption) | exact gL1 (by assumption) | exact gL2 (by assumption) | exact gL3 (by assumption) | exact gL4 (by assumption) | exact gL5 (by assumption) | exact gL6 (by assumption)) (by decide) (by decide) ?_
  refine Rn.goto 17 dL_coast_8 (by decide) ?_
  refine Rn.iconst (v := (nI 0)) dL_coast_17 rfl ?_
  exact Rn.hret dL_coast_18 rfl (⟨rfl, fun c h1 h2 => by rw [zup_ne _ _ (by omega)]; exact hJ c h1, rfl⟩)
theorem cwn_law (v0 : Int32) (hc : Ct G GAM mX9_law d 1 [.ref 0] I0 (RC v0)) : CtW G GAM mL_law [(0, 8, 11, 13)] (d + 1) 1 [.ref 0, .ref 107] I0 (RW v0) := by
  refine CtW.mk [some (.ref 0), some (.ref 107), none] ?_
  refine Rn.aload_n dL_law_0 rfl rfl ?_
  refine Rn.iconst (v := (nI 0)) dL_law_1 rfl ?_
  refine Rn.aload_n dL_law_2 rfl rfl ?_
  refine Rn.callVx (b := 0) (mc := 1) (As := []) dL_law_3 mv_L_17 (by first | rfl | exact gC0 (by assumption) | exact gL0 (by assumption)) rfl rfl rfl (Nat.le_of_ble_eq_true rfl) hc (fun E J q => nomatch q.1) (fun v J q => ?_)
  obtain ⟨e1, hJ⟩ := q
  cases e1
  refine Rn.i2l dL_law_6 ?_
  refine Rn.last dL_law_7 (by first | rfl | exact gC1 (by assumption) | exact gC2 (by assumption) | exact gC3 (by assumption) | exact gL1 (by assumption) | exact gL2 (by assumption) | exact gL3 (by assumption) | exact gL4 (by assumption) | exact gL5 (by assumption) | exact gL6 (by assumption)) (by decide) (by decide) ?_
  refine Rn.goto 14 dL_law_8 (by decide) ?_
  refine Rn.iconst (v := (nI 0)) dL_law_14 rfl ?_
  exact Rn.hret dL_law_15 rfl (⟨rfl, fun c h1 h2 => by rw [zup_ne _ _ (by omega)]; exact hJ c h1, rfl⟩)
theorem cwn_days (p0 : Int32) (v0 : Int32) (hc : Ct G GAM mX9_days d 1 [.ref 0, .int p0] I0 (RC v0)) : CtW G GAM mL_days [(0, 9, 12, 13)] (d + 1) 1 [.ref 0, .int p0, .ref 107] I0 (RW v0) := by
  refine CtW.mk [some (.ref 0), some (.int p0), some (.ref 107), none] ?_
  refine Rn.aload_n dL_days_0 rfl rfl ?_
  refine Rn.iconst (v := (nI 0)) dL_days_1 rfl ?_
  refine Rn.aload_n dL_days_2 rfl rfl ?_
  refine Rn.iload_n dL_days_3 rfl rfl ?_
  refine Rn.callVx (b := 0) (mc := 1) (As := [_]) dL_days_4 mv_L_60 (by first | rfl | exact gC0 (by assumption) | exact gL0 (by assumption)) rfl rfl rfl (Nat.le_of_ble_eq_true rfl) hc (fun E J q => nomatch q.1) (fun v J q => ?_)
  obtain ⟨e1, hJ⟩ := q
  cases e1
  refine Rn.i2l dL_days_7 ?_
  refine Rn.last dL_days_8 (by first | rfl | exact gC1 (by assumption) | exact gC2 (by assumption) | exact gC3 (by assumption) | exact gL1 (by assumption) | exact gL2 (by assumption) | exact gL3 (by assumption) | exact gL4 (by assumption) | exact gL5 (by assumption) | exact gL6 (by assumption)) (by decide) (by decide) ?_
  refine Rn.goto 15 dL_days_9 (by decide) ?_
  refine Rn.iconst (v := (nI 0)) dL_days_15 rfl ?_
  exact Rn.hret dL_days_16 rfl (⟨rfl, fun c h1 h2 => by rw [zup_ne _ _ (by omega)]; exact hJ c h1, rfl⟩)
theorem cwt_days (p0 : Int32) (hc : Ct G GAM mX9_days d 1 [.ref 0, .int p0] I0 (Rx "java/lang/IllegalArgumentException" I0)) : CtW G GAM mL_days [(0, 9, 12, 13)] (d + 1) 1 [.ref 0, .int p0, .ref 107] I0 (Rp (some (.int (nI 1))) I0) := by
  refine CtW.mk [some (.ref 0), some (.int p0), some (.ref 107), none] ?_
  refine Rn.aload_n dL_days_0 rfl rfl ?_
  refine Rn.iconst (v := (nI 0)) dL_days_1 rfl ?_
  refine Rn.aload_n dL_days_2 rfl rfl ?_
  refine Rn.iload_n dL_days_3 rfl rfl ?_
  refine Rn.callVx (b := 0) (mc := 1) (As := [_]) dL_days_4 mv_L_60 (by first | rfl | exact gC0 (by assumption) | exact gL0 (by assumption)) rfl rfl rfl (Nat.le_of_ble_eq_true rfl) hc (fun E J h => ?_) (fun _ _ h => nomatch h.1)
  obtain ⟨h1, h2⟩ := h
  cases h1
  subst h2
  exact zcatch (x := (0, 9, 12, 13)) (hs := []) (i := 3) (n2 := 1) rfl wi_547 (by decide) (by decide) (Or.inl ⟨3, dL_days_12, rfl, rfl⟩) (by decide) dL_days_13 rfl dL_days_14 rfl ⟨rfl, rfl⟩
theorem cwn_whose (v0 : Int32) (hc : Ct G GAM mX9_whose d 0 [.ref 0] I0 (RC v0)) : CtW G GAM mL_whose [(0, 8, 11, 13)] (d + 1) 0 [.ref 0, .ref 107] I0 (RW v0) := by
  refine CtW.mk [some (.ref 0), some (.ref 107), none] ?_
  refine Rn.aload_n dL_whose_0 rfl rfl ?_
  refine Rn.iconst (v := (nI 0)) dL_whose_1 rfl ?_
  refine Rn.aload_n dL_whose_2 rfl rfl ?_
  refine Rn.callVx (b := 0) (mc := 0) (As := []) dL_whose_3 mv_L_82 (by first | rfl | exact gC0 (by assumption) | exact gL0 (by assumption)) rfl rfl rfl (Nat.le_of_ble_eq_true rfl) hc (fun E J q => nomatch q.1) (fun v J q => ?_)
  obtain ⟨e1, hJ⟩ := q
  cases e1
  refine Rn.i2l dL_whose_6 ?_
  refine Rn.last dL_whose_7 (by first | rfl | exact gC1 (by assumption) | exact gC2 (by assumption) | exact gC3 (by assumption) | exact gL1 (by assumption) | exact gL2 (by assumption) | exact gL3 (by assumption) | exact gL4 (by assumption) | exact gL5 (by assumption) | exact gL6 (by assumption)) (by decide) (by decide) ?_
  refine Rn.goto 14 dL_whose_8 (by decide) ?_
  refine Rn.iconst (v := (nI 0)) dL_whose_14 rfl ?_
  exact Rn.hret dL_whose_15 rfl (⟨rfl, fun c h1 h2 => by rw [zup_ne _ _ (by omega)]; exact hJ c h1, rfl⟩)
theorem cwn_next (v0 : Int32) (hc : Ct G GAM mX9_next d 0 [.ref 0] I0 (RC v0)) : CtW G GAM mL_next [(0, 8, 11, 13)] (d + 1) 0 [.ref 0, .ref 107] I0 (RW v0) := by
  refine CtW.mk [some (.ref 0), some (.ref 107), none] ?_
  refine Rn.aload_n dL_next_0 rfl rfl ?_
  refine Rn.iconst (v := (nI 0)) dL_next_1 rfl ?_
  refine Rn.aload_n dL_next_2 rfl rfl ?_
  refine Rn.callVx (b := 0) (mc := 0) (As := []) dL_next_3 mv_L_85 (by first | rfl | exact gC0 (by assumption) | exact gL0 (by assumption)) rfl rfl rfl (Nat.le_of_ble_eq_true rfl) hc (fun E J q => nomatch q.1) (fun v J q => ?_)
  obtain ⟨e1, hJ⟩ := q
  cases e1
  refine Rn.i2l dL_next_6 ?_
  refine Rn.last dL_next_7 (by first | rfl | exact gC1 (by assumption) | exact gC2 (by assumption) | exact gC3 (by assumption) | exact gL1 (by assumption) | exact gL2 (by assumption) | exact gL3 (by assumption) | exact gL4 (by assumption) | exact gL5 (by assumption) | exact gL6 (by assumption)) (by decide) (by decide) ?_
  refine Rn.goto 14 dL_next_8 (by decide) ?_
  refine Rn.iconst (v := (nI 0)) dL_next_14 rfl ?_
  exact Rn.hret dL_next_15 rfl (⟨rfl, fun c h1 h2 => by rw [zup_ne _ _ (by omega)]; exact hJ c h1, rfl⟩)
theorem cwn_match (p0 : Int32) (p1 : Int32) (v0 : Int32) (hc : Ct G GAM mX9_match d 0 [.ref 0, .int p0, .int p1] I0 (RC v0)) : CtW G GAM mL_match [(0, 10, 13, 13)] (d + 1) 0 [.ref 0, .int p0, .int p1, .ref 107] I0 (RW v0) := by
  refine CtW.mk [some (.ref 0), some (.int p0), some (.int p1), some (.ref 107), none] ?_
  refine Rn.aload_n dL_match_0 rfl rfl ?_
  refine Rn.iconst (v := (nI 0)) dL_match_1 rfl ?_
  refine Rn.aload_n dL_match_2 rfl rfl ?_
  refine Rn.iload_n dL_match_3 rfl rfl ?_
  refine Rn.iload_n dL_match_4 rfl rfl ?_
  refine Rn.callVx (b := 0) (mc := 0) (As := [_, _]) dL_match_5 mv_L_88 (by first | rfl | exact gC0 (by assumption) | exact gL0 (by assumption)) rfl rfl rfl (Nat.le_of_ble_eq_true rfl) hc (fun E J q => nomatch q.1) (fun v J q => ?_)
  obtain ⟨e1, hJ⟩ := q
  cases e1
  refine Rn.i2l dL_match_8 ?_
  refine Rn.last dL_match_9 (by first | rfl | exact gC1 (by assumption) | exact gC2 (by assumption) | exact gC3 (by assumption) | exact gL1 (by assumption) | exact gL2 (by assumption) | exact gL3 (by assumption) | exact gL4 (by assumption) | exact gL5 (by assumption) | exact gL6 (by assumption)) (by decide) (by decide) ?_
  refine Rn.goto 17 dL_match_10 (by decide) ?_
  refine Rn.iconst (v := (nI 0)) dL_match_17 rfl ?_
  exact Rn.hret dL_match_18 rfl (⟨rfl, fun c h1 h2 => by rw [zup_ne _ _ (by omega)]; exact hJ c h1, rfl⟩)
theorem cwn_sells (p0 : Int32) (v0 : Int32) (hc : Ct G GAM mX9_sells d 1 [.ref 0, .int p0] I0 (RC v0)) : CtW G GAM mL_sells [(0, 9, 12, 13)] (d + 1) 1 [.ref 0, .int p0, .ref 107] I0 (RW v0) := by
  refine CtW.mk [some (.ref 0), some (.int p0), some (.ref 107), none] ?_
  refine Rn.aload_n dL_sells_0 rfl rfl ?_
  refine Rn.iconst (v := (nI 0)) dL_sells_1 rfl ?_
  refine Rn.aload_n dL_sells_2 rfl rfl ?_
  refine Rn.iload_n dL_sells_3 rfl rfl ?_
  refine Rn.callVx (b := 0) (mc := 1) (As := [_]) dL_sells_4 mv_L_94 (by first | rfl | exact gC0 (by assumption) | exact gL0 (by assumption)) rfl rfl rfl (Nat.le_of_ble_eq_true rfl) hc (fun E J q => nomatch q.1) (fun v J q => ?_)
  obtain ⟨e1, hJ⟩ := q
  cases e1
  refine Rn.i2l dL_sells_7 ?_
  refine Rn.last dL_sells_8 (by first | rfl | exact gC1 (by assumption) | exact gC2 (by assumption) | exact gC3 (by assumption) | exact gL1 (by assumption) | exact gL2 (by assumption) | exact gL3 (by assumption) | exact gL4 (by assumption) | exact gL5 (by assumption) | exact gL6 (by assumption)) (by decide) (by decide) ?_
  refine Rn.goto 15 dL_sells_9 (by decide) ?_
  refine Rn.iconst (v := (nI 0)) dL_sells_15 rfl ?_
  exact Rn.hret dL_sells_16 rfl (⟨rfl, fun c h1 h2 => by rw [zup_ne _ _ (by omega)]; exact hJ c h1, rfl⟩)
theorem cwt_sells (p0 : Int32) (hc : Ct G GAM mX9_sells d 1 [.ref 0, .int p0] I0 (Rx "java/lang/IllegalArgumentException" I0)) : CtW G GAM mL_sells [(0, 9, 12, 13)] (d + 1) 1 [.ref 0, .int p0, .ref 107] I0 (Rp (some (.int (nI 1))) I0) := by
  refine CtW.mk [some (.ref 0), some (.int p0), some (.ref 107), none] ?_
  refine Rn.aload_n dL_sells_0 rfl rfl ?_
  refine Rn.iconst (v := (nI 0)) dL_sells_1 rfl ?_
  refine Rn.aload_n dL_sells_2 rfl rfl ?_
  refine Rn.iload_n dL_sells_3 rfl rfl ?_
  refine Rn.callVx (b := 0) (mc := 1) (As := [_]) dL_sells_4 mv_L_94 (by first | rfl | exact gC0 (by assumption) | exact gL0 (by assumption)) rfl rfl rfl (Nat.le_of_ble_eq_true rfl) hc (fun E J h => ?_) (fun _ _ h => nomatch h.1)
  obtain ⟨h1, h2⟩ := h
  cases h1
  subst h2
  exact zcatch (x := (0, 9, 12, 13)) (hs := []) (i := 3) (n2 := 1) rfl wi_547 (by decide) (by decide) (Or.inl ⟨3, dL_sells_12, rfl, rfl⟩) (by decide) dL_sells_13 rfl dL_sells_14 rfl ⟨rfl, rfl⟩
theorem cwn_luckiest (p0 : Int32) (v0 : Int32) (hc : Ct G GAM mX9_luckiest d 1 [.ref 0, .int p0] I0 (RC v0)) : CtW G GAM mL_luckiest [(0, 9, 12, 24)] (d + 1) 1 [.ref 0, .int p0, .ref 107] I0 (RW v0) := by
  refine CtW.mk [some (.ref 0), some (.int p0), some (.ref 107), none] ?_
  refine Rn.aload_n dL_luckiest_0 rfl rfl ?_
  refine Rn.iconst (v := (nI 0)) dL_luckiest_1 rfl ?_
  refine Rn.aload_n dL_luckiest_2 rfl rfl ?_
  refine Rn.iload_n dL_luckiest_3 rfl rfl ?_
  refine Rn.callVx (b := 0) (mc := 1) (As := [_]) dL_luckiest_4 mv_L_97 (by first | rfl | exact gC0 (by assumption) | exact gL0 (by assumption)) rfl rfl rfl (Nat.le_of_ble_eq_true rfl) hc (fun E J q => nomatch q.1) (fun v J q => ?_)
  obtain ⟨e1, hJ⟩ := q
  cases e1
  refine Rn.i2l dL_luckiest_7 ?_
  refine Rn.last dL_luckiest_8 (by first | rfl | exact gC1 (by assumption) | exact gC2 (by assumption) | exact gC3 (by assumption) | exact gL1 (by assumption) | exact gL2 (by assumption) | exact gL3 (by assumption) | exact gL4 (by assumption) | exact gL5 (by assumption) | exact gL6 (by assumption)) (by decide) (by decide) ?_
  refine Rn.goto 15 dL_luckiest_9 (by decide) ?_
  refine Rn.iconst (v := (nI 0)) dL_luckiest_15 rfl ?_
  exact Rn.hret dL_luckiest_16 rfl (⟨rfl, fun c h1 h2 => by rw [zup_ne _ _ (by omega)]; exact hJ c h1, rfl⟩)
theorem cwt_luckiest (p0 : Int32) (hc : Ct G GAM mX9_luckiest d 1 [.ref 0, .int p0] I0 (Rx "java/lang/IndexOutOfBoundsException" I0)) : CtW G GAM mL_luckiest [(0, 9, 12, 24)] (d + 1) 1 [.ref 0, .int p0, .ref 107] I0 (Rp (some (.int (nI 1))) I0) := by
  refine CtW.mk [some (.ref 0), some (.int p0), some (.ref 107), none] ?_
  refine Rn.aload_n dL_luckiest_0 rfl rfl ?_
  refine Rn.iconst (v := (nI 0)) dL_luckiest_1 rfl ?_
  refine Rn.aload_n dL_luckiest_2 rfl rfl ?_
  refine Rn.iload_n dL_luckiest_3 rfl rfl ?_
  refine Rn.callVx (b := 0) (mc := 1) (As := [_]) dL_luckiest_4 mv_L_97 (by first | rfl | exact gC0 (by assumption) | exact gL0 (by assumption)) rfl rfl rfl (Nat.le_of_ble_eq_true rfl) hc (fun E J h => ?_) (fun _ _ h => nomatch h.1)
  obtain ⟨h1, h2⟩ := h
  cases h1
  subst h2
  exact zcatch (x := (0, 9, 12, 24)) (hs := []) (i := 3) (n2 := 1) rfl wi_776 (by decide) (by decide) (Or.inl ⟨3, dL_luckiest_12, rfl, rfl⟩) (by decide) dL_luckiest_13 rfl dL_luckiest_14 rfl ⟨rfl, rfl⟩
theorem cwn_trial (p0 : Int32) (p1 : Int32) (v0 : Int32) (hc : Ct G GAM mX9_trial d 1 [.ref 0, .int p0, .int p1] I0 (RC v0)) : CtW G GAM mL_trial [(0, 10, 13, 13)] (d + 1) 1 [.ref 0, .int p0, .int p1, .ref 107] I0 (RW v0) := by
  refine CtW.mk [some (.ref 0), some (.int p0), some (.int p1), some (.ref 107), none] ?_
  refine Rn.aload_n dL_trial_0 rfl rfl ?_
  refine Rn.iconst (v := (nI 0)) dL_trial_1 rfl ?_
  refine Rn.aload_n dL_trial_2 rfl rfl ?_
  refine Rn.iload_n dL_trial_3 rfl rfl ?_
  refine Rn.iload_n dL_trial_4 rfl rfl ?_
  refine Rn.callVx (b := 0) (mc := 1) (As := [_, _]) dL_trial_5 mv_L_113 (by first | rfl | exact gC0 (by assumption) | exact gL0 (by assumption)) rfl rfl rfl (Nat.le_of_ble_eq_true rfl) hc (fun E J q => nomatch q.1) (fun v J q => ?_)
  obtain ⟨e1, hJ⟩ := q
  cases e1
  refine Rn.i2l dL_trial_8 ?_
  refine Rn.last dL_trial_9 (by first | rfl | exact gC1 (by assumption) | exact gC2 (by assumption) | exact gC3 (by assumption) | exact gL1 (by assumption) | exact gL2 (by assumption) | exact gL3 (by assumption) | exact gL4 (by assumption) | exact gL5 (by assumption) | exact gL6 (by assumption)) (by decide) (by decide) ?_
  refine Rn.goto 17 dL_trial_10 (by decide) ?_
  refine Rn.iconst (v := (nI 0)) dL_trial_17 rfl ?_
  exact Rn.hret dL_trial_18 rfl (⟨rfl, fun c h1 h2 => by rw [zup_ne _ _ (by omega)]; exact hJ c h1, rfl⟩)
theorem cwt_trial (p0 : Int32) (p1 : Int32) (hc : Ct G GAM mX9_trial d 1 [.ref 0, .int p0, .int p1] I0 (Rx "java/lang/IllegalArgumentException" I0)) : CtW G GAM mL_trial [(0, 10, 13, 13)] (d + 1) 1 [.ref 0, .int p0, .int p1, .ref 107] I0 (Rp (some (.int (nI 1))) I0) := by
  refine CtW.mk [some (.ref 0), some (.int p0), some (.int p1), some (.ref 107), none] ?_
  refine Rn.aload_n dL_trial_0 rfl rfl ?_
  refine Rn.iconst (v := (nI 0)) dL_trial_1 rfl ?_
  refine Rn.aload_n dL_trial_2 rfl rfl ?_
  refine Rn.iload_n dL_trial_3 rfl rfl ?_
  refine Rn.iload_n dL_trial_4 rfl rfl ?_
  refine Rn.callVx (b := 0) (mc := 1) (As := [_, _]) dL_trial_5 mv_L_113 (by first | rfl | exact gC0 (by assumption) | exact gL0 (by assumption)) rfl rfl rfl (Nat.le_of_ble_eq_true rfl) hc (fun E J h => ?_) (fun _ _ h => nomatch h.1)
  obtain ⟨h1, h2⟩ := h
  cases h1
  subst h2
  exact zcatch (x := (0, 10, 13, 13)) (hs := []) (i := 4) (n2 := 2) rfl wi_547 (by decide) (by decide) (Or.inr ⟨dL_trial_13, rfl⟩) (by decide) dL_trial_15 rfl dL_trial_16 rfl ⟨rfl, rfl⟩
theorem cwn_span (p0 : Int32) (p1 : Int32) (v0 : Int32) (hc : Ct G GAM mX9_span d 1 [.ref 0, .int p0, .int p1] I0 (RC v0)) : CtW G GAM mL_span [(0, 10, 13, 13)] (d + 1) 1 [.ref 0, .int p0, .int p1, .ref 107] I0 (RW v0) := by
  refine CtW.mk [some (.ref 0), some (.int p0), some (.int p1), some (.ref 107), none] ?_
  refine Rn.aload_n dL_span_0 rfl rfl ?_
  refine Rn.iconst (v := (nI 0)) dL_span_1 rfl ?_
  refine Rn.aload_n dL_span_2 rfl rfl ?_
  refine Rn.iload_n dL_span_3 rfl rfl ?_
  refine Rn.iload_n dL_span_4 rfl rfl ?_
  refine Rn.callVx (b := 0) (mc := 1) (As := [_, _]) dL_span_5 mv_L_117 (by first | rfl | exact gC0 (by assumption) | exact gL0 (by assumption)) rfl rfl rfl (Nat.le_of_ble_eq_true rfl) hc (fun E J q => nomatch q.1) (fun v J q => ?_)
  obtain ⟨e1, hJ⟩ := q
  cases e1
  refine Rn.i2l dL_span_8 ?_
  refine Rn.last dL_span_9 (by first | rfl | exact gC1 (by assumption) | exact gC2 (by assumption) | exact gC3 (by assumption) | exact gL1 (by assumption) | exact gL2 (by assumption) | exact gL3 (by assumption) | exact gL4 (by assumption) | exact gL5 (by assumption) | exact gL6 (by assumption)) (by decide) (by decide) ?_
  refine Rn.goto 17 dL_span_10 (by decide) ?_
  refine Rn.iconst (v := (nI 0)) dL_span_17 rfl ?_
  exact Rn.hret dL_span_18 rfl (⟨rfl, fun c h1 h2 => by rw [zup_ne _ _ (by omega)]; exact hJ c h1, rfl⟩)
theorem cwt_span (p0 : Int32) (p1 : Int32) (hc : Ct G GAM mX9_span d 1 [.ref 0, .int p0, .int p1] I0 (Rx "java/lang/IllegalArgumentException" I0)) : CtW G GAM mL_span [(0, 10, 13, 13)] (d + 1) 1 [.ref 0, .int p0, .int p1, .ref 107] I0 (Rp (some (.int (nI 1))) I0) := by
  refine CtW.mk [some (.ref 0), some (.int p0), some (.int p1), some (.ref 107), none] ?_
  refine Rn.aload_n dL_span_0 rfl rfl ?_
  refine Rn.iconst (v := (nI 0)) dL_span_1 rfl ?_
  refine Rn.aload_n dL_span_2 rfl rfl ?_
  refine Rn.iload_n dL_span_3 rfl rfl ?_
  refine Rn.iload_n dL_span_4 rfl rfl ?_
  refine Rn.callVx (b := 0) (mc := 1) (As := [_, _]) dL_span_5 mv_L_117 (by first | rfl | exact gC0 (by assumption) | exact gL0 (by assumption)) rfl rfl rfl (Nat.le_of_ble_eq_true rfl) hc (fun E J h => ?_) (fun _ _ h => nomatch h.1)
  obtain ⟨h1, h2⟩ := h
  cases h1
  subst h2
  exact zcatch (x := (0, 10, 13, 13)) (hs := []) (i := 4) (n2 := 2) rfl wi_547 (by decide) (by decide) (Or.inr ⟨dL_span_13, rfl⟩) (by decide) dL_span_15 rfl dL_span_16 rfl ⟨rfl, rfl⟩
theorem cwn_log (p0 : Int32) (p1 : Int32) (v0 : Int32) (hc : Ct G GAM mX9_log d 1 [.ref 0, .int p0, .int p1] I0 (RC v0)) : CtW G GAM mL_log [(0, 10, 13, 26)] (d + 1) 1 [.ref 0, .int p0, .int p1, .ref 107] I0 (RW v0) := by
  refine CtW.mk [some (.ref 0), some (.int p0), some (.int p1), some (.ref 107), none] ?_
  refine Rn.aload_n dL_log_0 rfl rfl ?_
  refine Rn.iconst (v := (nI 0)) dL_log_1 rfl ?_
  refine Rn.aload_n dL_log_2 rfl rfl ?_
  refine Rn.iload_n dL_log_3 rfl rfl ?_
  refine Rn.iload_n dL_log_4 rfl rfl ?_
  refine Rn.callVx (b := 0) (mc := 1) (As := [_, _]) dL_log_5 mv_L_123 (by first | rfl | exact gC0 (by assumption) | exact gL0 (by assumption)) rfl rfl rfl (Nat.le_of_ble_eq_true rfl) hc (fun E J q => nomatch q.1) (fun v J q => ?_)
  obtain ⟨e1, hJ⟩ := q
  cases e1
  refine Rn.i2l dL_log_8 ?_
  refine Rn.last dL_log_9 (by first | rfl | exact gC1 (by assumption) | exact gC2 (by assumption) | exact gC3 (by assumption) | exact gL1 (by assumption) | exact gL2 (by assumption) | exact gL3 (by assumption) | exact gL4 (by assumption) | exact gL5 (by assumption) | exact gL6 (by assumption)) (by decide) (by decide) ?_
  refine Rn.goto 17 dL_log_10 (by decide) ?_
  refine Rn.iconst (v := (nI 0)) dL_log_17 rfl ?_
  exact Rn.hret dL_log_18 rfl (⟨rfl, fun c h1 h2 => by rw [zup_ne _ _ (by omega)]; exact hJ c h1, rfl⟩)
end WrapB
