theorem dX10_trial_0 : decode cX10_trial 0 = .ok (.aload_n 0, 1) := by decide +kernel
theorem dX10_trial_1 : decode cX10_trial 1 = .ok (.iconst 0, 1) := by decide +kernel
theorem dX10_trial_2 : decode cX10_trial 2 = .ok (.putfield 3, 3) := by decide +kernel
theorem dX10_trial_5 : decode cX10_trial 5 = .ok (.aload_n 0, 1) := by decide +kernel
theorem dX10_trial_6 : decode cX10_trial 6 = .ok (.iload_n 1, 1) := by decide +kernel
theorem dX10_trial_7 : decode cX10_trial 7 = .ok (.iconst 0, 1) := by decide +kernel
theorem dX10_trial_8 : decode cX10_trial 8 = .ok (.bipush 60, 2) := by decide +kernel
theorem dX10_trial_10 : decode cX10_trial 10 = .ok (.invokestatic 78, 3) := by decide +kernel
theorem dX10_trial_13 : decode cX10_trial 13 = .ok (.ifCond .ne 7, 3) := by decide +kernel
theorem dX10_trial_20 : decode cX10_trial 20 = .ok (.iconst 0, 1) := by decide +kernel
theorem dX10_trial_21 : decode cX10_trial 21 = .ok (.iconst 1, 1) := by decide +kernel
theorem dX10_trial_22 : decode cX10_trial 22 = .ok (.invokevirtual 241, 3) := by decide +kernel
theorem dX10_trial_25 : decode cX10_trial 25 = .ok (.ifCond .eq 5, 3) := by decide +kernel
theorem dX10_trial_30 : decode cX10_trial 30 = .ok (.aload_n 0, 1) := by decide +kernel
theorem dX10_trial_31 : decode cX10_trial 31 = .ok (.invokevirtual 352, 3) := by decide +kernel
theorem dX10_trial_34 : decode cX10_trial 34 = .ok (.aload_n 0, 1) := by decide +kernel
theorem dX10_trial_35 : decode cX10_trial 35 = .ok (.iload_n 1, 1) := by decide +kernel
theorem dX10_trial_36 : decode cX10_trial 36 = .ok (.invokevirtual 336, 3) := by decide +kernel
theorem dX10_trial_39 : decode cX10_trial 39 = .ok (.pop, 1) := by decide +kernel
theorem dX10_trial_40 : decode cX10_trial 40 = .ok (.iload_n 2, 1) := by decide +kernel
theorem dX10_trial_41 : decode cX10_trial 41 = .ok (.ifCond .eq 13, 3) := by decide +kernel
theorem dX10_trial_54 : decode cX10_trial 54 = .ok (.aload_n 0, 1) := by decide +kernel
theorem dX10_trial_55 : decode cX10_trial 55 = .ok (.invokevirtual 419, 3) := by decide +kernel
theorem dX10_trial_58 : decode cX10_trial 58 = .ok (.istore_n 3, 1) := by decide +kernel
theorem dX10_trial_59 : decode cX10_trial 59 = .ok (.aload_n 0, 1) := by decide +kernel
theorem dX10_trial_60 : decode cX10_trial 60 = .ok (.invokevirtual 359, 3) := by decide +kernel
theorem dX10_trial_63 : decode cX10_trial 63 = .ok (.iload_n 3, 1) := by decide +kernel
theorem dX10_trial_64 : decode cX10_trial 64 = .ok (.ireturn, 1) := by decide +kernel
theorem dX10_trial_44 : decode cX10_trial 44 = .ok (.aload_n 0, 1) := by decide +kernel
theorem dX10_trial_45 : decode cX10_trial 45 = .ok (.bipush 7, 2) := by decide +kernel
theorem dX10_trial_47 : decode cX10_trial 47 = .ok (.iconst 1, 1) := by decide +kernel
theorem dX10_trial_48 : decode cX10_trial 48 = .ok (.invokevirtual 278, 3) := by decide +kernel
theorem dX10_trial_51 : decode cX10_trial 51 = .ok (.goto 7, 3) := by decide +kernel
theorem dX10_trial_16 : decode cX10_trial 16 = .ok (.iconst 1, 1) := by decide +kernel
theorem dX10_trial_17 : decode cX10_trial 17 = .ok (.goto 4, 3) := by decide +kernel
theorem dX10_trial_28 : decode cX10_trial 28 = .ok (.iconst 0, 1) := by decide +kernel
theorem dX10_trial_29 : decode cX10_trial 29 = .ok (.ireturn, 1) := by decide +kernel
theorem dX10_span_39 : decode cX10_span 39 = .ok (.iload 4, 2) := by decide +kernel
theorem dX10_span_41 : decode cX10_span 41 = .ok (.bipush 6, 2) := by decide +kernel
theorem dX10_span_43 : decode cX10_span 43 = .ok (.if_icmp .gt 63, 3) := by decide +kernel
theorem dX10_span_106 : decode cX10_span 106 = .ok (.iload_n 3, 1) := by decide +kernel
theorem dX10_span_107 : decode cX10_span 107 = .ok (.ireturn, 1) := by decide +kernel
theorem dX10_span_46 : decode cX10_span 46 = .ok (.aload_n 0, 1) := by decide +kernel
theorem dX10_span_47 : decode cX10_span 47 = .ok (.getfield 13, 3) := by decide +kernel
theorem dX10_span_50 : decode cX10_span 50 = .ok (.bipush 8, 2) := by decide +kernel
theorem dX10_span_52 : decode cX10_span 52 = .ok (.iload 4, 2) := by decide +kernel
theorem dX10_span_54 : decode cX10_span 54 = .ok (.iastore, 1) := by decide +kernel
theorem dX10_span_55 : decode cX10_span 55 = .ok (.aload_n 0, 1) := by decide +kernel
theorem dX10_span_56 : decode cX10_span 56 = .ok (.iload_n 1, 1) := by decide +kernel
theorem dX10_span_57 : decode cX10_span 57 = .ok (.invokevirtual 336, 3) := by decide +kernel
theorem dX10_span_60 : decode cX10_span 60 = .ok (.pop, 1) := by decide +kernel
theorem dX10_span_61 : decode cX10_span 61 = .ok (.aload_n 0, 1) := by decide +kernel
theorem dX10_span_62 : decode cX10_span 62 = .ok (.invokevirtual 419, 3) := by decide +kernel
theorem dX10_span_65 : decode cX10_span 65 = .ok (.istore 5, 2) := by decide +kernel
theorem dX10_span_67 : decode cX10_span 67 = .ok (.aload_n 0, 1) := by decide +kernel
theorem dX10_span_68 : decode cX10_span 68 = .ok (.invokevirtual 359, 3) := by decide +kernel
theorem dX10_span_71 : decode cX10_span 71 = .ok (.iload_n 3, 1) := by decide +kernel
theorem dX10_span_72 : decode cX10_span 72 = .ok (.ifCond .ge 8, 3) := by decide +kernel
theorem dX10_span_80 : decode cX10_span 80 = .ok (.iload_n 2, 1) := by decide +kernel
theorem dX10_span_81 : decode cX10_span 81 = .ok (.ifCond .eq 12, 3) := by decide +kernel
theorem dX10_span_93 : decode cX10_span 93 = .ok (.iload_n 3, 1) := by decide +kernel
theorem dX10_span_94 : decode cX10_span 94 = .ok (.iload 5, 2) := by decide +kernel
theorem dX10_span_96 : decode cX10_span 96 = .ok (.invokestatic 266, 3) := by decide +kernel
theorem dX10_span_99 : decode cX10_span 99 = .ok (.istore_n 3, 1) := by decide +kernel
theorem dX10_span_100 : decode cX10_span 100 = .ok (.iinc 4 1, 3) := by decide +kernel
theorem dX10_span_103 : decode cX10_span 103 = .ok (.goto (-64), 3) := by decide +kernel
theorem dX10_span_84 : decode cX10_span 84 = .ok (.iload_n 3, 1) := by decide +kernel
theorem dX10_span_85 : decode cX10_span 85 = .ok (.iload 5, 2) := by decide +kernel
theorem dX10_span_87 : decode cX10_span 87 = .ok (.invokestatic 372, 3) := by decide +kernel
theorem dX10_span_90 : decode cX10_span 90 = .ok (.goto 9, 3) := by decide +kernel
theorem dX10_span_75 : decode cX10_span 75 = .ok (.iload 5, 2) := by decide +kernel
theorem dX10_span_77 : decode cX10_span 77 = .ok (.goto 22, 3) := by decide +kernel
theorem dX10_span_0 : decode cX10_span 0 = .ok (.aload_n 0, 1) := by decide +kernel
theorem dX10_span_1 : decode cX10_span 1 = .ok (.iconst 0, 1) := by decide +kernel
theorem dX10_span_2 : decode cX10_span 2 = .ok (.putfield 3, 3) := by decide +kernel
theorem dX10_span_5 : decode cX10_span 5 = .ok (.aload_n 0, 1) := by decide +kernel
theorem dX10_span_6 : decode cX10_span 6 = .ok (.iload_n 1, 1) := by decide +kernel
theorem dX10_span_7 : decode cX10_span 7 = .ok (.iconst 0, 1) := by decide +kernel
theorem dX10_span_8 : decode cX10_span 8 = .ok (.bipush 60, 2) := by decide +kernel
theorem dX10_span_10 : decode cX10_span 10 = .ok (.invokestatic 78, 3) := by decide +kernel
theorem dX10_span_13 : decode cX10_span 13 = .ok (.ifCond .ne 7, 3) := by decide +kernel
theorem dX10_span_20 : decode cX10_span 20 = .ok (.iconst 0, 1) := by decide +kernel
theorem dX10_span_21 : decode cX10_span 21 = .ok (.iconst 1, 1) := by decide +kernel
theorem dX10_span_22 : decode cX10_span 22 = .ok (.invokevirtual 241, 3) := by decide +kernel
theorem dX10_span_25 : decode cX10_span 25 = .ok (.ifCond .eq 5, 3) := by decide +kernel
theorem dX10_span_30 : decode cX10_span 30 = .ok (.aload_n 0, 1) := by decide +kernel
theorem dX10_span_31 : decode cX10_span 31 = .ok (.invokevirtual 352, 3) := by decide +kernel
theorem dX10_span_34 : decode cX10_span 34 = .ok (.iconst (-1), 1) := by decide +kernel
theorem dX10_span_35 : decode cX10_span 35 = .ok (.istore_n 3, 1) := by decide +kernel
theorem dX10_span_36 : decode cX10_span 36 = .ok (.iconst 1, 1) := by decide +kernel
theorem dX10_span_37 : decode cX10_span 37 = .ok (.istore 4, 2) := by decide +kernel
theorem dX10_span_16 : decode cX10_span 16 = .ok (.iconst 1, 1) := by decide +kernel
theorem dX10_span_17 : decode cX10_span 17 = .ok (.goto 4, 3) := by decide +kernel
theorem dX10_span_28 : decode cX10_span 28 = .ok (.iconst 0, 1) := by decide +kernel
theorem dX10_span_29 : decode cX10_span 29 = .ok (.ireturn, 1) := by decide +kernel
theorem dX10_spent_69 : decode cX10_spent 69 = .ok (.aload_n 0, 1) := by decide +kernel
theorem dX10_spent_70 : decode cX10_spent 70 = .ok (.invokevirtual 359, 3) := by decide +kernel
theorem dX10_spent_73 : decode cX10_spent 73 = .ok (.iload_n 2, 1) := by decide +kernel
theorem dX10_spent_74 : decode cX10_spent 74 = .ok (.ireturn, 1) := by decide +kernel
theorem dX10_spent_28 : decode cX10_spent 28 = .ok (.iload_n 3, 1) := by decide +kernel
theorem dX10_spent_29 : decode cX10_spent 29 = .ok (.bipush 60, 2) := by decide +kernel
theorem dX10_spent_31 : decode cX10_spent 31 = .ok (.if_icmp .gt 38, 3) := by decide +kernel
theorem dX10_spent_34 : decode cX10_spent 34 = .ok (.iload_n 2, 1) := by decide +kernel
theorem dX10_spent_35 : decode cX10_spent 35 = .ok (.iconst (-1), 1) := by decide +kernel
theorem dX10_spent_36 : decode cX10_spent 36 = .ok (.if_icmp .ne 33, 3) := by decide +kernel
theorem dX10_spent_39 : decode cX10_spent 39 = .ok (.aload_n 0, 1) := by decide +kernel
theorem dX10_spent_40 : decode cX10_spent 40 = .ok (.iload_n 1, 1) := by decide +kernel
theorem dX10_spent_41 : decode cX10_spent 41 = .ok (.iconst 0, 1) := by decide +kernel
theorem dX10_spent_42 : decode cX10_spent 42 = .ok (.invokevirtual 71, 3) := by decide +kernel
theorem dX10_spent_45 : decode cX10_spent 45 = .ok (.ifCond .ne 7, 3) := by decide +kernel
theorem dX10_spent_52 : decode cX10_spent 52 = .ok (.iconst (-1), 1) := by decide +kernel
theorem dX10_spent_53 : decode cX10_spent 53 = .ok (.istore_n 2, 1) := by decide +kernel
theorem dX10_spent_54 : decode cX10_spent 54 = .ok (.aload_n 0, 1) := by decide +kernel
theorem dX10_spent_55 : decode cX10_spent 55 = .ok (.iload_n 1, 1) := by decide +kernel
theorem dX10_spent_56 : decode cX10_spent 56 = .ok (.iload_n 3, 1) := by decide +kernel
theorem dX10_spent_57 : decode cX10_spent 57 = .ok (.iload_n 3, 1) := by decide +kernel
theorem dX10_spent_58 : decode cX10_spent 58 = .ok (.iconst 1, 1) := by decide +kernel
theorem dX10_spent_59 : decode cX10_spent 59 = .ok (.iadd, 1) := by decide +kernel
theorem dX10_spent_60 : decode cX10_spent 60 = .ok (.invokevirtual 375, 3) := by decide +kernel
theorem dX10_spent_63 : decode cX10_spent 63 = .ok (.iinc 3 1, 3) := by decide +kernel
theorem dX10_spent_66 : decode cX10_spent 66 = .ok (.goto (-38), 3) := by decide +kernel
theorem dX10_spent_48 : decode cX10_spent 48 = .ok (.iload_n 3, 1) := by decide +kernel
theorem dX10_spent_49 : decode cX10_spent 49 = .ok (.goto 4, 3) := by decide +kernel
theorem dX10_spent_0 : decode cX10_spent 0 = .ok (.aload_n 0, 1) := by decide +kernel
theorem dX10_spent_1 : decode cX10_spent 1 = .ok (.iconst 0, 1) := by decide +kernel
theorem dX10_spent_2 : decode cX10_spent 2 = .ok (.putfield 3, 3) := by decide +kernel
theorem dX10_spent_5 : decode cX10_spent 5 = .ok (.aload_n 0, 1) := by decide +kernel
theorem dX10_spent_6 : decode cX10_spent 6 = .ok (.aload_n 0, 1) := by decide +kernel
theorem dX10_spent_7 : decode cX10_spent 7 = .ok (.iload_n 1, 1) := by decide +kernel
theorem dX10_spent_8 : decode cX10_spent 8 = .ok (.invokevirtual 284, 3) := by decide +kernel
theorem dX10_spent_11 : decode cX10_spent 11 = .ok (.iconst 1, 1) := by decide +kernel
theorem dX10_spent_12 : decode cX10_spent 12 = .ok (.invokevirtual 241, 3) := by decide +kernel
theorem dX10_spent_15 : decode cX10_spent 15 = .ok (.ifCond .eq 5, 3) := by decide +kernel
theorem dX10_spent_20 : decode cX10_spent 20 = .ok (.iconst (-1), 1) := by decide +kernel
theorem dX10_spent_21 : decode cX10_spent 21 = .ok (.istore_n 2, 1) := by decide +kernel
theorem dX10_spent_22 : decode cX10_spent 22 = .ok (.aload_n 0, 1) := by decide +kernel
theorem dX10_spent_23 : decode cX10_spent 23 = .ok (.invokevirtual 352, 3) := by decide +kernel
theorem dX10_spent_26 : decode cX10_spent 26 = .ok (.iconst 0, 1) := by decide +kernel
theorem dX10_spent_27 : decode cX10_spent 27 = .ok (.istore_n 3, 1) := by decide +kernel
theorem dX10_spent_18 : decode cX10_spent 18 = .ok (.iconst 0, 1) := by decide +kernel
theorem dX10_spent_19 : decode cX10_spent 19 = .ok (.ireturn, 1) := by decide +kernel
theorem dX10_reach_122 : decode cX10_reach 122 = .ok (.aload_n 0, 1) := by decide +kernel
theorem dX10_reach_123 : decode cX10_reach 123 = .ok (.invokevirtual 359, 3) := by decide +kernel
theorem dX10_reach_126 : decode cX10_reach 126 = .ok (.iload 5, 2) := by decide +kernel
theorem dX10_reach_128 : decode cX10_reach 128 = .ok (.ireturn, 1) := by decide +kernel
theorem dX10_reach_77 : decode cX10_reach 77 = .ok (.iload 6, 2) := by decide +kernel
theorem dX10_reach_79 : decode cX10_reach 79 = .ok (.bipush 20, 2) := by decide +kernel
theorem dX10_reach_81 : decode cX10_reach 81 = .ok (.if_icmp .gt 41, 3) := by decide +kernel
theorem dX10_reach_84 : decode cX10_reach 84 = .ok (.iload 5, 2) := by decide +kernel
theorem dX10_reach_86 : decode cX10_reach 86 = .ok (.iconst (-1), 1) := by decide +kernel
theorem dX10_reach_87 : decode cX10_reach 87 = .ok (.if_icmp .ne 35, 3) := by decide +kernel
theorem dX10_reach_90 : decode cX10_reach 90 = .ok (.aload_n 0, 1) := by decide +kernel
theorem dX10_reach_91 : decode cX10_reach 91 = .ok (.iload_n 1, 1) := by decide +kernel
theorem dX10_reach_92 : decode cX10_reach 92 = .ok (.iload_n 3, 1) := by decide +kernel
theorem dX10_reach_93 : decode cX10_reach 93 = .ok (.invokevirtual 65, 3) := by decide +kernel
theorem dX10_reach_96 : decode cX10_reach 96 = .ok (.iload 4, 2) := by decide +kernel
theorem dX10_reach_98 : decode cX10_reach 98 = .ok (.if_icmp .lt 8, 3) := by decide +kernel
theorem dX10_reach_106 : decode cX10_reach 106 = .ok (.iconst (-1), 1) := by decide +kernel
theorem dX10_reach_107 : decode cX10_reach 107 = .ok (.istore 5, 2) := by decide +kernel
theorem dX10_reach_109 : decode cX10_reach 109 = .ok (.aload_n 0, 1) := by decide +kernel
theorem dX10_reach_110 : decode cX10_reach 110 = .ok (.iload_n 1, 1) := by decide +kernel
theorem dX10_reach_111 : decode cX10_reach 111 = .ok (.iload_n 2, 1) := by decide +kernel
theorem dX10_reach_112 : decode cX10_reach 112 = .ok (.invokevirtual 320, 3) := by decide +kernel
theorem dX10_reach_115 : decode cX10_reach 115 = .ok (.pop, 1) := by decide +kernel
theorem dX10_reach_116 : decode cX10_reach 116 = .ok (.iinc 6 1, 3) := by decide +kernel
theorem dX10_reach_119 : decode cX10_reach 119 = .ok (.goto (-42), 3) := by decide +kernel
theorem dX10_reach_101 : decode cX10_reach 101 = .ok (.iload 6, 2) := by decide +kernel
theorem dX10_reach_103 : decode cX10_reach 103 = .ok (.goto 4, 3) := by decide +kernel
theorem dX10_reach_0 : decode cX10_reach 0 = .ok (.aload_n 0, 1) := by decide +kernel
theorem dX10_reach_1 : decode cX10_reach 1 = .ok (.iconst 0, 1) := by decide +kernel
theorem dX10_reach_2 : decode cX10_reach 2 = .ok (.putfield 3, 3) := by decide +kernel
theorem dX10_reach_5 : decode cX10_reach 5 = .ok (.aload_n 0, 1) := by decide +kernel
theorem dX10_reach_6 : decode cX10_reach 6 = .ok (.aload_n 0, 1) := by decide +kernel
theorem dX10_reach_7 : decode cX10_reach 7 = .ok (.iload_n 1, 1) := by decide +kernel
theorem dX10_reach_8 : decode cX10_reach 8 = .ok (.invokevirtual 275, 3) := by decide +kernel
theorem dX10_reach_11 : decode cX10_reach 11 = .ok (.ifCond .ne 18, 3) := by decide +kernel
theorem dX10_reach_29 : decode cX10_reach 29 = .ok (.iconst 1, 1) := by decide +kernel
theorem dX10_reach_30 : decode cX10_reach 30 = .ok (.goto 4, 3) := by decide +kernel
theorem dX10_reach_34 : decode cX10_reach 34 = .ok (.iconst 1, 1) := by decide +kernel
theorem dX10_reach_35 : decode cX10_reach 35 = .ok (.invokevirtual 241, 3) := by decide +kernel
theorem dX10_reach_38 : decode cX10_reach 38 = .ok (.ifCond .ne 27, 3) := by decide +kernel
theorem dX10_reach_65 : decode cX10_reach 65 = .ok (.iconst 0, 1) := by decide +kernel
theorem dX10_reach_66 : decode cX10_reach 66 = .ok (.ireturn, 1) := by decide +kernel
theorem dX10_reach_14 : decode cX10_reach 14 = .ok (.aload_n 0, 1) := by decide +kernel
theorem dX10_reach_15 : decode cX10_reach 15 = .ok (.iload_n 2, 1) := by decide +kernel
theorem dX10_reach_16 : decode cX10_reach 16 = .ok (.invokevirtual 284, 3) := by decide +kernel
theorem dX10_reach_19 : decode cX10_reach 19 = .ok (.ifCond .ne 10, 3) := by decide +kernel
theorem dX10_reach_22 : decode cX10_reach 22 = .ok (.iload_n 3, 1) := by decide +kernel
theorem dX10_reach_23 : decode cX10_reach 23 = .ok (.invokestatic 293, 3) := by decide +kernel
theorem dX10_reach_26 : decode cX10_reach 26 = .ok (.ifCond .eq 7, 3) := by decide +kernel
theorem dX10_reach_33 : decode cX10_reach 33 = .ok (.iconst 0, 1) := by decide +kernel
theorem dX10_reach_41 : decode cX10_reach 41 = .ok (.aload_n 0, 1) := by decide +kernel
theorem dX10_reach_42 : decode cX10_reach 42 = .ok (.iload 4, 2) := by decide +kernel
theorem dX10_reach_44 : decode cX10_reach 44 = .ok (.iconst 1, 1) := by decide +kernel
theorem dX10_reach_45 : decode cX10_reach 45 = .ok (.bipush 99, 2) := by decide +kernel
theorem dX10_reach_47 : decode cX10_reach 47 = .ok (.invokestatic 78, 3) := by decide +kernel
theorem dX10_reach_50 : decode cX10_reach 50 = .ok (.ifCond .ne 7, 3) := by decide +kernel
theorem dX10_reach_53 : decode cX10_reach 53 = .ok (.iconst 1, 1) := by decide +kernel
theorem dX10_reach_54 : decode cX10_reach 54 = .ok (.goto 4, 3) := by decide +kernel
theorem dX10_reach_58 : decode cX10_reach 58 = .ok (.iconst 2, 1) := by decide +kernel
theorem dX10_reach_59 : decode cX10_reach 59 = .ok (.invokevirtual 241, 3) := by decide +kernel
theorem dX10_reach_62 : decode cX10_reach 62 = .ok (.ifCond .eq 5, 3) := by decide +kernel
theorem dX10_reach_57 : decode cX10_reach 57 = .ok (.iconst 0, 1) := by decide +kernel
theorem dX10_reach_67 : decode cX10_reach 67 = .ok (.iconst (-1), 1) := by decide +kernel
theorem dX10_reach_68 : decode cX10_reach 68 = .ok (.istore 5, 2) := by decide +kernel
theorem dX10_reach_70 : decode cX10_reach 70 = .ok (.aload_n 0, 1) := by decide +kernel
theorem dX10_reach_71 : decode cX10_reach 71 = .ok (.invokevirtual 352, 3) := by decide +kernel
theorem dX10_reach_74 : decode cX10_reach 74 = .ok (.iconst 0, 1) := by decide +kernel
theorem dX10_reach_75 : decode cX10_reach 75 = .ok (.istore 6, 2) := by decide +kernel
/-! trial, span, reach, spent, bringsTo of the reference -/
section Bcj
variable (G : Gx) (d : Nat)
theorem bk_trial (I : Hi) (hB : BX I) (hX : XM I) (y z : Int32) : Ct G GAM mX10_trial (d + 10) 0 [.ref 94, .int y, .int z] I (Rv (fun v J => (∃ r, v = some (.int r)) ∧ BK I J)) := by
  have T := BK.thr hB hX (nI 0)
  refine Ct.mk [some (.ref 94), some (.int y), some (.int z), none] ?_
  by_cases h2 : nI 0 ≤ y ∧ y ≤ nI 60
  · have hy : inIv (0, 60) y := ⟨Int32.le_iff_toInt_le.mp h2.1, Int32.le_iff_toInt_le.mp h2.2⟩
    refine Rn.aload_n dX10_trial_0 rfl rfl ?_
    refine Rn.iconst (v := (nI 0)) dX10_trial_1 rfl ?_
    refine Rn.putI dX10_trial_2 fp_X10_3_9 (by first | rfl | exact gC0 (by assumption) | exact gL0 (by assumption)) rfl ?_
    refine Rn.aload_n dX10_trial_5 rfl rfl ?_
    refine Rn.iload_n dX10_trial_6 rfl rfl ?_
    refine Rn.iconst (v := (nI 0)) dX10_trial_7 rfl ?_
    refine Rn.bipush (v := (nI 60)) dX10_trial_8 rfl ?_
    refine Rn.callSp (As := [_, _, _]) dX10_trial_10 ms_X10_78 rfl rfl (Nat.le_of_ble_eq_true rfl) (ct_in G _ _ _ _ _) ?_
    refine Rn.topI (nI 1) (by exact bI_t h2) ?_
    refine Rn.if_ne (tgt := 20) dX10_trial_13 (by decide) (fun _ => ?_) (fun h9 => absurd h9 (by decide))
    refine Rn.iconst (v := (nI 0)) dX10_trial_20 rfl ?_
    refine Rn.iconst (v := (nI 1)) dX10_trial_21 rfl ?_
    refine Rn.callVp (As := [_, _]) dX10_trial_22 mv_X10_241 (by first | rfl | exact gC0 (by assumption) | exact gL0 (by assumption)) rfl rfl rfl (Nat.le_of_ble_eq_true rfl) (ct_thI0 G _ _ _) ?_
    refine Rn.if_eq (tgt := 30) dX10_trial_25 (by decide) (fun _ => ?_) (fun h9 => absurd h9 (by decide))
    refine Rn.aload_n dX10_trial_30 rfl rfl ?_
    refine Rn.callVp (As := []) dX10_trial_31 mv_X10_352 (by first | rfl | exact gC0 (by assumption) | exact gL0 (by assumption)) rfl rfl rfl (Nat.le_of_ble_eq_true rfl) (ct_keepsAll G _ _) ?_
    refine Rn.aload_n dX10_trial_34 rfl rfl ?_
    refine Rn.iload_n dX10_trial_35 rfl rfl ?_
    refine Rn.callV (As := [_]) dX10_trial_36 mv_X10_336 (by first | rfl | exact gC0 (by assumption) | exact gL0 (by assumption)) rfl rfl rfl (Nat.le_of_ble_eq_true rfl) (sb_goesOn G d (MK.keeps T.1 T.2.1 T.2.2) y hy) (fun _ _ h => h) (fun v J h => ?_)
    obtain ⟨⟨r, rfl⟩, hK⟩ := h
    refine Rn.pop dX10_trial_39 rfl ?_
    refine Rn.iload_n dX10_trial_40 rfl rfl ?_
    refine Rn.if_eq (tgt := 54) dX10_trial_41 (by decide) (fun h3 => ?_) (fun h3 => ?_)
    · refine Rn.aload_n dX10_trial_54 rfl rfl ?_
      refine Rn.callV (As := []) dX10_trial_55 mv_X10_419 (by first | rfl | exact gC0 (by assumption) | exact gL0 (by assumption)) rfl rfl rfl (Nat.le_of_ble_eq_true rfl) (sb_luckOfAll G (d + 6) hK) (fun _ _ h => h) (fun v J h => ?_)
      obtain ⟨⟨r2, rfl⟩, hK2⟩ := h
      refine Rn.istore_n dX10_trial_58 rfl (by decide) ?_
      refine Rn.aload_n dX10_trial_59 rfl rfl ?_
      refine Rn.callVp (As := []) dX10_trial_60 mv_X10_359 (by first | rfl | exact gC0 (by assumption) | exact gL0 (by assumption)) rfl rfl rfl (Nat.le_of_ble_eq_true rfl) (ct_bringsBack G _ _) ?_
      refine Rn.iload_n dX10_trial_63 rfl rfl ?_
      exact Rn.iret dX10_trial_64 rfl (⟨⟨_, rfl⟩, hK2.back⟩)
    · refine Rn.aload_n dX10_trial_44 rfl rfl ?_
      refine Rn.bipush (v := (nI 7)) dX10_trial_45 rfl ?_
      refine Rn.iconst (v := (nI 1)) dX10_trial_47 rfl ?_
      refine Rn.callV (As := [_, _]) dX10_trial_48 mv_X10_278 (by first | rfl | exact gC0 (by assumption) | exact gL0 (by assumption)) rfl rfl rfl (Nat.le_of_ble_eq_true rfl) (sb_thingsBy G (d + 7) hK) (fun _ _ h => h) (fun v J h => ?_)
      obtain ⟨⟨r2, rfl⟩, hK2⟩ := h
      refine Rn.goto 58 dX10_trial_51 (by decide) ?_
      refine Rn.istore_n dX10_trial_58 rfl (by decide) ?_
      refine Rn.aload_n dX10_trial_59 rfl rfl ?_
      refine Rn.callVp (As := []) dX10_trial_60 mv_X10_359 (by first | rfl | exact gC0 (by assumption) | exact gL0 (by assumption)) rfl rfl rfl (Nat.le_of_ble_eq_true rfl) (ct_bringsBack G _ _) ?_
      refine Rn.iload_n dX10_trial_63 rfl rfl ?_
      exact Rn.iret dX10_trial_64 rfl (⟨⟨_, rfl⟩, hK2.back⟩)
  · skip
    refine Rn.aload_n dX10_trial_0 rfl rfl ?_
    refine Rn.iconst (v := (nI 0)) dX10_trial_1 rfl ?_
    refine Rn.putI dX10_trial_2 fp_X10_3_9 (by first | rfl | exact gC0 (by assumption) | exact gL0 (by assumption)) rfl ?_
    refine Rn.aload_n dX10_trial_5 rfl rfl ?_
    refine Rn.iload_n dX10_trial_6 rfl rfl ?_
    refine Rn.iconst (v := (nI 0)) dX10_trial_7 rfl ?_
    refine Rn.bipush (v := (nI 60)) dX10_trial_8 rfl ?_
    refine Rn.callSp (As := [_, _, _]) dX10_trial_10 ms_X10_78 rfl rfl (Nat.le_of_ble_eq_true rfl) (ct_in G _ _ _ _ _) ?_
    refine Rn.topI (nI 0) (by exact bI_f h2) ?_
    refine Rn.if_ne (tgt := 20) dX10_trial_13 (by decide) (fun h9 => absurd h9 (by decide)) (fun _ => ?_)
    refine Rn.iconst (v := (nI 1)) dX10_trial_16 rfl ?_
    refine Rn.goto 21 dX10_trial_17 (by decide) ?_
    refine Rn.iconst (v := (nI 1)) dX10_trial_21 rfl ?_
    refine Rn.callVp (As := [_, _]) dX10_trial_22 mv_X10_241 (by first | rfl | exact gC0 (by assumption) | exact gL0 (by assumption)) rfl rfl rfl (Nat.le_of_ble_eq_true rfl) (ct_thI1 G _ _ _) ?_
    refine Rn.if_eq (tgt := 30) dX10_trial_25 (by decide) (fun h9 => absurd h9 (by decide)) (fun _ => ?_)
    refine Rn.iconst (v := (nI 0)) dX10_trial_28 rfl ?_
    exact Rn.iret dX10_trial_29 rfl (⟨⟨_, rfl⟩, BK.thr2 hB hX _ _⟩)
theorem lp_span (I : Hi) (y z : Int32) (hy : inIv (0, 60) y) : ∀ (m i : Nat) (x3 : Int32) (x5 : Option Value) (K : Hi), i + m = 7 → MK I K → BK I K → Rn G GAM mX10_span (kM G GAM (Rv (fun v J => (∃ r, v = some (.int r)) ∧ BK I J))) (d + 10) 0 39 [some (.ref 94), some (.int y), some (.int z), some (.int x3), some (.int (nI i)), x5] [] K := by
  intro m
  induction m with
  | zero =>
    intro i x3 x5 K hi hK hBK
    refine Rn.iload dX10_span_39 rfl ?_
    refine Rn.bipush (v := (nI 6)) dX10_span_41 rfl ?_
    refine Rn.icmp_gtN dX10_span_43 106 (fun _ => ?_) (fun h9 => by exfalso; omega)
    refine Rn.iload_n dX10_span_106 rfl rfl ?_
    exact Rn.iret dX10_span_107 rfl (⟨⟨_, rfl⟩, hBK⟩)
  | succ m ih =>
    intro i x3 x5 K hi hK hBK
    refine Rn.iload dX10_span_39 rfl ?_
    refine Rn.bipush (v := (nI 6)) dX10_span_41 rfl ?_
    refine Rn.icmp_gtN dX10_span_43 106 (fun h9 => by exfalso; omega) (fun _ => ?_)
    refine Rn.aload_n dX10_span_46 rfl rfl ?_
    refine Rn.getR dX10_span_47 fd_X10_13_9 (by first | rfl | exact gC0 (by assumption) | exact gL0 (by assumption)) rfl ?_
    refine Rn.bipush (v := (nI 8)) dX10_span_50 rfl ?_
    refine Rn.iload dX10_span_52 rfl ?_
    refine Rn.iastN dX10_span_54 (by first | rfl | exact gC1 (by assumption) | exact gC2 (by assumption) | exact gC3 (by assumption) | exact gL1 (by assumption) | exact gL2 (by assumption) | exact gL3 (by assumption) | exact gL4 (by assumption) | exact gL5 (by assumption) | exact gL6 (by assumption)) ?_
    refine Rn.aload_n dX10_span_55 rfl rfl ?_
    refine Rn.iload_n dX10_span_56 rfl rfl ?_
    refine Rn.callV (As := [_]) dX10_span_57 mv_X10_336 (by first | rfl | exact gC0 (by assumption) | exact gL0 (by assumption)) rfl rfl rfl (Nat.le_of_ble_eq_true rfl) (sb_goesOn G d (hK.up (j := 8) (by decide) (inIv_F _)) y hy) (fun _ _ h => h) (fun v J h => ?_)
    obtain ⟨⟨r, rfl⟩, hK1⟩ := h
    refine Rn.pop dX10_span_60 rfl ?_
    refine Rn.aload_n dX10_span_61 rfl rfl ?_
    refine Rn.callV (As := []) dX10_span_62 mv_X10_419 (by first | rfl | exact gC0 (by assumption) | exact gL0 (by assumption)) rfl rfl rfl (Nat.le_of_ble_eq_true rfl) (sb_luckOfAll G (d + 6) hK1) (fun _ _ h => h) (fun v J h => ?_)
    obtain ⟨⟨r2, rfl⟩, hK2⟩ := h
    refine Rn.istore dX10_span_65 (by decide) ?_
    refine Rn.aload_n dX10_span_67 rfl rfl ?_
    refine Rn.callVp (As := []) dX10_span_68 mv_X10_359 (by first | rfl | exact gC0 (by assumption) | exact gL0 (by assumption)) rfl rfl rfl (Nat.le_of_ble_eq_true rfl) (ct_bringsBack G _ _) ?_
    refine Rn.iload_n dX10_span_71 rfl rfl ?_
    refine Rn.if_ge (tgt := 80) dX10_span_72 (by decide) (fun h3 => ?_) (fun h3 => ?_)
    · refine Rn.iload_n dX10_span_80 rfl rfl ?_
      refine Rn.if_eq (tgt := 93) dX10_span_81 (by decide) (fun h4 => ?_) (fun h4 => ?_)
      · refine Rn.iload_n dX10_span_93 rfl rfl ?_
        refine Rn.iload dX10_span_94 rfl ?_
        refine Rn.mmin dX10_span_96 ms_X10_266 (Nat.le_of_ble_eq_true rfl) ?_
        refine Rn.istore_n dX10_span_99 rfl (by decide) ?_
        refine Rn.iincN dX10_span_100 rfl (by decide) ?_
        refine Rn.goto 39 dX10_span_103 (by decide) ?_
        exact ih (i + 1) _ _ _ (by omega) hK2.again hK2.back
      · refine Rn.iload_n dX10_span_84 rfl rfl ?_
        refine Rn.iload dX10_span_85 rfl ?_
        refine Rn.mmax dX10_span_87 ms_X10_372 (Nat.le_of_ble_eq_true rfl) ?_
        refine Rn.goto 99 dX10_span_90 (by decide) ?_
        refine Rn.istore_n dX10_span_99 rfl (by decide) ?_
        refine Rn.iincN dX10_span_100 rfl (by decide) ?_
        refine Rn.goto 39 dX10_span_103 (by decide) ?_
        exact ih (i + 1) _ _ _ (by omega) hK2.again hK2.back
    · refine Rn.iload dX10_span_75 rfl ?_
      refine Rn.goto 99 dX10_span_77 (by decide) ?_
      refine Rn.istore_n dX10_span_99 rfl (by decide) ?_
      refine Rn.iincN dX10_span_100 rfl (by decide) ?_
      refine Rn.goto 39 dX10_span_103 (by decide) ?_
      exact ih (i + 1) _ _ _ (by omega) hK2.again hK2.back
theorem bk_span (I : Hi) (hB : BX I) (hX : XM I) (y z : Int32) : Ct G GAM mX10_span (d + 10) 0 [.ref 94, .int y, .int z] I (Rv (fun v J => (∃ r, v = some (.int r)) ∧ BK I J)) := by
  have T := BK.thr hB hX (nI 0)
  refine Ct.mk [some (.ref 94), some (.int y), some (.int z), none, none, none] ?_
  by_cases h2 : nI 0 ≤ y ∧ y ≤ nI 60
  · have hy : inIv (0, 60) y := ⟨Int32.le_iff_toInt_le.mp h2.1, Int32.le_iff_toInt_le.mp h2.2⟩
    refine Rn.aload_n dX10_span_0 rfl rfl ?_
    refine Rn.iconst (v := (nI 0)) dX10_span_1 rfl ?_
    refine Rn.putI dX10_span_2 fp_X10_3_9 (by first | rfl | exact gC0 (by assumption) | exact gL0 (by assumption)) rfl ?_
    refine Rn.aload_n dX10_span_5 rfl rfl ?_
    refine Rn.iload_n dX10_span_6 rfl rfl ?_
    refine Rn.iconst (v := (nI 0)) dX10_span_7 rfl ?_
    refine Rn.bipush (v := (nI 60)) dX10_span_8 rfl ?_
    refine Rn.callSp (As := [_, _, _]) dX10_span_10 ms_X10_78 rfl rfl (Nat.le_of_ble_eq_true rfl) (ct_in G _ _ _ _ _) ?_
    refine Rn.topI (nI 1) (by exact bI_t h2) ?_
    refine Rn.if_ne (tgt := 20) dX10_span_13 (by decide) (fun _ => ?_) (fun h9 => absurd h9 (by decide))
    refine Rn.iconst (v := (nI 0)) dX10_span_20 rfl ?_
    refine Rn.iconst (v := (nI 1)) dX10_span_21 rfl ?_
    refine Rn.callVp (As := [_, _]) dX10_span_22 mv_X10_241 (by first | rfl | exact gC0 (by assumption) | exact gL0 (by assumption)) rfl rfl rfl (Nat.le_of_ble_eq_true rfl) (ct_thI0 G _ _ _) ?_
    refine Rn.if_eq (tgt := 30) dX10_span_25 (by decide) (fun _ => ?_) (fun h9 => absurd h9 (by decide))
    refine Rn.aload_n dX10_span_30 rfl rfl ?_
    refine Rn.callVp (As := []) dX10_span_31 mv_X10_352 (by first | rfl | exact gC0 (by assumption) | exact gL0 (by assumption)) rfl rfl rfl (Nat.le_of_ble_eq_true rfl) (ct_keepsAll G _ _) ?_
    refine Rn.iconst (v := (-1)) dX10_span_34 rfl ?_
    refine Rn.istore_n dX10_span_35 rfl (by decide) ?_
    refine Rn.iconst (v := (nI 1)) dX10_span_36 rfl ?_
    refine Rn.istore dX10_span_37 (by decide) ?_
    have hM := MK.keeps T.1 T.2.1 T.2.2
    refine lp_span G d I y z hy 6 1 _ _ _ rfl hM ⟨hM.1, hM.2.1, fun c j hj a1 a2 a3 a4 => ?_⟩
    rw [zset_ne _ _ a1]
    exact T.2.2 c j hj a1 a2 a3 a4
  · skip
    refine Rn.aload_n dX10_span_0 rfl rfl ?_
    refine Rn.iconst (v := (nI 0)) dX10_span_1 rfl ?_
    refine Rn.putI dX10_span_2 fp_X10_3_9 (by first | rfl | exact gC0 (by assumption) | exact gL0 (by assumption)) rfl ?_
    refine Rn.aload_n dX10_span_5 rfl rfl ?_
    refine Rn.iload_n dX10_span_6 rfl rfl ?_
    refine Rn.iconst (v := (nI 0)) dX10_span_7 rfl ?_
    refine Rn.bipush (v := (nI 60)) dX10_span_8 rfl ?_
    refine Rn.callSp (As := [_, _, _]) dX10_span_10 ms_X10_78 rfl rfl (Nat.le_of_ble_eq_true rfl) (ct_in G _ _ _ _ _) ?_
    refine Rn.topI (nI 0) (by exact bI_f h2) ?_
    refine Rn.if_ne (tgt := 20) dX10_span_13 (by decide) (fun h9 => absurd h9 (by decide)) (fun _ => ?_)
    refine Rn.iconst (v := (nI 1)) dX10_span_16 rfl ?_
    refine Rn.goto 21 dX10_span_17 (by decide) ?_
    refine Rn.iconst (v := (nI 1)) dX10_span_21 rfl ?_
    refine Rn.callVp (As := [_, _]) dX10_span_22 mv_X10_241 (by first | rfl | exact gC0 (by assumption) | exact gL0 (by assumption)) rfl rfl rfl (Nat.le_of_ble_eq_true rfl) (ct_thI1 G _ _ _) ?_
    refine Rn.if_eq (tgt := 30) dX10_span_25 (by decide) (fun h9 => absurd h9 (by decide)) (fun _ => ?_)
    refine Rn.iconst (v := (nI 0)) dX10_span_28 rfl ?_
    exact Rn.iret dX10_span_29 rfl (⟨⟨_, rfl⟩, BK.thr2 hB hX _ _⟩)
theorem lp_spent (I : Hi) (t : Nat) (ht : t < 8) : ∀ (m i : Nat) (x2 : Int32) (K : Hi), i + m = 61 → MK I K → Rn G GAM mX10_spent (kM G GAM (Rv (fun v J => (∃ r, v = some (.int r)) ∧ BK I J))) (d + 9) 0 28 [some (.ref 94), some (.int (nI t)), some (.int x2), some (.int (nI i))] [] K := by
  have fin : ∀ (x2 : Int32) (x3 : Option Value) (K : Hi), MK I K → Rn G GAM mX10_spent (kM G GAM (Rv (fun v J => (∃ r, v = some (.int r)) ∧ BK I J))) (d + 9) 0 69 [some (.ref 94), some (.int (nI t)), some (.int x2), x3] [] K := by
    intro x2 x3 K hK
    refine Rn.aload_n dX10_spent_69 rfl rfl ?_
    refine Rn.callVp (As := []) dX10_spent_70 mv_X10_359 (by first | rfl | exact gC0 (by assumption) | exact gL0 (by assumption)) rfl rfl rfl (Nat.le_of_ble_eq_true rfl) (ct_bringsBack G _ _) ?_
    refine Rn.iload_n dX10_spent_73 rfl rfl ?_
    exact Rn.iret dX10_spent_74 rfl (⟨⟨_, rfl⟩, hK.back⟩)
  intro m
  induction m with
  | zero =>
    intro i x2 K hi hK
    refine Rn.iload_n dX10_spent_28 rfl rfl ?_
    refine Rn.bipush (v := (nI 60)) dX10_spent_29 rfl ?_
    refine Rn.icmp_gtN dX10_spent_31 69 (fun _ => ?_) (fun h9 => by exfalso; omega)
    exact fin x2 _ K hK
  | succ m ih =>
    intro i x2 K hi hK
    refine Rn.iload_n dX10_spent_28 rfl rfl ?_
    refine Rn.bipush (v := (nI 60)) dX10_spent_29 rfl ?_
    refine Rn.icmp_gtN dX10_spent_31 69 (fun h9 => by exfalso; omega) (fun _ => ?_)
    refine Rn.iload_n dX10_spent_34 rfl rfl ?_
    refine Rn.iconst (v := (-1)) dX10_spent_35 rfl ?_
    refine Rn.icmp_ne (tgt := 69) dX10_spent_36 (by decide) (fun h3 => ?_) (fun h3 => ?_)
    rotate_left
    · refine Rn.aload_n dX10_spent_39 rfl rfl ?_
      refine Rn.iload_n dX10_spent_40 rfl rfl ?_
      refine Rn.iconst (v := (nI 0)) dX10_spent_41 rfl ?_
      refine Rn.callVp (As := [_, _]) dX10_spent_42 mv_X10_71 (by first | rfl | exact gC0 (by assumption) | exact gL0 (by assumption)) rfl rfl rfl (Nat.le_of_ble_eq_true rfl) (ct_ofThing G _ _ _ _ (by omega)) ?_
      refine Rn.if_ne (tgt := 52) dX10_spent_45 (by decide) (fun h4 => ?_) (fun h4 => ?_)
      · refine Rn.iconst (v := (-1)) dX10_spent_52 rfl ?_
        refine Rn.istore_n dX10_spent_53 rfl (by decide) ?_
        refine Rn.aload_n dX10_spent_54 rfl rfl ?_
        refine Rn.iload_n dX10_spent_55 rfl rfl ?_
        refine Rn.iload_n dX10_spent_56 rfl rfl ?_
        refine Rn.iload_n dX10_spent_57 rfl rfl ?_
        refine Rn.iconst (v := (nI 1)) dX10_spent_58 rfl ?_
        refine Rn.iadd dX10_spent_59 ?_
        refine Rn.topI (nI (i + 1)) (by exact nI_1 i) ?_
        refine Rn.callV (As := [_, _, _]) dX10_spent_60 mv_X10_375 (by first | rfl | exact gC0 (by assumption) | exact gL0 (by assumption)) rfl rfl rfl (Nat.le_of_ble_eq_true rfl) (sb_turnsN G d hK t i ht (by omega)) (fun _ _ h => h) (fun v J h => ?_)
        obtain ⟨rfl, hK2⟩ := h
        refine Rn.iincN dX10_spent_63 rfl (by decide) ?_
        refine Rn.goto 28 dX10_spent_66 (by decide) ?_
        exact ih (i + 1) _ _ (by omega) hK2
      · refine Rn.iload_n dX10_spent_48 rfl rfl ?_
        refine Rn.goto 53 dX10_spent_49 (by decide) ?_
        refine Rn.istore_n dX10_spent_53 rfl (by decide) ?_
        refine Rn.aload_n dX10_spent_54 rfl rfl ?_
        refine Rn.iload_n dX10_spent_55 rfl rfl ?_
        refine Rn.iload_n dX10_spent_56 rfl rfl ?_
        refine Rn.iload_n dX10_spent_57 rfl rfl ?_
        refine Rn.iconst (v := (nI 1)) dX10_spent_58 rfl ?_
        refine Rn.iadd dX10_spent_59 ?_
        refine Rn.topI (nI (i + 1)) (by exact nI_1 i) ?_
        refine Rn.callV (As := [_, _, _]) dX10_spent_60 mv_X10_375 (by first | rfl | exact gC0 (by assumption) | exact gL0 (by assumption)) rfl rfl rfl (Nat.le_of_ble_eq_true rfl) (sb_turnsN G d hK t i ht (by omega)) (fun _ _ h => h) (fun v J h => ?_)
        obtain ⟨rfl, hK2⟩ := h
        refine Rn.iincN dX10_spent_63 rfl (by decide) ?_
        refine Rn.goto 28 dX10_spent_66 (by decide) ?_
        exact ih (i + 1) _ _ (by omega) hK2
    · exact fin x2 _ K hK
theorem bk_spent (I : Hi) (hB : BX I) (hX : XM I) (x : Int32) : Ct G GAM mX10_spent (d + 9) 0 [.ref 94, .int x] I (Rv (fun v J => (∃ r, v = some (.int r)) ∧ BK I J)) := by
  have T := BK.thr hB hX (nI 0)
  refine Ct.mk [some (.ref 94), some (.int x), none, none] ?_
  by_cases h1 : nI 0 ≤ x ∧ x ≤ I 95 1 - nI 1
  · obtain ⟨t, ht, rfl⟩ := th_of (BX.w hB (p := 1) (by decide)) h1
    refine Rn.aload_n dX10_spent_0 rfl rfl ?_
    refine Rn.iconst (v := (nI 0)) dX10_spent_1 rfl ?_
    refine Rn.putI dX10_spent_2 fp_X10_3_9 (by first | rfl | exact gC0 (by assumption) | exact gL0 (by assumption)) rfl ?_
    refine Rn.aload_n dX10_spent_5 rfl rfl ?_
    refine Rn.aload_n dX10_spent_6 rfl rfl ?_
    refine Rn.iload_n dX10_spent_7 rfl rfl ?_
    refine Rn.callVp (As := [_]) dX10_spent_8 mv_X10_284 (by first | rfl | exact gC0 (by assumption) | exact gL0 (by assumption)) rfl rfl rfl (Nat.le_of_ble_eq_true rfl) (ct_noThing G _ _ _) ?_
    refine Rn.topI (nI 0) (by exact bI_f (fun z => z h1)) ?_
    refine Rn.iconst (v := (nI 1)) dX10_spent_11 rfl ?_
    refine Rn.callVp (As := [_, _]) dX10_spent_12 mv_X10_241 (by first | rfl | exact gC0 (by assumption) | exact gL0 (by assumption)) rfl rfl rfl (Nat.le_of_ble_eq_true rfl) (ct_thI0 G _ _ _) ?_
    refine Rn.if_eq (tgt := 20) dX10_spent_15 (by decide) (fun _ => ?_) (fun h9 => absurd h9 (by decide))
    refine Rn.iconst (v := (-1)) dX10_spent_20 rfl ?_
    refine Rn.istore_n dX10_spent_21 rfl (by decide) ?_
    refine Rn.aload_n dX10_spent_22 rfl rfl ?_
    refine Rn.callVp (As := []) dX10_spent_23 mv_X10_352 (by first | rfl | exact gC0 (by assumption) | exact gL0 (by assumption)) rfl rfl rfl (Nat.le_of_ble_eq_true rfl) (ct_keepsAll G _ _) ?_
    refine Rn.iconst (v := (nI 0)) dX10_spent_26 rfl ?_
    refine Rn.istore_n dX10_spent_27 rfl (by decide) ?_
    exact lp_spent G d I t ht 61 0 _ _ rfl (MK.keeps T.1 T.2.1 T.2.2)
  · skip
    refine Rn.aload_n dX10_spent_0 rfl rfl ?_
    refine Rn.iconst (v := (nI 0)) dX10_spent_1 rfl ?_
    refine Rn.putI dX10_spent_2 fp_X10_3_9 (by first | rfl | exact gC0 (by assumption) | exact gL0 (by assumption)) rfl ?_
    refine Rn.aload_n dX10_spent_5 rfl rfl ?_
    refine Rn.aload_n dX10_spent_6 rfl rfl ?_
    refine Rn.iload_n dX10_spent_7 rfl rfl ?_
    refine Rn.callVp (As := [_]) dX10_spent_8 mv_X10_284 (by first | rfl | exact gC0 (by assumption) | exact gL0 (by assumption)) rfl rfl rfl (Nat.le_of_ble_eq_true rfl) (ct_noThing G _ _ _) ?_
    refine Rn.topI (nI 1) (by exact bI_t h1) ?_
    refine Rn.iconst (v := (nI 1)) dX10_spent_11 rfl ?_
    refine Rn.callVp (As := [_, _]) dX10_spent_12 mv_X10_241 (by first | rfl | exact gC0 (by assumption) | exact gL0 (by assumption)) rfl rfl rfl (Nat.le_of_ble_eq_true rfl) (ct_thI1 G _ _ _) ?_
    refine Rn.if_eq (tgt := 20) dX10_spent_15 (by decide) (fun h9 => absurd h9 (by decide)) (fun _ => ?_)
    refine Rn.iconst (v := (nI 0)) dX10_spent_18 rfl ?_
    exact Rn.iret dX10_spent_19 rfl (⟨⟨_, rfl⟩, BK.thr2 hB hX _ _⟩)
theorem lp_reach (I : Hi) (w t s : Nat) (hw : w < 8) (ht : t < 8) (hs : s < 4) (x4 : Int32) : ∀ (m i : Nat) (x5 : Int32) (K : Hi), i + m = 21 → MK I K → Rn G GAM mX10_reach (kM G GAM (Rv (fun v J => (∃ r, v = some (.int r)) ∧ BK I J))) (d + 8) 0 77 [some (.ref 94), some (.int (nI w)), some (.int (nI t)), some (.int (nI s)), some (.int x4), some (.int x5), some (.int (nI i))] [] K := by
  have fin : ∀ (x5 : Int32) (x6 : Option Value) (K : Hi), MK I K → Rn G GAM mX10_reach (kM G GAM (Rv (fun v J => (∃ r, v = some (.int r)) ∧ BK I J))) (d + 8) 0 122 [some (.ref 94), some (.int (nI w)), some (.int (nI t)), some (.int (nI s)), some (.int x4), some (.int x5), x6] [] K := by
    intro x5 x6 K hK
    refine Rn.aload_n dX10_reach_122 rfl rfl ?_
    refine Rn.callVp (As := []) dX10_reach_123 mv_X10_359 (by first | rfl | exact gC0 (by assumption) | exact gL0 (by assumption)) rfl rfl rfl (Nat.le_of_ble_eq_true rfl) (ct_bringsBack G _ _) ?_
    refine Rn.iload dX10_reach_126 rfl ?_
    exact Rn.iret dX10_reach_128 rfl (⟨⟨_, rfl⟩, hK.back⟩)
  intro m
  induction m with
  | zero =>
    intro i x5 K hi hK
    refine Rn.iload dX10_reach_77 rfl ?_
    refine Rn.bipush (v := (nI 20)) dX10_reach_79 rfl ?_
    refine Rn.icmp_gtN dX10_reach_81 122 (fun _ => ?_) (fun h9 => by exfalso; omega)
    exact fin x5 _ K hK
  | succ m ih =>
    intro i x5 K hi hK
    refine Rn.iload dX10_reach_77 rfl ?_
    refine Rn.bipush (v := (nI 20)) dX10_reach_79 rfl ?_
    refine Rn.icmp_gtN dX10_reach_81 122 (fun h9 => by exfalso; omega) (fun _ => ?_)
    refine Rn.iload dX10_reach_84 rfl ?_
    refine Rn.iconst (v := (-1)) dX10_reach_86 rfl ?_
    refine Rn.icmp_ne (tgt := 122) dX10_reach_87 (by decide) (fun h3 => ?_) (fun h3 => ?_)
    rotate_left
    · refine Rn.aload_n dX10_reach_90 rfl rfl ?_
      refine Rn.iload_n dX10_reach_91 rfl rfl ?_
      refine Rn.iload_n dX10_reach_92 rfl rfl ?_
      refine Rn.callVp (As := [_, _]) dX10_reach_93 mv_X10_65 (by first | rfl | exact gC0 (by assumption) | exact gL0 (by assumption)) rfl rfl rfl (Nat.le_of_ble_eq_true rfl) (ct_of G _ _ _ _ (by omega)) ?_
      refine Rn.iload dX10_reach_96 rfl ?_
      refine Rn.icmp_lt (tgt := 106) dX10_reach_98 (by decide) (fun h4 => ?_) (fun h4 => ?_)
      · refine Rn.iconst (v := (-1)) dX10_reach_106 rfl ?_
        refine Rn.istore dX10_reach_107 (by decide) ?_
        refine Rn.aload_n dX10_reach_109 rfl rfl ?_
        refine Rn.iload_n dX10_reach_110 rfl rfl ?_
        refine Rn.iload_n dX10_reach_111 rfl rfl ?_
        refine Rn.callV (As := [_, _]) dX10_reach_112 mv_X10_320 (by first | rfl | exact gC0 (by assumption) | exact gL0 (by assumption)) rfl rfl rfl (Nat.le_of_ble_eq_true rfl) (sb_weds G d hK w t hw ht) (fun _ _ h => h) (fun v J h => ?_)
        obtain ⟨⟨r, rfl⟩, hK2⟩ := h
        refine Rn.pop dX10_reach_115 rfl ?_
        refine Rn.iincN dX10_reach_116 rfl (by decide) ?_
        refine Rn.goto 77 dX10_reach_119 (by decide) ?_
        exact ih (i + 1) _ _ (by omega) hK2
      · refine Rn.iload dX10_reach_101 rfl ?_
        refine Rn.goto 107 dX10_reach_103 (by decide) ?_
        refine Rn.istore dX10_reach_107 (by decide) ?_
        refine Rn.aload_n dX10_reach_109 rfl rfl ?_
        refine Rn.iload_n dX10_reach_110 rfl rfl ?_
        refine Rn.iload_n dX10_reach_111 rfl rfl ?_
        refine Rn.callV (As := [_, _]) dX10_reach_112 mv_X10_320 (by first | rfl | exact gC0 (by assumption) | exact gL0 (by assumption)) rfl rfl rfl (Nat.le_of_ble_eq_true rfl) (sb_weds G d hK w t hw ht) (fun _ _ h => h) (fun v J h => ?_)
        obtain ⟨⟨r, rfl⟩, hK2⟩ := h
        refine Rn.pop dX10_reach_115 rfl ?_
        refine Rn.iincN dX10_reach_116 rfl (by decide) ?_
        refine Rn.goto 77 dX10_reach_119 (by decide) ?_
        exact ih (i + 1) _ _ (by omega) hK2
    · exact fin x5 _ K hK
theorem bk_reach (I : Hi) (hB : BX I) (hX : XM I) (x1 x2 x3 x4 : Int32) : Ct G GAM mX10_reach (d + 8) 0 [.ref 94, .int x1, .int x2, .int x3, .int x4] I (Rv (fun v J => (∃ r, v = some (.int r)) ∧ BK I J)) := by
  have T := BK.thr hB hX (nI 0)
  refine Ct.mk [some (.ref 94), some (.int x1), some (.int x2), some (.int x3), some (.int x4), none, none] ?_
  by_cases h1 : nI 0 ≤ x1 ∧ x1 ≤ I 95 0 - nI 1
  rotate_left
  · skip
    refine Rn.aload_n dX10_reach_0 rfl rfl ?_
    refine Rn.iconst (v := (nI 0)) dX10_reach_1 rfl ?_
    refine Rn.putI dX10_reach_2 fp_X10_3_9 (by first | rfl | exact gC0 (by assumption) | exact gL0 (by assumption)) rfl ?_
    refine Rn.aload_n dX10_reach_5 rfl rfl ?_
    refine Rn.aload_n dX10_reach_6 rfl rfl ?_
    refine Rn.iload_n dX10_reach_7 rfl rfl ?_
    refine Rn.callVp (As := [_]) dX10_reach_8 mv_X10_275 (by first | rfl | exact gC0 (by assumption) | exact gL0 (by assumption)) rfl rfl rfl (Nat.le_of_ble_eq_true rfl) (ct_noWoman G _ _ _) ?_
    refine Rn.topI (nI 1) (by exact bI_t h1) ?_
    refine Rn.if_ne (tgt := 29) dX10_reach_11 (by decide) (fun _ => ?_) (fun h9 => absurd h9 (by decide))
    refine Rn.iconst (v := (nI 1)) dX10_reach_29 rfl ?_
    refine Rn.goto 34 dX10_reach_30 (by decide) ?_
    refine Rn.iconst (v := (nI 1)) dX10_reach_34 rfl ?_
    refine Rn.callVp (As := [_, _]) dX10_reach_35 mv_X10_241 (by first | rfl | exact gC0 (by assumption) | exact gL0 (by assumption)) rfl rfl rfl (Nat.le_of_ble_eq_true rfl) (ct_thI1 G _ _ _) ?_
    refine Rn.if_ne (tgt := 65) dX10_reach_38 (by decide) (fun _ => ?_) (fun h9 => absurd h9 (by decide))
    refine Rn.iconst (v := (nI 0)) dX10_reach_65 rfl ?_
    exact Rn.iret dX10_reach_66 rfl (⟨⟨_, rfl⟩, BK.thr2 hB hX _ _⟩)
  by_cases h2 : nI 0 ≤ x2 ∧ x2 ≤ I 95 1 - nI 1
  rotate_left
  · skip
    refine Rn.aload_n dX10_reach_0 rfl rfl ?_
    refine Rn.iconst (v := (nI 0)) dX10_reach_1 rfl ?_
    refine Rn.putI dX10_reach_2 fp_X10_3_9 (by first | rfl | exact gC0 (by assumption) | exact gL0 (by assumption)) rfl ?_
    refine Rn.aload_n dX10_reach_5 rfl rfl ?_
    refine Rn.aload_n dX10_reach_6 rfl rfl ?_
    refine Rn.iload_n dX10_reach_7 rfl rfl ?_
    refine Rn.callVp (As := [_]) dX10_reach_8 mv_X10_275 (by first | rfl | exact gC0 (by assumption) | exact gL0 (by assumption)) rfl rfl rfl (Nat.le_of_ble_eq_true rfl) (ct_noWoman G _ _ _) ?_
    refine Rn.topI (nI 0) (by exact bI_f (fun z => z h1)) ?_
    refine Rn.if_ne (tgt := 29) dX10_reach_11 (by decide) (fun h9 => absurd h9 (by decide)) (fun _ => ?_)
    refine Rn.aload_n dX10_reach_14 rfl rfl ?_
    refine Rn.iload_n dX10_reach_15 rfl rfl ?_
    refine Rn.callVp (As := [_]) dX10_reach_16 mv_X10_284 (by first | rfl | exact gC0 (by assumption) | exact gL0 (by assumption)) rfl rfl rfl (Nat.le_of_ble_eq_true rfl) (ct_noThing G _ _ _) ?_
    refine Rn.topI (nI 1) (by exact bI_t h2) ?_
    refine Rn.if_ne (tgt := 29) dX10_reach_19 (by decide) (fun _ => ?_) (fun h9 => absurd h9 (by decide))
    refine Rn.iconst (v := (nI 1)) dX10_reach_29 rfl ?_
    refine Rn.goto 34 dX10_reach_30 (by decide) ?_
    refine Rn.iconst (v := (nI 1)) dX10_reach_34 rfl ?_
    refine Rn.callVp (As := [_, _]) dX10_reach_35 mv_X10_241 (by first | rfl | exact gC0 (by assumption) | exact gL0 (by assumption)) rfl rfl rfl (Nat.le_of_ble_eq_true rfl) (ct_thI1 G _ _ _) ?_
    refine Rn.if_ne (tgt := 65) dX10_reach_38 (by decide) (fun _ => ?_) (fun h9 => absurd h9 (by decide))
    refine Rn.iconst (v := (nI 0)) dX10_reach_65 rfl ?_
    exact Rn.iret dX10_reach_66 rfl (⟨⟨_, rfl⟩, BK.thr2 hB hX _ _⟩)
  by_cases h3 : nI 0 ≤ x3 ∧ x3 ≤ nI 3
  rotate_left
  · skip
    refine Rn.aload_n dX10_reach_0 rfl rfl ?_
    refine Rn.iconst (v := (nI 0)) dX10_reach_1 rfl ?_
    refine Rn.putI dX10_reach_2 fp_X10_3_9 (by first | rfl | exact gC0 (by assumption) | exact gL0 (by assumption)) rfl ?_
    refine Rn.aload_n dX10_reach_5 rfl rfl ?_
    refine Rn.aload_n dX10_reach_6 rfl rfl ?_
    refine Rn.iload_n dX10_reach_7 rfl rfl ?_
    refine Rn.callVp (As := [_]) dX10_reach_8 mv_X10_275 (by first | rfl | exact gC0 (by assumption) | exact gL0 (by assumption)) rfl rfl rfl (Nat.le_of_ble_eq_true rfl) (ct_noWoman G _ _ _) ?_
    refine Rn.topI (nI 0) (by exact bI_f (fun z => z h1)) ?_
    refine Rn.if_ne (tgt := 29) dX10_reach_11 (by decide) (fun h9 => absurd h9 (by decide)) (fun _ => ?_)
    refine Rn.aload_n dX10_reach_14 rfl rfl ?_
    refine Rn.iload_n dX10_reach_15 rfl rfl ?_
    refine Rn.callVp (As := [_]) dX10_reach_16 mv_X10_284 (by first | rfl | exact gC0 (by assumption) | exact gL0 (by assumption)) rfl rfl rfl (Nat.le_of_ble_eq_true rfl) (ct_noThing G _ _ _) ?_
    refine Rn.topI (nI 0) (by exact bI_f (fun z => z h2)) ?_
    refine Rn.if_ne (tgt := 29) dX10_reach_19 (by decide) (fun h9 => absurd h9 (by decide)) (fun _ => ?_)
    refine Rn.iload_n dX10_reach_22 rfl rfl ?_
    refine Rn.callSp (As := [_]) dX10_reach_23 ms_X10_293 rfl rfl (Nat.le_of_ble_eq_true rfl) (ct_noSort G _ _ _) ?_
    refine Rn.topI (nI 1) (by exact bI_t h3) ?_
    refine Rn.if_eq (tgt := 33) dX10_reach_26 (by decide) (fun h9 => absurd h9 (by decide)) (fun _ => ?_)
    refine Rn.iconst (v := (nI 1)) dX10_reach_29 rfl ?_
    refine Rn.goto 34 dX10_reach_30 (by decide) ?_
    refine Rn.iconst (v := (nI 1)) dX10_reach_34 rfl ?_
    refine Rn.callVp (As := [_, _]) dX10_reach_35 mv_X10_241 (by first | rfl | exact gC0 (by assumption) | exact gL0 (by assumption)) rfl rfl rfl (Nat.le_of_ble_eq_true rfl) (ct_thI1 G _ _ _) ?_
    refine Rn.if_ne (tgt := 65) dX10_reach_38 (by decide) (fun _ => ?_) (fun h9 => absurd h9 (by decide))
    refine Rn.iconst (v := (nI 0)) dX10_reach_65 rfl ?_
    exact Rn.iret dX10_reach_66 rfl (⟨⟨_, rfl⟩, BK.thr2 hB hX _ _⟩)
  by_cases h4 : nI 1 ≤ x4 ∧ x4 ≤ nI 99
  rotate_left
  · skip
    refine Rn.aload_n dX10_reach_0 rfl rfl ?_
    refine Rn.iconst (v := (nI 0)) dX10_reach_1 rfl ?_
    refine Rn.putI dX10_reach_2 fp_X10_3_9 (by first | rfl | exact gC0 (by assumption) | exact gL0 (by assumption)) rfl ?_
    refine Rn.aload_n dX10_reach_5 rfl rfl ?_
    refine Rn.aload_n dX10_reach_6 rfl rfl ?_
    refine Rn.iload_n dX10_reach_7 rfl rfl ?_
    refine Rn.callVp (As := [_]) dX10_reach_8 mv_X10_275 (by first | rfl | exact gC0 (by assumption) | exact gL0 (by assumption)) rfl rfl rfl (Nat.le_of_ble_eq_true rfl) (ct_noWoman G _ _ _) ?_
    refine Rn.topI (nI 0) (by exact bI_f (fun z => z h1)) ?_
    refine Rn.if_ne (tgt := 29) dX10_reach_11 (by decide) (fun h9 => absurd h9 (by decide)) (fun _ => ?_)
    refine Rn.aload_n dX10_reach_14 rfl rfl ?_
    refine Rn.iload_n dX10_reach_15 rfl rfl ?_
    refine Rn.callVp (As := [_]) dX10_reach_16 mv_X10_284 (by first | rfl | exact gC0 (by assumption) | exact gL0 (by assumption)) rfl rfl rfl (Nat.le_of_ble_eq_true rfl) (ct_noThing G _ _ _) ?_
    refine Rn.topI (nI 0) (by exact bI_f (fun z => z h2)) ?_
    refine Rn.if_ne (tgt := 29) dX10_reach_19 (by decide) (fun h9 => absurd h9 (by decide)) (fun _ => ?_)
    refine Rn.iload_n dX10_reach_22 rfl rfl ?_
    refine Rn.callSp (As := [_]) dX10_reach_23 ms_X10_293 rfl rfl (Nat.le_of_ble_eq_true rfl) (ct_noSort G _ _ _) ?_
    refine Rn.topI (nI 0) (by exact bI_f (fun z => z h3)) ?_
    refine Rn.if_eq (tgt := 33) dX10_reach_26 (by decide) (fun _ => ?_) (fun h9 => absurd h9 (by decide))
    refine Rn.iconst (v := (nI 0)) dX10_reach_33 rfl ?_
    refine Rn.iconst (v := (nI 1)) dX10_reach_34 rfl ?_
    refine Rn.callVp (As := [_, _]) dX10_reach_35 mv_X10_241 (by first | rfl | exact gC0 (by assumption) | exact gL0 (by assumption)) rfl rfl rfl (Nat.le_of_ble_eq_true rfl) (ct_thI0 G _ _ _) ?_
    refine Rn.if_ne (tgt := 65) dX10_reach_38 (by decide) (fun h9 => absurd h9 (by decide)) (fun _ => ?_)
    refine Rn.aload_n dX10_reach_41 rfl rfl ?_
    refine Rn.iload dX10_reach_42 rfl ?_
    refine Rn.iconst (v := (nI 1)) dX10_reach_44 rfl ?_
    refine Rn.bipush (v := (nI 99)) dX10_reach_45 rfl ?_
    refine Rn.callSp (As := [_, _, _]) dX10_reach_47 ms_X10_78 rfl rfl (Nat.le_of_ble_eq_true rfl) (ct_in G _ _ _ _ _) ?_
    refine Rn.topI (nI 0) (by exact bI_f h4) ?_
    refine Rn.if_ne (tgt := 57) dX10_reach_50 (by decide) (fun h9 => absurd h9 (by decide)) (fun _ => ?_)
    refine Rn.iconst (v := (nI 1)) dX10_reach_53 rfl ?_
    refine Rn.goto 58 dX10_reach_54 (by decide) ?_
    refine Rn.iconst (v := (nI 2)) dX10_reach_58 rfl ?_
    refine Rn.callVp (As := [_, _]) dX10_reach_59 mv_X10_241 (by first | rfl | exact gC0 (by assumption) | exact gL0 (by assumption)) rfl rfl rfl (Nat.le_of_ble_eq_true rfl) (ct_thI1 G _ _ _) ?_
    refine Rn.if_eq (tgt := 67) dX10_reach_62 (by decide) (fun h9 => absurd h9 (by decide)) (fun _ => ?_)
    refine Rn.iconst (v := (nI 0)) dX10_reach_65 rfl ?_
    exact Rn.iret dX10_reach_66 rfl (⟨⟨_, rfl⟩, BK.thr2 hB hX _ _⟩)
  obtain ⟨w, hw, rfl⟩ := th_of (BX.w hB (p := 0) (by decide)) h1
  obtain ⟨t, ht, rfl⟩ := th_of (BX.w hB (p := 1) (by decide)) h2
  obtain ⟨s, hs, rfl⟩ := nI_iv (n := 3) (x := x3) ⟨Int32.le_iff_toInt_le.mp h3.1, Int32.le_iff_toInt_le.mp h3.2⟩
  refine Rn.aload_n dX10_reach_0 rfl rfl ?_
  refine Rn.iconst (v := (nI 0)) dX10_reach_1 rfl ?_
  refine Rn.putI dX10_reach_2 fp_X10_3_9 (by first | rfl | exact gC0 (by assumption) | exact gL0 (by assumption)) rfl ?_
  refine Rn.aload_n dX10_reach_5 rfl rfl ?_
  refine Rn.aload_n dX10_reach_6 rfl rfl ?_
  refine Rn.iload_n dX10_reach_7 rfl rfl ?_
  refine Rn.callVp (As := [_]) dX10_reach_8 mv_X10_275 (by first | rfl | exact gC0 (by assumption) | exact gL0 (by assumption)) rfl rfl rfl (Nat.le_of_ble_eq_true rfl) (ct_noWoman G _ _ _) ?_
  refine Rn.topI (nI 0) (by exact bI_f (fun z => z h1)) ?_
  refine Rn.if_ne (tgt := 29) dX10_reach_11 (by decide) (fun h9 => absurd h9 (by decide)) (fun _ => ?_)
  refine Rn.aload_n dX10_reach_14 rfl rfl ?_
  refine Rn.iload_n dX10_reach_15 rfl rfl ?_
  refine Rn.callVp (As := [_]) dX10_reach_16 mv_X10_284 (by first | rfl | exact gC0 (by assumption) | exact gL0 (by assumption)) rfl rfl rfl (Nat.le_of_ble_eq_true rfl) (ct_noThing G _ _ _) ?_
  refine Rn.topI (nI 0) (by exact bI_f (fun z => z h2)) ?_
  refine Rn.if_ne (tgt := 29) dX10_reach_19 (by decide) (fun h9 => absurd h9 (by decide)) (fun _ => ?_)
  refine Rn.iload_n dX10_reach_22 rfl rfl ?_
  refine Rn.callSp (As := [_]) dX10_reach_23 ms_X10_293 rfl rfl (Nat.le_of_ble_eq_true rfl) (ct_noSort G _ _ _) ?_
  refine Rn.topI (nI 0) (by exact bI_f (fun z => z h3)) ?_
  refine Rn.if_eq (tgt := 33) dX10_reach_26 (by decide) (fun _ => ?_) (fun h9 => absurd h9 (by decide))
  refine Rn.iconst (v := (nI 0)) dX10_reach_33 rfl ?_
  refine Rn.iconst (v := (nI 1)) dX10_reach_34 rfl ?_
  refine Rn.callVp (As := [_, _]) dX10_reach_35 mv_X10_241 (by first | rfl | exact gC0 (by assumption) | exact gL0 (by assumption)) rfl rfl rfl (Nat.le_of_ble_eq_true rfl) (ct_thI0 G _ _ _) ?_
  refine Rn.if_ne (tgt := 65) dX10_reach_38 (by decide) (fun h9 => absurd h9 (by decide)) (fun _ => ?_)
  refine Rn.aload_n dX10_reach_41 rfl rfl ?_
  refine Rn.iload dX10_reach_42 rfl ?_
  refine Rn.iconst (v := (nI 1)) dX10_reach_44 rfl ?_
  refine Rn.bipush (v := (nI 99)) dX10_reach_45 rfl ?_
  refine Rn.callSp (As := [_, _, _]) dX10_reach_47 ms_X10_78 rfl rfl (Nat.le_of_ble_eq_true rfl) (ct_in G _ _ _ _ _) ?_
  refine Rn.topI (nI 1) (by exact bI_t h4) ?_
  refine Rn.if_ne (tgt := 57) dX10_reach_50 (by decide) (fun _ => ?_) (fun h9 => absurd h9 (by decide))
  refine Rn.iconst (v := (nI 0)) dX10_reach_57 rfl ?_
  refine Rn.iconst (v := (nI 2)) dX10_reach_58 rfl ?_
  refine Rn.callVp (As := [_, _]) dX10_reach_59 mv_X10_241 (by first | rfl | exact gC0 (by assumption) | exact gL0 (by assumption)) rfl rfl rfl (Nat.le_of_ble_eq_true rfl) (ct_thI0 G _ _ _) ?_
  refine Rn.if_eq (tgt := 67) dX10_reach_62 (by decide) (fun _ => ?_) (fun h9 => absurd h9 (by decide))
  refine Rn.iconst (v := (-1)) dX10_reach_67 rfl ?_
  refine Rn.istore dX10_reach_68 (by decide) ?_
  refine Rn.aload_n dX10_reach_70 rfl rfl ?_
  refine Rn.callVp (As := []) dX10_reach_71 mv_X10_352 (by first | rfl | exact gC0 (by assumption) | exact gL0 (by assumption)) rfl rfl rfl (Nat.le_of_ble_eq_true rfl) (ct_keepsAll G _ _) ?_
  refine Rn.iconst (v := (nI 0)) dX10_reach_74 rfl ?_
  refine Rn.istore dX10_reach_75 (by decide) ?_
  exact lp_reach G d I w t s hw ht (by omega) x4 21 0 _ _ rfl (MK.keeps T.1 T.2.1 T.2.2)
end Bcj
