theorem dX0_setHer_0 : decode cX0_setHer 0 = .ok (.iload_n 1, 1) := by decide +kernel
theorem dX0_setHer_1 : decode cX0_setHer 1 = .ok (.ifCond .lt 31, 3) := by decide +kernel
theorem dX0_setHer_4 : decode cX0_setHer 4 = .ok (.iload_n 1, 1) := by decide +kernel
theorem dX0_setHer_5 : decode cX0_setHer 5 = .ok (.bipush 8, 2) := by decide +kernel
theorem dX0_setHer_7 : decode cX0_setHer 7 = .ok (.if_icmp .ge 25, 3) := by decide +kernel
theorem dX0_setHer_10 : decode cX0_setHer 10 = .ok (.iload_n 2, 1) := by decide +kernel
theorem dX0_setHer_11 : decode cX0_setHer 11 = .ok (.ifCond .lt 21, 3) := by decide +kernel
theorem dX0_setHer_14 : decode cX0_setHer 14 = .ok (.iload_n 2, 1) := by decide +kernel
theorem dX0_setHer_15 : decode cX0_setHer 15 = .ok (.bipush 7, 2) := by decide +kernel
theorem dX0_setHer_17 : decode cX0_setHer 17 = .ok (.if_icmp .ge 15, 3) := by decide +kernel
theorem dX0_setHer_20 : decode cX0_setHer 20 = .ok (.aload_n 0, 1) := by decide +kernel
theorem dX0_setHer_21 : decode cX0_setHer 21 = .ok (.getfield 21, 3) := by decide +kernel
theorem dX0_setHer_24 : decode cX0_setHer 24 = .ok (.iload_n 1, 1) := by decide +kernel
theorem dX0_setHer_25 : decode cX0_setHer 25 = .ok (.bipush 7, 2) := by decide +kernel
theorem dX0_setHer_27 : decode cX0_setHer 27 = .ok (.imul, 1) := by decide +kernel
theorem dX0_setHer_28 : decode cX0_setHer 28 = .ok (.iload_n 2, 1) := by decide +kernel
theorem dX0_setHer_29 : decode cX0_setHer 29 = .ok (.iadd, 1) := by decide +kernel
theorem dX0_setHer_30 : decode cX0_setHer 30 = .ok (.iload_n 3, 1) := by decide +kernel
theorem dX0_setHer_31 : decode cX0_setHer 31 = .ok (.iastore, 1) := by decide +kernel
theorem dX0_setHer_32 : decode cX0_setHer 32 = .ok (.return_, 1) := by decide +kernel
theorem dX0_setIts_0 : decode cX0_setIts 0 = .ok (.iload_n 1, 1) := by decide +kernel
theorem dX0_setIts_1 : decode cX0_setIts 1 = .ok (.ifCond .lt 31, 3) := by decide +kernel
theorem dX0_setIts_4 : decode cX0_setIts 4 = .ok (.iload_n 1, 1) := by decide +kernel
theorem dX0_setIts_5 : decode cX0_setIts 5 = .ok (.bipush 8, 2) := by decide +kernel
theorem dX0_setIts_7 : decode cX0_setIts 7 = .ok (.if_icmp .ge 25, 3) := by decide +kernel
theorem dX0_setIts_10 : decode cX0_setIts 10 = .ok (.iload_n 2, 1) := by decide +kernel
theorem dX0_setIts_11 : decode cX0_setIts 11 = .ok (.ifCond .lt 21, 3) := by decide +kernel
theorem dX0_setIts_14 : decode cX0_setIts 14 = .ok (.iload_n 2, 1) := by decide +kernel
theorem dX0_setIts_15 : decode cX0_setIts 15 = .ok (.bipush 9, 2) := by decide +kernel
theorem dX0_setIts_17 : decode cX0_setIts 17 = .ok (.if_icmp .ge 15, 3) := by decide +kernel
theorem dX0_setIts_20 : decode cX0_setIts 20 = .ok (.aload_n 0, 1) := by decide +kernel
theorem dX0_setIts_21 : decode cX0_setIts 21 = .ok (.getfield 25, 3) := by decide +kernel
theorem dX0_setIts_24 : decode cX0_setIts 24 = .ok (.iload_n 1, 1) := by decide +kernel
theorem dX0_setIts_25 : decode cX0_setIts 25 = .ok (.bipush 9, 2) := by decide +kernel
theorem dX0_setIts_27 : decode cX0_setIts 27 = .ok (.imul, 1) := by decide +kernel
theorem dX0_setIts_28 : decode cX0_setIts 28 = .ok (.iload_n 2, 1) := by decide +kernel
theorem dX0_setIts_29 : decode cX0_setIts 29 = .ok (.iadd, 1) := by decide +kernel
theorem dX0_setIts_30 : decode cX0_setIts 30 = .ok (.iload_n 3, 1) := by decide +kernel
theorem dX0_setIts_31 : decode cX0_setIts 31 = .ok (.iastore, 1) := by decide +kernel
theorem dX0_setIts_32 : decode cX0_setIts 32 = .ok (.return_, 1) := by decide +kernel
theorem dX0_its_0 : decode cX0_its 0 = .ok (.iload_n 1, 1) := by decide +kernel
theorem dX0_its_1 : decode cX0_its 1 = .ok (.ifCond .lt 23, 3) := by decide +kernel
theorem dX0_its_4 : decode cX0_its 4 = .ok (.iload_n 1, 1) := by decide +kernel
theorem dX0_its_5 : decode cX0_its 5 = .ok (.bipush 8, 2) := by decide +kernel
theorem dX0_its_7 : decode cX0_its 7 = .ok (.if_icmp .ge 17, 3) := by decide +kernel
theorem dX0_its_10 : decode cX0_its 10 = .ok (.iload_n 2, 1) := by decide +kernel
theorem dX0_its_11 : decode cX0_its 11 = .ok (.ifCond .lt 13, 3) := by decide +kernel
theorem dX0_its_14 : decode cX0_its 14 = .ok (.iload_n 2, 1) := by decide +kernel
theorem dX0_its_15 : decode cX0_its 15 = .ok (.bipush 9, 2) := by decide +kernel
theorem dX0_its_17 : decode cX0_its 17 = .ok (.if_icmp .ge 7, 3) := by decide +kernel
theorem dX0_its_20 : decode cX0_its 20 = .ok (.iconst 1, 1) := by decide +kernel
theorem dX0_its_21 : decode cX0_its 21 = .ok (.goto 4, 3) := by decide +kernel
theorem dX0_its_25 : decode cX0_its 25 = .ok (.istore_n 3, 1) := by decide +kernel
theorem dX0_its_26 : decode cX0_its 26 = .ok (.iload_n 3, 1) := by decide +kernel
theorem dX0_its_27 : decode cX0_its 27 = .ok (.ifCond .eq 17, 3) := by decide +kernel
theorem dX0_its_30 : decode cX0_its 30 = .ok (.aload_n 0, 1) := by decide +kernel
theorem dX0_its_31 : decode cX0_its 31 = .ok (.getfield 25, 3) := by decide +kernel
theorem dX0_its_34 : decode cX0_its 34 = .ok (.iload_n 1, 1) := by decide +kernel
theorem dX0_its_35 : decode cX0_its 35 = .ok (.bipush 9, 2) := by decide +kernel
theorem dX0_its_37 : decode cX0_its 37 = .ok (.imul, 1) := by decide +kernel
theorem dX0_its_38 : decode cX0_its 38 = .ok (.iload_n 2, 1) := by decide +kernel
theorem dX0_its_39 : decode cX0_its 39 = .ok (.iadd, 1) := by decide +kernel
theorem dX0_its_40 : decode cX0_its 40 = .ok (.iaload, 1) := by decide +kernel
theorem dX0_its_41 : decode cX0_its 41 = .ok (.goto 4, 3) := by decide +kernel
theorem dX0_its_45 : decode cX0_its 45 = .ok (.ireturn, 1) := by decide +kernel
theorem dX1_readsHer_0 : decode cX1_readsHer 0 = .ok (.aload_n 0, 1) := by decide +kernel
theorem dX1_readsHer_1 : decode cX1_readsHer 1 = .ok (.getfield 21, 3) := by decide +kernel
theorem dX1_readsHer_4 : decode cX1_readsHer 4 = .ok (.iload_n 3, 1) := by decide +kernel
theorem dX1_readsHer_5 : decode cX1_readsHer 5 = .ok (.invokevirtual 43, 3) := by decide +kernel
theorem dX1_readsHer_8 : decode cX1_readsHer 8 = .ok (.istore 4, 2) := by decide +kernel
theorem dX1_readsHer_10 : decode cX1_readsHer 10 = .ok (.aload_n 0, 1) := by decide +kernel
theorem dX1_readsHer_11 : decode cX1_readsHer 11 = .ok (.getfield 9, 3) := by decide +kernel
theorem dX1_readsHer_14 : decode cX1_readsHer 14 = .ok (.iload_n 1, 1) := by decide +kernel
theorem dX1_readsHer_15 : decode cX1_readsHer 15 = .ok (.iload_n 2, 1) := by decide +kernel
theorem dX1_readsHer_16 : decode cX1_readsHer 16 = .ok (.iload 4, 2) := by decide +kernel
theorem dX1_readsHer_18 : decode cX1_readsHer 18 = .ok (.invokevirtual 62, 3) := by decide +kernel
theorem dX1_readsHer_21 : decode cX1_readsHer 21 = .ok (.iload 4, 2) := by decide +kernel
theorem dX1_readsHer_23 : decode cX1_readsHer 23 = .ok (.iconst (-1), 1) := by decide +kernel
theorem dX1_readsHer_24 : decode cX1_readsHer 24 = .ok (.if_icmp .eq 7, 3) := by decide +kernel
theorem dX1_readsHer_31 : decode cX1_readsHer 31 = .ok (.iconst 0, 1) := by decide +kernel
theorem dX1_readsHer_32 : decode cX1_readsHer 32 = .ok (.ireturn, 1) := by decide +kernel
theorem dX1_readsHer_27 : decode cX1_readsHer 27 = .ok (.iconst 1, 1) := by decide +kernel
theorem dX1_readsHer_28 : decode cX1_readsHer 28 = .ok (.goto 4, 3) := by decide +kernel
theorem dX1_readsIts_0 : decode cX1_readsIts 0 = .ok (.aload_n 0, 1) := by decide +kernel
theorem dX1_readsIts_1 : decode cX1_readsIts 1 = .ok (.getfield 21, 3) := by decide +kernel
theorem dX1_readsIts_4 : decode cX1_readsIts 4 = .ok (.iload_n 3, 1) := by decide +kernel
theorem dX1_readsIts_5 : decode cX1_readsIts 5 = .ok (.invokevirtual 43, 3) := by decide +kernel
theorem dX1_readsIts_8 : decode cX1_readsIts 8 = .ok (.istore 4, 2) := by decide +kernel
theorem dX1_readsIts_10 : decode cX1_readsIts 10 = .ok (.aload_n 0, 1) := by decide +kernel
theorem dX1_readsIts_11 : decode cX1_readsIts 11 = .ok (.getfield 9, 3) := by decide +kernel
theorem dX1_readsIts_14 : decode cX1_readsIts 14 = .ok (.iload_n 1, 1) := by decide +kernel
theorem dX1_readsIts_15 : decode cX1_readsIts 15 = .ok (.iload_n 2, 1) := by decide +kernel
theorem dX1_readsIts_16 : decode cX1_readsIts 16 = .ok (.iload 4, 2) := by decide +kernel
theorem dX1_readsIts_18 : decode cX1_readsIts 18 = .ok (.invokevirtual 70, 3) := by decide +kernel
theorem dX1_readsIts_21 : decode cX1_readsIts 21 = .ok (.iload 4, 2) := by decide +kernel
theorem dX1_readsIts_23 : decode cX1_readsIts 23 = .ok (.iconst (-1), 1) := by decide +kernel
theorem dX1_readsIts_24 : decode cX1_readsIts 24 = .ok (.if_icmp .eq 7, 3) := by decide +kernel
theorem dX1_readsIts_31 : decode cX1_readsIts 31 = .ok (.iconst 0, 1) := by decide +kernel
theorem dX1_readsIts_32 : decode cX1_readsIts 32 = .ok (.ireturn, 1) := by decide +kernel
theorem dX1_readsIts_27 : decode cX1_readsIts 27 = .ok (.iconst 1, 1) := by decide +kernel
theorem dX1_readsIts_28 : decode cX1_readsIts 28 = .ok (.goto 4, 3) := by decide +kernel
theorem dX1_readsWoman_2 : decode cX1_readsWoman 2 = .ok (.iload_n 2, 1) := by decide +kernel
theorem dX1_readsWoman_3 : decode cX1_readsWoman 3 = .ok (.iconst 4, 1) := by decide +kernel
theorem dX1_readsWoman_4 : decode cX1_readsWoman 4 = .ok (.if_icmp .ge 22, 3) := by decide +kernel
theorem dX1_readsWoman_7 : decode cX1_readsWoman 7 = .ok (.aload_n 0, 1) := by decide +kernel
theorem dX1_readsWoman_8 : decode cX1_readsWoman 8 = .ok (.iload_n 1, 1) := by decide +kernel
theorem dX1_readsWoman_9 : decode cX1_readsWoman 9 = .ok (.iload_n 2, 1) := by decide +kernel
theorem dX1_readsWoman_10 : decode cX1_readsWoman 10 = .ok (.bipush 99, 2) := by decide +kernel
theorem dX1_readsWoman_12 : decode cX1_readsWoman 12 = .ok (.invokevirtual 57, 3) := by decide +kernel
theorem dX1_readsWoman_15 : decode cX1_readsWoman 15 = .ok (.ifCond .ne 5, 3) := by decide +kernel
theorem dX1_readsWoman_18 : decode cX1_readsWoman 18 = .ok (.iconst 0, 1) := by decide +kernel
theorem dX1_readsWoman_19 : decode cX1_readsWoman 19 = .ok (.ireturn, 1) := by decide +kernel
theorem dX1_readsWoman_20 : decode cX1_readsWoman 20 = .ok (.iinc 2 1, 3) := by decide +kernel
theorem dX1_readsWoman_23 : decode cX1_readsWoman 23 = .ok (.goto (-21), 3) := by decide +kernel
theorem dX1_readsWoman_88 : decode cX1_readsWoman 88 = .ok (.aload_n 0, 1) := by decide +kernel
theorem dX1_readsWoman_89 : decode cX1_readsWoman 89 = .ok (.getfield 9, 3) := by decide +kernel
theorem dX1_readsWoman_92 : decode cX1_readsWoman 92 = .ok (.iload_n 1, 1) := by decide +kernel
theorem dX1_readsWoman_93 : decode cX1_readsWoman 93 = .ok (.bipush 6, 2) := by decide +kernel
theorem dX1_readsWoman_95 : decode cX1_readsWoman 95 = .ok (.aload_n 0, 1) := by decide +kernel
theorem dX1_readsWoman_96 : decode cX1_readsWoman 96 = .ok (.getfield 21, 3) := by decide +kernel
theorem dX1_readsWoman_99 : decode cX1_readsWoman 99 = .ok (.ldc 66, 2) := by decide +kernel
theorem dX1_readsWoman_101 : decode cX1_readsWoman 101 = .ok (.invokevirtual 26, 3) := by decide +kernel
theorem dX1_readsWoman_112 : decode cX1_readsWoman 112 = .ok (.invokevirtual 62, 3) := by decide +kernel
theorem dX1_readsWoman_115 : decode cX1_readsWoman 115 = .ok (.aload_n 0, 1) := by decide +kernel
theorem dX1_readsWoman_116 : decode cX1_readsWoman 116 = .ok (.getfield 9, 3) := by decide +kernel
theorem dX1_readsWoman_119 : decode cX1_readsWoman 119 = .ok (.iload_n 1, 1) := by decide +kernel
theorem dX1_readsWoman_120 : decode cX1_readsWoman 120 = .ok (.iconst 1, 1) := by decide +kernel
theorem dX1_readsWoman_121 : decode cX1_readsWoman 121 = .ok (.iadd, 1) := by decide +kernel
theorem dX1_readsWoman_122 : decode cX1_readsWoman 122 = .ok (.putfield 15, 3) := by decide +kernel
theorem dX1_readsWoman_125 : decode cX1_readsWoman 125 = .ok (.iconst 1, 1) := by decide +kernel
theorem dX1_readsWoman_126 : decode cX1_readsWoman 126 = .ok (.ireturn, 1) := by decide +kernel
theorem dX1_readsWoman_104 : decode cX1_readsWoman 104 = .ok (.ifCond .eq 7, 3) := by decide +kernel
theorem dX1_readsWoman_111 : decode cX1_readsWoman 111 = .ok (.iconst 0, 1) := by decide +kernel
theorem dX1_readsWoman_107 : decode cX1_readsWoman 107 = .ok (.iconst 1, 1) := by decide +kernel
theorem dX1_readsWoman_108 : decode cX1_readsWoman 108 = .ok (.goto 4, 3) := by decide +kernel
theorem dX1_readsWoman_26 : decode cX1_readsWoman 26 = .ok (.aload_n 0, 1) := by decide +kernel
theorem dX1_readsWoman_27 : decode cX1_readsWoman 27 = .ok (.getfield 21, 3) := by decide +kernel
theorem dX1_readsWoman_30 : decode cX1_readsWoman 30 = .ok (.ldc 61, 2) := by decide +kernel
theorem dX1_readsWoman_32 : decode cX1_readsWoman 32 = .ok (.invokevirtual 26, 3) := by decide +kernel
theorem dX1_readsWoman_35 : decode cX1_readsWoman 35 = .ok (.ifCond .eq 15, 3) := by decide +kernel
theorem dX1_readsWoman_50 : decode cX1_readsWoman 50 = .ok (.iconst 0, 1) := by decide +kernel
theorem dX1_readsWoman_51 : decode cX1_readsWoman 51 = .ok (.ireturn, 1) := by decide +kernel
theorem dX1_readsWoman_38 : decode cX1_readsWoman 38 = .ok (.aload_n 0, 1) := by decide +kernel
theorem dX1_readsWoman_39 : decode cX1_readsWoman 39 = .ok (.iload_n 1, 1) := by decide +kernel
theorem dX1_readsWoman_40 : decode cX1_readsWoman 40 = .ok (.iconst 4, 1) := by decide +kernel
theorem dX1_readsWoman_41 : decode cX1_readsWoman 41 = .ok (.sipush 999, 3) := by decide +kernel
theorem dX1_readsWoman_44 : decode cX1_readsWoman 44 = .ok (.invokevirtual 57, 3) := by decide +kernel
theorem dX1_readsWoman_47 : decode cX1_readsWoman 47 = .ok (.ifCond .ne 5, 3) := by decide +kernel
theorem dX1_readsWoman_52 : decode cX1_readsWoman 52 = .ok (.aload_n 0, 1) := by decide +kernel
theorem dX1_readsWoman_53 : decode cX1_readsWoman 53 = .ok (.getfield 9, 3) := by decide +kernel
theorem dX1_readsWoman_56 : decode cX1_readsWoman 56 = .ok (.iload_n 1, 1) := by decide +kernel
theorem dX1_readsWoman_57 : decode cX1_readsWoman 57 = .ok (.iconst 5, 1) := by decide +kernel
theorem dX1_readsWoman_58 : decode cX1_readsWoman 58 = .ok (.iconst 0, 1) := by decide +kernel
theorem dX1_readsWoman_59 : decode cX1_readsWoman 59 = .ok (.invokevirtual 62, 3) := by decide +kernel
theorem dX1_readsWoman_62 : decode cX1_readsWoman 62 = .ok (.aload_n 0, 1) := by decide +kernel
theorem dX1_readsWoman_63 : decode cX1_readsWoman 63 = .ok (.getfield 21, 3) := by decide +kernel
theorem dX1_readsWoman_66 : decode cX1_readsWoman 66 = .ok (.sipush 23716, 3) := by decide +kernel
theorem dX1_readsWoman_69 : decode cX1_readsWoman 69 = .ok (.invokevirtual 26, 3) := by decide +kernel
theorem dX1_readsWoman_72 : decode cX1_readsWoman 72 = .ok (.ifCond .eq 16, 3) := by decide +kernel
theorem dX1_readsWoman_75 : decode cX1_readsWoman 75 = .ok (.aload_n 0, 1) := by decide +kernel
theorem dX1_readsWoman_76 : decode cX1_readsWoman 76 = .ok (.iload_n 1, 1) := by decide +kernel
theorem dX1_readsWoman_77 : decode cX1_readsWoman 77 = .ok (.iconst 5, 1) := by decide +kernel
theorem dX1_readsWoman_78 : decode cX1_readsWoman 78 = .ok (.bipush 9, 2) := by decide +kernel
theorem dX1_readsWoman_80 : decode cX1_readsWoman 80 = .ok (.invokevirtual 57, 3) := by decide +kernel
theorem dX1_readsWoman_83 : decode cX1_readsWoman 83 = .ok (.ifCond .ne 5, 3) := by decide +kernel
theorem dX1_readsWoman_86 : decode cX1_readsWoman 86 = .ok (.iconst 0, 1) := by decide +kernel
theorem dX1_readsWoman_87 : decode cX1_readsWoman 87 = .ok (.ireturn, 1) := by decide +kernel
theorem dX1_readsWoman_0 : decode cX1_readsWoman 0 = .ok (.iconst 0, 1) := by decide +kernel
theorem dX1_readsWoman_1 : decode cX1_readsWoman 1 = .ok (.istore_n 2, 1) := by decide +kernel
theorem dX1_readsThing_2 : decode cX1_readsThing 2 = .ok (.iload_n 2, 1) := by decide +kernel
theorem dX1_readsThing_3 : decode cX1_readsThing 3 = .ok (.iconst 4, 1) := by decide +kernel
theorem dX1_readsThing_4 : decode cX1_readsThing 4 = .ok (.if_icmp .ge 22, 3) := by decide +kernel
theorem dX1_readsThing_7 : decode cX1_readsThing 7 = .ok (.aload_n 0, 1) := by decide +kernel
theorem dX1_readsThing_8 : decode cX1_readsThing 8 = .ok (.iload_n 1, 1) := by decide +kernel
theorem dX1_readsThing_9 : decode cX1_readsThing 9 = .ok (.iload_n 2, 1) := by decide +kernel
theorem dX1_readsThing_10 : decode cX1_readsThing 10 = .ok (.bipush 99, 2) := by decide +kernel
theorem dX1_readsThing_12 : decode cX1_readsThing 12 = .ok (.invokevirtual 67, 3) := by decide +kernel
theorem dX1_readsThing_15 : decode cX1_readsThing 15 = .ok (.ifCond .ne 5, 3) := by decide +kernel
theorem dX1_readsThing_18 : decode cX1_readsThing 18 = .ok (.iconst 0, 1) := by decide +kernel
theorem dX1_readsThing_19 : decode cX1_readsThing 19 = .ok (.ireturn, 1) := by decide +kernel
theorem dX1_readsThing_20 : decode cX1_readsThing 20 = .ok (.iinc 2 1, 3) := by decide +kernel
theorem dX1_readsThing_23 : decode cX1_readsThing 23 = .ok (.goto (-21), 3) := by decide +kernel
theorem dX1_readsThing_146 : decode cX1_readsThing 146 = .ok (.aload_n 0, 1) := by decide +kernel
theorem dX1_readsThing_147 : decode cX1_readsThing 147 = .ok (.getfield 9, 3) := by decide +kernel
theorem dX1_readsThing_150 : decode cX1_readsThing 150 = .ok (.iload_n 1, 1) := by decide +kernel
theorem dX1_readsThing_151 : decode cX1_readsThing 151 = .ok (.bipush 7, 2) := by decide +kernel
theorem dX1_readsThing_153 : decode cX1_readsThing 153 = .ok (.iconst 0, 1) := by decide +kernel
theorem dX1_readsThing_154 : decode cX1_readsThing 154 = .ok (.invokevirtual 70, 3) := by decide +kernel
theorem dX1_readsThing_157 : decode cX1_readsThing 157 = .ok (.aload_n 0, 1) := by decide +kernel
theorem dX1_readsThing_158 : decode cX1_readsThing 158 = .ok (.getfield 9, 3) := by decide +kernel
theorem dX1_readsThing_161 : decode cX1_readsThing 161 = .ok (.iload_n 1, 1) := by decide +kernel
theorem dX1_readsThing_162 : decode cX1_readsThing 162 = .ok (.bipush 8, 2) := by decide +kernel
theorem dX1_readsThing_164 : decode cX1_readsThing 164 = .ok (.aload_n 0, 1) := by decide +kernel
theorem dX1_readsThing_165 : decode cX1_readsThing 165 = .ok (.getfield 21, 3) := by decide +kernel
theorem dX1_readsThing_168 : decode cX1_readsThing 168 = .ok (.ldc 79, 2) := by decide +kernel
theorem dX1_readsThing_170 : decode cX1_readsThing 170 = .ok (.invokevirtual 26, 3) := by decide +kernel
theorem dX1_readsThing_181 : decode cX1_readsThing 181 = .ok (.invokevirtual 70, 3) := by decide +kernel
theorem dX1_readsThing_184 : decode cX1_readsThing 184 = .ok (.aload_n 0, 1) := by decide +kernel
theorem dX1_readsThing_185 : decode cX1_readsThing 185 = .ok (.getfield 9, 3) := by decide +kernel
theorem dX1_readsThing_188 : decode cX1_readsThing 188 = .ok (.iload_n 1, 1) := by decide +kernel
theorem dX1_readsThing_189 : decode cX1_readsThing 189 = .ok (.iconst 1, 1) := by decide +kernel
theorem dX1_readsThing_190 : decode cX1_readsThing 190 = .ok (.iadd, 1) := by decide +kernel
theorem dX1_readsThing_191 : decode cX1_readsThing 191 = .ok (.putfield 35, 3) := by decide +kernel
theorem dX1_readsThing_194 : decode cX1_readsThing 194 = .ok (.iconst 1, 1) := by decide +kernel
theorem dX1_readsThing_195 : decode cX1_readsThing 195 = .ok (.ireturn, 1) := by decide +kernel
theorem dX1_readsThing_173 : decode cX1_readsThing 173 = .ok (.ifCond .eq 7, 3) := by decide +kernel
theorem dX1_readsThing_180 : decode cX1_readsThing 180 = .ok (.iconst 0, 1) := by decide +kernel
theorem dX1_readsThing_176 : decode cX1_readsThing 176 = .ok (.iconst 1, 1) := by decide +kernel
theorem dX1_readsThing_177 : decode cX1_readsThing 177 = .ok (.goto 4, 3) := by decide +kernel
theorem dX1_readsThing_96 : decode cX1_readsThing 96 = .ok (.aload_n 0, 1) := by decide +kernel
theorem dX1_readsThing_97 : decode cX1_readsThing 97 = .ok (.getfield 9, 3) := by decide +kernel
theorem dX1_readsThing_100 : decode cX1_readsThing 100 = .ok (.iload_n 1, 1) := by decide +kernel
theorem dX1_readsThing_101 : decode cX1_readsThing 101 = .ok (.iconst 5, 1) := by decide +kernel
theorem dX1_readsThing_102 : decode cX1_readsThing 102 = .ok (.aload_n 0, 1) := by decide +kernel
theorem dX1_readsThing_103 : decode cX1_readsThing 103 = .ok (.getfield 9, 3) := by decide +kernel
theorem dX1_readsThing_106 : decode cX1_readsThing 106 = .ok (.iload_n 1, 1) := by decide +kernel
theorem dX1_readsThing_107 : decode cX1_readsThing 107 = .ok (.iconst 4, 1) := by decide +kernel
theorem dX1_readsThing_108 : decode cX1_readsThing 108 = .ok (.invokevirtual 74, 3) := by decide +kernel
theorem dX1_readsThing_111 : decode cX1_readsThing 111 = .ok (.invokevirtual 70, 3) := by decide +kernel
theorem dX1_readsThing_114 : decode cX1_readsThing 114 = .ok (.aload_n 0, 1) := by decide +kernel
theorem dX1_readsThing_115 : decode cX1_readsThing 115 = .ok (.getfield 21, 3) := by decide +kernel
theorem dX1_readsThing_118 : decode cX1_readsThing 118 = .ok (.ldc 78, 2) := by decide +kernel
theorem dX1_readsThing_120 : decode cX1_readsThing 120 = .ok (.invokevirtual 26, 3) := by decide +kernel
theorem dX1_readsThing_123 : decode cX1_readsThing 123 = .ok (.ifCond .eq 23, 3) := by decide +kernel
theorem dX1_readsThing_126 : decode cX1_readsThing 126 = .ok (.aload_n 0, 1) := by decide +kernel
theorem dX1_readsThing_127 : decode cX1_readsThing 127 = .ok (.iload_n 1, 1) := by decide +kernel
theorem dX1_readsThing_128 : decode cX1_readsThing 128 = .ok (.iconst 5, 1) := by decide +kernel
theorem dX1_readsThing_129 : decode cX1_readsThing 129 = .ok (.aload_n 0, 1) := by decide +kernel
theorem dX1_readsThing_130 : decode cX1_readsThing 130 = .ok (.getfield 9, 3) := by decide +kernel
theorem dX1_readsThing_133 : decode cX1_readsThing 133 = .ok (.getfield 15, 3) := by decide +kernel
theorem dX1_readsThing_136 : decode cX1_readsThing 136 = .ok (.iconst 1, 1) := by decide +kernel
theorem dX1_readsThing_137 : decode cX1_readsThing 137 = .ok (.isub, 1) := by decide +kernel
theorem dX1_readsThing_138 : decode cX1_readsThing 138 = .ok (.invokevirtual 67, 3) := by decide +kernel
theorem dX1_readsThing_141 : decode cX1_readsThing 141 = .ok (.ifCond .ne 5, 3) := by decide +kernel
theorem dX1_readsThing_144 : decode cX1_readsThing 144 = .ok (.iconst 0, 1) := by decide +kernel
theorem dX1_readsThing_145 : decode cX1_readsThing 145 = .ok (.ireturn, 1) := by decide +kernel
theorem dX1_readsThing_26 : decode cX1_readsThing 26 = .ok (.aload_n 0, 1) := by decide +kernel
theorem dX1_readsThing_27 : decode cX1_readsThing 27 = .ok (.getfield 21, 3) := by decide +kernel
theorem dX1_readsThing_30 : decode cX1_readsThing 30 = .ok (.sipush 486, 3) := by decide +kernel
theorem dX1_readsThing_33 : decode cX1_readsThing 33 = .ok (.invokevirtual 26, 3) := by decide +kernel
theorem dX1_readsThing_36 : decode cX1_readsThing 36 = .ok (.ifCond .eq 21, 3) := by decide +kernel
theorem dX1_readsThing_57 : decode cX1_readsThing 57 = .ok (.iconst 0, 1) := by decide +kernel
theorem dX1_readsThing_58 : decode cX1_readsThing 58 = .ok (.ireturn, 1) := by decide +kernel
theorem dX1_readsThing_39 : decode cX1_readsThing 39 = .ok (.aload_n 0, 1) := by decide +kernel
theorem dX1_readsThing_40 : decode cX1_readsThing 40 = .ok (.iload_n 1, 1) := by decide +kernel
theorem dX1_readsThing_41 : decode cX1_readsThing 41 = .ok (.iconst 4, 1) := by decide +kernel
theorem dX1_readsThing_42 : decode cX1_readsThing 42 = .ok (.aload_n 0, 1) := by decide +kernel
theorem dX1_readsThing_43 : decode cX1_readsThing 43 = .ok (.getfield 9, 3) := by decide +kernel
theorem dX1_readsThing_46 : decode cX1_readsThing 46 = .ok (.getfield 15, 3) := by decide +kernel
theorem dX1_readsThing_49 : decode cX1_readsThing 49 = .ok (.iconst 1, 1) := by decide +kernel
theorem dX1_readsThing_50 : decode cX1_readsThing 50 = .ok (.isub, 1) := by decide +kernel
theorem dX1_readsThing_51 : decode cX1_readsThing 51 = .ok (.invokevirtual 67, 3) := by decide +kernel
theorem dX1_readsThing_54 : decode cX1_readsThing 54 = .ok (.ifCond .ne 5, 3) := by decide +kernel
theorem dX1_readsThing_59 : decode cX1_readsThing 59 = .ok (.aload_n 0, 1) := by decide +kernel
theorem dX1_readsThing_60 : decode cX1_readsThing 60 = .ok (.getfield 9, 3) := by decide +kernel
theorem dX1_readsThing_63 : decode cX1_readsThing 63 = .ok (.iload_n 1, 1) := by decide +kernel
theorem dX1_readsThing_64 : decode cX1_readsThing 64 = .ok (.bipush 6, 2) := by decide +kernel
theorem dX1_readsThing_66 : decode cX1_readsThing 66 = .ok (.iconst 0, 1) := by decide +kernel
theorem dX1_readsThing_67 : decode cX1_readsThing 67 = .ok (.invokevirtual 70, 3) := by decide +kernel
theorem dX1_readsThing_70 : decode cX1_readsThing 70 = .ok (.aload_n 0, 1) := by decide +kernel
theorem dX1_readsThing_71 : decode cX1_readsThing 71 = .ok (.getfield 21, 3) := by decide +kernel
theorem dX1_readsThing_74 : decode cX1_readsThing 74 = .ok (.ldc 73, 2) := by decide +kernel
theorem dX1_readsThing_76 : decode cX1_readsThing 76 = .ok (.invokevirtual 26, 3) := by decide +kernel
theorem dX1_readsThing_79 : decode cX1_readsThing 79 = .ok (.ifCond .eq 17, 3) := by decide +kernel
theorem dX1_readsThing_82 : decode cX1_readsThing 82 = .ok (.aload_n 0, 1) := by decide +kernel
theorem dX1_readsThing_83 : decode cX1_readsThing 83 = .ok (.iload_n 1, 1) := by decide +kernel
theorem dX1_readsThing_84 : decode cX1_readsThing 84 = .ok (.bipush 6, 2) := by decide +kernel
theorem dX1_readsThing_86 : decode cX1_readsThing 86 = .ok (.bipush 99, 2) := by decide +kernel
theorem dX1_readsThing_88 : decode cX1_readsThing 88 = .ok (.invokevirtual 67, 3) := by decide +kernel
theorem dX1_readsThing_91 : decode cX1_readsThing 91 = .ok (.ifCond .ne 5, 3) := by decide +kernel
theorem dX1_readsThing_94 : decode cX1_readsThing 94 = .ok (.iconst 0, 1) := by decide +kernel
theorem dX1_readsThing_95 : decode cX1_readsThing 95 = .ok (.ireturn, 1) := by decide +kernel
theorem dX1_readsThing_0 : decode cX1_readsThing 0 = .ok (.iconst 0, 1) := by decide +kernel
theorem dX1_readsThing_1 : decode cX1_readsThing 1 = .ok (.istore_n 2, 1) := by decide +kernel
/-! the class's reader of the coast -/
theorem TQ5_zup {K : Hi} {c : Nat → Nat} {e q a : Nat} (j : Nat) (x : Int32) (h : a ≠ 1) : zup (TQ5 K c e q) a j x = TQ5 (zup K a j x) c e q := by
  unfold TQ5 TS
  have e1 : (zup K a j x) 1 = K 1 := zup_ne _ _ (fun z => h z.symm)
  rw [e1]
  funext k
  by_cases z : k = 1
  · subst z
    rw [zup_ne _ _ (fun z => h z.symm), zset_at, zset_at]
  · rw [zset_ne _ _ z]
    by_cases y : k = a
    · subst y
      rw [zup_at, zup_at, zset_ne _ _ z]
    · rw [zup_ne _ _ y, zup_ne _ _ y, zset_ne _ _ z]
/-- the draft in the reading -/
def KD (I : Hi) (st : Cs) (K : Hi) : Prop := K 7 0 = nI st.1 ∧ K 7 1 = nI st.2.1 ∧ K 7 2 = I 7 2 ∧ (∀ k, k < st.2.1 → K 9 (9 * k + 8) = st.2.2 k) ∧ (∀ a, a ≠ 7 → a ≠ 8 → a ≠ 9 → K a = I a) ∧ st.1 ≤ 8 ∧ st.2.1 ≤ 8
theorem KD.tx {I K : Hi} {st : Cs} {c : Nat → Nat} {e : Nat} (h : KD I st K) (hT : TX I c e) : TX K c e := ⟨hT.1, by rw [h.2.2.2.2.1 1 (by decide) (by decide) (by decide)]; exact hT.2.1, fun i hi => by rw [h.2.2.2.2.1 2 (by decide) (by decide) (by decide)]; exact hT.2.2 i hi⟩
theorem KD.h {I K : Hi} {st : Cs} (h : KD I st K) (j : Nat) (x : Int32) : KD I st (zup K 8 j x) := by
  obtain ⟨a1, a2, a3, a4, a5, a6, a7⟩ := h
  exact ⟨by rw [zup_ne _ _ (by decide)]; exact a1, by rw [zup_ne _ _ (by decide)]; exact a2, by rw [zup_ne _ _ (by decide)]; exact a3, fun k hk => by rw [zup_ne _ _ (by decide)]; exact a4 k hk, fun a b1 b2 b3 => by rw [zup_ne _ _ b2]; exact a5 a b1 b2 b3, a6, a7⟩
theorem KD.i {I K : Hi} {st : Cs} (h : KD I st K) {t j : Nat} (ht : st.2.1 ≤ t) (hj : 9 * t ≤ j) (x : Int32) : KD I st (zup K 9 j x) := by
  obtain ⟨a1, a2, a3, a4, a5, a6, a7⟩ := h
  exact ⟨by rw [zup_ne _ _ (by decide)]; exact a1, by rw [zup_ne _ _ (by decide)]; exact a2, by rw [zup_ne _ _ (by decide)]; exact a3, fun k hk => by rw [zup_at, upd_ne _ _ (by omega)]; exact a4 k hk, fun a b1 b2 b3 => by rw [zup_ne _ _ b3]; exact a5 a b1 b2 b3, a6, a7⟩
theorem KD.f {I K : Hi} {st : Cs} (h : KD I st K) {j : Nat} (hj : 3 ≤ j) (x : Int32) : KD I st (zup K 7 j x) := by
  obtain ⟨a1, a2, a3, a4, a5, a6, a7⟩ := h
  exact ⟨by rw [zup_at, upd_ne _ _ (by omega)]; exact a1, by rw [zup_at, upd_ne _ _ (by omega)]; exact a2, by rw [zup_at, upd_ne _ _ (by omega)]; exact a3, fun k hk => by rw [zup_ne _ _ (by decide)]; exact a4 k hk, fun a b1 b2 b3 => by rw [zup_ne _ _ b1]; exact a5 a b1 b2 b3, a6, a7⟩
theorem KD.woman {I K : Hi} {w t : Nat} {b : Nat → Int32} (h : KD I (w, t, b) K) (hw : w < 8) : KD I (w + 1, t, b) (zup K 7 0 (nI (w + 1))) := by
  obtain ⟨a1, a2, a3, a4, a5, a6, a7⟩ := h
  exact ⟨by rw [zup_at, upd_at], by rw [zup_at, upd_ne _ _ (by decide)]; exact a2, by rw [zup_at, upd_ne _ _ (by decide)]; exact a3, fun k hk => by rw [zup_ne _ _ (by decide)]; exact a4 k hk, fun a b1 b2 b3 => by rw [zup_ne _ _ b1]; exact a5 a b1 b2 b3, by show w + 1 ≤ 8; omega, a7⟩
theorem KD.thing {I K : Hi} {w t : Nat} {b : Nat → Int32} {x : Int32} (h : KD I (w, t, b) K) (ht : t < 8) : KD I (w, t + 1, upd b t x) (zup (zup K 9 (9 * t + 8) x) 7 1 (nI (t + 1))) := by
  obtain ⟨a1, a2, a3, a4, a5, a6, a7⟩ := h
  refine ⟨by rw [zup_at, upd_ne _ _ (by decide), zup_ne _ _ (by decide)]; exact a1, by rw [zup_at, upd_at], by rw [zup_at, upd_ne _ _ (by decide), zup_ne _ _ (by decide)]; exact a3, fun k hk => ?_, fun a b1 b2 b3 => by rw [zup_ne _ _ b1, zup_ne _ _ b3]; exact a5 a b1 b2 b3, a6, by show t + 1 ≤ 8; omega⟩
  have hk : k < t + 1 := hk
  rw [zup_ne _ _ (by decide), zup_at]
  by_cases z : k = t
  · subst z; rw [upd_at]; show x = upd b k x k; rw [upd_at]
  · rw [upd_ne _ _ (by omega)]
    show _ = upd b t x k
    rw [upd_ne _ _ z]
    exact a4 k (by show k < t; omega)
def CD (I : Hi) (c : Nat → Nat) (e : Nat) (st : Cs) (o : Go) (v : Option Value) (J : Hi) : Prop := ∃ K q', J = TQ5 K c e q' ∧ q' ≤ e ∧ KD I st K ∧ ((o = .inl q' ∧ v = some (.int (nI 0))) ∨ (o = .inr q' ∧ v = some (.int (nI 1))))
def CDl (I : Hi) (c : Nat → Nat) (e : Nat) (o : Nat ⊕ (Cs × Nat)) (v : Option Value) (J : Hi) : Prop := ∃ K q', J = TQ5 K c e q' ∧ q' ≤ e ∧ ((o = .inl q' ∧ v = some (.int (nI 0)) ∧ ∃ st, KD I st K) ∨ (∃ st, o = .inr (st, q') ∧ v = some (.int (nI 1)) ∧ KD I st K))
theorem CDl.v {I : Hi} {c : Nat → Nat} {e : Nat} {o : Nat ⊕ (Cs × Nat)} {v : Option Value} {J : Hi} (h : CDl I c e o v J) : v = some (.int (nI 0)) ∨ v = some (.int (nI 1)) := by
  obtain ⟨K, q, h1, h2, ⟨h3, h4, h5⟩ | ⟨st, h3, h4, h5⟩⟩ := h
  · exact Or.inl h4
  · exact Or.inr h4
def cB (r : Go) (F : Nat → Nat ⊕ (Cs × Nat)) : Nat ⊕ (Cs × Nat) := match r with
  | .inl x => .inl x
  | .inr q => F q
theorem cB_l {x : Nat} {F : Nat → Nat ⊕ (Cs × Nat)} {r : Go} (h : r = .inl x) : cB r F = .inl x := by rw [h]; rfl
theorem cB_r {x : Nat} {F : Nat → Nat ⊕ (Cs × Nat)} {r : Go} (h : r = .inr x) : cB r F = F x := by rw [h]; rfl
theorem cB_gB (r : Go) (f : Nat → Go) (F : Nat → Nat ⊕ (Cs × Nat)) : cB (gB r f) F = cB r (fun q => cB (f q) F) := by cases r <;> rfl
theorem cMap_gB (r : Go) (f : Nat → Go) (g : Nat → Cs × Nat) : cMap (gB r f) g = cB r (fun q => cMap (f q) g) := by cases r <;> rfl
section Kco
variable (G : Gx) (d : Nat) {c : Nat → Nat} {e : Nat}
theorem ct_setH (I : Hi) (w k : Nat) (x : Int32) (hw : w < 8) (hk : k < 7) : Ct G GAM mX0_setHer d 0 [.ref 7, .int (nI w), .int (nI k), .int x] I (Rp none (zup I 8 (7 * w + k) x)) := by
  refine Ct.mk [some (.ref 7), some (.int (nI w)), some (.int (nI k)), some (.int x)] ?_
  refine Rn.iload_n dX0_setHer_0 rfl rfl ?_
  refine Rn.if_ltN dX0_setHer_1 ?_ 32
  refine Rn.iload_n dX0_setHer_4 rfl rfl ?_
  refine Rn.bipush (v := (nI 8)) dX0_setHer_5 rfl ?_
  refine Rn.icmp_geN dX0_setHer_7 32 (fun h9 => by exfalso; omega) (fun _ => ?_)
  refine Rn.iload_n dX0_setHer_10 rfl rfl ?_
  refine Rn.if_ltN dX0_setHer_11 ?_ 32
  refine Rn.iload_n dX0_setHer_14 rfl rfl ?_
  refine Rn.bipush (v := (nI 7)) dX0_setHer_15 rfl ?_
  refine Rn.icmp_geN dX0_setHer_17 32 (fun h9 => by exfalso; omega) (fun _ => ?_)
  refine Rn.aload_n dX0_setHer_20 rfl rfl ?_
  refine Rn.getR dX0_setHer_21 fd_X0_21_0 (by first | rfl | exact gC0 (by assumption) | exact gL0 (by assumption)) rfl ?_
  refine Rn.iload_n dX0_setHer_24 rfl rfl ?_
  refine Rn.bipush (v := (nI 7)) dX0_setHer_25 rfl ?_
  refine Rn.imul dX0_setHer_27 ?_
  refine Rn.iload_n dX0_setHer_28 rfl rfl ?_
  refine Rn.iadd dX0_setHer_29 ?_
  refine Rn.iload_n dX0_setHer_30 rfl rfl ?_
  refine Rn.secI (nI (7 * w + k)) (by rw [pk_mul, nI_add, Nat.mul_comm]) ?_
  refine Rn.iastN dX0_setHer_31 (by first | rfl | exact gC1 (by assumption) | exact gC2 (by assumption) | exact gC3 (by assumption) | exact gL1 (by assumption) | exact gL2 (by assumption) | exact gL3 (by assumption) | exact gL4 (by assumption) | exact gL5 (by assumption) | exact gL6 (by assumption)) ?_
  exact Rn.vret dX0_setHer_32 rfl (⟨rfl, rfl⟩)
theorem ct_setI (I : Hi) (w k : Nat) (x : Int32) (hw : w < 8) (hk : k < 9) : Ct G GAM mX0_setIts d 0 [.ref 7, .int (nI w), .int (nI k), .int x] I (Rp none (zup I 9 (9 * w + k) x)) := by
  refine Ct.mk [some (.ref 7), some (.int (nI w)), some (.int (nI k)), some (.int x)] ?_
  refine Rn.iload_n dX0_setIts_0 rfl rfl ?_
  refine Rn.if_ltN dX0_setIts_1 ?_ 32
  refine Rn.iload_n dX0_setIts_4 rfl rfl ?_
  refine Rn.bipush (v := (nI 8)) dX0_setIts_5 rfl ?_
  refine Rn.icmp_geN dX0_setIts_7 32 (fun h9 => by exfalso; omega) (fun _ => ?_)
  refine Rn.iload_n dX0_setIts_10 rfl rfl ?_
  refine Rn.if_ltN dX0_setIts_11 ?_ 32
  refine Rn.iload_n dX0_setIts_14 rfl rfl ?_
  refine Rn.bipush (v := (nI 9)) dX0_setIts_15 rfl ?_
  refine Rn.icmp_geN dX0_setIts_17 32 (fun h9 => by exfalso; omega) (fun _ => ?_)
  refine Rn.aload_n dX0_setIts_20 rfl rfl ?_
  refine Rn.getR dX0_setIts_21 fd_X0_25_0 (by first | rfl | exact gC0 (by assumption) | exact gL0 (by assumption)) rfl ?_
  refine Rn.iload_n dX0_setIts_24 rfl rfl ?_
  refine Rn.bipush (v := (nI 9)) dX0_setIts_25 rfl ?_
  refine Rn.imul dX0_setIts_27 ?_
  refine Rn.iload_n dX0_setIts_28 rfl rfl ?_
  refine Rn.iadd dX0_setIts_29 ?_
  refine Rn.iload_n dX0_setIts_30 rfl rfl ?_
  refine Rn.secI (nI (9 * w + k)) (by rw [pk_mul, nI_add, Nat.mul_comm]) ?_
  refine Rn.iastN dX0_setIts_31 (by first | rfl | exact gC1 (by assumption) | exact gC2 (by assumption) | exact gC3 (by assumption) | exact gL1 (by assumption) | exact gL2 (by assumption) | exact gL3 (by assumption) | exact gL4 (by assumption) | exact gL5 (by assumption) | exact gL6 (by assumption)) ?_
  exact Rn.vret dX0_setIts_32 rfl (⟨rfl, rfl⟩)
theorem ct_itsC (I : Hi) (w k : Nat) (hw : w < 8) (hk : k < 9) : Ct G GAM mX0_its d 0 [.ref 7, .int (nI w), .int (nI k)] I (Rv (fun v J => J = I ∧ ∃ x, v = some (.int x))) := by
  refine Ct.mk [some (.ref 7), some (.int (nI w)), some (.int (nI k)), none] ?_
  refine Rn.iload_n dX0_its_0 rfl rfl ?_
  refine Rn.if_ltN dX0_its_1 ?_ 24
  refine Rn.iload_n dX0_its_4 rfl rfl ?_
  refine Rn.bipush (v := (nI 8)) dX0_its_5 rfl ?_
  refine Rn.icmp_geN dX0_its_7 24 (fun h9 => by exfalso; omega) (fun _ => ?_)
  refine Rn.iload_n dX0_its_10 rfl rfl ?_
  refine Rn.if_ltN dX0_its_11 ?_ 24
  refine Rn.iload_n dX0_its_14 rfl rfl ?_
  refine Rn.bipush (v := (nI 9)) dX0_its_15 rfl ?_
  refine Rn.icmp_geN dX0_its_17 24 (fun h9 => by exfalso; omega) (fun _ => ?_)
  refine Rn.iconst (v := (nI 1)) dX0_its_20 rfl ?_
  refine Rn.goto 25 dX0_its_21 (by decide) ?_
  refine Rn.istore_n dX0_its_25 rfl (by decide) ?_
  refine Rn.iload_n dX0_its_26 rfl rfl ?_
  refine Rn.if_eq (tgt := 44) dX0_its_27 (by decide) (fun h9 => absurd h9 (by decide)) (fun _ => ?_)
  refine Rn.aload_n dX0_its_30 rfl rfl ?_
  refine Rn.getR dX0_its_31 fd_X0_25_0 (by first | rfl | exact gC0 (by assumption) | exact gL0 (by assumption)) rfl ?_
  refine Rn.iload_n dX0_its_34 rfl rfl ?_
  refine Rn.bipush (v := (nI 9)) dX0_its_35 rfl ?_
  refine Rn.imul dX0_its_37 ?_
  refine Rn.iload_n dX0_its_38 rfl rfl ?_
  refine Rn.iadd dX0_its_39 ?_
  refine Rn.topI (nI (9 * w + k)) (by rw [pk_mul, nI_add, Nat.mul_comm]) ?_
  refine Rn.ialdN dX0_its_40 (by first | rfl | exact gC1 (by assumption) | exact gC2 (by assumption) | exact gC3 (by assumption) | exact gL1 (by assumption) | exact gL2 (by assumption) | exact gL3 (by assumption) | exact gL4 (by assumption) | exact gL5 (by assumption) | exact gL6 (by assumption)) ?_
  refine Rn.goto 45 dX0_its_41 (by decide) ?_
  exact Rn.iret dX0_its_45 rfl (⟨rfl, _, rfl⟩)
theorem kd_her (I : Hi) (st : Cs) (w k : Nat) (m : Int32) (hw : w < 8) (hk : k < 7) (hT : TX I c e) (K : Hi) (hK : KD I st K) (q : Nat) (hq : q ≤ e) : Ct G GAM mX1_readsHer (d + 2) 0 [.ref 37, .int (nI w), .int (nI k), .int m] (TQ5 K c e q) (Rv (CD I c e st (gNum c e m q))) := by
  refine Ct.mk [some (.ref 37), some (.int (nI w)), some (.int (nI k)), some (.int m), none] ?_
  refine Rn.aload_n dX1_readsHer_0 rfl rfl ?_
  refine Rn.getR dX1_readsHer_1 fd_X1_21_1 (by first | rfl | exact gC0 (by assumption) | exact gL0 (by assumption)) rfl ?_
  refine Rn.iload_n dX1_readsHer_4 rfl rfl ?_
  refine Rn.callV (As := [_]) dX1_readsHer_5 mv_X1_43 (by first | rfl | exact gC0 (by assumption) | exact gL0 (by assumption)) rfl rfl rfl (Nat.le_of_ble_eq_true rfl) (ct_tkN G d K (hK.tx hT) m q) (fun _ _ h => h) (fun v J h => ?_)
  rcases h with ⟨h1, rfl, rfl⟩ | ⟨x, h1, h2, h3, rfl, rfl⟩
  · refine Rn.istore dX1_readsHer_8 (by decide) ?_
    refine Rn.aload_n dX1_readsHer_10 rfl rfl ?_
    refine Rn.getR dX1_readsHer_11 fd_X1_9_1 (by first | rfl | exact gC0 (by assumption) | exact gL0 (by assumption)) rfl ?_
    refine Rn.iload_n dX1_readsHer_14 rfl rfl ?_
    refine Rn.iload_n dX1_readsHer_15 rfl rfl ?_
    refine Rn.iload dX1_readsHer_16 rfl ?_
    refine Rn.callVp (As := [_, _, _]) dX1_readsHer_18 mv_X1_62 (by first | rfl | exact gC0 (by assumption) | exact gL0 (by assumption)) rfl rfl rfl (Nat.le_of_ble_eq_true rfl) (ct_setH G (d + 1) _ w k _ hw hk) ?_
    refine Rn.hpp _ (TQ5_zup _ _ (by decide)) ?_
    refine Rn.iload dX1_readsHer_21 rfl ?_
    refine Rn.iconst (v := (-1)) dX1_readsHer_23 rfl ?_
    refine Rn.icmp_eq (tgt := 31) dX1_readsHer_24 (by decide) (fun _ => ?_) (fun h9 => absurd h9 (by decide))
    refine Rn.iconst (v := (nI 0)) dX1_readsHer_31 rfl ?_
    exact Rn.zret dX1_readsHer_32 rfl rfl (⟨_, q, rfl, hq, hK.h _ _, Or.inl ⟨h1, rfl⟩⟩)
  · refine Rn.istore dX1_readsHer_8 (by decide) ?_
    refine Rn.aload_n dX1_readsHer_10 rfl rfl ?_
    refine Rn.getR dX1_readsHer_11 fd_X1_9_1 (by first | rfl | exact gC0 (by assumption) | exact gL0 (by assumption)) rfl ?_
    refine Rn.iload_n dX1_readsHer_14 rfl rfl ?_
    refine Rn.iload_n dX1_readsHer_15 rfl rfl ?_
    refine Rn.iload dX1_readsHer_16 rfl ?_
    refine Rn.callVp (As := [_, _, _]) dX1_readsHer_18 mv_X1_62 (by first | rfl | exact gC0 (by assumption) | exact gL0 (by assumption)) rfl rfl rfl (Nat.le_of_ble_eq_true rfl) (ct_setH G (d + 1) _ w k _ hw hk) ?_
    refine Rn.hpp _ (TQ5_zup _ _ (by decide)) ?_
    refine Rn.iload dX1_readsHer_21 rfl ?_
    refine Rn.iconst (v := (-1)) dX1_readsHer_23 rfl ?_
    refine Rn.icmp_eq (tgt := 31) dX1_readsHer_24 (by decide) (fun h9 => by exfalso; exact h3 h9) (fun _ => ?_)
    refine Rn.iconst (v := (nI 1)) dX1_readsHer_27 rfl ?_
    refine Rn.goto 32 dX1_readsHer_28 (by decide) ?_
    exact Rn.zret dX1_readsHer_32 rfl rfl (⟨_, nx c e q, rfl, nx_le h2, hK.h _ _, Or.inr ⟨h1, rfl⟩⟩)
theorem kd_its (I : Hi) (st : Cs) (w k : Nat) (m : Int32) (hw : w < 8) (hs : st.2.1 ≤ w) (hk : k < 9) (hT : TX I c e) (K : Hi) (hK : KD I st K) (q : Nat) (hq : q ≤ e) : Ct G GAM mX1_readsIts (d + 2) 0 [.ref 37, .int (nI w), .int (nI k), .int m] (TQ5 K c e q) (Rv (CD I c e st (gNum c e m q))) := by
  refine Ct.mk [some (.ref 37), some (.int (nI w)), some (.int (nI k)), some (.int m), none] ?_
  refine Rn.aload_n dX1_readsIts_0 rfl rfl ?_
  refine Rn.getR dX1_readsIts_1 fd_X1_21_1 (by first | rfl | exact gC0 (by assumption) | exact gL0 (by assumption)) rfl ?_
  refine Rn.iload_n dX1_readsIts_4 rfl rfl ?_
  refine Rn.callV (As := [_]) dX1_readsIts_5 mv_X1_43 (by first | rfl | exact gC0 (by assumption) | exact gL0 (by assumption)) rfl rfl rfl (Nat.le_of_ble_eq_true rfl) (ct_tkN G d K (hK.tx hT) m q) (fun _ _ h => h) (fun v J h => ?_)
  rcases h with ⟨h1, rfl, rfl⟩ | ⟨x, h1, h2, h3, rfl, rfl⟩
  · refine Rn.istore dX1_readsIts_8 (by decide) ?_
    refine Rn.aload_n dX1_readsIts_10 rfl rfl ?_
    refine Rn.getR dX1_readsIts_11 fd_X1_9_1 (by first | rfl | exact gC0 (by assumption) | exact gL0 (by assumption)) rfl ?_
    refine Rn.iload_n dX1_readsIts_14 rfl rfl ?_
    refine Rn.iload_n dX1_readsIts_15 rfl rfl ?_
    refine Rn.iload dX1_readsIts_16 rfl ?_
    refine Rn.callVp (As := [_, _, _]) dX1_readsIts_18 mv_X1_70 (by first | rfl | exact gC0 (by assumption) | exact gL0 (by assumption)) rfl rfl rfl (Nat.le_of_ble_eq_true rfl) (ct_setI G (d + 1) _ w k _ hw hk) ?_
    refine Rn.hpp _ (TQ5_zup _ _ (by decide)) ?_
    refine Rn.iload dX1_readsIts_21 rfl ?_
    refine Rn.iconst (v := (-1)) dX1_readsIts_23 rfl ?_
    refine Rn.icmp_eq (tgt := 31) dX1_readsIts_24 (by decide) (fun _ => ?_) (fun h9 => absurd h9 (by decide))
    refine Rn.iconst (v := (nI 0)) dX1_readsIts_31 rfl ?_
    exact Rn.zret dX1_readsIts_32 rfl rfl (⟨_, q, rfl, hq, hK.i hs (by omega) _, Or.inl ⟨h1, rfl⟩⟩)
  · refine Rn.istore dX1_readsIts_8 (by decide) ?_
    refine Rn.aload_n dX1_readsIts_10 rfl rfl ?_
    refine Rn.getR dX1_readsIts_11 fd_X1_9_1 (by first | rfl | exact gC0 (by assumption) | exact gL0 (by assumption)) rfl ?_
    refine Rn.iload_n dX1_readsIts_14 rfl rfl ?_
    refine Rn.iload_n dX1_readsIts_15 rfl rfl ?_
    refine Rn.iload dX1_readsIts_16 rfl ?_
    refine Rn.callVp (As := [_, _, _]) dX1_readsIts_18 mv_X1_70 (by first | rfl | exact gC0 (by assumption) | exact gL0 (by assumption)) rfl rfl rfl (Nat.le_of_ble_eq_true rfl) (ct_setI G (d + 1) _ w k _ hw hk) ?_
    refine Rn.hpp _ (TQ5_zup _ _ (by decide)) ?_
    refine Rn.iload dX1_readsIts_21 rfl ?_
    refine Rn.iconst (v := (-1)) dX1_readsIts_23 rfl ?_
    refine Rn.icmp_eq (tgt := 31) dX1_readsIts_24 (by decide) (fun h9 => by exfalso; exact h3 h9) (fun _ => ?_)
    refine Rn.iconst (v := (nI 1)) dX1_readsIts_27 rfl ?_
    refine Rn.goto 32 dX1_readsIts_28 (by decide) ?_
    exact Rn.zret dX1_readsIts_32 rfl rfl (⟨_, nx c e q, rfl, nx_le h2, hK.i hs (by omega) _, Or.inr ⟨h1, rfl⟩⟩)
theorem lp_her (I : Hi) (w t : Nat) (b : Nat → Int32) (z : Nat) (hz8 : z < 8) (hT : TX I c e) (F : Nat → Nat ⊕ (Cs × Nat)) (o : Nat ⊕ (Cs × Nat)) (kr : ∀ (K : Hi) (q : Nat) (x2 : Option Value), F q = o → q ≤ e → KD I (w, t, b) K → Rn G GAM mX1_readsWoman (kM G GAM (Rv (CDl I c e o))) (d + 3) 0 26 [some (.ref 37), some (.int (nI z)), x2] [] (TQ5 K c e q)) : ∀ (m i q : Nat) (K : Hi), i + m = 4 → q ≤ e → KD I (w, t, b) K → cB (cN c e m q) F = o → Rn G GAM mX1_readsWoman (kM G GAM (Rv (CDl I c e o))) (d + 3) 0 2 [some (.ref 37), some (.int (nI z)), some (.int (nI i))] [] (TQ5 K c e q) := by
  intro m
  induction m with
  | zero =>
    intro i q K hi hq hK ho
    refine Rn.iload_n dX1_readsWoman_2 rfl rfl ?_
    refine Rn.iconst (v := (nI 4)) dX1_readsWoman_3 rfl ?_
    refine Rn.icmp_geN dX1_readsWoman_4 26 (fun _ => ?_) (fun h9 => by exfalso; omega)
    exact kr K q _ ho hq hK
  | succ m ih =>
    intro i q K hi hq hK ho
    have ho : cB (gNum c e (nI 99) q) (fun q => cB (cN c e m q) F) = o := by rw [← cB_gB]; exact ho
    refine Rn.iload_n dX1_readsWoman_2 rfl rfl ?_
    refine Rn.iconst (v := (nI 4)) dX1_readsWoman_3 rfl ?_
    refine Rn.icmp_geN dX1_readsWoman_4 26 (fun h9 => by exfalso; omega) (fun _ => ?_)
    refine Rn.aload_n dX1_readsWoman_7 rfl rfl ?_
    refine Rn.iload_n dX1_readsWoman_8 rfl rfl ?_
    refine Rn.iload_n dX1_readsWoman_9 rfl rfl ?_
    refine Rn.bipush (v := (nI 99)) dX1_readsWoman_10 rfl ?_
    refine Rn.callV (As := [_, _, _]) dX1_readsWoman_12 mv_X1_57 (by first | rfl | exact gC0 (by assumption) | exact gL0 (by assumption)) rfl rfl rfl (Nat.le_of_ble_eq_true rfl) (kd_her G d I (w, t, b) z i (nI 99) hz8 (by omega) hT K hK q hq) (fun _ _ h => h) (fun v J h => ?_)
    obtain ⟨K2, q2, rfl, hq2, hK2, ⟨hn, rfl⟩ | ⟨hn, rfl⟩⟩ := h
    · rw [cB_l hn] at ho
      refine Rn.if_ne (tgt := 20) dX1_readsWoman_15 (by decide) (fun h9 => absurd h9 (by decide)) (fun _ => ?_)
      refine Rn.iconst (v := (nI 0)) dX1_readsWoman_18 rfl ?_
      exact Rn.zret dX1_readsWoman_19 rfl rfl (⟨K2, q2, rfl, hq2, Or.inl ⟨ho.symm, rfl, _, hK2⟩⟩)
    · rw [cB_r hn] at ho
      refine Rn.if_ne (tgt := 20) dX1_readsWoman_15 (by decide) (fun _ => ?_) (fun h9 => absurd h9 (by decide))
      refine Rn.iincN dX1_readsWoman_20 rfl (by decide) ?_
      refine Rn.goto 2 dX1_readsWoman_23 (by decide) ?_
      exact ih (i + 1) q2 K2 (by omega) hq2 hK2 ho
theorem kd_w3 (I : Hi) (w t : Nat) (b : Nat → Int32) (hw : w < 8) (hT : TX I c e) (o : Nat ⊕ (Cs × Nat)) (K : Hi) (q : Nat) (x2 : Option Value) (hq : q ≤ e) (hK : KD I (w, t, b) K) (ho : Sum.inr ((w + 1, t, b), cFlag c e 24416759 q) = o) : Rn G GAM mX1_readsWoman (kM G GAM (Rv (CDl I c e o))) (d + 3) 0 88 [some (.ref 37), some (.int (nI w)), x2] [] (TQ5 K c e q) := by
  refine Rn.aload_n dX1_readsWoman_88 rfl rfl ?_
  refine Rn.getR dX1_readsWoman_89 fd_X1_9_1 (by first | rfl | exact gC0 (by assumption) | exact gL0 (by assumption)) rfl ?_
  refine Rn.iload_n dX1_readsWoman_92 rfl rfl ?_
  refine Rn.bipush (v := (nI 6)) dX1_readsWoman_93 rfl ?_
  refine Rn.aload_n dX1_readsWoman_95 rfl rfl ?_
  refine Rn.getR dX1_readsWoman_96 fd_X1_21_1 (by first | rfl | exact gC0 (by assumption) | exact gL0 (by assumption)) rfl ?_
  refine Rn.ldc dX1_readsWoman_99 kc_X1_66 ?_
  refine Rn.callV (As := [_]) dX1_readsWoman_101 mv_X1_26 (by first | rfl | exact gC0 (by assumption) | exact gL0 (by assumption)) rfl rfl rfl (Nat.le_of_ble_eq_true rfl) (ct_tkW G (d + 1) K (hK.tx hT) _ q (by decide)) (fun _ _ h => h) (fun v J h => ?_)
  have fin : ∀ (f : Int32) (q2 : Nat), q2 ≤ e → q2 = cFlag c e 24416759 q → Rn G GAM mX1_readsWoman (kM G GAM (Rv (CDl I c e o))) (d + 3) 0 112 [some (.ref 37), some (.int (nI w)), x2] [.int f, .int (nI 6), .int (nI w), .ref 7] (TQ5 K c e q2) := by
    intro f q2 g1 g2
    refine Rn.callVp (As := [_, _, _]) dX1_readsWoman_112 mv_X1_62 (by first | rfl | exact gC0 (by assumption) | exact gL0 (by assumption)) rfl rfl rfl (Nat.le_of_ble_eq_true rfl) (ct_setH G (d + 2) _ w 6 _ hw (by decide)) ?_
    refine Rn.hpp _ (TQ5_zup _ _ (by decide)) ?_
    refine Rn.aload_n dX1_readsWoman_115 rfl rfl ?_
    refine Rn.getR dX1_readsWoman_116 fd_X1_9_1 (by first | rfl | exact gC0 (by assumption) | exact gL0 (by assumption)) rfl ?_
    refine Rn.iload_n dX1_readsWoman_119 rfl rfl ?_
    refine Rn.iconst (v := (nI 1)) dX1_readsWoman_120 rfl ?_
    refine Rn.iadd dX1_readsWoman_121 ?_
    refine Rn.topI (nI (w + 1)) (by exact nI_1 w) ?_
    refine Rn.putI dX1_readsWoman_122 fp_X1_15_0 (by first | rfl | exact gC0 (by assumption) | exact gL0 (by assumption)) rfl ?_
    refine Rn.hpp _ (TQ5_zup _ _ (by decide)) ?_
    refine Rn.iconst (v := (nI 1)) dX1_readsWoman_125 rfl ?_
    exact Rn.zret dX1_readsWoman_126 rfl rfl (⟨_, q2, rfl, g1, Or.inr ⟨(w + 1, t, b), by rw [g2]; exact ho.symm, rfl, (hK.h _ _).woman hw⟩⟩)
  rcases h with ⟨h1, rfl, rfl⟩ | ⟨h1, h2, rfl, rfl⟩
  · refine Rn.if_eq (tgt := 111) dX1_readsWoman_104 (by decide) (fun _ => ?_) (fun h9 => absurd h9 (by decide))
    refine Rn.iconst (v := (nI 0)) dX1_readsWoman_111 rfl ?_
    exact fin (nI 0) q hq (if_neg h1).symm
  · refine Rn.if_eq (tgt := 111) dX1_readsWoman_104 (by decide) (fun h9 => absurd h9 (by decide)) (fun _ => ?_)
    refine Rn.iconst (v := (nI 1)) dX1_readsWoman_107 rfl ?_
    refine Rn.goto 112 dX1_readsWoman_108 (by decide) ?_
    exact fin (nI 1) (nx c e q) (nx_le h2) (if_pos h1).symm
theorem kd_w2 (I : Hi) (w t : Nat) (b : Nat → Int32) (hw : w < 8) (hT : TX I c e) (o : Nat ⊕ (Cs × Nat)) (K : Hi) (q : Nat) (x2 : Option Value) (hq : q ≤ e) (hK : KD I (w, t, b) K) (ho : cMap (gB (cReq c e 17484389 (nI 999) q) (fun q2 => gB (cOpt c e 23716 (nI 9) q2) (fun q3 => .inr (cFlag c e 24416759 q3)))) (fun q1 => ((w + 1, t, b), q1)) = o) : Rn G GAM mX1_readsWoman (kM G GAM (Rv (CDl I c e o))) (d + 3) 0 26 [some (.ref 37), some (.int (nI w)), x2] [] (TQ5 K c e q) := by
  refine Rn.aload_n dX1_readsWoman_26 rfl rfl ?_
  refine Rn.getR dX1_readsWoman_27 fd_X1_21_1 (by first | rfl | exact gC0 (by assumption) | exact gL0 (by assumption)) rfl ?_
  refine Rn.ldc dX1_readsWoman_30 kc_X1_61 ?_
  refine Rn.callV (As := [_]) dX1_readsWoman_32 mv_X1_26 (by first | rfl | exact gC0 (by assumption) | exact gL0 (by assumption)) rfl rfl rfl (Nat.le_of_ble_eq_true rfl) (ct_tkW G (d + 1) K (hK.tx hT) _ q (by decide)) (fun _ _ h => h) (fun v J h => ?_)
  rcases h with ⟨h1, rfl, rfl⟩ | ⟨h1, h2, rfl, rfl⟩
  · rw [gB_l (show cReq c e 17484389 (nI 999) q = .inl q from if_neg h1)] at ho
    refine Rn.if_eq (tgt := 50) dX1_readsWoman_35 (by decide) (fun _ => ?_) (fun h9 => absurd h9 (by decide))
    refine Rn.iconst (v := (nI 0)) dX1_readsWoman_50 rfl ?_
    exact Rn.zret dX1_readsWoman_51 rfl rfl (⟨K, q, rfl, hq, Or.inl ⟨ho.symm, rfl, _, hK⟩⟩)
  · rw [show cReq c e 17484389 (nI 999) q = gNum c e (nI 999) (nx c e q) from if_pos h1] at ho
    refine Rn.if_eq (tgt := 50) dX1_readsWoman_35 (by decide) (fun h9 => absurd h9 (by decide)) (fun _ => ?_)
    refine Rn.aload_n dX1_readsWoman_38 rfl rfl ?_
    refine Rn.iload_n dX1_readsWoman_39 rfl rfl ?_
    refine Rn.iconst (v := (nI 4)) dX1_readsWoman_40 rfl ?_
    refine Rn.sipush (v := (nI 999)) dX1_readsWoman_41 rfl ?_
    refine Rn.callV (As := [_, _, _]) dX1_readsWoman_44 mv_X1_57 (by first | rfl | exact gC0 (by assumption) | exact gL0 (by assumption)) rfl rfl rfl (Nat.le_of_ble_eq_true rfl) (kd_her G d I (w, t, b) w 4 (nI 999) hw (by decide) hT K hK (nx c e q) (nx_le h2)) (fun _ _ h => h) (fun v J h => ?_)
    obtain ⟨K2, q2, rfl, hq2, hK2, ⟨hn, rfl⟩ | ⟨hn, rfl⟩⟩ := h
    · rw [gB_l hn] at ho
      refine Rn.if_ne (tgt := 52) dX1_readsWoman_47 (by decide) (fun h9 => absurd h9 (by decide)) (fun _ => ?_)
      refine Rn.iconst (v := (nI 0)) dX1_readsWoman_50 rfl ?_
      exact Rn.zret dX1_readsWoman_51 rfl rfl (⟨K2, q2, rfl, hq2, Or.inl ⟨ho.symm, rfl, _, hK2⟩⟩)
    · rw [gB_r hn] at ho
      refine Rn.if_ne (tgt := 52) dX1_readsWoman_47 (by decide) (fun _ => ?_) (fun h9 => absurd h9 (by decide))
      refine Rn.aload_n dX1_readsWoman_52 rfl rfl ?_
      refine Rn.getR dX1_readsWoman_53 fd_X1_9_1 (by first | rfl | exact gC0 (by assumption) | exact gL0 (by assumption)) rfl ?_
      refine Rn.iload_n dX1_readsWoman_56 rfl rfl ?_
      refine Rn.iconst (v := (nI 5)) dX1_readsWoman_57 rfl ?_
      refine Rn.iconst (v := (nI 0)) dX1_readsWoman_58 rfl ?_
      refine Rn.callVp (As := [_, _, _]) dX1_readsWoman_59 mv_X1_62 (by first | rfl | exact gC0 (by assumption) | exact gL0 (by assumption)) rfl rfl rfl (Nat.le_of_ble_eq_true rfl) (ct_setH G (d + 2) _ w 5 _ hw (by decide)) ?_
      refine Rn.hpp _ (TQ5_zup _ _ (by decide)) ?_
      have hK3 := hK2.h (7 * w + 5) (nI 0)
      refine Rn.aload_n dX1_readsWoman_62 rfl rfl ?_
      refine Rn.getR dX1_readsWoman_63 fd_X1_21_1 (by first | rfl | exact gC0 (by assumption) | exact gL0 (by assumption)) rfl ?_
      refine Rn.sipush (v := (nI 23716)) dX1_readsWoman_66 rfl ?_
      refine Rn.callV (As := [_]) dX1_readsWoman_69 mv_X1_26 (by first | rfl | exact gC0 (by assumption) | exact gL0 (by assumption)) rfl rfl rfl (Nat.le_of_ble_eq_true rfl) (ct_tkW G (d + 1) _ (hK3.tx hT) _ q2 (by decide)) (fun _ _ h => h) (fun v J h => ?_)
      rcases h with ⟨h3, rfl, rfl⟩ | ⟨h3, h4, rfl, rfl⟩
      · rw [gB_r (show cOpt c e 23716 (nI 9) q2 = .inr q2 from if_neg h3)] at ho
        refine Rn.if_eq (tgt := 88) dX1_readsWoman_72 (by decide) (fun _ => ?_) (fun h9 => absurd h9 (by decide))
        exact kd_w3 G d I w t b hw hT o _ q2 _ hq2 hK3 ho
      · rw [show cOpt c e 23716 (nI 9) q2 = gNum c e (nI 9) (nx c e q2) from if_pos h3] at ho
        refine Rn.if_eq (tgt := 88) dX1_readsWoman_72 (by decide) (fun h9 => absurd h9 (by decide)) (fun _ => ?_)
        refine Rn.aload_n dX1_readsWoman_75 rfl rfl ?_
        refine Rn.iload_n dX1_readsWoman_76 rfl rfl ?_
        refine Rn.iconst (v := (nI 5)) dX1_readsWoman_77 rfl ?_
        refine Rn.bipush (v := (nI 9)) dX1_readsWoman_78 rfl ?_
        refine Rn.callV (As := [_, _, _]) dX1_readsWoman_80 mv_X1_57 (by first | rfl | exact gC0 (by assumption) | exact gL0 (by assumption)) rfl rfl rfl (Nat.le_of_ble_eq_true rfl) (kd_her G d I (w, t, b) w 5 (nI 9) hw (by decide) hT _ hK3 (nx c e q2) (nx_le h4)) (fun _ _ h => h) (fun v J h => ?_)
        obtain ⟨K4, q4, rfl, hq4, hK4, ⟨hn4, rfl⟩ | ⟨hn4, rfl⟩⟩ := h
        · rw [gB_l hn4] at ho
          refine Rn.if_ne (tgt := 88) dX1_readsWoman_83 (by decide) (fun h9 => absurd h9 (by decide)) (fun _ => ?_)
          refine Rn.iconst (v := (nI 0)) dX1_readsWoman_86 rfl ?_
          exact Rn.zret dX1_readsWoman_87 rfl rfl (⟨K4, q4, rfl, hq4, Or.inl ⟨ho.symm, rfl, _, hK4⟩⟩)
        · rw [gB_r hn4] at ho
          refine Rn.if_ne (tgt := 88) dX1_readsWoman_83 (by decide) (fun _ => ?_) (fun h9 => absurd h9 (by decide))
          exact kd_w3 G d I w t b hw hT o _ q4 _ hq4 hK4 ho
theorem kd_woman (I : Hi) (w t : Nat) (b : Nat → Int32) (hw : w < 8) (hT : TX I c e) (K : Hi) (hK : KD I (w, t, b) K) (q : Nat) (hq : q ≤ e) : Ct G GAM mX1_readsWoman (d + 3) 0 [.ref 37, .int (nI w)] (TQ5 K c e q) (Rv (CDl I c e (cMap (cWoman c e q) (fun q1 => ((w + 1, t, b), q1))))) := by
  refine Ct.mk [some (.ref 37), some (.int (nI w)), none] ?_
  refine Rn.iconst (v := (nI 0)) dX1_readsWoman_0 rfl ?_
  refine Rn.istore_n dX1_readsWoman_1 rfl (by decide) ?_
  refine lp_her G d I w t b w hw hT (fun q1 => cMap (gB (cReq c e 17484389 (nI 999) q1) (fun q2 => gB (cOpt c e 23716 (nI 9) q2) (fun q3 => .inr (cFlag c e 24416759 q3)))) (fun q1 => ((w + 1, t, b), q1))) _ (fun K q x2 h1 h2 h3 => kd_w2 G d I w t b hw hT _ K q x2 h2 h3 h1) 4 0 q K rfl hq hK ?_
  unfold cWoman
  rw [cMap_gB]
theorem lp_its (I : Hi) (w t : Nat) (b : Nat → Int32) (z : Nat) (hz8 : z < 8) (hz9 : t ≤ z) (hT : TX I c e) (F : Nat → Nat ⊕ (Cs × Nat)) (o : Nat ⊕ (Cs × Nat)) (kr : ∀ (K : Hi) (q : Nat) (x2 : Option Value), F q = o → q ≤ e → KD I (w, t, b) K → Rn G GAM mX1_readsThing (kM G GAM (Rv (CDl I c e o))) (d + 3) 0 26 [some (.ref 37), some (.int (nI z)), x2] [] (TQ5 K c e q)) : ∀ (m i q : Nat) (K : Hi), i + m = 4 → q ≤ e → KD I (w, t, b) K → cB (cN c e m q) F = o → Rn G GAM mX1_readsThing (kM G GAM (Rv (CDl I c e o))) (d + 3) 0 2 [some (.ref 37), some (.int (nI z)), some (.int (nI i))] [] (TQ5 K c e q) := by
  intro m
  induction m with
  | zero =>
    intro i q K hi hq hK ho
    refine Rn.iload_n dX1_readsThing_2 rfl rfl ?_
    refine Rn.iconst (v := (nI 4)) dX1_readsThing_3 rfl ?_
    refine Rn.icmp_geN dX1_readsThing_4 26 (fun _ => ?_) (fun h9 => by exfalso; omega)
    exact kr K q _ ho hq hK
  | succ m ih =>
    intro i q K hi hq hK ho
    have ho : cB (gNum c e (nI 99) q) (fun q => cB (cN c e m q) F) = o := by rw [← cB_gB]; exact ho
    refine Rn.iload_n dX1_readsThing_2 rfl rfl ?_
    refine Rn.iconst (v := (nI 4)) dX1_readsThing_3 rfl ?_
    refine Rn.icmp_geN dX1_readsThing_4 26 (fun h9 => by exfalso; omega) (fun _ => ?_)
    refine Rn.aload_n dX1_readsThing_7 rfl rfl ?_
    refine Rn.iload_n dX1_readsThing_8 rfl rfl ?_
    refine Rn.iload_n dX1_readsThing_9 rfl rfl ?_
    refine Rn.bipush (v := (nI 99)) dX1_readsThing_10 rfl ?_
    refine Rn.callV (As := [_, _, _]) dX1_readsThing_12 mv_X1_67 (by first | rfl | exact gC0 (by assumption) | exact gL0 (by assumption)) rfl rfl rfl (Nat.le_of_ble_eq_true rfl) (kd_its G d I (w, t, b) z i (nI 99) hz8 hz9 (by omega) hT K hK q hq) (fun _ _ h => h) (fun v J h => ?_)
    obtain ⟨K2, q2, rfl, hq2, hK2, ⟨hn, rfl⟩ | ⟨hn, rfl⟩⟩ := h
    · rw [cB_l hn] at ho
      refine Rn.if_ne (tgt := 20) dX1_readsThing_15 (by decide) (fun h9 => absurd h9 (by decide)) (fun _ => ?_)
      refine Rn.iconst (v := (nI 0)) dX1_readsThing_18 rfl ?_
      exact Rn.zret dX1_readsThing_19 rfl rfl (⟨K2, q2, rfl, hq2, Or.inl ⟨ho.symm, rfl, _, hK2⟩⟩)
    · rw [cB_r hn] at ho
      refine Rn.if_ne (tgt := 20) dX1_readsThing_15 (by decide) (fun _ => ?_) (fun h9 => absurd h9 (by decide))
      refine Rn.iincN dX1_readsThing_20 rfl (by decide) ?_
      refine Rn.goto 2 dX1_readsThing_23 (by decide) ?_
      exact ih (i + 1) q2 K2 (by omega) hq2 hK2 ho
theorem kd_t4 (I : Hi) (w t : Nat) (b : Nat → Int32) (ht : t < 8) (hT : TX I c e) (o : Nat ⊕ (Cs × Nat)) (K : Hi) (q : Nat) (x2 : Option Value) (hq : q ≤ e) (hK : KD I (w, t, b) K) (ho : Sum.inr ((w, t + 1, upd b t (blB c e q)), cFlag c e 78501 q) = o) : Rn G GAM mX1_readsThing (kM G GAM (Rv (CDl I c e o))) (d + 3) 0 146 [some (.ref 37), some (.int (nI t)), x2] [] (TQ5 K c e q) := by
  refine Rn.aload_n dX1_readsThing_146 rfl rfl ?_
  refine Rn.getR dX1_readsThing_147 fd_X1_9_1 (by first | rfl | exact gC0 (by assumption) | exact gL0 (by assumption)) rfl ?_
  refine Rn.iload_n dX1_readsThing_150 rfl rfl ?_
  refine Rn.bipush (v := (nI 7)) dX1_readsThing_151 rfl ?_
  refine Rn.iconst (v := (nI 0)) dX1_readsThing_153 rfl ?_
  refine Rn.callVp (As := [_, _, _]) dX1_readsThing_154 mv_X1_70 (by first | rfl | exact gC0 (by assumption) | exact gL0 (by assumption)) rfl rfl rfl (Nat.le_of_ble_eq_true rfl) (ct_setI G (d + 2) _ t 7 _ ht (by decide)) ?_
  refine Rn.hpp _ (TQ5_zup _ _ (by decide)) ?_
  have hK2 := hK.i (t := t) (j := 9 * t + 7) (Nat.le_refl _) (by omega) (nI 0)
  refine Rn.aload_n dX1_readsThing_157 rfl rfl ?_
  refine Rn.getR dX1_readsThing_158 fd_X1_9_1 (by first | rfl | exact gC0 (by assumption) | exact gL0 (by assumption)) rfl ?_
  refine Rn.iload_n dX1_readsThing_161 rfl rfl ?_
  refine Rn.bipush (v := (nI 8)) dX1_readsThing_162 rfl ?_
  refine Rn.aload_n dX1_readsThing_164 rfl rfl ?_
  refine Rn.getR dX1_readsThing_165 fd_X1_21_1 (by first | rfl | exact gC0 (by assumption) | exact gL0 (by assumption)) rfl ?_
  refine Rn.ldc dX1_readsThing_168 kc_X1_79 ?_
  refine Rn.callV (As := [_]) dX1_readsThing_170 mv_X1_26 (by first | rfl | exact gC0 (by assumption) | exact gL0 (by assumption)) rfl rfl rfl (Nat.le_of_ble_eq_true rfl) (ct_tkW G (d + 1) _ (hK2.tx hT) _ q (by decide)) (fun _ _ h => h) (fun v J h => ?_)
  have fin : ∀ (f : Int32) (q2 : Nat), f = blB c e q → q2 ≤ e → q2 = cFlag c e 78501 q → Rn G GAM mX1_readsThing (kM G GAM (Rv (CDl I c e o))) (d + 3) 0 181 [some (.ref 37), some (.int (nI t)), x2] [.int f, .int (nI 8), .int (nI t), .ref 7] (TQ5 (zup K 9 (9 * t + 7) (nI 0)) c e q2) := by
    intro f q2 hf g1 g2
    subst hf
    refine Rn.callVp (As := [_, _, _]) dX1_readsThing_181 mv_X1_70 (by first | rfl | exact gC0 (by assumption) | exact gL0 (by assumption)) rfl rfl rfl (Nat.le_of_ble_eq_true rfl) (ct_setI G (d + 2) _ t 8 _ ht (by decide)) ?_
    refine Rn.hpp _ (TQ5_zup _ _ (by decide)) ?_
    refine Rn.aload_n dX1_readsThing_184 rfl rfl ?_
    refine Rn.getR dX1_readsThing_185 fd_X1_9_1 (by first | rfl | exact gC0 (by assumption) | exact gL0 (by assumption)) rfl ?_
    refine Rn.iload_n dX1_readsThing_188 rfl rfl ?_
    refine Rn.iconst (v := (nI 1)) dX1_readsThing_189 rfl ?_
    refine Rn.iadd dX1_readsThing_190 ?_
    refine Rn.topI (nI (t + 1)) (by exact nI_1 t) ?_
    refine Rn.putI dX1_readsThing_191 fp_X1_35_0 (by first | rfl | exact gC0 (by assumption) | exact gL0 (by assumption)) rfl ?_
    refine Rn.hpp _ (TQ5_zup _ _ (by decide)) ?_
    refine Rn.iconst (v := (nI 1)) dX1_readsThing_194 rfl ?_
    exact Rn.zret dX1_readsThing_195 rfl rfl (⟨_, q2, rfl, g1, Or.inr ⟨(w, t + 1, upd b t (blB c e q)), by rw [g2]; exact ho.symm, rfl, hK2.thing ht⟩⟩)
  rcases h with ⟨h1, rfl, rfl⟩ | ⟨h1, h2, rfl, rfl⟩
  · refine Rn.if_eq (tgt := 180) dX1_readsThing_173 (by decide) (fun _ => ?_) (fun h9 => absurd h9 (by decide))
    refine Rn.iconst (v := (nI 0)) dX1_readsThing_180 rfl ?_
    exact fin (nI 0) q (if_neg h1).symm hq (if_neg h1).symm
  · refine Rn.if_eq (tgt := 180) dX1_readsThing_173 (by decide) (fun h9 => absurd h9 (by decide)) (fun _ => ?_)
    refine Rn.iconst (v := (nI 1)) dX1_readsThing_176 rfl ?_
    refine Rn.goto 181 dX1_readsThing_177 (by decide) ?_
    exact fin (nI 1) (nx c e q) (if_pos h1).symm (nx_le h2) (if_pos h1).symm
theorem kd_t3 (I : Hi) (w t : Nat) (b : Nat → Int32) (ht : t < 8) (hT : TX I c e) (o : Nat ⊕ (Cs × Nat)) (K : Hi) (q : Nat) (x2 : Option Value) (hq : q ≤ e) (hK : KD I (w, t, b) K) (ho : cMap (cOpt c e 763528 (nI w - nI 1) q) (fun q1 => ((w, t + 1, upd b t (blB c e q1)), cFlag c e 78501 q1)) = o) : Rn G GAM mX1_readsThing (kM G GAM (Rv (CDl I c e o))) (d + 3) 0 96 [some (.ref 37), some (.int (nI t)), x2] [] (TQ5 K c e q) := by
  refine Rn.aload_n dX1_readsThing_96 rfl rfl ?_
  refine Rn.getR dX1_readsThing_97 fd_X1_9_1 (by first | rfl | exact gC0 (by assumption) | exact gL0 (by assumption)) rfl ?_
  refine Rn.iload_n dX1_readsThing_100 rfl rfl ?_
  refine Rn.iconst (v := (nI 5)) dX1_readsThing_101 rfl ?_
  refine Rn.aload_n dX1_readsThing_102 rfl rfl ?_
  refine Rn.getR dX1_readsThing_103 fd_X1_9_1 (by first | rfl | exact gC0 (by assumption) | exact gL0 (by assumption)) rfl ?_
  refine Rn.iload_n dX1_readsThing_106 rfl rfl ?_
  refine Rn.iconst (v := (nI 4)) dX1_readsThing_107 rfl ?_
  refine Rn.callV (As := [_, _]) dX1_readsThing_108 mv_X1_74 (by first | rfl | exact gC0 (by assumption) | exact gL0 (by assumption)) rfl rfl rfl (Nat.le_of_ble_eq_true rfl) (ct_itsC G (d + 2) _ t 4 ht (by decide)) (fun _ _ h => h) (fun v J h => ?_)
  obtain ⟨rfl, x, rfl⟩ := h
  refine Rn.callVp (As := [_, _, _]) dX1_readsThing_111 mv_X1_70 (by first | rfl | exact gC0 (by assumption) | exact gL0 (by assumption)) rfl rfl rfl (Nat.le_of_ble_eq_true rfl) (ct_setI G (d + 2) _ t 5 _ ht (by decide)) ?_
  refine Rn.hpp _ (TQ5_zup _ _ (by decide)) ?_
  have hK2 := hK.i (t := t) (j := 9 * t + 5) (Nat.le_refl _) (by omega) x
  refine Rn.aload_n dX1_readsThing_114 rfl rfl ?_
  refine Rn.getR dX1_readsThing_115 fd_X1_21_1 (by first | rfl | exact gC0 (by assumption) | exact gL0 (by assumption)) rfl ?_
  refine Rn.ldc dX1_readsThing_118 kc_X1_78 ?_
  refine Rn.callV (As := [_]) dX1_readsThing_120 mv_X1_26 (by first | rfl | exact gC0 (by assumption) | exact gL0 (by assumption)) rfl rfl rfl (Nat.le_of_ble_eq_true rfl) (ct_tkW G (d + 1) _ (hK2.tx hT) _ q (by decide)) (fun _ _ h => h) (fun v J h => ?_)
  rcases h with ⟨h1, rfl, rfl⟩ | ⟨h1, h2, rfl, rfl⟩
  · rw [cMap_r (show cOpt c e 763528 (nI w - nI 1) q = .inr q from if_neg h1)] at ho
    refine Rn.if_eq (tgt := 146) dX1_readsThing_123 (by decide) (fun _ => ?_) (fun h9 => absurd h9 (by decide))
    exact kd_t4 G d I w t b ht hT o _ q _ hq hK2 ho
  · rw [show cOpt c e 763528 (nI w - nI 1) q = gNum c e (nI w - nI 1) (nx c e q) from if_pos h1] at ho
    refine Rn.if_eq (tgt := 146) dX1_readsThing_123 (by decide) (fun h9 => absurd h9 (by decide)) (fun _ => ?_)
    refine Rn.aload_n dX1_readsThing_126 rfl rfl ?_
    refine Rn.iload_n dX1_readsThing_127 rfl rfl ?_
    refine Rn.iconst (v := (nI 5)) dX1_readsThing_128 rfl ?_
    refine Rn.aload_n dX1_readsThing_129 rfl rfl ?_
    refine Rn.getR dX1_readsThing_130 fd_X1_9_1 (by first | rfl | exact gC0 (by assumption) | exact gL0 (by assumption)) rfl ?_
    refine Rn.getI dX1_readsThing_133 fd_X1_15_0 (by first | rfl | exact gC0 (by assumption) | exact gL0 (by assumption)) rfl ?_
    refine Rn.topI (nI w) (by rw [TQ5_ne (by decide)]; exact hK2.1) ?_
    refine Rn.iconst (v := (nI 1)) dX1_readsThing_136 rfl ?_
    refine Rn.isub dX1_readsThing_137 ?_
    refine Rn.callV (As := [_, _, _]) dX1_readsThing_138 mv_X1_67 (by first | rfl | exact gC0 (by assumption) | exact gL0 (by assumption)) rfl rfl rfl (Nat.le_of_ble_eq_true rfl) (kd_its G d I (w, t, b) t 5 (nI w - nI 1) ht (Nat.le_refl _) (by decide) hT _ hK2 (nx c e q) (nx_le h2)) (fun _ _ h => h) (fun v J h => ?_)
    obtain ⟨K4, q4, rfl, hq4, hK4, ⟨hn4, rfl⟩ | ⟨hn4, rfl⟩⟩ := h
    · rw [cMap_l hn4] at ho
      refine Rn.if_ne (tgt := 146) dX1_readsThing_141 (by decide) (fun h9 => absurd h9 (by decide)) (fun _ => ?_)
      refine Rn.iconst (v := (nI 0)) dX1_readsThing_144 rfl ?_
      exact Rn.zret dX1_readsThing_145 rfl rfl (⟨K4, q4, rfl, hq4, Or.inl ⟨ho.symm, rfl, _, hK4⟩⟩)
    · rw [cMap_r hn4] at ho
      refine Rn.if_ne (tgt := 146) dX1_readsThing_141 (by decide) (fun _ => ?_) (fun h9 => absurd h9 (by decide))
      exact kd_t4 G d I w t b ht hT o _ q4 _ hq4 hK4 ho
theorem kd_t2 (I : Hi) (w t : Nat) (b : Nat → Int32) (ht : t < 8) (hT : TX I c e) (o : Nat ⊕ (Cs × Nat)) (K : Hi) (q : Nat) (x2 : Option Value) (hq : q ≤ e) (hK : KD I (w, t, b) K) (ho : cMap (gB (cReq c e 486 (nI w - nI 1) q) (fun q2 => gB (cOpt c e 769614 (nI 99) q2) (fun q3 => cOpt c e 763528 (nI w - nI 1) q3))) (fun q1 => ((w, t + 1, upd b t (blB c e q1)), cFlag c e 78501 q1)) = o) : Rn G GAM mX1_readsThing (kM G GAM (Rv (CDl I c e o))) (d + 3) 0 26 [some (.ref 37), some (.int (nI t)), x2] [] (TQ5 K c e q) := by
  refine Rn.aload_n dX1_readsThing_26 rfl rfl ?_
  refine Rn.getR dX1_readsThing_27 fd_X1_21_1 (by first | rfl | exact gC0 (by assumption) | exact gL0 (by assumption)) rfl ?_
  refine Rn.sipush (v := (nI 486)) dX1_readsThing_30 rfl ?_
  refine Rn.callV (As := [_]) dX1_readsThing_33 mv_X1_26 (by first | rfl | exact gC0 (by assumption) | exact gL0 (by assumption)) rfl rfl rfl (Nat.le_of_ble_eq_true rfl) (ct_tkW G (d + 1) K (hK.tx hT) _ q (by decide)) (fun _ _ h => h) (fun v J h => ?_)
  rcases h with ⟨h1, rfl, rfl⟩ | ⟨h1, h2, rfl, rfl⟩
  · rw [gB_l (show cReq c e 486 (nI w - nI 1) q = .inl q from if_neg h1)] at ho
    refine Rn.if_eq (tgt := 57) dX1_readsThing_36 (by decide) (fun _ => ?_) (fun h9 => absurd h9 (by decide))
    refine Rn.iconst (v := (nI 0)) dX1_readsThing_57 rfl ?_
    exact Rn.zret dX1_readsThing_58 rfl rfl (⟨K, q, rfl, hq, Or.inl ⟨ho.symm, rfl, _, hK⟩⟩)
  · rw [show cReq c e 486 (nI w - nI 1) q = gNum c e (nI w - nI 1) (nx c e q) from if_pos h1] at ho
    refine Rn.if_eq (tgt := 57) dX1_readsThing_36 (by decide) (fun h9 => absurd h9 (by decide)) (fun _ => ?_)
    refine Rn.aload_n dX1_readsThing_39 rfl rfl ?_
    refine Rn.iload_n dX1_readsThing_40 rfl rfl ?_
    refine Rn.iconst (v := (nI 4)) dX1_readsThing_41 rfl ?_
    refine Rn.aload_n dX1_readsThing_42 rfl rfl ?_
    refine Rn.getR dX1_readsThing_43 fd_X1_9_1 (by first | rfl | exact gC0 (by assumption) | exact gL0 (by assumption)) rfl ?_
    refine Rn.getI dX1_readsThing_46 fd_X1_15_0 (by first | rfl | exact gC0 (by assumption) | exact gL0 (by assumption)) rfl ?_
    refine Rn.topI (nI w) (by rw [TQ5_ne (by decide)]; exact hK.1) ?_
    refine Rn.iconst (v := (nI 1)) dX1_readsThing_49 rfl ?_
    refine Rn.isub dX1_readsThing_50 ?_
    refine Rn.callV (As := [_, _, _]) dX1_readsThing_51 mv_X1_67 (by first | rfl | exact gC0 (by assumption) | exact gL0 (by assumption)) rfl rfl rfl (Nat.le_of_ble_eq_true rfl) (kd_its G d I (w, t, b) t 4 (nI w - nI 1) ht (Nat.le_refl _) (by decide) hT K hK (nx c e q) (nx_le h2)) (fun _ _ h => h) (fun v J h => ?_)
    obtain ⟨K2, q2, rfl, hq2, hK2, ⟨hn, rfl⟩ | ⟨hn, rfl⟩⟩ := h
    · rw [gB_l hn] at ho
      refine Rn.if_ne (tgt := 59) dX1_readsThing_54 (by decide) (fun h9 => absurd h9 (by decide)) (fun _ => ?_)
      refine Rn.iconst (v := (nI 0)) dX1_readsThing_57 rfl ?_
      exact Rn.zret dX1_readsThing_58 rfl rfl (⟨K2, q2, rfl, hq2, Or.inl ⟨ho.symm, rfl, _, hK2⟩⟩)
    · rw [gB_r hn] at ho
      refine Rn.if_ne (tgt := 59) dX1_readsThing_54 (by decide) (fun _ => ?_) (fun h9 => absurd h9 (by decide))
      refine Rn.aload_n dX1_readsThing_59 rfl rfl ?_
      refine Rn.getR dX1_readsThing_60 fd_X1_9_1 (by first | rfl | exact gC0 (by assumption) | exact gL0 (by assumption)) rfl ?_
      refine Rn.iload_n dX1_readsThing_63 rfl rfl ?_
      refine Rn.bipush (v := (nI 6)) dX1_readsThing_64 rfl ?_
      refine Rn.iconst (v := (nI 0)) dX1_readsThing_66 rfl ?_
      refine Rn.callVp (As := [_, _, _]) dX1_readsThing_67 mv_X1_70 (by first | rfl | exact gC0 (by assumption) | exact gL0 (by assumption)) rfl rfl rfl (Nat.le_of_ble_eq_true rfl) (ct_setI G (d + 2) _ t 6 _ ht (by decide)) ?_
      refine Rn.hpp _ (TQ5_zup _ _ (by decide)) ?_
      have hK3 := hK2.i (t := t) (j := 9 * t + 6) (Nat.le_refl _) (by omega) (nI 0)
      refine Rn.aload_n dX1_readsThing_70 rfl rfl ?_
      refine Rn.getR dX1_readsThing_71 fd_X1_21_1 (by first | rfl | exact gC0 (by assumption) | exact gL0 (by assumption)) rfl ?_
      refine Rn.ldc dX1_readsThing_74 kc_X1_73 ?_
      refine Rn.callV (As := [_]) dX1_readsThing_76 mv_X1_26 (by first | rfl | exact gC0 (by assumption) | exact gL0 (by assumption)) rfl rfl rfl (Nat.le_of_ble_eq_true rfl) (ct_tkW G (d + 1) _ (hK3.tx hT) _ q2 (by decide)) (fun _ _ h => h) (fun v J h => ?_)
      rcases h with ⟨h3, rfl, rfl⟩ | ⟨h3, h4, rfl, rfl⟩
      · rw [gB_r (show cOpt c e 769614 (nI 99) q2 = .inr q2 from if_neg h3)] at ho
        refine Rn.if_eq (tgt := 96) dX1_readsThing_79 (by decide) (fun _ => ?_) (fun h9 => absurd h9 (by decide))
        exact kd_t3 G d I w t b ht hT o _ q2 _ hq2 hK3 ho
      · rw [show cOpt c e 769614 (nI 99) q2 = gNum c e (nI 99) (nx c e q2) from if_pos h3] at ho
        refine Rn.if_eq (tgt := 96) dX1_readsThing_79 (by decide) (fun h9 => absurd h9 (by decide)) (fun _ => ?_)
        refine Rn.aload_n dX1_readsThing_82 rfl rfl ?_
        refine Rn.iload_n dX1_readsThing_83 rfl rfl ?_
        refine Rn.bipush (v := (nI 6)) dX1_readsThing_84 rfl ?_
        refine Rn.bipush (v := (nI 99)) dX1_readsThing_86 rfl ?_
        refine Rn.callV (As := [_, _, _]) dX1_readsThing_88 mv_X1_67 (by first | rfl | exact gC0 (by assumption) | exact gL0 (by assumption)) rfl rfl rfl (Nat.le_of_ble_eq_true rfl) (kd_its G d I (w, t, b) t 6 (nI 99) ht (Nat.le_refl _) (by decide) hT _ hK3 (nx c e q2) (nx_le h4)) (fun _ _ h => h) (fun v J h => ?_)
        obtain ⟨K4, q4, rfl, hq4, hK4, ⟨hn4, rfl⟩ | ⟨hn4, rfl⟩⟩ := h
        · rw [gB_l hn4] at ho
          refine Rn.if_ne (tgt := 96) dX1_readsThing_91 (by decide) (fun h9 => absurd h9 (by decide)) (fun _ => ?_)
          refine Rn.iconst (v := (nI 0)) dX1_readsThing_94 rfl ?_
          exact Rn.zret dX1_readsThing_95 rfl rfl (⟨K4, q4, rfl, hq4, Or.inl ⟨ho.symm, rfl, _, hK4⟩⟩)
        · rw [gB_r hn4] at ho
          refine Rn.if_ne (tgt := 96) dX1_readsThing_91 (by decide) (fun _ => ?_) (fun h9 => absurd h9 (by decide))
          exact kd_t3 G d I w t b ht hT o _ q4 _ hq4 hK4 ho
theorem kd_thing (I : Hi) (w t : Nat) (b : Nat → Int32) (ht : t < 8) (hT : TX I c e) (K : Hi) (hK : KD I (w, t, b) K) (q : Nat) (hq : q ≤ e) : Ct G GAM mX1_readsThing (d + 3) 0 [.ref 37, .int (nI t)] (TQ5 K c e q) (Rv (CDl I c e (cMap (cThing c e w q) (fun q1 => ((w, t + 1, upd b t (blB c e q1)), cFlag c e 78501 q1))))) := by
  refine Ct.mk [some (.ref 37), some (.int (nI t)), none] ?_
  refine Rn.iconst (v := (nI 0)) dX1_readsThing_0 rfl ?_
  refine Rn.istore_n dX1_readsThing_1 rfl (by decide) ?_
  refine lp_its G d I w t b t ht (Nat.le_refl _) hT (fun q1 => cMap (gB (cReq c e 486 (nI w - nI 1) q1) (fun q2 => gB (cOpt c e 769614 (nI 99) q2) (fun q3 => cOpt c e 763528 (nI w - nI 1) q3))) (fun q1 => ((w, t + 1, upd b t (blB c e q1)), cFlag c e 78501 q1))) _ (fun K q x2 h1 h2 h3 => kd_t2 G d I w t b ht hT _ K q x2 h2 h3 h1) 4 0 q K rfl hq hK ?_
  unfold cThing
  rw [cMap_gB]
end Kco
