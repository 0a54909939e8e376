theorem dX10_readSum_9 : decode cX10_readSum 9 = .ok (.aload_n 0, 1) := by decide +kernel
theorem dX10_readSum_10 : decode cX10_readSum 10 = .ok (.bipush 43, 2) := by decide +kernel
theorem dX10_readSum_12 : decode cX10_readSum 12 = .ok (.invokevirtual 189, 3) := by decide +kernel
theorem dX10_readSum_15 : decode cX10_readSum 15 = .ok (.ifCond .eq 22, 3) := by decide +kernel
theorem dX10_readSum_37 : decode cX10_readSum 37 = .ok (.iconst 1, 1) := by decide +kernel
theorem dX10_readSum_38 : decode cX10_readSum 38 = .ok (.ireturn, 1) := by decide +kernel
theorem dX10_readSum_18 : decode cX10_readSum 18 = .ok (.aload_n 0, 1) := by decide +kernel
theorem dX10_readSum_19 : decode cX10_readSum 19 = .ok (.invokevirtual 186, 3) := by decide +kernel
theorem dX10_readSum_22 : decode cX10_readSum 22 = .ok (.ifCond .ne 5, 3) := by decide +kernel
theorem dX10_readSum_25 : decode cX10_readSum 25 = .ok (.iconst 0, 1) := by decide +kernel
theorem dX10_readSum_26 : decode cX10_readSum 26 = .ok (.ireturn, 1) := by decide +kernel
theorem dX10_readSum_27 : decode cX10_readSum 27 = .ok (.aload_n 0, 1) := by decide +kernel
theorem dX10_readSum_28 : decode cX10_readSum 28 = .ok (.bipush 11, 2) := by decide +kernel
theorem dX10_readSum_30 : decode cX10_readSum 30 = .ok (.iconst 0, 1) := by decide +kernel
theorem dX10_readSum_31 : decode cX10_readSum 31 = .ok (.invokevirtual 182, 3) := by decide +kernel
theorem dX10_readSum_34 : decode cX10_readSum 34 = .ok (.goto (-25), 3) := by decide +kernel
theorem dX10_readSum_0 : decode cX10_readSum 0 = .ok (.aload_n 0, 1) := by decide +kernel
theorem dX10_readSum_1 : decode cX10_readSum 1 = .ok (.invokevirtual 186, 3) := by decide +kernel
theorem dX10_readSum_4 : decode cX10_readSum 4 = .ok (.ifCond .ne 5, 3) := by decide +kernel
theorem dX10_readSum_7 : decode cX10_readSum 7 = .ok (.iconst 0, 1) := by decide +kernel
theorem dX10_readSum_8 : decode cX10_readSum 8 = .ok (.ireturn, 1) := by decide +kernel
theorem dX10_readAllOf_9 : decode cX10_readAllOf 9 = .ok (.aload_n 0, 1) := by decide +kernel
theorem dX10_readAllOf_10 : decode cX10_readAllOf 10 = .ok (.ldc 211, 2) := by decide +kernel
theorem sm_X10_211 : (RX10, 211, "and", 1021) ∈ zSR := by decide +kernel
theorem dX10_readAllOf_12 : decode cX10_readAllOf 12 = .ok (.invokevirtual 139, 3) := by decide +kernel
theorem dX10_readAllOf_15 : decode cX10_readAllOf 15 = .ok (.ifCond .eq 22, 3) := by decide +kernel
theorem dX10_readAllOf_37 : decode cX10_readAllOf 37 = .ok (.iconst 1, 1) := by decide +kernel
theorem dX10_readAllOf_38 : decode cX10_readAllOf 38 = .ok (.ireturn, 1) := by decide +kernel
theorem dX10_readAllOf_18 : decode cX10_readAllOf 18 = .ok (.aload_n 0, 1) := by decide +kernel
theorem dX10_readAllOf_19 : decode cX10_readAllOf 19 = .ok (.invokevirtual 202, 3) := by decide +kernel
theorem dX10_readAllOf_22 : decode cX10_readAllOf 22 = .ok (.ifCond .ne 5, 3) := by decide +kernel
theorem dX10_readAllOf_25 : decode cX10_readAllOf 25 = .ok (.iconst 0, 1) := by decide +kernel
theorem dX10_readAllOf_26 : decode cX10_readAllOf 26 = .ok (.ireturn, 1) := by decide +kernel
theorem dX10_readAllOf_27 : decode cX10_readAllOf 27 = .ok (.aload_n 0, 1) := by decide +kernel
theorem dX10_readAllOf_28 : decode cX10_readAllOf 28 = .ok (.bipush 15, 2) := by decide +kernel
theorem dX10_readAllOf_30 : decode cX10_readAllOf 30 = .ok (.iconst 0, 1) := by decide +kernel
theorem dX10_readAllOf_31 : decode cX10_readAllOf 31 = .ok (.invokevirtual 182, 3) := by decide +kernel
theorem dX10_readAllOf_34 : decode cX10_readAllOf 34 = .ok (.goto (-25), 3) := by decide +kernel
theorem dX10_readAllOf_0 : decode cX10_readAllOf 0 = .ok (.aload_n 0, 1) := by decide +kernel
theorem dX10_readAllOf_1 : decode cX10_readAllOf 1 = .ok (.invokevirtual 202, 3) := by decide +kernel
theorem dX10_readAllOf_4 : decode cX10_readAllOf 4 = .ok (.ifCond .ne 5, 3) := by decide +kernel
theorem dX10_readAllOf_7 : decode cX10_readAllOf 7 = .ok (.iconst 0, 1) := by decide +kernel
theorem dX10_readAllOf_8 : decode cX10_readAllOf 8 = .ok (.ireturn, 1) := by decide +kernel
theorem dX10_readCond_9 : decode cX10_readCond 9 = .ok (.aload_n 0, 1) := by decide +kernel
theorem dX10_readCond_10 : decode cX10_readCond 10 = .ok (.ldc 216, 2) := by decide +kernel
theorem sm_X10_216 : (RX10, 216, "or", 1022) ∈ zSR := by decide +kernel
theorem dX10_readCond_12 : decode cX10_readCond 12 = .ok (.invokevirtual 139, 3) := by decide +kernel
theorem dX10_readCond_15 : decode cX10_readCond 15 = .ok (.ifCond .eq 22, 3) := by decide +kernel
theorem dX10_readCond_37 : decode cX10_readCond 37 = .ok (.iconst 1, 1) := by decide +kernel
theorem dX10_readCond_38 : decode cX10_readCond 38 = .ok (.ireturn, 1) := by decide +kernel
theorem dX10_readCond_18 : decode cX10_readCond 18 = .ok (.aload_n 0, 1) := by decide +kernel
theorem dX10_readCond_19 : decode cX10_readCond 19 = .ok (.invokevirtual 213, 3) := by decide +kernel
theorem dX10_readCond_22 : decode cX10_readCond 22 = .ok (.ifCond .ne 5, 3) := by decide +kernel
theorem dX10_readCond_25 : decode cX10_readCond 25 = .ok (.iconst 0, 1) := by decide +kernel
theorem dX10_readCond_26 : decode cX10_readCond 26 = .ok (.ireturn, 1) := by decide +kernel
theorem dX10_readCond_27 : decode cX10_readCond 27 = .ok (.aload_n 0, 1) := by decide +kernel
theorem dX10_readCond_28 : decode cX10_readCond 28 = .ok (.bipush 16, 2) := by decide +kernel
theorem dX10_readCond_30 : decode cX10_readCond 30 = .ok (.iconst 0, 1) := by decide +kernel
theorem dX10_readCond_31 : decode cX10_readCond 31 = .ok (.invokevirtual 182, 3) := by decide +kernel
theorem dX10_readCond_34 : decode cX10_readCond 34 = .ok (.goto (-25), 3) := by decide +kernel
theorem dX10_readCond_0 : decode cX10_readCond 0 = .ok (.aload_n 0, 1) := by decide +kernel
theorem dX10_readCond_1 : decode cX10_readCond 1 = .ok (.invokevirtual 213, 3) := by decide +kernel
theorem dX10_readCond_4 : decode cX10_readCond 4 = .ok (.ifCond .ne 5, 3) := by decide +kernel
theorem dX10_readCond_7 : decode cX10_readCond 7 = .ok (.iconst 0, 1) := by decide +kernel
theorem dX10_readCond_8 : decode cX10_readCond 8 = .ok (.ireturn, 1) := by decide +kernel
theorem dX10_readTag_0 : decode cX10_readTag 0 = .ok (.aload_n 0, 1) := by decide +kernel
theorem dX10_readTag_1 : decode cX10_readTag 1 = .ok (.invokevirtual 114, 3) := by decide +kernel
theorem dX10_readTag_4 : decode cX10_readTag 4 = .ok (.aload_n 0, 1) := by decide +kernel
theorem dX10_readTag_5 : decode cX10_readTag 5 = .ok (.ldc 142, 2) := by decide +kernel
theorem sm_X10_142 : (RX10, 142, "widow", 1003) ∈ zSR := by decide +kernel
theorem dX10_readTag_7 : decode cX10_readTag 7 = .ok (.invokevirtual 117, 3) := by decide +kernel
theorem dX10_readTag_10 : decode cX10_readTag 10 = .ok (.ifCond .eq 8, 3) := by decide +kernel
theorem dX10_readTag_13 : decode cX10_readTag 13 = .ok (.bipush 7, 2) := by decide +kernel
theorem dX10_readTag_15 : decode cX10_readTag 15 = .ok (.goto 32, 3) := by decide +kernel
theorem dX10_readTag_47 : decode cX10_readTag 47 = .ok (.istore_n 1, 1) := by decide +kernel
theorem dX10_readTag_48 : decode cX10_readTag 48 = .ok (.iload_n 1, 1) := by decide +kernel
theorem dX10_readTag_49 : decode cX10_readTag 49 = .ok (.ifCond .lt 12, 3) := by decide +kernel
theorem dX10_readTag_52 : decode cX10_readTag 52 = .ok (.aload_n 0, 1) := by decide +kernel
theorem dX10_readTag_53 : decode cX10_readTag 53 = .ok (.iload_n 1, 1) := by decide +kernel
theorem dX10_readTag_54 : decode cX10_readTag 54 = .ok (.iconst 0, 1) := by decide +kernel
theorem dX10_readTag_55 : decode cX10_readTag 55 = .ok (.invokevirtual 182, 3) := by decide +kernel
theorem dX10_readTag_58 : decode cX10_readTag 58 = .ok (.goto 11, 3) := by decide +kernel
theorem dX10_readTag_69 : decode cX10_readTag 69 = .ok (.iload_n 1, 1) := by decide +kernel
theorem dX10_readTag_70 : decode cX10_readTag 70 = .ok (.ifCond .lt 7, 3) := by decide +kernel
theorem dX10_readTag_73 : decode cX10_readTag 73 = .ok (.iconst 1, 1) := by decide +kernel
theorem dX10_readTag_74 : decode cX10_readTag 74 = .ok (.goto 4, 3) := by decide +kernel
theorem dX10_readTag_78 : decode cX10_readTag 78 = .ok (.ireturn, 1) := by decide +kernel
theorem dX10_readTag_18 : decode cX10_readTag 18 = .ok (.aload_n 0, 1) := by decide +kernel
theorem dX10_readTag_19 : decode cX10_readTag 19 = .ok (.ldc 192, 2) := by decide +kernel
theorem sm_X10_192 : (RX10, 192, "own", 1017) ∈ zSR := by decide +kernel
theorem dX10_readTag_21 : decode cX10_readTag 21 = .ok (.invokevirtual 117, 3) := by decide +kernel
theorem dX10_readTag_24 : decode cX10_readTag 24 = .ok (.ifCond .eq 8, 3) := by decide +kernel
theorem dX10_readTag_27 : decode cX10_readTag 27 = .ok (.bipush 8, 2) := by decide +kernel
theorem dX10_readTag_29 : decode cX10_readTag 29 = .ok (.goto 18, 3) := by decide +kernel
theorem dX10_readTag_32 : decode cX10_readTag 32 = .ok (.aload_n 0, 1) := by decide +kernel
theorem dX10_readTag_33 : decode cX10_readTag 33 = .ok (.ldc 149, 2) := by decide +kernel
theorem sm_X10_149 : (RX10, 149, "blue", 1008) ∈ zSR := by decide +kernel
theorem dX10_readTag_35 : decode cX10_readTag 35 = .ok (.invokevirtual 117, 3) := by decide +kernel
theorem dX10_readTag_38 : decode cX10_readTag 38 = .ok (.ifCond .eq 8, 3) := by decide +kernel
theorem dX10_readTag_41 : decode cX10_readTag 41 = .ok (.bipush 9, 2) := by decide +kernel
theorem dX10_readTag_43 : decode cX10_readTag 43 = .ok (.goto 4, 3) := by decide +kernel
theorem dX10_readTag_46 : decode cX10_readTag 46 = .ok (.iconst (-1), 1) := by decide +kernel
theorem dX10_readTag_61 : decode cX10_readTag 61 = .ok (.aload_n 0, 1) := by decide +kernel
theorem dX10_readTag_62 : decode cX10_readTag 62 = .ok (.aload_n 0, 1) := by decide +kernel
theorem dX10_readTag_63 : decode cX10_readTag 63 = .ok (.getfield 99, 3) := by decide +kernel
theorem dX10_readTag_66 : decode cX10_readTag 66 = .ok (.putfield 89, 3) := by decide +kernel
theorem dX10_readTag_77 : decode cX10_readTag 77 = .ok (.iconst 0, 1) := by decide +kernel
theorem dX10_readAtom_0 : decode cX10_readAtom 0 = .ok (.aload_n 0, 1) := by decide +kernel
theorem dX10_readAtom_1 : decode cX10_readAtom 1 = .ok (.bipush 40, 2) := by decide +kernel
theorem dX10_readAtom_3 : decode cX10_readAtom 3 = .ok (.invokevirtual 189, 3) := by decide +kernel
theorem dX10_readAtom_6 : decode cX10_readAtom 6 = .ok (.ifCond .eq 50, 3) := by decide +kernel
theorem dX10_readAtom_9 : decode cX10_readAtom 9 = .ok (.aload_n 0, 1) := by decide +kernel
theorem dX10_readAtom_10 : decode cX10_readAtom 10 = .ok (.getfield 194, 3) := by decide +kernel
theorem dX10_readAtom_13 : decode cX10_readAtom 13 = .ok (.bipush 6, 2) := by decide +kernel
theorem dX10_readAtom_15 : decode cX10_readAtom 15 = .ok (.if_icmp .ne 5, 3) := by decide +kernel
theorem dX10_readAtom_20 : decode cX10_readAtom 20 = .ok (.aload_n 0, 1) := by decide +kernel
theorem dX10_readAtom_21 : decode cX10_readAtom 21 = .ok (.dup, 1) := by decide +kernel
theorem dX10_readAtom_22 : decode cX10_readAtom 22 = .ok (.getfield 194, 3) := by decide +kernel
theorem dX10_readAtom_25 : decode cX10_readAtom 25 = .ok (.iconst 1, 1) := by decide +kernel
theorem dX10_readAtom_26 : decode cX10_readAtom 26 = .ok (.iadd, 1) := by decide +kernel
theorem dX10_readAtom_27 : decode cX10_readAtom 27 = .ok (.putfield 194, 3) := by decide +kernel
theorem dX10_readAtom_30 : decode cX10_readAtom 30 = .ok (.aload_n 0, 1) := by decide +kernel
theorem dX10_readAtom_31 : decode cX10_readAtom 31 = .ok (.invokevirtual 197, 3) := by decide +kernel
theorem dX10_readAtom_34 : decode cX10_readAtom 34 = .ok (.ifCond .ne 5, 3) := by decide +kernel
theorem dX10_readAtom_37 : decode cX10_readAtom 37 = .ok (.iconst 0, 1) := by decide +kernel
theorem dX10_readAtom_38 : decode cX10_readAtom 38 = .ok (.ireturn, 1) := by decide +kernel
theorem dX10_readAtom_39 : decode cX10_readAtom 39 = .ok (.aload_n 0, 1) := by decide +kernel
theorem dX10_readAtom_40 : decode cX10_readAtom 40 = .ok (.dup, 1) := by decide +kernel
theorem dX10_readAtom_41 : decode cX10_readAtom 41 = .ok (.getfield 194, 3) := by decide +kernel
theorem dX10_readAtom_44 : decode cX10_readAtom 44 = .ok (.iconst 1, 1) := by decide +kernel
theorem dX10_readAtom_45 : decode cX10_readAtom 45 = .ok (.isub, 1) := by decide +kernel
theorem dX10_readAtom_46 : decode cX10_readAtom 46 = .ok (.putfield 194, 3) := by decide +kernel
theorem dX10_readAtom_49 : decode cX10_readAtom 49 = .ok (.aload_n 0, 1) := by decide +kernel
theorem dX10_readAtom_50 : decode cX10_readAtom 50 = .ok (.bipush 41, 2) := by decide +kernel
theorem dX10_readAtom_52 : decode cX10_readAtom 52 = .ok (.invokevirtual 189, 3) := by decide +kernel
theorem dX10_readAtom_55 : decode cX10_readAtom 55 = .ok (.ireturn, 1) := by decide +kernel
theorem dX10_readAtom_18 : decode cX10_readAtom 18 = .ok (.iconst 0, 1) := by decide +kernel
theorem dX10_readAtom_19 : decode cX10_readAtom 19 = .ok (.ireturn, 1) := by decide +kernel
theorem dX10_readAtom_56 : decode cX10_readAtom 56 = .ok (.aload_n 0, 1) := by decide +kernel
theorem dX10_readAtom_57 : decode cX10_readAtom 57 = .ok (.ldc 200, 2) := by decide +kernel
theorem sm_X10_200 : (RX10, 200, "not", 1016) ∈ zSR := by decide +kernel
theorem dX10_readAtom_59 : decode cX10_readAtom 59 = .ok (.invokevirtual 139, 3) := by decide +kernel
theorem dX10_readAtom_62 : decode cX10_readAtom 62 = .ok (.ifCond .eq 52, 3) := by decide +kernel
theorem dX10_readAtom_65 : decode cX10_readAtom 65 = .ok (.aload_n 0, 1) := by decide +kernel
theorem dX10_readAtom_66 : decode cX10_readAtom 66 = .ok (.getfield 194, 3) := by decide +kernel
theorem dX10_readAtom_69 : decode cX10_readAtom 69 = .ok (.bipush 6, 2) := by decide +kernel
theorem dX10_readAtom_71 : decode cX10_readAtom 71 = .ok (.if_icmp .ne 5, 3) := by decide +kernel
theorem dX10_readAtom_76 : decode cX10_readAtom 76 = .ok (.aload_n 0, 1) := by decide +kernel
theorem dX10_readAtom_77 : decode cX10_readAtom 77 = .ok (.dup, 1) := by decide +kernel
theorem dX10_readAtom_78 : decode cX10_readAtom 78 = .ok (.getfield 194, 3) := by decide +kernel
theorem dX10_readAtom_81 : decode cX10_readAtom 81 = .ok (.iconst 1, 1) := by decide +kernel
theorem dX10_readAtom_82 : decode cX10_readAtom 82 = .ok (.iadd, 1) := by decide +kernel
theorem dX10_readAtom_83 : decode cX10_readAtom 83 = .ok (.putfield 194, 3) := by decide +kernel
theorem dX10_readAtom_86 : decode cX10_readAtom 86 = .ok (.aload_n 0, 1) := by decide +kernel
theorem dX10_readAtom_87 : decode cX10_readAtom 87 = .ok (.invokevirtual 202, 3) := by decide +kernel
theorem dX10_readAtom_90 : decode cX10_readAtom 90 = .ok (.ifCond .ne 5, 3) := by decide +kernel
theorem dX10_readAtom_93 : decode cX10_readAtom 93 = .ok (.iconst 0, 1) := by decide +kernel
theorem dX10_readAtom_94 : decode cX10_readAtom 94 = .ok (.ireturn, 1) := by decide +kernel
theorem dX10_readAtom_95 : decode cX10_readAtom 95 = .ok (.aload_n 0, 1) := by decide +kernel
theorem dX10_readAtom_96 : decode cX10_readAtom 96 = .ok (.dup, 1) := by decide +kernel
theorem dX10_readAtom_97 : decode cX10_readAtom 97 = .ok (.getfield 194, 3) := by decide +kernel
theorem dX10_readAtom_100 : decode cX10_readAtom 100 = .ok (.iconst 1, 1) := by decide +kernel
theorem dX10_readAtom_101 : decode cX10_readAtom 101 = .ok (.isub, 1) := by decide +kernel
theorem dX10_readAtom_102 : decode cX10_readAtom 102 = .ok (.putfield 194, 3) := by decide +kernel
theorem dX10_readAtom_105 : decode cX10_readAtom 105 = .ok (.aload_n 0, 1) := by decide +kernel
theorem dX10_readAtom_106 : decode cX10_readAtom 106 = .ok (.bipush 14, 2) := by decide +kernel
theorem dX10_readAtom_108 : decode cX10_readAtom 108 = .ok (.iconst 0, 1) := by decide +kernel
theorem dX10_readAtom_109 : decode cX10_readAtom 109 = .ok (.invokevirtual 182, 3) := by decide +kernel
theorem dX10_readAtom_112 : decode cX10_readAtom 112 = .ok (.iconst 1, 1) := by decide +kernel
theorem dX10_readAtom_113 : decode cX10_readAtom 113 = .ok (.ireturn, 1) := by decide +kernel
theorem dX10_readAtom_74 : decode cX10_readAtom 74 = .ok (.iconst 0, 1) := by decide +kernel
theorem dX10_readAtom_75 : decode cX10_readAtom 75 = .ok (.ireturn, 1) := by decide +kernel
theorem dX10_readAtom_114 : decode cX10_readAtom 114 = .ok (.aload_n 0, 1) := by decide +kernel
theorem dX10_readAtom_115 : decode cX10_readAtom 115 = .ok (.invokevirtual 205, 3) := by decide +kernel
theorem dX10_readAtom_118 : decode cX10_readAtom 118 = .ok (.ifCond .eq 5, 3) := by decide +kernel
theorem dX10_readAtom_121 : decode cX10_readAtom 121 = .ok (.iconst 1, 1) := by decide +kernel
theorem dX10_readAtom_122 : decode cX10_readAtom 122 = .ok (.ireturn, 1) := by decide +kernel
theorem dX10_readAtom_123 : decode cX10_readAtom 123 = .ok (.aload_n 0, 1) := by decide +kernel
theorem dX10_readAtom_124 : decode cX10_readAtom 124 = .ok (.invokevirtual 208, 3) := by decide +kernel
theorem dX10_readAtom_127 : decode cX10_readAtom 127 = .ok (.ifCond .ne 5, 3) := by decide +kernel
theorem dX10_readAtom_130 : decode cX10_readAtom 130 = .ok (.iconst 0, 1) := by decide +kernel
theorem dX10_readAtom_131 : decode cX10_readAtom 131 = .ok (.ireturn, 1) := by decide +kernel
theorem dX10_readAtom_132 : decode cX10_readAtom 132 = .ok (.aload_n 0, 1) := by decide +kernel
theorem dX10_readAtom_133 : decode cX10_readAtom 133 = .ok (.bipush 60, 2) := by decide +kernel
theorem dX10_readAtom_135 : decode cX10_readAtom 135 = .ok (.invokevirtual 189, 3) := by decide +kernel
theorem dX10_readAtom_138 : decode cX10_readAtom 138 = .ok (.istore_n 1, 1) := by decide +kernel
theorem dX10_readAtom_139 : decode cX10_readAtom 139 = .ok (.iload_n 1, 1) := by decide +kernel
theorem dX10_readAtom_140 : decode cX10_readAtom 140 = .ok (.ifCond .ne 12, 3) := by decide +kernel
theorem dX10_readAtom_143 : decode cX10_readAtom 143 = .ok (.aload_n 0, 1) := by decide +kernel
theorem dX10_readAtom_144 : decode cX10_readAtom 144 = .ok (.bipush 62, 2) := by decide +kernel
theorem dX10_readAtom_146 : decode cX10_readAtom 146 = .ok (.invokevirtual 189, 3) := by decide +kernel
theorem dX10_readAtom_149 : decode cX10_readAtom 149 = .ok (.ifCond .eq 10, 3) := by decide +kernel
theorem dX10_readAtom_159 : decode cX10_readAtom 159 = .ok (.iconst 0, 1) := by decide +kernel
theorem dX10_readAtom_160 : decode cX10_readAtom 160 = .ok (.ireturn, 1) := by decide +kernel
theorem dX10_readAtom_152 : decode cX10_readAtom 152 = .ok (.aload_n 0, 1) := by decide +kernel
theorem dX10_readAtom_153 : decode cX10_readAtom 153 = .ok (.invokevirtual 208, 3) := by decide +kernel
theorem dX10_readAtom_156 : decode cX10_readAtom 156 = .ok (.ifCond .ne 5, 3) := by decide +kernel
theorem dX10_readAtom_161 : decode cX10_readAtom 161 = .ok (.aload_n 0, 1) := by decide +kernel
theorem dX10_readAtom_162 : decode cX10_readAtom 162 = .ok (.iload_n 1, 1) := by decide +kernel
theorem dX10_readAtom_163 : decode cX10_readAtom 163 = .ok (.ifCond .eq 8, 3) := by decide +kernel
theorem dX10_readAtom_171 : decode cX10_readAtom 171 = .ok (.bipush 13, 2) := by decide +kernel
theorem dX10_readAtom_173 : decode cX10_readAtom 173 = .ok (.iconst 0, 1) := by decide +kernel
theorem dX10_readAtom_174 : decode cX10_readAtom 174 = .ok (.invokevirtual 182, 3) := by decide +kernel
theorem dX10_readAtom_177 : decode cX10_readAtom 177 = .ok (.iconst 1, 1) := by decide +kernel
theorem dX10_readAtom_178 : decode cX10_readAtom 178 = .ok (.ireturn, 1) := by decide +kernel
theorem dX10_readAtom_166 : decode cX10_readAtom 166 = .ok (.bipush 12, 2) := by decide +kernel
theorem dX10_readAtom_168 : decode cX10_readAtom 168 = .ok (.goto 5, 3) := by decide +kernel
/-! the reference's reader: sums, tags, conditions within conditions, told by the text -/
theorem gSum_eq (c : Nat → Nat) (e q : Nat) : gSum c e q = gB (gPart c e q) (fun q1 => if fs c e q1 = nI 43 then gSumL c e 399 (nx c e q1) else .inr q1) := rfl
theorem gB_l {x : Nat} {f : Nat → Go} {r : Go} (h : r = .inl x) : gB r f = .inl x := by rw [h]; rfl
theorem gB_r {x : Nat} {f : Nat → Go} {r : Go} (h : r = .inr x) : gB r f = f x := by rw [h]; rfl
theorem gEnd_no {c : Nat → Nat} {e q : Nat} (h1 : ¬ isTag (wv c e q)) (h2 : ¬ isPart (wv c e q)) (h3 : tn c e q = -1) : gEnd c e q = .inl q := by
  unfold gEnd
  rw [if_neg h1]
  unfold gRel
  have h4 : gPart c e q = .inl q := if_neg (fun z => z.elim h2 (fun y => y h3))
  have h5 : gSum c e q = .inl q := by rw [gSum_eq]; exact gB_l h4
  exact gB_l h5
section Cnd
variable (G : Gx) (d : Nat) {c : Nat → Nat} {e : Nat}
theorem lp_sum (q : Nat) (hq : q ≤ 6) (I : Hi) (p s : Nat) (V : Nat → Int32) (hT : TY I c e) (hs : s + 4 ≤ p) (o : Go) : ∀ (f p1 b1 s1 : Nat) (V1 : Nat → Int32) (q1 : Nat), e ≤ q1 + f → bl c e p1 = q1 → (if fs c e q1 = nI 43 then gSumL c e f (nx c e q1) else .inr q1) = o → p ≤ p1 → p1 ≤ e → b1 ≤ e → s1 + p ≤ s + p1 → seg V1 s s1 → (∀ j, j < 1275 + 2 * s → V1 j = V j) → Rn G GAM mX10_readSum (kM G GAM (Rv (PO c e I p q s V o))) (d + 7) 0 9 [some (.ref 94)] [] (PS I p1 b1 q s1 V1) := by
  have he := hT.1
  intro f
  induction f with
  | zero =>
    intro p1 b1 s1 V1 q1 hm h0 ho h1 hp1 hb1 h2 h3 h4
    have h5 := h3.1
    refine Rn.aload_n dX10_readSum_9 rfl rfl ?_
    refine Rn.bipush (v := (nI 43)) dX10_readSum_10 rfl ?_
    refine Rn.callV (As := [_]) dX10_readSum_12 mv_X10_189 (by first | rfl | exact gC0 (by assumption) | exact gL0 (by assumption)) rfl rfl rfl (Nat.le_of_ble_eq_true rfl) (cx_sign G (d + 4) (PS I p1 b1 q s1 V1) 43 p1 (by decide) hT.ps hp1 (by rfl)) (fun _ _ h => h) (fun v J h => ?_)
    rcases h with ⟨rfl, p2, r1, r2, rfl, r3, r4⟩ | ⟨rfl, p2, r1, r2, rfl, r3, r4, r5⟩
    · rw [h0] at r3
      subst r3
      rw [if_neg r4] at ho
      refine Rn.hpp _ (PS_PB _ _ _ _ _ _ _ _) ?_
      refine Rn.if_eq (tgt := 37) dX10_readSum_15 (by decide) (fun _ => ?_) (fun h9 => absurd h9 (by decide))
      refine Rn.iconst (v := (nI 1)) dX10_readSum_37 rfl ?_
      exact Rn.zret dX10_readSum_38 rfl rfl (⟨p2, p2, q, s1, V1, rfl, by omega, r2, r2, hq, by omega, by omega, h4, Or.inr ⟨rfl, rfl, by omega, h3, ho.symm.trans (by rw [← h0, bl_bl])⟩⟩)
    · exact absurd r2 (by omega)
  | succ f ih =>
    intro p1 b1 s1 V1 q1 hm h0 ho h1 hp1 hb1 h2 h3 h4
    have h5 := h3.1
    refine Rn.aload_n dX10_readSum_9 rfl rfl ?_
    refine Rn.bipush (v := (nI 43)) dX10_readSum_10 rfl ?_
    refine Rn.callV (As := [_]) dX10_readSum_12 mv_X10_189 (by first | rfl | exact gC0 (by assumption) | exact gL0 (by assumption)) rfl rfl rfl (Nat.le_of_ble_eq_true rfl) (cx_sign G (d + 4) (PS I p1 b1 q s1 V1) 43 p1 (by decide) hT.ps hp1 (by rfl)) (fun _ _ h => h) (fun v J h => ?_)
    rcases h with ⟨rfl, p2, r1, r2, rfl, r3, r4⟩ | ⟨rfl, p2, r1, r2, rfl, r3, r4, r5⟩
    · rw [h0] at r3
      subst r3
      rw [if_neg r4] at ho
      refine Rn.hpp _ (PS_PB _ _ _ _ _ _ _ _) ?_
      refine Rn.if_eq (tgt := 37) dX10_readSum_15 (by decide) (fun _ => ?_) (fun h9 => absurd h9 (by decide))
      refine Rn.iconst (v := (nI 1)) dX10_readSum_37 rfl ?_
      exact Rn.zret dX10_readSum_38 rfl rfl (⟨p2, p2, q, s1, V1, rfl, by omega, r2, r2, hq, by omega, by omega, h4, Or.inr ⟨rfl, rfl, by omega, h3, ho.symm.trans (by rw [← h0, bl_bl])⟩⟩)
    · rw [h0] at r3
      subst r3
      rw [if_pos r4] at ho
      have ho : gB (gPart c e (nx c e p2)) (fun q1 => if fs c e q1 = nI 43 then gSumL c e f (nx c e q1) else .inr q1) = o := ho
      refine Rn.hpp _ (PS_PB _ _ _ _ _ _ _ _) ?_
      refine Rn.if_eq (tgt := 37) dX10_readSum_15 (by decide) (fun h9 => absurd h9 (by decide)) (fun _ => ?_)
      refine Rn.aload_n dX10_readSum_18 rfl rfl ?_
      refine Rn.callV (As := []) dX10_readSum_19 mv_X10_186 (by first | rfl | exact gC0 (by assumption) | exact gL0 (by assumption)) rfl rfl rfl (Nat.le_of_ble_eq_true rfl) (rd_part G d q hq I (p2 + 1) p2 s1 V1 (nx c e p2) hT r2 (by omega) (by omega) (nx_s (by omega) (by omega)).symm) (fun _ _ h => h) (fun v J h => ?_)
      obtain ⟨p3, b3, q3, s3, V3, rfl, t1, t2, t3, t4, t5, t6, t7, ⟨rfl, t0⟩ | ⟨rfl, hq3, t8, t9, t0⟩⟩ := h
      · rw [gB_l t0] at ho
        refine Rn.if_ne (tgt := 27) dX10_readSum_22 (by decide) (fun h9 => absurd h9 (by decide)) (fun _ => ?_)
        refine Rn.iconst (v := (nI 0)) dX10_readSum_25 rfl ?_
        exact Rn.zret dX10_readSum_26 rfl rfl (⟨p3, b3, q3, s3, V3, rfl, by omega, t2, t3, t4, by omega, t6, fun j hj => (t7 j (by omega)).trans (h4 j hj), Or.inl ⟨rfl, ho.symm⟩⟩)
      · rw [gB_r t0] at ho
        rw [hq3]
        have t10 := t9.1
        have g1 : p3 ≤ bl c e p3 := bl_ge
        refine Rn.if_ne (tgt := 27) dX10_readSum_22 (by decide) (fun _ => ?_) (fun h9 => absurd h9 (by decide))
        refine Rn.aload_n dX10_readSum_27 rfl rfl ?_
        refine Rn.bipush (v := (nI 11)) dX10_readSum_28 rfl ?_
        refine Rn.iconst (v := (nI 0)) dX10_readSum_30 rfl ?_
        refine Rn.callVp (As := [_, _]) dX10_readSum_31 mv_X10_182 (by first | rfl | exact gC0 (by assumption) | exact gL0 (by assumption)) rfl rfl rfl (Nat.le_of_ble_eq_true rfl) (ct_emits G _ I _ _ p3 b3 q s3 V3 (by omega)) ?_
        refine Rn.goto 9 dX10_readSum_34 (by decide) ?_
        exact ih p3 b3 (s3 + 1) (emV V3 s3 (nI 11) (nI 0)) (bl c e p3) (by omega) rfl ho (by omega) t2 t3 (by omega) ((h3.of (fun j hj => (emV_lt (by omega)).trans (t7 j hj))).bin (t9.of (fun j hj => emV_lt hj)) (k := 11) (by decide) (emV_at _ _ _ _)) (fun j hj => (emV_lt (by omega)).trans ((t7 j (by omega)).trans (h4 j hj)))
theorem rd_sum (q : Nat) (hq : q ≤ 6) : RdC G c e mX10_readSum (d + 7) q (gSum c e) := by
  intro I p b s V q0 hT hp hb hs h0
  have he := hT.1
  rw [gSum_eq]
  refine Ct.mk [some (.ref 94)] ?_
  refine Rn.aload_n dX10_readSum_0 rfl rfl ?_
  refine Rn.callV (As := []) dX10_readSum_1 mv_X10_186 (by first | rfl | exact gC0 (by assumption) | exact gL0 (by assumption)) rfl rfl rfl (Nat.le_of_ble_eq_true rfl) (rd_part G d q hq I p b s V q0 hT hp hb hs h0) (fun _ _ h => h) (fun v J h => ?_)
  obtain ⟨p3, b3, q3, s3, V3, rfl, t1, t2, t3, t4, t5, t6, t7, ⟨rfl, t0⟩ | ⟨rfl, hq3, t8, t9, t0⟩⟩ := h
  · rw [gB_l t0]
    refine Rn.if_ne (tgt := 9) dX10_readSum_4 (by decide) (fun h9 => absurd h9 (by decide)) (fun _ => ?_)
    refine Rn.iconst (v := (nI 0)) dX10_readSum_7 rfl ?_
    exact Rn.zret dX10_readSum_8 rfl rfl (⟨p3, b3, q3, s3, V3, rfl, t1, t2, t3, t4, t5, t6, t7, Or.inl ⟨rfl, rfl⟩⟩)
  · rw [gB_r t0, hq3]
    have g1 : p3 ≤ bl c e p3 := bl_ge
    refine Rn.if_ne (tgt := 9) dX10_readSum_4 (by decide) (fun _ => ?_) (fun h9 => absurd h9 (by decide))
    exact lp_sum G d q hq I p s V hT hs _ 399 p3 b3 s3 V3 (bl c e p3) (by omega) rfl rfl t1 t2 t3 t8 t9 t7
theorem lp_all (q : Nat) (hq : q ≤ 6) (a : Nat → Go) (hsub : RdC G c e mX10_readAtom (d + 5) q a) (I : Hi) (p s : Nat) (V : Nat → Int32) (hT : TY I c e) (hs : s + 4 ≤ p) (o : Go) : ∀ (f p1 b1 s1 : Nat) (V1 : Nat → Int32) (q1 : Nat), e ≤ q1 + f → bl c e p1 = q1 → gLoop c e 1476 a f q1 = o → p ≤ p1 → p1 ≤ e → b1 ≤ e → s1 + p ≤ s + p1 → seg V1 s s1 → (∀ j, j < 1275 + 2 * s → V1 j = V j) → Rn G GAM mX10_readAllOf (kM G GAM (Rv (PO c e I p q s V o))) (d + 6) 0 9 [some (.ref 94)] [] (PS I p1 b1 q s1 V1) := by
  have he := hT.1
  intro f
  induction f with
  | zero =>
    intro p1 b1 s1 V1 q1 hm h0 ho h1 hp1 hb1 h2 h3 h4
    have h5 := h3.1
    have ho : Sum.inr q1 = o := ho
    refine Rn.aload_n dX10_readAllOf_9 rfl rfl ?_
    refine Rn.ldcS dX10_readAllOf_10 sm_X10_211 ?_
    refine Rn.callV (As := [_]) dX10_readAllOf_12 mv_X10_139 (by first | rfl | exact gC0 (by assumption) | exact gL0 (by assumption)) rfl rfl rfl (Nat.le_of_ble_eq_true rfl) (cx_passes G d (PS I p1 b1 q s1 V1) 21 p1 (by decide) hT.ps hp1 (by rfl)) (fun _ _ h => h) (fun v J h => ?_)
    rcases h with ⟨rfl, p2, r1, r2, rfl, r3, r4⟩ | ⟨rfl, p2, b2, r1, r2, r3, rfl, r4, r5, r6⟩
    · rw [h0] at r3
      subst r3
      refine Rn.hpp _ (PS_PB _ _ _ _ _ _ _ _) ?_
      refine Rn.if_eq (tgt := 37) dX10_readAllOf_15 (by decide) (fun _ => ?_) (fun h9 => absurd h9 (by decide))
      refine Rn.iconst (v := (nI 1)) dX10_readAllOf_37 rfl ?_
      exact Rn.zret dX10_readAllOf_38 rfl rfl (⟨p2, p2, q, s1, V1, rfl, by omega, r2, r2, hq, by omega, by omega, h4, Or.inr ⟨rfl, rfl, by omega, h3, ho.symm.trans (by rw [← h0, bl_bl])⟩⟩)
    · exact absurd r2 (by omega)
  | succ f ih =>
    intro p1 b1 s1 V1 q1 hm h0 ho h1 hp1 hb1 h2 h3 h4
    have h5 := h3.1
    have ho : (if wv c e q1 = 1476 then gB (a (nx c e q1)) (gLoop c e 1476 a f) else .inr q1) = o := ho
    refine Rn.aload_n dX10_readAllOf_9 rfl rfl ?_
    refine Rn.ldcS dX10_readAllOf_10 sm_X10_211 ?_
    refine Rn.callV (As := [_]) dX10_readAllOf_12 mv_X10_139 (by first | rfl | exact gC0 (by assumption) | exact gL0 (by assumption)) rfl rfl rfl (Nat.le_of_ble_eq_true rfl) (cx_passes G d (PS I p1 b1 q s1 V1) 21 p1 (by decide) hT.ps hp1 (by rfl)) (fun _ _ h => h) (fun v J h => ?_)
    rcases h with ⟨rfl, p2, r1, r2, rfl, r3, r4⟩ | ⟨rfl, p2, b2, r1, r2, r3, rfl, r4, r5, r6⟩
    · rw [h0] at r3
      subst r3
      rw [hz_21] at r4
      rw [if_neg r4] at ho
      refine Rn.hpp _ (PS_PB _ _ _ _ _ _ _ _) ?_
      refine Rn.if_eq (tgt := 37) dX10_readAllOf_15 (by decide) (fun _ => ?_) (fun h9 => absurd h9 (by decide))
      refine Rn.iconst (v := (nI 1)) dX10_readAllOf_37 rfl ?_
      exact Rn.zret dX10_readAllOf_38 rfl rfl (⟨p2, p2, q, s1, V1, rfl, by omega, r2, r2, hq, by omega, by omega, h4, Or.inr ⟨rfl, rfl, by omega, h3, ho.symm.trans (by rw [← h0, bl_bl])⟩⟩)
    · rw [h0] at r4
      subst r4
      rw [hz_21] at r5
      rw [if_pos r5] at ho
      refine Rn.hpp _ (PS_PB _ _ _ _ _ _ _ _) ?_
      refine Rn.if_eq (tgt := 37) dX10_readAllOf_15 (by decide) (fun h9 => absurd h9 (by decide)) (fun _ => ?_)
      refine Rn.aload_n dX10_readAllOf_18 rfl rfl ?_
      refine Rn.callV (As := []) dX10_readAllOf_19 mv_X10_202 (by first | rfl | exact gC0 (by assumption) | exact gL0 (by assumption)) rfl rfl rfl (Nat.le_of_ble_eq_true rfl) (hsub I p2 b2 s1 V1 (nx c e b2) hT r3 (by omega) (by omega) r6) (fun _ _ h => h) (fun v J h => ?_)
      obtain ⟨p3, b3, q3, s3, V3, rfl, t1, t2, t3, t4, t5, t6, t7, ⟨rfl, t0⟩ | ⟨rfl, hq3, t8, t9, t0⟩⟩ := h
      · rw [gB_l t0] at ho
        refine Rn.if_ne (tgt := 27) dX10_readAllOf_22 (by decide) (fun h9 => absurd h9 (by decide)) (fun _ => ?_)
        refine Rn.iconst (v := (nI 0)) dX10_readAllOf_25 rfl ?_
        exact Rn.zret dX10_readAllOf_26 rfl rfl (⟨p3, b3, q3, s3, V3, rfl, by omega, t2, t3, t4, by omega, t6, fun j hj => (t7 j (by omega)).trans (h4 j hj), Or.inl ⟨rfl, ho.symm⟩⟩)
      · rw [gB_r t0] at ho
        rw [hq3]
        have t10 := t9.1
        have g1 : p3 ≤ bl c e p3 := bl_ge
        refine Rn.if_ne (tgt := 27) dX10_readAllOf_22 (by decide) (fun _ => ?_) (fun h9 => absurd h9 (by decide))
        refine Rn.aload_n dX10_readAllOf_27 rfl rfl ?_
        refine Rn.bipush (v := (nI 15)) dX10_readAllOf_28 rfl ?_
        refine Rn.iconst (v := (nI 0)) dX10_readAllOf_30 rfl ?_
        refine Rn.callVp (As := [_, _]) dX10_readAllOf_31 mv_X10_182 (by first | rfl | exact gC0 (by assumption) | exact gL0 (by assumption)) rfl rfl rfl (Nat.le_of_ble_eq_true rfl) (ct_emits G _ I _ _ p3 b3 q s3 V3 (by omega)) ?_
        refine Rn.goto 9 dX10_readAllOf_34 (by decide) ?_
        exact ih p3 b3 (s3 + 1) (emV V3 s3 (nI 15) (nI 0)) (bl c e p3) (by omega) rfl ho (by omega) t2 t3 (by omega) ((h3.of (fun j hj => (emV_lt (by omega)).trans (t7 j hj))).bin (t9.of (fun j hj => emV_lt hj)) (k := 15) (by decide) (emV_at _ _ _ _)) (fun j hj => (emV_lt (by omega)).trans ((t7 j (by omega)).trans (h4 j hj)))
theorem rd_all (q : Nat) (hq : q ≤ 6) (a : Nat → Go) (hsub : RdC G c e mX10_readAtom (d + 5) q a) : RdC G c e mX10_readAllOf (d + 6) q (fun q0 => gB (a q0) (gLoop c e 1476 a 400)) := by
  intro I p b s V q0 hT hp hb hs h0
  show Ct G GAM mX10_readAllOf (d + 6) 0 [.ref 94] (PS I p b q s V) (Rv (PO c e I p q s V (gB (a q0) (gLoop c e 1476 a 400))))
  have he := hT.1
  refine Ct.mk [some (.ref 94)] ?_
  refine Rn.aload_n dX10_readAllOf_0 rfl rfl ?_
  refine Rn.callV (As := []) dX10_readAllOf_1 mv_X10_202 (by first | rfl | exact gC0 (by assumption) | exact gL0 (by assumption)) rfl rfl rfl (Nat.le_of_ble_eq_true rfl) (hsub I p b s V q0 hT hp hb hs h0) (fun _ _ h => h) (fun v J h => ?_)
  obtain ⟨p3, b3, q3, s3, V3, rfl, t1, t2, t3, t4, t5, t6, t7, ⟨rfl, t0⟩ | ⟨rfl, hq3, t8, t9, t0⟩⟩ := h
  · rw [gB_l t0]
    refine Rn.if_ne (tgt := 9) dX10_readAllOf_4 (by decide) (fun h9 => absurd h9 (by decide)) (fun _ => ?_)
    refine Rn.iconst (v := (nI 0)) dX10_readAllOf_7 rfl ?_
    exact Rn.zret dX10_readAllOf_8 rfl rfl (⟨p3, b3, q3, s3, V3, rfl, t1, t2, t3, t4, t5, t6, t7, Or.inl ⟨rfl, rfl⟩⟩)
  · rw [gB_r t0, hq3]
    have g1 : p3 ≤ bl c e p3 := bl_ge
    refine Rn.if_ne (tgt := 9) dX10_readAllOf_4 (by decide) (fun _ => ?_) (fun h9 => absurd h9 (by decide))
    exact lp_all G d q hq a hsub I p s V hT hs _ 400 p3 b3 s3 V3 (bl c e p3) (by omega) rfl rfl t1 t2 t3 t8 t9 t7
theorem lp_cond (q : Nat) (hq : q ≤ 6) (a : Nat → Go) (hsub : RdC G c e mX10_readAllOf (d + 5) q a) (I : Hi) (p s : Nat) (V : Nat → Int32) (hT : TY I c e) (hs : s + 4 ≤ p) (o : Go) : ∀ (f p1 b1 s1 : Nat) (V1 : Nat → Int32) (q1 : Nat), e ≤ q1 + f → bl c e p1 = q1 → gLoop c e 498 a f q1 = o → p ≤ p1 → p1 ≤ e → b1 ≤ e → s1 + p ≤ s + p1 → seg V1 s s1 → (∀ j, j < 1275 + 2 * s → V1 j = V j) → Rn G GAM mX10_readCond (kM G GAM (Rv (PO c e I p q s V o))) (d + 6) 0 9 [some (.ref 94)] [] (PS I p1 b1 q s1 V1) := by
  have he := hT.1
  intro f
  induction f with
  | zero =>
    intro p1 b1 s1 V1 q1 hm h0 ho h1 hp1 hb1 h2 h3 h4
    have h5 := h3.1
    have ho : Sum.inr q1 = o := ho
    refine Rn.aload_n dX10_readCond_9 rfl rfl ?_
    refine Rn.ldcS dX10_readCond_10 sm_X10_216 ?_
    refine Rn.callV (As := [_]) dX10_readCond_12 mv_X10_139 (by first | rfl | exact gC0 (by assumption) | exact gL0 (by assumption)) rfl rfl rfl (Nat.le_of_ble_eq_true rfl) (cx_passes G d (PS I p1 b1 q s1 V1) 22 p1 (by decide) hT.ps hp1 (by rfl)) (fun _ _ h => h) (fun v J h => ?_)
    rcases h with ⟨rfl, p2, r1, r2, rfl, r3, r4⟩ | ⟨rfl, p2, b2, r1, r2, r3, rfl, r4, r5, r6⟩
    · rw [h0] at r3
      subst r3
      refine Rn.hpp _ (PS_PB _ _ _ _ _ _ _ _) ?_
      refine Rn.if_eq (tgt := 37) dX10_readCond_15 (by decide) (fun _ => ?_) (fun h9 => absurd h9 (by decide))
      refine Rn.iconst (v := (nI 1)) dX10_readCond_37 rfl ?_
      exact Rn.zret dX10_readCond_38 rfl rfl (⟨p2, p2, q, s1, V1, rfl, by omega, r2, r2, hq, by omega, by omega, h4, Or.inr ⟨rfl, rfl, by omega, h3, ho.symm.trans (by rw [← h0, bl_bl])⟩⟩)
    · exact absurd r2 (by omega)
  | succ f ih =>
    intro p1 b1 s1 V1 q1 hm h0 ho h1 hp1 hb1 h2 h3 h4
    have h5 := h3.1
    have ho : (if wv c e q1 = 498 then gB (a (nx c e q1)) (gLoop c e 498 a f) else .inr q1) = o := ho
    refine Rn.aload_n dX10_readCond_9 rfl rfl ?_
    refine Rn.ldcS dX10_readCond_10 sm_X10_216 ?_
    refine Rn.callV (As := [_]) dX10_readCond_12 mv_X10_139 (by first | rfl | exact gC0 (by assumption) | exact gL0 (by assumption)) rfl rfl rfl (Nat.le_of_ble_eq_true rfl) (cx_passes G d (PS I p1 b1 q s1 V1) 22 p1 (by decide) hT.ps hp1 (by rfl)) (fun _ _ h => h) (fun v J h => ?_)
    rcases h with ⟨rfl, p2, r1, r2, rfl, r3, r4⟩ | ⟨rfl, p2, b2, r1, r2, r3, rfl, r4, r5, r6⟩
    · rw [h0] at r3
      subst r3
      rw [hz_22] at r4
      rw [if_neg r4] at ho
      refine Rn.hpp _ (PS_PB _ _ _ _ _ _ _ _) ?_
      refine Rn.if_eq (tgt := 37) dX10_readCond_15 (by decide) (fun _ => ?_) (fun h9 => absurd h9 (by decide))
      refine Rn.iconst (v := (nI 1)) dX10_readCond_37 rfl ?_
      exact Rn.zret dX10_readCond_38 rfl rfl (⟨p2, p2, q, s1, V1, rfl, by omega, r2, r2, hq, by omega, by omega, h4, Or.inr ⟨rfl, rfl, by omega, h3, ho.symm.trans (by rw [← h0, bl_bl])⟩⟩)
    · rw [h0] at r4
      subst r4
      rw [hz_22] at r5
      rw [if_pos r5] at ho
      refine Rn.hpp _ (PS_PB _ _ _ _ _ _ _ _) ?_
      refine Rn.if_eq (tgt := 37) dX10_readCond_15 (by decide) (fun h9 => absurd h9 (by decide)) (fun _ => ?_)
      refine Rn.aload_n dX10_readCond_18 rfl rfl ?_
      refine Rn.callV (As := []) dX10_readCond_19 mv_X10_213 (by first | rfl | exact gC0 (by assumption) | exact gL0 (by assumption)) rfl rfl rfl (Nat.le_of_ble_eq_true rfl) (hsub I p2 b2 s1 V1 (nx c e b2) hT r3 (by omega) (by omega) r6) (fun _ _ h => h) (fun v J h => ?_)
      obtain ⟨p3, b3, q3, s3, V3, rfl, t1, t2, t3, t4, t5, t6, t7, ⟨rfl, t0⟩ | ⟨rfl, hq3, t8, t9, t0⟩⟩ := h
      · rw [gB_l t0] at ho
        refine Rn.if_ne (tgt := 27) dX10_readCond_22 (by decide) (fun h9 => absurd h9 (by decide)) (fun _ => ?_)
        refine Rn.iconst (v := (nI 0)) dX10_readCond_25 rfl ?_
        exact Rn.zret dX10_readCond_26 rfl rfl (⟨p3, b3, q3, s3, V3, rfl, by omega, t2, t3, t4, by omega, t6, fun j hj => (t7 j (by omega)).trans (h4 j hj), Or.inl ⟨rfl, ho.symm⟩⟩)
      · rw [gB_r t0] at ho
        rw [hq3]
        have t10 := t9.1
        have g1 : p3 ≤ bl c e p3 := bl_ge
        refine Rn.if_ne (tgt := 27) dX10_readCond_22 (by decide) (fun _ => ?_) (fun h9 => absurd h9 (by decide))
        refine Rn.aload_n dX10_readCond_27 rfl rfl ?_
        refine Rn.bipush (v := (nI 16)) dX10_readCond_28 rfl ?_
        refine Rn.iconst (v := (nI 0)) dX10_readCond_30 rfl ?_
        refine Rn.callVp (As := [_, _]) dX10_readCond_31 mv_X10_182 (by first | rfl | exact gC0 (by assumption) | exact gL0 (by assumption)) rfl rfl rfl (Nat.le_of_ble_eq_true rfl) (ct_emits G _ I _ _ p3 b3 q s3 V3 (by omega)) ?_
        refine Rn.goto 9 dX10_readCond_34 (by decide) ?_
        exact ih p3 b3 (s3 + 1) (emV V3 s3 (nI 16) (nI 0)) (bl c e p3) (by omega) rfl ho (by omega) t2 t3 (by omega) ((h3.of (fun j hj => (emV_lt (by omega)).trans (t7 j hj))).bin (t9.of (fun j hj => emV_lt hj)) (k := 16) (by decide) (emV_at _ _ _ _)) (fun j hj => (emV_lt (by omega)).trans ((t7 j (by omega)).trans (h4 j hj)))
theorem rd_cond (q : Nat) (hq : q ≤ 6) (a : Nat → Go) (hsub : RdC G c e mX10_readAllOf (d + 5) q a) : RdC G c e mX10_readCond (d + 6) q (fun q0 => gB (a q0) (gLoop c e 498 a 400)) := by
  intro I p b s V q0 hT hp hb hs h0
  show Ct G GAM mX10_readCond (d + 6) 0 [.ref 94] (PS I p b q s V) (Rv (PO c e I p q s V (gB (a q0) (gLoop c e 498 a 400))))
  have he := hT.1
  refine Ct.mk [some (.ref 94)] ?_
  refine Rn.aload_n dX10_readCond_0 rfl rfl ?_
  refine Rn.callV (As := []) dX10_readCond_1 mv_X10_213 (by first | rfl | exact gC0 (by assumption) | exact gL0 (by assumption)) rfl rfl rfl (Nat.le_of_ble_eq_true rfl) (hsub I p b s V q0 hT hp hb hs h0) (fun _ _ h => h) (fun v J h => ?_)
  obtain ⟨p3, b3, q3, s3, V3, rfl, t1, t2, t3, t4, t5, t6, t7, ⟨rfl, t0⟩ | ⟨rfl, hq3, t8, t9, t0⟩⟩ := h
  · rw [gB_l t0]
    refine Rn.if_ne (tgt := 9) dX10_readCond_4 (by decide) (fun h9 => absurd h9 (by decide)) (fun _ => ?_)
    refine Rn.iconst (v := (nI 0)) dX10_readCond_7 rfl ?_
    exact Rn.zret dX10_readCond_8 rfl rfl (⟨p3, b3, q3, s3, V3, rfl, t1, t2, t3, t4, t5, t6, t7, Or.inl ⟨rfl, rfl⟩⟩)
  · rw [gB_r t0, hq3]
    have g1 : p3 ≤ bl c e p3 := bl_ge
    refine Rn.if_ne (tgt := 9) dX10_readCond_4 (by decide) (fun _ => ?_) (fun h9 => absurd h9 (by decide))
    exact lp_cond G d q hq a hsub I p s V hT hs _ 400 p3 b3 s3 V3 (bl c e p3) (by omega) rfl rfl t1 t2 t3 t8 t9 t7
theorem ct_readTag (I : Hi) (q : Nat) (p b s : Nat) (V : Nat → Int32) (hT : TY I c e) (hp : p ≤ e) (hb : b ≤ e) (hs : s + 4 ≤ p) : Ct G GAM mX10_readTag (d + 5) 0 [.ref 94] (PS I p b q s V) (Rv (fun v J => (v = some (.int (nI 0)) ∧ ∃ p', p ≤ p' ∧ p' ≤ e ∧ J = PS I p' p' q s V ∧ p' = bl c e p ∧ ¬ isTag (wv c e p')) ∨ (v = some (.int (nI 1)) ∧ ∃ p' b' k, k ≤ 10 ∧ p + 1 ≤ p' ∧ p' ≤ e ∧ b' ≤ e ∧ J = PS I p' b' q (s + 1) (emV V s (nI k) (nI 0)) ∧ b' = bl c e p ∧ isTag (wv c e b') ∧ bl c e p' = nx c e b'))) := by
  have he := hT.1
  refine Ct.mk [some (.ref 94), none] ?_
  refine Rn.aload_n dX10_readTag_0 rfl rfl ?_
  refine Rn.callV (As := []) dX10_readTag_1 mv_X10_114 (by first | rfl | exact gC0 (by assumption) | exact gL0 (by assumption)) rfl rfl rfl (Nat.le_of_ble_eq_true rfl) (cx_letters G (d + 2) (PS I p b q s V) p hT.ps hp (by rfl)) (fun _ _ h => h) (fun v J h => ?_)
  obtain ⟨rfl, p1, b1, q1, q2, q3, rfl, hb1, hp1⟩ := h
  refine Rn.hpp _ (PS_PB _ _ _ _ _ _ _ _) ?_
  refine Rn.aload_n dX10_readTag_4 rfl rfl ?_
  refine Rn.ldcS dX10_readTag_5 sm_X10_142 ?_
  refine Rn.callV (As := [_]) dX10_readTag_7 mv_X10_117 (by first | rfl | exact gC0 (by assumption) | exact gL0 (by assumption)) rfl rfl rfl (Nat.le_of_ble_eq_true rfl) (cx_isWord G d (PS I p1 b1 q s V) 3 b1 (by decide) hT.ps (by omega) (by rw [← hp1]; rfl) (by rfl)) (fun _ _ h => h) (fun v J h => ?_)
  obtain ⟨rfl, ⟨n0, rfl⟩ | ⟨h4, rfl, h5⟩⟩ := h
  rotate_left
  · have h6 := w_two (by decide) h5
    refine Rn.if_eq (tgt := 18) dX10_readTag_10 (by decide) (fun h9 => absurd h9 (by decide)) (fun _ => ?_)
    refine Rn.bipush (v := (nI 7)) dX10_readTag_13 rfl ?_
    refine Rn.goto 47 dX10_readTag_15 (by decide) ?_
    refine Rn.istore_n dX10_readTag_47 rfl (by decide) ?_
    refine Rn.iload_n dX10_readTag_48 rfl rfl ?_
    refine Rn.if_lt (tgt := 61) dX10_readTag_49 (by decide) (fun h9 => absurd h9 (by decide)) (fun _ => ?_)
    refine Rn.aload_n dX10_readTag_52 rfl rfl ?_
    refine Rn.iload_n dX10_readTag_53 rfl rfl ?_
    refine Rn.iconst (v := (nI 0)) dX10_readTag_54 rfl ?_
    refine Rn.callVp (As := [_, _]) dX10_readTag_55 mv_X10_182 (by first | rfl | exact gC0 (by assumption) | exact gL0 (by assumption)) rfl rfl rfl (Nat.le_of_ble_eq_true rfl) (ct_emits G _ I _ _ _ _ _ _ _ (by omega)) ?_
    refine Rn.goto 69 dX10_readTag_58 (by decide) ?_
    refine Rn.iload_n dX10_readTag_69 rfl rfl ?_
    refine Rn.if_lt (tgt := 77) dX10_readTag_70 (by decide) (fun h9 => absurd h9 (by decide)) (fun _ => ?_)
    refine Rn.iconst (v := (nI 1)) dX10_readTag_73 rfl ?_
    refine Rn.goto 78 dX10_readTag_74 (by decide) ?_
    exact Rn.zret dX10_readTag_78 rfl rfl (Or.inr ⟨rfl, p1, b1, 7, by decide, by omega, q3, by omega, rfl, hb1, by rw [h4]; decide +kernel, by rw [hp1, nx_w (by omega)]⟩)
  refine Rn.if_eq (tgt := 18) dX10_readTag_10 (by decide) (fun _ => ?_) (fun h9 => absurd h9 (by decide))
  refine Rn.aload_n dX10_readTag_18 rfl rfl ?_
  refine Rn.ldcS dX10_readTag_19 sm_X10_192 ?_
  refine Rn.callV (As := [_]) dX10_readTag_21 mv_X10_117 (by first | rfl | exact gC0 (by assumption) | exact gL0 (by assumption)) rfl rfl rfl (Nat.le_of_ble_eq_true rfl) (cx_isWord G d (PS I p1 b1 q s V) 17 b1 (by decide) hT.ps (by omega) (by rw [← hp1]; rfl) (by rfl)) (fun _ _ h => h) (fun v J h => ?_)
  obtain ⟨rfl, ⟨n1, rfl⟩ | ⟨h4, rfl, h5⟩⟩ := h
  rotate_left
  · have h6 := w_two (by decide) h5
    refine Rn.if_eq (tgt := 32) dX10_readTag_24 (by decide) (fun h9 => absurd h9 (by decide)) (fun _ => ?_)
    refine Rn.bipush (v := (nI 8)) dX10_readTag_27 rfl ?_
    refine Rn.goto 47 dX10_readTag_29 (by decide) ?_
    refine Rn.istore_n dX10_readTag_47 rfl (by decide) ?_
    refine Rn.iload_n dX10_readTag_48 rfl rfl ?_
    refine Rn.if_lt (tgt := 61) dX10_readTag_49 (by decide) (fun h9 => absurd h9 (by decide)) (fun _ => ?_)
    refine Rn.aload_n dX10_readTag_52 rfl rfl ?_
    refine Rn.iload_n dX10_readTag_53 rfl rfl ?_
    refine Rn.iconst (v := (nI 0)) dX10_readTag_54 rfl ?_
    refine Rn.callVp (As := [_, _]) dX10_readTag_55 mv_X10_182 (by first | rfl | exact gC0 (by assumption) | exact gL0 (by assumption)) rfl rfl rfl (Nat.le_of_ble_eq_true rfl) (ct_emits G _ I _ _ _ _ _ _ _ (by omega)) ?_
    refine Rn.goto 69 dX10_readTag_58 (by decide) ?_
    refine Rn.iload_n dX10_readTag_69 rfl rfl ?_
    refine Rn.if_lt (tgt := 77) dX10_readTag_70 (by decide) (fun h9 => absurd h9 (by decide)) (fun _ => ?_)
    refine Rn.iconst (v := (nI 1)) dX10_readTag_73 rfl ?_
    refine Rn.goto 78 dX10_readTag_74 (by decide) ?_
    exact Rn.zret dX10_readTag_78 rfl rfl (Or.inr ⟨rfl, p1, b1, 8, by decide, by omega, q3, by omega, rfl, hb1, by rw [h4]; decide +kernel, by rw [hp1, nx_w (by omega)]⟩)
  refine Rn.if_eq (tgt := 32) dX10_readTag_24 (by decide) (fun _ => ?_) (fun h9 => absurd h9 (by decide))
  refine Rn.aload_n dX10_readTag_32 rfl rfl ?_
  refine Rn.ldcS dX10_readTag_33 sm_X10_149 ?_
  refine Rn.callV (As := [_]) dX10_readTag_35 mv_X10_117 (by first | rfl | exact gC0 (by assumption) | exact gL0 (by assumption)) rfl rfl rfl (Nat.le_of_ble_eq_true rfl) (cx_isWord G d (PS I p1 b1 q s V) 8 b1 (by decide) hT.ps (by omega) (by rw [← hp1]; rfl) (by rfl)) (fun _ _ h => h) (fun v J h => ?_)
  obtain ⟨rfl, ⟨n2, rfl⟩ | ⟨h4, rfl, h5⟩⟩ := h
  rotate_left
  · have h6 := w_two (by decide) h5
    refine Rn.if_eq (tgt := 46) dX10_readTag_38 (by decide) (fun h9 => absurd h9 (by decide)) (fun _ => ?_)
    refine Rn.bipush (v := (nI 9)) dX10_readTag_41 rfl ?_
    refine Rn.goto 47 dX10_readTag_43 (by decide) ?_
    refine Rn.istore_n dX10_readTag_47 rfl (by decide) ?_
    refine Rn.iload_n dX10_readTag_48 rfl rfl ?_
    refine Rn.if_lt (tgt := 61) dX10_readTag_49 (by decide) (fun h9 => absurd h9 (by decide)) (fun _ => ?_)
    refine Rn.aload_n dX10_readTag_52 rfl rfl ?_
    refine Rn.iload_n dX10_readTag_53 rfl rfl ?_
    refine Rn.iconst (v := (nI 0)) dX10_readTag_54 rfl ?_
    refine Rn.callVp (As := [_, _]) dX10_readTag_55 mv_X10_182 (by first | rfl | exact gC0 (by assumption) | exact gL0 (by assumption)) rfl rfl rfl (Nat.le_of_ble_eq_true rfl) (ct_emits G _ I _ _ _ _ _ _ _ (by omega)) ?_
    refine Rn.goto 69 dX10_readTag_58 (by decide) ?_
    refine Rn.iload_n dX10_readTag_69 rfl rfl ?_
    refine Rn.if_lt (tgt := 77) dX10_readTag_70 (by decide) (fun h9 => absurd h9 (by decide)) (fun _ => ?_)
    refine Rn.iconst (v := (nI 1)) dX10_readTag_73 rfl ?_
    refine Rn.goto 78 dX10_readTag_74 (by decide) ?_
    exact Rn.zret dX10_readTag_78 rfl rfl (Or.inr ⟨rfl, p1, b1, 9, by decide, by omega, q3, by omega, rfl, hb1, by rw [h4]; decide +kernel, by rw [hp1, nx_w (by omega)]⟩)
  have hn : ¬ isTag (wv c e b1) := fun z => by
    rcases z with z | z | z
    · exact n1 (z.trans hz_17.symm)
    · exact n2 (z.trans hz_8.symm)
    · exact n0 (z.trans hz_3.symm)
  refine Rn.if_eq (tgt := 46) dX10_readTag_38 (by decide) (fun _ => ?_) (fun h9 => absurd h9 (by decide))
  refine Rn.iconst (v := (-1)) dX10_readTag_46 rfl ?_
  refine Rn.istore_n dX10_readTag_47 rfl (by decide) ?_
  refine Rn.iload_n dX10_readTag_48 rfl rfl ?_
  refine Rn.if_lt (tgt := 61) dX10_readTag_49 (by decide) (fun _ => ?_) (fun h9 => absurd h9 (by decide))
  refine Rn.aload_n dX10_readTag_61 rfl rfl ?_
  refine Rn.aload_n dX10_readTag_62 rfl rfl ?_
  refine Rn.getI dX10_readTag_63 fd_X10_99_9 (by first | rfl | exact gC0 (by assumption) | exact gL0 (by assumption)) rfl ?_
  refine Rn.topI (nI b1) (by rfl) ?_
  refine Rn.putI dX10_readTag_66 fp_X10_89_9 (by first | rfl | exact gC0 (by assumption) | exact gL0 (by assumption)) rfl ?_
  refine Rn.iload_n dX10_readTag_69 rfl rfl ?_
  refine Rn.if_lt (tgt := 77) dX10_readTag_70 (by decide) (fun _ => ?_) (fun h9 => absurd h9 (by decide))
  refine Rn.iconst (v := (nI 0)) dX10_readTag_77 rfl ?_
  exact Rn.zret dX10_readTag_78 rfl rfl (Or.inl ⟨rfl, b1, q1, by omega, PS_10 _ _ _ _ _ _ _, hb1, hn⟩)
theorem rd_atom (n q : Nat) (hq : q + n = 6) (hC : ∀ n', n = n' + 1 → RdC G c e mX10_readCond (d + 8) (q + 1) (gAny c e (gAtom c e n'))) (hA : ∀ n', n = n' + 1 → RdC G c e mX10_readAtom (d + 8) (q + 1) (gAtom c e n')) : RdC G c e mX10_readAtom (d + 9) q (gAtom c e n) := by
  intro I p b s V q0 hT hp hb hs h0
  have he := hT.1
  refine Ct.mk [some (.ref 94), none] ?_
  refine Rn.aload_n dX10_readAtom_0 rfl rfl ?_
  refine Rn.bipush (v := (nI 40)) dX10_readAtom_1 rfl ?_
  refine Rn.callV (As := [_]) dX10_readAtom_3 mv_X10_189 (by first | rfl | exact gC0 (by assumption) | exact gL0 (by assumption)) rfl rfl rfl (Nat.le_of_ble_eq_true rfl) (cx_sign G (d + 6) (PS I p b q s V) 40 p (by decide) hT.ps hp (by rfl)) (fun _ _ h => h) (fun v J h => ?_)
  rcases h with ⟨rfl, p1, q1, q2, rfl, w1, w2⟩ | ⟨rfl, p1, q1, q2, rfl, w1, w2, w3⟩
  rotate_left
  · rw [h0] at w1
    subst w1
    have hw0 : wv c e p1 = 0 := wv_s (by omega)
    refine Rn.hpp _ (PS_PB _ _ _ _ _ _ _ _) ?_
    refine Rn.if_eq (tgt := 56) dX10_readAtom_6 (by decide) (fun h9 => absurd h9 (by decide)) (fun _ => ?_)
    refine Rn.aload_n dX10_readAtom_9 rfl rfl ?_
    refine Rn.getI dX10_readAtom_10 fd_X10_194_9 (by first | rfl | exact gC0 (by assumption) | exact gL0 (by assumption)) rfl ?_
    refine Rn.topI (nI q) (by rfl) ?_
    refine Rn.bipush (v := (nI 6)) dX10_readAtom_13 rfl ?_
    refine Rn.icmp_neN dX10_readAtom_15 20 (fun h1 => ?_) (fun h1 => ?_)
    · obtain ⟨n', rfl⟩ : ∃ n', n = n' + 1 := ⟨n - 1, by omega⟩
      have ho : gAtom c e (n' + 1) p1 = gB (gAny c e (gAtom c e n') (nx c e p1)) (fun q1 => if fs c e q1 = nI 41 then .inr (nx c e q1) else .inl q1) := by
        show (if wv c e p1 = 14836 then _ else if fs c e p1 = nI 40 then _ else _) = _
        rw [if_neg (by rw [hw0]; decide), if_pos w2]
      rw [ho]
      refine Rn.aload_n dX10_readAtom_20 rfl rfl ?_
      refine Rn.dup dX10_readAtom_21 rfl ?_
      refine Rn.getI dX10_readAtom_22 fd_X10_194_9 (by first | rfl | exact gC0 (by assumption) | exact gL0 (by assumption)) rfl ?_
      refine Rn.topI (nI q) (by rfl) ?_
      refine Rn.iconst (v := (nI 1)) dX10_readAtom_25 rfl ?_
      refine Rn.iadd dX10_readAtom_26 ?_
      refine Rn.topI (nI (q + 1)) (by exact nI_1 q) ?_
      refine Rn.putI dX10_readAtom_27 fp_X10_194_9 (by first | rfl | exact gC0 (by assumption) | exact gL0 (by assumption)) rfl ?_
      refine Rn.hpp _ (PS_13 _ _ _ _ _ _ _) ?_
      refine Rn.aload_n dX10_readAtom_30 rfl rfl ?_
      refine Rn.callV (As := []) dX10_readAtom_31 mv_X10_197 (by first | rfl | exact gC0 (by assumption) | exact gL0 (by assumption)) rfl rfl rfl (Nat.le_of_ble_eq_true rfl) (hC n' rfl I (p1 + 1) p1 s V (nx c e p1) hT q2 (by omega) (by omega) (nx_s (by omega) (by omega)).symm) (fun _ _ h => h) (fun v J h => ?_)
      obtain ⟨p3, b3, q3, s3, V3, rfl, t1, t2, t3, t4, t5, t6, t7, ⟨rfl, t0⟩ | ⟨rfl, hq3, t8, t9, t0⟩⟩ := h
      · rw [gB_l t0]
        refine Rn.if_ne (tgt := 39) dX10_readAtom_34 (by decide) (fun h9 => absurd h9 (by decide)) (fun _ => ?_)
        refine Rn.iconst (v := (nI 0)) dX10_readAtom_37 rfl ?_
        exact Rn.zret dX10_readAtom_38 rfl rfl (⟨p3, b3, q3, s3, V3, rfl, by omega, t2, t3, t4, t5, t6, t7, Or.inl ⟨rfl, rfl⟩⟩)
      · rw [gB_r t0, hq3]
        have t10 := t9.1
        refine Rn.if_ne (tgt := 39) dX10_readAtom_34 (by decide) (fun _ => ?_) (fun h9 => absurd h9 (by decide))
        refine Rn.aload_n dX10_readAtom_39 rfl rfl ?_
        refine Rn.dup dX10_readAtom_40 rfl ?_
        refine Rn.getI dX10_readAtom_41 fd_X10_194_9 (by first | rfl | exact gC0 (by assumption) | exact gL0 (by assumption)) rfl ?_
        refine Rn.topI (nI (q + 1)) (by rfl) ?_
        refine Rn.iconst (v := (nI 1)) dX10_readAtom_44 rfl ?_
        refine Rn.isub dX10_readAtom_45 ?_
        refine Rn.topI (nI q) (by rw [← nI_1]; exact Int32.add_sub_cancel _ _) ?_
        refine Rn.putI dX10_readAtom_46 fp_X10_194_9 (by first | rfl | exact gC0 (by assumption) | exact gL0 (by assumption)) rfl ?_
        refine Rn.hpp _ (PS_13 _ _ _ _ _ _ _) ?_
        refine Rn.aload_n dX10_readAtom_49 rfl rfl ?_
        refine Rn.bipush (v := (nI 41)) dX10_readAtom_50 rfl ?_
        refine Rn.callV (As := [_]) dX10_readAtom_52 mv_X10_189 (by first | rfl | exact gC0 (by assumption) | exact gL0 (by assumption)) rfl rfl rfl (Nat.le_of_ble_eq_true rfl) (cx_sign G (d + 6) (PS I p3 b3 q s3 V3) 41 p3 (by decide) hT.ps t2 (by rfl)) (fun _ _ h => h) (fun v J h => ?_)
        rcases h with ⟨rfl, p4, q4, q5, rfl, y1, y2⟩ | ⟨rfl, p4, q4, q5, rfl, y1, y2, y3⟩
        · rw [← y1, if_neg y2]
          refine Rn.hpp _ (PS_PB _ _ _ _ _ _ _ _) ?_
          exact Rn.zret dX10_readAtom_55 rfl rfl (⟨p4, p4, q, s3, V3, rfl, by omega, q5, q5, by omega, t5, t6, t7, Or.inl ⟨rfl, rfl⟩⟩)
        · rw [← y1, if_pos y2]
          refine Rn.hpp _ (PS_PB _ _ _ _ _ _ _ _) ?_
          exact Rn.zret dX10_readAtom_55 rfl rfl (⟨p4 + 1, p4, q, s3, V3, rfl, by omega, q5, by omega, by omega, t5, t6, t7, Or.inr ⟨rfl, rfl, by omega, t9, by rw [nx_s (by omega) (by omega)]⟩⟩)
    · obtain rfl : n = 0 := by omega
      have ho : gAtom c e 0 p1 = .inl p1 := gEnd_no (by rw [hw0]; decide) (by rw [hw0]; decide) (tn_s (by omega))
      refine Rn.iconst (v := (nI 0)) dX10_readAtom_18 rfl ?_
      exact Rn.zret dX10_readAtom_19 rfl rfl (⟨p1 + 1, p1, q, s, V, rfl, by omega, q2, by omega, by omega, Nat.le_refl _, by omega, fun _ _ => rfl, Or.inl ⟨rfl, ho⟩⟩)
  rw [h0] at w1
  subst w1
  refine Rn.hpp _ (PS_PB _ _ _ _ _ _ _ _) ?_
  refine Rn.if_eq (tgt := 56) dX10_readAtom_6 (by decide) (fun _ => ?_) (fun h9 => absurd h9 (by decide))
  refine Rn.aload_n dX10_readAtom_56 rfl rfl ?_
  refine Rn.ldcS dX10_readAtom_57 sm_X10_200 ?_
  refine Rn.callV (As := [_]) dX10_readAtom_59 mv_X10_139 (by first | rfl | exact gC0 (by assumption) | exact gL0 (by assumption)) rfl rfl rfl (Nat.le_of_ble_eq_true rfl) (cx_passes G (d + 3) (PS I p1 p1 q s V) 16 p1 (by decide) hT.ps q2 (by rfl)) (fun _ _ h => h) (fun v J h => ?_)
  rcases h with ⟨rfl, p2, r1, r2, rfl, r3, r4⟩ | ⟨rfl, p2, b2, r1, r2, r3, rfl, r4, r5, r6⟩
  rotate_left
  · rw [← h0, bl_bl, h0] at r4
    subst r4
    have hlt : b2 < lx c e b2 := lx_gt r5 (by rw [hz_16]; decide)
    rw [hz_16] at r5
    refine Rn.hpp _ (PS_PB _ _ _ _ _ _ _ _) ?_
    refine Rn.if_eq (tgt := 114) dX10_readAtom_62 (by decide) (fun h9 => absurd h9 (by decide)) (fun _ => ?_)
    refine Rn.aload_n dX10_readAtom_65 rfl rfl ?_
    refine Rn.getI dX10_readAtom_66 fd_X10_194_9 (by first | rfl | exact gC0 (by assumption) | exact gL0 (by assumption)) rfl ?_
    refine Rn.topI (nI q) (by rfl) ?_
    refine Rn.bipush (v := (nI 6)) dX10_readAtom_69 rfl ?_
    refine Rn.icmp_neN dX10_readAtom_71 76 (fun h1 => ?_) (fun h1 => ?_)
    · obtain ⟨n', rfl⟩ : ∃ n', n = n' + 1 := ⟨n - 1, by omega⟩
      have ho : gAtom c e (n' + 1) b2 = gAtom c e n' (nx c e b2) := by
        show (if wv c e b2 = 14836 then _ else _) = _
        rw [if_pos r5]
      rw [ho]
      refine Rn.aload_n dX10_readAtom_76 rfl rfl ?_
      refine Rn.dup dX10_readAtom_77 rfl ?_
      refine Rn.getI dX10_readAtom_78 fd_X10_194_9 (by first | rfl | exact gC0 (by assumption) | exact gL0 (by assumption)) rfl ?_
      refine Rn.topI (nI q) (by rfl) ?_
      refine Rn.iconst (v := (nI 1)) dX10_readAtom_81 rfl ?_
      refine Rn.iadd dX10_readAtom_82 ?_
      refine Rn.topI (nI (q + 1)) (by exact nI_1 q) ?_
      refine Rn.putI dX10_readAtom_83 fp_X10_194_9 (by first | rfl | exact gC0 (by assumption) | exact gL0 (by assumption)) rfl ?_
      refine Rn.hpp _ (PS_13 _ _ _ _ _ _ _) ?_
      refine Rn.aload_n dX10_readAtom_86 rfl rfl ?_
      refine Rn.callV (As := []) dX10_readAtom_87 mv_X10_202 (by first | rfl | exact gC0 (by assumption) | exact gL0 (by assumption)) rfl rfl rfl (Nat.le_of_ble_eq_true rfl) (hA n' rfl I p2 b2 s V (nx c e b2) hT r3 (by omega) (by omega) r6) (fun _ _ h => h) (fun v J h => ?_)
      obtain ⟨p3, b3, q3, s3, V3, rfl, t1, t2, t3, t4, t5, t6, t7, ⟨rfl, t0⟩ | ⟨rfl, hq3, t8, t9, t0⟩⟩ := h
      · refine Rn.if_ne (tgt := 95) dX10_readAtom_90 (by decide) (fun h9 => absurd h9 (by decide)) (fun _ => ?_)
        refine Rn.iconst (v := (nI 0)) dX10_readAtom_93 rfl ?_
        exact Rn.zret dX10_readAtom_94 rfl rfl (⟨p3, b3, q3, s3, V3, rfl, by omega, t2, t3, t4, t5, t6, t7, Or.inl ⟨rfl, t0⟩⟩)
      · rw [hq3]
        have t10 := t9.1
        refine Rn.if_ne (tgt := 95) dX10_readAtom_90 (by decide) (fun _ => ?_) (fun h9 => absurd h9 (by decide))
        refine Rn.aload_n dX10_readAtom_95 rfl rfl ?_
        refine Rn.dup dX10_readAtom_96 rfl ?_
        refine Rn.getI dX10_readAtom_97 fd_X10_194_9 (by first | rfl | exact gC0 (by assumption) | exact gL0 (by assumption)) rfl ?_
        refine Rn.topI (nI (q + 1)) (by rfl) ?_
        refine Rn.iconst (v := (nI 1)) dX10_readAtom_100 rfl ?_
        refine Rn.isub dX10_readAtom_101 ?_
        refine Rn.topI (nI q) (by rw [← nI_1]; exact Int32.add_sub_cancel _ _) ?_
        refine Rn.putI dX10_readAtom_102 fp_X10_194_9 (by first | rfl | exact gC0 (by assumption) | exact gL0 (by assumption)) rfl ?_
        refine Rn.hpp _ (PS_13 _ _ _ _ _ _ _) ?_
        refine Rn.aload_n dX10_readAtom_105 rfl rfl ?_
        refine Rn.bipush (v := (nI 14)) dX10_readAtom_106 rfl ?_
        refine Rn.iconst (v := (nI 0)) dX10_readAtom_108 rfl ?_
        refine Rn.callVp (As := [_, _]) dX10_readAtom_109 mv_X10_182 (by first | rfl | exact gC0 (by assumption) | exact gL0 (by assumption)) rfl rfl rfl (Nat.le_of_ble_eq_true rfl) (ct_emits G _ I _ _ p3 b3 q s3 V3 (by omega)) ?_
        refine Rn.iconst (v := (nI 1)) dX10_readAtom_112 rfl ?_
        exact Rn.zret dX10_readAtom_113 rfl rfl (⟨p3, b3, q, s3 + 1, _, rfl, by omega, t2, t3, by omega, by omega, by omega, fun j hj => (emV_lt (by omega)).trans (t7 j hj), Or.inr ⟨rfl, rfl, by omega, (t9.of (fun j hj => emV_lt hj)).neg (emV_at _ _ _ _), t0⟩⟩)
    · obtain rfl : n = 0 := by omega
      have ho : gAtom c e 0 b2 = .inl b2 := gEnd_no (by rw [r5]; decide) (by rw [r5]; decide) (by rw [tn, if_neg (by omega)])
      refine Rn.iconst (v := (nI 0)) dX10_readAtom_74 rfl ?_
      exact Rn.zret dX10_readAtom_75 rfl rfl (⟨p2, b2, q, s, V, rfl, by omega, r3, by omega, by omega, Nat.le_refl _, by omega, fun _ _ => rfl, Or.inl ⟨rfl, ho⟩⟩)
  rw [← h0, bl_bl, h0] at r3
  subst r3
  rw [hz_16] at r4
  have ho : gAtom c e n p2 = gEnd c e p2 := by
    cases n with
    | zero => rfl
    | succ n' =>
      show (if wv c e p2 = 14836 then _ else if fs c e p2 = nI 40 then _ else _) = _
      rw [if_neg r4, if_neg w2]
  rw [ho]
  refine Rn.hpp _ (PS_PB _ _ _ _ _ _ _ _) ?_
  refine Rn.if_eq (tgt := 114) dX10_readAtom_62 (by decide) (fun _ => ?_) (fun h9 => absurd h9 (by decide))
  refine Rn.aload_n dX10_readAtom_114 rfl rfl ?_
  refine Rn.callV (As := []) dX10_readAtom_115 mv_X10_205 (by first | rfl | exact gC0 (by assumption) | exact gL0 (by assumption)) rfl rfl rfl (Nat.le_of_ble_eq_true rfl) (ct_readTag G (d + 3) I q p2 p2 s V hT r2 r2 (by omega)) (fun _ _ h => h) (fun v J h => ?_)
  rcases h with ⟨rfl, p5, u1, u2, rfl, u4, u5⟩ | ⟨rfl, p5, b5, k, u0, u1, u2, u3, rfl, u4, u5, u6⟩
  rotate_left
  · rw [← h0, bl_bl, h0] at u4
    subst u4
    refine Rn.if_eq (tgt := 123) dX10_readAtom_118 (by decide) (fun h9 => absurd h9 (by decide)) (fun _ => ?_)
    refine Rn.iconst (v := (nI 1)) dX10_readAtom_121 rfl ?_
    exact Rn.zret dX10_readAtom_122 rfl rfl (⟨p5, b5, q, s + 1, _, rfl, by omega, u2, u3, by omega, by omega, by omega, fun j hj => emV_lt hj, Or.inr ⟨rfl, rfl, by omega, seg.push u0 (emV_at _ _ _ _), (if_pos u5).trans (by rw [u6])⟩⟩)
  rw [← h0, bl_bl, h0] at u4
  subst u4
  have ho2 : gEnd c e p5 = gB (gSum c e p5) (fun q1 => if fs c e q1 = nI 60 ∨ fs c e q1 = nI 62 then gSum c e (nx c e q1) else .inl q1) := if_neg u5
  rw [ho2]
  refine Rn.if_eq (tgt := 123) dX10_readAtom_118 (by decide) (fun _ => ?_) (fun h9 => absurd h9 (by decide))
  refine Rn.aload_n dX10_readAtom_123 rfl rfl ?_
  refine Rn.callV (As := []) dX10_readAtom_124 mv_X10_208 (by first | rfl | exact gC0 (by assumption) | exact gL0 (by assumption)) rfl rfl rfl (Nat.le_of_ble_eq_true rfl) (rd_sum G (d + 1) q (by omega) I p5 p5 s V p5 hT u2 u2 (by omega) (by rw [← h0, bl_bl])) (fun _ _ h => h) (fun v J h => ?_)
  obtain ⟨p3, b3, q3, s3, V3, rfl, t1, t2, t3, t4, t5, t6, t7, ⟨rfl, t0⟩ | ⟨rfl, hq3, t8, t9, t0⟩⟩ := h
  · rw [gB_l t0]
    refine Rn.if_ne (tgt := 132) dX10_readAtom_127 (by decide) (fun h9 => absurd h9 (by decide)) (fun _ => ?_)
    refine Rn.iconst (v := (nI 0)) dX10_readAtom_130 rfl ?_
    exact Rn.zret dX10_readAtom_131 rfl rfl (⟨p3, b3, q3, s3, V3, rfl, by omega, t2, t3, t4, t5, t6, t7, Or.inl ⟨rfl, rfl⟩⟩)
  rw [gB_r t0, hq3]
  have t10 := t9.1
  refine Rn.if_ne (tgt := 132) dX10_readAtom_127 (by decide) (fun _ => ?_) (fun h9 => absurd h9 (by decide))
  refine Rn.aload_n dX10_readAtom_132 rfl rfl ?_
  refine Rn.bipush (v := (nI 60)) dX10_readAtom_133 rfl ?_
  refine Rn.callV (As := [_]) dX10_readAtom_135 mv_X10_189 (by first | rfl | exact gC0 (by assumption) | exact gL0 (by assumption)) rfl rfl rfl (Nat.le_of_ble_eq_true rfl) (cx_sign G (d + 6) (PS I p3 b3 q s3 V3) 60 p3 (by decide) hT.ps t2 (by rfl)) (fun _ _ h => h) (fun v J h => ?_)
  rcases h with ⟨rfl, p6, y1, y2, rfl, y3, y4⟩ | ⟨rfl, p6, y1, y2, rfl, y3, y4, y5⟩
  · refine Rn.hpp _ (PS_PB _ _ _ _ _ _ _ _) ?_
    refine Rn.istore_n dX10_readAtom_138 rfl (by decide) ?_
    refine Rn.iload_n dX10_readAtom_139 rfl rfl ?_
    refine Rn.if_ne (tgt := 152) dX10_readAtom_140 (by decide) (fun h9 => absurd h9 (by decide)) (fun _ => ?_)
    refine Rn.aload_n dX10_readAtom_143 rfl rfl ?_
    refine Rn.bipush (v := (nI 62)) dX10_readAtom_144 rfl ?_
    refine Rn.callV (As := [_]) dX10_readAtom_146 mv_X10_189 (by first | rfl | exact gC0 (by assumption) | exact gL0 (by assumption)) rfl rfl rfl (Nat.le_of_ble_eq_true rfl) (cx_sign G (d + 6) (PS I p6 p6 q s3 V3) 62 p6 (by decide) hT.ps y2 (by rfl)) (fun _ _ h => h) (fun v J h => ?_)
    rcases h with ⟨rfl, p7, z1, z2, rfl, z3, z4⟩ | ⟨rfl, p7, z1, z2, rfl, z3, z4, z5⟩
    · have z6 : p7 = p6 := by rw [z3, y3, bl_bl]
      subst z6
      rw [← y3, if_neg (fun z => z.elim y4 z4)]
      refine Rn.hpp _ (PS_PB _ _ _ _ _ _ _ _) ?_
      refine Rn.if_eq (tgt := 159) dX10_readAtom_149 (by decide) (fun _ => ?_) (fun h9 => absurd h9 (by decide))
      refine Rn.iconst (v := (nI 0)) dX10_readAtom_159 rfl ?_
      exact Rn.zret dX10_readAtom_160 rfl rfl (⟨p7, p7, q, s3, V3, rfl, by omega, z2, z2, by omega, t5, t6, t7, Or.inl ⟨rfl, rfl⟩⟩)
    · have z6 : p7 = p6 := by rw [z3, y3, bl_bl]
      subst z6
      rw [← y3, if_pos (Or.inr z4)]
      refine Rn.hpp _ (PS_PB _ _ _ _ _ _ _ _) ?_
      refine Rn.if_eq (tgt := 159) dX10_readAtom_149 (by decide) (fun h9 => absurd h9 (by decide)) (fun _ => ?_)
      refine Rn.aload_n dX10_readAtom_152 rfl rfl ?_
      refine Rn.callV (As := []) dX10_readAtom_153 mv_X10_208 (by first | rfl | exact gC0 (by assumption) | exact gL0 (by assumption)) rfl rfl rfl (Nat.le_of_ble_eq_true rfl) (rd_sum G (d + 1) q (by omega) I (p7 + 1) p7 s3 V3 (nx c e p7) hT z2 (by omega) (by omega) (nx_s (by omega) (by omega)).symm) (fun _ _ h => h) (fun v J h => ?_)
      obtain ⟨p8, b8, q8, s8, V8, rfl, x1, x2, x3, x4, x5, x6, x7, ⟨rfl, x0⟩ | ⟨rfl, hq8, x8, x9, x0⟩⟩ := h
      · refine Rn.if_ne (tgt := 161) dX10_readAtom_156 (by decide) (fun h9 => absurd h9 (by decide)) (fun _ => ?_)
        refine Rn.iconst (v := (nI 0)) dX10_readAtom_159 rfl ?_
        exact Rn.zret dX10_readAtom_160 rfl rfl (⟨p8, b8, q8, s8, V8, rfl, by omega, x2, x3, x4, by omega, x6, fun j hj => (x7 j (by omega)).trans (t7 j hj), Or.inl ⟨rfl, x0⟩⟩)
      · rw [hq8]
        have x10 := x9.1
        refine Rn.if_ne (tgt := 161) dX10_readAtom_156 (by decide) (fun _ => ?_) (fun h9 => absurd h9 (by decide))
        refine Rn.aload_n dX10_readAtom_161 rfl rfl ?_
        refine Rn.iload_n dX10_readAtom_162 rfl rfl ?_
        refine Rn.if_eq (tgt := 171) dX10_readAtom_163 (by decide) (fun _ => ?_) (fun h9 => absurd h9 (by decide))
        refine Rn.bipush (v := (nI 13)) dX10_readAtom_171 rfl ?_
        refine Rn.iconst (v := (nI 0)) dX10_readAtom_173 rfl ?_
        refine Rn.callVp (As := [_, _]) dX10_readAtom_174 mv_X10_182 (by first | rfl | exact gC0 (by assumption) | exact gL0 (by assumption)) rfl rfl rfl (Nat.le_of_ble_eq_true rfl) (ct_emits G _ I _ _ p8 b8 q s8 V8 (by omega)) ?_
        refine Rn.iconst (v := (nI 1)) dX10_readAtom_177 rfl ?_
        exact Rn.zret dX10_readAtom_178 rfl rfl (⟨p8, b8, q, s8 + 1, _, rfl, by omega, x2, x3, by omega, by omega, by omega, fun j hj => (emV_lt (by omega)).trans ((x7 j (by omega)).trans (t7 j hj)), Or.inr ⟨rfl, rfl, by omega, (t9.of (fun j hj => (emV_lt (by omega)).trans (x7 j hj))).bin (x9.of (fun j hj => emV_lt hj)) (k := 13) (by decide) (emV_at _ _ _ _), x0⟩⟩)
  · rw [← y3, if_pos (Or.inl y4)]
    refine Rn.hpp _ (PS_PB _ _ _ _ _ _ _ _) ?_
    refine Rn.istore_n dX10_readAtom_138 rfl (by decide) ?_
    refine Rn.iload_n dX10_readAtom_139 rfl rfl ?_
    refine Rn.if_ne (tgt := 152) dX10_readAtom_140 (by decide) (fun _ => ?_) (fun h9 => absurd h9 (by decide))
    refine Rn.aload_n dX10_readAtom_152 rfl rfl ?_
    refine Rn.callV (As := []) dX10_readAtom_153 mv_X10_208 (by first | rfl | exact gC0 (by assumption) | exact gL0 (by assumption)) rfl rfl rfl (Nat.le_of_ble_eq_true rfl) (rd_sum G (d + 1) q (by omega) I (p6 + 1) p6 s3 V3 (nx c e p6) hT y2 (by omega) (by omega) (nx_s (by omega) (by omega)).symm) (fun _ _ h => h) (fun v J h => ?_)
    obtain ⟨p8, b8, q8, s8, V8, rfl, x1, x2, x3, x4, x5, x6, x7, ⟨rfl, x0⟩ | ⟨rfl, hq8, x8, x9, x0⟩⟩ := h
    · refine Rn.if_ne (tgt := 161) dX10_readAtom_156 (by decide) (fun h9 => absurd h9 (by decide)) (fun _ => ?_)
      refine Rn.iconst (v := (nI 0)) dX10_readAtom_159 rfl ?_
      exact Rn.zret dX10_readAtom_160 rfl rfl (⟨p8, b8, q8, s8, V8, rfl, by omega, x2, x3, x4, by omega, x6, fun j hj => (x7 j (by omega)).trans (t7 j hj), Or.inl ⟨rfl, x0⟩⟩)
    · rw [hq8]
      have x10 := x9.1
      refine Rn.if_ne (tgt := 161) dX10_readAtom_156 (by decide) (fun _ => ?_) (fun h9 => absurd h9 (by decide))
      refine Rn.aload_n dX10_readAtom_161 rfl rfl ?_
      refine Rn.iload_n dX10_readAtom_162 rfl rfl ?_
      refine Rn.if_eq (tgt := 171) dX10_readAtom_163 (by decide) (fun h9 => absurd h9 (by decide)) (fun _ => ?_)
      refine Rn.bipush (v := (nI 12)) dX10_readAtom_166 rfl ?_
      refine Rn.goto 173 dX10_readAtom_168 (by decide) ?_
      refine Rn.iconst (v := (nI 0)) dX10_readAtom_173 rfl ?_
      refine Rn.callVp (As := [_, _]) dX10_readAtom_174 mv_X10_182 (by first | rfl | exact gC0 (by assumption) | exact gL0 (by assumption)) rfl rfl rfl (Nat.le_of_ble_eq_true rfl) (ct_emits G _ I _ _ p8 b8 q s8 V8 (by omega)) ?_
      refine Rn.iconst (v := (nI 1)) dX10_readAtom_177 rfl ?_
      exact Rn.zret dX10_readAtom_178 rfl rfl (⟨p8, b8, q, s8 + 1, _, rfl, by omega, x2, x3, by omega, by omega, by omega, fun j hj => (emV_lt (by omega)).trans ((x7 j (by omega)).trans (t7 j hj)), Or.inr ⟨rfl, rfl, by omega, (t9.of (fun j hj => (emV_lt (by omega)).trans (x7 j hj))).bin (x9.of (fun j hj => emV_lt hj)) (k := 12) (by decide) (emV_at _ _ _ _), x0⟩⟩)
end Cnd
theorem rd_all6 (G : Gx) (c : Nat → Nat) (e : Nat) : ∀ (n q : Nat), q + n = 6 → (∀ d, RdC G c e mX10_readAtom (d + 9 + 3 * n) q (gAtom c e n)) ∧ (∀ d, RdC G c e mX10_readCond (d + 11 + 3 * n) q (gAny c e (gAtom c e n))) := by
  have up : ∀ (n q : Nat), q ≤ 6 → (∀ d, RdC G c e mX10_readAtom (d + 9 + 3 * n) q (gAtom c e n)) → ∀ d, RdC G c e mX10_readCond (d + 11 + 3 * n) q (gAny c e (gAtom c e n)) := by
    intro n q hq h d
    have h1 := rd_all G (d + 4 + 3 * n) q hq (gAtom c e n) (by have := h d; rw [show d + 9 + 3 * n = d + 4 + 3 * n + 5 by omega] at this; exact this)
    have h2 := rd_cond G (d + 5 + 3 * n) q hq (gAll c e (gAtom c e n)) (by rw [show d + 5 + 3 * n + 5 = d + 4 + 3 * n + 6 by omega]; exact h1)
    rw [show d + 11 + 3 * n = d + 5 + 3 * n + 6 by omega]
    exact h2
  intro n
  induction n with
  | zero =>
    intro q hq
    have h1 : ∀ d, RdC G c e mX10_readAtom (d + 9 + 3 * 0) q (gAtom c e 0) := fun d => rd_atom G d 0 q (by omega) (fun n' h => absurd h (by omega)) (fun n' h => absurd h (by omega))
    exact ⟨h1, up 0 q (by omega) h1⟩
  | succ n ih =>
    intro q hq
    obtain ⟨i1, i2⟩ := ih (q + 1) (by omega)
    have h1 : ∀ d, RdC G c e mX10_readAtom (d + 9 + 3 * (n + 1)) q (gAtom c e (n + 1)) := fun d => by
      have h3 := i1 (d + 2)
      have h4 := i2 d
      rw [show d + 2 + 9 + 3 * n = d + 3 + 3 * n + 8 by omega] at h3
      rw [show d + 11 + 3 * n = d + 3 + 3 * n + 8 by omega] at h4
      have h5 := rd_atom G (d + 3 + 3 * n) (n + 1) q (by omega) (fun n' hn => by have e9 : n = n' := (by omega); subst e9; exact h4) (fun n' hn => by have e9 : n = n' := (by omega); subst e9; exact h3)
      rw [show d + 9 + 3 * (n + 1) = d + 3 + 3 * n + 9 by omega]
      exact h5
    exact ⟨h1, up (n + 1) q (by omega) h1⟩
theorem rd_cond0 (G : Gx) (c : Nat → Nat) (e d : Nat) : RdC G c e mX10_readCond (d + 29) 0 (gAny c e (gAtom c e 6)) := (rd_all6 G c e 6 0 rfl).2 d
