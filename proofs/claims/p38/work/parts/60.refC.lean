theorem dX10_factOf_0 : decode cX10_factOf 0 = .ok (.iload_n 1, 1) := by decide +kernel
theorem dX10_factOf_1 : decode cX10_factOf 1 = .ok (.tableswitch 130 0 9 #[55, 57, 60, 63, 72, 79, 87, 96, 104, 121], 55) := by decide +kernel
theorem dX10_factOf_56 : decode cX10_factOf 56 = .ok (.iload_n 3, 1) := by decide +kernel
theorem dX10_factOf_57 : decode cX10_factOf 57 = .ok (.ireturn, 1) := by decide +kernel
theorem dX10_factOf_58 : decode cX10_factOf 58 = .ok (.iload 4, 2) := by decide +kernel
theorem dX10_factOf_60 : decode cX10_factOf 60 = .ok (.ireturn, 1) := by decide +kernel
theorem dX10_factOf_61 : decode cX10_factOf 61 = .ok (.iload 5, 2) := by decide +kernel
theorem dX10_factOf_63 : decode cX10_factOf 63 = .ok (.ireturn, 1) := by decide +kernel
theorem dX10_factOf_64 : decode cX10_factOf 64 = .ok (.aload_n 0, 1) := by decide +kernel
theorem dX10_factOf_65 : decode cX10_factOf 65 = .ok (.iload 4, 2) := by decide +kernel
theorem dX10_factOf_67 : decode cX10_factOf 67 = .ok (.bipush 6, 2) := by decide +kernel
theorem dX10_factOf_69 : decode cX10_factOf 69 = .ok (.invokevirtual 71, 3) := by decide +kernel
theorem dX10_factOf_72 : decode cX10_factOf 72 = .ok (.ireturn, 1) := by decide +kernel
theorem dX10_factOf_73 : decode cX10_factOf 73 = .ok (.aload_n 0, 1) := by decide +kernel
theorem dX10_factOf_74 : decode cX10_factOf 74 = .ok (.iload_n 3, 1) := by decide +kernel
theorem dX10_factOf_75 : decode cX10_factOf 75 = .ok (.iconst 5, 1) := by decide +kernel
theorem dX10_factOf_76 : decode cX10_factOf 76 = .ok (.invokevirtual 65, 3) := by decide +kernel
theorem dX10_factOf_79 : decode cX10_factOf 79 = .ok (.ireturn, 1) := by decide +kernel
theorem dX10_factOf_80 : decode cX10_factOf 80 = .ok (.aload_n 0, 1) := by decide +kernel
theorem dX10_factOf_81 : decode cX10_factOf 81 = .ok (.iload_n 3, 1) := by decide +kernel
theorem dX10_factOf_82 : decode cX10_factOf 82 = .ok (.iload 5, 2) := by decide +kernel
theorem dX10_factOf_84 : decode cX10_factOf 84 = .ok (.invokevirtual 65, 3) := by decide +kernel
theorem dX10_factOf_87 : decode cX10_factOf 87 = .ok (.ireturn, 1) := by decide +kernel
theorem dX10_factOf_88 : decode cX10_factOf 88 = .ok (.aload_n 0, 1) := by decide +kernel
theorem dX10_factOf_89 : decode cX10_factOf 89 = .ok (.iload 4, 2) := by decide +kernel
theorem dX10_factOf_91 : decode cX10_factOf 91 = .ok (.iload 5, 2) := by decide +kernel
theorem dX10_factOf_93 : decode cX10_factOf 93 = .ok (.invokevirtual 71, 3) := by decide +kernel
theorem dX10_factOf_96 : decode cX10_factOf 96 = .ok (.ireturn, 1) := by decide +kernel
theorem dX10_factOf_97 : decode cX10_factOf 97 = .ok (.aload_n 0, 1) := by decide +kernel
theorem dX10_factOf_98 : decode cX10_factOf 98 = .ok (.iload_n 3, 1) := by decide +kernel
theorem dX10_factOf_99 : decode cX10_factOf 99 = .ok (.bipush 6, 2) := by decide +kernel
theorem dX10_factOf_101 : decode cX10_factOf 101 = .ok (.invokevirtual 65, 3) := by decide +kernel
theorem dX10_factOf_104 : decode cX10_factOf 104 = .ok (.ireturn, 1) := by decide +kernel
theorem dX10_factOf_105 : decode cX10_factOf 105 = .ok (.aload_n 0, 1) := by decide +kernel
theorem dX10_factOf_106 : decode cX10_factOf 106 = .ok (.iload 4, 2) := by decide +kernel
theorem dX10_factOf_108 : decode cX10_factOf 108 = .ok (.iconst 4, 1) := by decide +kernel
theorem dX10_factOf_109 : decode cX10_factOf 109 = .ok (.invokevirtual 71, 3) := by decide +kernel
theorem dX10_factOf_112 : decode cX10_factOf 112 = .ok (.iload_n 3, 1) := by decide +kernel
theorem dX10_factOf_113 : decode cX10_factOf 113 = .ok (.if_icmp .ne 7, 3) := by decide +kernel
theorem dX10_factOf_120 : decode cX10_factOf 120 = .ok (.iconst 0, 1) := by decide +kernel
theorem dX10_factOf_121 : decode cX10_factOf 121 = .ok (.ireturn, 1) := by decide +kernel
theorem dX10_factOf_116 : decode cX10_factOf 116 = .ok (.iconst 1, 1) := by decide +kernel
theorem dX10_factOf_117 : decode cX10_factOf 117 = .ok (.goto 4, 3) := by decide +kernel
theorem dX10_factOf_122 : decode cX10_factOf 122 = .ok (.aload_n 0, 1) := by decide +kernel
theorem dX10_factOf_123 : decode cX10_factOf 123 = .ok (.iload 4, 2) := by decide +kernel
theorem dX10_factOf_125 : decode cX10_factOf 125 = .ok (.bipush 8, 2) := by decide +kernel
theorem dX10_factOf_127 : decode cX10_factOf 127 = .ok (.invokevirtual 71, 3) := by decide +kernel
theorem dX10_factOf_130 : decode cX10_factOf 130 = .ok (.ireturn, 1) := by decide +kernel
theorem dX10_factOf_131 : decode cX10_factOf 131 = .ok (.iload_n 2, 1) := by decide +kernel
theorem dX10_factOf_132 : decode cX10_factOf 132 = .ok (.ireturn, 1) := by decide +kernel
theorem dX10_holdsLine_23 : decode cX10_holdsLine 23 = .ok (.iload 7, 2) := by decide +kernel
theorem dX10_holdsLine_25 : decode cX10_holdsLine 25 = .ok (.aload_n 0, 1) := by decide +kernel
theorem dX10_holdsLine_26 : decode cX10_holdsLine 26 = .ok (.getfield 13, 3) := by decide +kernel
theorem dX10_holdsLine_29 : decode cX10_holdsLine 29 = .ok (.iload 6, 2) := by decide +kernel
theorem dX10_holdsLine_31 : decode cX10_holdsLine 31 = .ok (.iconst 3, 1) := by decide +kernel
theorem dX10_holdsLine_32 : decode cX10_holdsLine 32 = .ok (.iadd, 1) := by decide +kernel
theorem dX10_holdsLine_33 : decode cX10_holdsLine 33 = .ok (.iaload, 1) := by decide +kernel
theorem dX10_holdsLine_34 : decode cX10_holdsLine 34 = .ok (.if_icmp .ge 239, 3) := by decide +kernel
theorem dX10_holdsLine_37 : decode cX10_holdsLine 37 = .ok (.aload_n 0, 1) := by decide +kernel
theorem dX10_holdsLine_38 : decode cX10_holdsLine 38 = .ok (.getfield 13, 3) := by decide +kernel
theorem dX10_holdsLine_41 : decode cX10_holdsLine 41 = .ok (.sipush 426, 3) := by decide +kernel
theorem dX10_holdsLine_44 : decode cX10_holdsLine 44 = .ok (.iconst 2, 1) := by decide +kernel
theorem dX10_holdsLine_45 : decode cX10_holdsLine 45 = .ok (.iload 7, 2) := by decide +kernel
theorem dX10_holdsLine_47 : decode cX10_holdsLine 47 = .ok (.imul, 1) := by decide +kernel
theorem dX10_holdsLine_48 : decode cX10_holdsLine 48 = .ok (.iadd, 1) := by decide +kernel
theorem dX10_holdsLine_49 : decode cX10_holdsLine 49 = .ok (.iaload, 1) := by decide +kernel
theorem dX10_holdsLine_50 : decode cX10_holdsLine 50 = .ok (.istore 8, 2) := by decide +kernel
theorem dX10_holdsLine_52 : decode cX10_holdsLine 52 = .ok (.iload 8, 2) := by decide +kernel
theorem dX10_holdsLine_54 : decode cX10_holdsLine 54 = .ok (.bipush 10, 2) := by decide +kernel
theorem dX10_holdsLine_56 : decode cX10_holdsLine 56 = .ok (.if_icmp .gt 41, 3) := by decide +kernel
theorem dX10_holdsLine_59 : decode cX10_holdsLine 59 = .ok (.aload_n 0, 1) := by decide +kernel
theorem dX10_holdsLine_60 : decode cX10_holdsLine 60 = .ok (.getfield 39, 3) := by decide +kernel
theorem dX10_holdsLine_63 : decode cX10_holdsLine 63 = .ok (.iload 5, 2) := by decide +kernel
theorem dX10_holdsLine_65 : decode cX10_holdsLine 65 = .ok (.aload_n 0, 1) := by decide +kernel
theorem dX10_holdsLine_66 : decode cX10_holdsLine 66 = .ok (.iload 8, 2) := by decide +kernel
theorem dX10_holdsLine_68 : decode cX10_holdsLine 68 = .ok (.aload_n 0, 1) := by decide +kernel
theorem dX10_holdsLine_69 : decode cX10_holdsLine 69 = .ok (.getfield 13, 3) := by decide +kernel
theorem dX10_holdsLine_72 : decode cX10_holdsLine 72 = .ok (.sipush 426, 3) := by decide +kernel
theorem dX10_holdsLine_75 : decode cX10_holdsLine 75 = .ok (.iconst 2, 1) := by decide +kernel
theorem dX10_holdsLine_76 : decode cX10_holdsLine 76 = .ok (.iload 7, 2) := by decide +kernel
theorem dX10_holdsLine_78 : decode cX10_holdsLine 78 = .ok (.imul, 1) := by decide +kernel
theorem dX10_holdsLine_79 : decode cX10_holdsLine 79 = .ok (.iadd, 1) := by decide +kernel
theorem dX10_holdsLine_80 : decode cX10_holdsLine 80 = .ok (.iconst 1, 1) := by decide +kernel
theorem dX10_holdsLine_81 : decode cX10_holdsLine 81 = .ok (.iadd, 1) := by decide +kernel
theorem dX10_holdsLine_82 : decode cX10_holdsLine 82 = .ok (.iaload, 1) := by decide +kernel
theorem dX10_holdsLine_83 : decode cX10_holdsLine 83 = .ok (.iload_n 2, 1) := by decide +kernel
theorem dX10_holdsLine_84 : decode cX10_holdsLine 84 = .ok (.iload_n 3, 1) := by decide +kernel
theorem dX10_holdsLine_85 : decode cX10_holdsLine 85 = .ok (.iload 4, 2) := by decide +kernel
theorem dX10_holdsLine_87 : decode cX10_holdsLine 87 = .ok (.invokevirtual 244, 3) := by decide +kernel
theorem dX10_holdsLine_90 : decode cX10_holdsLine 90 = .ok (.iastore, 1) := by decide +kernel
theorem dX10_holdsLine_91 : decode cX10_holdsLine 91 = .ok (.iinc 5 1, 3) := by decide +kernel
theorem dX10_holdsLine_94 : decode cX10_holdsLine 94 = .ok (.goto 173, 3) := by decide +kernel
theorem dX10_holdsLine_267 : decode cX10_holdsLine 267 = .ok (.iinc 7 1, 3) := by decide +kernel
theorem dX10_holdsLine_270 : decode cX10_holdsLine 270 = .ok (.goto (-247), 3) := by decide +kernel
theorem dX10_holdsLine_97 : decode cX10_holdsLine 97 = .ok (.iload 8, 2) := by decide +kernel
theorem dX10_holdsLine_99 : decode cX10_holdsLine 99 = .ok (.bipush 14, 2) := by decide +kernel
theorem dX10_holdsLine_101 : decode cX10_holdsLine 101 = .ok (.if_icmp .ne 26, 3) := by decide +kernel
theorem dX10_holdsLine_104 : decode cX10_holdsLine 104 = .ok (.aload_n 0, 1) := by decide +kernel
theorem dX10_holdsLine_105 : decode cX10_holdsLine 105 = .ok (.getfield 39, 3) := by decide +kernel
theorem dX10_holdsLine_108 : decode cX10_holdsLine 108 = .ok (.iload 5, 2) := by decide +kernel
theorem dX10_holdsLine_110 : decode cX10_holdsLine 110 = .ok (.iconst 1, 1) := by decide +kernel
theorem dX10_holdsLine_111 : decode cX10_holdsLine 111 = .ok (.isub, 1) := by decide +kernel
theorem dX10_holdsLine_112 : decode cX10_holdsLine 112 = .ok (.iconst 1, 1) := by decide +kernel
theorem dX10_holdsLine_113 : decode cX10_holdsLine 113 = .ok (.aload_n 0, 1) := by decide +kernel
theorem dX10_holdsLine_114 : decode cX10_holdsLine 114 = .ok (.getfield 39, 3) := by decide +kernel
theorem dX10_holdsLine_117 : decode cX10_holdsLine 117 = .ok (.iload 5, 2) := by decide +kernel
theorem dX10_holdsLine_119 : decode cX10_holdsLine 119 = .ok (.iconst 1, 1) := by decide +kernel
theorem dX10_holdsLine_120 : decode cX10_holdsLine 120 = .ok (.isub, 1) := by decide +kernel
theorem dX10_holdsLine_121 : decode cX10_holdsLine 121 = .ok (.iaload, 1) := by decide +kernel
theorem dX10_holdsLine_122 : decode cX10_holdsLine 122 = .ok (.isub, 1) := by decide +kernel
theorem dX10_holdsLine_123 : decode cX10_holdsLine 123 = .ok (.iastore, 1) := by decide +kernel
theorem dX10_holdsLine_124 : decode cX10_holdsLine 124 = .ok (.goto 143, 3) := by decide +kernel
theorem dX10_holdsLine_127 : decode cX10_holdsLine 127 = .ok (.iinc 5 (-1), 3) := by decide +kernel
theorem dX10_holdsLine_130 : decode cX10_holdsLine 130 = .ok (.aload_n 0, 1) := by decide +kernel
theorem dX10_holdsLine_131 : decode cX10_holdsLine 131 = .ok (.getfield 39, 3) := by decide +kernel
theorem dX10_holdsLine_134 : decode cX10_holdsLine 134 = .ok (.iload 5, 2) := by decide +kernel
theorem dX10_holdsLine_136 : decode cX10_holdsLine 136 = .ok (.iconst 1, 1) := by decide +kernel
theorem dX10_holdsLine_137 : decode cX10_holdsLine 137 = .ok (.isub, 1) := by decide +kernel
theorem dX10_holdsLine_138 : decode cX10_holdsLine 138 = .ok (.iaload, 1) := by decide +kernel
theorem dX10_holdsLine_139 : decode cX10_holdsLine 139 = .ok (.istore 9, 2) := by decide +kernel
theorem dX10_holdsLine_141 : decode cX10_holdsLine 141 = .ok (.aload_n 0, 1) := by decide +kernel
theorem dX10_holdsLine_142 : decode cX10_holdsLine 142 = .ok (.getfield 39, 3) := by decide +kernel
theorem dX10_holdsLine_145 : decode cX10_holdsLine 145 = .ok (.iload 5, 2) := by decide +kernel
theorem dX10_holdsLine_147 : decode cX10_holdsLine 147 = .ok (.iaload, 1) := by decide +kernel
theorem dX10_holdsLine_148 : decode cX10_holdsLine 148 = .ok (.istore 10, 2) := by decide +kernel
theorem dX10_holdsLine_150 : decode cX10_holdsLine 150 = .ok (.iload 8, 2) := by decide +kernel
theorem dX10_holdsLine_152 : decode cX10_holdsLine 152 = .ok (.bipush 12, 2) := by decide +kernel
theorem dX10_holdsLine_154 : decode cX10_holdsLine 154 = .ok (.if_icmp .ne 18, 3) := by decide +kernel
theorem dX10_holdsLine_172 : decode cX10_holdsLine 172 = .ok (.iload 8, 2) := by decide +kernel
theorem dX10_holdsLine_174 : decode cX10_holdsLine 174 = .ok (.bipush 13, 2) := by decide +kernel
theorem dX10_holdsLine_176 : decode cX10_holdsLine 176 = .ok (.if_icmp .ne 18, 3) := by decide +kernel
theorem dX10_holdsLine_194 : decode cX10_holdsLine 194 = .ok (.iload 8, 2) := by decide +kernel
theorem dX10_holdsLine_196 : decode cX10_holdsLine 196 = .ok (.bipush 15, 2) := by decide +kernel
theorem dX10_holdsLine_198 : decode cX10_holdsLine 198 = .ok (.if_icmp .ne 20, 3) := by decide +kernel
theorem dX10_holdsLine_218 : decode cX10_holdsLine 218 = .ok (.iload 9, 2) := by decide +kernel
theorem dX10_holdsLine_220 : decode cX10_holdsLine 220 = .ok (.iload 10, 2) := by decide +kernel
theorem dX10_holdsLine_222 : decode cX10_holdsLine 222 = .ok (.iadd, 1) := by decide +kernel
theorem dX10_holdsLine_223 : decode cX10_holdsLine 223 = .ok (.ifCond .le 7, 3) := by decide +kernel
theorem dX10_holdsLine_230 : decode cX10_holdsLine 230 = .ok (.iconst 0, 1) := by decide +kernel
theorem dX10_holdsLine_231 : decode cX10_holdsLine 231 = .ok (.istore 11, 2) := by decide +kernel
theorem dX10_holdsLine_233 : decode cX10_holdsLine 233 = .ok (.aload_n 0, 1) := by decide +kernel
theorem dX10_holdsLine_234 : decode cX10_holdsLine 234 = .ok (.getfield 39, 3) := by decide +kernel
theorem dX10_holdsLine_237 : decode cX10_holdsLine 237 = .ok (.iload 5, 2) := by decide +kernel
theorem dX10_holdsLine_239 : decode cX10_holdsLine 239 = .ok (.iconst 1, 1) := by decide +kernel
theorem dX10_holdsLine_240 : decode cX10_holdsLine 240 = .ok (.isub, 1) := by decide +kernel
theorem dX10_holdsLine_241 : decode cX10_holdsLine 241 = .ok (.iload 8, 2) := by decide +kernel
theorem dX10_holdsLine_243 : decode cX10_holdsLine 243 = .ok (.bipush 11, 2) := by decide +kernel
theorem dX10_holdsLine_245 : decode cX10_holdsLine 245 = .ok (.if_icmp .ne 11, 3) := by decide +kernel
theorem dX10_holdsLine_248 : decode cX10_holdsLine 248 = .ok (.iload 9, 2) := by decide +kernel
theorem dX10_holdsLine_250 : decode cX10_holdsLine 250 = .ok (.iload 10, 2) := by decide +kernel
theorem dX10_holdsLine_252 : decode cX10_holdsLine 252 = .ok (.iadd, 1) := by decide +kernel
theorem dX10_holdsLine_253 : decode cX10_holdsLine 253 = .ok (.goto 13, 3) := by decide +kernel
theorem dX10_holdsLine_266 : decode cX10_holdsLine 266 = .ok (.iastore, 1) := by decide +kernel
theorem dX10_holdsLine_226 : decode cX10_holdsLine 226 = .ok (.iconst 1, 1) := by decide +kernel
theorem dX10_holdsLine_227 : decode cX10_holdsLine 227 = .ok (.goto 4, 3) := by decide +kernel
theorem dX10_holdsLine_157 : decode cX10_holdsLine 157 = .ok (.iload 9, 2) := by decide +kernel
theorem dX10_holdsLine_159 : decode cX10_holdsLine 159 = .ok (.iload 10, 2) := by decide +kernel
theorem dX10_holdsLine_161 : decode cX10_holdsLine 161 = .ok (.if_icmp .ge 7, 3) := by decide +kernel
theorem dX10_holdsLine_168 : decode cX10_holdsLine 168 = .ok (.iconst 0, 1) := by decide +kernel
theorem dX10_holdsLine_169 : decode cX10_holdsLine 169 = .ok (.goto 62, 3) := by decide +kernel
theorem dX10_holdsLine_256 : decode cX10_holdsLine 256 = .ok (.iload 11, 2) := by decide +kernel
theorem dX10_holdsLine_258 : decode cX10_holdsLine 258 = .ok (.ifCond .eq 7, 3) := by decide +kernel
theorem dX10_holdsLine_265 : decode cX10_holdsLine 265 = .ok (.iconst 0, 1) := by decide +kernel
theorem dX10_holdsLine_164 : decode cX10_holdsLine 164 = .ok (.iconst 1, 1) := by decide +kernel
theorem dX10_holdsLine_165 : decode cX10_holdsLine 165 = .ok (.goto 66, 3) := by decide +kernel
theorem dX10_holdsLine_261 : decode cX10_holdsLine 261 = .ok (.iconst 1, 1) := by decide +kernel
theorem dX10_holdsLine_262 : decode cX10_holdsLine 262 = .ok (.goto 4, 3) := by decide +kernel
theorem dX10_holdsLine_179 : decode cX10_holdsLine 179 = .ok (.iload 9, 2) := by decide +kernel
theorem dX10_holdsLine_181 : decode cX10_holdsLine 181 = .ok (.iload 10, 2) := by decide +kernel
theorem dX10_holdsLine_183 : decode cX10_holdsLine 183 = .ok (.if_icmp .le 7, 3) := by decide +kernel
theorem dX10_holdsLine_190 : decode cX10_holdsLine 190 = .ok (.iconst 0, 1) := by decide +kernel
theorem dX10_holdsLine_191 : decode cX10_holdsLine 191 = .ok (.goto 40, 3) := by decide +kernel
theorem dX10_holdsLine_186 : decode cX10_holdsLine 186 = .ok (.iconst 1, 1) := by decide +kernel
theorem dX10_holdsLine_187 : decode cX10_holdsLine 187 = .ok (.goto 44, 3) := by decide +kernel
theorem dX10_holdsLine_201 : decode cX10_holdsLine 201 = .ok (.iload 9, 2) := by decide +kernel
theorem dX10_holdsLine_203 : decode cX10_holdsLine 203 = .ok (.iload 10, 2) := by decide +kernel
theorem dX10_holdsLine_205 : decode cX10_holdsLine 205 = .ok (.iadd, 1) := by decide +kernel
theorem dX10_holdsLine_206 : decode cX10_holdsLine 206 = .ok (.iconst 2, 1) := by decide +kernel
theorem dX10_holdsLine_207 : decode cX10_holdsLine 207 = .ok (.if_icmp .ne 7, 3) := by decide +kernel
theorem dX10_holdsLine_214 : decode cX10_holdsLine 214 = .ok (.iconst 0, 1) := by decide +kernel
theorem dX10_holdsLine_215 : decode cX10_holdsLine 215 = .ok (.goto 16, 3) := by decide +kernel
theorem dX10_holdsLine_210 : decode cX10_holdsLine 210 = .ok (.iconst 1, 1) := by decide +kernel
theorem dX10_holdsLine_211 : decode cX10_holdsLine 211 = .ok (.goto 20, 3) := by decide +kernel
theorem dX10_holdsLine_0 : decode cX10_holdsLine 0 = .ok (.iconst 0, 1) := by decide +kernel
theorem dX10_holdsLine_1 : decode cX10_holdsLine 1 = .ok (.istore 5, 2) := by decide +kernel
theorem dX10_holdsLine_3 : decode cX10_holdsLine 3 = .ok (.sipush 378, 3) := by decide +kernel
theorem dX10_holdsLine_6 : decode cX10_holdsLine 6 = .ok (.iconst 4, 1) := by decide +kernel
theorem dX10_holdsLine_7 : decode cX10_holdsLine 7 = .ok (.iload_n 1, 1) := by decide +kernel
theorem dX10_holdsLine_8 : decode cX10_holdsLine 8 = .ok (.imul, 1) := by decide +kernel
theorem dX10_holdsLine_9 : decode cX10_holdsLine 9 = .ok (.iadd, 1) := by decide +kernel
theorem dX10_holdsLine_10 : decode cX10_holdsLine 10 = .ok (.istore 6, 2) := by decide +kernel
theorem dX10_holdsLine_12 : decode cX10_holdsLine 12 = .ok (.aload_n 0, 1) := by decide +kernel
theorem dX10_holdsLine_13 : decode cX10_holdsLine 13 = .ok (.getfield 13, 3) := by decide +kernel
theorem dX10_holdsLine_16 : decode cX10_holdsLine 16 = .ok (.iload 6, 2) := by decide +kernel
theorem dX10_holdsLine_18 : decode cX10_holdsLine 18 = .ok (.iconst 2, 1) := by decide +kernel
theorem dX10_holdsLine_19 : decode cX10_holdsLine 19 = .ok (.iadd, 1) := by decide +kernel
theorem dX10_holdsLine_20 : decode cX10_holdsLine 20 = .ok (.iaload, 1) := by decide +kernel
theorem dX10_holdsLine_21 : decode cX10_holdsLine 21 = .ok (.istore 7, 2) := by decide +kernel
theorem dX10_holdsLine_273 : decode cX10_holdsLine 273 = .ok (.iload 5, 2) := by decide +kernel
theorem dX10_holdsLine_275 : decode cX10_holdsLine 275 = .ok (.ifCond .eq 13, 3) := by decide +kernel
theorem dX10_holdsLine_288 : decode cX10_holdsLine 288 = .ok (.iconst 1, 1) := by decide +kernel
theorem dX10_holdsLine_289 : decode cX10_holdsLine 289 = .ok (.goto 4, 3) := by decide +kernel
theorem dX10_holdsLine_293 : decode cX10_holdsLine 293 = .ok (.ireturn, 1) := by decide +kernel
theorem dX10_holdsLine_278 : decode cX10_holdsLine 278 = .ok (.aload_n 0, 1) := by decide +kernel
theorem dX10_holdsLine_279 : decode cX10_holdsLine 279 = .ok (.getfield 39, 3) := by decide +kernel
theorem dX10_holdsLine_282 : decode cX10_holdsLine 282 = .ok (.iconst 0, 1) := by decide +kernel
theorem dX10_holdsLine_283 : decode cX10_holdsLine 283 = .ok (.iaload, 1) := by decide +kernel
theorem dX10_holdsLine_284 : decode cX10_holdsLine 284 = .ok (.iconst 1, 1) := by decide +kernel
theorem dX10_holdsLine_285 : decode cX10_holdsLine 285 = .ok (.if_icmp .ne 7, 3) := by decide +kernel
theorem dX10_holdsLine_292 : decode cX10_holdsLine 292 = .ok (.iconst 0, 1) := by decide +kernel
/-! THE LAW on the reference's side: the law's steps over a list of values (its head is the top) -/
def fctN (W : Nat → Int32) (w t s : Nat) (n : Int32) : Nat → Int32
  | 0 => nI w
  | 1 => nI t
  | 2 => nI s
  | 3 => W (65 + 9 * t + 6)
  | 4 => W (9 + 7 * w + 5)
  | 5 => W (9 + 7 * w + s)
  | 6 => W (65 + 9 * t + s)
  | 7 => W (9 + 7 * w + 6)
  | 8 => bI (W (65 + 9 * t + 4) = nI w)
  | 9 => W (65 + 9 * t + 8)
  | _ => n
def binN (k : Nat) (a b : Int32) : Int32 := if k = 11 then a + b else if k = 12 then bI (a < b) else if k = 13 then bI (b < a) else if k = 15 then bI (a + b = nI 2) else bI (0 < a + b)
def stN (W : Nat → Int32) (w t s : Nat) (k : Nat) (n : Int32) (st : List Int32) : List Int32 :=
  if k ≤ 10 then fctN W w t s n k :: st else if k = 14 then (match st with | x :: r => (nI 1 - x) :: r | [] => []) else (match st with | b :: a :: r => binN k a b :: r | r => r)
def evN (W : Nat → Int32) (w t s : Nat) (op : Nat → Nat) : Nat → Nat → List Int32 → List Int32
  | 0, _, st => st
  | n + 1, i, st => evN W w t s op n (i + 1) (stN W w t s (op i) (W (426 + 2 * i + 1)) st)
/-- the steps i .. i + n never take what isn't there, from a height h on -/
def okS (op : Nat → Nat) : Nat → Nat → Nat → Prop
  | 0, _, _ => True
  | n + 1, i, h => (op i ≤ 10 ∧ h < 400 ∧ okS op n (i + 1) (h + 1)) ∨ (op i = 14 ∧ 1 ≤ h ∧ okS op n (i + 1) h) ∨ ((op i = 11 ∨ op i = 12 ∨ op i = 13 ∨ op i = 15 ∨ op i = 16) ∧ 2 ≤ h ∧ okS op n (i + 1) (h - 1))
/-- g holds the values st, the bottom at 0 -/
def hasSt (g : Nat → Int32) (st : List Int32) : Prop := ∀ j, j < st.length → g j = st.getD (st.length - 1 - j) 0
theorem hasSt_push {g : Nat → Int32} {st : List Int32} (h : hasSt g st) (v : Int32) : hasSt (upd g st.length v) (v :: st) := by
  intro j hj
  simp only [List.length_cons] at hj ⊢
  by_cases e : j = st.length
  · subst e
    simp [upd]
  · have hj2 : j < st.length := by omega
    rw [show upd g st.length v j = g j from by simp [upd, e], h j hj2, show st.length + 1 - 1 - j = (st.length - 1 - j) + 1 by omega, List.getD_cons_succ]
theorem hasSt_pop {g : Nat → Int32} {x : Int32} {st : List Int32} (h : hasSt g (x :: st)) : hasSt g st := by
  intro j hj
  rw [h j (by simp; omega), List.length_cons, show st.length + 1 - 1 - j = (st.length - 1 - j) + 1 by omega, List.getD_cons_succ]
theorem hasSt_top {g : Nat → Int32} {x : Int32} {st : List Int32} (h : hasSt g (x :: st)) : g st.length = x := by
  rw [h st.length (by simp)]
  simp
theorem hasSt_bot {g : Nat → Int32} {st : List Int32} (h : hasSt g st) (hn : st ≠ []) : g 0 = st.getLastD 0 := by
  have hl : 0 < st.length := List.length_pos_iff.mpr hn
  rw [h 0 hl, List.getD_eq_getElem?_getD, List.getLastD_eq_getLast?, List.getLast?_eq_getElem?]
  simp
section RefC
variable (G : Gx) (d : Nat) (I : Hi)
theorem ct_factOf (k : Nat) (n : Int32) (w t s : Nat) (hk : k ≤ 10) (hw : w < 8) (ht : t < 8) (hs : s < 4) : Ct G GAM mX10_factOf (d + 2) 0 [.ref 94, .int (nI k), .int n, .int (nI w), .int (nI t), .int (nI s)] I (Rp (some (.int (fctN (I 95) w t s n k))) I) := by
  match k, hk with
  | 0, _ =>
    refine Ct.mk [some (.ref 94), some (.int (nI 0)), some (.int n), some (.int (nI w)), some (.int (nI t)), some (.int (nI s))] ?_
    refine Rn.iload_n dX10_factOf_0 rfl rfl ?_
    refine Rn.tableIn 56 dX10_factOf_1 (by decide) (by decide) rfl (by decide) ?_
    refine Rn.iload_n dX10_factOf_56 rfl rfl ?_
    exact Rn.iret dX10_factOf_57 rfl (⟨rfl, rfl⟩)
  | 1, _ =>
    refine Ct.mk [some (.ref 94), some (.int (nI 1)), some (.int n), some (.int (nI w)), some (.int (nI t)), some (.int (nI s))] ?_
    refine Rn.iload_n dX10_factOf_0 rfl rfl ?_
    refine Rn.tableIn 58 dX10_factOf_1 (by decide) (by decide) rfl (by decide) ?_
    refine Rn.iload dX10_factOf_58 rfl ?_
    exact Rn.iret dX10_factOf_60 rfl (⟨rfl, rfl⟩)
  | 2, _ =>
    refine Ct.mk [some (.ref 94), some (.int (nI 2)), some (.int n), some (.int (nI w)), some (.int (nI t)), some (.int (nI s))] ?_
    refine Rn.iload_n dX10_factOf_0 rfl rfl ?_
    refine Rn.tableIn 61 dX10_factOf_1 (by decide) (by decide) rfl (by decide) ?_
    refine Rn.iload dX10_factOf_61 rfl ?_
    exact Rn.iret dX10_factOf_63 rfl (⟨rfl, rfl⟩)
  | 3, _ =>
    refine Ct.mk [some (.ref 94), some (.int (nI 3)), some (.int n), some (.int (nI w)), some (.int (nI t)), some (.int (nI s))] ?_
    refine Rn.iload_n dX10_factOf_0 rfl rfl ?_
    refine Rn.tableIn 64 dX10_factOf_1 (by decide) (by decide) rfl (by decide) ?_
    refine Rn.aload_n dX10_factOf_64 rfl rfl ?_
    refine Rn.iload dX10_factOf_65 rfl ?_
    refine Rn.bipush (v := (nI 6)) dX10_factOf_67 rfl ?_
    refine Rn.callVp (As := [_, _]) dX10_factOf_69 mv_X10_71 (by first | rfl | exact gC0 (by assumption) | exact gL0 (by assumption)) rfl rfl rfl (Nat.le_of_ble_eq_true rfl) (ct_ofThing G _ _ _ _ (by omega)) ?_
    exact Rn.iret dX10_factOf_72 rfl (⟨rfl, rfl⟩)
  | 4, _ =>
    refine Ct.mk [some (.ref 94), some (.int (nI 4)), some (.int n), some (.int (nI w)), some (.int (nI t)), some (.int (nI s))] ?_
    refine Rn.iload_n dX10_factOf_0 rfl rfl ?_
    refine Rn.tableIn 73 dX10_factOf_1 (by decide) (by decide) rfl (by decide) ?_
    refine Rn.aload_n dX10_factOf_73 rfl rfl ?_
    refine Rn.iload_n dX10_factOf_74 rfl rfl ?_
    refine Rn.iconst (v := (nI 5)) dX10_factOf_75 rfl ?_
    refine Rn.callVp (As := [_, _]) dX10_factOf_76 mv_X10_65 (by first | rfl | exact gC0 (by assumption) | exact gL0 (by assumption)) rfl rfl rfl (Nat.le_of_ble_eq_true rfl) (ct_of G _ _ _ _ (by omega)) ?_
    exact Rn.iret dX10_factOf_79 rfl (⟨rfl, rfl⟩)
  | 5, _ =>
    refine Ct.mk [some (.ref 94), some (.int (nI 5)), some (.int n), some (.int (nI w)), some (.int (nI t)), some (.int (nI s))] ?_
    refine Rn.iload_n dX10_factOf_0 rfl rfl ?_
    refine Rn.tableIn 80 dX10_factOf_1 (by decide) (by decide) rfl (by decide) ?_
    refine Rn.aload_n dX10_factOf_80 rfl rfl ?_
    refine Rn.iload_n dX10_factOf_81 rfl rfl ?_
    refine Rn.iload dX10_factOf_82 rfl ?_
    refine Rn.callVp (As := [_, _]) dX10_factOf_84 mv_X10_65 (by first | rfl | exact gC0 (by assumption) | exact gL0 (by assumption)) rfl rfl rfl (Nat.le_of_ble_eq_true rfl) (ct_of G _ _ _ _ (by omega)) ?_
    exact Rn.iret dX10_factOf_87 rfl (⟨rfl, rfl⟩)
  | 6, _ =>
    refine Ct.mk [some (.ref 94), some (.int (nI 6)), some (.int n), some (.int (nI w)), some (.int (nI t)), some (.int (nI s))] ?_
    refine Rn.iload_n dX10_factOf_0 rfl rfl ?_
    refine Rn.tableIn 88 dX10_factOf_1 (by decide) (by decide) rfl (by decide) ?_
    refine Rn.aload_n dX10_factOf_88 rfl rfl ?_
    refine Rn.iload dX10_factOf_89 rfl ?_
    refine Rn.iload dX10_factOf_91 rfl ?_
    refine Rn.callVp (As := [_, _]) dX10_factOf_93 mv_X10_71 (by first | rfl | exact gC0 (by assumption) | exact gL0 (by assumption)) rfl rfl rfl (Nat.le_of_ble_eq_true rfl) (ct_ofThing G _ _ _ _ (by omega)) ?_
    exact Rn.iret dX10_factOf_96 rfl (⟨rfl, rfl⟩)
  | 7, _ =>
    refine Ct.mk [some (.ref 94), some (.int (nI 7)), some (.int n), some (.int (nI w)), some (.int (nI t)), some (.int (nI s))] ?_
    refine Rn.iload_n dX10_factOf_0 rfl rfl ?_
    refine Rn.tableIn 97 dX10_factOf_1 (by decide) (by decide) rfl (by decide) ?_
    refine Rn.aload_n dX10_factOf_97 rfl rfl ?_
    refine Rn.iload_n dX10_factOf_98 rfl rfl ?_
    refine Rn.bipush (v := (nI 6)) dX10_factOf_99 rfl ?_
    refine Rn.callVp (As := [_, _]) dX10_factOf_101 mv_X10_65 (by first | rfl | exact gC0 (by assumption) | exact gL0 (by assumption)) rfl rfl rfl (Nat.le_of_ble_eq_true rfl) (ct_of G _ _ _ _ (by omega)) ?_
    exact Rn.iret dX10_factOf_104 rfl (⟨rfl, rfl⟩)
  | 8, _ =>
    refine Ct.mk [some (.ref 94), some (.int (nI 8)), some (.int n), some (.int (nI w)), some (.int (nI t)), some (.int (nI s))] ?_
    refine Rn.iload_n dX10_factOf_0 rfl rfl ?_
    refine Rn.tableIn 105 dX10_factOf_1 (by decide) (by decide) rfl (by decide) ?_
    refine Rn.aload_n dX10_factOf_105 rfl rfl ?_
    refine Rn.iload dX10_factOf_106 rfl ?_
    refine Rn.iconst (v := (nI 4)) dX10_factOf_108 rfl ?_
    refine Rn.callVp (As := [_, _]) dX10_factOf_109 mv_X10_71 (by first | rfl | exact gC0 (by assumption) | exact gL0 (by assumption)) rfl rfl rfl (Nat.le_of_ble_eq_true rfl) (ct_ofThing G _ _ _ _ (by omega)) ?_
    refine Rn.iload_n dX10_factOf_112 rfl rfl ?_
    refine Rn.icmp_ne (tgt := 120) dX10_factOf_113 (by decide) (fun h1 => ?_) (fun h1 => ?_)
    · refine Rn.iconst (v := (nI 0)) dX10_factOf_120 rfl ?_
      exact Rn.iret dX10_factOf_121 rfl (⟨by rw [fctN, bI_f h1]; rfl, rfl⟩)
    · refine Rn.iconst (v := (nI 1)) dX10_factOf_116 rfl ?_
      refine Rn.goto 121 dX10_factOf_117 (by decide) ?_
      exact Rn.iret dX10_factOf_121 rfl (⟨by rw [fctN, bI_t h1]; rfl, rfl⟩)
  | 9, _ =>
    refine Ct.mk [some (.ref 94), some (.int (nI 9)), some (.int n), some (.int (nI w)), some (.int (nI t)), some (.int (nI s))] ?_
    refine Rn.iload_n dX10_factOf_0 rfl rfl ?_
    refine Rn.tableIn 122 dX10_factOf_1 (by decide) (by decide) rfl (by decide) ?_
    refine Rn.aload_n dX10_factOf_122 rfl rfl ?_
    refine Rn.iload dX10_factOf_123 rfl ?_
    refine Rn.bipush (v := (nI 8)) dX10_factOf_125 rfl ?_
    refine Rn.callVp (As := [_, _]) dX10_factOf_127 mv_X10_71 (by first | rfl | exact gC0 (by assumption) | exact gL0 (by assumption)) rfl rfl rfl (Nat.le_of_ble_eq_true rfl) (ct_ofThing G _ _ _ _ (by omega)) ?_
    exact Rn.iret dX10_factOf_130 rfl (⟨rfl, rfl⟩)
  | 10, _ =>
    refine Ct.mk [some (.ref 94), some (.int (nI 10)), some (.int n), some (.int (nI w)), some (.int (nI t)), some (.int (nI s))] ?_
    refine Rn.iload_n dX10_factOf_0 rfl rfl ?_
    refine Rn.tableOut 131 dX10_factOf_1 (by decide) (by decide) ?_
    refine Rn.iload_n dX10_factOf_131 rfl rfl ?_
    exact Rn.iret dX10_factOf_132 rfl (⟨rfl, rfl⟩)
  | k + 11, hk => exact absurd hk (by omega)
theorem lp_holdsLine {kx : Kx} {b : Nat} (ln w t s E : Nat) (op : Nat → Nat) (hln : ln < 12) (hw : w < 8) (ht : t < 8) (hs : s < 4) (hE : E ≤ 400) (hend : I 95 (378 + 4 * ln + 3) = nI E) (hop : ∀ i, i < E → I 95 (426 + 2 * i) = nI (op i)) (F : List Int32)
    (k : ∀ (g : Nat → Int32) (x8 x9 x10 x11 : Option Value), hasSt g F → F.length ≤ 400 → Rn G GAM mX10_holdsLine kx (d + 3) b 273 [some (.ref 94), some (.int (nI ln)), some (.int (nI w)), some (.int (nI t)), some (.int (nI s)), some (.int (nI F.length)), some (.int (nI (378 + 4 * ln))), some (.int (nI E)), x8, x9, x10, x11] [] (zset I 102 g)) :
    ∀ (n i : Nat) (st : List Int32) (g : Nat → Int32) (x8 x9 x10 x11 : Option Value), i + n = E → okS op n i st.length → st.length ≤ 400 → hasSt g st → evN (I 95) w t s op n i st = F →
      Rn G GAM mX10_holdsLine kx (d + 3) b 23 [some (.ref 94), some (.int (nI ln)), some (.int (nI w)), some (.int (nI t)), some (.int (nI s)), some (.int (nI st.length)), some (.int (nI (378 + 4 * ln))), some (.int (nI i)), x8, x9, x10, x11] [] (zset I 102 g) := by
  intro n
  induction n with
  | zero =>
    intro i st g x8 x9 x10 x11 hi hok hst hg hF
    obtain rfl : i = E := by omega
    have hF : st = F := hF
    subst hF
    refine Rn.iload dX10_holdsLine_23 rfl ?_
    refine Rn.aload_n dX10_holdsLine_25 rfl rfl ?_
    refine Rn.getR dX10_holdsLine_26 fd_X10_13_9 (by first | rfl | exact gC0 (by assumption) | exact gL0 (by assumption)) rfl ?_
    refine Rn.iload dX10_holdsLine_29 rfl ?_
    refine Rn.iconst (v := (nI 3)) dX10_holdsLine_31 rfl ?_
    refine Rn.iadd dX10_holdsLine_32 ?_
    refine Rn.topI (nI (378 + 4 * ln + 3)) (by first | rfl | (simp only [nI_add, pk_mul, nI_1]; done) | (simp only [nI_add, pk_mul, nI_1]; congr 1; omega)) ?_
    refine Rn.ialdN dX10_holdsLine_33 (by first | rfl | exact gC1 (by assumption) | exact gC2 (by assumption) | exact gC3 (by assumption) | exact gL1 (by assumption) | exact gL2 (by assumption) | exact gL3 (by assumption) | exact gL4 (by assumption) | exact gL5 (by assumption) | exact gL6 (by assumption)) ?_
    refine Rn.topI (nI i) hend ?_
    refine Rn.icmp_geN dX10_holdsLine_34 273 (fun _ => ?_) (fun h9 => by exfalso; omega)
    exact k g x8 x9 x10 x11 hg hst
  | succ n ih =>
    intro i st g x8 x9 x10 x11 hi hok hst hg hF
    refine Rn.iload dX10_holdsLine_23 rfl ?_
    refine Rn.aload_n dX10_holdsLine_25 rfl rfl ?_
    refine Rn.getR dX10_holdsLine_26 fd_X10_13_9 (by first | rfl | exact gC0 (by assumption) | exact gL0 (by assumption)) rfl ?_
    refine Rn.iload dX10_holdsLine_29 rfl ?_
    refine Rn.iconst (v := (nI 3)) dX10_holdsLine_31 rfl ?_
    refine Rn.iadd dX10_holdsLine_32 ?_
    refine Rn.topI (nI (378 + 4 * ln + 3)) (by first | rfl | (simp only [nI_add, pk_mul, nI_1]; done) | (simp only [nI_add, pk_mul, nI_1]; congr 1; omega)) ?_
    refine Rn.ialdN dX10_holdsLine_33 (by first | rfl | exact gC1 (by assumption) | exact gC2 (by assumption) | exact gC3 (by assumption) | exact gL1 (by assumption) | exact gL2 (by assumption) | exact gL3 (by assumption) | exact gL4 (by assumption) | exact gL5 (by assumption) | exact gL6 (by assumption)) ?_
    refine Rn.topI (nI E) hend ?_
    refine Rn.icmp_geN dX10_holdsLine_34 273 (fun h9 => by exfalso; omega) (fun _ => ?_)
    refine Rn.aload_n dX10_holdsLine_37 rfl rfl ?_
    refine Rn.getR dX10_holdsLine_38 fd_X10_13_9 (by first | rfl | exact gC0 (by assumption) | exact gL0 (by assumption)) rfl ?_
    refine Rn.sipush (v := (nI 426)) dX10_holdsLine_41 rfl ?_
    refine Rn.iconst (v := (nI 2)) dX10_holdsLine_44 rfl ?_
    refine Rn.iload dX10_holdsLine_45 rfl ?_
    refine Rn.imul dX10_holdsLine_47 ?_
    refine Rn.iadd dX10_holdsLine_48 ?_
    refine Rn.topI (nI (426 + 2 * i)) (by first | rfl | (simp only [nI_add, pk_mul, nI_1]; done) | (simp only [nI_add, pk_mul, nI_1]; congr 1; omega)) ?_
    refine Rn.ialdN dX10_holdsLine_49 (by first | rfl | exact gC1 (by assumption) | exact gC2 (by assumption) | exact gC3 (by assumption) | exact gL1 (by assumption) | exact gL2 (by assumption) | exact gL3 (by assumption) | exact gL4 (by assumption) | exact gL5 (by assumption) | exact gL6 (by assumption)) ?_
    refine Rn.topI (nI (op i)) (hop i (by omega)) ?_
    rcases hok with ⟨h1, h2, h3⟩ | ⟨h1, h2, h3⟩ | ⟨h1, h2, h3⟩
    · refine Rn.istore dX10_holdsLine_50 (by decide) ?_
      refine Rn.iload dX10_holdsLine_52 rfl ?_
      refine Rn.bipush (v := (nI 10)) dX10_holdsLine_54 rfl ?_
      refine Rn.icmp_gtN dX10_holdsLine_56 97 (fun h9 => by exfalso; omega) (fun _ => ?_)
      refine Rn.aload_n dX10_holdsLine_59 rfl rfl ?_
      refine Rn.getR dX10_holdsLine_60 fd_X10_39_9 (by first | rfl | exact gC0 (by assumption) | exact gL0 (by assumption)) rfl ?_
      refine Rn.iload dX10_holdsLine_63 rfl ?_
      refine Rn.aload_n dX10_holdsLine_65 rfl rfl ?_
      refine Rn.iload dX10_holdsLine_66 rfl ?_
      refine Rn.aload_n dX10_holdsLine_68 rfl rfl ?_
      refine Rn.getR dX10_holdsLine_69 fd_X10_13_9 (by first | rfl | exact gC0 (by assumption) | exact gL0 (by assumption)) rfl ?_
      refine Rn.sipush (v := (nI 426)) dX10_holdsLine_72 rfl ?_
      refine Rn.iconst (v := (nI 2)) dX10_holdsLine_75 rfl ?_
      refine Rn.iload dX10_holdsLine_76 rfl ?_
      refine Rn.imul dX10_holdsLine_78 ?_
      refine Rn.iadd dX10_holdsLine_79 ?_
      refine Rn.iconst (v := (nI 1)) dX10_holdsLine_80 rfl ?_
      refine Rn.iadd dX10_holdsLine_81 ?_
      refine Rn.topI (nI (426 + 2 * i + 1)) (by first | rfl | (simp only [nI_add, pk_mul, nI_1]; done) | (simp only [nI_add, pk_mul, nI_1]; congr 1; omega)) ?_
      refine Rn.ialdN dX10_holdsLine_82 (by first | rfl | exact gC1 (by assumption) | exact gC2 (by assumption) | exact gC3 (by assumption) | exact gL1 (by assumption) | exact gL2 (by assumption) | exact gL3 (by assumption) | exact gL4 (by assumption) | exact gL5 (by assumption) | exact gL6 (by assumption)) ?_
      refine Rn.iload_n dX10_holdsLine_83 rfl rfl ?_
      refine Rn.iload_n dX10_holdsLine_84 rfl rfl ?_
      refine Rn.iload dX10_holdsLine_85 rfl ?_
      refine Rn.callVp (As := [_, _, _, _, _]) dX10_holdsLine_87 mv_X10_244 (by first | rfl | exact gC0 (by assumption) | exact gL0 (by assumption)) rfl rfl rfl (Nat.le_of_ble_eq_true rfl) (ct_factOf G _ _ _ _ _ _ _ (by omega) (by omega) (by omega) (by omega)) ?_
      refine Rn.iastN dX10_holdsLine_90 (by first | rfl | exact gC1 (by assumption) | exact gC2 (by assumption) | exact gC3 (by assumption) | exact gL1 (by assumption) | exact gL2 (by assumption) | exact gL3 (by assumption) | exact gL4 (by assumption) | exact gL5 (by assumption) | exact gL6 (by assumption)) ?_
      refine Rn.iincN dX10_holdsLine_91 rfl (by decide) ?_
      refine Rn.goto 267 dX10_holdsLine_94 (by decide) ?_
      refine Rn.iincN dX10_holdsLine_267 rfl (by decide) ?_
      refine Rn.goto 23 dX10_holdsLine_270 (by decide) ?_
      refine Rn.hpp _ (zup_zset _ _ _ _ _) (ih (i + 1) (_ :: st) _ _ _ _ _ (by omega) h3 (by simp only [List.length_cons]; omega) (hasSt_push hg _) ?_)
      rw [← hF]
      show _ = evN (I 95) w t s op n (i + 1) (stN (I 95) w t s (op i) (I 95 (426 + 2 * i + 1)) st)
      simp only [stN, if_pos h1]
      rfl
    · obtain ⟨x, r, rfl⟩ : ∃ x r, st = x :: r := by cases st with | nil => simp at h2 | cons x r => exact ⟨x, r, rfl⟩
      have hx : g r.length = x := hasSt_top hg
      have hr : r.length < 400 := by simp only [List.length_cons] at hst; omega
      rw [h1]
      refine Rn.istore dX10_holdsLine_50 (by decide) ?_
      refine Rn.iload dX10_holdsLine_52 rfl ?_
      refine Rn.bipush (v := (nI 10)) dX10_holdsLine_54 rfl ?_
      refine Rn.icmp_gtN dX10_holdsLine_56 97 (fun _ => ?_) (fun h9 => by exfalso; omega)
      refine Rn.iload dX10_holdsLine_97 rfl ?_
      refine Rn.bipush (v := (nI 14)) dX10_holdsLine_99 rfl ?_
      refine Rn.icmp_neN dX10_holdsLine_101 127 (fun h9 => by exfalso; omega) (fun _ => ?_)
      refine Rn.aload_n dX10_holdsLine_104 rfl rfl ?_
      refine Rn.getR dX10_holdsLine_105 fd_X10_39_9 (by first | rfl | exact gC0 (by assumption) | exact gL0 (by assumption)) rfl ?_
      refine Rn.iload dX10_holdsLine_108 rfl ?_
      refine Rn.iconst (v := (nI 1)) dX10_holdsLine_110 rfl ?_
      refine Rn.isub dX10_holdsLine_111 ?_
      refine Rn.topI (nI r.length) (by exact pk_sub (by simp)) ?_
      refine Rn.iconst (v := (nI 1)) dX10_holdsLine_112 rfl ?_
      refine Rn.aload_n dX10_holdsLine_113 rfl rfl ?_
      refine Rn.getR dX10_holdsLine_114 fd_X10_39_9 (by first | rfl | exact gC0 (by assumption) | exact gL0 (by assumption)) rfl ?_
      refine Rn.iload dX10_holdsLine_117 rfl ?_
      refine Rn.iconst (v := (nI 1)) dX10_holdsLine_119 rfl ?_
      refine Rn.isub dX10_holdsLine_120 ?_
      refine Rn.topI (nI r.length) (by exact pk_sub (by simp)) ?_
      refine Rn.ialdN dX10_holdsLine_121 (by first | rfl | exact gC1 (by assumption) | exact gC2 (by assumption) | exact gC3 (by assumption) | exact gL1 (by assumption) | exact gL2 (by assumption) | exact gL3 (by assumption) | exact gL4 (by assumption) | exact gL5 (by assumption) | exact gL6 (by assumption)) ?_
      refine Rn.topI (x) (by exact hx) ?_
      refine Rn.isub dX10_holdsLine_122 ?_
      refine Rn.iastN dX10_holdsLine_123 (by first | rfl | exact gC1 (by assumption) | exact gC2 (by assumption) | exact gC3 (by assumption) | exact gL1 (by assumption) | exact gL2 (by assumption) | exact gL3 (by assumption) | exact gL4 (by assumption) | exact gL5 (by assumption) | exact gL6 (by assumption)) ?_
      refine Rn.goto 267 dX10_holdsLine_124 (by decide) ?_
      refine Rn.iincN dX10_holdsLine_267 rfl (by decide) ?_
      refine Rn.goto 23 dX10_holdsLine_270 (by decide) ?_
      refine Rn.hpp _ (zup_zset _ _ _ _ _) (ih (i + 1) ((nI 1 - x) :: r) _ _ _ _ _ (by omega) h3 (by simp only [List.length_cons]; omega) (hasSt_push (hasSt_pop hg) _) ?_)
      rw [← hF]
      show _ = evN (I 95) w t s op n (i + 1) (stN (I 95) w t s (op i) (I 95 (426 + 2 * i + 1)) (x :: r))
      simp [stN, h1]
    · obtain ⟨y, x, r, rfl⟩ : ∃ y x r, st = y :: x :: r := by
        cases st with
        | nil => simp at h2
        | cons y q => cases q with
          | nil => simp at h2
          | cons x r => exact ⟨y, x, r, rfl⟩
      have hy : g (r.length + 1) = y := hasSt_top hg
      have hx : g r.length = x := hasSt_top (hasSt_pop hg)
      have hr : r.length + 1 < 400 := by simp only [List.length_cons] at hst; omega
      have fin : ∀ (v : Int32) (z8 z9 z10 z11 : Option Value), binN (op i) x y = v → Rn G GAM mX10_holdsLine kx (d + 3) b 23 [some (.ref 94), some (.int (nI ln)), some (.int (nI w)), some (.int (nI t)), some (.int (nI s)), some (.int (nI (r.length + 1))), some (.int (nI (378 + 4 * ln))), some (.int (nI (i + 1))), z8, z9, z10, z11] [] (zup (zset I 102 g) 102 r.length v) := by
        intro v z8 z9 z10 z11 hv
        refine Rn.hpp _ (zup_zset _ _ _ _ _) (ih (i + 1) (v :: r) _ _ _ _ _ (by omega) h3 (by simp only [List.length_cons]; omega) (hasSt_push (hasSt_pop (hasSt_pop hg)) _) ?_)
        rw [← hF]
        show _ = evN (I 95) w t s op n (i + 1) (stN (I 95) w t s (op i) (I 95 (426 + 2 * i + 1)) (y :: x :: r))
        have e1 : ¬ op i ≤ 10 := by omega
        have e2 : ¬ op i = 14 := by omega
        simp only [stN, if_neg e1, if_neg e2, hv]
      rcases h1 with h1 | h1 | h1 | h1 | h1 <;> rw [h1] at fin ⊢
      · refine Rn.istore dX10_holdsLine_50 (by decide) ?_
        refine Rn.iload dX10_holdsLine_52 rfl ?_
        refine Rn.bipush (v := (nI 10)) dX10_holdsLine_54 rfl ?_
        refine Rn.icmp_gtN dX10_holdsLine_56 97 (fun _ => ?_) (fun h9 => by exfalso; omega)
        refine Rn.iload dX10_holdsLine_97 rfl ?_
        refine Rn.bipush (v := (nI 14)) dX10_holdsLine_99 rfl ?_
        refine Rn.icmp_neN dX10_holdsLine_101 127 (fun _ => ?_) (fun h9 => by exfalso; omega)
        refine Rn.iinc (v := nI (r.length + 1)) dX10_holdsLine_127 rfl (by exact pk_m1 _) (by decide) ?_
        refine Rn.aload_n dX10_holdsLine_130 rfl rfl ?_
        refine Rn.getR dX10_holdsLine_131 fd_X10_39_9 (by first | rfl | exact gC0 (by assumption) | exact gL0 (by assumption)) rfl ?_
        refine Rn.iload dX10_holdsLine_134 rfl ?_
        refine Rn.iconst (v := (nI 1)) dX10_holdsLine_136 rfl ?_
        refine Rn.isub dX10_holdsLine_137 ?_
        refine Rn.topI (nI r.length) (by exact pk_sub (by simp)) ?_
        refine Rn.ialdN dX10_holdsLine_138 (by first | rfl | exact gC1 (by assumption) | exact gC2 (by assumption) | exact gC3 (by assumption) | exact gL1 (by assumption) | exact gL2 (by assumption) | exact gL3 (by assumption) | exact gL4 (by assumption) | exact gL5 (by assumption) | exact gL6 (by assumption)) ?_
        refine Rn.topI (x) (by exact hx) ?_
        refine Rn.istore dX10_holdsLine_139 (by decide) ?_
        refine Rn.aload_n dX10_holdsLine_141 rfl rfl ?_
        refine Rn.getR dX10_holdsLine_142 fd_X10_39_9 (by first | rfl | exact gC0 (by assumption) | exact gL0 (by assumption)) rfl ?_
        refine Rn.iload dX10_holdsLine_145 rfl ?_
        refine Rn.ialdN dX10_holdsLine_147 (by first | rfl | exact gC1 (by assumption) | exact gC2 (by assumption) | exact gC3 (by assumption) | exact gL1 (by assumption) | exact gL2 (by assumption) | exact gL3 (by assumption) | exact gL4 (by assumption) | exact gL5 (by assumption) | exact gL6 (by assumption)) ?_
        refine Rn.topI (y) (by exact hy) ?_
        refine Rn.istore dX10_holdsLine_148 (by decide) ?_
        refine Rn.iload dX10_holdsLine_150 rfl ?_
        refine Rn.bipush (v := (nI 12)) dX10_holdsLine_152 rfl ?_
        refine Rn.icmp_neN dX10_holdsLine_154 172 (fun _ => ?_) (fun h9 => by exfalso; omega)
        refine Rn.iload dX10_holdsLine_172 rfl ?_
        refine Rn.bipush (v := (nI 13)) dX10_holdsLine_174 rfl ?_
        refine Rn.icmp_neN dX10_holdsLine_176 194 (fun _ => ?_) (fun h9 => by exfalso; omega)
        refine Rn.iload dX10_holdsLine_194 rfl ?_
        refine Rn.bipush (v := (nI 15)) dX10_holdsLine_196 rfl ?_
        refine Rn.icmp_neN dX10_holdsLine_198 218 (fun _ => ?_) (fun h9 => by exfalso; omega)
        refine Rn.iload dX10_holdsLine_218 rfl ?_
        refine Rn.iload dX10_holdsLine_220 rfl ?_
        refine Rn.iadd dX10_holdsLine_222 ?_
        refine Rn.if_le (tgt := 230) dX10_holdsLine_223 (by decide) (fun h4 => ?_) (fun h4 => ?_)
        · refine Rn.iconst (v := (nI 0)) dX10_holdsLine_230 rfl ?_
          refine Rn.istore dX10_holdsLine_231 (by decide) ?_
          refine Rn.aload_n dX10_holdsLine_233 rfl rfl ?_
          refine Rn.getR dX10_holdsLine_234 fd_X10_39_9 (by first | rfl | exact gC0 (by assumption) | exact gL0 (by assumption)) rfl ?_
          refine Rn.iload dX10_holdsLine_237 rfl ?_
          refine Rn.iconst (v := (nI 1)) dX10_holdsLine_239 rfl ?_
          refine Rn.isub dX10_holdsLine_240 ?_
          refine Rn.topI (nI r.length) (by exact pk_sub (by simp)) ?_
          refine Rn.iload dX10_holdsLine_241 rfl ?_
          refine Rn.bipush (v := (nI 11)) dX10_holdsLine_243 rfl ?_
          refine Rn.icmp_neN dX10_holdsLine_245 256 (fun h9 => by exfalso; omega) (fun _ => ?_)
          refine Rn.iload dX10_holdsLine_248 rfl ?_
          refine Rn.iload dX10_holdsLine_250 rfl ?_
          refine Rn.iadd dX10_holdsLine_252 ?_
          refine Rn.goto 266 dX10_holdsLine_253 (by decide) ?_
          refine Rn.iastN dX10_holdsLine_266 (by first | rfl | exact gC1 (by assumption) | exact gC2 (by assumption) | exact gC3 (by assumption) | exact gL1 (by assumption) | exact gL2 (by assumption) | exact gL3 (by assumption) | exact gL4 (by assumption) | exact gL5 (by assumption) | exact gL6 (by assumption)) ?_
          refine Rn.iincN dX10_holdsLine_267 rfl (by decide) ?_
          refine Rn.goto 23 dX10_holdsLine_270 (by decide) ?_
          exact fin _ _ _ _ _ (by simp [binN])
        · refine Rn.iconst (v := (nI 1)) dX10_holdsLine_226 rfl ?_
          refine Rn.goto 231 dX10_holdsLine_227 (by decide) ?_
          refine Rn.istore dX10_holdsLine_231 (by decide) ?_
          refine Rn.aload_n dX10_holdsLine_233 rfl rfl ?_
          refine Rn.getR dX10_holdsLine_234 fd_X10_39_9 (by first | rfl | exact gC0 (by assumption) | exact gL0 (by assumption)) rfl ?_
          refine Rn.iload dX10_holdsLine_237 rfl ?_
          refine Rn.iconst (v := (nI 1)) dX10_holdsLine_239 rfl ?_
          refine Rn.isub dX10_holdsLine_240 ?_
          refine Rn.topI (nI r.length) (by exact pk_sub (by simp)) ?_
          refine Rn.iload dX10_holdsLine_241 rfl ?_
          refine Rn.bipush (v := (nI 11)) dX10_holdsLine_243 rfl ?_
          refine Rn.icmp_neN dX10_holdsLine_245 256 (fun h9 => by exfalso; omega) (fun _ => ?_)
          refine Rn.iload dX10_holdsLine_248 rfl ?_
          refine Rn.iload dX10_holdsLine_250 rfl ?_
          refine Rn.iadd dX10_holdsLine_252 ?_
          refine Rn.goto 266 dX10_holdsLine_253 (by decide) ?_
          refine Rn.iastN dX10_holdsLine_266 (by first | rfl | exact gC1 (by assumption) | exact gC2 (by assumption) | exact gC3 (by assumption) | exact gL1 (by assumption) | exact gL2 (by assumption) | exact gL3 (by assumption) | exact gL4 (by assumption) | exact gL5 (by assumption) | exact gL6 (by assumption)) ?_
          refine Rn.iincN dX10_holdsLine_267 rfl (by decide) ?_
          refine Rn.goto 23 dX10_holdsLine_270 (by decide) ?_
          exact fin _ _ _ _ _ (by simp [binN])
      · refine Rn.istore dX10_holdsLine_50 (by decide) ?_
        refine Rn.iload dX10_holdsLine_52 rfl ?_
        refine Rn.bipush (v := (nI 10)) dX10_holdsLine_54 rfl ?_
        refine Rn.icmp_gtN dX10_holdsLine_56 97 (fun _ => ?_) (fun h9 => by exfalso; omega)
        refine Rn.iload dX10_holdsLine_97 rfl ?_
        refine Rn.bipush (v := (nI 14)) dX10_holdsLine_99 rfl ?_
        refine Rn.icmp_neN dX10_holdsLine_101 127 (fun _ => ?_) (fun h9 => by exfalso; omega)
        refine Rn.iinc (v := nI (r.length + 1)) dX10_holdsLine_127 rfl (by exact pk_m1 _) (by decide) ?_
        refine Rn.aload_n dX10_holdsLine_130 rfl rfl ?_
        refine Rn.getR dX10_holdsLine_131 fd_X10_39_9 (by first | rfl | exact gC0 (by assumption) | exact gL0 (by assumption)) rfl ?_
        refine Rn.iload dX10_holdsLine_134 rfl ?_
        refine Rn.iconst (v := (nI 1)) dX10_holdsLine_136 rfl ?_
        refine Rn.isub dX10_holdsLine_137 ?_
        refine Rn.topI (nI r.length) (by exact pk_sub (by simp)) ?_
        refine Rn.ialdN dX10_holdsLine_138 (by first | rfl | exact gC1 (by assumption) | exact gC2 (by assumption) | exact gC3 (by assumption) | exact gL1 (by assumption) | exact gL2 (by assumption) | exact gL3 (by assumption) | exact gL4 (by assumption) | exact gL5 (by assumption) | exact gL6 (by assumption)) ?_
        refine Rn.topI (x) (by exact hx) ?_
        refine Rn.istore dX10_holdsLine_139 (by decide) ?_
        refine Rn.aload_n dX10_holdsLine_141 rfl rfl ?_
        refine Rn.getR dX10_holdsLine_142 fd_X10_39_9 (by first | rfl | exact gC0 (by assumption) | exact gL0 (by assumption)) rfl ?_
        refine Rn.iload dX10_holdsLine_145 rfl ?_
        refine Rn.ialdN dX10_holdsLine_147 (by first | rfl | exact gC1 (by assumption) | exact gC2 (by assumption) | exact gC3 (by assumption) | exact gL1 (by assumption) | exact gL2 (by assumption) | exact gL3 (by assumption) | exact gL4 (by assumption) | exact gL5 (by assumption) | exact gL6 (by assumption)) ?_
        refine Rn.topI (y) (by exact hy) ?_
        refine Rn.istore dX10_holdsLine_148 (by decide) ?_
        refine Rn.iload dX10_holdsLine_150 rfl ?_
        refine Rn.bipush (v := (nI 12)) dX10_holdsLine_152 rfl ?_
        refine Rn.icmp_neN dX10_holdsLine_154 172 (fun h9 => by exfalso; omega) (fun _ => ?_)
        refine Rn.iload dX10_holdsLine_157 rfl ?_
        refine Rn.iload dX10_holdsLine_159 rfl ?_
        refine Rn.icmp_ge (tgt := 168) dX10_holdsLine_161 (by decide) (fun h4 => ?_) (fun h4 => ?_)
        · refine Rn.iconst (v := (nI 0)) dX10_holdsLine_168 rfl ?_
          refine Rn.goto 231 dX10_holdsLine_169 (by decide) ?_
          refine Rn.istore dX10_holdsLine_231 (by decide) ?_
          refine Rn.aload_n dX10_holdsLine_233 rfl rfl ?_
          refine Rn.getR dX10_holdsLine_234 fd_X10_39_9 (by first | rfl | exact gC0 (by assumption) | exact gL0 (by assumption)) rfl ?_
          refine Rn.iload dX10_holdsLine_237 rfl ?_
          refine Rn.iconst (v := (nI 1)) dX10_holdsLine_239 rfl ?_
          refine Rn.isub dX10_holdsLine_240 ?_
          refine Rn.topI (nI r.length) (by exact pk_sub (by simp)) ?_
          refine Rn.iload dX10_holdsLine_241 rfl ?_
          refine Rn.bipush (v := (nI 11)) dX10_holdsLine_243 rfl ?_
          refine Rn.icmp_neN dX10_holdsLine_245 256 (fun _ => ?_) (fun h9 => by exfalso; omega)
          refine Rn.iload dX10_holdsLine_256 rfl ?_
          refine Rn.if_eqN dX10_holdsLine_258 265 (fun _ => ?_) (fun h9 => by exfalso; omega)
          refine Rn.iconst (v := (nI 0)) dX10_holdsLine_265 rfl ?_
          refine Rn.iastN dX10_holdsLine_266 (by first | rfl | exact gC1 (by assumption) | exact gC2 (by assumption) | exact gC3 (by assumption) | exact gL1 (by assumption) | exact gL2 (by assumption) | exact gL3 (by assumption) | exact gL4 (by assumption) | exact gL5 (by assumption) | exact gL6 (by assumption)) ?_
          refine Rn.iincN dX10_holdsLine_267 rfl (by decide) ?_
          refine Rn.goto 23 dX10_holdsLine_270 (by decide) ?_
          exact fin _ _ _ _ _ (by simp only [binN]; exact bI_f (Int32.not_lt.mpr h4))
        · refine Rn.iconst (v := (nI 1)) dX10_holdsLine_164 rfl ?_
          refine Rn.goto 231 dX10_holdsLine_165 (by decide) ?_
          refine Rn.istore dX10_holdsLine_231 (by decide) ?_
          refine Rn.aload_n dX10_holdsLine_233 rfl rfl ?_
          refine Rn.getR dX10_holdsLine_234 fd_X10_39_9 (by first | rfl | exact gC0 (by assumption) | exact gL0 (by assumption)) rfl ?_
          refine Rn.iload dX10_holdsLine_237 rfl ?_
          refine Rn.iconst (v := (nI 1)) dX10_holdsLine_239 rfl ?_
          refine Rn.isub dX10_holdsLine_240 ?_
          refine Rn.topI (nI r.length) (by exact pk_sub (by simp)) ?_
          refine Rn.iload dX10_holdsLine_241 rfl ?_
          refine Rn.bipush (v := (nI 11)) dX10_holdsLine_243 rfl ?_
          refine Rn.icmp_neN dX10_holdsLine_245 256 (fun _ => ?_) (fun h9 => by exfalso; omega)
          refine Rn.iload dX10_holdsLine_256 rfl ?_
          refine Rn.if_eqN dX10_holdsLine_258 265 (fun h9 => by exfalso; omega) (fun _ => ?_)
          refine Rn.iconst (v := (nI 1)) dX10_holdsLine_261 rfl ?_
          refine Rn.goto 266 dX10_holdsLine_262 (by decide) ?_
          refine Rn.iastN dX10_holdsLine_266 (by first | rfl | exact gC1 (by assumption) | exact gC2 (by assumption) | exact gC3 (by assumption) | exact gL1 (by assumption) | exact gL2 (by assumption) | exact gL3 (by assumption) | exact gL4 (by assumption) | exact gL5 (by assumption) | exact gL6 (by assumption)) ?_
          refine Rn.iincN dX10_holdsLine_267 rfl (by decide) ?_
          refine Rn.goto 23 dX10_holdsLine_270 (by decide) ?_
          exact fin _ _ _ _ _ (by simp only [binN]; exact bI_t (Int32.not_le.mp h4))
      · refine Rn.istore dX10_holdsLine_50 (by decide) ?_
        refine Rn.iload dX10_holdsLine_52 rfl ?_
        refine Rn.bipush (v := (nI 10)) dX10_holdsLine_54 rfl ?_
        refine Rn.icmp_gtN dX10_holdsLine_56 97 (fun _ => ?_) (fun h9 => by exfalso; omega)
        refine Rn.iload dX10_holdsLine_97 rfl ?_
        refine Rn.bipush (v := (nI 14)) dX10_holdsLine_99 rfl ?_
        refine Rn.icmp_neN dX10_holdsLine_101 127 (fun _ => ?_) (fun h9 => by exfalso; omega)
        refine Rn.iinc (v := nI (r.length + 1)) dX10_holdsLine_127 rfl (by exact pk_m1 _) (by decide) ?_
        refine Rn.aload_n dX10_holdsLine_130 rfl rfl ?_
        refine Rn.getR dX10_holdsLine_131 fd_X10_39_9 (by first | rfl | exact gC0 (by assumption) | exact gL0 (by assumption)) rfl ?_
        refine Rn.iload dX10_holdsLine_134 rfl ?_
        refine Rn.iconst (v := (nI 1)) dX10_holdsLine_136 rfl ?_
        refine Rn.isub dX10_holdsLine_137 ?_
        refine Rn.topI (nI r.length) (by exact pk_sub (by simp)) ?_
        refine Rn.ialdN dX10_holdsLine_138 (by first | rfl | exact gC1 (by assumption) | exact gC2 (by assumption) | exact gC3 (by assumption) | exact gL1 (by assumption) | exact gL2 (by assumption) | exact gL3 (by assumption) | exact gL4 (by assumption) | exact gL5 (by assumption) | exact gL6 (by assumption)) ?_
        refine Rn.topI (x) (by exact hx) ?_
        refine Rn.istore dX10_holdsLine_139 (by decide) ?_
        refine Rn.aload_n dX10_holdsLine_141 rfl rfl ?_
        refine Rn.getR dX10_holdsLine_142 fd_X10_39_9 (by first | rfl | exact gC0 (by assumption) | exact gL0 (by assumption)) rfl ?_
        refine Rn.iload dX10_holdsLine_145 rfl ?_
        refine Rn.ialdN dX10_holdsLine_147 (by first | rfl | exact gC1 (by assumption) | exact gC2 (by assumption) | exact gC3 (by assumption) | exact gL1 (by assumption) | exact gL2 (by assumption) | exact gL3 (by assumption) | exact gL4 (by assumption) | exact gL5 (by assumption) | exact gL6 (by assumption)) ?_
        refine Rn.topI (y) (by exact hy) ?_
        refine Rn.istore dX10_holdsLine_148 (by decide) ?_
        refine Rn.iload dX10_holdsLine_150 rfl ?_
        refine Rn.bipush (v := (nI 12)) dX10_holdsLine_152 rfl ?_
        refine Rn.icmp_neN dX10_holdsLine_154 172 (fun _ => ?_) (fun h9 => by exfalso; omega)
        refine Rn.iload dX10_holdsLine_172 rfl ?_
        refine Rn.bipush (v := (nI 13)) dX10_holdsLine_174 rfl ?_
        refine Rn.icmp_neN dX10_holdsLine_176 194 (fun h9 => by exfalso; omega) (fun _ => ?_)
        refine Rn.iload dX10_holdsLine_179 rfl ?_
        refine Rn.iload dX10_holdsLine_181 rfl ?_
        refine Rn.icmp_le (tgt := 190) dX10_holdsLine_183 (by decide) (fun h4 => ?_) (fun h4 => ?_)
        · refine Rn.iconst (v := (nI 0)) dX10_holdsLine_190 rfl ?_
          refine Rn.goto 231 dX10_holdsLine_191 (by decide) ?_
          refine Rn.istore dX10_holdsLine_231 (by decide) ?_
          refine Rn.aload_n dX10_holdsLine_233 rfl rfl ?_
          refine Rn.getR dX10_holdsLine_234 fd_X10_39_9 (by first | rfl | exact gC0 (by assumption) | exact gL0 (by assumption)) rfl ?_
          refine Rn.iload dX10_holdsLine_237 rfl ?_
          refine Rn.iconst (v := (nI 1)) dX10_holdsLine_239 rfl ?_
          refine Rn.isub dX10_holdsLine_240 ?_
          refine Rn.topI (nI r.length) (by exact pk_sub (by simp)) ?_
          refine Rn.iload dX10_holdsLine_241 rfl ?_
          refine Rn.bipush (v := (nI 11)) dX10_holdsLine_243 rfl ?_
          refine Rn.icmp_neN dX10_holdsLine_245 256 (fun _ => ?_) (fun h9 => by exfalso; omega)
          refine Rn.iload dX10_holdsLine_256 rfl ?_
          refine Rn.if_eqN dX10_holdsLine_258 265 (fun _ => ?_) (fun h9 => by exfalso; omega)
          refine Rn.iconst (v := (nI 0)) dX10_holdsLine_265 rfl ?_
          refine Rn.iastN dX10_holdsLine_266 (by first | rfl | exact gC1 (by assumption) | exact gC2 (by assumption) | exact gC3 (by assumption) | exact gL1 (by assumption) | exact gL2 (by assumption) | exact gL3 (by assumption) | exact gL4 (by assumption) | exact gL5 (by assumption) | exact gL6 (by assumption)) ?_
          refine Rn.iincN dX10_holdsLine_267 rfl (by decide) ?_
          refine Rn.goto 23 dX10_holdsLine_270 (by decide) ?_
          exact fin _ _ _ _ _ (by simp only [binN]; exact bI_f (Int32.not_lt.mpr h4))
        · refine Rn.iconst (v := (nI 1)) dX10_holdsLine_186 rfl ?_
          refine Rn.goto 231 dX10_holdsLine_187 (by decide) ?_
          refine Rn.istore dX10_holdsLine_231 (by decide) ?_
          refine Rn.aload_n dX10_holdsLine_233 rfl rfl ?_
          refine Rn.getR dX10_holdsLine_234 fd_X10_39_9 (by first | rfl | exact gC0 (by assumption) | exact gL0 (by assumption)) rfl ?_
          refine Rn.iload dX10_holdsLine_237 rfl ?_
          refine Rn.iconst (v := (nI 1)) dX10_holdsLine_239 rfl ?_
          refine Rn.isub dX10_holdsLine_240 ?_
          refine Rn.topI (nI r.length) (by exact pk_sub (by simp)) ?_
          refine Rn.iload dX10_holdsLine_241 rfl ?_
          refine Rn.bipush (v := (nI 11)) dX10_holdsLine_243 rfl ?_
          refine Rn.icmp_neN dX10_holdsLine_245 256 (fun _ => ?_) (fun h9 => by exfalso; omega)
          refine Rn.iload dX10_holdsLine_256 rfl ?_
          refine Rn.if_eqN dX10_holdsLine_258 265 (fun h9 => by exfalso; omega) (fun _ => ?_)
          refine Rn.iconst (v := (nI 1)) dX10_holdsLine_261 rfl ?_
          refine Rn.goto 266 dX10_holdsLine_262 (by decide) ?_
          refine Rn.iastN dX10_holdsLine_266 (by first | rfl | exact gC1 (by assumption) | exact gC2 (by assumption) | exact gC3 (by assumption) | exact gL1 (by assumption) | exact gL2 (by assumption) | exact gL3 (by assumption) | exact gL4 (by assumption) | exact gL5 (by assumption) | exact gL6 (by assumption)) ?_
          refine Rn.iincN dX10_holdsLine_267 rfl (by decide) ?_
          refine Rn.goto 23 dX10_holdsLine_270 (by decide) ?_
          exact fin _ _ _ _ _ (by simp only [binN]; exact bI_t (Int32.not_le.mp h4))
      · refine Rn.istore dX10_holdsLine_50 (by decide) ?_
        refine Rn.iload dX10_holdsLine_52 rfl ?_
        refine Rn.bipush (v := (nI 10)) dX10_holdsLine_54 rfl ?_
        refine Rn.icmp_gtN dX10_holdsLine_56 97 (fun _ => ?_) (fun h9 => by exfalso; omega)
        refine Rn.iload dX10_holdsLine_97 rfl ?_
        refine Rn.bipush (v := (nI 14)) dX10_holdsLine_99 rfl ?_
        refine Rn.icmp_neN dX10_holdsLine_101 127 (fun _ => ?_) (fun h9 => by exfalso; omega)
        refine Rn.iinc (v := nI (r.length + 1)) dX10_holdsLine_127 rfl (by exact pk_m1 _) (by decide) ?_
        refine Rn.aload_n dX10_holdsLine_130 rfl rfl ?_
        refine Rn.getR dX10_holdsLine_131 fd_X10_39_9 (by first | rfl | exact gC0 (by assumption) | exact gL0 (by assumption)) rfl ?_
        refine Rn.iload dX10_holdsLine_134 rfl ?_
        refine Rn.iconst (v := (nI 1)) dX10_holdsLine_136 rfl ?_
        refine Rn.isub dX10_holdsLine_137 ?_
        refine Rn.topI (nI r.length) (by exact pk_sub (by simp)) ?_
        refine Rn.ialdN dX10_holdsLine_138 (by first | rfl | exact gC1 (by assumption) | exact gC2 (by assumption) | exact gC3 (by assumption) | exact gL1 (by assumption) | exact gL2 (by assumption) | exact gL3 (by assumption) | exact gL4 (by assumption) | exact gL5 (by assumption) | exact gL6 (by assumption)) ?_
        refine Rn.topI (x) (by exact hx) ?_
        refine Rn.istore dX10_holdsLine_139 (by decide) ?_
        refine Rn.aload_n dX10_holdsLine_141 rfl rfl ?_
        refine Rn.getR dX10_holdsLine_142 fd_X10_39_9 (by first | rfl | exact gC0 (by assumption) | exact gL0 (by assumption)) rfl ?_
        refine Rn.iload dX10_holdsLine_145 rfl ?_
        refine Rn.ialdN dX10_holdsLine_147 (by first | rfl | exact gC1 (by assumption) | exact gC2 (by assumption) | exact gC3 (by assumption) | exact gL1 (by assumption) | exact gL2 (by assumption) | exact gL3 (by assumption) | exact gL4 (by assumption) | exact gL5 (by assumption) | exact gL6 (by assumption)) ?_
        refine Rn.topI (y) (by exact hy) ?_
        refine Rn.istore dX10_holdsLine_148 (by decide) ?_
        refine Rn.iload dX10_holdsLine_150 rfl ?_
        refine Rn.bipush (v := (nI 12)) dX10_holdsLine_152 rfl ?_
        refine Rn.icmp_neN dX10_holdsLine_154 172 (fun _ => ?_) (fun h9 => by exfalso; omega)
        refine Rn.iload dX10_holdsLine_172 rfl ?_
        refine Rn.bipush (v := (nI 13)) dX10_holdsLine_174 rfl ?_
        refine Rn.icmp_neN dX10_holdsLine_176 194 (fun _ => ?_) (fun h9 => by exfalso; omega)
        refine Rn.iload dX10_holdsLine_194 rfl ?_
        refine Rn.bipush (v := (nI 15)) dX10_holdsLine_196 rfl ?_
        refine Rn.icmp_neN dX10_holdsLine_198 218 (fun h9 => by exfalso; omega) (fun _ => ?_)
        refine Rn.iload dX10_holdsLine_201 rfl ?_
        refine Rn.iload dX10_holdsLine_203 rfl ?_
        refine Rn.iadd dX10_holdsLine_205 ?_
        refine Rn.iconst (v := (nI 2)) dX10_holdsLine_206 rfl ?_
        refine Rn.icmp_ne (tgt := 214) dX10_holdsLine_207 (by decide) (fun h4 => ?_) (fun h4 => ?_)
        · refine Rn.iconst (v := (nI 0)) dX10_holdsLine_214 rfl ?_
          refine Rn.goto 231 dX10_holdsLine_215 (by decide) ?_
          refine Rn.istore dX10_holdsLine_231 (by decide) ?_
          refine Rn.aload_n dX10_holdsLine_233 rfl rfl ?_
          refine Rn.getR dX10_holdsLine_234 fd_X10_39_9 (by first | rfl | exact gC0 (by assumption) | exact gL0 (by assumption)) rfl ?_
          refine Rn.iload dX10_holdsLine_237 rfl ?_
          refine Rn.iconst (v := (nI 1)) dX10_holdsLine_239 rfl ?_
          refine Rn.isub dX10_holdsLine_240 ?_
          refine Rn.topI (nI r.length) (by exact pk_sub (by simp)) ?_
          refine Rn.iload dX10_holdsLine_241 rfl ?_
          refine Rn.bipush (v := (nI 11)) dX10_holdsLine_243 rfl ?_
          refine Rn.icmp_neN dX10_holdsLine_245 256 (fun _ => ?_) (fun h9 => by exfalso; omega)
          refine Rn.iload dX10_holdsLine_256 rfl ?_
          refine Rn.if_eqN dX10_holdsLine_258 265 (fun _ => ?_) (fun h9 => by exfalso; omega)
          refine Rn.iconst (v := (nI 0)) dX10_holdsLine_265 rfl ?_
          refine Rn.iastN dX10_holdsLine_266 (by first | rfl | exact gC1 (by assumption) | exact gC2 (by assumption) | exact gC3 (by assumption) | exact gL1 (by assumption) | exact gL2 (by assumption) | exact gL3 (by assumption) | exact gL4 (by assumption) | exact gL5 (by assumption) | exact gL6 (by assumption)) ?_
          refine Rn.iincN dX10_holdsLine_267 rfl (by decide) ?_
          refine Rn.goto 23 dX10_holdsLine_270 (by decide) ?_
          exact fin _ _ _ _ _ (by simp only [binN]; exact bI_f h4)
        · refine Rn.iconst (v := (nI 1)) dX10_holdsLine_210 rfl ?_
          refine Rn.goto 231 dX10_holdsLine_211 (by decide) ?_
          refine Rn.istore dX10_holdsLine_231 (by decide) ?_
          refine Rn.aload_n dX10_holdsLine_233 rfl rfl ?_
          refine Rn.getR dX10_holdsLine_234 fd_X10_39_9 (by first | rfl | exact gC0 (by assumption) | exact gL0 (by assumption)) rfl ?_
          refine Rn.iload dX10_holdsLine_237 rfl ?_
          refine Rn.iconst (v := (nI 1)) dX10_holdsLine_239 rfl ?_
          refine Rn.isub dX10_holdsLine_240 ?_
          refine Rn.topI (nI r.length) (by exact pk_sub (by simp)) ?_
          refine Rn.iload dX10_holdsLine_241 rfl ?_
          refine Rn.bipush (v := (nI 11)) dX10_holdsLine_243 rfl ?_
          refine Rn.icmp_neN dX10_holdsLine_245 256 (fun _ => ?_) (fun h9 => by exfalso; omega)
          refine Rn.iload dX10_holdsLine_256 rfl ?_
          refine Rn.if_eqN dX10_holdsLine_258 265 (fun h9 => by exfalso; omega) (fun _ => ?_)
          refine Rn.iconst (v := (nI 1)) dX10_holdsLine_261 rfl ?_
          refine Rn.goto 266 dX10_holdsLine_262 (by decide) ?_
          refine Rn.iastN dX10_holdsLine_266 (by first | rfl | exact gC1 (by assumption) | exact gC2 (by assumption) | exact gC3 (by assumption) | exact gL1 (by assumption) | exact gL2 (by assumption) | exact gL3 (by assumption) | exact gL4 (by assumption) | exact gL5 (by assumption) | exact gL6 (by assumption)) ?_
          refine Rn.iincN dX10_holdsLine_267 rfl (by decide) ?_
          refine Rn.goto 23 dX10_holdsLine_270 (by decide) ?_
          exact fin _ _ _ _ _ (by simp only [binN]; exact bI_t h4)
      · refine Rn.istore dX10_holdsLine_50 (by decide) ?_
        refine Rn.iload dX10_holdsLine_52 rfl ?_
        refine Rn.bipush (v := (nI 10)) dX10_holdsLine_54 rfl ?_
        refine Rn.icmp_gtN dX10_holdsLine_56 97 (fun _ => ?_) (fun h9 => by exfalso; omega)
        refine Rn.iload dX10_holdsLine_97 rfl ?_
        refine Rn.bipush (v := (nI 14)) dX10_holdsLine_99 rfl ?_
        refine Rn.icmp_neN dX10_holdsLine_101 127 (fun _ => ?_) (fun h9 => by exfalso; omega)
        refine Rn.iinc (v := nI (r.length + 1)) dX10_holdsLine_127 rfl (by exact pk_m1 _) (by decide) ?_
        refine Rn.aload_n dX10_holdsLine_130 rfl rfl ?_
        refine Rn.getR dX10_holdsLine_131 fd_X10_39_9 (by first | rfl | exact gC0 (by assumption) | exact gL0 (by assumption)) rfl ?_
        refine Rn.iload dX10_holdsLine_134 rfl ?_
        refine Rn.iconst (v := (nI 1)) dX10_holdsLine_136 rfl ?_
        refine Rn.isub dX10_holdsLine_137 ?_
        refine Rn.topI (nI r.length) (by exact pk_sub (by simp)) ?_
        refine Rn.ialdN dX10_holdsLine_138 (by first | rfl | exact gC1 (by assumption) | exact gC2 (by assumption) | exact gC3 (by assumption) | exact gL1 (by assumption) | exact gL2 (by assumption) | exact gL3 (by assumption) | exact gL4 (by assumption) | exact gL5 (by assumption) | exact gL6 (by assumption)) ?_
        refine Rn.topI (x) (by exact hx) ?_
        refine Rn.istore dX10_holdsLine_139 (by decide) ?_
        refine Rn.aload_n dX10_holdsLine_141 rfl rfl ?_
        refine Rn.getR dX10_holdsLine_142 fd_X10_39_9 (by first | rfl | exact gC0 (by assumption) | exact gL0 (by assumption)) rfl ?_
        refine Rn.iload dX10_holdsLine_145 rfl ?_
        refine Rn.ialdN dX10_holdsLine_147 (by first | rfl | exact gC1 (by assumption) | exact gC2 (by assumption) | exact gC3 (by assumption) | exact gL1 (by assumption) | exact gL2 (by assumption) | exact gL3 (by assumption) | exact gL4 (by assumption) | exact gL5 (by assumption) | exact gL6 (by assumption)) ?_
        refine Rn.topI (y) (by exact hy) ?_
        refine Rn.istore dX10_holdsLine_148 (by decide) ?_
        refine Rn.iload dX10_holdsLine_150 rfl ?_
        refine Rn.bipush (v := (nI 12)) dX10_holdsLine_152 rfl ?_
        refine Rn.icmp_neN dX10_holdsLine_154 172 (fun _ => ?_) (fun h9 => by exfalso; omega)
        refine Rn.iload dX10_holdsLine_172 rfl ?_
        refine Rn.bipush (v := (nI 13)) dX10_holdsLine_174 rfl ?_
        refine Rn.icmp_neN dX10_holdsLine_176 194 (fun _ => ?_) (fun h9 => by exfalso; omega)
        refine Rn.iload dX10_holdsLine_194 rfl ?_
        refine Rn.bipush (v := (nI 15)) dX10_holdsLine_196 rfl ?_
        refine Rn.icmp_neN dX10_holdsLine_198 218 (fun _ => ?_) (fun h9 => by exfalso; omega)
        refine Rn.iload dX10_holdsLine_218 rfl ?_
        refine Rn.iload dX10_holdsLine_220 rfl ?_
        refine Rn.iadd dX10_holdsLine_222 ?_
        refine Rn.if_le (tgt := 230) dX10_holdsLine_223 (by decide) (fun h4 => ?_) (fun h4 => ?_)
        · refine Rn.iconst (v := (nI 0)) dX10_holdsLine_230 rfl ?_
          refine Rn.istore dX10_holdsLine_231 (by decide) ?_
          refine Rn.aload_n dX10_holdsLine_233 rfl rfl ?_
          refine Rn.getR dX10_holdsLine_234 fd_X10_39_9 (by first | rfl | exact gC0 (by assumption) | exact gL0 (by assumption)) rfl ?_
          refine Rn.iload dX10_holdsLine_237 rfl ?_
          refine Rn.iconst (v := (nI 1)) dX10_holdsLine_239 rfl ?_
          refine Rn.isub dX10_holdsLine_240 ?_
          refine Rn.topI (nI r.length) (by exact pk_sub (by simp)) ?_
          refine Rn.iload dX10_holdsLine_241 rfl ?_
          refine Rn.bipush (v := (nI 11)) dX10_holdsLine_243 rfl ?_
          refine Rn.icmp_neN dX10_holdsLine_245 256 (fun _ => ?_) (fun h9 => by exfalso; omega)
          refine Rn.iload dX10_holdsLine_256 rfl ?_
          refine Rn.if_eqN dX10_holdsLine_258 265 (fun _ => ?_) (fun h9 => by exfalso; omega)
          refine Rn.iconst (v := (nI 0)) dX10_holdsLine_265 rfl ?_
          refine Rn.iastN dX10_holdsLine_266 (by first | rfl | exact gC1 (by assumption) | exact gC2 (by assumption) | exact gC3 (by assumption) | exact gL1 (by assumption) | exact gL2 (by assumption) | exact gL3 (by assumption) | exact gL4 (by assumption) | exact gL5 (by assumption) | exact gL6 (by assumption)) ?_
          refine Rn.iincN dX10_holdsLine_267 rfl (by decide) ?_
          refine Rn.goto 23 dX10_holdsLine_270 (by decide) ?_
          exact fin _ _ _ _ _ (by simp only [binN]; exact bI_f (Int32.not_lt.mpr h4))
        · refine Rn.iconst (v := (nI 1)) dX10_holdsLine_226 rfl ?_
          refine Rn.goto 231 dX10_holdsLine_227 (by decide) ?_
          refine Rn.istore dX10_holdsLine_231 (by decide) ?_
          refine Rn.aload_n dX10_holdsLine_233 rfl rfl ?_
          refine Rn.getR dX10_holdsLine_234 fd_X10_39_9 (by first | rfl | exact gC0 (by assumption) | exact gL0 (by assumption)) rfl ?_
          refine Rn.iload dX10_holdsLine_237 rfl ?_
          refine Rn.iconst (v := (nI 1)) dX10_holdsLine_239 rfl ?_
          refine Rn.isub dX10_holdsLine_240 ?_
          refine Rn.topI (nI r.length) (by exact pk_sub (by simp)) ?_
          refine Rn.iload dX10_holdsLine_241 rfl ?_
          refine Rn.bipush (v := (nI 11)) dX10_holdsLine_243 rfl ?_
          refine Rn.icmp_neN dX10_holdsLine_245 256 (fun _ => ?_) (fun h9 => by exfalso; omega)
          refine Rn.iload dX10_holdsLine_256 rfl ?_
          refine Rn.if_eqN dX10_holdsLine_258 265 (fun h9 => by exfalso; omega) (fun _ => ?_)
          refine Rn.iconst (v := (nI 1)) dX10_holdsLine_261 rfl ?_
          refine Rn.goto 266 dX10_holdsLine_262 (by decide) ?_
          refine Rn.iastN dX10_holdsLine_266 (by first | rfl | exact gC1 (by assumption) | exact gC2 (by assumption) | exact gC3 (by assumption) | exact gL1 (by assumption) | exact gL2 (by assumption) | exact gL3 (by assumption) | exact gL4 (by assumption) | exact gL5 (by assumption) | exact gL6 (by assumption)) ?_
          refine Rn.iincN dX10_holdsLine_267 rfl (by decide) ?_
          refine Rn.goto 23 dX10_holdsLine_270 (by decide) ?_
          exact fin _ _ _ _ _ (by simp only [binN]; exact bI_t (Int32.not_le.mp h4))
theorem ct_holdsLine (ln w t s B E : Nat) (op : Nat → Nat) (hln : ln < 12) (hw : w < 8) (ht : t < 8) (hs : s < 4) (hBE : B ≤ E) (hE : E ≤ 400) (hbeg : I 95 (378 + 4 * ln + 2) = nI B) (hend : I 95 (378 + 4 * ln + 3) = nI E) (hop : ∀ i, i < E → I 95 (426 + 2 * i) = nI (op i)) (hok : okS op (E - B) B 0) :
    Ct G GAM mX10_holdsLine (d + 3) 0 [.ref 94, .int (nI ln), .int (nI w), .int (nI t), .int (nI s)] I (fun o J => o = .inl (some (.int (bI (evN (I 95) w t s op (E - B) B [] = [] ∨ (evN (I 95) w t s op (E - B) B []).getLastD 0 = nI 1)))) ∧ ∃ g, J = zset I 102 g) := by
  refine Ct.mk [some (.ref 94), some (.int (nI ln)), some (.int (nI w)), some (.int (nI t)), some (.int (nI s)), none, none, none, none, none, none, none] ?_
  refine Rn.iconst (v := (nI 0)) dX10_holdsLine_0 rfl ?_
  refine Rn.istore dX10_holdsLine_1 (by decide) ?_
  refine Rn.sipush (v := (nI 378)) dX10_holdsLine_3 rfl ?_
  refine Rn.iconst (v := (nI 4)) dX10_holdsLine_6 rfl ?_
  refine Rn.iload_n dX10_holdsLine_7 rfl rfl ?_
  refine Rn.imul dX10_holdsLine_8 ?_
  refine Rn.iadd dX10_holdsLine_9 ?_
  refine Rn.topI (nI (378 + 4 * ln)) (by simp only [pk_mul, nI_add]) ?_
  refine Rn.istore dX10_holdsLine_10 (by decide) ?_
  refine Rn.aload_n dX10_holdsLine_12 rfl rfl ?_
  refine Rn.getR dX10_holdsLine_13 fd_X10_13_9 (by first | rfl | exact gC0 (by assumption) | exact gL0 (by assumption)) rfl ?_
  refine Rn.iload dX10_holdsLine_16 rfl ?_
  refine Rn.iconst (v := (nI 2)) dX10_holdsLine_18 rfl ?_
  refine Rn.iadd dX10_holdsLine_19 ?_
  refine Rn.topI (nI (378 + 4 * ln + 2)) (by first | rfl | (simp only [nI_add, pk_mul, nI_1]; done) | (simp only [nI_add, pk_mul, nI_1]; congr 1; omega)) ?_
  refine Rn.ialdN dX10_holdsLine_20 (by first | rfl | exact gC1 (by assumption) | exact gC2 (by assumption) | exact gC3 (by assumption) | exact gL1 (by assumption) | exact gL2 (by assumption) | exact gL3 (by assumption) | exact gL4 (by assumption) | exact gL5 (by assumption) | exact gL6 (by assumption)) ?_
  refine Rn.topI (nI B) hbeg ?_
  refine Rn.istore dX10_holdsLine_21 (by decide) ?_
  refine Rn.hpp _ (zset_self I 102).symm (lp_holdsLine G d I ln w t s E op hln hw ht hs hE hend hop _ ?_ (E - B) B [] _ _ _ _ _ (by omega) hok (by simp) (fun j hj => by simp at hj) rfl)
  intro g x8 x9 x10 x11 hg hlen
  generalize evN (I 95) w t s op (E - B) B [] = F at hg hlen ⊢
  cases F with
  | nil =>
    have hl0 : ([] : List Int32).length = 0 := rfl
    refine Rn.iload dX10_holdsLine_273 rfl ?_
    refine Rn.if_eqN dX10_holdsLine_275 288 (fun _ => ?_) (fun h9 => by exfalso; omega)
    refine Rn.iconst (v := (nI 1)) dX10_holdsLine_288 rfl ?_
    refine Rn.goto 293 dX10_holdsLine_289 (by decide) ?_
    exact Rn.zret dX10_holdsLine_293 rfl rfl (⟨by rw [bI_t (Or.inl rfl)]; rfl, g, rfl⟩)
  | cons y r =>
    have hl1 : (y :: r).length = r.length + 1 := rfl
    have h0 : g 0 = (y :: r).getLastD 0 := hasSt_bot hg (by simp)
    refine Rn.iload dX10_holdsLine_273 rfl ?_
    refine Rn.if_eqN dX10_holdsLine_275 288 (fun h9 => by exfalso; omega) (fun _ => ?_)
    refine Rn.aload_n dX10_holdsLine_278 rfl rfl ?_
    refine Rn.getR dX10_holdsLine_279 fd_X10_39_9 (by first | rfl | exact gC0 (by assumption) | exact gL0 (by assumption)) rfl ?_
    refine Rn.iconst (v := (nI 0)) dX10_holdsLine_282 rfl ?_
    refine Rn.ialdN dX10_holdsLine_283 (by first | rfl | exact gC1 (by assumption) | exact gC2 (by assumption) | exact gC3 (by assumption) | exact gL1 (by assumption) | exact gL2 (by assumption) | exact gL3 (by assumption) | exact gL4 (by assumption) | exact gL5 (by assumption) | exact gL6 (by assumption)) ?_
    refine Rn.topI ((y :: r).getLastD 0) (by exact h0) ?_
    refine Rn.iconst (v := (nI 1)) dX10_holdsLine_284 rfl ?_
    refine Rn.icmp_ne (tgt := 292) dX10_holdsLine_285 (by decide) (fun h1 => ?_) (fun h1 => ?_)
    · refine Rn.iconst (v := (nI 0)) dX10_holdsLine_292 rfl ?_
      exact Rn.zret dX10_holdsLine_293 rfl rfl (⟨by rw [bI_f (fun q => q.elim (fun q => by simp at q) h1)]; rfl, g, rfl⟩)
    · refine Rn.iconst (v := (nI 1)) dX10_holdsLine_288 rfl ?_
      refine Rn.goto 293 dX10_holdsLine_289 (by decide) ?_
      exact Rn.zret dX10_holdsLine_293 rfl rfl (⟨by rw [bI_t (Or.inr h1)]; rfl, g, rfl⟩)
end RefC
