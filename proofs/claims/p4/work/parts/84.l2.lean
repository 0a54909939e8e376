theorem dL_law__1027 : decode cL_law_ 1027 = .ok (.aload_n 1, 1) := by decide +kernel
theorem dL_law__1028 : decode cL_law_ 1028 = .ok (.aload_n 0, 1) := by decide +kernel
theorem dL_law__1029 : decode cL_law_ 1029 = .ok (.iload 4, 2) := by decide +kernel
theorem dL_law__1031 : decode cL_law_ 1031 = .ok (.iconst 1, 1) := by decide +kernel
theorem dL_law__1032 : decode cL_law_ 1032 = .ok (.iadd, 1) := by decide +kernel
theorem dL_law__1033 : decode cL_law_ 1033 = .ok (.iaload, 1) := by decide +kernel
theorem dL_law__1034 : decode cL_law_ 1034 = .ok (.aload_n 3, 1) := by decide +kernel
theorem dL_law__1035 : decode cL_law_ 1035 = .ok (.invokestatic 205, 3) := by decide +kernel
theorem wi_1066 : Cond.codeWith yL_chain cL_chain 4 (some .int) [(0, 9, 12, 24)] ∈ WA := zin 1066 (by decide +kernel) (by decide +kernel)
theorem wi_1064 : Cond.methodLink RL 205 yL_chain ∈ WA := zin 1064 (by decide +kernel) (by decide +kernel)
theorem wi_1065 : Cond.static yL_chain ∈ WA := zin 1065 (by decide +kernel) (by decide +kernel)
theorem mw_L_205 : zMw RL 205 mL_chain [(0, 9, 12, 24)] 3 := ⟨wi_1064, wi_99, wi_1066, by decide, by decide +kernel, wi_1065⟩
theorem dL_law__1038 : decode cL_law_ 1038 = .ok (.istore 5, 2) := by decide +kernel
theorem dL_law__1040 : decode cL_law_ 1040 = .ok (.aload_n 2, 1) := by decide +kernel
theorem dL_law__1041 : decode cL_law_ 1041 = .ok (.aload_n 0, 1) := by decide +kernel
theorem dL_law__1042 : decode cL_law_ 1042 = .ok (.iload 4, 2) := by decide +kernel
theorem dL_law__1044 : decode cL_law_ 1044 = .ok (.iconst 1, 1) := by decide +kernel
theorem dL_law__1045 : decode cL_law_ 1045 = .ok (.iadd, 1) := by decide +kernel
theorem dL_law__1046 : decode cL_law_ 1046 = .ok (.iaload, 1) := by decide +kernel
theorem dL_law__1047 : decode cL_law_ 1047 = .ok (.invokevirtual 207, 3) := by decide +kernel
theorem wi_1797 : Cond.methodLink RL 207 yX10_chain ∈ WA := zin 1797 (by decide +kernel) (by decide +kernel)
theorem wi_1800 : Cond.code yX10_chain cX10_chain 2 (some .int) ∈ WA := zin 1800 (by decide +kernel) (by decide +kernel)
theorem wi_1798 : Cond.instanceMethod yX10_chain ∈ WA := zin 1798 (by decide +kernel) (by decide +kernel)
theorem wi_1799 : Cond.selects RX10 yX10_chain yX10_chain ∈ WA := zin 1799 (by decide +kernel) (by decide +kernel)
theorem mv_L_207 : zMv RL 207 RX10 mX10_chain 1 := ⟨⟨wi_1797, wi_110, wi_1800, by decide, by decide +kernel⟩, wi_1798, wi_1799⟩
theorem dL_law__1050 : decode cL_law_ 1050 = .ok (.istore 6, 2) := by decide +kernel
theorem dL_law__1052 : decode cL_law_ 1052 = .ok (.goto 758, 3) := by decide +kernel
theorem dL_law__1055 : decode cL_law_ 1055 = .ok (.aload_n 1, 1) := by decide +kernel
theorem dL_law__1056 : decode cL_law_ 1056 = .ok (.aload_n 0, 1) := by decide +kernel
theorem dL_law__1057 : decode cL_law_ 1057 = .ok (.iload 4, 2) := by decide +kernel
theorem dL_law__1059 : decode cL_law_ 1059 = .ok (.iconst 1, 1) := by decide +kernel
theorem dL_law__1060 : decode cL_law_ 1060 = .ok (.iadd, 1) := by decide +kernel
theorem dL_law__1061 : decode cL_law_ 1061 = .ok (.iaload, 1) := by decide +kernel
theorem dL_law__1062 : decode cL_law_ 1062 = .ok (.aload_n 0, 1) := by decide +kernel
theorem dL_law__1063 : decode cL_law_ 1063 = .ok (.iload 4, 2) := by decide +kernel
theorem dL_law__1065 : decode cL_law_ 1065 = .ok (.iconst 2, 1) := by decide +kernel
theorem dL_law__1066 : decode cL_law_ 1066 = .ok (.iadd, 1) := by decide +kernel
theorem dL_law__1067 : decode cL_law_ 1067 = .ok (.iaload, 1) := by decide +kernel
theorem dL_law__1068 : decode cL_law_ 1068 = .ok (.aload_n 3, 1) := by decide +kernel
theorem dL_law__1069 : decode cL_law_ 1069 = .ok (.invokestatic 208, 3) := by decide +kernel
theorem wi_1081 : Cond.codeWith yL_since cL_since 5 (some .int) [(0, 10, 13, 24), (0, 10, 17, 13)] ∈ WA := zin 1081 (by decide +kernel) (by decide +kernel)
theorem wi_1079 : Cond.methodLink RL 208 yL_since ∈ WA := zin 1079 (by decide +kernel) (by decide +kernel)
theorem wi_1080 : Cond.static yL_since ∈ WA := zin 1080 (by decide +kernel) (by decide +kernel)
theorem mw_L_208 : zMw RL 208 mL_since [(0, 10, 13, 24), (0, 10, 17, 13)] 4 := ⟨wi_1079, wi_99, wi_1081, by decide, by decide +kernel, wi_1080⟩
theorem dL_law__1072 : decode cL_law_ 1072 = .ok (.istore 5, 2) := by decide +kernel
theorem dL_law__1074 : decode cL_law_ 1074 = .ok (.aload_n 2, 1) := by decide +kernel
theorem dL_law__1075 : decode cL_law_ 1075 = .ok (.aload_n 0, 1) := by decide +kernel
theorem dL_law__1076 : decode cL_law_ 1076 = .ok (.iload 4, 2) := by decide +kernel
theorem dL_law__1078 : decode cL_law_ 1078 = .ok (.iconst 1, 1) := by decide +kernel
theorem dL_law__1079 : decode cL_law_ 1079 = .ok (.iadd, 1) := by decide +kernel
theorem dL_law__1080 : decode cL_law_ 1080 = .ok (.iaload, 1) := by decide +kernel
theorem dL_law__1081 : decode cL_law_ 1081 = .ok (.aload_n 0, 1) := by decide +kernel
theorem dL_law__1082 : decode cL_law_ 1082 = .ok (.iload 4, 2) := by decide +kernel
theorem dL_law__1084 : decode cL_law_ 1084 = .ok (.iconst 2, 1) := by decide +kernel
theorem dL_law__1085 : decode cL_law_ 1085 = .ok (.iadd, 1) := by decide +kernel
theorem dL_law__1086 : decode cL_law_ 1086 = .ok (.iaload, 1) := by decide +kernel
theorem dL_law__1087 : decode cL_law_ 1087 = .ok (.invokevirtual 210, 3) := by decide +kernel
theorem wi_1809 : Cond.methodLink RL 210 yX10_since ∈ WA := zin 1809 (by decide +kernel) (by decide +kernel)
theorem wi_1812 : Cond.code yX10_since cX10_since 5 (some .int) ∈ WA := zin 1812 (by decide +kernel) (by decide +kernel)
theorem wi_1810 : Cond.instanceMethod yX10_since ∈ WA := zin 1810 (by decide +kernel) (by decide +kernel)
theorem wi_1811 : Cond.selects RX10 yX10_since yX10_since ∈ WA := zin 1811 (by decide +kernel) (by decide +kernel)
theorem mv_L_210 : zMv RL 210 RX10 mX10_since 2 := ⟨⟨wi_1809, wi_110, wi_1812, by decide, by decide +kernel⟩, wi_1810, wi_1811⟩
theorem dL_law__1090 : decode cL_law_ 1090 = .ok (.istore 6, 2) := by decide +kernel
theorem dL_law__1092 : decode cL_law_ 1092 = .ok (.goto 718, 3) := by decide +kernel
theorem dL_law__1095 : decode cL_law_ 1095 = .ok (.aload_n 1, 1) := by decide +kernel
theorem dL_law__1096 : decode cL_law_ 1096 = .ok (.aload_n 3, 1) := by decide +kernel
theorem dL_law__1097 : decode cL_law_ 1097 = .ok (.invokestatic 211, 3) := by decide +kernel
theorem wi_1089 : Cond.codeWith yL_whose cL_whose 3 (some .int) [(0, 8, 11, 13)] ∈ WA := zin 1089 (by decide +kernel) (by decide +kernel)
theorem wi_1087 : Cond.methodLink RL 211 yL_whose ∈ WA := zin 1087 (by decide +kernel) (by decide +kernel)
theorem wi_1088 : Cond.static yL_whose ∈ WA := zin 1088 (by decide +kernel) (by decide +kernel)
theorem mw_L_211 : zMw RL 211 mL_whose [(0, 8, 11, 13)] 2 := ⟨wi_1087, wi_99, wi_1089, by decide, by decide +kernel, wi_1088⟩
theorem dL_law__1100 : decode cL_law_ 1100 = .ok (.istore 5, 2) := by decide +kernel
theorem dL_law__1102 : decode cL_law_ 1102 = .ok (.aload_n 2, 1) := by decide +kernel
theorem dL_law__1103 : decode cL_law_ 1103 = .ok (.invokevirtual 213, 3) := by decide +kernel
theorem wi_1813 : Cond.methodLink RL 213 yX10_whose ∈ WA := zin 1813 (by decide +kernel) (by decide +kernel)
theorem wi_1816 : Cond.code yX10_whose cX10_whose 1 (some .int) ∈ WA := zin 1816 (by decide +kernel) (by decide +kernel)
theorem wi_1814 : Cond.instanceMethod yX10_whose ∈ WA := zin 1814 (by decide +kernel) (by decide +kernel)
theorem wi_1815 : Cond.selects RX10 yX10_whose yX10_whose ∈ WA := zin 1815 (by decide +kernel) (by decide +kernel)
theorem mv_L_213 : zMv RL 213 RX10 mX10_whose 0 := ⟨⟨wi_1813, wi_110, wi_1816, by decide, by decide +kernel⟩, wi_1814, wi_1815⟩
theorem dL_law__1106 : decode cL_law_ 1106 = .ok (.istore 6, 2) := by decide +kernel
theorem dL_law__1108 : decode cL_law_ 1108 = .ok (.goto 702, 3) := by decide +kernel
theorem dL_law__1111 : decode cL_law_ 1111 = .ok (.aload_n 1, 1) := by decide +kernel
theorem dL_law__1112 : decode cL_law_ 1112 = .ok (.aload_n 3, 1) := by decide +kernel
theorem dL_law__1113 : decode cL_law_ 1113 = .ok (.invokestatic 214, 3) := by decide +kernel
theorem wi_1114 : Cond.codeWith yL_next cL_next 3 (some .int) [(0, 8, 11, 13)] ∈ WA := zin 1114 (by decide +kernel) (by decide +kernel)
theorem wi_1112 : Cond.methodLink RL 214 yL_next ∈ WA := zin 1112 (by decide +kernel) (by decide +kernel)
theorem wi_1113 : Cond.static yL_next ∈ WA := zin 1113 (by decide +kernel) (by decide +kernel)
theorem mw_L_214 : zMw RL 214 mL_next [(0, 8, 11, 13)] 2 := ⟨wi_1112, wi_99, wi_1114, by decide, by decide +kernel, wi_1113⟩
theorem dL_law__1116 : decode cL_law_ 1116 = .ok (.istore 5, 2) := by decide +kernel
theorem dL_law__1118 : decode cL_law_ 1118 = .ok (.aload_n 2, 1) := by decide +kernel
theorem dL_law__1119 : decode cL_law_ 1119 = .ok (.invokevirtual 216, 3) := by decide +kernel
theorem wi_1825 : Cond.methodLink RL 216 yX10_next ∈ WA := zin 1825 (by decide +kernel) (by decide +kernel)
theorem wi_1828 : Cond.code yX10_next cX10_next 9 (some .int) ∈ WA := zin 1828 (by decide +kernel) (by decide +kernel)
theorem wi_1826 : Cond.instanceMethod yX10_next ∈ WA := zin 1826 (by decide +kernel) (by decide +kernel)
theorem wi_1827 : Cond.selects RX10 yX10_next yX10_next ∈ WA := zin 1827 (by decide +kernel) (by decide +kernel)
theorem mv_L_216 : zMv RL 216 RX10 mX10_next 0 := ⟨⟨wi_1825, wi_110, wi_1828, by decide, by decide +kernel⟩, wi_1826, wi_1827⟩
theorem dL_law__1122 : decode cL_law_ 1122 = .ok (.istore 6, 2) := by decide +kernel
theorem dL_law__1124 : decode cL_law_ 1124 = .ok (.goto 686, 3) := by decide +kernel
theorem dL_law__1127 : decode cL_law_ 1127 = .ok (.aload_n 1, 1) := by decide +kernel
theorem dL_law__1128 : decode cL_law_ 1128 = .ok (.aload_n 0, 1) := by decide +kernel
theorem dL_law__1129 : decode cL_law_ 1129 = .ok (.iload 4, 2) := by decide +kernel
theorem dL_law__1131 : decode cL_law_ 1131 = .ok (.iconst 1, 1) := by decide +kernel
theorem dL_law__1132 : decode cL_law_ 1132 = .ok (.iadd, 1) := by decide +kernel
theorem dL_law__1133 : decode cL_law_ 1133 = .ok (.iaload, 1) := by decide +kernel
theorem dL_law__1134 : decode cL_law_ 1134 = .ok (.aload_n 0, 1) := by decide +kernel
theorem dL_law__1135 : decode cL_law_ 1135 = .ok (.iload 4, 2) := by decide +kernel
theorem dL_law__1137 : decode cL_law_ 1137 = .ok (.iconst 2, 1) := by decide +kernel
theorem dL_law__1138 : decode cL_law_ 1138 = .ok (.iadd, 1) := by decide +kernel
theorem dL_law__1139 : decode cL_law_ 1139 = .ok (.iaload, 1) := by decide +kernel
theorem dL_law__1140 : decode cL_law_ 1140 = .ok (.aload_n 3, 1) := by decide +kernel
theorem dL_law__1141 : decode cL_law_ 1141 = .ok (.invokestatic 217, 3) := by decide +kernel
theorem wi_1132 : Cond.codeWith yL_match cL_match 5 (some .int) [(0, 10, 13, 13)] ∈ WA := zin 1132 (by decide +kernel) (by decide +kernel)
theorem wi_1130 : Cond.methodLink RL 217 yL_match ∈ WA := zin 1130 (by decide +kernel) (by decide +kernel)
theorem wi_1131 : Cond.static yL_match ∈ WA := zin 1131 (by decide +kernel) (by decide +kernel)
theorem mw_L_217 : zMw RL 217 mL_match [(0, 10, 13, 13)] 4 := ⟨wi_1130, wi_99, wi_1132, by decide, by decide +kernel, wi_1131⟩
theorem dL_law__1144 : decode cL_law_ 1144 = .ok (.istore 5, 2) := by decide +kernel
theorem dL_law__1146 : decode cL_law_ 1146 = .ok (.aload_n 2, 1) := by decide +kernel
theorem dL_law__1147 : decode cL_law_ 1147 = .ok (.aload_n 0, 1) := by decide +kernel
theorem dL_law__1148 : decode cL_law_ 1148 = .ok (.iload 4, 2) := by decide +kernel
theorem dL_law__1150 : decode cL_law_ 1150 = .ok (.iconst 1, 1) := by decide +kernel
theorem dL_law__1151 : decode cL_law_ 1151 = .ok (.iadd, 1) := by decide +kernel
theorem dL_law__1152 : decode cL_law_ 1152 = .ok (.iaload, 1) := by decide +kernel
theorem dL_law__1153 : decode cL_law_ 1153 = .ok (.aload_n 0, 1) := by decide +kernel
theorem dL_law__1154 : decode cL_law_ 1154 = .ok (.iload 4, 2) := by decide +kernel
theorem dL_law__1156 : decode cL_law_ 1156 = .ok (.iconst 2, 1) := by decide +kernel
theorem dL_law__1157 : decode cL_law_ 1157 = .ok (.iadd, 1) := by decide +kernel
theorem dL_law__1158 : decode cL_law_ 1158 = .ok (.iaload, 1) := by decide +kernel
theorem dL_law__1159 : decode cL_law_ 1159 = .ok (.invokevirtual 219, 3) := by decide +kernel
theorem wi_1781 : Cond.methodLink RL 219 yX10_match ∈ WA := zin 1781 (by decide +kernel) (by decide +kernel)
theorem wi_1784 : Cond.code yX10_match cX10_match 9 (some .int) ∈ WA := zin 1784 (by decide +kernel) (by decide +kernel)
theorem wi_1782 : Cond.instanceMethod yX10_match ∈ WA := zin 1782 (by decide +kernel) (by decide +kernel)
theorem wi_1783 : Cond.selects RX10 yX10_match yX10_match ∈ WA := zin 1783 (by decide +kernel) (by decide +kernel)
theorem mv_L_219 : zMv RL 219 RX10 mX10_match 2 := ⟨⟨wi_1781, wi_110, wi_1784, by decide, by decide +kernel⟩, wi_1782, wi_1783⟩
theorem dL_law__1162 : decode cL_law_ 1162 = .ok (.istore 6, 2) := by decide +kernel
theorem dL_law__1164 : decode cL_law_ 1164 = .ok (.goto 646, 3) := by decide +kernel
theorem dL_law__1167 : decode cL_law_ 1167 = .ok (.aload_n 1, 1) := by decide +kernel
theorem dL_law__1168 : decode cL_law_ 1168 = .ok (.aload_n 0, 1) := by decide +kernel
theorem dL_law__1169 : decode cL_law_ 1169 = .ok (.iload 4, 2) := by decide +kernel
theorem dL_law__1171 : decode cL_law_ 1171 = .ok (.iconst 1, 1) := by decide +kernel
theorem dL_law__1172 : decode cL_law_ 1172 = .ok (.iadd, 1) := by decide +kernel
theorem dL_law__1173 : decode cL_law_ 1173 = .ok (.iaload, 1) := by decide +kernel
theorem dL_law__1174 : decode cL_law_ 1174 = .ok (.aload_n 0, 1) := by decide +kernel
theorem dL_law__1175 : decode cL_law_ 1175 = .ok (.iload 4, 2) := by decide +kernel
theorem dL_law__1177 : decode cL_law_ 1177 = .ok (.iconst 2, 1) := by decide +kernel
theorem dL_law__1178 : decode cL_law_ 1178 = .ok (.iadd, 1) := by decide +kernel
theorem dL_law__1179 : decode cL_law_ 1179 = .ok (.iaload, 1) := by decide +kernel
theorem dL_law__1180 : decode cL_law_ 1180 = .ok (.aload_n 0, 1) := by decide +kernel
theorem dL_law__1181 : decode cL_law_ 1181 = .ok (.iload 4, 2) := by decide +kernel
theorem dL_law__1183 : decode cL_law_ 1183 = .ok (.iconst 3, 1) := by decide +kernel
theorem dL_law__1184 : decode cL_law_ 1184 = .ok (.iadd, 1) := by decide +kernel
theorem dL_law__1185 : decode cL_law_ 1185 = .ok (.iaload, 1) := by decide +kernel
theorem dL_law__1186 : decode cL_law_ 1186 = .ok (.aload_n 3, 1) := by decide +kernel
theorem dL_law__1187 : decode cL_law_ 1187 = .ok (.invokestatic 220, 3) := by decide +kernel
theorem wi_1151 : Cond.codeWith yL_rests cL_rests 6 (some .int) [(0, 12, 15, 24), (0, 12, 19, 13)] ∈ WA := zin 1151 (by decide +kernel) (by decide +kernel)
theorem wi_1149 : Cond.methodLink RL 220 yL_rests ∈ WA := zin 1149 (by decide +kernel) (by decide +kernel)
theorem wi_1150 : Cond.static yL_rests ∈ WA := zin 1150 (by decide +kernel) (by decide +kernel)
theorem mw_L_220 : zMw RL 220 mL_rests [(0, 12, 15, 24), (0, 12, 19, 13)] 5 := ⟨wi_1149, wi_99, wi_1151, by decide, by decide +kernel, wi_1150⟩
theorem dL_law__1190 : decode cL_law_ 1190 = .ok (.istore 5, 2) := by decide +kernel
theorem dL_law__1192 : decode cL_law_ 1192 = .ok (.aload_n 2, 1) := by decide +kernel
theorem dL_law__1193 : decode cL_law_ 1193 = .ok (.aload_n 0, 1) := by decide +kernel
theorem dL_law__1194 : decode cL_law_ 1194 = .ok (.iload 4, 2) := by decide +kernel
theorem dL_law__1196 : decode cL_law_ 1196 = .ok (.iconst 1, 1) := by decide +kernel
theorem dL_law__1197 : decode cL_law_ 1197 = .ok (.iadd, 1) := by decide +kernel
theorem dL_law__1198 : decode cL_law_ 1198 = .ok (.iaload, 1) := by decide +kernel
theorem dL_law__1199 : decode cL_law_ 1199 = .ok (.aload_n 0, 1) := by decide +kernel
theorem dL_law__1200 : decode cL_law_ 1200 = .ok (.iload 4, 2) := by decide +kernel
theorem dL_law__1202 : decode cL_law_ 1202 = .ok (.iconst 2, 1) := by decide +kernel
theorem dL_law__1203 : decode cL_law_ 1203 = .ok (.iadd, 1) := by decide +kernel
theorem dL_law__1204 : decode cL_law_ 1204 = .ok (.iaload, 1) := by decide +kernel
theorem dL_law__1205 : decode cL_law_ 1205 = .ok (.aload_n 0, 1) := by decide +kernel
theorem dL_law__1206 : decode cL_law_ 1206 = .ok (.iload 4, 2) := by decide +kernel
theorem dL_law__1208 : decode cL_law_ 1208 = .ok (.iconst 3, 1) := by decide +kernel
theorem dL_law__1209 : decode cL_law_ 1209 = .ok (.iadd, 1) := by decide +kernel
theorem dL_law__1210 : decode cL_law_ 1210 = .ok (.iaload, 1) := by decide +kernel
theorem dL_law__1211 : decode cL_law_ 1211 = .ok (.invokevirtual 222, 3) := by decide +kernel
theorem wi_1829 : Cond.methodLink RL 222 yX10_rests ∈ WA := zin 1829 (by decide +kernel) (by decide +kernel)
theorem wi_1832 : Cond.code yX10_rests cX10_rests 8 (some .int) ∈ WA := zin 1832 (by decide +kernel) (by decide +kernel)
theorem wi_1830 : Cond.instanceMethod yX10_rests ∈ WA := zin 1830 (by decide +kernel) (by decide +kernel)
theorem wi_1831 : Cond.selects RX10 yX10_rests yX10_rests ∈ WA := zin 1831 (by decide +kernel) (by decide +kernel)
theorem mv_L_222 : zMv RL 222 RX10 mX10_rests 3 := ⟨⟨wi_1829, wi_110, wi_1832, by decide, by decide +kernel⟩, wi_1830, wi_1831⟩
theorem dL_law__1214 : decode cL_law_ 1214 = .ok (.istore 6, 2) := by decide +kernel
theorem dL_law__1216 : decode cL_law_ 1216 = .ok (.goto 594, 3) := by decide +kernel
theorem dL_law__1219 : decode cL_law_ 1219 = .ok (.aload_n 1, 1) := by decide +kernel
theorem dL_law__1220 : decode cL_law_ 1220 = .ok (.aload_n 0, 1) := by decide +kernel
theorem dL_law__1221 : decode cL_law_ 1221 = .ok (.iload 4, 2) := by decide +kernel
theorem dL_law__1223 : decode cL_law_ 1223 = .ok (.iconst 1, 1) := by decide +kernel
theorem dL_law__1224 : decode cL_law_ 1224 = .ok (.iadd, 1) := by decide +kernel
theorem dL_law__1225 : decode cL_law_ 1225 = .ok (.iaload, 1) := by decide +kernel
theorem dL_law__1226 : decode cL_law_ 1226 = .ok (.aload_n 3, 1) := by decide +kernel
theorem dL_law__1227 : decode cL_law_ 1227 = .ok (.invokestatic 223, 3) := by decide +kernel
theorem wi_1169 : Cond.codeWith yL_sells cL_sells 4 (some .int) [(0, 9, 12, 13)] ∈ WA := zin 1169 (by decide +kernel) (by decide +kernel)
theorem wi_1167 : Cond.methodLink RL 223 yL_sells ∈ WA := zin 1167 (by decide +kernel) (by decide +kernel)
theorem wi_1168 : Cond.static yL_sells ∈ WA := zin 1168 (by decide +kernel) (by decide +kernel)
theorem mw_L_223 : zMw RL 223 mL_sells [(0, 9, 12, 13)] 3 := ⟨wi_1167, wi_99, wi_1169, by decide, by decide +kernel, wi_1168⟩
theorem dL_law__1230 : decode cL_law_ 1230 = .ok (.istore 5, 2) := by decide +kernel
theorem dL_law__1232 : decode cL_law_ 1232 = .ok (.aload_n 2, 1) := by decide +kernel
theorem dL_law__1233 : decode cL_law_ 1233 = .ok (.aload_n 0, 1) := by decide +kernel
theorem dL_law__1234 : decode cL_law_ 1234 = .ok (.iload 4, 2) := by decide +kernel
theorem dL_law__1236 : decode cL_law_ 1236 = .ok (.iconst 1, 1) := by decide +kernel
theorem dL_law__1237 : decode cL_law_ 1237 = .ok (.iadd, 1) := by decide +kernel
theorem dL_law__1238 : decode cL_law_ 1238 = .ok (.iaload, 1) := by decide +kernel
theorem dL_law__1239 : decode cL_law_ 1239 = .ok (.invokevirtual 225, 3) := by decide +kernel
theorem wi_1841 : Cond.methodLink RL 225 yX10_sells ∈ WA := zin 1841 (by decide +kernel) (by decide +kernel)
theorem wi_1844 : Cond.code yX10_sells cX10_sells 2 (some .int) ∈ WA := zin 1844 (by decide +kernel) (by decide +kernel)
theorem wi_1842 : Cond.instanceMethod yX10_sells ∈ WA := zin 1842 (by decide +kernel) (by decide +kernel)
theorem wi_1843 : Cond.selects RX10 yX10_sells yX10_sells ∈ WA := zin 1843 (by decide +kernel) (by decide +kernel)
theorem mv_L_225 : zMv RL 225 RX10 mX10_sells 1 := ⟨⟨wi_1841, wi_110, wi_1844, by decide, by decide +kernel⟩, wi_1842, wi_1843⟩
theorem dL_law__1242 : decode cL_law_ 1242 = .ok (.istore 6, 2) := by decide +kernel
theorem dL_law__1244 : decode cL_law_ 1244 = .ok (.goto 566, 3) := by decide +kernel
theorem dL_law__1247 : decode cL_law_ 1247 = .ok (.aload_n 1, 1) := by decide +kernel
theorem dL_law__1248 : decode cL_law_ 1248 = .ok (.invokevirtual 226, 3) := by decide +kernel
theorem wi_417 : Cond.methodLink RL 226 yX9_dearest ∈ WA := zin 417 (by decide +kernel) (by decide +kernel)
theorem wi_420 : Cond.code yX9_dearest cX9_dearest 3 (some .int) ∈ WA := zin 420 (by decide +kernel) (by decide +kernel)
theorem wi_418 : Cond.instanceMethod yX9_dearest ∈ WA := zin 418 (by decide +kernel) (by decide +kernel)
theorem wi_419 : Cond.selects RX9 yX9_dearest yX9_dearest ∈ WA := zin 419 (by decide +kernel) (by decide +kernel)
theorem mv_L_226 : zMv RL 226 RX9 mX9_dearest 0 := ⟨⟨wi_417, wi_100, wi_420, by decide, by decide +kernel⟩, wi_418, wi_419⟩
theorem dL_law__1251 : decode cL_law_ 1251 = .ok (.pop, 1) := by decide +kernel
theorem dL_law__1252 : decode cL_law_ 1252 = .ok (.aload_n 2, 1) := by decide +kernel
theorem dL_law__1253 : decode cL_law_ 1253 = .ok (.invokevirtual 229, 3) := by decide +kernel
theorem wi_1852 : Cond.methodLink RL 229 yX10_dearest ∈ WA := zin 1852 (by decide +kernel) (by decide +kernel)
theorem wi_1855 : Cond.code yX10_dearest cX10_dearest 3 (some .int) ∈ WA := zin 1855 (by decide +kernel) (by decide +kernel)
theorem wi_1853 : Cond.instanceMethod yX10_dearest ∈ WA := zin 1853 (by decide +kernel) (by decide +kernel)
theorem wi_1854 : Cond.selects RX10 yX10_dearest yX10_dearest ∈ WA := zin 1854 (by decide +kernel) (by decide +kernel)
theorem mv_L_229 : zMv RL 229 RX10 mX10_dearest 0 := ⟨⟨wi_1852, wi_110, wi_1855, by decide, by decide +kernel⟩, wi_1853, wi_1854⟩
theorem dL_law__1256 : decode cL_law_ 1256 = .ok (.pop, 1) := by decide +kernel
theorem dL_law__1257 : decode cL_law_ 1257 = .ok (.goto 553, 3) := by decide +kernel
theorem dL_law__1260 : decode cL_law_ 1260 = .ok (.aload_n 1, 1) := by decide +kernel
theorem dL_law__1261 : decode cL_law_ 1261 = .ok (.invokevirtual 230, 3) := by decide +kernel
theorem wi_437 : Cond.methodLink RL 230 yX9_unlucky ∈ WA := zin 437 (by decide +kernel) (by decide +kernel)
theorem wi_440 : Cond.code yX9_unlucky cX9_unlucky 3 (some .int) ∈ WA := zin 440 (by decide +kernel) (by decide +kernel)
theorem wi_438 : Cond.instanceMethod yX9_unlucky ∈ WA := zin 438 (by decide +kernel) (by decide +kernel)
theorem wi_439 : Cond.selects RX9 yX9_unlucky yX9_unlucky ∈ WA := zin 439 (by decide +kernel) (by decide +kernel)
theorem mv_L_230 : zMv RL 230 RX9 mX9_unlucky 0 := ⟨⟨wi_437, wi_100, wi_440, by decide, by decide +kernel⟩, wi_438, wi_439⟩
theorem dL_law__1264 : decode cL_law_ 1264 = .ok (.pop, 1) := by decide +kernel
theorem dL_law__1265 : decode cL_law_ 1265 = .ok (.aload_n 2, 1) := by decide +kernel
theorem dL_law__1266 : decode cL_law_ 1266 = .ok (.invokevirtual 233, 3) := by decide +kernel
theorem wi_1856 : Cond.methodLink RL 233 yX10_unlucky ∈ WA := zin 1856 (by decide +kernel) (by decide +kernel)
theorem wi_1859 : Cond.code yX10_unlucky cX10_unlucky 3 (some .int) ∈ WA := zin 1859 (by decide +kernel) (by decide +kernel)
theorem wi_1857 : Cond.instanceMethod yX10_unlucky ∈ WA := zin 1857 (by decide +kernel) (by decide +kernel)
theorem wi_1858 : Cond.selects RX10 yX10_unlucky yX10_unlucky ∈ WA := zin 1858 (by decide +kernel) (by decide +kernel)
theorem mv_L_233 : zMv RL 233 RX10 mX10_unlucky 0 := ⟨⟨wi_1856, wi_110, wi_1859, by decide, by decide +kernel⟩, wi_1857, wi_1858⟩
theorem dL_law__1269 : decode cL_law_ 1269 = .ok (.pop, 1) := by decide +kernel
theorem dL_law__1270 : decode cL_law_ 1270 = .ok (.goto 540, 3) := by decide +kernel
theorem dL_law__1273 : decode cL_law_ 1273 = .ok (.aload_n 1, 1) := by decide +kernel
theorem dL_law__1274 : decode cL_law_ 1274 = .ok (.aload_n 0, 1) := by decide +kernel
theorem dL_law__1275 : decode cL_law_ 1275 = .ok (.iload 4, 2) := by decide +kernel
theorem dL_law__1277 : decode cL_law_ 1277 = .ok (.iconst 1, 1) := by decide +kernel
theorem dL_law__1278 : decode cL_law_ 1278 = .ok (.iadd, 1) := by decide +kernel
theorem dL_law__1279 : decode cL_law_ 1279 = .ok (.iaload, 1) := by decide +kernel
theorem dL_law__1280 : decode cL_law_ 1280 = .ok (.aload_n 3, 1) := by decide +kernel
theorem dL_law__1281 : decode cL_law_ 1281 = .ok (.invokestatic 234, 3) := by decide +kernel
theorem wi_1177 : Cond.codeWith yL_luckiest cL_luckiest 4 (some .int) [(0, 9, 12, 24)] ∈ WA := zin 1177 (by decide +kernel) (by decide +kernel)
theorem wi_1175 : Cond.methodLink RL 234 yL_luckiest ∈ WA := zin 1175 (by decide +kernel) (by decide +kernel)
theorem wi_1176 : Cond.static yL_luckiest ∈ WA := zin 1176 (by decide +kernel) (by decide +kernel)
theorem mw_L_234 : zMw RL 234 mL_luckiest [(0, 9, 12, 24)] 3 := ⟨wi_1175, wi_99, wi_1177, by decide, by decide +kernel, wi_1176⟩
theorem dL_law__1284 : decode cL_law_ 1284 = .ok (.istore 5, 2) := by decide +kernel
theorem dL_law__1286 : decode cL_law_ 1286 = .ok (.aload_n 2, 1) := by decide +kernel
theorem dL_law__1287 : decode cL_law_ 1287 = .ok (.aload_n 0, 1) := by decide +kernel
theorem dL_law__1288 : decode cL_law_ 1288 = .ok (.iload 4, 2) := by decide +kernel
theorem dL_law__1290 : decode cL_law_ 1290 = .ok (.iconst 1, 1) := by decide +kernel
theorem dL_law__1291 : decode cL_law_ 1291 = .ok (.iadd, 1) := by decide +kernel
theorem dL_law__1292 : decode cL_law_ 1292 = .ok (.iaload, 1) := by decide +kernel
theorem dL_law__1293 : decode cL_law_ 1293 = .ok (.invokevirtual 236, 3) := by decide +kernel
theorem wi_1860 : Cond.methodLink RL 236 yX10_luckiest ∈ WA := zin 1860 (by decide +kernel) (by decide +kernel)
theorem wi_1863 : Cond.code yX10_luckiest cX10_luckiest 4 (some .int) ∈ WA := zin 1863 (by decide +kernel) (by decide +kernel)
theorem wi_1861 : Cond.instanceMethod yX10_luckiest ∈ WA := zin 1861 (by decide +kernel) (by decide +kernel)
theorem wi_1862 : Cond.selects RX10 yX10_luckiest yX10_luckiest ∈ WA := zin 1862 (by decide +kernel) (by decide +kernel)
theorem mv_L_236 : zMv RL 236 RX10 mX10_luckiest 1 := ⟨⟨wi_1860, wi_110, wi_1863, by decide, by decide +kernel⟩, wi_1861, wi_1862⟩
theorem dL_law__1296 : decode cL_law_ 1296 = .ok (.istore 6, 2) := by decide +kernel
theorem dL_law__1298 : decode cL_law_ 1298 = .ok (.goto 512, 3) := by decide +kernel
section LawC
variable {G0 : Gx} {b0 L m i : Nat} {xs : Nat → Int32} {ad : Nat → Nat} {I : Hi} {x5 x6 : Option Value}
theorem lc_chain (h9 : gad G0 998 = b0) (hL : L ≤ 3072) (hi : i + 6 ≤ L) (hI : LI I) (kk : ∀ (J : Hi) (x5 x6 : Option Value), LI J → Rn (gw G0 ad) GAM mL_law_ (kZ (kL b0 L xs) G0 0 ad 108) 60 (8 * m) 1810 [some (.ref 998), some (.ref 0), some (.ref 94), some (.ref 107), some (.int (nI i)), x5, x6] [] J) : Rn (gw G0 ad) GAM mL_law_ (kZ (kL b0 L xs) G0 0 ad 108) 60 (8 * m + 8) 1027 [some (.ref 998), some (.ref 0), some (.ref 94), some (.ref 107), some (.int (nI i)), x5, x6] [] I := by
  refine Rn.aload_n dL_law__1027 rfl rfl ?_
  refine Rn.aload_n dL_law__1028 rfl rfl ?_
  refine Rn.iload dL_law__1029 rfl ?_
  refine Rn.iconst (v := (nI 1)) dL_law__1031 rfl ?_
  refine Rn.iadd dL_law__1032 ?_
  refine Rn.topI (nI (i + 1)) (nI_add _ _) ?_
  refine Rn.sld dL_law__1033 h9 (by omega) (by omega) rfl ?_
  refine Rn.aload_n dL_law__1034 rfl rfl ?_
  refine Rn.callW (b := 8 * m + 7) (mc := 1) (As := [_, _, _]) dL_law__1035 mw_L_205 rfl rfl (Nat.le_of_ble_eq_true rfl) (wr_chain _ _ _ _ hI.1 hI.2.1) (fun _ _ h => h) (fun v J1 h => ?_)
  obtain ⟨⟨r1, rfl⟩, hQ1⟩ := h
  refine Rn.istore dL_law__1038 (by decide) ?_
  refine Rn.aload_n dL_law__1040 rfl rfl ?_
  refine Rn.aload_n dL_law__1041 rfl rfl ?_
  refine Rn.iload dL_law__1042 rfl ?_
  refine Rn.iconst (v := (nI 1)) dL_law__1044 rfl ?_
  refine Rn.iadd dL_law__1045 ?_
  refine Rn.topI (nI (i + 1)) (nI_add _ _) ?_
  refine Rn.sld dL_law__1046 h9 (by omega) (by omega) rfl ?_
  refine Rn.callV (As := [_]) dL_law__1047 mv_L_207 (by first | rfl | exact gC0 (by assumption) | exact gL0 (by assumption)) rfl rfl rfl (Nat.le_of_ble_eq_true rfl) (mo_chain _ _ _ _ hQ1.1 hQ1.2.1) (fun _ _ h => h) (fun v J2 h => ?_)
  obtain ⟨⟨r2, rfl⟩, hQ2⟩ := h
  refine Rn.istore dL_law__1050 (by decide) ?_
  refine Rn.goto 1810 dL_law__1052 (by decide) ?_
  exact Rn.bud (by omega) (kk _ _ _ (hI.of (hQ1.tr hQ2)))
theorem lc_since (h9 : gad G0 998 = b0) (hL : L ≤ 3072) (hi : i + 6 ≤ L) (hI : LI I) (kk : ∀ (J : Hi) (x5 x6 : Option Value), LI J → Rn (gw G0 ad) GAM mL_law_ (kZ (kL b0 L xs) G0 0 ad 108) 60 (8 * m) 1810 [some (.ref 998), some (.ref 0), some (.ref 94), some (.ref 107), some (.int (nI i)), x5, x6] [] J) : Rn (gw G0 ad) GAM mL_law_ (kZ (kL b0 L xs) G0 0 ad 108) 60 (8 * m + 8) 1055 [some (.ref 998), some (.ref 0), some (.ref 94), some (.ref 107), some (.int (nI i)), x5, x6] [] I := by
  refine Rn.aload_n dL_law__1055 rfl rfl ?_
  refine Rn.aload_n dL_law__1056 rfl rfl ?_
  refine Rn.iload dL_law__1057 rfl ?_
  refine Rn.iconst (v := (nI 1)) dL_law__1059 rfl ?_
  refine Rn.iadd dL_law__1060 ?_
  refine Rn.topI (nI (i + 1)) (nI_add _ _) ?_
  refine Rn.sld dL_law__1061 h9 (by omega) (by omega) rfl ?_
  refine Rn.aload_n dL_law__1062 rfl rfl ?_
  refine Rn.iload dL_law__1063 rfl ?_
  refine Rn.iconst (v := (nI 2)) dL_law__1065 rfl ?_
  refine Rn.iadd dL_law__1066 ?_
  refine Rn.topI (nI (i + 2)) (nI_add _ _) ?_
  refine Rn.sld dL_law__1067 h9 (by omega) (by omega) rfl ?_
  refine Rn.aload_n dL_law__1068 rfl rfl ?_
  refine Rn.callW (b := 8 * m + 5) (mc := 3) (As := [_, _, _, _]) dL_law__1069 mw_L_208 rfl rfl (Nat.le_of_ble_eq_true rfl) (wr_since _ _ _ _ _ hI.1 hI.2.1) (fun _ _ h => h) (fun v J1 h => ?_)
  obtain ⟨⟨r1, rfl⟩, hQ1⟩ := h
  refine Rn.istore dL_law__1072 (by decide) ?_
  refine Rn.aload_n dL_law__1074 rfl rfl ?_
  refine Rn.aload_n dL_law__1075 rfl rfl ?_
  refine Rn.iload dL_law__1076 rfl ?_
  refine Rn.iconst (v := (nI 1)) dL_law__1078 rfl ?_
  refine Rn.iadd dL_law__1079 ?_
  refine Rn.topI (nI (i + 1)) (nI_add _ _) ?_
  refine Rn.sld dL_law__1080 h9 (by omega) (by omega) rfl ?_
  refine Rn.aload_n dL_law__1081 rfl rfl ?_
  refine Rn.iload dL_law__1082 rfl ?_
  refine Rn.iconst (v := (nI 2)) dL_law__1084 rfl ?_
  refine Rn.iadd dL_law__1085 ?_
  refine Rn.topI (nI (i + 2)) (nI_add _ _) ?_
  refine Rn.sld dL_law__1086 h9 (by omega) (by omega) rfl ?_
  refine Rn.callV (As := [_, _]) dL_law__1087 mv_L_210 (by first | rfl | exact gC0 (by assumption) | exact gL0 (by assumption)) rfl rfl rfl (Nat.le_of_ble_eq_true rfl) (mo_since _ _ _ _ _ hQ1.1 hQ1.2.1) (fun _ _ h => h) (fun v J2 h => ?_)
  obtain ⟨⟨r2, rfl⟩, hQ2⟩ := h
  refine Rn.istore dL_law__1090 (by decide) ?_
  refine Rn.goto 1810 dL_law__1092 (by decide) ?_
  exact Rn.bud (by omega) (kk _ _ _ (hI.of (hQ1.tr hQ2)))
theorem lc_whose (h9 : gad G0 998 = b0) (hL : L ≤ 3072) (hi : i + 6 ≤ L) (hI : LI I) (kk : ∀ (J : Hi) (x5 x6 : Option Value), LI J → Rn (gw G0 ad) GAM mL_law_ (kZ (kL b0 L xs) G0 0 ad 108) 60 (8 * m) 1810 [some (.ref 998), some (.ref 0), some (.ref 94), some (.ref 107), some (.int (nI i)), x5, x6] [] J) : Rn (gw G0 ad) GAM mL_law_ (kZ (kL b0 L xs) G0 0 ad 108) 60 (8 * m + 8) 1095 [some (.ref 998), some (.ref 0), some (.ref 94), some (.ref 107), some (.int (nI i)), x5, x6] [] I := by
  refine Rn.aload_n dL_law__1095 rfl rfl ?_
  refine Rn.aload_n dL_law__1096 rfl rfl ?_
  refine Rn.callW (b := 8 * m + 7) (mc := 1) (As := [_, _]) dL_law__1097 mw_L_211 rfl rfl (Nat.le_of_ble_eq_true rfl) (wr_whose _ _ _ hI.1 hI.2.1) (fun _ _ h => h) (fun v J1 h => ?_)
  obtain ⟨⟨r1, rfl⟩, hQ1⟩ := h
  refine Rn.istore dL_law__1100 (by decide) ?_
  refine Rn.aload_n dL_law__1102 rfl rfl ?_
  refine Rn.callV (As := []) dL_law__1103 mv_L_213 (by first | rfl | exact gC0 (by assumption) | exact gL0 (by assumption)) rfl rfl rfl (Nat.le_of_ble_eq_true rfl) (mo_whose _ _ _ hQ1.1 hQ1.2.1) (fun _ _ h => h) (fun v J2 h => ?_)
  obtain ⟨⟨r2, rfl⟩, hQ2⟩ := h
  refine Rn.istore dL_law__1106 (by decide) ?_
  refine Rn.goto 1810 dL_law__1108 (by decide) ?_
  exact Rn.bud (by omega) (kk _ _ _ (LI.take hI hQ1 hQ2))
theorem lc_next (h9 : gad G0 998 = b0) (hL : L ≤ 3072) (hi : i + 6 ≤ L) (hI : LI I) (kk : ∀ (J : Hi) (x5 x6 : Option Value), LI J → Rn (gw G0 ad) GAM mL_law_ (kZ (kL b0 L xs) G0 0 ad 108) 60 (8 * m) 1810 [some (.ref 998), some (.ref 0), some (.ref 94), some (.ref 107), some (.int (nI i)), x5, x6] [] J) : Rn (gw G0 ad) GAM mL_law_ (kZ (kL b0 L xs) G0 0 ad 108) 60 (8 * m + 8) 1111 [some (.ref 998), some (.ref 0), some (.ref 94), some (.ref 107), some (.int (nI i)), x5, x6] [] I := by
  refine Rn.aload_n dL_law__1111 rfl rfl ?_
  refine Rn.aload_n dL_law__1112 rfl rfl ?_
  refine Rn.callW (b := 8 * m + 7) (mc := 1) (As := [_, _]) dL_law__1113 mw_L_214 rfl rfl (Nat.le_of_ble_eq_true rfl) (wr_next _ _ _ hI.1 hI.2.1) (fun _ _ h => h) (fun v J1 h => ?_)
  obtain ⟨⟨r1, rfl⟩, hQ1⟩ := h
  refine Rn.istore dL_law__1116 (by decide) ?_
  refine Rn.aload_n dL_law__1118 rfl rfl ?_
  refine Rn.callV (As := []) dL_law__1119 mv_L_216 (by first | rfl | exact gC0 (by assumption) | exact gL0 (by assumption)) rfl rfl rfl (Nat.le_of_ble_eq_true rfl) (mo_next _ _ _ hQ1.1 hQ1.2.1) (fun _ _ h => h) (fun v J2 h => ?_)
  obtain ⟨⟨r2, rfl⟩, hQ2⟩ := h
  refine Rn.istore dL_law__1122 (by decide) ?_
  refine Rn.goto 1810 dL_law__1124 (by decide) ?_
  exact Rn.bud (by omega) (kk _ _ _ (LI.take hI hQ1 hQ2))
theorem lc_match (h9 : gad G0 998 = b0) (hL : L ≤ 3072) (hi : i + 6 ≤ L) (hI : LI I) (kk : ∀ (J : Hi) (x5 x6 : Option Value), LI J → Rn (gw G0 ad) GAM mL_law_ (kZ (kL b0 L xs) G0 0 ad 108) 60 (8 * m) 1810 [some (.ref 998), some (.ref 0), some (.ref 94), some (.ref 107), some (.int (nI i)), x5, x6] [] J) : Rn (gw G0 ad) GAM mL_law_ (kZ (kL b0 L xs) G0 0 ad 108) 60 (8 * m + 8) 1127 [some (.ref 998), some (.ref 0), some (.ref 94), some (.ref 107), some (.int (nI i)), x5, x6] [] I := by
  refine Rn.aload_n dL_law__1127 rfl rfl ?_
  refine Rn.aload_n dL_law__1128 rfl rfl ?_
  refine Rn.iload dL_law__1129 rfl ?_
  refine Rn.iconst (v := (nI 1)) dL_law__1131 rfl ?_
  refine Rn.iadd dL_law__1132 ?_
  refine Rn.topI (nI (i + 1)) (nI_add _ _) ?_
  refine Rn.sld dL_law__1133 h9 (by omega) (by omega) rfl ?_
  refine Rn.aload_n dL_law__1134 rfl rfl ?_
  refine Rn.iload dL_law__1135 rfl ?_
  refine Rn.iconst (v := (nI 2)) dL_law__1137 rfl ?_
  refine Rn.iadd dL_law__1138 ?_
  refine Rn.topI (nI (i + 2)) (nI_add _ _) ?_
  refine Rn.sld dL_law__1139 h9 (by omega) (by omega) rfl ?_
  refine Rn.aload_n dL_law__1140 rfl rfl ?_
  refine Rn.callW (b := 8 * m + 7) (mc := 1) (As := [_, _, _, _]) dL_law__1141 mw_L_217 rfl rfl (Nat.le_of_ble_eq_true rfl) (wr_match _ _ _ _ _ hI.1 hI.2.1) (fun _ _ h => h) (fun v J1 h => ?_)
  obtain ⟨⟨r1, rfl⟩, hQ1⟩ := h
  refine Rn.istore dL_law__1144 (by decide) ?_
  refine Rn.aload_n dL_law__1146 rfl rfl ?_
  refine Rn.aload_n dL_law__1147 rfl rfl ?_
  refine Rn.iload dL_law__1148 rfl ?_
  refine Rn.iconst (v := (nI 1)) dL_law__1150 rfl ?_
  refine Rn.iadd dL_law__1151 ?_
  refine Rn.topI (nI (i + 1)) (nI_add _ _) ?_
  refine Rn.sld dL_law__1152 h9 (by omega) (by omega) rfl ?_
  refine Rn.aload_n dL_law__1153 rfl rfl ?_
  refine Rn.iload dL_law__1154 rfl ?_
  refine Rn.iconst (v := (nI 2)) dL_law__1156 rfl ?_
  refine Rn.iadd dL_law__1157 ?_
  refine Rn.topI (nI (i + 2)) (nI_add _ _) ?_
  refine Rn.sld dL_law__1158 h9 (by omega) (by omega) rfl ?_
  refine Rn.callV (As := [_, _]) dL_law__1159 mv_L_219 (by first | rfl | exact gC0 (by assumption) | exact gL0 (by assumption)) rfl rfl rfl (Nat.le_of_ble_eq_true rfl) (mo_match _ _ _ _ _ hQ1.1 hQ1.2.1) (fun _ _ h => h) (fun v J2 h => ?_)
  obtain ⟨⟨r2, rfl⟩, hQ2⟩ := h
  refine Rn.istore dL_law__1162 (by decide) ?_
  refine Rn.goto 1810 dL_law__1164 (by decide) ?_
  exact Rn.bud (by omega) (kk _ _ _ (hI.of (hQ1.tr hQ2)))
theorem lc_rests (h9 : gad G0 998 = b0) (hL : L ≤ 3072) (hi : i + 6 ≤ L) (hI : LI I) (kk : ∀ (J : Hi) (x5 x6 : Option Value), LI J → Rn (gw G0 ad) GAM mL_law_ (kZ (kL b0 L xs) G0 0 ad 108) 60 (8 * m) 1810 [some (.ref 998), some (.ref 0), some (.ref 94), some (.ref 107), some (.int (nI i)), x5, x6] [] J) : Rn (gw G0 ad) GAM mL_law_ (kZ (kL b0 L xs) G0 0 ad 108) 60 (8 * m + 8) 1167 [some (.ref 998), some (.ref 0), some (.ref 94), some (.ref 107), some (.int (nI i)), x5, x6] [] I := by
  refine Rn.aload_n dL_law__1167 rfl rfl ?_
  refine Rn.aload_n dL_law__1168 rfl rfl ?_
  refine Rn.iload dL_law__1169 rfl ?_
  refine Rn.iconst (v := (nI 1)) dL_law__1171 rfl ?_
  refine Rn.iadd dL_law__1172 ?_
  refine Rn.topI (nI (i + 1)) (nI_add _ _) ?_
  refine Rn.sld dL_law__1173 h9 (by omega) (by omega) rfl ?_
  refine Rn.aload_n dL_law__1174 rfl rfl ?_
  refine Rn.iload dL_law__1175 rfl ?_
  refine Rn.iconst (v := (nI 2)) dL_law__1177 rfl ?_
  refine Rn.iadd dL_law__1178 ?_
  refine Rn.topI (nI (i + 2)) (nI_add _ _) ?_
  refine Rn.sld dL_law__1179 h9 (by omega) (by omega) rfl ?_
  refine Rn.aload_n dL_law__1180 rfl rfl ?_
  refine Rn.iload dL_law__1181 rfl ?_
  refine Rn.iconst (v := (nI 3)) dL_law__1183 rfl ?_
  refine Rn.iadd dL_law__1184 ?_
  refine Rn.topI (nI (i + 3)) (nI_add _ _) ?_
  refine Rn.sld dL_law__1185 h9 (by omega) (by omega) rfl ?_
  refine Rn.aload_n dL_law__1186 rfl rfl ?_
  refine Rn.callW (b := 8 * m + 4) (mc := 4) (As := [_, _, _, _, _]) dL_law__1187 mw_L_220 rfl rfl (Nat.le_of_ble_eq_true rfl) (wr_rests _ _ _ _ _ _ hI.1 hI.2.1) (fun _ _ h => h) (fun v J1 h => ?_)
  obtain ⟨⟨r1, rfl⟩, hQ1⟩ := h
  refine Rn.istore dL_law__1190 (by decide) ?_
  refine Rn.aload_n dL_law__1192 rfl rfl ?_
  refine Rn.aload_n dL_law__1193 rfl rfl ?_
  refine Rn.iload dL_law__1194 rfl ?_
  refine Rn.iconst (v := (nI 1)) dL_law__1196 rfl ?_
  refine Rn.iadd dL_law__1197 ?_
  refine Rn.topI (nI (i + 1)) (nI_add _ _) ?_
  refine Rn.sld dL_law__1198 h9 (by omega) (by omega) rfl ?_
  refine Rn.aload_n dL_law__1199 rfl rfl ?_
  refine Rn.iload dL_law__1200 rfl ?_
  refine Rn.iconst (v := (nI 2)) dL_law__1202 rfl ?_
  refine Rn.iadd dL_law__1203 ?_
  refine Rn.topI (nI (i + 2)) (nI_add _ _) ?_
  refine Rn.sld dL_law__1204 h9 (by omega) (by omega) rfl ?_
  refine Rn.aload_n dL_law__1205 rfl rfl ?_
  refine Rn.iload dL_law__1206 rfl ?_
  refine Rn.iconst (v := (nI 3)) dL_law__1208 rfl ?_
  refine Rn.iadd dL_law__1209 ?_
  refine Rn.topI (nI (i + 3)) (nI_add _ _) ?_
  refine Rn.sld dL_law__1210 h9 (by omega) (by omega) rfl ?_
  refine Rn.callV (As := [_, _, _]) dL_law__1211 mv_L_222 (by first | rfl | exact gC0 (by assumption) | exact gL0 (by assumption)) rfl rfl rfl (Nat.le_of_ble_eq_true rfl) (mo_rests _ _ _ _ _ _ hQ1.1 hQ1.2.1) (fun _ _ h => h) (fun v J2 h => ?_)
  obtain ⟨⟨r2, rfl⟩, hQ2⟩ := h
  refine Rn.istore dL_law__1214 (by decide) ?_
  refine Rn.goto 1810 dL_law__1216 (by decide) ?_
  exact Rn.bud (by omega) (kk _ _ _ (hI.of (hQ1.tr hQ2)))
theorem lc_sells (h9 : gad G0 998 = b0) (hL : L ≤ 3072) (hi : i + 6 ≤ L) (hI : LI I) (kk : ∀ (J : Hi) (x5 x6 : Option Value), LI J → Rn (gw G0 ad) GAM mL_law_ (kZ (kL b0 L xs) G0 0 ad 108) 60 (8 * m) 1810 [some (.ref 998), some (.ref 0), some (.ref 94), some (.ref 107), some (.int (nI i)), x5, x6] [] J) : Rn (gw G0 ad) GAM mL_law_ (kZ (kL b0 L xs) G0 0 ad 108) 60 (8 * m + 8) 1219 [some (.ref 998), some (.ref 0), some (.ref 94), some (.ref 107), some (.int (nI i)), x5, x6] [] I := by
  refine Rn.aload_n dL_law__1219 rfl rfl ?_
  refine Rn.aload_n dL_law__1220 rfl rfl ?_
  refine Rn.iload dL_law__1221 rfl ?_
  refine Rn.iconst (v := (nI 1)) dL_law__1223 rfl ?_
  refine Rn.iadd dL_law__1224 ?_
  refine Rn.topI (nI (i + 1)) (nI_add _ _) ?_
  refine Rn.sld dL_law__1225 h9 (by omega) (by omega) rfl ?_
  refine Rn.aload_n dL_law__1226 rfl rfl ?_
  refine Rn.callW (b := 8 * m + 7) (mc := 1) (As := [_, _, _]) dL_law__1227 mw_L_223 rfl rfl (Nat.le_of_ble_eq_true rfl) (wr_sells _ _ _ _ hI.1 hI.2.1) (fun _ _ h => h) (fun v J1 h => ?_)
  obtain ⟨⟨r1, rfl⟩, hQ1⟩ := h
  refine Rn.istore dL_law__1230 (by decide) ?_
  refine Rn.aload_n dL_law__1232 rfl rfl ?_
  refine Rn.aload_n dL_law__1233 rfl rfl ?_
  refine Rn.iload dL_law__1234 rfl ?_
  refine Rn.iconst (v := (nI 1)) dL_law__1236 rfl ?_
  refine Rn.iadd dL_law__1237 ?_
  refine Rn.topI (nI (i + 1)) (nI_add _ _) ?_
  refine Rn.sld dL_law__1238 h9 (by omega) (by omega) rfl ?_
  refine Rn.callV (As := [_]) dL_law__1239 mv_L_225 (by first | rfl | exact gC0 (by assumption) | exact gL0 (by assumption)) rfl rfl rfl (Nat.le_of_ble_eq_true rfl) (mo_sells _ _ _ _ hQ1.1 hQ1.2.1) (fun _ _ h => h) (fun v J2 h => ?_)
  obtain ⟨⟨r2, rfl⟩, hQ2⟩ := h
  refine Rn.istore dL_law__1242 (by decide) ?_
  refine Rn.goto 1810 dL_law__1244 (by decide) ?_
  exact Rn.bud (by omega) (kk _ _ _ (hI.of (hQ1.tr hQ2)))
theorem lc_dearest (h9 : gad G0 998 = b0) (hL : L ≤ 3072) (hi : i + 6 ≤ L) (hI : LI I) (kk : ∀ (J : Hi) (x5 x6 : Option Value), LI J → Rn (gw G0 ad) GAM mL_law_ (kZ (kL b0 L xs) G0 0 ad 108) 60 (8 * m) 1810 [some (.ref 998), some (.ref 0), some (.ref 94), some (.ref 107), some (.int (nI i)), x5, x6] [] J) : Rn (gw G0 ad) GAM mL_law_ (kZ (kL b0 L xs) G0 0 ad 108) 60 (8 * m + 8) 1247 [some (.ref 998), some (.ref 0), some (.ref 94), some (.ref 107), some (.int (nI i)), x5, x6] [] I := by
  refine Rn.aload_n dL_law__1247 rfl rfl ?_
  refine Rn.callV (As := []) dL_law__1248 mv_L_226 (by first | rfl | exact gC0 (by assumption) | exact gL0 (by assumption)) rfl rfl rfl (Nat.le_of_ble_eq_true rfl) (xd_dearest _ _ _ hI.1 hI.2.1) (fun _ _ h => h) (fun v J1 h => ?_)
  obtain ⟨⟨r1, rfl⟩, hQ1⟩ := h
  refine Rn.pop dL_law__1251 rfl ?_
  refine Rn.aload_n dL_law__1252 rfl rfl ?_
  refine Rn.callV (As := []) dL_law__1253 mv_L_229 (by first | rfl | exact gC0 (by assumption) | exact gL0 (by assumption)) rfl rfl rfl (Nat.le_of_ble_eq_true rfl) (mo_dearest _ _ _ hQ1.1 hQ1.2.1) (fun _ _ h => h) (fun v J2 h => ?_)
  obtain ⟨⟨r2, rfl⟩, hQ2⟩ := h
  refine Rn.pop dL_law__1256 rfl ?_
  refine Rn.goto 1810 dL_law__1257 (by decide) ?_
  exact Rn.bud (by omega) (kk _ _ _ (hI.of (hQ1.tr hQ2)))
theorem lc_unlucky (h9 : gad G0 998 = b0) (hL : L ≤ 3072) (hi : i + 6 ≤ L) (hI : LI I) (kk : ∀ (J : Hi) (x5 x6 : Option Value), LI J → Rn (gw G0 ad) GAM mL_law_ (kZ (kL b0 L xs) G0 0 ad 108) 60 (8 * m) 1810 [some (.ref 998), some (.ref 0), some (.ref 94), some (.ref 107), some (.int (nI i)), x5, x6] [] J) : Rn (gw G0 ad) GAM mL_law_ (kZ (kL b0 L xs) G0 0 ad 108) 60 (8 * m + 8) 1260 [some (.ref 998), some (.ref 0), some (.ref 94), some (.ref 107), some (.int (nI i)), x5, x6] [] I := by
  refine Rn.aload_n dL_law__1260 rfl rfl ?_
  refine Rn.callV (As := []) dL_law__1261 mv_L_230 (by first | rfl | exact gC0 (by assumption) | exact gL0 (by assumption)) rfl rfl rfl (Nat.le_of_ble_eq_true rfl) (xd_unlucky _ _ _ hI.1 hI.2.1) (fun _ _ h => h) (fun v J1 h => ?_)
  obtain ⟨⟨r1, rfl⟩, hQ1⟩ := h
  refine Rn.pop dL_law__1264 rfl ?_
  refine Rn.aload_n dL_law__1265 rfl rfl ?_
  refine Rn.callV (As := []) dL_law__1266 mv_L_233 (by first | rfl | exact gC0 (by assumption) | exact gL0 (by assumption)) rfl rfl rfl (Nat.le_of_ble_eq_true rfl) (mo_unlucky _ _ _ hQ1.1 hQ1.2.1) (fun _ _ h => h) (fun v J2 h => ?_)
  obtain ⟨⟨r2, rfl⟩, hQ2⟩ := h
  refine Rn.pop dL_law__1269 rfl ?_
  refine Rn.goto 1810 dL_law__1270 (by decide) ?_
  exact Rn.bud (by omega) (kk _ _ _ (hI.of (hQ1.tr hQ2)))
theorem lc_luckiest (h9 : gad G0 998 = b0) (hL : L ≤ 3072) (hi : i + 6 ≤ L) (hI : LI I) (kk : ∀ (J : Hi) (x5 x6 : Option Value), LI J → Rn (gw G0 ad) GAM mL_law_ (kZ (kL b0 L xs) G0 0 ad 108) 60 (8 * m) 1810 [some (.ref 998), some (.ref 0), some (.ref 94), some (.ref 107), some (.int (nI i)), x5, x6] [] J) : Rn (gw G0 ad) GAM mL_law_ (kZ (kL b0 L xs) G0 0 ad 108) 60 (8 * m + 8) 1273 [some (.ref 998), some (.ref 0), some (.ref 94), some (.ref 107), some (.int (nI i)), x5, x6] [] I := by
  refine Rn.aload_n dL_law__1273 rfl rfl ?_
  refine Rn.aload_n dL_law__1274 rfl rfl ?_
  refine Rn.iload dL_law__1275 rfl ?_
  refine Rn.iconst (v := (nI 1)) dL_law__1277 rfl ?_
  refine Rn.iadd dL_law__1278 ?_
  refine Rn.topI (nI (i + 1)) (nI_add _ _) ?_
  refine Rn.sld dL_law__1279 h9 (by omega) (by omega) rfl ?_
  refine Rn.aload_n dL_law__1280 rfl rfl ?_
  refine Rn.callW (b := 8 * m + 7) (mc := 1) (As := [_, _, _]) dL_law__1281 mw_L_234 rfl rfl (Nat.le_of_ble_eq_true rfl) (wr_luckiest _ _ _ _ hI.1 hI.2.1) (fun _ _ h => h) (fun v J1 h => ?_)
  obtain ⟨⟨r1, rfl⟩, hQ1⟩ := h
  refine Rn.istore dL_law__1284 (by decide) ?_
  refine Rn.aload_n dL_law__1286 rfl rfl ?_
  refine Rn.aload_n dL_law__1287 rfl rfl ?_
  refine Rn.iload dL_law__1288 rfl ?_
  refine Rn.iconst (v := (nI 1)) dL_law__1290 rfl ?_
  refine Rn.iadd dL_law__1291 ?_
  refine Rn.topI (nI (i + 1)) (nI_add _ _) ?_
  refine Rn.sld dL_law__1292 h9 (by omega) (by omega) rfl ?_
  refine Rn.callV (As := [_]) dL_law__1293 mv_L_236 (by first | rfl | exact gC0 (by assumption) | exact gL0 (by assumption)) rfl rfl rfl (Nat.le_of_ble_eq_true rfl) (mo_luckiest _ _ _ _ hQ1.1 hQ1.2.1) (fun _ _ h => h) (fun v J2 h => ?_)
  obtain ⟨⟨r2, rfl⟩, hQ2⟩ := h
  refine Rn.istore dL_law__1296 (by decide) ?_
  refine Rn.goto 1810 dL_law__1298 (by decide) ?_
  exact Rn.bud (by omega) (kk _ _ _ (hI.of (hQ1.tr hQ2)))
end LawC
