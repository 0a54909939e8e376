theorem dL_law__999 : decode cL_law_ 999 = .ok (.aload_n 1, 1) := by decide +kernel
theorem dL_law__1000 : decode cL_law_ 1000 = .ok (.aload_n 0, 1) := by decide +kernel
theorem dL_law__1001 : decode cL_law_ 1001 = .ok (.iload 4, 2) := by decide +kernel
theorem dL_law__1003 : decode cL_law_ 1003 = .ok (.iconst 1, 1) := by decide +kernel
theorem dL_law__1004 : decode cL_law_ 1004 = .ok (.iadd, 1) := by decide +kernel
theorem dL_law__1005 : decode cL_law_ 1005 = .ok (.iaload, 1) := by decide +kernel
theorem dL_law__1006 : decode cL_law_ 1006 = .ok (.aload_n 3, 1) := by decide +kernel
theorem dL_law__1007 : decode cL_law_ 1007 = .ok (.invokestatic 202, 3) := by decide +kernel
theorem wi_1066 : Cond.codeWith yL_chain cL_chain 4 (some .int) [(0, 9, 12, 24)] ∈ WA := zin 1066 (by decide +kernel) (by decide +kernel)
theorem wi_1064 : Cond.methodLink RL 202 yL_chain ∈ WA := zin 1064 (by decide +kernel) (by decide +kernel)
theorem wi_1065 : Cond.static yL_chain ∈ WA := zin 1065 (by decide +kernel) (by decide +kernel)
theorem mw_L_202 : zMw RL 202 mL_chain [(0, 9, 12, 24)] 3 := ⟨wi_1064, wi_99, wi_1066, by decide, by decide +kernel, wi_1065⟩
theorem dL_law__1010 : decode cL_law_ 1010 = .ok (.istore 5, 2) := by decide +kernel
theorem dL_law__1012 : decode cL_law_ 1012 = .ok (.aload_n 2, 1) := by decide +kernel
theorem dL_law__1013 : decode cL_law_ 1013 = .ok (.aload_n 0, 1) := by decide +kernel
theorem dL_law__1014 : decode cL_law_ 1014 = .ok (.iload 4, 2) := by decide +kernel
theorem dL_law__1016 : decode cL_law_ 1016 = .ok (.iconst 1, 1) := by decide +kernel
theorem dL_law__1017 : decode cL_law_ 1017 = .ok (.iadd, 1) := by decide +kernel
theorem dL_law__1018 : decode cL_law_ 1018 = .ok (.iaload, 1) := by decide +kernel
theorem dL_law__1019 : decode cL_law_ 1019 = .ok (.invokevirtual 204, 3) := by decide +kernel
theorem wi_1793 : Cond.methodLink RL 204 yX10_chain ∈ WA := zin 1793 (by decide +kernel) (by decide +kernel)
theorem wi_1796 : Cond.code yX10_chain cX10_chain 2 (some .int) ∈ WA := zin 1796 (by decide +kernel) (by decide +kernel)
theorem wi_1794 : Cond.instanceMethod yX10_chain ∈ WA := zin 1794 (by decide +kernel) (by decide +kernel)
theorem wi_1795 : Cond.selects RX10 yX10_chain yX10_chain ∈ WA := zin 1795 (by decide +kernel) (by decide +kernel)
theorem mv_L_204 : zMv RL 204 RX10 mX10_chain 1 := ⟨⟨wi_1793, wi_110, wi_1796, by decide, by decide +kernel⟩, wi_1794, wi_1795⟩
theorem dL_law__1022 : decode cL_law_ 1022 = .ok (.istore 6, 2) := by decide +kernel
theorem dL_law__1024 : decode cL_law_ 1024 = .ok (.goto 758, 3) := by decide +kernel
theorem dL_law__1027 : decode cL_law_ 1027 = .ok (.aload_n 1, 1) := by decide +kernel
theorem dL_law__1028 : decode cL_law_ 1028 = .ok (.aload_n 0, 1) := by decide +kernel
theorem dL_law__1029 : decode cL_law_ 1029 = .ok (.iload 4, 2) := by decide +kernel
theorem dL_law__1031 : decode cL_law_ 1031 = .ok (.iconst 1, 1) := by decide +kernel
theorem dL_law__1032 : decode cL_law_ 1032 = .ok (.iadd, 1) := by decide +kernel
theorem dL_law__1033 : decode cL_law_ 1033 = .ok (.iaload, 1) := by decide +kernel
theorem dL_law__1034 : decode cL_law_ 1034 = .ok (.aload_n 0, 1) := by decide +kernel
theorem dL_law__1035 : decode cL_law_ 1035 = .ok (.iload 4, 2) := by decide +kernel
theorem dL_law__1037 : decode cL_law_ 1037 = .ok (.iconst 2, 1) := by decide +kernel
theorem dL_law__1038 : decode cL_law_ 1038 = .ok (.iadd, 1) := by decide +kernel
theorem dL_law__1039 : decode cL_law_ 1039 = .ok (.iaload, 1) := by decide +kernel
theorem dL_law__1040 : decode cL_law_ 1040 = .ok (.aload_n 3, 1) := by decide +kernel
theorem dL_law__1041 : decode cL_law_ 1041 = .ok (.invokestatic 205, 3) := by decide +kernel
theorem wi_1081 : Cond.codeWith yL_since cL_since 5 (some .int) [(0, 10, 13, 24), (0, 10, 17, 13)] ∈ WA := zin 1081 (by decide +kernel) (by decide +kernel)
theorem wi_1079 : Cond.methodLink RL 205 yL_since ∈ WA := zin 1079 (by decide +kernel) (by decide +kernel)
theorem wi_1080 : Cond.static yL_since ∈ WA := zin 1080 (by decide +kernel) (by decide +kernel)
theorem mw_L_205 : zMw RL 205 mL_since [(0, 10, 13, 24), (0, 10, 17, 13)] 4 := ⟨wi_1079, wi_99, wi_1081, by decide, by decide +kernel, wi_1080⟩
theorem dL_law__1044 : decode cL_law_ 1044 = .ok (.istore 5, 2) := by decide +kernel
theorem dL_law__1046 : decode cL_law_ 1046 = .ok (.aload_n 2, 1) := by decide +kernel
theorem dL_law__1047 : decode cL_law_ 1047 = .ok (.aload_n 0, 1) := by decide +kernel
theorem dL_law__1048 : decode cL_law_ 1048 = .ok (.iload 4, 2) := by decide +kernel
theorem dL_law__1050 : decode cL_law_ 1050 = .ok (.iconst 1, 1) := by decide +kernel
theorem dL_law__1051 : decode cL_law_ 1051 = .ok (.iadd, 1) := by decide +kernel
theorem dL_law__1052 : decode cL_law_ 1052 = .ok (.iaload, 1) := by decide +kernel
theorem dL_law__1053 : decode cL_law_ 1053 = .ok (.aload_n 0, 1) := by decide +kernel
theorem dL_law__1054 : decode cL_law_ 1054 = .ok (.iload 4, 2) := by decide +kernel
theorem dL_law__1056 : decode cL_law_ 1056 = .ok (.iconst 2, 1) := by decide +kernel
theorem dL_law__1057 : decode cL_law_ 1057 = .ok (.iadd, 1) := by decide +kernel
theorem dL_law__1058 : decode cL_law_ 1058 = .ok (.iaload, 1) := by decide +kernel
theorem dL_law__1059 : decode cL_law_ 1059 = .ok (.invokevirtual 207, 3) := by decide +kernel
theorem wi_1805 : Cond.methodLink RL 207 yX10_since ∈ WA := zin 1805 (by decide +kernel) (by decide +kernel)
theorem wi_1808 : Cond.code yX10_since cX10_since 5 (some .int) ∈ WA := zin 1808 (by decide +kernel) (by decide +kernel)
theorem wi_1806 : Cond.instanceMethod yX10_since ∈ WA := zin 1806 (by decide +kernel) (by decide +kernel)
theorem wi_1807 : Cond.selects RX10 yX10_since yX10_since ∈ WA := zin 1807 (by decide +kernel) (by decide +kernel)
theorem mv_L_207 : zMv RL 207 RX10 mX10_since 2 := ⟨⟨wi_1805, wi_110, wi_1808, by decide, by decide +kernel⟩, wi_1806, wi_1807⟩
theorem dL_law__1062 : decode cL_law_ 1062 = .ok (.istore 6, 2) := by decide +kernel
theorem dL_law__1064 : decode cL_law_ 1064 = .ok (.goto 718, 3) := by decide +kernel
theorem dL_law__1067 : decode cL_law_ 1067 = .ok (.aload_n 1, 1) := by decide +kernel
theorem dL_law__1068 : decode cL_law_ 1068 = .ok (.aload_n 3, 1) := by decide +kernel
theorem dL_law__1069 : decode cL_law_ 1069 = .ok (.invokestatic 208, 3) := by decide +kernel
theorem wi_1089 : Cond.codeWith yL_whose cL_whose 3 (some .int) [(0, 8, 11, 13)] ∈ WA := zin 1089 (by decide +kernel) (by decide +kernel)
theorem wi_1087 : Cond.methodLink RL 208 yL_whose ∈ WA := zin 1087 (by decide +kernel) (by decide +kernel)
theorem wi_1088 : Cond.static yL_whose ∈ WA := zin 1088 (by decide +kernel) (by decide +kernel)
theorem mw_L_208 : zMw RL 208 mL_whose [(0, 8, 11, 13)] 2 := ⟨wi_1087, wi_99, wi_1089, by decide, by decide +kernel, wi_1088⟩
theorem dL_law__1072 : decode cL_law_ 1072 = .ok (.istore 5, 2) := by decide +kernel
theorem dL_law__1074 : decode cL_law_ 1074 = .ok (.aload_n 2, 1) := by decide +kernel
theorem dL_law__1075 : decode cL_law_ 1075 = .ok (.invokevirtual 210, 3) := by decide +kernel
theorem wi_1809 : Cond.methodLink RL 210 yX10_whose ∈ WA := zin 1809 (by decide +kernel) (by decide +kernel)
theorem wi_1812 : Cond.code yX10_whose cX10_whose 1 (some .int) ∈ WA := zin 1812 (by decide +kernel) (by decide +kernel)
theorem wi_1810 : Cond.instanceMethod yX10_whose ∈ WA := zin 1810 (by decide +kernel) (by decide +kernel)
theorem wi_1811 : Cond.selects RX10 yX10_whose yX10_whose ∈ WA := zin 1811 (by decide +kernel) (by decide +kernel)
theorem mv_L_210 : zMv RL 210 RX10 mX10_whose 0 := ⟨⟨wi_1809, wi_110, wi_1812, by decide, by decide +kernel⟩, wi_1810, wi_1811⟩
theorem dL_law__1078 : decode cL_law_ 1078 = .ok (.istore 6, 2) := by decide +kernel
theorem dL_law__1080 : decode cL_law_ 1080 = .ok (.goto 702, 3) := by decide +kernel
theorem dL_law__1083 : decode cL_law_ 1083 = .ok (.aload_n 1, 1) := by decide +kernel
theorem dL_law__1084 : decode cL_law_ 1084 = .ok (.aload_n 3, 1) := by decide +kernel
theorem dL_law__1085 : decode cL_law_ 1085 = .ok (.invokestatic 211, 3) := by decide +kernel
theorem wi_1114 : Cond.codeWith yL_next cL_next 3 (some .int) [(0, 8, 11, 13)] ∈ WA := zin 1114 (by decide +kernel) (by decide +kernel)
theorem wi_1112 : Cond.methodLink RL 211 yL_next ∈ WA := zin 1112 (by decide +kernel) (by decide +kernel)
theorem wi_1113 : Cond.static yL_next ∈ WA := zin 1113 (by decide +kernel) (by decide +kernel)
theorem mw_L_211 : zMw RL 211 mL_next [(0, 8, 11, 13)] 2 := ⟨wi_1112, wi_99, wi_1114, by decide, by decide +kernel, wi_1113⟩
theorem dL_law__1088 : decode cL_law_ 1088 = .ok (.istore 5, 2) := by decide +kernel
theorem dL_law__1090 : decode cL_law_ 1090 = .ok (.aload_n 2, 1) := by decide +kernel
theorem dL_law__1091 : decode cL_law_ 1091 = .ok (.invokevirtual 213, 3) := by decide +kernel
theorem wi_1821 : Cond.methodLink RL 213 yX10_next ∈ WA := zin 1821 (by decide +kernel) (by decide +kernel)
theorem wi_1824 : Cond.code yX10_next cX10_next 9 (some .int) ∈ WA := zin 1824 (by decide +kernel) (by decide +kernel)
theorem wi_1822 : Cond.instanceMethod yX10_next ∈ WA := zin 1822 (by decide +kernel) (by decide +kernel)
theorem wi_1823 : Cond.selects RX10 yX10_next yX10_next ∈ WA := zin 1823 (by decide +kernel) (by decide +kernel)
theorem mv_L_213 : zMv RL 213 RX10 mX10_next 0 := ⟨⟨wi_1821, wi_110, wi_1824, by decide, by decide +kernel⟩, wi_1822, wi_1823⟩
theorem dL_law__1094 : decode cL_law_ 1094 = .ok (.istore 6, 2) := by decide +kernel
theorem dL_law__1096 : decode cL_law_ 1096 = .ok (.goto 686, 3) := by decide +kernel
theorem dL_law__1099 : decode cL_law_ 1099 = .ok (.aload_n 1, 1) := by decide +kernel
theorem dL_law__1100 : decode cL_law_ 1100 = .ok (.aload_n 0, 1) := by decide +kernel
theorem dL_law__1101 : decode cL_law_ 1101 = .ok (.iload 4, 2) := by decide +kernel
theorem dL_law__1103 : decode cL_law_ 1103 = .ok (.iconst 1, 1) := by decide +kernel
theorem dL_law__1104 : decode cL_law_ 1104 = .ok (.iadd, 1) := by decide +kernel
theorem dL_law__1105 : decode cL_law_ 1105 = .ok (.iaload, 1) := by decide +kernel
theorem dL_law__1106 : decode cL_law_ 1106 = .ok (.aload_n 0, 1) := by decide +kernel
theorem dL_law__1107 : decode cL_law_ 1107 = .ok (.iload 4, 2) := by decide +kernel
theorem dL_law__1109 : decode cL_law_ 1109 = .ok (.iconst 2, 1) := by decide +kernel
theorem dL_law__1110 : decode cL_law_ 1110 = .ok (.iadd, 1) := by decide +kernel
theorem dL_law__1111 : decode cL_law_ 1111 = .ok (.iaload, 1) := by decide +kernel
theorem dL_law__1112 : decode cL_law_ 1112 = .ok (.aload_n 3, 1) := by decide +kernel
theorem dL_law__1113 : decode cL_law_ 1113 = .ok (.invokestatic 214, 3) := by decide +kernel
theorem wi_1132 : Cond.codeWith yL_match cL_match 5 (some .int) [(0, 10, 13, 13)] ∈ WA := zin 1132 (by decide +kernel) (by decide +kernel)
theorem wi_1130 : Cond.methodLink RL 214 yL_match ∈ WA := zin 1130 (by decide +kernel) (by decide +kernel)
theorem wi_1131 : Cond.static yL_match ∈ WA := zin 1131 (by decide +kernel) (by decide +kernel)
theorem mw_L_214 : zMw RL 214 mL_match [(0, 10, 13, 13)] 4 := ⟨wi_1130, wi_99, wi_1132, by decide, by decide +kernel, wi_1131⟩
theorem dL_law__1116 : decode cL_law_ 1116 = .ok (.istore 5, 2) := by decide +kernel
theorem dL_law__1118 : decode cL_law_ 1118 = .ok (.aload_n 2, 1) := by decide +kernel
theorem dL_law__1119 : decode cL_law_ 1119 = .ok (.aload_n 0, 1) := by decide +kernel
theorem dL_law__1120 : decode cL_law_ 1120 = .ok (.iload 4, 2) := by decide +kernel
theorem dL_law__1122 : decode cL_law_ 1122 = .ok (.iconst 1, 1) := by decide +kernel
theorem dL_law__1123 : decode cL_law_ 1123 = .ok (.iadd, 1) := by decide +kernel
theorem dL_law__1124 : decode cL_law_ 1124 = .ok (.iaload, 1) := by decide +kernel
theorem dL_law__1125 : decode cL_law_ 1125 = .ok (.aload_n 0, 1) := by decide +kernel
theorem dL_law__1126 : decode cL_law_ 1126 = .ok (.iload 4, 2) := by decide +kernel
theorem dL_law__1128 : decode cL_law_ 1128 = .ok (.iconst 2, 1) := by decide +kernel
theorem dL_law__1129 : decode cL_law_ 1129 = .ok (.iadd, 1) := by decide +kernel
theorem dL_law__1130 : decode cL_law_ 1130 = .ok (.iaload, 1) := by decide +kernel
theorem dL_law__1131 : decode cL_law_ 1131 = .ok (.invokevirtual 216, 3) := by decide +kernel
theorem wi_1777 : Cond.methodLink RL 216 yX10_match ∈ WA := zin 1777 (by decide +kernel) (by decide +kernel)
theorem wi_1780 : Cond.code yX10_match cX10_match 9 (some .int) ∈ WA := zin 1780 (by decide +kernel) (by decide +kernel)
theorem wi_1778 : Cond.instanceMethod yX10_match ∈ WA := zin 1778 (by decide +kernel) (by decide +kernel)
theorem wi_1779 : Cond.selects RX10 yX10_match yX10_match ∈ WA := zin 1779 (by decide +kernel) (by decide +kernel)
theorem mv_L_216 : zMv RL 216 RX10 mX10_match 2 := ⟨⟨wi_1777, wi_110, wi_1780, by decide, by decide +kernel⟩, wi_1778, wi_1779⟩
theorem dL_law__1134 : decode cL_law_ 1134 = .ok (.istore 6, 2) := by decide +kernel
theorem dL_law__1136 : decode cL_law_ 1136 = .ok (.goto 646, 3) := by decide +kernel
theorem dL_law__1139 : decode cL_law_ 1139 = .ok (.aload_n 1, 1) := by decide +kernel
theorem dL_law__1140 : decode cL_law_ 1140 = .ok (.aload_n 0, 1) := by decide +kernel
theorem dL_law__1141 : decode cL_law_ 1141 = .ok (.iload 4, 2) := by decide +kernel
theorem dL_law__1143 : decode cL_law_ 1143 = .ok (.iconst 1, 1) := by decide +kernel
theorem dL_law__1144 : decode cL_law_ 1144 = .ok (.iadd, 1) := by decide +kernel
theorem dL_law__1145 : decode cL_law_ 1145 = .ok (.iaload, 1) := by decide +kernel
theorem dL_law__1146 : decode cL_law_ 1146 = .ok (.aload_n 0, 1) := by decide +kernel
theorem dL_law__1147 : decode cL_law_ 1147 = .ok (.iload 4, 2) := by decide +kernel
theorem dL_law__1149 : decode cL_law_ 1149 = .ok (.iconst 2, 1) := by decide +kernel
theorem dL_law__1150 : decode cL_law_ 1150 = .ok (.iadd, 1) := by decide +kernel
theorem dL_law__1151 : decode cL_law_ 1151 = .ok (.iaload, 1) := by decide +kernel
theorem dL_law__1152 : decode cL_law_ 1152 = .ok (.aload_n 0, 1) := by decide +kernel
theorem dL_law__1153 : decode cL_law_ 1153 = .ok (.iload 4, 2) := by decide +kernel
theorem dL_law__1155 : decode cL_law_ 1155 = .ok (.iconst 3, 1) := by decide +kernel
theorem dL_law__1156 : decode cL_law_ 1156 = .ok (.iadd, 1) := by decide +kernel
theorem dL_law__1157 : decode cL_law_ 1157 = .ok (.iaload, 1) := by decide +kernel
theorem dL_law__1158 : decode cL_law_ 1158 = .ok (.aload_n 3, 1) := by decide +kernel
theorem dL_law__1159 : decode cL_law_ 1159 = .ok (.invokestatic 217, 3) := by decide +kernel
theorem wi_1151 : Cond.codeWith yL_rests cL_rests 6 (some .int) [(0, 12, 15, 24), (0, 12, 19, 13)] ∈ WA := zin 1151 (by decide +kernel) (by decide +kernel)
theorem wi_1149 : Cond.methodLink RL 217 yL_rests ∈ WA := zin 1149 (by decide +kernel) (by decide +kernel)
theorem wi_1150 : Cond.static yL_rests ∈ WA := zin 1150 (by decide +kernel) (by decide +kernel)
theorem mw_L_217 : zMw RL 217 mL_rests [(0, 12, 15, 24), (0, 12, 19, 13)] 5 := ⟨wi_1149, wi_99, wi_1151, by decide, by decide +kernel, wi_1150⟩
theorem dL_law__1162 : decode cL_law_ 1162 = .ok (.istore 5, 2) := by decide +kernel
theorem dL_law__1164 : decode cL_law_ 1164 = .ok (.aload_n 2, 1) := by decide +kernel
theorem dL_law__1165 : decode cL_law_ 1165 = .ok (.aload_n 0, 1) := by decide +kernel
theorem dL_law__1166 : decode cL_law_ 1166 = .ok (.iload 4, 2) := by decide +kernel
theorem dL_law__1168 : decode cL_law_ 1168 = .ok (.iconst 1, 1) := by decide +kernel
theorem dL_law__1169 : decode cL_law_ 1169 = .ok (.iadd, 1) := by decide +kernel
theorem dL_law__1170 : decode cL_law_ 1170 = .ok (.iaload, 1) := by decide +kernel
theorem dL_law__1171 : decode cL_law_ 1171 = .ok (.aload_n 0, 1) := by decide +kernel
theorem dL_law__1172 : decode cL_law_ 1172 = .ok (.iload 4, 2) := by decide +kernel
theorem dL_law__1174 : decode cL_law_ 1174 = .ok (.iconst 2, 1) := by decide +kernel
theorem dL_law__1175 : decode cL_law_ 1175 = .ok (.iadd, 1) := by decide +kernel
theorem dL_law__1176 : decode cL_law_ 1176 = .ok (.iaload, 1) := by decide +kernel
theorem dL_law__1177 : decode cL_law_ 1177 = .ok (.aload_n 0, 1) := by decide +kernel
theorem dL_law__1178 : decode cL_law_ 1178 = .ok (.iload 4, 2) := by decide +kernel
theorem dL_law__1180 : decode cL_law_ 1180 = .ok (.iconst 3, 1) := by decide +kernel
theorem dL_law__1181 : decode cL_law_ 1181 = .ok (.iadd, 1) := by decide +kernel
theorem dL_law__1182 : decode cL_law_ 1182 = .ok (.iaload, 1) := by decide +kernel
theorem dL_law__1183 : decode cL_law_ 1183 = .ok (.invokevirtual 219, 3) := by decide +kernel
theorem wi_1825 : Cond.methodLink RL 219 yX10_rests ∈ WA := zin 1825 (by decide +kernel) (by decide +kernel)
theorem wi_1828 : Cond.code yX10_rests cX10_rests 8 (some .int) ∈ WA := zin 1828 (by decide +kernel) (by decide +kernel)
theorem wi_1826 : Cond.instanceMethod yX10_rests ∈ WA := zin 1826 (by decide +kernel) (by decide +kernel)
theorem wi_1827 : Cond.selects RX10 yX10_rests yX10_rests ∈ WA := zin 1827 (by decide +kernel) (by decide +kernel)
theorem mv_L_219 : zMv RL 219 RX10 mX10_rests 3 := ⟨⟨wi_1825, wi_110, wi_1828, by decide, by decide +kernel⟩, wi_1826, wi_1827⟩
theorem dL_law__1186 : decode cL_law_ 1186 = .ok (.istore 6, 2) := by decide +kernel
theorem dL_law__1188 : decode cL_law_ 1188 = .ok (.goto 594, 3) := by decide +kernel
theorem dL_law__1191 : decode cL_law_ 1191 = .ok (.aload_n 1, 1) := by decide +kernel
theorem dL_law__1192 : decode cL_law_ 1192 = .ok (.aload_n 0, 1) := by decide +kernel
theorem dL_law__1193 : decode cL_law_ 1193 = .ok (.iload 4, 2) := by decide +kernel
theorem dL_law__1195 : decode cL_law_ 1195 = .ok (.iconst 1, 1) := by decide +kernel
theorem dL_law__1196 : decode cL_law_ 1196 = .ok (.iadd, 1) := by decide +kernel
theorem dL_law__1197 : decode cL_law_ 1197 = .ok (.iaload, 1) := by decide +kernel
theorem dL_law__1198 : decode cL_law_ 1198 = .ok (.aload_n 3, 1) := by decide +kernel
theorem dL_law__1199 : decode cL_law_ 1199 = .ok (.invokestatic 220, 3) := by decide +kernel
theorem wi_1169 : Cond.codeWith yL_sells cL_sells 4 (some .int) [(0, 9, 12, 13)] ∈ WA := zin 1169 (by decide +kernel) (by decide +kernel)
theorem wi_1167 : Cond.methodLink RL 220 yL_sells ∈ WA := zin 1167 (by decide +kernel) (by decide +kernel)
theorem wi_1168 : Cond.static yL_sells ∈ WA := zin 1168 (by decide +kernel) (by decide +kernel)
theorem mw_L_220 : zMw RL 220 mL_sells [(0, 9, 12, 13)] 3 := ⟨wi_1167, wi_99, wi_1169, by decide, by decide +kernel, wi_1168⟩
theorem dL_law__1202 : decode cL_law_ 1202 = .ok (.istore 5, 2) := by decide +kernel
theorem dL_law__1204 : decode cL_law_ 1204 = .ok (.aload_n 2, 1) := by decide +kernel
theorem dL_law__1205 : decode cL_law_ 1205 = .ok (.aload_n 0, 1) := by decide +kernel
theorem dL_law__1206 : decode cL_law_ 1206 = .ok (.iload 4, 2) := by decide +kernel
theorem dL_law__1208 : decode cL_law_ 1208 = .ok (.iconst 1, 1) := by decide +kernel
theorem dL_law__1209 : decode cL_law_ 1209 = .ok (.iadd, 1) := by decide +kernel
theorem dL_law__1210 : decode cL_law_ 1210 = .ok (.iaload, 1) := by decide +kernel
theorem dL_law__1211 : decode cL_law_ 1211 = .ok (.invokevirtual 222, 3) := by decide +kernel
theorem wi_1837 : Cond.methodLink RL 222 yX10_sells ∈ WA := zin 1837 (by decide +kernel) (by decide +kernel)
theorem wi_1840 : Cond.code yX10_sells cX10_sells 2 (some .int) ∈ WA := zin 1840 (by decide +kernel) (by decide +kernel)
theorem wi_1838 : Cond.instanceMethod yX10_sells ∈ WA := zin 1838 (by decide +kernel) (by decide +kernel)
theorem wi_1839 : Cond.selects RX10 yX10_sells yX10_sells ∈ WA := zin 1839 (by decide +kernel) (by decide +kernel)
theorem mv_L_222 : zMv RL 222 RX10 mX10_sells 1 := ⟨⟨wi_1837, wi_110, wi_1840, by decide, by decide +kernel⟩, wi_1838, wi_1839⟩
theorem dL_law__1214 : decode cL_law_ 1214 = .ok (.istore 6, 2) := by decide +kernel
theorem dL_law__1216 : decode cL_law_ 1216 = .ok (.goto 566, 3) := by decide +kernel
theorem dL_law__1219 : decode cL_law_ 1219 = .ok (.aload_n 1, 1) := by decide +kernel
theorem dL_law__1220 : decode cL_law_ 1220 = .ok (.invokevirtual 223, 3) := by decide +kernel
theorem wi_417 : Cond.methodLink RL 223 yX9_dearest ∈ WA := zin 417 (by decide +kernel) (by decide +kernel)
theorem wi_420 : Cond.code yX9_dearest cX9_dearest 3 (some .int) ∈ WA := zin 420 (by decide +kernel) (by decide +kernel)
theorem wi_418 : Cond.instanceMethod yX9_dearest ∈ WA := zin 418 (by decide +kernel) (by decide +kernel)
theorem wi_419 : Cond.selects RX9 yX9_dearest yX9_dearest ∈ WA := zin 419 (by decide +kernel) (by decide +kernel)
theorem mv_L_223 : zMv RL 223 RX9 mX9_dearest 0 := ⟨⟨wi_417, wi_100, wi_420, by decide, by decide +kernel⟩, wi_418, wi_419⟩
theorem dL_law__1223 : decode cL_law_ 1223 = .ok (.pop, 1) := by decide +kernel
theorem dL_law__1224 : decode cL_law_ 1224 = .ok (.aload_n 2, 1) := by decide +kernel
theorem dL_law__1225 : decode cL_law_ 1225 = .ok (.invokevirtual 226, 3) := by decide +kernel
theorem wi_1848 : Cond.methodLink RL 226 yX10_dearest ∈ WA := zin 1848 (by decide +kernel) (by decide +kernel)
theorem wi_1851 : Cond.code yX10_dearest cX10_dearest 3 (some .int) ∈ WA := zin 1851 (by decide +kernel) (by decide +kernel)
theorem wi_1849 : Cond.instanceMethod yX10_dearest ∈ WA := zin 1849 (by decide +kernel) (by decide +kernel)
theorem wi_1850 : Cond.selects RX10 yX10_dearest yX10_dearest ∈ WA := zin 1850 (by decide +kernel) (by decide +kernel)
theorem mv_L_226 : zMv RL 226 RX10 mX10_dearest 0 := ⟨⟨wi_1848, wi_110, wi_1851, by decide, by decide +kernel⟩, wi_1849, wi_1850⟩
theorem dL_law__1228 : decode cL_law_ 1228 = .ok (.pop, 1) := by decide +kernel
theorem dL_law__1229 : decode cL_law_ 1229 = .ok (.goto 553, 3) := by decide +kernel
theorem dL_law__1232 : decode cL_law_ 1232 = .ok (.aload_n 1, 1) := by decide +kernel
theorem dL_law__1233 : decode cL_law_ 1233 = .ok (.invokevirtual 227, 3) := by decide +kernel
theorem wi_437 : Cond.methodLink RL 227 yX9_unlucky ∈ WA := zin 437 (by decide +kernel) (by decide +kernel)
theorem wi_440 : Cond.code yX9_unlucky cX9_unlucky 3 (some .int) ∈ WA := zin 440 (by decide +kernel) (by decide +kernel)
theorem wi_438 : Cond.instanceMethod yX9_unlucky ∈ WA := zin 438 (by decide +kernel) (by decide +kernel)
theorem wi_439 : Cond.selects RX9 yX9_unlucky yX9_unlucky ∈ WA := zin 439 (by decide +kernel) (by decide +kernel)
theorem mv_L_227 : zMv RL 227 RX9 mX9_unlucky 0 := ⟨⟨wi_437, wi_100, wi_440, by decide, by decide +kernel⟩, wi_438, wi_439⟩
theorem dL_law__1236 : decode cL_law_ 1236 = .ok (.pop, 1) := by decide +kernel
theorem dL_law__1237 : decode cL_law_ 1237 = .ok (.aload_n 2, 1) := by decide +kernel
theorem dL_law__1238 : decode cL_law_ 1238 = .ok (.invokevirtual 230, 3) := by decide +kernel
theorem wi_1852 : Cond.methodLink RL 230 yX10_unlucky ∈ WA := zin 1852 (by decide +kernel) (by decide +kernel)
theorem wi_1855 : Cond.code yX10_unlucky cX10_unlucky 3 (some .int) ∈ WA := zin 1855 (by decide +kernel) (by decide +kernel)
theorem wi_1853 : Cond.instanceMethod yX10_unlucky ∈ WA := zin 1853 (by decide +kernel) (by decide +kernel)
theorem wi_1854 : Cond.selects RX10 yX10_unlucky yX10_unlucky ∈ WA := zin 1854 (by decide +kernel) (by decide +kernel)
theorem mv_L_230 : zMv RL 230 RX10 mX10_unlucky 0 := ⟨⟨wi_1852, wi_110, wi_1855, by decide, by decide +kernel⟩, wi_1853, wi_1854⟩
theorem dL_law__1241 : decode cL_law_ 1241 = .ok (.pop, 1) := by decide +kernel
theorem dL_law__1242 : decode cL_law_ 1242 = .ok (.goto 540, 3) := by decide +kernel
theorem dL_law__1245 : decode cL_law_ 1245 = .ok (.aload_n 1, 1) := by decide +kernel
theorem dL_law__1246 : decode cL_law_ 1246 = .ok (.aload_n 0, 1) := by decide +kernel
theorem dL_law__1247 : decode cL_law_ 1247 = .ok (.iload 4, 2) := by decide +kernel
theorem dL_law__1249 : decode cL_law_ 1249 = .ok (.iconst 1, 1) := by decide +kernel
theorem dL_law__1250 : decode cL_law_ 1250 = .ok (.iadd, 1) := by decide +kernel
theorem dL_law__1251 : decode cL_law_ 1251 = .ok (.iaload, 1) := by decide +kernel
theorem dL_law__1252 : decode cL_law_ 1252 = .ok (.aload_n 3, 1) := by decide +kernel
theorem dL_law__1253 : decode cL_law_ 1253 = .ok (.invokestatic 231, 3) := by decide +kernel
theorem wi_1177 : Cond.codeWith yL_luckiest cL_luckiest 4 (some .int) [(0, 9, 12, 24)] ∈ WA := zin 1177 (by decide +kernel) (by decide +kernel)
theorem wi_1175 : Cond.methodLink RL 231 yL_luckiest ∈ WA := zin 1175 (by decide +kernel) (by decide +kernel)
theorem wi_1176 : Cond.static yL_luckiest ∈ WA := zin 1176 (by decide +kernel) (by decide +kernel)
theorem mw_L_231 : zMw RL 231 mL_luckiest [(0, 9, 12, 24)] 3 := ⟨wi_1175, wi_99, wi_1177, by decide, by decide +kernel, wi_1176⟩
theorem dL_law__1256 : decode cL_law_ 1256 = .ok (.istore 5, 2) := by decide +kernel
theorem dL_law__1258 : decode cL_law_ 1258 = .ok (.aload_n 2, 1) := by decide +kernel
theorem dL_law__1259 : decode cL_law_ 1259 = .ok (.aload_n 0, 1) := by decide +kernel
theorem dL_law__1260 : decode cL_law_ 1260 = .ok (.iload 4, 2) := by decide +kernel
theorem dL_law__1262 : decode cL_law_ 1262 = .ok (.iconst 1, 1) := by decide +kernel
theorem dL_law__1263 : decode cL_law_ 1263 = .ok (.iadd, 1) := by decide +kernel
theorem dL_law__1264 : decode cL_law_ 1264 = .ok (.iaload, 1) := by decide +kernel
theorem dL_law__1265 : decode cL_law_ 1265 = .ok (.invokevirtual 233, 3) := by decide +kernel
theorem wi_1856 : Cond.methodLink RL 233 yX10_luckiest ∈ WA := zin 1856 (by decide +kernel) (by decide +kernel)
theorem wi_1859 : Cond.code yX10_luckiest cX10_luckiest 4 (some .int) ∈ WA := zin 1859 (by decide +kernel) (by decide +kernel)
theorem wi_1857 : Cond.instanceMethod yX10_luckiest ∈ WA := zin 1857 (by decide +kernel) (by decide +kernel)
theorem wi_1858 : Cond.selects RX10 yX10_luckiest yX10_luckiest ∈ WA := zin 1858 (by decide +kernel) (by decide +kernel)
theorem mv_L_233 : zMv RL 233 RX10 mX10_luckiest 1 := ⟨⟨wi_1856, wi_110, wi_1859, by decide, by decide +kernel⟩, wi_1857, wi_1858⟩
theorem dL_law__1268 : decode cL_law_ 1268 = .ok (.istore 6, 2) := by decide +kernel
theorem dL_law__1270 : decode cL_law_ 1270 = .ok (.goto 512, 3) := by decide +kernel
section LawC
variable {G0 : Gx} {b0 L m i : Nat} {xs : Nat → Int32} {ad : Nat → Nat} {I : Hi} {x5 x6 : Option Value}
theorem lc_chain (h9 : gad G0 998 = b0) (hL : L ≤ 3072) (hi : i + 6 ≤ L) (hI : LI I) (kk : ∀ (J : Hi) (x5 x6 : Option Value), LI J → Rn (gw G0 ad) GAM mL_law_ (kZ (kL b0 L xs) G0 0 ad 108) 60 (8 * m) 1782 [some (.ref 998), some (.ref 0), some (.ref 94), some (.ref 107), some (.int (nI i)), x5, x6] [] J) : Rn (gw G0 ad) GAM mL_law_ (kZ (kL b0 L xs) G0 0 ad 108) 60 (8 * m + 8) 999 [some (.ref 998), some (.ref 0), some (.ref 94), some (.ref 107), some (.int (nI i)), x5, x6] [] I := by
  refine Rn.aload_n dL_law__999 rfl rfl ?_
  refine Rn.aload_n dL_law__1000 rfl rfl ?_
  refine Rn.iload dL_law__1001 rfl ?_
  refine Rn.iconst (v := (nI 1)) dL_law__1003 rfl ?_
  refine Rn.iadd dL_law__1004 ?_
  refine Rn.topI (nI (i + 1)) (nI_add _ _) ?_
  refine Rn.sld dL_law__1005 h9 (by omega) (by omega) rfl ?_
  refine Rn.aload_n dL_law__1006 rfl rfl ?_
  refine Rn.callW (b := 8 * m + 7) (mc := 1) (As := [_, _, _]) dL_law__1007 mw_L_202 rfl rfl (Nat.le_of_ble_eq_true rfl) (wr_chain _ _ _ _ hI.1 hI.2.1) (fun _ _ h => h) (fun v J1 h => ?_)
  obtain ⟨⟨r1, rfl⟩, hQ1⟩ := h
  refine Rn.istore dL_law__1010 (by decide) ?_
  refine Rn.aload_n dL_law__1012 rfl rfl ?_
  refine Rn.aload_n dL_law__1013 rfl rfl ?_
  refine Rn.iload dL_law__1014 rfl ?_
  refine Rn.iconst (v := (nI 1)) dL_law__1016 rfl ?_
  refine Rn.iadd dL_law__1017 ?_
  refine Rn.topI (nI (i + 1)) (nI_add _ _) ?_
  refine Rn.sld dL_law__1018 h9 (by omega) (by omega) rfl ?_
  refine Rn.callV (As := [_]) dL_law__1019 mv_L_204 (by first | rfl | exact gC0 (by assumption) | exact gL0 (by assumption)) rfl rfl rfl (Nat.le_of_ble_eq_true rfl) (mo_chain _ _ _ _ hQ1.1 hQ1.2.1) (fun _ _ h => h) (fun v J2 h => ?_)
  obtain ⟨⟨r2, rfl⟩, hQ2⟩ := h
  refine Rn.istore dL_law__1022 (by decide) ?_
  refine Rn.goto 1782 dL_law__1024 (by decide) ?_
  exact Rn.bud (by omega) (kk _ _ _ (hI.of (hQ1.tr hQ2)))
theorem lc_since (h9 : gad G0 998 = b0) (hL : L ≤ 3072) (hi : i + 6 ≤ L) (hI : LI I) (kk : ∀ (J : Hi) (x5 x6 : Option Value), LI J → Rn (gw G0 ad) GAM mL_law_ (kZ (kL b0 L xs) G0 0 ad 108) 60 (8 * m) 1782 [some (.ref 998), some (.ref 0), some (.ref 94), some (.ref 107), some (.int (nI i)), x5, x6] [] J) : Rn (gw G0 ad) GAM mL_law_ (kZ (kL b0 L xs) G0 0 ad 108) 60 (8 * m + 8) 1027 [some (.ref 998), some (.ref 0), some (.ref 94), some (.ref 107), some (.int (nI i)), x5, x6] [] I := by
  refine Rn.aload_n dL_law__1027 rfl rfl ?_
  refine Rn.aload_n dL_law__1028 rfl rfl ?_
  refine Rn.iload dL_law__1029 rfl ?_
  refine Rn.iconst (v := (nI 1)) dL_law__1031 rfl ?_
  refine Rn.iadd dL_law__1032 ?_
  refine Rn.topI (nI (i + 1)) (nI_add _ _) ?_
  refine Rn.sld dL_law__1033 h9 (by omega) (by omega) rfl ?_
  refine Rn.aload_n dL_law__1034 rfl rfl ?_
  refine Rn.iload dL_law__1035 rfl ?_
  refine Rn.iconst (v := (nI 2)) dL_law__1037 rfl ?_
  refine Rn.iadd dL_law__1038 ?_
  refine Rn.topI (nI (i + 2)) (nI_add _ _) ?_
  refine Rn.sld dL_law__1039 h9 (by omega) (by omega) rfl ?_
  refine Rn.aload_n dL_law__1040 rfl rfl ?_
  refine Rn.callW (b := 8 * m + 5) (mc := 3) (As := [_, _, _, _]) dL_law__1041 mw_L_205 rfl rfl (Nat.le_of_ble_eq_true rfl) (wr_since _ _ _ _ _ hI.1 hI.2.1) (fun _ _ h => h) (fun v J1 h => ?_)
  obtain ⟨⟨r1, rfl⟩, hQ1⟩ := h
  refine Rn.istore dL_law__1044 (by decide) ?_
  refine Rn.aload_n dL_law__1046 rfl rfl ?_
  refine Rn.aload_n dL_law__1047 rfl rfl ?_
  refine Rn.iload dL_law__1048 rfl ?_
  refine Rn.iconst (v := (nI 1)) dL_law__1050 rfl ?_
  refine Rn.iadd dL_law__1051 ?_
  refine Rn.topI (nI (i + 1)) (nI_add _ _) ?_
  refine Rn.sld dL_law__1052 h9 (by omega) (by omega) rfl ?_
  refine Rn.aload_n dL_law__1053 rfl rfl ?_
  refine Rn.iload dL_law__1054 rfl ?_
  refine Rn.iconst (v := (nI 2)) dL_law__1056 rfl ?_
  refine Rn.iadd dL_law__1057 ?_
  refine Rn.topI (nI (i + 2)) (nI_add _ _) ?_
  refine Rn.sld dL_law__1058 h9 (by omega) (by omega) rfl ?_
  refine Rn.callV (As := [_, _]) dL_law__1059 mv_L_207 (by first | rfl | exact gC0 (by assumption) | exact gL0 (by assumption)) rfl rfl rfl (Nat.le_of_ble_eq_true rfl) (mo_since _ _ _ _ _ hQ1.1 hQ1.2.1) (fun _ _ h => h) (fun v J2 h => ?_)
  obtain ⟨⟨r2, rfl⟩, hQ2⟩ := h
  refine Rn.istore dL_law__1062 (by decide) ?_
  refine Rn.goto 1782 dL_law__1064 (by decide) ?_
  exact Rn.bud (by omega) (kk _ _ _ (hI.of (hQ1.tr hQ2)))
theorem lc_whose (h9 : gad G0 998 = b0) (hL : L ≤ 3072) (hi : i + 6 ≤ L) (hI : LI I) (kk : ∀ (J : Hi) (x5 x6 : Option Value), LI J → Rn (gw G0 ad) GAM mL_law_ (kZ (kL b0 L xs) G0 0 ad 108) 60 (8 * m) 1782 [some (.ref 998), some (.ref 0), some (.ref 94), some (.ref 107), some (.int (nI i)), x5, x6] [] J) : Rn (gw G0 ad) GAM mL_law_ (kZ (kL b0 L xs) G0 0 ad 108) 60 (8 * m + 8) 1067 [some (.ref 998), some (.ref 0), some (.ref 94), some (.ref 107), some (.int (nI i)), x5, x6] [] I := by
  refine Rn.aload_n dL_law__1067 rfl rfl ?_
  refine Rn.aload_n dL_law__1068 rfl rfl ?_
  refine Rn.callW (b := 8 * m + 7) (mc := 1) (As := [_, _]) dL_law__1069 mw_L_208 rfl rfl (Nat.le_of_ble_eq_true rfl) (wr_whose _ _ _ hI.1 hI.2.1) (fun _ _ h => h) (fun v J1 h => ?_)
  obtain ⟨⟨r1, rfl⟩, hQ1⟩ := h
  refine Rn.istore dL_law__1072 (by decide) ?_
  refine Rn.aload_n dL_law__1074 rfl rfl ?_
  refine Rn.callV (As := []) dL_law__1075 mv_L_210 (by first | rfl | exact gC0 (by assumption) | exact gL0 (by assumption)) rfl rfl rfl (Nat.le_of_ble_eq_true rfl) (mo_whose _ _ _ hQ1.1 hQ1.2.1) (fun _ _ h => h) (fun v J2 h => ?_)
  obtain ⟨⟨r2, rfl⟩, hQ2⟩ := h
  refine Rn.istore dL_law__1078 (by decide) ?_
  refine Rn.goto 1782 dL_law__1080 (by decide) ?_
  exact Rn.bud (by omega) (kk _ _ _ (LI.take hI hQ1 hQ2))
theorem lc_next (h9 : gad G0 998 = b0) (hL : L ≤ 3072) (hi : i + 6 ≤ L) (hI : LI I) (kk : ∀ (J : Hi) (x5 x6 : Option Value), LI J → Rn (gw G0 ad) GAM mL_law_ (kZ (kL b0 L xs) G0 0 ad 108) 60 (8 * m) 1782 [some (.ref 998), some (.ref 0), some (.ref 94), some (.ref 107), some (.int (nI i)), x5, x6] [] J) : Rn (gw G0 ad) GAM mL_law_ (kZ (kL b0 L xs) G0 0 ad 108) 60 (8 * m + 8) 1083 [some (.ref 998), some (.ref 0), some (.ref 94), some (.ref 107), some (.int (nI i)), x5, x6] [] I := by
  refine Rn.aload_n dL_law__1083 rfl rfl ?_
  refine Rn.aload_n dL_law__1084 rfl rfl ?_
  refine Rn.callW (b := 8 * m + 7) (mc := 1) (As := [_, _]) dL_law__1085 mw_L_211 rfl rfl (Nat.le_of_ble_eq_true rfl) (wr_next _ _ _ hI.1 hI.2.1) (fun _ _ h => h) (fun v J1 h => ?_)
  obtain ⟨⟨r1, rfl⟩, hQ1⟩ := h
  refine Rn.istore dL_law__1088 (by decide) ?_
  refine Rn.aload_n dL_law__1090 rfl rfl ?_
  refine Rn.callV (As := []) dL_law__1091 mv_L_213 (by first | rfl | exact gC0 (by assumption) | exact gL0 (by assumption)) rfl rfl rfl (Nat.le_of_ble_eq_true rfl) (mo_next _ _ _ hQ1.1 hQ1.2.1) (fun _ _ h => h) (fun v J2 h => ?_)
  obtain ⟨⟨r2, rfl⟩, hQ2⟩ := h
  refine Rn.istore dL_law__1094 (by decide) ?_
  refine Rn.goto 1782 dL_law__1096 (by decide) ?_
  exact Rn.bud (by omega) (kk _ _ _ (LI.take hI hQ1 hQ2))
theorem lc_match (h9 : gad G0 998 = b0) (hL : L ≤ 3072) (hi : i + 6 ≤ L) (hI : LI I) (kk : ∀ (J : Hi) (x5 x6 : Option Value), LI J → Rn (gw G0 ad) GAM mL_law_ (kZ (kL b0 L xs) G0 0 ad 108) 60 (8 * m) 1782 [some (.ref 998), some (.ref 0), some (.ref 94), some (.ref 107), some (.int (nI i)), x5, x6] [] J) : Rn (gw G0 ad) GAM mL_law_ (kZ (kL b0 L xs) G0 0 ad 108) 60 (8 * m + 8) 1099 [some (.ref 998), some (.ref 0), some (.ref 94), some (.ref 107), some (.int (nI i)), x5, x6] [] I := by
  refine Rn.aload_n dL_law__1099 rfl rfl ?_
  refine Rn.aload_n dL_law__1100 rfl rfl ?_
  refine Rn.iload dL_law__1101 rfl ?_
  refine Rn.iconst (v := (nI 1)) dL_law__1103 rfl ?_
  refine Rn.iadd dL_law__1104 ?_
  refine Rn.topI (nI (i + 1)) (nI_add _ _) ?_
  refine Rn.sld dL_law__1105 h9 (by omega) (by omega) rfl ?_
  refine Rn.aload_n dL_law__1106 rfl rfl ?_
  refine Rn.iload dL_law__1107 rfl ?_
  refine Rn.iconst (v := (nI 2)) dL_law__1109 rfl ?_
  refine Rn.iadd dL_law__1110 ?_
  refine Rn.topI (nI (i + 2)) (nI_add _ _) ?_
  refine Rn.sld dL_law__1111 h9 (by omega) (by omega) rfl ?_
  refine Rn.aload_n dL_law__1112 rfl rfl ?_
  refine Rn.callW (b := 8 * m + 7) (mc := 1) (As := [_, _, _, _]) dL_law__1113 mw_L_214 rfl rfl (Nat.le_of_ble_eq_true rfl) (wr_match _ _ _ _ _ hI.1 hI.2.1) (fun _ _ h => h) (fun v J1 h => ?_)
  obtain ⟨⟨r1, rfl⟩, hQ1⟩ := h
  refine Rn.istore dL_law__1116 (by decide) ?_
  refine Rn.aload_n dL_law__1118 rfl rfl ?_
  refine Rn.aload_n dL_law__1119 rfl rfl ?_
  refine Rn.iload dL_law__1120 rfl ?_
  refine Rn.iconst (v := (nI 1)) dL_law__1122 rfl ?_
  refine Rn.iadd dL_law__1123 ?_
  refine Rn.topI (nI (i + 1)) (nI_add _ _) ?_
  refine Rn.sld dL_law__1124 h9 (by omega) (by omega) rfl ?_
  refine Rn.aload_n dL_law__1125 rfl rfl ?_
  refine Rn.iload dL_law__1126 rfl ?_
  refine Rn.iconst (v := (nI 2)) dL_law__1128 rfl ?_
  refine Rn.iadd dL_law__1129 ?_
  refine Rn.topI (nI (i + 2)) (nI_add _ _) ?_
  refine Rn.sld dL_law__1130 h9 (by omega) (by omega) rfl ?_
  refine Rn.callV (As := [_, _]) dL_law__1131 mv_L_216 (by first | rfl | exact gC0 (by assumption) | exact gL0 (by assumption)) rfl rfl rfl (Nat.le_of_ble_eq_true rfl) (mo_match _ _ _ _ _ hQ1.1 hQ1.2.1) (fun _ _ h => h) (fun v J2 h => ?_)
  obtain ⟨⟨r2, rfl⟩, hQ2⟩ := h
  refine Rn.istore dL_law__1134 (by decide) ?_
  refine Rn.goto 1782 dL_law__1136 (by decide) ?_
  exact Rn.bud (by omega) (kk _ _ _ (hI.of (hQ1.tr hQ2)))
theorem lc_rests (h9 : gad G0 998 = b0) (hL : L ≤ 3072) (hi : i + 6 ≤ L) (hI : LI I) (kk : ∀ (J : Hi) (x5 x6 : Option Value), LI J → Rn (gw G0 ad) GAM mL_law_ (kZ (kL b0 L xs) G0 0 ad 108) 60 (8 * m) 1782 [some (.ref 998), some (.ref 0), some (.ref 94), some (.ref 107), some (.int (nI i)), x5, x6] [] J) : Rn (gw G0 ad) GAM mL_law_ (kZ (kL b0 L xs) G0 0 ad 108) 60 (8 * m + 8) 1139 [some (.ref 998), some (.ref 0), some (.ref 94), some (.ref 107), some (.int (nI i)), x5, x6] [] I := by
  refine Rn.aload_n dL_law__1139 rfl rfl ?_
  refine Rn.aload_n dL_law__1140 rfl rfl ?_
  refine Rn.iload dL_law__1141 rfl ?_
  refine Rn.iconst (v := (nI 1)) dL_law__1143 rfl ?_
  refine Rn.iadd dL_law__1144 ?_
  refine Rn.topI (nI (i + 1)) (nI_add _ _) ?_
  refine Rn.sld dL_law__1145 h9 (by omega) (by omega) rfl ?_
  refine Rn.aload_n dL_law__1146 rfl rfl ?_
  refine Rn.iload dL_law__1147 rfl ?_
  refine Rn.iconst (v := (nI 2)) dL_law__1149 rfl ?_
  refine Rn.iadd dL_law__1150 ?_
  refine Rn.topI (nI (i + 2)) (nI_add _ _) ?_
  refine Rn.sld dL_law__1151 h9 (by omega) (by omega) rfl ?_
  refine Rn.aload_n dL_law__1152 rfl rfl ?_
  refine Rn.iload dL_law__1153 rfl ?_
  refine Rn.iconst (v := (nI 3)) dL_law__1155 rfl ?_
  refine Rn.iadd dL_law__1156 ?_
  refine Rn.topI (nI (i + 3)) (nI_add _ _) ?_
  refine Rn.sld dL_law__1157 h9 (by omega) (by omega) rfl ?_
  refine Rn.aload_n dL_law__1158 rfl rfl ?_
  refine Rn.callW (b := 8 * m + 4) (mc := 4) (As := [_, _, _, _, _]) dL_law__1159 mw_L_217 rfl rfl (Nat.le_of_ble_eq_true rfl) (wr_rests _ _ _ _ _ _ hI.1 hI.2.1) (fun _ _ h => h) (fun v J1 h => ?_)
  obtain ⟨⟨r1, rfl⟩, hQ1⟩ := h
  refine Rn.istore dL_law__1162 (by decide) ?_
  refine Rn.aload_n dL_law__1164 rfl rfl ?_
  refine Rn.aload_n dL_law__1165 rfl rfl ?_
  refine Rn.iload dL_law__1166 rfl ?_
  refine Rn.iconst (v := (nI 1)) dL_law__1168 rfl ?_
  refine Rn.iadd dL_law__1169 ?_
  refine Rn.topI (nI (i + 1)) (nI_add _ _) ?_
  refine Rn.sld dL_law__1170 h9 (by omega) (by omega) rfl ?_
  refine Rn.aload_n dL_law__1171 rfl rfl ?_
  refine Rn.iload dL_law__1172 rfl ?_
  refine Rn.iconst (v := (nI 2)) dL_law__1174 rfl ?_
  refine Rn.iadd dL_law__1175 ?_
  refine Rn.topI (nI (i + 2)) (nI_add _ _) ?_
  refine Rn.sld dL_law__1176 h9 (by omega) (by omega) rfl ?_
  refine Rn.aload_n dL_law__1177 rfl rfl ?_
  refine Rn.iload dL_law__1178 rfl ?_
  refine Rn.iconst (v := (nI 3)) dL_law__1180 rfl ?_
  refine Rn.iadd dL_law__1181 ?_
  refine Rn.topI (nI (i + 3)) (nI_add _ _) ?_
  refine Rn.sld dL_law__1182 h9 (by omega) (by omega) rfl ?_
  refine Rn.callV (As := [_, _, _]) dL_law__1183 mv_L_219 (by first | rfl | exact gC0 (by assumption) | exact gL0 (by assumption)) rfl rfl rfl (Nat.le_of_ble_eq_true rfl) (mo_rests _ _ _ _ _ _ hQ1.1 hQ1.2.1) (fun _ _ h => h) (fun v J2 h => ?_)
  obtain ⟨⟨r2, rfl⟩, hQ2⟩ := h
  refine Rn.istore dL_law__1186 (by decide) ?_
  refine Rn.goto 1782 dL_law__1188 (by decide) ?_
  exact Rn.bud (by omega) (kk _ _ _ (hI.of (hQ1.tr hQ2)))
theorem lc_sells (h9 : gad G0 998 = b0) (hL : L ≤ 3072) (hi : i + 6 ≤ L) (hI : LI I) (kk : ∀ (J : Hi) (x5 x6 : Option Value), LI J → Rn (gw G0 ad) GAM mL_law_ (kZ (kL b0 L xs) G0 0 ad 108) 60 (8 * m) 1782 [some (.ref 998), some (.ref 0), some (.ref 94), some (.ref 107), some (.int (nI i)), x5, x6] [] J) : Rn (gw G0 ad) GAM mL_law_ (kZ (kL b0 L xs) G0 0 ad 108) 60 (8 * m + 8) 1191 [some (.ref 998), some (.ref 0), some (.ref 94), some (.ref 107), some (.int (nI i)), x5, x6] [] I := by
  refine Rn.aload_n dL_law__1191 rfl rfl ?_
  refine Rn.aload_n dL_law__1192 rfl rfl ?_
  refine Rn.iload dL_law__1193 rfl ?_
  refine Rn.iconst (v := (nI 1)) dL_law__1195 rfl ?_
  refine Rn.iadd dL_law__1196 ?_
  refine Rn.topI (nI (i + 1)) (nI_add _ _) ?_
  refine Rn.sld dL_law__1197 h9 (by omega) (by omega) rfl ?_
  refine Rn.aload_n dL_law__1198 rfl rfl ?_
  refine Rn.callW (b := 8 * m + 7) (mc := 1) (As := [_, _, _]) dL_law__1199 mw_L_220 rfl rfl (Nat.le_of_ble_eq_true rfl) (wr_sells _ _ _ _ hI.1 hI.2.1) (fun _ _ h => h) (fun v J1 h => ?_)
  obtain ⟨⟨r1, rfl⟩, hQ1⟩ := h
  refine Rn.istore dL_law__1202 (by decide) ?_
  refine Rn.aload_n dL_law__1204 rfl rfl ?_
  refine Rn.aload_n dL_law__1205 rfl rfl ?_
  refine Rn.iload dL_law__1206 rfl ?_
  refine Rn.iconst (v := (nI 1)) dL_law__1208 rfl ?_
  refine Rn.iadd dL_law__1209 ?_
  refine Rn.topI (nI (i + 1)) (nI_add _ _) ?_
  refine Rn.sld dL_law__1210 h9 (by omega) (by omega) rfl ?_
  refine Rn.callV (As := [_]) dL_law__1211 mv_L_222 (by first | rfl | exact gC0 (by assumption) | exact gL0 (by assumption)) rfl rfl rfl (Nat.le_of_ble_eq_true rfl) (mo_sells _ _ _ _ hQ1.1 hQ1.2.1) (fun _ _ h => h) (fun v J2 h => ?_)
  obtain ⟨⟨r2, rfl⟩, hQ2⟩ := h
  refine Rn.istore dL_law__1214 (by decide) ?_
  refine Rn.goto 1782 dL_law__1216 (by decide) ?_
  exact Rn.bud (by omega) (kk _ _ _ (hI.of (hQ1.tr hQ2)))
theorem lc_dearest (h9 : gad G0 998 = b0) (hL : L ≤ 3072) (hi : i + 6 ≤ L) (hI : LI I) (kk : ∀ (J : Hi) (x5 x6 : Option Value), LI J → Rn (gw G0 ad) GAM mL_law_ (kZ (kL b0 L xs) G0 0 ad 108) 60 (8 * m) 1782 [some (.ref 998), some (.ref 0), some (.ref 94), some (.ref 107), some (.int (nI i)), x5, x6] [] J) : Rn (gw G0 ad) GAM mL_law_ (kZ (kL b0 L xs) G0 0 ad 108) 60 (8 * m + 8) 1219 [some (.ref 998), some (.ref 0), some (.ref 94), some (.ref 107), some (.int (nI i)), x5, x6] [] I := by
  refine Rn.aload_n dL_law__1219 rfl rfl ?_
  refine Rn.callV (As := []) dL_law__1220 mv_L_223 (by first | rfl | exact gC0 (by assumption) | exact gL0 (by assumption)) rfl rfl rfl (Nat.le_of_ble_eq_true rfl) (xd_dearest _ _ _ hI.1 hI.2.1) (fun _ _ h => h) (fun v J1 h => ?_)
  obtain ⟨⟨r1, rfl⟩, hQ1⟩ := h
  refine Rn.pop dL_law__1223 rfl ?_
  refine Rn.aload_n dL_law__1224 rfl rfl ?_
  refine Rn.callV (As := []) dL_law__1225 mv_L_226 (by first | rfl | exact gC0 (by assumption) | exact gL0 (by assumption)) rfl rfl rfl (Nat.le_of_ble_eq_true rfl) (mo_dearest _ _ _ hQ1.1 hQ1.2.1) (fun _ _ h => h) (fun v J2 h => ?_)
  obtain ⟨⟨r2, rfl⟩, hQ2⟩ := h
  refine Rn.pop dL_law__1228 rfl ?_
  refine Rn.goto 1782 dL_law__1229 (by decide) ?_
  exact Rn.bud (by omega) (kk _ _ _ (hI.of (hQ1.tr hQ2)))
theorem lc_unlucky (h9 : gad G0 998 = b0) (hL : L ≤ 3072) (hi : i + 6 ≤ L) (hI : LI I) (kk : ∀ (J : Hi) (x5 x6 : Option Value), LI J → Rn (gw G0 ad) GAM mL_law_ (kZ (kL b0 L xs) G0 0 ad 108) 60 (8 * m) 1782 [some (.ref 998), some (.ref 0), some (.ref 94), some (.ref 107), some (.int (nI i)), x5, x6] [] J) : Rn (gw G0 ad) GAM mL_law_ (kZ (kL b0 L xs) G0 0 ad 108) 60 (8 * m + 8) 1232 [some (.ref 998), some (.ref 0), some (.ref 94), some (.ref 107), some (.int (nI i)), x5, x6] [] I := by
  refine Rn.aload_n dL_law__1232 rfl rfl ?_
  refine Rn.callV (As := []) dL_law__1233 mv_L_227 (by first | rfl | exact gC0 (by assumption) | exact gL0 (by assumption)) rfl rfl rfl (Nat.le_of_ble_eq_true rfl) (xd_unlucky _ _ _ hI.1 hI.2.1) (fun _ _ h => h) (fun v J1 h => ?_)
  obtain ⟨⟨r1, rfl⟩, hQ1⟩ := h
  refine Rn.pop dL_law__1236 rfl ?_
  refine Rn.aload_n dL_law__1237 rfl rfl ?_
  refine Rn.callV (As := []) dL_law__1238 mv_L_230 (by first | rfl | exact gC0 (by assumption) | exact gL0 (by assumption)) rfl rfl rfl (Nat.le_of_ble_eq_true rfl) (mo_unlucky _ _ _ hQ1.1 hQ1.2.1) (fun _ _ h => h) (fun v J2 h => ?_)
  obtain ⟨⟨r2, rfl⟩, hQ2⟩ := h
  refine Rn.pop dL_law__1241 rfl ?_
  refine Rn.goto 1782 dL_law__1242 (by decide) ?_
  exact Rn.bud (by omega) (kk _ _ _ (hI.of (hQ1.tr hQ2)))
theorem lc_luckiest (h9 : gad G0 998 = b0) (hL : L ≤ 3072) (hi : i + 6 ≤ L) (hI : LI I) (kk : ∀ (J : Hi) (x5 x6 : Option Value), LI J → Rn (gw G0 ad) GAM mL_law_ (kZ (kL b0 L xs) G0 0 ad 108) 60 (8 * m) 1782 [some (.ref 998), some (.ref 0), some (.ref 94), some (.ref 107), some (.int (nI i)), x5, x6] [] J) : Rn (gw G0 ad) GAM mL_law_ (kZ (kL b0 L xs) G0 0 ad 108) 60 (8 * m + 8) 1245 [some (.ref 998), some (.ref 0), some (.ref 94), some (.ref 107), some (.int (nI i)), x5, x6] [] I := by
  refine Rn.aload_n dL_law__1245 rfl rfl ?_
  refine Rn.aload_n dL_law__1246 rfl rfl ?_
  refine Rn.iload dL_law__1247 rfl ?_
  refine Rn.iconst (v := (nI 1)) dL_law__1249 rfl ?_
  refine Rn.iadd dL_law__1250 ?_
  refine Rn.topI (nI (i + 1)) (nI_add _ _) ?_
  refine Rn.sld dL_law__1251 h9 (by omega) (by omega) rfl ?_
  refine Rn.aload_n dL_law__1252 rfl rfl ?_
  refine Rn.callW (b := 8 * m + 7) (mc := 1) (As := [_, _, _]) dL_law__1253 mw_L_231 rfl rfl (Nat.le_of_ble_eq_true rfl) (wr_luckiest _ _ _ _ hI.1 hI.2.1) (fun _ _ h => h) (fun v J1 h => ?_)
  obtain ⟨⟨r1, rfl⟩, hQ1⟩ := h
  refine Rn.istore dL_law__1256 (by decide) ?_
  refine Rn.aload_n dL_law__1258 rfl rfl ?_
  refine Rn.aload_n dL_law__1259 rfl rfl ?_
  refine Rn.iload dL_law__1260 rfl ?_
  refine Rn.iconst (v := (nI 1)) dL_law__1262 rfl ?_
  refine Rn.iadd dL_law__1263 ?_
  refine Rn.topI (nI (i + 1)) (nI_add _ _) ?_
  refine Rn.sld dL_law__1264 h9 (by omega) (by omega) rfl ?_
  refine Rn.callV (As := [_]) dL_law__1265 mv_L_233 (by first | rfl | exact gC0 (by assumption) | exact gL0 (by assumption)) rfl rfl rfl (Nat.le_of_ble_eq_true rfl) (mo_luckiest _ _ _ _ hQ1.1 hQ1.2.1) (fun _ _ h => h) (fun v J2 h => ?_)
  obtain ⟨⟨r2, rfl⟩, hQ2⟩ := h
  refine Rn.istore dL_law__1268 (by decide) ?_
  refine Rn.goto 1782 dL_law__1270 (by decide) ?_
  exact Rn.bud (by omega) (kk _ _ _ (hI.of (hQ1.tr hQ2)))
end LawC
