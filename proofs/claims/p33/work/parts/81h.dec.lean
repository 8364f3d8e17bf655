theorem dLaw_1076g : (decode code 1076 = .ok (.pop, 1)) ∧ (decode code 1077 = .ok (.aload_n 2, 1)) ∧ (decode code 1078 = .ok (.aload_n 0, 1)) ∧ (decode code 1079 = .ok (.iload_n 3, 1)) ∧ (decode code 1080 = .ok (.iconst 1, 1)) ∧ (decode code 1081 = .ok (.iadd, 1)) ∧ (decode code 1082 = .ok (.iaload, 1)) ∧ (decode code 1083 = .ok (.aload_n 0, 1)) ∧ (decode code 1084 = .ok (.iload_n 3, 1)) ∧ (decode code 1085 = .ok (.iconst 2, 1)) := by decide +kernel
theorem dLaw_1076 : decode code 1076 = .ok (.pop, 1) := dLaw_1076g.1
theorem dLaw_1077 : decode code 1077 = .ok (.aload_n 2, 1) := dLaw_1076g.2.1
theorem dLaw_1078 : decode code 1078 = .ok (.aload_n 0, 1) := dLaw_1076g.2.2.1
theorem dLaw_1079 : decode code 1079 = .ok (.iload_n 3, 1) := dLaw_1076g.2.2.2.1
theorem dLaw_1080 : decode code 1080 = .ok (.iconst 1, 1) := dLaw_1076g.2.2.2.2.1
theorem dLaw_1081 : decode code 1081 = .ok (.iadd, 1) := dLaw_1076g.2.2.2.2.2.1
theorem dLaw_1082 : decode code 1082 = .ok (.iaload, 1) := dLaw_1076g.2.2.2.2.2.2.1
theorem dLaw_1083 : decode code 1083 = .ok (.aload_n 0, 1) := dLaw_1076g.2.2.2.2.2.2.2.1
theorem dLaw_1084 : decode code 1084 = .ok (.iload_n 3, 1) := dLaw_1076g.2.2.2.2.2.2.2.2.1
theorem dLaw_1085 : decode code 1085 = .ok (.iconst 2, 1) := dLaw_1076g.2.2.2.2.2.2.2.2.2
theorem dLaw_1086g : (decode code 1086 = .ok (.iadd, 1)) ∧ (decode code 1087 = .ok (.iaload, 1)) ∧ (decode code 1088 = .ok (.aload_n 0, 1)) ∧ (decode code 1089 = .ok (.iload_n 3, 1)) ∧ (decode code 1090 = .ok (.iconst 3, 1)) ∧ (decode code 1091 = .ok (.iadd, 1)) ∧ (decode code 1092 = .ok (.iaload, 1)) ∧ (decode code 1093 = .ok (.invokevirtual 114, 3)) ∧ (decode code 1096 = .ok (.pop, 1)) ∧ (decode code 1097 = .ok (.goto 907, 3)) := by decide +kernel
theorem dLaw_1086 : decode code 1086 = .ok (.iadd, 1) := dLaw_1086g.1
theorem dLaw_1087 : decode code 1087 = .ok (.iaload, 1) := dLaw_1086g.2.1
theorem dLaw_1088 : decode code 1088 = .ok (.aload_n 0, 1) := dLaw_1086g.2.2.1
theorem dLaw_1089 : decode code 1089 = .ok (.iload_n 3, 1) := dLaw_1086g.2.2.2.1
theorem dLaw_1090 : decode code 1090 = .ok (.iconst 3, 1) := dLaw_1086g.2.2.2.2.1
theorem dLaw_1091 : decode code 1091 = .ok (.iadd, 1) := dLaw_1086g.2.2.2.2.2.1
theorem dLaw_1092 : decode code 1092 = .ok (.iaload, 1) := dLaw_1086g.2.2.2.2.2.2.1
theorem dLaw_1093 : decode code 1093 = .ok (.invokevirtual 114, 3) := dLaw_1086g.2.2.2.2.2.2.2.1
theorem dLaw_1096 : decode code 1096 = .ok (.pop, 1) := dLaw_1086g.2.2.2.2.2.2.2.2.1
theorem dLaw_1097 : decode code 1097 = .ok (.goto 907, 3) := dLaw_1086g.2.2.2.2.2.2.2.2.2
theorem dLaw_1100g : (decode code 1100 = .ok (.aload_n 1, 1)) ∧ (decode code 1101 = .ok (.aload_n 0, 1)) ∧ (decode code 1102 = .ok (.iload_n 3, 1)) ∧ (decode code 1103 = .ok (.iconst 1, 1)) ∧ (decode code 1104 = .ok (.iadd, 1)) ∧ (decode code 1105 = .ok (.iaload, 1)) ∧ (decode code 1106 = .ok (.aload_n 0, 1)) ∧ (decode code 1107 = .ok (.iload_n 3, 1)) ∧ (decode code 1108 = .ok (.iconst 2, 1)) ∧ (decode code 1109 = .ok (.iadd, 1)) := by decide +kernel
theorem dLaw_1100 : decode code 1100 = .ok (.aload_n 1, 1) := dLaw_1100g.1
theorem dLaw_1101 : decode code 1101 = .ok (.aload_n 0, 1) := dLaw_1100g.2.1
theorem dLaw_1102 : decode code 1102 = .ok (.iload_n 3, 1) := dLaw_1100g.2.2.1
theorem dLaw_1103 : decode code 1103 = .ok (.iconst 1, 1) := dLaw_1100g.2.2.2.1
theorem dLaw_1104 : decode code 1104 = .ok (.iadd, 1) := dLaw_1100g.2.2.2.2.1
theorem dLaw_1105 : decode code 1105 = .ok (.iaload, 1) := dLaw_1100g.2.2.2.2.2.1
theorem dLaw_1106 : decode code 1106 = .ok (.aload_n 0, 1) := dLaw_1100g.2.2.2.2.2.2.1
theorem dLaw_1107 : decode code 1107 = .ok (.iload_n 3, 1) := dLaw_1100g.2.2.2.2.2.2.2.1
theorem dLaw_1108 : decode code 1108 = .ok (.iconst 2, 1) := dLaw_1100g.2.2.2.2.2.2.2.2.1
theorem dLaw_1109 : decode code 1109 = .ok (.iadd, 1) := dLaw_1100g.2.2.2.2.2.2.2.2.2
theorem dLaw_1110g : (decode code 1110 = .ok (.iaload, 1)) ∧ (decode code 1111 = .ok (.aload_n 0, 1)) ∧ (decode code 1112 = .ok (.iload_n 3, 1)) ∧ (decode code 1113 = .ok (.iconst 3, 1)) ∧ (decode code 1114 = .ok (.iadd, 1)) ∧ (decode code 1115 = .ok (.iaload, 1)) ∧ (decode code 1116 = .ok (.aload_n 0, 1)) ∧ (decode code 1117 = .ok (.iload_n 3, 1)) ∧ (decode code 1118 = .ok (.iconst 4, 1)) ∧ (decode code 1119 = .ok (.iadd, 1)) := by decide +kernel
theorem dLaw_1110 : decode code 1110 = .ok (.iaload, 1) := dLaw_1110g.1
theorem dLaw_1111 : decode code 1111 = .ok (.aload_n 0, 1) := dLaw_1110g.2.1
theorem dLaw_1112 : decode code 1112 = .ok (.iload_n 3, 1) := dLaw_1110g.2.2.1
theorem dLaw_1113 : decode code 1113 = .ok (.iconst 3, 1) := dLaw_1110g.2.2.2.1
theorem dLaw_1114 : decode code 1114 = .ok (.iadd, 1) := dLaw_1110g.2.2.2.2.1
theorem dLaw_1115 : decode code 1115 = .ok (.iaload, 1) := dLaw_1110g.2.2.2.2.2.1
theorem dLaw_1116 : decode code 1116 = .ok (.aload_n 0, 1) := dLaw_1110g.2.2.2.2.2.2.1
theorem dLaw_1117 : decode code 1117 = .ok (.iload_n 3, 1) := dLaw_1110g.2.2.2.2.2.2.2.1
theorem dLaw_1118 : decode code 1118 = .ok (.iconst 4, 1) := dLaw_1110g.2.2.2.2.2.2.2.2.1
theorem dLaw_1119 : decode code 1119 = .ok (.iadd, 1) := dLaw_1110g.2.2.2.2.2.2.2.2.2
theorem dLaw_1120g : (decode code 1120 = .ok (.iaload, 1)) ∧ (decode code 1121 = .ok (.invokevirtual 115, 3)) ∧ (decode code 1124 = .ok (.pop, 1)) ∧ (decode code 1125 = .ok (.aload_n 2, 1)) ∧ (decode code 1126 = .ok (.aload_n 0, 1)) ∧ (decode code 1127 = .ok (.iload_n 3, 1)) ∧ (decode code 1128 = .ok (.iconst 1, 1)) ∧ (decode code 1129 = .ok (.iadd, 1)) ∧ (decode code 1130 = .ok (.iaload, 1)) ∧ (decode code 1131 = .ok (.aload_n 0, 1)) := by decide +kernel
theorem dLaw_1120 : decode code 1120 = .ok (.iaload, 1) := dLaw_1120g.1
theorem dLaw_1121 : decode code 1121 = .ok (.invokevirtual 115, 3) := dLaw_1120g.2.1
theorem dLaw_1124 : decode code 1124 = .ok (.pop, 1) := dLaw_1120g.2.2.1
theorem dLaw_1125 : decode code 1125 = .ok (.aload_n 2, 1) := dLaw_1120g.2.2.2.1
theorem dLaw_1126 : decode code 1126 = .ok (.aload_n 0, 1) := dLaw_1120g.2.2.2.2.1
theorem dLaw_1127 : decode code 1127 = .ok (.iload_n 3, 1) := dLaw_1120g.2.2.2.2.2.1
theorem dLaw_1128 : decode code 1128 = .ok (.iconst 1, 1) := dLaw_1120g.2.2.2.2.2.2.1
theorem dLaw_1129 : decode code 1129 = .ok (.iadd, 1) := dLaw_1120g.2.2.2.2.2.2.2.1
theorem dLaw_1130 : decode code 1130 = .ok (.iaload, 1) := dLaw_1120g.2.2.2.2.2.2.2.2.1
theorem dLaw_1131 : decode code 1131 = .ok (.aload_n 0, 1) := dLaw_1120g.2.2.2.2.2.2.2.2.2
theorem dLaw_1132g : (decode code 1132 = .ok (.iload_n 3, 1)) ∧ (decode code 1133 = .ok (.iconst 2, 1)) ∧ (decode code 1134 = .ok (.iadd, 1)) ∧ (decode code 1135 = .ok (.iaload, 1)) ∧ (decode code 1136 = .ok (.aload_n 0, 1)) ∧ (decode code 1137 = .ok (.iload_n 3, 1)) ∧ (decode code 1138 = .ok (.iconst 3, 1)) ∧ (decode code 1139 = .ok (.iadd, 1)) ∧ (decode code 1140 = .ok (.iaload, 1)) ∧ (decode code 1141 = .ok (.aload_n 0, 1)) := by decide +kernel
theorem dLaw_1132 : decode code 1132 = .ok (.iload_n 3, 1) := dLaw_1132g.1
theorem dLaw_1133 : decode code 1133 = .ok (.iconst 2, 1) := dLaw_1132g.2.1
theorem dLaw_1134 : decode code 1134 = .ok (.iadd, 1) := dLaw_1132g.2.2.1
theorem dLaw_1135 : decode code 1135 = .ok (.iaload, 1) := dLaw_1132g.2.2.2.1
theorem dLaw_1136 : decode code 1136 = .ok (.aload_n 0, 1) := dLaw_1132g.2.2.2.2.1
theorem dLaw_1137 : decode code 1137 = .ok (.iload_n 3, 1) := dLaw_1132g.2.2.2.2.2.1
theorem dLaw_1138 : decode code 1138 = .ok (.iconst 3, 1) := dLaw_1132g.2.2.2.2.2.2.1
theorem dLaw_1139 : decode code 1139 = .ok (.iadd, 1) := dLaw_1132g.2.2.2.2.2.2.2.1
theorem dLaw_1140 : decode code 1140 = .ok (.iaload, 1) := dLaw_1132g.2.2.2.2.2.2.2.2.1
theorem dLaw_1141 : decode code 1141 = .ok (.aload_n 0, 1) := dLaw_1132g.2.2.2.2.2.2.2.2.2
theorem dLaw_1142g : (decode code 1142 = .ok (.iload_n 3, 1)) ∧ (decode code 1143 = .ok (.iconst 4, 1)) ∧ (decode code 1144 = .ok (.iadd, 1)) ∧ (decode code 1145 = .ok (.iaload, 1)) ∧ (decode code 1146 = .ok (.invokevirtual 119, 3)) ∧ (decode code 1149 = .ok (.pop, 1)) ∧ (decode code 1150 = .ok (.goto 854, 3)) ∧ (decode code 1153 = .ok (.aload_n 1, 1)) ∧ (decode code 1154 = .ok (.invokevirtual 120, 3)) ∧ (decode code 1157 = .ok (.pop, 1)) := by decide +kernel
theorem dLaw_1142 : decode code 1142 = .ok (.iload_n 3, 1) := dLaw_1142g.1
theorem dLaw_1143 : decode code 1143 = .ok (.iconst 4, 1) := dLaw_1142g.2.1
theorem dLaw_1144 : decode code 1144 = .ok (.iadd, 1) := dLaw_1142g.2.2.1
theorem dLaw_1145 : decode code 1145 = .ok (.iaload, 1) := dLaw_1142g.2.2.2.1
theorem dLaw_1146 : decode code 1146 = .ok (.invokevirtual 119, 3) := dLaw_1142g.2.2.2.2.1
theorem dLaw_1149 : decode code 1149 = .ok (.pop, 1) := dLaw_1142g.2.2.2.2.2.1
theorem dLaw_1150 : decode code 1150 = .ok (.goto 854, 3) := dLaw_1142g.2.2.2.2.2.2.1
theorem dLaw_1153 : decode code 1153 = .ok (.aload_n 1, 1) := dLaw_1142g.2.2.2.2.2.2.2.1
theorem dLaw_1154 : decode code 1154 = .ok (.invokevirtual 120, 3) := dLaw_1142g.2.2.2.2.2.2.2.2.1
theorem dLaw_1157 : decode code 1157 = .ok (.pop, 1) := dLaw_1142g.2.2.2.2.2.2.2.2.2
theorem dLaw_1158g : (decode code 1158 = .ok (.aload_n 2, 1)) ∧ (decode code 1159 = .ok (.invokevirtual 123, 3)) ∧ (decode code 1162 = .ok (.pop, 1)) ∧ (decode code 1163 = .ok (.goto 841, 3)) ∧ (decode code 1166 = .ok (.aload_n 1, 1)) ∧ (decode code 1167 = .ok (.aload_n 0, 1)) ∧ (decode code 1168 = .ok (.iload_n 3, 1)) ∧ (decode code 1169 = .ok (.iconst 1, 1)) ∧ (decode code 1170 = .ok (.iadd, 1)) ∧ (decode code 1171 = .ok (.iaload, 1)) := by decide +kernel
theorem dLaw_1158 : decode code 1158 = .ok (.aload_n 2, 1) := dLaw_1158g.1
theorem dLaw_1159 : decode code 1159 = .ok (.invokevirtual 123, 3) := dLaw_1158g.2.1
theorem dLaw_1162 : decode code 1162 = .ok (.pop, 1) := dLaw_1158g.2.2.1
theorem dLaw_1163 : decode code 1163 = .ok (.goto 841, 3) := dLaw_1158g.2.2.2.1
theorem dLaw_1166 : decode code 1166 = .ok (.aload_n 1, 1) := dLaw_1158g.2.2.2.2.1
theorem dLaw_1167 : decode code 1167 = .ok (.aload_n 0, 1) := dLaw_1158g.2.2.2.2.2.1
theorem dLaw_1168 : decode code 1168 = .ok (.iload_n 3, 1) := dLaw_1158g.2.2.2.2.2.2.1
theorem dLaw_1169 : decode code 1169 = .ok (.iconst 1, 1) := dLaw_1158g.2.2.2.2.2.2.2.1
theorem dLaw_1170 : decode code 1170 = .ok (.iadd, 1) := dLaw_1158g.2.2.2.2.2.2.2.2.1
theorem dLaw_1171 : decode code 1171 = .ok (.iaload, 1) := dLaw_1158g.2.2.2.2.2.2.2.2.2
theorem dLaw_1172g : (decode code 1172 = .ok (.aload_n 0, 1)) ∧ (decode code 1173 = .ok (.iload_n 3, 1)) ∧ (decode code 1174 = .ok (.iconst 2, 1)) ∧ (decode code 1175 = .ok (.iadd, 1)) ∧ (decode code 1176 = .ok (.iaload, 1)) ∧ (decode code 1177 = .ok (.aload_n 0, 1)) ∧ (decode code 1178 = .ok (.iload_n 3, 1)) ∧ (decode code 1179 = .ok (.iconst 3, 1)) ∧ (decode code 1180 = .ok (.iadd, 1)) ∧ (decode code 1181 = .ok (.iaload, 1)) := by decide +kernel
theorem dLaw_1172 : decode code 1172 = .ok (.aload_n 0, 1) := dLaw_1172g.1
theorem dLaw_1173 : decode code 1173 = .ok (.iload_n 3, 1) := dLaw_1172g.2.1
theorem dLaw_1174 : decode code 1174 = .ok (.iconst 2, 1) := dLaw_1172g.2.2.1
theorem dLaw_1175 : decode code 1175 = .ok (.iadd, 1) := dLaw_1172g.2.2.2.1
theorem dLaw_1176 : decode code 1176 = .ok (.iaload, 1) := dLaw_1172g.2.2.2.2.1
theorem dLaw_1177 : decode code 1177 = .ok (.aload_n 0, 1) := dLaw_1172g.2.2.2.2.2.1
theorem dLaw_1178 : decode code 1178 = .ok (.iload_n 3, 1) := dLaw_1172g.2.2.2.2.2.2.1
theorem dLaw_1179 : decode code 1179 = .ok (.iconst 3, 1) := dLaw_1172g.2.2.2.2.2.2.2.1
theorem dLaw_1180 : decode code 1180 = .ok (.iadd, 1) := dLaw_1172g.2.2.2.2.2.2.2.2.1
theorem dLaw_1181 : decode code 1181 = .ok (.iaload, 1) := dLaw_1172g.2.2.2.2.2.2.2.2.2
theorem dLaw_1182g : (decode code 1182 = .ok (.invokevirtual 124, 3)) ∧ (decode code 1185 = .ok (.pop, 1)) ∧ (decode code 1186 = .ok (.aload_n 2, 1)) ∧ (decode code 1187 = .ok (.aload_n 0, 1)) ∧ (decode code 1188 = .ok (.iload_n 3, 1)) ∧ (decode code 1189 = .ok (.iconst 1, 1)) ∧ (decode code 1190 = .ok (.iadd, 1)) ∧ (decode code 1191 = .ok (.iaload, 1)) ∧ (decode code 1192 = .ok (.aload_n 0, 1)) ∧ (decode code 1193 = .ok (.iload_n 3, 1)) := by decide +kernel
theorem dLaw_1182 : decode code 1182 = .ok (.invokevirtual 124, 3) := dLaw_1182g.1
theorem dLaw_1185 : decode code 1185 = .ok (.pop, 1) := dLaw_1182g.2.1
theorem dLaw_1186 : decode code 1186 = .ok (.aload_n 2, 1) := dLaw_1182g.2.2.1
theorem dLaw_1187 : decode code 1187 = .ok (.aload_n 0, 1) := dLaw_1182g.2.2.2.1
theorem dLaw_1188 : decode code 1188 = .ok (.iload_n 3, 1) := dLaw_1182g.2.2.2.2.1
theorem dLaw_1189 : decode code 1189 = .ok (.iconst 1, 1) := dLaw_1182g.2.2.2.2.2.1
theorem dLaw_1190 : decode code 1190 = .ok (.iadd, 1) := dLaw_1182g.2.2.2.2.2.2.1
theorem dLaw_1191 : decode code 1191 = .ok (.iaload, 1) := dLaw_1182g.2.2.2.2.2.2.2.1
theorem dLaw_1192 : decode code 1192 = .ok (.aload_n 0, 1) := dLaw_1182g.2.2.2.2.2.2.2.2.1
theorem dLaw_1193 : decode code 1193 = .ok (.iload_n 3, 1) := dLaw_1182g.2.2.2.2.2.2.2.2.2
