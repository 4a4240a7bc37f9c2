/-! the law, instruction by instruction -/
set_option maxRecDepth 100000 in
theorem f_331_1110 : fe 331 1110 = some (.aload_n 0, 1, 13, some .boolean) := fe_of pg_331 (by decide +kernel)
set_option maxRecDepth 100000 in
theorem f_331_1111 : fe 331 1111 = some (.iload_n 3, 1, 13, some .boolean) := fe_of pg_331 (by decide +kernel)
set_option maxRecDepth 100000 in
theorem f_331_1112 : fe 331 1112 = some (.iconst 1, 1, 13, some .boolean) := fe_of pg_331 (by decide +kernel)
set_option maxRecDepth 100000 in
theorem f_331_1113 : fe 331 1113 = some (.iadd, 1, 13, some .boolean) := fe_of pg_331 (by decide +kernel)
set_option maxRecDepth 100000 in
theorem f_331_1114 : fe 331 1114 = some (.iaload, 1, 13, some .boolean) := fe_of pg_331 (by decide +kernel)
set_option maxRecDepth 100000 in
theorem f_331_1115 : fe 331 1115 = some (.aload_n 0, 1, 13, some .boolean) := fe_of pg_331 (by decide +kernel)
set_option maxRecDepth 100000 in
theorem f_331_1116 : fe 331 1116 = some (.iload_n 3, 1, 13, some .boolean) := fe_of pg_331 (by decide +kernel)
set_option maxRecDepth 100000 in
theorem f_331_1117 : fe 331 1117 = some (.iconst 2, 1, 13, some .boolean) := fe_of pg_331 (by decide +kernel)
set_option maxRecDepth 100000 in
theorem f_331_1118 : fe 331 1118 = some (.iadd, 1, 13, some .boolean) := fe_of pg_331 (by decide +kernel)
set_option maxRecDepth 100000 in
theorem f_331_1119 : fe 331 1119 = some (.iaload, 1, 13, some .boolean) := fe_of pg_331 (by decide +kernel)
set_option maxRecDepth 100000 in
theorem f_331_1120 : fe 331 1120 = some (.invokevirtual 114, 3, 13, some .boolean) := fe_of pg_331 (by decide +kernel)
set_option maxRecDepth 100000 in
theorem f_331_1123 : fe 331 1123 = some (.if_icmp .eq 325, 3, 13, some .boolean) := fe_of pg_331 (by decide +kernel)
set_option maxRecDepth 100000 in
theorem f_331_1126 : fe 331 1126 = some (.iconst 0, 1, 13, some .boolean) := fe_of pg_331 (by decide +kernel)
set_option maxRecDepth 100000 in
theorem f_331_1127 : fe 331 1127 = some (.ireturn, 1, 13, some .boolean) := fe_of pg_331 (by decide +kernel)
set_option maxRecDepth 100000 in
theorem f_331_1128 : fe 331 1128 = some (.aload_n 1, 1, 13, some .boolean) := fe_of pg_331 (by decide +kernel)
set_option maxRecDepth 100000 in
theorem f_331_1129 : fe 331 1129 = some (.aload_n 0, 1, 13, some .boolean) := fe_of pg_331 (by decide +kernel)
set_option maxRecDepth 100000 in
theorem f_331_1130 : fe 331 1130 = some (.iload_n 3, 1, 13, some .boolean) := fe_of pg_331 (by decide +kernel)
set_option maxRecDepth 100000 in
theorem f_331_1131 : fe 331 1131 = some (.iconst 1, 1, 13, some .boolean) := fe_of pg_331 (by decide +kernel)
set_option maxRecDepth 100000 in
theorem f_331_1132 : fe 331 1132 = some (.iadd, 1, 13, some .boolean) := fe_of pg_331 (by decide +kernel)
set_option maxRecDepth 100000 in
theorem f_331_1133 : fe 331 1133 = some (.iaload, 1, 13, some .boolean) := fe_of pg_331 (by decide +kernel)
set_option maxRecDepth 100000 in
theorem f_331_1134 : fe 331 1134 = some (.aload_n 0, 1, 13, some .boolean) := fe_of pg_331 (by decide +kernel)
set_option maxRecDepth 100000 in
theorem f_331_1135 : fe 331 1135 = some (.iload_n 3, 1, 13, some .boolean) := fe_of pg_331 (by decide +kernel)
set_option maxRecDepth 100000 in
theorem f_331_1136 : fe 331 1136 = some (.iconst 2, 1, 13, some .boolean) := fe_of pg_331 (by decide +kernel)
set_option maxRecDepth 100000 in
theorem f_331_1137 : fe 331 1137 = some (.iadd, 1, 13, some .boolean) := fe_of pg_331 (by decide +kernel)
set_option maxRecDepth 100000 in
theorem f_331_1138 : fe 331 1138 = some (.iaload, 1, 13, some .boolean) := fe_of pg_331 (by decide +kernel)
set_option maxRecDepth 100000 in
theorem f_331_1139 : fe 331 1139 = some (.invokevirtual 115, 3, 13, some .boolean) := fe_of pg_331 (by decide +kernel)
set_option maxRecDepth 100000 in
theorem f_331_1142 : fe 331 1142 = some (.aload_n 2, 1, 13, some .boolean) := fe_of pg_331 (by decide +kernel)
set_option maxRecDepth 100000 in
theorem f_331_1143 : fe 331 1143 = some (.aload_n 0, 1, 13, some .boolean) := fe_of pg_331 (by decide +kernel)
set_option maxRecDepth 100000 in
theorem f_331_1144 : fe 331 1144 = some (.iload_n 3, 1, 13, some .boolean) := fe_of pg_331 (by decide +kernel)
set_option maxRecDepth 100000 in
theorem f_331_1145 : fe 331 1145 = some (.iconst 1, 1, 13, some .boolean) := fe_of pg_331 (by decide +kernel)
set_option maxRecDepth 100000 in
theorem f_331_1146 : fe 331 1146 = some (.iadd, 1, 13, some .boolean) := fe_of pg_331 (by decide +kernel)
set_option maxRecDepth 100000 in
theorem f_331_1147 : fe 331 1147 = some (.iaload, 1, 13, some .boolean) := fe_of pg_331 (by decide +kernel)
set_option maxRecDepth 100000 in
theorem f_331_1148 : fe 331 1148 = some (.aload_n 0, 1, 13, some .boolean) := fe_of pg_331 (by decide +kernel)
set_option maxRecDepth 100000 in
theorem f_331_1149 : fe 331 1149 = some (.iload_n 3, 1, 13, some .boolean) := fe_of pg_331 (by decide +kernel)
set_option maxRecDepth 100000 in
theorem f_331_1150 : fe 331 1150 = some (.iconst 2, 1, 13, some .boolean) := fe_of pg_331 (by decide +kernel)
set_option maxRecDepth 100000 in
theorem f_331_1151 : fe 331 1151 = some (.iadd, 1, 13, some .boolean) := fe_of pg_331 (by decide +kernel)
set_option maxRecDepth 100000 in
theorem f_331_1152 : fe 331 1152 = some (.iaload, 1, 13, some .boolean) := fe_of pg_331 (by decide +kernel)
set_option maxRecDepth 100000 in
theorem f_331_1153 : fe 331 1153 = some (.invokevirtual 118, 3, 13, some .boolean) := fe_of pg_331 (by decide +kernel)
set_option maxRecDepth 100000 in
theorem f_331_1156 : fe 331 1156 = some (.if_icmp .eq 292, 3, 13, some .boolean) := fe_of pg_331 (by decide +kernel)
set_option maxRecDepth 100000 in
theorem f_331_1159 : fe 331 1159 = some (.iconst 0, 1, 13, some .boolean) := fe_of pg_331 (by decide +kernel)
set_option maxRecDepth 100000 in
theorem f_331_1160 : fe 331 1160 = some (.ireturn, 1, 13, some .boolean) := fe_of pg_331 (by decide +kernel)
set_option maxRecDepth 100000 in
theorem f_331_1161 : fe 331 1161 = some (.aload_n 1, 1, 13, some .boolean) := fe_of pg_331 (by decide +kernel)
set_option maxRecDepth 100000 in
theorem f_331_1162 : fe 331 1162 = some (.aload_n 0, 1, 13, some .boolean) := fe_of pg_331 (by decide +kernel)
set_option maxRecDepth 100000 in
theorem f_331_1163 : fe 331 1163 = some (.iload_n 3, 1, 13, some .boolean) := fe_of pg_331 (by decide +kernel)
set_option maxRecDepth 100000 in
theorem f_331_1164 : fe 331 1164 = some (.iconst 1, 1, 13, some .boolean) := fe_of pg_331 (by decide +kernel)
set_option maxRecDepth 100000 in
theorem f_331_1165 : fe 331 1165 = some (.iadd, 1, 13, some .boolean) := fe_of pg_331 (by decide +kernel)
set_option maxRecDepth 100000 in
theorem f_331_1166 : fe 331 1166 = some (.iaload, 1, 13, some .boolean) := fe_of pg_331 (by decide +kernel)
set_option maxRecDepth 100000 in
theorem f_331_1167 : fe 331 1167 = some (.aload_n 0, 1, 13, some .boolean) := fe_of pg_331 (by decide +kernel)
set_option maxRecDepth 100000 in
theorem f_331_1168 : fe 331 1168 = some (.iload_n 3, 1, 13, some .boolean) := fe_of pg_331 (by decide +kernel)
set_option maxRecDepth 100000 in
theorem f_331_1169 : fe 331 1169 = some (.iconst 2, 1, 13, some .boolean) := fe_of pg_331 (by decide +kernel)
set_option maxRecDepth 100000 in
theorem f_331_1170 : fe 331 1170 = some (.iadd, 1, 13, some .boolean) := fe_of pg_331 (by decide +kernel)
set_option maxRecDepth 100000 in
theorem f_331_1171 : fe 331 1171 = some (.iaload, 1, 13, some .boolean) := fe_of pg_331 (by decide +kernel)
set_option maxRecDepth 100000 in
theorem f_331_1172 : fe 331 1172 = some (.aload_n 0, 1, 13, some .boolean) := fe_of pg_331 (by decide +kernel)
set_option maxRecDepth 100000 in
theorem f_331_1173 : fe 331 1173 = some (.iload_n 3, 1, 13, some .boolean) := fe_of pg_331 (by decide +kernel)
set_option maxRecDepth 100000 in
theorem f_331_1174 : fe 331 1174 = some (.iconst 3, 1, 13, some .boolean) := fe_of pg_331 (by decide +kernel)
set_option maxRecDepth 100000 in
theorem f_331_1175 : fe 331 1175 = some (.iadd, 1, 13, some .boolean) := fe_of pg_331 (by decide +kernel)
set_option maxRecDepth 100000 in
theorem f_331_1176 : fe 331 1176 = some (.iaload, 1, 13, some .boolean) := fe_of pg_331 (by decide +kernel)
set_option maxRecDepth 100000 in
theorem f_331_1177 : fe 331 1177 = some (.invokevirtual 119, 3, 13, some .boolean) := fe_of pg_331 (by decide +kernel)
set_option maxRecDepth 100000 in
theorem f_331_1180 : fe 331 1180 = some (.aload_n 2, 1, 13, some .boolean) := fe_of pg_331 (by decide +kernel)
set_option maxRecDepth 100000 in
theorem f_331_1181 : fe 331 1181 = some (.aload_n 0, 1, 13, some .boolean) := fe_of pg_331 (by decide +kernel)
set_option maxRecDepth 100000 in
theorem f_331_1182 : fe 331 1182 = some (.iload_n 3, 1, 13, some .boolean) := fe_of pg_331 (by decide +kernel)
set_option maxRecDepth 100000 in
theorem f_331_1183 : fe 331 1183 = some (.iconst 1, 1, 13, some .boolean) := fe_of pg_331 (by decide +kernel)
set_option maxRecDepth 100000 in
theorem f_331_1184 : fe 331 1184 = some (.iadd, 1, 13, some .boolean) := fe_of pg_331 (by decide +kernel)
set_option maxRecDepth 100000 in
theorem f_331_1185 : fe 331 1185 = some (.iaload, 1, 13, some .boolean) := fe_of pg_331 (by decide +kernel)
set_option maxRecDepth 100000 in
theorem f_331_1186 : fe 331 1186 = some (.aload_n 0, 1, 13, some .boolean) := fe_of pg_331 (by decide +kernel)
set_option maxRecDepth 100000 in
theorem f_331_1187 : fe 331 1187 = some (.iload_n 3, 1, 13, some .boolean) := fe_of pg_331 (by decide +kernel)
set_option maxRecDepth 100000 in
theorem f_331_1188 : fe 331 1188 = some (.iconst 2, 1, 13, some .boolean) := fe_of pg_331 (by decide +kernel)
set_option maxRecDepth 100000 in
theorem f_331_1189 : fe 331 1189 = some (.iadd, 1, 13, some .boolean) := fe_of pg_331 (by decide +kernel)
set_option maxRecDepth 100000 in
theorem f_331_1190 : fe 331 1190 = some (.iaload, 1, 13, some .boolean) := fe_of pg_331 (by decide +kernel)
set_option maxRecDepth 100000 in
theorem f_331_1191 : fe 331 1191 = some (.aload_n 0, 1, 13, some .boolean) := fe_of pg_331 (by decide +kernel)
set_option maxRecDepth 100000 in
theorem f_331_1192 : fe 331 1192 = some (.iload_n 3, 1, 13, some .boolean) := fe_of pg_331 (by decide +kernel)
set_option maxRecDepth 100000 in
theorem f_331_1193 : fe 331 1193 = some (.iconst 3, 1, 13, some .boolean) := fe_of pg_331 (by decide +kernel)
set_option maxRecDepth 100000 in
theorem f_331_1194 : fe 331 1194 = some (.iadd, 1, 13, some .boolean) := fe_of pg_331 (by decide +kernel)
set_option maxRecDepth 100000 in
theorem f_331_1195 : fe 331 1195 = some (.iaload, 1, 13, some .boolean) := fe_of pg_331 (by decide +kernel)
set_option maxRecDepth 100000 in
theorem f_331_1196 : fe 331 1196 = some (.invokevirtual 122, 3, 13, some .boolean) := fe_of pg_331 (by decide +kernel)
set_option maxRecDepth 100000 in
theorem f_331_1199 : fe 331 1199 = some (.if_icmp .eq 249, 3, 13, some .boolean) := fe_of pg_331 (by decide +kernel)
set_option maxRecDepth 100000 in
theorem f_331_1202 : fe 331 1202 = some (.iconst 0, 1, 13, some .boolean) := fe_of pg_331 (by decide +kernel)
set_option maxRecDepth 100000 in
theorem f_331_1203 : fe 331 1203 = some (.ireturn, 1, 13, some .boolean) := fe_of pg_331 (by decide +kernel)
set_option maxRecDepth 100000 in
theorem f_331_1204 : fe 331 1204 = some (.aload_n 1, 1, 13, some .boolean) := fe_of pg_331 (by decide +kernel)
set_option maxRecDepth 100000 in
theorem f_331_1205 : fe 331 1205 = some (.aload_n 0, 1, 13, some .boolean) := fe_of pg_331 (by decide +kernel)
set_option maxRecDepth 100000 in
theorem f_331_1206 : fe 331 1206 = some (.iload_n 3, 1, 13, some .boolean) := fe_of pg_331 (by decide +kernel)
set_option maxRecDepth 100000 in
theorem f_331_1207 : fe 331 1207 = some (.iconst 1, 1, 13, some .boolean) := fe_of pg_331 (by decide +kernel)
set_option maxRecDepth 100000 in
theorem f_331_1208 : fe 331 1208 = some (.iadd, 1, 13, some .boolean) := fe_of pg_331 (by decide +kernel)
set_option maxRecDepth 100000 in
theorem f_331_1209 : fe 331 1209 = some (.iaload, 1, 13, some .boolean) := fe_of pg_331 (by decide +kernel)
set_option maxRecDepth 100000 in
theorem f_331_1210 : fe 331 1210 = some (.aload_n 0, 1, 13, some .boolean) := fe_of pg_331 (by decide +kernel)
set_option maxRecDepth 100000 in
theorem f_331_1211 : fe 331 1211 = some (.iload_n 3, 1, 13, some .boolean) := fe_of pg_331 (by decide +kernel)
set_option maxRecDepth 100000 in
theorem f_331_1212 : fe 331 1212 = some (.iconst 2, 1, 13, some .boolean) := fe_of pg_331 (by decide +kernel)
set_option maxRecDepth 100000 in
theorem f_331_1213 : fe 331 1213 = some (.iadd, 1, 13, some .boolean) := fe_of pg_331 (by decide +kernel)
set_option maxRecDepth 100000 in
theorem f_331_1214 : fe 331 1214 = some (.iaload, 1, 13, some .boolean) := fe_of pg_331 (by decide +kernel)
set_option maxRecDepth 100000 in
theorem f_331_1215 : fe 331 1215 = some (.invokevirtual 123, 3, 13, some .boolean) := fe_of pg_331 (by decide +kernel)
set_option maxRecDepth 100000 in
theorem f_331_1218 : fe 331 1218 = some (.aload_n 2, 1, 13, some .boolean) := fe_of pg_331 (by decide +kernel)
set_option maxRecDepth 100000 in
theorem f_331_1219 : fe 331 1219 = some (.aload_n 0, 1, 13, some .boolean) := fe_of pg_331 (by decide +kernel)
set_option maxRecDepth 100000 in
theorem f_331_1220 : fe 331 1220 = some (.iload_n 3, 1, 13, some .boolean) := fe_of pg_331 (by decide +kernel)
set_option maxRecDepth 100000 in
theorem f_331_1221 : fe 331 1221 = some (.iconst 1, 1, 13, some .boolean) := fe_of pg_331 (by decide +kernel)
set_option maxRecDepth 100000 in
theorem f_331_1222 : fe 331 1222 = some (.iadd, 1, 13, some .boolean) := fe_of pg_331 (by decide +kernel)
set_option maxRecDepth 100000 in
theorem f_331_1223 : fe 331 1223 = some (.iaload, 1, 13, some .boolean) := fe_of pg_331 (by decide +kernel)
set_option maxRecDepth 100000 in
theorem f_331_1224 : fe 331 1224 = some (.aload_n 0, 1, 13, some .boolean) := fe_of pg_331 (by decide +kernel)
set_option maxRecDepth 100000 in
theorem f_331_1225 : fe 331 1225 = some (.iload_n 3, 1, 13, some .boolean) := fe_of pg_331 (by decide +kernel)
set_option maxRecDepth 100000 in
theorem f_331_1226 : fe 331 1226 = some (.iconst 2, 1, 13, some .boolean) := fe_of pg_331 (by decide +kernel)
set_option maxRecDepth 100000 in
theorem f_331_1227 : fe 331 1227 = some (.iadd, 1, 13, some .boolean) := fe_of pg_331 (by decide +kernel)
set_option maxRecDepth 100000 in
theorem f_331_1228 : fe 331 1228 = some (.iaload, 1, 13, some .boolean) := fe_of pg_331 (by decide +kernel)
set_option maxRecDepth 100000 in
theorem f_331_1229 : fe 331 1229 = some (.invokevirtual 126, 3, 13, some .boolean) := fe_of pg_331 (by decide +kernel)
set_option maxRecDepth 100000 in
theorem f_331_1232 : fe 331 1232 = some (.if_icmp .eq 216, 3, 13, some .boolean) := fe_of pg_331 (by decide +kernel)
set_option maxRecDepth 100000 in
theorem f_331_1235 : fe 331 1235 = some (.iconst 0, 1, 13, some .boolean) := fe_of pg_331 (by decide +kernel)
set_option maxRecDepth 100000 in
theorem f_331_1236 : fe 331 1236 = some (.ireturn, 1, 13, some .boolean) := fe_of pg_331 (by decide +kernel)
set_option maxRecDepth 100000 in
theorem f_331_1237 : fe 331 1237 = some (.aload_n 1, 1, 13, some .boolean) := fe_of pg_331 (by decide +kernel)
set_option maxRecDepth 100000 in
theorem f_331_1238 : fe 331 1238 = some (.aload_n 0, 1, 13, some .boolean) := fe_of pg_331 (by decide +kernel)
set_option maxRecDepth 100000 in
theorem f_331_1239 : fe 331 1239 = some (.iload_n 3, 1, 13, some .boolean) := fe_of pg_331 (by decide +kernel)
set_option maxRecDepth 100000 in
theorem f_331_1240 : fe 331 1240 = some (.iconst 1, 1, 13, some .boolean) := fe_of pg_331 (by decide +kernel)
set_option maxRecDepth 100000 in
theorem f_331_1241 : fe 331 1241 = some (.iadd, 1, 13, some .boolean) := fe_of pg_331 (by decide +kernel)
set_option maxRecDepth 100000 in
theorem f_331_1242 : fe 331 1242 = some (.iaload, 1, 13, some .boolean) := fe_of pg_331 (by decide +kernel)
set_option maxRecDepth 100000 in
theorem f_331_1243 : fe 331 1243 = some (.aload_n 0, 1, 13, some .boolean) := fe_of pg_331 (by decide +kernel)
set_option maxRecDepth 100000 in
theorem f_331_1244 : fe 331 1244 = some (.iload_n 3, 1, 13, some .boolean) := fe_of pg_331 (by decide +kernel)
set_option maxRecDepth 100000 in
theorem f_331_1245 : fe 331 1245 = some (.iconst 2, 1, 13, some .boolean) := fe_of pg_331 (by decide +kernel)
set_option maxRecDepth 100000 in
theorem f_331_1246 : fe 331 1246 = some (.iadd, 1, 13, some .boolean) := fe_of pg_331 (by decide +kernel)
set_option maxRecDepth 100000 in
theorem f_331_1247 : fe 331 1247 = some (.iaload, 1, 13, some .boolean) := fe_of pg_331 (by decide +kernel)
set_option maxRecDepth 100000 in
theorem f_331_1248 : fe 331 1248 = some (.aload_n 0, 1, 13, some .boolean) := fe_of pg_331 (by decide +kernel)
set_option maxRecDepth 100000 in
theorem f_331_1249 : fe 331 1249 = some (.iload_n 3, 1, 13, some .boolean) := fe_of pg_331 (by decide +kernel)
set_option maxRecDepth 100000 in
theorem f_331_1250 : fe 331 1250 = some (.iconst 3, 1, 13, some .boolean) := fe_of pg_331 (by decide +kernel)
set_option maxRecDepth 100000 in
theorem f_331_1251 : fe 331 1251 = some (.iadd, 1, 13, some .boolean) := fe_of pg_331 (by decide +kernel)
set_option maxRecDepth 100000 in
theorem f_331_1252 : fe 331 1252 = some (.iaload, 1, 13, some .boolean) := fe_of pg_331 (by decide +kernel)
set_option maxRecDepth 100000 in
theorem f_331_1253 : fe 331 1253 = some (.ifCond .eq 7, 3, 13, some .boolean) := fe_of pg_331 (by decide +kernel)
set_option maxRecDepth 100000 in
theorem f_331_1256 : fe 331 1256 = some (.iconst 1, 1, 13, some .boolean) := fe_of pg_331 (by decide +kernel)
set_option maxRecDepth 100000 in
theorem f_331_1257 : fe 331 1257 = some (.goto 4, 3, 13, some .boolean) := fe_of pg_331 (by decide +kernel)
set_option maxRecDepth 100000 in
theorem f_331_1260 : fe 331 1260 = some (.iconst 0, 1, 13, some .boolean) := fe_of pg_331 (by decide +kernel)
set_option maxRecDepth 100000 in
theorem f_331_1261 : fe 331 1261 = some (.invokevirtual 127, 3, 13, some .boolean) := fe_of pg_331 (by decide +kernel)
set_option maxRecDepth 100000 in
theorem f_331_1264 : fe 331 1264 = some (.aload_n 2, 1, 13, some .boolean) := fe_of pg_331 (by decide +kernel)
set_option maxRecDepth 100000 in
theorem f_331_1265 : fe 331 1265 = some (.aload_n 0, 1, 13, some .boolean) := fe_of pg_331 (by decide +kernel)
set_option maxRecDepth 100000 in
theorem f_331_1266 : fe 331 1266 = some (.iload_n 3, 1, 13, some .boolean) := fe_of pg_331 (by decide +kernel)
set_option maxRecDepth 100000 in
theorem f_331_1267 : fe 331 1267 = some (.iconst 1, 1, 13, some .boolean) := fe_of pg_331 (by decide +kernel)
set_option maxRecDepth 100000 in
theorem f_331_1268 : fe 331 1268 = some (.iadd, 1, 13, some .boolean) := fe_of pg_331 (by decide +kernel)
set_option maxRecDepth 100000 in
theorem f_331_1269 : fe 331 1269 = some (.iaload, 1, 13, some .boolean) := fe_of pg_331 (by decide +kernel)
set_option maxRecDepth 100000 in
theorem f_331_1270 : fe 331 1270 = some (.aload_n 0, 1, 13, some .boolean) := fe_of pg_331 (by decide +kernel)
set_option maxRecDepth 100000 in
theorem f_331_1271 : fe 331 1271 = some (.iload_n 3, 1, 13, some .boolean) := fe_of pg_331 (by decide +kernel)
set_option maxRecDepth 100000 in
theorem f_331_1272 : fe 331 1272 = some (.iconst 2, 1, 13, some .boolean) := fe_of pg_331 (by decide +kernel)
set_option maxRecDepth 100000 in
theorem f_331_1273 : fe 331 1273 = some (.iadd, 1, 13, some .boolean) := fe_of pg_331 (by decide +kernel)
set_option maxRecDepth 100000 in
theorem f_331_1274 : fe 331 1274 = some (.iaload, 1, 13, some .boolean) := fe_of pg_331 (by decide +kernel)
set_option maxRecDepth 100000 in
theorem f_331_1275 : fe 331 1275 = some (.aload_n 0, 1, 13, some .boolean) := fe_of pg_331 (by decide +kernel)
set_option maxRecDepth 100000 in
theorem f_331_1276 : fe 331 1276 = some (.iload_n 3, 1, 13, some .boolean) := fe_of pg_331 (by decide +kernel)
set_option maxRecDepth 100000 in
theorem f_331_1277 : fe 331 1277 = some (.iconst 3, 1, 13, some .boolean) := fe_of pg_331 (by decide +kernel)
set_option maxRecDepth 100000 in
theorem f_331_1278 : fe 331 1278 = some (.iadd, 1, 13, some .boolean) := fe_of pg_331 (by decide +kernel)
set_option maxRecDepth 100000 in
theorem f_331_1279 : fe 331 1279 = some (.iaload, 1, 13, some .boolean) := fe_of pg_331 (by decide +kernel)
set_option maxRecDepth 100000 in
theorem f_331_1280 : fe 331 1280 = some (.ifCond .eq 7, 3, 13, some .boolean) := fe_of pg_331 (by decide +kernel)
set_option maxRecDepth 100000 in
theorem f_331_1283 : fe 331 1283 = some (.iconst 1, 1, 13, some .boolean) := fe_of pg_331 (by decide +kernel)
set_option maxRecDepth 100000 in
theorem f_331_1284 : fe 331 1284 = some (.goto 4, 3, 13, some .boolean) := fe_of pg_331 (by decide +kernel)
set_option maxRecDepth 100000 in
theorem f_331_1287 : fe 331 1287 = some (.iconst 0, 1, 13, some .boolean) := fe_of pg_331 (by decide +kernel)
set_option maxRecDepth 100000 in
theorem f_331_1288 : fe 331 1288 = some (.invokevirtual 130, 3, 13, some .boolean) := fe_of pg_331 (by decide +kernel)
set_option maxRecDepth 100000 in
theorem f_331_1291 : fe 331 1291 = some (.if_icmp .eq 157, 3, 13, some .boolean) := fe_of pg_331 (by decide +kernel)
set_option maxRecDepth 100000 in
theorem f_331_1294 : fe 331 1294 = some (.iconst 0, 1, 13, some .boolean) := fe_of pg_331 (by decide +kernel)
set_option maxRecDepth 100000 in
theorem f_331_1295 : fe 331 1295 = some (.ireturn, 1, 13, some .boolean) := fe_of pg_331 (by decide +kernel)
set_option maxRecDepth 100000 in
theorem f_331_1296 : fe 331 1296 = some (.aload_n 1, 1, 13, some .boolean) := fe_of pg_331 (by decide +kernel)
set_option maxRecDepth 100000 in
theorem f_331_1297 : fe 331 1297 = some (.aload_n 0, 1, 13, some .boolean) := fe_of pg_331 (by decide +kernel)
set_option maxRecDepth 100000 in
theorem f_331_1298 : fe 331 1298 = some (.iload_n 3, 1, 13, some .boolean) := fe_of pg_331 (by decide +kernel)
set_option maxRecDepth 100000 in
theorem f_331_1299 : fe 331 1299 = some (.iconst 1, 1, 13, some .boolean) := fe_of pg_331 (by decide +kernel)
set_option maxRecDepth 100000 in
theorem f_331_1300 : fe 331 1300 = some (.iadd, 1, 13, some .boolean) := fe_of pg_331 (by decide +kernel)
set_option maxRecDepth 100000 in
theorem f_331_1301 : fe 331 1301 = some (.iaload, 1, 13, some .boolean) := fe_of pg_331 (by decide +kernel)
set_option maxRecDepth 100000 in
theorem f_331_1302 : fe 331 1302 = some (.aload_n 0, 1, 13, some .boolean) := fe_of pg_331 (by decide +kernel)
set_option maxRecDepth 100000 in
theorem f_331_1303 : fe 331 1303 = some (.iload_n 3, 1, 13, some .boolean) := fe_of pg_331 (by decide +kernel)
set_option maxRecDepth 100000 in
theorem f_331_1304 : fe 331 1304 = some (.iconst 2, 1, 13, some .boolean) := fe_of pg_331 (by decide +kernel)
set_option maxRecDepth 100000 in
theorem f_331_1305 : fe 331 1305 = some (.iadd, 1, 13, some .boolean) := fe_of pg_331 (by decide +kernel)
set_option maxRecDepth 100000 in
theorem f_331_1306 : fe 331 1306 = some (.iaload, 1, 13, some .boolean) := fe_of pg_331 (by decide +kernel)
set_option maxRecDepth 100000 in
theorem f_331_1307 : fe 331 1307 = some (.invokevirtual 131, 3, 13, some .boolean) := fe_of pg_331 (by decide +kernel)
set_option maxRecDepth 100000 in
theorem f_331_1310 : fe 331 1310 = some (.aload_n 2, 1, 13, some .boolean) := fe_of pg_331 (by decide +kernel)
set_option maxRecDepth 100000 in
theorem f_331_1311 : fe 331 1311 = some (.aload_n 0, 1, 13, some .boolean) := fe_of pg_331 (by decide +kernel)
set_option maxRecDepth 100000 in
theorem f_331_1312 : fe 331 1312 = some (.iload_n 3, 1, 13, some .boolean) := fe_of pg_331 (by decide +kernel)
set_option maxRecDepth 100000 in
theorem f_331_1313 : fe 331 1313 = some (.iconst 1, 1, 13, some .boolean) := fe_of pg_331 (by decide +kernel)
set_option maxRecDepth 100000 in
theorem f_331_1314 : fe 331 1314 = some (.iadd, 1, 13, some .boolean) := fe_of pg_331 (by decide +kernel)
set_option maxRecDepth 100000 in
theorem f_331_1315 : fe 331 1315 = some (.iaload, 1, 13, some .boolean) := fe_of pg_331 (by decide +kernel)
set_option maxRecDepth 100000 in
theorem f_331_1316 : fe 331 1316 = some (.aload_n 0, 1, 13, some .boolean) := fe_of pg_331 (by decide +kernel)
set_option maxRecDepth 100000 in
theorem f_331_1317 : fe 331 1317 = some (.iload_n 3, 1, 13, some .boolean) := fe_of pg_331 (by decide +kernel)
set_option maxRecDepth 100000 in
theorem f_331_1318 : fe 331 1318 = some (.iconst 2, 1, 13, some .boolean) := fe_of pg_331 (by decide +kernel)
set_option maxRecDepth 100000 in
theorem f_331_1319 : fe 331 1319 = some (.iadd, 1, 13, some .boolean) := fe_of pg_331 (by decide +kernel)
set_option maxRecDepth 100000 in
theorem f_331_1320 : fe 331 1320 = some (.iaload, 1, 13, some .boolean) := fe_of pg_331 (by decide +kernel)
set_option maxRecDepth 100000 in
theorem f_331_1321 : fe 331 1321 = some (.invokevirtual 135, 3, 13, some .boolean) := fe_of pg_331 (by decide +kernel)
set_option maxRecDepth 100000 in
theorem f_331_1324 : fe 331 1324 = some (.lcmp, 1, 13, some .boolean) := fe_of pg_331 (by decide +kernel)
set_option maxRecDepth 100000 in
theorem f_331_1325 : fe 331 1325 = some (.ifCond .eq 123, 3, 13, some .boolean) := fe_of pg_331 (by decide +kernel)
set_option maxRecDepth 100000 in
theorem f_331_1328 : fe 331 1328 = some (.iconst 0, 1, 13, some .boolean) := fe_of pg_331 (by decide +kernel)
set_option maxRecDepth 100000 in
theorem f_331_1329 : fe 331 1329 = some (.ireturn, 1, 13, some .boolean) := fe_of pg_331 (by decide +kernel)
set_option maxRecDepth 100000 in
theorem f_331_1330 : fe 331 1330 = some (.aload_n 1, 1, 13, some .boolean) := fe_of pg_331 (by decide +kernel)
set_option maxRecDepth 100000 in
theorem f_331_1331 : fe 331 1331 = some (.aload_n 0, 1, 13, some .boolean) := fe_of pg_331 (by decide +kernel)
set_option maxRecDepth 100000 in
theorem f_331_1332 : fe 331 1332 = some (.iload_n 3, 1, 13, some .boolean) := fe_of pg_331 (by decide +kernel)
set_option maxRecDepth 100000 in
theorem f_331_1333 : fe 331 1333 = some (.iconst 1, 1, 13, some .boolean) := fe_of pg_331 (by decide +kernel)
set_option maxRecDepth 100000 in
theorem f_331_1334 : fe 331 1334 = some (.iadd, 1, 13, some .boolean) := fe_of pg_331 (by decide +kernel)
set_option maxRecDepth 100000 in
theorem f_331_1335 : fe 331 1335 = some (.iaload, 1, 13, some .boolean) := fe_of pg_331 (by decide +kernel)
set_option maxRecDepth 100000 in
theorem f_331_1336 : fe 331 1336 = some (.aload_n 0, 1, 13, some .boolean) := fe_of pg_331 (by decide +kernel)
set_option maxRecDepth 100000 in
theorem f_331_1337 : fe 331 1337 = some (.iload_n 3, 1, 13, some .boolean) := fe_of pg_331 (by decide +kernel)
set_option maxRecDepth 100000 in
theorem f_331_1338 : fe 331 1338 = some (.iconst 2, 1, 13, some .boolean) := fe_of pg_331 (by decide +kernel)
set_option maxRecDepth 100000 in
theorem f_331_1339 : fe 331 1339 = some (.iadd, 1, 13, some .boolean) := fe_of pg_331 (by decide +kernel)
set_option maxRecDepth 100000 in
theorem f_331_1340 : fe 331 1340 = some (.iaload, 1, 13, some .boolean) := fe_of pg_331 (by decide +kernel)
set_option maxRecDepth 100000 in
theorem f_331_1341 : fe 331 1341 = some (.ifCond .eq 7, 3, 13, some .boolean) := fe_of pg_331 (by decide +kernel)
set_option maxRecDepth 100000 in
theorem f_331_1344 : fe 331 1344 = some (.iconst 1, 1, 13, some .boolean) := fe_of pg_331 (by decide +kernel)
set_option maxRecDepth 100000 in
theorem f_331_1345 : fe 331 1345 = some (.goto 4, 3, 13, some .boolean) := fe_of pg_331 (by decide +kernel)
set_option maxRecDepth 100000 in
theorem f_331_1348 : fe 331 1348 = some (.iconst 0, 1, 13, some .boolean) := fe_of pg_331 (by decide +kernel)
set_option maxRecDepth 100000 in
theorem f_331_1349 : fe 331 1349 = some (.invokevirtual 136, 3, 13, some .boolean) := fe_of pg_331 (by decide +kernel)
set_option maxRecDepth 100000 in
theorem f_331_1352 : fe 331 1352 = some (.aload_n 2, 1, 13, some .boolean) := fe_of pg_331 (by decide +kernel)
set_option maxRecDepth 100000 in
theorem f_331_1353 : fe 331 1353 = some (.aload_n 0, 1, 13, some .boolean) := fe_of pg_331 (by decide +kernel)
set_option maxRecDepth 100000 in
theorem f_331_1354 : fe 331 1354 = some (.iload_n 3, 1, 13, some .boolean) := fe_of pg_331 (by decide +kernel)
set_option maxRecDepth 100000 in
theorem f_331_1355 : fe 331 1355 = some (.iconst 1, 1, 13, some .boolean) := fe_of pg_331 (by decide +kernel)
set_option maxRecDepth 100000 in
theorem f_331_1356 : fe 331 1356 = some (.iadd, 1, 13, some .boolean) := fe_of pg_331 (by decide +kernel)
set_option maxRecDepth 100000 in
theorem f_331_1357 : fe 331 1357 = some (.iaload, 1, 13, some .boolean) := fe_of pg_331 (by decide +kernel)
set_option maxRecDepth 100000 in
theorem f_331_1358 : fe 331 1358 = some (.aload_n 0, 1, 13, some .boolean) := fe_of pg_331 (by decide +kernel)
set_option maxRecDepth 100000 in
theorem f_331_1359 : fe 331 1359 = some (.iload_n 3, 1, 13, some .boolean) := fe_of pg_331 (by decide +kernel)
set_option maxRecDepth 100000 in
theorem f_331_1360 : fe 331 1360 = some (.iconst 2, 1, 13, some .boolean) := fe_of pg_331 (by decide +kernel)
set_option maxRecDepth 100000 in
theorem f_331_1361 : fe 331 1361 = some (.iadd, 1, 13, some .boolean) := fe_of pg_331 (by decide +kernel)
set_option maxRecDepth 100000 in
theorem f_331_1362 : fe 331 1362 = some (.iaload, 1, 13, some .boolean) := fe_of pg_331 (by decide +kernel)
set_option maxRecDepth 100000 in
theorem f_331_1363 : fe 331 1363 = some (.ifCond .eq 7, 3, 13, some .boolean) := fe_of pg_331 (by decide +kernel)
set_option maxRecDepth 100000 in
theorem f_331_1366 : fe 331 1366 = some (.iconst 1, 1, 13, some .boolean) := fe_of pg_331 (by decide +kernel)
set_option maxRecDepth 100000 in
theorem f_331_1367 : fe 331 1367 = some (.goto 4, 3, 13, some .boolean) := fe_of pg_331 (by decide +kernel)
set_option maxRecDepth 100000 in
theorem f_331_1370 : fe 331 1370 = some (.iconst 0, 1, 13, some .boolean) := fe_of pg_331 (by decide +kernel)
set_option maxRecDepth 100000 in
theorem f_331_1371 : fe 331 1371 = some (.invokevirtual 140, 3, 13, some .boolean) := fe_of pg_331 (by decide +kernel)
set_option maxRecDepth 100000 in
theorem f_331_1374 : fe 331 1374 = some (.if_icmp .eq 74, 3, 13, some .boolean) := fe_of pg_331 (by decide +kernel)
set_option maxRecDepth 100000 in
theorem f_331_1377 : fe 331 1377 = some (.iconst 0, 1, 13, some .boolean) := fe_of pg_331 (by decide +kernel)
set_option maxRecDepth 100000 in
theorem f_331_1378 : fe 331 1378 = some (.ireturn, 1, 13, some .boolean) := fe_of pg_331 (by decide +kernel)
set_option maxRecDepth 100000 in
theorem f_331_1379 : fe 331 1379 = some (.aload_n 1, 1, 13, some .boolean) := fe_of pg_331 (by decide +kernel)
set_option maxRecDepth 100000 in
theorem f_331_1380 : fe 331 1380 = some (.aload_n 0, 1, 13, some .boolean) := fe_of pg_331 (by decide +kernel)
set_option maxRecDepth 100000 in
theorem f_331_1381 : fe 331 1381 = some (.iload_n 3, 1, 13, some .boolean) := fe_of pg_331 (by decide +kernel)
set_option maxRecDepth 100000 in
theorem f_331_1382 : fe 331 1382 = some (.iconst 1, 1, 13, some .boolean) := fe_of pg_331 (by decide +kernel)
set_option maxRecDepth 100000 in
theorem f_331_1383 : fe 331 1383 = some (.iadd, 1, 13, some .boolean) := fe_of pg_331 (by decide +kernel)
set_option maxRecDepth 100000 in
theorem f_331_1384 : fe 331 1384 = some (.iaload, 1, 13, some .boolean) := fe_of pg_331 (by decide +kernel)
set_option maxRecDepth 100000 in
theorem f_331_1385 : fe 331 1385 = some (.invokevirtual 141, 3, 13, some .boolean) := fe_of pg_331 (by decide +kernel)
set_option maxRecDepth 100000 in
theorem f_331_1388 : fe 331 1388 = some (.aload_n 2, 1, 13, some .boolean) := fe_of pg_331 (by decide +kernel)
set_option maxRecDepth 100000 in
theorem f_331_1389 : fe 331 1389 = some (.aload_n 0, 1, 13, some .boolean) := fe_of pg_331 (by decide +kernel)
set_option maxRecDepth 100000 in
theorem f_331_1390 : fe 331 1390 = some (.iload_n 3, 1, 13, some .boolean) := fe_of pg_331 (by decide +kernel)
set_option maxRecDepth 100000 in
theorem f_331_1391 : fe 331 1391 = some (.iconst 1, 1, 13, some .boolean) := fe_of pg_331 (by decide +kernel)
set_option maxRecDepth 100000 in
theorem f_331_1392 : fe 331 1392 = some (.iadd, 1, 13, some .boolean) := fe_of pg_331 (by decide +kernel)
set_option maxRecDepth 100000 in
theorem f_331_1393 : fe 331 1393 = some (.iaload, 1, 13, some .boolean) := fe_of pg_331 (by decide +kernel)
set_option maxRecDepth 100000 in
theorem f_331_1394 : fe 331 1394 = some (.invokevirtual 144, 3, 13, some .boolean) := fe_of pg_331 (by decide +kernel)
set_option maxRecDepth 100000 in
theorem f_331_1397 : fe 331 1397 = some (.if_icmp .eq 51, 3, 13, some .boolean) := fe_of pg_331 (by decide +kernel)
set_option maxRecDepth 100000 in
theorem f_331_1400 : fe 331 1400 = some (.iconst 0, 1, 13, some .boolean) := fe_of pg_331 (by decide +kernel)
set_option maxRecDepth 100000 in
theorem f_331_1401 : fe 331 1401 = some (.ireturn, 1, 13, some .boolean) := fe_of pg_331 (by decide +kernel)
set_option maxRecDepth 100000 in
theorem f_331_1402 : fe 331 1402 = some (.aload_n 1, 1, 13, some .boolean) := fe_of pg_331 (by decide +kernel)
set_option maxRecDepth 100000 in
theorem f_331_1403 : fe 331 1403 = some (.aload_n 0, 1, 13, some .boolean) := fe_of pg_331 (by decide +kernel)
set_option maxRecDepth 100000 in
theorem f_331_1404 : fe 331 1404 = some (.iload_n 3, 1, 13, some .boolean) := fe_of pg_331 (by decide +kernel)
set_option maxRecDepth 100000 in
theorem f_331_1405 : fe 331 1405 = some (.iconst 1, 1, 13, some .boolean) := fe_of pg_331 (by decide +kernel)
set_option maxRecDepth 100000 in
theorem f_331_1406 : fe 331 1406 = some (.iadd, 1, 13, some .boolean) := fe_of pg_331 (by decide +kernel)
set_option maxRecDepth 100000 in
theorem f_331_1407 : fe 331 1407 = some (.iaload, 1, 13, some .boolean) := fe_of pg_331 (by decide +kernel)
set_option maxRecDepth 100000 in
theorem f_331_1408 : fe 331 1408 = some (.invokevirtual 145, 3, 13, some .boolean) := fe_of pg_331 (by decide +kernel)
set_option maxRecDepth 100000 in
theorem f_331_1411 : fe 331 1411 = some (.aload_n 2, 1, 13, some .boolean) := fe_of pg_331 (by decide +kernel)
set_option maxRecDepth 100000 in
theorem f_331_1412 : fe 331 1412 = some (.aload_n 0, 1, 13, some .boolean) := fe_of pg_331 (by decide +kernel)
set_option maxRecDepth 100000 in
theorem f_331_1413 : fe 331 1413 = some (.iload_n 3, 1, 13, some .boolean) := fe_of pg_331 (by decide +kernel)
set_option maxRecDepth 100000 in
theorem f_331_1414 : fe 331 1414 = some (.iconst 1, 1, 13, some .boolean) := fe_of pg_331 (by decide +kernel)
set_option maxRecDepth 100000 in
theorem f_331_1415 : fe 331 1415 = some (.iadd, 1, 13, some .boolean) := fe_of pg_331 (by decide +kernel)
set_option maxRecDepth 100000 in
theorem f_331_1416 : fe 331 1416 = some (.iaload, 1, 13, some .boolean) := fe_of pg_331 (by decide +kernel)
set_option maxRecDepth 100000 in
theorem f_331_1417 : fe 331 1417 = some (.invokevirtual 149, 3, 13, some .boolean) := fe_of pg_331 (by decide +kernel)
set_option maxRecDepth 100000 in
theorem f_331_1420 : fe 331 1420 = some (.if_icmp .eq 28, 3, 13, some .boolean) := fe_of pg_331 (by decide +kernel)
set_option maxRecDepth 100000 in
theorem f_331_1423 : fe 331 1423 = some (.iconst 0, 1, 13, some .boolean) := fe_of pg_331 (by decide +kernel)
set_option maxRecDepth 100000 in
theorem f_331_1424 : fe 331 1424 = some (.ireturn, 1, 13, some .boolean) := fe_of pg_331 (by decide +kernel)
set_option maxRecDepth 100000 in
theorem f_331_1425 : fe 331 1425 = some (.aload_n 1, 1, 13, some .boolean) := fe_of pg_331 (by decide +kernel)
set_option maxRecDepth 100000 in
theorem f_331_1426 : fe 331 1426 = some (.aload_n 0, 1, 13, some .boolean) := fe_of pg_331 (by decide +kernel)
set_option maxRecDepth 100000 in
theorem f_331_1427 : fe 331 1427 = some (.iload_n 3, 1, 13, some .boolean) := fe_of pg_331 (by decide +kernel)
set_option maxRecDepth 100000 in
theorem f_331_1428 : fe 331 1428 = some (.iconst 1, 1, 13, some .boolean) := fe_of pg_331 (by decide +kernel)
set_option maxRecDepth 100000 in
theorem f_331_1429 : fe 331 1429 = some (.iadd, 1, 13, some .boolean) := fe_of pg_331 (by decide +kernel)
set_option maxRecDepth 100000 in
theorem f_331_1430 : fe 331 1430 = some (.iaload, 1, 13, some .boolean) := fe_of pg_331 (by decide +kernel)
set_option maxRecDepth 100000 in
theorem f_331_1431 : fe 331 1431 = some (.invokevirtual 150, 3, 13, some .boolean) := fe_of pg_331 (by decide +kernel)
set_option maxRecDepth 100000 in
theorem f_331_1434 : fe 331 1434 = some (.aload_n 2, 1, 13, some .boolean) := fe_of pg_331 (by decide +kernel)
set_option maxRecDepth 100000 in
theorem f_331_1435 : fe 331 1435 = some (.aload_n 0, 1, 13, some .boolean) := fe_of pg_331 (by decide +kernel)
set_option maxRecDepth 100000 in
theorem f_331_1436 : fe 331 1436 = some (.iload_n 3, 1, 13, some .boolean) := fe_of pg_331 (by decide +kernel)
set_option maxRecDepth 100000 in
theorem f_331_1437 : fe 331 1437 = some (.iconst 1, 1, 13, some .boolean) := fe_of pg_331 (by decide +kernel)
set_option maxRecDepth 100000 in
theorem f_331_1438 : fe 331 1438 = some (.iadd, 1, 13, some .boolean) := fe_of pg_331 (by decide +kernel)
set_option maxRecDepth 100000 in
theorem f_331_1439 : fe 331 1439 = some (.iaload, 1, 13, some .boolean) := fe_of pg_331 (by decide +kernel)
set_option maxRecDepth 100000 in
theorem f_331_1440 : fe 331 1440 = some (.invokevirtual 153, 3, 13, some .boolean) := fe_of pg_331 (by decide +kernel)
set_option maxRecDepth 100000 in
theorem f_331_1443 : fe 331 1443 = some (.if_icmp .eq 5, 3, 13, some .boolean) := fe_of pg_331 (by decide +kernel)
set_option maxRecDepth 100000 in
theorem f_331_1446 : fe 331 1446 = some (.iconst 0, 1, 13, some .boolean) := fe_of pg_331 (by decide +kernel)
set_option maxRecDepth 100000 in
theorem f_331_1447 : fe 331 1447 = some (.ireturn, 1, 13, some .boolean) := fe_of pg_331 (by decide +kernel)
set_option maxRecDepth 100000 in
theorem f_331_1448 : fe 331 1448 = some (.iinc 3 6, 3, 13, some .boolean) := fe_of pg_331 (by decide +kernel)
set_option maxRecDepth 100000 in
theorem f_331_1451 : fe 331 1451 = some (.goto (-1433), 3, 13, some .boolean) := fe_of pg_331 (by decide +kernel)
set_option maxRecDepth 100000 in
theorem f_331_1454 : fe 331 1454 = some (.iconst 1, 1, 13, some .boolean) := fe_of pg_331 (by decide +kernel)
set_option maxRecDepth 100000 in
theorem f_331_1455 : fe 331 1455 = some (.ireturn, 1, 13, some .boolean) := fe_of pg_331 (by decide +kernel)
