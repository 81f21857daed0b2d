theorem dL_law_1104 : decode cL_law 1104 = .ok (.aload_n 1, 1) := by decide +kernel
theorem dL_law_1105 : decode cL_law 1105 = .ok (.aload_n 0, 1) := by decide +kernel
theorem dL_law_1106 : decode cL_law 1106 = .ok (.iload 4, 2) := by decide +kernel
theorem dL_law_1108 : decode cL_law 1108 = .ok (.iconst 1, 1) := by decide +kernel
theorem dL_law_1109 : decode cL_law 1109 = .ok (.iadd, 1) := by decide +kernel
theorem dL_law_1110 : decode cL_law 1110 = .ok (.iaload, 1) := by decide +kernel
theorem dL_law_1111 : decode cL_law 1111 = .ok (.aload_n 0, 1) := by decide +kernel
theorem dL_law_1112 : decode cL_law 1112 = .ok (.iload 4, 2) := by decide +kernel
theorem dL_law_1114 : decode cL_law 1114 = .ok (.iconst 2, 1) := by decide +kernel
theorem dL_law_1115 : decode cL_law 1115 = .ok (.iadd, 1) := by decide +kernel
theorem dL_law_1116 : decode cL_law 1116 = .ok (.iaload, 1) := by decide +kernel
theorem dL_law_1117 : decode cL_law 1117 = .ok (.aload_n 0, 1) := by decide +kernel
theorem dL_law_1118 : decode cL_law 1118 = .ok (.iload 4, 2) := by decide +kernel
theorem dL_law_1120 : decode cL_law 1120 = .ok (.iconst 3, 1) := by decide +kernel
theorem dL_law_1121 : decode cL_law 1121 = .ok (.iadd, 1) := by decide +kernel
theorem dL_law_1122 : decode cL_law 1122 = .ok (.iaload, 1) := by decide +kernel
theorem dL_law_1123 : decode cL_law 1123 = .ok (.aload_n 3, 1) := by decide +kernel
theorem dL_law_1124 : decode cL_law 1124 = .ok (.invokestatic 144, 3) := by decide +kernel
theorem dL_law_1127 : decode cL_law 1127 = .ok (.istore 5, 2) := by decide +kernel
theorem dL_law_1129 : decode cL_law 1129 = .ok (.aload_n 2, 1) := by decide +kernel
theorem dL_law_1130 : decode cL_law 1130 = .ok (.aload_n 0, 1) := by decide +kernel
theorem dL_law_1131 : decode cL_law 1131 = .ok (.iload 4, 2) := by decide +kernel
theorem dL_law_1133 : decode cL_law 1133 = .ok (.iconst 1, 1) := by decide +kernel
theorem dL_law_1134 : decode cL_law 1134 = .ok (.iadd, 1) := by decide +kernel
theorem dL_law_1135 : decode cL_law 1135 = .ok (.iaload, 1) := by decide +kernel
theorem dL_law_1136 : decode cL_law 1136 = .ok (.aload_n 0, 1) := by decide +kernel
theorem dL_law_1137 : decode cL_law 1137 = .ok (.iload 4, 2) := by decide +kernel
theorem dL_law_1139 : decode cL_law 1139 = .ok (.iconst 2, 1) := by decide +kernel
theorem dL_law_1140 : decode cL_law 1140 = .ok (.iadd, 1) := by decide +kernel
theorem dL_law_1141 : decode cL_law 1141 = .ok (.iaload, 1) := by decide +kernel
theorem dL_law_1142 : decode cL_law 1142 = .ok (.aload_n 0, 1) := by decide +kernel
theorem dL_law_1143 : decode cL_law 1143 = .ok (.iload 4, 2) := by decide +kernel
theorem dL_law_1145 : decode cL_law 1145 = .ok (.iconst 3, 1) := by decide +kernel
theorem dL_law_1146 : decode cL_law 1146 = .ok (.iadd, 1) := by decide +kernel
theorem dL_law_1147 : decode cL_law 1147 = .ok (.iaload, 1) := by decide +kernel
theorem dL_law_1148 : decode cL_law 1148 = .ok (.invokevirtual 146, 3) := by decide +kernel
theorem dL_law_1151 : decode cL_law 1151 = .ok (.istore 6, 2) := by decide +kernel
theorem dL_law_1153 : decode cL_law 1153 = .ok (.aload_n 2, 1) := by decide +kernel
theorem dL_law_1154 : decode cL_law 1154 = .ok (.invokevirtual 102, 3) := by decide +kernel
theorem dL_law_1157 : decode cL_law 1157 = .ok (.iload 5, 2) := by decide +kernel
theorem dL_law_1159 : decode cL_law 1159 = .ok (.if_icmp .eq 5, 3) := by decide +kernel
theorem dL_law_1164 : decode cL_law 1164 = .ok (.iload 5, 2) := by decide +kernel
theorem dL_law_1166 : decode cL_law 1166 = .ok (.ifCond .ne 15, 3) := by decide +kernel
theorem dL_law_1181 : decode cL_law 1181 = .ok (.goto 696, 3) := by decide +kernel
theorem dL_law_1184 : decode cL_law 1184 = .ok (.aload_n 1, 1) := by decide +kernel
theorem dL_law_1185 : decode cL_law 1185 = .ok (.aload_n 0, 1) := by decide +kernel
theorem dL_law_1186 : decode cL_law 1186 = .ok (.iload 4, 2) := by decide +kernel
theorem dL_law_1188 : decode cL_law 1188 = .ok (.iconst 1, 1) := by decide +kernel
theorem dL_law_1189 : decode cL_law 1189 = .ok (.iadd, 1) := by decide +kernel
theorem dL_law_1190 : decode cL_law 1190 = .ok (.iaload, 1) := by decide +kernel
theorem dL_law_1191 : decode cL_law 1191 = .ok (.aload_n 3, 1) := by decide +kernel
theorem dL_law_1192 : decode cL_law 1192 = .ok (.invokestatic 147, 3) := by decide +kernel
theorem dL_law_1195 : decode cL_law 1195 = .ok (.istore 5, 2) := by decide +kernel
theorem dL_law_1197 : decode cL_law 1197 = .ok (.aload_n 2, 1) := by decide +kernel
theorem dL_law_1198 : decode cL_law 1198 = .ok (.aload_n 0, 1) := by decide +kernel
theorem dL_law_1199 : decode cL_law 1199 = .ok (.iload 4, 2) := by decide +kernel
theorem dL_law_1201 : decode cL_law 1201 = .ok (.iconst 1, 1) := by decide +kernel
theorem dL_law_1202 : decode cL_law 1202 = .ok (.iadd, 1) := by decide +kernel
theorem dL_law_1203 : decode cL_law 1203 = .ok (.iaload, 1) := by decide +kernel
theorem dL_law_1204 : decode cL_law 1204 = .ok (.invokevirtual 149, 3) := by decide +kernel
theorem dL_law_1207 : decode cL_law 1207 = .ok (.istore 6, 2) := by decide +kernel
theorem dL_law_1209 : decode cL_law 1209 = .ok (.aload_n 2, 1) := by decide +kernel
theorem dL_law_1210 : decode cL_law 1210 = .ok (.invokevirtual 102, 3) := by decide +kernel
theorem dL_law_1213 : decode cL_law 1213 = .ok (.iload 5, 2) := by decide +kernel
theorem dL_law_1215 : decode cL_law 1215 = .ok (.if_icmp .eq 5, 3) := by decide +kernel
theorem dL_law_1220 : decode cL_law 1220 = .ok (.iload 5, 2) := by decide +kernel
theorem dL_law_1222 : decode cL_law 1222 = .ok (.ifCond .ne 15, 3) := by decide +kernel
theorem dL_law_1225 : decode cL_law 1225 = .ok (.aload_n 3, 1) := by decide +kernel
theorem dL_law_1226 : decode cL_law 1226 = .ok (.iconst 0, 1) := by decide +kernel
theorem dL_law_1227 : decode cL_law 1227 = .ok (.laload, 1) := by decide +kernel
theorem dL_law_1228 : decode cL_law 1228 = .ok (.iload 6, 2) := by decide +kernel
theorem dL_law_1230 : decode cL_law 1230 = .ok (.i2l, 1) := by decide +kernel
theorem dL_law_1231 : decode cL_law 1231 = .ok (.lcmp, 1) := by decide +kernel
theorem dL_law_1232 : decode cL_law 1232 = .ok (.ifCond .eq 5, 3) := by decide +kernel
theorem dL_law_1237 : decode cL_law 1237 = .ok (.goto 640, 3) := by decide +kernel
theorem dL_law_1240 : decode cL_law 1240 = .ok (.aload_n 1, 1) := by decide +kernel
theorem dL_law_1241 : decode cL_law 1241 = .ok (.aload_n 0, 1) := by decide +kernel
theorem dL_law_1242 : decode cL_law 1242 = .ok (.iload 4, 2) := by decide +kernel
theorem dL_law_1244 : decode cL_law 1244 = .ok (.iconst 1, 1) := by decide +kernel
theorem dL_law_1245 : decode cL_law 1245 = .ok (.iadd, 1) := by decide +kernel
theorem dL_law_1246 : decode cL_law 1246 = .ok (.iaload, 1) := by decide +kernel
theorem dL_law_1247 : decode cL_law 1247 = .ok (.aload_n 3, 1) := by decide +kernel
theorem dL_law_1248 : decode cL_law 1248 = .ok (.invokestatic 150, 3) := by decide +kernel
theorem dL_law_1251 : decode cL_law 1251 = .ok (.istore 5, 2) := by decide +kernel
theorem dL_law_1253 : decode cL_law 1253 = .ok (.aload_n 2, 1) := by decide +kernel
theorem dL_law_1254 : decode cL_law 1254 = .ok (.aload_n 0, 1) := by decide +kernel
theorem dL_law_1255 : decode cL_law 1255 = .ok (.iload 4, 2) := by decide +kernel
theorem dL_law_1257 : decode cL_law 1257 = .ok (.iconst 1, 1) := by decide +kernel
theorem dL_law_1258 : decode cL_law 1258 = .ok (.iadd, 1) := by decide +kernel
theorem dL_law_1259 : decode cL_law 1259 = .ok (.iaload, 1) := by decide +kernel
theorem dL_law_1260 : decode cL_law 1260 = .ok (.invokevirtual 152, 3) := by decide +kernel
theorem dL_law_1263 : decode cL_law 1263 = .ok (.istore 6, 2) := by decide +kernel
theorem dL_law_1265 : decode cL_law 1265 = .ok (.aload_n 2, 1) := by decide +kernel
theorem dL_law_1266 : decode cL_law 1266 = .ok (.invokevirtual 102, 3) := by decide +kernel
theorem dL_law_1269 : decode cL_law 1269 = .ok (.iload 5, 2) := by decide +kernel
theorem dL_law_1271 : decode cL_law 1271 = .ok (.if_icmp .eq 5, 3) := by decide +kernel
theorem dL_law_1276 : decode cL_law 1276 = .ok (.iload 5, 2) := by decide +kernel
theorem dL_law_1278 : decode cL_law 1278 = .ok (.ifCond .ne 15, 3) := by decide +kernel
theorem dL_law_1293 : decode cL_law 1293 = .ok (.goto 584, 3) := by decide +kernel
theorem dL_law_1296 : decode cL_law 1296 = .ok (.aload_n 1, 1) := by decide +kernel
theorem dL_law_1297 : decode cL_law 1297 = .ok (.aload_n 0, 1) := by decide +kernel
theorem dL_law_1298 : decode cL_law 1298 = .ok (.iload 4, 2) := by decide +kernel
theorem dL_law_1300 : decode cL_law 1300 = .ok (.iconst 1, 1) := by decide +kernel
theorem dL_law_1301 : decode cL_law 1301 = .ok (.iadd, 1) := by decide +kernel
theorem dL_law_1302 : decode cL_law 1302 = .ok (.iaload, 1) := by decide +kernel
theorem dL_law_1303 : decode cL_law 1303 = .ok (.aload_n 3, 1) := by decide +kernel
theorem dL_law_1304 : decode cL_law 1304 = .ok (.invokestatic 153, 3) := by decide +kernel
theorem dL_law_1307 : decode cL_law 1307 = .ok (.istore 5, 2) := by decide +kernel
theorem dL_law_1309 : decode cL_law 1309 = .ok (.aload_n 2, 1) := by decide +kernel
theorem dL_law_1310 : decode cL_law 1310 = .ok (.aload_n 0, 1) := by decide +kernel
theorem dL_law_1311 : decode cL_law 1311 = .ok (.iload 4, 2) := by decide +kernel
theorem dL_law_1313 : decode cL_law 1313 = .ok (.iconst 1, 1) := by decide +kernel
theorem dL_law_1314 : decode cL_law 1314 = .ok (.iadd, 1) := by decide +kernel
theorem dL_law_1315 : decode cL_law 1315 = .ok (.iaload, 1) := by decide +kernel
theorem dL_law_1316 : decode cL_law 1316 = .ok (.invokevirtual 155, 3) := by decide +kernel
theorem dL_law_1319 : decode cL_law 1319 = .ok (.istore 6, 2) := by decide +kernel
theorem dL_law_1321 : decode cL_law 1321 = .ok (.aload_n 2, 1) := by decide +kernel
theorem dL_law_1322 : decode cL_law 1322 = .ok (.invokevirtual 102, 3) := by decide +kernel
theorem dL_law_1325 : decode cL_law 1325 = .ok (.iload 5, 2) := by decide +kernel
theorem dL_law_1327 : decode cL_law 1327 = .ok (.if_icmp .eq 5, 3) := by decide +kernel
theorem dL_law_1332 : decode cL_law 1332 = .ok (.iload 5, 2) := by decide +kernel
theorem dL_law_1334 : decode cL_law 1334 = .ok (.ifCond .ne 15, 3) := by decide +kernel
theorem dL_law_1349 : decode cL_law 1349 = .ok (.goto 528, 3) := by decide +kernel
theorem dL_law_1352 : decode cL_law 1352 = .ok (.aload_n 1, 1) := by decide +kernel
theorem dL_law_1353 : decode cL_law 1353 = .ok (.aload_n 0, 1) := by decide +kernel
theorem dL_law_1354 : decode cL_law 1354 = .ok (.iload 4, 2) := by decide +kernel
theorem dL_law_1356 : decode cL_law 1356 = .ok (.iconst 1, 1) := by decide +kernel
theorem dL_law_1357 : decode cL_law 1357 = .ok (.iadd, 1) := by decide +kernel
theorem dL_law_1358 : decode cL_law 1358 = .ok (.iaload, 1) := by decide +kernel
theorem dL_law_1359 : decode cL_law 1359 = .ok (.aload_n 3, 1) := by decide +kernel
theorem dL_law_1360 : decode cL_law 1360 = .ok (.invokestatic 156, 3) := by decide +kernel
theorem dL_law_1363 : decode cL_law 1363 = .ok (.istore 5, 2) := by decide +kernel
theorem dL_law_1365 : decode cL_law 1365 = .ok (.aload_n 2, 1) := by decide +kernel
theorem dL_law_1366 : decode cL_law 1366 = .ok (.aload_n 0, 1) := by decide +kernel
theorem dL_law_1367 : decode cL_law 1367 = .ok (.iload 4, 2) := by decide +kernel
theorem dL_law_1369 : decode cL_law 1369 = .ok (.iconst 1, 1) := by decide +kernel
theorem dL_law_1370 : decode cL_law 1370 = .ok (.iadd, 1) := by decide +kernel
theorem dL_law_1371 : decode cL_law 1371 = .ok (.iaload, 1) := by decide +kernel
theorem dL_law_1372 : decode cL_law 1372 = .ok (.invokevirtual 158, 3) := by decide +kernel
theorem dL_law_1375 : decode cL_law 1375 = .ok (.istore 6, 2) := by decide +kernel
theorem dL_law_1377 : decode cL_law 1377 = .ok (.aload_n 2, 1) := by decide +kernel
theorem dL_law_1378 : decode cL_law 1378 = .ok (.invokevirtual 102, 3) := by decide +kernel
theorem dL_law_1381 : decode cL_law 1381 = .ok (.iload 5, 2) := by decide +kernel
theorem dL_law_1383 : decode cL_law 1383 = .ok (.if_icmp .eq 5, 3) := by decide +kernel
theorem dL_law_1388 : decode cL_law 1388 = .ok (.iload 5, 2) := by decide +kernel
theorem dL_law_1390 : decode cL_law 1390 = .ok (.ifCond .ne 15, 3) := by decide +kernel
theorem dL_law_1405 : decode cL_law 1405 = .ok (.goto 472, 3) := by decide +kernel
theorem dL_law_1408 : decode cL_law 1408 = .ok (.aload_n 1, 1) := by decide +kernel
theorem dL_law_1409 : decode cL_law 1409 = .ok (.invokevirtual 159, 3) := by decide +kernel
theorem dL_law_1412 : decode cL_law 1412 = .ok (.aload_n 2, 1) := by decide +kernel
theorem dL_law_1413 : decode cL_law 1413 = .ok (.invokevirtual 162, 3) := by decide +kernel
theorem dL_law_1416 : decode cL_law 1416 = .ok (.if_icmp .eq 461, 3) := by decide +kernel
theorem u_496 : Cond.methodLink RL 159 yX11_frames ∈ gU := gm (i := 496) (by decide +kernel) (by decide +kernel)
theorem u_497 : Cond.instanceMethod yX11_frames ∈ gU := gm (i := 497) (by decide +kernel) (by decide +kernel)
theorem u_498 : Cond.selects RX11 yX11_frames yX11_frames ∈ gU := gm (i := 498) (by decide +kernel) (by decide +kernel)
theorem u_499 : Cond.code yX11_frames cX11_frames 1 (some .int) ∈ gU := gm (i := 499) (by decide +kernel) (by decide +kernel)
theorem u_843 : Cond.methodLink RL 144 yL_send ∈ gU := gm (i := 843) (by decide +kernel) (by decide +kernel)
theorem u_844 : Cond.static yL_send ∈ gU := gm (i := 844) (by decide +kernel) (by decide +kernel)
theorem u_845 : Cond.codeWith yL_send cL_send 6 (some .int) [(0, 12, 15, 21), (0, 12, 19, 13), (0, 12, 23, 15)] ∈ gU := gm (i := 845) (by decide +kernel) (by decide +kernel)
theorem u_893 : Cond.methodLink RL 147 yL_tick ∈ gU := gm (i := 893) (by decide +kernel) (by decide +kernel)
theorem u_894 : Cond.static yL_tick ∈ gU := gm (i := 894) (by decide +kernel) (by decide +kernel)
theorem u_895 : Cond.codeWith yL_tick cL_tick 4 (some .int) [(0, 9, 12, 13)] ∈ gU := gm (i := 895) (by decide +kernel) (by decide +kernel)
theorem u_1045 : Cond.methodLink RL 150 yL_fate ∈ gU := gm (i := 1045) (by decide +kernel) (by decide +kernel)
theorem u_1046 : Cond.static yL_fate ∈ gU := gm (i := 1046) (by decide +kernel) (by decide +kernel)
theorem u_1047 : Cond.codeWith yL_fate cL_fate 4 (some .int) [(0, 9, 12, 21)] ∈ gU := gm (i := 1047) (by decide +kernel) (by decide +kernel)
theorem u_1057 : Cond.methodLink RL 153 yL_where ∈ gU := gm (i := 1057) (by decide +kernel) (by decide +kernel)
theorem u_1058 : Cond.static yL_where ∈ gU := gm (i := 1058) (by decide +kernel) (by decide +kernel)
theorem u_1059 : Cond.codeWith yL_where cL_where 4 (some .int) [(0, 9, 12, 21)] ∈ gU := gm (i := 1059) (by decide +kernel) (by decide +kernel)
theorem u_1064 : Cond.methodLink RL 156 yL_source ∈ gU := gm (i := 1064) (by decide +kernel) (by decide +kernel)
theorem u_1065 : Cond.static yL_source ∈ gU := gm (i := 1065) (by decide +kernel) (by decide +kernel)
theorem u_1066 : Cond.codeWith yL_source cL_source 4 (some .int) [(0, 9, 12, 21)] ∈ gU := gm (i := 1066) (by decide +kernel) (by decide +kernel)
theorem u_1514 : Cond.methodLink RL 146 yX12_send ∈ gU := gm (i := 1514) (by decide +kernel) (by decide +kernel)
theorem u_1515 : Cond.instanceMethod yX12_send ∈ gU := gm (i := 1515) (by decide +kernel) (by decide +kernel)
theorem u_1516 : Cond.selects RX12 yX12_send yX12_send ∈ gU := gm (i := 1516) (by decide +kernel) (by decide +kernel)
theorem u_1517 : Cond.code yX12_send cX12_send 8 (some .int) ∈ gU := gm (i := 1517) (by decide +kernel) (by decide +kernel)
theorem u_1545 : Cond.methodLink RL 149 yX12_tick ∈ gU := gm (i := 1545) (by decide +kernel) (by decide +kernel)
theorem u_1546 : Cond.instanceMethod yX12_tick ∈ gU := gm (i := 1546) (by decide +kernel) (by decide +kernel)
theorem u_1547 : Cond.selects RX12 yX12_tick yX12_tick ∈ gU := gm (i := 1547) (by decide +kernel) (by decide +kernel)
theorem u_1548 : Cond.code yX12_tick cX12_tick 3 (some .int) ∈ gU := gm (i := 1548) (by decide +kernel) (by decide +kernel)
theorem u_1631 : Cond.methodLink RL 152 yX12_fate ∈ gU := gm (i := 1631) (by decide +kernel) (by decide +kernel)
theorem u_1632 : Cond.instanceMethod yX12_fate ∈ gU := gm (i := 1632) (by decide +kernel) (by decide +kernel)
theorem u_1633 : Cond.selects RX12 yX12_fate yX12_fate ∈ gU := gm (i := 1633) (by decide +kernel) (by decide +kernel)
theorem u_1634 : Cond.code yX12_fate cX12_fate 2 (some .int) ∈ gU := gm (i := 1634) (by decide +kernel) (by decide +kernel)
theorem u_1639 : Cond.methodLink RL 155 yX12_where ∈ gU := gm (i := 1639) (by decide +kernel) (by decide +kernel)
theorem u_1640 : Cond.instanceMethod yX12_where ∈ gU := gm (i := 1640) (by decide +kernel) (by decide +kernel)
theorem u_1641 : Cond.selects RX12 yX12_where yX12_where ∈ gU := gm (i := 1641) (by decide +kernel) (by decide +kernel)
theorem u_1642 : Cond.code yX12_where cX12_where 2 (some .int) ∈ gU := gm (i := 1642) (by decide +kernel) (by decide +kernel)
theorem u_1643 : Cond.methodLink RL 158 yX12_source ∈ gU := gm (i := 1643) (by decide +kernel) (by decide +kernel)
theorem u_1644 : Cond.instanceMethod yX12_source ∈ gU := gm (i := 1644) (by decide +kernel) (by decide +kernel)
theorem u_1645 : Cond.selects RX12 yX12_source yX12_source ∈ gU := gm (i := 1645) (by decide +kernel) (by decide +kernel)
theorem u_1646 : Cond.code yX12_source cX12_source 2 (some .int) ∈ gU := gm (i := 1646) (by decide +kernel) (by decide +kernel)
theorem u_1647 : Cond.methodLink RL 162 yX12_frames ∈ gU := gm (i := 1647) (by decide +kernel) (by decide +kernel)
theorem u_1648 : Cond.instanceMethod yX12_frames ∈ gU := gm (i := 1648) (by decide +kernel) (by decide +kernel)
theorem u_1649 : Cond.selects RX12 yX12_frames yX12_frames ∈ gU := gm (i := 1649) (by decide +kernel) (by decide +kernel)
theorem u_1650 : Cond.code yX12_frames cX12_frames 1 (some .int) ∈ gU := gm (i := 1650) (by decide +kernel) (by decide +kernel)
set_option maxHeartbeats 8000000 in
set_option maxRecDepth 100000 in
theorem law_c12 {p : Program} {l : Launch} {e : Env} {s : State} {m : MethodId} {below : List Frame} {meth : Method} {c : Code} {dC : Nat → ClassId} {dI : Nat → Nat → Nat} {A : Nat → Prop} {b L : Nat} {xs : Nat → Int32} {h0 : Nat} {w : Nat} {kd : Nat} {cK : ClassId} {gW : Nat → Nat} {sg : Nat} {sn : Nat} {cS : ClassId} {gS : Nat → Nat} {ro : Nat} {cu : Nat} {c1 : Nat} {cC1 : ClassId} {gB1 : Nat → Nat} {sp : Nat} {c2 : Nat} {cC2 : ClassId} {gB2 : Nat → Nat} {gR : Nat → Nat} {tr : Nat} {gT : Nat → Nat} {gX : Nat → Nat} {m0 : Nat} {kdM : Nat} {ckM : ClassId} {fa : Nat} {cf : ClassId} {gw : Nat} {cg : ClassId} {gM : Nat → Nat} {ou : Nat} {cO : ClassId} (hfl : l.stackTraces = false) (hx : p.tables.exec = Jvm.exec) (hb : c.code = code) (hr : meth.sig.returnType = ret) (hml : c.maxLocals = 7) (hown : s.vm.findClass RL = some m.cls) (hts : ∀ w ∈ gU, w.before #[Value.ref b] s = true) (hX : va_X b L xs s s.heap) (hbl : b < s.heap.size) (hlocks : meth.locks = false) (hE : gEnv s) (hZ : gZ A s) (hA : ∀ q : Nat, s.heap.size ≤ q → A q) (hbA : ¬ A b) (hAo : ∀ q : Nat, A q → s.heap.size ≤ q) (hL8 : L = 8) : ∀ (H : Heap) (locs : List Loc), va_K (dC, dI) vwCl [(cK, .int), (cS, .long), (cC1, .int), (cC2, .int), (ckM, .int), (cf, .int), (cg, .int), (cO, .long)] s → va_P (dC, dI) vwCl [(h0, .inr (11, oX w sg ro tr gX)), (w, .inr (10, oW kd gW 0 0)), (kd, .inl (cK, 10, .inl (fun _ => 0))), (sg, .inr (7, oS w sn gS 0)), (sn, .inl (cS, 40, .inr (.inl (fun _ => 0)))), (ro, .inr (6, oR w sg cu sp gR 0 0)), (cu, .inr (8, oB c1 gB1)), (c1, .inl (cC1, 10, .inl (fun _ => 0))), (sp, .inr (8, oB c2 gB2)), (c2, .inl (cC2, 10, .inl (fun _ => 0))), (tr, .inr (9, oT w sg ro gT 0 0 0 0)), (m0, .inr (12, mM kdM gw fa gM 0 0 0 0 0 0 0 0 0)), (kdM, .inl (ckM, 10, .inl (fun _ => 0))), (fa, .inl (cf, 10, .inl (fun _ => 0))), (gw, .inl (cg, 10, .inl (fun _ => 0))), (ou, .inl (cO, 1, .inr (.inl (fun _ => 0))))] H → va_D A [(h0, .inr (11, oX w sg ro tr gX)), (w, .inr (10, oW kd gW 0 0)), (kd, .inl (cK, 10, .inl (fun _ => 0))), (sg, .inr (7, oS w sn gS 0)), (sn, .inl (cS, 40, .inr (.inl (fun _ => 0)))), (ro, .inr (6, oR w sg cu sp gR 0 0)), (cu, .inr (8, oB c1 gB1)), (c1, .inl (cC1, 10, .inl (fun _ => 0))), (sp, .inr (8, oB c2 gB2)), (c2, .inl (cC2, 10, .inl (fun _ => 0))), (tr, .inr (9, oT w sg ro gT 0 0 0 0)), (m0, .inr (12, mM kdM gw fa gM 0 0 0 0 0 0 0 0 0)), (kdM, .inl (ckM, 10, .inl (fun _ => 0))), (fa, .inl (cf, 10, .inl (fun _ => 0))), (gw, .inl (cg, 10, .inl (fun _ => 0))), (ou, .inl (cO, 1, .inr (.inl (fun _ => 0))))] → va_S A s.heap H locs → ∀ ls : Array Slot, lv_has ls 7 [(4, .int 0), (3, .ref ou), (2, .ref m0), (1, .ref h0), (0, .ref b)] → W p l e room_1 s m #[Value.ref b] below meth c H locs 441 44110 (lw_Z below #[Value.ref b] s) (F0 m 1104 ls []) := by
  intro H locs hK hP hD hS ls hl
  refine lv_aload_n hx hb dL_law_1104 rfl (lv_at hl 3 rfl) ?_
  refine lv_aload_n hx hb dL_law_1105 rfl (lv_at hl 4 rfl) ?_
  refine lv_iload hx hb dL_law_1106 (lv_at hl 0 rfl) ?_
  refine lv_iconst (v := 1) hx hb dL_law_1108 (by decide) ?_
  refine lv_iadd hx hb dL_law_1109 ?_
  refine lv_topi (fun z1256 ez1256 => ?_)
  obtain rfl : z1256 = 1 := ez1256.trans (by decide)
  refine va_sld hx hb hX hbl hbA hS (by rw [hL8]; unfold vp_in; decide) dL_law_1110 ?_
  refine lv_aload_n hx hb dL_law_1111 rfl (lv_at hl 4 rfl) ?_
  refine lv_iload hx hb dL_law_1112 (lv_at hl 0 rfl) ?_
  refine lv_iconst (v := 2) hx hb dL_law_1114 (by decide) ?_
  refine lv_iadd hx hb dL_law_1115 ?_
  refine lv_topi (fun z1257 ez1257 => ?_)
  obtain rfl : z1257 = 2 := ez1257.trans (by decide)
  refine va_sld hx hb hX hbl hbA hS (by rw [hL8]; unfold vp_in; decide) dL_law_1116 ?_
  refine lv_aload_n hx hb dL_law_1117 rfl (lv_at hl 4 rfl) ?_
  refine lv_iload hx hb dL_law_1118 (lv_at hl 0 rfl) ?_
  refine lv_iconst (v := 3) hx hb dL_law_1120 (by decide) ?_
  refine lv_iadd hx hb dL_law_1121 ?_
  refine lv_topi (fun z1258 ez1258 => ?_)
  obtain rfl : z1258 = 3 := ez1258.trans (by decide)
  refine va_sld hx hb hX hbl hbA hS (by rw [hL8]; unfold vp_in; decide) dL_law_1122 ?_
  refine lv_aload_n hx hb dL_law_1123 rfl (lv_at hl 1 rfl) ?_
  have hPc := hP.sub (ws' := [(h0, .inr (11, oX w sg ro tr gX)), (w, .inr (10, oW kd gW 0 0))]) [0, 1] rfl
  have hDc := hD.sub (ws' := [(h0, .inr (11, oX w sg ro tr gX)), (w, .inr (10, oW kd gW 0 0))]) [0, 1] (by decide) rfl
  have hKc := hK.sub (tys' := []) [] rfl
  have hFc := roF hS hA
  refine va_calli (vx_runSW (As := [.ref h0, .int (xs (1 : Int32).toNatClampNeg), .int (xs (2 : Int32).toNatClampNeg), .int (xs (3 : Int32).toNatClampNeg), .ref ou]) (rest := []) ⟨hx, hb, hml, hown, hts⟩ (c_L_send l dC dI H.size hfl h0 ou w sg ro tr gX kd gW (xs (1 : Int32).toNatClampNeg) (xs (2 : Int32).toNatClampNeg) (xs (3 : Int32).toNatClampNeg)) (vx_cwSW 5 hts (gSt u_843 u_844 u_0 u_845) rfl rfl rfl (by decide +kernel) ⟨Nat.le_of_ble_eq_true rfl, Nat.le_of_ble_eq_true rfl⟩) ⟨gPZ_blind, gPZ_call hPc hKc hDc hE hZ hS hFc⟩ rfl rfl hl.1 rfl (lv_room (Nat.le_of_ble_eq_true rfl)) dL_law_1124 ⟨(Nat.le_of_ble_eq_true rfl), (Nat.le_of_ble_eq_true rfl)⟩) hS (fun q _ h => hFc q h) hFc (fun r1261 u1259 t9 H1260 locs ht hvm hw hB hz1 hk1 hS => ?_)
  have hP := roP hP hk1
  subst hw
  refine W.widen (k := 442) (n := 44116) (Nat.le_of_ble_eq_true rfl) (Nat.le_of_ble_eq_true rfl) ?_
  refine lv_istore (lv' := [(5, .int 1), (4, .int 0), (3, .ref ou), (2, .ref m0), (1, .ref h0), (0, .ref b)]) hx hb dL_law_1127 hl (by decide) rfl (fun ls hl => ?_)
  refine lv_aload_n hx hb dL_law_1129 rfl (lv_at hl 3 rfl) ?_
  refine lv_aload_n hx hb dL_law_1130 rfl (lv_at hl 5 rfl) ?_
  refine lv_iload hx hb dL_law_1131 (lv_at hl 1 rfl) ?_
  refine lv_iconst (v := 1) hx hb dL_law_1133 (by decide) ?_
  refine lv_iadd hx hb dL_law_1134 ?_
  refine lv_topi (fun z1262 ez1262 => ?_)
  obtain rfl : z1262 = 1 := ez1262.trans (by decide)
  refine va_sld hx hb hX hbl hbA hS (by rw [hL8]; unfold vp_in; decide) dL_law_1135 ?_
  refine lv_aload_n hx hb dL_law_1136 rfl (lv_at hl 5 rfl) ?_
  refine lv_iload hx hb dL_law_1137 (lv_at hl 1 rfl) ?_
  refine lv_iconst (v := 2) hx hb dL_law_1139 (by decide) ?_
  refine lv_iadd hx hb dL_law_1140 ?_
  refine lv_topi (fun z1263 ez1263 => ?_)
  obtain rfl : z1263 = 2 := ez1263.trans (by decide)
  refine va_sld hx hb hX hbl hbA hS (by rw [hL8]; unfold vp_in; decide) dL_law_1141 ?_
  refine lv_aload_n hx hb dL_law_1142 rfl (lv_at hl 5 rfl) ?_
  refine lv_iload hx hb dL_law_1143 (lv_at hl 1 rfl) ?_
  refine lv_iconst (v := 3) hx hb dL_law_1145 (by decide) ?_
  refine lv_iadd hx hb dL_law_1146 ?_
  refine lv_topi (fun z1264 ez1264 => ?_)
  obtain rfl : z1264 = 3 := ez1264.trans (by decide)
  refine va_sld hx hb hX hbl hbA hS (by rw [hL8]; unfold vp_in; decide) dL_law_1147 ?_
  have hPc := hP.sub (ws' := [(m0, .inr (12, mM kdM gw fa gM 0 0 0 0 0 0 0 0 0))]) [11] rfl
  have hDc := hD.sub (ws' := [(m0, .inr (12, mM kdM gw fa gM 0 0 0 0 0 0 0 0 0))]) [11] (by decide) rfl
  have hKc := hK.sub (tys' := []) [] rfl
  have hFc := va_free (wc := [(m0, .inr (12, mM kdM gw fa gM 0 0 0 0 0 0 0 0 0))]) hD hS hA [11] rfl
  refine va_calli (va_runV (As := [.int (xs (1 : Int32).toNatClampNeg), .int (xs (2 : Int32).toNatClampNeg), .int (xs (3 : Int32).toNatClampNeg)]) (rest := []) ⟨hx, hb, hml, hown, hts⟩ (c_X12_send l dC dI H1260.size m0 kdM gw fa gM 0 (xs (1 : Int32).toNatClampNeg) (xs (2 : Int32).toNatClampNeg) (xs (3 : Int32).toNatClampNeg)) (cwV 3 hts (gV u_1514 u_1515 u_1516 u_14 u_1517) rfl rfl rfl (by decide +kernel) ⟨Nat.le_of_ble_eq_true rfl, Nat.le_of_ble_eq_true rfl⟩) ⟨gP_blind, va_recv hKc hPc (ci := 12) (q0 := 0) rfl rfl, gP_call hPc hKc hDc hE⟩ rfl rfl hl.1 rfl (lv_room (Nat.le_of_ble_eq_true rfl)) dL_law_1148 ⟨(Nat.le_of_ble_eq_true rfl), (Nat.le_of_ble_eq_true rfl)⟩) hS (fun q _ h => hFc q h) hFc (fun r1267 u1265 t9 H1266 locs ht hvm hw hB hz1 hk1 hS => ?_)
  obtain ⟨hP1, hK1, hD1⟩ := hB
  rw [ht] at hP1
  have hK1 := va_K.moved hvm.symm hK1
  obtain ⟨hP, hD⟩ := va_join (wr := [(h0, .inr (11, oX w sg ro tr gX)), (w, .inr (10, oW kd gW 0 0)), (kd, .inl (cK, 10, .inl (fun _ => 0))), (sg, .inr (7, oS w sn gS 0)), (sn, .inl (cS, 40, .inr (.inl (fun _ => 0)))), (ro, .inr (6, oR w sg cu sp gR 0 0)), (cu, .inr (8, oB c1 gB1)), (c1, .inl (cC1, 10, .inl (fun _ => 0))), (sp, .inr (8, oB c2 gB2)), (c2, .inl (cC2, 10, .inl (fun _ => 0))), (tr, .inr (9, oT w sg ro gT 0 0 0 0)), (kdM, .inl (ckM, 10, .inl (fun _ => 0))), (fa, .inl (cf, 10, .inl (fun _ => 0))), (gw, .inl (cg, 10, .inl (fun _ => 0))), (ou, .inl (cO, 1, .inr (.inl (fun _ => 0))))]) (w1 := [(m0, .inr (12, mM kdM gw fa gM 0 0 0 0 0 0 0 0 1))]) hP hD [11] [0, 1, 2, 3, 4, 5, 6, 7, 8, 9, 10, 12, 13, 14, 15] rfl rfl (by decide) (by decide) hk1 hFc hP1 hD1
  have hK := (hK.sub (tys' := [(cK, .int), (cS, .long), (cC1, .int), (cC2, .int), (ckM, .int), (cf, .int), (cg, .int), (cO, .long)]) [0, 1, 2, 3, 4, 5, 6, 7] rfl).app hK1
  have hK : va_K (dC, dI) vwCl [(cK, .int), (cS, .long), (cC1, .int), (cC2, .int), (ckM, .int), (cf, .int), (cg, .int), (cO, .long)] s := hK
  have hP : va_P (dC, dI) vwCl [(h0, .inr (11, oX w sg ro tr gX)), (w, .inr (10, oW kd gW 0 0)), (kd, .inl (cK, 10, .inl (fun _ => 0))), (sg, .inr (7, oS w sn gS 0)), (sn, .inl (cS, 40, .inr (.inl (fun _ => 0)))), (ro, .inr (6, oR w sg cu sp gR 0 0)), (cu, .inr (8, oB c1 gB1)), (c1, .inl (cC1, 10, .inl (fun _ => 0))), (sp, .inr (8, oB c2 gB2)), (c2, .inl (cC2, 10, .inl (fun _ => 0))), (tr, .inr (9, oT w sg ro gT 0 0 0 0)), (kdM, .inl (ckM, 10, .inl (fun _ => 0))), (fa, .inl (cf, 10, .inl (fun _ => 0))), (gw, .inl (cg, 10, .inl (fun _ => 0))), (ou, .inl (cO, 1, .inr (.inl (fun _ => 0)))), (m0, .inr (12, mM kdM gw fa gM 0 0 0 0 0 0 0 0 1))] H1266 := hP
  have hD : va_D A [(h0, .inr (11, oX w sg ro tr gX)), (w, .inr (10, oW kd gW 0 0)), (kd, .inl (cK, 10, .inl (fun _ => 0))), (sg, .inr (7, oS w sn gS 0)), (sn, .inl (cS, 40, .inr (.inl (fun _ => 0)))), (ro, .inr (6, oR w sg cu sp gR 0 0)), (cu, .inr (8, oB c1 gB1)), (c1, .inl (cC1, 10, .inl (fun _ => 0))), (sp, .inr (8, oB c2 gB2)), (c2, .inl (cC2, 10, .inl (fun _ => 0))), (tr, .inr (9, oT w sg ro gT 0 0 0 0)), (kdM, .inl (ckM, 10, .inl (fun _ => 0))), (fa, .inl (cf, 10, .inl (fun _ => 0))), (gw, .inl (cg, 10, .inl (fun _ => 0))), (ou, .inl (cO, 1, .inr (.inl (fun _ => 0)))), (m0, .inr (12, mM kdM gw fa gM 0 0 0 0 0 0 0 0 1))] := hD
  subst hw
  refine lv_istore (lv' := [(6, .int 0), (5, .int 1), (4, .int 0), (3, .ref ou), (2, .ref m0), (1, .ref h0), (0, .ref b)]) hx hb dL_law_1151 hl (by decide) rfl (fun ls hl => ?_)
  refine lv_aload_n hx hb dL_law_1153 rfl (lv_at hl 4 rfl) ?_
  have hPc := hP.sub (ws' := [(m0, .inr (12, mM kdM gw fa gM 0 0 0 0 0 0 0 0 1))]) [15] rfl
  have hDc := hD.sub (ws' := [(m0, .inr (12, mM kdM gw fa gM 0 0 0 0 0 0 0 0 1))]) [15] (by decide) rfl
  have hKc := hK.sub (tys' := []) [] rfl
  have hFc := roF hS hA
  refine va_calli (va_runV (As := []) (rest := []) ⟨hx, hb, hml, hown, hts⟩ (cu_X12_thrown l dC dI H1266.size m0 kdM gw fa gM 1 0 0) (cwV 0 hts (gV u_1392 u_1393 u_1394 u_14 u_1395) rfl rfl rfl (by decide +kernel) ⟨Nat.le_of_ble_eq_true rfl, Nat.le_of_ble_eq_true rfl⟩) ⟨gP_blind, va_recv hKc hPc (ci := 12) (q0 := 0) rfl rfl, gP_call hPc hKc hDc hE⟩ rfl rfl hl.1 rfl (lv_room (Nat.le_of_ble_eq_true rfl)) dL_law_1154 ⟨(Nat.le_of_ble_eq_true rfl), (Nat.le_of_ble_eq_true rfl)⟩) hS (fun q _ h => hFc q h) hFc (fun r1270 u1268 t9 H1269 locs ht hvm hw hB hz1 hk1 hS => ?_)
  have hP := roP hP hk1
  subst hw
  refine lv_iload hx hb dL_law_1157 (lv_at hl 1 rfl) ?_
  refine lv_icmp_eq (tgt := 1164) hx hb dL_law_1159 (by decide) (fun _ => ?_) (fun h9 => absurd (by decide) h9)
  refine lv_iload hx hb dL_law_1164 (lv_at hl 1 rfl) ?_
  refine lv_if_ne (tgt := 1181) hx hb dL_law_1166 (by decide) (fun _ => ?_) (fun h9 => absurd h9 (by decide))
  refine lv_goto (tgt := 1877) hx hb dL_law_1181 (by decide) ?_
  refine W.widen (k := 600002) (n := 7302232) (Nat.le_of_ble_eq_true rfl) (Nat.le_of_ble_eq_true rfl) ?_
  exact law_tail hfl hx hb hr hml hown hts hX hbl hlocks hE hZ hA hbA hAo hL8 hS (lv_sub hl [6, 2] rfl)
set_option maxHeartbeats 8000000 in
set_option maxRecDepth 100000 in
theorem law_c13 {p : Program} {l : Launch} {e : Env} {s : State} {m : MethodId} {below : List Frame} {meth : Method} {c : Code} {dC : Nat → ClassId} {dI : Nat → Nat → Nat} {A : Nat → Prop} {b L : Nat} {xs : Nat → Int32} {h0 : Nat} {w : Nat} {kd : Nat} {cK : ClassId} {gW : Nat → Nat} {sg : Nat} {sn : Nat} {cS : ClassId} {gS : Nat → Nat} {ro : Nat} {cu : Nat} {c1 : Nat} {cC1 : ClassId} {gB1 : Nat → Nat} {sp : Nat} {c2 : Nat} {cC2 : ClassId} {gB2 : Nat → Nat} {gR : Nat → Nat} {tr : Nat} {gT : Nat → Nat} {gX : Nat → Nat} {m0 : Nat} {kdM : Nat} {ckM : ClassId} {fa : Nat} {cf : ClassId} {gw : Nat} {cg : ClassId} {gM : Nat → Nat} {ou : Nat} {cO : ClassId} (hfl : l.stackTraces = false) (hx : p.tables.exec = Jvm.exec) (hb : c.code = code) (hr : meth.sig.returnType = ret) (hml : c.maxLocals = 7) (hown : s.vm.findClass RL = some m.cls) (hts : ∀ w ∈ gU, w.before #[Value.ref b] s = true) (hX : va_X b L xs s s.heap) (hbl : b < s.heap.size) (hlocks : meth.locks = false) (hE : gEnv s) (hZ : gZ A s) (hA : ∀ q : Nat, s.heap.size ≤ q → A q) (hbA : ¬ A b) (hAo : ∀ q : Nat, A q → s.heap.size ≤ q) (hL8 : L = 8) : ∀ (H : Heap) (locs : List Loc), va_K (dC, dI) vwCl [(cK, .int), (cS, .long), (cC1, .int), (cC2, .int), (ckM, .int), (cf, .int), (cg, .int), (cO, .long)] s → va_P (dC, dI) vwCl [(h0, .inr (11, oX w sg ro tr gX)), (w, .inr (10, oW kd gW 0 0)), (kd, .inl (cK, 10, .inl (fun _ => 0))), (sg, .inr (7, oS w sn gS 0)), (sn, .inl (cS, 40, .inr (.inl (fun _ => 0)))), (ro, .inr (6, oR w sg cu sp gR 0 0)), (cu, .inr (8, oB c1 gB1)), (c1, .inl (cC1, 10, .inl (fun _ => 0))), (sp, .inr (8, oB c2 gB2)), (c2, .inl (cC2, 10, .inl (fun _ => 0))), (tr, .inr (9, oT w sg ro gT 0 0 0 0)), (m0, .inr (12, mM kdM gw fa gM 0 0 0 0 0 0 0 0 0)), (kdM, .inl (ckM, 10, .inl (fun _ => 0))), (fa, .inl (cf, 10, .inl (fun _ => 0))), (gw, .inl (cg, 10, .inl (fun _ => 0))), (ou, .inl (cO, 1, .inr (.inl (fun _ => 0))))] H → va_D A [(h0, .inr (11, oX w sg ro tr gX)), (w, .inr (10, oW kd gW 0 0)), (kd, .inl (cK, 10, .inl (fun _ => 0))), (sg, .inr (7, oS w sn gS 0)), (sn, .inl (cS, 40, .inr (.inl (fun _ => 0)))), (ro, .inr (6, oR w sg cu sp gR 0 0)), (cu, .inr (8, oB c1 gB1)), (c1, .inl (cC1, 10, .inl (fun _ => 0))), (sp, .inr (8, oB c2 gB2)), (c2, .inl (cC2, 10, .inl (fun _ => 0))), (tr, .inr (9, oT w sg ro gT 0 0 0 0)), (m0, .inr (12, mM kdM gw fa gM 0 0 0 0 0 0 0 0 0)), (kdM, .inl (ckM, 10, .inl (fun _ => 0))), (fa, .inl (cf, 10, .inl (fun _ => 0))), (gw, .inl (cg, 10, .inl (fun _ => 0))), (ou, .inl (cO, 1, .inr (.inl (fun _ => 0))))] → va_S A s.heap H locs → ∀ ls : Array Slot, lv_has ls 7 [(4, .int 0), (3, .ref ou), (2, .ref m0), (1, .ref h0), (0, .ref b)] → W p l e room_1 s m #[Value.ref b] below meth c H locs 441 44110 (lw_Z below #[Value.ref b] s) (F0 m 1184 ls []) := by
  intro H locs hK hP hD hS ls hl
  by_cases hr9 : (1 ≤ (xs (1 : Int32).toNatClampNeg) ∧ (xs (1 : Int32).toNatClampNeg) ≤ 30)
  · refine lv_aload_n hx hb dL_law_1184 rfl (lv_at hl 3 rfl) ?_
    refine lv_aload_n hx hb dL_law_1185 rfl (lv_at hl 4 rfl) ?_
    refine lv_iload hx hb dL_law_1186 (lv_at hl 0 rfl) ?_
    refine lv_iconst (v := 1) hx hb dL_law_1188 (by decide) ?_
    refine lv_iadd hx hb dL_law_1189 ?_
    refine lv_topi (fun z1271 ez1271 => ?_)
    obtain rfl : z1271 = 1 := ez1271.trans (by decide)
    refine va_sld hx hb hX hbl hbA hS (by rw [hL8]; unfold vp_in; decide) dL_law_1190 ?_
    refine lv_aload_n hx hb dL_law_1191 rfl (lv_at hl 1 rfl) ?_
    have hPc := hP.sub (ws' := [(h0, .inr (11, oX w sg ro tr gX)), (tr, .inr (9, oT w sg ro gT 0 0 0 0)), (sg, .inr (7, oS w sn gS 0)), (sn, .inl (cS, 40, .inr (.inl (fun _ => 0)))), (w, .inr (10, oW kd gW 0 0)), (ro, .inr (6, oR w sg cu sp gR 0 0)), (cu, .inr (8, oB c1 gB1)), (c1, .inl (cC1, 10, .inl (fun _ => 0))), (sp, .inr (8, oB c2 gB2)), (c2, .inl (cC2, 10, .inl (fun _ => 0))), (ou, .inl (cO, 1, .inr (.inl (fun _ => 0))))]) [0, 10, 3, 4, 1, 5, 6, 7, 8, 9, 15] rfl
    have hDc := hD.sub (ws' := [(h0, .inr (11, oX w sg ro tr gX)), (tr, .inr (9, oT w sg ro gT 0 0 0 0)), (sg, .inr (7, oS w sn gS 0)), (sn, .inl (cS, 40, .inr (.inl (fun _ => 0)))), (w, .inr (10, oW kd gW 0 0)), (ro, .inr (6, oR w sg cu sp gR 0 0)), (cu, .inr (8, oB c1 gB1)), (c1, .inl (cC1, 10, .inl (fun _ => 0))), (sp, .inr (8, oB c2 gB2)), (c2, .inl (cC2, 10, .inl (fun _ => 0))), (ou, .inl (cO, 1, .inr (.inl (fun _ => 0))))]) [0, 10, 3, 4, 1, 5, 6, 7, 8, 9, 15] (by decide) rfl
    have hKc := hK.sub (tys' := [(cS, .long), (cC1, .int), (cC2, .int), (cO, .long)]) [1, 2, 3, 7] rfl
    have hFc := va_free (wc := [(h0, .inr (11, oX w sg ro tr gX)), (tr, .inr (9, oT w sg ro gT 0 0 0 0)), (sg, .inr (7, oS w sn gS 0)), (sn, .inl (cS, 40, .inr (.inl (fun _ => 0)))), (w, .inr (10, oW kd gW 0 0)), (ro, .inr (6, oR w sg cu sp gR 0 0)), (cu, .inr (8, oB c1 gB1)), (c1, .inl (cC1, 10, .inl (fun _ => 0))), (sp, .inr (8, oB c2 gB2)), (c2, .inl (cC2, 10, .inl (fun _ => 0))), (ou, .inl (cO, 1, .inr (.inl (fun _ => 0))))]) hD hS hA [0, 10, 3, 4, 1, 5, 6, 7, 8, 9, 15] rfl
    refine va_calli (vx_runSW (As := [.ref h0, .int (xs (1 : Int32).toNatClampNeg), .ref ou]) (rest := []) ⟨hx, hb, hml, hown, hts⟩ (c_L_tick l dC dI H.size hfl h0 tr gX w kd gW sg sn cS gS ro gR gT cu c1 cC1 gB1 sp c2 cC2 gB2 (xs (1 : Int32).toNatClampNeg) ou cO (fun _ => 0)) (vx_cwSW 3 hts (gSt u_893 u_894 u_0 u_895) rfl rfl rfl (by decide +kernel) ⟨Nat.le_of_ble_eq_true rfl, Nat.le_of_ble_eq_true rfl⟩) ⟨gPZ_blind, gPZ_call hPc hKc hDc hE hZ hS hFc⟩ rfl rfl hl.1 rfl (lv_room (Nat.le_of_ble_eq_true rfl)) dL_law_1192 ⟨(Nat.le_of_ble_eq_true rfl), (Nat.le_of_ble_eq_true rfl)⟩) hS (fun q _ h => hFc q h) hFc (fun r1274 u1272 t9 H1273 locs ht hvm hw hB hz1 hk1 hS => ?_)
    obtain ⟨hP1, hK1, hD1⟩ := hB
    rw [ht] at hP1
    have hK1 := va_K.moved hvm.symm hK1
    obtain ⟨hP, hD⟩ := va_join (wr := [(kd, .inl (cK, 10, .inl (fun _ => 0))), (m0, .inr (12, mM kdM gw fa gM 0 0 0 0 0 0 0 0 0)), (kdM, .inl (ckM, 10, .inl (fun _ => 0))), (fa, .inl (cf, 10, .inl (fun _ => 0))), (gw, .inl (cg, 10, .inl (fun _ => 0)))]) (w1 := [(ou, .inl (cO, 1, .inr (.inl u1272)))]) hP hD [0, 10, 3, 4, 1, 5, 6, 7, 8, 9, 15] [2, 11, 12, 13, 14] rfl rfl (by decide) (by decide) hk1 hFc hP1 hD1
    have hK := (hK.sub (tys' := [(cK, .int), (ckM, .int), (cf, .int), (cg, .int)]) [0, 4, 5, 6] rfl).app hK1
    have hK : va_K (dC, dI) vwCl [(cK, .int), (ckM, .int), (cf, .int), (cg, .int), (cO, .long)] s := hK
    have hP : va_P (dC, dI) vwCl [(kd, .inl (cK, 10, .inl (fun _ => 0))), (m0, .inr (12, mM kdM gw fa gM 0 0 0 0 0 0 0 0 0)), (kdM, .inl (ckM, 10, .inl (fun _ => 0))), (fa, .inl (cf, 10, .inl (fun _ => 0))), (gw, .inl (cg, 10, .inl (fun _ => 0))), (ou, .inl (cO, 1, .inr (.inl u1272)))] H1273 := hP
    have hD : va_D A [(kd, .inl (cK, 10, .inl (fun _ => 0))), (m0, .inr (12, mM kdM gw fa gM 0 0 0 0 0 0 0 0 0)), (kdM, .inl (ckM, 10, .inl (fun _ => 0))), (fa, .inl (cf, 10, .inl (fun _ => 0))), (gw, .inl (cg, 10, .inl (fun _ => 0))), (ou, .inl (cO, 1, .inr (.inl u1272)))] := hD
    refine W.widen (k := 442) (n := 44116) (Nat.le_of_ble_eq_true rfl) (Nat.le_of_ble_eq_true rfl) ?_
    obtain ⟨hr0, hu0⟩ := hw.1 hr9
    subst hr0
    refine lv_istore (lv' := [(5, .int 0), (4, .int 0), (3, .ref ou), (2, .ref m0), (1, .ref h0), (0, .ref b)]) hx hb dL_law_1195 hl (by decide) rfl (fun ls hl => ?_)
    refine lv_aload_n hx hb dL_law_1197 rfl (lv_at hl 3 rfl) ?_
    refine lv_aload_n hx hb dL_law_1198 rfl (lv_at hl 5 rfl) ?_
    refine lv_iload hx hb dL_law_1199 (lv_at hl 1 rfl) ?_
    refine lv_iconst (v := 1) hx hb dL_law_1201 (by decide) ?_
    refine lv_iadd hx hb dL_law_1202 ?_
    refine lv_topi (fun z1275 ez1275 => ?_)
    obtain rfl : z1275 = 1 := ez1275.trans (by decide)
    refine va_sld hx hb hX hbl hbA hS (by rw [hL8]; unfold vp_in; decide) dL_law_1203 ?_
    have hPc := hP.sub (ws' := [(m0, .inr (12, mM kdM gw fa gM 0 0 0 0 0 0 0 0 0)), (fa, .inl (cf, 10, .inl (fun _ => 0)))]) [1, 3] rfl
    have hDc := hD.sub (ws' := [(m0, .inr (12, mM kdM gw fa gM 0 0 0 0 0 0 0 0 0)), (fa, .inl (cf, 10, .inl (fun _ => 0)))]) [1, 3] (by decide) rfl
    have hKc := hK.sub (tys' := [(cf, .int)]) [2] rfl
    have hFc := va_free (wc := [(m0, .inr (12, mM kdM gw fa gM 0 0 0 0 0 0 0 0 0)), (fa, .inl (cf, 10, .inl (fun _ => 0)))]) hD hS hA [1, 3] rfl
    refine va_calli (va_runV (As := [.int (xs (1 : Int32).toNatClampNeg)]) (rest := []) ⟨hx, hb, hml, hown, hts⟩ (c_X12_tick l dC dI H1273.size m0 kdM gw fa gM 0 cf (xs (1 : Int32).toNatClampNeg)) (cwV 1 hts (gV u_1545 u_1546 u_1547 u_14 u_1548) rfl rfl rfl (by decide +kernel) ⟨Nat.le_of_ble_eq_true rfl, Nat.le_of_ble_eq_true rfl⟩) ⟨gP_blind, va_recv hKc hPc (ci := 12) (q0 := 0) rfl rfl, gP_call hPc hKc hDc hE⟩ rfl rfl hl.1 rfl (lv_room (Nat.le_of_ble_eq_true rfl)) dL_law_1204 ⟨(Nat.le_of_ble_eq_true rfl), (Nat.le_of_ble_eq_true rfl)⟩) hS (fun q _ h => hFc q h) hFc (fun r1278 u1276 t9 H1277 locs ht hvm hw hB hz1 hk1 hS => ?_)
    obtain ⟨hP1, hK1, hD1⟩ := hB
    rw [ht] at hP1
    have hK1 := va_K.moved hvm.symm hK1
    obtain ⟨hP, hD⟩ := va_join (wr := [(kd, .inl (cK, 10, .inl (fun _ => 0))), (kdM, .inl (ckM, 10, .inl (fun _ => 0))), (gw, .inl (cg, 10, .inl (fun _ => 0))), (ou, .inl (cO, 1, .inr (.inl u1272)))]) (w1 := [(m0, .inr (12, mM kdM gw fa gM 0 0 u1276.1 0 0 0 0 0 u1276.2))]) hP hD [1, 3] [0, 2, 4, 5] rfl rfl (by decide) (by decide) hk1 hFc hP1 hD1
    have hK := (hK.sub (tys' := [(cK, .int), (ckM, .int), (cg, .int), (cO, .long)]) [0, 1, 3, 4] rfl).app hK1
    have hK : va_K (dC, dI) vwCl [(cK, .int), (ckM, .int), (cg, .int), (cO, .long)] s := hK
    have hP : va_P (dC, dI) vwCl [(kd, .inl (cK, 10, .inl (fun _ => 0))), (kdM, .inl (ckM, 10, .inl (fun _ => 0))), (gw, .inl (cg, 10, .inl (fun _ => 0))), (ou, .inl (cO, 1, .inr (.inl u1272))), (m0, .inr (12, mM kdM gw fa gM 0 0 u1276.1 0 0 0 0 0 u1276.2))] H1277 := hP
    have hD : va_D A [(kd, .inl (cK, 10, .inl (fun _ => 0))), (kdM, .inl (ckM, 10, .inl (fun _ => 0))), (gw, .inl (cg, 10, .inl (fun _ => 0))), (ou, .inl (cO, 1, .inr (.inl u1272))), (m0, .inr (12, mM kdM gw fa gM 0 0 u1276.1 0 0 0 0 0 u1276.2))] := hD
    obtain ⟨hr1, he2⟩ := hw.1 (fun q => gIs_f q hr9)
    subst hr1
    refine lv_istore (lv' := [(6, .int (xs (1 : Int32).toNatClampNeg)), (5, .int 0), (4, .int 0), (3, .ref ou), (2, .ref m0), (1, .ref h0), (0, .ref b)]) hx hb dL_law_1207 hl (by decide) rfl (fun ls hl => ?_)
    refine lv_aload_n hx hb dL_law_1209 rfl (lv_at hl 4 rfl) ?_
    have hPc := hP.sub (ws' := [(m0, .inr (12, mM kdM gw fa gM 0 0 u1276.1 0 0 0 0 0 u1276.2))]) [4] rfl
    have hDc := hD.sub (ws' := [(m0, .inr (12, mM kdM gw fa gM 0 0 u1276.1 0 0 0 0 0 u1276.2))]) [4] (by decide) rfl
    have hKc := hK.sub (tys' := []) [] rfl
    have hFc := roF hS hA
    refine va_calli (va_runV (As := []) (rest := []) ⟨hx, hb, hml, hown, hts⟩ (cu_X12_thrown l dC dI H1277.size m0 kdM gw fa gM u1276.2 0 u1276.1) (cwV 0 hts (gV u_1392 u_1393 u_1394 u_14 u_1395) rfl rfl rfl (by decide +kernel) ⟨Nat.le_of_ble_eq_true rfl, Nat.le_of_ble_eq_true rfl⟩) ⟨gP_blind, va_recv hKc hPc (ci := 12) (q0 := 0) rfl rfl, gP_call hPc hKc hDc hE⟩ rfl rfl hl.1 rfl (lv_room (Nat.le_of_ble_eq_true rfl)) dL_law_1210 ⟨(Nat.le_of_ble_eq_true rfl), (Nat.le_of_ble_eq_true rfl)⟩) hS (fun q _ h => hFc q h) hFc (fun r1281 u1279 t9 H1280 locs ht hvm hw hB hz1 hk1 hS => ?_)
    have hP := roP hP hk1
    subst hw
    rw [he2]
    refine lv_iload hx hb dL_law_1213 (lv_at hl 1 rfl) ?_
    refine lv_icmp_eq (tgt := 1220) hx hb dL_law_1215 (by decide) (fun _ => ?_) (fun h9 => absurd (by decide) h9)
    refine lv_iload hx hb dL_law_1220 (lv_at hl 1 rfl) ?_
    refine lv_if_ne (tgt := 1237) hx hb dL_law_1222 (by decide) (fun h9 => absurd (by decide) h9) (fun _ => ?_)
    refine lv_aload_n hx hb dL_law_1225 rfl (lv_at hl 3 rfl) ?_
    refine lv_iconst (v := 0) hx hb dL_law_1226 (by decide) ?_
    refine va_lald hx hb hK hP 3 3 rfl rfl (by unfold vp_in; decide) dL_law_1227 ?_
    rw [show u1272 (0 : Int32).toNatClampNeg = (xs (1 : Int32).toNatClampNeg).toInt64 from hu0]
    refine lv_iload hx hb dL_law_1228 (lv_at hl 0 rfl) ?_
    refine lv_i2l hx hb dL_law_1230 rfl ?_
    refine W.lcmp hx hb dL_law_1231 ?_
    rw [lg_self]
    refine lv_if_eq (tgt := 1237) hx hb dL_law_1232 (by decide) (fun _ => ?_) (fun h9 => absurd (by decide) h9)
    refine lv_goto (tgt := 1877) hx hb dL_law_1237 (by decide) ?_
    refine W.widen (k := 600002) (n := 7302232) (Nat.le_of_ble_eq_true rfl) (Nat.le_of_ble_eq_true rfl) ?_
    exact law_tail hfl hx hb hr hml hown hts hX hbl hlocks hE hZ hA hbA hAo hL8 hS (lv_sub hl [6, 2] rfl)
  · refine lv_aload_n hx hb dL_law_1184 rfl (lv_at hl 3 rfl) ?_
    refine lv_aload_n hx hb dL_law_1185 rfl (lv_at hl 4 rfl) ?_
    refine lv_iload hx hb dL_law_1186 (lv_at hl 0 rfl) ?_
    refine lv_iconst (v := 1) hx hb dL_law_1188 (by decide) ?_
    refine lv_iadd hx hb dL_law_1189 ?_
    refine lv_topi (fun z1282 ez1282 => ?_)
    obtain rfl : z1282 = 1 := ez1282.trans (by decide)
    refine va_sld hx hb hX hbl hbA hS (by rw [hL8]; unfold vp_in; decide) dL_law_1190 ?_
    refine lv_aload_n hx hb dL_law_1191 rfl (lv_at hl 1 rfl) ?_
    have hPc := hP.sub (ws' := [(h0, .inr (11, oX w sg ro tr gX)), (tr, .inr (9, oT w sg ro gT 0 0 0 0)), (sg, .inr (7, oS w sn gS 0)), (sn, .inl (cS, 40, .inr (.inl (fun _ => 0)))), (w, .inr (10, oW kd gW 0 0)), (ro, .inr (6, oR w sg cu sp gR 0 0)), (cu, .inr (8, oB c1 gB1)), (c1, .inl (cC1, 10, .inl (fun _ => 0))), (sp, .inr (8, oB c2 gB2)), (c2, .inl (cC2, 10, .inl (fun _ => 0))), (ou, .inl (cO, 1, .inr (.inl (fun _ => 0))))]) [0, 10, 3, 4, 1, 5, 6, 7, 8, 9, 15] rfl
    have hDc := hD.sub (ws' := [(h0, .inr (11, oX w sg ro tr gX)), (tr, .inr (9, oT w sg ro gT 0 0 0 0)), (sg, .inr (7, oS w sn gS 0)), (sn, .inl (cS, 40, .inr (.inl (fun _ => 0)))), (w, .inr (10, oW kd gW 0 0)), (ro, .inr (6, oR w sg cu sp gR 0 0)), (cu, .inr (8, oB c1 gB1)), (c1, .inl (cC1, 10, .inl (fun _ => 0))), (sp, .inr (8, oB c2 gB2)), (c2, .inl (cC2, 10, .inl (fun _ => 0))), (ou, .inl (cO, 1, .inr (.inl (fun _ => 0))))]) [0, 10, 3, 4, 1, 5, 6, 7, 8, 9, 15] (by decide) rfl
    have hKc := hK.sub (tys' := [(cS, .long), (cC1, .int), (cC2, .int), (cO, .long)]) [1, 2, 3, 7] rfl
    have hFc := va_free (wc := [(h0, .inr (11, oX w sg ro tr gX)), (tr, .inr (9, oT w sg ro gT 0 0 0 0)), (sg, .inr (7, oS w sn gS 0)), (sn, .inl (cS, 40, .inr (.inl (fun _ => 0)))), (w, .inr (10, oW kd gW 0 0)), (ro, .inr (6, oR w sg cu sp gR 0 0)), (cu, .inr (8, oB c1 gB1)), (c1, .inl (cC1, 10, .inl (fun _ => 0))), (sp, .inr (8, oB c2 gB2)), (c2, .inl (cC2, 10, .inl (fun _ => 0))), (ou, .inl (cO, 1, .inr (.inl (fun _ => 0))))]) hD hS hA [0, 10, 3, 4, 1, 5, 6, 7, 8, 9, 15] rfl
    refine va_calli (vx_runSW (As := [.ref h0, .int (xs (1 : Int32).toNatClampNeg), .ref ou]) (rest := []) ⟨hx, hb, hml, hown, hts⟩ (c_L_tick l dC dI H.size hfl h0 tr gX w kd gW sg sn cS gS ro gR gT cu c1 cC1 gB1 sp c2 cC2 gB2 (xs (1 : Int32).toNatClampNeg) ou cO (fun _ => 0)) (vx_cwSW 3 hts (gSt u_893 u_894 u_0 u_895) rfl rfl rfl (by decide +kernel) ⟨Nat.le_of_ble_eq_true rfl, Nat.le_of_ble_eq_true rfl⟩) ⟨gPZ_blind, gPZ_call hPc hKc hDc hE hZ hS hFc⟩ rfl rfl hl.1 rfl (lv_room (Nat.le_of_ble_eq_true rfl)) dL_law_1192 ⟨(Nat.le_of_ble_eq_true rfl), (Nat.le_of_ble_eq_true rfl)⟩) hS (fun q _ h => hFc q h) hFc (fun r1285 u1283 t9 H1284 locs ht hvm hw hB hz1 hk1 hS => ?_)
    obtain ⟨hP1, hK1, hD1⟩ := hB
    rw [ht] at hP1
    have hK1 := va_K.moved hvm.symm hK1
    obtain ⟨hP, hD⟩ := va_join (wr := [(kd, .inl (cK, 10, .inl (fun _ => 0))), (m0, .inr (12, mM kdM gw fa gM 0 0 0 0 0 0 0 0 0)), (kdM, .inl (ckM, 10, .inl (fun _ => 0))), (fa, .inl (cf, 10, .inl (fun _ => 0))), (gw, .inl (cg, 10, .inl (fun _ => 0)))]) (w1 := [(ou, .inl (cO, 1, .inr (.inl u1283)))]) hP hD [0, 10, 3, 4, 1, 5, 6, 7, 8, 9, 15] [2, 11, 12, 13, 14] rfl rfl (by decide) (by decide) hk1 hFc hP1 hD1
    have hK := (hK.sub (tys' := [(cK, .int), (ckM, .int), (cf, .int), (cg, .int)]) [0, 4, 5, 6] rfl).app hK1
    have hK : va_K (dC, dI) vwCl [(cK, .int), (ckM, .int), (cf, .int), (cg, .int), (cO, .long)] s := hK
    have hP : va_P (dC, dI) vwCl [(kd, .inl (cK, 10, .inl (fun _ => 0))), (m0, .inr (12, mM kdM gw fa gM 0 0 0 0 0 0 0 0 0)), (kdM, .inl (ckM, 10, .inl (fun _ => 0))), (fa, .inl (cf, 10, .inl (fun _ => 0))), (gw, .inl (cg, 10, .inl (fun _ => 0))), (ou, .inl (cO, 1, .inr (.inl u1283)))] H1284 := hP
    have hD : va_D A [(kd, .inl (cK, 10, .inl (fun _ => 0))), (m0, .inr (12, mM kdM gw fa gM 0 0 0 0 0 0 0 0 0)), (kdM, .inl (ckM, 10, .inl (fun _ => 0))), (fa, .inl (cf, 10, .inl (fun _ => 0))), (gw, .inl (cg, 10, .inl (fun _ => 0))), (ou, .inl (cO, 1, .inr (.inl u1283)))] := hD
    refine W.widen (k := 442) (n := 44116) (Nat.le_of_ble_eq_true rfl) (Nat.le_of_ble_eq_true rfl) ?_
    have hr0 := hw.2 hr9
    subst hr0
    refine lv_istore (lv' := [(5, .int 1), (4, .int 0), (3, .ref ou), (2, .ref m0), (1, .ref h0), (0, .ref b)]) hx hb dL_law_1195 hl (by decide) rfl (fun ls hl => ?_)
    refine lv_aload_n hx hb dL_law_1197 rfl (lv_at hl 3 rfl) ?_
    refine lv_aload_n hx hb dL_law_1198 rfl (lv_at hl 5 rfl) ?_
    refine lv_iload hx hb dL_law_1199 (lv_at hl 1 rfl) ?_
    refine lv_iconst (v := 1) hx hb dL_law_1201 (by decide) ?_
    refine lv_iadd hx hb dL_law_1202 ?_
    refine lv_topi (fun z1286 ez1286 => ?_)
    obtain rfl : z1286 = 1 := ez1286.trans (by decide)
    refine va_sld hx hb hX hbl hbA hS (by rw [hL8]; unfold vp_in; decide) dL_law_1203 ?_
    have hPc := hP.sub (ws' := [(m0, .inr (12, mM kdM gw fa gM 0 0 0 0 0 0 0 0 0)), (fa, .inl (cf, 10, .inl (fun _ => 0)))]) [1, 3] rfl
    have hDc := hD.sub (ws' := [(m0, .inr (12, mM kdM gw fa gM 0 0 0 0 0 0 0 0 0)), (fa, .inl (cf, 10, .inl (fun _ => 0)))]) [1, 3] (by decide) rfl
    have hKc := hK.sub (tys' := [(cf, .int)]) [2] rfl
    have hFc := va_free (wc := [(m0, .inr (12, mM kdM gw fa gM 0 0 0 0 0 0 0 0 0)), (fa, .inl (cf, 10, .inl (fun _ => 0)))]) hD hS hA [1, 3] rfl
    refine va_calli (va_runV (As := [.int (xs (1 : Int32).toNatClampNeg)]) (rest := []) ⟨hx, hb, hml, hown, hts⟩ (c_X12_tick l dC dI H1284.size m0 kdM gw fa gM 0 cf (xs (1 : Int32).toNatClampNeg)) (cwV 1 hts (gV u_1545 u_1546 u_1547 u_14 u_1548) rfl rfl rfl (by decide +kernel) ⟨Nat.le_of_ble_eq_true rfl, Nat.le_of_ble_eq_true rfl⟩) ⟨gP_blind, va_recv hKc hPc (ci := 12) (q0 := 0) rfl rfl, gP_call hPc hKc hDc hE⟩ rfl rfl hl.1 rfl (lv_room (Nat.le_of_ble_eq_true rfl)) dL_law_1204 ⟨(Nat.le_of_ble_eq_true rfl), (Nat.le_of_ble_eq_true rfl)⟩) hS (fun q _ h => hFc q h) hFc (fun r1289 u1287 t9 H1288 locs ht hvm hw hB hz1 hk1 hS => ?_)
    obtain ⟨hP1, hK1, hD1⟩ := hB
    rw [ht] at hP1
    have hK1 := va_K.moved hvm.symm hK1
    obtain ⟨hP, hD⟩ := va_join (wr := [(kd, .inl (cK, 10, .inl (fun _ => 0))), (kdM, .inl (ckM, 10, .inl (fun _ => 0))), (gw, .inl (cg, 10, .inl (fun _ => 0))), (ou, .inl (cO, 1, .inr (.inl u1283)))]) (w1 := [(m0, .inr (12, mM kdM gw fa gM 0 0 u1287.1 0 0 0 0 0 u1287.2))]) hP hD [1, 3] [0, 2, 4, 5] rfl rfl (by decide) (by decide) hk1 hFc hP1 hD1
    have hK := (hK.sub (tys' := [(cK, .int), (ckM, .int), (cg, .int), (cO, .long)]) [0, 1, 3, 4] rfl).app hK1
    have hK : va_K (dC, dI) vwCl [(cK, .int), (ckM, .int), (cg, .int), (cO, .long)] s := hK
    have hP : va_P (dC, dI) vwCl [(kd, .inl (cK, 10, .inl (fun _ => 0))), (kdM, .inl (ckM, 10, .inl (fun _ => 0))), (gw, .inl (cg, 10, .inl (fun _ => 0))), (ou, .inl (cO, 1, .inr (.inl u1283))), (m0, .inr (12, mM kdM gw fa gM 0 0 u1287.1 0 0 0 0 0 u1287.2))] H1288 := hP
    have hD : va_D A [(kd, .inl (cK, 10, .inl (fun _ => 0))), (kdM, .inl (ckM, 10, .inl (fun _ => 0))), (gw, .inl (cg, 10, .inl (fun _ => 0))), (ou, .inl (cO, 1, .inr (.inl u1283))), (m0, .inr (12, mM kdM gw fa gM 0 0 u1287.1 0 0 0 0 0 u1287.2))] := hD
    have he2 := hw.2 (gIs_n hr9)
    refine lv_istore (lv' := [(6, .int r1289), (5, .int 1), (4, .int 0), (3, .ref ou), (2, .ref m0), (1, .ref h0), (0, .ref b)]) hx hb dL_law_1207 hl (by decide) rfl (fun ls hl => ?_)
    refine lv_aload_n hx hb dL_law_1209 rfl (lv_at hl 4 rfl) ?_
    have hPc := hP.sub (ws' := [(m0, .inr (12, mM kdM gw fa gM 0 0 u1287.1 0 0 0 0 0 u1287.2))]) [4] rfl
    have hDc := hD.sub (ws' := [(m0, .inr (12, mM kdM gw fa gM 0 0 u1287.1 0 0 0 0 0 u1287.2))]) [4] (by decide) rfl
    have hKc := hK.sub (tys' := []) [] rfl
    have hFc := roF hS hA
    refine va_calli (va_runV (As := []) (rest := []) ⟨hx, hb, hml, hown, hts⟩ (cu_X12_thrown l dC dI H1288.size m0 kdM gw fa gM u1287.2 0 u1287.1) (cwV 0 hts (gV u_1392 u_1393 u_1394 u_14 u_1395) rfl rfl rfl (by decide +kernel) ⟨Nat.le_of_ble_eq_true rfl, Nat.le_of_ble_eq_true rfl⟩) ⟨gP_blind, va_recv hKc hPc (ci := 12) (q0 := 0) rfl rfl, gP_call hPc hKc hDc hE⟩ rfl rfl hl.1 rfl (lv_room (Nat.le_of_ble_eq_true rfl)) dL_law_1210 ⟨(Nat.le_of_ble_eq_true rfl), (Nat.le_of_ble_eq_true rfl)⟩) hS (fun q _ h => hFc q h) hFc (fun r1292 u1290 t9 H1291 locs ht hvm hw hB hz1 hk1 hS => ?_)
    have hP := roP hP hk1
    subst hw
    rw [he2]
    refine lv_iload hx hb dL_law_1213 (lv_at hl 1 rfl) ?_
    refine lv_icmp_eq (tgt := 1220) hx hb dL_law_1215 (by decide) (fun _ => ?_) (fun h9 => absurd (by decide) h9)
    refine lv_iload hx hb dL_law_1220 (lv_at hl 1 rfl) ?_
    refine lv_if_ne (tgt := 1237) hx hb dL_law_1222 (by decide) (fun _ => ?_) (fun h9 => absurd h9 (by decide))
    refine lv_goto (tgt := 1877) hx hb dL_law_1237 (by decide) ?_
    refine W.widen (k := 600002) (n := 7302232) (Nat.le_of_ble_eq_true rfl) (Nat.le_of_ble_eq_true rfl) ?_
    exact law_tail hfl hx hb hr hml hown hts hX hbl hlocks hE hZ hA hbA hAo hL8 hS (lv_sub hl [6, 2] rfl)
set_option maxHeartbeats 8000000 in
set_option maxRecDepth 100000 in
theorem law_c14 {p : Program} {l : Launch} {e : Env} {s : State} {m : MethodId} {below : List Frame} {meth : Method} {c : Code} {dC : Nat → ClassId} {dI : Nat → Nat → Nat} {A : Nat → Prop} {b L : Nat} {xs : Nat → Int32} {h0 : Nat} {w : Nat} {kd : Nat} {cK : ClassId} {gW : Nat → Nat} {sg : Nat} {sn : Nat} {cS : ClassId} {gS : Nat → Nat} {ro : Nat} {cu : Nat} {c1 : Nat} {cC1 : ClassId} {gB1 : Nat → Nat} {sp : Nat} {c2 : Nat} {cC2 : ClassId} {gB2 : Nat → Nat} {gR : Nat → Nat} {tr : Nat} {gT : Nat → Nat} {gX : Nat → Nat} {m0 : Nat} {kdM : Nat} {ckM : ClassId} {fa : Nat} {cf : ClassId} {gw : Nat} {cg : ClassId} {gM : Nat → Nat} {ou : Nat} {cO : ClassId} (hfl : l.stackTraces = false) (hx : p.tables.exec = Jvm.exec) (hb : c.code = code) (hr : meth.sig.returnType = ret) (hml : c.maxLocals = 7) (hown : s.vm.findClass RL = some m.cls) (hts : ∀ w ∈ gU, w.before #[Value.ref b] s = true) (hX : va_X b L xs s s.heap) (hbl : b < s.heap.size) (hlocks : meth.locks = false) (hE : gEnv s) (hZ : gZ A s) (hA : ∀ q : Nat, s.heap.size ≤ q → A q) (hbA : ¬ A b) (hAo : ∀ q : Nat, A q → s.heap.size ≤ q) (hL8 : L = 8) : ∀ (H : Heap) (locs : List Loc), va_K (dC, dI) vwCl [(cK, .int), (cS, .long), (cC1, .int), (cC2, .int), (ckM, .int), (cf, .int), (cg, .int), (cO, .long)] s → va_P (dC, dI) vwCl [(h0, .inr (11, oX w sg ro tr gX)), (w, .inr (10, oW kd gW 0 0)), (kd, .inl (cK, 10, .inl (fun _ => 0))), (sg, .inr (7, oS w sn gS 0)), (sn, .inl (cS, 40, .inr (.inl (fun _ => 0)))), (ro, .inr (6, oR w sg cu sp gR 0 0)), (cu, .inr (8, oB c1 gB1)), (c1, .inl (cC1, 10, .inl (fun _ => 0))), (sp, .inr (8, oB c2 gB2)), (c2, .inl (cC2, 10, .inl (fun _ => 0))), (tr, .inr (9, oT w sg ro gT 0 0 0 0)), (m0, .inr (12, mM kdM gw fa gM 0 0 0 0 0 0 0 0 0)), (kdM, .inl (ckM, 10, .inl (fun _ => 0))), (fa, .inl (cf, 10, .inl (fun _ => 0))), (gw, .inl (cg, 10, .inl (fun _ => 0))), (ou, .inl (cO, 1, .inr (.inl (fun _ => 0))))] H → va_D A [(h0, .inr (11, oX w sg ro tr gX)), (w, .inr (10, oW kd gW 0 0)), (kd, .inl (cK, 10, .inl (fun _ => 0))), (sg, .inr (7, oS w sn gS 0)), (sn, .inl (cS, 40, .inr (.inl (fun _ => 0)))), (ro, .inr (6, oR w sg cu sp gR 0 0)), (cu, .inr (8, oB c1 gB1)), (c1, .inl (cC1, 10, .inl (fun _ => 0))), (sp, .inr (8, oB c2 gB2)), (c2, .inl (cC2, 10, .inl (fun _ => 0))), (tr, .inr (9, oT w sg ro gT 0 0 0 0)), (m0, .inr (12, mM kdM gw fa gM 0 0 0 0 0 0 0 0 0)), (kdM, .inl (ckM, 10, .inl (fun _ => 0))), (fa, .inl (cf, 10, .inl (fun _ => 0))), (gw, .inl (cg, 10, .inl (fun _ => 0))), (ou, .inl (cO, 1, .inr (.inl (fun _ => 0))))] → va_S A s.heap H locs → ∀ ls : Array Slot, lv_has ls 7 [(4, .int 0), (3, .ref ou), (2, .ref m0), (1, .ref h0), (0, .ref b)] → W p l e room_1 s m #[Value.ref b] below meth c H locs 441 44110 (lw_Z below #[Value.ref b] s) (F0 m 1240 ls []) := by
  intro H locs hK hP hD hS ls hl
  refine lv_aload_n hx hb dL_law_1240 rfl (lv_at hl 3 rfl) ?_
  refine lv_aload_n hx hb dL_law_1241 rfl (lv_at hl 4 rfl) ?_
  refine lv_iload hx hb dL_law_1242 (lv_at hl 0 rfl) ?_
  refine lv_iconst (v := 1) hx hb dL_law_1244 (by decide) ?_
  refine lv_iadd hx hb dL_law_1245 ?_
  refine lv_topi (fun z1293 ez1293 => ?_)
  obtain rfl : z1293 = 1 := ez1293.trans (by decide)
  refine va_sld hx hb hX hbl hbA hS (by rw [hL8]; unfold vp_in; decide) dL_law_1246 ?_
  refine lv_aload_n hx hb dL_law_1247 rfl (lv_at hl 1 rfl) ?_
  have hPc := hP.sub (ws' := [(h0, .inr (11, oX w sg ro tr gX)), (tr, .inr (9, oT w sg ro gT 0 0 0 0))]) [0, 10] rfl
  have hDc := hD.sub (ws' := [(h0, .inr (11, oX w sg ro tr gX)), (tr, .inr (9, oT w sg ro gT 0 0 0 0))]) [0, 10] (by decide) rfl
  have hKc := hK.sub (tys' := []) [] rfl
  have hFc := roF hS hA
  refine va_calli (vx_runSW (As := [.ref h0, .int (xs (1 : Int32).toNatClampNeg), .ref ou]) (rest := []) ⟨hx, hb, hml, hown, hts⟩ (c_L_fate l dC dI H.size hfl h0 ou w sg ro tr gX gT (xs (1 : Int32).toNatClampNeg)) (vx_cwSW 3 hts (gSt u_1045 u_1046 u_0 u_1047) rfl rfl rfl (by decide +kernel) ⟨Nat.le_of_ble_eq_true rfl, Nat.le_of_ble_eq_true rfl⟩) ⟨gPZ_blind, gPZ_call hPc hKc hDc hE hZ hS hFc⟩ rfl rfl hl.1 rfl (lv_room (Nat.le_of_ble_eq_true rfl)) dL_law_1248 ⟨(Nat.le_of_ble_eq_true rfl), (Nat.le_of_ble_eq_true rfl)⟩) hS (fun q _ h => hFc q h) hFc (fun r1296 u1294 t9 H1295 locs ht hvm hw hB hz1 hk1 hS => ?_)
  have hP := roP hP hk1
  subst hw
  refine W.widen (k := 442) (n := 44116) (Nat.le_of_ble_eq_true rfl) (Nat.le_of_ble_eq_true rfl) ?_
  refine lv_istore (lv' := [(5, .int 1), (4, .int 0), (3, .ref ou), (2, .ref m0), (1, .ref h0), (0, .ref b)]) hx hb dL_law_1251 hl (by decide) rfl (fun ls hl => ?_)
  refine lv_aload_n hx hb dL_law_1253 rfl (lv_at hl 3 rfl) ?_
  refine lv_aload_n hx hb dL_law_1254 rfl (lv_at hl 5 rfl) ?_
  refine lv_iload hx hb dL_law_1255 (lv_at hl 1 rfl) ?_
  refine lv_iconst (v := 1) hx hb dL_law_1257 (by decide) ?_
  refine lv_iadd hx hb dL_law_1258 ?_
  refine lv_topi (fun z1297 ez1297 => ?_)
  obtain rfl : z1297 = 1 := ez1297.trans (by decide)
  refine va_sld hx hb hX hbl hbA hS (by rw [hL8]; unfold vp_in; decide) dL_law_1259 ?_
  have hPc := hP.sub (ws' := [(m0, .inr (12, mM kdM gw fa gM 0 0 0 0 0 0 0 0 0))]) [11] rfl
  have hDc := hD.sub (ws' := [(m0, .inr (12, mM kdM gw fa gM 0 0 0 0 0 0 0 0 0))]) [11] (by decide) rfl
  have hKc := hK.sub (tys' := []) [] rfl
  have hFc := va_free (wc := [(m0, .inr (12, mM kdM gw fa gM 0 0 0 0 0 0 0 0 0))]) hD hS hA [11] rfl
  refine va_calli (va_runV (As := [.int (xs (1 : Int32).toNatClampNeg)]) (rest := []) ⟨hx, hb, hml, hown, hts⟩ (c_X12_fate l dC dI H1295.size m0 kdM gw fa gM 0 (xs (1 : Int32).toNatClampNeg)) (cwV 1 hts (gV u_1631 u_1632 u_1633 u_14 u_1634) rfl rfl rfl (by decide +kernel) ⟨Nat.le_of_ble_eq_true rfl, Nat.le_of_ble_eq_true rfl⟩) ⟨gP_blind, va_recv hKc hPc (ci := 12) (q0 := 0) rfl rfl, gP_call hPc hKc hDc hE⟩ rfl rfl hl.1 rfl (lv_room (Nat.le_of_ble_eq_true rfl)) dL_law_1260 ⟨(Nat.le_of_ble_eq_true rfl), (Nat.le_of_ble_eq_true rfl)⟩) hS (fun q _ h => hFc q h) hFc (fun r1300 u1298 t9 H1299 locs ht hvm hw hB hz1 hk1 hS => ?_)
  obtain ⟨hP1, hK1, hD1⟩ := hB
  rw [ht] at hP1
  have hK1 := va_K.moved hvm.symm hK1
  obtain ⟨hP, hD⟩ := va_join (wr := [(h0, .inr (11, oX w sg ro tr gX)), (w, .inr (10, oW kd gW 0 0)), (kd, .inl (cK, 10, .inl (fun _ => 0))), (sg, .inr (7, oS w sn gS 0)), (sn, .inl (cS, 40, .inr (.inl (fun _ => 0)))), (ro, .inr (6, oR w sg cu sp gR 0 0)), (cu, .inr (8, oB c1 gB1)), (c1, .inl (cC1, 10, .inl (fun _ => 0))), (sp, .inr (8, oB c2 gB2)), (c2, .inl (cC2, 10, .inl (fun _ => 0))), (tr, .inr (9, oT w sg ro gT 0 0 0 0)), (kdM, .inl (ckM, 10, .inl (fun _ => 0))), (fa, .inl (cf, 10, .inl (fun _ => 0))), (gw, .inl (cg, 10, .inl (fun _ => 0))), (ou, .inl (cO, 1, .inr (.inl (fun _ => 0))))]) (w1 := [(m0, .inr (12, mM kdM gw fa gM 0 0 0 0 0 0 0 0 1))]) hP hD [11] [0, 1, 2, 3, 4, 5, 6, 7, 8, 9, 10, 12, 13, 14, 15] rfl rfl (by decide) (by decide) hk1 hFc hP1 hD1
  have hK := (hK.sub (tys' := [(cK, .int), (cS, .long), (cC1, .int), (cC2, .int), (ckM, .int), (cf, .int), (cg, .int), (cO, .long)]) [0, 1, 2, 3, 4, 5, 6, 7] rfl).app hK1
  have hK : va_K (dC, dI) vwCl [(cK, .int), (cS, .long), (cC1, .int), (cC2, .int), (ckM, .int), (cf, .int), (cg, .int), (cO, .long)] s := hK
  have hP : va_P (dC, dI) vwCl [(h0, .inr (11, oX w sg ro tr gX)), (w, .inr (10, oW kd gW 0 0)), (kd, .inl (cK, 10, .inl (fun _ => 0))), (sg, .inr (7, oS w sn gS 0)), (sn, .inl (cS, 40, .inr (.inl (fun _ => 0)))), (ro, .inr (6, oR w sg cu sp gR 0 0)), (cu, .inr (8, oB c1 gB1)), (c1, .inl (cC1, 10, .inl (fun _ => 0))), (sp, .inr (8, oB c2 gB2)), (c2, .inl (cC2, 10, .inl (fun _ => 0))), (tr, .inr (9, oT w sg ro gT 0 0 0 0)), (kdM, .inl (ckM, 10, .inl (fun _ => 0))), (fa, .inl (cf, 10, .inl (fun _ => 0))), (gw, .inl (cg, 10, .inl (fun _ => 0))), (ou, .inl (cO, 1, .inr (.inl (fun _ => 0)))), (m0, .inr (12, mM kdM gw fa gM 0 0 0 0 0 0 0 0 1))] H1299 := hP
  have hD : va_D A [(h0, .inr (11, oX w sg ro tr gX)), (w, .inr (10, oW kd gW 0 0)), (kd, .inl (cK, 10, .inl (fun _ => 0))), (sg, .inr (7, oS w sn gS 0)), (sn, .inl (cS, 40, .inr (.inl (fun _ => 0)))), (ro, .inr (6, oR w sg cu sp gR 0 0)), (cu, .inr (8, oB c1 gB1)), (c1, .inl (cC1, 10, .inl (fun _ => 0))), (sp, .inr (8, oB c2 gB2)), (c2, .inl (cC2, 10, .inl (fun _ => 0))), (tr, .inr (9, oT w sg ro gT 0 0 0 0)), (kdM, .inl (ckM, 10, .inl (fun _ => 0))), (fa, .inl (cf, 10, .inl (fun _ => 0))), (gw, .inl (cg, 10, .inl (fun _ => 0))), (ou, .inl (cO, 1, .inr (.inl (fun _ => 0)))), (m0, .inr (12, mM kdM gw fa gM 0 0 0 0 0 0 0 0 1))] := hD
  subst hw
  refine lv_istore (lv' := [(6, .int 0), (5, .int 1), (4, .int 0), (3, .ref ou), (2, .ref m0), (1, .ref h0), (0, .ref b)]) hx hb dL_law_1263 hl (by decide) rfl (fun ls hl => ?_)
  refine lv_aload_n hx hb dL_law_1265 rfl (lv_at hl 4 rfl) ?_
  have hPc := hP.sub (ws' := [(m0, .inr (12, mM kdM gw fa gM 0 0 0 0 0 0 0 0 1))]) [15] rfl
  have hDc := hD.sub (ws' := [(m0, .inr (12, mM kdM gw fa gM 0 0 0 0 0 0 0 0 1))]) [15] (by decide) rfl
  have hKc := hK.sub (tys' := []) [] rfl
  have hFc := roF hS hA
  refine va_calli (va_runV (As := []) (rest := []) ⟨hx, hb, hml, hown, hts⟩ (cu_X12_thrown l dC dI H1299.size m0 kdM gw fa gM 1 0 0) (cwV 0 hts (gV u_1392 u_1393 u_1394 u_14 u_1395) rfl rfl rfl (by decide +kernel) ⟨Nat.le_of_ble_eq_true rfl, Nat.le_of_ble_eq_true rfl⟩) ⟨gP_blind, va_recv hKc hPc (ci := 12) (q0 := 0) rfl rfl, gP_call hPc hKc hDc hE⟩ rfl rfl hl.1 rfl (lv_room (Nat.le_of_ble_eq_true rfl)) dL_law_1266 ⟨(Nat.le_of_ble_eq_true rfl), (Nat.le_of_ble_eq_true rfl)⟩) hS (fun q _ h => hFc q h) hFc (fun r1303 u1301 t9 H1302 locs ht hvm hw hB hz1 hk1 hS => ?_)
  have hP := roP hP hk1
  subst hw
  refine lv_iload hx hb dL_law_1269 (lv_at hl 1 rfl) ?_
  refine lv_icmp_eq (tgt := 1276) hx hb dL_law_1271 (by decide) (fun _ => ?_) (fun h9 => absurd (by decide) h9)
  refine lv_iload hx hb dL_law_1276 (lv_at hl 1 rfl) ?_
  refine lv_if_ne (tgt := 1293) hx hb dL_law_1278 (by decide) (fun _ => ?_) (fun h9 => absurd h9 (by decide))
  refine lv_goto (tgt := 1877) hx hb dL_law_1293 (by decide) ?_
  refine W.widen (k := 600002) (n := 7302232) (Nat.le_of_ble_eq_true rfl) (Nat.le_of_ble_eq_true rfl) ?_
  exact law_tail hfl hx hb hr hml hown hts hX hbl hlocks hE hZ hA hbA hAo hL8 hS (lv_sub hl [6, 2] rfl)
set_option maxHeartbeats 8000000 in
set_option maxRecDepth 100000 in
theorem law_c15 {p : Program} {l : Launch} {e : Env} {s : State} {m : MethodId} {below : List Frame} {meth : Method} {c : Code} {dC : Nat → ClassId} {dI : Nat → Nat → Nat} {A : Nat → Prop} {b L : Nat} {xs : Nat → Int32} {h0 : Nat} {w : Nat} {kd : Nat} {cK : ClassId} {gW : Nat → Nat} {sg : Nat} {sn : Nat} {cS : ClassId} {gS : Nat → Nat} {ro : Nat} {cu : Nat} {c1 : Nat} {cC1 : ClassId} {gB1 : Nat → Nat} {sp : Nat} {c2 : Nat} {cC2 : ClassId} {gB2 : Nat → Nat} {gR : Nat → Nat} {tr : Nat} {gT : Nat → Nat} {gX : Nat → Nat} {m0 : Nat} {kdM : Nat} {ckM : ClassId} {fa : Nat} {cf : ClassId} {gw : Nat} {cg : ClassId} {gM : Nat → Nat} {ou : Nat} {cO : ClassId} (hfl : l.stackTraces = false) (hx : p.tables.exec = Jvm.exec) (hb : c.code = code) (hr : meth.sig.returnType = ret) (hml : c.maxLocals = 7) (hown : s.vm.findClass RL = some m.cls) (hts : ∀ w ∈ gU, w.before #[Value.ref b] s = true) (hX : va_X b L xs s s.heap) (hbl : b < s.heap.size) (hlocks : meth.locks = false) (hE : gEnv s) (hZ : gZ A s) (hA : ∀ q : Nat, s.heap.size ≤ q → A q) (hbA : ¬ A b) (hAo : ∀ q : Nat, A q → s.heap.size ≤ q) (hL8 : L = 8) : ∀ (H : Heap) (locs : List Loc), va_K (dC, dI) vwCl [(cK, .int), (cS, .long), (cC1, .int), (cC2, .int), (ckM, .int), (cf, .int), (cg, .int), (cO, .long)] s → va_P (dC, dI) vwCl [(h0, .inr (11, oX w sg ro tr gX)), (w, .inr (10, oW kd gW 0 0)), (kd, .inl (cK, 10, .inl (fun _ => 0))), (sg, .inr (7, oS w sn gS 0)), (sn, .inl (cS, 40, .inr (.inl (fun _ => 0)))), (ro, .inr (6, oR w sg cu sp gR 0 0)), (cu, .inr (8, oB c1 gB1)), (c1, .inl (cC1, 10, .inl (fun _ => 0))), (sp, .inr (8, oB c2 gB2)), (c2, .inl (cC2, 10, .inl (fun _ => 0))), (tr, .inr (9, oT w sg ro gT 0 0 0 0)), (m0, .inr (12, mM kdM gw fa gM 0 0 0 0 0 0 0 0 0)), (kdM, .inl (ckM, 10, .inl (fun _ => 0))), (fa, .inl (cf, 10, .inl (fun _ => 0))), (gw, .inl (cg, 10, .inl (fun _ => 0))), (ou, .inl (cO, 1, .inr (.inl (fun _ => 0))))] H → va_D A [(h0, .inr (11, oX w sg ro tr gX)), (w, .inr (10, oW kd gW 0 0)), (kd, .inl (cK, 10, .inl (fun _ => 0))), (sg, .inr (7, oS w sn gS 0)), (sn, .inl (cS, 40, .inr (.inl (fun _ => 0)))), (ro, .inr (6, oR w sg cu sp gR 0 0)), (cu, .inr (8, oB c1 gB1)), (c1, .inl (cC1, 10, .inl (fun _ => 0))), (sp, .inr (8, oB c2 gB2)), (c2, .inl (cC2, 10, .inl (fun _ => 0))), (tr, .inr (9, oT w sg ro gT 0 0 0 0)), (m0, .inr (12, mM kdM gw fa gM 0 0 0 0 0 0 0 0 0)), (kdM, .inl (ckM, 10, .inl (fun _ => 0))), (fa, .inl (cf, 10, .inl (fun _ => 0))), (gw, .inl (cg, 10, .inl (fun _ => 0))), (ou, .inl (cO, 1, .inr (.inl (fun _ => 0))))] → va_S A s.heap H locs → ∀ ls : Array Slot, lv_has ls 7 [(4, .int 0), (3, .ref ou), (2, .ref m0), (1, .ref h0), (0, .ref b)] → W p l e room_1 s m #[Value.ref b] below meth c H locs 441 44110 (lw_Z below #[Value.ref b] s) (F0 m 1296 ls []) := by
  intro H locs hK hP hD hS ls hl
  refine lv_aload_n hx hb dL_law_1296 rfl (lv_at hl 3 rfl) ?_
  refine lv_aload_n hx hb dL_law_1297 rfl (lv_at hl 4 rfl) ?_
  refine lv_iload hx hb dL_law_1298 (lv_at hl 0 rfl) ?_
  refine lv_iconst (v := 1) hx hb dL_law_1300 (by decide) ?_
  refine lv_iadd hx hb dL_law_1301 ?_
  refine lv_topi (fun z1304 ez1304 => ?_)
  obtain rfl : z1304 = 1 := ez1304.trans (by decide)
  refine va_sld hx hb hX hbl hbA hS (by rw [hL8]; unfold vp_in; decide) dL_law_1302 ?_
  refine lv_aload_n hx hb dL_law_1303 rfl (lv_at hl 1 rfl) ?_
  have hPc := hP.sub (ws' := [(h0, .inr (11, oX w sg ro tr gX)), (tr, .inr (9, oT w sg ro gT 0 0 0 0))]) [0, 10] rfl
  have hDc := hD.sub (ws' := [(h0, .inr (11, oX w sg ro tr gX)), (tr, .inr (9, oT w sg ro gT 0 0 0 0))]) [0, 10] (by decide) rfl
  have hKc := hK.sub (tys' := []) [] rfl
  have hFc := roF hS hA
  refine va_calli (vx_runSW (As := [.ref h0, .int (xs (1 : Int32).toNatClampNeg), .ref ou]) (rest := []) ⟨hx, hb, hml, hown, hts⟩ (c_L_where l dC dI H.size hfl h0 ou w sg ro tr gX gT (xs (1 : Int32).toNatClampNeg)) (vx_cwSW 3 hts (gSt u_1057 u_1058 u_0 u_1059) rfl rfl rfl (by decide +kernel) ⟨Nat.le_of_ble_eq_true rfl, Nat.le_of_ble_eq_true rfl⟩) ⟨gPZ_blind, gPZ_call hPc hKc hDc hE hZ hS hFc⟩ rfl rfl hl.1 rfl (lv_room (Nat.le_of_ble_eq_true rfl)) dL_law_1304 ⟨(Nat.le_of_ble_eq_true rfl), (Nat.le_of_ble_eq_true rfl)⟩) hS (fun q _ h => hFc q h) hFc (fun r1307 u1305 t9 H1306 locs ht hvm hw hB hz1 hk1 hS => ?_)
  have hP := roP hP hk1
  subst hw
  refine W.widen (k := 442) (n := 44116) (Nat.le_of_ble_eq_true rfl) (Nat.le_of_ble_eq_true rfl) ?_
  refine lv_istore (lv' := [(5, .int 1), (4, .int 0), (3, .ref ou), (2, .ref m0), (1, .ref h0), (0, .ref b)]) hx hb dL_law_1307 hl (by decide) rfl (fun ls hl => ?_)
  refine lv_aload_n hx hb dL_law_1309 rfl (lv_at hl 3 rfl) ?_
  refine lv_aload_n hx hb dL_law_1310 rfl (lv_at hl 5 rfl) ?_
  refine lv_iload hx hb dL_law_1311 (lv_at hl 1 rfl) ?_
  refine lv_iconst (v := 1) hx hb dL_law_1313 (by decide) ?_
  refine lv_iadd hx hb dL_law_1314 ?_
  refine lv_topi (fun z1308 ez1308 => ?_)
  obtain rfl : z1308 = 1 := ez1308.trans (by decide)
  refine va_sld hx hb hX hbl hbA hS (by rw [hL8]; unfold vp_in; decide) dL_law_1315 ?_
  have hPc := hP.sub (ws' := [(m0, .inr (12, mM kdM gw fa gM 0 0 0 0 0 0 0 0 0))]) [11] rfl
  have hDc := hD.sub (ws' := [(m0, .inr (12, mM kdM gw fa gM 0 0 0 0 0 0 0 0 0))]) [11] (by decide) rfl
  have hKc := hK.sub (tys' := []) [] rfl
  have hFc := va_free (wc := [(m0, .inr (12, mM kdM gw fa gM 0 0 0 0 0 0 0 0 0))]) hD hS hA [11] rfl
  refine va_calli (va_runV (As := [.int (xs (1 : Int32).toNatClampNeg)]) (rest := []) ⟨hx, hb, hml, hown, hts⟩ (c_X12_where l dC dI H1306.size m0 kdM gw fa gM 0 (xs (1 : Int32).toNatClampNeg)) (cwV 1 hts (gV u_1639 u_1640 u_1641 u_14 u_1642) rfl rfl rfl (by decide +kernel) ⟨Nat.le_of_ble_eq_true rfl, Nat.le_of_ble_eq_true rfl⟩) ⟨gP_blind, va_recv hKc hPc (ci := 12) (q0 := 0) rfl rfl, gP_call hPc hKc hDc hE⟩ rfl rfl hl.1 rfl (lv_room (Nat.le_of_ble_eq_true rfl)) dL_law_1316 ⟨(Nat.le_of_ble_eq_true rfl), (Nat.le_of_ble_eq_true rfl)⟩) hS (fun q _ h => hFc q h) hFc (fun r1311 u1309 t9 H1310 locs ht hvm hw hB hz1 hk1 hS => ?_)
  obtain ⟨hP1, hK1, hD1⟩ := hB
  rw [ht] at hP1
  have hK1 := va_K.moved hvm.symm hK1
  obtain ⟨hP, hD⟩ := va_join (wr := [(h0, .inr (11, oX w sg ro tr gX)), (w, .inr (10, oW kd gW 0 0)), (kd, .inl (cK, 10, .inl (fun _ => 0))), (sg, .inr (7, oS w sn gS 0)), (sn, .inl (cS, 40, .inr (.inl (fun _ => 0)))), (ro, .inr (6, oR w sg cu sp gR 0 0)), (cu, .inr (8, oB c1 gB1)), (c1, .inl (cC1, 10, .inl (fun _ => 0))), (sp, .inr (8, oB c2 gB2)), (c2, .inl (cC2, 10, .inl (fun _ => 0))), (tr, .inr (9, oT w sg ro gT 0 0 0 0)), (kdM, .inl (ckM, 10, .inl (fun _ => 0))), (fa, .inl (cf, 10, .inl (fun _ => 0))), (gw, .inl (cg, 10, .inl (fun _ => 0))), (ou, .inl (cO, 1, .inr (.inl (fun _ => 0))))]) (w1 := [(m0, .inr (12, mM kdM gw fa gM 0 0 0 0 0 0 0 0 1))]) hP hD [11] [0, 1, 2, 3, 4, 5, 6, 7, 8, 9, 10, 12, 13, 14, 15] rfl rfl (by decide) (by decide) hk1 hFc hP1 hD1
  have hK := (hK.sub (tys' := [(cK, .int), (cS, .long), (cC1, .int), (cC2, .int), (ckM, .int), (cf, .int), (cg, .int), (cO, .long)]) [0, 1, 2, 3, 4, 5, 6, 7] rfl).app hK1
  have hK : va_K (dC, dI) vwCl [(cK, .int), (cS, .long), (cC1, .int), (cC2, .int), (ckM, .int), (cf, .int), (cg, .int), (cO, .long)] s := hK
  have hP : va_P (dC, dI) vwCl [(h0, .inr (11, oX w sg ro tr gX)), (w, .inr (10, oW kd gW 0 0)), (kd, .inl (cK, 10, .inl (fun _ => 0))), (sg, .inr (7, oS w sn gS 0)), (sn, .inl (cS, 40, .inr (.inl (fun _ => 0)))), (ro, .inr (6, oR w sg cu sp gR 0 0)), (cu, .inr (8, oB c1 gB1)), (c1, .inl (cC1, 10, .inl (fun _ => 0))), (sp, .inr (8, oB c2 gB2)), (c2, .inl (cC2, 10, .inl (fun _ => 0))), (tr, .inr (9, oT w sg ro gT 0 0 0 0)), (kdM, .inl (ckM, 10, .inl (fun _ => 0))), (fa, .inl (cf, 10, .inl (fun _ => 0))), (gw, .inl (cg, 10, .inl (fun _ => 0))), (ou, .inl (cO, 1, .inr (.inl (fun _ => 0)))), (m0, .inr (12, mM kdM gw fa gM 0 0 0 0 0 0 0 0 1))] H1310 := hP
  have hD : va_D A [(h0, .inr (11, oX w sg ro tr gX)), (w, .inr (10, oW kd gW 0 0)), (kd, .inl (cK, 10, .inl (fun _ => 0))), (sg, .inr (7, oS w sn gS 0)), (sn, .inl (cS, 40, .inr (.inl (fun _ => 0)))), (ro, .inr (6, oR w sg cu sp gR 0 0)), (cu, .inr (8, oB c1 gB1)), (c1, .inl (cC1, 10, .inl (fun _ => 0))), (sp, .inr (8, oB c2 gB2)), (c2, .inl (cC2, 10, .inl (fun _ => 0))), (tr, .inr (9, oT w sg ro gT 0 0 0 0)), (kdM, .inl (ckM, 10, .inl (fun _ => 0))), (fa, .inl (cf, 10, .inl (fun _ => 0))), (gw, .inl (cg, 10, .inl (fun _ => 0))), (ou, .inl (cO, 1, .inr (.inl (fun _ => 0)))), (m0, .inr (12, mM kdM gw fa gM 0 0 0 0 0 0 0 0 1))] := hD
  subst hw
  refine lv_istore (lv' := [(6, .int 0), (5, .int 1), (4, .int 0), (3, .ref ou), (2, .ref m0), (1, .ref h0), (0, .ref b)]) hx hb dL_law_1319 hl (by decide) rfl (fun ls hl => ?_)
  refine lv_aload_n hx hb dL_law_1321 rfl (lv_at hl 4 rfl) ?_
  have hPc := hP.sub (ws' := [(m0, .inr (12, mM kdM gw fa gM 0 0 0 0 0 0 0 0 1))]) [15] rfl
  have hDc := hD.sub (ws' := [(m0, .inr (12, mM kdM gw fa gM 0 0 0 0 0 0 0 0 1))]) [15] (by decide) rfl
  have hKc := hK.sub (tys' := []) [] rfl
  have hFc := roF hS hA
  refine va_calli (va_runV (As := []) (rest := []) ⟨hx, hb, hml, hown, hts⟩ (cu_X12_thrown l dC dI H1310.size m0 kdM gw fa gM 1 0 0) (cwV 0 hts (gV u_1392 u_1393 u_1394 u_14 u_1395) rfl rfl rfl (by decide +kernel) ⟨Nat.le_of_ble_eq_true rfl, Nat.le_of_ble_eq_true rfl⟩) ⟨gP_blind, va_recv hKc hPc (ci := 12) (q0 := 0) rfl rfl, gP_call hPc hKc hDc hE⟩ rfl rfl hl.1 rfl (lv_room (Nat.le_of_ble_eq_true rfl)) dL_law_1322 ⟨(Nat.le_of_ble_eq_true rfl), (Nat.le_of_ble_eq_true rfl)⟩) hS (fun q _ h => hFc q h) hFc (fun r1314 u1312 t9 H1313 locs ht hvm hw hB hz1 hk1 hS => ?_)
  have hP := roP hP hk1
  subst hw
  refine lv_iload hx hb dL_law_1325 (lv_at hl 1 rfl) ?_
  refine lv_icmp_eq (tgt := 1332) hx hb dL_law_1327 (by decide) (fun _ => ?_) (fun h9 => absurd (by decide) h9)
  refine lv_iload hx hb dL_law_1332 (lv_at hl 1 rfl) ?_
  refine lv_if_ne (tgt := 1349) hx hb dL_law_1334 (by decide) (fun _ => ?_) (fun h9 => absurd h9 (by decide))
  refine lv_goto (tgt := 1877) hx hb dL_law_1349 (by decide) ?_
  refine W.widen (k := 600002) (n := 7302232) (Nat.le_of_ble_eq_true rfl) (Nat.le_of_ble_eq_true rfl) ?_
  exact law_tail hfl hx hb hr hml hown hts hX hbl hlocks hE hZ hA hbA hAo hL8 hS (lv_sub hl [6, 2] rfl)
set_option maxHeartbeats 8000000 in
set_option maxRecDepth 100000 in
theorem law_c16 {p : Program} {l : Launch} {e : Env} {s : State} {m : MethodId} {below : List Frame} {meth : Method} {c : Code} {dC : Nat → ClassId} {dI : Nat → Nat → Nat} {A : Nat → Prop} {b L : Nat} {xs : Nat → Int32} {h0 : Nat} {w : Nat} {kd : Nat} {cK : ClassId} {gW : Nat → Nat} {sg : Nat} {sn : Nat} {cS : ClassId} {gS : Nat → Nat} {ro : Nat} {cu : Nat} {c1 : Nat} {cC1 : ClassId} {gB1 : Nat → Nat} {sp : Nat} {c2 : Nat} {cC2 : ClassId} {gB2 : Nat → Nat} {gR : Nat → Nat} {tr : Nat} {gT : Nat → Nat} {gX : Nat → Nat} {m0 : Nat} {kdM : Nat} {ckM : ClassId} {fa : Nat} {cf : ClassId} {gw : Nat} {cg : ClassId} {gM : Nat → Nat} {ou : Nat} {cO : ClassId} (hfl : l.stackTraces = false) (hx : p.tables.exec = Jvm.exec) (hb : c.code = code) (hr : meth.sig.returnType = ret) (hml : c.maxLocals = 7) (hown : s.vm.findClass RL = some m.cls) (hts : ∀ w ∈ gU, w.before #[Value.ref b] s = true) (hX : va_X b L xs s s.heap) (hbl : b < s.heap.size) (hlocks : meth.locks = false) (hE : gEnv s) (hZ : gZ A s) (hA : ∀ q : Nat, s.heap.size ≤ q → A q) (hbA : ¬ A b) (hAo : ∀ q : Nat, A q → s.heap.size ≤ q) (hL8 : L = 8) : ∀ (H : Heap) (locs : List Loc), va_K (dC, dI) vwCl [(cK, .int), (cS, .long), (cC1, .int), (cC2, .int), (ckM, .int), (cf, .int), (cg, .int), (cO, .long)] s → va_P (dC, dI) vwCl [(h0, .inr (11, oX w sg ro tr gX)), (w, .inr (10, oW kd gW 0 0)), (kd, .inl (cK, 10, .inl (fun _ => 0))), (sg, .inr (7, oS w sn gS 0)), (sn, .inl (cS, 40, .inr (.inl (fun _ => 0)))), (ro, .inr (6, oR w sg cu sp gR 0 0)), (cu, .inr (8, oB c1 gB1)), (c1, .inl (cC1, 10, .inl (fun _ => 0))), (sp, .inr (8, oB c2 gB2)), (c2, .inl (cC2, 10, .inl (fun _ => 0))), (tr, .inr (9, oT w sg ro gT 0 0 0 0)), (m0, .inr (12, mM kdM gw fa gM 0 0 0 0 0 0 0 0 0)), (kdM, .inl (ckM, 10, .inl (fun _ => 0))), (fa, .inl (cf, 10, .inl (fun _ => 0))), (gw, .inl (cg, 10, .inl (fun _ => 0))), (ou, .inl (cO, 1, .inr (.inl (fun _ => 0))))] H → va_D A [(h0, .inr (11, oX w sg ro tr gX)), (w, .inr (10, oW kd gW 0 0)), (kd, .inl (cK, 10, .inl (fun _ => 0))), (sg, .inr (7, oS w sn gS 0)), (sn, .inl (cS, 40, .inr (.inl (fun _ => 0)))), (ro, .inr (6, oR w sg cu sp gR 0 0)), (cu, .inr (8, oB c1 gB1)), (c1, .inl (cC1, 10, .inl (fun _ => 0))), (sp, .inr (8, oB c2 gB2)), (c2, .inl (cC2, 10, .inl (fun _ => 0))), (tr, .inr (9, oT w sg ro gT 0 0 0 0)), (m0, .inr (12, mM kdM gw fa gM 0 0 0 0 0 0 0 0 0)), (kdM, .inl (ckM, 10, .inl (fun _ => 0))), (fa, .inl (cf, 10, .inl (fun _ => 0))), (gw, .inl (cg, 10, .inl (fun _ => 0))), (ou, .inl (cO, 1, .inr (.inl (fun _ => 0))))] → va_S A s.heap H locs → ∀ ls : Array Slot, lv_has ls 7 [(4, .int 0), (3, .ref ou), (2, .ref m0), (1, .ref h0), (0, .ref b)] → W p l e room_1 s m #[Value.ref b] below meth c H locs 441 44110 (lw_Z below #[Value.ref b] s) (F0 m 1352 ls []) := by
  intro H locs hK hP hD hS ls hl
  refine lv_aload_n hx hb dL_law_1352 rfl (lv_at hl 3 rfl) ?_
  refine lv_aload_n hx hb dL_law_1353 rfl (lv_at hl 4 rfl) ?_
  refine lv_iload hx hb dL_law_1354 (lv_at hl 0 rfl) ?_
  refine lv_iconst (v := 1) hx hb dL_law_1356 (by decide) ?_
  refine lv_iadd hx hb dL_law_1357 ?_
  refine lv_topi (fun z1315 ez1315 => ?_)
  obtain rfl : z1315 = 1 := ez1315.trans (by decide)
  refine va_sld hx hb hX hbl hbA hS (by rw [hL8]; unfold vp_in; decide) dL_law_1358 ?_
  refine lv_aload_n hx hb dL_law_1359 rfl (lv_at hl 1 rfl) ?_
  have hPc := hP.sub (ws' := [(h0, .inr (11, oX w sg ro tr gX)), (tr, .inr (9, oT w sg ro gT 0 0 0 0))]) [0, 10] rfl
  have hDc := hD.sub (ws' := [(h0, .inr (11, oX w sg ro tr gX)), (tr, .inr (9, oT w sg ro gT 0 0 0 0))]) [0, 10] (by decide) rfl
  have hKc := hK.sub (tys' := []) [] rfl
  have hFc := roF hS hA
  refine va_calli (vx_runSW (As := [.ref h0, .int (xs (1 : Int32).toNatClampNeg), .ref ou]) (rest := []) ⟨hx, hb, hml, hown, hts⟩ (c_L_source l dC dI H.size hfl h0 ou w sg ro tr gX gT (xs (1 : Int32).toNatClampNeg)) (vx_cwSW 3 hts (gSt u_1064 u_1065 u_0 u_1066) rfl rfl rfl (by decide +kernel) ⟨Nat.le_of_ble_eq_true rfl, Nat.le_of_ble_eq_true rfl⟩) ⟨gPZ_blind, gPZ_call hPc hKc hDc hE hZ hS hFc⟩ rfl rfl hl.1 rfl (lv_room (Nat.le_of_ble_eq_true rfl)) dL_law_1360 ⟨(Nat.le_of_ble_eq_true rfl), (Nat.le_of_ble_eq_true rfl)⟩) hS (fun q _ h => hFc q h) hFc (fun r1318 u1316 t9 H1317 locs ht hvm hw hB hz1 hk1 hS => ?_)
  have hP := roP hP hk1
  subst hw
  refine W.widen (k := 442) (n := 44116) (Nat.le_of_ble_eq_true rfl) (Nat.le_of_ble_eq_true rfl) ?_
  refine lv_istore (lv' := [(5, .int 1), (4, .int 0), (3, .ref ou), (2, .ref m0), (1, .ref h0), (0, .ref b)]) hx hb dL_law_1363 hl (by decide) rfl (fun ls hl => ?_)
  refine lv_aload_n hx hb dL_law_1365 rfl (lv_at hl 3 rfl) ?_
  refine lv_aload_n hx hb dL_law_1366 rfl (lv_at hl 5 rfl) ?_
  refine lv_iload hx hb dL_law_1367 (lv_at hl 1 rfl) ?_
  refine lv_iconst (v := 1) hx hb dL_law_1369 (by decide) ?_
  refine lv_iadd hx hb dL_law_1370 ?_
  refine lv_topi (fun z1319 ez1319 => ?_)
  obtain rfl : z1319 = 1 := ez1319.trans (by decide)
  refine va_sld hx hb hX hbl hbA hS (by rw [hL8]; unfold vp_in; decide) dL_law_1371 ?_
  have hPc := hP.sub (ws' := [(m0, .inr (12, mM kdM gw fa gM 0 0 0 0 0 0 0 0 0))]) [11] rfl
  have hDc := hD.sub (ws' := [(m0, .inr (12, mM kdM gw fa gM 0 0 0 0 0 0 0 0 0))]) [11] (by decide) rfl
  have hKc := hK.sub (tys' := []) [] rfl
  have hFc := va_free (wc := [(m0, .inr (12, mM kdM gw fa gM 0 0 0 0 0 0 0 0 0))]) hD hS hA [11] rfl
  refine va_calli (va_runV (As := [.int (xs (1 : Int32).toNatClampNeg)]) (rest := []) ⟨hx, hb, hml, hown, hts⟩ (c_X12_source l dC dI H1317.size m0 kdM gw fa gM 0 (xs (1 : Int32).toNatClampNeg)) (cwV 1 hts (gV u_1643 u_1644 u_1645 u_14 u_1646) rfl rfl rfl (by decide +kernel) ⟨Nat.le_of_ble_eq_true rfl, Nat.le_of_ble_eq_true rfl⟩) ⟨gP_blind, va_recv hKc hPc (ci := 12) (q0 := 0) rfl rfl, gP_call hPc hKc hDc hE⟩ rfl rfl hl.1 rfl (lv_room (Nat.le_of_ble_eq_true rfl)) dL_law_1372 ⟨(Nat.le_of_ble_eq_true rfl), (Nat.le_of_ble_eq_true rfl)⟩) hS (fun q _ h => hFc q h) hFc (fun r1322 u1320 t9 H1321 locs ht hvm hw hB hz1 hk1 hS => ?_)
  obtain ⟨hP1, hK1, hD1⟩ := hB
  rw [ht] at hP1
  have hK1 := va_K.moved hvm.symm hK1
  obtain ⟨hP, hD⟩ := va_join (wr := [(h0, .inr (11, oX w sg ro tr gX)), (w, .inr (10, oW kd gW 0 0)), (kd, .inl (cK, 10, .inl (fun _ => 0))), (sg, .inr (7, oS w sn gS 0)), (sn, .inl (cS, 40, .inr (.inl (fun _ => 0)))), (ro, .inr (6, oR w sg cu sp gR 0 0)), (cu, .inr (8, oB c1 gB1)), (c1, .inl (cC1, 10, .inl (fun _ => 0))), (sp, .inr (8, oB c2 gB2)), (c2, .inl (cC2, 10, .inl (fun _ => 0))), (tr, .inr (9, oT w sg ro gT 0 0 0 0)), (kdM, .inl (ckM, 10, .inl (fun _ => 0))), (fa, .inl (cf, 10, .inl (fun _ => 0))), (gw, .inl (cg, 10, .inl (fun _ => 0))), (ou, .inl (cO, 1, .inr (.inl (fun _ => 0))))]) (w1 := [(m0, .inr (12, mM kdM gw fa gM 0 0 0 0 0 0 0 0 1))]) hP hD [11] [0, 1, 2, 3, 4, 5, 6, 7, 8, 9, 10, 12, 13, 14, 15] rfl rfl (by decide) (by decide) hk1 hFc hP1 hD1
  have hK := (hK.sub (tys' := [(cK, .int), (cS, .long), (cC1, .int), (cC2, .int), (ckM, .int), (cf, .int), (cg, .int), (cO, .long)]) [0, 1, 2, 3, 4, 5, 6, 7] rfl).app hK1
  have hK : va_K (dC, dI) vwCl [(cK, .int), (cS, .long), (cC1, .int), (cC2, .int), (ckM, .int), (cf, .int), (cg, .int), (cO, .long)] s := hK
  have hP : va_P (dC, dI) vwCl [(h0, .inr (11, oX w sg ro tr gX)), (w, .inr (10, oW kd gW 0 0)), (kd, .inl (cK, 10, .inl (fun _ => 0))), (sg, .inr (7, oS w sn gS 0)), (sn, .inl (cS, 40, .inr (.inl (fun _ => 0)))), (ro, .inr (6, oR w sg cu sp gR 0 0)), (cu, .inr (8, oB c1 gB1)), (c1, .inl (cC1, 10, .inl (fun _ => 0))), (sp, .inr (8, oB c2 gB2)), (c2, .inl (cC2, 10, .inl (fun _ => 0))), (tr, .inr (9, oT w sg ro gT 0 0 0 0)), (kdM, .inl (ckM, 10, .inl (fun _ => 0))), (fa, .inl (cf, 10, .inl (fun _ => 0))), (gw, .inl (cg, 10, .inl (fun _ => 0))), (ou, .inl (cO, 1, .inr (.inl (fun _ => 0)))), (m0, .inr (12, mM kdM gw fa gM 0 0 0 0 0 0 0 0 1))] H1321 := hP
  have hD : va_D A [(h0, .inr (11, oX w sg ro tr gX)), (w, .inr (10, oW kd gW 0 0)), (kd, .inl (cK, 10, .inl (fun _ => 0))), (sg, .inr (7, oS w sn gS 0)), (sn, .inl (cS, 40, .inr (.inl (fun _ => 0)))), (ro, .inr (6, oR w sg cu sp gR 0 0)), (cu, .inr (8, oB c1 gB1)), (c1, .inl (cC1, 10, .inl (fun _ => 0))), (sp, .inr (8, oB c2 gB2)), (c2, .inl (cC2, 10, .inl (fun _ => 0))), (tr, .inr (9, oT w sg ro gT 0 0 0 0)), (kdM, .inl (ckM, 10, .inl (fun _ => 0))), (fa, .inl (cf, 10, .inl (fun _ => 0))), (gw, .inl (cg, 10, .inl (fun _ => 0))), (ou, .inl (cO, 1, .inr (.inl (fun _ => 0)))), (m0, .inr (12, mM kdM gw fa gM 0 0 0 0 0 0 0 0 1))] := hD
  subst hw
  refine lv_istore (lv' := [(6, .int 0), (5, .int 1), (4, .int 0), (3, .ref ou), (2, .ref m0), (1, .ref h0), (0, .ref b)]) hx hb dL_law_1375 hl (by decide) rfl (fun ls hl => ?_)
  refine lv_aload_n hx hb dL_law_1377 rfl (lv_at hl 4 rfl) ?_
  have hPc := hP.sub (ws' := [(m0, .inr (12, mM kdM gw fa gM 0 0 0 0 0 0 0 0 1))]) [15] rfl
  have hDc := hD.sub (ws' := [(m0, .inr (12, mM kdM gw fa gM 0 0 0 0 0 0 0 0 1))]) [15] (by decide) rfl
  have hKc := hK.sub (tys' := []) [] rfl
  have hFc := roF hS hA
  refine va_calli (va_runV (As := []) (rest := []) ⟨hx, hb, hml, hown, hts⟩ (cu_X12_thrown l dC dI H1321.size m0 kdM gw fa gM 1 0 0) (cwV 0 hts (gV u_1392 u_1393 u_1394 u_14 u_1395) rfl rfl rfl (by decide +kernel) ⟨Nat.le_of_ble_eq_true rfl, Nat.le_of_ble_eq_true rfl⟩) ⟨gP_blind, va_recv hKc hPc (ci := 12) (q0 := 0) rfl rfl, gP_call hPc hKc hDc hE⟩ rfl rfl hl.1 rfl (lv_room (Nat.le_of_ble_eq_true rfl)) dL_law_1378 ⟨(Nat.le_of_ble_eq_true rfl), (Nat.le_of_ble_eq_true rfl)⟩) hS (fun q _ h => hFc q h) hFc (fun r1325 u1323 t9 H1324 locs ht hvm hw hB hz1 hk1 hS => ?_)
  have hP := roP hP hk1
  subst hw
  refine lv_iload hx hb dL_law_1381 (lv_at hl 1 rfl) ?_
  refine lv_icmp_eq (tgt := 1388) hx hb dL_law_1383 (by decide) (fun _ => ?_) (fun h9 => absurd (by decide) h9)
  refine lv_iload hx hb dL_law_1388 (lv_at hl 1 rfl) ?_
  refine lv_if_ne (tgt := 1405) hx hb dL_law_1390 (by decide) (fun _ => ?_) (fun h9 => absurd h9 (by decide))
  refine lv_goto (tgt := 1877) hx hb dL_law_1405 (by decide) ?_
  refine W.widen (k := 600002) (n := 7302232) (Nat.le_of_ble_eq_true rfl) (Nat.le_of_ble_eq_true rfl) ?_
  exact law_tail hfl hx hb hr hml hown hts hX hbl hlocks hE hZ hA hbA hAo hL8 hS (lv_sub hl [6, 2] rfl)
set_option maxHeartbeats 8000000 in
set_option maxRecDepth 100000 in
theorem law_c17 {p : Program} {l : Launch} {e : Env} {s : State} {m : MethodId} {below : List Frame} {meth : Method} {c : Code} {dC : Nat → ClassId} {dI : Nat → Nat → Nat} {A : Nat → Prop} {b L : Nat} {xs : Nat → Int32} {h0 : Nat} {w : Nat} {kd : Nat} {cK : ClassId} {gW : Nat → Nat} {sg : Nat} {sn : Nat} {cS : ClassId} {gS : Nat → Nat} {ro : Nat} {cu : Nat} {c1 : Nat} {cC1 : ClassId} {gB1 : Nat → Nat} {sp : Nat} {c2 : Nat} {cC2 : ClassId} {gB2 : Nat → Nat} {gR : Nat → Nat} {tr : Nat} {gT : Nat → Nat} {gX : Nat → Nat} {m0 : Nat} {kdM : Nat} {ckM : ClassId} {fa : Nat} {cf : ClassId} {gw : Nat} {cg : ClassId} {gM : Nat → Nat} {ou : Nat} {cO : ClassId} (hfl : l.stackTraces = false) (hx : p.tables.exec = Jvm.exec) (hb : c.code = code) (hr : meth.sig.returnType = ret) (hml : c.maxLocals = 7) (hown : s.vm.findClass RL = some m.cls) (hts : ∀ w ∈ gU, w.before #[Value.ref b] s = true) (hX : va_X b L xs s s.heap) (hbl : b < s.heap.size) (hlocks : meth.locks = false) (hE : gEnv s) (hZ : gZ A s) (hA : ∀ q : Nat, s.heap.size ≤ q → A q) (hbA : ¬ A b) (hAo : ∀ q : Nat, A q → s.heap.size ≤ q) (hL8 : L = 8) : ∀ (H : Heap) (locs : List Loc), va_K (dC, dI) vwCl [(cK, .int), (cS, .long), (cC1, .int), (cC2, .int), (ckM, .int), (cf, .int), (cg, .int), (cO, .long)] s → va_P (dC, dI) vwCl [(h0, .inr (11, oX w sg ro tr gX)), (w, .inr (10, oW kd gW 0 0)), (kd, .inl (cK, 10, .inl (fun _ => 0))), (sg, .inr (7, oS w sn gS 0)), (sn, .inl (cS, 40, .inr (.inl (fun _ => 0)))), (ro, .inr (6, oR w sg cu sp gR 0 0)), (cu, .inr (8, oB c1 gB1)), (c1, .inl (cC1, 10, .inl (fun _ => 0))), (sp, .inr (8, oB c2 gB2)), (c2, .inl (cC2, 10, .inl (fun _ => 0))), (tr, .inr (9, oT w sg ro gT 0 0 0 0)), (m0, .inr (12, mM kdM gw fa gM 0 0 0 0 0 0 0 0 0)), (kdM, .inl (ckM, 10, .inl (fun _ => 0))), (fa, .inl (cf, 10, .inl (fun _ => 0))), (gw, .inl (cg, 10, .inl (fun _ => 0))), (ou, .inl (cO, 1, .inr (.inl (fun _ => 0))))] H → va_D A [(h0, .inr (11, oX w sg ro tr gX)), (w, .inr (10, oW kd gW 0 0)), (kd, .inl (cK, 10, .inl (fun _ => 0))), (sg, .inr (7, oS w sn gS 0)), (sn, .inl (cS, 40, .inr (.inl (fun _ => 0)))), (ro, .inr (6, oR w sg cu sp gR 0 0)), (cu, .inr (8, oB c1 gB1)), (c1, .inl (cC1, 10, .inl (fun _ => 0))), (sp, .inr (8, oB c2 gB2)), (c2, .inl (cC2, 10, .inl (fun _ => 0))), (tr, .inr (9, oT w sg ro gT 0 0 0 0)), (m0, .inr (12, mM kdM gw fa gM 0 0 0 0 0 0 0 0 0)), (kdM, .inl (ckM, 10, .inl (fun _ => 0))), (fa, .inl (cf, 10, .inl (fun _ => 0))), (gw, .inl (cg, 10, .inl (fun _ => 0))), (ou, .inl (cO, 1, .inr (.inl (fun _ => 0))))] → va_S A s.heap H locs → ∀ ls : Array Slot, lv_has ls 7 [(4, .int 0), (3, .ref ou), (2, .ref m0), (1, .ref h0), (0, .ref b)] → W p l e room_1 s m #[Value.ref b] below meth c H locs 441 44110 (lw_Z below #[Value.ref b] s) (F0 m 1408 ls []) := by
  intro H locs hK hP hD hS ls hl
  refine lv_aload_n hx hb dL_law_1408 rfl (lv_at hl 3 rfl) ?_
  have hPc := hP.sub (ws' := [(h0, .inr (11, oX w sg ro tr gX)), (tr, .inr (9, oT w sg ro gT 0 0 0 0))]) [0, 10] rfl
  have hDc := hD.sub (ws' := [(h0, .inr (11, oX w sg ro tr gX)), (tr, .inr (9, oT w sg ro gT 0 0 0 0))]) [0, 10] (by decide) rfl
  have hKc := hK.sub (tys' := []) [] rfl
  have hFc := roF hS hA
  refine va_calli (va_runV (As := []) (rest := []) ⟨hx, hb, hml, hown, hts⟩ (c_X11_frames l dC dI H.size h0 w sg ro tr gX gT) (cwV 0 hts (gV u_496 u_497 u_498 u_1 u_499) rfl rfl rfl (by decide +kernel) ⟨Nat.le_of_ble_eq_true rfl, Nat.le_of_ble_eq_true rfl⟩) ⟨gP_blind, va_recv hKc hPc (ci := 11) (q0 := 0) rfl rfl, gP_call hPc hKc hDc hE⟩ rfl rfl hl.1 rfl (lv_room (Nat.le_of_ble_eq_true rfl)) dL_law_1409 ⟨(Nat.le_of_ble_eq_true rfl), (Nat.le_of_ble_eq_true rfl)⟩) hS (fun q _ h => hFc q h) hFc (fun r1328 u1326 t9 H1327 locs ht hvm hw hB hz1 hk1 hS => ?_)
  have hP := roP hP hk1
  subst hw
  refine lv_aload_n hx hb dL_law_1412 rfl (lv_at hl 2 rfl) ?_
  have hPc := hP.sub (ws' := [(m0, .inr (12, mM kdM gw fa gM 0 0 0 0 0 0 0 0 0))]) [11] rfl
  have hDc := hD.sub (ws' := [(m0, .inr (12, mM kdM gw fa gM 0 0 0 0 0 0 0 0 0))]) [11] (by decide) rfl
  have hKc := hK.sub (tys' := []) [] rfl
  have hFc := va_free (wc := [(m0, .inr (12, mM kdM gw fa gM 0 0 0 0 0 0 0 0 0))]) hD hS hA [11] rfl
  refine va_calli (va_runV (As := []) (rest := [.int 0]) ⟨hx, hb, hml, hown, hts⟩ (c_X12_frames l dC dI H1327.size m0 kdM gw fa gM 0) (cwV 0 hts (gV u_1647 u_1648 u_1649 u_14 u_1650) rfl rfl rfl (by decide +kernel) ⟨Nat.le_of_ble_eq_true rfl, Nat.le_of_ble_eq_true rfl⟩) ⟨gP_blind, va_recv hKc hPc (ci := 12) (q0 := 0) rfl rfl, gP_call hPc hKc hDc hE⟩ rfl rfl hl.1 rfl (lv_room (Nat.le_of_ble_eq_true rfl)) dL_law_1413 ⟨(Nat.le_of_ble_eq_true rfl), (Nat.le_of_ble_eq_true rfl)⟩) hS (fun q _ h => hFc q h) hFc (fun r1331 u1329 t9 H1330 locs ht hvm hw hB hz1 hk1 hS => ?_)
  obtain ⟨hP1, hK1, hD1⟩ := hB
  rw [ht] at hP1
  have hK1 := va_K.moved hvm.symm hK1
  obtain ⟨hP, hD⟩ := va_join (wr := [(h0, .inr (11, oX w sg ro tr gX)), (w, .inr (10, oW kd gW 0 0)), (kd, .inl (cK, 10, .inl (fun _ => 0))), (sg, .inr (7, oS w sn gS 0)), (sn, .inl (cS, 40, .inr (.inl (fun _ => 0)))), (ro, .inr (6, oR w sg cu sp gR 0 0)), (cu, .inr (8, oB c1 gB1)), (c1, .inl (cC1, 10, .inl (fun _ => 0))), (sp, .inr (8, oB c2 gB2)), (c2, .inl (cC2, 10, .inl (fun _ => 0))), (tr, .inr (9, oT w sg ro gT 0 0 0 0)), (kdM, .inl (ckM, 10, .inl (fun _ => 0))), (fa, .inl (cf, 10, .inl (fun _ => 0))), (gw, .inl (cg, 10, .inl (fun _ => 0))), (ou, .inl (cO, 1, .inr (.inl (fun _ => 0))))]) (w1 := [(m0, .inr (12, mM kdM gw fa gM 0 0 0 0 0 0 0 0 0))]) hP hD [11] [0, 1, 2, 3, 4, 5, 6, 7, 8, 9, 10, 12, 13, 14, 15] rfl rfl (by decide) (by decide) hk1 hFc hP1 hD1
  have hK := (hK.sub (tys' := [(cK, .int), (cS, .long), (cC1, .int), (cC2, .int), (ckM, .int), (cf, .int), (cg, .int), (cO, .long)]) [0, 1, 2, 3, 4, 5, 6, 7] rfl).app hK1
  have hK : va_K (dC, dI) vwCl [(cK, .int), (cS, .long), (cC1, .int), (cC2, .int), (ckM, .int), (cf, .int), (cg, .int), (cO, .long)] s := hK
  have hP : va_P (dC, dI) vwCl [(h0, .inr (11, oX w sg ro tr gX)), (w, .inr (10, oW kd gW 0 0)), (kd, .inl (cK, 10, .inl (fun _ => 0))), (sg, .inr (7, oS w sn gS 0)), (sn, .inl (cS, 40, .inr (.inl (fun _ => 0)))), (ro, .inr (6, oR w sg cu sp gR 0 0)), (cu, .inr (8, oB c1 gB1)), (c1, .inl (cC1, 10, .inl (fun _ => 0))), (sp, .inr (8, oB c2 gB2)), (c2, .inl (cC2, 10, .inl (fun _ => 0))), (tr, .inr (9, oT w sg ro gT 0 0 0 0)), (kdM, .inl (ckM, 10, .inl (fun _ => 0))), (fa, .inl (cf, 10, .inl (fun _ => 0))), (gw, .inl (cg, 10, .inl (fun _ => 0))), (ou, .inl (cO, 1, .inr (.inl (fun _ => 0)))), (m0, .inr (12, mM kdM gw fa gM 0 0 0 0 0 0 0 0 0))] H1330 := hP
  have hD : va_D A [(h0, .inr (11, oX w sg ro tr gX)), (w, .inr (10, oW kd gW 0 0)), (kd, .inl (cK, 10, .inl (fun _ => 0))), (sg, .inr (7, oS w sn gS 0)), (sn, .inl (cS, 40, .inr (.inl (fun _ => 0)))), (ro, .inr (6, oR w sg cu sp gR 0 0)), (cu, .inr (8, oB c1 gB1)), (c1, .inl (cC1, 10, .inl (fun _ => 0))), (sp, .inr (8, oB c2 gB2)), (c2, .inl (cC2, 10, .inl (fun _ => 0))), (tr, .inr (9, oT w sg ro gT 0 0 0 0)), (kdM, .inl (ckM, 10, .inl (fun _ => 0))), (fa, .inl (cf, 10, .inl (fun _ => 0))), (gw, .inl (cg, 10, .inl (fun _ => 0))), (ou, .inl (cO, 1, .inr (.inl (fun _ => 0)))), (m0, .inr (12, mM kdM gw fa gM 0 0 0 0 0 0 0 0 0))] := hD
  subst hw
  refine lv_icmp_eq (tgt := 1877) hx hb dL_law_1416 (by decide) (fun _ => ?_) (fun h9 => absurd (by decide) h9)
  refine W.widen (k := 600002) (n := 7302232) (Nat.le_of_ble_eq_true rfl) (Nat.le_of_ble_eq_true rfl) ?_
  exact law_tail hfl hx hb hr hml hown hts hX hbl hlocks hE hZ hA hbA hAo hL8 hS (lv_sub hl [4, 0] rfl)
