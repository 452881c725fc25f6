/-! the law's cases -/
section ZLC
variable {X : zX} {p : Program} {l : Launch} {e : Env} {s : State} {m : MethodId} {below : List Frame} {meth : Method} {c : Code} {σ0 σ : zHp} {loc0 : zK → Nat} {b n : Nat} {xs : Nat → Int32} {cells slots : Nat}
set_option maxRecDepth 100000 in
set_option maxHeartbeats 4000000 in
theorem lw_c12 (K : LwC X p l s m b meth c n xs) {x : Nat → Int32} {a : Nat → Nat → Int32} {i : Nat} (hS : lwS x a σ) (hi : i + 6 ≤ n) (hc : cells + 10 ≤ 601024 ∧ slots + 200 ≤ 7293034) (kk : ∀ (x : Nat → Int32) (a : Nat → Nat → Int32) (σ : zHp), lwS x a σ → LwG X p l e s m b below meth c σ0 loc0 (cells + 10) (slots + 200) σ 1733 (lw_L b i) []) : LwG X p l e s m b below meth c σ0 loc0 cells slots σ 1008 (lw_L b i) [] := by
  have C := K.1
  obtain ⟨-, hX, hbl, hz, hn, -⟩ := id K
  obtain ⟨hI, hD, hM, f0, h14⟩ := hS
  refine z_aload_n (i := 1) C dL_law_1008 rfl rfl ?_
  refine z_arg C hX hbl hz (i := i) (j := 1) (by omega) hn (by decide) rfl rfl dL_law_1009 dL_law_1010 dL_law_1012 dL_law_1013 dL_law_1014 ?_
  refine z_arg C hX hbl hz (i := i) (j := 2) (by omega) hn (by decide) rfl rfl dL_law_1015 dL_law_1016 dL_law_1018 dL_law_1019 dL_law_1020 ?_
  refine z_aload_n (i := 3) C dL_law_1021 rfl rfl ?_
  refine z_callSX C Y_L_daysIn sm_yL_daysIn ml_RL_146 (c_L_daysIn l hD hI h14) dL_law_1022 rfl rfl (fun _ => Nat.le_of_ble_eq_true rfl) ⟨Nat.le_of_ble_eq_true rfl, Nat.le_of_ble_eq_true rfl⟩ hc (z_ri (fun r9 σ1 h1 => ?_)) z_nx
  refine z_istore C dL_law_1025 (by decide) ?_
  have e9 := h1.1
  subst e9
  have hM1 := hM.mv h1.2.1
  refine z_aload_n (i := 2) C dL_law_1027 rfl rfl ?_
  refine z_arg C hX hbl hz (i := i) (j := 1) (by omega) hn (by decide) rfl rfl dL_law_1028 dL_law_1029 dL_law_1031 dL_law_1032 dL_law_1033 ?_
  refine z_arg C hX hbl hz (i := i) (j := 2) (by omega) hn (by decide) rfl rfl dL_law_1034 dL_law_1035 dL_law_1037 dL_law_1038 dL_law_1039 ?_
  refine z_callV C Y_X7_daysIn V_X7_daysIn ml_RL_148 (c_X7_daysIn l hM1 hI.1) dL_law_1040 rfl rfl hM1.1 ⟨_, _, rfl⟩ (fun _ => Nat.le_of_ble_eq_true rfl) ⟨Nat.le_of_ble_eq_true rfl, Nat.le_of_ble_eq_true rfl⟩ hc (z_ri (fun r8 σ2 h2 => ?_)) (z_nx)
  obtain ⟨x2, a2, f2, hM2, hD2, hI2, h31, h142, hv⟩ := lw_mid h1 h2 hI (ik_daysIn hI)
  exact lw_tail K hM2 hD2 hI2 h31 h142 (fun h => hv h trivial) dL_law_1043 dL_law_1045 dL_law_1046 dL_law_1049 dL_law_1051 dL_law_1056 dL_law_1058 dL_law_1061 dL_law_1062 dL_law_1063 dL_law_1064 dL_law_1066 dL_law_1067 dL_law_1068 dL_law_1073 (by decide) hc kk
set_option maxRecDepth 100000 in
set_option maxHeartbeats 4000000 in
theorem lw_c13 (K : LwC X p l s m b meth c n xs) {x : Nat → Int32} {a : Nat → Nat → Int32} {i : Nat} (hS : lwS x a σ) (hi : i + 6 ≤ n) (hc : cells + 10 ≤ 601024 ∧ slots + 200 ≤ 7293034) (kk : ∀ (x : Nat → Int32) (a : Nat → Nat → Int32) (σ : zHp), lwS x a σ → LwG X p l e s m b below meth c σ0 loc0 (cells + 10) (slots + 200) σ 1733 (lw_L b i) []) : LwG X p l e s m b below meth c σ0 loc0 cells slots σ 1076 (lw_L b i) [] := by
  have C := K.1
  obtain ⟨-, hX, hbl, hz, hn, -⟩ := id K
  obtain ⟨hI, hD, hM, f0, h14⟩ := hS
  refine z_aload_n (i := 1) C dL_law_1076 rfl rfl ?_
  refine z_arg C hX hbl hz (i := i) (j := 1) (by omega) hn (by decide) rfl rfl dL_law_1077 dL_law_1078 dL_law_1080 dL_law_1081 dL_law_1082 ?_
  refine z_aload_n (i := 3) C dL_law_1083 rfl rfl ?_
  refine z_callSX C Y_L_stalled sm_yL_stalled ml_RL_149 (c_L_stalled l hD hI h14) dL_law_1084 rfl rfl (fun _ => Nat.le_of_ble_eq_true rfl) ⟨Nat.le_of_ble_eq_true rfl, Nat.le_of_ble_eq_true rfl⟩ hc (z_ri (fun r9 σ1 h1 => ?_)) z_nx
  refine z_istore C dL_law_1087 (by decide) ?_
  have e9 := h1.1
  subst e9
  have hM1 := hM.mv h1.2.1
  refine z_aload_n (i := 2) C dL_law_1089 rfl rfl ?_
  refine z_arg C hX hbl hz (i := i) (j := 1) (by omega) hn (by decide) rfl rfl dL_law_1090 dL_law_1091 dL_law_1093 dL_law_1094 dL_law_1095 ?_
  refine z_callV C Y_X7_stalled V_X7_stalled ml_RL_151 (c_X7_stalled l hM1 hI.1) dL_law_1096 rfl rfl hM1.1 ⟨_, _, rfl⟩ (fun _ => Nat.le_of_ble_eq_true rfl) ⟨Nat.le_of_ble_eq_true rfl, Nat.le_of_ble_eq_true rfl⟩ hc (z_ri (fun r8 σ2 h2 => ?_)) (z_nx)
  obtain ⟨x2, a2, f2, hM2, hD2, hI2, h31, h142, hv⟩ := lw_mid h1 h2 hI (ik_stalled hI)
  exact lw_tail K hM2 hD2 hI2 h31 h142 (fun h => hv h trivial) dL_law_1099 dL_law_1101 dL_law_1102 dL_law_1105 dL_law_1107 dL_law_1112 dL_law_1114 dL_law_1117 dL_law_1118 dL_law_1119 dL_law_1120 dL_law_1122 dL_law_1123 dL_law_1124 dL_law_1129 (by decide) hc kk
set_option maxRecDepth 100000 in
set_option maxHeartbeats 4000000 in
theorem lw_c14 (K : LwC X p l s m b meth c n xs) {x : Nat → Int32} {a : Nat → Nat → Int32} {i : Nat} (hS : lwS x a σ) (hi : i + 6 ≤ n) (hc : cells + 10 ≤ 601024 ∧ slots + 200 ≤ 7293034) (kk : ∀ (x : Nat → Int32) (a : Nat → Nat → Int32) (σ : zHp), lwS x a σ → LwG X p l e s m b below meth c σ0 loc0 (cells + 10) (slots + 200) σ 1733 (lw_L b i) []) : LwG X p l e s m b below meth c σ0 loc0 cells slots σ 1132 (lw_L b i) [] := by
  have C := K.1
  obtain ⟨-, hX, hbl, hz, hn, -⟩ := id K
  obtain ⟨hI, hD, hM, f0, h14⟩ := hS
  refine z_aload_n (i := 1) C dL_law_1132 rfl rfl ?_
  refine z_arg C hX hbl hz (i := i) (j := 1) (by omega) hn (by decide) rfl rfl dL_law_1133 dL_law_1134 dL_law_1136 dL_law_1137 dL_law_1138 ?_
  refine z_aload_n (i := 3) C dL_law_1139 rfl rfl ?_
  refine z_callSX C Y_L_worth sm_yL_worth ml_RL_152 (c_L_worth l hD hI h14) dL_law_1140 rfl rfl (fun _ => Nat.le_of_ble_eq_true rfl) ⟨Nat.le_of_ble_eq_true rfl, Nat.le_of_ble_eq_true rfl⟩ hc (z_ri (fun r9 σ1 h1 => ?_)) z_nx
  refine z_istore C dL_law_1143 (by decide) ?_
  have e9 := h1.1
  subst e9
  have hM1 := hM.mv h1.2.1
  refine z_aload_n (i := 2) C dL_law_1145 rfl rfl ?_
  refine z_arg C hX hbl hz (i := i) (j := 1) (by omega) hn (by decide) rfl rfl dL_law_1146 dL_law_1147 dL_law_1149 dL_law_1150 dL_law_1151 ?_
  refine z_callV C Y_X7_worth V_X7_worth ml_RL_154 (c_X7_worth l hM1 hI.1) dL_law_1152 rfl rfl hM1.1 ⟨_, _, rfl⟩ (fun _ => Nat.le_of_ble_eq_true rfl) ⟨Nat.le_of_ble_eq_true rfl, Nat.le_of_ble_eq_true rfl⟩ hc (z_ri (fun r8 σ2 h2 => ?_)) (z_nx)
  obtain ⟨x2, a2, f2, hM2, hD2, hI2, h31, h142, hv⟩ := lw_mid h1 h2 hI (ik_worth hI)
  exact lw_tail K hM2 hD2 hI2 h31 h142 (fun h => hv h trivial) dL_law_1155 dL_law_1157 dL_law_1158 dL_law_1161 dL_law_1163 dL_law_1168 dL_law_1170 dL_law_1173 dL_law_1174 dL_law_1175 dL_law_1176 dL_law_1178 dL_law_1179 dL_law_1180 dL_law_1185 (by decide) hc kk
set_option maxRecDepth 100000 in
set_option maxHeartbeats 4000000 in
theorem lw_c15 (K : LwC X p l s m b meth c n xs) {x : Nat → Int32} {a : Nat → Nat → Int32} {i : Nat} (hS : lwS x a σ) (hi : i + 6 ≤ n) (hc : cells + 10 ≤ 601024 ∧ slots + 200 ≤ 7293034) (kk : ∀ (x : Nat → Int32) (a : Nat → Nat → Int32) (σ : zHp), lwS x a σ → LwG X p l e s m b below meth c σ0 loc0 (cells + 10) (slots + 200) σ 1733 (lw_L b i) []) : LwG X p l e s m b below meth c σ0 loc0 cells slots σ 1188 (lw_L b i) [] := by
  have C := K.1
  obtain ⟨-, hX, hbl, hz, hn, -⟩ := id K
  obtain ⟨hI, hD, hM, f0, h14⟩ := hS
  refine z_aload_n (i := 1) C dL_law_1188 rfl rfl ?_
  refine z_arg C hX hbl hz (i := i) (j := 1) (by omega) hn (by decide) rfl rfl dL_law_1189 dL_law_1190 dL_law_1192 dL_law_1193 dL_law_1194 ?_
  refine z_arg C hX hbl hz (i := i) (j := 2) (by omega) hn (by decide) rfl rfl dL_law_1195 dL_law_1196 dL_law_1198 dL_law_1199 dL_law_1200 ?_
  refine z_aload_n (i := 3) C dL_law_1201 rfl rfl ?_
  refine z_callSX C Y_L_inRegion sm_yL_inRegion ml_RL_155 (c_L_inRegion l hD hI h14) dL_law_1202 rfl rfl (fun _ => Nat.le_of_ble_eq_true rfl) ⟨Nat.le_of_ble_eq_true rfl, Nat.le_of_ble_eq_true rfl⟩ hc (z_ri (fun r9 σ1 h1 => ?_)) z_nx
  refine z_istore C dL_law_1205 (by decide) ?_
  have e9 := h1.1
  subst e9
  have hM1 := hM.mv h1.2.1
  refine z_aload_n (i := 2) C dL_law_1207 rfl rfl ?_
  refine z_arg C hX hbl hz (i := i) (j := 1) (by omega) hn (by decide) rfl rfl dL_law_1208 dL_law_1209 dL_law_1211 dL_law_1212 dL_law_1213 ?_
  refine z_arg C hX hbl hz (i := i) (j := 2) (by omega) hn (by decide) rfl rfl dL_law_1214 dL_law_1215 dL_law_1217 dL_law_1218 dL_law_1219 ?_
  refine z_callV C Y_X7_inRegion V_X7_inRegion ml_RL_157 (c_X7_inRegion l hM1 hI.1) dL_law_1220 rfl rfl hM1.1 ⟨_, _, rfl⟩ (fun _ => Nat.le_of_ble_eq_true rfl) ⟨Nat.le_of_ble_eq_true rfl, Nat.le_of_ble_eq_true rfl⟩ hc (z_ri (fun r8 σ2 h2 => ?_)) (z_nx)
  obtain ⟨x2, a2, f2, hM2, hD2, hI2, h31, h142, hv⟩ := lw_mid h1 h2 hI (ik_inRegion hI)
  exact lw_tail K hM2 hD2 hI2 h31 h142 (fun h => hv h trivial) dL_law_1223 dL_law_1225 dL_law_1226 dL_law_1229 dL_law_1231 dL_law_1236 dL_law_1238 dL_law_1241 dL_law_1242 dL_law_1243 dL_law_1244 dL_law_1246 dL_law_1247 dL_law_1248 dL_law_1253 (by decide) hc kk
set_option maxRecDepth 100000 in
set_option maxHeartbeats 4000000 in
theorem lw_c16 (K : LwC X p l s m b meth c n xs) {x : Nat → Int32} {a : Nat → Nat → Int32} {i : Nat} (hS : lwS x a σ) (hi : i + 6 ≤ n) (hc : cells + 10 ≤ 601024 ∧ slots + 200 ≤ 7293034) (kk : ∀ (x : Nat → Int32) (a : Nat → Nat → Int32) (σ : zHp), lwS x a σ → LwG X p l e s m b below meth c σ0 loc0 (cells + 10) (slots + 200) σ 1733 (lw_L b i) []) : LwG X p l e s m b below meth c σ0 loc0 cells slots σ 1256 (lw_L b i) [] := by
  have C := K.1
  obtain ⟨-, hX, hbl, hz, hn, -⟩ := id K
  obtain ⟨hI, hD, hM, f0, h14⟩ := hS
  refine z_aload_n (i := 1) C dL_law_1256 rfl rfl ?_
  refine z_arg C hX hbl hz (i := i) (j := 1) (by omega) hn (by decide) rfl rfl dL_law_1257 dL_law_1258 dL_law_1260 dL_law_1261 dL_law_1262 ?_
  refine z_aload_n (i := 3) C dL_law_1263 rfl rfl ?_
  refine z_callSX C Y_L_won sm_yL_won ml_RL_158 (c_L_won l hD hI h14) dL_law_1264 rfl rfl (fun _ => Nat.le_of_ble_eq_true rfl) ⟨Nat.le_of_ble_eq_true rfl, Nat.le_of_ble_eq_true rfl⟩ hc (z_ri (fun r9 σ1 h1 => ?_)) z_nx
  refine z_istore C dL_law_1267 (by decide) ?_
  have e9 := h1.1
  subst e9
  have hM1 := hM.mv h1.2.1
  refine z_aload_n (i := 2) C dL_law_1269 rfl rfl ?_
  refine z_arg C hX hbl hz (i := i) (j := 1) (by omega) hn (by decide) rfl rfl dL_law_1270 dL_law_1271 dL_law_1273 dL_law_1274 dL_law_1275 ?_
  refine z_callV C Y_X7_won V_X7_won ml_RL_160 (c_X7_won l hM1 hI.1) dL_law_1276 rfl rfl hM1.1 ⟨_, _, rfl⟩ (fun _ => Nat.le_of_ble_eq_true rfl) ⟨Nat.le_of_ble_eq_true rfl, Nat.le_of_ble_eq_true rfl⟩ hc (z_ri (fun r8 σ2 h2 => ?_)) (z_nx)
  obtain ⟨x2, a2, f2, hM2, hD2, hI2, h31, h142, hv⟩ := lw_mid h1 h2 hI (ik_won hI)
  exact lw_tail K hM2 hD2 hI2 h31 h142 (fun h => hv h trivial) dL_law_1279 dL_law_1281 dL_law_1282 dL_law_1285 dL_law_1287 dL_law_1292 dL_law_1294 dL_law_1297 dL_law_1298 dL_law_1299 dL_law_1300 dL_law_1302 dL_law_1303 dL_law_1304 dL_law_1309 (by decide) hc kk
set_option maxRecDepth 100000 in
set_option maxHeartbeats 4000000 in
theorem lw_c17 (K : LwC X p l s m b meth c n xs) {x : Nat → Int32} {a : Nat → Nat → Int32} {i : Nat} (hS : lwS x a σ) (hi : i + 6 ≤ n) (hc : cells + 10 ≤ 601024 ∧ slots + 200 ≤ 7293034) (kk : ∀ (x : Nat → Int32) (a : Nat → Nat → Int32) (σ : zHp), lwS x a σ → LwG X p l e s m b below meth c σ0 loc0 (cells + 10) (slots + 200) σ 1733 (lw_L b i) []) : LwG X p l e s m b below meth c σ0 loc0 cells slots σ 1312 (lw_L b i) [] := by
  have C := K.1
  obtain ⟨-, hX, hbl, hz, hn, -⟩ := id K
  obtain ⟨hI, hD, hM, f0, h14⟩ := hS
  refine z_aload_n (i := 1) C dL_law_1312 rfl rfl ?_
  refine z_arg C hX hbl hz (i := i) (j := 1) (by omega) hn (by decide) rfl rfl dL_law_1313 dL_law_1314 dL_law_1316 dL_law_1317 dL_law_1318 ?_
  refine z_arg C hX hbl hz (i := i) (j := 2) (by omega) hn (by decide) rfl rfl dL_law_1319 dL_law_1320 dL_law_1322 dL_law_1323 dL_law_1324 ?_
  refine z_arg C hX hbl hz (i := i) (j := 3) (by omega) hn (by decide) rfl rfl dL_law_1325 dL_law_1326 dL_law_1328 dL_law_1329 dL_law_1330 ?_
  refine z_aload_n (i := 3) C dL_law_1331 rfl rfl ?_
  refine z_callSX C Y_L_quote sm_yL_quote ml_RL_161 (c_L_quote l hD hI h14) dL_law_1332 rfl rfl (fun _ => Nat.le_of_ble_eq_true rfl) ⟨Nat.le_of_ble_eq_true rfl, Nat.le_of_ble_eq_true rfl⟩ hc (z_ri (fun r9 σ1 h1 => ?_)) z_nx
  refine z_istore C dL_law_1335 (by decide) ?_
  have e9 := h1.1
  subst e9
  have hM1 := hM.mv h1.2.1
  refine z_aload_n (i := 2) C dL_law_1337 rfl rfl ?_
  refine z_arg C hX hbl hz (i := i) (j := 1) (by omega) hn (by decide) rfl rfl dL_law_1338 dL_law_1339 dL_law_1341 dL_law_1342 dL_law_1343 ?_
  refine z_arg C hX hbl hz (i := i) (j := 2) (by omega) hn (by decide) rfl rfl dL_law_1344 dL_law_1345 dL_law_1347 dL_law_1348 dL_law_1349 ?_
  refine z_arg C hX hbl hz (i := i) (j := 3) (by omega) hn (by decide) rfl rfl dL_law_1350 dL_law_1351 dL_law_1353 dL_law_1354 dL_law_1355 ?_
  refine z_callV C Y_X7_quote V_X7_quote ml_RL_163 (c_X7_quote l hM1 hI.1) dL_law_1356 rfl rfl hM1.1 ⟨_, _, rfl⟩ (fun _ => Nat.le_of_ble_eq_true rfl) ⟨Nat.le_of_ble_eq_true rfl, Nat.le_of_ble_eq_true rfl⟩ hc (z_ri (fun r8 σ2 h2 => ?_)) (z_nx)
  obtain ⟨x2, a2, f2, hM2, hD2, hI2, h31, h142, hv⟩ := lw_mid h1 h2 hI (ik_quote hI)
  exact lw_tail K hM2 hD2 hI2 h31 h142 (fun h => hv h trivial) dL_law_1359 dL_law_1361 dL_law_1362 dL_law_1365 dL_law_1367 dL_law_1372 dL_law_1374 dL_law_1377 dL_law_1378 dL_law_1379 dL_law_1380 dL_law_1382 dL_law_1383 dL_law_1384 dL_law_1389 (by decide) hc kk
set_option maxRecDepth 100000 in
set_option maxHeartbeats 4000000 in
theorem lw_c18 (K : LwC X p l s m b meth c n xs) {x : Nat → Int32} {a : Nat → Nat → Int32} {i : Nat} (hS : lwS x a σ) (hi : i + 6 ≤ n) (hc : cells + 10 ≤ 601024 ∧ slots + 200 ≤ 7293034) (kk : ∀ (x : Nat → Int32) (a : Nat → Nat → Int32) (σ : zHp), lwS x a σ → LwG X p l e s m b below meth c σ0 loc0 (cells + 10) (slots + 200) σ 1733 (lw_L b i) []) : LwG X p l e s m b below meth c σ0 loc0 cells slots σ 1392 (lw_L b i) [] := by
  have C := K.1
  obtain ⟨-, hX, hbl, hz, hn, -⟩ := id K
  obtain ⟨hI, hD, hM, f0, h14⟩ := hS
  refine z_aload_n (i := 1) C dL_law_1392 rfl rfl ?_
  refine z_arg C hX hbl hz (i := i) (j := 1) (by omega) hn (by decide) rfl rfl dL_law_1393 dL_law_1394 dL_law_1396 dL_law_1397 dL_law_1398 ?_
  refine z_arg C hX hbl hz (i := i) (j := 2) (by omega) hn (by decide) rfl rfl dL_law_1399 dL_law_1400 dL_law_1402 dL_law_1403 dL_law_1404 ?_
  refine z_callSX C Y_L_approve sm_yL_approve ml_RL_164 (c_L_approve l hD hI h14) dL_law_1405 rfl rfl (fun _ => Nat.le_of_ble_eq_true rfl) ⟨Nat.le_of_ble_eq_true rfl, Nat.le_of_ble_eq_true rfl⟩ hc (z_ri (fun r9 σ1 h1 => ?_)) z_nx
  refine z_istore C dL_law_1408 (by decide) ?_
  have e9 := h1.1
  subst e9
  have hM1 := hM.mv h1.2.1
  refine z_aload_n (i := 2) C dL_law_1410 rfl rfl ?_
  refine z_arg C hX hbl hz (i := i) (j := 1) (by omega) hn (by decide) rfl rfl dL_law_1411 dL_law_1412 dL_law_1414 dL_law_1415 dL_law_1416 ?_
  refine z_arg C hX hbl hz (i := i) (j := 2) (by omega) hn (by decide) rfl rfl dL_law_1417 dL_law_1418 dL_law_1420 dL_law_1421 dL_law_1422 ?_
  refine z_callV C Y_X7_approve V_X7_approve ml_RL_167 (c_X7_approve l hM1 hI.1) dL_law_1423 rfl rfl hM1.1 ⟨_, _, rfl⟩ (fun _ => Nat.le_of_ble_eq_true rfl) ⟨Nat.le_of_ble_eq_true rfl, Nat.le_of_ble_eq_true rfl⟩ hc (z_rv (fun σ2 h2 => ?_)) (z_nx)
  obtain ⟨x2, a2, f2, hM2, hD2, hI2, h31, h142, hv⟩ := lw_mid h1 h2 hI (ik_approve hI)
  refine z_aload_n (i := 2) C dL_law_1426 rfl rfl ?_
  refine z_callV C Y_X7_thrown V_X7_thrown ml_RL_106 (c_X7_thrown l hM2) dL_law_1427 rfl rfl hM2.1 ⟨_, _, rfl⟩ (fun _ => Nat.le_of_ble_eq_true rfl) ⟨Nat.le_of_ble_eq_true rfl, Nat.le_of_ble_eq_true rfl⟩ hc (z_ri (fun r8 σ3 hx => ?_)) (z_nx)
  obtain ⟨rfl, rfl⟩ := hx
  refine z_iload C dL_law_1430 rfl ?_
  refine z_icmp_eq (tgt := 1437) C dL_law_1432 (by decide) (fun _ => ?_) (fun h => absurd h31 h)
  refine z_goto (tgt := 1733) C dL_law_1437 (by decide) ?_
  refine z_sub (L' := lw_L b i) (zs1 rfl (zs1 rfl (zs1 rfl (zs1 rfl (zs1 rfl zs0))))) ?_
  exact kk x2 a2 _ ⟨hI2, hD2, hM2, f2, h142⟩
set_option maxRecDepth 100000 in
set_option maxHeartbeats 4000000 in
theorem lw_c19 (K : LwC X p l s m b meth c n xs) {x : Nat → Int32} {a : Nat → Nat → Int32} {i : Nat} (hS : lwS x a σ) (hi : i + 6 ≤ n) (hc : cells + 10 ≤ 601024 ∧ slots + 200 ≤ 7293034) (kk : ∀ (x : Nat → Int32) (a : Nat → Nat → Int32) (σ : zHp), lwS x a σ → LwG X p l e s m b below meth c σ0 loc0 (cells + 10) (slots + 200) σ 1733 (lw_L b i) []) : LwG X p l e s m b below meth c σ0 loc0 cells slots σ 1440 (lw_L b i) [] := by
  have C := K.1
  obtain ⟨-, hX, hbl, hz, hn, -⟩ := id K
  obtain ⟨hI, hD, hM, f0, h14⟩ := hS
  refine z_aload_n (i := 1) C dL_law_1440 rfl rfl ?_
  refine z_arg C hX hbl hz (i := i) (j := 1) (by omega) hn (by decide) rfl rfl dL_law_1441 dL_law_1442 dL_law_1444 dL_law_1445 dL_law_1446 ?_
  refine z_aload_n (i := 3) C dL_law_1447 rfl rfl ?_
  refine z_callSX C Y_L_counting sm_yL_counting ml_RL_168 (c_L_counting l hD hI h14) dL_law_1448 rfl rfl (fun _ => Nat.le_of_ble_eq_true rfl) ⟨Nat.le_of_ble_eq_true rfl, Nat.le_of_ble_eq_true rfl⟩ hc (z_ri (fun r9 σ1 h1 => ?_)) z_nx
  refine z_istore C dL_law_1451 (by decide) ?_
  have e9 := h1.1
  subst e9
  have hM1 := hM.mv h1.2.1
  refine z_aload_n (i := 2) C dL_law_1453 rfl rfl ?_
  refine z_arg C hX hbl hz (i := i) (j := 1) (by omega) hn (by decide) rfl rfl dL_law_1454 dL_law_1455 dL_law_1457 dL_law_1458 dL_law_1459 ?_
  refine z_callV C Y_X7_counting V_X7_counting ml_RL_170 (c_X7_counting l hM1 hI.1) dL_law_1460 rfl rfl hM1.1 ⟨_, _, rfl⟩ (fun _ => Nat.le_of_ble_eq_true rfl) ⟨Nat.le_of_ble_eq_true rfl, Nat.le_of_ble_eq_true rfl⟩ hc (z_ri (fun r8 σ2 h2 => ?_)) (z_nx)
  obtain ⟨x2, a2, f2, hM2, hD2, hI2, h31, h142, hv⟩ := lw_mid h1 h2 hI (ik_counting hI)
  exact lw_tail K hM2 hD2 hI2 h31 h142 (fun h => hv h trivial) dL_law_1463 dL_law_1465 dL_law_1466 dL_law_1469 dL_law_1471 dL_law_1476 dL_law_1478 dL_law_1481 dL_law_1482 dL_law_1483 dL_law_1484 dL_law_1486 dL_law_1487 dL_law_1488 dL_law_1493 (by decide) hc kk
set_option maxRecDepth 100000 in
set_option maxHeartbeats 4000000 in
theorem lw_c20 (K : LwC X p l s m b meth c n xs) {x : Nat → Int32} {a : Nat → Nat → Int32} {i : Nat} (hS : lwS x a σ) (hi : i + 6 ≤ n) (hc : cells + 10 ≤ 601024 ∧ slots + 200 ≤ 7293034) (kk : ∀ (x : Nat → Int32) (a : Nat → Nat → Int32) (σ : zHp), lwS x a σ → LwG X p l e s m b below meth c σ0 loc0 (cells + 10) (slots + 200) σ 1733 (lw_L b i) []) : LwG X p l e s m b below meth c σ0 loc0 cells slots σ 1496 (lw_L b i) [] := by
  have C := K.1
  obtain ⟨-, hX, hbl, hz, hn, -⟩ := id K
  obtain ⟨hI, hD, hM, f0, h14⟩ := hS
  refine z_aload_n (i := 1) C dL_law_1496 rfl rfl ?_
  refine z_callV C Y_X6_waiting V_X6_waiting ml_RL_171 (c_X6_waiting l hD hI.1) dL_law_1497 rfl rfl hD.1.1 ⟨_, _, rfl⟩ (fun _ => Nat.le_of_ble_eq_true rfl) ⟨Nat.le_of_ble_eq_true rfl, Nat.le_of_ble_eq_true rfl⟩ hc (z_ri (fun r9 σ1 h1 => ?_)) (fun E9 σ1 hx => ?_)
  · obtain ⟨-, h9, hD1, hF⟩ := h1
    subst h9
    refine z_aload_n (i := 2) C dL_law_1500 rfl rfl ?_
    have hM1 := hM.mv (fun kk i h => hF kk i (by omega))
    refine z_callV C Y_X7_waiting V_X7_waiting ml_RL_174 (c_X7_waiting l hM1 hI.1) dL_law_1501 rfl rfl hM1.1 ⟨_, _, rfl⟩ (fun _ => Nat.le_of_ble_eq_true rfl) ⟨Nat.le_of_ble_eq_true rfl, Nat.le_of_ble_eq_true rfl⟩ hc (z_ri (fun r8 σ2 h2 => ?_)) (z_nx)
    obtain ⟨hF2, ⟨-, h8, hM2⟩ | ⟨h8, -⟩⟩ := h2
    · subst h8
      refine z_icmp_eq (tgt := 1733) C dL_law_1504 (by decide) (fun _ => ?_) (fun h => absurd rfl h)
      exact kk _ _ σ2 ⟨hI.u31, (hD1.ag (fun kk i h1 h2 _ => hF2 kk i h1 h2)).u31, hM2, f0, (hF2 14 0 (by decide) (by decide)).trans ((hF 14 0 (by omega)).trans h14)⟩
  
    · exact absurd rfl h8

  · obtain ⟨-, hk⟩ := hx
    rcases hk with ⟨hk, -⟩ | ⟨hk, -⟩ | ⟨hk, -⟩ <;> exact absurd hk (by decide)
set_option maxRecDepth 100000 in
set_option maxHeartbeats 4000000 in
theorem lw_c21 (K : LwC X p l s m b meth c n xs) {x : Nat → Int32} {a : Nat → Nat → Int32} {i : Nat} (hS : lwS x a σ) (hi : i + 6 ≤ n) (hc : cells + 10 ≤ 601024 ∧ slots + 200 ≤ 7293034) (kk : ∀ (x : Nat → Int32) (a : Nat → Nat → Int32) (σ : zHp), lwS x a σ → LwG X p l e s m b below meth c σ0 loc0 (cells + 10) (slots + 200) σ 1733 (lw_L b i) []) : LwG X p l e s m b below meth c σ0 loc0 cells slots σ 1509 (lw_L b i) [] := by
  have C := K.1
  obtain ⟨-, hX, hbl, hz, hn, -⟩ := id K
  obtain ⟨hI, hD, hM, f0, h14⟩ := hS
  refine z_aload_n (i := 1) C dL_law_1509 rfl rfl ?_
  refine z_arg C hX hbl hz (i := i) (j := 1) (by omega) hn (by decide) rfl rfl dL_law_1510 dL_law_1511 dL_law_1513 dL_law_1514 dL_law_1515 ?_
  refine z_aload_n (i := 3) C dL_law_1516 rfl rfl ?_
  refine z_callSX C Y_L_forecast sm_yL_forecast ml_RL_175 (c_L_forecast l hD hI h14) dL_law_1517 rfl rfl (fun _ => Nat.le_of_ble_eq_true rfl) ⟨Nat.le_of_ble_eq_true rfl, Nat.le_of_ble_eq_true rfl⟩ hc (z_ri (fun r9 σ1 h1 => ?_)) z_nx
  refine z_istore C dL_law_1520 (by decide) ?_
  have e9 := h1.1
  subst e9
  have hM1 := hM.mv h1.2.1
  refine z_aload_n (i := 2) C dL_law_1522 rfl rfl ?_
  refine z_arg C hX hbl hz (i := i) (j := 1) (by omega) hn (by decide) rfl rfl dL_law_1523 dL_law_1524 dL_law_1526 dL_law_1527 dL_law_1528 ?_
  refine z_callV C Y_X7_forecast V_X7_forecast ml_RL_177 (c_X7_forecast l hM1 hI.1) dL_law_1529 rfl rfl hM1.1 ⟨_, _, rfl⟩ (fun _ => Nat.le_of_ble_eq_true rfl) ⟨Nat.le_of_ble_eq_true rfl, Nat.le_of_ble_eq_true rfl⟩ hc (z_ri (fun r8 σ2 h2 => ?_)) (z_nx)
  obtain ⟨x2, a2, f2, hM2, hD2, hI2, h31, h142, hv⟩ := lw_mid h1 h2 hI (ik_forecast hI)
  exact lw_tail K hM2 hD2 hI2 h31 h142 (fun h => hv h trivial) dL_law_1532 dL_law_1534 dL_law_1535 dL_law_1538 dL_law_1540 dL_law_1545 dL_law_1547 dL_law_1550 dL_law_1551 dL_law_1552 dL_law_1553 dL_law_1555 dL_law_1556 dL_law_1557 dL_law_1562 (by decide) hc kk
set_option maxRecDepth 100000 in
set_option maxHeartbeats 4000000 in
theorem lw_c22 (K : LwC X p l s m b meth c n xs) {x : Nat → Int32} {a : Nat → Nat → Int32} {i : Nat} (hS : lwS x a σ) (hi : i + 6 ≤ n) (hc : cells + 10 ≤ 601024 ∧ slots + 200 ≤ 7293034) (kk : ∀ (x : Nat → Int32) (a : Nat → Nat → Int32) (σ : zHp), lwS x a σ → LwG X p l e s m b below meth c σ0 loc0 (cells + 10) (slots + 200) σ 1733 (lw_L b i) []) : LwG X p l e s m b below meth c σ0 loc0 cells slots σ 1565 (lw_L b i) [] := by
  have C := K.1
  obtain ⟨-, hX, hbl, hz, hn, -⟩ := id K
  obtain ⟨hI, hD, hM, f0, h14⟩ := hS
  refine z_aload_n (i := 1) C dL_law_1565 rfl rfl ?_
  refine z_arg C hX hbl hz (i := i) (j := 1) (by omega) hn (by decide) rfl rfl dL_law_1566 dL_law_1567 dL_law_1569 dL_law_1570 dL_law_1571 ?_
  refine z_aload_n (i := 3) C dL_law_1572 rfl rfl ?_
  refine z_callSX C Y_L_own sm_yL_own ml_RL_178 (c_L_own l hD hI h14) dL_law_1573 rfl rfl (fun _ => Nat.le_of_ble_eq_true rfl) ⟨Nat.le_of_ble_eq_true rfl, Nat.le_of_ble_eq_true rfl⟩ hc (z_ri (fun r9 σ1 h1 => ?_)) z_nx
  refine z_istore C dL_law_1576 (by decide) ?_
  have e9 := h1.1
  subst e9
  have hM1 := hM.mv h1.2.1
  refine z_aload_n (i := 2) C dL_law_1578 rfl rfl ?_
  refine z_arg C hX hbl hz (i := i) (j := 1) (by omega) hn (by decide) rfl rfl dL_law_1579 dL_law_1580 dL_law_1582 dL_law_1583 dL_law_1584 ?_
  refine z_callV C Y_X7_own V_X7_own ml_RL_180 (c_X7_own l hM1 hI.1) dL_law_1585 rfl rfl hM1.1 ⟨_, _, rfl⟩ (fun _ => Nat.le_of_ble_eq_true rfl) ⟨Nat.le_of_ble_eq_true rfl, Nat.le_of_ble_eq_true rfl⟩ hc (z_ri (fun r8 σ2 h2 => ?_)) (z_nx)
  obtain ⟨x2, a2, f2, hM2, hD2, hI2, h31, h142, hv⟩ := lw_mid h1 h2 hI (ik_own hI)
  exact lw_tail K hM2 hD2 hI2 h31 h142 (fun h => hv h trivial) dL_law_1588 dL_law_1590 dL_law_1591 dL_law_1594 dL_law_1596 dL_law_1601 dL_law_1603 dL_law_1606 dL_law_1607 dL_law_1608 dL_law_1609 dL_law_1611 dL_law_1612 dL_law_1613 dL_law_1618 (by decide) hc kk
set_option maxRecDepth 100000 in
set_option maxHeartbeats 4000000 in
theorem lw_c23 (K : LwC X p l s m b meth c n xs) {x : Nat → Int32} {a : Nat → Nat → Int32} {i : Nat} (hS : lwS x a σ) (hi : i + 6 ≤ n) (hc : cells + 10 ≤ 601024 ∧ slots + 200 ≤ 7293034) (kk : ∀ (x : Nat → Int32) (a : Nat → Nat → Int32) (σ : zHp), lwS x a σ → LwG X p l e s m b below meth c σ0 loc0 (cells + 10) (slots + 200) σ 1733 (lw_L b i) []) : LwG X p l e s m b below meth c σ0 loc0 cells slots σ 1621 (lw_L b i) [] := by
  have C := K.1
  obtain ⟨-, hX, hbl, hz, hn, -⟩ := id K
  obtain ⟨hI, hD, hM, f0, h14⟩ := hS
  refine z_aload_n (i := 1) C dL_law_1621 rfl rfl ?_
  refine z_aload_n (i := 3) C dL_law_1622 rfl rfl ?_
  refine z_callSX C Y_L_freeze sm_yL_freeze ml_RL_181 (c_L_freeze l hD hI h14) dL_law_1623 rfl rfl (fun _ => Nat.le_of_ble_eq_true rfl) ⟨Nat.le_of_ble_eq_true rfl, Nat.le_of_ble_eq_true rfl⟩ hc (z_ri (fun r9 σ1 h1 => ?_)) z_nx
  refine z_istore C dL_law_1626 (by decide) ?_
  have e9 := h1.1
  subst e9
  have hM1 := hM.mv h1.2.1
  refine z_aload_n (i := 2) C dL_law_1628 rfl rfl ?_
  refine z_callV C Y_X7_freeze V_X7_freeze ml_RL_184 (c_X7_freeze l hM1 hI.1) dL_law_1629 rfl rfl hM1.1 ⟨_, _, rfl⟩ (fun _ => Nat.le_of_ble_eq_true rfl) ⟨Nat.le_of_ble_eq_true rfl, Nat.le_of_ble_eq_true rfl⟩ hc (z_ri (fun r8 σ2 h2 => ?_)) (z_nx)
  obtain ⟨x2, a2, f2, hM2, hD2, hI2, h31, h142, hv⟩ := lw_mid h1 h2 hI (ik_freeze hI)
  exact lw_tail K hM2 hD2 hI2 h31 h142 (fun h => hv h trivial) dL_law_1632 dL_law_1634 dL_law_1635 dL_law_1638 dL_law_1640 dL_law_1645 dL_law_1647 dL_law_1650 dL_law_1651 dL_law_1652 dL_law_1653 dL_law_1655 dL_law_1656 dL_law_1657 dL_law_1662 (by decide) hc kk
set_option maxRecDepth 100000 in
set_option maxHeartbeats 4000000 in
theorem lw_c24 (K : LwC X p l s m b meth c n xs) {x : Nat → Int32} {a : Nat → Nat → Int32} {i : Nat} (hS : lwS x a σ) (hi : i + 6 ≤ n) (hc : cells + 10 ≤ 601024 ∧ slots + 200 ≤ 7293034) (kk : ∀ (x : Nat → Int32) (a : Nat → Nat → Int32) (σ : zHp), lwS x a σ → LwG X p l e s m b below meth c σ0 loc0 (cells + 10) (slots + 200) σ 1733 (lw_L b i) []) : LwG X p l e s m b below meth c σ0 loc0 cells slots σ 1665 (lw_L b i) [] := by
  have C := K.1
  obtain ⟨-, hX, hbl, hz, hn, -⟩ := id K
  obtain ⟨hI, hD, hM, f0, h14⟩ := hS
  refine z_aload_n (i := 1) C dL_law_1665 rfl rfl ?_
  refine z_arg C hX hbl hz (i := i) (j := 1) (by omega) hn (by decide) rfl rfl dL_law_1666 dL_law_1667 dL_law_1669 dL_law_1670 dL_law_1671 ?_
  refine z_arg C hX hbl hz (i := i) (j := 2) (by omega) hn (by decide) rfl rfl dL_law_1672 dL_law_1673 dL_law_1675 dL_law_1676 dL_law_1677 ?_
  refine z_aload_n (i := 3) C dL_law_1678 rfl rfl ?_
  refine z_callSX C Y_L_since sm_yL_since ml_RL_185 (c_L_since l hD hI h14) dL_law_1679 rfl rfl (fun _ => Nat.le_of_ble_eq_true rfl) ⟨Nat.le_of_ble_eq_true rfl, Nat.le_of_ble_eq_true rfl⟩ hc (z_ri (fun r9 σ1 h1 => ?_)) z_nx
  refine z_istore C dL_law_1682 (by decide) ?_
  have e9 := h1.1
  subst e9
  have hM1 := hM.mv h1.2.1
  refine z_aload_n (i := 2) C dL_law_1684 rfl rfl ?_
  refine z_arg C hX hbl hz (i := i) (j := 1) (by omega) hn (by decide) rfl rfl dL_law_1685 dL_law_1686 dL_law_1688 dL_law_1689 dL_law_1690 ?_
  refine z_arg C hX hbl hz (i := i) (j := 2) (by omega) hn (by decide) rfl rfl dL_law_1691 dL_law_1692 dL_law_1694 dL_law_1695 dL_law_1696 ?_
  refine z_callV C Y_X7_since V_X7_since ml_RL_187 (c_X7_since l hM1 hI.1) dL_law_1697 rfl rfl hM1.1 ⟨_, _, rfl⟩ (fun _ => Nat.le_of_ble_eq_true rfl) ⟨Nat.le_of_ble_eq_true rfl, Nat.le_of_ble_eq_true rfl⟩ hc (z_ri (fun r8 σ2 h2 => ?_)) (z_nx)
  obtain ⟨x2, a2, f2, hM2, hD2, hI2, h31, h142, hv⟩ := lw_mid h1 h2 hI (ik_since hI)
  exact lw_tail K hM2 hD2 hI2 h31 h142 (fun h => hv h trivial) dL_law_1700 dL_law_1702 dL_law_1703 dL_law_1706 dL_law_1708 dL_law_1713 dL_law_1715 dL_law_1718 dL_law_1719 dL_law_1720 dL_law_1721 dL_law_1723 dL_law_1724 dL_law_1725 dL_law_1730 (by decide) hc kk
end ZLC
