set_option maxRecDepth 100000 in
set_option maxHeartbeats 4000000 in
theorem law_sheet {g : GT} {kc ks : Nat} (hk : kc ≤ 600000 ∧ ks ≤ 7302250) (hN : gN g < 2 ^ 31) (M : TM) (hI : Iv M) (p : Nat) (hp : p + 6 ≤ gN g) (hih : ∀ M2, Iv M2 → TR g room_1 RL cL_law 4 ret kc ks (ZL g) 1576 [some (.ref (gad g 52 0)), some (.ref (gad g 5 0)), some (.ref (gad g 6 0)), some (.int (nI p))] [] M2) : TR g room_1 RL cL_law 4 ret kc ks (ZL g) 1144 [some (.ref (gad g 52 0)), some (.ref (gad g 5 0)), some (.ref (gad g 6 0)), some (.int (nI p))] [] M := by
  obtain ⟨hA, hB, hC, hD, hE, hF⟩ := id hI
  obtain ⟨hW, hR, hT⟩ := id hA
  obtain ⟨tp, h96, et⟩ := id hE.2.2.1
  obtain ⟨w, h60, ew⟩ := id hF.2.2
  refine q_aload_n 1145 dL_law_1144 rfl rfl ?_
  refine q_aload_n 1146 dL_law_1145 rfl rfl ?_
  refine q_iload_n 1147 dL_law_1146 rfl rfl ?_
  refine q_iconst (v := 1) 1148 dL_law_1147 rfl rfl ?_
  refine q_iadd 1149 dL_law_1148 rfl ?_
  refine q_sald 1150 dL_law_1149 rfl (nI_add p 1) (show p + 1 < gN g by omega) hN ?_
  refine q_aload_n 1151 dL_law_1150 rfl rfl ?_
  refine q_iload_n 1152 dL_law_1151 rfl rfl ?_
  refine q_iconst (v := 2) 1153 dL_law_1152 rfl rfl ?_
  refine q_iadd 1154 dL_law_1153 rfl ?_
  refine q_sald 1155 dL_law_1154 rfl (nI_add p 2) (show p + 2 < gN g by omega) hN ?_
  refine q_aload_n 1156 dL_law_1155 rfl rfl ?_
  refine q_iload_n 1157 dL_law_1156 rfl rfl ?_
  refine q_iconst (v := 3) 1158 dL_law_1157 rfl rfl ?_
  refine q_iadd 1159 dL_law_1158 rfl ?_
  refine q_sald 1160 dL_law_1159 rfl (nI_add p 3) (show p + 3 < gN g by omega) hN ?_
  refine q_callV 1163 dL_law_1160 rfl (c5_sheet M _ _ _) cw_L_138 (by decide) rfl rfl ⟨by decide, by decide⟩ hk (Nat.le_of_ble_eq_true rfl) ?_
  rintro _ M1 ⟨rfl, m1⟩
  refine q_aload_n 1164 dL_law_1163 rfl rfl ?_
  refine q_aload_n 1165 dL_law_1164 rfl rfl ?_
  refine q_iload_n 1166 dL_law_1165 rfl rfl ?_
  refine q_iconst (v := 1) 1167 dL_law_1166 rfl rfl ?_
  refine q_iadd 1168 dL_law_1167 rfl ?_
  refine q_sald 1169 dL_law_1168 rfl (nI_add p 1) (show p + 1 < gN g by omega) hN ?_
  refine q_aload_n 1170 dL_law_1169 rfl rfl ?_
  refine q_iload_n 1171 dL_law_1170 rfl rfl ?_
  refine q_iconst (v := 2) 1172 dL_law_1171 rfl rfl ?_
  refine q_iadd 1173 dL_law_1172 rfl ?_
  refine q_sald 1174 dL_law_1173 rfl (nI_add p 2) (show p + 2 < gN g by omega) hN ?_
  refine q_aload_n 1175 dL_law_1174 rfl rfl ?_
  refine q_iload_n 1176 dL_law_1175 rfl rfl ?_
  refine q_iconst (v := 3) 1177 dL_law_1176 rfl rfl ?_
  refine q_iadd 1178 dL_law_1177 rfl ?_
  refine q_sald 1179 dL_law_1178 rfl (nI_add p 3) (show p + 3 < gN g by omega) hN ?_
  refine q_callV 1182 dL_law_1179 rfl (c6_sheet M1 _ _ _) cw_L_141 (by decide) rfl rfl ⟨by decide, by decide⟩ hk (Nat.le_of_ble_eq_true rfl) ?_
  rintro _ M2 ⟨rfl, m2⟩
  refine q_icmp_eq 1576 1185 dL_law_1182 rfl rfl (fun _ => ?_) (fun h_1182 => absurd rfl h_1182)
  exact hih _ (l_sheet hI m1 m2)
set_option maxRecDepth 100000 in
set_option maxHeartbeats 4000000 in
theorem law_mark {g : GT} {kc ks : Nat} (hk : kc ≤ 600000 ∧ ks ≤ 7302250) (hN : gN g < 2 ^ 31) (M : TM) (hI : Iv M) (p : Nat) (hp : p + 6 ≤ gN g) (hih : ∀ M2, Iv M2 → TR g room_1 RL cL_law 4 ret kc ks (ZL g) 1576 [some (.ref (gad g 52 0)), some (.ref (gad g 5 0)), some (.ref (gad g 6 0)), some (.int (nI p))] [] M2) : TR g room_1 RL cL_law 4 ret kc ks (ZL g) 1187 [some (.ref (gad g 52 0)), some (.ref (gad g 5 0)), some (.ref (gad g 6 0)), some (.int (nI p))] [] M := by
  obtain ⟨hA, hB, hC, hD, hE, hF⟩ := id hI
  obtain ⟨hW, hR, hT⟩ := id hA
  obtain ⟨tp, h96, et⟩ := id hE.2.2.1
  obtain ⟨w, h60, ew⟩ := id hF.2.2
  refine q_aload_n 1188 dL_law_1187 rfl rfl ?_
  refine q_aload_n 1189 dL_law_1188 rfl rfl ?_
  refine q_iload_n 1190 dL_law_1189 rfl rfl ?_
  refine q_iconst (v := 1) 1191 dL_law_1190 rfl rfl ?_
  refine q_iadd 1192 dL_law_1191 rfl ?_
  refine q_sald 1193 dL_law_1192 rfl (nI_add p 1) (show p + 1 < gN g by omega) hN ?_
  refine q_aload_n 1194 dL_law_1193 rfl rfl ?_
  refine q_iload_n 1195 dL_law_1194 rfl rfl ?_
  refine q_iconst (v := 2) 1196 dL_law_1195 rfl rfl ?_
  refine q_iadd 1197 dL_law_1196 rfl ?_
  refine q_sald 1198 dL_law_1197 rfl (nI_add p 2) (show p + 2 < gN g by omega) hN ?_
  refine q_aload_n 1199 dL_law_1198 rfl rfl ?_
  refine q_iload_n 1200 dL_law_1199 rfl rfl ?_
  refine q_iconst (v := 3) 1201 dL_law_1200 rfl rfl ?_
  refine q_iadd 1202 dL_law_1201 rfl ?_
  refine q_sald 1203 dL_law_1202 rfl (nI_add p 3) (show p + 3 < gN g by omega) hN ?_
  refine q_callV 1206 dL_law_1203 rfl (c5_mark M _ _ _ hC.1) cw_L_142 (by decide) rfl rfl ⟨by decide, by decide⟩ hk (Nat.le_of_ble_eq_true rfl) ?_
  rintro _ M1 ⟨rfl, m1z⟩
  subst m1z
  refine q_aload_n 1207 dL_law_1206 rfl rfl ?_
  refine q_aload_n 1208 dL_law_1207 rfl rfl ?_
  refine q_iload_n 1209 dL_law_1208 rfl rfl ?_
  refine q_iconst (v := 1) 1210 dL_law_1209 rfl rfl ?_
  refine q_iadd 1211 dL_law_1210 rfl ?_
  refine q_sald 1212 dL_law_1211 rfl (nI_add p 1) (show p + 1 < gN g by omega) hN ?_
  refine q_aload_n 1213 dL_law_1212 rfl rfl ?_
  refine q_iload_n 1214 dL_law_1213 rfl rfl ?_
  refine q_iconst (v := 2) 1215 dL_law_1214 rfl rfl ?_
  refine q_iadd 1216 dL_law_1215 rfl ?_
  refine q_sald 1217 dL_law_1216 rfl (nI_add p 2) (show p + 2 < gN g by omega) hN ?_
  refine q_aload_n 1218 dL_law_1217 rfl rfl ?_
  refine q_iload_n 1219 dL_law_1218 rfl rfl ?_
  refine q_iconst (v := 3) 1220 dL_law_1219 rfl rfl ?_
  refine q_iadd 1221 dL_law_1220 rfl ?_
  refine q_sald 1222 dL_law_1221 rfl (nI_add p 3) (show p + 3 < gN g by omega) hN ?_
  refine q_callV 1225 dL_law_1222 rfl (c6_mark _ _ _ _ (WS6_f hC.ws6 (mk5_f 34 0 (by decide)) (mk5_f 35 0 (by decide)))) cw_L_145 (by decide) rfl rfl ⟨by decide, by decide⟩ hk (Nat.le_of_ble_eq_true rfl) ?_
  rintro _ M2 ⟨rfl, m2⟩
  refine q_icmp_eq 1576 1228 dL_law_1225 rfl rfl (fun _ => ?_) (fun h_1225 => absurd (a_mark hI) h_1225)
  exact hih _ (l_mark hI rfl m2)
set_option maxRecDepth 100000 in
set_option maxHeartbeats 4000000 in
theorem law_pour {g : GT} {kc ks : Nat} (hk : kc ≤ 600000 ∧ ks ≤ 7302250) (hN : gN g < 2 ^ 31) (M : TM) (hI : Iv M) (p : Nat) (hp : p + 6 ≤ gN g) (hih : ∀ M2, Iv M2 → TR g room_1 RL cL_law 4 ret kc ks (ZL g) 1576 [some (.ref (gad g 52 0)), some (.ref (gad g 5 0)), some (.ref (gad g 6 0)), some (.int (nI p))] [] M2) : TR g room_1 RL cL_law 4 ret kc ks (ZL g) 1230 [some (.ref (gad g 52 0)), some (.ref (gad g 5 0)), some (.ref (gad g 6 0)), some (.int (nI p))] [] M := by
  obtain ⟨hA, hB, hC, hD, hE, hF⟩ := id hI
  obtain ⟨hW, hR, hT⟩ := id hA
  obtain ⟨tp, h96, et⟩ := id hE.2.2.1
  obtain ⟨w, h60, ew⟩ := id hF.2.2
  refine q_aload_n 1231 dL_law_1230 rfl rfl ?_
  refine q_aload_n 1232 dL_law_1231 rfl rfl ?_
  refine q_iload_n 1233 dL_law_1232 rfl rfl ?_
  refine q_iconst (v := 1) 1234 dL_law_1233 rfl rfl ?_
  refine q_iadd 1235 dL_law_1234 rfl ?_
  refine q_sald 1236 dL_law_1235 rfl (nI_add p 1) (show p + 1 < gN g by omega) hN ?_
  refine q_callV 1239 dL_law_1236 rfl (c5_pour M _ hC.1 (M 31 0) hR hW hT) cw_L_146 (by decide) rfl rfl ⟨by decide, by decide⟩ hk (Nat.le_of_ble_eq_true rfl) ?_
  rintro _ M1 ⟨rfl, k1, hR1⟩
  have e31 : M1 31 0 = M 31 0 := k1 31 0 (by decide) (by decide)
  have e34 : M1 34 0 = M 34 0 := k1 34 0 (by decide) (by decide)
  have e35 : M1 35 0 = M 35 0 := k1 35 0 (by decide) (by decide)
  have e36 : M1 36 0 = M 36 0 := k1 36 0 (by decide) (by decide)
  refine q_aload_n 1240 dL_law_1239 rfl rfl ?_
  refine q_aload_n 1241 dL_law_1240 rfl rfl ?_
  refine q_iload_n 1242 dL_law_1241 rfl rfl ?_
  refine q_iconst (v := 1) 1243 dL_law_1242 rfl rfl ?_
  refine q_iadd 1244 dL_law_1243 rfl ?_
  refine q_sald 1245 dL_law_1244 rfl (nI_add p 1) (show p + 1 < gN g by omega) hN ?_
  refine q_callV 1248 dL_law_1245 rfl (c6_pour M1 _ (WS6_f hC.ws6 e34 e35) (M 31 0) e31 hW.1.1 hW.1.2) cw_L_149 (by decide) rfl rfl ⟨by decide, by decide⟩ hk (Nat.le_of_ble_eq_true rfl) ?_
  rintro _ M2 ⟨rfl, rfl⟩
  refine q_icmp_eq 1576 1251 dL_law_1248 rfl rfl (fun _ => ?_) (fun h_1248 => absurd (a_pour hI e34 e35 e36 _).1 h_1248)
  exact hih _ (by rw [← (a_pour hI e34 e35 e36 _).2]; exact Iv_pa hI k1 hR1 (by split; exact k_pour hW _ _ _; exact Sok.rf hW))
set_option maxRecDepth 100000 in
set_option maxHeartbeats 4000000 in
theorem law_reads {g : GT} {kc ks : Nat} (hk : kc ≤ 600000 ∧ ks ≤ 7302250) (hN : gN g < 2 ^ 31) (M : TM) (hI : Iv M) (p : Nat) (hp : p + 6 ≤ gN g) (hih : ∀ M2, Iv M2 → TR g room_1 RL cL_law 4 ret kc ks (ZL g) 1576 [some (.ref (gad g 52 0)), some (.ref (gad g 5 0)), some (.ref (gad g 6 0)), some (.int (nI p))] [] M2) : TR g room_1 RL cL_law 4 ret kc ks (ZL g) 1253 [some (.ref (gad g 52 0)), some (.ref (gad g 5 0)), some (.ref (gad g 6 0)), some (.int (nI p))] [] M := by
  obtain ⟨hA, hB, hC, hD, hE, hF⟩ := id hI
  obtain ⟨hW, hR, hT⟩ := id hA
  obtain ⟨tp, h96, et⟩ := id hE.2.2.1
  obtain ⟨w, h60, ew⟩ := id hF.2.2
  refine q_aload_n 1254 dL_law_1253 rfl rfl ?_
  refine q_aload_n 1255 dL_law_1254 rfl rfl ?_
  refine q_iload_n 1256 dL_law_1255 rfl rfl ?_
  refine q_iconst (v := 1) 1257 dL_law_1256 rfl rfl ?_
  refine q_iadd 1258 dL_law_1257 rfl ?_
  refine q_sald 1259 dL_law_1258 rfl (nI_add p 1) (show p + 1 < gN g by omega) hN ?_
  refine q_callV 1262 dL_law_1259 rfl (c5_reads M _ hC.1 (M 31 0) hR hW hT) cw_L_150 (by decide) rfl rfl ⟨by decide, by decide⟩ hk (Nat.le_of_ble_eq_true rfl) ?_
  rintro _ M1 ⟨rfl, m1z⟩
  subst M1
  refine q_aload_n 1263 dL_law_1262 rfl rfl ?_
  refine q_aload_n 1264 dL_law_1263 rfl rfl ?_
  refine q_iload_n 1265 dL_law_1264 rfl rfl ?_
  refine q_iconst (v := 1) 1266 dL_law_1265 rfl rfl ?_
  refine q_iadd 1267 dL_law_1266 rfl ?_
  refine q_sald 1268 dL_law_1267 rfl (nI_add p 1) (show p + 1 < gN g by omega) hN ?_
  refine q_callV 1271 dL_law_1268 rfl (c6_reads M _ hC.ws6 (M 31 0) rfl hW.1.1 hW.1.2) cw_L_153 (by decide) rfl rfl ⟨by decide, by decide⟩ hk (Nat.le_of_ble_eq_true rfl) ?_
  rintro _ M2 ⟨rfl, rfl⟩
  refine q_icmp_eq 1576 1274 dL_law_1271 rfl rfl (fun _ => ?_) (fun h_1271 => absurd (a_reads hI _) h_1271)
  exact hih _ hI
set_option maxRecDepth 100000 in
set_option maxHeartbeats 4000000 in
theorem law_copy {g : GT} {kc ks : Nat} (hk : kc ≤ 600000 ∧ ks ≤ 7302250) (hN : gN g < 2 ^ 31) (M : TM) (hI : Iv M) (p : Nat) (hp : p + 6 ≤ gN g) (hih : ∀ M2, Iv M2 → TR g room_1 RL cL_law 4 ret kc ks (ZL g) 1576 [some (.ref (gad g 52 0)), some (.ref (gad g 5 0)), some (.ref (gad g 6 0)), some (.int (nI p))] [] M2) : TR g room_1 RL cL_law 4 ret kc ks (ZL g) 1276 [some (.ref (gad g 52 0)), some (.ref (gad g 5 0)), some (.ref (gad g 6 0)), some (.int (nI p))] [] M := by
  obtain ⟨hA, hB, hC, hD, hE, hF⟩ := id hI
  obtain ⟨hW, hR, hT⟩ := id hA
  obtain ⟨tp, h96, et⟩ := id hE.2.2.1
  obtain ⟨w, h60, ew⟩ := id hF.2.2
  refine q_aload_n 1277 dL_law_1276 rfl rfl ?_
  refine q_aload_n 1278 dL_law_1277 rfl rfl ?_
  refine q_iload_n 1279 dL_law_1278 rfl rfl ?_
  refine q_iconst (v := 1) 1280 dL_law_1279 rfl rfl ?_
  refine q_iadd 1281 dL_law_1280 rfl ?_
  refine q_sald 1282 dL_law_1281 rfl (nI_add p 1) (show p + 1 < gN g by omega) hN ?_
  refine q_aload_n 1283 dL_law_1282 rfl rfl ?_
  refine q_iload_n 1284 dL_law_1283 rfl rfl ?_
  refine q_iconst (v := 2) 1285 dL_law_1284 rfl rfl ?_
  refine q_iadd 1286 dL_law_1285 rfl ?_
  refine q_sald 1287 dL_law_1286 rfl (nI_add p 2) (show p + 2 < gN g by omega) hN ?_
  refine q_aload_n 1288 dL_law_1287 rfl rfl ?_
  refine q_iload_n 1289 dL_law_1288 rfl rfl ?_
  refine q_iconst (v := 3) 1290 dL_law_1289 rfl rfl ?_
  refine q_iadd 1291 dL_law_1290 rfl ?_
  refine q_sald 1292 dL_law_1291 rfl (nI_add p 3) (show p + 3 < gN g by omega) hN ?_
  refine q_aload_n 1293 dL_law_1292 rfl rfl ?_
  refine q_iload_n 1294 dL_law_1293 rfl rfl ?_
  refine q_iconst (v := 4) 1295 dL_law_1294 rfl rfl ?_
  refine q_iadd 1296 dL_law_1295 rfl ?_
  refine q_sald 1297 dL_law_1296 rfl (nI_add p 4) (show p + 4 < gN g by omega) hN ?_
  refine q_aload_n 1298 dL_law_1297 rfl rfl ?_
  refine q_iload_n 1299 dL_law_1298 rfl rfl ?_
  refine q_iconst (v := 5) 1300 dL_law_1299 rfl rfl ?_
  refine q_iadd 1301 dL_law_1300 rfl ?_
  refine q_sald 1302 dL_law_1301 rfl (nI_add p 5) (show p + 5 < gN g by omega) hN ?_
  refine q_callV 1305 dL_law_1302 rfl (c5_copy M _ _ _ _ _ hC.1) cw_L_154 (by decide) rfl rfl ⟨by decide, by decide⟩ hk (Nat.le_of_ble_eq_true rfl) ?_
  rintro _ M1 ⟨rfl, m1z⟩
  subst m1z
  refine q_aload_n 1306 dL_law_1305 rfl rfl ?_
  refine q_aload_n 1307 dL_law_1306 rfl rfl ?_
  refine q_iload_n 1308 dL_law_1307 rfl rfl ?_
  refine q_iconst (v := 1) 1309 dL_law_1308 rfl rfl ?_
  refine q_iadd 1310 dL_law_1309 rfl ?_
  refine q_sald 1311 dL_law_1310 rfl (nI_add p 1) (show p + 1 < gN g by omega) hN ?_
  refine q_aload_n 1312 dL_law_1311 rfl rfl ?_
  refine q_iload_n 1313 dL_law_1312 rfl rfl ?_
  refine q_iconst (v := 2) 1314 dL_law_1313 rfl rfl ?_
  refine q_iadd 1315 dL_law_1314 rfl ?_
  refine q_sald 1316 dL_law_1315 rfl (nI_add p 2) (show p + 2 < gN g by omega) hN ?_
  refine q_aload_n 1317 dL_law_1316 rfl rfl ?_
  refine q_iload_n 1318 dL_law_1317 rfl rfl ?_
  refine q_iconst (v := 3) 1319 dL_law_1318 rfl rfl ?_
  refine q_iadd 1320 dL_law_1319 rfl ?_
  refine q_sald 1321 dL_law_1320 rfl (nI_add p 3) (show p + 3 < gN g by omega) hN ?_
  refine q_aload_n 1322 dL_law_1321 rfl rfl ?_
  refine q_iload_n 1323 dL_law_1322 rfl rfl ?_
  refine q_iconst (v := 4) 1324 dL_law_1323 rfl rfl ?_
  refine q_iadd 1325 dL_law_1324 rfl ?_
  refine q_sald 1326 dL_law_1325 rfl (nI_add p 4) (show p + 4 < gN g by omega) hN ?_
  refine q_aload_n 1327 dL_law_1326 rfl rfl ?_
  refine q_iload_n 1328 dL_law_1327 rfl rfl ?_
  refine q_iconst (v := 5) 1329 dL_law_1328 rfl rfl ?_
  refine q_iadd 1330 dL_law_1329 rfl ?_
  refine q_sald 1331 dL_law_1330 rfl (nI_add p 5) (show p + 5 < gN g by omega) hN ?_
  refine q_callV 1334 dL_law_1331 rfl (c6_copy _ _ _ _ _ _ (WS6_f hC.ws6 (cp5_f 34 0 (by decide)) (cp5_f 35 0 (by decide)))) cw_L_158 (by decide) rfl rfl ⟨by decide, by decide⟩ hk (Nat.le_of_ble_eq_true rfl) ?_
  rintro _ M2 ⟨rfl, m2⟩
  refine q_icmp_eq 1576 1337 dL_law_1334 rfl rfl (fun _ => ?_) (fun h_1334 => absurd (a_copy hI) h_1334)
  exact hih _ (l_copy hI m2)
set_option maxRecDepth 100000 in
set_option maxHeartbeats 4000000 in
theorem law_lay {g : GT} {kc ks : Nat} (hk : kc ≤ 600000 ∧ ks ≤ 7302250) (hN : gN g < 2 ^ 31) (M : TM) (hI : Iv M) (p : Nat) (hp : p + 6 ≤ gN g) (hih : ∀ M2, Iv M2 → TR g room_1 RL cL_law 4 ret kc ks (ZL g) 1576 [some (.ref (gad g 52 0)), some (.ref (gad g 5 0)), some (.ref (gad g 6 0)), some (.int (nI p))] [] M2) : TR g room_1 RL cL_law 4 ret kc ks (ZL g) 1339 [some (.ref (gad g 52 0)), some (.ref (gad g 5 0)), some (.ref (gad g 6 0)), some (.int (nI p))] [] M := by
  obtain ⟨hA, hB, hC, hD, hE, hF⟩ := id hI
  obtain ⟨hW, hR, hT⟩ := id hA
  obtain ⟨tp, h96, et⟩ := id hE.2.2.1
  obtain ⟨w, h60, ew⟩ := id hF.2.2
  refine q_aload_n 1340 dL_law_1339 rfl rfl ?_
  refine q_aload_n 1341 dL_law_1340 rfl rfl ?_
  refine q_iload_n 1342 dL_law_1341 rfl rfl ?_
  refine q_iconst (v := 1) 1343 dL_law_1342 rfl rfl ?_
  refine q_iadd 1344 dL_law_1343 rfl ?_
  refine q_sald 1345 dL_law_1344 rfl (nI_add p 1) (show p + 1 < gN g by omega) hN ?_
  refine q_aload_n 1346 dL_law_1345 rfl rfl ?_
  refine q_iload_n 1347 dL_law_1346 rfl rfl ?_
  refine q_iconst (v := 2) 1348 dL_law_1347 rfl rfl ?_
  refine q_iadd 1349 dL_law_1348 rfl ?_
  refine q_sald 1350 dL_law_1349 rfl (nI_add p 2) (show p + 2 < gN g by omega) hN ?_
  refine q_aload_n 1351 dL_law_1350 rfl rfl ?_
  refine q_iload_n 1352 dL_law_1351 rfl rfl ?_
  refine q_iconst (v := 3) 1353 dL_law_1352 rfl rfl ?_
  refine q_iadd 1354 dL_law_1353 rfl ?_
  refine q_sald 1355 dL_law_1354 rfl (nI_add p 3) (show p + 3 < gN g by omega) hN ?_
  refine q_callV 1358 dL_law_1355 rfl (c5_lay M _ _ _ hC.1 (M 31 0) hR hW hT) cw_L_159 (by decide) rfl rfl ⟨by decide, by decide⟩ hk (Nat.le_of_ble_eq_true rfl) ?_
  rintro _ M1 ⟨rfl, m1⟩
  have e31 : M1 31 0 = M 31 0 := by rw [m1]; exact ly5_31 M _ _ _ _
  refine q_aload_n 1359 dL_law_1358 rfl rfl ?_
  refine q_aload_n 1360 dL_law_1359 rfl rfl ?_
  refine q_iload_n 1361 dL_law_1360 rfl rfl ?_
  refine q_iconst (v := 1) 1362 dL_law_1361 rfl rfl ?_
  refine q_iadd 1363 dL_law_1362 rfl ?_
  refine q_sald 1364 dL_law_1363 rfl (nI_add p 1) (show p + 1 < gN g by omega) hN ?_
  refine q_aload_n 1365 dL_law_1364 rfl rfl ?_
  refine q_iload_n 1366 dL_law_1365 rfl rfl ?_
  refine q_iconst (v := 2) 1367 dL_law_1366 rfl rfl ?_
  refine q_iadd 1368 dL_law_1367 rfl ?_
  refine q_sald 1369 dL_law_1368 rfl (nI_add p 2) (show p + 2 < gN g by omega) hN ?_
  refine q_aload_n 1370 dL_law_1369 rfl rfl ?_
  refine q_iload_n 1371 dL_law_1370 rfl rfl ?_
  refine q_iconst (v := 3) 1372 dL_law_1371 rfl rfl ?_
  refine q_iadd 1373 dL_law_1372 rfl ?_
  refine q_sald 1374 dL_law_1373 rfl (nI_add p 3) (show p + 3 < gN g by omega) hN ?_
  refine q_callV 1377 dL_law_1374 rfl (c6_lay M1 _ _ _ (M 31 0) e31 hW.1.1 hW.1.2) cw_L_162 (by decide) rfl rfl ⟨by decide, by decide⟩ hk (Nat.le_of_ble_eq_true rfl) ?_
  rintro _ M2 ⟨rfl, m2⟩
  refine q_icmp_eq 1576 1380 dL_law_1377 rfl rfl (fun _ => ?_) (fun h_1377 => absurd (by rw [m1]; exact a_lay hI _ _ _) h_1377)
  exact hih _ (by rw [m2, m1]; exact Iv_lay hI _ _ _)
set_option maxRecDepth 100000 in
set_option maxHeartbeats 4000000 in
theorem law_ask {g : GT} {kc ks : Nat} (hk : kc ≤ 600000 ∧ ks ≤ 7302250) (hN : gN g < 2 ^ 31) (M : TM) (hI : Iv M) (p : Nat) (hp : p + 6 ≤ gN g) (hih : ∀ M2, Iv M2 → TR g room_1 RL cL_law 4 ret kc ks (ZL g) 1576 [some (.ref (gad g 52 0)), some (.ref (gad g 5 0)), some (.ref (gad g 6 0)), some (.int (nI p))] [] M2) : TR g room_1 RL cL_law 4 ret kc ks (ZL g) 1382 [some (.ref (gad g 52 0)), some (.ref (gad g 5 0)), some (.ref (gad g 6 0)), some (.int (nI p))] [] M := by
  obtain ⟨hA, hB, hC, hD, hE, hF⟩ := id hI
  obtain ⟨hW, hR, hT⟩ := id hA
  obtain ⟨tp, h96, et⟩ := id hE.2.2.1
  obtain ⟨w, h60, ew⟩ := id hF.2.2
  refine q_aload_n 1383 dL_law_1382 rfl rfl ?_
  refine q_aload_n 1384 dL_law_1383 rfl rfl ?_
  refine q_iload_n 1385 dL_law_1384 rfl rfl ?_
  refine q_iconst (v := 1) 1386 dL_law_1385 rfl rfl ?_
  refine q_iadd 1387 dL_law_1386 rfl ?_
  refine q_sald 1388 dL_law_1387 rfl (nI_add p 1) (show p + 1 < gN g by omega) hN ?_
  refine q_aload_n 1389 dL_law_1388 rfl rfl ?_
  refine q_iload_n 1390 dL_law_1389 rfl rfl ?_
  refine q_iconst (v := 2) 1391 dL_law_1390 rfl rfl ?_
  refine q_iadd 1392 dL_law_1391 rfl ?_
  refine q_sald 1393 dL_law_1392 rfl (nI_add p 2) (show p + 2 < gN g by omega) hN ?_
  refine q_callV 1396 dL_law_1393 rfl (c5_ask M _ _ (fun j hj hz => ((hD j hj).2.1 ((hD j hj).1.symm.trans hz)).2.2)) cw_L_163 (by decide) rfl rfl ⟨by decide, by decide⟩ hk (Nat.le_of_ble_eq_true rfl) ?_
  rintro _ M1 ⟨rfl, m1z⟩
  subst M1
  refine q_aload_n 1397 dL_law_1396 rfl rfl ?_
  refine q_aload_n 1398 dL_law_1397 rfl rfl ?_
  refine q_iload_n 1399 dL_law_1398 rfl rfl ?_
  refine q_iconst (v := 1) 1400 dL_law_1399 rfl rfl ?_
  refine q_iadd 1401 dL_law_1400 rfl ?_
  refine q_sald 1402 dL_law_1401 rfl (nI_add p 1) (show p + 1 < gN g by omega) hN ?_
  refine q_aload_n 1403 dL_law_1402 rfl rfl ?_
  refine q_iload_n 1404 dL_law_1403 rfl rfl ?_
  refine q_iconst (v := 2) 1405 dL_law_1404 rfl rfl ?_
  refine q_iadd 1406 dL_law_1405 rfl ?_
  refine q_sald 1407 dL_law_1406 rfl (nI_add p 2) (show p + 2 < gN g by omega) hN ?_
  refine q_callV 1410 dL_law_1407 rfl (c6_ask M _ _) cw_L_166 (by decide) rfl rfl ⟨by decide, by decide⟩ hk (Nat.le_of_ble_eq_true rfl) ?_
  rintro _ M2 ⟨rfl, rfl⟩
  refine q_icmp_eq 1576 1413 dL_law_1410 rfl rfl (fun _ => ?_) (fun h_1410 => absurd (a_ask hI _ _) h_1410)
  exact hih _ hI
set_option maxRecDepth 100000 in
set_option maxHeartbeats 4000000 in
theorem law_item {g : GT} {kc ks : Nat} (hk : kc ≤ 600000 ∧ ks ≤ 7302250) (hN : gN g < 2 ^ 31) (M : TM) (hI : Iv M) (p : Nat) (hp : p + 6 ≤ gN g) (hih : ∀ M2, Iv M2 → TR g room_1 RL cL_law 4 ret kc ks (ZL g) 1576 [some (.ref (gad g 52 0)), some (.ref (gad g 5 0)), some (.ref (gad g 6 0)), some (.int (nI p))] [] M2) : TR g room_1 RL cL_law 4 ret kc ks (ZL g) 1415 [some (.ref (gad g 52 0)), some (.ref (gad g 5 0)), some (.ref (gad g 6 0)), some (.int (nI p))] [] M := by
  obtain ⟨hA, hB, hC, hD, hE, hF⟩ := id hI
  obtain ⟨hW, hR, hT⟩ := id hA
  obtain ⟨tp, h96, et⟩ := id hE.2.2.1
  obtain ⟨w, h60, ew⟩ := id hF.2.2
  refine q_aload_n 1416 dL_law_1415 rfl rfl ?_
  refine q_aload_n 1417 dL_law_1416 rfl rfl ?_
  refine q_iload_n 1418 dL_law_1417 rfl rfl ?_
  refine q_iconst (v := 1) 1419 dL_law_1418 rfl rfl ?_
  refine q_iadd 1420 dL_law_1419 rfl ?_
  refine q_sald 1421 dL_law_1420 rfl (nI_add p 1) (show p + 1 < gN g by omega) hN ?_
  refine q_aload_n 1422 dL_law_1421 rfl rfl ?_
  refine q_iload_n 1423 dL_law_1422 rfl rfl ?_
  refine q_iconst (v := 2) 1424 dL_law_1423 rfl rfl ?_
  refine q_iadd 1425 dL_law_1424 rfl ?_
  refine q_sald 1426 dL_law_1425 rfl (nI_add p 2) (show p + 2 < gN g by omega) hN ?_
  refine q_callV 1429 dL_law_1426 rfl (c5_item M _ _ (fun j hj hz => by rw [((hD j hj).2.2.1 ((hD j hj).1.symm.trans hz)).1]; exact (hD j hj).2.2.2.2)) cw_L_167 (by decide) rfl rfl ⟨by decide, by decide⟩ hk (Nat.le_of_ble_eq_true rfl) ?_
  rintro _ M1 ⟨rfl, m1z⟩
  subst M1
  refine q_aload_n 1430 dL_law_1429 rfl rfl ?_
  refine q_aload_n 1431 dL_law_1430 rfl rfl ?_
  refine q_iload_n 1432 dL_law_1431 rfl rfl ?_
  refine q_iconst (v := 1) 1433 dL_law_1432 rfl rfl ?_
  refine q_iadd 1434 dL_law_1433 rfl ?_
  refine q_sald 1435 dL_law_1434 rfl (nI_add p 1) (show p + 1 < gN g by omega) hN ?_
  refine q_aload_n 1436 dL_law_1435 rfl rfl ?_
  refine q_iload_n 1437 dL_law_1436 rfl rfl ?_
  refine q_iconst (v := 2) 1438 dL_law_1437 rfl rfl ?_
  refine q_iadd 1439 dL_law_1438 rfl ?_
  refine q_sald 1440 dL_law_1439 rfl (nI_add p 2) (show p + 2 < gN g by omega) hN ?_
  refine q_callV 1443 dL_law_1440 rfl (c6_item M _ _ (fun j hj => (hD j hj).2.2.2.2)) cw_L_170 (by decide) rfl rfl ⟨by decide, by decide⟩ hk (Nat.le_of_ble_eq_true rfl) ?_
  rintro _ M2 ⟨rfl, rfl⟩
  refine q_icmp_eq 1576 1446 dL_law_1443 rfl rfl (fun _ => ?_) (fun h_1443 => absurd (a_item hI _ _) h_1443)
  exact hih _ hI
set_option maxRecDepth 100000 in
set_option maxHeartbeats 4000000 in
theorem law_rest {g : GT} {kc ks : Nat} (hk : kc ≤ 600000 ∧ ks ≤ 7302250) (hN : gN g < 2 ^ 31) (M : TM) (hI : Iv M) (p : Nat) (hp : p + 6 ≤ gN g) (hih : ∀ M2, Iv M2 → TR g room_1 RL cL_law 4 ret kc ks (ZL g) 1576 [some (.ref (gad g 52 0)), some (.ref (gad g 5 0)), some (.ref (gad g 6 0)), some (.int (nI p))] [] M2) : TR g room_1 RL cL_law 4 ret kc ks (ZL g) 1448 [some (.ref (gad g 52 0)), some (.ref (gad g 5 0)), some (.ref (gad g 6 0)), some (.int (nI p))] [] M := by
  obtain ⟨hA, hB, hC, hD, hE, hF⟩ := id hI
  obtain ⟨hW, hR, hT⟩ := id hA
  obtain ⟨tp, h96, et⟩ := id hE.2.2.1
  obtain ⟨w, h60, ew⟩ := id hF.2.2
  refine q_aload_n 1449 dL_law_1448 rfl rfl ?_
  refine q_aload_n 1450 dL_law_1449 rfl rfl ?_
  refine q_iload_n 1451 dL_law_1450 rfl rfl ?_
  refine q_iconst (v := 1) 1452 dL_law_1451 rfl rfl ?_
  refine q_iadd 1453 dL_law_1452 rfl ?_
  refine q_sald 1454 dL_law_1453 rfl (nI_add p 1) (show p + 1 < gN g by omega) hN ?_
  refine q_aload_n 1455 dL_law_1454 rfl rfl ?_
  refine q_iload_n 1456 dL_law_1455 rfl rfl ?_
  refine q_iconst (v := 2) 1457 dL_law_1456 rfl rfl ?_
  refine q_iadd 1458 dL_law_1457 rfl ?_
  refine q_sald 1459 dL_law_1458 rfl (nI_add p 2) (show p + 2 < gN g by omega) hN ?_
  refine q_callV 1462 dL_law_1459 rfl (c5_rest M _ _) cw_L_171 (by decide) rfl rfl ⟨by decide, by decide⟩ hk (Nat.le_of_ble_eq_true rfl) ?_
  rintro _ M1 ⟨rfl, m1z⟩
  subst M1
  refine q_aload_n 1463 dL_law_1462 rfl rfl ?_
  refine q_aload_n 1464 dL_law_1463 rfl rfl ?_
  refine q_iload_n 1465 dL_law_1464 rfl rfl ?_
  refine q_iconst (v := 1) 1466 dL_law_1465 rfl rfl ?_
  refine q_iadd 1467 dL_law_1466 rfl ?_
  refine q_sald 1468 dL_law_1467 rfl (nI_add p 1) (show p + 1 < gN g by omega) hN ?_
  refine q_aload_n 1469 dL_law_1468 rfl rfl ?_
  refine q_iload_n 1470 dL_law_1469 rfl rfl ?_
  refine q_iconst (v := 2) 1471 dL_law_1470 rfl rfl ?_
  refine q_iadd 1472 dL_law_1471 rfl ?_
  refine q_sald 1473 dL_law_1472 rfl (nI_add p 2) (show p + 2 < gN g by omega) hN ?_
  refine q_callV 1476 dL_law_1473 rfl (c6_rest M _ _) cw_L_174 (by decide) rfl rfl ⟨by decide, by decide⟩ hk (Nat.le_of_ble_eq_true rfl) ?_
  rintro _ M2 ⟨rfl, rfl⟩
  refine q_icmp_eq 1576 1479 dL_law_1476 rfl rfl (fun _ => ?_) (fun h_1476 => absurd (a_rest hI _ _) h_1476)
  exact hih _ hI
set_option maxRecDepth 100000 in
set_option maxHeartbeats 4000000 in
theorem law_tell {g : GT} {kc ks : Nat} (hk : kc ≤ 600000 ∧ ks ≤ 7302250) (hN : gN g < 2 ^ 31) (M : TM) (hI : Iv M) (p : Nat) (hp : p + 6 ≤ gN g) (hih : ∀ M2, Iv M2 → TR g room_1 RL cL_law 4 ret kc ks (ZL g) 1576 [some (.ref (gad g 52 0)), some (.ref (gad g 5 0)), some (.ref (gad g 6 0)), some (.int (nI p))] [] M2) : TR g room_1 RL cL_law 4 ret kc ks (ZL g) 1481 [some (.ref (gad g 52 0)), some (.ref (gad g 5 0)), some (.ref (gad g 6 0)), some (.int (nI p))] [] M := by
  obtain ⟨hA, hB, hC, hD, hE, hF⟩ := id hI
  obtain ⟨hW, hR, hT⟩ := id hA
  obtain ⟨tp, h96, et⟩ := id hE.2.2.1
  obtain ⟨w, h60, ew⟩ := id hF.2.2
  refine q_aload_n 1482 dL_law_1481 rfl rfl ?_
  refine q_aload_n 1483 dL_law_1482 rfl rfl ?_
  refine q_iload_n 1484 dL_law_1483 rfl rfl ?_
  refine q_iconst (v := 1) 1485 dL_law_1484 rfl rfl ?_
  refine q_iadd 1486 dL_law_1485 rfl ?_
  refine q_sald 1487 dL_law_1486 rfl (nI_add p 1) (show p + 1 < gN g by omega) hN ?_
  refine q_callV 1490 dL_law_1487 rfl (c5_tell M _ w (hF.2.1.trans ew) h60) cw_L_175 (by decide) rfl rfl ⟨by decide, by decide⟩ hk (Nat.le_of_ble_eq_true rfl) ?_
  rintro _ M1 ⟨rfl, m1⟩
  refine q_aload_n 1491 dL_law_1490 rfl rfl ?_
  refine q_aload_n 1492 dL_law_1491 rfl rfl ?_
  refine q_iload_n 1493 dL_law_1492 rfl rfl ?_
  refine q_iconst (v := 1) 1494 dL_law_1493 rfl rfl ?_
  refine q_iadd 1495 dL_law_1494 rfl ?_
  refine q_sald 1496 dL_law_1495 rfl (nI_add p 1) (show p + 1 < gN g by omega) hN ?_
  refine q_callV 1499 dL_law_1496 rfl (c6_tell M1 _ w (l_tell hI h60 ew m1).1 h60) cw_L_178 (by decide) rfl rfl ⟨by decide, by decide⟩ hk (Nat.le_of_ble_eq_true rfl) ?_
  rintro _ M2 ⟨rfl, m2⟩
  refine q_icmp_eq 1576 1502 dL_law_1499 rfl rfl (fun _ => ?_) (fun h_1499 => absurd rfl h_1499)
  exact hih _ ((l_tell hI h60 ew m1).2 _ m2)
set_option maxRecDepth 100000 in
set_option maxHeartbeats 4000000 in
theorem law_check {g : GT} {kc ks : Nat} (hk : kc ≤ 600000 ∧ ks ≤ 7302250) (hN : gN g < 2 ^ 31) (M : TM) (hI : Iv M) (p : Nat) (hp : p + 6 ≤ gN g) (hih : ∀ M2, Iv M2 → TR g room_1 RL cL_law 4 ret kc ks (ZL g) 1576 [some (.ref (gad g 52 0)), some (.ref (gad g 5 0)), some (.ref (gad g 6 0)), some (.int (nI p))] [] M2) : TR g room_1 RL cL_law 4 ret kc ks (ZL g) 1504 [some (.ref (gad g 52 0)), some (.ref (gad g 5 0)), some (.ref (gad g 6 0)), some (.int (nI p))] [] M := by
  obtain ⟨hA, hB, hC, hD, hE, hF⟩ := id hI
  obtain ⟨hW, hR, hT⟩ := id hA
  obtain ⟨tp, h96, et⟩ := id hE.2.2.1
  obtain ⟨w, h60, ew⟩ := id hF.2.2
  refine q_aload_n 1505 dL_law_1504 rfl rfl ?_
  refine q_aload_n 1506 dL_law_1505 rfl rfl ?_
  refine q_iload_n 1507 dL_law_1506 rfl rfl ?_
  refine q_iconst (v := 1) 1508 dL_law_1507 rfl rfl ?_
  refine q_iadd 1509 dL_law_1508 rfl ?_
  refine q_sald 1510 dL_law_1509 rfl (nI_add p 1) (show p + 1 < gN g by omega) hN ?_
  refine q_callV 1513 dL_law_1510 rfl (c5_check M _ w (hF.2.1.trans ew) h60 (mixF (M 32 0) (M 31 0) 2871) (fun hz => im_I hI (by rw [← hB.1]; exact hz) _)) cw_L_179 (by decide) rfl rfl ⟨by decide, by decide⟩ hk (Nat.le_of_ble_eq_true rfl) ?_
  rintro _ M1 ⟨rfl, k1⟩
  have e31 : M1 31 0 = M 31 0 := k1 31 0 (by decide) (by decide)
  have e47 : M1 47 0 = M 47 0 := k1 47 0 (by decide) (by decide)
  have e32 : M1 32 0 = M 32 0 := k1 32 0 (by decide) (by decide)
  have e6 : M1 6 0 = M 6 0 := k1 6 0 (by decide) (by decide)
  refine q_aload_n 1514 dL_law_1513 rfl rfl ?_
  refine q_aload_n 1515 dL_law_1514 rfl rfl ?_
  refine q_iload_n 1516 dL_law_1515 rfl rfl ?_
  refine q_iconst (v := 1) 1517 dL_law_1516 rfl rfl ?_
  refine q_iadd 1518 dL_law_1517 rfl ?_
  refine q_sald 1519 dL_law_1518 rfl (nI_add p 1) (show p + 1 < gN g by omega) hN ?_
  refine q_callV 1522 dL_law_1519 rfl (c6_check M1 _ w (by rw [e6]; exact ew) h60 (M 31 0) e31 (fun hz => by rw [e32]; rw [e6] at hz; exact (hB.2 hz).1)) cw_L_182 (by decide) rfl rfl ⟨by decide, by decide⟩ hk (Nat.le_of_ble_eq_true rfl) ?_
  rintro _ M2 ⟨rfl, A, f, f2, Dz, rfl⟩
  refine q_icmp_eq 1576 1525 dL_law_1522 rfl rfl (fun _ => ?_) (fun h_1522 => absurd (by rw [e47, e32, e6, hB.1, hF.1]) h_1522)
  exact hih _ (Iv_check hI k1 A f f2 Dz)
set_option maxRecDepth 100000 in
set_option maxHeartbeats 4000000 in
theorem law_keep {g : GT} {kc ks : Nat} (hk : kc ≤ 600000 ∧ ks ≤ 7302250) (hN : gN g < 2 ^ 31) (M : TM) (hI : Iv M) (p : Nat) (hp : p + 6 ≤ gN g) (hih : ∀ M2, Iv M2 → TR g room_1 RL cL_law 4 ret kc ks (ZL g) 1576 [some (.ref (gad g 52 0)), some (.ref (gad g 5 0)), some (.ref (gad g 6 0)), some (.int (nI p))] [] M2) : TR g room_1 RL cL_law 4 ret kc ks (ZL g) 1527 [some (.ref (gad g 52 0)), some (.ref (gad g 5 0)), some (.ref (gad g 6 0)), some (.int (nI p))] [] M := by
  obtain ⟨hA, hB, hC, hD, hE, hF⟩ := id hI
  obtain ⟨hW, hR, hT⟩ := id hA
  obtain ⟨tp, h96, et⟩ := id hE.2.2.1
  obtain ⟨w, h60, ew⟩ := id hF.2.2
  refine q_aload_n 1528 dL_law_1527 rfl rfl ?_
  refine q_callV 1531 dL_law_1528 rfl (c5_keep M (M 31 0) hR hW.1.1) cw_L_183 (by decide) rfl rfl ⟨by decide, by decide⟩ hk (Nat.le_of_ble_eq_true rfl) ?_
  rintro _ M1 ⟨rfl, Mq, qq, rfl⟩
  refine q_aload_n 1532 dL_law_1531 rfl rfl ?_
  refine q_callV 1535 dL_law_1532 rfl (c6_keep _) cw_L_186 (by decide) rfl rfl ⟨by decide, by decide⟩ hk (Nat.le_of_ble_eq_true rfl) ?_
  rintro _ M2 ⟨rfl, rfl⟩
  refine q_icmp_eq 1576 1538 dL_law_1535 rfl rfl (fun _ => ?_) (fun h_1535 => absurd (show M 31 0 0 = Mq 31 0 0 by rw [qq.1 31 0 (by decide) (by decide)]) h_1535)
  exact hih _ (Iv_keep hI qq)
set_option maxRecDepth 100000 in
set_option maxHeartbeats 4000000 in
theorem law_backN {g : GT} {kc ks : Nat} (hk : kc ≤ 600000 ∧ ks ≤ 7302250) (hN : gN g < 2 ^ 31) (M : TM) (hI : Iv M) (p : Nat) (hp : p + 6 ≤ gN g) (hih : ∀ M2, Iv M2 → TR g room_1 RL cL_law 4 ret kc ks (ZL g) 1576 [some (.ref (gad g 52 0)), some (.ref (gad g 5 0)), some (.ref (gad g 6 0)), some (.int (nI p))] [] M2) (hz : M 5 0 4 = 0) : TR g room_1 RL cL_law 4 ret kc ks (ZL g) 1540 [some (.ref (gad g 52 0)), some (.ref (gad g 5 0)), some (.ref (gad g 6 0)), some (.int (nI p))] [] M := by
  obtain ⟨hA, hB, hC, hD, hE, hF⟩ := id hI
  obtain ⟨hW, hR, hT⟩ := id hA
  obtain ⟨tp, h96, et⟩ := id hE.2.2.1
  obtain ⟨w, h60, ew⟩ := id hF.2.2
  refine q_aload_n 1541 dL_law_1540 rfl rfl ?_
  refine q_callV 1544 dL_law_1541 rfl (c5_backN M hz) cw_L_187 (by decide) rfl rfl ⟨by decide, by decide⟩ hk (Nat.le_of_ble_eq_true rfl) ?_
  rintro _ M1 ⟨rfl, m1z⟩
  subst M1
  refine q_aload_n 1545 dL_law_1544 rfl rfl ?_
  refine q_callV 1548 dL_law_1545 rfl (c6_back M) cw_L_190 (by decide) rfl rfl ⟨by decide, by decide⟩ hk (Nat.le_of_ble_eq_true rfl) ?_
  rintro _ M2 ⟨rfl, m2⟩
  refine q_icmp_eq 1576 1551 dL_law_1548 rfl rfl (fun _ => ?_) (fun h_1548 => absurd (by rw [if_pos (hB.1.symm.trans hz)]) h_1548)
  exact hih _ (by rw [if_pos (hB.1.symm.trans hz)] at m2; rw [m2]; exact hI)
set_option maxRecDepth 100000 in
set_option maxHeartbeats 4000000 in
theorem law_backY {g : GT} {kc ks : Nat} (hk : kc ≤ 600000 ∧ ks ≤ 7302250) (hN : gN g < 2 ^ 31) (M : TM) (hI : Iv M) (p : Nat) (hp : p + 6 ≤ gN g) (hih : ∀ M2, Iv M2 → TR g room_1 RL cL_law 4 ret kc ks (ZL g) 1576 [some (.ref (gad g 52 0)), some (.ref (gad g 5 0)), some (.ref (gad g 6 0)), some (.int (nI p))] [] M2) (hz : ¬ M 5 0 4 = 0) : TR g room_1 RL cL_law 4 ret kc ks (ZL g) 1540 [some (.ref (gad g 52 0)), some (.ref (gad g 5 0)), some (.ref (gad g 6 0)), some (.int (nI p))] [] M := by
  obtain ⟨hA, hB, hC, hD, hE, hF⟩ := id hI
  obtain ⟨hW, hR, hT⟩ := id hA
  obtain ⟨tp, h96, et⟩ := id hE.2.2.1
  obtain ⟨w, h60, ew⟩ := id hF.2.2
  refine q_aload_n 1541 dL_law_1540 rfl rfl ?_
  refine q_callV 1544 dL_law_1541 rfl (c5_backY M hz) cw_L_187 (by decide) rfl rfl ⟨by decide, by decide⟩ hk (Nat.le_of_ble_eq_true rfl) ?_
  rintro _ M1 ⟨rfl, qq⟩
  have e6 : M1 6 0 = M 6 0 := qq.1 6 0 (by decide) (by decide)
  have e32 : M1 32 0 = M 32 0 := qq.1 32 0 (by decide) (by decide)
  have hz6 : ¬ M 6 0 3 = 0 := by rw [← hB.1]; exact hz
  have hz1 : ¬ M1 6 0 3 = 0 := by rw [e6]; exact hz6
  refine q_aload_n 1545 dL_law_1544 rfl rfl ?_
  refine q_callV 1548 dL_law_1545 rfl (c6_back M1) cw_L_190 (by decide) rfl rfl ⟨by decide, by decide⟩ hk (Nat.le_of_ble_eq_true rfl) ?_
  rintro _ M2 ⟨rfl, m2⟩
  refine q_icmp_eq 1576 1551 dL_law_1548 rfl rfl (fun _ => ?_) (fun h_1548 => absurd (by rw [if_neg hz1, mix_lo _ _ (by decide), e32, (hB.2 hz6).1.1.1]; exact (hB.2 hz6).2.1.1.2.1.1) h_1548)
  exact hih _ (by rw [if_neg hz1] at m2; rw [m2]; exact Iv_back hI hz6 qq)
theorem law_back {g : GT} {kc ks : Nat} (hk : kc ≤ 600000 ∧ ks ≤ 7302250) (hN : gN g < 2 ^ 31) (M : TM) (hI : Iv M) (p : Nat) (hp : p + 6 ≤ gN g) (hih : ∀ M2, Iv M2 → TR g room_1 RL cL_law 4 ret kc ks (ZL g) 1576 [some (.ref (gad g 52 0)), some (.ref (gad g 5 0)), some (.ref (gad g 6 0)), some (.int (nI p))] [] M2) : TR g room_1 RL cL_law 4 ret kc ks (ZL g) 1540 [some (.ref (gad g 52 0)), some (.ref (gad g 5 0)), some (.ref (gad g 6 0)), some (.int (nI p))] [] M := by
  by_cases hz : M 5 0 4 = 0
  · exact law_backN hk hN M hI p hp hih hz
  · exact law_backY hk hN M hI p hp hih hz
set_option maxRecDepth 100000 in
set_option maxHeartbeats 4000000 in
theorem law_count {g : GT} {kc ks : Nat} (hk : kc ≤ 600000 ∧ ks ≤ 7302250) (hN : gN g < 2 ^ 31) (M : TM) (hI : Iv M) (p : Nat) (hp : p + 6 ≤ gN g) (hih : ∀ M2, Iv M2 → TR g room_1 RL cL_law 4 ret kc ks (ZL g) 1576 [some (.ref (gad g 52 0)), some (.ref (gad g 5 0)), some (.ref (gad g 6 0)), some (.int (nI p))] [] M2) : TR g room_1 RL cL_law 4 ret kc ks (ZL g) 1553 [some (.ref (gad g 52 0)), some (.ref (gad g 5 0)), some (.ref (gad g 6 0)), some (.int (nI p))] [] M := by
  obtain ⟨hA, hB, hC, hD, hE, hF⟩ := id hI
  obtain ⟨hW, hR, hT⟩ := id hA
  obtain ⟨tp, h96, et⟩ := id hE.2.2.1
  obtain ⟨w, h60, ew⟩ := id hF.2.2
  refine q_aload_n 1554 dL_law_1553 rfl rfl ?_
  refine q_aload_n 1555 dL_law_1554 rfl rfl ?_
  refine q_iload_n 1556 dL_law_1555 rfl rfl ?_
  refine q_iconst (v := 1) 1557 dL_law_1556 rfl rfl ?_
  refine q_iadd 1558 dL_law_1557 rfl ?_
  refine q_sald 1559 dL_law_1558 rfl (nI_add p 1) (show p + 1 < gN g by omega) hN ?_
  refine q_callV 1562 dL_law_1559 rfl (c5_count M _ (M 31 0) hR hW hT) cw_L_191 (by decide) rfl rfl ⟨by decide, by decide⟩ hk (Nat.le_of_ble_eq_true rfl) ?_
  rintro _ M1 ⟨rfl, m1z⟩
  subst M1
  refine q_aload_n 1563 dL_law_1562 rfl rfl ?_
  refine q_aload_n 1564 dL_law_1563 rfl rfl ?_
  refine q_iload_n 1565 dL_law_1564 rfl rfl ?_
  refine q_iconst (v := 1) 1566 dL_law_1565 rfl rfl ?_
  refine q_iadd 1567 dL_law_1566 rfl ?_
  refine q_sald 1568 dL_law_1567 rfl (nI_add p 1) (show p + 1 < gN g by omega) hN ?_
  refine q_callV 1571 dL_law_1568 rfl (c6_count M _) cw_L_194 (by decide) rfl rfl ⟨by decide, by decide⟩ hk (Nat.le_of_ble_eq_true rfl) ?_
  rintro _ M2 ⟨rfl, rfl⟩
  refine q_icmp_eq 1576 1574 dL_law_1571 rfl rfl (fun _ => ?_) (fun h_1571 => absurd (by rw [hF.2.1, hE.2.1]) h_1571)
  exact hih _ hI
