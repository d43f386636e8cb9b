/-! the law's cases -/
section LWC
variable {G : GG} {p : Program} {l : Launch} {e : Env} {s : State} {m : MethodId} {below : List Frame} {meth : Method} {c : Code} {b L : Nat} {xs : Nat → Int32} {Q : State → Prop} {w wc : WM} {k : Nat} {q : Nat → Nat} {M : MS} {ad : AD} {gi : GI} {f : Nat → Int64} {oa ox om : Nat}
theorem law_c23 (hX : LX G p s m meth c b L xs) (hk : 6 * k + 6 ≤ L) (h : LQ G q oa ox om k M ad gi f wc w) (kk : LKK G p l e s m below meth c b Q q oa ox om k) : AWL G p l e s m below meth c b Q w (50 + 8 * k) (3300 + 100 * k) 1144 (llv b ox om oa k) [] := by
  obtain ⟨hI, hR, rfl, hq, rfl, hD⟩ := h
  have hL := hX.2.2.2
  refine aw_aload_n hX.1 dL_law_1144 rfl rfl ?_
  refine law_arg hX hk 1 (by decide) rfl rfl rfl dL_law_1145 dL_law_1146 dL_law_1148 dL_law_1149 dL_law_1150 ?_
  refine law_cx hX hD hR (kX10_temporary G l M ad gi wc hR hI.2.2.2.1.1 hI.2.2.2.1.2.2.1 hI.2.2.2.1.2.2.2.2.2.2 hI.2.2.2.2.1.1 _) okm_X10_temporary ml_L_120 im_X10_temporary se_X10_X10_temporary rfl rfl (Nat.le_of_ble_eq_true rfl) (Nat.le_of_ble_eq_true rfl) (Nat.le_of_ble_eq_true rfl) (Nat.le_of_ble_eq_true rfl) (Nat.le_of_ble_eq_true rfl) (by omega) (by omega) dL_law_1151 (fun wc1 w1 ad1 gi1 hR1 ho1 hD1 => ?_)
  refine aw_aload_n hX.1 dL_law_1154 rfl rfl ?_
  refine law_arg hX hk 1 (by decide) rfl rfl rfl dL_law_1155 dL_law_1156 dL_law_1158 dL_law_1159 dL_law_1160 ?_
  refine law_cm hX hD1 (kX11_temporary G l q M hq hI.2.2.2.1.1 _) okm_X11_temporary ml_L_123 im_X11_temporary se_X11_X11_temporary rfl rfl (Nat.le_of_ble_eq_true rfl) (Nat.le_of_ble_eq_true rfl) (Nat.le_of_ble_eq_true rfl) rfl rfl (by omega) (by omega) dL_law_1161 (fun w2 hD2 => ?_)
  refine aw_icmp_eq hX.1 (tgt := 1507) dL_law_1164 rfl (fun _ => ?_) (fun z => absurd rfl z)
  exact kk _ _ _ _ _ _ ⟨iv_temporary _ hI, hR1, ho1, hq, rfl, hD2⟩
theorem law_c24 (hX : LX G p s m meth c b L xs) (hk : 6 * k + 6 ≤ L) (h : LQ G q oa ox om k M ad gi f wc w) (kk : LKK G p l e s m below meth c b Q q oa ox om k) : AWL G p l e s m below meth c b Q w (50 + 8 * k) (3300 + 100 * k) 1169 (llv b ox om oa k) [] := by
  obtain ⟨hI, hR, rfl, hq, rfl, hD⟩ := h
  have hL := hX.2.2.2
  refine aw_aload_n hX.1 dL_law_1169 rfl rfl ?_
  refine law_arg hX hk 1 (by decide) rfl rfl rfl dL_law_1170 dL_law_1171 dL_law_1173 dL_law_1174 dL_law_1175 ?_
  refine law_cx hX hD hR (kX10_exists G l M ad gi wc hR hI.2.2.2.1.1 hI.2.2.2.1.2.2.1 _) okm_X10_exists ml_L_124 im_X10_exists se_X10_X10_exists rfl rfl (Nat.le_of_ble_eq_true rfl) (Nat.le_of_ble_eq_true rfl) (Nat.le_of_ble_eq_true rfl) (Nat.le_of_ble_eq_true rfl) (Nat.le_of_ble_eq_true rfl) (by omega) (by omega) dL_law_1176 (fun wc1 w1 ad1 gi1 hR1 ho1 hD1 => ?_)
  refine aw_aload_n hX.1 dL_law_1179 rfl rfl ?_
  refine law_arg hX hk 1 (by decide) rfl rfl rfl dL_law_1180 dL_law_1181 dL_law_1183 dL_law_1184 dL_law_1185 ?_
  refine law_cm hX hD1 (kX11_exists G l q M hq hI.2.2.2.1.1 hI.2.2.2.1.2.1 _) okm_X11_exists ml_L_127 im_X11_exists se_X11_X11_exists rfl rfl (Nat.le_of_ble_eq_true rfl) (Nat.le_of_ble_eq_true rfl) (Nat.le_of_ble_eq_true rfl) rfl rfl (by omega) (by omega) dL_law_1186 (fun w2 hD2 => ?_)
  refine aw_icmp_eq hX.1 (tgt := 1507) dL_law_1189 rfl (fun _ => ?_) (fun z => absurd rfl z)
  exact kk _ _ _ _ _ _ ⟨iv_exists _ hI, hR1, ho1, hq, rfl, hD2⟩
theorem law_c25 (hX : LX G p s m meth c b L xs) (hk : 6 * k + 6 ≤ L) (h : LQ G q oa ox om k M ad gi f wc w) (kk : LKK G p l e s m below meth c b Q q oa ox om k) : AWL G p l e s m below meth c b Q w (50 + 8 * k) (3300 + 100 * k) 1194 (llv b ox om oa k) [] := by
  obtain ⟨hI, hR, rfl, hq, rfl, hD⟩ := h
  have hL := hX.2.2.2
  refine aw_aload_n hX.1 dL_law_1194 rfl rfl ?_
  refine law_arg hX hk 1 (by decide) rfl rfl rfl dL_law_1195 dL_law_1196 dL_law_1198 dL_law_1199 dL_law_1200 ?_
  refine law_cx hX hD hR (kX10_drop G l M ad gi wc hR hI.2.1.1 hI.2.2.2.1.1 hI.2.2.2.1.2.2.1 hI.2.2.2.1.2.2.2.2.2.2 (ct_bt hI.2.2.2.2.1.2.2) hI.2.2.2.2.1.2.1 hI.2.2.2.1.2.1 _) okm_X10_drop ml_L_128 im_X10_drop se_X10_X10_drop rfl rfl (Nat.le_of_ble_eq_true rfl) (Nat.le_of_ble_eq_true rfl) (Nat.le_of_ble_eq_true rfl) (Nat.le_of_ble_eq_true rfl) (Nat.le_of_ble_eq_true rfl) (by omega) (by omega) dL_law_1201 (fun wc1 w1 ad1 gi1 hR1 ho1 hD1 => ?_)
  refine aw_aload_n hX.1 dL_law_1204 rfl rfl ?_
  refine law_arg hX hk 1 (by decide) rfl rfl rfl dL_law_1205 dL_law_1206 dL_law_1208 dL_law_1209 dL_law_1210 ?_
  refine law_cm hX hD1 (kX11_drop G l q M hq hI.2.2.2.1.1 hI.2.2.2.1.2.1 _) okm_X11_drop ml_L_131 im_X11_drop se_X11_X11_drop rfl rfl (Nat.le_of_ble_eq_true rfl) (Nat.le_of_ble_eq_true rfl) (Nat.le_of_ble_eq_true rfl) rfl rfl (by omega) (by omega) dL_law_1211 (fun w2 hD2 => ?_)
  refine aw_icmp_eq hX.1 (tgt := 1507) dL_law_1214 rfl (fun _ => ?_) (fun z => absurd rfl z)
  exact kk _ _ _ _ _ _ ⟨iv_drop _ hI, hR1, ho1, hq, rfl, hD2⟩
theorem law_c26 (hX : LX G p s m meth c b L xs) (hk : 6 * k + 6 ≤ L) (h : LQ G q oa ox om k M ad gi f wc w) (kk : LKK G p l e s m below meth c b Q q oa ox om k) : AWL G p l e s m below meth c b Q w (50 + 8 * k) (3300 + 100 * k) 1219 (llv b ox om oa k) [] := by
  obtain ⟨hI, hR, rfl, hq, rfl, hD⟩ := h
  have hL := hX.2.2.2
  refine aw_aload_n hX.1 dL_law_1219 rfl rfl ?_
  refine law_arg hX hk 1 (by decide) rfl rfl rfl dL_law_1220 dL_law_1221 dL_law_1223 dL_law_1224 dL_law_1225 ?_
  refine law_cx hX hD hR (rX10_upper G l M ad gi wc hR _) okm_X10_upper ml_L_132 im_X10_upper se_X10_X10_upper rfl rfl (Nat.le_of_ble_eq_true rfl) (Nat.le_of_ble_eq_true rfl) (Nat.le_of_ble_eq_true rfl) (Nat.le_of_ble_eq_true rfl) (Nat.le_of_ble_eq_true rfl) (by omega) (by omega) dL_law_1226 (fun wc1 w1 ad1 gi1 hR1 ho1 hD1 => ?_)
  refine aw_aload_n hX.1 dL_law_1229 rfl rfl ?_
  refine law_arg hX hk 1 (by decide) rfl rfl rfl dL_law_1230 dL_law_1231 dL_law_1233 dL_law_1234 dL_law_1235 ?_
  refine law_cm hX hD1 (kX11_upper G l q M hq _) okm_X11_upper ml_L_135 im_X11_upper se_X11_X11_upper rfl rfl (Nat.le_of_ble_eq_true rfl) (Nat.le_of_ble_eq_true rfl) (Nat.le_of_ble_eq_true rfl) rfl rfl (by omega) (by omega) dL_law_1236 (fun w2 hD2 => ?_)
  refine aw_icmp_eq hX.1 (tgt := 1507) dL_law_1239 rfl (fun _ => ?_) (fun z => absurd rfl z)
  exact kk _ _ _ _ _ _ ⟨iv_upper _ hI, hR1, ho1, hq, rfl, hD2⟩
theorem law_c27 (hX : LX G p s m meth c b L xs) (hk : 6 * k + 6 ≤ L) (h : LQ G q oa ox om k M ad gi f wc w) (kk : LKK G p l e s m below meth c b Q q oa ox om k) : AWL G p l e s m below meth c b Q w (50 + 8 * k) (3300 + 100 * k) 1244 (llv b ox om oa k) [] := by
  obtain ⟨hI, hR, rfl, hq, rfl, hD⟩ := h
  have hL := hX.2.2.2
  refine aw_aload_n hX.1 dL_law_1244 rfl rfl ?_
  refine law_arg hX hk 1 (by decide) rfl rfl rfl dL_law_1245 dL_law_1246 dL_law_1248 dL_law_1249 dL_law_1250 ?_
  refine law_cx hX hD hR (rX10_lower G l M ad gi wc hR _) okm_X10_lower ml_L_136 im_X10_lower se_X10_X10_lower rfl rfl (Nat.le_of_ble_eq_true rfl) (Nat.le_of_ble_eq_true rfl) (Nat.le_of_ble_eq_true rfl) (Nat.le_of_ble_eq_true rfl) (Nat.le_of_ble_eq_true rfl) (by omega) (by omega) dL_law_1251 (fun wc1 w1 ad1 gi1 hR1 ho1 hD1 => ?_)
  refine aw_aload_n hX.1 dL_law_1254 rfl rfl ?_
  refine law_arg hX hk 1 (by decide) rfl rfl rfl dL_law_1255 dL_law_1256 dL_law_1258 dL_law_1259 dL_law_1260 ?_
  refine law_cm hX hD1 (kX11_lower G l q M hq _) okm_X11_lower ml_L_139 im_X11_lower se_X11_X11_lower rfl rfl (Nat.le_of_ble_eq_true rfl) (Nat.le_of_ble_eq_true rfl) (Nat.le_of_ble_eq_true rfl) rfl rfl (by omega) (by omega) dL_law_1261 (fun w2 hD2 => ?_)
  refine aw_icmp_eq hX.1 (tgt := 1507) dL_law_1264 rfl (fun _ => ?_) (fun z => absurd rfl z)
  exact kk _ _ _ _ _ _ ⟨iv_lower _ hI, hR1, ho1, hq, rfl, hD2⟩
theorem law_c28 (hX : LX G p s m meth c b L xs) (hk : 6 * k + 6 ≤ L) (h : LQ G q oa ox om k M ad gi f wc w) (kk : LKK G p l e s m below meth c b Q q oa ox om k) : AWL G p l e s m below meth c b Q w (50 + 8 * k) (3300 + 100 * k) 1269 (llv b ox om oa k) [] := by
  obtain ⟨hI, hR, rfl, hq, rfl, hD⟩ := h
  have hL := hX.2.2.2
  refine aw_aload_n hX.1 dL_law_1269 rfl rfl ?_
  refine law_arg hX hk 1 (by decide) rfl rfl rfl dL_law_1270 dL_law_1271 dL_law_1273 dL_law_1274 dL_law_1275 ?_
  refine aw_i2l hX.1 dL_law_1276 ?_
  refine aw_bipush hX.1 (v := 32) dL_law_1277 (by decide) ?_
  refine aw_lshl hX.1 dL_law_1279 ?_
  refine law_arg hX hk 2 (by decide) rfl rfl rfl dL_law_1280 dL_law_1281 dL_law_1283 dL_law_1284 dL_law_1285 ?_
  refine aw_i2l hX.1 dL_law_1286 ?_
  refine aw_ldc2 hX.1 kl_L_140 dL_law_1287 ?_
  refine aw_land hX.1 dL_law_1290 ?_
  refine aw_lor hX.1 dL_law_1291 ?_
  refine law_arg hX hk 3 (by decide) rfl rfl rfl dL_law_1292 dL_law_1293 dL_law_1295 dL_law_1296 dL_law_1297 ?_
  refine law_cx hX hD hR (rX10_date G l M ad gi wc hR _ _) okm_X10_date ml_L_142 im_X10_date se_X10_X10_date rfl rfl (Nat.le_of_ble_eq_true rfl) (Nat.le_of_ble_eq_true rfl) (Nat.le_of_ble_eq_true rfl) (Nat.le_of_ble_eq_true rfl) (Nat.le_of_ble_eq_true rfl) (by omega) (by omega) dL_law_1298 (fun wc1 w1 ad1 gi1 hR1 ho1 hD1 => ?_)
  refine aw_aload_n hX.1 dL_law_1301 rfl rfl ?_
  refine law_arg hX hk 1 (by decide) rfl rfl rfl dL_law_1302 dL_law_1303 dL_law_1305 dL_law_1306 dL_law_1307 ?_
  refine aw_i2l hX.1 dL_law_1308 ?_
  refine aw_bipush hX.1 (v := 32) dL_law_1309 (by decide) ?_
  refine aw_lshl hX.1 dL_law_1311 ?_
  refine law_arg hX hk 2 (by decide) rfl rfl rfl dL_law_1312 dL_law_1313 dL_law_1315 dL_law_1316 dL_law_1317 ?_
  refine aw_i2l hX.1 dL_law_1318 ?_
  refine aw_ldc2 hX.1 kl_L_140 dL_law_1319 ?_
  refine aw_land hX.1 dL_law_1322 ?_
  refine aw_lor hX.1 dL_law_1323 ?_
  refine law_arg hX hk 3 (by decide) rfl rfl rfl dL_law_1324 dL_law_1325 dL_law_1327 dL_law_1328 dL_law_1329 ?_
  refine law_cm hX hD1 (kX11_date G l q M hq _ _) okm_X11_date ml_L_146 im_X11_date se_X11_X11_date rfl rfl (Nat.le_of_ble_eq_true rfl) (Nat.le_of_ble_eq_true rfl) (Nat.le_of_ble_eq_true rfl) rfl rfl (by omega) (by omega) dL_law_1330 (fun w2 hD2 => ?_)
  refine aw_icmp_eq hX.1 (tgt := 1507) dL_law_1333 rfl (fun _ => ?_) (fun z => absurd rfl z)
  exact kk _ _ _ _ _ _ ⟨iv_date _ _ hI, hR1, ho1, hq, rfl, hD2⟩
theorem law_c29 (hX : LX G p s m meth c b L xs) (hk : 6 * k + 6 ≤ L) (h : LQ G q oa ox om k M ad gi f wc w) (kk : LKK G p l e s m below meth c b Q q oa ox om k) : AWL G p l e s m below meth c b Q w (50 + 8 * k) (3300 + 100 * k) 1338 (llv b ox om oa k) [] := by
  obtain ⟨hI, hR, rfl, hq, rfl, hD⟩ := h
  have hL := hX.2.2.2
  refine aw_aload_n hX.1 dL_law_1338 rfl rfl ?_
  refine law_arg hX hk 1 (by decide) rfl rfl rfl dL_law_1339 dL_law_1340 dL_law_1342 dL_law_1343 dL_law_1344 ?_
  refine law_cx hX hD hR (kX10_timer G l M ad gi wc hR _) okm_X10_timer ml_L_147 im_X10_timer se_X10_X10_timer rfl rfl (Nat.le_of_ble_eq_true rfl) (Nat.le_of_ble_eq_true rfl) (Nat.le_of_ble_eq_true rfl) (Nat.le_of_ble_eq_true rfl) (Nat.le_of_ble_eq_true rfl) (by omega) (by omega) dL_law_1345 (fun wc1 w1 ad1 gi1 hR1 ho1 hD1 => ?_)
  refine aw_aload_n hX.1 dL_law_1348 rfl rfl ?_
  refine law_arg hX hk 1 (by decide) rfl rfl rfl dL_law_1349 dL_law_1350 dL_law_1352 dL_law_1353 dL_law_1354 ?_
  refine law_cm hX hD1 (kX11_timer G l q M hq _) okm_X11_timer ml_L_150 im_X11_timer se_X11_X11_timer rfl rfl (Nat.le_of_ble_eq_true rfl) (Nat.le_of_ble_eq_true rfl) (Nat.le_of_ble_eq_true rfl) rfl rfl (by omega) (by omega) dL_law_1355 (fun w2 hD2 => ?_)
  refine aw_icmp_eq hX.1 (tgt := 1507) dL_law_1358 rfl (fun _ => ?_) (fun z => absurd rfl z)
  exact kk _ _ _ _ _ _ ⟨iv_timer _ hI, hR1, ho1, hq, rfl, hD2⟩
theorem law_c30 (hX : LX G p s m meth c b L xs) (hk : 6 * k + 6 ≤ L) (h : LQ G q oa ox om k M ad gi f wc w) (kk : LKK G p l e s m below meth c b Q q oa ox om k) : AWL G p l e s m below meth c b Q w (50 + 8 * k) (3300 + 100 * k) 1363 (llv b ox om oa k) [] := by
  obtain ⟨hI, hR, rfl, hq, rfl, hD⟩ := h
  have hL := hX.2.2.2
  refine aw_aload_n hX.1 dL_law_1363 rfl rfl ?_
  refine law_arg hX hk 1 (by decide) rfl rfl rfl dL_law_1364 dL_law_1365 dL_law_1367 dL_law_1368 dL_law_1369 ?_
  refine law_arg hX hk 2 (by decide) rfl rfl rfl dL_law_1370 dL_law_1371 dL_law_1373 dL_law_1374 dL_law_1375 ?_
  refine law_cx hX hD hR (kX10_sound G l M ad gi wc hR _ _) okm_X10_sound ml_L_151 im_X10_sound se_X10_X10_sound rfl rfl (Nat.le_of_ble_eq_true rfl) (Nat.le_of_ble_eq_true rfl) (Nat.le_of_ble_eq_true rfl) (Nat.le_of_ble_eq_true rfl) (Nat.le_of_ble_eq_true rfl) (by omega) (by omega) dL_law_1376 (fun wc1 w1 ad1 gi1 hR1 ho1 hD1 => ?_)
  refine aw_aload_n hX.1 dL_law_1379 rfl rfl ?_
  refine law_arg hX hk 1 (by decide) rfl rfl rfl dL_law_1380 dL_law_1381 dL_law_1383 dL_law_1384 dL_law_1385 ?_
  refine law_arg hX hk 2 (by decide) rfl rfl rfl dL_law_1386 dL_law_1387 dL_law_1389 dL_law_1390 dL_law_1391 ?_
  refine law_cm hX hD1 (kX11_sound G l q M hq _ _) okm_X11_sound ml_L_154 im_X11_sound se_X11_X11_sound rfl rfl (Nat.le_of_ble_eq_true rfl) (Nat.le_of_ble_eq_true rfl) (Nat.le_of_ble_eq_true rfl) rfl rfl (by omega) (by omega) dL_law_1392 (fun w2 hD2 => ?_)
  refine aw_icmp_eq hX.1 (tgt := 1507) dL_law_1395 rfl (fun _ => ?_) (fun z => absurd rfl z)
  exact kk _ _ _ _ _ _ ⟨iv_sound _ _ hI, hR1, ho1, hq, rfl, hD2⟩
theorem law_c31 (hX : LX G p s m meth c b L xs) (hk : 6 * k + 6 ≤ L) (h : LQ G q oa ox om k M ad gi f wc w) (kk : LKK G p l e s m below meth c b Q q oa ox om k) : AWL G p l e s m below meth c b Q w (50 + 8 * k) (3300 + 100 * k) 1400 (llv b ox om oa k) [] := by
  obtain ⟨hI, hR, rfl, hq, rfl, hD⟩ := h
  have hL := hX.2.2.2
  refine aw_aload_n hX.1 dL_law_1400 rfl rfl ?_
  refine law_arg hX hk 1 (by decide) rfl rfl rfl dL_law_1401 dL_law_1402 dL_law_1404 dL_law_1405 dL_law_1406 ?_
  refine law_cx hX hD hR (kX10_tick G l M ad gi wc hR hI.2.2.2.2.2.2.2.1.2.2.2 (by have := hI.2.2.2.2.2.2.2.1.2.2.1; omega) _) okm_X10_tick ml_L_155 im_X10_tick se_X10_X10_tick rfl rfl (Nat.le_of_ble_eq_true rfl) (Nat.le_of_ble_eq_true rfl) (Nat.le_of_ble_eq_true rfl) (Nat.le_of_ble_eq_true rfl) (Nat.le_of_ble_eq_true rfl) (by omega) (by omega) dL_law_1407 (fun wc1 w1 ad1 gi1 hR1 ho1 hD1 => ?_)
  refine aw_aload_n hX.1 dL_law_1410 rfl rfl ?_
  refine law_arg hX hk 1 (by decide) rfl rfl rfl dL_law_1411 dL_law_1412 dL_law_1414 dL_law_1415 dL_law_1416 ?_
  refine law_cm hX hD1 (kX11_tick G l q M hq hI.2.2.2.2.2.2.2.1.2.2.2 _) okm_X11_tick ml_L_158 im_X11_tick se_X11_X11_tick rfl rfl (Nat.le_of_ble_eq_true rfl) (Nat.le_of_ble_eq_true rfl) (Nat.le_of_ble_eq_true rfl) rfl rfl (by omega) (by omega) dL_law_1417 (fun w2 hD2 => ?_)
  refine aw_icmp_eq hX.1 (tgt := 1507) dL_law_1420 rfl (fun _ => ?_) (fun z => absurd rfl z)
  exact kk _ _ _ _ _ _ ⟨iv_tick (by omega) _ hI, hR1, ho1, hq, rfl, hD2⟩
theorem law_c32 (hX : LX G p s m meth c b L xs) (hk : 6 * k + 6 ≤ L) (h : LQ G q oa ox om k M ad gi f wc w) (kk : LKK G p l e s m below meth c b Q q oa ox om k) : AWL G p l e s m below meth c b Q w (50 + 8 * k) (3300 + 100 * k) 1425 (llv b ox om oa k) [] := by
  obtain ⟨hI, hR, rfl, hq, rfl, hD⟩ := h
  have hL := hX.2.2.2
  refine aw_aload_n hX.1 dL_law_1425 rfl rfl ?_
  refine law_cx hX hD hR (kX10_event G l M ad gi wc hR hI.2.2.2.2.2.2.2.1.2.2.2) okm_X10_event ml_L_159 im_X10_event se_X10_X10_event rfl rfl (Nat.le_of_ble_eq_true rfl) (Nat.le_of_ble_eq_true rfl) (Nat.le_of_ble_eq_true rfl) (Nat.le_of_ble_eq_true rfl) (Nat.le_of_ble_eq_true rfl) (by omega) (by omega) dL_law_1426 (fun wc1 w1 ad1 gi1 hR1 ho1 hD1 => ?_)
  refine aw_aload_n hX.1 dL_law_1429 rfl rfl ?_
  refine law_cm hX hD1 (kX11_event G l q M hq hI.2.2.2.2.2.2.2.1.2.2.2) okm_X11_event ml_L_162 im_X11_event se_X11_X11_event rfl rfl (Nat.le_of_ble_eq_true rfl) (Nat.le_of_ble_eq_true rfl) (Nat.le_of_ble_eq_true rfl) rfl rfl (by omega) (by omega) dL_law_1430 (fun w2 hD2 => ?_)
  refine aw_icmp_eq hX.1 (tgt := 1507) dL_law_1433 rfl (fun _ => ?_) (fun z => absurd rfl z)
  exact kk _ _ _ _ _ _ ⟨iv_event hI, hR1, ho1, hq, rfl, hD2⟩
theorem law_c33 (hX : LX G p s m meth c b L xs) (hk : 6 * k + 6 ≤ L) (h : LQ G q oa ox om k M ad gi f wc w) (kk : LKK G p l e s m below meth c b Q q oa ox om k) : AWL G p l e s m below meth c b Q w (50 + 8 * k) (3300 + 100 * k) 1438 (llv b ox om oa k) [] := by
  obtain ⟨hI, hR, rfl, hq, rfl, hD⟩ := h
  have hL := hX.2.2.2
  refine aw_aload_n hX.1 dL_law_1438 rfl rfl ?_
  refine law_arg hX hk 1 (by decide) rfl rfl rfl dL_law_1439 dL_law_1440 dL_law_1442 dL_law_1443 dL_law_1444 ?_
  refine law_cx hX hD hR (kX10_told G l M ad gi wc hR hI.2.1.2.1 _) okm_X10_told ml_L_163 im_X10_told se_X10_X10_told rfl rfl (Nat.le_of_ble_eq_true rfl) (Nat.le_of_ble_eq_true rfl) (Nat.le_of_ble_eq_true rfl) (Nat.le_of_ble_eq_true rfl) (Nat.le_of_ble_eq_true rfl) (by omega) (by omega) dL_law_1445 (fun wc1 w1 ad1 gi1 hR1 ho1 hD1 => ?_)
  refine aw_aload_n hX.1 dL_law_1448 rfl rfl ?_
  refine law_arg hX hk 1 (by decide) rfl rfl rfl dL_law_1449 dL_law_1450 dL_law_1452 dL_law_1453 dL_law_1454 ?_
  refine law_cm hX hD1 (kX11_told G l q M hq _) okm_X11_told ml_L_166 im_X11_told se_X11_X11_told rfl rfl (Nat.le_of_ble_eq_true rfl) (Nat.le_of_ble_eq_true rfl) (Nat.le_of_ble_eq_true rfl) rfl rfl (by omega) (by omega) dL_law_1455 (fun w2 hD2 => ?_)
  refine aw_icmp_eq hX.1 (tgt := 1507) dL_law_1458 rfl (fun _ => ?_) (fun z => absurd rfl z)
  exact kk _ _ _ _ _ _ ⟨iv_told _ hI, hR1, ho1, hq, rfl, hD2⟩
end LWC
