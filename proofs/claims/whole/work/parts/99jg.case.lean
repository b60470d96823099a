/-! 99jg: the law, its calls 24 to 27 (laid by wip/whole/p99j.py) -/
theorem dL_1220 : decode code 1220 = .ok (.aload_n 1, 1) := by decide +kernel
theorem dL_1221 : decode code 1221 = .ok (.aload_n 0, 1) := by decide +kernel
theorem dL_1222 : decode code 1222 = .ok (.iload_n 3, 1) := by decide +kernel
theorem dL_1223 : decode code 1223 = .ok (.iconst 1, 1) := by decide +kernel
theorem dL_1224 : decode code 1224 = .ok (.iadd, 1) := by decide +kernel
theorem dL_1225 : decode code 1225 = .ok (.iaload, 1) := by decide +kernel
theorem dL_1226 : decode code 1226 = .ok (.aload_n 0, 1) := by decide +kernel
theorem dL_1227 : decode code 1227 = .ok (.iload_n 3, 1) := by decide +kernel
theorem dL_1228 : decode code 1228 = .ok (.iconst 2, 1) := by decide +kernel
theorem dL_1229 : decode code 1229 = .ok (.iadd, 1) := by decide +kernel
theorem dL_1230 : decode code 1230 = .ok (.iaload, 1) := by decide +kernel
theorem dL_1231 : decode code 1231 = .ok (.invokevirtual 120, 3) := by decide +kernel
theorem dL_1234 : decode code 1234 = .ok (.aload_n 2, 1) := by decide +kernel
theorem dL_1235 : decode code 1235 = .ok (.aload_n 0, 1) := by decide +kernel
theorem dL_1236 : decode code 1236 = .ok (.iload_n 3, 1) := by decide +kernel
theorem dL_1237 : decode code 1237 = .ok (.iconst 1, 1) := by decide +kernel
theorem dL_1238 : decode code 1238 = .ok (.iadd, 1) := by decide +kernel
theorem dL_1239 : decode code 1239 = .ok (.iaload, 1) := by decide +kernel
theorem dL_1240 : decode code 1240 = .ok (.aload_n 0, 1) := by decide +kernel
theorem dL_1241 : decode code 1241 = .ok (.iload_n 3, 1) := by decide +kernel
theorem dL_1242 : decode code 1242 = .ok (.iconst 2, 1) := by decide +kernel
theorem dL_1243 : decode code 1243 = .ok (.iadd, 1) := by decide +kernel
theorem dL_1244 : decode code 1244 = .ok (.iaload, 1) := by decide +kernel
theorem dL_1245 : decode code 1245 = .ok (.invokevirtual 123, 3) := by decide +kernel
theorem dL_1248 : decode code 1248 = .ok (.if_icmp .eq 237, 3) := by decide +kernel
theorem lz_c24 {b L : Nat} {xs : Nat → Int32} {i : Int32} {h : ai_H} (hi : ∀ v : Nat, v < 8 → vp_in (i + nI v) L) (J : JI h) (hr1 : h.1 + 11 ≤ room_1.cells) (hr2 : h.2.1 + 3917 ≤ room_1.slots) (kx : ∀ h2, JI h2 → h2.1 ≤ h.1 + 11 → h2.2.1 ≤ h.2.1 + 3917 → lz_R b L xs 1485 [.retAddr 31, .ref 0, .ref 307, .int i] [] h2) : lz_R b L xs 1220 [.retAddr 31, .ref 0, .ref 307, .int i] [] h := by
  obtain ⟨r, h1, h2, ⟨v, rfl⟩, m1, m2, ⟨fs1, e1⟩, J2, s1, s2⟩ := js_plan (xs (i + nI 1).toNatClampNeg) (xs (i + nI 2).toNatClampNeg) h J
  have a1 := m1.1
  have a2 := m2.1
  obtain ⟨q0, fs0, e0⟩ := JI_cells J
  refine lz_ald (q := 0) dL_1220 rfl ?_
  refine lz_arg (v := nI 1) dL_1221 dL_1222 dL_1223 dL_1224 dL_1225 (by decide) (hi 1 (by decide)) ?_
  refine lz_arg (v := nI 2) dL_1226 dL_1227 dL_1228 dL_1229 dL_1230 (by decide) (hi 2 (by decide)) ?_
  refine lz_call (as := [.int (xs (i + nI 1).toNatClampNeg), .int (xs (i + nI 2).toNatClampNeg)]) (st := []) (ci := 11) (q := 0) dL_1231 mk_X11_plan mlL_120 in_X11_plan se_X11_plan rfl (by omega) e0 rfl rfl (Nat.le_of_ble_eq_true rfl) m1 (by omega) (by omega) ?_
  show lz_R b L xs 1234 [.retAddr 31, .ref 0, .ref 307, .int i] [.int v] h1
  refine lz_ald (q := 307) dL_1234 rfl ?_
  refine lz_arg (v := nI 1) dL_1235 dL_1236 dL_1237 dL_1238 dL_1239 (by decide) (hi 1 (by decide)) ?_
  refine lz_arg (v := nI 2) dL_1240 dL_1241 dL_1242 dL_1243 dL_1244 (by decide) (hi 2 (by decide)) ?_
  refine lz_call (as := [.int (xs (i + nI 1).toNatClampNeg), .int (xs (i + nI 2).toNatClampNeg)]) (st := [.int v]) (ci := 12) (q := 307) dL_1245 mk_X12_plan mlL_123 in_X12_plan se_X12_plan rfl (by omega) e1 rfl rfl (Nat.le_of_ble_eq_true rfl) m2 (by omega) (by omega) ?_
  show lz_R b L xs 1248 [.retAddr 31, .ref 0, .ref 307, .int i] [.int v, .int v] h2
  refine lz_eqI (tgt := 1485) dL_1248 (by decide) ?_
  exact kx h2 J2 s1 s2
theorem dL_1253 : decode code 1253 = .ok (.aload_n 1, 1) := by decide +kernel
theorem dL_1254 : decode code 1254 = .ok (.invokevirtual 124, 3) := by decide +kernel
theorem dL_1257 : decode code 1257 = .ok (.aload_n 2, 1) := by decide +kernel
theorem dL_1258 : decode code 1258 = .ok (.invokevirtual 127, 3) := by decide +kernel
theorem dL_1261 : decode code 1261 = .ok (.if_icmp .eq 224, 3) := by decide +kernel
theorem lz_c25 {b L : Nat} {xs : Nat → Int32} {i : Int32} {h : ai_H} (hi : ∀ v : Nat, v < 8 → vp_in (i + nI v) L) (J : JI h) (hr1 : h.1 + 11 ≤ room_1.cells) (hr2 : h.2.1 + 3917 ≤ room_1.slots) (kx : ∀ h2, JI h2 → h2.1 ≤ h.1 + 11 → h2.2.1 ≤ h.2.1 + 3917 → lz_R b L xs 1485 [.retAddr 31, .ref 0, .ref 307, .int i] [] h2) : lz_R b L xs 1253 [.retAddr 31, .ref 0, .ref 307, .int i] [] h := by
  obtain ⟨r, h1, h2, ⟨v, rfl⟩, m1, m2, ⟨fs1, e1⟩, J2, s1, s2⟩ := js_next  h J
  have a1 := m1.1
  have a2 := m2.1
  obtain ⟨q0, fs0, e0⟩ := JI_cells J
  refine lz_ald (q := 0) dL_1253 rfl ?_
  refine lz_call (as := []) (st := []) (ci := 11) (q := 0) dL_1254 mk_X11_next mlL_124 in_X11_next se_X11_next rfl (by omega) e0 rfl rfl (Nat.le_of_ble_eq_true rfl) m1 (by omega) (by omega) ?_
  show lz_R b L xs 1257 [.retAddr 31, .ref 0, .ref 307, .int i] [.int v] h1
  refine lz_ald (q := 307) dL_1257 rfl ?_
  refine lz_call (as := []) (st := [.int v]) (ci := 12) (q := 307) dL_1258 mk_X12_next mlL_127 in_X12_next se_X12_next rfl (by omega) e1 rfl rfl (Nat.le_of_ble_eq_true rfl) m2 (by omega) (by omega) ?_
  show lz_R b L xs 1261 [.retAddr 31, .ref 0, .ref 307, .int i] [.int v, .int v] h2
  refine lz_eqI (tgt := 1485) dL_1261 (by decide) ?_
  exact kx h2 J2 s1 s2
theorem dL_1266 : decode code 1266 = .ok (.aload_n 1, 1) := by decide +kernel
theorem dL_1267 : decode code 1267 = .ok (.aload_n 0, 1) := by decide +kernel
theorem dL_1268 : decode code 1268 = .ok (.iload_n 3, 1) := by decide +kernel
theorem dL_1269 : decode code 1269 = .ok (.iconst 1, 1) := by decide +kernel
theorem dL_1270 : decode code 1270 = .ok (.iadd, 1) := by decide +kernel
theorem dL_1271 : decode code 1271 = .ok (.iaload, 1) := by decide +kernel
theorem dL_1272 : decode code 1272 = .ok (.aload_n 0, 1) := by decide +kernel
theorem dL_1273 : decode code 1273 = .ok (.iload_n 3, 1) := by decide +kernel
theorem dL_1274 : decode code 1274 = .ok (.iconst 2, 1) := by decide +kernel
theorem dL_1275 : decode code 1275 = .ok (.iadd, 1) := by decide +kernel
theorem dL_1276 : decode code 1276 = .ok (.iaload, 1) := by decide +kernel
theorem dL_1277 : decode code 1277 = .ok (.aload_n 0, 1) := by decide +kernel
theorem dL_1278 : decode code 1278 = .ok (.iload_n 3, 1) := by decide +kernel
theorem dL_1279 : decode code 1279 = .ok (.iconst 3, 1) := by decide +kernel
theorem dL_1280 : decode code 1280 = .ok (.iadd, 1) := by decide +kernel
theorem dL_1281 : decode code 1281 = .ok (.iaload, 1) := by decide +kernel
theorem dL_1282 : decode code 1282 = .ok (.aload_n 0, 1) := by decide +kernel
theorem dL_1283 : decode code 1283 = .ok (.iload_n 3, 1) := by decide +kernel
theorem dL_1284 : decode code 1284 = .ok (.iconst 4, 1) := by decide +kernel
theorem dL_1285 : decode code 1285 = .ok (.iadd, 1) := by decide +kernel
theorem dL_1286 : decode code 1286 = .ok (.iaload, 1) := by decide +kernel
theorem dL_1287 : decode code 1287 = .ok (.invokevirtual 128, 3) := by decide +kernel
theorem dL_1290 : decode code 1290 = .ok (.aload_n 2, 1) := by decide +kernel
theorem dL_1291 : decode code 1291 = .ok (.aload_n 0, 1) := by decide +kernel
theorem dL_1292 : decode code 1292 = .ok (.iload_n 3, 1) := by decide +kernel
theorem dL_1293 : decode code 1293 = .ok (.iconst 1, 1) := by decide +kernel
theorem dL_1294 : decode code 1294 = .ok (.iadd, 1) := by decide +kernel
theorem dL_1295 : decode code 1295 = .ok (.iaload, 1) := by decide +kernel
theorem dL_1296 : decode code 1296 = .ok (.aload_n 0, 1) := by decide +kernel
theorem dL_1297 : decode code 1297 = .ok (.iload_n 3, 1) := by decide +kernel
theorem dL_1298 : decode code 1298 = .ok (.iconst 2, 1) := by decide +kernel
theorem dL_1299 : decode code 1299 = .ok (.iadd, 1) := by decide +kernel
theorem dL_1300 : decode code 1300 = .ok (.iaload, 1) := by decide +kernel
theorem dL_1301 : decode code 1301 = .ok (.aload_n 0, 1) := by decide +kernel
theorem dL_1302 : decode code 1302 = .ok (.iload_n 3, 1) := by decide +kernel
theorem dL_1303 : decode code 1303 = .ok (.iconst 3, 1) := by decide +kernel
theorem dL_1304 : decode code 1304 = .ok (.iadd, 1) := by decide +kernel
theorem dL_1305 : decode code 1305 = .ok (.iaload, 1) := by decide +kernel
theorem dL_1306 : decode code 1306 = .ok (.aload_n 0, 1) := by decide +kernel
theorem dL_1307 : decode code 1307 = .ok (.iload_n 3, 1) := by decide +kernel
theorem dL_1308 : decode code 1308 = .ok (.iconst 4, 1) := by decide +kernel
theorem dL_1309 : decode code 1309 = .ok (.iadd, 1) := by decide +kernel
theorem dL_1310 : decode code 1310 = .ok (.iaload, 1) := by decide +kernel
theorem dL_1311 : decode code 1311 = .ok (.invokevirtual 132, 3) := by decide +kernel
theorem dL_1314 : decode code 1314 = .ok (.lcmp, 1) := by decide +kernel
theorem dL_1315 : decode code 1315 = .ok (.ifCond .eq 170, 3) := by decide +kernel
theorem lz_c26 {b L : Nat} {xs : Nat → Int32} {i : Int32} {h : ai_H} (hi : ∀ v : Nat, v < 8 → vp_in (i + nI v) L) (J : JI h) (hr1 : h.1 + 11 ≤ room_1.cells) (hr2 : h.2.1 + 3917 ≤ room_1.slots) (kx : ∀ h2, JI h2 → h2.1 ≤ h.1 + 11 → h2.2.1 ≤ h.2.1 + 3917 → lz_R b L xs 1485 [.retAddr 31, .ref 0, .ref 307, .int i] [] h2) : lz_R b L xs 1266 [.retAddr 31, .ref 0, .ref 307, .int i] [] h := by
  obtain ⟨r, h1, h2, ⟨v, rfl⟩, m1, m2, ⟨fs1, e1⟩, J2, s1, s2⟩ := js_said (xs (i + nI 1).toNatClampNeg) (xs (i + nI 2).toNatClampNeg) (xs (i + nI 3).toNatClampNeg) (xs (i + nI 4).toNatClampNeg) h J
  have a1 := m1.1
  have a2 := m2.1
  obtain ⟨q0, fs0, e0⟩ := JI_cells J
  refine lz_ald (q := 0) dL_1266 rfl ?_
  refine lz_arg (v := nI 1) dL_1267 dL_1268 dL_1269 dL_1270 dL_1271 (by decide) (hi 1 (by decide)) ?_
  refine lz_arg (v := nI 2) dL_1272 dL_1273 dL_1274 dL_1275 dL_1276 (by decide) (hi 2 (by decide)) ?_
  refine lz_arg (v := nI 3) dL_1277 dL_1278 dL_1279 dL_1280 dL_1281 (by decide) (hi 3 (by decide)) ?_
  refine lz_arg (v := nI 4) dL_1282 dL_1283 dL_1284 dL_1285 dL_1286 (by decide) (hi 4 (by decide)) ?_
  refine lz_call (as := [.int (xs (i + nI 1).toNatClampNeg), .int (xs (i + nI 2).toNatClampNeg), .int (xs (i + nI 3).toNatClampNeg), .int (xs (i + nI 4).toNatClampNeg)]) (st := []) (ci := 11) (q := 0) dL_1287 mk_X11_said mlL_128 in_X11_said se_X11_said rfl (by omega) e0 rfl rfl (Nat.le_of_ble_eq_true rfl) m1 (by omega) (by omega) ?_
  show lz_R b L xs 1290 [.retAddr 31, .ref 0, .ref 307, .int i] [.long v] h1
  refine lz_ald (q := 307) dL_1290 rfl ?_
  refine lz_arg (v := nI 1) dL_1291 dL_1292 dL_1293 dL_1294 dL_1295 (by decide) (hi 1 (by decide)) ?_
  refine lz_arg (v := nI 2) dL_1296 dL_1297 dL_1298 dL_1299 dL_1300 (by decide) (hi 2 (by decide)) ?_
  refine lz_arg (v := nI 3) dL_1301 dL_1302 dL_1303 dL_1304 dL_1305 (by decide) (hi 3 (by decide)) ?_
  refine lz_arg (v := nI 4) dL_1306 dL_1307 dL_1308 dL_1309 dL_1310 (by decide) (hi 4 (by decide)) ?_
  refine lz_call (as := [.int (xs (i + nI 1).toNatClampNeg), .int (xs (i + nI 2).toNatClampNeg), .int (xs (i + nI 3).toNatClampNeg), .int (xs (i + nI 4).toNatClampNeg)]) (st := [.long v]) (ci := 12) (q := 307) dL_1311 mk_X12_said mlL_132 in_X12_said se_X12_said rfl (by omega) e1 rfl rfl (Nat.le_of_ble_eq_true rfl) m2 (by omega) (by omega) ?_
  show lz_R b L xs 1314 [.retAddr 31, .ref 0, .ref 307, .int i] [.long v, .long v] h2
  refine lz_eqL (tgt := 1485) dL_1314 dL_1315 (by decide) ?_
  exact kx h2 J2 s1 s2
theorem dL_1320 : decode code 1320 = .ok (.aload_n 1, 1) := by decide +kernel
theorem dL_1321 : decode code 1321 = .ok (.aload_n 0, 1) := by decide +kernel
theorem dL_1322 : decode code 1322 = .ok (.iload_n 3, 1) := by decide +kernel
theorem dL_1323 : decode code 1323 = .ok (.iconst 1, 1) := by decide +kernel
theorem dL_1324 : decode code 1324 = .ok (.iadd, 1) := by decide +kernel
theorem dL_1325 : decode code 1325 = .ok (.iaload, 1) := by decide +kernel
theorem dL_1326 : decode code 1326 = .ok (.aload_n 0, 1) := by decide +kernel
theorem dL_1327 : decode code 1327 = .ok (.iload_n 3, 1) := by decide +kernel
theorem dL_1328 : decode code 1328 = .ok (.iconst 2, 1) := by decide +kernel
theorem dL_1329 : decode code 1329 = .ok (.iadd, 1) := by decide +kernel
theorem dL_1330 : decode code 1330 = .ok (.iaload, 1) := by decide +kernel
theorem dL_1331 : decode code 1331 = .ok (.invokevirtual 133, 3) := by decide +kernel
theorem dL_1334 : decode code 1334 = .ok (.aload_n 2, 1) := by decide +kernel
theorem dL_1335 : decode code 1335 = .ok (.aload_n 0, 1) := by decide +kernel
theorem dL_1336 : decode code 1336 = .ok (.iload_n 3, 1) := by decide +kernel
theorem dL_1337 : decode code 1337 = .ok (.iconst 1, 1) := by decide +kernel
theorem dL_1338 : decode code 1338 = .ok (.iadd, 1) := by decide +kernel
theorem dL_1339 : decode code 1339 = .ok (.iaload, 1) := by decide +kernel
theorem dL_1340 : decode code 1340 = .ok (.aload_n 0, 1) := by decide +kernel
theorem dL_1341 : decode code 1341 = .ok (.iload_n 3, 1) := by decide +kernel
theorem dL_1342 : decode code 1342 = .ok (.iconst 2, 1) := by decide +kernel
theorem dL_1343 : decode code 1343 = .ok (.iadd, 1) := by decide +kernel
theorem dL_1344 : decode code 1344 = .ok (.iaload, 1) := by decide +kernel
theorem dL_1345 : decode code 1345 = .ok (.invokevirtual 137, 3) := by decide +kernel
theorem dL_1348 : decode code 1348 = .ok (.if_icmp .eq 137, 3) := by decide +kernel
theorem lz_c27 {b L : Nat} {xs : Nat → Int32} {i : Int32} {h : ai_H} (hi : ∀ v : Nat, v < 8 → vp_in (i + nI v) L) (J : JI h) (hr1 : h.1 + 11 ≤ room_1.cells) (hr2 : h.2.1 + 3917 ≤ room_1.slots) (kx : ∀ h2, JI h2 → h2.1 ≤ h.1 + 11 → h2.2.1 ≤ h.2.1 + 3917 → lz_R b L xs 1485 [.retAddr 31, .ref 0, .ref 307, .int i] [] h2) : lz_R b L xs 1320 [.retAddr 31, .ref 0, .ref 307, .int i] [] h := by
  obtain ⟨r, h1, h2, ⟨v, rfl⟩, m1, m2, ⟨fs1, e1⟩, J2, s1, s2⟩ := js_leans (xs (i + nI 1).toNatClampNeg) (xs (i + nI 2).toNatClampNeg) h J
  have a1 := m1.1
  have a2 := m2.1
  obtain ⟨q0, fs0, e0⟩ := JI_cells J
  refine lz_ald (q := 0) dL_1320 rfl ?_
  refine lz_arg (v := nI 1) dL_1321 dL_1322 dL_1323 dL_1324 dL_1325 (by decide) (hi 1 (by decide)) ?_
  refine lz_arg (v := nI 2) dL_1326 dL_1327 dL_1328 dL_1329 dL_1330 (by decide) (hi 2 (by decide)) ?_
  refine lz_call (as := [.int (xs (i + nI 1).toNatClampNeg), .int (xs (i + nI 2).toNatClampNeg)]) (st := []) (ci := 11) (q := 0) dL_1331 mk_X11_leans mlL_133 in_X11_leans se_X11_leans rfl (by omega) e0 rfl rfl (Nat.le_of_ble_eq_true rfl) m1 (by omega) (by omega) ?_
  show lz_R b L xs 1334 [.retAddr 31, .ref 0, .ref 307, .int i] [.int v] h1
  refine lz_ald (q := 307) dL_1334 rfl ?_
  refine lz_arg (v := nI 1) dL_1335 dL_1336 dL_1337 dL_1338 dL_1339 (by decide) (hi 1 (by decide)) ?_
  refine lz_arg (v := nI 2) dL_1340 dL_1341 dL_1342 dL_1343 dL_1344 (by decide) (hi 2 (by decide)) ?_
  refine lz_call (as := [.int (xs (i + nI 1).toNatClampNeg), .int (xs (i + nI 2).toNatClampNeg)]) (st := [.int v]) (ci := 12) (q := 307) dL_1345 mk_X12_leans mlL_137 in_X12_leans se_X12_leans rfl (by omega) e1 rfl rfl (Nat.le_of_ble_eq_true rfl) m2 (by omega) (by omega) ?_
  show lz_R b L xs 1348 [.retAddr 31, .ref 0, .ref 307, .int i] [.int v, .int v] h2
  refine lz_eqI (tgt := 1485) dL_1348 (by decide) ?_
  exact kx h2 J2 s1 s2
