/-! 99jh: the law, its calls 28 to 31 (laid by wip/whole/p99j.py) -/
theorem dL_1353 : decode code 1353 = .ok (.aload_n 1, 1) := by decide +kernel
theorem dL_1354 : decode code 1354 = .ok (.aload_n 0, 1) := by decide +kernel
theorem dL_1355 : decode code 1355 = .ok (.iload_n 3, 1) := by decide +kernel
theorem dL_1356 : decode code 1356 = .ok (.iconst 1, 1) := by decide +kernel
theorem dL_1357 : decode code 1357 = .ok (.iadd, 1) := by decide +kernel
theorem dL_1358 : decode code 1358 = .ok (.iaload, 1) := by decide +kernel
theorem dL_1359 : decode code 1359 = .ok (.aload_n 0, 1) := by decide +kernel
theorem dL_1360 : decode code 1360 = .ok (.iload_n 3, 1) := by decide +kernel
theorem dL_1361 : decode code 1361 = .ok (.iconst 2, 1) := by decide +kernel
theorem dL_1362 : decode code 1362 = .ok (.iadd, 1) := by decide +kernel
theorem dL_1363 : decode code 1363 = .ok (.iaload, 1) := by decide +kernel
theorem dL_1364 : decode code 1364 = .ok (.aload_n 0, 1) := by decide +kernel
theorem dL_1365 : decode code 1365 = .ok (.iload_n 3, 1) := by decide +kernel
theorem dL_1366 : decode code 1366 = .ok (.iconst 3, 1) := by decide +kernel
theorem dL_1367 : decode code 1367 = .ok (.iadd, 1) := by decide +kernel
theorem dL_1368 : decode code 1368 = .ok (.iaload, 1) := by decide +kernel
theorem dL_1369 : decode code 1369 = .ok (.aload_n 0, 1) := by decide +kernel
theorem dL_1370 : decode code 1370 = .ok (.iload_n 3, 1) := by decide +kernel
theorem dL_1371 : decode code 1371 = .ok (.iconst 4, 1) := by decide +kernel
theorem dL_1372 : decode code 1372 = .ok (.iadd, 1) := by decide +kernel
theorem dL_1373 : decode code 1373 = .ok (.iaload, 1) := by decide +kernel
theorem dL_1374 : decode code 1374 = .ok (.aload_n 0, 1) := by decide +kernel
theorem dL_1375 : decode code 1375 = .ok (.iload_n 3, 1) := by decide +kernel
theorem dL_1376 : decode code 1376 = .ok (.iconst 5, 1) := by decide +kernel
theorem dL_1377 : decode code 1377 = .ok (.iadd, 1) := by decide +kernel
theorem dL_1378 : decode code 1378 = .ok (.iaload, 1) := by decide +kernel
theorem dL_1379 : decode code 1379 = .ok (.invokevirtual 138, 3) := by decide +kernel
theorem dL_1382 : decode code 1382 = .ok (.aload_n 2, 1) := by decide +kernel
theorem dL_1383 : decode code 1383 = .ok (.aload_n 0, 1) := by decide +kernel
theorem dL_1384 : decode code 1384 = .ok (.iload_n 3, 1) := by decide +kernel
theorem dL_1385 : decode code 1385 = .ok (.iconst 1, 1) := by decide +kernel
theorem dL_1386 : decode code 1386 = .ok (.iadd, 1) := by decide +kernel
theorem dL_1387 : decode code 1387 = .ok (.iaload, 1) := by decide +kernel
theorem dL_1388 : decode code 1388 = .ok (.aload_n 0, 1) := by decide +kernel
theorem dL_1389 : decode code 1389 = .ok (.iload_n 3, 1) := by decide +kernel
theorem dL_1390 : decode code 1390 = .ok (.iconst 2, 1) := by decide +kernel
theorem dL_1391 : decode code 1391 = .ok (.iadd, 1) := by decide +kernel
theorem dL_1392 : decode code 1392 = .ok (.iaload, 1) := by decide +kernel
theorem dL_1393 : decode code 1393 = .ok (.aload_n 0, 1) := by decide +kernel
theorem dL_1394 : decode code 1394 = .ok (.iload_n 3, 1) := by decide +kernel
theorem dL_1395 : decode code 1395 = .ok (.iconst 3, 1) := by decide +kernel
theorem dL_1396 : decode code 1396 = .ok (.iadd, 1) := by decide +kernel
theorem dL_1397 : decode code 1397 = .ok (.iaload, 1) := by decide +kernel
theorem dL_1398 : decode code 1398 = .ok (.aload_n 0, 1) := by decide +kernel
theorem dL_1399 : decode code 1399 = .ok (.iload_n 3, 1) := by decide +kernel
theorem dL_1400 : decode code 1400 = .ok (.iconst 4, 1) := by decide +kernel
theorem dL_1401 : decode code 1401 = .ok (.iadd, 1) := by decide +kernel
theorem dL_1402 : decode code 1402 = .ok (.iaload, 1) := by decide +kernel
theorem dL_1403 : decode code 1403 = .ok (.aload_n 0, 1) := by decide +kernel
theorem dL_1404 : decode code 1404 = .ok (.iload_n 3, 1) := by decide +kernel
theorem dL_1405 : decode code 1405 = .ok (.iconst 5, 1) := by decide +kernel
theorem dL_1406 : decode code 1406 = .ok (.iadd, 1) := by decide +kernel
theorem dL_1407 : decode code 1407 = .ok (.iaload, 1) := by decide +kernel
theorem dL_1408 : decode code 1408 = .ok (.invokevirtual 141, 3) := by decide +kernel
theorem dL_1411 : decode code 1411 = .ok (.if_icmp .eq 74, 3) := by decide +kernel
theorem lz_c28 {b L : Nat} {xs : Nat → Int32} {i : Int32} {h : ai_H} (hi : ∀ v : Nat, v < 8 → vp_in (i + nI v) L) (J : JI h) (hr1 : h.1 + 11 ≤ room_1.cells) (hr2 : h.2.1 + 3917 ≤ room_1.slots) (kx : ∀ h2, JI h2 → h2.1 ≤ h.1 + 11 → h2.2.1 ≤ h.2.1 + 3917 → lz_R b L xs 1485 [.retAddr 31, .ref 0, .ref 307, .int i] [] h2) : lz_R b L xs 1353 [.retAddr 31, .ref 0, .ref 307, .int i] [] h := by
  obtain ⟨r, h1, h2, ⟨v, rfl⟩, m1, m2, ⟨fs1, e1⟩, J2, s1, s2⟩ := js_later (xs (i + nI 1).toNatClampNeg) (xs (i + nI 2).toNatClampNeg) (xs (i + nI 3).toNatClampNeg) (xs (i + nI 4).toNatClampNeg) (xs (i + nI 5).toNatClampNeg) h J
  have a1 := m1.1
  have a2 := m2.1
  obtain ⟨q0, fs0, e0⟩ := JI_cells J
  refine lz_ald (q := 0) dL_1353 rfl ?_
  refine lz_arg (v := nI 1) dL_1354 dL_1355 dL_1356 dL_1357 dL_1358 (by decide) (hi 1 (by decide)) ?_
  refine lz_arg (v := nI 2) dL_1359 dL_1360 dL_1361 dL_1362 dL_1363 (by decide) (hi 2 (by decide)) ?_
  refine lz_arg (v := nI 3) dL_1364 dL_1365 dL_1366 dL_1367 dL_1368 (by decide) (hi 3 (by decide)) ?_
  refine lz_arg (v := nI 4) dL_1369 dL_1370 dL_1371 dL_1372 dL_1373 (by decide) (hi 4 (by decide)) ?_
  refine lz_arg (v := nI 5) dL_1374 dL_1375 dL_1376 dL_1377 dL_1378 (by decide) (hi 5 (by decide)) ?_
  refine lz_call (as := [.int (xs (i + nI 1).toNatClampNeg), .int (xs (i + nI 2).toNatClampNeg), .int (xs (i + nI 3).toNatClampNeg), .int (xs (i + nI 4).toNatClampNeg), .int (xs (i + nI 5).toNatClampNeg)]) (st := []) (ci := 11) (q := 0) dL_1379 mk_X11_later mlL_138 in_X11_later se_X11_later rfl (by omega) e0 rfl rfl (Nat.le_of_ble_eq_true rfl) m1 (by omega) (by omega) ?_
  show lz_R b L xs 1382 [.retAddr 31, .ref 0, .ref 307, .int i] [.int v] h1
  refine lz_ald (q := 307) dL_1382 rfl ?_
  refine lz_arg (v := nI 1) dL_1383 dL_1384 dL_1385 dL_1386 dL_1387 (by decide) (hi 1 (by decide)) ?_
  refine lz_arg (v := nI 2) dL_1388 dL_1389 dL_1390 dL_1391 dL_1392 (by decide) (hi 2 (by decide)) ?_
  refine lz_arg (v := nI 3) dL_1393 dL_1394 dL_1395 dL_1396 dL_1397 (by decide) (hi 3 (by decide)) ?_
  refine lz_arg (v := nI 4) dL_1398 dL_1399 dL_1400 dL_1401 dL_1402 (by decide) (hi 4 (by decide)) ?_
  refine lz_arg (v := nI 5) dL_1403 dL_1404 dL_1405 dL_1406 dL_1407 (by decide) (hi 5 (by decide)) ?_
  refine lz_call (as := [.int (xs (i + nI 1).toNatClampNeg), .int (xs (i + nI 2).toNatClampNeg), .int (xs (i + nI 3).toNatClampNeg), .int (xs (i + nI 4).toNatClampNeg), .int (xs (i + nI 5).toNatClampNeg)]) (st := [.int v]) (ci := 12) (q := 307) dL_1408 mk_X12_later mlL_141 in_X12_later se_X12_later rfl (by omega) e1 rfl rfl (Nat.le_of_ble_eq_true rfl) m2 (by omega) (by omega) ?_
  show lz_R b L xs 1411 [.retAddr 31, .ref 0, .ref 307, .int i] [.int v, .int v] h2
  refine lz_eqI (tgt := 1485) dL_1411 (by decide) ?_
  exact kx h2 J2 s1 s2
theorem dL_1416 : decode code 1416 = .ok (.aload_n 1, 1) := by decide +kernel
theorem dL_1417 : decode code 1417 = .ok (.aload_n 0, 1) := by decide +kernel
theorem dL_1418 : decode code 1418 = .ok (.iload_n 3, 1) := by decide +kernel
theorem dL_1419 : decode code 1419 = .ok (.iconst 1, 1) := by decide +kernel
theorem dL_1420 : decode code 1420 = .ok (.iadd, 1) := by decide +kernel
theorem dL_1421 : decode code 1421 = .ok (.iaload, 1) := by decide +kernel
theorem dL_1422 : decode code 1422 = .ok (.invokevirtual 142, 3) := by decide +kernel
theorem dL_1425 : decode code 1425 = .ok (.aload_n 2, 1) := by decide +kernel
theorem dL_1426 : decode code 1426 = .ok (.aload_n 0, 1) := by decide +kernel
theorem dL_1427 : decode code 1427 = .ok (.iload_n 3, 1) := by decide +kernel
theorem dL_1428 : decode code 1428 = .ok (.iconst 1, 1) := by decide +kernel
theorem dL_1429 : decode code 1429 = .ok (.iadd, 1) := by decide +kernel
theorem dL_1430 : decode code 1430 = .ok (.iaload, 1) := by decide +kernel
theorem dL_1431 : decode code 1431 = .ok (.invokevirtual 145, 3) := by decide +kernel
theorem dL_1434 : decode code 1434 = .ok (.if_icmp .eq 51, 3) := by decide +kernel
theorem lz_c29 {b L : Nat} {xs : Nat → Int32} {i : Int32} {h : ai_H} (hi : ∀ v : Nat, v < 8 → vp_in (i + nI v) L) (J : JI h) (hr1 : h.1 + 11 ≤ room_1.cells) (hr2 : h.2.1 + 3917 ≤ room_1.slots) (kx : ∀ h2, JI h2 → h2.1 ≤ h.1 + 11 → h2.2.1 ≤ h.2.1 + 3917 → lz_R b L xs 1485 [.retAddr 31, .ref 0, .ref 307, .int i] [] h2) : lz_R b L xs 1416 [.retAddr 31, .ref 0, .ref 307, .int i] [] h := by
  obtain ⟨r, h1, h2, ⟨v, rfl⟩, m1, m2, ⟨fs1, e1⟩, J2, s1, s2⟩ := js_mark (xs (i + nI 1).toNatClampNeg) h J
  have a1 := m1.1
  have a2 := m2.1
  obtain ⟨q0, fs0, e0⟩ := JI_cells J
  refine lz_ald (q := 0) dL_1416 rfl ?_
  refine lz_arg (v := nI 1) dL_1417 dL_1418 dL_1419 dL_1420 dL_1421 (by decide) (hi 1 (by decide)) ?_
  refine lz_call (as := [.int (xs (i + nI 1).toNatClampNeg)]) (st := []) (ci := 11) (q := 0) dL_1422 mk_X11_mark mlL_142 in_X11_mark se_X11_mark rfl (by omega) e0 rfl rfl (Nat.le_of_ble_eq_true rfl) m1 (by omega) (by omega) ?_
  show lz_R b L xs 1425 [.retAddr 31, .ref 0, .ref 307, .int i] [.int v] h1
  refine lz_ald (q := 307) dL_1425 rfl ?_
  refine lz_arg (v := nI 1) dL_1426 dL_1427 dL_1428 dL_1429 dL_1430 (by decide) (hi 1 (by decide)) ?_
  refine lz_call (as := [.int (xs (i + nI 1).toNatClampNeg)]) (st := [.int v]) (ci := 12) (q := 307) dL_1431 mk_X12_mark mlL_145 in_X12_mark se_X12_mark rfl (by omega) e1 rfl rfl (Nat.le_of_ble_eq_true rfl) m2 (by omega) (by omega) ?_
  show lz_R b L xs 1434 [.retAddr 31, .ref 0, .ref 307, .int i] [.int v, .int v] h2
  refine lz_eqI (tgt := 1485) dL_1434 (by decide) ?_
  exact kx h2 J2 s1 s2
theorem dL_1439 : decode code 1439 = .ok (.aload_n 1, 1) := by decide +kernel
theorem dL_1440 : decode code 1440 = .ok (.aload_n 0, 1) := by decide +kernel
theorem dL_1441 : decode code 1441 = .ok (.iload_n 3, 1) := by decide +kernel
theorem dL_1442 : decode code 1442 = .ok (.iconst 1, 1) := by decide +kernel
theorem dL_1443 : decode code 1443 = .ok (.iadd, 1) := by decide +kernel
theorem dL_1444 : decode code 1444 = .ok (.iaload, 1) := by decide +kernel
theorem dL_1445 : decode code 1445 = .ok (.invokevirtual 146, 3) := by decide +kernel
theorem dL_1448 : decode code 1448 = .ok (.aload_n 2, 1) := by decide +kernel
theorem dL_1449 : decode code 1449 = .ok (.aload_n 0, 1) := by decide +kernel
theorem dL_1450 : decode code 1450 = .ok (.iload_n 3, 1) := by decide +kernel
theorem dL_1451 : decode code 1451 = .ok (.iconst 1, 1) := by decide +kernel
theorem dL_1452 : decode code 1452 = .ok (.iadd, 1) := by decide +kernel
theorem dL_1453 : decode code 1453 = .ok (.iaload, 1) := by decide +kernel
theorem dL_1454 : decode code 1454 = .ok (.invokevirtual 149, 3) := by decide +kernel
theorem dL_1457 : decode code 1457 = .ok (.if_icmp .eq 28, 3) := by decide +kernel
theorem lz_c30 {b L : Nat} {xs : Nat → Int32} {i : Int32} {h : ai_H} (hi : ∀ v : Nat, v < 8 → vp_in (i + nI v) L) (J : JI h) (hr1 : h.1 + 11 ≤ room_1.cells) (hr2 : h.2.1 + 3917 ≤ room_1.slots) (kx : ∀ h2, JI h2 → h2.1 ≤ h.1 + 11 → h2.2.1 ≤ h.2.1 + 3917 → lz_R b L xs 1485 [.retAddr 31, .ref 0, .ref 307, .int i] [] h2) : lz_R b L xs 1439 [.retAddr 31, .ref 0, .ref 307, .int i] [] h := by
  obtain ⟨r, h1, h2, ⟨v, rfl⟩, m1, m2, ⟨fs1, e1⟩, J2, s1, s2⟩ := js_back (xs (i + nI 1).toNatClampNeg) h J
  have a1 := m1.1
  have a2 := m2.1
  obtain ⟨q0, fs0, e0⟩ := JI_cells J
  refine lz_ald (q := 0) dL_1439 rfl ?_
  refine lz_arg (v := nI 1) dL_1440 dL_1441 dL_1442 dL_1443 dL_1444 (by decide) (hi 1 (by decide)) ?_
  refine lz_call (as := [.int (xs (i + nI 1).toNatClampNeg)]) (st := []) (ci := 11) (q := 0) dL_1445 mk_X11_back mlL_146 in_X11_back se_X11_back rfl (by omega) e0 rfl rfl (Nat.le_of_ble_eq_true rfl) m1 (by omega) (by omega) ?_
  show lz_R b L xs 1448 [.retAddr 31, .ref 0, .ref 307, .int i] [.int v] h1
  refine lz_ald (q := 307) dL_1448 rfl ?_
  refine lz_arg (v := nI 1) dL_1449 dL_1450 dL_1451 dL_1452 dL_1453 (by decide) (hi 1 (by decide)) ?_
  refine lz_call (as := [.int (xs (i + nI 1).toNatClampNeg)]) (st := [.int v]) (ci := 12) (q := 307) dL_1454 mk_X12_back mlL_149 in_X12_back se_X12_back rfl (by omega) e1 rfl rfl (Nat.le_of_ble_eq_true rfl) m2 (by omega) (by omega) ?_
  show lz_R b L xs 1457 [.retAddr 31, .ref 0, .ref 307, .int i] [.int v, .int v] h2
  refine lz_eqI (tgt := 1485) dL_1457 (by decide) ?_
  exact kx h2 J2 s1 s2
theorem dL_1462 : decode code 1462 = .ok (.aload_n 1, 1) := by decide +kernel
theorem dL_1463 : decode code 1463 = .ok (.aload_n 0, 1) := by decide +kernel
theorem dL_1464 : decode code 1464 = .ok (.iload_n 3, 1) := by decide +kernel
theorem dL_1465 : decode code 1465 = .ok (.iconst 1, 1) := by decide +kernel
theorem dL_1466 : decode code 1466 = .ok (.iadd, 1) := by decide +kernel
theorem dL_1467 : decode code 1467 = .ok (.iaload, 1) := by decide +kernel
theorem dL_1468 : decode code 1468 = .ok (.invokevirtual 150, 3) := by decide +kernel
theorem dL_1471 : decode code 1471 = .ok (.aload_n 2, 1) := by decide +kernel
theorem dL_1472 : decode code 1472 = .ok (.aload_n 0, 1) := by decide +kernel
theorem dL_1473 : decode code 1473 = .ok (.iload_n 3, 1) := by decide +kernel
theorem dL_1474 : decode code 1474 = .ok (.iconst 1, 1) := by decide +kernel
theorem dL_1475 : decode code 1475 = .ok (.iadd, 1) := by decide +kernel
theorem dL_1476 : decode code 1476 = .ok (.iaload, 1) := by decide +kernel
theorem dL_1477 : decode code 1477 = .ok (.invokevirtual 153, 3) := by decide +kernel
theorem dL_1480 : decode code 1480 = .ok (.if_icmp .eq 5, 3) := by decide +kernel
theorem lz_c31 {b L : Nat} {xs : Nat → Int32} {i : Int32} {h : ai_H} (hi : ∀ v : Nat, v < 8 → vp_in (i + nI v) L) (J : JI h) (hr1 : h.1 + 11 ≤ room_1.cells) (hr2 : h.2.1 + 3917 ≤ room_1.slots) (kx : ∀ h2, JI h2 → h2.1 ≤ h.1 + 11 → h2.2.1 ≤ h.2.1 + 3917 → lz_R b L xs 1485 [.retAddr 31, .ref 0, .ref 307, .int i] [] h2) : lz_R b L xs 1462 [.retAddr 31, .ref 0, .ref 307, .int i] [] h := by
  obtain ⟨r, h1, h2, ⟨v, rfl⟩, m1, m2, ⟨fs1, e1⟩, J2, s1, s2⟩ := js_count (xs (i + nI 1).toNatClampNeg) h J
  have a1 := m1.1
  have a2 := m2.1
  obtain ⟨q0, fs0, e0⟩ := JI_cells J
  refine lz_ald (q := 0) dL_1462 rfl ?_
  refine lz_arg (v := nI 1) dL_1463 dL_1464 dL_1465 dL_1466 dL_1467 (by decide) (hi 1 (by decide)) ?_
  refine lz_call (as := [.int (xs (i + nI 1).toNatClampNeg)]) (st := []) (ci := 11) (q := 0) dL_1468 mk_X11_count mlL_150 in_X11_count se_X11_count rfl (by omega) e0 rfl rfl (Nat.le_of_ble_eq_true rfl) m1 (by omega) (by omega) ?_
  show lz_R b L xs 1471 [.retAddr 31, .ref 0, .ref 307, .int i] [.int v] h1
  refine lz_ald (q := 307) dL_1471 rfl ?_
  refine lz_arg (v := nI 1) dL_1472 dL_1473 dL_1474 dL_1475 dL_1476 (by decide) (hi 1 (by decide)) ?_
  refine lz_call (as := [.int (xs (i + nI 1).toNatClampNeg)]) (st := [.int v]) (ci := 12) (q := 307) dL_1477 mk_X12_count mlL_153 in_X12_count se_X12_count rfl (by omega) e1 rfl rfl (Nat.le_of_ble_eq_true rfl) m2 (by omega) (by omega) ?_
  show lz_R b L xs 1480 [.retAddr 31, .ref 0, .ref 307, .int i] [.int v, .int v] h2
  refine lz_eqI (tgt := 1485) dL_1480 (by decide) ?_
  exact kx h2 J2 s1 s2
