section LW9
variable {z : xk} {l : Launch} {D : va_G} {ca : Nat → ClassId} {ad : Nat → Nat} {V U : Nat → Nat} {sc : Nat → Int32} {ia : Nat → Nat → Int32} {la : Nat → Nat → Int64} {N0 : Nat} {sa : Nat → Nat} {b L it : Nat} {xs : Nat → Int32}
set_option maxHeartbeats 4000000 in
set_option maxRecDepth 100000 in
theorem lw_c22 (C : xC z cL_law RL 7) (F : xF z l room_1 D (xty ca)) (Y : xY0 z N0 sa) (S : xSc z b L xs) (hl : l.stackTraces = false) (hN0 : ∀ i, i < 187 → N0 ≤ ad i) (h : LIq V U sc ia la) (hit : 8 * it + 8 ≤ L) (hL : L ≤ 4096) (kk : ∀ V U sc ia la, LIq V U sc ia la → xK z (xw ad (cm ad ca (V, U, sc, ia, la)) 187) (187 + (it + 1)) (3613 + 6 * (it + 1)) 1586 [(4, .int (nI (8 * it))), (3, .ref (ad 186)), (2, .ref (ad 174)), (1, .ref (ad 0)), (0, .ref b)] []) : xK z (xw ad (cm ad ca (V, U, sc, ia, la)) 187) (187 + it) (3613 + 6 * it) 1315 [(4, .int (nI (8 * it))), (3, .ref (ad 186)), (2, .ref (ad 174)), (1, .ref (ad 0)), (0, .ref b)] [] := by
  obtain ⟨hN, hF, hW, hU, hP, hO, hR, hS⟩ := h
  have hN9 := hN
  obtain ⟨T, hT, hM, hB⟩ := hN9
  have hcs : 187 + it ≤ room_1.cells ∧ 3613 + 6 * it ≤ room_1.slots := by show 187 + it ≤ 603072 ∧ 3613 + 6 * it ≤ 7215210; omega
  have hcs' : 187 + it + 1 ≤ room_1.cells ∧ 3613 + 6 * it + 6 ≤ room_1.slots := by show 187 + it + 1 ≤ 603072 ∧ 3613 + 6 * it + 6 ≤ 7215210; omega
  have hF9 := hF
  obtain ⟨fp, fq, hFC, hFM, hFB⟩ := hF9
  refine k_aload_n (pc := 1315) C dL_law_1315 rfl 3 rfl ?_
  refine k_arg (pc := 1316) C S 1 4 0 rfl rfl (by omega) dL_law_1316 dL_law_1317 dL_law_1319 (by decide) dL_law_1320 dL_law_1321 ?_
  refine k_arg (pc := 1322) C S 2 4 0 rfl rfl (by omega) dL_law_1322 dL_law_1323 dL_law_1325 (by decide) dL_law_1326 dL_law_1327 ?_
  refine k_arg (pc := 1328) C S 3 4 0 rfl rfl (by omega) dL_law_1328 dL_law_1329 dL_law_1331 (by decide) dL_law_1332 dL_law_1333 ?_
  refine k_arg (pc := 1334) C S 4 4 0 rfl rfl (by omega) dL_law_1334 dL_law_1335 dL_law_1337 (by decide) dL_law_1338 dL_law_1339 ?_
  refine cvF_L_132 (pc := 1340) C F hcs (c6_give hT hB hFC hFB) rfl (by decide) cm_0 ⟨by decide, by decide⟩ rfl (Nat.le_of_ble_eq_true rfl) dL_law_1340 (fun r1340 M1340 h1340 => ?_)
  obtain ⟨V1, rfl, e6, h6, -⟩ := h1340
  refine k_aload_n (pc := 1343) C dL_law_1343 rfl 2 rfl ?_
  refine k_arg (pc := 1344) C S 1 4 0 rfl rfl (by omega) dL_law_1344 dL_law_1345 dL_law_1347 (by decide) dL_law_1348 dL_law_1349 ?_
  refine k_arg (pc := 1350) C S 2 4 0 rfl rfl (by omega) dL_law_1350 dL_law_1351 dL_law_1353 (by decide) dL_law_1354 dL_law_1355 ?_
  refine k_arg (pc := 1356) C S 3 4 0 rfl rfl (by omega) dL_law_1356 dL_law_1357 dL_law_1359 (by decide) dL_law_1360 dL_law_1361 ?_
  refine k_arg (pc := 1362) C S 4 4 0 rfl rfl (by omega) dL_law_1362 dL_law_1363 dL_law_1365 (by decide) dL_law_1366 dL_law_1367 ?_
  refine cvF_L_135 (pc := 1368) C F hcs (c7_give hM hB hFM hFB) rfl (by decide) cm_174 ⟨by decide, by decide⟩ rfl (Nat.le_of_ble_eq_true rfl) dL_law_1368 (fun r1368 M1368 h1368 => ?_)
  obtain ⟨U1, rfl, e7, h7, -⟩ := h1368
  refine k_icmp_eq (pc := 1371) (tgt := 1586) C dL_law_1371 (by decide) (fun _ => ?_) (fun c => absurd (e6.trans e7.symm) c)
  refine k_widen (cs' := 187 + (it + 1)) (ss' := 3613 + 6 * (it + 1)) (by omega) (by omega) ?_
  exact kk V1 U1 sc ia la (⟨⟨_, h6, h7, sGive_TB hB hFB _ _ _ _⟩, hF, hW, hU, hP, hO, hR, hS⟩)
set_option maxHeartbeats 4000000 in
set_option maxRecDepth 100000 in
theorem lw_c23 (C : xC z cL_law RL 7) (F : xF z l room_1 D (xty ca)) (Y : xY0 z N0 sa) (S : xSc z b L xs) (hl : l.stackTraces = false) (hN0 : ∀ i, i < 187 → N0 ≤ ad i) (h : LIq V U sc ia la) (hit : 8 * it + 8 ≤ L) (hL : L ≤ 4096) (kk : ∀ V U sc ia la, LIq V U sc ia la → xK z (xw ad (cm ad ca (V, U, sc, ia, la)) 187) (187 + (it + 1)) (3613 + 6 * (it + 1)) 1586 [(4, .int (nI (8 * it))), (3, .ref (ad 186)), (2, .ref (ad 174)), (1, .ref (ad 0)), (0, .ref b)] []) : xK z (xw ad (cm ad ca (V, U, sc, ia, la)) 187) (187 + it) (3613 + 6 * it) 1376 [(4, .int (nI (8 * it))), (3, .ref (ad 186)), (2, .ref (ad 174)), (1, .ref (ad 0)), (0, .ref b)] [] := by
  obtain ⟨hN, hF, hW, hU, hP, hO, hR, hS⟩ := h
  have hN9 := hN
  obtain ⟨T, hT, hM, hB⟩ := hN9
  have hcs : 187 + it ≤ room_1.cells ∧ 3613 + 6 * it ≤ room_1.slots := by show 187 + it ≤ 603072 ∧ 3613 + 6 * it ≤ 7215210; omega
  have hcs' : 187 + it + 1 ≤ room_1.cells ∧ 3613 + 6 * it + 6 ≤ room_1.slots := by show 187 + it + 1 ≤ 603072 ∧ 3613 + 6 * it + 6 ≤ 7215210; omega
  have hF9 := hF
  obtain ⟨fp, fq, hFC, hFM, hFB⟩ := hF9
  refine k_aload_n (pc := 1376) C dL_law_1376 rfl 3 rfl ?_
  refine k_arg (pc := 1377) C S 1 4 0 rfl rfl (by omega) dL_law_1377 dL_law_1378 dL_law_1380 (by decide) dL_law_1381 dL_law_1382 ?_
  refine k_arg (pc := 1383) C S 2 4 0 rfl rfl (by omega) dL_law_1383 dL_law_1384 dL_law_1386 (by decide) dL_law_1387 dL_law_1388 ?_
  refine k_arg (pc := 1389) C S 3 4 0 rfl rfl (by omega) dL_law_1389 dL_law_1390 dL_law_1392 (by decide) dL_law_1393 dL_law_1394 ?_
  refine k_arg (pc := 1395) C S 4 4 0 rfl rfl (by omega) dL_law_1395 dL_law_1396 dL_law_1398 (by decide) dL_law_1399 dL_law_1400 ?_
  refine cvF_L_136 (pc := 1401) C F hcs (c6_ask hT hB hFC hFB) rfl (by decide) cm_0 ⟨by decide, by decide⟩ rfl (Nat.le_of_ble_eq_true rfl) dL_law_1401 (fun r1401 M1401 h1401 => ?_)
  obtain ⟨V1, rfl, e6, h6⟩ := h1401
  refine k_aload_n (pc := 1404) C dL_law_1404 rfl 2 rfl ?_
  refine k_arg (pc := 1405) C S 1 4 0 rfl rfl (by omega) dL_law_1405 dL_law_1406 dL_law_1408 (by decide) dL_law_1409 dL_law_1410 ?_
  refine k_arg (pc := 1411) C S 2 4 0 rfl rfl (by omega) dL_law_1411 dL_law_1412 dL_law_1414 (by decide) dL_law_1415 dL_law_1416 ?_
  refine k_arg (pc := 1417) C S 3 4 0 rfl rfl (by omega) dL_law_1417 dL_law_1418 dL_law_1420 (by decide) dL_law_1421 dL_law_1422 ?_
  refine k_arg (pc := 1423) C S 4 4 0 rfl rfl (by omega) dL_law_1423 dL_law_1424 dL_law_1426 (by decide) dL_law_1427 dL_law_1428 ?_
  refine cvF_L_139 (pc := 1429) C F hcs (c7_ask hM hB hFM hFB) rfl (by decide) cm_174 ⟨by decide, by decide⟩ rfl (Nat.le_of_ble_eq_true rfl) dL_law_1429 (fun r1429 M1429 h1429 => ?_)
  obtain ⟨U1, rfl, e7, h7⟩ := h1429
  refine k_icmp_eq (pc := 1432) (tgt := 1586) C dL_law_1432 (by decide) (fun _ => ?_) (fun c => absurd (e6.trans e7.symm) c)
  refine k_widen (cs' := 187 + (it + 1)) (ss' := 3613 + 6 * (it + 1)) (by omega) (by omega) ?_
  exact kk V1 U1 sc ia la (⟨⟨_, h6, h7, sAsk_TB hB _ _ _ _⟩, hF, hW, hU, hP, hO, hR, hS⟩)
set_option maxHeartbeats 4000000 in
set_option maxRecDepth 100000 in
theorem lw_c24 (C : xC z cL_law RL 7) (F : xF z l room_1 D (xty ca)) (Y : xY0 z N0 sa) (S : xSc z b L xs) (hl : l.stackTraces = false) (hN0 : ∀ i, i < 187 → N0 ≤ ad i) (h : LIq V U sc ia la) (hit : 8 * it + 8 ≤ L) (hL : L ≤ 4096) (kk : ∀ V U sc ia la, LIq V U sc ia la → xK z (xw ad (cm ad ca (V, U, sc, ia, la)) 187) (187 + (it + 1)) (3613 + 6 * (it + 1)) 1586 [(4, .int (nI (8 * it))), (3, .ref (ad 186)), (2, .ref (ad 174)), (1, .ref (ad 0)), (0, .ref b)] []) : xK z (xw ad (cm ad ca (V, U, sc, ia, la)) 187) (187 + it) (3613 + 6 * it) 1437 [(4, .int (nI (8 * it))), (3, .ref (ad 186)), (2, .ref (ad 174)), (1, .ref (ad 0)), (0, .ref b)] [] := by
  obtain ⟨hN, hF, hW, hU, hP, hO, hR, hS⟩ := h
  have hN9 := hN
  obtain ⟨T, hT, hM, hB⟩ := hN9
  have hcs : 187 + it ≤ room_1.cells ∧ 3613 + 6 * it ≤ room_1.slots := by show 187 + it ≤ 603072 ∧ 3613 + 6 * it ≤ 7215210; omega
  have hcs' : 187 + it + 1 ≤ room_1.cells ∧ 3613 + 6 * it + 6 ≤ room_1.slots := by show 187 + it + 1 ≤ 603072 ∧ 3613 + 6 * it + 6 ≤ 7215210; omega
  refine k_aload_n (pc := 1437) C dL_law_1437 rfl 3 rfl ?_
  refine k_arg (pc := 1438) C S 1 4 0 rfl rfl (by omega) dL_law_1438 dL_law_1439 dL_law_1441 (by decide) dL_law_1442 dL_law_1443 ?_
  refine k_arg (pc := 1444) C S 2 4 0 rfl rfl (by omega) dL_law_1444 dL_law_1445 dL_law_1447 (by decide) dL_law_1448 dL_law_1449 ?_
  refine k_arg (pc := 1450) C S 3 4 0 rfl rfl (by omega) dL_law_1450 dL_law_1451 dL_law_1453 (by decide) dL_law_1454 dL_law_1455 ?_
  refine cvF_L_140 (pc := 1456) C F hcs (c6_see hT hB) rfl (by decide) cm_0 ⟨by decide, by decide⟩ rfl (Nat.le_of_ble_eq_true rfl) dL_law_1456 (fun r1456 M1456 h1456 => ?_)
  obtain ⟨V1, rfl, e6, h6⟩ := h1456
  refine k_aload_n (pc := 1459) C dL_law_1459 rfl 2 rfl ?_
  refine k_arg (pc := 1460) C S 1 4 0 rfl rfl (by omega) dL_law_1460 dL_law_1461 dL_law_1463 (by decide) dL_law_1464 dL_law_1465 ?_
  refine k_arg (pc := 1466) C S 2 4 0 rfl rfl (by omega) dL_law_1466 dL_law_1467 dL_law_1469 (by decide) dL_law_1470 dL_law_1471 ?_
  refine k_arg (pc := 1472) C S 3 4 0 rfl rfl (by omega) dL_law_1472 dL_law_1473 dL_law_1475 (by decide) dL_law_1476 dL_law_1477 ?_
  refine cvF_L_143 (pc := 1478) C F hcs (c7_see hM hB) rfl (by decide) cm_174 ⟨by decide, by decide⟩ rfl (Nat.le_of_ble_eq_true rfl) dL_law_1478 (fun r1478 M1478 h1478 => ?_)
  obtain ⟨U1, rfl, e7, h7⟩ := h1478
  refine k_icmp_eq (pc := 1481) (tgt := 1586) C dL_law_1481 (by decide) (fun _ => ?_) (fun c => absurd (e6.trans e7.symm) c)
  refine k_widen (cs' := 187 + (it + 1)) (ss' := 3613 + 6 * (it + 1)) (by omega) (by omega) ?_
  exact kk V1 U1 sc ia la (⟨⟨_, h6, h7, sSee_TB hB _ _ _⟩, hF, hW, hU, hP, hO, hR, hS⟩)
set_option maxHeartbeats 4000000 in
set_option maxRecDepth 100000 in
theorem lw_c25 (C : xC z cL_law RL 7) (F : xF z l room_1 D (xty ca)) (Y : xY0 z N0 sa) (S : xSc z b L xs) (hl : l.stackTraces = false) (hN0 : ∀ i, i < 187 → N0 ≤ ad i) (h : LIq V U sc ia la) (hit : 8 * it + 8 ≤ L) (hL : L ≤ 4096) (kk : ∀ V U sc ia la, LIq V U sc ia la → xK z (xw ad (cm ad ca (V, U, sc, ia, la)) 187) (187 + (it + 1)) (3613 + 6 * (it + 1)) 1586 [(4, .int (nI (8 * it))), (3, .ref (ad 186)), (2, .ref (ad 174)), (1, .ref (ad 0)), (0, .ref b)] []) : xK z (xw ad (cm ad ca (V, U, sc, ia, la)) 187) (187 + it) (3613 + 6 * it) 1486 [(4, .int (nI (8 * it))), (3, .ref (ad 186)), (2, .ref (ad 174)), (1, .ref (ad 0)), (0, .ref b)] [] := by
  obtain ⟨hN, hF, hW, hU, hP, hO, hR, hS⟩ := h
  have hN9 := hN
  obtain ⟨T, hT, hM, hB⟩ := hN9
  have hcs : 187 + it ≤ room_1.cells ∧ 3613 + 6 * it ≤ room_1.slots := by show 187 + it ≤ 603072 ∧ 3613 + 6 * it ≤ 7215210; omega
  have hcs' : 187 + it + 1 ≤ room_1.cells ∧ 3613 + 6 * it + 6 ≤ room_1.slots := by show 187 + it + 1 ≤ 603072 ∧ 3613 + 6 * it + 6 ≤ 7215210; omega
  have hR9 := hR
  obtain ⟨n, hn9, hn1, hn2, hn3⟩ := hR9
  by_cases cw : inR (xs (8 * it + 1)) 5
  rotate_left
  · refine k_aload_n (pc := 1486) C dL_law_1486 rfl 3 rfl ?_
    refine k_arg (pc := 1487) C S 1 4 0 rfl rfl (by omega) dL_law_1487 dL_law_1488 dL_law_1490 (by decide) dL_law_1491 dL_law_1492 ?_
    refine k_arg (pc := 1493) C S 2 4 0 rfl rfl (by omega) dL_law_1493 dL_law_1494 dL_law_1496 (by decide) dL_law_1497 dL_law_1498 ?_
    refine k_arg (pc := 1499) C S 3 4 0 rfl rfl (by omega) dL_law_1499 dL_law_1500 dL_law_1502 (by decide) dL_law_1503 dL_law_1504 ?_
    refine k_arg (pc := 1505) C S 4 4 0 rfl rfl (by omega) dL_law_1505 dL_law_1506 dL_law_1508 (by decide) dL_law_1509 dL_law_1510 ?_
    refine cvF_L_144 (pc := 1511) C F hcs (c6_later hn1 hn9) rfl (by decide) cm_0 ⟨by decide, by decide⟩ rfl (Nat.le_of_ble_eq_true rfl) dL_law_1511 (fun r1511 M1511 h1511 => ?_)
    rw [if_neg cw] at h1511
    obtain ⟨e6, rfl⟩ := h1511
    refine k_aload_n (pc := 1514) C dL_law_1514 rfl 2 rfl ?_
    refine k_arg (pc := 1515) C S 1 4 0 rfl rfl (by omega) dL_law_1515 dL_law_1516 dL_law_1518 (by decide) dL_law_1519 dL_law_1520 ?_
    refine k_arg (pc := 1521) C S 2 4 0 rfl rfl (by omega) dL_law_1521 dL_law_1522 dL_law_1524 (by decide) dL_law_1525 dL_law_1526 ?_
    refine k_arg (pc := 1527) C S 3 4 0 rfl rfl (by omega) dL_law_1527 dL_law_1528 dL_law_1530 (by decide) dL_law_1531 dL_law_1532 ?_
    refine k_arg (pc := 1533) C S 4 4 0 rfl rfl (by omega) dL_law_1533 dL_law_1534 dL_law_1536 (by decide) dL_law_1537 dL_law_1538 ?_
    refine cvF_L_147 (pc := 1539) C F hcs (c7_later hn2 hn9) rfl (by decide) cm_174 ⟨by decide, by decide⟩ rfl (Nat.le_of_ble_eq_true rfl) dL_law_1539 (fun r1539 M1539 h1539 => ?_)
    rw [if_neg cw] at h1539
    obtain ⟨e7, rfl⟩ := h1539
    refine k_icmp_eq (pc := 1542) (tgt := 1586) C dL_law_1542 (by decide) (fun _ => ?_) (fun c => absurd (e6.trans e7.symm) c)
    refine k_widen (cs' := 187 + (it + 1)) (ss' := 3613 + 6 * (it + 1)) (by omega) (by omega) ?_
    exact kk V U sc ia la (⟨hN, hF, hW, hU, hP, hO, hR, hS⟩)
  by_cases cn : n = 12
  · refine k_aload_n (pc := 1486) C dL_law_1486 rfl 3 rfl ?_
    refine k_arg (pc := 1487) C S 1 4 0 rfl rfl (by omega) dL_law_1487 dL_law_1488 dL_law_1490 (by decide) dL_law_1491 dL_law_1492 ?_
    refine k_arg (pc := 1493) C S 2 4 0 rfl rfl (by omega) dL_law_1493 dL_law_1494 dL_law_1496 (by decide) dL_law_1497 dL_law_1498 ?_
    refine k_arg (pc := 1499) C S 3 4 0 rfl rfl (by omega) dL_law_1499 dL_law_1500 dL_law_1502 (by decide) dL_law_1503 dL_law_1504 ?_
    refine k_arg (pc := 1505) C S 4 4 0 rfl rfl (by omega) dL_law_1505 dL_law_1506 dL_law_1508 (by decide) dL_law_1509 dL_law_1510 ?_
    refine cvF_L_144 (pc := 1511) C F hcs (c6_later hn1 hn9) rfl (by decide) cm_0 ⟨by decide, by decide⟩ rfl (Nat.le_of_ble_eq_true rfl) dL_law_1511 (fun r1511 M1511 h1511 => ?_)
    rw [if_pos cw, if_pos cn] at h1511
    obtain ⟨e6, rfl⟩ := h1511
    refine k_aload_n (pc := 1514) C dL_law_1514 rfl 2 rfl ?_
    refine k_arg (pc := 1515) C S 1 4 0 rfl rfl (by omega) dL_law_1515 dL_law_1516 dL_law_1518 (by decide) dL_law_1519 dL_law_1520 ?_
    refine k_arg (pc := 1521) C S 2 4 0 rfl rfl (by omega) dL_law_1521 dL_law_1522 dL_law_1524 (by decide) dL_law_1525 dL_law_1526 ?_
    refine k_arg (pc := 1527) C S 3 4 0 rfl rfl (by omega) dL_law_1527 dL_law_1528 dL_law_1530 (by decide) dL_law_1531 dL_law_1532 ?_
    refine k_arg (pc := 1533) C S 4 4 0 rfl rfl (by omega) dL_law_1533 dL_law_1534 dL_law_1536 (by decide) dL_law_1537 dL_law_1538 ?_
    refine cvF_L_147 (pc := 1539) C F hcs (c7_later hn2 hn9) rfl (by decide) cm_174 ⟨by decide, by decide⟩ rfl (Nat.le_of_ble_eq_true rfl) dL_law_1539 (fun r1539 M1539 h1539 => ?_)
    rw [if_pos cw, if_pos cn] at h1539
    obtain ⟨e7, rfl⟩ := h1539
    refine k_icmp_eq (pc := 1542) (tgt := 1586) C dL_law_1542 (by decide) (fun _ => ?_) (fun c => absurd (e6.trans e7.symm) c)
    refine k_widen (cs' := 187 + (it + 1)) (ss' := 3613 + 6 * (it + 1)) (by omega) (by omega) ?_
    exact kk V U sc ia la (⟨hN, hF, hW, hU, hP, hO, hR, hS⟩)
  · refine k_aload_n (pc := 1486) C dL_law_1486 rfl 3 rfl ?_
    refine k_arg (pc := 1487) C S 1 4 0 rfl rfl (by omega) dL_law_1487 dL_law_1488 dL_law_1490 (by decide) dL_law_1491 dL_law_1492 ?_
    refine k_arg (pc := 1493) C S 2 4 0 rfl rfl (by omega) dL_law_1493 dL_law_1494 dL_law_1496 (by decide) dL_law_1497 dL_law_1498 ?_
    refine k_arg (pc := 1499) C S 3 4 0 rfl rfl (by omega) dL_law_1499 dL_law_1500 dL_law_1502 (by decide) dL_law_1503 dL_law_1504 ?_
    refine k_arg (pc := 1505) C S 4 4 0 rfl rfl (by omega) dL_law_1505 dL_law_1506 dL_law_1508 (by decide) dL_law_1509 dL_law_1510 ?_
    refine cvF_L_144 (pc := 1511) C F hcs (c6_later hn1 hn9) rfl (by decide) cm_0 ⟨by decide, by decide⟩ rfl (Nat.le_of_ble_eq_true rfl) dL_law_1511 (fun r1511 M1511 h1511 => ?_)
    rw [if_pos cw, if_neg cn] at h1511
    obtain ⟨e6, ia1, rfl, a0, a1, a2, a3, I6⟩ := h1511
    refine k_aload_n (pc := 1514) C dL_law_1514 rfl 2 rfl ?_
    refine k_arg (pc := 1515) C S 1 4 0 rfl rfl (by omega) dL_law_1515 dL_law_1516 dL_law_1518 (by decide) dL_law_1519 dL_law_1520 ?_
    refine k_arg (pc := 1521) C S 2 4 0 rfl rfl (by omega) dL_law_1521 dL_law_1522 dL_law_1524 (by decide) dL_law_1525 dL_law_1526 ?_
    refine k_arg (pc := 1527) C S 3 4 0 rfl rfl (by omega) dL_law_1527 dL_law_1528 dL_law_1530 (by decide) dL_law_1531 dL_law_1532 ?_
    refine k_arg (pc := 1533) C S 4 4 0 rfl rfl (by omega) dL_law_1533 dL_law_1534 dL_law_1536 (by decide) dL_law_1537 dL_law_1538 ?_
    refine cvF_L_147 (pc := 1539) C F hcs (c7_later (by rw [va_up_ne _ _ (by decide)]; exact hn2) hn9) rfl (by decide) cm_174 ⟨by decide, by decide⟩ rfl (Nat.le_of_ble_eq_true rfl) dL_law_1539 (fun r1539 M1539 h1539 => ?_)
    rw [if_pos cw, if_neg cn] at h1539
    obtain ⟨e7, ia2, rfl, b0, b1, b2, b3, I7⟩ := h1539
    have S1 : ∀ k, k ≠ 0 → k ≠ 35 → va_up (va_up sc 0 (nI (n + 1))) 35 (nI (n + 1)) k = sc k := fun k a b => by rw [va_up_ne _ _ b, va_up_ne _ _ a]
    have I1 : ∀ k, k ≠ 162 + n → (k < 181 ∨ 184 < k) → ia2 k = ia k := fun k a b => (I7 k b).trans (I6 k a)
    refine k_icmp_eq (pc := 1542) (tgt := 1586) C dL_law_1542 (by decide) (fun _ => ?_) (fun c => absurd (e6.trans e7.symm) c)
    refine k_widen (cs' := 187 + (it + 1)) (ss' := 3613 + 6 * (it + 1)) (by omega) (by omega) ?_
    exact kk V U _ ia2 la (⟨hN, (hF.to (fun k hk => S1 k (by omega) (by omega)) (I1 177 (by omega) (by omega)) (I1 178 (by omega) (by omega))), hW, (hU.to (S1 1 (by omega) (by omega)) (S1 31 (by omega) (by omega))), (hP.to (S1 20 (by omega) (by omega)) (S1 32 (by omega) (by omega)) (I1 158 (by omega) (by omega)) (I1 179 (by omega) (by omega))), (hO.to (S1 11 (by omega) (by omega)) (S1 34 (by omega) (by omega)) (I1 154 (by omega) (by omega)) (I1 180 (by omega) (by omega))), ⟨n + 1, by omega, by rw [va_up_ne _ _ (by decide), va_up_self], by rw [va_up_self], fun k hk => by
        rw [I7 _ (by omega), b0, b1, b2, b3, I6 181 (by omega), I6 182 (by omega), I6 183 (by omega), I6 184 (by omega)]
        unfold upd
        by_cases hkn : k = n
        · subst hkn
          rw [if_pos rfl, if_pos rfl, if_pos rfl, if_pos rfl]
          exact ⟨a0, a1, a2, a3⟩
        · rw [if_neg hkn, if_neg hkn, if_neg hkn, if_neg hkn, I6 _ (by omega)]
          exact hn3 k (by omega)⟩, (hS.to (S1 2 (by omega) (by omega)) (S1 33 (by omega) (by omega)) (S1 3 (by omega) (by omega)) (S1 36 (by omega) (by omega)) (S1 4 (by omega) (by omega)) (S1 37 (by omega) (by omega)))⟩)
set_option maxHeartbeats 4000000 in
set_option maxRecDepth 100000 in
theorem lw_c26 (C : xC z cL_law RL 7) (F : xF z l room_1 D (xty ca)) (Y : xY0 z N0 sa) (S : xSc z b L xs) (hl : l.stackTraces = false) (hN0 : ∀ i, i < 187 → N0 ≤ ad i) (h : LIq V U sc ia la) (hit : 8 * it + 8 ≤ L) (hL : L ≤ 4096) (kk : ∀ V U sc ia la, LIq V U sc ia la → xK z (xw ad (cm ad ca (V, U, sc, ia, la)) 187) (187 + (it + 1)) (3613 + 6 * (it + 1)) 1586 [(4, .int (nI (8 * it))), (3, .ref (ad 186)), (2, .ref (ad 174)), (1, .ref (ad 0)), (0, .ref b)] []) : xK z (xw ad (cm ad ca (V, U, sc, ia, la)) 187) (187 + it) (3613 + 6 * it) 1547 [(4, .int (nI (8 * it))), (3, .ref (ad 186)), (2, .ref (ad 174)), (1, .ref (ad 0)), (0, .ref b)] [] := by
  obtain ⟨hN, hF, hW, hU, hP, hO, hR, hS⟩ := h
  have hN9 := hN
  obtain ⟨T, hT, hM, hB⟩ := hN9
  have hcs : 187 + it ≤ room_1.cells ∧ 3613 + 6 * it ≤ room_1.slots := by show 187 + it ≤ 603072 ∧ 3613 + 6 * it ≤ 7215210; omega
  have hcs' : 187 + it + 1 ≤ room_1.cells ∧ 3613 + 6 * it + 6 ≤ room_1.slots := by show 187 + it + 1 ≤ 603072 ∧ 3613 + 6 * it + 6 ≤ 7215210; omega
  have hF9 := hF
  obtain ⟨fp, fq, hFC, hFM, hFB⟩ := hF9
  have hR9 := hR
  obtain ⟨n, hn9, hn1, hn2, hn3⟩ := hR9
  refine k_aload_n (pc := 1547) C dL_law_1547 rfl 3 rfl ?_
  refine cvF_L_148 (pc := 1548) C F hcs (c6_done hT hB hFC hFB hn1 hn9 (g := fun k => (ia 181 k, ia 182 k, ia 183 k, ia 184 k)) (fun k hk => hn3 k hk)) rfl (by decide) cm_0 ⟨by decide, by decide⟩ rfl (Nat.le_of_ble_eq_true rfl) dL_law_1548 (fun r1548 M1548 h1548 => ?_)
  obtain ⟨V1, sc1, rfl, e6, h6, a3, a4, a0, f6, S6⟩ := h1548
  refine k_aload_n (pc := 1551) C dL_law_1551 rfl 2 rfl ?_
  refine cvF_L_151 (pc := 1552) C F hcs (c7_done hM hB hFM hFB ((S6 35 (by decide) (by decide) (by decide) (by decide)).trans hn2) hn9 (g := fun k => (ia 181 k, ia 182 k, ia 183 k, ia 184 k)) (fun k hk => ⟨rfl, rfl, rfl, rfl⟩)) rfl (by decide) cm_174 ⟨by decide, by decide⟩ rfl (Nat.le_of_ble_eq_true rfl) dL_law_1552 (fun r1552 M1552 h1552 => ?_)
  obtain ⟨U1, sc2, rfl, e7, h7, b3, b4, b0, S7⟩ := h1552
  have q9 : sc1 36 = sc 3 := (S6 36 (by decide) (by decide) (by decide) (by decide)).trans hS.2.1.symm
  rw [q9] at e7 h7 b3 b4
  have S1 : ∀ k, k < 200 → k ≠ 0 → k ≠ 3 → k ≠ 4 → k ≠ 30 → k ≠ 35 → k ≠ 36 → k ≠ 37 → sc2 k = sc k := fun k h a b c d e f g => (S7 k d e f g).trans (S6 k h a b c)
  refine k_icmp_eq (pc := 1555) (tgt := 1586) C dL_law_1555 (by decide) (fun _ => ?_) (fun c => absurd (e6.trans e7.symm) c)
  refine k_widen (cs' := 187 + (it + 1)) (ss' := 3613 + 6 * (it + 1)) (by omega) (by omega) ?_
  exact kk V1 U1 sc2 ia la (⟨⟨_, h6, h7, sRow_TB hB hFB _ _ _ _ hB⟩, ⟨fp, fq, f6.to (fun k hk => S7 k (by omega) (by omega) (by omega) (by omega)), hFM, hFB⟩, hW, (hU.to (S1 1 (by omega) (by omega) (by omega) (by omega) (by omega) (by omega) (by omega) (by omega)) (S1 31 (by omega) (by omega) (by omega) (by omega) (by omega) (by omega) (by omega) (by omega))), (hP.to (S1 20 (by omega) (by omega) (by omega) (by omega) (by omega) (by omega) (by omega) (by omega)) (S1 32 (by omega) (by omega) (by omega) (by omega) (by omega) (by omega) (by omega) (by omega)) rfl rfl), (hO.to (S1 11 (by omega) (by omega) (by omega) (by omega) (by omega) (by omega) (by omega) (by omega)) (S1 34 (by omega) (by omega) (by omega) (by omega) (by omega) (by omega) (by omega) (by omega)) rfl rfl), ⟨0, by decide, (S7 0 (by decide) (by decide) (by decide) (by decide)).trans (a0.trans nI_0.symm), b0.trans nI_0.symm, fun k hk => absurd hk (by omega)⟩, ⟨by rw [S1 2 (by decide) (by decide) (by decide) (by decide) (by decide) (by decide) (by decide) (by decide), S1 33 (by decide) (by decide) (by decide) (by decide) (by decide) (by decide) (by decide) (by decide)]; exact hS.1, ((S7 3 (by decide) (by decide) (by decide) (by decide)).trans a3).trans b3.symm, ((S7 4 (by decide) (by decide) (by decide) (by decide)).trans a4).trans b4.symm⟩⟩)
set_option maxHeartbeats 4000000 in
set_option maxRecDepth 100000 in
theorem lw_c27 (C : xC z cL_law RL 7) (F : xF z l room_1 D (xty ca)) (Y : xY0 z N0 sa) (S : xSc z b L xs) (hl : l.stackTraces = false) (hN0 : ∀ i, i < 187 → N0 ≤ ad i) (h : LIq V U sc ia la) (hit : 8 * it + 8 ≤ L) (hL : L ≤ 4096) (kk : ∀ V U sc ia la, LIq V U sc ia la → xK z (xw ad (cm ad ca (V, U, sc, ia, la)) 187) (187 + (it + 1)) (3613 + 6 * (it + 1)) 1586 [(4, .int (nI (8 * it))), (3, .ref (ad 186)), (2, .ref (ad 174)), (1, .ref (ad 0)), (0, .ref b)] []) : xK z (xw ad (cm ad ca (V, U, sc, ia, la)) 187) (187 + it) (3613 + 6 * it) 1560 [(4, .int (nI (8 * it))), (3, .ref (ad 186)), (2, .ref (ad 174)), (1, .ref (ad 0)), (0, .ref b)] [] := by
  obtain ⟨hN, hF, hW, hU, hP, hO, hR, hS⟩ := h
  have hN9 := hN
  obtain ⟨T, hT, hM, hB⟩ := hN9
  have hcs : 187 + it ≤ room_1.cells ∧ 3613 + 6 * it ≤ room_1.slots := by show 187 + it ≤ 603072 ∧ 3613 + 6 * it ≤ 7215210; omega
  have hcs' : 187 + it + 1 ≤ room_1.cells ∧ 3613 + 6 * it + 6 ≤ room_1.slots := by show 187 + it + 1 ≤ 603072 ∧ 3613 + 6 * it + 6 ≤ 7215210; omega
  refine k_aload_n (pc := 1560) C dL_law_1560 rfl 3 rfl ?_
  refine cvF_L_152 (pc := 1561) C F hcs (c6_tries) rfl (by decide) cm_0 ⟨by decide, by decide⟩ rfl (Nat.le_of_ble_eq_true rfl) dL_law_1561 (fun r1561 M1561 h1561 => ?_)
  obtain ⟨e6, rfl⟩ := h1561
  refine k_aload_n (pc := 1564) C dL_law_1564 rfl 2 rfl ?_
  refine cvF_L_155 (pc := 1565) C F hcs (c7_tries) rfl (by decide) cm_174 ⟨by decide, by decide⟩ rfl (Nat.le_of_ble_eq_true rfl) dL_law_1565 (fun r1565 M1565 h1565 => ?_)
  obtain ⟨e7, rfl⟩ := h1565
  refine k_icmp_eq (pc := 1568) (tgt := 1586) C dL_law_1568 (by decide) (fun _ => ?_) (fun c => absurd (e6.trans (hS.2.1.trans e7.symm)) c)
  refine k_widen (cs' := 187 + (it + 1)) (ss' := 3613 + 6 * (it + 1)) (by omega) (by omega) ?_
  exact kk V U sc ia la (⟨hN, hF, hW, hU, hP, hO, hR, hS⟩)
set_option maxHeartbeats 4000000 in
set_option maxRecDepth 100000 in
theorem lw_c28 (C : xC z cL_law RL 7) (F : xF z l room_1 D (xty ca)) (Y : xY0 z N0 sa) (S : xSc z b L xs) (hl : l.stackTraces = false) (hN0 : ∀ i, i < 187 → N0 ≤ ad i) (h : LIq V U sc ia la) (hit : 8 * it + 8 ≤ L) (hL : L ≤ 4096) (kk : ∀ V U sc ia la, LIq V U sc ia la → xK z (xw ad (cm ad ca (V, U, sc, ia, la)) 187) (187 + (it + 1)) (3613 + 6 * (it + 1)) 1586 [(4, .int (nI (8 * it))), (3, .ref (ad 186)), (2, .ref (ad 174)), (1, .ref (ad 0)), (0, .ref b)] []) : xK z (xw ad (cm ad ca (V, U, sc, ia, la)) 187) (187 + it) (3613 + 6 * it) 1573 [(4, .int (nI (8 * it))), (3, .ref (ad 186)), (2, .ref (ad 174)), (1, .ref (ad 0)), (0, .ref b)] [] := by
  obtain ⟨hN, hF, hW, hU, hP, hO, hR, hS⟩ := h
  have hN9 := hN
  obtain ⟨T, hT, hM, hB⟩ := hN9
  have hcs : 187 + it ≤ room_1.cells ∧ 3613 + 6 * it ≤ room_1.slots := by show 187 + it ≤ 603072 ∧ 3613 + 6 * it ≤ 7215210; omega
  have hcs' : 187 + it + 1 ≤ room_1.cells ∧ 3613 + 6 * it + 6 ≤ room_1.slots := by show 187 + it + 1 ≤ 603072 ∧ 3613 + 6 * it + 6 ≤ 7215210; omega
  refine k_aload_n (pc := 1573) C dL_law_1573 rfl 3 rfl ?_
  refine cvF_L_156 (pc := 1574) C F hcs (c6_why) rfl (by decide) cm_0 ⟨by decide, by decide⟩ rfl (Nat.le_of_ble_eq_true rfl) dL_law_1574 (fun r1574 M1574 h1574 => ?_)
  obtain ⟨e6, rfl⟩ := h1574
  refine k_aload_n (pc := 1577) C dL_law_1577 rfl 2 rfl ?_
  refine cvF_L_159 (pc := 1578) C F hcs (c7_why) rfl (by decide) cm_174 ⟨by decide, by decide⟩ rfl (Nat.le_of_ble_eq_true rfl) dL_law_1578 (fun r1578 M1578 h1578 => ?_)
  obtain ⟨e7, rfl⟩ := h1578
  refine k_icmp_eq (pc := 1581) (tgt := 1586) C dL_law_1581 (by decide) (fun _ => ?_) (fun c => absurd (e6.trans (hS.2.2.trans e7.symm)) c)
  refine k_widen (cs' := 187 + (it + 1)) (ss' := 3613 + 6 * (it + 1)) (by omega) (by omega) ?_
  exact kk V U sc ia la (⟨hN, hF, hW, hU, hP, hO, hR, hS⟩)
end LW9
