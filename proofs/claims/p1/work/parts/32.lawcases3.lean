set_option maxRecDepth 20000 in
theorem lc_28 {V : VX} {X : MX} {nm : String} {b sb N sa : Nat} {xs : Nat → Int32} {σ : Mem} (F : Fx V X (yLw nm) cL_law 7 ret room_1) (hQ : QW X) (hH : V.2.2 = (x_s X).heap) (hX : va_X sb 6 xs (x_s X) V.2.2) (hb : sb < V.2.2.size) (hl : (x_l X).stackTraces = false) (hT : TW V sa (x_s X)) (hZ : LLz V σ b) (hM : MZ V σ (b + 1457)) : Wm V X 7 N σ 1481 70582 1286 [(4, .int 0), (3, .ref (b + 1480)), (2, .ref (b + 1457)), (1, .ref b), (0, .ref sb)] [] := by
  refine m_aload_n F rfl e_L_law_1286 ?_
  refine m_aload_n F rfl e_L_law_1287 ?_
  refine m_iload F rfl e_L_law_1288 ?_
  refine m_iconst F (v := 1) (by decide) e_L_law_1290 ?_
  refine m_iadd F e_L_law_1291 ?_
  refine Wm.topE (w := 1) (by decide) ?_
  refine m_sld F (j := 1) e_L_law_1292 hX hb (by decide) (by unfold vp_in; decide) ?_
  refine m_aload_n F rfl e_L_law_1293 ?_
  refine m_iload F rfl e_L_law_1294 ?_
  refine m_iconst F (v := 2) (by decide) e_L_law_1296 ?_
  refine m_iadd F e_L_law_1297 ?_
  refine Wm.topE (w := 2) (by decide) ?_
  refine m_sld F (j := 2) e_L_law_1298 hX hb (by decide) (by unfold vp_in; decide) ?_
  refine m_i2l F e_L_law_1299 ?_
  refine m_bipush F (v := 32) (by decide) e_L_law_1300 ?_
  refine m_lshl F e_L_law_1302 ?_
  refine m_aload_n F rfl e_L_law_1303 ?_
  refine m_iload F rfl e_L_law_1304 ?_
  refine m_iconst F (v := 3) (by decide) e_L_law_1306 ?_
  refine m_iadd F e_L_law_1307 ?_
  refine Wm.topE (w := 3) (by decide) ?_
  refine m_sld F (j := 3) e_L_law_1308 hX hb (by decide) (by unfold vp_in; decide) ?_
  refine m_i2l F e_L_law_1309 ?_
  refine m_ldc2 F kc_L_100 e_L_law_1310 ?_
  refine m_land F e_L_law_1313 ?_
  refine m_lor F e_L_law_1314 ?_
  refine m_callV F e_L_law_1315 (ldg_partFor (x_l X) V _ _ b (xs 1) ((((xs 2)).toInt64 <<< ((32 : Int32).toInt64 &&& 63)) ||| (((xs 3)).toInt64 &&& 4294967295)) hZ) cb_X9_partFor ml_L_148 im_X9_partFor se_X9_partFor hZ.1 rfl rfl (rest := []) rfl (Nat.le_of_ble_eq_true rfl) ⟨Nat.le_of_ble_eq_true rfl, Nat.le_of_ble_eq_true rfl⟩ ⟨Nat.le_of_ble_eq_true rfl, Nat.le_of_ble_eq_true rfl⟩ (k' := 1481) (z' := 70582) (N' := N) rfl rfl rfl (fun r τ1 hp => ?_)
  obtain ⟨rfl, hfr⟩ := hp
  replace hM : MZ V τ1 (b + 1457) := hM.keep (fun x g1 _ => hfr x g1)
  refine m_aload_n F rfl e_L_law_1318 ?_
  refine m_aload_n F rfl e_L_law_1319 ?_
  refine m_iload F rfl e_L_law_1320 ?_
  refine m_iconst F (v := 1) (by decide) e_L_law_1322 ?_
  refine m_iadd F e_L_law_1323 ?_
  refine Wm.topE (w := 1) (by decide) ?_
  refine m_sld F (j := 1) e_L_law_1324 hX hb (by decide) (by unfold vp_in; decide) ?_
  refine m_aload_n F rfl e_L_law_1325 ?_
  refine m_iload F rfl e_L_law_1326 ?_
  refine m_iconst F (v := 2) (by decide) e_L_law_1328 ?_
  refine m_iadd F e_L_law_1329 ?_
  refine Wm.topE (w := 2) (by decide) ?_
  refine m_sld F (j := 2) e_L_law_1330 hX hb (by decide) (by unfold vp_in; decide) ?_
  refine m_i2l F e_L_law_1331 ?_
  refine m_bipush F (v := 32) (by decide) e_L_law_1332 ?_
  refine m_lshl F e_L_law_1334 ?_
  refine m_aload_n F rfl e_L_law_1335 ?_
  refine m_iload F rfl e_L_law_1336 ?_
  refine m_iconst F (v := 3) (by decide) e_L_law_1338 ?_
  refine m_iadd F e_L_law_1339 ?_
  refine Wm.topE (w := 3) (by decide) ?_
  refine m_sld F (j := 3) e_L_law_1340 hX hb (by decide) (by unfold vp_in; decide) ?_
  refine m_i2l F e_L_law_1341 ?_
  refine m_ldc2 F kc_L_100 e_L_law_1342 ?_
  refine m_land F e_L_law_1345 ?_
  refine m_lor F e_L_law_1346 ?_
  refine m_callV F e_L_law_1347 (n_partFor (x_l X) V _ _ (b + 1457) (xs 1) ((((xs 2)).toInt64 <<< ((32 : Int32).toInt64 &&& 63)) ||| (((xs 3)).toInt64 &&& 4294967295)) hM) cb_X10_partFor ml_L_152 im_X10_partFor se_X10_partFor hM.1 rfl rfl (rest := [.int (-1)]) rfl (Nat.le_of_ble_eq_true rfl) ⟨Nat.le_of_ble_eq_true rfl, Nat.le_of_ble_eq_true rfl⟩ ⟨Nat.le_of_ble_eq_true rfl, Nat.le_of_ble_eq_true rfl⟩ (k' := 1481) (z' := 70582) (N' := N) rfl rfl rfl (fun r τ2 hp => ?_)
  subst hp
  refine m_icmp_eq F e_L_law_1350 (fun _ => ?_) (fun q => absurd (by decide) q)
  exact m_lbreak F hQ hH hX hb (Nat.le_of_ble_eq_true rfl) (Nat.le_of_ble_eq_true rfl)
set_option maxRecDepth 20000 in
theorem lc_29 {V : VX} {X : MX} {nm : String} {b sb N sa : Nat} {xs : Nat → Int32} {σ : Mem} (F : Fx V X (yLw nm) cL_law 7 ret room_1) (hQ : QW X) (hH : V.2.2 = (x_s X).heap) (hX : va_X sb 6 xs (x_s X) V.2.2) (hb : sb < V.2.2.size) (hl : (x_l X).stackTraces = false) (hT : TW V sa (x_s X)) (hZ : LLz V σ b) (hM : MZ V σ (b + 1457)) : Wm V X 7 N σ 1481 70582 1355 [(4, .int 0), (3, .ref (b + 1480)), (2, .ref (b + 1457)), (1, .ref b), (0, .ref sb)] [] := by
  refine m_aload_n F rfl e_L_law_1355 ?_
  refine m_aload_n F rfl e_L_law_1356 ?_
  refine m_iload F rfl e_L_law_1357 ?_
  refine m_iconst F (v := 1) (by decide) e_L_law_1359 ?_
  refine m_iadd F e_L_law_1360 ?_
  refine Wm.topE (w := 1) (by decide) ?_
  refine m_sld F (j := 1) e_L_law_1361 hX hb (by decide) (by unfold vp_in; decide) ?_
  refine m_aload_n F rfl e_L_law_1362 ?_
  refine m_iload F rfl e_L_law_1363 ?_
  refine m_iconst F (v := 2) (by decide) e_L_law_1365 ?_
  refine m_iadd F e_L_law_1366 ?_
  refine Wm.topE (w := 2) (by decide) ?_
  refine m_sld F (j := 2) e_L_law_1367 hX hb (by decide) (by unfold vp_in; decide) ?_
  refine m_callV F e_L_law_1368 (ldg_latest (x_l X) V _ _ b (xs 1) (xs 2) hZ) cb_X9_latest ml_L_153 im_X9_latest se_X9_latest hZ.1 rfl rfl (rest := []) rfl (Nat.le_of_ble_eq_true rfl) ⟨Nat.le_of_ble_eq_true rfl, Nat.le_of_ble_eq_true rfl⟩ ⟨Nat.le_of_ble_eq_true rfl, Nat.le_of_ble_eq_true rfl⟩ (k' := 1481) (z' := 70582) (N' := N) rfl rfl rfl (fun r τ1 hp => ?_)
  obtain ⟨rfl, hfr⟩ := hp
  replace hM : MZ V τ1 (b + 1457) := hM.keep (fun x g1 _ => hfr x g1)
  refine m_aload_n F rfl e_L_law_1371 ?_
  refine m_aload_n F rfl e_L_law_1372 ?_
  refine m_iload F rfl e_L_law_1373 ?_
  refine m_iconst F (v := 1) (by decide) e_L_law_1375 ?_
  refine m_iadd F e_L_law_1376 ?_
  refine Wm.topE (w := 1) (by decide) ?_
  refine m_sld F (j := 1) e_L_law_1377 hX hb (by decide) (by unfold vp_in; decide) ?_
  refine m_aload_n F rfl e_L_law_1378 ?_
  refine m_iload F rfl e_L_law_1379 ?_
  refine m_iconst F (v := 2) (by decide) e_L_law_1381 ?_
  refine m_iadd F e_L_law_1382 ?_
  refine Wm.topE (w := 2) (by decide) ?_
  refine m_sld F (j := 2) e_L_law_1383 hX hb (by decide) (by unfold vp_in; decide) ?_
  refine m_callV F e_L_law_1384 (n_latest (x_l X) V _ _ (b + 1457) (xs 1) (xs 2) hM) cb_X10_latest ml_L_156 im_X10_latest se_X10_latest hM.1 rfl rfl (rest := [.int (-1)]) rfl (Nat.le_of_ble_eq_true rfl) ⟨Nat.le_of_ble_eq_true rfl, Nat.le_of_ble_eq_true rfl⟩ ⟨Nat.le_of_ble_eq_true rfl, Nat.le_of_ble_eq_true rfl⟩ (k' := 1481) (z' := 70582) (N' := N) rfl rfl rfl (fun r τ2 hp => ?_)
  subst hp
  refine m_icmp_eq F e_L_law_1387 (fun _ => ?_) (fun q => absurd (by decide) q)
  exact m_lbreak F hQ hH hX hb (Nat.le_of_ble_eq_true rfl) (Nat.le_of_ble_eq_true rfl)
set_option maxRecDepth 20000 in
theorem lc_30 {V : VX} {X : MX} {nm : String} {b sb N sa : Nat} {xs : Nat → Int32} {σ : Mem} (F : Fx V X (yLw nm) cL_law 7 ret room_1) (hQ : QW X) (hH : V.2.2 = (x_s X).heap) (hX : va_X sb 6 xs (x_s X) V.2.2) (hb : sb < V.2.2.size) (hl : (x_l X).stackTraces = false) (hT : TW V sa (x_s X)) (hZ : LLz V σ b) (hM : MZ V σ (b + 1457)) : Wm V X 7 N σ 1481 70582 1392 [(4, .int 0), (3, .ref (b + 1480)), (2, .ref (b + 1457)), (1, .ref b), (0, .ref sb)] [] := by
  refine m_aload_n F rfl e_L_law_1392 ?_
  refine m_aload_n F rfl e_L_law_1393 ?_
  refine m_iload F rfl e_L_law_1394 ?_
  refine m_iconst F (v := 1) (by decide) e_L_law_1396 ?_
  refine m_iadd F e_L_law_1397 ?_
  refine Wm.topE (w := 1) (by decide) ?_
  refine m_sld F (j := 1) e_L_law_1398 hX hb (by decide) (by unfold vp_in; decide) ?_
  refine m_callV F e_L_law_1399 (ldg_half (x_l X) V _ _ b (xs 1) hZ) cb_X9_half ml_L_157 im_X9_half se_X9_half hZ.1 rfl rfl (rest := []) rfl (Nat.le_of_ble_eq_true rfl) ⟨Nat.le_of_ble_eq_true rfl, Nat.le_of_ble_eq_true rfl⟩ ⟨Nat.le_of_ble_eq_true rfl, Nat.le_of_ble_eq_true rfl⟩ (k' := 1481) (z' := 70582) (N' := N) rfl rfl rfl (fun r τ1 hp => ?_)
  obtain ⟨rfl, hfr⟩ := hp
  replace hM : MZ V τ1 (b + 1457) := hM.keep (fun x g1 _ => hfr x g1)
  refine m_aload_n F rfl e_L_law_1402 ?_
  refine m_aload_n F rfl e_L_law_1403 ?_
  refine m_iload F rfl e_L_law_1404 ?_
  refine m_iconst F (v := 1) (by decide) e_L_law_1406 ?_
  refine m_iadd F e_L_law_1407 ?_
  refine Wm.topE (w := 1) (by decide) ?_
  refine m_sld F (j := 1) e_L_law_1408 hX hb (by decide) (by unfold vp_in; decide) ?_
  refine m_callV F e_L_law_1409 (n_half (x_l X) V _ _ (b + 1457) (xs 1) hM) cb_X10_half ml_L_160 im_X10_half se_X10_half hM.1 rfl rfl (rest := [.int (-1)]) rfl (Nat.le_of_ble_eq_true rfl) ⟨Nat.le_of_ble_eq_true rfl, Nat.le_of_ble_eq_true rfl⟩ ⟨Nat.le_of_ble_eq_true rfl, Nat.le_of_ble_eq_true rfl⟩ (k' := 1481) (z' := 70582) (N' := N) rfl rfl rfl (fun r τ2 hp => ?_)
  subst hp
  refine m_icmp_eq F e_L_law_1412 (fun _ => ?_) (fun q => absurd (by decide) q)
  exact m_lbreak F hQ hH hX hb (Nat.le_of_ble_eq_true rfl) (Nat.le_of_ble_eq_true rfl)
set_option maxRecDepth 20000 in
theorem lc_31 {V : VX} {X : MX} {nm : String} {b sb N sa : Nat} {xs : Nat → Int32} {σ : Mem} (F : Fx V X (yLw nm) cL_law 7 ret room_1) (hQ : QW X) (hH : V.2.2 = (x_s X).heap) (hX : va_X sb 6 xs (x_s X) V.2.2) (hb : sb < V.2.2.size) (hl : (x_l X).stackTraces = false) (hT : TW V sa (x_s X)) (hZ : LLz V σ b) (hM : MZ V σ (b + 1457)) : Wm V X 7 N σ 1481 70582 1417 [(4, .int 0), (3, .ref (b + 1480)), (2, .ref (b + 1457)), (1, .ref b), (0, .ref sb)] [] := by
  refine m_aload_n F rfl e_L_law_1417 ?_
  refine m_aload_n F rfl e_L_law_1418 ?_
  refine m_iload F rfl e_L_law_1419 ?_
  refine m_iconst F (v := 1) (by decide) e_L_law_1421 ?_
  refine m_iadd F e_L_law_1422 ?_
  refine Wm.topE (w := 1) (by decide) ?_
  refine m_sld F (j := 1) e_L_law_1423 hX hb (by decide) (by unfold vp_in; decide) ?_
  refine m_aload_n F rfl e_L_law_1424 ?_
  refine m_iload F rfl e_L_law_1425 ?_
  refine m_iconst F (v := 2) (by decide) e_L_law_1427 ?_
  refine m_iadd F e_L_law_1428 ?_
  refine Wm.topE (w := 2) (by decide) ?_
  refine m_sld F (j := 2) e_L_law_1429 hX hb (by decide) (by unfold vp_in; decide) ?_
  refine m_callV F e_L_law_1430 (ldg_cash (x_l X) V _ _ b (xs 1) (xs 2) hZ) cb_X9_cash ml_L_161 im_X9_cash se_X9_cash hZ.1 rfl rfl (rest := []) rfl (Nat.le_of_ble_eq_true rfl) ⟨Nat.le_of_ble_eq_true rfl, Nat.le_of_ble_eq_true rfl⟩ ⟨Nat.le_of_ble_eq_true rfl, Nat.le_of_ble_eq_true rfl⟩ (k' := 1481) (z' := 70582) (N' := N) rfl rfl rfl (fun r τ1 hp => ?_)
  obtain ⟨rfl, hfr⟩ := hp
  replace hM : MZ V τ1 (b + 1457) := hM.keep (fun x g1 _ => hfr x g1)
  refine m_aload_n F rfl e_L_law_1433 ?_
  refine m_aload_n F rfl e_L_law_1434 ?_
  refine m_iload F rfl e_L_law_1435 ?_
  refine m_iconst F (v := 1) (by decide) e_L_law_1437 ?_
  refine m_iadd F e_L_law_1438 ?_
  refine Wm.topE (w := 1) (by decide) ?_
  refine m_sld F (j := 1) e_L_law_1439 hX hb (by decide) (by unfold vp_in; decide) ?_
  refine m_aload_n F rfl e_L_law_1440 ?_
  refine m_iload F rfl e_L_law_1441 ?_
  refine m_iconst F (v := 2) (by decide) e_L_law_1443 ?_
  refine m_iadd F e_L_law_1444 ?_
  refine Wm.topE (w := 2) (by decide) ?_
  refine m_sld F (j := 2) e_L_law_1445 hX hb (by decide) (by unfold vp_in; decide) ?_
  refine m_callV F e_L_law_1446 (n_cash (x_l X) V _ _ (b + 1457) (xs 1) (xs 2) hM) cb_X10_cash ml_L_164 im_X10_cash se_X10_cash hM.1 rfl rfl (rest := [.long (if (xs 1) < 0 ∨ 71 < (xs 2) ∨ (xs 2) < (xs 1) then -1 else 0)]) rfl (Nat.le_of_ble_eq_true rfl) ⟨Nat.le_of_ble_eq_true rfl, Nat.le_of_ble_eq_true rfl⟩ ⟨Nat.le_of_ble_eq_true rfl, Nat.le_of_ble_eq_true rfl⟩ (k' := 1481) (z' := 70582) (N' := N) rfl rfl rfl (fun r τ2 hp => ?_)
  subst hp
  refine m_lcmp F e_L_law_1449 ?_
  refine m_if_eq F e_L_law_1450 (fun _ => ?_) (fun q => absurd ((lg_cmp_eq _ _).mpr rfl) q)
  exact m_lbreak F hQ hH hX hb (Nat.le_of_ble_eq_true rfl) (Nat.le_of_ble_eq_true rfl)
set_option maxRecDepth 20000 in
theorem lc_32 {V : VX} {X : MX} {nm : String} {b sb N sa : Nat} {xs : Nat → Int32} {σ : Mem} (F : Fx V X (yLw nm) cL_law 7 ret room_1) (hQ : QW X) (hH : V.2.2 = (x_s X).heap) (hX : va_X sb 6 xs (x_s X) V.2.2) (hb : sb < V.2.2.size) (hl : (x_l X).stackTraces = false) (hT : TW V sa (x_s X)) (hZ : LLz V σ b) (hM : MZ V σ (b + 1457)) : Wm V X 7 N σ 1481 70582 1455 [(4, .int 0), (3, .ref (b + 1480)), (2, .ref (b + 1457)), (1, .ref b), (0, .ref sb)] [] := by
  refine m_aload_n F rfl e_L_law_1455 ?_
  refine m_aload_n F rfl e_L_law_1456 ?_
  refine m_iload F rfl e_L_law_1457 ?_
  refine m_iconst F (v := 1) (by decide) e_L_law_1459 ?_
  refine m_iadd F e_L_law_1460 ?_
  refine Wm.topE (w := 1) (by decide) ?_
  refine m_sld F (j := 1) e_L_law_1461 hX hb (by decide) (by unfold vp_in; decide) ?_
  refine m_aload_n F rfl e_L_law_1462 ?_
  refine m_iload F rfl e_L_law_1463 ?_
  refine m_iconst F (v := 2) (by decide) e_L_law_1465 ?_
  refine m_iadd F e_L_law_1466 ?_
  refine Wm.topE (w := 2) (by decide) ?_
  refine m_sld F (j := 2) e_L_law_1467 hX hb (by decide) (by unfold vp_in; decide) ?_
  refine m_callV F e_L_law_1468 (ldg_ifIndex (x_l X) V _ _ b (xs 1) (xs 2) hZ) cb_X9_ifIndex ml_L_165 im_X9_ifIndex se_X9_ifIndex hZ.1 rfl rfl (rest := []) rfl (Nat.le_of_ble_eq_true rfl) ⟨Nat.le_of_ble_eq_true rfl, Nat.le_of_ble_eq_true rfl⟩ ⟨Nat.le_of_ble_eq_true rfl, Nat.le_of_ble_eq_true rfl⟩ (k' := 1481) (z' := 70582) (N' := N) rfl rfl rfl (fun r τ1 hp => ?_)
  obtain ⟨rfl, hfr⟩ := hp
  replace hM : MZ V τ1 (b + 1457) := hM.keep (fun x g1 _ => hfr x g1)
  refine m_aload_n F rfl e_L_law_1471 ?_
  refine m_aload_n F rfl e_L_law_1472 ?_
  refine m_iload F rfl e_L_law_1473 ?_
  refine m_iconst F (v := 1) (by decide) e_L_law_1475 ?_
  refine m_iadd F e_L_law_1476 ?_
  refine Wm.topE (w := 1) (by decide) ?_
  refine m_sld F (j := 1) e_L_law_1477 hX hb (by decide) (by unfold vp_in; decide) ?_
  refine m_aload_n F rfl e_L_law_1478 ?_
  refine m_iload F rfl e_L_law_1479 ?_
  refine m_iconst F (v := 2) (by decide) e_L_law_1481 ?_
  refine m_iadd F e_L_law_1482 ?_
  refine Wm.topE (w := 2) (by decide) ?_
  refine m_sld F (j := 2) e_L_law_1483 hX hb (by decide) (by unfold vp_in; decide) ?_
  refine m_callV F e_L_law_1484 (n_ifIndex (x_l X) V _ _ (b + 1457) (xs 1) (xs 2) hM) cb_X10_ifIndex ml_L_168 im_X10_ifIndex se_X10_ifIndex hM.1 rfl rfl (rest := [.long (-1)]) rfl (Nat.le_of_ble_eq_true rfl) ⟨Nat.le_of_ble_eq_true rfl, Nat.le_of_ble_eq_true rfl⟩ ⟨Nat.le_of_ble_eq_true rfl, Nat.le_of_ble_eq_true rfl⟩ (k' := 1481) (z' := 70582) (N' := N) rfl rfl rfl (fun r τ2 hp => ?_)
  subst hp
  refine m_lcmp F e_L_law_1487 ?_
  refine Wm.topE (w := 0) (by decide) ?_
  refine m_if_eq F e_L_law_1488 (fun _ => ?_) (fun q => absurd (by decide) q)
  exact m_lbreak F hQ hH hX hb (Nat.le_of_ble_eq_true rfl) (Nat.le_of_ble_eq_true rfl)
set_option maxRecDepth 20000 in
theorem lc_33 {V : VX} {X : MX} {nm : String} {b sb N sa : Nat} {xs : Nat → Int32} {σ : Mem} (F : Fx V X (yLw nm) cL_law 7 ret room_1) (hQ : QW X) (hH : V.2.2 = (x_s X).heap) (hX : va_X sb 6 xs (x_s X) V.2.2) (hb : sb < V.2.2.size) (hl : (x_l X).stackTraces = false) (hT : TW V sa (x_s X)) (hZ : LLz V σ b) (hM : MZ V σ (b + 1457)) : Wm V X 7 N σ 1481 70582 1493 [(4, .int 0), (3, .ref (b + 1480)), (2, .ref (b + 1457)), (1, .ref b), (0, .ref sb)] [] := by
  refine m_aload_n F rfl e_L_law_1493 ?_
  refine m_aload_n F rfl e_L_law_1494 ?_
  refine m_iload F rfl e_L_law_1495 ?_
  refine m_iconst F (v := 1) (by decide) e_L_law_1497 ?_
  refine m_iadd F e_L_law_1498 ?_
  refine Wm.topE (w := 1) (by decide) ?_
  refine m_sld F (j := 1) e_L_law_1499 hX hb (by decide) (by unfold vp_in; decide) ?_
  refine m_callV F e_L_law_1500 (ldg_ifTaken (x_l X) V _ _ b (xs 1) hZ) cb_X9_ifTaken ml_L_169 im_X9_ifTaken se_X9_ifTaken hZ.1 rfl rfl (rest := []) rfl (Nat.le_of_ble_eq_true rfl) ⟨Nat.le_of_ble_eq_true rfl, Nat.le_of_ble_eq_true rfl⟩ ⟨Nat.le_of_ble_eq_true rfl, Nat.le_of_ble_eq_true rfl⟩ (k' := 1481) (z' := 70582) (N' := N) rfl rfl rfl (fun r τ1 hp => ?_)
  obtain ⟨rfl, hfr⟩ := hp
  replace hM : MZ V τ1 (b + 1457) := hM.keep (fun x g1 _ => hfr x g1)
  refine m_aload_n F rfl e_L_law_1503 ?_
  refine m_aload_n F rfl e_L_law_1504 ?_
  refine m_iload F rfl e_L_law_1505 ?_
  refine m_iconst F (v := 1) (by decide) e_L_law_1507 ?_
  refine m_iadd F e_L_law_1508 ?_
  refine Wm.topE (w := 1) (by decide) ?_
  refine m_sld F (j := 1) e_L_law_1509 hX hb (by decide) (by unfold vp_in; decide) ?_
  refine m_callV F e_L_law_1510 (n_ifTaken (x_l X) V _ _ (b + 1457) (xs 1) hM) cb_X10_ifTaken ml_L_172 im_X10_ifTaken se_X10_ifTaken hM.1 rfl rfl (rest := [.long NOA]) rfl (Nat.le_of_ble_eq_true rfl) ⟨Nat.le_of_ble_eq_true rfl, Nat.le_of_ble_eq_true rfl⟩ ⟨Nat.le_of_ble_eq_true rfl, Nat.le_of_ble_eq_true rfl⟩ (k' := 1481) (z' := 70582) (N' := N) rfl rfl rfl (fun r τ2 hp => ?_)
  subst hp
  refine m_lcmp F e_L_law_1513 ?_
  refine m_if_eq F e_L_law_1514 (fun _ => ?_) (fun q => absurd ((lg_cmp_eq _ _).mpr rfl) q)
  exact m_lbreak F hQ hH hX hb (Nat.le_of_ble_eq_true rfl) (Nat.le_of_ble_eq_true rfl)
set_option maxRecDepth 20000 in
theorem lc_34 {V : VX} {X : MX} {nm : String} {b sb N sa : Nat} {xs : Nat → Int32} {σ : Mem} (F : Fx V X (yLw nm) cL_law 7 ret room_1) (hQ : QW X) (hH : V.2.2 = (x_s X).heap) (hX : va_X sb 6 xs (x_s X) V.2.2) (hb : sb < V.2.2.size) (hl : (x_l X).stackTraces = false) (hT : TW V sa (x_s X)) (hZ : LLz V σ b) (hM : MZ V σ (b + 1457)) : Wm V X 7 N σ 1481 70582 1519 [(4, .int 0), (3, .ref (b + 1480)), (2, .ref (b + 1457)), (1, .ref b), (0, .ref sb)] [] := by
  refine m_aload_n F rfl e_L_law_1519 ?_
  refine m_aload_n F rfl e_L_law_1520 ?_
  refine m_iload F rfl e_L_law_1521 ?_
  refine m_iconst F (v := 1) (by decide) e_L_law_1523 ?_
  refine m_iadd F e_L_law_1524 ?_
  refine Wm.topE (w := 1) (by decide) ?_
  refine m_sld F (j := 1) e_L_law_1525 hX hb (by decide) (by unfold vp_in; decide) ?_
  refine m_aload_n F rfl e_L_law_1526 ?_
  refine m_iload F rfl e_L_law_1527 ?_
  refine m_iconst F (v := 2) (by decide) e_L_law_1529 ?_
  refine m_iadd F e_L_law_1530 ?_
  refine Wm.topE (w := 2) (by decide) ?_
  refine m_sld F (j := 2) e_L_law_1531 hX hb (by decide) (by unfold vp_in; decide) ?_
  refine m_aload_n F rfl e_L_law_1532 ?_
  refine m_iload F rfl e_L_law_1533 ?_
  refine m_iconst F (v := 3) (by decide) e_L_law_1535 ?_
  refine m_iadd F e_L_law_1536 ?_
  refine Wm.topE (w := 3) (by decide) ?_
  refine m_sld F (j := 3) e_L_law_1537 hX hb (by decide) (by unfold vp_in; decide) ?_
  refine m_i2l F e_L_law_1538 ?_
  refine m_bipush F (v := 32) (by decide) e_L_law_1539 ?_
  refine m_lshl F e_L_law_1541 ?_
  refine m_aload_n F rfl e_L_law_1542 ?_
  refine m_iload F rfl e_L_law_1543 ?_
  refine m_iconst F (v := 4) (by decide) e_L_law_1545 ?_
  refine m_iadd F e_L_law_1546 ?_
  refine Wm.topE (w := 4) (by decide) ?_
  refine m_sld F (j := 4) e_L_law_1547 hX hb (by decide) (by unfold vp_in; decide) ?_
  refine m_i2l F e_L_law_1548 ?_
  refine m_ldc2 F kc_L_100 e_L_law_1549 ?_
  refine m_land F e_L_law_1552 ?_
  refine m_lor F e_L_law_1553 ?_
  refine m_callV F e_L_law_1554 (ldg_yields (x_l X) V _ _ b (xs 1) (xs 2) ((((xs 3)).toInt64 <<< ((32 : Int32).toInt64 &&& 63)) ||| (((xs 4)).toInt64 &&& 4294967295)) hZ) cb_X9_yields ml_L_173 im_X9_yields se_X9_yields hZ.1 rfl rfl (rest := []) rfl (Nat.le_of_ble_eq_true rfl) ⟨Nat.le_of_ble_eq_true rfl, Nat.le_of_ble_eq_true rfl⟩ ⟨Nat.le_of_ble_eq_true rfl, Nat.le_of_ble_eq_true rfl⟩ (k' := 1481) (z' := 70582) (N' := N) rfl rfl rfl (fun r τ1 hp => ?_)
  obtain ⟨rfl, hfr⟩ := hp
  replace hM : MZ V τ1 (b + 1457) := hM.keep (fun x g1 _ => hfr x g1)
  refine m_aload_n F rfl e_L_law_1557 ?_
  refine m_aload_n F rfl e_L_law_1558 ?_
  refine m_iload F rfl e_L_law_1559 ?_
  refine m_iconst F (v := 1) (by decide) e_L_law_1561 ?_
  refine m_iadd F e_L_law_1562 ?_
  refine Wm.topE (w := 1) (by decide) ?_
  refine m_sld F (j := 1) e_L_law_1563 hX hb (by decide) (by unfold vp_in; decide) ?_
  refine m_aload_n F rfl e_L_law_1564 ?_
  refine m_iload F rfl e_L_law_1565 ?_
  refine m_iconst F (v := 2) (by decide) e_L_law_1567 ?_
  refine m_iadd F e_L_law_1568 ?_
  refine Wm.topE (w := 2) (by decide) ?_
  refine m_sld F (j := 2) e_L_law_1569 hX hb (by decide) (by unfold vp_in; decide) ?_
  refine m_aload_n F rfl e_L_law_1570 ?_
  refine m_iload F rfl e_L_law_1571 ?_
  refine m_iconst F (v := 3) (by decide) e_L_law_1573 ?_
  refine m_iadd F e_L_law_1574 ?_
  refine Wm.topE (w := 3) (by decide) ?_
  refine m_sld F (j := 3) e_L_law_1575 hX hb (by decide) (by unfold vp_in; decide) ?_
  refine m_i2l F e_L_law_1576 ?_
  refine m_bipush F (v := 32) (by decide) e_L_law_1577 ?_
  refine m_lshl F e_L_law_1579 ?_
  refine m_aload_n F rfl e_L_law_1580 ?_
  refine m_iload F rfl e_L_law_1581 ?_
  refine m_iconst F (v := 4) (by decide) e_L_law_1583 ?_
  refine m_iadd F e_L_law_1584 ?_
  refine Wm.topE (w := 4) (by decide) ?_
  refine m_sld F (j := 4) e_L_law_1585 hX hb (by decide) (by unfold vp_in; decide) ?_
  refine m_i2l F e_L_law_1586 ?_
  refine m_ldc2 F kc_L_100 e_L_law_1587 ?_
  refine m_land F e_L_law_1590 ?_
  refine m_lor F e_L_law_1591 ?_
  refine m_callV F e_L_law_1592 (n_yields (x_l X) V _ _ (b + 1457) (xs 1) (xs 2) ((((xs 3)).toInt64 <<< ((32 : Int32).toInt64 &&& 63)) ||| (((xs 4)).toInt64 &&& 4294967295)) hM) cb_X10_yields ml_L_177 im_X10_yields se_X10_yields hM.1 rfl rfl (rest := [.int (-1)]) rfl (Nat.le_of_ble_eq_true rfl) ⟨Nat.le_of_ble_eq_true rfl, Nat.le_of_ble_eq_true rfl⟩ ⟨Nat.le_of_ble_eq_true rfl, Nat.le_of_ble_eq_true rfl⟩ (k' := 1481) (z' := 70582) (N' := N) rfl rfl rfl (fun r τ2 hp => ?_)
  subst hp
  refine m_icmp_eq F e_L_law_1595 (fun _ => ?_) (fun q => absurd (by decide) q)
  exact m_lbreak F hQ hH hX hb (Nat.le_of_ble_eq_true rfl) (Nat.le_of_ble_eq_true rfl)
set_option maxRecDepth 20000 in
theorem lc_35 {V : VX} {X : MX} {nm : String} {b sb N sa : Nat} {xs : Nat → Int32} {σ : Mem} (F : Fx V X (yLw nm) cL_law 7 ret room_1) (hQ : QW X) (hH : V.2.2 = (x_s X).heap) (hX : va_X sb 6 xs (x_s X) V.2.2) (hb : sb < V.2.2.size) (hl : (x_l X).stackTraces = false) (hT : TW V sa (x_s X)) (hZ : LLz V σ b) (hM : MZ V σ (b + 1457)) : Wm V X 7 N σ 1481 70582 1600 [(4, .int 0), (3, .ref (b + 1480)), (2, .ref (b + 1457)), (1, .ref b), (0, .ref sb)] [] := by
  refine m_aload_n F rfl e_L_law_1600 ?_
  refine m_aload_n F rfl e_L_law_1601 ?_
  refine m_iload F rfl e_L_law_1602 ?_
  refine m_iconst F (v := 1) (by decide) e_L_law_1604 ?_
  refine m_iadd F e_L_law_1605 ?_
  refine Wm.topE (w := 1) (by decide) ?_
  refine m_sld F (j := 1) e_L_law_1606 hX hb (by decide) (by unfold vp_in; decide) ?_
  refine m_aload_n F rfl e_L_law_1607 ?_
  refine m_iload F rfl e_L_law_1608 ?_
  refine m_iconst F (v := 2) (by decide) e_L_law_1610 ?_
  refine m_iadd F e_L_law_1611 ?_
  refine Wm.topE (w := 2) (by decide) ?_
  refine m_sld F (j := 2) e_L_law_1612 hX hb (by decide) (by unfold vp_in; decide) ?_
  refine m_i2l F e_L_law_1613 ?_
  refine m_bipush F (v := 32) (by decide) e_L_law_1614 ?_
  refine m_lshl F e_L_law_1616 ?_
  refine m_aload_n F rfl e_L_law_1617 ?_
  refine m_iload F rfl e_L_law_1618 ?_
  refine m_iconst F (v := 3) (by decide) e_L_law_1620 ?_
  refine m_iadd F e_L_law_1621 ?_
  refine Wm.topE (w := 3) (by decide) ?_
  refine m_sld F (j := 3) e_L_law_1622 hX hb (by decide) (by unfold vp_in; decide) ?_
  refine m_i2l F e_L_law_1623 ?_
  refine m_ldc2 F kc_L_100 e_L_law_1624 ?_
  refine m_land F e_L_law_1627 ?_
  refine m_lor F e_L_law_1628 ?_
  refine m_callV F e_L_law_1629 (ldg_level (x_l X) V _ _ b (xs 1) ((((xs 2)).toInt64 <<< ((32 : Int32).toInt64 &&& 63)) ||| (((xs 3)).toInt64 &&& 4294967295)) hZ) cb_X9_level ml_L_178 im_X9_level se_X9_level hZ.1 rfl rfl (rest := []) rfl (Nat.le_of_ble_eq_true rfl) ⟨Nat.le_of_ble_eq_true rfl, Nat.le_of_ble_eq_true rfl⟩ ⟨Nat.le_of_ble_eq_true rfl, Nat.le_of_ble_eq_true rfl⟩ (k' := 1481) (z' := 70582) (N' := N) rfl rfl rfl (fun r τ1 hp => ?_)
  obtain ⟨rfl, hfr⟩ := hp
  replace hM : MZ V τ1 (b + 1457) := hM.keep (fun x g1 _ => hfr x g1)
  refine m_aload_n F rfl e_L_law_1632 ?_
  refine m_aload_n F rfl e_L_law_1633 ?_
  refine m_iload F rfl e_L_law_1634 ?_
  refine m_iconst F (v := 1) (by decide) e_L_law_1636 ?_
  refine m_iadd F e_L_law_1637 ?_
  refine Wm.topE (w := 1) (by decide) ?_
  refine m_sld F (j := 1) e_L_law_1638 hX hb (by decide) (by unfold vp_in; decide) ?_
  refine m_aload_n F rfl e_L_law_1639 ?_
  refine m_iload F rfl e_L_law_1640 ?_
  refine m_iconst F (v := 2) (by decide) e_L_law_1642 ?_
  refine m_iadd F e_L_law_1643 ?_
  refine Wm.topE (w := 2) (by decide) ?_
  refine m_sld F (j := 2) e_L_law_1644 hX hb (by decide) (by unfold vp_in; decide) ?_
  refine m_i2l F e_L_law_1645 ?_
  refine m_bipush F (v := 32) (by decide) e_L_law_1646 ?_
  refine m_lshl F e_L_law_1648 ?_
  refine m_aload_n F rfl e_L_law_1649 ?_
  refine m_iload F rfl e_L_law_1650 ?_
  refine m_iconst F (v := 3) (by decide) e_L_law_1652 ?_
  refine m_iadd F e_L_law_1653 ?_
  refine Wm.topE (w := 3) (by decide) ?_
  refine m_sld F (j := 3) e_L_law_1654 hX hb (by decide) (by unfold vp_in; decide) ?_
  refine m_i2l F e_L_law_1655 ?_
  refine m_ldc2 F kc_L_100 e_L_law_1656 ?_
  refine m_land F e_L_law_1659 ?_
  refine m_lor F e_L_law_1660 ?_
  refine m_callV F e_L_law_1661 (n_level (x_l X) V _ _ (b + 1457) (xs 1) ((((xs 2)).toInt64 <<< ((32 : Int32).toInt64 &&& 63)) ||| (((xs 3)).toInt64 &&& 4294967295)) hM) cb_X10_level ml_L_181 im_X10_level se_X10_level hM.1 rfl rfl (rest := [.int (-1)]) rfl (Nat.le_of_ble_eq_true rfl) ⟨Nat.le_of_ble_eq_true rfl, Nat.le_of_ble_eq_true rfl⟩ ⟨Nat.le_of_ble_eq_true rfl, Nat.le_of_ble_eq_true rfl⟩ (k' := 1481) (z' := 70582) (N' := N) rfl rfl rfl (fun r τ2 hp => ?_)
  subst hp
  refine m_icmp_eq F e_L_law_1664 (fun _ => ?_) (fun q => absurd (by decide) q)
  exact m_lbreak F hQ hH hX hb (Nat.le_of_ble_eq_true rfl) (Nat.le_of_ble_eq_true rfl)
set_option maxRecDepth 20000 in
theorem lc_36 {V : VX} {X : MX} {nm : String} {b sb N sa : Nat} {xs : Nat → Int32} {σ : Mem} (F : Fx V X (yLw nm) cL_law 7 ret room_1) (hQ : QW X) (hH : V.2.2 = (x_s X).heap) (hX : va_X sb 6 xs (x_s X) V.2.2) (hb : sb < V.2.2.size) (hl : (x_l X).stackTraces = false) (hT : TW V sa (x_s X)) (hZ : LLz V σ b) (hM : MZ V σ (b + 1457)) : Wm V X 7 N σ 1481 70582 1669 [(4, .int 0), (3, .ref (b + 1480)), (2, .ref (b + 1457)), (1, .ref b), (0, .ref sb)] [] := by
  refine m_aload_n F rfl e_L_law_1669 ?_
  refine m_callV F e_L_law_1670 (ldg_heaviest (x_l X) V _ _ b  hZ) cb_X9_heaviest ml_L_182 im_X9_heaviest se_X9_heaviest hZ.1 rfl rfl (rest := []) rfl (Nat.le_of_ble_eq_true rfl) ⟨Nat.le_of_ble_eq_true rfl, Nat.le_of_ble_eq_true rfl⟩ ⟨Nat.le_of_ble_eq_true rfl, Nat.le_of_ble_eq_true rfl⟩ (k' := 1481) (z' := 70582) (N' := N) rfl rfl rfl (fun r τ1 hp => ?_)
  obtain ⟨rfl, hfr⟩ := hp
  replace hM : MZ V τ1 (b + 1457) := hM.keep (fun x g1 _ => hfr x g1)
  refine m_aload_n F rfl e_L_law_1673 ?_
  refine m_callV F e_L_law_1674 (n_heaviest (x_l X) V _ _ (b + 1457)  hM) cb_X10_heaviest ml_L_185 im_X10_heaviest se_X10_heaviest hM.1 rfl rfl (rest := [.int (-2)]) rfl (Nat.le_of_ble_eq_true rfl) ⟨Nat.le_of_ble_eq_true rfl, Nat.le_of_ble_eq_true rfl⟩ ⟨Nat.le_of_ble_eq_true rfl, Nat.le_of_ble_eq_true rfl⟩ (k' := 1481) (z' := 70582) (N' := N) rfl rfl rfl (fun r τ2 hp => ?_)
  subst hp
  refine m_icmp_eq F e_L_law_1677 (fun _ => ?_) (fun q => absurd (by decide) q)
  exact m_lbreak F hQ hH hX hb (Nat.le_of_ble_eq_true rfl) (Nat.le_of_ble_eq_true rfl)
set_option maxRecDepth 20000 in
theorem lc_37 {V : VX} {X : MX} {nm : String} {b sb N sa : Nat} {xs : Nat → Int32} {σ : Mem} (F : Fx V X (yLw nm) cL_law 7 ret room_1) (hQ : QW X) (hH : V.2.2 = (x_s X).heap) (hX : va_X sb 6 xs (x_s X) V.2.2) (hb : sb < V.2.2.size) (hl : (x_l X).stackTraces = false) (hT : TW V sa (x_s X)) (hZ : LLz V σ b) (hM : MZ V σ (b + 1457)) : Wm V X 7 N σ 1481 70582 1682 [(4, .int 0), (3, .ref (b + 1480)), (2, .ref (b + 1457)), (1, .ref b), (0, .ref sb)] [] := by
  refine m_aload_n F rfl e_L_law_1682 ?_
  refine m_aload_n F rfl e_L_law_1683 ?_
  refine m_iload F rfl e_L_law_1684 ?_
  refine m_iconst F (v := 1) (by decide) e_L_law_1686 ?_
  refine m_iadd F e_L_law_1687 ?_
  refine Wm.topE (w := 1) (by decide) ?_
  refine m_sld F (j := 1) e_L_law_1688 hX hb (by decide) (by unfold vp_in; decide) ?_
  refine m_aload_n F rfl e_L_law_1689 ?_
  refine m_iload F rfl e_L_law_1690 ?_
  refine m_iconst F (v := 2) (by decide) e_L_law_1692 ?_
  refine m_iadd F e_L_law_1693 ?_
  refine Wm.topE (w := 2) (by decide) ?_
  refine m_sld F (j := 2) e_L_law_1694 hX hb (by decide) (by unfold vp_in; decide) ?_
  refine m_aload_n F rfl e_L_law_1695 ?_
  refine m_iload F rfl e_L_law_1696 ?_
  refine m_iconst F (v := 3) (by decide) e_L_law_1698 ?_
  refine m_iadd F e_L_law_1699 ?_
  refine Wm.topE (w := 3) (by decide) ?_
  refine m_sld F (j := 3) e_L_law_1700 hX hb (by decide) (by unfold vp_in; decide) ?_
  refine m_callV F e_L_law_1701 (ldg_chance (x_l X) V _ _ b (xs 1) (xs 2) (xs 3) hZ) cb_X9_chance ml_L_186 im_X9_chance se_X9_chance hZ.1 rfl rfl (rest := []) rfl (Nat.le_of_ble_eq_true rfl) ⟨Nat.le_of_ble_eq_true rfl, Nat.le_of_ble_eq_true rfl⟩ ⟨Nat.le_of_ble_eq_true rfl, Nat.le_of_ble_eq_true rfl⟩ (k' := 1481) (z' := 70582) (N' := N) rfl rfl rfl (fun r τ1 hp => ?_)
  obtain ⟨rfl, hfr⟩ := hp
  replace hM : MZ V τ1 (b + 1457) := hM.keep (fun x g1 _ => hfr x g1)
  refine m_aload_n F rfl e_L_law_1704 ?_
  refine m_aload_n F rfl e_L_law_1705 ?_
  refine m_iload F rfl e_L_law_1706 ?_
  refine m_iconst F (v := 1) (by decide) e_L_law_1708 ?_
  refine m_iadd F e_L_law_1709 ?_
  refine Wm.topE (w := 1) (by decide) ?_
  refine m_sld F (j := 1) e_L_law_1710 hX hb (by decide) (by unfold vp_in; decide) ?_
  refine m_aload_n F rfl e_L_law_1711 ?_
  refine m_iload F rfl e_L_law_1712 ?_
  refine m_iconst F (v := 2) (by decide) e_L_law_1714 ?_
  refine m_iadd F e_L_law_1715 ?_
  refine Wm.topE (w := 2) (by decide) ?_
  refine m_sld F (j := 2) e_L_law_1716 hX hb (by decide) (by unfold vp_in; decide) ?_
  refine m_aload_n F rfl e_L_law_1717 ?_
  refine m_iload F rfl e_L_law_1718 ?_
  refine m_iconst F (v := 3) (by decide) e_L_law_1720 ?_
  refine m_iadd F e_L_law_1721 ?_
  refine Wm.topE (w := 3) (by decide) ?_
  refine m_sld F (j := 3) e_L_law_1722 hX hb (by decide) (by unfold vp_in; decide) ?_
  refine m_callV F e_L_law_1723 (n_chance (x_l X) V _ _ (b + 1457) (xs 1) (xs 2) (xs 3) hM) cb_X10_chance ml_L_189 im_X10_chance se_X10_chance hM.1 rfl rfl (rest := [.long (if (xs 1) < -1 ∨ (xs 2) < 1 ∨ 10 < (xs 2) ∨ (xs 3) < 0 ∨ 2 < (xs 3) then -1 else 0)]) rfl (Nat.le_of_ble_eq_true rfl) ⟨Nat.le_of_ble_eq_true rfl, Nat.le_of_ble_eq_true rfl⟩ ⟨Nat.le_of_ble_eq_true rfl, Nat.le_of_ble_eq_true rfl⟩ (k' := 1481) (z' := 70582) (N' := N) rfl rfl rfl (fun r τ2 hp => ?_)
  subst hp
  refine m_lcmp F e_L_law_1726 ?_
  refine m_if_eq F e_L_law_1727 (fun _ => ?_) (fun q => absurd ((lg_cmp_eq _ _).mpr rfl) q)
  exact m_lbreak F hQ hH hX hb (Nat.le_of_ble_eq_true rfl) (Nat.le_of_ble_eq_true rfl)
set_option maxRecDepth 20000 in
theorem lc_38 {V : VX} {X : MX} {nm : String} {b sb N sa : Nat} {xs : Nat → Int32} {σ : Mem} (F : Fx V X (yLw nm) cL_law 7 ret room_1) (hQ : QW X) (hH : V.2.2 = (x_s X).heap) (hX : va_X sb 6 xs (x_s X) V.2.2) (hb : sb < V.2.2.size) (hl : (x_l X).stackTraces = false) (hT : TW V sa (x_s X)) (hZ : LLz V σ b) (hM : MZ V σ (b + 1457)) : Wm V X 7 N σ 1481 70582 1732 [(4, .int 0), (3, .ref (b + 1480)), (2, .ref (b + 1457)), (1, .ref b), (0, .ref sb)] [] := by
  refine m_aload_n F rfl e_L_law_1732 ?_
  refine m_callV F e_L_law_1733 (ldg_undo (x_l X) V _ _ b  hZ) cb_X9_undo ml_L_190 im_X9_undo se_X9_undo hZ.1 rfl rfl (rest := []) rfl (Nat.le_of_ble_eq_true rfl) ⟨Nat.le_of_ble_eq_true rfl, Nat.le_of_ble_eq_true rfl⟩ ⟨Nat.le_of_ble_eq_true rfl, Nat.le_of_ble_eq_true rfl⟩ (k' := 1481) (z' := 70582) (N' := N) rfl rfl rfl (fun r τ1 hp => ?_)
  obtain ⟨rfl, hfr⟩ := hp
  replace hM : MZ V τ1 (b + 1457) := hM.keep (fun x g1 _ => hfr x g1)
  refine m_aload_n F rfl e_L_law_1736 ?_
  refine m_callV F e_L_law_1737 (n_undo (x_l X) V _ _ (b + 1457)  hM) cb_X10_undo ml_L_193 im_X10_undo se_X10_undo hM.1 rfl rfl (rest := [.int (-1)]) rfl (Nat.le_of_ble_eq_true rfl) ⟨Nat.le_of_ble_eq_true rfl, Nat.le_of_ble_eq_true rfl⟩ ⟨Nat.le_of_ble_eq_true rfl, Nat.le_of_ble_eq_true rfl⟩ (k' := 1481) (z' := 70582) (N' := N) rfl rfl rfl (fun r τ2 hp => ?_)
  subst hp
  refine m_icmp_eq F e_L_law_1740 (fun _ => ?_) (fun q => absurd (by decide) q)
  exact m_lbreak F hQ hH hX hb (Nat.le_of_ble_eq_true rfl) (Nat.le_of_ble_eq_true rfl)
set_option maxRecDepth 20000 in
theorem lc_39 {V : VX} {X : MX} {nm : String} {b sb N sa : Nat} {xs : Nat → Int32} {σ : Mem} (F : Fx V X (yLw nm) cL_law 7 ret room_1) (hQ : QW X) (hH : V.2.2 = (x_s X).heap) (hX : va_X sb 6 xs (x_s X) V.2.2) (hb : sb < V.2.2.size) (hl : (x_l X).stackTraces = false) (hT : TW V sa (x_s X)) (hZ : LLz V σ b) (hM : MZ V σ (b + 1457)) : Wm V X 7 N σ 1481 70582 1745 [(4, .int 0), (3, .ref (b + 1480)), (2, .ref (b + 1457)), (1, .ref b), (0, .ref sb)] [] := by
  refine m_aload_n F rfl e_L_law_1745 ?_
  refine m_callV F e_L_law_1746 (ldg_keep (x_l X) V _ _ b  hZ) cb_X9_keep ml_L_194 im_X9_keep se_X9_keep hZ.1 rfl rfl (rest := []) rfl (Nat.le_of_ble_eq_true rfl) ⟨Nat.le_of_ble_eq_true rfl, Nat.le_of_ble_eq_true rfl⟩ ⟨Nat.le_of_ble_eq_true rfl, Nat.le_of_ble_eq_true rfl⟩ (k' := 1481) (z' := 70582) (N' := N) rfl rfl rfl (fun r τ1 hp => ?_)
  obtain ⟨rfl, hfr⟩ := hp
  replace hM : MZ V τ1 (b + 1457) := hM.keep (fun x g1 _ => hfr x g1)
  refine m_aload_n F rfl e_L_law_1749 ?_
  refine m_callV F e_L_law_1750 (n_keep (x_l X) V _ _ (b + 1457)  hM) cb_X10_keep ml_L_197 im_X10_keep se_X10_keep hM.1 rfl rfl (rest := [.int 0]) rfl (Nat.le_of_ble_eq_true rfl) ⟨Nat.le_of_ble_eq_true rfl, Nat.le_of_ble_eq_true rfl⟩ ⟨Nat.le_of_ble_eq_true rfl, Nat.le_of_ble_eq_true rfl⟩ (k' := 1481) (z' := 70582) (N' := N) rfl rfl rfl (fun r τ2 hp => ?_)
  subst hp
  refine m_icmp_eq F e_L_law_1753 (fun _ => ?_) (fun q => absurd (by decide) q)
  exact m_lbreak F hQ hH hX hb (Nat.le_of_ble_eq_true rfl) (Nat.le_of_ble_eq_true rfl)
set_option maxRecDepth 20000 in
theorem lc_40 {V : VX} {X : MX} {nm : String} {b sb N sa : Nat} {xs : Nat → Int32} {σ : Mem} (F : Fx V X (yLw nm) cL_law 7 ret room_1) (hQ : QW X) (hH : V.2.2 = (x_s X).heap) (hX : va_X sb 6 xs (x_s X) V.2.2) (hb : sb < V.2.2.size) (hl : (x_l X).stackTraces = false) (hT : TW V sa (x_s X)) (hZ : LLz V σ b) (hM : MZ V σ (b + 1457)) : Wm V X 7 N σ 1481 70582 1758 [(4, .int 0), (3, .ref (b + 1480)), (2, .ref (b + 1457)), (1, .ref b), (0, .ref sb)] [] := by
  refine m_aload_n F rfl e_L_law_1758 ?_
  refine m_callV F e_L_law_1759 (ldg_back (x_l X) V _ _ b  hZ) cb_X9_back ml_L_198 im_X9_back se_X9_back hZ.1 rfl rfl (rest := []) rfl (Nat.le_of_ble_eq_true rfl) ⟨Nat.le_of_ble_eq_true rfl, Nat.le_of_ble_eq_true rfl⟩ ⟨Nat.le_of_ble_eq_true rfl, Nat.le_of_ble_eq_true rfl⟩ (k' := 1481) (z' := 70582) (N' := N) rfl rfl rfl (fun r τ1 hp => ?_)
  obtain ⟨rfl, hfr⟩ := hp
  replace hM : MZ V τ1 (b + 1457) := hM.keep (fun x g1 _ => hfr x g1)
  refine m_aload_n F rfl e_L_law_1762 ?_
  refine m_callV F e_L_law_1763 (n_back (x_l X) V _ _ (b + 1457)  hM) cb_X10_back ml_L_201 im_X10_back se_X10_back hM.1 rfl rfl (rest := [.int (-1)]) rfl (Nat.le_of_ble_eq_true rfl) ⟨Nat.le_of_ble_eq_true rfl, Nat.le_of_ble_eq_true rfl⟩ ⟨Nat.le_of_ble_eq_true rfl, Nat.le_of_ble_eq_true rfl⟩ (k' := 1481) (z' := 70582) (N' := N) rfl rfl rfl (fun r τ2 hp => ?_)
  subst hp
  refine m_icmp_eq F e_L_law_1766 (fun _ => ?_) (fun q => absurd (by decide) q)
  exact m_lbreak F hQ hH hX hb (Nat.le_of_ble_eq_true rfl) (Nat.le_of_ble_eq_true rfl)
set_option maxRecDepth 20000 in
theorem lc_41 {V : VX} {X : MX} {nm : String} {b sb N sa : Nat} {xs : Nat → Int32} {σ : Mem} (F : Fx V X (yLw nm) cL_law 7 ret room_1) (hQ : QW X) (hH : V.2.2 = (x_s X).heap) (hX : va_X sb 6 xs (x_s X) V.2.2) (hb : sb < V.2.2.size) (hl : (x_l X).stackTraces = false) (hT : TW V sa (x_s X)) (hZ : LLz V σ b) (hM : MZ V σ (b + 1457)) : Wm V X 7 N σ 1481 70582 1771 [(4, .int 0), (3, .ref (b + 1480)), (2, .ref (b + 1457)), (1, .ref b), (0, .ref sb)] [] := by
  refine m_aload_n F rfl e_L_law_1771 ?_
  refine m_aload_n F rfl e_L_law_1772 ?_
  refine m_iload F rfl e_L_law_1773 ?_
  refine m_iconst F (v := 1) (by decide) e_L_law_1775 ?_
  refine m_iadd F e_L_law_1776 ?_
  refine Wm.topE (w := 1) (by decide) ?_
  refine m_sld F (j := 1) e_L_law_1777 hX hb (by decide) (by unfold vp_in; decide) ?_
  refine m_callV F e_L_law_1778 (ldg_count (x_l X) V _ _ b (xs 1) hZ) cb_X9_count ml_L_202 im_X9_count se_X9_count hZ.1 rfl rfl (rest := []) rfl (Nat.le_of_ble_eq_true rfl) ⟨Nat.le_of_ble_eq_true rfl, Nat.le_of_ble_eq_true rfl⟩ ⟨Nat.le_of_ble_eq_true rfl, Nat.le_of_ble_eq_true rfl⟩ (k' := 1481) (z' := 70582) (N' := N) rfl rfl rfl (fun r τ1 hp => ?_)
  obtain ⟨rfl, hfr⟩ := hp
  replace hM : MZ V τ1 (b + 1457) := hM.keep (fun x g1 _ => hfr x g1)
  refine m_aload_n F rfl e_L_law_1781 ?_
  refine m_aload_n F rfl e_L_law_1782 ?_
  refine m_iload F rfl e_L_law_1783 ?_
  refine m_iconst F (v := 1) (by decide) e_L_law_1785 ?_
  refine m_iadd F e_L_law_1786 ?_
  refine Wm.topE (w := 1) (by decide) ?_
  refine m_sld F (j := 1) e_L_law_1787 hX hb (by decide) (by unfold vp_in; decide) ?_
  refine m_callV F e_L_law_1788 (n_count (x_l X) V _ _ (b + 1457) (xs 1) hM) cb_X10_count ml_L_205 im_X10_count se_X10_count hM.1 rfl rfl (rest := [.int (if (xs 1).toInt < 0 ∨ 7 < (xs 1).toInt then -1 else 0)]) rfl (Nat.le_of_ble_eq_true rfl) ⟨Nat.le_of_ble_eq_true rfl, Nat.le_of_ble_eq_true rfl⟩ ⟨Nat.le_of_ble_eq_true rfl, Nat.le_of_ble_eq_true rfl⟩ (k' := 1481) (z' := 70582) (N' := N) rfl rfl rfl (fun r τ2 hp => ?_)
  subst hp
  refine m_icmp_eq F e_L_law_1791 (fun _ => ?_) (fun q => absurd rfl q)
  exact m_lbreak F hQ hH hX hb (Nat.le_of_ble_eq_true rfl) (Nat.le_of_ble_eq_true rfl)
