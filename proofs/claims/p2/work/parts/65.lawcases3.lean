set_option maxRecDepth 20000 in
theorem lc_28 {V : VX} {X : MX} {nm : String} {b sb N k z i L M T : Nat} {xs : Nat → Int32} {σ : Mem} (F : Fx V X (yLw nm) cL_law 7 ret room_1) (hX : va_X sb L xs (x_s X) V.2.2) (hb : sb < V.2.2.size) (hl : (x_l X).stackTraces = false) (hi : i + 6 ≤ L) (hL : L ≤ 3072) (hk : k ≤ 2100) (hz : z ≤ 80000) (hM : M ≤ 10000000) (hI : IV V b M T σ) (hN : ∀ (N' M' T' : Nat) (σ' : Mem) (k' z' : Nat), k' ≤ k + 1 → z' ≤ z + 6 → M' ≤ M + 10000 → IV V b M' T' σ' → Wm V X 7 N' σ' k' z' 1745 [(4, .int (nI i)), (3, .ref (b + 1480)), (2, .ref (b + 1457)), (1, .ref b), (0, .ref sb)] []) : Wm V X 7 N σ k z 1239 [(4, .int (nI i)), (3, .ref (b + 1480)), (2, .ref (b + 1457)), (1, .ref b), (0, .ref sb)] [] := by
  obtain ⟨hT, hHT, ⟨z0, hout⟩, u, h, P, L0_, ⟨hu, hh, hP, hkk, hm0, hw0, hok⟩, hHR⟩ := hI
  refine m_aload_n F rfl e_L_law_1239 ?_
  refine m_aload_n F rfl e_L_law_1240 ?_
  refine m_iload F rfl e_L_law_1241 ?_
  refine m_iconst F (v := 1) (by decide) e_L_law_1243 ?_
  refine m_iadd F e_L_law_1244 ?_
  refine Wm.topE (w := nI (i + 1)) (nI_add i 1) ?_
  refine m_sld F (j := i + 1) e_L_law_1245 hX hb (nI_clamp (by omega)) (vp_in_nI (by omega) (by omega)) ?_
  refine m_aload_n F rfl e_L_law_1246 ?_
  refine m_iload F rfl e_L_law_1247 ?_
  refine m_iconst F (v := 2) (by decide) e_L_law_1249 ?_
  refine m_iadd F e_L_law_1250 ?_
  refine Wm.topE (w := nI (i + 2)) (nI_add i 2) ?_
  refine m_sld F (j := i + 2) e_L_law_1251 hX hb (nI_clamp (by omega)) (vp_in_nI (by omega) (by omega)) ?_
  refine m_i2l F e_L_law_1252 ?_
  refine Wm.topl (fun x11509 _ => ?_)
  refine m_bipush F (v := 32) (by decide) e_L_law_1253 ?_
  refine m_lshl F e_L_law_1255 ?_
  refine Wm.topl (fun x11510 _ => ?_)
  refine m_aload_n F rfl e_L_law_1256 ?_
  refine m_iload F rfl e_L_law_1257 ?_
  refine m_iconst F (v := 3) (by decide) e_L_law_1259 ?_
  refine m_iadd F e_L_law_1260 ?_
  refine Wm.topE (w := nI (i + 3)) (nI_add i 3) ?_
  refine m_sld F (j := i + 3) e_L_law_1261 hX hb (nI_clamp (by omega)) (vp_in_nI (by omega) (by omega)) ?_
  refine m_i2l F e_L_law_1262 ?_
  refine Wm.topl (fun x11511 _ => ?_)
  refine m_ldc2 F kc_L_96 e_L_law_1263 ?_
  refine m_land F e_L_law_1266 ?_
  refine Wm.topl (fun x11512 _ => ?_)
  refine m_lor F e_L_law_1267 ?_
  refine Wm.topl (fun x11513 _ => ?_)
  refine l_callC F e_L_law_1268 (s_X9_partFor (x_l X) V b M 1 T _ _ b (xs (i + 1)) x11513 hHT kA_b  (by omega)) cb_X9_partFor ml_L_144 im_X9_partFor se_X9_partFor hHT rfl rfl (rest := []) rfl (Nat.le_of_ble_eq_true rfl) ⟨Nat.le_of_ble_eq_true rfl, Nat.le_of_ble_eq_true rfl⟩ (by omega) (by omega) (fun r σ11514 hp => ?_)
  obtain ⟨h11515, x11516, rfl⟩ := hp
  have h11517 := h11515.1
  have h11518 := hHR.keepL (fun a ha _ => h11515.2 a (by rw [show kA _ a = 0 from ha]; decide))
  have h11519 := (h11515.2 (b + 1480) (by rw [show kA _ (b + 1480) = 0 from kA_o]; decide)).trans hout
  refine m_pop F rfl e_L_law_1271 ?_
  refine m_aload_n F rfl e_L_law_1272 ?_
  refine m_aload_n F rfl e_L_law_1273 ?_
  refine m_iload F rfl e_L_law_1274 ?_
  refine m_iconst F (v := 1) (by decide) e_L_law_1276 ?_
  refine m_iadd F e_L_law_1277 ?_
  refine Wm.topE (w := nI (i + 1)) (nI_add i 1) ?_
  refine m_sld F (j := i + 1) e_L_law_1278 hX hb (nI_clamp (by omega)) (vp_in_nI (by omega) (by omega)) ?_
  refine m_aload_n F rfl e_L_law_1279 ?_
  refine m_iload F rfl e_L_law_1280 ?_
  refine m_iconst F (v := 2) (by decide) e_L_law_1282 ?_
  refine m_iadd F e_L_law_1283 ?_
  refine Wm.topE (w := nI (i + 2)) (nI_add i 2) ?_
  refine m_sld F (j := i + 2) e_L_law_1284 hX hb (nI_clamp (by omega)) (vp_in_nI (by omega) (by omega)) ?_
  refine m_i2l F e_L_law_1285 ?_
  refine Wm.topl (fun x11520 _ => ?_)
  refine m_bipush F (v := 32) (by decide) e_L_law_1286 ?_
  refine m_lshl F e_L_law_1288 ?_
  refine Wm.topl (fun x11521 _ => ?_)
  refine m_aload_n F rfl e_L_law_1289 ?_
  refine m_iload F rfl e_L_law_1290 ?_
  refine m_iconst F (v := 3) (by decide) e_L_law_1292 ?_
  refine m_iadd F e_L_law_1293 ?_
  refine Wm.topE (w := nI (i + 3)) (nI_add i 3) ?_
  refine m_sld F (j := i + 3) e_L_law_1294 hX hb (nI_clamp (by omega)) (vp_in_nI (by omega) (by omega)) ?_
  refine m_i2l F e_L_law_1295 ?_
  refine Wm.topl (fun x11522 _ => ?_)
  refine m_ldc2 F kc_L_96 e_L_law_1296 ?_
  refine m_land F e_L_law_1299 ?_
  refine Wm.topl (fun x11523 _ => ?_)
  refine m_lor F e_L_law_1300 ?_
  refine Wm.topl (fun x11524 _ => ?_)
  refine l_callM F e_L_law_1301 (q_X10_partFor (x_l X) V (b + 1457) T 1 u h P L0_ _ _ (xs (i + 1)) x11524 h11518 hok.b hP ) cb_X10_partFor ml_L_148 im_X10_partFor se_X10_partFor h11518 rfl rfl (rest := []) rfl (Nat.le_of_ble_eq_true rfl) ⟨Nat.le_of_ble_eq_true rfl, Nat.le_of_ble_eq_true rfl⟩ (by omega) (by omega) (fun r σ11525 hp => ?_)
  obtain ⟨h11526, x11527, rfl⟩ := hp
  have h11528 := h11526.1
  have h11529 := h11517.keepM (fun a ha => h11526.2 a (by rw [ha]; decide))
  have h11530 := (h11526.2 (b + 1480) (by rw [kC_0 (c := b + 1457) (by omega)]; decide)).trans h11519
  refine m_pop F rfl e_L_law_1304 ?_
  refine m_goto F e_L_law_1305 ?_
  exact hN _ M T _ _ _ (by omega) (by omega) (by omega) ⟨by omega, h11529, ⟨_, h11530⟩, u, h, P, L0_, ⟨hu, hh, hP, hkk, hm0, hw0, hok⟩, h11528⟩
set_option maxRecDepth 20000 in
theorem lc_29 {V : VX} {X : MX} {nm : String} {b sb N k z i L M T : Nat} {xs : Nat → Int32} {σ : Mem} (F : Fx V X (yLw nm) cL_law 7 ret room_1) (hX : va_X sb L xs (x_s X) V.2.2) (hb : sb < V.2.2.size) (hl : (x_l X).stackTraces = false) (hi : i + 6 ≤ L) (hL : L ≤ 3072) (hk : k ≤ 2100) (hz : z ≤ 80000) (hM : M ≤ 10000000) (hI : IV V b M T σ) (hN : ∀ (N' M' T' : Nat) (σ' : Mem) (k' z' : Nat), k' ≤ k + 1 → z' ≤ z + 6 → M' ≤ M + 10000 → IV V b M' T' σ' → Wm V X 7 N' σ' k' z' 1745 [(4, .int (nI i)), (3, .ref (b + 1480)), (2, .ref (b + 1457)), (1, .ref b), (0, .ref sb)] []) : Wm V X 7 N σ k z 1308 [(4, .int (nI i)), (3, .ref (b + 1480)), (2, .ref (b + 1457)), (1, .ref b), (0, .ref sb)] [] := by
  obtain ⟨hT, hHT, ⟨z0, hout⟩, u, h, P, L0_, ⟨hu, hh, hP, hkk, hm0, hw0, hok⟩, hHR⟩ := hI
  refine m_aload_n F rfl e_L_law_1308 ?_
  refine m_aload_n F rfl e_L_law_1309 ?_
  refine m_iload F rfl e_L_law_1310 ?_
  refine m_iconst F (v := 1) (by decide) e_L_law_1312 ?_
  refine m_iadd F e_L_law_1313 ?_
  refine Wm.topE (w := nI (i + 1)) (nI_add i 1) ?_
  refine m_sld F (j := i + 1) e_L_law_1314 hX hb (nI_clamp (by omega)) (vp_in_nI (by omega) (by omega)) ?_
  refine m_aload_n F rfl e_L_law_1315 ?_
  refine m_iload F rfl e_L_law_1316 ?_
  refine m_iconst F (v := 2) (by decide) e_L_law_1318 ?_
  refine m_iadd F e_L_law_1319 ?_
  refine Wm.topE (w := nI (i + 2)) (nI_add i 2) ?_
  refine m_sld F (j := i + 2) e_L_law_1320 hX hb (nI_clamp (by omega)) (vp_in_nI (by omega) (by omega)) ?_
  refine l_callC F e_L_law_1321 (s_X9_latest (x_l X) V b M 1 T _ _ b (xs (i + 1)) (xs (i + 2)) hHT kA_b  (by omega)) cb_X9_latest ml_L_149 im_X9_latest se_X9_latest hHT rfl rfl (rest := []) rfl (Nat.le_of_ble_eq_true rfl) ⟨Nat.le_of_ble_eq_true rfl, Nat.le_of_ble_eq_true rfl⟩ (by omega) (by omega) (fun r σ11531 hp => ?_)
  obtain ⟨h11532, x11533, rfl⟩ := hp
  have h11534 := h11532.1
  have h11535 := hHR.keepL (fun a ha _ => h11532.2 a (by rw [show kA _ a = 0 from ha]; decide))
  have h11536 := (h11532.2 (b + 1480) (by rw [show kA _ (b + 1480) = 0 from kA_o]; decide)).trans hout
  refine m_pop F rfl e_L_law_1324 ?_
  refine m_aload_n F rfl e_L_law_1325 ?_
  refine m_aload_n F rfl e_L_law_1326 ?_
  refine m_iload F rfl e_L_law_1327 ?_
  refine m_iconst F (v := 1) (by decide) e_L_law_1329 ?_
  refine m_iadd F e_L_law_1330 ?_
  refine Wm.topE (w := nI (i + 1)) (nI_add i 1) ?_
  refine m_sld F (j := i + 1) e_L_law_1331 hX hb (nI_clamp (by omega)) (vp_in_nI (by omega) (by omega)) ?_
  refine m_aload_n F rfl e_L_law_1332 ?_
  refine m_iload F rfl e_L_law_1333 ?_
  refine m_iconst F (v := 2) (by decide) e_L_law_1335 ?_
  refine m_iadd F e_L_law_1336 ?_
  refine Wm.topE (w := nI (i + 2)) (nI_add i 2) ?_
  refine m_sld F (j := i + 2) e_L_law_1337 hX hb (nI_clamp (by omega)) (vp_in_nI (by omega) (by omega)) ?_
  refine l_callM F e_L_law_1338 (q_X10_latest (x_l X) V (b + 1457) T 1 u h P L0_ _ _ (xs (i + 1)) (xs (i + 2)) h11535 hok.b hP ) cb_X10_latest ml_L_152 im_X10_latest se_X10_latest h11535 rfl rfl (rest := []) rfl (Nat.le_of_ble_eq_true rfl) ⟨Nat.le_of_ble_eq_true rfl, Nat.le_of_ble_eq_true rfl⟩ (by omega) (by omega) (fun r σ11537 hp => ?_)
  obtain ⟨h11538, x11539, rfl⟩ := hp
  have h11540 := h11538.1
  have h11541 := h11534.keepM (fun a ha => h11538.2 a (by rw [ha]; decide))
  have h11542 := (h11538.2 (b + 1480) (by rw [kC_0 (c := b + 1457) (by omega)]; decide)).trans h11536
  refine m_pop F rfl e_L_law_1341 ?_
  refine m_goto F e_L_law_1342 ?_
  exact hN _ M T _ _ _ (by omega) (by omega) (by omega) ⟨by omega, h11541, ⟨_, h11542⟩, u, h, P, L0_, ⟨hu, hh, hP, hkk, hm0, hw0, hok⟩, h11540⟩
set_option maxRecDepth 20000 in
theorem lc_30 {V : VX} {X : MX} {nm : String} {b sb N k z i L M T : Nat} {xs : Nat → Int32} {σ : Mem} (F : Fx V X (yLw nm) cL_law 7 ret room_1) (hX : va_X sb L xs (x_s X) V.2.2) (hb : sb < V.2.2.size) (hl : (x_l X).stackTraces = false) (hi : i + 6 ≤ L) (hL : L ≤ 3072) (hk : k ≤ 2100) (hz : z ≤ 80000) (hM : M ≤ 10000000) (hI : IV V b M T σ) (hN : ∀ (N' M' T' : Nat) (σ' : Mem) (k' z' : Nat), k' ≤ k + 1 → z' ≤ z + 6 → M' ≤ M + 10000 → IV V b M' T' σ' → Wm V X 7 N' σ' k' z' 1745 [(4, .int (nI i)), (3, .ref (b + 1480)), (2, .ref (b + 1457)), (1, .ref b), (0, .ref sb)] []) : Wm V X 7 N σ k z 1345 [(4, .int (nI i)), (3, .ref (b + 1480)), (2, .ref (b + 1457)), (1, .ref b), (0, .ref sb)] [] := by
  obtain ⟨hT, hHT, ⟨z0, hout⟩, u, h, P, L0_, ⟨hu, hh, hP, hkk, hm0, hw0, hok⟩, hHR⟩ := hI
  refine m_aload_n F rfl e_L_law_1345 ?_
  refine m_aload_n F rfl e_L_law_1346 ?_
  refine m_iload F rfl e_L_law_1347 ?_
  refine m_iconst F (v := 1) (by decide) e_L_law_1349 ?_
  refine m_iadd F e_L_law_1350 ?_
  refine Wm.topE (w := nI (i + 1)) (nI_add i 1) ?_
  refine m_sld F (j := i + 1) e_L_law_1351 hX hb (nI_clamp (by omega)) (vp_in_nI (by omega) (by omega)) ?_
  refine l_callC F e_L_law_1352 (s_X9_half (x_l X) V b M 1 T _ _ b (xs (i + 1)) hHT kA_b  (by omega)) cb_X9_half ml_L_153 im_X9_half se_X9_half hHT rfl rfl (rest := []) rfl (Nat.le_of_ble_eq_true rfl) ⟨Nat.le_of_ble_eq_true rfl, Nat.le_of_ble_eq_true rfl⟩ (by omega) (by omega) (fun r σ11543 hp => ?_)
  obtain ⟨h11544, x11545, rfl⟩ := hp
  have h11546 := h11544.1
  have h11547 := hHR.keepL (fun a ha _ => h11544.2 a (by rw [show kA _ a = 0 from ha]; decide))
  have h11548 := (h11544.2 (b + 1480) (by rw [show kA _ (b + 1480) = 0 from kA_o]; decide)).trans hout
  refine m_pop F rfl e_L_law_1355 ?_
  refine m_aload_n F rfl e_L_law_1356 ?_
  refine m_aload_n F rfl e_L_law_1357 ?_
  refine m_iload F rfl e_L_law_1358 ?_
  refine m_iconst F (v := 1) (by decide) e_L_law_1360 ?_
  refine m_iadd F e_L_law_1361 ?_
  refine Wm.topE (w := nI (i + 1)) (nI_add i 1) ?_
  refine m_sld F (j := i + 1) e_L_law_1362 hX hb (nI_clamp (by omega)) (vp_in_nI (by omega) (by omega)) ?_
  refine l_callM F e_L_law_1363 (q_X10_half (x_l X) V (b + 1457) T 1 u h P L0_ _ _ (xs (i + 1)) h11547 hok hP ) cb_X10_half ml_L_156 im_X10_half se_X10_half h11547 rfl rfl (rest := []) rfl (Nat.le_of_ble_eq_true rfl) ⟨Nat.le_of_ble_eq_true rfl, Nat.le_of_ble_eq_true rfl⟩ (by omega) (by omega) (fun r σ11549 hp => ?_)
  obtain ⟨h11550, x11551, rfl⟩ := hp
  have h11552 := h11550.1
  have h11553 := h11546.keepM (fun a ha => h11550.2 a (by rw [ha]; decide))
  have h11554 := (h11550.2 (b + 1480) (by rw [kC_0 (c := b + 1457) (by omega)]; decide)).trans h11548
  refine m_pop F rfl e_L_law_1366 ?_
  refine m_goto F e_L_law_1367 ?_
  exact hN _ (M + 1400) T _ _ _ (by omega) (by omega) (by omega) ⟨by omega, h11553, ⟨_, h11554⟩, u, h, P, L0_, ⟨hu, hh, hP, hkk, hm0, hw0, hok⟩, h11552⟩
set_option maxRecDepth 20000 in
theorem lc_31 {V : VX} {X : MX} {nm : String} {b sb N k z i L M T : Nat} {xs : Nat → Int32} {σ : Mem} (F : Fx V X (yLw nm) cL_law 7 ret room_1) (hX : va_X sb L xs (x_s X) V.2.2) (hb : sb < V.2.2.size) (hl : (x_l X).stackTraces = false) (hi : i + 6 ≤ L) (hL : L ≤ 3072) (hk : k ≤ 2100) (hz : z ≤ 80000) (hM : M ≤ 10000000) (hI : IV V b M T σ) (hN : ∀ (N' M' T' : Nat) (σ' : Mem) (k' z' : Nat), k' ≤ k + 1 → z' ≤ z + 6 → M' ≤ M + 10000 → IV V b M' T' σ' → Wm V X 7 N' σ' k' z' 1745 [(4, .int (nI i)), (3, .ref (b + 1480)), (2, .ref (b + 1457)), (1, .ref b), (0, .ref sb)] []) : Wm V X 7 N σ k z 1370 [(4, .int (nI i)), (3, .ref (b + 1480)), (2, .ref (b + 1457)), (1, .ref b), (0, .ref sb)] [] := by
  obtain ⟨hT, hHT, ⟨z0, hout⟩, u, h, P, L0_, ⟨hu, hh, hP, hkk, hm0, hw0, hok⟩, hHR⟩ := hI
  refine m_aload_n F rfl e_L_law_1370 ?_
  refine m_aload_n F rfl e_L_law_1371 ?_
  refine m_iload F rfl e_L_law_1372 ?_
  refine m_iconst F (v := 1) (by decide) e_L_law_1374 ?_
  refine m_iadd F e_L_law_1375 ?_
  refine Wm.topE (w := nI (i + 1)) (nI_add i 1) ?_
  refine m_sld F (j := i + 1) e_L_law_1376 hX hb (nI_clamp (by omega)) (vp_in_nI (by omega) (by omega)) ?_
  refine m_aload_n F rfl e_L_law_1377 ?_
  refine m_iload F rfl e_L_law_1378 ?_
  refine m_iconst F (v := 2) (by decide) e_L_law_1380 ?_
  refine m_iadd F e_L_law_1381 ?_
  refine Wm.topE (w := nI (i + 2)) (nI_add i 2) ?_
  refine m_sld F (j := i + 2) e_L_law_1382 hX hb (nI_clamp (by omega)) (vp_in_nI (by omega) (by omega)) ?_
  refine l_callC F e_L_law_1383 (s_X9_cash (x_l X) V b M 1 T _ _ b (xs (i + 1)) (xs (i + 2)) hHT kA_b  (by omega)) cb_X9_cash ml_L_157 im_X9_cash se_X9_cash hHT rfl rfl (rest := []) rfl (Nat.le_of_ble_eq_true rfl) ⟨Nat.le_of_ble_eq_true rfl, Nat.le_of_ble_eq_true rfl⟩ (by omega) (by omega) (fun r σ11555 hp => ?_)
  obtain ⟨h11556, x11557, rfl⟩ := hp
  have h11558 := h11556.1
  have h11559 := hHR.keepL (fun a ha _ => h11556.2 a (by rw [show kA _ a = 0 from ha]; decide))
  have h11560 := (h11556.2 (b + 1480) (by rw [show kA _ (b + 1480) = 0 from kA_o]; decide)).trans hout
  refine m_pop2_2 F rfl e_L_law_1386 ?_
  refine m_aload_n F rfl e_L_law_1387 ?_
  refine m_aload_n F rfl e_L_law_1388 ?_
  refine m_iload F rfl e_L_law_1389 ?_
  refine m_iconst F (v := 1) (by decide) e_L_law_1391 ?_
  refine m_iadd F e_L_law_1392 ?_
  refine Wm.topE (w := nI (i + 1)) (nI_add i 1) ?_
  refine m_sld F (j := i + 1) e_L_law_1393 hX hb (nI_clamp (by omega)) (vp_in_nI (by omega) (by omega)) ?_
  refine m_aload_n F rfl e_L_law_1394 ?_
  refine m_iload F rfl e_L_law_1395 ?_
  refine m_iconst F (v := 2) (by decide) e_L_law_1397 ?_
  refine m_iadd F e_L_law_1398 ?_
  refine Wm.topE (w := nI (i + 2)) (nI_add i 2) ?_
  refine m_sld F (j := i + 2) e_L_law_1399 hX hb (nI_clamp (by omega)) (vp_in_nI (by omega) (by omega)) ?_
  refine l_callM F e_L_law_1400 (q_X10_cash (x_l X) V (b + 1457) T 1 u h P L0_ _ _ (xs (i + 1)) (xs (i + 2)) h11559 hok hP ) cb_X10_cash ml_L_160 im_X10_cash se_X10_cash h11559 rfl rfl (rest := []) rfl (Nat.le_of_ble_eq_true rfl) ⟨Nat.le_of_ble_eq_true rfl, Nat.le_of_ble_eq_true rfl⟩ (by omega) (by omega) (fun r σ11561 hp => ?_)
  obtain ⟨h11562, x11563, rfl⟩ := hp
  have h11564 := h11562.1
  have h11565 := h11558.keepM (fun a ha => h11562.2 a (by rw [ha]; decide))
  have h11566 := (h11562.2 (b + 1480) (by rw [kC_0 (c := b + 1457) (by omega)]; decide)).trans h11560
  refine m_pop2_2 F rfl e_L_law_1403 ?_
  refine m_goto F e_L_law_1404 ?_
  exact hN _ (M + 1400) T _ _ _ (by omega) (by omega) (by omega) ⟨by omega, h11565, ⟨_, h11566⟩, u, h, P, L0_, ⟨hu, hh, hP, hkk, hm0, hw0, hok⟩, h11564⟩
set_option maxRecDepth 20000 in
theorem lc_32 {V : VX} {X : MX} {nm : String} {b sb N k z i L M T : Nat} {xs : Nat → Int32} {σ : Mem} (F : Fx V X (yLw nm) cL_law 7 ret room_1) (hX : va_X sb L xs (x_s X) V.2.2) (hb : sb < V.2.2.size) (hl : (x_l X).stackTraces = false) (hi : i + 6 ≤ L) (hL : L ≤ 3072) (hk : k ≤ 2100) (hz : z ≤ 80000) (hM : M ≤ 10000000) (hI : IV V b M T σ) (hN : ∀ (N' M' T' : Nat) (σ' : Mem) (k' z' : Nat), k' ≤ k + 1 → z' ≤ z + 6 → M' ≤ M + 10000 → IV V b M' T' σ' → Wm V X 7 N' σ' k' z' 1745 [(4, .int (nI i)), (3, .ref (b + 1480)), (2, .ref (b + 1457)), (1, .ref b), (0, .ref sb)] []) : Wm V X 7 N σ k z 1407 [(4, .int (nI i)), (3, .ref (b + 1480)), (2, .ref (b + 1457)), (1, .ref b), (0, .ref sb)] [] := by
  obtain ⟨hT, hHT, ⟨z0, hout⟩, u, h, P, L0_, ⟨hu, hh, hP, hkk, hm0, hw0, hok⟩, hHR⟩ := hI
  refine m_aload_n F rfl e_L_law_1407 ?_
  refine m_aload_n F rfl e_L_law_1408 ?_
  refine m_iload F rfl e_L_law_1409 ?_
  refine m_iconst F (v := 1) (by decide) e_L_law_1411 ?_
  refine m_iadd F e_L_law_1412 ?_
  refine Wm.topE (w := nI (i + 1)) (nI_add i 1) ?_
  refine m_sld F (j := i + 1) e_L_law_1413 hX hb (nI_clamp (by omega)) (vp_in_nI (by omega) (by omega)) ?_
  refine m_aload_n F rfl e_L_law_1414 ?_
  refine m_iload F rfl e_L_law_1415 ?_
  refine m_iconst F (v := 2) (by decide) e_L_law_1417 ?_
  refine m_iadd F e_L_law_1418 ?_
  refine Wm.topE (w := nI (i + 2)) (nI_add i 2) ?_
  refine m_sld F (j := i + 2) e_L_law_1419 hX hb (nI_clamp (by omega)) (vp_in_nI (by omega) (by omega)) ?_
  refine l_callC F e_L_law_1420 (s_X9_ifIndex (x_l X) V b M 1 T _ _ b (xs (i + 1)) (xs (i + 2)) hHT kA_b  (by omega)) cb_X9_ifIndex ml_L_161 im_X9_ifIndex se_X9_ifIndex hHT rfl rfl (rest := []) rfl (Nat.le_of_ble_eq_true rfl) ⟨Nat.le_of_ble_eq_true rfl, Nat.le_of_ble_eq_true rfl⟩ (by omega) (by omega) (fun r σ11567 hp => ?_)
  obtain ⟨h11568, x11569, rfl⟩ := hp
  have h11570 := h11568.1
  have h11571 := hHR.keepL (fun a ha _ => h11568.2 a (by rw [show kA _ a = 0 from ha]; decide))
  have h11572 := (h11568.2 (b + 1480) (by rw [show kA _ (b + 1480) = 0 from kA_o]; decide)).trans hout
  refine m_pop2_2 F rfl e_L_law_1423 ?_
  refine m_aload_n F rfl e_L_law_1424 ?_
  refine m_aload_n F rfl e_L_law_1425 ?_
  refine m_iload F rfl e_L_law_1426 ?_
  refine m_iconst F (v := 1) (by decide) e_L_law_1428 ?_
  refine m_iadd F e_L_law_1429 ?_
  refine Wm.topE (w := nI (i + 1)) (nI_add i 1) ?_
  refine m_sld F (j := i + 1) e_L_law_1430 hX hb (nI_clamp (by omega)) (vp_in_nI (by omega) (by omega)) ?_
  refine m_aload_n F rfl e_L_law_1431 ?_
  refine m_iload F rfl e_L_law_1432 ?_
  refine m_iconst F (v := 2) (by decide) e_L_law_1434 ?_
  refine m_iadd F e_L_law_1435 ?_
  refine Wm.topE (w := nI (i + 2)) (nI_add i 2) ?_
  refine m_sld F (j := i + 2) e_L_law_1436 hX hb (nI_clamp (by omega)) (vp_in_nI (by omega) (by omega)) ?_
  refine l_callM F e_L_law_1437 (q_X10_ifIndex (x_l X) V (b + 1457) T 1 u h P L0_ _ _ (xs (i + 1)) (xs (i + 2)) h11571 hok hP ) cb_X10_ifIndex ml_L_164 im_X10_ifIndex se_X10_ifIndex h11571 rfl rfl (rest := []) rfl (Nat.le_of_ble_eq_true rfl) ⟨Nat.le_of_ble_eq_true rfl, Nat.le_of_ble_eq_true rfl⟩ (by omega) (by omega) (fun r σ11573 hp => ?_)
  obtain ⟨h11574, x11575, rfl⟩ := hp
  have h11576 := h11574.1
  have h11577 := h11570.keepM (fun a ha => h11574.2 a (by rw [ha]; decide))
  have h11578 := (h11574.2 (b + 1480) (by rw [kC_0 (c := b + 1457) (by omega)]; decide)).trans h11572
  refine m_pop2_2 F rfl e_L_law_1440 ?_
  refine m_goto F e_L_law_1441 ?_
  exact hN _ M T _ _ _ (by omega) (by omega) (by omega) ⟨by omega, h11577, ⟨_, h11578⟩, u, h, P, L0_, ⟨hu, hh, hP, hkk, hm0, hw0, hok⟩, h11576⟩
set_option maxRecDepth 20000 in
theorem lc_33 {V : VX} {X : MX} {nm : String} {b sb N k z i L M T : Nat} {xs : Nat → Int32} {σ : Mem} (F : Fx V X (yLw nm) cL_law 7 ret room_1) (hX : va_X sb L xs (x_s X) V.2.2) (hb : sb < V.2.2.size) (hl : (x_l X).stackTraces = false) (hi : i + 6 ≤ L) (hL : L ≤ 3072) (hk : k ≤ 2100) (hz : z ≤ 80000) (hM : M ≤ 10000000) (hI : IV V b M T σ) (hN : ∀ (N' M' T' : Nat) (σ' : Mem) (k' z' : Nat), k' ≤ k + 1 → z' ≤ z + 6 → M' ≤ M + 10000 → IV V b M' T' σ' → Wm V X 7 N' σ' k' z' 1745 [(4, .int (nI i)), (3, .ref (b + 1480)), (2, .ref (b + 1457)), (1, .ref b), (0, .ref sb)] []) : Wm V X 7 N σ k z 1444 [(4, .int (nI i)), (3, .ref (b + 1480)), (2, .ref (b + 1457)), (1, .ref b), (0, .ref sb)] [] := by
  obtain ⟨hT, hHT, ⟨z0, hout⟩, u, h, P, L0_, ⟨hu, hh, hP, hkk, hm0, hw0, hok⟩, hHR⟩ := hI
  refine m_aload_n F rfl e_L_law_1444 ?_
  refine m_aload_n F rfl e_L_law_1445 ?_
  refine m_iload F rfl e_L_law_1446 ?_
  refine m_iconst F (v := 1) (by decide) e_L_law_1448 ?_
  refine m_iadd F e_L_law_1449 ?_
  refine Wm.topE (w := nI (i + 1)) (nI_add i 1) ?_
  refine m_sld F (j := i + 1) e_L_law_1450 hX hb (nI_clamp (by omega)) (vp_in_nI (by omega) (by omega)) ?_
  refine l_callC F e_L_law_1451 (s_X9_ifTaken (x_l X) V b M 1 T _ _ b (xs (i + 1)) hHT kA_b  (by omega)) cb_X9_ifTaken ml_L_165 im_X9_ifTaken se_X9_ifTaken hHT rfl rfl (rest := []) rfl (Nat.le_of_ble_eq_true rfl) ⟨Nat.le_of_ble_eq_true rfl, Nat.le_of_ble_eq_true rfl⟩ (by omega) (by omega) (fun r σ11579 hp => ?_)
  obtain ⟨h11580, x11581, rfl⟩ := hp
  have h11582 := h11580.1
  have h11583 := hHR.keepL (fun a ha _ => h11580.2 a (by rw [show kA _ a = 0 from ha]; decide))
  have h11584 := (h11580.2 (b + 1480) (by rw [show kA _ (b + 1480) = 0 from kA_o]; decide)).trans hout
  refine m_pop2_2 F rfl e_L_law_1454 ?_
  refine m_aload_n F rfl e_L_law_1455 ?_
  refine m_aload_n F rfl e_L_law_1456 ?_
  refine m_iload F rfl e_L_law_1457 ?_
  refine m_iconst F (v := 1) (by decide) e_L_law_1459 ?_
  refine m_iadd F e_L_law_1460 ?_
  refine Wm.topE (w := nI (i + 1)) (nI_add i 1) ?_
  refine m_sld F (j := i + 1) e_L_law_1461 hX hb (nI_clamp (by omega)) (vp_in_nI (by omega) (by omega)) ?_
  refine l_callM F e_L_law_1462 (q_X10_ifTaken (x_l X) V (b + 1457) T 1 u h P L0_ _ _ (xs (i + 1)) h11583 hok hP ) cb_X10_ifTaken ml_L_168 im_X10_ifTaken se_X10_ifTaken h11583 rfl rfl (rest := []) rfl (Nat.le_of_ble_eq_true rfl) ⟨Nat.le_of_ble_eq_true rfl, Nat.le_of_ble_eq_true rfl⟩ (by omega) (by omega) (fun r σ11585 hp => ?_)
  obtain ⟨h11586, x11587, rfl⟩ := hp
  have h11588 := h11586.1
  have h11589 := h11582.keepM (fun a ha => h11586.2 a (by rw [ha]; decide))
  have h11590 := (h11586.2 (b + 1480) (by rw [kC_0 (c := b + 1457) (by omega)]; decide)).trans h11584
  refine m_pop2_2 F rfl e_L_law_1465 ?_
  refine m_goto F e_L_law_1466 ?_
  exact hN _ M T _ _ _ (by omega) (by omega) (by omega) ⟨by omega, h11589, ⟨_, h11590⟩, u, h, P, L0_, ⟨hu, hh, hP, hkk, hm0, hw0, hok⟩, h11588⟩
set_option maxRecDepth 20000 in
theorem lc_34 {V : VX} {X : MX} {nm : String} {b sb N k z i L M T : Nat} {xs : Nat → Int32} {σ : Mem} (F : Fx V X (yLw nm) cL_law 7 ret room_1) (hX : va_X sb L xs (x_s X) V.2.2) (hb : sb < V.2.2.size) (hl : (x_l X).stackTraces = false) (hi : i + 6 ≤ L) (hL : L ≤ 3072) (hk : k ≤ 2100) (hz : z ≤ 80000) (hM : M ≤ 10000000) (hI : IV V b M T σ) (hN : ∀ (N' M' T' : Nat) (σ' : Mem) (k' z' : Nat), k' ≤ k + 1 → z' ≤ z + 6 → M' ≤ M + 10000 → IV V b M' T' σ' → Wm V X 7 N' σ' k' z' 1745 [(4, .int (nI i)), (3, .ref (b + 1480)), (2, .ref (b + 1457)), (1, .ref b), (0, .ref sb)] []) : Wm V X 7 N σ k z 1469 [(4, .int (nI i)), (3, .ref (b + 1480)), (2, .ref (b + 1457)), (1, .ref b), (0, .ref sb)] [] := by
  obtain ⟨hT, hHT, ⟨z0, hout⟩, u, h, P, L0_, ⟨hu, hh, hP, hkk, hm0, hw0, hok⟩, hHR⟩ := hI
  refine m_aload_n F rfl e_L_law_1469 ?_
  refine m_aload_n F rfl e_L_law_1470 ?_
  refine m_iload F rfl e_L_law_1471 ?_
  refine m_iconst F (v := 1) (by decide) e_L_law_1473 ?_
  refine m_iadd F e_L_law_1474 ?_
  refine Wm.topE (w := nI (i + 1)) (nI_add i 1) ?_
  refine m_sld F (j := i + 1) e_L_law_1475 hX hb (nI_clamp (by omega)) (vp_in_nI (by omega) (by omega)) ?_
  refine m_aload_n F rfl e_L_law_1476 ?_
  refine m_iload F rfl e_L_law_1477 ?_
  refine m_iconst F (v := 2) (by decide) e_L_law_1479 ?_
  refine m_iadd F e_L_law_1480 ?_
  refine Wm.topE (w := nI (i + 2)) (nI_add i 2) ?_
  refine m_sld F (j := i + 2) e_L_law_1481 hX hb (nI_clamp (by omega)) (vp_in_nI (by omega) (by omega)) ?_
  refine m_aload_n F rfl e_L_law_1482 ?_
  refine m_iload F rfl e_L_law_1483 ?_
  refine m_iconst F (v := 3) (by decide) e_L_law_1485 ?_
  refine m_iadd F e_L_law_1486 ?_
  refine Wm.topE (w := nI (i + 3)) (nI_add i 3) ?_
  refine m_sld F (j := i + 3) e_L_law_1487 hX hb (nI_clamp (by omega)) (vp_in_nI (by omega) (by omega)) ?_
  refine m_i2l F e_L_law_1488 ?_
  refine Wm.topl (fun x11591 _ => ?_)
  refine m_bipush F (v := 32) (by decide) e_L_law_1489 ?_
  refine m_lshl F e_L_law_1491 ?_
  refine Wm.topl (fun x11592 _ => ?_)
  refine m_aload_n F rfl e_L_law_1492 ?_
  refine m_iload F rfl e_L_law_1493 ?_
  refine m_iconst F (v := 4) (by decide) e_L_law_1495 ?_
  refine m_iadd F e_L_law_1496 ?_
  refine Wm.topE (w := nI (i + 4)) (nI_add i 4) ?_
  refine m_sld F (j := i + 4) e_L_law_1497 hX hb (nI_clamp (by omega)) (vp_in_nI (by omega) (by omega)) ?_
  refine m_i2l F e_L_law_1498 ?_
  refine Wm.topl (fun x11593 _ => ?_)
  refine m_ldc2 F kc_L_96 e_L_law_1499 ?_
  refine m_land F e_L_law_1502 ?_
  refine Wm.topl (fun x11594 _ => ?_)
  refine m_lor F e_L_law_1503 ?_
  refine Wm.topl (fun x11595 _ => ?_)
  refine l_callC F e_L_law_1504 (s_X9_yields (x_l X) V b M 1 T _ _ b (xs (i + 1)) (xs (i + 2)) x11595 hHT kA_b  (by omega)) cb_X9_yields ml_L_169 im_X9_yields se_X9_yields hHT rfl rfl (rest := []) rfl (Nat.le_of_ble_eq_true rfl) ⟨Nat.le_of_ble_eq_true rfl, Nat.le_of_ble_eq_true rfl⟩ (by omega) (by omega) (fun r σ11596 hp => ?_)
  obtain ⟨h11597, x11598, rfl⟩ := hp
  have h11599 := h11597.1
  have h11600 := hHR.keepL (fun a ha _ => h11597.2 a (by rw [show kA _ a = 0 from ha]; decide))
  have h11601 := (h11597.2 (b + 1480) (by rw [show kA _ (b + 1480) = 0 from kA_o]; decide)).trans hout
  refine m_pop F rfl e_L_law_1507 ?_
  refine m_aload_n F rfl e_L_law_1508 ?_
  refine m_aload_n F rfl e_L_law_1509 ?_
  refine m_iload F rfl e_L_law_1510 ?_
  refine m_iconst F (v := 1) (by decide) e_L_law_1512 ?_
  refine m_iadd F e_L_law_1513 ?_
  refine Wm.topE (w := nI (i + 1)) (nI_add i 1) ?_
  refine m_sld F (j := i + 1) e_L_law_1514 hX hb (nI_clamp (by omega)) (vp_in_nI (by omega) (by omega)) ?_
  refine m_aload_n F rfl e_L_law_1515 ?_
  refine m_iload F rfl e_L_law_1516 ?_
  refine m_iconst F (v := 2) (by decide) e_L_law_1518 ?_
  refine m_iadd F e_L_law_1519 ?_
  refine Wm.topE (w := nI (i + 2)) (nI_add i 2) ?_
  refine m_sld F (j := i + 2) e_L_law_1520 hX hb (nI_clamp (by omega)) (vp_in_nI (by omega) (by omega)) ?_
  refine m_aload_n F rfl e_L_law_1521 ?_
  refine m_iload F rfl e_L_law_1522 ?_
  refine m_iconst F (v := 3) (by decide) e_L_law_1524 ?_
  refine m_iadd F e_L_law_1525 ?_
  refine Wm.topE (w := nI (i + 3)) (nI_add i 3) ?_
  refine m_sld F (j := i + 3) e_L_law_1526 hX hb (nI_clamp (by omega)) (vp_in_nI (by omega) (by omega)) ?_
  refine m_i2l F e_L_law_1527 ?_
  refine Wm.topl (fun x11602 _ => ?_)
  refine m_bipush F (v := 32) (by decide) e_L_law_1528 ?_
  refine m_lshl F e_L_law_1530 ?_
  refine Wm.topl (fun x11603 _ => ?_)
  refine m_aload_n F rfl e_L_law_1531 ?_
  refine m_iload F rfl e_L_law_1532 ?_
  refine m_iconst F (v := 4) (by decide) e_L_law_1534 ?_
  refine m_iadd F e_L_law_1535 ?_
  refine Wm.topE (w := nI (i + 4)) (nI_add i 4) ?_
  refine m_sld F (j := i + 4) e_L_law_1536 hX hb (nI_clamp (by omega)) (vp_in_nI (by omega) (by omega)) ?_
  refine m_i2l F e_L_law_1537 ?_
  refine Wm.topl (fun x11604 _ => ?_)
  refine m_ldc2 F kc_L_96 e_L_law_1538 ?_
  refine m_land F e_L_law_1541 ?_
  refine Wm.topl (fun x11605 _ => ?_)
  refine m_lor F e_L_law_1542 ?_
  refine Wm.topl (fun x11606 _ => ?_)
  refine l_callM F e_L_law_1543 (q_X10_yields (x_l X) V (b + 1457) T 1 u h P L0_ _ _ (xs (i + 1)) (xs (i + 2)) x11606 h11600 hok.b hP ) cb_X10_yields ml_L_173 im_X10_yields se_X10_yields h11600 rfl rfl (rest := []) rfl (Nat.le_of_ble_eq_true rfl) ⟨Nat.le_of_ble_eq_true rfl, Nat.le_of_ble_eq_true rfl⟩ (by omega) (by omega) (fun r σ11607 hp => ?_)
  obtain ⟨h11608, x11609, rfl⟩ := hp
  have h11610 := h11608.1
  have h11611 := h11599.keepM (fun a ha => h11608.2 a (by rw [ha]; decide))
  have h11612 := (h11608.2 (b + 1480) (by rw [kC_0 (c := b + 1457) (by omega)]; decide)).trans h11601
  refine m_pop F rfl e_L_law_1546 ?_
  refine m_goto F e_L_law_1547 ?_
  exact hN _ M T _ _ _ (by omega) (by omega) (by omega) ⟨by omega, h11611, ⟨_, h11612⟩, u, h, P, L0_, ⟨hu, hh, hP, hkk, hm0, hw0, hok⟩, h11610⟩
set_option maxRecDepth 20000 in
theorem lc_35 {V : VX} {X : MX} {nm : String} {b sb N k z i L M T : Nat} {xs : Nat → Int32} {σ : Mem} (F : Fx V X (yLw nm) cL_law 7 ret room_1) (hX : va_X sb L xs (x_s X) V.2.2) (hb : sb < V.2.2.size) (hl : (x_l X).stackTraces = false) (hi : i + 6 ≤ L) (hL : L ≤ 3072) (hk : k ≤ 2100) (hz : z ≤ 80000) (hM : M ≤ 10000000) (hI : IV V b M T σ) (hN : ∀ (N' M' T' : Nat) (σ' : Mem) (k' z' : Nat), k' ≤ k + 1 → z' ≤ z + 6 → M' ≤ M + 10000 → IV V b M' T' σ' → Wm V X 7 N' σ' k' z' 1745 [(4, .int (nI i)), (3, .ref (b + 1480)), (2, .ref (b + 1457)), (1, .ref b), (0, .ref sb)] []) : Wm V X 7 N σ k z 1550 [(4, .int (nI i)), (3, .ref (b + 1480)), (2, .ref (b + 1457)), (1, .ref b), (0, .ref sb)] [] := by
  obtain ⟨hT, hHT, ⟨z0, hout⟩, u, h, P, L0_, ⟨hu, hh, hP, hkk, hm0, hw0, hok⟩, hHR⟩ := hI
  refine m_aload_n F rfl e_L_law_1550 ?_
  refine m_aload_n F rfl e_L_law_1551 ?_
  refine m_iload F rfl e_L_law_1552 ?_
  refine m_iconst F (v := 1) (by decide) e_L_law_1554 ?_
  refine m_iadd F e_L_law_1555 ?_
  refine Wm.topE (w := nI (i + 1)) (nI_add i 1) ?_
  refine m_sld F (j := i + 1) e_L_law_1556 hX hb (nI_clamp (by omega)) (vp_in_nI (by omega) (by omega)) ?_
  refine m_aload_n F rfl e_L_law_1557 ?_
  refine m_iload F rfl e_L_law_1558 ?_
  refine m_iconst F (v := 2) (by decide) e_L_law_1560 ?_
  refine m_iadd F e_L_law_1561 ?_
  refine Wm.topE (w := nI (i + 2)) (nI_add i 2) ?_
  refine m_sld F (j := i + 2) e_L_law_1562 hX hb (nI_clamp (by omega)) (vp_in_nI (by omega) (by omega)) ?_
  refine m_i2l F e_L_law_1563 ?_
  refine Wm.topl (fun x11613 _ => ?_)
  refine m_bipush F (v := 32) (by decide) e_L_law_1564 ?_
  refine m_lshl F e_L_law_1566 ?_
  refine Wm.topl (fun x11614 _ => ?_)
  refine m_aload_n F rfl e_L_law_1567 ?_
  refine m_iload F rfl e_L_law_1568 ?_
  refine m_iconst F (v := 3) (by decide) e_L_law_1570 ?_
  refine m_iadd F e_L_law_1571 ?_
  refine Wm.topE (w := nI (i + 3)) (nI_add i 3) ?_
  refine m_sld F (j := i + 3) e_L_law_1572 hX hb (nI_clamp (by omega)) (vp_in_nI (by omega) (by omega)) ?_
  refine m_i2l F e_L_law_1573 ?_
  refine Wm.topl (fun x11615 _ => ?_)
  refine m_ldc2 F kc_L_96 e_L_law_1574 ?_
  refine m_land F e_L_law_1577 ?_
  refine Wm.topl (fun x11616 _ => ?_)
  refine m_lor F e_L_law_1578 ?_
  refine Wm.topl (fun x11617 _ => ?_)
  refine l_callC F e_L_law_1579 (s_X9_level (x_l X) V b M 1 T _ _ b (xs (i + 1)) x11617 hHT kA_b  (by omega)) cb_X9_level ml_L_174 im_X9_level se_X9_level hHT rfl rfl (rest := []) rfl (Nat.le_of_ble_eq_true rfl) ⟨Nat.le_of_ble_eq_true rfl, Nat.le_of_ble_eq_true rfl⟩ (by omega) (by omega) (fun r σ11618 hp => ?_)
  obtain ⟨h11619, x11620, rfl⟩ := hp
  have h11621 := h11619.1
  have h11622 := hHR.keepL (fun a ha _ => h11619.2 a (by rw [show kA _ a = 0 from ha]; decide))
  have h11623 := (h11619.2 (b + 1480) (by rw [show kA _ (b + 1480) = 0 from kA_o]; decide)).trans hout
  refine m_pop F rfl e_L_law_1582 ?_
  refine m_aload_n F rfl e_L_law_1583 ?_
  refine m_aload_n F rfl e_L_law_1584 ?_
  refine m_iload F rfl e_L_law_1585 ?_
  refine m_iconst F (v := 1) (by decide) e_L_law_1587 ?_
  refine m_iadd F e_L_law_1588 ?_
  refine Wm.topE (w := nI (i + 1)) (nI_add i 1) ?_
  refine m_sld F (j := i + 1) e_L_law_1589 hX hb (nI_clamp (by omega)) (vp_in_nI (by omega) (by omega)) ?_
  refine m_aload_n F rfl e_L_law_1590 ?_
  refine m_iload F rfl e_L_law_1591 ?_
  refine m_iconst F (v := 2) (by decide) e_L_law_1593 ?_
  refine m_iadd F e_L_law_1594 ?_
  refine Wm.topE (w := nI (i + 2)) (nI_add i 2) ?_
  refine m_sld F (j := i + 2) e_L_law_1595 hX hb (nI_clamp (by omega)) (vp_in_nI (by omega) (by omega)) ?_
  refine m_i2l F e_L_law_1596 ?_
  refine Wm.topl (fun x11624 _ => ?_)
  refine m_bipush F (v := 32) (by decide) e_L_law_1597 ?_
  refine m_lshl F e_L_law_1599 ?_
  refine Wm.topl (fun x11625 _ => ?_)
  refine m_aload_n F rfl e_L_law_1600 ?_
  refine m_iload F rfl e_L_law_1601 ?_
  refine m_iconst F (v := 3) (by decide) e_L_law_1603 ?_
  refine m_iadd F e_L_law_1604 ?_
  refine Wm.topE (w := nI (i + 3)) (nI_add i 3) ?_
  refine m_sld F (j := i + 3) e_L_law_1605 hX hb (nI_clamp (by omega)) (vp_in_nI (by omega) (by omega)) ?_
  refine m_i2l F e_L_law_1606 ?_
  refine Wm.topl (fun x11626 _ => ?_)
  refine m_ldc2 F kc_L_96 e_L_law_1607 ?_
  refine m_land F e_L_law_1610 ?_
  refine Wm.topl (fun x11627 _ => ?_)
  refine m_lor F e_L_law_1611 ?_
  refine Wm.topl (fun x11628 _ => ?_)
  refine l_callM F e_L_law_1612 (q_X10_level (x_l X) V (b + 1457) T 1 u h P L0_ _ _ (xs (i + 1)) x11628 h11622 hok.b hP ) cb_X10_level ml_L_177 im_X10_level se_X10_level h11622 rfl rfl (rest := []) rfl (Nat.le_of_ble_eq_true rfl) ⟨Nat.le_of_ble_eq_true rfl, Nat.le_of_ble_eq_true rfl⟩ (by omega) (by omega) (fun r σ11629 hp => ?_)
  obtain ⟨h11630, x11631, rfl⟩ := hp
  have h11632 := h11630.1
  have h11633 := h11621.keepM (fun a ha => h11630.2 a (by rw [ha]; decide))
  have h11634 := (h11630.2 (b + 1480) (by rw [kC_0 (c := b + 1457) (by omega)]; decide)).trans h11623
  refine m_pop F rfl e_L_law_1615 ?_
  refine m_goto F e_L_law_1616 ?_
  exact hN _ M T _ _ _ (by omega) (by omega) (by omega) ⟨by omega, h11633, ⟨_, h11634⟩, u, h, P, L0_, ⟨hu, hh, hP, hkk, hm0, hw0, hok⟩, h11632⟩
set_option maxRecDepth 20000 in
theorem lc_36 {V : VX} {X : MX} {nm : String} {b sb N k z i L M T : Nat} {xs : Nat → Int32} {σ : Mem} (F : Fx V X (yLw nm) cL_law 7 ret room_1) (hX : va_X sb L xs (x_s X) V.2.2) (hb : sb < V.2.2.size) (hl : (x_l X).stackTraces = false) (hi : i + 6 ≤ L) (hL : L ≤ 3072) (hk : k ≤ 2100) (hz : z ≤ 80000) (hM : M ≤ 10000000) (hI : IV V b M T σ) (hN : ∀ (N' M' T' : Nat) (σ' : Mem) (k' z' : Nat), k' ≤ k + 1 → z' ≤ z + 6 → M' ≤ M + 10000 → IV V b M' T' σ' → Wm V X 7 N' σ' k' z' 1745 [(4, .int (nI i)), (3, .ref (b + 1480)), (2, .ref (b + 1457)), (1, .ref b), (0, .ref sb)] []) : Wm V X 7 N σ k z 1619 [(4, .int (nI i)), (3, .ref (b + 1480)), (2, .ref (b + 1457)), (1, .ref b), (0, .ref sb)] [] := by
  obtain ⟨hT, hHT, ⟨z0, hout⟩, u, h, P, L0_, ⟨hu, hh, hP, hkk, hm0, hw0, hok⟩, hHR⟩ := hI
  refine m_aload_n F rfl e_L_law_1619 ?_
  refine l_callC F e_L_law_1620 (s_X9_heaviest (x_l X) V b M 1 T _ _ b  hHT kA_b  (by omega)) cb_X9_heaviest ml_L_178 im_X9_heaviest se_X9_heaviest hHT rfl rfl (rest := []) rfl (Nat.le_of_ble_eq_true rfl) ⟨Nat.le_of_ble_eq_true rfl, Nat.le_of_ble_eq_true rfl⟩ (by omega) (by omega) (fun r σ11635 hp => ?_)
  obtain ⟨h11636, x11637, rfl⟩ := hp
  have h11638 := h11636.1
  have h11639 := hHR.keepL (fun a ha _ => h11636.2 a (by rw [show kA _ a = 0 from ha]; decide))
  have h11640 := (h11636.2 (b + 1480) (by rw [show kA _ (b + 1480) = 0 from kA_o]; decide)).trans hout
  refine m_pop F rfl e_L_law_1623 ?_
  refine m_aload_n F rfl e_L_law_1624 ?_
  refine l_callM F e_L_law_1625 (q_X10_heaviest (x_l X) V (b + 1457) T 1 u h P L0_ _ _  h11639 hok.b hP ) cb_X10_heaviest ml_L_182 im_X10_heaviest se_X10_heaviest h11639 rfl rfl (rest := []) rfl (Nat.le_of_ble_eq_true rfl) ⟨Nat.le_of_ble_eq_true rfl, Nat.le_of_ble_eq_true rfl⟩ (by omega) (by omega) (fun r σ11641 hp => ?_)
  obtain ⟨h11642, x11643, rfl⟩ := hp
  have h11644 := h11642.1
  have h11645 := h11638.keepM (fun a ha => h11642.2 a (by rw [ha]; decide))
  have h11646 := (h11642.2 (b + 1480) (by rw [kC_0 (c := b + 1457) (by omega)]; decide)).trans h11640
  refine m_pop F rfl e_L_law_1628 ?_
  refine m_goto F e_L_law_1629 ?_
  exact hN _ M T _ _ _ (by omega) (by omega) (by omega) ⟨by omega, h11645, ⟨_, h11646⟩, u, h, P, L0_, ⟨hu, hh, hP, hkk, hm0, hw0, hok⟩, h11644⟩
set_option maxRecDepth 20000 in
theorem lc_37 {V : VX} {X : MX} {nm : String} {b sb N k z i L M T : Nat} {xs : Nat → Int32} {σ : Mem} (F : Fx V X (yLw nm) cL_law 7 ret room_1) (hX : va_X sb L xs (x_s X) V.2.2) (hb : sb < V.2.2.size) (hl : (x_l X).stackTraces = false) (hi : i + 6 ≤ L) (hL : L ≤ 3072) (hk : k ≤ 2100) (hz : z ≤ 80000) (hM : M ≤ 10000000) (hI : IV V b M T σ) (hN : ∀ (N' M' T' : Nat) (σ' : Mem) (k' z' : Nat), k' ≤ k + 1 → z' ≤ z + 6 → M' ≤ M + 10000 → IV V b M' T' σ' → Wm V X 7 N' σ' k' z' 1745 [(4, .int (nI i)), (3, .ref (b + 1480)), (2, .ref (b + 1457)), (1, .ref b), (0, .ref sb)] []) : Wm V X 7 N σ k z 1632 [(4, .int (nI i)), (3, .ref (b + 1480)), (2, .ref (b + 1457)), (1, .ref b), (0, .ref sb)] [] := by
  obtain ⟨hT, hHT, ⟨z0, hout⟩, u, h, P, L0_, ⟨hu, hh, hP, hkk, hm0, hw0, hok⟩, hHR⟩ := hI
  refine m_aload_n F rfl e_L_law_1632 ?_
  refine m_aload_n F rfl e_L_law_1633 ?_
  refine m_iload F rfl e_L_law_1634 ?_
  refine m_iconst F (v := 1) (by decide) e_L_law_1636 ?_
  refine m_iadd F e_L_law_1637 ?_
  refine Wm.topE (w := nI (i + 1)) (nI_add i 1) ?_
  refine m_sld F (j := i + 1) e_L_law_1638 hX hb (nI_clamp (by omega)) (vp_in_nI (by omega) (by omega)) ?_
  refine m_aload_n F rfl e_L_law_1639 ?_
  refine m_iload F rfl e_L_law_1640 ?_
  refine m_iconst F (v := 2) (by decide) e_L_law_1642 ?_
  refine m_iadd F e_L_law_1643 ?_
  refine Wm.topE (w := nI (i + 2)) (nI_add i 2) ?_
  refine m_sld F (j := i + 2) e_L_law_1644 hX hb (nI_clamp (by omega)) (vp_in_nI (by omega) (by omega)) ?_
  refine m_aload_n F rfl e_L_law_1645 ?_
  refine m_iload F rfl e_L_law_1646 ?_
  refine m_iconst F (v := 3) (by decide) e_L_law_1648 ?_
  refine m_iadd F e_L_law_1649 ?_
  refine Wm.topE (w := nI (i + 3)) (nI_add i 3) ?_
  refine m_sld F (j := i + 3) e_L_law_1650 hX hb (nI_clamp (by omega)) (vp_in_nI (by omega) (by omega)) ?_
  refine l_callC F e_L_law_1651 (s_X9_chance (x_l X) V b M 1 T _ _ b (xs (i + 1)) (xs (i + 2)) (xs (i + 3)) hHT kA_b  (by omega)) cb_X9_chance ml_L_183 im_X9_chance se_X9_chance hHT rfl rfl (rest := []) rfl (Nat.le_of_ble_eq_true rfl) ⟨Nat.le_of_ble_eq_true rfl, Nat.le_of_ble_eq_true rfl⟩ (by omega) (by omega) (fun r σ11647 hp => ?_)
  obtain ⟨h11648, x11649, rfl⟩ := hp
  have h11650 := h11648.1
  have h11651 := hHR.keepL (fun a ha _ => h11648.2 a (by rw [show kA _ a = 0 from ha]; decide))
  have h11652 := (h11648.2 (b + 1480) (by rw [show kA _ (b + 1480) = 0 from kA_o]; decide)).trans hout
  refine m_pop2_2 F rfl e_L_law_1654 ?_
  refine m_aload_n F rfl e_L_law_1655 ?_
  refine m_aload_n F rfl e_L_law_1656 ?_
  refine m_iload F rfl e_L_law_1657 ?_
  refine m_iconst F (v := 1) (by decide) e_L_law_1659 ?_
  refine m_iadd F e_L_law_1660 ?_
  refine Wm.topE (w := nI (i + 1)) (nI_add i 1) ?_
  refine m_sld F (j := i + 1) e_L_law_1661 hX hb (nI_clamp (by omega)) (vp_in_nI (by omega) (by omega)) ?_
  refine m_aload_n F rfl e_L_law_1662 ?_
  refine m_iload F rfl e_L_law_1663 ?_
  refine m_iconst F (v := 2) (by decide) e_L_law_1665 ?_
  refine m_iadd F e_L_law_1666 ?_
  refine Wm.topE (w := nI (i + 2)) (nI_add i 2) ?_
  refine m_sld F (j := i + 2) e_L_law_1667 hX hb (nI_clamp (by omega)) (vp_in_nI (by omega) (by omega)) ?_
  refine m_aload_n F rfl e_L_law_1668 ?_
  refine m_iload F rfl e_L_law_1669 ?_
  refine m_iconst F (v := 3) (by decide) e_L_law_1671 ?_
  refine m_iadd F e_L_law_1672 ?_
  refine Wm.topE (w := nI (i + 3)) (nI_add i 3) ?_
  refine m_sld F (j := i + 3) e_L_law_1673 hX hb (nI_clamp (by omega)) (vp_in_nI (by omega) (by omega)) ?_
  refine l_callM F e_L_law_1674 (q_X10_chance (x_l X) V (b + 1457) T 1 u h P L0_ _ _ (xs (i + 1)) (xs (i + 2)) (xs (i + 3)) h11651 hok hP ) cb_X10_chance ml_L_186 im_X10_chance se_X10_chance h11651 rfl rfl (rest := []) rfl (Nat.le_of_ble_eq_true rfl) ⟨Nat.le_of_ble_eq_true rfl, Nat.le_of_ble_eq_true rfl⟩ (by omega) (by omega) (fun r σ11653 hp => ?_)
  obtain ⟨h11654, x11655, rfl⟩ := hp
  have h11656 := h11654.1
  have h11657 := h11650.keepM (fun a ha => h11654.2 a (by rw [ha]; decide))
  have h11658 := (h11654.2 (b + 1480) (by rw [kC_0 (c := b + 1457) (by omega)]; decide)).trans h11652
  refine m_pop2_2 F rfl e_L_law_1677 ?_
  refine m_goto F e_L_law_1678 ?_
  exact hN _ (M + 7560) T _ _ _ (by omega) (by omega) (by omega) ⟨by omega, h11657, ⟨_, h11658⟩, u, h, P, L0_, ⟨hu, hh, hP, hkk, hm0, hw0, hok⟩, h11656⟩
set_option maxRecDepth 20000 in
theorem lc_38 {V : VX} {X : MX} {nm : String} {b sb N k z i L M T : Nat} {xs : Nat → Int32} {σ : Mem} (F : Fx V X (yLw nm) cL_law 7 ret room_1) (hX : va_X sb L xs (x_s X) V.2.2) (hb : sb < V.2.2.size) (hl : (x_l X).stackTraces = false) (hi : i + 6 ≤ L) (hL : L ≤ 3072) (hk : k ≤ 2100) (hz : z ≤ 80000) (hM : M ≤ 10000000) (hI : IV V b M T σ) (hN : ∀ (N' M' T' : Nat) (σ' : Mem) (k' z' : Nat), k' ≤ k + 1 → z' ≤ z + 6 → M' ≤ M + 10000 → IV V b M' T' σ' → Wm V X 7 N' σ' k' z' 1745 [(4, .int (nI i)), (3, .ref (b + 1480)), (2, .ref (b + 1457)), (1, .ref b), (0, .ref sb)] []) : Wm V X 7 N σ k z 1681 [(4, .int (nI i)), (3, .ref (b + 1480)), (2, .ref (b + 1457)), (1, .ref b), (0, .ref sb)] [] := by
  obtain ⟨hT, hHT, ⟨z0, hout⟩, u, h, P, L0_, ⟨hu, hh, hP, hkk, hm0, hw0, hok⟩, hHR⟩ := hI
  refine m_aload_n F rfl e_L_law_1681 ?_
  refine l_callC F e_L_law_1682 (s_X9_undo (x_l X) V b M 1 T _ _ b  hHT kA_b  (by omega)) cb_X9_undo ml_L_187 im_X9_undo se_X9_undo hHT rfl rfl (rest := []) rfl (Nat.le_of_ble_eq_true rfl) ⟨Nat.le_of_ble_eq_true rfl, Nat.le_of_ble_eq_true rfl⟩ (by omega) (by omega) (fun r σ11659 hp => ?_)
  obtain ⟨h11660, x11661, rfl⟩ := hp
  have h11662 := h11660.1
  have h11663 := hHR.keepL (fun a ha _ => h11660.2 a (by rw [show kA _ a = 0 from ha]; decide))
  have h11664 := (h11660.2 (b + 1480) (by rw [show kA _ (b + 1480) = 0 from kA_o]; decide)).trans hout
  refine m_pop F rfl e_L_law_1685 ?_
  refine m_aload_n F rfl e_L_law_1686 ?_
  refine l_callM F e_L_law_1687 (q_X10_undo (x_l X) V (b + 1457) T 1 u h P L0_ _ _  h11663 hok hP (by first | omega | assumption) (by first | omega | assumption)) cb_X10_undo ml_L_190 im_X10_undo se_X10_undo h11663 rfl rfl (rest := []) rfl (Nat.le_of_ble_eq_true rfl) ⟨Nat.le_of_ble_eq_true rfl, Nat.le_of_ble_eq_true rfl⟩ (by omega) (by omega) (fun r σ11665 hp => ?_)
  obtain ⟨u11667, hu11667, L11668, okL11668, h11666, x11669, rfl⟩ := hp
  have h11670 := h11666.1
  have h11671 := h11662.keepM (fun a ha => h11666.2 a (by rw [ha]; decide))
  have h11672 := (h11666.2 (b + 1480) (by rw [kC_0 (c := b + 1457) (by omega)]; decide)).trans h11664
  refine m_pop F rfl e_L_law_1690 ?_
  refine m_goto F e_L_law_1691 ?_
  exact hN _ M T _ _ _ (by omega) (by omega) (by omega) ⟨by omega, h11671, ⟨_, h11672⟩, u11667, h, P, L11668, ⟨hu11667, hh, hP, hkk, hm0, hw0, okL11668⟩, h11670⟩
set_option maxRecDepth 20000 in
theorem lc_39 {V : VX} {X : MX} {nm : String} {b sb N k z i L M T : Nat} {xs : Nat → Int32} {σ : Mem} (F : Fx V X (yLw nm) cL_law 7 ret room_1) (hX : va_X sb L xs (x_s X) V.2.2) (hb : sb < V.2.2.size) (hl : (x_l X).stackTraces = false) (hi : i + 6 ≤ L) (hL : L ≤ 3072) (hk : k ≤ 2100) (hz : z ≤ 80000) (hM : M ≤ 10000000) (hI : IV V b M T σ) (hN : ∀ (N' M' T' : Nat) (σ' : Mem) (k' z' : Nat), k' ≤ k + 1 → z' ≤ z + 6 → M' ≤ M + 10000 → IV V b M' T' σ' → Wm V X 7 N' σ' k' z' 1745 [(4, .int (nI i)), (3, .ref (b + 1480)), (2, .ref (b + 1457)), (1, .ref b), (0, .ref sb)] []) : Wm V X 7 N σ k z 1694 [(4, .int (nI i)), (3, .ref (b + 1480)), (2, .ref (b + 1457)), (1, .ref b), (0, .ref sb)] [] := by
  obtain ⟨hT, hHT, ⟨z0, hout⟩, u, h, P, L0_, ⟨hu, hh, hP, hkk, hm0, hw0, hok⟩, hHR⟩ := hI
  refine m_aload_n F rfl e_L_law_1694 ?_
  refine l_callC F e_L_law_1695 (s_X9_keep (x_l X) V b M 1 T _ _ b  hHT kA_b  (by omega)) cb_X9_keep ml_L_191 im_X9_keep se_X9_keep hHT rfl rfl (rest := []) rfl (Nat.le_of_ble_eq_true rfl) ⟨Nat.le_of_ble_eq_true rfl, Nat.le_of_ble_eq_true rfl⟩ (by omega) (by omega) (fun r σ11673 hp => ?_)
  obtain ⟨h11674, x11675, rfl⟩ := hp
  have h11676 := h11674.1
  have h11677 := hHR.keepL (fun a ha _ => h11674.2 a (by rw [show kA _ a = 0 from ha]; decide))
  have h11678 := (h11674.2 (b + 1480) (by rw [show kA _ (b + 1480) = 0 from kA_o]; decide)).trans hout
  refine m_pop F rfl e_L_law_1698 ?_
  refine m_aload_n F rfl e_L_law_1699 ?_
  refine l_callM F e_L_law_1700 (q_X10_keep (x_l X) V (b + 1457) T 1 u h P L0_ _ _  h11677 hok hP (by first | omega | assumption)) cb_X10_keep ml_L_194 im_X10_keep se_X10_keep h11677 rfl rfl (rest := []) rfl (Nat.le_of_ble_eq_true rfl) ⟨Nat.le_of_ble_eq_true rfl, Nat.le_of_ble_eq_true rfl⟩ (by omega) (by omega) (fun r σ11679 hp => ?_)
  obtain ⟨h11680, x11681, rfl⟩ := hp
  have h11682 := h11680.1
  have h11683 := h11676.keepM (fun a ha => h11680.2 a (by rw [ha]; decide))
  have h11684 := (h11680.2 (b + 1480) (by rw [kC_0 (c := b + 1457) (by omega)]; decide)).trans h11678
  refine m_pop F rfl e_L_law_1703 ?_
  refine m_goto F e_L_law_1704 ?_
  exact hN _ M T _ _ _ (by omega) (by omega) (by omega) ⟨by omega, h11683, ⟨_, h11684⟩, u, 1, P, L0_, ⟨hu, (by omega), hP, hkk, hm0, hw0, hok⟩, h11682⟩
set_option maxRecDepth 20000 in
theorem lc_40 {V : VX} {X : MX} {nm : String} {b sb N k z i L M T : Nat} {xs : Nat → Int32} {σ : Mem} (F : Fx V X (yLw nm) cL_law 7 ret room_1) (hX : va_X sb L xs (x_s X) V.2.2) (hb : sb < V.2.2.size) (hl : (x_l X).stackTraces = false) (hi : i + 6 ≤ L) (hL : L ≤ 3072) (hk : k ≤ 2100) (hz : z ≤ 80000) (hM : M ≤ 10000000) (hI : IV V b M T σ) (hN : ∀ (N' M' T' : Nat) (σ' : Mem) (k' z' : Nat), k' ≤ k + 1 → z' ≤ z + 6 → M' ≤ M + 10000 → IV V b M' T' σ' → Wm V X 7 N' σ' k' z' 1745 [(4, .int (nI i)), (3, .ref (b + 1480)), (2, .ref (b + 1457)), (1, .ref b), (0, .ref sb)] []) : Wm V X 7 N σ k z 1707 [(4, .int (nI i)), (3, .ref (b + 1480)), (2, .ref (b + 1457)), (1, .ref b), (0, .ref sb)] [] := by
  obtain ⟨hT, hHT, ⟨z0, hout⟩, u, h, P, L0_, ⟨hu, hh, hP, hkk, hm0, hw0, hok⟩, hHR⟩ := hI
  refine m_aload_n F rfl e_L_law_1707 ?_
  refine l_callC F e_L_law_1708 (s_X9_back (x_l X) V b M 1 T _ _ b  hHT kA_b  (by omega)) cb_X9_back ml_L_195 im_X9_back se_X9_back hHT rfl rfl (rest := []) rfl (Nat.le_of_ble_eq_true rfl) ⟨Nat.le_of_ble_eq_true rfl, Nat.le_of_ble_eq_true rfl⟩ (by omega) (by omega) (fun r σ11685 hp => ?_)
  obtain ⟨h11686, x11687, rfl⟩ := hp
  have h11688 := h11686.1
  have h11689 := hHR.keepL (fun a ha _ => h11686.2 a (by rw [show kA _ a = 0 from ha]; decide))
  have h11690 := (h11686.2 (b + 1480) (by rw [show kA _ (b + 1480) = 0 from kA_o]; decide)).trans hout
  refine m_pop F rfl e_L_law_1711 ?_
  refine m_aload_n F rfl e_L_law_1712 ?_
  refine l_callM F e_L_law_1713 (q_X10_back (x_l X) V (b + 1457) T 1 u h P L0_ _ _  h11689 hok hP (by first | omega | assumption) (by first | omega | assumption) (by first | omega | assumption)) cb_X10_back ml_L_198 im_X10_back se_X10_back h11689 rfl rfl (rest := []) rfl (Nat.le_of_ble_eq_true rfl) ⟨Nat.le_of_ble_eq_true rfl, Nat.le_of_ble_eq_true rfl⟩ (by omega) (by omega) (fun r σ11691 hp => ?_)
  obtain ⟨u11693, hu11693, L11694, okL11694, h11692, x11695, rfl⟩ := hp
  have h11696 := h11692.1
  have h11697 := h11688.keepM (fun a ha => h11692.2 a (by rw [ha]; decide))
  have h11698 := (h11692.2 (b + 1480) (by rw [kC_0 (c := b + 1457) (by omega)]; decide)).trans h11690
  refine m_pop F rfl e_L_law_1716 ?_
  refine m_goto F e_L_law_1717 ?_
  exact hN _ M T _ _ _ (by omega) (by omega) (by omega) ⟨by omega, h11697, ⟨_, h11698⟩, u11693, h, P, L11694, ⟨hu11693, hh, hP, hkk, hm0, hw0, okL11694⟩, h11696⟩
set_option maxRecDepth 20000 in
theorem lc_41 {V : VX} {X : MX} {nm : String} {b sb N k z i L M T : Nat} {xs : Nat → Int32} {σ : Mem} (F : Fx V X (yLw nm) cL_law 7 ret room_1) (hX : va_X sb L xs (x_s X) V.2.2) (hb : sb < V.2.2.size) (hl : (x_l X).stackTraces = false) (hi : i + 6 ≤ L) (hL : L ≤ 3072) (hk : k ≤ 2100) (hz : z ≤ 80000) (hM : M ≤ 10000000) (hI : IV V b M T σ) (hN : ∀ (N' M' T' : Nat) (σ' : Mem) (k' z' : Nat), k' ≤ k + 1 → z' ≤ z + 6 → M' ≤ M + 10000 → IV V b M' T' σ' → Wm V X 7 N' σ' k' z' 1745 [(4, .int (nI i)), (3, .ref (b + 1480)), (2, .ref (b + 1457)), (1, .ref b), (0, .ref sb)] []) : Wm V X 7 N σ k z 1720 [(4, .int (nI i)), (3, .ref (b + 1480)), (2, .ref (b + 1457)), (1, .ref b), (0, .ref sb)] [] := by
  obtain ⟨hT, hHT, ⟨z0, hout⟩, u, h, P, L0_, ⟨hu, hh, hP, hkk, hm0, hw0, hok⟩, hHR⟩ := hI
  refine m_aload_n F rfl e_L_law_1720 ?_
  refine m_aload_n F rfl e_L_law_1721 ?_
  refine m_iload F rfl e_L_law_1722 ?_
  refine m_iconst F (v := 1) (by decide) e_L_law_1724 ?_
  refine m_iadd F e_L_law_1725 ?_
  refine Wm.topE (w := nI (i + 1)) (nI_add i 1) ?_
  refine m_sld F (j := i + 1) e_L_law_1726 hX hb (nI_clamp (by omega)) (vp_in_nI (by omega) (by omega)) ?_
  refine l_callC F e_L_law_1727 (s_X9_count (x_l X) V b M 1 T _ _ b (xs (i + 1)) hHT kA_b  (by omega)) cb_X9_count ml_L_199 im_X9_count se_X9_count hHT rfl rfl (rest := []) rfl (Nat.le_of_ble_eq_true rfl) ⟨Nat.le_of_ble_eq_true rfl, Nat.le_of_ble_eq_true rfl⟩ (by omega) (by omega) (fun r σ11699 hp => ?_)
  obtain ⟨h11700, x11701, rfl⟩ := hp
  have h11702 := h11700.1
  have h11703 := hHR.keepL (fun a ha _ => h11700.2 a (by rw [show kA _ a = 0 from ha]; decide))
  have h11704 := (h11700.2 (b + 1480) (by rw [show kA _ (b + 1480) = 0 from kA_o]; decide)).trans hout
  refine m_pop F rfl e_L_law_1730 ?_
  refine m_aload_n F rfl e_L_law_1731 ?_
  refine m_aload_n F rfl e_L_law_1732 ?_
  refine m_iload F rfl e_L_law_1733 ?_
  refine m_iconst F (v := 1) (by decide) e_L_law_1735 ?_
  refine m_iadd F e_L_law_1736 ?_
  refine Wm.topE (w := nI (i + 1)) (nI_add i 1) ?_
  refine m_sld F (j := i + 1) e_L_law_1737 hX hb (nI_clamp (by omega)) (vp_in_nI (by omega) (by omega)) ?_
  refine l_callM F e_L_law_1738 (q_X10_count (x_l X) V (b + 1457) T 1 u h P L0_ _ _ (xs (i + 1)) h11703 hok.b hP ) cb_X10_count ml_L_202 im_X10_count se_X10_count h11703 rfl rfl (rest := []) rfl (Nat.le_of_ble_eq_true rfl) ⟨Nat.le_of_ble_eq_true rfl, Nat.le_of_ble_eq_true rfl⟩ (by omega) (by omega) (fun r σ11705 hp => ?_)
  obtain ⟨h11706, x11707, rfl⟩ := hp
  have h11708 := h11706.1
  have h11709 := h11702.keepM (fun a ha => h11706.2 a (by rw [ha]; decide))
  have h11710 := (h11706.2 (b + 1480) (by rw [kC_0 (c := b + 1457) (by omega)]; decide)).trans h11704
  refine m_pop F rfl e_L_law_1741 ?_
  refine m_goto F e_L_law_1742 ?_
  exact hN _ M T _ _ _ (by omega) (by omega) (by omega) ⟨by omega, h11709, ⟨_, h11710⟩, u, h, P, L0_, ⟨hu, hh, hP, hkk, hm0, hw0, hok⟩, h11708⟩
