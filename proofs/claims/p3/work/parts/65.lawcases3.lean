set_option maxRecDepth 20000 in
theorem lc_28 {V : VX} {X : MX} {nm : String} {b sb N k z i L M T : Nat} {xs : Nat → Int32} {σ : Mem} (F : Fx V X (yLw nm) cL_law 7 ret room_1) (hX : va_X sb L xs (x_s X) V.2.2) (hb : sb < V.2.2.size) (hl : (x_l X).stackTraces = false) (hi : i + 6 ≤ L) (hL : L ≤ 3072) (hk : k ≤ 2100) (hz : z ≤ 80000) (hM : M ≤ 10000000) (hI : IV V b M T σ) (hN : ∀ (N' M' T' : Nat) (σ' : Mem) (k' z' : Nat), k' ≤ k + 1 → z' ≤ z + 6 → M' ≤ M + 10000 → IV V b M' T' σ' → Wm V X 7 N' σ' k' z' 1745 [(4, .int (nI i)), (3, .ref (b + 1480)), (2, .ref (b + 1457)), (1, .ref b), (0, .ref sb)] []) : Wm V X 7 N σ k z 1239 [(4, .int (nI i)), (3, .ref (b + 1480)), (2, .ref (b + 1457)), (1, .ref b), (0, .ref sb)] [] := by
  obtain ⟨hT, hHT, ⟨z0, hout⟩, u, h, P, L0_, ⟨hu, hh, hP, hkk, hm0, hw0, hok⟩, hHR, t, hBy, hBr⟩ := hI
  refine m_aload_n F rfl e_L_law_1239 ?_
  refine m_aload_n F rfl e_L_law_1240 ?_
  refine m_iload F rfl e_L_law_1241 ?_
  refine m_iconst F (v := 1) (by decide) e_L_law_1243 ?_
  refine m_iadd F e_L_law_1244 ?_
  refine Wm.topE (w := nI (i + 1)) (nI_add i 1) ?_
  refine m_sld F (j := i + 1) e_L_law_1245 hX hb (nI_clamp (by omega)) (vp_in_nI (by omega) (by omega)) ?_
  refine m_aload_n F rfl e_L_law_1246 ?_
  refine m_iload F rfl e_L_law_1247 ?_
  refine m_iconst F (v := 2) (by decide) e_L_law_1249 ?_
  refine m_iadd F e_L_law_1250 ?_
  refine Wm.topE (w := nI (i + 2)) (nI_add i 2) ?_
  refine m_sld F (j := i + 2) e_L_law_1251 hX hb (nI_clamp (by omega)) (vp_in_nI (by omega) (by omega)) ?_
  refine m_i2l F e_L_law_1252 ?_
  refine Wm.topl (fun x11369 _ => ?_)
  refine m_bipush F (v := 32) (by decide) e_L_law_1253 ?_
  refine m_lshl F e_L_law_1255 ?_
  refine Wm.topl (fun x11370 _ => ?_)
  refine m_aload_n F rfl e_L_law_1256 ?_
  refine m_iload F rfl e_L_law_1257 ?_
  refine m_iconst F (v := 3) (by decide) e_L_law_1259 ?_
  refine m_iadd F e_L_law_1260 ?_
  refine Wm.topE (w := nI (i + 3)) (nI_add i 3) ?_
  refine m_sld F (j := i + 3) e_L_law_1261 hX hb (nI_clamp (by omega)) (vp_in_nI (by omega) (by omega)) ?_
  refine m_i2l F e_L_law_1262 ?_
  refine Wm.topl (fun x11371 _ => ?_)
  refine m_ldc2 F kc_L_96 e_L_law_1263 ?_
  refine m_land F e_L_law_1266 ?_
  refine Wm.topl (fun x11372 _ => ?_)
  refine m_lor F e_L_law_1267 ?_
  refine Wm.topl (fun x11373 _ => ?_)
  refine l_callC F e_L_law_1268 (s_X9_partFor (x_l X) V b M 1 T _ _ b (xs (i + 1)) x11373 hHT kA_b  (by omega)) cb_X9_partFor ml_L_144 im_X9_partFor se_X9_partFor hHT rfl rfl (rest := []) rfl (Nat.le_of_ble_eq_true rfl) ⟨Nat.le_of_ble_eq_true rfl, Nat.le_of_ble_eq_true rfl⟩ (by omega) (by omega) (fun r σ11374 hp => ?_)
  obtain ⟨h11375, x11376, rfl⟩ := hp
  have h11377 := h11375.1
  have h11378 := hHR.keepL (fun a ha _ => h11375.2 a (by rw [show kA _ a = 0 from ha]; decide))
  have h11379 := (h11375.2 (b + 1480) (by rw [show kA _ (b + 1480) = 0 from kA_o]; decide)).trans hout
  have br11381 := hBr.of (h11375.2 (b + 1457 + 1) (by rw [show kA _ (b + 1457 + 1) = 0 from kA_big (by omega)]; decide))
  have by11380 := hBy.keep (h11375.2 (b + 1) (by rw [show kA _ (b + 1) = 2 from kA_t]; decide))
  refine m_pop F rfl e_L_law_1271 ?_
  refine m_aload_n F rfl e_L_law_1272 ?_
  refine m_aload_n F rfl e_L_law_1273 ?_
  refine m_iload F rfl e_L_law_1274 ?_
  refine m_iconst F (v := 1) (by decide) e_L_law_1276 ?_
  refine m_iadd F e_L_law_1277 ?_
  refine Wm.topE (w := nI (i + 1)) (nI_add i 1) ?_
  refine m_sld F (j := i + 1) e_L_law_1278 hX hb (nI_clamp (by omega)) (vp_in_nI (by omega) (by omega)) ?_
  refine m_aload_n F rfl e_L_law_1279 ?_
  refine m_iload F rfl e_L_law_1280 ?_
  refine m_iconst F (v := 2) (by decide) e_L_law_1282 ?_
  refine m_iadd F e_L_law_1283 ?_
  refine Wm.topE (w := nI (i + 2)) (nI_add i 2) ?_
  refine m_sld F (j := i + 2) e_L_law_1284 hX hb (nI_clamp (by omega)) (vp_in_nI (by omega) (by omega)) ?_
  refine m_i2l F e_L_law_1285 ?_
  refine Wm.topl (fun x11382 _ => ?_)
  refine m_bipush F (v := 32) (by decide) e_L_law_1286 ?_
  refine m_lshl F e_L_law_1288 ?_
  refine Wm.topl (fun x11383 _ => ?_)
  refine m_aload_n F rfl e_L_law_1289 ?_
  refine m_iload F rfl e_L_law_1290 ?_
  refine m_iconst F (v := 3) (by decide) e_L_law_1292 ?_
  refine m_iadd F e_L_law_1293 ?_
  refine Wm.topE (w := nI (i + 3)) (nI_add i 3) ?_
  refine m_sld F (j := i + 3) e_L_law_1294 hX hb (nI_clamp (by omega)) (vp_in_nI (by omega) (by omega)) ?_
  refine m_i2l F e_L_law_1295 ?_
  refine Wm.topl (fun x11384 _ => ?_)
  refine m_ldc2 F kc_L_96 e_L_law_1296 ?_
  refine m_land F e_L_law_1299 ?_
  refine Wm.topl (fun x11385 _ => ?_)
  refine m_lor F e_L_law_1300 ?_
  refine Wm.topl (fun x11386 _ => ?_)
  refine l_callM F e_L_law_1301 (q_X10_partFor (x_l X) V (b + 1457) T 1 u h P L0_ _ _ (xs (i + 1)) x11386 h11378 hok.b hP ) cb_X10_partFor ml_L_148 im_X10_partFor se_X10_partFor h11378 rfl rfl (rest := []) rfl (Nat.le_of_ble_eq_true rfl) ⟨Nat.le_of_ble_eq_true rfl, Nat.le_of_ble_eq_true rfl⟩ (by omega) (by omega) (fun r σ11387 hp => ?_)
  obtain ⟨h11388, x11389, rfl⟩ := hp
  have h11390 := h11388.1
  have h11391 := h11377.keepM (fun a ha => h11388.2 a (by rw [ha]; decide))
  have h11392 := (h11388.2 (b + 1480) (by rw [kC_0 (c := b + 1457) (by omega)]; decide)).trans h11379
  have by11393 := by11380.keep (h11388.2 (b + 1) (by rw [kC_0 (c := b + 1457) (by omega)]; decide))
  have br11394 := br11381.of (h11388.2 (b + 1457 + 1) (by rw [kC_at (k := 1) (by decide)]; decide))
  refine m_pop F rfl e_L_law_1304 ?_
  refine m_goto F e_L_law_1305 ?_
  exact hN _ M T _ _ _ (by omega) (by omega) (by omega) ⟨by omega, h11391, ⟨_, h11392⟩, u, h, P, L0_, ⟨hu, hh, hP, hkk, hm0, hw0, hok⟩, h11390, _, by11393, br11394⟩
set_option maxRecDepth 20000 in
theorem lc_29 {V : VX} {X : MX} {nm : String} {b sb N k z i L M T : Nat} {xs : Nat → Int32} {σ : Mem} (F : Fx V X (yLw nm) cL_law 7 ret room_1) (hX : va_X sb L xs (x_s X) V.2.2) (hb : sb < V.2.2.size) (hl : (x_l X).stackTraces = false) (hi : i + 6 ≤ L) (hL : L ≤ 3072) (hk : k ≤ 2100) (hz : z ≤ 80000) (hM : M ≤ 10000000) (hI : IV V b M T σ) (hN : ∀ (N' M' T' : Nat) (σ' : Mem) (k' z' : Nat), k' ≤ k + 1 → z' ≤ z + 6 → M' ≤ M + 10000 → IV V b M' T' σ' → Wm V X 7 N' σ' k' z' 1745 [(4, .int (nI i)), (3, .ref (b + 1480)), (2, .ref (b + 1457)), (1, .ref b), (0, .ref sb)] []) : Wm V X 7 N σ k z 1308 [(4, .int (nI i)), (3, .ref (b + 1480)), (2, .ref (b + 1457)), (1, .ref b), (0, .ref sb)] [] := by
  obtain ⟨hT, hHT, ⟨z0, hout⟩, u, h, P, L0_, ⟨hu, hh, hP, hkk, hm0, hw0, hok⟩, hHR, t, hBy, hBr⟩ := hI
  refine m_aload_n F rfl e_L_law_1308 ?_
  refine m_aload_n F rfl e_L_law_1309 ?_
  refine m_iload F rfl e_L_law_1310 ?_
  refine m_iconst F (v := 1) (by decide) e_L_law_1312 ?_
  refine m_iadd F e_L_law_1313 ?_
  refine Wm.topE (w := nI (i + 1)) (nI_add i 1) ?_
  refine m_sld F (j := i + 1) e_L_law_1314 hX hb (nI_clamp (by omega)) (vp_in_nI (by omega) (by omega)) ?_
  refine m_aload_n F rfl e_L_law_1315 ?_
  refine m_iload F rfl e_L_law_1316 ?_
  refine m_iconst F (v := 2) (by decide) e_L_law_1318 ?_
  refine m_iadd F e_L_law_1319 ?_
  refine Wm.topE (w := nI (i + 2)) (nI_add i 2) ?_
  refine m_sld F (j := i + 2) e_L_law_1320 hX hb (nI_clamp (by omega)) (vp_in_nI (by omega) (by omega)) ?_
  refine l_callC F e_L_law_1321 (s_X9_latest (x_l X) V b M 1 T _ _ b (xs (i + 1)) (xs (i + 2)) hHT kA_b  (by omega)) cb_X9_latest ml_L_149 im_X9_latest se_X9_latest hHT rfl rfl (rest := []) rfl (Nat.le_of_ble_eq_true rfl) ⟨Nat.le_of_ble_eq_true rfl, Nat.le_of_ble_eq_true rfl⟩ (by omega) (by omega) (fun r σ11395 hp => ?_)
  obtain ⟨h11396, x11397, rfl⟩ := hp
  have h11398 := h11396.1
  have h11399 := hHR.keepL (fun a ha _ => h11396.2 a (by rw [show kA _ a = 0 from ha]; decide))
  have h11400 := (h11396.2 (b + 1480) (by rw [show kA _ (b + 1480) = 0 from kA_o]; decide)).trans hout
  have br11402 := hBr.of (h11396.2 (b + 1457 + 1) (by rw [show kA _ (b + 1457 + 1) = 0 from kA_big (by omega)]; decide))
  have by11401 := hBy.keep (h11396.2 (b + 1) (by rw [show kA _ (b + 1) = 2 from kA_t]; decide))
  refine m_pop F rfl e_L_law_1324 ?_
  refine m_aload_n F rfl e_L_law_1325 ?_
  refine m_aload_n F rfl e_L_law_1326 ?_
  refine m_iload F rfl e_L_law_1327 ?_
  refine m_iconst F (v := 1) (by decide) e_L_law_1329 ?_
  refine m_iadd F e_L_law_1330 ?_
  refine Wm.topE (w := nI (i + 1)) (nI_add i 1) ?_
  refine m_sld F (j := i + 1) e_L_law_1331 hX hb (nI_clamp (by omega)) (vp_in_nI (by omega) (by omega)) ?_
  refine m_aload_n F rfl e_L_law_1332 ?_
  refine m_iload F rfl e_L_law_1333 ?_
  refine m_iconst F (v := 2) (by decide) e_L_law_1335 ?_
  refine m_iadd F e_L_law_1336 ?_
  refine Wm.topE (w := nI (i + 2)) (nI_add i 2) ?_
  refine m_sld F (j := i + 2) e_L_law_1337 hX hb (nI_clamp (by omega)) (vp_in_nI (by omega) (by omega)) ?_
  refine l_callM F e_L_law_1338 (q_X10_latest (x_l X) V (b + 1457) T 1 u h P L0_ _ _ (xs (i + 1)) (xs (i + 2)) h11399 hok.b hP ) cb_X10_latest ml_L_152 im_X10_latest se_X10_latest h11399 rfl rfl (rest := []) rfl (Nat.le_of_ble_eq_true rfl) ⟨Nat.le_of_ble_eq_true rfl, Nat.le_of_ble_eq_true rfl⟩ (by omega) (by omega) (fun r σ11403 hp => ?_)
  obtain ⟨h11404, x11405, rfl⟩ := hp
  have h11406 := h11404.1
  have h11407 := h11398.keepM (fun a ha => h11404.2 a (by rw [ha]; decide))
  have h11408 := (h11404.2 (b + 1480) (by rw [kC_0 (c := b + 1457) (by omega)]; decide)).trans h11400
  have by11409 := by11401.keep (h11404.2 (b + 1) (by rw [kC_0 (c := b + 1457) (by omega)]; decide))
  have br11410 := br11402.of (h11404.2 (b + 1457 + 1) (by rw [kC_at (k := 1) (by decide)]; decide))
  refine m_pop F rfl e_L_law_1341 ?_
  refine m_goto F e_L_law_1342 ?_
  exact hN _ M T _ _ _ (by omega) (by omega) (by omega) ⟨by omega, h11407, ⟨_, h11408⟩, u, h, P, L0_, ⟨hu, hh, hP, hkk, hm0, hw0, hok⟩, h11406, _, by11409, br11410⟩
set_option maxRecDepth 20000 in
theorem lc_30 {V : VX} {X : MX} {nm : String} {b sb N k z i L M T : Nat} {xs : Nat → Int32} {σ : Mem} (F : Fx V X (yLw nm) cL_law 7 ret room_1) (hX : va_X sb L xs (x_s X) V.2.2) (hb : sb < V.2.2.size) (hl : (x_l X).stackTraces = false) (hi : i + 6 ≤ L) (hL : L ≤ 3072) (hk : k ≤ 2100) (hz : z ≤ 80000) (hM : M ≤ 10000000) (hI : IV V b M T σ) (hN : ∀ (N' M' T' : Nat) (σ' : Mem) (k' z' : Nat), k' ≤ k + 1 → z' ≤ z + 6 → M' ≤ M + 10000 → IV V b M' T' σ' → Wm V X 7 N' σ' k' z' 1745 [(4, .int (nI i)), (3, .ref (b + 1480)), (2, .ref (b + 1457)), (1, .ref b), (0, .ref sb)] []) : Wm V X 7 N σ k z 1345 [(4, .int (nI i)), (3, .ref (b + 1480)), (2, .ref (b + 1457)), (1, .ref b), (0, .ref sb)] [] := by
  obtain ⟨hT, hHT, ⟨z0, hout⟩, u, h, P, L0_, ⟨hu, hh, hP, hkk, hm0, hw0, hok⟩, hHR, t, hBy, hBr⟩ := hI
  refine m_aload_n F rfl e_L_law_1345 ?_
  refine m_aload_n F rfl e_L_law_1346 ?_
  refine m_iload F rfl e_L_law_1347 ?_
  refine m_iconst F (v := 1) (by decide) e_L_law_1349 ?_
  refine m_iadd F e_L_law_1350 ?_
  refine Wm.topE (w := nI (i + 1)) (nI_add i 1) ?_
  refine m_sld F (j := i + 1) e_L_law_1351 hX hb (nI_clamp (by omega)) (vp_in_nI (by omega) (by omega)) ?_
  refine l_callC F e_L_law_1352 (s_X9_half (x_l X) V b M 1 T _ _ b (xs (i + 1)) hHT kA_b  (by omega)) cb_X9_half ml_L_153 im_X9_half se_X9_half hHT rfl rfl (rest := []) rfl (Nat.le_of_ble_eq_true rfl) ⟨Nat.le_of_ble_eq_true rfl, Nat.le_of_ble_eq_true rfl⟩ (by omega) (by omega) (fun r σ11411 hp => ?_)
  obtain ⟨h11412, x11413, rfl⟩ := hp
  have h11414 := h11412.1
  have h11415 := hHR.keepL (fun a ha _ => h11412.2 a (by rw [show kA _ a = 0 from ha]; decide))
  have h11416 := (h11412.2 (b + 1480) (by rw [show kA _ (b + 1480) = 0 from kA_o]; decide)).trans hout
  have br11418 := hBr.of (h11412.2 (b + 1457 + 1) (by rw [show kA _ (b + 1457 + 1) = 0 from kA_big (by omega)]; decide))
  have by11417 := hBy.keep (h11412.2 (b + 1) (by rw [show kA _ (b + 1) = 2 from kA_t]; decide))
  refine m_pop F rfl e_L_law_1355 ?_
  refine m_aload_n F rfl e_L_law_1356 ?_
  refine m_aload_n F rfl e_L_law_1357 ?_
  refine m_iload F rfl e_L_law_1358 ?_
  refine m_iconst F (v := 1) (by decide) e_L_law_1360 ?_
  refine m_iadd F e_L_law_1361 ?_
  refine Wm.topE (w := nI (i + 1)) (nI_add i 1) ?_
  refine m_sld F (j := i + 1) e_L_law_1362 hX hb (nI_clamp (by omega)) (vp_in_nI (by omega) (by omega)) ?_
  refine l_callM F e_L_law_1363 (q_X10_half (x_l X) V (b + 1457) T 1 u h P L0_ _ _ (xs (i + 1)) h11415 hok hP ) cb_X10_half ml_L_156 im_X10_half se_X10_half h11415 rfl rfl (rest := []) rfl (Nat.le_of_ble_eq_true rfl) ⟨Nat.le_of_ble_eq_true rfl, Nat.le_of_ble_eq_true rfl⟩ (by omega) (by omega) (fun r σ11419 hp => ?_)
  obtain ⟨h11420, x11421, rfl⟩ := hp
  have h11422 := h11420.1
  have h11423 := h11414.keepM (fun a ha => h11420.2 a (by rw [ha]; decide))
  have h11424 := (h11420.2 (b + 1480) (by rw [kC_0 (c := b + 1457) (by omega)]; decide)).trans h11416
  have by11425 := by11417.keep (h11420.2 (b + 1) (by rw [kC_0 (c := b + 1457) (by omega)]; decide))
  have br11426 := br11418.of (h11420.2 (b + 1457 + 1) (by rw [kC_at (k := 1) (by decide)]; decide))
  refine m_pop F rfl e_L_law_1366 ?_
  refine m_goto F e_L_law_1367 ?_
  exact hN _ (M + 1400) T _ _ _ (by omega) (by omega) (by omega) ⟨by omega, h11423, ⟨_, h11424⟩, u, h, P, L0_, ⟨hu, hh, hP, hkk, hm0, hw0, hok⟩, h11422, _, by11425, br11426⟩
set_option maxRecDepth 20000 in
theorem lc_31 {V : VX} {X : MX} {nm : String} {b sb N k z i L M T : Nat} {xs : Nat → Int32} {σ : Mem} (F : Fx V X (yLw nm) cL_law 7 ret room_1) (hX : va_X sb L xs (x_s X) V.2.2) (hb : sb < V.2.2.size) (hl : (x_l X).stackTraces = false) (hi : i + 6 ≤ L) (hL : L ≤ 3072) (hk : k ≤ 2100) (hz : z ≤ 80000) (hM : M ≤ 10000000) (hI : IV V b M T σ) (hN : ∀ (N' M' T' : Nat) (σ' : Mem) (k' z' : Nat), k' ≤ k + 1 → z' ≤ z + 6 → M' ≤ M + 10000 → IV V b M' T' σ' → Wm V X 7 N' σ' k' z' 1745 [(4, .int (nI i)), (3, .ref (b + 1480)), (2, .ref (b + 1457)), (1, .ref b), (0, .ref sb)] []) : Wm V X 7 N σ k z 1370 [(4, .int (nI i)), (3, .ref (b + 1480)), (2, .ref (b + 1457)), (1, .ref b), (0, .ref sb)] [] := by
  obtain ⟨hT, hHT, ⟨z0, hout⟩, u, h, P, L0_, ⟨hu, hh, hP, hkk, hm0, hw0, hok⟩, hHR, t, hBy, hBr⟩ := hI
  refine m_aload_n F rfl e_L_law_1370 ?_
  refine m_aload_n F rfl e_L_law_1371 ?_
  refine m_iload F rfl e_L_law_1372 ?_
  refine m_iconst F (v := 1) (by decide) e_L_law_1374 ?_
  refine m_iadd F e_L_law_1375 ?_
  refine Wm.topE (w := nI (i + 1)) (nI_add i 1) ?_
  refine m_sld F (j := i + 1) e_L_law_1376 hX hb (nI_clamp (by omega)) (vp_in_nI (by omega) (by omega)) ?_
  refine m_aload_n F rfl e_L_law_1377 ?_
  refine m_iload F rfl e_L_law_1378 ?_
  refine m_iconst F (v := 2) (by decide) e_L_law_1380 ?_
  refine m_iadd F e_L_law_1381 ?_
  refine Wm.topE (w := nI (i + 2)) (nI_add i 2) ?_
  refine m_sld F (j := i + 2) e_L_law_1382 hX hb (nI_clamp (by omega)) (vp_in_nI (by omega) (by omega)) ?_
  refine l_callC F e_L_law_1383 (s_X9_cash (x_l X) V b M 1 T _ _ b (xs (i + 1)) (xs (i + 2)) hHT kA_b  (by omega)) cb_X9_cash ml_L_157 im_X9_cash se_X9_cash hHT rfl rfl (rest := []) rfl (Nat.le_of_ble_eq_true rfl) ⟨Nat.le_of_ble_eq_true rfl, Nat.le_of_ble_eq_true rfl⟩ (by omega) (by omega) (fun r σ11427 hp => ?_)
  obtain ⟨h11428, x11429, rfl⟩ := hp
  have h11430 := h11428.1
  have h11431 := hHR.keepL (fun a ha _ => h11428.2 a (by rw [show kA _ a = 0 from ha]; decide))
  have h11432 := (h11428.2 (b + 1480) (by rw [show kA _ (b + 1480) = 0 from kA_o]; decide)).trans hout
  have br11434 := hBr.of (h11428.2 (b + 1457 + 1) (by rw [show kA _ (b + 1457 + 1) = 0 from kA_big (by omega)]; decide))
  have by11433 := hBy.keep (h11428.2 (b + 1) (by rw [show kA _ (b + 1) = 2 from kA_t]; decide))
  refine m_pop2_2 F rfl e_L_law_1386 ?_
  refine m_aload_n F rfl e_L_law_1387 ?_
  refine m_aload_n F rfl e_L_law_1388 ?_
  refine m_iload F rfl e_L_law_1389 ?_
  refine m_iconst F (v := 1) (by decide) e_L_law_1391 ?_
  refine m_iadd F e_L_law_1392 ?_
  refine Wm.topE (w := nI (i + 1)) (nI_add i 1) ?_
  refine m_sld F (j := i + 1) e_L_law_1393 hX hb (nI_clamp (by omega)) (vp_in_nI (by omega) (by omega)) ?_
  refine m_aload_n F rfl e_L_law_1394 ?_
  refine m_iload F rfl e_L_law_1395 ?_
  refine m_iconst F (v := 2) (by decide) e_L_law_1397 ?_
  refine m_iadd F e_L_law_1398 ?_
  refine Wm.topE (w := nI (i + 2)) (nI_add i 2) ?_
  refine m_sld F (j := i + 2) e_L_law_1399 hX hb (nI_clamp (by omega)) (vp_in_nI (by omega) (by omega)) ?_
  refine l_callM F e_L_law_1400 (q_X10_cash (x_l X) V (b + 1457) T 1 u h P L0_ _ _ (xs (i + 1)) (xs (i + 2)) h11431 hok hP ) cb_X10_cash ml_L_160 im_X10_cash se_X10_cash h11431 rfl rfl (rest := []) rfl (Nat.le_of_ble_eq_true rfl) ⟨Nat.le_of_ble_eq_true rfl, Nat.le_of_ble_eq_true rfl⟩ (by omega) (by omega) (fun r σ11435 hp => ?_)
  obtain ⟨h11436, x11437, rfl⟩ := hp
  have h11438 := h11436.1
  have h11439 := h11430.keepM (fun a ha => h11436.2 a (by rw [ha]; decide))
  have h11440 := (h11436.2 (b + 1480) (by rw [kC_0 (c := b + 1457) (by omega)]; decide)).trans h11432
  have by11441 := by11433.keep (h11436.2 (b + 1) (by rw [kC_0 (c := b + 1457) (by omega)]; decide))
  have br11442 := br11434.of (h11436.2 (b + 1457 + 1) (by rw [kC_at (k := 1) (by decide)]; decide))
  refine m_pop2_2 F rfl e_L_law_1403 ?_
  refine m_goto F e_L_law_1404 ?_
  exact hN _ (M + 1400) T _ _ _ (by omega) (by omega) (by omega) ⟨by omega, h11439, ⟨_, h11440⟩, u, h, P, L0_, ⟨hu, hh, hP, hkk, hm0, hw0, hok⟩, h11438, _, by11441, br11442⟩
set_option maxRecDepth 20000 in
theorem lc_32 {V : VX} {X : MX} {nm : String} {b sb N k z i L M T : Nat} {xs : Nat → Int32} {σ : Mem} (F : Fx V X (yLw nm) cL_law 7 ret room_1) (hX : va_X sb L xs (x_s X) V.2.2) (hb : sb < V.2.2.size) (hl : (x_l X).stackTraces = false) (hi : i + 6 ≤ L) (hL : L ≤ 3072) (hk : k ≤ 2100) (hz : z ≤ 80000) (hM : M ≤ 10000000) (hI : IV V b M T σ) (hN : ∀ (N' M' T' : Nat) (σ' : Mem) (k' z' : Nat), k' ≤ k + 1 → z' ≤ z + 6 → M' ≤ M + 10000 → IV V b M' T' σ' → Wm V X 7 N' σ' k' z' 1745 [(4, .int (nI i)), (3, .ref (b + 1480)), (2, .ref (b + 1457)), (1, .ref b), (0, .ref sb)] []) : Wm V X 7 N σ k z 1407 [(4, .int (nI i)), (3, .ref (b + 1480)), (2, .ref (b + 1457)), (1, .ref b), (0, .ref sb)] [] := by
  obtain ⟨hT, hHT, ⟨z0, hout⟩, u, h, P, L0_, ⟨hu, hh, hP, hkk, hm0, hw0, hok⟩, hHR, t, hBy, hBr⟩ := hI
  refine m_aload_n F rfl e_L_law_1407 ?_
  refine m_aload_n F rfl e_L_law_1408 ?_
  refine m_iload F rfl e_L_law_1409 ?_
  refine m_iconst F (v := 1) (by decide) e_L_law_1411 ?_
  refine m_iadd F e_L_law_1412 ?_
  refine Wm.topE (w := nI (i + 1)) (nI_add i 1) ?_
  refine m_sld F (j := i + 1) e_L_law_1413 hX hb (nI_clamp (by omega)) (vp_in_nI (by omega) (by omega)) ?_
  refine m_aload_n F rfl e_L_law_1414 ?_
  refine m_iload F rfl e_L_law_1415 ?_
  refine m_iconst F (v := 2) (by decide) e_L_law_1417 ?_
  refine m_iadd F e_L_law_1418 ?_
  refine Wm.topE (w := nI (i + 2)) (nI_add i 2) ?_
  refine m_sld F (j := i + 2) e_L_law_1419 hX hb (nI_clamp (by omega)) (vp_in_nI (by omega) (by omega)) ?_
  refine l_callC F e_L_law_1420 (s_X9_ifIndex (x_l X) V b M 1 T _ _ b (xs (i + 1)) (xs (i + 2)) hHT kA_b  (by omega)) cb_X9_ifIndex ml_L_161 im_X9_ifIndex se_X9_ifIndex hHT rfl rfl (rest := []) rfl (Nat.le_of_ble_eq_true rfl) ⟨Nat.le_of_ble_eq_true rfl, Nat.le_of_ble_eq_true rfl⟩ (by omega) (by omega) (fun r σ11443 hp => ?_)
  obtain ⟨h11444, x11445, rfl⟩ := hp
  have h11446 := h11444.1
  have h11447 := hHR.keepL (fun a ha _ => h11444.2 a (by rw [show kA _ a = 0 from ha]; decide))
  have h11448 := (h11444.2 (b + 1480) (by rw [show kA _ (b + 1480) = 0 from kA_o]; decide)).trans hout
  have br11450 := hBr.of (h11444.2 (b + 1457 + 1) (by rw [show kA _ (b + 1457 + 1) = 0 from kA_big (by omega)]; decide))
  have by11449 := hBy.keep (h11444.2 (b + 1) (by rw [show kA _ (b + 1) = 2 from kA_t]; decide))
  refine m_pop2_2 F rfl e_L_law_1423 ?_
  refine m_aload_n F rfl e_L_law_1424 ?_
  refine m_aload_n F rfl e_L_law_1425 ?_
  refine m_iload F rfl e_L_law_1426 ?_
  refine m_iconst F (v := 1) (by decide) e_L_law_1428 ?_
  refine m_iadd F e_L_law_1429 ?_
  refine Wm.topE (w := nI (i + 1)) (nI_add i 1) ?_
  refine m_sld F (j := i + 1) e_L_law_1430 hX hb (nI_clamp (by omega)) (vp_in_nI (by omega) (by omega)) ?_
  refine m_aload_n F rfl e_L_law_1431 ?_
  refine m_iload F rfl e_L_law_1432 ?_
  refine m_iconst F (v := 2) (by decide) e_L_law_1434 ?_
  refine m_iadd F e_L_law_1435 ?_
  refine Wm.topE (w := nI (i + 2)) (nI_add i 2) ?_
  refine m_sld F (j := i + 2) e_L_law_1436 hX hb (nI_clamp (by omega)) (vp_in_nI (by omega) (by omega)) ?_
  refine l_callM F e_L_law_1437 (q_X10_ifIndex (x_l X) V (b + 1457) T 1 u h P L0_ _ _ (xs (i + 1)) (xs (i + 2)) h11447 hok hP ) cb_X10_ifIndex ml_L_164 im_X10_ifIndex se_X10_ifIndex h11447 rfl rfl (rest := []) rfl (Nat.le_of_ble_eq_true rfl) ⟨Nat.le_of_ble_eq_true rfl, Nat.le_of_ble_eq_true rfl⟩ (by omega) (by omega) (fun r σ11451 hp => ?_)
  obtain ⟨h11452, x11453, rfl⟩ := hp
  have h11454 := h11452.1
  have h11455 := h11446.keepM (fun a ha => h11452.2 a (by rw [ha]; decide))
  have h11456 := (h11452.2 (b + 1480) (by rw [kC_0 (c := b + 1457) (by omega)]; decide)).trans h11448
  have by11457 := by11449.keep (h11452.2 (b + 1) (by rw [kC_0 (c := b + 1457) (by omega)]; decide))
  have br11458 := br11450.of (h11452.2 (b + 1457 + 1) (by rw [kC_at (k := 1) (by decide)]; decide))
  refine m_pop2_2 F rfl e_L_law_1440 ?_
  refine m_goto F e_L_law_1441 ?_
  exact hN _ M T _ _ _ (by omega) (by omega) (by omega) ⟨by omega, h11455, ⟨_, h11456⟩, u, h, P, L0_, ⟨hu, hh, hP, hkk, hm0, hw0, hok⟩, h11454, _, by11457, br11458⟩
set_option maxRecDepth 20000 in
theorem lc_33 {V : VX} {X : MX} {nm : String} {b sb N k z i L M T : Nat} {xs : Nat → Int32} {σ : Mem} (F : Fx V X (yLw nm) cL_law 7 ret room_1) (hX : va_X sb L xs (x_s X) V.2.2) (hb : sb < V.2.2.size) (hl : (x_l X).stackTraces = false) (hi : i + 6 ≤ L) (hL : L ≤ 3072) (hk : k ≤ 2100) (hz : z ≤ 80000) (hM : M ≤ 10000000) (hI : IV V b M T σ) (hN : ∀ (N' M' T' : Nat) (σ' : Mem) (k' z' : Nat), k' ≤ k + 1 → z' ≤ z + 6 → M' ≤ M + 10000 → IV V b M' T' σ' → Wm V X 7 N' σ' k' z' 1745 [(4, .int (nI i)), (3, .ref (b + 1480)), (2, .ref (b + 1457)), (1, .ref b), (0, .ref sb)] []) : Wm V X 7 N σ k z 1444 [(4, .int (nI i)), (3, .ref (b + 1480)), (2, .ref (b + 1457)), (1, .ref b), (0, .ref sb)] [] := by
  obtain ⟨hT, hHT, ⟨z0, hout⟩, u, h, P, L0_, ⟨hu, hh, hP, hkk, hm0, hw0, hok⟩, hHR, t, hBy, hBr⟩ := hI
  refine m_aload_n F rfl e_L_law_1444 ?_
  refine m_aload_n F rfl e_L_law_1445 ?_
  refine m_iload F rfl e_L_law_1446 ?_
  refine m_iconst F (v := 1) (by decide) e_L_law_1448 ?_
  refine m_iadd F e_L_law_1449 ?_
  refine Wm.topE (w := nI (i + 1)) (nI_add i 1) ?_
  refine m_sld F (j := i + 1) e_L_law_1450 hX hb (nI_clamp (by omega)) (vp_in_nI (by omega) (by omega)) ?_
  refine l_callC F e_L_law_1451 (s_X9_ifTaken (x_l X) V b M 1 T _ _ b (xs (i + 1)) hHT kA_b  (by omega)) cb_X9_ifTaken ml_L_165 im_X9_ifTaken se_X9_ifTaken hHT rfl rfl (rest := []) rfl (Nat.le_of_ble_eq_true rfl) ⟨Nat.le_of_ble_eq_true rfl, Nat.le_of_ble_eq_true rfl⟩ (by omega) (by omega) (fun r σ11459 hp => ?_)
  obtain ⟨h11460, x11461, rfl⟩ := hp
  have h11462 := h11460.1
  have h11463 := hHR.keepL (fun a ha _ => h11460.2 a (by rw [show kA _ a = 0 from ha]; decide))
  have h11464 := (h11460.2 (b + 1480) (by rw [show kA _ (b + 1480) = 0 from kA_o]; decide)).trans hout
  have br11466 := hBr.of (h11460.2 (b + 1457 + 1) (by rw [show kA _ (b + 1457 + 1) = 0 from kA_big (by omega)]; decide))
  have by11465 := hBy.keep (h11460.2 (b + 1) (by rw [show kA _ (b + 1) = 2 from kA_t]; decide))
  refine m_pop2_2 F rfl e_L_law_1454 ?_
  refine m_aload_n F rfl e_L_law_1455 ?_
  refine m_aload_n F rfl e_L_law_1456 ?_
  refine m_iload F rfl e_L_law_1457 ?_
  refine m_iconst F (v := 1) (by decide) e_L_law_1459 ?_
  refine m_iadd F e_L_law_1460 ?_
  refine Wm.topE (w := nI (i + 1)) (nI_add i 1) ?_
  refine m_sld F (j := i + 1) e_L_law_1461 hX hb (nI_clamp (by omega)) (vp_in_nI (by omega) (by omega)) ?_
  refine l_callM F e_L_law_1462 (q_X10_ifTaken (x_l X) V (b + 1457) T 1 u h P L0_ _ _ (xs (i + 1)) h11463 hok hP ) cb_X10_ifTaken ml_L_168 im_X10_ifTaken se_X10_ifTaken h11463 rfl rfl (rest := []) rfl (Nat.le_of_ble_eq_true rfl) ⟨Nat.le_of_ble_eq_true rfl, Nat.le_of_ble_eq_true rfl⟩ (by omega) (by omega) (fun r σ11467 hp => ?_)
  obtain ⟨h11468, x11469, rfl⟩ := hp
  have h11470 := h11468.1
  have h11471 := h11462.keepM (fun a ha => h11468.2 a (by rw [ha]; decide))
  have h11472 := (h11468.2 (b + 1480) (by rw [kC_0 (c := b + 1457) (by omega)]; decide)).trans h11464
  have by11473 := by11465.keep (h11468.2 (b + 1) (by rw [kC_0 (c := b + 1457) (by omega)]; decide))
  have br11474 := br11466.of (h11468.2 (b + 1457 + 1) (by rw [kC_at (k := 1) (by decide)]; decide))
  refine m_pop2_2 F rfl e_L_law_1465 ?_
  refine m_goto F e_L_law_1466 ?_
  exact hN _ M T _ _ _ (by omega) (by omega) (by omega) ⟨by omega, h11471, ⟨_, h11472⟩, u, h, P, L0_, ⟨hu, hh, hP, hkk, hm0, hw0, hok⟩, h11470, _, by11473, br11474⟩
set_option maxRecDepth 20000 in
theorem lc_34 {V : VX} {X : MX} {nm : String} {b sb N k z i L M T : Nat} {xs : Nat → Int32} {σ : Mem} (F : Fx V X (yLw nm) cL_law 7 ret room_1) (hX : va_X sb L xs (x_s X) V.2.2) (hb : sb < V.2.2.size) (hl : (x_l X).stackTraces = false) (hi : i + 6 ≤ L) (hL : L ≤ 3072) (hk : k ≤ 2100) (hz : z ≤ 80000) (hM : M ≤ 10000000) (hI : IV V b M T σ) (hN : ∀ (N' M' T' : Nat) (σ' : Mem) (k' z' : Nat), k' ≤ k + 1 → z' ≤ z + 6 → M' ≤ M + 10000 → IV V b M' T' σ' → Wm V X 7 N' σ' k' z' 1745 [(4, .int (nI i)), (3, .ref (b + 1480)), (2, .ref (b + 1457)), (1, .ref b), (0, .ref sb)] []) : Wm V X 7 N σ k z 1469 [(4, .int (nI i)), (3, .ref (b + 1480)), (2, .ref (b + 1457)), (1, .ref b), (0, .ref sb)] [] := by
  obtain ⟨hT, hHT, ⟨z0, hout⟩, u, h, P, L0_, ⟨hu, hh, hP, hkk, hm0, hw0, hok⟩, hHR, t, hBy, hBr⟩ := hI
  refine m_aload_n F rfl e_L_law_1469 ?_
  refine m_aload_n F rfl e_L_law_1470 ?_
  refine m_iload F rfl e_L_law_1471 ?_
  refine m_iconst F (v := 1) (by decide) e_L_law_1473 ?_
  refine m_iadd F e_L_law_1474 ?_
  refine Wm.topE (w := nI (i + 1)) (nI_add i 1) ?_
  refine m_sld F (j := i + 1) e_L_law_1475 hX hb (nI_clamp (by omega)) (vp_in_nI (by omega) (by omega)) ?_
  refine m_aload_n F rfl e_L_law_1476 ?_
  refine m_iload F rfl e_L_law_1477 ?_
  refine m_iconst F (v := 2) (by decide) e_L_law_1479 ?_
  refine m_iadd F e_L_law_1480 ?_
  refine Wm.topE (w := nI (i + 2)) (nI_add i 2) ?_
  refine m_sld F (j := i + 2) e_L_law_1481 hX hb (nI_clamp (by omega)) (vp_in_nI (by omega) (by omega)) ?_
  refine m_aload_n F rfl e_L_law_1482 ?_
  refine m_iload F rfl e_L_law_1483 ?_
  refine m_iconst F (v := 3) (by decide) e_L_law_1485 ?_
  refine m_iadd F e_L_law_1486 ?_
  refine Wm.topE (w := nI (i + 3)) (nI_add i 3) ?_
  refine m_sld F (j := i + 3) e_L_law_1487 hX hb (nI_clamp (by omega)) (vp_in_nI (by omega) (by omega)) ?_
  refine m_i2l F e_L_law_1488 ?_
  refine Wm.topl (fun x11475 _ => ?_)
  refine m_bipush F (v := 32) (by decide) e_L_law_1489 ?_
  refine m_lshl F e_L_law_1491 ?_
  refine Wm.topl (fun x11476 _ => ?_)
  refine m_aload_n F rfl e_L_law_1492 ?_
  refine m_iload F rfl e_L_law_1493 ?_
  refine m_iconst F (v := 4) (by decide) e_L_law_1495 ?_
  refine m_iadd F e_L_law_1496 ?_
  refine Wm.topE (w := nI (i + 4)) (nI_add i 4) ?_
  refine m_sld F (j := i + 4) e_L_law_1497 hX hb (nI_clamp (by omega)) (vp_in_nI (by omega) (by omega)) ?_
  refine m_i2l F e_L_law_1498 ?_
  refine Wm.topl (fun x11477 _ => ?_)
  refine m_ldc2 F kc_L_96 e_L_law_1499 ?_
  refine m_land F e_L_law_1502 ?_
  refine Wm.topl (fun x11478 _ => ?_)
  refine m_lor F e_L_law_1503 ?_
  refine Wm.topl (fun x11479 _ => ?_)
  refine l_callC F e_L_law_1504 (s_X9_yields (x_l X) V b M 1 T _ _ b (xs (i + 1)) (xs (i + 2)) x11479 hHT kA_b  (by omega)) cb_X9_yields ml_L_169 im_X9_yields se_X9_yields hHT rfl rfl (rest := []) rfl (Nat.le_of_ble_eq_true rfl) ⟨Nat.le_of_ble_eq_true rfl, Nat.le_of_ble_eq_true rfl⟩ (by omega) (by omega) (fun r σ11480 hp => ?_)
  obtain ⟨h11481, x11482, rfl⟩ := hp
  have h11483 := h11481.1
  have h11484 := hHR.keepL (fun a ha _ => h11481.2 a (by rw [show kA _ a = 0 from ha]; decide))
  have h11485 := (h11481.2 (b + 1480) (by rw [show kA _ (b + 1480) = 0 from kA_o]; decide)).trans hout
  have br11487 := hBr.of (h11481.2 (b + 1457 + 1) (by rw [show kA _ (b + 1457 + 1) = 0 from kA_big (by omega)]; decide))
  have by11486 := hBy.keep (h11481.2 (b + 1) (by rw [show kA _ (b + 1) = 2 from kA_t]; decide))
  refine m_pop F rfl e_L_law_1507 ?_
  refine m_aload_n F rfl e_L_law_1508 ?_
  refine m_aload_n F rfl e_L_law_1509 ?_
  refine m_iload F rfl e_L_law_1510 ?_
  refine m_iconst F (v := 1) (by decide) e_L_law_1512 ?_
  refine m_iadd F e_L_law_1513 ?_
  refine Wm.topE (w := nI (i + 1)) (nI_add i 1) ?_
  refine m_sld F (j := i + 1) e_L_law_1514 hX hb (nI_clamp (by omega)) (vp_in_nI (by omega) (by omega)) ?_
  refine m_aload_n F rfl e_L_law_1515 ?_
  refine m_iload F rfl e_L_law_1516 ?_
  refine m_iconst F (v := 2) (by decide) e_L_law_1518 ?_
  refine m_iadd F e_L_law_1519 ?_
  refine Wm.topE (w := nI (i + 2)) (nI_add i 2) ?_
  refine m_sld F (j := i + 2) e_L_law_1520 hX hb (nI_clamp (by omega)) (vp_in_nI (by omega) (by omega)) ?_
  refine m_aload_n F rfl e_L_law_1521 ?_
  refine m_iload F rfl e_L_law_1522 ?_
  refine m_iconst F (v := 3) (by decide) e_L_law_1524 ?_
  refine m_iadd F e_L_law_1525 ?_
  refine Wm.topE (w := nI (i + 3)) (nI_add i 3) ?_
  refine m_sld F (j := i + 3) e_L_law_1526 hX hb (nI_clamp (by omega)) (vp_in_nI (by omega) (by omega)) ?_
  refine m_i2l F e_L_law_1527 ?_
  refine Wm.topl (fun x11488 _ => ?_)
  refine m_bipush F (v := 32) (by decide) e_L_law_1528 ?_
  refine m_lshl F e_L_law_1530 ?_
  refine Wm.topl (fun x11489 _ => ?_)
  refine m_aload_n F rfl e_L_law_1531 ?_
  refine m_iload F rfl e_L_law_1532 ?_
  refine m_iconst F (v := 4) (by decide) e_L_law_1534 ?_
  refine m_iadd F e_L_law_1535 ?_
  refine Wm.topE (w := nI (i + 4)) (nI_add i 4) ?_
  refine m_sld F (j := i + 4) e_L_law_1536 hX hb (nI_clamp (by omega)) (vp_in_nI (by omega) (by omega)) ?_
  refine m_i2l F e_L_law_1537 ?_
  refine Wm.topl (fun x11490 _ => ?_)
  refine m_ldc2 F kc_L_96 e_L_law_1538 ?_
  refine m_land F e_L_law_1541 ?_
  refine Wm.topl (fun x11491 _ => ?_)
  refine m_lor F e_L_law_1542 ?_
  refine Wm.topl (fun x11492 _ => ?_)
  refine l_callM F e_L_law_1543 (q_X10_yields (x_l X) V (b + 1457) T 1 u h P L0_ _ _ (xs (i + 1)) (xs (i + 2)) x11492 h11484 hok.b hP ) cb_X10_yields ml_L_173 im_X10_yields se_X10_yields h11484 rfl rfl (rest := []) rfl (Nat.le_of_ble_eq_true rfl) ⟨Nat.le_of_ble_eq_true rfl, Nat.le_of_ble_eq_true rfl⟩ (by omega) (by omega) (fun r σ11493 hp => ?_)
  obtain ⟨h11494, x11495, rfl⟩ := hp
  have h11496 := h11494.1
  have h11497 := h11483.keepM (fun a ha => h11494.2 a (by rw [ha]; decide))
  have h11498 := (h11494.2 (b + 1480) (by rw [kC_0 (c := b + 1457) (by omega)]; decide)).trans h11485
  have by11499 := by11486.keep (h11494.2 (b + 1) (by rw [kC_0 (c := b + 1457) (by omega)]; decide))
  have br11500 := br11487.of (h11494.2 (b + 1457 + 1) (by rw [kC_at (k := 1) (by decide)]; decide))
  refine m_pop F rfl e_L_law_1546 ?_
  refine m_goto F e_L_law_1547 ?_
  exact hN _ M T _ _ _ (by omega) (by omega) (by omega) ⟨by omega, h11497, ⟨_, h11498⟩, u, h, P, L0_, ⟨hu, hh, hP, hkk, hm0, hw0, hok⟩, h11496, _, by11499, br11500⟩
set_option maxRecDepth 20000 in
theorem lc_35 {V : VX} {X : MX} {nm : String} {b sb N k z i L M T : Nat} {xs : Nat → Int32} {σ : Mem} (F : Fx V X (yLw nm) cL_law 7 ret room_1) (hX : va_X sb L xs (x_s X) V.2.2) (hb : sb < V.2.2.size) (hl : (x_l X).stackTraces = false) (hi : i + 6 ≤ L) (hL : L ≤ 3072) (hk : k ≤ 2100) (hz : z ≤ 80000) (hM : M ≤ 10000000) (hI : IV V b M T σ) (hN : ∀ (N' M' T' : Nat) (σ' : Mem) (k' z' : Nat), k' ≤ k + 1 → z' ≤ z + 6 → M' ≤ M + 10000 → IV V b M' T' σ' → Wm V X 7 N' σ' k' z' 1745 [(4, .int (nI i)), (3, .ref (b + 1480)), (2, .ref (b + 1457)), (1, .ref b), (0, .ref sb)] []) : Wm V X 7 N σ k z 1550 [(4, .int (nI i)), (3, .ref (b + 1480)), (2, .ref (b + 1457)), (1, .ref b), (0, .ref sb)] [] := by
  obtain ⟨hT, hHT, ⟨z0, hout⟩, u, h, P, L0_, ⟨hu, hh, hP, hkk, hm0, hw0, hok⟩, hHR, t, hBy, hBr⟩ := hI
  refine m_aload_n F rfl e_L_law_1550 ?_
  refine m_aload_n F rfl e_L_law_1551 ?_
  refine m_iload F rfl e_L_law_1552 ?_
  refine m_iconst F (v := 1) (by decide) e_L_law_1554 ?_
  refine m_iadd F e_L_law_1555 ?_
  refine Wm.topE (w := nI (i + 1)) (nI_add i 1) ?_
  refine m_sld F (j := i + 1) e_L_law_1556 hX hb (nI_clamp (by omega)) (vp_in_nI (by omega) (by omega)) ?_
  refine m_aload_n F rfl e_L_law_1557 ?_
  refine m_iload F rfl e_L_law_1558 ?_
  refine m_iconst F (v := 2) (by decide) e_L_law_1560 ?_
  refine m_iadd F e_L_law_1561 ?_
  refine Wm.topE (w := nI (i + 2)) (nI_add i 2) ?_
  refine m_sld F (j := i + 2) e_L_law_1562 hX hb (nI_clamp (by omega)) (vp_in_nI (by omega) (by omega)) ?_
  refine m_i2l F e_L_law_1563 ?_
  refine Wm.topl (fun x11501 _ => ?_)
  refine m_bipush F (v := 32) (by decide) e_L_law_1564 ?_
  refine m_lshl F e_L_law_1566 ?_
  refine Wm.topl (fun x11502 _ => ?_)
  refine m_aload_n F rfl e_L_law_1567 ?_
  refine m_iload F rfl e_L_law_1568 ?_
  refine m_iconst F (v := 3) (by decide) e_L_law_1570 ?_
  refine m_iadd F e_L_law_1571 ?_
  refine Wm.topE (w := nI (i + 3)) (nI_add i 3) ?_
  refine m_sld F (j := i + 3) e_L_law_1572 hX hb (nI_clamp (by omega)) (vp_in_nI (by omega) (by omega)) ?_
  refine m_i2l F e_L_law_1573 ?_
  refine Wm.topl (fun x11503 _ => ?_)
  refine m_ldc2 F kc_L_96 e_L_law_1574 ?_
  refine m_land F e_L_law_1577 ?_
  refine Wm.topl (fun x11504 _ => ?_)
  refine m_lor F e_L_law_1578 ?_
  refine Wm.topl (fun x11505 _ => ?_)
  refine l_callC F e_L_law_1579 (s_X9_level (x_l X) V b M 1 T _ _ b (xs (i + 1)) x11505 hHT kA_b  (by omega)) cb_X9_level ml_L_174 im_X9_level se_X9_level hHT rfl rfl (rest := []) rfl (Nat.le_of_ble_eq_true rfl) ⟨Nat.le_of_ble_eq_true rfl, Nat.le_of_ble_eq_true rfl⟩ (by omega) (by omega) (fun r σ11506 hp => ?_)
  obtain ⟨h11507, x11508, rfl⟩ := hp
  have h11509 := h11507.1
  have h11510 := hHR.keepL (fun a ha _ => h11507.2 a (by rw [show kA _ a = 0 from ha]; decide))
  have h11511 := (h11507.2 (b + 1480) (by rw [show kA _ (b + 1480) = 0 from kA_o]; decide)).trans hout
  have br11513 := hBr.of (h11507.2 (b + 1457 + 1) (by rw [show kA _ (b + 1457 + 1) = 0 from kA_big (by omega)]; decide))
  have by11512 := hBy.keep (h11507.2 (b + 1) (by rw [show kA _ (b + 1) = 2 from kA_t]; decide))
  refine m_pop F rfl e_L_law_1582 ?_
  refine m_aload_n F rfl e_L_law_1583 ?_
  refine m_aload_n F rfl e_L_law_1584 ?_
  refine m_iload F rfl e_L_law_1585 ?_
  refine m_iconst F (v := 1) (by decide) e_L_law_1587 ?_
  refine m_iadd F e_L_law_1588 ?_
  refine Wm.topE (w := nI (i + 1)) (nI_add i 1) ?_
  refine m_sld F (j := i + 1) e_L_law_1589 hX hb (nI_clamp (by omega)) (vp_in_nI (by omega) (by omega)) ?_
  refine m_aload_n F rfl e_L_law_1590 ?_
  refine m_iload F rfl e_L_law_1591 ?_
  refine m_iconst F (v := 2) (by decide) e_L_law_1593 ?_
  refine m_iadd F e_L_law_1594 ?_
  refine Wm.topE (w := nI (i + 2)) (nI_add i 2) ?_
  refine m_sld F (j := i + 2) e_L_law_1595 hX hb (nI_clamp (by omega)) (vp_in_nI (by omega) (by omega)) ?_
  refine m_i2l F e_L_law_1596 ?_
  refine Wm.topl (fun x11514 _ => ?_)
  refine m_bipush F (v := 32) (by decide) e_L_law_1597 ?_
  refine m_lshl F e_L_law_1599 ?_
  refine Wm.topl (fun x11515 _ => ?_)
  refine m_aload_n F rfl e_L_law_1600 ?_
  refine m_iload F rfl e_L_law_1601 ?_
  refine m_iconst F (v := 3) (by decide) e_L_law_1603 ?_
  refine m_iadd F e_L_law_1604 ?_
  refine Wm.topE (w := nI (i + 3)) (nI_add i 3) ?_
  refine m_sld F (j := i + 3) e_L_law_1605 hX hb (nI_clamp (by omega)) (vp_in_nI (by omega) (by omega)) ?_
  refine m_i2l F e_L_law_1606 ?_
  refine Wm.topl (fun x11516 _ => ?_)
  refine m_ldc2 F kc_L_96 e_L_law_1607 ?_
  refine m_land F e_L_law_1610 ?_
  refine Wm.topl (fun x11517 _ => ?_)
  refine m_lor F e_L_law_1611 ?_
  refine Wm.topl (fun x11518 _ => ?_)
  refine l_callM F e_L_law_1612 (q_X10_level (x_l X) V (b + 1457) T 1 u h P L0_ _ _ (xs (i + 1)) x11518 h11510 hok.b hP ) cb_X10_level ml_L_177 im_X10_level se_X10_level h11510 rfl rfl (rest := []) rfl (Nat.le_of_ble_eq_true rfl) ⟨Nat.le_of_ble_eq_true rfl, Nat.le_of_ble_eq_true rfl⟩ (by omega) (by omega) (fun r σ11519 hp => ?_)
  obtain ⟨h11520, x11521, rfl⟩ := hp
  have h11522 := h11520.1
  have h11523 := h11509.keepM (fun a ha => h11520.2 a (by rw [ha]; decide))
  have h11524 := (h11520.2 (b + 1480) (by rw [kC_0 (c := b + 1457) (by omega)]; decide)).trans h11511
  have by11525 := by11512.keep (h11520.2 (b + 1) (by rw [kC_0 (c := b + 1457) (by omega)]; decide))
  have br11526 := br11513.of (h11520.2 (b + 1457 + 1) (by rw [kC_at (k := 1) (by decide)]; decide))
  refine m_pop F rfl e_L_law_1615 ?_
  refine m_goto F e_L_law_1616 ?_
  exact hN _ M T _ _ _ (by omega) (by omega) (by omega) ⟨by omega, h11523, ⟨_, h11524⟩, u, h, P, L0_, ⟨hu, hh, hP, hkk, hm0, hw0, hok⟩, h11522, _, by11525, br11526⟩
set_option maxRecDepth 20000 in
theorem lc_36 {V : VX} {X : MX} {nm : String} {b sb N k z i L M T : Nat} {xs : Nat → Int32} {σ : Mem} (F : Fx V X (yLw nm) cL_law 7 ret room_1) (hX : va_X sb L xs (x_s X) V.2.2) (hb : sb < V.2.2.size) (hl : (x_l X).stackTraces = false) (hi : i + 6 ≤ L) (hL : L ≤ 3072) (hk : k ≤ 2100) (hz : z ≤ 80000) (hM : M ≤ 10000000) (hI : IV V b M T σ) (hN : ∀ (N' M' T' : Nat) (σ' : Mem) (k' z' : Nat), k' ≤ k + 1 → z' ≤ z + 6 → M' ≤ M + 10000 → IV V b M' T' σ' → Wm V X 7 N' σ' k' z' 1745 [(4, .int (nI i)), (3, .ref (b + 1480)), (2, .ref (b + 1457)), (1, .ref b), (0, .ref sb)] []) : Wm V X 7 N σ k z 1619 [(4, .int (nI i)), (3, .ref (b + 1480)), (2, .ref (b + 1457)), (1, .ref b), (0, .ref sb)] [] := by
  obtain ⟨hT, hHT, ⟨z0, hout⟩, u, h, P, L0_, ⟨hu, hh, hP, hkk, hm0, hw0, hok⟩, hHR, t, hBy, hBr⟩ := hI
  refine m_aload_n F rfl e_L_law_1619 ?_
  refine l_callC F e_L_law_1620 (s_X9_heaviest (x_l X) V b M 1 T _ _ b  hHT kA_b  (by omega)) cb_X9_heaviest ml_L_178 im_X9_heaviest se_X9_heaviest hHT rfl rfl (rest := []) rfl (Nat.le_of_ble_eq_true rfl) ⟨Nat.le_of_ble_eq_true rfl, Nat.le_of_ble_eq_true rfl⟩ (by omega) (by omega) (fun r σ11527 hp => ?_)
  obtain ⟨h11528, x11529, rfl⟩ := hp
  have h11530 := h11528.1
  have h11531 := hHR.keepL (fun a ha _ => h11528.2 a (by rw [show kA _ a = 0 from ha]; decide))
  have h11532 := (h11528.2 (b + 1480) (by rw [show kA _ (b + 1480) = 0 from kA_o]; decide)).trans hout
  have br11534 := hBr.of (h11528.2 (b + 1457 + 1) (by rw [show kA _ (b + 1457 + 1) = 0 from kA_big (by omega)]; decide))
  have by11533 := hBy.keep (h11528.2 (b + 1) (by rw [show kA _ (b + 1) = 2 from kA_t]; decide))
  refine m_pop F rfl e_L_law_1623 ?_
  refine m_aload_n F rfl e_L_law_1624 ?_
  refine l_callM F e_L_law_1625 (q_X10_heaviest (x_l X) V (b + 1457) T 1 u h P L0_ _ _  h11531 hok.b hP ) cb_X10_heaviest ml_L_182 im_X10_heaviest se_X10_heaviest h11531 rfl rfl (rest := []) rfl (Nat.le_of_ble_eq_true rfl) ⟨Nat.le_of_ble_eq_true rfl, Nat.le_of_ble_eq_true rfl⟩ (by omega) (by omega) (fun r σ11535 hp => ?_)
  obtain ⟨h11536, x11537, rfl⟩ := hp
  have h11538 := h11536.1
  have h11539 := h11530.keepM (fun a ha => h11536.2 a (by rw [ha]; decide))
  have h11540 := (h11536.2 (b + 1480) (by rw [kC_0 (c := b + 1457) (by omega)]; decide)).trans h11532
  have by11541 := by11533.keep (h11536.2 (b + 1) (by rw [kC_0 (c := b + 1457) (by omega)]; decide))
  have br11542 := br11534.of (h11536.2 (b + 1457 + 1) (by rw [kC_at (k := 1) (by decide)]; decide))
  refine m_pop F rfl e_L_law_1628 ?_
  refine m_goto F e_L_law_1629 ?_
  exact hN _ M T _ _ _ (by omega) (by omega) (by omega) ⟨by omega, h11539, ⟨_, h11540⟩, u, h, P, L0_, ⟨hu, hh, hP, hkk, hm0, hw0, hok⟩, h11538, _, by11541, br11542⟩
set_option maxRecDepth 20000 in
theorem lc_37 {V : VX} {X : MX} {nm : String} {b sb N k z i L M T : Nat} {xs : Nat → Int32} {σ : Mem} (F : Fx V X (yLw nm) cL_law 7 ret room_1) (hX : va_X sb L xs (x_s X) V.2.2) (hb : sb < V.2.2.size) (hl : (x_l X).stackTraces = false) (hi : i + 6 ≤ L) (hL : L ≤ 3072) (hk : k ≤ 2100) (hz : z ≤ 80000) (hM : M ≤ 10000000) (hI : IV V b M T σ) (hN : ∀ (N' M' T' : Nat) (σ' : Mem) (k' z' : Nat), k' ≤ k + 1 → z' ≤ z + 6 → M' ≤ M + 10000 → IV V b M' T' σ' → Wm V X 7 N' σ' k' z' 1745 [(4, .int (nI i)), (3, .ref (b + 1480)), (2, .ref (b + 1457)), (1, .ref b), (0, .ref sb)] []) : Wm V X 7 N σ k z 1632 [(4, .int (nI i)), (3, .ref (b + 1480)), (2, .ref (b + 1457)), (1, .ref b), (0, .ref sb)] [] := by
  obtain ⟨hT, hHT, ⟨z0, hout⟩, u, h, P, L0_, ⟨hu, hh, hP, hkk, hm0, hw0, hok⟩, hHR, t, hBy, hBr⟩ := hI
  refine m_aload_n F rfl e_L_law_1632 ?_
  refine m_aload_n F rfl e_L_law_1633 ?_
  refine m_iload F rfl e_L_law_1634 ?_
  refine m_iconst F (v := 1) (by decide) e_L_law_1636 ?_
  refine m_iadd F e_L_law_1637 ?_
  refine Wm.topE (w := nI (i + 1)) (nI_add i 1) ?_
  refine m_sld F (j := i + 1) e_L_law_1638 hX hb (nI_clamp (by omega)) (vp_in_nI (by omega) (by omega)) ?_
  refine m_aload_n F rfl e_L_law_1639 ?_
  refine m_iload F rfl e_L_law_1640 ?_
  refine m_iconst F (v := 2) (by decide) e_L_law_1642 ?_
  refine m_iadd F e_L_law_1643 ?_
  refine Wm.topE (w := nI (i + 2)) (nI_add i 2) ?_
  refine m_sld F (j := i + 2) e_L_law_1644 hX hb (nI_clamp (by omega)) (vp_in_nI (by omega) (by omega)) ?_
  refine m_aload_n F rfl e_L_law_1645 ?_
  refine m_iload F rfl e_L_law_1646 ?_
  refine m_iconst F (v := 3) (by decide) e_L_law_1648 ?_
  refine m_iadd F e_L_law_1649 ?_
  refine Wm.topE (w := nI (i + 3)) (nI_add i 3) ?_
  refine m_sld F (j := i + 3) e_L_law_1650 hX hb (nI_clamp (by omega)) (vp_in_nI (by omega) (by omega)) ?_
  refine l_callC F e_L_law_1651 (s_X9_chance (x_l X) V b M 1 T _ _ b (xs (i + 1)) (xs (i + 2)) (xs (i + 3)) hHT kA_b  (by omega)) cb_X9_chance ml_L_183 im_X9_chance se_X9_chance hHT rfl rfl (rest := []) rfl (Nat.le_of_ble_eq_true rfl) ⟨Nat.le_of_ble_eq_true rfl, Nat.le_of_ble_eq_true rfl⟩ (by omega) (by omega) (fun r σ11543 hp => ?_)
  obtain ⟨h11544, x11545, rfl⟩ := hp
  have h11546 := h11544.1
  have h11547 := hHR.keepL (fun a ha _ => h11544.2 a (by rw [show kA _ a = 0 from ha]; decide))
  have h11548 := (h11544.2 (b + 1480) (by rw [show kA _ (b + 1480) = 0 from kA_o]; decide)).trans hout
  have br11550 := hBr.of (h11544.2 (b + 1457 + 1) (by rw [show kA _ (b + 1457 + 1) = 0 from kA_big (by omega)]; decide))
  have by11549 := hBy.keep (h11544.2 (b + 1) (by rw [show kA _ (b + 1) = 2 from kA_t]; decide))
  refine m_pop2_2 F rfl e_L_law_1654 ?_
  refine m_aload_n F rfl e_L_law_1655 ?_
  refine m_aload_n F rfl e_L_law_1656 ?_
  refine m_iload F rfl e_L_law_1657 ?_
  refine m_iconst F (v := 1) (by decide) e_L_law_1659 ?_
  refine m_iadd F e_L_law_1660 ?_
  refine Wm.topE (w := nI (i + 1)) (nI_add i 1) ?_
  refine m_sld F (j := i + 1) e_L_law_1661 hX hb (nI_clamp (by omega)) (vp_in_nI (by omega) (by omega)) ?_
  refine m_aload_n F rfl e_L_law_1662 ?_
  refine m_iload F rfl e_L_law_1663 ?_
  refine m_iconst F (v := 2) (by decide) e_L_law_1665 ?_
  refine m_iadd F e_L_law_1666 ?_
  refine Wm.topE (w := nI (i + 2)) (nI_add i 2) ?_
  refine m_sld F (j := i + 2) e_L_law_1667 hX hb (nI_clamp (by omega)) (vp_in_nI (by omega) (by omega)) ?_
  refine m_aload_n F rfl e_L_law_1668 ?_
  refine m_iload F rfl e_L_law_1669 ?_
  refine m_iconst F (v := 3) (by decide) e_L_law_1671 ?_
  refine m_iadd F e_L_law_1672 ?_
  refine Wm.topE (w := nI (i + 3)) (nI_add i 3) ?_
  refine m_sld F (j := i + 3) e_L_law_1673 hX hb (nI_clamp (by omega)) (vp_in_nI (by omega) (by omega)) ?_
  refine l_callM F e_L_law_1674 (q_X10_chance (x_l X) V (b + 1457) T 1 u h P L0_ _ _ (xs (i + 1)) (xs (i + 2)) (xs (i + 3)) h11547 hok hP ) cb_X10_chance ml_L_186 im_X10_chance se_X10_chance h11547 rfl rfl (rest := []) rfl (Nat.le_of_ble_eq_true rfl) ⟨Nat.le_of_ble_eq_true rfl, Nat.le_of_ble_eq_true rfl⟩ (by omega) (by omega) (fun r σ11551 hp => ?_)
  obtain ⟨h11552, x11553, rfl⟩ := hp
  have h11554 := h11552.1
  have h11555 := h11546.keepM (fun a ha => h11552.2 a (by rw [ha]; decide))
  have h11556 := (h11552.2 (b + 1480) (by rw [kC_0 (c := b + 1457) (by omega)]; decide)).trans h11548
  have by11557 := by11549.keep (h11552.2 (b + 1) (by rw [kC_0 (c := b + 1457) (by omega)]; decide))
  have br11558 := br11550.of (h11552.2 (b + 1457 + 1) (by rw [kC_at (k := 1) (by decide)]; decide))
  refine m_pop2_2 F rfl e_L_law_1677 ?_
  refine m_goto F e_L_law_1678 ?_
  exact hN _ (M + 7560) T _ _ _ (by omega) (by omega) (by omega) ⟨by omega, h11555, ⟨_, h11556⟩, u, h, P, L0_, ⟨hu, hh, hP, hkk, hm0, hw0, hok⟩, h11554, _, by11557, br11558⟩
set_option maxRecDepth 20000 in
theorem lc_38 {V : VX} {X : MX} {nm : String} {b sb N k z i L M T : Nat} {xs : Nat → Int32} {σ : Mem} (F : Fx V X (yLw nm) cL_law 7 ret room_1) (hX : va_X sb L xs (x_s X) V.2.2) (hb : sb < V.2.2.size) (hl : (x_l X).stackTraces = false) (hi : i + 6 ≤ L) (hL : L ≤ 3072) (hk : k ≤ 2100) (hz : z ≤ 80000) (hM : M ≤ 10000000) (hI : IV V b M T σ) (hN : ∀ (N' M' T' : Nat) (σ' : Mem) (k' z' : Nat), k' ≤ k + 1 → z' ≤ z + 6 → M' ≤ M + 10000 → IV V b M' T' σ' → Wm V X 7 N' σ' k' z' 1745 [(4, .int (nI i)), (3, .ref (b + 1480)), (2, .ref (b + 1457)), (1, .ref b), (0, .ref sb)] []) : Wm V X 7 N σ k z 1681 [(4, .int (nI i)), (3, .ref (b + 1480)), (2, .ref (b + 1457)), (1, .ref b), (0, .ref sb)] [] := by
  obtain ⟨hT, hHT, ⟨z0, hout⟩, u, h, P, L0_, ⟨hu, hh, hP, hkk, hm0, hw0, hok⟩, hHR, t, hBy, hBr⟩ := hI
  refine m_aload_n F rfl e_L_law_1681 ?_
  refine l_callC F e_L_law_1682 (s_X9_undo (x_l X) V b M 1 T _ _ b  hHT kA_b  (by omega)) cb_X9_undo ml_L_187 im_X9_undo se_X9_undo hHT rfl rfl (rest := []) rfl (Nat.le_of_ble_eq_true rfl) ⟨Nat.le_of_ble_eq_true rfl, Nat.le_of_ble_eq_true rfl⟩ (by omega) (by omega) (fun r σ11559 hp => ?_)
  obtain ⟨h11560, x11561, rfl⟩ := hp
  have h11562 := h11560.1
  have h11563 := hHR.keepL (fun a ha _ => h11560.2 a (by rw [show kA _ a = 0 from ha]; decide))
  have h11564 := (h11560.2 (b + 1480) (by rw [show kA _ (b + 1480) = 0 from kA_o]; decide)).trans hout
  have br11566 := hBr.of (h11560.2 (b + 1457 + 1) (by rw [show kA _ (b + 1457 + 1) = 0 from kA_big (by omega)]; decide))
  have by11565 := hBy.keep (h11560.2 (b + 1) (by rw [show kA _ (b + 1) = 2 from kA_t]; decide))
  refine m_pop F rfl e_L_law_1685 ?_
  refine m_aload_n F rfl e_L_law_1686 ?_
  refine l_callM F e_L_law_1687 (q_X10_undo (x_l X) V (b + 1457) T 1 u h P L0_ _ _  h11563 hok hP (by first | omega | assumption) (by first | omega | assumption)) cb_X10_undo ml_L_190 im_X10_undo se_X10_undo h11563 rfl rfl (rest := []) rfl (Nat.le_of_ble_eq_true rfl) ⟨Nat.le_of_ble_eq_true rfl, Nat.le_of_ble_eq_true rfl⟩ (by omega) (by omega) (fun r σ11567 hp => ?_)
  obtain ⟨u11569, hu11569, L11570, okL11570, h11568, x11571, rfl⟩ := hp
  have h11572 := h11568.1
  have h11573 := h11562.keepM (fun a ha => h11568.2 a (by rw [ha]; decide))
  have h11574 := (h11568.2 (b + 1480) (by rw [kC_0 (c := b + 1457) (by omega)]; decide)).trans h11564
  have by11575 := by11565.keep (h11568.2 (b + 1) (by rw [kC_0 (c := b + 1457) (by omega)]; decide))
  have br11576 := br11566.of (h11568.2 (b + 1457 + 1) (by rw [kC_at (k := 1) (by decide)]; decide))
  refine m_pop F rfl e_L_law_1690 ?_
  refine m_goto F e_L_law_1691 ?_
  exact hN _ M T _ _ _ (by omega) (by omega) (by omega) ⟨by omega, h11573, ⟨_, h11574⟩, u11569, h, P, L11570, ⟨hu11569, hh, hP, hkk, hm0, hw0, okL11570⟩, h11572, _, by11575, br11576⟩
set_option maxRecDepth 20000 in
theorem lc_39 {V : VX} {X : MX} {nm : String} {b sb N k z i L M T : Nat} {xs : Nat → Int32} {σ : Mem} (F : Fx V X (yLw nm) cL_law 7 ret room_1) (hX : va_X sb L xs (x_s X) V.2.2) (hb : sb < V.2.2.size) (hl : (x_l X).stackTraces = false) (hi : i + 6 ≤ L) (hL : L ≤ 3072) (hk : k ≤ 2100) (hz : z ≤ 80000) (hM : M ≤ 10000000) (hI : IV V b M T σ) (hN : ∀ (N' M' T' : Nat) (σ' : Mem) (k' z' : Nat), k' ≤ k + 1 → z' ≤ z + 6 → M' ≤ M + 10000 → IV V b M' T' σ' → Wm V X 7 N' σ' k' z' 1745 [(4, .int (nI i)), (3, .ref (b + 1480)), (2, .ref (b + 1457)), (1, .ref b), (0, .ref sb)] []) : Wm V X 7 N σ k z 1694 [(4, .int (nI i)), (3, .ref (b + 1480)), (2, .ref (b + 1457)), (1, .ref b), (0, .ref sb)] [] := by
  obtain ⟨hT, hHT, ⟨z0, hout⟩, u, h, P, L0_, ⟨hu, hh, hP, hkk, hm0, hw0, hok⟩, hHR, t, hBy, hBr⟩ := hI
  refine m_aload_n F rfl e_L_law_1694 ?_
  refine l_callC F e_L_law_1695 (s_X9_keep (x_l X) V b M 1 T _ _ b  hHT kA_b  (by omega)) cb_X9_keep ml_L_191 im_X9_keep se_X9_keep hHT rfl rfl (rest := []) rfl (Nat.le_of_ble_eq_true rfl) ⟨Nat.le_of_ble_eq_true rfl, Nat.le_of_ble_eq_true rfl⟩ (by omega) (by omega) (fun r σ11577 hp => ?_)
  obtain ⟨h11578, x11579, rfl⟩ := hp
  have h11580 := h11578.1
  have h11581 := hHR.keepL (fun a ha _ => h11578.2 a (by rw [show kA _ a = 0 from ha]; decide))
  have h11582 := (h11578.2 (b + 1480) (by rw [show kA _ (b + 1480) = 0 from kA_o]; decide)).trans hout
  have br11584 := hBr.of (h11578.2 (b + 1457 + 1) (by rw [show kA _ (b + 1457 + 1) = 0 from kA_big (by omega)]; decide))
  have by11583 := hBy.keep (h11578.2 (b + 1) (by rw [show kA _ (b + 1) = 2 from kA_t]; decide))
  refine m_pop F rfl e_L_law_1698 ?_
  refine m_aload_n F rfl e_L_law_1699 ?_
  refine l_callM F e_L_law_1700 (q_X10_keep (x_l X) V (b + 1457) T 1 u h P L0_ _ _  h11581 hok hP (by first | omega | assumption)) cb_X10_keep ml_L_194 im_X10_keep se_X10_keep h11581 rfl rfl (rest := []) rfl (Nat.le_of_ble_eq_true rfl) ⟨Nat.le_of_ble_eq_true rfl, Nat.le_of_ble_eq_true rfl⟩ (by omega) (by omega) (fun r σ11585 hp => ?_)
  obtain ⟨h11586, x11587, rfl⟩ := hp
  have h11588 := h11586.1
  have h11589 := h11580.keepM (fun a ha => h11586.2 a (by rw [ha]; decide))
  have h11590 := (h11586.2 (b + 1480) (by rw [kC_0 (c := b + 1457) (by omega)]; decide)).trans h11582
  have by11591 := by11583.keep (h11586.2 (b + 1) (by rw [kC_0 (c := b + 1457) (by omega)]; decide))
  have br11592 := br11584.of (h11586.2 (b + 1457 + 1) (by rw [kC_at (k := 1) (by decide)]; decide))
  refine m_pop F rfl e_L_law_1703 ?_
  refine m_goto F e_L_law_1704 ?_
  exact hN _ M T _ _ _ (by omega) (by omega) (by omega) ⟨by omega, h11589, ⟨_, h11590⟩, u, 1, P, L0_, ⟨hu, (by omega), hP, hkk, hm0, hw0, hok⟩, h11588, _, by11591, br11592⟩
set_option maxRecDepth 20000 in
theorem lc_40 {V : VX} {X : MX} {nm : String} {b sb N k z i L M T : Nat} {xs : Nat → Int32} {σ : Mem} (F : Fx V X (yLw nm) cL_law 7 ret room_1) (hX : va_X sb L xs (x_s X) V.2.2) (hb : sb < V.2.2.size) (hl : (x_l X).stackTraces = false) (hi : i + 6 ≤ L) (hL : L ≤ 3072) (hk : k ≤ 2100) (hz : z ≤ 80000) (hM : M ≤ 10000000) (hI : IV V b M T σ) (hN : ∀ (N' M' T' : Nat) (σ' : Mem) (k' z' : Nat), k' ≤ k + 1 → z' ≤ z + 6 → M' ≤ M + 10000 → IV V b M' T' σ' → Wm V X 7 N' σ' k' z' 1745 [(4, .int (nI i)), (3, .ref (b + 1480)), (2, .ref (b + 1457)), (1, .ref b), (0, .ref sb)] []) : Wm V X 7 N σ k z 1707 [(4, .int (nI i)), (3, .ref (b + 1480)), (2, .ref (b + 1457)), (1, .ref b), (0, .ref sb)] [] := by
  obtain ⟨hT, hHT, ⟨z0, hout⟩, u, h, P, L0_, ⟨hu, hh, hP, hkk, hm0, hw0, hok⟩, hHR, t, hBy, hBr⟩ := hI
  refine m_aload_n F rfl e_L_law_1707 ?_
  refine l_callC F e_L_law_1708 (s_X9_back (x_l X) V b M 1 T _ _ b  hHT kA_b  (by omega)) cb_X9_back ml_L_195 im_X9_back se_X9_back hHT rfl rfl (rest := []) rfl (Nat.le_of_ble_eq_true rfl) ⟨Nat.le_of_ble_eq_true rfl, Nat.le_of_ble_eq_true rfl⟩ (by omega) (by omega) (fun r σ11593 hp => ?_)
  obtain ⟨h11594, x11595, rfl⟩ := hp
  have h11596 := h11594.1
  have h11597 := hHR.keepL (fun a ha _ => h11594.2 a (by rw [show kA _ a = 0 from ha]; decide))
  have h11598 := (h11594.2 (b + 1480) (by rw [show kA _ (b + 1480) = 0 from kA_o]; decide)).trans hout
  have br11600 := hBr.of (h11594.2 (b + 1457 + 1) (by rw [show kA _ (b + 1457 + 1) = 0 from kA_big (by omega)]; decide))
  have by11599 := hBy.keep (h11594.2 (b + 1) (by rw [show kA _ (b + 1) = 2 from kA_t]; decide))
  refine m_pop F rfl e_L_law_1711 ?_
  refine m_aload_n F rfl e_L_law_1712 ?_
  refine l_callM F e_L_law_1713 (q_X10_back (x_l X) V (b + 1457) T 1 u h P L0_ _ _  h11597 hok hP (by first | omega | assumption) (by first | omega | assumption) (by first | omega | assumption)) cb_X10_back ml_L_198 im_X10_back se_X10_back h11597 rfl rfl (rest := []) rfl (Nat.le_of_ble_eq_true rfl) ⟨Nat.le_of_ble_eq_true rfl, Nat.le_of_ble_eq_true rfl⟩ (by omega) (by omega) (fun r σ11601 hp => ?_)
  obtain ⟨u11603, hu11603, L11604, okL11604, h11602, x11605, rfl⟩ := hp
  have h11606 := h11602.1
  have h11607 := h11596.keepM (fun a ha => h11602.2 a (by rw [ha]; decide))
  have h11608 := (h11602.2 (b + 1480) (by rw [kC_0 (c := b + 1457) (by omega)]; decide)).trans h11598
  have by11609 := by11599.keep (h11602.2 (b + 1) (by rw [kC_0 (c := b + 1457) (by omega)]; decide))
  have br11610 := br11600.of (h11602.2 (b + 1457 + 1) (by rw [kC_at (k := 1) (by decide)]; decide))
  refine m_pop F rfl e_L_law_1716 ?_
  refine m_goto F e_L_law_1717 ?_
  exact hN _ M T _ _ _ (by omega) (by omega) (by omega) ⟨by omega, h11607, ⟨_, h11608⟩, u11603, h, P, L11604, ⟨hu11603, hh, hP, hkk, hm0, hw0, okL11604⟩, h11606, _, by11609, br11610⟩
set_option maxRecDepth 20000 in
theorem lc_41 {V : VX} {X : MX} {nm : String} {b sb N k z i L M T : Nat} {xs : Nat → Int32} {σ : Mem} (F : Fx V X (yLw nm) cL_law 7 ret room_1) (hX : va_X sb L xs (x_s X) V.2.2) (hb : sb < V.2.2.size) (hl : (x_l X).stackTraces = false) (hi : i + 6 ≤ L) (hL : L ≤ 3072) (hk : k ≤ 2100) (hz : z ≤ 80000) (hM : M ≤ 10000000) (hI : IV V b M T σ) (hN : ∀ (N' M' T' : Nat) (σ' : Mem) (k' z' : Nat), k' ≤ k + 1 → z' ≤ z + 6 → M' ≤ M + 10000 → IV V b M' T' σ' → Wm V X 7 N' σ' k' z' 1745 [(4, .int (nI i)), (3, .ref (b + 1480)), (2, .ref (b + 1457)), (1, .ref b), (0, .ref sb)] []) : Wm V X 7 N σ k z 1720 [(4, .int (nI i)), (3, .ref (b + 1480)), (2, .ref (b + 1457)), (1, .ref b), (0, .ref sb)] [] := by
  obtain ⟨hT, hHT, ⟨z0, hout⟩, u, h, P, L0_, ⟨hu, hh, hP, hkk, hm0, hw0, hok⟩, hHR, t, hBy, hBr⟩ := hI
  refine m_aload_n F rfl e_L_law_1720 ?_
  refine m_aload_n F rfl e_L_law_1721 ?_
  refine m_iload F rfl e_L_law_1722 ?_
  refine m_iconst F (v := 1) (by decide) e_L_law_1724 ?_
  refine m_iadd F e_L_law_1725 ?_
  refine Wm.topE (w := nI (i + 1)) (nI_add i 1) ?_
  refine m_sld F (j := i + 1) e_L_law_1726 hX hb (nI_clamp (by omega)) (vp_in_nI (by omega) (by omega)) ?_
  refine l_callC F e_L_law_1727 (s_X9_count (x_l X) V b M 1 T _ _ b (xs (i + 1)) hHT kA_b  (by omega)) cb_X9_count ml_L_199 im_X9_count se_X9_count hHT rfl rfl (rest := []) rfl (Nat.le_of_ble_eq_true rfl) ⟨Nat.le_of_ble_eq_true rfl, Nat.le_of_ble_eq_true rfl⟩ (by omega) (by omega) (fun r σ11611 hp => ?_)
  obtain ⟨h11612, x11613, rfl⟩ := hp
  have h11614 := h11612.1
  have h11615 := hHR.keepL (fun a ha _ => h11612.2 a (by rw [show kA _ a = 0 from ha]; decide))
  have h11616 := (h11612.2 (b + 1480) (by rw [show kA _ (b + 1480) = 0 from kA_o]; decide)).trans hout
  have br11618 := hBr.of (h11612.2 (b + 1457 + 1) (by rw [show kA _ (b + 1457 + 1) = 0 from kA_big (by omega)]; decide))
  have by11617 := hBy.keep (h11612.2 (b + 1) (by rw [show kA _ (b + 1) = 2 from kA_t]; decide))
  refine m_pop F rfl e_L_law_1730 ?_
  refine m_aload_n F rfl e_L_law_1731 ?_
  refine m_aload_n F rfl e_L_law_1732 ?_
  refine m_iload F rfl e_L_law_1733 ?_
  refine m_iconst F (v := 1) (by decide) e_L_law_1735 ?_
  refine m_iadd F e_L_law_1736 ?_
  refine Wm.topE (w := nI (i + 1)) (nI_add i 1) ?_
  refine m_sld F (j := i + 1) e_L_law_1737 hX hb (nI_clamp (by omega)) (vp_in_nI (by omega) (by omega)) ?_
  refine l_callM F e_L_law_1738 (q_X10_count (x_l X) V (b + 1457) T 1 u h P L0_ _ _ (xs (i + 1)) h11615 hok.b hP ) cb_X10_count ml_L_202 im_X10_count se_X10_count h11615 rfl rfl (rest := []) rfl (Nat.le_of_ble_eq_true rfl) ⟨Nat.le_of_ble_eq_true rfl, Nat.le_of_ble_eq_true rfl⟩ (by omega) (by omega) (fun r σ11619 hp => ?_)
  obtain ⟨h11620, x11621, rfl⟩ := hp
  have h11622 := h11620.1
  have h11623 := h11614.keepM (fun a ha => h11620.2 a (by rw [ha]; decide))
  have h11624 := (h11620.2 (b + 1480) (by rw [kC_0 (c := b + 1457) (by omega)]; decide)).trans h11616
  have by11625 := by11617.keep (h11620.2 (b + 1) (by rw [kC_0 (c := b + 1457) (by omega)]; decide))
  have br11626 := br11618.of (h11620.2 (b + 1457 + 1) (by rw [kC_at (k := 1) (by decide)]; decide))
  refine m_pop F rfl e_L_law_1741 ?_
  refine m_goto F e_L_law_1742 ?_
  exact hN _ M T _ _ _ (by omega) (by omega) (by omega) ⟨by omega, h11623, ⟨_, h11624⟩, u, h, P, L0_, ⟨hu, hh, hP, hkk, hm0, hw0, hok⟩, h11622, _, by11625, br11626⟩
