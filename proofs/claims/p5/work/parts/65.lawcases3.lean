set_option maxRecDepth 20000 in
theorem lc_28 {V : VX} {X : MX} {nm : String} {b sb N k z i L M T : Nat} {xs : Nat → Int32} {σ : Mem} (F : Fx V X (yLw nm) cL_law 7 ret room_1) (hX : va_X sb L xs (x_s X) V.2.2) (hb : sb < V.2.2.size) (hl : (x_l X).stackTraces = false) (hi : i + 6 ≤ L) (hL : L ≤ 3072) (hk : k ≤ 2100) (hz : z ≤ 80000) (hM : M ≤ 10000000) (hI : IV V b M T σ) (hN : ∀ (N' M' T' : Nat) (σ' : Mem) (k' z' : Nat), k' ≤ k + 1 → z' ≤ z + 6 → M' ≤ M + 10000 → IV V b M' T' σ' → Wm V X 7 N' σ' k' z' 1745 [(4, .int (nI i)), (3, .ref (b + 1480)), (2, .ref (b + 1457)), (1, .ref b), (0, .ref sb)] []) : Wm V X 7 N σ k z 1239 [(4, .int (nI i)), (3, .ref (b + 1480)), (2, .ref (b + 1457)), (1, .ref b), (0, .ref sb)] [] := by
  obtain ⟨hT, G, hG, hHT, ⟨z0, hout⟩, u, h, P, L0_, ⟨hu, hh, hP, hkk, hm0, hw0, hok⟩, hHR, hNg, t, hBy, hBr⟩ := hI
  refine m_aload_n F rfl e_L_law_1239 ?_
  refine m_aload_n F rfl e_L_law_1240 ?_
  refine m_iload F rfl e_L_law_1241 ?_
  refine m_iconst F (v := 1) (by decide) e_L_law_1243 ?_
  refine m_iadd F e_L_law_1244 ?_
  refine Wm.topE (w := nI (i + 1)) (nI_add i 1) ?_
  refine m_sld F (j := i + 1) e_L_law_1245 hX hb (nI_clamp (by omega)) (vp_in_nI (by omega) (by omega)) ?_
  refine m_aload_n F rfl e_L_law_1246 ?_
  refine m_iload F rfl e_L_law_1247 ?_
  refine m_iconst F (v := 2) (by decide) e_L_law_1249 ?_
  refine m_iadd F e_L_law_1250 ?_
  refine Wm.topE (w := nI (i + 2)) (nI_add i 2) ?_
  refine m_sld F (j := i + 2) e_L_law_1251 hX hb (nI_clamp (by omega)) (vp_in_nI (by omega) (by omega)) ?_
  refine m_i2l F e_L_law_1252 ?_
  refine Wm.topl (fun x11309 _ => ?_)
  refine m_bipush F (v := 32) (by decide) e_L_law_1253 ?_
  refine m_lshl F e_L_law_1255 ?_
  refine Wm.topl (fun x11310 _ => ?_)
  refine m_aload_n F rfl e_L_law_1256 ?_
  refine m_iload F rfl e_L_law_1257 ?_
  refine m_iconst F (v := 3) (by decide) e_L_law_1259 ?_
  refine m_iadd F e_L_law_1260 ?_
  refine Wm.topE (w := nI (i + 3)) (nI_add i 3) ?_
  refine m_sld F (j := i + 3) e_L_law_1261 hX hb (nI_clamp (by omega)) (vp_in_nI (by omega) (by omega)) ?_
  refine m_i2l F e_L_law_1262 ?_
  refine Wm.topl (fun x11311 _ => ?_)
  refine m_ldc2 F kc_L_96 e_L_law_1263 ?_
  refine m_land F e_L_law_1266 ?_
  refine Wm.topl (fun x11312 _ => ?_)
  refine m_lor F e_L_law_1267 ?_
  refine Wm.topl (fun x11313 _ => ?_)
  refine l_callC F e_L_law_1268 (s_X9_partFor (x_l X) V G b M 1 T _ _ b (xs (i + 1)) x11313 hHT kA_b hG (by omega)) cb_X9_partFor ml_L_144 im_X9_partFor se_X9_partFor hHT rfl rfl (rest := []) rfl (Nat.le_of_ble_eq_true rfl) ⟨Nat.le_of_ble_eq_true rfl, Nat.le_of_ble_eq_true rfl⟩ (by omega) (by omega) (fun r σ11314 hp => ?_)
  obtain ⟨h11315, x11316, rfl⟩ := hp
  have h11317 := h11315.1
  have h11318 := hHR.keepL (fun a ha _ => h11315.2 a (by rw [show kA _ a = 0 from ha]; decide))
  have h11319 := (h11315.2 (b + 1480) (by rw [show kA _ (b + 1480) = 0 from kA_o]; decide)).trans hout
  have br11321 := hBr.of (h11315.2 (b + 1457 + 1) (by rw [show kA _ (b + 1457 + 1) = 0 from kA_big (by omega)]; decide))
  have by11320 := hBy.keep (h11315.2 (b + 1) (by rw [show kA _ (b + 1) = 2 from kA_t]; decide))
  refine m_pop F rfl e_L_law_1271 ?_
  refine m_aload_n F rfl e_L_law_1272 ?_
  refine m_aload_n F rfl e_L_law_1273 ?_
  refine m_iload F rfl e_L_law_1274 ?_
  refine m_iconst F (v := 1) (by decide) e_L_law_1276 ?_
  refine m_iadd F e_L_law_1277 ?_
  refine Wm.topE (w := nI (i + 1)) (nI_add i 1) ?_
  refine m_sld F (j := i + 1) e_L_law_1278 hX hb (nI_clamp (by omega)) (vp_in_nI (by omega) (by omega)) ?_
  refine m_aload_n F rfl e_L_law_1279 ?_
  refine m_iload F rfl e_L_law_1280 ?_
  refine m_iconst F (v := 2) (by decide) e_L_law_1282 ?_
  refine m_iadd F e_L_law_1283 ?_
  refine Wm.topE (w := nI (i + 2)) (nI_add i 2) ?_
  refine m_sld F (j := i + 2) e_L_law_1284 hX hb (nI_clamp (by omega)) (vp_in_nI (by omega) (by omega)) ?_
  refine m_i2l F e_L_law_1285 ?_
  refine Wm.topl (fun x11322 _ => ?_)
  refine m_bipush F (v := 32) (by decide) e_L_law_1286 ?_
  refine m_lshl F e_L_law_1288 ?_
  refine Wm.topl (fun x11323 _ => ?_)
  refine m_aload_n F rfl e_L_law_1289 ?_
  refine m_iload F rfl e_L_law_1290 ?_
  refine m_iconst F (v := 3) (by decide) e_L_law_1292 ?_
  refine m_iadd F e_L_law_1293 ?_
  refine Wm.topE (w := nI (i + 3)) (nI_add i 3) ?_
  refine m_sld F (j := i + 3) e_L_law_1294 hX hb (nI_clamp (by omega)) (vp_in_nI (by omega) (by omega)) ?_
  refine m_i2l F e_L_law_1295 ?_
  refine Wm.topl (fun x11324 _ => ?_)
  refine m_ldc2 F kc_L_96 e_L_law_1296 ?_
  refine m_land F e_L_law_1299 ?_
  refine Wm.topl (fun x11325 _ => ?_)
  refine m_lor F e_L_law_1300 ?_
  refine Wm.topl (fun x11326 _ => ?_)
  refine l_callM F e_L_law_1301 (q_X10_partFor (x_l X) V (b + 1457) T 1 u h P L0_ _ _ (xs (i + 1)) x11326 h11318 hok.b hP ) cb_X10_partFor ml_L_148 im_X10_partFor se_X10_partFor h11318 rfl rfl (rest := []) rfl (Nat.le_of_ble_eq_true rfl) ⟨Nat.le_of_ble_eq_true rfl, Nat.le_of_ble_eq_true rfl⟩ (by omega) (by omega) (fun r σ11327 hp => ?_)
  obtain ⟨h11328, x11329, rfl⟩ := hp
  have h11330 := h11328.1
  have h11331 := h11317.keepM (fun a ha => h11328.2 a (by rw [ha]; decide))
  have h11332 := (h11328.2 (b + 1480) (by rw [kC_0 (c := b + 1457) (by omega)]; decide)).trans h11319
  have by11333 := by11320.keep (h11328.2 (b + 1) (by rw [kC_0 (c := b + 1457) (by omega)]; decide))
  have br11334 := br11321.of (h11328.2 (b + 1457 + 1) (by rw [kC_at (k := 1) (by decide)]; decide))
  refine m_pop F rfl e_L_law_1304 ?_
  refine m_goto F e_L_law_1305 ?_
  exact hN _ M T _ _ _ (by omega) (by omega) (by omega) ⟨by omega, G, hG, h11331, ⟨_, h11332⟩, u, h, P, L0_, ⟨hu, hh, hP, hkk, hm0, hw0, hok⟩, h11330, hNg, _, by11333, br11334⟩
set_option maxRecDepth 20000 in
theorem lc_29 {V : VX} {X : MX} {nm : String} {b sb N k z i L M T : Nat} {xs : Nat → Int32} {σ : Mem} (F : Fx V X (yLw nm) cL_law 7 ret room_1) (hX : va_X sb L xs (x_s X) V.2.2) (hb : sb < V.2.2.size) (hl : (x_l X).stackTraces = false) (hi : i + 6 ≤ L) (hL : L ≤ 3072) (hk : k ≤ 2100) (hz : z ≤ 80000) (hM : M ≤ 10000000) (hI : IV V b M T σ) (hN : ∀ (N' M' T' : Nat) (σ' : Mem) (k' z' : Nat), k' ≤ k + 1 → z' ≤ z + 6 → M' ≤ M + 10000 → IV V b M' T' σ' → Wm V X 7 N' σ' k' z' 1745 [(4, .int (nI i)), (3, .ref (b + 1480)), (2, .ref (b + 1457)), (1, .ref b), (0, .ref sb)] []) : Wm V X 7 N σ k z 1308 [(4, .int (nI i)), (3, .ref (b + 1480)), (2, .ref (b + 1457)), (1, .ref b), (0, .ref sb)] [] := by
  obtain ⟨hT, G, hG, hHT, ⟨z0, hout⟩, u, h, P, L0_, ⟨hu, hh, hP, hkk, hm0, hw0, hok⟩, hHR, hNg, t, hBy, hBr⟩ := hI
  refine m_aload_n F rfl e_L_law_1308 ?_
  refine m_aload_n F rfl e_L_law_1309 ?_
  refine m_iload F rfl e_L_law_1310 ?_
  refine m_iconst F (v := 1) (by decide) e_L_law_1312 ?_
  refine m_iadd F e_L_law_1313 ?_
  refine Wm.topE (w := nI (i + 1)) (nI_add i 1) ?_
  refine m_sld F (j := i + 1) e_L_law_1314 hX hb (nI_clamp (by omega)) (vp_in_nI (by omega) (by omega)) ?_
  refine m_aload_n F rfl e_L_law_1315 ?_
  refine m_iload F rfl e_L_law_1316 ?_
  refine m_iconst F (v := 2) (by decide) e_L_law_1318 ?_
  refine m_iadd F e_L_law_1319 ?_
  refine Wm.topE (w := nI (i + 2)) (nI_add i 2) ?_
  refine m_sld F (j := i + 2) e_L_law_1320 hX hb (nI_clamp (by omega)) (vp_in_nI (by omega) (by omega)) ?_
  refine l_callC F e_L_law_1321 (s_X9_latest (x_l X) V G b M 1 T _ _ b (xs (i + 1)) (xs (i + 2)) hHT kA_b hG (by omega)) cb_X9_latest ml_L_149 im_X9_latest se_X9_latest hHT rfl rfl (rest := []) rfl (Nat.le_of_ble_eq_true rfl) ⟨Nat.le_of_ble_eq_true rfl, Nat.le_of_ble_eq_true rfl⟩ (by omega) (by omega) (fun r σ11335 hp => ?_)
  obtain ⟨h11336, x11337, rfl⟩ := hp
  have h11338 := h11336.1
  have h11339 := hHR.keepL (fun a ha _ => h11336.2 a (by rw [show kA _ a = 0 from ha]; decide))
  have h11340 := (h11336.2 (b + 1480) (by rw [show kA _ (b + 1480) = 0 from kA_o]; decide)).trans hout
  have br11342 := hBr.of (h11336.2 (b + 1457 + 1) (by rw [show kA _ (b + 1457 + 1) = 0 from kA_big (by omega)]; decide))
  have by11341 := hBy.keep (h11336.2 (b + 1) (by rw [show kA _ (b + 1) = 2 from kA_t]; decide))
  refine m_pop F rfl e_L_law_1324 ?_
  refine m_aload_n F rfl e_L_law_1325 ?_
  refine m_aload_n F rfl e_L_law_1326 ?_
  refine m_iload F rfl e_L_law_1327 ?_
  refine m_iconst F (v := 1) (by decide) e_L_law_1329 ?_
  refine m_iadd F e_L_law_1330 ?_
  refine Wm.topE (w := nI (i + 1)) (nI_add i 1) ?_
  refine m_sld F (j := i + 1) e_L_law_1331 hX hb (nI_clamp (by omega)) (vp_in_nI (by omega) (by omega)) ?_
  refine m_aload_n F rfl e_L_law_1332 ?_
  refine m_iload F rfl e_L_law_1333 ?_
  refine m_iconst F (v := 2) (by decide) e_L_law_1335 ?_
  refine m_iadd F e_L_law_1336 ?_
  refine Wm.topE (w := nI (i + 2)) (nI_add i 2) ?_
  refine m_sld F (j := i + 2) e_L_law_1337 hX hb (nI_clamp (by omega)) (vp_in_nI (by omega) (by omega)) ?_
  refine l_callM F e_L_law_1338 (q_X10_latest (x_l X) V (b + 1457) T 1 u h P L0_ _ _ (xs (i + 1)) (xs (i + 2)) h11339 hok.b hP ) cb_X10_latest ml_L_152 im_X10_latest se_X10_latest h11339 rfl rfl (rest := []) rfl (Nat.le_of_ble_eq_true rfl) ⟨Nat.le_of_ble_eq_true rfl, Nat.le_of_ble_eq_true rfl⟩ (by omega) (by omega) (fun r σ11343 hp => ?_)
  obtain ⟨h11344, x11345, rfl⟩ := hp
  have h11346 := h11344.1
  have h11347 := h11338.keepM (fun a ha => h11344.2 a (by rw [ha]; decide))
  have h11348 := (h11344.2 (b + 1480) (by rw [kC_0 (c := b + 1457) (by omega)]; decide)).trans h11340
  have by11349 := by11341.keep (h11344.2 (b + 1) (by rw [kC_0 (c := b + 1457) (by omega)]; decide))
  have br11350 := br11342.of (h11344.2 (b + 1457 + 1) (by rw [kC_at (k := 1) (by decide)]; decide))
  refine m_pop F rfl e_L_law_1341 ?_
  refine m_goto F e_L_law_1342 ?_
  exact hN _ M T _ _ _ (by omega) (by omega) (by omega) ⟨by omega, G, hG, h11347, ⟨_, h11348⟩, u, h, P, L0_, ⟨hu, hh, hP, hkk, hm0, hw0, hok⟩, h11346, hNg, _, by11349, br11350⟩
set_option maxRecDepth 20000 in
theorem lc_30 {V : VX} {X : MX} {nm : String} {b sb N k z i L M T : Nat} {xs : Nat → Int32} {σ : Mem} (F : Fx V X (yLw nm) cL_law 7 ret room_1) (hX : va_X sb L xs (x_s X) V.2.2) (hb : sb < V.2.2.size) (hl : (x_l X).stackTraces = false) (hi : i + 6 ≤ L) (hL : L ≤ 3072) (hk : k ≤ 2100) (hz : z ≤ 80000) (hM : M ≤ 10000000) (hI : IV V b M T σ) (hN : ∀ (N' M' T' : Nat) (σ' : Mem) (k' z' : Nat), k' ≤ k + 1 → z' ≤ z + 6 → M' ≤ M + 10000 → IV V b M' T' σ' → Wm V X 7 N' σ' k' z' 1745 [(4, .int (nI i)), (3, .ref (b + 1480)), (2, .ref (b + 1457)), (1, .ref b), (0, .ref sb)] []) : Wm V X 7 N σ k z 1345 [(4, .int (nI i)), (3, .ref (b + 1480)), (2, .ref (b + 1457)), (1, .ref b), (0, .ref sb)] [] := by
  obtain ⟨hT, G, hG, hHT, ⟨z0, hout⟩, u, h, P, L0_, ⟨hu, hh, hP, hkk, hm0, hw0, hok⟩, hHR, hNg, t, hBy, hBr⟩ := hI
  refine m_aload_n F rfl e_L_law_1345 ?_
  refine m_aload_n F rfl e_L_law_1346 ?_
  refine m_iload F rfl e_L_law_1347 ?_
  refine m_iconst F (v := 1) (by decide) e_L_law_1349 ?_
  refine m_iadd F e_L_law_1350 ?_
  refine Wm.topE (w := nI (i + 1)) (nI_add i 1) ?_
  refine m_sld F (j := i + 1) e_L_law_1351 hX hb (nI_clamp (by omega)) (vp_in_nI (by omega) (by omega)) ?_
  refine l_callC F e_L_law_1352 (s_X9_half (x_l X) V G b M 1 T _ _ b (xs (i + 1)) hHT kA_b hG (by omega)) cb_X9_half ml_L_153 im_X9_half se_X9_half hHT rfl rfl (rest := []) rfl (Nat.le_of_ble_eq_true rfl) ⟨Nat.le_of_ble_eq_true rfl, Nat.le_of_ble_eq_true rfl⟩ (by omega) (by omega) (fun r σ11351 hp => ?_)
  obtain ⟨h11352, x11353, rfl⟩ := hp
  have h11354 := h11352.1
  have h11355 := hHR.keepL (fun a ha _ => h11352.2 a (by rw [show kA _ a = 0 from ha]; decide))
  have h11356 := (h11352.2 (b + 1480) (by rw [show kA _ (b + 1480) = 0 from kA_o]; decide)).trans hout
  have br11358 := hBr.of (h11352.2 (b + 1457 + 1) (by rw [show kA _ (b + 1457 + 1) = 0 from kA_big (by omega)]; decide))
  have by11357 := hBy.keep (h11352.2 (b + 1) (by rw [show kA _ (b + 1) = 2 from kA_t]; decide))
  refine m_pop F rfl e_L_law_1355 ?_
  refine m_aload_n F rfl e_L_law_1356 ?_
  refine m_aload_n F rfl e_L_law_1357 ?_
  refine m_iload F rfl e_L_law_1358 ?_
  refine m_iconst F (v := 1) (by decide) e_L_law_1360 ?_
  refine m_iadd F e_L_law_1361 ?_
  refine Wm.topE (w := nI (i + 1)) (nI_add i 1) ?_
  refine m_sld F (j := i + 1) e_L_law_1362 hX hb (nI_clamp (by omega)) (vp_in_nI (by omega) (by omega)) ?_
  refine l_callM F e_L_law_1363 (q_X10_half (x_l X) V (b + 1457) T 1 u h P L0_ _ _ (xs (i + 1)) h11355 hok hP ) cb_X10_half ml_L_156 im_X10_half se_X10_half h11355 rfl rfl (rest := []) rfl (Nat.le_of_ble_eq_true rfl) ⟨Nat.le_of_ble_eq_true rfl, Nat.le_of_ble_eq_true rfl⟩ (by omega) (by omega) (fun r σ11359 hp => ?_)
  obtain ⟨h11360, x11361, rfl⟩ := hp
  have h11362 := h11360.1
  have h11363 := h11354.keepM (fun a ha => h11360.2 a (by rw [ha]; decide))
  have h11364 := (h11360.2 (b + 1480) (by rw [kC_0 (c := b + 1457) (by omega)]; decide)).trans h11356
  have by11365 := by11357.keep (h11360.2 (b + 1) (by rw [kC_0 (c := b + 1457) (by omega)]; decide))
  have br11366 := br11358.of (h11360.2 (b + 1457 + 1) (by rw [kC_at (k := 1) (by decide)]; decide))
  refine m_pop F rfl e_L_law_1366 ?_
  refine m_goto F e_L_law_1367 ?_
  exact hN _ (M + 1400) T _ _ _ (by omega) (by omega) (by omega) ⟨by omega, G, hG, h11363, ⟨_, h11364⟩, u, h, P, L0_, ⟨hu, hh, hP, hkk, hm0, hw0, hok⟩, h11362, hNg, _, by11365, br11366⟩
set_option maxRecDepth 20000 in
theorem lc_31 {V : VX} {X : MX} {nm : String} {b sb N k z i L M T : Nat} {xs : Nat → Int32} {σ : Mem} (F : Fx V X (yLw nm) cL_law 7 ret room_1) (hX : va_X sb L xs (x_s X) V.2.2) (hb : sb < V.2.2.size) (hl : (x_l X).stackTraces = false) (hi : i + 6 ≤ L) (hL : L ≤ 3072) (hk : k ≤ 2100) (hz : z ≤ 80000) (hM : M ≤ 10000000) (hI : IV V b M T σ) (hN : ∀ (N' M' T' : Nat) (σ' : Mem) (k' z' : Nat), k' ≤ k + 1 → z' ≤ z + 6 → M' ≤ M + 10000 → IV V b M' T' σ' → Wm V X 7 N' σ' k' z' 1745 [(4, .int (nI i)), (3, .ref (b + 1480)), (2, .ref (b + 1457)), (1, .ref b), (0, .ref sb)] []) : Wm V X 7 N σ k z 1370 [(4, .int (nI i)), (3, .ref (b + 1480)), (2, .ref (b + 1457)), (1, .ref b), (0, .ref sb)] [] := by
  obtain ⟨hT, G, hG, hHT, ⟨z0, hout⟩, u, h, P, L0_, ⟨hu, hh, hP, hkk, hm0, hw0, hok⟩, hHR, hNg, t, hBy, hBr⟩ := hI
  refine m_aload_n F rfl e_L_law_1370 ?_
  refine m_aload_n F rfl e_L_law_1371 ?_
  refine m_iload F rfl e_L_law_1372 ?_
  refine m_iconst F (v := 1) (by decide) e_L_law_1374 ?_
  refine m_iadd F e_L_law_1375 ?_
  refine Wm.topE (w := nI (i + 1)) (nI_add i 1) ?_
  refine m_sld F (j := i + 1) e_L_law_1376 hX hb (nI_clamp (by omega)) (vp_in_nI (by omega) (by omega)) ?_
  refine m_aload_n F rfl e_L_law_1377 ?_
  refine m_iload F rfl e_L_law_1378 ?_
  refine m_iconst F (v := 2) (by decide) e_L_law_1380 ?_
  refine m_iadd F e_L_law_1381 ?_
  refine Wm.topE (w := nI (i + 2)) (nI_add i 2) ?_
  refine m_sld F (j := i + 2) e_L_law_1382 hX hb (nI_clamp (by omega)) (vp_in_nI (by omega) (by omega)) ?_
  refine l_callC F e_L_law_1383 (s_X9_cash (x_l X) V G b M 1 T _ _ b (xs (i + 1)) (xs (i + 2)) hHT kA_b hG (by omega)) cb_X9_cash ml_L_157 im_X9_cash se_X9_cash hHT rfl rfl (rest := []) rfl (Nat.le_of_ble_eq_true rfl) ⟨Nat.le_of_ble_eq_true rfl, Nat.le_of_ble_eq_true rfl⟩ (by omega) (by omega) (fun r σ11367 hp => ?_)
  obtain ⟨h11368, x11369, rfl⟩ := hp
  have h11370 := h11368.1
  have h11371 := hHR.keepL (fun a ha _ => h11368.2 a (by rw [show kA _ a = 0 from ha]; decide))
  have h11372 := (h11368.2 (b + 1480) (by rw [show kA _ (b + 1480) = 0 from kA_o]; decide)).trans hout
  have br11374 := hBr.of (h11368.2 (b + 1457 + 1) (by rw [show kA _ (b + 1457 + 1) = 0 from kA_big (by omega)]; decide))
  have by11373 := hBy.keep (h11368.2 (b + 1) (by rw [show kA _ (b + 1) = 2 from kA_t]; decide))
  refine m_pop2_2 F rfl e_L_law_1386 ?_
  refine m_aload_n F rfl e_L_law_1387 ?_
  refine m_aload_n F rfl e_L_law_1388 ?_
  refine m_iload F rfl e_L_law_1389 ?_
  refine m_iconst F (v := 1) (by decide) e_L_law_1391 ?_
  refine m_iadd F e_L_law_1392 ?_
  refine Wm.topE (w := nI (i + 1)) (nI_add i 1) ?_
  refine m_sld F (j := i + 1) e_L_law_1393 hX hb (nI_clamp (by omega)) (vp_in_nI (by omega) (by omega)) ?_
  refine m_aload_n F rfl e_L_law_1394 ?_
  refine m_iload F rfl e_L_law_1395 ?_
  refine m_iconst F (v := 2) (by decide) e_L_law_1397 ?_
  refine m_iadd F e_L_law_1398 ?_
  refine Wm.topE (w := nI (i + 2)) (nI_add i 2) ?_
  refine m_sld F (j := i + 2) e_L_law_1399 hX hb (nI_clamp (by omega)) (vp_in_nI (by omega) (by omega)) ?_
  refine l_callM F e_L_law_1400 (q_X10_cash (x_l X) V (b + 1457) T 1 u h P L0_ _ _ (xs (i + 1)) (xs (i + 2)) h11371 hok hP ) cb_X10_cash ml_L_160 im_X10_cash se_X10_cash h11371 rfl rfl (rest := []) rfl (Nat.le_of_ble_eq_true rfl) ⟨Nat.le_of_ble_eq_true rfl, Nat.le_of_ble_eq_true rfl⟩ (by omega) (by omega) (fun r σ11375 hp => ?_)
  obtain ⟨h11376, x11377, rfl⟩ := hp
  have h11378 := h11376.1
  have h11379 := h11370.keepM (fun a ha => h11376.2 a (by rw [ha]; decide))
  have h11380 := (h11376.2 (b + 1480) (by rw [kC_0 (c := b + 1457) (by omega)]; decide)).trans h11372
  have by11381 := by11373.keep (h11376.2 (b + 1) (by rw [kC_0 (c := b + 1457) (by omega)]; decide))
  have br11382 := br11374.of (h11376.2 (b + 1457 + 1) (by rw [kC_at (k := 1) (by decide)]; decide))
  refine m_pop2_2 F rfl e_L_law_1403 ?_
  refine m_goto F e_L_law_1404 ?_
  exact hN _ (M + 1400) T _ _ _ (by omega) (by omega) (by omega) ⟨by omega, G, hG, h11379, ⟨_, h11380⟩, u, h, P, L0_, ⟨hu, hh, hP, hkk, hm0, hw0, hok⟩, h11378, hNg, _, by11381, br11382⟩
set_option maxRecDepth 20000 in
theorem lc_32 {V : VX} {X : MX} {nm : String} {b sb N k z i L M T : Nat} {xs : Nat → Int32} {σ : Mem} (F : Fx V X (yLw nm) cL_law 7 ret room_1) (hX : va_X sb L xs (x_s X) V.2.2) (hb : sb < V.2.2.size) (hl : (x_l X).stackTraces = false) (hi : i + 6 ≤ L) (hL : L ≤ 3072) (hk : k ≤ 2100) (hz : z ≤ 80000) (hM : M ≤ 10000000) (hI : IV V b M T σ) (hN : ∀ (N' M' T' : Nat) (σ' : Mem) (k' z' : Nat), k' ≤ k + 1 → z' ≤ z + 6 → M' ≤ M + 10000 → IV V b M' T' σ' → Wm V X 7 N' σ' k' z' 1745 [(4, .int (nI i)), (3, .ref (b + 1480)), (2, .ref (b + 1457)), (1, .ref b), (0, .ref sb)] []) : Wm V X 7 N σ k z 1407 [(4, .int (nI i)), (3, .ref (b + 1480)), (2, .ref (b + 1457)), (1, .ref b), (0, .ref sb)] [] := by
  obtain ⟨hT, G, hG, hHT, ⟨z0, hout⟩, u, h, P, L0_, ⟨hu, hh, hP, hkk, hm0, hw0, hok⟩, hHR, hNg, t, hBy, hBr⟩ := hI
  refine m_aload_n F rfl e_L_law_1407 ?_
  refine m_aload_n F rfl e_L_law_1408 ?_
  refine m_iload F rfl e_L_law_1409 ?_
  refine m_iconst F (v := 1) (by decide) e_L_law_1411 ?_
  refine m_iadd F e_L_law_1412 ?_
  refine Wm.topE (w := nI (i + 1)) (nI_add i 1) ?_
  refine m_sld F (j := i + 1) e_L_law_1413 hX hb (nI_clamp (by omega)) (vp_in_nI (by omega) (by omega)) ?_
  refine m_aload_n F rfl e_L_law_1414 ?_
  refine m_iload F rfl e_L_law_1415 ?_
  refine m_iconst F (v := 2) (by decide) e_L_law_1417 ?_
  refine m_iadd F e_L_law_1418 ?_
  refine Wm.topE (w := nI (i + 2)) (nI_add i 2) ?_
  refine m_sld F (j := i + 2) e_L_law_1419 hX hb (nI_clamp (by omega)) (vp_in_nI (by omega) (by omega)) ?_
  refine l_callC F e_L_law_1420 (s_X9_ifIndex (x_l X) V G b M 1 T _ _ b (xs (i + 1)) (xs (i + 2)) hHT kA_b hG (by omega)) cb_X9_ifIndex ml_L_161 im_X9_ifIndex se_X9_ifIndex hHT rfl rfl (rest := []) rfl (Nat.le_of_ble_eq_true rfl) ⟨Nat.le_of_ble_eq_true rfl, Nat.le_of_ble_eq_true rfl⟩ (by omega) (by omega) (fun r σ11383 hp => ?_)
  obtain ⟨h11384, x11385, rfl⟩ := hp
  have h11386 := h11384.1
  have h11387 := hHR.keepL (fun a ha _ => h11384.2 a (by rw [show kA _ a = 0 from ha]; decide))
  have h11388 := (h11384.2 (b + 1480) (by rw [show kA _ (b + 1480) = 0 from kA_o]; decide)).trans hout
  have br11390 := hBr.of (h11384.2 (b + 1457 + 1) (by rw [show kA _ (b + 1457 + 1) = 0 from kA_big (by omega)]; decide))
  have by11389 := hBy.keep (h11384.2 (b + 1) (by rw [show kA _ (b + 1) = 2 from kA_t]; decide))
  refine m_pop2_2 F rfl e_L_law_1423 ?_
  refine m_aload_n F rfl e_L_law_1424 ?_
  refine m_aload_n F rfl e_L_law_1425 ?_
  refine m_iload F rfl e_L_law_1426 ?_
  refine m_iconst F (v := 1) (by decide) e_L_law_1428 ?_
  refine m_iadd F e_L_law_1429 ?_
  refine Wm.topE (w := nI (i + 1)) (nI_add i 1) ?_
  refine m_sld F (j := i + 1) e_L_law_1430 hX hb (nI_clamp (by omega)) (vp_in_nI (by omega) (by omega)) ?_
  refine m_aload_n F rfl e_L_law_1431 ?_
  refine m_iload F rfl e_L_law_1432 ?_
  refine m_iconst F (v := 2) (by decide) e_L_law_1434 ?_
  refine m_iadd F e_L_law_1435 ?_
  refine Wm.topE (w := nI (i + 2)) (nI_add i 2) ?_
  refine m_sld F (j := i + 2) e_L_law_1436 hX hb (nI_clamp (by omega)) (vp_in_nI (by omega) (by omega)) ?_
  refine l_callM F e_L_law_1437 (q_X10_ifIndex (x_l X) V (b + 1457) T 1 u h P L0_ _ _ (xs (i + 1)) (xs (i + 2)) h11387 hok hP ) cb_X10_ifIndex ml_L_164 im_X10_ifIndex se_X10_ifIndex h11387 rfl rfl (rest := []) rfl (Nat.le_of_ble_eq_true rfl) ⟨Nat.le_of_ble_eq_true rfl, Nat.le_of_ble_eq_true rfl⟩ (by omega) (by omega) (fun r σ11391 hp => ?_)
  obtain ⟨h11392, x11393, rfl⟩ := hp
  have h11394 := h11392.1
  have h11395 := h11386.keepM (fun a ha => h11392.2 a (by rw [ha]; decide))
  have h11396 := (h11392.2 (b + 1480) (by rw [kC_0 (c := b + 1457) (by omega)]; decide)).trans h11388
  have by11397 := by11389.keep (h11392.2 (b + 1) (by rw [kC_0 (c := b + 1457) (by omega)]; decide))
  have br11398 := br11390.of (h11392.2 (b + 1457 + 1) (by rw [kC_at (k := 1) (by decide)]; decide))
  refine m_pop2_2 F rfl e_L_law_1440 ?_
  refine m_goto F e_L_law_1441 ?_
  exact hN _ M T _ _ _ (by omega) (by omega) (by omega) ⟨by omega, G, hG, h11395, ⟨_, h11396⟩, u, h, P, L0_, ⟨hu, hh, hP, hkk, hm0, hw0, hok⟩, h11394, hNg, _, by11397, br11398⟩
set_option maxRecDepth 20000 in
theorem lc_33 {V : VX} {X : MX} {nm : String} {b sb N k z i L M T : Nat} {xs : Nat → Int32} {σ : Mem} (F : Fx V X (yLw nm) cL_law 7 ret room_1) (hX : va_X sb L xs (x_s X) V.2.2) (hb : sb < V.2.2.size) (hl : (x_l X).stackTraces = false) (hi : i + 6 ≤ L) (hL : L ≤ 3072) (hk : k ≤ 2100) (hz : z ≤ 80000) (hM : M ≤ 10000000) (hI : IV V b M T σ) (hN : ∀ (N' M' T' : Nat) (σ' : Mem) (k' z' : Nat), k' ≤ k + 1 → z' ≤ z + 6 → M' ≤ M + 10000 → IV V b M' T' σ' → Wm V X 7 N' σ' k' z' 1745 [(4, .int (nI i)), (3, .ref (b + 1480)), (2, .ref (b + 1457)), (1, .ref b), (0, .ref sb)] []) : Wm V X 7 N σ k z 1444 [(4, .int (nI i)), (3, .ref (b + 1480)), (2, .ref (b + 1457)), (1, .ref b), (0, .ref sb)] [] := by
  obtain ⟨hT, G, hG, hHT, ⟨z0, hout⟩, u, h, P, L0_, ⟨hu, hh, hP, hkk, hm0, hw0, hok⟩, hHR, hNg, t, hBy, hBr⟩ := hI
  refine m_aload_n F rfl e_L_law_1444 ?_
  refine m_aload_n F rfl e_L_law_1445 ?_
  refine m_iload F rfl e_L_law_1446 ?_
  refine m_iconst F (v := 1) (by decide) e_L_law_1448 ?_
  refine m_iadd F e_L_law_1449 ?_
  refine Wm.topE (w := nI (i + 1)) (nI_add i 1) ?_
  refine m_sld F (j := i + 1) e_L_law_1450 hX hb (nI_clamp (by omega)) (vp_in_nI (by omega) (by omega)) ?_
  refine l_callC F e_L_law_1451 (s_X9_ifTaken (x_l X) V G b M 1 T _ _ b (xs (i + 1)) hHT kA_b hG (by omega)) cb_X9_ifTaken ml_L_165 im_X9_ifTaken se_X9_ifTaken hHT rfl rfl (rest := []) rfl (Nat.le_of_ble_eq_true rfl) ⟨Nat.le_of_ble_eq_true rfl, Nat.le_of_ble_eq_true rfl⟩ (by omega) (by omega) (fun r σ11399 hp => ?_)
  obtain ⟨h11400, x11401, rfl⟩ := hp
  have h11402 := h11400.1
  have h11403 := hHR.keepL (fun a ha _ => h11400.2 a (by rw [show kA _ a = 0 from ha]; decide))
  have h11404 := (h11400.2 (b + 1480) (by rw [show kA _ (b + 1480) = 0 from kA_o]; decide)).trans hout
  have br11406 := hBr.of (h11400.2 (b + 1457 + 1) (by rw [show kA _ (b + 1457 + 1) = 0 from kA_big (by omega)]; decide))
  have by11405 := hBy.keep (h11400.2 (b + 1) (by rw [show kA _ (b + 1) = 2 from kA_t]; decide))
  refine m_pop2_2 F rfl e_L_law_1454 ?_
  refine m_aload_n F rfl e_L_law_1455 ?_
  refine m_aload_n F rfl e_L_law_1456 ?_
  refine m_iload F rfl e_L_law_1457 ?_
  refine m_iconst F (v := 1) (by decide) e_L_law_1459 ?_
  refine m_iadd F e_L_law_1460 ?_
  refine Wm.topE (w := nI (i + 1)) (nI_add i 1) ?_
  refine m_sld F (j := i + 1) e_L_law_1461 hX hb (nI_clamp (by omega)) (vp_in_nI (by omega) (by omega)) ?_
  refine l_callM F e_L_law_1462 (q_X10_ifTaken (x_l X) V (b + 1457) T 1 u h P L0_ _ _ (xs (i + 1)) h11403 hok hP ) cb_X10_ifTaken ml_L_168 im_X10_ifTaken se_X10_ifTaken h11403 rfl rfl (rest := []) rfl (Nat.le_of_ble_eq_true rfl) ⟨Nat.le_of_ble_eq_true rfl, Nat.le_of_ble_eq_true rfl⟩ (by omega) (by omega) (fun r σ11407 hp => ?_)
  obtain ⟨h11408, x11409, rfl⟩ := hp
  have h11410 := h11408.1
  have h11411 := h11402.keepM (fun a ha => h11408.2 a (by rw [ha]; decide))
  have h11412 := (h11408.2 (b + 1480) (by rw [kC_0 (c := b + 1457) (by omega)]; decide)).trans h11404
  have by11413 := by11405.keep (h11408.2 (b + 1) (by rw [kC_0 (c := b + 1457) (by omega)]; decide))
  have br11414 := br11406.of (h11408.2 (b + 1457 + 1) (by rw [kC_at (k := 1) (by decide)]; decide))
  refine m_pop2_2 F rfl e_L_law_1465 ?_
  refine m_goto F e_L_law_1466 ?_
  exact hN _ M T _ _ _ (by omega) (by omega) (by omega) ⟨by omega, G, hG, h11411, ⟨_, h11412⟩, u, h, P, L0_, ⟨hu, hh, hP, hkk, hm0, hw0, hok⟩, h11410, hNg, _, by11413, br11414⟩
set_option maxRecDepth 20000 in
theorem lc_34 {V : VX} {X : MX} {nm : String} {b sb N k z i L M T : Nat} {xs : Nat → Int32} {σ : Mem} (F : Fx V X (yLw nm) cL_law 7 ret room_1) (hX : va_X sb L xs (x_s X) V.2.2) (hb : sb < V.2.2.size) (hl : (x_l X).stackTraces = false) (hi : i + 6 ≤ L) (hL : L ≤ 3072) (hk : k ≤ 2100) (hz : z ≤ 80000) (hM : M ≤ 10000000) (hI : IV V b M T σ) (hN : ∀ (N' M' T' : Nat) (σ' : Mem) (k' z' : Nat), k' ≤ k + 1 → z' ≤ z + 6 → M' ≤ M + 10000 → IV V b M' T' σ' → Wm V X 7 N' σ' k' z' 1745 [(4, .int (nI i)), (3, .ref (b + 1480)), (2, .ref (b + 1457)), (1, .ref b), (0, .ref sb)] []) : Wm V X 7 N σ k z 1469 [(4, .int (nI i)), (3, .ref (b + 1480)), (2, .ref (b + 1457)), (1, .ref b), (0, .ref sb)] [] := by
  obtain ⟨hT, G, hG, hHT, ⟨z0, hout⟩, u, h, P, L0_, ⟨hu, hh, hP, hkk, hm0, hw0, hok⟩, hHR, hNg, t, hBy, hBr⟩ := hI
  refine m_aload_n F rfl e_L_law_1469 ?_
  refine m_aload_n F rfl e_L_law_1470 ?_
  refine m_iload F rfl e_L_law_1471 ?_
  refine m_iconst F (v := 1) (by decide) e_L_law_1473 ?_
  refine m_iadd F e_L_law_1474 ?_
  refine Wm.topE (w := nI (i + 1)) (nI_add i 1) ?_
  refine m_sld F (j := i + 1) e_L_law_1475 hX hb (nI_clamp (by omega)) (vp_in_nI (by omega) (by omega)) ?_
  refine m_aload_n F rfl e_L_law_1476 ?_
  refine m_iload F rfl e_L_law_1477 ?_
  refine m_iconst F (v := 2) (by decide) e_L_law_1479 ?_
  refine m_iadd F e_L_law_1480 ?_
  refine Wm.topE (w := nI (i + 2)) (nI_add i 2) ?_
  refine m_sld F (j := i + 2) e_L_law_1481 hX hb (nI_clamp (by omega)) (vp_in_nI (by omega) (by omega)) ?_
  refine m_aload_n F rfl e_L_law_1482 ?_
  refine m_iload F rfl e_L_law_1483 ?_
  refine m_iconst F (v := 3) (by decide) e_L_law_1485 ?_
  refine m_iadd F e_L_law_1486 ?_
  refine Wm.topE (w := nI (i + 3)) (nI_add i 3) ?_
  refine m_sld F (j := i + 3) e_L_law_1487 hX hb (nI_clamp (by omega)) (vp_in_nI (by omega) (by omega)) ?_
  refine m_i2l F e_L_law_1488 ?_
  refine Wm.topl (fun x11415 _ => ?_)
  refine m_bipush F (v := 32) (by decide) e_L_law_1489 ?_
  refine m_lshl F e_L_law_1491 ?_
  refine Wm.topl (fun x11416 _ => ?_)
  refine m_aload_n F rfl e_L_law_1492 ?_
  refine m_iload F rfl e_L_law_1493 ?_
  refine m_iconst F (v := 4) (by decide) e_L_law_1495 ?_
  refine m_iadd F e_L_law_1496 ?_
  refine Wm.topE (w := nI (i + 4)) (nI_add i 4) ?_
  refine m_sld F (j := i + 4) e_L_law_1497 hX hb (nI_clamp (by omega)) (vp_in_nI (by omega) (by omega)) ?_
  refine m_i2l F e_L_law_1498 ?_
  refine Wm.topl (fun x11417 _ => ?_)
  refine m_ldc2 F kc_L_96 e_L_law_1499 ?_
  refine m_land F e_L_law_1502 ?_
  refine Wm.topl (fun x11418 _ => ?_)
  refine m_lor F e_L_law_1503 ?_
  refine Wm.topl (fun x11419 _ => ?_)
  refine l_callC F e_L_law_1504 (s_X9_yields (x_l X) V G b M 1 T _ _ b (xs (i + 1)) (xs (i + 2)) x11419 hHT kA_b hG (by omega)) cb_X9_yields ml_L_169 im_X9_yields se_X9_yields hHT rfl rfl (rest := []) rfl (Nat.le_of_ble_eq_true rfl) ⟨Nat.le_of_ble_eq_true rfl, Nat.le_of_ble_eq_true rfl⟩ (by omega) (by omega) (fun r σ11420 hp => ?_)
  obtain ⟨h11421, x11422, rfl⟩ := hp
  have h11423 := h11421.1
  have h11424 := hHR.keepL (fun a ha _ => h11421.2 a (by rw [show kA _ a = 0 from ha]; decide))
  have h11425 := (h11421.2 (b + 1480) (by rw [show kA _ (b + 1480) = 0 from kA_o]; decide)).trans hout
  have br11427 := hBr.of (h11421.2 (b + 1457 + 1) (by rw [show kA _ (b + 1457 + 1) = 0 from kA_big (by omega)]; decide))
  have by11426 := hBy.keep (h11421.2 (b + 1) (by rw [show kA _ (b + 1) = 2 from kA_t]; decide))
  refine m_pop F rfl e_L_law_1507 ?_
  refine m_aload_n F rfl e_L_law_1508 ?_
  refine m_aload_n F rfl e_L_law_1509 ?_
  refine m_iload F rfl e_L_law_1510 ?_
  refine m_iconst F (v := 1) (by decide) e_L_law_1512 ?_
  refine m_iadd F e_L_law_1513 ?_
  refine Wm.topE (w := nI (i + 1)) (nI_add i 1) ?_
  refine m_sld F (j := i + 1) e_L_law_1514 hX hb (nI_clamp (by omega)) (vp_in_nI (by omega) (by omega)) ?_
  refine m_aload_n F rfl e_L_law_1515 ?_
  refine m_iload F rfl e_L_law_1516 ?_
  refine m_iconst F (v := 2) (by decide) e_L_law_1518 ?_
  refine m_iadd F e_L_law_1519 ?_
  refine Wm.topE (w := nI (i + 2)) (nI_add i 2) ?_
  refine m_sld F (j := i + 2) e_L_law_1520 hX hb (nI_clamp (by omega)) (vp_in_nI (by omega) (by omega)) ?_
  refine m_aload_n F rfl e_L_law_1521 ?_
  refine m_iload F rfl e_L_law_1522 ?_
  refine m_iconst F (v := 3) (by decide) e_L_law_1524 ?_
  refine m_iadd F e_L_law_1525 ?_
  refine Wm.topE (w := nI (i + 3)) (nI_add i 3) ?_
  refine m_sld F (j := i + 3) e_L_law_1526 hX hb (nI_clamp (by omega)) (vp_in_nI (by omega) (by omega)) ?_
  refine m_i2l F e_L_law_1527 ?_
  refine Wm.topl (fun x11428 _ => ?_)
  refine m_bipush F (v := 32) (by decide) e_L_law_1528 ?_
  refine m_lshl F e_L_law_1530 ?_
  refine Wm.topl (fun x11429 _ => ?_)
  refine m_aload_n F rfl e_L_law_1531 ?_
  refine m_iload F rfl e_L_law_1532 ?_
  refine m_iconst F (v := 4) (by decide) e_L_law_1534 ?_
  refine m_iadd F e_L_law_1535 ?_
  refine Wm.topE (w := nI (i + 4)) (nI_add i 4) ?_
  refine m_sld F (j := i + 4) e_L_law_1536 hX hb (nI_clamp (by omega)) (vp_in_nI (by omega) (by omega)) ?_
  refine m_i2l F e_L_law_1537 ?_
  refine Wm.topl (fun x11430 _ => ?_)
  refine m_ldc2 F kc_L_96 e_L_law_1538 ?_
  refine m_land F e_L_law_1541 ?_
  refine Wm.topl (fun x11431 _ => ?_)
  refine m_lor F e_L_law_1542 ?_
  refine Wm.topl (fun x11432 _ => ?_)
  refine l_callM F e_L_law_1543 (q_X10_yields (x_l X) V (b + 1457) T 1 u h P L0_ _ _ (xs (i + 1)) (xs (i + 2)) x11432 h11424 hok.b hP ) cb_X10_yields ml_L_173 im_X10_yields se_X10_yields h11424 rfl rfl (rest := []) rfl (Nat.le_of_ble_eq_true rfl) ⟨Nat.le_of_ble_eq_true rfl, Nat.le_of_ble_eq_true rfl⟩ (by omega) (by omega) (fun r σ11433 hp => ?_)
  obtain ⟨h11434, x11435, rfl⟩ := hp
  have h11436 := h11434.1
  have h11437 := h11423.keepM (fun a ha => h11434.2 a (by rw [ha]; decide))
  have h11438 := (h11434.2 (b + 1480) (by rw [kC_0 (c := b + 1457) (by omega)]; decide)).trans h11425
  have by11439 := by11426.keep (h11434.2 (b + 1) (by rw [kC_0 (c := b + 1457) (by omega)]; decide))
  have br11440 := br11427.of (h11434.2 (b + 1457 + 1) (by rw [kC_at (k := 1) (by decide)]; decide))
  refine m_pop F rfl e_L_law_1546 ?_
  refine m_goto F e_L_law_1547 ?_
  exact hN _ M T _ _ _ (by omega) (by omega) (by omega) ⟨by omega, G, hG, h11437, ⟨_, h11438⟩, u, h, P, L0_, ⟨hu, hh, hP, hkk, hm0, hw0, hok⟩, h11436, hNg, _, by11439, br11440⟩
set_option maxRecDepth 20000 in
theorem lc_35 {V : VX} {X : MX} {nm : String} {b sb N k z i L M T : Nat} {xs : Nat → Int32} {σ : Mem} (F : Fx V X (yLw nm) cL_law 7 ret room_1) (hX : va_X sb L xs (x_s X) V.2.2) (hb : sb < V.2.2.size) (hl : (x_l X).stackTraces = false) (hi : i + 6 ≤ L) (hL : L ≤ 3072) (hk : k ≤ 2100) (hz : z ≤ 80000) (hM : M ≤ 10000000) (hI : IV V b M T σ) (hN : ∀ (N' M' T' : Nat) (σ' : Mem) (k' z' : Nat), k' ≤ k + 1 → z' ≤ z + 6 → M' ≤ M + 10000 → IV V b M' T' σ' → Wm V X 7 N' σ' k' z' 1745 [(4, .int (nI i)), (3, .ref (b + 1480)), (2, .ref (b + 1457)), (1, .ref b), (0, .ref sb)] []) : Wm V X 7 N σ k z 1550 [(4, .int (nI i)), (3, .ref (b + 1480)), (2, .ref (b + 1457)), (1, .ref b), (0, .ref sb)] [] := by
  obtain ⟨hT, G, hG, hHT, ⟨z0, hout⟩, u, h, P, L0_, ⟨hu, hh, hP, hkk, hm0, hw0, hok⟩, hHR, hNg, t, hBy, hBr⟩ := hI
  refine m_aload_n F rfl e_L_law_1550 ?_
  refine m_aload_n F rfl e_L_law_1551 ?_
  refine m_iload F rfl e_L_law_1552 ?_
  refine m_iconst F (v := 1) (by decide) e_L_law_1554 ?_
  refine m_iadd F e_L_law_1555 ?_
  refine Wm.topE (w := nI (i + 1)) (nI_add i 1) ?_
  refine m_sld F (j := i + 1) e_L_law_1556 hX hb (nI_clamp (by omega)) (vp_in_nI (by omega) (by omega)) ?_
  refine m_aload_n F rfl e_L_law_1557 ?_
  refine m_iload F rfl e_L_law_1558 ?_
  refine m_iconst F (v := 2) (by decide) e_L_law_1560 ?_
  refine m_iadd F e_L_law_1561 ?_
  refine Wm.topE (w := nI (i + 2)) (nI_add i 2) ?_
  refine m_sld F (j := i + 2) e_L_law_1562 hX hb (nI_clamp (by omega)) (vp_in_nI (by omega) (by omega)) ?_
  refine m_i2l F e_L_law_1563 ?_
  refine Wm.topl (fun x11441 _ => ?_)
  refine m_bipush F (v := 32) (by decide) e_L_law_1564 ?_
  refine m_lshl F e_L_law_1566 ?_
  refine Wm.topl (fun x11442 _ => ?_)
  refine m_aload_n F rfl e_L_law_1567 ?_
  refine m_iload F rfl e_L_law_1568 ?_
  refine m_iconst F (v := 3) (by decide) e_L_law_1570 ?_
  refine m_iadd F e_L_law_1571 ?_
  refine Wm.topE (w := nI (i + 3)) (nI_add i 3) ?_
  refine m_sld F (j := i + 3) e_L_law_1572 hX hb (nI_clamp (by omega)) (vp_in_nI (by omega) (by omega)) ?_
  refine m_i2l F e_L_law_1573 ?_
  refine Wm.topl (fun x11443 _ => ?_)
  refine m_ldc2 F kc_L_96 e_L_law_1574 ?_
  refine m_land F e_L_law_1577 ?_
  refine Wm.topl (fun x11444 _ => ?_)
  refine m_lor F e_L_law_1578 ?_
  refine Wm.topl (fun x11445 _ => ?_)
  refine l_callC F e_L_law_1579 (s_X9_level (x_l X) V G b M 1 T _ _ b (xs (i + 1)) x11445 hHT kA_b hG (by omega)) cb_X9_level ml_L_174 im_X9_level se_X9_level hHT rfl rfl (rest := []) rfl (Nat.le_of_ble_eq_true rfl) ⟨Nat.le_of_ble_eq_true rfl, Nat.le_of_ble_eq_true rfl⟩ (by omega) (by omega) (fun r σ11446 hp => ?_)
  obtain ⟨h11447, x11448, rfl⟩ := hp
  have h11449 := h11447.1
  have h11450 := hHR.keepL (fun a ha _ => h11447.2 a (by rw [show kA _ a = 0 from ha]; decide))
  have h11451 := (h11447.2 (b + 1480) (by rw [show kA _ (b + 1480) = 0 from kA_o]; decide)).trans hout
  have br11453 := hBr.of (h11447.2 (b + 1457 + 1) (by rw [show kA _ (b + 1457 + 1) = 0 from kA_big (by omega)]; decide))
  have by11452 := hBy.keep (h11447.2 (b + 1) (by rw [show kA _ (b + 1) = 2 from kA_t]; decide))
  refine m_pop F rfl e_L_law_1582 ?_
  refine m_aload_n F rfl e_L_law_1583 ?_
  refine m_aload_n F rfl e_L_law_1584 ?_
  refine m_iload F rfl e_L_law_1585 ?_
  refine m_iconst F (v := 1) (by decide) e_L_law_1587 ?_
  refine m_iadd F e_L_law_1588 ?_
  refine Wm.topE (w := nI (i + 1)) (nI_add i 1) ?_
  refine m_sld F (j := i + 1) e_L_law_1589 hX hb (nI_clamp (by omega)) (vp_in_nI (by omega) (by omega)) ?_
  refine m_aload_n F rfl e_L_law_1590 ?_
  refine m_iload F rfl e_L_law_1591 ?_
  refine m_iconst F (v := 2) (by decide) e_L_law_1593 ?_
  refine m_iadd F e_L_law_1594 ?_
  refine Wm.topE (w := nI (i + 2)) (nI_add i 2) ?_
  refine m_sld F (j := i + 2) e_L_law_1595 hX hb (nI_clamp (by omega)) (vp_in_nI (by omega) (by omega)) ?_
  refine m_i2l F e_L_law_1596 ?_
  refine Wm.topl (fun x11454 _ => ?_)
  refine m_bipush F (v := 32) (by decide) e_L_law_1597 ?_
  refine m_lshl F e_L_law_1599 ?_
  refine Wm.topl (fun x11455 _ => ?_)
  refine m_aload_n F rfl e_L_law_1600 ?_
  refine m_iload F rfl e_L_law_1601 ?_
  refine m_iconst F (v := 3) (by decide) e_L_law_1603 ?_
  refine m_iadd F e_L_law_1604 ?_
  refine Wm.topE (w := nI (i + 3)) (nI_add i 3) ?_
  refine m_sld F (j := i + 3) e_L_law_1605 hX hb (nI_clamp (by omega)) (vp_in_nI (by omega) (by omega)) ?_
  refine m_i2l F e_L_law_1606 ?_
  refine Wm.topl (fun x11456 _ => ?_)
  refine m_ldc2 F kc_L_96 e_L_law_1607 ?_
  refine m_land F e_L_law_1610 ?_
  refine Wm.topl (fun x11457 _ => ?_)
  refine m_lor F e_L_law_1611 ?_
  refine Wm.topl (fun x11458 _ => ?_)
  refine l_callM F e_L_law_1612 (q_X10_level (x_l X) V (b + 1457) T 1 u h P L0_ _ _ (xs (i + 1)) x11458 h11450 hok.b hP ) cb_X10_level ml_L_177 im_X10_level se_X10_level h11450 rfl rfl (rest := []) rfl (Nat.le_of_ble_eq_true rfl) ⟨Nat.le_of_ble_eq_true rfl, Nat.le_of_ble_eq_true rfl⟩ (by omega) (by omega) (fun r σ11459 hp => ?_)
  obtain ⟨h11460, x11461, rfl⟩ := hp
  have h11462 := h11460.1
  have h11463 := h11449.keepM (fun a ha => h11460.2 a (by rw [ha]; decide))
  have h11464 := (h11460.2 (b + 1480) (by rw [kC_0 (c := b + 1457) (by omega)]; decide)).trans h11451
  have by11465 := by11452.keep (h11460.2 (b + 1) (by rw [kC_0 (c := b + 1457) (by omega)]; decide))
  have br11466 := br11453.of (h11460.2 (b + 1457 + 1) (by rw [kC_at (k := 1) (by decide)]; decide))
  refine m_pop F rfl e_L_law_1615 ?_
  refine m_goto F e_L_law_1616 ?_
  exact hN _ M T _ _ _ (by omega) (by omega) (by omega) ⟨by omega, G, hG, h11463, ⟨_, h11464⟩, u, h, P, L0_, ⟨hu, hh, hP, hkk, hm0, hw0, hok⟩, h11462, hNg, _, by11465, br11466⟩
set_option maxRecDepth 20000 in
theorem lc_36 {V : VX} {X : MX} {nm : String} {b sb N k z i L M T : Nat} {xs : Nat → Int32} {σ : Mem} (F : Fx V X (yLw nm) cL_law 7 ret room_1) (hX : va_X sb L xs (x_s X) V.2.2) (hb : sb < V.2.2.size) (hl : (x_l X).stackTraces = false) (hi : i + 6 ≤ L) (hL : L ≤ 3072) (hk : k ≤ 2100) (hz : z ≤ 80000) (hM : M ≤ 10000000) (hI : IV V b M T σ) (hN : ∀ (N' M' T' : Nat) (σ' : Mem) (k' z' : Nat), k' ≤ k + 1 → z' ≤ z + 6 → M' ≤ M + 10000 → IV V b M' T' σ' → Wm V X 7 N' σ' k' z' 1745 [(4, .int (nI i)), (3, .ref (b + 1480)), (2, .ref (b + 1457)), (1, .ref b), (0, .ref sb)] []) : Wm V X 7 N σ k z 1619 [(4, .int (nI i)), (3, .ref (b + 1480)), (2, .ref (b + 1457)), (1, .ref b), (0, .ref sb)] [] := by
  obtain ⟨hT, G, hG, hHT, ⟨z0, hout⟩, u, h, P, L0_, ⟨hu, hh, hP, hkk, hm0, hw0, hok⟩, hHR, hNg, t, hBy, hBr⟩ := hI
  refine m_aload_n F rfl e_L_law_1619 ?_
  refine l_callC F e_L_law_1620 (s_X9_heaviest (x_l X) V G b M 1 T _ _ b  hHT kA_b hG (by omega)) cb_X9_heaviest ml_L_178 im_X9_heaviest se_X9_heaviest hHT rfl rfl (rest := []) rfl (Nat.le_of_ble_eq_true rfl) ⟨Nat.le_of_ble_eq_true rfl, Nat.le_of_ble_eq_true rfl⟩ (by omega) (by omega) (fun r σ11467 hp => ?_)
  obtain ⟨h11468, x11469, rfl⟩ := hp
  have h11470 := h11468.1
  have h11471 := hHR.keepL (fun a ha _ => h11468.2 a (by rw [show kA _ a = 0 from ha]; decide))
  have h11472 := (h11468.2 (b + 1480) (by rw [show kA _ (b + 1480) = 0 from kA_o]; decide)).trans hout
  have br11474 := hBr.of (h11468.2 (b + 1457 + 1) (by rw [show kA _ (b + 1457 + 1) = 0 from kA_big (by omega)]; decide))
  have by11473 := hBy.keep (h11468.2 (b + 1) (by rw [show kA _ (b + 1) = 2 from kA_t]; decide))
  refine m_pop F rfl e_L_law_1623 ?_
  refine m_aload_n F rfl e_L_law_1624 ?_
  refine l_callM F e_L_law_1625 (q_X10_heaviest (x_l X) V (b + 1457) T 1 u h P L0_ _ _  h11471 hok.b hP ) cb_X10_heaviest ml_L_182 im_X10_heaviest se_X10_heaviest h11471 rfl rfl (rest := []) rfl (Nat.le_of_ble_eq_true rfl) ⟨Nat.le_of_ble_eq_true rfl, Nat.le_of_ble_eq_true rfl⟩ (by omega) (by omega) (fun r σ11475 hp => ?_)
  obtain ⟨h11476, x11477, rfl⟩ := hp
  have h11478 := h11476.1
  have h11479 := h11470.keepM (fun a ha => h11476.2 a (by rw [ha]; decide))
  have h11480 := (h11476.2 (b + 1480) (by rw [kC_0 (c := b + 1457) (by omega)]; decide)).trans h11472
  have by11481 := by11473.keep (h11476.2 (b + 1) (by rw [kC_0 (c := b + 1457) (by omega)]; decide))
  have br11482 := br11474.of (h11476.2 (b + 1457 + 1) (by rw [kC_at (k := 1) (by decide)]; decide))
  refine m_pop F rfl e_L_law_1628 ?_
  refine m_goto F e_L_law_1629 ?_
  exact hN _ M T _ _ _ (by omega) (by omega) (by omega) ⟨by omega, G, hG, h11479, ⟨_, h11480⟩, u, h, P, L0_, ⟨hu, hh, hP, hkk, hm0, hw0, hok⟩, h11478, hNg, _, by11481, br11482⟩
set_option maxRecDepth 20000 in
theorem lc_37 {V : VX} {X : MX} {nm : String} {b sb N k z i L M T : Nat} {xs : Nat → Int32} {σ : Mem} (F : Fx V X (yLw nm) cL_law 7 ret room_1) (hX : va_X sb L xs (x_s X) V.2.2) (hb : sb < V.2.2.size) (hl : (x_l X).stackTraces = false) (hi : i + 6 ≤ L) (hL : L ≤ 3072) (hk : k ≤ 2100) (hz : z ≤ 80000) (hM : M ≤ 10000000) (hI : IV V b M T σ) (hN : ∀ (N' M' T' : Nat) (σ' : Mem) (k' z' : Nat), k' ≤ k + 1 → z' ≤ z + 6 → M' ≤ M + 10000 → IV V b M' T' σ' → Wm V X 7 N' σ' k' z' 1745 [(4, .int (nI i)), (3, .ref (b + 1480)), (2, .ref (b + 1457)), (1, .ref b), (0, .ref sb)] []) : Wm V X 7 N σ k z 1632 [(4, .int (nI i)), (3, .ref (b + 1480)), (2, .ref (b + 1457)), (1, .ref b), (0, .ref sb)] [] := by
  obtain ⟨hT, G, hG, hHT, ⟨z0, hout⟩, u, h, P, L0_, ⟨hu, hh, hP, hkk, hm0, hw0, hok⟩, hHR, hNg, t, hBy, hBr⟩ := hI
  refine m_aload_n F rfl e_L_law_1632 ?_
  refine m_aload_n F rfl e_L_law_1633 ?_
  refine m_iload F rfl e_L_law_1634 ?_
  refine m_iconst F (v := 1) (by decide) e_L_law_1636 ?_
  refine m_iadd F e_L_law_1637 ?_
  refine Wm.topE (w := nI (i + 1)) (nI_add i 1) ?_
  refine m_sld F (j := i + 1) e_L_law_1638 hX hb (nI_clamp (by omega)) (vp_in_nI (by omega) (by omega)) ?_
  refine m_aload_n F rfl e_L_law_1639 ?_
  refine m_iload F rfl e_L_law_1640 ?_
  refine m_iconst F (v := 2) (by decide) e_L_law_1642 ?_
  refine m_iadd F e_L_law_1643 ?_
  refine Wm.topE (w := nI (i + 2)) (nI_add i 2) ?_
  refine m_sld F (j := i + 2) e_L_law_1644 hX hb (nI_clamp (by omega)) (vp_in_nI (by omega) (by omega)) ?_
  refine m_aload_n F rfl e_L_law_1645 ?_
  refine m_iload F rfl e_L_law_1646 ?_
  refine m_iconst F (v := 3) (by decide) e_L_law_1648 ?_
  refine m_iadd F e_L_law_1649 ?_
  refine Wm.topE (w := nI (i + 3)) (nI_add i 3) ?_
  refine m_sld F (j := i + 3) e_L_law_1650 hX hb (nI_clamp (by omega)) (vp_in_nI (by omega) (by omega)) ?_
  refine l_callC F e_L_law_1651 (s_X9_chance (x_l X) V G b M 1 T _ _ b (xs (i + 1)) (xs (i + 2)) (xs (i + 3)) hHT kA_b hG (by omega)) cb_X9_chance ml_L_183 im_X9_chance se_X9_chance hHT rfl rfl (rest := []) rfl (Nat.le_of_ble_eq_true rfl) ⟨Nat.le_of_ble_eq_true rfl, Nat.le_of_ble_eq_true rfl⟩ (by omega) (by omega) (fun r σ11483 hp => ?_)
  obtain ⟨h11484, x11485, rfl⟩ := hp
  have h11486 := h11484.1
  have h11487 := hHR.keepL (fun a ha _ => h11484.2 a (by rw [show kA _ a = 0 from ha]; decide))
  have h11488 := (h11484.2 (b + 1480) (by rw [show kA _ (b + 1480) = 0 from kA_o]; decide)).trans hout
  have br11490 := hBr.of (h11484.2 (b + 1457 + 1) (by rw [show kA _ (b + 1457 + 1) = 0 from kA_big (by omega)]; decide))
  have by11489 := hBy.keep (h11484.2 (b + 1) (by rw [show kA _ (b + 1) = 2 from kA_t]; decide))
  refine m_pop2_2 F rfl e_L_law_1654 ?_
  refine m_aload_n F rfl e_L_law_1655 ?_
  refine m_aload_n F rfl e_L_law_1656 ?_
  refine m_iload F rfl e_L_law_1657 ?_
  refine m_iconst F (v := 1) (by decide) e_L_law_1659 ?_
  refine m_iadd F e_L_law_1660 ?_
  refine Wm.topE (w := nI (i + 1)) (nI_add i 1) ?_
  refine m_sld F (j := i + 1) e_L_law_1661 hX hb (nI_clamp (by omega)) (vp_in_nI (by omega) (by omega)) ?_
  refine m_aload_n F rfl e_L_law_1662 ?_
  refine m_iload F rfl e_L_law_1663 ?_
  refine m_iconst F (v := 2) (by decide) e_L_law_1665 ?_
  refine m_iadd F e_L_law_1666 ?_
  refine Wm.topE (w := nI (i + 2)) (nI_add i 2) ?_
  refine m_sld F (j := i + 2) e_L_law_1667 hX hb (nI_clamp (by omega)) (vp_in_nI (by omega) (by omega)) ?_
  refine m_aload_n F rfl e_L_law_1668 ?_
  refine m_iload F rfl e_L_law_1669 ?_
  refine m_iconst F (v := 3) (by decide) e_L_law_1671 ?_
  refine m_iadd F e_L_law_1672 ?_
  refine Wm.topE (w := nI (i + 3)) (nI_add i 3) ?_
  refine m_sld F (j := i + 3) e_L_law_1673 hX hb (nI_clamp (by omega)) (vp_in_nI (by omega) (by omega)) ?_
  refine l_callM F e_L_law_1674 (q_X10_chance (x_l X) V (b + 1457) T 1 u h P L0_ _ _ (xs (i + 1)) (xs (i + 2)) (xs (i + 3)) h11487 hok hP ) cb_X10_chance ml_L_186 im_X10_chance se_X10_chance h11487 rfl rfl (rest := []) rfl (Nat.le_of_ble_eq_true rfl) ⟨Nat.le_of_ble_eq_true rfl, Nat.le_of_ble_eq_true rfl⟩ (by omega) (by omega) (fun r σ11491 hp => ?_)
  obtain ⟨h11492, x11493, rfl⟩ := hp
  have h11494 := h11492.1
  have h11495 := h11486.keepM (fun a ha => h11492.2 a (by rw [ha]; decide))
  have h11496 := (h11492.2 (b + 1480) (by rw [kC_0 (c := b + 1457) (by omega)]; decide)).trans h11488
  have by11497 := by11489.keep (h11492.2 (b + 1) (by rw [kC_0 (c := b + 1457) (by omega)]; decide))
  have br11498 := br11490.of (h11492.2 (b + 1457 + 1) (by rw [kC_at (k := 1) (by decide)]; decide))
  refine m_pop2_2 F rfl e_L_law_1677 ?_
  refine m_goto F e_L_law_1678 ?_
  exact hN _ (M + 7560) T _ _ _ (by omega) (by omega) (by omega) ⟨by omega, G, hG, h11495, ⟨_, h11496⟩, u, h, P, L0_, ⟨hu, hh, hP, hkk, hm0, hw0, hok⟩, h11494, hNg, _, by11497, br11498⟩
set_option maxRecDepth 20000 in
theorem lc_38 {V : VX} {X : MX} {nm : String} {b sb N k z i L M T : Nat} {xs : Nat → Int32} {σ : Mem} (F : Fx V X (yLw nm) cL_law 7 ret room_1) (hX : va_X sb L xs (x_s X) V.2.2) (hb : sb < V.2.2.size) (hl : (x_l X).stackTraces = false) (hi : i + 6 ≤ L) (hL : L ≤ 3072) (hk : k ≤ 2100) (hz : z ≤ 80000) (hM : M ≤ 10000000) (hI : IV V b M T σ) (hN : ∀ (N' M' T' : Nat) (σ' : Mem) (k' z' : Nat), k' ≤ k + 1 → z' ≤ z + 6 → M' ≤ M + 10000 → IV V b M' T' σ' → Wm V X 7 N' σ' k' z' 1745 [(4, .int (nI i)), (3, .ref (b + 1480)), (2, .ref (b + 1457)), (1, .ref b), (0, .ref sb)] []) : Wm V X 7 N σ k z 1681 [(4, .int (nI i)), (3, .ref (b + 1480)), (2, .ref (b + 1457)), (1, .ref b), (0, .ref sb)] [] := by
  obtain ⟨hT, G, hG, hHT, ⟨z0, hout⟩, u, h, P, L0_, ⟨hu, hh, hP, hkk, hm0, hw0, hok⟩, hHR, hNg, t, hBy, hBr⟩ := hI
  refine m_aload_n F rfl e_L_law_1681 ?_
  refine l_callC F e_L_law_1682 (s_X9_undo (x_l X) V G b M 1 T _ _ b  hHT kA_b hG (by omega)) cb_X9_undo ml_L_187 im_X9_undo se_X9_undo hHT rfl rfl (rest := []) rfl (Nat.le_of_ble_eq_true rfl) ⟨Nat.le_of_ble_eq_true rfl, Nat.le_of_ble_eq_true rfl⟩ (by omega) (by omega) (fun r σ11499 hp => ?_)
  obtain ⟨G11501, gr11502, h11500, x11503, rfl⟩ := hp
  have ng11504 := hNg.gr gr11502
  have h11505 := h11500.1
  have h11506 := hHR.keepL (fun a ha _ => h11500.2 a (by rw [show kA _ a = 0 from ha]; decide))
  have h11507 := (h11500.2 (b + 1480) (by rw [show kA _ (b + 1480) = 0 from kA_o]; decide)).trans hout
  have br11509 := hBr.of (h11500.2 (b + 1457 + 1) (by rw [show kA _ (b + 1457 + 1) = 0 from kA_big (by omega)]; decide))
  have by11508 := hBy.keep (h11500.2 (b + 1) (by rw [show kA _ (b + 1) = 2 from kA_t]; decide))
  refine m_pop F rfl e_L_law_1685 ?_
  refine m_aload_n F rfl e_L_law_1686 ?_
  refine l_callM F e_L_law_1687 (q_X10_undo (x_l X) V (b + 1457) T 1 u h P L0_ _ _  h11506 hok hP (by first | omega | assumption) (by first | omega | assumption)) cb_X10_undo ml_L_190 im_X10_undo se_X10_undo h11506 rfl rfl (rest := []) rfl (Nat.le_of_ble_eq_true rfl) ⟨Nat.le_of_ble_eq_true rfl, Nat.le_of_ble_eq_true rfl⟩ (by omega) (by omega) (fun r σ11510 hp => ?_)
  obtain ⟨u11512, hu11512, L11513, okL11513, h11511, x11514, rfl⟩ := hp
  have h11515 := h11511.1
  have h11516 := h11505.keepM (fun a ha => h11511.2 a (by rw [ha]; decide))
  have h11517 := (h11511.2 (b + 1480) (by rw [kC_0 (c := b + 1457) (by omega)]; decide)).trans h11507
  have by11518 := by11508.keep (h11511.2 (b + 1) (by rw [kC_0 (c := b + 1457) (by omega)]; decide))
  have br11519 := br11509.of (h11511.2 (b + 1457 + 1) (by rw [kC_at (k := 1) (by decide)]; decide))
  refine m_pop F rfl e_L_law_1690 ?_
  refine m_goto F e_L_law_1691 ?_
  exact hN _ M T _ _ _ (by omega) (by omega) (by omega) ⟨by omega, G11501, gr11502.1, h11516, ⟨_, h11517⟩, u11512, h, P, L11513, ⟨hu11512, hh, hP, hkk, hm0, hw0, okL11513⟩, h11515, ng11504, _, by11518, br11519⟩
set_option maxRecDepth 20000 in
theorem lc_39 {V : VX} {X : MX} {nm : String} {b sb N k z i L M T : Nat} {xs : Nat → Int32} {σ : Mem} (F : Fx V X (yLw nm) cL_law 7 ret room_1) (hX : va_X sb L xs (x_s X) V.2.2) (hb : sb < V.2.2.size) (hl : (x_l X).stackTraces = false) (hi : i + 6 ≤ L) (hL : L ≤ 3072) (hk : k ≤ 2100) (hz : z ≤ 80000) (hM : M ≤ 10000000) (hI : IV V b M T σ) (hN : ∀ (N' M' T' : Nat) (σ' : Mem) (k' z' : Nat), k' ≤ k + 1 → z' ≤ z + 6 → M' ≤ M + 10000 → IV V b M' T' σ' → Wm V X 7 N' σ' k' z' 1745 [(4, .int (nI i)), (3, .ref (b + 1480)), (2, .ref (b + 1457)), (1, .ref b), (0, .ref sb)] []) : Wm V X 7 N σ k z 1694 [(4, .int (nI i)), (3, .ref (b + 1480)), (2, .ref (b + 1457)), (1, .ref b), (0, .ref sb)] [] := by
  obtain ⟨hT, G, hG, hHT, ⟨z0, hout⟩, u, h, P, L0_, ⟨hu, hh, hP, hkk, hm0, hw0, hok⟩, hHR, hNg, t, hBy, hBr⟩ := hI
  refine m_aload_n F rfl e_L_law_1694 ?_
  refine l_callC F e_L_law_1695 (s_X9_keep (x_l X) V G b M 1 T _ _ b  hHT kA_b hG (by omega)) cb_X9_keep ml_L_191 im_X9_keep se_X9_keep hHT rfl rfl (rest := []) rfl (Nat.le_of_ble_eq_true rfl) ⟨Nat.le_of_ble_eq_true rfl, Nat.le_of_ble_eq_true rfl⟩ (by omega) (by omega) (fun r σ11520 hp => ?_)
  obtain ⟨G11522, gr11523, h11521, x11524, rfl⟩ := hp
  have ng11525 := hNg.gr gr11523
  have h11526 := h11521.1
  have h11527 := hHR.keepL (fun a ha _ => h11521.2 a (by rw [show kA _ a = 0 from ha]; decide))
  have h11528 := (h11521.2 (b + 1480) (by rw [show kA _ (b + 1480) = 0 from kA_o]; decide)).trans hout
  have br11530 := hBr.of (h11521.2 (b + 1457 + 1) (by rw [show kA _ (b + 1457 + 1) = 0 from kA_big (by omega)]; decide))
  have by11529 := hBy.keep (h11521.2 (b + 1) (by rw [show kA _ (b + 1) = 2 from kA_t]; decide))
  refine m_pop F rfl e_L_law_1698 ?_
  refine m_aload_n F rfl e_L_law_1699 ?_
  refine l_callM F e_L_law_1700 (q_X10_keep (x_l X) V (b + 1457) T 1 u h P L0_ _ _  h11527 hok hP (by first | omega | assumption)) cb_X10_keep ml_L_194 im_X10_keep se_X10_keep h11527 rfl rfl (rest := []) rfl (Nat.le_of_ble_eq_true rfl) ⟨Nat.le_of_ble_eq_true rfl, Nat.le_of_ble_eq_true rfl⟩ (by omega) (by omega) (fun r σ11531 hp => ?_)
  obtain ⟨h11532, x11533, rfl⟩ := hp
  have h11534 := h11532.1
  have h11535 := h11526.keepM (fun a ha => h11532.2 a (by rw [ha]; decide))
  have h11536 := (h11532.2 (b + 1480) (by rw [kC_0 (c := b + 1457) (by omega)]; decide)).trans h11528
  have by11537 := by11529.keep (h11532.2 (b + 1) (by rw [kC_0 (c := b + 1457) (by omega)]; decide))
  have br11538 := br11530.of (h11532.2 (b + 1457 + 1) (by rw [kC_at (k := 1) (by decide)]; decide))
  refine m_pop F rfl e_L_law_1703 ?_
  refine m_goto F e_L_law_1704 ?_
  exact hN _ M T _ _ _ (by omega) (by omega) (by omega) ⟨by omega, G11522, gr11523.1, h11535, ⟨_, h11536⟩, u, 1, P, L0_, ⟨hu, (by omega), hP, hkk, hm0, hw0, hok⟩, h11534, ng11525, _, by11537, br11538⟩
set_option maxRecDepth 20000 in
theorem lc_40 {V : VX} {X : MX} {nm : String} {b sb N k z i L M T : Nat} {xs : Nat → Int32} {σ : Mem} (F : Fx V X (yLw nm) cL_law 7 ret room_1) (hX : va_X sb L xs (x_s X) V.2.2) (hb : sb < V.2.2.size) (hl : (x_l X).stackTraces = false) (hi : i + 6 ≤ L) (hL : L ≤ 3072) (hk : k ≤ 2100) (hz : z ≤ 80000) (hM : M ≤ 10000000) (hI : IV V b M T σ) (hN : ∀ (N' M' T' : Nat) (σ' : Mem) (k' z' : Nat), k' ≤ k + 1 → z' ≤ z + 6 → M' ≤ M + 10000 → IV V b M' T' σ' → Wm V X 7 N' σ' k' z' 1745 [(4, .int (nI i)), (3, .ref (b + 1480)), (2, .ref (b + 1457)), (1, .ref b), (0, .ref sb)] []) : Wm V X 7 N σ k z 1707 [(4, .int (nI i)), (3, .ref (b + 1480)), (2, .ref (b + 1457)), (1, .ref b), (0, .ref sb)] [] := by
  obtain ⟨hT, G, hG, hHT, ⟨z0, hout⟩, u, h, P, L0_, ⟨hu, hh, hP, hkk, hm0, hw0, hok⟩, hHR, hNg, t, hBy, hBr⟩ := hI
  refine m_aload_n F rfl e_L_law_1707 ?_
  refine l_callC F e_L_law_1708 (s_X9_back (x_l X) V G b M 1 T _ _ b  hHT kA_b hG (by omega)) cb_X9_back ml_L_195 im_X9_back se_X9_back hHT rfl rfl (rest := []) rfl (Nat.le_of_ble_eq_true rfl) ⟨Nat.le_of_ble_eq_true rfl, Nat.le_of_ble_eq_true rfl⟩ (by omega) (by omega) (fun r σ11539 hp => ?_)
  obtain ⟨G11541, gr11542, h11540, x11543, rfl⟩ := hp
  have ng11544 := hNg.gr gr11542
  have h11545 := h11540.1
  have h11546 := hHR.keepL (fun a ha _ => h11540.2 a (by rw [show kA _ a = 0 from ha]; decide))
  have h11547 := (h11540.2 (b + 1480) (by rw [show kA _ (b + 1480) = 0 from kA_o]; decide)).trans hout
  have br11549 := hBr.of (h11540.2 (b + 1457 + 1) (by rw [show kA _ (b + 1457 + 1) = 0 from kA_big (by omega)]; decide))
  have by11548 := hBy.keep (h11540.2 (b + 1) (by rw [show kA _ (b + 1) = 2 from kA_t]; decide))
  refine m_pop F rfl e_L_law_1711 ?_
  refine m_aload_n F rfl e_L_law_1712 ?_
  refine l_callM F e_L_law_1713 (q_X10_back (x_l X) V (b + 1457) T 1 u h P L0_ _ _  h11546 hok hP (by first | omega | assumption) (by first | omega | assumption) (by first | omega | assumption)) cb_X10_back ml_L_198 im_X10_back se_X10_back h11546 rfl rfl (rest := []) rfl (Nat.le_of_ble_eq_true rfl) ⟨Nat.le_of_ble_eq_true rfl, Nat.le_of_ble_eq_true rfl⟩ (by omega) (by omega) (fun r σ11550 hp => ?_)
  obtain ⟨u11552, hu11552, L11553, okL11553, h11551, x11554, rfl⟩ := hp
  have h11555 := h11551.1
  have h11556 := h11545.keepM (fun a ha => h11551.2 a (by rw [ha]; decide))
  have h11557 := (h11551.2 (b + 1480) (by rw [kC_0 (c := b + 1457) (by omega)]; decide)).trans h11547
  have by11558 := by11548.keep (h11551.2 (b + 1) (by rw [kC_0 (c := b + 1457) (by omega)]; decide))
  have br11559 := br11549.of (h11551.2 (b + 1457 + 1) (by rw [kC_at (k := 1) (by decide)]; decide))
  refine m_pop F rfl e_L_law_1716 ?_
  refine m_goto F e_L_law_1717 ?_
  exact hN _ M T _ _ _ (by omega) (by omega) (by omega) ⟨by omega, G11541, gr11542.1, h11556, ⟨_, h11557⟩, u11552, h, P, L11553, ⟨hu11552, hh, hP, hkk, hm0, hw0, okL11553⟩, h11555, ng11544, _, by11558, br11559⟩
set_option maxRecDepth 20000 in
theorem lc_41 {V : VX} {X : MX} {nm : String} {b sb N k z i L M T : Nat} {xs : Nat → Int32} {σ : Mem} (F : Fx V X (yLw nm) cL_law 7 ret room_1) (hX : va_X sb L xs (x_s X) V.2.2) (hb : sb < V.2.2.size) (hl : (x_l X).stackTraces = false) (hi : i + 6 ≤ L) (hL : L ≤ 3072) (hk : k ≤ 2100) (hz : z ≤ 80000) (hM : M ≤ 10000000) (hI : IV V b M T σ) (hN : ∀ (N' M' T' : Nat) (σ' : Mem) (k' z' : Nat), k' ≤ k + 1 → z' ≤ z + 6 → M' ≤ M + 10000 → IV V b M' T' σ' → Wm V X 7 N' σ' k' z' 1745 [(4, .int (nI i)), (3, .ref (b + 1480)), (2, .ref (b + 1457)), (1, .ref b), (0, .ref sb)] []) : Wm V X 7 N σ k z 1720 [(4, .int (nI i)), (3, .ref (b + 1480)), (2, .ref (b + 1457)), (1, .ref b), (0, .ref sb)] [] := by
  obtain ⟨hT, G, hG, hHT, ⟨z0, hout⟩, u, h, P, L0_, ⟨hu, hh, hP, hkk, hm0, hw0, hok⟩, hHR, hNg, t, hBy, hBr⟩ := hI
  refine m_aload_n F rfl e_L_law_1720 ?_
  refine m_aload_n F rfl e_L_law_1721 ?_
  refine m_iload F rfl e_L_law_1722 ?_
  refine m_iconst F (v := 1) (by decide) e_L_law_1724 ?_
  refine m_iadd F e_L_law_1725 ?_
  refine Wm.topE (w := nI (i + 1)) (nI_add i 1) ?_
  refine m_sld F (j := i + 1) e_L_law_1726 hX hb (nI_clamp (by omega)) (vp_in_nI (by omega) (by omega)) ?_
  refine l_callC F e_L_law_1727 (s_X9_count (x_l X) V G b M 1 T _ _ b (xs (i + 1)) hHT kA_b hG (by omega)) cb_X9_count ml_L_199 im_X9_count se_X9_count hHT rfl rfl (rest := []) rfl (Nat.le_of_ble_eq_true rfl) ⟨Nat.le_of_ble_eq_true rfl, Nat.le_of_ble_eq_true rfl⟩ (by omega) (by omega) (fun r σ11560 hp => ?_)
  obtain ⟨h11561, x11562, rfl⟩ := hp
  have h11563 := h11561.1
  have h11564 := hHR.keepL (fun a ha _ => h11561.2 a (by rw [show kA _ a = 0 from ha]; decide))
  have h11565 := (h11561.2 (b + 1480) (by rw [show kA _ (b + 1480) = 0 from kA_o]; decide)).trans hout
  have br11567 := hBr.of (h11561.2 (b + 1457 + 1) (by rw [show kA _ (b + 1457 + 1) = 0 from kA_big (by omega)]; decide))
  have by11566 := hBy.keep (h11561.2 (b + 1) (by rw [show kA _ (b + 1) = 2 from kA_t]; decide))
  refine m_pop F rfl e_L_law_1730 ?_
  refine m_aload_n F rfl e_L_law_1731 ?_
  refine m_aload_n F rfl e_L_law_1732 ?_
  refine m_iload F rfl e_L_law_1733 ?_
  refine m_iconst F (v := 1) (by decide) e_L_law_1735 ?_
  refine m_iadd F e_L_law_1736 ?_
  refine Wm.topE (w := nI (i + 1)) (nI_add i 1) ?_
  refine m_sld F (j := i + 1) e_L_law_1737 hX hb (nI_clamp (by omega)) (vp_in_nI (by omega) (by omega)) ?_
  refine l_callM F e_L_law_1738 (q_X10_count (x_l X) V (b + 1457) T 1 u h P L0_ _ _ (xs (i + 1)) h11564 hok.b hP ) cb_X10_count ml_L_202 im_X10_count se_X10_count h11564 rfl rfl (rest := []) rfl (Nat.le_of_ble_eq_true rfl) ⟨Nat.le_of_ble_eq_true rfl, Nat.le_of_ble_eq_true rfl⟩ (by omega) (by omega) (fun r σ11568 hp => ?_)
  obtain ⟨h11569, x11570, rfl⟩ := hp
  have h11571 := h11569.1
  have h11572 := h11563.keepM (fun a ha => h11569.2 a (by rw [ha]; decide))
  have h11573 := (h11569.2 (b + 1480) (by rw [kC_0 (c := b + 1457) (by omega)]; decide)).trans h11565
  have by11574 := by11566.keep (h11569.2 (b + 1) (by rw [kC_0 (c := b + 1457) (by omega)]; decide))
  have br11575 := br11567.of (h11569.2 (b + 1457 + 1) (by rw [kC_at (k := 1) (by decide)]; decide))
  refine m_pop F rfl e_L_law_1741 ?_
  refine m_goto F e_L_law_1742 ?_
  exact hN _ M T _ _ _ (by omega) (by omega) (by omega) ⟨by omega, G, hG, h11572, ⟨_, h11573⟩, u, h, P, L0_, ⟨hu, hh, hP, hkk, hm0, hw0, hok⟩, h11571, hNg, _, by11574, br11575⟩
