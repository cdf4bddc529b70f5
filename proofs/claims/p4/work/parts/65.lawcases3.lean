set_option maxRecDepth 20000 in
theorem lc_28 {V : VX} {X : MX} {nm : String} {b sb N k z i L M T : Nat} {xs : Nat → Int32} {σ : Mem} (F : Fx V X (yLw nm) cL_law 7 ret room_1) (hX : va_X sb L xs (x_s X) V.2.2) (hb : sb < V.2.2.size) (hl : (x_l X).stackTraces = false) (hi : i + 6 ≤ L) (hL : L ≤ 3072) (hk : k ≤ 2100) (hz : z ≤ 80000) (hM : M ≤ 10000000) (hI : IV V b M T σ) (hN : ∀ (N' M' T' : Nat) (σ' : Mem) (k' z' : Nat), k' ≤ k + 1 → z' ≤ z + 6 → M' ≤ M + 10000 → IV V b M' T' σ' → Wm V X 7 N' σ' k' z' 1745 [(4, .int (nI i)), (3, .ref (b + 1480)), (2, .ref (b + 1457)), (1, .ref b), (0, .ref sb)] []) : Wm V X 7 N σ k z 1239 [(4, .int (nI i)), (3, .ref (b + 1480)), (2, .ref (b + 1457)), (1, .ref b), (0, .ref sb)] [] := by
  obtain ⟨hT, hHT, ⟨z0, hout⟩, u, h, P, L0_, ⟨hu, hh, hP, hkk, hm0, hw0, hok⟩, hHR, hFt, t, hBy, hBr⟩ := hI
  refine m_aload_n F rfl e_L_law_1239 ?_
  refine m_aload_n F rfl e_L_law_1240 ?_
  refine m_iload F rfl e_L_law_1241 ?_
  refine m_iconst F (v := 1) (by decide) e_L_law_1243 ?_
  refine m_iadd F e_L_law_1244 ?_
  refine Wm.topE (w := nI (i + 1)) (nI_add i 1) ?_
  refine m_sld F (j := i + 1) e_L_law_1245 hX hb (nI_clamp (by omega)) (vp_in_nI (by omega) (by omega)) ?_
  refine m_aload_n F rfl e_L_law_1246 ?_
  refine m_iload F rfl e_L_law_1247 ?_
  refine m_iconst F (v := 2) (by decide) e_L_law_1249 ?_
  refine m_iadd F e_L_law_1250 ?_
  refine Wm.topE (w := nI (i + 2)) (nI_add i 2) ?_
  refine m_sld F (j := i + 2) e_L_law_1251 hX hb (nI_clamp (by omega)) (vp_in_nI (by omega) (by omega)) ?_
  refine m_i2l F e_L_law_1252 ?_
  refine Wm.topl (fun x11435 _ => ?_)
  refine m_bipush F (v := 32) (by decide) e_L_law_1253 ?_
  refine m_lshl F e_L_law_1255 ?_
  refine Wm.topl (fun x11436 _ => ?_)
  refine m_aload_n F rfl e_L_law_1256 ?_
  refine m_iload F rfl e_L_law_1257 ?_
  refine m_iconst F (v := 3) (by decide) e_L_law_1259 ?_
  refine m_iadd F e_L_law_1260 ?_
  refine Wm.topE (w := nI (i + 3)) (nI_add i 3) ?_
  refine m_sld F (j := i + 3) e_L_law_1261 hX hb (nI_clamp (by omega)) (vp_in_nI (by omega) (by omega)) ?_
  refine m_i2l F e_L_law_1262 ?_
  refine Wm.topl (fun x11437 _ => ?_)
  refine m_ldc2 F kc_L_96 e_L_law_1263 ?_
  refine m_land F e_L_law_1266 ?_
  refine Wm.topl (fun x11438 _ => ?_)
  refine m_lor F e_L_law_1267 ?_
  refine Wm.topl (fun x11439 _ => ?_)
  refine l_callC F e_L_law_1268 (s_X9_partFor (x_l X) V b M 1 T _ _ b (xs (i + 1)) x11439 hHT kA_b  (by omega)) cb_X9_partFor ml_L_144 im_X9_partFor se_X9_partFor hHT rfl rfl (rest := []) rfl (Nat.le_of_ble_eq_true rfl) ⟨Nat.le_of_ble_eq_true rfl, Nat.le_of_ble_eq_true rfl⟩ (by omega) (by omega) (fun r σ11440 hp => ?_)
  obtain ⟨h11441, x11442, rfl⟩ := hp
  have h11443 := h11441.1
  have h11444 := hHR.keepL (fun a ha _ => h11441.2 a (by rw [show kA _ a = 0 from ha]; decide))
  have h11445 := (h11441.2 (b + 1480) (by rw [show kA _ (b + 1480) = 0 from kA_o]; decide)).trans hout
  have br11447 := hBr.of (h11441.2 (b + 1457 + 1) (by rw [show kA _ (b + 1457 + 1) = 0 from kA_big (by omega)]; decide))
  have ft11448 := hFt.of (h11441.2 (b + 128) (by rw [show kA _ (b + 128) = 3 from kA_r]; decide))
  have by11446 := hBy.keep (h11441.2 (b + 1) (by rw [show kA _ (b + 1) = 2 from kA_t]; decide))
  refine m_pop F rfl e_L_law_1271 ?_
  refine m_aload_n F rfl e_L_law_1272 ?_
  refine m_aload_n F rfl e_L_law_1273 ?_
  refine m_iload F rfl e_L_law_1274 ?_
  refine m_iconst F (v := 1) (by decide) e_L_law_1276 ?_
  refine m_iadd F e_L_law_1277 ?_
  refine Wm.topE (w := nI (i + 1)) (nI_add i 1) ?_
  refine m_sld F (j := i + 1) e_L_law_1278 hX hb (nI_clamp (by omega)) (vp_in_nI (by omega) (by omega)) ?_
  refine m_aload_n F rfl e_L_law_1279 ?_
  refine m_iload F rfl e_L_law_1280 ?_
  refine m_iconst F (v := 2) (by decide) e_L_law_1282 ?_
  refine m_iadd F e_L_law_1283 ?_
  refine Wm.topE (w := nI (i + 2)) (nI_add i 2) ?_
  refine m_sld F (j := i + 2) e_L_law_1284 hX hb (nI_clamp (by omega)) (vp_in_nI (by omega) (by omega)) ?_
  refine m_i2l F e_L_law_1285 ?_
  refine Wm.topl (fun x11449 _ => ?_)
  refine m_bipush F (v := 32) (by decide) e_L_law_1286 ?_
  refine m_lshl F e_L_law_1288 ?_
  refine Wm.topl (fun x11450 _ => ?_)
  refine m_aload_n F rfl e_L_law_1289 ?_
  refine m_iload F rfl e_L_law_1290 ?_
  refine m_iconst F (v := 3) (by decide) e_L_law_1292 ?_
  refine m_iadd F e_L_law_1293 ?_
  refine Wm.topE (w := nI (i + 3)) (nI_add i 3) ?_
  refine m_sld F (j := i + 3) e_L_law_1294 hX hb (nI_clamp (by omega)) (vp_in_nI (by omega) (by omega)) ?_
  refine m_i2l F e_L_law_1295 ?_
  refine Wm.topl (fun x11451 _ => ?_)
  refine m_ldc2 F kc_L_96 e_L_law_1296 ?_
  refine m_land F e_L_law_1299 ?_
  refine Wm.topl (fun x11452 _ => ?_)
  refine m_lor F e_L_law_1300 ?_
  refine Wm.topl (fun x11453 _ => ?_)
  refine l_callM F e_L_law_1301 (q_X10_partFor (x_l X) V (b + 1457) T 1 u h P L0_ _ _ (xs (i + 1)) x11453 h11444 hok.b hP ) cb_X10_partFor ml_L_148 im_X10_partFor se_X10_partFor h11444 rfl rfl (rest := []) rfl (Nat.le_of_ble_eq_true rfl) ⟨Nat.le_of_ble_eq_true rfl, Nat.le_of_ble_eq_true rfl⟩ (by omega) (by omega) (fun r σ11454 hp => ?_)
  obtain ⟨h11455, x11456, rfl⟩ := hp
  have ft11457 := ft11448.of (h11455.2 (b + 128) (by rw [kC_0 (c := b + 1457) (by omega)]; decide))
  have h11458 := h11455.1
  have h11459 := h11443.keepM (fun a ha => h11455.2 a (by rw [ha]; decide))
  have h11460 := (h11455.2 (b + 1480) (by rw [kC_0 (c := b + 1457) (by omega)]; decide)).trans h11445
  have by11461 := by11446.keep (h11455.2 (b + 1) (by rw [kC_0 (c := b + 1457) (by omega)]; decide))
  have br11462 := br11447.of (h11455.2 (b + 1457 + 1) (by rw [kC_at (k := 1) (by decide)]; decide))
  refine m_pop F rfl e_L_law_1304 ?_
  refine m_goto F e_L_law_1305 ?_
  exact hN _ M T _ _ _ (by omega) (by omega) (by omega) ⟨by omega, h11459, ⟨_, h11460⟩, u, h, P, L0_, ⟨hu, hh, hP, hkk, hm0, hw0, hok⟩, h11458, ft11457, _, by11461, br11462⟩
set_option maxRecDepth 20000 in
theorem lc_29 {V : VX} {X : MX} {nm : String} {b sb N k z i L M T : Nat} {xs : Nat → Int32} {σ : Mem} (F : Fx V X (yLw nm) cL_law 7 ret room_1) (hX : va_X sb L xs (x_s X) V.2.2) (hb : sb < V.2.2.size) (hl : (x_l X).stackTraces = false) (hi : i + 6 ≤ L) (hL : L ≤ 3072) (hk : k ≤ 2100) (hz : z ≤ 80000) (hM : M ≤ 10000000) (hI : IV V b M T σ) (hN : ∀ (N' M' T' : Nat) (σ' : Mem) (k' z' : Nat), k' ≤ k + 1 → z' ≤ z + 6 → M' ≤ M + 10000 → IV V b M' T' σ' → Wm V X 7 N' σ' k' z' 1745 [(4, .int (nI i)), (3, .ref (b + 1480)), (2, .ref (b + 1457)), (1, .ref b), (0, .ref sb)] []) : Wm V X 7 N σ k z 1308 [(4, .int (nI i)), (3, .ref (b + 1480)), (2, .ref (b + 1457)), (1, .ref b), (0, .ref sb)] [] := by
  obtain ⟨hT, hHT, ⟨z0, hout⟩, u, h, P, L0_, ⟨hu, hh, hP, hkk, hm0, hw0, hok⟩, hHR, hFt, t, hBy, hBr⟩ := hI
  refine m_aload_n F rfl e_L_law_1308 ?_
  refine m_aload_n F rfl e_L_law_1309 ?_
  refine m_iload F rfl e_L_law_1310 ?_
  refine m_iconst F (v := 1) (by decide) e_L_law_1312 ?_
  refine m_iadd F e_L_law_1313 ?_
  refine Wm.topE (w := nI (i + 1)) (nI_add i 1) ?_
  refine m_sld F (j := i + 1) e_L_law_1314 hX hb (nI_clamp (by omega)) (vp_in_nI (by omega) (by omega)) ?_
  refine m_aload_n F rfl e_L_law_1315 ?_
  refine m_iload F rfl e_L_law_1316 ?_
  refine m_iconst F (v := 2) (by decide) e_L_law_1318 ?_
  refine m_iadd F e_L_law_1319 ?_
  refine Wm.topE (w := nI (i + 2)) (nI_add i 2) ?_
  refine m_sld F (j := i + 2) e_L_law_1320 hX hb (nI_clamp (by omega)) (vp_in_nI (by omega) (by omega)) ?_
  refine l_callC F e_L_law_1321 (s_X9_latest (x_l X) V b M 1 T _ _ b (xs (i + 1)) (xs (i + 2)) hHT kA_b  (by omega)) cb_X9_latest ml_L_149 im_X9_latest se_X9_latest hHT rfl rfl (rest := []) rfl (Nat.le_of_ble_eq_true rfl) ⟨Nat.le_of_ble_eq_true rfl, Nat.le_of_ble_eq_true rfl⟩ (by omega) (by omega) (fun r σ11463 hp => ?_)
  obtain ⟨h11464, x11465, rfl⟩ := hp
  have h11466 := h11464.1
  have h11467 := hHR.keepL (fun a ha _ => h11464.2 a (by rw [show kA _ a = 0 from ha]; decide))
  have h11468 := (h11464.2 (b + 1480) (by rw [show kA _ (b + 1480) = 0 from kA_o]; decide)).trans hout
  have br11470 := hBr.of (h11464.2 (b + 1457 + 1) (by rw [show kA _ (b + 1457 + 1) = 0 from kA_big (by omega)]; decide))
  have ft11471 := hFt.of (h11464.2 (b + 128) (by rw [show kA _ (b + 128) = 3 from kA_r]; decide))
  have by11469 := hBy.keep (h11464.2 (b + 1) (by rw [show kA _ (b + 1) = 2 from kA_t]; decide))
  refine m_pop F rfl e_L_law_1324 ?_
  refine m_aload_n F rfl e_L_law_1325 ?_
  refine m_aload_n F rfl e_L_law_1326 ?_
  refine m_iload F rfl e_L_law_1327 ?_
  refine m_iconst F (v := 1) (by decide) e_L_law_1329 ?_
  refine m_iadd F e_L_law_1330 ?_
  refine Wm.topE (w := nI (i + 1)) (nI_add i 1) ?_
  refine m_sld F (j := i + 1) e_L_law_1331 hX hb (nI_clamp (by omega)) (vp_in_nI (by omega) (by omega)) ?_
  refine m_aload_n F rfl e_L_law_1332 ?_
  refine m_iload F rfl e_L_law_1333 ?_
  refine m_iconst F (v := 2) (by decide) e_L_law_1335 ?_
  refine m_iadd F e_L_law_1336 ?_
  refine Wm.topE (w := nI (i + 2)) (nI_add i 2) ?_
  refine m_sld F (j := i + 2) e_L_law_1337 hX hb (nI_clamp (by omega)) (vp_in_nI (by omega) (by omega)) ?_
  refine l_callM F e_L_law_1338 (q_X10_latest (x_l X) V (b + 1457) T 1 u h P L0_ _ _ (xs (i + 1)) (xs (i + 2)) h11467 hok.b hP ) cb_X10_latest ml_L_152 im_X10_latest se_X10_latest h11467 rfl rfl (rest := []) rfl (Nat.le_of_ble_eq_true rfl) ⟨Nat.le_of_ble_eq_true rfl, Nat.le_of_ble_eq_true rfl⟩ (by omega) (by omega) (fun r σ11472 hp => ?_)
  obtain ⟨h11473, x11474, rfl⟩ := hp
  have ft11475 := ft11471.of (h11473.2 (b + 128) (by rw [kC_0 (c := b + 1457) (by omega)]; decide))
  have h11476 := h11473.1
  have h11477 := h11466.keepM (fun a ha => h11473.2 a (by rw [ha]; decide))
  have h11478 := (h11473.2 (b + 1480) (by rw [kC_0 (c := b + 1457) (by omega)]; decide)).trans h11468
  have by11479 := by11469.keep (h11473.2 (b + 1) (by rw [kC_0 (c := b + 1457) (by omega)]; decide))
  have br11480 := br11470.of (h11473.2 (b + 1457 + 1) (by rw [kC_at (k := 1) (by decide)]; decide))
  refine m_pop F rfl e_L_law_1341 ?_
  refine m_goto F e_L_law_1342 ?_
  exact hN _ M T _ _ _ (by omega) (by omega) (by omega) ⟨by omega, h11477, ⟨_, h11478⟩, u, h, P, L0_, ⟨hu, hh, hP, hkk, hm0, hw0, hok⟩, h11476, ft11475, _, by11479, br11480⟩
set_option maxRecDepth 20000 in
theorem lc_30 {V : VX} {X : MX} {nm : String} {b sb N k z i L M T : Nat} {xs : Nat → Int32} {σ : Mem} (F : Fx V X (yLw nm) cL_law 7 ret room_1) (hX : va_X sb L xs (x_s X) V.2.2) (hb : sb < V.2.2.size) (hl : (x_l X).stackTraces = false) (hi : i + 6 ≤ L) (hL : L ≤ 3072) (hk : k ≤ 2100) (hz : z ≤ 80000) (hM : M ≤ 10000000) (hI : IV V b M T σ) (hN : ∀ (N' M' T' : Nat) (σ' : Mem) (k' z' : Nat), k' ≤ k + 1 → z' ≤ z + 6 → M' ≤ M + 10000 → IV V b M' T' σ' → Wm V X 7 N' σ' k' z' 1745 [(4, .int (nI i)), (3, .ref (b + 1480)), (2, .ref (b + 1457)), (1, .ref b), (0, .ref sb)] []) : Wm V X 7 N σ k z 1345 [(4, .int (nI i)), (3, .ref (b + 1480)), (2, .ref (b + 1457)), (1, .ref b), (0, .ref sb)] [] := by
  obtain ⟨hT, hHT, ⟨z0, hout⟩, u, h, P, L0_, ⟨hu, hh, hP, hkk, hm0, hw0, hok⟩, hHR, hFt, t, hBy, hBr⟩ := hI
  refine m_aload_n F rfl e_L_law_1345 ?_
  refine m_aload_n F rfl e_L_law_1346 ?_
  refine m_iload F rfl e_L_law_1347 ?_
  refine m_iconst F (v := 1) (by decide) e_L_law_1349 ?_
  refine m_iadd F e_L_law_1350 ?_
  refine Wm.topE (w := nI (i + 1)) (nI_add i 1) ?_
  refine m_sld F (j := i + 1) e_L_law_1351 hX hb (nI_clamp (by omega)) (vp_in_nI (by omega) (by omega)) ?_
  refine l_callC F e_L_law_1352 (s_X9_half (x_l X) V b M 1 T _ _ b (xs (i + 1)) hHT kA_b  (by omega)) cb_X9_half ml_L_153 im_X9_half se_X9_half hHT rfl rfl (rest := []) rfl (Nat.le_of_ble_eq_true rfl) ⟨Nat.le_of_ble_eq_true rfl, Nat.le_of_ble_eq_true rfl⟩ (by omega) (by omega) (fun r σ11481 hp => ?_)
  obtain ⟨h11482, x11483, rfl⟩ := hp
  have h11484 := h11482.1
  have h11485 := hHR.keepL (fun a ha _ => h11482.2 a (by rw [show kA _ a = 0 from ha]; decide))
  have h11486 := (h11482.2 (b + 1480) (by rw [show kA _ (b + 1480) = 0 from kA_o]; decide)).trans hout
  have br11488 := hBr.of (h11482.2 (b + 1457 + 1) (by rw [show kA _ (b + 1457 + 1) = 0 from kA_big (by omega)]; decide))
  have ft11489 := hFt.of (h11482.2 (b + 128) (by rw [show kA _ (b + 128) = 3 from kA_r]; decide))
  have by11487 := hBy.keep (h11482.2 (b + 1) (by rw [show kA _ (b + 1) = 2 from kA_t]; decide))
  refine m_pop F rfl e_L_law_1355 ?_
  refine m_aload_n F rfl e_L_law_1356 ?_
  refine m_aload_n F rfl e_L_law_1357 ?_
  refine m_iload F rfl e_L_law_1358 ?_
  refine m_iconst F (v := 1) (by decide) e_L_law_1360 ?_
  refine m_iadd F e_L_law_1361 ?_
  refine Wm.topE (w := nI (i + 1)) (nI_add i 1) ?_
  refine m_sld F (j := i + 1) e_L_law_1362 hX hb (nI_clamp (by omega)) (vp_in_nI (by omega) (by omega)) ?_
  refine l_callM F e_L_law_1363 (q_X10_half (x_l X) V (b + 1457) T 1 u h P L0_ _ _ (xs (i + 1)) h11485 hok hP ) cb_X10_half ml_L_156 im_X10_half se_X10_half h11485 rfl rfl (rest := []) rfl (Nat.le_of_ble_eq_true rfl) ⟨Nat.le_of_ble_eq_true rfl, Nat.le_of_ble_eq_true rfl⟩ (by omega) (by omega) (fun r σ11490 hp => ?_)
  obtain ⟨h11491, x11492, rfl⟩ := hp
  have ft11493 := ft11489.of (h11491.2 (b + 128) (by rw [kC_0 (c := b + 1457) (by omega)]; decide))
  have h11494 := h11491.1
  have h11495 := h11484.keepM (fun a ha => h11491.2 a (by rw [ha]; decide))
  have h11496 := (h11491.2 (b + 1480) (by rw [kC_0 (c := b + 1457) (by omega)]; decide)).trans h11486
  have by11497 := by11487.keep (h11491.2 (b + 1) (by rw [kC_0 (c := b + 1457) (by omega)]; decide))
  have br11498 := br11488.of (h11491.2 (b + 1457 + 1) (by rw [kC_at (k := 1) (by decide)]; decide))
  refine m_pop F rfl e_L_law_1366 ?_
  refine m_goto F e_L_law_1367 ?_
  exact hN _ (M + 1400) T _ _ _ (by omega) (by omega) (by omega) ⟨by omega, h11495, ⟨_, h11496⟩, u, h, P, L0_, ⟨hu, hh, hP, hkk, hm0, hw0, hok⟩, h11494, ft11493, _, by11497, br11498⟩
set_option maxRecDepth 20000 in
theorem lc_31 {V : VX} {X : MX} {nm : String} {b sb N k z i L M T : Nat} {xs : Nat → Int32} {σ : Mem} (F : Fx V X (yLw nm) cL_law 7 ret room_1) (hX : va_X sb L xs (x_s X) V.2.2) (hb : sb < V.2.2.size) (hl : (x_l X).stackTraces = false) (hi : i + 6 ≤ L) (hL : L ≤ 3072) (hk : k ≤ 2100) (hz : z ≤ 80000) (hM : M ≤ 10000000) (hI : IV V b M T σ) (hN : ∀ (N' M' T' : Nat) (σ' : Mem) (k' z' : Nat), k' ≤ k + 1 → z' ≤ z + 6 → M' ≤ M + 10000 → IV V b M' T' σ' → Wm V X 7 N' σ' k' z' 1745 [(4, .int (nI i)), (3, .ref (b + 1480)), (2, .ref (b + 1457)), (1, .ref b), (0, .ref sb)] []) : Wm V X 7 N σ k z 1370 [(4, .int (nI i)), (3, .ref (b + 1480)), (2, .ref (b + 1457)), (1, .ref b), (0, .ref sb)] [] := by
  obtain ⟨hT, hHT, ⟨z0, hout⟩, u, h, P, L0_, ⟨hu, hh, hP, hkk, hm0, hw0, hok⟩, hHR, hFt, t, hBy, hBr⟩ := hI
  refine m_aload_n F rfl e_L_law_1370 ?_
  refine m_aload_n F rfl e_L_law_1371 ?_
  refine m_iload F rfl e_L_law_1372 ?_
  refine m_iconst F (v := 1) (by decide) e_L_law_1374 ?_
  refine m_iadd F e_L_law_1375 ?_
  refine Wm.topE (w := nI (i + 1)) (nI_add i 1) ?_
  refine m_sld F (j := i + 1) e_L_law_1376 hX hb (nI_clamp (by omega)) (vp_in_nI (by omega) (by omega)) ?_
  refine m_aload_n F rfl e_L_law_1377 ?_
  refine m_iload F rfl e_L_law_1378 ?_
  refine m_iconst F (v := 2) (by decide) e_L_law_1380 ?_
  refine m_iadd F e_L_law_1381 ?_
  refine Wm.topE (w := nI (i + 2)) (nI_add i 2) ?_
  refine m_sld F (j := i + 2) e_L_law_1382 hX hb (nI_clamp (by omega)) (vp_in_nI (by omega) (by omega)) ?_
  refine l_callC F e_L_law_1383 (s_X9_cash (x_l X) V b M 1 T _ _ b (xs (i + 1)) (xs (i + 2)) hHT kA_b  (by omega)) cb_X9_cash ml_L_157 im_X9_cash se_X9_cash hHT rfl rfl (rest := []) rfl (Nat.le_of_ble_eq_true rfl) ⟨Nat.le_of_ble_eq_true rfl, Nat.le_of_ble_eq_true rfl⟩ (by omega) (by omega) (fun r σ11499 hp => ?_)
  obtain ⟨h11500, x11501, rfl⟩ := hp
  have h11502 := h11500.1
  have h11503 := hHR.keepL (fun a ha _ => h11500.2 a (by rw [show kA _ a = 0 from ha]; decide))
  have h11504 := (h11500.2 (b + 1480) (by rw [show kA _ (b + 1480) = 0 from kA_o]; decide)).trans hout
  have br11506 := hBr.of (h11500.2 (b + 1457 + 1) (by rw [show kA _ (b + 1457 + 1) = 0 from kA_big (by omega)]; decide))
  have ft11507 := hFt.of (h11500.2 (b + 128) (by rw [show kA _ (b + 128) = 3 from kA_r]; decide))
  have by11505 := hBy.keep (h11500.2 (b + 1) (by rw [show kA _ (b + 1) = 2 from kA_t]; decide))
  refine m_pop2_2 F rfl e_L_law_1386 ?_
  refine m_aload_n F rfl e_L_law_1387 ?_
  refine m_aload_n F rfl e_L_law_1388 ?_
  refine m_iload F rfl e_L_law_1389 ?_
  refine m_iconst F (v := 1) (by decide) e_L_law_1391 ?_
  refine m_iadd F e_L_law_1392 ?_
  refine Wm.topE (w := nI (i + 1)) (nI_add i 1) ?_
  refine m_sld F (j := i + 1) e_L_law_1393 hX hb (nI_clamp (by omega)) (vp_in_nI (by omega) (by omega)) ?_
  refine m_aload_n F rfl e_L_law_1394 ?_
  refine m_iload F rfl e_L_law_1395 ?_
  refine m_iconst F (v := 2) (by decide) e_L_law_1397 ?_
  refine m_iadd F e_L_law_1398 ?_
  refine Wm.topE (w := nI (i + 2)) (nI_add i 2) ?_
  refine m_sld F (j := i + 2) e_L_law_1399 hX hb (nI_clamp (by omega)) (vp_in_nI (by omega) (by omega)) ?_
  refine l_callM F e_L_law_1400 (q_X10_cash (x_l X) V (b + 1457) T 1 u h P L0_ _ _ (xs (i + 1)) (xs (i + 2)) h11503 hok hP ) cb_X10_cash ml_L_160 im_X10_cash se_X10_cash h11503 rfl rfl (rest := []) rfl (Nat.le_of_ble_eq_true rfl) ⟨Nat.le_of_ble_eq_true rfl, Nat.le_of_ble_eq_true rfl⟩ (by omega) (by omega) (fun r σ11508 hp => ?_)
  obtain ⟨h11509, x11510, rfl⟩ := hp
  have ft11511 := ft11507.of (h11509.2 (b + 128) (by rw [kC_0 (c := b + 1457) (by omega)]; decide))
  have h11512 := h11509.1
  have h11513 := h11502.keepM (fun a ha => h11509.2 a (by rw [ha]; decide))
  have h11514 := (h11509.2 (b + 1480) (by rw [kC_0 (c := b + 1457) (by omega)]; decide)).trans h11504
  have by11515 := by11505.keep (h11509.2 (b + 1) (by rw [kC_0 (c := b + 1457) (by omega)]; decide))
  have br11516 := br11506.of (h11509.2 (b + 1457 + 1) (by rw [kC_at (k := 1) (by decide)]; decide))
  refine m_pop2_2 F rfl e_L_law_1403 ?_
  refine m_goto F e_L_law_1404 ?_
  exact hN _ (M + 1400) T _ _ _ (by omega) (by omega) (by omega) ⟨by omega, h11513, ⟨_, h11514⟩, u, h, P, L0_, ⟨hu, hh, hP, hkk, hm0, hw0, hok⟩, h11512, ft11511, _, by11515, br11516⟩
set_option maxRecDepth 20000 in
theorem lc_32 {V : VX} {X : MX} {nm : String} {b sb N k z i L M T : Nat} {xs : Nat → Int32} {σ : Mem} (F : Fx V X (yLw nm) cL_law 7 ret room_1) (hX : va_X sb L xs (x_s X) V.2.2) (hb : sb < V.2.2.size) (hl : (x_l X).stackTraces = false) (hi : i + 6 ≤ L) (hL : L ≤ 3072) (hk : k ≤ 2100) (hz : z ≤ 80000) (hM : M ≤ 10000000) (hI : IV V b M T σ) (hN : ∀ (N' M' T' : Nat) (σ' : Mem) (k' z' : Nat), k' ≤ k + 1 → z' ≤ z + 6 → M' ≤ M + 10000 → IV V b M' T' σ' → Wm V X 7 N' σ' k' z' 1745 [(4, .int (nI i)), (3, .ref (b + 1480)), (2, .ref (b + 1457)), (1, .ref b), (0, .ref sb)] []) : Wm V X 7 N σ k z 1407 [(4, .int (nI i)), (3, .ref (b + 1480)), (2, .ref (b + 1457)), (1, .ref b), (0, .ref sb)] [] := by
  obtain ⟨hT, hHT, ⟨z0, hout⟩, u, h, P, L0_, ⟨hu, hh, hP, hkk, hm0, hw0, hok⟩, hHR, hFt, t, hBy, hBr⟩ := hI
  refine m_aload_n F rfl e_L_law_1407 ?_
  refine m_aload_n F rfl e_L_law_1408 ?_
  refine m_iload F rfl e_L_law_1409 ?_
  refine m_iconst F (v := 1) (by decide) e_L_law_1411 ?_
  refine m_iadd F e_L_law_1412 ?_
  refine Wm.topE (w := nI (i + 1)) (nI_add i 1) ?_
  refine m_sld F (j := i + 1) e_L_law_1413 hX hb (nI_clamp (by omega)) (vp_in_nI (by omega) (by omega)) ?_
  refine m_aload_n F rfl e_L_law_1414 ?_
  refine m_iload F rfl e_L_law_1415 ?_
  refine m_iconst F (v := 2) (by decide) e_L_law_1417 ?_
  refine m_iadd F e_L_law_1418 ?_
  refine Wm.topE (w := nI (i + 2)) (nI_add i 2) ?_
  refine m_sld F (j := i + 2) e_L_law_1419 hX hb (nI_clamp (by omega)) (vp_in_nI (by omega) (by omega)) ?_
  refine l_callC F e_L_law_1420 (s_X9_ifIndex (x_l X) V b M 1 T _ _ b (xs (i + 1)) (xs (i + 2)) hHT kA_b  (by omega)) cb_X9_ifIndex ml_L_161 im_X9_ifIndex se_X9_ifIndex hHT rfl rfl (rest := []) rfl (Nat.le_of_ble_eq_true rfl) ⟨Nat.le_of_ble_eq_true rfl, Nat.le_of_ble_eq_true rfl⟩ (by omega) (by omega) (fun r σ11517 hp => ?_)
  obtain ⟨h11518, x11519, rfl⟩ := hp
  have h11520 := h11518.1
  have h11521 := hHR.keepL (fun a ha _ => h11518.2 a (by rw [show kA _ a = 0 from ha]; decide))
  have h11522 := (h11518.2 (b + 1480) (by rw [show kA _ (b + 1480) = 0 from kA_o]; decide)).trans hout
  have br11524 := hBr.of (h11518.2 (b + 1457 + 1) (by rw [show kA _ (b + 1457 + 1) = 0 from kA_big (by omega)]; decide))
  have ft11525 := hFt.of (h11518.2 (b + 128) (by rw [show kA _ (b + 128) = 3 from kA_r]; decide))
  have by11523 := hBy.keep (h11518.2 (b + 1) (by rw [show kA _ (b + 1) = 2 from kA_t]; decide))
  refine m_pop2_2 F rfl e_L_law_1423 ?_
  refine m_aload_n F rfl e_L_law_1424 ?_
  refine m_aload_n F rfl e_L_law_1425 ?_
  refine m_iload F rfl e_L_law_1426 ?_
  refine m_iconst F (v := 1) (by decide) e_L_law_1428 ?_
  refine m_iadd F e_L_law_1429 ?_
  refine Wm.topE (w := nI (i + 1)) (nI_add i 1) ?_
  refine m_sld F (j := i + 1) e_L_law_1430 hX hb (nI_clamp (by omega)) (vp_in_nI (by omega) (by omega)) ?_
  refine m_aload_n F rfl e_L_law_1431 ?_
  refine m_iload F rfl e_L_law_1432 ?_
  refine m_iconst F (v := 2) (by decide) e_L_law_1434 ?_
  refine m_iadd F e_L_law_1435 ?_
  refine Wm.topE (w := nI (i + 2)) (nI_add i 2) ?_
  refine m_sld F (j := i + 2) e_L_law_1436 hX hb (nI_clamp (by omega)) (vp_in_nI (by omega) (by omega)) ?_
  refine l_callM F e_L_law_1437 (q_X10_ifIndex (x_l X) V (b + 1457) T 1 u h P L0_ _ _ (xs (i + 1)) (xs (i + 2)) h11521 hok hP ) cb_X10_ifIndex ml_L_164 im_X10_ifIndex se_X10_ifIndex h11521 rfl rfl (rest := []) rfl (Nat.le_of_ble_eq_true rfl) ⟨Nat.le_of_ble_eq_true rfl, Nat.le_of_ble_eq_true rfl⟩ (by omega) (by omega) (fun r σ11526 hp => ?_)
  obtain ⟨h11527, x11528, rfl⟩ := hp
  have ft11529 := ft11525.of (h11527.2 (b + 128) (by rw [kC_0 (c := b + 1457) (by omega)]; decide))
  have h11530 := h11527.1
  have h11531 := h11520.keepM (fun a ha => h11527.2 a (by rw [ha]; decide))
  have h11532 := (h11527.2 (b + 1480) (by rw [kC_0 (c := b + 1457) (by omega)]; decide)).trans h11522
  have by11533 := by11523.keep (h11527.2 (b + 1) (by rw [kC_0 (c := b + 1457) (by omega)]; decide))
  have br11534 := br11524.of (h11527.2 (b + 1457 + 1) (by rw [kC_at (k := 1) (by decide)]; decide))
  refine m_pop2_2 F rfl e_L_law_1440 ?_
  refine m_goto F e_L_law_1441 ?_
  exact hN _ M T _ _ _ (by omega) (by omega) (by omega) ⟨by omega, h11531, ⟨_, h11532⟩, u, h, P, L0_, ⟨hu, hh, hP, hkk, hm0, hw0, hok⟩, h11530, ft11529, _, by11533, br11534⟩
set_option maxRecDepth 20000 in
theorem lc_33 {V : VX} {X : MX} {nm : String} {b sb N k z i L M T : Nat} {xs : Nat → Int32} {σ : Mem} (F : Fx V X (yLw nm) cL_law 7 ret room_1) (hX : va_X sb L xs (x_s X) V.2.2) (hb : sb < V.2.2.size) (hl : (x_l X).stackTraces = false) (hi : i + 6 ≤ L) (hL : L ≤ 3072) (hk : k ≤ 2100) (hz : z ≤ 80000) (hM : M ≤ 10000000) (hI : IV V b M T σ) (hN : ∀ (N' M' T' : Nat) (σ' : Mem) (k' z' : Nat), k' ≤ k + 1 → z' ≤ z + 6 → M' ≤ M + 10000 → IV V b M' T' σ' → Wm V X 7 N' σ' k' z' 1745 [(4, .int (nI i)), (3, .ref (b + 1480)), (2, .ref (b + 1457)), (1, .ref b), (0, .ref sb)] []) : Wm V X 7 N σ k z 1444 [(4, .int (nI i)), (3, .ref (b + 1480)), (2, .ref (b + 1457)), (1, .ref b), (0, .ref sb)] [] := by
  obtain ⟨hT, hHT, ⟨z0, hout⟩, u, h, P, L0_, ⟨hu, hh, hP, hkk, hm0, hw0, hok⟩, hHR, hFt, t, hBy, hBr⟩ := hI
  refine m_aload_n F rfl e_L_law_1444 ?_
  refine m_aload_n F rfl e_L_law_1445 ?_
  refine m_iload F rfl e_L_law_1446 ?_
  refine m_iconst F (v := 1) (by decide) e_L_law_1448 ?_
  refine m_iadd F e_L_law_1449 ?_
  refine Wm.topE (w := nI (i + 1)) (nI_add i 1) ?_
  refine m_sld F (j := i + 1) e_L_law_1450 hX hb (nI_clamp (by omega)) (vp_in_nI (by omega) (by omega)) ?_
  refine l_callC F e_L_law_1451 (s_X9_ifTaken (x_l X) V b M 1 T _ _ b (xs (i + 1)) hHT kA_b  (by omega)) cb_X9_ifTaken ml_L_165 im_X9_ifTaken se_X9_ifTaken hHT rfl rfl (rest := []) rfl (Nat.le_of_ble_eq_true rfl) ⟨Nat.le_of_ble_eq_true rfl, Nat.le_of_ble_eq_true rfl⟩ (by omega) (by omega) (fun r σ11535 hp => ?_)
  obtain ⟨h11536, x11537, rfl⟩ := hp
  have h11538 := h11536.1
  have h11539 := hHR.keepL (fun a ha _ => h11536.2 a (by rw [show kA _ a = 0 from ha]; decide))
  have h11540 := (h11536.2 (b + 1480) (by rw [show kA _ (b + 1480) = 0 from kA_o]; decide)).trans hout
  have br11542 := hBr.of (h11536.2 (b + 1457 + 1) (by rw [show kA _ (b + 1457 + 1) = 0 from kA_big (by omega)]; decide))
  have ft11543 := hFt.of (h11536.2 (b + 128) (by rw [show kA _ (b + 128) = 3 from kA_r]; decide))
  have by11541 := hBy.keep (h11536.2 (b + 1) (by rw [show kA _ (b + 1) = 2 from kA_t]; decide))
  refine m_pop2_2 F rfl e_L_law_1454 ?_
  refine m_aload_n F rfl e_L_law_1455 ?_
  refine m_aload_n F rfl e_L_law_1456 ?_
  refine m_iload F rfl e_L_law_1457 ?_
  refine m_iconst F (v := 1) (by decide) e_L_law_1459 ?_
  refine m_iadd F e_L_law_1460 ?_
  refine Wm.topE (w := nI (i + 1)) (nI_add i 1) ?_
  refine m_sld F (j := i + 1) e_L_law_1461 hX hb (nI_clamp (by omega)) (vp_in_nI (by omega) (by omega)) ?_
  refine l_callM F e_L_law_1462 (q_X10_ifTaken (x_l X) V (b + 1457) T 1 u h P L0_ _ _ (xs (i + 1)) h11539 hok hP ) cb_X10_ifTaken ml_L_168 im_X10_ifTaken se_X10_ifTaken h11539 rfl rfl (rest := []) rfl (Nat.le_of_ble_eq_true rfl) ⟨Nat.le_of_ble_eq_true rfl, Nat.le_of_ble_eq_true rfl⟩ (by omega) (by omega) (fun r σ11544 hp => ?_)
  obtain ⟨h11545, x11546, rfl⟩ := hp
  have ft11547 := ft11543.of (h11545.2 (b + 128) (by rw [kC_0 (c := b + 1457) (by omega)]; decide))
  have h11548 := h11545.1
  have h11549 := h11538.keepM (fun a ha => h11545.2 a (by rw [ha]; decide))
  have h11550 := (h11545.2 (b + 1480) (by rw [kC_0 (c := b + 1457) (by omega)]; decide)).trans h11540
  have by11551 := by11541.keep (h11545.2 (b + 1) (by rw [kC_0 (c := b + 1457) (by omega)]; decide))
  have br11552 := br11542.of (h11545.2 (b + 1457 + 1) (by rw [kC_at (k := 1) (by decide)]; decide))
  refine m_pop2_2 F rfl e_L_law_1465 ?_
  refine m_goto F e_L_law_1466 ?_
  exact hN _ M T _ _ _ (by omega) (by omega) (by omega) ⟨by omega, h11549, ⟨_, h11550⟩, u, h, P, L0_, ⟨hu, hh, hP, hkk, hm0, hw0, hok⟩, h11548, ft11547, _, by11551, br11552⟩
set_option maxRecDepth 20000 in
theorem lc_34 {V : VX} {X : MX} {nm : String} {b sb N k z i L M T : Nat} {xs : Nat → Int32} {σ : Mem} (F : Fx V X (yLw nm) cL_law 7 ret room_1) (hX : va_X sb L xs (x_s X) V.2.2) (hb : sb < V.2.2.size) (hl : (x_l X).stackTraces = false) (hi : i + 6 ≤ L) (hL : L ≤ 3072) (hk : k ≤ 2100) (hz : z ≤ 80000) (hM : M ≤ 10000000) (hI : IV V b M T σ) (hN : ∀ (N' M' T' : Nat) (σ' : Mem) (k' z' : Nat), k' ≤ k + 1 → z' ≤ z + 6 → M' ≤ M + 10000 → IV V b M' T' σ' → Wm V X 7 N' σ' k' z' 1745 [(4, .int (nI i)), (3, .ref (b + 1480)), (2, .ref (b + 1457)), (1, .ref b), (0, .ref sb)] []) : Wm V X 7 N σ k z 1469 [(4, .int (nI i)), (3, .ref (b + 1480)), (2, .ref (b + 1457)), (1, .ref b), (0, .ref sb)] [] := by
  obtain ⟨hT, hHT, ⟨z0, hout⟩, u, h, P, L0_, ⟨hu, hh, hP, hkk, hm0, hw0, hok⟩, hHR, hFt, t, hBy, hBr⟩ := hI
  refine m_aload_n F rfl e_L_law_1469 ?_
  refine m_aload_n F rfl e_L_law_1470 ?_
  refine m_iload F rfl e_L_law_1471 ?_
  refine m_iconst F (v := 1) (by decide) e_L_law_1473 ?_
  refine m_iadd F e_L_law_1474 ?_
  refine Wm.topE (w := nI (i + 1)) (nI_add i 1) ?_
  refine m_sld F (j := i + 1) e_L_law_1475 hX hb (nI_clamp (by omega)) (vp_in_nI (by omega) (by omega)) ?_
  refine m_aload_n F rfl e_L_law_1476 ?_
  refine m_iload F rfl e_L_law_1477 ?_
  refine m_iconst F (v := 2) (by decide) e_L_law_1479 ?_
  refine m_iadd F e_L_law_1480 ?_
  refine Wm.topE (w := nI (i + 2)) (nI_add i 2) ?_
  refine m_sld F (j := i + 2) e_L_law_1481 hX hb (nI_clamp (by omega)) (vp_in_nI (by omega) (by omega)) ?_
  refine m_aload_n F rfl e_L_law_1482 ?_
  refine m_iload F rfl e_L_law_1483 ?_
  refine m_iconst F (v := 3) (by decide) e_L_law_1485 ?_
  refine m_iadd F e_L_law_1486 ?_
  refine Wm.topE (w := nI (i + 3)) (nI_add i 3) ?_
  refine m_sld F (j := i + 3) e_L_law_1487 hX hb (nI_clamp (by omega)) (vp_in_nI (by omega) (by omega)) ?_
  refine m_i2l F e_L_law_1488 ?_
  refine Wm.topl (fun x11553 _ => ?_)
  refine m_bipush F (v := 32) (by decide) e_L_law_1489 ?_
  refine m_lshl F e_L_law_1491 ?_
  refine Wm.topl (fun x11554 _ => ?_)
  refine m_aload_n F rfl e_L_law_1492 ?_
  refine m_iload F rfl e_L_law_1493 ?_
  refine m_iconst F (v := 4) (by decide) e_L_law_1495 ?_
  refine m_iadd F e_L_law_1496 ?_
  refine Wm.topE (w := nI (i + 4)) (nI_add i 4) ?_
  refine m_sld F (j := i + 4) e_L_law_1497 hX hb (nI_clamp (by omega)) (vp_in_nI (by omega) (by omega)) ?_
  refine m_i2l F e_L_law_1498 ?_
  refine Wm.topl (fun x11555 _ => ?_)
  refine m_ldc2 F kc_L_96 e_L_law_1499 ?_
  refine m_land F e_L_law_1502 ?_
  refine Wm.topl (fun x11556 _ => ?_)
  refine m_lor F e_L_law_1503 ?_
  refine Wm.topl (fun x11557 _ => ?_)
  refine l_callC F e_L_law_1504 (s_X9_yields (x_l X) V b M 1 T _ _ b (xs (i + 1)) (xs (i + 2)) x11557 hHT kA_b  (by omega)) cb_X9_yields ml_L_169 im_X9_yields se_X9_yields hHT rfl rfl (rest := []) rfl (Nat.le_of_ble_eq_true rfl) ⟨Nat.le_of_ble_eq_true rfl, Nat.le_of_ble_eq_true rfl⟩ (by omega) (by omega) (fun r σ11558 hp => ?_)
  obtain ⟨h11559, x11560, rfl⟩ := hp
  have h11561 := h11559.1
  have h11562 := hHR.keepL (fun a ha _ => h11559.2 a (by rw [show kA _ a = 0 from ha]; decide))
  have h11563 := (h11559.2 (b + 1480) (by rw [show kA _ (b + 1480) = 0 from kA_o]; decide)).trans hout
  have br11565 := hBr.of (h11559.2 (b + 1457 + 1) (by rw [show kA _ (b + 1457 + 1) = 0 from kA_big (by omega)]; decide))
  have ft11566 := hFt.of (h11559.2 (b + 128) (by rw [show kA _ (b + 128) = 3 from kA_r]; decide))
  have by11564 := hBy.keep (h11559.2 (b + 1) (by rw [show kA _ (b + 1) = 2 from kA_t]; decide))
  refine m_pop F rfl e_L_law_1507 ?_
  refine m_aload_n F rfl e_L_law_1508 ?_
  refine m_aload_n F rfl e_L_law_1509 ?_
  refine m_iload F rfl e_L_law_1510 ?_
  refine m_iconst F (v := 1) (by decide) e_L_law_1512 ?_
  refine m_iadd F e_L_law_1513 ?_
  refine Wm.topE (w := nI (i + 1)) (nI_add i 1) ?_
  refine m_sld F (j := i + 1) e_L_law_1514 hX hb (nI_clamp (by omega)) (vp_in_nI (by omega) (by omega)) ?_
  refine m_aload_n F rfl e_L_law_1515 ?_
  refine m_iload F rfl e_L_law_1516 ?_
  refine m_iconst F (v := 2) (by decide) e_L_law_1518 ?_
  refine m_iadd F e_L_law_1519 ?_
  refine Wm.topE (w := nI (i + 2)) (nI_add i 2) ?_
  refine m_sld F (j := i + 2) e_L_law_1520 hX hb (nI_clamp (by omega)) (vp_in_nI (by omega) (by omega)) ?_
  refine m_aload_n F rfl e_L_law_1521 ?_
  refine m_iload F rfl e_L_law_1522 ?_
  refine m_iconst F (v := 3) (by decide) e_L_law_1524 ?_
  refine m_iadd F e_L_law_1525 ?_
  refine Wm.topE (w := nI (i + 3)) (nI_add i 3) ?_
  refine m_sld F (j := i + 3) e_L_law_1526 hX hb (nI_clamp (by omega)) (vp_in_nI (by omega) (by omega)) ?_
  refine m_i2l F e_L_law_1527 ?_
  refine Wm.topl (fun x11567 _ => ?_)
  refine m_bipush F (v := 32) (by decide) e_L_law_1528 ?_
  refine m_lshl F e_L_law_1530 ?_
  refine Wm.topl (fun x11568 _ => ?_)
  refine m_aload_n F rfl e_L_law_1531 ?_
  refine m_iload F rfl e_L_law_1532 ?_
  refine m_iconst F (v := 4) (by decide) e_L_law_1534 ?_
  refine m_iadd F e_L_law_1535 ?_
  refine Wm.topE (w := nI (i + 4)) (nI_add i 4) ?_
  refine m_sld F (j := i + 4) e_L_law_1536 hX hb (nI_clamp (by omega)) (vp_in_nI (by omega) (by omega)) ?_
  refine m_i2l F e_L_law_1537 ?_
  refine Wm.topl (fun x11569 _ => ?_)
  refine m_ldc2 F kc_L_96 e_L_law_1538 ?_
  refine m_land F e_L_law_1541 ?_
  refine Wm.topl (fun x11570 _ => ?_)
  refine m_lor F e_L_law_1542 ?_
  refine Wm.topl (fun x11571 _ => ?_)
  refine l_callM F e_L_law_1543 (q_X10_yields (x_l X) V (b + 1457) T 1 u h P L0_ _ _ (xs (i + 1)) (xs (i + 2)) x11571 h11562 hok.b hP ) cb_X10_yields ml_L_173 im_X10_yields se_X10_yields h11562 rfl rfl (rest := []) rfl (Nat.le_of_ble_eq_true rfl) ⟨Nat.le_of_ble_eq_true rfl, Nat.le_of_ble_eq_true rfl⟩ (by omega) (by omega) (fun r σ11572 hp => ?_)
  obtain ⟨h11573, x11574, rfl⟩ := hp
  have ft11575 := ft11566.of (h11573.2 (b + 128) (by rw [kC_0 (c := b + 1457) (by omega)]; decide))
  have h11576 := h11573.1
  have h11577 := h11561.keepM (fun a ha => h11573.2 a (by rw [ha]; decide))
  have h11578 := (h11573.2 (b + 1480) (by rw [kC_0 (c := b + 1457) (by omega)]; decide)).trans h11563
  have by11579 := by11564.keep (h11573.2 (b + 1) (by rw [kC_0 (c := b + 1457) (by omega)]; decide))
  have br11580 := br11565.of (h11573.2 (b + 1457 + 1) (by rw [kC_at (k := 1) (by decide)]; decide))
  refine m_pop F rfl e_L_law_1546 ?_
  refine m_goto F e_L_law_1547 ?_
  exact hN _ M T _ _ _ (by omega) (by omega) (by omega) ⟨by omega, h11577, ⟨_, h11578⟩, u, h, P, L0_, ⟨hu, hh, hP, hkk, hm0, hw0, hok⟩, h11576, ft11575, _, by11579, br11580⟩
set_option maxRecDepth 20000 in
theorem lc_35 {V : VX} {X : MX} {nm : String} {b sb N k z i L M T : Nat} {xs : Nat → Int32} {σ : Mem} (F : Fx V X (yLw nm) cL_law 7 ret room_1) (hX : va_X sb L xs (x_s X) V.2.2) (hb : sb < V.2.2.size) (hl : (x_l X).stackTraces = false) (hi : i + 6 ≤ L) (hL : L ≤ 3072) (hk : k ≤ 2100) (hz : z ≤ 80000) (hM : M ≤ 10000000) (hI : IV V b M T σ) (hN : ∀ (N' M' T' : Nat) (σ' : Mem) (k' z' : Nat), k' ≤ k + 1 → z' ≤ z + 6 → M' ≤ M + 10000 → IV V b M' T' σ' → Wm V X 7 N' σ' k' z' 1745 [(4, .int (nI i)), (3, .ref (b + 1480)), (2, .ref (b + 1457)), (1, .ref b), (0, .ref sb)] []) : Wm V X 7 N σ k z 1550 [(4, .int (nI i)), (3, .ref (b + 1480)), (2, .ref (b + 1457)), (1, .ref b), (0, .ref sb)] [] := by
  obtain ⟨hT, hHT, ⟨z0, hout⟩, u, h, P, L0_, ⟨hu, hh, hP, hkk, hm0, hw0, hok⟩, hHR, hFt, t, hBy, hBr⟩ := hI
  refine m_aload_n F rfl e_L_law_1550 ?_
  refine m_aload_n F rfl e_L_law_1551 ?_
  refine m_iload F rfl e_L_law_1552 ?_
  refine m_iconst F (v := 1) (by decide) e_L_law_1554 ?_
  refine m_iadd F e_L_law_1555 ?_
  refine Wm.topE (w := nI (i + 1)) (nI_add i 1) ?_
  refine m_sld F (j := i + 1) e_L_law_1556 hX hb (nI_clamp (by omega)) (vp_in_nI (by omega) (by omega)) ?_
  refine m_aload_n F rfl e_L_law_1557 ?_
  refine m_iload F rfl e_L_law_1558 ?_
  refine m_iconst F (v := 2) (by decide) e_L_law_1560 ?_
  refine m_iadd F e_L_law_1561 ?_
  refine Wm.topE (w := nI (i + 2)) (nI_add i 2) ?_
  refine m_sld F (j := i + 2) e_L_law_1562 hX hb (nI_clamp (by omega)) (vp_in_nI (by omega) (by omega)) ?_
  refine m_i2l F e_L_law_1563 ?_
  refine Wm.topl (fun x11581 _ => ?_)
  refine m_bipush F (v := 32) (by decide) e_L_law_1564 ?_
  refine m_lshl F e_L_law_1566 ?_
  refine Wm.topl (fun x11582 _ => ?_)
  refine m_aload_n F rfl e_L_law_1567 ?_
  refine m_iload F rfl e_L_law_1568 ?_
  refine m_iconst F (v := 3) (by decide) e_L_law_1570 ?_
  refine m_iadd F e_L_law_1571 ?_
  refine Wm.topE (w := nI (i + 3)) (nI_add i 3) ?_
  refine m_sld F (j := i + 3) e_L_law_1572 hX hb (nI_clamp (by omega)) (vp_in_nI (by omega) (by omega)) ?_
  refine m_i2l F e_L_law_1573 ?_
  refine Wm.topl (fun x11583 _ => ?_)
  refine m_ldc2 F kc_L_96 e_L_law_1574 ?_
  refine m_land F e_L_law_1577 ?_
  refine Wm.topl (fun x11584 _ => ?_)
  refine m_lor F e_L_law_1578 ?_
  refine Wm.topl (fun x11585 _ => ?_)
  refine l_callC F e_L_law_1579 (s_X9_level (x_l X) V b M 1 T _ _ b (xs (i + 1)) x11585 hHT kA_b  (by omega)) cb_X9_level ml_L_174 im_X9_level se_X9_level hHT rfl rfl (rest := []) rfl (Nat.le_of_ble_eq_true rfl) ⟨Nat.le_of_ble_eq_true rfl, Nat.le_of_ble_eq_true rfl⟩ (by omega) (by omega) (fun r σ11586 hp => ?_)
  obtain ⟨h11587, x11588, rfl⟩ := hp
  have h11589 := h11587.1
  have h11590 := hHR.keepL (fun a ha _ => h11587.2 a (by rw [show kA _ a = 0 from ha]; decide))
  have h11591 := (h11587.2 (b + 1480) (by rw [show kA _ (b + 1480) = 0 from kA_o]; decide)).trans hout
  have br11593 := hBr.of (h11587.2 (b + 1457 + 1) (by rw [show kA _ (b + 1457 + 1) = 0 from kA_big (by omega)]; decide))
  have ft11594 := hFt.of (h11587.2 (b + 128) (by rw [show kA _ (b + 128) = 3 from kA_r]; decide))
  have by11592 := hBy.keep (h11587.2 (b + 1) (by rw [show kA _ (b + 1) = 2 from kA_t]; decide))
  refine m_pop F rfl e_L_law_1582 ?_
  refine m_aload_n F rfl e_L_law_1583 ?_
  refine m_aload_n F rfl e_L_law_1584 ?_
  refine m_iload F rfl e_L_law_1585 ?_
  refine m_iconst F (v := 1) (by decide) e_L_law_1587 ?_
  refine m_iadd F e_L_law_1588 ?_
  refine Wm.topE (w := nI (i + 1)) (nI_add i 1) ?_
  refine m_sld F (j := i + 1) e_L_law_1589 hX hb (nI_clamp (by omega)) (vp_in_nI (by omega) (by omega)) ?_
  refine m_aload_n F rfl e_L_law_1590 ?_
  refine m_iload F rfl e_L_law_1591 ?_
  refine m_iconst F (v := 2) (by decide) e_L_law_1593 ?_
  refine m_iadd F e_L_law_1594 ?_
  refine Wm.topE (w := nI (i + 2)) (nI_add i 2) ?_
  refine m_sld F (j := i + 2) e_L_law_1595 hX hb (nI_clamp (by omega)) (vp_in_nI (by omega) (by omega)) ?_
  refine m_i2l F e_L_law_1596 ?_
  refine Wm.topl (fun x11595 _ => ?_)
  refine m_bipush F (v := 32) (by decide) e_L_law_1597 ?_
  refine m_lshl F e_L_law_1599 ?_
  refine Wm.topl (fun x11596 _ => ?_)
  refine m_aload_n F rfl e_L_law_1600 ?_
  refine m_iload F rfl e_L_law_1601 ?_
  refine m_iconst F (v := 3) (by decide) e_L_law_1603 ?_
  refine m_iadd F e_L_law_1604 ?_
  refine Wm.topE (w := nI (i + 3)) (nI_add i 3) ?_
  refine m_sld F (j := i + 3) e_L_law_1605 hX hb (nI_clamp (by omega)) (vp_in_nI (by omega) (by omega)) ?_
  refine m_i2l F e_L_law_1606 ?_
  refine Wm.topl (fun x11597 _ => ?_)
  refine m_ldc2 F kc_L_96 e_L_law_1607 ?_
  refine m_land F e_L_law_1610 ?_
  refine Wm.topl (fun x11598 _ => ?_)
  refine m_lor F e_L_law_1611 ?_
  refine Wm.topl (fun x11599 _ => ?_)
  refine l_callM F e_L_law_1612 (q_X10_level (x_l X) V (b + 1457) T 1 u h P L0_ _ _ (xs (i + 1)) x11599 h11590 hok.b hP ) cb_X10_level ml_L_177 im_X10_level se_X10_level h11590 rfl rfl (rest := []) rfl (Nat.le_of_ble_eq_true rfl) ⟨Nat.le_of_ble_eq_true rfl, Nat.le_of_ble_eq_true rfl⟩ (by omega) (by omega) (fun r σ11600 hp => ?_)
  obtain ⟨h11601, x11602, rfl⟩ := hp
  have ft11603 := ft11594.of (h11601.2 (b + 128) (by rw [kC_0 (c := b + 1457) (by omega)]; decide))
  have h11604 := h11601.1
  have h11605 := h11589.keepM (fun a ha => h11601.2 a (by rw [ha]; decide))
  have h11606 := (h11601.2 (b + 1480) (by rw [kC_0 (c := b + 1457) (by omega)]; decide)).trans h11591
  have by11607 := by11592.keep (h11601.2 (b + 1) (by rw [kC_0 (c := b + 1457) (by omega)]; decide))
  have br11608 := br11593.of (h11601.2 (b + 1457 + 1) (by rw [kC_at (k := 1) (by decide)]; decide))
  refine m_pop F rfl e_L_law_1615 ?_
  refine m_goto F e_L_law_1616 ?_
  exact hN _ M T _ _ _ (by omega) (by omega) (by omega) ⟨by omega, h11605, ⟨_, h11606⟩, u, h, P, L0_, ⟨hu, hh, hP, hkk, hm0, hw0, hok⟩, h11604, ft11603, _, by11607, br11608⟩
set_option maxRecDepth 20000 in
theorem lc_36 {V : VX} {X : MX} {nm : String} {b sb N k z i L M T : Nat} {xs : Nat → Int32} {σ : Mem} (F : Fx V X (yLw nm) cL_law 7 ret room_1) (hX : va_X sb L xs (x_s X) V.2.2) (hb : sb < V.2.2.size) (hl : (x_l X).stackTraces = false) (hi : i + 6 ≤ L) (hL : L ≤ 3072) (hk : k ≤ 2100) (hz : z ≤ 80000) (hM : M ≤ 10000000) (hI : IV V b M T σ) (hN : ∀ (N' M' T' : Nat) (σ' : Mem) (k' z' : Nat), k' ≤ k + 1 → z' ≤ z + 6 → M' ≤ M + 10000 → IV V b M' T' σ' → Wm V X 7 N' σ' k' z' 1745 [(4, .int (nI i)), (3, .ref (b + 1480)), (2, .ref (b + 1457)), (1, .ref b), (0, .ref sb)] []) : Wm V X 7 N σ k z 1619 [(4, .int (nI i)), (3, .ref (b + 1480)), (2, .ref (b + 1457)), (1, .ref b), (0, .ref sb)] [] := by
  obtain ⟨hT, hHT, ⟨z0, hout⟩, u, h, P, L0_, ⟨hu, hh, hP, hkk, hm0, hw0, hok⟩, hHR, hFt, t, hBy, hBr⟩ := hI
  refine m_aload_n F rfl e_L_law_1619 ?_
  refine l_callC F e_L_law_1620 (s_X9_heaviest (x_l X) V b M 1 T _ _ b  hHT kA_b  (by omega)) cb_X9_heaviest ml_L_178 im_X9_heaviest se_X9_heaviest hHT rfl rfl (rest := []) rfl (Nat.le_of_ble_eq_true rfl) ⟨Nat.le_of_ble_eq_true rfl, Nat.le_of_ble_eq_true rfl⟩ (by omega) (by omega) (fun r σ11609 hp => ?_)
  obtain ⟨h11610, x11611, rfl⟩ := hp
  have h11612 := h11610.1
  have h11613 := hHR.keepL (fun a ha _ => h11610.2 a (by rw [show kA _ a = 0 from ha]; decide))
  have h11614 := (h11610.2 (b + 1480) (by rw [show kA _ (b + 1480) = 0 from kA_o]; decide)).trans hout
  have br11616 := hBr.of (h11610.2 (b + 1457 + 1) (by rw [show kA _ (b + 1457 + 1) = 0 from kA_big (by omega)]; decide))
  have ft11617 := hFt.of (h11610.2 (b + 128) (by rw [show kA _ (b + 128) = 3 from kA_r]; decide))
  have by11615 := hBy.keep (h11610.2 (b + 1) (by rw [show kA _ (b + 1) = 2 from kA_t]; decide))
  refine m_pop F rfl e_L_law_1623 ?_
  refine m_aload_n F rfl e_L_law_1624 ?_
  refine l_callM F e_L_law_1625 (q_X10_heaviest (x_l X) V (b + 1457) T 1 u h P L0_ _ _  h11613 hok.b hP ) cb_X10_heaviest ml_L_182 im_X10_heaviest se_X10_heaviest h11613 rfl rfl (rest := []) rfl (Nat.le_of_ble_eq_true rfl) ⟨Nat.le_of_ble_eq_true rfl, Nat.le_of_ble_eq_true rfl⟩ (by omega) (by omega) (fun r σ11618 hp => ?_)
  obtain ⟨h11619, x11620, rfl⟩ := hp
  have ft11621 := ft11617.of (h11619.2 (b + 128) (by rw [kC_0 (c := b + 1457) (by omega)]; decide))
  have h11622 := h11619.1
  have h11623 := h11612.keepM (fun a ha => h11619.2 a (by rw [ha]; decide))
  have h11624 := (h11619.2 (b + 1480) (by rw [kC_0 (c := b + 1457) (by omega)]; decide)).trans h11614
  have by11625 := by11615.keep (h11619.2 (b + 1) (by rw [kC_0 (c := b + 1457) (by omega)]; decide))
  have br11626 := br11616.of (h11619.2 (b + 1457 + 1) (by rw [kC_at (k := 1) (by decide)]; decide))
  refine m_pop F rfl e_L_law_1628 ?_
  refine m_goto F e_L_law_1629 ?_
  exact hN _ M T _ _ _ (by omega) (by omega) (by omega) ⟨by omega, h11623, ⟨_, h11624⟩, u, h, P, L0_, ⟨hu, hh, hP, hkk, hm0, hw0, hok⟩, h11622, ft11621, _, by11625, br11626⟩
set_option maxRecDepth 20000 in
theorem lc_37 {V : VX} {X : MX} {nm : String} {b sb N k z i L M T : Nat} {xs : Nat → Int32} {σ : Mem} (F : Fx V X (yLw nm) cL_law 7 ret room_1) (hX : va_X sb L xs (x_s X) V.2.2) (hb : sb < V.2.2.size) (hl : (x_l X).stackTraces = false) (hi : i + 6 ≤ L) (hL : L ≤ 3072) (hk : k ≤ 2100) (hz : z ≤ 80000) (hM : M ≤ 10000000) (hI : IV V b M T σ) (hN : ∀ (N' M' T' : Nat) (σ' : Mem) (k' z' : Nat), k' ≤ k + 1 → z' ≤ z + 6 → M' ≤ M + 10000 → IV V b M' T' σ' → Wm V X 7 N' σ' k' z' 1745 [(4, .int (nI i)), (3, .ref (b + 1480)), (2, .ref (b + 1457)), (1, .ref b), (0, .ref sb)] []) : Wm V X 7 N σ k z 1632 [(4, .int (nI i)), (3, .ref (b + 1480)), (2, .ref (b + 1457)), (1, .ref b), (0, .ref sb)] [] := by
  obtain ⟨hT, hHT, ⟨z0, hout⟩, u, h, P, L0_, ⟨hu, hh, hP, hkk, hm0, hw0, hok⟩, hHR, hFt, t, hBy, hBr⟩ := hI
  refine m_aload_n F rfl e_L_law_1632 ?_
  refine m_aload_n F rfl e_L_law_1633 ?_
  refine m_iload F rfl e_L_law_1634 ?_
  refine m_iconst F (v := 1) (by decide) e_L_law_1636 ?_
  refine m_iadd F e_L_law_1637 ?_
  refine Wm.topE (w := nI (i + 1)) (nI_add i 1) ?_
  refine m_sld F (j := i + 1) e_L_law_1638 hX hb (nI_clamp (by omega)) (vp_in_nI (by omega) (by omega)) ?_
  refine m_aload_n F rfl e_L_law_1639 ?_
  refine m_iload F rfl e_L_law_1640 ?_
  refine m_iconst F (v := 2) (by decide) e_L_law_1642 ?_
  refine m_iadd F e_L_law_1643 ?_
  refine Wm.topE (w := nI (i + 2)) (nI_add i 2) ?_
  refine m_sld F (j := i + 2) e_L_law_1644 hX hb (nI_clamp (by omega)) (vp_in_nI (by omega) (by omega)) ?_
  refine m_aload_n F rfl e_L_law_1645 ?_
  refine m_iload F rfl e_L_law_1646 ?_
  refine m_iconst F (v := 3) (by decide) e_L_law_1648 ?_
  refine m_iadd F e_L_law_1649 ?_
  refine Wm.topE (w := nI (i + 3)) (nI_add i 3) ?_
  refine m_sld F (j := i + 3) e_L_law_1650 hX hb (nI_clamp (by omega)) (vp_in_nI (by omega) (by omega)) ?_
  refine l_callC F e_L_law_1651 (s_X9_chance (x_l X) V b M 1 T _ _ b (xs (i + 1)) (xs (i + 2)) (xs (i + 3)) hHT kA_b  (by omega)) cb_X9_chance ml_L_183 im_X9_chance se_X9_chance hHT rfl rfl (rest := []) rfl (Nat.le_of_ble_eq_true rfl) ⟨Nat.le_of_ble_eq_true rfl, Nat.le_of_ble_eq_true rfl⟩ (by omega) (by omega) (fun r σ11627 hp => ?_)
  obtain ⟨h11628, x11629, rfl⟩ := hp
  have h11630 := h11628.1
  have h11631 := hHR.keepL (fun a ha _ => h11628.2 a (by rw [show kA _ a = 0 from ha]; decide))
  have h11632 := (h11628.2 (b + 1480) (by rw [show kA _ (b + 1480) = 0 from kA_o]; decide)).trans hout
  have br11634 := hBr.of (h11628.2 (b + 1457 + 1) (by rw [show kA _ (b + 1457 + 1) = 0 from kA_big (by omega)]; decide))
  have ft11635 := hFt.of (h11628.2 (b + 128) (by rw [show kA _ (b + 128) = 3 from kA_r]; decide))
  have by11633 := hBy.keep (h11628.2 (b + 1) (by rw [show kA _ (b + 1) = 2 from kA_t]; decide))
  refine m_pop2_2 F rfl e_L_law_1654 ?_
  refine m_aload_n F rfl e_L_law_1655 ?_
  refine m_aload_n F rfl e_L_law_1656 ?_
  refine m_iload F rfl e_L_law_1657 ?_
  refine m_iconst F (v := 1) (by decide) e_L_law_1659 ?_
  refine m_iadd F e_L_law_1660 ?_
  refine Wm.topE (w := nI (i + 1)) (nI_add i 1) ?_
  refine m_sld F (j := i + 1) e_L_law_1661 hX hb (nI_clamp (by omega)) (vp_in_nI (by omega) (by omega)) ?_
  refine m_aload_n F rfl e_L_law_1662 ?_
  refine m_iload F rfl e_L_law_1663 ?_
  refine m_iconst F (v := 2) (by decide) e_L_law_1665 ?_
  refine m_iadd F e_L_law_1666 ?_
  refine Wm.topE (w := nI (i + 2)) (nI_add i 2) ?_
  refine m_sld F (j := i + 2) e_L_law_1667 hX hb (nI_clamp (by omega)) (vp_in_nI (by omega) (by omega)) ?_
  refine m_aload_n F rfl e_L_law_1668 ?_
  refine m_iload F rfl e_L_law_1669 ?_
  refine m_iconst F (v := 3) (by decide) e_L_law_1671 ?_
  refine m_iadd F e_L_law_1672 ?_
  refine Wm.topE (w := nI (i + 3)) (nI_add i 3) ?_
  refine m_sld F (j := i + 3) e_L_law_1673 hX hb (nI_clamp (by omega)) (vp_in_nI (by omega) (by omega)) ?_
  refine l_callM F e_L_law_1674 (q_X10_chance (x_l X) V (b + 1457) T 1 u h P L0_ _ _ (xs (i + 1)) (xs (i + 2)) (xs (i + 3)) h11631 hok hP ) cb_X10_chance ml_L_186 im_X10_chance se_X10_chance h11631 rfl rfl (rest := []) rfl (Nat.le_of_ble_eq_true rfl) ⟨Nat.le_of_ble_eq_true rfl, Nat.le_of_ble_eq_true rfl⟩ (by omega) (by omega) (fun r σ11636 hp => ?_)
  obtain ⟨h11637, x11638, rfl⟩ := hp
  have ft11639 := ft11635.of (h11637.2 (b + 128) (by rw [kC_0 (c := b + 1457) (by omega)]; decide))
  have h11640 := h11637.1
  have h11641 := h11630.keepM (fun a ha => h11637.2 a (by rw [ha]; decide))
  have h11642 := (h11637.2 (b + 1480) (by rw [kC_0 (c := b + 1457) (by omega)]; decide)).trans h11632
  have by11643 := by11633.keep (h11637.2 (b + 1) (by rw [kC_0 (c := b + 1457) (by omega)]; decide))
  have br11644 := br11634.of (h11637.2 (b + 1457 + 1) (by rw [kC_at (k := 1) (by decide)]; decide))
  refine m_pop2_2 F rfl e_L_law_1677 ?_
  refine m_goto F e_L_law_1678 ?_
  exact hN _ (M + 7560) T _ _ _ (by omega) (by omega) (by omega) ⟨by omega, h11641, ⟨_, h11642⟩, u, h, P, L0_, ⟨hu, hh, hP, hkk, hm0, hw0, hok⟩, h11640, ft11639, _, by11643, br11644⟩
set_option maxRecDepth 20000 in
theorem lc_38 {V : VX} {X : MX} {nm : String} {b sb N k z i L M T : Nat} {xs : Nat → Int32} {σ : Mem} (F : Fx V X (yLw nm) cL_law 7 ret room_1) (hX : va_X sb L xs (x_s X) V.2.2) (hb : sb < V.2.2.size) (hl : (x_l X).stackTraces = false) (hi : i + 6 ≤ L) (hL : L ≤ 3072) (hk : k ≤ 2100) (hz : z ≤ 80000) (hM : M ≤ 10000000) (hI : IV V b M T σ) (hN : ∀ (N' M' T' : Nat) (σ' : Mem) (k' z' : Nat), k' ≤ k + 1 → z' ≤ z + 6 → M' ≤ M + 10000 → IV V b M' T' σ' → Wm V X 7 N' σ' k' z' 1745 [(4, .int (nI i)), (3, .ref (b + 1480)), (2, .ref (b + 1457)), (1, .ref b), (0, .ref sb)] []) : Wm V X 7 N σ k z 1681 [(4, .int (nI i)), (3, .ref (b + 1480)), (2, .ref (b + 1457)), (1, .ref b), (0, .ref sb)] [] := by
  obtain ⟨hT, hHT, ⟨z0, hout⟩, u, h, P, L0_, ⟨hu, hh, hP, hkk, hm0, hw0, hok⟩, hHR, hFt, t, hBy, hBr⟩ := hI
  refine m_aload_n F rfl e_L_law_1681 ?_
  refine l_callC F e_L_law_1682 (s_X9_undo (x_l X) V b M 1 T _ _ b  hHT kA_b  (by omega)) cb_X9_undo ml_L_187 im_X9_undo se_X9_undo hHT rfl rfl (rest := []) rfl (Nat.le_of_ble_eq_true rfl) ⟨Nat.le_of_ble_eq_true rfl, Nat.le_of_ble_eq_true rfl⟩ (by omega) (by omega) (fun r σ11645 hp => ?_)
  obtain ⟨h11646, x11647, rfl⟩ := hp
  have h11648 := h11646.1
  have h11649 := hHR.keepL (fun a ha _ => h11646.2 a (by rw [show kA _ a = 0 from ha]; decide))
  have h11650 := (h11646.2 (b + 1480) (by rw [show kA _ (b + 1480) = 0 from kA_o]; decide)).trans hout
  have br11652 := hBr.of (h11646.2 (b + 1457 + 1) (by rw [show kA _ (b + 1457 + 1) = 0 from kA_big (by omega)]; decide))
  have ft11653 := hFt.of (h11646.2 (b + 128) (by rw [show kA _ (b + 128) = 3 from kA_r]; decide))
  have by11651 := hBy.keep (h11646.2 (b + 1) (by rw [show kA _ (b + 1) = 2 from kA_t]; decide))
  refine m_pop F rfl e_L_law_1685 ?_
  refine m_aload_n F rfl e_L_law_1686 ?_
  refine l_callM F e_L_law_1687 (q_X10_undo (x_l X) V (b + 1457) T 1 u h P L0_ _ _  h11649 hok hP (by first | omega | assumption) (by first | omega | assumption)) cb_X10_undo ml_L_190 im_X10_undo se_X10_undo h11649 rfl rfl (rest := []) rfl (Nat.le_of_ble_eq_true rfl) ⟨Nat.le_of_ble_eq_true rfl, Nat.le_of_ble_eq_true rfl⟩ (by omega) (by omega) (fun r σ11654 hp => ?_)
  obtain ⟨u11656, hu11656, L11657, okL11657, h11655, x11658, rfl⟩ := hp
  have ft11659 := ft11653.of (h11655.2 (b + 128) (by rw [kC_0 (c := b + 1457) (by omega)]; decide))
  have h11660 := h11655.1
  have h11661 := h11648.keepM (fun a ha => h11655.2 a (by rw [ha]; decide))
  have h11662 := (h11655.2 (b + 1480) (by rw [kC_0 (c := b + 1457) (by omega)]; decide)).trans h11650
  have by11663 := by11651.keep (h11655.2 (b + 1) (by rw [kC_0 (c := b + 1457) (by omega)]; decide))
  have br11664 := br11652.of (h11655.2 (b + 1457 + 1) (by rw [kC_at (k := 1) (by decide)]; decide))
  refine m_pop F rfl e_L_law_1690 ?_
  refine m_goto F e_L_law_1691 ?_
  exact hN _ M T _ _ _ (by omega) (by omega) (by omega) ⟨by omega, h11661, ⟨_, h11662⟩, u11656, h, P, L11657, ⟨hu11656, hh, hP, hkk, hm0, hw0, okL11657⟩, h11660, ft11659, _, by11663, br11664⟩
set_option maxRecDepth 20000 in
theorem lc_39 {V : VX} {X : MX} {nm : String} {b sb N k z i L M T : Nat} {xs : Nat → Int32} {σ : Mem} (F : Fx V X (yLw nm) cL_law 7 ret room_1) (hX : va_X sb L xs (x_s X) V.2.2) (hb : sb < V.2.2.size) (hl : (x_l X).stackTraces = false) (hi : i + 6 ≤ L) (hL : L ≤ 3072) (hk : k ≤ 2100) (hz : z ≤ 80000) (hM : M ≤ 10000000) (hI : IV V b M T σ) (hN : ∀ (N' M' T' : Nat) (σ' : Mem) (k' z' : Nat), k' ≤ k + 1 → z' ≤ z + 6 → M' ≤ M + 10000 → IV V b M' T' σ' → Wm V X 7 N' σ' k' z' 1745 [(4, .int (nI i)), (3, .ref (b + 1480)), (2, .ref (b + 1457)), (1, .ref b), (0, .ref sb)] []) : Wm V X 7 N σ k z 1694 [(4, .int (nI i)), (3, .ref (b + 1480)), (2, .ref (b + 1457)), (1, .ref b), (0, .ref sb)] [] := by
  obtain ⟨hT, hHT, ⟨z0, hout⟩, u, h, P, L0_, ⟨hu, hh, hP, hkk, hm0, hw0, hok⟩, hHR, hFt, t, hBy, hBr⟩ := hI
  refine m_aload_n F rfl e_L_law_1694 ?_
  refine l_callC F e_L_law_1695 (s_X9_keep (x_l X) V b M 1 T _ _ b  hHT kA_b  (by omega)) cb_X9_keep ml_L_191 im_X9_keep se_X9_keep hHT rfl rfl (rest := []) rfl (Nat.le_of_ble_eq_true rfl) ⟨Nat.le_of_ble_eq_true rfl, Nat.le_of_ble_eq_true rfl⟩ (by omega) (by omega) (fun r σ11665 hp => ?_)
  obtain ⟨h11666, x11667, rfl⟩ := hp
  have h11668 := h11666.1
  have h11669 := hHR.keepL (fun a ha _ => h11666.2 a (by rw [show kA _ a = 0 from ha]; decide))
  have h11670 := (h11666.2 (b + 1480) (by rw [show kA _ (b + 1480) = 0 from kA_o]; decide)).trans hout
  have br11672 := hBr.of (h11666.2 (b + 1457 + 1) (by rw [show kA _ (b + 1457 + 1) = 0 from kA_big (by omega)]; decide))
  have ft11673 := hFt.of (h11666.2 (b + 128) (by rw [show kA _ (b + 128) = 3 from kA_r]; decide))
  have by11671 := hBy.keep (h11666.2 (b + 1) (by rw [show kA _ (b + 1) = 2 from kA_t]; decide))
  refine m_pop F rfl e_L_law_1698 ?_
  refine m_aload_n F rfl e_L_law_1699 ?_
  refine l_callM F e_L_law_1700 (q_X10_keep (x_l X) V (b + 1457) T 1 u h P L0_ _ _  h11669 hok hP (by first | omega | assumption)) cb_X10_keep ml_L_194 im_X10_keep se_X10_keep h11669 rfl rfl (rest := []) rfl (Nat.le_of_ble_eq_true rfl) ⟨Nat.le_of_ble_eq_true rfl, Nat.le_of_ble_eq_true rfl⟩ (by omega) (by omega) (fun r σ11674 hp => ?_)
  obtain ⟨h11675, x11676, rfl⟩ := hp
  have ft11677 := ft11673.of (h11675.2 (b + 128) (by rw [kC_0 (c := b + 1457) (by omega)]; decide))
  have h11678 := h11675.1
  have h11679 := h11668.keepM (fun a ha => h11675.2 a (by rw [ha]; decide))
  have h11680 := (h11675.2 (b + 1480) (by rw [kC_0 (c := b + 1457) (by omega)]; decide)).trans h11670
  have by11681 := by11671.keep (h11675.2 (b + 1) (by rw [kC_0 (c := b + 1457) (by omega)]; decide))
  have br11682 := br11672.of (h11675.2 (b + 1457 + 1) (by rw [kC_at (k := 1) (by decide)]; decide))
  refine m_pop F rfl e_L_law_1703 ?_
  refine m_goto F e_L_law_1704 ?_
  exact hN _ M T _ _ _ (by omega) (by omega) (by omega) ⟨by omega, h11679, ⟨_, h11680⟩, u, 1, P, L0_, ⟨hu, (by omega), hP, hkk, hm0, hw0, hok⟩, h11678, ft11677, _, by11681, br11682⟩
set_option maxRecDepth 20000 in
theorem lc_40 {V : VX} {X : MX} {nm : String} {b sb N k z i L M T : Nat} {xs : Nat → Int32} {σ : Mem} (F : Fx V X (yLw nm) cL_law 7 ret room_1) (hX : va_X sb L xs (x_s X) V.2.2) (hb : sb < V.2.2.size) (hl : (x_l X).stackTraces = false) (hi : i + 6 ≤ L) (hL : L ≤ 3072) (hk : k ≤ 2100) (hz : z ≤ 80000) (hM : M ≤ 10000000) (hI : IV V b M T σ) (hN : ∀ (N' M' T' : Nat) (σ' : Mem) (k' z' : Nat), k' ≤ k + 1 → z' ≤ z + 6 → M' ≤ M + 10000 → IV V b M' T' σ' → Wm V X 7 N' σ' k' z' 1745 [(4, .int (nI i)), (3, .ref (b + 1480)), (2, .ref (b + 1457)), (1, .ref b), (0, .ref sb)] []) : Wm V X 7 N σ k z 1707 [(4, .int (nI i)), (3, .ref (b + 1480)), (2, .ref (b + 1457)), (1, .ref b), (0, .ref sb)] [] := by
  obtain ⟨hT, hHT, ⟨z0, hout⟩, u, h, P, L0_, ⟨hu, hh, hP, hkk, hm0, hw0, hok⟩, hHR, hFt, t, hBy, hBr⟩ := hI
  refine m_aload_n F rfl e_L_law_1707 ?_
  refine l_callC F e_L_law_1708 (s_X9_back (x_l X) V b M 1 T _ _ b  hHT kA_b  (by omega)) cb_X9_back ml_L_195 im_X9_back se_X9_back hHT rfl rfl (rest := []) rfl (Nat.le_of_ble_eq_true rfl) ⟨Nat.le_of_ble_eq_true rfl, Nat.le_of_ble_eq_true rfl⟩ (by omega) (by omega) (fun r σ11683 hp => ?_)
  obtain ⟨h11684, x11685, rfl⟩ := hp
  have h11686 := h11684.1
  have h11687 := hHR.keepL (fun a ha _ => h11684.2 a (by rw [show kA _ a = 0 from ha]; decide))
  have h11688 := (h11684.2 (b + 1480) (by rw [show kA _ (b + 1480) = 0 from kA_o]; decide)).trans hout
  have br11690 := hBr.of (h11684.2 (b + 1457 + 1) (by rw [show kA _ (b + 1457 + 1) = 0 from kA_big (by omega)]; decide))
  have ft11691 := hFt.of (h11684.2 (b + 128) (by rw [show kA _ (b + 128) = 3 from kA_r]; decide))
  have by11689 := hBy.keep (h11684.2 (b + 1) (by rw [show kA _ (b + 1) = 2 from kA_t]; decide))
  refine m_pop F rfl e_L_law_1711 ?_
  refine m_aload_n F rfl e_L_law_1712 ?_
  refine l_callM F e_L_law_1713 (q_X10_back (x_l X) V (b + 1457) T 1 u h P L0_ _ _  h11687 hok hP (by first | omega | assumption) (by first | omega | assumption) (by first | omega | assumption)) cb_X10_back ml_L_198 im_X10_back se_X10_back h11687 rfl rfl (rest := []) rfl (Nat.le_of_ble_eq_true rfl) ⟨Nat.le_of_ble_eq_true rfl, Nat.le_of_ble_eq_true rfl⟩ (by omega) (by omega) (fun r σ11692 hp => ?_)
  obtain ⟨u11694, hu11694, L11695, okL11695, h11693, x11696, rfl⟩ := hp
  have ft11697 := ft11691.of (h11693.2 (b + 128) (by rw [kC_0 (c := b + 1457) (by omega)]; decide))
  have h11698 := h11693.1
  have h11699 := h11686.keepM (fun a ha => h11693.2 a (by rw [ha]; decide))
  have h11700 := (h11693.2 (b + 1480) (by rw [kC_0 (c := b + 1457) (by omega)]; decide)).trans h11688
  have by11701 := by11689.keep (h11693.2 (b + 1) (by rw [kC_0 (c := b + 1457) (by omega)]; decide))
  have br11702 := br11690.of (h11693.2 (b + 1457 + 1) (by rw [kC_at (k := 1) (by decide)]; decide))
  refine m_pop F rfl e_L_law_1716 ?_
  refine m_goto F e_L_law_1717 ?_
  exact hN _ M T _ _ _ (by omega) (by omega) (by omega) ⟨by omega, h11699, ⟨_, h11700⟩, u11694, h, P, L11695, ⟨hu11694, hh, hP, hkk, hm0, hw0, okL11695⟩, h11698, ft11697, _, by11701, br11702⟩
set_option maxRecDepth 20000 in
theorem lc_41 {V : VX} {X : MX} {nm : String} {b sb N k z i L M T : Nat} {xs : Nat → Int32} {σ : Mem} (F : Fx V X (yLw nm) cL_law 7 ret room_1) (hX : va_X sb L xs (x_s X) V.2.2) (hb : sb < V.2.2.size) (hl : (x_l X).stackTraces = false) (hi : i + 6 ≤ L) (hL : L ≤ 3072) (hk : k ≤ 2100) (hz : z ≤ 80000) (hM : M ≤ 10000000) (hI : IV V b M T σ) (hN : ∀ (N' M' T' : Nat) (σ' : Mem) (k' z' : Nat), k' ≤ k + 1 → z' ≤ z + 6 → M' ≤ M + 10000 → IV V b M' T' σ' → Wm V X 7 N' σ' k' z' 1745 [(4, .int (nI i)), (3, .ref (b + 1480)), (2, .ref (b + 1457)), (1, .ref b), (0, .ref sb)] []) : Wm V X 7 N σ k z 1720 [(4, .int (nI i)), (3, .ref (b + 1480)), (2, .ref (b + 1457)), (1, .ref b), (0, .ref sb)] [] := by
  obtain ⟨hT, hHT, ⟨z0, hout⟩, u, h, P, L0_, ⟨hu, hh, hP, hkk, hm0, hw0, hok⟩, hHR, hFt, t, hBy, hBr⟩ := hI
  refine m_aload_n F rfl e_L_law_1720 ?_
  refine m_aload_n F rfl e_L_law_1721 ?_
  refine m_iload F rfl e_L_law_1722 ?_
  refine m_iconst F (v := 1) (by decide) e_L_law_1724 ?_
  refine m_iadd F e_L_law_1725 ?_
  refine Wm.topE (w := nI (i + 1)) (nI_add i 1) ?_
  refine m_sld F (j := i + 1) e_L_law_1726 hX hb (nI_clamp (by omega)) (vp_in_nI (by omega) (by omega)) ?_
  refine l_callC F e_L_law_1727 (s_X9_count (x_l X) V b M 1 T _ _ b (xs (i + 1)) hHT kA_b  (by omega)) cb_X9_count ml_L_199 im_X9_count se_X9_count hHT rfl rfl (rest := []) rfl (Nat.le_of_ble_eq_true rfl) ⟨Nat.le_of_ble_eq_true rfl, Nat.le_of_ble_eq_true rfl⟩ (by omega) (by omega) (fun r σ11703 hp => ?_)
  obtain ⟨h11704, x11705, rfl⟩ := hp
  have h11706 := h11704.1
  have h11707 := hHR.keepL (fun a ha _ => h11704.2 a (by rw [show kA _ a = 0 from ha]; decide))
  have h11708 := (h11704.2 (b + 1480) (by rw [show kA _ (b + 1480) = 0 from kA_o]; decide)).trans hout
  have br11710 := hBr.of (h11704.2 (b + 1457 + 1) (by rw [show kA _ (b + 1457 + 1) = 0 from kA_big (by omega)]; decide))
  have ft11711 := hFt.of (h11704.2 (b + 128) (by rw [show kA _ (b + 128) = 3 from kA_r]; decide))
  have by11709 := hBy.keep (h11704.2 (b + 1) (by rw [show kA _ (b + 1) = 2 from kA_t]; decide))
  refine m_pop F rfl e_L_law_1730 ?_
  refine m_aload_n F rfl e_L_law_1731 ?_
  refine m_aload_n F rfl e_L_law_1732 ?_
  refine m_iload F rfl e_L_law_1733 ?_
  refine m_iconst F (v := 1) (by decide) e_L_law_1735 ?_
  refine m_iadd F e_L_law_1736 ?_
  refine Wm.topE (w := nI (i + 1)) (nI_add i 1) ?_
  refine m_sld F (j := i + 1) e_L_law_1737 hX hb (nI_clamp (by omega)) (vp_in_nI (by omega) (by omega)) ?_
  refine l_callM F e_L_law_1738 (q_X10_count (x_l X) V (b + 1457) T 1 u h P L0_ _ _ (xs (i + 1)) h11707 hok.b hP ) cb_X10_count ml_L_202 im_X10_count se_X10_count h11707 rfl rfl (rest := []) rfl (Nat.le_of_ble_eq_true rfl) ⟨Nat.le_of_ble_eq_true rfl, Nat.le_of_ble_eq_true rfl⟩ (by omega) (by omega) (fun r σ11712 hp => ?_)
  obtain ⟨h11713, x11714, rfl⟩ := hp
  have ft11715 := ft11711.of (h11713.2 (b + 128) (by rw [kC_0 (c := b + 1457) (by omega)]; decide))
  have h11716 := h11713.1
  have h11717 := h11706.keepM (fun a ha => h11713.2 a (by rw [ha]; decide))
  have h11718 := (h11713.2 (b + 1480) (by rw [kC_0 (c := b + 1457) (by omega)]; decide)).trans h11708
  have by11719 := by11709.keep (h11713.2 (b + 1) (by rw [kC_0 (c := b + 1457) (by omega)]; decide))
  have br11720 := br11710.of (h11713.2 (b + 1457 + 1) (by rw [kC_at (k := 1) (by decide)]; decide))
  refine m_pop F rfl e_L_law_1741 ?_
  refine m_goto F e_L_law_1742 ?_
  exact hN _ M T _ _ _ (by omega) (by omega) (by omega) ⟨by omega, h11717, ⟨_, h11718⟩, u, h, P, L0_, ⟨hu, hh, hP, hkk, hm0, hw0, hok⟩, h11716, ft11715, _, by11719, br11720⟩
