set_option maxRecDepth 20000 in
theorem q_X10_ifIndex (l : Launch) (V : VX) (c T Z u h : Nat) (P : NP) (L : Nat → LQ) (N : Nat) (σ : Mem) (x901 : Int32) (x902 : Int32) (h0 : HR V c ⟨T, Z, u, h, P, L⟩ σ) (hok : OKL P.n0 L) (hP : OKP P)  : Ct l V yX10_ifIndex cX10_ifIndex 5 (some .long) 2 0 0 N σ [.ref c, .int x901, .int x902] (fun r τ => HS V c (⟨T, Z, u, h, P, L⟩ : RG) [0, 2, 3, 4, 5, 6, 7, 8, 9, 10, 11, 12, 13, 14, 15, 16, 19, 20, 21, 22, 23] σ τ ∧ ∃ x : Int64, r = some (.long x)) := by
  refine Ct.of (by decide) (Nat.le_of_ble_eq_true rfl) [(0, .ref c), (1, .int x901), (2, .int x902)] rfl (fun X hX F hQ => ?_)
  have hPP := hP
  unfold OKP at hPP
  have h1 : HS V c ⟨T, Z, u, h, P, L⟩ [0, 2, 3, 4, 5, 6, 7, 8, 9, 10, 11, 12, 13, 14, 15, 16, 19, 20, 21, 22, 23] σ σ := HS.start h0
  refine m_aload_n F rfl e_X10_ifIndex_0 ?_
  refine m_iconst F (v := 0) (by decide) e_X10_ifIndex_1 ?_
  refine r_put F (g' := (⟨T, Z, u, h, P, L⟩ : RG)) e_X10_ifIndex_2 fp_X10_91 h1 (by decide) ⟨_, rfl⟩ (fun _ _ _ _ q => q) (fun _ _ _ q => q) rfl rfl (by decide) (fun σ6347 h6348 g6349 g6350 f6351 => ?_)
  refine m_aload_n F rfl e_X10_ifIndex_5 ?_
  refine m_iload_n F rfl e_X10_ifIndex_6 ?_
  refine r_callV F e_X10_ifIndex_7 (q_X10_isLease (x_l X) V c T Z u h P L _ _ x901 h6348.1 (hok.b) hP ) cb_X10_isLease ml_X10_292 im_X10_isLease se_X10_isLease h6348 rfl rfl (rest := []) rfl (Nat.le_of_ble_eq_true rfl) ⟨Nat.le_of_ble_eq_true rfl, Nat.le_of_ble_eq_true rfl⟩ ⟨Nat.le_of_ble_eq_true rfl, Nat.le_of_ble_eq_true rfl⟩ (fun r σ6352 hp => ?_)
  obtain ⟨h6353, c6355⟩ := hp
  have h6354 := HS.trans h6348 h6353 (by decide)
  rcases c6355 with rfl | ⟨n6356, h6357, e6358, rfl⟩
  · refine m_if_eq F e_X10_ifIndex_10 (fun _ => ?_) (fun q => absurd (by decide) q)
    refine m_ldc2 F kc_X10_245 e_X10_ifIndex_27 ?_
    exact m_lret F hQ e_X10_ifIndex_30 (⟨h6354, _, rfl⟩)
  · subst e6358
    refine m_if_eq F e_X10_ifIndex_10 (fun q => absurd q (by decide)) (fun _ => ?_)
    refine m_iload_n F rfl e_X10_ifIndex_13 ?_
    refine m_sipush F (v := 500) (by decide) e_X10_ifIndex_14 ?_
    refine m_icmp_lt F e_X10_ifIndex_17 (fun q17 => ?_) (fun q17 => ?_)
    · refine m_ldc2 F kc_X10_245 e_X10_ifIndex_27 ?_
      exact m_lret F hQ e_X10_ifIndex_30 (⟨h6354, _, rfl⟩)
    · obtain ⟨n6359, hn6359, rfl⟩ := nI_nn (x := x902) (fun e => q17 (Int32.lt_of_lt_of_le e (by decide)))
      have c17 : n6359 ≥ 500 := by have hh := mt (nI_ltI (a := n6359) (b := 500) (by omega) (by omega)).mpr q17; omega
      refine m_iload_n F rfl e_X10_ifIndex_20 ?_
      refine m_sipush F (v := 2000) (by decide) e_X10_ifIndex_21 ?_
      refine m_icmp_le F e_X10_ifIndex_24 (fun q24 => ?_) (fun q24 => ?_)
      · have c24 : n6359 ≤ 2000 := (nI_leI (a := n6359) (b := 2000) (by omega) (by omega)).mp q24
        refine m_aload_n F rfl e_X10_ifIndex_31 ?_
        refine m_iload_n F rfl e_X10_ifIndex_32 ?_
        refine r_callV F e_X10_ifIndex_33 (q_X10_isOn (x_l X) V c T Z u h P L _ _ n6356 h6354.1 (hok.b) hP (by omega)) cb_X10_isOn ml_X10_267 im_X10_isOn se_X10_isOn h6354 rfl rfl (rest := []) rfl (Nat.le_of_ble_eq_true rfl) ⟨Nat.le_of_ble_eq_true rfl, Nat.le_of_ble_eq_true rfl⟩ ⟨Nat.le_of_ble_eq_true rfl, Nat.le_of_ble_eq_true rfl⟩ (fun r σ6360 hp => ?_)
        obtain ⟨h6361, c6363⟩ := hp
        have h6362 := HS.trans h6354 h6361 (by decide)
        rcases c6363 with ⟨g6364, rfl⟩ | ⟨g6364, rfl⟩
        · refine m_if_ne F e_X10_ifIndex_36 (fun q => absurd (by decide) q) (fun _ => ?_)
          refine m_ldc2 F kc_X10_338 e_X10_ifIndex_39 ?_
          exact m_lret F hQ e_X10_ifIndex_42 (⟨h6362, _, rfl⟩)
        · refine m_if_ne F e_X10_ifIndex_36 (fun _ => ?_) (fun q => absurd q (by decide))
          refine m_aload_n F rfl e_X10_ifIndex_43 ?_
          refine m_iload_n F rfl e_X10_ifIndex_44 ?_
          refine r_callV F e_X10_ifIndex_45 (q_X10_isTied (x_l X) V c T Z u h P L _ _ n6356 h6362.1 (hok.b) hP (by omega)) cb_X10_isTied ml_X10_270 im_X10_isTied se_X10_isTied h6362 rfl rfl (rest := []) rfl (Nat.le_of_ble_eq_true rfl) ⟨Nat.le_of_ble_eq_true rfl, Nat.le_of_ble_eq_true rfl⟩ ⟨Nat.le_of_ble_eq_true rfl, Nat.le_of_ble_eq_true rfl⟩ (fun r σ6365 hp => ?_)
          obtain ⟨h6366, n6368, hn6368, rfl⟩ := hp
          have h6367 := HS.trans h6362 h6366 (by decide)
          refine m_if_ne F e_X10_ifIndex_48 (fun q48 => ?_) (fun q48 => ?_)
          · have c48 : n6368 ≠ 0 := by have hh := mt (nI_eq (a := n6368) (b := 0) (by omega) (by omega)).mpr q48; omega
            refine m_aload_n F rfl e_X10_ifIndex_65 ?_
            refine r_get F e_X10_ifIndex_66 fl_X10_59 h6367 rfl (fun v hv f6369 => ?_)
            obtain rfl : v = .ref (c + 16) := hv
            refine m_iconst F (v := 0) (by decide) e_X10_ifIndex_69 ?_
            refine m_aload_n F rfl e_X10_ifIndex_70 ?_
            refine r_get F e_X10_ifIndex_71 fl_X10_63 h6367 rfl (fun v hv f6370 => ?_)
            obtain rfl : v = .ref (c + 17) := hv
            refine m_iconst F (v := 0) (by decide) e_X10_ifIndex_74 ?_
            obtain ⟨f6371, e6372, te6372⟩ : ∃ f, σ6365 (c + 16) = some (aJ V 1113 f) ∧ ∀ i, i < 1113 → EJ L i (f i) := h6367.1.cell (k := 16) (by decide)
            obtain ⟨g6373, e6374⟩ : ∃ f, σ6365 (c + 17) = some (aJ V 1113 f) := h6367.1.cell (k := 17) (by decide)
            refine m_callS F e_X10_ifIndex_75 (q_copies (x_l X) V _ _ (c + 16) (c + 17) 1113 1113 0 0 f6371 g6373 e6372 e6374 (by omega) (by omega) (by omega) (by omega)) cb_X10_copies ml_X10_230 sm_X10_copies rfl (rest := []) rfl (Nat.le_of_ble_eq_true rfl) ⟨Nat.le_of_ble_eq_true rfl, Nat.le_of_ble_eq_true rfl⟩ ⟨Nat.le_of_ble_eq_true rfl, Nat.le_of_ble_eq_true rfl⟩ (k' := 0) (z' := 0) (N' := N) rfl rfl rfl (fun r σ6375 hp => ?_)
            obtain ⟨p6376, rfl⟩ := hp
            have h6377 := HS.cp (k := 17) (g' := (⟨T, Z, u, h, P, L⟩ : RG)) h6367 p6376 (by decide) (by decide) ⟨_, rfl⟩ (fun _ _ _ q => q)
            have ga6378 : GB V c 17 1113 0 L σ6375 := ⟨_, p6376.1, fun i hi => by rw [show 0 + i = i from Nat.zero_add i, cpy_at0 hi, Nat.zero_add]; exact te6372 i hi⟩
            have hl6379 := hok.2 n6356 (by omega)
            have hl6380 := hok.2 n6356 (by omega)
            have hl6381 := hok.2 n6356 (by omega)
            refine m_aload_n F rfl e_X10_ifIndex_78 ?_
            refine m_iload_n F rfl e_X10_ifIndex_79 ?_
            refine m_iload_n F rfl e_X10_ifIndex_80 ?_
            refine m_i2l F e_X10_ifIndex_81 ?_
            refine Wm.toplE (w := lN n6359) (nI_l (by omega)) ?_
            refine r_callV F e_X10_ifIndex_82 (q_X10_indexes (x_l X) V c T Z u h P L _ _ n6356 n6359 h6377.1 (hok.b) hP (by omega) (by omega) (by first | omega | assumption | decide)) cb_X10_indexes ml_X10_273 im_X10_indexes se_X10_indexes h6377 rfl rfl (rest := []) rfl (Nat.le_of_ble_eq_true rfl) ⟨Nat.le_of_ble_eq_true rfl, Nat.le_of_ble_eq_true rfl⟩ ⟨Nat.le_of_ble_eq_true rfl, Nat.le_of_ble_eq_true rfl⟩ (fun r σ6382 hp => ?_)
            obtain ⟨h6383, rfl⟩ := hp
            have h6384 := HS.trans h6377 h6383 (by decide)
            have ga6385 := ga6378.of (h6383.2 (c + 17) (by rw [kC_at (k := 17) (by decide)]; decide))
            refine m_aload_n F rfl e_X10_ifIndex_85 ?_
            refine m_iload_n F rfl e_X10_ifIndex_86 ?_
            refine m_aload_n F rfl e_X10_ifIndex_87 ?_
            refine r_getC F e_X10_ifIndex_88 fl_X10_59 h6384 ((fld_eq (h6383.2 c (by rw [show kC c c = 1 from kC_at (k := 0) (by decide)]; decide))).trans ((fld_eq (p6376.2 _ (by omega))).trans f6369)) ?_
            refine m_sipush F (v := 160) (by decide) e_X10_ifIndex_91 ?_
            refine m_iload_n F rfl e_X10_ifIndex_94 ?_
            refine m_imul F e_X10_ifIndex_95 ?_
            refine Wm.topE (w := nI (160 * n6356)) (pk_mul 160 n6356) ?_
            refine m_iconst F (v := 5) (by decide) e_X10_ifIndex_96 ?_
            refine m_iadd F e_X10_ifIndex_97 ?_
            refine Wm.topE (w := nI (160 * n6356 + 5)) (nI_add (160 * n6356) 5) ?_
            refine r_sld F (j := 160 * n6356 + 5) e_X10_ifIndex_98 h6384 (nI_clamp (by omega)) (vp_in_nI (by omega) (by decide)) (fun x6386 h6387 f6388 => ?_)
            have hl6389 := hok.2 n6356 (by omega)
            obtain rfl : x6386 = lN (L n6356).2.2.2 := (EJ_l (l := n6356) (r := 5) (by omega) (by decide)).mp h6387
            refine m_l2i F e_X10_ifIndex_99 ?_
            refine Wm.topE (w := nI ((L n6356).2.2.2)) (lN_i ((L n6356).2.2.2)) ?_
            refine m_iconst F (v := 1) (by decide) e_X10_ifIndex_100 ?_
            refine m_iadd F e_X10_ifIndex_101 ?_
            refine Wm.topE (w := nI ((L n6356).2.2.2 + 1)) (nI_add ((L n6356).2.2.2) 1) ?_
            refine m_aload_n F rfl e_X10_ifIndex_102 ?_
            refine r_getC F e_X10_ifIndex_103 fl_X10_59 h6384 ((fld_eq (h6383.2 c (by rw [show kC c c = 1 from kC_at (k := 0) (by decide)]; decide))).trans ((fld_eq (p6376.2 _ (by omega))).trans f6369)) ?_
            refine m_sipush F (v := 160) (by decide) e_X10_ifIndex_106 ?_
            refine m_iload_n F rfl e_X10_ifIndex_109 ?_
            refine m_imul F e_X10_ifIndex_110 ?_
            refine Wm.topE (w := nI (160 * n6356)) (pk_mul 160 n6356) ?_
            refine m_iconst F (v := 2) (by decide) e_X10_ifIndex_111 ?_
            refine m_iadd F e_X10_ifIndex_112 ?_
            refine Wm.topE (w := nI (160 * n6356 + 2)) (nI_add (160 * n6356) 2) ?_
            refine r_sld F (j := 160 * n6356 + 2) e_X10_ifIndex_113 h6384 (nI_clamp (by omega)) (vp_in_nI (by omega) (by decide)) (fun x6390 h6391 f6392 => ?_)
            obtain ⟨n6393, hn6393, rfl⟩ : ∃ n : Nat, n ≤ 1000000 ∧ x6390 = lN n := (EJ_l (l := n6356) (r := 2) (by omega) (by decide)).mp h6391
            refine m_ldc2 F kc_X10_245 e_X10_ifIndex_114 ?_
            refine r_callV F e_X10_ifIndex_117 (q_X10_worthBy (x_l X) V c T Z u h P L _ _ n6356 ((L n6356).2.2.2 + 1) n6393 (-1) h6384.1 (hok.b) hP (by omega) (by omega) (by omega) (by first | omega | assumption | decide)) cb_X10_worthBy ml_X10_247 im_X10_worthBy se_X10_worthBy h6384 rfl rfl (rest := []) rfl (Nat.le_of_ble_eq_true rfl) ⟨Nat.le_of_ble_eq_true rfl, Nat.le_of_ble_eq_true rfl⟩ ⟨Nat.le_of_ble_eq_true rfl, Nat.le_of_ble_eq_true rfl⟩ (fun r σ6394 hp => ?_)
            obtain ⟨h6395, x6397, rfl⟩ := hp
            have h6396 := HS.trans h6384 h6395 (by decide)
            have ga6398 := ga6385.of (h6395.2 (c + 17) (by rw [kC_at (k := 17) (by decide)]; decide))
            refine m_lstore_n F (lv' := [(3, .long x6397), (0, .ref c), (1, .int (nI n6356)), (2, .int (nI n6359))]) e_X10_ifIndex_120 (by decide) rfl ?_
            refine m_aload_n F rfl e_X10_ifIndex_121 ?_
            refine r_callV F e_X10_ifIndex_122 (q_X10_back1 (x_l X) V c T Z u h P L _ _ L h6396.1 (hok.b) hP ga6398) cb_X10_back1 ml_X10_332 im_X10_back1 se_X10_back1 h6396 rfl rfl (rest := []) rfl (Nat.le_of_ble_eq_true rfl) ⟨Nat.le_of_ble_eq_true rfl, Nat.le_of_ble_eq_true rfl⟩ ⟨Nat.le_of_ble_eq_true rfl, Nat.le_of_ble_eq_true rfl⟩ (fun r σ6399 hp => ?_)
            obtain ⟨h6400, rfl⟩ := hp
            have h6401 := HS.trans h6396 h6400 (by decide)
            have ga6402 := ga6398.of (h6400.2 (c + 17) (by rw [kC_at (k := 17) (by decide)]; decide))
            refine m_lload_n F rfl e_X10_ifIndex_125 ?_
            exact m_lret F hQ e_X10_ifIndex_126 (⟨h6401, _, rfl⟩)
          · have c48 : n6368 = 0 := (nI_eq (a := n6368) (b := 0) (by omega) (by omega)).mp q48
            refine m_aload_n F rfl e_X10_ifIndex_51 ?_
            refine r_get F e_X10_ifIndex_52 fl_X10_59 h6367 rfl (fun v hv f6403 => ?_)
            obtain rfl : v = .ref (c + 16) := hv
            refine m_sipush F (v := 160) (by decide) e_X10_ifIndex_55 ?_
            refine m_iload_n F rfl e_X10_ifIndex_58 ?_
            refine m_imul F e_X10_ifIndex_59 ?_
            refine Wm.topE (w := nI (160 * n6356)) (pk_mul 160 n6356) ?_
            refine m_bipush F (v := 6) (by decide) e_X10_ifIndex_60 ?_
            refine m_iadd F e_X10_ifIndex_62 ?_
            refine Wm.topE (w := nI (160 * n6356 + 6)) (nI_add (160 * n6356) 6) ?_
            refine r_sld F (j := 160 * n6356 + 6) e_X10_ifIndex_63 h6367 (nI_clamp (by omega)) (vp_in_nI (by omega) (by decide)) (fun x6404 h6405 f6406 => ?_)
            exact m_lret F hQ e_X10_ifIndex_64 (⟨h6367, _, rfl⟩)
      · have c24 : n6359 > 2000 := by have hh := mt (nI_leI (a := n6359) (b := 2000) (by omega) (by omega)).mpr q24; omega
        refine m_ldc2 F kc_X10_245 e_X10_ifIndex_27 ?_
        exact m_lret F hQ e_X10_ifIndex_30 (⟨h6354, _, rfl⟩)
set_option maxRecDepth 20000 in
theorem q_X10_rate (l : Launch) (V : VX) (c T Z u h : Nat) (P : NP) (L : Nat → LQ) (N : Nat) (σ : Mem) (x901 : Int32) (x902 : Int32) (h0 : HR V c ⟨T, Z, u, h, P, L⟩ σ) (hok : OKL P.n0 L) (hP : OKP P) (hp0 : u ≤ 20) (hp1 : P.kk = P.n0) : Ct l V yX10_rate cX10_rate 3 (some .long) 3 0 0 N σ [.ref c, .int x901, .int x902] (fun r τ => ∃ u9, u9 ≤ 20 ∧ ∃ L9, OKL P.n0 L9 ∧ HS V c (⟨T, Z, u9, h, P, L9⟩ : RG) [0, 2, 3, 4, 5, 6, 7, 8, 9, 10, 11, 12, 13, 14, 15, 16, 18, 19, 20, 22] σ τ ∧ ∃ x : Int64, r = some (.long x)) := by
  refine Ct.of (by decide) (Nat.le_of_ble_eq_true rfl) [(0, .ref c), (1, .int x901), (2, .int x902)] rfl (fun X hX F hQ => ?_)
  have hPP := hP
  unfold OKP at hPP
  have h1 : HS V c ⟨T, Z, u, h, P, L⟩ [0, 2, 3, 4, 5, 6, 7, 8, 9, 10, 11, 12, 13, 14, 15, 16, 18, 19, 20, 22] σ σ := HS.start h0
  refine m_aload_n F rfl e_X10_rate_0 ?_
  refine m_iconst F (v := 0) (by decide) e_X10_rate_1 ?_
  refine r_put F (g' := (⟨T, Z, u, h, P, L⟩ : RG)) e_X10_rate_2 fp_X10_91 h1 (by decide) ⟨_, rfl⟩ (fun _ _ _ _ q => q) (fun _ _ _ q => q) rfl rfl (by decide) (fun σ6407 h6408 g6409 g6410 f6411 => ?_)
  refine m_aload_n F rfl e_X10_rate_5 ?_
  refine m_iload_n F rfl e_X10_rate_6 ?_
  refine r_callV F e_X10_rate_7 (q_X10_isRunning (x_l X) V c T Z u h P L _ _ x901 h6408.1 (hok.b) hP ) cb_X10_isRunning ml_X10_301 im_X10_isRunning se_X10_isRunning h6408 rfl rfl (rest := []) rfl (Nat.le_of_ble_eq_true rfl) ⟨Nat.le_of_ble_eq_true rfl, Nat.le_of_ble_eq_true rfl⟩ ⟨Nat.le_of_ble_eq_true rfl, Nat.le_of_ble_eq_true rfl⟩ (fun r σ6412 hp => ?_)
  obtain ⟨h6413, c6415⟩ := hp
  have h6414 := HS.trans h6408 h6413 (by decide)
  rcases c6415 with rfl | ⟨n6416, h6417, h6418, e6419, rfl⟩
  · refine m_if_eq F e_X10_rate_10 (fun _ => ?_) (fun q => absurd (by decide) q)
    refine m_ldc2 F kc_X10_299 e_X10_rate_23 ?_
    exact m_lret F hQ e_X10_rate_26 (⟨u, by omega, L, hok, h6414, _, rfl⟩)
  · subst e6419
    refine m_if_eq F e_X10_rate_10 (fun q => absurd q (by decide)) (fun _ => ?_)
    refine m_iload_n F rfl e_X10_rate_13 ?_
    refine m_if_lt F e_X10_rate_14 (fun q14 => ?_) (fun q14 => ?_)
    · refine m_ldc2 F kc_X10_299 e_X10_rate_23 ?_
      exact m_lret F hQ e_X10_rate_26 (⟨u, by omega, L, hok, h6414, _, rfl⟩)
    · obtain ⟨n6420, hn6420, rfl⟩ := nI_nn (x := x902) (fun e => q14 (Int32.lt_of_lt_of_le e (by decide)))
      have c14 : n6420 ≥ 0 := by have hh := mt (nI_ltI (a := n6420) (b := 0) (by omega) (by omega)).mpr q14; omega
      refine m_iload_n F rfl e_X10_rate_17 ?_
      refine m_ldc F kc_X10_169 e_X10_rate_18 ?_
      refine m_icmp_le F e_X10_rate_20 (fun q20 => ?_) (fun q20 => ?_)
      · have c20 : n6420 ≤ 200000 := (nI_leI (a := n6420) (b := 200000) (by omega) (by omega)).mp q20
        refine m_aload_n F rfl e_X10_rate_27 ?_
        refine r_callV F e_X10_rate_28 (q_X10_remembers (x_l X) V c T Z u h P L _ _  h6414.1 (hok) hP (by first | omega | assumption | decide) (by first | omega | assumption | decide)) cb_X10_remembers ml_X10_286 im_X10_remembers se_X10_remembers h6414 rfl rfl (rest := []) rfl (Nat.le_of_ble_eq_true rfl) ⟨Nat.le_of_ble_eq_true rfl, Nat.le_of_ble_eq_true rfl⟩ ⟨Nat.le_of_ble_eq_true rfl, Nat.le_of_ble_eq_true rfl⟩ (fun r σ6421 hp => ?_)
        obtain ⟨u6424, hu6424, h6422, rfl⟩ := hp
        have h6423 := HS.trans h6414 h6422 (by decide)
        refine m_aload_n F rfl e_X10_rate_31 ?_
        refine r_get F e_X10_rate_32 fl_X10_59 h6423 rfl (fun v hv f6425 => ?_)
        obtain rfl : v = .ref (c + 16) := hv
        refine m_sipush F (v := 160) (by decide) e_X10_rate_35 ?_
        refine m_iload_n F rfl e_X10_rate_38 ?_
        refine m_imul F e_X10_rate_39 ?_
        refine Wm.topE (w := nI (160 * n6416)) (pk_mul 160 n6416) ?_
        refine m_iconst F (v := 2) (by decide) e_X10_rate_40 ?_
        refine m_iadd F e_X10_rate_41 ?_
        refine Wm.topE (w := nI (160 * n6416 + 2)) (nI_add (160 * n6416) 2) ?_
        refine m_iload_n F rfl e_X10_rate_42 ?_
        refine m_i2l F e_X10_rate_43 ?_
        refine Wm.toplE (w := lN n6420) (nI_l (by omega)) ?_
        refine r_sst F (g' := (⟨T, Z, u6424, h, P, L⟩ : RG)) (j := 160 * n6416 + 2) e_X10_rate_44 h6423 (by decide) (nI_clamp (by omega)) (vp_in_nI (by omega) (by decide)) (fun f q => EJ_same ((EJ_l (l := n6416) (r := 2) (by omega) (by decide)).mpr ⟨n6420, by omega, rfl⟩) q) (fun _ _ _ q => q) (fun σ6426 h6427 g6428 => ?_)
        refine m_aload_n F rfl e_X10_rate_45 ?_
        refine m_iload_n F rfl e_X10_rate_46 ?_
        refine r_callV F e_X10_rate_47 (q_X10_remeasures (x_l X) V c T Z u6424 h P L _ _ n6416 h6427.1 (hok.b) hP (by omega)) cb_X10_remeasures ml_X10_277 im_X10_remeasures se_X10_remeasures h6427 rfl rfl (rest := []) rfl (Nat.le_of_ble_eq_true rfl) ⟨Nat.le_of_ble_eq_true rfl, Nat.le_of_ble_eq_true rfl⟩ ⟨Nat.le_of_ble_eq_true rfl, Nat.le_of_ble_eq_true rfl⟩ (fun r σ6429 hp => ?_)
        obtain ⟨h6430, x6432, rfl⟩ := hp
        have h6431 := HS.trans h6427 h6430 (by decide)
        exact m_lret F hQ e_X10_rate_50 (⟨u6424, by omega, L, hok, h6431, _, rfl⟩)
      · have c20 : n6420 > 200000 := by have hh := mt (nI_leI (a := n6420) (b := 200000) (by omega) (by omega)).mpr q20; omega
        refine m_ldc2 F kc_X10_299 e_X10_rate_23 ?_
        exact m_lret F hQ e_X10_rate_26 (⟨u, by omega, L, hok, h6414, _, rfl⟩)
set_option maxRecDepth 20000 in
theorem q_X10_extend (l : Launch) (V : VX) (c T Z u h : Nat) (P : NP) (L : Nat → LQ) (N : Nat) (σ : Mem) (x901 : Int32) (x902 : Int32) (h0 : HR V c ⟨T, Z, u, h, P, L⟩ σ) (hok : OKL P.n0 L) (hP : OKP P) (hp0 : u ≤ 20) (hp1 : P.kk = P.n0) : Ct l V yX10_extend cX10_extend 4 (some .long) 3 0 0 N σ [.ref c, .int x901, .int x902] (fun r τ => ∃ u9, u9 ≤ 20 ∧ ∃ L9, OKL P.n0 L9 ∧ HS V c (⟨T, Z, u9, h, P, L9⟩ : RG) [0, 2, 3, 4, 5, 6, 7, 8, 9, 10, 11, 12, 13, 14, 15, 16, 18, 19, 20, 22] σ τ ∧ ∃ x : Int64, r = some (.long x)) := by
  refine Ct.of (by decide) (Nat.le_of_ble_eq_true rfl) [(0, .ref c), (1, .int x901), (2, .int x902)] rfl (fun X hX F hQ => ?_)
  have hPP := hP
  unfold OKP at hPP
  have h1 : HS V c ⟨T, Z, u, h, P, L⟩ [0, 2, 3, 4, 5, 6, 7, 8, 9, 10, 11, 12, 13, 14, 15, 16, 18, 19, 20, 22] σ σ := HS.start h0
  refine m_aload_n F rfl e_X10_extend_0 ?_
  refine m_iconst F (v := 0) (by decide) e_X10_extend_1 ?_
  refine r_put F (g' := (⟨T, Z, u, h, P, L⟩ : RG)) e_X10_extend_2 fp_X10_91 h1 (by decide) ⟨_, rfl⟩ (fun _ _ _ _ q => q) (fun _ _ _ q => q) rfl rfl (by decide) (fun σ6433 h6434 g6435 g6436 f6437 => ?_)
  refine m_aload_n F rfl e_X10_extend_5 ?_
  refine m_iload_n F rfl e_X10_extend_6 ?_
  refine r_callV F e_X10_extend_7 (q_X10_isRunning (x_l X) V c T Z u h P L _ _ x901 h6434.1 (hok.b) hP ) cb_X10_isRunning ml_X10_301 im_X10_isRunning se_X10_isRunning h6434 rfl rfl (rest := []) rfl (Nat.le_of_ble_eq_true rfl) ⟨Nat.le_of_ble_eq_true rfl, Nat.le_of_ble_eq_true rfl⟩ ⟨Nat.le_of_ble_eq_true rfl, Nat.le_of_ble_eq_true rfl⟩ (fun r σ6438 hp => ?_)
  obtain ⟨h6439, c6441⟩ := hp
  have h6440 := HS.trans h6434 h6439 (by decide)
  rcases c6441 with rfl | ⟨n6442, h6443, h6444, e6445, rfl⟩
  · refine m_if_eq F e_X10_extend_10 (fun _ => ?_) (fun q => absurd (by decide) q)
    refine m_ldc2 F kc_X10_299 e_X10_extend_33 ?_
    exact m_lret F hQ e_X10_extend_36 (⟨u, by omega, L, hok, h6440, _, rfl⟩)
  · subst e6445
    refine m_if_eq F e_X10_extend_10 (fun q => absurd q (by decide)) (fun _ => ?_)
    refine m_iload_n F rfl e_X10_extend_13 ?_
    refine m_iconst F (v := 1) (by decide) e_X10_extend_14 ?_
    refine m_icmp_lt F e_X10_extend_15 (fun q15 => ?_) (fun q15 => ?_)
    · refine m_ldc2 F kc_X10_299 e_X10_extend_33 ?_
      exact m_lret F hQ e_X10_extend_36 (⟨u, by omega, L, hok, h6440, _, rfl⟩)
    · obtain ⟨n6446, hn6446, rfl⟩ := nI_nn (x := x902) (fun e => q15 (Int32.lt_of_lt_of_le e (by decide)))
      have c15 : n6446 ≥ 1 := by have hh := mt (nI_ltI (a := n6446) (b := 1) (by omega) (by omega)).mpr q15; omega
      refine m_iload_n F rfl e_X10_extend_18 ?_
      refine m_bipush F (v := 24) (by decide) e_X10_extend_19 ?_
      refine m_icmp_gt F e_X10_extend_21 (fun q21 => ?_) (fun q21 => ?_)
      · have c21 : n6446 > 24 := (nI_ltI (a := 24) (b := n6446) (by omega) (by omega)).mp q21
        refine m_ldc2 F kc_X10_299 e_X10_extend_33 ?_
        exact m_lret F hQ e_X10_extend_36 (⟨u, by omega, L, hok, h6440, _, rfl⟩)
      · have c21 : n6446 ≤ 24 := by have hh := mt (nI_ltI (a := 24) (b := n6446) (by omega) (by omega)).mpr q21; omega
        refine m_aload_n F rfl e_X10_extend_24 ?_
        refine m_iload_n F rfl e_X10_extend_25 ?_
        refine m_iload_n F rfl e_X10_extend_26 ?_
        refine r_callV F e_X10_extend_27 (q_X10_canBeLonger (x_l X) V c T Z u h P L _ _ n6442 n6446 h6440.1 (hok.b) hP (by omega) (by omega)) cb_X10_canBeLonger ml_X10_306 im_X10_canBeLonger se_X10_canBeLonger h6440 rfl rfl (rest := []) rfl (Nat.le_of_ble_eq_true rfl) ⟨Nat.le_of_ble_eq_true rfl, Nat.le_of_ble_eq_true rfl⟩ ⟨Nat.le_of_ble_eq_true rfl, Nat.le_of_ble_eq_true rfl⟩ (fun r σ6447 hp => ?_)
        obtain ⟨h6448, c6450⟩ := hp
        have h6449 := HS.trans h6440 h6448 (by decide)
        rcases c6450 with rfl | ⟨h6451, rfl⟩
        · refine m_if_ne F e_X10_extend_30 (fun q => absurd (by decide) q) (fun _ => ?_)
          refine m_ldc2 F kc_X10_299 e_X10_extend_33 ?_
          exact m_lret F hQ e_X10_extend_36 (⟨u, by omega, L, hok, h6449, _, rfl⟩)
        · refine m_if_ne F e_X10_extend_30 (fun _ => ?_) (fun q => absurd q (by decide))
          refine m_aload_n F rfl e_X10_extend_37 ?_
          refine r_callV F e_X10_extend_38 (q_X10_remembers (x_l X) V c T Z u h P L _ _  h6449.1 (hok) hP (by first | omega | assumption | decide) (by first | omega | assumption | decide)) cb_X10_remembers ml_X10_286 im_X10_remembers se_X10_remembers h6449 rfl rfl (rest := []) rfl (Nat.le_of_ble_eq_true rfl) ⟨Nat.le_of_ble_eq_true rfl, Nat.le_of_ble_eq_true rfl⟩ ⟨Nat.le_of_ble_eq_true rfl, Nat.le_of_ble_eq_true rfl⟩ (fun r σ6452 hp => ?_)
          obtain ⟨u6455, hu6455, h6453, rfl⟩ := hp
          have h6454 := HS.trans h6449 h6453 (by decide)
          have hl6456 := hok.2 n6442 (by omega)
          have hl6457 := hok.2 n6442 (by omega)
          have hl6458 := hok.2 n6442 (by omega)
          refine m_sipush F (v := 160) (by decide) e_X10_extend_41 ?_
          refine m_iload_n F rfl e_X10_extend_44 ?_
          refine m_imul F e_X10_extend_45 ?_
          refine Wm.topE (w := nI (160 * n6442)) (pk_mul 160 n6442) ?_
          refine m_aload_n F rfl e_X10_extend_46 ?_
          refine r_get F e_X10_extend_47 fl_X10_59 h6454 rfl (fun v hv f6459 => ?_)
          obtain rfl : v = .ref (c + 16) := hv
          refine m_sipush F (v := 160) (by decide) e_X10_extend_50 ?_
          refine m_iload_n F rfl e_X10_extend_53 ?_
          refine m_imul F e_X10_extend_54 ?_
          refine Wm.topE (w := nI (160 * n6442)) (pk_mul 160 n6442) ?_
          refine m_iconst F (v := 1) (by decide) e_X10_extend_55 ?_
          refine m_iadd F e_X10_extend_56 ?_
          refine Wm.topE (w := nI (160 * n6442 + 1)) (nI_add (160 * n6442) 1) ?_
          refine r_sld F (j := 160 * n6442 + 1) e_X10_extend_57 h6454 (nI_clamp (by omega)) (vp_in_nI (by omega) (by decide)) (fun x6460 h6461 f6462 => ?_)
          have hl6463 := hok.2 n6442 (by omega)
          obtain rfl : x6460 = lN (L n6442).2.1 := (EJ_l (l := n6442) (r := 1) (by omega) (by decide)).mp h6461
          refine m_l2i F e_X10_extend_58 ?_
          refine Wm.topE (w := nI ((L n6442).2.1)) (lN_i ((L n6442).2.1)) ?_
          refine m_iadd F e_X10_extend_59 ?_
          refine Wm.topE (w := nI ((160 * n6442) + ((L n6442).2.1))) (nI_add (160 * n6442) ((L n6442).2.1)) ?_
          refine m_iconst F (v := 1) (by decide) e_X10_extend_60 ?_
          refine m_isub F e_X10_extend_61 ?_
          refine Wm.topE (w := nI (((160 * n6442) + ((L n6442).2.1)) - 1)) (pk_sub (a := (160 * n6442) + ((L n6442).2.1)) (b := 1) (by omega)) ?_
          refine m_istore_n F (lv' := [(3, .int (nI (((160 * n6442) + ((L n6442).2.1)) - 1))), (0, .ref c), (1, .int (nI n6442)), (2, .int (nI n6446))]) e_X10_extend_62 (by decide) rfl ?_
          refine m_aload_n F rfl e_X10_extend_63 ?_
          refine m_iload_n F rfl e_X10_extend_64 ?_
          refine m_iload_n F rfl e_X10_extend_65 ?_
          refine m_aload_n F rfl e_X10_extend_66 ?_
          refine r_getC F e_X10_extend_67 fl_X10_59 h6454 (f6459) ?_
          refine m_iload_n F rfl e_X10_extend_70 ?_
          refine m_bipush F (v := 13) (by decide) e_X10_extend_71 ?_
          refine m_iadd F e_X10_extend_73 ?_
          refine Wm.topE (w := nI (((160 * n6442) + ((L n6442).2.1)) - 1 + 13)) (nI_add (((160 * n6442) + ((L n6442).2.1)) - 1) 13) ?_
          refine r_sld F (j := ((160 * n6442) + ((L n6442).2.1)) - 1 + 13) e_X10_extend_74 h6454 (nI_clamp (by omega)) (vp_in_nI (by omega) (by decide)) (fun x6464 h6465 f6466 => ?_)
          refine m_aload_n F rfl e_X10_extend_75 ?_
          refine r_getC F e_X10_extend_76 fl_X10_59 h6454 (f6459) ?_
          refine m_iload_n F rfl e_X10_extend_79 ?_
          refine m_bipush F (v := 85) (by decide) e_X10_extend_80 ?_
          refine m_iadd F e_X10_extend_82 ?_
          refine Wm.topE (w := nI (((160 * n6442) + ((L n6442).2.1)) - 1 + 85)) (nI_add (((160 * n6442) + ((L n6442).2.1)) - 1) 85) ?_
          refine r_sld F (j := ((160 * n6442) + ((L n6442).2.1)) - 1 + 85) e_X10_extend_83 h6454 (nI_clamp (by omega)) (vp_in_nI (by omega) (by decide)) (fun x6467 h6468 f6469 => ?_)
          refine r_callV F e_X10_extend_84 (q_X10_adds (x_l X) V c T Z u6455 h P L _ _ n6442 n6446 x6464 x6467 h6454.1 (hok) hP (by omega) (by omega) (by first | omega | assumption | decide)) cb_X10_adds ml_X10_309 im_X10_adds se_X10_adds h6454 rfl rfl (rest := []) rfl (Nat.le_of_ble_eq_true rfl) ⟨Nat.le_of_ble_eq_true rfl, Nat.le_of_ble_eq_true rfl⟩ ⟨Nat.le_of_ble_eq_true rfl, Nat.le_of_ble_eq_true rfl⟩ (fun r σ6470 hp => ?_)
          obtain ⟨L6473, okL6473, r6474, r6475, r6476, h6471, rfl⟩ := hp
          have h6472 := HS.trans h6454 h6471 (by decide)
          refine m_aload_n F rfl e_X10_extend_87 ?_
          refine m_iload_n F rfl e_X10_extend_88 ?_
          refine r_callV F e_X10_extend_89 (q_X10_remeasures (x_l X) V c T Z u6455 h P L6473 _ _ n6442 h6472.1 (okL6473.b) hP (by omega)) cb_X10_remeasures ml_X10_277 im_X10_remeasures se_X10_remeasures h6472 rfl rfl (rest := []) rfl (Nat.le_of_ble_eq_true rfl) ⟨Nat.le_of_ble_eq_true rfl, Nat.le_of_ble_eq_true rfl⟩ ⟨Nat.le_of_ble_eq_true rfl, Nat.le_of_ble_eq_true rfl⟩ (fun r σ6477 hp => ?_)
          obtain ⟨h6478, x6480, rfl⟩ := hp
          have h6479 := HS.trans h6472 h6478 (by decide)
          exact m_lret F hQ e_X10_extend_92 (⟨u6455, by omega, L6473, okL6473, h6479, _, rfl⟩)
set_option maxRecDepth 20000 in
theorem q_X10_canTake (l : Launch) (V : VX) (c T Z u h : Nat) (P : NP) (L : Nat → LQ) (N : Nat) (σ : Mem) (x901 : Int32) (h0 : HR V c ⟨T, Z, u, h, P, L⟩ σ) (hob : OKB L) (hP : OKP P)  : Ct l V yX10_canTake cX10_canTake 2 (some .boolean) 1 0 0 N σ [.ref c, .int x901] (fun r τ => HS V c (⟨T, Z, u, h, P, L⟩ : RG) [0, 1, 2, 3, 4, 5, 6, 7, 8, 9, 10, 11, 12, 13, 14, 15, 16, 17, 18, 19, 20, 21, 22, 23] σ τ ∧ (r = some (.int 0) ∨ ∃ j n m : Nat, j ≤ 3 ∧ n ≤ 3 ∧ m ≤ 24 ∧ (L n).1 = 1 ∧ (L n).2.1 + m ≤ 72 ∧ elI τ (c + 13) j = some (nI n) ∧ elI τ (c + 14) j = some (nI m) ∧ x901 = nI j ∧ r = some (.int 1))) := by
  refine Ct.of (by decide) (Nat.le_of_ble_eq_true rfl) [(0, .ref c), (1, .int x901)] rfl (fun X hX F hQ => ?_)
  have hPP := hP
  unfold OKP at hPP
  have h1 : HS V c ⟨T, Z, u, h, P, L⟩ [0, 1, 2, 3, 4, 5, 6, 7, 8, 9, 10, 11, 12, 13, 14, 15, 16, 17, 18, 19, 20, 21, 22, 23] σ σ := HS.start h0
  refine m_iload_n F rfl e_X10_canTake_0 ?_
  refine m_if_lt F e_X10_canTake_1 (fun q1 => ?_) (fun q1 => ?_)
  · refine m_iconst F (v := 0) (by decide) e_X10_canTake_65 ?_
    exact m_zret F hQ e_X10_canTake_66 (by decide) (⟨h1, Or.inl rfl⟩)
  · obtain ⟨n6481, hn6481, rfl⟩ := nI_nn (x := x901) (fun e => q1 (Int32.lt_of_lt_of_le e (by decide)))
    have c1 : n6481 ≥ 0 := by have hh := mt (nI_ltI (a := n6481) (b := 0) (by omega) (by omega)).mpr q1; omega
    refine m_iload_n F rfl e_X10_canTake_4 ?_
    refine m_aload_n F rfl e_X10_canTake_5 ?_
    refine r_get F e_X10_canTake_6 fl_X10_13 h1 rfl (fun v hv f6482 => ?_)
    obtain rfl : v = .ref (c + 2) := hv
    refine m_iconst F (v := 3) (by decide) e_X10_canTake_9 ?_
    refine r_iald F (len := 10) (j := 3) e_X10_canTake_10 h1 (fun _ h => h) (by decide) (by decide) (by unfold vp_in; decide) (fun x6483 h6484 f6485 => ?_)
    obtain ⟨n6486, hn6486, rfl⟩ := h6484.2.2.2.2.1 rfl
    refine m_icmp_ge F e_X10_canTake_11 (fun q11 => ?_) (fun q11 => ?_)
    · have c11 : n6481 ≥ n6486 := (nI_leI (a := n6486) (b := n6481) (by omega) (by omega)).mp q11
      refine m_iconst F (v := 0) (by decide) e_X10_canTake_65 ?_
      exact m_zret F hQ e_X10_canTake_66 (by decide) (⟨h1, Or.inl rfl⟩)
    · have c11 : n6481 < n6486 := by have hh := mt (nI_leI (a := n6486) (b := n6481) (by omega) (by omega)).mpr q11; omega
      refine m_aload_n F rfl e_X10_canTake_14 ?_
      refine r_get F e_X10_canTake_15 fl_X10_59 h1 rfl (fun v hv f6487 => ?_)
      obtain rfl : v = .ref (c + 16) := hv
      refine m_sipush F (v := 640) (by decide) e_X10_canTake_18 ?_
      refine m_iload_n F rfl e_X10_canTake_21 ?_
      refine m_iadd F e_X10_canTake_22 ?_
      refine Wm.topE (w := nI (640 + n6481)) (nI_add 640 n6481) ?_
      refine r_sld F (j := 640 + n6481) e_X10_canTake_23 h1 (nI_clamp (by omega)) (vp_in_nI (by omega) (by decide)) (fun x6488 h6489 f6490 => ?_)
      refine m_lconst F (v := 0) (by decide) e_X10_canTake_24 ?_
      refine m_lcmp F e_X10_canTake_25 ?_
      refine Wm.top (fun x6491 _ => ?_)
      refine m_if_ne F e_X10_canTake_26 (fun q26 => ?_) (fun q26 => ?_)
      · refine m_iconst F (v := 0) (by decide) e_X10_canTake_65 ?_
        exact m_zret F hQ e_X10_canTake_66 (by decide) (⟨h1, Or.inl rfl⟩)
      · subst q26
        refine m_aload_n F rfl e_X10_canTake_29 ?_
        refine m_aload_n F rfl e_X10_canTake_30 ?_
        refine r_get F e_X10_canTake_31 fl_X10_46 h1 rfl (fun v hv f6492 => ?_)
        obtain rfl : v = .ref (c + 13) := hv
        refine m_iload_n F rfl e_X10_canTake_34 ?_
        refine r_iald F (len := 8) (j := n6481) e_X10_canTake_35 h1 (fun _ h => h) (by decide) (nI_clamp (by omega)) (vp_in_nI (by omega) (by decide)) (fun x6493 h6494 f6495 => ?_)
        obtain ⟨n6496, hn6496, rfl⟩ := h6494
        refine r_callV F e_X10_canTake_36 (q_X10_isOn (x_l X) V c T Z u h P L _ _ n6496 h1.1 (hob) hP (by omega)) cb_X10_isOn ml_X10_267 im_X10_isOn se_X10_isOn h1 rfl rfl (rest := []) rfl (Nat.le_of_ble_eq_true rfl) ⟨Nat.le_of_ble_eq_true rfl, Nat.le_of_ble_eq_true rfl⟩ ⟨Nat.le_of_ble_eq_true rfl, Nat.le_of_ble_eq_true rfl⟩ (fun r σ6497 hp => ?_)
        obtain ⟨h6498, c6500⟩ := hp
        have h6499 := HS.trans h1 h6498 (by decide)
        rcases c6500 with ⟨g6501, rfl⟩ | ⟨g6501, rfl⟩
        · refine m_if_eq F e_X10_canTake_39 (fun _ => ?_) (fun q => absurd (by decide) q)
          refine m_iconst F (v := 0) (by decide) e_X10_canTake_65 ?_
          exact m_zret F hQ e_X10_canTake_66 (by decide) (⟨h6499, Or.inl rfl⟩)
        · refine m_if_eq F e_X10_canTake_39 (fun q => absurd q (by decide)) (fun _ => ?_)
          refine m_aload_n F rfl e_X10_canTake_42 ?_
          refine m_aload_n F rfl e_X10_canTake_43 ?_
          refine r_getC F e_X10_canTake_44 fl_X10_46 h6499 ((fld_eq (h6498.2 c (by rw [show kC c c = 1 from kC_at (k := 0) (by decide)]; decide))).trans f6492) ?_
          refine m_iload_n F rfl e_X10_canTake_47 ?_
          refine r_iald F (len := 8) (j := n6481) e_X10_canTake_48 h6499 (fun _ h => h) (by decide) (nI_clamp (by omega)) (vp_in_nI (by omega) (by decide)) (fun x6502 h6503 f6504 => ?_)
          obtain rfl := Option.some.inj ((f6504).symm.trans ((elI_eq (h6498.2 (c + 13) (by rw [kC_at (k := 13) (by decide)]; decide))).trans f6495))
          refine m_aload_n F rfl e_X10_canTake_49 ?_
          refine r_get F e_X10_canTake_50 fl_X10_49 h6499 rfl (fun v hv f6505 => ?_)
          obtain rfl : v = .ref (c + 14) := hv
          refine m_iload_n F rfl e_X10_canTake_53 ?_
          refine r_iald F (len := 8) (j := n6481) e_X10_canTake_54 h6499 (fun _ h => h) (by decide) (nI_clamp (by omega)) (vp_in_nI (by omega) (by decide)) (fun x6506 h6507 f6508 => ?_)
          obtain ⟨n6509, hn6509, rfl⟩ := h6507
          refine r_callV F e_X10_canTake_55 (q_X10_canBeLonger (x_l X) V c T Z u h P L _ _ n6496 n6509 h6499.1 (hob) hP (by omega) (by omega)) cb_X10_canBeLonger ml_X10_306 im_X10_canBeLonger se_X10_canBeLonger h6499 rfl rfl (rest := []) rfl (Nat.le_of_ble_eq_true rfl) ⟨Nat.le_of_ble_eq_true rfl, Nat.le_of_ble_eq_true rfl⟩ ⟨Nat.le_of_ble_eq_true rfl, Nat.le_of_ble_eq_true rfl⟩ (fun r σ6510 hp => ?_)
          obtain ⟨h6511, c6513⟩ := hp
          have h6512 := HS.trans h6499 h6511 (by decide)
          rcases c6513 with rfl | ⟨h6514, rfl⟩
          · refine m_if_eq F e_X10_canTake_58 (fun _ => ?_) (fun q => absurd (by decide) q)
            refine m_iconst F (v := 0) (by decide) e_X10_canTake_65 ?_
            exact m_zret F hQ e_X10_canTake_66 (by decide) (⟨h6512, Or.inl rfl⟩)
          · refine m_if_eq F e_X10_canTake_58 (fun q => absurd q (by decide)) (fun _ => ?_)
            refine m_iconst F (v := 1) (by decide) e_X10_canTake_61 ?_
            refine m_goto F e_X10_canTake_62 ?_
            exact m_zret F hQ e_X10_canTake_66 (by decide) (⟨h6512, Or.inr ⟨n6481, n6496, n6509, by omega, by omega, by omega, by omega, by omega, (elI_eq (h6511.2 (c + 13) (by rw [kC_at (k := 13) (by decide)]; decide))).trans ((elI_eq (h6498.2 (c + 13) (by rw [kC_at (k := 13) (by decide)]; decide))).trans f6495), (elI_eq (h6511.2 (c + 14) (by rw [kC_at (k := 14) (by decide)]; decide))).trans f6508, rfl, rfl⟩⟩)
set_option maxRecDepth 20000 in
theorem q_X10_takes (l : Launch) (V : VX) (c T Z u h : Nat) (P : NP) (L : Nat → LQ) (N : Nat) (σ : Mem) (n901 : Nat) (n m : Nat) (h0 : HR V c ⟨T, Z, u, h, P, L⟩ σ) (hok : OKL P.n0 L) (hP : OKP P) (hn901 : n901 ≤ 3) (hp0 : n ≤ 3) (hp1 : m ≤ 24) (hp2 : (L n).1 = 1) (hp3 : (L n).2.1 + m ≤ 72) (hp4 : elI σ (c + 13) n901 = some (nI n)) (hp5 : elI σ (c + 14) n901 = some (nI m)) : Ct l V yX10_takes cX10_takes 3 (some .long) 3 0 0 N σ [.ref c, .int (nI n901)] (fun r τ => ∃ L9, OKL P.n0 L9 ∧ HS V c (⟨T, Z, u, h, P, L9⟩ : RG) [0, 1, 2, 3, 4, 5, 6, 7, 8, 9, 10, 11, 12, 13, 14, 15, 16, 18, 19, 20, 21, 22] σ τ ∧ ∃ x : Int64, r = some (.long x)) := by
  refine Ct.of (by decide) (Nat.le_of_ble_eq_true rfl) [(0, .ref c), (1, .int (nI n901))] rfl (fun X hX F hQ => ?_)
  have hPP := hP
  unfold OKP at hPP
  have h1 : HS V c ⟨T, Z, u, h, P, L⟩ [0, 1, 2, 3, 4, 5, 6, 7, 8, 9, 10, 11, 12, 13, 14, 15, 16, 18, 19, 20, 21, 22] σ σ := HS.start h0
  refine m_aload_n F rfl e_X10_takes_0 ?_
  refine r_get F e_X10_takes_1 fl_X10_46 h1 rfl (fun v hv f6515 => ?_)
  obtain rfl : v = .ref (c + 13) := hv
  refine m_iload_n F rfl e_X10_takes_4 ?_
  refine r_iald F (len := 8) (j := n901) e_X10_takes_5 h1 (fun _ h => h) (by decide) (nI_clamp (by omega)) (vp_in_nI (by omega) (by decide)) (fun x6516 h6517 f6518 => ?_)
  obtain rfl := Option.some.inj ((f6518).symm.trans (hp4))
  refine m_istore_n F (lv' := [(2, .int (nI n)), (0, .ref c), (1, .int (nI n901))]) e_X10_takes_6 (by decide) rfl ?_
  refine m_aload_n F rfl e_X10_takes_7 ?_
  refine r_get F e_X10_takes_8 fl_X10_59 h1 rfl (fun v hv f6519 => ?_)
  obtain rfl : v = .ref (c + 16) := hv
  refine m_sipush F (v := 640) (by decide) e_X10_takes_11 ?_
  refine m_iload_n F rfl e_X10_takes_14 ?_
  refine m_iadd F e_X10_takes_15 ?_
  refine Wm.topE (w := nI (640 + n901)) (nI_add 640 n901) ?_
  refine m_lconst F (v := 1) (by decide) e_X10_takes_16 ?_
  refine r_sst F (g' := (⟨T, Z, u, h, P, L⟩ : RG)) (j := 640 + n901) e_X10_takes_17 h1 (by decide) (nI_clamp (by omega)) (vp_in_nI (by omega) (by decide)) (fun f q => EJ_same (EJ_w (by omega)) q) (fun _ _ _ q => q) (fun σ6520 h6521 g6522 => ?_)
  refine m_aload_n F rfl e_X10_takes_18 ?_
  refine m_iload_n F rfl e_X10_takes_19 ?_
  refine m_aload_n F rfl e_X10_takes_20 ?_
  refine r_get F e_X10_takes_21 fl_X10_49 h6521 rfl (fun v hv f6523 => ?_)
  obtain rfl : v = .ref (c + 14) := hv
  refine m_iload_n F rfl e_X10_takes_24 ?_
  refine r_iald F (len := 8) (j := n901) e_X10_takes_25 h6521 (fun _ h => h) (by decide) (nI_clamp (by omega)) (vp_in_nI (by omega) (by decide)) (fun x6524 h6525 f6526 => ?_)
  obtain rfl := Option.some.inj ((f6526).symm.trans ((elI_eq (g6522 _ (by omega))).trans hp5))
  refine m_aload_n F rfl e_X10_takes_26 ?_
  refine r_get F e_X10_takes_27 fl_X10_52 h6521 rfl (fun v hv f6527 => ?_)
  obtain rfl : v = .ref (c + 15) := hv
  refine m_iload_n F rfl e_X10_takes_30 ?_
  refine r_iald F (len := 8) (j := n901) e_X10_takes_31 h6521 (fun _ h => h) (by decide) (nI_clamp (by omega)) (vp_in_nI (by omega) (by decide)) (fun x6528 h6529 f6530 => ?_)
  refine m_i2l F e_X10_takes_32 ?_
  refine Wm.topl (fun x6531 _ => ?_)
  refine m_aload_n F rfl e_X10_takes_33 ?_
  refine r_getC F e_X10_takes_34 fl_X10_52 h6521 (f6527) ?_
  refine m_iload_n F rfl e_X10_takes_37 ?_
  refine r_iald F (len := 8) (j := n901) e_X10_takes_38 h6521 (fun _ h => h) (by decide) (nI_clamp (by omega)) (vp_in_nI (by omega) (by decide)) (fun x6532 h6533 f6534 => ?_)
  obtain rfl := Option.some.inj ((f6534).symm.trans (f6530))
  refine m_i2l F e_X10_takes_39 ?_
  refine Wm.topl (fun x6535 _ => ?_)
  refine r_callV F e_X10_takes_40 (q_X10_adds (x_l X) V c T Z u h P L _ _ n m x6531 x6535 h6521.1 (hok) hP (by omega) (by omega) (by first | omega | assumption | decide)) cb_X10_adds ml_X10_309 im_X10_adds se_X10_adds h6521 rfl rfl (rest := []) rfl (Nat.le_of_ble_eq_true rfl) ⟨Nat.le_of_ble_eq_true rfl, Nat.le_of_ble_eq_true rfl⟩ ⟨Nat.le_of_ble_eq_true rfl, Nat.le_of_ble_eq_true rfl⟩ (fun r σ6536 hp => ?_)
  obtain ⟨L6539, okL6539, r6540, r6541, r6542, h6537, rfl⟩ := hp
  have h6538 := HS.trans h6521 h6537 (by decide)
  refine m_aload_n F rfl e_X10_takes_43 ?_
  refine m_iload_n F rfl e_X10_takes_44 ?_
  refine r_callV F e_X10_takes_45 (q_X10_isTied (x_l X) V c T Z u h P L6539 _ _ n h6538.1 (okL6539.b) hP (by omega)) cb_X10_isTied ml_X10_270 im_X10_isTied se_X10_isTied h6538 rfl rfl (rest := []) rfl (Nat.le_of_ble_eq_true rfl) ⟨Nat.le_of_ble_eq_true rfl, Nat.le_of_ble_eq_true rfl⟩ ⟨Nat.le_of_ble_eq_true rfl, Nat.le_of_ble_eq_true rfl⟩ (fun r σ6543 hp => ?_)
  obtain ⟨h6544, n6546, hn6546, rfl⟩ := hp
  have h6545 := HS.trans h6538 h6544 (by decide)
  refine m_if_eq F e_X10_takes_48 (fun q48 => ?_) (fun q48 => ?_)
  · have c48 : n6546 = 0 := (nI_eq (a := n6546) (b := 0) (by omega) (by omega)).mp q48
    refine m_aload_n F rfl e_X10_takes_60 ?_
    refine m_iload_n F rfl e_X10_takes_61 ?_
    refine r_callV F e_X10_takes_62 (q_X10_remeasures (x_l X) V c T Z u h P L6539 _ _ n h6545.1 (okL6539.b) hP (by omega)) cb_X10_remeasures ml_X10_277 im_X10_remeasures se_X10_remeasures h6545 rfl rfl (rest := []) rfl (Nat.le_of_ble_eq_true rfl) ⟨Nat.le_of_ble_eq_true rfl, Nat.le_of_ble_eq_true rfl⟩ ⟨Nat.le_of_ble_eq_true rfl, Nat.le_of_ble_eq_true rfl⟩ (fun r σ6547 hp => ?_)
    obtain ⟨h6548, x6550, rfl⟩ := hp
    have h6549 := HS.trans h6545 h6548 (by decide)
    exact m_lret F hQ e_X10_takes_65 (⟨L6539, okL6539, h6549, _, rfl⟩)
  · have c48 : n6546 ≠ 0 := by have hh := mt (nI_eq (a := n6546) (b := 0) (by omega) (by omega)).mpr q48; omega
    have hl6551 := okL6539.2 n (by omega)
    have hl6552 := okL6539.2 n (by omega)
    have hl6553 := okL6539.2 n (by omega)
    refine m_aload_n F rfl e_X10_takes_51 ?_
    refine m_iload_n F rfl e_X10_takes_52 ?_
    refine m_aload_n F rfl e_X10_takes_53 ?_
    refine r_callV F e_X10_takes_54 (q_X10_indexNow (x_l X) V c T Z u h P L6539 _ _  h6545.1 (okL6539.b) hP ) cb_X10_indexNow ml_X10_260 im_X10_indexNow se_X10_indexNow h6545 rfl rfl (rest := [.int (nI n), .ref c]) rfl (Nat.le_of_ble_eq_true rfl) ⟨Nat.le_of_ble_eq_true rfl, Nat.le_of_ble_eq_true rfl⟩ ⟨Nat.le_of_ble_eq_true rfl, Nat.le_of_ble_eq_true rfl⟩ (fun r σ6554 hp => ?_)
    obtain ⟨h6555, n6557, hn6557, gn6557, rfl⟩ := hp
    have h6556 := HS.trans h6545 h6555 (by decide)
    refine r_callV F e_X10_takes_57 (q_X10_indexes (x_l X) V c T Z u h P L6539 _ _ n n6557 h6556.1 (okL6539.b) hP (by omega) (by omega) (by first | omega | assumption | decide)) cb_X10_indexes ml_X10_273 im_X10_indexes se_X10_indexes h6556 rfl rfl (rest := []) rfl (Nat.le_of_ble_eq_true rfl) ⟨Nat.le_of_ble_eq_true rfl, Nat.le_of_ble_eq_true rfl⟩ ⟨Nat.le_of_ble_eq_true rfl, Nat.le_of_ble_eq_true rfl⟩ (fun r σ6558 hp => ?_)
    obtain ⟨h6559, rfl⟩ := hp
    have h6560 := HS.trans h6556 h6559 (by decide)
    refine m_aload_n F rfl e_X10_takes_60 ?_
    refine m_iload_n F rfl e_X10_takes_61 ?_
    refine r_callV F e_X10_takes_62 (q_X10_remeasures (x_l X) V c T Z u h P L6539 _ _ n h6560.1 (okL6539.b) hP (by omega)) cb_X10_remeasures ml_X10_277 im_X10_remeasures se_X10_remeasures h6560 rfl rfl (rest := []) rfl (Nat.le_of_ble_eq_true rfl) ⟨Nat.le_of_ble_eq_true rfl, Nat.le_of_ble_eq_true rfl⟩ ⟨Nat.le_of_ble_eq_true rfl, Nat.le_of_ble_eq_true rfl⟩ (fun r σ6561 hp => ?_)
    obtain ⟨h6562, x6564, rfl⟩ := hp
    have h6563 := HS.trans h6560 h6562 (by decide)
    exact m_lret F hQ e_X10_takes_65 (⟨L6539, okL6539, h6563, _, rfl⟩)
set_option maxRecDepth 20000 in
theorem q_X10_take (l : Launch) (V : VX) (c T Z u h : Nat) (P : NP) (L : Nat → LQ) (N : Nat) (σ : Mem) (x901 : Int32) (h0 : HR V c ⟨T, Z, u, h, P, L⟩ σ) (hok : OKL P.n0 L) (hP : OKP P) (hp0 : u ≤ 20) (hp1 : P.kk = P.n0) : Ct l V yX10_take cX10_take 2 (some .long) 4 0 0 N σ [.ref c, .int x901] (fun r τ => ∃ u9, u9 ≤ 20 ∧ ∃ L9, OKL P.n0 L9 ∧ HS V c (⟨T, Z, u9, h, P, L9⟩ : RG) [0, 2, 3, 4, 5, 6, 7, 8, 9, 10, 11, 12, 13, 14, 15, 16, 18, 19, 20, 22] σ τ ∧ ∃ x : Int64, r = some (.long x)) := by
  refine Ct.of (by decide) (Nat.le_of_ble_eq_true rfl) [(0, .ref c), (1, .int x901)] rfl (fun X hX F hQ => ?_)
  have hPP := hP
  unfold OKP at hPP
  have h1 : HS V c ⟨T, Z, u, h, P, L⟩ [0, 2, 3, 4, 5, 6, 7, 8, 9, 10, 11, 12, 13, 14, 15, 16, 18, 19, 20, 22] σ σ := HS.start h0
  refine m_aload_n F rfl e_X10_take_0 ?_
  refine m_iconst F (v := 0) (by decide) e_X10_take_1 ?_
  refine r_put F (g' := (⟨T, Z, u, h, P, L⟩ : RG)) e_X10_take_2 fp_X10_91 h1 (by decide) ⟨_, rfl⟩ (fun _ _ _ _ q => q) (fun _ _ _ q => q) rfl rfl (by decide) (fun σ6565 h6566 g6567 g6568 f6569 => ?_)
  refine m_aload_n F rfl e_X10_take_5 ?_
  refine m_iload_n F rfl e_X10_take_6 ?_
  refine r_callV F e_X10_take_7 (q_X10_canTake (x_l X) V c T Z u h P L _ _ x901 h6566.1 (hok.b) hP ) cb_X10_canTake ml_X10_313 im_X10_canTake se_X10_canTake h6566 rfl rfl (rest := []) rfl (Nat.le_of_ble_eq_true rfl) ⟨Nat.le_of_ble_eq_true rfl, Nat.le_of_ble_eq_true rfl⟩ ⟨Nat.le_of_ble_eq_true rfl, Nat.le_of_ble_eq_true rfl⟩ (fun r σ6570 hp => ?_)
  obtain ⟨h6571, c6573⟩ := hp
  have h6572 := HS.trans h6566 h6571 (by decide)
  rcases c6573 with rfl | ⟨n6574, n6575, n6576, h6577, h6578, h6579, h6580, h6581, f6582, f6583, e6584, rfl⟩
  · refine m_if_ne F e_X10_take_10 (fun q => absurd (by decide) q) (fun _ => ?_)
    refine m_ldc2 F kc_X10_299 e_X10_take_13 ?_
    exact m_lret F hQ e_X10_take_16 (⟨u, by omega, L, hok, h6572, _, rfl⟩)
  · subst e6584
    refine m_if_ne F e_X10_take_10 (fun _ => ?_) (fun q => absurd q (by decide))
    refine m_aload_n F rfl e_X10_take_17 ?_
    refine r_callV F e_X10_take_18 (q_X10_remembers (x_l X) V c T Z u h P L _ _  h6572.1 (hok) hP (by first | omega | assumption | decide) (by first | omega | assumption | decide)) cb_X10_remembers ml_X10_286 im_X10_remembers se_X10_remembers h6572 rfl rfl (rest := []) rfl (Nat.le_of_ble_eq_true rfl) ⟨Nat.le_of_ble_eq_true rfl, Nat.le_of_ble_eq_true rfl⟩ ⟨Nat.le_of_ble_eq_true rfl, Nat.le_of_ble_eq_true rfl⟩ (fun r σ6585 hp => ?_)
    obtain ⟨u6588, hu6588, h6586, rfl⟩ := hp
    have h6587 := HS.trans h6572 h6586 (by decide)
    refine m_aload_n F rfl e_X10_take_21 ?_
    refine m_iload_n F rfl e_X10_take_22 ?_
    refine r_callV F e_X10_take_23 (q_X10_takes (x_l X) V c T Z u6588 h P L _ _ n6574 n6575 n6576 h6587.1 hok hP (by omega) (by omega) (by omega) (by omega) (by omega) ((elI_eq (h6586.2 (c + 13) (by rw [kC_at (k := 13) (by decide)]; decide))).trans f6582) ((elI_eq (h6586.2 (c + 14) (by rw [kC_at (k := 14) (by decide)]; decide))).trans f6583)) cb_X10_takes ml_X10_316 im_X10_takes se_X10_takes h6587 rfl rfl (rest := []) rfl (Nat.le_of_ble_eq_true rfl) ⟨Nat.le_of_ble_eq_true rfl, Nat.le_of_ble_eq_true rfl⟩ ⟨Nat.le_of_ble_eq_true rfl, Nat.le_of_ble_eq_true rfl⟩ (fun r σ6589 hp => ?_)
    obtain ⟨L6593, okL6593, h6590, x6592, rfl⟩ := hp
    have h6591 := HS.trans h6587 h6590 (by decide)
    exact m_lret F hQ e_X10_take_26 (⟨u6588, by omega, L6593, okL6593, h6591, _, rfl⟩)
set_option maxRecDepth 20000 in
theorem q_X10_ifTaken (l : Launch) (V : VX) (c T Z u h : Nat) (P : NP) (L : Nat → LQ) (N : Nat) (σ : Mem) (x901 : Int32) (h0 : HR V c ⟨T, Z, u, h, P, L⟩ σ) (hok : OKL P.n0 L) (hP : OKP P)  : Ct l V yX10_ifTaken cX10_ifTaken 4 (some .long) 4 0 0 N σ [.ref c, .int x901] (fun r τ => HS V c (⟨T, Z, u, h, P, L⟩ : RG) [0, 2, 3, 4, 5, 6, 7, 8, 9, 10, 11, 12, 13, 14, 15, 16, 19, 20, 21, 22] σ τ ∧ ∃ x : Int64, r = some (.long x)) := by
  refine Ct.of (by decide) (Nat.le_of_ble_eq_true rfl) [(0, .ref c), (1, .int x901)] rfl (fun X hX F hQ => ?_)
  have hPP := hP
  unfold OKP at hPP
  have h1 : HS V c ⟨T, Z, u, h, P, L⟩ [0, 2, 3, 4, 5, 6, 7, 8, 9, 10, 11, 12, 13, 14, 15, 16, 19, 20, 21, 22] σ σ := HS.start h0
  refine m_aload_n F rfl e_X10_ifTaken_0 ?_
  refine m_iconst F (v := 0) (by decide) e_X10_ifTaken_1 ?_
  refine r_put F (g' := (⟨T, Z, u, h, P, L⟩ : RG)) e_X10_ifTaken_2 fp_X10_91 h1 (by decide) ⟨_, rfl⟩ (fun _ _ _ _ q => q) (fun _ _ _ q => q) rfl rfl (by decide) (fun σ6594 h6595 g6596 g6597 f6598 => ?_)
  refine m_aload_n F rfl e_X10_ifTaken_5 ?_
  refine m_iload_n F rfl e_X10_ifTaken_6 ?_
  refine r_callV F e_X10_ifTaken_7 (q_X10_canTake (x_l X) V c T Z u h P L _ _ x901 h6595.1 (hok.b) hP ) cb_X10_canTake ml_X10_313 im_X10_canTake se_X10_canTake h6595 rfl rfl (rest := []) rfl (Nat.le_of_ble_eq_true rfl) ⟨Nat.le_of_ble_eq_true rfl, Nat.le_of_ble_eq_true rfl⟩ ⟨Nat.le_of_ble_eq_true rfl, Nat.le_of_ble_eq_true rfl⟩ (fun r σ6599 hp => ?_)
  obtain ⟨h6600, c6602⟩ := hp
  have h6601 := HS.trans h6595 h6600 (by decide)
  rcases c6602 with rfl | ⟨n6603, n6604, n6605, h6606, h6607, h6608, h6609, h6610, f6611, f6612, e6613, rfl⟩
  · refine m_if_ne F e_X10_ifTaken_10 (fun q => absurd (by decide) q) (fun _ => ?_)
    refine m_ldc2 F kc_X10_299 e_X10_ifTaken_13 ?_
    exact m_lret F hQ e_X10_ifTaken_16 (⟨h6601, _, rfl⟩)
  · subst e6613
    refine m_if_ne F e_X10_ifTaken_10 (fun _ => ?_) (fun q => absurd q (by decide))
    refine m_aload_n F rfl e_X10_ifTaken_17 ?_
    refine r_get F e_X10_ifTaken_18 fl_X10_59 h6601 rfl (fun v hv f6614 => ?_)
    obtain rfl : v = .ref (c + 16) := hv
    refine m_iconst F (v := 0) (by decide) e_X10_ifTaken_21 ?_
    refine m_aload_n F rfl e_X10_ifTaken_22 ?_
    refine r_get F e_X10_ifTaken_23 fl_X10_63 h6601 rfl (fun v hv f6615 => ?_)
    obtain rfl : v = .ref (c + 17) := hv
    refine m_iconst F (v := 0) (by decide) e_X10_ifTaken_26 ?_
    obtain ⟨f6616, e6617, te6617⟩ : ∃ f, σ6599 (c + 16) = some (aJ V 1113 f) ∧ ∀ i, i < 1113 → EJ L i (f i) := h6601.1.cell (k := 16) (by decide)
    obtain ⟨g6618, e6619⟩ : ∃ f, σ6599 (c + 17) = some (aJ V 1113 f) := h6601.1.cell (k := 17) (by decide)
    refine m_callS F e_X10_ifTaken_27 (q_copies (x_l X) V _ _ (c + 16) (c + 17) 1113 1113 0 0 f6616 g6618 e6617 e6619 (by omega) (by omega) (by omega) (by omega)) cb_X10_copies ml_X10_230 sm_X10_copies rfl (rest := []) rfl (Nat.le_of_ble_eq_true rfl) ⟨Nat.le_of_ble_eq_true rfl, Nat.le_of_ble_eq_true rfl⟩ ⟨Nat.le_of_ble_eq_true rfl, Nat.le_of_ble_eq_true rfl⟩ (k' := 0) (z' := 0) (N' := N) rfl rfl rfl (fun r σ6620 hp => ?_)
    obtain ⟨p6621, rfl⟩ := hp
    have h6622 := HS.cp (k := 17) (g' := (⟨T, Z, u, h, P, L⟩ : RG)) h6601 p6621 (by decide) (by decide) ⟨_, rfl⟩ (fun _ _ _ q => q)
    have ga6623 : GB V c 17 1113 0 L σ6620 := ⟨_, p6621.1, fun i hi => by rw [show 0 + i = i from Nat.zero_add i, cpy_at0 hi, Nat.zero_add]; exact te6617 i hi⟩
    refine m_aload_n F rfl e_X10_ifTaken_30 ?_
    refine m_iload_n F rfl e_X10_ifTaken_31 ?_
    refine r_callV F e_X10_ifTaken_32 (q_X10_takes (x_l X) V c T Z u h P L _ _ n6603 n6604 n6605 h6622.1 hok hP (by omega) (by omega) (by omega) (by omega) (by omega) ((elI_eq (p6621.2 _ (by omega))).trans f6611) ((elI_eq (p6621.2 _ (by omega))).trans f6612)) cb_X10_takes ml_X10_316 im_X10_takes se_X10_takes h6622 rfl rfl (rest := []) rfl (Nat.le_of_ble_eq_true rfl) ⟨Nat.le_of_ble_eq_true rfl, Nat.le_of_ble_eq_true rfl⟩ ⟨Nat.le_of_ble_eq_true rfl, Nat.le_of_ble_eq_true rfl⟩ (fun r σ6624 hp => ?_)
    obtain ⟨L6628, okL6628, h6625, x6627, rfl⟩ := hp
    have h6626 := HS.trans h6622 h6625 (by decide)
    have ga6629 := ga6623.of (h6625.2 (c + 17) (by rw [kC_at (k := 17) (by decide)]; decide))
    refine m_lstore_n F (lv' := [(2, .long x6627), (0, .ref c), (1, .int (nI n6603))]) e_X10_ifTaken_35 (by decide) rfl ?_
    refine m_aload_n F rfl e_X10_ifTaken_36 ?_
    refine r_callV F e_X10_ifTaken_37 (q_X10_back1 (x_l X) V c T Z u h P L6628 _ _ L h6626.1 (okL6628.b) hP ga6629) cb_X10_back1 ml_X10_332 im_X10_back1 se_X10_back1 h6626 rfl rfl (rest := []) rfl (Nat.le_of_ble_eq_true rfl) ⟨Nat.le_of_ble_eq_true rfl, Nat.le_of_ble_eq_true rfl⟩ ⟨Nat.le_of_ble_eq_true rfl, Nat.le_of_ble_eq_true rfl⟩ (fun r σ6630 hp => ?_)
    obtain ⟨h6631, rfl⟩ := hp
    have h6632 := HS.trans h6626 h6631 (by decide)
    have ga6633 := ga6629.of (h6631.2 (c + 17) (by rw [kC_at (k := 17) (by decide)]; decide))
    refine m_lload_n F rfl e_X10_ifTaken_40 ?_
    exact m_lret F hQ e_X10_ifTaken_41 (⟨h6632, _, rfl⟩)
set_option maxRecDepth 20000 in
theorem lq_X10_takesAll_2 {V : VX} {X : MX} {N : Nat} {σ : Mem} {c T Z u h : Nat} {P : NP} {L : Nat → LQ}  {n901 : Nat} {x902 : Int32} (F : Fx V X yX10_takesAll cX10_takesAll 4 (some .boolean) (rmd 4 0 0)) (hQ : Rt V X 0 0 N (fun r τ => ∃ L9, OKL P.n0 L9 ∧ HS V c (⟨T, Z, u, h, P, L9⟩ : RG) [0, 1, 2, 3, 4, 5, 6, 7, 8, 9, 10, 11, 12, 13, 14, 15, 16, 18, 19, 20, 21, 22] σ τ ∧ ∃ n : Nat, n ≤ 1 ∧ r = some (.int (nI n)))) (hok : OKL P.n0 L) (hP : OKP P) (hn901 : n901 ≤ 3)  : ∀ (fuel : Nat) (i : Nat) (L1 : Nat → LQ) (τ : Mem), HS V c (⟨T, Z, u, h, P, L1⟩ : RG) [0, 1, 2, 3, 4, 5, 6, 7, 8, 9, 10, 11, 12, 13, 14, 15, 16, 18, 19, 20, 21, 22] σ τ → OKL P.n0 L1 → i ≤ 4 → 4 - i < fuel → Wm V X 4 N τ 0 0 2 [(0, .ref c), (1, .int (nI n901)), (2, .int x902), (3, .int (nI i))] [] := by
  intro fuel
  induction fuel with
  | zero => intros; rename_i hm; exact absurd hm (Nat.not_lt_zero _)
  | succ fuel ih =>
    intro i L1 τ h1 hok1 hi hm
    have hPP := hP
    unfold OKP at hPP
    refine m_iload_n F rfl e_X10_takesAll_2 ?_
    refine m_aload_n F rfl e_X10_takesAll_3 ?_
    refine r_get F e_X10_takesAll_4 fl_X10_13 h1 rfl (fun v hv f6634 => ?_)
    obtain rfl : v = .ref (c + 2) := hv
    refine m_iconst F (v := 3) (by decide) e_X10_takesAll_7 ?_
    refine r_iald F (len := 10) (j := 3) e_X10_takesAll_8 h1 (fun _ h => h) (by decide) (by decide) (by unfold vp_in; decide) (fun x6635 h6636 f6637 => ?_)
    obtain ⟨n6638, hn6638, rfl⟩ := h6636.2.2.2.2.1 rfl
    refine m_icmp_ge F e_X10_takesAll_9 (fun q9 => ?_) (fun q9 => ?_)
    · have c9 : i ≥ n6638 := (nI_leI (a := n6638) (b := i) (by omega) (by omega)).mp q9
      refine m_iconst F (v := 1) (by decide) e_X10_takesAll_55 ?_
      exact m_zret F hQ e_X10_takesAll_56 (by decide) (⟨L1, hok1, h1, 1, by omega, rfl⟩)
    · have c9 : i < n6638 := by have hh := mt (nI_leI (a := n6638) (b := i) (by omega) (by omega)).mpr q9; omega
      refine m_iload_n F rfl e_X10_takesAll_12 ?_
      refine m_iload_n F rfl e_X10_takesAll_13 ?_
      refine m_ishr F e_X10_takesAll_14 ?_
      refine Wm.top (fun x6639 _ => ?_)
      refine m_iconst F (v := 1) (by decide) e_X10_takesAll_15 ?_
      refine m_iand F e_X10_takesAll_16 ?_
      refine Wm.top (fun x6640 _ => ?_)
      refine m_if_ne F e_X10_takesAll_17 (fun q17 => ?_) (fun q17 => ?_)
      · refine m_aload_n F rfl e_X10_takesAll_23 ?_
        refine r_get F e_X10_takesAll_24 fl_X10_46 h1 rfl (fun v hv f6641 => ?_)
        obtain rfl : v = .ref (c + 13) := hv
        refine m_iload_n F rfl e_X10_takesAll_27 ?_
        refine r_iald F (len := 8) (j := i) e_X10_takesAll_28 h1 (fun _ h => h) (by decide) (nI_clamp (by omega)) (vp_in_nI (by omega) (by decide)) (fun x6642 h6643 f6644 => ?_)
        obtain ⟨n6645, hn6645, rfl⟩ := h6643
        refine m_iload_n F rfl e_X10_takesAll_29 ?_
        refine m_icmp_ne F e_X10_takesAll_30 (fun q30 => ?_) (fun q30 => ?_)
        · have c30 : n6645 ≠ n901 := by have hh := mt (nI_eq (a := n6645) (b := n901) (by omega) (by omega)).mpr q30; omega
          refine m_iconst F (v := 0) (by decide) e_X10_takesAll_41 ?_
          exact m_zret F hQ e_X10_takesAll_42 (by decide) (⟨L1, hok1, h1, 0, by omega, rfl⟩)
        · have c30 : n6645 = n901 := (nI_eq (a := n6645) (b := n901) (by omega) (by omega)).mp q30
          refine m_aload_n F rfl e_X10_takesAll_33 ?_
          refine m_iload_n F rfl e_X10_takesAll_34 ?_
          refine r_callV F e_X10_takesAll_35 (q_X10_canTake (x_l X) V c T Z u h P L1 _ _ (nI i) h1.1 (hok1.b) hP ) cb_X10_canTake ml_X10_313 im_X10_canTake se_X10_canTake h1 rfl rfl (rest := []) rfl (Nat.le_of_ble_eq_true rfl) ⟨Nat.le_of_ble_eq_true rfl, Nat.le_of_ble_eq_true rfl⟩ ⟨Nat.le_of_ble_eq_true rfl, Nat.le_of_ble_eq_true rfl⟩ (fun r σ6646 hp => ?_)
          obtain ⟨h6647, c6649⟩ := hp
          have h6648 := HS.trans h1 h6647 (by decide)
          rcases c6649 with rfl | ⟨n6650, n6651, n6652, h6653, h6654, h6655, h6656, h6657, f6658, f6659, e6660, rfl⟩
          · refine m_if_ne F e_X10_takesAll_38 (fun q => absurd (by decide) q) (fun _ => ?_)
            refine m_iconst F (v := 0) (by decide) e_X10_takesAll_41 ?_
            exact m_zret F hQ e_X10_takesAll_42 (by decide) (⟨L1, hok1, h6648, 0, by omega, rfl⟩)
          · have ge6660 := nI_inj (by omega) (by omega) e6660
            subst ge6660
            refine m_if_ne F e_X10_takesAll_38 (fun _ => ?_) (fun q => absurd q (by decide))
            refine m_aload_n F rfl e_X10_takesAll_43 ?_
            refine m_iload_n F rfl e_X10_takesAll_44 ?_
            refine r_callV F e_X10_takesAll_45 (q_X10_takes (x_l X) V c T Z u h P L1 _ _ i n6651 n6652 h6648.1 hok1 hP (by omega) (by omega) (by omega) (by omega) (by omega) (f6658) (f6659)) cb_X10_takes ml_X10_316 im_X10_takes se_X10_takes h6648 rfl rfl (rest := []) rfl (Nat.le_of_ble_eq_true rfl) ⟨Nat.le_of_ble_eq_true rfl, Nat.le_of_ble_eq_true rfl⟩ ⟨Nat.le_of_ble_eq_true rfl, Nat.le_of_ble_eq_true rfl⟩ (fun r σ6661 hp => ?_)
            obtain ⟨L6665, okL6665, h6662, x6664, rfl⟩ := hp
            have h6663 := HS.trans h6648 h6662 (by decide)
            refine m_pop2_2 F rfl e_X10_takesAll_48 ?_
            refine m_iinc F (v := nI (i + 1)) (lv' := [(3, .int (nI (i + 1))), (0, .ref c), (1, .int (nI n901)), (2, .int x902)]) e_X10_takesAll_49 rfl (nI_add i 1) (by decide) rfl ?_
            refine m_goto F e_X10_takesAll_52 ?_
            refine Wm.lvsub (lv' := [(0, .ref c), (1, .int (nI n901)), (2, .int x902), (3, .int (nI (i + 1)))]) ?_ [1, 2, 3, 0] rfl
            exact ih (i + 1) L6665 _ h6663 okL6665 (by omega) (by omega)
      · subst q17
        refine m_goto F e_X10_takesAll_20 ?_
        refine m_iinc F (v := nI (i + 1)) (lv' := [(3, .int (nI (i + 1))), (0, .ref c), (1, .int (nI n901)), (2, .int x902)]) e_X10_takesAll_49 rfl (nI_add i 1) (by decide) rfl ?_
        refine m_goto F e_X10_takesAll_52 ?_
        refine Wm.lvsub (lv' := [(0, .ref c), (1, .int (nI n901)), (2, .int x902), (3, .int (nI (i + 1)))]) ?_ [1, 2, 3, 0] rfl
        exact ih (i + 1) L1 _ h1 hok1 (by omega) (by omega)
set_option maxRecDepth 20000 in
theorem q_X10_takesAll (l : Launch) (V : VX) (c T Z u h : Nat) (P : NP) (L : Nat → LQ) (N : Nat) (σ : Mem) (n901 : Nat) (x902 : Int32) (h0 : HR V c ⟨T, Z, u, h, P, L⟩ σ) (hok : OKL P.n0 L) (hP : OKP P) (hn901 : n901 ≤ 3) : Ct l V yX10_takesAll cX10_takesAll 4 (some .boolean) 4 0 0 N σ [.ref c, .int (nI n901), .int x902] (fun r τ => ∃ L9, OKL P.n0 L9 ∧ HS V c (⟨T, Z, u, h, P, L9⟩ : RG) [0, 1, 2, 3, 4, 5, 6, 7, 8, 9, 10, 11, 12, 13, 14, 15, 16, 18, 19, 20, 21, 22] σ τ ∧ ∃ n : Nat, n ≤ 1 ∧ r = some (.int (nI n))) := by
  refine Ct.of (by decide) (Nat.le_of_ble_eq_true rfl) [(0, .ref c), (1, .int (nI n901)), (2, .int x902)] rfl (fun X hX F hQ => ?_)
  have hPP := hP
  unfold OKP at hPP
  have h1 : HS V c ⟨T, Z, u, h, P, L⟩ [0, 1, 2, 3, 4, 5, 6, 7, 8, 9, 10, 11, 12, 13, 14, 15, 16, 18, 19, 20, 21, 22] σ σ := HS.start h0
  refine m_iconst F (v := 0) (by decide) e_X10_takesAll_0 ?_
  refine m_istore_n F (lv' := [(3, .int 0), (0, .ref c), (1, .int (nI n901)), (2, .int x902)]) e_X10_takesAll_1 (by decide) rfl ?_
  refine Wm.lvsub (lv' := [(0, .ref c), (1, .int (nI n901)), (2, .int x902), (3, .int 0)]) ?_ [1, 2, 3, 0] rfl
  exact lq_X10_takesAll_2 F hQ hok hP hn901 (4 - 0 + 1) 0 L _ h1 hok (by omega) (Nat.lt_succ_self _)
set_option maxRecDepth 20000 in
theorem lq_X10_choose_37 {V : VX} {X : MX} {N : Nat} {σ : Mem} {c T Z u h : Nat} {P : NP} {L : Nat → LQ}   (F : Fx V X yX10_choose cX10_choose 13 (some .int) (rmd 5 0 0)) (hQ : Rt V X 0 0 N (fun r τ => HS V c (⟨T, Z, u, h, P, L⟩ : RG) [0, 2, 3, 4, 5, 6, 7, 8, 9, 10, 11, 12, 13, 14, 15, 16, 19, 20, 21, 22] σ τ ∧ ∃ x : Int32, r = some (.int x))) (hok : OKL P.n0 L) (hP : OKP P)   : ∀ (fuel : Nat) (a : Nat) (b1 : Int32) (w1 : Int64) (w2 : Int64) (i : Nat) (τ : Mem), HS V c (⟨T, Z, u, h, P, L⟩ : RG) [0, 2, 3, 4, 5, 6, 7, 8, 9, 10, 11, 12, 13, 14, 15, 16, 19, 20, 21, 22] σ τ → a ≤ 3 ∧ i ≤ 16 → 16 - i < fuel → Wm V X 13 N τ 0 0 37 [(0, .ref c), (1, .int (nI a)), (2, .int b1), (3, .long w1), (5, .long w2), (7, .int (nI i))] [] := by
  intro fuel
  induction fuel with
  | zero => intros; rename_i hm; exact absurd hm (Nat.not_lt_zero _)
  | succ fuel ih =>
    intro a b1 w1 w2 i τ h1 hi hm
    have hPP := hP
    unfold OKP at hPP
    refine m_iload F rfl e_X10_choose_37 ?_
    refine m_iconst F (v := 1) (by decide) e_X10_choose_39 ?_
    refine m_aload_n F rfl e_X10_choose_40 ?_
    refine r_get F e_X10_choose_41 fl_X10_13 h1 rfl (fun v hv f6666 => ?_)
    obtain rfl : v = .ref (c + 2) := hv
    refine m_iconst F (v := 3) (by decide) e_X10_choose_44 ?_
    refine r_iald F (len := 10) (j := 3) e_X10_choose_45 h1 (fun _ h => h) (by decide) (by decide) (by unfold vp_in; decide) (fun x6667 h6668 f6669 => ?_)
    obtain ⟨n6670, hn6670, rfl⟩ := h6668.2.2.2.2.1 rfl
    obtain ⟨n6671, hn6671, en6671⟩ := shl5 (m := n6670) (by omega)
    refine m_ishl F e_X10_choose_46 ?_
    refine Wm.topE (w := nI n6671) en6671 ?_
    refine m_icmp_ge F e_X10_choose_47 (fun q47 => ?_) (fun q47 => ?_)
    · have c47 : i ≥ n6671 := (nI_leI (a := n6671) (b := i) (by omega) (by omega)).mp q47
      refine m_iload_n F rfl e_X10_choose_142 ?_
      exact m_iret F hQ e_X10_choose_143 (⟨h1, _, rfl⟩)
    · have c47 : i < n6671 := by have hh := mt (nI_leI (a := n6671) (b := i) (by omega) (by omega)).mpr q47; omega
      refine m_aload_n F rfl e_X10_choose_50 ?_
      refine r_get F e_X10_choose_51 fl_X10_59 h1 rfl (fun v hv f6672 => ?_)
      obtain rfl : v = .ref (c + 16) := hv
      refine m_iconst F (v := 0) (by decide) e_X10_choose_54 ?_
      refine m_aload_n F rfl e_X10_choose_55 ?_
      refine r_get F e_X10_choose_56 fl_X10_63 h1 rfl (fun v hv f6673 => ?_)
      obtain rfl : v = .ref (c + 17) := hv
      refine m_iconst F (v := 0) (by decide) e_X10_choose_59 ?_
      obtain ⟨f6674, e6675, te6675⟩ : ∃ f, τ (c + 16) = some (aJ V 1113 f) ∧ ∀ i, i < 1113 → EJ L i (f i) := h1.1.cell (k := 16) (by decide)
      obtain ⟨g6676, e6677⟩ : ∃ f, τ (c + 17) = some (aJ V 1113 f) := h1.1.cell (k := 17) (by decide)
      refine m_callS F e_X10_choose_60 (q_copies (x_l X) V _ _ (c + 16) (c + 17) 1113 1113 0 0 f6674 g6676 e6675 e6677 (by omega) (by omega) (by omega) (by omega)) cb_X10_copies ml_X10_230 sm_X10_copies rfl (rest := []) rfl (Nat.le_of_ble_eq_true rfl) ⟨Nat.le_of_ble_eq_true rfl, Nat.le_of_ble_eq_true rfl⟩ ⟨Nat.le_of_ble_eq_true rfl, Nat.le_of_ble_eq_true rfl⟩ (k' := 0) (z' := 0) (N' := N) rfl rfl rfl (fun r σ6678 hp => ?_)
      obtain ⟨p6679, rfl⟩ := hp
      have h6680 := HS.cp (k := 17) (g' := (⟨T, Z, u, h, P, L⟩ : RG)) h1 p6679 (by decide) (by decide) ⟨_, rfl⟩ (fun _ _ _ q => q)
      have ga6681 : GB V c 17 1113 0 L σ6678 := ⟨_, p6679.1, fun i hi => by rw [show 0 + i = i from Nat.zero_add i, cpy_at0 hi, Nat.zero_add]; exact te6675 i hi⟩
      refine m_aload_n F rfl e_X10_choose_63 ?_
      refine m_iload_n F rfl e_X10_choose_64 ?_
      refine m_iload F rfl e_X10_choose_65 ?_
      refine r_callV F e_X10_choose_67 (q_X10_takesAll (x_l X) V c T Z u h P L _ _ a (nI i) h6680.1 (hok) hP (by omega)) cb_X10_takesAll ml_X10_346 im_X10_takesAll se_X10_takesAll h6680 rfl rfl (rest := []) rfl (Nat.le_of_ble_eq_true rfl) ⟨Nat.le_of_ble_eq_true rfl, Nat.le_of_ble_eq_true rfl⟩ ⟨Nat.le_of_ble_eq_true rfl, Nat.le_of_ble_eq_true rfl⟩ (fun r σ6682 hp => ?_)
      obtain ⟨L6686, okL6686, h6683, n6685, hn6685, rfl⟩ := hp
      have h6684 := HS.trans h6680 h6683 (by decide)
      have ga6687 := ga6681.of (h6683.2 (c + 17) (by rw [kC_at (k := 17) (by decide)]; decide))
      refine m_istore F (lv' := [(8, .int (nI n6685)), (0, .ref c), (1, .int (nI a)), (2, .int b1), (3, .long w1), (5, .long w2), (7, .int (nI i))]) e_X10_choose_70 (by decide) rfl ?_
      refine m_aload_n F rfl e_X10_choose_72 ?_
      refine r_getC F e_X10_choose_73 fl_X10_59 h6684 ((fld_eq (h6683.2 c (by rw [show kC c c = 1 from kC_at (k := 0) (by decide)]; decide))).trans ((fld_eq (p6679.2 _ (by omega))).trans f6672)) ?_
      refine m_sipush F (v := 160) (by decide) e_X10_choose_76 ?_
      refine m_iload_n F rfl e_X10_choose_79 ?_
      refine m_imul F e_X10_choose_80 ?_
      refine Wm.topE (w := nI (160 * a)) (pk_mul 160 a) ?_
      refine m_bipush F (v := 6) (by decide) e_X10_choose_81 ?_
      refine m_iadd F e_X10_choose_83 ?_
      refine Wm.topE (w := nI (160 * a + 6)) (nI_add (160 * a) 6) ?_
      refine r_sld F (j := 160 * a + 6) e_X10_choose_84 h6684 (nI_clamp (by omega)) (vp_in_nI (by omega) (by decide)) (fun x6688 h6689 f6690 => ?_)
      refine m_lstore F (lv' := [(9, .long x6688), (8, .int (nI n6685)), (0, .ref c), (1, .int (nI a)), (2, .int b1), (3, .long w1), (5, .long w2), (7, .int (nI i))]) e_X10_choose_85 (by decide) rfl ?_
      refine m_aload_n F rfl e_X10_choose_87 ?_
      refine m_iload_n F rfl e_X10_choose_88 ?_
      refine r_callV F e_X10_choose_89 (q_X10_left (x_l X) V c T Z u h P L6686 _ _ a h6684.1 (okL6686.b) hP (by omega)) cb_X10_left ml_X10_257 im_X10_left se_X10_left h6684 rfl rfl (rest := []) rfl (Nat.le_of_ble_eq_true rfl) ⟨Nat.le_of_ble_eq_true rfl, Nat.le_of_ble_eq_true rfl⟩ ⟨Nat.le_of_ble_eq_true rfl, Nat.le_of_ble_eq_true rfl⟩ (fun r σ6691 hp => ?_)
      obtain ⟨h6692, x6694, rfl⟩ := hp
      have h6693 := HS.trans h6684 h6692 (by decide)
      have ga6695 := ga6687.of (h6692.2 (c + 17) (by rw [kC_at (k := 17) (by decide)]; decide))
      refine m_i2l F e_X10_choose_92 ?_
      refine Wm.topl (fun x6696 _ => ?_)
      refine m_lstore F (lv' := [(11, .long x6696), (9, .long x6688), (8, .int (nI n6685)), (0, .ref c), (1, .int (nI a)), (2, .int b1), (3, .long w1), (5, .long w2), (7, .int (nI i))]) e_X10_choose_93 (by decide) rfl ?_
      refine m_aload_n F rfl e_X10_choose_95 ?_
      refine r_callV F e_X10_choose_96 (q_X10_back1 (x_l X) V c T Z u h P L6686 _ _ L h6693.1 (okL6686.b) hP ga6695) cb_X10_back1 ml_X10_332 im_X10_back1 se_X10_back1 h6693 rfl rfl (rest := []) rfl (Nat.le_of_ble_eq_true rfl) ⟨Nat.le_of_ble_eq_true rfl, Nat.le_of_ble_eq_true rfl⟩ ⟨Nat.le_of_ble_eq_true rfl, Nat.le_of_ble_eq_true rfl⟩ (fun r σ6697 hp => ?_)
      obtain ⟨h6698, rfl⟩ := hp
      have h6699 := HS.trans h6693 h6698 (by decide)
      have ga6700 := ga6695.of (h6698.2 (c + 17) (by rw [kC_at (k := 17) (by decide)]; decide))
      refine m_iload F rfl e_X10_choose_99 ?_
      refine m_if_eq F e_X10_choose_101 (fun q101 => ?_) (fun q101 => ?_)
      · have c101 : n6685 = 0 := (nI_eq (a := n6685) (b := 0) (by omega) (by omega)).mp q101
        refine m_iinc F (v := nI (i + 1)) (lv' := [(7, .int (nI (i + 1))), (11, .long x6696), (9, .long x6688), (8, .int (nI n6685)), (0, .ref c), (1, .int (nI a)), (2, .int b1), (3, .long w1), (5, .long w2)]) e_X10_choose_136 rfl (nI_add i 1) (by decide) rfl ?_
        refine m_goto F e_X10_choose_139 ?_
        refine Wm.lvsub (lv' := [(0, .ref c), (1, .int (nI a)), (2, .int b1), (3, .long w1), (5, .long w2), (7, .int (nI (i + 1)))]) ?_ [4, 5, 6, 7, 8, 0] rfl
        exact ih a b1 w1 w2 (i + 1) _ h6699 (by omega) (by omega)
      · have c101 : n6685 ≠ 0 := by have hh := mt (nI_eq (a := n6685) (b := 0) (by omega) (by omega)).mpr q101; omega
        refine m_iload_n F rfl e_X10_choose_104 ?_
        refine m_bipush F (v := (-2)) (by decide) e_X10_choose_105 ?_
        refine m_icmp_eq F e_X10_choose_107 (fun q107 => ?_) (fun q107 => ?_)
        · subst q107
          refine m_iload F rfl e_X10_choose_126 ?_
          refine m_istore_n F (lv' := [(2, .int (nI i)), (11, .long x6696), (9, .long x6688), (8, .int (nI n6685)), (0, .ref c), (1, .int (nI a)), (3, .long w1), (5, .long w2), (7, .int (nI i))]) e_X10_choose_128 (by decide) rfl ?_
          refine m_lload F rfl e_X10_choose_129 ?_
          refine m_lstore_n F (lv' := [(3, .long x6688), (2, .int (nI i)), (11, .long x6696), (9, .long x6688), (8, .int (nI n6685)), (0, .ref c), (1, .int (nI a)), (5, .long w2), (7, .int (nI i))]) e_X10_choose_131 (by decide) rfl ?_
          refine m_lload F rfl e_X10_choose_132 ?_
          refine m_lstore F (lv' := [(5, .long x6696), (3, .long x6688), (2, .int (nI i)), (11, .long x6696), (9, .long x6688), (8, .int (nI n6685)), (0, .ref c), (1, .int (nI a)), (7, .int (nI i))]) e_X10_choose_134 (by decide) rfl ?_
          refine m_iinc F (v := nI (i + 1)) (lv' := [(7, .int (nI (i + 1))), (5, .long x6696), (3, .long x6688), (2, .int (nI i)), (11, .long x6696), (9, .long x6688), (8, .int (nI n6685)), (0, .ref c), (1, .int (nI a))]) e_X10_choose_136 rfl (nI_add i 1) (by decide) rfl ?_
          refine m_goto F e_X10_choose_139 ?_
          refine Wm.lvsub (lv' := [(0, .ref c), (1, .int (nI a)), (2, .int (nI i)), (3, .long x6688), (5, .long x6696), (7, .int (nI (i + 1)))]) ?_ [7, 8, 3, 2, 1, 0] rfl
          exact ih a (nI i) x6688 x6696 (i + 1) _ h6699 (by omega) (by omega)
        · refine m_lload F rfl e_X10_choose_110 ?_
          refine m_lload F rfl e_X10_choose_112 ?_
          refine m_lmul F e_X10_choose_114 ?_
          refine Wm.topl (fun x6701 _ => ?_)
          refine m_lload_n F rfl e_X10_choose_115 ?_
          refine m_lload F rfl e_X10_choose_116 ?_
          refine m_lmul F e_X10_choose_118 ?_
          refine Wm.topl (fun x6702 _ => ?_)
          refine m_lcmp F e_X10_choose_119 ?_
          refine Wm.top (fun x6703 _ => ?_)
          refine m_if_lt F e_X10_choose_120 (fun q120 => ?_) (fun q120 => ?_)
          · refine m_iload F rfl e_X10_choose_126 ?_
            refine m_istore_n F (lv' := [(2, .int (nI i)), (11, .long x6696), (9, .long x6688), (8, .int (nI n6685)), (0, .ref c), (1, .int (nI a)), (3, .long w1), (5, .long w2), (7, .int (nI i))]) e_X10_choose_128 (by decide) rfl ?_
            refine m_lload F rfl e_X10_choose_129 ?_
            refine m_lstore_n F (lv' := [(3, .long x6688), (2, .int (nI i)), (11, .long x6696), (9, .long x6688), (8, .int (nI n6685)), (0, .ref c), (1, .int (nI a)), (5, .long w2), (7, .int (nI i))]) e_X10_choose_131 (by decide) rfl ?_
            refine m_lload F rfl e_X10_choose_132 ?_
            refine m_lstore F (lv' := [(5, .long x6696), (3, .long x6688), (2, .int (nI i)), (11, .long x6696), (9, .long x6688), (8, .int (nI n6685)), (0, .ref c), (1, .int (nI a)), (7, .int (nI i))]) e_X10_choose_134 (by decide) rfl ?_
            refine m_iinc F (v := nI (i + 1)) (lv' := [(7, .int (nI (i + 1))), (5, .long x6696), (3, .long x6688), (2, .int (nI i)), (11, .long x6696), (9, .long x6688), (8, .int (nI n6685)), (0, .ref c), (1, .int (nI a))]) e_X10_choose_136 rfl (nI_add i 1) (by decide) rfl ?_
            refine m_goto F e_X10_choose_139 ?_
            refine Wm.lvsub (lv' := [(0, .ref c), (1, .int (nI a)), (2, .int (nI i)), (3, .long x6688), (5, .long x6696), (7, .int (nI (i + 1)))]) ?_ [7, 8, 3, 2, 1, 0] rfl
            exact ih a (nI i) x6688 x6696 (i + 1) _ h6699 (by omega) (by omega)
          · obtain ⟨n6704, hn6704, rfl⟩ := nI_nn (x := x6703) (fun e => q120 (Int32.lt_of_lt_of_le e (by decide)))
            have c120 : n6704 ≥ 0 := by have hh := mt (nI_ltI (a := n6704) (b := 0) (by omega) (by omega)).mpr q120; omega
            refine m_goto F e_X10_choose_123 ?_
            refine m_iinc F (v := nI (i + 1)) (lv' := [(7, .int (nI (i + 1))), (11, .long x6696), (9, .long x6688), (8, .int (nI n6685)), (0, .ref c), (1, .int (nI a)), (2, .int b1), (3, .long w1), (5, .long w2)]) e_X10_choose_136 rfl (nI_add i 1) (by decide) rfl ?_
            refine m_goto F e_X10_choose_139 ?_
            refine Wm.lvsub (lv' := [(0, .ref c), (1, .int (nI a)), (2, .int b1), (3, .long w1), (5, .long w2), (7, .int (nI (i + 1)))]) ?_ [4, 5, 6, 7, 8, 0] rfl
            exact ih a b1 w1 w2 (i + 1) _ h6699 (by omega) (by omega)
set_option maxRecDepth 20000 in
theorem q_X10_choose (l : Launch) (V : VX) (c T Z u h : Nat) (P : NP) (L : Nat → LQ) (N : Nat) (σ : Mem) (x901 : Int32) (h0 : HR V c ⟨T, Z, u, h, P, L⟩ σ) (hok : OKL P.n0 L) (hP : OKP P)  : Ct l V yX10_choose cX10_choose 13 (some .int) 5 0 0 N σ [.ref c, .int x901] (fun r τ => HS V c (⟨T, Z, u, h, P, L⟩ : RG) [0, 2, 3, 4, 5, 6, 7, 8, 9, 10, 11, 12, 13, 14, 15, 16, 19, 20, 21, 22] σ τ ∧ ∃ x : Int32, r = some (.int x)) := by
  refine Ct.of (by decide) (Nat.le_of_ble_eq_true rfl) [(0, .ref c), (1, .int x901)] rfl (fun X hX F hQ => ?_)
  have hPP := hP
  unfold OKP at hPP
  have h1 : HS V c ⟨T, Z, u, h, P, L⟩ [0, 2, 3, 4, 5, 6, 7, 8, 9, 10, 11, 12, 13, 14, 15, 16, 19, 20, 21, 22] σ σ := HS.start h0
  refine m_aload_n F rfl e_X10_choose_0 ?_
  refine m_iconst F (v := 0) (by decide) e_X10_choose_1 ?_
  refine r_put F (g' := (⟨T, Z, u, h, P, L⟩ : RG)) e_X10_choose_2 fp_X10_91 h1 (by decide) ⟨_, rfl⟩ (fun _ _ _ _ q => q) (fun _ _ _ q => q) rfl rfl (by decide) (fun σ6705 h6706 g6707 g6708 f6709 => ?_)
  refine m_aload_n F rfl e_X10_choose_5 ?_
  refine m_iload_n F rfl e_X10_choose_6 ?_
  refine r_callV F e_X10_choose_7 (q_X10_isLease (x_l X) V c T Z u h P L _ _ x901 h6706.1 (hok.b) hP ) cb_X10_isLease ml_X10_292 im_X10_isLease se_X10_isLease h6706 rfl rfl (rest := []) rfl (Nat.le_of_ble_eq_true rfl) ⟨Nat.le_of_ble_eq_true rfl, Nat.le_of_ble_eq_true rfl⟩ ⟨Nat.le_of_ble_eq_true rfl, Nat.le_of_ble_eq_true rfl⟩ (fun r σ6710 hp => ?_)
  obtain ⟨h6711, c6713⟩ := hp
  have h6712 := HS.trans h6706 h6711 (by decide)
  rcases c6713 with rfl | ⟨n6714, h6715, e6716, rfl⟩
  · refine m_if_ne F e_X10_choose_10 (fun q => absurd (by decide) q) (fun _ => ?_)
    refine m_iconst F (v := (-1)) (by decide) e_X10_choose_13 ?_
    exact m_iret F hQ e_X10_choose_14 (⟨h6712, _, rfl⟩)
  · subst e6716
    refine m_if_ne F e_X10_choose_10 (fun _ => ?_) (fun q => absurd q (by decide))
    refine m_aload_n F rfl e_X10_choose_15 ?_
    refine m_iload_n F rfl e_X10_choose_16 ?_
    refine r_callV F e_X10_choose_17 (q_X10_isOn (x_l X) V c T Z u h P L _ _ n6714 h6712.1 (hok.b) hP (by omega)) cb_X10_isOn ml_X10_267 im_X10_isOn se_X10_isOn h6712 rfl rfl (rest := []) rfl (Nat.le_of_ble_eq_true rfl) ⟨Nat.le_of_ble_eq_true rfl, Nat.le_of_ble_eq_true rfl⟩ ⟨Nat.le_of_ble_eq_true rfl, Nat.le_of_ble_eq_true rfl⟩ (fun r σ6717 hp => ?_)
    obtain ⟨h6718, c6720⟩ := hp
    have h6719 := HS.trans h6712 h6718 (by decide)
    rcases c6720 with ⟨g6721, rfl⟩ | ⟨g6721, rfl⟩
    · refine m_if_ne F e_X10_choose_20 (fun q => absurd (by decide) q) (fun _ => ?_)
      refine m_bipush F (v := (-2)) (by decide) e_X10_choose_23 ?_
      exact m_iret F hQ e_X10_choose_25 (⟨h6719, _, rfl⟩)
    · refine m_if_ne F e_X10_choose_20 (fun _ => ?_) (fun q => absurd q (by decide))
      refine m_bipush F (v := (-2)) (by decide) e_X10_choose_26 ?_
      refine m_istore_n F (lv' := [(2, .int (-2)), (0, .ref c), (1, .int (nI n6714))]) e_X10_choose_28 (by decide) rfl ?_
      refine m_lconst F (v := 0) (by decide) e_X10_choose_29 ?_
      refine m_lstore_n F (lv' := [(3, .long 0), (2, .int (-2)), (0, .ref c), (1, .int (nI n6714))]) e_X10_choose_30 (by decide) rfl ?_
      refine m_lconst F (v := 1) (by decide) e_X10_choose_31 ?_
      refine m_lstore F (lv' := [(5, .long 1), (3, .long 0), (2, .int (-2)), (0, .ref c), (1, .int (nI n6714))]) e_X10_choose_32 (by decide) rfl ?_
      refine m_iconst F (v := 0) (by decide) e_X10_choose_34 ?_
      refine m_istore F (lv' := [(7, .int 0), (5, .long 1), (3, .long 0), (2, .int (-2)), (0, .ref c), (1, .int (nI n6714))]) e_X10_choose_35 (by decide) rfl ?_
      refine Wm.lvsub (lv' := [(0, .ref c), (1, .int (nI n6714)), (2, .int (-2)), (3, .long 0), (5, .long 1), (7, .int 0)]) ?_ [4, 5, 3, 2, 1, 0] rfl
      exact lq_X10_choose_37 F hQ hok hP  (16 - 0 + 1) n6714 (-2) 0 1 0 _ h6719 (by omega) (Nat.lt_succ_self _)
set_option maxRecDepth 20000 in
theorem q_X10_gives (l : Launch) (V : VX) (c T Z u h : Nat) (P : NP) (L : Nat → LQ) (N : Nat) (σ : Mem) (n901 : Nat) (x902 : Int32) (x903 : Int64) (x904 : Int64) (h0 : HR V c ⟨T, Z, u, h, P, L⟩ σ) (hob : OKB L) (hP : OKP P) (hn901 : n901 ≤ 3) : Ct l V yX10_gives cX10_gives 8 none 1 0 0 N σ [.ref c, .int (nI n901), .int x902, .long x903, .long x904] (fun r τ => HS V c (⟨T, Z, u, h, P, L⟩ : RG) [0, 1, 2, 3, 4, 5, 6, 7, 8, 9, 10, 11, 12, 13, 14, 15, 16, 18, 19, 20, 21, 22] σ τ ∧ r = none) := by
  refine Ct.of (by decide) (Nat.le_of_ble_eq_true rfl) [(0, .ref c), (1, .int (nI n901)), (2, .int x902), (3, .long x903), (5, .long x904)] rfl (fun X hX F hQ => ?_)
  have hPP := hP
  unfold OKP at hPP
  have h1 : HS V c ⟨T, Z, u, h, P, L⟩ [0, 1, 2, 3, 4, 5, 6, 7, 8, 9, 10, 11, 12, 13, 14, 15, 16, 18, 19, 20, 21, 22] σ σ := HS.start h0
  refine m_sipush F (v := 160) (by decide) e_X10_gives_0 ?_
  refine m_iload_n F rfl e_X10_gives_3 ?_
  refine m_imul F e_X10_gives_4 ?_
  refine Wm.topE (w := nI (160 * n901)) (pk_mul 160 n901) ?_
  refine m_istore F (lv' := [(7, .int (nI (160 * n901))), (0, .ref c), (1, .int (nI n901)), (2, .int x902), (3, .long x903), (5, .long x904)]) e_X10_gives_5 (by decide) rfl ?_
  refine m_aload_n F rfl e_X10_gives_7 ?_
  refine r_get F e_X10_gives_8 fl_X10_59 h1 rfl (fun v hv f6722 => ?_)
  obtain rfl : v = .ref (c + 16) := hv
  refine m_iload F rfl e_X10_gives_11 ?_
  refine m_bipush F (v := 6) (by decide) e_X10_gives_13 ?_
  refine m_iadd F e_X10_gives_15 ?_
  refine Wm.topE (w := nI (160 * n901 + 6)) (nI_add (160 * n901) 6) ?_
  refine m_dup2_11 F rfl rfl e_X10_gives_16 ?_
  refine r_sld F (j := 160 * n901 + 6) e_X10_gives_17 h1 (nI_clamp (by omega)) (vp_in_nI (by omega) (by decide)) (fun x6723 h6724 f6725 => ?_)
  refine m_lload_n F rfl e_X10_gives_18 ?_
  refine m_lsub F e_X10_gives_19 ?_
  refine Wm.topl (fun x6726 _ => ?_)
  refine r_sst F (g' := (⟨T, Z, u, h, P, L⟩ : RG)) (j := 160 * n901 + 6) e_X10_gives_20 h1 (by decide) (nI_clamp (by omega)) (vp_in_nI (by omega) (by decide)) (fun f q => EJ_same (EJ_lw (l := n901) (r := 6) (by omega) (by omega) (by omega)) q) (fun _ _ _ q => q) (fun σ6727 h6728 g6729 => ?_)
  refine m_aload_n F rfl e_X10_gives_21 ?_
  refine r_getC F e_X10_gives_22 fl_X10_59 h6728 ((fld_eq (g6729 _ (by omega))).trans f6722) ?_
  refine m_iload F rfl e_X10_gives_25 ?_
  refine m_bipush F (v := 7) (by decide) e_X10_gives_27 ?_
  refine m_iadd F e_X10_gives_29 ?_
  refine Wm.topE (w := nI (160 * n901 + 7)) (nI_add (160 * n901) 7) ?_
  refine m_dup2_11 F rfl rfl e_X10_gives_30 ?_
  refine r_sld F (j := 160 * n901 + 7) e_X10_gives_31 h6728 (nI_clamp (by omega)) (vp_in_nI (by omega) (by decide)) (fun x6730 h6731 f6732 => ?_)
  refine m_lload F rfl e_X10_gives_32 ?_
  refine m_lsub F e_X10_gives_34 ?_
  refine Wm.topl (fun x6733 _ => ?_)
  refine r_sst F (g' := (⟨T, Z, u, h, P, L⟩ : RG)) (j := 160 * n901 + 7) e_X10_gives_35 h6728 (by decide) (nI_clamp (by omega)) (vp_in_nI (by omega) (by decide)) (fun f q => EJ_same (EJ_lw (l := n901) (r := 7) (by omega) (by omega) (by omega)) q) (fun _ _ _ q => q) (fun σ6734 h6735 g6736 => ?_)
  refine m_aload_n F rfl e_X10_gives_36 ?_
  refine r_getC F e_X10_gives_37 fl_X10_59 h6735 ((fld_eq (g6736 _ (by omega))).trans ((fld_eq (g6729 _ (by omega))).trans f6722)) ?_
  refine m_iload F rfl e_X10_gives_40 ?_
  refine m_bipush F (v := 12) (by decide) e_X10_gives_42 ?_
  refine m_iadd F e_X10_gives_44 ?_
  refine Wm.topE (w := nI (160 * n901 + 12)) (nI_add (160 * n901) 12) ?_
  refine m_dup2_11 F rfl rfl e_X10_gives_45 ?_
  refine r_sld F (j := 160 * n901 + 12) e_X10_gives_46 h6735 (nI_clamp (by omega)) (vp_in_nI (by omega) (by decide)) (fun x6737 h6738 f6739 => ?_)
  refine m_lload_n F rfl e_X10_gives_47 ?_
  refine m_ladd F e_X10_gives_48 ?_
  refine Wm.topl (fun x6740 _ => ?_)
  refine r_sst F (g' := (⟨T, Z, u, h, P, L⟩ : RG)) (j := 160 * n901 + 12) e_X10_gives_49 h6735 (by decide) (nI_clamp (by omega)) (vp_in_nI (by omega) (by decide)) (fun f q => EJ_same (EJ_lw (l := n901) (r := 12) (by omega) (by omega) (by omega)) q) (fun _ _ _ q => q) (fun σ6741 h6742 g6743 => ?_)
  refine m_aload_n F rfl e_X10_gives_50 ?_
  refine m_iload_n F rfl e_X10_gives_51 ?_
  refine m_iload_n F rfl e_X10_gives_52 ?_
  refine m_lconst F (v := 0) (by decide) e_X10_gives_53 ?_
  refine m_lload_n F rfl e_X10_gives_54 ?_
  refine m_lload F rfl e_X10_gives_55 ?_
  refine m_lneg F e_X10_gives_57 ?_
  refine Wm.topl (fun x6744 _ => ?_)
  refine m_lconst F (v := 0) (by decide) e_X10_gives_58 ?_
  refine m_lconst F (v := 0) (by decide) e_X10_gives_59 ?_
  refine m_lload F rfl e_X10_gives_60 ?_
  refine m_lload_n F rfl e_X10_gives_62 ?_
  refine m_lsub F e_X10_gives_63 ?_
  refine Wm.topl (fun x6745 _ => ?_)
  refine r_callV F e_X10_gives_64 (q_X10_entry (x_l X) V c T Z u h P L _ _ x902 (nI n901) 0 x903 x6744 0 0 x6745 h6742.1 (hob) hP ) cb_X10_entry ml_X10_253 im_X10_entry se_X10_entry h6742 rfl rfl (rest := []) rfl (Nat.le_of_ble_eq_true rfl) ⟨Nat.le_of_ble_eq_true rfl, Nat.le_of_ble_eq_true rfl⟩ ⟨Nat.le_of_ble_eq_true rfl, Nat.le_of_ble_eq_true rfl⟩ (fun r σ6746 hp => ?_)
  obtain ⟨h6747, rfl⟩ := hp
  have h6748 := HS.trans h6742 h6747 (by decide)
  exact m_vret F hQ e_X10_gives_67 (⟨h6748, rfl⟩)
set_option maxRecDepth 20000 in
theorem lq_X10_part_86 {V : VX} {X : MX} {N : Nat} {σ : Mem} {c T Z u h : Nat} {P : NP} {L : Nat → LQ}   (F : Fx V X yX10_part cX10_part 9 (some .long) (rmd 3 0 0)) (hQ : Rt V X 0 0 N (fun r τ => ∃ u9, u9 ≤ 20 ∧ ∃ L9, OKL P.n0 L9 ∧ HS V c (⟨T, Z, u9, h, P, L9⟩ : RG) [0, 2, 3, 4, 5, 6, 7, 8, 9, 10, 11, 12, 13, 14, 15, 16, 18, 19, 20, 22] σ τ ∧ ∃ x : Int64, r = some (.long x))) (hok : OKL P.n0 L) (hP : OKP P) (hp0 : u ≤ 20) (hp1 : P.kk = P.n0)  : ∀ (fuel : Nat) (a : Nat) (b : Nat) (w1 : Int64) (w2 : Int64) (i : Nat) (u1 : Nat) (τ : Mem), HS V c (⟨T, Z, u1, h, P, L⟩ : RG) [0, 2, 3, 4, 5, 6, 7, 8, 9, 10, 11, 12, 13, 14, 15, 16, 18, 19, 20, 22] σ τ → u1 ≤ 20 ∧ a ≤ 3 ∧ b ≤ 999 ∧ i ≤ 72 → 72 - i < fuel → Wm V X 9 N τ 0 0 86 [(0, .ref c), (1, .int (nI a)), (2, .int (nI b)), (3, .int (nI (160 * a))), (4, .long w1), (6, .long w2), (8, .int (nI i))] [] := by
  intro fuel
  induction fuel with
  | zero => intros; rename_i hm; exact absurd hm (Nat.not_lt_zero _)
  | succ fuel ih =>
    intro a b w1 w2 i u1 τ h1 hi hm
    have hPP := hP
    unfold OKP at hPP
    refine m_iload F rfl e_X10_part_86 ?_
    refine m_i2l F e_X10_part_88 ?_
    refine Wm.toplE (w := lN i) (nI_l (by omega)) ?_
    refine m_aload_n F rfl e_X10_part_89 ?_
    refine r_get F e_X10_part_90 fl_X10_59 h1 rfl (fun v hv f6749 => ?_)
    obtain rfl : v = .ref (c + 16) := hv
    refine m_iload_n F rfl e_X10_part_93 ?_
    refine m_iconst F (v := 1) (by decide) e_X10_part_94 ?_
    refine m_iadd F e_X10_part_95 ?_
    refine Wm.topE (w := nI (160 * a + 1)) (nI_add (160 * a) 1) ?_
    refine r_sld F (j := 160 * a + 1) e_X10_part_96 h1 (nI_clamp (by omega)) (vp_in_nI (by omega) (by decide)) (fun x6750 h6751 f6752 => ?_)
    have hl6753 := hok.2 a (by omega)
    obtain rfl : x6750 = lN (L a).2.1 := (EJ_l (l := a) (r := 1) (by omega) (by decide)).mp h6751
    refine m_lcmp F e_X10_part_97 ?_
    refine m_if_ge F e_X10_part_98 (fun q98 => ?_) (fun q98 => ?_)
    · have c98 : i ≥ ((L a).2.1) := (lN_le (a := ((L a).2.1)) (b := i) (by omega) (by omega)).mp ((lg_cmp_ge _ _).mp q98)
      refine m_aload_n F rfl e_X10_part_177 ?_
      refine m_iload_n F rfl e_X10_part_178 ?_
      refine m_iconst F (v := 3) (by decide) e_X10_part_179 ?_
      refine m_lload F rfl e_X10_part_180 ?_
      refine m_lload F rfl e_X10_part_182 ?_
      refine r_callV F e_X10_part_184 (q_X10_gives (x_l X) V c T Z u1 h P L _ _ a 3 w1 w2 h1.1 (hok.b) hP (by omega)) cb_X10_gives ml_X10_319 im_X10_gives se_X10_gives h1 rfl rfl (rest := []) rfl (Nat.le_of_ble_eq_true rfl) ⟨Nat.le_of_ble_eq_true rfl, Nat.le_of_ble_eq_true rfl⟩ ⟨Nat.le_of_ble_eq_true rfl, Nat.le_of_ble_eq_true rfl⟩ (fun r σ6754 hp => ?_)
      obtain ⟨h6755, rfl⟩ := hp
      have h6756 := HS.trans h1 h6755 (by decide)
      refine m_lload F rfl e_X10_part_187 ?_
      refine m_lload F rfl e_X10_part_189 ?_
      refine m_lsub F e_X10_part_191 ?_
      refine Wm.topl (fun x6757 _ => ?_)
      exact m_lret F hQ e_X10_part_192 (⟨u1, by omega, L, hok, h6756, _, rfl⟩)
    · have c98 : i < ((L a).2.1) := by have hh := mt (fun h9 => (lg_cmp_ge (lN i) (lN ((L a).2.1))).mpr ((lN_le (a := ((L a).2.1)) (b := i) (by omega) (by omega)).mpr h9)) q98; omega
      refine m_aload_n F rfl e_X10_part_101 ?_
      refine r_getC F e_X10_part_102 fl_X10_59 h1 (f6749) ?_
      refine m_iload_n F rfl e_X10_part_105 ?_
      refine m_bipush F (v := 13) (by decide) e_X10_part_106 ?_
      refine m_iadd F e_X10_part_108 ?_
      refine Wm.topE (w := nI (160 * a + 13)) (nI_add (160 * a) 13) ?_
      refine m_iload F rfl e_X10_part_109 ?_
      refine m_iadd F e_X10_part_111 ?_
      refine Wm.topE (w := nI ((160 * a + 13) + i)) (nI_add (160 * a + 13) i) ?_
      refine m_aload_n F rfl e_X10_part_112 ?_
      refine r_getC F e_X10_part_113 fl_X10_59 h1 (f6749) ?_
      refine m_iload_n F rfl e_X10_part_116 ?_
      refine m_bipush F (v := 13) (by decide) e_X10_part_117 ?_
      refine m_iadd F e_X10_part_119 ?_
      refine Wm.topE (w := nI (160 * a + 13)) (nI_add (160 * a) 13) ?_
      refine m_iload F rfl e_X10_part_120 ?_
      refine m_iadd F e_X10_part_122 ?_
      refine Wm.topE (w := nI ((160 * a + 13) + i)) (nI_add (160 * a + 13) i) ?_
      refine r_sld F (j := (160 * a + 13) + i) e_X10_part_123 h1 (nI_clamp (by omega)) (vp_in_nI (by omega) (by decide)) (fun x6758 h6759 f6760 => ?_)
      refine m_sipush F (v := 1000) (by decide) e_X10_part_124 ?_
      refine m_iload_n F rfl e_X10_part_127 ?_
      refine m_isub F e_X10_part_128 ?_
      refine Wm.top (fun x6761 _ => ?_)
      refine m_i2l F e_X10_part_129 ?_
      refine Wm.topl (fun x6762 _ => ?_)
      refine m_lmul F e_X10_part_130 ?_
      refine Wm.topl (fun x6763 _ => ?_)
      refine m_ldc2 F kc_X10_224 e_X10_part_131 ?_
      refine m_ldiv F (by decide) e_X10_part_134 ?_
      refine Wm.topl (fun x6764 _ => ?_)
      refine r_sst F (g' := (⟨T, Z, u1, h, P, L⟩ : RG)) (j := (160 * a + 13) + i) e_X10_part_135 h1 (by decide) (nI_clamp (by omega)) (vp_in_nI (by omega) (by decide)) (fun f q => EJ_same (EJ_lw (l := a) (r := ((160 * a + 13) + i) - 160 * a) (by omega) (by omega) (by omega)) q) (fun _ _ _ q => q) (fun σ6765 h6766 g6767 => ?_)
      refine m_aload_n F rfl e_X10_part_136 ?_
      refine r_getC F e_X10_part_137 fl_X10_59 h6766 ((fld_eq (g6767 _ (by omega))).trans f6749) ?_
      refine m_iload_n F rfl e_X10_part_140 ?_
      refine m_bipush F (v := 85) (by decide) e_X10_part_141 ?_
      refine m_iadd F e_X10_part_143 ?_
      refine Wm.topE (w := nI (160 * a + 85)) (nI_add (160 * a) 85) ?_
      refine m_iload F rfl e_X10_part_144 ?_
      refine m_iadd F e_X10_part_146 ?_
      refine Wm.topE (w := nI ((160 * a + 85) + i)) (nI_add (160 * a + 85) i) ?_
      refine m_aload_n F rfl e_X10_part_147 ?_
      refine r_getC F e_X10_part_148 fl_X10_59 h6766 ((fld_eq (g6767 _ (by omega))).trans f6749) ?_
      refine m_iload_n F rfl e_X10_part_151 ?_
      refine m_bipush F (v := 85) (by decide) e_X10_part_152 ?_
      refine m_iadd F e_X10_part_154 ?_
      refine Wm.topE (w := nI (160 * a + 85)) (nI_add (160 * a) 85) ?_
      refine m_iload F rfl e_X10_part_155 ?_
      refine m_iadd F e_X10_part_157 ?_
      refine Wm.topE (w := nI ((160 * a + 85) + i)) (nI_add (160 * a + 85) i) ?_
      refine r_sld F (j := (160 * a + 85) + i) e_X10_part_158 h6766 (nI_clamp (by omega)) (vp_in_nI (by omega) (by decide)) (fun x6768 h6769 f6770 => ?_)
      refine m_sipush F (v := 1000) (by decide) e_X10_part_159 ?_
      refine m_iload_n F rfl e_X10_part_162 ?_
      refine m_isub F e_X10_part_163 ?_
      refine Wm.top (fun x6771 _ => ?_)
      refine m_i2l F e_X10_part_164 ?_
      refine Wm.topl (fun x6772 _ => ?_)
      refine m_lmul F e_X10_part_165 ?_
      refine Wm.topl (fun x6773 _ => ?_)
      refine m_ldc2 F kc_X10_224 e_X10_part_166 ?_
      refine m_ldiv F (by decide) e_X10_part_169 ?_
      refine Wm.topl (fun x6774 _ => ?_)
      refine r_sst F (g' := (⟨T, Z, u1, h, P, L⟩ : RG)) (j := (160 * a + 85) + i) e_X10_part_170 h6766 (by decide) (nI_clamp (by omega)) (vp_in_nI (by omega) (by decide)) (fun f q => EJ_same (EJ_lw (l := a) (r := ((160 * a + 85) + i) - 160 * a) (by omega) (by omega) (by omega)) q) (fun _ _ _ q => q) (fun σ6775 h6776 g6777 => ?_)
      refine m_iinc F (v := nI (i + 1)) (lv' := [(8, .int (nI (i + 1))), (0, .ref c), (1, .int (nI a)), (2, .int (nI b)), (3, .int (nI (160 * a))), (4, .long w1), (6, .long w2)]) e_X10_part_171 rfl (nI_add i 1) (by decide) rfl ?_
      refine m_goto F e_X10_part_174 ?_
      refine Wm.lvsub (lv' := [(0, .ref c), (1, .int (nI a)), (2, .int (nI b)), (3, .int (nI (160 * a))), (4, .long w1), (6, .long w2), (8, .int (nI (i + 1)))]) ?_ [1, 2, 3, 4, 5, 6, 0] rfl
      exact ih a b w1 w2 (i + 1) u1 _ h6776 (by omega) (by omega)
set_option maxRecDepth 20000 in
theorem q_X10_part (l : Launch) (V : VX) (c T Z u h : Nat) (P : NP) (L : Nat → LQ) (N : Nat) (σ : Mem) (x901 : Int32) (x902 : Int32) (h0 : HR V c ⟨T, Z, u, h, P, L⟩ σ) (hok : OKL P.n0 L) (hP : OKP P) (hp0 : u ≤ 20) (hp1 : P.kk = P.n0) : Ct l V yX10_part cX10_part 9 (some .long) 3 0 0 N σ [.ref c, .int x901, .int x902] (fun r τ => ∃ u9, u9 ≤ 20 ∧ ∃ L9, OKL P.n0 L9 ∧ HS V c (⟨T, Z, u9, h, P, L9⟩ : RG) [0, 2, 3, 4, 5, 6, 7, 8, 9, 10, 11, 12, 13, 14, 15, 16, 18, 19, 20, 22] σ τ ∧ ∃ x : Int64, r = some (.long x)) := by
  refine Ct.of (by decide) (Nat.le_of_ble_eq_true rfl) [(0, .ref c), (1, .int x901), (2, .int x902)] rfl (fun X hX F hQ => ?_)
  have hPP := hP
  unfold OKP at hPP
  have h1 : HS V c ⟨T, Z, u, h, P, L⟩ [0, 2, 3, 4, 5, 6, 7, 8, 9, 10, 11, 12, 13, 14, 15, 16, 18, 19, 20, 22] σ σ := HS.start h0
  refine m_aload_n F rfl e_X10_part_0 ?_
  refine m_iconst F (v := 0) (by decide) e_X10_part_1 ?_
  refine r_put F (g' := (⟨T, Z, u, h, P, L⟩ : RG)) e_X10_part_2 fp_X10_91 h1 (by decide) ⟨_, rfl⟩ (fun _ _ _ _ q => q) (fun _ _ _ q => q) rfl rfl (by decide) (fun σ6778 h6779 g6780 g6781 f6782 => ?_)
  refine m_aload_n F rfl e_X10_part_5 ?_
  refine m_iload_n F rfl e_X10_part_6 ?_
  refine r_callV F e_X10_part_7 (q_X10_isRunning (x_l X) V c T Z u h P L _ _ x901 h6779.1 (hok.b) hP ) cb_X10_isRunning ml_X10_301 im_X10_isRunning se_X10_isRunning h6779 rfl rfl (rest := []) rfl (Nat.le_of_ble_eq_true rfl) ⟨Nat.le_of_ble_eq_true rfl, Nat.le_of_ble_eq_true rfl⟩ ⟨Nat.le_of_ble_eq_true rfl, Nat.le_of_ble_eq_true rfl⟩ (fun r σ6783 hp => ?_)
  obtain ⟨h6784, c6786⟩ := hp
  have h6785 := HS.trans h6779 h6784 (by decide)
  rcases c6786 with rfl | ⟨n6787, h6788, h6789, e6790, rfl⟩
  · refine m_if_eq F e_X10_part_10 (fun _ => ?_) (fun q => absurd (by decide) q)
    refine m_ldc2 F kc_X10_299 e_X10_part_25 ?_
    exact m_lret F hQ e_X10_part_28 (⟨u, by omega, L, hok, h6785, _, rfl⟩)
  · subst e6790
    refine m_if_eq F e_X10_part_10 (fun q => absurd q (by decide)) (fun _ => ?_)
    refine m_iload_n F rfl e_X10_part_13 ?_
    refine m_iconst F (v := 1) (by decide) e_X10_part_14 ?_
    refine m_icmp_lt F e_X10_part_15 (fun q15 => ?_) (fun q15 => ?_)
    · refine m_ldc2 F kc_X10_299 e_X10_part_25 ?_
      exact m_lret F hQ e_X10_part_28 (⟨u, by omega, L, hok, h6785, _, rfl⟩)
    · obtain ⟨n6791, hn6791, rfl⟩ := nI_nn (x := x902) (fun e => q15 (Int32.lt_of_lt_of_le e (by decide)))
      have c15 : n6791 ≥ 1 := by have hh := mt (nI_ltI (a := n6791) (b := 1) (by omega) (by omega)).mpr q15; omega
      refine m_iload_n F rfl e_X10_part_18 ?_
      refine m_sipush F (v := 999) (by decide) e_X10_part_19 ?_
      refine m_icmp_le F e_X10_part_22 (fun q22 => ?_) (fun q22 => ?_)
      · have c22 : n6791 ≤ 999 := (nI_leI (a := n6791) (b := 999) (by omega) (by omega)).mp q22
        refine m_aload_n F rfl e_X10_part_29 ?_
        refine r_callV F e_X10_part_30 (q_X10_remembers (x_l X) V c T Z u h P L _ _  h6785.1 (hok) hP (by first | omega | assumption | decide) (by first | omega | assumption | decide)) cb_X10_remembers ml_X10_286 im_X10_remembers se_X10_remembers h6785 rfl rfl (rest := []) rfl (Nat.le_of_ble_eq_true rfl) ⟨Nat.le_of_ble_eq_true rfl, Nat.le_of_ble_eq_true rfl⟩ ⟨Nat.le_of_ble_eq_true rfl, Nat.le_of_ble_eq_true rfl⟩ (fun r σ6792 hp => ?_)
        obtain ⟨u6795, hu6795, h6793, rfl⟩ := hp
        have h6794 := HS.trans h6785 h6793 (by decide)
        refine m_sipush F (v := 160) (by decide) e_X10_part_33 ?_
        refine m_iload_n F rfl e_X10_part_36 ?_
        refine m_imul F e_X10_part_37 ?_
        refine Wm.topE (w := nI (160 * n6787)) (pk_mul 160 n6787) ?_
        refine m_istore_n F (lv' := [(3, .int (nI (160 * n6787))), (0, .ref c), (1, .int (nI n6787)), (2, .int (nI n6791))]) e_X10_part_38 (by decide) rfl ?_
        have hl6796 := hok.2 n6787 (by omega)
        have hl6797 := hok.2 n6787 (by omega)
        have hl6798 := hok.2 n6787 (by omega)
        refine m_aload_n F rfl e_X10_part_39 ?_
        refine r_get F e_X10_part_40 fl_X10_59 h6794 rfl (fun v hv f6799 => ?_)
        obtain rfl : v = .ref (c + 16) := hv
        refine m_iload_n F rfl e_X10_part_43 ?_
        refine m_bipush F (v := 6) (by decide) e_X10_part_44 ?_
        refine m_iadd F e_X10_part_46 ?_
        refine Wm.topE (w := nI (160 * n6787 + 6)) (nI_add (160 * n6787) 6) ?_
        refine r_sld F (j := 160 * n6787 + 6) e_X10_part_47 h6794 (nI_clamp (by omega)) (vp_in_nI (by omega) (by decide)) (fun x6800 h6801 f6802 => ?_)
        refine m_iload_n F rfl e_X10_part_48 ?_
        refine m_i2l F e_X10_part_49 ?_
        refine Wm.toplE (w := lN n6791) (nI_l (by omega)) ?_
        refine m_lmul F e_X10_part_50 ?_
        refine Wm.topl (fun x6803 _ => ?_)
        refine m_ldc2 F kc_X10_224 e_X10_part_51 ?_
        refine m_ldiv F (by decide) e_X10_part_54 ?_
        refine Wm.topl (fun x6804 _ => ?_)
        refine m_lstore F (lv' := [(4, .long x6804), (3, .int (nI (160 * n6787))), (0, .ref c), (1, .int (nI n6787)), (2, .int (nI n6791))]) e_X10_part_55 (by decide) rfl ?_
        refine m_aload_n F rfl e_X10_part_57 ?_
        refine r_getC F e_X10_part_58 fl_X10_59 h6794 (f6799) ?_
        refine m_iload_n F rfl e_X10_part_61 ?_
        refine m_bipush F (v := 7) (by decide) e_X10_part_62 ?_
        refine m_iadd F e_X10_part_64 ?_
        refine Wm.topE (w := nI (160 * n6787 + 7)) (nI_add (160 * n6787) 7) ?_
        refine r_sld F (j := 160 * n6787 + 7) e_X10_part_65 h6794 (nI_clamp (by omega)) (vp_in_nI (by omega) (by decide)) (fun x6805 h6806 f6807 => ?_)
        refine m_iload_n F rfl e_X10_part_66 ?_
        refine m_i2l F e_X10_part_67 ?_
        refine Wm.toplE (w := lN n6791) (nI_l (by omega)) ?_
        refine m_lmul F e_X10_part_68 ?_
        refine Wm.topl (fun x6808 _ => ?_)
        refine m_ldc2 F kc_X10_224 e_X10_part_69 ?_
        refine m_ldiv F (by decide) e_X10_part_72 ?_
        refine Wm.topl (fun x6809 _ => ?_)
        refine m_lstore F (lv' := [(6, .long x6809), (4, .long x6804), (3, .int (nI (160 * n6787))), (0, .ref c), (1, .int (nI n6787)), (2, .int (nI n6791))]) e_X10_part_73 (by decide) rfl ?_
        refine m_aload_n F rfl e_X10_part_75 ?_
        refine r_getC F e_X10_part_76 fl_X10_59 h6794 (f6799) ?_
        refine m_iload_n F rfl e_X10_part_79 ?_
        refine m_iconst F (v := 5) (by decide) e_X10_part_80 ?_
        refine m_iadd F e_X10_part_81 ?_
        refine Wm.topE (w := nI (160 * n6787 + 5)) (nI_add (160 * n6787) 5) ?_
        refine r_sld F (j := 160 * n6787 + 5) e_X10_part_82 h6794 (nI_clamp (by omega)) (vp_in_nI (by omega) (by decide)) (fun x6810 h6811 f6812 => ?_)
        have hl6813 := hok.2 n6787 (by omega)
        obtain rfl : x6810 = lN (L n6787).2.2.2 := (EJ_l (l := n6787) (r := 5) (by omega) (by decide)).mp h6811
        refine m_l2i F e_X10_part_83 ?_
        refine Wm.topE (w := nI ((L n6787).2.2.2)) (lN_i ((L n6787).2.2.2)) ?_
        refine m_istore F (lv' := [(8, .int (nI ((L n6787).2.2.2))), (6, .long x6809), (4, .long x6804), (3, .int (nI (160 * n6787))), (0, .ref c), (1, .int (nI n6787)), (2, .int (nI n6791))]) e_X10_part_84 (by decide) rfl ?_
        refine Wm.lvsub (lv' := [(0, .ref c), (1, .int (nI n6787)), (2, .int (nI n6791)), (3, .int (nI (160 * n6787))), (4, .long x6804), (6, .long x6809), (8, .int (nI ((L n6787).2.2.2)))]) ?_ [4, 5, 6, 3, 2, 1, 0] rfl
        exact lq_X10_part_86 F hQ hok hP hp0 hp1 (72 - ((L n6787).2.2.2) + 1) n6787 n6791 x6804 x6809 ((L n6787).2.2.2) u6795 _ h6794 (by omega) (Nat.lt_succ_self _)
      · have c22 : n6791 > 999 := by have hh := mt (nI_leI (a := n6791) (b := 999) (by omega) (by omega)).mpr q22; omega
        refine m_ldc2 F kc_X10_299 e_X10_part_25 ?_
        exact m_lret F hQ e_X10_part_28 (⟨u, by omega, L, hok, h6785, _, rfl⟩)
set_option maxRecDepth 20000 in
theorem q_X10_end (l : Launch) (V : VX) (c T Z u h : Nat) (P : NP) (L : Nat → LQ) (N : Nat) (σ : Mem) (x901 : Int32) (h0 : HR V c ⟨T, Z, u, h, P, L⟩ σ) (hok : OKL P.n0 L) (hP : OKP P) (hp0 : u ≤ 20) (hp1 : P.kk = P.n0) : Ct l V yX10_end cX10_end 5 (some .long) 3 0 0 N σ [.ref c, .int x901] (fun r τ => ∃ u9, u9 ≤ 20 ∧ ∃ L9, OKL P.n0 L9 ∧ HS V c (⟨T, Z, u9, h, P, L9⟩ : RG) [0, 2, 3, 4, 5, 6, 7, 8, 9, 10, 11, 12, 13, 14, 15, 16, 18, 19, 20, 22] σ τ ∧ ∃ x : Int64, r = some (.long x)) := by
  refine Ct.of (by decide) (Nat.le_of_ble_eq_true rfl) [(0, .ref c), (1, .int x901)] rfl (fun X hX F hQ => ?_)
  have hPP := hP
  unfold OKP at hPP
  have h1 : HS V c ⟨T, Z, u, h, P, L⟩ [0, 2, 3, 4, 5, 6, 7, 8, 9, 10, 11, 12, 13, 14, 15, 16, 18, 19, 20, 22] σ σ := HS.start h0
  refine m_aload_n F rfl e_X10_end_0 ?_
  refine m_iconst F (v := 0) (by decide) e_X10_end_1 ?_
  refine r_put F (g' := (⟨T, Z, u, h, P, L⟩ : RG)) e_X10_end_2 fp_X10_91 h1 (by decide) ⟨_, rfl⟩ (fun _ _ _ _ q => q) (fun _ _ _ q => q) rfl rfl (by decide) (fun σ6814 h6815 g6816 g6817 f6818 => ?_)
  refine m_aload_n F rfl e_X10_end_5 ?_
  refine m_iload_n F rfl e_X10_end_6 ?_
  refine r_callV F e_X10_end_7 (q_X10_isRunning (x_l X) V c T Z u h P L _ _ x901 h6815.1 (hok.b) hP ) cb_X10_isRunning ml_X10_301 im_X10_isRunning se_X10_isRunning h6815 rfl rfl (rest := []) rfl (Nat.le_of_ble_eq_true rfl) ⟨Nat.le_of_ble_eq_true rfl, Nat.le_of_ble_eq_true rfl⟩ ⟨Nat.le_of_ble_eq_true rfl, Nat.le_of_ble_eq_true rfl⟩ (fun r σ6819 hp => ?_)
  obtain ⟨h6820, c6822⟩ := hp
  have h6821 := HS.trans h6815 h6820 (by decide)
  rcases c6822 with rfl | ⟨n6823, h6824, h6825, e6826, rfl⟩
  · refine m_if_ne F e_X10_end_10 (fun q => absurd (by decide) q) (fun _ => ?_)
    refine m_ldc2 F kc_X10_299 e_X10_end_13 ?_
    exact m_lret F hQ e_X10_end_16 (⟨u, by omega, L, hok, h6821, _, rfl⟩)
  · subst e6826
    refine m_if_ne F e_X10_end_10 (fun _ => ?_) (fun q => absurd q (by decide))
    refine m_aload_n F rfl e_X10_end_17 ?_
    refine r_callV F e_X10_end_18 (q_X10_remembers (x_l X) V c T Z u h P L _ _  h6821.1 (hok) hP (by first | omega | assumption | decide) (by first | omega | assumption | decide)) cb_X10_remembers ml_X10_286 im_X10_remembers se_X10_remembers h6821 rfl rfl (rest := []) rfl (Nat.le_of_ble_eq_true rfl) ⟨Nat.le_of_ble_eq_true rfl, Nat.le_of_ble_eq_true rfl⟩ ⟨Nat.le_of_ble_eq_true rfl, Nat.le_of_ble_eq_true rfl⟩ (fun r σ6827 hp => ?_)
    obtain ⟨u6830, hu6830, h6828, rfl⟩ := hp
    have h6829 := HS.trans h6821 h6828 (by decide)
    refine m_sipush F (v := 160) (by decide) e_X10_end_21 ?_
    refine m_iload_n F rfl e_X10_end_24 ?_
    refine m_imul F e_X10_end_25 ?_
    refine Wm.topE (w := nI (160 * n6823)) (pk_mul 160 n6823) ?_
    refine m_istore_n F (lv' := [(2, .int (nI (160 * n6823))), (0, .ref c), (1, .int (nI n6823))]) e_X10_end_26 (by decide) rfl ?_
    have hl6831 := hok.2 n6823 (by omega)
    have hl6832 := hok.2 n6823 (by omega)
    have hl6833 := hok.2 n6823 (by omega)
    refine m_aload_n F rfl e_X10_end_27 ?_
    refine r_get F e_X10_end_28 fl_X10_59 h6829 rfl (fun v hv f6834 => ?_)
    obtain rfl : v = .ref (c + 16) := hv
    refine m_iload_n F rfl e_X10_end_31 ?_
    refine m_bipush F (v := 6) (by decide) e_X10_end_32 ?_
    refine m_iadd F e_X10_end_34 ?_
    refine Wm.topE (w := nI (160 * n6823 + 6)) (nI_add (160 * n6823) 6) ?_
    refine r_sld F (j := 160 * n6823 + 6) e_X10_end_35 h6829 (nI_clamp (by omega)) (vp_in_nI (by omega) (by decide)) (fun x6835 h6836 f6837 => ?_)
    refine m_aload_n F rfl e_X10_end_36 ?_
    refine r_getC F e_X10_end_37 fl_X10_59 h6829 (f6834) ?_
    refine m_iload_n F rfl e_X10_end_40 ?_
    refine m_bipush F (v := 7) (by decide) e_X10_end_41 ?_
    refine m_iadd F e_X10_end_43 ?_
    refine Wm.topE (w := nI (160 * n6823 + 7)) (nI_add (160 * n6823) 7) ?_
    refine r_sld F (j := 160 * n6823 + 7) e_X10_end_44 h6829 (nI_clamp (by omega)) (vp_in_nI (by omega) (by decide)) (fun x6838 h6839 f6840 => ?_)
    refine m_lsub F e_X10_end_45 ?_
    refine Wm.topl (fun x6841 _ => ?_)
    refine m_lstore_n F (lv' := [(3, .long x6841), (2, .int (nI (160 * n6823))), (0, .ref c), (1, .int (nI n6823))]) e_X10_end_46 (by decide) rfl ?_
    refine m_aload_n F rfl e_X10_end_47 ?_
    refine m_iload_n F rfl e_X10_end_48 ?_
    refine m_iconst F (v := 4) (by decide) e_X10_end_49 ?_
    refine m_aload_n F rfl e_X10_end_50 ?_
    refine r_getC F e_X10_end_51 fl_X10_59 h6829 (f6834) ?_
    refine m_iload_n F rfl e_X10_end_54 ?_
    refine m_bipush F (v := 6) (by decide) e_X10_end_55 ?_
    refine m_iadd F e_X10_end_57 ?_
    refine Wm.topE (w := nI (160 * n6823 + 6)) (nI_add (160 * n6823) 6) ?_
    refine r_sld F (j := 160 * n6823 + 6) e_X10_end_58 h6829 (nI_clamp (by omega)) (vp_in_nI (by omega) (by decide)) (fun x6842 h6843 f6844 => ?_)
    refine m_aload_n F rfl e_X10_end_59 ?_
    refine r_getC F e_X10_end_60 fl_X10_59 h6829 (f6834) ?_
    refine m_iload_n F rfl e_X10_end_63 ?_
    refine m_bipush F (v := 7) (by decide) e_X10_end_64 ?_
    refine m_iadd F e_X10_end_66 ?_
    refine Wm.topE (w := nI (160 * n6823 + 7)) (nI_add (160 * n6823) 7) ?_
    refine r_sld F (j := 160 * n6823 + 7) e_X10_end_67 h6829 (nI_clamp (by omega)) (vp_in_nI (by omega) (by decide)) (fun x6845 h6846 f6847 => ?_)
    refine r_callV F e_X10_end_68 (q_X10_gives (x_l X) V c T Z u6830 h P L _ _ n6823 4 x6842 x6845 h6829.1 (hok.b) hP (by omega)) cb_X10_gives ml_X10_319 im_X10_gives se_X10_gives h6829 rfl rfl (rest := []) rfl (Nat.le_of_ble_eq_true rfl) ⟨Nat.le_of_ble_eq_true rfl, Nat.le_of_ble_eq_true rfl⟩ ⟨Nat.le_of_ble_eq_true rfl, Nat.le_of_ble_eq_true rfl⟩ (fun r σ6848 hp => ?_)
    obtain ⟨h6849, rfl⟩ := hp
    have h6850 := HS.trans h6829 h6849 (by decide)
    refine m_aload_n F rfl e_X10_end_71 ?_
    refine r_getC F e_X10_end_72 fl_X10_59 h6850 ((fld_eq (h6849.2 c (by rw [show kC c c = 1 from kC_at (k := 0) (by decide)]; decide))).trans f6834) ?_
    refine m_iload_n F rfl e_X10_end_75 ?_
    refine m_iconst F (v := 0) (by decide) e_X10_end_76 ?_
    refine m_iadd F e_X10_end_77 ?_
    refine Wm.topE (w := nI (160 * n6823)) (nI_add (160 * n6823) 0) ?_
    refine m_ldc2 F kc_X10_234 e_X10_end_78 ?_
    refine r_sst F (g' := (⟨T, Z, u6830, h, P, (updL L n6823 (2, (L n6823).2.1, (L n6823).2.2.1, (L n6823).2.2.2))⟩ : RG)) (j := 160 * n6823) e_X10_end_81 h6850 (by decide) (nI_clamp (by omega)) (vp_in_nI (by omega) (by decide)) (fun f q => EJ_up (l := n6823) (r := 0) (by omega) (by decide) q rfl (by intro r' h1 h2 y hy; revert hy; unfold EL; split <;> simp_all)) CR.row (fun σ6851 h6852 g6853 => ?_)
    obtain ⟨L6854, eL6854⟩ : ∃ L9, L9 = (updL L n6823 (2, (L n6823).2.1, (L n6823).2.2.1, (L n6823).2.2.2)) := ⟨_, rfl⟩
    rw [← eL6854] at h6852
    have fL6854 : L6854 n6823 = (2, (L n6823).2.1, (L n6823).2.2.1, (L n6823).2.2.2) := by rw [eL6854]; exact if_pos rfl
    have fL68540 : (L6854 n6823).1 = 2 := by rw [fL6854]
    have fL68541 : (L6854 n6823).2.1 = (L n6823).2.1 := by rw [fL6854]
    have fL68542 : (L6854 n6823).2.2.1 = (L n6823).2.2.1 := by rw [fL6854]
    have fL68543 : (L6854 n6823).2.2.2 = (L n6823).2.2.2 := by rw [fL6854]
    have oL6854 : ∀ i, i ≠ n6823 → L6854 i = L i := fun i hi => by rw [eL6854]; exact if_neg hi
    have pL6854 : (L6854 4).1 = (L 4).1 := by rw [oL6854 4 (by omega)]
    refine m_lload_n F rfl e_X10_end_82 ?_
    have ok6855 : OKL P.n0 L6854 := OKL.upd hok (l := n6823) (by omega) (fun i hi => (oL6854 i hi)) (by have h9 := hok.2 n6823 (by omega); omega)
    exact m_lret F hQ e_X10_end_83 (⟨u6830, by omega, L6854, ok6855, h6852, _, rfl⟩)
set_option maxRecDepth 20000 in
theorem q_X10_down (l : Launch) (V : VX) (c T Z u h : Nat) (P : NP) (L : Nat → LQ) (N : Nat) (σ : Mem) (x901 : Int32) (x902 : Int64) (h0 : HR V c ⟨T, Z, u, h, P, L⟩ σ) (hok : OKL P.n0 L) (hP : OKP P) (hp0 : u ≤ 20) (hp1 : P.kk = P.n0) : Ct l V yX10_down cX10_down 4 (some .long) 3 0 0 N σ [.ref c, .int x901, .long x902] (fun r τ => ∃ u9, u9 ≤ 20 ∧ ∃ L9, OKL P.n0 L9 ∧ HS V c (⟨T, Z, u9, h, P, L9⟩ : RG) [0, 2, 3, 4, 5, 6, 7, 8, 9, 10, 11, 12, 13, 14, 15, 16, 18, 19, 20, 22] σ τ ∧ ∃ x : Int64, r = some (.long x)) := by
  refine Ct.of (by decide) (Nat.le_of_ble_eq_true rfl) [(0, .ref c), (1, .int x901), (2, .long x902)] rfl (fun X hX F hQ => ?_)
  have hPP := hP
  unfold OKP at hPP
  have h1 : HS V c ⟨T, Z, u, h, P, L⟩ [0, 2, 3, 4, 5, 6, 7, 8, 9, 10, 11, 12, 13, 14, 15, 16, 18, 19, 20, 22] σ σ := HS.start h0
  refine m_aload_n F rfl e_X10_down_0 ?_
  refine m_iconst F (v := 0) (by decide) e_X10_down_1 ?_
  refine r_put F (g' := (⟨T, Z, u, h, P, L⟩ : RG)) e_X10_down_2 fp_X10_91 h1 (by decide) ⟨_, rfl⟩ (fun _ _ _ _ q => q) (fun _ _ _ q => q) rfl rfl (by decide) (fun σ6856 h6857 g6858 g6859 f6860 => ?_)
  refine m_aload_n F rfl e_X10_down_5 ?_
  refine m_iload_n F rfl e_X10_down_6 ?_
  refine r_callV F e_X10_down_7 (q_X10_isRunning (x_l X) V c T Z u h P L _ _ x901 h6857.1 (hok.b) hP ) cb_X10_isRunning ml_X10_301 im_X10_isRunning se_X10_isRunning h6857 rfl rfl (rest := []) rfl (Nat.le_of_ble_eq_true rfl) ⟨Nat.le_of_ble_eq_true rfl, Nat.le_of_ble_eq_true rfl⟩ ⟨Nat.le_of_ble_eq_true rfl, Nat.le_of_ble_eq_true rfl⟩ (fun r σ6861 hp => ?_)
  obtain ⟨h6862, c6864⟩ := hp
  have h6863 := HS.trans h6857 h6862 (by decide)
  rcases c6864 with rfl | ⟨n6865, h6866, h6867, e6868, rfl⟩
  · refine m_if_eq F e_X10_down_10 (fun _ => ?_) (fun q => absurd (by decide) q)
    refine m_ldc2 F kc_X10_299 e_X10_down_37 ?_
    exact m_lret F hQ e_X10_down_40 (⟨u, by omega, L, hok, h6863, _, rfl⟩)
  · subst e6868
    refine m_if_eq F e_X10_down_10 (fun q => absurd q (by decide)) (fun _ => ?_)
    refine m_lload_n F rfl e_X10_down_13 ?_
    refine m_lconst F (v := 1) (by decide) e_X10_down_14 ?_
    refine m_lcmp F e_X10_down_15 ?_
    refine Wm.top (fun x6869 _ => ?_)
    refine m_if_lt F e_X10_down_16 (fun q16 => ?_) (fun q16 => ?_)
    · refine m_ldc2 F kc_X10_299 e_X10_down_37 ?_
      exact m_lret F hQ e_X10_down_40 (⟨u, by omega, L, hok, h6863, _, rfl⟩)
    · obtain ⟨n6870, hn6870, rfl⟩ := nI_nn (x := x6869) (fun e => q16 (Int32.lt_of_lt_of_le e (by decide)))
      have c16 : n6870 ≥ 0 := by have hh := mt (nI_ltI (a := n6870) (b := 0) (by omega) (by omega)).mpr q16; omega
      refine m_lload_n F rfl e_X10_down_19 ?_
      refine m_aload_n F rfl e_X10_down_20 ?_
      refine r_get F e_X10_down_21 fl_X10_59 h6863 rfl (fun v hv f6871 => ?_)
      obtain rfl : v = .ref (c + 16) := hv
      refine m_sipush F (v := 160) (by decide) e_X10_down_24 ?_
      refine m_iload_n F rfl e_X10_down_27 ?_
      refine m_imul F e_X10_down_28 ?_
      refine Wm.topE (w := nI (160 * n6865)) (pk_mul 160 n6865) ?_
      refine m_bipush F (v := 7) (by decide) e_X10_down_29 ?_
      refine m_iadd F e_X10_down_31 ?_
      refine Wm.topE (w := nI (160 * n6865 + 7)) (nI_add (160 * n6865) 7) ?_
      refine r_sld F (j := 160 * n6865 + 7) e_X10_down_32 h6863 (nI_clamp (by omega)) (vp_in_nI (by omega) (by decide)) (fun x6872 h6873 f6874 => ?_)
      refine m_lcmp F e_X10_down_33 ?_
      refine Wm.top (fun x6875 _ => ?_)
      refine m_if_le F e_X10_down_34 (fun q34 => ?_) (fun q34 => ?_)
      · refine m_aload_n F rfl e_X10_down_41 ?_
        refine r_callV F e_X10_down_42 (q_X10_remembers (x_l X) V c T Z u h P L _ _  h6863.1 (hok) hP (by first | omega | assumption | decide) (by first | omega | assumption | decide)) cb_X10_remembers ml_X10_286 im_X10_remembers se_X10_remembers h6863 rfl rfl (rest := []) rfl (Nat.le_of_ble_eq_true rfl) ⟨Nat.le_of_ble_eq_true rfl, Nat.le_of_ble_eq_true rfl⟩ ⟨Nat.le_of_ble_eq_true rfl, Nat.le_of_ble_eq_true rfl⟩ (fun r σ6876 hp => ?_)
        obtain ⟨u6879, hu6879, h6877, rfl⟩ := hp
        have h6878 := HS.trans h6863 h6877 (by decide)
        refine m_aload_n F rfl e_X10_down_45 ?_
        refine r_get F e_X10_down_46 fl_X10_59 h6878 rfl (fun v hv f6880 => ?_)
        obtain rfl : v = .ref (c + 16) := hv
        refine m_sipush F (v := 160) (by decide) e_X10_down_49 ?_
        refine m_iload_n F rfl e_X10_down_52 ?_
        refine m_imul F e_X10_down_53 ?_
        refine Wm.topE (w := nI (160 * n6865)) (pk_mul 160 n6865) ?_
        refine m_bipush F (v := 7) (by decide) e_X10_down_54 ?_
        refine m_iadd F e_X10_down_56 ?_
        refine Wm.topE (w := nI (160 * n6865 + 7)) (nI_add (160 * n6865) 7) ?_
        refine m_dup2_11 F rfl rfl e_X10_down_57 ?_
        refine r_sld F (j := 160 * n6865 + 7) e_X10_down_58 h6878 (nI_clamp (by omega)) (vp_in_nI (by omega) (by decide)) (fun x6881 h6882 f6883 => ?_)
        refine m_lload_n F rfl e_X10_down_59 ?_
        refine m_lsub F e_X10_down_60 ?_
        refine Wm.topl (fun x6884 _ => ?_)
        refine r_sst F (g' := (⟨T, Z, u6879, h, P, L⟩ : RG)) (j := 160 * n6865 + 7) e_X10_down_61 h6878 (by decide) (nI_clamp (by omega)) (vp_in_nI (by omega) (by decide)) (fun f q => EJ_same (EJ_lw (l := n6865) (r := 7) (by omega) (by omega) (by omega)) q) (fun _ _ _ q => q) (fun σ6885 h6886 g6887 => ?_)
        refine m_aload_n F rfl e_X10_down_62 ?_
        refine m_iconst F (v := 5) (by decide) e_X10_down_63 ?_
        refine m_iload_n F rfl e_X10_down_64 ?_
        refine m_lconst F (v := 0) (by decide) e_X10_down_65 ?_
        refine m_lconst F (v := 0) (by decide) e_X10_down_66 ?_
        refine m_lload_n F rfl e_X10_down_67 ?_
        refine m_lneg F e_X10_down_68 ?_
        refine Wm.topl (fun x6888 _ => ?_)
        refine m_lconst F (v := 0) (by decide) e_X10_down_69 ?_
        refine m_lconst F (v := 0) (by decide) e_X10_down_70 ?_
        refine m_lload_n F rfl e_X10_down_71 ?_
        refine r_callV F e_X10_down_72 (q_X10_entry (x_l X) V c T Z u6879 h P L _ _ 5 (nI n6865) 0 0 x6888 0 0 x902 h6886.1 (hok.b) hP ) cb_X10_entry ml_X10_253 im_X10_entry se_X10_entry h6886 rfl rfl (rest := []) rfl (Nat.le_of_ble_eq_true rfl) ⟨Nat.le_of_ble_eq_true rfl, Nat.le_of_ble_eq_true rfl⟩ ⟨Nat.le_of_ble_eq_true rfl, Nat.le_of_ble_eq_true rfl⟩ (fun r σ6889 hp => ?_)
        obtain ⟨h6890, rfl⟩ := hp
        have h6891 := HS.trans h6886 h6890 (by decide)
        refine m_aload_n F rfl e_X10_down_75 ?_
        refine r_getC F e_X10_down_76 fl_X10_59 h6891 ((fld_eq (h6890.2 c (by rw [show kC c c = 1 from kC_at (k := 0) (by decide)]; decide))).trans ((fld_eq (g6887 _ (by omega))).trans f6880)) ?_
        refine m_sipush F (v := 160) (by decide) e_X10_down_79 ?_
        refine m_iload_n F rfl e_X10_down_82 ?_
        refine m_imul F e_X10_down_83 ?_
        refine Wm.topE (w := nI (160 * n6865)) (pk_mul 160 n6865) ?_
        refine m_bipush F (v := 7) (by decide) e_X10_down_84 ?_
        refine m_iadd F e_X10_down_86 ?_
        refine Wm.topE (w := nI (160 * n6865 + 7)) (nI_add (160 * n6865) 7) ?_
        refine r_sld F (j := 160 * n6865 + 7) e_X10_down_87 h6891 (nI_clamp (by omega)) (vp_in_nI (by omega) (by decide)) (fun x6892 h6893 f6894 => ?_)
        exact m_lret F hQ e_X10_down_88 (⟨u6879, by omega, L, hok, h6891, _, rfl⟩)
      · obtain ⟨n6895, hn6895, rfl⟩ := nI_nn (x := x6875) (fun e => q34 (Int32.le_trans (Int32.le_of_lt e) (by decide)))
        have c34 : n6895 > 0 := by have hh := mt (nI_leI (a := n6895) (b := 0) (by omega) (by omega)).mpr q34; omega
        refine m_ldc2 F kc_X10_299 e_X10_down_37 ?_
        exact m_lret F hQ e_X10_down_40 (⟨u, by omega, L, hok, h6863, _, rfl⟩)
set_option maxRecDepth 20000 in
theorem q_X10_putOff (l : Launch) (V : VX) (c T Z u h : Nat) (P : NP) (L : Nat → LQ) (N : Nat) (σ : Mem) (x901 : Int32) (x902 : Int32) (x903 : Int32) (h0 : HR V c ⟨T, Z, u, h, P, L⟩ σ) (hok : OKL P.n0 L) (hP : OKP P) (hp0 : u ≤ 20) (hp1 : P.kk = P.n0) : Ct l V yX10_putOff cX10_putOff 5 (some .long) 3 0 0 N σ [.ref c, .int x901, .int x902, .int x903] (fun r τ => ∃ u9, u9 ≤ 20 ∧ ∃ L9, OKL P.n0 L9 ∧ HS V c (⟨T, Z, u9, h, P, L9⟩ : RG) [0, 2, 3, 4, 5, 6, 7, 8, 9, 10, 11, 12, 13, 14, 15, 16, 18, 19, 20, 22] σ τ ∧ ∃ x : Int64, r = some (.long x)) := by
  refine Ct.of (by decide) (Nat.le_of_ble_eq_true rfl) [(0, .ref c), (1, .int x901), (2, .int x902), (3, .int x903)] rfl (fun X hX F hQ => ?_)
  have hPP := hP
  unfold OKP at hPP
  have h1 : HS V c ⟨T, Z, u, h, P, L⟩ [0, 2, 3, 4, 5, 6, 7, 8, 9, 10, 11, 12, 13, 14, 15, 16, 18, 19, 20, 22] σ σ := HS.start h0
  refine m_aload_n F rfl e_X10_putOff_0 ?_
  refine m_iconst F (v := 0) (by decide) e_X10_putOff_1 ?_
  refine r_put F (g' := (⟨T, Z, u, h, P, L⟩ : RG)) e_X10_putOff_2 fp_X10_91 h1 (by decide) ⟨_, rfl⟩ (fun _ _ _ _ q => q) (fun _ _ _ q => q) rfl rfl (by decide) (fun σ6896 h6897 g6898 g6899 f6900 => ?_)
  refine m_aload_n F rfl e_X10_putOff_5 ?_
  refine m_iload_n F rfl e_X10_putOff_6 ?_
  refine r_callV F e_X10_putOff_7 (q_X10_isRunning (x_l X) V c T Z u h P L _ _ x901 h6897.1 (hok.b) hP ) cb_X10_isRunning ml_X10_301 im_X10_isRunning se_X10_isRunning h6897 rfl rfl (rest := []) rfl (Nat.le_of_ble_eq_true rfl) ⟨Nat.le_of_ble_eq_true rfl, Nat.le_of_ble_eq_true rfl⟩ ⟨Nat.le_of_ble_eq_true rfl, Nat.le_of_ble_eq_true rfl⟩ (fun r σ6901 hp => ?_)
  obtain ⟨h6902, c6904⟩ := hp
  have h6903 := HS.trans h6897 h6902 (by decide)
  rcases c6904 with rfl | ⟨n6905, h6906, h6907, e6908, rfl⟩
  · refine m_if_eq F e_X10_putOff_10 (fun _ => ?_) (fun q => absurd (by decide) q)
    refine m_ldc2 F kc_X10_299 e_X10_putOff_54 ?_
    exact m_lret F hQ e_X10_putOff_57 (⟨u, by omega, L, hok, h6903, _, rfl⟩)
  · subst e6908
    refine m_if_eq F e_X10_putOff_10 (fun q => absurd q (by decide)) (fun _ => ?_)
    have hl6909 := hok.2 n6905 (by omega)
    have hl6910 := hok.2 n6905 (by omega)
    have hl6911 := hok.2 n6905 (by omega)
    refine m_iload_n F rfl e_X10_putOff_13 ?_
    refine m_i2l F e_X10_putOff_14 ?_
    refine m_aload_n F rfl e_X10_putOff_15 ?_
    refine r_get F e_X10_putOff_16 fl_X10_59 h6903 rfl (fun v hv f6912 => ?_)
    obtain rfl : v = .ref (c + 16) := hv
    refine m_sipush F (v := 160) (by decide) e_X10_putOff_19 ?_
    refine m_iload_n F rfl e_X10_putOff_22 ?_
    refine m_imul F e_X10_putOff_23 ?_
    refine Wm.topE (w := nI (160 * n6905)) (pk_mul 160 n6905) ?_
    refine m_iconst F (v := 5) (by decide) e_X10_putOff_24 ?_
    refine m_iadd F e_X10_putOff_25 ?_
    refine Wm.topE (w := nI (160 * n6905 + 5)) (nI_add (160 * n6905) 5) ?_
    refine r_sld F (j := 160 * n6905 + 5) e_X10_putOff_26 h6903 (nI_clamp (by omega)) (vp_in_nI (by omega) (by decide)) (fun x6913 h6914 f6915 => ?_)
    have hl6916 := hok.2 n6905 (by omega)
    obtain rfl : x6913 = lN (L n6905).2.2.2 := (EJ_l (l := n6905) (r := 5) (by omega) (by decide)).mp h6914
    refine m_lcmp F e_X10_putOff_27 ?_
    refine m_if_le F e_X10_putOff_28 (fun q28 => ?_) (fun q28 => ?_)
    · refine m_ldc2 F kc_X10_299 e_X10_putOff_54 ?_
      exact m_lret F hQ e_X10_putOff_57 (⟨u, by omega, L, hok, h6903, _, rfl⟩)
    · obtain ⟨n6917, gn6917, hn6917, rfl⟩ := i2l_gt (x := x902) (g := (L n6905).2.2.2) (by omega) (fun e => q28 ((lg_cmp_le _ _).mpr e))
      refine m_iload_n F rfl e_X10_putOff_31 ?_
      refine m_iload_n F rfl e_X10_putOff_32 ?_
      refine m_icmp_le F e_X10_putOff_33 (fun q33 => ?_) (fun q33 => ?_)
      · refine m_ldc2 F kc_X10_299 e_X10_putOff_54 ?_
        exact m_lret F hQ e_X10_putOff_57 (⟨u, by omega, L, hok, h6903, _, rfl⟩)
      · obtain ⟨n6918, hn6918, rfl⟩ := nI_nn (x := x903) (fun e => q33 (Int32.le_trans (Int32.le_of_lt e) (nI_0le (by omega))))
        have c33 : n6918 > n6917 := by have hh := mt (nI_leI (a := n6918) (b := n6917) (by omega) (by omega)).mpr q33; omega
        refine m_iload_n F rfl e_X10_putOff_36 ?_
        refine m_i2l F e_X10_putOff_37 ?_
        refine Wm.toplE (w := lN n6918) (nI_l (by omega)) ?_
        refine m_aload_n F rfl e_X10_putOff_38 ?_
        refine r_getC F e_X10_putOff_39 fl_X10_59 h6903 (f6912) ?_
        refine m_sipush F (v := 160) (by decide) e_X10_putOff_42 ?_
        refine m_iload_n F rfl e_X10_putOff_45 ?_
        refine m_imul F e_X10_putOff_46 ?_
        refine Wm.topE (w := nI (160 * n6905)) (pk_mul 160 n6905) ?_
        refine m_iconst F (v := 1) (by decide) e_X10_putOff_47 ?_
        refine m_iadd F e_X10_putOff_48 ?_
        refine Wm.topE (w := nI (160 * n6905 + 1)) (nI_add (160 * n6905) 1) ?_
        refine r_sld F (j := 160 * n6905 + 1) e_X10_putOff_49 h6903 (nI_clamp (by omega)) (vp_in_nI (by omega) (by decide)) (fun x6919 h6920 f6921 => ?_)
        have hl6922 := hok.2 n6905 (by omega)
        obtain rfl : x6919 = lN (L n6905).2.1 := (EJ_l (l := n6905) (r := 1) (by omega) (by decide)).mp h6920
        refine m_lcmp F e_X10_putOff_50 ?_
        refine m_if_le F e_X10_putOff_51 (fun q51 => ?_) (fun q51 => ?_)
        · have c51 : n6918 ≤ ((L n6905).2.1) := (lN_le (a := n6918) (b := ((L n6905).2.1)) (by omega) (by omega)).mp ((lg_cmp_le _ _).mp q51)
          refine m_aload_n F rfl e_X10_putOff_58 ?_
          refine r_callV F e_X10_putOff_59 (q_X10_remembers (x_l X) V c T Z u h P L _ _  h6903.1 (hok) hP (by first | omega | assumption | decide) (by first | omega | assumption | decide)) cb_X10_remembers ml_X10_286 im_X10_remembers se_X10_remembers h6903 rfl rfl (rest := []) rfl (Nat.le_of_ble_eq_true rfl) ⟨Nat.le_of_ble_eq_true rfl, Nat.le_of_ble_eq_true rfl⟩ ⟨Nat.le_of_ble_eq_true rfl, Nat.le_of_ble_eq_true rfl⟩ (fun r σ6923 hp => ?_)
          obtain ⟨u6926, hu6926, h6924, rfl⟩ := hp
          have h6925 := HS.trans h6903 h6924 (by decide)
          refine m_sipush F (v := 160) (by decide) e_X10_putOff_62 ?_
          refine m_iload_n F rfl e_X10_putOff_65 ?_
          refine m_imul F e_X10_putOff_66 ?_
          refine Wm.topE (w := nI (160 * n6905)) (pk_mul 160 n6905) ?_
          refine m_istore F (lv' := [(4, .int (nI (160 * n6905))), (0, .ref c), (1, .int (nI n6905)), (2, .int (nI n6917)), (3, .int (nI n6918))]) e_X10_putOff_67 (by decide) rfl ?_
          refine m_aload_n F rfl e_X10_putOff_69 ?_
          refine r_get F e_X10_putOff_70 fl_X10_59 h6925 rfl (fun v hv f6927 => ?_)
          obtain rfl : v = .ref (c + 16) := hv
          refine m_iload F rfl e_X10_putOff_73 ?_
          refine m_bipush F (v := 13) (by decide) e_X10_putOff_75 ?_
          refine m_iadd F e_X10_putOff_77 ?_
          refine Wm.topE (w := nI (160 * n6905 + 13)) (nI_add (160 * n6905) 13) ?_
          refine m_iload_n F rfl e_X10_putOff_78 ?_
          refine m_iadd F e_X10_putOff_79 ?_
          refine Wm.topE (w := nI ((160 * n6905 + 13) + n6918)) (nI_add (160 * n6905 + 13) n6918) ?_
          refine m_iconst F (v := 1) (by decide) e_X10_putOff_80 ?_
          refine m_isub F e_X10_putOff_81 ?_
          refine Wm.topE (w := nI (((160 * n6905 + 13) + n6918) - 1)) (pk_sub (a := (160 * n6905 + 13) + n6918) (b := 1) (by omega)) ?_
          refine m_dup2_11 F rfl rfl e_X10_putOff_82 ?_
          refine r_sld F (j := ((160 * n6905 + 13) + n6918) - 1) e_X10_putOff_83 h6925 (nI_clamp (by omega)) (vp_in_nI (by omega) (by decide)) (fun x6928 h6929 f6930 => ?_)
          refine m_aload_n F rfl e_X10_putOff_84 ?_
          refine r_getC F e_X10_putOff_85 fl_X10_59 h6925 (f6927) ?_
          refine m_iload F rfl e_X10_putOff_88 ?_
          refine m_bipush F (v := 13) (by decide) e_X10_putOff_90 ?_
          refine m_iadd F e_X10_putOff_92 ?_
          refine Wm.topE (w := nI (160 * n6905 + 13)) (nI_add (160 * n6905) 13) ?_
          refine m_iload_n F rfl e_X10_putOff_93 ?_
          refine m_iadd F e_X10_putOff_94 ?_
          refine Wm.topE (w := nI ((160 * n6905 + 13) + n6917)) (nI_add (160 * n6905 + 13) n6917) ?_
          refine m_iconst F (v := 1) (by decide) e_X10_putOff_95 ?_
          refine m_isub F e_X10_putOff_96 ?_
          refine Wm.topE (w := nI (((160 * n6905 + 13) + n6917) - 1)) (pk_sub (a := (160 * n6905 + 13) + n6917) (b := 1) (by omega)) ?_
          refine r_sld F (j := ((160 * n6905 + 13) + n6917) - 1) e_X10_putOff_97 h6925 (nI_clamp (by omega)) (vp_in_nI (by omega) (by decide)) (fun x6931 h6932 f6933 => ?_)
          refine m_ladd F e_X10_putOff_98 ?_
          refine Wm.topl (fun x6934 _ => ?_)
          refine r_sst F (g' := (⟨T, Z, u6926, h, P, L⟩ : RG)) (j := ((160 * n6905 + 13) + n6918) - 1) e_X10_putOff_99 h6925 (by decide) (nI_clamp (by omega)) (vp_in_nI (by omega) (by decide)) (fun f q => EJ_same (EJ_lw (l := n6905) (r := (((160 * n6905 + 13) + n6918) - 1) - 160 * n6905) (by omega) (by omega) (by omega)) q) (fun _ _ _ q => q) (fun σ6935 h6936 g6937 => ?_)
          refine m_aload_n F rfl e_X10_putOff_100 ?_
          refine r_getC F e_X10_putOff_101 fl_X10_59 h6936 ((fld_eq (g6937 _ (by omega))).trans f6927) ?_
          refine m_iload F rfl e_X10_putOff_104 ?_
          refine m_bipush F (v := 85) (by decide) e_X10_putOff_106 ?_
          refine m_iadd F e_X10_putOff_108 ?_
          refine Wm.topE (w := nI (160 * n6905 + 85)) (nI_add (160 * n6905) 85) ?_
          refine m_iload_n F rfl e_X10_putOff_109 ?_
          refine m_iadd F e_X10_putOff_110 ?_
          refine Wm.topE (w := nI ((160 * n6905 + 85) + n6918)) (nI_add (160 * n6905 + 85) n6918) ?_
          refine m_iconst F (v := 1) (by decide) e_X10_putOff_111 ?_
          refine m_isub F e_X10_putOff_112 ?_
          refine Wm.topE (w := nI (((160 * n6905 + 85) + n6918) - 1)) (pk_sub (a := (160 * n6905 + 85) + n6918) (b := 1) (by omega)) ?_
          refine m_dup2_11 F rfl rfl e_X10_putOff_113 ?_
          refine r_sld F (j := ((160 * n6905 + 85) + n6918) - 1) e_X10_putOff_114 h6936 (nI_clamp (by omega)) (vp_in_nI (by omega) (by decide)) (fun x6938 h6939 f6940 => ?_)
          refine m_aload_n F rfl e_X10_putOff_115 ?_
          refine r_getC F e_X10_putOff_116 fl_X10_59 h6936 ((fld_eq (g6937 _ (by omega))).trans f6927) ?_
          refine m_iload F rfl e_X10_putOff_119 ?_
          refine m_bipush F (v := 85) (by decide) e_X10_putOff_121 ?_
          refine m_iadd F e_X10_putOff_123 ?_
          refine Wm.topE (w := nI (160 * n6905 + 85)) (nI_add (160 * n6905) 85) ?_
          refine m_iload_n F rfl e_X10_putOff_124 ?_
          refine m_iadd F e_X10_putOff_125 ?_
          refine Wm.topE (w := nI ((160 * n6905 + 85) + n6917)) (nI_add (160 * n6905 + 85) n6917) ?_
          refine m_iconst F (v := 1) (by decide) e_X10_putOff_126 ?_
          refine m_isub F e_X10_putOff_127 ?_
          refine Wm.topE (w := nI (((160 * n6905 + 85) + n6917) - 1)) (pk_sub (a := (160 * n6905 + 85) + n6917) (b := 1) (by omega)) ?_
          refine r_sld F (j := ((160 * n6905 + 85) + n6917) - 1) e_X10_putOff_128 h6936 (nI_clamp (by omega)) (vp_in_nI (by omega) (by decide)) (fun x6941 h6942 f6943 => ?_)
          refine m_ladd F e_X10_putOff_129 ?_
          refine Wm.topl (fun x6944 _ => ?_)
          refine r_sst F (g' := (⟨T, Z, u6926, h, P, L⟩ : RG)) (j := ((160 * n6905 + 85) + n6918) - 1) e_X10_putOff_130 h6936 (by decide) (nI_clamp (by omega)) (vp_in_nI (by omega) (by decide)) (fun f q => EJ_same (EJ_lw (l := n6905) (r := (((160 * n6905 + 85) + n6918) - 1) - 160 * n6905) (by omega) (by omega) (by omega)) q) (fun _ _ _ q => q) (fun σ6945 h6946 g6947 => ?_)
          refine m_aload_n F rfl e_X10_putOff_131 ?_
          refine r_getC F e_X10_putOff_132 fl_X10_59 h6946 ((fld_eq (g6947 _ (by omega))).trans ((fld_eq (g6937 _ (by omega))).trans f6927)) ?_
          refine m_iload F rfl e_X10_putOff_135 ?_
          refine m_bipush F (v := 13) (by decide) e_X10_putOff_137 ?_
          refine m_iadd F e_X10_putOff_139 ?_
          refine Wm.topE (w := nI (160 * n6905 + 13)) (nI_add (160 * n6905) 13) ?_
          refine m_iload_n F rfl e_X10_putOff_140 ?_
          refine m_iadd F e_X10_putOff_141 ?_
          refine Wm.topE (w := nI ((160 * n6905 + 13) + n6917)) (nI_add (160 * n6905 + 13) n6917) ?_
          refine m_iconst F (v := 1) (by decide) e_X10_putOff_142 ?_
          refine m_isub F e_X10_putOff_143 ?_
          refine Wm.topE (w := nI (((160 * n6905 + 13) + n6917) - 1)) (pk_sub (a := (160 * n6905 + 13) + n6917) (b := 1) (by omega)) ?_
          refine m_lconst F (v := 0) (by decide) e_X10_putOff_144 ?_
          refine r_sst F (g' := (⟨T, Z, u6926, h, P, L⟩ : RG)) (j := ((160 * n6905 + 13) + n6917) - 1) e_X10_putOff_145 h6946 (by decide) (nI_clamp (by omega)) (vp_in_nI (by omega) (by decide)) (fun f q => EJ_same (EJ_lw (l := n6905) (r := (((160 * n6905 + 13) + n6917) - 1) - 160 * n6905) (by omega) (by omega) (by omega)) q) (fun _ _ _ q => q) (fun σ6948 h6949 g6950 => ?_)
          refine m_aload_n F rfl e_X10_putOff_146 ?_
          refine r_getC F e_X10_putOff_147 fl_X10_59 h6949 ((fld_eq (g6950 _ (by omega))).trans ((fld_eq (g6947 _ (by omega))).trans ((fld_eq (g6937 _ (by omega))).trans f6927))) ?_
          refine m_iload F rfl e_X10_putOff_150 ?_
          refine m_bipush F (v := 85) (by decide) e_X10_putOff_152 ?_
          refine m_iadd F e_X10_putOff_154 ?_
          refine Wm.topE (w := nI (160 * n6905 + 85)) (nI_add (160 * n6905) 85) ?_
          refine m_iload_n F rfl e_X10_putOff_155 ?_
          refine m_iadd F e_X10_putOff_156 ?_
          refine Wm.topE (w := nI ((160 * n6905 + 85) + n6917)) (nI_add (160 * n6905 + 85) n6917) ?_
          refine m_iconst F (v := 1) (by decide) e_X10_putOff_157 ?_
          refine m_isub F e_X10_putOff_158 ?_
          refine Wm.topE (w := nI (((160 * n6905 + 85) + n6917) - 1)) (pk_sub (a := (160 * n6905 + 85) + n6917) (b := 1) (by omega)) ?_
          refine m_lconst F (v := 0) (by decide) e_X10_putOff_159 ?_
          refine r_sst F (g' := (⟨T, Z, u6926, h, P, L⟩ : RG)) (j := ((160 * n6905 + 85) + n6917) - 1) e_X10_putOff_160 h6949 (by decide) (nI_clamp (by omega)) (vp_in_nI (by omega) (by decide)) (fun f q => EJ_same (EJ_lw (l := n6905) (r := (((160 * n6905 + 85) + n6917) - 1) - 160 * n6905) (by omega) (by omega) (by omega)) q) (fun _ _ _ q => q) (fun σ6951 h6952 g6953 => ?_)
          refine m_aload_n F rfl e_X10_putOff_161 ?_
          refine m_iload_n F rfl e_X10_putOff_162 ?_
          refine r_callV F e_X10_putOff_163 (q_X10_remeasures (x_l X) V c T Z u6926 h P L _ _ n6905 h6952.1 (hok.b) hP (by omega)) cb_X10_remeasures ml_X10_277 im_X10_remeasures se_X10_remeasures h6952 rfl rfl (rest := []) rfl (Nat.le_of_ble_eq_true rfl) ⟨Nat.le_of_ble_eq_true rfl, Nat.le_of_ble_eq_true rfl⟩ ⟨Nat.le_of_ble_eq_true rfl, Nat.le_of_ble_eq_true rfl⟩ (fun r σ6954 hp => ?_)
          obtain ⟨h6955, x6957, rfl⟩ := hp
          have h6956 := HS.trans h6952 h6955 (by decide)
          exact m_lret F hQ e_X10_putOff_166 (⟨u6926, by omega, L, hok, h6956, _, rfl⟩)
        · have c51 : n6918 > ((L n6905).2.1) := by have hh := mt (fun h9 => (lg_cmp_le (lN n6918) (lN ((L n6905).2.1))).mpr ((lN_le (a := n6918) (b := ((L n6905).2.1)) (by omega) (by omega)).mpr h9)) q51; omega
          refine m_ldc2 F kc_X10_299 e_X10_putOff_54 ?_
          exact m_lret F hQ e_X10_putOff_57 (⟨u, by omega, L, hok, h6903, _, rfl⟩)
set_option maxRecDepth 20000 in
theorem lq_X10_becomes_58 {V : VX} {X : MX} {N : Nat} {σ : Mem} {c T Z u h : Nat} {P : NP} {L : Nat → LQ}  {n901 : Nat} (F : Fx V X yX10_becomes cX10_becomes 6 none (rmd 0 0 0)) (hQ : Rt V X 0 0 N (fun r τ => HS V c (⟨T, Z, u, h, P, L⟩ : RG) [0, 1, 2, 3, 4, 5, 6, 7, 8, 9, 10, 11, 12, 13, 14, 15, 16, 18, 19, 20, 21, 22, 23] σ τ ∧ r = none)) (hob : OKB L) (hP : OKP P) (hn901 : n901 ≤ 2000) (hp0 : 1 ≤ n901)  : ∀ (fuel : Nat) (t : Nat) (k : Nat) (τ : Mem), HS V c (⟨T, Z, u, h, P, L⟩ : RG) [0, 1, 2, 3, 4, 5, 6, 7, 8, 9, 10, 11, 12, 13, 14, 15, 16, 18, 19, 20, 21, 22, 23] σ τ → t ≤ 100 ∧ k ≤ 100 → 100 - k < fuel → Wm V X 6 N τ 0 0 58 [(0, .ref c), (1, .long (lN n901)), (4, .int (nI t)), (5, .int (nI k))] [] := by
  intro fuel
  induction fuel with
  | zero => intros; rename_i hm; exact absurd hm (Nat.not_lt_zero _)
  | succ fuel ih =>
    intro t k τ h1 hi hm
    have hPP := hP
    unfold OKP at hPP
    refine m_iload F rfl e_X10_becomes_58 ?_
    refine m_iload F rfl e_X10_becomes_60 ?_
    refine m_icmp_ge F e_X10_becomes_62 (fun q62 => ?_) (fun q62 => ?_)
    · have c62 : k ≥ t := (nI_leI (a := t) (b := k) (by omega) (by omega)).mp q62
      exact m_vret F hQ e_X10_becomes_83 (⟨h1, rfl⟩)
    · have c62 : k < t := by have hh := mt (nI_leI (a := t) (b := k) (by omega) (by omega)).mpr q62; omega
      refine m_aload_n F rfl e_X10_becomes_65 ?_
      refine r_get F e_X10_becomes_66 fl_X10_59 h1 rfl (fun v hv f6958 => ?_)
      obtain rfl : v = .ref (c + 16) := hv
      refine m_sipush F (v := 644) (by decide) e_X10_becomes_69 ?_
      refine m_iload F rfl e_X10_becomes_72 ?_
      refine m_iadd F e_X10_becomes_74 ?_
      refine Wm.topE (w := nI (644 + k)) (nI_add 644 k) ?_
      refine m_lload_n F rfl e_X10_becomes_75 ?_
      refine r_sst F (g' := (⟨T, Z, u, h, P, L⟩ : RG)) (j := 644 + k) e_X10_becomes_76 h1 (by decide) (nI_clamp (by omega)) (vp_in_nI (by omega) (by decide)) (fun f q => EJ_same ((EJ_i (p := k) (by omega)).mpr ⟨n901, by omega, by omega, rfl⟩) q) (fun _ _ _ q => q) (fun σ6959 h6960 g6961 => ?_)
      refine m_iinc F (v := nI (k + 1)) (lv' := [(5, .int (nI (k + 1))), (0, .ref c), (1, .long (lN n901)), (4, .int (nI t))]) e_X10_becomes_77 rfl (nI_add k 1) (by decide) rfl ?_
      refine m_goto F e_X10_becomes_80 ?_
      refine Wm.lvsub (lv' := [(0, .ref c), (1, .long (lN n901)), (4, .int (nI t)), (5, .int (nI (k + 1)))]) ?_ [1, 2, 3, 0] rfl
      exact ih t (k + 1) _ h6960 (by omega) (by omega)
set_option maxRecDepth 20000 in
theorem lq_X10_becomes_24 {V : VX} {X : MX} {N : Nat} {σ : Mem} {c T Z u h : Nat} {P : NP} {L : Nat → LQ}  {n901 : Nat} (F : Fx V X yX10_becomes cX10_becomes 6 none (rmd 0 0 0)) (hQ : Rt V X 0 0 N (fun r τ => HS V c (⟨T, Z, u, h, P, L⟩ : RG) [0, 1, 2, 3, 4, 5, 6, 7, 8, 9, 10, 11, 12, 13, 14, 15, 16, 18, 19, 20, 21, 22, 23] σ τ ∧ r = none)) (hob : OKB L) (hP : OKP P) (hn901 : n901 ≤ 2000) (hp0 : 1 ≤ n901)  : ∀ (fuel : Nat) (t : Nat) (k : Nat) (τ : Mem), HS V c (⟨T, Z, u, h, P, L⟩ : RG) [0, 1, 2, 3, 4, 5, 6, 7, 8, 9, 10, 11, 12, 13, 14, 15, 16, 18, 19, 20, 21, 22, 23] σ τ → t ≤ 100 ∧ k ≤ 7 → k < fuel → Wm V X 6 N τ 0 0 24 [(0, .ref c), (1, .long (lN n901)), (3, .int (nI ((L 4).1))), (4, .int (nI t)), (5, .int (nI k))] [] := by
  intro fuel
  induction fuel with
  | zero => intros; rename_i hm; exact absurd hm (Nat.not_lt_zero _)
  | succ fuel ih =>
    intro t k τ h1 hi hm
    have hPP := hP
    unfold OKP at hPP
    refine m_iload F rfl e_X10_becomes_24 ?_
    refine m_if_lt F e_X10_becomes_26 (fun q26 => ?_) (fun q26 => ?_)
    · have c26 : k < 0 := (nI_ltI (a := k) (b := 0) (by omega) (by omega)).mp q26
      have hl6962 := (hob).1
      have hl6963 := (hob).1
      have hl6964 := (hob).1
      refine m_iload_n F rfl e_X10_becomes_55 ?_
      refine m_istore F (lv' := [(5, .int (nI ((L 4).1))), (0, .ref c), (1, .long (lN n901)), (3, .int (nI ((L 4).1))), (4, .int (nI t))]) e_X10_becomes_56 (by decide) rfl ?_
      refine Wm.lvsub (lv' := [(0, .ref c), (1, .long (lN n901)), (4, .int (nI t)), (5, .int (nI ((L 4).1)))]) ?_ [1, 2, 4, 0] rfl
      exact lq_X10_becomes_58 F hQ hob hP hn901 hp0 (100 - ((L 4).1) + 1) t ((L 4).1) _ h1 (by omega) (Nat.lt_succ_self _)
    · have c26 : k ≥ 0 := by have hh := mt (nI_ltI (a := k) (b := 0) (by omega) (by omega)).mpr q26; omega
      have hl6965 := (hob).1
      have hl6966 := (hob).1
      have hl6967 := (hob).1
      refine m_aload_n F rfl e_X10_becomes_29 ?_
      refine r_get F e_X10_becomes_30 fl_X10_40 h1 rfl (fun v hv f6968 => ?_)
      obtain rfl : v = .ref (c + 11) := hv
      refine m_iload F rfl e_X10_becomes_33 ?_
      refine r_iald F (len := 16) (j := k) e_X10_becomes_35 h1 (fun _ h => h) (by decide) (nI_clamp (by omega)) (vp_in_nI (by omega) (by decide)) (fun x6969 h6970 f6971 => ?_)
      obtain ⟨n6972, hn6972, rfl⟩ := h6970
      refine m_iload_n F rfl e_X10_becomes_36 ?_
      refine m_icmp_le F e_X10_becomes_37 (fun q37 => ?_) (fun q37 => ?_)
      · have c37 : n6972 ≤ ((L 4).1) := (nI_leI (a := n6972) (b := ((L 4).1)) (by omega) (by omega)).mp q37
        rcases Nat.eq_zero_or_pos (k) with e49 | e49
        · subst e49
          refine m_iinc F (v := -1) (lv' := [(5, .int (-1)), (0, .ref c), (1, .long (lN n901)), (3, .int (nI ((L 4).1))), (4, .int (nI t))]) e_X10_becomes_49 rfl (by decide) (by decide) rfl ?_
          refine m_goto F e_X10_becomes_52 ?_
          refine Wm.lvsub (lv' := [(0, .ref c), (1, .long (lN n901)), (3, .int (nI ((L 4).1))), (4, .int (nI t)), (5, .int (-1))]) ?_ [1, 2, 3, 4, 0] rfl
          refine m_iload F rfl e_X10_becomes_24 ?_
          refine m_if_lt F e_X10_becomes_26 (fun _ => ?_) (fun q => absurd (by decide) q)
          have hl6973 := (hob).1
          have hl6974 := (hob).1
          have hl6975 := (hob).1
          refine m_iload_n F rfl e_X10_becomes_55 ?_
          refine m_istore F (lv' := [(5, .int (nI ((L 4).1))), (0, .ref c), (1, .long (lN n901)), (3, .int (nI ((L 4).1))), (4, .int (nI t))]) e_X10_becomes_56 (by decide) rfl ?_
          refine Wm.lvsub (lv' := [(0, .ref c), (1, .long (lN n901)), (4, .int (nI t)), (5, .int (nI ((L 4).1)))]) ?_ [1, 2, 4, 0] rfl
          exact lq_X10_becomes_58 F hQ hob hP hn901 hp0 (100 - ((L 4).1) + 1) t ((L 4).1) _ h1 (by omega) (Nat.lt_succ_self _)
        · refine m_iinc F (v := nI (k - 1)) (lv' := [(5, .int (nI (k - 1))), (0, .ref c), (1, .long (lN n901)), (3, .int (nI ((L 4).1))), (4, .int (nI t))]) e_X10_becomes_49 rfl (nI_dec (by omega)) (by decide) rfl ?_
          refine m_goto F e_X10_becomes_52 ?_
          refine Wm.lvsub (lv' := [(0, .ref c), (1, .long (lN n901)), (3, .int (nI ((L 4).1))), (4, .int (nI t)), (5, .int (nI (k - 1)))]) ?_ [1, 2, 3, 4, 0] rfl
          exact ih t (k - 1) _ h1 (by omega) (by omega)
      · have c37 : n6972 > ((L 4).1) := by have hh := mt (nI_leI (a := n6972) (b := ((L 4).1)) (by omega) (by omega)).mpr q37; omega
        refine m_aload_n F rfl e_X10_becomes_40 ?_
        refine r_getC F e_X10_becomes_41 fl_X10_40 h1 (f6968) ?_
        refine m_iload F rfl e_X10_becomes_44 ?_
        refine r_iald F (len := 16) (j := k) e_X10_becomes_46 h1 (fun _ h => h) (by decide) (nI_clamp (by omega)) (vp_in_nI (by omega) (by decide)) (fun x6976 h6977 f6978 => ?_)
        obtain rfl := Option.some.inj ((f6978).symm.trans (f6971))
        refine m_istore F (lv' := [(4, .int (nI n6972)), (0, .ref c), (1, .long (lN n901)), (3, .int (nI ((L 4).1))), (5, .int (nI k))]) e_X10_becomes_47 (by decide) rfl ?_
        rcases Nat.eq_zero_or_pos (k) with e49 | e49
        · subst e49
          refine m_iinc F (v := -1) (lv' := [(5, .int (-1)), (4, .int (nI n6972)), (0, .ref c), (1, .long (lN n901)), (3, .int (nI ((L 4).1)))]) e_X10_becomes_49 rfl (by decide) (by decide) rfl ?_
          refine m_goto F e_X10_becomes_52 ?_
          refine Wm.lvsub (lv' := [(0, .ref c), (1, .long (lN n901)), (3, .int (nI ((L 4).1))), (4, .int (nI n6972)), (5, .int (-1))]) ?_ [2, 3, 4, 1, 0] rfl
          refine m_iload F rfl e_X10_becomes_24 ?_
          refine m_if_lt F e_X10_becomes_26 (fun _ => ?_) (fun q => absurd (by decide) q)
          have hl6979 := (hob).1
          have hl6980 := (hob).1
          have hl6981 := (hob).1
          refine m_iload_n F rfl e_X10_becomes_55 ?_
          refine m_istore F (lv' := [(5, .int (nI ((L 4).1))), (0, .ref c), (1, .long (lN n901)), (3, .int (nI ((L 4).1))), (4, .int (nI n6972))]) e_X10_becomes_56 (by decide) rfl ?_
          refine Wm.lvsub (lv' := [(0, .ref c), (1, .long (lN n901)), (4, .int (nI n6972)), (5, .int (nI ((L 4).1)))]) ?_ [1, 2, 4, 0] rfl
          exact lq_X10_becomes_58 F hQ hob hP hn901 hp0 (100 - ((L 4).1) + 1) n6972 ((L 4).1) _ h1 (by omega) (Nat.lt_succ_self _)
        · refine m_iinc F (v := nI (k - 1)) (lv' := [(5, .int (nI (k - 1))), (4, .int (nI n6972)), (0, .ref c), (1, .long (lN n901)), (3, .int (nI ((L 4).1)))]) e_X10_becomes_49 rfl (nI_dec (by omega)) (by decide) rfl ?_
          refine m_goto F e_X10_becomes_52 ?_
          refine Wm.lvsub (lv' := [(0, .ref c), (1, .long (lN n901)), (3, .int (nI ((L 4).1))), (4, .int (nI n6972)), (5, .int (nI (k - 1)))]) ?_ [2, 3, 4, 1, 0] rfl
          exact ih n6972 (k - 1) _ h1 (by omega) (by omega)
set_option maxRecDepth 20000 in
theorem q_X10_becomes (l : Launch) (V : VX) (c T Z u h : Nat) (P : NP) (L : Nat → LQ) (N : Nat) (σ : Mem) (n901 : Nat) (h0 : HR V c ⟨T, Z, u, h, P, L⟩ σ) (hob : OKB L) (hP : OKP P) (hn901 : n901 ≤ 2000) (hp0 : 1 ≤ n901) : Ct l V yX10_becomes cX10_becomes 6 none 0 0 0 N σ [.ref c, .long (lN n901)] (fun r τ => HS V c (⟨T, Z, u, h, P, L⟩ : RG) [0, 1, 2, 3, 4, 5, 6, 7, 8, 9, 10, 11, 12, 13, 14, 15, 16, 18, 19, 20, 21, 22, 23] σ τ ∧ r = none) := by
  refine Ct.of (by decide) (Nat.le_of_ble_eq_true rfl) [(0, .ref c), (1, .long (lN n901))] rfl (fun X hX F hQ => ?_)
  have hPP := hP
  unfold OKP at hPP
  have h1 : HS V c ⟨T, Z, u, h, P, L⟩ [0, 1, 2, 3, 4, 5, 6, 7, 8, 9, 10, 11, 12, 13, 14, 15, 16, 18, 19, 20, 21, 22, 23] σ σ := HS.start h0
  refine m_aload_n F rfl e_X10_becomes_0 ?_
  refine r_get F e_X10_becomes_1 fl_X10_59 h1 rfl (fun v hv f6982 => ?_)
  obtain rfl : v = .ref (c + 16) := hv
  refine m_sipush F (v := 744) (by decide) e_X10_becomes_4 ?_
  refine r_sld F (j := 744) e_X10_becomes_7 h1 (by decide) (by unfold vp_in; decide) (fun x6983 h6984 f6985 => ?_)
  have hl6986 := hob.1
  obtain rfl : x6983 = lN (L 4).1 := EJ_p.mp h6984
  refine m_l2i F e_X10_becomes_8 ?_
  refine Wm.topE (w := nI ((L 4).1)) (lN_i ((L 4).1)) ?_
  refine m_istore_n F (lv' := [(3, .int (nI ((L 4).1))), (0, .ref c), (1, .long (lN n901))]) e_X10_becomes_9 (by decide) rfl ?_
  refine m_bipush F (v := 100) (by decide) e_X10_becomes_10 ?_
  refine m_istore F (lv' := [(4, .int 100), (3, .int (nI ((L 4).1))), (0, .ref c), (1, .long (lN n901))]) e_X10_becomes_12 (by decide) rfl ?_
  refine m_aload_n F rfl e_X10_becomes_14 ?_
  refine r_get F e_X10_becomes_15 fl_X10_13 h1 rfl (fun v hv f6987 => ?_)
  obtain rfl : v = .ref (c + 2) := hv
  refine m_iconst F (v := 2) (by decide) e_X10_becomes_18 ?_
  refine r_iald F (len := 10) (j := 2) e_X10_becomes_19 h1 (fun _ h => h) (by decide) (by decide) (by unfold vp_in; decide) (fun x6988 h6989 f6990 => ?_)
  obtain rfl : x6988 = nI P.n2 := h6989.2.1 rfl
  refine m_iconst F (v := 1) (by decide) e_X10_becomes_20 ?_
  refine m_isub F e_X10_becomes_21 ?_
  rcases Nat.eq_zero_or_pos (P.n2) with e21 | e21
  · rw [e21]
    refine Wm.topE (w := -1) (by decide) ?_
    refine m_istore F (lv' := [(5, .int (-1)), (4, .int 100), (3, .int (nI ((L 4).1))), (0, .ref c), (1, .long (lN n901))]) e_X10_becomes_22 (by decide) rfl ?_
    refine Wm.lvsub (lv' := [(0, .ref c), (1, .long (lN n901)), (3, .int (nI ((L 4).1))), (4, .int 100), (5, .int (-1))]) ?_ [3, 4, 2, 1, 0] rfl
    refine m_iload F rfl e_X10_becomes_24 ?_
    refine m_if_lt F e_X10_becomes_26 (fun _ => ?_) (fun q => absurd (by decide) q)
    have hl6991 := (hob).1
    have hl6992 := (hob).1
    have hl6993 := (hob).1
    refine m_iload_n F rfl e_X10_becomes_55 ?_
    refine m_istore F (lv' := [(5, .int (nI ((L 4).1))), (0, .ref c), (1, .long (lN n901)), (3, .int (nI ((L 4).1))), (4, .int 100)]) e_X10_becomes_56 (by decide) rfl ?_
    refine Wm.lvsub (lv' := [(0, .ref c), (1, .long (lN n901)), (4, .int 100), (5, .int (nI ((L 4).1)))]) ?_ [1, 2, 4, 0] rfl
    exact lq_X10_becomes_58 F hQ hob hP hn901 hp0 (100 - ((L 4).1) + 1) 100 ((L 4).1) _ h1 (by omega) (Nat.lt_succ_self _)
  · refine Wm.topE (w := nI (P.n2 - 1)) (pk_sub (a := P.n2) (b := 1) (by omega)) ?_
    refine m_istore F (lv' := [(5, .int (nI (P.n2 - 1))), (4, .int 100), (3, .int (nI ((L 4).1))), (0, .ref c), (1, .long (lN n901))]) e_X10_becomes_22 (by decide) rfl ?_
    refine Wm.lvsub (lv' := [(0, .ref c), (1, .long (lN n901)), (3, .int (nI ((L 4).1))), (4, .int 100), (5, .int (nI (P.n2 - 1)))]) ?_ [3, 4, 2, 1, 0] rfl
    exact lq_X10_becomes_24 F hQ hob hP hn901 hp0 ((P.n2 - 1) + 1) 100 (P.n2 - 1) _ h1 (by omega) (Nat.lt_succ_self _)
set_option maxRecDepth 20000 in
theorem q_X10_become (l : Launch) (V : VX) (c T Z u h : Nat) (P : NP) (L : Nat → LQ) (N : Nat) (σ : Mem) (x901 : Int32) (h0 : HR V c ⟨T, Z, u, h, P, L⟩ σ) (hok : OKL P.n0 L) (hP : OKP P) (hp0 : u ≤ 20) (hp1 : P.kk = P.n0) : Ct l V yX10_become cX10_become 3 (some .int) 2 0 0 N σ [.ref c, .int x901] (fun r τ => ∃ u9, u9 ≤ 20 ∧ ∃ L9, OKL P.n0 L9 ∧ HS V c (⟨T, Z, u9, h, P, L9⟩ : RG) [0, 2, 3, 4, 5, 6, 7, 8, 9, 10, 11, 12, 13, 14, 15, 16, 18, 19, 20, 22, 23] σ τ ∧ ∃ x : Int32, r = some (.int x)) := by
  refine Ct.of (by decide) (Nat.le_of_ble_eq_true rfl) [(0, .ref c), (1, .int x901)] rfl (fun X hX F hQ => ?_)
  have hPP := hP
  unfold OKP at hPP
  have h1 : HS V c ⟨T, Z, u, h, P, L⟩ [0, 2, 3, 4, 5, 6, 7, 8, 9, 10, 11, 12, 13, 14, 15, 16, 18, 19, 20, 22, 23] σ σ := HS.start h0
  refine m_aload_n F rfl e_X10_become_0 ?_
  refine m_iconst F (v := 0) (by decide) e_X10_become_1 ?_
  refine r_put F (g' := (⟨T, Z, u, h, P, L⟩ : RG)) e_X10_become_2 fp_X10_91 h1 (by decide) ⟨_, rfl⟩ (fun _ _ _ _ q => q) (fun _ _ _ q => q) rfl rfl (by decide) (fun σ6994 h6995 g6996 g6997 f6998 => ?_)
  refine m_iload_n F rfl e_X10_become_5 ?_
  refine m_sipush F (v := 500) (by decide) e_X10_become_6 ?_
  refine m_icmp_lt F e_X10_become_9 (fun q9 => ?_) (fun q9 => ?_)
  · refine m_iconst F (v := (-1)) (by decide) e_X10_become_19 ?_
    exact m_iret F hQ e_X10_become_20 (⟨u, by omega, L, hok, h6995, _, rfl⟩)
  · obtain ⟨n6999, hn6999, rfl⟩ := nI_nn (x := x901) (fun e => q9 (Int32.lt_of_lt_of_le e (by decide)))
    have c9 : n6999 ≥ 500 := by have hh := mt (nI_ltI (a := n6999) (b := 500) (by omega) (by omega)).mpr q9; omega
    refine m_iload_n F rfl e_X10_become_12 ?_
    refine m_sipush F (v := 2000) (by decide) e_X10_become_13 ?_
    refine m_icmp_le F e_X10_become_16 (fun q16 => ?_) (fun q16 => ?_)
    · have c16 : n6999 ≤ 2000 := (nI_leI (a := n6999) (b := 2000) (by omega) (by omega)).mp q16
      refine m_aload_n F rfl e_X10_become_21 ?_
      refine r_callV F e_X10_become_22 (q_X10_indexNow (x_l X) V c T Z u h P L _ _  h6995.1 (hok.b) hP ) cb_X10_indexNow ml_X10_260 im_X10_indexNow se_X10_indexNow h6995 rfl rfl (rest := []) rfl (Nat.le_of_ble_eq_true rfl) ⟨Nat.le_of_ble_eq_true rfl, Nat.le_of_ble_eq_true rfl⟩ ⟨Nat.le_of_ble_eq_true rfl, Nat.le_of_ble_eq_true rfl⟩ (fun r σ7000 hp => ?_)
      obtain ⟨h7001, n7003, hn7003, gn7003, rfl⟩ := hp
      have h7002 := HS.trans h6995 h7001 (by decide)
      refine m_l2i F e_X10_become_25 ?_
      refine Wm.topE (w := nI n7003) (lN_i n7003) ?_
      refine m_istore_n F (lv' := [(2, .int (nI n7003)), (0, .ref c), (1, .int (nI n6999))]) e_X10_become_26 (by decide) rfl ?_
      refine m_aload_n F rfl e_X10_become_27 ?_
      refine r_callV F e_X10_become_28 (q_X10_remembers (x_l X) V c T Z u h P L _ _  h7002.1 (hok) hP (by first | omega | assumption | decide) (by first | omega | assumption | decide)) cb_X10_remembers ml_X10_286 im_X10_remembers se_X10_remembers h7002 rfl rfl (rest := []) rfl (Nat.le_of_ble_eq_true rfl) ⟨Nat.le_of_ble_eq_true rfl, Nat.le_of_ble_eq_true rfl⟩ ⟨Nat.le_of_ble_eq_true rfl, Nat.le_of_ble_eq_true rfl⟩ (fun r σ7004 hp => ?_)
      obtain ⟨u7007, hu7007, h7005, rfl⟩ := hp
      have h7006 := HS.trans h7002 h7005 (by decide)
      refine m_aload_n F rfl e_X10_become_31 ?_
      refine m_iload_n F rfl e_X10_become_32 ?_
      refine m_i2l F e_X10_become_33 ?_
      refine Wm.toplE (w := lN n6999) (nI_l (by omega)) ?_
      refine r_callV F e_X10_become_34 (q_X10_becomes (x_l X) V c T Z u7007 h P L _ _ n6999 h7006.1 (hok.b) hP (by omega) (by first | omega | assumption | decide)) cb_X10_becomes ml_X10_322 im_X10_becomes se_X10_becomes h7006 rfl rfl (rest := []) rfl (Nat.le_of_ble_eq_true rfl) ⟨Nat.le_of_ble_eq_true rfl, Nat.le_of_ble_eq_true rfl⟩ ⟨Nat.le_of_ble_eq_true rfl, Nat.le_of_ble_eq_true rfl⟩ (fun r σ7008 hp => ?_)
      obtain ⟨h7009, rfl⟩ := hp
      have h7010 := HS.trans h7006 h7009 (by decide)
      refine m_iload_n F rfl e_X10_become_37 ?_
      exact m_iret F hQ e_X10_become_38 (⟨u7007, by omega, L, hok, h7010, _, rfl⟩)
    · have c16 : n6999 > 2000 := by have hh := mt (nI_leI (a := n6999) (b := 2000) (by omega) (by omega)).mpr q16; omega
      refine m_iconst F (v := (-1)) (by decide) e_X10_become_19 ?_
      exact m_iret F hQ e_X10_become_20 (⟨u, by omega, L, hok, h6995, _, rfl⟩)
set_option maxRecDepth 20000 in
theorem lq_X10_divisor_6 {V : VX} {X : MX} {N : Nat} {σ : Mem}  {x901 : Int64} {x902 : Int64} (F : Fx V X yX10_divisor cX10_divisor 10 (some .long) (rmd 0 0 0)) (hQ : Rt V X 0 0 N (fun r τ => τ = σ ∧ ∃ x : Int64, x ≠ 0 ∧ r = some (.long x)))  (hp0 : x902 ≠ 0)  : ∀ (fuel : Nat) (w1 : Int64) (w2 : Int64) , (w1 ≠ 0 ∨ w2 ≠ 0) → w2.toInt.natAbs < fuel → Wm V X 10 N σ 0 0 6 [(4, .long w1), (6, .long w2), (0, .long x901), (2, .long x902)] [] := by
  intro fuel
  induction fuel with
  | zero => intros; rename_i hm; exact absurd hm (Nat.not_lt_zero _)
  | succ fuel ih =>
    intro w1 w2 hi hm
    refine m_lload F rfl e_X10_divisor_6 ?_
    refine m_lconst F (v := 0) (by decide) e_X10_divisor_8 ?_
    refine m_lcmp F e_X10_divisor_9 ?_
    refine m_if_eq F e_X10_divisor_10 (fun q10 => ?_) (fun q10 => ?_)
    · have e0 : w2 = 0 := (lg_cmp_eq _ _).mp q10
      refine m_lload F rfl e_X10_divisor_31 ?_
      exact m_lret F hQ e_X10_divisor_33 (⟨rfl, w1, (hi.elim id (fun h => absurd e0 h)), rfl⟩)
    · have e1 : w2 ≠ 0 := fun e => q10 ((lg_cmp_eq _ _).mpr e)
      refine m_lload F rfl e_X10_divisor_13 ?_
      refine m_lload F rfl e_X10_divisor_15 ?_
      refine m_lrem F e1 e_X10_divisor_17 ?_
      refine m_lstore F (lv' := [(8, .long (w1 - w1 / w2 * w2)), (4, .long w1), (6, .long w2), (0, .long x901), (2, .long x902)]) e_X10_divisor_18 (by decide) rfl ?_
      refine m_lload F rfl e_X10_divisor_20 ?_
      refine m_lstore F (lv' := [(4, .long w2), (8, .long (w1 - w1 / w2 * w2)), (6, .long w2), (0, .long x901), (2, .long x902)]) e_X10_divisor_22 (by decide) rfl ?_
      refine m_lload F rfl e_X10_divisor_24 ?_
      refine m_lstore F (lv' := [(6, .long (w1 - w1 / w2 * w2)), (4, .long w2), (8, .long (w1 - w1 / w2 * w2)), (0, .long x901), (2, .long x902)]) e_X10_divisor_26 (by decide) rfl ?_
      refine m_goto F e_X10_divisor_28 ?_
      refine Wm.lvsub (lv' := [(4, .long w2), (6, .long (w1 - w1 / w2 * w2)), (0, .long x901), (2, .long x902)]) ?_ [1, 0, 3, 4] rfl
      exact ih w2 (w1 - w1 / w2 * w2) (Or.inl e1) (Nat.lt_of_lt_of_le (dv_lt e1) (Nat.le_of_lt_succ hm))
set_option maxRecDepth 20000 in
theorem q_X10_divisor (l : Launch) (V : VX) (N : Nat) (σ : Mem) (x901 : Int64) (x902 : Int64) (hp0 : x902 ≠ 0) : Ct l V yX10_divisor cX10_divisor 10 (some .long) 0 0 0 N σ [.long x901, .long x902] (fun r τ => τ = σ ∧ ∃ x : Int64, x ≠ 0 ∧ r = some (.long x)) := by
  refine Ct.of (by decide) (Nat.le_of_ble_eq_true rfl) [(0, .long x901), (2, .long x902)] rfl (fun X hX F hQ => ?_)
  refine m_lload_n F rfl e_X10_divisor_0 ?_
  refine m_lstore F (lv' := [(4, .long x901), (0, .long x901), (2, .long x902)]) e_X10_divisor_1 (by decide) rfl ?_
  refine m_lload_n F rfl e_X10_divisor_3 ?_
  refine m_lstore F (lv' := [(6, .long x902), (4, .long x901), (0, .long x901), (2, .long x902)]) e_X10_divisor_4 (by decide) rfl ?_
  refine Wm.lvsub (lv' := [(4, .long x901), (6, .long x902), (0, .long x901), (2, .long x902)]) ?_ [1, 0, 2, 3] rfl
  exact lq_X10_divisor_6 F hQ  hp0 (x902.toInt.natAbs + 1) x901 x902 (Or.inr hp0) (Nat.lt_succ_self _)
set_option maxRecDepth 20000 in
theorem lq_X10_life_94 {V : VX} {X : MX} {N : Nat} {σ : Mem} {c T Z u h : Nat} {P : NP} {L : Nat → LQ}   (F : Fx V X yX10_life cX10_life 11 (some .long) (rmd 2 0 0)) (hQ : Rt V X 0 0 N (fun r τ => HS V c (⟨T, Z, u, h, P, L⟩ : RG) [0, 2, 3, 4, 5, 6, 7, 8, 9, 10, 11, 12, 13, 14, 15, 16, 17, 18, 19, 20, 21, 22, 23] σ τ ∧ ∃ x : Int64, r = some (.long x))) (hob : OKB L) (hP : OKP P)   : ∀ (fuel : Nat) (a : Nat) (b1 : Int32) (w1 : Int64) (w2 : Int64) (w3 : Int64) (i : Nat) (τ : Mem), HS V c (⟨T, Z, u, h, P, L⟩ : RG) [0, 2, 3, 4, 5, 6, 7, 8, 9, 10, 11, 12, 13, 14, 15, 16, 17, 18, 19, 20, 21, 22, 23] σ τ → a ≤ 3 ∧ i ≤ 72 → 72 - i < fuel → Wm V X 11 N τ 0 0 94 [(0, .ref c), (1, .int (nI a)), (2, .int b1), (3, .int (nI (160 * a))), (4, .long w1), (6, .long w2), (8, .long w3), (10, .int (nI i))] [] := by
  intro fuel
  induction fuel with
  | zero => intros; rename_i hm; exact absurd hm (Nat.not_lt_zero _)
  | succ fuel ih =>
    intro a b1 w1 w2 w3 i τ h1 hi hm
    have hPP := hP
    unfold OKP at hPP
    refine m_iload F rfl e_X10_life_94 ?_
    refine m_i2l F e_X10_life_96 ?_
    refine Wm.toplE (w := lN i) (nI_l (by omega)) ?_
    refine m_aload_n F rfl e_X10_life_97 ?_
    refine r_get F e_X10_life_98 fl_X10_59 h1 rfl (fun v hv f7011 => ?_)
    obtain rfl : v = .ref (c + 16) := hv
    refine m_iload_n F rfl e_X10_life_101 ?_
    refine m_iconst F (v := 1) (by decide) e_X10_life_102 ?_
    refine m_iadd F e_X10_life_103 ?_
    refine Wm.topE (w := nI (160 * a + 1)) (nI_add (160 * a) 1) ?_
    refine r_sld F (j := 160 * a + 1) e_X10_life_104 h1 (nI_clamp (by omega)) (vp_in_nI (by omega) (by decide)) (fun x7012 h7013 f7014 => ?_)
    have hl7015 := hob.2 a (by omega)
    obtain rfl : x7012 = lN (L a).2.1 := (EJ_l (l := a) (r := 1) (by omega) (by decide)).mp h7013
    refine m_lcmp F e_X10_life_105 ?_
    refine m_if_ge F e_X10_life_106 (fun q106 => ?_) (fun q106 => ?_)
    · have c106 : i ≥ ((L a).2.1) := (lN_le (a := ((L a).2.1)) (b := i) (by omega) (by omega)).mp ((lg_cmp_ge _ _).mp q106)
      refine m_lload F rfl e_X10_life_165 ?_
      refine m_lconst F (v := 0) (by decide) e_X10_life_167 ?_
      refine m_lcmp F e_X10_life_168 ?_
      refine m_if_ne F e_X10_life_169 (fun q169 => ?_) (fun q169 => ?_)
      · have e1 : w3 ≠ 0 := fun e => q169 ((lg_cmp_eq _ _).mpr e)
        refine m_iload_n F rfl e_X10_life_176 ?_
        refine m_if_eq F e_X10_life_177 (fun q177 => ?_) (fun q177 => ?_)
        · subst q177
          refine m_lload F rfl e_X10_life_185 ?_
          refine m_lload F rfl e_X10_life_187 ?_
          refine m_lload F rfl e_X10_life_189 ?_
          refine m_callS F e_X10_life_191 (q_X10_divisor (x_l X) V _ _ w2 w3 (by first | omega | assumption | decide)) cb_X10_divisor ml_X10_340 sm_X10_divisor rfl (rest := [.long w2]) rfl (Nat.le_of_ble_eq_true rfl) ⟨Nat.le_of_ble_eq_true rfl, Nat.le_of_ble_eq_true rfl⟩ ⟨Nat.le_of_ble_eq_true rfl, Nat.le_of_ble_eq_true rfl⟩ (k' := 0) (z' := 0) (N' := N) rfl rfl rfl (fun r σ7016 hp => ?_)
          obtain ⟨rfl, x7019, hx7019, rfl⟩ := hp
          refine m_ldiv F (by assumption) e_X10_life_194 ?_
          refine Wm.topl (fun x7020 _ => ?_)
          exact m_lret F hQ e_X10_life_195 (⟨h1, _, rfl⟩)
        · refine m_lload F rfl e_X10_life_180 ?_
          refine m_goto F e_X10_life_182 ?_
          refine m_lload F rfl e_X10_life_187 ?_
          refine m_lload F rfl e_X10_life_189 ?_
          refine m_callS F e_X10_life_191 (q_X10_divisor (x_l X) V _ _ w2 w3 (by first | omega | assumption | decide)) cb_X10_divisor ml_X10_340 sm_X10_divisor rfl (rest := [.long w3]) rfl (Nat.le_of_ble_eq_true rfl) ⟨Nat.le_of_ble_eq_true rfl, Nat.le_of_ble_eq_true rfl⟩ ⟨Nat.le_of_ble_eq_true rfl, Nat.le_of_ble_eq_true rfl⟩ (k' := 0) (z' := 0) (N' := N) rfl rfl rfl (fun r σ7021 hp => ?_)
          obtain ⟨rfl, x7024, hx7024, rfl⟩ := hp
          refine m_ldiv F (by assumption) e_X10_life_194 ?_
          refine Wm.topl (fun x7025 _ => ?_)
          exact m_lret F hQ e_X10_life_195 (⟨h1, _, rfl⟩)
      · refine m_ldc2 F kc_X10_338 e_X10_life_172 ?_
        exact m_lret F hQ e_X10_life_175 (⟨h1, _, rfl⟩)
    · have c106 : i < ((L a).2.1) := by have hh := mt (fun h9 => (lg_cmp_ge (lN i) (lN ((L a).2.1))).mpr ((lN_le (a := ((L a).2.1)) (b := i) (by omega) (by omega)).mpr h9)) q106; omega
      refine m_lload F rfl e_X10_life_109 ?_
      refine m_aload_n F rfl e_X10_life_111 ?_
      refine r_getC F e_X10_life_112 fl_X10_59 h1 (f7011) ?_
      refine m_iload_n F rfl e_X10_life_115 ?_
      refine m_bipush F (v := 13) (by decide) e_X10_life_116 ?_
      refine m_iadd F e_X10_life_118 ?_
      refine Wm.topE (w := nI (160 * a + 13)) (nI_add (160 * a) 13) ?_
      refine m_iload F rfl e_X10_life_119 ?_
      refine m_iadd F e_X10_life_121 ?_
      refine Wm.topE (w := nI ((160 * a + 13) + i)) (nI_add (160 * a + 13) i) ?_
      refine r_sld F (j := (160 * a + 13) + i) e_X10_life_122 h1 (nI_clamp (by omega)) (vp_in_nI (by omega) (by decide)) (fun x7026 h7027 f7028 => ?_)
      refine m_lload F rfl e_X10_life_123 ?_
      refine m_iload F rfl e_X10_life_125 ?_
      refine m_i2l F e_X10_life_127 ?_
      refine Wm.toplE (w := lN i) (nI_l (by omega)) ?_
      refine m_ladd F e_X10_life_128 ?_
      refine Wm.topl (fun x7029 _ => ?_)
      refine m_aload_n F rfl e_X10_life_129 ?_
      refine r_getC F e_X10_life_130 fl_X10_59 h1 (f7011) ?_
      refine m_iload_n F rfl e_X10_life_133 ?_
      refine m_iconst F (v := 5) (by decide) e_X10_life_134 ?_
      refine m_iadd F e_X10_life_135 ?_
      refine Wm.topE (w := nI (160 * a + 5)) (nI_add (160 * a) 5) ?_
      refine r_sld F (j := 160 * a + 5) e_X10_life_136 h1 (nI_clamp (by omega)) (vp_in_nI (by omega) (by decide)) (fun x7030 h7031 f7032 => ?_)
      have hl7033 := hob.2 a (by omega)
      obtain rfl : x7030 = lN (L a).2.2.2 := (EJ_l (l := a) (r := 5) (by omega) (by decide)).mp h7031
      refine m_lsub F e_X10_life_137 ?_
      refine Wm.topl (fun x7034 _ => ?_)
      refine m_lmul F e_X10_life_138 ?_
      refine Wm.topl (fun x7035 _ => ?_)
      refine m_ladd F e_X10_life_139 ?_
      refine Wm.topl (fun x7036 _ => ?_)
      refine m_lstore F (lv' := [(6, .long x7036), (0, .ref c), (1, .int (nI a)), (2, .int b1), (3, .int (nI (160 * a))), (4, .long w1), (8, .long w3), (10, .int (nI i))]) e_X10_life_140 (by decide) rfl ?_
      refine m_lload F rfl e_X10_life_142 ?_
      refine m_aload_n F rfl e_X10_life_144 ?_
      refine r_getC F e_X10_life_145 fl_X10_59 h1 (f7011) ?_
      refine m_iload_n F rfl e_X10_life_148 ?_
      refine m_bipush F (v := 13) (by decide) e_X10_life_149 ?_
      refine m_iadd F e_X10_life_151 ?_
      refine Wm.topE (w := nI (160 * a + 13)) (nI_add (160 * a) 13) ?_
      refine m_iload F rfl e_X10_life_152 ?_
      refine m_iadd F e_X10_life_154 ?_
      refine Wm.topE (w := nI ((160 * a + 13) + i)) (nI_add (160 * a + 13) i) ?_
      refine r_sld F (j := (160 * a + 13) + i) e_X10_life_155 h1 (nI_clamp (by omega)) (vp_in_nI (by omega) (by decide)) (fun x7037 h7038 f7039 => ?_)
      refine m_ladd F e_X10_life_156 ?_
      refine Wm.topl (fun x7040 _ => ?_)
      refine m_lstore F (lv' := [(8, .long x7040), (6, .long x7036), (0, .ref c), (1, .int (nI a)), (2, .int b1), (3, .int (nI (160 * a))), (4, .long w1), (10, .int (nI i))]) e_X10_life_157 (by decide) rfl ?_
      refine m_iinc F (v := nI (i + 1)) (lv' := [(10, .int (nI (i + 1))), (8, .long x7040), (6, .long x7036), (0, .ref c), (1, .int (nI a)), (2, .int b1), (3, .int (nI (160 * a))), (4, .long w1)]) e_X10_life_159 rfl (nI_add i 1) (by decide) rfl ?_
      refine m_goto F e_X10_life_162 ?_
      refine Wm.lvsub (lv' := [(0, .ref c), (1, .int (nI a)), (2, .int b1), (3, .int (nI (160 * a))), (4, .long w1), (6, .long x7036), (8, .long x7040), (10, .int (nI (i + 1)))]) ?_ [3, 4, 5, 6, 7, 2, 1, 0] rfl
      exact ih a b1 w1 x7036 x7040 (i + 1) _ h1 (by omega) (by omega)
set_option maxRecDepth 20000 in
theorem q_X10_life (l : Launch) (V : VX) (c T Z u h : Nat) (P : NP) (L : Nat → LQ) (N : Nat) (σ : Mem) (x901 : Int32) (x902 : Int32) (h0 : HR V c ⟨T, Z, u, h, P, L⟩ σ) (hob : OKB L) (hP : OKP P)  : Ct l V yX10_life cX10_life 11 (some .long) 2 0 0 N σ [.ref c, .int x901, .int x902] (fun r τ => HS V c (⟨T, Z, u, h, P, L⟩ : RG) [0, 2, 3, 4, 5, 6, 7, 8, 9, 10, 11, 12, 13, 14, 15, 16, 17, 18, 19, 20, 21, 22, 23] σ τ ∧ ∃ x : Int64, r = some (.long x)) := by
  refine Ct.of (by decide) (Nat.le_of_ble_eq_true rfl) [(0, .ref c), (1, .int x901), (2, .int x902)] rfl (fun X hX F hQ => ?_)
  have hPP := hP
  unfold OKP at hPP
  have h1 : HS V c ⟨T, Z, u, h, P, L⟩ [0, 2, 3, 4, 5, 6, 7, 8, 9, 10, 11, 12, 13, 14, 15, 16, 17, 18, 19, 20, 21, 22, 23] σ σ := HS.start h0
  refine m_aload_n F rfl e_X10_life_0 ?_
  refine m_iconst F (v := 0) (by decide) e_X10_life_1 ?_
  refine r_put F (g' := (⟨T, Z, u, h, P, L⟩ : RG)) e_X10_life_2 fp_X10_91 h1 (by decide) ⟨_, rfl⟩ (fun _ _ _ _ q => q) (fun _ _ _ q => q) rfl rfl (by decide) (fun σ7041 h7042 g7043 g7044 f7045 => ?_)
  refine m_aload_n F rfl e_X10_life_5 ?_
  refine m_iload_n F rfl e_X10_life_6 ?_
  refine r_callV F e_X10_life_7 (q_X10_isLease (x_l X) V c T Z u h P L _ _ x901 h7042.1 (hob) hP ) cb_X10_isLease ml_X10_292 im_X10_isLease se_X10_isLease h7042 rfl rfl (rest := []) rfl (Nat.le_of_ble_eq_true rfl) ⟨Nat.le_of_ble_eq_true rfl, Nat.le_of_ble_eq_true rfl⟩ ⟨Nat.le_of_ble_eq_true rfl, Nat.le_of_ble_eq_true rfl⟩ (fun r σ7046 hp => ?_)
  obtain ⟨h7047, c7049⟩ := hp
  have h7048 := HS.trans h7042 h7047 (by decide)
  rcases c7049 with rfl | ⟨n7050, h7051, e7052, rfl⟩
  · refine m_if_ne F e_X10_life_10 (fun q => absurd (by decide) q) (fun _ => ?_)
    refine m_ldc2 F kc_X10_245 e_X10_life_13 ?_
    exact m_lret F hQ e_X10_life_16 (⟨h7048, _, rfl⟩)
  · subst e7052
    refine m_if_ne F e_X10_life_10 (fun _ => ?_) (fun q => absurd q (by decide))
    refine m_sipush F (v := 160) (by decide) e_X10_life_17 ?_
    refine m_iload_n F rfl e_X10_life_20 ?_
    refine m_imul F e_X10_life_21 ?_
    refine Wm.topE (w := nI (160 * n7050)) (pk_mul 160 n7050) ?_
    refine m_istore_n F (lv' := [(3, .int (nI (160 * n7050))), (0, .ref c), (1, .int (nI n7050)), (2, .int x902)]) e_X10_life_22 (by decide) rfl ?_
    refine m_aload_n F rfl e_X10_life_23 ?_
    refine r_get F e_X10_life_24 fl_X10_59 h7048 rfl (fun v hv f7053 => ?_)
    obtain rfl : v = .ref (c + 16) := hv
    refine m_iload_n F rfl e_X10_life_27 ?_
    refine m_iconst F (v := 0) (by decide) e_X10_life_28 ?_
    refine m_iadd F e_X10_life_29 ?_
    refine Wm.topE (w := nI (160 * n7050)) (nI_add (160 * n7050) 0) ?_
    refine r_sld F (j := 160 * n7050) e_X10_life_30 h7048 (nI_clamp (by omega)) (vp_in_nI (by omega) (by decide)) (fun x7054 h7055 f7056 => ?_)
    have hl7057 := hob.2 n7050 (by omega)
    obtain rfl : x7054 = lN (L n7050).1 := (EJ_l (l := n7050) (r := 0) (by omega) (by decide)).mp h7055
    refine m_ldc2 F kc_X10_234 e_X10_life_31 ?_
    refine m_lcmp F e_X10_life_34 ?_
    refine m_if_ne F e_X10_life_35 (fun q35 => ?_) (fun q35 => ?_)
    · have c35 : ((L n7050).1) ≠ 2 := by have hh := mt (fun h9 => (lg_cmp_eq (lN ((L n7050).1)) (lN 2)).mpr ((lN_eq (a := ((L n7050).1)) (b := 2) (by omega) (by omega)).mpr h9)) q35; omega
      refine m_aload_n F rfl e_X10_life_42 ?_
      refine r_getC F e_X10_life_43 fl_X10_59 h7048 (f7053) ?_
      refine m_iload_n F rfl e_X10_life_46 ?_
      refine m_iconst F (v := 0) (by decide) e_X10_life_47 ?_
      refine m_iadd F e_X10_life_48 ?_
      refine Wm.topE (w := nI (160 * n7050)) (nI_add (160 * n7050) 0) ?_
      refine r_sld F (j := 160 * n7050) e_X10_life_49 h7048 (nI_clamp (by omega)) (vp_in_nI (by omega) (by decide)) (fun x7058 h7059 f7060 => ?_)
      have hl7061 := hob.2 n7050 (by omega)
      obtain rfl : x7058 = lN (L n7050).1 := (EJ_l (l := n7050) (r := 0) (by omega) (by decide)).mp h7059
      refine m_lconst F (v := 1) (by decide) e_X10_life_50 ?_
      refine m_lcmp F e_X10_life_51 ?_
      refine m_if_ne F e_X10_life_52 (fun q52 => ?_) (fun q52 => ?_)
      · have c52 : ((L n7050).1) ≠ 1 := by have hh := mt (fun h9 => (lg_cmp_eq (lN ((L n7050).1)) (lN 1)).mpr ((lN_eq (a := ((L n7050).1)) (b := 1) (by omega) (by omega)).mpr h9)) q52; omega
        refine m_aload_n F rfl e_X10_life_59 ?_
        refine r_get F e_X10_life_60 fl_X10_19 h7048 rfl (fun v hv f7062 => ?_)
        obtain rfl : v = .ref (c + 4) := hv
        refine m_iload_n F rfl e_X10_life_63 ?_
        refine r_iald F (len := 8) (j := n7050) e_X10_life_64 h7048 (fun _ h => h) (by decide) (nI_clamp (by omega)) (vp_in_nI (by omega) (by decide)) (fun x7063 h7064 f7065 => ?_)
        refine m_i2l F e_X10_life_65 ?_
        refine Wm.topl (fun x7066 _ => ?_)
        refine m_aload_n F rfl e_X10_life_66 ?_
        refine r_getC F e_X10_life_67 fl_X10_59 h7048 (f7053) ?_
        refine m_sipush F (v := 744) (by decide) e_X10_life_70 ?_
        refine r_sld F (j := 744) e_X10_life_73 h7048 (by decide) (by unfold vp_in; decide) (fun x7067 h7068 f7069 => ?_)
        have hl7070 := hob.1
        obtain rfl : x7067 = lN (L 4).1 := EJ_p.mp h7068
        refine m_lsub F e_X10_life_74 ?_
        refine Wm.topl (fun x7071 _ => ?_)
        refine m_lstore F (lv' := [(4, .long x7071), (3, .int (nI (160 * n7050))), (0, .ref c), (1, .int (nI n7050)), (2, .int x902)]) e_X10_life_75 (by decide) rfl ?_
        refine m_lconst F (v := 0) (by decide) e_X10_life_77 ?_
        refine m_lstore F (lv' := [(6, .long 0), (4, .long x7071), (3, .int (nI (160 * n7050))), (0, .ref c), (1, .int (nI n7050)), (2, .int x902)]) e_X10_life_78 (by decide) rfl ?_
        refine m_lconst F (v := 0) (by decide) e_X10_life_80 ?_
        refine m_lstore F (lv' := [(8, .long 0), (6, .long 0), (4, .long x7071), (3, .int (nI (160 * n7050))), (0, .ref c), (1, .int (nI n7050)), (2, .int x902)]) e_X10_life_81 (by decide) rfl ?_
        refine m_aload_n F rfl e_X10_life_83 ?_
        refine r_getC F e_X10_life_84 fl_X10_59 h7048 (f7053) ?_
        refine m_iload_n F rfl e_X10_life_87 ?_
        refine m_iconst F (v := 5) (by decide) e_X10_life_88 ?_
        refine m_iadd F e_X10_life_89 ?_
        refine Wm.topE (w := nI (160 * n7050 + 5)) (nI_add (160 * n7050) 5) ?_
        refine r_sld F (j := 160 * n7050 + 5) e_X10_life_90 h7048 (nI_clamp (by omega)) (vp_in_nI (by omega) (by decide)) (fun x7072 h7073 f7074 => ?_)
        have hl7075 := hob.2 n7050 (by omega)
        obtain rfl : x7072 = lN (L n7050).2.2.2 := (EJ_l (l := n7050) (r := 5) (by omega) (by decide)).mp h7073
        refine m_l2i F e_X10_life_91 ?_
        refine Wm.topE (w := nI ((L n7050).2.2.2)) (lN_i ((L n7050).2.2.2)) ?_
        refine m_istore F (lv' := [(10, .int (nI ((L n7050).2.2.2))), (8, .long 0), (6, .long 0), (4, .long x7071), (3, .int (nI (160 * n7050))), (0, .ref c), (1, .int (nI n7050)), (2, .int x902)]) e_X10_life_92 (by decide) rfl ?_
        refine Wm.lvsub (lv' := [(0, .ref c), (1, .int (nI n7050)), (2, .int x902), (3, .int (nI (160 * n7050))), (4, .long x7071), (6, .long 0), (8, .long 0), (10, .int (nI ((L n7050).2.2.2)))]) ?_ [5, 6, 7, 4, 3, 2, 1, 0] rfl
        exact lq_X10_life_94 F hQ hob hP  (72 - ((L n7050).2.2.2) + 1) n7050 x902 x7071 0 0 ((L n7050).2.2.2) _ h7048 (by omega) (Nat.lt_succ_self _)
      · have c52 : ((L n7050).1) = 1 := (lN_eq (a := ((L n7050).1)) (b := 1) (by omega) (by omega)).mp ((lg_cmp_eq _ _).mp q52)
        refine m_lconst F (v := 0) (by decide) e_X10_life_55 ?_
        refine m_goto F e_X10_life_56 ?_
        refine m_lstore F (lv' := [(4, .long 0), (3, .int (nI (160 * n7050))), (0, .ref c), (1, .int (nI n7050)), (2, .int x902)]) e_X10_life_75 (by decide) rfl ?_
        refine m_lconst F (v := 0) (by decide) e_X10_life_77 ?_
        refine m_lstore F (lv' := [(6, .long 0), (4, .long 0), (3, .int (nI (160 * n7050))), (0, .ref c), (1, .int (nI n7050)), (2, .int x902)]) e_X10_life_78 (by decide) rfl ?_
        refine m_lconst F (v := 0) (by decide) e_X10_life_80 ?_
        refine m_lstore F (lv' := [(8, .long 0), (6, .long 0), (4, .long 0), (3, .int (nI (160 * n7050))), (0, .ref c), (1, .int (nI n7050)), (2, .int x902)]) e_X10_life_81 (by decide) rfl ?_
        refine m_aload_n F rfl e_X10_life_83 ?_
        refine r_getC F e_X10_life_84 fl_X10_59 h7048 (f7053) ?_
        refine m_iload_n F rfl e_X10_life_87 ?_
        refine m_iconst F (v := 5) (by decide) e_X10_life_88 ?_
        refine m_iadd F e_X10_life_89 ?_
        refine Wm.topE (w := nI (160 * n7050 + 5)) (nI_add (160 * n7050) 5) ?_
        refine r_sld F (j := 160 * n7050 + 5) e_X10_life_90 h7048 (nI_clamp (by omega)) (vp_in_nI (by omega) (by decide)) (fun x7076 h7077 f7078 => ?_)
        have hl7079 := hob.2 n7050 (by omega)
        obtain rfl : x7076 = lN (L n7050).2.2.2 := (EJ_l (l := n7050) (r := 5) (by omega) (by decide)).mp h7077
        refine m_l2i F e_X10_life_91 ?_
        refine Wm.topE (w := nI ((L n7050).2.2.2)) (lN_i ((L n7050).2.2.2)) ?_
        refine m_istore F (lv' := [(10, .int (nI ((L n7050).2.2.2))), (8, .long 0), (6, .long 0), (4, .long 0), (3, .int (nI (160 * n7050))), (0, .ref c), (1, .int (nI n7050)), (2, .int x902)]) e_X10_life_92 (by decide) rfl ?_
        refine Wm.lvsub (lv' := [(0, .ref c), (1, .int (nI n7050)), (2, .int x902), (3, .int (nI (160 * n7050))), (4, .long 0), (6, .long 0), (8, .long 0), (10, .int (nI ((L n7050).2.2.2)))]) ?_ [5, 6, 7, 4, 3, 2, 1, 0] rfl
        exact lq_X10_life_94 F hQ hob hP  (72 - ((L n7050).2.2.2) + 1) n7050 x902 0 0 0 ((L n7050).2.2.2) _ h7048 (by omega) (Nat.lt_succ_self _)
    · have c35 : ((L n7050).1) = 2 := (lN_eq (a := ((L n7050).1)) (b := 2) (by omega) (by omega)).mp ((lg_cmp_eq _ _).mp q35)
      refine m_ldc2 F kc_X10_338 e_X10_life_38 ?_
      exact m_lret F hQ e_X10_life_41 (⟨h7048, _, rfl⟩)
set_option maxRecDepth 20000 in
theorem q_X10_draw (l : Launch) (V : VX) (c T Z u h : Nat) (P : NP) (L : Nat → LQ) (N : Nat) (σ : Mem) (n901 : Nat) (h0 : HR V c ⟨T, Z, u, h, P, L⟩ σ) (hob : OKB L) (hP : OKP P) (hn901 : n901 ≤ 21) (hp0 : 1 ≤ n901) : Ct l V yX10_draw cX10_draw 2 (some .int) 0 0 0 N σ [.ref c, .int (nI n901)] (fun r τ => HS V c (⟨T, Z, u, h, P, L⟩ : RG) [0, 2, 3, 4, 5, 6, 7, 8, 9, 10, 11, 12, 13, 14, 15, 16, 17, 18, 19, 20, 21, 22, 23] σ τ ∧ ∃ x : Int32, r = some (.int x)) := by
  refine Ct.of (by decide) (Nat.le_of_ble_eq_true rfl) [(0, .ref c), (1, .int (nI n901))] rfl (fun X hX F hQ => ?_)
  have hPP := hP
  unfold OKP at hPP
  have h1 : HS V c ⟨T, Z, u, h, P, L⟩ [0, 2, 3, 4, 5, 6, 7, 8, 9, 10, 11, 12, 13, 14, 15, 16, 17, 18, 19, 20, 21, 22, 23] σ σ := HS.start h0
  refine m_aload_n F rfl e_X10_draw_0 ?_
  refine m_aload_n F rfl e_X10_draw_1 ?_
  refine r_get F e_X10_draw_2 fl_X10_353 h1 rfl (fun v hv f7080 => ?_)
  obtain ⟨x7081, rfl⟩ := hv
  refine m_ldcw F kc_X10_356 e_X10_draw_5 ?_
  refine m_imul F e_X10_draw_8 ?_
  refine Wm.top (fun x7082 _ => ?_)
  refine m_sipush F (v := 12345) (by decide) e_X10_draw_9 ?_
  refine m_iadd F e_X10_draw_12 ?_
  refine Wm.top (fun x7083 _ => ?_)
  refine m_ldcw F kc_X10_357 e_X10_draw_13 ?_
  refine m_iand F e_X10_draw_16 ?_
  refine Wm.top (fun x7084 _ => ?_)
  refine r_put F (g' := (⟨T, Z, u, h, P, L⟩ : RG)) e_X10_draw_17 fp_X10_353 h1 (by decide) ⟨_, rfl⟩ (fun _ _ _ _ q => q) (fun _ _ _ q => q) rfl rfl (by decide) (fun σ7085 h7086 g7087 g7088 f7089 => ?_)
  refine m_aload_n F rfl e_X10_draw_20 ?_
  refine r_getC F e_X10_draw_21 fl_X10_353 h7086 (f7089) ?_
  refine m_bipush F (v := 16) (by decide) e_X10_draw_24 ?_
  refine m_ishr F e_X10_draw_26 ?_
  refine Wm.top (fun x7090 _ => ?_)
  refine m_iload_n F rfl e_X10_draw_27 ?_
  refine m_irem F (fun e => by have h9 := nI_inj (a := n901) (b := 0) (by omega) (by omega) e; omega) e_X10_draw_28 ?_
  refine Wm.top (fun x7091 _ => ?_)
  exact m_iret F hQ e_X10_draw_29 (⟨h7086, _, rfl⟩)
set_option maxRecDepth 20000 in
theorem q_X10_held (l : Launch) (V : VX) (N : Nat) (σ : Mem) (x901 : Int64)  : Ct l V yX10_held cX10_held 2 (some .long) 0 0 0 N σ [.long x901] (fun r τ => τ = σ ∧ ∃ n : Nat, 1 ≤ n ∧ n ≤ 2000 ∧ r = some (.long (lN n))) := by
  refine Ct.of (by decide) (Nat.le_of_ble_eq_true rfl) [(0, .long x901)] rfl (fun X hX F hQ => ?_)
  refine m_lload_n F rfl e_X10_held_0 ?_
  refine m_ldc2 F kc_X10_358 e_X10_held_1 ?_
  refine m_lcmp F e_X10_held_4 ?_
  refine m_if_ge F e_X10_held_5 (fun q5 => ?_) (fun q5 => ?_)
  · have e5 : ¬ x901 < 500 := Int64.not_lt.mpr ((lg_cmp_ge _ _).mp q5)
    refine m_lload_n F rfl e_X10_held_12 ?_
    refine m_ldc2 F kc_X10_360 e_X10_held_13 ?_
    refine m_lcmp F e_X10_held_16 ?_
    refine m_if_le F e_X10_held_17 (fun q17 => ?_) (fun q17 => ?_)
    · have e17 : ¬ 2000 < x901 := Int64.not_lt.mpr ((lg_cmp_le _ _).mp q17)
      refine m_lload_n F rfl e_X10_held_24 ?_
      exact m_lret F hQ e_X10_held_25 ((by obtain ⟨n9, g9, h9, e9⟩ := lN_of e5 e17; exact ⟨rfl, n9, g9, h9, by rw [e9]⟩))
    · refine m_ldc2 F kc_X10_360 e_X10_held_20 ?_
      exact m_lret F hQ e_X10_held_23 (⟨rfl, 2000, by omega, by omega, rfl⟩)
  · refine m_ldc2 F kc_X10_358 e_X10_held_8 ?_
    exact m_lret F hQ e_X10_held_11 (⟨rfl, 500, by omega, by omega, rfl⟩)
set_option maxRecDepth 20000 in
theorem lq_X10_chance_125 {V : VX} {X : MX} {N : Nat} {σ : Mem} {c T Z u h : Nat} {P : NP} {L : Nat → LQ}   (F : Fx V X yX10_chance cX10_chance 13 (some .long) (rmd 4 0 0)) (hQ : Rt V X 0 0 N (fun r τ => HS V c (⟨T, Z, u, h, P, L⟩ : RG) [0, 2, 3, 4, 5, 6, 7, 8, 9, 10, 11, 12, 13, 14, 15, 16, 18, 20, 21, 22] σ τ ∧ ∃ x : Int64, r = some (.long x))) (hok : OKL P.n0 L) (hP : OKP P)  {fuelO : Nat} (hO : ∀ (a : Nat) (b : Nat) (w1 : Int64) (w2 : Int64) (w3 : Int64) (k : Nat) (τ : Mem), HS V c (⟨T, Z, u, h, P, L⟩ : RG) [0, 2, 3, 4, 5, 6, 7, 8, 9, 10, 11, 12, 13, 14, 15, 16, 18, 20, 21, 22] σ τ → a ≤ 10 ∧ b ≤ 2 ∧ k ≤ a ∧ (L 4).1 ≤ 87 ∧ GB V c 18 1113 0 L τ → a - k < fuelO → Wm V X 13 N τ 0 0 116 [(0, .ref c), (2, .int (nI a)), (3, .int (nI b)), (4, .long w1), (6, .long w2), (8, .long w3), (10, .int (nI k))] []) : ∀ (fuel : Nat) (a : Nat) (b : Nat) (w1 : Int64) (w2 : Int64) (w3 : Int64) (k : Nat) (p : Nat) (L1 : Nat → LQ) (τ : Mem), HS V c (⟨T, Z, u, h, P, L1⟩ : RG) [0, 2, 3, 4, 5, 6, 7, 8, 9, 10, 11, 12, 13, 14, 15, 16, 18, 20, 21, 22] σ τ → OKL P.n0 L1 → a ≤ 10 ∧ b ≤ 2 ∧ k < a ∧ (L 4).1 ≤ 87 ∧ a - k ≤ fuelO ∧ p ≤ 12 ∧ (L1 4).1 = (L 4).1 + p ∧ GB V c 18 1113 0 L τ → 12 - p < fuel → Wm V X 13 N τ 0 0 125 [(0, .ref c), (2, .int (nI a)), (3, .int (nI b)), (4, .long w1), (6, .long w2), (8, .long w3), (10, .int (nI k)), (11, .int (nI p))] [] := by
  intro fuel
  induction fuel with
  | zero => intros; rename_i hm; exact absurd hm (Nat.not_lt_zero _)
  | succ fuel ih =>
    intro a b w1 w2 w3 k p L1 τ h1 hok1 hi hm
    have hPP := hP
    unfold OKP at hPP
    have ga0 := hi.2.2.2.2.2.2.2
    refine m_iload F rfl e_X10_chance_125 ?_
    refine m_bipush F (v := 12) (by decide) e_X10_chance_127 ?_
    refine m_icmp_ge F e_X10_chance_129 (fun q129 => ?_) (fun q129 => ?_)
    · have c129 : p ≥ 12 := (nI_leI (a := 12) (b := p) (by omega) (by omega)).mp q129
      refine m_aload_n F rfl e_X10_chance_165 ?_
      refine r_callV F e_X10_chance_166 (q_X10_owedAll (x_l X) V c T Z u h P L1 _ _  h1.1 (hok1.b) hP ) cb_X10_owedAll ml_X10_335 im_X10_owedAll se_X10_owedAll h1 rfl rfl (rest := []) rfl (Nat.le_of_ble_eq_true rfl) ⟨Nat.le_of_ble_eq_true rfl, Nat.le_of_ble_eq_true rfl⟩ ⟨Nat.le_of_ble_eq_true rfl, Nat.le_of_ble_eq_true rfl⟩ (fun r σ7092 hp => ?_)
      obtain ⟨h7093, x7095, rfl⟩ := hp
      have h7094 := HS.trans h1 h7093 (by decide)
      have ga7096 := ga0.of (h7093.2 (c + 18) (by rw [kC_at (k := 18) (by decide)]; decide))
      refine m_lstore F (lv' := [(11, .long x7095), (0, .ref c), (2, .int (nI a)), (3, .int (nI b)), (4, .long w1), (6, .long w2), (8, .long w3), (10, .int (nI k))]) e_X10_chance_169 (by decide) rfl ?_
      refine m_lload F rfl e_X10_chance_171 ?_
      refine m_lload F rfl e_X10_chance_173 ?_
      refine m_ladd F e_X10_chance_175 ?_
      refine Wm.topl (fun x7097 _ => ?_)
      refine m_lstore F (lv' := [(4, .long x7097), (11, .long x7095), (0, .ref c), (2, .int (nI a)), (3, .int (nI b)), (6, .long w2), (8, .long w3), (10, .int (nI k))]) e_X10_chance_176 (by decide) rfl ?_
      refine m_iload F rfl e_X10_chance_178 ?_
      refine m_if_eq F e_X10_chance_180 (fun q180 => ?_) (fun q180 => ?_)
      · have c180 : k = 0 := (nI_eq (a := k) (b := 0) (by omega) (by omega)).mp q180
        refine m_lload F rfl e_X10_chance_191 ?_
        refine m_goto F e_X10_chance_193 ?_
        refine m_lstore F (lv' := [(6, .long x7095), (4, .long x7097), (11, .long x7095), (0, .ref c), (2, .int (nI a)), (3, .int (nI b)), (8, .long w3), (10, .int (nI k))]) e_X10_chance_198 (by decide) rfl ?_
        refine m_iload F rfl e_X10_chance_200 ?_
        refine m_if_eq F e_X10_chance_202 (fun q202 => ?_) (fun q202 => ?_)
        · have c202 : k = 0 := (nI_eq (a := k) (b := 0) (by omega) (by omega)).mp q202
          refine m_lload F rfl e_X10_chance_213 ?_
          refine m_goto F e_X10_chance_215 ?_
          refine m_lstore F (lv' := [(8, .long x7095), (6, .long x7095), (4, .long x7097), (11, .long x7095), (0, .ref c), (2, .int (nI a)), (3, .int (nI b)), (10, .int (nI k))]) e_X10_chance_220 (by decide) rfl ?_
          refine m_aload_n F rfl e_X10_chance_222 ?_
          refine r_get F e_X10_chance_223 fl_X10_66 h7094 rfl (fun v hv f7098 => ?_)
          obtain rfl : v = .ref (c + 18) := hv
          refine m_iconst F (v := 0) (by decide) e_X10_chance_226 ?_
          refine m_aload_n F rfl e_X10_chance_227 ?_
          refine r_get F e_X10_chance_228 fl_X10_59 h7094 rfl (fun v hv f7099 => ?_)
          obtain rfl : v = .ref (c + 16) := hv
          refine m_iconst F (v := 0) (by decide) e_X10_chance_231 ?_
          have xe7101 := ga7096
          obtain ⟨f7100, e7101, te7101⟩ := xe7101
          obtain ⟨g7102, e7103, te7103⟩ : ∃ f, σ7092 (c + 16) = some (aJ V 1113 f) ∧ _ := h7094.1.cell (k := 16) (by decide)
          refine m_callS F e_X10_chance_232 (q_copies (x_l X) V _ _ (c + 18) (c + 16) 1113 1113 0 0 f7100 g7102 e7101 e7103 (by omega) (by omega) (by omega) (by omega)) cb_X10_copies ml_X10_230 sm_X10_copies rfl (rest := []) rfl (Nat.le_of_ble_eq_true rfl) ⟨Nat.le_of_ble_eq_true rfl, Nat.le_of_ble_eq_true rfl⟩ ⟨Nat.le_of_ble_eq_true rfl, Nat.le_of_ble_eq_true rfl⟩ (k' := 0) (z' := 0) (N' := N) rfl rfl rfl (fun r σ7104 hp => ?_)
          obtain ⟨p7105, rfl⟩ := hp
          have h7106 := HS.cpS (L2 := L) (o := 0) h7094 (by decide) te7101 p7105
          have ga7107 := ga7096.of (p7105.2 _ (by omega))
          refine m_iinc F (v := nI (k + 1)) (lv' := [(10, .int (nI (k + 1))), (8, .long x7095), (6, .long x7095), (4, .long x7097), (11, .long x7095), (0, .ref c), (2, .int (nI a)), (3, .int (nI b))]) e_X10_chance_235 rfl (nI_add k 1) (by decide) rfl ?_
          refine m_goto F e_X10_chance_238 ?_
          refine Wm.lvsub (lv' := [(0, .ref c), (2, .int (nI a)), (3, .int (nI b)), (4, .long x7097), (6, .long x7095), (8, .long x7095), (10, .int (nI (k + 1)))]) ?_ [5, 6, 7, 3, 2, 1, 0] rfl
          exact hO a b x7097 x7095 x7095 (k + 1) _ h7106 ⟨by omega, by omega, by omega, by omega, by assumption⟩ (by omega)
        · have c202 : k ≠ 0 := by have hh := mt (nI_eq (a := k) (b := 0) (by omega) (by omega)).mpr q202; omega
          refine m_lload F rfl e_X10_chance_205 ?_
          refine m_lload F rfl e_X10_chance_207 ?_
          refine m_lcmp F e_X10_chance_209 ?_
          refine Wm.top (fun x7108 _ => ?_)
          refine m_if_ge F e_X10_chance_210 (fun q210 => ?_) (fun q210 => ?_)
          · obtain ⟨n7109, hn7109, rfl⟩ := nI_nn (x := x7108) (fun e => Int32.lt_irrefl (Int32.lt_of_lt_of_le e (Int32.le_trans (by decide) q210)))
            have c210 : n7109 ≥ 0 := (nI_leI (a := 0) (b := n7109) (by omega) (by omega)).mp q210
            refine m_lload F rfl e_X10_chance_218 ?_
            refine m_lstore F (lv' := [(8, .long w3), (6, .long x7095), (4, .long x7097), (11, .long x7095), (0, .ref c), (2, .int (nI a)), (3, .int (nI b)), (10, .int (nI k))]) e_X10_chance_220 (by decide) rfl ?_
            refine m_aload_n F rfl e_X10_chance_222 ?_
            refine r_get F e_X10_chance_223 fl_X10_66 h7094 rfl (fun v hv f7110 => ?_)
            obtain rfl : v = .ref (c + 18) := hv
            refine m_iconst F (v := 0) (by decide) e_X10_chance_226 ?_
            refine m_aload_n F rfl e_X10_chance_227 ?_
            refine r_get F e_X10_chance_228 fl_X10_59 h7094 rfl (fun v hv f7111 => ?_)
            obtain rfl : v = .ref (c + 16) := hv
            refine m_iconst F (v := 0) (by decide) e_X10_chance_231 ?_
            have xe7113 := ga7096
            obtain ⟨f7112, e7113, te7113⟩ := xe7113
            obtain ⟨g7114, e7115, te7115⟩ : ∃ f, σ7092 (c + 16) = some (aJ V 1113 f) ∧ _ := h7094.1.cell (k := 16) (by decide)
            refine m_callS F e_X10_chance_232 (q_copies (x_l X) V _ _ (c + 18) (c + 16) 1113 1113 0 0 f7112 g7114 e7113 e7115 (by omega) (by omega) (by omega) (by omega)) cb_X10_copies ml_X10_230 sm_X10_copies rfl (rest := []) rfl (Nat.le_of_ble_eq_true rfl) ⟨Nat.le_of_ble_eq_true rfl, Nat.le_of_ble_eq_true rfl⟩ ⟨Nat.le_of_ble_eq_true rfl, Nat.le_of_ble_eq_true rfl⟩ (k' := 0) (z' := 0) (N' := N) rfl rfl rfl (fun r σ7116 hp => ?_)
            obtain ⟨p7117, rfl⟩ := hp
            have h7118 := HS.cpS (L2 := L) (o := 0) h7094 (by decide) te7113 p7117
            have ga7119 := ga7096.of (p7117.2 _ (by omega))
            refine m_iinc F (v := nI (k + 1)) (lv' := [(10, .int (nI (k + 1))), (8, .long w3), (6, .long x7095), (4, .long x7097), (11, .long x7095), (0, .ref c), (2, .int (nI a)), (3, .int (nI b))]) e_X10_chance_235 rfl (nI_add k 1) (by decide) rfl ?_
            refine m_goto F e_X10_chance_238 ?_
            refine Wm.lvsub (lv' := [(0, .ref c), (2, .int (nI a)), (3, .int (nI b)), (4, .long x7097), (6, .long x7095), (8, .long w3), (10, .int (nI (k + 1)))]) ?_ [5, 6, 7, 3, 2, 1, 0] rfl
            exact hO a b x7097 x7095 w3 (k + 1) _ h7118 ⟨by omega, by omega, by omega, by omega, by assumption⟩ (by omega)
          · refine m_lload F rfl e_X10_chance_213 ?_
            refine m_goto F e_X10_chance_215 ?_
            refine m_lstore F (lv' := [(8, .long x7095), (6, .long x7095), (4, .long x7097), (11, .long x7095), (0, .ref c), (2, .int (nI a)), (3, .int (nI b)), (10, .int (nI k))]) e_X10_chance_220 (by decide) rfl ?_
            refine m_aload_n F rfl e_X10_chance_222 ?_
            refine r_get F e_X10_chance_223 fl_X10_66 h7094 rfl (fun v hv f7120 => ?_)
            obtain rfl : v = .ref (c + 18) := hv
            refine m_iconst F (v := 0) (by decide) e_X10_chance_226 ?_
            refine m_aload_n F rfl e_X10_chance_227 ?_
            refine r_get F e_X10_chance_228 fl_X10_59 h7094 rfl (fun v hv f7121 => ?_)
            obtain rfl : v = .ref (c + 16) := hv
            refine m_iconst F (v := 0) (by decide) e_X10_chance_231 ?_
            have xe7123 := ga7096
            obtain ⟨f7122, e7123, te7123⟩ := xe7123
            obtain ⟨g7124, e7125, te7125⟩ : ∃ f, σ7092 (c + 16) = some (aJ V 1113 f) ∧ _ := h7094.1.cell (k := 16) (by decide)
            refine m_callS F e_X10_chance_232 (q_copies (x_l X) V _ _ (c + 18) (c + 16) 1113 1113 0 0 f7122 g7124 e7123 e7125 (by omega) (by omega) (by omega) (by omega)) cb_X10_copies ml_X10_230 sm_X10_copies rfl (rest := []) rfl (Nat.le_of_ble_eq_true rfl) ⟨Nat.le_of_ble_eq_true rfl, Nat.le_of_ble_eq_true rfl⟩ ⟨Nat.le_of_ble_eq_true rfl, Nat.le_of_ble_eq_true rfl⟩ (k' := 0) (z' := 0) (N' := N) rfl rfl rfl (fun r σ7126 hp => ?_)
            obtain ⟨p7127, rfl⟩ := hp
            have h7128 := HS.cpS (L2 := L) (o := 0) h7094 (by decide) te7123 p7127
            have ga7129 := ga7096.of (p7127.2 _ (by omega))
            refine m_iinc F (v := nI (k + 1)) (lv' := [(10, .int (nI (k + 1))), (8, .long x7095), (6, .long x7095), (4, .long x7097), (11, .long x7095), (0, .ref c), (2, .int (nI a)), (3, .int (nI b))]) e_X10_chance_235 rfl (nI_add k 1) (by decide) rfl ?_
            refine m_goto F e_X10_chance_238 ?_
            refine Wm.lvsub (lv' := [(0, .ref c), (2, .int (nI a)), (3, .int (nI b)), (4, .long x7097), (6, .long x7095), (8, .long x7095), (10, .int (nI (k + 1)))]) ?_ [5, 6, 7, 3, 2, 1, 0] rfl
            exact hO a b x7097 x7095 x7095 (k + 1) _ h7128 ⟨by omega, by omega, by omega, by omega, by assumption⟩ (by omega)
      · have c180 : k ≠ 0 := by have hh := mt (nI_eq (a := k) (b := 0) (by omega) (by omega)).mpr q180; omega
        refine m_lload F rfl e_X10_chance_183 ?_
        refine m_lload F rfl e_X10_chance_185 ?_
        refine m_lcmp F e_X10_chance_187 ?_
        refine Wm.top (fun x7130 _ => ?_)
        refine m_if_le F e_X10_chance_188 (fun q188 => ?_) (fun q188 => ?_)
        · refine m_lload F rfl e_X10_chance_196 ?_
          refine m_lstore F (lv' := [(6, .long w2), (4, .long x7097), (11, .long x7095), (0, .ref c), (2, .int (nI a)), (3, .int (nI b)), (8, .long w3), (10, .int (nI k))]) e_X10_chance_198 (by decide) rfl ?_
          refine m_iload F rfl e_X10_chance_200 ?_
          refine m_if_eq F e_X10_chance_202 (fun q202 => ?_) (fun q202 => ?_)
          · have c202 : k = 0 := (nI_eq (a := k) (b := 0) (by omega) (by omega)).mp q202
            refine m_lload F rfl e_X10_chance_213 ?_
            refine m_goto F e_X10_chance_215 ?_
            refine m_lstore F (lv' := [(8, .long x7095), (6, .long w2), (4, .long x7097), (11, .long x7095), (0, .ref c), (2, .int (nI a)), (3, .int (nI b)), (10, .int (nI k))]) e_X10_chance_220 (by decide) rfl ?_
            refine m_aload_n F rfl e_X10_chance_222 ?_
            refine r_get F e_X10_chance_223 fl_X10_66 h7094 rfl (fun v hv f7131 => ?_)
            obtain rfl : v = .ref (c + 18) := hv
            refine m_iconst F (v := 0) (by decide) e_X10_chance_226 ?_
            refine m_aload_n F rfl e_X10_chance_227 ?_
            refine r_get F e_X10_chance_228 fl_X10_59 h7094 rfl (fun v hv f7132 => ?_)
            obtain rfl : v = .ref (c + 16) := hv
            refine m_iconst F (v := 0) (by decide) e_X10_chance_231 ?_
            have xe7134 := ga7096
            obtain ⟨f7133, e7134, te7134⟩ := xe7134
            obtain ⟨g7135, e7136, te7136⟩ : ∃ f, σ7092 (c + 16) = some (aJ V 1113 f) ∧ _ := h7094.1.cell (k := 16) (by decide)
            refine m_callS F e_X10_chance_232 (q_copies (x_l X) V _ _ (c + 18) (c + 16) 1113 1113 0 0 f7133 g7135 e7134 e7136 (by omega) (by omega) (by omega) (by omega)) cb_X10_copies ml_X10_230 sm_X10_copies rfl (rest := []) rfl (Nat.le_of_ble_eq_true rfl) ⟨Nat.le_of_ble_eq_true rfl, Nat.le_of_ble_eq_true rfl⟩ ⟨Nat.le_of_ble_eq_true rfl, Nat.le_of_ble_eq_true rfl⟩ (k' := 0) (z' := 0) (N' := N) rfl rfl rfl (fun r σ7137 hp => ?_)
            obtain ⟨p7138, rfl⟩ := hp
            have h7139 := HS.cpS (L2 := L) (o := 0) h7094 (by decide) te7134 p7138
            have ga7140 := ga7096.of (p7138.2 _ (by omega))
            refine m_iinc F (v := nI (k + 1)) (lv' := [(10, .int (nI (k + 1))), (8, .long x7095), (6, .long w2), (4, .long x7097), (11, .long x7095), (0, .ref c), (2, .int (nI a)), (3, .int (nI b))]) e_X10_chance_235 rfl (nI_add k 1) (by decide) rfl ?_
            refine m_goto F e_X10_chance_238 ?_
            refine Wm.lvsub (lv' := [(0, .ref c), (2, .int (nI a)), (3, .int (nI b)), (4, .long x7097), (6, .long w2), (8, .long x7095), (10, .int (nI (k + 1)))]) ?_ [5, 6, 7, 3, 2, 1, 0] rfl
            exact hO a b x7097 w2 x7095 (k + 1) _ h7139 ⟨by omega, by omega, by omega, by omega, by assumption⟩ (by omega)
          · have c202 : k ≠ 0 := by have hh := mt (nI_eq (a := k) (b := 0) (by omega) (by omega)).mpr q202; omega
            refine m_lload F rfl e_X10_chance_205 ?_
            refine m_lload F rfl e_X10_chance_207 ?_
            refine m_lcmp F e_X10_chance_209 ?_
            refine Wm.top (fun x7141 _ => ?_)
            refine m_if_ge F e_X10_chance_210 (fun q210 => ?_) (fun q210 => ?_)
            · obtain ⟨n7142, hn7142, rfl⟩ := nI_nn (x := x7141) (fun e => Int32.lt_irrefl (Int32.lt_of_lt_of_le e (Int32.le_trans (by decide) q210)))
              have c210 : n7142 ≥ 0 := (nI_leI (a := 0) (b := n7142) (by omega) (by omega)).mp q210
              refine m_lload F rfl e_X10_chance_218 ?_
              refine m_lstore F (lv' := [(8, .long w3), (6, .long w2), (4, .long x7097), (11, .long x7095), (0, .ref c), (2, .int (nI a)), (3, .int (nI b)), (10, .int (nI k))]) e_X10_chance_220 (by decide) rfl ?_
              refine m_aload_n F rfl e_X10_chance_222 ?_
              refine r_get F e_X10_chance_223 fl_X10_66 h7094 rfl (fun v hv f7143 => ?_)
              obtain rfl : v = .ref (c + 18) := hv
              refine m_iconst F (v := 0) (by decide) e_X10_chance_226 ?_
              refine m_aload_n F rfl e_X10_chance_227 ?_
              refine r_get F e_X10_chance_228 fl_X10_59 h7094 rfl (fun v hv f7144 => ?_)
              obtain rfl : v = .ref (c + 16) := hv
              refine m_iconst F (v := 0) (by decide) e_X10_chance_231 ?_
              have xe7146 := ga7096
              obtain ⟨f7145, e7146, te7146⟩ := xe7146
              obtain ⟨g7147, e7148, te7148⟩ : ∃ f, σ7092 (c + 16) = some (aJ V 1113 f) ∧ _ := h7094.1.cell (k := 16) (by decide)
              refine m_callS F e_X10_chance_232 (q_copies (x_l X) V _ _ (c + 18) (c + 16) 1113 1113 0 0 f7145 g7147 e7146 e7148 (by omega) (by omega) (by omega) (by omega)) cb_X10_copies ml_X10_230 sm_X10_copies rfl (rest := []) rfl (Nat.le_of_ble_eq_true rfl) ⟨Nat.le_of_ble_eq_true rfl, Nat.le_of_ble_eq_true rfl⟩ ⟨Nat.le_of_ble_eq_true rfl, Nat.le_of_ble_eq_true rfl⟩ (k' := 0) (z' := 0) (N' := N) rfl rfl rfl (fun r σ7149 hp => ?_)
              obtain ⟨p7150, rfl⟩ := hp
              have h7151 := HS.cpS (L2 := L) (o := 0) h7094 (by decide) te7146 p7150
              have ga7152 := ga7096.of (p7150.2 _ (by omega))
              refine m_iinc F (v := nI (k + 1)) (lv' := [(10, .int (nI (k + 1))), (8, .long w3), (6, .long w2), (4, .long x7097), (11, .long x7095), (0, .ref c), (2, .int (nI a)), (3, .int (nI b))]) e_X10_chance_235 rfl (nI_add k 1) (by decide) rfl ?_
              refine m_goto F e_X10_chance_238 ?_
              refine Wm.lvsub (lv' := [(0, .ref c), (2, .int (nI a)), (3, .int (nI b)), (4, .long x7097), (6, .long w2), (8, .long w3), (10, .int (nI (k + 1)))]) ?_ [5, 6, 7, 3, 2, 1, 0] rfl
              exact hO a b x7097 w2 w3 (k + 1) _ h7151 ⟨by omega, by omega, by omega, by omega, by assumption⟩ (by omega)
            · refine m_lload F rfl e_X10_chance_213 ?_
              refine m_goto F e_X10_chance_215 ?_
              refine m_lstore F (lv' := [(8, .long x7095), (6, .long w2), (4, .long x7097), (11, .long x7095), (0, .ref c), (2, .int (nI a)), (3, .int (nI b)), (10, .int (nI k))]) e_X10_chance_220 (by decide) rfl ?_
              refine m_aload_n F rfl e_X10_chance_222 ?_
              refine r_get F e_X10_chance_223 fl_X10_66 h7094 rfl (fun v hv f7153 => ?_)
              obtain rfl : v = .ref (c + 18) := hv
              refine m_iconst F (v := 0) (by decide) e_X10_chance_226 ?_
              refine m_aload_n F rfl e_X10_chance_227 ?_
              refine r_get F e_X10_chance_228 fl_X10_59 h7094 rfl (fun v hv f7154 => ?_)
              obtain rfl : v = .ref (c + 16) := hv
              refine m_iconst F (v := 0) (by decide) e_X10_chance_231 ?_
              have xe7156 := ga7096
              obtain ⟨f7155, e7156, te7156⟩ := xe7156
              obtain ⟨g7157, e7158, te7158⟩ : ∃ f, σ7092 (c + 16) = some (aJ V 1113 f) ∧ _ := h7094.1.cell (k := 16) (by decide)
              refine m_callS F e_X10_chance_232 (q_copies (x_l X) V _ _ (c + 18) (c + 16) 1113 1113 0 0 f7155 g7157 e7156 e7158 (by omega) (by omega) (by omega) (by omega)) cb_X10_copies ml_X10_230 sm_X10_copies rfl (rest := []) rfl (Nat.le_of_ble_eq_true rfl) ⟨Nat.le_of_ble_eq_true rfl, Nat.le_of_ble_eq_true rfl⟩ ⟨Nat.le_of_ble_eq_true rfl, Nat.le_of_ble_eq_true rfl⟩ (k' := 0) (z' := 0) (N' := N) rfl rfl rfl (fun r σ7159 hp => ?_)
              obtain ⟨p7160, rfl⟩ := hp
              have h7161 := HS.cpS (L2 := L) (o := 0) h7094 (by decide) te7156 p7160
              have ga7162 := ga7096.of (p7160.2 _ (by omega))
              refine m_iinc F (v := nI (k + 1)) (lv' := [(10, .int (nI (k + 1))), (8, .long x7095), (6, .long w2), (4, .long x7097), (11, .long x7095), (0, .ref c), (2, .int (nI a)), (3, .int (nI b))]) e_X10_chance_235 rfl (nI_add k 1) (by decide) rfl ?_
              refine m_goto F e_X10_chance_238 ?_
              refine Wm.lvsub (lv' := [(0, .ref c), (2, .int (nI a)), (3, .int (nI b)), (4, .long x7097), (6, .long w2), (8, .long x7095), (10, .int (nI (k + 1)))]) ?_ [5, 6, 7, 3, 2, 1, 0] rfl
              exact hO a b x7097 w2 x7095 (k + 1) _ h7161 ⟨by omega, by omega, by omega, by omega, by assumption⟩ (by omega)
        · obtain ⟨n7163, hn7163, rfl⟩ := nI_nn (x := x7130) (fun e => q188 (Int32.le_trans (Int32.le_of_lt e) (by decide)))
          have c188 : n7163 > 0 := by have hh := mt (nI_leI (a := n7163) (b := 0) (by omega) (by omega)).mpr q188; omega
          refine m_lload F rfl e_X10_chance_191 ?_
          refine m_goto F e_X10_chance_193 ?_
          refine m_lstore F (lv' := [(6, .long x7095), (4, .long x7097), (11, .long x7095), (0, .ref c), (2, .int (nI a)), (3, .int (nI b)), (8, .long w3), (10, .int (nI k))]) e_X10_chance_198 (by decide) rfl ?_
          refine m_iload F rfl e_X10_chance_200 ?_
          refine m_if_eq F e_X10_chance_202 (fun q202 => ?_) (fun q202 => ?_)
          · have c202 : k = 0 := (nI_eq (a := k) (b := 0) (by omega) (by omega)).mp q202
            refine m_lload F rfl e_X10_chance_213 ?_
            refine m_goto F e_X10_chance_215 ?_
            refine m_lstore F (lv' := [(8, .long x7095), (6, .long x7095), (4, .long x7097), (11, .long x7095), (0, .ref c), (2, .int (nI a)), (3, .int (nI b)), (10, .int (nI k))]) e_X10_chance_220 (by decide) rfl ?_
            refine m_aload_n F rfl e_X10_chance_222 ?_
            refine r_get F e_X10_chance_223 fl_X10_66 h7094 rfl (fun v hv f7164 => ?_)
            obtain rfl : v = .ref (c + 18) := hv
            refine m_iconst F (v := 0) (by decide) e_X10_chance_226 ?_
            refine m_aload_n F rfl e_X10_chance_227 ?_
            refine r_get F e_X10_chance_228 fl_X10_59 h7094 rfl (fun v hv f7165 => ?_)
            obtain rfl : v = .ref (c + 16) := hv
            refine m_iconst F (v := 0) (by decide) e_X10_chance_231 ?_
            have xe7167 := ga7096
            obtain ⟨f7166, e7167, te7167⟩ := xe7167
            obtain ⟨g7168, e7169, te7169⟩ : ∃ f, σ7092 (c + 16) = some (aJ V 1113 f) ∧ _ := h7094.1.cell (k := 16) (by decide)
            refine m_callS F e_X10_chance_232 (q_copies (x_l X) V _ _ (c + 18) (c + 16) 1113 1113 0 0 f7166 g7168 e7167 e7169 (by omega) (by omega) (by omega) (by omega)) cb_X10_copies ml_X10_230 sm_X10_copies rfl (rest := []) rfl (Nat.le_of_ble_eq_true rfl) ⟨Nat.le_of_ble_eq_true rfl, Nat.le_of_ble_eq_true rfl⟩ ⟨Nat.le_of_ble_eq_true rfl, Nat.le_of_ble_eq_true rfl⟩ (k' := 0) (z' := 0) (N' := N) rfl rfl rfl (fun r σ7170 hp => ?_)
            obtain ⟨p7171, rfl⟩ := hp
            have h7172 := HS.cpS (L2 := L) (o := 0) h7094 (by decide) te7167 p7171
            have ga7173 := ga7096.of (p7171.2 _ (by omega))
            refine m_iinc F (v := nI (k + 1)) (lv' := [(10, .int (nI (k + 1))), (8, .long x7095), (6, .long x7095), (4, .long x7097), (11, .long x7095), (0, .ref c), (2, .int (nI a)), (3, .int (nI b))]) e_X10_chance_235 rfl (nI_add k 1) (by decide) rfl ?_
            refine m_goto F e_X10_chance_238 ?_
            refine Wm.lvsub (lv' := [(0, .ref c), (2, .int (nI a)), (3, .int (nI b)), (4, .long x7097), (6, .long x7095), (8, .long x7095), (10, .int (nI (k + 1)))]) ?_ [5, 6, 7, 3, 2, 1, 0] rfl
            exact hO a b x7097 x7095 x7095 (k + 1) _ h7172 ⟨by omega, by omega, by omega, by omega, by assumption⟩ (by omega)
          · have c202 : k ≠ 0 := by have hh := mt (nI_eq (a := k) (b := 0) (by omega) (by omega)).mpr q202; omega
            refine m_lload F rfl e_X10_chance_205 ?_
            refine m_lload F rfl e_X10_chance_207 ?_
            refine m_lcmp F e_X10_chance_209 ?_
            refine Wm.top (fun x7174 _ => ?_)
            refine m_if_ge F e_X10_chance_210 (fun q210 => ?_) (fun q210 => ?_)
            · obtain ⟨n7175, hn7175, rfl⟩ := nI_nn (x := x7174) (fun e => Int32.lt_irrefl (Int32.lt_of_lt_of_le e (Int32.le_trans (by decide) q210)))
              have c210 : n7175 ≥ 0 := (nI_leI (a := 0) (b := n7175) (by omega) (by omega)).mp q210
              refine m_lload F rfl e_X10_chance_218 ?_
              refine m_lstore F (lv' := [(8, .long w3), (6, .long x7095), (4, .long x7097), (11, .long x7095), (0, .ref c), (2, .int (nI a)), (3, .int (nI b)), (10, .int (nI k))]) e_X10_chance_220 (by decide) rfl ?_
              refine m_aload_n F rfl e_X10_chance_222 ?_
              refine r_get F e_X10_chance_223 fl_X10_66 h7094 rfl (fun v hv f7176 => ?_)
              obtain rfl : v = .ref (c + 18) := hv
              refine m_iconst F (v := 0) (by decide) e_X10_chance_226 ?_
              refine m_aload_n F rfl e_X10_chance_227 ?_
              refine r_get F e_X10_chance_228 fl_X10_59 h7094 rfl (fun v hv f7177 => ?_)
              obtain rfl : v = .ref (c + 16) := hv
              refine m_iconst F (v := 0) (by decide) e_X10_chance_231 ?_
              have xe7179 := ga7096
              obtain ⟨f7178, e7179, te7179⟩ := xe7179
              obtain ⟨g7180, e7181, te7181⟩ : ∃ f, σ7092 (c + 16) = some (aJ V 1113 f) ∧ _ := h7094.1.cell (k := 16) (by decide)
              refine m_callS F e_X10_chance_232 (q_copies (x_l X) V _ _ (c + 18) (c + 16) 1113 1113 0 0 f7178 g7180 e7179 e7181 (by omega) (by omega) (by omega) (by omega)) cb_X10_copies ml_X10_230 sm_X10_copies rfl (rest := []) rfl (Nat.le_of_ble_eq_true rfl) ⟨Nat.le_of_ble_eq_true rfl, Nat.le_of_ble_eq_true rfl⟩ ⟨Nat.le_of_ble_eq_true rfl, Nat.le_of_ble_eq_true rfl⟩ (k' := 0) (z' := 0) (N' := N) rfl rfl rfl (fun r σ7182 hp => ?_)
              obtain ⟨p7183, rfl⟩ := hp
              have h7184 := HS.cpS (L2 := L) (o := 0) h7094 (by decide) te7179 p7183
              have ga7185 := ga7096.of (p7183.2 _ (by omega))
              refine m_iinc F (v := nI (k + 1)) (lv' := [(10, .int (nI (k + 1))), (8, .long w3), (6, .long x7095), (4, .long x7097), (11, .long x7095), (0, .ref c), (2, .int (nI a)), (3, .int (nI b))]) e_X10_chance_235 rfl (nI_add k 1) (by decide) rfl ?_
              refine m_goto F e_X10_chance_238 ?_
              refine Wm.lvsub (lv' := [(0, .ref c), (2, .int (nI a)), (3, .int (nI b)), (4, .long x7097), (6, .long x7095), (8, .long w3), (10, .int (nI (k + 1)))]) ?_ [5, 6, 7, 3, 2, 1, 0] rfl
              exact hO a b x7097 x7095 w3 (k + 1) _ h7184 ⟨by omega, by omega, by omega, by omega, by assumption⟩ (by omega)
            · refine m_lload F rfl e_X10_chance_213 ?_
              refine m_goto F e_X10_chance_215 ?_
              refine m_lstore F (lv' := [(8, .long x7095), (6, .long x7095), (4, .long x7097), (11, .long x7095), (0, .ref c), (2, .int (nI a)), (3, .int (nI b)), (10, .int (nI k))]) e_X10_chance_220 (by decide) rfl ?_
              refine m_aload_n F rfl e_X10_chance_222 ?_
              refine r_get F e_X10_chance_223 fl_X10_66 h7094 rfl (fun v hv f7186 => ?_)
              obtain rfl : v = .ref (c + 18) := hv
              refine m_iconst F (v := 0) (by decide) e_X10_chance_226 ?_
              refine m_aload_n F rfl e_X10_chance_227 ?_
              refine r_get F e_X10_chance_228 fl_X10_59 h7094 rfl (fun v hv f7187 => ?_)
              obtain rfl : v = .ref (c + 16) := hv
              refine m_iconst F (v := 0) (by decide) e_X10_chance_231 ?_
              have xe7189 := ga7096
              obtain ⟨f7188, e7189, te7189⟩ := xe7189
              obtain ⟨g7190, e7191, te7191⟩ : ∃ f, σ7092 (c + 16) = some (aJ V 1113 f) ∧ _ := h7094.1.cell (k := 16) (by decide)
              refine m_callS F e_X10_chance_232 (q_copies (x_l X) V _ _ (c + 18) (c + 16) 1113 1113 0 0 f7188 g7190 e7189 e7191 (by omega) (by omega) (by omega) (by omega)) cb_X10_copies ml_X10_230 sm_X10_copies rfl (rest := []) rfl (Nat.le_of_ble_eq_true rfl) ⟨Nat.le_of_ble_eq_true rfl, Nat.le_of_ble_eq_true rfl⟩ ⟨Nat.le_of_ble_eq_true rfl, Nat.le_of_ble_eq_true rfl⟩ (k' := 0) (z' := 0) (N' := N) rfl rfl rfl (fun r σ7192 hp => ?_)
              obtain ⟨p7193, rfl⟩ := hp
              have h7194 := HS.cpS (L2 := L) (o := 0) h7094 (by decide) te7189 p7193
              have ga7195 := ga7096.of (p7193.2 _ (by omega))
              refine m_iinc F (v := nI (k + 1)) (lv' := [(10, .int (nI (k + 1))), (8, .long x7095), (6, .long x7095), (4, .long x7097), (11, .long x7095), (0, .ref c), (2, .int (nI a)), (3, .int (nI b))]) e_X10_chance_235 rfl (nI_add k 1) (by decide) rfl ?_
              refine m_goto F e_X10_chance_238 ?_
              refine Wm.lvsub (lv' := [(0, .ref c), (2, .int (nI a)), (3, .int (nI b)), (4, .long x7097), (6, .long x7095), (8, .long x7095), (10, .int (nI (k + 1)))]) ?_ [5, 6, 7, 3, 2, 1, 0] rfl
              exact hO a b x7097 x7095 x7095 (k + 1) _ h7194 ⟨by omega, by omega, by omega, by omega, by assumption⟩ (by omega)
    · have c129 : p < 12 := by have hh := mt (nI_leI (a := 12) (b := p) (by omega) (by omega)).mpr q129; omega
      refine m_aload_n F rfl e_X10_chance_132 ?_
      refine m_aload_n F rfl e_X10_chance_133 ?_
      refine r_callV F e_X10_chance_134 (q_X10_indexNow (x_l X) V c T Z u h P L1 _ _  h1.1 (hok1.b) hP ) cb_X10_indexNow ml_X10_260 im_X10_indexNow se_X10_indexNow h1 rfl rfl (rest := [.ref c]) rfl (Nat.le_of_ble_eq_true rfl) ⟨Nat.le_of_ble_eq_true rfl, Nat.le_of_ble_eq_true rfl⟩ ⟨Nat.le_of_ble_eq_true rfl, Nat.le_of_ble_eq_true rfl⟩ (fun r σ7196 hp => ?_)
      obtain ⟨h7197, n7199, hn7199, gn7199, rfl⟩ := hp
      have h7198 := HS.trans h1 h7197 (by decide)
      have ga7200 := ga0.of (h7197.2 (c + 18) (by rw [kC_at (k := 18) (by decide)]; decide))
      refine m_aload_n F rfl e_X10_chance_137 ?_
      refine m_bipush F (v := 21) (by decide) e_X10_chance_138 ?_
      refine r_callV F e_X10_chance_140 (q_X10_draw (x_l X) V c T Z u h P L1 _ _ 21 h7198.1 (hok1.b) hP (by omega) (by first | omega | assumption | decide)) cb_X10_draw ml_X10_364 im_X10_draw se_X10_draw h7198 rfl rfl (rest := [.long (lN n7199), .ref c]) rfl (Nat.le_of_ble_eq_true rfl) ⟨Nat.le_of_ble_eq_true rfl, Nat.le_of_ble_eq_true rfl⟩ ⟨Nat.le_of_ble_eq_true rfl, Nat.le_of_ble_eq_true rfl⟩ (fun r σ7201 hp => ?_)
      obtain ⟨h7202, x7204, rfl⟩ := hp
      have h7203 := HS.trans h7198 h7202 (by decide)
      have ga7205 := ga7200.of (h7202.2 (c + 18) (by rw [kC_at (k := 18) (by decide)]; decide))
      refine m_i2l F e_X10_chance_143 ?_
      refine Wm.topl (fun x7206 _ => ?_)
      refine m_ladd F e_X10_chance_144 ?_
      refine Wm.topl (fun x7207 _ => ?_)
      refine m_ldc2 F kc_X10_367 e_X10_chance_145 ?_
      refine m_lsub F e_X10_chance_148 ?_
      refine Wm.topl (fun x7208 _ => ?_)
      refine m_callS F e_X10_chance_149 (q_X10_held (x_l X) V _ _ x7208 ) cb_X10_held ml_X10_369 sm_X10_held rfl (rest := [.ref c]) rfl (Nat.le_of_ble_eq_true rfl) ⟨Nat.le_of_ble_eq_true rfl, Nat.le_of_ble_eq_true rfl⟩ ⟨Nat.le_of_ble_eq_true rfl, Nat.le_of_ble_eq_true rfl⟩ (k' := 0) (z' := 0) (N' := N) rfl rfl rfl (fun r σ7209 hp => ?_)
      obtain ⟨rfl, n7212, gn7212, hn7212, rfl⟩ := hp
      refine r_callV F e_X10_chance_152 (q_X10_becomes (x_l X) V c T Z u h P L1 _ _ n7212 h7203.1 (hok1.b) hP (by omega) (by first | omega | assumption | decide)) cb_X10_becomes ml_X10_322 im_X10_becomes se_X10_becomes h7203 rfl rfl (rest := []) rfl (Nat.le_of_ble_eq_true rfl) ⟨Nat.le_of_ble_eq_true rfl, Nat.le_of_ble_eq_true rfl⟩ ⟨Nat.le_of_ble_eq_true rfl, Nat.le_of_ble_eq_true rfl⟩ (fun r σ7213 hp => ?_)
      obtain ⟨h7214, rfl⟩ := hp
      have h7215 := HS.trans h7203 h7214 (by decide)
      have ga7216 := ga7205.of (h7214.2 (c + 18) (by rw [kC_at (k := 18) (by decide)]; decide))
      refine m_aload_n F rfl e_X10_chance_155 ?_
      refine r_callV F e_X10_chance_156 (q_X10_periodGoes (x_l X) V c T Z u h P L1 _ _  h7215.1 (hok1) hP (by first | omega | assumption | decide)) cb_X10_periodGoes ml_X10_289 im_X10_periodGoes se_X10_periodGoes h7215 rfl rfl (rest := []) rfl (Nat.le_of_ble_eq_true rfl) ⟨Nat.le_of_ble_eq_true rfl, Nat.le_of_ble_eq_true rfl⟩ ⟨Nat.le_of_ble_eq_true rfl, Nat.le_of_ble_eq_true rfl⟩ (fun r σ7217 hp => ?_)
      obtain ⟨L7220, okL7220, r7221, h7218, rfl⟩ := hp
      have h7219 := HS.trans h7215 h7218 (by decide)
      have ga7222 := ga7216.of (h7218.2 (c + 18) (by rw [kC_at (k := 18) (by decide)]; decide))
      refine m_iinc F (v := nI (p + 1)) (lv' := [(11, .int (nI (p + 1))), (0, .ref c), (2, .int (nI a)), (3, .int (nI b)), (4, .long w1), (6, .long w2), (8, .long w3), (10, .int (nI k))]) e_X10_chance_159 rfl (nI_add p 1) (by decide) rfl ?_
      refine m_goto F e_X10_chance_162 ?_
      refine Wm.lvsub (lv' := [(0, .ref c), (2, .int (nI a)), (3, .int (nI b)), (4, .long w1), (6, .long w2), (8, .long w3), (10, .int (nI k)), (11, .int (nI (p + 1)))]) ?_ [1, 2, 3, 4, 5, 6, 7, 0] rfl
      exact ih a b w1 w2 w3 k (p + 1) L7220 _ h7219 okL7220 ⟨by omega, by omega, by omega, by omega, by omega, by omega, by omega, by assumption⟩ (by omega)
set_option maxRecDepth 20000 in
theorem lq_X10_chance_116 {V : VX} {X : MX} {N : Nat} {σ : Mem} {c T Z u h : Nat} {P : NP} {L : Nat → LQ}   (F : Fx V X yX10_chance cX10_chance 13 (some .long) (rmd 4 0 0)) (hQ : Rt V X 0 0 N (fun r τ => HS V c (⟨T, Z, u, h, P, L⟩ : RG) [0, 2, 3, 4, 5, 6, 7, 8, 9, 10, 11, 12, 13, 14, 15, 16, 18, 20, 21, 22] σ τ ∧ ∃ x : Int64, r = some (.long x))) (hok : OKL P.n0 L) (hP : OKP P)   : ∀ (fuel : Nat) (a : Nat) (b : Nat) (w1 : Int64) (w2 : Int64) (w3 : Int64) (k : Nat) (τ : Mem), HS V c (⟨T, Z, u, h, P, L⟩ : RG) [0, 2, 3, 4, 5, 6, 7, 8, 9, 10, 11, 12, 13, 14, 15, 16, 18, 20, 21, 22] σ τ → a ≤ 10 ∧ b ≤ 2 ∧ k ≤ a ∧ (L 4).1 ≤ 87 ∧ GB V c 18 1113 0 L τ → a - k < fuel → Wm V X 13 N τ 0 0 116 [(0, .ref c), (2, .int (nI a)), (3, .int (nI b)), (4, .long w1), (6, .long w2), (8, .long w3), (10, .int (nI k))] [] := by
  intro fuel
  induction fuel with
  | zero => intros; rename_i hm; exact absurd hm (Nat.not_lt_zero _)
  | succ fuel ih =>
    intro a b w1 w2 w3 k τ h1 hi hm
    have hPP := hP
    unfold OKP at hPP
    have ga0 := hi.2.2.2.2
    refine m_iload F rfl e_X10_chance_116 ?_
    refine m_iload_n F rfl e_X10_chance_118 ?_
    refine m_icmp_ge F e_X10_chance_119 (fun q119 => ?_) (fun q119 => ?_)
    · have c119 : k ≥ a := (nI_leI (a := a) (b := k) (by omega) (by omega)).mp q119
      refine m_iload_n F rfl e_X10_chance_241 ?_
      refine m_if_ne F e_X10_chance_242 (fun q242 => ?_) (fun q242 => ?_)
      · have c242 : b ≠ 0 := by have hh := mt (nI_eq (a := b) (b := 0) (by omega) (by omega)).mpr q242; omega
        refine m_iload_n F rfl e_X10_chance_250 ?_
        refine m_iconst F (v := 1) (by decide) e_X10_chance_251 ?_
        refine m_icmp_ne F e_X10_chance_252 (fun q252 => ?_) (fun q252 => ?_)
        · have c252 : b ≠ 1 := by have hh := mt (nI_eq (a := b) (b := 1) (by omega) (by omega)).mpr q252; omega
          refine m_lload F rfl e_X10_chance_260 ?_
          exact m_lret F hQ e_X10_chance_262 (⟨h1, _, rfl⟩)
        · have c252 : b = 1 := (nI_eq (a := b) (b := 1) (by omega) (by omega)).mp q252
          refine m_lload F rfl e_X10_chance_255 ?_
          refine m_goto F e_X10_chance_257 ?_
          exact m_lret F hQ e_X10_chance_262 (⟨h1, _, rfl⟩)
      · have c242 : b = 0 := (nI_eq (a := b) (b := 0) (by omega) (by omega)).mp q242
        refine m_lload F rfl e_X10_chance_245 ?_
        refine m_goto F e_X10_chance_247 ?_
        exact m_lret F hQ e_X10_chance_262 (⟨h1, _, rfl⟩)
    · have c119 : k < a := by have hh := mt (nI_leI (a := a) (b := k) (by omega) (by omega)).mpr q119; omega
      refine m_iconst F (v := 0) (by decide) e_X10_chance_122 ?_
      refine m_istore F (lv' := [(11, .int 0), (0, .ref c), (2, .int (nI a)), (3, .int (nI b)), (4, .long w1), (6, .long w2), (8, .long w3), (10, .int (nI k))]) e_X10_chance_123 (by decide) rfl ?_
      refine Wm.lvsub (lv' := [(0, .ref c), (2, .int (nI a)), (3, .int (nI b)), (4, .long w1), (6, .long w2), (8, .long w3), (10, .int (nI k)), (11, .int 0)]) ?_ [1, 2, 3, 4, 5, 6, 7, 0] rfl
      exact lq_X10_chance_125 F hQ hok hP  ih (12 - 0 + 1) a b w1 w2 w3 k 0 L _ h1 hok ⟨by omega, by omega, by omega, by omega, by omega, by omega, by omega, by assumption⟩ (Nat.lt_succ_self _)
set_option maxRecDepth 20000 in
theorem q_X10_chance (l : Launch) (V : VX) (c T Z u h : Nat) (P : NP) (L : Nat → LQ) (N : Nat) (σ : Mem) (x901 : Int32) (x902 : Int32) (x903 : Int32) (h0 : HR V c ⟨T, Z, u, h, P, L⟩ σ) (hok : OKL P.n0 L) (hP : OKP P)  : Ct l V yX10_chance cX10_chance 13 (some .long) 4 0 0 N σ [.ref c, .int x901, .int x902, .int x903] (fun r τ => HS V c (⟨T, Z, u, h, P, L⟩ : RG) [0, 2, 3, 4, 5, 6, 7, 8, 9, 10, 11, 12, 13, 14, 15, 16, 18, 20, 21, 22] σ τ ∧ ∃ x : Int64, r = some (.long x)) := by
  refine Ct.of (by decide) (Nat.le_of_ble_eq_true rfl) [(0, .ref c), (1, .int x901), (2, .int x902), (3, .int x903)] rfl (fun X hX F hQ => ?_)
  have hPP := hP
  unfold OKP at hPP
  have h1 : HS V c ⟨T, Z, u, h, P, L⟩ [0, 2, 3, 4, 5, 6, 7, 8, 9, 10, 11, 12, 13, 14, 15, 16, 18, 20, 21, 22] σ σ := HS.start h0
  refine m_aload_n F rfl e_X10_chance_0 ?_
  refine m_iconst F (v := 0) (by decide) e_X10_chance_1 ?_
  refine r_put F (g' := (⟨T, Z, u, h, P, L⟩ : RG)) e_X10_chance_2 fp_X10_91 h1 (by decide) ⟨_, rfl⟩ (fun _ _ _ _ q => q) (fun _ _ _ q => q) rfl rfl (by decide) (fun σ7223 h7224 g7225 g7226 f7227 => ?_)
  refine m_iload_n F rfl e_X10_chance_5 ?_
  refine m_iconst F (v := (-1)) (by decide) e_X10_chance_6 ?_
  refine m_icmp_lt F e_X10_chance_7 (fun q7 => ?_) (fun q7 => ?_)
  · refine m_ldc2 F kc_X10_245 e_X10_chance_30 ?_
    exact m_lret F hQ e_X10_chance_33 (⟨h7224, _, rfl⟩)
  · refine m_iload_n F rfl e_X10_chance_10 ?_
    refine m_iconst F (v := 1) (by decide) e_X10_chance_11 ?_
    refine m_icmp_lt F e_X10_chance_12 (fun q12 => ?_) (fun q12 => ?_)
    · refine m_ldc2 F kc_X10_245 e_X10_chance_30 ?_
      exact m_lret F hQ e_X10_chance_33 (⟨h7224, _, rfl⟩)
    · obtain ⟨n7228, hn7228, rfl⟩ := nI_nn (x := x902) (fun e => q12 (Int32.lt_of_lt_of_le e (by decide)))
      have c12 : n7228 ≥ 1 := by have hh := mt (nI_ltI (a := n7228) (b := 1) (by omega) (by omega)).mpr q12; omega
      refine m_iload_n F rfl e_X10_chance_15 ?_
      refine m_bipush F (v := 10) (by decide) e_X10_chance_16 ?_
      refine m_icmp_gt F e_X10_chance_18 (fun q18 => ?_) (fun q18 => ?_)
      · have c18 : n7228 > 10 := (nI_ltI (a := 10) (b := n7228) (by omega) (by omega)).mp q18
        refine m_ldc2 F kc_X10_245 e_X10_chance_30 ?_
        exact m_lret F hQ e_X10_chance_33 (⟨h7224, _, rfl⟩)
      · have c18 : n7228 ≤ 10 := by have hh := mt (nI_ltI (a := 10) (b := n7228) (by omega) (by omega)).mpr q18; omega
        refine m_iload_n F rfl e_X10_chance_21 ?_
        refine m_if_lt F e_X10_chance_22 (fun q22 => ?_) (fun q22 => ?_)
        · refine m_ldc2 F kc_X10_245 e_X10_chance_30 ?_
          exact m_lret F hQ e_X10_chance_33 (⟨h7224, _, rfl⟩)
        · obtain ⟨n7229, hn7229, rfl⟩ := nI_nn (x := x903) (fun e => q22 (Int32.lt_of_lt_of_le e (by decide)))
          have c22 : n7229 ≥ 0 := by have hh := mt (nI_ltI (a := n7229) (b := 0) (by omega) (by omega)).mpr q22; omega
          refine m_iload_n F rfl e_X10_chance_25 ?_
          refine m_iconst F (v := 2) (by decide) e_X10_chance_26 ?_
          refine m_icmp_le F e_X10_chance_27 (fun q27 => ?_) (fun q27 => ?_)
          · have c27 : n7229 ≤ 2 := (nI_leI (a := n7229) (b := 2) (by omega) (by omega)).mp q27
            refine m_aload_n F rfl e_X10_chance_34 ?_
            refine r_get F e_X10_chance_35 fl_X10_59 h7224 rfl (fun v hv f7230 => ?_)
            obtain rfl : v = .ref (c + 16) := hv
            refine m_sipush F (v := 744) (by decide) e_X10_chance_38 ?_
            refine r_sld F (j := 744) e_X10_chance_41 h7224 (by decide) (by unfold vp_in; decide) (fun x7231 h7232 f7233 => ?_)
            have hl7234 := hok.1
            obtain rfl : x7231 = lN (L 4).1 := EJ_p.mp h7232
            refine m_ldc2 F kc_X10_362 e_X10_chance_42 ?_
            refine m_ladd F e_X10_chance_45 ?_
            refine Wm.toplE (w := lN ((L 4).1 + 12)) (lN_add ((L 4).1) 12) ?_
            refine m_ldc2 F kc_X10_284 e_X10_chance_46 ?_
            refine m_lcmp F e_X10_chance_49 ?_
            refine m_if_le F e_X10_chance_50 (fun q50 => ?_) (fun q50 => ?_)
            · have c50 : ((L 4).1 + 12) ≤ 99 := (lN_le (a := ((L 4).1 + 12)) (b := 99) (by omega) (by omega)).mp ((lg_cmp_le _ _).mp q50)
              refine m_aload_n F rfl e_X10_chance_57 ?_
              refine m_iload_n F rfl e_X10_chance_58 ?_
              refine m_iconst F (v := (-1)) (by decide) e_X10_chance_59 ?_
              refine m_icmp_ne F e_X10_chance_60 (fun q60 => ?_) (fun q60 => ?_)
              · refine m_iload_n F rfl e_X10_chance_87 ?_
                refine r_put F (g' := (⟨T, Z, u, h, P, L⟩ : RG)) e_X10_chance_88 fp_X10_353 h7224 (by decide) ⟨_, rfl⟩ (fun _ _ _ _ q => q) (fun _ _ _ q => q) rfl rfl (by decide) (fun σ7235 h7236 g7237 g7238 f7239 => ?_)
                refine m_lconst F (v := 0) (by decide) e_X10_chance_91 ?_
                refine m_lstore F (lv' := [(4, .long 0), (0, .ref c), (1, .int x901), (2, .int (nI n7228)), (3, .int (nI n7229))]) e_X10_chance_92 (by decide) rfl ?_
                refine m_lconst F (v := 0) (by decide) e_X10_chance_94 ?_
                refine m_lstore F (lv' := [(6, .long 0), (4, .long 0), (0, .ref c), (1, .int x901), (2, .int (nI n7228)), (3, .int (nI n7229))]) e_X10_chance_95 (by decide) rfl ?_
                refine m_lconst F (v := 0) (by decide) e_X10_chance_97 ?_
                refine m_lstore F (lv' := [(8, .long 0), (6, .long 0), (4, .long 0), (0, .ref c), (1, .int x901), (2, .int (nI n7228)), (3, .int (nI n7229))]) e_X10_chance_98 (by decide) rfl ?_
                refine m_aload_n F rfl e_X10_chance_100 ?_
                refine r_getC F e_X10_chance_101 fl_X10_59 h7236 ((g7238 27 (by decide)).trans f7230) ?_
                refine m_iconst F (v := 0) (by decide) e_X10_chance_104 ?_
                refine m_aload_n F rfl e_X10_chance_105 ?_
                refine r_get F e_X10_chance_106 fl_X10_66 h7236 rfl (fun v hv f7240 => ?_)
                obtain rfl : v = .ref (c + 18) := hv
                refine m_iconst F (v := 0) (by decide) e_X10_chance_109 ?_
                obtain ⟨f7241, e7242, te7242⟩ : ∃ f, σ7235 (c + 16) = some (aJ V 1113 f) ∧ ∀ i, i < 1113 → EJ L i (f i) := h7236.1.cell (k := 16) (by decide)
                obtain ⟨g7243, e7244⟩ : ∃ f, σ7235 (c + 18) = some (aJ V 1113 f) := h7236.1.cell (k := 18) (by decide)
                refine m_callS F e_X10_chance_110 (q_copies (x_l X) V _ _ (c + 16) (c + 18) 1113 1113 0 0 f7241 g7243 e7242 e7244 (by omega) (by omega) (by omega) (by omega)) cb_X10_copies ml_X10_230 sm_X10_copies rfl (rest := []) rfl (Nat.le_of_ble_eq_true rfl) ⟨Nat.le_of_ble_eq_true rfl, Nat.le_of_ble_eq_true rfl⟩ ⟨Nat.le_of_ble_eq_true rfl, Nat.le_of_ble_eq_true rfl⟩ (k' := 0) (z' := 0) (N' := N) rfl rfl rfl (fun r σ7245 hp => ?_)
                obtain ⟨p7246, rfl⟩ := hp
                have h7247 := HS.cp (k := 18) (g' := (⟨T, Z, u, h, P, L⟩ : RG)) h7236 p7246 (by decide) (by decide) ⟨_, rfl⟩ (fun _ _ _ q => q)
                have ga7248 : GB V c 18 1113 0 L σ7245 := ⟨_, p7246.1, fun i hi => by rw [show 0 + i = i from Nat.zero_add i, cpy_at0 hi, Nat.zero_add]; exact te7242 i hi⟩
                refine m_iconst F (v := 0) (by decide) e_X10_chance_113 ?_
                refine m_istore F (lv' := [(10, .int 0), (8, .long 0), (6, .long 0), (4, .long 0), (0, .ref c), (1, .int x901), (2, .int (nI n7228)), (3, .int (nI n7229))]) e_X10_chance_114 (by decide) rfl ?_
                refine Wm.lvsub (lv' := [(0, .ref c), (2, .int (nI n7228)), (3, .int (nI n7229)), (4, .long 0), (6, .long 0), (8, .long 0), (10, .int 0)]) ?_ [4, 6, 7, 3, 2, 1, 0] rfl
                exact lq_X10_chance_116 F hQ hok hP  (n7228 - 0 + 1) n7228 n7229 0 0 0 0 _ h7247 ⟨by omega, by omega, by omega, by omega, by assumption⟩ (Nat.lt_succ_self _)
              · subst q60
                refine m_aload_n F rfl e_X10_chance_63 ?_
                refine r_get F e_X10_chance_64 fl_X10_13 h7224 rfl (fun v hv f7249 => ?_)
                obtain rfl : v = .ref (c + 2) := hv
                refine m_iconst F (v := 4) (by decide) e_X10_chance_67 ?_
                refine r_iald F (len := 10) (j := 4) e_X10_chance_68 h7224 (fun _ h => h) (by decide) (by decide) (by unfold vp_in; decide) (fun x7250 h7251 f7252 => ?_)
                refine m_if_ne F e_X10_chance_69 (fun q69 => ?_) (fun q69 => ?_)
                · refine m_aload_n F rfl e_X10_chance_76 ?_
                  refine r_getC F e_X10_chance_77 fl_X10_13 h7224 (f7249) ?_
                  refine m_iconst F (v := 4) (by decide) e_X10_chance_80 ?_
                  refine r_iald F (len := 10) (j := 4) e_X10_chance_81 h7224 (fun _ h => h) (by decide) (by decide) (by unfold vp_in; decide) (fun x7253 h7254 f7255 => ?_)
                  obtain rfl := Option.some.inj ((f7255).symm.trans (f7252))
                  refine m_iconst F (v := 1) (by decide) e_X10_chance_82 ?_
                  refine m_isub F e_X10_chance_83 ?_
                  refine Wm.top (fun x7256 _ => ?_)
                  refine m_goto F e_X10_chance_84 ?_
                  refine r_put F (g' := (⟨T, Z, u, h, P, L⟩ : RG)) e_X10_chance_88 fp_X10_353 h7224 (by decide) ⟨_, rfl⟩ (fun _ _ _ _ q => q) (fun _ _ _ q => q) rfl rfl (by decide) (fun σ7257 h7258 g7259 g7260 f7261 => ?_)
                  refine m_lconst F (v := 0) (by decide) e_X10_chance_91 ?_
                  refine m_lstore F (lv' := [(4, .long 0), (0, .ref c), (1, .int (-1)), (2, .int (nI n7228)), (3, .int (nI n7229))]) e_X10_chance_92 (by decide) rfl ?_
                  refine m_lconst F (v := 0) (by decide) e_X10_chance_94 ?_
                  refine m_lstore F (lv' := [(6, .long 0), (4, .long 0), (0, .ref c), (1, .int (-1)), (2, .int (nI n7228)), (3, .int (nI n7229))]) e_X10_chance_95 (by decide) rfl ?_
                  refine m_lconst F (v := 0) (by decide) e_X10_chance_97 ?_
                  refine m_lstore F (lv' := [(8, .long 0), (6, .long 0), (4, .long 0), (0, .ref c), (1, .int (-1)), (2, .int (nI n7228)), (3, .int (nI n7229))]) e_X10_chance_98 (by decide) rfl ?_
                  refine m_aload_n F rfl e_X10_chance_100 ?_
                  refine r_getC F e_X10_chance_101 fl_X10_59 h7258 ((g7260 27 (by decide)).trans f7230) ?_
                  refine m_iconst F (v := 0) (by decide) e_X10_chance_104 ?_
                  refine m_aload_n F rfl e_X10_chance_105 ?_
                  refine r_get F e_X10_chance_106 fl_X10_66 h7258 rfl (fun v hv f7262 => ?_)
                  obtain rfl : v = .ref (c + 18) := hv
                  refine m_iconst F (v := 0) (by decide) e_X10_chance_109 ?_
                  obtain ⟨f7263, e7264, te7264⟩ : ∃ f, σ7257 (c + 16) = some (aJ V 1113 f) ∧ ∀ i, i < 1113 → EJ L i (f i) := h7258.1.cell (k := 16) (by decide)
                  obtain ⟨g7265, e7266⟩ : ∃ f, σ7257 (c + 18) = some (aJ V 1113 f) := h7258.1.cell (k := 18) (by decide)
                  refine m_callS F e_X10_chance_110 (q_copies (x_l X) V _ _ (c + 16) (c + 18) 1113 1113 0 0 f7263 g7265 e7264 e7266 (by omega) (by omega) (by omega) (by omega)) cb_X10_copies ml_X10_230 sm_X10_copies rfl (rest := []) rfl (Nat.le_of_ble_eq_true rfl) ⟨Nat.le_of_ble_eq_true rfl, Nat.le_of_ble_eq_true rfl⟩ ⟨Nat.le_of_ble_eq_true rfl, Nat.le_of_ble_eq_true rfl⟩ (k' := 0) (z' := 0) (N' := N) rfl rfl rfl (fun r σ7267 hp => ?_)
                  obtain ⟨p7268, rfl⟩ := hp
                  have h7269 := HS.cp (k := 18) (g' := (⟨T, Z, u, h, P, L⟩ : RG)) h7258 p7268 (by decide) (by decide) ⟨_, rfl⟩ (fun _ _ _ q => q)
                  have ga7270 : GB V c 18 1113 0 L σ7267 := ⟨_, p7268.1, fun i hi => by rw [show 0 + i = i from Nat.zero_add i, cpy_at0 hi, Nat.zero_add]; exact te7264 i hi⟩
                  refine m_iconst F (v := 0) (by decide) e_X10_chance_113 ?_
                  refine m_istore F (lv' := [(10, .int 0), (8, .long 0), (6, .long 0), (4, .long 0), (0, .ref c), (1, .int (-1)), (2, .int (nI n7228)), (3, .int (nI n7229))]) e_X10_chance_114 (by decide) rfl ?_
                  refine Wm.lvsub (lv' := [(0, .ref c), (2, .int (nI n7228)), (3, .int (nI n7229)), (4, .long 0), (6, .long 0), (8, .long 0), (10, .int 0)]) ?_ [4, 6, 7, 3, 2, 1, 0] rfl
                  exact lq_X10_chance_116 F hQ hok hP  (n7228 - 0 + 1) n7228 n7229 0 0 0 0 _ h7269 ⟨by omega, by omega, by omega, by omega, by assumption⟩ (Nat.lt_succ_self _)
                · subst q69
                  refine m_iconst F (v := 0) (by decide) e_X10_chance_72 ?_
                  refine m_goto F e_X10_chance_73 ?_
                  refine r_put F (g' := (⟨T, Z, u, h, P, L⟩ : RG)) e_X10_chance_88 fp_X10_353 h7224 (by decide) ⟨_, rfl⟩ (fun _ _ _ _ q => q) (fun _ _ _ q => q) rfl rfl (by decide) (fun σ7271 h7272 g7273 g7274 f7275 => ?_)
                  refine m_lconst F (v := 0) (by decide) e_X10_chance_91 ?_
                  refine m_lstore F (lv' := [(4, .long 0), (0, .ref c), (1, .int (-1)), (2, .int (nI n7228)), (3, .int (nI n7229))]) e_X10_chance_92 (by decide) rfl ?_
                  refine m_lconst F (v := 0) (by decide) e_X10_chance_94 ?_
                  refine m_lstore F (lv' := [(6, .long 0), (4, .long 0), (0, .ref c), (1, .int (-1)), (2, .int (nI n7228)), (3, .int (nI n7229))]) e_X10_chance_95 (by decide) rfl ?_
                  refine m_lconst F (v := 0) (by decide) e_X10_chance_97 ?_
                  refine m_lstore F (lv' := [(8, .long 0), (6, .long 0), (4, .long 0), (0, .ref c), (1, .int (-1)), (2, .int (nI n7228)), (3, .int (nI n7229))]) e_X10_chance_98 (by decide) rfl ?_
                  refine m_aload_n F rfl e_X10_chance_100 ?_
                  refine r_getC F e_X10_chance_101 fl_X10_59 h7272 ((g7274 27 (by decide)).trans f7230) ?_
                  refine m_iconst F (v := 0) (by decide) e_X10_chance_104 ?_
                  refine m_aload_n F rfl e_X10_chance_105 ?_
                  refine r_get F e_X10_chance_106 fl_X10_66 h7272 rfl (fun v hv f7276 => ?_)
                  obtain rfl : v = .ref (c + 18) := hv
                  refine m_iconst F (v := 0) (by decide) e_X10_chance_109 ?_
                  obtain ⟨f7277, e7278, te7278⟩ : ∃ f, σ7271 (c + 16) = some (aJ V 1113 f) ∧ ∀ i, i < 1113 → EJ L i (f i) := h7272.1.cell (k := 16) (by decide)
                  obtain ⟨g7279, e7280⟩ : ∃ f, σ7271 (c + 18) = some (aJ V 1113 f) := h7272.1.cell (k := 18) (by decide)
                  refine m_callS F e_X10_chance_110 (q_copies (x_l X) V _ _ (c + 16) (c + 18) 1113 1113 0 0 f7277 g7279 e7278 e7280 (by omega) (by omega) (by omega) (by omega)) cb_X10_copies ml_X10_230 sm_X10_copies rfl (rest := []) rfl (Nat.le_of_ble_eq_true rfl) ⟨Nat.le_of_ble_eq_true rfl, Nat.le_of_ble_eq_true rfl⟩ ⟨Nat.le_of_ble_eq_true rfl, Nat.le_of_ble_eq_true rfl⟩ (k' := 0) (z' := 0) (N' := N) rfl rfl rfl (fun r σ7281 hp => ?_)
                  obtain ⟨p7282, rfl⟩ := hp
                  have h7283 := HS.cp (k := 18) (g' := (⟨T, Z, u, h, P, L⟩ : RG)) h7272 p7282 (by decide) (by decide) ⟨_, rfl⟩ (fun _ _ _ q => q)
                  have ga7284 : GB V c 18 1113 0 L σ7281 := ⟨_, p7282.1, fun i hi => by rw [show 0 + i = i from Nat.zero_add i, cpy_at0 hi, Nat.zero_add]; exact te7278 i hi⟩
                  refine m_iconst F (v := 0) (by decide) e_X10_chance_113 ?_
                  refine m_istore F (lv' := [(10, .int 0), (8, .long 0), (6, .long 0), (4, .long 0), (0, .ref c), (1, .int (-1)), (2, .int (nI n7228)), (3, .int (nI n7229))]) e_X10_chance_114 (by decide) rfl ?_
                  refine Wm.lvsub (lv' := [(0, .ref c), (2, .int (nI n7228)), (3, .int (nI n7229)), (4, .long 0), (6, .long 0), (8, .long 0), (10, .int 0)]) ?_ [4, 6, 7, 3, 2, 1, 0] rfl
                  exact lq_X10_chance_116 F hQ hok hP  (n7228 - 0 + 1) n7228 n7229 0 0 0 0 _ h7283 ⟨by omega, by omega, by omega, by omega, by assumption⟩ (Nat.lt_succ_self _)
            · have c50 : ((L 4).1 + 12) > 99 := by have hh := mt (fun h9 => (lg_cmp_le (lN ((L 4).1 + 12)) (lN 99)).mpr ((lN_le (a := ((L 4).1 + 12)) (b := 99) (by omega) (by omega)).mpr h9)) q50; omega
              refine m_ldc2 F kc_X10_338 e_X10_chance_53 ?_
              exact m_lret F hQ e_X10_chance_56 (⟨h7224, _, rfl⟩)
          · have c27 : n7229 > 2 := by have hh := mt (nI_leI (a := n7229) (b := 2) (by omega) (by omega)).mpr q27; omega
            refine m_ldc2 F kc_X10_245 e_X10_chance_30 ?_
            exact m_lret F hQ e_X10_chance_33 (⟨h7224, _, rfl⟩)
set_option maxRecDepth 20000 in
theorem q_X10_undo (l : Launch) (V : VX) (c T Z u h : Nat) (P : NP) (L : Nat → LQ) (N : Nat) (σ : Mem)  (h0 : HR V c ⟨T, Z, u, h, P, L⟩ σ) (hok : OKL P.n0 L) (hP : OKP P) (hp0 : u ≤ 20) (hp1 : P.kk = P.n0) : Ct l V yX10_undo cX10_undo 1 (some .int) 1 0 0 N σ [.ref c] (fun r τ => ∃ u9, u9 ≤ 20 ∧ ∃ L9, OKL P.n0 L9 ∧ HS V c (⟨T, Z, u9, h, P, L9⟩ : RG) [0, 2, 3, 4, 5, 6, 7, 8, 9, 10, 11, 12, 13, 14, 15, 16, 18, 19, 20, 21, 22, 23] σ τ ∧ ∃ x : Int32, r = some (.int x)) := by
  refine Ct.of (by decide) (Nat.le_of_ble_eq_true rfl) [(0, .ref c)] rfl (fun X hX F hQ => ?_)
  have hPP := hP
  unfold OKP at hPP
  have h1 : HS V c ⟨T, Z, u, h, P, L⟩ [0, 2, 3, 4, 5, 6, 7, 8, 9, 10, 11, 12, 13, 14, 15, 16, 18, 19, 20, 21, 22, 23] σ σ := HS.start h0
  refine m_aload_n F rfl e_X10_undo_0 ?_
  refine m_iconst F (v := 0) (by decide) e_X10_undo_1 ?_
  refine r_put F (g' := (⟨T, Z, u, h, P, L⟩ : RG)) e_X10_undo_2 fp_X10_91 h1 (by decide) ⟨_, rfl⟩ (fun _ _ _ _ q => q) (fun _ _ _ q => q) rfl rfl (by decide) (fun σ7285 h7286 g7287 g7288 f7289 => ?_)
  refine m_aload_n F rfl e_X10_undo_5 ?_
  refine r_get F e_X10_undo_6 fl_X10_214 h7286 rfl (fun v hv f7290 => ?_)
  obtain rfl : v = .int (nI (u)) := hv
  refine m_if_ne F e_X10_undo_9 (fun q9 => ?_) (fun q9 => ?_)
  · have c9 : u ≠ 0 := by have hh := mt (nI_eq (a := u) (b := 0) (by omega) (by omega)).mpr q9; omega
    obtain ⟨kf, ke, kg⟩ : ∃ f, σ7285 (c + 20) = some (aJ V 22260 f) ∧ ∀ j, j < u → GR P.kk (fun i => f (1113 * j + i)) := h7286.1.cell (k := 20) (by decide)
    obtain ⟨L8, ok8, t8⟩ := kg (u - 1) (by omega)
    rw [hp1] at ok8
    have ga7291 : GB V c 20 22260 (1113 * (u - 1)) L8 σ7285 := ⟨kf, ke, t8⟩
    obtain ⟨kf, ke, kg⟩ : ∃ f, σ7285 (c + 20) = some (aJ V 22260 f) ∧ ∀ j, j < u → GR P.kk (fun i => f (1113 * j + i)) := h7286.1.cell (k := 20) (by decide)
    obtain ⟨L8, ok8, t8⟩ := kg (u - 1) (by omega)
    rw [hp1] at ok8
    have ga7292 : GB V c 20 22260 (1113 * (u - 1)) L8 σ7285 := ⟨kf, ke, t8⟩
    obtain ⟨kf, ke, kg⟩ : ∃ f, σ7285 (c + 20) = some (aJ V 22260 f) ∧ ∀ j, j < u → GR P.kk (fun i => f (1113 * j + i)) := h7286.1.cell (k := 20) (by decide)
    obtain ⟨L8, ok8, t8⟩ := kg (u - 1) (by omega)
    rw [hp1] at ok8
    have ga7293 : GB V c 20 22260 (1113 * (u - 1)) L8 σ7285 := ⟨kf, ke, t8⟩
    refine m_aload_n F rfl e_X10_undo_14 ?_
    refine m_dup F rfl e_X10_undo_15 ?_
    refine r_getC F e_X10_undo_16 fl_X10_214 h7286 (f7290) ?_
    refine m_iconst F (v := 1) (by decide) e_X10_undo_19 ?_
    refine m_isub F e_X10_undo_20 ?_
    refine Wm.topE (w := nI (u - 1)) (pk_sub (a := u) (b := 1) (by omega)) ?_
    refine r_put F (g' := (⟨T, Z, u - 1, h, P, L⟩ : RG)) e_X10_undo_21 fp_X10_214 h7286 (by decide) rfl ctl_u (CR.und (by omega)) rfl rfl (by decide) (fun σ7294 h7295 g7296 g7297 f7298 => ?_)
    have ga7299 := ga7293.of (g7296 _ (by omega))
    refine m_aload_n F rfl e_X10_undo_24 ?_
    refine r_get F e_X10_undo_25 fl_X10_72 h7295 rfl (fun v hv f7300 => ?_)
    obtain rfl : v = .ref (c + 20) := hv
    refine m_sipush F (v := 1113) (by decide) e_X10_undo_28 ?_
    refine m_aload_n F rfl e_X10_undo_31 ?_
    refine r_getC F e_X10_undo_32 fl_X10_214 h7295 (f7298) ?_
    refine m_imul F e_X10_undo_35 ?_
    refine Wm.topE (w := nI (1113 * (u - 1))) (pk_mul 1113 (u - 1)) ?_
    refine m_aload_n F rfl e_X10_undo_36 ?_
    refine r_get F e_X10_undo_37 fl_X10_59 h7295 rfl (fun v hv f7301 => ?_)
    obtain rfl : v = .ref (c + 16) := hv
    refine m_iconst F (v := 0) (by decide) e_X10_undo_40 ?_
    have xe7303 := ga7299
    obtain ⟨f7302, e7303, te7303⟩ := xe7303
    obtain ⟨g7304, e7305, te7305⟩ : ∃ f, σ7294 (c + 16) = some (aJ V 1113 f) ∧ _ := h7295.1.cell (k := 16) (by decide)
    refine m_callS F e_X10_undo_41 (q_copies (x_l X) V _ _ (c + 20) (c + 16) 22260 1113 (1113 * (u - 1)) 0 f7302 g7304 e7303 e7305 (by omega) (by omega) (by omega) (by omega)) cb_X10_copies ml_X10_230 sm_X10_copies rfl (rest := []) rfl (Nat.le_of_ble_eq_true rfl) ⟨Nat.le_of_ble_eq_true rfl, Nat.le_of_ble_eq_true rfl⟩ ⟨Nat.le_of_ble_eq_true rfl, Nat.le_of_ble_eq_true rfl⟩ (k' := 0) (z' := 0) (N' := N) rfl rfl rfl (fun r σ7306 hp => ?_)
    obtain ⟨p7307, rfl⟩ := hp
    have h7308 := HS.cpS (L2 := L8) (o := 1113 * (u - 1)) h7295 (by decide) te7303 p7307
    have ga7309 := ga7299.of (p7307.2 _ (by omega))
    refine m_aload_n F rfl e_X10_undo_44 ?_
    refine r_getC F e_X10_undo_45 fl_X10_214 h7308 ((fld_eq (p7307.2 _ (by omega))).trans f7298) ?_
    exact m_iret F hQ e_X10_undo_48 (⟨u - 1, by omega, L8, ok8, h7308, _, rfl⟩)
  · have c9 : u = 0 := (nI_eq (a := u) (b := 0) (by omega) (by omega)).mp q9
    refine m_iconst F (v := (-1)) (by decide) e_X10_undo_12 ?_
    exact m_iret F hQ e_X10_undo_13 (⟨u, by omega, L, hok, h7286, _, rfl⟩)
set_option maxRecDepth 20000 in
theorem q_X10_keep (l : Launch) (V : VX) (c T Z u h : Nat) (P : NP) (L : Nat → LQ) (N : Nat) (σ : Mem)  (h0 : HR V c ⟨T, Z, u, h, P, L⟩ σ) (hok : OKL P.n0 L) (hP : OKP P) (hp0 : P.kk = P.n0) : Ct l V yX10_keep cX10_keep 1 (some .int) 1 0 0 N σ [.ref c] (fun r τ => HS V c (⟨T, Z, u, 1, P, L⟩ : RG) [0, 2, 3, 4, 5, 6, 7, 8, 9, 10, 11, 12, 13, 14, 15, 16, 17, 18, 19, 21, 22, 23] σ τ ∧ ∃ x : Int32, r = some (.int x)) := by
  refine Ct.of (by decide) (Nat.le_of_ble_eq_true rfl) [(0, .ref c)] rfl (fun X hX F hQ => ?_)
  have hPP := hP
  unfold OKP at hPP
  have h1 : HS V c ⟨T, Z, u, h, P, L⟩ [0, 2, 3, 4, 5, 6, 7, 8, 9, 10, 11, 12, 13, 14, 15, 16, 17, 18, 19, 21, 22, 23] σ σ := HS.start h0
  have hkk := hp0
  refine m_aload_n F rfl e_X10_keep_0 ?_
  refine m_iconst F (v := 0) (by decide) e_X10_keep_1 ?_
  refine r_put F (g' := (⟨T, Z, u, h, P, L⟩ : RG)) e_X10_keep_2 fp_X10_91 h1 (by decide) ⟨_, rfl⟩ (fun _ _ _ _ q => q) (fun _ _ _ q => q) rfl rfl (by decide) (fun σ7310 h7311 g7312 g7313 f7314 => ?_)
  refine m_aload_n F rfl e_X10_keep_5 ?_
  refine r_get F e_X10_keep_6 fl_X10_59 h7311 rfl (fun v hv f7315 => ?_)
  obtain rfl : v = .ref (c + 16) := hv
  refine m_iconst F (v := 0) (by decide) e_X10_keep_9 ?_
  refine m_aload_n F rfl e_X10_keep_10 ?_
  refine r_get F e_X10_keep_11 fl_X10_69 h7311 rfl (fun v hv f7316 => ?_)
  obtain rfl : v = .ref (c + 19) := hv
  refine m_iconst F (v := 0) (by decide) e_X10_keep_14 ?_
  obtain ⟨f7317, e7318, te7318⟩ : ∃ f, σ7310 (c + 16) = some (aJ V 1113 f) ∧ ∀ i, i < 1113 → EJ L i (f i) := h7311.1.cell (k := 16) (by decide)
  obtain ⟨g7319, e7320, te7320⟩ : ∃ f, σ7310 (c + 19) = some (aJ V 1113 f) ∧ _ := h7311.1.cell (k := 19) (by decide)
  refine m_callS F e_X10_keep_15 (q_copies (x_l X) V _ _ (c + 16) (c + 19) 1113 1113 0 0 f7317 g7319 e7318 e7320 (by omega) (by omega) (by omega) (by omega)) cb_X10_copies ml_X10_230 sm_X10_copies rfl (rest := []) rfl (Nat.le_of_ble_eq_true rfl) ⟨Nat.le_of_ble_eq_true rfl, Nat.le_of_ble_eq_true rfl⟩ ⟨Nat.le_of_ble_eq_true rfl, Nat.le_of_ble_eq_true rfl⟩ (k' := 0) (z' := 0) (N' := N) rfl rfl rfl (fun r σ7321 hp => ?_)
  obtain ⟨p7322, rfl⟩ := hp
  have h7323 := HS.cp (k := 19) (g' := (⟨T, Z, u, h, P, L⟩ : RG)) h7311 p7322 (by decide) (by decide) ⟨_, rfl, fun _ => ⟨L, by rw [hkk]; exact hok, fun i hi => by rw [cpy_at0 hi, Nat.zero_add]; exact te7318 i hi⟩⟩ (fun _ _ _ q => q)
  have ga7324 : GB V c 19 1113 0 L σ7321 := ⟨_, p7322.1, fun i hi => by rw [show 0 + i = i from Nat.zero_add i, cpy_at0 hi, Nat.zero_add]; exact te7318 i hi⟩
  refine m_aload_n F rfl e_X10_keep_18 ?_
  refine m_iconst F (v := 1) (by decide) e_X10_keep_19 ?_
  obtain ⟨fs, e1, ty⟩ : ∃ fs, σ7321 c = some (ob 8 fs) ∧ TyO c (⟨T, Z, u, h, P, L⟩ : RG) fs := h7323.1.cell (k := 0) (by decide)
  refine r_putM F (g := (⟨T, Z, u, h, P, L⟩ : RG)) (g' := (⟨T, Z, u, 1, P, L⟩ : RG)) e_X10_keep_20 fp_X10_217 e1 ty h7323.2 (by decide) rfl ctl_h (fun a ha => ?_) (by decide) rfl (by decide) (fun σ7325 h7326 _ _ _ => ?_)
  · by_cases h9 : kC c a = 20
    · have h8 := kC_un (k := 19) h9
      subst h8
      rw [h9]
      obtain ⟨f4, e4, t4⟩ := ga7324
      exact ⟨f4, e4, fun _ => ⟨L, by show OKL P.kk L; rw [hkk]; exact hok, fun i hi => by have h5 := t4 i hi; rw [Nat.zero_add] at h5; exact h5⟩⟩
    · exact CR.himg _ (fun e => ha (by have h8 := kC_un (k := 0) e; omega)) h9 _ (h7323.1 a)
  refine m_aload_n F rfl e_X10_keep_23 ?_
  refine r_get F e_X10_keep_24 fl_X10_59 h7326 rfl (fun v hv f7327 => ?_)
  obtain rfl : v = .ref (c + 16) := hv
  refine m_sipush F (v := 744) (by decide) e_X10_keep_27 ?_
  refine r_sld F (j := 744) e_X10_keep_30 h7326 (by decide) (by unfold vp_in; decide) (fun x7328 h7329 f7330 => ?_)
  have hl7331 := hok.1
  obtain rfl : x7328 = lN (L 4).1 := EJ_p.mp h7329
  refine m_l2i F e_X10_keep_31 ?_
  refine Wm.topE (w := nI ((L 4).1)) (lN_i ((L 4).1)) ?_
  exact m_iret F hQ e_X10_keep_32 (⟨h7326, _, rfl⟩)
set_option maxRecDepth 20000 in
theorem q_X10_back (l : Launch) (V : VX) (c T Z u h : Nat) (P : NP) (L : Nat → LQ) (N : Nat) (σ : Mem)  (h0 : HR V c ⟨T, Z, u, h, P, L⟩ σ) (hok : OKL P.n0 L) (hP : OKP P) (hp0 : h ≤ 1) (hp1 : u ≤ 20) (hp2 : P.kk = P.n0) : Ct l V yX10_back cX10_back 1 (some .int) 1 0 0 N σ [.ref c] (fun r τ => ∃ u9, u9 ≤ 20 ∧ ∃ L9, OKL P.n0 L9 ∧ HS V c (⟨T, Z, u9, h, P, L9⟩ : RG) [0, 2, 3, 4, 5, 6, 7, 8, 9, 10, 11, 12, 13, 14, 15, 16, 18, 19, 20, 21, 22, 23] σ τ ∧ ∃ x : Int32, r = some (.int x)) := by
  refine Ct.of (by decide) (Nat.le_of_ble_eq_true rfl) [(0, .ref c)] rfl (fun X hX F hQ => ?_)
  have hPP := hP
  unfold OKP at hPP
  have h1 : HS V c ⟨T, Z, u, h, P, L⟩ [0, 2, 3, 4, 5, 6, 7, 8, 9, 10, 11, 12, 13, 14, 15, 16, 18, 19, 20, 21, 22, 23] σ σ := HS.start h0
  refine m_aload_n F rfl e_X10_back_0 ?_
  refine m_iconst F (v := 0) (by decide) e_X10_back_1 ?_
  refine r_put F (g' := (⟨T, Z, u, h, P, L⟩ : RG)) e_X10_back_2 fp_X10_91 h1 (by decide) ⟨_, rfl⟩ (fun _ _ _ _ q => q) (fun _ _ _ q => q) rfl rfl (by decide) (fun σ7332 h7333 g7334 g7335 f7336 => ?_)
  refine m_aload_n F rfl e_X10_back_5 ?_
  refine r_get F e_X10_back_6 fl_X10_217 h7333 rfl (fun v hv f7337 => ?_)
  obtain rfl : v = .int (nI (h)) := hv
  refine m_if_ne F e_X10_back_9 (fun q9 => ?_) (fun q9 => ?_)
  · have c9 : h ≠ 0 := by have hh := mt (nI_eq (a := h) (b := 0) (by omega) (by omega)).mpr q9; omega
    obtain ⟨kf, ke, kg⟩ : ∃ f, σ7332 (c + 19) = some (aJ V 1113 f) ∧ (h = 1 → GR P.kk f) := h7333.1.cell (k := 19) (by decide)
    obtain ⟨L8, ok8, t8⟩ := kg (by omega)
    rw [hp2] at ok8
    have ga7338 : GB V c 19 1113 0 L8 σ7332 := ⟨kf, ke, fun i hi => by rw [Nat.zero_add]; exact t8 i hi⟩
    obtain ⟨kf, ke, kg⟩ : ∃ f, σ7332 (c + 19) = some (aJ V 1113 f) ∧ (h = 1 → GR P.kk f) := h7333.1.cell (k := 19) (by decide)
    obtain ⟨L8, ok8, t8⟩ := kg (by omega)
    rw [hp2] at ok8
    have ga7339 : GB V c 19 1113 0 L8 σ7332 := ⟨kf, ke, fun i hi => by rw [Nat.zero_add]; exact t8 i hi⟩
    obtain ⟨kf, ke, kg⟩ : ∃ f, σ7332 (c + 19) = some (aJ V 1113 f) ∧ (h = 1 → GR P.kk f) := h7333.1.cell (k := 19) (by decide)
    obtain ⟨L8, ok8, t8⟩ := kg (by omega)
    rw [hp2] at ok8
    have ga7340 : GB V c 19 1113 0 L8 σ7332 := ⟨kf, ke, fun i hi => by rw [Nat.zero_add]; exact t8 i hi⟩
    refine m_aload_n F rfl e_X10_back_14 ?_
    refine r_get F e_X10_back_15 fl_X10_69 h7333 rfl (fun v hv f7341 => ?_)
    obtain rfl : v = .ref (c + 19) := hv
    refine m_iconst F (v := 0) (by decide) e_X10_back_18 ?_
    refine m_aload_n F rfl e_X10_back_19 ?_
    refine r_get F e_X10_back_20 fl_X10_59 h7333 rfl (fun v hv f7342 => ?_)
    obtain rfl : v = .ref (c + 16) := hv
    refine m_iconst F (v := 0) (by decide) e_X10_back_23 ?_
    have xe7344 := ga7340
    obtain ⟨f7343, e7344, te7344⟩ := xe7344
    obtain ⟨g7345, e7346, te7346⟩ : ∃ f, σ7332 (c + 16) = some (aJ V 1113 f) ∧ _ := h7333.1.cell (k := 16) (by decide)
    refine m_callS F e_X10_back_24 (q_copies (x_l X) V _ _ (c + 19) (c + 16) 1113 1113 0 0 f7343 g7345 e7344 e7346 (by omega) (by omega) (by omega) (by omega)) cb_X10_copies ml_X10_230 sm_X10_copies rfl (rest := []) rfl (Nat.le_of_ble_eq_true rfl) ⟨Nat.le_of_ble_eq_true rfl, Nat.le_of_ble_eq_true rfl⟩ ⟨Nat.le_of_ble_eq_true rfl, Nat.le_of_ble_eq_true rfl⟩ (k' := 0) (z' := 0) (N' := N) rfl rfl rfl (fun r σ7347 hp => ?_)
    obtain ⟨p7348, rfl⟩ := hp
    have h7349 := HS.cpS (L2 := L8) (o := 0) h7333 (by decide) te7344 p7348
    have ga7350 := ga7340.of (p7348.2 _ (by omega))
    refine m_aload_n F rfl e_X10_back_27 ?_
    refine m_iconst F (v := 0) (by decide) e_X10_back_28 ?_
    refine r_put F (g' := (⟨T, Z, 0, h, P, L8⟩ : RG)) e_X10_back_29 fp_X10_214 h7349 (by decide) rfl ctl_u (CR.und (Nat.zero_le _)) rfl rfl (by decide) (fun σ7351 h7352 g7353 g7354 f7355 => ?_)
    have ga7356 := ga7350.of (g7353 _ (by omega))
    refine m_aload_n F rfl e_X10_back_32 ?_
    refine r_getC F e_X10_back_33 fl_X10_59 h7352 ((g7354 27 (by decide)).trans ((fld_eq (p7348.2 _ (by omega))).trans f7342)) ?_
    refine m_sipush F (v := 744) (by decide) e_X10_back_36 ?_
    refine r_sld F (j := 744) e_X10_back_39 h7352 (by decide) (by unfold vp_in; decide) (fun x7357 h7358 f7359 => ?_)
    have hl7360 := ok8.1
    obtain rfl : x7357 = lN (L8 4).1 := EJ_p.mp h7358
    refine m_l2i F e_X10_back_40 ?_
    refine Wm.topE (w := nI ((L8 4).1)) (lN_i ((L8 4).1)) ?_
    exact m_iret F hQ e_X10_back_41 (⟨0, by omega, L8, ok8, h7352, _, rfl⟩)
  · have c9 : h = 0 := (nI_eq (a := h) (b := 0) (by omega) (by omega)).mp q9
    refine m_iconst F (v := (-1)) (by decide) e_X10_back_12 ?_
    exact m_iret F hQ e_X10_back_13 (⟨u, by omega, L, hok, h7333, _, rfl⟩)
set_option maxRecDepth 20000 in
theorem q_X10_lease (l : Launch) (V : VX) (c T Z u h : Nat) (P : NP) (L : Nat → LQ) (N : Nat) (σ : Mem) (x901 : Int32) (x902 : Int32) (h0 : HR V c ⟨T, Z, u, h, P, L⟩ σ) (hob : OKB L) (hP : OKP P)  : Ct l V yX10_lease cX10_lease 4 (some .int) 2 0 0 N σ [.ref c, .int x901, .int x902] (fun r τ => HS V c (⟨T, Z, u, h, P, L⟩ : RG) [0, 2, 3, 4, 5, 6, 7, 8, 9, 10, 11, 12, 13, 14, 15, 16, 17, 18, 19, 20, 21, 22, 23] σ τ ∧ ∃ x : Int32, r = some (.int x)) := by
  refine Ct.of (by decide) (Nat.le_of_ble_eq_true rfl) [(0, .ref c), (1, .int x901), (2, .int x902)] rfl (fun X hX F hQ => ?_)
  have hPP := hP
  unfold OKP at hPP
  have h1 : HS V c ⟨T, Z, u, h, P, L⟩ [0, 2, 3, 4, 5, 6, 7, 8, 9, 10, 11, 12, 13, 14, 15, 16, 17, 18, 19, 20, 21, 22, 23] σ σ := HS.start h0
  refine m_aload_n F rfl e_X10_lease_0 ?_
  refine m_iconst F (v := 0) (by decide) e_X10_lease_1 ?_
  refine r_put F (g' := (⟨T, Z, u, h, P, L⟩ : RG)) e_X10_lease_2 fp_X10_91 h1 (by decide) ⟨_, rfl⟩ (fun _ _ _ _ q => q) (fun _ _ _ q => q) rfl rfl (by decide) (fun σ7361 h7362 g7363 g7364 f7365 => ?_)
  refine m_aload_n F rfl e_X10_lease_5 ?_
  refine m_iload_n F rfl e_X10_lease_6 ?_
  refine r_callV F e_X10_lease_7 (q_X10_isLease (x_l X) V c T Z u h P L _ _ x901 h7362.1 (hob) hP ) cb_X10_isLease ml_X10_292 im_X10_isLease se_X10_isLease h7362 rfl rfl (rest := []) rfl (Nat.le_of_ble_eq_true rfl) ⟨Nat.le_of_ble_eq_true rfl, Nat.le_of_ble_eq_true rfl⟩ ⟨Nat.le_of_ble_eq_true rfl, Nat.le_of_ble_eq_true rfl⟩ (fun r σ7366 hp => ?_)
  obtain ⟨h7367, c7369⟩ := hp
  have h7368 := HS.trans h7362 h7367 (by decide)
  rcases c7369 with rfl | ⟨n7370, h7371, e7372, rfl⟩
  · refine m_if_ne F e_X10_lease_10 (fun q => absurd (by decide) q) (fun _ => ?_)
    refine m_aload_n F rfl e_X10_lease_13 ?_
    refine m_iconst F (v := 1) (by decide) e_X10_lease_14 ?_
    refine r_put F (g' := (⟨T, Z, u, h, P, L⟩ : RG)) e_X10_lease_15 fp_X10_91 h7368 (by decide) ⟨_, rfl⟩ (fun _ _ _ _ q => q) (fun _ _ _ q => q) rfl rfl (by decide) (fun σ7373 h7374 g7375 g7376 f7377 => ?_)
    refine m_iconst F (v := 0) (by decide) e_X10_lease_18 ?_
    exact m_iret F hQ e_X10_lease_19 (⟨h7374, _, rfl⟩)
  · subst e7372
    refine m_if_ne F e_X10_lease_10 (fun _ => ?_) (fun q => absurd q (by decide))
    refine m_sipush F (v := 160) (by decide) e_X10_lease_20 ?_
    refine m_iload_n F rfl e_X10_lease_23 ?_
    refine m_imul F e_X10_lease_24 ?_
    refine Wm.topE (w := nI (160 * n7370)) (pk_mul 160 n7370) ?_
    refine m_istore_n F (lv' := [(3, .int (nI (160 * n7370))), (0, .ref c), (1, .int (nI n7370)), (2, .int x902)]) e_X10_lease_25 (by decide) rfl ?_
    refine m_iload_n F rfl e_X10_lease_26 ?_
    by_cases ho27 : (x902 : Int32).toInt < 0 ∨ 8 < (x902 : Int32).toInt
    · refine m_tableOut F e_X10_lease_27 ho27 (tgt := 195) (by decide) ?_
      refine m_aload_n F rfl e_X10_lease_195 ?_
      refine m_iconst F (v := 2) (by decide) e_X10_lease_196 ?_
      refine r_put F (g' := (⟨T, Z, u, h, P, L⟩ : RG)) e_X10_lease_197 fp_X10_91 h7368 (by decide) ⟨_, rfl⟩ (fun _ _ _ _ q => q) (fun _ _ _ q => q) rfl rfl (by decide) (fun σ7378 h7379 g7380 g7381 f7382 => ?_)
      refine m_iconst F (v := 0) (by decide) e_X10_lease_200 ?_
      exact m_iret F hQ e_X10_lease_201 (⟨h7379, _, rfl⟩)
    have hs27 : (x902 : Int32).toInt = 0 ∨ (x902 : Int32).toInt = 1 ∨ (x902 : Int32).toInt = 2 ∨ (x902 : Int32).toInt = 3 ∨ (x902 : Int32).toInt = 4 ∨ (x902 : Int32).toInt = 5 ∨ (x902 : Int32).toInt = 6 ∨ (x902 : Int32).toInt = 7 ∨ (x902 : Int32).toInt = 8 := by omega
    rcases hs27 with hv | hv | hv | hv | hv | hv | hv | hv | hv
    · refine m_tableIn F e_X10_lease_27 (by omega) (by omega) (off := 49) (tgt := 76) (by rw [hv]; rfl) (by decide) ?_
      refine m_aload_n F rfl e_X10_lease_76 ?_
      refine r_get F e_X10_lease_77 fl_X10_19 h7368 rfl (fun v hv f7383 => ?_)
      obtain rfl : v = .ref (c + 4) := hv
      refine m_iload_n F rfl e_X10_lease_80 ?_
      refine r_iald F (len := 8) (j := n7370) e_X10_lease_81 h7368 (fun _ h => h) (by decide) (nI_clamp (by omega)) (vp_in_nI (by omega) (by decide)) (fun x7384 h7385 f7386 => ?_)
      exact m_iret F hQ e_X10_lease_82 (⟨h7368, _, rfl⟩)
    · refine m_tableIn F e_X10_lease_27 (by omega) (by omega) (off := 56) (tgt := 83) (by rw [hv]; rfl) (by decide) ?_
      refine m_aload_n F rfl e_X10_lease_83 ?_
      refine r_get F e_X10_lease_84 fl_X10_59 h7368 rfl (fun v hv f7387 => ?_)
      obtain rfl : v = .ref (c + 16) := hv
      refine m_iload_n F rfl e_X10_lease_87 ?_
      refine m_iconst F (v := 1) (by decide) e_X10_lease_88 ?_
      refine m_iadd F e_X10_lease_89 ?_
      refine Wm.topE (w := nI (160 * n7370 + 1)) (nI_add (160 * n7370) 1) ?_
      refine r_sld F (j := 160 * n7370 + 1) e_X10_lease_90 h7368 (nI_clamp (by omega)) (vp_in_nI (by omega) (by decide)) (fun x7388 h7389 f7390 => ?_)
      have hl7391 := hob.2 n7370 (by omega)
      obtain rfl : x7388 = lN (L n7370).2.1 := (EJ_l (l := n7370) (r := 1) (by omega) (by decide)).mp h7389
      refine m_l2i F e_X10_lease_91 ?_
      refine Wm.topE (w := nI ((L n7370).2.1)) (lN_i ((L n7370).2.1)) ?_
      exact m_iret F hQ e_X10_lease_92 (⟨h7368, _, rfl⟩)
    · refine m_tableIn F e_X10_lease_27 (by omega) (by omega) (off := 66) (tgt := 93) (by rw [hv]; rfl) (by decide) ?_
      refine m_aload_n F rfl e_X10_lease_93 ?_
      refine r_get F e_X10_lease_94 fl_X10_59 h7368 rfl (fun v hv f7392 => ?_)
      obtain rfl : v = .ref (c + 16) := hv
      refine m_iload_n F rfl e_X10_lease_97 ?_
      refine m_iconst F (v := 2) (by decide) e_X10_lease_98 ?_
      refine m_iadd F e_X10_lease_99 ?_
      refine Wm.topE (w := nI (160 * n7370 + 2)) (nI_add (160 * n7370) 2) ?_
      refine r_sld F (j := 160 * n7370 + 2) e_X10_lease_100 h7368 (nI_clamp (by omega)) (vp_in_nI (by omega) (by decide)) (fun x7393 h7394 f7395 => ?_)
      obtain ⟨n7396, hn7396, rfl⟩ : ∃ n : Nat, n ≤ 1000000 ∧ x7393 = lN n := (EJ_l (l := n7370) (r := 2) (by omega) (by decide)).mp h7394
      refine m_l2i F e_X10_lease_101 ?_
      refine Wm.topE (w := nI n7396) (lN_i n7396) ?_
      exact m_iret F hQ e_X10_lease_102 (⟨h7368, _, rfl⟩)
    · refine m_tableIn F e_X10_lease_27 (by omega) (by omega) (off := 76) (tgt := 103) (by rw [hv]; rfl) (by decide) ?_
      refine m_aload_n F rfl e_X10_lease_103 ?_
      refine r_get F e_X10_lease_104 fl_X10_59 h7368 rfl (fun v hv f7397 => ?_)
      obtain rfl : v = .ref (c + 16) := hv
      refine m_iload_n F rfl e_X10_lease_107 ?_
      refine m_iconst F (v := 0) (by decide) e_X10_lease_108 ?_
      refine m_iadd F e_X10_lease_109 ?_
      refine Wm.topE (w := nI (160 * n7370)) (nI_add (160 * n7370) 0) ?_
      refine r_sld F (j := 160 * n7370) e_X10_lease_110 h7368 (nI_clamp (by omega)) (vp_in_nI (by omega) (by decide)) (fun x7398 h7399 f7400 => ?_)
      have hl7401 := hob.2 n7370 (by omega)
      obtain rfl : x7398 = lN (L n7370).1 := (EJ_l (l := n7370) (r := 0) (by omega) (by decide)).mp h7399
      refine m_l2i F e_X10_lease_111 ?_
      refine Wm.topE (w := nI ((L n7370).1)) (lN_i ((L n7370).1)) ?_
      exact m_iret F hQ e_X10_lease_112 (⟨h7368, _, rfl⟩)
    · refine m_tableIn F e_X10_lease_27 (by omega) (by omega) (off := 86) (tgt := 113) (by rw [hv]; rfl) (by decide) ?_
      refine m_aload_n F rfl e_X10_lease_113 ?_
      refine r_get F e_X10_lease_114 fl_X10_59 h7368 rfl (fun v hv f7402 => ?_)
      obtain rfl : v = .ref (c + 16) := hv
      refine m_iload_n F rfl e_X10_lease_117 ?_
      refine m_iconst F (v := 0) (by decide) e_X10_lease_118 ?_
      refine m_iadd F e_X10_lease_119 ?_
      refine Wm.topE (w := nI (160 * n7370)) (nI_add (160 * n7370) 0) ?_
      refine r_sld F (j := 160 * n7370) e_X10_lease_120 h7368 (nI_clamp (by omega)) (vp_in_nI (by omega) (by decide)) (fun x7403 h7404 f7405 => ?_)
      have hl7406 := hob.2 n7370 (by omega)
      obtain rfl : x7403 = lN (L n7370).1 := (EJ_l (l := n7370) (r := 0) (by omega) (by decide)).mp h7404
      refine m_ldc2 F kc_X10_234 e_X10_lease_121 ?_
      refine m_lcmp F e_X10_lease_124 ?_
      refine m_if_ne F e_X10_lease_125 (fun q125 => ?_) (fun q125 => ?_)
      · have c125 : ((L n7370).1) ≠ 2 := by have hh := mt (fun h9 => (lg_cmp_eq (lN ((L n7370).1)) (lN 2)).mpr ((lN_eq (a := ((L n7370).1)) (b := 2) (by omega) (by omega)).mpr h9)) q125; omega
        refine m_aload_n F rfl e_X10_lease_132 ?_
        refine m_iload_n F rfl e_X10_lease_133 ?_
        refine r_callV F e_X10_lease_134 (q_X10_left (x_l X) V c T Z u h P L _ _ n7370 h7368.1 (hob) hP (by omega)) cb_X10_left ml_X10_257 im_X10_left se_X10_left h7368 rfl rfl (rest := []) rfl (Nat.le_of_ble_eq_true rfl) ⟨Nat.le_of_ble_eq_true rfl, Nat.le_of_ble_eq_true rfl⟩ ⟨Nat.le_of_ble_eq_true rfl, Nat.le_of_ble_eq_true rfl⟩ (fun r σ7407 hp => ?_)
        obtain ⟨h7408, x7410, rfl⟩ := hp
        have h7409 := HS.trans h7368 h7408 (by decide)
        exact m_iret F hQ e_X10_lease_137 (⟨h7409, _, rfl⟩)
      · have c125 : ((L n7370).1) = 2 := (lN_eq (a := ((L n7370).1)) (b := 2) (by omega) (by omega)).mp ((lg_cmp_eq _ _).mp q125)
        refine m_iconst F (v := 0) (by decide) e_X10_lease_128 ?_
        refine m_goto F e_X10_lease_129 ?_
        exact m_iret F hQ e_X10_lease_137 (⟨h7368, _, rfl⟩)
    · refine m_tableIn F e_X10_lease_27 (by omega) (by omega) (off := 111) (tgt := 138) (by rw [hv]; rfl) (by decide) ?_
      refine m_aload_n F rfl e_X10_lease_138 ?_
      refine r_get F e_X10_lease_139 fl_X10_59 h7368 rfl (fun v hv f7411 => ?_)
      obtain rfl : v = .ref (c + 16) := hv
      refine m_iload_n F rfl e_X10_lease_142 ?_
      refine m_iconst F (v := 3) (by decide) e_X10_lease_143 ?_
      refine m_iadd F e_X10_lease_144 ?_
      refine Wm.topE (w := nI (160 * n7370 + 3)) (nI_add (160 * n7370) 3) ?_
      refine r_sld F (j := 160 * n7370 + 3) e_X10_lease_145 h7368 (nI_clamp (by omega)) (vp_in_nI (by omega) (by decide)) (fun x7412 h7413 f7414 => ?_)
      have hl7415 := hob.2 n7370 (by omega)
      obtain rfl : x7412 = lN (L n7370).2.2.1 := (EJ_l (l := n7370) (r := 3) (by omega) (by decide)).mp h7413
      refine m_l2i F e_X10_lease_146 ?_
      refine Wm.topE (w := nI ((L n7370).2.2.1)) (lN_i ((L n7370).2.2.1)) ?_
      exact m_iret F hQ e_X10_lease_147 (⟨h7368, _, rfl⟩)
    · refine m_tableIn F e_X10_lease_27 (by omega) (by omega) (off := 121) (tgt := 148) (by rw [hv]; rfl) (by decide) ?_
      refine m_aload_n F rfl e_X10_lease_148 ?_
      refine r_get F e_X10_lease_149 fl_X10_34 h7368 rfl (fun v hv f7416 => ?_)
      obtain rfl : v = .ref (c + 9) := hv
      refine m_iload_n F rfl e_X10_lease_152 ?_
      refine r_iald F (len := 8) (j := n7370) e_X10_lease_153 h7368 (fun _ h => h) (by decide) (nI_clamp (by omega)) (vp_in_nI (by omega) (by decide)) (fun x7417 h7418 f7419 => ?_)
      refine m_if_ne F e_X10_lease_154 (fun q154 => ?_) (fun q154 => ?_)
      · refine m_aload_n F rfl e_X10_lease_161 ?_
        refine r_getC F e_X10_lease_162 fl_X10_34 h7368 (f7416) ?_
        refine m_iload_n F rfl e_X10_lease_165 ?_
        refine r_iald F (len := 8) (j := n7370) e_X10_lease_166 h7368 (fun _ h => h) (by decide) (nI_clamp (by omega)) (vp_in_nI (by omega) (by decide)) (fun x7420 h7421 f7422 => ?_)
        obtain rfl := Option.some.inj ((f7422).symm.trans (f7419))
        refine m_iconst F (v := 1) (by decide) e_X10_lease_167 ?_
        refine m_isub F e_X10_lease_168 ?_
        refine Wm.top (fun x7423 _ => ?_)
        exact m_iret F hQ e_X10_lease_169 (⟨h7368, _, rfl⟩)
      · subst q154
        refine m_iconst F (v := 0) (by decide) e_X10_lease_157 ?_
        refine m_goto F e_X10_lease_158 ?_
        exact m_iret F hQ e_X10_lease_169 (⟨h7368, _, rfl⟩)
    · refine m_tableIn F e_X10_lease_27 (by omega) (by omega) (off := 143) (tgt := 170) (by rw [hv]; rfl) (by decide) ?_
      refine m_aload_n F rfl e_X10_lease_170 ?_
      refine r_get F e_X10_lease_171 fl_X10_75 h7368 rfl (fun v hv f7424 => ?_)
      obtain rfl : v = .ref (c + 21) := hv
      refine m_iload_n F rfl e_X10_lease_174 ?_
      refine r_zald F (j := n7370) e_X10_lease_175 h7368 (nI_clamp (by omega)) (vp_in_nI (by omega) (by decide)) (fun n7425 hn7425 f7426 => ?_)
      refine m_if_eq F e_X10_lease_176 (fun q176 => ?_) (fun q176 => ?_)
      · have c176 : n7425 = 0 := (nI_eq (a := n7425) (b := 0) (by omega) (by omega)).mp q176
        refine m_iconst F (v := 0) (by decide) e_X10_lease_183 ?_
        exact m_iret F hQ e_X10_lease_184 (⟨h7368, _, rfl⟩)
      · have c176 : n7425 ≠ 0 := by have hh := mt (nI_eq (a := n7425) (b := 0) (by omega) (by omega)).mpr q176; omega
        refine m_iconst F (v := 1) (by decide) e_X10_lease_179 ?_
        refine m_goto F e_X10_lease_180 ?_
        exact m_iret F hQ e_X10_lease_184 (⟨h7368, _, rfl⟩)
    · refine m_tableIn F e_X10_lease_27 (by omega) (by omega) (off := 158) (tgt := 185) (by rw [hv]; rfl) (by decide) ?_
      refine m_aload_n F rfl e_X10_lease_185 ?_
      refine r_get F e_X10_lease_186 fl_X10_59 h7368 rfl (fun v hv f7427 => ?_)
      obtain rfl : v = .ref (c + 16) := hv
      refine m_iload_n F rfl e_X10_lease_189 ?_
      refine m_iconst F (v := 4) (by decide) e_X10_lease_190 ?_
      refine m_iadd F e_X10_lease_191 ?_
      refine Wm.topE (w := nI (160 * n7370 + 4)) (nI_add (160 * n7370) 4) ?_
      refine r_sld F (j := 160 * n7370 + 4) e_X10_lease_192 h7368 (nI_clamp (by omega)) (vp_in_nI (by omega) (by decide)) (fun x7428 h7429 f7430 => ?_)
      refine m_l2i F e_X10_lease_193 ?_
      refine Wm.top (fun x7431 _ => ?_)
      exact m_iret F hQ e_X10_lease_194 (⟨h7368, _, rfl⟩)
set_option maxRecDepth 20000 in
theorem lq_X10_feed_20 {V : VX} {X : MX} {N : Nat} {σ : Mem} {c T Z u h : Nat} {P : NP} {L : Nat → LQ}  {x901 : Int32} {x902 : Int32} {x903 : Int32} {x904 : Int32} {x905 : Int32} (F : Fx V X yX10_feed cX10_feed 8 (some .int) (rmd 0 0 0)) (hQ : Rt V X 0 0 N (fun r τ => (680 < T ∧ HS V c (⟨T, Z, u, h, P, L⟩ : RG) [0, 3, 4, 5, 6, 7, 8, 9, 10, 11, 12, 13, 14, 15, 16, 17, 18, 19, 20, 21, 22, 23] σ τ ∧ r = some (.int (-1))) ∨ (T ≤ 680 ∧ HS V c (⟨T + 20, Z, u, h, P, L⟩ : RG) [0, 3, 4, 5, 6, 7, 8, 9, 10, 11, 12, 13, 14, 15, 16, 17, 18, 19, 20, 21, 22, 23] σ τ ∧ r = some (.int (nI (T + 20)))))) (hob : OKB L) (hP : OKP P) (hp0 : T ≤ 700)  : ∀ (fuel : Nat) (i : Nat) (τ : Mem), HS V c (⟨T, Z, u, h, P, L⟩ : RG) [0, 3, 4, 5, 6, 7, 8, 9, 10, 11, 12, 13, 14, 15, 16, 17, 18, 19, 20, 21, 22, 23] σ τ → i ≤ 20 ∧ T ≤ 680 → 20 - i < fuel → Wm V X 8 N τ 0 0 20 [(0, .ref c), (1, .int x901), (2, .int x902), (3, .int x903), (4, .int x904), (5, .int x905), (6, .int (nI i))] [] := by
  intro fuel
  induction fuel with
  | zero => intros; rename_i hm; exact absurd hm (Nat.not_lt_zero _)
  | succ fuel ih =>
    intro i τ h1 hi hm
    have hPP := hP
    unfold OKP at hPP
    refine m_iload F rfl e_X10_feed_20 ?_
    refine m_bipush F (v := 20) (by decide) e_X10_feed_22 ?_
    refine m_icmp_ge F e_X10_feed_24 (fun q24 => ?_) (fun q24 => ?_)
    · have c24 : i ≥ 20 := (nI_leI (a := 20) (b := i) (by omega) (by omega)).mp q24
      refine m_aload_n F rfl e_X10_feed_110 ?_
      refine m_dup F rfl e_X10_feed_111 ?_
      refine r_get F e_X10_feed_112 fl_X10_94 h1 rfl (fun v hv f7432 => ?_)
      obtain rfl : v = .int (nI (T)) := hv
      refine m_bipush F (v := 20) (by decide) e_X10_feed_115 ?_
      refine m_iadd F e_X10_feed_117 ?_
      refine Wm.topE (w := nI (T + 20)) (nI_add T 20) ?_
      refine r_put F (g' := (⟨T + 20, Z, u, h, P, L⟩ : RG)) e_X10_feed_118 fp_X10_94 h1 (by decide) rfl ctl_T CR.ctl rfl rfl (by decide) (fun σ7433 h7434 g7435 g7436 f7437 => ?_)
      refine m_aload_n F rfl e_X10_feed_121 ?_
      refine r_getC F e_X10_feed_122 fl_X10_94 h7434 (f7437) ?_
      exact m_iret F hQ e_X10_feed_125 (Or.inr ⟨by omega, h7434, rfl⟩)
    · have c24 : i < 20 := by have hh := mt (nI_leI (a := 20) (b := i) (by omega) (by omega)).mpr q24; omega
      refine m_iload F rfl e_X10_feed_27 ?_
      refine m_iconst F (v := 4) (by decide) e_X10_feed_29 ?_
      refine m_icmp_ge F e_X10_feed_30 (fun q30 => ?_) (fun q30 => ?_)
      · have c30 : i ≥ 4 := (nI_leI (a := 4) (b := i) (by omega) (by omega)).mp q30
        refine m_iload F rfl e_X10_feed_37 ?_
        refine m_bipush F (v := 8) (by decide) e_X10_feed_39 ?_
        refine m_icmp_ge F e_X10_feed_41 (fun q41 => ?_) (fun q41 => ?_)
        · have c41 : i ≥ 8 := (nI_leI (a := 8) (b := i) (by omega) (by omega)).mp q41
          refine m_iload F rfl e_X10_feed_48 ?_
          refine m_bipush F (v := 12) (by decide) e_X10_feed_50 ?_
          refine m_icmp_ge F e_X10_feed_52 (fun q52 => ?_) (fun q52 => ?_)
          · have c52 : i ≥ 12 := (nI_leI (a := 12) (b := i) (by omega) (by omega)).mp q52
            refine m_iload F rfl e_X10_feed_59 ?_
            refine m_bipush F (v := 16) (by decide) e_X10_feed_61 ?_
            refine m_icmp_ge F e_X10_feed_63 (fun q63 => ?_) (fun q63 => ?_)
            · have c63 : i ≥ 16 := (nI_leI (a := 16) (b := i) (by omega) (by omega)).mp q63
              refine m_iload F rfl e_X10_feed_71 ?_
              refine m_istore F (lv' := [(7, .int x905), (0, .ref c), (1, .int x901), (2, .int x902), (3, .int x903), (4, .int x904), (5, .int x905), (6, .int (nI i))]) e_X10_feed_73 (by decide) rfl ?_
              refine m_aload_n F rfl e_X10_feed_75 ?_
              refine r_get F e_X10_feed_76 fl_X10_7 h1 rfl (fun v hv f7438 => ?_)
              obtain rfl : v = .ref (c + 1) := hv
              refine m_aload_n F rfl e_X10_feed_79 ?_
              refine r_get F e_X10_feed_80 fl_X10_94 h1 rfl (fun v hv f7439 => ?_)
              obtain rfl : v = .int (nI (T)) := hv
              refine m_iload F rfl e_X10_feed_83 ?_
              refine m_iadd F e_X10_feed_85 ?_
              refine Wm.topE (w := nI (T + i)) (nI_add T i) ?_
              refine m_iload F rfl e_X10_feed_86 ?_
              refine m_bipush F (v := 24) (by decide) e_X10_feed_88 ?_
              refine m_bipush F (v := 8) (by decide) e_X10_feed_90 ?_
              refine m_iload F rfl e_X10_feed_92 ?_
              refine m_iconst F (v := 4) (by decide) e_X10_feed_94 ?_
              refine m_irem F (by decide) e_X10_feed_95 ?_
              refine Wm.topE (w := nI (i % 4)) (pk_rem (a := i) (d := 4) (by omega) (by decide) (by decide)) ?_
              refine m_imul F e_X10_feed_96 ?_
              refine Wm.topE (w := nI (8 * (i % 4))) (pk_mul 8 (i % 4)) ?_
              refine m_isub F e_X10_feed_97 ?_
              refine Wm.top (fun x7440 _ => ?_)
              refine m_ishr F e_X10_feed_98 ?_
              refine Wm.top (fun x7441 _ => ?_)
              refine m_sipush F (v := 255) (by decide) e_X10_feed_99 ?_
              refine m_iand F e_X10_feed_102 ?_
              refine Wm.top (fun x7442 _ => ?_)
              refine r_iast F (g' := (⟨T, Z, u, h, P, L⟩ : RG)) (len := 700) (j := T + i) e_X10_feed_103 h1 (fun _ h => h) (fun f h => ⟨f, rfl, h⟩) (by decide) (by decide) (nI_clamp (by omega)) (vp_in_nI (by omega) (by decide)) trivial (fun _ _ _ h => h) (fun _ _ _ h => h) (fun σ7443 h7444 g7445 f7446 g7447 => ?_)
              refine m_iinc F (v := nI (i + 1)) (lv' := [(6, .int (nI (i + 1))), (7, .int x905), (0, .ref c), (1, .int x901), (2, .int x902), (3, .int x903), (4, .int x904), (5, .int x905)]) e_X10_feed_104 rfl (nI_add i 1) (by decide) rfl ?_
              refine m_goto F e_X10_feed_107 ?_
              refine Wm.lvsub (lv' := [(0, .ref c), (1, .int x901), (2, .int x902), (3, .int x903), (4, .int x904), (5, .int x905), (6, .int (nI (i + 1)))]) ?_ [2, 3, 4, 5, 6, 7, 0] rfl
              exact ih (i + 1) _ h7444 (by omega) (by omega)
            · have c63 : i < 16 := by have hh := mt (nI_leI (a := 16) (b := i) (by omega) (by omega)).mpr q63; omega
              refine m_iload F rfl e_X10_feed_66 ?_
              refine m_goto F e_X10_feed_68 ?_
              refine m_istore F (lv' := [(7, .int x904), (0, .ref c), (1, .int x901), (2, .int x902), (3, .int x903), (4, .int x904), (5, .int x905), (6, .int (nI i))]) e_X10_feed_73 (by decide) rfl ?_
              refine m_aload_n F rfl e_X10_feed_75 ?_
              refine r_get F e_X10_feed_76 fl_X10_7 h1 rfl (fun v hv f7448 => ?_)
              obtain rfl : v = .ref (c + 1) := hv
              refine m_aload_n F rfl e_X10_feed_79 ?_
              refine r_get F e_X10_feed_80 fl_X10_94 h1 rfl (fun v hv f7449 => ?_)
              obtain rfl : v = .int (nI (T)) := hv
              refine m_iload F rfl e_X10_feed_83 ?_
              refine m_iadd F e_X10_feed_85 ?_
              refine Wm.topE (w := nI (T + i)) (nI_add T i) ?_
              refine m_iload F rfl e_X10_feed_86 ?_
              refine m_bipush F (v := 24) (by decide) e_X10_feed_88 ?_
              refine m_bipush F (v := 8) (by decide) e_X10_feed_90 ?_
              refine m_iload F rfl e_X10_feed_92 ?_
              refine m_iconst F (v := 4) (by decide) e_X10_feed_94 ?_
              refine m_irem F (by decide) e_X10_feed_95 ?_
              refine Wm.topE (w := nI (i % 4)) (pk_rem (a := i) (d := 4) (by omega) (by decide) (by decide)) ?_
              refine m_imul F e_X10_feed_96 ?_
              refine Wm.topE (w := nI (8 * (i % 4))) (pk_mul 8 (i % 4)) ?_
              refine m_isub F e_X10_feed_97 ?_
              refine Wm.top (fun x7450 _ => ?_)
              refine m_ishr F e_X10_feed_98 ?_
              refine Wm.top (fun x7451 _ => ?_)
              refine m_sipush F (v := 255) (by decide) e_X10_feed_99 ?_
              refine m_iand F e_X10_feed_102 ?_
              refine Wm.top (fun x7452 _ => ?_)
              refine r_iast F (g' := (⟨T, Z, u, h, P, L⟩ : RG)) (len := 700) (j := T + i) e_X10_feed_103 h1 (fun _ h => h) (fun f h => ⟨f, rfl, h⟩) (by decide) (by decide) (nI_clamp (by omega)) (vp_in_nI (by omega) (by decide)) trivial (fun _ _ _ h => h) (fun _ _ _ h => h) (fun σ7453 h7454 g7455 f7456 g7457 => ?_)
              refine m_iinc F (v := nI (i + 1)) (lv' := [(6, .int (nI (i + 1))), (7, .int x904), (0, .ref c), (1, .int x901), (2, .int x902), (3, .int x903), (4, .int x904), (5, .int x905)]) e_X10_feed_104 rfl (nI_add i 1) (by decide) rfl ?_
              refine m_goto F e_X10_feed_107 ?_
              refine Wm.lvsub (lv' := [(0, .ref c), (1, .int x901), (2, .int x902), (3, .int x903), (4, .int x904), (5, .int x905), (6, .int (nI (i + 1)))]) ?_ [2, 3, 4, 5, 6, 7, 0] rfl
              exact ih (i + 1) _ h7454 (by omega) (by omega)
          · have c52 : i < 12 := by have hh := mt (nI_leI (a := 12) (b := i) (by omega) (by omega)).mpr q52; omega
            refine m_iload_n F rfl e_X10_feed_55 ?_
            refine m_goto F e_X10_feed_56 ?_
            refine m_istore F (lv' := [(7, .int x903), (0, .ref c), (1, .int x901), (2, .int x902), (3, .int x903), (4, .int x904), (5, .int x905), (6, .int (nI i))]) e_X10_feed_73 (by decide) rfl ?_
            refine m_aload_n F rfl e_X10_feed_75 ?_
            refine r_get F e_X10_feed_76 fl_X10_7 h1 rfl (fun v hv f7458 => ?_)
            obtain rfl : v = .ref (c + 1) := hv
            refine m_aload_n F rfl e_X10_feed_79 ?_
            refine r_get F e_X10_feed_80 fl_X10_94 h1 rfl (fun v hv f7459 => ?_)
            obtain rfl : v = .int (nI (T)) := hv
            refine m_iload F rfl e_X10_feed_83 ?_
            refine m_iadd F e_X10_feed_85 ?_
            refine Wm.topE (w := nI (T + i)) (nI_add T i) ?_
            refine m_iload F rfl e_X10_feed_86 ?_
            refine m_bipush F (v := 24) (by decide) e_X10_feed_88 ?_
            refine m_bipush F (v := 8) (by decide) e_X10_feed_90 ?_
            refine m_iload F rfl e_X10_feed_92 ?_
            refine m_iconst F (v := 4) (by decide) e_X10_feed_94 ?_
            refine m_irem F (by decide) e_X10_feed_95 ?_
            refine Wm.topE (w := nI (i % 4)) (pk_rem (a := i) (d := 4) (by omega) (by decide) (by decide)) ?_
            refine m_imul F e_X10_feed_96 ?_
            refine Wm.topE (w := nI (8 * (i % 4))) (pk_mul 8 (i % 4)) ?_
            refine m_isub F e_X10_feed_97 ?_
            refine Wm.top (fun x7460 _ => ?_)
            refine m_ishr F e_X10_feed_98 ?_
            refine Wm.top (fun x7461 _ => ?_)
            refine m_sipush F (v := 255) (by decide) e_X10_feed_99 ?_
            refine m_iand F e_X10_feed_102 ?_
            refine Wm.top (fun x7462 _ => ?_)
            refine r_iast F (g' := (⟨T, Z, u, h, P, L⟩ : RG)) (len := 700) (j := T + i) e_X10_feed_103 h1 (fun _ h => h) (fun f h => ⟨f, rfl, h⟩) (by decide) (by decide) (nI_clamp (by omega)) (vp_in_nI (by omega) (by decide)) trivial (fun _ _ _ h => h) (fun _ _ _ h => h) (fun σ7463 h7464 g7465 f7466 g7467 => ?_)
            refine m_iinc F (v := nI (i + 1)) (lv' := [(6, .int (nI (i + 1))), (7, .int x903), (0, .ref c), (1, .int x901), (2, .int x902), (3, .int x903), (4, .int x904), (5, .int x905)]) e_X10_feed_104 rfl (nI_add i 1) (by decide) rfl ?_
            refine m_goto F e_X10_feed_107 ?_
            refine Wm.lvsub (lv' := [(0, .ref c), (1, .int x901), (2, .int x902), (3, .int x903), (4, .int x904), (5, .int x905), (6, .int (nI (i + 1)))]) ?_ [2, 3, 4, 5, 6, 7, 0] rfl
            exact ih (i + 1) _ h7464 (by omega) (by omega)
        · have c41 : i < 8 := by have hh := mt (nI_leI (a := 8) (b := i) (by omega) (by omega)).mpr q41; omega
          refine m_iload_n F rfl e_X10_feed_44 ?_
          refine m_goto F e_X10_feed_45 ?_
          refine m_istore F (lv' := [(7, .int x902), (0, .ref c), (1, .int x901), (2, .int x902), (3, .int x903), (4, .int x904), (5, .int x905), (6, .int (nI i))]) e_X10_feed_73 (by decide) rfl ?_
          refine m_aload_n F rfl e_X10_feed_75 ?_
          refine r_get F e_X10_feed_76 fl_X10_7 h1 rfl (fun v hv f7468 => ?_)
          obtain rfl : v = .ref (c + 1) := hv
          refine m_aload_n F rfl e_X10_feed_79 ?_
          refine r_get F e_X10_feed_80 fl_X10_94 h1 rfl (fun v hv f7469 => ?_)
          obtain rfl : v = .int (nI (T)) := hv
          refine m_iload F rfl e_X10_feed_83 ?_
          refine m_iadd F e_X10_feed_85 ?_
          refine Wm.topE (w := nI (T + i)) (nI_add T i) ?_
          refine m_iload F rfl e_X10_feed_86 ?_
          refine m_bipush F (v := 24) (by decide) e_X10_feed_88 ?_
          refine m_bipush F (v := 8) (by decide) e_X10_feed_90 ?_
          refine m_iload F rfl e_X10_feed_92 ?_
          refine m_iconst F (v := 4) (by decide) e_X10_feed_94 ?_
          refine m_irem F (by decide) e_X10_feed_95 ?_
          refine Wm.topE (w := nI (i % 4)) (pk_rem (a := i) (d := 4) (by omega) (by decide) (by decide)) ?_
          refine m_imul F e_X10_feed_96 ?_
          refine Wm.topE (w := nI (8 * (i % 4))) (pk_mul 8 (i % 4)) ?_
          refine m_isub F e_X10_feed_97 ?_
          refine Wm.top (fun x7470 _ => ?_)
          refine m_ishr F e_X10_feed_98 ?_
          refine Wm.top (fun x7471 _ => ?_)
          refine m_sipush F (v := 255) (by decide) e_X10_feed_99 ?_
          refine m_iand F e_X10_feed_102 ?_
          refine Wm.top (fun x7472 _ => ?_)
          refine r_iast F (g' := (⟨T, Z, u, h, P, L⟩ : RG)) (len := 700) (j := T + i) e_X10_feed_103 h1 (fun _ h => h) (fun f h => ⟨f, rfl, h⟩) (by decide) (by decide) (nI_clamp (by omega)) (vp_in_nI (by omega) (by decide)) trivial (fun _ _ _ h => h) (fun _ _ _ h => h) (fun σ7473 h7474 g7475 f7476 g7477 => ?_)
          refine m_iinc F (v := nI (i + 1)) (lv' := [(6, .int (nI (i + 1))), (7, .int x902), (0, .ref c), (1, .int x901), (2, .int x902), (3, .int x903), (4, .int x904), (5, .int x905)]) e_X10_feed_104 rfl (nI_add i 1) (by decide) rfl ?_
          refine m_goto F e_X10_feed_107 ?_
          refine Wm.lvsub (lv' := [(0, .ref c), (1, .int x901), (2, .int x902), (3, .int x903), (4, .int x904), (5, .int x905), (6, .int (nI (i + 1)))]) ?_ [2, 3, 4, 5, 6, 7, 0] rfl
          exact ih (i + 1) _ h7474 (by omega) (by omega)
      · have c30 : i < 4 := by have hh := mt (nI_leI (a := 4) (b := i) (by omega) (by omega)).mpr q30; omega
        refine m_iload_n F rfl e_X10_feed_33 ?_
        refine m_goto F e_X10_feed_34 ?_
        refine m_istore F (lv' := [(7, .int x901), (0, .ref c), (1, .int x901), (2, .int x902), (3, .int x903), (4, .int x904), (5, .int x905), (6, .int (nI i))]) e_X10_feed_73 (by decide) rfl ?_
        refine m_aload_n F rfl e_X10_feed_75 ?_
        refine r_get F e_X10_feed_76 fl_X10_7 h1 rfl (fun v hv f7478 => ?_)
        obtain rfl : v = .ref (c + 1) := hv
        refine m_aload_n F rfl e_X10_feed_79 ?_
        refine r_get F e_X10_feed_80 fl_X10_94 h1 rfl (fun v hv f7479 => ?_)
        obtain rfl : v = .int (nI (T)) := hv
        refine m_iload F rfl e_X10_feed_83 ?_
        refine m_iadd F e_X10_feed_85 ?_
        refine Wm.topE (w := nI (T + i)) (nI_add T i) ?_
        refine m_iload F rfl e_X10_feed_86 ?_
        refine m_bipush F (v := 24) (by decide) e_X10_feed_88 ?_
        refine m_bipush F (v := 8) (by decide) e_X10_feed_90 ?_
        refine m_iload F rfl e_X10_feed_92 ?_
        refine m_iconst F (v := 4) (by decide) e_X10_feed_94 ?_
        refine m_irem F (by decide) e_X10_feed_95 ?_
        refine Wm.topE (w := nI (i % 4)) (pk_rem (a := i) (d := 4) (by omega) (by decide) (by decide)) ?_
        refine m_imul F e_X10_feed_96 ?_
        refine Wm.topE (w := nI (8 * (i % 4))) (pk_mul 8 (i % 4)) ?_
        refine m_isub F e_X10_feed_97 ?_
        refine Wm.top (fun x7480 _ => ?_)
        refine m_ishr F e_X10_feed_98 ?_
        refine Wm.top (fun x7481 _ => ?_)
        refine m_sipush F (v := 255) (by decide) e_X10_feed_99 ?_
        refine m_iand F e_X10_feed_102 ?_
        refine Wm.top (fun x7482 _ => ?_)
        refine r_iast F (g' := (⟨T, Z, u, h, P, L⟩ : RG)) (len := 700) (j := T + i) e_X10_feed_103 h1 (fun _ h => h) (fun f h => ⟨f, rfl, h⟩) (by decide) (by decide) (nI_clamp (by omega)) (vp_in_nI (by omega) (by decide)) trivial (fun _ _ _ h => h) (fun _ _ _ h => h) (fun σ7483 h7484 g7485 f7486 g7487 => ?_)
        refine m_iinc F (v := nI (i + 1)) (lv' := [(6, .int (nI (i + 1))), (7, .int x901), (0, .ref c), (1, .int x901), (2, .int x902), (3, .int x903), (4, .int x904), (5, .int x905)]) e_X10_feed_104 rfl (nI_add i 1) (by decide) rfl ?_
        refine m_goto F e_X10_feed_107 ?_
        refine Wm.lvsub (lv' := [(0, .ref c), (1, .int x901), (2, .int x902), (3, .int x903), (4, .int x904), (5, .int x905), (6, .int (nI (i + 1)))]) ?_ [2, 3, 4, 5, 6, 7, 0] rfl
        exact ih (i + 1) _ h7484 (by omega) (by omega)
set_option maxRecDepth 20000 in
theorem q_X10_feed (l : Launch) (V : VX) (c T Z u h : Nat) (P : NP) (L : Nat → LQ) (N : Nat) (σ : Mem) (x901 : Int32) (x902 : Int32) (x903 : Int32) (x904 : Int32) (x905 : Int32) (h0 : HR V c ⟨T, Z, u, h, P, L⟩ σ) (hob : OKB L) (hP : OKP P) (hp0 : T ≤ 700) : Ct l V yX10_feed cX10_feed 8 (some .int) 0 0 0 N σ [.ref c, .int x901, .int x902, .int x903, .int x904, .int x905] (fun r τ => (680 < T ∧ HS V c (⟨T, Z, u, h, P, L⟩ : RG) [0, 3, 4, 5, 6, 7, 8, 9, 10, 11, 12, 13, 14, 15, 16, 17, 18, 19, 20, 21, 22, 23] σ τ ∧ r = some (.int (-1))) ∨ (T ≤ 680 ∧ HS V c (⟨T + 20, Z, u, h, P, L⟩ : RG) [0, 3, 4, 5, 6, 7, 8, 9, 10, 11, 12, 13, 14, 15, 16, 17, 18, 19, 20, 21, 22, 23] σ τ ∧ r = some (.int (nI (T + 20))))) := by
  refine Ct.of (by decide) (Nat.le_of_ble_eq_true rfl) [(0, .ref c), (1, .int x901), (2, .int x902), (3, .int x903), (4, .int x904), (5, .int x905)] rfl (fun X hX F hQ => ?_)
  have hPP := hP
  unfold OKP at hPP
  have h1 : HS V c ⟨T, Z, u, h, P, L⟩ [0, 3, 4, 5, 6, 7, 8, 9, 10, 11, 12, 13, 14, 15, 16, 17, 18, 19, 20, 21, 22, 23] σ σ := HS.start h0
  refine m_aload_n F rfl e_X10_feed_0 ?_
  refine m_iconst F (v := 0) (by decide) e_X10_feed_1 ?_
  refine r_put F (g' := (⟨T, Z, u, h, P, L⟩ : RG)) e_X10_feed_2 fp_X10_91 h1 (by decide) ⟨_, rfl⟩ (fun _ _ _ _ q => q) (fun _ _ _ q => q) rfl rfl (by decide) (fun σ7488 h7489 g7490 g7491 f7492 => ?_)
  refine m_aload_n F rfl e_X10_feed_5 ?_
  refine r_get F e_X10_feed_6 fl_X10_94 h7489 rfl (fun v hv f7493 => ?_)
  obtain rfl : v = .int (nI (T)) := hv
  refine m_sipush F (v := 680) (by decide) e_X10_feed_9 ?_
  refine m_icmp_le F e_X10_feed_12 (fun q12 => ?_) (fun q12 => ?_)
  · have c12 : T ≤ 680 := (nI_leI (a := T) (b := 680) (by omega) (by omega)).mp q12
    refine m_iconst F (v := 0) (by decide) e_X10_feed_17 ?_
    refine m_istore F (lv' := [(6, .int 0), (0, .ref c), (1, .int x901), (2, .int x902), (3, .int x903), (4, .int x904), (5, .int x905)]) e_X10_feed_18 (by decide) rfl ?_
    refine Wm.lvsub (lv' := [(0, .ref c), (1, .int x901), (2, .int x902), (3, .int x903), (4, .int x904), (5, .int x905), (6, .int 0)]) ?_ [1, 2, 3, 4, 5, 6, 0] rfl
    exact lq_X10_feed_20 F hQ hob hP hp0 (20 - 0 + 1) 0 _ h7489 (by omega) (Nat.lt_succ_self _)
  · have c12 : T > 680 := by have hh := mt (nI_leI (a := T) (b := 680) (by omega) (by omega)).mpr q12; omega
    refine m_iconst F (v := (-1)) (by decide) e_X10_feed_15 ?_
    exact m_iret F hQ e_X10_feed_16 (Or.inl ⟨by omega, h7489, rfl⟩)
