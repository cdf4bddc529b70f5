set_option maxRecDepth 20000 in
theorem q_X10_ifIndex (l : Launch) (V : VX) (c T Z u h : Nat) (P : NP) (L : Nat → LQ) (N : Nat) (σ : Mem) (x901 : Int32) (x902 : Int32) (h0 : HR V c ⟨T, Z, u, h, P, L⟩ σ) (hok : OKL P.n0 L) (hP : OKP P)  : Ct l V yX10_ifIndex cX10_ifIndex 5 (some .long) 2 0 0 N σ [.ref c, .int x901, .int x902] (fun r τ => HS V c (⟨T, Z, u, h, P, L⟩ : RG) [0, 2, 3, 4, 5, 6, 7, 8, 9, 10, 11, 12, 13, 14, 15, 16, 19, 20, 21, 22, 23] σ τ ∧ ∃ x : Int64, r = some (.long x)) := by
  refine Ct.of (by decide) (Nat.le_of_ble_eq_true rfl) [(0, .ref c), (1, .int x901), (2, .int x902)] rfl (fun X hX F hQ => ?_)
  have hPP := hP
  unfold OKP at hPP
  have h1 : HS V c ⟨T, Z, u, h, P, L⟩ [0, 2, 3, 4, 5, 6, 7, 8, 9, 10, 11, 12, 13, 14, 15, 16, 19, 20, 21, 22, 23] σ σ := HS.start h0
  refine m_aload_n F rfl e_X10_ifIndex_0 ?_
  refine m_iconst F (v := 0) (by decide) e_X10_ifIndex_1 ?_
  refine r_put F (g' := (⟨T, Z, u, h, P, L⟩ : RG)) e_X10_ifIndex_2 fp_X10_91 h1 (by decide) ⟨_, rfl⟩ (fun _ _ _ _ q => q) (fun _ _ _ q => q) rfl rfl (by decide) (fun σ6349 h6350 g6351 g6352 f6353 => ?_)
  refine m_aload_n F rfl e_X10_ifIndex_5 ?_
  refine m_iload_n F rfl e_X10_ifIndex_6 ?_
  refine r_callV F e_X10_ifIndex_7 (q_X10_isLease (x_l X) V c T Z u h P L _ _ x901 h6350.1 (hok.b) hP ) cb_X10_isLease ml_X10_292 im_X10_isLease se_X10_isLease h6350 rfl rfl (rest := []) rfl (Nat.le_of_ble_eq_true rfl) ⟨Nat.le_of_ble_eq_true rfl, Nat.le_of_ble_eq_true rfl⟩ ⟨Nat.le_of_ble_eq_true rfl, Nat.le_of_ble_eq_true rfl⟩ (fun r σ6354 hp => ?_)
  obtain ⟨h6355, c6357⟩ := hp
  have h6356 := HS.trans h6350 h6355 (by decide)
  rcases c6357 with rfl | ⟨n6358, h6359, e6360, rfl⟩
  · refine m_if_eq F e_X10_ifIndex_10 (fun _ => ?_) (fun q => absurd (by decide) q)
    refine m_ldc2 F kc_X10_245 e_X10_ifIndex_27 ?_
    exact m_lret F hQ e_X10_ifIndex_30 (⟨h6356, _, rfl⟩)
  · subst e6360
    refine m_if_eq F e_X10_ifIndex_10 (fun q => absurd q (by decide)) (fun _ => ?_)
    refine m_iload_n F rfl e_X10_ifIndex_13 ?_
    refine m_sipush F (v := 500) (by decide) e_X10_ifIndex_14 ?_
    refine m_icmp_lt F e_X10_ifIndex_17 (fun q17 => ?_) (fun q17 => ?_)
    · refine m_ldc2 F kc_X10_245 e_X10_ifIndex_27 ?_
      exact m_lret F hQ e_X10_ifIndex_30 (⟨h6356, _, rfl⟩)
    · obtain ⟨n6361, hn6361, rfl⟩ := nI_nn (x := x902) (fun e => q17 (Int32.lt_of_lt_of_le e (by decide)))
      have c17 : n6361 ≥ 500 := by have hh := mt (nI_ltI (a := n6361) (b := 500) (by omega) (by omega)).mpr q17; omega
      refine m_iload_n F rfl e_X10_ifIndex_20 ?_
      refine m_sipush F (v := 2000) (by decide) e_X10_ifIndex_21 ?_
      refine m_icmp_le F e_X10_ifIndex_24 (fun q24 => ?_) (fun q24 => ?_)
      · have c24 : n6361 ≤ 2000 := (nI_leI (a := n6361) (b := 2000) (by omega) (by omega)).mp q24
        refine m_aload_n F rfl e_X10_ifIndex_31 ?_
        refine m_iload_n F rfl e_X10_ifIndex_32 ?_
        refine r_callV F e_X10_ifIndex_33 (q_X10_isOn (x_l X) V c T Z u h P L _ _ n6358 h6356.1 (hok.b) hP (by omega)) cb_X10_isOn ml_X10_267 im_X10_isOn se_X10_isOn h6356 rfl rfl (rest := []) rfl (Nat.le_of_ble_eq_true rfl) ⟨Nat.le_of_ble_eq_true rfl, Nat.le_of_ble_eq_true rfl⟩ ⟨Nat.le_of_ble_eq_true rfl, Nat.le_of_ble_eq_true rfl⟩ (fun r σ6362 hp => ?_)
        obtain ⟨h6363, c6365⟩ := hp
        have h6364 := HS.trans h6356 h6363 (by decide)
        rcases c6365 with ⟨g6366, rfl⟩ | ⟨g6366, rfl⟩
        · refine m_if_ne F e_X10_ifIndex_36 (fun q => absurd (by decide) q) (fun _ => ?_)
          refine m_ldc2 F kc_X10_338 e_X10_ifIndex_39 ?_
          exact m_lret F hQ e_X10_ifIndex_42 (⟨h6364, _, rfl⟩)
        · refine m_if_ne F e_X10_ifIndex_36 (fun _ => ?_) (fun q => absurd q (by decide))
          refine m_aload_n F rfl e_X10_ifIndex_43 ?_
          refine m_iload_n F rfl e_X10_ifIndex_44 ?_
          refine r_callV F e_X10_ifIndex_45 (q_X10_isTied (x_l X) V c T Z u h P L _ _ n6358 h6364.1 (hok.b) hP (by omega)) cb_X10_isTied ml_X10_270 im_X10_isTied se_X10_isTied h6364 rfl rfl (rest := []) rfl (Nat.le_of_ble_eq_true rfl) ⟨Nat.le_of_ble_eq_true rfl, Nat.le_of_ble_eq_true rfl⟩ ⟨Nat.le_of_ble_eq_true rfl, Nat.le_of_ble_eq_true rfl⟩ (fun r σ6367 hp => ?_)
          obtain ⟨h6368, n6370, hn6370, rfl⟩ := hp
          have h6369 := HS.trans h6364 h6368 (by decide)
          refine m_if_ne F e_X10_ifIndex_48 (fun q48 => ?_) (fun q48 => ?_)
          · have c48 : n6370 ≠ 0 := by have hh := mt (nI_eq (a := n6370) (b := 0) (by omega) (by omega)).mpr q48; omega
            refine m_aload_n F rfl e_X10_ifIndex_65 ?_
            refine r_get F e_X10_ifIndex_66 fl_X10_59 h6369 rfl (fun v hv f6371 => ?_)
            obtain rfl : v = .ref (c + 16) := hv
            refine m_iconst F (v := 0) (by decide) e_X10_ifIndex_69 ?_
            refine m_aload_n F rfl e_X10_ifIndex_70 ?_
            refine r_get F e_X10_ifIndex_71 fl_X10_63 h6369 rfl (fun v hv f6372 => ?_)
            obtain rfl : v = .ref (c + 17) := hv
            refine m_iconst F (v := 0) (by decide) e_X10_ifIndex_74 ?_
            obtain ⟨f6373, e6374, te6374⟩ : ∃ f, σ6367 (c + 16) = some (aJ V 1113 f) ∧ ∀ i, i < 1113 → EJ L i (f i) := h6369.1.cell (k := 16) (by decide)
            obtain ⟨g6375, e6376⟩ : ∃ f, σ6367 (c + 17) = some (aJ V 1113 f) := h6369.1.cell (k := 17) (by decide)
            refine m_callS F e_X10_ifIndex_75 (q_copies (x_l X) V _ _ (c + 16) (c + 17) 1113 1113 0 0 f6373 g6375 e6374 e6376 (by omega) (by omega) (by omega) (by omega)) cb_X10_copies ml_X10_230 sm_X10_copies rfl (rest := []) rfl (Nat.le_of_ble_eq_true rfl) ⟨Nat.le_of_ble_eq_true rfl, Nat.le_of_ble_eq_true rfl⟩ ⟨Nat.le_of_ble_eq_true rfl, Nat.le_of_ble_eq_true rfl⟩ (k' := 0) (z' := 0) (N' := N) rfl rfl rfl (fun r σ6377 hp => ?_)
            obtain ⟨p6378, rfl⟩ := hp
            have h6379 := HS.cp (k := 17) (g' := (⟨T, Z, u, h, P, L⟩ : RG)) h6369 p6378 (by decide) (by decide) ⟨_, rfl⟩ (fun _ _ _ q => q)
            have ga6380 : GB V c 17 1113 0 L σ6377 := ⟨_, p6378.1, fun i hi => by rw [show 0 + i = i from Nat.zero_add i, cpy_at0 hi, Nat.zero_add]; exact te6374 i hi⟩
            have hl6381 := hok.2 n6358 (by omega)
            have hl6382 := hok.2 n6358 (by omega)
            have hl6383 := hok.2 n6358 (by omega)
            refine m_aload_n F rfl e_X10_ifIndex_78 ?_
            refine m_iload_n F rfl e_X10_ifIndex_79 ?_
            refine m_iload_n F rfl e_X10_ifIndex_80 ?_
            refine m_i2l F e_X10_ifIndex_81 ?_
            refine Wm.toplE (w := lN n6361) (nI_l (by omega)) ?_
            refine r_callV F e_X10_ifIndex_82 (q_X10_indexes (x_l X) V c T Z u h P L _ _ n6358 n6361 h6379.1 (hok.b) hP (by omega) (by omega) (by first | omega | assumption | decide)) cb_X10_indexes ml_X10_273 im_X10_indexes se_X10_indexes h6379 rfl rfl (rest := []) rfl (Nat.le_of_ble_eq_true rfl) ⟨Nat.le_of_ble_eq_true rfl, Nat.le_of_ble_eq_true rfl⟩ ⟨Nat.le_of_ble_eq_true rfl, Nat.le_of_ble_eq_true rfl⟩ (fun r σ6384 hp => ?_)
            obtain ⟨h6385, rfl⟩ := hp
            have h6386 := HS.trans h6379 h6385 (by decide)
            have ga6387 := ga6380.of (h6385.2 (c + 17) (by rw [kC_at (k := 17) (by decide)]; decide))
            refine m_aload_n F rfl e_X10_ifIndex_85 ?_
            refine m_iload_n F rfl e_X10_ifIndex_86 ?_
            refine m_aload_n F rfl e_X10_ifIndex_87 ?_
            refine r_getC F e_X10_ifIndex_88 fl_X10_59 h6386 ((fld_eq (h6385.2 c (by rw [show kC c c = 1 from kC_at (k := 0) (by decide)]; decide))).trans ((fld_eq (p6378.2 _ (by omega))).trans f6371)) ?_
            refine m_sipush F (v := 160) (by decide) e_X10_ifIndex_91 ?_
            refine m_iload_n F rfl e_X10_ifIndex_94 ?_
            refine m_imul F e_X10_ifIndex_95 ?_
            refine Wm.topE (w := nI (160 * n6358)) (pk_mul 160 n6358) ?_
            refine m_iconst F (v := 5) (by decide) e_X10_ifIndex_96 ?_
            refine m_iadd F e_X10_ifIndex_97 ?_
            refine Wm.topE (w := nI (160 * n6358 + 5)) (nI_add (160 * n6358) 5) ?_
            refine r_sld F (j := 160 * n6358 + 5) e_X10_ifIndex_98 h6386 (nI_clamp (by omega)) (vp_in_nI (by omega) (by decide)) (fun x6388 h6389 f6390 => ?_)
            have hl6391 := hok.2 n6358 (by omega)
            obtain rfl : x6388 = lN (L n6358).2.2.2 := (EJ_l (l := n6358) (r := 5) (by omega) (by decide)).mp h6389
            refine m_l2i F e_X10_ifIndex_99 ?_
            refine Wm.topE (w := nI ((L n6358).2.2.2)) (lN_i ((L n6358).2.2.2)) ?_
            refine m_iconst F (v := 1) (by decide) e_X10_ifIndex_100 ?_
            refine m_iadd F e_X10_ifIndex_101 ?_
            refine Wm.topE (w := nI ((L n6358).2.2.2 + 1)) (nI_add ((L n6358).2.2.2) 1) ?_
            refine m_aload_n F rfl e_X10_ifIndex_102 ?_
            refine r_getC F e_X10_ifIndex_103 fl_X10_59 h6386 ((fld_eq (h6385.2 c (by rw [show kC c c = 1 from kC_at (k := 0) (by decide)]; decide))).trans ((fld_eq (p6378.2 _ (by omega))).trans f6371)) ?_
            refine m_sipush F (v := 160) (by decide) e_X10_ifIndex_106 ?_
            refine m_iload_n F rfl e_X10_ifIndex_109 ?_
            refine m_imul F e_X10_ifIndex_110 ?_
            refine Wm.topE (w := nI (160 * n6358)) (pk_mul 160 n6358) ?_
            refine m_iconst F (v := 2) (by decide) e_X10_ifIndex_111 ?_
            refine m_iadd F e_X10_ifIndex_112 ?_
            refine Wm.topE (w := nI (160 * n6358 + 2)) (nI_add (160 * n6358) 2) ?_
            refine r_sld F (j := 160 * n6358 + 2) e_X10_ifIndex_113 h6386 (nI_clamp (by omega)) (vp_in_nI (by omega) (by decide)) (fun x6392 h6393 f6394 => ?_)
            obtain ⟨n6395, hn6395, rfl⟩ : ∃ n : Nat, n ≤ 1000000 ∧ x6392 = lN n := (EJ_l (l := n6358) (r := 2) (by omega) (by decide)).mp h6393
            refine m_ldc2 F kc_X10_245 e_X10_ifIndex_114 ?_
            refine r_callV F e_X10_ifIndex_117 (q_X10_worthBy (x_l X) V c T Z u h P L _ _ n6358 ((L n6358).2.2.2 + 1) n6395 (-1) h6386.1 (hok.b) hP (by omega) (by omega) (by omega) (by first | omega | assumption | decide)) cb_X10_worthBy ml_X10_247 im_X10_worthBy se_X10_worthBy h6386 rfl rfl (rest := []) rfl (Nat.le_of_ble_eq_true rfl) ⟨Nat.le_of_ble_eq_true rfl, Nat.le_of_ble_eq_true rfl⟩ ⟨Nat.le_of_ble_eq_true rfl, Nat.le_of_ble_eq_true rfl⟩ (fun r σ6396 hp => ?_)
            obtain ⟨h6397, x6399, rfl⟩ := hp
            have h6398 := HS.trans h6386 h6397 (by decide)
            have ga6400 := ga6387.of (h6397.2 (c + 17) (by rw [kC_at (k := 17) (by decide)]; decide))
            refine m_lstore_n F (lv' := [(3, .long x6399), (0, .ref c), (1, .int (nI n6358)), (2, .int (nI n6361))]) e_X10_ifIndex_120 (by decide) rfl ?_
            refine m_aload_n F rfl e_X10_ifIndex_121 ?_
            refine r_callV F e_X10_ifIndex_122 (q_X10_back1 (x_l X) V c T Z u h P L _ _ L h6398.1 (hok.b) hP ga6400) cb_X10_back1 ml_X10_332 im_X10_back1 se_X10_back1 h6398 rfl rfl (rest := []) rfl (Nat.le_of_ble_eq_true rfl) ⟨Nat.le_of_ble_eq_true rfl, Nat.le_of_ble_eq_true rfl⟩ ⟨Nat.le_of_ble_eq_true rfl, Nat.le_of_ble_eq_true rfl⟩ (fun r σ6401 hp => ?_)
            obtain ⟨h6402, rfl⟩ := hp
            have h6403 := HS.trans h6398 h6402 (by decide)
            have ga6404 := ga6400.of (h6402.2 (c + 17) (by rw [kC_at (k := 17) (by decide)]; decide))
            refine m_lload_n F rfl e_X10_ifIndex_125 ?_
            exact m_lret F hQ e_X10_ifIndex_126 (⟨h6403, _, rfl⟩)
          · have c48 : n6370 = 0 := (nI_eq (a := n6370) (b := 0) (by omega) (by omega)).mp q48
            refine m_aload_n F rfl e_X10_ifIndex_51 ?_
            refine r_get F e_X10_ifIndex_52 fl_X10_59 h6369 rfl (fun v hv f6405 => ?_)
            obtain rfl : v = .ref (c + 16) := hv
            refine m_sipush F (v := 160) (by decide) e_X10_ifIndex_55 ?_
            refine m_iload_n F rfl e_X10_ifIndex_58 ?_
            refine m_imul F e_X10_ifIndex_59 ?_
            refine Wm.topE (w := nI (160 * n6358)) (pk_mul 160 n6358) ?_
            refine m_bipush F (v := 6) (by decide) e_X10_ifIndex_60 ?_
            refine m_iadd F e_X10_ifIndex_62 ?_
            refine Wm.topE (w := nI (160 * n6358 + 6)) (nI_add (160 * n6358) 6) ?_
            refine r_sld F (j := 160 * n6358 + 6) e_X10_ifIndex_63 h6369 (nI_clamp (by omega)) (vp_in_nI (by omega) (by decide)) (fun x6406 h6407 f6408 => ?_)
            exact m_lret F hQ e_X10_ifIndex_64 (⟨h6369, _, rfl⟩)
      · have c24 : n6361 > 2000 := by have hh := mt (nI_leI (a := n6361) (b := 2000) (by omega) (by omega)).mpr q24; omega
        refine m_ldc2 F kc_X10_245 e_X10_ifIndex_27 ?_
        exact m_lret F hQ e_X10_ifIndex_30 (⟨h6356, _, rfl⟩)
set_option maxRecDepth 20000 in
theorem q_X10_rate (l : Launch) (V : VX) (c T Z u h : Nat) (P : NP) (L : Nat → LQ) (N : Nat) (σ : Mem) (x901 : Int32) (x902 : Int32) (h0 : HR V c ⟨T, Z, u, h, P, L⟩ σ) (hok : OKL P.n0 L) (hP : OKP P) (hp0 : u ≤ 20) (hp1 : P.kk = P.n0) : Ct l V yX10_rate cX10_rate 3 (some .long) 3 0 0 N σ [.ref c, .int x901, .int x902] (fun r τ => ∃ u9, u9 ≤ 20 ∧ ∃ L9, OKL P.n0 L9 ∧ HS V c (⟨T, Z, u9, h, P, L9⟩ : RG) [0, 2, 3, 4, 5, 6, 7, 8, 9, 10, 11, 12, 13, 14, 15, 16, 18, 19, 20, 22] σ τ ∧ ∃ x : Int64, r = some (.long x)) := by
  refine Ct.of (by decide) (Nat.le_of_ble_eq_true rfl) [(0, .ref c), (1, .int x901), (2, .int x902)] rfl (fun X hX F hQ => ?_)
  have hPP := hP
  unfold OKP at hPP
  have h1 : HS V c ⟨T, Z, u, h, P, L⟩ [0, 2, 3, 4, 5, 6, 7, 8, 9, 10, 11, 12, 13, 14, 15, 16, 18, 19, 20, 22] σ σ := HS.start h0
  refine m_aload_n F rfl e_X10_rate_0 ?_
  refine m_iconst F (v := 0) (by decide) e_X10_rate_1 ?_
  refine r_put F (g' := (⟨T, Z, u, h, P, L⟩ : RG)) e_X10_rate_2 fp_X10_91 h1 (by decide) ⟨_, rfl⟩ (fun _ _ _ _ q => q) (fun _ _ _ q => q) rfl rfl (by decide) (fun σ6409 h6410 g6411 g6412 f6413 => ?_)
  refine m_aload_n F rfl e_X10_rate_5 ?_
  refine m_iload_n F rfl e_X10_rate_6 ?_
  refine r_callV F e_X10_rate_7 (q_X10_isRunning (x_l X) V c T Z u h P L _ _ x901 h6410.1 (hok.b) hP ) cb_X10_isRunning ml_X10_301 im_X10_isRunning se_X10_isRunning h6410 rfl rfl (rest := []) rfl (Nat.le_of_ble_eq_true rfl) ⟨Nat.le_of_ble_eq_true rfl, Nat.le_of_ble_eq_true rfl⟩ ⟨Nat.le_of_ble_eq_true rfl, Nat.le_of_ble_eq_true rfl⟩ (fun r σ6414 hp => ?_)
  obtain ⟨h6415, c6417⟩ := hp
  have h6416 := HS.trans h6410 h6415 (by decide)
  rcases c6417 with rfl | ⟨n6418, h6419, h6420, e6421, rfl⟩
  · refine m_if_eq F e_X10_rate_10 (fun _ => ?_) (fun q => absurd (by decide) q)
    refine m_ldc2 F kc_X10_299 e_X10_rate_23 ?_
    exact m_lret F hQ e_X10_rate_26 (⟨u, by omega, L, hok, h6416, _, rfl⟩)
  · subst e6421
    refine m_if_eq F e_X10_rate_10 (fun q => absurd q (by decide)) (fun _ => ?_)
    refine m_iload_n F rfl e_X10_rate_13 ?_
    refine m_if_lt F e_X10_rate_14 (fun q14 => ?_) (fun q14 => ?_)
    · refine m_ldc2 F kc_X10_299 e_X10_rate_23 ?_
      exact m_lret F hQ e_X10_rate_26 (⟨u, by omega, L, hok, h6416, _, rfl⟩)
    · obtain ⟨n6422, hn6422, rfl⟩ := nI_nn (x := x902) (fun e => q14 (Int32.lt_of_lt_of_le e (by decide)))
      have c14 : n6422 ≥ 0 := by have hh := mt (nI_ltI (a := n6422) (b := 0) (by omega) (by omega)).mpr q14; omega
      refine m_iload_n F rfl e_X10_rate_17 ?_
      refine m_ldc F kc_X10_169 e_X10_rate_18 ?_
      refine m_icmp_le F e_X10_rate_20 (fun q20 => ?_) (fun q20 => ?_)
      · have c20 : n6422 ≤ 200000 := (nI_leI (a := n6422) (b := 200000) (by omega) (by omega)).mp q20
        refine m_aload_n F rfl e_X10_rate_27 ?_
        refine r_callV F e_X10_rate_28 (q_X10_remembers (x_l X) V c T Z u h P L _ _  h6416.1 (hok) hP (by first | omega | assumption | decide) (by first | omega | assumption | decide)) cb_X10_remembers ml_X10_286 im_X10_remembers se_X10_remembers h6416 rfl rfl (rest := []) rfl (Nat.le_of_ble_eq_true rfl) ⟨Nat.le_of_ble_eq_true rfl, Nat.le_of_ble_eq_true rfl⟩ ⟨Nat.le_of_ble_eq_true rfl, Nat.le_of_ble_eq_true rfl⟩ (fun r σ6423 hp => ?_)
        obtain ⟨u6426, hu6426, h6424, rfl⟩ := hp
        have h6425 := HS.trans h6416 h6424 (by decide)
        refine m_aload_n F rfl e_X10_rate_31 ?_
        refine r_get F e_X10_rate_32 fl_X10_59 h6425 rfl (fun v hv f6427 => ?_)
        obtain rfl : v = .ref (c + 16) := hv
        refine m_sipush F (v := 160) (by decide) e_X10_rate_35 ?_
        refine m_iload_n F rfl e_X10_rate_38 ?_
        refine m_imul F e_X10_rate_39 ?_
        refine Wm.topE (w := nI (160 * n6418)) (pk_mul 160 n6418) ?_
        refine m_iconst F (v := 2) (by decide) e_X10_rate_40 ?_
        refine m_iadd F e_X10_rate_41 ?_
        refine Wm.topE (w := nI (160 * n6418 + 2)) (nI_add (160 * n6418) 2) ?_
        refine m_iload_n F rfl e_X10_rate_42 ?_
        refine m_i2l F e_X10_rate_43 ?_
        refine Wm.toplE (w := lN n6422) (nI_l (by omega)) ?_
        refine r_sst F (g' := (⟨T, Z, u6426, h, P, L⟩ : RG)) (j := 160 * n6418 + 2) e_X10_rate_44 h6425 (by decide) (nI_clamp (by omega)) (vp_in_nI (by omega) (by decide)) (fun f q => EJ_same ((EJ_l (l := n6418) (r := 2) (by omega) (by decide)).mpr ⟨n6422, by omega, rfl⟩) q) (fun _ _ _ q => q) (fun σ6428 h6429 g6430 => ?_)
        refine m_aload_n F rfl e_X10_rate_45 ?_
        refine m_iload_n F rfl e_X10_rate_46 ?_
        refine r_callV F e_X10_rate_47 (q_X10_remeasures (x_l X) V c T Z u6426 h P L _ _ n6418 h6429.1 (hok.b) hP (by omega)) cb_X10_remeasures ml_X10_277 im_X10_remeasures se_X10_remeasures h6429 rfl rfl (rest := []) rfl (Nat.le_of_ble_eq_true rfl) ⟨Nat.le_of_ble_eq_true rfl, Nat.le_of_ble_eq_true rfl⟩ ⟨Nat.le_of_ble_eq_true rfl, Nat.le_of_ble_eq_true rfl⟩ (fun r σ6431 hp => ?_)
        obtain ⟨h6432, x6434, rfl⟩ := hp
        have h6433 := HS.trans h6429 h6432 (by decide)
        exact m_lret F hQ e_X10_rate_50 (⟨u6426, by omega, L, hok, h6433, _, rfl⟩)
      · have c20 : n6422 > 200000 := by have hh := mt (nI_leI (a := n6422) (b := 200000) (by omega) (by omega)).mpr q20; omega
        refine m_ldc2 F kc_X10_299 e_X10_rate_23 ?_
        exact m_lret F hQ e_X10_rate_26 (⟨u, by omega, L, hok, h6416, _, rfl⟩)
set_option maxRecDepth 20000 in
theorem q_X10_extend (l : Launch) (V : VX) (c T Z u h : Nat) (P : NP) (L : Nat → LQ) (N : Nat) (σ : Mem) (x901 : Int32) (x902 : Int32) (h0 : HR V c ⟨T, Z, u, h, P, L⟩ σ) (hok : OKL P.n0 L) (hP : OKP P) (hp0 : u ≤ 20) (hp1 : P.kk = P.n0) : Ct l V yX10_extend cX10_extend 4 (some .long) 3 0 0 N σ [.ref c, .int x901, .int x902] (fun r τ => ∃ u9, u9 ≤ 20 ∧ ∃ L9, OKL P.n0 L9 ∧ HS V c (⟨T, Z, u9, h, P, L9⟩ : RG) [0, 2, 3, 4, 5, 6, 7, 8, 9, 10, 11, 12, 13, 14, 15, 16, 18, 19, 20, 22] σ τ ∧ ∃ x : Int64, r = some (.long x)) := by
  refine Ct.of (by decide) (Nat.le_of_ble_eq_true rfl) [(0, .ref c), (1, .int x901), (2, .int x902)] rfl (fun X hX F hQ => ?_)
  have hPP := hP
  unfold OKP at hPP
  have h1 : HS V c ⟨T, Z, u, h, P, L⟩ [0, 2, 3, 4, 5, 6, 7, 8, 9, 10, 11, 12, 13, 14, 15, 16, 18, 19, 20, 22] σ σ := HS.start h0
  refine m_aload_n F rfl e_X10_extend_0 ?_
  refine m_iconst F (v := 0) (by decide) e_X10_extend_1 ?_
  refine r_put F (g' := (⟨T, Z, u, h, P, L⟩ : RG)) e_X10_extend_2 fp_X10_91 h1 (by decide) ⟨_, rfl⟩ (fun _ _ _ _ q => q) (fun _ _ _ q => q) rfl rfl (by decide) (fun σ6435 h6436 g6437 g6438 f6439 => ?_)
  refine m_aload_n F rfl e_X10_extend_5 ?_
  refine m_iload_n F rfl e_X10_extend_6 ?_
  refine r_callV F e_X10_extend_7 (q_X10_isRunning (x_l X) V c T Z u h P L _ _ x901 h6436.1 (hok.b) hP ) cb_X10_isRunning ml_X10_301 im_X10_isRunning se_X10_isRunning h6436 rfl rfl (rest := []) rfl (Nat.le_of_ble_eq_true rfl) ⟨Nat.le_of_ble_eq_true rfl, Nat.le_of_ble_eq_true rfl⟩ ⟨Nat.le_of_ble_eq_true rfl, Nat.le_of_ble_eq_true rfl⟩ (fun r σ6440 hp => ?_)
  obtain ⟨h6441, c6443⟩ := hp
  have h6442 := HS.trans h6436 h6441 (by decide)
  rcases c6443 with rfl | ⟨n6444, h6445, h6446, e6447, rfl⟩
  · refine m_if_eq F e_X10_extend_10 (fun _ => ?_) (fun q => absurd (by decide) q)
    refine m_ldc2 F kc_X10_299 e_X10_extend_33 ?_
    exact m_lret F hQ e_X10_extend_36 (⟨u, by omega, L, hok, h6442, _, rfl⟩)
  · subst e6447
    refine m_if_eq F e_X10_extend_10 (fun q => absurd q (by decide)) (fun _ => ?_)
    refine m_iload_n F rfl e_X10_extend_13 ?_
    refine m_iconst F (v := 1) (by decide) e_X10_extend_14 ?_
    refine m_icmp_lt F e_X10_extend_15 (fun q15 => ?_) (fun q15 => ?_)
    · refine m_ldc2 F kc_X10_299 e_X10_extend_33 ?_
      exact m_lret F hQ e_X10_extend_36 (⟨u, by omega, L, hok, h6442, _, rfl⟩)
    · obtain ⟨n6448, hn6448, rfl⟩ := nI_nn (x := x902) (fun e => q15 (Int32.lt_of_lt_of_le e (by decide)))
      have c15 : n6448 ≥ 1 := by have hh := mt (nI_ltI (a := n6448) (b := 1) (by omega) (by omega)).mpr q15; omega
      refine m_iload_n F rfl e_X10_extend_18 ?_
      refine m_bipush F (v := 24) (by decide) e_X10_extend_19 ?_
      refine m_icmp_gt F e_X10_extend_21 (fun q21 => ?_) (fun q21 => ?_)
      · have c21 : n6448 > 24 := (nI_ltI (a := 24) (b := n6448) (by omega) (by omega)).mp q21
        refine m_ldc2 F kc_X10_299 e_X10_extend_33 ?_
        exact m_lret F hQ e_X10_extend_36 (⟨u, by omega, L, hok, h6442, _, rfl⟩)
      · have c21 : n6448 ≤ 24 := by have hh := mt (nI_ltI (a := 24) (b := n6448) (by omega) (by omega)).mpr q21; omega
        refine m_aload_n F rfl e_X10_extend_24 ?_
        refine m_iload_n F rfl e_X10_extend_25 ?_
        refine m_iload_n F rfl e_X10_extend_26 ?_
        refine r_callV F e_X10_extend_27 (q_X10_canBeLonger (x_l X) V c T Z u h P L _ _ n6444 n6448 h6442.1 (hok.b) hP (by omega) (by omega)) cb_X10_canBeLonger ml_X10_306 im_X10_canBeLonger se_X10_canBeLonger h6442 rfl rfl (rest := []) rfl (Nat.le_of_ble_eq_true rfl) ⟨Nat.le_of_ble_eq_true rfl, Nat.le_of_ble_eq_true rfl⟩ ⟨Nat.le_of_ble_eq_true rfl, Nat.le_of_ble_eq_true rfl⟩ (fun r σ6449 hp => ?_)
        obtain ⟨h6450, c6452⟩ := hp
        have h6451 := HS.trans h6442 h6450 (by decide)
        rcases c6452 with rfl | ⟨h6453, rfl⟩
        · refine m_if_ne F e_X10_extend_30 (fun q => absurd (by decide) q) (fun _ => ?_)
          refine m_ldc2 F kc_X10_299 e_X10_extend_33 ?_
          exact m_lret F hQ e_X10_extend_36 (⟨u, by omega, L, hok, h6451, _, rfl⟩)
        · refine m_if_ne F e_X10_extend_30 (fun _ => ?_) (fun q => absurd q (by decide))
          refine m_aload_n F rfl e_X10_extend_37 ?_
          refine r_callV F e_X10_extend_38 (q_X10_remembers (x_l X) V c T Z u h P L _ _  h6451.1 (hok) hP (by first | omega | assumption | decide) (by first | omega | assumption | decide)) cb_X10_remembers ml_X10_286 im_X10_remembers se_X10_remembers h6451 rfl rfl (rest := []) rfl (Nat.le_of_ble_eq_true rfl) ⟨Nat.le_of_ble_eq_true rfl, Nat.le_of_ble_eq_true rfl⟩ ⟨Nat.le_of_ble_eq_true rfl, Nat.le_of_ble_eq_true rfl⟩ (fun r σ6454 hp => ?_)
          obtain ⟨u6457, hu6457, h6455, rfl⟩ := hp
          have h6456 := HS.trans h6451 h6455 (by decide)
          have hl6458 := hok.2 n6444 (by omega)
          have hl6459 := hok.2 n6444 (by omega)
          have hl6460 := hok.2 n6444 (by omega)
          refine m_sipush F (v := 160) (by decide) e_X10_extend_41 ?_
          refine m_iload_n F rfl e_X10_extend_44 ?_
          refine m_imul F e_X10_extend_45 ?_
          refine Wm.topE (w := nI (160 * n6444)) (pk_mul 160 n6444) ?_
          refine m_aload_n F rfl e_X10_extend_46 ?_
          refine r_get F e_X10_extend_47 fl_X10_59 h6456 rfl (fun v hv f6461 => ?_)
          obtain rfl : v = .ref (c + 16) := hv
          refine m_sipush F (v := 160) (by decide) e_X10_extend_50 ?_
          refine m_iload_n F rfl e_X10_extend_53 ?_
          refine m_imul F e_X10_extend_54 ?_
          refine Wm.topE (w := nI (160 * n6444)) (pk_mul 160 n6444) ?_
          refine m_iconst F (v := 1) (by decide) e_X10_extend_55 ?_
          refine m_iadd F e_X10_extend_56 ?_
          refine Wm.topE (w := nI (160 * n6444 + 1)) (nI_add (160 * n6444) 1) ?_
          refine r_sld F (j := 160 * n6444 + 1) e_X10_extend_57 h6456 (nI_clamp (by omega)) (vp_in_nI (by omega) (by decide)) (fun x6462 h6463 f6464 => ?_)
          have hl6465 := hok.2 n6444 (by omega)
          obtain rfl : x6462 = lN (L n6444).2.1 := (EJ_l (l := n6444) (r := 1) (by omega) (by decide)).mp h6463
          refine m_l2i F e_X10_extend_58 ?_
          refine Wm.topE (w := nI ((L n6444).2.1)) (lN_i ((L n6444).2.1)) ?_
          refine m_iadd F e_X10_extend_59 ?_
          refine Wm.topE (w := nI ((160 * n6444) + ((L n6444).2.1))) (nI_add (160 * n6444) ((L n6444).2.1)) ?_
          refine m_iconst F (v := 1) (by decide) e_X10_extend_60 ?_
          refine m_isub F e_X10_extend_61 ?_
          refine Wm.topE (w := nI (((160 * n6444) + ((L n6444).2.1)) - 1)) (pk_sub (a := (160 * n6444) + ((L n6444).2.1)) (b := 1) (by omega)) ?_
          refine m_istore_n F (lv' := [(3, .int (nI (((160 * n6444) + ((L n6444).2.1)) - 1))), (0, .ref c), (1, .int (nI n6444)), (2, .int (nI n6448))]) e_X10_extend_62 (by decide) rfl ?_
          refine m_aload_n F rfl e_X10_extend_63 ?_
          refine m_iload_n F rfl e_X10_extend_64 ?_
          refine m_iload_n F rfl e_X10_extend_65 ?_
          refine m_aload_n F rfl e_X10_extend_66 ?_
          refine r_getC F e_X10_extend_67 fl_X10_59 h6456 (f6461) ?_
          refine m_iload_n F rfl e_X10_extend_70 ?_
          refine m_bipush F (v := 13) (by decide) e_X10_extend_71 ?_
          refine m_iadd F e_X10_extend_73 ?_
          refine Wm.topE (w := nI (((160 * n6444) + ((L n6444).2.1)) - 1 + 13)) (nI_add (((160 * n6444) + ((L n6444).2.1)) - 1) 13) ?_
          refine r_sld F (j := ((160 * n6444) + ((L n6444).2.1)) - 1 + 13) e_X10_extend_74 h6456 (nI_clamp (by omega)) (vp_in_nI (by omega) (by decide)) (fun x6466 h6467 f6468 => ?_)
          refine m_aload_n F rfl e_X10_extend_75 ?_
          refine r_getC F e_X10_extend_76 fl_X10_59 h6456 (f6461) ?_
          refine m_iload_n F rfl e_X10_extend_79 ?_
          refine m_bipush F (v := 85) (by decide) e_X10_extend_80 ?_
          refine m_iadd F e_X10_extend_82 ?_
          refine Wm.topE (w := nI (((160 * n6444) + ((L n6444).2.1)) - 1 + 85)) (nI_add (((160 * n6444) + ((L n6444).2.1)) - 1) 85) ?_
          refine r_sld F (j := ((160 * n6444) + ((L n6444).2.1)) - 1 + 85) e_X10_extend_83 h6456 (nI_clamp (by omega)) (vp_in_nI (by omega) (by decide)) (fun x6469 h6470 f6471 => ?_)
          refine r_callV F e_X10_extend_84 (q_X10_adds (x_l X) V c T Z u6457 h P L _ _ n6444 n6448 x6466 x6469 h6456.1 (hok) hP (by omega) (by omega) (by first | omega | assumption | decide)) cb_X10_adds ml_X10_309 im_X10_adds se_X10_adds h6456 rfl rfl (rest := []) rfl (Nat.le_of_ble_eq_true rfl) ⟨Nat.le_of_ble_eq_true rfl, Nat.le_of_ble_eq_true rfl⟩ ⟨Nat.le_of_ble_eq_true rfl, Nat.le_of_ble_eq_true rfl⟩ (fun r σ6472 hp => ?_)
          obtain ⟨L6475, okL6475, r6476, r6477, r6478, h6473, rfl⟩ := hp
          have h6474 := HS.trans h6456 h6473 (by decide)
          refine m_aload_n F rfl e_X10_extend_87 ?_
          refine m_iload_n F rfl e_X10_extend_88 ?_
          refine r_callV F e_X10_extend_89 (q_X10_remeasures (x_l X) V c T Z u6457 h P L6475 _ _ n6444 h6474.1 (okL6475.b) hP (by omega)) cb_X10_remeasures ml_X10_277 im_X10_remeasures se_X10_remeasures h6474 rfl rfl (rest := []) rfl (Nat.le_of_ble_eq_true rfl) ⟨Nat.le_of_ble_eq_true rfl, Nat.le_of_ble_eq_true rfl⟩ ⟨Nat.le_of_ble_eq_true rfl, Nat.le_of_ble_eq_true rfl⟩ (fun r σ6479 hp => ?_)
          obtain ⟨h6480, x6482, rfl⟩ := hp
          have h6481 := HS.trans h6474 h6480 (by decide)
          exact m_lret F hQ e_X10_extend_92 (⟨u6457, by omega, L6475, okL6475, h6481, _, rfl⟩)
set_option maxRecDepth 20000 in
theorem q_X10_canTake (l : Launch) (V : VX) (c T Z u h : Nat) (P : NP) (L : Nat → LQ) (N : Nat) (σ : Mem) (x901 : Int32) (h0 : HR V c ⟨T, Z, u, h, P, L⟩ σ) (hob : OKB L) (hP : OKP P)  : Ct l V yX10_canTake cX10_canTake 2 (some .boolean) 1 0 0 N σ [.ref c, .int x901] (fun r τ => HS V c (⟨T, Z, u, h, P, L⟩ : RG) [0, 1, 2, 3, 4, 5, 6, 7, 8, 9, 10, 11, 12, 13, 14, 15, 16, 17, 18, 19, 20, 21, 22, 23] σ τ ∧ (r = some (.int 0) ∨ ∃ j n m : Nat, j ≤ 3 ∧ n ≤ 3 ∧ m ≤ 24 ∧ (L n).1 = 1 ∧ (L n).2.1 + m ≤ 72 ∧ elI τ (c + 13) j = some (nI n) ∧ elI τ (c + 14) j = some (nI m) ∧ x901 = nI j ∧ r = some (.int 1))) := by
  refine Ct.of (by decide) (Nat.le_of_ble_eq_true rfl) [(0, .ref c), (1, .int x901)] rfl (fun X hX F hQ => ?_)
  have hPP := hP
  unfold OKP at hPP
  have h1 : HS V c ⟨T, Z, u, h, P, L⟩ [0, 1, 2, 3, 4, 5, 6, 7, 8, 9, 10, 11, 12, 13, 14, 15, 16, 17, 18, 19, 20, 21, 22, 23] σ σ := HS.start h0
  refine m_iload_n F rfl e_X10_canTake_0 ?_
  refine m_if_lt F e_X10_canTake_1 (fun q1 => ?_) (fun q1 => ?_)
  · refine m_iconst F (v := 0) (by decide) e_X10_canTake_65 ?_
    exact m_zret F hQ e_X10_canTake_66 (by decide) (⟨h1, Or.inl rfl⟩)
  · obtain ⟨n6483, hn6483, rfl⟩ := nI_nn (x := x901) (fun e => q1 (Int32.lt_of_lt_of_le e (by decide)))
    have c1 : n6483 ≥ 0 := by have hh := mt (nI_ltI (a := n6483) (b := 0) (by omega) (by omega)).mpr q1; omega
    refine m_iload_n F rfl e_X10_canTake_4 ?_
    refine m_aload_n F rfl e_X10_canTake_5 ?_
    refine r_get F e_X10_canTake_6 fl_X10_13 h1 rfl (fun v hv f6484 => ?_)
    obtain rfl : v = .ref (c + 2) := hv
    refine m_iconst F (v := 3) (by decide) e_X10_canTake_9 ?_
    refine r_iald F (len := 10) (j := 3) e_X10_canTake_10 h1 (fun _ h => h) (by decide) (by decide) (by unfold vp_in; decide) (fun x6485 h6486 f6487 => ?_)
    obtain ⟨n6488, hn6488, rfl⟩ := h6486.2.2.2.2.1 rfl
    refine m_icmp_ge F e_X10_canTake_11 (fun q11 => ?_) (fun q11 => ?_)
    · have c11 : n6483 ≥ n6488 := (nI_leI (a := n6488) (b := n6483) (by omega) (by omega)).mp q11
      refine m_iconst F (v := 0) (by decide) e_X10_canTake_65 ?_
      exact m_zret F hQ e_X10_canTake_66 (by decide) (⟨h1, Or.inl rfl⟩)
    · have c11 : n6483 < n6488 := by have hh := mt (nI_leI (a := n6488) (b := n6483) (by omega) (by omega)).mpr q11; omega
      refine m_aload_n F rfl e_X10_canTake_14 ?_
      refine r_get F e_X10_canTake_15 fl_X10_59 h1 rfl (fun v hv f6489 => ?_)
      obtain rfl : v = .ref (c + 16) := hv
      refine m_sipush F (v := 640) (by decide) e_X10_canTake_18 ?_
      refine m_iload_n F rfl e_X10_canTake_21 ?_
      refine m_iadd F e_X10_canTake_22 ?_
      refine Wm.topE (w := nI (640 + n6483)) (nI_add 640 n6483) ?_
      refine r_sld F (j := 640 + n6483) e_X10_canTake_23 h1 (nI_clamp (by omega)) (vp_in_nI (by omega) (by decide)) (fun x6490 h6491 f6492 => ?_)
      refine m_lconst F (v := 0) (by decide) e_X10_canTake_24 ?_
      refine m_lcmp F e_X10_canTake_25 ?_
      refine Wm.top (fun x6493 _ => ?_)
      refine m_if_ne F e_X10_canTake_26 (fun q26 => ?_) (fun q26 => ?_)
      · refine m_iconst F (v := 0) (by decide) e_X10_canTake_65 ?_
        exact m_zret F hQ e_X10_canTake_66 (by decide) (⟨h1, Or.inl rfl⟩)
      · subst q26
        refine m_aload_n F rfl e_X10_canTake_29 ?_
        refine m_aload_n F rfl e_X10_canTake_30 ?_
        refine r_get F e_X10_canTake_31 fl_X10_46 h1 rfl (fun v hv f6494 => ?_)
        obtain rfl : v = .ref (c + 13) := hv
        refine m_iload_n F rfl e_X10_canTake_34 ?_
        refine r_iald F (len := 8) (j := n6483) e_X10_canTake_35 h1 (fun _ h => h) (by decide) (nI_clamp (by omega)) (vp_in_nI (by omega) (by decide)) (fun x6495 h6496 f6497 => ?_)
        obtain ⟨n6498, hn6498, rfl⟩ := h6496
        refine r_callV F e_X10_canTake_36 (q_X10_isOn (x_l X) V c T Z u h P L _ _ n6498 h1.1 (hob) hP (by omega)) cb_X10_isOn ml_X10_267 im_X10_isOn se_X10_isOn h1 rfl rfl (rest := []) rfl (Nat.le_of_ble_eq_true rfl) ⟨Nat.le_of_ble_eq_true rfl, Nat.le_of_ble_eq_true rfl⟩ ⟨Nat.le_of_ble_eq_true rfl, Nat.le_of_ble_eq_true rfl⟩ (fun r σ6499 hp => ?_)
        obtain ⟨h6500, c6502⟩ := hp
        have h6501 := HS.trans h1 h6500 (by decide)
        rcases c6502 with ⟨g6503, rfl⟩ | ⟨g6503, rfl⟩
        · refine m_if_eq F e_X10_canTake_39 (fun _ => ?_) (fun q => absurd (by decide) q)
          refine m_iconst F (v := 0) (by decide) e_X10_canTake_65 ?_
          exact m_zret F hQ e_X10_canTake_66 (by decide) (⟨h6501, Or.inl rfl⟩)
        · refine m_if_eq F e_X10_canTake_39 (fun q => absurd q (by decide)) (fun _ => ?_)
          refine m_aload_n F rfl e_X10_canTake_42 ?_
          refine m_aload_n F rfl e_X10_canTake_43 ?_
          refine r_getC F e_X10_canTake_44 fl_X10_46 h6501 ((fld_eq (h6500.2 c (by rw [show kC c c = 1 from kC_at (k := 0) (by decide)]; decide))).trans f6494) ?_
          refine m_iload_n F rfl e_X10_canTake_47 ?_
          refine r_iald F (len := 8) (j := n6483) e_X10_canTake_48 h6501 (fun _ h => h) (by decide) (nI_clamp (by omega)) (vp_in_nI (by omega) (by decide)) (fun x6504 h6505 f6506 => ?_)
          obtain rfl := Option.some.inj ((f6506).symm.trans ((elI_eq (h6500.2 (c + 13) (by rw [kC_at (k := 13) (by decide)]; decide))).trans f6497))
          refine m_aload_n F rfl e_X10_canTake_49 ?_
          refine r_get F e_X10_canTake_50 fl_X10_49 h6501 rfl (fun v hv f6507 => ?_)
          obtain rfl : v = .ref (c + 14) := hv
          refine m_iload_n F rfl e_X10_canTake_53 ?_
          refine r_iald F (len := 8) (j := n6483) e_X10_canTake_54 h6501 (fun _ h => h) (by decide) (nI_clamp (by omega)) (vp_in_nI (by omega) (by decide)) (fun x6508 h6509 f6510 => ?_)
          obtain ⟨n6511, hn6511, rfl⟩ := h6509
          refine r_callV F e_X10_canTake_55 (q_X10_canBeLonger (x_l X) V c T Z u h P L _ _ n6498 n6511 h6501.1 (hob) hP (by omega) (by omega)) cb_X10_canBeLonger ml_X10_306 im_X10_canBeLonger se_X10_canBeLonger h6501 rfl rfl (rest := []) rfl (Nat.le_of_ble_eq_true rfl) ⟨Nat.le_of_ble_eq_true rfl, Nat.le_of_ble_eq_true rfl⟩ ⟨Nat.le_of_ble_eq_true rfl, Nat.le_of_ble_eq_true rfl⟩ (fun r σ6512 hp => ?_)
          obtain ⟨h6513, c6515⟩ := hp
          have h6514 := HS.trans h6501 h6513 (by decide)
          rcases c6515 with rfl | ⟨h6516, rfl⟩
          · refine m_if_eq F e_X10_canTake_58 (fun _ => ?_) (fun q => absurd (by decide) q)
            refine m_iconst F (v := 0) (by decide) e_X10_canTake_65 ?_
            exact m_zret F hQ e_X10_canTake_66 (by decide) (⟨h6514, Or.inl rfl⟩)
          · refine m_if_eq F e_X10_canTake_58 (fun q => absurd q (by decide)) (fun _ => ?_)
            refine m_iconst F (v := 1) (by decide) e_X10_canTake_61 ?_
            refine m_goto F e_X10_canTake_62 ?_
            exact m_zret F hQ e_X10_canTake_66 (by decide) (⟨h6514, Or.inr ⟨n6483, n6498, n6511, by omega, by omega, by omega, by omega, by omega, (elI_eq (h6513.2 (c + 13) (by rw [kC_at (k := 13) (by decide)]; decide))).trans ((elI_eq (h6500.2 (c + 13) (by rw [kC_at (k := 13) (by decide)]; decide))).trans f6497), (elI_eq (h6513.2 (c + 14) (by rw [kC_at (k := 14) (by decide)]; decide))).trans f6510, rfl, rfl⟩⟩)
set_option maxRecDepth 20000 in
theorem q_X10_takes (l : Launch) (V : VX) (c T Z u h : Nat) (P : NP) (L : Nat → LQ) (N : Nat) (σ : Mem) (n901 : Nat) (n m : Nat) (h0 : HR V c ⟨T, Z, u, h, P, L⟩ σ) (hok : OKL P.n0 L) (hP : OKP P) (hn901 : n901 ≤ 3) (hp0 : n ≤ 3) (hp1 : m ≤ 24) (hp2 : (L n).1 = 1) (hp3 : (L n).2.1 + m ≤ 72) (hp4 : elI σ (c + 13) n901 = some (nI n)) (hp5 : elI σ (c + 14) n901 = some (nI m)) : Ct l V yX10_takes cX10_takes 3 (some .long) 3 0 0 N σ [.ref c, .int (nI n901)] (fun r τ => ∃ L9, OKL P.n0 L9 ∧ HS V c (⟨T, Z, u, h, P, L9⟩ : RG) [0, 1, 2, 3, 4, 5, 6, 7, 8, 9, 10, 11, 12, 13, 14, 15, 16, 18, 19, 20, 21, 22] σ τ ∧ ∃ x : Int64, r = some (.long x)) := by
  refine Ct.of (by decide) (Nat.le_of_ble_eq_true rfl) [(0, .ref c), (1, .int (nI n901))] rfl (fun X hX F hQ => ?_)
  have hPP := hP
  unfold OKP at hPP
  have h1 : HS V c ⟨T, Z, u, h, P, L⟩ [0, 1, 2, 3, 4, 5, 6, 7, 8, 9, 10, 11, 12, 13, 14, 15, 16, 18, 19, 20, 21, 22] σ σ := HS.start h0
  refine m_aload_n F rfl e_X10_takes_0 ?_
  refine r_get F e_X10_takes_1 fl_X10_46 h1 rfl (fun v hv f6517 => ?_)
  obtain rfl : v = .ref (c + 13) := hv
  refine m_iload_n F rfl e_X10_takes_4 ?_
  refine r_iald F (len := 8) (j := n901) e_X10_takes_5 h1 (fun _ h => h) (by decide) (nI_clamp (by omega)) (vp_in_nI (by omega) (by decide)) (fun x6518 h6519 f6520 => ?_)
  obtain rfl := Option.some.inj ((f6520).symm.trans (hp4))
  refine m_istore_n F (lv' := [(2, .int (nI n)), (0, .ref c), (1, .int (nI n901))]) e_X10_takes_6 (by decide) rfl ?_
  refine m_aload_n F rfl e_X10_takes_7 ?_
  refine r_get F e_X10_takes_8 fl_X10_59 h1 rfl (fun v hv f6521 => ?_)
  obtain rfl : v = .ref (c + 16) := hv
  refine m_sipush F (v := 640) (by decide) e_X10_takes_11 ?_
  refine m_iload_n F rfl e_X10_takes_14 ?_
  refine m_iadd F e_X10_takes_15 ?_
  refine Wm.topE (w := nI (640 + n901)) (nI_add 640 n901) ?_
  refine m_lconst F (v := 1) (by decide) e_X10_takes_16 ?_
  refine r_sst F (g' := (⟨T, Z, u, h, P, L⟩ : RG)) (j := 640 + n901) e_X10_takes_17 h1 (by decide) (nI_clamp (by omega)) (vp_in_nI (by omega) (by decide)) (fun f q => EJ_same (EJ_w (by omega)) q) (fun _ _ _ q => q) (fun σ6522 h6523 g6524 => ?_)
  refine m_aload_n F rfl e_X10_takes_18 ?_
  refine m_iload_n F rfl e_X10_takes_19 ?_
  refine m_aload_n F rfl e_X10_takes_20 ?_
  refine r_get F e_X10_takes_21 fl_X10_49 h6523 rfl (fun v hv f6525 => ?_)
  obtain rfl : v = .ref (c + 14) := hv
  refine m_iload_n F rfl e_X10_takes_24 ?_
  refine r_iald F (len := 8) (j := n901) e_X10_takes_25 h6523 (fun _ h => h) (by decide) (nI_clamp (by omega)) (vp_in_nI (by omega) (by decide)) (fun x6526 h6527 f6528 => ?_)
  obtain rfl := Option.some.inj ((f6528).symm.trans ((elI_eq (g6524 _ (by omega))).trans hp5))
  refine m_aload_n F rfl e_X10_takes_26 ?_
  refine r_get F e_X10_takes_27 fl_X10_52 h6523 rfl (fun v hv f6529 => ?_)
  obtain rfl : v = .ref (c + 15) := hv
  refine m_iload_n F rfl e_X10_takes_30 ?_
  refine r_iald F (len := 8) (j := n901) e_X10_takes_31 h6523 (fun _ h => h) (by decide) (nI_clamp (by omega)) (vp_in_nI (by omega) (by decide)) (fun x6530 h6531 f6532 => ?_)
  refine m_i2l F e_X10_takes_32 ?_
  refine Wm.topl (fun x6533 _ => ?_)
  refine m_aload_n F rfl e_X10_takes_33 ?_
  refine r_getC F e_X10_takes_34 fl_X10_52 h6523 (f6529) ?_
  refine m_iload_n F rfl e_X10_takes_37 ?_
  refine r_iald F (len := 8) (j := n901) e_X10_takes_38 h6523 (fun _ h => h) (by decide) (nI_clamp (by omega)) (vp_in_nI (by omega) (by decide)) (fun x6534 h6535 f6536 => ?_)
  obtain rfl := Option.some.inj ((f6536).symm.trans (f6532))
  refine m_i2l F e_X10_takes_39 ?_
  refine Wm.topl (fun x6537 _ => ?_)
  refine r_callV F e_X10_takes_40 (q_X10_adds (x_l X) V c T Z u h P L _ _ n m x6533 x6537 h6523.1 (hok) hP (by omega) (by omega) (by first | omega | assumption | decide)) cb_X10_adds ml_X10_309 im_X10_adds se_X10_adds h6523 rfl rfl (rest := []) rfl (Nat.le_of_ble_eq_true rfl) ⟨Nat.le_of_ble_eq_true rfl, Nat.le_of_ble_eq_true rfl⟩ ⟨Nat.le_of_ble_eq_true rfl, Nat.le_of_ble_eq_true rfl⟩ (fun r σ6538 hp => ?_)
  obtain ⟨L6541, okL6541, r6542, r6543, r6544, h6539, rfl⟩ := hp
  have h6540 := HS.trans h6523 h6539 (by decide)
  refine m_aload_n F rfl e_X10_takes_43 ?_
  refine m_iload_n F rfl e_X10_takes_44 ?_
  refine r_callV F e_X10_takes_45 (q_X10_isTied (x_l X) V c T Z u h P L6541 _ _ n h6540.1 (okL6541.b) hP (by omega)) cb_X10_isTied ml_X10_270 im_X10_isTied se_X10_isTied h6540 rfl rfl (rest := []) rfl (Nat.le_of_ble_eq_true rfl) ⟨Nat.le_of_ble_eq_true rfl, Nat.le_of_ble_eq_true rfl⟩ ⟨Nat.le_of_ble_eq_true rfl, Nat.le_of_ble_eq_true rfl⟩ (fun r σ6545 hp => ?_)
  obtain ⟨h6546, n6548, hn6548, rfl⟩ := hp
  have h6547 := HS.trans h6540 h6546 (by decide)
  refine m_if_eq F e_X10_takes_48 (fun q48 => ?_) (fun q48 => ?_)
  · have c48 : n6548 = 0 := (nI_eq (a := n6548) (b := 0) (by omega) (by omega)).mp q48
    refine m_aload_n F rfl e_X10_takes_60 ?_
    refine m_iload_n F rfl e_X10_takes_61 ?_
    refine r_callV F e_X10_takes_62 (q_X10_remeasures (x_l X) V c T Z u h P L6541 _ _ n h6547.1 (okL6541.b) hP (by omega)) cb_X10_remeasures ml_X10_277 im_X10_remeasures se_X10_remeasures h6547 rfl rfl (rest := []) rfl (Nat.le_of_ble_eq_true rfl) ⟨Nat.le_of_ble_eq_true rfl, Nat.le_of_ble_eq_true rfl⟩ ⟨Nat.le_of_ble_eq_true rfl, Nat.le_of_ble_eq_true rfl⟩ (fun r σ6549 hp => ?_)
    obtain ⟨h6550, x6552, rfl⟩ := hp
    have h6551 := HS.trans h6547 h6550 (by decide)
    exact m_lret F hQ e_X10_takes_65 (⟨L6541, okL6541, h6551, _, rfl⟩)
  · have c48 : n6548 ≠ 0 := by have hh := mt (nI_eq (a := n6548) (b := 0) (by omega) (by omega)).mpr q48; omega
    have hl6553 := okL6541.2 n (by omega)
    have hl6554 := okL6541.2 n (by omega)
    have hl6555 := okL6541.2 n (by omega)
    refine m_aload_n F rfl e_X10_takes_51 ?_
    refine m_iload_n F rfl e_X10_takes_52 ?_
    refine m_aload_n F rfl e_X10_takes_53 ?_
    refine r_callV F e_X10_takes_54 (q_X10_indexNow (x_l X) V c T Z u h P L6541 _ _  h6547.1 (okL6541.b) hP ) cb_X10_indexNow ml_X10_260 im_X10_indexNow se_X10_indexNow h6547 rfl rfl (rest := [.int (nI n), .ref c]) rfl (Nat.le_of_ble_eq_true rfl) ⟨Nat.le_of_ble_eq_true rfl, Nat.le_of_ble_eq_true rfl⟩ ⟨Nat.le_of_ble_eq_true rfl, Nat.le_of_ble_eq_true rfl⟩ (fun r σ6556 hp => ?_)
    obtain ⟨h6557, n6559, hn6559, gn6559, rfl⟩ := hp
    have h6558 := HS.trans h6547 h6557 (by decide)
    refine r_callV F e_X10_takes_57 (q_X10_indexes (x_l X) V c T Z u h P L6541 _ _ n n6559 h6558.1 (okL6541.b) hP (by omega) (by omega) (by first | omega | assumption | decide)) cb_X10_indexes ml_X10_273 im_X10_indexes se_X10_indexes h6558 rfl rfl (rest := []) rfl (Nat.le_of_ble_eq_true rfl) ⟨Nat.le_of_ble_eq_true rfl, Nat.le_of_ble_eq_true rfl⟩ ⟨Nat.le_of_ble_eq_true rfl, Nat.le_of_ble_eq_true rfl⟩ (fun r σ6560 hp => ?_)
    obtain ⟨h6561, rfl⟩ := hp
    have h6562 := HS.trans h6558 h6561 (by decide)
    refine m_aload_n F rfl e_X10_takes_60 ?_
    refine m_iload_n F rfl e_X10_takes_61 ?_
    refine r_callV F e_X10_takes_62 (q_X10_remeasures (x_l X) V c T Z u h P L6541 _ _ n h6562.1 (okL6541.b) hP (by omega)) cb_X10_remeasures ml_X10_277 im_X10_remeasures se_X10_remeasures h6562 rfl rfl (rest := []) rfl (Nat.le_of_ble_eq_true rfl) ⟨Nat.le_of_ble_eq_true rfl, Nat.le_of_ble_eq_true rfl⟩ ⟨Nat.le_of_ble_eq_true rfl, Nat.le_of_ble_eq_true rfl⟩ (fun r σ6563 hp => ?_)
    obtain ⟨h6564, x6566, rfl⟩ := hp
    have h6565 := HS.trans h6562 h6564 (by decide)
    exact m_lret F hQ e_X10_takes_65 (⟨L6541, okL6541, h6565, _, rfl⟩)
set_option maxRecDepth 20000 in
theorem q_X10_take (l : Launch) (V : VX) (c T Z u h : Nat) (P : NP) (L : Nat → LQ) (N : Nat) (σ : Mem) (x901 : Int32) (h0 : HR V c ⟨T, Z, u, h, P, L⟩ σ) (hok : OKL P.n0 L) (hP : OKP P) (hp0 : u ≤ 20) (hp1 : P.kk = P.n0) : Ct l V yX10_take cX10_take 2 (some .long) 4 0 0 N σ [.ref c, .int x901] (fun r τ => ∃ u9, u9 ≤ 20 ∧ ∃ L9, OKL P.n0 L9 ∧ HS V c (⟨T, Z, u9, h, P, L9⟩ : RG) [0, 2, 3, 4, 5, 6, 7, 8, 9, 10, 11, 12, 13, 14, 15, 16, 18, 19, 20, 22] σ τ ∧ ∃ x : Int64, r = some (.long x)) := by
  refine Ct.of (by decide) (Nat.le_of_ble_eq_true rfl) [(0, .ref c), (1, .int x901)] rfl (fun X hX F hQ => ?_)
  have hPP := hP
  unfold OKP at hPP
  have h1 : HS V c ⟨T, Z, u, h, P, L⟩ [0, 2, 3, 4, 5, 6, 7, 8, 9, 10, 11, 12, 13, 14, 15, 16, 18, 19, 20, 22] σ σ := HS.start h0
  refine m_aload_n F rfl e_X10_take_0 ?_
  refine m_iconst F (v := 0) (by decide) e_X10_take_1 ?_
  refine r_put F (g' := (⟨T, Z, u, h, P, L⟩ : RG)) e_X10_take_2 fp_X10_91 h1 (by decide) ⟨_, rfl⟩ (fun _ _ _ _ q => q) (fun _ _ _ q => q) rfl rfl (by decide) (fun σ6567 h6568 g6569 g6570 f6571 => ?_)
  refine m_aload_n F rfl e_X10_take_5 ?_
  refine m_iload_n F rfl e_X10_take_6 ?_
  refine r_callV F e_X10_take_7 (q_X10_canTake (x_l X) V c T Z u h P L _ _ x901 h6568.1 (hok.b) hP ) cb_X10_canTake ml_X10_313 im_X10_canTake se_X10_canTake h6568 rfl rfl (rest := []) rfl (Nat.le_of_ble_eq_true rfl) ⟨Nat.le_of_ble_eq_true rfl, Nat.le_of_ble_eq_true rfl⟩ ⟨Nat.le_of_ble_eq_true rfl, Nat.le_of_ble_eq_true rfl⟩ (fun r σ6572 hp => ?_)
  obtain ⟨h6573, c6575⟩ := hp
  have h6574 := HS.trans h6568 h6573 (by decide)
  rcases c6575 with rfl | ⟨n6576, n6577, n6578, h6579, h6580, h6581, h6582, h6583, f6584, f6585, e6586, rfl⟩
  · refine m_if_ne F e_X10_take_10 (fun q => absurd (by decide) q) (fun _ => ?_)
    refine m_ldc2 F kc_X10_299 e_X10_take_13 ?_
    exact m_lret F hQ e_X10_take_16 (⟨u, by omega, L, hok, h6574, _, rfl⟩)
  · subst e6586
    refine m_if_ne F e_X10_take_10 (fun _ => ?_) (fun q => absurd q (by decide))
    refine m_aload_n F rfl e_X10_take_17 ?_
    refine r_callV F e_X10_take_18 (q_X10_remembers (x_l X) V c T Z u h P L _ _  h6574.1 (hok) hP (by first | omega | assumption | decide) (by first | omega | assumption | decide)) cb_X10_remembers ml_X10_286 im_X10_remembers se_X10_remembers h6574 rfl rfl (rest := []) rfl (Nat.le_of_ble_eq_true rfl) ⟨Nat.le_of_ble_eq_true rfl, Nat.le_of_ble_eq_true rfl⟩ ⟨Nat.le_of_ble_eq_true rfl, Nat.le_of_ble_eq_true rfl⟩ (fun r σ6587 hp => ?_)
    obtain ⟨u6590, hu6590, h6588, rfl⟩ := hp
    have h6589 := HS.trans h6574 h6588 (by decide)
    refine m_aload_n F rfl e_X10_take_21 ?_
    refine m_iload_n F rfl e_X10_take_22 ?_
    refine r_callV F e_X10_take_23 (q_X10_takes (x_l X) V c T Z u6590 h P L _ _ n6576 n6577 n6578 h6589.1 hok hP (by omega) (by omega) (by omega) (by omega) (by omega) ((elI_eq (h6588.2 (c + 13) (by rw [kC_at (k := 13) (by decide)]; decide))).trans f6584) ((elI_eq (h6588.2 (c + 14) (by rw [kC_at (k := 14) (by decide)]; decide))).trans f6585)) cb_X10_takes ml_X10_316 im_X10_takes se_X10_takes h6589 rfl rfl (rest := []) rfl (Nat.le_of_ble_eq_true rfl) ⟨Nat.le_of_ble_eq_true rfl, Nat.le_of_ble_eq_true rfl⟩ ⟨Nat.le_of_ble_eq_true rfl, Nat.le_of_ble_eq_true rfl⟩ (fun r σ6591 hp => ?_)
    obtain ⟨L6595, okL6595, h6592, x6594, rfl⟩ := hp
    have h6593 := HS.trans h6589 h6592 (by decide)
    exact m_lret F hQ e_X10_take_26 (⟨u6590, by omega, L6595, okL6595, h6593, _, rfl⟩)
set_option maxRecDepth 20000 in
theorem q_X10_ifTaken (l : Launch) (V : VX) (c T Z u h : Nat) (P : NP) (L : Nat → LQ) (N : Nat) (σ : Mem) (x901 : Int32) (h0 : HR V c ⟨T, Z, u, h, P, L⟩ σ) (hok : OKL P.n0 L) (hP : OKP P)  : Ct l V yX10_ifTaken cX10_ifTaken 4 (some .long) 4 0 0 N σ [.ref c, .int x901] (fun r τ => HS V c (⟨T, Z, u, h, P, L⟩ : RG) [0, 2, 3, 4, 5, 6, 7, 8, 9, 10, 11, 12, 13, 14, 15, 16, 19, 20, 21, 22] σ τ ∧ ∃ x : Int64, r = some (.long x)) := by
  refine Ct.of (by decide) (Nat.le_of_ble_eq_true rfl) [(0, .ref c), (1, .int x901)] rfl (fun X hX F hQ => ?_)
  have hPP := hP
  unfold OKP at hPP
  have h1 : HS V c ⟨T, Z, u, h, P, L⟩ [0, 2, 3, 4, 5, 6, 7, 8, 9, 10, 11, 12, 13, 14, 15, 16, 19, 20, 21, 22] σ σ := HS.start h0
  refine m_aload_n F rfl e_X10_ifTaken_0 ?_
  refine m_iconst F (v := 0) (by decide) e_X10_ifTaken_1 ?_
  refine r_put F (g' := (⟨T, Z, u, h, P, L⟩ : RG)) e_X10_ifTaken_2 fp_X10_91 h1 (by decide) ⟨_, rfl⟩ (fun _ _ _ _ q => q) (fun _ _ _ q => q) rfl rfl (by decide) (fun σ6596 h6597 g6598 g6599 f6600 => ?_)
  refine m_aload_n F rfl e_X10_ifTaken_5 ?_
  refine m_iload_n F rfl e_X10_ifTaken_6 ?_
  refine r_callV F e_X10_ifTaken_7 (q_X10_canTake (x_l X) V c T Z u h P L _ _ x901 h6597.1 (hok.b) hP ) cb_X10_canTake ml_X10_313 im_X10_canTake se_X10_canTake h6597 rfl rfl (rest := []) rfl (Nat.le_of_ble_eq_true rfl) ⟨Nat.le_of_ble_eq_true rfl, Nat.le_of_ble_eq_true rfl⟩ ⟨Nat.le_of_ble_eq_true rfl, Nat.le_of_ble_eq_true rfl⟩ (fun r σ6601 hp => ?_)
  obtain ⟨h6602, c6604⟩ := hp
  have h6603 := HS.trans h6597 h6602 (by decide)
  rcases c6604 with rfl | ⟨n6605, n6606, n6607, h6608, h6609, h6610, h6611, h6612, f6613, f6614, e6615, rfl⟩
  · refine m_if_ne F e_X10_ifTaken_10 (fun q => absurd (by decide) q) (fun _ => ?_)
    refine m_ldc2 F kc_X10_299 e_X10_ifTaken_13 ?_
    exact m_lret F hQ e_X10_ifTaken_16 (⟨h6603, _, rfl⟩)
  · subst e6615
    refine m_if_ne F e_X10_ifTaken_10 (fun _ => ?_) (fun q => absurd q (by decide))
    refine m_aload_n F rfl e_X10_ifTaken_17 ?_
    refine r_get F e_X10_ifTaken_18 fl_X10_59 h6603 rfl (fun v hv f6616 => ?_)
    obtain rfl : v = .ref (c + 16) := hv
    refine m_iconst F (v := 0) (by decide) e_X10_ifTaken_21 ?_
    refine m_aload_n F rfl e_X10_ifTaken_22 ?_
    refine r_get F e_X10_ifTaken_23 fl_X10_63 h6603 rfl (fun v hv f6617 => ?_)
    obtain rfl : v = .ref (c + 17) := hv
    refine m_iconst F (v := 0) (by decide) e_X10_ifTaken_26 ?_
    obtain ⟨f6618, e6619, te6619⟩ : ∃ f, σ6601 (c + 16) = some (aJ V 1113 f) ∧ ∀ i, i < 1113 → EJ L i (f i) := h6603.1.cell (k := 16) (by decide)
    obtain ⟨g6620, e6621⟩ : ∃ f, σ6601 (c + 17) = some (aJ V 1113 f) := h6603.1.cell (k := 17) (by decide)
    refine m_callS F e_X10_ifTaken_27 (q_copies (x_l X) V _ _ (c + 16) (c + 17) 1113 1113 0 0 f6618 g6620 e6619 e6621 (by omega) (by omega) (by omega) (by omega)) cb_X10_copies ml_X10_230 sm_X10_copies rfl (rest := []) rfl (Nat.le_of_ble_eq_true rfl) ⟨Nat.le_of_ble_eq_true rfl, Nat.le_of_ble_eq_true rfl⟩ ⟨Nat.le_of_ble_eq_true rfl, Nat.le_of_ble_eq_true rfl⟩ (k' := 0) (z' := 0) (N' := N) rfl rfl rfl (fun r σ6622 hp => ?_)
    obtain ⟨p6623, rfl⟩ := hp
    have h6624 := HS.cp (k := 17) (g' := (⟨T, Z, u, h, P, L⟩ : RG)) h6603 p6623 (by decide) (by decide) ⟨_, rfl⟩ (fun _ _ _ q => q)
    have ga6625 : GB V c 17 1113 0 L σ6622 := ⟨_, p6623.1, fun i hi => by rw [show 0 + i = i from Nat.zero_add i, cpy_at0 hi, Nat.zero_add]; exact te6619 i hi⟩
    refine m_aload_n F rfl e_X10_ifTaken_30 ?_
    refine m_iload_n F rfl e_X10_ifTaken_31 ?_
    refine r_callV F e_X10_ifTaken_32 (q_X10_takes (x_l X) V c T Z u h P L _ _ n6605 n6606 n6607 h6624.1 hok hP (by omega) (by omega) (by omega) (by omega) (by omega) ((elI_eq (p6623.2 _ (by omega))).trans f6613) ((elI_eq (p6623.2 _ (by omega))).trans f6614)) cb_X10_takes ml_X10_316 im_X10_takes se_X10_takes h6624 rfl rfl (rest := []) rfl (Nat.le_of_ble_eq_true rfl) ⟨Nat.le_of_ble_eq_true rfl, Nat.le_of_ble_eq_true rfl⟩ ⟨Nat.le_of_ble_eq_true rfl, Nat.le_of_ble_eq_true rfl⟩ (fun r σ6626 hp => ?_)
    obtain ⟨L6630, okL6630, h6627, x6629, rfl⟩ := hp
    have h6628 := HS.trans h6624 h6627 (by decide)
    have ga6631 := ga6625.of (h6627.2 (c + 17) (by rw [kC_at (k := 17) (by decide)]; decide))
    refine m_lstore_n F (lv' := [(2, .long x6629), (0, .ref c), (1, .int (nI n6605))]) e_X10_ifTaken_35 (by decide) rfl ?_
    refine m_aload_n F rfl e_X10_ifTaken_36 ?_
    refine r_callV F e_X10_ifTaken_37 (q_X10_back1 (x_l X) V c T Z u h P L6630 _ _ L h6628.1 (okL6630.b) hP ga6631) cb_X10_back1 ml_X10_332 im_X10_back1 se_X10_back1 h6628 rfl rfl (rest := []) rfl (Nat.le_of_ble_eq_true rfl) ⟨Nat.le_of_ble_eq_true rfl, Nat.le_of_ble_eq_true rfl⟩ ⟨Nat.le_of_ble_eq_true rfl, Nat.le_of_ble_eq_true rfl⟩ (fun r σ6632 hp => ?_)
    obtain ⟨h6633, rfl⟩ := hp
    have h6634 := HS.trans h6628 h6633 (by decide)
    have ga6635 := ga6631.of (h6633.2 (c + 17) (by rw [kC_at (k := 17) (by decide)]; decide))
    refine m_lload_n F rfl e_X10_ifTaken_40 ?_
    exact m_lret F hQ e_X10_ifTaken_41 (⟨h6634, _, rfl⟩)
set_option maxRecDepth 20000 in
theorem lq_X10_takesAll_2 {V : VX} {X : MX} {N : Nat} {σ : Mem} {c T Z u h : Nat} {P : NP} {L : Nat → LQ}  {n901 : Nat} {x902 : Int32} (F : Fx V X yX10_takesAll cX10_takesAll 4 (some .boolean) (rmd 4 0 0)) (hQ : Rt V X 0 0 N (fun r τ => ∃ L9, OKL P.n0 L9 ∧ HS V c (⟨T, Z, u, h, P, L9⟩ : RG) [0, 1, 2, 3, 4, 5, 6, 7, 8, 9, 10, 11, 12, 13, 14, 15, 16, 18, 19, 20, 21, 22] σ τ ∧ ∃ n : Nat, n ≤ 1 ∧ r = some (.int (nI n)))) (hok : OKL P.n0 L) (hP : OKP P) (hn901 : n901 ≤ 3)  : ∀ (fuel : Nat) (i : Nat) (L1 : Nat → LQ) (τ : Mem), HS V c (⟨T, Z, u, h, P, L1⟩ : RG) [0, 1, 2, 3, 4, 5, 6, 7, 8, 9, 10, 11, 12, 13, 14, 15, 16, 18, 19, 20, 21, 22] σ τ → OKL P.n0 L1 → i ≤ 4 → 4 - i < fuel → Wm V X 4 N τ 0 0 2 [(0, .ref c), (1, .int (nI n901)), (2, .int x902), (3, .int (nI i))] [] := by
  intro fuel
  induction fuel with
  | zero => intros; rename_i hm; exact absurd hm (Nat.not_lt_zero _)
  | succ fuel ih =>
    intro i L1 τ h1 hok1 hi hm
    have hPP := hP
    unfold OKP at hPP
    refine m_iload_n F rfl e_X10_takesAll_2 ?_
    refine m_aload_n F rfl e_X10_takesAll_3 ?_
    refine r_get F e_X10_takesAll_4 fl_X10_13 h1 rfl (fun v hv f6636 => ?_)
    obtain rfl : v = .ref (c + 2) := hv
    refine m_iconst F (v := 3) (by decide) e_X10_takesAll_7 ?_
    refine r_iald F (len := 10) (j := 3) e_X10_takesAll_8 h1 (fun _ h => h) (by decide) (by decide) (by unfold vp_in; decide) (fun x6637 h6638 f6639 => ?_)
    obtain ⟨n6640, hn6640, rfl⟩ := h6638.2.2.2.2.1 rfl
    refine m_icmp_ge F e_X10_takesAll_9 (fun q9 => ?_) (fun q9 => ?_)
    · have c9 : i ≥ n6640 := (nI_leI (a := n6640) (b := i) (by omega) (by omega)).mp q9
      refine m_iconst F (v := 1) (by decide) e_X10_takesAll_55 ?_
      exact m_zret F hQ e_X10_takesAll_56 (by decide) (⟨L1, hok1, h1, 1, by omega, rfl⟩)
    · have c9 : i < n6640 := by have hh := mt (nI_leI (a := n6640) (b := i) (by omega) (by omega)).mpr q9; omega
      refine m_iload_n F rfl e_X10_takesAll_12 ?_
      refine m_iload_n F rfl e_X10_takesAll_13 ?_
      refine m_ishr F e_X10_takesAll_14 ?_
      refine Wm.top (fun x6641 _ => ?_)
      refine m_iconst F (v := 1) (by decide) e_X10_takesAll_15 ?_
      refine m_iand F e_X10_takesAll_16 ?_
      refine Wm.top (fun x6642 _ => ?_)
      refine m_if_ne F e_X10_takesAll_17 (fun q17 => ?_) (fun q17 => ?_)
      · refine m_aload_n F rfl e_X10_takesAll_23 ?_
        refine r_get F e_X10_takesAll_24 fl_X10_46 h1 rfl (fun v hv f6643 => ?_)
        obtain rfl : v = .ref (c + 13) := hv
        refine m_iload_n F rfl e_X10_takesAll_27 ?_
        refine r_iald F (len := 8) (j := i) e_X10_takesAll_28 h1 (fun _ h => h) (by decide) (nI_clamp (by omega)) (vp_in_nI (by omega) (by decide)) (fun x6644 h6645 f6646 => ?_)
        obtain ⟨n6647, hn6647, rfl⟩ := h6645
        refine m_iload_n F rfl e_X10_takesAll_29 ?_
        refine m_icmp_ne F e_X10_takesAll_30 (fun q30 => ?_) (fun q30 => ?_)
        · have c30 : n6647 ≠ n901 := by have hh := mt (nI_eq (a := n6647) (b := n901) (by omega) (by omega)).mpr q30; omega
          refine m_iconst F (v := 0) (by decide) e_X10_takesAll_41 ?_
          exact m_zret F hQ e_X10_takesAll_42 (by decide) (⟨L1, hok1, h1, 0, by omega, rfl⟩)
        · have c30 : n6647 = n901 := (nI_eq (a := n6647) (b := n901) (by omega) (by omega)).mp q30
          refine m_aload_n F rfl e_X10_takesAll_33 ?_
          refine m_iload_n F rfl e_X10_takesAll_34 ?_
          refine r_callV F e_X10_takesAll_35 (q_X10_canTake (x_l X) V c T Z u h P L1 _ _ (nI i) h1.1 (hok1.b) hP ) cb_X10_canTake ml_X10_313 im_X10_canTake se_X10_canTake h1 rfl rfl (rest := []) rfl (Nat.le_of_ble_eq_true rfl) ⟨Nat.le_of_ble_eq_true rfl, Nat.le_of_ble_eq_true rfl⟩ ⟨Nat.le_of_ble_eq_true rfl, Nat.le_of_ble_eq_true rfl⟩ (fun r σ6648 hp => ?_)
          obtain ⟨h6649, c6651⟩ := hp
          have h6650 := HS.trans h1 h6649 (by decide)
          rcases c6651 with rfl | ⟨n6652, n6653, n6654, h6655, h6656, h6657, h6658, h6659, f6660, f6661, e6662, rfl⟩
          · refine m_if_ne F e_X10_takesAll_38 (fun q => absurd (by decide) q) (fun _ => ?_)
            refine m_iconst F (v := 0) (by decide) e_X10_takesAll_41 ?_
            exact m_zret F hQ e_X10_takesAll_42 (by decide) (⟨L1, hok1, h6650, 0, by omega, rfl⟩)
          · have ge6662 := nI_inj (by omega) (by omega) e6662
            subst ge6662
            refine m_if_ne F e_X10_takesAll_38 (fun _ => ?_) (fun q => absurd q (by decide))
            refine m_aload_n F rfl e_X10_takesAll_43 ?_
            refine m_iload_n F rfl e_X10_takesAll_44 ?_
            refine r_callV F e_X10_takesAll_45 (q_X10_takes (x_l X) V c T Z u h P L1 _ _ i n6653 n6654 h6650.1 hok1 hP (by omega) (by omega) (by omega) (by omega) (by omega) (f6660) (f6661)) cb_X10_takes ml_X10_316 im_X10_takes se_X10_takes h6650 rfl rfl (rest := []) rfl (Nat.le_of_ble_eq_true rfl) ⟨Nat.le_of_ble_eq_true rfl, Nat.le_of_ble_eq_true rfl⟩ ⟨Nat.le_of_ble_eq_true rfl, Nat.le_of_ble_eq_true rfl⟩ (fun r σ6663 hp => ?_)
            obtain ⟨L6667, okL6667, h6664, x6666, rfl⟩ := hp
            have h6665 := HS.trans h6650 h6664 (by decide)
            refine m_pop2_2 F rfl e_X10_takesAll_48 ?_
            refine m_iinc F (v := nI (i + 1)) (lv' := [(3, .int (nI (i + 1))), (0, .ref c), (1, .int (nI n901)), (2, .int x902)]) e_X10_takesAll_49 rfl (nI_add i 1) (by decide) rfl ?_
            refine m_goto F e_X10_takesAll_52 ?_
            refine Wm.lvsub (lv' := [(0, .ref c), (1, .int (nI n901)), (2, .int x902), (3, .int (nI (i + 1)))]) ?_ [1, 2, 3, 0] rfl
            exact ih (i + 1) L6667 _ h6665 okL6667 (by omega) (by omega)
      · subst q17
        refine m_goto F e_X10_takesAll_20 ?_
        refine m_iinc F (v := nI (i + 1)) (lv' := [(3, .int (nI (i + 1))), (0, .ref c), (1, .int (nI n901)), (2, .int x902)]) e_X10_takesAll_49 rfl (nI_add i 1) (by decide) rfl ?_
        refine m_goto F e_X10_takesAll_52 ?_
        refine Wm.lvsub (lv' := [(0, .ref c), (1, .int (nI n901)), (2, .int x902), (3, .int (nI (i + 1)))]) ?_ [1, 2, 3, 0] rfl
        exact ih (i + 1) L1 _ h1 hok1 (by omega) (by omega)
set_option maxRecDepth 20000 in
theorem q_X10_takesAll (l : Launch) (V : VX) (c T Z u h : Nat) (P : NP) (L : Nat → LQ) (N : Nat) (σ : Mem) (n901 : Nat) (x902 : Int32) (h0 : HR V c ⟨T, Z, u, h, P, L⟩ σ) (hok : OKL P.n0 L) (hP : OKP P) (hn901 : n901 ≤ 3) : Ct l V yX10_takesAll cX10_takesAll 4 (some .boolean) 4 0 0 N σ [.ref c, .int (nI n901), .int x902] (fun r τ => ∃ L9, OKL P.n0 L9 ∧ HS V c (⟨T, Z, u, h, P, L9⟩ : RG) [0, 1, 2, 3, 4, 5, 6, 7, 8, 9, 10, 11, 12, 13, 14, 15, 16, 18, 19, 20, 21, 22] σ τ ∧ ∃ n : Nat, n ≤ 1 ∧ r = some (.int (nI n))) := by
  refine Ct.of (by decide) (Nat.le_of_ble_eq_true rfl) [(0, .ref c), (1, .int (nI n901)), (2, .int x902)] rfl (fun X hX F hQ => ?_)
  have hPP := hP
  unfold OKP at hPP
  have h1 : HS V c ⟨T, Z, u, h, P, L⟩ [0, 1, 2, 3, 4, 5, 6, 7, 8, 9, 10, 11, 12, 13, 14, 15, 16, 18, 19, 20, 21, 22] σ σ := HS.start h0
  refine m_iconst F (v := 0) (by decide) e_X10_takesAll_0 ?_
  refine m_istore_n F (lv' := [(3, .int 0), (0, .ref c), (1, .int (nI n901)), (2, .int x902)]) e_X10_takesAll_1 (by decide) rfl ?_
  refine Wm.lvsub (lv' := [(0, .ref c), (1, .int (nI n901)), (2, .int x902), (3, .int 0)]) ?_ [1, 2, 3, 0] rfl
  exact lq_X10_takesAll_2 F hQ hok hP hn901 (4 - 0 + 1) 0 L _ h1 hok (by omega) (Nat.lt_succ_self _)
set_option maxRecDepth 20000 in
theorem lq_X10_choose_37 {V : VX} {X : MX} {N : Nat} {σ : Mem} {c T Z u h : Nat} {P : NP} {L : Nat → LQ}   (F : Fx V X yX10_choose cX10_choose 13 (some .int) (rmd 5 0 0)) (hQ : Rt V X 0 0 N (fun r τ => HS V c (⟨T, Z, u, h, P, L⟩ : RG) [0, 2, 3, 4, 5, 6, 7, 8, 9, 10, 11, 12, 13, 14, 15, 16, 19, 20, 21, 22] σ τ ∧ ∃ x : Int32, r = some (.int x))) (hok : OKL P.n0 L) (hP : OKP P)   : ∀ (fuel : Nat) (a : Nat) (b1 : Int32) (w1 : Int64) (w2 : Int64) (i : Nat) (τ : Mem), HS V c (⟨T, Z, u, h, P, L⟩ : RG) [0, 2, 3, 4, 5, 6, 7, 8, 9, 10, 11, 12, 13, 14, 15, 16, 19, 20, 21, 22] σ τ → a ≤ 3 ∧ i ≤ 16 → 16 - i < fuel → Wm V X 13 N τ 0 0 37 [(0, .ref c), (1, .int (nI a)), (2, .int b1), (3, .long w1), (5, .long w2), (7, .int (nI i))] [] := by
  intro fuel
  induction fuel with
  | zero => intros; rename_i hm; exact absurd hm (Nat.not_lt_zero _)
  | succ fuel ih =>
    intro a b1 w1 w2 i τ h1 hi hm
    have hPP := hP
    unfold OKP at hPP
    refine m_iload F rfl e_X10_choose_37 ?_
    refine m_iconst F (v := 1) (by decide) e_X10_choose_39 ?_
    refine m_aload_n F rfl e_X10_choose_40 ?_
    refine r_get F e_X10_choose_41 fl_X10_13 h1 rfl (fun v hv f6668 => ?_)
    obtain rfl : v = .ref (c + 2) := hv
    refine m_iconst F (v := 3) (by decide) e_X10_choose_44 ?_
    refine r_iald F (len := 10) (j := 3) e_X10_choose_45 h1 (fun _ h => h) (by decide) (by decide) (by unfold vp_in; decide) (fun x6669 h6670 f6671 => ?_)
    obtain ⟨n6672, hn6672, rfl⟩ := h6670.2.2.2.2.1 rfl
    obtain ⟨n6673, hn6673, en6673⟩ := shl5 (m := n6672) (by omega)
    refine m_ishl F e_X10_choose_46 ?_
    refine Wm.topE (w := nI n6673) en6673 ?_
    refine m_icmp_ge F e_X10_choose_47 (fun q47 => ?_) (fun q47 => ?_)
    · have c47 : i ≥ n6673 := (nI_leI (a := n6673) (b := i) (by omega) (by omega)).mp q47
      refine m_iload_n F rfl e_X10_choose_142 ?_
      exact m_iret F hQ e_X10_choose_143 (⟨h1, _, rfl⟩)
    · have c47 : i < n6673 := by have hh := mt (nI_leI (a := n6673) (b := i) (by omega) (by omega)).mpr q47; omega
      refine m_aload_n F rfl e_X10_choose_50 ?_
      refine r_get F e_X10_choose_51 fl_X10_59 h1 rfl (fun v hv f6674 => ?_)
      obtain rfl : v = .ref (c + 16) := hv
      refine m_iconst F (v := 0) (by decide) e_X10_choose_54 ?_
      refine m_aload_n F rfl e_X10_choose_55 ?_
      refine r_get F e_X10_choose_56 fl_X10_63 h1 rfl (fun v hv f6675 => ?_)
      obtain rfl : v = .ref (c + 17) := hv
      refine m_iconst F (v := 0) (by decide) e_X10_choose_59 ?_
      obtain ⟨f6676, e6677, te6677⟩ : ∃ f, τ (c + 16) = some (aJ V 1113 f) ∧ ∀ i, i < 1113 → EJ L i (f i) := h1.1.cell (k := 16) (by decide)
      obtain ⟨g6678, e6679⟩ : ∃ f, τ (c + 17) = some (aJ V 1113 f) := h1.1.cell (k := 17) (by decide)
      refine m_callS F e_X10_choose_60 (q_copies (x_l X) V _ _ (c + 16) (c + 17) 1113 1113 0 0 f6676 g6678 e6677 e6679 (by omega) (by omega) (by omega) (by omega)) cb_X10_copies ml_X10_230 sm_X10_copies rfl (rest := []) rfl (Nat.le_of_ble_eq_true rfl) ⟨Nat.le_of_ble_eq_true rfl, Nat.le_of_ble_eq_true rfl⟩ ⟨Nat.le_of_ble_eq_true rfl, Nat.le_of_ble_eq_true rfl⟩ (k' := 0) (z' := 0) (N' := N) rfl rfl rfl (fun r σ6680 hp => ?_)
      obtain ⟨p6681, rfl⟩ := hp
      have h6682 := HS.cp (k := 17) (g' := (⟨T, Z, u, h, P, L⟩ : RG)) h1 p6681 (by decide) (by decide) ⟨_, rfl⟩ (fun _ _ _ q => q)
      have ga6683 : GB V c 17 1113 0 L σ6680 := ⟨_, p6681.1, fun i hi => by rw [show 0 + i = i from Nat.zero_add i, cpy_at0 hi, Nat.zero_add]; exact te6677 i hi⟩
      refine m_aload_n F rfl e_X10_choose_63 ?_
      refine m_iload_n F rfl e_X10_choose_64 ?_
      refine m_iload F rfl e_X10_choose_65 ?_
      refine r_callV F e_X10_choose_67 (q_X10_takesAll (x_l X) V c T Z u h P L _ _ a (nI i) h6682.1 (hok) hP (by omega)) cb_X10_takesAll ml_X10_346 im_X10_takesAll se_X10_takesAll h6682 rfl rfl (rest := []) rfl (Nat.le_of_ble_eq_true rfl) ⟨Nat.le_of_ble_eq_true rfl, Nat.le_of_ble_eq_true rfl⟩ ⟨Nat.le_of_ble_eq_true rfl, Nat.le_of_ble_eq_true rfl⟩ (fun r σ6684 hp => ?_)
      obtain ⟨L6688, okL6688, h6685, n6687, hn6687, rfl⟩ := hp
      have h6686 := HS.trans h6682 h6685 (by decide)
      have ga6689 := ga6683.of (h6685.2 (c + 17) (by rw [kC_at (k := 17) (by decide)]; decide))
      refine m_istore F (lv' := [(8, .int (nI n6687)), (0, .ref c), (1, .int (nI a)), (2, .int b1), (3, .long w1), (5, .long w2), (7, .int (nI i))]) e_X10_choose_70 (by decide) rfl ?_
      refine m_aload_n F rfl e_X10_choose_72 ?_
      refine r_getC F e_X10_choose_73 fl_X10_59 h6686 ((fld_eq (h6685.2 c (by rw [show kC c c = 1 from kC_at (k := 0) (by decide)]; decide))).trans ((fld_eq (p6681.2 _ (by omega))).trans f6674)) ?_
      refine m_sipush F (v := 160) (by decide) e_X10_choose_76 ?_
      refine m_iload_n F rfl e_X10_choose_79 ?_
      refine m_imul F e_X10_choose_80 ?_
      refine Wm.topE (w := nI (160 * a)) (pk_mul 160 a) ?_
      refine m_bipush F (v := 6) (by decide) e_X10_choose_81 ?_
      refine m_iadd F e_X10_choose_83 ?_
      refine Wm.topE (w := nI (160 * a + 6)) (nI_add (160 * a) 6) ?_
      refine r_sld F (j := 160 * a + 6) e_X10_choose_84 h6686 (nI_clamp (by omega)) (vp_in_nI (by omega) (by decide)) (fun x6690 h6691 f6692 => ?_)
      refine m_lstore F (lv' := [(9, .long x6690), (8, .int (nI n6687)), (0, .ref c), (1, .int (nI a)), (2, .int b1), (3, .long w1), (5, .long w2), (7, .int (nI i))]) e_X10_choose_85 (by decide) rfl ?_
      refine m_aload_n F rfl e_X10_choose_87 ?_
      refine m_iload_n F rfl e_X10_choose_88 ?_
      refine r_callV F e_X10_choose_89 (q_X10_left (x_l X) V c T Z u h P L6688 _ _ a h6686.1 (okL6688.b) hP (by omega)) cb_X10_left ml_X10_257 im_X10_left se_X10_left h6686 rfl rfl (rest := []) rfl (Nat.le_of_ble_eq_true rfl) ⟨Nat.le_of_ble_eq_true rfl, Nat.le_of_ble_eq_true rfl⟩ ⟨Nat.le_of_ble_eq_true rfl, Nat.le_of_ble_eq_true rfl⟩ (fun r σ6693 hp => ?_)
      obtain ⟨h6694, x6696, rfl⟩ := hp
      have h6695 := HS.trans h6686 h6694 (by decide)
      have ga6697 := ga6689.of (h6694.2 (c + 17) (by rw [kC_at (k := 17) (by decide)]; decide))
      refine m_i2l F e_X10_choose_92 ?_
      refine Wm.topl (fun x6698 _ => ?_)
      refine m_lstore F (lv' := [(11, .long x6698), (9, .long x6690), (8, .int (nI n6687)), (0, .ref c), (1, .int (nI a)), (2, .int b1), (3, .long w1), (5, .long w2), (7, .int (nI i))]) e_X10_choose_93 (by decide) rfl ?_
      refine m_aload_n F rfl e_X10_choose_95 ?_
      refine r_callV F e_X10_choose_96 (q_X10_back1 (x_l X) V c T Z u h P L6688 _ _ L h6695.1 (okL6688.b) hP ga6697) cb_X10_back1 ml_X10_332 im_X10_back1 se_X10_back1 h6695 rfl rfl (rest := []) rfl (Nat.le_of_ble_eq_true rfl) ⟨Nat.le_of_ble_eq_true rfl, Nat.le_of_ble_eq_true rfl⟩ ⟨Nat.le_of_ble_eq_true rfl, Nat.le_of_ble_eq_true rfl⟩ (fun r σ6699 hp => ?_)
      obtain ⟨h6700, rfl⟩ := hp
      have h6701 := HS.trans h6695 h6700 (by decide)
      have ga6702 := ga6697.of (h6700.2 (c + 17) (by rw [kC_at (k := 17) (by decide)]; decide))
      refine m_iload F rfl e_X10_choose_99 ?_
      refine m_if_eq F e_X10_choose_101 (fun q101 => ?_) (fun q101 => ?_)
      · have c101 : n6687 = 0 := (nI_eq (a := n6687) (b := 0) (by omega) (by omega)).mp q101
        refine m_iinc F (v := nI (i + 1)) (lv' := [(7, .int (nI (i + 1))), (11, .long x6698), (9, .long x6690), (8, .int (nI n6687)), (0, .ref c), (1, .int (nI a)), (2, .int b1), (3, .long w1), (5, .long w2)]) e_X10_choose_136 rfl (nI_add i 1) (by decide) rfl ?_
        refine m_goto F e_X10_choose_139 ?_
        refine Wm.lvsub (lv' := [(0, .ref c), (1, .int (nI a)), (2, .int b1), (3, .long w1), (5, .long w2), (7, .int (nI (i + 1)))]) ?_ [4, 5, 6, 7, 8, 0] rfl
        exact ih a b1 w1 w2 (i + 1) _ h6701 (by omega) (by omega)
      · have c101 : n6687 ≠ 0 := by have hh := mt (nI_eq (a := n6687) (b := 0) (by omega) (by omega)).mpr q101; omega
        refine m_iload_n F rfl e_X10_choose_104 ?_
        refine m_bipush F (v := (-2)) (by decide) e_X10_choose_105 ?_
        refine m_icmp_eq F e_X10_choose_107 (fun q107 => ?_) (fun q107 => ?_)
        · subst q107
          refine m_iload F rfl e_X10_choose_126 ?_
          refine m_istore_n F (lv' := [(2, .int (nI i)), (11, .long x6698), (9, .long x6690), (8, .int (nI n6687)), (0, .ref c), (1, .int (nI a)), (3, .long w1), (5, .long w2), (7, .int (nI i))]) e_X10_choose_128 (by decide) rfl ?_
          refine m_lload F rfl e_X10_choose_129 ?_
          refine m_lstore_n F (lv' := [(3, .long x6690), (2, .int (nI i)), (11, .long x6698), (9, .long x6690), (8, .int (nI n6687)), (0, .ref c), (1, .int (nI a)), (5, .long w2), (7, .int (nI i))]) e_X10_choose_131 (by decide) rfl ?_
          refine m_lload F rfl e_X10_choose_132 ?_
          refine m_lstore F (lv' := [(5, .long x6698), (3, .long x6690), (2, .int (nI i)), (11, .long x6698), (9, .long x6690), (8, .int (nI n6687)), (0, .ref c), (1, .int (nI a)), (7, .int (nI i))]) e_X10_choose_134 (by decide) rfl ?_
          refine m_iinc F (v := nI (i + 1)) (lv' := [(7, .int (nI (i + 1))), (5, .long x6698), (3, .long x6690), (2, .int (nI i)), (11, .long x6698), (9, .long x6690), (8, .int (nI n6687)), (0, .ref c), (1, .int (nI a))]) e_X10_choose_136 rfl (nI_add i 1) (by decide) rfl ?_
          refine m_goto F e_X10_choose_139 ?_
          refine Wm.lvsub (lv' := [(0, .ref c), (1, .int (nI a)), (2, .int (nI i)), (3, .long x6690), (5, .long x6698), (7, .int (nI (i + 1)))]) ?_ [7, 8, 3, 2, 1, 0] rfl
          exact ih a (nI i) x6690 x6698 (i + 1) _ h6701 (by omega) (by omega)
        · refine m_lload F rfl e_X10_choose_110 ?_
          refine m_lload F rfl e_X10_choose_112 ?_
          refine m_lmul F e_X10_choose_114 ?_
          refine Wm.topl (fun x6703 _ => ?_)
          refine m_lload_n F rfl e_X10_choose_115 ?_
          refine m_lload F rfl e_X10_choose_116 ?_
          refine m_lmul F e_X10_choose_118 ?_
          refine Wm.topl (fun x6704 _ => ?_)
          refine m_lcmp F e_X10_choose_119 ?_
          refine Wm.top (fun x6705 _ => ?_)
          refine m_if_lt F e_X10_choose_120 (fun q120 => ?_) (fun q120 => ?_)
          · refine m_iload F rfl e_X10_choose_126 ?_
            refine m_istore_n F (lv' := [(2, .int (nI i)), (11, .long x6698), (9, .long x6690), (8, .int (nI n6687)), (0, .ref c), (1, .int (nI a)), (3, .long w1), (5, .long w2), (7, .int (nI i))]) e_X10_choose_128 (by decide) rfl ?_
            refine m_lload F rfl e_X10_choose_129 ?_
            refine m_lstore_n F (lv' := [(3, .long x6690), (2, .int (nI i)), (11, .long x6698), (9, .long x6690), (8, .int (nI n6687)), (0, .ref c), (1, .int (nI a)), (5, .long w2), (7, .int (nI i))]) e_X10_choose_131 (by decide) rfl ?_
            refine m_lload F rfl e_X10_choose_132 ?_
            refine m_lstore F (lv' := [(5, .long x6698), (3, .long x6690), (2, .int (nI i)), (11, .long x6698), (9, .long x6690), (8, .int (nI n6687)), (0, .ref c), (1, .int (nI a)), (7, .int (nI i))]) e_X10_choose_134 (by decide) rfl ?_
            refine m_iinc F (v := nI (i + 1)) (lv' := [(7, .int (nI (i + 1))), (5, .long x6698), (3, .long x6690), (2, .int (nI i)), (11, .long x6698), (9, .long x6690), (8, .int (nI n6687)), (0, .ref c), (1, .int (nI a))]) e_X10_choose_136 rfl (nI_add i 1) (by decide) rfl ?_
            refine m_goto F e_X10_choose_139 ?_
            refine Wm.lvsub (lv' := [(0, .ref c), (1, .int (nI a)), (2, .int (nI i)), (3, .long x6690), (5, .long x6698), (7, .int (nI (i + 1)))]) ?_ [7, 8, 3, 2, 1, 0] rfl
            exact ih a (nI i) x6690 x6698 (i + 1) _ h6701 (by omega) (by omega)
          · obtain ⟨n6706, hn6706, rfl⟩ := nI_nn (x := x6705) (fun e => q120 (Int32.lt_of_lt_of_le e (by decide)))
            have c120 : n6706 ≥ 0 := by have hh := mt (nI_ltI (a := n6706) (b := 0) (by omega) (by omega)).mpr q120; omega
            refine m_goto F e_X10_choose_123 ?_
            refine m_iinc F (v := nI (i + 1)) (lv' := [(7, .int (nI (i + 1))), (11, .long x6698), (9, .long x6690), (8, .int (nI n6687)), (0, .ref c), (1, .int (nI a)), (2, .int b1), (3, .long w1), (5, .long w2)]) e_X10_choose_136 rfl (nI_add i 1) (by decide) rfl ?_
            refine m_goto F e_X10_choose_139 ?_
            refine Wm.lvsub (lv' := [(0, .ref c), (1, .int (nI a)), (2, .int b1), (3, .long w1), (5, .long w2), (7, .int (nI (i + 1)))]) ?_ [4, 5, 6, 7, 8, 0] rfl
            exact ih a b1 w1 w2 (i + 1) _ h6701 (by omega) (by omega)
set_option maxRecDepth 20000 in
theorem q_X10_choose (l : Launch) (V : VX) (c T Z u h : Nat) (P : NP) (L : Nat → LQ) (N : Nat) (σ : Mem) (x901 : Int32) (h0 : HR V c ⟨T, Z, u, h, P, L⟩ σ) (hok : OKL P.n0 L) (hP : OKP P)  : Ct l V yX10_choose cX10_choose 13 (some .int) 5 0 0 N σ [.ref c, .int x901] (fun r τ => HS V c (⟨T, Z, u, h, P, L⟩ : RG) [0, 2, 3, 4, 5, 6, 7, 8, 9, 10, 11, 12, 13, 14, 15, 16, 19, 20, 21, 22] σ τ ∧ ∃ x : Int32, r = some (.int x)) := by
  refine Ct.of (by decide) (Nat.le_of_ble_eq_true rfl) [(0, .ref c), (1, .int x901)] rfl (fun X hX F hQ => ?_)
  have hPP := hP
  unfold OKP at hPP
  have h1 : HS V c ⟨T, Z, u, h, P, L⟩ [0, 2, 3, 4, 5, 6, 7, 8, 9, 10, 11, 12, 13, 14, 15, 16, 19, 20, 21, 22] σ σ := HS.start h0
  refine m_aload_n F rfl e_X10_choose_0 ?_
  refine m_iconst F (v := 0) (by decide) e_X10_choose_1 ?_
  refine r_put F (g' := (⟨T, Z, u, h, P, L⟩ : RG)) e_X10_choose_2 fp_X10_91 h1 (by decide) ⟨_, rfl⟩ (fun _ _ _ _ q => q) (fun _ _ _ q => q) rfl rfl (by decide) (fun σ6707 h6708 g6709 g6710 f6711 => ?_)
  refine m_aload_n F rfl e_X10_choose_5 ?_
  refine m_iload_n F rfl e_X10_choose_6 ?_
  refine r_callV F e_X10_choose_7 (q_X10_isLease (x_l X) V c T Z u h P L _ _ x901 h6708.1 (hok.b) hP ) cb_X10_isLease ml_X10_292 im_X10_isLease se_X10_isLease h6708 rfl rfl (rest := []) rfl (Nat.le_of_ble_eq_true rfl) ⟨Nat.le_of_ble_eq_true rfl, Nat.le_of_ble_eq_true rfl⟩ ⟨Nat.le_of_ble_eq_true rfl, Nat.le_of_ble_eq_true rfl⟩ (fun r σ6712 hp => ?_)
  obtain ⟨h6713, c6715⟩ := hp
  have h6714 := HS.trans h6708 h6713 (by decide)
  rcases c6715 with rfl | ⟨n6716, h6717, e6718, rfl⟩
  · refine m_if_ne F e_X10_choose_10 (fun q => absurd (by decide) q) (fun _ => ?_)
    refine m_iconst F (v := (-1)) (by decide) e_X10_choose_13 ?_
    exact m_iret F hQ e_X10_choose_14 (⟨h6714, _, rfl⟩)
  · subst e6718
    refine m_if_ne F e_X10_choose_10 (fun _ => ?_) (fun q => absurd q (by decide))
    refine m_aload_n F rfl e_X10_choose_15 ?_
    refine m_iload_n F rfl e_X10_choose_16 ?_
    refine r_callV F e_X10_choose_17 (q_X10_isOn (x_l X) V c T Z u h P L _ _ n6716 h6714.1 (hok.b) hP (by omega)) cb_X10_isOn ml_X10_267 im_X10_isOn se_X10_isOn h6714 rfl rfl (rest := []) rfl (Nat.le_of_ble_eq_true rfl) ⟨Nat.le_of_ble_eq_true rfl, Nat.le_of_ble_eq_true rfl⟩ ⟨Nat.le_of_ble_eq_true rfl, Nat.le_of_ble_eq_true rfl⟩ (fun r σ6719 hp => ?_)
    obtain ⟨h6720, c6722⟩ := hp
    have h6721 := HS.trans h6714 h6720 (by decide)
    rcases c6722 with ⟨g6723, rfl⟩ | ⟨g6723, rfl⟩
    · refine m_if_ne F e_X10_choose_20 (fun q => absurd (by decide) q) (fun _ => ?_)
      refine m_bipush F (v := (-2)) (by decide) e_X10_choose_23 ?_
      exact m_iret F hQ e_X10_choose_25 (⟨h6721, _, rfl⟩)
    · refine m_if_ne F e_X10_choose_20 (fun _ => ?_) (fun q => absurd q (by decide))
      refine m_bipush F (v := (-2)) (by decide) e_X10_choose_26 ?_
      refine m_istore_n F (lv' := [(2, .int (-2)), (0, .ref c), (1, .int (nI n6716))]) e_X10_choose_28 (by decide) rfl ?_
      refine m_lconst F (v := 0) (by decide) e_X10_choose_29 ?_
      refine m_lstore_n F (lv' := [(3, .long 0), (2, .int (-2)), (0, .ref c), (1, .int (nI n6716))]) e_X10_choose_30 (by decide) rfl ?_
      refine m_lconst F (v := 1) (by decide) e_X10_choose_31 ?_
      refine m_lstore F (lv' := [(5, .long 1), (3, .long 0), (2, .int (-2)), (0, .ref c), (1, .int (nI n6716))]) e_X10_choose_32 (by decide) rfl ?_
      refine m_iconst F (v := 0) (by decide) e_X10_choose_34 ?_
      refine m_istore F (lv' := [(7, .int 0), (5, .long 1), (3, .long 0), (2, .int (-2)), (0, .ref c), (1, .int (nI n6716))]) e_X10_choose_35 (by decide) rfl ?_
      refine Wm.lvsub (lv' := [(0, .ref c), (1, .int (nI n6716)), (2, .int (-2)), (3, .long 0), (5, .long 1), (7, .int 0)]) ?_ [4, 5, 3, 2, 1, 0] rfl
      exact lq_X10_choose_37 F hQ hok hP  (16 - 0 + 1) n6716 (-2) 0 1 0 _ h6721 (by omega) (Nat.lt_succ_self _)
set_option maxRecDepth 20000 in
theorem q_X10_gives (l : Launch) (V : VX) (c T Z u h : Nat) (P : NP) (L : Nat → LQ) (N : Nat) (σ : Mem) (n901 : Nat) (x902 : Int32) (x903 : Int64) (x904 : Int64) (h0 : HR V c ⟨T, Z, u, h, P, L⟩ σ) (hob : OKB L) (hP : OKP P) (hn901 : n901 ≤ 3) : Ct l V yX10_gives cX10_gives 8 none 1 0 0 N σ [.ref c, .int (nI n901), .int x902, .long x903, .long x904] (fun r τ => HS V c (⟨T, Z, u, h, P, L⟩ : RG) [0, 1, 2, 3, 4, 5, 6, 7, 8, 9, 10, 11, 12, 13, 14, 15, 16, 18, 19, 20, 21, 22] σ τ ∧ r = none) := by
  refine Ct.of (by decide) (Nat.le_of_ble_eq_true rfl) [(0, .ref c), (1, .int (nI n901)), (2, .int x902), (3, .long x903), (5, .long x904)] rfl (fun X hX F hQ => ?_)
  have hPP := hP
  unfold OKP at hPP
  have h1 : HS V c ⟨T, Z, u, h, P, L⟩ [0, 1, 2, 3, 4, 5, 6, 7, 8, 9, 10, 11, 12, 13, 14, 15, 16, 18, 19, 20, 21, 22] σ σ := HS.start h0
  refine m_sipush F (v := 160) (by decide) e_X10_gives_0 ?_
  refine m_iload_n F rfl e_X10_gives_3 ?_
  refine m_imul F e_X10_gives_4 ?_
  refine Wm.topE (w := nI (160 * n901)) (pk_mul 160 n901) ?_
  refine m_istore F (lv' := [(7, .int (nI (160 * n901))), (0, .ref c), (1, .int (nI n901)), (2, .int x902), (3, .long x903), (5, .long x904)]) e_X10_gives_5 (by decide) rfl ?_
  refine m_aload_n F rfl e_X10_gives_7 ?_
  refine r_get F e_X10_gives_8 fl_X10_59 h1 rfl (fun v hv f6724 => ?_)
  obtain rfl : v = .ref (c + 16) := hv
  refine m_iload F rfl e_X10_gives_11 ?_
  refine m_bipush F (v := 6) (by decide) e_X10_gives_13 ?_
  refine m_iadd F e_X10_gives_15 ?_
  refine Wm.topE (w := nI (160 * n901 + 6)) (nI_add (160 * n901) 6) ?_
  refine m_dup2_11 F rfl rfl e_X10_gives_16 ?_
  refine r_sld F (j := 160 * n901 + 6) e_X10_gives_17 h1 (nI_clamp (by omega)) (vp_in_nI (by omega) (by decide)) (fun x6725 h6726 f6727 => ?_)
  refine m_lload_n F rfl e_X10_gives_18 ?_
  refine m_lsub F e_X10_gives_19 ?_
  refine Wm.topl (fun x6728 _ => ?_)
  refine r_sst F (g' := (⟨T, Z, u, h, P, L⟩ : RG)) (j := 160 * n901 + 6) e_X10_gives_20 h1 (by decide) (nI_clamp (by omega)) (vp_in_nI (by omega) (by decide)) (fun f q => EJ_same (EJ_lw (l := n901) (r := 6) (by omega) (by omega) (by omega)) q) (fun _ _ _ q => q) (fun σ6729 h6730 g6731 => ?_)
  refine m_aload_n F rfl e_X10_gives_21 ?_
  refine r_getC F e_X10_gives_22 fl_X10_59 h6730 ((fld_eq (g6731 _ (by omega))).trans f6724) ?_
  refine m_iload F rfl e_X10_gives_25 ?_
  refine m_bipush F (v := 7) (by decide) e_X10_gives_27 ?_
  refine m_iadd F e_X10_gives_29 ?_
  refine Wm.topE (w := nI (160 * n901 + 7)) (nI_add (160 * n901) 7) ?_
  refine m_dup2_11 F rfl rfl e_X10_gives_30 ?_
  refine r_sld F (j := 160 * n901 + 7) e_X10_gives_31 h6730 (nI_clamp (by omega)) (vp_in_nI (by omega) (by decide)) (fun x6732 h6733 f6734 => ?_)
  refine m_lload F rfl e_X10_gives_32 ?_
  refine m_lsub F e_X10_gives_34 ?_
  refine Wm.topl (fun x6735 _ => ?_)
  refine r_sst F (g' := (⟨T, Z, u, h, P, L⟩ : RG)) (j := 160 * n901 + 7) e_X10_gives_35 h6730 (by decide) (nI_clamp (by omega)) (vp_in_nI (by omega) (by decide)) (fun f q => EJ_same (EJ_lw (l := n901) (r := 7) (by omega) (by omega) (by omega)) q) (fun _ _ _ q => q) (fun σ6736 h6737 g6738 => ?_)
  refine m_aload_n F rfl e_X10_gives_36 ?_
  refine r_getC F e_X10_gives_37 fl_X10_59 h6737 ((fld_eq (g6738 _ (by omega))).trans ((fld_eq (g6731 _ (by omega))).trans f6724)) ?_
  refine m_iload F rfl e_X10_gives_40 ?_
  refine m_bipush F (v := 12) (by decide) e_X10_gives_42 ?_
  refine m_iadd F e_X10_gives_44 ?_
  refine Wm.topE (w := nI (160 * n901 + 12)) (nI_add (160 * n901) 12) ?_
  refine m_dup2_11 F rfl rfl e_X10_gives_45 ?_
  refine r_sld F (j := 160 * n901 + 12) e_X10_gives_46 h6737 (nI_clamp (by omega)) (vp_in_nI (by omega) (by decide)) (fun x6739 h6740 f6741 => ?_)
  refine m_lload_n F rfl e_X10_gives_47 ?_
  refine m_ladd F e_X10_gives_48 ?_
  refine Wm.topl (fun x6742 _ => ?_)
  refine r_sst F (g' := (⟨T, Z, u, h, P, L⟩ : RG)) (j := 160 * n901 + 12) e_X10_gives_49 h6737 (by decide) (nI_clamp (by omega)) (vp_in_nI (by omega) (by decide)) (fun f q => EJ_same (EJ_lw (l := n901) (r := 12) (by omega) (by omega) (by omega)) q) (fun _ _ _ q => q) (fun σ6743 h6744 g6745 => ?_)
  refine m_aload_n F rfl e_X10_gives_50 ?_
  refine m_iload_n F rfl e_X10_gives_51 ?_
  refine m_iload_n F rfl e_X10_gives_52 ?_
  refine m_lconst F (v := 0) (by decide) e_X10_gives_53 ?_
  refine m_lload_n F rfl e_X10_gives_54 ?_
  refine m_lload F rfl e_X10_gives_55 ?_
  refine m_lneg F e_X10_gives_57 ?_
  refine Wm.topl (fun x6746 _ => ?_)
  refine m_lconst F (v := 0) (by decide) e_X10_gives_58 ?_
  refine m_lconst F (v := 0) (by decide) e_X10_gives_59 ?_
  refine m_lload F rfl e_X10_gives_60 ?_
  refine m_lload_n F rfl e_X10_gives_62 ?_
  refine m_lsub F e_X10_gives_63 ?_
  refine Wm.topl (fun x6747 _ => ?_)
  refine r_callV F e_X10_gives_64 (q_X10_entry (x_l X) V c T Z u h P L _ _ x902 (nI n901) 0 x903 x6746 0 0 x6747 h6744.1 (hob) hP ) cb_X10_entry ml_X10_253 im_X10_entry se_X10_entry h6744 rfl rfl (rest := []) rfl (Nat.le_of_ble_eq_true rfl) ⟨Nat.le_of_ble_eq_true rfl, Nat.le_of_ble_eq_true rfl⟩ ⟨Nat.le_of_ble_eq_true rfl, Nat.le_of_ble_eq_true rfl⟩ (fun r σ6748 hp => ?_)
  obtain ⟨h6749, rfl⟩ := hp
  have h6750 := HS.trans h6744 h6749 (by decide)
  exact m_vret F hQ e_X10_gives_67 (⟨h6750, rfl⟩)
set_option maxRecDepth 20000 in
theorem lq_X10_part_86 {V : VX} {X : MX} {N : Nat} {σ : Mem} {c T Z u h : Nat} {P : NP} {L : Nat → LQ}   (F : Fx V X yX10_part cX10_part 9 (some .long) (rmd 3 0 0)) (hQ : Rt V X 0 0 N (fun r τ => ∃ u9, u9 ≤ 20 ∧ ∃ L9, OKL P.n0 L9 ∧ HS V c (⟨T, Z, u9, h, P, L9⟩ : RG) [0, 2, 3, 4, 5, 6, 7, 8, 9, 10, 11, 12, 13, 14, 15, 16, 18, 19, 20, 22] σ τ ∧ ∃ x : Int64, r = some (.long x))) (hok : OKL P.n0 L) (hP : OKP P) (hp0 : u ≤ 20) (hp1 : P.kk = P.n0)  : ∀ (fuel : Nat) (a : Nat) (b : Nat) (w1 : Int64) (w2 : Int64) (i : Nat) (u1 : Nat) (τ : Mem), HS V c (⟨T, Z, u1, h, P, L⟩ : RG) [0, 2, 3, 4, 5, 6, 7, 8, 9, 10, 11, 12, 13, 14, 15, 16, 18, 19, 20, 22] σ τ → u1 ≤ 20 ∧ a ≤ 3 ∧ b ≤ 999 ∧ i ≤ 72 → 72 - i < fuel → Wm V X 9 N τ 0 0 86 [(0, .ref c), (1, .int (nI a)), (2, .int (nI b)), (3, .int (nI (160 * a))), (4, .long w1), (6, .long w2), (8, .int (nI i))] [] := by
  intro fuel
  induction fuel with
  | zero => intros; rename_i hm; exact absurd hm (Nat.not_lt_zero _)
  | succ fuel ih =>
    intro a b w1 w2 i u1 τ h1 hi hm
    have hPP := hP
    unfold OKP at hPP
    refine m_iload F rfl e_X10_part_86 ?_
    refine m_i2l F e_X10_part_88 ?_
    refine Wm.toplE (w := lN i) (nI_l (by omega)) ?_
    refine m_aload_n F rfl e_X10_part_89 ?_
    refine r_get F e_X10_part_90 fl_X10_59 h1 rfl (fun v hv f6751 => ?_)
    obtain rfl : v = .ref (c + 16) := hv
    refine m_iload_n F rfl e_X10_part_93 ?_
    refine m_iconst F (v := 1) (by decide) e_X10_part_94 ?_
    refine m_iadd F e_X10_part_95 ?_
    refine Wm.topE (w := nI (160 * a + 1)) (nI_add (160 * a) 1) ?_
    refine r_sld F (j := 160 * a + 1) e_X10_part_96 h1 (nI_clamp (by omega)) (vp_in_nI (by omega) (by decide)) (fun x6752 h6753 f6754 => ?_)
    have hl6755 := hok.2 a (by omega)
    obtain rfl : x6752 = lN (L a).2.1 := (EJ_l (l := a) (r := 1) (by omega) (by decide)).mp h6753
    refine m_lcmp F e_X10_part_97 ?_
    refine m_if_ge F e_X10_part_98 (fun q98 => ?_) (fun q98 => ?_)
    · have c98 : i ≥ ((L a).2.1) := (lN_le (a := ((L a).2.1)) (b := i) (by omega) (by omega)).mp ((lg_cmp_ge _ _).mp q98)
      refine m_aload_n F rfl e_X10_part_177 ?_
      refine m_iload_n F rfl e_X10_part_178 ?_
      refine m_iconst F (v := 3) (by decide) e_X10_part_179 ?_
      refine m_lload F rfl e_X10_part_180 ?_
      refine m_lload F rfl e_X10_part_182 ?_
      refine r_callV F e_X10_part_184 (q_X10_gives (x_l X) V c T Z u1 h P L _ _ a 3 w1 w2 h1.1 (hok.b) hP (by omega)) cb_X10_gives ml_X10_319 im_X10_gives se_X10_gives h1 rfl rfl (rest := []) rfl (Nat.le_of_ble_eq_true rfl) ⟨Nat.le_of_ble_eq_true rfl, Nat.le_of_ble_eq_true rfl⟩ ⟨Nat.le_of_ble_eq_true rfl, Nat.le_of_ble_eq_true rfl⟩ (fun r σ6756 hp => ?_)
      obtain ⟨h6757, rfl⟩ := hp
      have h6758 := HS.trans h1 h6757 (by decide)
      refine m_lload F rfl e_X10_part_187 ?_
      refine m_lload F rfl e_X10_part_189 ?_
      refine m_lsub F e_X10_part_191 ?_
      refine Wm.topl (fun x6759 _ => ?_)
      exact m_lret F hQ e_X10_part_192 (⟨u1, by omega, L, hok, h6758, _, rfl⟩)
    · have c98 : i < ((L a).2.1) := by have hh := mt (fun h9 => (lg_cmp_ge (lN i) (lN ((L a).2.1))).mpr ((lN_le (a := ((L a).2.1)) (b := i) (by omega) (by omega)).mpr h9)) q98; omega
      refine m_aload_n F rfl e_X10_part_101 ?_
      refine r_getC F e_X10_part_102 fl_X10_59 h1 (f6751) ?_
      refine m_iload_n F rfl e_X10_part_105 ?_
      refine m_bipush F (v := 13) (by decide) e_X10_part_106 ?_
      refine m_iadd F e_X10_part_108 ?_
      refine Wm.topE (w := nI (160 * a + 13)) (nI_add (160 * a) 13) ?_
      refine m_iload F rfl e_X10_part_109 ?_
      refine m_iadd F e_X10_part_111 ?_
      refine Wm.topE (w := nI ((160 * a + 13) + i)) (nI_add (160 * a + 13) i) ?_
      refine m_aload_n F rfl e_X10_part_112 ?_
      refine r_getC F e_X10_part_113 fl_X10_59 h1 (f6751) ?_
      refine m_iload_n F rfl e_X10_part_116 ?_
      refine m_bipush F (v := 13) (by decide) e_X10_part_117 ?_
      refine m_iadd F e_X10_part_119 ?_
      refine Wm.topE (w := nI (160 * a + 13)) (nI_add (160 * a) 13) ?_
      refine m_iload F rfl e_X10_part_120 ?_
      refine m_iadd F e_X10_part_122 ?_
      refine Wm.topE (w := nI ((160 * a + 13) + i)) (nI_add (160 * a + 13) i) ?_
      refine r_sld F (j := (160 * a + 13) + i) e_X10_part_123 h1 (nI_clamp (by omega)) (vp_in_nI (by omega) (by decide)) (fun x6760 h6761 f6762 => ?_)
      refine m_sipush F (v := 1000) (by decide) e_X10_part_124 ?_
      refine m_iload_n F rfl e_X10_part_127 ?_
      refine m_isub F e_X10_part_128 ?_
      refine Wm.top (fun x6763 _ => ?_)
      refine m_i2l F e_X10_part_129 ?_
      refine Wm.topl (fun x6764 _ => ?_)
      refine m_lmul F e_X10_part_130 ?_
      refine Wm.topl (fun x6765 _ => ?_)
      refine m_ldc2 F kc_X10_224 e_X10_part_131 ?_
      refine m_ldiv F (by decide) e_X10_part_134 ?_
      refine Wm.topl (fun x6766 _ => ?_)
      refine r_sst F (g' := (⟨T, Z, u1, h, P, L⟩ : RG)) (j := (160 * a + 13) + i) e_X10_part_135 h1 (by decide) (nI_clamp (by omega)) (vp_in_nI (by omega) (by decide)) (fun f q => EJ_same (EJ_lw (l := a) (r := ((160 * a + 13) + i) - 160 * a) (by omega) (by omega) (by omega)) q) (fun _ _ _ q => q) (fun σ6767 h6768 g6769 => ?_)
      refine m_aload_n F rfl e_X10_part_136 ?_
      refine r_getC F e_X10_part_137 fl_X10_59 h6768 ((fld_eq (g6769 _ (by omega))).trans f6751) ?_
      refine m_iload_n F rfl e_X10_part_140 ?_
      refine m_bipush F (v := 85) (by decide) e_X10_part_141 ?_
      refine m_iadd F e_X10_part_143 ?_
      refine Wm.topE (w := nI (160 * a + 85)) (nI_add (160 * a) 85) ?_
      refine m_iload F rfl e_X10_part_144 ?_
      refine m_iadd F e_X10_part_146 ?_
      refine Wm.topE (w := nI ((160 * a + 85) + i)) (nI_add (160 * a + 85) i) ?_
      refine m_aload_n F rfl e_X10_part_147 ?_
      refine r_getC F e_X10_part_148 fl_X10_59 h6768 ((fld_eq (g6769 _ (by omega))).trans f6751) ?_
      refine m_iload_n F rfl e_X10_part_151 ?_
      refine m_bipush F (v := 85) (by decide) e_X10_part_152 ?_
      refine m_iadd F e_X10_part_154 ?_
      refine Wm.topE (w := nI (160 * a + 85)) (nI_add (160 * a) 85) ?_
      refine m_iload F rfl e_X10_part_155 ?_
      refine m_iadd F e_X10_part_157 ?_
      refine Wm.topE (w := nI ((160 * a + 85) + i)) (nI_add (160 * a + 85) i) ?_
      refine r_sld F (j := (160 * a + 85) + i) e_X10_part_158 h6768 (nI_clamp (by omega)) (vp_in_nI (by omega) (by decide)) (fun x6770 h6771 f6772 => ?_)
      refine m_sipush F (v := 1000) (by decide) e_X10_part_159 ?_
      refine m_iload_n F rfl e_X10_part_162 ?_
      refine m_isub F e_X10_part_163 ?_
      refine Wm.top (fun x6773 _ => ?_)
      refine m_i2l F e_X10_part_164 ?_
      refine Wm.topl (fun x6774 _ => ?_)
      refine m_lmul F e_X10_part_165 ?_
      refine Wm.topl (fun x6775 _ => ?_)
      refine m_ldc2 F kc_X10_224 e_X10_part_166 ?_
      refine m_ldiv F (by decide) e_X10_part_169 ?_
      refine Wm.topl (fun x6776 _ => ?_)
      refine r_sst F (g' := (⟨T, Z, u1, h, P, L⟩ : RG)) (j := (160 * a + 85) + i) e_X10_part_170 h6768 (by decide) (nI_clamp (by omega)) (vp_in_nI (by omega) (by decide)) (fun f q => EJ_same (EJ_lw (l := a) (r := ((160 * a + 85) + i) - 160 * a) (by omega) (by omega) (by omega)) q) (fun _ _ _ q => q) (fun σ6777 h6778 g6779 => ?_)
      refine m_iinc F (v := nI (i + 1)) (lv' := [(8, .int (nI (i + 1))), (0, .ref c), (1, .int (nI a)), (2, .int (nI b)), (3, .int (nI (160 * a))), (4, .long w1), (6, .long w2)]) e_X10_part_171 rfl (nI_add i 1) (by decide) rfl ?_
      refine m_goto F e_X10_part_174 ?_
      refine Wm.lvsub (lv' := [(0, .ref c), (1, .int (nI a)), (2, .int (nI b)), (3, .int (nI (160 * a))), (4, .long w1), (6, .long w2), (8, .int (nI (i + 1)))]) ?_ [1, 2, 3, 4, 5, 6, 0] rfl
      exact ih a b w1 w2 (i + 1) u1 _ h6778 (by omega) (by omega)
set_option maxRecDepth 20000 in
theorem q_X10_part (l : Launch) (V : VX) (c T Z u h : Nat) (P : NP) (L : Nat → LQ) (N : Nat) (σ : Mem) (x901 : Int32) (x902 : Int32) (h0 : HR V c ⟨T, Z, u, h, P, L⟩ σ) (hok : OKL P.n0 L) (hP : OKP P) (hp0 : u ≤ 20) (hp1 : P.kk = P.n0) : Ct l V yX10_part cX10_part 9 (some .long) 3 0 0 N σ [.ref c, .int x901, .int x902] (fun r τ => ∃ u9, u9 ≤ 20 ∧ ∃ L9, OKL P.n0 L9 ∧ HS V c (⟨T, Z, u9, h, P, L9⟩ : RG) [0, 2, 3, 4, 5, 6, 7, 8, 9, 10, 11, 12, 13, 14, 15, 16, 18, 19, 20, 22] σ τ ∧ ∃ x : Int64, r = some (.long x)) := by
  refine Ct.of (by decide) (Nat.le_of_ble_eq_true rfl) [(0, .ref c), (1, .int x901), (2, .int x902)] rfl (fun X hX F hQ => ?_)
  have hPP := hP
  unfold OKP at hPP
  have h1 : HS V c ⟨T, Z, u, h, P, L⟩ [0, 2, 3, 4, 5, 6, 7, 8, 9, 10, 11, 12, 13, 14, 15, 16, 18, 19, 20, 22] σ σ := HS.start h0
  refine m_aload_n F rfl e_X10_part_0 ?_
  refine m_iconst F (v := 0) (by decide) e_X10_part_1 ?_
  refine r_put F (g' := (⟨T, Z, u, h, P, L⟩ : RG)) e_X10_part_2 fp_X10_91 h1 (by decide) ⟨_, rfl⟩ (fun _ _ _ _ q => q) (fun _ _ _ q => q) rfl rfl (by decide) (fun σ6780 h6781 g6782 g6783 f6784 => ?_)
  refine m_aload_n F rfl e_X10_part_5 ?_
  refine m_iload_n F rfl e_X10_part_6 ?_
  refine r_callV F e_X10_part_7 (q_X10_isRunning (x_l X) V c T Z u h P L _ _ x901 h6781.1 (hok.b) hP ) cb_X10_isRunning ml_X10_301 im_X10_isRunning se_X10_isRunning h6781 rfl rfl (rest := []) rfl (Nat.le_of_ble_eq_true rfl) ⟨Nat.le_of_ble_eq_true rfl, Nat.le_of_ble_eq_true rfl⟩ ⟨Nat.le_of_ble_eq_true rfl, Nat.le_of_ble_eq_true rfl⟩ (fun r σ6785 hp => ?_)
  obtain ⟨h6786, c6788⟩ := hp
  have h6787 := HS.trans h6781 h6786 (by decide)
  rcases c6788 with rfl | ⟨n6789, h6790, h6791, e6792, rfl⟩
  · refine m_if_eq F e_X10_part_10 (fun _ => ?_) (fun q => absurd (by decide) q)
    refine m_ldc2 F kc_X10_299 e_X10_part_25 ?_
    exact m_lret F hQ e_X10_part_28 (⟨u, by omega, L, hok, h6787, _, rfl⟩)
  · subst e6792
    refine m_if_eq F e_X10_part_10 (fun q => absurd q (by decide)) (fun _ => ?_)
    refine m_iload_n F rfl e_X10_part_13 ?_
    refine m_iconst F (v := 1) (by decide) e_X10_part_14 ?_
    refine m_icmp_lt F e_X10_part_15 (fun q15 => ?_) (fun q15 => ?_)
    · refine m_ldc2 F kc_X10_299 e_X10_part_25 ?_
      exact m_lret F hQ e_X10_part_28 (⟨u, by omega, L, hok, h6787, _, rfl⟩)
    · obtain ⟨n6793, hn6793, rfl⟩ := nI_nn (x := x902) (fun e => q15 (Int32.lt_of_lt_of_le e (by decide)))
      have c15 : n6793 ≥ 1 := by have hh := mt (nI_ltI (a := n6793) (b := 1) (by omega) (by omega)).mpr q15; omega
      refine m_iload_n F rfl e_X10_part_18 ?_
      refine m_sipush F (v := 999) (by decide) e_X10_part_19 ?_
      refine m_icmp_le F e_X10_part_22 (fun q22 => ?_) (fun q22 => ?_)
      · have c22 : n6793 ≤ 999 := (nI_leI (a := n6793) (b := 999) (by omega) (by omega)).mp q22
        refine m_aload_n F rfl e_X10_part_29 ?_
        refine r_callV F e_X10_part_30 (q_X10_remembers (x_l X) V c T Z u h P L _ _  h6787.1 (hok) hP (by first | omega | assumption | decide) (by first | omega | assumption | decide)) cb_X10_remembers ml_X10_286 im_X10_remembers se_X10_remembers h6787 rfl rfl (rest := []) rfl (Nat.le_of_ble_eq_true rfl) ⟨Nat.le_of_ble_eq_true rfl, Nat.le_of_ble_eq_true rfl⟩ ⟨Nat.le_of_ble_eq_true rfl, Nat.le_of_ble_eq_true rfl⟩ (fun r σ6794 hp => ?_)
        obtain ⟨u6797, hu6797, h6795, rfl⟩ := hp
        have h6796 := HS.trans h6787 h6795 (by decide)
        refine m_sipush F (v := 160) (by decide) e_X10_part_33 ?_
        refine m_iload_n F rfl e_X10_part_36 ?_
        refine m_imul F e_X10_part_37 ?_
        refine Wm.topE (w := nI (160 * n6789)) (pk_mul 160 n6789) ?_
        refine m_istore_n F (lv' := [(3, .int (nI (160 * n6789))), (0, .ref c), (1, .int (nI n6789)), (2, .int (nI n6793))]) e_X10_part_38 (by decide) rfl ?_
        have hl6798 := hok.2 n6789 (by omega)
        have hl6799 := hok.2 n6789 (by omega)
        have hl6800 := hok.2 n6789 (by omega)
        refine m_aload_n F rfl e_X10_part_39 ?_
        refine r_get F e_X10_part_40 fl_X10_59 h6796 rfl (fun v hv f6801 => ?_)
        obtain rfl : v = .ref (c + 16) := hv
        refine m_iload_n F rfl e_X10_part_43 ?_
        refine m_bipush F (v := 6) (by decide) e_X10_part_44 ?_
        refine m_iadd F e_X10_part_46 ?_
        refine Wm.topE (w := nI (160 * n6789 + 6)) (nI_add (160 * n6789) 6) ?_
        refine r_sld F (j := 160 * n6789 + 6) e_X10_part_47 h6796 (nI_clamp (by omega)) (vp_in_nI (by omega) (by decide)) (fun x6802 h6803 f6804 => ?_)
        refine m_iload_n F rfl e_X10_part_48 ?_
        refine m_i2l F e_X10_part_49 ?_
        refine Wm.toplE (w := lN n6793) (nI_l (by omega)) ?_
        refine m_lmul F e_X10_part_50 ?_
        refine Wm.topl (fun x6805 _ => ?_)
        refine m_ldc2 F kc_X10_224 e_X10_part_51 ?_
        refine m_ldiv F (by decide) e_X10_part_54 ?_
        refine Wm.topl (fun x6806 _ => ?_)
        refine m_lstore F (lv' := [(4, .long x6806), (3, .int (nI (160 * n6789))), (0, .ref c), (1, .int (nI n6789)), (2, .int (nI n6793))]) e_X10_part_55 (by decide) rfl ?_
        refine m_aload_n F rfl e_X10_part_57 ?_
        refine r_getC F e_X10_part_58 fl_X10_59 h6796 (f6801) ?_
        refine m_iload_n F rfl e_X10_part_61 ?_
        refine m_bipush F (v := 7) (by decide) e_X10_part_62 ?_
        refine m_iadd F e_X10_part_64 ?_
        refine Wm.topE (w := nI (160 * n6789 + 7)) (nI_add (160 * n6789) 7) ?_
        refine r_sld F (j := 160 * n6789 + 7) e_X10_part_65 h6796 (nI_clamp (by omega)) (vp_in_nI (by omega) (by decide)) (fun x6807 h6808 f6809 => ?_)
        refine m_iload_n F rfl e_X10_part_66 ?_
        refine m_i2l F e_X10_part_67 ?_
        refine Wm.toplE (w := lN n6793) (nI_l (by omega)) ?_
        refine m_lmul F e_X10_part_68 ?_
        refine Wm.topl (fun x6810 _ => ?_)
        refine m_ldc2 F kc_X10_224 e_X10_part_69 ?_
        refine m_ldiv F (by decide) e_X10_part_72 ?_
        refine Wm.topl (fun x6811 _ => ?_)
        refine m_lstore F (lv' := [(6, .long x6811), (4, .long x6806), (3, .int (nI (160 * n6789))), (0, .ref c), (1, .int (nI n6789)), (2, .int (nI n6793))]) e_X10_part_73 (by decide) rfl ?_
        refine m_aload_n F rfl e_X10_part_75 ?_
        refine r_getC F e_X10_part_76 fl_X10_59 h6796 (f6801) ?_
        refine m_iload_n F rfl e_X10_part_79 ?_
        refine m_iconst F (v := 5) (by decide) e_X10_part_80 ?_
        refine m_iadd F e_X10_part_81 ?_
        refine Wm.topE (w := nI (160 * n6789 + 5)) (nI_add (160 * n6789) 5) ?_
        refine r_sld F (j := 160 * n6789 + 5) e_X10_part_82 h6796 (nI_clamp (by omega)) (vp_in_nI (by omega) (by decide)) (fun x6812 h6813 f6814 => ?_)
        have hl6815 := hok.2 n6789 (by omega)
        obtain rfl : x6812 = lN (L n6789).2.2.2 := (EJ_l (l := n6789) (r := 5) (by omega) (by decide)).mp h6813
        refine m_l2i F e_X10_part_83 ?_
        refine Wm.topE (w := nI ((L n6789).2.2.2)) (lN_i ((L n6789).2.2.2)) ?_
        refine m_istore F (lv' := [(8, .int (nI ((L n6789).2.2.2))), (6, .long x6811), (4, .long x6806), (3, .int (nI (160 * n6789))), (0, .ref c), (1, .int (nI n6789)), (2, .int (nI n6793))]) e_X10_part_84 (by decide) rfl ?_
        refine Wm.lvsub (lv' := [(0, .ref c), (1, .int (nI n6789)), (2, .int (nI n6793)), (3, .int (nI (160 * n6789))), (4, .long x6806), (6, .long x6811), (8, .int (nI ((L n6789).2.2.2)))]) ?_ [4, 5, 6, 3, 2, 1, 0] rfl
        exact lq_X10_part_86 F hQ hok hP hp0 hp1 (72 - ((L n6789).2.2.2) + 1) n6789 n6793 x6806 x6811 ((L n6789).2.2.2) u6797 _ h6796 (by omega) (Nat.lt_succ_self _)
      · have c22 : n6793 > 999 := by have hh := mt (nI_leI (a := n6793) (b := 999) (by omega) (by omega)).mpr q22; omega
        refine m_ldc2 F kc_X10_299 e_X10_part_25 ?_
        exact m_lret F hQ e_X10_part_28 (⟨u, by omega, L, hok, h6787, _, rfl⟩)
set_option maxRecDepth 20000 in
theorem q_X10_end (l : Launch) (V : VX) (c T Z u h : Nat) (P : NP) (L : Nat → LQ) (N : Nat) (σ : Mem) (x901 : Int32) (h0 : HR V c ⟨T, Z, u, h, P, L⟩ σ) (hok : OKL P.n0 L) (hP : OKP P) (hp0 : u ≤ 20) (hp1 : P.kk = P.n0) : Ct l V yX10_end cX10_end 5 (some .long) 3 0 0 N σ [.ref c, .int x901] (fun r τ => ∃ u9, u9 ≤ 20 ∧ ∃ L9, OKL P.n0 L9 ∧ HS V c (⟨T, Z, u9, h, P, L9⟩ : RG) [0, 2, 3, 4, 5, 6, 7, 8, 9, 10, 11, 12, 13, 14, 15, 16, 18, 19, 20, 22] σ τ ∧ ∃ x : Int64, r = some (.long x)) := by
  refine Ct.of (by decide) (Nat.le_of_ble_eq_true rfl) [(0, .ref c), (1, .int x901)] rfl (fun X hX F hQ => ?_)
  have hPP := hP
  unfold OKP at hPP
  have h1 : HS V c ⟨T, Z, u, h, P, L⟩ [0, 2, 3, 4, 5, 6, 7, 8, 9, 10, 11, 12, 13, 14, 15, 16, 18, 19, 20, 22] σ σ := HS.start h0
  refine m_aload_n F rfl e_X10_end_0 ?_
  refine m_iconst F (v := 0) (by decide) e_X10_end_1 ?_
  refine r_put F (g' := (⟨T, Z, u, h, P, L⟩ : RG)) e_X10_end_2 fp_X10_91 h1 (by decide) ⟨_, rfl⟩ (fun _ _ _ _ q => q) (fun _ _ _ q => q) rfl rfl (by decide) (fun σ6816 h6817 g6818 g6819 f6820 => ?_)
  refine m_aload_n F rfl e_X10_end_5 ?_
  refine m_iload_n F rfl e_X10_end_6 ?_
  refine r_callV F e_X10_end_7 (q_X10_isRunning (x_l X) V c T Z u h P L _ _ x901 h6817.1 (hok.b) hP ) cb_X10_isRunning ml_X10_301 im_X10_isRunning se_X10_isRunning h6817 rfl rfl (rest := []) rfl (Nat.le_of_ble_eq_true rfl) ⟨Nat.le_of_ble_eq_true rfl, Nat.le_of_ble_eq_true rfl⟩ ⟨Nat.le_of_ble_eq_true rfl, Nat.le_of_ble_eq_true rfl⟩ (fun r σ6821 hp => ?_)
  obtain ⟨h6822, c6824⟩ := hp
  have h6823 := HS.trans h6817 h6822 (by decide)
  rcases c6824 with rfl | ⟨n6825, h6826, h6827, e6828, rfl⟩
  · refine m_if_ne F e_X10_end_10 (fun q => absurd (by decide) q) (fun _ => ?_)
    refine m_ldc2 F kc_X10_299 e_X10_end_13 ?_
    exact m_lret F hQ e_X10_end_16 (⟨u, by omega, L, hok, h6823, _, rfl⟩)
  · subst e6828
    refine m_if_ne F e_X10_end_10 (fun _ => ?_) (fun q => absurd q (by decide))
    refine m_aload_n F rfl e_X10_end_17 ?_
    refine r_callV F e_X10_end_18 (q_X10_remembers (x_l X) V c T Z u h P L _ _  h6823.1 (hok) hP (by first | omega | assumption | decide) (by first | omega | assumption | decide)) cb_X10_remembers ml_X10_286 im_X10_remembers se_X10_remembers h6823 rfl rfl (rest := []) rfl (Nat.le_of_ble_eq_true rfl) ⟨Nat.le_of_ble_eq_true rfl, Nat.le_of_ble_eq_true rfl⟩ ⟨Nat.le_of_ble_eq_true rfl, Nat.le_of_ble_eq_true rfl⟩ (fun r σ6829 hp => ?_)
    obtain ⟨u6832, hu6832, h6830, rfl⟩ := hp
    have h6831 := HS.trans h6823 h6830 (by decide)
    refine m_sipush F (v := 160) (by decide) e_X10_end_21 ?_
    refine m_iload_n F rfl e_X10_end_24 ?_
    refine m_imul F e_X10_end_25 ?_
    refine Wm.topE (w := nI (160 * n6825)) (pk_mul 160 n6825) ?_
    refine m_istore_n F (lv' := [(2, .int (nI (160 * n6825))), (0, .ref c), (1, .int (nI n6825))]) e_X10_end_26 (by decide) rfl ?_
    have hl6833 := hok.2 n6825 (by omega)
    have hl6834 := hok.2 n6825 (by omega)
    have hl6835 := hok.2 n6825 (by omega)
    refine m_aload_n F rfl e_X10_end_27 ?_
    refine r_get F e_X10_end_28 fl_X10_59 h6831 rfl (fun v hv f6836 => ?_)
    obtain rfl : v = .ref (c + 16) := hv
    refine m_iload_n F rfl e_X10_end_31 ?_
    refine m_bipush F (v := 6) (by decide) e_X10_end_32 ?_
    refine m_iadd F e_X10_end_34 ?_
    refine Wm.topE (w := nI (160 * n6825 + 6)) (nI_add (160 * n6825) 6) ?_
    refine r_sld F (j := 160 * n6825 + 6) e_X10_end_35 h6831 (nI_clamp (by omega)) (vp_in_nI (by omega) (by decide)) (fun x6837 h6838 f6839 => ?_)
    refine m_aload_n F rfl e_X10_end_36 ?_
    refine r_getC F e_X10_end_37 fl_X10_59 h6831 (f6836) ?_
    refine m_iload_n F rfl e_X10_end_40 ?_
    refine m_bipush F (v := 7) (by decide) e_X10_end_41 ?_
    refine m_iadd F e_X10_end_43 ?_
    refine Wm.topE (w := nI (160 * n6825 + 7)) (nI_add (160 * n6825) 7) ?_
    refine r_sld F (j := 160 * n6825 + 7) e_X10_end_44 h6831 (nI_clamp (by omega)) (vp_in_nI (by omega) (by decide)) (fun x6840 h6841 f6842 => ?_)
    refine m_lsub F e_X10_end_45 ?_
    refine Wm.topl (fun x6843 _ => ?_)
    refine m_lstore_n F (lv' := [(3, .long x6843), (2, .int (nI (160 * n6825))), (0, .ref c), (1, .int (nI n6825))]) e_X10_end_46 (by decide) rfl ?_
    refine m_aload_n F rfl e_X10_end_47 ?_
    refine m_iload_n F rfl e_X10_end_48 ?_
    refine m_iconst F (v := 4) (by decide) e_X10_end_49 ?_
    refine m_aload_n F rfl e_X10_end_50 ?_
    refine r_getC F e_X10_end_51 fl_X10_59 h6831 (f6836) ?_
    refine m_iload_n F rfl e_X10_end_54 ?_
    refine m_bipush F (v := 6) (by decide) e_X10_end_55 ?_
    refine m_iadd F e_X10_end_57 ?_
    refine Wm.topE (w := nI (160 * n6825 + 6)) (nI_add (160 * n6825) 6) ?_
    refine r_sld F (j := 160 * n6825 + 6) e_X10_end_58 h6831 (nI_clamp (by omega)) (vp_in_nI (by omega) (by decide)) (fun x6844 h6845 f6846 => ?_)
    refine m_aload_n F rfl e_X10_end_59 ?_
    refine r_getC F e_X10_end_60 fl_X10_59 h6831 (f6836) ?_
    refine m_iload_n F rfl e_X10_end_63 ?_
    refine m_bipush F (v := 7) (by decide) e_X10_end_64 ?_
    refine m_iadd F e_X10_end_66 ?_
    refine Wm.topE (w := nI (160 * n6825 + 7)) (nI_add (160 * n6825) 7) ?_
    refine r_sld F (j := 160 * n6825 + 7) e_X10_end_67 h6831 (nI_clamp (by omega)) (vp_in_nI (by omega) (by decide)) (fun x6847 h6848 f6849 => ?_)
    refine r_callV F e_X10_end_68 (q_X10_gives (x_l X) V c T Z u6832 h P L _ _ n6825 4 x6844 x6847 h6831.1 (hok.b) hP (by omega)) cb_X10_gives ml_X10_319 im_X10_gives se_X10_gives h6831 rfl rfl (rest := []) rfl (Nat.le_of_ble_eq_true rfl) ⟨Nat.le_of_ble_eq_true rfl, Nat.le_of_ble_eq_true rfl⟩ ⟨Nat.le_of_ble_eq_true rfl, Nat.le_of_ble_eq_true rfl⟩ (fun r σ6850 hp => ?_)
    obtain ⟨h6851, rfl⟩ := hp
    have h6852 := HS.trans h6831 h6851 (by decide)
    refine m_aload_n F rfl e_X10_end_71 ?_
    refine r_getC F e_X10_end_72 fl_X10_59 h6852 ((fld_eq (h6851.2 c (by rw [show kC c c = 1 from kC_at (k := 0) (by decide)]; decide))).trans f6836) ?_
    refine m_iload_n F rfl e_X10_end_75 ?_
    refine m_iconst F (v := 0) (by decide) e_X10_end_76 ?_
    refine m_iadd F e_X10_end_77 ?_
    refine Wm.topE (w := nI (160 * n6825)) (nI_add (160 * n6825) 0) ?_
    refine m_ldc2 F kc_X10_234 e_X10_end_78 ?_
    refine r_sst F (g' := (⟨T, Z, u6832, h, P, (updL L n6825 (2, (L n6825).2.1, (L n6825).2.2.1, (L n6825).2.2.2))⟩ : RG)) (j := 160 * n6825) e_X10_end_81 h6852 (by decide) (nI_clamp (by omega)) (vp_in_nI (by omega) (by decide)) (fun f q => EJ_up (l := n6825) (r := 0) (by omega) (by decide) q rfl (by intro r' h1 h2 y hy; revert hy; unfold EL; split <;> simp_all)) CR.row (fun σ6853 h6854 g6855 => ?_)
    obtain ⟨L6856, eL6856⟩ : ∃ L9, L9 = (updL L n6825 (2, (L n6825).2.1, (L n6825).2.2.1, (L n6825).2.2.2)) := ⟨_, rfl⟩
    rw [← eL6856] at h6854
    have fL6856 : L6856 n6825 = (2, (L n6825).2.1, (L n6825).2.2.1, (L n6825).2.2.2) := by rw [eL6856]; exact if_pos rfl
    have fL68560 : (L6856 n6825).1 = 2 := by rw [fL6856]
    have fL68561 : (L6856 n6825).2.1 = (L n6825).2.1 := by rw [fL6856]
    have fL68562 : (L6856 n6825).2.2.1 = (L n6825).2.2.1 := by rw [fL6856]
    have fL68563 : (L6856 n6825).2.2.2 = (L n6825).2.2.2 := by rw [fL6856]
    have oL6856 : ∀ i, i ≠ n6825 → L6856 i = L i := fun i hi => by rw [eL6856]; exact if_neg hi
    have pL6856 : (L6856 4).1 = (L 4).1 := by rw [oL6856 4 (by omega)]
    refine m_lload_n F rfl e_X10_end_82 ?_
    have ok6857 : OKL P.n0 L6856 := OKL.upd hok (l := n6825) (by omega) (fun i hi => (oL6856 i hi)) (by have h9 := hok.2 n6825 (by omega); omega)
    exact m_lret F hQ e_X10_end_83 (⟨u6832, by omega, L6856, ok6857, h6854, _, rfl⟩)
set_option maxRecDepth 20000 in
theorem q_X10_down (l : Launch) (V : VX) (c T Z u h : Nat) (P : NP) (L : Nat → LQ) (N : Nat) (σ : Mem) (x901 : Int32) (x902 : Int64) (h0 : HR V c ⟨T, Z, u, h, P, L⟩ σ) (hok : OKL P.n0 L) (hP : OKP P) (hp0 : u ≤ 20) (hp1 : P.kk = P.n0) : Ct l V yX10_down cX10_down 4 (some .long) 3 0 0 N σ [.ref c, .int x901, .long x902] (fun r τ => ∃ u9, u9 ≤ 20 ∧ ∃ L9, OKL P.n0 L9 ∧ HS V c (⟨T, Z, u9, h, P, L9⟩ : RG) [0, 2, 3, 4, 5, 6, 7, 8, 9, 10, 11, 12, 13, 14, 15, 16, 18, 19, 20, 22] σ τ ∧ ∃ x : Int64, r = some (.long x)) := by
  refine Ct.of (by decide) (Nat.le_of_ble_eq_true rfl) [(0, .ref c), (1, .int x901), (2, .long x902)] rfl (fun X hX F hQ => ?_)
  have hPP := hP
  unfold OKP at hPP
  have h1 : HS V c ⟨T, Z, u, h, P, L⟩ [0, 2, 3, 4, 5, 6, 7, 8, 9, 10, 11, 12, 13, 14, 15, 16, 18, 19, 20, 22] σ σ := HS.start h0
  refine m_aload_n F rfl e_X10_down_0 ?_
  refine m_iconst F (v := 0) (by decide) e_X10_down_1 ?_
  refine r_put F (g' := (⟨T, Z, u, h, P, L⟩ : RG)) e_X10_down_2 fp_X10_91 h1 (by decide) ⟨_, rfl⟩ (fun _ _ _ _ q => q) (fun _ _ _ q => q) rfl rfl (by decide) (fun σ6858 h6859 g6860 g6861 f6862 => ?_)
  refine m_aload_n F rfl e_X10_down_5 ?_
  refine m_iload_n F rfl e_X10_down_6 ?_
  refine r_callV F e_X10_down_7 (q_X10_isRunning (x_l X) V c T Z u h P L _ _ x901 h6859.1 (hok.b) hP ) cb_X10_isRunning ml_X10_301 im_X10_isRunning se_X10_isRunning h6859 rfl rfl (rest := []) rfl (Nat.le_of_ble_eq_true rfl) ⟨Nat.le_of_ble_eq_true rfl, Nat.le_of_ble_eq_true rfl⟩ ⟨Nat.le_of_ble_eq_true rfl, Nat.le_of_ble_eq_true rfl⟩ (fun r σ6863 hp => ?_)
  obtain ⟨h6864, c6866⟩ := hp
  have h6865 := HS.trans h6859 h6864 (by decide)
  rcases c6866 with rfl | ⟨n6867, h6868, h6869, e6870, rfl⟩
  · refine m_if_eq F e_X10_down_10 (fun _ => ?_) (fun q => absurd (by decide) q)
    refine m_ldc2 F kc_X10_299 e_X10_down_37 ?_
    exact m_lret F hQ e_X10_down_40 (⟨u, by omega, L, hok, h6865, _, rfl⟩)
  · subst e6870
    refine m_if_eq F e_X10_down_10 (fun q => absurd q (by decide)) (fun _ => ?_)
    refine m_lload_n F rfl e_X10_down_13 ?_
    refine m_lconst F (v := 1) (by decide) e_X10_down_14 ?_
    refine m_lcmp F e_X10_down_15 ?_
    refine Wm.top (fun x6871 _ => ?_)
    refine m_if_lt F e_X10_down_16 (fun q16 => ?_) (fun q16 => ?_)
    · refine m_ldc2 F kc_X10_299 e_X10_down_37 ?_
      exact m_lret F hQ e_X10_down_40 (⟨u, by omega, L, hok, h6865, _, rfl⟩)
    · obtain ⟨n6872, hn6872, rfl⟩ := nI_nn (x := x6871) (fun e => q16 (Int32.lt_of_lt_of_le e (by decide)))
      have c16 : n6872 ≥ 0 := by have hh := mt (nI_ltI (a := n6872) (b := 0) (by omega) (by omega)).mpr q16; omega
      refine m_lload_n F rfl e_X10_down_19 ?_
      refine m_aload_n F rfl e_X10_down_20 ?_
      refine r_get F e_X10_down_21 fl_X10_59 h6865 rfl (fun v hv f6873 => ?_)
      obtain rfl : v = .ref (c + 16) := hv
      refine m_sipush F (v := 160) (by decide) e_X10_down_24 ?_
      refine m_iload_n F rfl e_X10_down_27 ?_
      refine m_imul F e_X10_down_28 ?_
      refine Wm.topE (w := nI (160 * n6867)) (pk_mul 160 n6867) ?_
      refine m_bipush F (v := 7) (by decide) e_X10_down_29 ?_
      refine m_iadd F e_X10_down_31 ?_
      refine Wm.topE (w := nI (160 * n6867 + 7)) (nI_add (160 * n6867) 7) ?_
      refine r_sld F (j := 160 * n6867 + 7) e_X10_down_32 h6865 (nI_clamp (by omega)) (vp_in_nI (by omega) (by decide)) (fun x6874 h6875 f6876 => ?_)
      refine m_lcmp F e_X10_down_33 ?_
      refine Wm.top (fun x6877 _ => ?_)
      refine m_if_le F e_X10_down_34 (fun q34 => ?_) (fun q34 => ?_)
      · refine m_aload_n F rfl e_X10_down_41 ?_
        refine r_callV F e_X10_down_42 (q_X10_remembers (x_l X) V c T Z u h P L _ _  h6865.1 (hok) hP (by first | omega | assumption | decide) (by first | omega | assumption | decide)) cb_X10_remembers ml_X10_286 im_X10_remembers se_X10_remembers h6865 rfl rfl (rest := []) rfl (Nat.le_of_ble_eq_true rfl) ⟨Nat.le_of_ble_eq_true rfl, Nat.le_of_ble_eq_true rfl⟩ ⟨Nat.le_of_ble_eq_true rfl, Nat.le_of_ble_eq_true rfl⟩ (fun r σ6878 hp => ?_)
        obtain ⟨u6881, hu6881, h6879, rfl⟩ := hp
        have h6880 := HS.trans h6865 h6879 (by decide)
        refine m_aload_n F rfl e_X10_down_45 ?_
        refine r_get F e_X10_down_46 fl_X10_59 h6880 rfl (fun v hv f6882 => ?_)
        obtain rfl : v = .ref (c + 16) := hv
        refine m_sipush F (v := 160) (by decide) e_X10_down_49 ?_
        refine m_iload_n F rfl e_X10_down_52 ?_
        refine m_imul F e_X10_down_53 ?_
        refine Wm.topE (w := nI (160 * n6867)) (pk_mul 160 n6867) ?_
        refine m_bipush F (v := 7) (by decide) e_X10_down_54 ?_
        refine m_iadd F e_X10_down_56 ?_
        refine Wm.topE (w := nI (160 * n6867 + 7)) (nI_add (160 * n6867) 7) ?_
        refine m_dup2_11 F rfl rfl e_X10_down_57 ?_
        refine r_sld F (j := 160 * n6867 + 7) e_X10_down_58 h6880 (nI_clamp (by omega)) (vp_in_nI (by omega) (by decide)) (fun x6883 h6884 f6885 => ?_)
        refine m_lload_n F rfl e_X10_down_59 ?_
        refine m_lsub F e_X10_down_60 ?_
        refine Wm.topl (fun x6886 _ => ?_)
        refine r_sst F (g' := (⟨T, Z, u6881, h, P, L⟩ : RG)) (j := 160 * n6867 + 7) e_X10_down_61 h6880 (by decide) (nI_clamp (by omega)) (vp_in_nI (by omega) (by decide)) (fun f q => EJ_same (EJ_lw (l := n6867) (r := 7) (by omega) (by omega) (by omega)) q) (fun _ _ _ q => q) (fun σ6887 h6888 g6889 => ?_)
        refine m_aload_n F rfl e_X10_down_62 ?_
        refine m_iconst F (v := 5) (by decide) e_X10_down_63 ?_
        refine m_iload_n F rfl e_X10_down_64 ?_
        refine m_lconst F (v := 0) (by decide) e_X10_down_65 ?_
        refine m_lconst F (v := 0) (by decide) e_X10_down_66 ?_
        refine m_lload_n F rfl e_X10_down_67 ?_
        refine m_lneg F e_X10_down_68 ?_
        refine Wm.topl (fun x6890 _ => ?_)
        refine m_lconst F (v := 0) (by decide) e_X10_down_69 ?_
        refine m_lconst F (v := 0) (by decide) e_X10_down_70 ?_
        refine m_lload_n F rfl e_X10_down_71 ?_
        refine r_callV F e_X10_down_72 (q_X10_entry (x_l X) V c T Z u6881 h P L _ _ 5 (nI n6867) 0 0 x6890 0 0 x902 h6888.1 (hok.b) hP ) cb_X10_entry ml_X10_253 im_X10_entry se_X10_entry h6888 rfl rfl (rest := []) rfl (Nat.le_of_ble_eq_true rfl) ⟨Nat.le_of_ble_eq_true rfl, Nat.le_of_ble_eq_true rfl⟩ ⟨Nat.le_of_ble_eq_true rfl, Nat.le_of_ble_eq_true rfl⟩ (fun r σ6891 hp => ?_)
        obtain ⟨h6892, rfl⟩ := hp
        have h6893 := HS.trans h6888 h6892 (by decide)
        refine m_aload_n F rfl e_X10_down_75 ?_
        refine r_getC F e_X10_down_76 fl_X10_59 h6893 ((fld_eq (h6892.2 c (by rw [show kC c c = 1 from kC_at (k := 0) (by decide)]; decide))).trans ((fld_eq (g6889 _ (by omega))).trans f6882)) ?_
        refine m_sipush F (v := 160) (by decide) e_X10_down_79 ?_
        refine m_iload_n F rfl e_X10_down_82 ?_
        refine m_imul F e_X10_down_83 ?_
        refine Wm.topE (w := nI (160 * n6867)) (pk_mul 160 n6867) ?_
        refine m_bipush F (v := 7) (by decide) e_X10_down_84 ?_
        refine m_iadd F e_X10_down_86 ?_
        refine Wm.topE (w := nI (160 * n6867 + 7)) (nI_add (160 * n6867) 7) ?_
        refine r_sld F (j := 160 * n6867 + 7) e_X10_down_87 h6893 (nI_clamp (by omega)) (vp_in_nI (by omega) (by decide)) (fun x6894 h6895 f6896 => ?_)
        exact m_lret F hQ e_X10_down_88 (⟨u6881, by omega, L, hok, h6893, _, rfl⟩)
      · obtain ⟨n6897, hn6897, rfl⟩ := nI_nn (x := x6877) (fun e => q34 (Int32.le_trans (Int32.le_of_lt e) (by decide)))
        have c34 : n6897 > 0 := by have hh := mt (nI_leI (a := n6897) (b := 0) (by omega) (by omega)).mpr q34; omega
        refine m_ldc2 F kc_X10_299 e_X10_down_37 ?_
        exact m_lret F hQ e_X10_down_40 (⟨u, by omega, L, hok, h6865, _, rfl⟩)
set_option maxRecDepth 20000 in
theorem q_X10_putOff (l : Launch) (V : VX) (c T Z u h : Nat) (P : NP) (L : Nat → LQ) (N : Nat) (σ : Mem) (x901 : Int32) (x902 : Int32) (x903 : Int32) (h0 : HR V c ⟨T, Z, u, h, P, L⟩ σ) (hok : OKL P.n0 L) (hP : OKP P) (hp0 : u ≤ 20) (hp1 : P.kk = P.n0) : Ct l V yX10_putOff cX10_putOff 5 (some .long) 3 0 0 N σ [.ref c, .int x901, .int x902, .int x903] (fun r τ => ∃ u9, u9 ≤ 20 ∧ ∃ L9, OKL P.n0 L9 ∧ HS V c (⟨T, Z, u9, h, P, L9⟩ : RG) [0, 2, 3, 4, 5, 6, 7, 8, 9, 10, 11, 12, 13, 14, 15, 16, 18, 19, 20, 22] σ τ ∧ ∃ x : Int64, r = some (.long x)) := by
  refine Ct.of (by decide) (Nat.le_of_ble_eq_true rfl) [(0, .ref c), (1, .int x901), (2, .int x902), (3, .int x903)] rfl (fun X hX F hQ => ?_)
  have hPP := hP
  unfold OKP at hPP
  have h1 : HS V c ⟨T, Z, u, h, P, L⟩ [0, 2, 3, 4, 5, 6, 7, 8, 9, 10, 11, 12, 13, 14, 15, 16, 18, 19, 20, 22] σ σ := HS.start h0
  refine m_aload_n F rfl e_X10_putOff_0 ?_
  refine m_iconst F (v := 0) (by decide) e_X10_putOff_1 ?_
  refine r_put F (g' := (⟨T, Z, u, h, P, L⟩ : RG)) e_X10_putOff_2 fp_X10_91 h1 (by decide) ⟨_, rfl⟩ (fun _ _ _ _ q => q) (fun _ _ _ q => q) rfl rfl (by decide) (fun σ6898 h6899 g6900 g6901 f6902 => ?_)
  refine m_aload_n F rfl e_X10_putOff_5 ?_
  refine m_iload_n F rfl e_X10_putOff_6 ?_
  refine r_callV F e_X10_putOff_7 (q_X10_isRunning (x_l X) V c T Z u h P L _ _ x901 h6899.1 (hok.b) hP ) cb_X10_isRunning ml_X10_301 im_X10_isRunning se_X10_isRunning h6899 rfl rfl (rest := []) rfl (Nat.le_of_ble_eq_true rfl) ⟨Nat.le_of_ble_eq_true rfl, Nat.le_of_ble_eq_true rfl⟩ ⟨Nat.le_of_ble_eq_true rfl, Nat.le_of_ble_eq_true rfl⟩ (fun r σ6903 hp => ?_)
  obtain ⟨h6904, c6906⟩ := hp
  have h6905 := HS.trans h6899 h6904 (by decide)
  rcases c6906 with rfl | ⟨n6907, h6908, h6909, e6910, rfl⟩
  · refine m_if_eq F e_X10_putOff_10 (fun _ => ?_) (fun q => absurd (by decide) q)
    refine m_ldc2 F kc_X10_299 e_X10_putOff_54 ?_
    exact m_lret F hQ e_X10_putOff_57 (⟨u, by omega, L, hok, h6905, _, rfl⟩)
  · subst e6910
    refine m_if_eq F e_X10_putOff_10 (fun q => absurd q (by decide)) (fun _ => ?_)
    have hl6911 := hok.2 n6907 (by omega)
    have hl6912 := hok.2 n6907 (by omega)
    have hl6913 := hok.2 n6907 (by omega)
    refine m_iload_n F rfl e_X10_putOff_13 ?_
    refine m_i2l F e_X10_putOff_14 ?_
    refine m_aload_n F rfl e_X10_putOff_15 ?_
    refine r_get F e_X10_putOff_16 fl_X10_59 h6905 rfl (fun v hv f6914 => ?_)
    obtain rfl : v = .ref (c + 16) := hv
    refine m_sipush F (v := 160) (by decide) e_X10_putOff_19 ?_
    refine m_iload_n F rfl e_X10_putOff_22 ?_
    refine m_imul F e_X10_putOff_23 ?_
    refine Wm.topE (w := nI (160 * n6907)) (pk_mul 160 n6907) ?_
    refine m_iconst F (v := 5) (by decide) e_X10_putOff_24 ?_
    refine m_iadd F e_X10_putOff_25 ?_
    refine Wm.topE (w := nI (160 * n6907 + 5)) (nI_add (160 * n6907) 5) ?_
    refine r_sld F (j := 160 * n6907 + 5) e_X10_putOff_26 h6905 (nI_clamp (by omega)) (vp_in_nI (by omega) (by decide)) (fun x6915 h6916 f6917 => ?_)
    have hl6918 := hok.2 n6907 (by omega)
    obtain rfl : x6915 = lN (L n6907).2.2.2 := (EJ_l (l := n6907) (r := 5) (by omega) (by decide)).mp h6916
    refine m_lcmp F e_X10_putOff_27 ?_
    refine m_if_le F e_X10_putOff_28 (fun q28 => ?_) (fun q28 => ?_)
    · refine m_ldc2 F kc_X10_299 e_X10_putOff_54 ?_
      exact m_lret F hQ e_X10_putOff_57 (⟨u, by omega, L, hok, h6905, _, rfl⟩)
    · obtain ⟨n6919, gn6919, hn6919, rfl⟩ := i2l_gt (x := x902) (g := (L n6907).2.2.2) (by omega) (fun e => q28 ((lg_cmp_le _ _).mpr e))
      refine m_iload_n F rfl e_X10_putOff_31 ?_
      refine m_iload_n F rfl e_X10_putOff_32 ?_
      refine m_icmp_le F e_X10_putOff_33 (fun q33 => ?_) (fun q33 => ?_)
      · refine m_ldc2 F kc_X10_299 e_X10_putOff_54 ?_
        exact m_lret F hQ e_X10_putOff_57 (⟨u, by omega, L, hok, h6905, _, rfl⟩)
      · obtain ⟨n6920, hn6920, rfl⟩ := nI_nn (x := x903) (fun e => q33 (Int32.le_trans (Int32.le_of_lt e) (nI_0le (by omega))))
        have c33 : n6920 > n6919 := by have hh := mt (nI_leI (a := n6920) (b := n6919) (by omega) (by omega)).mpr q33; omega
        refine m_iload_n F rfl e_X10_putOff_36 ?_
        refine m_i2l F e_X10_putOff_37 ?_
        refine Wm.toplE (w := lN n6920) (nI_l (by omega)) ?_
        refine m_aload_n F rfl e_X10_putOff_38 ?_
        refine r_getC F e_X10_putOff_39 fl_X10_59 h6905 (f6914) ?_
        refine m_sipush F (v := 160) (by decide) e_X10_putOff_42 ?_
        refine m_iload_n F rfl e_X10_putOff_45 ?_
        refine m_imul F e_X10_putOff_46 ?_
        refine Wm.topE (w := nI (160 * n6907)) (pk_mul 160 n6907) ?_
        refine m_iconst F (v := 1) (by decide) e_X10_putOff_47 ?_
        refine m_iadd F e_X10_putOff_48 ?_
        refine Wm.topE (w := nI (160 * n6907 + 1)) (nI_add (160 * n6907) 1) ?_
        refine r_sld F (j := 160 * n6907 + 1) e_X10_putOff_49 h6905 (nI_clamp (by omega)) (vp_in_nI (by omega) (by decide)) (fun x6921 h6922 f6923 => ?_)
        have hl6924 := hok.2 n6907 (by omega)
        obtain rfl : x6921 = lN (L n6907).2.1 := (EJ_l (l := n6907) (r := 1) (by omega) (by decide)).mp h6922
        refine m_lcmp F e_X10_putOff_50 ?_
        refine m_if_le F e_X10_putOff_51 (fun q51 => ?_) (fun q51 => ?_)
        · have c51 : n6920 ≤ ((L n6907).2.1) := (lN_le (a := n6920) (b := ((L n6907).2.1)) (by omega) (by omega)).mp ((lg_cmp_le _ _).mp q51)
          refine m_aload_n F rfl e_X10_putOff_58 ?_
          refine r_callV F e_X10_putOff_59 (q_X10_remembers (x_l X) V c T Z u h P L _ _  h6905.1 (hok) hP (by first | omega | assumption | decide) (by first | omega | assumption | decide)) cb_X10_remembers ml_X10_286 im_X10_remembers se_X10_remembers h6905 rfl rfl (rest := []) rfl (Nat.le_of_ble_eq_true rfl) ⟨Nat.le_of_ble_eq_true rfl, Nat.le_of_ble_eq_true rfl⟩ ⟨Nat.le_of_ble_eq_true rfl, Nat.le_of_ble_eq_true rfl⟩ (fun r σ6925 hp => ?_)
          obtain ⟨u6928, hu6928, h6926, rfl⟩ := hp
          have h6927 := HS.trans h6905 h6926 (by decide)
          refine m_sipush F (v := 160) (by decide) e_X10_putOff_62 ?_
          refine m_iload_n F rfl e_X10_putOff_65 ?_
          refine m_imul F e_X10_putOff_66 ?_
          refine Wm.topE (w := nI (160 * n6907)) (pk_mul 160 n6907) ?_
          refine m_istore F (lv' := [(4, .int (nI (160 * n6907))), (0, .ref c), (1, .int (nI n6907)), (2, .int (nI n6919)), (3, .int (nI n6920))]) e_X10_putOff_67 (by decide) rfl ?_
          refine m_aload_n F rfl e_X10_putOff_69 ?_
          refine r_get F e_X10_putOff_70 fl_X10_59 h6927 rfl (fun v hv f6929 => ?_)
          obtain rfl : v = .ref (c + 16) := hv
          refine m_iload F rfl e_X10_putOff_73 ?_
          refine m_bipush F (v := 13) (by decide) e_X10_putOff_75 ?_
          refine m_iadd F e_X10_putOff_77 ?_
          refine Wm.topE (w := nI (160 * n6907 + 13)) (nI_add (160 * n6907) 13) ?_
          refine m_iload_n F rfl e_X10_putOff_78 ?_
          refine m_iadd F e_X10_putOff_79 ?_
          refine Wm.topE (w := nI ((160 * n6907 + 13) + n6920)) (nI_add (160 * n6907 + 13) n6920) ?_
          refine m_iconst F (v := 1) (by decide) e_X10_putOff_80 ?_
          refine m_isub F e_X10_putOff_81 ?_
          refine Wm.topE (w := nI (((160 * n6907 + 13) + n6920) - 1)) (pk_sub (a := (160 * n6907 + 13) + n6920) (b := 1) (by omega)) ?_
          refine m_dup2_11 F rfl rfl e_X10_putOff_82 ?_
          refine r_sld F (j := ((160 * n6907 + 13) + n6920) - 1) e_X10_putOff_83 h6927 (nI_clamp (by omega)) (vp_in_nI (by omega) (by decide)) (fun x6930 h6931 f6932 => ?_)
          refine m_aload_n F rfl e_X10_putOff_84 ?_
          refine r_getC F e_X10_putOff_85 fl_X10_59 h6927 (f6929) ?_
          refine m_iload F rfl e_X10_putOff_88 ?_
          refine m_bipush F (v := 13) (by decide) e_X10_putOff_90 ?_
          refine m_iadd F e_X10_putOff_92 ?_
          refine Wm.topE (w := nI (160 * n6907 + 13)) (nI_add (160 * n6907) 13) ?_
          refine m_iload_n F rfl e_X10_putOff_93 ?_
          refine m_iadd F e_X10_putOff_94 ?_
          refine Wm.topE (w := nI ((160 * n6907 + 13) + n6919)) (nI_add (160 * n6907 + 13) n6919) ?_
          refine m_iconst F (v := 1) (by decide) e_X10_putOff_95 ?_
          refine m_isub F e_X10_putOff_96 ?_
          refine Wm.topE (w := nI (((160 * n6907 + 13) + n6919) - 1)) (pk_sub (a := (160 * n6907 + 13) + n6919) (b := 1) (by omega)) ?_
          refine r_sld F (j := ((160 * n6907 + 13) + n6919) - 1) e_X10_putOff_97 h6927 (nI_clamp (by omega)) (vp_in_nI (by omega) (by decide)) (fun x6933 h6934 f6935 => ?_)
          refine m_ladd F e_X10_putOff_98 ?_
          refine Wm.topl (fun x6936 _ => ?_)
          refine r_sst F (g' := (⟨T, Z, u6928, h, P, L⟩ : RG)) (j := ((160 * n6907 + 13) + n6920) - 1) e_X10_putOff_99 h6927 (by decide) (nI_clamp (by omega)) (vp_in_nI (by omega) (by decide)) (fun f q => EJ_same (EJ_lw (l := n6907) (r := (((160 * n6907 + 13) + n6920) - 1) - 160 * n6907) (by omega) (by omega) (by omega)) q) (fun _ _ _ q => q) (fun σ6937 h6938 g6939 => ?_)
          refine m_aload_n F rfl e_X10_putOff_100 ?_
          refine r_getC F e_X10_putOff_101 fl_X10_59 h6938 ((fld_eq (g6939 _ (by omega))).trans f6929) ?_
          refine m_iload F rfl e_X10_putOff_104 ?_
          refine m_bipush F (v := 85) (by decide) e_X10_putOff_106 ?_
          refine m_iadd F e_X10_putOff_108 ?_
          refine Wm.topE (w := nI (160 * n6907 + 85)) (nI_add (160 * n6907) 85) ?_
          refine m_iload_n F rfl e_X10_putOff_109 ?_
          refine m_iadd F e_X10_putOff_110 ?_
          refine Wm.topE (w := nI ((160 * n6907 + 85) + n6920)) (nI_add (160 * n6907 + 85) n6920) ?_
          refine m_iconst F (v := 1) (by decide) e_X10_putOff_111 ?_
          refine m_isub F e_X10_putOff_112 ?_
          refine Wm.topE (w := nI (((160 * n6907 + 85) + n6920) - 1)) (pk_sub (a := (160 * n6907 + 85) + n6920) (b := 1) (by omega)) ?_
          refine m_dup2_11 F rfl rfl e_X10_putOff_113 ?_
          refine r_sld F (j := ((160 * n6907 + 85) + n6920) - 1) e_X10_putOff_114 h6938 (nI_clamp (by omega)) (vp_in_nI (by omega) (by decide)) (fun x6940 h6941 f6942 => ?_)
          refine m_aload_n F rfl e_X10_putOff_115 ?_
          refine r_getC F e_X10_putOff_116 fl_X10_59 h6938 ((fld_eq (g6939 _ (by omega))).trans f6929) ?_
          refine m_iload F rfl e_X10_putOff_119 ?_
          refine m_bipush F (v := 85) (by decide) e_X10_putOff_121 ?_
          refine m_iadd F e_X10_putOff_123 ?_
          refine Wm.topE (w := nI (160 * n6907 + 85)) (nI_add (160 * n6907) 85) ?_
          refine m_iload_n F rfl e_X10_putOff_124 ?_
          refine m_iadd F e_X10_putOff_125 ?_
          refine Wm.topE (w := nI ((160 * n6907 + 85) + n6919)) (nI_add (160 * n6907 + 85) n6919) ?_
          refine m_iconst F (v := 1) (by decide) e_X10_putOff_126 ?_
          refine m_isub F e_X10_putOff_127 ?_
          refine Wm.topE (w := nI (((160 * n6907 + 85) + n6919) - 1)) (pk_sub (a := (160 * n6907 + 85) + n6919) (b := 1) (by omega)) ?_
          refine r_sld F (j := ((160 * n6907 + 85) + n6919) - 1) e_X10_putOff_128 h6938 (nI_clamp (by omega)) (vp_in_nI (by omega) (by decide)) (fun x6943 h6944 f6945 => ?_)
          refine m_ladd F e_X10_putOff_129 ?_
          refine Wm.topl (fun x6946 _ => ?_)
          refine r_sst F (g' := (⟨T, Z, u6928, h, P, L⟩ : RG)) (j := ((160 * n6907 + 85) + n6920) - 1) e_X10_putOff_130 h6938 (by decide) (nI_clamp (by omega)) (vp_in_nI (by omega) (by decide)) (fun f q => EJ_same (EJ_lw (l := n6907) (r := (((160 * n6907 + 85) + n6920) - 1) - 160 * n6907) (by omega) (by omega) (by omega)) q) (fun _ _ _ q => q) (fun σ6947 h6948 g6949 => ?_)
          refine m_aload_n F rfl e_X10_putOff_131 ?_
          refine r_getC F e_X10_putOff_132 fl_X10_59 h6948 ((fld_eq (g6949 _ (by omega))).trans ((fld_eq (g6939 _ (by omega))).trans f6929)) ?_
          refine m_iload F rfl e_X10_putOff_135 ?_
          refine m_bipush F (v := 13) (by decide) e_X10_putOff_137 ?_
          refine m_iadd F e_X10_putOff_139 ?_
          refine Wm.topE (w := nI (160 * n6907 + 13)) (nI_add (160 * n6907) 13) ?_
          refine m_iload_n F rfl e_X10_putOff_140 ?_
          refine m_iadd F e_X10_putOff_141 ?_
          refine Wm.topE (w := nI ((160 * n6907 + 13) + n6919)) (nI_add (160 * n6907 + 13) n6919) ?_
          refine m_iconst F (v := 1) (by decide) e_X10_putOff_142 ?_
          refine m_isub F e_X10_putOff_143 ?_
          refine Wm.topE (w := nI (((160 * n6907 + 13) + n6919) - 1)) (pk_sub (a := (160 * n6907 + 13) + n6919) (b := 1) (by omega)) ?_
          refine m_lconst F (v := 0) (by decide) e_X10_putOff_144 ?_
          refine r_sst F (g' := (⟨T, Z, u6928, h, P, L⟩ : RG)) (j := ((160 * n6907 + 13) + n6919) - 1) e_X10_putOff_145 h6948 (by decide) (nI_clamp (by omega)) (vp_in_nI (by omega) (by decide)) (fun f q => EJ_same (EJ_lw (l := n6907) (r := (((160 * n6907 + 13) + n6919) - 1) - 160 * n6907) (by omega) (by omega) (by omega)) q) (fun _ _ _ q => q) (fun σ6950 h6951 g6952 => ?_)
          refine m_aload_n F rfl e_X10_putOff_146 ?_
          refine r_getC F e_X10_putOff_147 fl_X10_59 h6951 ((fld_eq (g6952 _ (by omega))).trans ((fld_eq (g6949 _ (by omega))).trans ((fld_eq (g6939 _ (by omega))).trans f6929))) ?_
          refine m_iload F rfl e_X10_putOff_150 ?_
          refine m_bipush F (v := 85) (by decide) e_X10_putOff_152 ?_
          refine m_iadd F e_X10_putOff_154 ?_
          refine Wm.topE (w := nI (160 * n6907 + 85)) (nI_add (160 * n6907) 85) ?_
          refine m_iload_n F rfl e_X10_putOff_155 ?_
          refine m_iadd F e_X10_putOff_156 ?_
          refine Wm.topE (w := nI ((160 * n6907 + 85) + n6919)) (nI_add (160 * n6907 + 85) n6919) ?_
          refine m_iconst F (v := 1) (by decide) e_X10_putOff_157 ?_
          refine m_isub F e_X10_putOff_158 ?_
          refine Wm.topE (w := nI (((160 * n6907 + 85) + n6919) - 1)) (pk_sub (a := (160 * n6907 + 85) + n6919) (b := 1) (by omega)) ?_
          refine m_lconst F (v := 0) (by decide) e_X10_putOff_159 ?_
          refine r_sst F (g' := (⟨T, Z, u6928, h, P, L⟩ : RG)) (j := ((160 * n6907 + 85) + n6919) - 1) e_X10_putOff_160 h6951 (by decide) (nI_clamp (by omega)) (vp_in_nI (by omega) (by decide)) (fun f q => EJ_same (EJ_lw (l := n6907) (r := (((160 * n6907 + 85) + n6919) - 1) - 160 * n6907) (by omega) (by omega) (by omega)) q) (fun _ _ _ q => q) (fun σ6953 h6954 g6955 => ?_)
          refine m_aload_n F rfl e_X10_putOff_161 ?_
          refine m_iload_n F rfl e_X10_putOff_162 ?_
          refine r_callV F e_X10_putOff_163 (q_X10_remeasures (x_l X) V c T Z u6928 h P L _ _ n6907 h6954.1 (hok.b) hP (by omega)) cb_X10_remeasures ml_X10_277 im_X10_remeasures se_X10_remeasures h6954 rfl rfl (rest := []) rfl (Nat.le_of_ble_eq_true rfl) ⟨Nat.le_of_ble_eq_true rfl, Nat.le_of_ble_eq_true rfl⟩ ⟨Nat.le_of_ble_eq_true rfl, Nat.le_of_ble_eq_true rfl⟩ (fun r σ6956 hp => ?_)
          obtain ⟨h6957, x6959, rfl⟩ := hp
          have h6958 := HS.trans h6954 h6957 (by decide)
          exact m_lret F hQ e_X10_putOff_166 (⟨u6928, by omega, L, hok, h6958, _, rfl⟩)
        · have c51 : n6920 > ((L n6907).2.1) := by have hh := mt (fun h9 => (lg_cmp_le (lN n6920) (lN ((L n6907).2.1))).mpr ((lN_le (a := n6920) (b := ((L n6907).2.1)) (by omega) (by omega)).mpr h9)) q51; omega
          refine m_ldc2 F kc_X10_299 e_X10_putOff_54 ?_
          exact m_lret F hQ e_X10_putOff_57 (⟨u, by omega, L, hok, h6905, _, rfl⟩)
set_option maxRecDepth 20000 in
theorem lq_X10_becomes_58 {V : VX} {X : MX} {N : Nat} {σ : Mem} {c T Z u h : Nat} {P : NP} {L : Nat → LQ}  {n901 : Nat} (F : Fx V X yX10_becomes cX10_becomes 6 none (rmd 0 0 0)) (hQ : Rt V X 0 0 N (fun r τ => HS V c (⟨T, Z, u, h, P, L⟩ : RG) [0, 1, 2, 3, 4, 5, 6, 7, 8, 9, 10, 11, 12, 13, 14, 15, 16, 18, 19, 20, 21, 22, 23] σ τ ∧ r = none)) (hob : OKB L) (hP : OKP P) (hn901 : n901 ≤ 2000) (hp0 : 1 ≤ n901)  : ∀ (fuel : Nat) (t : Nat) (k : Nat) (τ : Mem), HS V c (⟨T, Z, u, h, P, L⟩ : RG) [0, 1, 2, 3, 4, 5, 6, 7, 8, 9, 10, 11, 12, 13, 14, 15, 16, 18, 19, 20, 21, 22, 23] σ τ → t ≤ 100 ∧ k ≤ 100 → 100 - k < fuel → Wm V X 6 N τ 0 0 58 [(0, .ref c), (1, .long (lN n901)), (4, .int (nI t)), (5, .int (nI k))] [] := by
  intro fuel
  induction fuel with
  | zero => intros; rename_i hm; exact absurd hm (Nat.not_lt_zero _)
  | succ fuel ih =>
    intro t k τ h1 hi hm
    have hPP := hP
    unfold OKP at hPP
    refine m_iload F rfl e_X10_becomes_58 ?_
    refine m_iload F rfl e_X10_becomes_60 ?_
    refine m_icmp_ge F e_X10_becomes_62 (fun q62 => ?_) (fun q62 => ?_)
    · have c62 : k ≥ t := (nI_leI (a := t) (b := k) (by omega) (by omega)).mp q62
      exact m_vret F hQ e_X10_becomes_83 (⟨h1, rfl⟩)
    · have c62 : k < t := by have hh := mt (nI_leI (a := t) (b := k) (by omega) (by omega)).mpr q62; omega
      refine m_aload_n F rfl e_X10_becomes_65 ?_
      refine r_get F e_X10_becomes_66 fl_X10_59 h1 rfl (fun v hv f6960 => ?_)
      obtain rfl : v = .ref (c + 16) := hv
      refine m_sipush F (v := 644) (by decide) e_X10_becomes_69 ?_
      refine m_iload F rfl e_X10_becomes_72 ?_
      refine m_iadd F e_X10_becomes_74 ?_
      refine Wm.topE (w := nI (644 + k)) (nI_add 644 k) ?_
      refine m_lload_n F rfl e_X10_becomes_75 ?_
      refine r_sst F (g' := (⟨T, Z, u, h, P, L⟩ : RG)) (j := 644 + k) e_X10_becomes_76 h1 (by decide) (nI_clamp (by omega)) (vp_in_nI (by omega) (by decide)) (fun f q => EJ_same ((EJ_i (p := k) (by omega)).mpr ⟨n901, by omega, by omega, rfl⟩) q) (fun _ _ _ q => q) (fun σ6961 h6962 g6963 => ?_)
      refine m_iinc F (v := nI (k + 1)) (lv' := [(5, .int (nI (k + 1))), (0, .ref c), (1, .long (lN n901)), (4, .int (nI t))]) e_X10_becomes_77 rfl (nI_add k 1) (by decide) rfl ?_
      refine m_goto F e_X10_becomes_80 ?_
      refine Wm.lvsub (lv' := [(0, .ref c), (1, .long (lN n901)), (4, .int (nI t)), (5, .int (nI (k + 1)))]) ?_ [1, 2, 3, 0] rfl
      exact ih t (k + 1) _ h6962 (by omega) (by omega)
set_option maxRecDepth 20000 in
theorem lq_X10_becomes_24 {V : VX} {X : MX} {N : Nat} {σ : Mem} {c T Z u h : Nat} {P : NP} {L : Nat → LQ}  {n901 : Nat} (F : Fx V X yX10_becomes cX10_becomes 6 none (rmd 0 0 0)) (hQ : Rt V X 0 0 N (fun r τ => HS V c (⟨T, Z, u, h, P, L⟩ : RG) [0, 1, 2, 3, 4, 5, 6, 7, 8, 9, 10, 11, 12, 13, 14, 15, 16, 18, 19, 20, 21, 22, 23] σ τ ∧ r = none)) (hob : OKB L) (hP : OKP P) (hn901 : n901 ≤ 2000) (hp0 : 1 ≤ n901)  : ∀ (fuel : Nat) (t : Nat) (k : Nat) (τ : Mem), HS V c (⟨T, Z, u, h, P, L⟩ : RG) [0, 1, 2, 3, 4, 5, 6, 7, 8, 9, 10, 11, 12, 13, 14, 15, 16, 18, 19, 20, 21, 22, 23] σ τ → t ≤ 100 ∧ k ≤ 7 → k < fuel → Wm V X 6 N τ 0 0 24 [(0, .ref c), (1, .long (lN n901)), (3, .int (nI ((L 4).1))), (4, .int (nI t)), (5, .int (nI k))] [] := by
  intro fuel
  induction fuel with
  | zero => intros; rename_i hm; exact absurd hm (Nat.not_lt_zero _)
  | succ fuel ih =>
    intro t k τ h1 hi hm
    have hPP := hP
    unfold OKP at hPP
    refine m_iload F rfl e_X10_becomes_24 ?_
    refine m_if_lt F e_X10_becomes_26 (fun q26 => ?_) (fun q26 => ?_)
    · have c26 : k < 0 := (nI_ltI (a := k) (b := 0) (by omega) (by omega)).mp q26
      have hl6964 := (hob).1
      have hl6965 := (hob).1
      have hl6966 := (hob).1
      refine m_iload_n F rfl e_X10_becomes_55 ?_
      refine m_istore F (lv' := [(5, .int (nI ((L 4).1))), (0, .ref c), (1, .long (lN n901)), (3, .int (nI ((L 4).1))), (4, .int (nI t))]) e_X10_becomes_56 (by decide) rfl ?_
      refine Wm.lvsub (lv' := [(0, .ref c), (1, .long (lN n901)), (4, .int (nI t)), (5, .int (nI ((L 4).1)))]) ?_ [1, 2, 4, 0] rfl
      exact lq_X10_becomes_58 F hQ hob hP hn901 hp0 (100 - ((L 4).1) + 1) t ((L 4).1) _ h1 (by omega) (Nat.lt_succ_self _)
    · have c26 : k ≥ 0 := by have hh := mt (nI_ltI (a := k) (b := 0) (by omega) (by omega)).mpr q26; omega
      have hl6967 := (hob).1
      have hl6968 := (hob).1
      have hl6969 := (hob).1
      refine m_aload_n F rfl e_X10_becomes_29 ?_
      refine r_get F e_X10_becomes_30 fl_X10_40 h1 rfl (fun v hv f6970 => ?_)
      obtain rfl : v = .ref (c + 11) := hv
      refine m_iload F rfl e_X10_becomes_33 ?_
      refine r_iald F (len := 16) (j := k) e_X10_becomes_35 h1 (fun _ h => h) (by decide) (nI_clamp (by omega)) (vp_in_nI (by omega) (by decide)) (fun x6971 h6972 f6973 => ?_)
      obtain ⟨n6974, hn6974, rfl⟩ := h6972
      refine m_iload_n F rfl e_X10_becomes_36 ?_
      refine m_icmp_le F e_X10_becomes_37 (fun q37 => ?_) (fun q37 => ?_)
      · have c37 : n6974 ≤ ((L 4).1) := (nI_leI (a := n6974) (b := ((L 4).1)) (by omega) (by omega)).mp q37
        rcases Nat.eq_zero_or_pos (k) with e49 | e49
        · subst e49
          refine m_iinc F (v := -1) (lv' := [(5, .int (-1)), (0, .ref c), (1, .long (lN n901)), (3, .int (nI ((L 4).1))), (4, .int (nI t))]) e_X10_becomes_49 rfl (by decide) (by decide) rfl ?_
          refine m_goto F e_X10_becomes_52 ?_
          refine Wm.lvsub (lv' := [(0, .ref c), (1, .long (lN n901)), (3, .int (nI ((L 4).1))), (4, .int (nI t)), (5, .int (-1))]) ?_ [1, 2, 3, 4, 0] rfl
          refine m_iload F rfl e_X10_becomes_24 ?_
          refine m_if_lt F e_X10_becomes_26 (fun _ => ?_) (fun q => absurd (by decide) q)
          have hl6975 := (hob).1
          have hl6976 := (hob).1
          have hl6977 := (hob).1
          refine m_iload_n F rfl e_X10_becomes_55 ?_
          refine m_istore F (lv' := [(5, .int (nI ((L 4).1))), (0, .ref c), (1, .long (lN n901)), (3, .int (nI ((L 4).1))), (4, .int (nI t))]) e_X10_becomes_56 (by decide) rfl ?_
          refine Wm.lvsub (lv' := [(0, .ref c), (1, .long (lN n901)), (4, .int (nI t)), (5, .int (nI ((L 4).1)))]) ?_ [1, 2, 4, 0] rfl
          exact lq_X10_becomes_58 F hQ hob hP hn901 hp0 (100 - ((L 4).1) + 1) t ((L 4).1) _ h1 (by omega) (Nat.lt_succ_self _)
        · refine m_iinc F (v := nI (k - 1)) (lv' := [(5, .int (nI (k - 1))), (0, .ref c), (1, .long (lN n901)), (3, .int (nI ((L 4).1))), (4, .int (nI t))]) e_X10_becomes_49 rfl (nI_dec (by omega)) (by decide) rfl ?_
          refine m_goto F e_X10_becomes_52 ?_
          refine Wm.lvsub (lv' := [(0, .ref c), (1, .long (lN n901)), (3, .int (nI ((L 4).1))), (4, .int (nI t)), (5, .int (nI (k - 1)))]) ?_ [1, 2, 3, 4, 0] rfl
          exact ih t (k - 1) _ h1 (by omega) (by omega)
      · have c37 : n6974 > ((L 4).1) := by have hh := mt (nI_leI (a := n6974) (b := ((L 4).1)) (by omega) (by omega)).mpr q37; omega
        refine m_aload_n F rfl e_X10_becomes_40 ?_
        refine r_getC F e_X10_becomes_41 fl_X10_40 h1 (f6970) ?_
        refine m_iload F rfl e_X10_becomes_44 ?_
        refine r_iald F (len := 16) (j := k) e_X10_becomes_46 h1 (fun _ h => h) (by decide) (nI_clamp (by omega)) (vp_in_nI (by omega) (by decide)) (fun x6978 h6979 f6980 => ?_)
        obtain rfl := Option.some.inj ((f6980).symm.trans (f6973))
        refine m_istore F (lv' := [(4, .int (nI n6974)), (0, .ref c), (1, .long (lN n901)), (3, .int (nI ((L 4).1))), (5, .int (nI k))]) e_X10_becomes_47 (by decide) rfl ?_
        rcases Nat.eq_zero_or_pos (k) with e49 | e49
        · subst e49
          refine m_iinc F (v := -1) (lv' := [(5, .int (-1)), (4, .int (nI n6974)), (0, .ref c), (1, .long (lN n901)), (3, .int (nI ((L 4).1)))]) e_X10_becomes_49 rfl (by decide) (by decide) rfl ?_
          refine m_goto F e_X10_becomes_52 ?_
          refine Wm.lvsub (lv' := [(0, .ref c), (1, .long (lN n901)), (3, .int (nI ((L 4).1))), (4, .int (nI n6974)), (5, .int (-1))]) ?_ [2, 3, 4, 1, 0] rfl
          refine m_iload F rfl e_X10_becomes_24 ?_
          refine m_if_lt F e_X10_becomes_26 (fun _ => ?_) (fun q => absurd (by decide) q)
          have hl6981 := (hob).1
          have hl6982 := (hob).1
          have hl6983 := (hob).1
          refine m_iload_n F rfl e_X10_becomes_55 ?_
          refine m_istore F (lv' := [(5, .int (nI ((L 4).1))), (0, .ref c), (1, .long (lN n901)), (3, .int (nI ((L 4).1))), (4, .int (nI n6974))]) e_X10_becomes_56 (by decide) rfl ?_
          refine Wm.lvsub (lv' := [(0, .ref c), (1, .long (lN n901)), (4, .int (nI n6974)), (5, .int (nI ((L 4).1)))]) ?_ [1, 2, 4, 0] rfl
          exact lq_X10_becomes_58 F hQ hob hP hn901 hp0 (100 - ((L 4).1) + 1) n6974 ((L 4).1) _ h1 (by omega) (Nat.lt_succ_self _)
        · refine m_iinc F (v := nI (k - 1)) (lv' := [(5, .int (nI (k - 1))), (4, .int (nI n6974)), (0, .ref c), (1, .long (lN n901)), (3, .int (nI ((L 4).1)))]) e_X10_becomes_49 rfl (nI_dec (by omega)) (by decide) rfl ?_
          refine m_goto F e_X10_becomes_52 ?_
          refine Wm.lvsub (lv' := [(0, .ref c), (1, .long (lN n901)), (3, .int (nI ((L 4).1))), (4, .int (nI n6974)), (5, .int (nI (k - 1)))]) ?_ [2, 3, 4, 1, 0] rfl
          exact ih n6974 (k - 1) _ h1 (by omega) (by omega)
set_option maxRecDepth 20000 in
theorem q_X10_becomes (l : Launch) (V : VX) (c T Z u h : Nat) (P : NP) (L : Nat → LQ) (N : Nat) (σ : Mem) (n901 : Nat) (h0 : HR V c ⟨T, Z, u, h, P, L⟩ σ) (hob : OKB L) (hP : OKP P) (hn901 : n901 ≤ 2000) (hp0 : 1 ≤ n901) : Ct l V yX10_becomes cX10_becomes 6 none 0 0 0 N σ [.ref c, .long (lN n901)] (fun r τ => HS V c (⟨T, Z, u, h, P, L⟩ : RG) [0, 1, 2, 3, 4, 5, 6, 7, 8, 9, 10, 11, 12, 13, 14, 15, 16, 18, 19, 20, 21, 22, 23] σ τ ∧ r = none) := by
  refine Ct.of (by decide) (Nat.le_of_ble_eq_true rfl) [(0, .ref c), (1, .long (lN n901))] rfl (fun X hX F hQ => ?_)
  have hPP := hP
  unfold OKP at hPP
  have h1 : HS V c ⟨T, Z, u, h, P, L⟩ [0, 1, 2, 3, 4, 5, 6, 7, 8, 9, 10, 11, 12, 13, 14, 15, 16, 18, 19, 20, 21, 22, 23] σ σ := HS.start h0
  refine m_aload_n F rfl e_X10_becomes_0 ?_
  refine r_get F e_X10_becomes_1 fl_X10_59 h1 rfl (fun v hv f6984 => ?_)
  obtain rfl : v = .ref (c + 16) := hv
  refine m_sipush F (v := 744) (by decide) e_X10_becomes_4 ?_
  refine r_sld F (j := 744) e_X10_becomes_7 h1 (by decide) (by unfold vp_in; decide) (fun x6985 h6986 f6987 => ?_)
  have hl6988 := hob.1
  obtain rfl : x6985 = lN (L 4).1 := EJ_p.mp h6986
  refine m_l2i F e_X10_becomes_8 ?_
  refine Wm.topE (w := nI ((L 4).1)) (lN_i ((L 4).1)) ?_
  refine m_istore_n F (lv' := [(3, .int (nI ((L 4).1))), (0, .ref c), (1, .long (lN n901))]) e_X10_becomes_9 (by decide) rfl ?_
  refine m_bipush F (v := 100) (by decide) e_X10_becomes_10 ?_
  refine m_istore F (lv' := [(4, .int 100), (3, .int (nI ((L 4).1))), (0, .ref c), (1, .long (lN n901))]) e_X10_becomes_12 (by decide) rfl ?_
  refine m_aload_n F rfl e_X10_becomes_14 ?_
  refine r_get F e_X10_becomes_15 fl_X10_13 h1 rfl (fun v hv f6989 => ?_)
  obtain rfl : v = .ref (c + 2) := hv
  refine m_iconst F (v := 2) (by decide) e_X10_becomes_18 ?_
  refine r_iald F (len := 10) (j := 2) e_X10_becomes_19 h1 (fun _ h => h) (by decide) (by decide) (by unfold vp_in; decide) (fun x6990 h6991 f6992 => ?_)
  obtain rfl : x6990 = nI P.n2 := h6991.2.1 rfl
  refine m_iconst F (v := 1) (by decide) e_X10_becomes_20 ?_
  refine m_isub F e_X10_becomes_21 ?_
  rcases Nat.eq_zero_or_pos (P.n2) with e21 | e21
  · rw [e21]
    refine Wm.topE (w := -1) (by decide) ?_
    refine m_istore F (lv' := [(5, .int (-1)), (4, .int 100), (3, .int (nI ((L 4).1))), (0, .ref c), (1, .long (lN n901))]) e_X10_becomes_22 (by decide) rfl ?_
    refine Wm.lvsub (lv' := [(0, .ref c), (1, .long (lN n901)), (3, .int (nI ((L 4).1))), (4, .int 100), (5, .int (-1))]) ?_ [3, 4, 2, 1, 0] rfl
    refine m_iload F rfl e_X10_becomes_24 ?_
    refine m_if_lt F e_X10_becomes_26 (fun _ => ?_) (fun q => absurd (by decide) q)
    have hl6993 := (hob).1
    have hl6994 := (hob).1
    have hl6995 := (hob).1
    refine m_iload_n F rfl e_X10_becomes_55 ?_
    refine m_istore F (lv' := [(5, .int (nI ((L 4).1))), (0, .ref c), (1, .long (lN n901)), (3, .int (nI ((L 4).1))), (4, .int 100)]) e_X10_becomes_56 (by decide) rfl ?_
    refine Wm.lvsub (lv' := [(0, .ref c), (1, .long (lN n901)), (4, .int 100), (5, .int (nI ((L 4).1)))]) ?_ [1, 2, 4, 0] rfl
    exact lq_X10_becomes_58 F hQ hob hP hn901 hp0 (100 - ((L 4).1) + 1) 100 ((L 4).1) _ h1 (by omega) (Nat.lt_succ_self _)
  · refine Wm.topE (w := nI (P.n2 - 1)) (pk_sub (a := P.n2) (b := 1) (by omega)) ?_
    refine m_istore F (lv' := [(5, .int (nI (P.n2 - 1))), (4, .int 100), (3, .int (nI ((L 4).1))), (0, .ref c), (1, .long (lN n901))]) e_X10_becomes_22 (by decide) rfl ?_
    refine Wm.lvsub (lv' := [(0, .ref c), (1, .long (lN n901)), (3, .int (nI ((L 4).1))), (4, .int 100), (5, .int (nI (P.n2 - 1)))]) ?_ [3, 4, 2, 1, 0] rfl
    exact lq_X10_becomes_24 F hQ hob hP hn901 hp0 ((P.n2 - 1) + 1) 100 (P.n2 - 1) _ h1 (by omega) (Nat.lt_succ_self _)
set_option maxRecDepth 20000 in
theorem q_X10_become (l : Launch) (V : VX) (c T Z u h : Nat) (P : NP) (L : Nat → LQ) (N : Nat) (σ : Mem) (x901 : Int32) (h0 : HR V c ⟨T, Z, u, h, P, L⟩ σ) (hok : OKL P.n0 L) (hP : OKP P) (hp0 : u ≤ 20) (hp1 : P.kk = P.n0) : Ct l V yX10_become cX10_become 3 (some .int) 2 0 0 N σ [.ref c, .int x901] (fun r τ => ∃ u9, u9 ≤ 20 ∧ ∃ L9, OKL P.n0 L9 ∧ HS V c (⟨T, Z, u9, h, P, L9⟩ : RG) [0, 2, 3, 4, 5, 6, 7, 8, 9, 10, 11, 12, 13, 14, 15, 16, 18, 19, 20, 22, 23] σ τ ∧ ∃ x : Int32, r = some (.int x)) := by
  refine Ct.of (by decide) (Nat.le_of_ble_eq_true rfl) [(0, .ref c), (1, .int x901)] rfl (fun X hX F hQ => ?_)
  have hPP := hP
  unfold OKP at hPP
  have h1 : HS V c ⟨T, Z, u, h, P, L⟩ [0, 2, 3, 4, 5, 6, 7, 8, 9, 10, 11, 12, 13, 14, 15, 16, 18, 19, 20, 22, 23] σ σ := HS.start h0
  refine m_aload_n F rfl e_X10_become_0 ?_
  refine m_iconst F (v := 0) (by decide) e_X10_become_1 ?_
  refine r_put F (g' := (⟨T, Z, u, h, P, L⟩ : RG)) e_X10_become_2 fp_X10_91 h1 (by decide) ⟨_, rfl⟩ (fun _ _ _ _ q => q) (fun _ _ _ q => q) rfl rfl (by decide) (fun σ6996 h6997 g6998 g6999 f7000 => ?_)
  refine m_iload_n F rfl e_X10_become_5 ?_
  refine m_sipush F (v := 500) (by decide) e_X10_become_6 ?_
  refine m_icmp_lt F e_X10_become_9 (fun q9 => ?_) (fun q9 => ?_)
  · refine m_iconst F (v := (-1)) (by decide) e_X10_become_19 ?_
    exact m_iret F hQ e_X10_become_20 (⟨u, by omega, L, hok, h6997, _, rfl⟩)
  · obtain ⟨n7001, hn7001, rfl⟩ := nI_nn (x := x901) (fun e => q9 (Int32.lt_of_lt_of_le e (by decide)))
    have c9 : n7001 ≥ 500 := by have hh := mt (nI_ltI (a := n7001) (b := 500) (by omega) (by omega)).mpr q9; omega
    refine m_iload_n F rfl e_X10_become_12 ?_
    refine m_sipush F (v := 2000) (by decide) e_X10_become_13 ?_
    refine m_icmp_le F e_X10_become_16 (fun q16 => ?_) (fun q16 => ?_)
    · have c16 : n7001 ≤ 2000 := (nI_leI (a := n7001) (b := 2000) (by omega) (by omega)).mp q16
      refine m_aload_n F rfl e_X10_become_21 ?_
      refine r_callV F e_X10_become_22 (q_X10_indexNow (x_l X) V c T Z u h P L _ _  h6997.1 (hok.b) hP ) cb_X10_indexNow ml_X10_260 im_X10_indexNow se_X10_indexNow h6997 rfl rfl (rest := []) rfl (Nat.le_of_ble_eq_true rfl) ⟨Nat.le_of_ble_eq_true rfl, Nat.le_of_ble_eq_true rfl⟩ ⟨Nat.le_of_ble_eq_true rfl, Nat.le_of_ble_eq_true rfl⟩ (fun r σ7002 hp => ?_)
      obtain ⟨h7003, n7005, hn7005, gn7005, rfl⟩ := hp
      have h7004 := HS.trans h6997 h7003 (by decide)
      refine m_l2i F e_X10_become_25 ?_
      refine Wm.topE (w := nI n7005) (lN_i n7005) ?_
      refine m_istore_n F (lv' := [(2, .int (nI n7005)), (0, .ref c), (1, .int (nI n7001))]) e_X10_become_26 (by decide) rfl ?_
      refine m_aload_n F rfl e_X10_become_27 ?_
      refine r_callV F e_X10_become_28 (q_X10_remembers (x_l X) V c T Z u h P L _ _  h7004.1 (hok) hP (by first | omega | assumption | decide) (by first | omega | assumption | decide)) cb_X10_remembers ml_X10_286 im_X10_remembers se_X10_remembers h7004 rfl rfl (rest := []) rfl (Nat.le_of_ble_eq_true rfl) ⟨Nat.le_of_ble_eq_true rfl, Nat.le_of_ble_eq_true rfl⟩ ⟨Nat.le_of_ble_eq_true rfl, Nat.le_of_ble_eq_true rfl⟩ (fun r σ7006 hp => ?_)
      obtain ⟨u7009, hu7009, h7007, rfl⟩ := hp
      have h7008 := HS.trans h7004 h7007 (by decide)
      refine m_aload_n F rfl e_X10_become_31 ?_
      refine m_iload_n F rfl e_X10_become_32 ?_
      refine m_i2l F e_X10_become_33 ?_
      refine Wm.toplE (w := lN n7001) (nI_l (by omega)) ?_
      refine r_callV F e_X10_become_34 (q_X10_becomes (x_l X) V c T Z u7009 h P L _ _ n7001 h7008.1 (hok.b) hP (by omega) (by first | omega | assumption | decide)) cb_X10_becomes ml_X10_322 im_X10_becomes se_X10_becomes h7008 rfl rfl (rest := []) rfl (Nat.le_of_ble_eq_true rfl) ⟨Nat.le_of_ble_eq_true rfl, Nat.le_of_ble_eq_true rfl⟩ ⟨Nat.le_of_ble_eq_true rfl, Nat.le_of_ble_eq_true rfl⟩ (fun r σ7010 hp => ?_)
      obtain ⟨h7011, rfl⟩ := hp
      have h7012 := HS.trans h7008 h7011 (by decide)
      refine m_iload_n F rfl e_X10_become_37 ?_
      exact m_iret F hQ e_X10_become_38 (⟨u7009, by omega, L, hok, h7012, _, rfl⟩)
    · have c16 : n7001 > 2000 := by have hh := mt (nI_leI (a := n7001) (b := 2000) (by omega) (by omega)).mpr q16; omega
      refine m_iconst F (v := (-1)) (by decide) e_X10_become_19 ?_
      exact m_iret F hQ e_X10_become_20 (⟨u, by omega, L, hok, h6997, _, rfl⟩)
set_option maxRecDepth 20000 in
theorem lq_X10_divisor_6 {V : VX} {X : MX} {N : Nat} {σ : Mem}  {x901 : Int64} {x902 : Int64} (F : Fx V X yX10_divisor cX10_divisor 10 (some .long) (rmd 0 0 0)) (hQ : Rt V X 0 0 N (fun r τ => τ = σ ∧ ∃ x : Int64, x ≠ 0 ∧ r = some (.long x)))  (hp0 : x902 ≠ 0)  : ∀ (fuel : Nat) (w1 : Int64) (w2 : Int64) , (w1 ≠ 0 ∨ w2 ≠ 0) → w2.toInt.natAbs < fuel → Wm V X 10 N σ 0 0 6 [(4, .long w1), (6, .long w2), (0, .long x901), (2, .long x902)] [] := by
  intro fuel
  induction fuel with
  | zero => intros; rename_i hm; exact absurd hm (Nat.not_lt_zero _)
  | succ fuel ih =>
    intro w1 w2 hi hm
    refine m_lload F rfl e_X10_divisor_6 ?_
    refine m_lconst F (v := 0) (by decide) e_X10_divisor_8 ?_
    refine m_lcmp F e_X10_divisor_9 ?_
    refine m_if_eq F e_X10_divisor_10 (fun q10 => ?_) (fun q10 => ?_)
    · have e0 : w2 = 0 := (lg_cmp_eq _ _).mp q10
      refine m_lload F rfl e_X10_divisor_31 ?_
      exact m_lret F hQ e_X10_divisor_33 (⟨rfl, w1, (hi.elim id (fun h => absurd e0 h)), rfl⟩)
    · have e1 : w2 ≠ 0 := fun e => q10 ((lg_cmp_eq _ _).mpr e)
      refine m_lload F rfl e_X10_divisor_13 ?_
      refine m_lload F rfl e_X10_divisor_15 ?_
      refine m_lrem F e1 e_X10_divisor_17 ?_
      refine m_lstore F (lv' := [(8, .long (w1 - w1 / w2 * w2)), (4, .long w1), (6, .long w2), (0, .long x901), (2, .long x902)]) e_X10_divisor_18 (by decide) rfl ?_
      refine m_lload F rfl e_X10_divisor_20 ?_
      refine m_lstore F (lv' := [(4, .long w2), (8, .long (w1 - w1 / w2 * w2)), (6, .long w2), (0, .long x901), (2, .long x902)]) e_X10_divisor_22 (by decide) rfl ?_
      refine m_lload F rfl e_X10_divisor_24 ?_
      refine m_lstore F (lv' := [(6, .long (w1 - w1 / w2 * w2)), (4, .long w2), (8, .long (w1 - w1 / w2 * w2)), (0, .long x901), (2, .long x902)]) e_X10_divisor_26 (by decide) rfl ?_
      refine m_goto F e_X10_divisor_28 ?_
      refine Wm.lvsub (lv' := [(4, .long w2), (6, .long (w1 - w1 / w2 * w2)), (0, .long x901), (2, .long x902)]) ?_ [1, 0, 3, 4] rfl
      exact ih w2 (w1 - w1 / w2 * w2) (Or.inl e1) (Nat.lt_of_lt_of_le (dv_lt e1) (Nat.le_of_lt_succ hm))
set_option maxRecDepth 20000 in
theorem q_X10_divisor (l : Launch) (V : VX) (N : Nat) (σ : Mem) (x901 : Int64) (x902 : Int64) (hp0 : x902 ≠ 0) : Ct l V yX10_divisor cX10_divisor 10 (some .long) 0 0 0 N σ [.long x901, .long x902] (fun r τ => τ = σ ∧ ∃ x : Int64, x ≠ 0 ∧ r = some (.long x)) := by
  refine Ct.of (by decide) (Nat.le_of_ble_eq_true rfl) [(0, .long x901), (2, .long x902)] rfl (fun X hX F hQ => ?_)
  refine m_lload_n F rfl e_X10_divisor_0 ?_
  refine m_lstore F (lv' := [(4, .long x901), (0, .long x901), (2, .long x902)]) e_X10_divisor_1 (by decide) rfl ?_
  refine m_lload_n F rfl e_X10_divisor_3 ?_
  refine m_lstore F (lv' := [(6, .long x902), (4, .long x901), (0, .long x901), (2, .long x902)]) e_X10_divisor_4 (by decide) rfl ?_
  refine Wm.lvsub (lv' := [(4, .long x901), (6, .long x902), (0, .long x901), (2, .long x902)]) ?_ [1, 0, 2, 3] rfl
  exact lq_X10_divisor_6 F hQ  hp0 (x902.toInt.natAbs + 1) x901 x902 (Or.inr hp0) (Nat.lt_succ_self _)
set_option maxRecDepth 20000 in
theorem lq_X10_life_94 {V : VX} {X : MX} {N : Nat} {σ : Mem} {c T Z u h : Nat} {P : NP} {L : Nat → LQ}   (F : Fx V X yX10_life cX10_life 11 (some .long) (rmd 2 0 0)) (hQ : Rt V X 0 0 N (fun r τ => HS V c (⟨T, Z, u, h, P, L⟩ : RG) [0, 2, 3, 4, 5, 6, 7, 8, 9, 10, 11, 12, 13, 14, 15, 16, 17, 18, 19, 20, 21, 22, 23] σ τ ∧ ∃ x : Int64, r = some (.long x))) (hob : OKB L) (hP : OKP P)   : ∀ (fuel : Nat) (a : Nat) (b1 : Int32) (w1 : Int64) (w2 : Int64) (w3 : Int64) (i : Nat) (τ : Mem), HS V c (⟨T, Z, u, h, P, L⟩ : RG) [0, 2, 3, 4, 5, 6, 7, 8, 9, 10, 11, 12, 13, 14, 15, 16, 17, 18, 19, 20, 21, 22, 23] σ τ → a ≤ 3 ∧ i ≤ 72 → 72 - i < fuel → Wm V X 11 N τ 0 0 94 [(0, .ref c), (1, .int (nI a)), (2, .int b1), (3, .int (nI (160 * a))), (4, .long w1), (6, .long w2), (8, .long w3), (10, .int (nI i))] [] := by
  intro fuel
  induction fuel with
  | zero => intros; rename_i hm; exact absurd hm (Nat.not_lt_zero _)
  | succ fuel ih =>
    intro a b1 w1 w2 w3 i τ h1 hi hm
    have hPP := hP
    unfold OKP at hPP
    refine m_iload F rfl e_X10_life_94 ?_
    refine m_i2l F e_X10_life_96 ?_
    refine Wm.toplE (w := lN i) (nI_l (by omega)) ?_
    refine m_aload_n F rfl e_X10_life_97 ?_
    refine r_get F e_X10_life_98 fl_X10_59 h1 rfl (fun v hv f7013 => ?_)
    obtain rfl : v = .ref (c + 16) := hv
    refine m_iload_n F rfl e_X10_life_101 ?_
    refine m_iconst F (v := 1) (by decide) e_X10_life_102 ?_
    refine m_iadd F e_X10_life_103 ?_
    refine Wm.topE (w := nI (160 * a + 1)) (nI_add (160 * a) 1) ?_
    refine r_sld F (j := 160 * a + 1) e_X10_life_104 h1 (nI_clamp (by omega)) (vp_in_nI (by omega) (by decide)) (fun x7014 h7015 f7016 => ?_)
    have hl7017 := hob.2 a (by omega)
    obtain rfl : x7014 = lN (L a).2.1 := (EJ_l (l := a) (r := 1) (by omega) (by decide)).mp h7015
    refine m_lcmp F e_X10_life_105 ?_
    refine m_if_ge F e_X10_life_106 (fun q106 => ?_) (fun q106 => ?_)
    · have c106 : i ≥ ((L a).2.1) := (lN_le (a := ((L a).2.1)) (b := i) (by omega) (by omega)).mp ((lg_cmp_ge _ _).mp q106)
      refine m_lload F rfl e_X10_life_165 ?_
      refine m_lconst F (v := 0) (by decide) e_X10_life_167 ?_
      refine m_lcmp F e_X10_life_168 ?_
      refine m_if_ne F e_X10_life_169 (fun q169 => ?_) (fun q169 => ?_)
      · have e1 : w3 ≠ 0 := fun e => q169 ((lg_cmp_eq _ _).mpr e)
        refine m_iload_n F rfl e_X10_life_176 ?_
        refine m_if_eq F e_X10_life_177 (fun q177 => ?_) (fun q177 => ?_)
        · subst q177
          refine m_lload F rfl e_X10_life_185 ?_
          refine m_lload F rfl e_X10_life_187 ?_
          refine m_lload F rfl e_X10_life_189 ?_
          refine m_callS F e_X10_life_191 (q_X10_divisor (x_l X) V _ _ w2 w3 (by first | omega | assumption | decide)) cb_X10_divisor ml_X10_340 sm_X10_divisor rfl (rest := [.long w2]) rfl (Nat.le_of_ble_eq_true rfl) ⟨Nat.le_of_ble_eq_true rfl, Nat.le_of_ble_eq_true rfl⟩ ⟨Nat.le_of_ble_eq_true rfl, Nat.le_of_ble_eq_true rfl⟩ (k' := 0) (z' := 0) (N' := N) rfl rfl rfl (fun r σ7018 hp => ?_)
          obtain ⟨rfl, x7021, hx7021, rfl⟩ := hp
          refine m_ldiv F (by assumption) e_X10_life_194 ?_
          refine Wm.topl (fun x7022 _ => ?_)
          exact m_lret F hQ e_X10_life_195 (⟨h1, _, rfl⟩)
        · refine m_lload F rfl e_X10_life_180 ?_
          refine m_goto F e_X10_life_182 ?_
          refine m_lload F rfl e_X10_life_187 ?_
          refine m_lload F rfl e_X10_life_189 ?_
          refine m_callS F e_X10_life_191 (q_X10_divisor (x_l X) V _ _ w2 w3 (by first | omega | assumption | decide)) cb_X10_divisor ml_X10_340 sm_X10_divisor rfl (rest := [.long w3]) rfl (Nat.le_of_ble_eq_true rfl) ⟨Nat.le_of_ble_eq_true rfl, Nat.le_of_ble_eq_true rfl⟩ ⟨Nat.le_of_ble_eq_true rfl, Nat.le_of_ble_eq_true rfl⟩ (k' := 0) (z' := 0) (N' := N) rfl rfl rfl (fun r σ7023 hp => ?_)
          obtain ⟨rfl, x7026, hx7026, rfl⟩ := hp
          refine m_ldiv F (by assumption) e_X10_life_194 ?_
          refine Wm.topl (fun x7027 _ => ?_)
          exact m_lret F hQ e_X10_life_195 (⟨h1, _, rfl⟩)
      · refine m_ldc2 F kc_X10_338 e_X10_life_172 ?_
        exact m_lret F hQ e_X10_life_175 (⟨h1, _, rfl⟩)
    · have c106 : i < ((L a).2.1) := by have hh := mt (fun h9 => (lg_cmp_ge (lN i) (lN ((L a).2.1))).mpr ((lN_le (a := ((L a).2.1)) (b := i) (by omega) (by omega)).mpr h9)) q106; omega
      refine m_lload F rfl e_X10_life_109 ?_
      refine m_aload_n F rfl e_X10_life_111 ?_
      refine r_getC F e_X10_life_112 fl_X10_59 h1 (f7013) ?_
      refine m_iload_n F rfl e_X10_life_115 ?_
      refine m_bipush F (v := 13) (by decide) e_X10_life_116 ?_
      refine m_iadd F e_X10_life_118 ?_
      refine Wm.topE (w := nI (160 * a + 13)) (nI_add (160 * a) 13) ?_
      refine m_iload F rfl e_X10_life_119 ?_
      refine m_iadd F e_X10_life_121 ?_
      refine Wm.topE (w := nI ((160 * a + 13) + i)) (nI_add (160 * a + 13) i) ?_
      refine r_sld F (j := (160 * a + 13) + i) e_X10_life_122 h1 (nI_clamp (by omega)) (vp_in_nI (by omega) (by decide)) (fun x7028 h7029 f7030 => ?_)
      refine m_lload F rfl e_X10_life_123 ?_
      refine m_iload F rfl e_X10_life_125 ?_
      refine m_i2l F e_X10_life_127 ?_
      refine Wm.toplE (w := lN i) (nI_l (by omega)) ?_
      refine m_ladd F e_X10_life_128 ?_
      refine Wm.topl (fun x7031 _ => ?_)
      refine m_aload_n F rfl e_X10_life_129 ?_
      refine r_getC F e_X10_life_130 fl_X10_59 h1 (f7013) ?_
      refine m_iload_n F rfl e_X10_life_133 ?_
      refine m_iconst F (v := 5) (by decide) e_X10_life_134 ?_
      refine m_iadd F e_X10_life_135 ?_
      refine Wm.topE (w := nI (160 * a + 5)) (nI_add (160 * a) 5) ?_
      refine r_sld F (j := 160 * a + 5) e_X10_life_136 h1 (nI_clamp (by omega)) (vp_in_nI (by omega) (by decide)) (fun x7032 h7033 f7034 => ?_)
      have hl7035 := hob.2 a (by omega)
      obtain rfl : x7032 = lN (L a).2.2.2 := (EJ_l (l := a) (r := 5) (by omega) (by decide)).mp h7033
      refine m_lsub F e_X10_life_137 ?_
      refine Wm.topl (fun x7036 _ => ?_)
      refine m_lmul F e_X10_life_138 ?_
      refine Wm.topl (fun x7037 _ => ?_)
      refine m_ladd F e_X10_life_139 ?_
      refine Wm.topl (fun x7038 _ => ?_)
      refine m_lstore F (lv' := [(6, .long x7038), (0, .ref c), (1, .int (nI a)), (2, .int b1), (3, .int (nI (160 * a))), (4, .long w1), (8, .long w3), (10, .int (nI i))]) e_X10_life_140 (by decide) rfl ?_
      refine m_lload F rfl e_X10_life_142 ?_
      refine m_aload_n F rfl e_X10_life_144 ?_
      refine r_getC F e_X10_life_145 fl_X10_59 h1 (f7013) ?_
      refine m_iload_n F rfl e_X10_life_148 ?_
      refine m_bipush F (v := 13) (by decide) e_X10_life_149 ?_
      refine m_iadd F e_X10_life_151 ?_
      refine Wm.topE (w := nI (160 * a + 13)) (nI_add (160 * a) 13) ?_
      refine m_iload F rfl e_X10_life_152 ?_
      refine m_iadd F e_X10_life_154 ?_
      refine Wm.topE (w := nI ((160 * a + 13) + i)) (nI_add (160 * a + 13) i) ?_
      refine r_sld F (j := (160 * a + 13) + i) e_X10_life_155 h1 (nI_clamp (by omega)) (vp_in_nI (by omega) (by decide)) (fun x7039 h7040 f7041 => ?_)
      refine m_ladd F e_X10_life_156 ?_
      refine Wm.topl (fun x7042 _ => ?_)
      refine m_lstore F (lv' := [(8, .long x7042), (6, .long x7038), (0, .ref c), (1, .int (nI a)), (2, .int b1), (3, .int (nI (160 * a))), (4, .long w1), (10, .int (nI i))]) e_X10_life_157 (by decide) rfl ?_
      refine m_iinc F (v := nI (i + 1)) (lv' := [(10, .int (nI (i + 1))), (8, .long x7042), (6, .long x7038), (0, .ref c), (1, .int (nI a)), (2, .int b1), (3, .int (nI (160 * a))), (4, .long w1)]) e_X10_life_159 rfl (nI_add i 1) (by decide) rfl ?_
      refine m_goto F e_X10_life_162 ?_
      refine Wm.lvsub (lv' := [(0, .ref c), (1, .int (nI a)), (2, .int b1), (3, .int (nI (160 * a))), (4, .long w1), (6, .long x7038), (8, .long x7042), (10, .int (nI (i + 1)))]) ?_ [3, 4, 5, 6, 7, 2, 1, 0] rfl
      exact ih a b1 w1 x7038 x7042 (i + 1) _ h1 (by omega) (by omega)
set_option maxRecDepth 20000 in
theorem q_X10_life (l : Launch) (V : VX) (c T Z u h : Nat) (P : NP) (L : Nat → LQ) (N : Nat) (σ : Mem) (x901 : Int32) (x902 : Int32) (h0 : HR V c ⟨T, Z, u, h, P, L⟩ σ) (hob : OKB L) (hP : OKP P)  : Ct l V yX10_life cX10_life 11 (some .long) 2 0 0 N σ [.ref c, .int x901, .int x902] (fun r τ => HS V c (⟨T, Z, u, h, P, L⟩ : RG) [0, 2, 3, 4, 5, 6, 7, 8, 9, 10, 11, 12, 13, 14, 15, 16, 17, 18, 19, 20, 21, 22, 23] σ τ ∧ ∃ x : Int64, r = some (.long x)) := by
  refine Ct.of (by decide) (Nat.le_of_ble_eq_true rfl) [(0, .ref c), (1, .int x901), (2, .int x902)] rfl (fun X hX F hQ => ?_)
  have hPP := hP
  unfold OKP at hPP
  have h1 : HS V c ⟨T, Z, u, h, P, L⟩ [0, 2, 3, 4, 5, 6, 7, 8, 9, 10, 11, 12, 13, 14, 15, 16, 17, 18, 19, 20, 21, 22, 23] σ σ := HS.start h0
  refine m_aload_n F rfl e_X10_life_0 ?_
  refine m_iconst F (v := 0) (by decide) e_X10_life_1 ?_
  refine r_put F (g' := (⟨T, Z, u, h, P, L⟩ : RG)) e_X10_life_2 fp_X10_91 h1 (by decide) ⟨_, rfl⟩ (fun _ _ _ _ q => q) (fun _ _ _ q => q) rfl rfl (by decide) (fun σ7043 h7044 g7045 g7046 f7047 => ?_)
  refine m_aload_n F rfl e_X10_life_5 ?_
  refine m_iload_n F rfl e_X10_life_6 ?_
  refine r_callV F e_X10_life_7 (q_X10_isLease (x_l X) V c T Z u h P L _ _ x901 h7044.1 (hob) hP ) cb_X10_isLease ml_X10_292 im_X10_isLease se_X10_isLease h7044 rfl rfl (rest := []) rfl (Nat.le_of_ble_eq_true rfl) ⟨Nat.le_of_ble_eq_true rfl, Nat.le_of_ble_eq_true rfl⟩ ⟨Nat.le_of_ble_eq_true rfl, Nat.le_of_ble_eq_true rfl⟩ (fun r σ7048 hp => ?_)
  obtain ⟨h7049, c7051⟩ := hp
  have h7050 := HS.trans h7044 h7049 (by decide)
  rcases c7051 with rfl | ⟨n7052, h7053, e7054, rfl⟩
  · refine m_if_ne F e_X10_life_10 (fun q => absurd (by decide) q) (fun _ => ?_)
    refine m_ldc2 F kc_X10_245 e_X10_life_13 ?_
    exact m_lret F hQ e_X10_life_16 (⟨h7050, _, rfl⟩)
  · subst e7054
    refine m_if_ne F e_X10_life_10 (fun _ => ?_) (fun q => absurd q (by decide))
    refine m_sipush F (v := 160) (by decide) e_X10_life_17 ?_
    refine m_iload_n F rfl e_X10_life_20 ?_
    refine m_imul F e_X10_life_21 ?_
    refine Wm.topE (w := nI (160 * n7052)) (pk_mul 160 n7052) ?_
    refine m_istore_n F (lv' := [(3, .int (nI (160 * n7052))), (0, .ref c), (1, .int (nI n7052)), (2, .int x902)]) e_X10_life_22 (by decide) rfl ?_
    refine m_aload_n F rfl e_X10_life_23 ?_
    refine r_get F e_X10_life_24 fl_X10_59 h7050 rfl (fun v hv f7055 => ?_)
    obtain rfl : v = .ref (c + 16) := hv
    refine m_iload_n F rfl e_X10_life_27 ?_
    refine m_iconst F (v := 0) (by decide) e_X10_life_28 ?_
    refine m_iadd F e_X10_life_29 ?_
    refine Wm.topE (w := nI (160 * n7052)) (nI_add (160 * n7052) 0) ?_
    refine r_sld F (j := 160 * n7052) e_X10_life_30 h7050 (nI_clamp (by omega)) (vp_in_nI (by omega) (by decide)) (fun x7056 h7057 f7058 => ?_)
    have hl7059 := hob.2 n7052 (by omega)
    obtain rfl : x7056 = lN (L n7052).1 := (EJ_l (l := n7052) (r := 0) (by omega) (by decide)).mp h7057
    refine m_ldc2 F kc_X10_234 e_X10_life_31 ?_
    refine m_lcmp F e_X10_life_34 ?_
    refine m_if_ne F e_X10_life_35 (fun q35 => ?_) (fun q35 => ?_)
    · have c35 : ((L n7052).1) ≠ 2 := by have hh := mt (fun h9 => (lg_cmp_eq (lN ((L n7052).1)) (lN 2)).mpr ((lN_eq (a := ((L n7052).1)) (b := 2) (by omega) (by omega)).mpr h9)) q35; omega
      refine m_aload_n F rfl e_X10_life_42 ?_
      refine r_getC F e_X10_life_43 fl_X10_59 h7050 (f7055) ?_
      refine m_iload_n F rfl e_X10_life_46 ?_
      refine m_iconst F (v := 0) (by decide) e_X10_life_47 ?_
      refine m_iadd F e_X10_life_48 ?_
      refine Wm.topE (w := nI (160 * n7052)) (nI_add (160 * n7052) 0) ?_
      refine r_sld F (j := 160 * n7052) e_X10_life_49 h7050 (nI_clamp (by omega)) (vp_in_nI (by omega) (by decide)) (fun x7060 h7061 f7062 => ?_)
      have hl7063 := hob.2 n7052 (by omega)
      obtain rfl : x7060 = lN (L n7052).1 := (EJ_l (l := n7052) (r := 0) (by omega) (by decide)).mp h7061
      refine m_lconst F (v := 1) (by decide) e_X10_life_50 ?_
      refine m_lcmp F e_X10_life_51 ?_
      refine m_if_ne F e_X10_life_52 (fun q52 => ?_) (fun q52 => ?_)
      · have c52 : ((L n7052).1) ≠ 1 := by have hh := mt (fun h9 => (lg_cmp_eq (lN ((L n7052).1)) (lN 1)).mpr ((lN_eq (a := ((L n7052).1)) (b := 1) (by omega) (by omega)).mpr h9)) q52; omega
        refine m_aload_n F rfl e_X10_life_59 ?_
        refine r_get F e_X10_life_60 fl_X10_19 h7050 rfl (fun v hv f7064 => ?_)
        obtain rfl : v = .ref (c + 4) := hv
        refine m_iload_n F rfl e_X10_life_63 ?_
        refine r_iald F (len := 8) (j := n7052) e_X10_life_64 h7050 (fun _ h => h) (by decide) (nI_clamp (by omega)) (vp_in_nI (by omega) (by decide)) (fun x7065 h7066 f7067 => ?_)
        refine m_i2l F e_X10_life_65 ?_
        refine Wm.topl (fun x7068 _ => ?_)
        refine m_aload_n F rfl e_X10_life_66 ?_
        refine r_getC F e_X10_life_67 fl_X10_59 h7050 (f7055) ?_
        refine m_sipush F (v := 744) (by decide) e_X10_life_70 ?_
        refine r_sld F (j := 744) e_X10_life_73 h7050 (by decide) (by unfold vp_in; decide) (fun x7069 h7070 f7071 => ?_)
        have hl7072 := hob.1
        obtain rfl : x7069 = lN (L 4).1 := EJ_p.mp h7070
        refine m_lsub F e_X10_life_74 ?_
        refine Wm.topl (fun x7073 _ => ?_)
        refine m_lstore F (lv' := [(4, .long x7073), (3, .int (nI (160 * n7052))), (0, .ref c), (1, .int (nI n7052)), (2, .int x902)]) e_X10_life_75 (by decide) rfl ?_
        refine m_lconst F (v := 0) (by decide) e_X10_life_77 ?_
        refine m_lstore F (lv' := [(6, .long 0), (4, .long x7073), (3, .int (nI (160 * n7052))), (0, .ref c), (1, .int (nI n7052)), (2, .int x902)]) e_X10_life_78 (by decide) rfl ?_
        refine m_lconst F (v := 0) (by decide) e_X10_life_80 ?_
        refine m_lstore F (lv' := [(8, .long 0), (6, .long 0), (4, .long x7073), (3, .int (nI (160 * n7052))), (0, .ref c), (1, .int (nI n7052)), (2, .int x902)]) e_X10_life_81 (by decide) rfl ?_
        refine m_aload_n F rfl e_X10_life_83 ?_
        refine r_getC F e_X10_life_84 fl_X10_59 h7050 (f7055) ?_
        refine m_iload_n F rfl e_X10_life_87 ?_
        refine m_iconst F (v := 5) (by decide) e_X10_life_88 ?_
        refine m_iadd F e_X10_life_89 ?_
        refine Wm.topE (w := nI (160 * n7052 + 5)) (nI_add (160 * n7052) 5) ?_
        refine r_sld F (j := 160 * n7052 + 5) e_X10_life_90 h7050 (nI_clamp (by omega)) (vp_in_nI (by omega) (by decide)) (fun x7074 h7075 f7076 => ?_)
        have hl7077 := hob.2 n7052 (by omega)
        obtain rfl : x7074 = lN (L n7052).2.2.2 := (EJ_l (l := n7052) (r := 5) (by omega) (by decide)).mp h7075
        refine m_l2i F e_X10_life_91 ?_
        refine Wm.topE (w := nI ((L n7052).2.2.2)) (lN_i ((L n7052).2.2.2)) ?_
        refine m_istore F (lv' := [(10, .int (nI ((L n7052).2.2.2))), (8, .long 0), (6, .long 0), (4, .long x7073), (3, .int (nI (160 * n7052))), (0, .ref c), (1, .int (nI n7052)), (2, .int x902)]) e_X10_life_92 (by decide) rfl ?_
        refine Wm.lvsub (lv' := [(0, .ref c), (1, .int (nI n7052)), (2, .int x902), (3, .int (nI (160 * n7052))), (4, .long x7073), (6, .long 0), (8, .long 0), (10, .int (nI ((L n7052).2.2.2)))]) ?_ [5, 6, 7, 4, 3, 2, 1, 0] rfl
        exact lq_X10_life_94 F hQ hob hP  (72 - ((L n7052).2.2.2) + 1) n7052 x902 x7073 0 0 ((L n7052).2.2.2) _ h7050 (by omega) (Nat.lt_succ_self _)
      · have c52 : ((L n7052).1) = 1 := (lN_eq (a := ((L n7052).1)) (b := 1) (by omega) (by omega)).mp ((lg_cmp_eq _ _).mp q52)
        refine m_lconst F (v := 0) (by decide) e_X10_life_55 ?_
        refine m_goto F e_X10_life_56 ?_
        refine m_lstore F (lv' := [(4, .long 0), (3, .int (nI (160 * n7052))), (0, .ref c), (1, .int (nI n7052)), (2, .int x902)]) e_X10_life_75 (by decide) rfl ?_
        refine m_lconst F (v := 0) (by decide) e_X10_life_77 ?_
        refine m_lstore F (lv' := [(6, .long 0), (4, .long 0), (3, .int (nI (160 * n7052))), (0, .ref c), (1, .int (nI n7052)), (2, .int x902)]) e_X10_life_78 (by decide) rfl ?_
        refine m_lconst F (v := 0) (by decide) e_X10_life_80 ?_
        refine m_lstore F (lv' := [(8, .long 0), (6, .long 0), (4, .long 0), (3, .int (nI (160 * n7052))), (0, .ref c), (1, .int (nI n7052)), (2, .int x902)]) e_X10_life_81 (by decide) rfl ?_
        refine m_aload_n F rfl e_X10_life_83 ?_
        refine r_getC F e_X10_life_84 fl_X10_59 h7050 (f7055) ?_
        refine m_iload_n F rfl e_X10_life_87 ?_
        refine m_iconst F (v := 5) (by decide) e_X10_life_88 ?_
        refine m_iadd F e_X10_life_89 ?_
        refine Wm.topE (w := nI (160 * n7052 + 5)) (nI_add (160 * n7052) 5) ?_
        refine r_sld F (j := 160 * n7052 + 5) e_X10_life_90 h7050 (nI_clamp (by omega)) (vp_in_nI (by omega) (by decide)) (fun x7078 h7079 f7080 => ?_)
        have hl7081 := hob.2 n7052 (by omega)
        obtain rfl : x7078 = lN (L n7052).2.2.2 := (EJ_l (l := n7052) (r := 5) (by omega) (by decide)).mp h7079
        refine m_l2i F e_X10_life_91 ?_
        refine Wm.topE (w := nI ((L n7052).2.2.2)) (lN_i ((L n7052).2.2.2)) ?_
        refine m_istore F (lv' := [(10, .int (nI ((L n7052).2.2.2))), (8, .long 0), (6, .long 0), (4, .long 0), (3, .int (nI (160 * n7052))), (0, .ref c), (1, .int (nI n7052)), (2, .int x902)]) e_X10_life_92 (by decide) rfl ?_
        refine Wm.lvsub (lv' := [(0, .ref c), (1, .int (nI n7052)), (2, .int x902), (3, .int (nI (160 * n7052))), (4, .long 0), (6, .long 0), (8, .long 0), (10, .int (nI ((L n7052).2.2.2)))]) ?_ [5, 6, 7, 4, 3, 2, 1, 0] rfl
        exact lq_X10_life_94 F hQ hob hP  (72 - ((L n7052).2.2.2) + 1) n7052 x902 0 0 0 ((L n7052).2.2.2) _ h7050 (by omega) (Nat.lt_succ_self _)
    · have c35 : ((L n7052).1) = 2 := (lN_eq (a := ((L n7052).1)) (b := 2) (by omega) (by omega)).mp ((lg_cmp_eq _ _).mp q35)
      refine m_ldc2 F kc_X10_338 e_X10_life_38 ?_
      exact m_lret F hQ e_X10_life_41 (⟨h7050, _, rfl⟩)
set_option maxRecDepth 20000 in
theorem q_X10_draw (l : Launch) (V : VX) (c T Z u h : Nat) (P : NP) (L : Nat → LQ) (N : Nat) (σ : Mem) (n901 : Nat) (h0 : HR V c ⟨T, Z, u, h, P, L⟩ σ) (hob : OKB L) (hP : OKP P) (hn901 : n901 ≤ 21) (hp0 : 1 ≤ n901) : Ct l V yX10_draw cX10_draw 2 (some .int) 0 0 0 N σ [.ref c, .int (nI n901)] (fun r τ => HS V c (⟨T, Z, u, h, P, L⟩ : RG) [0, 2, 3, 4, 5, 6, 7, 8, 9, 10, 11, 12, 13, 14, 15, 16, 17, 18, 19, 20, 21, 22, 23] σ τ ∧ ∃ x : Int32, r = some (.int x)) := by
  refine Ct.of (by decide) (Nat.le_of_ble_eq_true rfl) [(0, .ref c), (1, .int (nI n901))] rfl (fun X hX F hQ => ?_)
  have hPP := hP
  unfold OKP at hPP
  have h1 : HS V c ⟨T, Z, u, h, P, L⟩ [0, 2, 3, 4, 5, 6, 7, 8, 9, 10, 11, 12, 13, 14, 15, 16, 17, 18, 19, 20, 21, 22, 23] σ σ := HS.start h0
  refine m_aload_n F rfl e_X10_draw_0 ?_
  refine m_aload_n F rfl e_X10_draw_1 ?_
  refine r_get F e_X10_draw_2 fl_X10_353 h1 rfl (fun v hv f7082 => ?_)
  obtain ⟨x7083, rfl⟩ := hv
  refine m_ldcw F kc_X10_356 e_X10_draw_5 ?_
  refine m_imul F e_X10_draw_8 ?_
  refine Wm.top (fun x7084 _ => ?_)
  refine m_sipush F (v := 12345) (by decide) e_X10_draw_9 ?_
  refine m_iadd F e_X10_draw_12 ?_
  refine Wm.top (fun x7085 _ => ?_)
  refine m_ldcw F kc_X10_357 e_X10_draw_13 ?_
  refine m_iand F e_X10_draw_16 ?_
  refine Wm.top (fun x7086 _ => ?_)
  refine r_put F (g' := (⟨T, Z, u, h, P, L⟩ : RG)) e_X10_draw_17 fp_X10_353 h1 (by decide) ⟨_, rfl⟩ (fun _ _ _ _ q => q) (fun _ _ _ q => q) rfl rfl (by decide) (fun σ7087 h7088 g7089 g7090 f7091 => ?_)
  refine m_aload_n F rfl e_X10_draw_20 ?_
  refine r_getC F e_X10_draw_21 fl_X10_353 h7088 (f7091) ?_
  refine m_bipush F (v := 16) (by decide) e_X10_draw_24 ?_
  refine m_ishr F e_X10_draw_26 ?_
  refine Wm.top (fun x7092 _ => ?_)
  refine m_iload_n F rfl e_X10_draw_27 ?_
  refine m_irem F (fun e => by have h9 := nI_inj (a := n901) (b := 0) (by omega) (by omega) e; omega) e_X10_draw_28 ?_
  refine Wm.top (fun x7093 _ => ?_)
  exact m_iret F hQ e_X10_draw_29 (⟨h7088, _, rfl⟩)
set_option maxRecDepth 20000 in
theorem q_X10_held (l : Launch) (V : VX) (N : Nat) (σ : Mem) (x901 : Int64)  : Ct l V yX10_held cX10_held 2 (some .long) 0 0 0 N σ [.long x901] (fun r τ => τ = σ ∧ ∃ n : Nat, 1 ≤ n ∧ n ≤ 2000 ∧ r = some (.long (lN n))) := by
  refine Ct.of (by decide) (Nat.le_of_ble_eq_true rfl) [(0, .long x901)] rfl (fun X hX F hQ => ?_)
  refine m_lload_n F rfl e_X10_held_0 ?_
  refine m_ldc2 F kc_X10_358 e_X10_held_1 ?_
  refine m_lcmp F e_X10_held_4 ?_
  refine m_if_ge F e_X10_held_5 (fun q5 => ?_) (fun q5 => ?_)
  · have e5 : ¬ x901 < 500 := Int64.not_lt.mpr ((lg_cmp_ge _ _).mp q5)
    refine m_lload_n F rfl e_X10_held_12 ?_
    refine m_ldc2 F kc_X10_360 e_X10_held_13 ?_
    refine m_lcmp F e_X10_held_16 ?_
    refine m_if_le F e_X10_held_17 (fun q17 => ?_) (fun q17 => ?_)
    · have e17 : ¬ 2000 < x901 := Int64.not_lt.mpr ((lg_cmp_le _ _).mp q17)
      refine m_lload_n F rfl e_X10_held_24 ?_
      exact m_lret F hQ e_X10_held_25 ((by obtain ⟨n9, g9, h9, e9⟩ := lN_of e5 e17; exact ⟨rfl, n9, g9, h9, by rw [e9]⟩))
    · refine m_ldc2 F kc_X10_360 e_X10_held_20 ?_
      exact m_lret F hQ e_X10_held_23 (⟨rfl, 2000, by omega, by omega, rfl⟩)
  · refine m_ldc2 F kc_X10_358 e_X10_held_8 ?_
    exact m_lret F hQ e_X10_held_11 (⟨rfl, 500, by omega, by omega, rfl⟩)
set_option maxRecDepth 20000 in
theorem lq_X10_chance_125 {V : VX} {X : MX} {N : Nat} {σ : Mem} {c T Z u h : Nat} {P : NP} {L : Nat → LQ}   (F : Fx V X yX10_chance cX10_chance 13 (some .long) (rmd 4 0 0)) (hQ : Rt V X 0 0 N (fun r τ => HS V c (⟨T, Z, u, h, P, L⟩ : RG) [0, 2, 3, 4, 5, 6, 7, 8, 9, 10, 11, 12, 13, 14, 15, 16, 18, 20, 21, 22] σ τ ∧ ∃ x : Int64, r = some (.long x))) (hok : OKL P.n0 L) (hP : OKP P)  {fuelO : Nat} (hO : ∀ (a : Nat) (b : Nat) (w1 : Int64) (w2 : Int64) (w3 : Int64) (k : Nat) (τ : Mem), HS V c (⟨T, Z, u, h, P, L⟩ : RG) [0, 2, 3, 4, 5, 6, 7, 8, 9, 10, 11, 12, 13, 14, 15, 16, 18, 20, 21, 22] σ τ → a ≤ 10 ∧ b ≤ 2 ∧ k ≤ a ∧ (L 4).1 ≤ 87 ∧ GB V c 18 1113 0 L τ → a - k < fuelO → Wm V X 13 N τ 0 0 116 [(0, .ref c), (2, .int (nI a)), (3, .int (nI b)), (4, .long w1), (6, .long w2), (8, .long w3), (10, .int (nI k))] []) : ∀ (fuel : Nat) (a : Nat) (b : Nat) (w1 : Int64) (w2 : Int64) (w3 : Int64) (k : Nat) (p : Nat) (L1 : Nat → LQ) (τ : Mem), HS V c (⟨T, Z, u, h, P, L1⟩ : RG) [0, 2, 3, 4, 5, 6, 7, 8, 9, 10, 11, 12, 13, 14, 15, 16, 18, 20, 21, 22] σ τ → OKL P.n0 L1 → a ≤ 10 ∧ b ≤ 2 ∧ k < a ∧ (L 4).1 ≤ 87 ∧ a - k ≤ fuelO ∧ p ≤ 12 ∧ (L1 4).1 = (L 4).1 + p ∧ GB V c 18 1113 0 L τ → 12 - p < fuel → Wm V X 13 N τ 0 0 125 [(0, .ref c), (2, .int (nI a)), (3, .int (nI b)), (4, .long w1), (6, .long w2), (8, .long w3), (10, .int (nI k)), (11, .int (nI p))] [] := by
  intro fuel
  induction fuel with
  | zero => intros; rename_i hm; exact absurd hm (Nat.not_lt_zero _)
  | succ fuel ih =>
    intro a b w1 w2 w3 k p L1 τ h1 hok1 hi hm
    have hPP := hP
    unfold OKP at hPP
    have ga0 := hi.2.2.2.2.2.2.2
    refine m_iload F rfl e_X10_chance_125 ?_
    refine m_bipush F (v := 12) (by decide) e_X10_chance_127 ?_
    refine m_icmp_ge F e_X10_chance_129 (fun q129 => ?_) (fun q129 => ?_)
    · have c129 : p ≥ 12 := (nI_leI (a := 12) (b := p) (by omega) (by omega)).mp q129
      refine m_aload_n F rfl e_X10_chance_165 ?_
      refine r_callV F e_X10_chance_166 (q_X10_owedAll (x_l X) V c T Z u h P L1 _ _  h1.1 (hok1.b) hP ) cb_X10_owedAll ml_X10_335 im_X10_owedAll se_X10_owedAll h1 rfl rfl (rest := []) rfl (Nat.le_of_ble_eq_true rfl) ⟨Nat.le_of_ble_eq_true rfl, Nat.le_of_ble_eq_true rfl⟩ ⟨Nat.le_of_ble_eq_true rfl, Nat.le_of_ble_eq_true rfl⟩ (fun r σ7094 hp => ?_)
      obtain ⟨h7095, x7097, rfl⟩ := hp
      have h7096 := HS.trans h1 h7095 (by decide)
      have ga7098 := ga0.of (h7095.2 (c + 18) (by rw [kC_at (k := 18) (by decide)]; decide))
      refine m_lstore F (lv' := [(11, .long x7097), (0, .ref c), (2, .int (nI a)), (3, .int (nI b)), (4, .long w1), (6, .long w2), (8, .long w3), (10, .int (nI k))]) e_X10_chance_169 (by decide) rfl ?_
      refine m_lload F rfl e_X10_chance_171 ?_
      refine m_lload F rfl e_X10_chance_173 ?_
      refine m_ladd F e_X10_chance_175 ?_
      refine Wm.topl (fun x7099 _ => ?_)
      refine m_lstore F (lv' := [(4, .long x7099), (11, .long x7097), (0, .ref c), (2, .int (nI a)), (3, .int (nI b)), (6, .long w2), (8, .long w3), (10, .int (nI k))]) e_X10_chance_176 (by decide) rfl ?_
      refine m_iload F rfl e_X10_chance_178 ?_
      refine m_if_eq F e_X10_chance_180 (fun q180 => ?_) (fun q180 => ?_)
      · have c180 : k = 0 := (nI_eq (a := k) (b := 0) (by omega) (by omega)).mp q180
        refine m_lload F rfl e_X10_chance_191 ?_
        refine m_goto F e_X10_chance_193 ?_
        refine m_lstore F (lv' := [(6, .long x7097), (4, .long x7099), (11, .long x7097), (0, .ref c), (2, .int (nI a)), (3, .int (nI b)), (8, .long w3), (10, .int (nI k))]) e_X10_chance_198 (by decide) rfl ?_
        refine m_iload F rfl e_X10_chance_200 ?_
        refine m_if_eq F e_X10_chance_202 (fun q202 => ?_) (fun q202 => ?_)
        · have c202 : k = 0 := (nI_eq (a := k) (b := 0) (by omega) (by omega)).mp q202
          refine m_lload F rfl e_X10_chance_213 ?_
          refine m_goto F e_X10_chance_215 ?_
          refine m_lstore F (lv' := [(8, .long x7097), (6, .long x7097), (4, .long x7099), (11, .long x7097), (0, .ref c), (2, .int (nI a)), (3, .int (nI b)), (10, .int (nI k))]) e_X10_chance_220 (by decide) rfl ?_
          refine m_aload_n F rfl e_X10_chance_222 ?_
          refine r_get F e_X10_chance_223 fl_X10_66 h7096 rfl (fun v hv f7100 => ?_)
          obtain rfl : v = .ref (c + 18) := hv
          refine m_iconst F (v := 0) (by decide) e_X10_chance_226 ?_
          refine m_aload_n F rfl e_X10_chance_227 ?_
          refine r_get F e_X10_chance_228 fl_X10_59 h7096 rfl (fun v hv f7101 => ?_)
          obtain rfl : v = .ref (c + 16) := hv
          refine m_iconst F (v := 0) (by decide) e_X10_chance_231 ?_
          have xe7103 := ga7098
          obtain ⟨f7102, e7103, te7103⟩ := xe7103
          obtain ⟨g7104, e7105, te7105⟩ : ∃ f, σ7094 (c + 16) = some (aJ V 1113 f) ∧ _ := h7096.1.cell (k := 16) (by decide)
          refine m_callS F e_X10_chance_232 (q_copies (x_l X) V _ _ (c + 18) (c + 16) 1113 1113 0 0 f7102 g7104 e7103 e7105 (by omega) (by omega) (by omega) (by omega)) cb_X10_copies ml_X10_230 sm_X10_copies rfl (rest := []) rfl (Nat.le_of_ble_eq_true rfl) ⟨Nat.le_of_ble_eq_true rfl, Nat.le_of_ble_eq_true rfl⟩ ⟨Nat.le_of_ble_eq_true rfl, Nat.le_of_ble_eq_true rfl⟩ (k' := 0) (z' := 0) (N' := N) rfl rfl rfl (fun r σ7106 hp => ?_)
          obtain ⟨p7107, rfl⟩ := hp
          have h7108 := HS.cpS (L2 := L) (o := 0) h7096 (by decide) te7103 p7107
          have ga7109 := ga7098.of (p7107.2 _ (by omega))
          refine m_iinc F (v := nI (k + 1)) (lv' := [(10, .int (nI (k + 1))), (8, .long x7097), (6, .long x7097), (4, .long x7099), (11, .long x7097), (0, .ref c), (2, .int (nI a)), (3, .int (nI b))]) e_X10_chance_235 rfl (nI_add k 1) (by decide) rfl ?_
          refine m_goto F e_X10_chance_238 ?_
          refine Wm.lvsub (lv' := [(0, .ref c), (2, .int (nI a)), (3, .int (nI b)), (4, .long x7099), (6, .long x7097), (8, .long x7097), (10, .int (nI (k + 1)))]) ?_ [5, 6, 7, 3, 2, 1, 0] rfl
          exact hO a b x7099 x7097 x7097 (k + 1) _ h7108 ⟨by omega, by omega, by omega, by omega, by assumption⟩ (by omega)
        · have c202 : k ≠ 0 := by have hh := mt (nI_eq (a := k) (b := 0) (by omega) (by omega)).mpr q202; omega
          refine m_lload F rfl e_X10_chance_205 ?_
          refine m_lload F rfl e_X10_chance_207 ?_
          refine m_lcmp F e_X10_chance_209 ?_
          refine Wm.top (fun x7110 _ => ?_)
          refine m_if_ge F e_X10_chance_210 (fun q210 => ?_) (fun q210 => ?_)
          · obtain ⟨n7111, hn7111, rfl⟩ := nI_nn (x := x7110) (fun e => Int32.lt_irrefl (Int32.lt_of_lt_of_le e (Int32.le_trans (by decide) q210)))
            have c210 : n7111 ≥ 0 := (nI_leI (a := 0) (b := n7111) (by omega) (by omega)).mp q210
            refine m_lload F rfl e_X10_chance_218 ?_
            refine m_lstore F (lv' := [(8, .long w3), (6, .long x7097), (4, .long x7099), (11, .long x7097), (0, .ref c), (2, .int (nI a)), (3, .int (nI b)), (10, .int (nI k))]) e_X10_chance_220 (by decide) rfl ?_
            refine m_aload_n F rfl e_X10_chance_222 ?_
            refine r_get F e_X10_chance_223 fl_X10_66 h7096 rfl (fun v hv f7112 => ?_)
            obtain rfl : v = .ref (c + 18) := hv
            refine m_iconst F (v := 0) (by decide) e_X10_chance_226 ?_
            refine m_aload_n F rfl e_X10_chance_227 ?_
            refine r_get F e_X10_chance_228 fl_X10_59 h7096 rfl (fun v hv f7113 => ?_)
            obtain rfl : v = .ref (c + 16) := hv
            refine m_iconst F (v := 0) (by decide) e_X10_chance_231 ?_
            have xe7115 := ga7098
            obtain ⟨f7114, e7115, te7115⟩ := xe7115
            obtain ⟨g7116, e7117, te7117⟩ : ∃ f, σ7094 (c + 16) = some (aJ V 1113 f) ∧ _ := h7096.1.cell (k := 16) (by decide)
            refine m_callS F e_X10_chance_232 (q_copies (x_l X) V _ _ (c + 18) (c + 16) 1113 1113 0 0 f7114 g7116 e7115 e7117 (by omega) (by omega) (by omega) (by omega)) cb_X10_copies ml_X10_230 sm_X10_copies rfl (rest := []) rfl (Nat.le_of_ble_eq_true rfl) ⟨Nat.le_of_ble_eq_true rfl, Nat.le_of_ble_eq_true rfl⟩ ⟨Nat.le_of_ble_eq_true rfl, Nat.le_of_ble_eq_true rfl⟩ (k' := 0) (z' := 0) (N' := N) rfl rfl rfl (fun r σ7118 hp => ?_)
            obtain ⟨p7119, rfl⟩ := hp
            have h7120 := HS.cpS (L2 := L) (o := 0) h7096 (by decide) te7115 p7119
            have ga7121 := ga7098.of (p7119.2 _ (by omega))
            refine m_iinc F (v := nI (k + 1)) (lv' := [(10, .int (nI (k + 1))), (8, .long w3), (6, .long x7097), (4, .long x7099), (11, .long x7097), (0, .ref c), (2, .int (nI a)), (3, .int (nI b))]) e_X10_chance_235 rfl (nI_add k 1) (by decide) rfl ?_
            refine m_goto F e_X10_chance_238 ?_
            refine Wm.lvsub (lv' := [(0, .ref c), (2, .int (nI a)), (3, .int (nI b)), (4, .long x7099), (6, .long x7097), (8, .long w3), (10, .int (nI (k + 1)))]) ?_ [5, 6, 7, 3, 2, 1, 0] rfl
            exact hO a b x7099 x7097 w3 (k + 1) _ h7120 ⟨by omega, by omega, by omega, by omega, by assumption⟩ (by omega)
          · refine m_lload F rfl e_X10_chance_213 ?_
            refine m_goto F e_X10_chance_215 ?_
            refine m_lstore F (lv' := [(8, .long x7097), (6, .long x7097), (4, .long x7099), (11, .long x7097), (0, .ref c), (2, .int (nI a)), (3, .int (nI b)), (10, .int (nI k))]) e_X10_chance_220 (by decide) rfl ?_
            refine m_aload_n F rfl e_X10_chance_222 ?_
            refine r_get F e_X10_chance_223 fl_X10_66 h7096 rfl (fun v hv f7122 => ?_)
            obtain rfl : v = .ref (c + 18) := hv
            refine m_iconst F (v := 0) (by decide) e_X10_chance_226 ?_
            refine m_aload_n F rfl e_X10_chance_227 ?_
            refine r_get F e_X10_chance_228 fl_X10_59 h7096 rfl (fun v hv f7123 => ?_)
            obtain rfl : v = .ref (c + 16) := hv
            refine m_iconst F (v := 0) (by decide) e_X10_chance_231 ?_
            have xe7125 := ga7098
            obtain ⟨f7124, e7125, te7125⟩ := xe7125
            obtain ⟨g7126, e7127, te7127⟩ : ∃ f, σ7094 (c + 16) = some (aJ V 1113 f) ∧ _ := h7096.1.cell (k := 16) (by decide)
            refine m_callS F e_X10_chance_232 (q_copies (x_l X) V _ _ (c + 18) (c + 16) 1113 1113 0 0 f7124 g7126 e7125 e7127 (by omega) (by omega) (by omega) (by omega)) cb_X10_copies ml_X10_230 sm_X10_copies rfl (rest := []) rfl (Nat.le_of_ble_eq_true rfl) ⟨Nat.le_of_ble_eq_true rfl, Nat.le_of_ble_eq_true rfl⟩ ⟨Nat.le_of_ble_eq_true rfl, Nat.le_of_ble_eq_true rfl⟩ (k' := 0) (z' := 0) (N' := N) rfl rfl rfl (fun r σ7128 hp => ?_)
            obtain ⟨p7129, rfl⟩ := hp
            have h7130 := HS.cpS (L2 := L) (o := 0) h7096 (by decide) te7125 p7129
            have ga7131 := ga7098.of (p7129.2 _ (by omega))
            refine m_iinc F (v := nI (k + 1)) (lv' := [(10, .int (nI (k + 1))), (8, .long x7097), (6, .long x7097), (4, .long x7099), (11, .long x7097), (0, .ref c), (2, .int (nI a)), (3, .int (nI b))]) e_X10_chance_235 rfl (nI_add k 1) (by decide) rfl ?_
            refine m_goto F e_X10_chance_238 ?_
            refine Wm.lvsub (lv' := [(0, .ref c), (2, .int (nI a)), (3, .int (nI b)), (4, .long x7099), (6, .long x7097), (8, .long x7097), (10, .int (nI (k + 1)))]) ?_ [5, 6, 7, 3, 2, 1, 0] rfl
            exact hO a b x7099 x7097 x7097 (k + 1) _ h7130 ⟨by omega, by omega, by omega, by omega, by assumption⟩ (by omega)
      · have c180 : k ≠ 0 := by have hh := mt (nI_eq (a := k) (b := 0) (by omega) (by omega)).mpr q180; omega
        refine m_lload F rfl e_X10_chance_183 ?_
        refine m_lload F rfl e_X10_chance_185 ?_
        refine m_lcmp F e_X10_chance_187 ?_
        refine Wm.top (fun x7132 _ => ?_)
        refine m_if_le F e_X10_chance_188 (fun q188 => ?_) (fun q188 => ?_)
        · refine m_lload F rfl e_X10_chance_196 ?_
          refine m_lstore F (lv' := [(6, .long w2), (4, .long x7099), (11, .long x7097), (0, .ref c), (2, .int (nI a)), (3, .int (nI b)), (8, .long w3), (10, .int (nI k))]) e_X10_chance_198 (by decide) rfl ?_
          refine m_iload F rfl e_X10_chance_200 ?_
          refine m_if_eq F e_X10_chance_202 (fun q202 => ?_) (fun q202 => ?_)
          · have c202 : k = 0 := (nI_eq (a := k) (b := 0) (by omega) (by omega)).mp q202
            refine m_lload F rfl e_X10_chance_213 ?_
            refine m_goto F e_X10_chance_215 ?_
            refine m_lstore F (lv' := [(8, .long x7097), (6, .long w2), (4, .long x7099), (11, .long x7097), (0, .ref c), (2, .int (nI a)), (3, .int (nI b)), (10, .int (nI k))]) e_X10_chance_220 (by decide) rfl ?_
            refine m_aload_n F rfl e_X10_chance_222 ?_
            refine r_get F e_X10_chance_223 fl_X10_66 h7096 rfl (fun v hv f7133 => ?_)
            obtain rfl : v = .ref (c + 18) := hv
            refine m_iconst F (v := 0) (by decide) e_X10_chance_226 ?_
            refine m_aload_n F rfl e_X10_chance_227 ?_
            refine r_get F e_X10_chance_228 fl_X10_59 h7096 rfl (fun v hv f7134 => ?_)
            obtain rfl : v = .ref (c + 16) := hv
            refine m_iconst F (v := 0) (by decide) e_X10_chance_231 ?_
            have xe7136 := ga7098
            obtain ⟨f7135, e7136, te7136⟩ := xe7136
            obtain ⟨g7137, e7138, te7138⟩ : ∃ f, σ7094 (c + 16) = some (aJ V 1113 f) ∧ _ := h7096.1.cell (k := 16) (by decide)
            refine m_callS F e_X10_chance_232 (q_copies (x_l X) V _ _ (c + 18) (c + 16) 1113 1113 0 0 f7135 g7137 e7136 e7138 (by omega) (by omega) (by omega) (by omega)) cb_X10_copies ml_X10_230 sm_X10_copies rfl (rest := []) rfl (Nat.le_of_ble_eq_true rfl) ⟨Nat.le_of_ble_eq_true rfl, Nat.le_of_ble_eq_true rfl⟩ ⟨Nat.le_of_ble_eq_true rfl, Nat.le_of_ble_eq_true rfl⟩ (k' := 0) (z' := 0) (N' := N) rfl rfl rfl (fun r σ7139 hp => ?_)
            obtain ⟨p7140, rfl⟩ := hp
            have h7141 := HS.cpS (L2 := L) (o := 0) h7096 (by decide) te7136 p7140
            have ga7142 := ga7098.of (p7140.2 _ (by omega))
            refine m_iinc F (v := nI (k + 1)) (lv' := [(10, .int (nI (k + 1))), (8, .long x7097), (6, .long w2), (4, .long x7099), (11, .long x7097), (0, .ref c), (2, .int (nI a)), (3, .int (nI b))]) e_X10_chance_235 rfl (nI_add k 1) (by decide) rfl ?_
            refine m_goto F e_X10_chance_238 ?_
            refine Wm.lvsub (lv' := [(0, .ref c), (2, .int (nI a)), (3, .int (nI b)), (4, .long x7099), (6, .long w2), (8, .long x7097), (10, .int (nI (k + 1)))]) ?_ [5, 6, 7, 3, 2, 1, 0] rfl
            exact hO a b x7099 w2 x7097 (k + 1) _ h7141 ⟨by omega, by omega, by omega, by omega, by assumption⟩ (by omega)
          · have c202 : k ≠ 0 := by have hh := mt (nI_eq (a := k) (b := 0) (by omega) (by omega)).mpr q202; omega
            refine m_lload F rfl e_X10_chance_205 ?_
            refine m_lload F rfl e_X10_chance_207 ?_
            refine m_lcmp F e_X10_chance_209 ?_
            refine Wm.top (fun x7143 _ => ?_)
            refine m_if_ge F e_X10_chance_210 (fun q210 => ?_) (fun q210 => ?_)
            · obtain ⟨n7144, hn7144, rfl⟩ := nI_nn (x := x7143) (fun e => Int32.lt_irrefl (Int32.lt_of_lt_of_le e (Int32.le_trans (by decide) q210)))
              have c210 : n7144 ≥ 0 := (nI_leI (a := 0) (b := n7144) (by omega) (by omega)).mp q210
              refine m_lload F rfl e_X10_chance_218 ?_
              refine m_lstore F (lv' := [(8, .long w3), (6, .long w2), (4, .long x7099), (11, .long x7097), (0, .ref c), (2, .int (nI a)), (3, .int (nI b)), (10, .int (nI k))]) e_X10_chance_220 (by decide) rfl ?_
              refine m_aload_n F rfl e_X10_chance_222 ?_
              refine r_get F e_X10_chance_223 fl_X10_66 h7096 rfl (fun v hv f7145 => ?_)
              obtain rfl : v = .ref (c + 18) := hv
              refine m_iconst F (v := 0) (by decide) e_X10_chance_226 ?_
              refine m_aload_n F rfl e_X10_chance_227 ?_
              refine r_get F e_X10_chance_228 fl_X10_59 h7096 rfl (fun v hv f7146 => ?_)
              obtain rfl : v = .ref (c + 16) := hv
              refine m_iconst F (v := 0) (by decide) e_X10_chance_231 ?_
              have xe7148 := ga7098
              obtain ⟨f7147, e7148, te7148⟩ := xe7148
              obtain ⟨g7149, e7150, te7150⟩ : ∃ f, σ7094 (c + 16) = some (aJ V 1113 f) ∧ _ := h7096.1.cell (k := 16) (by decide)
              refine m_callS F e_X10_chance_232 (q_copies (x_l X) V _ _ (c + 18) (c + 16) 1113 1113 0 0 f7147 g7149 e7148 e7150 (by omega) (by omega) (by omega) (by omega)) cb_X10_copies ml_X10_230 sm_X10_copies rfl (rest := []) rfl (Nat.le_of_ble_eq_true rfl) ⟨Nat.le_of_ble_eq_true rfl, Nat.le_of_ble_eq_true rfl⟩ ⟨Nat.le_of_ble_eq_true rfl, Nat.le_of_ble_eq_true rfl⟩ (k' := 0) (z' := 0) (N' := N) rfl rfl rfl (fun r σ7151 hp => ?_)
              obtain ⟨p7152, rfl⟩ := hp
              have h7153 := HS.cpS (L2 := L) (o := 0) h7096 (by decide) te7148 p7152
              have ga7154 := ga7098.of (p7152.2 _ (by omega))
              refine m_iinc F (v := nI (k + 1)) (lv' := [(10, .int (nI (k + 1))), (8, .long w3), (6, .long w2), (4, .long x7099), (11, .long x7097), (0, .ref c), (2, .int (nI a)), (3, .int (nI b))]) e_X10_chance_235 rfl (nI_add k 1) (by decide) rfl ?_
              refine m_goto F e_X10_chance_238 ?_
              refine Wm.lvsub (lv' := [(0, .ref c), (2, .int (nI a)), (3, .int (nI b)), (4, .long x7099), (6, .long w2), (8, .long w3), (10, .int (nI (k + 1)))]) ?_ [5, 6, 7, 3, 2, 1, 0] rfl
              exact hO a b x7099 w2 w3 (k + 1) _ h7153 ⟨by omega, by omega, by omega, by omega, by assumption⟩ (by omega)
            · refine m_lload F rfl e_X10_chance_213 ?_
              refine m_goto F e_X10_chance_215 ?_
              refine m_lstore F (lv' := [(8, .long x7097), (6, .long w2), (4, .long x7099), (11, .long x7097), (0, .ref c), (2, .int (nI a)), (3, .int (nI b)), (10, .int (nI k))]) e_X10_chance_220 (by decide) rfl ?_
              refine m_aload_n F rfl e_X10_chance_222 ?_
              refine r_get F e_X10_chance_223 fl_X10_66 h7096 rfl (fun v hv f7155 => ?_)
              obtain rfl : v = .ref (c + 18) := hv
              refine m_iconst F (v := 0) (by decide) e_X10_chance_226 ?_
              refine m_aload_n F rfl e_X10_chance_227 ?_
              refine r_get F e_X10_chance_228 fl_X10_59 h7096 rfl (fun v hv f7156 => ?_)
              obtain rfl : v = .ref (c + 16) := hv
              refine m_iconst F (v := 0) (by decide) e_X10_chance_231 ?_
              have xe7158 := ga7098
              obtain ⟨f7157, e7158, te7158⟩ := xe7158
              obtain ⟨g7159, e7160, te7160⟩ : ∃ f, σ7094 (c + 16) = some (aJ V 1113 f) ∧ _ := h7096.1.cell (k := 16) (by decide)
              refine m_callS F e_X10_chance_232 (q_copies (x_l X) V _ _ (c + 18) (c + 16) 1113 1113 0 0 f7157 g7159 e7158 e7160 (by omega) (by omega) (by omega) (by omega)) cb_X10_copies ml_X10_230 sm_X10_copies rfl (rest := []) rfl (Nat.le_of_ble_eq_true rfl) ⟨Nat.le_of_ble_eq_true rfl, Nat.le_of_ble_eq_true rfl⟩ ⟨Nat.le_of_ble_eq_true rfl, Nat.le_of_ble_eq_true rfl⟩ (k' := 0) (z' := 0) (N' := N) rfl rfl rfl (fun r σ7161 hp => ?_)
              obtain ⟨p7162, rfl⟩ := hp
              have h7163 := HS.cpS (L2 := L) (o := 0) h7096 (by decide) te7158 p7162
              have ga7164 := ga7098.of (p7162.2 _ (by omega))
              refine m_iinc F (v := nI (k + 1)) (lv' := [(10, .int (nI (k + 1))), (8, .long x7097), (6, .long w2), (4, .long x7099), (11, .long x7097), (0, .ref c), (2, .int (nI a)), (3, .int (nI b))]) e_X10_chance_235 rfl (nI_add k 1) (by decide) rfl ?_
              refine m_goto F e_X10_chance_238 ?_
              refine Wm.lvsub (lv' := [(0, .ref c), (2, .int (nI a)), (3, .int (nI b)), (4, .long x7099), (6, .long w2), (8, .long x7097), (10, .int (nI (k + 1)))]) ?_ [5, 6, 7, 3, 2, 1, 0] rfl
              exact hO a b x7099 w2 x7097 (k + 1) _ h7163 ⟨by omega, by omega, by omega, by omega, by assumption⟩ (by omega)
        · obtain ⟨n7165, hn7165, rfl⟩ := nI_nn (x := x7132) (fun e => q188 (Int32.le_trans (Int32.le_of_lt e) (by decide)))
          have c188 : n7165 > 0 := by have hh := mt (nI_leI (a := n7165) (b := 0) (by omega) (by omega)).mpr q188; omega
          refine m_lload F rfl e_X10_chance_191 ?_
          refine m_goto F e_X10_chance_193 ?_
          refine m_lstore F (lv' := [(6, .long x7097), (4, .long x7099), (11, .long x7097), (0, .ref c), (2, .int (nI a)), (3, .int (nI b)), (8, .long w3), (10, .int (nI k))]) e_X10_chance_198 (by decide) rfl ?_
          refine m_iload F rfl e_X10_chance_200 ?_
          refine m_if_eq F e_X10_chance_202 (fun q202 => ?_) (fun q202 => ?_)
          · have c202 : k = 0 := (nI_eq (a := k) (b := 0) (by omega) (by omega)).mp q202
            refine m_lload F rfl e_X10_chance_213 ?_
            refine m_goto F e_X10_chance_215 ?_
            refine m_lstore F (lv' := [(8, .long x7097), (6, .long x7097), (4, .long x7099), (11, .long x7097), (0, .ref c), (2, .int (nI a)), (3, .int (nI b)), (10, .int (nI k))]) e_X10_chance_220 (by decide) rfl ?_
            refine m_aload_n F rfl e_X10_chance_222 ?_
            refine r_get F e_X10_chance_223 fl_X10_66 h7096 rfl (fun v hv f7166 => ?_)
            obtain rfl : v = .ref (c + 18) := hv
            refine m_iconst F (v := 0) (by decide) e_X10_chance_226 ?_
            refine m_aload_n F rfl e_X10_chance_227 ?_
            refine r_get F e_X10_chance_228 fl_X10_59 h7096 rfl (fun v hv f7167 => ?_)
            obtain rfl : v = .ref (c + 16) := hv
            refine m_iconst F (v := 0) (by decide) e_X10_chance_231 ?_
            have xe7169 := ga7098
            obtain ⟨f7168, e7169, te7169⟩ := xe7169
            obtain ⟨g7170, e7171, te7171⟩ : ∃ f, σ7094 (c + 16) = some (aJ V 1113 f) ∧ _ := h7096.1.cell (k := 16) (by decide)
            refine m_callS F e_X10_chance_232 (q_copies (x_l X) V _ _ (c + 18) (c + 16) 1113 1113 0 0 f7168 g7170 e7169 e7171 (by omega) (by omega) (by omega) (by omega)) cb_X10_copies ml_X10_230 sm_X10_copies rfl (rest := []) rfl (Nat.le_of_ble_eq_true rfl) ⟨Nat.le_of_ble_eq_true rfl, Nat.le_of_ble_eq_true rfl⟩ ⟨Nat.le_of_ble_eq_true rfl, Nat.le_of_ble_eq_true rfl⟩ (k' := 0) (z' := 0) (N' := N) rfl rfl rfl (fun r σ7172 hp => ?_)
            obtain ⟨p7173, rfl⟩ := hp
            have h7174 := HS.cpS (L2 := L) (o := 0) h7096 (by decide) te7169 p7173
            have ga7175 := ga7098.of (p7173.2 _ (by omega))
            refine m_iinc F (v := nI (k + 1)) (lv' := [(10, .int (nI (k + 1))), (8, .long x7097), (6, .long x7097), (4, .long x7099), (11, .long x7097), (0, .ref c), (2, .int (nI a)), (3, .int (nI b))]) e_X10_chance_235 rfl (nI_add k 1) (by decide) rfl ?_
            refine m_goto F e_X10_chance_238 ?_
            refine Wm.lvsub (lv' := [(0, .ref c), (2, .int (nI a)), (3, .int (nI b)), (4, .long x7099), (6, .long x7097), (8, .long x7097), (10, .int (nI (k + 1)))]) ?_ [5, 6, 7, 3, 2, 1, 0] rfl
            exact hO a b x7099 x7097 x7097 (k + 1) _ h7174 ⟨by omega, by omega, by omega, by omega, by assumption⟩ (by omega)
          · have c202 : k ≠ 0 := by have hh := mt (nI_eq (a := k) (b := 0) (by omega) (by omega)).mpr q202; omega
            refine m_lload F rfl e_X10_chance_205 ?_
            refine m_lload F rfl e_X10_chance_207 ?_
            refine m_lcmp F e_X10_chance_209 ?_
            refine Wm.top (fun x7176 _ => ?_)
            refine m_if_ge F e_X10_chance_210 (fun q210 => ?_) (fun q210 => ?_)
            · obtain ⟨n7177, hn7177, rfl⟩ := nI_nn (x := x7176) (fun e => Int32.lt_irrefl (Int32.lt_of_lt_of_le e (Int32.le_trans (by decide) q210)))
              have c210 : n7177 ≥ 0 := (nI_leI (a := 0) (b := n7177) (by omega) (by omega)).mp q210
              refine m_lload F rfl e_X10_chance_218 ?_
              refine m_lstore F (lv' := [(8, .long w3), (6, .long x7097), (4, .long x7099), (11, .long x7097), (0, .ref c), (2, .int (nI a)), (3, .int (nI b)), (10, .int (nI k))]) e_X10_chance_220 (by decide) rfl ?_
              refine m_aload_n F rfl e_X10_chance_222 ?_
              refine r_get F e_X10_chance_223 fl_X10_66 h7096 rfl (fun v hv f7178 => ?_)
              obtain rfl : v = .ref (c + 18) := hv
              refine m_iconst F (v := 0) (by decide) e_X10_chance_226 ?_
              refine m_aload_n F rfl e_X10_chance_227 ?_
              refine r_get F e_X10_chance_228 fl_X10_59 h7096 rfl (fun v hv f7179 => ?_)
              obtain rfl : v = .ref (c + 16) := hv
              refine m_iconst F (v := 0) (by decide) e_X10_chance_231 ?_
              have xe7181 := ga7098
              obtain ⟨f7180, e7181, te7181⟩ := xe7181
              obtain ⟨g7182, e7183, te7183⟩ : ∃ f, σ7094 (c + 16) = some (aJ V 1113 f) ∧ _ := h7096.1.cell (k := 16) (by decide)
              refine m_callS F e_X10_chance_232 (q_copies (x_l X) V _ _ (c + 18) (c + 16) 1113 1113 0 0 f7180 g7182 e7181 e7183 (by omega) (by omega) (by omega) (by omega)) cb_X10_copies ml_X10_230 sm_X10_copies rfl (rest := []) rfl (Nat.le_of_ble_eq_true rfl) ⟨Nat.le_of_ble_eq_true rfl, Nat.le_of_ble_eq_true rfl⟩ ⟨Nat.le_of_ble_eq_true rfl, Nat.le_of_ble_eq_true rfl⟩ (k' := 0) (z' := 0) (N' := N) rfl rfl rfl (fun r σ7184 hp => ?_)
              obtain ⟨p7185, rfl⟩ := hp
              have h7186 := HS.cpS (L2 := L) (o := 0) h7096 (by decide) te7181 p7185
              have ga7187 := ga7098.of (p7185.2 _ (by omega))
              refine m_iinc F (v := nI (k + 1)) (lv' := [(10, .int (nI (k + 1))), (8, .long w3), (6, .long x7097), (4, .long x7099), (11, .long x7097), (0, .ref c), (2, .int (nI a)), (3, .int (nI b))]) e_X10_chance_235 rfl (nI_add k 1) (by decide) rfl ?_
              refine m_goto F e_X10_chance_238 ?_
              refine Wm.lvsub (lv' := [(0, .ref c), (2, .int (nI a)), (3, .int (nI b)), (4, .long x7099), (6, .long x7097), (8, .long w3), (10, .int (nI (k + 1)))]) ?_ [5, 6, 7, 3, 2, 1, 0] rfl
              exact hO a b x7099 x7097 w3 (k + 1) _ h7186 ⟨by omega, by omega, by omega, by omega, by assumption⟩ (by omega)
            · refine m_lload F rfl e_X10_chance_213 ?_
              refine m_goto F e_X10_chance_215 ?_
              refine m_lstore F (lv' := [(8, .long x7097), (6, .long x7097), (4, .long x7099), (11, .long x7097), (0, .ref c), (2, .int (nI a)), (3, .int (nI b)), (10, .int (nI k))]) e_X10_chance_220 (by decide) rfl ?_
              refine m_aload_n F rfl e_X10_chance_222 ?_
              refine r_get F e_X10_chance_223 fl_X10_66 h7096 rfl (fun v hv f7188 => ?_)
              obtain rfl : v = .ref (c + 18) := hv
              refine m_iconst F (v := 0) (by decide) e_X10_chance_226 ?_
              refine m_aload_n F rfl e_X10_chance_227 ?_
              refine r_get F e_X10_chance_228 fl_X10_59 h7096 rfl (fun v hv f7189 => ?_)
              obtain rfl : v = .ref (c + 16) := hv
              refine m_iconst F (v := 0) (by decide) e_X10_chance_231 ?_
              have xe7191 := ga7098
              obtain ⟨f7190, e7191, te7191⟩ := xe7191
              obtain ⟨g7192, e7193, te7193⟩ : ∃ f, σ7094 (c + 16) = some (aJ V 1113 f) ∧ _ := h7096.1.cell (k := 16) (by decide)
              refine m_callS F e_X10_chance_232 (q_copies (x_l X) V _ _ (c + 18) (c + 16) 1113 1113 0 0 f7190 g7192 e7191 e7193 (by omega) (by omega) (by omega) (by omega)) cb_X10_copies ml_X10_230 sm_X10_copies rfl (rest := []) rfl (Nat.le_of_ble_eq_true rfl) ⟨Nat.le_of_ble_eq_true rfl, Nat.le_of_ble_eq_true rfl⟩ ⟨Nat.le_of_ble_eq_true rfl, Nat.le_of_ble_eq_true rfl⟩ (k' := 0) (z' := 0) (N' := N) rfl rfl rfl (fun r σ7194 hp => ?_)
              obtain ⟨p7195, rfl⟩ := hp
              have h7196 := HS.cpS (L2 := L) (o := 0) h7096 (by decide) te7191 p7195
              have ga7197 := ga7098.of (p7195.2 _ (by omega))
              refine m_iinc F (v := nI (k + 1)) (lv' := [(10, .int (nI (k + 1))), (8, .long x7097), (6, .long x7097), (4, .long x7099), (11, .long x7097), (0, .ref c), (2, .int (nI a)), (3, .int (nI b))]) e_X10_chance_235 rfl (nI_add k 1) (by decide) rfl ?_
              refine m_goto F e_X10_chance_238 ?_
              refine Wm.lvsub (lv' := [(0, .ref c), (2, .int (nI a)), (3, .int (nI b)), (4, .long x7099), (6, .long x7097), (8, .long x7097), (10, .int (nI (k + 1)))]) ?_ [5, 6, 7, 3, 2, 1, 0] rfl
              exact hO a b x7099 x7097 x7097 (k + 1) _ h7196 ⟨by omega, by omega, by omega, by omega, by assumption⟩ (by omega)
    · have c129 : p < 12 := by have hh := mt (nI_leI (a := 12) (b := p) (by omega) (by omega)).mpr q129; omega
      refine m_aload_n F rfl e_X10_chance_132 ?_
      refine m_aload_n F rfl e_X10_chance_133 ?_
      refine r_callV F e_X10_chance_134 (q_X10_indexNow (x_l X) V c T Z u h P L1 _ _  h1.1 (hok1.b) hP ) cb_X10_indexNow ml_X10_260 im_X10_indexNow se_X10_indexNow h1 rfl rfl (rest := [.ref c]) rfl (Nat.le_of_ble_eq_true rfl) ⟨Nat.le_of_ble_eq_true rfl, Nat.le_of_ble_eq_true rfl⟩ ⟨Nat.le_of_ble_eq_true rfl, Nat.le_of_ble_eq_true rfl⟩ (fun r σ7198 hp => ?_)
      obtain ⟨h7199, n7201, hn7201, gn7201, rfl⟩ := hp
      have h7200 := HS.trans h1 h7199 (by decide)
      have ga7202 := ga0.of (h7199.2 (c + 18) (by rw [kC_at (k := 18) (by decide)]; decide))
      refine m_aload_n F rfl e_X10_chance_137 ?_
      refine m_bipush F (v := 21) (by decide) e_X10_chance_138 ?_
      refine r_callV F e_X10_chance_140 (q_X10_draw (x_l X) V c T Z u h P L1 _ _ 21 h7200.1 (hok1.b) hP (by omega) (by first | omega | assumption | decide)) cb_X10_draw ml_X10_364 im_X10_draw se_X10_draw h7200 rfl rfl (rest := [.long (lN n7201), .ref c]) rfl (Nat.le_of_ble_eq_true rfl) ⟨Nat.le_of_ble_eq_true rfl, Nat.le_of_ble_eq_true rfl⟩ ⟨Nat.le_of_ble_eq_true rfl, Nat.le_of_ble_eq_true rfl⟩ (fun r σ7203 hp => ?_)
      obtain ⟨h7204, x7206, rfl⟩ := hp
      have h7205 := HS.trans h7200 h7204 (by decide)
      have ga7207 := ga7202.of (h7204.2 (c + 18) (by rw [kC_at (k := 18) (by decide)]; decide))
      refine m_i2l F e_X10_chance_143 ?_
      refine Wm.topl (fun x7208 _ => ?_)
      refine m_ladd F e_X10_chance_144 ?_
      refine Wm.topl (fun x7209 _ => ?_)
      refine m_ldc2 F kc_X10_367 e_X10_chance_145 ?_
      refine m_lsub F e_X10_chance_148 ?_
      refine Wm.topl (fun x7210 _ => ?_)
      refine m_callS F e_X10_chance_149 (q_X10_held (x_l X) V _ _ x7210 ) cb_X10_held ml_X10_369 sm_X10_held rfl (rest := [.ref c]) rfl (Nat.le_of_ble_eq_true rfl) ⟨Nat.le_of_ble_eq_true rfl, Nat.le_of_ble_eq_true rfl⟩ ⟨Nat.le_of_ble_eq_true rfl, Nat.le_of_ble_eq_true rfl⟩ (k' := 0) (z' := 0) (N' := N) rfl rfl rfl (fun r σ7211 hp => ?_)
      obtain ⟨rfl, n7214, gn7214, hn7214, rfl⟩ := hp
      refine r_callV F e_X10_chance_152 (q_X10_becomes (x_l X) V c T Z u h P L1 _ _ n7214 h7205.1 (hok1.b) hP (by omega) (by first | omega | assumption | decide)) cb_X10_becomes ml_X10_322 im_X10_becomes se_X10_becomes h7205 rfl rfl (rest := []) rfl (Nat.le_of_ble_eq_true rfl) ⟨Nat.le_of_ble_eq_true rfl, Nat.le_of_ble_eq_true rfl⟩ ⟨Nat.le_of_ble_eq_true rfl, Nat.le_of_ble_eq_true rfl⟩ (fun r σ7215 hp => ?_)
      obtain ⟨h7216, rfl⟩ := hp
      have h7217 := HS.trans h7205 h7216 (by decide)
      have ga7218 := ga7207.of (h7216.2 (c + 18) (by rw [kC_at (k := 18) (by decide)]; decide))
      refine m_aload_n F rfl e_X10_chance_155 ?_
      refine r_callV F e_X10_chance_156 (q_X10_periodGoes (x_l X) V c T Z u h P L1 _ _  h7217.1 (hok1) hP (by first | omega | assumption | decide)) cb_X10_periodGoes ml_X10_289 im_X10_periodGoes se_X10_periodGoes h7217 rfl rfl (rest := []) rfl (Nat.le_of_ble_eq_true rfl) ⟨Nat.le_of_ble_eq_true rfl, Nat.le_of_ble_eq_true rfl⟩ ⟨Nat.le_of_ble_eq_true rfl, Nat.le_of_ble_eq_true rfl⟩ (fun r σ7219 hp => ?_)
      obtain ⟨L7222, okL7222, r7223, h7220, rfl⟩ := hp
      have h7221 := HS.trans h7217 h7220 (by decide)
      have ga7224 := ga7218.of (h7220.2 (c + 18) (by rw [kC_at (k := 18) (by decide)]; decide))
      refine m_iinc F (v := nI (p + 1)) (lv' := [(11, .int (nI (p + 1))), (0, .ref c), (2, .int (nI a)), (3, .int (nI b)), (4, .long w1), (6, .long w2), (8, .long w3), (10, .int (nI k))]) e_X10_chance_159 rfl (nI_add p 1) (by decide) rfl ?_
      refine m_goto F e_X10_chance_162 ?_
      refine Wm.lvsub (lv' := [(0, .ref c), (2, .int (nI a)), (3, .int (nI b)), (4, .long w1), (6, .long w2), (8, .long w3), (10, .int (nI k)), (11, .int (nI (p + 1)))]) ?_ [1, 2, 3, 4, 5, 6, 7, 0] rfl
      exact ih a b w1 w2 w3 k (p + 1) L7222 _ h7221 okL7222 ⟨by omega, by omega, by omega, by omega, by omega, by omega, by omega, by assumption⟩ (by omega)
set_option maxRecDepth 20000 in
theorem lq_X10_chance_116 {V : VX} {X : MX} {N : Nat} {σ : Mem} {c T Z u h : Nat} {P : NP} {L : Nat → LQ}   (F : Fx V X yX10_chance cX10_chance 13 (some .long) (rmd 4 0 0)) (hQ : Rt V X 0 0 N (fun r τ => HS V c (⟨T, Z, u, h, P, L⟩ : RG) [0, 2, 3, 4, 5, 6, 7, 8, 9, 10, 11, 12, 13, 14, 15, 16, 18, 20, 21, 22] σ τ ∧ ∃ x : Int64, r = some (.long x))) (hok : OKL P.n0 L) (hP : OKP P)   : ∀ (fuel : Nat) (a : Nat) (b : Nat) (w1 : Int64) (w2 : Int64) (w3 : Int64) (k : Nat) (τ : Mem), HS V c (⟨T, Z, u, h, P, L⟩ : RG) [0, 2, 3, 4, 5, 6, 7, 8, 9, 10, 11, 12, 13, 14, 15, 16, 18, 20, 21, 22] σ τ → a ≤ 10 ∧ b ≤ 2 ∧ k ≤ a ∧ (L 4).1 ≤ 87 ∧ GB V c 18 1113 0 L τ → a - k < fuel → Wm V X 13 N τ 0 0 116 [(0, .ref c), (2, .int (nI a)), (3, .int (nI b)), (4, .long w1), (6, .long w2), (8, .long w3), (10, .int (nI k))] [] := by
  intro fuel
  induction fuel with
  | zero => intros; rename_i hm; exact absurd hm (Nat.not_lt_zero _)
  | succ fuel ih =>
    intro a b w1 w2 w3 k τ h1 hi hm
    have hPP := hP
    unfold OKP at hPP
    have ga0 := hi.2.2.2.2
    refine m_iload F rfl e_X10_chance_116 ?_
    refine m_iload_n F rfl e_X10_chance_118 ?_
    refine m_icmp_ge F e_X10_chance_119 (fun q119 => ?_) (fun q119 => ?_)
    · have c119 : k ≥ a := (nI_leI (a := a) (b := k) (by omega) (by omega)).mp q119
      refine m_iload_n F rfl e_X10_chance_241 ?_
      refine m_if_ne F e_X10_chance_242 (fun q242 => ?_) (fun q242 => ?_)
      · have c242 : b ≠ 0 := by have hh := mt (nI_eq (a := b) (b := 0) (by omega) (by omega)).mpr q242; omega
        refine m_iload_n F rfl e_X10_chance_250 ?_
        refine m_iconst F (v := 1) (by decide) e_X10_chance_251 ?_
        refine m_icmp_ne F e_X10_chance_252 (fun q252 => ?_) (fun q252 => ?_)
        · have c252 : b ≠ 1 := by have hh := mt (nI_eq (a := b) (b := 1) (by omega) (by omega)).mpr q252; omega
          refine m_lload F rfl e_X10_chance_260 ?_
          exact m_lret F hQ e_X10_chance_262 (⟨h1, _, rfl⟩)
        · have c252 : b = 1 := (nI_eq (a := b) (b := 1) (by omega) (by omega)).mp q252
          refine m_lload F rfl e_X10_chance_255 ?_
          refine m_goto F e_X10_chance_257 ?_
          exact m_lret F hQ e_X10_chance_262 (⟨h1, _, rfl⟩)
      · have c242 : b = 0 := (nI_eq (a := b) (b := 0) (by omega) (by omega)).mp q242
        refine m_lload F rfl e_X10_chance_245 ?_
        refine m_goto F e_X10_chance_247 ?_
        exact m_lret F hQ e_X10_chance_262 (⟨h1, _, rfl⟩)
    · have c119 : k < a := by have hh := mt (nI_leI (a := a) (b := k) (by omega) (by omega)).mpr q119; omega
      refine m_iconst F (v := 0) (by decide) e_X10_chance_122 ?_
      refine m_istore F (lv' := [(11, .int 0), (0, .ref c), (2, .int (nI a)), (3, .int (nI b)), (4, .long w1), (6, .long w2), (8, .long w3), (10, .int (nI k))]) e_X10_chance_123 (by decide) rfl ?_
      refine Wm.lvsub (lv' := [(0, .ref c), (2, .int (nI a)), (3, .int (nI b)), (4, .long w1), (6, .long w2), (8, .long w3), (10, .int (nI k)), (11, .int 0)]) ?_ [1, 2, 3, 4, 5, 6, 7, 0] rfl
      exact lq_X10_chance_125 F hQ hok hP  ih (12 - 0 + 1) a b w1 w2 w3 k 0 L _ h1 hok ⟨by omega, by omega, by omega, by omega, by omega, by omega, by omega, by assumption⟩ (Nat.lt_succ_self _)
set_option maxRecDepth 20000 in
theorem q_X10_chance (l : Launch) (V : VX) (c T Z u h : Nat) (P : NP) (L : Nat → LQ) (N : Nat) (σ : Mem) (x901 : Int32) (x902 : Int32) (x903 : Int32) (h0 : HR V c ⟨T, Z, u, h, P, L⟩ σ) (hok : OKL P.n0 L) (hP : OKP P)  : Ct l V yX10_chance cX10_chance 13 (some .long) 4 0 0 N σ [.ref c, .int x901, .int x902, .int x903] (fun r τ => HS V c (⟨T, Z, u, h, P, L⟩ : RG) [0, 2, 3, 4, 5, 6, 7, 8, 9, 10, 11, 12, 13, 14, 15, 16, 18, 20, 21, 22] σ τ ∧ ∃ x : Int64, r = some (.long x)) := by
  refine Ct.of (by decide) (Nat.le_of_ble_eq_true rfl) [(0, .ref c), (1, .int x901), (2, .int x902), (3, .int x903)] rfl (fun X hX F hQ => ?_)
  have hPP := hP
  unfold OKP at hPP
  have h1 : HS V c ⟨T, Z, u, h, P, L⟩ [0, 2, 3, 4, 5, 6, 7, 8, 9, 10, 11, 12, 13, 14, 15, 16, 18, 20, 21, 22] σ σ := HS.start h0
  refine m_aload_n F rfl e_X10_chance_0 ?_
  refine m_iconst F (v := 0) (by decide) e_X10_chance_1 ?_
  refine r_put F (g' := (⟨T, Z, u, h, P, L⟩ : RG)) e_X10_chance_2 fp_X10_91 h1 (by decide) ⟨_, rfl⟩ (fun _ _ _ _ q => q) (fun _ _ _ q => q) rfl rfl (by decide) (fun σ7225 h7226 g7227 g7228 f7229 => ?_)
  refine m_iload_n F rfl e_X10_chance_5 ?_
  refine m_iconst F (v := (-1)) (by decide) e_X10_chance_6 ?_
  refine m_icmp_lt F e_X10_chance_7 (fun q7 => ?_) (fun q7 => ?_)
  · refine m_ldc2 F kc_X10_245 e_X10_chance_30 ?_
    exact m_lret F hQ e_X10_chance_33 (⟨h7226, _, rfl⟩)
  · refine m_iload_n F rfl e_X10_chance_10 ?_
    refine m_iconst F (v := 1) (by decide) e_X10_chance_11 ?_
    refine m_icmp_lt F e_X10_chance_12 (fun q12 => ?_) (fun q12 => ?_)
    · refine m_ldc2 F kc_X10_245 e_X10_chance_30 ?_
      exact m_lret F hQ e_X10_chance_33 (⟨h7226, _, rfl⟩)
    · obtain ⟨n7230, hn7230, rfl⟩ := nI_nn (x := x902) (fun e => q12 (Int32.lt_of_lt_of_le e (by decide)))
      have c12 : n7230 ≥ 1 := by have hh := mt (nI_ltI (a := n7230) (b := 1) (by omega) (by omega)).mpr q12; omega
      refine m_iload_n F rfl e_X10_chance_15 ?_
      refine m_bipush F (v := 10) (by decide) e_X10_chance_16 ?_
      refine m_icmp_gt F e_X10_chance_18 (fun q18 => ?_) (fun q18 => ?_)
      · have c18 : n7230 > 10 := (nI_ltI (a := 10) (b := n7230) (by omega) (by omega)).mp q18
        refine m_ldc2 F kc_X10_245 e_X10_chance_30 ?_
        exact m_lret F hQ e_X10_chance_33 (⟨h7226, _, rfl⟩)
      · have c18 : n7230 ≤ 10 := by have hh := mt (nI_ltI (a := 10) (b := n7230) (by omega) (by omega)).mpr q18; omega
        refine m_iload_n F rfl e_X10_chance_21 ?_
        refine m_if_lt F e_X10_chance_22 (fun q22 => ?_) (fun q22 => ?_)
        · refine m_ldc2 F kc_X10_245 e_X10_chance_30 ?_
          exact m_lret F hQ e_X10_chance_33 (⟨h7226, _, rfl⟩)
        · obtain ⟨n7231, hn7231, rfl⟩ := nI_nn (x := x903) (fun e => q22 (Int32.lt_of_lt_of_le e (by decide)))
          have c22 : n7231 ≥ 0 := by have hh := mt (nI_ltI (a := n7231) (b := 0) (by omega) (by omega)).mpr q22; omega
          refine m_iload_n F rfl e_X10_chance_25 ?_
          refine m_iconst F (v := 2) (by decide) e_X10_chance_26 ?_
          refine m_icmp_le F e_X10_chance_27 (fun q27 => ?_) (fun q27 => ?_)
          · have c27 : n7231 ≤ 2 := (nI_leI (a := n7231) (b := 2) (by omega) (by omega)).mp q27
            refine m_aload_n F rfl e_X10_chance_34 ?_
            refine r_get F e_X10_chance_35 fl_X10_59 h7226 rfl (fun v hv f7232 => ?_)
            obtain rfl : v = .ref (c + 16) := hv
            refine m_sipush F (v := 744) (by decide) e_X10_chance_38 ?_
            refine r_sld F (j := 744) e_X10_chance_41 h7226 (by decide) (by unfold vp_in; decide) (fun x7233 h7234 f7235 => ?_)
            have hl7236 := hok.1
            obtain rfl : x7233 = lN (L 4).1 := EJ_p.mp h7234
            refine m_ldc2 F kc_X10_362 e_X10_chance_42 ?_
            refine m_ladd F e_X10_chance_45 ?_
            refine Wm.toplE (w := lN ((L 4).1 + 12)) (lN_add ((L 4).1) 12) ?_
            refine m_ldc2 F kc_X10_284 e_X10_chance_46 ?_
            refine m_lcmp F e_X10_chance_49 ?_
            refine m_if_le F e_X10_chance_50 (fun q50 => ?_) (fun q50 => ?_)
            · have c50 : ((L 4).1 + 12) ≤ 99 := (lN_le (a := ((L 4).1 + 12)) (b := 99) (by omega) (by omega)).mp ((lg_cmp_le _ _).mp q50)
              refine m_aload_n F rfl e_X10_chance_57 ?_
              refine m_iload_n F rfl e_X10_chance_58 ?_
              refine m_iconst F (v := (-1)) (by decide) e_X10_chance_59 ?_
              refine m_icmp_ne F e_X10_chance_60 (fun q60 => ?_) (fun q60 => ?_)
              · refine m_iload_n F rfl e_X10_chance_87 ?_
                refine r_put F (g' := (⟨T, Z, u, h, P, L⟩ : RG)) e_X10_chance_88 fp_X10_353 h7226 (by decide) ⟨_, rfl⟩ (fun _ _ _ _ q => q) (fun _ _ _ q => q) rfl rfl (by decide) (fun σ7237 h7238 g7239 g7240 f7241 => ?_)
                refine m_lconst F (v := 0) (by decide) e_X10_chance_91 ?_
                refine m_lstore F (lv' := [(4, .long 0), (0, .ref c), (1, .int x901), (2, .int (nI n7230)), (3, .int (nI n7231))]) e_X10_chance_92 (by decide) rfl ?_
                refine m_lconst F (v := 0) (by decide) e_X10_chance_94 ?_
                refine m_lstore F (lv' := [(6, .long 0), (4, .long 0), (0, .ref c), (1, .int x901), (2, .int (nI n7230)), (3, .int (nI n7231))]) e_X10_chance_95 (by decide) rfl ?_
                refine m_lconst F (v := 0) (by decide) e_X10_chance_97 ?_
                refine m_lstore F (lv' := [(8, .long 0), (6, .long 0), (4, .long 0), (0, .ref c), (1, .int x901), (2, .int (nI n7230)), (3, .int (nI n7231))]) e_X10_chance_98 (by decide) rfl ?_
                refine m_aload_n F rfl e_X10_chance_100 ?_
                refine r_getC F e_X10_chance_101 fl_X10_59 h7238 ((g7240 27 (by decide)).trans f7232) ?_
                refine m_iconst F (v := 0) (by decide) e_X10_chance_104 ?_
                refine m_aload_n F rfl e_X10_chance_105 ?_
                refine r_get F e_X10_chance_106 fl_X10_66 h7238 rfl (fun v hv f7242 => ?_)
                obtain rfl : v = .ref (c + 18) := hv
                refine m_iconst F (v := 0) (by decide) e_X10_chance_109 ?_
                obtain ⟨f7243, e7244, te7244⟩ : ∃ f, σ7237 (c + 16) = some (aJ V 1113 f) ∧ ∀ i, i < 1113 → EJ L i (f i) := h7238.1.cell (k := 16) (by decide)
                obtain ⟨g7245, e7246⟩ : ∃ f, σ7237 (c + 18) = some (aJ V 1113 f) := h7238.1.cell (k := 18) (by decide)
                refine m_callS F e_X10_chance_110 (q_copies (x_l X) V _ _ (c + 16) (c + 18) 1113 1113 0 0 f7243 g7245 e7244 e7246 (by omega) (by omega) (by omega) (by omega)) cb_X10_copies ml_X10_230 sm_X10_copies rfl (rest := []) rfl (Nat.le_of_ble_eq_true rfl) ⟨Nat.le_of_ble_eq_true rfl, Nat.le_of_ble_eq_true rfl⟩ ⟨Nat.le_of_ble_eq_true rfl, Nat.le_of_ble_eq_true rfl⟩ (k' := 0) (z' := 0) (N' := N) rfl rfl rfl (fun r σ7247 hp => ?_)
                obtain ⟨p7248, rfl⟩ := hp
                have h7249 := HS.cp (k := 18) (g' := (⟨T, Z, u, h, P, L⟩ : RG)) h7238 p7248 (by decide) (by decide) ⟨_, rfl⟩ (fun _ _ _ q => q)
                have ga7250 : GB V c 18 1113 0 L σ7247 := ⟨_, p7248.1, fun i hi => by rw [show 0 + i = i from Nat.zero_add i, cpy_at0 hi, Nat.zero_add]; exact te7244 i hi⟩
                refine m_iconst F (v := 0) (by decide) e_X10_chance_113 ?_
                refine m_istore F (lv' := [(10, .int 0), (8, .long 0), (6, .long 0), (4, .long 0), (0, .ref c), (1, .int x901), (2, .int (nI n7230)), (3, .int (nI n7231))]) e_X10_chance_114 (by decide) rfl ?_
                refine Wm.lvsub (lv' := [(0, .ref c), (2, .int (nI n7230)), (3, .int (nI n7231)), (4, .long 0), (6, .long 0), (8, .long 0), (10, .int 0)]) ?_ [4, 6, 7, 3, 2, 1, 0] rfl
                exact lq_X10_chance_116 F hQ hok hP  (n7230 - 0 + 1) n7230 n7231 0 0 0 0 _ h7249 ⟨by omega, by omega, by omega, by omega, by assumption⟩ (Nat.lt_succ_self _)
              · subst q60
                refine m_aload_n F rfl e_X10_chance_63 ?_
                refine r_get F e_X10_chance_64 fl_X10_13 h7226 rfl (fun v hv f7251 => ?_)
                obtain rfl : v = .ref (c + 2) := hv
                refine m_iconst F (v := 4) (by decide) e_X10_chance_67 ?_
                refine r_iald F (len := 10) (j := 4) e_X10_chance_68 h7226 (fun _ h => h) (by decide) (by decide) (by unfold vp_in; decide) (fun x7252 h7253 f7254 => ?_)
                refine m_if_ne F e_X10_chance_69 (fun q69 => ?_) (fun q69 => ?_)
                · refine m_aload_n F rfl e_X10_chance_76 ?_
                  refine r_getC F e_X10_chance_77 fl_X10_13 h7226 (f7251) ?_
                  refine m_iconst F (v := 4) (by decide) e_X10_chance_80 ?_
                  refine r_iald F (len := 10) (j := 4) e_X10_chance_81 h7226 (fun _ h => h) (by decide) (by decide) (by unfold vp_in; decide) (fun x7255 h7256 f7257 => ?_)
                  obtain rfl := Option.some.inj ((f7257).symm.trans (f7254))
                  refine m_iconst F (v := 1) (by decide) e_X10_chance_82 ?_
                  refine m_isub F e_X10_chance_83 ?_
                  refine Wm.top (fun x7258 _ => ?_)
                  refine m_goto F e_X10_chance_84 ?_
                  refine r_put F (g' := (⟨T, Z, u, h, P, L⟩ : RG)) e_X10_chance_88 fp_X10_353 h7226 (by decide) ⟨_, rfl⟩ (fun _ _ _ _ q => q) (fun _ _ _ q => q) rfl rfl (by decide) (fun σ7259 h7260 g7261 g7262 f7263 => ?_)
                  refine m_lconst F (v := 0) (by decide) e_X10_chance_91 ?_
                  refine m_lstore F (lv' := [(4, .long 0), (0, .ref c), (1, .int (-1)), (2, .int (nI n7230)), (3, .int (nI n7231))]) e_X10_chance_92 (by decide) rfl ?_
                  refine m_lconst F (v := 0) (by decide) e_X10_chance_94 ?_
                  refine m_lstore F (lv' := [(6, .long 0), (4, .long 0), (0, .ref c), (1, .int (-1)), (2, .int (nI n7230)), (3, .int (nI n7231))]) e_X10_chance_95 (by decide) rfl ?_
                  refine m_lconst F (v := 0) (by decide) e_X10_chance_97 ?_
                  refine m_lstore F (lv' := [(8, .long 0), (6, .long 0), (4, .long 0), (0, .ref c), (1, .int (-1)), (2, .int (nI n7230)), (3, .int (nI n7231))]) e_X10_chance_98 (by decide) rfl ?_
                  refine m_aload_n F rfl e_X10_chance_100 ?_
                  refine r_getC F e_X10_chance_101 fl_X10_59 h7260 ((g7262 27 (by decide)).trans f7232) ?_
                  refine m_iconst F (v := 0) (by decide) e_X10_chance_104 ?_
                  refine m_aload_n F rfl e_X10_chance_105 ?_
                  refine r_get F e_X10_chance_106 fl_X10_66 h7260 rfl (fun v hv f7264 => ?_)
                  obtain rfl : v = .ref (c + 18) := hv
                  refine m_iconst F (v := 0) (by decide) e_X10_chance_109 ?_
                  obtain ⟨f7265, e7266, te7266⟩ : ∃ f, σ7259 (c + 16) = some (aJ V 1113 f) ∧ ∀ i, i < 1113 → EJ L i (f i) := h7260.1.cell (k := 16) (by decide)
                  obtain ⟨g7267, e7268⟩ : ∃ f, σ7259 (c + 18) = some (aJ V 1113 f) := h7260.1.cell (k := 18) (by decide)
                  refine m_callS F e_X10_chance_110 (q_copies (x_l X) V _ _ (c + 16) (c + 18) 1113 1113 0 0 f7265 g7267 e7266 e7268 (by omega) (by omega) (by omega) (by omega)) cb_X10_copies ml_X10_230 sm_X10_copies rfl (rest := []) rfl (Nat.le_of_ble_eq_true rfl) ⟨Nat.le_of_ble_eq_true rfl, Nat.le_of_ble_eq_true rfl⟩ ⟨Nat.le_of_ble_eq_true rfl, Nat.le_of_ble_eq_true rfl⟩ (k' := 0) (z' := 0) (N' := N) rfl rfl rfl (fun r σ7269 hp => ?_)
                  obtain ⟨p7270, rfl⟩ := hp
                  have h7271 := HS.cp (k := 18) (g' := (⟨T, Z, u, h, P, L⟩ : RG)) h7260 p7270 (by decide) (by decide) ⟨_, rfl⟩ (fun _ _ _ q => q)
                  have ga7272 : GB V c 18 1113 0 L σ7269 := ⟨_, p7270.1, fun i hi => by rw [show 0 + i = i from Nat.zero_add i, cpy_at0 hi, Nat.zero_add]; exact te7266 i hi⟩
                  refine m_iconst F (v := 0) (by decide) e_X10_chance_113 ?_
                  refine m_istore F (lv' := [(10, .int 0), (8, .long 0), (6, .long 0), (4, .long 0), (0, .ref c), (1, .int (-1)), (2, .int (nI n7230)), (3, .int (nI n7231))]) e_X10_chance_114 (by decide) rfl ?_
                  refine Wm.lvsub (lv' := [(0, .ref c), (2, .int (nI n7230)), (3, .int (nI n7231)), (4, .long 0), (6, .long 0), (8, .long 0), (10, .int 0)]) ?_ [4, 6, 7, 3, 2, 1, 0] rfl
                  exact lq_X10_chance_116 F hQ hok hP  (n7230 - 0 + 1) n7230 n7231 0 0 0 0 _ h7271 ⟨by omega, by omega, by omega, by omega, by assumption⟩ (Nat.lt_succ_self _)
                · subst q69
                  refine m_iconst F (v := 0) (by decide) e_X10_chance_72 ?_
                  refine m_goto F e_X10_chance_73 ?_
                  refine r_put F (g' := (⟨T, Z, u, h, P, L⟩ : RG)) e_X10_chance_88 fp_X10_353 h7226 (by decide) ⟨_, rfl⟩ (fun _ _ _ _ q => q) (fun _ _ _ q => q) rfl rfl (by decide) (fun σ7273 h7274 g7275 g7276 f7277 => ?_)
                  refine m_lconst F (v := 0) (by decide) e_X10_chance_91 ?_
                  refine m_lstore F (lv' := [(4, .long 0), (0, .ref c), (1, .int (-1)), (2, .int (nI n7230)), (3, .int (nI n7231))]) e_X10_chance_92 (by decide) rfl ?_
                  refine m_lconst F (v := 0) (by decide) e_X10_chance_94 ?_
                  refine m_lstore F (lv' := [(6, .long 0), (4, .long 0), (0, .ref c), (1, .int (-1)), (2, .int (nI n7230)), (3, .int (nI n7231))]) e_X10_chance_95 (by decide) rfl ?_
                  refine m_lconst F (v := 0) (by decide) e_X10_chance_97 ?_
                  refine m_lstore F (lv' := [(8, .long 0), (6, .long 0), (4, .long 0), (0, .ref c), (1, .int (-1)), (2, .int (nI n7230)), (3, .int (nI n7231))]) e_X10_chance_98 (by decide) rfl ?_
                  refine m_aload_n F rfl e_X10_chance_100 ?_
                  refine r_getC F e_X10_chance_101 fl_X10_59 h7274 ((g7276 27 (by decide)).trans f7232) ?_
                  refine m_iconst F (v := 0) (by decide) e_X10_chance_104 ?_
                  refine m_aload_n F rfl e_X10_chance_105 ?_
                  refine r_get F e_X10_chance_106 fl_X10_66 h7274 rfl (fun v hv f7278 => ?_)
                  obtain rfl : v = .ref (c + 18) := hv
                  refine m_iconst F (v := 0) (by decide) e_X10_chance_109 ?_
                  obtain ⟨f7279, e7280, te7280⟩ : ∃ f, σ7273 (c + 16) = some (aJ V 1113 f) ∧ ∀ i, i < 1113 → EJ L i (f i) := h7274.1.cell (k := 16) (by decide)
                  obtain ⟨g7281, e7282⟩ : ∃ f, σ7273 (c + 18) = some (aJ V 1113 f) := h7274.1.cell (k := 18) (by decide)
                  refine m_callS F e_X10_chance_110 (q_copies (x_l X) V _ _ (c + 16) (c + 18) 1113 1113 0 0 f7279 g7281 e7280 e7282 (by omega) (by omega) (by omega) (by omega)) cb_X10_copies ml_X10_230 sm_X10_copies rfl (rest := []) rfl (Nat.le_of_ble_eq_true rfl) ⟨Nat.le_of_ble_eq_true rfl, Nat.le_of_ble_eq_true rfl⟩ ⟨Nat.le_of_ble_eq_true rfl, Nat.le_of_ble_eq_true rfl⟩ (k' := 0) (z' := 0) (N' := N) rfl rfl rfl (fun r σ7283 hp => ?_)
                  obtain ⟨p7284, rfl⟩ := hp
                  have h7285 := HS.cp (k := 18) (g' := (⟨T, Z, u, h, P, L⟩ : RG)) h7274 p7284 (by decide) (by decide) ⟨_, rfl⟩ (fun _ _ _ q => q)
                  have ga7286 : GB V c 18 1113 0 L σ7283 := ⟨_, p7284.1, fun i hi => by rw [show 0 + i = i from Nat.zero_add i, cpy_at0 hi, Nat.zero_add]; exact te7280 i hi⟩
                  refine m_iconst F (v := 0) (by decide) e_X10_chance_113 ?_
                  refine m_istore F (lv' := [(10, .int 0), (8, .long 0), (6, .long 0), (4, .long 0), (0, .ref c), (1, .int (-1)), (2, .int (nI n7230)), (3, .int (nI n7231))]) e_X10_chance_114 (by decide) rfl ?_
                  refine Wm.lvsub (lv' := [(0, .ref c), (2, .int (nI n7230)), (3, .int (nI n7231)), (4, .long 0), (6, .long 0), (8, .long 0), (10, .int 0)]) ?_ [4, 6, 7, 3, 2, 1, 0] rfl
                  exact lq_X10_chance_116 F hQ hok hP  (n7230 - 0 + 1) n7230 n7231 0 0 0 0 _ h7285 ⟨by omega, by omega, by omega, by omega, by assumption⟩ (Nat.lt_succ_self _)
            · have c50 : ((L 4).1 + 12) > 99 := by have hh := mt (fun h9 => (lg_cmp_le (lN ((L 4).1 + 12)) (lN 99)).mpr ((lN_le (a := ((L 4).1 + 12)) (b := 99) (by omega) (by omega)).mpr h9)) q50; omega
              refine m_ldc2 F kc_X10_338 e_X10_chance_53 ?_
              exact m_lret F hQ e_X10_chance_56 (⟨h7226, _, rfl⟩)
          · have c27 : n7231 > 2 := by have hh := mt (nI_leI (a := n7231) (b := 2) (by omega) (by omega)).mpr q27; omega
            refine m_ldc2 F kc_X10_245 e_X10_chance_30 ?_
            exact m_lret F hQ e_X10_chance_33 (⟨h7226, _, rfl⟩)
set_option maxRecDepth 20000 in
theorem q_X10_undo (l : Launch) (V : VX) (c T Z u h : Nat) (P : NP) (L : Nat → LQ) (N : Nat) (σ : Mem)  (h0 : HR V c ⟨T, Z, u, h, P, L⟩ σ) (hok : OKL P.n0 L) (hP : OKP P) (hp0 : u ≤ 20) (hp1 : P.kk = P.n0) : Ct l V yX10_undo cX10_undo 1 (some .int) 1 0 0 N σ [.ref c] (fun r τ => ∃ u9, u9 ≤ 20 ∧ ∃ L9, OKL P.n0 L9 ∧ HS V c (⟨T, Z, u9, h, P, L9⟩ : RG) [0, 2, 3, 4, 5, 6, 7, 8, 9, 10, 11, 12, 13, 14, 15, 16, 18, 19, 20, 21, 22, 23] σ τ ∧ ∃ x : Int32, r = some (.int x)) := by
  refine Ct.of (by decide) (Nat.le_of_ble_eq_true rfl) [(0, .ref c)] rfl (fun X hX F hQ => ?_)
  have hPP := hP
  unfold OKP at hPP
  have h1 : HS V c ⟨T, Z, u, h, P, L⟩ [0, 2, 3, 4, 5, 6, 7, 8, 9, 10, 11, 12, 13, 14, 15, 16, 18, 19, 20, 21, 22, 23] σ σ := HS.start h0
  refine m_aload_n F rfl e_X10_undo_0 ?_
  refine m_iconst F (v := 0) (by decide) e_X10_undo_1 ?_
  refine r_put F (g' := (⟨T, Z, u, h, P, L⟩ : RG)) e_X10_undo_2 fp_X10_91 h1 (by decide) ⟨_, rfl⟩ (fun _ _ _ _ q => q) (fun _ _ _ q => q) rfl rfl (by decide) (fun σ7287 h7288 g7289 g7290 f7291 => ?_)
  refine m_aload_n F rfl e_X10_undo_5 ?_
  refine r_get F e_X10_undo_6 fl_X10_214 h7288 rfl (fun v hv f7292 => ?_)
  obtain rfl : v = .int (nI (u)) := hv
  refine m_if_ne F e_X10_undo_9 (fun q9 => ?_) (fun q9 => ?_)
  · have c9 : u ≠ 0 := by have hh := mt (nI_eq (a := u) (b := 0) (by omega) (by omega)).mpr q9; omega
    obtain ⟨kf, ke, kg⟩ : ∃ f, σ7287 (c + 20) = some (aJ V 22260 f) ∧ ∀ j, j < u → GR P.kk (fun i => f (1113 * j + i)) := h7288.1.cell (k := 20) (by decide)
    obtain ⟨L8, ok8, t8⟩ := kg (u - 1) (by omega)
    rw [hp1] at ok8
    have ga7293 : GB V c 20 22260 (1113 * (u - 1)) L8 σ7287 := ⟨kf, ke, t8⟩
    obtain ⟨kf, ke, kg⟩ : ∃ f, σ7287 (c + 20) = some (aJ V 22260 f) ∧ ∀ j, j < u → GR P.kk (fun i => f (1113 * j + i)) := h7288.1.cell (k := 20) (by decide)
    obtain ⟨L8, ok8, t8⟩ := kg (u - 1) (by omega)
    rw [hp1] at ok8
    have ga7294 : GB V c 20 22260 (1113 * (u - 1)) L8 σ7287 := ⟨kf, ke, t8⟩
    obtain ⟨kf, ke, kg⟩ : ∃ f, σ7287 (c + 20) = some (aJ V 22260 f) ∧ ∀ j, j < u → GR P.kk (fun i => f (1113 * j + i)) := h7288.1.cell (k := 20) (by decide)
    obtain ⟨L8, ok8, t8⟩ := kg (u - 1) (by omega)
    rw [hp1] at ok8
    have ga7295 : GB V c 20 22260 (1113 * (u - 1)) L8 σ7287 := ⟨kf, ke, t8⟩
    refine m_aload_n F rfl e_X10_undo_14 ?_
    refine m_dup F rfl e_X10_undo_15 ?_
    refine r_getC F e_X10_undo_16 fl_X10_214 h7288 (f7292) ?_
    refine m_iconst F (v := 1) (by decide) e_X10_undo_19 ?_
    refine m_isub F e_X10_undo_20 ?_
    refine Wm.topE (w := nI (u - 1)) (pk_sub (a := u) (b := 1) (by omega)) ?_
    refine r_put F (g' := (⟨T, Z, u - 1, h, P, L⟩ : RG)) e_X10_undo_21 fp_X10_214 h7288 (by decide) rfl ctl_u (CR.und (by omega)) rfl rfl (by decide) (fun σ7296 h7297 g7298 g7299 f7300 => ?_)
    have ga7301 := ga7295.of (g7298 _ (by omega))
    refine m_aload_n F rfl e_X10_undo_24 ?_
    refine r_get F e_X10_undo_25 fl_X10_72 h7297 rfl (fun v hv f7302 => ?_)
    obtain rfl : v = .ref (c + 20) := hv
    refine m_sipush F (v := 1113) (by decide) e_X10_undo_28 ?_
    refine m_aload_n F rfl e_X10_undo_31 ?_
    refine r_getC F e_X10_undo_32 fl_X10_214 h7297 (f7300) ?_
    refine m_imul F e_X10_undo_35 ?_
    refine Wm.topE (w := nI (1113 * (u - 1))) (pk_mul 1113 (u - 1)) ?_
    refine m_aload_n F rfl e_X10_undo_36 ?_
    refine r_get F e_X10_undo_37 fl_X10_59 h7297 rfl (fun v hv f7303 => ?_)
    obtain rfl : v = .ref (c + 16) := hv
    refine m_iconst F (v := 0) (by decide) e_X10_undo_40 ?_
    have xe7305 := ga7301
    obtain ⟨f7304, e7305, te7305⟩ := xe7305
    obtain ⟨g7306, e7307, te7307⟩ : ∃ f, σ7296 (c + 16) = some (aJ V 1113 f) ∧ _ := h7297.1.cell (k := 16) (by decide)
    refine m_callS F e_X10_undo_41 (q_copies (x_l X) V _ _ (c + 20) (c + 16) 22260 1113 (1113 * (u - 1)) 0 f7304 g7306 e7305 e7307 (by omega) (by omega) (by omega) (by omega)) cb_X10_copies ml_X10_230 sm_X10_copies rfl (rest := []) rfl (Nat.le_of_ble_eq_true rfl) ⟨Nat.le_of_ble_eq_true rfl, Nat.le_of_ble_eq_true rfl⟩ ⟨Nat.le_of_ble_eq_true rfl, Nat.le_of_ble_eq_true rfl⟩ (k' := 0) (z' := 0) (N' := N) rfl rfl rfl (fun r σ7308 hp => ?_)
    obtain ⟨p7309, rfl⟩ := hp
    have h7310 := HS.cpS (L2 := L8) (o := 1113 * (u - 1)) h7297 (by decide) te7305 p7309
    have ga7311 := ga7301.of (p7309.2 _ (by omega))
    refine m_aload_n F rfl e_X10_undo_44 ?_
    refine r_getC F e_X10_undo_45 fl_X10_214 h7310 ((fld_eq (p7309.2 _ (by omega))).trans f7300) ?_
    exact m_iret F hQ e_X10_undo_48 (⟨u - 1, by omega, L8, ok8, h7310, _, rfl⟩)
  · have c9 : u = 0 := (nI_eq (a := u) (b := 0) (by omega) (by omega)).mp q9
    refine m_iconst F (v := (-1)) (by decide) e_X10_undo_12 ?_
    exact m_iret F hQ e_X10_undo_13 (⟨u, by omega, L, hok, h7288, _, rfl⟩)
set_option maxRecDepth 20000 in
theorem q_X10_keep (l : Launch) (V : VX) (c T Z u h : Nat) (P : NP) (L : Nat → LQ) (N : Nat) (σ : Mem)  (h0 : HR V c ⟨T, Z, u, h, P, L⟩ σ) (hok : OKL P.n0 L) (hP : OKP P) (hp0 : P.kk = P.n0) : Ct l V yX10_keep cX10_keep 1 (some .int) 1 0 0 N σ [.ref c] (fun r τ => HS V c (⟨T, Z, u, 1, P, L⟩ : RG) [0, 2, 3, 4, 5, 6, 7, 8, 9, 10, 11, 12, 13, 14, 15, 16, 17, 18, 19, 21, 22, 23] σ τ ∧ ∃ x : Int32, r = some (.int x)) := by
  refine Ct.of (by decide) (Nat.le_of_ble_eq_true rfl) [(0, .ref c)] rfl (fun X hX F hQ => ?_)
  have hPP := hP
  unfold OKP at hPP
  have h1 : HS V c ⟨T, Z, u, h, P, L⟩ [0, 2, 3, 4, 5, 6, 7, 8, 9, 10, 11, 12, 13, 14, 15, 16, 17, 18, 19, 21, 22, 23] σ σ := HS.start h0
  have hkk := hp0
  refine m_aload_n F rfl e_X10_keep_0 ?_
  refine m_iconst F (v := 0) (by decide) e_X10_keep_1 ?_
  refine r_put F (g' := (⟨T, Z, u, h, P, L⟩ : RG)) e_X10_keep_2 fp_X10_91 h1 (by decide) ⟨_, rfl⟩ (fun _ _ _ _ q => q) (fun _ _ _ q => q) rfl rfl (by decide) (fun σ7312 h7313 g7314 g7315 f7316 => ?_)
  refine m_aload_n F rfl e_X10_keep_5 ?_
  refine r_get F e_X10_keep_6 fl_X10_59 h7313 rfl (fun v hv f7317 => ?_)
  obtain rfl : v = .ref (c + 16) := hv
  refine m_iconst F (v := 0) (by decide) e_X10_keep_9 ?_
  refine m_aload_n F rfl e_X10_keep_10 ?_
  refine r_get F e_X10_keep_11 fl_X10_69 h7313 rfl (fun v hv f7318 => ?_)
  obtain rfl : v = .ref (c + 19) := hv
  refine m_iconst F (v := 0) (by decide) e_X10_keep_14 ?_
  obtain ⟨f7319, e7320, te7320⟩ : ∃ f, σ7312 (c + 16) = some (aJ V 1113 f) ∧ ∀ i, i < 1113 → EJ L i (f i) := h7313.1.cell (k := 16) (by decide)
  obtain ⟨g7321, e7322, te7322⟩ : ∃ f, σ7312 (c + 19) = some (aJ V 1113 f) ∧ _ := h7313.1.cell (k := 19) (by decide)
  refine m_callS F e_X10_keep_15 (q_copies (x_l X) V _ _ (c + 16) (c + 19) 1113 1113 0 0 f7319 g7321 e7320 e7322 (by omega) (by omega) (by omega) (by omega)) cb_X10_copies ml_X10_230 sm_X10_copies rfl (rest := []) rfl (Nat.le_of_ble_eq_true rfl) ⟨Nat.le_of_ble_eq_true rfl, Nat.le_of_ble_eq_true rfl⟩ ⟨Nat.le_of_ble_eq_true rfl, Nat.le_of_ble_eq_true rfl⟩ (k' := 0) (z' := 0) (N' := N) rfl rfl rfl (fun r σ7323 hp => ?_)
  obtain ⟨p7324, rfl⟩ := hp
  have h7325 := HS.cp (k := 19) (g' := (⟨T, Z, u, h, P, L⟩ : RG)) h7313 p7324 (by decide) (by decide) ⟨_, rfl, fun _ => ⟨L, by rw [hkk]; exact hok, fun i hi => by rw [cpy_at0 hi, Nat.zero_add]; exact te7320 i hi⟩⟩ (fun _ _ _ q => q)
  have ga7326 : GB V c 19 1113 0 L σ7323 := ⟨_, p7324.1, fun i hi => by rw [show 0 + i = i from Nat.zero_add i, cpy_at0 hi, Nat.zero_add]; exact te7320 i hi⟩
  refine m_aload_n F rfl e_X10_keep_18 ?_
  refine m_iconst F (v := 1) (by decide) e_X10_keep_19 ?_
  obtain ⟨fs, e1, ty⟩ : ∃ fs, σ7323 c = some (ob 8 fs) ∧ TyO c (⟨T, Z, u, h, P, L⟩ : RG) fs := h7325.1.cell (k := 0) (by decide)
  refine r_putM F (g := (⟨T, Z, u, h, P, L⟩ : RG)) (g' := (⟨T, Z, u, 1, P, L⟩ : RG)) e_X10_keep_20 fp_X10_217 e1 ty h7325.2 (by decide) rfl ctl_h (fun a ha => ?_) (by decide) rfl (by decide) (fun σ7327 h7328 _ _ _ => ?_)
  · by_cases h9 : kC c a = 20
    · have h8 := kC_un (k := 19) h9
      subst h8
      rw [h9]
      obtain ⟨f4, e4, t4⟩ := ga7326
      exact ⟨f4, e4, fun _ => ⟨L, by show OKL P.kk L; rw [hkk]; exact hok, fun i hi => by have h5 := t4 i hi; rw [Nat.zero_add] at h5; exact h5⟩⟩
    · exact CR.himg _ (fun e => ha (by have h8 := kC_un (k := 0) e; omega)) h9 _ (h7325.1 a)
  refine m_aload_n F rfl e_X10_keep_23 ?_
  refine r_get F e_X10_keep_24 fl_X10_59 h7328 rfl (fun v hv f7329 => ?_)
  obtain rfl : v = .ref (c + 16) := hv
  refine m_sipush F (v := 744) (by decide) e_X10_keep_27 ?_
  refine r_sld F (j := 744) e_X10_keep_30 h7328 (by decide) (by unfold vp_in; decide) (fun x7330 h7331 f7332 => ?_)
  have hl7333 := hok.1
  obtain rfl : x7330 = lN (L 4).1 := EJ_p.mp h7331
  refine m_l2i F e_X10_keep_31 ?_
  refine Wm.topE (w := nI ((L 4).1)) (lN_i ((L 4).1)) ?_
  exact m_iret F hQ e_X10_keep_32 (⟨h7328, _, rfl⟩)
set_option maxRecDepth 20000 in
theorem q_X10_back (l : Launch) (V : VX) (c T Z u h : Nat) (P : NP) (L : Nat → LQ) (N : Nat) (σ : Mem)  (h0 : HR V c ⟨T, Z, u, h, P, L⟩ σ) (hok : OKL P.n0 L) (hP : OKP P) (hp0 : h ≤ 1) (hp1 : u ≤ 20) (hp2 : P.kk = P.n0) : Ct l V yX10_back cX10_back 1 (some .int) 1 0 0 N σ [.ref c] (fun r τ => ∃ u9, u9 ≤ 20 ∧ ∃ L9, OKL P.n0 L9 ∧ HS V c (⟨T, Z, u9, h, P, L9⟩ : RG) [0, 2, 3, 4, 5, 6, 7, 8, 9, 10, 11, 12, 13, 14, 15, 16, 18, 19, 20, 21, 22, 23] σ τ ∧ ∃ x : Int32, r = some (.int x)) := by
  refine Ct.of (by decide) (Nat.le_of_ble_eq_true rfl) [(0, .ref c)] rfl (fun X hX F hQ => ?_)
  have hPP := hP
  unfold OKP at hPP
  have h1 : HS V c ⟨T, Z, u, h, P, L⟩ [0, 2, 3, 4, 5, 6, 7, 8, 9, 10, 11, 12, 13, 14, 15, 16, 18, 19, 20, 21, 22, 23] σ σ := HS.start h0
  refine m_aload_n F rfl e_X10_back_0 ?_
  refine m_iconst F (v := 0) (by decide) e_X10_back_1 ?_
  refine r_put F (g' := (⟨T, Z, u, h, P, L⟩ : RG)) e_X10_back_2 fp_X10_91 h1 (by decide) ⟨_, rfl⟩ (fun _ _ _ _ q => q) (fun _ _ _ q => q) rfl rfl (by decide) (fun σ7334 h7335 g7336 g7337 f7338 => ?_)
  refine m_aload_n F rfl e_X10_back_5 ?_
  refine r_get F e_X10_back_6 fl_X10_217 h7335 rfl (fun v hv f7339 => ?_)
  obtain rfl : v = .int (nI (h)) := hv
  refine m_if_ne F e_X10_back_9 (fun q9 => ?_) (fun q9 => ?_)
  · have c9 : h ≠ 0 := by have hh := mt (nI_eq (a := h) (b := 0) (by omega) (by omega)).mpr q9; omega
    obtain ⟨kf, ke, kg⟩ : ∃ f, σ7334 (c + 19) = some (aJ V 1113 f) ∧ (h = 1 → GR P.kk f) := h7335.1.cell (k := 19) (by decide)
    obtain ⟨L8, ok8, t8⟩ := kg (by omega)
    rw [hp2] at ok8
    have ga7340 : GB V c 19 1113 0 L8 σ7334 := ⟨kf, ke, fun i hi => by rw [Nat.zero_add]; exact t8 i hi⟩
    obtain ⟨kf, ke, kg⟩ : ∃ f, σ7334 (c + 19) = some (aJ V 1113 f) ∧ (h = 1 → GR P.kk f) := h7335.1.cell (k := 19) (by decide)
    obtain ⟨L8, ok8, t8⟩ := kg (by omega)
    rw [hp2] at ok8
    have ga7341 : GB V c 19 1113 0 L8 σ7334 := ⟨kf, ke, fun i hi => by rw [Nat.zero_add]; exact t8 i hi⟩
    obtain ⟨kf, ke, kg⟩ : ∃ f, σ7334 (c + 19) = some (aJ V 1113 f) ∧ (h = 1 → GR P.kk f) := h7335.1.cell (k := 19) (by decide)
    obtain ⟨L8, ok8, t8⟩ := kg (by omega)
    rw [hp2] at ok8
    have ga7342 : GB V c 19 1113 0 L8 σ7334 := ⟨kf, ke, fun i hi => by rw [Nat.zero_add]; exact t8 i hi⟩
    refine m_aload_n F rfl e_X10_back_14 ?_
    refine r_get F e_X10_back_15 fl_X10_69 h7335 rfl (fun v hv f7343 => ?_)
    obtain rfl : v = .ref (c + 19) := hv
    refine m_iconst F (v := 0) (by decide) e_X10_back_18 ?_
    refine m_aload_n F rfl e_X10_back_19 ?_
    refine r_get F e_X10_back_20 fl_X10_59 h7335 rfl (fun v hv f7344 => ?_)
    obtain rfl : v = .ref (c + 16) := hv
    refine m_iconst F (v := 0) (by decide) e_X10_back_23 ?_
    have xe7346 := ga7342
    obtain ⟨f7345, e7346, te7346⟩ := xe7346
    obtain ⟨g7347, e7348, te7348⟩ : ∃ f, σ7334 (c + 16) = some (aJ V 1113 f) ∧ _ := h7335.1.cell (k := 16) (by decide)
    refine m_callS F e_X10_back_24 (q_copies (x_l X) V _ _ (c + 19) (c + 16) 1113 1113 0 0 f7345 g7347 e7346 e7348 (by omega) (by omega) (by omega) (by omega)) cb_X10_copies ml_X10_230 sm_X10_copies rfl (rest := []) rfl (Nat.le_of_ble_eq_true rfl) ⟨Nat.le_of_ble_eq_true rfl, Nat.le_of_ble_eq_true rfl⟩ ⟨Nat.le_of_ble_eq_true rfl, Nat.le_of_ble_eq_true rfl⟩ (k' := 0) (z' := 0) (N' := N) rfl rfl rfl (fun r σ7349 hp => ?_)
    obtain ⟨p7350, rfl⟩ := hp
    have h7351 := HS.cpS (L2 := L8) (o := 0) h7335 (by decide) te7346 p7350
    have ga7352 := ga7342.of (p7350.2 _ (by omega))
    refine m_aload_n F rfl e_X10_back_27 ?_
    refine m_iconst F (v := 0) (by decide) e_X10_back_28 ?_
    refine r_put F (g' := (⟨T, Z, 0, h, P, L8⟩ : RG)) e_X10_back_29 fp_X10_214 h7351 (by decide) rfl ctl_u (CR.und (Nat.zero_le _)) rfl rfl (by decide) (fun σ7353 h7354 g7355 g7356 f7357 => ?_)
    have ga7358 := ga7352.of (g7355 _ (by omega))
    refine m_aload_n F rfl e_X10_back_32 ?_
    refine r_getC F e_X10_back_33 fl_X10_59 h7354 ((g7356 27 (by decide)).trans ((fld_eq (p7350.2 _ (by omega))).trans f7344)) ?_
    refine m_sipush F (v := 744) (by decide) e_X10_back_36 ?_
    refine r_sld F (j := 744) e_X10_back_39 h7354 (by decide) (by unfold vp_in; decide) (fun x7359 h7360 f7361 => ?_)
    have hl7362 := ok8.1
    obtain rfl : x7359 = lN (L8 4).1 := EJ_p.mp h7360
    refine m_l2i F e_X10_back_40 ?_
    refine Wm.topE (w := nI ((L8 4).1)) (lN_i ((L8 4).1)) ?_
    exact m_iret F hQ e_X10_back_41 (⟨0, by omega, L8, ok8, h7354, _, rfl⟩)
  · have c9 : h = 0 := (nI_eq (a := h) (b := 0) (by omega) (by omega)).mp q9
    refine m_iconst F (v := (-1)) (by decide) e_X10_back_12 ?_
    exact m_iret F hQ e_X10_back_13 (⟨u, by omega, L, hok, h7335, _, rfl⟩)
set_option maxRecDepth 20000 in
theorem q_X10_lease (l : Launch) (V : VX) (c T Z u h : Nat) (P : NP) (L : Nat → LQ) (N : Nat) (σ : Mem) (x901 : Int32) (x902 : Int32) (h0 : HR V c ⟨T, Z, u, h, P, L⟩ σ) (hob : OKB L) (hP : OKP P)  : Ct l V yX10_lease cX10_lease 4 (some .int) 2 0 0 N σ [.ref c, .int x901, .int x902] (fun r τ => HS V c (⟨T, Z, u, h, P, L⟩ : RG) [0, 2, 3, 4, 5, 6, 7, 8, 9, 10, 11, 12, 13, 14, 15, 16, 17, 18, 19, 20, 21, 22, 23] σ τ ∧ ∃ x : Int32, r = some (.int x)) := by
  refine Ct.of (by decide) (Nat.le_of_ble_eq_true rfl) [(0, .ref c), (1, .int x901), (2, .int x902)] rfl (fun X hX F hQ => ?_)
  have hPP := hP
  unfold OKP at hPP
  have h1 : HS V c ⟨T, Z, u, h, P, L⟩ [0, 2, 3, 4, 5, 6, 7, 8, 9, 10, 11, 12, 13, 14, 15, 16, 17, 18, 19, 20, 21, 22, 23] σ σ := HS.start h0
  refine m_aload_n F rfl e_X10_lease_0 ?_
  refine m_iconst F (v := 0) (by decide) e_X10_lease_1 ?_
  refine r_put F (g' := (⟨T, Z, u, h, P, L⟩ : RG)) e_X10_lease_2 fp_X10_91 h1 (by decide) ⟨_, rfl⟩ (fun _ _ _ _ q => q) (fun _ _ _ q => q) rfl rfl (by decide) (fun σ7363 h7364 g7365 g7366 f7367 => ?_)
  refine m_aload_n F rfl e_X10_lease_5 ?_
  refine m_iload_n F rfl e_X10_lease_6 ?_
  refine r_callV F e_X10_lease_7 (q_X10_isLease (x_l X) V c T Z u h P L _ _ x901 h7364.1 (hob) hP ) cb_X10_isLease ml_X10_292 im_X10_isLease se_X10_isLease h7364 rfl rfl (rest := []) rfl (Nat.le_of_ble_eq_true rfl) ⟨Nat.le_of_ble_eq_true rfl, Nat.le_of_ble_eq_true rfl⟩ ⟨Nat.le_of_ble_eq_true rfl, Nat.le_of_ble_eq_true rfl⟩ (fun r σ7368 hp => ?_)
  obtain ⟨h7369, c7371⟩ := hp
  have h7370 := HS.trans h7364 h7369 (by decide)
  rcases c7371 with rfl | ⟨n7372, h7373, e7374, rfl⟩
  · refine m_if_ne F e_X10_lease_10 (fun q => absurd (by decide) q) (fun _ => ?_)
    refine m_aload_n F rfl e_X10_lease_13 ?_
    refine m_iconst F (v := 1) (by decide) e_X10_lease_14 ?_
    refine r_put F (g' := (⟨T, Z, u, h, P, L⟩ : RG)) e_X10_lease_15 fp_X10_91 h7370 (by decide) ⟨_, rfl⟩ (fun _ _ _ _ q => q) (fun _ _ _ q => q) rfl rfl (by decide) (fun σ7375 h7376 g7377 g7378 f7379 => ?_)
    refine m_iconst F (v := 0) (by decide) e_X10_lease_18 ?_
    exact m_iret F hQ e_X10_lease_19 (⟨h7376, _, rfl⟩)
  · subst e7374
    refine m_if_ne F e_X10_lease_10 (fun _ => ?_) (fun q => absurd q (by decide))
    refine m_sipush F (v := 160) (by decide) e_X10_lease_20 ?_
    refine m_iload_n F rfl e_X10_lease_23 ?_
    refine m_imul F e_X10_lease_24 ?_
    refine Wm.topE (w := nI (160 * n7372)) (pk_mul 160 n7372) ?_
    refine m_istore_n F (lv' := [(3, .int (nI (160 * n7372))), (0, .ref c), (1, .int (nI n7372)), (2, .int x902)]) e_X10_lease_25 (by decide) rfl ?_
    refine m_iload_n F rfl e_X10_lease_26 ?_
    by_cases ho27 : (x902 : Int32).toInt < 0 ∨ 8 < (x902 : Int32).toInt
    · refine m_tableOut F e_X10_lease_27 ho27 (tgt := 195) (by decide) ?_
      refine m_aload_n F rfl e_X10_lease_195 ?_
      refine m_iconst F (v := 2) (by decide) e_X10_lease_196 ?_
      refine r_put F (g' := (⟨T, Z, u, h, P, L⟩ : RG)) e_X10_lease_197 fp_X10_91 h7370 (by decide) ⟨_, rfl⟩ (fun _ _ _ _ q => q) (fun _ _ _ q => q) rfl rfl (by decide) (fun σ7380 h7381 g7382 g7383 f7384 => ?_)
      refine m_iconst F (v := 0) (by decide) e_X10_lease_200 ?_
      exact m_iret F hQ e_X10_lease_201 (⟨h7381, _, rfl⟩)
    have hs27 : (x902 : Int32).toInt = 0 ∨ (x902 : Int32).toInt = 1 ∨ (x902 : Int32).toInt = 2 ∨ (x902 : Int32).toInt = 3 ∨ (x902 : Int32).toInt = 4 ∨ (x902 : Int32).toInt = 5 ∨ (x902 : Int32).toInt = 6 ∨ (x902 : Int32).toInt = 7 ∨ (x902 : Int32).toInt = 8 := by omega
    rcases hs27 with hv | hv | hv | hv | hv | hv | hv | hv | hv
    · refine m_tableIn F e_X10_lease_27 (by omega) (by omega) (off := 49) (tgt := 76) (by rw [hv]; rfl) (by decide) ?_
      refine m_aload_n F rfl e_X10_lease_76 ?_
      refine r_get F e_X10_lease_77 fl_X10_19 h7370 rfl (fun v hv f7385 => ?_)
      obtain rfl : v = .ref (c + 4) := hv
      refine m_iload_n F rfl e_X10_lease_80 ?_
      refine r_iald F (len := 8) (j := n7372) e_X10_lease_81 h7370 (fun _ h => h) (by decide) (nI_clamp (by omega)) (vp_in_nI (by omega) (by decide)) (fun x7386 h7387 f7388 => ?_)
      exact m_iret F hQ e_X10_lease_82 (⟨h7370, _, rfl⟩)
    · refine m_tableIn F e_X10_lease_27 (by omega) (by omega) (off := 56) (tgt := 83) (by rw [hv]; rfl) (by decide) ?_
      refine m_aload_n F rfl e_X10_lease_83 ?_
      refine r_get F e_X10_lease_84 fl_X10_59 h7370 rfl (fun v hv f7389 => ?_)
      obtain rfl : v = .ref (c + 16) := hv
      refine m_iload_n F rfl e_X10_lease_87 ?_
      refine m_iconst F (v := 1) (by decide) e_X10_lease_88 ?_
      refine m_iadd F e_X10_lease_89 ?_
      refine Wm.topE (w := nI (160 * n7372 + 1)) (nI_add (160 * n7372) 1) ?_
      refine r_sld F (j := 160 * n7372 + 1) e_X10_lease_90 h7370 (nI_clamp (by omega)) (vp_in_nI (by omega) (by decide)) (fun x7390 h7391 f7392 => ?_)
      have hl7393 := hob.2 n7372 (by omega)
      obtain rfl : x7390 = lN (L n7372).2.1 := (EJ_l (l := n7372) (r := 1) (by omega) (by decide)).mp h7391
      refine m_l2i F e_X10_lease_91 ?_
      refine Wm.topE (w := nI ((L n7372).2.1)) (lN_i ((L n7372).2.1)) ?_
      exact m_iret F hQ e_X10_lease_92 (⟨h7370, _, rfl⟩)
    · refine m_tableIn F e_X10_lease_27 (by omega) (by omega) (off := 66) (tgt := 93) (by rw [hv]; rfl) (by decide) ?_
      refine m_aload_n F rfl e_X10_lease_93 ?_
      refine r_get F e_X10_lease_94 fl_X10_59 h7370 rfl (fun v hv f7394 => ?_)
      obtain rfl : v = .ref (c + 16) := hv
      refine m_iload_n F rfl e_X10_lease_97 ?_
      refine m_iconst F (v := 2) (by decide) e_X10_lease_98 ?_
      refine m_iadd F e_X10_lease_99 ?_
      refine Wm.topE (w := nI (160 * n7372 + 2)) (nI_add (160 * n7372) 2) ?_
      refine r_sld F (j := 160 * n7372 + 2) e_X10_lease_100 h7370 (nI_clamp (by omega)) (vp_in_nI (by omega) (by decide)) (fun x7395 h7396 f7397 => ?_)
      obtain ⟨n7398, hn7398, rfl⟩ : ∃ n : Nat, n ≤ 1000000 ∧ x7395 = lN n := (EJ_l (l := n7372) (r := 2) (by omega) (by decide)).mp h7396
      refine m_l2i F e_X10_lease_101 ?_
      refine Wm.topE (w := nI n7398) (lN_i n7398) ?_
      exact m_iret F hQ e_X10_lease_102 (⟨h7370, _, rfl⟩)
    · refine m_tableIn F e_X10_lease_27 (by omega) (by omega) (off := 76) (tgt := 103) (by rw [hv]; rfl) (by decide) ?_
      refine m_aload_n F rfl e_X10_lease_103 ?_
      refine r_get F e_X10_lease_104 fl_X10_59 h7370 rfl (fun v hv f7399 => ?_)
      obtain rfl : v = .ref (c + 16) := hv
      refine m_iload_n F rfl e_X10_lease_107 ?_
      refine m_iconst F (v := 0) (by decide) e_X10_lease_108 ?_
      refine m_iadd F e_X10_lease_109 ?_
      refine Wm.topE (w := nI (160 * n7372)) (nI_add (160 * n7372) 0) ?_
      refine r_sld F (j := 160 * n7372) e_X10_lease_110 h7370 (nI_clamp (by omega)) (vp_in_nI (by omega) (by decide)) (fun x7400 h7401 f7402 => ?_)
      have hl7403 := hob.2 n7372 (by omega)
      obtain rfl : x7400 = lN (L n7372).1 := (EJ_l (l := n7372) (r := 0) (by omega) (by decide)).mp h7401
      refine m_l2i F e_X10_lease_111 ?_
      refine Wm.topE (w := nI ((L n7372).1)) (lN_i ((L n7372).1)) ?_
      exact m_iret F hQ e_X10_lease_112 (⟨h7370, _, rfl⟩)
    · refine m_tableIn F e_X10_lease_27 (by omega) (by omega) (off := 86) (tgt := 113) (by rw [hv]; rfl) (by decide) ?_
      refine m_aload_n F rfl e_X10_lease_113 ?_
      refine r_get F e_X10_lease_114 fl_X10_59 h7370 rfl (fun v hv f7404 => ?_)
      obtain rfl : v = .ref (c + 16) := hv
      refine m_iload_n F rfl e_X10_lease_117 ?_
      refine m_iconst F (v := 0) (by decide) e_X10_lease_118 ?_
      refine m_iadd F e_X10_lease_119 ?_
      refine Wm.topE (w := nI (160 * n7372)) (nI_add (160 * n7372) 0) ?_
      refine r_sld F (j := 160 * n7372) e_X10_lease_120 h7370 (nI_clamp (by omega)) (vp_in_nI (by omega) (by decide)) (fun x7405 h7406 f7407 => ?_)
      have hl7408 := hob.2 n7372 (by omega)
      obtain rfl : x7405 = lN (L n7372).1 := (EJ_l (l := n7372) (r := 0) (by omega) (by decide)).mp h7406
      refine m_ldc2 F kc_X10_234 e_X10_lease_121 ?_
      refine m_lcmp F e_X10_lease_124 ?_
      refine m_if_ne F e_X10_lease_125 (fun q125 => ?_) (fun q125 => ?_)
      · have c125 : ((L n7372).1) ≠ 2 := by have hh := mt (fun h9 => (lg_cmp_eq (lN ((L n7372).1)) (lN 2)).mpr ((lN_eq (a := ((L n7372).1)) (b := 2) (by omega) (by omega)).mpr h9)) q125; omega
        refine m_aload_n F rfl e_X10_lease_132 ?_
        refine m_iload_n F rfl e_X10_lease_133 ?_
        refine r_callV F e_X10_lease_134 (q_X10_left (x_l X) V c T Z u h P L _ _ n7372 h7370.1 (hob) hP (by omega)) cb_X10_left ml_X10_257 im_X10_left se_X10_left h7370 rfl rfl (rest := []) rfl (Nat.le_of_ble_eq_true rfl) ⟨Nat.le_of_ble_eq_true rfl, Nat.le_of_ble_eq_true rfl⟩ ⟨Nat.le_of_ble_eq_true rfl, Nat.le_of_ble_eq_true rfl⟩ (fun r σ7409 hp => ?_)
        obtain ⟨h7410, x7412, rfl⟩ := hp
        have h7411 := HS.trans h7370 h7410 (by decide)
        exact m_iret F hQ e_X10_lease_137 (⟨h7411, _, rfl⟩)
      · have c125 : ((L n7372).1) = 2 := (lN_eq (a := ((L n7372).1)) (b := 2) (by omega) (by omega)).mp ((lg_cmp_eq _ _).mp q125)
        refine m_iconst F (v := 0) (by decide) e_X10_lease_128 ?_
        refine m_goto F e_X10_lease_129 ?_
        exact m_iret F hQ e_X10_lease_137 (⟨h7370, _, rfl⟩)
    · refine m_tableIn F e_X10_lease_27 (by omega) (by omega) (off := 111) (tgt := 138) (by rw [hv]; rfl) (by decide) ?_
      refine m_aload_n F rfl e_X10_lease_138 ?_
      refine r_get F e_X10_lease_139 fl_X10_59 h7370 rfl (fun v hv f7413 => ?_)
      obtain rfl : v = .ref (c + 16) := hv
      refine m_iload_n F rfl e_X10_lease_142 ?_
      refine m_iconst F (v := 3) (by decide) e_X10_lease_143 ?_
      refine m_iadd F e_X10_lease_144 ?_
      refine Wm.topE (w := nI (160 * n7372 + 3)) (nI_add (160 * n7372) 3) ?_
      refine r_sld F (j := 160 * n7372 + 3) e_X10_lease_145 h7370 (nI_clamp (by omega)) (vp_in_nI (by omega) (by decide)) (fun x7414 h7415 f7416 => ?_)
      have hl7417 := hob.2 n7372 (by omega)
      obtain rfl : x7414 = lN (L n7372).2.2.1 := (EJ_l (l := n7372) (r := 3) (by omega) (by decide)).mp h7415
      refine m_l2i F e_X10_lease_146 ?_
      refine Wm.topE (w := nI ((L n7372).2.2.1)) (lN_i ((L n7372).2.2.1)) ?_
      exact m_iret F hQ e_X10_lease_147 (⟨h7370, _, rfl⟩)
    · refine m_tableIn F e_X10_lease_27 (by omega) (by omega) (off := 121) (tgt := 148) (by rw [hv]; rfl) (by decide) ?_
      refine m_aload_n F rfl e_X10_lease_148 ?_
      refine r_get F e_X10_lease_149 fl_X10_34 h7370 rfl (fun v hv f7418 => ?_)
      obtain rfl : v = .ref (c + 9) := hv
      refine m_iload_n F rfl e_X10_lease_152 ?_
      refine r_iald F (len := 8) (j := n7372) e_X10_lease_153 h7370 (fun _ h => h) (by decide) (nI_clamp (by omega)) (vp_in_nI (by omega) (by decide)) (fun x7419 h7420 f7421 => ?_)
      refine m_if_ne F e_X10_lease_154 (fun q154 => ?_) (fun q154 => ?_)
      · refine m_aload_n F rfl e_X10_lease_161 ?_
        refine r_getC F e_X10_lease_162 fl_X10_34 h7370 (f7418) ?_
        refine m_iload_n F rfl e_X10_lease_165 ?_
        refine r_iald F (len := 8) (j := n7372) e_X10_lease_166 h7370 (fun _ h => h) (by decide) (nI_clamp (by omega)) (vp_in_nI (by omega) (by decide)) (fun x7422 h7423 f7424 => ?_)
        obtain rfl := Option.some.inj ((f7424).symm.trans (f7421))
        refine m_iconst F (v := 1) (by decide) e_X10_lease_167 ?_
        refine m_isub F e_X10_lease_168 ?_
        refine Wm.top (fun x7425 _ => ?_)
        exact m_iret F hQ e_X10_lease_169 (⟨h7370, _, rfl⟩)
      · subst q154
        refine m_iconst F (v := 0) (by decide) e_X10_lease_157 ?_
        refine m_goto F e_X10_lease_158 ?_
        exact m_iret F hQ e_X10_lease_169 (⟨h7370, _, rfl⟩)
    · refine m_tableIn F e_X10_lease_27 (by omega) (by omega) (off := 143) (tgt := 170) (by rw [hv]; rfl) (by decide) ?_
      refine m_aload_n F rfl e_X10_lease_170 ?_
      refine r_get F e_X10_lease_171 fl_X10_75 h7370 rfl (fun v hv f7426 => ?_)
      obtain rfl : v = .ref (c + 21) := hv
      refine m_iload_n F rfl e_X10_lease_174 ?_
      refine r_zald F (j := n7372) e_X10_lease_175 h7370 (nI_clamp (by omega)) (vp_in_nI (by omega) (by decide)) (fun n7427 hn7427 f7428 => ?_)
      refine m_if_eq F e_X10_lease_176 (fun q176 => ?_) (fun q176 => ?_)
      · have c176 : n7427 = 0 := (nI_eq (a := n7427) (b := 0) (by omega) (by omega)).mp q176
        refine m_iconst F (v := 0) (by decide) e_X10_lease_183 ?_
        exact m_iret F hQ e_X10_lease_184 (⟨h7370, _, rfl⟩)
      · have c176 : n7427 ≠ 0 := by have hh := mt (nI_eq (a := n7427) (b := 0) (by omega) (by omega)).mpr q176; omega
        refine m_iconst F (v := 1) (by decide) e_X10_lease_179 ?_
        refine m_goto F e_X10_lease_180 ?_
        exact m_iret F hQ e_X10_lease_184 (⟨h7370, _, rfl⟩)
    · refine m_tableIn F e_X10_lease_27 (by omega) (by omega) (off := 158) (tgt := 185) (by rw [hv]; rfl) (by decide) ?_
      refine m_aload_n F rfl e_X10_lease_185 ?_
      refine r_get F e_X10_lease_186 fl_X10_59 h7370 rfl (fun v hv f7429 => ?_)
      obtain rfl : v = .ref (c + 16) := hv
      refine m_iload_n F rfl e_X10_lease_189 ?_
      refine m_iconst F (v := 4) (by decide) e_X10_lease_190 ?_
      refine m_iadd F e_X10_lease_191 ?_
      refine Wm.topE (w := nI (160 * n7372 + 4)) (nI_add (160 * n7372) 4) ?_
      refine r_sld F (j := 160 * n7372 + 4) e_X10_lease_192 h7370 (nI_clamp (by omega)) (vp_in_nI (by omega) (by decide)) (fun x7430 h7431 f7432 => ?_)
      refine m_l2i F e_X10_lease_193 ?_
      refine Wm.top (fun x7433 _ => ?_)
      exact m_iret F hQ e_X10_lease_194 (⟨h7370, _, rfl⟩)
set_option maxRecDepth 20000 in
theorem lq_X10_feed_20 {V : VX} {X : MX} {N : Nat} {σ : Mem} {c T Z u h : Nat} {P : NP} {L : Nat → LQ}  {x901 : Int32} {x902 : Int32} {x903 : Int32} {x904 : Int32} {x905 : Int32} (F : Fx V X yX10_feed cX10_feed 8 (some .int) (rmd 0 0 0)) (hQ : Rt V X 0 0 N (fun r τ => (680 < T ∧ HS V c (⟨T, Z, u, h, P, L⟩ : RG) [0, 3, 4, 5, 6, 7, 8, 9, 10, 11, 12, 13, 14, 15, 16, 17, 18, 19, 20, 21, 22, 23] σ τ ∧ r = some (.int (-1))) ∨ (T ≤ 680 ∧ HS V c (⟨T + 20, Z, u, h, P, L⟩ : RG) [0, 3, 4, 5, 6, 7, 8, 9, 10, 11, 12, 13, 14, 15, 16, 17, 18, 19, 20, 21, 22, 23] σ τ ∧ r = some (.int (nI (T + 20)))))) (hob : OKB L) (hP : OKP P) (hp0 : T ≤ 700)  : ∀ (fuel : Nat) (i : Nat) (τ : Mem), HS V c (⟨T, Z, u, h, P, L⟩ : RG) [0, 3, 4, 5, 6, 7, 8, 9, 10, 11, 12, 13, 14, 15, 16, 17, 18, 19, 20, 21, 22, 23] σ τ → i ≤ 20 ∧ T ≤ 680 → 20 - i < fuel → Wm V X 8 N τ 0 0 20 [(0, .ref c), (1, .int x901), (2, .int x902), (3, .int x903), (4, .int x904), (5, .int x905), (6, .int (nI i))] [] := by
  intro fuel
  induction fuel with
  | zero => intros; rename_i hm; exact absurd hm (Nat.not_lt_zero _)
  | succ fuel ih =>
    intro i τ h1 hi hm
    have hPP := hP
    unfold OKP at hPP
    refine m_iload F rfl e_X10_feed_20 ?_
    refine m_bipush F (v := 20) (by decide) e_X10_feed_22 ?_
    refine m_icmp_ge F e_X10_feed_24 (fun q24 => ?_) (fun q24 => ?_)
    · have c24 : i ≥ 20 := (nI_leI (a := 20) (b := i) (by omega) (by omega)).mp q24
      refine m_aload_n F rfl e_X10_feed_110 ?_
      refine m_dup F rfl e_X10_feed_111 ?_
      refine r_get F e_X10_feed_112 fl_X10_94 h1 rfl (fun v hv f7434 => ?_)
      obtain rfl : v = .int (nI (T)) := hv
      refine m_bipush F (v := 20) (by decide) e_X10_feed_115 ?_
      refine m_iadd F e_X10_feed_117 ?_
      refine Wm.topE (w := nI (T + 20)) (nI_add T 20) ?_
      refine r_put F (g' := (⟨T + 20, Z, u, h, P, L⟩ : RG)) e_X10_feed_118 fp_X10_94 h1 (by decide) rfl ctl_T CR.ctl rfl rfl (by decide) (fun σ7435 h7436 g7437 g7438 f7439 => ?_)
      refine m_aload_n F rfl e_X10_feed_121 ?_
      refine r_getC F e_X10_feed_122 fl_X10_94 h7436 (f7439) ?_
      exact m_iret F hQ e_X10_feed_125 (Or.inr ⟨by omega, h7436, rfl⟩)
    · have c24 : i < 20 := by have hh := mt (nI_leI (a := 20) (b := i) (by omega) (by omega)).mpr q24; omega
      refine m_iload F rfl e_X10_feed_27 ?_
      refine m_iconst F (v := 4) (by decide) e_X10_feed_29 ?_
      refine m_icmp_ge F e_X10_feed_30 (fun q30 => ?_) (fun q30 => ?_)
      · have c30 : i ≥ 4 := (nI_leI (a := 4) (b := i) (by omega) (by omega)).mp q30
        refine m_iload F rfl e_X10_feed_37 ?_
        refine m_bipush F (v := 8) (by decide) e_X10_feed_39 ?_
        refine m_icmp_ge F e_X10_feed_41 (fun q41 => ?_) (fun q41 => ?_)
        · have c41 : i ≥ 8 := (nI_leI (a := 8) (b := i) (by omega) (by omega)).mp q41
          refine m_iload F rfl e_X10_feed_48 ?_
          refine m_bipush F (v := 12) (by decide) e_X10_feed_50 ?_
          refine m_icmp_ge F e_X10_feed_52 (fun q52 => ?_) (fun q52 => ?_)
          · have c52 : i ≥ 12 := (nI_leI (a := 12) (b := i) (by omega) (by omega)).mp q52
            refine m_iload F rfl e_X10_feed_59 ?_
            refine m_bipush F (v := 16) (by decide) e_X10_feed_61 ?_
            refine m_icmp_ge F e_X10_feed_63 (fun q63 => ?_) (fun q63 => ?_)
            · have c63 : i ≥ 16 := (nI_leI (a := 16) (b := i) (by omega) (by omega)).mp q63
              refine m_iload F rfl e_X10_feed_71 ?_
              refine m_istore F (lv' := [(7, .int x905), (0, .ref c), (1, .int x901), (2, .int x902), (3, .int x903), (4, .int x904), (5, .int x905), (6, .int (nI i))]) e_X10_feed_73 (by decide) rfl ?_
              refine m_aload_n F rfl e_X10_feed_75 ?_
              refine r_get F e_X10_feed_76 fl_X10_7 h1 rfl (fun v hv f7440 => ?_)
              obtain rfl : v = .ref (c + 1) := hv
              refine m_aload_n F rfl e_X10_feed_79 ?_
              refine r_get F e_X10_feed_80 fl_X10_94 h1 rfl (fun v hv f7441 => ?_)
              obtain rfl : v = .int (nI (T)) := hv
              refine m_iload F rfl e_X10_feed_83 ?_
              refine m_iadd F e_X10_feed_85 ?_
              refine Wm.topE (w := nI (T + i)) (nI_add T i) ?_
              refine m_iload F rfl e_X10_feed_86 ?_
              refine m_bipush F (v := 24) (by decide) e_X10_feed_88 ?_
              refine m_bipush F (v := 8) (by decide) e_X10_feed_90 ?_
              refine m_iload F rfl e_X10_feed_92 ?_
              refine m_iconst F (v := 4) (by decide) e_X10_feed_94 ?_
              refine m_irem F (by decide) e_X10_feed_95 ?_
              refine Wm.topE (w := nI (i % 4)) (pk_rem (a := i) (d := 4) (by omega) (by decide) (by decide)) ?_
              refine m_imul F e_X10_feed_96 ?_
              refine Wm.topE (w := nI (8 * (i % 4))) (pk_mul 8 (i % 4)) ?_
              refine m_isub F e_X10_feed_97 ?_
              refine Wm.top (fun x7442 _ => ?_)
              refine m_ishr F e_X10_feed_98 ?_
              refine Wm.top (fun x7443 _ => ?_)
              refine m_sipush F (v := 255) (by decide) e_X10_feed_99 ?_
              refine m_iand F e_X10_feed_102 ?_
              refine Wm.top (fun x7444 _ => ?_)
              refine r_iast F (g' := (⟨T, Z, u, h, P, L⟩ : RG)) (len := 700) (j := T + i) e_X10_feed_103 h1 (fun _ h => h) (fun f h => ⟨f, rfl, h⟩) (by decide) (by decide) (nI_clamp (by omega)) (vp_in_nI (by omega) (by decide)) trivial (fun _ _ _ h => h) (fun _ _ _ h => h) (fun σ7445 h7446 g7447 f7448 g7449 => ?_)
              refine m_iinc F (v := nI (i + 1)) (lv' := [(6, .int (nI (i + 1))), (7, .int x905), (0, .ref c), (1, .int x901), (2, .int x902), (3, .int x903), (4, .int x904), (5, .int x905)]) e_X10_feed_104 rfl (nI_add i 1) (by decide) rfl ?_
              refine m_goto F e_X10_feed_107 ?_
              refine Wm.lvsub (lv' := [(0, .ref c), (1, .int x901), (2, .int x902), (3, .int x903), (4, .int x904), (5, .int x905), (6, .int (nI (i + 1)))]) ?_ [2, 3, 4, 5, 6, 7, 0] rfl
              exact ih (i + 1) _ h7446 (by omega) (by omega)
            · have c63 : i < 16 := by have hh := mt (nI_leI (a := 16) (b := i) (by omega) (by omega)).mpr q63; omega
              refine m_iload F rfl e_X10_feed_66 ?_
              refine m_goto F e_X10_feed_68 ?_
              refine m_istore F (lv' := [(7, .int x904), (0, .ref c), (1, .int x901), (2, .int x902), (3, .int x903), (4, .int x904), (5, .int x905), (6, .int (nI i))]) e_X10_feed_73 (by decide) rfl ?_
              refine m_aload_n F rfl e_X10_feed_75 ?_
              refine r_get F e_X10_feed_76 fl_X10_7 h1 rfl (fun v hv f7450 => ?_)
              obtain rfl : v = .ref (c + 1) := hv
              refine m_aload_n F rfl e_X10_feed_79 ?_
              refine r_get F e_X10_feed_80 fl_X10_94 h1 rfl (fun v hv f7451 => ?_)
              obtain rfl : v = .int (nI (T)) := hv
              refine m_iload F rfl e_X10_feed_83 ?_
              refine m_iadd F e_X10_feed_85 ?_
              refine Wm.topE (w := nI (T + i)) (nI_add T i) ?_
              refine m_iload F rfl e_X10_feed_86 ?_
              refine m_bipush F (v := 24) (by decide) e_X10_feed_88 ?_
              refine m_bipush F (v := 8) (by decide) e_X10_feed_90 ?_
              refine m_iload F rfl e_X10_feed_92 ?_
              refine m_iconst F (v := 4) (by decide) e_X10_feed_94 ?_
              refine m_irem F (by decide) e_X10_feed_95 ?_
              refine Wm.topE (w := nI (i % 4)) (pk_rem (a := i) (d := 4) (by omega) (by decide) (by decide)) ?_
              refine m_imul F e_X10_feed_96 ?_
              refine Wm.topE (w := nI (8 * (i % 4))) (pk_mul 8 (i % 4)) ?_
              refine m_isub F e_X10_feed_97 ?_
              refine Wm.top (fun x7452 _ => ?_)
              refine m_ishr F e_X10_feed_98 ?_
              refine Wm.top (fun x7453 _ => ?_)
              refine m_sipush F (v := 255) (by decide) e_X10_feed_99 ?_
              refine m_iand F e_X10_feed_102 ?_
              refine Wm.top (fun x7454 _ => ?_)
              refine r_iast F (g' := (⟨T, Z, u, h, P, L⟩ : RG)) (len := 700) (j := T + i) e_X10_feed_103 h1 (fun _ h => h) (fun f h => ⟨f, rfl, h⟩) (by decide) (by decide) (nI_clamp (by omega)) (vp_in_nI (by omega) (by decide)) trivial (fun _ _ _ h => h) (fun _ _ _ h => h) (fun σ7455 h7456 g7457 f7458 g7459 => ?_)
              refine m_iinc F (v := nI (i + 1)) (lv' := [(6, .int (nI (i + 1))), (7, .int x904), (0, .ref c), (1, .int x901), (2, .int x902), (3, .int x903), (4, .int x904), (5, .int x905)]) e_X10_feed_104 rfl (nI_add i 1) (by decide) rfl ?_
              refine m_goto F e_X10_feed_107 ?_
              refine Wm.lvsub (lv' := [(0, .ref c), (1, .int x901), (2, .int x902), (3, .int x903), (4, .int x904), (5, .int x905), (6, .int (nI (i + 1)))]) ?_ [2, 3, 4, 5, 6, 7, 0] rfl
              exact ih (i + 1) _ h7456 (by omega) (by omega)
          · have c52 : i < 12 := by have hh := mt (nI_leI (a := 12) (b := i) (by omega) (by omega)).mpr q52; omega
            refine m_iload_n F rfl e_X10_feed_55 ?_
            refine m_goto F e_X10_feed_56 ?_
            refine m_istore F (lv' := [(7, .int x903), (0, .ref c), (1, .int x901), (2, .int x902), (3, .int x903), (4, .int x904), (5, .int x905), (6, .int (nI i))]) e_X10_feed_73 (by decide) rfl ?_
            refine m_aload_n F rfl e_X10_feed_75 ?_
            refine r_get F e_X10_feed_76 fl_X10_7 h1 rfl (fun v hv f7460 => ?_)
            obtain rfl : v = .ref (c + 1) := hv
            refine m_aload_n F rfl e_X10_feed_79 ?_
            refine r_get F e_X10_feed_80 fl_X10_94 h1 rfl (fun v hv f7461 => ?_)
            obtain rfl : v = .int (nI (T)) := hv
            refine m_iload F rfl e_X10_feed_83 ?_
            refine m_iadd F e_X10_feed_85 ?_
            refine Wm.topE (w := nI (T + i)) (nI_add T i) ?_
            refine m_iload F rfl e_X10_feed_86 ?_
            refine m_bipush F (v := 24) (by decide) e_X10_feed_88 ?_
            refine m_bipush F (v := 8) (by decide) e_X10_feed_90 ?_
            refine m_iload F rfl e_X10_feed_92 ?_
            refine m_iconst F (v := 4) (by decide) e_X10_feed_94 ?_
            refine m_irem F (by decide) e_X10_feed_95 ?_
            refine Wm.topE (w := nI (i % 4)) (pk_rem (a := i) (d := 4) (by omega) (by decide) (by decide)) ?_
            refine m_imul F e_X10_feed_96 ?_
            refine Wm.topE (w := nI (8 * (i % 4))) (pk_mul 8 (i % 4)) ?_
            refine m_isub F e_X10_feed_97 ?_
            refine Wm.top (fun x7462 _ => ?_)
            refine m_ishr F e_X10_feed_98 ?_
            refine Wm.top (fun x7463 _ => ?_)
            refine m_sipush F (v := 255) (by decide) e_X10_feed_99 ?_
            refine m_iand F e_X10_feed_102 ?_
            refine Wm.top (fun x7464 _ => ?_)
            refine r_iast F (g' := (⟨T, Z, u, h, P, L⟩ : RG)) (len := 700) (j := T + i) e_X10_feed_103 h1 (fun _ h => h) (fun f h => ⟨f, rfl, h⟩) (by decide) (by decide) (nI_clamp (by omega)) (vp_in_nI (by omega) (by decide)) trivial (fun _ _ _ h => h) (fun _ _ _ h => h) (fun σ7465 h7466 g7467 f7468 g7469 => ?_)
            refine m_iinc F (v := nI (i + 1)) (lv' := [(6, .int (nI (i + 1))), (7, .int x903), (0, .ref c), (1, .int x901), (2, .int x902), (3, .int x903), (4, .int x904), (5, .int x905)]) e_X10_feed_104 rfl (nI_add i 1) (by decide) rfl ?_
            refine m_goto F e_X10_feed_107 ?_
            refine Wm.lvsub (lv' := [(0, .ref c), (1, .int x901), (2, .int x902), (3, .int x903), (4, .int x904), (5, .int x905), (6, .int (nI (i + 1)))]) ?_ [2, 3, 4, 5, 6, 7, 0] rfl
            exact ih (i + 1) _ h7466 (by omega) (by omega)
        · have c41 : i < 8 := by have hh := mt (nI_leI (a := 8) (b := i) (by omega) (by omega)).mpr q41; omega
          refine m_iload_n F rfl e_X10_feed_44 ?_
          refine m_goto F e_X10_feed_45 ?_
          refine m_istore F (lv' := [(7, .int x902), (0, .ref c), (1, .int x901), (2, .int x902), (3, .int x903), (4, .int x904), (5, .int x905), (6, .int (nI i))]) e_X10_feed_73 (by decide) rfl ?_
          refine m_aload_n F rfl e_X10_feed_75 ?_
          refine r_get F e_X10_feed_76 fl_X10_7 h1 rfl (fun v hv f7470 => ?_)
          obtain rfl : v = .ref (c + 1) := hv
          refine m_aload_n F rfl e_X10_feed_79 ?_
          refine r_get F e_X10_feed_80 fl_X10_94 h1 rfl (fun v hv f7471 => ?_)
          obtain rfl : v = .int (nI (T)) := hv
          refine m_iload F rfl e_X10_feed_83 ?_
          refine m_iadd F e_X10_feed_85 ?_
          refine Wm.topE (w := nI (T + i)) (nI_add T i) ?_
          refine m_iload F rfl e_X10_feed_86 ?_
          refine m_bipush F (v := 24) (by decide) e_X10_feed_88 ?_
          refine m_bipush F (v := 8) (by decide) e_X10_feed_90 ?_
          refine m_iload F rfl e_X10_feed_92 ?_
          refine m_iconst F (v := 4) (by decide) e_X10_feed_94 ?_
          refine m_irem F (by decide) e_X10_feed_95 ?_
          refine Wm.topE (w := nI (i % 4)) (pk_rem (a := i) (d := 4) (by omega) (by decide) (by decide)) ?_
          refine m_imul F e_X10_feed_96 ?_
          refine Wm.topE (w := nI (8 * (i % 4))) (pk_mul 8 (i % 4)) ?_
          refine m_isub F e_X10_feed_97 ?_
          refine Wm.top (fun x7472 _ => ?_)
          refine m_ishr F e_X10_feed_98 ?_
          refine Wm.top (fun x7473 _ => ?_)
          refine m_sipush F (v := 255) (by decide) e_X10_feed_99 ?_
          refine m_iand F e_X10_feed_102 ?_
          refine Wm.top (fun x7474 _ => ?_)
          refine r_iast F (g' := (⟨T, Z, u, h, P, L⟩ : RG)) (len := 700) (j := T + i) e_X10_feed_103 h1 (fun _ h => h) (fun f h => ⟨f, rfl, h⟩) (by decide) (by decide) (nI_clamp (by omega)) (vp_in_nI (by omega) (by decide)) trivial (fun _ _ _ h => h) (fun _ _ _ h => h) (fun σ7475 h7476 g7477 f7478 g7479 => ?_)
          refine m_iinc F (v := nI (i + 1)) (lv' := [(6, .int (nI (i + 1))), (7, .int x902), (0, .ref c), (1, .int x901), (2, .int x902), (3, .int x903), (4, .int x904), (5, .int x905)]) e_X10_feed_104 rfl (nI_add i 1) (by decide) rfl ?_
          refine m_goto F e_X10_feed_107 ?_
          refine Wm.lvsub (lv' := [(0, .ref c), (1, .int x901), (2, .int x902), (3, .int x903), (4, .int x904), (5, .int x905), (6, .int (nI (i + 1)))]) ?_ [2, 3, 4, 5, 6, 7, 0] rfl
          exact ih (i + 1) _ h7476 (by omega) (by omega)
      · have c30 : i < 4 := by have hh := mt (nI_leI (a := 4) (b := i) (by omega) (by omega)).mpr q30; omega
        refine m_iload_n F rfl e_X10_feed_33 ?_
        refine m_goto F e_X10_feed_34 ?_
        refine m_istore F (lv' := [(7, .int x901), (0, .ref c), (1, .int x901), (2, .int x902), (3, .int x903), (4, .int x904), (5, .int x905), (6, .int (nI i))]) e_X10_feed_73 (by decide) rfl ?_
        refine m_aload_n F rfl e_X10_feed_75 ?_
        refine r_get F e_X10_feed_76 fl_X10_7 h1 rfl (fun v hv f7480 => ?_)
        obtain rfl : v = .ref (c + 1) := hv
        refine m_aload_n F rfl e_X10_feed_79 ?_
        refine r_get F e_X10_feed_80 fl_X10_94 h1 rfl (fun v hv f7481 => ?_)
        obtain rfl : v = .int (nI (T)) := hv
        refine m_iload F rfl e_X10_feed_83 ?_
        refine m_iadd F e_X10_feed_85 ?_
        refine Wm.topE (w := nI (T + i)) (nI_add T i) ?_
        refine m_iload F rfl e_X10_feed_86 ?_
        refine m_bipush F (v := 24) (by decide) e_X10_feed_88 ?_
        refine m_bipush F (v := 8) (by decide) e_X10_feed_90 ?_
        refine m_iload F rfl e_X10_feed_92 ?_
        refine m_iconst F (v := 4) (by decide) e_X10_feed_94 ?_
        refine m_irem F (by decide) e_X10_feed_95 ?_
        refine Wm.topE (w := nI (i % 4)) (pk_rem (a := i) (d := 4) (by omega) (by decide) (by decide)) ?_
        refine m_imul F e_X10_feed_96 ?_
        refine Wm.topE (w := nI (8 * (i % 4))) (pk_mul 8 (i % 4)) ?_
        refine m_isub F e_X10_feed_97 ?_
        refine Wm.top (fun x7482 _ => ?_)
        refine m_ishr F e_X10_feed_98 ?_
        refine Wm.top (fun x7483 _ => ?_)
        refine m_sipush F (v := 255) (by decide) e_X10_feed_99 ?_
        refine m_iand F e_X10_feed_102 ?_
        refine Wm.top (fun x7484 _ => ?_)
        refine r_iast F (g' := (⟨T, Z, u, h, P, L⟩ : RG)) (len := 700) (j := T + i) e_X10_feed_103 h1 (fun _ h => h) (fun f h => ⟨f, rfl, h⟩) (by decide) (by decide) (nI_clamp (by omega)) (vp_in_nI (by omega) (by decide)) trivial (fun _ _ _ h => h) (fun _ _ _ h => h) (fun σ7485 h7486 g7487 f7488 g7489 => ?_)
        refine m_iinc F (v := nI (i + 1)) (lv' := [(6, .int (nI (i + 1))), (7, .int x901), (0, .ref c), (1, .int x901), (2, .int x902), (3, .int x903), (4, .int x904), (5, .int x905)]) e_X10_feed_104 rfl (nI_add i 1) (by decide) rfl ?_
        refine m_goto F e_X10_feed_107 ?_
        refine Wm.lvsub (lv' := [(0, .ref c), (1, .int x901), (2, .int x902), (3, .int x903), (4, .int x904), (5, .int x905), (6, .int (nI (i + 1)))]) ?_ [2, 3, 4, 5, 6, 7, 0] rfl
        exact ih (i + 1) _ h7486 (by omega) (by omega)
set_option maxRecDepth 20000 in
theorem q_X10_feed (l : Launch) (V : VX) (c T Z u h : Nat) (P : NP) (L : Nat → LQ) (N : Nat) (σ : Mem) (x901 : Int32) (x902 : Int32) (x903 : Int32) (x904 : Int32) (x905 : Int32) (h0 : HR V c ⟨T, Z, u, h, P, L⟩ σ) (hob : OKB L) (hP : OKP P) (hp0 : T ≤ 700) : Ct l V yX10_feed cX10_feed 8 (some .int) 0 0 0 N σ [.ref c, .int x901, .int x902, .int x903, .int x904, .int x905] (fun r τ => (680 < T ∧ HS V c (⟨T, Z, u, h, P, L⟩ : RG) [0, 3, 4, 5, 6, 7, 8, 9, 10, 11, 12, 13, 14, 15, 16, 17, 18, 19, 20, 21, 22, 23] σ τ ∧ r = some (.int (-1))) ∨ (T ≤ 680 ∧ HS V c (⟨T + 20, Z, u, h, P, L⟩ : RG) [0, 3, 4, 5, 6, 7, 8, 9, 10, 11, 12, 13, 14, 15, 16, 17, 18, 19, 20, 21, 22, 23] σ τ ∧ r = some (.int (nI (T + 20))))) := by
  refine Ct.of (by decide) (Nat.le_of_ble_eq_true rfl) [(0, .ref c), (1, .int x901), (2, .int x902), (3, .int x903), (4, .int x904), (5, .int x905)] rfl (fun X hX F hQ => ?_)
  have hPP := hP
  unfold OKP at hPP
  have h1 : HS V c ⟨T, Z, u, h, P, L⟩ [0, 3, 4, 5, 6, 7, 8, 9, 10, 11, 12, 13, 14, 15, 16, 17, 18, 19, 20, 21, 22, 23] σ σ := HS.start h0
  refine m_aload_n F rfl e_X10_feed_0 ?_
  refine m_iconst F (v := 0) (by decide) e_X10_feed_1 ?_
  refine r_put F (g' := (⟨T, Z, u, h, P, L⟩ : RG)) e_X10_feed_2 fp_X10_91 h1 (by decide) ⟨_, rfl⟩ (fun _ _ _ _ q => q) (fun _ _ _ q => q) rfl rfl (by decide) (fun σ7490 h7491 g7492 g7493 f7494 => ?_)
  refine m_aload_n F rfl e_X10_feed_5 ?_
  refine r_get F e_X10_feed_6 fl_X10_94 h7491 rfl (fun v hv f7495 => ?_)
  obtain rfl : v = .int (nI (T)) := hv
  refine m_sipush F (v := 680) (by decide) e_X10_feed_9 ?_
  refine m_icmp_le F e_X10_feed_12 (fun q12 => ?_) (fun q12 => ?_)
  · have c12 : T ≤ 680 := (nI_leI (a := T) (b := 680) (by omega) (by omega)).mp q12
    refine m_iconst F (v := 0) (by decide) e_X10_feed_17 ?_
    refine m_istore F (lv' := [(6, .int 0), (0, .ref c), (1, .int x901), (2, .int x902), (3, .int x903), (4, .int x904), (5, .int x905)]) e_X10_feed_18 (by decide) rfl ?_
    refine Wm.lvsub (lv' := [(0, .ref c), (1, .int x901), (2, .int x902), (3, .int x903), (4, .int x904), (5, .int x905), (6, .int 0)]) ?_ [1, 2, 3, 4, 5, 6, 0] rfl
    exact lq_X10_feed_20 F hQ hob hP hp0 (20 - 0 + 1) 0 _ h7491 (by omega) (Nat.lt_succ_self _)
  · have c12 : T > 680 := by have hh := mt (nI_leI (a := T) (b := 680) (by omega) (by omega)).mpr q12; omega
    refine m_iconst F (v := (-1)) (by decide) e_X10_feed_15 ?_
    exact m_iret F hQ e_X10_feed_16 (Or.inl ⟨by omega, h7491, rfl⟩)
